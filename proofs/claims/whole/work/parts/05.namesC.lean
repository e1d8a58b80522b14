set_option maxRecDepth 20000 in
theorem ggX6_init_X6_begins : GoodIn wsX6_init wsX6_begins := goodIn_r _ [15, 5, 16, 17, 18, 19, 20, 21, 22, 23, 24, 25, 26, 27, 28] (by decide +kernel) (by decide +kernel)
set_option maxRecDepth 20000 in
theorem gX6_init_X6_begins : GoodIn wsX6_init (wsV RX6 28 RX6 yX6_begins wsX6_begins) := goodIn_app (goodIn_of _ (by decide +kernel)) ggX6_init_X6_begins
theorem dX6_init_0 : decode cX6_init 0 = .ok (.aload_n 0, 1) := by decide +kernel
theorem dX6_init_1 : decode cX6_init 1 = .ok (.invokespecial 1, 3) := by decide +kernel
theorem dX6_init_4 : decode cX6_init 4 = .ok (.aload_n 0, 1) := by decide +kernel
theorem dX6_init_5 : decode cX6_init 5 = .ok (.sipush 162, 3) := by decide +kernel
theorem dX6_init_8 : decode cX6_init 8 = .ok (.newarray .int, 2) := by decide +kernel
theorem dX6_init_10 : decode cX6_init 10 = .ok (.putfield 7, 3) := by decide +kernel
theorem dX6_init_13 : decode cX6_init 13 = .ok (.aload_n 0, 1) := by decide +kernel
theorem dX6_init_14 : decode cX6_init 14 = .ok (.sipush 162, 3) := by decide +kernel
theorem dX6_init_17 : decode cX6_init 17 = .ok (.newarray .int, 2) := by decide +kernel
theorem dX6_init_19 : decode cX6_init 19 = .ok (.putfield 13, 3) := by decide +kernel
theorem dX6_init_22 : decode cX6_init 22 = .ok (.aload_n 0, 1) := by decide +kernel
theorem dX6_init_23 : decode cX6_init 23 = .ok (.sipush 648, 3) := by decide +kernel
theorem dX6_init_26 : decode cX6_init 26 = .ok (.newarray .int, 2) := by decide +kernel
theorem dX6_init_28 : decode cX6_init 28 = .ok (.putfield 16, 3) := by decide +kernel
theorem dX6_init_31 : decode cX6_init 31 = .ok (.aload_n 0, 1) := by decide +kernel
theorem dX6_init_32 : decode cX6_init 32 = .ok (.bipush 60, 2) := by decide +kernel
theorem dX6_init_34 : decode cX6_init 34 = .ok (.newarray .int, 2) := by decide +kernel
theorem dX6_init_36 : decode cX6_init 36 = .ok (.putfield 19, 3) := by decide +kernel
theorem dX6_init_39 : decode cX6_init 39 = .ok (.aload_n 0, 1) := by decide +kernel
theorem dX6_init_40 : decode cX6_init 40 = .ok (.iconst 3, 1) := by decide +kernel
theorem dX6_init_41 : decode cX6_init 41 = .ok (.newarray .int, 2) := by decide +kernel
theorem dX6_init_43 : decode cX6_init 43 = .ok (.putfield 22, 3) := by decide +kernel
theorem dX6_init_46 : decode cX6_init 46 = .ok (.aload_n 0, 1) := by decide +kernel
theorem dX6_init_47 : decode cX6_init 47 = .ok (.iconst 3, 1) := by decide +kernel
theorem dX6_init_48 : decode cX6_init 48 = .ok (.newarray .int, 2) := by decide +kernel
theorem dX6_init_50 : decode cX6_init 50 = .ok (.putfield 25, 3) := by decide +kernel
theorem dX6_init_53 : decode cX6_init 53 = .ok (.aload_n 0, 1) := by decide +kernel
theorem dX6_init_54 : decode cX6_init 54 = .ok (.getfield 7, 3) := by decide +kernel
theorem dX6_init_57 : decode cX6_init 57 = .ok (.iconst 0, 1) := by decide +kernel
theorem dX6_init_58 : decode cX6_init 58 = .ok (.iconst 4, 1) := by decide +kernel
theorem dX6_init_59 : decode cX6_init 59 = .ok (.iastore, 1) := by decide +kernel
theorem dX6_init_60 : decode cX6_init 60 = .ok (.aload_n 0, 1) := by decide +kernel
theorem dX6_init_61 : decode cX6_init 61 = .ok (.getfield 7, 3) := by decide +kernel
theorem dX6_init_64 : decode cX6_init 64 = .ok (.iconst 5, 1) := by decide +kernel
theorem dX6_init_65 : decode cX6_init 65 = .ok (.sipush 20000, 3) := by decide +kernel
theorem dX6_init_68 : decode cX6_init 68 = .ok (.iastore, 1) := by decide +kernel
theorem dX6_init_69 : decode cX6_init 69 = .ok (.aload_n 0, 1) := by decide +kernel
theorem dX6_init_70 : decode cX6_init 70 = .ok (.getfield 7, 3) := by decide +kernel
theorem dX6_init_73 : decode cX6_init 73 = .ok (.bipush 7, 2) := by decide +kernel
theorem dX6_init_75 : decode cX6_init 75 = .ok (.sipush 1000, 3) := by decide +kernel
theorem dX6_init_78 : decode cX6_init 78 = .ok (.iastore, 1) := by decide +kernel
theorem dX6_init_79 : decode cX6_init 79 = .ok (.aload_n 0, 1) := by decide +kernel
theorem dX6_init_80 : decode cX6_init 80 = .ok (.getfield 7, 3) := by decide +kernel
theorem dX6_init_83 : decode cX6_init 83 = .ok (.bipush 8, 2) := by decide +kernel
theorem dX6_init_85 : decode cX6_init 85 = .ok (.sipush 4000, 3) := by decide +kernel
theorem dX6_init_88 : decode cX6_init 88 = .ok (.iastore, 1) := by decide +kernel
theorem dX6_init_89 : decode cX6_init 89 = .ok (.aload_n 0, 1) := by decide +kernel
theorem dX6_init_90 : decode cX6_init 90 = .ok (.getfield 7, 3) := by decide +kernel
theorem dX6_init_93 : decode cX6_init 93 = .ok (.bipush 9, 2) := by decide +kernel
theorem dX6_init_95 : decode cX6_init 95 = .ok (.sipush 9000, 3) := by decide +kernel
theorem dX6_init_98 : decode cX6_init 98 = .ok (.iastore, 1) := by decide +kernel
theorem dX6_init_99 : decode cX6_init 99 = .ok (.aload_n 0, 1) := by decide +kernel
theorem dX6_init_100 : decode cX6_init 100 = .ok (.invokevirtual 28, 3) := by decide +kernel
theorem dX6_init_103 : decode cX6_init 103 = .ok (.return_, 1) := by decide +kernel
theorem dX6_in_0 : decode cX6_in 0 = .ok (.iload_n 0, 1) := by decide +kernel
theorem dX6_in_1 : decode cX6_in 1 = .ok (.iload_n 1, 1) := by decide +kernel
theorem dX6_in_2 : decode cX6_in 2 = .ok (.if_icmp .lt 12, 3) := by decide +kernel
theorem dX6_in_5 : decode cX6_in 5 = .ok (.iload_n 0, 1) := by decide +kernel
theorem dX6_in_6 : decode cX6_in 6 = .ok (.iload_n 2, 1) := by decide +kernel
theorem dX6_in_7 : decode cX6_in 7 = .ok (.if_icmp .gt 7, 3) := by decide +kernel
theorem dX6_in_10 : decode cX6_in 10 = .ok (.iconst 1, 1) := by decide +kernel
theorem dX6_in_11 : decode cX6_in 11 = .ok (.goto 4, 3) := by decide +kernel
theorem dX6_in_14 : decode cX6_in 14 = .ok (.iconst 0, 1) := by decide +kernel
theorem dX6_in_15 : decode cX6_in 15 = .ok (.ireturn, 1) := by decide +kernel
theorem dX6_records_0 : decode cX6_records 0 = .ok (.aload_n 0, 1) := by decide +kernel
theorem dX6_records_1 : decode cX6_records 1 = .ok (.getfield 31, 3) := by decide +kernel
theorem dX6_records_4 : decode cX6_records 4 = .ok (.iconst 4, 1) := by decide +kernel
theorem dX6_records_5 : decode cX6_records 5 = .ok (.if_icmp .ne 44, 3) := by decide +kernel
theorem dX6_records_8 : decode cX6_records 8 = .ok (.iconst 0, 1) := by decide +kernel
theorem dX6_records_9 : decode cX6_records 9 = .ok (.istore_n 1, 1) := by decide +kernel
theorem dX6_records_10 : decode cX6_records 10 = .ok (.iload_n 1, 1) := by decide +kernel
theorem dX6_records_11 : decode cX6_records 11 = .ok (.sipush 486, 3) := by decide +kernel
theorem dX6_records_14 : decode cX6_records 14 = .ok (.if_icmp .ge 25, 3) := by decide +kernel
theorem dX6_records_17 : decode cX6_records 17 = .ok (.aload_n 0, 1) := by decide +kernel
theorem dX6_records_18 : decode cX6_records 18 = .ok (.getfield 16, 3) := by decide +kernel
theorem dX6_records_21 : decode cX6_records 21 = .ok (.iload_n 1, 1) := by decide +kernel
theorem dX6_records_22 : decode cX6_records 22 = .ok (.aload_n 0, 1) := by decide +kernel
theorem dX6_records_23 : decode cX6_records 23 = .ok (.getfield 16, 3) := by decide +kernel
theorem dX6_records_26 : decode cX6_records 26 = .ok (.iload_n 1, 1) := by decide +kernel
theorem dX6_records_27 : decode cX6_records 27 = .ok (.sipush 162, 3) := by decide +kernel
theorem dX6_records_30 : decode cX6_records 30 = .ok (.iadd, 1) := by decide +kernel
theorem dX6_records_31 : decode cX6_records 31 = .ok (.iaload, 1) := by decide +kernel
theorem dX6_records_32 : decode cX6_records 32 = .ok (.iastore, 1) := by decide +kernel
theorem dX6_records_33 : decode cX6_records 33 = .ok (.iinc 1 1, 3) := by decide +kernel
theorem dX6_records_36 : decode cX6_records 36 = .ok (.goto (-26), 3) := by decide +kernel
theorem dX6_records_39 : decode cX6_records 39 = .ok (.aload_n 0, 1) := by decide +kernel
theorem dX6_records_40 : decode cX6_records 40 = .ok (.dup, 1) := by decide +kernel
theorem dX6_records_41 : decode cX6_records 41 = .ok (.getfield 31, 3) := by decide +kernel
theorem dX6_records_44 : decode cX6_records 44 = .ok (.iconst 1, 1) := by decide +kernel
theorem dX6_records_45 : decode cX6_records 45 = .ok (.isub, 1) := by decide +kernel
theorem dX6_records_46 : decode cX6_records 46 = .ok (.putfield 31, 3) := by decide +kernel
theorem dX6_records_49 : decode cX6_records 49 = .ok (.iconst 0, 1) := by decide +kernel
theorem dX6_records_50 : decode cX6_records 50 = .ok (.istore_n 1, 1) := by decide +kernel
theorem dX6_records_51 : decode cX6_records 51 = .ok (.iload_n 1, 1) := by decide +kernel
theorem dX6_records_52 : decode cX6_records 52 = .ok (.sipush 162, 3) := by decide +kernel
theorem dX6_records_55 : decode cX6_records 55 = .ok (.if_icmp .ge 30, 3) := by decide +kernel
theorem dX6_records_58 : decode cX6_records 58 = .ok (.aload_n 0, 1) := by decide +kernel
theorem dX6_records_59 : decode cX6_records 59 = .ok (.getfield 16, 3) := by decide +kernel
theorem dX6_records_62 : decode cX6_records 62 = .ok (.sipush 162, 3) := by decide +kernel
theorem dX6_records_65 : decode cX6_records 65 = .ok (.aload_n 0, 1) := by decide +kernel
theorem dX6_records_66 : decode cX6_records 66 = .ok (.getfield 31, 3) := by decide +kernel
theorem dX6_records_69 : decode cX6_records 69 = .ok (.imul, 1) := by decide +kernel
theorem dX6_records_70 : decode cX6_records 70 = .ok (.iload_n 1, 1) := by decide +kernel
theorem dX6_records_71 : decode cX6_records 71 = .ok (.iadd, 1) := by decide +kernel
theorem dX6_records_72 : decode cX6_records 72 = .ok (.aload_n 0, 1) := by decide +kernel
theorem dX6_records_73 : decode cX6_records 73 = .ok (.getfield 7, 3) := by decide +kernel
theorem dX6_records_76 : decode cX6_records 76 = .ok (.iload_n 1, 1) := by decide +kernel
theorem dX6_records_77 : decode cX6_records 77 = .ok (.iaload, 1) := by decide +kernel
theorem dX6_records_78 : decode cX6_records 78 = .ok (.iastore, 1) := by decide +kernel
theorem dX6_records_79 : decode cX6_records 79 = .ok (.iinc 1 1, 3) := by decide +kernel
theorem dX6_records_82 : decode cX6_records 82 = .ok (.goto (-31), 3) := by decide +kernel
theorem dX6_records_85 : decode cX6_records 85 = .ok (.aload_n 0, 1) := by decide +kernel
theorem dX6_records_86 : decode cX6_records 86 = .ok (.dup, 1) := by decide +kernel
theorem dX6_records_87 : decode cX6_records 87 = .ok (.getfield 31, 3) := by decide +kernel
theorem dX6_records_90 : decode cX6_records 90 = .ok (.iconst 1, 1) := by decide +kernel
theorem dX6_records_91 : decode cX6_records 91 = .ok (.iadd, 1) := by decide +kernel
theorem dX6_records_92 : decode cX6_records 92 = .ok (.putfield 31, 3) := by decide +kernel
theorem dX6_records_95 : decode cX6_records 95 = .ok (.return_, 1) := by decide +kernel
theorem dX6_undo_0 : decode cX6_undo 0 = .ok (.aload_n 0, 1) := by decide +kernel
theorem dX6_undo_1 : decode cX6_undo 1 = .ok (.getfield 31, 3) := by decide +kernel
theorem dX6_undo_4 : decode cX6_undo 4 = .ok (.ifCond .ne 6, 3) := by decide +kernel
theorem dX6_undo_7 : decode cX6_undo 7 = .ok (.ldc 35, 2) := by decide +kernel
theorem dX6_undo_9 : decode cX6_undo 9 = .ok (.ireturn, 1) := by decide +kernel
theorem dX6_undo_10 : decode cX6_undo 10 = .ok (.aload_n 0, 1) := by decide +kernel
theorem dX6_undo_11 : decode cX6_undo 11 = .ok (.dup, 1) := by decide +kernel
theorem dX6_undo_12 : decode cX6_undo 12 = .ok (.getfield 31, 3) := by decide +kernel
theorem dX6_undo_15 : decode cX6_undo 15 = .ok (.iconst 1, 1) := by decide +kernel
theorem dX6_undo_16 : decode cX6_undo 16 = .ok (.isub, 1) := by decide +kernel
theorem dX6_undo_17 : decode cX6_undo 17 = .ok (.putfield 31, 3) := by decide +kernel
theorem dX6_undo_20 : decode cX6_undo 20 = .ok (.iconst 0, 1) := by decide +kernel
theorem dX6_undo_21 : decode cX6_undo 21 = .ok (.istore_n 1, 1) := by decide +kernel
theorem dX6_undo_22 : decode cX6_undo 22 = .ok (.iload_n 1, 1) := by decide +kernel
theorem dX6_undo_23 : decode cX6_undo 23 = .ok (.sipush 162, 3) := by decide +kernel
theorem dX6_undo_26 : decode cX6_undo 26 = .ok (.if_icmp .ge 30, 3) := by decide +kernel
theorem dX6_undo_29 : decode cX6_undo 29 = .ok (.aload_n 0, 1) := by decide +kernel
theorem dX6_undo_30 : decode cX6_undo 30 = .ok (.getfield 7, 3) := by decide +kernel
theorem dX6_undo_33 : decode cX6_undo 33 = .ok (.iload_n 1, 1) := by decide +kernel
theorem dX6_undo_34 : decode cX6_undo 34 = .ok (.aload_n 0, 1) := by decide +kernel
theorem dX6_undo_35 : decode cX6_undo 35 = .ok (.getfield 16, 3) := by decide +kernel
theorem dX6_undo_38 : decode cX6_undo 38 = .ok (.sipush 162, 3) := by decide +kernel
theorem dX6_undo_41 : decode cX6_undo 41 = .ok (.aload_n 0, 1) := by decide +kernel
theorem dX6_undo_42 : decode cX6_undo 42 = .ok (.getfield 31, 3) := by decide +kernel
theorem dX6_undo_45 : decode cX6_undo 45 = .ok (.imul, 1) := by decide +kernel
theorem dX6_undo_46 : decode cX6_undo 46 = .ok (.iload_n 1, 1) := by decide +kernel
theorem dX6_undo_47 : decode cX6_undo 47 = .ok (.iadd, 1) := by decide +kernel
theorem dX6_undo_48 : decode cX6_undo 48 = .ok (.iaload, 1) := by decide +kernel
theorem dX6_undo_49 : decode cX6_undo 49 = .ok (.iastore, 1) := by decide +kernel
theorem dX6_undo_50 : decode cX6_undo 50 = .ok (.iinc 1 1, 3) := by decide +kernel
theorem dX6_undo_53 : decode cX6_undo 53 = .ok (.goto (-31), 3) := by decide +kernel
theorem dX6_undo_56 : decode cX6_undo 56 = .ok (.aload_n 0, 1) := by decide +kernel
theorem dX6_undo_57 : decode cX6_undo 57 = .ok (.getfield 31, 3) := by decide +kernel
theorem dX6_undo_60 : decode cX6_undo 60 = .ok (.ireturn, 1) := by decide +kernel
theorem dX6_staying_0 : decode cX6_staying 0 = .ok (.aload_n 0, 1) := by decide +kernel
theorem dX6_staying_1 : decode cX6_staying 1 = .ok (.bipush 10, 2) := by decide +kernel
theorem dX6_staying_3 : decode cX6_staying 3 = .ok (.iload_n 1, 1) := by decide +kernel
theorem dX6_staying_4 : decode cX6_staying 4 = .ok (.iadd, 1) := by decide +kernel
theorem dX6_staying_5 : decode cX6_staying 5 = .ok (.iaload, 1) := by decide +kernel
theorem dX6_staying_6 : decode cX6_staying 6 = .ok (.aload_n 0, 1) := by decide +kernel
theorem dX6_staying_7 : decode cX6_staying 7 = .ok (.bipush 20, 2) := by decide +kernel
theorem dX6_staying_9 : decode cX6_staying 9 = .ok (.iload_n 1, 1) := by decide +kernel
theorem dX6_staying_10 : decode cX6_staying 10 = .ok (.iadd, 1) := by decide +kernel
theorem dX6_staying_11 : decode cX6_staying 11 = .ok (.iaload, 1) := by decide +kernel
theorem dX6_staying_12 : decode cX6_staying 12 = .ok (.imul, 1) := by decide +kernel
theorem dX6_staying_13 : decode cX6_staying 13 = .ok (.sipush 1000, 3) := by decide +kernel
theorem dX6_staying_16 : decode cX6_staying 16 = .ok (.idiv, 1) := by decide +kernel
theorem dX6_staying_17 : decode cX6_staying 17 = .ok (.ireturn, 1) := by decide +kernel
set_option maxRecDepth 20000 in
theorem ggX6_leaking_X6_staying : GoodIn wsX6_leaking wsX6_staying := goodIn_r _ [4] (by decide +kernel) (by decide +kernel)
set_option maxRecDepth 20000 in
theorem gX6_leaking_X6_staying : GoodIn wsX6_leaking (va_wsS RX6 36 yX6_staying wsX6_staying) := goodIn_app (goodIn_of _ (by decide +kernel)) ggX6_leaking_X6_staying
theorem dX6_leaking_0 : decode cX6_leaking 0 = .ok (.aload_n 0, 1) := by decide +kernel
theorem dX6_leaking_1 : decode cX6_leaking 1 = .ok (.bipush 10, 2) := by decide +kernel
theorem dX6_leaking_3 : decode cX6_leaking 3 = .ok (.iload_n 1, 1) := by decide +kernel
theorem dX6_leaking_4 : decode cX6_leaking 4 = .ok (.iadd, 1) := by decide +kernel
theorem dX6_leaking_5 : decode cX6_leaking 5 = .ok (.iaload, 1) := by decide +kernel
theorem dX6_leaking_6 : decode cX6_leaking 6 = .ok (.aload_n 0, 1) := by decide +kernel
theorem dX6_leaking_7 : decode cX6_leaking 7 = .ok (.iload_n 1, 1) := by decide +kernel
theorem dX6_leaking_8 : decode cX6_leaking 8 = .ok (.invokestatic 36, 3) := by decide +kernel
theorem dX6_leaking_11 : decode cX6_leaking 11 = .ok (.isub, 1) := by decide +kernel
theorem dX6_leaking_12 : decode cX6_leaking 12 = .ok (.aload_n 0, 1) := by decide +kernel
theorem dX6_leaking_13 : decode cX6_leaking 13 = .ok (.bipush 30, 2) := by decide +kernel
theorem dX6_leaking_15 : decode cX6_leaking 15 = .ok (.iload_n 1, 1) := by decide +kernel
theorem dX6_leaking_16 : decode cX6_leaking 16 = .ok (.iadd, 1) := by decide +kernel
theorem dX6_leaking_17 : decode cX6_leaking 17 = .ok (.iaload, 1) := by decide +kernel
theorem dX6_leaking_18 : decode cX6_leaking 18 = .ok (.imul, 1) := by decide +kernel
theorem dX6_leaking_19 : decode cX6_leaking 19 = .ok (.sipush 1000, 3) := by decide +kernel
theorem dX6_leaking_22 : decode cX6_leaking 22 = .ok (.idiv, 1) := by decide +kernel
theorem dX6_leaking_23 : decode cX6_leaking 23 = .ok (.ireturn, 1) := by decide +kernel
set_option maxRecDepth 20000 in
theorem ggX6_moving_X6_staying : GoodIn wsX6_moving wsX6_staying := goodIn_r _ [4] (by decide +kernel) (by decide +kernel)
set_option maxRecDepth 20000 in
theorem gX6_moving_X6_staying : GoodIn wsX6_moving (va_wsS RX6 36 yX6_staying wsX6_staying) := goodIn_app (goodIn_of _ (by decide +kernel)) ggX6_moving_X6_staying
set_option maxRecDepth 20000 in
theorem ggX6_moving_X6_leaking : GoodIn wsX6_moving wsX6_leaking := goodIn_r _ [7, 1, 2, 3, 4] (by decide +kernel) (by decide +kernel)
set_option maxRecDepth 20000 in
theorem gX6_moving_X6_leaking : GoodIn wsX6_moving (va_wsS RX6 40 yX6_leaking wsX6_leaking) := goodIn_app (goodIn_of _ (by decide +kernel)) ggX6_moving_X6_leaking
theorem dX6_moving_0 : decode cX6_moving 0 = .ok (.aload_n 0, 1) := by decide +kernel
theorem dX6_moving_1 : decode cX6_moving 1 = .ok (.bipush 10, 2) := by decide +kernel
theorem dX6_moving_3 : decode cX6_moving 3 = .ok (.iload_n 1, 1) := by decide +kernel
theorem dX6_moving_4 : decode cX6_moving 4 = .ok (.iadd, 1) := by decide +kernel
theorem dX6_moving_5 : decode cX6_moving 5 = .ok (.iaload, 1) := by decide +kernel
theorem dX6_moving_6 : decode cX6_moving 6 = .ok (.aload_n 0, 1) := by decide +kernel
theorem dX6_moving_7 : decode cX6_moving 7 = .ok (.iload_n 1, 1) := by decide +kernel
theorem dX6_moving_8 : decode cX6_moving 8 = .ok (.invokestatic 36, 3) := by decide +kernel
theorem dX6_moving_11 : decode cX6_moving 11 = .ok (.isub, 1) := by decide +kernel
theorem dX6_moving_12 : decode cX6_moving 12 = .ok (.aload_n 0, 1) := by decide +kernel
theorem dX6_moving_13 : decode cX6_moving 13 = .ok (.iload_n 1, 1) := by decide +kernel
theorem dX6_moving_14 : decode cX6_moving 14 = .ok (.invokestatic 40, 3) := by decide +kernel
theorem dX6_moving_17 : decode cX6_moving 17 = .ok (.isub, 1) := by decide +kernel
theorem dX6_moving_18 : decode cX6_moving 18 = .ok (.ireturn, 1) := by decide +kernel
set_option maxRecDepth 20000 in
theorem ggX6_handsOver_X6_staying : GoodIn wsX6_handsOver wsX6_staying := goodIn_r _ [4] (by decide +kernel) (by decide +kernel)
set_option maxRecDepth 20000 in
theorem gX6_handsOver_X6_staying : GoodIn wsX6_handsOver (va_wsS RX6 36 yX6_staying wsX6_staying) := goodIn_app (goodIn_of _ (by decide +kernel)) ggX6_handsOver_X6_staying
set_option maxRecDepth 20000 in
theorem ggX6_handsOver_X6_moving : GoodIn wsX6_handsOver wsX6_moving := goodIn_r _ [7, 1, 2, 3, 4, 8, 9, 10] (by decide +kernel) (by decide +kernel)
set_option maxRecDepth 20000 in
theorem gX6_handsOver_X6_moving : GoodIn wsX6_handsOver (va_wsS RX6 43 yX6_moving wsX6_moving) := goodIn_app (goodIn_of _ (by decide +kernel)) ggX6_handsOver_X6_moving
set_option maxRecDepth 20000 in
theorem ggX6_handsOver_X6_leaking : GoodIn wsX6_handsOver wsX6_leaking := goodIn_r _ [10, 1, 2, 3, 4] (by decide +kernel) (by decide +kernel)
set_option maxRecDepth 20000 in
theorem gX6_handsOver_X6_leaking : GoodIn wsX6_handsOver (va_wsS RX6 40 yX6_leaking wsX6_leaking) := goodIn_app (goodIn_of _ (by decide +kernel)) ggX6_handsOver_X6_leaking
theorem dX6_handsOver_0 : decode cX6_handsOver 0 = .ok (.iload_n 1, 1) := by decide +kernel
theorem dX6_handsOver_1 : decode cX6_handsOver 1 = .ok (.istore_n 2, 1) := by decide +kernel
theorem dX6_handsOver_2 : decode cX6_handsOver 2 = .ok (.iconst 0, 1) := by decide +kernel
theorem dX6_handsOver_3 : decode cX6_handsOver 3 = .ok (.istore_n 3, 1) := by decide +kernel
theorem dX6_handsOver_4 : decode cX6_handsOver 4 = .ok (.iload_n 3, 1) := by decide +kernel
theorem dX6_handsOver_5 : decode cX6_handsOver 5 = .ok (.aload_n 0, 1) := by decide +kernel
theorem dX6_handsOver_6 : decode cX6_handsOver 6 = .ok (.iconst 0, 1) := by decide +kernel
theorem dX6_handsOver_7 : decode cX6_handsOver 7 = .ok (.iaload, 1) := by decide +kernel
theorem dX6_handsOver_8 : decode cX6_handsOver 8 = .ok (.if_icmp .ge 84, 3) := by decide +kernel
theorem dX6_handsOver_11 : decode cX6_handsOver 11 = .ok (.aload_n 0, 1) := by decide +kernel
theorem dX6_handsOver_12 : decode cX6_handsOver 12 = .ok (.iload_n 3, 1) := by decide +kernel
theorem dX6_handsOver_13 : decode cX6_handsOver 13 = .ok (.invokestatic 36, 3) := by decide +kernel
theorem dX6_handsOver_16 : decode cX6_handsOver 16 = .ok (.istore 4, 2) := by decide +kernel
theorem dX6_handsOver_18 : decode cX6_handsOver 18 = .ok (.aload_n 0, 1) := by decide +kernel
theorem dX6_handsOver_19 : decode cX6_handsOver 19 = .ok (.iload_n 3, 1) := by decide +kernel
theorem dX6_handsOver_20 : decode cX6_handsOver 20 = .ok (.invokestatic 43, 3) := by decide +kernel
theorem dX6_handsOver_23 : decode cX6_handsOver 23 = .ok (.istore 5, 2) := by decide +kernel
theorem dX6_handsOver_25 : decode cX6_handsOver 25 = .ok (.aload_n 0, 1) := by decide +kernel
theorem dX6_handsOver_26 : decode cX6_handsOver 26 = .ok (.bipush 48, 2) := by decide +kernel
theorem dX6_handsOver_28 : decode cX6_handsOver 28 = .ok (.dup2, 1) := by decide +kernel
theorem dX6_handsOver_29 : decode cX6_handsOver 29 = .ok (.iaload, 1) := by decide +kernel
theorem dX6_handsOver_30 : decode cX6_handsOver 30 = .ok (.aload_n 0, 1) := by decide +kernel
theorem dX6_handsOver_31 : decode cX6_handsOver 31 = .ok (.iload_n 3, 1) := by decide +kernel
theorem dX6_handsOver_32 : decode cX6_handsOver 32 = .ok (.invokestatic 40, 3) := by decide +kernel
theorem dX6_handsOver_35 : decode cX6_handsOver 35 = .ok (.iadd, 1) := by decide +kernel
theorem dX6_handsOver_36 : decode cX6_handsOver 36 = .ok (.iastore, 1) := by decide +kernel
theorem dX6_handsOver_37 : decode cX6_handsOver 37 = .ok (.iload 4, 2) := by decide +kernel
theorem dX6_handsOver_39 : decode cX6_handsOver 39 = .ok (.iload_n 2, 1) := by decide +kernel
theorem dX6_handsOver_40 : decode cX6_handsOver 40 = .ok (.iadd, 1) := by decide +kernel
theorem dX6_handsOver_41 : decode cX6_handsOver 41 = .ok (.istore 6, 2) := by decide +kernel
theorem dX6_handsOver_43 : decode cX6_handsOver 43 = .ok (.iload 6, 2) := by decide +kernel
theorem dX6_handsOver_45 : decode cX6_handsOver 45 = .ok (.aload_n 0, 1) := by decide +kernel
theorem dX6_handsOver_46 : decode cX6_handsOver 46 = .ok (.iconst 5, 1) := by decide +kernel
theorem dX6_handsOver_47 : decode cX6_handsOver 47 = .ok (.iaload, 1) := by decide +kernel
theorem dX6_handsOver_48 : decode cX6_handsOver 48 = .ok (.if_icmp .le 12, 3) := by decide +kernel
theorem dX6_handsOver_51 : decode cX6_handsOver 51 = .ok (.iload 6, 2) := by decide +kernel
theorem dX6_handsOver_53 : decode cX6_handsOver 53 = .ok (.aload_n 0, 1) := by decide +kernel
theorem dX6_handsOver_54 : decode cX6_handsOver 54 = .ok (.iconst 5, 1) := by decide +kernel
theorem dX6_handsOver_55 : decode cX6_handsOver 55 = .ok (.iaload, 1) := by decide +kernel
theorem dX6_handsOver_56 : decode cX6_handsOver 56 = .ok (.isub, 1) := by decide +kernel
theorem dX6_handsOver_57 : decode cX6_handsOver 57 = .ok (.goto 4, 3) := by decide +kernel
theorem dX6_handsOver_60 : decode cX6_handsOver 60 = .ok (.iconst 0, 1) := by decide +kernel
theorem dX6_handsOver_61 : decode cX6_handsOver 61 = .ok (.istore 7, 2) := by decide +kernel
theorem dX6_handsOver_63 : decode cX6_handsOver 63 = .ok (.aload_n 0, 1) := by decide +kernel
theorem dX6_handsOver_64 : decode cX6_handsOver 64 = .ok (.bipush 49, 2) := by decide +kernel
theorem dX6_handsOver_66 : decode cX6_handsOver 66 = .ok (.dup2, 1) := by decide +kernel
theorem dX6_handsOver_67 : decode cX6_handsOver 67 = .ok (.iaload, 1) := by decide +kernel
theorem dX6_handsOver_68 : decode cX6_handsOver 68 = .ok (.iload 7, 2) := by decide +kernel
theorem dX6_handsOver_70 : decode cX6_handsOver 70 = .ok (.iadd, 1) := by decide +kernel
theorem dX6_handsOver_71 : decode cX6_handsOver 71 = .ok (.iastore, 1) := by decide +kernel
theorem dX6_handsOver_72 : decode cX6_handsOver 72 = .ok (.aload_n 0, 1) := by decide +kernel
theorem dX6_handsOver_73 : decode cX6_handsOver 73 = .ok (.bipush 10, 2) := by decide +kernel
theorem dX6_handsOver_75 : decode cX6_handsOver 75 = .ok (.iload_n 3, 1) := by decide +kernel
theorem dX6_handsOver_76 : decode cX6_handsOver 76 = .ok (.iadd, 1) := by decide +kernel
theorem dX6_handsOver_77 : decode cX6_handsOver 77 = .ok (.iload 6, 2) := by decide +kernel
theorem dX6_handsOver_79 : decode cX6_handsOver 79 = .ok (.iload 7, 2) := by decide +kernel
theorem dX6_handsOver_81 : decode cX6_handsOver 81 = .ok (.isub, 1) := by decide +kernel
theorem dX6_handsOver_82 : decode cX6_handsOver 82 = .ok (.iastore, 1) := by decide +kernel
theorem dX6_handsOver_83 : decode cX6_handsOver 83 = .ok (.iload 5, 2) := by decide +kernel
theorem dX6_handsOver_85 : decode cX6_handsOver 85 = .ok (.istore_n 2, 1) := by decide +kernel
theorem dX6_handsOver_86 : decode cX6_handsOver 86 = .ok (.iinc 3 1, 3) := by decide +kernel
theorem dX6_handsOver_89 : decode cX6_handsOver 89 = .ok (.goto (-85), 3) := by decide +kernel
theorem dX6_handsOver_92 : decode cX6_handsOver 92 = .ok (.aload_n 0, 1) := by decide +kernel
theorem dX6_handsOver_93 : decode cX6_handsOver 93 = .ok (.bipush 46, 2) := by decide +kernel
theorem dX6_handsOver_95 : decode cX6_handsOver 95 = .ok (.dup2, 1) := by decide +kernel
theorem dX6_handsOver_96 : decode cX6_handsOver 96 = .ok (.iaload, 1) := by decide +kernel
theorem dX6_handsOver_97 : decode cX6_handsOver 97 = .ok (.iload_n 1, 1) := by decide +kernel
theorem dX6_handsOver_98 : decode cX6_handsOver 98 = .ok (.iadd, 1) := by decide +kernel
theorem dX6_handsOver_99 : decode cX6_handsOver 99 = .ok (.iastore, 1) := by decide +kernel
theorem dX6_handsOver_100 : decode cX6_handsOver 100 = .ok (.aload_n 0, 1) := by decide +kernel
theorem dX6_handsOver_101 : decode cX6_handsOver 101 = .ok (.bipush 47, 2) := by decide +kernel
theorem dX6_handsOver_103 : decode cX6_handsOver 103 = .ok (.dup2, 1) := by decide +kernel
theorem dX6_handsOver_104 : decode cX6_handsOver 104 = .ok (.iaload, 1) := by decide +kernel
theorem dX6_handsOver_105 : decode cX6_handsOver 105 = .ok (.iload_n 2, 1) := by decide +kernel
theorem dX6_handsOver_106 : decode cX6_handsOver 106 = .ok (.iadd, 1) := by decide +kernel
theorem dX6_handsOver_107 : decode cX6_handsOver 107 = .ok (.iastore, 1) := by decide +kernel
theorem dX6_handsOver_108 : decode cX6_handsOver 108 = .ok (.iload_n 2, 1) := by decide +kernel
theorem dX6_handsOver_109 : decode cX6_handsOver 109 = .ok (.ireturn, 1) := by decide +kernel
theorem dX6_begins_0 : decode cX6_begins 0 = .ok (.iconst 0, 1) := by decide +kernel
theorem dX6_begins_1 : decode cX6_begins 1 = .ok (.istore_n 1, 1) := by decide +kernel
theorem dX6_begins_2 : decode cX6_begins 2 = .ok (.iload_n 1, 1) := by decide +kernel
theorem dX6_begins_3 : decode cX6_begins 3 = .ok (.aload_n 0, 1) := by decide +kernel
theorem dX6_begins_4 : decode cX6_begins 4 = .ok (.getfield 7, 3) := by decide +kernel
theorem dX6_begins_7 : decode cX6_begins 7 = .ok (.iconst 0, 1) := by decide +kernel
theorem dX6_begins_8 : decode cX6_begins 8 = .ok (.iaload, 1) := by decide +kernel
theorem dX6_begins_9 : decode cX6_begins 9 = .ok (.if_icmp .ge 19, 3) := by decide +kernel
theorem dX6_begins_12 : decode cX6_begins 12 = .ok (.aload_n 0, 1) := by decide +kernel
theorem dX6_begins_13 : decode cX6_begins 13 = .ok (.getfield 7, 3) := by decide +kernel
theorem dX6_begins_16 : decode cX6_begins 16 = .ok (.bipush 10, 2) := by decide +kernel
theorem dX6_begins_18 : decode cX6_begins 18 = .ok (.iload_n 1, 1) := by decide +kernel
theorem dX6_begins_19 : decode cX6_begins 19 = .ok (.iadd, 1) := by decide +kernel
theorem dX6_begins_20 : decode cX6_begins 20 = .ok (.iconst 0, 1) := by decide +kernel
theorem dX6_begins_21 : decode cX6_begins 21 = .ok (.iastore, 1) := by decide +kernel
theorem dX6_begins_22 : decode cX6_begins 22 = .ok (.iinc 1 1, 3) := by decide +kernel
theorem dX6_begins_25 : decode cX6_begins 25 = .ok (.goto (-23), 3) := by decide +kernel
theorem dX6_begins_28 : decode cX6_begins 28 = .ok (.aload_n 0, 1) := by decide +kernel
theorem dX6_begins_29 : decode cX6_begins 29 = .ok (.getfield 7, 3) := by decide +kernel
theorem dX6_begins_32 : decode cX6_begins 32 = .ok (.iconst 1, 1) := by decide +kernel
theorem dX6_begins_33 : decode cX6_begins 33 = .ok (.iconst 0, 1) := by decide +kernel
theorem dX6_begins_34 : decode cX6_begins 34 = .ok (.iastore, 1) := by decide +kernel
theorem dX6_begins_35 : decode cX6_begins 35 = .ok (.aload_n 0, 1) := by decide +kernel
theorem dX6_begins_36 : decode cX6_begins 36 = .ok (.getfield 7, 3) := by decide +kernel
theorem dX6_begins_39 : decode cX6_begins 39 = .ok (.iconst 2, 1) := by decide +kernel
theorem dX6_begins_40 : decode cX6_begins 40 = .ok (.iconst 0, 1) := by decide +kernel
theorem dX6_begins_41 : decode cX6_begins 41 = .ok (.iastore, 1) := by decide +kernel
theorem dX6_begins_42 : decode cX6_begins 42 = .ok (.aload_n 0, 1) := by decide +kernel
theorem dX6_begins_43 : decode cX6_begins 43 = .ok (.getfield 7, 3) := by decide +kernel
theorem dX6_begins_46 : decode cX6_begins 46 = .ok (.iconst 3, 1) := by decide +kernel
theorem dX6_begins_47 : decode cX6_begins 47 = .ok (.iconst 0, 1) := by decide +kernel
theorem dX6_begins_48 : decode cX6_begins 48 = .ok (.iastore, 1) := by decide +kernel
theorem dX6_begins_49 : decode cX6_begins 49 = .ok (.aload_n 0, 1) := by decide +kernel
theorem dX6_begins_50 : decode cX6_begins 50 = .ok (.getfield 7, 3) := by decide +kernel
theorem dX6_begins_53 : decode cX6_begins 53 = .ok (.iconst 4, 1) := by decide +kernel
theorem dX6_begins_54 : decode cX6_begins 54 = .ok (.iconst 0, 1) := by decide +kernel
theorem dX6_begins_55 : decode cX6_begins 55 = .ok (.iastore, 1) := by decide +kernel
theorem dX6_begins_56 : decode cX6_begins 56 = .ok (.iconst 0, 1) := by decide +kernel
theorem dX6_begins_57 : decode cX6_begins 57 = .ok (.istore_n 1, 1) := by decide +kernel
theorem dX6_begins_58 : decode cX6_begins 58 = .ok (.iload_n 1, 1) := by decide +kernel
theorem dX6_begins_59 : decode cX6_begins 59 = .ok (.iconst 3, 1) := by decide +kernel
theorem dX6_begins_60 : decode cX6_begins 60 = .ok (.if_icmp .ge 19, 3) := by decide +kernel
theorem dX6_begins_63 : decode cX6_begins 63 = .ok (.aload_n 0, 1) := by decide +kernel
theorem dX6_begins_64 : decode cX6_begins 64 = .ok (.getfield 7, 3) := by decide +kernel
theorem dX6_begins_67 : decode cX6_begins 67 = .ok (.bipush 40, 2) := by decide +kernel
theorem dX6_begins_69 : decode cX6_begins 69 = .ok (.iload_n 1, 1) := by decide +kernel
theorem dX6_begins_70 : decode cX6_begins 70 = .ok (.iadd, 1) := by decide +kernel
theorem dX6_begins_71 : decode cX6_begins 71 = .ok (.iconst (-1), 1) := by decide +kernel
theorem dX6_begins_72 : decode cX6_begins 72 = .ok (.iastore, 1) := by decide +kernel
theorem dX6_begins_73 : decode cX6_begins 73 = .ok (.iinc 1 1, 3) := by decide +kernel
theorem dX6_begins_76 : decode cX6_begins 76 = .ok (.goto (-18), 3) := by decide +kernel
theorem dX6_begins_79 : decode cX6_begins 79 = .ok (.bipush 46, 2) := by decide +kernel
theorem dX6_begins_81 : decode cX6_begins 81 = .ok (.istore_n 1, 1) := by decide +kernel
theorem dX6_begins_82 : decode cX6_begins 82 = .ok (.iload_n 1, 1) := by decide +kernel
theorem dX6_begins_83 : decode cX6_begins 83 = .ok (.bipush 49, 2) := by decide +kernel
theorem dX6_begins_85 : decode cX6_begins 85 = .ok (.if_icmp .gt 16, 3) := by decide +kernel
theorem dX6_begins_88 : decode cX6_begins 88 = .ok (.aload_n 0, 1) := by decide +kernel
theorem dX6_begins_89 : decode cX6_begins 89 = .ok (.getfield 7, 3) := by decide +kernel
theorem dX6_begins_92 : decode cX6_begins 92 = .ok (.iload_n 1, 1) := by decide +kernel
theorem dX6_begins_93 : decode cX6_begins 93 = .ok (.iconst 0, 1) := by decide +kernel
theorem dX6_begins_94 : decode cX6_begins 94 = .ok (.iastore, 1) := by decide +kernel
theorem dX6_begins_95 : decode cX6_begins 95 = .ok (.iinc 1 1, 3) := by decide +kernel
theorem dX6_begins_98 : decode cX6_begins 98 = .ok (.goto (-16), 3) := by decide +kernel
theorem dX6_begins_101 : decode cX6_begins 101 = .ok (.return_, 1) := by decide +kernel
set_option maxRecDepth 20000 in
theorem ggX6_comes_X6_mends : GoodIn wsX6_comes wsX6_mends := goodIn_r _ [6, 7, 8, 1, 9, 10, 11, 12, 13, 5, 14, 15, 16, 17, 18, 19, 20, 21, 22, 23, 24, 25, 26, 27, 28, 29, 30, 31, 32, 33, 34, 35, 36, 37, 38, 39, 40, 41, 42] (by decide +kernel) (by decide +kernel)
set_option maxRecDepth 20000 in
theorem gX6_comes_X6_mends : GoodIn wsX6_comes (wsV RX6 46 RX6 yX6_mends wsX6_mends) := goodIn_app (goodIn_of _ (by decide +kernel)) ggX6_comes_X6_mends
theorem dX6_comes_0 : decode cX6_comes 0 = .ok (.iload_n 3, 1) := by decide +kernel
theorem dX6_comes_1 : decode cX6_comes 1 = .ok (.ifCond .lt 24, 3) := by decide +kernel
theorem dX6_comes_4 : decode cX6_comes 4 = .ok (.aload_n 0, 1) := by decide +kernel
theorem dX6_comes_5 : decode cX6_comes 5 = .ok (.getfield 7, 3) := by decide +kernel
theorem dX6_comes_8 : decode cX6_comes 8 = .ok (.bipush 40, 2) := by decide +kernel
theorem dX6_comes_10 : decode cX6_comes 10 = .ok (.iload_n 3, 1) := by decide +kernel
theorem dX6_comes_11 : decode cX6_comes 11 = .ok (.iadd, 1) := by decide +kernel
theorem dX6_comes_12 : decode cX6_comes 12 = .ok (.iload 4, 2) := by decide +kernel
theorem dX6_comes_14 : decode cX6_comes 14 = .ok (.iastore, 1) := by decide +kernel
theorem dX6_comes_15 : decode cX6_comes 15 = .ok (.aload_n 0, 1) := by decide +kernel
theorem dX6_comes_16 : decode cX6_comes 16 = .ok (.getfield 7, 3) := by decide +kernel
theorem dX6_comes_19 : decode cX6_comes 19 = .ok (.bipush 43, 2) := by decide +kernel
theorem dX6_comes_21 : decode cX6_comes 21 = .ok (.iload_n 3, 1) := by decide +kernel
theorem dX6_comes_22 : decode cX6_comes 22 = .ok (.iadd, 1) := by decide +kernel
theorem dX6_comes_23 : decode cX6_comes 23 = .ok (.iload_n 2, 1) := by decide +kernel
theorem dX6_comes_24 : decode cX6_comes 24 = .ok (.iastore, 1) := by decide +kernel
theorem dX6_comes_25 : decode cX6_comes 25 = .ok (.aload_n 0, 1) := by decide +kernel
theorem dX6_comes_26 : decode cX6_comes 26 = .ok (.getfield 7, 3) := by decide +kernel
theorem dX6_comes_29 : decode cX6_comes 29 = .ok (.iconst 4, 1) := by decide +kernel
theorem dX6_comes_30 : decode cX6_comes 30 = .ok (.iaload, 1) := by decide +kernel
theorem dX6_comes_31 : decode cX6_comes 31 = .ok (.bipush 16, 2) := by decide +kernel
theorem dX6_comes_33 : decode cX6_comes 33 = .ok (.if_icmp .ne 47, 3) := by decide +kernel
theorem dX6_comes_36 : decode cX6_comes 36 = .ok (.bipush 82, 2) := by decide +kernel
theorem dX6_comes_38 : decode cX6_comes 38 = .ok (.istore 5, 2) := by decide +kernel
theorem dX6_comes_40 : decode cX6_comes 40 = .ok (.iload 5, 2) := by decide +kernel
theorem dX6_comes_42 : decode cX6_comes 42 = .ok (.sipush 157, 3) := by decide +kernel
theorem dX6_comes_45 : decode cX6_comes 45 = .ok (.if_icmp .ge 25, 3) := by decide +kernel
theorem dX6_comes_48 : decode cX6_comes 48 = .ok (.aload_n 0, 1) := by decide +kernel
theorem dX6_comes_49 : decode cX6_comes 49 = .ok (.getfield 7, 3) := by decide +kernel
theorem dX6_comes_52 : decode cX6_comes 52 = .ok (.iload 5, 2) := by decide +kernel
theorem dX6_comes_54 : decode cX6_comes 54 = .ok (.aload_n 0, 1) := by decide +kernel
theorem dX6_comes_55 : decode cX6_comes 55 = .ok (.getfield 7, 3) := by decide +kernel
theorem dX6_comes_58 : decode cX6_comes 58 = .ok (.iload 5, 2) := by decide +kernel
theorem dX6_comes_60 : decode cX6_comes 60 = .ok (.iconst 5, 1) := by decide +kernel
theorem dX6_comes_61 : decode cX6_comes 61 = .ok (.iadd, 1) := by decide +kernel
theorem dX6_comes_62 : decode cX6_comes 62 = .ok (.iaload, 1) := by decide +kernel
theorem dX6_comes_63 : decode cX6_comes 63 = .ok (.iastore, 1) := by decide +kernel
theorem dX6_comes_64 : decode cX6_comes 64 = .ok (.iinc 5 1, 3) := by decide +kernel
theorem dX6_comes_67 : decode cX6_comes 67 = .ok (.goto (-27), 3) := by decide +kernel
theorem dX6_comes_70 : decode cX6_comes 70 = .ok (.aload_n 0, 1) := by decide +kernel
theorem dX6_comes_71 : decode cX6_comes 71 = .ok (.getfield 7, 3) := by decide +kernel
theorem dX6_comes_74 : decode cX6_comes 74 = .ok (.iconst 4, 1) := by decide +kernel
theorem dX6_comes_75 : decode cX6_comes 75 = .ok (.dup2, 1) := by decide +kernel
theorem dX6_comes_76 : decode cX6_comes 76 = .ok (.iaload, 1) := by decide +kernel
theorem dX6_comes_77 : decode cX6_comes 77 = .ok (.iconst 1, 1) := by decide +kernel
theorem dX6_comes_78 : decode cX6_comes 78 = .ok (.isub, 1) := by decide +kernel
theorem dX6_comes_79 : decode cX6_comes 79 = .ok (.iastore, 1) := by decide +kernel
theorem dX6_comes_80 : decode cX6_comes 80 = .ok (.bipush 82, 2) := by decide +kernel
theorem dX6_comes_82 : decode cX6_comes 82 = .ok (.iconst 5, 1) := by decide +kernel
theorem dX6_comes_83 : decode cX6_comes 83 = .ok (.aload_n 0, 1) := by decide +kernel
theorem dX6_comes_84 : decode cX6_comes 84 = .ok (.getfield 7, 3) := by decide +kernel
theorem dX6_comes_87 : decode cX6_comes 87 = .ok (.iconst 4, 1) := by decide +kernel
theorem dX6_comes_88 : decode cX6_comes 88 = .ok (.iaload, 1) := by decide +kernel
theorem dX6_comes_89 : decode cX6_comes 89 = .ok (.imul, 1) := by decide +kernel
theorem dX6_comes_90 : decode cX6_comes 90 = .ok (.iadd, 1) := by decide +kernel
theorem dX6_comes_91 : decode cX6_comes 91 = .ok (.istore 5, 2) := by decide +kernel
theorem dX6_comes_93 : decode cX6_comes 93 = .ok (.aload_n 0, 1) := by decide +kernel
theorem dX6_comes_94 : decode cX6_comes 94 = .ok (.getfield 7, 3) := by decide +kernel
theorem dX6_comes_97 : decode cX6_comes 97 = .ok (.iload 5, 2) := by decide +kernel
theorem dX6_comes_99 : decode cX6_comes 99 = .ok (.iconst 0, 1) := by decide +kernel
theorem dX6_comes_100 : decode cX6_comes 100 = .ok (.iadd, 1) := by decide +kernel
theorem dX6_comes_101 : decode cX6_comes 101 = .ok (.iload_n 1, 1) := by decide +kernel
theorem dX6_comes_102 : decode cX6_comes 102 = .ok (.iastore, 1) := by decide +kernel
theorem dX6_comes_103 : decode cX6_comes 103 = .ok (.aload_n 0, 1) := by decide +kernel
theorem dX6_comes_104 : decode cX6_comes 104 = .ok (.getfield 7, 3) := by decide +kernel
theorem dX6_comes_107 : decode cX6_comes 107 = .ok (.iload 5, 2) := by decide +kernel
theorem dX6_comes_109 : decode cX6_comes 109 = .ok (.iconst 1, 1) := by decide +kernel
theorem dX6_comes_110 : decode cX6_comes 110 = .ok (.iadd, 1) := by decide +kernel
theorem dX6_comes_111 : decode cX6_comes 111 = .ok (.iload_n 2, 1) := by decide +kernel
theorem dX6_comes_112 : decode cX6_comes 112 = .ok (.iastore, 1) := by decide +kernel
theorem dX6_comes_113 : decode cX6_comes 113 = .ok (.aload_n 0, 1) := by decide +kernel
theorem dX6_comes_114 : decode cX6_comes 114 = .ok (.getfield 7, 3) := by decide +kernel
theorem dX6_comes_117 : decode cX6_comes 117 = .ok (.iload 5, 2) := by decide +kernel
theorem dX6_comes_119 : decode cX6_comes 119 = .ok (.iconst 2, 1) := by decide +kernel
theorem dX6_comes_120 : decode cX6_comes 120 = .ok (.iadd, 1) := by decide +kernel
theorem dX6_comes_121 : decode cX6_comes 121 = .ok (.iload 4, 2) := by decide +kernel
theorem dX6_comes_123 : decode cX6_comes 123 = .ok (.iastore, 1) := by decide +kernel
theorem dX6_comes_124 : decode cX6_comes 124 = .ok (.aload_n 0, 1) := by decide +kernel
theorem dX6_comes_125 : decode cX6_comes 125 = .ok (.getfield 7, 3) := by decide +kernel
theorem dX6_comes_128 : decode cX6_comes 128 = .ok (.iload 5, 2) := by decide +kernel
theorem dX6_comes_130 : decode cX6_comes 130 = .ok (.iconst 3, 1) := by decide +kernel
theorem dX6_comes_131 : decode cX6_comes 131 = .ok (.iadd, 1) := by decide +kernel
theorem dX6_comes_132 : decode cX6_comes 132 = .ok (.aload_n 0, 1) := by decide +kernel
theorem dX6_comes_133 : decode cX6_comes 133 = .ok (.iload 4, 2) := by decide +kernel
theorem dX6_comes_135 : decode cX6_comes 135 = .ok (.invokevirtual 46, 3) := by decide +kernel
theorem dX6_comes_138 : decode cX6_comes 138 = .ok (.iastore, 1) := by decide +kernel
theorem dX6_comes_139 : decode cX6_comes 139 = .ok (.aload_n 0, 1) := by decide +kernel
theorem dX6_comes_140 : decode cX6_comes 140 = .ok (.getfield 7, 3) := by decide +kernel
theorem dX6_comes_143 : decode cX6_comes 143 = .ok (.iload 5, 2) := by decide +kernel
theorem dX6_comes_145 : decode cX6_comes 145 = .ok (.iconst 4, 1) := by decide +kernel
theorem dX6_comes_146 : decode cX6_comes 146 = .ok (.iadd, 1) := by decide +kernel
theorem dX6_comes_147 : decode cX6_comes 147 = .ok (.iload_n 3, 1) := by decide +kernel
theorem dX6_comes_148 : decode cX6_comes 148 = .ok (.ifCond .lt 7, 3) := by decide +kernel
theorem dX6_comes_151 : decode cX6_comes 151 = .ok (.iconst 1, 1) := by decide +kernel
theorem dX6_comes_152 : decode cX6_comes 152 = .ok (.goto 4, 3) := by decide +kernel
theorem dX6_comes_155 : decode cX6_comes 155 = .ok (.iconst 0, 1) := by decide +kernel
theorem dX6_comes_156 : decode cX6_comes 156 = .ok (.iastore, 1) := by decide +kernel
theorem dX6_comes_157 : decode cX6_comes 157 = .ok (.aload_n 0, 1) := by decide +kernel
theorem dX6_comes_158 : decode cX6_comes 158 = .ok (.getfield 7, 3) := by decide +kernel
theorem dX6_comes_161 : decode cX6_comes 161 = .ok (.iconst 4, 1) := by decide +kernel
theorem dX6_comes_162 : decode cX6_comes 162 = .ok (.dup2, 1) := by decide +kernel
theorem dX6_comes_163 : decode cX6_comes 163 = .ok (.iaload, 1) := by decide +kernel
theorem dX6_comes_164 : decode cX6_comes 164 = .ok (.iconst 1, 1) := by decide +kernel
theorem dX6_comes_165 : decode cX6_comes 165 = .ok (.iadd, 1) := by decide +kernel
theorem dX6_comes_166 : decode cX6_comes 166 = .ok (.iastore, 1) := by decide +kernel
theorem dX6_comes_167 : decode cX6_comes 167 = .ok (.return_, 1) := by decide +kernel
set_option maxRecDepth 20000 in
theorem ggX6_passes_X6_handsOver : GoodIn wsX6_passes wsX6_handsOver := goodIn_r _ [5, 6, 7, 4, 8, 9, 10, 11, 12, 13, 14] (by decide +kernel) (by decide +kernel)
set_option maxRecDepth 20000 in
theorem gX6_passes_X6_handsOver : GoodIn wsX6_passes (va_wsS RX6 50 yX6_handsOver wsX6_handsOver) := goodIn_app (goodIn_of _ (by decide +kernel)) ggX6_passes_X6_handsOver
set_option maxRecDepth 20000 in
theorem ggX6_passes_X6_comes : GoodIn wsX6_passes wsX6_comes := goodIn_r _ [18, 1, 19, 20, 21, 4, 22, 23, 24, 25, 26, 27, 28, 29, 30, 31, 32, 33, 34, 35, 36, 37, 38, 39, 40, 41, 42, 43, 44, 45, 46, 47, 48, 49, 50, 51, 52, 53, 54, 55, 56, 57, 58] (by decide +kernel) (by decide +kernel)
set_option maxRecDepth 20000 in
theorem gX6_passes_X6_comes : GoodIn wsX6_passes (wsV RX6 53 RX6 yX6_comes wsX6_comes) := goodIn_app (goodIn_of _ (by decide +kernel)) ggX6_passes_X6_comes
theorem dX6_passes_0 : decode cX6_passes 0 = .ok (.aload_n 0, 1) := by decide +kernel
theorem dX6_passes_1 : decode cX6_passes 1 = .ok (.getfield 7, 3) := by decide +kernel
theorem dX6_passes_4 : decode cX6_passes 4 = .ok (.iconst 1, 1) := by decide +kernel
theorem dX6_passes_5 : decode cX6_passes 5 = .ok (.iaload, 1) := by decide +kernel
theorem dX6_passes_6 : decode cX6_passes 6 = .ok (.istore_n 3, 1) := by decide +kernel
theorem dX6_passes_7 : decode cX6_passes 7 = .ok (.aload_n 0, 1) := by decide +kernel
theorem dX6_passes_8 : decode cX6_passes 8 = .ok (.getfield 7, 3) := by decide +kernel
theorem dX6_passes_11 : decode cX6_passes 11 = .ok (.bipush 50, 2) := by decide +kernel
theorem dX6_passes_13 : decode cX6_passes 13 = .ok (.iload_n 3, 1) := by decide +kernel
theorem dX6_passes_14 : decode cX6_passes 14 = .ok (.bipush 16, 2) := by decide +kernel
theorem dX6_passes_16 : decode cX6_passes 16 = .ok (.irem, 1) := by decide +kernel
theorem dX6_passes_17 : decode cX6_passes 17 = .ok (.iadd, 1) := by decide +kernel
theorem dX6_passes_18 : decode cX6_passes 18 = .ok (.iload_n 1, 1) := by decide +kernel
theorem dX6_passes_19 : decode cX6_passes 19 = .ok (.iastore, 1) := by decide +kernel
theorem dX6_passes_20 : decode cX6_passes 20 = .ok (.aload_n 0, 1) := by decide +kernel
theorem dX6_passes_21 : decode cX6_passes 21 = .ok (.getfield 7, 3) := by decide +kernel
theorem dX6_passes_24 : decode cX6_passes 24 = .ok (.bipush 66, 2) := by decide +kernel
theorem dX6_passes_26 : decode cX6_passes 26 = .ok (.iload_n 3, 1) := by decide +kernel
theorem dX6_passes_27 : decode cX6_passes 27 = .ok (.bipush 16, 2) := by decide +kernel
theorem dX6_passes_29 : decode cX6_passes 29 = .ok (.irem, 1) := by decide +kernel
theorem dX6_passes_30 : decode cX6_passes 30 = .ok (.iadd, 1) := by decide +kernel
theorem dX6_passes_31 : decode cX6_passes 31 = .ok (.iload_n 2, 1) := by decide +kernel
theorem dX6_passes_32 : decode cX6_passes 32 = .ok (.iastore, 1) := by decide +kernel
theorem dX6_passes_33 : decode cX6_passes 33 = .ok (.aload_n 0, 1) := by decide +kernel
theorem dX6_passes_34 : decode cX6_passes 34 = .ok (.getfield 7, 3) := by decide +kernel
theorem dX6_passes_37 : decode cX6_passes 37 = .ok (.iload_n 1, 1) := by decide +kernel
theorem dX6_passes_38 : decode cX6_passes 38 = .ok (.invokestatic 50, 3) := by decide +kernel
theorem dX6_passes_41 : decode cX6_passes 41 = .ok (.istore 4, 2) := by decide +kernel
theorem dX6_passes_43 : decode cX6_passes 43 = .ok (.aload_n 0, 1) := by decide +kernel
theorem dX6_passes_44 : decode cX6_passes 44 = .ok (.getfield 7, 3) := by decide +kernel
theorem dX6_passes_47 : decode cX6_passes 47 = .ok (.iconst 1, 1) := by decide +kernel
theorem dX6_passes_48 : decode cX6_passes 48 = .ok (.dup2, 1) := by decide +kernel
theorem dX6_passes_49 : decode cX6_passes 49 = .ok (.iaload, 1) := by decide +kernel
theorem dX6_passes_50 : decode cX6_passes 50 = .ok (.iconst 1, 1) := by decide +kernel
theorem dX6_passes_51 : decode cX6_passes 51 = .ok (.iadd, 1) := by decide +kernel
theorem dX6_passes_52 : decode cX6_passes 52 = .ok (.iastore, 1) := by decide +kernel
theorem dX6_passes_53 : decode cX6_passes 53 = .ok (.iload_n 3, 1) := by decide +kernel
theorem dX6_passes_54 : decode cX6_passes 54 = .ok (.aload_n 0, 1) := by decide +kernel
theorem dX6_passes_55 : decode cX6_passes 55 = .ok (.getfield 7, 3) := by decide +kernel
theorem dX6_passes_58 : decode cX6_passes 58 = .ok (.iconst 0, 1) := by decide +kernel
theorem dX6_passes_59 : decode cX6_passes 59 = .ok (.iaload, 1) := by decide +kernel
theorem dX6_passes_60 : decode cX6_passes 60 = .ok (.isub, 1) := by decide +kernel
theorem dX6_passes_61 : decode cX6_passes 61 = .ok (.istore 5, 2) := by decide +kernel
theorem dX6_passes_63 : decode cX6_passes 63 = .ok (.iload 5, 2) := by decide +kernel
theorem dX6_passes_65 : decode cX6_passes 65 = .ok (.ifCond .lt 36, 3) := by decide +kernel
theorem dX6_passes_68 : decode cX6_passes 68 = .ok (.aload_n 0, 1) := by decide +kernel
theorem dX6_passes_69 : decode cX6_passes 69 = .ok (.iload_n 3, 1) := by decide +kernel
theorem dX6_passes_70 : decode cX6_passes 70 = .ok (.aload_n 0, 1) := by decide +kernel
theorem dX6_passes_71 : decode cX6_passes 71 = .ok (.getfield 7, 3) := by decide +kernel
theorem dX6_passes_74 : decode cX6_passes 74 = .ok (.bipush 50, 2) := by decide +kernel
theorem dX6_passes_76 : decode cX6_passes 76 = .ok (.iload 5, 2) := by decide +kernel
theorem dX6_passes_78 : decode cX6_passes 78 = .ok (.bipush 16, 2) := by decide +kernel
theorem dX6_passes_80 : decode cX6_passes 80 = .ok (.irem, 1) := by decide +kernel
theorem dX6_passes_81 : decode cX6_passes 81 = .ok (.iadd, 1) := by decide +kernel
theorem dX6_passes_82 : decode cX6_passes 82 = .ok (.iaload, 1) := by decide +kernel
theorem dX6_passes_83 : decode cX6_passes 83 = .ok (.aload_n 0, 1) := by decide +kernel
theorem dX6_passes_84 : decode cX6_passes 84 = .ok (.getfield 7, 3) := by decide +kernel
theorem dX6_passes_87 : decode cX6_passes 87 = .ok (.bipush 66, 2) := by decide +kernel
theorem dX6_passes_89 : decode cX6_passes 89 = .ok (.iload 5, 2) := by decide +kernel
theorem dX6_passes_91 : decode cX6_passes 91 = .ok (.bipush 16, 2) := by decide +kernel
theorem dX6_passes_93 : decode cX6_passes 93 = .ok (.irem, 1) := by decide +kernel
theorem dX6_passes_94 : decode cX6_passes 94 = .ok (.iadd, 1) := by decide +kernel
theorem dX6_passes_95 : decode cX6_passes 95 = .ok (.iaload, 1) := by decide +kernel
theorem dX6_passes_96 : decode cX6_passes 96 = .ok (.iload 4, 2) := by decide +kernel
theorem dX6_passes_98 : decode cX6_passes 98 = .ok (.invokevirtual 53, 3) := by decide +kernel
theorem dX6_passes_101 : decode cX6_passes 101 = .ok (.return_, 1) := by decide +kernel
theorem dX6_isDue_0 : decode cX6_isDue 0 = .ok (.aload_n 0, 1) := by decide +kernel
theorem dX6_isDue_1 : decode cX6_isDue 1 = .ok (.getfield 7, 3) := by decide +kernel
theorem dX6_isDue_4 : decode cX6_isDue 4 = .ok (.bipush 6, 2) := by decide +kernel
theorem dX6_isDue_6 : decode cX6_isDue 6 = .ok (.iaload, 1) := by decide +kernel
theorem dX6_isDue_7 : decode cX6_isDue 7 = .ok (.ifCond .le 19, 3) := by decide +kernel
theorem dX6_isDue_10 : decode cX6_isDue 10 = .ok (.iload_n 1, 1) := by decide +kernel
theorem dX6_isDue_11 : decode cX6_isDue 11 = .ok (.aload_n 0, 1) := by decide +kernel
theorem dX6_isDue_12 : decode cX6_isDue 12 = .ok (.getfield 7, 3) := by decide +kernel
theorem dX6_isDue_15 : decode cX6_isDue 15 = .ok (.bipush 6, 2) := by decide +kernel
theorem dX6_isDue_17 : decode cX6_isDue 17 = .ok (.iaload, 1) := by decide +kernel
theorem dX6_isDue_18 : decode cX6_isDue 18 = .ok (.irem, 1) := by decide +kernel
theorem dX6_isDue_19 : decode cX6_isDue 19 = .ok (.ifCond .ne 7, 3) := by decide +kernel
theorem dX6_isDue_22 : decode cX6_isDue 22 = .ok (.iconst 1, 1) := by decide +kernel
theorem dX6_isDue_23 : decode cX6_isDue 23 = .ok (.goto 4, 3) := by decide +kernel
theorem dX6_isDue_26 : decode cX6_isDue 26 = .ok (.iconst 0, 1) := by decide +kernel
theorem dX6_isDue_27 : decode cX6_isDue 27 = .ok (.ireturn, 1) := by decide +kernel
set_option maxRecDepth 20000 in
theorem ggX6_gives_X6_isDue : GoodIn wsX6_gives wsX6_isDue := goodIn_r _ [6, 1, 54, 55, 56, 57, 58, 59, 60, 61, 62, 63, 64, 65, 66] (by decide +kernel) (by decide +kernel)
set_option maxRecDepth 20000 in
theorem gX6_gives_X6_isDue : GoodIn wsX6_gives (wsV RX6 57 RX6 yX6_isDue wsX6_isDue) := goodIn_app (goodIn_of _ (by decide +kernel)) ggX6_gives_X6_isDue
set_option maxRecDepth 20000 in
theorem ggX6_gives_X6_passes : GoodIn wsX6_gives wsX6_passes := goodIn_r _ [10, 1, 11, 12, 5, 13, 14, 15, 16, 17, 18, 19, 20, 21, 22, 23, 24, 25, 26, 27, 28, 29, 30, 31, 32, 33, 34, 35, 36, 37, 38, 39, 40, 41, 42, 43, 44, 45, 46, 47, 48, 49, 50, 51, 52, 53, 54, 55, 56, 57, 58, 59, 60, 61, 62, 63, 64, 65, 66] (by decide +kernel) (by decide +kernel)
set_option maxRecDepth 20000 in
theorem gX6_gives_X6_passes : GoodIn wsX6_gives (wsV RX6 61 RX6 yX6_passes wsX6_passes) := goodIn_app (goodIn_of _ (by decide +kernel)) ggX6_gives_X6_passes
theorem dX6_gives_0 : decode cX6_gives 0 = .ok (.aload_n 0, 1) := by decide +kernel
theorem dX6_gives_1 : decode cX6_gives 1 = .ok (.aload_n 0, 1) := by decide +kernel
theorem dX6_gives_2 : decode cX6_gives 2 = .ok (.getfield 7, 3) := by decide +kernel
theorem dX6_gives_5 : decode cX6_gives 5 = .ok (.iconst 1, 1) := by decide +kernel
theorem dX6_gives_6 : decode cX6_gives 6 = .ok (.iaload, 1) := by decide +kernel
theorem dX6_gives_7 : decode cX6_gives 7 = .ok (.invokevirtual 57, 3) := by decide +kernel
theorem dX6_gives_10 : decode cX6_gives 10 = .ok (.ifCond .eq 45, 3) := by decide +kernel
theorem dX6_gives_13 : decode cX6_gives 13 = .ok (.aload_n 0, 1) := by decide +kernel
theorem dX6_gives_14 : decode cX6_gives 14 = .ok (.getfield 7, 3) := by decide +kernel
theorem dX6_gives_17 : decode cX6_gives 17 = .ok (.iconst 2, 1) := by decide +kernel
theorem dX6_gives_18 : decode cX6_gives 18 = .ok (.iaload, 1) := by decide +kernel
theorem dX6_gives_19 : decode cX6_gives 19 = .ok (.istore_n 2, 1) := by decide +kernel
theorem dX6_gives_20 : decode cX6_gives 20 = .ok (.aload_n 0, 1) := by decide +kernel
theorem dX6_gives_21 : decode cX6_gives 21 = .ok (.getfield 7, 3) := by decide +kernel
theorem dX6_gives_24 : decode cX6_gives 24 = .ok (.iconst 2, 1) := by decide +kernel
theorem dX6_gives_25 : decode cX6_gives 25 = .ok (.iload_n 2, 1) := by decide +kernel
theorem dX6_gives_26 : decode cX6_gives 26 = .ok (.iconst 1, 1) := by decide +kernel
theorem dX6_gives_27 : decode cX6_gives 27 = .ok (.iadd, 1) := by decide +kernel
theorem dX6_gives_28 : decode cX6_gives 28 = .ok (.iconst 3, 1) := by decide +kernel
theorem dX6_gives_29 : decode cX6_gives 29 = .ok (.irem, 1) := by decide +kernel
theorem dX6_gives_30 : decode cX6_gives 30 = .ok (.iastore, 1) := by decide +kernel
theorem dX6_gives_31 : decode cX6_gives 31 = .ok (.aload_n 0, 1) := by decide +kernel
theorem dX6_gives_32 : decode cX6_gives 32 = .ok (.getfield 7, 3) := by decide +kernel
theorem dX6_gives_35 : decode cX6_gives 35 = .ok (.iconst 3, 1) := by decide +kernel
theorem dX6_gives_36 : decode cX6_gives 36 = .ok (.dup2, 1) := by decide +kernel
theorem dX6_gives_37 : decode cX6_gives 37 = .ok (.iaload, 1) := by decide +kernel
theorem dX6_gives_38 : decode cX6_gives 38 = .ok (.iconst 1, 1) := by decide +kernel
theorem dX6_gives_39 : decode cX6_gives 39 = .ok (.iadd, 1) := by decide +kernel
theorem dX6_gives_40 : decode cX6_gives 40 = .ok (.iastore, 1) := by decide +kernel
theorem dX6_gives_41 : decode cX6_gives 41 = .ok (.aload_n 0, 1) := by decide +kernel
theorem dX6_gives_42 : decode cX6_gives 42 = .ok (.aload_n 0, 1) := by decide +kernel
theorem dX6_gives_43 : decode cX6_gives 43 = .ok (.getfield 7, 3) := by decide +kernel
theorem dX6_gives_46 : decode cX6_gives 46 = .ok (.bipush 7, 2) := by decide +kernel
theorem dX6_gives_48 : decode cX6_gives 48 = .ok (.iload_n 2, 1) := by decide +kernel
theorem dX6_gives_49 : decode cX6_gives 49 = .ok (.iadd, 1) := by decide +kernel
theorem dX6_gives_50 : decode cX6_gives 50 = .ok (.iaload, 1) := by decide +kernel
theorem dX6_gives_51 : decode cX6_gives 51 = .ok (.iload_n 2, 1) := by decide +kernel
theorem dX6_gives_52 : decode cX6_gives 52 = .ok (.invokevirtual 61, 3) := by decide +kernel
theorem dX6_gives_55 : decode cX6_gives 55 = .ok (.aload_n 0, 1) := by decide +kernel
theorem dX6_gives_56 : decode cX6_gives 56 = .ok (.iload_n 1, 1) := by decide +kernel
theorem dX6_gives_57 : decode cX6_gives 57 = .ok (.iconst (-1), 1) := by decide +kernel
theorem dX6_gives_58 : decode cX6_gives 58 = .ok (.invokevirtual 61, 3) := by decide +kernel
theorem dX6_gives_61 : decode cX6_gives 61 = .ok (.return_, 1) := by decide +kernel
set_option maxRecDepth 20000 in
theorem ggX6_handedBehind_X6_isDue : GoodIn wsX6_handedBehind wsX6_isDue := goodIn_r _ [6, 1, 7, 8, 9, 10, 11, 12, 13, 14, 15, 16, 17, 18, 19] (by decide +kernel) (by decide +kernel)
set_option maxRecDepth 20000 in
theorem gX6_handedBehind_X6_isDue : GoodIn wsX6_handedBehind (wsV RX6 57 RX6 yX6_isDue wsX6_isDue) := goodIn_app (goodIn_of _ (by decide +kernel)) ggX6_handedBehind_X6_isDue
theorem dX6_handedBehind_0 : decode cX6_handedBehind 0 = .ok (.aload_n 0, 1) := by decide +kernel
theorem dX6_handedBehind_1 : decode cX6_handedBehind 1 = .ok (.getfield 7, 3) := by decide +kernel
theorem dX6_handedBehind_4 : decode cX6_handedBehind 4 = .ok (.iconst 1, 1) := by decide +kernel
theorem dX6_handedBehind_5 : decode cX6_handedBehind 5 = .ok (.iaload, 1) := by decide +kernel
theorem dX6_handedBehind_6 : decode cX6_handedBehind 6 = .ok (.istore_n 2, 1) := by decide +kernel
theorem dX6_handedBehind_7 : decode cX6_handedBehind 7 = .ok (.iconst 0, 1) := by decide +kernel
theorem dX6_handedBehind_8 : decode cX6_handedBehind 8 = .ok (.istore_n 3, 1) := by decide +kernel
theorem dX6_handedBehind_9 : decode cX6_handedBehind 9 = .ok (.iload_n 3, 1) := by decide +kernel
theorem dX6_handedBehind_10 : decode cX6_handedBehind 10 = .ok (.iload_n 1, 1) := by decide +kernel
theorem dX6_handedBehind_11 : decode cX6_handedBehind 11 = .ok (.if_icmp .ge 25, 3) := by decide +kernel
theorem dX6_handedBehind_14 : decode cX6_handedBehind 14 = .ok (.iload_n 2, 1) := by decide +kernel
theorem dX6_handedBehind_15 : decode cX6_handedBehind 15 = .ok (.aload_n 0, 1) := by decide +kernel
theorem dX6_handedBehind_16 : decode cX6_handedBehind 16 = .ok (.iload_n 2, 1) := by decide +kernel
theorem dX6_handedBehind_17 : decode cX6_handedBehind 17 = .ok (.invokevirtual 57, 3) := by decide +kernel
theorem dX6_handedBehind_20 : decode cX6_handedBehind 20 = .ok (.ifCond .eq 7, 3) := by decide +kernel
theorem dX6_handedBehind_23 : decode cX6_handedBehind 23 = .ok (.iconst 2, 1) := by decide +kernel
theorem dX6_handedBehind_24 : decode cX6_handedBehind 24 = .ok (.goto 4, 3) := by decide +kernel
theorem dX6_handedBehind_27 : decode cX6_handedBehind 27 = .ok (.iconst 1, 1) := by decide +kernel
theorem dX6_handedBehind_28 : decode cX6_handedBehind 28 = .ok (.iadd, 1) := by decide +kernel
theorem dX6_handedBehind_29 : decode cX6_handedBehind 29 = .ok (.istore_n 2, 1) := by decide +kernel
theorem dX6_handedBehind_30 : decode cX6_handedBehind 30 = .ok (.iinc 3 1, 3) := by decide +kernel
theorem dX6_handedBehind_33 : decode cX6_handedBehind 33 = .ok (.goto (-24), 3) := by decide +kernel
theorem dX6_handedBehind_36 : decode cX6_handedBehind 36 = .ok (.iload_n 2, 1) := by decide +kernel
theorem dX6_handedBehind_37 : decode cX6_handedBehind 37 = .ok (.ireturn, 1) := by decide +kernel
set_option maxRecDepth 20000 in
theorem ggX6_isStage_X6_in : GoodIn wsX6_isStage wsX6_in := goodIn_r _ [5] (by decide +kernel) (by decide +kernel)
set_option maxRecDepth 20000 in
theorem gX6_isStage_X6_in : GoodIn wsX6_isStage (va_wsS RX6 65 yX6_in wsX6_in) := goodIn_app (goodIn_of _ (by decide +kernel)) ggX6_isStage_X6_in
theorem dX6_isStage_0 : decode cX6_isStage 0 = .ok (.iload_n 1, 1) := by decide +kernel
theorem dX6_isStage_1 : decode cX6_isStage 1 = .ok (.iconst 0, 1) := by decide +kernel
theorem dX6_isStage_2 : decode cX6_isStage 2 = .ok (.aload_n 0, 1) := by decide +kernel
theorem dX6_isStage_3 : decode cX6_isStage 3 = .ok (.getfield 7, 3) := by decide +kernel
theorem dX6_isStage_6 : decode cX6_isStage 6 = .ok (.iconst 0, 1) := by decide +kernel
theorem dX6_isStage_7 : decode cX6_isStage 7 = .ok (.iaload, 1) := by decide +kernel
theorem dX6_isStage_8 : decode cX6_isStage 8 = .ok (.iconst 1, 1) := by decide +kernel
theorem dX6_isStage_9 : decode cX6_isStage 9 = .ok (.isub, 1) := by decide +kernel
theorem dX6_isStage_10 : decode cX6_isStage 10 = .ok (.invokestatic 65, 3) := by decide +kernel
theorem dX6_isStage_13 : decode cX6_isStage 13 = .ok (.ireturn, 1) := by decide +kernel
set_option maxRecDepth 20000 in
theorem ggX6_begin_X6_in : GoodIn wsX6_begin wsX6_in := goodIn_r _ [6] (by decide +kernel) (by decide +kernel)
set_option maxRecDepth 20000 in
theorem gX6_begin_X6_in : GoodIn wsX6_begin (va_wsS RX6 65 yX6_in wsX6_in) := goodIn_app (goodIn_of _ (by decide +kernel)) ggX6_begin_X6_in
set_option maxRecDepth 20000 in
theorem ggX6_begin_X6_records : GoodIn wsX6_begin wsX6_records := goodIn_r _ [10, 11, 12, 2, 17, 18, 19, 20, 21, 22, 23, 24, 25, 26, 27, 28, 29] (by decide +kernel) (by decide +kernel)
set_option maxRecDepth 20000 in
theorem gX6_begin_X6_records : GoodIn wsX6_begin (wsV RX6 70 RX6 yX6_records wsX6_records) := goodIn_app (goodIn_of _ (by decide +kernel)) ggX6_begin_X6_records
set_option maxRecDepth 20000 in
theorem ggX6_begin_X6_begins : GoodIn wsX6_begin wsX6_begins := goodIn_r _ [16, 2, 17, 18, 19, 20, 21, 22, 23, 24, 25, 26, 27, 28, 29] (by decide +kernel) (by decide +kernel)
set_option maxRecDepth 20000 in
theorem gX6_begin_X6_begins : GoodIn wsX6_begin (wsV RX6 28 RX6 yX6_begins wsX6_begins) := goodIn_app (goodIn_of _ (by decide +kernel)) ggX6_begin_X6_begins
theorem dX6_begin_0 : decode cX6_begin 0 = .ok (.iload_n 1, 1) := by decide +kernel
theorem dX6_begin_1 : decode cX6_begin 1 = .ok (.iconst 2, 1) := by decide +kernel
theorem dX6_begin_2 : decode cX6_begin 2 = .ok (.bipush 10, 2) := by decide +kernel
theorem dX6_begin_4 : decode cX6_begin 4 = .ok (.invokestatic 65, 3) := by decide +kernel
theorem dX6_begin_7 : decode cX6_begin 7 = .ok (.ifCond .ne 6, 3) := by decide +kernel
theorem dX6_begin_10 : decode cX6_begin 10 = .ok (.ldc 69, 2) := by decide +kernel
theorem dX6_begin_12 : decode cX6_begin 12 = .ok (.ireturn, 1) := by decide +kernel
theorem dX6_begin_13 : decode cX6_begin 13 = .ok (.aload_n 0, 1) := by decide +kernel
theorem dX6_begin_14 : decode cX6_begin 14 = .ok (.invokevirtual 70, 3) := by decide +kernel
theorem dX6_begin_17 : decode cX6_begin 17 = .ok (.aload_n 0, 1) := by decide +kernel
theorem dX6_begin_18 : decode cX6_begin 18 = .ok (.getfield 7, 3) := by decide +kernel
theorem dX6_begin_21 : decode cX6_begin 21 = .ok (.iconst 1, 1) := by decide +kernel
theorem dX6_begin_22 : decode cX6_begin 22 = .ok (.iaload, 1) := by decide +kernel
theorem dX6_begin_23 : decode cX6_begin 23 = .ok (.istore_n 2, 1) := by decide +kernel
theorem dX6_begin_24 : decode cX6_begin 24 = .ok (.aload_n 0, 1) := by decide +kernel
theorem dX6_begin_25 : decode cX6_begin 25 = .ok (.getfield 7, 3) := by decide +kernel
theorem dX6_begin_28 : decode cX6_begin 28 = .ok (.iconst 0, 1) := by decide +kernel
theorem dX6_begin_29 : decode cX6_begin 29 = .ok (.iaload, 1) := by decide +kernel
theorem dX6_begin_30 : decode cX6_begin 30 = .ok (.istore_n 3, 1) := by decide +kernel
theorem dX6_begin_31 : decode cX6_begin 31 = .ok (.iload_n 3, 1) := by decide +kernel
theorem dX6_begin_32 : decode cX6_begin 32 = .ok (.iload_n 1, 1) := by decide +kernel
theorem dX6_begin_33 : decode cX6_begin 33 = .ok (.if_icmp .ge 29, 3) := by decide +kernel
theorem dX6_begin_36 : decode cX6_begin 36 = .ok (.aload_n 0, 1) := by decide +kernel
theorem dX6_begin_37 : decode cX6_begin 37 = .ok (.getfield 7, 3) := by decide +kernel
theorem dX6_begin_40 : decode cX6_begin 40 = .ok (.bipush 20, 2) := by decide +kernel
theorem dX6_begin_42 : decode cX6_begin 42 = .ok (.iload_n 3, 1) := by decide +kernel
theorem dX6_begin_43 : decode cX6_begin 43 = .ok (.iadd, 1) := by decide +kernel
theorem dX6_begin_44 : decode cX6_begin 44 = .ok (.iconst 0, 1) := by decide +kernel
theorem dX6_begin_45 : decode cX6_begin 45 = .ok (.iastore, 1) := by decide +kernel
theorem dX6_begin_46 : decode cX6_begin 46 = .ok (.aload_n 0, 1) := by decide +kernel
theorem dX6_begin_47 : decode cX6_begin 47 = .ok (.getfield 7, 3) := by decide +kernel
theorem dX6_begin_50 : decode cX6_begin 50 = .ok (.bipush 30, 2) := by decide +kernel
theorem dX6_begin_52 : decode cX6_begin 52 = .ok (.iload_n 3, 1) := by decide +kernel
theorem dX6_begin_53 : decode cX6_begin 53 = .ok (.iadd, 1) := by decide +kernel
theorem dX6_begin_54 : decode cX6_begin 54 = .ok (.iconst 0, 1) := by decide +kernel
theorem dX6_begin_55 : decode cX6_begin 55 = .ok (.iastore, 1) := by decide +kernel
theorem dX6_begin_56 : decode cX6_begin 56 = .ok (.iinc 3 1, 3) := by decide +kernel
theorem dX6_begin_59 : decode cX6_begin 59 = .ok (.goto (-28), 3) := by decide +kernel
theorem dX6_begin_62 : decode cX6_begin 62 = .ok (.aload_n 0, 1) := by decide +kernel
theorem dX6_begin_63 : decode cX6_begin 63 = .ok (.getfield 7, 3) := by decide +kernel
theorem dX6_begin_66 : decode cX6_begin 66 = .ok (.iconst 0, 1) := by decide +kernel
theorem dX6_begin_67 : decode cX6_begin 67 = .ok (.iload_n 1, 1) := by decide +kernel
theorem dX6_begin_68 : decode cX6_begin 68 = .ok (.iastore, 1) := by decide +kernel
theorem dX6_begin_69 : decode cX6_begin 69 = .ok (.aload_n 0, 1) := by decide +kernel
theorem dX6_begin_70 : decode cX6_begin 70 = .ok (.invokevirtual 28, 3) := by decide +kernel
theorem dX6_begin_73 : decode cX6_begin 73 = .ok (.iload_n 2, 1) := by decide +kernel
theorem dX6_begin_74 : decode cX6_begin 74 = .ok (.ireturn, 1) := by decide +kernel
theorem dX6_shares_0 : decode cX6_shares 0 = .ok (.sipush 1000, 3) := by decide +kernel
theorem dX6_shares_3 : decode cX6_shares 3 = .ok (.aload_n 0, 1) := by decide +kernel
theorem dX6_shares_4 : decode cX6_shares 4 = .ok (.getfield 7, 3) := by decide +kernel
theorem dX6_shares_7 : decode cX6_shares 7 = .ok (.bipush 20, 2) := by decide +kernel
theorem dX6_shares_9 : decode cX6_shares 9 = .ok (.iload_n 1, 1) := by decide +kernel
theorem dX6_shares_10 : decode cX6_shares 10 = .ok (.iadd, 1) := by decide +kernel
theorem dX6_shares_11 : decode cX6_shares 11 = .ok (.iaload, 1) := by decide +kernel
theorem dX6_shares_12 : decode cX6_shares 12 = .ok (.imul, 1) := by decide +kernel
theorem dX6_shares_13 : decode cX6_shares 13 = .ok (.aload_n 0, 1) := by decide +kernel
theorem dX6_shares_14 : decode cX6_shares 14 = .ok (.getfield 7, 3) := by decide +kernel
theorem dX6_shares_17 : decode cX6_shares 17 = .ok (.bipush 30, 2) := by decide +kernel
theorem dX6_shares_19 : decode cX6_shares 19 = .ok (.iload_n 1, 1) := by decide +kernel
theorem dX6_shares_20 : decode cX6_shares 20 = .ok (.iadd, 1) := by decide +kernel
theorem dX6_shares_21 : decode cX6_shares 21 = .ok (.iaload, 1) := by decide +kernel
theorem dX6_shares_22 : decode cX6_shares 22 = .ok (.iadd, 1) := by decide +kernel
theorem dX6_shares_23 : decode cX6_shares 23 = .ok (.istore 4, 2) := by decide +kernel
theorem dX6_shares_25 : decode cX6_shares 25 = .ok (.aload_n 0, 1) := by decide +kernel
theorem dX6_shares_26 : decode cX6_shares 26 = .ok (.getfield 7, 3) := by decide +kernel
theorem dX6_shares_29 : decode cX6_shares 29 = .ok (.bipush 20, 2) := by decide +kernel
theorem dX6_shares_31 : decode cX6_shares 31 = .ok (.iload_n 1, 1) := by decide +kernel
theorem dX6_shares_32 : decode cX6_shares 32 = .ok (.iadd, 1) := by decide +kernel
theorem dX6_shares_33 : decode cX6_shares 33 = .ok (.iload_n 2, 1) := by decide +kernel
theorem dX6_shares_34 : decode cX6_shares 34 = .ok (.iastore, 1) := by decide +kernel
theorem dX6_shares_35 : decode cX6_shares 35 = .ok (.aload_n 0, 1) := by decide +kernel
theorem dX6_shares_36 : decode cX6_shares 36 = .ok (.getfield 7, 3) := by decide +kernel
theorem dX6_shares_39 : decode cX6_shares 39 = .ok (.bipush 30, 2) := by decide +kernel
theorem dX6_shares_41 : decode cX6_shares 41 = .ok (.iload_n 1, 1) := by decide +kernel
theorem dX6_shares_42 : decode cX6_shares 42 = .ok (.iadd, 1) := by decide +kernel
theorem dX6_shares_43 : decode cX6_shares 43 = .ok (.iload_n 3, 1) := by decide +kernel
theorem dX6_shares_44 : decode cX6_shares 44 = .ok (.iastore, 1) := by decide +kernel
theorem dX6_shares_45 : decode cX6_shares 45 = .ok (.iload 4, 2) := by decide +kernel
theorem dX6_shares_47 : decode cX6_shares 47 = .ok (.ireturn, 1) := by decide +kernel
set_option maxRecDepth 20000 in
theorem ggX6_stage_X6_isStage : GoodIn wsX6_stage wsX6_isStage := goodIn_r _ [6, 7, 8, 9, 5, 10, 21, 22, 23, 24, 25, 26, 27, 28, 29, 30, 31, 32, 33] (by decide +kernel) (by decide +kernel)
set_option maxRecDepth 20000 in
theorem gX6_stage_X6_isStage : GoodIn wsX6_stage (wsV RX6 73 RX6 yX6_isStage wsX6_isStage) := goodIn_app (goodIn_of _ (by decide +kernel)) ggX6_stage_X6_isStage
set_option maxRecDepth 20000 in
theorem ggX6_stage_X6_in : GoodIn wsX6_stage wsX6_in := goodIn_r _ [10] (by decide +kernel) (by decide +kernel)
set_option maxRecDepth 20000 in
theorem gX6_stage_X6_in : GoodIn wsX6_stage (va_wsS RX6 65 yX6_in wsX6_in) := goodIn_app (goodIn_of _ (by decide +kernel)) ggX6_stage_X6_in
set_option maxRecDepth 20000 in
theorem ggX6_stage_X6_records : GoodIn wsX6_stage wsX6_records := goodIn_r _ [14, 15, 16, 7, 21, 22, 23, 24, 25, 26, 27, 28, 29, 30, 31, 32, 33] (by decide +kernel) (by decide +kernel)
set_option maxRecDepth 20000 in
theorem gX6_stage_X6_records : GoodIn wsX6_stage (wsV RX6 70 RX6 yX6_records wsX6_records) := goodIn_app (goodIn_of _ (by decide +kernel)) ggX6_stage_X6_records
set_option maxRecDepth 20000 in
theorem ggX6_stage_X6_shares : GoodIn wsX6_stage wsX6_shares := goodIn_r _ [20, 7, 21, 22, 23, 24, 25, 26, 27, 28, 29, 30, 31, 32, 33] (by decide +kernel) (by decide +kernel)
set_option maxRecDepth 20000 in
theorem gX6_stage_X6_shares : GoodIn wsX6_stage (wsV RX6 76 RX6 yX6_shares wsX6_shares) := goodIn_app (goodIn_of _ (by decide +kernel)) ggX6_stage_X6_shares
theorem dX6_stage_0 : decode cX6_stage 0 = .ok (.aload_n 0, 1) := by decide +kernel
theorem dX6_stage_1 : decode cX6_stage 1 = .ok (.iload_n 1, 1) := by decide +kernel
theorem dX6_stage_2 : decode cX6_stage 2 = .ok (.invokevirtual 73, 3) := by decide +kernel
theorem dX6_stage_5 : decode cX6_stage 5 = .ok (.ifCond .eq 25, 3) := by decide +kernel
theorem dX6_stage_8 : decode cX6_stage 8 = .ok (.iload_n 2, 1) := by decide +kernel
theorem dX6_stage_9 : decode cX6_stage 9 = .ok (.iconst 0, 1) := by decide +kernel
theorem dX6_stage_10 : decode cX6_stage 10 = .ok (.sipush 300, 3) := by decide +kernel
theorem dX6_stage_13 : decode cX6_stage 13 = .ok (.invokestatic 65, 3) := by decide +kernel
theorem dX6_stage_16 : decode cX6_stage 16 = .ok (.ifCond .eq 14, 3) := by decide +kernel
theorem dX6_stage_19 : decode cX6_stage 19 = .ok (.iload_n 3, 1) := by decide +kernel
theorem dX6_stage_20 : decode cX6_stage 20 = .ok (.iconst 0, 1) := by decide +kernel
theorem dX6_stage_21 : decode cX6_stage 21 = .ok (.sipush 300, 3) := by decide +kernel
theorem dX6_stage_24 : decode cX6_stage 24 = .ok (.invokestatic 65, 3) := by decide +kernel
theorem dX6_stage_27 : decode cX6_stage 27 = .ok (.ifCond .ne 6, 3) := by decide +kernel
theorem dX6_stage_30 : decode cX6_stage 30 = .ok (.ldc 69, 2) := by decide +kernel
theorem dX6_stage_32 : decode cX6_stage 32 = .ok (.ireturn, 1) := by decide +kernel
theorem dX6_stage_33 : decode cX6_stage 33 = .ok (.aload_n 0, 1) := by decide +kernel
theorem dX6_stage_34 : decode cX6_stage 34 = .ok (.invokevirtual 70, 3) := by decide +kernel
theorem dX6_stage_37 : decode cX6_stage 37 = .ok (.aload_n 0, 1) := by decide +kernel
theorem dX6_stage_38 : decode cX6_stage 38 = .ok (.iload_n 1, 1) := by decide +kernel
theorem dX6_stage_39 : decode cX6_stage 39 = .ok (.iload_n 2, 1) := by decide +kernel
theorem dX6_stage_40 : decode cX6_stage 40 = .ok (.iload_n 3, 1) := by decide +kernel
theorem dX6_stage_41 : decode cX6_stage 41 = .ok (.invokevirtual 76, 3) := by decide +kernel
theorem dX6_stage_44 : decode cX6_stage 44 = .ok (.ireturn, 1) := by decide +kernel
set_option maxRecDepth 20000 in
theorem ggX6_isSetting_X6_in : GoodIn wsX6_isSetting wsX6_in := goodIn_r _ [5] (by decide +kernel) (by decide +kernel)
set_option maxRecDepth 20000 in
theorem gX6_isSetting_X6_in : GoodIn wsX6_isSetting (va_wsS RX6 65 yX6_in wsX6_in) := goodIn_app (goodIn_of _ (by decide +kernel)) ggX6_isSetting_X6_in
theorem dX6_isSetting_0 : decode cX6_isSetting 0 = .ok (.iload_n 0, 1) := by decide +kernel
theorem dX6_isSetting_1 : decode cX6_isSetting 1 = .ok (.ifCond .ne 15, 3) := by decide +kernel
theorem dX6_isSetting_4 : decode cX6_isSetting 4 = .ok (.iload_n 1, 1) := by decide +kernel
theorem dX6_isSetting_5 : decode cX6_isSetting 5 = .ok (.sipush 1000, 3) := by decide +kernel
theorem dX6_isSetting_8 : decode cX6_isSetting 8 = .ok (.ldc 80, 2) := by decide +kernel
theorem dX6_isSetting_10 : decode cX6_isSetting 10 = .ok (.invokestatic 65, 3) := by decide +kernel
theorem dX6_isSetting_13 : decode cX6_isSetting 13 = .ok (.goto 43, 3) := by decide +kernel
theorem dX6_isSetting_16 : decode cX6_isSetting 16 = .ok (.iload_n 0, 1) := by decide +kernel
theorem dX6_isSetting_17 : decode cX6_isSetting 17 = .ok (.iconst 1, 1) := by decide +kernel
theorem dX6_isSetting_18 : decode cX6_isSetting 18 = .ok (.if_icmp .ne 13, 3) := by decide +kernel
theorem dX6_isSetting_21 : decode cX6_isSetting 21 = .ok (.iload_n 1, 1) := by decide +kernel
theorem dX6_isSetting_22 : decode cX6_isSetting 22 = .ok (.iconst 0, 1) := by decide +kernel
theorem dX6_isSetting_23 : decode cX6_isSetting 23 = .ok (.bipush 12, 2) := by decide +kernel
theorem dX6_isSetting_25 : decode cX6_isSetting 25 = .ok (.invokestatic 65, 3) := by decide +kernel
theorem dX6_isSetting_28 : decode cX6_isSetting 28 = .ok (.goto 28, 3) := by decide +kernel
theorem dX6_isSetting_31 : decode cX6_isSetting 31 = .ok (.iload_n 0, 1) := by decide +kernel
theorem dX6_isSetting_32 : decode cX6_isSetting 32 = .ok (.iconst 2, 1) := by decide +kernel
theorem dX6_isSetting_33 : decode cX6_isSetting 33 = .ok (.iconst 4, 1) := by decide +kernel
theorem dX6_isSetting_34 : decode cX6_isSetting 34 = .ok (.invokestatic 65, 3) := by decide +kernel
theorem dX6_isSetting_37 : decode cX6_isSetting 37 = .ok (.ifCond .eq 18, 3) := by decide +kernel
theorem dX6_isSetting_40 : decode cX6_isSetting 40 = .ok (.iload_n 1, 1) := by decide +kernel
theorem dX6_isSetting_41 : decode cX6_isSetting 41 = .ok (.iconst 1, 1) := by decide +kernel
theorem dX6_isSetting_42 : decode cX6_isSetting 42 = .ok (.sipush 10000, 3) := by decide +kernel
theorem dX6_isSetting_45 : decode cX6_isSetting 45 = .ok (.invokestatic 65, 3) := by decide +kernel
theorem dX6_isSetting_48 : decode cX6_isSetting 48 = .ok (.ifCond .eq 7, 3) := by decide +kernel
theorem dX6_isSetting_51 : decode cX6_isSetting 51 = .ok (.iconst 1, 1) := by decide +kernel
theorem dX6_isSetting_52 : decode cX6_isSetting 52 = .ok (.goto 4, 3) := by decide +kernel
theorem dX6_isSetting_55 : decode cX6_isSetting 55 = .ok (.iconst 0, 1) := by decide +kernel
theorem dX6_isSetting_56 : decode cX6_isSetting 56 = .ok (.ireturn, 1) := by decide +kernel
set_option maxRecDepth 20000 in
theorem ggX6_set_X6_isSetting : GoodIn wsX6_set wsX6_isSetting := goodIn_r _ [6, 7, 8, 9, 5, 10] (by decide +kernel) (by decide +kernel)
set_option maxRecDepth 20000 in
theorem gX6_set_X6_isSetting : GoodIn wsX6_set (va_wsS RX6 81 yX6_isSetting wsX6_isSetting) := goodIn_app (goodIn_of _ (by decide +kernel)) ggX6_set_X6_isSetting
set_option maxRecDepth 20000 in
theorem ggX6_set_X6_records : GoodIn wsX6_set wsX6_records := goodIn_r _ [14, 15, 16, 2, 17, 18, 19, 20, 21, 22, 23, 24, 25, 26, 27, 28, 29] (by decide +kernel) (by decide +kernel)
set_option maxRecDepth 20000 in
theorem gX6_set_X6_records : GoodIn wsX6_set (wsV RX6 70 RX6 yX6_records wsX6_records) := goodIn_app (goodIn_of _ (by decide +kernel)) ggX6_set_X6_records
theorem dX6_set_0 : decode cX6_set 0 = .ok (.iload_n 1, 1) := by decide +kernel
theorem dX6_set_1 : decode cX6_set 1 = .ok (.iload_n 2, 1) := by decide +kernel
theorem dX6_set_2 : decode cX6_set 2 = .ok (.invokestatic 81, 3) := by decide +kernel
theorem dX6_set_5 : decode cX6_set 5 = .ok (.ifCond .ne 6, 3) := by decide +kernel
theorem dX6_set_8 : decode cX6_set 8 = .ok (.ldc 69, 2) := by decide +kernel
theorem dX6_set_10 : decode cX6_set 10 = .ok (.ireturn, 1) := by decide +kernel
theorem dX6_set_11 : decode cX6_set 11 = .ok (.aload_n 0, 1) := by decide +kernel
theorem dX6_set_12 : decode cX6_set 12 = .ok (.invokevirtual 70, 3) := by decide +kernel
theorem dX6_set_15 : decode cX6_set 15 = .ok (.aload_n 0, 1) := by decide +kernel
theorem dX6_set_16 : decode cX6_set 16 = .ok (.getfield 7, 3) := by decide +kernel
theorem dX6_set_19 : decode cX6_set 19 = .ok (.iconst 5, 1) := by decide +kernel
theorem dX6_set_20 : decode cX6_set 20 = .ok (.iload_n 1, 1) := by decide +kernel
theorem dX6_set_21 : decode cX6_set 21 = .ok (.iadd, 1) := by decide +kernel
theorem dX6_set_22 : decode cX6_set 22 = .ok (.iaload, 1) := by decide +kernel
theorem dX6_set_23 : decode cX6_set 23 = .ok (.istore_n 3, 1) := by decide +kernel
theorem dX6_set_24 : decode cX6_set 24 = .ok (.aload_n 0, 1) := by decide +kernel
theorem dX6_set_25 : decode cX6_set 25 = .ok (.getfield 7, 3) := by decide +kernel
theorem dX6_set_28 : decode cX6_set 28 = .ok (.iconst 5, 1) := by decide +kernel
theorem dX6_set_29 : decode cX6_set 29 = .ok (.iload_n 1, 1) := by decide +kernel
theorem dX6_set_30 : decode cX6_set 30 = .ok (.iadd, 1) := by decide +kernel
theorem dX6_set_31 : decode cX6_set 31 = .ok (.iload_n 2, 1) := by decide +kernel
theorem dX6_set_32 : decode cX6_set 32 = .ok (.iastore, 1) := by decide +kernel
theorem dX6_set_33 : decode cX6_set 33 = .ok (.iload_n 3, 1) := by decide +kernel
theorem dX6_set_34 : decode cX6_set 34 = .ok (.ireturn, 1) := by decide +kernel
set_option maxRecDepth 20000 in
theorem ggX6_give_X6_in : GoodIn wsX6_give wsX6_in := goodIn_r _ [7] (by decide +kernel) (by decide +kernel)
set_option maxRecDepth 20000 in
theorem gX6_give_X6_in : GoodIn wsX6_give (va_wsS RX6 65 yX6_in wsX6_in) := goodIn_app (goodIn_of _ (by decide +kernel)) ggX6_give_X6_in
set_option maxRecDepth 20000 in
theorem ggX6_give_X6_handedBehind : GoodIn wsX6_give wsX6_handedBehind := goodIn_r _ [11, 3, 12, 13, 14, 6, 15, 73, 74, 75, 76, 77, 78, 79, 80, 81, 82, 83, 84, 85] (by decide +kernel) (by decide +kernel)
set_option maxRecDepth 20000 in
theorem gX6_give_X6_handedBehind : GoodIn wsX6_give (wsV RX6 85 RX6 yX6_handedBehind wsX6_handedBehind) := goodIn_app (goodIn_of _ (by decide +kernel)) ggX6_give_X6_handedBehind
set_option maxRecDepth 20000 in
theorem ggX6_give_X6_records : GoodIn wsX6_give wsX6_records := goodIn_r _ [19, 20, 21, 3, 73, 74, 75, 76, 77, 78, 79, 80, 81, 82, 83, 84, 85] (by decide +kernel) (by decide +kernel)
set_option maxRecDepth 20000 in
theorem gX6_give_X6_records : GoodIn wsX6_give (wsV RX6 70 RX6 yX6_records wsX6_records) := goodIn_app (goodIn_of _ (by decide +kernel)) ggX6_give_X6_records
set_option maxRecDepth 20000 in
theorem ggX6_give_X6_gives : GoodIn wsX6_give wsX6_gives := goodIn_r _ [25, 3, 12, 13, 14, 6, 15, 26, 27, 28, 29, 30, 31, 32, 33, 34, 35, 36, 37, 38, 39, 40, 41, 42, 43, 44, 45, 46, 47, 48, 49, 50, 51, 52, 53, 54, 55, 56, 57, 58, 59, 60, 61, 62, 63, 64, 65, 66, 67, 68, 69, 70, 71, 72, 73, 74, 75, 76, 77, 78, 79, 80, 81, 82, 83, 84, 85] (by decide +kernel) (by decide +kernel)
set_option maxRecDepth 20000 in
theorem gX6_give_X6_gives : GoodIn wsX6_give (wsV RX6 89 RX6 yX6_gives wsX6_gives) := goodIn_app (goodIn_of _ (by decide +kernel)) ggX6_give_X6_gives
theorem dX6_give_0 : decode cX6_give 0 = .ok (.iload_n 1, 1) := by decide +kernel
theorem dX6_give_1 : decode cX6_give 1 = .ok (.iconst 0, 1) := by decide +kernel
theorem dX6_give_2 : decode cX6_give 2 = .ok (.sipush 10000, 3) := by decide +kernel
theorem dX6_give_5 : decode cX6_give 5 = .ok (.invokestatic 65, 3) := by decide +kernel
theorem dX6_give_8 : decode cX6_give 8 = .ok (.ifCond .ne 6, 3) := by decide +kernel
theorem dX6_give_11 : decode cX6_give 11 = .ok (.ldc 69, 2) := by decide +kernel
theorem dX6_give_13 : decode cX6_give 13 = .ok (.ireturn, 1) := by decide +kernel
theorem dX6_give_14 : decode cX6_give 14 = .ok (.aload_n 0, 1) := by decide +kernel
theorem dX6_give_15 : decode cX6_give 15 = .ok (.iconst 1, 1) := by decide +kernel
theorem dX6_give_16 : decode cX6_give 16 = .ok (.invokevirtual 85, 3) := by decide +kernel
theorem dX6_give_19 : decode cX6_give 19 = .ok (.istore_n 2, 1) := by decide +kernel
theorem dX6_give_20 : decode cX6_give 20 = .ok (.iload_n 2, 1) := by decide +kernel
theorem dX6_give_21 : decode cX6_give 21 = .ok (.sipush 999, 3) := by decide +kernel
theorem dX6_give_24 : decode cX6_give 24 = .ok (.if_icmp .le 6, 3) := by decide +kernel
theorem dX6_give_27 : decode cX6_give 27 = .ok (.ldc 88, 2) := by decide +kernel
theorem dX6_give_29 : decode cX6_give 29 = .ok (.ireturn, 1) := by decide +kernel
theorem dX6_give_30 : decode cX6_give 30 = .ok (.iload_n 2, 1) := by decide +kernel
theorem dX6_give_31 : decode cX6_give 31 = .ok (.aload_n 0, 1) := by decide +kernel
theorem dX6_give_32 : decode cX6_give 32 = .ok (.getfield 7, 3) := by decide +kernel
theorem dX6_give_35 : decode cX6_give 35 = .ok (.iconst 1, 1) := by decide +kernel
theorem dX6_give_36 : decode cX6_give 36 = .ok (.iaload, 1) := by decide +kernel
theorem dX6_give_37 : decode cX6_give 37 = .ok (.isub, 1) := by decide +kernel
theorem dX6_give_38 : decode cX6_give 38 = .ok (.istore_n 3, 1) := by decide +kernel
theorem dX6_give_39 : decode cX6_give 39 = .ok (.aload_n 0, 1) := by decide +kernel
theorem dX6_give_40 : decode cX6_give 40 = .ok (.invokevirtual 70, 3) := by decide +kernel
theorem dX6_give_43 : decode cX6_give 43 = .ok (.aload_n 0, 1) := by decide +kernel
theorem dX6_give_44 : decode cX6_give 44 = .ok (.iload_n 1, 1) := by decide +kernel
theorem dX6_give_45 : decode cX6_give 45 = .ok (.invokevirtual 89, 3) := by decide +kernel
theorem dX6_give_48 : decode cX6_give 48 = .ok (.iload_n 3, 1) := by decide +kernel
theorem dX6_give_49 : decode cX6_give 49 = .ok (.ireturn, 1) := by decide +kernel
set_option maxRecDepth 20000 in
theorem ggX6_idle_X6_in : GoodIn wsX6_idle wsX6_in := goodIn_r _ [7] (by decide +kernel) (by decide +kernel)
set_option maxRecDepth 20000 in
theorem gX6_idle_X6_in : GoodIn wsX6_idle (va_wsS RX6 65 yX6_in wsX6_in) := goodIn_app (goodIn_of _ (by decide +kernel)) ggX6_idle_X6_in
set_option maxRecDepth 20000 in
theorem ggX6_idle_X6_handedBehind : GoodIn wsX6_idle wsX6_handedBehind := goodIn_r _ [11, 3, 12, 13, 14, 6, 15, 73, 74, 75, 76, 77, 78, 79, 80, 81, 82, 83, 84, 85] (by decide +kernel) (by decide +kernel)
set_option maxRecDepth 20000 in
theorem gX6_idle_X6_handedBehind : GoodIn wsX6_idle (wsV RX6 85 RX6 yX6_handedBehind wsX6_handedBehind) := goodIn_app (goodIn_of _ (by decide +kernel)) ggX6_idle_X6_handedBehind
set_option maxRecDepth 20000 in
theorem ggX6_idle_X6_records : GoodIn wsX6_idle wsX6_records := goodIn_r _ [19, 20, 21, 3, 73, 74, 75, 76, 77, 78, 79, 80, 81, 82, 83, 84, 85] (by decide +kernel) (by decide +kernel)
set_option maxRecDepth 20000 in
theorem gX6_idle_X6_records : GoodIn wsX6_idle (wsV RX6 70 RX6 yX6_records wsX6_records) := goodIn_app (goodIn_of _ (by decide +kernel)) ggX6_idle_X6_records
set_option maxRecDepth 20000 in
theorem ggX6_idle_X6_gives : GoodIn wsX6_idle wsX6_gives := goodIn_r _ [25, 3, 12, 13, 14, 6, 15, 26, 27, 28, 29, 30, 31, 32, 33, 34, 35, 36, 37, 38, 39, 40, 41, 42, 43, 44, 45, 46, 47, 48, 49, 50, 51, 52, 53, 54, 55, 56, 57, 58, 59, 60, 61, 62, 63, 64, 65, 66, 67, 68, 69, 70, 71, 72, 73, 74, 75, 76, 77, 78, 79, 80, 81, 82, 83, 84, 85] (by decide +kernel) (by decide +kernel)
set_option maxRecDepth 20000 in
theorem gX6_idle_X6_gives : GoodIn wsX6_idle (wsV RX6 89 RX6 yX6_gives wsX6_gives) := goodIn_app (goodIn_of _ (by decide +kernel)) ggX6_idle_X6_gives
theorem dX6_idle_0 : decode cX6_idle 0 = .ok (.iload_n 1, 1) := by decide +kernel
theorem dX6_idle_1 : decode cX6_idle 1 = .ok (.iconst 1, 1) := by decide +kernel
theorem dX6_idle_2 : decode cX6_idle 2 = .ok (.bipush 40, 2) := by decide +kernel
theorem dX6_idle_4 : decode cX6_idle 4 = .ok (.invokestatic 65, 3) := by decide +kernel
theorem dX6_idle_7 : decode cX6_idle 7 = .ok (.ifCond .ne 6, 3) := by decide +kernel
theorem dX6_idle_10 : decode cX6_idle 10 = .ok (.ldc 69, 2) := by decide +kernel
theorem dX6_idle_12 : decode cX6_idle 12 = .ok (.ireturn, 1) := by decide +kernel
theorem dX6_idle_13 : decode cX6_idle 13 = .ok (.aload_n 0, 1) := by decide +kernel
theorem dX6_idle_14 : decode cX6_idle 14 = .ok (.iload_n 1, 1) := by decide +kernel
theorem dX6_idle_15 : decode cX6_idle 15 = .ok (.invokevirtual 85, 3) := by decide +kernel
theorem dX6_idle_18 : decode cX6_idle 18 = .ok (.istore_n 2, 1) := by decide +kernel
theorem dX6_idle_19 : decode cX6_idle 19 = .ok (.iload_n 2, 1) := by decide +kernel
theorem dX6_idle_20 : decode cX6_idle 20 = .ok (.sipush 999, 3) := by decide +kernel
theorem dX6_idle_23 : decode cX6_idle 23 = .ok (.if_icmp .le 6, 3) := by decide +kernel
theorem dX6_idle_26 : decode cX6_idle 26 = .ok (.ldc 88, 2) := by decide +kernel
theorem dX6_idle_28 : decode cX6_idle 28 = .ok (.ireturn, 1) := by decide +kernel
theorem dX6_idle_29 : decode cX6_idle 29 = .ok (.iload_n 2, 1) := by decide +kernel
theorem dX6_idle_30 : decode cX6_idle 30 = .ok (.aload_n 0, 1) := by decide +kernel
theorem dX6_idle_31 : decode cX6_idle 31 = .ok (.getfield 7, 3) := by decide +kernel
theorem dX6_idle_34 : decode cX6_idle 34 = .ok (.iconst 1, 1) := by decide +kernel
theorem dX6_idle_35 : decode cX6_idle 35 = .ok (.iaload, 1) := by decide +kernel
theorem dX6_idle_36 : decode cX6_idle 36 = .ok (.isub, 1) := by decide +kernel
theorem dX6_idle_37 : decode cX6_idle 37 = .ok (.istore_n 3, 1) := by decide +kernel
theorem dX6_idle_38 : decode cX6_idle 38 = .ok (.aload_n 0, 1) := by decide +kernel
theorem dX6_idle_39 : decode cX6_idle 39 = .ok (.invokevirtual 70, 3) := by decide +kernel
theorem dX6_idle_42 : decode cX6_idle 42 = .ok (.iconst 0, 1) := by decide +kernel
theorem dX6_idle_43 : decode cX6_idle 43 = .ok (.istore 4, 2) := by decide +kernel
theorem dX6_idle_45 : decode cX6_idle 45 = .ok (.iload 4, 2) := by decide +kernel
theorem dX6_idle_47 : decode cX6_idle 47 = .ok (.iload_n 1, 1) := by decide +kernel
theorem dX6_idle_48 : decode cX6_idle 48 = .ok (.if_icmp .ge 14, 3) := by decide +kernel
theorem dX6_idle_51 : decode cX6_idle 51 = .ok (.aload_n 0, 1) := by decide +kernel
theorem dX6_idle_52 : decode cX6_idle 52 = .ok (.iconst 0, 1) := by decide +kernel
theorem dX6_idle_53 : decode cX6_idle 53 = .ok (.invokevirtual 89, 3) := by decide +kernel
theorem dX6_idle_56 : decode cX6_idle 56 = .ok (.iinc 4 1, 3) := by decide +kernel
theorem dX6_idle_59 : decode cX6_idle 59 = .ok (.goto (-14), 3) := by decide +kernel
theorem dX6_idle_62 : decode cX6_idle 62 = .ok (.iload_n 3, 1) := by decide +kernel
theorem dX6_idle_63 : decode cX6_idle 63 = .ok (.ireturn, 1) := by decide +kernel
theorem dX6_counts_0 : decode cX6_counts 0 = .ok (.aload_n 0, 1) := by decide +kernel
theorem dX6_counts_1 : decode cX6_counts 1 = .ok (.getfield 7, 3) := by decide +kernel
theorem dX6_counts_4 : decode cX6_counts 4 = .ok (.bipush 40, 2) := by decide +kernel
theorem dX6_counts_6 : decode cX6_counts 6 = .ok (.iload_n 1, 1) := by decide +kernel
theorem dX6_counts_7 : decode cX6_counts 7 = .ok (.iadd, 1) := by decide +kernel
theorem dX6_counts_8 : decode cX6_counts 8 = .ok (.iaload, 1) := by decide +kernel
theorem dX6_counts_9 : decode cX6_counts 9 = .ok (.ifCond .le 7, 3) := by decide +kernel
theorem dX6_counts_12 : decode cX6_counts 12 = .ok (.iconst 1, 1) := by decide +kernel
theorem dX6_counts_13 : decode cX6_counts 13 = .ok (.goto 4, 3) := by decide +kernel
theorem dX6_counts_16 : decode cX6_counts 16 = .ok (.iconst 0, 1) := by decide +kernel
theorem dX6_counts_17 : decode cX6_counts 17 = .ok (.istore_n 2, 1) := by decide +kernel
theorem dX6_counts_18 : decode cX6_counts 18 = .ok (.iconst 0, 1) := by decide +kernel
theorem dX6_counts_19 : decode cX6_counts 19 = .ok (.istore_n 3, 1) := by decide +kernel
theorem dX6_counts_20 : decode cX6_counts 20 = .ok (.iload_n 3, 1) := by decide +kernel
theorem dX6_counts_21 : decode cX6_counts 21 = .ok (.iload_n 1, 1) := by decide +kernel
theorem dX6_counts_22 : decode cX6_counts 22 = .ok (.if_icmp .ge 40, 3) := by decide +kernel
theorem dX6_counts_25 : decode cX6_counts 25 = .ok (.iload_n 2, 1) := by decide +kernel
theorem dX6_counts_26 : decode cX6_counts 26 = .ok (.ifCond .eq 28, 3) := by decide +kernel
theorem dX6_counts_29 : decode cX6_counts 29 = .ok (.aload_n 0, 1) := by decide +kernel
theorem dX6_counts_30 : decode cX6_counts 30 = .ok (.getfield 7, 3) := by decide +kernel
theorem dX6_counts_33 : decode cX6_counts 33 = .ok (.bipush 40, 2) := by decide +kernel
theorem dX6_counts_35 : decode cX6_counts 35 = .ok (.iload_n 3, 1) := by decide +kernel
theorem dX6_counts_36 : decode cX6_counts 36 = .ok (.iadd, 1) := by decide +kernel
theorem dX6_counts_37 : decode cX6_counts 37 = .ok (.iaload, 1) := by decide +kernel
theorem dX6_counts_38 : decode cX6_counts 38 = .ok (.aload_n 0, 1) := by decide +kernel
theorem dX6_counts_39 : decode cX6_counts 39 = .ok (.getfield 7, 3) := by decide +kernel
theorem dX6_counts_42 : decode cX6_counts 42 = .ok (.bipush 40, 2) := by decide +kernel
theorem dX6_counts_44 : decode cX6_counts 44 = .ok (.iload_n 1, 1) := by decide +kernel
theorem dX6_counts_45 : decode cX6_counts 45 = .ok (.iadd, 1) := by decide +kernel
theorem dX6_counts_46 : decode cX6_counts 46 = .ok (.iaload, 1) := by decide +kernel
theorem dX6_counts_47 : decode cX6_counts 47 = .ok (.if_icmp .eq 7, 3) := by decide +kernel
theorem dX6_counts_50 : decode cX6_counts 50 = .ok (.iconst 1, 1) := by decide +kernel
theorem dX6_counts_51 : decode cX6_counts 51 = .ok (.goto 4, 3) := by decide +kernel
theorem dX6_counts_54 : decode cX6_counts 54 = .ok (.iconst 0, 1) := by decide +kernel
theorem dX6_counts_55 : decode cX6_counts 55 = .ok (.istore_n 2, 1) := by decide +kernel
theorem dX6_counts_56 : decode cX6_counts 56 = .ok (.iinc 3 1, 3) := by decide +kernel
theorem dX6_counts_59 : decode cX6_counts 59 = .ok (.goto (-39), 3) := by decide +kernel
theorem dX6_counts_62 : decode cX6_counts 62 = .ok (.iload_n 2, 1) := by decide +kernel
theorem dX6_counts_63 : decode cX6_counts 63 = .ok (.ireturn, 1) := by decide +kernel
set_option maxRecDepth 20000 in
theorem ggX6_laysRow_X6_counts : GoodIn wsX6_laysRow wsX6_counts := goodIn_r _ [8, 2, 9, 10, 11, 12, 13, 14, 15, 16, 17, 18, 19, 20, 21] (by decide +kernel) (by decide +kernel)
set_option maxRecDepth 20000 in
theorem gX6_laysRow_X6_counts : GoodIn wsX6_laysRow (wsV RX6 96 RX6 yX6_counts wsX6_counts) := goodIn_app (goodIn_of _ (by decide +kernel)) ggX6_laysRow_X6_counts
theorem dX6_laysRow_0 : decode cX6_laysRow 0 = .ok (.aload_n 0, 1) := by decide +kernel
theorem dX6_laysRow_1 : decode cX6_laysRow 1 = .ok (.iconst 0, 1) := by decide +kernel
theorem dX6_laysRow_2 : decode cX6_laysRow 2 = .ok (.putfield 93, 3) := by decide +kernel
theorem dX6_laysRow_5 : decode cX6_laysRow 5 = .ok (.iconst 0, 1) := by decide +kernel
theorem dX6_laysRow_6 : decode cX6_laysRow 6 = .ok (.istore_n 1, 1) := by decide +kernel
theorem dX6_laysRow_7 : decode cX6_laysRow 7 = .ok (.iload_n 1, 1) := by decide +kernel
theorem dX6_laysRow_8 : decode cX6_laysRow 8 = .ok (.iconst 3, 1) := by decide +kernel
theorem dX6_laysRow_9 : decode cX6_laysRow 9 = .ok (.if_icmp .ge 91, 3) := by decide +kernel
theorem dX6_laysRow_12 : decode cX6_laysRow 12 = .ok (.aload_n 0, 1) := by decide +kernel
theorem dX6_laysRow_13 : decode cX6_laysRow 13 = .ok (.iload_n 1, 1) := by decide +kernel
theorem dX6_laysRow_14 : decode cX6_laysRow 14 = .ok (.invokevirtual 96, 3) := by decide +kernel
theorem dX6_laysRow_17 : decode cX6_laysRow 17 = .ok (.ifCond .eq 77, 3) := by decide +kernel
theorem dX6_laysRow_20 : decode cX6_laysRow 20 = .ok (.aload_n 0, 1) := by decide +kernel
theorem dX6_laysRow_21 : decode cX6_laysRow 21 = .ok (.getfield 93, 3) := by decide +kernel
theorem dX6_laysRow_24 : decode cX6_laysRow 24 = .ok (.istore_n 2, 1) := by decide +kernel
theorem dX6_laysRow_25 : decode cX6_laysRow 25 = .ok (.iload_n 2, 1) := by decide +kernel
theorem dX6_laysRow_26 : decode cX6_laysRow 26 = .ok (.ifCond .le 51, 3) := by decide +kernel
theorem dX6_laysRow_29 : decode cX6_laysRow 29 = .ok (.aload_n 0, 1) := by decide +kernel
theorem dX6_laysRow_30 : decode cX6_laysRow 30 = .ok (.getfield 7, 3) := by decide +kernel
theorem dX6_laysRow_33 : decode cX6_laysRow 33 = .ok (.bipush 40, 2) := by decide +kernel
theorem dX6_laysRow_35 : decode cX6_laysRow 35 = .ok (.aload_n 0, 1) := by decide +kernel
theorem dX6_laysRow_36 : decode cX6_laysRow 36 = .ok (.getfield 22, 3) := by decide +kernel
theorem dX6_laysRow_39 : decode cX6_laysRow 39 = .ok (.iload_n 2, 1) := by decide +kernel
theorem dX6_laysRow_40 : decode cX6_laysRow 40 = .ok (.iconst 1, 1) := by decide +kernel
theorem dX6_laysRow_41 : decode cX6_laysRow 41 = .ok (.isub, 1) := by decide +kernel
theorem dX6_laysRow_42 : decode cX6_laysRow 42 = .ok (.iaload, 1) := by decide +kernel
theorem dX6_laysRow_43 : decode cX6_laysRow 43 = .ok (.iadd, 1) := by decide +kernel
theorem dX6_laysRow_44 : decode cX6_laysRow 44 = .ok (.iaload, 1) := by decide +kernel
theorem dX6_laysRow_45 : decode cX6_laysRow 45 = .ok (.aload_n 0, 1) := by decide +kernel
theorem dX6_laysRow_46 : decode cX6_laysRow 46 = .ok (.getfield 7, 3) := by decide +kernel
theorem dX6_laysRow_49 : decode cX6_laysRow 49 = .ok (.bipush 40, 2) := by decide +kernel
theorem dX6_laysRow_51 : decode cX6_laysRow 51 = .ok (.iload_n 1, 1) := by decide +kernel
theorem dX6_laysRow_52 : decode cX6_laysRow 52 = .ok (.iadd, 1) := by decide +kernel
theorem dX6_laysRow_53 : decode cX6_laysRow 53 = .ok (.iaload, 1) := by decide +kernel
theorem dX6_laysRow_54 : decode cX6_laysRow 54 = .ok (.if_icmp .le 23, 3) := by decide +kernel
theorem dX6_laysRow_57 : decode cX6_laysRow 57 = .ok (.aload_n 0, 1) := by decide +kernel
theorem dX6_laysRow_58 : decode cX6_laysRow 58 = .ok (.getfield 22, 3) := by decide +kernel
theorem dX6_laysRow_61 : decode cX6_laysRow 61 = .ok (.iload_n 2, 1) := by decide +kernel
theorem dX6_laysRow_62 : decode cX6_laysRow 62 = .ok (.aload_n 0, 1) := by decide +kernel
theorem dX6_laysRow_63 : decode cX6_laysRow 63 = .ok (.getfield 22, 3) := by decide +kernel
theorem dX6_laysRow_66 : decode cX6_laysRow 66 = .ok (.iload_n 2, 1) := by decide +kernel
theorem dX6_laysRow_67 : decode cX6_laysRow 67 = .ok (.iconst 1, 1) := by decide +kernel
theorem dX6_laysRow_68 : decode cX6_laysRow 68 = .ok (.isub, 1) := by decide +kernel
theorem dX6_laysRow_69 : decode cX6_laysRow 69 = .ok (.iaload, 1) := by decide +kernel
theorem dX6_laysRow_70 : decode cX6_laysRow 70 = .ok (.iastore, 1) := by decide +kernel
theorem dX6_laysRow_71 : decode cX6_laysRow 71 = .ok (.iinc 2 (-1), 3) := by decide +kernel
theorem dX6_laysRow_74 : decode cX6_laysRow 74 = .ok (.goto (-49), 3) := by decide +kernel
theorem dX6_laysRow_77 : decode cX6_laysRow 77 = .ok (.aload_n 0, 1) := by decide +kernel
theorem dX6_laysRow_78 : decode cX6_laysRow 78 = .ok (.getfield 22, 3) := by decide +kernel
theorem dX6_laysRow_81 : decode cX6_laysRow 81 = .ok (.iload_n 2, 1) := by decide +kernel
theorem dX6_laysRow_82 : decode cX6_laysRow 82 = .ok (.iload_n 1, 1) := by decide +kernel
theorem dX6_laysRow_83 : decode cX6_laysRow 83 = .ok (.iastore, 1) := by decide +kernel
theorem dX6_laysRow_84 : decode cX6_laysRow 84 = .ok (.aload_n 0, 1) := by decide +kernel
theorem dX6_laysRow_85 : decode cX6_laysRow 85 = .ok (.dup, 1) := by decide +kernel
theorem dX6_laysRow_86 : decode cX6_laysRow 86 = .ok (.getfield 93, 3) := by decide +kernel
theorem dX6_laysRow_89 : decode cX6_laysRow 89 = .ok (.iconst 1, 1) := by decide +kernel
theorem dX6_laysRow_90 : decode cX6_laysRow 90 = .ok (.iadd, 1) := by decide +kernel
theorem dX6_laysRow_91 : decode cX6_laysRow 91 = .ok (.putfield 93, 3) := by decide +kernel
theorem dX6_laysRow_94 : decode cX6_laysRow 94 = .ok (.iinc 1 1, 3) := by decide +kernel
theorem dX6_laysRow_97 : decode cX6_laysRow 97 = .ok (.goto (-90), 3) := by decide +kernel
theorem dX6_laysRow_100 : decode cX6_laysRow 100 = .ok (.return_, 1) := by decide +kernel
theorem dX6_alone_0 : decode cX6_alone 0 = .ok (.iload_n 2, 1) := by decide +kernel
theorem dX6_alone_1 : decode cX6_alone 1 = .ok (.i2l, 1) := by decide +kernel
theorem dX6_alone_2 : decode cX6_alone 2 = .ok (.aload_n 0, 1) := by decide +kernel
theorem dX6_alone_3 : decode cX6_alone 3 = .ok (.getfield 7, 3) := by decide +kernel
theorem dX6_alone_6 : decode cX6_alone 6 = .ok (.bipush 43, 2) := by decide +kernel
theorem dX6_alone_8 : decode cX6_alone 8 = .ok (.iload_n 1, 1) := by decide +kernel
theorem dX6_alone_9 : decode cX6_alone 9 = .ok (.iadd, 1) := by decide +kernel
theorem dX6_alone_10 : decode cX6_alone 10 = .ok (.iaload, 1) := by decide +kernel
theorem dX6_alone_11 : decode cX6_alone 11 = .ok (.i2l, 1) := by decide +kernel
theorem dX6_alone_12 : decode cX6_alone 12 = .ok (.lmul, 1) := by decide +kernel
theorem dX6_alone_13 : decode cX6_alone 13 = .ok (.aload_n 0, 1) := by decide +kernel
theorem dX6_alone_14 : decode cX6_alone 14 = .ok (.getfield 7, 3) := by decide +kernel
theorem dX6_alone_17 : decode cX6_alone 17 = .ok (.bipush 40, 2) := by decide +kernel
theorem dX6_alone_19 : decode cX6_alone 19 = .ok (.iload_n 1, 1) := by decide +kernel
theorem dX6_alone_20 : decode cX6_alone 20 = .ok (.iadd, 1) := by decide +kernel
theorem dX6_alone_21 : decode cX6_alone 21 = .ok (.iaload, 1) := by decide +kernel
theorem dX6_alone_22 : decode cX6_alone 22 = .ok (.i2l, 1) := by decide +kernel
theorem dX6_alone_23 : decode cX6_alone 23 = .ok (.ldiv, 1) := by decide +kernel
theorem dX6_alone_24 : decode cX6_alone 24 = .ok (.lreturn, 1) := by decide +kernel
theorem dX6_down_0 : decode cX6_down 0 = .ok (.lload_n 0, 1) := by decide +kernel
theorem dX6_down_1 : decode cX6_down 1 = .ok (.lload_n 2, 1) := by decide +kernel
theorem dX6_down_2 : decode cX6_down 2 = .ok (.ldiv, 1) := by decide +kernel
theorem dX6_down_3 : decode cX6_down 3 = .ok (.lstore 4, 2) := by decide +kernel
theorem dX6_down_5 : decode cX6_down 5 = .ok (.lload 4, 2) := by decide +kernel
theorem dX6_down_7 : decode cX6_down 7 = .ok (.lload_n 2, 1) := by decide +kernel
theorem dX6_down_8 : decode cX6_down 8 = .ok (.lmul, 1) := by decide +kernel
theorem dX6_down_9 : decode cX6_down 9 = .ok (.lload_n 0, 1) := by decide +kernel
theorem dX6_down_10 : decode cX6_down 10 = .ok (.lcmp, 1) := by decide +kernel
theorem dX6_down_11 : decode cX6_down 11 = .ok (.ifCond .le 10, 3) := by decide +kernel
theorem dX6_down_14 : decode cX6_down 14 = .ok (.lload 4, 2) := by decide +kernel
theorem dX6_down_16 : decode cX6_down 16 = .ok (.lconst 1, 1) := by decide +kernel
theorem dX6_down_17 : decode cX6_down 17 = .ok (.lsub, 1) := by decide +kernel
theorem dX6_down_18 : decode cX6_down 18 = .ok (.goto 5, 3) := by decide +kernel
theorem dX6_down_21 : decode cX6_down 21 = .ok (.lload 4, 2) := by decide +kernel
theorem dX6_down_23 : decode cX6_down 23 = .ok (.lreturn, 1) := by decide +kernel
set_option maxRecDepth 20000 in
theorem ggX6_between_X6_down : GoodIn wsX6_between wsX6_down := goodIn_r _ [5] (by decide +kernel) (by decide +kernel)
set_option maxRecDepth 20000 in
theorem gX6_between_X6_down : GoodIn wsX6_between (va_wsS RX6 99 yX6_down wsX6_down) := goodIn_app (goodIn_of _ (by decide +kernel)) ggX6_between_X6_down
theorem dX6_between_0 : decode cX6_between 0 = .ok (.aload_n 0, 1) := by decide +kernel
theorem dX6_between_1 : decode cX6_between 1 = .ok (.getfield 7, 3) := by decide +kernel
theorem dX6_between_4 : decode cX6_between 4 = .ok (.bipush 40, 2) := by decide +kernel
theorem dX6_between_6 : decode cX6_between 6 = .ok (.iload_n 1, 1) := by decide +kernel
theorem dX6_between_7 : decode cX6_between 7 = .ok (.iadd, 1) := by decide +kernel
theorem dX6_between_8 : decode cX6_between 8 = .ok (.iaload, 1) := by decide +kernel
theorem dX6_between_9 : decode cX6_between 9 = .ok (.i2l, 1) := by decide +kernel
theorem dX6_between_10 : decode cX6_between 10 = .ok (.lstore 4, 2) := by decide +kernel
theorem dX6_between_12 : decode cX6_between 12 = .ok (.aload_n 0, 1) := by decide +kernel
theorem dX6_between_13 : decode cX6_between 13 = .ok (.getfield 7, 3) := by decide +kernel
theorem dX6_between_16 : decode cX6_between 16 = .ok (.bipush 40, 2) := by decide +kernel
theorem dX6_between_18 : decode cX6_between 18 = .ok (.iload_n 2, 1) := by decide +kernel
theorem dX6_between_19 : decode cX6_between 19 = .ok (.iadd, 1) := by decide +kernel
theorem dX6_between_20 : decode cX6_between 20 = .ok (.iaload, 1) := by decide +kernel
theorem dX6_between_21 : decode cX6_between 21 = .ok (.i2l, 1) := by decide +kernel
theorem dX6_between_22 : decode cX6_between 22 = .ok (.lstore 6, 2) := by decide +kernel
theorem dX6_between_24 : decode cX6_between 24 = .ok (.aload_n 0, 1) := by decide +kernel
theorem dX6_between_25 : decode cX6_between 25 = .ok (.getfield 7, 3) := by decide +kernel
theorem dX6_between_28 : decode cX6_between 28 = .ok (.bipush 43, 2) := by decide +kernel
theorem dX6_between_30 : decode cX6_between 30 = .ok (.iload_n 2, 1) := by decide +kernel
theorem dX6_between_31 : decode cX6_between 31 = .ok (.iadd, 1) := by decide +kernel
theorem dX6_between_32 : decode cX6_between 32 = .ok (.iaload, 1) := by decide +kernel
theorem dX6_between_33 : decode cX6_between 33 = .ok (.aload_n 0, 1) := by decide +kernel
theorem dX6_between_34 : decode cX6_between 34 = .ok (.getfield 7, 3) := by decide +kernel
theorem dX6_between_37 : decode cX6_between 37 = .ok (.bipush 43, 2) := by decide +kernel
theorem dX6_between_39 : decode cX6_between 39 = .ok (.iload_n 1, 1) := by decide +kernel
theorem dX6_between_40 : decode cX6_between 40 = .ok (.iadd, 1) := by decide +kernel
theorem dX6_between_41 : decode cX6_between 41 = .ok (.iaload, 1) := by decide +kernel
theorem dX6_between_42 : decode cX6_between 42 = .ok (.isub, 1) := by decide +kernel
theorem dX6_between_43 : decode cX6_between 43 = .ok (.i2l, 1) := by decide +kernel
theorem dX6_between_44 : decode cX6_between 44 = .ok (.lstore 8, 2) := by decide +kernel
theorem dX6_between_46 : decode cX6_between 46 = .ok (.aload_n 0, 1) := by decide +kernel
theorem dX6_between_47 : decode cX6_between 47 = .ok (.getfield 7, 3) := by decide +kernel
theorem dX6_between_50 : decode cX6_between 50 = .ok (.bipush 43, 2) := by decide +kernel
theorem dX6_between_52 : decode cX6_between 52 = .ok (.iload_n 1, 1) := by decide +kernel
theorem dX6_between_53 : decode cX6_between 53 = .ok (.iadd, 1) := by decide +kernel
theorem dX6_between_54 : decode cX6_between 54 = .ok (.iaload, 1) := by decide +kernel
theorem dX6_between_55 : decode cX6_between 55 = .ok (.i2l, 1) := by decide +kernel
theorem dX6_between_56 : decode cX6_between 56 = .ok (.iload_n 3, 1) := by decide +kernel
theorem dX6_between_57 : decode cX6_between 57 = .ok (.i2l, 1) := by decide +kernel
theorem dX6_between_58 : decode cX6_between 58 = .ok (.lload 4, 2) := by decide +kernel
theorem dX6_between_60 : decode cX6_between 60 = .ok (.lsub, 1) := by decide +kernel
theorem dX6_between_61 : decode cX6_between 61 = .ok (.lload 8, 2) := by decide +kernel
theorem dX6_between_63 : decode cX6_between 63 = .ok (.lmul, 1) := by decide +kernel
theorem dX6_between_64 : decode cX6_between 64 = .ok (.lload 6, 2) := by decide +kernel
theorem dX6_between_66 : decode cX6_between 66 = .ok (.lload 4, 2) := by decide +kernel
theorem dX6_between_68 : decode cX6_between 68 = .ok (.lsub, 1) := by decide +kernel
theorem dX6_between_69 : decode cX6_between 69 = .ok (.invokestatic 99, 3) := by decide +kernel
theorem dX6_between_72 : decode cX6_between 72 = .ok (.ladd, 1) := by decide +kernel
theorem dX6_between_73 : decode cX6_between 73 = .ok (.lreturn, 1) := by decide +kernel
set_option maxRecDepth 20000 in
theorem ggX6_mends_X6_laysRow : GoodIn wsX6_mends wsX6_laysRow := goodIn_r _ [10, 1, 3, 2, 11, 12, 13, 9, 14, 26, 27, 28, 29, 30, 31, 32, 33, 34, 35, 36, 37, 38] (by decide +kernel) (by decide +kernel)
set_option maxRecDepth 20000 in
theorem gX6_mends_X6_laysRow : GoodIn wsX6_mends (wsV RX6 103 RX6 yX6_laysRow wsX6_laysRow) := goodIn_app (goodIn_of _ (by decide +kernel)) ggX6_mends_X6_laysRow
set_option maxRecDepth 20000 in
theorem ggX6_mends_X6_alone : GoodIn wsX6_mends wsX6_alone := goodIn_r _ [18, 3, 26, 27, 28, 29, 30, 31, 32, 33, 34, 35, 36, 37, 38] (by decide +kernel) (by decide +kernel)
set_option maxRecDepth 20000 in
theorem gX6_mends_X6_alone : GoodIn wsX6_mends (wsV RX6 106 RX6 yX6_alone wsX6_alone) := goodIn_app (goodIn_of _ (by decide +kernel)) ggX6_mends_X6_alone
set_option maxRecDepth 20000 in
theorem ggX6_mends_X6_between : GoodIn wsX6_mends wsX6_between := goodIn_r _ [22, 3, 23, 24, 9, 25, 26, 27, 28, 29, 30, 31, 32, 33, 34, 35, 36, 37, 38] (by decide +kernel) (by decide +kernel)
set_option maxRecDepth 20000 in
theorem gX6_mends_X6_between : GoodIn wsX6_mends (wsV RX6 110 RX6 yX6_between wsX6_between) := goodIn_app (goodIn_of _ (by decide +kernel)) ggX6_mends_X6_between
theorem dX6_mends_0 : decode cX6_mends 0 = .ok (.aload_n 0, 1) := by decide +kernel
theorem dX6_mends_1 : decode cX6_mends 1 = .ok (.invokevirtual 103, 3) := by decide +kernel
theorem dX6_mends_4 : decode cX6_mends 4 = .ok (.aload_n 0, 1) := by decide +kernel
theorem dX6_mends_5 : decode cX6_mends 5 = .ok (.getfield 93, 3) := by decide +kernel
theorem dX6_mends_8 : decode cX6_mends 8 = .ok (.ifCond .ne 5, 3) := by decide +kernel
theorem dX6_mends_11 : decode cX6_mends 11 = .ok (.iconst (-1), 1) := by decide +kernel
theorem dX6_mends_12 : decode cX6_mends 12 = .ok (.ireturn, 1) := by decide +kernel
theorem dX6_mends_13 : decode cX6_mends 13 = .ok (.aload_n 0, 1) := by decide +kernel
theorem dX6_mends_14 : decode cX6_mends 14 = .ok (.getfield 22, 3) := by decide +kernel
theorem dX6_mends_17 : decode cX6_mends 17 = .ok (.aload_n 0, 1) := by decide +kernel
theorem dX6_mends_18 : decode cX6_mends 18 = .ok (.getfield 93, 3) := by decide +kernel
theorem dX6_mends_21 : decode cX6_mends 21 = .ok (.iconst 1, 1) := by decide +kernel
theorem dX6_mends_22 : decode cX6_mends 22 = .ok (.isub, 1) := by decide +kernel
theorem dX6_mends_23 : decode cX6_mends 23 = .ok (.iaload, 1) := by decide +kernel
theorem dX6_mends_24 : decode cX6_mends 24 = .ok (.istore_n 2, 1) := by decide +kernel
theorem dX6_mends_25 : decode cX6_mends 25 = .ok (.iload_n 1, 1) := by decide +kernel
theorem dX6_mends_26 : decode cX6_mends 26 = .ok (.aload_n 0, 1) := by decide +kernel
theorem dX6_mends_27 : decode cX6_mends 27 = .ok (.getfield 7, 3) := by decide +kernel
theorem dX6_mends_30 : decode cX6_mends 30 = .ok (.bipush 40, 2) := by decide +kernel
theorem dX6_mends_32 : decode cX6_mends 32 = .ok (.aload_n 0, 1) := by decide +kernel
theorem dX6_mends_33 : decode cX6_mends 33 = .ok (.getfield 22, 3) := by decide +kernel
theorem dX6_mends_36 : decode cX6_mends 36 = .ok (.iconst 0, 1) := by decide +kernel
theorem dX6_mends_37 : decode cX6_mends 37 = .ok (.iaload, 1) := by decide +kernel
theorem dX6_mends_38 : decode cX6_mends 38 = .ok (.iadd, 1) := by decide +kernel
theorem dX6_mends_39 : decode cX6_mends 39 = .ok (.iaload, 1) := by decide +kernel
theorem dX6_mends_40 : decode cX6_mends 40 = .ok (.if_icmp .lt 11, 3) := by decide +kernel
theorem dX6_mends_43 : decode cX6_mends 43 = .ok (.aload_n 0, 1) := by decide +kernel
theorem dX6_mends_44 : decode cX6_mends 44 = .ok (.getfield 93, 3) := by decide +kernel
theorem dX6_mends_47 : decode cX6_mends 47 = .ok (.iconst 1, 1) := by decide +kernel
theorem dX6_mends_48 : decode cX6_mends 48 = .ok (.if_icmp .ne 18, 3) := by decide +kernel
theorem dX6_mends_51 : decode cX6_mends 51 = .ok (.aload_n 0, 1) := by decide +kernel
theorem dX6_mends_52 : decode cX6_mends 52 = .ok (.aload_n 0, 1) := by decide +kernel
theorem dX6_mends_53 : decode cX6_mends 53 = .ok (.getfield 22, 3) := by decide +kernel
theorem dX6_mends_56 : decode cX6_mends 56 = .ok (.iconst 0, 1) := by decide +kernel
theorem dX6_mends_57 : decode cX6_mends 57 = .ok (.iaload, 1) := by decide +kernel
theorem dX6_mends_58 : decode cX6_mends 58 = .ok (.iload_n 1, 1) := by decide +kernel
theorem dX6_mends_59 : decode cX6_mends 59 = .ok (.invokevirtual 106, 3) := by decide +kernel
theorem dX6_mends_62 : decode cX6_mends 62 = .ok (.lstore_n 3, 1) := by decide +kernel
theorem dX6_mends_63 : decode cX6_mends 63 = .ok (.goto 76, 3) := by decide +kernel
theorem dX6_mends_66 : decode cX6_mends 66 = .ok (.iload_n 1, 1) := by decide +kernel
theorem dX6_mends_67 : decode cX6_mends 67 = .ok (.aload_n 0, 1) := by decide +kernel
theorem dX6_mends_68 : decode cX6_mends 68 = .ok (.getfield 7, 3) := by decide +kernel
theorem dX6_mends_71 : decode cX6_mends 71 = .ok (.bipush 40, 2) := by decide +kernel
theorem dX6_mends_73 : decode cX6_mends 73 = .ok (.iload_n 2, 1) := by decide +kernel
theorem dX6_mends_74 : decode cX6_mends 74 = .ok (.iadd, 1) := by decide +kernel
theorem dX6_mends_75 : decode cX6_mends 75 = .ok (.iaload, 1) := by decide +kernel
theorem dX6_mends_76 : decode cX6_mends 76 = .ok (.if_icmp .le 13, 3) := by decide +kernel
theorem dX6_mends_79 : decode cX6_mends 79 = .ok (.aload_n 0, 1) := by decide +kernel
theorem dX6_mends_80 : decode cX6_mends 80 = .ok (.iload_n 2, 1) := by decide +kernel
theorem dX6_mends_81 : decode cX6_mends 81 = .ok (.iload_n 1, 1) := by decide +kernel
theorem dX6_mends_82 : decode cX6_mends 82 = .ok (.invokevirtual 106, 3) := by decide +kernel
theorem dX6_mends_85 : decode cX6_mends 85 = .ok (.lstore_n 3, 1) := by decide +kernel
theorem dX6_mends_86 : decode cX6_mends 86 = .ok (.goto 53, 3) := by decide +kernel
theorem dX6_mends_89 : decode cX6_mends 89 = .ok (.iconst 1, 1) := by decide +kernel
theorem dX6_mends_90 : decode cX6_mends 90 = .ok (.istore 5, 2) := by decide +kernel
theorem dX6_mends_92 : decode cX6_mends 92 = .ok (.iload_n 1, 1) := by decide +kernel
theorem dX6_mends_93 : decode cX6_mends 93 = .ok (.aload_n 0, 1) := by decide +kernel
theorem dX6_mends_94 : decode cX6_mends 94 = .ok (.getfield 7, 3) := by decide +kernel
theorem dX6_mends_97 : decode cX6_mends 97 = .ok (.bipush 40, 2) := by decide +kernel
theorem dX6_mends_99 : decode cX6_mends 99 = .ok (.aload_n 0, 1) := by decide +kernel
theorem dX6_mends_100 : decode cX6_mends 100 = .ok (.getfield 22, 3) := by decide +kernel
theorem dX6_mends_103 : decode cX6_mends 103 = .ok (.iload 5, 2) := by decide +kernel
theorem dX6_mends_105 : decode cX6_mends 105 = .ok (.iaload, 1) := by decide +kernel
theorem dX6_mends_106 : decode cX6_mends 106 = .ok (.iadd, 1) := by decide +kernel
theorem dX6_mends_107 : decode cX6_mends 107 = .ok (.iaload, 1) := by decide +kernel
theorem dX6_mends_108 : decode cX6_mends 108 = .ok (.if_icmp .le 9, 3) := by decide +kernel
theorem dX6_mends_111 : decode cX6_mends 111 = .ok (.iinc 5 1, 3) := by decide +kernel
theorem dX6_mends_114 : decode cX6_mends 114 = .ok (.goto (-22), 3) := by decide +kernel
theorem dX6_mends_117 : decode cX6_mends 117 = .ok (.aload_n 0, 1) := by decide +kernel
theorem dX6_mends_118 : decode cX6_mends 118 = .ok (.aload_n 0, 1) := by decide +kernel
theorem dX6_mends_119 : decode cX6_mends 119 = .ok (.getfield 22, 3) := by decide +kernel
theorem dX6_mends_122 : decode cX6_mends 122 = .ok (.iload 5, 2) := by decide +kernel
theorem dX6_mends_124 : decode cX6_mends 124 = .ok (.iconst 1, 1) := by decide +kernel
theorem dX6_mends_125 : decode cX6_mends 125 = .ok (.isub, 1) := by decide +kernel
theorem dX6_mends_126 : decode cX6_mends 126 = .ok (.iaload, 1) := by decide +kernel
theorem dX6_mends_127 : decode cX6_mends 127 = .ok (.aload_n 0, 1) := by decide +kernel
theorem dX6_mends_128 : decode cX6_mends 128 = .ok (.getfield 22, 3) := by decide +kernel
theorem dX6_mends_131 : decode cX6_mends 131 = .ok (.iload 5, 2) := by decide +kernel
theorem dX6_mends_133 : decode cX6_mends 133 = .ok (.iaload, 1) := by decide +kernel
theorem dX6_mends_134 : decode cX6_mends 134 = .ok (.iload_n 1, 1) := by decide +kernel
theorem dX6_mends_135 : decode cX6_mends 135 = .ok (.invokevirtual 110, 3) := by decide +kernel
theorem dX6_mends_138 : decode cX6_mends 138 = .ok (.lstore_n 3, 1) := by decide +kernel
theorem dX6_mends_139 : decode cX6_mends 139 = .ok (.lload_n 3, 1) := by decide +kernel
theorem dX6_mends_140 : decode cX6_mends 140 = .ok (.ldc2_w 114, 3) := by decide +kernel
theorem dX6_mends_143 : decode cX6_mends 143 = .ok (.lcmp, 1) := by decide +kernel
theorem dX6_mends_144 : decode cX6_mends 144 = .ok (.ifCond .le 8, 3) := by decide +kernel
theorem dX6_mends_147 : decode cX6_mends 147 = .ok (.ldc 116, 2) := by decide +kernel
theorem dX6_mends_149 : decode cX6_mends 149 = .ok (.goto 5, 3) := by decide +kernel
theorem dX6_mends_152 : decode cX6_mends 152 = .ok (.lload_n 3, 1) := by decide +kernel
theorem dX6_mends_153 : decode cX6_mends 153 = .ok (.l2i, 1) := by decide +kernel
theorem dX6_mends_154 : decode cX6_mends 154 = .ok (.ireturn, 1) := by decide +kernel
set_option maxRecDepth 20000 in
theorem ggX6_mended_X6_in : GoodIn wsX6_mended wsX6_in := goodIn_r _ [7] (by decide +kernel) (by decide +kernel)
set_option maxRecDepth 20000 in
theorem gX6_mended_X6_in : GoodIn wsX6_mended (va_wsS RX6 65 yX6_in wsX6_in) := goodIn_app (goodIn_of _ (by decide +kernel)) ggX6_mended_X6_in
set_option maxRecDepth 20000 in
theorem ggX6_mended_X6_mends : GoodIn wsX6_mended wsX6_mends := goodIn_r _ [11, 12, 13, 14, 15, 16, 17, 18, 19, 6, 20, 21, 22, 23, 24, 25, 26, 27, 28, 29, 30, 31, 32, 33, 34, 35, 36, 37, 38, 39, 40, 41, 42, 43, 44, 45, 46, 47, 48] (by decide +kernel) (by decide +kernel)
set_option maxRecDepth 20000 in
theorem gX6_mended_X6_mends : GoodIn wsX6_mended (wsV RX6 46 RX6 yX6_mends wsX6_mends) := goodIn_app (goodIn_of _ (by decide +kernel)) ggX6_mended_X6_mends
theorem dX6_mended_0 : decode cX6_mended 0 = .ok (.iload_n 1, 1) := by decide +kernel
theorem dX6_mended_1 : decode cX6_mended 1 = .ok (.iconst 0, 1) := by decide +kernel
theorem dX6_mended_2 : decode cX6_mended 2 = .ok (.ldc 80, 2) := by decide +kernel
theorem dX6_mended_4 : decode cX6_mended 4 = .ok (.invokestatic 65, 3) := by decide +kernel
theorem dX6_mended_7 : decode cX6_mended 7 = .ok (.ifCond .ne 6, 3) := by decide +kernel
theorem dX6_mended_10 : decode cX6_mended 10 = .ok (.ldc 69, 2) := by decide +kernel
theorem dX6_mended_12 : decode cX6_mended 12 = .ok (.ireturn, 1) := by decide +kernel
theorem dX6_mended_13 : decode cX6_mended 13 = .ok (.aload_n 0, 1) := by decide +kernel
theorem dX6_mended_14 : decode cX6_mended 14 = .ok (.iload_n 1, 1) := by decide +kernel
theorem dX6_mended_15 : decode cX6_mended 15 = .ok (.invokevirtual 46, 3) := by decide +kernel
theorem dX6_mended_18 : decode cX6_mended 18 = .ok (.istore_n 2, 1) := by decide +kernel
theorem dX6_mended_19 : decode cX6_mended 19 = .ok (.iload_n 2, 1) := by decide +kernel
theorem dX6_mended_20 : decode cX6_mended 20 = .ok (.iconst (-1), 1) := by decide +kernel
theorem dX6_mended_21 : decode cX6_mended 21 = .ok (.if_icmp .ne 8, 3) := by decide +kernel
theorem dX6_mended_24 : decode cX6_mended 24 = .ok (.ldc 117, 2) := by decide +kernel
theorem dX6_mended_26 : decode cX6_mended 26 = .ok (.goto 4, 3) := by decide +kernel
theorem dX6_mended_29 : decode cX6_mended 29 = .ok (.iload_n 2, 1) := by decide +kernel
theorem dX6_mended_30 : decode cX6_mended 30 = .ok (.ireturn, 1) := by decide +kernel
set_option maxRecDepth 20000 in
theorem ggX6_pairOf_X6_in : GoodIn wsX6_pairOf wsX6_in := goodIn_r _ [7] (by decide +kernel) (by decide +kernel)
set_option maxRecDepth 20000 in
theorem gX6_pairOf_X6_in : GoodIn wsX6_pairOf (va_wsS RX6 65 yX6_in wsX6_in) := goodIn_app (goodIn_of _ (by decide +kernel)) ggX6_pairOf_X6_in
theorem dX6_pairOf_0 : decode cX6_pairOf 0 = .ok (.iload_n 1, 1) := by decide +kernel
theorem dX6_pairOf_1 : decode cX6_pairOf 1 = .ok (.iconst 0, 1) := by decide +kernel
theorem dX6_pairOf_2 : decode cX6_pairOf 2 = .ok (.iconst 2, 1) := by decide +kernel
theorem dX6_pairOf_3 : decode cX6_pairOf 3 = .ok (.invokestatic 65, 3) := by decide +kernel
theorem dX6_pairOf_6 : decode cX6_pairOf 6 = .ok (.ifCond .eq 12, 3) := by decide +kernel
theorem dX6_pairOf_9 : decode cX6_pairOf 9 = .ok (.iload_n 2, 1) := by decide +kernel
theorem dX6_pairOf_10 : decode cX6_pairOf 10 = .ok (.iconst 0, 1) := by decide +kernel
theorem dX6_pairOf_11 : decode cX6_pairOf 11 = .ok (.iconst 1, 1) := by decide +kernel
theorem dX6_pairOf_12 : decode cX6_pairOf 12 = .ok (.invokestatic 65, 3) := by decide +kernel
theorem dX6_pairOf_15 : decode cX6_pairOf 15 = .ok (.ifCond .ne 6, 3) := by decide +kernel
theorem dX6_pairOf_18 : decode cX6_pairOf 18 = .ok (.ldc 69, 2) := by decide +kernel
theorem dX6_pairOf_20 : decode cX6_pairOf 20 = .ok (.ireturn, 1) := by decide +kernel
theorem dX6_pairOf_21 : decode cX6_pairOf 21 = .ok (.aload_n 0, 1) := by decide +kernel
theorem dX6_pairOf_22 : decode cX6_pairOf 22 = .ok (.getfield 7, 3) := by decide +kernel
theorem dX6_pairOf_25 : decode cX6_pairOf 25 = .ok (.bipush 40, 2) := by decide +kernel
theorem dX6_pairOf_27 : decode cX6_pairOf 27 = .ok (.iload_n 1, 1) := by decide +kernel
theorem dX6_pairOf_28 : decode cX6_pairOf 28 = .ok (.iadd, 1) := by decide +kernel
theorem dX6_pairOf_29 : decode cX6_pairOf 29 = .ok (.iaload, 1) := by decide +kernel
theorem dX6_pairOf_30 : decode cX6_pairOf 30 = .ok (.iconst (-1), 1) := by decide +kernel
theorem dX6_pairOf_31 : decode cX6_pairOf 31 = .ok (.if_icmp .ne 8, 3) := by decide +kernel
theorem dX6_pairOf_34 : decode cX6_pairOf 34 = .ok (.ldc 117, 2) := by decide +kernel
theorem dX6_pairOf_36 : decode cX6_pairOf 36 = .ok (.goto 21, 3) := by decide +kernel
theorem dX6_pairOf_39 : decode cX6_pairOf 39 = .ok (.aload_n 0, 1) := by decide +kernel
theorem dX6_pairOf_40 : decode cX6_pairOf 40 = .ok (.getfield 7, 3) := by decide +kernel
theorem dX6_pairOf_43 : decode cX6_pairOf 43 = .ok (.iload_n 2, 1) := by decide +kernel
theorem dX6_pairOf_44 : decode cX6_pairOf 44 = .ok (.ifCond .ne 8, 3) := by decide +kernel
theorem dX6_pairOf_47 : decode cX6_pairOf 47 = .ok (.bipush 40, 2) := by decide +kernel
theorem dX6_pairOf_49 : decode cX6_pairOf 49 = .ok (.goto 5, 3) := by decide +kernel
theorem dX6_pairOf_52 : decode cX6_pairOf 52 = .ok (.bipush 43, 2) := by decide +kernel
theorem dX6_pairOf_54 : decode cX6_pairOf 54 = .ok (.iload_n 1, 1) := by decide +kernel
theorem dX6_pairOf_55 : decode cX6_pairOf 55 = .ok (.iadd, 1) := by decide +kernel
theorem dX6_pairOf_56 : decode cX6_pairOf 56 = .ok (.iaload, 1) := by decide +kernel
theorem dX6_pairOf_57 : decode cX6_pairOf 57 = .ok (.ireturn, 1) := by decide +kernel
set_option maxRecDepth 20000 in
theorem ggX6_stageOf_X6_isStage : GoodIn wsX6_stageOf wsX6_isStage := goodIn_r _ [7, 2, 8, 9, 6, 10, 20, 21, 22, 23, 24, 25, 26, 27, 28, 29, 30, 31, 32] (by decide +kernel) (by decide +kernel)
set_option maxRecDepth 20000 in
theorem gX6_stageOf_X6_isStage : GoodIn wsX6_stageOf (wsV RX6 73 RX6 yX6_isStage wsX6_isStage) := goodIn_app (goodIn_of _ (by decide +kernel)) ggX6_stageOf_X6_isStage
set_option maxRecDepth 20000 in
theorem ggX6_stageOf_X6_staying : GoodIn wsX6_stageOf wsX6_staying := goodIn_r _ [13] (by decide +kernel) (by decide +kernel)
set_option maxRecDepth 20000 in
theorem gX6_stageOf_X6_staying : GoodIn wsX6_stageOf (va_wsS RX6 36 yX6_staying wsX6_staying) := goodIn_app (goodIn_of _ (by decide +kernel)) ggX6_stageOf_X6_staying
set_option maxRecDepth 20000 in
theorem ggX6_stageOf_X6_leaking : GoodIn wsX6_stageOf wsX6_leaking := goodIn_r _ [16, 11, 12, 6, 13] (by decide +kernel) (by decide +kernel)
set_option maxRecDepth 20000 in
theorem gX6_stageOf_X6_leaking : GoodIn wsX6_stageOf (va_wsS RX6 40 yX6_leaking wsX6_leaking) := goodIn_app (goodIn_of _ (by decide +kernel)) ggX6_stageOf_X6_leaking
set_option maxRecDepth 20000 in
theorem ggX6_stageOf_X6_moving : GoodIn wsX6_stageOf wsX6_moving := goodIn_r _ [19, 11, 12, 6, 13, 14, 15, 16] (by decide +kernel) (by decide +kernel)
set_option maxRecDepth 20000 in
theorem gX6_stageOf_X6_moving : GoodIn wsX6_stageOf (va_wsS RX6 43 yX6_moving wsX6_moving) := goodIn_app (goodIn_of _ (by decide +kernel)) ggX6_stageOf_X6_moving
theorem dX6_stageOf_0 : decode cX6_stageOf 0 = .ok (.aload_n 0, 1) := by decide +kernel
theorem dX6_stageOf_1 : decode cX6_stageOf 1 = .ok (.iload_n 1, 1) := by decide +kernel
theorem dX6_stageOf_2 : decode cX6_stageOf 2 = .ok (.invokevirtual 73, 3) := by decide +kernel
theorem dX6_stageOf_5 : decode cX6_stageOf 5 = .ok (.ifCond .ne 6, 3) := by decide +kernel
theorem dX6_stageOf_8 : decode cX6_stageOf 8 = .ok (.ldc 69, 2) := by decide +kernel
theorem dX6_stageOf_10 : decode cX6_stageOf 10 = .ok (.ireturn, 1) := by decide +kernel
theorem dX6_stageOf_11 : decode cX6_stageOf 11 = .ok (.iload_n 2, 1) := by decide +kernel
theorem dX6_stageOf_12 : decode cX6_stageOf 12 = .ok (.tableswitch 97 0 5 #[40, 50, 60, 70, 79, 88], 40) := by decide +kernel
theorem dX6_stageOf_52 : decode cX6_stageOf 52 = .ok (.aload_n 0, 1) := by decide +kernel
theorem dX6_stageOf_53 : decode cX6_stageOf 53 = .ok (.getfield 7, 3) := by decide +kernel
theorem dX6_stageOf_56 : decode cX6_stageOf 56 = .ok (.bipush 10, 2) := by decide +kernel
theorem dX6_stageOf_58 : decode cX6_stageOf 58 = .ok (.iload_n 1, 1) := by decide +kernel
theorem dX6_stageOf_59 : decode cX6_stageOf 59 = .ok (.iadd, 1) := by decide +kernel
theorem dX6_stageOf_60 : decode cX6_stageOf 60 = .ok (.iaload, 1) := by decide +kernel
theorem dX6_stageOf_61 : decode cX6_stageOf 61 = .ok (.ireturn, 1) := by decide +kernel
theorem dX6_stageOf_62 : decode cX6_stageOf 62 = .ok (.aload_n 0, 1) := by decide +kernel
theorem dX6_stageOf_63 : decode cX6_stageOf 63 = .ok (.getfield 7, 3) := by decide +kernel
theorem dX6_stageOf_66 : decode cX6_stageOf 66 = .ok (.bipush 20, 2) := by decide +kernel
theorem dX6_stageOf_68 : decode cX6_stageOf 68 = .ok (.iload_n 1, 1) := by decide +kernel
theorem dX6_stageOf_69 : decode cX6_stageOf 69 = .ok (.iadd, 1) := by decide +kernel
theorem dX6_stageOf_70 : decode cX6_stageOf 70 = .ok (.iaload, 1) := by decide +kernel
theorem dX6_stageOf_71 : decode cX6_stageOf 71 = .ok (.ireturn, 1) := by decide +kernel
theorem dX6_stageOf_72 : decode cX6_stageOf 72 = .ok (.aload_n 0, 1) := by decide +kernel
theorem dX6_stageOf_73 : decode cX6_stageOf 73 = .ok (.getfield 7, 3) := by decide +kernel
theorem dX6_stageOf_76 : decode cX6_stageOf 76 = .ok (.bipush 30, 2) := by decide +kernel
theorem dX6_stageOf_78 : decode cX6_stageOf 78 = .ok (.iload_n 1, 1) := by decide +kernel
theorem dX6_stageOf_79 : decode cX6_stageOf 79 = .ok (.iadd, 1) := by decide +kernel
theorem dX6_stageOf_80 : decode cX6_stageOf 80 = .ok (.iaload, 1) := by decide +kernel
theorem dX6_stageOf_81 : decode cX6_stageOf 81 = .ok (.ireturn, 1) := by decide +kernel
theorem dX6_stageOf_82 : decode cX6_stageOf 82 = .ok (.aload_n 0, 1) := by decide +kernel
theorem dX6_stageOf_83 : decode cX6_stageOf 83 = .ok (.getfield 7, 3) := by decide +kernel
theorem dX6_stageOf_86 : decode cX6_stageOf 86 = .ok (.iload_n 1, 1) := by decide +kernel
theorem dX6_stageOf_87 : decode cX6_stageOf 87 = .ok (.invokestatic 36, 3) := by decide +kernel
theorem dX6_stageOf_90 : decode cX6_stageOf 90 = .ok (.ireturn, 1) := by decide +kernel
theorem dX6_stageOf_91 : decode cX6_stageOf 91 = .ok (.aload_n 0, 1) := by decide +kernel
theorem dX6_stageOf_92 : decode cX6_stageOf 92 = .ok (.getfield 7, 3) := by decide +kernel
theorem dX6_stageOf_95 : decode cX6_stageOf 95 = .ok (.iload_n 1, 1) := by decide +kernel
theorem dX6_stageOf_96 : decode cX6_stageOf 96 = .ok (.invokestatic 40, 3) := by decide +kernel
theorem dX6_stageOf_99 : decode cX6_stageOf 99 = .ok (.ireturn, 1) := by decide +kernel
theorem dX6_stageOf_100 : decode cX6_stageOf 100 = .ok (.aload_n 0, 1) := by decide +kernel
theorem dX6_stageOf_101 : decode cX6_stageOf 101 = .ok (.getfield 7, 3) := by decide +kernel
theorem dX6_stageOf_104 : decode cX6_stageOf 104 = .ok (.iload_n 1, 1) := by decide +kernel
theorem dX6_stageOf_105 : decode cX6_stageOf 105 = .ok (.invokestatic 43, 3) := by decide +kernel
theorem dX6_stageOf_108 : decode cX6_stageOf 108 = .ok (.ireturn, 1) := by decide +kernel
theorem dX6_stageOf_109 : decode cX6_stageOf 109 = .ok (.ldc 69, 2) := by decide +kernel
theorem dX6_stageOf_111 : decode cX6_stageOf 111 = .ok (.ireturn, 1) := by decide +kernel
theorem dX6_of_0 : decode cX6_of 0 = .ok (.aload_n 0, 1) := by decide +kernel
theorem dX6_of_1 : decode cX6_of 1 = .ok (.getfield 7, 3) := by decide +kernel
theorem dX6_of_4 : decode cX6_of 4 = .ok (.bipush 82, 2) := by decide +kernel
theorem dX6_of_6 : decode cX6_of 6 = .ok (.iconst 5, 1) := by decide +kernel
theorem dX6_of_7 : decode cX6_of 7 = .ok (.iload_n 1, 1) := by decide +kernel
theorem dX6_of_8 : decode cX6_of 8 = .ok (.imul, 1) := by decide +kernel
theorem dX6_of_9 : decode cX6_of 9 = .ok (.iadd, 1) := by decide +kernel
theorem dX6_of_10 : decode cX6_of 10 = .ok (.iload_n 2, 1) := by decide +kernel
theorem dX6_of_11 : decode cX6_of 11 = .ok (.iadd, 1) := by decide +kernel
theorem dX6_of_12 : decode cX6_of 12 = .ok (.iaload, 1) := by decide +kernel
theorem dX6_of_13 : decode cX6_of 13 = .ok (.ireturn, 1) := by decide +kernel
set_option maxRecDepth 20000 in
theorem ggX6_error_X6_of : GoodIn wsX6_error wsX6_of := goodIn_r _ [5, 6, 7, 8, 9, 10, 11, 12, 13, 14, 15, 16, 17, 18, 19] (by decide +kernel) (by decide +kernel)
set_option maxRecDepth 20000 in
theorem gX6_error_X6_of : GoodIn wsX6_error (wsV RX6 118 RX6 yX6_of wsX6_of) := goodIn_app (goodIn_of _ (by decide +kernel)) ggX6_error_X6_of
theorem dX6_error_0 : decode cX6_error 0 = .ok (.aload_n 0, 1) := by decide +kernel
theorem dX6_error_1 : decode cX6_error 1 = .ok (.iload_n 1, 1) := by decide +kernel
theorem dX6_error_2 : decode cX6_error 2 = .ok (.iconst 3, 1) := by decide +kernel
theorem dX6_error_3 : decode cX6_error 3 = .ok (.invokevirtual 118, 3) := by decide +kernel
theorem dX6_error_6 : decode cX6_error 6 = .ok (.iconst (-1), 1) := by decide +kernel
theorem dX6_error_7 : decode cX6_error 7 = .ok (.if_icmp .ne 12, 3) := by decide +kernel
theorem dX6_error_10 : decode cX6_error 10 = .ok (.aload_n 0, 1) := by decide +kernel
theorem dX6_error_11 : decode cX6_error 11 = .ok (.iload_n 1, 1) := by decide +kernel
theorem dX6_error_12 : decode cX6_error 12 = .ok (.iconst 2, 1) := by decide +kernel
theorem dX6_error_13 : decode cX6_error 13 = .ok (.invokevirtual 118, 3) := by decide +kernel
theorem dX6_error_16 : decode cX6_error 16 = .ok (.goto 9, 3) := by decide +kernel
theorem dX6_error_19 : decode cX6_error 19 = .ok (.aload_n 0, 1) := by decide +kernel
theorem dX6_error_20 : decode cX6_error 20 = .ok (.iload_n 1, 1) := by decide +kernel
theorem dX6_error_21 : decode cX6_error 21 = .ok (.iconst 3, 1) := by decide +kernel
theorem dX6_error_22 : decode cX6_error 22 = .ok (.invokevirtual 118, 3) := by decide +kernel
theorem dX6_error_25 : decode cX6_error 25 = .ok (.aload_n 0, 1) := by decide +kernel
theorem dX6_error_26 : decode cX6_error 26 = .ok (.iload_n 1, 1) := by decide +kernel
theorem dX6_error_27 : decode cX6_error 27 = .ok (.iconst 1, 1) := by decide +kernel
theorem dX6_error_28 : decode cX6_error 28 = .ok (.invokevirtual 118, 3) := by decide +kernel
theorem dX6_error_31 : decode cX6_error 31 = .ok (.isub, 1) := by decide +kernel
theorem dX6_error_32 : decode cX6_error 32 = .ok (.ireturn, 1) := by decide +kernel
set_option maxRecDepth 20000 in
theorem ggX6_outputOf_X6_in : GoodIn wsX6_outputOf wsX6_in := goodIn_r _ [7] (by decide +kernel) (by decide +kernel)
set_option maxRecDepth 20000 in
theorem gX6_outputOf_X6_in : GoodIn wsX6_outputOf (va_wsS RX6 65 yX6_in wsX6_in) := goodIn_app (goodIn_of _ (by decide +kernel)) ggX6_outputOf_X6_in
set_option maxRecDepth 20000 in
theorem ggX6_outputOf_X6_error : GoodIn wsX6_outputOf wsX6_error := goodIn_r _ [11, 12, 13, 14, 6, 15, 2, 16, 17, 18, 19, 20, 21, 22, 23, 24, 25, 26, 27, 28] (by decide +kernel) (by decide +kernel)
set_option maxRecDepth 20000 in
theorem gX6_outputOf_X6_error : GoodIn wsX6_outputOf (wsV RX6 122 RX6 yX6_error wsX6_error) := goodIn_app (goodIn_of _ (by decide +kernel)) ggX6_outputOf_X6_error
set_option maxRecDepth 20000 in
theorem ggX6_outputOf_X6_of : GoodIn wsX6_outputOf wsX6_of := goodIn_r _ [15, 2, 16, 17, 18, 19, 20, 21, 22, 23, 24, 25, 26, 27, 28] (by decide +kernel) (by decide +kernel)
set_option maxRecDepth 20000 in
theorem gX6_outputOf_X6_of : GoodIn wsX6_outputOf (wsV RX6 118 RX6 yX6_of wsX6_of) := goodIn_app (goodIn_of _ (by decide +kernel)) ggX6_outputOf_X6_of
theorem dX6_outputOf_0 : decode cX6_outputOf 0 = .ok (.iload_n 1, 1) := by decide +kernel
theorem dX6_outputOf_1 : decode cX6_outputOf 1 = .ok (.ifCond .lt 12, 3) := by decide +kernel
theorem dX6_outputOf_4 : decode cX6_outputOf 4 = .ok (.iload_n 2, 1) := by decide +kernel
theorem dX6_outputOf_5 : decode cX6_outputOf 5 = .ok (.iconst 0, 1) := by decide +kernel
theorem dX6_outputOf_6 : decode cX6_outputOf 6 = .ok (.iconst 5, 1) := by decide +kernel
theorem dX6_outputOf_7 : decode cX6_outputOf 7 = .ok (.invokestatic 65, 3) := by decide +kernel
theorem dX6_outputOf_10 : decode cX6_outputOf 10 = .ok (.ifCond .ne 6, 3) := by decide +kernel
theorem dX6_outputOf_13 : decode cX6_outputOf 13 = .ok (.ldc 69, 2) := by decide +kernel
theorem dX6_outputOf_15 : decode cX6_outputOf 15 = .ok (.ireturn, 1) := by decide +kernel
theorem dX6_outputOf_16 : decode cX6_outputOf 16 = .ok (.iload_n 1, 1) := by decide +kernel
theorem dX6_outputOf_17 : decode cX6_outputOf 17 = .ok (.aload_n 0, 1) := by decide +kernel
theorem dX6_outputOf_18 : decode cX6_outputOf 18 = .ok (.getfield 7, 3) := by decide +kernel
theorem dX6_outputOf_21 : decode cX6_outputOf 21 = .ok (.iconst 4, 1) := by decide +kernel
theorem dX6_outputOf_22 : decode cX6_outputOf 22 = .ok (.iaload, 1) := by decide +kernel
theorem dX6_outputOf_23 : decode cX6_outputOf 23 = .ok (.if_icmp .lt 6, 3) := by decide +kernel
theorem dX6_outputOf_26 : decode cX6_outputOf 26 = .ok (.ldc 117, 2) := by decide +kernel
theorem dX6_outputOf_28 : decode cX6_outputOf 28 = .ok (.ireturn, 1) := by decide +kernel
theorem dX6_outputOf_29 : decode cX6_outputOf 29 = .ok (.aload_n 0, 1) := by decide +kernel
theorem dX6_outputOf_30 : decode cX6_outputOf 30 = .ok (.getfield 7, 3) := by decide +kernel
theorem dX6_outputOf_33 : decode cX6_outputOf 33 = .ok (.iconst 4, 1) := by decide +kernel
theorem dX6_outputOf_34 : decode cX6_outputOf 34 = .ok (.iaload, 1) := by decide +kernel
theorem dX6_outputOf_35 : decode cX6_outputOf 35 = .ok (.iconst 1, 1) := by decide +kernel
theorem dX6_outputOf_36 : decode cX6_outputOf 36 = .ok (.isub, 1) := by decide +kernel
theorem dX6_outputOf_37 : decode cX6_outputOf 37 = .ok (.iload_n 1, 1) := by decide +kernel
theorem dX6_outputOf_38 : decode cX6_outputOf 38 = .ok (.isub, 1) := by decide +kernel
theorem dX6_outputOf_39 : decode cX6_outputOf 39 = .ok (.istore_n 3, 1) := by decide +kernel
theorem dX6_outputOf_40 : decode cX6_outputOf 40 = .ok (.iload_n 2, 1) := by decide +kernel
theorem dX6_outputOf_41 : decode cX6_outputOf 41 = .ok (.iconst 5, 1) := by decide +kernel
theorem dX6_outputOf_42 : decode cX6_outputOf 42 = .ok (.if_icmp .ne 11, 3) := by decide +kernel
theorem dX6_outputOf_45 : decode cX6_outputOf 45 = .ok (.aload_n 0, 1) := by decide +kernel
theorem dX6_outputOf_46 : decode cX6_outputOf 46 = .ok (.iload_n 3, 1) := by decide +kernel
theorem dX6_outputOf_47 : decode cX6_outputOf 47 = .ok (.invokevirtual 122, 3) := by decide +kernel
theorem dX6_outputOf_50 : decode cX6_outputOf 50 = .ok (.goto 29, 3) := by decide +kernel
theorem dX6_outputOf_53 : decode cX6_outputOf 53 = .ok (.iload_n 2, 1) := by decide +kernel
theorem dX6_outputOf_54 : decode cX6_outputOf 54 = .ok (.iconst 3, 1) := by decide +kernel
theorem dX6_outputOf_55 : decode cX6_outputOf 55 = .ok (.if_icmp .ne 18, 3) := by decide +kernel
theorem dX6_outputOf_58 : decode cX6_outputOf 58 = .ok (.aload_n 0, 1) := by decide +kernel
theorem dX6_outputOf_59 : decode cX6_outputOf 59 = .ok (.iload_n 3, 1) := by decide +kernel
theorem dX6_outputOf_60 : decode cX6_outputOf 60 = .ok (.iconst 3, 1) := by decide +kernel
theorem dX6_outputOf_61 : decode cX6_outputOf 61 = .ok (.invokevirtual 118, 3) := by decide +kernel
theorem dX6_outputOf_64 : decode cX6_outputOf 64 = .ok (.iconst (-1), 1) := by decide +kernel
theorem dX6_outputOf_65 : decode cX6_outputOf 65 = .ok (.if_icmp .ne 8, 3) := by decide +kernel
theorem dX6_outputOf_68 : decode cX6_outputOf 68 = .ok (.ldc 117, 2) := by decide +kernel
theorem dX6_outputOf_70 : decode cX6_outputOf 70 = .ok (.goto 9, 3) := by decide +kernel
theorem dX6_outputOf_73 : decode cX6_outputOf 73 = .ok (.aload_n 0, 1) := by decide +kernel
theorem dX6_outputOf_74 : decode cX6_outputOf 74 = .ok (.iload_n 3, 1) := by decide +kernel
theorem dX6_outputOf_75 : decode cX6_outputOf 75 = .ok (.iload_n 2, 1) := by decide +kernel
theorem dX6_outputOf_76 : decode cX6_outputOf 76 = .ok (.invokevirtual 118, 3) := by decide +kernel
theorem dX6_outputOf_79 : decode cX6_outputOf 79 = .ok (.ireturn, 1) := by decide +kernel
theorem dX6_size_0 : decode cX6_size 0 = .ok (.iload_n 0, 1) := by decide +kernel
theorem dX6_size_1 : decode cX6_size 1 = .ok (.ifCond .ge 8, 3) := by decide +kernel
theorem dX6_size_4 : decode cX6_size 4 = .ok (.iload_n 0, 1) := by decide +kernel
theorem dX6_size_5 : decode cX6_size 5 = .ok (.ineg, 1) := by decide +kernel
theorem dX6_size_6 : decode cX6_size 6 = .ok (.goto 4, 3) := by decide +kernel
theorem dX6_size_9 : decode cX6_size 9 = .ok (.iload_n 0, 1) := by decide +kernel
theorem dX6_size_10 : decode cX6_size 10 = .ok (.ireturn, 1) := by decide +kernel
set_option maxRecDepth 20000 in
theorem ggX6_errors_X6_in : GoodIn wsX6_errors wsX6_in := goodIn_r _ [8] (by decide +kernel) (by decide +kernel)
set_option maxRecDepth 20000 in
theorem gX6_errors_X6_in : GoodIn wsX6_errors (va_wsS RX6 65 yX6_in wsX6_in) := goodIn_app (goodIn_of _ (by decide +kernel)) ggX6_errors_X6_in
set_option maxRecDepth 20000 in
theorem ggX6_errors_X6_of : GoodIn wsX6_errors wsX6_of := goodIn_r _ [12, 2, 32, 33, 34, 35, 36, 37, 38, 39, 40, 41, 42, 43, 44] (by decide +kernel) (by decide +kernel)
set_option maxRecDepth 20000 in
theorem gX6_errors_X6_of : GoodIn wsX6_errors (wsV RX6 118 RX6 yX6_of wsX6_of) := goodIn_app (goodIn_of _ (by decide +kernel)) ggX6_errors_X6_of
set_option maxRecDepth 20000 in
theorem ggX6_errors_X6_error : GoodIn wsX6_errors wsX6_error := goodIn_r _ [16, 9, 10, 11, 7, 12, 2, 32, 33, 34, 35, 36, 37, 38, 39, 40, 41, 42, 43, 44] (by decide +kernel) (by decide +kernel)
set_option maxRecDepth 20000 in
theorem gX6_errors_X6_error : GoodIn wsX6_errors (wsV RX6 122 RX6 yX6_error wsX6_error) := goodIn_app (goodIn_of _ (by decide +kernel)) ggX6_errors_X6_error
set_option maxRecDepth 20000 in
theorem ggX6_errors_X6_size : GoodIn wsX6_errors wsX6_size := goodIn_r _ [19] (by decide +kernel) (by decide +kernel)
set_option maxRecDepth 20000 in
theorem gX6_errors_X6_size : GoodIn wsX6_errors (va_wsS RX6 125 yX6_size wsX6_size) := goodIn_app (goodIn_of _ (by decide +kernel)) ggX6_errors_X6_size
set_option maxRecDepth 20000 in
theorem ggX6_errors_Jxf58ca_floatToIntBits_5c35a : GoodIn wsX6_errors wsJxf58ca_floatToIntBits_5c35a := goodIn_r _ [23, 24, 25, 26, 27, 28, 29, 30, 22, 31] (by decide +kernel) (by decide +kernel)
set_option maxRecDepth 20000 in
theorem gX6_errors_Jxf58ca_floatToIntBits_5c35a : GoodIn wsX6_errors (va_wsS RX6 129 yJxf58ca_floatToIntBits_5c35a wsJxf58ca_floatToIntBits_5c35a) := goodIn_app (goodIn_of _ (by decide +kernel)) ggX6_errors_Jxf58ca_floatToIntBits_5c35a
theorem dX6_errors_0 : decode cX6_errors 0 = .ok (.iload_n 1, 1) := by decide +kernel
theorem dX6_errors_1 : decode cX6_errors 1 = .ok (.iconst 0, 1) := by decide +kernel
theorem dX6_errors_2 : decode cX6_errors 2 = .ok (.iconst 3, 1) := by decide +kernel
theorem dX6_errors_3 : decode cX6_errors 3 = .ok (.invokestatic 65, 3) := by decide +kernel
theorem dX6_errors_6 : decode cX6_errors 6 = .ok (.ifCond .ne 6, 3) := by decide +kernel
theorem dX6_errors_9 : decode cX6_errors 9 = .ok (.ldc 69, 2) := by decide +kernel
theorem dX6_errors_11 : decode cX6_errors 11 = .ok (.ireturn, 1) := by decide +kernel
theorem dX6_errors_12 : decode cX6_errors 12 = .ok (.iconst 0, 1) := by decide +kernel
theorem dX6_errors_13 : decode cX6_errors 13 = .ok (.istore_n 2, 1) := by decide +kernel
theorem dX6_errors_14 : decode cX6_errors 14 = .ok (.iconst 0, 1) := by decide +kernel
theorem dX6_errors_15 : decode cX6_errors 15 = .ok (.istore_n 3, 1) := by decide +kernel
theorem dX6_errors_16 : decode cX6_errors 16 = .ok (.iconst 0, 1) := by decide +kernel
theorem dX6_errors_17 : decode cX6_errors 17 = .ok (.istore 4, 2) := by decide +kernel
theorem dX6_errors_19 : decode cX6_errors 19 = .ok (.iconst 0, 1) := by decide +kernel
theorem dX6_errors_20 : decode cX6_errors 20 = .ok (.istore 5, 2) := by decide +kernel
theorem dX6_errors_22 : decode cX6_errors 22 = .ok (.iconst 0, 1) := by decide +kernel
theorem dX6_errors_23 : decode cX6_errors 23 = .ok (.istore 6, 2) := by decide +kernel
theorem dX6_errors_25 : decode cX6_errors 25 = .ok (.iload 6, 2) := by decide +kernel
theorem dX6_errors_27 : decode cX6_errors 27 = .ok (.aload_n 0, 1) := by decide +kernel
theorem dX6_errors_28 : decode cX6_errors 28 = .ok (.getfield 7, 3) := by decide +kernel
theorem dX6_errors_31 : decode cX6_errors 31 = .ok (.iconst 4, 1) := by decide +kernel
theorem dX6_errors_32 : decode cX6_errors 32 = .ok (.iaload, 1) := by decide +kernel
theorem dX6_errors_33 : decode cX6_errors 33 = .ok (.if_icmp .ge 74, 3) := by decide +kernel
theorem dX6_errors_36 : decode cX6_errors 36 = .ok (.aload_n 0, 1) := by decide +kernel
theorem dX6_errors_37 : decode cX6_errors 37 = .ok (.iload 6, 2) := by decide +kernel
theorem dX6_errors_39 : decode cX6_errors 39 = .ok (.iconst 4, 1) := by decide +kernel
theorem dX6_errors_40 : decode cX6_errors 40 = .ok (.invokevirtual 118, 3) := by decide +kernel
theorem dX6_errors_43 : decode cX6_errors 43 = .ok (.ifCond .ne 58, 3) := by decide +kernel
theorem dX6_errors_46 : decode cX6_errors 46 = .ok (.iinc 2 1, 3) := by decide +kernel
theorem dX6_errors_49 : decode cX6_errors 49 = .ok (.iload 4, 2) := by decide +kernel
theorem dX6_errors_51 : decode cX6_errors 51 = .ok (.aload_n 0, 1) := by decide +kernel
theorem dX6_errors_52 : decode cX6_errors 52 = .ok (.iload 6, 2) := by decide +kernel
theorem dX6_errors_54 : decode cX6_errors 54 = .ok (.invokevirtual 122, 3) := by decide +kernel
theorem dX6_errors_57 : decode cX6_errors 57 = .ok (.iadd, 1) := by decide +kernel
theorem dX6_errors_58 : decode cX6_errors 58 = .ok (.istore 4, 2) := by decide +kernel
theorem dX6_errors_60 : decode cX6_errors 60 = .ok (.iload 5, 2) := by decide +kernel
theorem dX6_errors_62 : decode cX6_errors 62 = .ok (.aload_n 0, 1) := by decide +kernel
theorem dX6_errors_63 : decode cX6_errors 63 = .ok (.iload 6, 2) := by decide +kernel
theorem dX6_errors_65 : decode cX6_errors 65 = .ok (.invokevirtual 122, 3) := by decide +kernel
theorem dX6_errors_68 : decode cX6_errors 68 = .ok (.invokestatic 125, 3) := by decide +kernel
theorem dX6_errors_71 : decode cX6_errors 71 = .ok (.iadd, 1) := by decide +kernel
theorem dX6_errors_72 : decode cX6_errors 72 = .ok (.istore 5, 2) := by decide +kernel
theorem dX6_errors_74 : decode cX6_errors 74 = .ok (.aload_n 0, 1) := by decide +kernel
theorem dX6_errors_75 : decode cX6_errors 75 = .ok (.iload 6, 2) := by decide +kernel
theorem dX6_errors_77 : decode cX6_errors 77 = .ok (.invokevirtual 122, 3) := by decide +kernel
theorem dX6_errors_80 : decode cX6_errors 80 = .ok (.invokestatic 125, 3) := by decide +kernel
theorem dX6_errors_83 : decode cX6_errors 83 = .ok (.iload_n 3, 1) := by decide +kernel
theorem dX6_errors_84 : decode cX6_errors 84 = .ok (.if_icmp .le 15, 3) := by decide +kernel
theorem dX6_errors_87 : decode cX6_errors 87 = .ok (.aload_n 0, 1) := by decide +kernel
theorem dX6_errors_88 : decode cX6_errors 88 = .ok (.iload 6, 2) := by decide +kernel
theorem dX6_errors_90 : decode cX6_errors 90 = .ok (.invokevirtual 122, 3) := by decide +kernel
theorem dX6_errors_93 : decode cX6_errors 93 = .ok (.invokestatic 125, 3) := by decide +kernel
theorem dX6_errors_96 : decode cX6_errors 96 = .ok (.goto 4, 3) := by decide +kernel
theorem dX6_errors_99 : decode cX6_errors 99 = .ok (.iload_n 3, 1) := by decide +kernel
theorem dX6_errors_100 : decode cX6_errors 100 = .ok (.istore_n 3, 1) := by decide +kernel
theorem dX6_errors_101 : decode cX6_errors 101 = .ok (.iinc 6 1, 3) := by decide +kernel
theorem dX6_errors_104 : decode cX6_errors 104 = .ok (.goto (-79), 3) := by decide +kernel
theorem dX6_errors_107 : decode cX6_errors 107 = .ok (.iload_n 1, 1) := by decide +kernel
theorem dX6_errors_108 : decode cX6_errors 108 = .ok (.ifCond .ne 5, 3) := by decide +kernel
theorem dX6_errors_111 : decode cX6_errors 111 = .ok (.iload_n 2, 1) := by decide +kernel
theorem dX6_errors_112 : decode cX6_errors 112 = .ok (.ireturn, 1) := by decide +kernel
theorem dX6_errors_113 : decode cX6_errors 113 = .ok (.iload_n 2, 1) := by decide +kernel
theorem dX6_errors_114 : decode cX6_errors 114 = .ok (.ifCond .ne 6, 3) := by decide +kernel
theorem dX6_errors_117 : decode cX6_errors 117 = .ok (.ldc 117, 2) := by decide +kernel
theorem dX6_errors_119 : decode cX6_errors 119 = .ok (.ireturn, 1) := by decide +kernel
theorem dX6_errors_120 : decode cX6_errors 120 = .ok (.iload_n 1, 1) := by decide +kernel
theorem dX6_errors_121 : decode cX6_errors 121 = .ok (.iconst 1, 1) := by decide +kernel
theorem dX6_errors_122 : decode cX6_errors 122 = .ok (.if_icmp .ne 7, 3) := by decide +kernel
theorem dX6_errors_125 : decode cX6_errors 125 = .ok (.iload_n 3, 1) := by decide +kernel
theorem dX6_errors_126 : decode cX6_errors 126 = .ok (.goto 25, 3) := by decide +kernel
theorem dX6_errors_129 : decode cX6_errors 129 = .ok (.iload_n 1, 1) := by decide +kernel
theorem dX6_errors_130 : decode cX6_errors 130 = .ok (.iconst 2, 1) := by decide +kernel
theorem dX6_errors_131 : decode cX6_errors 131 = .ok (.if_icmp .ne 11, 3) := by decide +kernel
theorem dX6_errors_134 : decode cX6_errors 134 = .ok (.iload 4, 2) := by decide +kernel
theorem dX6_errors_136 : decode cX6_errors 136 = .ok (.ldc 128, 2) := by decide +kernel
theorem dX6_errors_138 : decode cX6_errors 138 = .ok (.iadd, 1) := by decide +kernel
theorem dX6_errors_139 : decode cX6_errors 139 = .ok (.goto 12, 3) := by decide +kernel
theorem dX6_errors_142 : decode cX6_errors 142 = .ok (.iload 5, 2) := by decide +kernel
theorem dX6_errors_144 : decode cX6_errors 144 = .ok (.i2f, 1) := by decide +kernel
theorem dX6_errors_145 : decode cX6_errors 145 = .ok (.iload_n 2, 1) := by decide +kernel
theorem dX6_errors_146 : decode cX6_errors 146 = .ok (.i2f, 1) := by decide +kernel
theorem dX6_errors_147 : decode cX6_errors 147 = .ok (.fdiv, 1) := by decide +kernel
theorem dX6_errors_148 : decode cX6_errors 148 = .ok (.invokestatic 129, 3) := by decide +kernel
theorem dX6_errors_151 : decode cX6_errors 151 = .ok (.ireturn, 1) := by decide +kernel
theorem dX6_inStages_0 : decode cX6_inStages 0 = .ok (.iconst 0, 1) := by decide +kernel
theorem dX6_inStages_1 : decode cX6_inStages 1 = .ok (.istore_n 1, 1) := by decide +kernel
theorem dX6_inStages_2 : decode cX6_inStages 2 = .ok (.iconst 0, 1) := by decide +kernel
theorem dX6_inStages_3 : decode cX6_inStages 3 = .ok (.istore_n 2, 1) := by decide +kernel
theorem dX6_inStages_4 : decode cX6_inStages 4 = .ok (.iload_n 2, 1) := by decide +kernel
theorem dX6_inStages_5 : decode cX6_inStages 5 = .ok (.aload_n 0, 1) := by decide +kernel
theorem dX6_inStages_6 : decode cX6_inStages 6 = .ok (.iconst 0, 1) := by decide +kernel
theorem dX6_inStages_7 : decode cX6_inStages 7 = .ok (.iaload, 1) := by decide +kernel
theorem dX6_inStages_8 : decode cX6_inStages 8 = .ok (.if_icmp .ge 18, 3) := by decide +kernel
theorem dX6_inStages_11 : decode cX6_inStages 11 = .ok (.iload_n 1, 1) := by decide +kernel
theorem dX6_inStages_12 : decode cX6_inStages 12 = .ok (.aload_n 0, 1) := by decide +kernel
theorem dX6_inStages_13 : decode cX6_inStages 13 = .ok (.bipush 10, 2) := by decide +kernel
theorem dX6_inStages_15 : decode cX6_inStages 15 = .ok (.iload_n 2, 1) := by decide +kernel
theorem dX6_inStages_16 : decode cX6_inStages 16 = .ok (.iadd, 1) := by decide +kernel
theorem dX6_inStages_17 : decode cX6_inStages 17 = .ok (.iaload, 1) := by decide +kernel
theorem dX6_inStages_18 : decode cX6_inStages 18 = .ok (.iadd, 1) := by decide +kernel
theorem dX6_inStages_19 : decode cX6_inStages 19 = .ok (.istore_n 1, 1) := by decide +kernel
theorem dX6_inStages_20 : decode cX6_inStages 20 = .ok (.iinc 2 1, 3) := by decide +kernel
theorem dX6_inStages_23 : decode cX6_inStages 23 = .ok (.goto (-19), 3) := by decide +kernel
theorem dX6_inStages_26 : decode cX6_inStages 26 = .ok (.iload_n 1, 1) := by decide +kernel
theorem dX6_inStages_27 : decode cX6_inStages 27 = .ok (.ireturn, 1) := by decide +kernel
set_option maxRecDepth 20000 in
theorem ggX6_account_X6_in : GoodIn wsX6_account wsX6_in := goodIn_r _ [6] (by decide +kernel) (by decide +kernel)
set_option maxRecDepth 20000 in
theorem gX6_account_X6_in : GoodIn wsX6_account (va_wsS RX6 65 yX6_in wsX6_in) := goodIn_app (goodIn_of _ (by decide +kernel)) ggX6_account_X6_in
set_option maxRecDepth 20000 in
theorem ggX6_account_X6_inStages : GoodIn wsX6_account wsX6_inStages := goodIn_r _ [9] (by decide +kernel) (by decide +kernel)
set_option maxRecDepth 20000 in
theorem gX6_account_X6_inStages : GoodIn wsX6_account (va_wsS RX6 135 yX6_inStages wsX6_inStages) := goodIn_app (goodIn_of _ (by decide +kernel)) ggX6_account_X6_inStages
theorem dX6_account_0 : decode cX6_account 0 = .ok (.iload_n 1, 1) := by decide +kernel
theorem dX6_account_1 : decode cX6_account 1 = .ok (.iconst 0, 1) := by decide +kernel
theorem dX6_account_2 : decode cX6_account 2 = .ok (.iconst 4, 1) := by decide +kernel
theorem dX6_account_3 : decode cX6_account 3 = .ok (.invokestatic 65, 3) := by decide +kernel
theorem dX6_account_6 : decode cX6_account 6 = .ok (.ifCond .ne 6, 3) := by decide +kernel
theorem dX6_account_9 : decode cX6_account 9 = .ok (.ldc 69, 2) := by decide +kernel
theorem dX6_account_11 : decode cX6_account 11 = .ok (.ireturn, 1) := by decide +kernel
theorem dX6_account_12 : decode cX6_account 12 = .ok (.iload_n 1, 1) := by decide +kernel
theorem dX6_account_13 : decode cX6_account 13 = .ok (.iconst 4, 1) := by decide +kernel
theorem dX6_account_14 : decode cX6_account 14 = .ok (.if_icmp .ge 15, 3) := by decide +kernel
theorem dX6_account_17 : decode cX6_account 17 = .ok (.aload_n 0, 1) := by decide +kernel
theorem dX6_account_18 : decode cX6_account 18 = .ok (.getfield 7, 3) := by decide +kernel
theorem dX6_account_21 : decode cX6_account 21 = .ok (.bipush 46, 2) := by decide +kernel
theorem dX6_account_23 : decode cX6_account 23 = .ok (.iload_n 1, 1) := by decide +kernel
theorem dX6_account_24 : decode cX6_account 24 = .ok (.iadd, 1) := by decide +kernel
theorem dX6_account_25 : decode cX6_account 25 = .ok (.iaload, 1) := by decide +kernel
theorem dX6_account_26 : decode cX6_account 26 = .ok (.goto 10, 3) := by decide +kernel
theorem dX6_account_29 : decode cX6_account 29 = .ok (.aload_n 0, 1) := by decide +kernel
theorem dX6_account_30 : decode cX6_account 30 = .ok (.getfield 7, 3) := by decide +kernel
theorem dX6_account_33 : decode cX6_account 33 = .ok (.invokestatic 135, 3) := by decide +kernel
theorem dX6_account_36 : decode cX6_account 36 = .ok (.ireturn, 1) := by decide +kernel
theorem dX6_tries_0 : decode cX6_tries 0 = .ok (.iconst 0, 1) := by decide +kernel
theorem dX6_tries_1 : decode cX6_tries 1 = .ok (.istore_n 2, 1) := by decide +kernel
theorem dX6_tries_2 : decode cX6_tries 2 = .ok (.iload_n 2, 1) := by decide +kernel
theorem dX6_tries_3 : decode cX6_tries 3 = .ok (.sipush 162, 3) := by decide +kernel
theorem dX6_tries_6 : decode cX6_tries 6 = .ok (.if_icmp .ge 21, 3) := by decide +kernel
theorem dX6_tries_9 : decode cX6_tries 9 = .ok (.aload_n 0, 1) := by decide +kernel
theorem dX6_tries_10 : decode cX6_tries 10 = .ok (.getfield 13, 3) := by decide +kernel
theorem dX6_tries_13 : decode cX6_tries 13 = .ok (.iload_n 2, 1) := by decide +kernel
theorem dX6_tries_14 : decode cX6_tries 14 = .ok (.aload_n 0, 1) := by decide +kernel
theorem dX6_tries_15 : decode cX6_tries 15 = .ok (.getfield 7, 3) := by decide +kernel
theorem dX6_tries_18 : decode cX6_tries 18 = .ok (.iload_n 2, 1) := by decide +kernel
theorem dX6_tries_19 : decode cX6_tries 19 = .ok (.iaload, 1) := by decide +kernel
theorem dX6_tries_20 : decode cX6_tries 20 = .ok (.iastore, 1) := by decide +kernel
theorem dX6_tries_21 : decode cX6_tries 21 = .ok (.iinc 2 1, 3) := by decide +kernel
theorem dX6_tries_24 : decode cX6_tries 24 = .ok (.goto (-22), 3) := by decide +kernel
theorem dX6_tries_27 : decode cX6_tries 27 = .ok (.aload_n 0, 1) := by decide +kernel
theorem dX6_tries_28 : decode cX6_tries 28 = .ok (.getfield 13, 3) := by decide +kernel
theorem dX6_tries_31 : decode cX6_tries 31 = .ok (.bipush 49, 2) := by decide +kernel
theorem dX6_tries_33 : decode cX6_tries 33 = .ok (.iconst 0, 1) := by decide +kernel
theorem dX6_tries_34 : decode cX6_tries 34 = .ok (.iastore, 1) := by decide +kernel
theorem dX6_tries_35 : decode cX6_tries 35 = .ok (.iconst 0, 1) := by decide +kernel
theorem dX6_tries_36 : decode cX6_tries 36 = .ok (.istore_n 2, 1) := by decide +kernel
theorem dX6_tries_37 : decode cX6_tries 37 = .ok (.iload_n 2, 1) := by decide +kernel
theorem dX6_tries_38 : decode cX6_tries 38 = .ok (.aload_n 0, 1) := by decide +kernel
theorem dX6_tries_39 : decode cX6_tries 39 = .ok (.getfield 7, 3) := by decide +kernel
theorem dX6_tries_42 : decode cX6_tries 42 = .ok (.iconst 0, 1) := by decide +kernel
theorem dX6_tries_43 : decode cX6_tries 43 = .ok (.iaload, 1) := by decide +kernel
theorem dX6_tries_44 : decode cX6_tries 44 = .ok (.if_icmp .ge 23, 3) := by decide +kernel
theorem dX6_tries_47 : decode cX6_tries 47 = .ok (.iload_n 1, 1) := by decide +kernel
theorem dX6_tries_48 : decode cX6_tries 48 = .ok (.ifCond .eq 19, 3) := by decide +kernel
theorem dX6_tries_51 : decode cX6_tries 51 = .ok (.aload_n 0, 1) := by decide +kernel
theorem dX6_tries_52 : decode cX6_tries 52 = .ok (.getfield 13, 3) := by decide +kernel
theorem dX6_tries_55 : decode cX6_tries 55 = .ok (.bipush 10, 2) := by decide +kernel
theorem dX6_tries_57 : decode cX6_tries 57 = .ok (.iload_n 2, 1) := by decide +kernel
theorem dX6_tries_58 : decode cX6_tries 58 = .ok (.iadd, 1) := by decide +kernel
theorem dX6_tries_59 : decode cX6_tries 59 = .ok (.iconst 0, 1) := by decide +kernel
theorem dX6_tries_60 : decode cX6_tries 60 = .ok (.iastore, 1) := by decide +kernel
theorem dX6_tries_61 : decode cX6_tries 61 = .ok (.iinc 2 1, 3) := by decide +kernel
theorem dX6_tries_64 : decode cX6_tries 64 = .ok (.goto (-27), 3) := by decide +kernel
theorem dX6_tries_67 : decode cX6_tries 67 = .ok (.return_, 1) := by decide +kernel
set_option maxRecDepth 20000 in
theorem ggX6_echoes_X6_handsOver : GoodIn wsX6_echoes wsX6_handsOver := goodIn_r _ [5, 6, 7, 4, 8, 9, 10, 11, 12, 13, 14] (by decide +kernel) (by decide +kernel)
set_option maxRecDepth 20000 in
theorem gX6_echoes_X6_handsOver : GoodIn wsX6_echoes (va_wsS RX6 50 yX6_handsOver wsX6_handsOver) := goodIn_app (goodIn_of _ (by decide +kernel)) ggX6_echoes_X6_handsOver
theorem dX6_echoes_0 : decode cX6_echoes 0 = .ok (.aload_n 0, 1) := by decide +kernel
theorem dX6_echoes_1 : decode cX6_echoes 1 = .ok (.getfield 13, 3) := by decide +kernel
theorem dX6_echoes_4 : decode cX6_echoes 4 = .ok (.iload_n 1, 1) := by decide +kernel
theorem dX6_echoes_5 : decode cX6_echoes 5 = .ok (.invokestatic 50, 3) := by decide +kernel
theorem dX6_echoes_8 : decode cX6_echoes 8 = .ok (.istore_n 3, 1) := by decide +kernel
theorem dX6_echoes_9 : decode cX6_echoes 9 = .ok (.iconst 0, 1) := by decide +kernel
theorem dX6_echoes_10 : decode cX6_echoes 10 = .ok (.istore 4, 2) := by decide +kernel
theorem dX6_echoes_12 : decode cX6_echoes 12 = .ok (.iload 4, 2) := by decide +kernel
theorem dX6_echoes_14 : decode cX6_echoes 14 = .ok (.iload_n 2, 1) := by decide +kernel
theorem dX6_echoes_15 : decode cX6_echoes 15 = .ok (.if_icmp .ge 18, 3) := by decide +kernel
theorem dX6_echoes_18 : decode cX6_echoes 18 = .ok (.aload_n 0, 1) := by decide +kernel
theorem dX6_echoes_19 : decode cX6_echoes 19 = .ok (.getfield 13, 3) := by decide +kernel
theorem dX6_echoes_22 : decode cX6_echoes 22 = .ok (.iconst 0, 1) := by decide +kernel
theorem dX6_echoes_23 : decode cX6_echoes 23 = .ok (.invokestatic 50, 3) := by decide +kernel
theorem dX6_echoes_26 : decode cX6_echoes 26 = .ok (.istore_n 3, 1) := by decide +kernel
theorem dX6_echoes_27 : decode cX6_echoes 27 = .ok (.iinc 4 1, 3) := by decide +kernel
theorem dX6_echoes_30 : decode cX6_echoes 30 = .ok (.goto (-18), 3) := by decide +kernel
theorem dX6_echoes_33 : decode cX6_echoes 33 = .ok (.iload_n 3, 1) := by decide +kernel
theorem dX6_echoes_34 : decode cX6_echoes 34 = .ok (.ireturn, 1) := by decide +kernel
set_option maxRecDepth 20000 in
theorem ggX6_echo_X6_in : GoodIn wsX6_echo wsX6_in := goodIn_r _ [5] (by decide +kernel) (by decide +kernel)
set_option maxRecDepth 20000 in
theorem gX6_echo_X6_in : GoodIn wsX6_echo (va_wsS RX6 65 yX6_in wsX6_in) := goodIn_app (goodIn_of _ (by decide +kernel)) ggX6_echo_X6_in
set_option maxRecDepth 20000 in
theorem ggX6_echo_X6_tries : GoodIn wsX6_echo wsX6_tries := goodIn_r _ [9, 10, 11, 28, 29, 30, 31, 32, 33, 34, 35, 36, 37, 38, 39, 40] (by decide +kernel) (by decide +kernel)
set_option maxRecDepth 20000 in
theorem gX6_echo_X6_tries : GoodIn wsX6_echo (wsV RX6 139 RX6 yX6_tries wsX6_tries) := goodIn_app (goodIn_of _ (by decide +kernel)) ggX6_echo_X6_tries
set_option maxRecDepth 20000 in
theorem ggX6_echo_X6_echoes : GoodIn wsX6_echo wsX6_echoes := goodIn_r _ [15, 10, 16, 17, 4, 18, 19, 20, 21, 22, 23, 24, 25, 26, 27, 28, 29, 30, 31, 32, 33, 34, 35, 36, 37, 38, 39, 40] (by decide +kernel) (by decide +kernel)
set_option maxRecDepth 20000 in
theorem gX6_echo_X6_echoes : GoodIn wsX6_echo (wsV RX6 143 RX6 yX6_echoes wsX6_echoes) := goodIn_app (goodIn_of _ (by decide +kernel)) ggX6_echo_X6_echoes
theorem dX6_echo_0 : decode cX6_echo 0 = .ok (.iload_n 1, 1) := by decide +kernel
theorem dX6_echo_1 : decode cX6_echo 1 = .ok (.iconst 0, 1) := by decide +kernel
theorem dX6_echo_2 : decode cX6_echo 2 = .ok (.sipush 10000, 3) := by decide +kernel
theorem dX6_echo_5 : decode cX6_echo 5 = .ok (.invokestatic 65, 3) := by decide +kernel
theorem dX6_echo_8 : decode cX6_echo 8 = .ok (.ifCond .eq 13, 3) := by decide +kernel
theorem dX6_echo_11 : decode cX6_echo 11 = .ok (.iload_n 2, 1) := by decide +kernel
theorem dX6_echo_12 : decode cX6_echo 12 = .ok (.iconst 1, 1) := by decide +kernel
theorem dX6_echo_13 : decode cX6_echo 13 = .ok (.bipush 40, 2) := by decide +kernel
theorem dX6_echo_15 : decode cX6_echo 15 = .ok (.invokestatic 65, 3) := by decide +kernel
theorem dX6_echo_18 : decode cX6_echo 18 = .ok (.ifCond .ne 6, 3) := by decide +kernel
theorem dX6_echo_21 : decode cX6_echo 21 = .ok (.ldc 69, 2) := by decide +kernel
theorem dX6_echo_23 : decode cX6_echo 23 = .ok (.ireturn, 1) := by decide +kernel
theorem dX6_echo_24 : decode cX6_echo 24 = .ok (.aload_n 0, 1) := by decide +kernel
theorem dX6_echo_25 : decode cX6_echo 25 = .ok (.iconst 1, 1) := by decide +kernel
theorem dX6_echo_26 : decode cX6_echo 26 = .ok (.invokevirtual 139, 3) := by decide +kernel
theorem dX6_echo_29 : decode cX6_echo 29 = .ok (.aload_n 0, 1) := by decide +kernel
theorem dX6_echo_30 : decode cX6_echo 30 = .ok (.iload_n 1, 1) := by decide +kernel
theorem dX6_echo_31 : decode cX6_echo 31 = .ok (.iload_n 2, 1) := by decide +kernel
theorem dX6_echo_32 : decode cX6_echo 32 = .ok (.invokevirtual 143, 3) := by decide +kernel
theorem dX6_echo_35 : decode cX6_echo 35 = .ok (.ireturn, 1) := by decide +kernel
set_option maxRecDepth 20000 in
theorem ggX6_emptyAfter_X6_tries : GoodIn wsX6_emptyAfter wsX6_tries := goodIn_r _ [7, 1, 8, 24, 25, 26, 27, 28, 29, 30, 31, 32, 33, 34, 35, 36] (by decide +kernel) (by decide +kernel)
set_option maxRecDepth 20000 in
theorem gX6_emptyAfter_X6_tries : GoodIn wsX6_emptyAfter (wsV RX6 139 RX6 yX6_tries wsX6_tries) := goodIn_app (goodIn_of _ (by decide +kernel)) ggX6_emptyAfter_X6_tries
set_option maxRecDepth 20000 in
theorem ggX6_emptyAfter_X6_inStages : GoodIn wsX6_emptyAfter wsX6_inStages := goodIn_r _ [11] (by decide +kernel) (by decide +kernel)
set_option maxRecDepth 20000 in
theorem gX6_emptyAfter_X6_inStages : GoodIn wsX6_emptyAfter (va_wsS RX6 135 yX6_inStages wsX6_inStages) := goodIn_app (goodIn_of _ (by decide +kernel)) ggX6_emptyAfter_X6_inStages
set_option maxRecDepth 20000 in
theorem ggX6_emptyAfter_X6_handsOver : GoodIn wsX6_emptyAfter wsX6_handsOver := goodIn_r _ [14, 15, 16, 6, 17, 18, 19, 20, 21, 22, 23] (by decide +kernel) (by decide +kernel)
set_option maxRecDepth 20000 in
theorem gX6_emptyAfter_X6_handsOver : GoodIn wsX6_emptyAfter (va_wsS RX6 50 yX6_handsOver wsX6_handsOver) := goodIn_app (goodIn_of _ (by decide +kernel)) ggX6_emptyAfter_X6_handsOver
theorem dX6_emptyAfter_0 : decode cX6_emptyAfter 0 = .ok (.aload_n 0, 1) := by decide +kernel
theorem dX6_emptyAfter_1 : decode cX6_emptyAfter 1 = .ok (.iconst 0, 1) := by decide +kernel
theorem dX6_emptyAfter_2 : decode cX6_emptyAfter 2 = .ok (.invokevirtual 139, 3) := by decide +kernel
theorem dX6_emptyAfter_5 : decode cX6_emptyAfter 5 = .ok (.iconst 0, 1) := by decide +kernel
theorem dX6_emptyAfter_6 : decode cX6_emptyAfter 6 = .ok (.istore_n 1, 1) := by decide +kernel
theorem dX6_emptyAfter_7 : decode cX6_emptyAfter 7 = .ok (.iload_n 1, 1) := by decide +kernel
theorem dX6_emptyAfter_8 : decode cX6_emptyAfter 8 = .ok (.sipush 400, 3) := by decide +kernel
theorem dX6_emptyAfter_11 : decode cX6_emptyAfter 11 = .ok (.if_icmp .ge 28, 3) := by decide +kernel
theorem dX6_emptyAfter_14 : decode cX6_emptyAfter 14 = .ok (.aload_n 0, 1) := by decide +kernel
theorem dX6_emptyAfter_15 : decode cX6_emptyAfter 15 = .ok (.getfield 13, 3) := by decide +kernel
theorem dX6_emptyAfter_18 : decode cX6_emptyAfter 18 = .ok (.invokestatic 135, 3) := by decide +kernel
theorem dX6_emptyAfter_21 : decode cX6_emptyAfter 21 = .ok (.ifCond .le 18, 3) := by decide +kernel
theorem dX6_emptyAfter_24 : decode cX6_emptyAfter 24 = .ok (.aload_n 0, 1) := by decide +kernel
theorem dX6_emptyAfter_25 : decode cX6_emptyAfter 25 = .ok (.getfield 13, 3) := by decide +kernel
theorem dX6_emptyAfter_28 : decode cX6_emptyAfter 28 = .ok (.iconst 0, 1) := by decide +kernel
theorem dX6_emptyAfter_29 : decode cX6_emptyAfter 29 = .ok (.invokestatic 50, 3) := by decide +kernel
theorem dX6_emptyAfter_32 : decode cX6_emptyAfter 32 = .ok (.pop, 1) := by decide +kernel
theorem dX6_emptyAfter_33 : decode cX6_emptyAfter 33 = .ok (.iinc 1 1, 3) := by decide +kernel
theorem dX6_emptyAfter_36 : decode cX6_emptyAfter 36 = .ok (.goto (-29), 3) := by decide +kernel
theorem dX6_emptyAfter_39 : decode cX6_emptyAfter 39 = .ok (.aload_n 0, 1) := by decide +kernel
theorem dX6_emptyAfter_40 : decode cX6_emptyAfter 40 = .ok (.getfield 13, 3) := by decide +kernel
theorem dX6_emptyAfter_43 : decode cX6_emptyAfter 43 = .ok (.invokestatic 135, 3) := by decide +kernel
theorem dX6_emptyAfter_46 : decode cX6_emptyAfter 46 = .ok (.ifCond .le 8, 3) := by decide +kernel
theorem dX6_emptyAfter_49 : decode cX6_emptyAfter 49 = .ok (.ldc 117, 2) := by decide +kernel
theorem dX6_emptyAfter_51 : decode cX6_emptyAfter 51 = .ok (.goto 4, 3) := by decide +kernel
theorem dX6_emptyAfter_54 : decode cX6_emptyAfter 54 = .ok (.iload_n 1, 1) := by decide +kernel
theorem dX6_emptyAfter_55 : decode cX6_emptyAfter 55 = .ok (.ireturn, 1) := by decide +kernel
set_option maxRecDepth 20000 in
theorem ggX6_worn_X6_in : GoodIn wsX6_worn wsX6_in := goodIn_r _ [7] (by decide +kernel) (by decide +kernel)
set_option maxRecDepth 20000 in
theorem gX6_worn_X6_in : GoodIn wsX6_worn (va_wsS RX6 65 yX6_in wsX6_in) := goodIn_app (goodIn_of _ (by decide +kernel)) ggX6_worn_X6_in
set_option maxRecDepth 20000 in
theorem ggX6_worn_X6_tries : GoodIn wsX6_worn wsX6_tries := goodIn_r _ [11, 3, 2, 28, 29, 30, 31, 32, 33, 34, 35, 36, 37, 38, 39, 40] (by decide +kernel) (by decide +kernel)
set_option maxRecDepth 20000 in
theorem gX6_worn_X6_tries : GoodIn wsX6_worn (wsV RX6 139 RX6 yX6_tries wsX6_tries) := goodIn_app (goodIn_of _ (by decide +kernel)) ggX6_worn_X6_tries
set_option maxRecDepth 20000 in
theorem ggX6_worn_X6_echoes : GoodIn wsX6_worn wsX6_echoes := goodIn_r _ [15, 3, 16, 17, 6, 18, 19, 20, 21, 22, 23, 24, 25, 26, 27, 28, 29, 30, 31, 32, 33, 34, 35, 36, 37, 38, 39, 40] (by decide +kernel) (by decide +kernel)
set_option maxRecDepth 20000 in
theorem gX6_worn_X6_echoes : GoodIn wsX6_worn (wsV RX6 143 RX6 yX6_echoes wsX6_echoes) := goodIn_app (goodIn_of _ (by decide +kernel)) ggX6_worn_X6_echoes
theorem dX6_worn_0 : decode cX6_worn 0 = .ok (.iload_n 1, 1) := by decide +kernel
theorem dX6_worn_1 : decode cX6_worn 1 = .ok (.iconst 0, 1) := by decide +kernel
theorem dX6_worn_2 : decode cX6_worn 2 = .ok (.iconst 1, 1) := by decide +kernel
theorem dX6_worn_3 : decode cX6_worn 3 = .ok (.invokestatic 65, 3) := by decide +kernel
theorem dX6_worn_6 : decode cX6_worn 6 = .ok (.ifCond .ne 6, 3) := by decide +kernel
theorem dX6_worn_9 : decode cX6_worn 9 = .ok (.ldc 69, 2) := by decide +kernel
theorem dX6_worn_11 : decode cX6_worn 11 = .ok (.ireturn, 1) := by decide +kernel
theorem dX6_worn_12 : decode cX6_worn 12 = .ok (.iconst 0, 1) := by decide +kernel
theorem dX6_worn_13 : decode cX6_worn 13 = .ok (.istore_n 2, 1) := by decide +kernel
theorem dX6_worn_14 : decode cX6_worn 14 = .ok (.iconst (-1), 1) := by decide +kernel
theorem dX6_worn_15 : decode cX6_worn 15 = .ok (.istore_n 3, 1) := by decide +kernel
theorem dX6_worn_16 : decode cX6_worn 16 = .ok (.iconst 0, 1) := by decide +kernel
theorem dX6_worn_17 : decode cX6_worn 17 = .ok (.istore 4, 2) := by decide +kernel
theorem dX6_worn_19 : decode cX6_worn 19 = .ok (.iload 4, 2) := by decide +kernel
theorem dX6_worn_21 : decode cX6_worn 21 = .ok (.aload_n 0, 1) := by decide +kernel
theorem dX6_worn_22 : decode cX6_worn 22 = .ok (.getfield 7, 3) := by decide +kernel
theorem dX6_worn_25 : decode cX6_worn 25 = .ok (.iconst 0, 1) := by decide +kernel
theorem dX6_worn_26 : decode cX6_worn 26 = .ok (.iaload, 1) := by decide +kernel
theorem dX6_worn_27 : decode cX6_worn 27 = .ok (.if_icmp .ge 77, 3) := by decide +kernel
theorem dX6_worn_30 : decode cX6_worn 30 = .ok (.aload_n 0, 1) := by decide +kernel
theorem dX6_worn_31 : decode cX6_worn 31 = .ok (.iconst 1, 1) := by decide +kernel
theorem dX6_worn_32 : decode cX6_worn 32 = .ok (.invokevirtual 139, 3) := by decide +kernel
theorem dX6_worn_35 : decode cX6_worn 35 = .ok (.aload_n 0, 1) := by decide +kernel
theorem dX6_worn_36 : decode cX6_worn 36 = .ok (.getfield 13, 3) := by decide +kernel
theorem dX6_worn_39 : decode cX6_worn 39 = .ok (.bipush 20, 2) := by decide +kernel
theorem dX6_worn_41 : decode cX6_worn 41 = .ok (.iload 4, 2) := by decide +kernel
theorem dX6_worn_43 : decode cX6_worn 43 = .ok (.iadd, 1) := by decide +kernel
theorem dX6_worn_44 : decode cX6_worn 44 = .ok (.iconst 0, 1) := by decide +kernel
theorem dX6_worn_45 : decode cX6_worn 45 = .ok (.iastore, 1) := by decide +kernel
theorem dX6_worn_46 : decode cX6_worn 46 = .ok (.aload_n 0, 1) := by decide +kernel
theorem dX6_worn_47 : decode cX6_worn 47 = .ok (.getfield 13, 3) := by decide +kernel
theorem dX6_worn_50 : decode cX6_worn 50 = .ok (.bipush 30, 2) := by decide +kernel
theorem dX6_worn_52 : decode cX6_worn 52 = .ok (.iload 4, 2) := by decide +kernel
theorem dX6_worn_54 : decode cX6_worn 54 = .ok (.iadd, 1) := by decide +kernel
theorem dX6_worn_55 : decode cX6_worn 55 = .ok (.iconst 0, 1) := by decide +kernel
theorem dX6_worn_56 : decode cX6_worn 56 = .ok (.iastore, 1) := by decide +kernel
theorem dX6_worn_57 : decode cX6_worn 57 = .ok (.aload_n 0, 1) := by decide +kernel
theorem dX6_worn_58 : decode cX6_worn 58 = .ok (.sipush 10000, 3) := by decide +kernel
theorem dX6_worn_61 : decode cX6_worn 61 = .ok (.aload_n 0, 1) := by decide +kernel
theorem dX6_worn_62 : decode cX6_worn 62 = .ok (.getfield 7, 3) := by decide +kernel
theorem dX6_worn_65 : decode cX6_worn 65 = .ok (.iconst 0, 1) := by decide +kernel
theorem dX6_worn_66 : decode cX6_worn 66 = .ok (.iaload, 1) := by decide +kernel
theorem dX6_worn_67 : decode cX6_worn 67 = .ok (.invokevirtual 143, 3) := by decide +kernel
theorem dX6_worn_70 : decode cX6_worn 70 = .ok (.istore 5, 2) := by decide +kernel
theorem dX6_worn_72 : decode cX6_worn 72 = .ok (.iload 5, 2) := by decide +kernel
theorem dX6_worn_74 : decode cX6_worn 74 = .ok (.iload_n 3, 1) := by decide +kernel
theorem dX6_worn_75 : decode cX6_worn 75 = .ok (.if_icmp .le 8, 3) := by decide +kernel
theorem dX6_worn_78 : decode cX6_worn 78 = .ok (.iload 4, 2) := by decide +kernel
theorem dX6_worn_80 : decode cX6_worn 80 = .ok (.goto 4, 3) := by decide +kernel
theorem dX6_worn_83 : decode cX6_worn 83 = .ok (.iload_n 2, 1) := by decide +kernel
theorem dX6_worn_84 : decode cX6_worn 84 = .ok (.istore_n 2, 1) := by decide +kernel
theorem dX6_worn_85 : decode cX6_worn 85 = .ok (.iload 5, 2) := by decide +kernel
theorem dX6_worn_87 : decode cX6_worn 87 = .ok (.iload_n 3, 1) := by decide +kernel
theorem dX6_worn_88 : decode cX6_worn 88 = .ok (.if_icmp .le 8, 3) := by decide +kernel
theorem dX6_worn_91 : decode cX6_worn 91 = .ok (.iload 5, 2) := by decide +kernel
theorem dX6_worn_93 : decode cX6_worn 93 = .ok (.goto 4, 3) := by decide +kernel
theorem dX6_worn_96 : decode cX6_worn 96 = .ok (.iload_n 3, 1) := by decide +kernel
theorem dX6_worn_97 : decode cX6_worn 97 = .ok (.istore_n 3, 1) := by decide +kernel
theorem dX6_worn_98 : decode cX6_worn 98 = .ok (.iinc 4 1, 3) := by decide +kernel
theorem dX6_worn_101 : decode cX6_worn 101 = .ok (.goto (-82), 3) := by decide +kernel
theorem dX6_worn_104 : decode cX6_worn 104 = .ok (.iload_n 1, 1) := by decide +kernel
theorem dX6_worn_105 : decode cX6_worn 105 = .ok (.ifCond .ne 7, 3) := by decide +kernel
theorem dX6_worn_108 : decode cX6_worn 108 = .ok (.iload_n 2, 1) := by decide +kernel
theorem dX6_worn_109 : decode cX6_worn 109 = .ok (.goto 4, 3) := by decide +kernel
theorem dX6_worn_112 : decode cX6_worn 112 = .ok (.iload_n 3, 1) := by decide +kernel
theorem dX6_worn_113 : decode cX6_worn 113 = .ok (.ireturn, 1) := by decide +kernel
set_option maxRecDepth 20000 in
theorem ggX6_isSafe_X6_tries : GoodIn wsX6_isSafe wsX6_tries := goodIn_r _ [6, 1, 7, 20, 21, 22, 23, 24, 25, 26, 27, 28, 29, 30, 31, 32] (by decide +kernel) (by decide +kernel)
set_option maxRecDepth 20000 in
theorem gX6_isSafe_X6_tries : GoodIn wsX6_isSafe (wsV RX6 139 RX6 yX6_tries wsX6_tries) := goodIn_app (goodIn_of _ (by decide +kernel)) ggX6_isSafe_X6_tries
set_option maxRecDepth 20000 in
theorem ggX6_isSafe_X6_handsOver : GoodIn wsX6_isSafe wsX6_handsOver := goodIn_r _ [10, 11, 12, 5, 13, 14, 15, 16, 17, 18, 19] (by decide +kernel) (by decide +kernel)
set_option maxRecDepth 20000 in
theorem gX6_isSafe_X6_handsOver : GoodIn wsX6_isSafe (va_wsS RX6 50 yX6_handsOver wsX6_handsOver) := goodIn_app (goodIn_of _ (by decide +kernel)) ggX6_isSafe_X6_handsOver
theorem dX6_isSafe_0 : decode cX6_isSafe 0 = .ok (.aload_n 0, 1) := by decide +kernel
theorem dX6_isSafe_1 : decode cX6_isSafe 1 = .ok (.iconst 1, 1) := by decide +kernel
theorem dX6_isSafe_2 : decode cX6_isSafe 2 = .ok (.invokevirtual 139, 3) := by decide +kernel
theorem dX6_isSafe_5 : decode cX6_isSafe 5 = .ok (.iconst 0, 1) := by decide +kernel
theorem dX6_isSafe_6 : decode cX6_isSafe 6 = .ok (.istore_n 2, 1) := by decide +kernel
theorem dX6_isSafe_7 : decode cX6_isSafe 7 = .ok (.iload_n 2, 1) := by decide +kernel
theorem dX6_isSafe_8 : decode cX6_isSafe 8 = .ok (.bipush 40, 2) := by decide +kernel
theorem dX6_isSafe_10 : decode cX6_isSafe 10 = .ok (.if_icmp .ge 18, 3) := by decide +kernel
theorem dX6_isSafe_13 : decode cX6_isSafe 13 = .ok (.aload_n 0, 1) := by decide +kernel
theorem dX6_isSafe_14 : decode cX6_isSafe 14 = .ok (.getfield 13, 3) := by decide +kernel
theorem dX6_isSafe_17 : decode cX6_isSafe 17 = .ok (.iload_n 1, 1) := by decide +kernel
theorem dX6_isSafe_18 : decode cX6_isSafe 18 = .ok (.invokestatic 50, 3) := by decide +kernel
theorem dX6_isSafe_21 : decode cX6_isSafe 21 = .ok (.pop, 1) := by decide +kernel
theorem dX6_isSafe_22 : decode cX6_isSafe 22 = .ok (.iinc 2 1, 3) := by decide +kernel
theorem dX6_isSafe_25 : decode cX6_isSafe 25 = .ok (.goto (-18), 3) := by decide +kernel
theorem dX6_isSafe_28 : decode cX6_isSafe 28 = .ok (.aload_n 0, 1) := by decide +kernel
theorem dX6_isSafe_29 : decode cX6_isSafe 29 = .ok (.getfield 13, 3) := by decide +kernel
theorem dX6_isSafe_32 : decode cX6_isSafe 32 = .ok (.bipush 49, 2) := by decide +kernel
theorem dX6_isSafe_34 : decode cX6_isSafe 34 = .ok (.iaload, 1) := by decide +kernel
theorem dX6_isSafe_35 : decode cX6_isSafe 35 = .ok (.ifCond .ne 7, 3) := by decide +kernel
theorem dX6_isSafe_38 : decode cX6_isSafe 38 = .ok (.iconst 1, 1) := by decide +kernel
theorem dX6_isSafe_39 : decode cX6_isSafe 39 = .ok (.goto 4, 3) := by decide +kernel
theorem dX6_isSafe_42 : decode cX6_isSafe 42 = .ok (.iconst 0, 1) := by decide +kernel
theorem dX6_isSafe_43 : decode cX6_isSafe 43 = .ok (.ireturn, 1) := by decide +kernel
set_option maxRecDepth 20000 in
theorem ggX6_safe_X6_isSafe : GoodIn wsX6_safe wsX6_isSafe := goodIn_r _ [5, 6, 7, 8, 9, 4, 10, 11, 12, 13, 14, 15, 16, 17, 18, 19, 20, 21, 22, 23, 24, 25, 26, 27, 28, 29, 30, 31, 32, 33, 34, 35, 36] (by decide +kernel) (by decide +kernel)
set_option maxRecDepth 20000 in
theorem gX6_safe_X6_isSafe : GoodIn wsX6_safe (wsV RX6 146 RX6 yX6_isSafe wsX6_isSafe) := goodIn_app (goodIn_of _ (by decide +kernel)) ggX6_safe_X6_isSafe
theorem dX6_safe_0 : decode cX6_safe 0 = .ok (.iconst 0, 1) := by decide +kernel
theorem dX6_safe_1 : decode cX6_safe 1 = .ok (.istore_n 1, 1) := by decide +kernel
theorem dX6_safe_2 : decode cX6_safe 2 = .ok (.sipush 10000, 3) := by decide +kernel
theorem dX6_safe_5 : decode cX6_safe 5 = .ok (.istore_n 2, 1) := by decide +kernel
theorem dX6_safe_6 : decode cX6_safe 6 = .ok (.iload_n 1, 1) := by decide +kernel
theorem dX6_safe_7 : decode cX6_safe 7 = .ok (.iload_n 2, 1) := by decide +kernel
theorem dX6_safe_8 : decode cX6_safe 8 = .ok (.if_icmp .ge 31, 3) := by decide +kernel
theorem dX6_safe_11 : decode cX6_safe 11 = .ok (.iload_n 1, 1) := by decide +kernel
theorem dX6_safe_12 : decode cX6_safe 12 = .ok (.iload_n 2, 1) := by decide +kernel
theorem dX6_safe_13 : decode cX6_safe 13 = .ok (.iadd, 1) := by decide +kernel
theorem dX6_safe_14 : decode cX6_safe 14 = .ok (.iconst 1, 1) := by decide +kernel
theorem dX6_safe_15 : decode cX6_safe 15 = .ok (.iadd, 1) := by decide +kernel
theorem dX6_safe_16 : decode cX6_safe 16 = .ok (.iconst 2, 1) := by decide +kernel
theorem dX6_safe_17 : decode cX6_safe 17 = .ok (.idiv, 1) := by decide +kernel
theorem dX6_safe_18 : decode cX6_safe 18 = .ok (.istore_n 3, 1) := by decide +kernel
theorem dX6_safe_19 : decode cX6_safe 19 = .ok (.aload_n 0, 1) := by decide +kernel
theorem dX6_safe_20 : decode cX6_safe 20 = .ok (.iload_n 3, 1) := by decide +kernel
theorem dX6_safe_21 : decode cX6_safe 21 = .ok (.invokevirtual 146, 3) := by decide +kernel
theorem dX6_safe_24 : decode cX6_safe 24 = .ok (.ifCond .eq 8, 3) := by decide +kernel
theorem dX6_safe_27 : decode cX6_safe 27 = .ok (.iload_n 3, 1) := by decide +kernel
theorem dX6_safe_28 : decode cX6_safe 28 = .ok (.istore_n 1, 1) := by decide +kernel
theorem dX6_safe_29 : decode cX6_safe 29 = .ok (.goto 7, 3) := by decide +kernel
theorem dX6_safe_32 : decode cX6_safe 32 = .ok (.iload_n 3, 1) := by decide +kernel
theorem dX6_safe_33 : decode cX6_safe 33 = .ok (.iconst 1, 1) := by decide +kernel
theorem dX6_safe_34 : decode cX6_safe 34 = .ok (.isub, 1) := by decide +kernel
theorem dX6_safe_35 : decode cX6_safe 35 = .ok (.istore_n 2, 1) := by decide +kernel
theorem dX6_safe_36 : decode cX6_safe 36 = .ok (.goto (-30), 3) := by decide +kernel
theorem dX6_safe_39 : decode cX6_safe 39 = .ok (.iload_n 1, 1) := by decide +kernel
theorem dX6_safe_40 : decode cX6_safe 40 = .ok (.ireturn, 1) := by decide +kernel
theorem dX6_pairs_0 : decode cX6_pairs 0 = .ok (.iconst 0, 1) := by decide +kernel
theorem dX6_pairs_1 : decode cX6_pairs 1 = .ok (.istore_n 1, 1) := by decide +kernel
theorem dX6_pairs_2 : decode cX6_pairs 2 = .ok (.iconst 0, 1) := by decide +kernel
theorem dX6_pairs_3 : decode cX6_pairs 3 = .ok (.istore_n 2, 1) := by decide +kernel
theorem dX6_pairs_4 : decode cX6_pairs 4 = .ok (.iload_n 2, 1) := by decide +kernel
theorem dX6_pairs_5 : decode cX6_pairs 5 = .ok (.iconst 3, 1) := by decide +kernel
theorem dX6_pairs_6 : decode cX6_pairs 6 = .ok (.if_icmp .ge 30, 3) := by decide +kernel
theorem dX6_pairs_9 : decode cX6_pairs 9 = .ok (.iload_n 1, 1) := by decide +kernel
theorem dX6_pairs_10 : decode cX6_pairs 10 = .ok (.aload_n 0, 1) := by decide +kernel
theorem dX6_pairs_11 : decode cX6_pairs 11 = .ok (.getfield 7, 3) := by decide +kernel
theorem dX6_pairs_14 : decode cX6_pairs 14 = .ok (.bipush 40, 2) := by decide +kernel
theorem dX6_pairs_16 : decode cX6_pairs 16 = .ok (.iload_n 2, 1) := by decide +kernel
theorem dX6_pairs_17 : decode cX6_pairs 17 = .ok (.iadd, 1) := by decide +kernel
theorem dX6_pairs_18 : decode cX6_pairs 18 = .ok (.iaload, 1) := by decide +kernel
theorem dX6_pairs_19 : decode cX6_pairs 19 = .ok (.iconst (-1), 1) := by decide +kernel
theorem dX6_pairs_20 : decode cX6_pairs 20 = .ok (.if_icmp .ne 7, 3) := by decide +kernel
theorem dX6_pairs_23 : decode cX6_pairs 23 = .ok (.iconst 0, 1) := by decide +kernel
theorem dX6_pairs_24 : decode cX6_pairs 24 = .ok (.goto 4, 3) := by decide +kernel
theorem dX6_pairs_27 : decode cX6_pairs 27 = .ok (.iconst 1, 1) := by decide +kernel
theorem dX6_pairs_28 : decode cX6_pairs 28 = .ok (.iadd, 1) := by decide +kernel
theorem dX6_pairs_29 : decode cX6_pairs 29 = .ok (.istore_n 1, 1) := by decide +kernel
theorem dX6_pairs_30 : decode cX6_pairs 30 = .ok (.iinc 2 1, 3) := by decide +kernel
theorem dX6_pairs_33 : decode cX6_pairs 33 = .ok (.goto (-29), 3) := by decide +kernel
theorem dX6_pairs_36 : decode cX6_pairs 36 = .ok (.iload_n 1, 1) := by decide +kernel
theorem dX6_pairs_37 : decode cX6_pairs 37 = .ok (.ireturn, 1) := by decide +kernel
set_option maxRecDepth 20000 in
theorem ggX6_count_X6_pairs : GoodIn wsX6_count wsX6_pairs := goodIn_r _ [9, 1, 17, 18, 19, 20, 21, 22, 23, 24, 25, 26, 27, 28, 29] (by decide +kernel) (by decide +kernel)
set_option maxRecDepth 20000 in
theorem gX6_count_X6_pairs : GoodIn wsX6_count (wsV RX6 149 RX6 yX6_pairs wsX6_pairs) := goodIn_app (goodIn_of _ (by decide +kernel)) ggX6_count_X6_pairs
set_option maxRecDepth 20000 in
theorem ggX6_count_X6_isDue : GoodIn wsX6_count wsX6_isDue := goodIn_r _ [13, 1, 17, 18, 19, 20, 21, 22, 23, 24, 25, 26, 27, 28, 29] (by decide +kernel) (by decide +kernel)
set_option maxRecDepth 20000 in
theorem gX6_count_X6_isDue : GoodIn wsX6_count (wsV RX6 57 RX6 yX6_isDue wsX6_isDue) := goodIn_app (goodIn_of _ (by decide +kernel)) ggX6_count_X6_isDue
set_option maxRecDepth 20000 in
theorem ggX6_count_X6_in : GoodIn wsX6_count wsX6_in := goodIn_r _ [16] (by decide +kernel) (by decide +kernel)
set_option maxRecDepth 20000 in
theorem gX6_count_X6_in : GoodIn wsX6_count (va_wsS RX6 65 yX6_in wsX6_in) := goodIn_app (goodIn_of _ (by decide +kernel)) ggX6_count_X6_in
theorem dX6_count_0 : decode cX6_count 0 = .ok (.iload_n 1, 1) := by decide +kernel
theorem dX6_count_1 : decode cX6_count 1 = .ok (.tableswitch 120 0 8 #[51, 58, 65, 72, 79, 84, 91, 110, 115], 51) := by decide +kernel
theorem dX6_count_52 : decode cX6_count 52 = .ok (.aload_n 0, 1) := by decide +kernel
theorem dX6_count_53 : decode cX6_count 53 = .ok (.getfield 7, 3) := by decide +kernel
theorem dX6_count_56 : decode cX6_count 56 = .ok (.iconst 0, 1) := by decide +kernel
theorem dX6_count_57 : decode cX6_count 57 = .ok (.iaload, 1) := by decide +kernel
theorem dX6_count_58 : decode cX6_count 58 = .ok (.ireturn, 1) := by decide +kernel
theorem dX6_count_59 : decode cX6_count 59 = .ok (.aload_n 0, 1) := by decide +kernel
theorem dX6_count_60 : decode cX6_count 60 = .ok (.getfield 7, 3) := by decide +kernel
theorem dX6_count_63 : decode cX6_count 63 = .ok (.iconst 1, 1) := by decide +kernel
theorem dX6_count_64 : decode cX6_count 64 = .ok (.iaload, 1) := by decide +kernel
theorem dX6_count_65 : decode cX6_count 65 = .ok (.ireturn, 1) := by decide +kernel
theorem dX6_count_66 : decode cX6_count 66 = .ok (.aload_n 0, 1) := by decide +kernel
theorem dX6_count_67 : decode cX6_count 67 = .ok (.getfield 7, 3) := by decide +kernel
theorem dX6_count_70 : decode cX6_count 70 = .ok (.iconst 4, 1) := by decide +kernel
theorem dX6_count_71 : decode cX6_count 71 = .ok (.iaload, 1) := by decide +kernel
theorem dX6_count_72 : decode cX6_count 72 = .ok (.ireturn, 1) := by decide +kernel
theorem dX6_count_73 : decode cX6_count 73 = .ok (.aload_n 0, 1) := by decide +kernel
theorem dX6_count_74 : decode cX6_count 74 = .ok (.getfield 7, 3) := by decide +kernel
theorem dX6_count_77 : decode cX6_count 77 = .ok (.iconst 3, 1) := by decide +kernel
theorem dX6_count_78 : decode cX6_count 78 = .ok (.iaload, 1) := by decide +kernel
theorem dX6_count_79 : decode cX6_count 79 = .ok (.ireturn, 1) := by decide +kernel
theorem dX6_count_80 : decode cX6_count 80 = .ok (.aload_n 0, 1) := by decide +kernel
theorem dX6_count_81 : decode cX6_count 81 = .ok (.invokevirtual 149, 3) := by decide +kernel
theorem dX6_count_84 : decode cX6_count 84 = .ok (.ireturn, 1) := by decide +kernel
theorem dX6_count_85 : decode cX6_count 85 = .ok (.aload_n 0, 1) := by decide +kernel
theorem dX6_count_86 : decode cX6_count 86 = .ok (.getfield 7, 3) := by decide +kernel
theorem dX6_count_89 : decode cX6_count 89 = .ok (.iconst 2, 1) := by decide +kernel
theorem dX6_count_90 : decode cX6_count 90 = .ok (.iaload, 1) := by decide +kernel
theorem dX6_count_91 : decode cX6_count 91 = .ok (.ireturn, 1) := by decide +kernel
theorem dX6_count_92 : decode cX6_count 92 = .ok (.aload_n 0, 1) := by decide +kernel
theorem dX6_count_93 : decode cX6_count 93 = .ok (.aload_n 0, 1) := by decide +kernel
theorem dX6_count_94 : decode cX6_count 94 = .ok (.getfield 7, 3) := by decide +kernel
theorem dX6_count_97 : decode cX6_count 97 = .ok (.iconst 1, 1) := by decide +kernel
theorem dX6_count_98 : decode cX6_count 98 = .ok (.iaload, 1) := by decide +kernel
theorem dX6_count_99 : decode cX6_count 99 = .ok (.invokevirtual 57, 3) := by decide +kernel
theorem dX6_count_102 : decode cX6_count 102 = .ok (.ifCond .eq 7, 3) := by decide +kernel
theorem dX6_count_105 : decode cX6_count 105 = .ok (.iconst 1, 1) := by decide +kernel
theorem dX6_count_106 : decode cX6_count 106 = .ok (.goto 4, 3) := by decide +kernel
theorem dX6_count_109 : decode cX6_count 109 = .ok (.iconst 0, 1) := by decide +kernel
theorem dX6_count_110 : decode cX6_count 110 = .ok (.ireturn, 1) := by decide +kernel
theorem dX6_count_111 : decode cX6_count 111 = .ok (.aload_n 0, 1) := by decide +kernel
theorem dX6_count_112 : decode cX6_count 112 = .ok (.getfield 31, 3) := by decide +kernel
theorem dX6_count_115 : decode cX6_count 115 = .ok (.ireturn, 1) := by decide +kernel
theorem dX6_count_116 : decode cX6_count 116 = .ok (.aload_n 0, 1) := by decide +kernel
theorem dX6_count_117 : decode cX6_count 117 = .ok (.getfield 153, 3) := by decide +kernel
theorem dX6_count_120 : decode cX6_count 120 = .ok (.ireturn, 1) := by decide +kernel
theorem dX6_count_121 : decode cX6_count 121 = .ok (.iload_n 1, 1) := by decide +kernel
theorem dX6_count_122 : decode cX6_count 122 = .ok (.bipush 20, 2) := by decide +kernel
theorem dX6_count_124 : decode cX6_count 124 = .ok (.bipush 24, 2) := by decide +kernel
theorem dX6_count_126 : decode cX6_count 126 = .ok (.invokestatic 65, 3) := by decide +kernel
theorem dX6_count_129 : decode cX6_count 129 = .ok (.ifCond .eq 17, 3) := by decide +kernel
theorem dX6_count_132 : decode cX6_count 132 = .ok (.aload_n 0, 1) := by decide +kernel
theorem dX6_count_133 : decode cX6_count 133 = .ok (.getfield 7, 3) := by decide +kernel
theorem dX6_count_136 : decode cX6_count 136 = .ok (.iconst 5, 1) := by decide +kernel
theorem dX6_count_137 : decode cX6_count 137 = .ok (.iload_n 1, 1) := by decide +kernel
theorem dX6_count_138 : decode cX6_count 138 = .ok (.iadd, 1) := by decide +kernel
theorem dX6_count_139 : decode cX6_count 139 = .ok (.bipush 20, 2) := by decide +kernel
theorem dX6_count_141 : decode cX6_count 141 = .ok (.isub, 1) := by decide +kernel
theorem dX6_count_142 : decode cX6_count 142 = .ok (.iaload, 1) := by decide +kernel
theorem dX6_count_143 : decode cX6_count 143 = .ok (.goto 5, 3) := by decide +kernel
theorem dX6_count_146 : decode cX6_count 146 = .ok (.ldc 69, 2) := by decide +kernel
theorem dX6_count_148 : decode cX6_count 148 = .ok (.ireturn, 1) := by decide +kernel
set_option maxRecDepth 20000 in
theorem ggX6_type_X6_in : GoodIn wsX6_type wsX6_in := goodIn_r _ [8] (by decide +kernel) (by decide +kernel)
set_option maxRecDepth 20000 in
theorem gX6_type_X6_in : GoodIn wsX6_type (va_wsS RX6 65 yX6_in wsX6_in) := goodIn_app (goodIn_of _ (by decide +kernel)) ggX6_type_X6_in
theorem dX6_type_0 : decode cX6_type 0 = .ok (.iload_n 1, 1) := by decide +kernel
theorem dX6_type_1 : decode cX6_type 1 = .ok (.bipush 32, 2) := by decide +kernel
theorem dX6_type_3 : decode cX6_type 3 = .ok (.bipush 126, 2) := by decide +kernel
theorem dX6_type_5 : decode cX6_type 5 = .ok (.invokestatic 65, 3) := by decide +kernel
theorem dX6_type_8 : decode cX6_type 8 = .ok (.ifCond .ne 6, 3) := by decide +kernel
theorem dX6_type_11 : decode cX6_type 11 = .ok (.ldc 69, 2) := by decide +kernel
theorem dX6_type_13 : decode cX6_type 13 = .ok (.ireturn, 1) := by decide +kernel
theorem dX6_type_14 : decode cX6_type 14 = .ok (.aload_n 0, 1) := by decide +kernel
theorem dX6_type_15 : decode cX6_type 15 = .ok (.getfield 153, 3) := by decide +kernel
theorem dX6_type_18 : decode cX6_type 18 = .ok (.bipush 60, 2) := by decide +kernel
theorem dX6_type_20 : decode cX6_type 20 = .ok (.if_icmp .ne 6, 3) := by decide +kernel
theorem dX6_type_23 : decode cX6_type 23 = .ok (.ldc 88, 2) := by decide +kernel
theorem dX6_type_25 : decode cX6_type 25 = .ok (.ireturn, 1) := by decide +kernel
theorem dX6_type_26 : decode cX6_type 26 = .ok (.aload_n 0, 1) := by decide +kernel
theorem dX6_type_27 : decode cX6_type 27 = .ok (.getfield 19, 3) := by decide +kernel
theorem dX6_type_30 : decode cX6_type 30 = .ok (.aload_n 0, 1) := by decide +kernel
theorem dX6_type_31 : decode cX6_type 31 = .ok (.getfield 153, 3) := by decide +kernel
theorem dX6_type_34 : decode cX6_type 34 = .ok (.iload_n 1, 1) := by decide +kernel
theorem dX6_type_35 : decode cX6_type 35 = .ok (.iastore, 1) := by decide +kernel
theorem dX6_type_36 : decode cX6_type 36 = .ok (.aload_n 0, 1) := by decide +kernel
theorem dX6_type_37 : decode cX6_type 37 = .ok (.dup, 1) := by decide +kernel
theorem dX6_type_38 : decode cX6_type 38 = .ok (.getfield 153, 3) := by decide +kernel
theorem dX6_type_41 : decode cX6_type 41 = .ok (.iconst 1, 1) := by decide +kernel
theorem dX6_type_42 : decode cX6_type 42 = .ok (.iadd, 1) := by decide +kernel
theorem dX6_type_43 : decode cX6_type 43 = .ok (.putfield 153, 3) := by decide +kernel
theorem dX6_type_46 : decode cX6_type 46 = .ok (.aload_n 0, 1) := by decide +kernel
theorem dX6_type_47 : decode cX6_type 47 = .ok (.getfield 153, 3) := by decide +kernel
theorem dX6_type_50 : decode cX6_type 50 = .ok (.ireturn, 1) := by decide +kernel
theorem dX6_clearText_0 : decode cX6_clearText 0 = .ok (.aload_n 0, 1) := by decide +kernel
theorem dX6_clearText_1 : decode cX6_clearText 1 = .ok (.getfield 153, 3) := by decide +kernel
theorem dX6_clearText_4 : decode cX6_clearText 4 = .ok (.istore_n 1, 1) := by decide +kernel
theorem dX6_clearText_5 : decode cX6_clearText 5 = .ok (.aload_n 0, 1) := by decide +kernel
theorem dX6_clearText_6 : decode cX6_clearText 6 = .ok (.iconst 0, 1) := by decide +kernel
theorem dX6_clearText_7 : decode cX6_clearText 7 = .ok (.putfield 153, 3) := by decide +kernel
theorem dX6_clearText_10 : decode cX6_clearText 10 = .ok (.iload_n 1, 1) := by decide +kernel
theorem dX6_clearText_11 : decode cX6_clearText 11 = .ok (.ireturn, 1) := by decide +kernel
theorem dX6_takes_0 : decode cX6_takes 0 = .ok (.aload_n 0, 1) := by decide +kernel
theorem dX6_takes_1 : decode cX6_takes 1 = .ok (.getfield 156, 3) := by decide +kernel
theorem dX6_takes_4 : decode cX6_takes 4 = .ok (.aload_n 0, 1) := by decide +kernel
theorem dX6_takes_5 : decode cX6_takes 5 = .ok (.getfield 153, 3) := by decide +kernel
theorem dX6_takes_8 : decode cX6_takes 8 = .ok (.if_icmp .ge 20, 3) := by decide +kernel
theorem dX6_takes_11 : decode cX6_takes 11 = .ok (.aload_n 0, 1) := by decide +kernel
theorem dX6_takes_12 : decode cX6_takes 12 = .ok (.getfield 19, 3) := by decide +kernel
theorem dX6_takes_15 : decode cX6_takes 15 = .ok (.aload_n 0, 1) := by decide +kernel
theorem dX6_takes_16 : decode cX6_takes 16 = .ok (.getfield 156, 3) := by decide +kernel
theorem dX6_takes_19 : decode cX6_takes 19 = .ok (.iaload, 1) := by decide +kernel
theorem dX6_takes_20 : decode cX6_takes 20 = .ok (.iload_n 1, 1) := by decide +kernel
theorem dX6_takes_21 : decode cX6_takes 21 = .ok (.if_icmp .ne 7, 3) := by decide +kernel
theorem dX6_takes_24 : decode cX6_takes 24 = .ok (.iconst 1, 1) := by decide +kernel
theorem dX6_takes_25 : decode cX6_takes 25 = .ok (.goto 4, 3) := by decide +kernel
theorem dX6_takes_28 : decode cX6_takes 28 = .ok (.iconst 0, 1) := by decide +kernel
theorem dX6_takes_29 : decode cX6_takes 29 = .ok (.istore_n 2, 1) := by decide +kernel
theorem dX6_takes_30 : decode cX6_takes 30 = .ok (.aload_n 0, 1) := by decide +kernel
theorem dX6_takes_31 : decode cX6_takes 31 = .ok (.dup, 1) := by decide +kernel
theorem dX6_takes_32 : decode cX6_takes 32 = .ok (.getfield 156, 3) := by decide +kernel
theorem dX6_takes_35 : decode cX6_takes 35 = .ok (.iload_n 2, 1) := by decide +kernel
theorem dX6_takes_36 : decode cX6_takes 36 = .ok (.ifCond .eq 7, 3) := by decide +kernel
theorem dX6_takes_39 : decode cX6_takes 39 = .ok (.iconst 1, 1) := by decide +kernel
theorem dX6_takes_40 : decode cX6_takes 40 = .ok (.goto 4, 3) := by decide +kernel
theorem dX6_takes_43 : decode cX6_takes 43 = .ok (.iconst 0, 1) := by decide +kernel
theorem dX6_takes_44 : decode cX6_takes 44 = .ok (.iadd, 1) := by decide +kernel
theorem dX6_takes_45 : decode cX6_takes 45 = .ok (.putfield 156, 3) := by decide +kernel
theorem dX6_takes_48 : decode cX6_takes 48 = .ok (.iload_n 2, 1) := by decide +kernel
theorem dX6_takes_49 : decode cX6_takes 49 = .ok (.ireturn, 1) := by decide +kernel
set_option maxRecDepth 20000 in
theorem ggX6_takesNumber_X6_in : GoodIn wsX6_takesNumber wsX6_in := goodIn_r _ [8] (by decide +kernel) (by decide +kernel)
set_option maxRecDepth 20000 in
theorem gX6_takesNumber_X6_in : GoodIn wsX6_takesNumber (va_wsS RX6 65 yX6_in wsX6_in) := goodIn_app (goodIn_of _ (by decide +kernel)) ggX6_takesNumber_X6_in
theorem dX6_takesNumber_0 : decode cX6_takesNumber 0 = .ok (.iconst 0, 1) := by decide +kernel
theorem dX6_takesNumber_1 : decode cX6_takesNumber 1 = .ok (.istore_n 3, 1) := by decide +kernel
theorem dX6_takesNumber_2 : decode cX6_takesNumber 2 = .ok (.iconst 0, 1) := by decide +kernel
theorem dX6_takesNumber_3 : decode cX6_takesNumber 3 = .ok (.istore 4, 2) := by decide +kernel
theorem dX6_takesNumber_5 : decode cX6_takesNumber 5 = .ok (.iload 4, 2) := by decide +kernel
theorem dX6_takesNumber_7 : decode cX6_takesNumber 7 = .ok (.iload_n 2, 1) := by decide +kernel
theorem dX6_takesNumber_8 : decode cX6_takesNumber 8 = .ok (.if_icmp .ge 67, 3) := by decide +kernel
theorem dX6_takesNumber_11 : decode cX6_takesNumber 11 = .ok (.aload_n 0, 1) := by decide +kernel
theorem dX6_takesNumber_12 : decode cX6_takesNumber 12 = .ok (.getfield 156, 3) := by decide +kernel
theorem dX6_takesNumber_15 : decode cX6_takesNumber 15 = .ok (.aload_n 0, 1) := by decide +kernel
theorem dX6_takesNumber_16 : decode cX6_takesNumber 16 = .ok (.getfield 153, 3) := by decide +kernel
theorem dX6_takesNumber_19 : decode cX6_takesNumber 19 = .ok (.if_icmp .ge 56, 3) := by decide +kernel
theorem dX6_takesNumber_22 : decode cX6_takesNumber 22 = .ok (.aload_n 0, 1) := by decide +kernel
theorem dX6_takesNumber_23 : decode cX6_takesNumber 23 = .ok (.getfield 19, 3) := by decide +kernel
theorem dX6_takesNumber_26 : decode cX6_takesNumber 26 = .ok (.aload_n 0, 1) := by decide +kernel
theorem dX6_takesNumber_27 : decode cX6_takesNumber 27 = .ok (.getfield 156, 3) := by decide +kernel
theorem dX6_takesNumber_30 : decode cX6_takesNumber 30 = .ok (.iaload, 1) := by decide +kernel
theorem dX6_takesNumber_31 : decode cX6_takesNumber 31 = .ok (.bipush 48, 2) := by decide +kernel
theorem dX6_takesNumber_33 : decode cX6_takesNumber 33 = .ok (.bipush 57, 2) := by decide +kernel
theorem dX6_takesNumber_35 : decode cX6_takesNumber 35 = .ok (.invokestatic 65, 3) := by decide +kernel
theorem dX6_takesNumber_38 : decode cX6_takesNumber 38 = .ok (.ifCond .eq 37, 3) := by decide +kernel
theorem dX6_takesNumber_41 : decode cX6_takesNumber 41 = .ok (.bipush 10, 2) := by decide +kernel
theorem dX6_takesNumber_43 : decode cX6_takesNumber 43 = .ok (.iload_n 3, 1) := by decide +kernel
theorem dX6_takesNumber_44 : decode cX6_takesNumber 44 = .ok (.imul, 1) := by decide +kernel
theorem dX6_takesNumber_45 : decode cX6_takesNumber 45 = .ok (.aload_n 0, 1) := by decide +kernel
theorem dX6_takesNumber_46 : decode cX6_takesNumber 46 = .ok (.getfield 19, 3) := by decide +kernel
theorem dX6_takesNumber_49 : decode cX6_takesNumber 49 = .ok (.aload_n 0, 1) := by decide +kernel
theorem dX6_takesNumber_50 : decode cX6_takesNumber 50 = .ok (.getfield 156, 3) := by decide +kernel
theorem dX6_takesNumber_53 : decode cX6_takesNumber 53 = .ok (.iaload, 1) := by decide +kernel
theorem dX6_takesNumber_54 : decode cX6_takesNumber 54 = .ok (.iadd, 1) := by decide +kernel
theorem dX6_takesNumber_55 : decode cX6_takesNumber 55 = .ok (.bipush 48, 2) := by decide +kernel
theorem dX6_takesNumber_57 : decode cX6_takesNumber 57 = .ok (.isub, 1) := by decide +kernel
theorem dX6_takesNumber_58 : decode cX6_takesNumber 58 = .ok (.istore_n 3, 1) := by decide +kernel
theorem dX6_takesNumber_59 : decode cX6_takesNumber 59 = .ok (.aload_n 0, 1) := by decide +kernel
theorem dX6_takesNumber_60 : decode cX6_takesNumber 60 = .ok (.dup, 1) := by decide +kernel
theorem dX6_takesNumber_61 : decode cX6_takesNumber 61 = .ok (.getfield 156, 3) := by decide +kernel
theorem dX6_takesNumber_64 : decode cX6_takesNumber 64 = .ok (.iconst 1, 1) := by decide +kernel
theorem dX6_takesNumber_65 : decode cX6_takesNumber 65 = .ok (.iadd, 1) := by decide +kernel
theorem dX6_takesNumber_66 : decode cX6_takesNumber 66 = .ok (.putfield 156, 3) := by decide +kernel
theorem dX6_takesNumber_69 : decode cX6_takesNumber 69 = .ok (.iinc 4 1, 3) := by decide +kernel
theorem dX6_takesNumber_72 : decode cX6_takesNumber 72 = .ok (.goto (-67), 3) := by decide +kernel
theorem dX6_takesNumber_75 : decode cX6_takesNumber 75 = .ok (.aload_n 0, 1) := by decide +kernel
theorem dX6_takesNumber_76 : decode cX6_takesNumber 76 = .ok (.getfield 25, 3) := by decide +kernel
theorem dX6_takesNumber_79 : decode cX6_takesNumber 79 = .ok (.iload_n 1, 1) := by decide +kernel
theorem dX6_takesNumber_80 : decode cX6_takesNumber 80 = .ok (.iload_n 3, 1) := by decide +kernel
theorem dX6_takesNumber_81 : decode cX6_takesNumber 81 = .ok (.iastore, 1) := by decide +kernel
theorem dX6_takesNumber_82 : decode cX6_takesNumber 82 = .ok (.iload 4, 2) := by decide +kernel
theorem dX6_takesNumber_84 : decode cX6_takesNumber 84 = .ok (.ifCond .le 7, 3) := by decide +kernel
theorem dX6_takesNumber_87 : decode cX6_takesNumber 87 = .ok (.iconst 1, 1) := by decide +kernel
theorem dX6_takesNumber_88 : decode cX6_takesNumber 88 = .ok (.goto 4, 3) := by decide +kernel
theorem dX6_takesNumber_91 : decode cX6_takesNumber 91 = .ok (.iconst 0, 1) := by decide +kernel
theorem dX6_takesNumber_92 : decode cX6_takesNumber 92 = .ok (.ireturn, 1) := by decide +kernel
set_option maxRecDepth 20000 in
theorem ggX6_hasForm_X6_takes : GoodIn wsX6_hasForm wsX6_takes := goodIn_r _ [9, 1, 2, 3, 18, 19, 20, 21, 22, 23, 24, 25, 26, 27, 28, 29, 30] (by decide +kernel) (by decide +kernel)
set_option maxRecDepth 20000 in
theorem gX6_hasForm_X6_takes : GoodIn wsX6_hasForm (wsV RX6 162 RX6 yX6_takes wsX6_takes) := goodIn_app (goodIn_of _ (by decide +kernel)) ggX6_hasForm_X6_takes
set_option maxRecDepth 20000 in
theorem ggX6_hasForm_X6_takesNumber : GoodIn wsX6_hasForm wsX6_takesNumber := goodIn_r _ [13, 1, 2, 3, 14, 15, 16, 8, 17, 18, 19, 20, 21, 22, 23, 24, 25, 26, 27, 28, 29, 30] (by decide +kernel) (by decide +kernel)
set_option maxRecDepth 20000 in
theorem gX6_hasForm_X6_takesNumber : GoodIn wsX6_hasForm (wsV RX6 165 RX6 yX6_takesNumber wsX6_takesNumber) := goodIn_app (goodIn_of _ (by decide +kernel)) ggX6_hasForm_X6_takesNumber
theorem dX6_hasForm_0 : decode cX6_hasForm 0 = .ok (.aload_n 0, 1) := by decide +kernel
theorem dX6_hasForm_1 : decode cX6_hasForm 1 = .ok (.aload_n 0, 1) := by decide +kernel
theorem dX6_hasForm_2 : decode cX6_hasForm 2 = .ok (.getfield 156, 3) := by decide +kernel
theorem dX6_hasForm_5 : decode cX6_hasForm 5 = .ok (.aload_n 0, 1) := by decide +kernel
theorem dX6_hasForm_6 : decode cX6_hasForm 6 = .ok (.getfield 153, 3) := by decide +kernel
theorem dX6_hasForm_9 : decode cX6_hasForm 9 = .ok (.if_icmp .ge 15, 3) := by decide +kernel
theorem dX6_hasForm_12 : decode cX6_hasForm 12 = .ok (.aload_n 0, 1) := by decide +kernel
theorem dX6_hasForm_13 : decode cX6_hasForm 13 = .ok (.getfield 19, 3) := by decide +kernel
theorem dX6_hasForm_16 : decode cX6_hasForm 16 = .ok (.aload_n 0, 1) := by decide +kernel
theorem dX6_hasForm_17 : decode cX6_hasForm 17 = .ok (.getfield 156, 3) := by decide +kernel
theorem dX6_hasForm_20 : decode cX6_hasForm 20 = .ok (.iaload, 1) := by decide +kernel
theorem dX6_hasForm_21 : decode cX6_hasForm 21 = .ok (.goto 4, 3) := by decide +kernel
theorem dX6_hasForm_24 : decode cX6_hasForm 24 = .ok (.iconst 0, 1) := by decide +kernel
theorem dX6_hasForm_25 : decode cX6_hasForm 25 = .ok (.putfield 159, 3) := by decide +kernel
theorem dX6_hasForm_28 : decode cX6_hasForm 28 = .ok (.aload_n 0, 1) := by decide +kernel
theorem dX6_hasForm_29 : decode cX6_hasForm 29 = .ok (.bipush 115, 2) := by decide +kernel
theorem dX6_hasForm_31 : decode cX6_hasForm 31 = .ok (.invokevirtual 162, 3) := by decide +kernel
theorem dX6_hasForm_34 : decode cX6_hasForm 34 = .ok (.ifCond .eq 27, 3) := by decide +kernel
theorem dX6_hasForm_37 : decode cX6_hasForm 37 = .ok (.aload_n 0, 1) := by decide +kernel
theorem dX6_hasForm_38 : decode cX6_hasForm 38 = .ok (.iconst 0, 1) := by decide +kernel
theorem dX6_hasForm_39 : decode cX6_hasForm 39 = .ok (.iconst 5, 1) := by decide +kernel
theorem dX6_hasForm_40 : decode cX6_hasForm 40 = .ok (.invokevirtual 165, 3) := by decide +kernel
theorem dX6_hasForm_43 : decode cX6_hasForm 43 = .ok (.ifCond .eq 16, 3) := by decide +kernel
theorem dX6_hasForm_46 : decode cX6_hasForm 46 = .ok (.aload_n 0, 1) := by decide +kernel
theorem dX6_hasForm_47 : decode cX6_hasForm 47 = .ok (.bipush 59, 2) := by decide +kernel
theorem dX6_hasForm_49 : decode cX6_hasForm 49 = .ok (.invokevirtual 162, 3) := by decide +kernel
theorem dX6_hasForm_52 : decode cX6_hasForm 52 = .ok (.ifCond .eq 7, 3) := by decide +kernel
theorem dX6_hasForm_55 : decode cX6_hasForm 55 = .ok (.iconst 1, 1) := by decide +kernel
theorem dX6_hasForm_56 : decode cX6_hasForm 56 = .ok (.goto 4, 3) := by decide +kernel
theorem dX6_hasForm_59 : decode cX6_hasForm 59 = .ok (.iconst 0, 1) := by decide +kernel
theorem dX6_hasForm_60 : decode cX6_hasForm 60 = .ok (.ireturn, 1) := by decide +kernel
theorem dX6_hasForm_61 : decode cX6_hasForm 61 = .ok (.aload_n 0, 1) := by decide +kernel
theorem dX6_hasForm_62 : decode cX6_hasForm 62 = .ok (.bipush 108, 2) := by decide +kernel
theorem dX6_hasForm_64 : decode cX6_hasForm 64 = .ok (.invokevirtual 162, 3) := by decide +kernel
theorem dX6_hasForm_67 : decode cX6_hasForm 67 = .ok (.ifCond .eq 61, 3) := by decide +kernel
theorem dX6_hasForm_70 : decode cX6_hasForm 70 = .ok (.aload_n 0, 1) := by decide +kernel
theorem dX6_hasForm_71 : decode cX6_hasForm 71 = .ok (.iconst 0, 1) := by decide +kernel
theorem dX6_hasForm_72 : decode cX6_hasForm 72 = .ok (.iconst 1, 1) := by decide +kernel
theorem dX6_hasForm_73 : decode cX6_hasForm 73 = .ok (.invokevirtual 165, 3) := by decide +kernel
theorem dX6_hasForm_76 : decode cX6_hasForm 76 = .ok (.ifCond .eq 52, 3) := by decide +kernel
theorem dX6_hasForm_79 : decode cX6_hasForm 79 = .ok (.aload_n 0, 1) := by decide +kernel
theorem dX6_hasForm_80 : decode cX6_hasForm 80 = .ok (.bipush 44, 2) := by decide +kernel
theorem dX6_hasForm_82 : decode cX6_hasForm 82 = .ok (.invokevirtual 162, 3) := by decide +kernel
theorem dX6_hasForm_85 : decode cX6_hasForm 85 = .ok (.ifCond .eq 43, 3) := by decide +kernel
theorem dX6_hasForm_88 : decode cX6_hasForm 88 = .ok (.aload_n 0, 1) := by decide +kernel
theorem dX6_hasForm_89 : decode cX6_hasForm 89 = .ok (.iconst 1, 1) := by decide +kernel
theorem dX6_hasForm_90 : decode cX6_hasForm 90 = .ok (.iconst 5, 1) := by decide +kernel
theorem dX6_hasForm_91 : decode cX6_hasForm 91 = .ok (.invokevirtual 165, 3) := by decide +kernel
theorem dX6_hasForm_94 : decode cX6_hasForm 94 = .ok (.ifCond .eq 34, 3) := by decide +kernel
theorem dX6_hasForm_97 : decode cX6_hasForm 97 = .ok (.aload_n 0, 1) := by decide +kernel
theorem dX6_hasForm_98 : decode cX6_hasForm 98 = .ok (.bipush 44, 2) := by decide +kernel
theorem dX6_hasForm_100 : decode cX6_hasForm 100 = .ok (.invokevirtual 162, 3) := by decide +kernel
theorem dX6_hasForm_103 : decode cX6_hasForm 103 = .ok (.ifCond .eq 25, 3) := by decide +kernel
theorem dX6_hasForm_106 : decode cX6_hasForm 106 = .ok (.aload_n 0, 1) := by decide +kernel
theorem dX6_hasForm_107 : decode cX6_hasForm 107 = .ok (.iconst 2, 1) := by decide +kernel
theorem dX6_hasForm_108 : decode cX6_hasForm 108 = .ok (.iconst 5, 1) := by decide +kernel
theorem dX6_hasForm_109 : decode cX6_hasForm 109 = .ok (.invokevirtual 165, 3) := by decide +kernel
theorem dX6_hasForm_112 : decode cX6_hasForm 112 = .ok (.ifCond .eq 16, 3) := by decide +kernel
theorem dX6_hasForm_115 : decode cX6_hasForm 115 = .ok (.aload_n 0, 1) := by decide +kernel
theorem dX6_hasForm_116 : decode cX6_hasForm 116 = .ok (.bipush 59, 2) := by decide +kernel
theorem dX6_hasForm_118 : decode cX6_hasForm 118 = .ok (.invokevirtual 162, 3) := by decide +kernel
theorem dX6_hasForm_121 : decode cX6_hasForm 121 = .ok (.ifCond .eq 7, 3) := by decide +kernel
theorem dX6_hasForm_124 : decode cX6_hasForm 124 = .ok (.iconst 1, 1) := by decide +kernel
theorem dX6_hasForm_125 : decode cX6_hasForm 125 = .ok (.goto 4, 3) := by decide +kernel
theorem dX6_hasForm_128 : decode cX6_hasForm 128 = .ok (.iconst 0, 1) := by decide +kernel
theorem dX6_hasForm_129 : decode cX6_hasForm 129 = .ok (.ireturn, 1) := by decide +kernel
theorem dX6_wrongNumber_0 : decode cX6_wrongNumber 0 = .ok (.aload_n 0, 1) := by decide +kernel
theorem dX6_wrongNumber_1 : decode cX6_wrongNumber 1 = .ok (.getfield 159, 3) := by decide +kernel
theorem dX6_wrongNumber_4 : decode cX6_wrongNumber 4 = .ok (.bipush 115, 2) := by decide +kernel
theorem dX6_wrongNumber_6 : decode cX6_wrongNumber 6 = .ok (.if_icmp .ne 21, 3) := by decide +kernel
theorem dX6_wrongNumber_9 : decode cX6_wrongNumber 9 = .ok (.aload_n 0, 1) := by decide +kernel
theorem dX6_wrongNumber_10 : decode cX6_wrongNumber 10 = .ok (.getfield 25, 3) := by decide +kernel
theorem dX6_wrongNumber_13 : decode cX6_wrongNumber 13 = .ok (.iconst 0, 1) := by decide +kernel
theorem dX6_wrongNumber_14 : decode cX6_wrongNumber 14 = .ok (.iaload, 1) := by decide +kernel
theorem dX6_wrongNumber_15 : decode cX6_wrongNumber 15 = .ok (.sipush 10000, 3) := by decide +kernel
theorem dX6_wrongNumber_18 : decode cX6_wrongNumber 18 = .ok (.if_icmp .le 7, 3) := by decide +kernel
theorem dX6_wrongNumber_21 : decode cX6_wrongNumber 21 = .ok (.iconst 0, 1) := by decide +kernel
theorem dX6_wrongNumber_22 : decode cX6_wrongNumber 22 = .ok (.goto 4, 3) := by decide +kernel
theorem dX6_wrongNumber_25 : decode cX6_wrongNumber 25 = .ok (.iconst (-1), 1) := by decide +kernel
theorem dX6_wrongNumber_26 : decode cX6_wrongNumber 26 = .ok (.ireturn, 1) := by decide +kernel
theorem dX6_wrongNumber_27 : decode cX6_wrongNumber 27 = .ok (.aload_n 0, 1) := by decide +kernel
theorem dX6_wrongNumber_28 : decode cX6_wrongNumber 28 = .ok (.getfield 25, 3) := by decide +kernel
theorem dX6_wrongNumber_31 : decode cX6_wrongNumber 31 = .ok (.iconst 1, 1) := by decide +kernel
theorem dX6_wrongNumber_32 : decode cX6_wrongNumber 32 = .ok (.iaload, 1) := by decide +kernel
theorem dX6_wrongNumber_33 : decode cX6_wrongNumber 33 = .ok (.sipush 300, 3) := by decide +kernel
theorem dX6_wrongNumber_36 : decode cX6_wrongNumber 36 = .ok (.if_icmp .le 7, 3) := by decide +kernel
theorem dX6_wrongNumber_39 : decode cX6_wrongNumber 39 = .ok (.iconst 1, 1) := by decide +kernel
theorem dX6_wrongNumber_40 : decode cX6_wrongNumber 40 = .ok (.goto 20, 3) := by decide +kernel
theorem dX6_wrongNumber_43 : decode cX6_wrongNumber 43 = .ok (.aload_n 0, 1) := by decide +kernel
theorem dX6_wrongNumber_44 : decode cX6_wrongNumber 44 = .ok (.getfield 25, 3) := by decide +kernel
theorem dX6_wrongNumber_47 : decode cX6_wrongNumber 47 = .ok (.iconst 2, 1) := by decide +kernel
theorem dX6_wrongNumber_48 : decode cX6_wrongNumber 48 = .ok (.iaload, 1) := by decide +kernel
theorem dX6_wrongNumber_49 : decode cX6_wrongNumber 49 = .ok (.sipush 300, 3) := by decide +kernel
theorem dX6_wrongNumber_52 : decode cX6_wrongNumber 52 = .ok (.if_icmp .le 7, 3) := by decide +kernel
theorem dX6_wrongNumber_55 : decode cX6_wrongNumber 55 = .ok (.iconst 2, 1) := by decide +kernel
theorem dX6_wrongNumber_56 : decode cX6_wrongNumber 56 = .ok (.goto 4, 3) := by decide +kernel
theorem dX6_wrongNumber_59 : decode cX6_wrongNumber 59 = .ok (.iconst (-1), 1) := by decide +kernel
theorem dX6_wrongNumber_60 : decode cX6_wrongNumber 60 = .ok (.ireturn, 1) := by decide +kernel
set_option maxRecDepth 20000 in
theorem ggX6_reads_X6_hasForm : GoodIn wsX6_reads wsX6_hasForm := goodIn_r _ [10, 1, 11, 12, 4, 13, 14, 15, 9, 16, 17, 18, 19, 20, 5, 21, 22, 23, 33, 34, 35, 36, 37, 38, 39, 40, 41, 42, 43, 44, 45] (by decide +kernel) (by decide +kernel)
set_option maxRecDepth 20000 in
theorem gX6_reads_X6_hasForm : GoodIn wsX6_reads (wsV RX6 171 RX6 yX6_hasForm wsX6_hasForm) := goodIn_app (goodIn_of _ (by decide +kernel)) ggX6_reads_X6_hasForm
set_option maxRecDepth 20000 in
theorem ggX6_reads_X6_isStage : GoodIn wsX6_reads wsX6_isStage := goodIn_r _ [27, 28, 21, 22, 9, 23, 33, 34, 35, 36, 37, 38, 39, 40, 41, 42, 43, 44, 45] (by decide +kernel) (by decide +kernel)
set_option maxRecDepth 20000 in
theorem gX6_reads_X6_isStage : GoodIn wsX6_reads (wsV RX6 73 RX6 yX6_isStage wsX6_isStage) := goodIn_app (goodIn_of _ (by decide +kernel)) ggX6_reads_X6_isStage
set_option maxRecDepth 20000 in
theorem ggX6_reads_X6_wrongNumber : GoodIn wsX6_reads wsX6_wrongNumber := goodIn_r _ [32, 4, 5, 33, 34, 35, 36, 37, 38, 39, 40, 41, 42, 43, 44, 45] (by decide +kernel) (by decide +kernel)
set_option maxRecDepth 20000 in
theorem gX6_reads_X6_wrongNumber : GoodIn wsX6_reads (wsV RX6 178 RX6 yX6_wrongNumber wsX6_wrongNumber) := goodIn_app (goodIn_of _ (by decide +kernel)) ggX6_reads_X6_wrongNumber
theorem dX6_reads_0 : decode cX6_reads 0 = .ok (.aload_n 0, 1) := by decide +kernel
theorem dX6_reads_1 : decode cX6_reads 1 = .ok (.getfield 156, 3) := by decide +kernel
theorem dX6_reads_4 : decode cX6_reads 4 = .ok (.istore_n 1, 1) := by decide +kernel
theorem dX6_reads_5 : decode cX6_reads 5 = .ok (.aload_n 0, 1) := by decide +kernel
theorem dX6_reads_6 : decode cX6_reads 6 = .ok (.iconst 1, 1) := by decide +kernel
theorem dX6_reads_7 : decode cX6_reads 7 = .ok (.putfield 168, 3) := by decide +kernel
theorem dX6_reads_10 : decode cX6_reads 10 = .ok (.aload_n 0, 1) := by decide +kernel
theorem dX6_reads_11 : decode cX6_reads 11 = .ok (.invokevirtual 171, 3) := by decide +kernel
theorem dX6_reads_14 : decode cX6_reads 14 = .ok (.ifCond .ne 15, 3) := by decide +kernel
theorem dX6_reads_17 : decode cX6_reads 17 = .ok (.aload_n 0, 1) := by decide +kernel
theorem dX6_reads_18 : decode cX6_reads 18 = .ok (.aload_n 0, 1) := by decide +kernel
theorem dX6_reads_19 : decode cX6_reads 19 = .ok (.getfield 156, 3) := by decide +kernel
theorem dX6_reads_22 : decode cX6_reads 22 = .ok (.iload_n 1, 1) := by decide +kernel
theorem dX6_reads_23 : decode cX6_reads 23 = .ok (.isub, 1) := by decide +kernel
theorem dX6_reads_24 : decode cX6_reads 24 = .ok (.putfield 175, 3) := by decide +kernel
theorem dX6_reads_27 : decode cX6_reads 27 = .ok (.iconst 0, 1) := by decide +kernel
theorem dX6_reads_28 : decode cX6_reads 28 = .ok (.ireturn, 1) := by decide +kernel
theorem dX6_reads_29 : decode cX6_reads 29 = .ok (.aload_n 0, 1) := by decide +kernel
theorem dX6_reads_30 : decode cX6_reads 30 = .ok (.iconst 2, 1) := by decide +kernel
theorem dX6_reads_31 : decode cX6_reads 31 = .ok (.putfield 168, 3) := by decide +kernel
theorem dX6_reads_34 : decode cX6_reads 34 = .ok (.aload_n 0, 1) := by decide +kernel
theorem dX6_reads_35 : decode cX6_reads 35 = .ok (.getfield 159, 3) := by decide +kernel
theorem dX6_reads_38 : decode cX6_reads 38 = .ok (.bipush 108, 2) := by decide +kernel
theorem dX6_reads_40 : decode cX6_reads 40 = .ok (.if_icmp .ne 18, 3) := by decide +kernel
theorem dX6_reads_43 : decode cX6_reads 43 = .ok (.aload_n 0, 1) := by decide +kernel
theorem dX6_reads_44 : decode cX6_reads 44 = .ok (.aload_n 0, 1) := by decide +kernel
theorem dX6_reads_45 : decode cX6_reads 45 = .ok (.getfield 25, 3) := by decide +kernel
theorem dX6_reads_48 : decode cX6_reads 48 = .ok (.iconst 0, 1) := by decide +kernel
theorem dX6_reads_49 : decode cX6_reads 49 = .ok (.iaload, 1) := by decide +kernel
theorem dX6_reads_50 : decode cX6_reads 50 = .ok (.invokevirtual 73, 3) := by decide +kernel
theorem dX6_reads_53 : decode cX6_reads 53 = .ok (.ifCond .ne 5, 3) := by decide +kernel
theorem dX6_reads_56 : decode cX6_reads 56 = .ok (.iconst 0, 1) := by decide +kernel
theorem dX6_reads_57 : decode cX6_reads 57 = .ok (.ireturn, 1) := by decide +kernel
theorem dX6_reads_58 : decode cX6_reads 58 = .ok (.aload_n 0, 1) := by decide +kernel
theorem dX6_reads_59 : decode cX6_reads 59 = .ok (.iconst 3, 1) := by decide +kernel
theorem dX6_reads_60 : decode cX6_reads 60 = .ok (.putfield 168, 3) := by decide +kernel
theorem dX6_reads_63 : decode cX6_reads 63 = .ok (.aload_n 0, 1) := by decide +kernel
theorem dX6_reads_64 : decode cX6_reads 64 = .ok (.aload_n 0, 1) := by decide +kernel
theorem dX6_reads_65 : decode cX6_reads 65 = .ok (.invokevirtual 178, 3) := by decide +kernel
theorem dX6_reads_68 : decode cX6_reads 68 = .ok (.putfield 175, 3) := by decide +kernel
theorem dX6_reads_71 : decode cX6_reads 71 = .ok (.aload_n 0, 1) := by decide +kernel
theorem dX6_reads_72 : decode cX6_reads 72 = .ok (.getfield 175, 3) := by decide +kernel
theorem dX6_reads_75 : decode cX6_reads 75 = .ok (.iconst (-1), 1) := by decide +kernel
theorem dX6_reads_76 : decode cX6_reads 76 = .ok (.if_icmp .ne 7, 3) := by decide +kernel
theorem dX6_reads_79 : decode cX6_reads 79 = .ok (.iconst 1, 1) := by decide +kernel
theorem dX6_reads_80 : decode cX6_reads 80 = .ok (.goto 4, 3) := by decide +kernel
theorem dX6_reads_83 : decode cX6_reads 83 = .ok (.iconst 0, 1) := by decide +kernel
theorem dX6_reads_84 : decode cX6_reads 84 = .ok (.ireturn, 1) := by decide +kernel
set_option maxRecDepth 20000 in
theorem ggX6_position_X6_reads : GoodIn wsX6_position wsX6_reads := goodIn_r _ [7, 1, 8, 9, 10, 11, 12, 13, 14, 6, 15, 2, 16, 17, 18, 19, 20, 21, 22, 23, 24, 25, 26, 27, 28, 29, 30, 31, 32, 33, 34, 35, 36, 37, 38, 39, 40, 41, 42, 43, 44, 45, 46, 47, 48, 49] (by decide +kernel) (by decide +kernel)
set_option maxRecDepth 20000 in
theorem gX6_position_X6_reads : GoodIn wsX6_position (wsV RX6 181 RX6 yX6_reads wsX6_reads) := goodIn_app (goodIn_of _ (by decide +kernel)) ggX6_position_X6_reads
theorem dX6_position_0 : decode cX6_position 0 = .ok (.aload_n 0, 1) := by decide +kernel
theorem dX6_position_1 : decode cX6_position 1 = .ok (.iconst 0, 1) := by decide +kernel
theorem dX6_position_2 : decode cX6_position 2 = .ok (.putfield 156, 3) := by decide +kernel
theorem dX6_position_5 : decode cX6_position 5 = .ok (.iconst 0, 1) := by decide +kernel
theorem dX6_position_6 : decode cX6_position 6 = .ok (.istore_n 1, 1) := by decide +kernel
theorem dX6_position_7 : decode cX6_position 7 = .ok (.aload_n 0, 1) := by decide +kernel
theorem dX6_position_8 : decode cX6_position 8 = .ok (.getfield 156, 3) := by decide +kernel
theorem dX6_position_11 : decode cX6_position 11 = .ok (.aload_n 0, 1) := by decide +kernel
theorem dX6_position_12 : decode cX6_position 12 = .ok (.getfield 153, 3) := by decide +kernel
theorem dX6_position_15 : decode cX6_position 15 = .ok (.if_icmp .ge 17, 3) := by decide +kernel
theorem dX6_position_18 : decode cX6_position 18 = .ok (.aload_n 0, 1) := by decide +kernel
theorem dX6_position_19 : decode cX6_position 19 = .ok (.getfield 156, 3) := by decide +kernel
theorem dX6_position_22 : decode cX6_position 22 = .ok (.istore_n 1, 1) := by decide +kernel
theorem dX6_position_23 : decode cX6_position 23 = .ok (.aload_n 0, 1) := by decide +kernel
theorem dX6_position_24 : decode cX6_position 24 = .ok (.invokevirtual 181, 3) := by decide +kernel
theorem dX6_position_27 : decode cX6_position 27 = .ok (.ifCond .ne (-20), 3) := by decide +kernel
theorem dX6_position_30 : decode cX6_position 30 = .ok (.iload_n 1, 1) := by decide +kernel
theorem dX6_position_31 : decode cX6_position 31 = .ok (.ireturn, 1) := by decide +kernel
theorem dX6_position_32 : decode cX6_position 32 = .ok (.iconst (-1), 1) := by decide +kernel
theorem dX6_position_33 : decode cX6_position 33 = .ok (.ireturn, 1) := by decide +kernel
set_option maxRecDepth 20000 in
theorem ggX6_fault_X6_in : GoodIn wsX6_fault wsX6_in := goodIn_r _ [8] (by decide +kernel) (by decide +kernel)
set_option maxRecDepth 20000 in
theorem gX6_fault_X6_in : GoodIn wsX6_fault (va_wsS RX6 65 yX6_in wsX6_in) := goodIn_app (goodIn_of _ (by decide +kernel)) ggX6_fault_X6_in
set_option maxRecDepth 20000 in
theorem ggX6_fault_X6_position : GoodIn wsX6_fault wsX6_position := goodIn_r _ [12, 13, 14, 15, 16, 17, 7, 18, 3, 4, 19, 20, 21, 22, 23, 24, 25, 26, 27, 28, 29, 30, 31, 32, 33, 5, 6, 8, 34, 35, 36, 37, 38, 39, 40, 41, 42, 43, 44, 45, 46, 47, 48, 49, 50, 51, 52, 53, 54, 55] (by decide +kernel) (by decide +kernel)
set_option maxRecDepth 20000 in
theorem gX6_fault_X6_position : GoodIn wsX6_fault (wsV RX6 184 RX6 yX6_position wsX6_position) := goodIn_app (goodIn_of _ (by decide +kernel)) ggX6_fault_X6_position
theorem dX6_fault_0 : decode cX6_fault 0 = .ok (.iload_n 1, 1) := by decide +kernel
theorem dX6_fault_1 : decode cX6_fault 1 = .ok (.iconst 0, 1) := by decide +kernel
theorem dX6_fault_2 : decode cX6_fault 2 = .ok (.iconst 2, 1) := by decide +kernel
theorem dX6_fault_3 : decode cX6_fault 3 = .ok (.invokestatic 65, 3) := by decide +kernel
theorem dX6_fault_6 : decode cX6_fault 6 = .ok (.ifCond .ne 6, 3) := by decide +kernel
theorem dX6_fault_9 : decode cX6_fault 9 = .ok (.ldc 69, 2) := by decide +kernel
theorem dX6_fault_11 : decode cX6_fault 11 = .ok (.ireturn, 1) := by decide +kernel
theorem dX6_fault_12 : decode cX6_fault 12 = .ok (.aload_n 0, 1) := by decide +kernel
theorem dX6_fault_13 : decode cX6_fault 13 = .ok (.invokevirtual 184, 3) := by decide +kernel
theorem dX6_fault_16 : decode cX6_fault 16 = .ok (.istore_n 2, 1) := by decide +kernel
theorem dX6_fault_17 : decode cX6_fault 17 = .ok (.iload_n 2, 1) := by decide +kernel
theorem dX6_fault_18 : decode cX6_fault 18 = .ok (.iconst (-1), 1) := by decide +kernel
theorem dX6_fault_19 : decode cX6_fault 19 = .ok (.if_icmp .ne 6, 3) := by decide +kernel
theorem dX6_fault_22 : decode cX6_fault 22 = .ok (.ldc 117, 2) := by decide +kernel
theorem dX6_fault_24 : decode cX6_fault 24 = .ok (.ireturn, 1) := by decide +kernel
theorem dX6_fault_25 : decode cX6_fault 25 = .ok (.iload_n 1, 1) := by decide +kernel
theorem dX6_fault_26 : decode cX6_fault 26 = .ok (.ifCond .ne 7, 3) := by decide +kernel
theorem dX6_fault_29 : decode cX6_fault 29 = .ok (.iload_n 2, 1) := by decide +kernel
theorem dX6_fault_30 : decode cX6_fault 30 = .ok (.goto 32, 3) := by decide +kernel
theorem dX6_fault_33 : decode cX6_fault 33 = .ok (.iload_n 1, 1) := by decide +kernel
theorem dX6_fault_34 : decode cX6_fault 34 = .ok (.iconst 1, 1) := by decide +kernel
theorem dX6_fault_35 : decode cX6_fault 35 = .ok (.if_icmp .ne 10, 3) := by decide +kernel
theorem dX6_fault_38 : decode cX6_fault 38 = .ok (.aload_n 0, 1) := by decide +kernel
theorem dX6_fault_39 : decode cX6_fault 39 = .ok (.getfield 168, 3) := by decide +kernel
theorem dX6_fault_42 : decode cX6_fault 42 = .ok (.goto 20, 3) := by decide +kernel
theorem dX6_fault_45 : decode cX6_fault 45 = .ok (.aload_n 0, 1) := by decide +kernel
theorem dX6_fault_46 : decode cX6_fault 46 = .ok (.getfield 168, 3) := by decide +kernel
theorem dX6_fault_49 : decode cX6_fault 49 = .ok (.iconst 2, 1) := by decide +kernel
theorem dX6_fault_50 : decode cX6_fault 50 = .ok (.if_icmp .ne 8, 3) := by decide +kernel
theorem dX6_fault_53 : decode cX6_fault 53 = .ok (.ldc 117, 2) := by decide +kernel
theorem dX6_fault_55 : decode cX6_fault 55 = .ok (.goto 7, 3) := by decide +kernel
theorem dX6_fault_58 : decode cX6_fault 58 = .ok (.aload_n 0, 1) := by decide +kernel
theorem dX6_fault_59 : decode cX6_fault 59 = .ok (.getfield 175, 3) := by decide +kernel
theorem dX6_fault_62 : decode cX6_fault 62 = .ok (.ireturn, 1) := by decide +kernel
set_option maxRecDepth 20000 in
theorem ggX6_play_X6_position : GoodIn wsX6_play wsX6_position := goodIn_r _ [12, 5, 2, 13, 14, 15, 11, 16, 17, 18, 6, 7, 19, 20, 21, 22, 3, 23, 24, 25, 26, 27, 28, 29, 30, 31, 32, 33, 34, 35, 36, 37, 38, 39, 40, 41, 42, 112, 113, 114, 115, 116, 117, 118, 119, 120, 121, 122, 123, 124] (by decide +kernel) (by decide +kernel)
set_option maxRecDepth 20000 in
theorem gX6_play_X6_position : GoodIn wsX6_play (wsV RX6 184 RX6 yX6_position wsX6_position) := goodIn_app (goodIn_of _ (by decide +kernel)) ggX6_play_X6_position
set_option maxRecDepth 20000 in
theorem ggX6_play_X6_handedBehind : GoodIn wsX6_play wsX6_handedBehind := goodIn_r _ [46, 38, 47, 48, 49, 11, 50, 112, 113, 114, 115, 116, 117, 118, 119, 120, 121, 122, 123, 124] (by decide +kernel) (by decide +kernel)
set_option maxRecDepth 20000 in
theorem gX6_play_X6_handedBehind : GoodIn wsX6_play (wsV RX6 85 RX6 yX6_handedBehind wsX6_handedBehind) := goodIn_app (goodIn_of _ (by decide +kernel)) ggX6_play_X6_handedBehind
set_option maxRecDepth 20000 in
theorem ggX6_play_X6_records : GoodIn wsX6_play wsX6_records := goodIn_r _ [54, 55, 56, 38, 112, 113, 114, 115, 116, 117, 118, 119, 120, 121, 122, 123, 124] (by decide +kernel) (by decide +kernel)
set_option maxRecDepth 20000 in
theorem gX6_play_X6_records : GoodIn wsX6_play (wsV RX6 70 RX6 yX6_records wsX6_records) := goodIn_app (goodIn_of _ (by decide +kernel)) ggX6_play_X6_records
set_option maxRecDepth 20000 in
theorem ggX6_play_X6_reads : GoodIn wsX6_play wsX6_reads := goodIn_r _ [16, 5, 17, 18, 6, 7, 19, 20, 21, 11, 22, 2, 3, 23, 24, 25, 26, 27, 28, 29, 30, 31, 32, 33, 34, 35, 36, 37, 38, 39, 40, 41, 42, 112, 113, 114, 115, 116, 117, 118, 119, 120, 121, 122, 123, 124] (by decide +kernel) (by decide +kernel)
set_option maxRecDepth 20000 in
theorem gX6_play_X6_reads : GoodIn wsX6_play (wsV RX6 181 RX6 yX6_reads wsX6_reads) := goodIn_app (goodIn_of _ (by decide +kernel)) ggX6_play_X6_reads
set_option maxRecDepth 20000 in
theorem ggX6_play_X6_gives : GoodIn wsX6_play wsX6_gives := goodIn_r _ [60, 38, 47, 48, 49, 11, 50, 61, 62, 63, 64, 65, 66, 67, 68, 69, 70, 71, 72, 73, 74, 75, 76, 77, 78, 79, 80, 81, 82, 83, 84, 85, 86, 87, 88, 89, 90, 91, 92, 93, 94, 95, 96, 97, 98, 99, 100, 101, 102, 103, 104, 105, 106, 107, 112, 113, 114, 115, 116, 117, 118, 119, 120, 121, 122, 123, 124] (by decide +kernel) (by decide +kernel)
set_option maxRecDepth 20000 in
theorem gX6_play_X6_gives : GoodIn wsX6_play (wsV RX6 89 RX6 yX6_gives wsX6_gives) := goodIn_app (goodIn_of _ (by decide +kernel)) ggX6_play_X6_gives
set_option maxRecDepth 20000 in
theorem ggX6_play_X6_shares : GoodIn wsX6_play wsX6_shares := goodIn_r _ [111, 38, 112, 113, 114, 115, 116, 117, 118, 119, 120, 121, 122, 123, 124] (by decide +kernel) (by decide +kernel)
set_option maxRecDepth 20000 in
theorem gX6_play_X6_shares : GoodIn wsX6_play (wsV RX6 76 RX6 yX6_shares wsX6_shares) := goodIn_app (goodIn_of _ (by decide +kernel)) ggX6_play_X6_shares
theorem dX6_play_0 : decode cX6_play 0 = .ok (.aload_n 0, 1) := by decide +kernel
theorem dX6_play_1 : decode cX6_play 1 = .ok (.invokevirtual 184, 3) := by decide +kernel
theorem dX6_play_4 : decode cX6_play 4 = .ok (.iconst (-1), 1) := by decide +kernel
theorem dX6_play_5 : decode cX6_play 5 = .ok (.if_icmp .eq 6, 3) := by decide +kernel
theorem dX6_play_8 : decode cX6_play 8 = .ok (.ldc 35, 2) := by decide +kernel
theorem dX6_play_10 : decode cX6_play 10 = .ok (.ireturn, 1) := by decide +kernel
theorem dX6_play_11 : decode cX6_play 11 = .ok (.iconst 0, 1) := by decide +kernel
theorem dX6_play_12 : decode cX6_play 12 = .ok (.istore_n 1, 1) := by decide +kernel
theorem dX6_play_13 : decode cX6_play 13 = .ok (.iconst 0, 1) := by decide +kernel
theorem dX6_play_14 : decode cX6_play 14 = .ok (.istore_n 2, 1) := by decide +kernel
theorem dX6_play_15 : decode cX6_play 15 = .ok (.iconst 0, 1) := by decide +kernel
theorem dX6_play_16 : decode cX6_play 16 = .ok (.istore_n 3, 1) := by decide +kernel
theorem dX6_play_17 : decode cX6_play 17 = .ok (.iload_n 3, 1) := by decide +kernel
theorem dX6_play_18 : decode cX6_play 18 = .ok (.aload_n 0, 1) := by decide +kernel
theorem dX6_play_19 : decode cX6_play 19 = .ok (.getfield 153, 3) := by decide +kernel
theorem dX6_play_22 : decode cX6_play 22 = .ok (.if_icmp .ge 47, 3) := by decide +kernel
theorem dX6_play_25 : decode cX6_play 25 = .ok (.iload_n 1, 1) := by decide +kernel
theorem dX6_play_26 : decode cX6_play 26 = .ok (.aload_n 0, 1) := by decide +kernel
theorem dX6_play_27 : decode cX6_play 27 = .ok (.getfield 19, 3) := by decide +kernel
theorem dX6_play_30 : decode cX6_play 30 = .ok (.iload_n 3, 1) := by decide +kernel
theorem dX6_play_31 : decode cX6_play 31 = .ok (.iaload, 1) := by decide +kernel
theorem dX6_play_32 : decode cX6_play 32 = .ok (.bipush 59, 2) := by decide +kernel
theorem dX6_play_34 : decode cX6_play 34 = .ok (.if_icmp .ne 7, 3) := by decide +kernel
theorem dX6_play_37 : decode cX6_play 37 = .ok (.iconst 1, 1) := by decide +kernel
theorem dX6_play_38 : decode cX6_play 38 = .ok (.goto 4, 3) := by decide +kernel
theorem dX6_play_41 : decode cX6_play 41 = .ok (.iconst 0, 1) := by decide +kernel
theorem dX6_play_42 : decode cX6_play 42 = .ok (.iadd, 1) := by decide +kernel
theorem dX6_play_43 : decode cX6_play 43 = .ok (.istore_n 1, 1) := by decide +kernel
theorem dX6_play_44 : decode cX6_play 44 = .ok (.iload_n 2, 1) := by decide +kernel
theorem dX6_play_45 : decode cX6_play 45 = .ok (.aload_n 0, 1) := by decide +kernel
theorem dX6_play_46 : decode cX6_play 46 = .ok (.getfield 19, 3) := by decide +kernel
theorem dX6_play_49 : decode cX6_play 49 = .ok (.iload_n 3, 1) := by decide +kernel
theorem dX6_play_50 : decode cX6_play 50 = .ok (.iaload, 1) := by decide +kernel
theorem dX6_play_51 : decode cX6_play 51 = .ok (.bipush 115, 2) := by decide +kernel
theorem dX6_play_53 : decode cX6_play 53 = .ok (.if_icmp .ne 7, 3) := by decide +kernel
theorem dX6_play_56 : decode cX6_play 56 = .ok (.iconst 1, 1) := by decide +kernel
theorem dX6_play_57 : decode cX6_play 57 = .ok (.goto 4, 3) := by decide +kernel
theorem dX6_play_60 : decode cX6_play 60 = .ok (.iconst 0, 1) := by decide +kernel
theorem dX6_play_61 : decode cX6_play 61 = .ok (.iadd, 1) := by decide +kernel
theorem dX6_play_62 : decode cX6_play 62 = .ok (.istore_n 2, 1) := by decide +kernel
theorem dX6_play_63 : decode cX6_play 63 = .ok (.iinc 3 1, 3) := by decide +kernel
theorem dX6_play_66 : decode cX6_play 66 = .ok (.goto (-49), 3) := by decide +kernel
theorem dX6_play_69 : decode cX6_play 69 = .ok (.aload_n 0, 1) := by decide +kernel
theorem dX6_play_70 : decode cX6_play 70 = .ok (.iload_n 2, 1) := by decide +kernel
theorem dX6_play_71 : decode cX6_play 71 = .ok (.invokevirtual 85, 3) := by decide +kernel
theorem dX6_play_74 : decode cX6_play 74 = .ok (.sipush 999, 3) := by decide +kernel
theorem dX6_play_77 : decode cX6_play 77 = .ok (.if_icmp .le 6, 3) := by decide +kernel
theorem dX6_play_80 : decode cX6_play 80 = .ok (.ldc 88, 2) := by decide +kernel
theorem dX6_play_82 : decode cX6_play 82 = .ok (.ireturn, 1) := by decide +kernel
theorem dX6_play_83 : decode cX6_play 83 = .ok (.aload_n 0, 1) := by decide +kernel
theorem dX6_play_84 : decode cX6_play 84 = .ok (.invokevirtual 70, 3) := by decide +kernel
theorem dX6_play_87 : decode cX6_play 87 = .ok (.aload_n 0, 1) := by decide +kernel
theorem dX6_play_88 : decode cX6_play 88 = .ok (.iconst 0, 1) := by decide +kernel
theorem dX6_play_89 : decode cX6_play 89 = .ok (.putfield 156, 3) := by decide +kernel
theorem dX6_play_92 : decode cX6_play 92 = .ok (.iconst 0, 1) := by decide +kernel
theorem dX6_play_93 : decode cX6_play 93 = .ok (.istore_n 3, 1) := by decide +kernel
theorem dX6_play_94 : decode cX6_play 94 = .ok (.iload_n 3, 1) := by decide +kernel
theorem dX6_play_95 : decode cX6_play 95 = .ok (.iload_n 1, 1) := by decide +kernel
theorem dX6_play_96 : decode cX6_play 96 = .ok (.if_icmp .ge 60, 3) := by decide +kernel
theorem dX6_play_99 : decode cX6_play 99 = .ok (.aload_n 0, 1) := by decide +kernel
theorem dX6_play_100 : decode cX6_play 100 = .ok (.invokevirtual 181, 3) := by decide +kernel
theorem dX6_play_103 : decode cX6_play 103 = .ok (.istore 4, 2) := by decide +kernel
theorem dX6_play_105 : decode cX6_play 105 = .ok (.aload_n 0, 1) := by decide +kernel
theorem dX6_play_106 : decode cX6_play 106 = .ok (.getfield 159, 3) := by decide +kernel
theorem dX6_play_109 : decode cX6_play 109 = .ok (.bipush 115, 2) := by decide +kernel
theorem dX6_play_111 : decode cX6_play 111 = .ok (.if_icmp .ne 16, 3) := by decide +kernel
theorem dX6_play_114 : decode cX6_play 114 = .ok (.aload_n 0, 1) := by decide +kernel
theorem dX6_play_115 : decode cX6_play 115 = .ok (.aload_n 0, 1) := by decide +kernel
theorem dX6_play_116 : decode cX6_play 116 = .ok (.getfield 25, 3) := by decide +kernel
theorem dX6_play_119 : decode cX6_play 119 = .ok (.iconst 0, 1) := by decide +kernel
theorem dX6_play_120 : decode cX6_play 120 = .ok (.iaload, 1) := by decide +kernel
theorem dX6_play_121 : decode cX6_play 121 = .ok (.invokevirtual 89, 3) := by decide +kernel
theorem dX6_play_124 : decode cX6_play 124 = .ok (.goto 26, 3) := by decide +kernel
theorem dX6_play_127 : decode cX6_play 127 = .ok (.aload_n 0, 1) := by decide +kernel
theorem dX6_play_128 : decode cX6_play 128 = .ok (.aload_n 0, 1) := by decide +kernel
theorem dX6_play_129 : decode cX6_play 129 = .ok (.getfield 25, 3) := by decide +kernel
theorem dX6_play_132 : decode cX6_play 132 = .ok (.iconst 0, 1) := by decide +kernel
theorem dX6_play_133 : decode cX6_play 133 = .ok (.iaload, 1) := by decide +kernel
theorem dX6_play_134 : decode cX6_play 134 = .ok (.aload_n 0, 1) := by decide +kernel
theorem dX6_play_135 : decode cX6_play 135 = .ok (.getfield 25, 3) := by decide +kernel
theorem dX6_play_138 : decode cX6_play 138 = .ok (.iconst 1, 1) := by decide +kernel
theorem dX6_play_139 : decode cX6_play 139 = .ok (.iaload, 1) := by decide +kernel
theorem dX6_play_140 : decode cX6_play 140 = .ok (.aload_n 0, 1) := by decide +kernel
theorem dX6_play_141 : decode cX6_play 141 = .ok (.getfield 25, 3) := by decide +kernel
theorem dX6_play_144 : decode cX6_play 144 = .ok (.iconst 2, 1) := by decide +kernel
theorem dX6_play_145 : decode cX6_play 145 = .ok (.iaload, 1) := by decide +kernel
theorem dX6_play_146 : decode cX6_play 146 = .ok (.invokevirtual 76, 3) := by decide +kernel
theorem dX6_play_149 : decode cX6_play 149 = .ok (.pop, 1) := by decide +kernel
theorem dX6_play_150 : decode cX6_play 150 = .ok (.iinc 3 1, 3) := by decide +kernel
theorem dX6_play_153 : decode cX6_play 153 = .ok (.goto (-59), 3) := by decide +kernel
theorem dX6_play_156 : decode cX6_play 156 = .ok (.iload_n 1, 1) := by decide +kernel
theorem dX6_play_157 : decode cX6_play 157 = .ok (.ireturn, 1) := by decide +kernel
theorem dJxf58ca_isNaN_12338_0 : decode cJxf58ca_isNaN_12338 0 = .ok (.fload_n 0, 1) := by decide +kernel
theorem dJxf58ca_isNaN_12338_1 : decode cJxf58ca_isNaN_12338 1 = .ok (.fload_n 0, 1) := by decide +kernel
theorem dJxf58ca_isNaN_12338_2 : decode cJxf58ca_isNaN_12338 2 = .ok (.fcmp .l, 1) := by decide +kernel
theorem dJxf58ca_isNaN_12338_3 : decode cJxf58ca_isNaN_12338 3 = .ok (.ifCond .eq 7, 3) := by decide +kernel
theorem dJxf58ca_isNaN_12338_6 : decode cJxf58ca_isNaN_12338 6 = .ok (.iconst 1, 1) := by decide +kernel
theorem dJxf58ca_isNaN_12338_7 : decode cJxf58ca_isNaN_12338 7 = .ok (.goto 4, 3) := by decide +kernel
theorem dJxf58ca_isNaN_12338_10 : decode cJxf58ca_isNaN_12338 10 = .ok (.iconst 0, 1) := by decide +kernel
theorem dJxf58ca_isNaN_12338_11 : decode cJxf58ca_isNaN_12338 11 = .ok (.ireturn, 1) := by decide +kernel
set_option maxRecDepth 20000 in
theorem ggJxf58ca_floatToIntBits_5c35a_Jxf58ca_isNaN_12338 : GoodIn wsJxf58ca_floatToIntBits_5c35a wsJxf58ca_isNaN_12338 := goodIn_r _ [9] (by decide +kernel) (by decide +kernel)
set_option maxRecDepth 20000 in
theorem gJxf58ca_floatToIntBits_5c35a_Jxf58ca_isNaN_12338 : GoodIn wsJxf58ca_floatToIntBits_5c35a (va_wsS RJxf58ca 59 yJxf58ca_isNaN_12338 wsJxf58ca_isNaN_12338) := goodIn_app (goodIn_of _ (by decide +kernel)) ggJxf58ca_floatToIntBits_5c35a_Jxf58ca_isNaN_12338
theorem dJxf58ca_floatToIntBits_5c35a_0 : decode cJxf58ca_floatToIntBits_5c35a 0 = .ok (.fload_n 0, 1) := by decide +kernel
theorem dJxf58ca_floatToIntBits_5c35a_1 : decode cJxf58ca_floatToIntBits_5c35a 1 = .ok (.invokestatic 59, 3) := by decide +kernel
theorem dJxf58ca_floatToIntBits_5c35a_4 : decode cJxf58ca_floatToIntBits_5c35a 4 = .ok (.ifCond .ne 8, 3) := by decide +kernel
theorem dJxf58ca_floatToIntBits_5c35a_7 : decode cJxf58ca_floatToIntBits_5c35a 7 = .ok (.fload_n 0, 1) := by decide +kernel
theorem dJxf58ca_floatToIntBits_5c35a_8 : decode cJxf58ca_floatToIntBits_5c35a 8 = .ok (.invokestatic 74, 3) := by decide +kernel
theorem dJxf58ca_floatToIntBits_5c35a_11 : decode cJxf58ca_floatToIntBits_5c35a 11 = .ok (.ireturn, 1) := by decide +kernel
theorem dJxf58ca_floatToIntBits_5c35a_12 : decode cJxf58ca_floatToIntBits_5c35a 12 = .ok (.ldc 77, 2) := by decide +kernel
theorem dJxf58ca_floatToIntBits_5c35a_14 : decode cJxf58ca_floatToIntBits_5c35a 14 = .ok (.ireturn, 1) := by decide +kernel
theorem dJ9_floorDiv_7cf53_0 : decode cJ9_floorDiv_7cf53 0 = .ok (.iload_n 0, 1) := by decide +kernel
theorem dJ9_floorDiv_7cf53_1 : decode cJ9_floorDiv_7cf53 1 = .ok (.iload_n 1, 1) := by decide +kernel
theorem dJ9_floorDiv_7cf53_2 : decode cJ9_floorDiv_7cf53 2 = .ok (.idiv, 1) := by decide +kernel
theorem dJ9_floorDiv_7cf53_3 : decode cJ9_floorDiv_7cf53 3 = .ok (.istore_n 2, 1) := by decide +kernel
theorem dJ9_floorDiv_7cf53_4 : decode cJ9_floorDiv_7cf53 4 = .ok (.iload_n 0, 1) := by decide +kernel
theorem dJ9_floorDiv_7cf53_5 : decode cJ9_floorDiv_7cf53 5 = .ok (.iload_n 1, 1) := by decide +kernel
theorem dJ9_floorDiv_7cf53_6 : decode cJ9_floorDiv_7cf53 6 = .ok (.ixor, 1) := by decide +kernel
theorem dJ9_floorDiv_7cf53_7 : decode cJ9_floorDiv_7cf53 7 = .ok (.ifCond .ge 14, 3) := by decide +kernel
theorem dJ9_floorDiv_7cf53_10 : decode cJ9_floorDiv_7cf53 10 = .ok (.iload_n 2, 1) := by decide +kernel
theorem dJ9_floorDiv_7cf53_11 : decode cJ9_floorDiv_7cf53 11 = .ok (.iload_n 1, 1) := by decide +kernel
theorem dJ9_floorDiv_7cf53_12 : decode cJ9_floorDiv_7cf53 12 = .ok (.imul, 1) := by decide +kernel
theorem dJ9_floorDiv_7cf53_13 : decode cJ9_floorDiv_7cf53 13 = .ok (.iload_n 0, 1) := by decide +kernel
theorem dJ9_floorDiv_7cf53_14 : decode cJ9_floorDiv_7cf53 14 = .ok (.if_icmp .eq 7, 3) := by decide +kernel
theorem dJ9_floorDiv_7cf53_17 : decode cJ9_floorDiv_7cf53 17 = .ok (.iload_n 2, 1) := by decide +kernel
theorem dJ9_floorDiv_7cf53_18 : decode cJ9_floorDiv_7cf53 18 = .ok (.iconst 1, 1) := by decide +kernel
theorem dJ9_floorDiv_7cf53_19 : decode cJ9_floorDiv_7cf53 19 = .ok (.isub, 1) := by decide +kernel
theorem dJ9_floorDiv_7cf53_20 : decode cJ9_floorDiv_7cf53 20 = .ok (.ireturn, 1) := by decide +kernel
theorem dJ9_floorDiv_7cf53_21 : decode cJ9_floorDiv_7cf53 21 = .ok (.iload_n 2, 1) := by decide +kernel
theorem dJ9_floorDiv_7cf53_22 : decode cJ9_floorDiv_7cf53 22 = .ok (.ireturn, 1) := by decide +kernel
theorem dJ9_abs_0f7a4_0 : decode cJ9_abs_0f7a4 0 = .ok (.iload_n 0, 1) := by decide +kernel
theorem dJ9_abs_0f7a4_1 : decode cJ9_abs_0f7a4 1 = .ok (.ifCond .ge 8, 3) := by decide +kernel
theorem dJ9_abs_0f7a4_4 : decode cJ9_abs_0f7a4 4 = .ok (.iload_n 0, 1) := by decide +kernel
theorem dJ9_abs_0f7a4_5 : decode cJ9_abs_0f7a4 5 = .ok (.ineg, 1) := by decide +kernel
theorem dJ9_abs_0f7a4_6 : decode cJ9_abs_0f7a4 6 = .ok (.goto 4, 3) := by decide +kernel
theorem dJ9_abs_0f7a4_9 : decode cJ9_abs_0f7a4 9 = .ok (.iload_n 0, 1) := by decide +kernel
theorem dJ9_abs_0f7a4_10 : decode cJ9_abs_0f7a4 10 = .ok (.ireturn, 1) := by decide +kernel
theorem dJ9_max_7cf53_0 : decode cJ9_max_7cf53 0 = .ok (.iload_n 0, 1) := by decide +kernel
theorem dJ9_max_7cf53_1 : decode cJ9_max_7cf53 1 = .ok (.iload_n 1, 1) := by decide +kernel
theorem dJ9_max_7cf53_2 : decode cJ9_max_7cf53 2 = .ok (.if_icmp .lt 7, 3) := by decide +kernel
theorem dJ9_max_7cf53_5 : decode cJ9_max_7cf53 5 = .ok (.iload_n 0, 1) := by decide +kernel
theorem dJ9_max_7cf53_6 : decode cJ9_max_7cf53 6 = .ok (.goto 4, 3) := by decide +kernel
theorem dJ9_max_7cf53_9 : decode cJ9_max_7cf53 9 = .ok (.iload_n 1, 1) := by decide +kernel
theorem dJ9_max_7cf53_10 : decode cJ9_max_7cf53 10 = .ok (.ireturn, 1) := by decide +kernel
theorem dJ9_min_7cf53_0 : decode cJ9_min_7cf53 0 = .ok (.iload_n 0, 1) := by decide +kernel
theorem dJ9_min_7cf53_1 : decode cJ9_min_7cf53 1 = .ok (.iload_n 1, 1) := by decide +kernel
theorem dJ9_min_7cf53_2 : decode cJ9_min_7cf53 2 = .ok (.if_icmp .gt 7, 3) := by decide +kernel
theorem dJ9_min_7cf53_5 : decode cJ9_min_7cf53 5 = .ok (.iload_n 0, 1) := by decide +kernel
theorem dJ9_min_7cf53_6 : decode cJ9_min_7cf53 6 = .ok (.goto 4, 3) := by decide +kernel
theorem dJ9_min_7cf53_9 : decode cJ9_min_7cf53 9 = .ok (.iload_n 1, 1) := by decide +kernel
theorem dJ9_min_7cf53_10 : decode cJ9_min_7cf53 10 = .ok (.ireturn, 1) := by decide +kernel
theorem dJ9_min_f86c9_0 : decode cJ9_min_f86c9 0 = .ok (.lload_n 0, 1) := by decide +kernel
theorem dJ9_min_f86c9_1 : decode cJ9_min_f86c9 1 = .ok (.lload_n 2, 1) := by decide +kernel
theorem dJ9_min_f86c9_2 : decode cJ9_min_f86c9 2 = .ok (.lcmp, 1) := by decide +kernel
theorem dJ9_min_f86c9_3 : decode cJ9_min_f86c9 3 = .ok (.ifCond .gt 7, 3) := by decide +kernel
theorem dJ9_min_f86c9_6 : decode cJ9_min_f86c9 6 = .ok (.lload_n 0, 1) := by decide +kernel
theorem dJ9_min_f86c9_7 : decode cJ9_min_f86c9 7 = .ok (.goto 4, 3) := by decide +kernel
theorem dJ9_min_f86c9_10 : decode cJ9_min_f86c9 10 = .ok (.lload_n 2, 1) := by decide +kernel
theorem dJ9_min_f86c9_11 : decode cJ9_min_f86c9 11 = .ok (.lreturn, 1) := by decide +kernel
theorem dJ7_fill_53178_0 : decode cJ7_fill_53178 0 = .ok (.iconst 0, 1) := by decide +kernel
theorem dJ7_fill_53178_1 : decode cJ7_fill_53178 1 = .ok (.istore_n 2, 1) := by decide +kernel
theorem dJ7_fill_53178_2 : decode cJ7_fill_53178 2 = .ok (.aload_n 0, 1) := by decide +kernel
theorem dJ7_fill_53178_3 : decode cJ7_fill_53178 3 = .ok (.arraylength, 1) := by decide +kernel
theorem dJ7_fill_53178_4 : decode cJ7_fill_53178 4 = .ok (.istore_n 3, 1) := by decide +kernel
theorem dJ7_fill_53178_5 : decode cJ7_fill_53178 5 = .ok (.iload_n 2, 1) := by decide +kernel
theorem dJ7_fill_53178_6 : decode cJ7_fill_53178 6 = .ok (.iload_n 3, 1) := by decide +kernel
theorem dJ7_fill_53178_7 : decode cJ7_fill_53178 7 = .ok (.if_icmp .ge 13, 3) := by decide +kernel
theorem dJ7_fill_53178_10 : decode cJ7_fill_53178 10 = .ok (.aload_n 0, 1) := by decide +kernel
theorem dJ7_fill_53178_11 : decode cJ7_fill_53178 11 = .ok (.iload_n 2, 1) := by decide +kernel
theorem dJ7_fill_53178_12 : decode cJ7_fill_53178 12 = .ok (.iload_n 1, 1) := by decide +kernel
theorem dJ7_fill_53178_13 : decode cJ7_fill_53178 13 = .ok (.iastore, 1) := by decide +kernel
theorem dJ7_fill_53178_14 : decode cJ7_fill_53178 14 = .ok (.iinc 2 1, 3) := by decide +kernel
theorem dJ7_fill_53178_17 : decode cJ7_fill_53178 17 = .ok (.goto (-12), 3) := by decide +kernel
theorem dJ7_fill_53178_20 : decode cJ7_fill_53178 20 = .ok (.return_, 1) := by decide +kernel

theorem dX5_init_4 : decode cX5_init 4 = .ok (.aload_n 0, 1) := by decide +kernel
theorem dX5_init_5 : decode cX5_init 5 = .ok (.iconst 0, 1) := by decide +kernel
theorem dX5_init_6 : decode cX5_init 6 = .ok (.iload_n 1, 1) := by decide +kernel
theorem dX5_init_7 : decode cX5_init 7 = .ok (.invokestatic 7, 3) := by decide +kernel
theorem dX5_init_10 : decode cX5_init 10 = .ok (.newarray .int, 2) := by decide +kernel
theorem dX5_init_12 : decode cX5_init 12 = .ok (.putfield 13, 3) := by decide +kernel
theorem dX5_init_15 : decode cX5_init 15 = .ok (.return_, 1) := by decide +kernel
theorem dX5_get_0 : decode cX5_get 0 = .ok (.iload_n 1, 1) := by decide +kernel
theorem dX5_get_1 : decode cX5_get 1 = .ok (.ifCond .lt 21, 3) := by decide +kernel
theorem dX5_get_4 : decode cX5_get 4 = .ok (.iload_n 1, 1) := by decide +kernel
theorem dX5_get_5 : decode cX5_get 5 = .ok (.aload_n 0, 1) := by decide +kernel
theorem dX5_get_6 : decode cX5_get 6 = .ok (.getfield 13, 3) := by decide +kernel
theorem dX5_get_9 : decode cX5_get 9 = .ok (.arraylength, 1) := by decide +kernel
theorem dX5_get_10 : decode cX5_get 10 = .ok (.if_icmp .ge 12, 3) := by decide +kernel
theorem dX5_get_13 : decode cX5_get 13 = .ok (.aload_n 0, 1) := by decide +kernel
theorem dX5_get_14 : decode cX5_get 14 = .ok (.getfield 13, 3) := by decide +kernel
theorem dX5_get_17 : decode cX5_get 17 = .ok (.iload_n 1, 1) := by decide +kernel
theorem dX5_get_18 : decode cX5_get 18 = .ok (.iaload, 1) := by decide +kernel
theorem dX5_get_19 : decode cX5_get 19 = .ok (.goto 4, 3) := by decide +kernel
theorem dX5_get_22 : decode cX5_get 22 = .ok (.iconst 0, 1) := by decide +kernel
theorem dX5_get_23 : decode cX5_get 23 = .ok (.ireturn, 1) := by decide +kernel
theorem dX5_set_0 : decode cX5_set 0 = .ok (.iload_n 1, 1) := by decide +kernel
theorem dX5_set_1 : decode cX5_set 1 = .ok (.ifCond .lt 12, 3) := by decide +kernel
theorem dX5_set_4 : decode cX5_set 4 = .ok (.iload_n 1, 1) := by decide +kernel
theorem dX5_set_5 : decode cX5_set 5 = .ok (.aload_n 0, 1) := by decide +kernel
theorem dX5_set_6 : decode cX5_set 6 = .ok (.getfield 13, 3) := by decide +kernel
theorem dX5_set_9 : decode cX5_set 9 = .ok (.arraylength, 1) := by decide +kernel
theorem dX5_set_10 : decode cX5_set 10 = .ok (.if_icmp .lt 5, 3) := by decide +kernel
theorem dX5_set_13 : decode cX5_set 13 = .ok (.iconst 0, 1) := by decide +kernel
theorem dX5_set_14 : decode cX5_set 14 = .ok (.ireturn, 1) := by decide +kernel
theorem dX5_set_15 : decode cX5_set 15 = .ok (.aload_n 0, 1) := by decide +kernel
theorem dX5_set_16 : decode cX5_set 16 = .ok (.getfield 13, 3) := by decide +kernel
theorem dX5_set_19 : decode cX5_set 19 = .ok (.iload_n 1, 1) := by decide +kernel
theorem dX5_set_20 : decode cX5_set 20 = .ok (.iaload, 1) := by decide +kernel
theorem dX5_set_21 : decode cX5_set 21 = .ok (.istore_n 3, 1) := by decide +kernel
theorem dX5_set_22 : decode cX5_set 22 = .ok (.aload_n 0, 1) := by decide +kernel
theorem dX5_set_23 : decode cX5_set 23 = .ok (.getfield 13, 3) := by decide +kernel
theorem dX5_set_26 : decode cX5_set 26 = .ok (.iload_n 1, 1) := by decide +kernel
theorem dX5_set_27 : decode cX5_set 27 = .ok (.iload_n 2, 1) := by decide +kernel
theorem dX5_set_28 : decode cX5_set 28 = .ok (.iastore, 1) := by decide +kernel
theorem dX5_set_29 : decode cX5_set 29 = .ok (.iload_n 3, 1) := by decide +kernel
theorem dX5_set_30 : decode cX5_set 30 = .ok (.ireturn, 1) := by decide +kernel
set_option maxRecDepth 20000 in
theorem ggX5_add_X5_get : GoodIn wsX5_add wsX5_get := goodIn_r _ [5, 6, 11] (by decide +kernel) (by decide +kernel)
set_option maxRecDepth 20000 in
theorem gX5_add_X5_get : GoodIn wsX5_add (wsV RX5 19 RX5 yX5_get wsX5_get) := goodIn_app (goodIn_of _ (by decide +kernel)) ggX5_add_X5_get
set_option maxRecDepth 20000 in
theorem ggX5_add_X5_set : GoodIn wsX5_add wsX5_set := goodIn_r _ [10, 6, 11] (by decide +kernel) (by decide +kernel)
set_option maxRecDepth 20000 in
theorem gX5_add_X5_set : GoodIn wsX5_add (wsV RX5 23 RX5 yX5_set wsX5_set) := goodIn_app (goodIn_of _ (by decide +kernel)) ggX5_add_X5_set
theorem dX5_add_0 : decode cX5_add 0 = .ok (.aload_n 0, 1) := by decide +kernel
theorem dX5_add_1 : decode cX5_add 1 = .ok (.iload_n 1, 1) := by decide +kernel
theorem dX5_add_2 : decode cX5_add 2 = .ok (.aload_n 0, 1) := by decide +kernel
theorem dX5_add_3 : decode cX5_add 3 = .ok (.iload_n 1, 1) := by decide +kernel
theorem dX5_add_4 : decode cX5_add 4 = .ok (.invokevirtual 19, 3) := by decide +kernel
theorem dX5_add_7 : decode cX5_add 7 = .ok (.iload_n 2, 1) := by decide +kernel
theorem dX5_add_8 : decode cX5_add 8 = .ok (.iadd, 1) := by decide +kernel
theorem dX5_add_9 : decode cX5_add 9 = .ok (.invokevirtual 23, 3) := by decide +kernel
theorem dX5_add_12 : decode cX5_add 12 = .ok (.pop, 1) := by decide +kernel
theorem dX5_add_13 : decode cX5_add 13 = .ok (.return_, 1) := by decide +kernel
theorem dX5_fill_0 : decode cX5_fill 0 = .ok (.iconst 0, 1) := by decide +kernel
theorem dX5_fill_1 : decode cX5_fill 1 = .ok (.istore_n 2, 1) := by decide +kernel
theorem dX5_fill_2 : decode cX5_fill 2 = .ok (.iload_n 2, 1) := by decide +kernel
theorem dX5_fill_3 : decode cX5_fill 3 = .ok (.aload_n 0, 1) := by decide +kernel
theorem dX5_fill_4 : decode cX5_fill 4 = .ok (.getfield 13, 3) := by decide +kernel
theorem dX5_fill_7 : decode cX5_fill 7 = .ok (.arraylength, 1) := by decide +kernel
theorem dX5_fill_8 : decode cX5_fill 8 = .ok (.if_icmp .ge 16, 3) := by decide +kernel
theorem dX5_fill_11 : decode cX5_fill 11 = .ok (.aload_n 0, 1) := by decide +kernel
theorem dX5_fill_12 : decode cX5_fill 12 = .ok (.getfield 13, 3) := by decide +kernel
theorem dX5_fill_15 : decode cX5_fill 15 = .ok (.iload_n 2, 1) := by decide +kernel
theorem dX5_fill_16 : decode cX5_fill 16 = .ok (.iload_n 1, 1) := by decide +kernel
theorem dX5_fill_17 : decode cX5_fill 17 = .ok (.iastore, 1) := by decide +kernel
theorem dX5_fill_18 : decode cX5_fill 18 = .ok (.iinc 2 1, 3) := by decide +kernel
theorem dX5_fill_21 : decode cX5_fill 21 = .ok (.goto (-19), 3) := by decide +kernel
theorem dX5_fill_24 : decode cX5_fill 24 = .ok (.return_, 1) := by decide +kernel
set_option maxRecDepth 20000 in
theorem ggX6_init_X3_init : GoodIn wsX6_init wsX3_init := goodIn_r _ [33, 34, 2, 3, 35, 21, 22, 36, 37, 38, 39, 40, 41, 42, 43, 44, 45, 46, 47, 134, 103, 104] (by decide +kernel) (by decide +kernel)
set_option maxRecDepth 20000 in
theorem gX6_init_X3_init_n9 : GoodIn wsX6_init (wsX3_init) := ggX6_init_X3_init
set_option maxRecDepth 20000 in
theorem ggX6_init_X0_init : GoodIn wsX6_init wsX0_init := goodIn_r _ [49, 50, 2, 3, 51, 21, 22, 52, 53, 54, 25, 26, 55, 56, 39, 40, 41, 42, 43, 44, 45, 46, 47, 57, 58, 59, 60, 61, 62, 63, 134, 115, 116, 117, 135, 136] (by decide +kernel) (by decide +kernel)
set_option maxRecDepth 20000 in
theorem gX6_init_X0_init_n18 : GoodIn wsX6_init (wsX0_init) := ggX6_init_X0_init
set_option maxRecDepth 20000 in
theorem ggX6_init_X1_init : GoodIn wsX6_init wsX1_init := goodIn_r _ [66, 67, 2, 3, 68, 21, 22, 69, 70, 71, 72, 73, 74, 75, 25, 26, 76, 77, 78, 39, 40, 41, 42, 43, 44, 45, 46, 47, 79, 58, 59, 60, 61, 62, 63, 80, 81, 82, 14, 83, 84, 85, 86, 87, 134, 118, 119, 120, 121, 122, 123, 124, 125, 135, 136] (by decide +kernel) (by decide +kernel)
set_option maxRecDepth 20000 in
theorem gX6_init_X1_init : GoodIn wsX6_init (wsX1_init) := ggX6_init_X1_init
set_option maxRecDepth 20000 in
theorem ggX6_init_X4_init : GoodIn wsX6_init wsX4_init := goodIn_r _ [89, 90, 2, 3, 91, 21, 22, 92, 93, 94, 95, 96, 97, 98, 99, 100, 39, 40, 41, 42, 43, 44, 45, 46, 47, 134, 126, 127, 128, 129, 130, 131, 132, 133] (by decide +kernel) (by decide +kernel)
set_option maxRecDepth 20000 in
theorem gX6_init_X4_init_n32 : GoodIn wsX6_init (wsX4_init) := ggX6_init_X4_init
set_option maxRecDepth 20000 in
theorem ggX6_init_X5_init : GoodIn wsX6_init wsX5_init := goodIn_r _ [40, 41, 2, 3, 42, 43, 44, 45, 46, 47, 134] (by decide +kernel) (by decide +kernel)
set_option maxRecDepth 20000 in
theorem gX6_init_X5_init : GoodIn wsX6_init (wsX5_init) := ggX6_init_X5_init
set_option maxRecDepth 20000 in
theorem ggX6_init_X2_init : GoodIn wsX6_init wsX2_init := goodIn_r _ [59, 60, 2, 3, 61, 62, 43, 44, 45, 46, 63, 135, 136] (by decide +kernel) (by decide +kernel)
set_option maxRecDepth 20000 in
theorem gX6_init_X2_init : GoodIn wsX6_init (wsX2_init) := ggX6_init_X2_init
theorem dX6_init_0 : decode cX6_init 0 = .ok (.aload_n 0, 1) := by decide +kernel
theorem dX6_init_1 : decode cX6_init 1 = .ok (.invokespecial 1, 3) := by decide +kernel
theorem dX6_init_4 : decode cX6_init 4 = .ok (.aload_n 0, 1) := by decide +kernel
theorem dX6_init_5 : decode cX6_init 5 = .ok (.new 7, 3) := by decide +kernel
theorem dX6_init_8 : decode cX6_init 8 = .ok (.dup, 1) := by decide +kernel
theorem dX6_init_9 : decode cX6_init 9 = .ok (.invokespecial 9, 3) := by decide +kernel
theorem dX6_init_12 : decode cX6_init 12 = .ok (.putfield 10, 3) := by decide +kernel
theorem dX6_init_15 : decode cX6_init 15 = .ok (.aload_n 0, 1) := by decide +kernel
theorem dX6_init_16 : decode cX6_init 16 = .ok (.new 16, 3) := by decide +kernel
theorem dX6_init_19 : decode cX6_init 19 = .ok (.dup, 1) := by decide +kernel
theorem dX6_init_20 : decode cX6_init 20 = .ok (.invokespecial 18, 3) := by decide +kernel
theorem dX6_init_23 : decode cX6_init 23 = .ok (.putfield 19, 3) := by decide +kernel
theorem dX6_init_26 : decode cX6_init 26 = .ok (.aload_n 0, 1) := by decide +kernel
theorem dX6_init_27 : decode cX6_init 27 = .ok (.new 23, 3) := by decide +kernel
theorem dX6_init_30 : decode cX6_init 30 = .ok (.dup, 1) := by decide +kernel
theorem dX6_init_31 : decode cX6_init 31 = .ok (.invokespecial 25, 3) := by decide +kernel
theorem dX6_init_34 : decode cX6_init 34 = .ok (.putfield 26, 3) := by decide +kernel
theorem dX6_init_37 : decode cX6_init 37 = .ok (.aload_n 0, 1) := by decide +kernel
theorem dX6_init_38 : decode cX6_init 38 = .ok (.new 30, 3) := by decide +kernel
theorem dX6_init_41 : decode cX6_init 41 = .ok (.dup, 1) := by decide +kernel
theorem dX6_init_42 : decode cX6_init 42 = .ok (.invokespecial 32, 3) := by decide +kernel
theorem dX6_init_45 : decode cX6_init 45 = .ok (.putfield 33, 3) := by decide +kernel
theorem dX6_init_48 : decode cX6_init 48 = .ok (.aload_n 0, 1) := by decide +kernel
theorem dX6_init_49 : decode cX6_init 49 = .ok (.new 37, 3) := by decide +kernel
theorem dX6_init_52 : decode cX6_init 52 = .ok (.dup, 1) := by decide +kernel
theorem dX6_init_53 : decode cX6_init 53 = .ok (.bipush 18, 2) := by decide +kernel
theorem dX6_init_55 : decode cX6_init 55 = .ok (.invokespecial 39, 3) := by decide +kernel
theorem dX6_init_58 : decode cX6_init 58 = .ok (.putfield 42, 3) := by decide +kernel
theorem dX6_init_61 : decode cX6_init 61 = .ok (.aload_n 0, 1) := by decide +kernel
theorem dX6_init_62 : decode cX6_init 62 = .ok (.new 46, 3) := by decide +kernel
theorem dX6_init_65 : decode cX6_init 65 = .ok (.dup, 1) := by decide +kernel
theorem dX6_init_66 : decode cX6_init 66 = .ok (.sipush 300, 3) := by decide +kernel
theorem dX6_init_69 : decode cX6_init 69 = .ok (.invokespecial 48, 3) := by decide +kernel
theorem dX6_init_72 : decode cX6_init 72 = .ok (.putfield 49, 3) := by decide +kernel
theorem dX6_init_75 : decode cX6_init 75 = .ok (.aload_n 0, 1) := by decide +kernel
theorem dX6_init_76 : decode cX6_init 76 = .ok (.iconst 0, 1) := by decide +kernel
theorem dX6_init_77 : decode cX6_init 77 = .ok (.putfield 53, 3) := by decide +kernel
theorem dX6_init_80 : decode cX6_init 80 = .ok (.aload_n 0, 1) := by decide +kernel
theorem dX6_init_81 : decode cX6_init 81 = .ok (.iconst 3, 1) := by decide +kernel
theorem dX6_init_82 : decode cX6_init 82 = .ok (.putfield 57, 3) := by decide +kernel
theorem dX6_init_85 : decode cX6_init 85 = .ok (.aload_n 0, 1) := by decide +kernel
theorem dX6_init_86 : decode cX6_init 86 = .ok (.iconst 0, 1) := by decide +kernel
theorem dX6_init_87 : decode cX6_init 87 = .ok (.putfield 60, 3) := by decide +kernel
theorem dX6_init_90 : decode cX6_init 90 = .ok (.aload_n 0, 1) := by decide +kernel
theorem dX6_init_91 : decode cX6_init 91 = .ok (.iconst (-1), 1) := by decide +kernel
theorem dX6_init_92 : decode cX6_init 92 = .ok (.putfield 63, 3) := by decide +kernel
theorem dX6_init_95 : decode cX6_init 95 = .ok (.return_, 1) := by decide +kernel
set_option maxRecDepth 20000 in
theorem ggX6_act_X6_isWithin : GoodIn wsX6_act wsX6_isWithin := goodIn_r _ [5] (by decide +kernel) (by decide +kernel)
set_option maxRecDepth 20000 in
theorem gX6_act_X6_isWithin : GoodIn wsX6_act (va_wsS RX6 66 yX6_isWithin wsX6_isWithin) := goodIn_app (goodIn_of _ (by decide +kernel)) ggX6_act_X6_isWithin
set_option maxRecDepth 20000 in
theorem ggX6_act_X6_isUnderWay : GoodIn wsX6_act wsX6_isUnderWay := goodIn_r _ [9, 10, 28, 29, 30, 31, 32, 33, 34, 35, 36, 37] (by decide +kernel) (by decide +kernel)
set_option maxRecDepth 20000 in
theorem gX6_act_X6_isUnderWay : GoodIn wsX6_act (wsV RX6 70 RX6 yX6_isUnderWay wsX6_isUnderWay) := goodIn_app (goodIn_of _ (by decide +kernel)) ggX6_act_X6_isUnderWay
set_option maxRecDepth 20000 in
theorem ggX6_act_X3_add : GoodIn wsX6_act wsX3_add := goodIn_r _ [15, 16, 17, 18, 19, 20, 21, 22, 23, 38, 39, 40] (by decide +kernel) (by decide +kernel)
set_option maxRecDepth 20000 in
theorem gX6_act_X3_add : GoodIn wsX6_act (wsV RX6 74 RX3 yX3_add wsX3_add) := goodIn_app (goodIn_of _ (by decide +kernel)) ggX6_act_X3_add
set_option maxRecDepth 20000 in
theorem ggX6_act_X3_size : GoodIn wsX6_act wsX3_size := goodIn_r _ [27, 16, 38, 39] (by decide +kernel) (by decide +kernel)
set_option maxRecDepth 20000 in
theorem gX6_act_X3_size : GoodIn wsX6_act (wsV RX6 78 RX3 yX3_size wsX3_size) := goodIn_app (goodIn_of _ (by decide +kernel)) ggX6_act_X3_size
theorem dX6_act_0 : decode cX6_act 0 = .ok (.iload_n 1, 1) := by decide +kernel
theorem dX6_act_1 : decode cX6_act 1 = .ok (.iconst 5, 1) := by decide +kernel
theorem dX6_act_2 : decode cX6_act 2 = .ok (.if_icmp .lt 13, 3) := by decide +kernel
theorem dX6_act_5 : decode cX6_act 5 = .ok (.iload_n 1, 1) := by decide +kernel
theorem dX6_act_6 : decode cX6_act 6 = .ok (.bipush 8, 2) := by decide +kernel
theorem dX6_act_8 : decode cX6_act 8 = .ok (.if_icmp .gt 7, 3) := by decide +kernel
theorem dX6_act_11 : decode cX6_act 11 = .ok (.iconst 1, 1) := by decide +kernel
theorem dX6_act_12 : decode cX6_act 12 = .ok (.goto 4, 3) := by decide +kernel
theorem dX6_act_15 : decode cX6_act 15 = .ok (.iconst 0, 1) := by decide +kernel
theorem dX6_act_16 : decode cX6_act 16 = .ok (.istore 5, 2) := by decide +kernel
theorem dX6_act_18 : decode cX6_act 18 = .ok (.iload_n 1, 1) := by decide +kernel
theorem dX6_act_19 : decode cX6_act 19 = .ok (.iconst 0, 1) := by decide +kernel
theorem dX6_act_20 : decode cX6_act 20 = .ok (.bipush 11, 2) := by decide +kernel
theorem dX6_act_22 : decode cX6_act 22 = .ok (.invokestatic 66, 3) := by decide +kernel
theorem dX6_act_25 : decode cX6_act 25 = .ok (.ifCond .eq 39, 3) := by decide +kernel
theorem dX6_act_28 : decode cX6_act 28 = .ok (.iload_n 2, 1) := by decide +kernel
theorem dX6_act_29 : decode cX6_act 29 = .ok (.iconst 0, 1) := by decide +kernel
theorem dX6_act_30 : decode cX6_act 30 = .ok (.bipush 7, 2) := by decide +kernel
theorem dX6_act_32 : decode cX6_act 32 = .ok (.invokestatic 66, 3) := by decide +kernel
theorem dX6_act_35 : decode cX6_act 35 = .ok (.ifCond .eq 29, 3) := by decide +kernel
theorem dX6_act_38 : decode cX6_act 38 = .ok (.iload_n 3, 1) := by decide +kernel
theorem dX6_act_39 : decode cX6_act 39 = .ok (.iconst 0, 1) := by decide +kernel
theorem dX6_act_40 : decode cX6_act 40 = .ok (.bipush 7, 2) := by decide +kernel
theorem dX6_act_42 : decode cX6_act 42 = .ok (.invokestatic 66, 3) := by decide +kernel
theorem dX6_act_45 : decode cX6_act 45 = .ok (.ifCond .eq 19, 3) := by decide +kernel
theorem dX6_act_48 : decode cX6_act 48 = .ok (.iload 5, 2) := by decide +kernel
theorem dX6_act_50 : decode cX6_act 50 = .ok (.ifCond .eq 17, 3) := by decide +kernel
theorem dX6_act_53 : decode cX6_act 53 = .ok (.iload 4, 2) := by decide +kernel
theorem dX6_act_55 : decode cX6_act 55 = .ok (.iconst 0, 1) := by decide +kernel
theorem dX6_act_56 : decode cX6_act 56 = .ok (.bipush 60, 2) := by decide +kernel
theorem dX6_act_58 : decode cX6_act 58 = .ok (.invokestatic 66, 3) := by decide +kernel
theorem dX6_act_61 : decode cX6_act 61 = .ok (.ifCond .ne 6, 3) := by decide +kernel
theorem dX6_act_64 : decode cX6_act 64 = .ok (.bipush (-102), 2) := by decide +kernel
theorem dX6_act_66 : decode cX6_act 66 = .ok (.ireturn, 1) := by decide +kernel
theorem dX6_act_67 : decode cX6_act 67 = .ok (.aload_n 0, 1) := by decide +kernel
theorem dX6_act_68 : decode cX6_act 68 = .ok (.invokevirtual 70, 3) := by decide +kernel
theorem dX6_act_71 : decode cX6_act 71 = .ok (.ifCond .eq 6, 3) := by decide +kernel
theorem dX6_act_74 : decode cX6_act 74 = .ok (.bipush (-103), 2) := by decide +kernel
theorem dX6_act_76 : decode cX6_act 76 = .ok (.ireturn, 1) := by decide +kernel
theorem dX6_act_77 : decode cX6_act 77 = .ok (.aload_n 0, 1) := by decide +kernel
theorem dX6_act_78 : decode cX6_act 78 = .ok (.getfield 10, 3) := by decide +kernel
theorem dX6_act_81 : decode cX6_act 81 = .ok (.iload_n 1, 1) := by decide +kernel
theorem dX6_act_82 : decode cX6_act 82 = .ok (.iload_n 2, 1) := by decide +kernel
theorem dX6_act_83 : decode cX6_act 83 = .ok (.iload_n 3, 1) := by decide +kernel
theorem dX6_act_84 : decode cX6_act 84 = .ok (.iload 4, 2) := by decide +kernel
theorem dX6_act_86 : decode cX6_act 86 = .ok (.invokevirtual 74, 3) := by decide +kernel
theorem dX6_act_89 : decode cX6_act 89 = .ok (.ifCond .eq 15, 3) := by decide +kernel
theorem dX6_act_92 : decode cX6_act 92 = .ok (.aload_n 0, 1) := by decide +kernel
theorem dX6_act_93 : decode cX6_act 93 = .ok (.getfield 10, 3) := by decide +kernel
theorem dX6_act_96 : decode cX6_act 96 = .ok (.invokevirtual 78, 3) := by decide +kernel
theorem dX6_act_99 : decode cX6_act 99 = .ok (.iconst 1, 1) := by decide +kernel
theorem dX6_act_100 : decode cX6_act 100 = .ok (.isub, 1) := by decide +kernel
theorem dX6_act_101 : decode cX6_act 101 = .ok (.goto 5, 3) := by decide +kernel
theorem dX6_act_104 : decode cX6_act 104 = .ok (.bipush (-104), 2) := by decide +kernel
theorem dX6_act_106 : decode cX6_act 106 = .ok (.ireturn, 1) := by decide +kernel
set_option maxRecDepth 20000 in
theorem ggX6_wipe_X6_isUnderWay : GoodIn wsX6_wipe wsX6_isUnderWay := goodIn_r _ [6, 7, 14, 15, 16, 17, 18, 19, 20, 21, 22, 23] (by decide +kernel) (by decide +kernel)
set_option maxRecDepth 20000 in
theorem gX6_wipe_X6_isUnderWay : GoodIn wsX6_wipe (wsV RX6 70 RX6 yX6_isUnderWay wsX6_isUnderWay) := goodIn_app (goodIn_of _ (by decide +kernel)) ggX6_wipe_X6_isUnderWay
set_option maxRecDepth 20000 in
theorem ggX6_wipe_X3_clear : GoodIn wsX6_wipe wsX3_clear := goodIn_r _ [12, 13, 24, 25] (by decide +kernel) (by decide +kernel)
set_option maxRecDepth 20000 in
theorem gX6_wipe_X3_clear : GoodIn wsX6_wipe (wsV RX6 82 RX3 yX3_clear wsX3_clear) := goodIn_app (goodIn_of _ (by decide +kernel)) ggX6_wipe_X3_clear
theorem dX6_wipe_0 : decode cX6_wipe 0 = .ok (.aload_n 0, 1) := by decide +kernel
theorem dX6_wipe_1 : decode cX6_wipe 1 = .ok (.invokevirtual 70, 3) := by decide +kernel
theorem dX6_wipe_4 : decode cX6_wipe 4 = .ok (.ifCond .eq 8, 3) := by decide +kernel
theorem dX6_wipe_7 : decode cX6_wipe 7 = .ok (.bipush (-103), 2) := by decide +kernel
theorem dX6_wipe_9 : decode cX6_wipe 9 = .ok (.goto 10, 3) := by decide +kernel
theorem dX6_wipe_12 : decode cX6_wipe 12 = .ok (.aload_n 0, 1) := by decide +kernel
theorem dX6_wipe_13 : decode cX6_wipe 13 = .ok (.getfield 10, 3) := by decide +kernel
theorem dX6_wipe_16 : decode cX6_wipe 16 = .ok (.invokevirtual 82, 3) := by decide +kernel
theorem dX6_wipe_19 : decode cX6_wipe 19 = .ok (.ireturn, 1) := by decide +kernel
set_option maxRecDepth 20000 in
theorem ggX6_put_X0_hasCell : GoodIn wsX6_put wsX0_hasCell := goodIn_r _ [8] (by decide +kernel) (by decide +kernel)
set_option maxRecDepth 20000 in
theorem gX6_put_X0_hasCell : GoodIn wsX6_put (wsV RX6 85 RX0 yX0_hasCell wsX0_hasCell) := goodIn_app (goodIn_of _ (by decide +kernel)) ggX6_put_X0_hasCell
set_option maxRecDepth 20000 in
theorem ggX6_put_X6_isUnderWay : GoodIn wsX6_put wsX6_isUnderWay := goodIn_r _ [13, 14, 27, 28, 29, 30, 31, 32, 33, 34, 35, 36] (by decide +kernel) (by decide +kernel)
set_option maxRecDepth 20000 in
theorem gX6_put_X6_isUnderWay : GoodIn wsX6_put (wsV RX6 70 RX6 yX6_isUnderWay wsX6_isUnderWay) := goodIn_app (goodIn_of _ (by decide +kernel)) ggX6_put_X6_isUnderWay
set_option maxRecDepth 20000 in
theorem ggX6_put_X0_setCell : GoodIn wsX6_put wsX0_setCell := goodIn_r _ [18, 19, 20, 21, 22, 23, 24, 25, 26, 37, 38, 39, 40] (by decide +kernel) (by decide +kernel)
set_option maxRecDepth 20000 in
theorem gX6_put_X0_setCell : GoodIn wsX6_put (wsV RX6 93 RX0 yX0_setCell wsX0_setCell) := goodIn_app (goodIn_of _ (by decide +kernel)) ggX6_put_X0_setCell
theorem dX6_put_0 : decode cX6_put 0 = .ok (.aload_n 0, 1) := by decide +kernel
theorem dX6_put_1 : decode cX6_put 1 = .ok (.getfield 19, 3) := by decide +kernel
theorem dX6_put_4 : decode cX6_put 4 = .ok (.iload_n 1, 1) := by decide +kernel
theorem dX6_put_5 : decode cX6_put 5 = .ok (.invokevirtual 85, 3) := by decide +kernel
theorem dX6_put_8 : decode cX6_put 8 = .ok (.ifCond .ne 7, 3) := by decide +kernel
theorem dX6_put_11 : decode cX6_put 11 = .ok (.ldc2_w 89, 3) := by decide +kernel
theorem dX6_put_14 : decode cX6_put 14 = .ok (.lreturn, 1) := by decide +kernel
theorem dX6_put_15 : decode cX6_put 15 = .ok (.aload_n 0, 1) := by decide +kernel
theorem dX6_put_16 : decode cX6_put 16 = .ok (.invokevirtual 70, 3) := by decide +kernel
theorem dX6_put_19 : decode cX6_put 19 = .ok (.ifCond .eq 9, 3) := by decide +kernel
theorem dX6_put_22 : decode cX6_put 22 = .ok (.ldc2_w 91, 3) := by decide +kernel
theorem dX6_put_25 : decode cX6_put 25 = .ok (.goto 13, 3) := by decide +kernel
theorem dX6_put_28 : decode cX6_put 28 = .ok (.aload_n 0, 1) := by decide +kernel
theorem dX6_put_29 : decode cX6_put 29 = .ok (.getfield 19, 3) := by decide +kernel
theorem dX6_put_32 : decode cX6_put 32 = .ok (.iload_n 1, 1) := by decide +kernel
theorem dX6_put_33 : decode cX6_put 33 = .ok (.iload_n 2, 1) := by decide +kernel
theorem dX6_put_34 : decode cX6_put 34 = .ok (.invokevirtual 93, 3) := by decide +kernel
theorem dX6_put_37 : decode cX6_put 37 = .ok (.i2l, 1) := by decide +kernel
theorem dX6_put_38 : decode cX6_put 38 = .ok (.lreturn, 1) := by decide +kernel
set_option maxRecDepth 20000 in
theorem ggX6_way_X6_isWithin : GoodIn wsX6_way wsX6_isWithin := goodIn_r _ [6] (by decide +kernel) (by decide +kernel)
set_option maxRecDepth 20000 in
theorem gX6_way_X6_isWithin : GoodIn wsX6_way (va_wsS RX6 66 yX6_isWithin wsX6_isWithin) := goodIn_app (goodIn_of _ (by decide +kernel)) ggX6_way_X6_isWithin
set_option maxRecDepth 20000 in
theorem ggX6_way_X6_isUnderWay : GoodIn wsX6_way wsX6_isUnderWay := goodIn_r _ [10, 11, 12, 13, 14, 15, 16, 17, 18, 19, 20, 21] (by decide +kernel) (by decide +kernel)
set_option maxRecDepth 20000 in
theorem gX6_way_X6_isUnderWay : GoodIn wsX6_way (wsV RX6 70 RX6 yX6_isUnderWay wsX6_isUnderWay) := goodIn_app (goodIn_of _ (by decide +kernel)) ggX6_way_X6_isUnderWay
theorem dX6_way_0 : decode cX6_way 0 = .ok (.iload_n 1, 1) := by decide +kernel
theorem dX6_way_1 : decode cX6_way 1 = .ok (.iconst 0, 1) := by decide +kernel
theorem dX6_way_2 : decode cX6_way 2 = .ok (.iconst 3, 1) := by decide +kernel
theorem dX6_way_3 : decode cX6_way 3 = .ok (.invokestatic 66, 3) := by decide +kernel
theorem dX6_way_6 : decode cX6_way 6 = .ok (.ifCond .eq 13, 3) := by decide +kernel
theorem dX6_way_9 : decode cX6_way 9 = .ok (.iload_n 2, 1) := by decide +kernel
theorem dX6_way_10 : decode cX6_way 10 = .ok (.iconst 1, 1) := by decide +kernel
theorem dX6_way_11 : decode cX6_way 11 = .ok (.bipush 6, 2) := by decide +kernel
theorem dX6_way_13 : decode cX6_way 13 = .ok (.invokestatic 66, 3) := by decide +kernel
theorem dX6_way_16 : decode cX6_way 16 = .ok (.ifCond .ne 6, 3) := by decide +kernel
theorem dX6_way_19 : decode cX6_way 19 = .ok (.bipush (-102), 2) := by decide +kernel
theorem dX6_way_21 : decode cX6_way 21 = .ok (.ireturn, 1) := by decide +kernel
theorem dX6_way_22 : decode cX6_way 22 = .ok (.aload_n 0, 1) := by decide +kernel
theorem dX6_way_23 : decode cX6_way 23 = .ok (.invokevirtual 70, 3) := by decide +kernel
theorem dX6_way_26 : decode cX6_way 26 = .ok (.ifCond .eq 6, 3) := by decide +kernel
theorem dX6_way_29 : decode cX6_way 29 = .ok (.bipush (-103), 2) := by decide +kernel
theorem dX6_way_31 : decode cX6_way 31 = .ok (.ireturn, 1) := by decide +kernel
theorem dX6_way_32 : decode cX6_way 32 = .ok (.aload_n 0, 1) := by decide +kernel
theorem dX6_way_33 : decode cX6_way 33 = .ok (.iload_n 1, 1) := by decide +kernel
theorem dX6_way_34 : decode cX6_way 34 = .ok (.putfield 53, 3) := by decide +kernel
theorem dX6_way_37 : decode cX6_way 37 = .ok (.aload_n 0, 1) := by decide +kernel
theorem dX6_way_38 : decode cX6_way 38 = .ok (.iload_n 2, 1) := by decide +kernel
theorem dX6_way_39 : decode cX6_way 39 = .ok (.putfield 57, 3) := by decide +kernel
theorem dX6_way_42 : decode cX6_way 42 = .ok (.iconst 1, 1) := by decide +kernel
theorem dX6_way_43 : decode cX6_way 43 = .ok (.ireturn, 1) := by decide +kernel
set_option maxRecDepth 20000 in
theorem ggX6_begin_X6_isUnderWay : GoodIn wsX6_begin wsX6_isUnderWay := goodIn_r _ [11, 6, 46, 47, 48, 49, 50, 51, 52, 53, 54, 55] (by decide +kernel) (by decide +kernel)
set_option maxRecDepth 20000 in
theorem gX6_begin_X6_isUnderWay : GoodIn wsX6_begin (wsV RX6 70 RX6 yX6_isUnderWay wsX6_isUnderWay) := goodIn_app (goodIn_of _ (by decide +kernel)) ggX6_begin_X6_isUnderWay
set_option maxRecDepth 20000 in
theorem ggX6_begin_X5_set : GoodIn wsX6_begin wsX5_set := goodIn_r _ [16, 17, 56] (by decide +kernel) (by decide +kernel)
set_option maxRecDepth 20000 in
theorem gX6_begin_X5_set : GoodIn wsX6_begin (wsV RX6 97 RX5 yX5_set wsX5_set) := goodIn_app (goodIn_of _ (by decide +kernel)) ggX6_begin_X5_set
set_option maxRecDepth 20000 in
theorem ggX6_begin_X5_add : GoodIn wsX6_begin wsX5_add := goodIn_r _ [21, 22, 23, 24, 15, 25, 17, 26, 13, 14, 16, 56] (by decide +kernel) (by decide +kernel)
set_option maxRecDepth 20000 in
theorem gX6_begin_X5_add : GoodIn wsX6_begin (wsV RX6 100 RX5 yX5_add wsX5_add) := goodIn_app (goodIn_of _ (by decide +kernel)) ggX6_begin_X5_add
set_option maxRecDepth 20000 in
theorem ggX6_begin_X2_clear : GoodIn wsX6_begin wsX2_clear := goodIn_r _ [31, 32, 57, 58] (by decide +kernel) (by decide +kernel)
set_option maxRecDepth 20000 in
theorem gX6_begin_X2_clear : GoodIn wsX6_begin (wsV RX6 103 RX2 yX2_clear wsX2_clear) := goodIn_app (goodIn_of _ (by decide +kernel)) ggX6_begin_X2_clear
set_option maxRecDepth 20000 in
theorem ggX6_begin_X0_emptyStack : GoodIn wsX6_begin wsX0_emptyStack := goodIn_r _ [37, 38, 39, 28, 29, 30, 31, 32, 59, 60, 61, 57, 58] (by decide +kernel) (by decide +kernel)
set_option maxRecDepth 20000 in
theorem gX6_begin_X0_emptyStack : GoodIn wsX6_begin (wsV RX6 105 RX0 yX0_emptyStack wsX0_emptyStack) := goodIn_app (goodIn_of _ (by decide +kernel)) ggX6_begin_X0_emptyStack
set_option maxRecDepth 20000 in
theorem ggX6_begin_X1_returns : GoodIn wsX6_begin wsX1_returns := goodIn_r _ [44, 45, 62, 63, 64, 65, 66, 67, 68, 69] (by decide +kernel) (by decide +kernel)
set_option maxRecDepth 20000 in
theorem gX6_begin_X1_returns : GoodIn wsX6_begin (wsV RX6 108 RX1 yX1_returns wsX1_returns) := goodIn_app (goodIn_of _ (by decide +kernel)) ggX6_begin_X1_returns
theorem dX6_begin_0 : decode cX6_begin 0 = .ok (.aload_n 0, 1) := by decide +kernel
theorem dX6_begin_1 : decode cX6_begin 1 = .ok (.invokevirtual 70, 3) := by decide +kernel
theorem dX6_begin_4 : decode cX6_begin 4 = .ok (.ifCond .eq 6, 3) := by decide +kernel
theorem dX6_begin_7 : decode cX6_begin 7 = .ok (.bipush (-103), 2) := by decide +kernel
theorem dX6_begin_9 : decode cX6_begin 9 = .ok (.ireturn, 1) := by decide +kernel
theorem dX6_begin_10 : decode cX6_begin 10 = .ok (.iconst 0, 1) := by decide +kernel
theorem dX6_begin_11 : decode cX6_begin 11 = .ok (.istore_n 1, 1) := by decide +kernel
theorem dX6_begin_12 : decode cX6_begin 12 = .ok (.iload_n 1, 1) := by decide +kernel
theorem dX6_begin_13 : decode cX6_begin 13 = .ok (.bipush 8, 2) := by decide +kernel
theorem dX6_begin_15 : decode cX6_begin 15 = .ok (.if_icmp .gt 19, 3) := by decide +kernel
theorem dX6_begin_18 : decode cX6_begin 18 = .ok (.aload_n 0, 1) := by decide +kernel
theorem dX6_begin_19 : decode cX6_begin 19 = .ok (.getfield 42, 3) := by decide +kernel
theorem dX6_begin_22 : decode cX6_begin 22 = .ok (.iload_n 1, 1) := by decide +kernel
theorem dX6_begin_23 : decode cX6_begin 23 = .ok (.iconst 0, 1) := by decide +kernel
theorem dX6_begin_24 : decode cX6_begin 24 = .ok (.invokevirtual 97, 3) := by decide +kernel
theorem dX6_begin_27 : decode cX6_begin 27 = .ok (.pop, 1) := by decide +kernel
theorem dX6_begin_28 : decode cX6_begin 28 = .ok (.iinc 1 1, 3) := by decide +kernel
theorem dX6_begin_31 : decode cX6_begin 31 = .ok (.goto (-19), 3) := by decide +kernel
theorem dX6_begin_34 : decode cX6_begin 34 = .ok (.aload_n 0, 1) := by decide +kernel
theorem dX6_begin_35 : decode cX6_begin 35 = .ok (.getfield 42, 3) := by decide +kernel
theorem dX6_begin_38 : decode cX6_begin 38 = .ok (.bipush 12, 2) := by decide +kernel
theorem dX6_begin_40 : decode cX6_begin 40 = .ok (.iconst 1, 1) := by decide +kernel
theorem dX6_begin_41 : decode cX6_begin 41 = .ok (.invokevirtual 100, 3) := by decide +kernel
theorem dX6_begin_44 : decode cX6_begin 44 = .ok (.aload_n 0, 1) := by decide +kernel
theorem dX6_begin_45 : decode cX6_begin 45 = .ok (.getfield 49, 3) := by decide +kernel
theorem dX6_begin_48 : decode cX6_begin 48 = .ok (.invokevirtual 103, 3) := by decide +kernel
theorem dX6_begin_51 : decode cX6_begin 51 = .ok (.aload_n 0, 1) := by decide +kernel
theorem dX6_begin_52 : decode cX6_begin 52 = .ok (.getfield 19, 3) := by decide +kernel
theorem dX6_begin_55 : decode cX6_begin 55 = .ok (.invokevirtual 105, 3) := by decide +kernel
theorem dX6_begin_58 : decode cX6_begin 58 = .ok (.aload_n 0, 1) := by decide +kernel
theorem dX6_begin_59 : decode cX6_begin 59 = .ok (.getfield 26, 3) := by decide +kernel
theorem dX6_begin_62 : decode cX6_begin 62 = .ok (.invokevirtual 108, 3) := by decide +kernel
theorem dX6_begin_65 : decode cX6_begin 65 = .ok (.invokevirtual 103, 3) := by decide +kernel
theorem dX6_begin_68 : decode cX6_begin 68 = .ok (.aload_n 0, 1) := by decide +kernel
theorem dX6_begin_69 : decode cX6_begin 69 = .ok (.iconst 0, 1) := by decide +kernel
theorem dX6_begin_70 : decode cX6_begin 70 = .ok (.putfield 60, 3) := by decide +kernel
theorem dX6_begin_73 : decode cX6_begin 73 = .ok (.aload_n 0, 1) := by decide +kernel
theorem dX6_begin_74 : decode cX6_begin 74 = .ok (.iconst 0, 1) := by decide +kernel
theorem dX6_begin_75 : decode cX6_begin 75 = .ok (.putfield 63, 3) := by decide +kernel
theorem dX6_begin_78 : decode cX6_begin 78 = .ok (.iconst 1, 1) := by decide +kernel
theorem dX6_begin_79 : decode cX6_begin 79 = .ok (.ireturn, 1) := by decide +kernel
set_option maxRecDepth 20000 in
theorem ggX6_run_X6_isWithin : GoodIn wsX6_run wsX6_isWithin := goodIn_r _ [5] (by decide +kernel) (by decide +kernel)
set_option maxRecDepth 20000 in
theorem gX6_run_X6_isWithin : GoodIn wsX6_run (va_wsS RX6 66 yX6_isWithin wsX6_isWithin) := goodIn_app (goodIn_of _ (by decide +kernel)) ggX6_run_X6_isWithin
set_option maxRecDepth 20000 in
theorem ggX6_run_X6_isUnderWay : GoodIn wsX6_run wsX6_isUnderWay := goodIn_r _ [9, 10, 262, 263, 264, 265, 266, 267, 268, 269, 270, 271] (by decide +kernel) (by decide +kernel)
set_option maxRecDepth 20000 in
theorem gX6_run_X6_isUnderWay : GoodIn wsX6_run (wsV RX6 70 RX6 yX6_isUnderWay wsX6_isUnderWay) := goodIn_app (goodIn_of _ (by decide +kernel)) ggX6_run_X6_isUnderWay
set_option maxRecDepth 20000 in
theorem ggX6_run_X5_get : GoodIn wsX6_run wsX5_get := goodIn_r _ [15, 16, 272] (by decide +kernel) (by decide +kernel)
set_option maxRecDepth 20000 in
theorem gX6_run_X5_get : GoodIn wsX6_run (wsV RX6 112 RX5 yX5_get wsX5_get) := goodIn_app (goodIn_of _ (by decide +kernel)) ggX6_run_X5_get
set_option maxRecDepth 20000 in
theorem ggX6_run_X6_passCycle : GoodIn wsX6_run wsX6_passCycle := goodIn_r _ [20, 1, 21, 22, 23, 24, 25, 26, 27, 14, 28, 29, 12, 13, 15, 16, 30, 31, 32, 33, 34, 35, 36, 37, 38, 39, 40, 41, 42, 43, 44, 45, 46, 47, 48, 4, 49, 10, 50, 51, 52, 53, 54, 55, 56, 57, 11, 58, 59, 60, 61, 62, 63, 64, 65, 66, 67, 68, 69, 70, 71, 72, 73, 74, 75, 76, 77, 78, 79, 80, 81, 82, 83, 84, 85, 86, 87, 88, 89, 90, 91, 92, 93, 94, 95, 96, 97, 98, 99, 2, 3, 5, 100, 101, 102, 103, 104, 105, 106, 107, 108, 109, 110, 111, 112, 113, 114, 115, 116, 117, 118, 119, 120, 121, 122, 123, 124, 125, 126, 127, 128, 129, 130, 131, 132, 133, 134, 135, 136, 137, 138, 139, 140, 141, 142, 143, 144, 145, 146, 147, 148, 149, 150, 151, 152, 153, 154, 155, 156, 157, 158, 159, 160, 161, 162, 163, 164, 165, 166, 167, 168, 169, 170, 171, 172, 173, 174, 175, 176, 177, 178, 179, 180, 181, 182, 183, 184, 185, 186, 187, 188, 189, 190, 191, 192, 193, 194, 195, 196, 197, 198, 199, 200, 201, 202, 203, 204, 205, 206, 207, 208, 209, 210, 211, 212, 213, 214, 215, 216, 217, 218, 219, 220, 6, 7, 8, 9, 221, 222, 223, 224, 225, 226, 227, 228, 229, 230, 231, 232, 233, 234, 235, 236, 237, 238, 239, 240, 241, 242, 243, 244, 245, 246, 247, 248, 249, 250, 251, 252, 253, 254, 255, 256, 257, 258, 259, 260, 261, 262, 263, 264, 265, 266, 267, 268, 269, 270, 271, 272, 273, 274, 275, 276, 277, 278, 279, 280, 281, 282, 283, 284, 285, 286, 287, 288, 289, 290, 291, 292, 293, 294, 295] (by decide +kernel) (by decide +kernel)
set_option maxRecDepth 20000 in
theorem gX6_run_X6_passCycle : GoodIn wsX6_run (wsV RX6 116 RX6 yX6_passCycle wsX6_passCycle) := goodIn_app (goodIn_of _ (by decide +kernel)) ggX6_run_X6_passCycle
theorem dX6_run_0 : decode cX6_run 0 = .ok (.iload_n 1, 1) := by decide +kernel
theorem dX6_run_1 : decode cX6_run 1 = .ok (.iconst 1, 1) := by decide +kernel
theorem dX6_run_2 : decode cX6_run 2 = .ok (.sipush 5000, 3) := by decide +kernel
theorem dX6_run_5 : decode cX6_run 5 = .ok (.invokestatic 66, 3) := by decide +kernel
theorem dX6_run_8 : decode cX6_run 8 = .ok (.ifCond .ne 6, 3) := by decide +kernel
theorem dX6_run_11 : decode cX6_run 11 = .ok (.bipush (-102), 2) := by decide +kernel
theorem dX6_run_13 : decode cX6_run 13 = .ok (.ireturn, 1) := by decide +kernel
theorem dX6_run_14 : decode cX6_run 14 = .ok (.aload_n 0, 1) := by decide +kernel
theorem dX6_run_15 : decode cX6_run 15 = .ok (.invokevirtual 70, 3) := by decide +kernel
theorem dX6_run_18 : decode cX6_run 18 = .ok (.ifCond .ne 6, 3) := by decide +kernel
theorem dX6_run_21 : decode cX6_run 21 = .ok (.bipush (-103), 2) := by decide +kernel
theorem dX6_run_23 : decode cX6_run 23 = .ok (.ireturn, 1) := by decide +kernel
theorem dX6_run_24 : decode cX6_run 24 = .ok (.aload_n 0, 1) := by decide +kernel
theorem dX6_run_25 : decode cX6_run 25 = .ok (.getfield 42, 3) := by decide +kernel
theorem dX6_run_28 : decode cX6_run 28 = .ok (.iconst 1, 1) := by decide +kernel
theorem dX6_run_29 : decode cX6_run 29 = .ok (.invokevirtual 112, 3) := by decide +kernel
theorem dX6_run_32 : decode cX6_run 32 = .ok (.istore_n 2, 1) := by decide +kernel
theorem dX6_run_33 : decode cX6_run 33 = .ok (.iconst 0, 1) := by decide +kernel
theorem dX6_run_34 : decode cX6_run 34 = .ok (.istore_n 3, 1) := by decide +kernel
theorem dX6_run_35 : decode cX6_run 35 = .ok (.iload_n 3, 1) := by decide +kernel
theorem dX6_run_36 : decode cX6_run 36 = .ok (.iload_n 1, 1) := by decide +kernel
theorem dX6_run_37 : decode cX6_run 37 = .ok (.if_icmp .ge 20, 3) := by decide +kernel
theorem dX6_run_40 : decode cX6_run 40 = .ok (.aload_n 0, 1) := by decide +kernel
theorem dX6_run_41 : decode cX6_run 41 = .ok (.invokevirtual 70, 3) := by decide +kernel
theorem dX6_run_44 : decode cX6_run 44 = .ok (.ifCond .eq 13, 3) := by decide +kernel
theorem dX6_run_47 : decode cX6_run 47 = .ok (.aload_n 0, 1) := by decide +kernel
theorem dX6_run_48 : decode cX6_run 48 = .ok (.invokevirtual 116, 3) := by decide +kernel
theorem dX6_run_51 : decode cX6_run 51 = .ok (.iinc 3 1, 3) := by decide +kernel
theorem dX6_run_54 : decode cX6_run 54 = .ok (.goto (-19), 3) := by decide +kernel
theorem dX6_run_57 : decode cX6_run 57 = .ok (.aload_n 0, 1) := by decide +kernel
theorem dX6_run_58 : decode cX6_run 58 = .ok (.getfield 42, 3) := by decide +kernel
theorem dX6_run_61 : decode cX6_run 61 = .ok (.iconst 1, 1) := by decide +kernel
theorem dX6_run_62 : decode cX6_run 62 = .ok (.invokevirtual 112, 3) := by decide +kernel
theorem dX6_run_65 : decode cX6_run 65 = .ok (.iload_n 2, 1) := by decide +kernel
theorem dX6_run_66 : decode cX6_run 66 = .ok (.isub, 1) := by decide +kernel
theorem dX6_run_67 : decode cX6_run 67 = .ok (.ireturn, 1) := by decide +kernel
set_option maxRecDepth 20000 in
theorem ggX6_stop_X6_isUnderWay : GoodIn wsX6_stop wsX6_isUnderWay := goodIn_r _ [6, 7, 42, 43, 44, 45, 46, 47, 48, 49, 50, 51] (by decide +kernel) (by decide +kernel)
set_option maxRecDepth 20000 in
theorem gX6_stop_X6_isUnderWay : GoodIn wsX6_stop (wsV RX6 70 RX6 yX6_isUnderWay wsX6_isUnderWay) := goodIn_app (goodIn_of _ (by decide +kernel)) ggX6_stop_X6_isUnderWay
set_option maxRecDepth 20000 in
theorem ggX6_stop_X6_endRun : GoodIn wsX6_stop wsX6_endRun := goodIn_r _ [11, 7, 12, 13, 14, 5, 15, 1, 16, 17, 18, 19, 20, 21, 22, 23, 24, 25, 26, 27, 28, 29, 30, 31, 32, 33, 34, 35, 36, 37, 38, 39, 40, 42, 43, 44, 45, 46, 47, 48, 49, 50, 51, 52, 53, 54, 55, 56, 57, 58, 59, 60] (by decide +kernel) (by decide +kernel)
set_option maxRecDepth 20000 in
theorem gX6_stop_X6_endRun : GoodIn wsX6_stop (wsV RX6 119 RX6 yX6_endRun wsX6_endRun) := goodIn_app (goodIn_of _ (by decide +kernel)) ggX6_stop_X6_endRun
set_option maxRecDepth 20000 in
theorem ggX6_stop_X5_get : GoodIn wsX6_stop wsX5_get := goodIn_r _ [31, 32, 60] (by decide +kernel) (by decide +kernel)
set_option maxRecDepth 20000 in
theorem gX6_stop_X5_get : GoodIn wsX6_stop (wsV RX6 112 RX5 yX5_get wsX5_get) := goodIn_app (goodIn_of _ (by decide +kernel)) ggX6_stop_X5_get
theorem dX6_stop_0 : decode cX6_stop 0 = .ok (.aload_n 0, 1) := by decide +kernel
theorem dX6_stop_1 : decode cX6_stop 1 = .ok (.invokevirtual 70, 3) := by decide +kernel
theorem dX6_stop_4 : decode cX6_stop 4 = .ok (.ifCond .ne 6, 3) := by decide +kernel
theorem dX6_stop_7 : decode cX6_stop 7 = .ok (.bipush (-103), 2) := by decide +kernel
theorem dX6_stop_9 : decode cX6_stop 9 = .ok (.ireturn, 1) := by decide +kernel
theorem dX6_stop_10 : decode cX6_stop 10 = .ok (.aload_n 0, 1) := by decide +kernel
theorem dX6_stop_11 : decode cX6_stop 11 = .ok (.iconst 3, 1) := by decide +kernel
theorem dX6_stop_12 : decode cX6_stop 12 = .ok (.invokevirtual 119, 3) := by decide +kernel
theorem dX6_stop_15 : decode cX6_stop 15 = .ok (.aload_n 0, 1) := by decide +kernel
theorem dX6_stop_16 : decode cX6_stop 16 = .ok (.getfield 42, 3) := by decide +kernel
theorem dX6_stop_19 : decode cX6_stop 19 = .ok (.iconst 1, 1) := by decide +kernel
theorem dX6_stop_20 : decode cX6_stop 20 = .ok (.invokevirtual 112, 3) := by decide +kernel
theorem dX6_stop_23 : decode cX6_stop 23 = .ok (.ireturn, 1) := by decide +kernel
theorem dX6_ended_0 : decode cX6_ended 0 = .ok (.aload_n 0, 1) := by decide +kernel
theorem dX6_ended_1 : decode cX6_ended 1 = .ok (.getfield 63, 3) := by decide +kernel
theorem dX6_ended_4 : decode cX6_ended 4 = .ok (.ireturn, 1) := by decide +kernel
set_option maxRecDepth 20000 in
theorem ggX6_harm_X6_isWithin : GoodIn wsX6_harm wsX6_isWithin := goodIn_r _ [5] (by decide +kernel) (by decide +kernel)
set_option maxRecDepth 20000 in
theorem gX6_harm_X6_isWithin : GoodIn wsX6_harm (va_wsS RX6 66 yX6_isWithin wsX6_isWithin) := goodIn_app (goodIn_of _ (by decide +kernel)) ggX6_harm_X6_isWithin
set_option maxRecDepth 20000 in
theorem ggX6_harm_X6_isTablePlace : GoodIn wsX6_harm wsX6_isTablePlace := goodIn_r _ [8, 2, 3, 4, 5] (by decide +kernel) (by decide +kernel)
set_option maxRecDepth 20000 in
theorem gX6_harm_X6_isTablePlace : GoodIn wsX6_harm (va_wsS RX6 122 yX6_isTablePlace wsX6_isTablePlace) := goodIn_app (goodIn_of _ (by decide +kernel)) ggX6_harm_X6_isTablePlace
set_option maxRecDepth 20000 in
theorem ggX6_harm_X1_returns : GoodIn wsX6_harm wsX1_returns := goodIn_r _ [13, 14, 64, 65, 66, 67, 68, 69, 70, 71] (by decide +kernel) (by decide +kernel)
set_option maxRecDepth 20000 in
theorem gX6_harm_X1_returns : GoodIn wsX6_harm (wsV RX6 108 RX1 yX1_returns wsX1_returns) := goodIn_app (goodIn_of _ (by decide +kernel)) ggX6_harm_X1_returns
set_option maxRecDepth 20000 in
theorem ggX6_harm_X2_size : GoodIn wsX6_harm wsX2_size := goodIn_r _ [19, 20, 72, 73] (by decide +kernel) (by decide +kernel)
set_option maxRecDepth 20000 in
theorem gX6_harm_X2_size : GoodIn wsX6_harm (wsV RX6 126 RX2 yX2_size wsX2_size) := goodIn_app (goodIn_of _ (by decide +kernel)) ggX6_harm_X2_size
set_option maxRecDepth 20000 in
theorem ggX6_harm_X6_isTableValue : GoodIn wsX6_harm wsX6_isTableValue := goodIn_r _ [23, 2, 3, 4, 5] (by decide +kernel) (by decide +kernel)
set_option maxRecDepth 20000 in
theorem gX6_harm_X6_isTableValue : GoodIn wsX6_harm (va_wsS RX6 127 yX6_isTableValue wsX6_isTableValue) := goodIn_app (goodIn_of _ (by decide +kernel)) ggX6_harm_X6_isTableValue
set_option maxRecDepth 20000 in
theorem ggX6_harm_X1_setCell : GoodIn wsX6_harm wsX1_setCell := goodIn_r _ [27, 14, 28, 29, 30, 31, 18, 32, 33, 34, 35, 36, 37, 20, 38, 39, 40, 12, 41, 42, 43, 44, 45, 46, 47, 48, 49, 50, 51, 52, 53, 64, 65, 66, 67, 68, 69, 70, 71, 72, 73, 74] (by decide +kernel) (by decide +kernel)
set_option maxRecDepth 20000 in
theorem gX6_harm_X1_setCell : GoodIn wsX6_harm (wsV RX6 130 RX1 yX1_setCell wsX1_setCell) := goodIn_app (goodIn_of _ (by decide +kernel)) ggX6_harm_X1_setCell
theorem dX6_harm_0 : decode cX6_harm 0 = .ok (.iload_n 1, 1) := by decide +kernel
theorem dX6_harm_1 : decode cX6_harm 1 = .ok (.iconst 0, 1) := by decide +kernel
theorem dX6_harm_2 : decode cX6_harm 2 = .ok (.bipush 7, 2) := by decide +kernel
theorem dX6_harm_4 : decode cX6_harm 4 = .ok (.invokestatic 66, 3) := by decide +kernel
theorem dX6_harm_7 : decode cX6_harm 7 = .ok (.ifCond .ne 6, 3) := by decide +kernel
theorem dX6_harm_10 : decode cX6_harm 10 = .ok (.bipush (-102), 2) := by decide +kernel
theorem dX6_harm_12 : decode cX6_harm 12 = .ok (.ireturn, 1) := by decide +kernel
theorem dX6_harm_13 : decode cX6_harm 13 = .ok (.iload_n 1, 1) := by decide +kernel
theorem dX6_harm_14 : decode cX6_harm 14 = .ok (.iload_n 2, 1) := by decide +kernel
theorem dX6_harm_15 : decode cX6_harm 15 = .ok (.invokestatic 122, 3) := by decide +kernel
theorem dX6_harm_18 : decode cX6_harm 18 = .ok (.ifCond .eq 23, 3) := by decide +kernel
theorem dX6_harm_21 : decode cX6_harm 21 = .ok (.iload_n 1, 1) := by decide +kernel
theorem dX6_harm_22 : decode cX6_harm 22 = .ok (.bipush 7, 2) := by decide +kernel
theorem dX6_harm_24 : decode cX6_harm 24 = .ok (.if_icmp .ne 20, 3) := by decide +kernel
theorem dX6_harm_27 : decode cX6_harm 27 = .ok (.iload_n 2, 1) := by decide +kernel
theorem dX6_harm_28 : decode cX6_harm 28 = .ok (.aload_n 0, 1) := by decide +kernel
theorem dX6_harm_29 : decode cX6_harm 29 = .ok (.getfield 26, 3) := by decide +kernel
theorem dX6_harm_32 : decode cX6_harm 32 = .ok (.invokevirtual 108, 3) := by decide +kernel
theorem dX6_harm_35 : decode cX6_harm 35 = .ok (.invokevirtual 126, 3) := by decide +kernel
theorem dX6_harm_38 : decode cX6_harm 38 = .ok (.if_icmp .lt 6, 3) := by decide +kernel
theorem dX6_harm_41 : decode cX6_harm 41 = .ok (.bipush (-101), 2) := by decide +kernel
theorem dX6_harm_43 : decode cX6_harm 43 = .ok (.ireturn, 1) := by decide +kernel
theorem dX6_harm_44 : decode cX6_harm 44 = .ok (.iload_n 1, 1) := by decide +kernel
theorem dX6_harm_45 : decode cX6_harm 45 = .ok (.iload_n 3, 1) := by decide +kernel
theorem dX6_harm_46 : decode cX6_harm 46 = .ok (.invokestatic 127, 3) := by decide +kernel
theorem dX6_harm_49 : decode cX6_harm 49 = .ok (.ifCond .eq 16, 3) := by decide +kernel
theorem dX6_harm_52 : decode cX6_harm 52 = .ok (.aload_n 0, 1) := by decide +kernel
theorem dX6_harm_53 : decode cX6_harm 53 = .ok (.getfield 26, 3) := by decide +kernel
theorem dX6_harm_56 : decode cX6_harm 56 = .ok (.iload_n 1, 1) := by decide +kernel
theorem dX6_harm_57 : decode cX6_harm 57 = .ok (.iload_n 2, 1) := by decide +kernel
theorem dX6_harm_58 : decode cX6_harm 58 = .ok (.iload_n 3, 1) := by decide +kernel
theorem dX6_harm_59 : decode cX6_harm 59 = .ok (.invokevirtual 130, 3) := by decide +kernel
theorem dX6_harm_62 : decode cX6_harm 62 = .ok (.goto 5, 3) := by decide +kernel
theorem dX6_harm_65 : decode cX6_harm 65 = .ok (.bipush (-102), 2) := by decide +kernel
theorem dX6_harm_67 : decode cX6_harm 67 = .ok (.ireturn, 1) := by decide +kernel
set_option maxRecDepth 20000 in
theorem ggX6_forget_X6_isUnderWay : GoodIn wsX6_forget wsX6_isUnderWay := goodIn_r _ [6, 7, 26, 27, 28, 29, 30, 31, 32, 33, 34, 35] (by decide +kernel) (by decide +kernel)
set_option maxRecDepth 20000 in
theorem gX6_forget_X6_isUnderWay : GoodIn wsX6_forget (wsV RX6 70 RX6 yX6_isUnderWay wsX6_isUnderWay) := goodIn_app (goodIn_of _ (by decide +kernel)) ggX6_forget_X6_isUnderWay
set_option maxRecDepth 20000 in
theorem ggX6_forget_X1_forgetTables : GoodIn wsX6_forget wsX1_forgetTables := goodIn_r _ [12, 13, 14, 15, 16, 17, 18, 19, 20, 21, 22, 23, 24, 25, 36, 37, 38, 39, 40, 41, 42, 43, 44] (by decide +kernel) (by decide +kernel)
set_option maxRecDepth 20000 in
theorem gX6_forget_X1_forgetTables : GoodIn wsX6_forget (wsV RX6 133 RX1 yX1_forgetTables wsX1_forgetTables) := goodIn_app (goodIn_of _ (by decide +kernel)) ggX6_forget_X1_forgetTables
theorem dX6_forget_0 : decode cX6_forget 0 = .ok (.aload_n 0, 1) := by decide +kernel
theorem dX6_forget_1 : decode cX6_forget 1 = .ok (.invokevirtual 70, 3) := by decide +kernel
theorem dX6_forget_4 : decode cX6_forget 4 = .ok (.ifCond .eq 6, 3) := by decide +kernel
theorem dX6_forget_7 : decode cX6_forget 7 = .ok (.bipush (-103), 2) := by decide +kernel
theorem dX6_forget_9 : decode cX6_forget 9 = .ok (.ireturn, 1) := by decide +kernel
theorem dX6_forget_10 : decode cX6_forget 10 = .ok (.aload_n 0, 1) := by decide +kernel
theorem dX6_forget_11 : decode cX6_forget 11 = .ok (.getfield 26, 3) := by decide +kernel
theorem dX6_forget_14 : decode cX6_forget 14 = .ok (.invokevirtual 133, 3) := by decide +kernel
theorem dX6_forget_17 : decode cX6_forget 17 = .ok (.iconst 1, 1) := by decide +kernel
theorem dX6_forget_18 : decode cX6_forget 18 = .ok (.ireturn, 1) := by decide +kernel
set_option maxRecDepth 20000 in
theorem ggX6_table_X6_isWithin : GoodIn wsX6_table wsX6_isWithin := goodIn_r _ [5] (by decide +kernel) (by decide +kernel)
set_option maxRecDepth 20000 in
theorem gX6_table_X6_isWithin : GoodIn wsX6_table (va_wsS RX6 66 yX6_isWithin wsX6_isWithin) := goodIn_app (goodIn_of _ (by decide +kernel)) ggX6_table_X6_isWithin
set_option maxRecDepth 20000 in
theorem ggX6_table_X6_isTablePlace : GoodIn wsX6_table wsX6_isTablePlace := goodIn_r _ [8, 2, 3, 4, 5] (by decide +kernel) (by decide +kernel)
set_option maxRecDepth 20000 in
theorem gX6_table_X6_isTablePlace : GoodIn wsX6_table (va_wsS RX6 122 yX6_isTablePlace wsX6_isTablePlace) := goodIn_app (goodIn_of _ (by decide +kernel)) ggX6_table_X6_isTablePlace
set_option maxRecDepth 20000 in
theorem ggX6_table_X1_cell : GoodIn wsX6_table wsX1_cell := goodIn_r _ [13, 14, 15, 16, 17, 18, 19, 20, 21, 22, 23, 24, 25, 26, 27, 28, 29, 30, 31, 32, 33, 12, 34, 35, 36, 37, 38, 39, 40, 41, 42, 43, 44, 45, 46, 57, 58, 59, 60, 61, 62, 63, 64, 65, 66, 67] (by decide +kernel) (by decide +kernel)
set_option maxRecDepth 20000 in
theorem gX6_table_X1_cell : GoodIn wsX6_table (wsV RX6 136 RX1 yX1_cell wsX1_cell) := goodIn_app (goodIn_of _ (by decide +kernel)) ggX6_table_X1_cell
theorem dX6_table_0 : decode cX6_table 0 = .ok (.iload_n 1, 1) := by decide +kernel
theorem dX6_table_1 : decode cX6_table 1 = .ok (.iconst 0, 1) := by decide +kernel
theorem dX6_table_2 : decode cX6_table 2 = .ok (.bipush 8, 2) := by decide +kernel
theorem dX6_table_4 : decode cX6_table 4 = .ok (.invokestatic 66, 3) := by decide +kernel
theorem dX6_table_7 : decode cX6_table 7 = .ok (.ifCond .ne 6, 3) := by decide +kernel
theorem dX6_table_10 : decode cX6_table 10 = .ok (.bipush (-102), 2) := by decide +kernel
theorem dX6_table_12 : decode cX6_table 12 = .ok (.ireturn, 1) := by decide +kernel
theorem dX6_table_13 : decode cX6_table 13 = .ok (.iload_n 1, 1) := by decide +kernel
theorem dX6_table_14 : decode cX6_table 14 = .ok (.iload_n 2, 1) := by decide +kernel
theorem dX6_table_15 : decode cX6_table 15 = .ok (.invokestatic 122, 3) := by decide +kernel
theorem dX6_table_18 : decode cX6_table 18 = .ok (.ifCond .eq 15, 3) := by decide +kernel
theorem dX6_table_21 : decode cX6_table 21 = .ok (.aload_n 0, 1) := by decide +kernel
theorem dX6_table_22 : decode cX6_table 22 = .ok (.getfield 26, 3) := by decide +kernel
theorem dX6_table_25 : decode cX6_table 25 = .ok (.iload_n 1, 1) := by decide +kernel
theorem dX6_table_26 : decode cX6_table 26 = .ok (.iload_n 2, 1) := by decide +kernel
theorem dX6_table_27 : decode cX6_table 27 = .ok (.invokevirtual 136, 3) := by decide +kernel
theorem dX6_table_30 : decode cX6_table 30 = .ok (.goto 5, 3) := by decide +kernel
theorem dX6_table_33 : decode cX6_table 33 = .ok (.bipush (-101), 2) := by decide +kernel
theorem dX6_table_35 : decode cX6_table 35 = .ok (.ireturn, 1) := by decide +kernel
set_option maxRecDepth 20000 in
theorem ggX6_value_X0_hasCell : GoodIn wsX6_value wsX0_hasCell := goodIn_r _ [7] (by decide +kernel) (by decide +kernel)
set_option maxRecDepth 20000 in
theorem gX6_value_X0_hasCell : GoodIn wsX6_value (wsV RX6 85 RX0 yX0_hasCell wsX0_hasCell) := goodIn_app (goodIn_of _ (by decide +kernel)) ggX6_value_X0_hasCell
set_option maxRecDepth 20000 in
theorem ggX6_value_X0_cell : GoodIn wsX6_value wsX0_cell := goodIn_r _ [11, 12, 13, 14, 15, 16, 17, 18, 19, 30, 31, 32, 33] (by decide +kernel) (by decide +kernel)
set_option maxRecDepth 20000 in
theorem gX6_value_X0_cell : GoodIn wsX6_value (wsV RX6 139 RX0 yX0_cell wsX0_cell) := goodIn_app (goodIn_of _ (by decide +kernel)) ggX6_value_X0_cell
theorem dX6_value_0 : decode cX6_value 0 = .ok (.aload_n 0, 1) := by decide +kernel
theorem dX6_value_1 : decode cX6_value 1 = .ok (.getfield 19, 3) := by decide +kernel
theorem dX6_value_4 : decode cX6_value 4 = .ok (.iload_n 1, 1) := by decide +kernel
theorem dX6_value_5 : decode cX6_value 5 = .ok (.invokevirtual 85, 3) := by decide +kernel
theorem dX6_value_8 : decode cX6_value 8 = .ok (.ifCond .eq 15, 3) := by decide +kernel
theorem dX6_value_11 : decode cX6_value 11 = .ok (.aload_n 0, 1) := by decide +kernel
theorem dX6_value_12 : decode cX6_value 12 = .ok (.getfield 19, 3) := by decide +kernel
theorem dX6_value_15 : decode cX6_value 15 = .ok (.iload_n 1, 1) := by decide +kernel
theorem dX6_value_16 : decode cX6_value 16 = .ok (.invokevirtual 139, 3) := by decide +kernel
theorem dX6_value_19 : decode cX6_value 19 = .ok (.i2l, 1) := by decide +kernel
theorem dX6_value_20 : decode cX6_value 20 = .ok (.goto 6, 3) := by decide +kernel
theorem dX6_value_23 : decode cX6_value 23 = .ok (.ldc2_w 89, 3) := by decide +kernel
theorem dX6_value_26 : decode cX6_value 26 = .ok (.lreturn, 1) := by decide +kernel
set_option maxRecDepth 20000 in
theorem ggX6_stack_X0_stackAddress : GoodIn wsX6_stack wsX0_stackAddress := goodIn_r _ [6, 7, 8, 9, 10, 11, 12, 13, 14, 15, 16, 17, 18, 29, 30, 31, 32, 33] (by decide +kernel) (by decide +kernel)
set_option maxRecDepth 20000 in
theorem gX6_stack_X0_stackAddress : GoodIn wsX6_stack (wsV RX6 141 RX0 yX0_stackAddress wsX0_stackAddress) := goodIn_app (goodIn_of _ (by decide +kernel)) ggX6_stack_X0_stackAddress
theorem dX6_stack_0 : decode cX6_stack 0 = .ok (.aload_n 0, 1) := by decide +kernel
theorem dX6_stack_1 : decode cX6_stack 1 = .ok (.getfield 19, 3) := by decide +kernel
theorem dX6_stack_4 : decode cX6_stack 4 = .ok (.iload_n 1, 1) := by decide +kernel
theorem dX6_stack_5 : decode cX6_stack 5 = .ok (.invokevirtual 141, 3) := by decide +kernel
theorem dX6_stack_8 : decode cX6_stack 8 = .ok (.ireturn, 1) := by decide +kernel
set_option maxRecDepth 20000 in
theorem ggX6_done_X2_get : GoodIn wsX6_done wsX2_get := goodIn_r _ [6, 7, 8, 9, 10, 5, 11, 12, 23, 24] (by decide +kernel) (by decide +kernel)
set_option maxRecDepth 20000 in
theorem gX6_done_X2_get : GoodIn wsX6_done (wsV RX6 144 RX2 yX2_get wsX2_get) := goodIn_app (goodIn_of _ (by decide +kernel)) ggX6_done_X2_get
theorem dX6_done_0 : decode cX6_done 0 = .ok (.aload_n 0, 1) := by decide +kernel
theorem dX6_done_1 : decode cX6_done 1 = .ok (.getfield 49, 3) := by decide +kernel
theorem dX6_done_4 : decode cX6_done 4 = .ok (.iload_n 1, 1) := by decide +kernel
theorem dX6_done_5 : decode cX6_done 5 = .ok (.invokevirtual 144, 3) := by decide +kernel
theorem dX6_done_8 : decode cX6_done 8 = .ok (.ireturn, 1) := by decide +kernel
set_option maxRecDepth 20000 in
theorem ggX6_fetched_X4_address : GoodIn wsX6_fetched wsX4_address := goodIn_r _ [6, 7, 8, 9, 10, 11, 12, 13, 14, 15, 26, 27, 28, 29, 30, 31, 32, 33, 34] (by decide +kernel) (by decide +kernel)
set_option maxRecDepth 20000 in
theorem gX6_fetched_X4_address : GoodIn wsX6_fetched (wsV RX6 145 RX4 yX4_address wsX4_address) := goodIn_app (goodIn_of _ (by decide +kernel)) ggX6_fetched_X4_address
theorem dX6_fetched_0 : decode cX6_fetched 0 = .ok (.aload_n 0, 1) := by decide +kernel
theorem dX6_fetched_1 : decode cX6_fetched 1 = .ok (.getfield 33, 3) := by decide +kernel
theorem dX6_fetched_4 : decode cX6_fetched 4 = .ok (.iload_n 1, 1) := by decide +kernel
theorem dX6_fetched_5 : decode cX6_fetched 5 = .ok (.invokevirtual 145, 3) := by decide +kernel
theorem dX6_fetched_8 : decode cX6_fetched 8 = .ok (.ireturn, 1) := by decide +kernel
set_option maxRecDepth 20000 in
theorem ggX6_known_X6_isUnderWay : GoodIn wsX6_known wsX6_isUnderWay := goodIn_r _ [7, 8, 27, 28, 29, 30, 31, 32, 33, 34, 35, 36] (by decide +kernel) (by decide +kernel)
set_option maxRecDepth 20000 in
theorem gX6_known_X6_isUnderWay : GoodIn wsX6_known (wsV RX6 70 RX6 yX6_isUnderWay wsX6_isUnderWay) := goodIn_app (goodIn_of _ (by decide +kernel)) ggX6_known_X6_isUnderWay
set_option maxRecDepth 20000 in
theorem ggX6_known_X4_size : GoodIn wsX6_known wsX4_size := goodIn_r _ [13, 14, 37, 38, 39, 40, 41, 42, 43, 44] (by decide +kernel) (by decide +kernel)
set_option maxRecDepth 20000 in
theorem gX6_known_X4_size : GoodIn wsX6_known (wsV RX6 148 RX4 yX4_size wsX4_size) := goodIn_app (goodIn_of _ (by decide +kernel)) ggX6_known_X4_size
set_option maxRecDepth 20000 in
theorem ggX6_known_X4_address : GoodIn wsX6_known wsX4_address := goodIn_r _ [18, 14, 19, 20, 21, 22, 23, 24, 25, 26, 37, 38, 39, 40, 41, 42, 43, 44, 45] (by decide +kernel) (by decide +kernel)
set_option maxRecDepth 20000 in
theorem gX6_known_X4_address : GoodIn wsX6_known (wsV RX6 145 RX4 yX4_address wsX4_address) := goodIn_app (goodIn_of _ (by decide +kernel)) ggX6_known_X4_address
theorem dX6_known_0 : decode cX6_known 0 = .ok (.aload_n 0, 1) := by decide +kernel
theorem dX6_known_1 : decode cX6_known 1 = .ok (.invokevirtual 70, 3) := by decide +kernel
theorem dX6_known_4 : decode cX6_known 4 = .ok (.ifCond .ne 6, 3) := by decide +kernel
theorem dX6_known_7 : decode cX6_known 7 = .ok (.bipush (-103), 2) := by decide +kernel
theorem dX6_known_9 : decode cX6_known 9 = .ok (.ireturn, 1) := by decide +kernel
theorem dX6_known_10 : decode cX6_known 10 = .ok (.aload_n 0, 1) := by decide +kernel
theorem dX6_known_11 : decode cX6_known 11 = .ok (.getfield 33, 3) := by decide +kernel
theorem dX6_known_14 : decode cX6_known 14 = .ok (.invokevirtual 148, 3) := by decide +kernel
theorem dX6_known_17 : decode cX6_known 17 = .ok (.ifCond .le 14, 3) := by decide +kernel
theorem dX6_known_20 : decode cX6_known 20 = .ok (.aload_n 0, 1) := by decide +kernel
theorem dX6_known_21 : decode cX6_known 21 = .ok (.getfield 33, 3) := by decide +kernel
theorem dX6_known_24 : decode cX6_known 24 = .ok (.iconst 0, 1) := by decide +kernel
theorem dX6_known_25 : decode cX6_known 25 = .ok (.invokevirtual 145, 3) := by decide +kernel
theorem dX6_known_28 : decode cX6_known 28 = .ok (.goto 7, 3) := by decide +kernel
theorem dX6_known_31 : decode cX6_known 31 = .ok (.aload_n 0, 1) := by decide +kernel
theorem dX6_known_32 : decode cX6_known 32 = .ok (.getfield 60, 3) := by decide +kernel
theorem dX6_known_35 : decode cX6_known 35 = .ok (.ireturn, 1) := by decide +kernel
set_option maxRecDepth 20000 in
theorem ggX6_told_X3_has : GoodIn wsX6_told wsX3_has := goodIn_r _ [6, 7, 33, 34] (by decide +kernel) (by decide +kernel)
set_option maxRecDepth 20000 in
theorem gX6_told_X3_has : GoodIn wsX6_told (wsV RX6 149 RX3 yX3_has wsX3_has) := goodIn_app (goodIn_of _ (by decide +kernel)) ggX6_told_X3_has
set_option maxRecDepth 20000 in
theorem ggX6_told_X6_isWithin : GoodIn wsX6_told wsX6_isWithin := goodIn_r _ [11] (by decide +kernel) (by decide +kernel)
set_option maxRecDepth 20000 in
theorem gX6_told_X6_isWithin : GoodIn wsX6_told (va_wsS RX6 66 yX6_isWithin wsX6_isWithin) := goodIn_app (goodIn_of _ (by decide +kernel)) ggX6_told_X6_isWithin
set_option maxRecDepth 20000 in
theorem ggX6_told_X3_part : GoodIn wsX6_told wsX3_part := goodIn_r _ [15, 16, 17, 18, 19, 20, 21, 22, 33, 34, 35] (by decide +kernel) (by decide +kernel)
set_option maxRecDepth 20000 in
theorem gX6_told_X3_part : GoodIn wsX6_told (wsV RX6 152 RX3 yX3_part wsX3_part) := goodIn_app (goodIn_of _ (by decide +kernel)) ggX6_told_X3_part
theorem dX6_told_0 : decode cX6_told 0 = .ok (.aload_n 0, 1) := by decide +kernel
theorem dX6_told_1 : decode cX6_told 1 = .ok (.getfield 10, 3) := by decide +kernel
theorem dX6_told_4 : decode cX6_told 4 = .ok (.iload_n 1, 1) := by decide +kernel
theorem dX6_told_5 : decode cX6_told 5 = .ok (.invokevirtual 149, 3) := by decide +kernel
theorem dX6_told_8 : decode cX6_told 8 = .ok (.ifCond .ne 6, 3) := by decide +kernel
theorem dX6_told_11 : decode cX6_told 11 = .ok (.bipush (-101), 2) := by decide +kernel
theorem dX6_told_13 : decode cX6_told 13 = .ok (.ireturn, 1) := by decide +kernel
theorem dX6_told_14 : decode cX6_told 14 = .ok (.iload_n 2, 1) := by decide +kernel
theorem dX6_told_15 : decode cX6_told 15 = .ok (.iconst 0, 1) := by decide +kernel
theorem dX6_told_16 : decode cX6_told 16 = .ok (.iconst 3, 1) := by decide +kernel
theorem dX6_told_17 : decode cX6_told 17 = .ok (.invokestatic 66, 3) := by decide +kernel
theorem dX6_told_20 : decode cX6_told 20 = .ok (.ifCond .eq 15, 3) := by decide +kernel
theorem dX6_told_23 : decode cX6_told 23 = .ok (.aload_n 0, 1) := by decide +kernel
theorem dX6_told_24 : decode cX6_told 24 = .ok (.getfield 10, 3) := by decide +kernel
theorem dX6_told_27 : decode cX6_told 27 = .ok (.iload_n 1, 1) := by decide +kernel
theorem dX6_told_28 : decode cX6_told 28 = .ok (.iload_n 2, 1) := by decide +kernel
theorem dX6_told_29 : decode cX6_told 29 = .ok (.invokevirtual 152, 3) := by decide +kernel
theorem dX6_told_32 : decode cX6_told 32 = .ok (.goto 5, 3) := by decide +kernel
theorem dX6_told_35 : decode cX6_told 35 = .ok (.bipush (-102), 2) := by decide +kernel
theorem dX6_told_37 : decode cX6_told 37 = .ok (.ireturn, 1) := by decide +kernel
set_option maxRecDepth 20000 in
theorem ggX6_count_X0_stackSize : GoodIn wsX6_count wsX0_stackSize := goodIn_r _ [12, 13, 14, 15, 16, 17, 18, 19, 52, 53, 54, 55, 56] (by decide +kernel) (by decide +kernel)
set_option maxRecDepth 20000 in
theorem gX6_count_X0_stackSize : GoodIn wsX6_count (wsV RX6 155 RX0 yX0_stackSize wsX0_stackSize) := goodIn_app (goodIn_of _ (by decide +kernel)) ggX6_count_X0_stackSize
set_option maxRecDepth 20000 in
theorem ggX6_count_X4_size : GoodIn wsX6_count wsX4_size := goodIn_r _ [24, 25, 57, 58, 59, 60, 61, 62, 63, 64] (by decide +kernel) (by decide +kernel)
set_option maxRecDepth 20000 in
theorem gX6_count_X4_size : GoodIn wsX6_count (wsV RX6 148 RX4 yX4_size wsX4_size) := goodIn_app (goodIn_of _ (by decide +kernel)) ggX6_count_X4_size
set_option maxRecDepth 20000 in
theorem ggX6_count_X3_size : GoodIn wsX6_count wsX3_size := goodIn_r _ [30, 31, 65, 66] (by decide +kernel) (by decide +kernel)
set_option maxRecDepth 20000 in
theorem gX6_count_X3_size : GoodIn wsX6_count (wsV RX6 78 RX3 yX3_size wsX3_size) := goodIn_app (goodIn_of _ (by decide +kernel)) ggX6_count_X3_size
set_option maxRecDepth 20000 in
theorem ggX6_count_X6_isWithin : GoodIn wsX6_count wsX6_isWithin := goodIn_r _ [35] (by decide +kernel) (by decide +kernel)
set_option maxRecDepth 20000 in
theorem gX6_count_X6_isWithin : GoodIn wsX6_count (va_wsS RX6 66 yX6_isWithin wsX6_isWithin) := goodIn_app (goodIn_of _ (by decide +kernel)) ggX6_count_X6_isWithin
set_option maxRecDepth 20000 in
theorem ggX6_count_X5_get : GoodIn wsX6_count wsX5_get := goodIn_r _ [40, 41, 67] (by decide +kernel) (by decide +kernel)
set_option maxRecDepth 20000 in
theorem gX6_count_X5_get : GoodIn wsX6_count (wsV RX6 112 RX5 yX5_get wsX5_get) := goodIn_app (goodIn_of _ (by decide +kernel)) ggX6_count_X5_get
theorem dX6_count_0 : decode cX6_count 0 = .ok (.iload_n 1, 1) := by decide +kernel
theorem dX6_count_1 : decode cX6_count 1 = .ok (.tableswitch 90 9 17 #[51, 59, 67, 90, 90, 90, 72, 80, 85], 51) := by decide +kernel
theorem dX6_count_52 : decode cX6_count 52 = .ok (.aload_n 0, 1) := by decide +kernel
theorem dX6_count_53 : decode cX6_count 53 = .ok (.getfield 19, 3) := by decide +kernel
theorem dX6_count_56 : decode cX6_count 56 = .ok (.invokevirtual 155, 3) := by decide +kernel
theorem dX6_count_59 : decode cX6_count 59 = .ok (.ireturn, 1) := by decide +kernel
theorem dX6_count_60 : decode cX6_count 60 = .ok (.aload_n 0, 1) := by decide +kernel
theorem dX6_count_61 : decode cX6_count 61 = .ok (.getfield 33, 3) := by decide +kernel
theorem dX6_count_64 : decode cX6_count 64 = .ok (.invokevirtual 148, 3) := by decide +kernel
theorem dX6_count_67 : decode cX6_count 67 = .ok (.ireturn, 1) := by decide +kernel
theorem dX6_count_68 : decode cX6_count 68 = .ok (.aload_n 0, 1) := by decide +kernel
theorem dX6_count_69 : decode cX6_count 69 = .ok (.getfield 60, 3) := by decide +kernel
theorem dX6_count_72 : decode cX6_count 72 = .ok (.ireturn, 1) := by decide +kernel
theorem dX6_count_73 : decode cX6_count 73 = .ok (.aload_n 0, 1) := by decide +kernel
theorem dX6_count_74 : decode cX6_count 74 = .ok (.getfield 10, 3) := by decide +kernel
theorem dX6_count_77 : decode cX6_count 77 = .ok (.invokevirtual 78, 3) := by decide +kernel
theorem dX6_count_80 : decode cX6_count 80 = .ok (.ireturn, 1) := by decide +kernel
theorem dX6_count_81 : decode cX6_count 81 = .ok (.aload_n 0, 1) := by decide +kernel
theorem dX6_count_82 : decode cX6_count 82 = .ok (.getfield 53, 3) := by decide +kernel
theorem dX6_count_85 : decode cX6_count 85 = .ok (.ireturn, 1) := by decide +kernel
theorem dX6_count_86 : decode cX6_count 86 = .ok (.aload_n 0, 1) := by decide +kernel
theorem dX6_count_87 : decode cX6_count 87 = .ok (.getfield 57, 3) := by decide +kernel
theorem dX6_count_90 : decode cX6_count 90 = .ok (.ireturn, 1) := by decide +kernel
theorem dX6_count_91 : decode cX6_count 91 = .ok (.iload_n 1, 1) := by decide +kernel
theorem dX6_count_92 : decode cX6_count 92 = .ok (.iconst 0, 1) := by decide +kernel
theorem dX6_count_93 : decode cX6_count 93 = .ok (.bipush 14, 2) := by decide +kernel
theorem dX6_count_95 : decode cX6_count 95 = .ok (.invokestatic 66, 3) := by decide +kernel
theorem dX6_count_98 : decode cX6_count 98 = .ok (.ifCond .eq 14, 3) := by decide +kernel
theorem dX6_count_101 : decode cX6_count 101 = .ok (.aload_n 0, 1) := by decide +kernel
theorem dX6_count_102 : decode cX6_count 102 = .ok (.getfield 42, 3) := by decide +kernel
theorem dX6_count_105 : decode cX6_count 105 = .ok (.iload_n 1, 1) := by decide +kernel
theorem dX6_count_106 : decode cX6_count 106 = .ok (.invokevirtual 112, 3) := by decide +kernel
theorem dX6_count_109 : decode cX6_count 109 = .ok (.goto 5, 3) := by decide +kernel
theorem dX6_count_112 : decode cX6_count 112 = .ok (.bipush (-102), 2) := by decide +kernel
theorem dX6_count_114 : decode cX6_count 114 = .ok (.ireturn, 1) := by decide +kernel
set_option maxRecDepth 20000 in
theorem ggX6_digest_X3_size : GoodIn wsX6_digest wsX3_size := goodIn_r _ [10, 11, 153, 154] (by decide +kernel) (by decide +kernel)
set_option maxRecDepth 20000 in
theorem gX6_digest_X3_size : GoodIn wsX6_digest (wsV RX6 78 RX3 yX3_size wsX3_size) := goodIn_app (goodIn_of _ (by decide +kernel)) ggX6_digest_X3_size
set_option maxRecDepth 20000 in
theorem ggX6_digest_X6_told : GoodIn wsX6_digest wsX6_told := goodIn_r _ [16, 2, 17, 18, 19, 9, 20, 11, 21, 22, 15, 23, 24, 25, 26, 27, 28, 29, 30, 31, 32, 33, 34, 143, 144, 145, 146, 147, 148, 149, 150, 151, 152, 153, 154, 155] (by decide +kernel) (by decide +kernel)
set_option maxRecDepth 20000 in
theorem gX6_digest_X6_told : GoodIn wsX6_digest (wsV RX6 162 RX6 yX6_told wsX6_told) := goodIn_app (goodIn_of _ (by decide +kernel)) ggX6_digest_X6_told
set_option maxRecDepth 20000 in
theorem ggX6_digest_X6_value : GoodIn wsX6_digest wsX6_value := goodIn_r _ [38, 4, 39, 40, 41, 42, 43, 44, 45, 46, 47, 48, 49, 50, 51, 30, 31, 32, 33, 34, 143, 144, 145, 146, 147, 148, 149, 150, 151, 152, 156, 157, 158, 155] (by decide +kernel) (by decide +kernel)
set_option maxRecDepth 20000 in
theorem gX6_digest_X6_value : GoodIn wsX6_digest (wsV RX6 165 RX6 yX6_value wsX6_value) := goodIn_app (goodIn_of _ (by decide +kernel)) ggX6_digest_X6_value
set_option maxRecDepth 20000 in
theorem ggX6_digest_X0_stackSize : GoodIn wsX6_digest wsX0_stackSize := goodIn_r _ [55, 56, 57, 58, 59, 60, 61, 62, 156, 157, 158, 159, 160] (by decide +kernel) (by decide +kernel)
set_option maxRecDepth 20000 in
theorem gX6_digest_X0_stackSize : GoodIn wsX6_digest (wsV RX6 155 RX0 yX0_stackSize wsX0_stackSize) := goodIn_app (goodIn_of _ (by decide +kernel)) ggX6_digest_X0_stackSize
set_option maxRecDepth 20000 in
theorem ggX6_digest_X6_stack : GoodIn wsX6_digest wsX6_stack := goodIn_r _ [66, 4, 67, 68, 69, 43, 70, 56, 71, 72, 73, 60, 74, 75, 76, 77, 78, 79, 62, 143, 144, 145, 146, 147, 148, 149, 150, 151, 152, 156, 157, 158, 159, 160] (by decide +kernel) (by decide +kernel)
set_option maxRecDepth 20000 in
theorem gX6_digest_X6_stack : GoodIn wsX6_digest (wsV RX6 169 RX6 yX6_stack wsX6_stack) := goodIn_app (goodIn_of _ (by decide +kernel)) ggX6_digest_X6_stack
set_option maxRecDepth 20000 in
theorem ggX6_digest_X6_digestOfTables : GoodIn wsX6_digest wsX6_digestOfTables := goodIn_r _ [83, 3, 84, 85, 86, 87, 15, 88, 21, 22, 23, 89, 90, 91, 92, 93, 94, 95, 96, 97, 98, 99, 72, 73, 60, 74, 75, 76, 77, 78, 79, 62, 100, 58, 59, 61, 101, 102, 103, 104, 105, 106, 107, 108, 109, 110, 111, 30, 31, 32, 33, 34, 112, 113, 114, 115, 116, 143, 144, 145, 146, 147, 148, 149, 150, 151, 152, 161, 162, 163, 164, 165, 166, 167, 168, 159, 160, 155] (by decide +kernel) (by decide +kernel)
set_option maxRecDepth 20000 in
theorem gX6_digest_X6_digestOfTables : GoodIn wsX6_digest (wsV RX6 172 RX6 yX6_digestOfTables wsX6_digestOfTables) := goodIn_app (goodIn_of _ (by decide +kernel)) ggX6_digest_X6_digestOfTables
set_option maxRecDepth 20000 in
theorem ggX6_digest_X4_size : GoodIn wsX6_digest wsX4_size := goodIn_r _ [121, 122, 169, 170, 171, 172, 173, 174, 175, 176] (by decide +kernel) (by decide +kernel)
set_option maxRecDepth 20000 in
theorem gX6_digest_X4_size : GoodIn wsX6_digest (wsV RX6 148 RX4 yX4_size wsX4_size) := goodIn_app (goodIn_of _ (by decide +kernel)) ggX6_digest_X4_size
set_option maxRecDepth 20000 in
theorem ggX6_digest_X6_fetched : GoodIn wsX6_digest wsX6_fetched := goodIn_r _ [126, 5, 127, 128, 129, 120, 130, 122, 131, 132, 133, 30, 31, 32, 33, 34, 143, 144, 145, 146, 147, 148, 149, 150, 151, 152, 169, 170, 171, 172, 173, 174, 175, 176, 155] (by decide +kernel) (by decide +kernel)
set_option maxRecDepth 20000 in
theorem gX6_digest_X6_fetched : GoodIn wsX6_digest (wsV RX6 176 RX6 yX6_fetched wsX6_fetched) := goodIn_app (goodIn_of _ (by decide +kernel)) ggX6_digest_X6_fetched
set_option maxRecDepth 20000 in
theorem ggX6_digest_X6_count : GoodIn wsX6_digest wsX6_count := goodIn_r _ [137, 4, 5, 138, 2, 139, 140, 141, 52, 53, 54, 43, 55, 56, 57, 58, 59, 60, 61, 62, 117, 118, 119, 120, 121, 122, 6, 7, 8, 9, 10, 11, 21, 22, 15, 23, 142, 30, 31, 32, 33, 34, 143, 144, 145, 146, 147, 148, 149, 150, 151, 152, 156, 157, 158, 159, 160, 169, 170, 171, 172, 173, 174, 175, 176, 153, 154, 155] (by decide +kernel) (by decide +kernel)
set_option maxRecDepth 20000 in
theorem gX6_digest_X6_count : GoodIn wsX6_digest (wsV RX6 179 RX6 yX6_count wsX6_count) := goodIn_app (goodIn_of _ (by decide +kernel)) ggX6_digest_X6_count
theorem dX6_digest_0 : decode cX6_digest 0 = .ok (.ldc2_w 158, 3) := by decide +kernel
theorem dX6_digest_3 : decode cX6_digest 3 = .ok (.lstore_n 1, 1) := by decide +kernel
theorem dX6_digest_4 : decode cX6_digest 4 = .ok (.iconst 0, 1) := by decide +kernel
theorem dX6_digest_5 : decode cX6_digest 5 = .ok (.istore_n 3, 1) := by decide +kernel
theorem dX6_digest_6 : decode cX6_digest 6 = .ok (.iload_n 3, 1) := by decide +kernel
theorem dX6_digest_7 : decode cX6_digest 7 = .ok (.aload_n 0, 1) := by decide +kernel
theorem dX6_digest_8 : decode cX6_digest 8 = .ok (.getfield 10, 3) := by decide +kernel
theorem dX6_digest_11 : decode cX6_digest 11 = .ok (.invokevirtual 78, 3) := by decide +kernel
theorem dX6_digest_14 : decode cX6_digest 14 = .ok (.if_icmp .ge 39, 3) := by decide +kernel
theorem dX6_digest_17 : decode cX6_digest 17 = .ok (.iconst 0, 1) := by decide +kernel
theorem dX6_digest_18 : decode cX6_digest 18 = .ok (.istore 4, 2) := by decide +kernel
theorem dX6_digest_20 : decode cX6_digest 20 = .ok (.iload 4, 2) := by decide +kernel
theorem dX6_digest_22 : decode cX6_digest 22 = .ok (.iconst 3, 1) := by decide +kernel
theorem dX6_digest_23 : decode cX6_digest 23 = .ok (.if_icmp .gt 24, 3) := by decide +kernel
theorem dX6_digest_26 : decode cX6_digest 26 = .ok (.ldc2_w 160, 3) := by decide +kernel
theorem dX6_digest_29 : decode cX6_digest 29 = .ok (.lload_n 1, 1) := by decide +kernel
theorem dX6_digest_30 : decode cX6_digest 30 = .ok (.lmul, 1) := by decide +kernel
theorem dX6_digest_31 : decode cX6_digest 31 = .ok (.aload_n 0, 1) := by decide +kernel
theorem dX6_digest_32 : decode cX6_digest 32 = .ok (.iload_n 3, 1) := by decide +kernel
theorem dX6_digest_33 : decode cX6_digest 33 = .ok (.iload 4, 2) := by decide +kernel
theorem dX6_digest_35 : decode cX6_digest 35 = .ok (.invokevirtual 162, 3) := by decide +kernel
theorem dX6_digest_38 : decode cX6_digest 38 = .ok (.i2l, 1) := by decide +kernel
theorem dX6_digest_39 : decode cX6_digest 39 = .ok (.ladd, 1) := by decide +kernel
theorem dX6_digest_40 : decode cX6_digest 40 = .ok (.lstore_n 1, 1) := by decide +kernel
theorem dX6_digest_41 : decode cX6_digest 41 = .ok (.iinc 4 1, 3) := by decide +kernel
theorem dX6_digest_44 : decode cX6_digest 44 = .ok (.goto (-24), 3) := by decide +kernel
theorem dX6_digest_47 : decode cX6_digest 47 = .ok (.iinc 3 1, 3) := by decide +kernel
theorem dX6_digest_50 : decode cX6_digest 50 = .ok (.goto (-44), 3) := by decide +kernel
theorem dX6_digest_53 : decode cX6_digest 53 = .ok (.iconst 0, 1) := by decide +kernel
theorem dX6_digest_54 : decode cX6_digest 54 = .ok (.istore_n 3, 1) := by decide +kernel
theorem dX6_digest_55 : decode cX6_digest 55 = .ok (.iload_n 3, 1) := by decide +kernel
theorem dX6_digest_56 : decode cX6_digest 56 = .ok (.bipush 24, 2) := by decide +kernel
theorem dX6_digest_58 : decode cX6_digest 58 = .ok (.if_icmp .ge 21, 3) := by decide +kernel
theorem dX6_digest_61 : decode cX6_digest 61 = .ok (.ldc2_w 160, 3) := by decide +kernel
theorem dX6_digest_64 : decode cX6_digest 64 = .ok (.lload_n 1, 1) := by decide +kernel
theorem dX6_digest_65 : decode cX6_digest 65 = .ok (.lmul, 1) := by decide +kernel
theorem dX6_digest_66 : decode cX6_digest 66 = .ok (.aload_n 0, 1) := by decide +kernel
theorem dX6_digest_67 : decode cX6_digest 67 = .ok (.iload_n 3, 1) := by decide +kernel
theorem dX6_digest_68 : decode cX6_digest 68 = .ok (.invokevirtual 165, 3) := by decide +kernel
theorem dX6_digest_71 : decode cX6_digest 71 = .ok (.ladd, 1) := by decide +kernel
theorem dX6_digest_72 : decode cX6_digest 72 = .ok (.lstore_n 1, 1) := by decide +kernel
theorem dX6_digest_73 : decode cX6_digest 73 = .ok (.iinc 3 1, 3) := by decide +kernel
theorem dX6_digest_76 : decode cX6_digest 76 = .ok (.goto (-21), 3) := by decide +kernel
theorem dX6_digest_79 : decode cX6_digest 79 = .ok (.iconst 0, 1) := by decide +kernel
theorem dX6_digest_80 : decode cX6_digest 80 = .ok (.istore_n 3, 1) := by decide +kernel
theorem dX6_digest_81 : decode cX6_digest 81 = .ok (.iload_n 3, 1) := by decide +kernel
theorem dX6_digest_82 : decode cX6_digest 82 = .ok (.aload_n 0, 1) := by decide +kernel
theorem dX6_digest_83 : decode cX6_digest 83 = .ok (.getfield 19, 3) := by decide +kernel
theorem dX6_digest_86 : decode cX6_digest 86 = .ok (.invokevirtual 155, 3) := by decide +kernel
theorem dX6_digest_89 : decode cX6_digest 89 = .ok (.if_icmp .ge 22, 3) := by decide +kernel
theorem dX6_digest_92 : decode cX6_digest 92 = .ok (.ldc2_w 160, 3) := by decide +kernel
theorem dX6_digest_95 : decode cX6_digest 95 = .ok (.lload_n 1, 1) := by decide +kernel
theorem dX6_digest_96 : decode cX6_digest 96 = .ok (.lmul, 1) := by decide +kernel
theorem dX6_digest_97 : decode cX6_digest 97 = .ok (.aload_n 0, 1) := by decide +kernel
theorem dX6_digest_98 : decode cX6_digest 98 = .ok (.iload_n 3, 1) := by decide +kernel
theorem dX6_digest_99 : decode cX6_digest 99 = .ok (.invokevirtual 169, 3) := by decide +kernel
theorem dX6_digest_102 : decode cX6_digest 102 = .ok (.i2l, 1) := by decide +kernel
theorem dX6_digest_103 : decode cX6_digest 103 = .ok (.ladd, 1) := by decide +kernel
theorem dX6_digest_104 : decode cX6_digest 104 = .ok (.lstore_n 1, 1) := by decide +kernel
theorem dX6_digest_105 : decode cX6_digest 105 = .ok (.iinc 3 1, 3) := by decide +kernel
theorem dX6_digest_108 : decode cX6_digest 108 = .ok (.goto (-27), 3) := by decide +kernel
theorem dX6_digest_111 : decode cX6_digest 111 = .ok (.aload_n 0, 1) := by decide +kernel
theorem dX6_digest_112 : decode cX6_digest 112 = .ok (.lload_n 1, 1) := by decide +kernel
theorem dX6_digest_113 : decode cX6_digest 113 = .ok (.invokevirtual 172, 3) := by decide +kernel
theorem dX6_digest_116 : decode cX6_digest 116 = .ok (.lstore_n 1, 1) := by decide +kernel
theorem dX6_digest_117 : decode cX6_digest 117 = .ok (.iconst 0, 1) := by decide +kernel
theorem dX6_digest_118 : decode cX6_digest 118 = .ok (.istore_n 3, 1) := by decide +kernel
theorem dX6_digest_119 : decode cX6_digest 119 = .ok (.iload_n 3, 1) := by decide +kernel
theorem dX6_digest_120 : decode cX6_digest 120 = .ok (.aload_n 0, 1) := by decide +kernel
theorem dX6_digest_121 : decode cX6_digest 121 = .ok (.getfield 33, 3) := by decide +kernel
theorem dX6_digest_124 : decode cX6_digest 124 = .ok (.invokevirtual 148, 3) := by decide +kernel
theorem dX6_digest_127 : decode cX6_digest 127 = .ok (.if_icmp .ge 22, 3) := by decide +kernel
theorem dX6_digest_130 : decode cX6_digest 130 = .ok (.ldc2_w 160, 3) := by decide +kernel
theorem dX6_digest_133 : decode cX6_digest 133 = .ok (.lload_n 1, 1) := by decide +kernel
theorem dX6_digest_134 : decode cX6_digest 134 = .ok (.lmul, 1) := by decide +kernel
theorem dX6_digest_135 : decode cX6_digest 135 = .ok (.aload_n 0, 1) := by decide +kernel
theorem dX6_digest_136 : decode cX6_digest 136 = .ok (.iload_n 3, 1) := by decide +kernel
theorem dX6_digest_137 : decode cX6_digest 137 = .ok (.invokevirtual 176, 3) := by decide +kernel
theorem dX6_digest_140 : decode cX6_digest 140 = .ok (.i2l, 1) := by decide +kernel
theorem dX6_digest_141 : decode cX6_digest 141 = .ok (.ladd, 1) := by decide +kernel
theorem dX6_digest_142 : decode cX6_digest 142 = .ok (.lstore_n 1, 1) := by decide +kernel
theorem dX6_digest_143 : decode cX6_digest 143 = .ok (.iinc 3 1, 3) := by decide +kernel
theorem dX6_digest_146 : decode cX6_digest 146 = .ok (.goto (-27), 3) := by decide +kernel
theorem dX6_digest_149 : decode cX6_digest 149 = .ok (.iconst 0, 1) := by decide +kernel
theorem dX6_digest_150 : decode cX6_digest 150 = .ok (.istore_n 3, 1) := by decide +kernel
theorem dX6_digest_151 : decode cX6_digest 151 = .ok (.iload_n 3, 1) := by decide +kernel
theorem dX6_digest_152 : decode cX6_digest 152 = .ok (.bipush 18, 2) := by decide +kernel
theorem dX6_digest_154 : decode cX6_digest 154 = .ok (.if_icmp .ge 22, 3) := by decide +kernel
theorem dX6_digest_157 : decode cX6_digest 157 = .ok (.ldc2_w 160, 3) := by decide +kernel
theorem dX6_digest_160 : decode cX6_digest 160 = .ok (.lload_n 1, 1) := by decide +kernel
theorem dX6_digest_161 : decode cX6_digest 161 = .ok (.lmul, 1) := by decide +kernel
theorem dX6_digest_162 : decode cX6_digest 162 = .ok (.aload_n 0, 1) := by decide +kernel
theorem dX6_digest_163 : decode cX6_digest 163 = .ok (.iload_n 3, 1) := by decide +kernel
theorem dX6_digest_164 : decode cX6_digest 164 = .ok (.invokevirtual 179, 3) := by decide +kernel
theorem dX6_digest_167 : decode cX6_digest 167 = .ok (.i2l, 1) := by decide +kernel
theorem dX6_digest_168 : decode cX6_digest 168 = .ok (.ladd, 1) := by decide +kernel
theorem dX6_digest_169 : decode cX6_digest 169 = .ok (.lstore_n 1, 1) := by decide +kernel
theorem dX6_digest_170 : decode cX6_digest 170 = .ok (.iinc 3 1, 3) := by decide +kernel
theorem dX6_digest_173 : decode cX6_digest 173 = .ok (.goto (-22), 3) := by decide +kernel
theorem dX6_digest_176 : decode cX6_digest 176 = .ok (.lload_n 1, 1) := by decide +kernel
theorem dX6_digest_177 : decode cX6_digest 177 = .ok (.lreturn, 1) := by decide +kernel
set_option maxRecDepth 20000 in
theorem ggX6_digestOfTables_X6_table : GoodIn wsX6_digestOfTables wsX6_table := goodIn_r _ [7, 2, 8, 9, 6, 10, 11, 12, 13, 14, 15, 16, 17, 18, 19, 20, 21, 22, 23, 24, 25, 26, 27, 28, 29, 30, 31, 32, 33, 34, 35, 36, 37, 38, 39, 40, 41, 42, 43, 44, 45, 46, 47, 48, 49, 50, 51, 57, 58, 59, 60, 61, 62, 63, 64, 65, 66, 67, 68, 69, 70, 71, 72, 73, 74, 75, 76, 77] (by decide +kernel) (by decide +kernel)
set_option maxRecDepth 20000 in
theorem gX6_digestOfTables_X6_table : GoodIn wsX6_digestOfTables (wsV RX6 182 RX6 yX6_table wsX6_table) := goodIn_app (goodIn_of _ (by decide +kernel)) ggX6_digestOfTables_X6_table
set_option maxRecDepth 20000 in
theorem ggX6_digestOfTables_X1_returns : GoodIn wsX6_digestOfTables wsX1_returns := goodIn_r _ [55, 20, 67, 68, 69, 70, 71, 72, 73, 74] (by decide +kernel) (by decide +kernel)
set_option maxRecDepth 20000 in
theorem gX6_digestOfTables_X1_returns : GoodIn wsX6_digestOfTables (wsV RX6 108 RX1 yX1_returns wsX1_returns) := goodIn_app (goodIn_of _ (by decide +kernel)) ggX6_digestOfTables_X1_returns
set_option maxRecDepth 20000 in
theorem ggX6_digestOfTables_X2_size : GoodIn wsX6_digestOfTables wsX2_size := goodIn_r _ [35, 31, 75, 76] (by decide +kernel) (by decide +kernel)
set_option maxRecDepth 20000 in
theorem gX6_digestOfTables_X2_size : GoodIn wsX6_digestOfTables (wsV RX6 126 RX2 yX2_size wsX2_size) := goodIn_app (goodIn_of _ (by decide +kernel)) ggX6_digestOfTables_X2_size
theorem dX6_digestOfTables_0 : decode cX6_digestOfTables 0 = .ok (.lload_n 1, 1) := by decide +kernel
theorem dX6_digestOfTables_1 : decode cX6_digestOfTables 1 = .ok (.lstore_n 3, 1) := by decide +kernel
theorem dX6_digestOfTables_2 : decode cX6_digestOfTables 2 = .ok (.iconst 0, 1) := by decide +kernel
theorem dX6_digestOfTables_3 : decode cX6_digestOfTables 3 = .ok (.istore 5, 2) := by decide +kernel
theorem dX6_digestOfTables_5 : decode cX6_digestOfTables 5 = .ok (.iload 5, 2) := by decide +kernel
theorem dX6_digestOfTables_7 : decode cX6_digestOfTables 7 = .ok (.iconst 5, 1) := by decide +kernel
theorem dX6_digestOfTables_8 : decode cX6_digestOfTables 8 = .ok (.if_icmp .gt 56, 3) := by decide +kernel
theorem dX6_digestOfTables_11 : decode cX6_digestOfTables 11 = .ok (.iload 5, 2) := by decide +kernel
theorem dX6_digestOfTables_13 : decode cX6_digestOfTables 13 = .ok (.iconst 2, 1) := by decide +kernel
theorem dX6_digestOfTables_14 : decode cX6_digestOfTables 14 = .ok (.if_icmp .gt 8, 3) := by decide +kernel
theorem dX6_digestOfTables_17 : decode cX6_digestOfTables 17 = .ok (.bipush 16, 2) := by decide +kernel
theorem dX6_digestOfTables_19 : decode cX6_digestOfTables 19 = .ok (.goto 5, 3) := by decide +kernel
theorem dX6_digestOfTables_22 : decode cX6_digestOfTables 22 = .ok (.bipush 8, 2) := by decide +kernel
theorem dX6_digestOfTables_24 : decode cX6_digestOfTables 24 = .ok (.istore 6, 2) := by decide +kernel
theorem dX6_digestOfTables_26 : decode cX6_digestOfTables 26 = .ok (.iconst 0, 1) := by decide +kernel
theorem dX6_digestOfTables_27 : decode cX6_digestOfTables 27 = .ok (.istore 7, 2) := by decide +kernel
theorem dX6_digestOfTables_29 : decode cX6_digestOfTables 29 = .ok (.iload 7, 2) := by decide +kernel
theorem dX6_digestOfTables_31 : decode cX6_digestOfTables 31 = .ok (.iload 6, 2) := by decide +kernel
theorem dX6_digestOfTables_33 : decode cX6_digestOfTables 33 = .ok (.if_icmp .ge 25, 3) := by decide +kernel
theorem dX6_digestOfTables_36 : decode cX6_digestOfTables 36 = .ok (.ldc2_w 160, 3) := by decide +kernel
theorem dX6_digestOfTables_39 : decode cX6_digestOfTables 39 = .ok (.lload_n 3, 1) := by decide +kernel
theorem dX6_digestOfTables_40 : decode cX6_digestOfTables 40 = .ok (.lmul, 1) := by decide +kernel
theorem dX6_digestOfTables_41 : decode cX6_digestOfTables 41 = .ok (.aload_n 0, 1) := by decide +kernel
theorem dX6_digestOfTables_42 : decode cX6_digestOfTables 42 = .ok (.iload 5, 2) := by decide +kernel
theorem dX6_digestOfTables_44 : decode cX6_digestOfTables 44 = .ok (.iload 7, 2) := by decide +kernel
theorem dX6_digestOfTables_46 : decode cX6_digestOfTables 46 = .ok (.invokevirtual 182, 3) := by decide +kernel
theorem dX6_digestOfTables_49 : decode cX6_digestOfTables 49 = .ok (.i2l, 1) := by decide +kernel
theorem dX6_digestOfTables_50 : decode cX6_digestOfTables 50 = .ok (.ladd, 1) := by decide +kernel
theorem dX6_digestOfTables_51 : decode cX6_digestOfTables 51 = .ok (.lstore_n 3, 1) := by decide +kernel
theorem dX6_digestOfTables_52 : decode cX6_digestOfTables 52 = .ok (.iinc 7 1, 3) := by decide +kernel
theorem dX6_digestOfTables_55 : decode cX6_digestOfTables 55 = .ok (.goto (-26), 3) := by decide +kernel
theorem dX6_digestOfTables_58 : decode cX6_digestOfTables 58 = .ok (.iinc 5 1, 3) := by decide +kernel
theorem dX6_digestOfTables_61 : decode cX6_digestOfTables 61 = .ok (.goto (-56), 3) := by decide +kernel
theorem dX6_digestOfTables_64 : decode cX6_digestOfTables 64 = .ok (.ldc2_w 160, 3) := by decide +kernel
theorem dX6_digestOfTables_67 : decode cX6_digestOfTables 67 = .ok (.lload_n 3, 1) := by decide +kernel
theorem dX6_digestOfTables_68 : decode cX6_digestOfTables 68 = .ok (.lmul, 1) := by decide +kernel
theorem dX6_digestOfTables_69 : decode cX6_digestOfTables 69 = .ok (.aload_n 0, 1) := by decide +kernel
theorem dX6_digestOfTables_70 : decode cX6_digestOfTables 70 = .ok (.bipush 6, 2) := by decide +kernel
theorem dX6_digestOfTables_72 : decode cX6_digestOfTables 72 = .ok (.iconst 0, 1) := by decide +kernel
theorem dX6_digestOfTables_73 : decode cX6_digestOfTables 73 = .ok (.invokevirtual 182, 3) := by decide +kernel
theorem dX6_digestOfTables_76 : decode cX6_digestOfTables 76 = .ok (.i2l, 1) := by decide +kernel
theorem dX6_digestOfTables_77 : decode cX6_digestOfTables 77 = .ok (.ladd, 1) := by decide +kernel
theorem dX6_digestOfTables_78 : decode cX6_digestOfTables 78 = .ok (.lstore_n 3, 1) := by decide +kernel
theorem dX6_digestOfTables_79 : decode cX6_digestOfTables 79 = .ok (.ldc2_w 160, 3) := by decide +kernel
theorem dX6_digestOfTables_82 : decode cX6_digestOfTables 82 = .ok (.lload_n 3, 1) := by decide +kernel
theorem dX6_digestOfTables_83 : decode cX6_digestOfTables 83 = .ok (.lmul, 1) := by decide +kernel
theorem dX6_digestOfTables_84 : decode cX6_digestOfTables 84 = .ok (.aload_n 0, 1) := by decide +kernel
theorem dX6_digestOfTables_85 : decode cX6_digestOfTables 85 = .ok (.bipush 8, 2) := by decide +kernel
theorem dX6_digestOfTables_87 : decode cX6_digestOfTables 87 = .ok (.iconst 0, 1) := by decide +kernel
theorem dX6_digestOfTables_88 : decode cX6_digestOfTables 88 = .ok (.invokevirtual 182, 3) := by decide +kernel
theorem dX6_digestOfTables_91 : decode cX6_digestOfTables 91 = .ok (.i2l, 1) := by decide +kernel
theorem dX6_digestOfTables_92 : decode cX6_digestOfTables 92 = .ok (.ladd, 1) := by decide +kernel
theorem dX6_digestOfTables_93 : decode cX6_digestOfTables 93 = .ok (.lstore_n 3, 1) := by decide +kernel
theorem dX6_digestOfTables_94 : decode cX6_digestOfTables 94 = .ok (.iconst 0, 1) := by decide +kernel
theorem dX6_digestOfTables_95 : decode cX6_digestOfTables 95 = .ok (.istore 5, 2) := by decide +kernel
theorem dX6_digestOfTables_97 : decode cX6_digestOfTables 97 = .ok (.iload 5, 2) := by decide +kernel
theorem dX6_digestOfTables_99 : decode cX6_digestOfTables 99 = .ok (.aload_n 0, 1) := by decide +kernel
theorem dX6_digestOfTables_100 : decode cX6_digestOfTables 100 = .ok (.getfield 26, 3) := by decide +kernel
theorem dX6_digestOfTables_103 : decode cX6_digestOfTables 103 = .ok (.invokevirtual 108, 3) := by decide +kernel
theorem dX6_digestOfTables_106 : decode cX6_digestOfTables 106 = .ok (.invokevirtual 126, 3) := by decide +kernel
theorem dX6_digestOfTables_109 : decode cX6_digestOfTables 109 = .ok (.if_icmp .ge 25, 3) := by decide +kernel
theorem dX6_digestOfTables_112 : decode cX6_digestOfTables 112 = .ok (.ldc2_w 160, 3) := by decide +kernel
theorem dX6_digestOfTables_115 : decode cX6_digestOfTables 115 = .ok (.lload_n 3, 1) := by decide +kernel
theorem dX6_digestOfTables_116 : decode cX6_digestOfTables 116 = .ok (.lmul, 1) := by decide +kernel
theorem dX6_digestOfTables_117 : decode cX6_digestOfTables 117 = .ok (.aload_n 0, 1) := by decide +kernel
theorem dX6_digestOfTables_118 : decode cX6_digestOfTables 118 = .ok (.bipush 7, 2) := by decide +kernel
theorem dX6_digestOfTables_120 : decode cX6_digestOfTables 120 = .ok (.iload 5, 2) := by decide +kernel
theorem dX6_digestOfTables_122 : decode cX6_digestOfTables 122 = .ok (.invokevirtual 182, 3) := by decide +kernel
theorem dX6_digestOfTables_125 : decode cX6_digestOfTables 125 = .ok (.i2l, 1) := by decide +kernel
theorem dX6_digestOfTables_126 : decode cX6_digestOfTables 126 = .ok (.ladd, 1) := by decide +kernel
theorem dX6_digestOfTables_127 : decode cX6_digestOfTables 127 = .ok (.lstore_n 3, 1) := by decide +kernel
theorem dX6_digestOfTables_128 : decode cX6_digestOfTables 128 = .ok (.iinc 5 1, 3) := by decide +kernel
theorem dX6_digestOfTables_131 : decode cX6_digestOfTables 131 = .ok (.goto (-34), 3) := by decide +kernel
theorem dX6_digestOfTables_134 : decode cX6_digestOfTables 134 = .ok (.lload_n 3, 1) := by decide +kernel
theorem dX6_digestOfTables_135 : decode cX6_digestOfTables 135 = .ok (.lreturn, 1) := by decide +kernel
theorem dX6_isUnderWay_0 : decode cX6_isUnderWay 0 = .ok (.aload_n 0, 1) := by decide +kernel
theorem dX6_isUnderWay_1 : decode cX6_isUnderWay 1 = .ok (.getfield 63, 3) := by decide +kernel
theorem dX6_isUnderWay_4 : decode cX6_isUnderWay 4 = .ok (.ifCond .ne 7, 3) := by decide +kernel
theorem dX6_isUnderWay_7 : decode cX6_isUnderWay 7 = .ok (.iconst 1, 1) := by decide +kernel
theorem dX6_isUnderWay_8 : decode cX6_isUnderWay 8 = .ok (.goto 4, 3) := by decide +kernel
theorem dX6_isUnderWay_11 : decode cX6_isUnderWay 11 = .ok (.iconst 0, 1) := by decide +kernel
theorem dX6_isUnderWay_12 : decode cX6_isUnderWay 12 = .ok (.ireturn, 1) := by decide +kernel
set_option maxRecDepth 20000 in
theorem ggX6_passCycle_X5_add : GoodIn wsX6_passCycle wsX5_add := goodIn_r _ [10, 11, 12, 13, 9, 14, 15, 16, 17, 18, 19, 268] (by decide +kernel) (by decide +kernel)
set_option maxRecDepth 20000 in
theorem gX6_passCycle_X5_add : GoodIn wsX6_passCycle (wsV RX6 100 RX5 yX5_add wsX5_add) := goodIn_app (goodIn_of _ (by decide +kernel)) ggX6_passCycle_X5_add
set_option maxRecDepth 20000 in
theorem ggX6_passCycle_X4_size : GoodIn wsX6_passCycle wsX4_size := goodIn_r _ [24, 25, 269, 270, 271, 272, 273, 274, 275, 276] (by decide +kernel) (by decide +kernel)
set_option maxRecDepth 20000 in
theorem gX6_passCycle_X4_size : GoodIn wsX6_passCycle (wsV RX6 148 RX4 yX4_size wsX4_size) := goodIn_app (goodIn_of _ (by decide +kernel)) ggX6_passCycle_X4_size
set_option maxRecDepth 20000 in
theorem ggX6_passCycle_X3_has : GoodIn wsX6_passCycle wsX3_has := goodIn_r _ [30, 31, 277, 278] (by decide +kernel) (by decide +kernel)
set_option maxRecDepth 20000 in
theorem gX6_passCycle_X3_has : GoodIn wsX6_passCycle (wsV RX6 149 RX3 yX3_has wsX3_has) := goodIn_app (goodIn_of _ (by decide +kernel)) ggX6_passCycle_X3_has
set_option maxRecDepth 20000 in
theorem ggX6_passCycle_X6_endRun : GoodIn wsX6_passCycle wsX6_endRun := goodIn_r _ [36, 37, 38, 39, 40, 35, 41, 1, 2, 20, 21, 22, 23, 24, 25, 6, 7, 8, 9, 10, 11, 12, 13, 14, 15, 16, 17, 18, 19, 42, 43, 44, 45, 258, 259, 260, 261, 262, 263, 264, 265, 266, 267, 269, 270, 271, 272, 273, 274, 275, 276, 268] (by decide +kernel) (by decide +kernel)
set_option maxRecDepth 20000 in
theorem gX6_passCycle_X6_endRun : GoodIn wsX6_passCycle (wsV RX6 119 RX6 yX6_endRun wsX6_endRun) := goodIn_app (goodIn_of _ (by decide +kernel)) ggX6_passCycle_X6_endRun
set_option maxRecDepth 20000 in
theorem ggX6_passCycle_X5_get : GoodIn wsX6_passCycle wsX5_get := goodIn_r _ [14, 15, 268] (by decide +kernel) (by decide +kernel)
set_option maxRecDepth 20000 in
theorem gX6_passCycle_X5_get : GoodIn wsX6_passCycle (wsV RX6 112 RX5 yX5_get wsX5_get) := goodIn_app (goodIn_of _ (by decide +kernel)) ggX6_passCycle_X5_get
set_option maxRecDepth 20000 in
theorem ggX6_passCycle_X4_isEldestOf : GoodIn wsX6_passCycle wsX4_isEldestOf := goodIn_r _ [50, 25, 51, 52, 53, 12, 13, 9, 14, 15, 269, 270, 271, 272, 273, 274, 275, 276, 268] (by decide +kernel) (by decide +kernel)
set_option maxRecDepth 20000 in
theorem gX6_passCycle_X4_isEldestOf : GoodIn wsX6_passCycle (wsV RX6 185 RX4 yX4_isEldestOf wsX4_isEldestOf) := goodIn_app (goodIn_of _ (by decide +kernel)) ggX6_passCycle_X4_isEldestOf
set_option maxRecDepth 20000 in
theorem ggX6_passCycle_X6_finishEldest : GoodIn wsX6_passCycle wsX6_finishEldest := goodIn_r _ [57, 2, 3, 58, 59, 60, 61, 62, 23, 63, 52, 25, 64, 65, 66, 67, 68, 69, 70, 71, 72, 53, 12, 13, 9, 14, 15, 73, 74, 75, 29, 76, 77, 78, 79, 80, 81, 82, 83, 84, 85, 86, 87, 35, 88, 89, 90, 91, 92, 93, 94, 95, 96, 97, 98, 99, 17, 18, 19, 100, 101, 102, 103, 104, 105, 106, 107, 108, 109, 110, 111, 112, 113, 114, 115, 116, 117, 118, 119, 120, 121, 122, 123, 31, 32, 33, 34, 36, 37, 38, 39, 40, 41, 1, 20, 21, 22, 24, 6, 7, 8, 10, 11, 16, 42, 43, 44, 45, 124, 125, 126, 127, 128, 129, 130, 131, 132, 133, 134, 135, 136, 137, 138, 139, 140, 141, 142, 143, 144, 145, 146, 147, 148, 149, 150, 151, 152, 153, 154, 155, 156, 157, 158, 159, 160, 161, 162, 163, 164, 165, 166, 167, 168, 169, 170, 171, 172, 173, 174, 175, 176, 177, 4, 178, 179, 180, 181, 182, 183, 184, 185, 186, 187, 188, 189, 190, 191, 192, 193, 194, 195, 196, 197, 198, 199, 200, 201, 202, 203, 204, 205, 206, 207, 208, 209, 210, 211, 212, 258, 259, 260, 261, 262, 263, 264, 265, 266, 267, 269, 270, 271, 272, 273, 274, 275, 276, 268, 277, 278, 279, 280, 281, 282, 283, 284, 285, 286, 287, 288, 289, 290, 291] (by decide +kernel) (by decide +kernel)
set_option maxRecDepth 20000 in
theorem gX6_passCycle_X6_finishEldest : GoodIn wsX6_passCycle (wsV RX6 188 RX6 yX6_finishEldest wsX6_finishEldest) := goodIn_app (goodIn_of _ (by decide +kernel)) ggX6_passCycle_X6_finishEldest
set_option maxRecDepth 20000 in
theorem ggX6_passCycle_X6_isUnderWay : GoodIn wsX6_passCycle wsX6_isUnderWay := goodIn_r _ [216, 37, 258, 259, 260, 261, 262, 263, 264, 265, 266, 267] (by decide +kernel) (by decide +kernel)
set_option maxRecDepth 20000 in
theorem gX6_passCycle_X6_isUnderWay : GoodIn wsX6_passCycle (wsV RX6 70 RX6 yX6_isUnderWay wsX6_isUnderWay) := goodIn_app (goodIn_of _ (by decide +kernel)) ggX6_passCycle_X6_isUnderWay
set_option maxRecDepth 20000 in
theorem ggX6_passCycle_X6_fetchAtPlace : GoodIn wsX6_passCycle wsX6_fetchAtPlace := goodIn_r _ [220, 2, 4, 1, 59, 221, 46, 12, 13, 9, 14, 15, 222, 223, 224, 23, 225, 52, 25, 226, 158, 66, 159, 72, 51, 227, 17, 18, 19, 228, 229, 230, 142, 231, 182, 183, 184, 185, 186, 187, 232, 233, 234, 235, 138, 192, 193, 236, 237, 238, 103, 239, 105, 240, 113, 114, 115, 106, 116, 117, 118, 119, 241, 242, 243, 244, 166, 153, 6, 7, 8, 10, 11, 16, 245, 246, 247, 248, 168, 167, 249, 132, 35, 133, 250, 251, 252, 253, 144, 145, 146, 150, 151, 152, 147, 148, 149, 203, 204, 205, 206, 212, 108, 109, 110, 111, 65, 67, 112, 207, 208, 209, 210, 211, 101, 102, 104, 254, 255, 256, 257, 173, 258, 259, 260, 261, 262, 263, 264, 265, 266, 267, 268, 269, 270, 271, 272, 273, 274, 275, 276, 284, 285, 286, 287, 288, 289, 290, 291, 282, 283] (by decide +kernel) (by decide +kernel)
set_option maxRecDepth 20000 in
theorem gX6_passCycle_X6_fetchAtPlace : GoodIn wsX6_passCycle (wsV RX6 191 RX6 yX6_fetchAtPlace wsX6_fetchAtPlace) := goodIn_app (goodIn_of _ (by decide +kernel)) ggX6_passCycle_X6_fetchAtPlace
theorem dX6_passCycle_0 : decode cX6_passCycle 0 = .ok (.aload_n 0, 1) := by decide +kernel
theorem dX6_passCycle_1 : decode cX6_passCycle 1 = .ok (.getfield 42, 3) := by decide +kernel
theorem dX6_passCycle_4 : decode cX6_passCycle 4 = .ok (.iconst 0, 1) := by decide +kernel
theorem dX6_passCycle_5 : decode cX6_passCycle 5 = .ok (.iconst 1, 1) := by decide +kernel
theorem dX6_passCycle_6 : decode cX6_passCycle 6 = .ok (.invokevirtual 100, 3) := by decide +kernel
theorem dX6_passCycle_9 : decode cX6_passCycle 9 = .ok (.aload_n 0, 1) := by decide +kernel
theorem dX6_passCycle_10 : decode cX6_passCycle 10 = .ok (.getfield 33, 3) := by decide +kernel
theorem dX6_passCycle_13 : decode cX6_passCycle 13 = .ok (.invokevirtual 148, 3) := by decide +kernel
theorem dX6_passCycle_16 : decode cX6_passCycle 16 = .ok (.ifCond .ne 23, 3) := by decide +kernel
theorem dX6_passCycle_19 : decode cX6_passCycle 19 = .ok (.aload_n 0, 1) := by decide +kernel
theorem dX6_passCycle_20 : decode cX6_passCycle 20 = .ok (.getfield 10, 3) := by decide +kernel
theorem dX6_passCycle_23 : decode cX6_passCycle 23 = .ok (.aload_n 0, 1) := by decide +kernel
theorem dX6_passCycle_24 : decode cX6_passCycle 24 = .ok (.getfield 60, 3) := by decide +kernel
theorem dX6_passCycle_27 : decode cX6_passCycle 27 = .ok (.invokevirtual 149, 3) := by decide +kernel
theorem dX6_passCycle_30 : decode cX6_passCycle 30 = .ok (.ifCond .ne 9, 3) := by decide +kernel
theorem dX6_passCycle_33 : decode cX6_passCycle 33 = .ok (.aload_n 0, 1) := by decide +kernel
theorem dX6_passCycle_34 : decode cX6_passCycle 34 = .ok (.iconst 2, 1) := by decide +kernel
theorem dX6_passCycle_35 : decode cX6_passCycle 35 = .ok (.invokevirtual 119, 3) := by decide +kernel
theorem dX6_passCycle_38 : decode cX6_passCycle 38 = .ok (.return_, 1) := by decide +kernel
theorem dX6_passCycle_39 : decode cX6_passCycle 39 = .ok (.aload_n 0, 1) := by decide +kernel
theorem dX6_passCycle_40 : decode cX6_passCycle 40 = .ok (.getfield 33, 3) := by decide +kernel
theorem dX6_passCycle_43 : decode cX6_passCycle 43 = .ok (.aload_n 0, 1) := by decide +kernel
theorem dX6_passCycle_44 : decode cX6_passCycle 44 = .ok (.getfield 42, 3) := by decide +kernel
theorem dX6_passCycle_47 : decode cX6_passCycle 47 = .ok (.iconst 0, 1) := by decide +kernel
theorem dX6_passCycle_48 : decode cX6_passCycle 48 = .ok (.invokevirtual 112, 3) := by decide +kernel
theorem dX6_passCycle_51 : decode cX6_passCycle 51 = .ok (.aload_n 0, 1) := by decide +kernel
theorem dX6_passCycle_52 : decode cX6_passCycle 52 = .ok (.getfield 57, 3) := by decide +kernel
theorem dX6_passCycle_55 : decode cX6_passCycle 55 = .ok (.isub, 1) := by decide +kernel
theorem dX6_passCycle_56 : decode cX6_passCycle 56 = .ok (.invokevirtual 185, 3) := by decide +kernel
theorem dX6_passCycle_59 : decode cX6_passCycle 59 = .ok (.ifCond .eq 7, 3) := by decide +kernel
theorem dX6_passCycle_62 : decode cX6_passCycle 62 = .ok (.aload_n 0, 1) := by decide +kernel
theorem dX6_passCycle_63 : decode cX6_passCycle 63 = .ok (.invokevirtual 188, 3) := by decide +kernel
theorem dX6_passCycle_66 : decode cX6_passCycle 66 = .ok (.aload_n 0, 1) := by decide +kernel
theorem dX6_passCycle_67 : decode cX6_passCycle 67 = .ok (.invokevirtual 70, 3) := by decide +kernel
theorem dX6_passCycle_70 : decode cX6_passCycle 70 = .ok (.ifCond .eq 21, 3) := by decide +kernel
theorem dX6_passCycle_73 : decode cX6_passCycle 73 = .ok (.aload_n 0, 1) := by decide +kernel
theorem dX6_passCycle_74 : decode cX6_passCycle 74 = .ok (.getfield 10, 3) := by decide +kernel
theorem dX6_passCycle_77 : decode cX6_passCycle 77 = .ok (.aload_n 0, 1) := by decide +kernel
theorem dX6_passCycle_78 : decode cX6_passCycle 78 = .ok (.getfield 60, 3) := by decide +kernel
theorem dX6_passCycle_81 : decode cX6_passCycle 81 = .ok (.invokevirtual 149, 3) := by decide +kernel
theorem dX6_passCycle_84 : decode cX6_passCycle 84 = .ok (.ifCond .eq 7, 3) := by decide +kernel
theorem dX6_passCycle_87 : decode cX6_passCycle 87 = .ok (.aload_n 0, 1) := by decide +kernel
theorem dX6_passCycle_88 : decode cX6_passCycle 88 = .ok (.invokevirtual 191, 3) := by decide +kernel
theorem dX6_passCycle_91 : decode cX6_passCycle 91 = .ok (.return_, 1) := by decide +kernel
set_option maxRecDepth 20000 in
theorem ggX6_fetchAtPlace_X5_get : GoodIn wsX6_fetchAtPlace wsX5_get := goodIn_r _ [10, 11, 132] (by decide +kernel) (by decide +kernel)
set_option maxRecDepth 20000 in
theorem gX6_fetchAtPlace_X5_get : GoodIn wsX6_fetchAtPlace (wsV RX6 112 RX5 yX5_get wsX5_get) := goodIn_app (goodIn_of _ (by decide +kernel)) ggX6_fetchAtPlace_X5_get
set_option maxRecDepth 20000 in
theorem ggX6_fetchAtPlace_X4_add : GoodIn wsX6_fetchAtPlace wsX4_add := goodIn_r _ [16, 17, 18, 19, 20, 21, 22, 23, 24, 25, 26, 27, 9, 28, 11, 133, 134, 135, 136, 137, 138, 139, 140, 132] (by decide +kernel) (by decide +kernel)
set_option maxRecDepth 20000 in
theorem gX6_fetchAtPlace_X4_add : GoodIn wsX6_fetchAtPlace (wsV RX6 194 RX4 yX4_add wsX4_add) := goodIn_app (goodIn_of _ (by decide +kernel)) ggX6_fetchAtPlace_X4_add
set_option maxRecDepth 20000 in
theorem ggX6_fetchAtPlace_X1_history : GoodIn wsX6_fetchAtPlace wsX1_history := goodIn_r _ [33, 34, 141, 142, 143, 144, 145, 146, 147, 148] (by decide +kernel) (by decide +kernel)
set_option maxRecDepth 20000 in
theorem gX6_fetchAtPlace_X1_history : GoodIn wsX6_fetchAtPlace (wsV RX6 196 RX1 yX1_history wsX1_history) := goodIn_app (goodIn_of _ (by decide +kernel)) ggX6_fetchAtPlace_X1_history
set_option maxRecDepth 20000 in
theorem ggX6_fetchAtPlace_X1_returns : GoodIn wsX6_fetchAtPlace wsX1_returns := goodIn_r _ [38, 39, 141, 142, 143, 144, 145, 146, 147, 148] (by decide +kernel) (by decide +kernel)
set_option maxRecDepth 20000 in
theorem gX6_fetchAtPlace_X1_returns : GoodIn wsX6_fetchAtPlace (wsV RX6 108 RX1 yX1_returns wsX1_returns) := goodIn_app (goodIn_of _ (by decide +kernel)) ggX6_fetchAtPlace_X1_returns
set_option maxRecDepth 20000 in
theorem ggX6_fetchAtPlace_X4_keep : GoodIn wsX6_fetchAtPlace wsX4_keep := goodIn_r _ [43, 44, 45, 46, 25, 26, 27, 9, 28, 11, 47, 48, 49, 50, 51, 52, 53, 54, 55, 56, 57, 58, 59, 60, 61, 133, 134, 135, 136, 137, 138, 139, 140, 132, 149, 150] (by decide +kernel) (by decide +kernel)
set_option maxRecDepth 20000 in
theorem gX6_fetchAtPlace_X4_keep : GoodIn wsX6_fetchAtPlace (wsV RX6 199 RX4 yX4_keep wsX4_keep) := goodIn_app (goodIn_of _ (by decide +kernel)) ggX6_fetchAtPlace_X4_keep
set_option maxRecDepth 20000 in
theorem ggX6_fetchAtPlace_X1_isInTargets : GoodIn wsX6_fetchAtPlace wsX1_isInTargets := goodIn_r _ [65, 66, 67, 7, 8, 9, 10, 11, 141, 142, 143, 144, 145, 146, 147, 148, 132] (by decide +kernel) (by decide +kernel)
set_option maxRecDepth 20000 in
theorem gX6_fetchAtPlace_X1_isInTargets : GoodIn wsX6_fetchAtPlace (wsV RX6 203 RX1 yX1_isInTargets wsX1_isInTargets) := goodIn_app (goodIn_of _ (by decide +kernel)) ggX6_fetchAtPlace_X1_isInTargets
set_option maxRecDepth 20000 in
theorem ggX6_fetchAtPlace_X5_add : GoodIn wsX6_fetchAtPlace wsX5_add := goodIn_r _ [71, 72, 7, 8, 9, 10, 11, 73, 26, 27, 28, 132] (by decide +kernel) (by decide +kernel)
set_option maxRecDepth 20000 in
theorem gX6_fetchAtPlace_X5_add : GoodIn wsX6_fetchAtPlace (wsV RX6 100 RX5 yX5_add wsX5_add) := goodIn_app (goodIn_of _ (by decide +kernel)) ggX6_fetchAtPlace_X5_add
set_option maxRecDepth 20000 in
theorem ggX6_fetchAtPlace_X1_guess : GoodIn wsX6_fetchAtPlace wsX1_guess := goodIn_r _ [77, 78, 79, 39, 80, 63, 64, 32, 65, 66, 67, 7, 8, 9, 10, 11, 81, 82, 83, 84, 85, 86, 87, 88, 89, 34, 90, 91, 92, 93, 94, 95, 96, 97, 98, 99, 100, 101, 102, 103, 50, 104, 52, 105, 106, 21, 107, 108, 54, 55, 56, 57, 58, 59, 60, 61, 109, 110, 111, 112, 113, 114, 115, 116, 141, 142, 143, 144, 145, 146, 147, 148, 132, 149, 150] (by decide +kernel) (by decide +kernel)
set_option maxRecDepth 20000 in
theorem gX6_fetchAtPlace_X1_guess : GoodIn wsX6_fetchAtPlace (wsV RX6 206 RX1 yX1_guess wsX1_guess) := goodIn_app (goodIn_of _ (by decide +kernel)) ggX6_fetchAtPlace_X1_guess
set_option maxRecDepth 20000 in
theorem ggX6_fetchAtPlace_X4_setGuess : GoodIn wsX6_fetchAtPlace wsX4_setGuess := goodIn_r _ [120, 121, 25, 26, 27, 9, 28, 11, 133, 134, 135, 136, 137, 138, 139, 140, 132] (by decide +kernel) (by decide +kernel)
set_option maxRecDepth 20000 in
theorem gX6_fetchAtPlace_X4_setGuess : GoodIn wsX6_fetchAtPlace (wsV RX6 209 RX4 yX4_setGuess wsX4_setGuess) := goodIn_app (goodIn_of _ (by decide +kernel)) ggX6_fetchAtPlace_X4_setGuess
theorem dX6_fetchAtPlace_0 : decode cX6_fetchAtPlace 0 = .ok (.aload_n 0, 1) := by decide +kernel
theorem dX6_fetchAtPlace_1 : decode cX6_fetchAtPlace 1 = .ok (.getfield 33, 3) := by decide +kernel
theorem dX6_fetchAtPlace_4 : decode cX6_fetchAtPlace 4 = .ok (.aload_n 0, 1) := by decide +kernel
theorem dX6_fetchAtPlace_5 : decode cX6_fetchAtPlace 5 = .ok (.getfield 60, 3) := by decide +kernel
theorem dX6_fetchAtPlace_8 : decode cX6_fetchAtPlace 8 = .ok (.aload_n 0, 1) := by decide +kernel
theorem dX6_fetchAtPlace_9 : decode cX6_fetchAtPlace 9 = .ok (.getfield 42, 3) := by decide +kernel
theorem dX6_fetchAtPlace_12 : decode cX6_fetchAtPlace 12 = .ok (.iconst 0, 1) := by decide +kernel
theorem dX6_fetchAtPlace_13 : decode cX6_fetchAtPlace 13 = .ok (.invokevirtual 112, 3) := by decide +kernel
theorem dX6_fetchAtPlace_16 : decode cX6_fetchAtPlace 16 = .ok (.invokevirtual 194, 3) := by decide +kernel
theorem dX6_fetchAtPlace_19 : decode cX6_fetchAtPlace 19 = .ok (.istore_n 1, 1) := by decide +kernel
theorem dX6_fetchAtPlace_20 : decode cX6_fetchAtPlace 20 = .ok (.aload_n 0, 1) := by decide +kernel
theorem dX6_fetchAtPlace_21 : decode cX6_fetchAtPlace 21 = .ok (.getfield 33, 3) := by decide +kernel
theorem dX6_fetchAtPlace_24 : decode cX6_fetchAtPlace 24 = .ok (.iload_n 1, 1) := by decide +kernel
theorem dX6_fetchAtPlace_25 : decode cX6_fetchAtPlace 25 = .ok (.aload_n 0, 1) := by decide +kernel
theorem dX6_fetchAtPlace_26 : decode cX6_fetchAtPlace 26 = .ok (.getfield 26, 3) := by decide +kernel
theorem dX6_fetchAtPlace_29 : decode cX6_fetchAtPlace 29 = .ok (.invokevirtual 196, 3) := by decide +kernel
theorem dX6_fetchAtPlace_32 : decode cX6_fetchAtPlace 32 = .ok (.aload_n 0, 1) := by decide +kernel
theorem dX6_fetchAtPlace_33 : decode cX6_fetchAtPlace 33 = .ok (.getfield 26, 3) := by decide +kernel
theorem dX6_fetchAtPlace_36 : decode cX6_fetchAtPlace 36 = .ok (.invokevirtual 108, 3) := by decide +kernel
theorem dX6_fetchAtPlace_39 : decode cX6_fetchAtPlace 39 = .ok (.invokevirtual 199, 3) := by decide +kernel
theorem dX6_fetchAtPlace_42 : decode cX6_fetchAtPlace 42 = .ok (.aload_n 0, 1) := by decide +kernel
theorem dX6_fetchAtPlace_43 : decode cX6_fetchAtPlace 43 = .ok (.getfield 26, 3) := by decide +kernel
theorem dX6_fetchAtPlace_46 : decode cX6_fetchAtPlace 46 = .ok (.aload_n 0, 1) := by decide +kernel
theorem dX6_fetchAtPlace_47 : decode cX6_fetchAtPlace 47 = .ok (.getfield 60, 3) := by decide +kernel
theorem dX6_fetchAtPlace_50 : decode cX6_fetchAtPlace 50 = .ok (.invokevirtual 203, 3) := by decide +kernel
theorem dX6_fetchAtPlace_53 : decode cX6_fetchAtPlace 53 = .ok (.ifCond .eq 13, 3) := by decide +kernel
theorem dX6_fetchAtPlace_56 : decode cX6_fetchAtPlace 56 = .ok (.aload_n 0, 1) := by decide +kernel
theorem dX6_fetchAtPlace_57 : decode cX6_fetchAtPlace 57 = .ok (.getfield 42, 3) := by decide +kernel
theorem dX6_fetchAtPlace_60 : decode cX6_fetchAtPlace 60 = .ok (.bipush 8, 2) := by decide +kernel
theorem dX6_fetchAtPlace_62 : decode cX6_fetchAtPlace 62 = .ok (.iconst 1, 1) := by decide +kernel
theorem dX6_fetchAtPlace_63 : decode cX6_fetchAtPlace 63 = .ok (.invokevirtual 100, 3) := by decide +kernel
theorem dX6_fetchAtPlace_66 : decode cX6_fetchAtPlace 66 = .ok (.aload_n 0, 1) := by decide +kernel
theorem dX6_fetchAtPlace_67 : decode cX6_fetchAtPlace 67 = .ok (.aload_n 0, 1) := by decide +kernel
theorem dX6_fetchAtPlace_68 : decode cX6_fetchAtPlace 68 = .ok (.getfield 26, 3) := by decide +kernel
theorem dX6_fetchAtPlace_71 : decode cX6_fetchAtPlace 71 = .ok (.aload_n 0, 1) := by decide +kernel
theorem dX6_fetchAtPlace_72 : decode cX6_fetchAtPlace 72 = .ok (.getfield 60, 3) := by decide +kernel
theorem dX6_fetchAtPlace_75 : decode cX6_fetchAtPlace 75 = .ok (.aload_n 0, 1) := by decide +kernel
theorem dX6_fetchAtPlace_76 : decode cX6_fetchAtPlace 76 = .ok (.getfield 53, 3) := by decide +kernel
theorem dX6_fetchAtPlace_79 : decode cX6_fetchAtPlace 79 = .ok (.invokevirtual 206, 3) := by decide +kernel
theorem dX6_fetchAtPlace_82 : decode cX6_fetchAtPlace 82 = .ok (.putfield 60, 3) := by decide +kernel
theorem dX6_fetchAtPlace_85 : decode cX6_fetchAtPlace 85 = .ok (.aload_n 0, 1) := by decide +kernel
theorem dX6_fetchAtPlace_86 : decode cX6_fetchAtPlace 86 = .ok (.getfield 33, 3) := by decide +kernel
theorem dX6_fetchAtPlace_89 : decode cX6_fetchAtPlace 89 = .ok (.iload_n 1, 1) := by decide +kernel
theorem dX6_fetchAtPlace_90 : decode cX6_fetchAtPlace 90 = .ok (.aload_n 0, 1) := by decide +kernel
theorem dX6_fetchAtPlace_91 : decode cX6_fetchAtPlace 91 = .ok (.getfield 60, 3) := by decide +kernel
theorem dX6_fetchAtPlace_94 : decode cX6_fetchAtPlace 94 = .ok (.invokevirtual 209, 3) := by decide +kernel
theorem dX6_fetchAtPlace_97 : decode cX6_fetchAtPlace 97 = .ok (.return_, 1) := by decide +kernel
set_option maxRecDepth 20000 in
theorem ggX6_finishEldest_X4_takeEldest : GoodIn wsX6_finishEldest wsX4_takeEldest := goodIn_r _ [9, 10, 11, 12, 13, 14, 15, 208, 209, 210, 211, 212, 213, 214, 215] (by decide +kernel) (by decide +kernel)
set_option maxRecDepth 20000 in
theorem gX6_finishEldest_X4_takeEldest : GoodIn wsX6_finishEldest (wsV RX6 212 RX4 yX4_takeEldest wsX4_takeEldest) := goodIn_app (goodIn_of _ (by decide +kernel)) ggX6_finishEldest_X4_takeEldest
set_option maxRecDepth 20000 in
theorem ggX6_finishEldest_X4_addressOf : GoodIn wsX6_finishEldest wsX4_addressOf := goodIn_r _ [19, 20, 21, 22, 23, 24, 25, 26, 208, 209, 210, 211, 212, 213, 214, 215, 216] (by decide +kernel) (by decide +kernel)
set_option maxRecDepth 20000 in
theorem gX6_finishEldest_X4_addressOf : GoodIn wsX6_finishEldest (wsV RX6 215 RX4 yX4_addressOf wsX4_addressOf) := goodIn_app (goodIn_of _ (by decide +kernel)) ggX6_finishEldest_X4_addressOf
set_option maxRecDepth 20000 in
theorem ggX6_finishEldest_X3_part : GoodIn wsX6_finishEldest wsX3_part := goodIn_r _ [31, 32, 33, 22, 23, 24, 25, 26, 217, 218, 216] (by decide +kernel) (by decide +kernel)
set_option maxRecDepth 20000 in
theorem gX6_finishEldest_X3_part : GoodIn wsX6_finishEldest (wsV RX6 152 RX3 yX3_part wsX3_part) := goodIn_app (goodIn_of _ (by decide +kernel)) ggX6_finishEldest_X3_part
set_option maxRecDepth 20000 in
theorem ggX6_finishEldest_X0_turns : GoodIn wsX6_finishEldest wsX0_turns := goodIn_r _ [38, 39, 40, 28, 29, 30, 31, 32, 33, 22, 23, 24, 25, 26, 41, 42, 43, 44, 45, 46, 47, 219, 220, 221, 217, 218, 216] (by decide +kernel) (by decide +kernel)
set_option maxRecDepth 20000 in
theorem gX6_finishEldest_X0_turns : GoodIn wsX6_finishEldest (wsV RX6 218 RX0 yX0_turns wsX0_turns) := goodIn_app (goodIn_of _ (by decide +kernel)) ggX6_finishEldest_X0_turns
set_option maxRecDepth 20000 in
theorem ggX6_finishEldest_X0_perform : GoodIn wsX6_finishEldest wsX0_perform := goodIn_r _ [51, 39, 52, 53, 54, 40, 28, 29, 30, 31, 32, 33, 22, 23, 24, 25, 26, 41, 55, 56, 57, 58, 59, 60, 61, 62, 63, 64, 65, 66, 67, 68, 69, 70, 13, 14, 15, 71, 72, 73, 74, 75, 76, 77, 78, 79, 80, 81, 82, 83, 219, 220, 221, 217, 218, 216, 222, 223] (by decide +kernel) (by decide +kernel)
set_option maxRecDepth 20000 in
theorem gX6_finishEldest_X0_perform : GoodIn wsX6_finishEldest (wsV RX6 222 RX0 yX0_perform wsX0_perform) := goodIn_app (goodIn_of _ (by decide +kernel)) ggX6_finishEldest_X0_perform
set_option maxRecDepth 20000 in
theorem ggX6_finishEldest_X6_endRun : GoodIn wsX6_finishEldest wsX6_endRun := goodIn_r _ [87, 88, 89, 90, 91, 43, 92, 93, 1, 94, 95, 96, 8, 97, 11, 98, 99, 100, 24, 101, 102, 22, 23, 25, 26, 103, 56, 57, 58, 104, 105, 106, 107, 198, 199, 200, 201, 202, 203, 204, 205, 206, 207, 208, 209, 210, 211, 212, 213, 214, 215, 216] (by decide +kernel) (by decide +kernel)
set_option maxRecDepth 20000 in
theorem gX6_finishEldest_X6_endRun : GoodIn wsX6_finishEldest (wsV RX6 119 RX6 yX6_endRun wsX6_endRun) := goodIn_app (goodIn_of _ (by decide +kernel)) ggX6_finishEldest_X6_endRun
set_option maxRecDepth 20000 in
theorem ggX6_finishEldest_X6_noteDone : GoodIn wsX6_finishEldest wsX6_noteDone := goodIn_r _ [111, 93, 112, 98, 99, 100, 24, 101, 102, 22, 23, 25, 26, 103, 56, 57, 58, 113, 60, 61, 62, 63, 64, 65, 114, 42, 43, 44, 45, 46, 47, 115, 116, 117, 198, 199, 200, 201, 202, 203, 204, 205, 206, 207, 216, 222, 223] (by decide +kernel) (by decide +kernel)
set_option maxRecDepth 20000 in
theorem gX6_finishEldest_X6_noteDone : GoodIn wsX6_finishEldest (wsV RX6 226 RX6 yX6_noteDone wsX6_noteDone) := goodIn_app (goodIn_of _ (by decide +kernel)) ggX6_finishEldest_X6_noteDone
set_option maxRecDepth 20000 in
theorem ggX6_finishEldest_X6_isBranch : GoodIn wsX6_finishEldest wsX6_isBranch := goodIn_r _ [117] (by decide +kernel) (by decide +kernel)
set_option maxRecDepth 20000 in
theorem gX6_finishEldest_X6_isBranch : GoodIn wsX6_finishEldest (va_wsS RX6 229 yX6_isBranch wsX6_isBranch) := goodIn_app (goodIn_of _ (by decide +kernel)) ggX6_finishEldest_X6_isBranch
set_option maxRecDepth 20000 in
theorem ggX6_finishEldest_X4_historyOf : GoodIn wsX6_finishEldest wsX4_historyOf := goodIn_r _ [121, 122, 21, 22, 23, 24, 25, 26, 208, 209, 210, 211, 212, 213, 214, 215, 216] (by decide +kernel) (by decide +kernel)
set_option maxRecDepth 20000 in
theorem gX6_finishEldest_X4_historyOf : GoodIn wsX6_finishEldest (wsV RX6 232 RX4 yX4_historyOf wsX4_historyOf) := goodIn_app (goodIn_of _ (by decide +kernel)) ggX6_finishEldest_X4_historyOf
set_option maxRecDepth 20000 in
theorem ggX6_finishEldest_X1_learn : GoodIn wsX6_finishEldest wsX1_learn := goodIn_r _ [127, 128, 129, 130, 131, 132, 126, 133, 134, 135, 136, 137, 22, 23, 24, 25, 26, 138, 139, 140, 141, 142, 14, 143, 144, 13, 15, 145, 56, 57, 58, 224, 225, 226, 227, 228, 229, 230, 231, 216] (by decide +kernel) (by decide +kernel)
set_option maxRecDepth 20000 in
theorem gX6_finishEldest_X1_learn : GoodIn wsX6_finishEldest (wsV RX6 235 RX1 yX1_learn wsX1_learn) := goodIn_app (goodIn_of _ (by decide +kernel)) ggX6_finishEldest_X1_learn
set_option maxRecDepth 20000 in
theorem ggX6_finishEldest_X1_noteTarget : GoodIn wsX6_finishEldest wsX1_noteTarget := goodIn_r _ [149, 150, 151, 152, 145, 56, 57, 24, 58, 26, 224, 225, 226, 227, 228, 229, 230, 231, 216] (by decide +kernel) (by decide +kernel)
set_option maxRecDepth 20000 in
theorem gX6_finishEldest_X1_noteTarget : GoodIn wsX6_finishEldest (wsV RX6 239 RX1 yX1_noteTarget wsX1_noteTarget) := goodIn_app (goodIn_of _ (by decide +kernel)) ggX6_finishEldest_X1_noteTarget
set_option maxRecDepth 20000 in
theorem ggX6_finishEldest_X4_guessOf : GoodIn wsX6_finishEldest wsX4_guessOf := goodIn_r _ [156, 157, 21, 22, 23, 24, 25, 26, 208, 209, 210, 211, 212, 213, 214, 215, 216] (by decide +kernel) (by decide +kernel)
set_option maxRecDepth 20000 in
theorem gX6_finishEldest_X4_guessOf : GoodIn wsX6_finishEldest (wsV RX6 243 RX4 yX4_guessOf wsX4_guessOf) := goodIn_app (goodIn_of _ (by decide +kernel)) ggX6_finishEldest_X4_guessOf
set_option maxRecDepth 20000 in
theorem ggX6_finishEldest_X6_goBack : GoodIn wsX6_finishEldest wsX6_goBack := goodIn_r _ [161, 93, 162, 4, 1, 98, 99, 100, 24, 101, 102, 22, 23, 25, 26, 103, 56, 57, 58, 115, 116, 43, 117, 89, 90, 91, 92, 94, 95, 96, 8, 97, 11, 104, 105, 106, 107, 118, 119, 120, 121, 122, 21, 163, 164, 165, 126, 166, 167, 168, 169, 170, 171, 172, 173, 174, 175, 176, 177, 178, 179, 180, 181, 62, 182, 64, 183, 60, 61, 63, 65, 16, 17, 18, 19, 20, 184, 185, 186, 187, 188, 189, 190, 191, 192, 193, 194, 195, 70, 13, 14, 15, 196, 197, 67, 68, 69, 71, 72, 73, 74, 75, 76, 77, 78, 198, 199, 200, 201, 202, 203, 204, 205, 206, 207, 216, 208, 209, 210, 211, 212, 213, 214, 215, 224, 225, 226, 227, 228, 229, 230, 231, 222, 223] (by decide +kernel) (by decide +kernel)
set_option maxRecDepth 20000 in
theorem gX6_finishEldest_X6_goBack : GoodIn wsX6_finishEldest (wsV RX6 246 RX6 yX6_goBack wsX6_goBack) := goodIn_app (goodIn_of _ (by decide +kernel)) ggX6_finishEldest_X6_goBack
theorem dX6_finishEldest_0 : decode cX6_finishEldest 0 = .ok (.aload_n 0, 1) := by decide +kernel
theorem dX6_finishEldest_1 : decode cX6_finishEldest 1 = .ok (.getfield 33, 3) := by decide +kernel
theorem dX6_finishEldest_4 : decode cX6_finishEldest 4 = .ok (.invokevirtual 212, 3) := by decide +kernel
theorem dX6_finishEldest_7 : decode cX6_finishEldest 7 = .ok (.istore_n 1, 1) := by decide +kernel
theorem dX6_finishEldest_8 : decode cX6_finishEldest 8 = .ok (.aload_n 0, 1) := by decide +kernel
theorem dX6_finishEldest_9 : decode cX6_finishEldest 9 = .ok (.getfield 33, 3) := by decide +kernel
theorem dX6_finishEldest_12 : decode cX6_finishEldest 12 = .ok (.iload_n 1, 1) := by decide +kernel
theorem dX6_finishEldest_13 : decode cX6_finishEldest 13 = .ok (.invokevirtual 215, 3) := by decide +kernel
theorem dX6_finishEldest_16 : decode cX6_finishEldest 16 = .ok (.istore_n 2, 1) := by decide +kernel
theorem dX6_finishEldest_17 : decode cX6_finishEldest 17 = .ok (.aload_n 0, 1) := by decide +kernel
theorem dX6_finishEldest_18 : decode cX6_finishEldest 18 = .ok (.getfield 10, 3) := by decide +kernel
theorem dX6_finishEldest_21 : decode cX6_finishEldest 21 = .ok (.iload_n 2, 1) := by decide +kernel
theorem dX6_finishEldest_22 : decode cX6_finishEldest 22 = .ok (.iconst 0, 1) := by decide +kernel
theorem dX6_finishEldest_23 : decode cX6_finishEldest 23 = .ok (.invokevirtual 152, 3) := by decide +kernel
theorem dX6_finishEldest_26 : decode cX6_finishEldest 26 = .ok (.istore_n 3, 1) := by decide +kernel
theorem dX6_finishEldest_27 : decode cX6_finishEldest 27 = .ok (.aload_n 0, 1) := by decide +kernel
theorem dX6_finishEldest_28 : decode cX6_finishEldest 28 = .ok (.getfield 19, 3) := by decide +kernel
theorem dX6_finishEldest_31 : decode cX6_finishEldest 31 = .ok (.aload_n 0, 1) := by decide +kernel
theorem dX6_finishEldest_32 : decode cX6_finishEldest 32 = .ok (.getfield 10, 3) := by decide +kernel
theorem dX6_finishEldest_35 : decode cX6_finishEldest 35 = .ok (.iload_n 2, 1) := by decide +kernel
theorem dX6_finishEldest_36 : decode cX6_finishEldest 36 = .ok (.invokevirtual 218, 3) := by decide +kernel
theorem dX6_finishEldest_39 : decode cX6_finishEldest 39 = .ok (.istore 4, 2) := by decide +kernel
theorem dX6_finishEldest_41 : decode cX6_finishEldest 41 = .ok (.iload_n 3, 1) := by decide +kernel
theorem dX6_finishEldest_42 : decode cX6_finishEldest 42 = .ok (.bipush 11, 2) := by decide +kernel
theorem dX6_finishEldest_44 : decode cX6_finishEldest 44 = .ok (.if_icmp .ne 7, 3) := by decide +kernel
theorem dX6_finishEldest_47 : decode cX6_finishEldest 47 = .ok (.iconst (-1), 1) := by decide +kernel
theorem dX6_finishEldest_48 : decode cX6_finishEldest 48 = .ok (.goto 15, 3) := by decide +kernel
theorem dX6_finishEldest_51 : decode cX6_finishEldest 51 = .ok (.aload_n 0, 1) := by decide +kernel
theorem dX6_finishEldest_52 : decode cX6_finishEldest 52 = .ok (.getfield 19, 3) := by decide +kernel
theorem dX6_finishEldest_55 : decode cX6_finishEldest 55 = .ok (.aload_n 0, 1) := by decide +kernel
theorem dX6_finishEldest_56 : decode cX6_finishEldest 56 = .ok (.getfield 10, 3) := by decide +kernel
theorem dX6_finishEldest_59 : decode cX6_finishEldest 59 = .ok (.iload_n 2, 1) := by decide +kernel
theorem dX6_finishEldest_60 : decode cX6_finishEldest 60 = .ok (.invokevirtual 222, 3) := by decide +kernel
theorem dX6_finishEldest_63 : decode cX6_finishEldest 63 = .ok (.istore 5, 2) := by decide +kernel
theorem dX6_finishEldest_65 : decode cX6_finishEldest 65 = .ok (.iload 5, 2) := by decide +kernel
theorem dX6_finishEldest_67 : decode cX6_finishEldest 67 = .ok (.iconst (-1), 1) := by decide +kernel
theorem dX6_finishEldest_68 : decode cX6_finishEldest 68 = .ok (.if_icmp .ne 15, 3) := by decide +kernel
theorem dX6_finishEldest_71 : decode cX6_finishEldest 71 = .ok (.iload_n 3, 1) := by decide +kernel
theorem dX6_finishEldest_72 : decode cX6_finishEldest 72 = .ok (.bipush 11, 2) := by decide +kernel
theorem dX6_finishEldest_74 : decode cX6_finishEldest 74 = .ok (.if_icmp .eq 9, 3) := by decide +kernel
theorem dX6_finishEldest_77 : decode cX6_finishEldest 77 = .ok (.aload_n 0, 1) := by decide +kernel
theorem dX6_finishEldest_78 : decode cX6_finishEldest 78 = .ok (.iconst 2, 1) := by decide +kernel
theorem dX6_finishEldest_79 : decode cX6_finishEldest 79 = .ok (.invokevirtual 119, 3) := by decide +kernel
theorem dX6_finishEldest_82 : decode cX6_finishEldest 82 = .ok (.return_, 1) := by decide +kernel
theorem dX6_finishEldest_83 : decode cX6_finishEldest 83 = .ok (.aload_n 0, 1) := by decide +kernel
theorem dX6_finishEldest_84 : decode cX6_finishEldest 84 = .ok (.iload_n 2, 1) := by decide +kernel
theorem dX6_finishEldest_85 : decode cX6_finishEldest 85 = .ok (.iload_n 3, 1) := by decide +kernel
theorem dX6_finishEldest_86 : decode cX6_finishEldest 86 = .ok (.invokevirtual 226, 3) := by decide +kernel
theorem dX6_finishEldest_89 : decode cX6_finishEldest 89 = .ok (.iload_n 3, 1) := by decide +kernel
theorem dX6_finishEldest_90 : decode cX6_finishEldest 90 = .ok (.bipush 11, 2) := by decide +kernel
theorem dX6_finishEldest_92 : decode cX6_finishEldest 92 = .ok (.if_icmp .ne 9, 3) := by decide +kernel
theorem dX6_finishEldest_95 : decode cX6_finishEldest 95 = .ok (.aload_n 0, 1) := by decide +kernel
theorem dX6_finishEldest_96 : decode cX6_finishEldest 96 = .ok (.iconst 1, 1) := by decide +kernel
theorem dX6_finishEldest_97 : decode cX6_finishEldest 97 = .ok (.invokevirtual 119, 3) := by decide +kernel
theorem dX6_finishEldest_100 : decode cX6_finishEldest 100 = .ok (.return_, 1) := by decide +kernel
theorem dX6_finishEldest_101 : decode cX6_finishEldest 101 = .ok (.iload_n 3, 1) := by decide +kernel
theorem dX6_finishEldest_102 : decode cX6_finishEldest 102 = .ok (.invokestatic 229, 3) := by decide +kernel
theorem dX6_finishEldest_105 : decode cX6_finishEldest 105 = .ok (.ifCond .eq 21, 3) := by decide +kernel
theorem dX6_finishEldest_108 : decode cX6_finishEldest 108 = .ok (.aload_n 0, 1) := by decide +kernel
theorem dX6_finishEldest_109 : decode cX6_finishEldest 109 = .ok (.getfield 26, 3) := by decide +kernel
theorem dX6_finishEldest_112 : decode cX6_finishEldest 112 = .ok (.iload_n 2, 1) := by decide +kernel
theorem dX6_finishEldest_113 : decode cX6_finishEldest 113 = .ok (.aload_n 0, 1) := by decide +kernel
theorem dX6_finishEldest_114 : decode cX6_finishEldest 114 = .ok (.getfield 33, 3) := by decide +kernel
theorem dX6_finishEldest_117 : decode cX6_finishEldest 117 = .ok (.iload_n 1, 1) := by decide +kernel
theorem dX6_finishEldest_118 : decode cX6_finishEldest 118 = .ok (.invokevirtual 232, 3) := by decide +kernel
theorem dX6_finishEldest_121 : decode cX6_finishEldest 121 = .ok (.iload 4, 2) := by decide +kernel
theorem dX6_finishEldest_123 : decode cX6_finishEldest 123 = .ok (.invokevirtual 235, 3) := by decide +kernel
theorem dX6_finishEldest_126 : decode cX6_finishEldest 126 = .ok (.iload 4, 2) := by decide +kernel
theorem dX6_finishEldest_128 : decode cX6_finishEldest 128 = .ok (.ifCond .eq 14, 3) := by decide +kernel
theorem dX6_finishEldest_131 : decode cX6_finishEldest 131 = .ok (.aload_n 0, 1) := by decide +kernel
theorem dX6_finishEldest_132 : decode cX6_finishEldest 132 = .ok (.getfield 26, 3) := by decide +kernel
theorem dX6_finishEldest_135 : decode cX6_finishEldest 135 = .ok (.iload_n 2, 1) := by decide +kernel
theorem dX6_finishEldest_136 : decode cX6_finishEldest 136 = .ok (.iload_n 3, 1) := by decide +kernel
theorem dX6_finishEldest_137 : decode cX6_finishEldest 137 = .ok (.iload 5, 2) := by decide +kernel
theorem dX6_finishEldest_139 : decode cX6_finishEldest 139 = .ok (.invokevirtual 239, 3) := by decide +kernel
theorem dX6_finishEldest_142 : decode cX6_finishEldest 142 = .ok (.iload 5, 2) := by decide +kernel
theorem dX6_finishEldest_144 : decode cX6_finishEldest 144 = .ok (.aload_n 0, 1) := by decide +kernel
theorem dX6_finishEldest_145 : decode cX6_finishEldest 145 = .ok (.getfield 33, 3) := by decide +kernel
theorem dX6_finishEldest_148 : decode cX6_finishEldest 148 = .ok (.iload_n 1, 1) := by decide +kernel
theorem dX6_finishEldest_149 : decode cX6_finishEldest 149 = .ok (.invokevirtual 243, 3) := by decide +kernel
theorem dX6_finishEldest_152 : decode cX6_finishEldest 152 = .ok (.if_icmp .eq 13, 3) := by decide +kernel
theorem dX6_finishEldest_155 : decode cX6_finishEldest 155 = .ok (.aload_n 0, 1) := by decide +kernel
theorem dX6_finishEldest_156 : decode cX6_finishEldest 156 = .ok (.iload_n 1, 1) := by decide +kernel
theorem dX6_finishEldest_157 : decode cX6_finishEldest 157 = .ok (.iload_n 3, 1) := by decide +kernel
theorem dX6_finishEldest_158 : decode cX6_finishEldest 158 = .ok (.iload 4, 2) := by decide +kernel
theorem dX6_finishEldest_160 : decode cX6_finishEldest 160 = .ok (.iload 5, 2) := by decide +kernel
theorem dX6_finishEldest_162 : decode cX6_finishEldest 162 = .ok (.invokevirtual 246, 3) := by decide +kernel
theorem dX6_finishEldest_165 : decode cX6_finishEldest 165 = .ok (.return_, 1) := by decide +kernel
set_option maxRecDepth 20000 in
theorem ggX6_noteDone_X5_add : GoodIn wsX6_noteDone wsX5_add := goodIn_r _ [7, 8, 9, 10, 6, 11, 12, 13, 14, 15, 16, 44] (by decide +kernel) (by decide +kernel)
set_option maxRecDepth 20000 in
theorem gX6_noteDone_X5_add : GoodIn wsX6_noteDone (wsV RX6 100 RX5 yX5_add wsX5_add) := goodIn_app (goodIn_of _ (by decide +kernel)) ggX6_noteDone_X5_add
set_option maxRecDepth 20000 in
theorem ggX6_noteDone_X2_push : GoodIn wsX6_noteDone wsX2_push := goodIn_r _ [21, 22, 23, 45, 46] (by decide +kernel) (by decide +kernel)
set_option maxRecDepth 20000 in
theorem gX6_noteDone_X2_push : GoodIn wsX6_noteDone (wsV RX6 250 RX2 yX2_push wsX2_push) := goodIn_app (goodIn_of _ (by decide +kernel)) ggX6_noteDone_X2_push
set_option maxRecDepth 20000 in
theorem ggX6_noteDone_X6_isTurn : GoodIn wsX6_noteDone wsX6_isTurn := goodIn_r _ [27, 28, 29, 26, 30] (by decide +kernel) (by decide +kernel)
set_option maxRecDepth 20000 in
theorem gX6_noteDone_X6_isTurn : GoodIn wsX6_noteDone (va_wsS RX6 253 yX6_isTurn wsX6_isTurn) := goodIn_app (goodIn_of _ (by decide +kernel)) ggX6_noteDone_X6_isTurn
set_option maxRecDepth 20000 in
theorem ggX6_noteDone_X6_isBranch : GoodIn wsX6_noteDone wsX6_isBranch := goodIn_r _ [33] (by decide +kernel) (by decide +kernel)
set_option maxRecDepth 20000 in
theorem gX6_noteDone_X6_isBranch : GoodIn wsX6_noteDone (va_wsS RX6 229 yX6_isBranch wsX6_isBranch) := goodIn_app (goodIn_of _ (by decide +kernel)) ggX6_noteDone_X6_isBranch
theorem dX6_noteDone_0 : decode cX6_noteDone 0 = .ok (.aload_n 0, 1) := by decide +kernel
theorem dX6_noteDone_1 : decode cX6_noteDone 1 = .ok (.getfield 42, 3) := by decide +kernel
theorem dX6_noteDone_4 : decode cX6_noteDone 4 = .ok (.iconst 1, 1) := by decide +kernel
theorem dX6_noteDone_5 : decode cX6_noteDone 5 = .ok (.iconst 1, 1) := by decide +kernel
theorem dX6_noteDone_6 : decode cX6_noteDone 6 = .ok (.invokevirtual 100, 3) := by decide +kernel
theorem dX6_noteDone_9 : decode cX6_noteDone 9 = .ok (.aload_n 0, 1) := by decide +kernel
theorem dX6_noteDone_10 : decode cX6_noteDone 10 = .ok (.getfield 42, 3) := by decide +kernel
theorem dX6_noteDone_13 : decode cX6_noteDone 13 = .ok (.bipush 13, 2) := by decide +kernel
theorem dX6_noteDone_15 : decode cX6_noteDone 15 = .ok (.iconst 1, 1) := by decide +kernel
theorem dX6_noteDone_16 : decode cX6_noteDone 16 = .ok (.invokevirtual 100, 3) := by decide +kernel
theorem dX6_noteDone_19 : decode cX6_noteDone 19 = .ok (.aload_n 0, 1) := by decide +kernel
theorem dX6_noteDone_20 : decode cX6_noteDone 20 = .ok (.getfield 49, 3) := by decide +kernel
theorem dX6_noteDone_23 : decode cX6_noteDone 23 = .ok (.iload_n 1, 1) := by decide +kernel
theorem dX6_noteDone_24 : decode cX6_noteDone 24 = .ok (.invokevirtual 250, 3) := by decide +kernel
theorem dX6_noteDone_27 : decode cX6_noteDone 27 = .ok (.pop, 1) := by decide +kernel
theorem dX6_noteDone_28 : decode cX6_noteDone 28 = .ok (.iload_n 2, 1) := by decide +kernel
theorem dX6_noteDone_29 : decode cX6_noteDone 29 = .ok (.invokestatic 253, 3) := by decide +kernel
theorem dX6_noteDone_32 : decode cX6_noteDone 32 = .ok (.ifCond .eq 12, 3) := by decide +kernel
theorem dX6_noteDone_35 : decode cX6_noteDone 35 = .ok (.aload_n 0, 1) := by decide +kernel
theorem dX6_noteDone_36 : decode cX6_noteDone 36 = .ok (.getfield 42, 3) := by decide +kernel
theorem dX6_noteDone_39 : decode cX6_noteDone 39 = .ok (.iconst 4, 1) := by decide +kernel
theorem dX6_noteDone_40 : decode cX6_noteDone 40 = .ok (.iconst 1, 1) := by decide +kernel
theorem dX6_noteDone_41 : decode cX6_noteDone 41 = .ok (.invokevirtual 100, 3) := by decide +kernel
theorem dX6_noteDone_44 : decode cX6_noteDone 44 = .ok (.iload_n 2, 1) := by decide +kernel
theorem dX6_noteDone_45 : decode cX6_noteDone 45 = .ok (.invokestatic 229, 3) := by decide +kernel
theorem dX6_noteDone_48 : decode cX6_noteDone 48 = .ok (.ifCond .eq 12, 3) := by decide +kernel
theorem dX6_noteDone_51 : decode cX6_noteDone 51 = .ok (.aload_n 0, 1) := by decide +kernel
theorem dX6_noteDone_52 : decode cX6_noteDone 52 = .ok (.getfield 42, 3) := by decide +kernel
theorem dX6_noteDone_55 : decode cX6_noteDone 55 = .ok (.iconst 5, 1) := by decide +kernel
theorem dX6_noteDone_56 : decode cX6_noteDone 56 = .ok (.iconst 1, 1) := by decide +kernel
theorem dX6_noteDone_57 : decode cX6_noteDone 57 = .ok (.invokevirtual 100, 3) := by decide +kernel
theorem dX6_noteDone_60 : decode cX6_noteDone 60 = .ok (.return_, 1) := by decide +kernel
set_option maxRecDepth 20000 in
theorem ggX6_goBack_X5_add : GoodIn wsX6_goBack wsX5_add := goodIn_r _ [9, 10, 11, 12, 8, 13, 14, 15, 16, 17, 18, 115] (by decide +kernel) (by decide +kernel)
set_option maxRecDepth 20000 in
theorem gX6_goBack_X5_add : GoodIn wsX6_goBack (wsV RX6 100 RX5 yX5_add wsX5_add) := goodIn_app (goodIn_of _ (by decide +kernel)) ggX6_goBack_X5_add
set_option maxRecDepth 20000 in
theorem ggX6_goBack_X6_isBranch : GoodIn wsX6_goBack wsX6_isBranch := goodIn_r _ [22] (by decide +kernel) (by decide +kernel)
set_option maxRecDepth 20000 in
theorem gX6_goBack_X6_isBranch : GoodIn wsX6_goBack (va_wsS RX6 229 yX6_isBranch wsX6_isBranch) := goodIn_app (goodIn_of _ (by decide +kernel)) ggX6_goBack_X6_isBranch
set_option maxRecDepth 20000 in
theorem ggX6_goBack_X6_dropFetched : GoodIn wsX6_goBack wsX6_dropFetched := goodIn_r _ [26, 1, 4, 27, 28, 29, 30, 31, 32, 5, 6, 7, 8, 9, 10, 11, 12, 13, 14, 15, 16, 17, 18, 33, 34, 35, 36, 105, 106, 107, 108, 109, 110, 111, 112, 113, 114, 116, 117, 118, 119, 120, 121, 122, 123, 115] (by decide +kernel) (by decide +kernel)
set_option maxRecDepth 20000 in
theorem gX6_goBack_X6_dropFetched : GoodIn wsX6_goBack (wsV RX6 256 RX6 yX6_dropFetched wsX6_dropFetched) := goodIn_app (goodIn_of _ (by decide +kernel)) ggX6_goBack_X6_dropFetched
set_option maxRecDepth 20000 in
theorem ggX6_goBack_X4_historyOf : GoodIn wsX6_goBack wsX4_historyOf := goodIn_r _ [40, 41, 42, 11, 12, 8, 13, 14, 116, 117, 118, 119, 120, 121, 122, 123, 115] (by decide +kernel) (by decide +kernel)
set_option maxRecDepth 20000 in
theorem gX6_goBack_X4_historyOf : GoodIn wsX6_goBack (wsV RX6 232 RX4 yX4_historyOf wsX4_historyOf) := goodIn_app (goodIn_of _ (by decide +kernel)) ggX6_goBack_X4_historyOf
set_option maxRecDepth 20000 in
theorem ggX6_goBack_X1_setHistory : GoodIn wsX6_goBack wsX1_setHistory := goodIn_r _ [47, 48, 124, 125, 126, 127, 128, 129, 130, 131] (by decide +kernel) (by decide +kernel)
set_option maxRecDepth 20000 in
theorem gX6_goBack_X1_setHistory : GoodIn wsX6_goBack (wsV RX6 259 RX1 yX1_setHistory wsX1_setHistory) := goodIn_app (goodIn_of _ (by decide +kernel)) ggX6_goBack_X1_setHistory
set_option maxRecDepth 20000 in
theorem ggX6_goBack_X1_returns : GoodIn wsX6_goBack wsX1_returns := goodIn_r _ [52, 53, 124, 125, 126, 127, 128, 129, 130, 131] (by decide +kernel) (by decide +kernel)
set_option maxRecDepth 20000 in
theorem gX6_goBack_X1_returns : GoodIn wsX6_goBack (wsV RX6 108 RX1 yX1_returns wsX1_returns) := goodIn_app (goodIn_of _ (by decide +kernel)) ggX6_goBack_X1_returns
set_option maxRecDepth 20000 in
theorem ggX6_goBack_X4_giveReturnsBack : GoodIn wsX6_goBack wsX4_giveReturnsBack := goodIn_r _ [57, 58, 59, 60, 61, 62, 63, 64, 65, 42, 11, 12, 8, 13, 14, 66, 67, 68, 69, 70, 116, 117, 118, 119, 120, 121, 122, 123, 132, 133, 115] (by decide +kernel) (by decide +kernel)
set_option maxRecDepth 20000 in
theorem gX6_goBack_X4_giveReturnsBack : GoodIn wsX6_goBack (wsV RX6 262 RX4 yX4_giveReturnsBack wsX4_giveReturnsBack) := goodIn_app (goodIn_of _ (by decide +kernel)) ggX6_goBack_X4_giveReturnsBack
set_option maxRecDepth 20000 in
theorem ggX6_goBack_X4_addressOf : GoodIn wsX6_goBack wsX4_addressOf := goodIn_r _ [74, 75, 42, 11, 12, 8, 13, 14, 116, 117, 118, 119, 120, 121, 122, 123, 115] (by decide +kernel) (by decide +kernel)
set_option maxRecDepth 20000 in
theorem gX6_goBack_X4_addressOf : GoodIn wsX6_goBack (wsV RX6 215 RX4 yX4_addressOf wsX4_addressOf) := goodIn_app (goodIn_of _ (by decide +kernel)) ggX6_goBack_X4_addressOf
set_option maxRecDepth 20000 in
theorem ggX6_goBack_X1_noteWhatWasDone : GoodIn wsX6_goBack wsX1_noteWhatWasDone := goodIn_r _ [79, 53, 20, 21, 22, 80, 81, 82, 46, 83, 48, 84, 85, 86, 63, 87, 65, 70, 88, 89, 90, 91, 92, 67, 68, 69, 93, 94, 95, 96, 97, 98, 99, 100, 101, 102, 103, 104, 124, 125, 126, 127, 128, 129, 130, 131, 132, 133] (by decide +kernel) (by decide +kernel)
set_option maxRecDepth 20000 in
theorem gX6_goBack_X1_noteWhatWasDone : GoodIn wsX6_goBack (wsV RX6 266 RX1 yX1_noteWhatWasDone wsX1_noteWhatWasDone) := goodIn_app (goodIn_of _ (by decide +kernel)) ggX6_goBack_X1_noteWhatWasDone
theorem dX6_goBack_0 : decode cX6_goBack 0 = .ok (.aload_n 0, 1) := by decide +kernel
theorem dX6_goBack_1 : decode cX6_goBack 1 = .ok (.getfield 42, 3) := by decide +kernel
theorem dX6_goBack_4 : decode cX6_goBack 4 = .ok (.iconst 2, 1) := by decide +kernel
theorem dX6_goBack_5 : decode cX6_goBack 5 = .ok (.iconst 1, 1) := by decide +kernel
theorem dX6_goBack_6 : decode cX6_goBack 6 = .ok (.invokevirtual 100, 3) := by decide +kernel
theorem dX6_goBack_9 : decode cX6_goBack 9 = .ok (.aload_n 0, 1) := by decide +kernel
theorem dX6_goBack_10 : decode cX6_goBack 10 = .ok (.getfield 42, 3) := by decide +kernel
theorem dX6_goBack_13 : decode cX6_goBack 13 = .ok (.bipush 14, 2) := by decide +kernel
theorem dX6_goBack_15 : decode cX6_goBack 15 = .ok (.iconst 1, 1) := by decide +kernel
theorem dX6_goBack_16 : decode cX6_goBack 16 = .ok (.invokevirtual 100, 3) := by decide +kernel
theorem dX6_goBack_19 : decode cX6_goBack 19 = .ok (.iload_n 2, 1) := by decide +kernel
theorem dX6_goBack_20 : decode cX6_goBack 20 = .ok (.invokestatic 229, 3) := by decide +kernel
theorem dX6_goBack_23 : decode cX6_goBack 23 = .ok (.ifCond .eq 13, 3) := by decide +kernel
theorem dX6_goBack_26 : decode cX6_goBack 26 = .ok (.aload_n 0, 1) := by decide +kernel
theorem dX6_goBack_27 : decode cX6_goBack 27 = .ok (.getfield 42, 3) := by decide +kernel
theorem dX6_goBack_30 : decode cX6_goBack 30 = .ok (.bipush 6, 2) := by decide +kernel
theorem dX6_goBack_32 : decode cX6_goBack 32 = .ok (.iconst 1, 1) := by decide +kernel
theorem dX6_goBack_33 : decode cX6_goBack 33 = .ok (.invokevirtual 100, 3) := by decide +kernel
theorem dX6_goBack_36 : decode cX6_goBack 36 = .ok (.iload_n 2, 1) := by decide +kernel
theorem dX6_goBack_37 : decode cX6_goBack 37 = .ok (.bipush 9, 2) := by decide +kernel
theorem dX6_goBack_39 : decode cX6_goBack 39 = .ok (.if_icmp .ne 13, 3) := by decide +kernel
theorem dX6_goBack_42 : decode cX6_goBack 42 = .ok (.aload_n 0, 1) := by decide +kernel
theorem dX6_goBack_43 : decode cX6_goBack 43 = .ok (.getfield 42, 3) := by decide +kernel
theorem dX6_goBack_46 : decode cX6_goBack 46 = .ok (.bipush 7, 2) := by decide +kernel
theorem dX6_goBack_48 : decode cX6_goBack 48 = .ok (.iconst 1, 1) := by decide +kernel
theorem dX6_goBack_49 : decode cX6_goBack 49 = .ok (.invokevirtual 100, 3) := by decide +kernel
theorem dX6_goBack_52 : decode cX6_goBack 52 = .ok (.aload_n 0, 1) := by decide +kernel
theorem dX6_goBack_53 : decode cX6_goBack 53 = .ok (.invokevirtual 256, 3) := by decide +kernel
theorem dX6_goBack_56 : decode cX6_goBack 56 = .ok (.aload_n 0, 1) := by decide +kernel
theorem dX6_goBack_57 : decode cX6_goBack 57 = .ok (.iload 4, 2) := by decide +kernel
theorem dX6_goBack_59 : decode cX6_goBack 59 = .ok (.putfield 60, 3) := by decide +kernel
theorem dX6_goBack_62 : decode cX6_goBack 62 = .ok (.aload_n 0, 1) := by decide +kernel
theorem dX6_goBack_63 : decode cX6_goBack 63 = .ok (.getfield 26, 3) := by decide +kernel
theorem dX6_goBack_66 : decode cX6_goBack 66 = .ok (.aload_n 0, 1) := by decide +kernel
theorem dX6_goBack_67 : decode cX6_goBack 67 = .ok (.getfield 33, 3) := by decide +kernel
theorem dX6_goBack_70 : decode cX6_goBack 70 = .ok (.iload_n 1, 1) := by decide +kernel
theorem dX6_goBack_71 : decode cX6_goBack 71 = .ok (.invokevirtual 232, 3) := by decide +kernel
theorem dX6_goBack_74 : decode cX6_goBack 74 = .ok (.invokevirtual 259, 3) := by decide +kernel
theorem dX6_goBack_77 : decode cX6_goBack 77 = .ok (.aload_n 0, 1) := by decide +kernel
theorem dX6_goBack_78 : decode cX6_goBack 78 = .ok (.getfield 33, 3) := by decide +kernel
theorem dX6_goBack_81 : decode cX6_goBack 81 = .ok (.iload_n 1, 1) := by decide +kernel
theorem dX6_goBack_82 : decode cX6_goBack 82 = .ok (.aload_n 0, 1) := by decide +kernel
theorem dX6_goBack_83 : decode cX6_goBack 83 = .ok (.getfield 26, 3) := by decide +kernel
theorem dX6_goBack_86 : decode cX6_goBack 86 = .ok (.invokevirtual 108, 3) := by decide +kernel
theorem dX6_goBack_89 : decode cX6_goBack 89 = .ok (.invokevirtual 262, 3) := by decide +kernel
theorem dX6_goBack_92 : decode cX6_goBack 92 = .ok (.aload_n 0, 1) := by decide +kernel
theorem dX6_goBack_93 : decode cX6_goBack 93 = .ok (.getfield 26, 3) := by decide +kernel
theorem dX6_goBack_96 : decode cX6_goBack 96 = .ok (.aload_n 0, 1) := by decide +kernel
theorem dX6_goBack_97 : decode cX6_goBack 97 = .ok (.getfield 33, 3) := by decide +kernel
theorem dX6_goBack_100 : decode cX6_goBack 100 = .ok (.iload_n 1, 1) := by decide +kernel
theorem dX6_goBack_101 : decode cX6_goBack 101 = .ok (.invokevirtual 215, 3) := by decide +kernel
theorem dX6_goBack_104 : decode cX6_goBack 104 = .ok (.iload_n 2, 1) := by decide +kernel
theorem dX6_goBack_105 : decode cX6_goBack 105 = .ok (.iload_n 3, 1) := by decide +kernel
theorem dX6_goBack_106 : decode cX6_goBack 106 = .ok (.invokevirtual 266, 3) := by decide +kernel
theorem dX6_goBack_109 : decode cX6_goBack 109 = .ok (.return_, 1) := by decide +kernel
set_option maxRecDepth 20000 in
theorem ggX6_dropFetched_X4_size : GoodIn wsX6_dropFetched wsX4_size := goodIn_r _ [7, 8, 37, 38, 39, 40, 41, 42, 43, 44] (by decide +kernel) (by decide +kernel)
set_option maxRecDepth 20000 in
theorem gX6_dropFetched_X4_size : GoodIn wsX6_dropFetched (wsV RX6 148 RX4 yX4_size wsX4_size) := goodIn_app (goodIn_of _ (by decide +kernel)) ggX6_dropFetched_X4_size
set_option maxRecDepth 20000 in
theorem ggX6_dropFetched_X5_add : GoodIn wsX6_dropFetched wsX5_add := goodIn_r _ [13, 14, 15, 16, 12, 17, 18, 19, 20, 21, 22, 45] (by decide +kernel) (by decide +kernel)
set_option maxRecDepth 20000 in
theorem gX6_dropFetched_X5_add : GoodIn wsX6_dropFetched (wsV RX6 100 RX5 yX5_add wsX5_add) := goodIn_app (goodIn_of _ (by decide +kernel)) ggX6_dropFetched_X5_add
set_option maxRecDepth 20000 in
theorem ggX6_dropFetched_X4_clear : GoodIn wsX6_dropFetched wsX4_clear := goodIn_r _ [26, 8, 37, 38, 39, 40, 41, 42, 43, 44] (by decide +kernel) (by decide +kernel)
set_option maxRecDepth 20000 in
theorem gX6_dropFetched_X4_clear : GoodIn wsX6_dropFetched (wsV RX6 269 RX4 yX4_clear wsX4_clear) := goodIn_app (goodIn_of _ (by decide +kernel)) ggX6_dropFetched_X4_clear
theorem dX6_dropFetched_0 : decode cX6_dropFetched 0 = .ok (.aload_n 0, 1) := by decide +kernel
theorem dX6_dropFetched_1 : decode cX6_dropFetched 1 = .ok (.getfield 42, 3) := by decide +kernel
theorem dX6_dropFetched_4 : decode cX6_dropFetched 4 = .ok (.iconst 3, 1) := by decide +kernel
theorem dX6_dropFetched_5 : decode cX6_dropFetched 5 = .ok (.aload_n 0, 1) := by decide +kernel
theorem dX6_dropFetched_6 : decode cX6_dropFetched 6 = .ok (.getfield 33, 3) := by decide +kernel
theorem dX6_dropFetched_9 : decode cX6_dropFetched 9 = .ok (.invokevirtual 148, 3) := by decide +kernel
theorem dX6_dropFetched_12 : decode cX6_dropFetched 12 = .ok (.invokevirtual 100, 3) := by decide +kernel
theorem dX6_dropFetched_15 : decode cX6_dropFetched 15 = .ok (.aload_n 0, 1) := by decide +kernel
theorem dX6_dropFetched_16 : decode cX6_dropFetched 16 = .ok (.getfield 33, 3) := by decide +kernel
theorem dX6_dropFetched_19 : decode cX6_dropFetched 19 = .ok (.invokevirtual 269, 3) := by decide +kernel
theorem dX6_dropFetched_22 : decode cX6_dropFetched 22 = .ok (.return_, 1) := by decide +kernel
set_option maxRecDepth 20000 in
theorem ggX6_endRun_X6_dropFetched : GoodIn wsX6_endRun wsX6_dropFetched := goodIn_r _ [6, 7, 8, 9, 10, 11, 12, 13, 14, 15, 16, 17, 18, 19, 20, 21, 22, 23, 24, 25, 26, 27, 28, 29, 30, 31, 32, 33, 34, 35, 36, 37, 38, 39, 40, 41, 42, 43, 44, 45, 46, 47, 48, 49, 50, 51] (by decide +kernel) (by decide +kernel)
set_option maxRecDepth 20000 in
theorem gX6_endRun_X6_dropFetched : GoodIn wsX6_endRun (wsV RX6 256 RX6 yX6_dropFetched wsX6_dropFetched) := goodIn_app (goodIn_of _ (by decide +kernel)) ggX6_endRun_X6_dropFetched
theorem dX6_endRun_0 : decode cX6_endRun 0 = .ok (.aload_n 0, 1) := by decide +kernel
theorem dX6_endRun_1 : decode cX6_endRun 1 = .ok (.invokevirtual 256, 3) := by decide +kernel
theorem dX6_endRun_4 : decode cX6_endRun 4 = .ok (.aload_n 0, 1) := by decide +kernel
theorem dX6_endRun_5 : decode cX6_endRun 5 = .ok (.iload_n 1, 1) := by decide +kernel
theorem dX6_endRun_6 : decode cX6_endRun 6 = .ok (.putfield 63, 3) := by decide +kernel
theorem dX6_endRun_9 : decode cX6_endRun 9 = .ok (.return_, 1) := by decide +kernel
theorem dX6_isWithin_0 : decode cX6_isWithin 0 = .ok (.iload_n 0, 1) := by decide +kernel
theorem dX6_isWithin_1 : decode cX6_isWithin 1 = .ok (.iload_n 1, 1) := by decide +kernel
theorem dX6_isWithin_2 : decode cX6_isWithin 2 = .ok (.if_icmp .lt 12, 3) := by decide +kernel
theorem dX6_isWithin_5 : decode cX6_isWithin 5 = .ok (.iload_n 0, 1) := by decide +kernel
theorem dX6_isWithin_6 : decode cX6_isWithin 6 = .ok (.iload_n 2, 1) := by decide +kernel
theorem dX6_isWithin_7 : decode cX6_isWithin 7 = .ok (.if_icmp .gt 7, 3) := by decide +kernel
theorem dX6_isWithin_10 : decode cX6_isWithin 10 = .ok (.iconst 1, 1) := by decide +kernel
theorem dX6_isWithin_11 : decode cX6_isWithin 11 = .ok (.goto 4, 3) := by decide +kernel
theorem dX6_isWithin_14 : decode cX6_isWithin 14 = .ok (.iconst 0, 1) := by decide +kernel
theorem dX6_isWithin_15 : decode cX6_isWithin 15 = .ok (.ireturn, 1) := by decide +kernel
theorem dX6_isBranch_0 : decode cX6_isBranch 0 = .ok (.iload_n 0, 1) := by decide +kernel
theorem dX6_isBranch_1 : decode cX6_isBranch 1 = .ok (.iconst 5, 1) := by decide +kernel
theorem dX6_isBranch_2 : decode cX6_isBranch 2 = .ok (.if_icmp .eq 9, 3) := by decide +kernel
theorem dX6_isBranch_5 : decode cX6_isBranch 5 = .ok (.iload_n 0, 1) := by decide +kernel
theorem dX6_isBranch_6 : decode cX6_isBranch 6 = .ok (.bipush 6, 2) := by decide +kernel
theorem dX6_isBranch_8 : decode cX6_isBranch 8 = .ok (.if_icmp .ne 7, 3) := by decide +kernel
theorem dX6_isBranch_11 : decode cX6_isBranch 11 = .ok (.iconst 1, 1) := by decide +kernel
theorem dX6_isBranch_12 : decode cX6_isBranch 12 = .ok (.goto 4, 3) := by decide +kernel
theorem dX6_isBranch_15 : decode cX6_isBranch 15 = .ok (.iconst 0, 1) := by decide +kernel
theorem dX6_isBranch_16 : decode cX6_isBranch 16 = .ok (.ireturn, 1) := by decide +kernel
set_option maxRecDepth 20000 in
theorem ggX6_isTurn_X6_isWithin : GoodIn wsX6_isTurn wsX6_isWithin := goodIn_r _ [4] (by decide +kernel) (by decide +kernel)
set_option maxRecDepth 20000 in
theorem gX6_isTurn_X6_isWithin : GoodIn wsX6_isTurn (va_wsS RX6 66 yX6_isWithin wsX6_isWithin) := goodIn_app (goodIn_of _ (by decide +kernel)) ggX6_isTurn_X6_isWithin
theorem dX6_isTurn_0 : decode cX6_isTurn 0 = .ok (.iload_n 0, 1) := by decide +kernel
theorem dX6_isTurn_1 : decode cX6_isTurn 1 = .ok (.iconst 5, 1) := by decide +kernel
theorem dX6_isTurn_2 : decode cX6_isTurn 2 = .ok (.bipush 10, 2) := by decide +kernel
theorem dX6_isTurn_4 : decode cX6_isTurn 4 = .ok (.invokestatic 66, 3) := by decide +kernel
theorem dX6_isTurn_7 : decode cX6_isTurn 7 = .ok (.ireturn, 1) := by decide +kernel
set_option maxRecDepth 20000 in
theorem ggX6_isTablePlace_X6_isWithin : GoodIn wsX6_isTablePlace wsX6_isWithin := goodIn_r _ [4] (by decide +kernel) (by decide +kernel)
set_option maxRecDepth 20000 in
theorem gX6_isTablePlace_X6_isWithin : GoodIn wsX6_isTablePlace (va_wsS RX6 66 yX6_isWithin wsX6_isWithin) := goodIn_app (goodIn_of _ (by decide +kernel)) ggX6_isTablePlace_X6_isWithin
theorem dX6_isTablePlace_0 : decode cX6_isTablePlace 0 = .ok (.iload_n 0, 1) := by decide +kernel
theorem dX6_isTablePlace_1 : decode cX6_isTablePlace 1 = .ok (.tableswitch 70 0 7 #[47, 47, 47, 55, 55, 55, 70, 63], 47) := by decide +kernel
theorem dX6_isTablePlace_48 : decode cX6_isTablePlace 48 = .ok (.iload_n 1, 1) := by decide +kernel
theorem dX6_isTablePlace_49 : decode cX6_isTablePlace 49 = .ok (.iconst 0, 1) := by decide +kernel
theorem dX6_isTablePlace_50 : decode cX6_isTablePlace 50 = .ok (.bipush 15, 2) := by decide +kernel
theorem dX6_isTablePlace_52 : decode cX6_isTablePlace 52 = .ok (.invokestatic 66, 3) := by decide +kernel
theorem dX6_isTablePlace_55 : decode cX6_isTablePlace 55 = .ok (.ireturn, 1) := by decide +kernel
theorem dX6_isTablePlace_56 : decode cX6_isTablePlace 56 = .ok (.iload_n 1, 1) := by decide +kernel
theorem dX6_isTablePlace_57 : decode cX6_isTablePlace 57 = .ok (.iconst 0, 1) := by decide +kernel
theorem dX6_isTablePlace_58 : decode cX6_isTablePlace 58 = .ok (.bipush 7, 2) := by decide +kernel
theorem dX6_isTablePlace_60 : decode cX6_isTablePlace 60 = .ok (.invokestatic 66, 3) := by decide +kernel
theorem dX6_isTablePlace_63 : decode cX6_isTablePlace 63 = .ok (.ireturn, 1) := by decide +kernel
theorem dX6_isTablePlace_64 : decode cX6_isTablePlace 64 = .ok (.iload_n 1, 1) := by decide +kernel
theorem dX6_isTablePlace_65 : decode cX6_isTablePlace 65 = .ok (.iconst 0, 1) := by decide +kernel
theorem dX6_isTablePlace_66 : decode cX6_isTablePlace 66 = .ok (.iconst 3, 1) := by decide +kernel
theorem dX6_isTablePlace_67 : decode cX6_isTablePlace 67 = .ok (.invokestatic 66, 3) := by decide +kernel
theorem dX6_isTablePlace_70 : decode cX6_isTablePlace 70 = .ok (.ireturn, 1) := by decide +kernel
theorem dX6_isTablePlace_71 : decode cX6_isTablePlace 71 = .ok (.iconst 1, 1) := by decide +kernel
theorem dX6_isTablePlace_72 : decode cX6_isTablePlace 72 = .ok (.ireturn, 1) := by decide +kernel
set_option maxRecDepth 20000 in
theorem ggX6_isTableValue_X6_isWithin : GoodIn wsX6_isTableValue wsX6_isWithin := goodIn_r _ [4] (by decide +kernel) (by decide +kernel)
set_option maxRecDepth 20000 in
theorem gX6_isTableValue_X6_isWithin : GoodIn wsX6_isTableValue (va_wsS RX6 66 yX6_isWithin wsX6_isWithin) := goodIn_app (goodIn_of _ (by decide +kernel)) ggX6_isTableValue_X6_isWithin
theorem dX6_isTableValue_0 : decode cX6_isTableValue 0 = .ok (.iload_n 0, 1) := by decide +kernel
theorem dX6_isTableValue_1 : decode cX6_isTableValue 1 = .ok (.tableswitch 75 0 6 #[43, 43, 43, 50, 59, 75, 67], 43) := by decide +kernel
theorem dX6_isTableValue_44 : decode cX6_isTableValue 44 = .ok (.iload_n 1, 1) := by decide +kernel
theorem dX6_isTableValue_45 : decode cX6_isTableValue 45 = .ok (.iconst 0, 1) := by decide +kernel
theorem dX6_isTableValue_46 : decode cX6_isTableValue 46 = .ok (.iconst 3, 1) := by decide +kernel
theorem dX6_isTableValue_47 : decode cX6_isTableValue 47 = .ok (.invokestatic 66, 3) := by decide +kernel
theorem dX6_isTableValue_50 : decode cX6_isTableValue 50 = .ok (.ireturn, 1) := by decide +kernel
theorem dX6_isTableValue_51 : decode cX6_isTableValue 51 = .ok (.iload_n 1, 1) := by decide +kernel
theorem dX6_isTableValue_52 : decode cX6_isTableValue 52 = .ok (.iconst (-1), 1) := by decide +kernel
theorem dX6_isTableValue_53 : decode cX6_isTableValue 53 = .ok (.sipush 200, 3) := by decide +kernel
theorem dX6_isTableValue_56 : decode cX6_isTableValue 56 = .ok (.invokestatic 66, 3) := by decide +kernel
theorem dX6_isTableValue_59 : decode cX6_isTableValue 59 = .ok (.ireturn, 1) := by decide +kernel
theorem dX6_isTableValue_60 : decode cX6_isTableValue 60 = .ok (.iload_n 1, 1) := by decide +kernel
theorem dX6_isTableValue_61 : decode cX6_isTableValue 61 = .ok (.iconst 5, 1) := by decide +kernel
theorem dX6_isTableValue_62 : decode cX6_isTableValue 62 = .ok (.bipush 10, 2) := by decide +kernel
theorem dX6_isTableValue_64 : decode cX6_isTableValue 64 = .ok (.invokestatic 66, 3) := by decide +kernel
theorem dX6_isTableValue_67 : decode cX6_isTableValue 67 = .ok (.ireturn, 1) := by decide +kernel
theorem dX6_isTableValue_68 : decode cX6_isTableValue 68 = .ok (.iload_n 1, 1) := by decide +kernel
theorem dX6_isTableValue_69 : decode cX6_isTableValue 69 = .ok (.iconst 0, 1) := by decide +kernel
theorem dX6_isTableValue_70 : decode cX6_isTableValue 70 = .ok (.bipush 15, 2) := by decide +kernel
theorem dX6_isTableValue_72 : decode cX6_isTableValue 72 = .ok (.invokestatic 66, 3) := by decide +kernel
theorem dX6_isTableValue_75 : decode cX6_isTableValue 75 = .ok (.ireturn, 1) := by decide +kernel
theorem dX6_isTableValue_76 : decode cX6_isTableValue 76 = .ok (.iload_n 1, 1) := by decide +kernel
theorem dX6_isTableValue_77 : decode cX6_isTableValue 77 = .ok (.iconst 0, 1) := by decide +kernel
theorem dX6_isTableValue_78 : decode cX6_isTableValue 78 = .ok (.sipush 200, 3) := by decide +kernel
theorem dX6_isTableValue_81 : decode cX6_isTableValue 81 = .ok (.invokestatic 66, 3) := by decide +kernel
theorem dX6_isTableValue_84 : decode cX6_isTableValue 84 = .ok (.ireturn, 1) := by decide +kernel
set_option maxRecDepth 20000 in
theorem ggX7_init_X7_first : GoodIn wsX7_init wsX7_first := goodIn_r _ [34, 13, 14, 15, 16, 17, 18, 35, 36, 37, 38, 39, 40, 41, 42, 43, 44, 45, 46, 47, 48, 49, 50, 51, 52, 53, 54, 55, 56, 57, 58, 59, 60, 61, 62, 63, 64, 65, 66, 67, 68, 69] (by decide +kernel) (by decide +kernel)
set_option maxRecDepth 20000 in
theorem gX7_init_X7_first : GoodIn wsX7_init (wsV RX7 86 RX7 yX7_first wsX7_first) := goodIn_app (goodIn_of _ (by decide +kernel)) ggX7_init_X7_first
theorem dX7_init_0 : decode cX7_init 0 = .ok (.aload_n 0, 1) := by decide +kernel
theorem dX7_init_1 : decode cX7_init 1 = .ok (.invokespecial 1, 3) := by decide +kernel
theorem dX7_init_4 : decode cX7_init 4 = .ok (.aload_n 0, 1) := by decide +kernel
theorem dX7_init_5 : decode cX7_init 5 = .ok (.bipush 60, 2) := by decide +kernel
theorem dX7_init_7 : decode cX7_init 7 = .ok (.newarray .int, 2) := by decide +kernel
theorem dX7_init_9 : decode cX7_init 9 = .ok (.putfield 7, 3) := by decide +kernel
theorem dX7_init_12 : decode cX7_init 12 = .ok (.aload_n 0, 1) := by decide +kernel
theorem dX7_init_13 : decode cX7_init 13 = .ok (.bipush 60, 2) := by decide +kernel
theorem dX7_init_15 : decode cX7_init 15 = .ok (.newarray .int, 2) := by decide +kernel
theorem dX7_init_17 : decode cX7_init 17 = .ok (.putfield 13, 3) := by decide +kernel
theorem dX7_init_20 : decode cX7_init 20 = .ok (.aload_n 0, 1) := by decide +kernel
theorem dX7_init_21 : decode cX7_init 21 = .ok (.bipush 60, 2) := by decide +kernel

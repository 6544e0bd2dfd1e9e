set_option maxRecDepth 20000 in
theorem ggX2_init_X6_init : GoodIn wsX2_init wsX6_init := goodIn_r _ [13, 14, 2, 3, 15, 16, 21, 22] (by decide +kernel) (by decide +kernel)
set_option maxRecDepth 20000 in
theorem gX2_init_X6_init : GoodIn wsX2_init (wsX6_init) := ggX2_init_X6_init
theorem dX2_init_0 : decode cX2_init 0 = .ok (.aload_n 0, 1) := by decide +kernel
theorem dX2_init_1 : decode cX2_init 1 = .ok (.invokespecial 3, 3) := by decide +kernel
theorem dX2_init_4 : decode cX2_init 4 = .ok (.aload_n 0, 1) := by decide +kernel
theorem dX2_init_5 : decode cX2_init 5 = .ok (.bipush (-6), 2) := by decide +kernel
theorem dX2_init_7 : decode cX2_init 7 = .ok (.putfield 9, 3) := by decide +kernel
theorem dX2_init_10 : decode cX2_init 10 = .ok (.aload_n 0, 1) := by decide +kernel
theorem dX2_init_11 : decode cX2_init 11 = .ok (.new 15, 3) := by decide +kernel
theorem dX2_init_14 : decode cX2_init 14 = .ok (.dup, 1) := by decide +kernel
theorem dX2_init_15 : decode cX2_init 15 = .ok (.bipush 60, 2) := by decide +kernel
theorem dX2_init_17 : decode cX2_init 17 = .ok (.invokespecial 17, 3) := by decide +kernel
theorem dX2_init_20 : decode cX2_init 20 = .ok (.putfield 20, 3) := by decide +kernel
theorem dX2_init_23 : decode cX2_init 23 = .ok (.aload_n 0, 1) := by decide +kernel
theorem dX2_init_24 : decode cX2_init 24 = .ok (.new 15, 3) := by decide +kernel
theorem dX2_init_27 : decode cX2_init 27 = .ok (.dup, 1) := by decide +kernel
theorem dX2_init_28 : decode cX2_init 28 = .ok (.bipush 8, 2) := by decide +kernel
theorem dX2_init_30 : decode cX2_init 30 = .ok (.invokespecial 17, 3) := by decide +kernel
theorem dX2_init_33 : decode cX2_init 33 = .ok (.putfield 24, 3) := by decide +kernel
theorem dX2_init_36 : decode cX2_init 36 = .ok (.aload_n 0, 1) := by decide +kernel
theorem dX2_init_37 : decode cX2_init 37 = .ok (.new 15, 3) := by decide +kernel
theorem dX2_init_40 : decode cX2_init 40 = .ok (.dup, 1) := by decide +kernel
theorem dX2_init_41 : decode cX2_init 41 = .ok (.bipush 8, 2) := by decide +kernel
theorem dX2_init_43 : decode cX2_init 43 = .ok (.invokespecial 17, 3) := by decide +kernel
theorem dX2_init_46 : decode cX2_init 46 = .ok (.putfield 27, 3) := by decide +kernel
theorem dX2_init_49 : decode cX2_init 49 = .ok (.return_, 1) := by decide +kernel
theorem dX2_isReply_0 : decode cX2_isReply 0 = .ok (.aload_n 0, 1) := by decide +kernel
theorem dX2_isReply_1 : decode cX2_isReply 1 = .ok (.getfield 9, 3) := by decide +kernel
theorem dX2_isReply_4 : decode cX2_isReply 4 = .ok (.bipush (-6), 2) := by decide +kernel
theorem dX2_isReply_6 : decode cX2_isReply 6 = .ok (.if_icmp .eq 7, 3) := by decide +kernel
theorem dX2_isReply_9 : decode cX2_isReply 9 = .ok (.iconst 1, 1) := by decide +kernel
theorem dX2_isReply_10 : decode cX2_isReply 10 = .ok (.goto 4, 3) := by decide +kernel
theorem dX2_isReply_13 : decode cX2_isReply 13 = .ok (.iconst 0, 1) := by decide +kernel
theorem dX2_isReply_14 : decode cX2_isReply 14 = .ok (.ireturn, 1) := by decide +kernel
set_option maxRecDepth 20000 in
theorem ggX2_becomeReply_X6_clear : GoodIn wsX2_becomeReply wsX6_clear := goodIn_r _ [9, 10, 15, 16] (by decide +kernel) (by decide +kernel)
set_option maxRecDepth 20000 in
theorem gX2_becomeReply_X6_clear : GoodIn wsX2_becomeReply (wsV RX2 30 RX6 yX6_clear wsX6_clear) := goodIn_app (goodIn_of _ (by decide +kernel)) ggX2_becomeReply_X6_clear
theorem dX2_becomeReply_0 : decode cX2_becomeReply 0 = .ok (.aload_n 0, 1) := by decide +kernel
theorem dX2_becomeReply_1 : decode cX2_becomeReply 1 = .ok (.iload_n 1, 1) := by decide +kernel
theorem dX2_becomeReply_2 : decode cX2_becomeReply 2 = .ok (.putfield 9, 3) := by decide +kernel
theorem dX2_becomeReply_5 : decode cX2_becomeReply 5 = .ok (.aload_n 0, 1) := by decide +kernel
theorem dX2_becomeReply_6 : decode cX2_becomeReply 6 = .ok (.getfield 20, 3) := by decide +kernel
theorem dX2_becomeReply_9 : decode cX2_becomeReply 9 = .ok (.invokevirtual 30, 3) := by decide +kernel
theorem dX2_becomeReply_12 : decode cX2_becomeReply 12 = .ok (.aload_n 0, 1) := by decide +kernel
theorem dX2_becomeReply_13 : decode cX2_becomeReply 13 = .ok (.getfield 24, 3) := by decide +kernel
theorem dX2_becomeReply_16 : decode cX2_becomeReply 16 = .ok (.invokevirtual 30, 3) := by decide +kernel
theorem dX2_becomeReply_19 : decode cX2_becomeReply 19 = .ok (.aload_n 0, 1) := by decide +kernel
theorem dX2_becomeReply_20 : decode cX2_becomeReply 20 = .ok (.getfield 27, 3) := by decide +kernel
theorem dX2_becomeReply_23 : decode cX2_becomeReply 23 = .ok (.invokevirtual 30, 3) := by decide +kernel
theorem dX2_becomeReply_26 : decode cX2_becomeReply 26 = .ok (.return_, 1) := by decide +kernel
set_option maxRecDepth 20000 in
theorem ggX2_remember_X6_copyPart : GoodIn wsX2_remember wsX6_copyPart := goodIn_r _ [9, 10, 11, 12, 8, 13, 14, 15, 16, 17, 18, 19, 20, 21, 22, 23, 24, 25, 26, 27, 32, 33] (by decide +kernel) (by decide +kernel)
set_option maxRecDepth 20000 in
theorem gX2_remember_X6_copyPart : GoodIn wsX2_remember (wsV RX2 33 RX6 yX6_copyPart wsX6_copyPart) := goodIn_app (goodIn_of _ (by decide +kernel)) ggX2_remember_X6_copyPart
theorem dX2_remember_0 : decode cX2_remember 0 = .ok (.aload_n 0, 1) := by decide +kernel
theorem dX2_remember_1 : decode cX2_remember 1 = .ok (.bipush (-6), 2) := by decide +kernel
theorem dX2_remember_3 : decode cX2_remember 3 = .ok (.putfield 9, 3) := by decide +kernel
theorem dX2_remember_6 : decode cX2_remember 6 = .ok (.aload_n 0, 1) := by decide +kernel
theorem dX2_remember_7 : decode cX2_remember 7 = .ok (.getfield 20, 3) := by decide +kernel
theorem dX2_remember_10 : decode cX2_remember 10 = .ok (.aload_n 1, 1) := by decide +kernel
theorem dX2_remember_11 : decode cX2_remember 11 = .ok (.iload_n 2, 1) := by decide +kernel
theorem dX2_remember_12 : decode cX2_remember 12 = .ok (.iconst 1, 1) := by decide +kernel
theorem dX2_remember_13 : decode cX2_remember 13 = .ok (.iload_n 3, 1) := by decide +kernel
theorem dX2_remember_14 : decode cX2_remember 14 = .ok (.iload_n 2, 1) := by decide +kernel
theorem dX2_remember_15 : decode cX2_remember 15 = .ok (.isub, 1) := by decide +kernel
theorem dX2_remember_16 : decode cX2_remember 16 = .ok (.iconst 1, 1) := by decide +kernel
theorem dX2_remember_17 : decode cX2_remember 17 = .ok (.iadd, 1) := by decide +kernel
theorem dX2_remember_18 : decode cX2_remember 18 = .ok (.invokevirtual 33, 3) := by decide +kernel
theorem dX2_remember_21 : decode cX2_remember 21 = .ok (.aload_n 0, 1) := by decide +kernel
theorem dX2_remember_22 : decode cX2_remember 22 = .ok (.getfield 24, 3) := by decide +kernel
theorem dX2_remember_25 : decode cX2_remember 25 = .ok (.aload_n 1, 1) := by decide +kernel
theorem dX2_remember_26 : decode cX2_remember 26 = .ok (.iload_n 2, 1) := by decide +kernel
theorem dX2_remember_27 : decode cX2_remember 27 = .ok (.iconst 1, 1) := by decide +kernel
theorem dX2_remember_28 : decode cX2_remember 28 = .ok (.isub, 1) := by decide +kernel
theorem dX2_remember_29 : decode cX2_remember 29 = .ok (.iconst (-1), 1) := by decide +kernel
theorem dX2_remember_30 : decode cX2_remember 30 = .ok (.iload 4, 2) := by decide +kernel
theorem dX2_remember_32 : decode cX2_remember 32 = .ok (.invokevirtual 33, 3) := by decide +kernel
theorem dX2_remember_35 : decode cX2_remember 35 = .ok (.aload_n 0, 1) := by decide +kernel
theorem dX2_remember_36 : decode cX2_remember 36 = .ok (.getfield 27, 3) := by decide +kernel
theorem dX2_remember_39 : decode cX2_remember 39 = .ok (.aload_n 1, 1) := by decide +kernel
theorem dX2_remember_40 : decode cX2_remember 40 = .ok (.iload_n 3, 1) := by decide +kernel
theorem dX2_remember_41 : decode cX2_remember 41 = .ok (.iconst 1, 1) := by decide +kernel
theorem dX2_remember_42 : decode cX2_remember 42 = .ok (.iadd, 1) := by decide +kernel
theorem dX2_remember_43 : decode cX2_remember 43 = .ok (.iconst 1, 1) := by decide +kernel
theorem dX2_remember_44 : decode cX2_remember 44 = .ok (.iload 4, 2) := by decide +kernel
theorem dX2_remember_46 : decode cX2_remember 46 = .ok (.invokevirtual 33, 3) := by decide +kernel
theorem dX2_remember_49 : decode cX2_remember 49 = .ok (.return_, 1) := by decide +kernel
set_option maxRecDepth 20000 in
theorem ggX2_copyFrom_X6_copyFrom : GoodIn wsX2_copyFrom wsX6_copyFrom := goodIn_r _ [9, 10, 11, 12, 13, 14, 15, 16, 17, 18, 19, 24, 25] (by decide +kernel) (by decide +kernel)
set_option maxRecDepth 20000 in
theorem gX2_copyFrom_X6_copyFrom : GoodIn wsX2_copyFrom (wsV RX2 37 RX6 yX6_copyFrom wsX6_copyFrom) := goodIn_app (goodIn_of _ (by decide +kernel)) ggX2_copyFrom_X6_copyFrom
theorem dX2_copyFrom_0 : decode cX2_copyFrom 0 = .ok (.aload_n 0, 1) := by decide +kernel
theorem dX2_copyFrom_1 : decode cX2_copyFrom 1 = .ok (.aload_n 1, 1) := by decide +kernel
theorem dX2_copyFrom_2 : decode cX2_copyFrom 2 = .ok (.getfield 9, 3) := by decide +kernel
theorem dX2_copyFrom_5 : decode cX2_copyFrom 5 = .ok (.putfield 9, 3) := by decide +kernel
theorem dX2_copyFrom_8 : decode cX2_copyFrom 8 = .ok (.aload_n 0, 1) := by decide +kernel
theorem dX2_copyFrom_9 : decode cX2_copyFrom 9 = .ok (.getfield 20, 3) := by decide +kernel
theorem dX2_copyFrom_12 : decode cX2_copyFrom 12 = .ok (.aload_n 1, 1) := by decide +kernel
theorem dX2_copyFrom_13 : decode cX2_copyFrom 13 = .ok (.getfield 20, 3) := by decide +kernel
theorem dX2_copyFrom_16 : decode cX2_copyFrom 16 = .ok (.invokevirtual 37, 3) := by decide +kernel
theorem dX2_copyFrom_19 : decode cX2_copyFrom 19 = .ok (.aload_n 0, 1) := by decide +kernel
theorem dX2_copyFrom_20 : decode cX2_copyFrom 20 = .ok (.getfield 24, 3) := by decide +kernel
theorem dX2_copyFrom_23 : decode cX2_copyFrom 23 = .ok (.aload_n 1, 1) := by decide +kernel
theorem dX2_copyFrom_24 : decode cX2_copyFrom 24 = .ok (.getfield 24, 3) := by decide +kernel
theorem dX2_copyFrom_27 : decode cX2_copyFrom 27 = .ok (.invokevirtual 37, 3) := by decide +kernel
theorem dX2_copyFrom_30 : decode cX2_copyFrom 30 = .ok (.aload_n 0, 1) := by decide +kernel
theorem dX2_copyFrom_31 : decode cX2_copyFrom 31 = .ok (.getfield 27, 3) := by decide +kernel
theorem dX2_copyFrom_34 : decode cX2_copyFrom 34 = .ok (.aload_n 1, 1) := by decide +kernel
theorem dX2_copyFrom_35 : decode cX2_copyFrom 35 = .ok (.getfield 27, 3) := by decide +kernel
theorem dX2_copyFrom_38 : decode cX2_copyFrom 38 = .ok (.invokevirtual 37, 3) := by decide +kernel
theorem dX2_copyFrom_41 : decode cX2_copyFrom 41 = .ok (.return_, 1) := by decide +kernel
set_option maxRecDepth 20000 in
theorem ggX4_init_X6_init : GoodIn wsX4_init wsX6_init := goodIn_r _ [20, 21, 2, 3, 22, 23, 41, 42] (by decide +kernel) (by decide +kernel)
set_option maxRecDepth 20000 in
theorem gX4_init_X6_init : GoodIn wsX4_init (wsX6_init) := ggX4_init_X6_init
set_option maxRecDepth 20000 in
theorem ggX4_init_X5_init : GoodIn wsX4_init wsX5_init := goodIn_r _ [25, 26, 2, 3] (by decide +kernel) (by decide +kernel)
set_option maxRecDepth 20000 in
theorem gX4_init_X5_init_n34 : GoodIn wsX4_init (wsX5_init) := ggX4_init_X5_init
set_option maxRecDepth 20000 in
theorem ggX4_init_X6_add : GoodIn wsX4_init wsX6_add := goodIn_r _ [30, 31, 23, 41, 42] (by decide +kernel) (by decide +kernel)
set_option maxRecDepth 20000 in
theorem gX4_init_X6_add : GoodIn wsX4_init (wsV RX4 39 RX6 yX6_add wsX6_add) := goodIn_app (goodIn_of _ (by decide +kernel)) ggX4_init_X6_add
set_option maxRecDepth 20000 in
theorem ggX4_init_X2_init : GoodIn wsX4_init wsX2_init := goodIn_r _ [33, 34, 2, 3, 35, 36, 5, 6, 37, 38, 39, 40, 19, 20, 21, 22, 23, 53, 54, 55, 56, 41, 42] (by decide +kernel) (by decide +kernel)
set_option maxRecDepth 20000 in
theorem gX4_init_X2_init_n42 : GoodIn wsX4_init (wsX2_init) := ggX4_init_X2_init
theorem dX4_init_0 : decode cX4_init 0 = .ok (.aload_n 0, 1) := by decide +kernel
theorem dX4_init_1 : decode cX4_init 1 = .ok (.invokespecial 3, 3) := by decide +kernel
theorem dX4_init_4 : decode cX4_init 4 = .ok (.aload_n 0, 1) := by decide +kernel
theorem dX4_init_5 : decode cX4_init 5 = .ok (.new 9, 3) := by decide +kernel
theorem dX4_init_8 : decode cX4_init 8 = .ok (.dup, 1) := by decide +kernel
theorem dX4_init_9 : decode cX4_init 9 = .ok (.iconst 3, 1) := by decide +kernel
theorem dX4_init_10 : decode cX4_init 10 = .ok (.invokespecial 11, 3) := by decide +kernel
theorem dX4_init_13 : decode cX4_init 13 = .ok (.putfield 14, 3) := by decide +kernel
theorem dX4_init_16 : decode cX4_init 16 = .ok (.aload_n 0, 1) := by decide +kernel
theorem dX4_init_17 : decode cX4_init 17 = .ok (.new 9, 3) := by decide +kernel
theorem dX4_init_20 : decode cX4_init 20 = .ok (.dup, 1) := by decide +kernel
theorem dX4_init_21 : decode cX4_init 21 = .ok (.bipush 60, 2) := by decide +kernel
theorem dX4_init_23 : decode cX4_init 23 = .ok (.invokespecial 11, 3) := by decide +kernel
theorem dX4_init_26 : decode cX4_init 26 = .ok (.putfield 20, 3) := by decide +kernel
theorem dX4_init_29 : decode cX4_init 29 = .ok (.aload_n 0, 1) := by decide +kernel
theorem dX4_init_30 : decode cX4_init 30 = .ok (.new 9, 3) := by decide +kernel
theorem dX4_init_33 : decode cX4_init 33 = .ok (.dup, 1) := by decide +kernel
theorem dX4_init_34 : decode cX4_init 34 = .ok (.bipush 60, 2) := by decide +kernel
theorem dX4_init_36 : decode cX4_init 36 = .ok (.invokespecial 11, 3) := by decide +kernel
theorem dX4_init_39 : decode cX4_init 39 = .ok (.putfield 23, 3) := by decide +kernel
theorem dX4_init_42 : decode cX4_init 42 = .ok (.aload_n 0, 1) := by decide +kernel
theorem dX4_init_43 : decode cX4_init 43 = .ok (.bipush 16, 2) := by decide +kernel
theorem dX4_init_45 : decode cX4_init 45 = .ok (.anewarray 26, 3) := by decide +kernel
theorem dX4_init_48 : decode cX4_init 48 = .ok (.putfield 28, 3) := by decide +kernel
theorem dX4_init_51 : decode cX4_init 51 = .ok (.aload_n 0, 1) := by decide +kernel
theorem dX4_init_52 : decode cX4_init 52 = .ok (.new 32, 3) := by decide +kernel
theorem dX4_init_55 : decode cX4_init 55 = .ok (.dup, 1) := by decide +kernel
theorem dX4_init_56 : decode cX4_init 56 = .ok (.invokespecial 34, 3) := by decide +kernel
theorem dX4_init_59 : decode cX4_init 59 = .ok (.putfield 35, 3) := by decide +kernel
theorem dX4_init_62 : decode cX4_init 62 = .ok (.aload_n 0, 1) := by decide +kernel
theorem dX4_init_63 : decode cX4_init 63 = .ok (.getfield 14, 3) := by decide +kernel
theorem dX4_init_66 : decode cX4_init 66 = .ok (.iconst 3, 1) := by decide +kernel
theorem dX4_init_67 : decode cX4_init 67 = .ok (.invokevirtual 39, 3) := by decide +kernel
theorem dX4_init_70 : decode cX4_init 70 = .ok (.aload_n 0, 1) := by decide +kernel
theorem dX4_init_71 : decode cX4_init 71 = .ok (.getfield 14, 3) := by decide +kernel
theorem dX4_init_74 : decode cX4_init 74 = .ok (.bipush 12, 2) := by decide +kernel
theorem dX4_init_76 : decode cX4_init 76 = .ok (.invokevirtual 39, 3) := by decide +kernel
theorem dX4_init_79 : decode cX4_init 79 = .ok (.aload_n 0, 1) := by decide +kernel
theorem dX4_init_80 : decode cX4_init 80 = .ok (.getfield 14, 3) := by decide +kernel
theorem dX4_init_83 : decode cX4_init 83 = .ok (.iconst 2, 1) := by decide +kernel
theorem dX4_init_84 : decode cX4_init 84 = .ok (.invokevirtual 39, 3) := by decide +kernel
theorem dX4_init_87 : decode cX4_init 87 = .ok (.iconst 0, 1) := by decide +kernel
theorem dX4_init_88 : decode cX4_init 88 = .ok (.istore_n 1, 1) := by decide +kernel
theorem dX4_init_89 : decode cX4_init 89 = .ok (.iload_n 1, 1) := by decide +kernel
theorem dX4_init_90 : decode cX4_init 90 = .ok (.aload_n 0, 1) := by decide +kernel
theorem dX4_init_91 : decode cX4_init 91 = .ok (.getfield 28, 3) := by decide +kernel
theorem dX4_init_94 : decode cX4_init 94 = .ok (.arraylength, 1) := by decide +kernel
theorem dX4_init_95 : decode cX4_init 95 = .ok (.if_icmp .ge 22, 3) := by decide +kernel
theorem dX4_init_98 : decode cX4_init 98 = .ok (.aload_n 0, 1) := by decide +kernel
theorem dX4_init_99 : decode cX4_init 99 = .ok (.getfield 28, 3) := by decide +kernel
theorem dX4_init_102 : decode cX4_init 102 = .ok (.iload_n 1, 1) := by decide +kernel
theorem dX4_init_103 : decode cX4_init 103 = .ok (.new 26, 3) := by decide +kernel
theorem dX4_init_106 : decode cX4_init 106 = .ok (.dup, 1) := by decide +kernel
theorem dX4_init_107 : decode cX4_init 107 = .ok (.invokespecial 42, 3) := by decide +kernel
theorem dX4_init_110 : decode cX4_init 110 = .ok (.aastore, 1) := by decide +kernel
theorem dX4_init_111 : decode cX4_init 111 = .ok (.iinc 1 1, 3) := by decide +kernel
theorem dX4_init_114 : decode cX4_init 114 = .ok (.goto (-25), 3) := by decide +kernel
theorem dX4_init_117 : decode cX4_init 117 = .ok (.return_, 1) := by decide +kernel
set_option maxRecDepth 20000 in
theorem ggX4_copyFrom_X6_copyFrom : GoodIn wsX4_copyFrom wsX6_copyFrom := goodIn_r _ [9, 10, 11, 12, 13, 14, 15, 16, 17, 18, 19, 42, 43] (by decide +kernel) (by decide +kernel)
set_option maxRecDepth 20000 in
theorem gX4_copyFrom_X6_copyFrom : GoodIn wsX4_copyFrom (wsV RX4 43 RX6 yX6_copyFrom wsX6_copyFrom) := goodIn_app (goodIn_of _ (by decide +kernel)) ggX4_copyFrom_X6_copyFrom
set_option maxRecDepth 20000 in
theorem ggX4_copyFrom_X4_find : GoodIn wsX4_copyFrom wsX4_find := goodIn_r _ [24, 4, 25, 36, 37, 38, 39, 40, 41] (by decide +kernel) (by decide +kernel)
set_option maxRecDepth 20000 in
theorem gX4_copyFrom_X4_find : GoodIn wsX4_copyFrom (wsV RX4 51 RX4 yX4_find wsX4_find) := goodIn_app (goodIn_of _ (by decide +kernel)) ggX4_copyFrom_X4_find
set_option maxRecDepth 20000 in
theorem ggX4_copyFrom_X2_copyFrom : GoodIn wsX4_copyFrom wsX2_copyFrom := goodIn_r _ [30, 31, 32, 33, 34, 35, 6, 7, 8, 9, 10, 11, 12, 13, 14, 15, 16, 17, 18, 19, 44, 45, 46, 47, 42, 43] (by decide +kernel) (by decide +kernel)
set_option maxRecDepth 20000 in
theorem gX4_copyFrom_X2_copyFrom : GoodIn wsX4_copyFrom (wsV RX4 55 RX2 yX2_copyFrom wsX2_copyFrom) := goodIn_app (goodIn_of _ (by decide +kernel)) ggX4_copyFrom_X2_copyFrom
theorem dX4_copyFrom_0 : decode cX4_copyFrom 0 = .ok (.aload_n 0, 1) := by decide +kernel
theorem dX4_copyFrom_1 : decode cX4_copyFrom 1 = .ok (.getfield 14, 3) := by decide +kernel
theorem dX4_copyFrom_4 : decode cX4_copyFrom 4 = .ok (.aload_n 1, 1) := by decide +kernel
theorem dX4_copyFrom_5 : decode cX4_copyFrom 5 = .ok (.getfield 14, 3) := by decide +kernel
theorem dX4_copyFrom_8 : decode cX4_copyFrom 8 = .ok (.invokevirtual 43, 3) := by decide +kernel
theorem dX4_copyFrom_11 : decode cX4_copyFrom 11 = .ok (.aload_n 0, 1) := by decide +kernel
theorem dX4_copyFrom_12 : decode cX4_copyFrom 12 = .ok (.getfield 20, 3) := by decide +kernel
theorem dX4_copyFrom_15 : decode cX4_copyFrom 15 = .ok (.aload_n 1, 1) := by decide +kernel
theorem dX4_copyFrom_16 : decode cX4_copyFrom 16 = .ok (.getfield 20, 3) := by decide +kernel
theorem dX4_copyFrom_19 : decode cX4_copyFrom 19 = .ok (.invokevirtual 43, 3) := by decide +kernel
theorem dX4_copyFrom_22 : decode cX4_copyFrom 22 = .ok (.aload_n 0, 1) := by decide +kernel
theorem dX4_copyFrom_23 : decode cX4_copyFrom 23 = .ok (.getfield 23, 3) := by decide +kernel
theorem dX4_copyFrom_26 : decode cX4_copyFrom 26 = .ok (.aload_n 1, 1) := by decide +kernel
theorem dX4_copyFrom_27 : decode cX4_copyFrom 27 = .ok (.getfield 23, 3) := by decide +kernel
theorem dX4_copyFrom_30 : decode cX4_copyFrom 30 = .ok (.invokevirtual 43, 3) := by decide +kernel
theorem dX4_copyFrom_33 : decode cX4_copyFrom 33 = .ok (.aload_n 0, 1) := by decide +kernel
theorem dX4_copyFrom_34 : decode cX4_copyFrom 34 = .ok (.aload_n 1, 1) := by decide +kernel
theorem dX4_copyFrom_35 : decode cX4_copyFrom 35 = .ok (.getfield 47, 3) := by decide +kernel
theorem dX4_copyFrom_38 : decode cX4_copyFrom 38 = .ok (.putfield 47, 3) := by decide +kernel
theorem dX4_copyFrom_41 : decode cX4_copyFrom 41 = .ok (.iconst 0, 1) := by decide +kernel
theorem dX4_copyFrom_42 : decode cX4_copyFrom 42 = .ok (.istore_n 2, 1) := by decide +kernel
theorem dX4_copyFrom_43 : decode cX4_copyFrom 43 = .ok (.iload_n 2, 1) := by decide +kernel
theorem dX4_copyFrom_44 : decode cX4_copyFrom 44 = .ok (.aload_n 0, 1) := by decide +kernel
theorem dX4_copyFrom_45 : decode cX4_copyFrom 45 = .ok (.getfield 47, 3) := by decide +kernel
theorem dX4_copyFrom_48 : decode cX4_copyFrom 48 = .ok (.if_icmp .ge 37, 3) := by decide +kernel
theorem dX4_copyFrom_51 : decode cX4_copyFrom 51 = .ok (.aload_n 0, 1) := by decide +kernel
theorem dX4_copyFrom_52 : decode cX4_copyFrom 52 = .ok (.iload_n 2, 1) := by decide +kernel
theorem dX4_copyFrom_53 : decode cX4_copyFrom 53 = .ok (.invokevirtual 51, 3) := by decide +kernel
theorem dX4_copyFrom_56 : decode cX4_copyFrom 56 = .ok (.astore_n 3, 1) := by decide +kernel
theorem dX4_copyFrom_57 : decode cX4_copyFrom 57 = .ok (.aload_n 1, 1) := by decide +kernel
theorem dX4_copyFrom_58 : decode cX4_copyFrom 58 = .ok (.iload_n 2, 1) := by decide +kernel
theorem dX4_copyFrom_59 : decode cX4_copyFrom 59 = .ok (.invokevirtual 51, 3) := by decide +kernel
theorem dX4_copyFrom_62 : decode cX4_copyFrom 62 = .ok (.astore 4, 2) := by decide +kernel
theorem dX4_copyFrom_64 : decode cX4_copyFrom 64 = .ok (.aload_n 3, 1) := by decide +kernel
theorem dX4_copyFrom_65 : decode cX4_copyFrom 65 = .ok (.ifnull 14, 3) := by decide +kernel
theorem dX4_copyFrom_68 : decode cX4_copyFrom 68 = .ok (.aload 4, 2) := by decide +kernel
theorem dX4_copyFrom_70 : decode cX4_copyFrom 70 = .ok (.ifnull 9, 3) := by decide +kernel
theorem dX4_copyFrom_73 : decode cX4_copyFrom 73 = .ok (.aload_n 3, 1) := by decide +kernel
theorem dX4_copyFrom_74 : decode cX4_copyFrom 74 = .ok (.aload 4, 2) := by decide +kernel
theorem dX4_copyFrom_76 : decode cX4_copyFrom 76 = .ok (.invokevirtual 55, 3) := by decide +kernel
theorem dX4_copyFrom_79 : decode cX4_copyFrom 79 = .ok (.iinc 2 1, 3) := by decide +kernel
theorem dX4_copyFrom_82 : decode cX4_copyFrom 82 = .ok (.goto (-39), 3) := by decide +kernel
theorem dX4_copyFrom_85 : decode cX4_copyFrom 85 = .ok (.return_, 1) := by decide +kernel
set_option maxRecDepth 20000 in
theorem ggX4_changeSetting_X6_has : GoodIn wsX4_changeSetting wsX6_has := goodIn_r _ [6, 7, 8, 31, 32] (by decide +kernel) (by decide +kernel)
set_option maxRecDepth 20000 in
theorem gX4_changeSetting_X6_has : GoodIn wsX4_changeSetting (wsV RX4 58 RX6 yX6_has wsX6_has) := goodIn_app (goodIn_of _ (by decide +kernel)) ggX4_changeSetting_X6_has
set_option maxRecDepth 20000 in
theorem ggX4_changeSetting_X4_leastOf : GoodIn wsX4_changeSetting wsX4_leastOf := goodIn_r _ [12] (by decide +kernel) (by decide +kernel)
set_option maxRecDepth 20000 in
theorem gX4_changeSetting_X4_leastOf : GoodIn wsX4_changeSetting (va_wsS RX4 62 yX4_leastOf wsX4_leastOf) := goodIn_app (goodIn_of _ (by decide +kernel)) ggX4_changeSetting_X4_leastOf
set_option maxRecDepth 20000 in
theorem ggX4_changeSetting_X4_mostOf : GoodIn wsX4_changeSetting wsX4_mostOf := goodIn_r _ [15] (by decide +kernel) (by decide +kernel)
set_option maxRecDepth 20000 in
theorem gX4_changeSetting_X4_mostOf : GoodIn wsX4_changeSetting (va_wsS RX4 66 yX4_mostOf wsX4_mostOf) := goodIn_app (goodIn_of _ (by decide +kernel)) ggX4_changeSetting_X4_mostOf
set_option maxRecDepth 20000 in
theorem ggX4_changeSetting_X6_item : GoodIn wsX4_changeSetting wsX6_item := goodIn_r _ [19, 7, 8, 31, 32] (by decide +kernel) (by decide +kernel)
set_option maxRecDepth 20000 in
theorem gX4_changeSetting_X6_item : GoodIn wsX4_changeSetting (wsV RX4 69 RX6 yX6_item wsX6_item) := goodIn_app (goodIn_of _ (by decide +kernel)) ggX4_changeSetting_X6_item
set_option maxRecDepth 20000 in
theorem ggX4_changeSetting_X6_replace : GoodIn wsX4_changeSetting wsX6_replace := goodIn_r _ [23, 8, 24, 3, 4, 5, 6, 7, 31, 32] (by decide +kernel) (by decide +kernel)
set_option maxRecDepth 20000 in
theorem gX4_changeSetting_X6_replace : GoodIn wsX4_changeSetting (wsV RX4 72 RX6 yX6_replace wsX6_replace) := goodIn_app (goodIn_of _ (by decide +kernel)) ggX4_changeSetting_X6_replace
theorem dX4_changeSetting_0 : decode cX4_changeSetting 0 = .ok (.aload_n 0, 1) := by decide +kernel
theorem dX4_changeSetting_1 : decode cX4_changeSetting 1 = .ok (.getfield 14, 3) := by decide +kernel
theorem dX4_changeSetting_4 : decode cX4_changeSetting 4 = .ok (.iload_n 1, 1) := by decide +kernel
theorem dX4_changeSetting_5 : decode cX4_changeSetting 5 = .ok (.invokevirtual 58, 3) := by decide +kernel
theorem dX4_changeSetting_8 : decode cX4_changeSetting 8 = .ok (.ifCond .eq 19, 3) := by decide +kernel
theorem dX4_changeSetting_11 : decode cX4_changeSetting 11 = .ok (.iload_n 2, 1) := by decide +kernel
theorem dX4_changeSetting_12 : decode cX4_changeSetting 12 = .ok (.iload_n 1, 1) := by decide +kernel
theorem dX4_changeSetting_13 : decode cX4_changeSetting 13 = .ok (.invokestatic 62, 3) := by decide +kernel
theorem dX4_changeSetting_16 : decode cX4_changeSetting 16 = .ok (.if_icmp .lt 11, 3) := by decide +kernel
theorem dX4_changeSetting_19 : decode cX4_changeSetting 19 = .ok (.iload_n 2, 1) := by decide +kernel
theorem dX4_changeSetting_20 : decode cX4_changeSetting 20 = .ok (.iload_n 1, 1) := by decide +kernel
theorem dX4_changeSetting_21 : decode cX4_changeSetting 21 = .ok (.invokestatic 66, 3) := by decide +kernel
theorem dX4_changeSetting_24 : decode cX4_changeSetting 24 = .ok (.if_icmp .le 6, 3) := by decide +kernel
theorem dX4_changeSetting_27 : decode cX4_changeSetting 27 = .ok (.bipush (-2), 2) := by decide +kernel
theorem dX4_changeSetting_29 : decode cX4_changeSetting 29 = .ok (.ireturn, 1) := by decide +kernel
theorem dX4_changeSetting_30 : decode cX4_changeSetting 30 = .ok (.aload_n 0, 1) := by decide +kernel
theorem dX4_changeSetting_31 : decode cX4_changeSetting 31 = .ok (.getfield 14, 3) := by decide +kernel
theorem dX4_changeSetting_34 : decode cX4_changeSetting 34 = .ok (.iload_n 1, 1) := by decide +kernel
theorem dX4_changeSetting_35 : decode cX4_changeSetting 35 = .ok (.invokevirtual 69, 3) := by decide +kernel
theorem dX4_changeSetting_38 : decode cX4_changeSetting 38 = .ok (.istore_n 3, 1) := by decide +kernel
theorem dX4_changeSetting_39 : decode cX4_changeSetting 39 = .ok (.aload_n 0, 1) := by decide +kernel
theorem dX4_changeSetting_40 : decode cX4_changeSetting 40 = .ok (.getfield 14, 3) := by decide +kernel
theorem dX4_changeSetting_43 : decode cX4_changeSetting 43 = .ok (.iload_n 1, 1) := by decide +kernel
theorem dX4_changeSetting_44 : decode cX4_changeSetting 44 = .ok (.iload_n 2, 1) := by decide +kernel
theorem dX4_changeSetting_45 : decode cX4_changeSetting 45 = .ok (.invokevirtual 72, 3) := by decide +kernel
theorem dX4_changeSetting_48 : decode cX4_changeSetting 48 = .ok (.iload_n 3, 1) := by decide +kernel
theorem dX4_changeSetting_49 : decode cX4_changeSetting 49 = .ok (.ireturn, 1) := by decide +kernel
theorem dX4_leastOf_0 : decode cX4_leastOf 0 = .ok (.iload_n 0, 1) := by decide +kernel
theorem dX4_leastOf_1 : decode cX4_leastOf 1 = .ok (.ifCond .ne 7, 3) := by decide +kernel
theorem dX4_leastOf_4 : decode cX4_leastOf 4 = .ok (.iconst 0, 1) := by decide +kernel
theorem dX4_leastOf_5 : decode cX4_leastOf 5 = .ok (.goto 4, 3) := by decide +kernel
theorem dX4_leastOf_8 : decode cX4_leastOf 8 = .ok (.iconst 1, 1) := by decide +kernel
theorem dX4_leastOf_9 : decode cX4_leastOf 9 = .ok (.ireturn, 1) := by decide +kernel
theorem dX4_mostOf_0 : decode cX4_mostOf 0 = .ok (.iload_n 0, 1) := by decide +kernel
theorem dX4_mostOf_1 : decode cX4_mostOf 1 = .ok (.ifCond .ne 8, 3) := by decide +kernel
theorem dX4_mostOf_4 : decode cX4_mostOf 4 = .ok (.bipush 8, 2) := by decide +kernel
theorem dX4_mostOf_6 : decode cX4_mostOf 6 = .ok (.goto 15, 3) := by decide +kernel
theorem dX4_mostOf_9 : decode cX4_mostOf 9 = .ok (.iload_n 0, 1) := by decide +kernel
theorem dX4_mostOf_10 : decode cX4_mostOf 10 = .ok (.iconst 1, 1) := by decide +kernel
theorem dX4_mostOf_11 : decode cX4_mostOf 11 = .ok (.if_icmp .ne 8, 3) := by decide +kernel
theorem dX4_mostOf_14 : decode cX4_mostOf 14 = .ok (.bipush 60, 2) := by decide +kernel
theorem dX4_mostOf_16 : decode cX4_mostOf 16 = .ok (.goto 5, 3) := by decide +kernel
theorem dX4_mostOf_19 : decode cX4_mostOf 19 = .ok (.bipush 9, 2) := by decide +kernel
theorem dX4_mostOf_21 : decode cX4_mostOf 21 = .ok (.ireturn, 1) := by decide +kernel
set_option maxRecDepth 20000 in
theorem ggX4_writeLetter_X6_insert : GoodIn wsX4_writeLetter wsX6_insert := goodIn_r _ [8, 9, 10, 11, 12, 13, 14, 21, 22] (by decide +kernel) (by decide +kernel)
set_option maxRecDepth 20000 in
theorem gX4_writeLetter_X6_insert : GoodIn wsX4_writeLetter (wsV RX4 79 RX6 yX6_insert wsX6_insert) := goodIn_app (goodIn_of _ (by decide +kernel)) ggX4_writeLetter_X6_insert
theorem dX4_writeLetter_0 : decode cX4_writeLetter 0 = .ok (.iload_n 1, 1) := by decide +kernel
theorem dX4_writeLetter_1 : decode cX4_writeLetter 1 = .ok (.ifCond .lt 14, 3) := by decide +kernel
theorem dX4_writeLetter_4 : decode cX4_writeLetter 4 = .ok (.iload_n 1, 1) := by decide +kernel
theorem dX4_writeLetter_5 : decode cX4_writeLetter 5 = .ok (.aload_n 0, 1) := by decide +kernel
theorem dX4_writeLetter_6 : decode cX4_writeLetter 6 = .ok (.getfield 20, 3) := by decide +kernel
theorem dX4_writeLetter_9 : decode cX4_writeLetter 9 = .ok (.getfield 76, 3) := by decide +kernel
theorem dX4_writeLetter_12 : decode cX4_writeLetter 12 = .ok (.if_icmp .le 5, 3) := by decide +kernel
theorem dX4_writeLetter_15 : decode cX4_writeLetter 15 = .ok (.iconst (-1), 1) := by decide +kernel
theorem dX4_writeLetter_16 : decode cX4_writeLetter 16 = .ok (.ireturn, 1) := by decide +kernel
theorem dX4_writeLetter_17 : decode cX4_writeLetter 17 = .ok (.iload_n 2, 1) := by decide +kernel
theorem dX4_writeLetter_18 : decode cX4_writeLetter 18 = .ok (.ifCond .lt 9, 3) := by decide +kernel
theorem dX4_writeLetter_21 : decode cX4_writeLetter 21 = .ok (.iload_n 2, 1) := by decide +kernel
theorem dX4_writeLetter_22 : decode cX4_writeLetter 22 = .ok (.bipush 26, 2) := by decide +kernel
theorem dX4_writeLetter_24 : decode cX4_writeLetter 24 = .ok (.if_icmp .lt 6, 3) := by decide +kernel
theorem dX4_writeLetter_27 : decode cX4_writeLetter 27 = .ok (.bipush (-2), 2) := by decide +kernel
theorem dX4_writeLetter_29 : decode cX4_writeLetter 29 = .ok (.ireturn, 1) := by decide +kernel
theorem dX4_writeLetter_30 : decode cX4_writeLetter 30 = .ok (.aload_n 0, 1) := by decide +kernel
theorem dX4_writeLetter_31 : decode cX4_writeLetter 31 = .ok (.getfield 20, 3) := by decide +kernel
theorem dX4_writeLetter_34 : decode cX4_writeLetter 34 = .ok (.getfield 76, 3) := by decide +kernel
theorem dX4_writeLetter_37 : decode cX4_writeLetter 37 = .ok (.bipush 60, 2) := by decide +kernel
theorem dX4_writeLetter_39 : decode cX4_writeLetter 39 = .ok (.if_icmp .lt 6, 3) := by decide +kernel
theorem dX4_writeLetter_42 : decode cX4_writeLetter 42 = .ok (.bipush (-4), 2) := by decide +kernel
theorem dX4_writeLetter_44 : decode cX4_writeLetter 44 = .ok (.ireturn, 1) := by decide +kernel
theorem dX4_writeLetter_45 : decode cX4_writeLetter 45 = .ok (.aload_n 0, 1) := by decide +kernel
theorem dX4_writeLetter_46 : decode cX4_writeLetter 46 = .ok (.getfield 20, 3) := by decide +kernel
theorem dX4_writeLetter_49 : decode cX4_writeLetter 49 = .ok (.iload_n 1, 1) := by decide +kernel
theorem dX4_writeLetter_50 : decode cX4_writeLetter 50 = .ok (.iload_n 2, 1) := by decide +kernel
theorem dX4_writeLetter_51 : decode cX4_writeLetter 51 = .ok (.invokevirtual 79, 3) := by decide +kernel
theorem dX4_writeLetter_54 : decode cX4_writeLetter 54 = .ok (.aload_n 0, 1) := by decide +kernel
theorem dX4_writeLetter_55 : decode cX4_writeLetter 55 = .ok (.getfield 23, 3) := by decide +kernel
theorem dX4_writeLetter_58 : decode cX4_writeLetter 58 = .ok (.iload_n 1, 1) := by decide +kernel
theorem dX4_writeLetter_59 : decode cX4_writeLetter 59 = .ok (.iconst 0, 1) := by decide +kernel
theorem dX4_writeLetter_60 : decode cX4_writeLetter 60 = .ok (.invokevirtual 79, 3) := by decide +kernel
theorem dX4_writeLetter_63 : decode cX4_writeLetter 63 = .ok (.aload_n 0, 1) := by decide +kernel
theorem dX4_writeLetter_64 : decode cX4_writeLetter 64 = .ok (.getfield 20, 3) := by decide +kernel
theorem dX4_writeLetter_67 : decode cX4_writeLetter 67 = .ok (.getfield 76, 3) := by decide +kernel
theorem dX4_writeLetter_70 : decode cX4_writeLetter 70 = .ok (.ireturn, 1) := by decide +kernel
set_option maxRecDepth 20000 in
theorem ggX4_eraseLetters_X4_orphanedBy : GoodIn wsX4_eraseLetters wsX4_orphanedBy := goodIn_r _ [7, 2, 8, 9, 10, 11, 6, 12, 1, 13, 14, 15, 16, 17, 18, 19, 20, 21, 22, 23, 40, 41, 42, 43, 44, 45, 46, 47] (by decide +kernel) (by decide +kernel)
set_option maxRecDepth 20000 in
theorem gX4_eraseLetters_X4_orphanedBy : GoodIn wsX4_eraseLetters (wsV RX4 82 RX4 yX4_orphanedBy wsX4_orphanedBy) := goodIn_app (goodIn_of _ (by decide +kernel)) ggX4_eraseLetters_X4_orphanedBy
set_option maxRecDepth 20000 in
theorem ggX4_eraseLetters_X6_cut : GoodIn wsX4_eraseLetters wsX6_cut := goodIn_r _ [27, 19, 18, 28, 29, 30, 31, 32, 14, 15, 16, 17, 46, 47] (by decide +kernel) (by decide +kernel)
set_option maxRecDepth 20000 in
theorem gX4_eraseLetters_X6_cut : GoodIn wsX4_eraseLetters (wsV RX4 86 RX6 yX6_cut wsX6_cut) := goodIn_app (goodIn_of _ (by decide +kernel)) ggX4_eraseLetters_X6_cut
set_option maxRecDepth 20000 in
theorem ggX4_eraseLetters_J6_bitCount_0f7a4 : GoodIn wsX4_eraseLetters wsJ6_bitCount_0f7a4 := goodIn_r _ [36, 37, 38, 39] (by decide +kernel) (by decide +kernel)
set_option maxRecDepth 20000 in
theorem gX4_eraseLetters_J6_bitCount_0f7a4 : GoodIn wsX4_eraseLetters (va_wsS RX4 89 yJ6_bitCount_0f7a4 wsJ6_bitCount_0f7a4) := goodIn_app (goodIn_of _ (by decide +kernel)) ggX4_eraseLetters_J6_bitCount_0f7a4
theorem dX4_eraseLetters_0 : decode cX4_eraseLetters 0 = .ok (.aload_n 0, 1) := by decide +kernel
theorem dX4_eraseLetters_1 : decode cX4_eraseLetters 1 = .ok (.iload_n 1, 1) := by decide +kernel
theorem dX4_eraseLetters_2 : decode cX4_eraseLetters 2 = .ok (.iload_n 2, 1) := by decide +kernel
theorem dX4_eraseLetters_3 : decode cX4_eraseLetters 3 = .ok (.invokevirtual 82, 3) := by decide +kernel
theorem dX4_eraseLetters_6 : decode cX4_eraseLetters 6 = .ok (.istore_n 3, 1) := by decide +kernel
theorem dX4_eraseLetters_7 : decode cX4_eraseLetters 7 = .ok (.iload_n 3, 1) := by decide +kernel
theorem dX4_eraseLetters_8 : decode cX4_eraseLetters 8 = .ok (.ifCond .ge 5, 3) := by decide +kernel
theorem dX4_eraseLetters_11 : decode cX4_eraseLetters 11 = .ok (.iload_n 3, 1) := by decide +kernel
theorem dX4_eraseLetters_12 : decode cX4_eraseLetters 12 = .ok (.ireturn, 1) := by decide +kernel
theorem dX4_eraseLetters_13 : decode cX4_eraseLetters 13 = .ok (.aload_n 0, 1) := by decide +kernel
theorem dX4_eraseLetters_14 : decode cX4_eraseLetters 14 = .ok (.getfield 20, 3) := by decide +kernel
theorem dX4_eraseLetters_17 : decode cX4_eraseLetters 17 = .ok (.iload_n 1, 1) := by decide +kernel
theorem dX4_eraseLetters_18 : decode cX4_eraseLetters 18 = .ok (.iload_n 2, 1) := by decide +kernel
theorem dX4_eraseLetters_19 : decode cX4_eraseLetters 19 = .ok (.invokevirtual 86, 3) := by decide +kernel
theorem dX4_eraseLetters_22 : decode cX4_eraseLetters 22 = .ok (.aload_n 0, 1) := by decide +kernel
theorem dX4_eraseLetters_23 : decode cX4_eraseLetters 23 = .ok (.getfield 23, 3) := by decide +kernel
theorem dX4_eraseLetters_26 : decode cX4_eraseLetters 26 = .ok (.iload_n 1, 1) := by decide +kernel
theorem dX4_eraseLetters_27 : decode cX4_eraseLetters 27 = .ok (.iload_n 2, 1) := by decide +kernel
theorem dX4_eraseLetters_28 : decode cX4_eraseLetters 28 = .ok (.invokevirtual 86, 3) := by decide +kernel
theorem dX4_eraseLetters_31 : decode cX4_eraseLetters 31 = .ok (.iload_n 3, 1) := by decide +kernel
theorem dX4_eraseLetters_32 : decode cX4_eraseLetters 32 = .ok (.invokestatic 89, 3) := by decide +kernel
theorem dX4_eraseLetters_35 : decode cX4_eraseLetters 35 = .ok (.ireturn, 1) := by decide +kernel
set_option maxRecDepth 20000 in
theorem ggX4_orphanedBy_X4_passageError : GoodIn wsX4_orphanedBy wsX4_passageError := goodIn_r _ [7, 8, 9, 10, 11, 12, 13, 14, 15, 20, 21, 22, 23, 24, 25, 26, 27] (by decide +kernel) (by decide +kernel)
set_option maxRecDepth 20000 in
theorem gX4_orphanedBy_X4_passageError : GoodIn wsX4_orphanedBy (wsV RX4 94 RX4 yX4_passageError wsX4_passageError) := goodIn_app (goodIn_of _ (by decide +kernel)) ggX4_orphanedBy_X4_passageError
set_option maxRecDepth 20000 in
theorem ggX4_orphanedBy_X6_item : GoodIn wsX4_orphanedBy wsX6_item := goodIn_r _ [19, 14, 15, 26, 27] (by decide +kernel) (by decide +kernel)
set_option maxRecDepth 20000 in
theorem gX4_orphanedBy_X6_item : GoodIn wsX4_orphanedBy (wsV RX4 69 RX6 yX6_item wsX6_item) := goodIn_app (goodIn_of _ (by decide +kernel)) ggX4_orphanedBy_X6_item
theorem dX4_orphanedBy_0 : decode cX4_orphanedBy 0 = .ok (.aload_n 0, 1) := by decide +kernel
theorem dX4_orphanedBy_1 : decode cX4_orphanedBy 1 = .ok (.iload_n 1, 1) := by decide +kernel
theorem dX4_orphanedBy_2 : decode cX4_orphanedBy 2 = .ok (.iload_n 2, 1) := by decide +kernel
theorem dX4_orphanedBy_3 : decode cX4_orphanedBy 3 = .ok (.invokevirtual 94, 3) := by decide +kernel
theorem dX4_orphanedBy_6 : decode cX4_orphanedBy 6 = .ok (.istore_n 3, 1) := by decide +kernel
theorem dX4_orphanedBy_7 : decode cX4_orphanedBy 7 = .ok (.iload_n 3, 1) := by decide +kernel
theorem dX4_orphanedBy_8 : decode cX4_orphanedBy 8 = .ok (.ifCond .ge 5, 3) := by decide +kernel
theorem dX4_orphanedBy_11 : decode cX4_orphanedBy 11 = .ok (.iload_n 3, 1) := by decide +kernel
theorem dX4_orphanedBy_12 : decode cX4_orphanedBy 12 = .ok (.ireturn, 1) := by decide +kernel
theorem dX4_orphanedBy_13 : decode cX4_orphanedBy 13 = .ok (.iconst 0, 1) := by decide +kernel
theorem dX4_orphanedBy_14 : decode cX4_orphanedBy 14 = .ok (.istore 4, 2) := by decide +kernel
theorem dX4_orphanedBy_16 : decode cX4_orphanedBy 16 = .ok (.iconst 0, 1) := by decide +kernel
theorem dX4_orphanedBy_17 : decode cX4_orphanedBy 17 = .ok (.istore 5, 2) := by decide +kernel
theorem dX4_orphanedBy_19 : decode cX4_orphanedBy 19 = .ok (.iconst 0, 1) := by decide +kernel
theorem dX4_orphanedBy_20 : decode cX4_orphanedBy 20 = .ok (.istore 6, 2) := by decide +kernel
theorem dX4_orphanedBy_22 : decode cX4_orphanedBy 22 = .ok (.iload 6, 2) := by decide +kernel
theorem dX4_orphanedBy_24 : decode cX4_orphanedBy 24 = .ok (.aload_n 0, 1) := by decide +kernel
theorem dX4_orphanedBy_25 : decode cX4_orphanedBy 25 = .ok (.getfield 23, 3) := by decide +kernel
theorem dX4_orphanedBy_28 : decode cX4_orphanedBy 28 = .ok (.getfield 76, 3) := by decide +kernel
theorem dX4_orphanedBy_31 : decode cX4_orphanedBy 31 = .ok (.if_icmp .ge 52, 3) := by decide +kernel
theorem dX4_orphanedBy_34 : decode cX4_orphanedBy 34 = .ok (.iload 6, 2) := by decide +kernel
theorem dX4_orphanedBy_36 : decode cX4_orphanedBy 36 = .ok (.iload_n 1, 1) := by decide +kernel
theorem dX4_orphanedBy_37 : decode cX4_orphanedBy 37 = .ok (.if_icmp .lt 26, 3) := by decide +kernel
theorem dX4_orphanedBy_40 : decode cX4_orphanedBy 40 = .ok (.iload 6, 2) := by decide +kernel
theorem dX4_orphanedBy_42 : decode cX4_orphanedBy 42 = .ok (.iload_n 2, 1) := by decide +kernel
theorem dX4_orphanedBy_43 : decode cX4_orphanedBy 43 = .ok (.if_icmp .gt 20, 3) := by decide +kernel
theorem dX4_orphanedBy_46 : decode cX4_orphanedBy 46 = .ok (.iload 4, 2) := by decide +kernel
theorem dX4_orphanedBy_48 : decode cX4_orphanedBy 48 = .ok (.aload_n 0, 1) := by decide +kernel
theorem dX4_orphanedBy_49 : decode cX4_orphanedBy 49 = .ok (.getfield 23, 3) := by decide +kernel
theorem dX4_orphanedBy_52 : decode cX4_orphanedBy 52 = .ok (.iload 6, 2) := by decide +kernel
theorem dX4_orphanedBy_54 : decode cX4_orphanedBy 54 = .ok (.invokevirtual 69, 3) := by decide +kernel
theorem dX4_orphanedBy_57 : decode cX4_orphanedBy 57 = .ok (.ior, 1) := by decide +kernel
theorem dX4_orphanedBy_58 : decode cX4_orphanedBy 58 = .ok (.istore 4, 2) := by decide +kernel
theorem dX4_orphanedBy_60 : decode cX4_orphanedBy 60 = .ok (.goto 17, 3) := by decide +kernel
theorem dX4_orphanedBy_63 : decode cX4_orphanedBy 63 = .ok (.iload 5, 2) := by decide +kernel
theorem dX4_orphanedBy_65 : decode cX4_orphanedBy 65 = .ok (.aload_n 0, 1) := by decide +kernel
theorem dX4_orphanedBy_66 : decode cX4_orphanedBy 66 = .ok (.getfield 23, 3) := by decide +kernel
theorem dX4_orphanedBy_69 : decode cX4_orphanedBy 69 = .ok (.iload 6, 2) := by decide +kernel
theorem dX4_orphanedBy_71 : decode cX4_orphanedBy 71 = .ok (.invokevirtual 69, 3) := by decide +kernel
theorem dX4_orphanedBy_74 : decode cX4_orphanedBy 74 = .ok (.ior, 1) := by decide +kernel
theorem dX4_orphanedBy_75 : decode cX4_orphanedBy 75 = .ok (.istore 5, 2) := by decide +kernel
theorem dX4_orphanedBy_77 : decode cX4_orphanedBy 77 = .ok (.iinc 6 1, 3) := by decide +kernel
theorem dX4_orphanedBy_80 : decode cX4_orphanedBy 80 = .ok (.goto (-58), 3) := by decide +kernel
theorem dX4_orphanedBy_83 : decode cX4_orphanedBy 83 = .ok (.iload 4, 2) := by decide +kernel
theorem dX4_orphanedBy_85 : decode cX4_orphanedBy 85 = .ok (.iload 5, 2) := by decide +kernel
theorem dX4_orphanedBy_87 : decode cX4_orphanedBy 87 = .ok (.iconst (-1), 1) := by decide +kernel
theorem dX4_orphanedBy_88 : decode cX4_orphanedBy 88 = .ok (.ixor, 1) := by decide +kernel
theorem dX4_orphanedBy_89 : decode cX4_orphanedBy 89 = .ok (.iand, 1) := by decide +kernel
theorem dX4_orphanedBy_90 : decode cX4_orphanedBy 90 = .ok (.ireturn, 1) := by decide +kernel
set_option maxRecDepth 20000 in
theorem ggX4_moveLetters_X4_passageError : GoodIn wsX4_moveLetters wsX4_passageError := goodIn_r _ [8, 1, 9, 10, 11, 12, 13, 14, 15, 57, 58, 59, 60, 61, 62, 63, 64] (by decide +kernel) (by decide +kernel)
set_option maxRecDepth 20000 in
theorem gX4_moveLetters_X4_passageError : GoodIn wsX4_moveLetters (wsV RX4 94 RX4 yX4_passageError wsX4_passageError) := goodIn_app (goodIn_of _ (by decide +kernel)) ggX4_moveLetters_X4_passageError
set_option maxRecDepth 20000 in
theorem ggX4_moveLetters_X6_shift : GoodIn wsX4_moveLetters wsX6_shift := goodIn_r _ [19, 20, 21, 22, 12, 23, 24, 25, 26, 27, 15, 28, 10, 11, 13, 14, 63, 64] (by decide +kernel) (by decide +kernel)
set_option maxRecDepth 20000 in
theorem gX4_moveLetters_X6_shift : GoodIn wsX4_moveLetters (wsV RX4 97 RX6 yX6_shift wsX6_shift) := goodIn_app (goodIn_of _ (by decide +kernel)) ggX4_moveLetters_X6_shift
set_option maxRecDepth 20000 in
theorem ggX4_moveLetters_X4_countParted : GoodIn wsX4_moveLetters wsX4_countParted := goodIn_r _ [32, 33, 34, 35, 36, 37, 7, 38, 39, 3, 40, 41, 42, 43, 44, 45, 46, 47, 48, 49, 50, 51, 52, 12, 53, 14, 15, 54, 55, 56, 57, 58, 59, 60, 61, 62, 65, 66, 67, 68, 63, 64] (by decide +kernel) (by decide +kernel)
set_option maxRecDepth 20000 in
theorem gX4_moveLetters_X4_countParted : GoodIn wsX4_moveLetters (wsV RX4 101 RX4 yX4_countParted wsX4_countParted) := goodIn_app (goodIn_of _ (by decide +kernel)) ggX4_moveLetters_X4_countParted
theorem dX4_moveLetters_0 : decode cX4_moveLetters 0 = .ok (.aload_n 0, 1) := by decide +kernel
theorem dX4_moveLetters_1 : decode cX4_moveLetters 1 = .ok (.iload_n 1, 1) := by decide +kernel
theorem dX4_moveLetters_2 : decode cX4_moveLetters 2 = .ok (.iload_n 2, 1) := by decide +kernel
theorem dX4_moveLetters_3 : decode cX4_moveLetters 3 = .ok (.invokevirtual 94, 3) := by decide +kernel
theorem dX4_moveLetters_6 : decode cX4_moveLetters 6 = .ok (.istore 4, 2) := by decide +kernel
theorem dX4_moveLetters_8 : decode cX4_moveLetters 8 = .ok (.iload 4, 2) := by decide +kernel
theorem dX4_moveLetters_10 : decode cX4_moveLetters 10 = .ok (.ifCond .ge 6, 3) := by decide +kernel
theorem dX4_moveLetters_13 : decode cX4_moveLetters 13 = .ok (.iload 4, 2) := by decide +kernel
theorem dX4_moveLetters_15 : decode cX4_moveLetters 15 = .ok (.ireturn, 1) := by decide +kernel
theorem dX4_moveLetters_16 : decode cX4_moveLetters 16 = .ok (.aload_n 0, 1) := by decide +kernel
theorem dX4_moveLetters_17 : decode cX4_moveLetters 17 = .ok (.getfield 20, 3) := by decide +kernel
theorem dX4_moveLetters_20 : decode cX4_moveLetters 20 = .ok (.getfield 76, 3) := by decide +kernel
theorem dX4_moveLetters_23 : decode cX4_moveLetters 23 = .ok (.iload_n 2, 1) := by decide +kernel
theorem dX4_moveLetters_24 : decode cX4_moveLetters 24 = .ok (.iload_n 1, 1) := by decide +kernel
theorem dX4_moveLetters_25 : decode cX4_moveLetters 25 = .ok (.isub, 1) := by decide +kernel
theorem dX4_moveLetters_26 : decode cX4_moveLetters 26 = .ok (.iconst 1, 1) := by decide +kernel
theorem dX4_moveLetters_27 : decode cX4_moveLetters 27 = .ok (.iadd, 1) := by decide +kernel
theorem dX4_moveLetters_28 : decode cX4_moveLetters 28 = .ok (.isub, 1) := by decide +kernel
theorem dX4_moveLetters_29 : decode cX4_moveLetters 29 = .ok (.istore 5, 2) := by decide +kernel
theorem dX4_moveLetters_31 : decode cX4_moveLetters 31 = .ok (.iload_n 3, 1) := by decide +kernel
theorem dX4_moveLetters_32 : decode cX4_moveLetters 32 = .ok (.ifCond .lt 9, 3) := by decide +kernel
theorem dX4_moveLetters_35 : decode cX4_moveLetters 35 = .ok (.iload_n 3, 1) := by decide +kernel
theorem dX4_moveLetters_36 : decode cX4_moveLetters 36 = .ok (.iload 5, 2) := by decide +kernel
theorem dX4_moveLetters_38 : decode cX4_moveLetters 38 = .ok (.if_icmp .le 6, 3) := by decide +kernel
theorem dX4_moveLetters_41 : decode cX4_moveLetters 41 = .ok (.bipush (-2), 2) := by decide +kernel
theorem dX4_moveLetters_43 : decode cX4_moveLetters 43 = .ok (.ireturn, 1) := by decide +kernel
theorem dX4_moveLetters_44 : decode cX4_moveLetters 44 = .ok (.aload_n 0, 1) := by decide +kernel
theorem dX4_moveLetters_45 : decode cX4_moveLetters 45 = .ok (.getfield 20, 3) := by decide +kernel
theorem dX4_moveLetters_48 : decode cX4_moveLetters 48 = .ok (.iload_n 1, 1) := by decide +kernel
theorem dX4_moveLetters_49 : decode cX4_moveLetters 49 = .ok (.iload_n 2, 1) := by decide +kernel
theorem dX4_moveLetters_50 : decode cX4_moveLetters 50 = .ok (.iload_n 3, 1) := by decide +kernel
theorem dX4_moveLetters_51 : decode cX4_moveLetters 51 = .ok (.invokevirtual 97, 3) := by decide +kernel
theorem dX4_moveLetters_54 : decode cX4_moveLetters 54 = .ok (.aload_n 0, 1) := by decide +kernel
theorem dX4_moveLetters_55 : decode cX4_moveLetters 55 = .ok (.getfield 23, 3) := by decide +kernel
theorem dX4_moveLetters_58 : decode cX4_moveLetters 58 = .ok (.iload_n 1, 1) := by decide +kernel
theorem dX4_moveLetters_59 : decode cX4_moveLetters 59 = .ok (.iload_n 2, 1) := by decide +kernel
theorem dX4_moveLetters_60 : decode cX4_moveLetters 60 = .ok (.iload_n 3, 1) := by decide +kernel
theorem dX4_moveLetters_61 : decode cX4_moveLetters 61 = .ok (.invokevirtual 97, 3) := by decide +kernel
theorem dX4_moveLetters_64 : decode cX4_moveLetters 64 = .ok (.aload_n 0, 1) := by decide +kernel
theorem dX4_moveLetters_65 : decode cX4_moveLetters 65 = .ok (.invokevirtual 101, 3) := by decide +kernel
theorem dX4_moveLetters_68 : decode cX4_moveLetters 68 = .ok (.ireturn, 1) := by decide +kernel
set_option maxRecDepth 20000 in
theorem ggX4_passageError_X6_has : GoodIn wsX4_passageError wsX6_has := goodIn_r _ [6, 7, 8, 15, 16] (by decide +kernel) (by decide +kernel)
set_option maxRecDepth 20000 in
theorem gX4_passageError_X6_has : GoodIn wsX4_passageError (wsV RX4 58 RX6 yX6_has wsX6_has) := goodIn_app (goodIn_of _ (by decide +kernel)) ggX4_passageError_X6_has
theorem dX4_passageError_0 : decode cX4_passageError 0 = .ok (.aload_n 0, 1) := by decide +kernel
theorem dX4_passageError_1 : decode cX4_passageError 1 = .ok (.getfield 20, 3) := by decide +kernel
theorem dX4_passageError_4 : decode cX4_passageError 4 = .ok (.iload_n 1, 1) := by decide +kernel
theorem dX4_passageError_5 : decode cX4_passageError 5 = .ok (.invokevirtual 58, 3) := by decide +kernel
theorem dX4_passageError_8 : decode cX4_passageError 8 = .ok (.ifCond .eq 14, 3) := by decide +kernel
theorem dX4_passageError_11 : decode cX4_passageError 11 = .ok (.aload_n 0, 1) := by decide +kernel
theorem dX4_passageError_12 : decode cX4_passageError 12 = .ok (.getfield 20, 3) := by decide +kernel
theorem dX4_passageError_15 : decode cX4_passageError 15 = .ok (.iload_n 2, 1) := by decide +kernel
theorem dX4_passageError_16 : decode cX4_passageError 16 = .ok (.invokevirtual 58, 3) := by decide +kernel
theorem dX4_passageError_19 : decode cX4_passageError 19 = .ok (.ifCond .ne 5, 3) := by decide +kernel
theorem dX4_passageError_22 : decode cX4_passageError 22 = .ok (.iconst (-1), 1) := by decide +kernel
theorem dX4_passageError_23 : decode cX4_passageError 23 = .ok (.ireturn, 1) := by decide +kernel
theorem dX4_passageError_24 : decode cX4_passageError 24 = .ok (.iload_n 2, 1) := by decide +kernel
theorem dX4_passageError_25 : decode cX4_passageError 25 = .ok (.iload_n 1, 1) := by decide +kernel
theorem dX4_passageError_26 : decode cX4_passageError 26 = .ok (.if_icmp .ge 8, 3) := by decide +kernel
theorem dX4_passageError_29 : decode cX4_passageError 29 = .ok (.bipush (-2), 2) := by decide +kernel
theorem dX4_passageError_31 : decode cX4_passageError 31 = .ok (.goto 4, 3) := by decide +kernel
theorem dX4_passageError_34 : decode cX4_passageError 34 = .ok (.iconst 0, 1) := by decide +kernel
theorem dX4_passageError_35 : decode cX4_passageError 35 = .ok (.ireturn, 1) := by decide +kernel
theorem dX4_find_0 : decode cX4_find 0 = .ok (.iload_n 1, 1) := by decide +kernel
theorem dX4_find_1 : decode cX4_find 1 = .ok (.ifCond .lt 29, 3) := by decide +kernel
theorem dX4_find_4 : decode cX4_find 4 = .ok (.iload_n 1, 1) := by decide +kernel
theorem dX4_find_5 : decode cX4_find 5 = .ok (.aload_n 0, 1) := by decide +kernel
theorem dX4_find_6 : decode cX4_find 6 = .ok (.getfield 47, 3) := by decide +kernel
theorem dX4_find_9 : decode cX4_find 9 = .ok (.if_icmp .ge 21, 3) := by decide +kernel
theorem dX4_find_12 : decode cX4_find 12 = .ok (.iload_n 1, 1) := by decide +kernel
theorem dX4_find_13 : decode cX4_find 13 = .ok (.aload_n 0, 1) := by decide +kernel
theorem dX4_find_14 : decode cX4_find 14 = .ok (.getfield 28, 3) := by decide +kernel
theorem dX4_find_17 : decode cX4_find 17 = .ok (.arraylength, 1) := by decide +kernel
theorem dX4_find_18 : decode cX4_find 18 = .ok (.if_icmp .ge 12, 3) := by decide +kernel
theorem dX4_find_21 : decode cX4_find 21 = .ok (.aload_n 0, 1) := by decide +kernel
theorem dX4_find_22 : decode cX4_find 22 = .ok (.getfield 28, 3) := by decide +kernel
theorem dX4_find_25 : decode cX4_find 25 = .ok (.iload_n 1, 1) := by decide +kernel
theorem dX4_find_26 : decode cX4_find 26 = .ok (.aaload, 1) := by decide +kernel
theorem dX4_find_27 : decode cX4_find 27 = .ok (.goto 4, 3) := by decide +kernel
theorem dX4_find_30 : decode cX4_find 30 = .ok (.aconst_null, 1) := by decide +kernel
theorem dX4_find_31 : decode cX4_find 31 = .ok (.areturn, 1) := by decide +kernel
set_option maxRecDepth 20000 in
theorem ggX4_addNote_X4_passageError : GoodIn wsX4_addNote wsX4_passageError := goodIn_r _ [6, 7, 8, 9, 10, 11, 12, 13, 14, 58, 59, 60, 61, 62, 63, 64, 65] (by decide +kernel) (by decide +kernel)
set_option maxRecDepth 20000 in
theorem gX4_addNote_X4_passageError : GoodIn wsX4_addNote (wsV RX4 94 RX4 yX4_passageError wsX4_passageError) := goodIn_app (goodIn_of _ (by decide +kernel)) ggX4_addNote_X4_passageError
set_option maxRecDepth 20000 in
theorem ggX4_addNote_X4_anchor : GoodIn wsX4_addNote wsX4_anchor := goodIn_r _ [18, 7, 19, 20, 21, 22, 23, 24, 5, 25, 1, 26, 27, 28, 29, 11, 30, 13, 14, 31, 32, 33, 34, 35, 36, 37, 38, 39, 40, 41, 42, 43, 44, 45, 46, 47, 48, 9, 10, 12, 49, 50, 51, 52, 53, 54, 55, 56, 57, 58, 59, 60, 61, 62, 63, 64, 65, 66, 67, 68, 69] (by decide +kernel) (by decide +kernel)
set_option maxRecDepth 20000 in
theorem gX4_addNote_X4_anchor : GoodIn wsX4_addNote (wsV RX4 105 RX4 yX4_anchor wsX4_anchor) := goodIn_app (goodIn_of _ (by decide +kernel)) ggX4_addNote_X4_anchor
theorem dX4_addNote_0 : decode cX4_addNote 0 = .ok (.aload_n 0, 1) := by decide +kernel
theorem dX4_addNote_1 : decode cX4_addNote 1 = .ok (.iload_n 1, 1) := by decide +kernel
theorem dX4_addNote_2 : decode cX4_addNote 2 = .ok (.iload_n 2, 1) := by decide +kernel
theorem dX4_addNote_3 : decode cX4_addNote 3 = .ok (.invokevirtual 94, 3) := by decide +kernel
theorem dX4_addNote_6 : decode cX4_addNote 6 = .ok (.istore_n 3, 1) := by decide +kernel
theorem dX4_addNote_7 : decode cX4_addNote 7 = .ok (.iload_n 3, 1) := by decide +kernel
theorem dX4_addNote_8 : decode cX4_addNote 8 = .ok (.ifCond .ge 5, 3) := by decide +kernel
theorem dX4_addNote_11 : decode cX4_addNote 11 = .ok (.iload_n 3, 1) := by decide +kernel
theorem dX4_addNote_12 : decode cX4_addNote 12 = .ok (.ireturn, 1) := by decide +kernel
theorem dX4_addNote_13 : decode cX4_addNote 13 = .ok (.aload_n 0, 1) := by decide +kernel
theorem dX4_addNote_14 : decode cX4_addNote 14 = .ok (.getfield 47, 3) := by decide +kernel
theorem dX4_addNote_17 : decode cX4_addNote 17 = .ok (.bipush 16, 2) := by decide +kernel
theorem dX4_addNote_19 : decode cX4_addNote 19 = .ok (.if_icmp .lt 6, 3) := by decide +kernel
theorem dX4_addNote_22 : decode cX4_addNote 22 = .ok (.bipush (-4), 2) := by decide +kernel
theorem dX4_addNote_24 : decode cX4_addNote 24 = .ok (.ireturn, 1) := by decide +kernel
theorem dX4_addNote_25 : decode cX4_addNote 25 = .ok (.aload_n 0, 1) := by decide +kernel
theorem dX4_addNote_26 : decode cX4_addNote 26 = .ok (.getfield 47, 3) := by decide +kernel
theorem dX4_addNote_29 : decode cX4_addNote 29 = .ok (.istore 4, 2) := by decide +kernel
theorem dX4_addNote_31 : decode cX4_addNote 31 = .ok (.aload_n 0, 1) := by decide +kernel
theorem dX4_addNote_32 : decode cX4_addNote 32 = .ok (.dup, 1) := by decide +kernel
theorem dX4_addNote_33 : decode cX4_addNote 33 = .ok (.getfield 47, 3) := by decide +kernel
theorem dX4_addNote_36 : decode cX4_addNote 36 = .ok (.iconst 1, 1) := by decide +kernel
theorem dX4_addNote_37 : decode cX4_addNote 37 = .ok (.iadd, 1) := by decide +kernel
theorem dX4_addNote_38 : decode cX4_addNote 38 = .ok (.putfield 47, 3) := by decide +kernel
theorem dX4_addNote_41 : decode cX4_addNote 41 = .ok (.aload_n 0, 1) := by decide +kernel
theorem dX4_addNote_42 : decode cX4_addNote 42 = .ok (.iload 4, 2) := by decide +kernel
theorem dX4_addNote_44 : decode cX4_addNote 44 = .ok (.iload_n 1, 1) := by decide +kernel
theorem dX4_addNote_45 : decode cX4_addNote 45 = .ok (.iload_n 2, 1) := by decide +kernel
theorem dX4_addNote_46 : decode cX4_addNote 46 = .ok (.invokevirtual 105, 3) := by decide +kernel
theorem dX4_addNote_49 : decode cX4_addNote 49 = .ok (.iload 4, 2) := by decide +kernel
theorem dX4_addNote_51 : decode cX4_addNote 51 = .ok (.ireturn, 1) := by decide +kernel
set_option maxRecDepth 20000 in
theorem ggX4_anchor_X4_find : GoodIn wsX4_anchor wsX4_find := goodIn_r _ [9, 10, 11, 49, 50, 51, 52, 53, 54] (by decide +kernel) (by decide +kernel)
set_option maxRecDepth 20000 in
theorem gX4_anchor_X4_find : GoodIn wsX4_anchor (wsV RX4 51 RX4 yX4_find wsX4_find) := goodIn_app (goodIn_of _ (by decide +kernel)) ggX4_anchor_X4_find
set_option maxRecDepth 20000 in
theorem ggX4_anchor_X6_item : GoodIn wsX4_anchor wsX6_item := goodIn_r _ [16, 17, 18, 55, 56] (by decide +kernel) (by decide +kernel)
set_option maxRecDepth 20000 in
theorem gX4_anchor_X6_item : GoodIn wsX4_anchor (wsV RX4 69 RX6 yX6_item wsX6_item) := goodIn_app (goodIn_of _ (by decide +kernel)) ggX4_anchor_X6_item
set_option maxRecDepth 20000 in
theorem ggX4_anchor_X2_remember : GoodIn wsX4_anchor wsX2_remember := goodIn_r _ [23, 24, 25, 26, 27, 28, 29, 30, 15, 31, 32, 33, 34, 35, 17, 36, 37, 38, 39, 18, 40, 13, 14, 16, 41, 42, 43, 44, 57, 58, 59, 60, 55, 56] (by decide +kernel) (by decide +kernel)
set_option maxRecDepth 20000 in
theorem gX4_anchor_X2_remember : GoodIn wsX4_anchor (wsV RX4 108 RX2 yX2_remember wsX2_remember) := goodIn_app (goodIn_of _ (by decide +kernel)) ggX4_anchor_X2_remember
set_option maxRecDepth 20000 in
theorem ggX4_anchor_X6_replace : GoodIn wsX4_anchor wsX6_replace := goodIn_r _ [48, 18, 36, 37, 38, 15, 39, 17, 55, 56] (by decide +kernel) (by decide +kernel)
set_option maxRecDepth 20000 in
theorem gX4_anchor_X6_replace : GoodIn wsX4_anchor (wsV RX4 72 RX6 yX6_replace wsX6_replace) := goodIn_app (goodIn_of _ (by decide +kernel)) ggX4_anchor_X6_replace
theorem dX4_anchor_0 : decode cX4_anchor 0 = .ok (.aload_n 0, 1) := by decide +kernel
theorem dX4_anchor_1 : decode cX4_anchor 1 = .ok (.iload_n 1, 1) := by decide +kernel
theorem dX4_anchor_2 : decode cX4_anchor 2 = .ok (.invokevirtual 51, 3) := by decide +kernel
theorem dX4_anchor_5 : decode cX4_anchor 5 = .ok (.astore 4, 2) := by decide +kernel
theorem dX4_anchor_7 : decode cX4_anchor 7 = .ok (.aload 4, 2) := by decide +kernel
theorem dX4_anchor_9 : decode cX4_anchor 9 = .ok (.ifnonnull 4, 3) := by decide +kernel
theorem dX4_anchor_12 : decode cX4_anchor 12 = .ok (.return_, 1) := by decide +kernel
theorem dX4_anchor_13 : decode cX4_anchor 13 = .ok (.aload 4, 2) := by decide +kernel
theorem dX4_anchor_15 : decode cX4_anchor 15 = .ok (.aload_n 0, 1) := by decide +kernel
theorem dX4_anchor_16 : decode cX4_anchor 16 = .ok (.getfield 20, 3) := by decide +kernel
theorem dX4_anchor_19 : decode cX4_anchor 19 = .ok (.iload_n 2, 1) := by decide +kernel
theorem dX4_anchor_20 : decode cX4_anchor 20 = .ok (.iload_n 3, 1) := by decide +kernel
theorem dX4_anchor_21 : decode cX4_anchor 21 = .ok (.aload_n 0, 1) := by decide +kernel
theorem dX4_anchor_22 : decode cX4_anchor 22 = .ok (.getfield 14, 3) := by decide +kernel
theorem dX4_anchor_25 : decode cX4_anchor 25 = .ok (.iconst 0, 1) := by decide +kernel
theorem dX4_anchor_26 : decode cX4_anchor 26 = .ok (.invokevirtual 69, 3) := by decide +kernel
theorem dX4_anchor_29 : decode cX4_anchor 29 = .ok (.invokevirtual 108, 3) := by decide +kernel
theorem dX4_anchor_32 : decode cX4_anchor 32 = .ok (.iload_n 2, 1) := by decide +kernel
theorem dX4_anchor_33 : decode cX4_anchor 33 = .ok (.istore 5, 2) := by decide +kernel
theorem dX4_anchor_35 : decode cX4_anchor 35 = .ok (.iload 5, 2) := by decide +kernel
theorem dX4_anchor_37 : decode cX4_anchor 37 = .ok (.iload_n 3, 1) := by decide +kernel
theorem dX4_anchor_38 : decode cX4_anchor 38 = .ok (.if_icmp .gt 43, 3) := by decide +kernel
theorem dX4_anchor_41 : decode cX4_anchor 41 = .ok (.iload 5, 2) := by decide +kernel
theorem dX4_anchor_43 : decode cX4_anchor 43 = .ok (.aload_n 0, 1) := by decide +kernel
theorem dX4_anchor_44 : decode cX4_anchor 44 = .ok (.getfield 23, 3) := by decide +kernel
theorem dX4_anchor_47 : decode cX4_anchor 47 = .ok (.getfield 76, 3) := by decide +kernel
theorem dX4_anchor_50 : decode cX4_anchor 50 = .ok (.if_icmp .ge 31, 3) := by decide +kernel
theorem dX4_anchor_53 : decode cX4_anchor 53 = .ok (.aload_n 0, 1) := by decide +kernel
theorem dX4_anchor_54 : decode cX4_anchor 54 = .ok (.getfield 23, 3) := by decide +kernel
theorem dX4_anchor_57 : decode cX4_anchor 57 = .ok (.iload 5, 2) := by decide +kernel
theorem dX4_anchor_59 : decode cX4_anchor 59 = .ok (.aload_n 0, 1) := by decide +kernel
theorem dX4_anchor_60 : decode cX4_anchor 60 = .ok (.getfield 23, 3) := by decide +kernel
theorem dX4_anchor_63 : decode cX4_anchor 63 = .ok (.iload 5, 2) := by decide +kernel
theorem dX4_anchor_65 : decode cX4_anchor 65 = .ok (.invokevirtual 69, 3) := by decide +kernel
theorem dX4_anchor_68 : decode cX4_anchor 68 = .ok (.iconst 1, 1) := by decide +kernel
theorem dX4_anchor_69 : decode cX4_anchor 69 = .ok (.iload_n 1, 1) := by decide +kernel
theorem dX4_anchor_70 : decode cX4_anchor 70 = .ok (.ishl, 1) := by decide +kernel
theorem dX4_anchor_71 : decode cX4_anchor 71 = .ok (.ior, 1) := by decide +kernel
theorem dX4_anchor_72 : decode cX4_anchor 72 = .ok (.invokevirtual 72, 3) := by decide +kernel
theorem dX4_anchor_75 : decode cX4_anchor 75 = .ok (.iinc 5 1, 3) := by decide +kernel
theorem dX4_anchor_78 : decode cX4_anchor 78 = .ok (.goto (-43), 3) := by decide +kernel
theorem dX4_anchor_81 : decode cX4_anchor 81 = .ok (.return_, 1) := by decide +kernel
set_option maxRecDepth 20000 in
theorem ggX4_addReply_X4_find : GoodIn wsX4_addReply wsX4_find := goodIn_r _ [6, 1, 7, 23, 24, 25, 26, 27, 28] (by decide +kernel) (by decide +kernel)
set_option maxRecDepth 20000 in
theorem gX4_addReply_X4_find : GoodIn wsX4_addReply (wsV RX4 51 RX4 yX4_find wsX4_find) := goodIn_app (goodIn_of _ (by decide +kernel)) ggX4_addReply_X4_find
set_option maxRecDepth 20000 in
theorem ggX4_addReply_X2_becomeReply : GoodIn wsX4_addReply wsX2_becomeReply := goodIn_r _ [12, 13, 14, 15, 16, 17, 18, 19, 20, 21, 22, 29, 30, 31, 32, 33, 34] (by decide +kernel) (by decide +kernel)
set_option maxRecDepth 20000 in
theorem gX4_addReply_X2_becomeReply : GoodIn wsX4_addReply (wsV RX4 112 RX2 yX2_becomeReply wsX2_becomeReply) := goodIn_app (goodIn_of _ (by decide +kernel)) ggX4_addReply_X2_becomeReply
theorem dX4_addReply_0 : decode cX4_addReply 0 = .ok (.aload_n 0, 1) := by decide +kernel
theorem dX4_addReply_1 : decode cX4_addReply 1 = .ok (.iload_n 1, 1) := by decide +kernel
theorem dX4_addReply_2 : decode cX4_addReply 2 = .ok (.invokevirtual 51, 3) := by decide +kernel
theorem dX4_addReply_5 : decode cX4_addReply 5 = .ok (.ifnonnull 5, 3) := by decide +kernel
theorem dX4_addReply_8 : decode cX4_addReply 8 = .ok (.iconst (-1), 1) := by decide +kernel
theorem dX4_addReply_9 : decode cX4_addReply 9 = .ok (.ireturn, 1) := by decide +kernel
theorem dX4_addReply_10 : decode cX4_addReply 10 = .ok (.aload_n 0, 1) := by decide +kernel
theorem dX4_addReply_11 : decode cX4_addReply 11 = .ok (.getfield 47, 3) := by decide +kernel
theorem dX4_addReply_14 : decode cX4_addReply 14 = .ok (.bipush 16, 2) := by decide +kernel
theorem dX4_addReply_16 : decode cX4_addReply 16 = .ok (.if_icmp .lt 6, 3) := by decide +kernel
theorem dX4_addReply_19 : decode cX4_addReply 19 = .ok (.bipush (-4), 2) := by decide +kernel
theorem dX4_addReply_21 : decode cX4_addReply 21 = .ok (.ireturn, 1) := by decide +kernel
theorem dX4_addReply_22 : decode cX4_addReply 22 = .ok (.aload_n 0, 1) := by decide +kernel
theorem dX4_addReply_23 : decode cX4_addReply 23 = .ok (.getfield 47, 3) := by decide +kernel
theorem dX4_addReply_26 : decode cX4_addReply 26 = .ok (.istore_n 2, 1) := by decide +kernel
theorem dX4_addReply_27 : decode cX4_addReply 27 = .ok (.aload_n 0, 1) := by decide +kernel
theorem dX4_addReply_28 : decode cX4_addReply 28 = .ok (.dup, 1) := by decide +kernel
theorem dX4_addReply_29 : decode cX4_addReply 29 = .ok (.getfield 47, 3) := by decide +kernel
theorem dX4_addReply_32 : decode cX4_addReply 32 = .ok (.iconst 1, 1) := by decide +kernel
theorem dX4_addReply_33 : decode cX4_addReply 33 = .ok (.iadd, 1) := by decide +kernel
theorem dX4_addReply_34 : decode cX4_addReply 34 = .ok (.putfield 47, 3) := by decide +kernel
theorem dX4_addReply_37 : decode cX4_addReply 37 = .ok (.aload_n 0, 1) := by decide +kernel
theorem dX4_addReply_38 : decode cX4_addReply 38 = .ok (.iload_n 2, 1) := by decide +kernel
theorem dX4_addReply_39 : decode cX4_addReply 39 = .ok (.invokevirtual 51, 3) := by decide +kernel
theorem dX4_addReply_42 : decode cX4_addReply 42 = .ok (.astore_n 3, 1) := by decide +kernel
theorem dX4_addReply_43 : decode cX4_addReply 43 = .ok (.aload_n 3, 1) := by decide +kernel
theorem dX4_addReply_44 : decode cX4_addReply 44 = .ok (.ifnull 8, 3) := by decide +kernel
theorem dX4_addReply_47 : decode cX4_addReply 47 = .ok (.aload_n 3, 1) := by decide +kernel
theorem dX4_addReply_48 : decode cX4_addReply 48 = .ok (.iload_n 1, 1) := by decide +kernel
theorem dX4_addReply_49 : decode cX4_addReply 49 = .ok (.invokevirtual 112, 3) := by decide +kernel
theorem dX4_addReply_52 : decode cX4_addReply 52 = .ok (.iload_n 2, 1) := by decide +kernel
theorem dX4_addReply_53 : decode cX4_addReply 53 = .ok (.ireturn, 1) := by decide +kernel
set_option maxRecDepth 20000 in
theorem ggX4_dropFamily_X4_find : GoodIn wsX4_dropFamily wsX4_find := goodIn_r _ [6, 1, 7, 44, 45, 46, 47, 48, 49] (by decide +kernel) (by decide +kernel)
set_option maxRecDepth 20000 in
theorem gX4_dropFamily_X4_find : GoodIn wsX4_dropFamily (wsV RX4 51 RX4 yX4_find wsX4_find) := goodIn_app (goodIn_of _ (by decide +kernel)) ggX4_dropFamily_X4_find
set_option maxRecDepth 20000 in
theorem ggX4_dropFamily_X4_family : GoodIn wsX4_dropFamily wsX4_family := goodIn_r _ [11, 1, 12, 2, 3, 4, 5, 6, 7, 13, 14, 15, 44, 45, 46, 47, 48, 49, 50, 51, 52, 53] (by decide +kernel) (by decide +kernel)
set_option maxRecDepth 20000 in
theorem gX4_dropFamily_X4_family : GoodIn wsX4_dropFamily (wsV RX4 115 RX4 yX4_family wsX4_family) := goodIn_app (goodIn_of _ (by decide +kernel)) ggX4_dropFamily_X4_family
set_option maxRecDepth 20000 in
theorem ggX4_dropFamily_X8_isIn : GoodIn wsX4_dropFamily wsX8_isIn := goodIn_r _ [15] (by decide +kernel) (by decide +kernel)
set_option maxRecDepth 20000 in
theorem gX4_dropFamily_X8_isIn_n118 : GoodIn wsX4_dropFamily (wsX8_isIn) := ggX4_dropFamily_X8_isIn
set_option maxRecDepth 20000 in
theorem ggX4_dropFamily_X4_remove : GoodIn wsX4_dropFamily wsX4_remove := goodIn_r _ [19, 1, 7, 12, 20, 21, 2, 3, 4, 5, 6, 22, 23, 24, 25, 26, 27, 28, 29, 30, 31, 32, 33, 34, 35, 36, 44, 45, 46, 47, 48, 49, 50, 51, 52, 53, 54, 55] (by decide +kernel) (by decide +kernel)
set_option maxRecDepth 20000 in
theorem gX4_dropFamily_X4_remove : GoodIn wsX4_dropFamily (wsV RX4 122 RX4 yX4_remove wsX4_remove) := goodIn_app (goodIn_of _ (by decide +kernel)) ggX4_dropFamily_X4_remove
set_option maxRecDepth 20000 in
theorem ggX4_dropFamily_J6_bitCount_0f7a4 : GoodIn wsX4_dropFamily wsJ6_bitCount_0f7a4 := goodIn_r _ [40, 41, 42, 43] (by decide +kernel) (by decide +kernel)
set_option maxRecDepth 20000 in
theorem gX4_dropFamily_J6_bitCount_0f7a4 : GoodIn wsX4_dropFamily (va_wsS RX4 89 yJ6_bitCount_0f7a4 wsJ6_bitCount_0f7a4) := goodIn_app (goodIn_of _ (by decide +kernel)) ggX4_dropFamily_J6_bitCount_0f7a4
theorem dX4_dropFamily_0 : decode cX4_dropFamily 0 = .ok (.aload_n 0, 1) := by decide +kernel
theorem dX4_dropFamily_1 : decode cX4_dropFamily 1 = .ok (.iload_n 1, 1) := by decide +kernel
theorem dX4_dropFamily_2 : decode cX4_dropFamily 2 = .ok (.invokevirtual 51, 3) := by decide +kernel
theorem dX4_dropFamily_5 : decode cX4_dropFamily 5 = .ok (.ifnonnull 5, 3) := by decide +kernel
theorem dX4_dropFamily_8 : decode cX4_dropFamily 8 = .ok (.iconst (-1), 1) := by decide +kernel
theorem dX4_dropFamily_9 : decode cX4_dropFamily 9 = .ok (.ireturn, 1) := by decide +kernel
theorem dX4_dropFamily_10 : decode cX4_dropFamily 10 = .ok (.aload_n 0, 1) := by decide +kernel
theorem dX4_dropFamily_11 : decode cX4_dropFamily 11 = .ok (.iload_n 1, 1) := by decide +kernel
theorem dX4_dropFamily_12 : decode cX4_dropFamily 12 = .ok (.invokevirtual 115, 3) := by decide +kernel
theorem dX4_dropFamily_15 : decode cX4_dropFamily 15 = .ok (.istore_n 2, 1) := by decide +kernel
theorem dX4_dropFamily_16 : decode cX4_dropFamily 16 = .ok (.aload_n 0, 1) := by decide +kernel
theorem dX4_dropFamily_17 : decode cX4_dropFamily 17 = .ok (.getfield 47, 3) := by decide +kernel
theorem dX4_dropFamily_20 : decode cX4_dropFamily 20 = .ok (.iconst 1, 1) := by decide +kernel
theorem dX4_dropFamily_21 : decode cX4_dropFamily 21 = .ok (.isub, 1) := by decide +kernel
theorem dX4_dropFamily_22 : decode cX4_dropFamily 22 = .ok (.istore_n 3, 1) := by decide +kernel
theorem dX4_dropFamily_23 : decode cX4_dropFamily 23 = .ok (.iload_n 3, 1) := by decide +kernel
theorem dX4_dropFamily_24 : decode cX4_dropFamily 24 = .ok (.iload_n 1, 1) := by decide +kernel
theorem dX4_dropFamily_25 : decode cX4_dropFamily 25 = .ok (.if_icmp .lt 22, 3) := by decide +kernel
theorem dX4_dropFamily_28 : decode cX4_dropFamily 28 = .ok (.iload_n 2, 1) := by decide +kernel
theorem dX4_dropFamily_29 : decode cX4_dropFamily 29 = .ok (.iload_n 3, 1) := by decide +kernel
theorem dX4_dropFamily_30 : decode cX4_dropFamily 30 = .ok (.invokestatic 118, 3) := by decide +kernel
theorem dX4_dropFamily_33 : decode cX4_dropFamily 33 = .ok (.ifCond .eq 8, 3) := by decide +kernel
theorem dX4_dropFamily_36 : decode cX4_dropFamily 36 = .ok (.aload_n 0, 1) := by decide +kernel
theorem dX4_dropFamily_37 : decode cX4_dropFamily 37 = .ok (.iload_n 3, 1) := by decide +kernel
theorem dX4_dropFamily_38 : decode cX4_dropFamily 38 = .ok (.invokevirtual 122, 3) := by decide +kernel
theorem dX4_dropFamily_41 : decode cX4_dropFamily 41 = .ok (.iinc 3 (-1), 3) := by decide +kernel
theorem dX4_dropFamily_44 : decode cX4_dropFamily 44 = .ok (.goto (-21), 3) := by decide +kernel
theorem dX4_dropFamily_47 : decode cX4_dropFamily 47 = .ok (.iload_n 2, 1) := by decide +kernel
theorem dX4_dropFamily_48 : decode cX4_dropFamily 48 = .ok (.invokestatic 89, 3) := by decide +kernel
theorem dX4_dropFamily_51 : decode cX4_dropFamily 51 = .ok (.ireturn, 1) := by decide +kernel
set_option maxRecDepth 20000 in
theorem ggX4_remove_X4_find : GoodIn wsX4_remove wsX4_find := goodIn_r _ [10, 1, 2, 26, 27, 28, 29, 30, 31] (by decide +kernel) (by decide +kernel)
set_option maxRecDepth 20000 in
theorem gX4_remove_X4_find : GoodIn wsX4_remove (wsV RX4 51 RX4 yX4_find wsX4_find) := goodIn_app (goodIn_of _ (by decide +kernel)) ggX4_remove_X4_find
set_option maxRecDepth 20000 in
theorem ggX4_remove_X6_item : GoodIn wsX4_remove wsX6_item := goodIn_r _ [15, 16, 17, 36, 37] (by decide +kernel) (by decide +kernel)
set_option maxRecDepth 20000 in
theorem gX4_remove_X6_item : GoodIn wsX4_remove (wsV RX4 69 RX6 yX6_item wsX6_item) := goodIn_app (goodIn_of _ (by decide +kernel)) ggX4_remove_X6_item
set_option maxRecDepth 20000 in
theorem ggX4_remove_X6_replace : GoodIn wsX4_remove wsX6_replace := goodIn_r _ [21, 17, 22, 23, 24, 14, 25, 16, 36, 37] (by decide +kernel) (by decide +kernel)
set_option maxRecDepth 20000 in
theorem gX4_remove_X6_replace : GoodIn wsX4_remove (wsV RX4 72 RX6 yX6_replace wsX6_replace) := goodIn_app (goodIn_of _ (by decide +kernel)) ggX4_remove_X6_replace
theorem dX4_remove_0 : decode cX4_remove 0 = .ok (.aload_n 0, 1) := by decide +kernel
theorem dX4_remove_1 : decode cX4_remove 1 = .ok (.iload_n 1, 1) := by decide +kernel
theorem dX4_remove_2 : decode cX4_remove 2 = .ok (.invokevirtual 51, 3) := by decide +kernel
theorem dX4_remove_5 : decode cX4_remove 5 = .ok (.astore_n 2, 1) := by decide +kernel
theorem dX4_remove_6 : decode cX4_remove 6 = .ok (.aload_n 2, 1) := by decide +kernel
theorem dX4_remove_7 : decode cX4_remove 7 = .ok (.ifnonnull 4, 3) := by decide +kernel
theorem dX4_remove_10 : decode cX4_remove 10 = .ok (.return_, 1) := by decide +kernel
theorem dX4_remove_11 : decode cX4_remove 11 = .ok (.aload_n 0, 1) := by decide +kernel
theorem dX4_remove_12 : decode cX4_remove 12 = .ok (.dup, 1) := by decide +kernel
theorem dX4_remove_13 : decode cX4_remove 13 = .ok (.getfield 47, 3) := by decide +kernel
theorem dX4_remove_16 : decode cX4_remove 16 = .ok (.iconst 1, 1) := by decide +kernel
theorem dX4_remove_17 : decode cX4_remove 17 = .ok (.isub, 1) := by decide +kernel
theorem dX4_remove_18 : decode cX4_remove 18 = .ok (.putfield 47, 3) := by decide +kernel
theorem dX4_remove_21 : decode cX4_remove 21 = .ok (.iload_n 1, 1) := by decide +kernel
theorem dX4_remove_22 : decode cX4_remove 22 = .ok (.istore_n 3, 1) := by decide +kernel
theorem dX4_remove_23 : decode cX4_remove 23 = .ok (.iload_n 3, 1) := by decide +kernel
theorem dX4_remove_24 : decode cX4_remove 24 = .ok (.aload_n 0, 1) := by decide +kernel
theorem dX4_remove_25 : decode cX4_remove 25 = .ok (.getfield 47, 3) := by decide +kernel
theorem dX4_remove_28 : decode cX4_remove 28 = .ok (.if_icmp .ge 63, 3) := by decide +kernel
theorem dX4_remove_31 : decode cX4_remove 31 = .ok (.iload_n 3, 1) := by decide +kernel
theorem dX4_remove_32 : decode cX4_remove 32 = .ok (.iconst 1, 1) := by decide +kernel
theorem dX4_remove_33 : decode cX4_remove 33 = .ok (.iadd, 1) := by decide +kernel
theorem dX4_remove_34 : decode cX4_remove 34 = .ok (.aload_n 0, 1) := by decide +kernel
theorem dX4_remove_35 : decode cX4_remove 35 = .ok (.getfield 28, 3) := by decide +kernel
theorem dX4_remove_38 : decode cX4_remove 38 = .ok (.arraylength, 1) := by decide +kernel
theorem dX4_remove_39 : decode cX4_remove 39 = .ok (.if_icmp .ge 52, 3) := by decide +kernel
theorem dX4_remove_42 : decode cX4_remove 42 = .ok (.aload_n 0, 1) := by decide +kernel
theorem dX4_remove_43 : decode cX4_remove 43 = .ok (.getfield 28, 3) := by decide +kernel
theorem dX4_remove_46 : decode cX4_remove 46 = .ok (.iload_n 3, 1) := by decide +kernel
theorem dX4_remove_47 : decode cX4_remove 47 = .ok (.iconst 1, 1) := by decide +kernel
theorem dX4_remove_48 : decode cX4_remove 48 = .ok (.iadd, 1) := by decide +kernel
theorem dX4_remove_49 : decode cX4_remove 49 = .ok (.aaload, 1) := by decide +kernel
theorem dX4_remove_50 : decode cX4_remove 50 = .ok (.astore 4, 2) := by decide +kernel
theorem dX4_remove_52 : decode cX4_remove 52 = .ok (.aload_n 0, 1) := by decide +kernel
theorem dX4_remove_53 : decode cX4_remove 53 = .ok (.getfield 28, 3) := by decide +kernel
theorem dX4_remove_56 : decode cX4_remove 56 = .ok (.iload_n 3, 1) := by decide +kernel
theorem dX4_remove_57 : decode cX4_remove 57 = .ok (.aload 4, 2) := by decide +kernel
theorem dX4_remove_59 : decode cX4_remove 59 = .ok (.aastore, 1) := by decide +kernel
theorem dX4_remove_60 : decode cX4_remove 60 = .ok (.aload 4, 2) := by decide +kernel
theorem dX4_remove_62 : decode cX4_remove 62 = .ok (.ifnull 23, 3) := by decide +kernel
theorem dX4_remove_65 : decode cX4_remove 65 = .ok (.aload 4, 2) := by decide +kernel
theorem dX4_remove_67 : decode cX4_remove 67 = .ok (.getfield 125, 3) := by decide +kernel
theorem dX4_remove_70 : decode cX4_remove 70 = .ok (.iload_n 1, 1) := by decide +kernel
theorem dX4_remove_71 : decode cX4_remove 71 = .ok (.if_icmp .le 14, 3) := by decide +kernel
theorem dX4_remove_74 : decode cX4_remove 74 = .ok (.aload 4, 2) := by decide +kernel
theorem dX4_remove_76 : decode cX4_remove 76 = .ok (.dup, 1) := by decide +kernel
theorem dX4_remove_77 : decode cX4_remove 77 = .ok (.getfield 125, 3) := by decide +kernel
theorem dX4_remove_80 : decode cX4_remove 80 = .ok (.iconst 1, 1) := by decide +kernel
theorem dX4_remove_81 : decode cX4_remove 81 = .ok (.isub, 1) := by decide +kernel
theorem dX4_remove_82 : decode cX4_remove 82 = .ok (.putfield 125, 3) := by decide +kernel
theorem dX4_remove_85 : decode cX4_remove 85 = .ok (.iinc 3 1, 3) := by decide +kernel
theorem dX4_remove_88 : decode cX4_remove 88 = .ok (.goto (-65), 3) := by decide +kernel
theorem dX4_remove_91 : decode cX4_remove 91 = .ok (.aload_n 0, 1) := by decide +kernel
theorem dX4_remove_92 : decode cX4_remove 92 = .ok (.getfield 47, 3) := by decide +kernel
theorem dX4_remove_95 : decode cX4_remove 95 = .ok (.aload_n 0, 1) := by decide +kernel
theorem dX4_remove_96 : decode cX4_remove 96 = .ok (.getfield 28, 3) := by decide +kernel
theorem dX4_remove_99 : decode cX4_remove 99 = .ok (.arraylength, 1) := by decide +kernel
theorem dX4_remove_100 : decode cX4_remove 100 = .ok (.if_icmp .ge 13, 3) := by decide +kernel
theorem dX4_remove_103 : decode cX4_remove 103 = .ok (.aload_n 0, 1) := by decide +kernel
theorem dX4_remove_104 : decode cX4_remove 104 = .ok (.getfield 28, 3) := by decide +kernel
theorem dX4_remove_107 : decode cX4_remove 107 = .ok (.aload_n 0, 1) := by decide +kernel
theorem dX4_remove_108 : decode cX4_remove 108 = .ok (.getfield 47, 3) := by decide +kernel
theorem dX4_remove_111 : decode cX4_remove 111 = .ok (.aload_n 2, 1) := by decide +kernel
theorem dX4_remove_112 : decode cX4_remove 112 = .ok (.aastore, 1) := by decide +kernel
theorem dX4_remove_113 : decode cX4_remove 113 = .ok (.iconst 1, 1) := by decide +kernel
theorem dX4_remove_114 : decode cX4_remove 114 = .ok (.iload_n 1, 1) := by decide +kernel
theorem dX4_remove_115 : decode cX4_remove 115 = .ok (.ishl, 1) := by decide +kernel
theorem dX4_remove_116 : decode cX4_remove 116 = .ok (.iconst 1, 1) := by decide +kernel
theorem dX4_remove_117 : decode cX4_remove 117 = .ok (.isub, 1) := by decide +kernel
theorem dX4_remove_118 : decode cX4_remove 118 = .ok (.istore_n 3, 1) := by decide +kernel
theorem dX4_remove_119 : decode cX4_remove 119 = .ok (.iconst 0, 1) := by decide +kernel
theorem dX4_remove_120 : decode cX4_remove 120 = .ok (.istore 4, 2) := by decide +kernel
theorem dX4_remove_122 : decode cX4_remove 122 = .ok (.iload 4, 2) := by decide +kernel
theorem dX4_remove_124 : decode cX4_remove 124 = .ok (.aload_n 0, 1) := by decide +kernel
theorem dX4_remove_125 : decode cX4_remove 125 = .ok (.getfield 23, 3) := by decide +kernel
theorem dX4_remove_128 : decode cX4_remove 128 = .ok (.getfield 76, 3) := by decide +kernel
theorem dX4_remove_131 : decode cX4_remove 131 = .ok (.if_icmp .ge 42, 3) := by decide +kernel
theorem dX4_remove_134 : decode cX4_remove 134 = .ok (.aload_n 0, 1) := by decide +kernel
theorem dX4_remove_135 : decode cX4_remove 135 = .ok (.getfield 23, 3) := by decide +kernel
theorem dX4_remove_138 : decode cX4_remove 138 = .ok (.iload 4, 2) := by decide +kernel
theorem dX4_remove_140 : decode cX4_remove 140 = .ok (.invokevirtual 69, 3) := by decide +kernel
theorem dX4_remove_143 : decode cX4_remove 143 = .ok (.istore 5, 2) := by decide +kernel
theorem dX4_remove_145 : decode cX4_remove 145 = .ok (.aload_n 0, 1) := by decide +kernel
theorem dX4_remove_146 : decode cX4_remove 146 = .ok (.getfield 23, 3) := by decide +kernel
theorem dX4_remove_149 : decode cX4_remove 149 = .ok (.iload 4, 2) := by decide +kernel
theorem dX4_remove_151 : decode cX4_remove 151 = .ok (.iload 5, 2) := by decide +kernel
theorem dX4_remove_153 : decode cX4_remove 153 = .ok (.iload_n 3, 1) := by decide +kernel
theorem dX4_remove_154 : decode cX4_remove 154 = .ok (.iand, 1) := by decide +kernel
theorem dX4_remove_155 : decode cX4_remove 155 = .ok (.iload 5, 2) := by decide +kernel
theorem dX4_remove_157 : decode cX4_remove 157 = .ok (.iconst 1, 1) := by decide +kernel
theorem dX4_remove_158 : decode cX4_remove 158 = .ok (.ishr, 1) := by decide +kernel
theorem dX4_remove_159 : decode cX4_remove 159 = .ok (.iload_n 3, 1) := by decide +kernel
theorem dX4_remove_160 : decode cX4_remove 160 = .ok (.iconst (-1), 1) := by decide +kernel
theorem dX4_remove_161 : decode cX4_remove 161 = .ok (.ixor, 1) := by decide +kernel
theorem dX4_remove_162 : decode cX4_remove 162 = .ok (.iand, 1) := by decide +kernel
theorem dX4_remove_163 : decode cX4_remove 163 = .ok (.ior, 1) := by decide +kernel
theorem dX4_remove_164 : decode cX4_remove 164 = .ok (.invokevirtual 72, 3) := by decide +kernel
theorem dX4_remove_167 : decode cX4_remove 167 = .ok (.iinc 4 1, 3) := by decide +kernel
theorem dX4_remove_170 : decode cX4_remove 170 = .ok (.goto (-48), 3) := by decide +kernel
theorem dX4_remove_173 : decode cX4_remove 173 = .ok (.return_, 1) := by decide +kernel
set_option maxRecDepth 20000 in
theorem ggX4_reclaimNote_X4_find : GoodIn wsX4_reclaimNote wsX4_find := goodIn_r _ [10, 11, 12, 100, 101, 102, 103, 104, 105] (by decide +kernel) (by decide +kernel)
set_option maxRecDepth 20000 in
theorem gX4_reclaimNote_X4_find : GoodIn wsX4_reclaimNote (wsV RX4 51 RX4 yX4_find wsX4_find) := goodIn_app (goodIn_of _ (by decide +kernel)) ggX4_reclaimNote_X4_find
set_option maxRecDepth 20000 in
theorem ggX4_reclaimNote_X4_state : GoodIn wsX4_reclaimNote wsX4_state := goodIn_r _ [16, 17, 6, 7, 8, 9, 10, 11, 12, 18, 19, 20, 21, 22, 23, 24, 25, 26, 27, 28, 29, 30, 31, 32, 33, 34, 35, 36, 37, 38, 39, 40, 41, 42, 43, 44, 45, 46, 47, 48, 49, 115, 116, 117, 118, 100, 101, 102, 103, 104, 105, 109, 110, 111, 112, 113, 114] (by decide +kernel) (by decide +kernel)
set_option maxRecDepth 20000 in
theorem gX4_reclaimNote_X4_state : GoodIn wsX4_reclaimNote (wsV RX4 128 RX4 yX4_state wsX4_state) := goodIn_app (goodIn_of _ (by decide +kernel)) ggX4_reclaimNote_X4_state
set_option maxRecDepth 20000 in
theorem ggX4_reclaimNote_X7_look : GoodIn wsX4_reclaimNote wsX7_look := goodIn_r _ [54, 55, 56, 57, 58, 59, 60, 61, 62, 63, 64, 43, 65, 45, 66, 41, 42, 44, 46, 106, 107, 108, 109, 110, 111, 112, 113, 114] (by decide +kernel) (by decide +kernel)
set_option maxRecDepth 20000 in
theorem gX4_reclaimNote_X7_look : GoodIn wsX4_reclaimNote (wsV RX4 131 RX7 yX7_look wsX7_look) := goodIn_app (goodIn_of _ (by decide +kernel)) ggX4_reclaimNote_X7_look
set_option maxRecDepth 20000 in
theorem ggX4_reclaimNote_X4_anchor : GoodIn wsX4_reclaimNote wsX4_anchor := goodIn_r _ [70, 1, 71, 29, 5, 6, 7, 8, 9, 10, 11, 12, 72, 41, 42, 43, 44, 45, 46, 73, 74, 75, 21, 76, 23, 77, 78, 79, 80, 81, 82, 83, 84, 85, 86, 87, 88, 89, 90, 91, 66, 92, 93, 94, 95, 96, 97, 98, 99, 100, 101, 102, 103, 104, 105, 113, 114, 109, 110, 111, 112] (by decide +kernel) (by decide +kernel)
set_option maxRecDepth 20000 in
theorem gX4_reclaimNote_X4_anchor : GoodIn wsX4_reclaimNote (wsV RX4 105 RX4 yX4_anchor wsX4_anchor) := goodIn_app (goodIn_of _ (by decide +kernel)) ggX4_reclaimNote_X4_anchor
theorem dX4_reclaimNote_0 : decode cX4_reclaimNote 0 = .ok (.aload_n 0, 1) := by decide +kernel
theorem dX4_reclaimNote_1 : decode cX4_reclaimNote 1 = .ok (.iload_n 1, 1) := by decide +kernel
theorem dX4_reclaimNote_2 : decode cX4_reclaimNote 2 = .ok (.invokevirtual 51, 3) := by decide +kernel
theorem dX4_reclaimNote_5 : decode cX4_reclaimNote 5 = .ok (.astore_n 3, 1) := by decide +kernel
theorem dX4_reclaimNote_6 : decode cX4_reclaimNote 6 = .ok (.aload_n 3, 1) := by decide +kernel
theorem dX4_reclaimNote_7 : decode cX4_reclaimNote 7 = .ok (.ifnonnull 5, 3) := by decide +kernel
theorem dX4_reclaimNote_10 : decode cX4_reclaimNote 10 = .ok (.iconst (-1), 1) := by decide +kernel
theorem dX4_reclaimNote_11 : decode cX4_reclaimNote 11 = .ok (.ireturn, 1) := by decide +kernel
theorem dX4_reclaimNote_12 : decode cX4_reclaimNote 12 = .ok (.aload_n 0, 1) := by decide +kernel
theorem dX4_reclaimNote_13 : decode cX4_reclaimNote 13 = .ok (.iload_n 1, 1) := by decide +kernel
theorem dX4_reclaimNote_14 : decode cX4_reclaimNote 14 = .ok (.invokevirtual 128, 3) := by decide +kernel
theorem dX4_reclaimNote_17 : decode cX4_reclaimNote 17 = .ok (.iconst 1, 1) := by decide +kernel
theorem dX4_reclaimNote_18 : decode cX4_reclaimNote 18 = .ok (.if_icmp .eq 6, 3) := by decide +kernel
theorem dX4_reclaimNote_21 : decode cX4_reclaimNote 21 = .ok (.bipush (-5), 2) := by decide +kernel
theorem dX4_reclaimNote_23 : decode cX4_reclaimNote 23 = .ok (.ireturn, 1) := by decide +kernel
theorem dX4_reclaimNote_24 : decode cX4_reclaimNote 24 = .ok (.aload_n 2, 1) := by decide +kernel
theorem dX4_reclaimNote_25 : decode cX4_reclaimNote 25 = .ok (.aload_n 0, 1) := by decide +kernel
theorem dX4_reclaimNote_26 : decode cX4_reclaimNote 26 = .ok (.getfield 20, 3) := by decide +kernel
theorem dX4_reclaimNote_29 : decode cX4_reclaimNote 29 = .ok (.aload_n 3, 1) := by decide +kernel
theorem dX4_reclaimNote_30 : decode cX4_reclaimNote 30 = .ok (.invokevirtual 131, 3) := by decide +kernel
theorem dX4_reclaimNote_33 : decode cX4_reclaimNote 33 = .ok (.aload_n 2, 1) := by decide +kernel
theorem dX4_reclaimNote_34 : decode cX4_reclaimNote 34 = .ok (.getfield 137, 3) := by decide +kernel
theorem dX4_reclaimNote_37 : decode cX4_reclaimNote 37 = .ok (.ifCond .ne 6, 3) := by decide +kernel
theorem dX4_reclaimNote_40 : decode cX4_reclaimNote 40 = .ok (.bipush (-5), 2) := by decide +kernel
theorem dX4_reclaimNote_42 : decode cX4_reclaimNote 42 = .ok (.ireturn, 1) := by decide +kernel
theorem dX4_reclaimNote_43 : decode cX4_reclaimNote 43 = .ok (.aload_n 0, 1) := by decide +kernel
theorem dX4_reclaimNote_44 : decode cX4_reclaimNote 44 = .ok (.iload_n 1, 1) := by decide +kernel
theorem dX4_reclaimNote_45 : decode cX4_reclaimNote 45 = .ok (.aload_n 2, 1) := by decide +kernel
theorem dX4_reclaimNote_46 : decode cX4_reclaimNote 46 = .ok (.getfield 140, 3) := by decide +kernel
theorem dX4_reclaimNote_49 : decode cX4_reclaimNote 49 = .ok (.aload_n 2, 1) := by decide +kernel
theorem dX4_reclaimNote_50 : decode cX4_reclaimNote 50 = .ok (.getfield 140, 3) := by decide +kernel
theorem dX4_reclaimNote_53 : decode cX4_reclaimNote 53 = .ok (.aload_n 3, 1) := by decide +kernel
theorem dX4_reclaimNote_54 : decode cX4_reclaimNote 54 = .ok (.getfield 143, 3) := by decide +kernel
theorem dX4_reclaimNote_57 : decode cX4_reclaimNote 57 = .ok (.getfield 76, 3) := by decide +kernel
theorem dX4_reclaimNote_60 : decode cX4_reclaimNote 60 = .ok (.iadd, 1) := by decide +kernel
theorem dX4_reclaimNote_61 : decode cX4_reclaimNote 61 = .ok (.iconst 1, 1) := by decide +kernel
theorem dX4_reclaimNote_62 : decode cX4_reclaimNote 62 = .ok (.isub, 1) := by decide +kernel
theorem dX4_reclaimNote_63 : decode cX4_reclaimNote 63 = .ok (.invokevirtual 105, 3) := by decide +kernel
theorem dX4_reclaimNote_66 : decode cX4_reclaimNote 66 = .ok (.aload_n 2, 1) := by decide +kernel
theorem dX4_reclaimNote_67 : decode cX4_reclaimNote 67 = .ok (.getfield 140, 3) := by decide +kernel
theorem dX4_reclaimNote_70 : decode cX4_reclaimNote 70 = .ok (.ireturn, 1) := by decide +kernel
set_option maxRecDepth 20000 in
theorem ggX4_state_X4_find : GoodIn wsX4_state wsX4_find := goodIn_r _ [6, 7, 8, 45, 46, 47, 48, 49, 50] (by decide +kernel) (by decide +kernel)
set_option maxRecDepth 20000 in
theorem gX4_state_X4_find : GoodIn wsX4_state (wsV RX4 51 RX4 yX4_find wsX4_find) := goodIn_app (goodIn_of _ (by decide +kernel)) ggX4_state_X4_find
set_option maxRecDepth 20000 in
theorem ggX4_state_X2_isReply : GoodIn wsX4_state wsX2_isReply := goodIn_r _ [13, 14, 51, 52, 53, 54] (by decide +kernel) (by decide +kernel)
set_option maxRecDepth 20000 in
theorem gX4_state_X2_isReply : GoodIn wsX4_state (wsV RX4 146 RX2 yX2_isReply wsX2_isReply) := goodIn_app (goodIn_of _ (by decide +kernel)) ggX4_state_X2_isReply
set_option maxRecDepth 20000 in
theorem ggX4_state_X4_piecesOf : GoodIn wsX4_state wsX4_piecesOf := goodIn_r _ [18, 19, 20, 21, 22, 23, 24, 25, 26, 27, 28, 29, 30, 31, 32, 33, 34, 35, 36, 37, 38, 39, 40, 45, 46, 47, 48, 49, 50, 41, 42, 43, 44, 55, 56] (by decide +kernel) (by decide +kernel)
set_option maxRecDepth 20000 in
theorem gX4_state_X4_piecesOf : GoodIn wsX4_state (wsV RX4 150 RX4 yX4_piecesOf wsX4_piecesOf) := goodIn_app (goodIn_of _ (by decide +kernel)) ggX4_state_X4_piecesOf
theorem dX4_state_0 : decode cX4_state 0 = .ok (.aload_n 0, 1) := by decide +kernel
theorem dX4_state_1 : decode cX4_state 1 = .ok (.iload_n 1, 1) := by decide +kernel
theorem dX4_state_2 : decode cX4_state 2 = .ok (.invokevirtual 51, 3) := by decide +kernel
theorem dX4_state_5 : decode cX4_state 5 = .ok (.astore_n 2, 1) := by decide +kernel
theorem dX4_state_6 : decode cX4_state 6 = .ok (.aload_n 2, 1) := by decide +kernel
theorem dX4_state_7 : decode cX4_state 7 = .ok (.ifnull 12, 3) := by decide +kernel
theorem dX4_state_10 : decode cX4_state 10 = .ok (.aload_n 2, 1) := by decide +kernel
theorem dX4_state_11 : decode cX4_state 11 = .ok (.invokevirtual 146, 3) := by decide +kernel
theorem dX4_state_14 : decode cX4_state 14 = .ok (.ifCond .eq 5, 3) := by decide +kernel
theorem dX4_state_17 : decode cX4_state 17 = .ok (.iconst 2, 1) := by decide +kernel
theorem dX4_state_18 : decode cX4_state 18 = .ok (.ireturn, 1) := by decide +kernel
theorem dX4_state_19 : decode cX4_state 19 = .ok (.aload_n 0, 1) := by decide +kernel
theorem dX4_state_20 : decode cX4_state 20 = .ok (.iload_n 1, 1) := by decide +kernel
theorem dX4_state_21 : decode cX4_state 21 = .ok (.invokevirtual 150, 3) := by decide +kernel
theorem dX4_state_24 : decode cX4_state 24 = .ok (.getfield 154, 3) := by decide +kernel
theorem dX4_state_27 : decode cX4_state 27 = .ok (.ifCond .le 7, 3) := by decide +kernel
theorem dX4_state_30 : decode cX4_state 30 = .ok (.iconst 0, 1) := by decide +kernel
theorem dX4_state_31 : decode cX4_state 31 = .ok (.goto 4, 3) := by decide +kernel
theorem dX4_state_34 : decode cX4_state 34 = .ok (.iconst 1, 1) := by decide +kernel
theorem dX4_state_35 : decode cX4_state 35 = .ok (.ireturn, 1) := by decide +kernel
set_option maxRecDepth 20000 in
theorem ggX4_piecesOf_X5_gather : GoodIn wsX4_piecesOf wsX5_gather := goodIn_r _ [7, 8, 9, 10, 11, 12, 13, 14, 15, 16, 17, 18, 19, 20, 21, 22, 29, 30, 31, 32, 33, 34] (by decide +kernel) (by decide +kernel)
set_option maxRecDepth 20000 in
theorem gX4_piecesOf_X5_gather : GoodIn wsX4_piecesOf (wsV RX4 156 RX5 yX5_gather wsX5_gather) := goodIn_app (goodIn_of _ (by decide +kernel)) ggX4_piecesOf_X5_gather
theorem dX4_piecesOf_0 : decode cX4_piecesOf 0 = .ok (.aload_n 0, 1) := by decide +kernel
theorem dX4_piecesOf_1 : decode cX4_piecesOf 1 = .ok (.getfield 35, 3) := by decide +kernel
theorem dX4_piecesOf_4 : decode cX4_piecesOf 4 = .ok (.aload_n 0, 1) := by decide +kernel
theorem dX4_piecesOf_5 : decode cX4_piecesOf 5 = .ok (.getfield 23, 3) := by decide +kernel
theorem dX4_piecesOf_8 : decode cX4_piecesOf 8 = .ok (.iload_n 1, 1) := by decide +kernel
theorem dX4_piecesOf_9 : decode cX4_piecesOf 9 = .ok (.invokevirtual 156, 3) := by decide +kernel
theorem dX4_piecesOf_12 : decode cX4_piecesOf 12 = .ok (.aload_n 0, 1) := by decide +kernel
theorem dX4_piecesOf_13 : decode cX4_piecesOf 13 = .ok (.getfield 35, 3) := by decide +kernel
theorem dX4_piecesOf_16 : decode cX4_piecesOf 16 = .ok (.areturn, 1) := by decide +kernel
set_option maxRecDepth 20000 in
theorem ggX4_depth_X4_find : GoodIn wsX4_depth wsX4_find := goodIn_r _ [6, 7, 8, 19, 20, 21, 22, 23, 24] (by decide +kernel) (by decide +kernel)
set_option maxRecDepth 20000 in
theorem gX4_depth_X4_find : GoodIn wsX4_depth (wsV RX4 51 RX4 yX4_find wsX4_find) := goodIn_app (goodIn_of _ (by decide +kernel)) ggX4_depth_X4_find
set_option maxRecDepth 20000 in
theorem ggX4_depth_X2_isReply : GoodIn wsX4_depth wsX2_isReply := goodIn_r _ [13, 14, 15, 16, 17, 18] (by decide +kernel) (by decide +kernel)
set_option maxRecDepth 20000 in
theorem gX4_depth_X2_isReply : GoodIn wsX4_depth (wsV RX4 146 RX2 yX2_isReply wsX2_isReply) := goodIn_app (goodIn_of _ (by decide +kernel)) ggX4_depth_X2_isReply
theorem dX4_depth_0 : decode cX4_depth 0 = .ok (.iconst 0, 1) := by decide +kernel
theorem dX4_depth_1 : decode cX4_depth 1 = .ok (.istore_n 2, 1) := by decide +kernel
theorem dX4_depth_2 : decode cX4_depth 2 = .ok (.aload_n 0, 1) := by decide +kernel
theorem dX4_depth_3 : decode cX4_depth 3 = .ok (.iload_n 1, 1) := by decide +kernel
theorem dX4_depth_4 : decode cX4_depth 4 = .ok (.invokevirtual 51, 3) := by decide +kernel
theorem dX4_depth_7 : decode cX4_depth 7 = .ok (.astore_n 3, 1) := by decide +kernel
theorem dX4_depth_8 : decode cX4_depth 8 = .ok (.iload_n 2, 1) := by decide +kernel
theorem dX4_depth_9 : decode cX4_depth 9 = .ok (.bipush 16, 2) := by decide +kernel
theorem dX4_depth_11 : decode cX4_depth 11 = .ok (.if_icmp .ge 29, 3) := by decide +kernel
theorem dX4_depth_14 : decode cX4_depth 14 = .ok (.aload_n 3, 1) := by decide +kernel
theorem dX4_depth_15 : decode cX4_depth 15 = .ok (.ifnull 25, 3) := by decide +kernel
theorem dX4_depth_18 : decode cX4_depth 18 = .ok (.aload_n 3, 1) := by decide +kernel
theorem dX4_depth_19 : decode cX4_depth 19 = .ok (.invokevirtual 146, 3) := by decide +kernel
theorem dX4_depth_22 : decode cX4_depth 22 = .ok (.ifCond .eq 18, 3) := by decide +kernel
theorem dX4_depth_25 : decode cX4_depth 25 = .ok (.iinc 2 1, 3) := by decide +kernel
theorem dX4_depth_28 : decode cX4_depth 28 = .ok (.aload_n 0, 1) := by decide +kernel
theorem dX4_depth_29 : decode cX4_depth 29 = .ok (.aload_n 3, 1) := by decide +kernel
theorem dX4_depth_30 : decode cX4_depth 30 = .ok (.getfield 125, 3) := by decide +kernel
theorem dX4_depth_33 : decode cX4_depth 33 = .ok (.invokevirtual 51, 3) := by decide +kernel
theorem dX4_depth_36 : decode cX4_depth 36 = .ok (.astore_n 3, 1) := by decide +kernel
theorem dX4_depth_37 : decode cX4_depth 37 = .ok (.goto (-29), 3) := by decide +kernel
theorem dX4_depth_40 : decode cX4_depth 40 = .ok (.iload_n 2, 1) := by decide +kernel
theorem dX4_depth_41 : decode cX4_depth 41 = .ok (.ireturn, 1) := by decide +kernel
set_option maxRecDepth 20000 in
theorem ggX4_root_X4_depth : GoodIn wsX4_root wsX4_depth := goodIn_r _ [6, 1, 7, 8, 9, 5, 10, 11, 12, 13, 14, 15, 16, 17, 18, 19, 20, 21, 22, 23, 24, 25, 26, 27, 28] (by decide +kernel) (by decide +kernel)
set_option maxRecDepth 20000 in
theorem gX4_root_X4_depth : GoodIn wsX4_root (wsV RX4 160 RX4 yX4_depth wsX4_depth) := goodIn_app (goodIn_of _ (by decide +kernel)) ggX4_root_X4_depth
set_option maxRecDepth 20000 in
theorem ggX4_root_X4_find : GoodIn wsX4_root wsX4_find := goodIn_r _ [10, 11, 12, 23, 24, 25, 26, 27, 28] (by decide +kernel) (by decide +kernel)
set_option maxRecDepth 20000 in
theorem gX4_root_X4_find : GoodIn wsX4_root (wsV RX4 51 RX4 yX4_find wsX4_find) := goodIn_app (goodIn_of _ (by decide +kernel)) ggX4_root_X4_find
theorem dX4_root_0 : decode cX4_root 0 = .ok (.iload_n 1, 1) := by decide +kernel
theorem dX4_root_1 : decode cX4_root 1 = .ok (.istore_n 2, 1) := by decide +kernel
theorem dX4_root_2 : decode cX4_root 2 = .ok (.aload_n 0, 1) := by decide +kernel
theorem dX4_root_3 : decode cX4_root 3 = .ok (.iload_n 1, 1) := by decide +kernel
theorem dX4_root_4 : decode cX4_root 4 = .ok (.invokevirtual 160, 3) := by decide +kernel
theorem dX4_root_7 : decode cX4_root 7 = .ok (.istore_n 3, 1) := by decide +kernel
theorem dX4_root_8 : decode cX4_root 8 = .ok (.iload_n 3, 1) := by decide +kernel
theorem dX4_root_9 : decode cX4_root 9 = .ok (.ifCond .le 31, 3) := by decide +kernel
theorem dX4_root_12 : decode cX4_root 12 = .ok (.aload_n 0, 1) := by decide +kernel
theorem dX4_root_13 : decode cX4_root 13 = .ok (.iload_n 2, 1) := by decide +kernel
theorem dX4_root_14 : decode cX4_root 14 = .ok (.invokevirtual 51, 3) := by decide +kernel
theorem dX4_root_17 : decode cX4_root 17 = .ok (.astore 4, 2) := by decide +kernel
theorem dX4_root_19 : decode cX4_root 19 = .ok (.aload 4, 2) := by decide +kernel
theorem dX4_root_21 : decode cX4_root 21 = .ok (.ifnonnull 7, 3) := by decide +kernel
theorem dX4_root_24 : decode cX4_root 24 = .ok (.iload_n 2, 1) := by decide +kernel
theorem dX4_root_25 : decode cX4_root 25 = .ok (.goto 8, 3) := by decide +kernel
theorem dX4_root_28 : decode cX4_root 28 = .ok (.aload 4, 2) := by decide +kernel
theorem dX4_root_30 : decode cX4_root 30 = .ok (.getfield 125, 3) := by decide +kernel
theorem dX4_root_33 : decode cX4_root 33 = .ok (.istore_n 2, 1) := by decide +kernel
theorem dX4_root_34 : decode cX4_root 34 = .ok (.iinc 3 (-1), 3) := by decide +kernel
theorem dX4_root_37 : decode cX4_root 37 = .ok (.goto (-29), 3) := by decide +kernel
theorem dX4_root_40 : decode cX4_root 40 = .ok (.iload_n 2, 1) := by decide +kernel
theorem dX4_root_41 : decode cX4_root 41 = .ok (.ireturn, 1) := by decide +kernel
set_option maxRecDepth 20000 in
theorem ggX4_family_X4_find : GoodIn wsX4_family wsX4_find := goodIn_r _ [7, 1, 8, 12, 13, 14, 15, 16, 17] (by decide +kernel) (by decide +kernel)
set_option maxRecDepth 20000 in
theorem gX4_family_X4_find : GoodIn wsX4_family (wsV RX4 51 RX4 yX4_find wsX4_find) := goodIn_app (goodIn_of _ (by decide +kernel)) ggX4_family_X4_find
set_option maxRecDepth 20000 in
theorem ggX4_family_X8_isIn : GoodIn wsX4_family wsX8_isIn := goodIn_r _ [11] (by decide +kernel) (by decide +kernel)
set_option maxRecDepth 20000 in
theorem gX4_family_X8_isIn_n118 : GoodIn wsX4_family (wsX8_isIn) := ggX4_family_X8_isIn
theorem dX4_family_0 : decode cX4_family 0 = .ok (.iconst 1, 1) := by decide +kernel
theorem dX4_family_1 : decode cX4_family 1 = .ok (.iload_n 1, 1) := by decide +kernel
theorem dX4_family_2 : decode cX4_family 2 = .ok (.ishl, 1) := by decide +kernel
theorem dX4_family_3 : decode cX4_family 3 = .ok (.istore_n 2, 1) := by decide +kernel
theorem dX4_family_4 : decode cX4_family 4 = .ok (.iload_n 1, 1) := by decide +kernel
theorem dX4_family_5 : decode cX4_family 5 = .ok (.iconst 1, 1) := by decide +kernel
theorem dX4_family_6 : decode cX4_family 6 = .ok (.iadd, 1) := by decide +kernel
theorem dX4_family_7 : decode cX4_family 7 = .ok (.istore_n 3, 1) := by decide +kernel
theorem dX4_family_8 : decode cX4_family 8 = .ok (.iload_n 3, 1) := by decide +kernel
theorem dX4_family_9 : decode cX4_family 9 = .ok (.aload_n 0, 1) := by decide +kernel
theorem dX4_family_10 : decode cX4_family 10 = .ok (.getfield 47, 3) := by decide +kernel
theorem dX4_family_13 : decode cX4_family 13 = .ok (.if_icmp .ge 39, 3) := by decide +kernel
theorem dX4_family_16 : decode cX4_family 16 = .ok (.aload_n 0, 1) := by decide +kernel
theorem dX4_family_17 : decode cX4_family 17 = .ok (.iload_n 3, 1) := by decide +kernel
theorem dX4_family_18 : decode cX4_family 18 = .ok (.invokevirtual 51, 3) := by decide +kernel
theorem dX4_family_21 : decode cX4_family 21 = .ok (.astore 4, 2) := by decide +kernel
theorem dX4_family_23 : decode cX4_family 23 = .ok (.aload 4, 2) := by decide +kernel
theorem dX4_family_25 : decode cX4_family 25 = .ok (.ifnull 21, 3) := by decide +kernel
theorem dX4_family_28 : decode cX4_family 28 = .ok (.iload_n 2, 1) := by decide +kernel
theorem dX4_family_29 : decode cX4_family 29 = .ok (.aload 4, 2) := by decide +kernel
theorem dX4_family_31 : decode cX4_family 31 = .ok (.getfield 125, 3) := by decide +kernel
theorem dX4_family_34 : decode cX4_family 34 = .ok (.invokestatic 118, 3) := by decide +kernel
theorem dX4_family_37 : decode cX4_family 37 = .ok (.ifCond .eq 9, 3) := by decide +kernel
theorem dX4_family_40 : decode cX4_family 40 = .ok (.iload_n 2, 1) := by decide +kernel
theorem dX4_family_41 : decode cX4_family 41 = .ok (.iconst 1, 1) := by decide +kernel
theorem dX4_family_42 : decode cX4_family 42 = .ok (.iload_n 3, 1) := by decide +kernel
theorem dX4_family_43 : decode cX4_family 43 = .ok (.ishl, 1) := by decide +kernel
theorem dX4_family_44 : decode cX4_family 44 = .ok (.ior, 1) := by decide +kernel
theorem dX4_family_45 : decode cX4_family 45 = .ok (.istore_n 2, 1) := by decide +kernel
theorem dX4_family_46 : decode cX4_family 46 = .ok (.iinc 3 1, 3) := by decide +kernel
theorem dX4_family_49 : decode cX4_family 49 = .ok (.goto (-41), 3) := by decide +kernel
theorem dX4_family_52 : decode cX4_family 52 = .ok (.iload_n 2, 1) := by decide +kernel
theorem dX4_family_53 : decode cX4_family 53 = .ok (.ireturn, 1) := by decide +kernel
set_option maxRecDepth 20000 in
theorem ggX4_countState_X4_state : GoodIn wsX4_countState wsX4_state := goodIn_r _ [6, 7, 8, 9, 10, 5, 11, 1, 12, 13, 14, 15, 16, 17, 18, 19, 20, 21, 22, 23, 24, 25, 26, 27, 28, 29, 30, 31, 32, 33, 34, 35, 36, 37, 38, 39, 40, 41, 42, 43, 44, 51, 52, 53, 54, 45, 46, 47, 48, 49, 50, 55, 56, 57, 58, 59, 60] (by decide +kernel) (by decide +kernel)
set_option maxRecDepth 20000 in
theorem gX4_countState_X4_state : GoodIn wsX4_countState (wsV RX4 128 RX4 yX4_state wsX4_state) := goodIn_app (goodIn_of _ (by decide +kernel)) ggX4_countState_X4_state
theorem dX4_countState_0 : decode cX4_countState 0 = .ok (.iconst 0, 1) := by decide +kernel
theorem dX4_countState_1 : decode cX4_countState 1 = .ok (.istore_n 2, 1) := by decide +kernel
theorem dX4_countState_2 : decode cX4_countState 2 = .ok (.iconst 0, 1) := by decide +kernel
theorem dX4_countState_3 : decode cX4_countState 3 = .ok (.istore_n 3, 1) := by decide +kernel
theorem dX4_countState_4 : decode cX4_countState 4 = .ok (.iload_n 3, 1) := by decide +kernel
theorem dX4_countState_5 : decode cX4_countState 5 = .ok (.aload_n 0, 1) := by decide +kernel
theorem dX4_countState_6 : decode cX4_countState 6 = .ok (.getfield 47, 3) := by decide +kernel
theorem dX4_countState_9 : decode cX4_countState 9 = .ok (.if_icmp .ge 21, 3) := by decide +kernel
theorem dX4_countState_12 : decode cX4_countState 12 = .ok (.aload_n 0, 1) := by decide +kernel
theorem dX4_countState_13 : decode cX4_countState 13 = .ok (.iload_n 3, 1) := by decide +kernel
theorem dX4_countState_14 : decode cX4_countState 14 = .ok (.invokevirtual 128, 3) := by decide +kernel
theorem dX4_countState_17 : decode cX4_countState 17 = .ok (.iload_n 1, 1) := by decide +kernel
theorem dX4_countState_18 : decode cX4_countState 18 = .ok (.if_icmp .ne 6, 3) := by decide +kernel
theorem dX4_countState_21 : decode cX4_countState 21 = .ok (.iinc 2 1, 3) := by decide +kernel
theorem dX4_countState_24 : decode cX4_countState 24 = .ok (.iinc 3 1, 3) := by decide +kernel
theorem dX4_countState_27 : decode cX4_countState 27 = .ok (.goto (-23), 3) := by decide +kernel
theorem dX4_countState_30 : decode cX4_countState 30 = .ok (.iload_n 2, 1) := by decide +kernel
theorem dX4_countState_31 : decode cX4_countState 31 = .ok (.ireturn, 1) := by decide +kernel
set_option maxRecDepth 20000 in
theorem ggX4_countParted_X4_piecesOf : GoodIn wsX4_countParted wsX4_piecesOf := goodIn_r _ [7, 8, 9, 10, 11, 12, 13, 14, 15, 16, 17, 18, 19, 20, 21, 22, 23, 24, 25, 26, 27, 28, 29, 30, 31, 32, 33, 34, 35, 36, 37, 38, 39, 40, 41] (by decide +kernel) (by decide +kernel)
set_option maxRecDepth 20000 in
theorem gX4_countParted_X4_piecesOf : GoodIn wsX4_countParted (wsV RX4 150 RX4 yX4_piecesOf wsX4_piecesOf) := goodIn_app (goodIn_of _ (by decide +kernel)) ggX4_countParted_X4_piecesOf
theorem dX4_countParted_0 : decode cX4_countParted 0 = .ok (.iconst 0, 1) := by decide +kernel
theorem dX4_countParted_1 : decode cX4_countParted 1 = .ok (.istore_n 1, 1) := by decide +kernel
theorem dX4_countParted_2 : decode cX4_countParted 2 = .ok (.iconst 0, 1) := by decide +kernel
theorem dX4_countParted_3 : decode cX4_countParted 3 = .ok (.istore_n 2, 1) := by decide +kernel
theorem dX4_countParted_4 : decode cX4_countParted 4 = .ok (.iload_n 2, 1) := by decide +kernel
theorem dX4_countParted_5 : decode cX4_countParted 5 = .ok (.aload_n 0, 1) := by decide +kernel
theorem dX4_countParted_6 : decode cX4_countParted 6 = .ok (.getfield 47, 3) := by decide +kernel
theorem dX4_countParted_9 : decode cX4_countParted 9 = .ok (.if_icmp .ge 24, 3) := by decide +kernel
theorem dX4_countParted_12 : decode cX4_countParted 12 = .ok (.aload_n 0, 1) := by decide +kernel
theorem dX4_countParted_13 : decode cX4_countParted 13 = .ok (.iload_n 2, 1) := by decide +kernel
theorem dX4_countParted_14 : decode cX4_countParted 14 = .ok (.invokevirtual 150, 3) := by decide +kernel
theorem dX4_countParted_17 : decode cX4_countParted 17 = .ok (.getfield 163, 3) := by decide +kernel
theorem dX4_countParted_20 : decode cX4_countParted 20 = .ok (.iconst 1, 1) := by decide +kernel
theorem dX4_countParted_21 : decode cX4_countParted 21 = .ok (.if_icmp .le 6, 3) := by decide +kernel
theorem dX4_countParted_24 : decode cX4_countParted 24 = .ok (.iinc 1 1, 3) := by decide +kernel
theorem dX4_countParted_27 : decode cX4_countParted 27 = .ok (.iinc 2 1, 3) := by decide +kernel
theorem dX4_countParted_30 : decode cX4_countParted 30 = .ok (.goto (-26), 3) := by decide +kernel
theorem dX4_countParted_33 : decode cX4_countParted 33 = .ok (.iload_n 1, 1) := by decide +kernel
theorem dX4_countParted_34 : decode cX4_countParted 34 = .ok (.ireturn, 1) := by decide +kernel
set_option maxRecDepth 20000 in
theorem ggX4_countLines_X4_lineOf : GoodIn wsX4_countLines wsX4_lineOf := goodIn_r _ [7, 8, 9, 10, 11, 12, 13, 14, 15, 16, 17, 18, 19, 20, 21, 22, 23] (by decide +kernel) (by decide +kernel)
set_option maxRecDepth 20000 in
theorem gX4_countLines_X4_lineOf : GoodIn wsX4_countLines (wsV RX4 165 RX4 yX4_lineOf wsX4_lineOf) := goodIn_app (goodIn_of _ (by decide +kernel)) ggX4_countLines_X4_lineOf
theorem dX4_countLines_0 : decode cX4_countLines 0 = .ok (.aload_n 0, 1) := by decide +kernel
theorem dX4_countLines_1 : decode cX4_countLines 1 = .ok (.getfield 20, 3) := by decide +kernel
theorem dX4_countLines_4 : decode cX4_countLines 4 = .ok (.getfield 76, 3) := by decide +kernel
theorem dX4_countLines_7 : decode cX4_countLines 7 = .ok (.ifCond .ne 7, 3) := by decide +kernel
theorem dX4_countLines_10 : decode cX4_countLines 10 = .ok (.iconst 0, 1) := by decide +kernel
theorem dX4_countLines_11 : decode cX4_countLines 11 = .ok (.goto 18, 3) := by decide +kernel
theorem dX4_countLines_14 : decode cX4_countLines 14 = .ok (.aload_n 0, 1) := by decide +kernel
theorem dX4_countLines_15 : decode cX4_countLines 15 = .ok (.aload_n 0, 1) := by decide +kernel
theorem dX4_countLines_16 : decode cX4_countLines 16 = .ok (.getfield 20, 3) := by decide +kernel
theorem dX4_countLines_19 : decode cX4_countLines 19 = .ok (.getfield 76, 3) := by decide +kernel
theorem dX4_countLines_22 : decode cX4_countLines 22 = .ok (.iconst 1, 1) := by decide +kernel
theorem dX4_countLines_23 : decode cX4_countLines 23 = .ok (.isub, 1) := by decide +kernel
theorem dX4_countLines_24 : decode cX4_countLines 24 = .ok (.invokevirtual 165, 3) := by decide +kernel
theorem dX4_countLines_27 : decode cX4_countLines 27 = .ok (.iconst 1, 1) := by decide +kernel
theorem dX4_countLines_28 : decode cX4_countLines 28 = .ok (.iadd, 1) := by decide +kernel
theorem dX4_countLines_29 : decode cX4_countLines 29 = .ok (.ireturn, 1) := by decide +kernel
set_option maxRecDepth 20000 in
theorem ggX4_lineOf_X6_item : GoodIn wsX4_lineOf wsX6_item := goodIn_r _ [6, 7, 8, 15, 16] (by decide +kernel) (by decide +kernel)
set_option maxRecDepth 20000 in
theorem gX4_lineOf_X6_item : GoodIn wsX4_lineOf (wsV RX4 69 RX6 yX6_item wsX6_item) := goodIn_app (goodIn_of _ (by decide +kernel)) ggX4_lineOf_X6_item
theorem dX4_lineOf_0 : decode cX4_lineOf 0 = .ok (.aload_n 0, 1) := by decide +kernel
theorem dX4_lineOf_1 : decode cX4_lineOf 1 = .ok (.getfield 14, 3) := by decide +kernel
theorem dX4_lineOf_4 : decode cX4_lineOf 4 = .ok (.iconst 1, 1) := by decide +kernel
theorem dX4_lineOf_5 : decode cX4_lineOf 5 = .ok (.invokevirtual 69, 3) := by decide +kernel
theorem dX4_lineOf_8 : decode cX4_lineOf 8 = .ok (.istore_n 2, 1) := by decide +kernel
theorem dX4_lineOf_9 : decode cX4_lineOf 9 = .ok (.iload_n 2, 1) := by decide +kernel
theorem dX4_lineOf_10 : decode cX4_lineOf 10 = .ok (.iconst 1, 1) := by decide +kernel
theorem dX4_lineOf_11 : decode cX4_lineOf 11 = .ok (.if_icmp .ge 7, 3) := by decide +kernel
theorem dX4_lineOf_14 : decode cX4_lineOf 14 = .ok (.iconst 0, 1) := by decide +kernel
theorem dX4_lineOf_15 : decode cX4_lineOf 15 = .ok (.goto 6, 3) := by decide +kernel
theorem dX4_lineOf_18 : decode cX4_lineOf 18 = .ok (.iload_n 1, 1) := by decide +kernel
theorem dX4_lineOf_19 : decode cX4_lineOf 19 = .ok (.iload_n 2, 1) := by decide +kernel
theorem dX4_lineOf_20 : decode cX4_lineOf 20 = .ok (.idiv, 1) := by decide +kernel
theorem dX4_lineOf_21 : decode cX4_lineOf 21 = .ok (.ireturn, 1) := by decide +kernel
theorem dX5_init_0 : decode cX5_init 0 = .ok (.aload_n 0, 1) := by decide +kernel
theorem dX5_init_1 : decode cX5_init 1 = .ok (.invokespecial 3, 3) := by decide +kernel
theorem dX5_init_4 : decode cX5_init 4 = .ok (.return_, 1) := by decide +kernel
set_option maxRecDepth 20000 in
theorem ggX5_gather_X6_item : GoodIn wsX5_gather wsX6_item := goodIn_r _ [10, 11, 12, 20, 21] (by decide +kernel) (by decide +kernel)
set_option maxRecDepth 20000 in
theorem gX5_gather_X6_item : GoodIn wsX5_gather (wsV RX5 29 RX6 yX6_item wsX6_item) := goodIn_app (goodIn_of _ (by decide +kernel)) ggX5_gather_X6_item
set_option maxRecDepth 20000 in
theorem ggX5_gather_X8_isIn : GoodIn wsX5_gather wsX8_isIn := goodIn_r _ [15] (by decide +kernel) (by decide +kernel)
set_option maxRecDepth 20000 in
theorem gX5_gather_X8_isIn_n33 : GoodIn wsX5_gather (wsX8_isIn) := ggX5_gather_X8_isIn
theorem dX5_gather_0 : decode cX5_gather 0 = .ok (.aload_n 0, 1) := by decide +kernel
theorem dX5_gather_1 : decode cX5_gather 1 = .ok (.iconst 0, 1) := by decide +kernel
theorem dX5_gather_2 : decode cX5_gather 2 = .ok (.putfield 9, 3) := by decide +kernel
theorem dX5_gather_5 : decode cX5_gather 5 = .ok (.aload_n 0, 1) := by decide +kernel
theorem dX5_gather_6 : decode cX5_gather 6 = .ok (.iconst 0, 1) := by decide +kernel
theorem dX5_gather_7 : decode cX5_gather 7 = .ok (.putfield 15, 3) := by decide +kernel
theorem dX5_gather_10 : decode cX5_gather 10 = .ok (.aload_n 0, 1) := by decide +kernel
theorem dX5_gather_11 : decode cX5_gather 11 = .ok (.bipush (-6), 2) := by decide +kernel
theorem dX5_gather_13 : decode cX5_gather 13 = .ok (.putfield 18, 3) := by decide +kernel
theorem dX5_gather_16 : decode cX5_gather 16 = .ok (.aload_n 0, 1) := by decide +kernel
theorem dX5_gather_17 : decode cX5_gather 17 = .ok (.bipush (-6), 2) := by decide +kernel
theorem dX5_gather_19 : decode cX5_gather 19 = .ok (.putfield 21, 3) := by decide +kernel
theorem dX5_gather_22 : decode cX5_gather 22 = .ok (.iconst 0, 1) := by decide +kernel
theorem dX5_gather_23 : decode cX5_gather 23 = .ok (.istore_n 3, 1) := by decide +kernel
theorem dX5_gather_24 : decode cX5_gather 24 = .ok (.iconst 0, 1) := by decide +kernel
theorem dX5_gather_25 : decode cX5_gather 25 = .ok (.istore 4, 2) := by decide +kernel
theorem dX5_gather_27 : decode cX5_gather 27 = .ok (.iconst 0, 1) := by decide +kernel
theorem dX5_gather_28 : decode cX5_gather 28 = .ok (.istore 5, 2) := by decide +kernel
theorem dX5_gather_30 : decode cX5_gather 30 = .ok (.iload 5, 2) := by decide +kernel
theorem dX5_gather_32 : decode cX5_gather 32 = .ok (.aload_n 1, 1) := by decide +kernel
theorem dX5_gather_33 : decode cX5_gather 33 = .ok (.getfield 24, 3) := by decide +kernel
theorem dX5_gather_36 : decode cX5_gather 36 = .ok (.if_icmp .ge 86, 3) := by decide +kernel
theorem dX5_gather_39 : decode cX5_gather 39 = .ok (.aload_n 1, 1) := by decide +kernel
theorem dX5_gather_40 : decode cX5_gather 40 = .ok (.iload 5, 2) := by decide +kernel
theorem dX5_gather_42 : decode cX5_gather 42 = .ok (.invokevirtual 29, 3) := by decide +kernel
theorem dX5_gather_45 : decode cX5_gather 45 = .ok (.iload_n 2, 1) := by decide +kernel
theorem dX5_gather_46 : decode cX5_gather 46 = .ok (.invokestatic 33, 3) := by decide +kernel
theorem dX5_gather_49 : decode cX5_gather 49 = .ok (.ifCond .ne 11, 3) := by decide +kernel
theorem dX5_gather_52 : decode cX5_gather 52 = .ok (.iload 5, 2) := by decide +kernel
theorem dX5_gather_54 : decode cX5_gather 54 = .ok (.iconst 1, 1) := by decide +kernel
theorem dX5_gather_55 : decode cX5_gather 55 = .ok (.iadd, 1) := by decide +kernel
theorem dX5_gather_56 : decode cX5_gather 56 = .ok (.istore_n 3, 1) := by decide +kernel
theorem dX5_gather_57 : decode cX5_gather 57 = .ok (.goto 59, 3) := by decide +kernel
theorem dX5_gather_60 : decode cX5_gather 60 = .ok (.aload_n 0, 1) := by decide +kernel
theorem dX5_gather_61 : decode cX5_gather 61 = .ok (.dup, 1) := by decide +kernel
theorem dX5_gather_62 : decode cX5_gather 62 = .ok (.getfield 15, 3) := by decide +kernel
theorem dX5_gather_65 : decode cX5_gather 65 = .ok (.iconst 1, 1) := by decide +kernel
theorem dX5_gather_66 : decode cX5_gather 66 = .ok (.iadd, 1) := by decide +kernel
theorem dX5_gather_67 : decode cX5_gather 67 = .ok (.putfield 15, 3) := by decide +kernel
theorem dX5_gather_70 : decode cX5_gather 70 = .ok (.iload_n 3, 1) := by decide +kernel
theorem dX5_gather_71 : decode cX5_gather 71 = .ok (.iload 5, 2) := by decide +kernel
theorem dX5_gather_73 : decode cX5_gather 73 = .ok (.if_icmp .ne 13, 3) := by decide +kernel
theorem dX5_gather_76 : decode cX5_gather 76 = .ok (.aload_n 0, 1) := by decide +kernel
theorem dX5_gather_77 : decode cX5_gather 77 = .ok (.dup, 1) := by decide +kernel
theorem dX5_gather_78 : decode cX5_gather 78 = .ok (.getfield 9, 3) := by decide +kernel
theorem dX5_gather_81 : decode cX5_gather 81 = .ok (.iconst 1, 1) := by decide +kernel
theorem dX5_gather_82 : decode cX5_gather 82 = .ok (.iadd, 1) := by decide +kernel
theorem dX5_gather_83 : decode cX5_gather 83 = .ok (.putfield 9, 3) := by decide +kernel
theorem dX5_gather_86 : decode cX5_gather 86 = .ok (.iload 5, 2) := by decide +kernel
theorem dX5_gather_88 : decode cX5_gather 88 = .ok (.iload_n 3, 1) := by decide +kernel
theorem dX5_gather_89 : decode cX5_gather 89 = .ok (.isub, 1) := by decide +kernel
theorem dX5_gather_90 : decode cX5_gather 90 = .ok (.iconst 1, 1) := by decide +kernel
theorem dX5_gather_91 : decode cX5_gather 91 = .ok (.iadd, 1) := by decide +kernel
theorem dX5_gather_92 : decode cX5_gather 92 = .ok (.istore 6, 2) := by decide +kernel
theorem dX5_gather_94 : decode cX5_gather 94 = .ok (.iload 6, 2) := by decide +kernel
theorem dX5_gather_96 : decode cX5_gather 96 = .ok (.iload 4, 2) := by decide +kernel
theorem dX5_gather_98 : decode cX5_gather 98 = .ok (.if_icmp .le 18, 3) := by decide +kernel
theorem dX5_gather_101 : decode cX5_gather 101 = .ok (.iload 6, 2) := by decide +kernel
theorem dX5_gather_103 : decode cX5_gather 103 = .ok (.istore 4, 2) := by decide +kernel
theorem dX5_gather_105 : decode cX5_gather 105 = .ok (.aload_n 0, 1) := by decide +kernel
theorem dX5_gather_106 : decode cX5_gather 106 = .ok (.iload_n 3, 1) := by decide +kernel
theorem dX5_gather_107 : decode cX5_gather 107 = .ok (.putfield 18, 3) := by decide +kernel
theorem dX5_gather_110 : decode cX5_gather 110 = .ok (.aload_n 0, 1) := by decide +kernel
theorem dX5_gather_111 : decode cX5_gather 111 = .ok (.iload 5, 2) := by decide +kernel
theorem dX5_gather_113 : decode cX5_gather 113 = .ok (.putfield 21, 3) := by decide +kernel
theorem dX5_gather_116 : decode cX5_gather 116 = .ok (.iinc 5 1, 3) := by decide +kernel
theorem dX5_gather_119 : decode cX5_gather 119 = .ok (.goto (-89), 3) := by decide +kernel
theorem dX5_gather_122 : decode cX5_gather 122 = .ok (.return_, 1) := by decide +kernel
theorem dX7_init_0 : decode cX7_init 0 = .ok (.aload_n 0, 1) := by decide +kernel
theorem dX7_init_1 : decode cX7_init 1 = .ok (.invokespecial 3, 3) := by decide +kernel
theorem dX7_init_4 : decode cX7_init 4 = .ok (.return_, 1) := by decide +kernel
set_option maxRecDepth 20000 in
theorem ggX7_look_X6_countAlike : GoodIn wsX7_look wsX6_countAlike := goodIn_r _ [12, 13, 14, 15, 16, 11, 17, 18, 26, 27] (by decide +kernel) (by decide +kernel)
set_option maxRecDepth 20000 in
theorem gX7_look_X6_countAlike : GoodIn wsX7_look (wsV RX7 32 RX6 yX6_countAlike wsX6_countAlike) := goodIn_app (goodIn_of _ (by decide +kernel)) ggX7_look_X6_countAlike
theorem dX7_look_0 : decode cX7_look 0 = .ok (.aload_n 0, 1) := by decide +kernel
theorem dX7_look_1 : decode cX7_look 1 = .ok (.bipush (-6), 2) := by decide +kernel
theorem dX7_look_3 : decode cX7_look 3 = .ok (.putfield 9, 3) := by decide +kernel
theorem dX7_look_6 : decode cX7_look 6 = .ok (.aload_n 0, 1) := by decide +kernel
theorem dX7_look_7 : decode cX7_look 7 = .ok (.bipush (-6), 2) := by decide +kernel
theorem dX7_look_9 : decode cX7_look 9 = .ok (.putfield 15, 3) := by decide +kernel
theorem dX7_look_12 : decode cX7_look 12 = .ok (.aload_n 0, 1) := by decide +kernel
theorem dX7_look_13 : decode cX7_look 13 = .ok (.iconst 0, 1) := by decide +kernel
theorem dX7_look_14 : decode cX7_look 14 = .ok (.putfield 18, 3) := by decide +kernel
theorem dX7_look_17 : decode cX7_look 17 = .ok (.aload_n 2, 1) := by decide +kernel
theorem dX7_look_18 : decode cX7_look 18 = .ok (.getfield 21, 3) := by decide +kernel
theorem dX7_look_21 : decode cX7_look 21 = .ok (.getfield 27, 3) := by decide +kernel
theorem dX7_look_24 : decode cX7_look 24 = .ok (.istore_n 3, 1) := by decide +kernel
theorem dX7_look_25 : decode cX7_look 25 = .ok (.iconst 0, 1) := by decide +kernel
theorem dX7_look_26 : decode cX7_look 26 = .ok (.istore 4, 2) := by decide +kernel
theorem dX7_look_28 : decode cX7_look 28 = .ok (.iload 4, 2) := by decide +kernel
theorem dX7_look_30 : decode cX7_look 30 = .ok (.iload_n 3, 1) := by decide +kernel
theorem dX7_look_31 : decode cX7_look 31 = .ok (.iadd, 1) := by decide +kernel
theorem dX7_look_32 : decode cX7_look 32 = .ok (.aload_n 1, 1) := by decide +kernel
theorem dX7_look_33 : decode cX7_look 33 = .ok (.getfield 27, 3) := by decide +kernel
theorem dX7_look_36 : decode cX7_look 36 = .ok (.if_icmp .gt 91, 3) := by decide +kernel
theorem dX7_look_39 : decode cX7_look 39 = .ok (.aload_n 1, 1) := by decide +kernel
theorem dX7_look_40 : decode cX7_look 40 = .ok (.aload_n 2, 1) := by decide +kernel
theorem dX7_look_41 : decode cX7_look 41 = .ok (.getfield 21, 3) := by decide +kernel
theorem dX7_look_44 : decode cX7_look 44 = .ok (.iload 4, 2) := by decide +kernel
theorem dX7_look_46 : decode cX7_look 46 = .ok (.iconst 1, 1) := by decide +kernel
theorem dX7_look_47 : decode cX7_look 47 = .ok (.invokevirtual 32, 3) := by decide +kernel
theorem dX7_look_50 : decode cX7_look 50 = .ok (.iload_n 3, 1) := by decide +kernel
theorem dX7_look_51 : decode cX7_look 51 = .ok (.if_icmp .ne 70, 3) := by decide +kernel
theorem dX7_look_54 : decode cX7_look 54 = .ok (.aload_n 1, 1) := by decide +kernel
theorem dX7_look_55 : decode cX7_look 55 = .ok (.aload_n 2, 1) := by decide +kernel
theorem dX7_look_56 : decode cX7_look 56 = .ok (.getfield 36, 3) := by decide +kernel
theorem dX7_look_59 : decode cX7_look 59 = .ok (.iload 4, 2) := by decide +kernel
theorem dX7_look_61 : decode cX7_look 61 = .ok (.iconst 1, 1) := by decide +kernel
theorem dX7_look_62 : decode cX7_look 62 = .ok (.isub, 1) := by decide +kernel
theorem dX7_look_63 : decode cX7_look 63 = .ok (.iconst (-1), 1) := by decide +kernel
theorem dX7_look_64 : decode cX7_look 64 = .ok (.invokevirtual 32, 3) := by decide +kernel
theorem dX7_look_67 : decode cX7_look 67 = .ok (.aload_n 1, 1) := by decide +kernel
theorem dX7_look_68 : decode cX7_look 68 = .ok (.aload_n 2, 1) := by decide +kernel
theorem dX7_look_69 : decode cX7_look 69 = .ok (.getfield 39, 3) := by decide +kernel
theorem dX7_look_72 : decode cX7_look 72 = .ok (.iload 4, 2) := by decide +kernel
theorem dX7_look_74 : decode cX7_look 74 = .ok (.iload_n 3, 1) := by decide +kernel
theorem dX7_look_75 : decode cX7_look 75 = .ok (.iadd, 1) := by decide +kernel
theorem dX7_look_76 : decode cX7_look 76 = .ok (.iconst 1, 1) := by decide +kernel
theorem dX7_look_77 : decode cX7_look 77 = .ok (.invokevirtual 32, 3) := by decide +kernel
theorem dX7_look_80 : decode cX7_look 80 = .ok (.iadd, 1) := by decide +kernel
theorem dX7_look_81 : decode cX7_look 81 = .ok (.istore 5, 2) := by decide +kernel
theorem dX7_look_83 : decode cX7_look 83 = .ok (.aload_n 0, 1) := by decide +kernel
theorem dX7_look_84 : decode cX7_look 84 = .ok (.getfield 18, 3) := by decide +kernel
theorem dX7_look_87 : decode cX7_look 87 = .ok (.ifCond .eq 12, 3) := by decide +kernel
theorem dX7_look_90 : decode cX7_look 90 = .ok (.iload 5, 2) := by decide +kernel
theorem dX7_look_92 : decode cX7_look 92 = .ok (.aload_n 0, 1) := by decide +kernel
theorem dX7_look_93 : decode cX7_look 93 = .ok (.getfield 15, 3) := by decide +kernel
theorem dX7_look_96 : decode cX7_look 96 = .ok (.if_icmp .le 15, 3) := by decide +kernel
theorem dX7_look_99 : decode cX7_look 99 = .ok (.aload_n 0, 1) := by decide +kernel
theorem dX7_look_100 : decode cX7_look 100 = .ok (.iload 4, 2) := by decide +kernel
theorem dX7_look_102 : decode cX7_look 102 = .ok (.putfield 9, 3) := by decide +kernel
theorem dX7_look_105 : decode cX7_look 105 = .ok (.aload_n 0, 1) := by decide +kernel
theorem dX7_look_106 : decode cX7_look 106 = .ok (.iload 5, 2) := by decide +kernel
theorem dX7_look_108 : decode cX7_look 108 = .ok (.putfield 15, 3) := by decide +kernel
theorem dX7_look_111 : decode cX7_look 111 = .ok (.aload_n 0, 1) := by decide +kernel
theorem dX7_look_112 : decode cX7_look 112 = .ok (.dup, 1) := by decide +kernel
theorem dX7_look_113 : decode cX7_look 113 = .ok (.getfield 18, 3) := by decide +kernel
theorem dX7_look_116 : decode cX7_look 116 = .ok (.iconst 1, 1) := by decide +kernel
theorem dX7_look_117 : decode cX7_look 117 = .ok (.iadd, 1) := by decide +kernel
theorem dX7_look_118 : decode cX7_look 118 = .ok (.putfield 18, 3) := by decide +kernel
theorem dX7_look_121 : decode cX7_look 121 = .ok (.iinc 4 1, 3) := by decide +kernel
theorem dX7_look_124 : decode cX7_look 124 = .ok (.goto (-96), 3) := by decide +kernel
theorem dX7_look_127 : decode cX7_look 127 = .ok (.return_, 1) := by decide +kernel
theorem dJ6_bitCount_0f7a4_0 : decode cJ6_bitCount_0f7a4 0 = .ok (.iload_n 0, 1) := by decide +kernel
theorem dJ6_bitCount_0f7a4_1 : decode cJ6_bitCount_0f7a4 1 = .ok (.iload_n 0, 1) := by decide +kernel
theorem dJ6_bitCount_0f7a4_2 : decode cJ6_bitCount_0f7a4 2 = .ok (.iconst 1, 1) := by decide +kernel
theorem dJ6_bitCount_0f7a4_3 : decode cJ6_bitCount_0f7a4 3 = .ok (.iushr, 1) := by decide +kernel
theorem dJ6_bitCount_0f7a4_4 : decode cJ6_bitCount_0f7a4 4 = .ok (.ldc_w 265, 3) := by decide +kernel
theorem dJ6_bitCount_0f7a4_7 : decode cJ6_bitCount_0f7a4 7 = .ok (.iand, 1) := by decide +kernel
theorem dJ6_bitCount_0f7a4_8 : decode cJ6_bitCount_0f7a4 8 = .ok (.isub, 1) := by decide +kernel
theorem dJ6_bitCount_0f7a4_9 : decode cJ6_bitCount_0f7a4 9 = .ok (.istore_n 0, 1) := by decide +kernel
theorem dJ6_bitCount_0f7a4_10 : decode cJ6_bitCount_0f7a4 10 = .ok (.iload_n 0, 1) := by decide +kernel
theorem dJ6_bitCount_0f7a4_11 : decode cJ6_bitCount_0f7a4 11 = .ok (.ldc_w 266, 3) := by decide +kernel
theorem dJ6_bitCount_0f7a4_14 : decode cJ6_bitCount_0f7a4 14 = .ok (.iand, 1) := by decide +kernel
theorem dJ6_bitCount_0f7a4_15 : decode cJ6_bitCount_0f7a4 15 = .ok (.iload_n 0, 1) := by decide +kernel
theorem dJ6_bitCount_0f7a4_16 : decode cJ6_bitCount_0f7a4 16 = .ok (.iconst 2, 1) := by decide +kernel
theorem dJ6_bitCount_0f7a4_17 : decode cJ6_bitCount_0f7a4 17 = .ok (.iushr, 1) := by decide +kernel
theorem dJ6_bitCount_0f7a4_18 : decode cJ6_bitCount_0f7a4 18 = .ok (.ldc_w 266, 3) := by decide +kernel
theorem dJ6_bitCount_0f7a4_21 : decode cJ6_bitCount_0f7a4 21 = .ok (.iand, 1) := by decide +kernel
theorem dJ6_bitCount_0f7a4_22 : decode cJ6_bitCount_0f7a4 22 = .ok (.iadd, 1) := by decide +kernel
theorem dJ6_bitCount_0f7a4_23 : decode cJ6_bitCount_0f7a4 23 = .ok (.istore_n 0, 1) := by decide +kernel
theorem dJ6_bitCount_0f7a4_24 : decode cJ6_bitCount_0f7a4 24 = .ok (.iload_n 0, 1) := by decide +kernel
theorem dJ6_bitCount_0f7a4_25 : decode cJ6_bitCount_0f7a4 25 = .ok (.iload_n 0, 1) := by decide +kernel
theorem dJ6_bitCount_0f7a4_26 : decode cJ6_bitCount_0f7a4 26 = .ok (.iconst 4, 1) := by decide +kernel
theorem dJ6_bitCount_0f7a4_27 : decode cJ6_bitCount_0f7a4 27 = .ok (.iushr, 1) := by decide +kernel
theorem dJ6_bitCount_0f7a4_28 : decode cJ6_bitCount_0f7a4 28 = .ok (.iadd, 1) := by decide +kernel
theorem dJ6_bitCount_0f7a4_29 : decode cJ6_bitCount_0f7a4 29 = .ok (.ldc_w 267, 3) := by decide +kernel
theorem dJ6_bitCount_0f7a4_32 : decode cJ6_bitCount_0f7a4 32 = .ok (.iand, 1) := by decide +kernel
theorem dJ6_bitCount_0f7a4_33 : decode cJ6_bitCount_0f7a4 33 = .ok (.istore_n 0, 1) := by decide +kernel
theorem dJ6_bitCount_0f7a4_34 : decode cJ6_bitCount_0f7a4 34 = .ok (.iload_n 0, 1) := by decide +kernel
theorem dJ6_bitCount_0f7a4_35 : decode cJ6_bitCount_0f7a4 35 = .ok (.iload_n 0, 1) := by decide +kernel
theorem dJ6_bitCount_0f7a4_36 : decode cJ6_bitCount_0f7a4 36 = .ok (.bipush 8, 2) := by decide +kernel
theorem dJ6_bitCount_0f7a4_38 : decode cJ6_bitCount_0f7a4 38 = .ok (.iushr, 1) := by decide +kernel
theorem dJ6_bitCount_0f7a4_39 : decode cJ6_bitCount_0f7a4 39 = .ok (.iadd, 1) := by decide +kernel
theorem dJ6_bitCount_0f7a4_40 : decode cJ6_bitCount_0f7a4 40 = .ok (.istore_n 0, 1) := by decide +kernel
theorem dJ6_bitCount_0f7a4_41 : decode cJ6_bitCount_0f7a4 41 = .ok (.iload_n 0, 1) := by decide +kernel
theorem dJ6_bitCount_0f7a4_42 : decode cJ6_bitCount_0f7a4 42 = .ok (.iload_n 0, 1) := by decide +kernel
theorem dJ6_bitCount_0f7a4_43 : decode cJ6_bitCount_0f7a4 43 = .ok (.bipush 16, 2) := by decide +kernel
theorem dJ6_bitCount_0f7a4_45 : decode cJ6_bitCount_0f7a4 45 = .ok (.iushr, 1) := by decide +kernel
theorem dJ6_bitCount_0f7a4_46 : decode cJ6_bitCount_0f7a4 46 = .ok (.iadd, 1) := by decide +kernel
theorem dJ6_bitCount_0f7a4_47 : decode cJ6_bitCount_0f7a4 47 = .ok (.istore_n 0, 1) := by decide +kernel
theorem dJ6_bitCount_0f7a4_48 : decode cJ6_bitCount_0f7a4 48 = .ok (.iload_n 0, 1) := by decide +kernel
theorem dJ6_bitCount_0f7a4_49 : decode cJ6_bitCount_0f7a4 49 = .ok (.bipush 63, 2) := by decide +kernel
theorem dJ6_bitCount_0f7a4_51 : decode cJ6_bitCount_0f7a4 51 = .ok (.iand, 1) := by decide +kernel
theorem dJ6_bitCount_0f7a4_52 : decode cJ6_bitCount_0f7a4 52 = .ok (.ireturn, 1) := by decide +kernel

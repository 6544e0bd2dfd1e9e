theorem dX0_init_0 : decode cX0_init 0 = .ok (.aload_n 0, 1) := by decide +kernel
theorem dX0_init_1 : decode cX0_init 1 = .ok (.invokespecial 3, 3) := by decide +kernel
theorem dX0_init_4 : decode cX0_init 4 = .ok (.aload_n 0, 1) := by decide +kernel
theorem dX0_init_5 : decode cX0_init 5 = .ok (.bipush 7, 2) := by decide +kernel
theorem dX0_init_7 : decode cX0_init 7 = .ok (.anewarray 9, 3) := by decide +kernel
theorem dX0_init_10 : decode cX0_init 10 = .ok (.putfield 11, 3) := by decide +kernel
theorem dX0_init_13 : decode cX0_init 13 = .ok (.return_, 1) := by decide +kernel
set_option maxRecDepth 20000 in
theorem ggX0_keep_X4_init : GoodIn wsX0_keep wsX4_init := goodIn_r _ [8, 9, 10, 11, 12, 13, 14, 15, 16, 17, 18, 19, 20, 21, 22, 23, 24, 25, 26, 27, 28, 29, 30, 31, 32, 33, 34, 35, 36, 37, 38, 39, 40, 41, 42, 43, 44, 45, 46, 47, 48, 83, 84, 77, 78, 79, 80, 81, 82, 85, 86, 87, 88, 89, 90, 91, 92] (by decide +kernel) (by decide +kernel)
set_option maxRecDepth 20000 in
theorem gX0_keep_X4_init : GoodIn wsX0_keep (wsX4_init) := ggX0_keep_X4_init
set_option maxRecDepth 20000 in
theorem ggX0_keep_X4_copyFrom : GoodIn wsX0_keep wsX4_copyFrom := goodIn_r _ [52, 15, 16, 17, 53, 54, 55, 56, 14, 57, 39, 31, 58, 59, 60, 61, 62, 63, 64, 65, 66, 67, 68, 5, 69, 19, 70, 71, 72, 25, 73, 43, 45, 46, 47, 74, 77, 78, 79, 80, 81, 82, 83, 84, 89, 90, 91, 92] (by decide +kernel) (by decide +kernel)
set_option maxRecDepth 20000 in
theorem gX0_keep_X4_copyFrom : GoodIn wsX0_keep (wsV RX0 22 RX4 yX4_copyFrom wsX4_copyFrom) := goodIn_app (goodIn_of _ (by decide +kernel)) ggX0_keep_X4_copyFrom
theorem dX0_keep_0 : decode cX0_keep 0 = .ok (.aload_n 0, 1) := by decide +kernel
theorem dX0_keep_1 : decode cX0_keep 1 = .ok (.getfield 17, 3) := by decide +kernel
theorem dX0_keep_4 : decode cX0_keep 4 = .ok (.ifCond .lt 15, 3) := by decide +kernel
theorem dX0_keep_7 : decode cX0_keep 7 = .ok (.aload_n 0, 1) := by decide +kernel
theorem dX0_keep_8 : decode cX0_keep 8 = .ok (.getfield 17, 3) := by decide +kernel
theorem dX0_keep_11 : decode cX0_keep 11 = .ok (.aload_n 0, 1) := by decide +kernel
theorem dX0_keep_12 : decode cX0_keep 12 = .ok (.getfield 11, 3) := by decide +kernel
theorem dX0_keep_15 : decode cX0_keep 15 = .ok (.arraylength, 1) := by decide +kernel
theorem dX0_keep_16 : decode cX0_keep 16 = .ok (.if_icmp .lt 4, 3) := by decide +kernel
theorem dX0_keep_19 : decode cX0_keep 19 = .ok (.return_, 1) := by decide +kernel
theorem dX0_keep_20 : decode cX0_keep 20 = .ok (.aload_n 0, 1) := by decide +kernel
theorem dX0_keep_21 : decode cX0_keep 21 = .ok (.getfield 11, 3) := by decide +kernel
theorem dX0_keep_24 : decode cX0_keep 24 = .ok (.aload_n 0, 1) := by decide +kernel
theorem dX0_keep_25 : decode cX0_keep 25 = .ok (.getfield 17, 3) := by decide +kernel
theorem dX0_keep_28 : decode cX0_keep 28 = .ok (.aaload, 1) := by decide +kernel
theorem dX0_keep_29 : decode cX0_keep 29 = .ok (.ifnonnull 19, 3) := by decide +kernel
theorem dX0_keep_32 : decode cX0_keep 32 = .ok (.aload_n 0, 1) := by decide +kernel
theorem dX0_keep_33 : decode cX0_keep 33 = .ok (.getfield 11, 3) := by decide +kernel
theorem dX0_keep_36 : decode cX0_keep 36 = .ok (.aload_n 0, 1) := by decide +kernel
theorem dX0_keep_37 : decode cX0_keep 37 = .ok (.getfield 17, 3) := by decide +kernel
theorem dX0_keep_40 : decode cX0_keep 40 = .ok (.new 9, 3) := by decide +kernel
theorem dX0_keep_43 : decode cX0_keep 43 = .ok (.dup, 1) := by decide +kernel
theorem dX0_keep_44 : decode cX0_keep 44 = .ok (.invokespecial 21, 3) := by decide +kernel
theorem dX0_keep_47 : decode cX0_keep 47 = .ok (.aastore, 1) := by decide +kernel
theorem dX0_keep_48 : decode cX0_keep 48 = .ok (.aload_n 0, 1) := by decide +kernel
theorem dX0_keep_49 : decode cX0_keep 49 = .ok (.getfield 11, 3) := by decide +kernel
theorem dX0_keep_52 : decode cX0_keep 52 = .ok (.aload_n 0, 1) := by decide +kernel
theorem dX0_keep_53 : decode cX0_keep 53 = .ok (.getfield 17, 3) := by decide +kernel
theorem dX0_keep_56 : decode cX0_keep 56 = .ok (.aaload, 1) := by decide +kernel
theorem dX0_keep_57 : decode cX0_keep 57 = .ok (.astore_n 2, 1) := by decide +kernel
theorem dX0_keep_58 : decode cX0_keep 58 = .ok (.aload_n 2, 1) := by decide +kernel
theorem dX0_keep_59 : decode cX0_keep 59 = .ok (.aload_n 1, 1) := by decide +kernel
theorem dX0_keep_60 : decode cX0_keep 60 = .ok (.invokevirtual 22, 3) := by decide +kernel
theorem dX0_keep_63 : decode cX0_keep 63 = .ok (.return_, 1) := by decide +kernel
set_option maxRecDepth 20000 in
theorem ggX0_confirm_X0_forgetOldest : GoodIn wsX0_confirm wsX0_forgetOldest := goodIn_r _ [6, 7, 8, 9] (by decide +kernel) (by decide +kernel)
set_option maxRecDepth 20000 in
theorem gX0_confirm_X0_forgetOldest : GoodIn wsX0_confirm (wsV RX0 26 RX0 yX0_forgetOldest wsX0_forgetOldest) := goodIn_app (goodIn_of _ (by decide +kernel)) ggX0_confirm_X0_forgetOldest
theorem dX0_confirm_0 : decode cX0_confirm 0 = .ok (.iload_n 1, 1) := by decide +kernel
theorem dX0_confirm_1 : decode cX0_confirm 1 = .ok (.ifCond .lt 29, 3) := by decide +kernel
theorem dX0_confirm_4 : decode cX0_confirm 4 = .ok (.aload_n 0, 1) := by decide +kernel
theorem dX0_confirm_5 : decode cX0_confirm 5 = .ok (.getfield 17, 3) := by decide +kernel
theorem dX0_confirm_8 : decode cX0_confirm 8 = .ok (.bipush 6, 2) := by decide +kernel
theorem dX0_confirm_10 : decode cX0_confirm 10 = .ok (.if_icmp .ge 16, 3) := by decide +kernel
theorem dX0_confirm_13 : decode cX0_confirm 13 = .ok (.aload_n 0, 1) := by decide +kernel
theorem dX0_confirm_14 : decode cX0_confirm 14 = .ok (.dup, 1) := by decide +kernel
theorem dX0_confirm_15 : decode cX0_confirm 15 = .ok (.getfield 17, 3) := by decide +kernel
theorem dX0_confirm_18 : decode cX0_confirm 18 = .ok (.iconst 1, 1) := by decide +kernel
theorem dX0_confirm_19 : decode cX0_confirm 19 = .ok (.iadd, 1) := by decide +kernel
theorem dX0_confirm_20 : decode cX0_confirm 20 = .ok (.putfield 17, 3) := by decide +kernel
theorem dX0_confirm_23 : decode cX0_confirm 23 = .ok (.goto 7, 3) := by decide +kernel
theorem dX0_confirm_26 : decode cX0_confirm 26 = .ok (.aload_n 0, 1) := by decide +kernel
theorem dX0_confirm_27 : decode cX0_confirm 27 = .ok (.invokevirtual 26, 3) := by decide +kernel
theorem dX0_confirm_30 : decode cX0_confirm 30 = .ok (.iload_n 1, 1) := by decide +kernel
theorem dX0_confirm_31 : decode cX0_confirm 31 = .ok (.ireturn, 1) := by decide +kernel
theorem dX0_forgetOldest_0 : decode cX0_forgetOldest 0 = .ok (.aload_n 0, 1) := by decide +kernel
theorem dX0_forgetOldest_1 : decode cX0_forgetOldest 1 = .ok (.getfield 11, 3) := by decide +kernel
theorem dX0_forgetOldest_4 : decode cX0_forgetOldest 4 = .ok (.iconst 0, 1) := by decide +kernel
theorem dX0_forgetOldest_5 : decode cX0_forgetOldest 5 = .ok (.aaload, 1) := by decide +kernel
theorem dX0_forgetOldest_6 : decode cX0_forgetOldest 6 = .ok (.astore_n 1, 1) := by decide +kernel
theorem dX0_forgetOldest_7 : decode cX0_forgetOldest 7 = .ok (.iconst 0, 1) := by decide +kernel
theorem dX0_forgetOldest_8 : decode cX0_forgetOldest 8 = .ok (.istore_n 2, 1) := by decide +kernel
theorem dX0_forgetOldest_9 : decode cX0_forgetOldest 9 = .ok (.iload_n 2, 1) := by decide +kernel
theorem dX0_forgetOldest_10 : decode cX0_forgetOldest 10 = .ok (.bipush 6, 2) := by decide +kernel
theorem dX0_forgetOldest_12 : decode cX0_forgetOldest 12 = .ok (.if_icmp .ge 23, 3) := by decide +kernel
theorem dX0_forgetOldest_15 : decode cX0_forgetOldest 15 = .ok (.aload_n 0, 1) := by decide +kernel
theorem dX0_forgetOldest_16 : decode cX0_forgetOldest 16 = .ok (.getfield 11, 3) := by decide +kernel
theorem dX0_forgetOldest_19 : decode cX0_forgetOldest 19 = .ok (.iload_n 2, 1) := by decide +kernel
theorem dX0_forgetOldest_20 : decode cX0_forgetOldest 20 = .ok (.aload_n 0, 1) := by decide +kernel
theorem dX0_forgetOldest_21 : decode cX0_forgetOldest 21 = .ok (.getfield 11, 3) := by decide +kernel
theorem dX0_forgetOldest_24 : decode cX0_forgetOldest 24 = .ok (.iload_n 2, 1) := by decide +kernel
theorem dX0_forgetOldest_25 : decode cX0_forgetOldest 25 = .ok (.iconst 1, 1) := by decide +kernel
theorem dX0_forgetOldest_26 : decode cX0_forgetOldest 26 = .ok (.iadd, 1) := by decide +kernel
theorem dX0_forgetOldest_27 : decode cX0_forgetOldest 27 = .ok (.aaload, 1) := by decide +kernel
theorem dX0_forgetOldest_28 : decode cX0_forgetOldest 28 = .ok (.aastore, 1) := by decide +kernel
theorem dX0_forgetOldest_29 : decode cX0_forgetOldest 29 = .ok (.iinc 2 1, 3) := by decide +kernel
theorem dX0_forgetOldest_32 : decode cX0_forgetOldest 32 = .ok (.goto (-23), 3) := by decide +kernel
theorem dX0_forgetOldest_35 : decode cX0_forgetOldest 35 = .ok (.aload_n 0, 1) := by decide +kernel
theorem dX0_forgetOldest_36 : decode cX0_forgetOldest 36 = .ok (.getfield 11, 3) := by decide +kernel
theorem dX0_forgetOldest_39 : decode cX0_forgetOldest 39 = .ok (.bipush 6, 2) := by decide +kernel
theorem dX0_forgetOldest_41 : decode cX0_forgetOldest 41 = .ok (.aload_n 1, 1) := by decide +kernel
theorem dX0_forgetOldest_42 : decode cX0_forgetOldest 42 = .ok (.aastore, 1) := by decide +kernel
theorem dX0_forgetOldest_43 : decode cX0_forgetOldest 43 = .ok (.return_, 1) := by decide +kernel
set_option maxRecDepth 20000 in
theorem ggX0_goBack_X4_copyFrom : GoodIn wsX0_goBack wsX4_copyFrom := goodIn_r _ [7, 8, 9, 10, 11, 12, 13, 14, 15, 16, 17, 18, 19, 20, 21, 22, 23, 24, 25, 26, 27, 28, 29, 6, 30, 31, 32, 33, 34, 35, 36, 37, 38, 39, 40, 41, 44, 45, 46, 47, 48, 49, 50, 51, 52, 53, 54, 55] (by decide +kernel) (by decide +kernel)
set_option maxRecDepth 20000 in
theorem gX0_goBack_X4_copyFrom : GoodIn wsX0_goBack (wsV RX0 22 RX4 yX4_copyFrom wsX4_copyFrom) := goodIn_app (goodIn_of _ (by decide +kernel)) ggX0_goBack_X4_copyFrom
theorem dX0_goBack_0 : decode cX0_goBack 0 = .ok (.aload_n 0, 1) := by decide +kernel
theorem dX0_goBack_1 : decode cX0_goBack 1 = .ok (.getfield 17, 3) := by decide +kernel
theorem dX0_goBack_4 : decode cX0_goBack 4 = .ok (.iconst 1, 1) := by decide +kernel
theorem dX0_goBack_5 : decode cX0_goBack 5 = .ok (.isub, 1) := by decide +kernel
theorem dX0_goBack_6 : decode cX0_goBack 6 = .ok (.istore_n 2, 1) := by decide +kernel
theorem dX0_goBack_7 : decode cX0_goBack 7 = .ok (.iload_n 2, 1) := by decide +kernel
theorem dX0_goBack_8 : decode cX0_goBack 8 = .ok (.ifCond .lt 12, 3) := by decide +kernel
theorem dX0_goBack_11 : decode cX0_goBack 11 = .ok (.iload_n 2, 1) := by decide +kernel
theorem dX0_goBack_12 : decode cX0_goBack 12 = .ok (.aload_n 0, 1) := by decide +kernel
theorem dX0_goBack_13 : decode cX0_goBack 13 = .ok (.getfield 11, 3) := by decide +kernel
theorem dX0_goBack_16 : decode cX0_goBack 16 = .ok (.arraylength, 1) := by decide +kernel
theorem dX0_goBack_17 : decode cX0_goBack 17 = .ok (.if_icmp .lt 5, 3) := by decide +kernel
theorem dX0_goBack_20 : decode cX0_goBack 20 = .ok (.iconst 0, 1) := by decide +kernel
theorem dX0_goBack_21 : decode cX0_goBack 21 = .ok (.ireturn, 1) := by decide +kernel
theorem dX0_goBack_22 : decode cX0_goBack 22 = .ok (.aload_n 0, 1) := by decide +kernel
theorem dX0_goBack_23 : decode cX0_goBack 23 = .ok (.getfield 11, 3) := by decide +kernel
theorem dX0_goBack_26 : decode cX0_goBack 26 = .ok (.iload_n 2, 1) := by decide +kernel
theorem dX0_goBack_27 : decode cX0_goBack 27 = .ok (.aaload, 1) := by decide +kernel
theorem dX0_goBack_28 : decode cX0_goBack 28 = .ok (.astore_n 3, 1) := by decide +kernel
theorem dX0_goBack_29 : decode cX0_goBack 29 = .ok (.aload_n 3, 1) := by decide +kernel
theorem dX0_goBack_30 : decode cX0_goBack 30 = .ok (.ifnonnull 5, 3) := by decide +kernel
theorem dX0_goBack_33 : decode cX0_goBack 33 = .ok (.iconst 0, 1) := by decide +kernel
theorem dX0_goBack_34 : decode cX0_goBack 34 = .ok (.ireturn, 1) := by decide +kernel
theorem dX0_goBack_35 : decode cX0_goBack 35 = .ok (.aload_n 1, 1) := by decide +kernel
theorem dX0_goBack_36 : decode cX0_goBack 36 = .ok (.aload_n 3, 1) := by decide +kernel
theorem dX0_goBack_37 : decode cX0_goBack 37 = .ok (.invokevirtual 22, 3) := by decide +kernel
theorem dX0_goBack_40 : decode cX0_goBack 40 = .ok (.aload_n 0, 1) := by decide +kernel
theorem dX0_goBack_41 : decode cX0_goBack 41 = .ok (.iload_n 2, 1) := by decide +kernel
theorem dX0_goBack_42 : decode cX0_goBack 42 = .ok (.putfield 17, 3) := by decide +kernel
theorem dX0_goBack_45 : decode cX0_goBack 45 = .ok (.iconst 1, 1) := by decide +kernel
theorem dX0_goBack_46 : decode cX0_goBack 46 = .ok (.ireturn, 1) := by decide +kernel
set_option maxRecDepth 20000 in
theorem ggX1_init_X6_init : GoodIn wsX1_init wsX6_init := goodIn_r _ [13, 14, 2, 3, 15, 16, 17, 18] (by decide +kernel) (by decide +kernel)
set_option maxRecDepth 20000 in
theorem gX1_init_X6_init : GoodIn wsX1_init (wsX6_init) := ggX1_init_X6_init
theorem dX1_init_0 : decode cX1_init 0 = .ok (.aload_n 0, 1) := by decide +kernel
theorem dX1_init_1 : decode cX1_init 1 = .ok (.invokespecial 3, 3) := by decide +kernel
theorem dX1_init_4 : decode cX1_init 4 = .ok (.aload_n 0, 1) := by decide +kernel
theorem dX1_init_5 : decode cX1_init 5 = .ok (.new 9, 3) := by decide +kernel
theorem dX1_init_8 : decode cX1_init 8 = .ok (.dup, 1) := by decide +kernel
theorem dX1_init_9 : decode cX1_init 9 = .ok (.bipush 16, 2) := by decide +kernel
theorem dX1_init_11 : decode cX1_init 11 = .ok (.invokespecial 11, 3) := by decide +kernel
theorem dX1_init_14 : decode cX1_init 14 = .ok (.putfield 14, 3) := by decide +kernel
theorem dX1_init_17 : decode cX1_init 17 = .ok (.aload_n 0, 1) := by decide +kernel
theorem dX1_init_18 : decode cX1_init 18 = .ok (.new 9, 3) := by decide +kernel
theorem dX1_init_21 : decode cX1_init 21 = .ok (.dup, 1) := by decide +kernel
theorem dX1_init_22 : decode cX1_init 22 = .ok (.bipush 16, 2) := by decide +kernel
theorem dX1_init_24 : decode cX1_init 24 = .ok (.invokespecial 11, 3) := by decide +kernel
theorem dX1_init_27 : decode cX1_init 27 = .ok (.putfield 20, 3) := by decide +kernel
theorem dX1_init_30 : decode cX1_init 30 = .ok (.aload_n 0, 1) := by decide +kernel
theorem dX1_init_31 : decode cX1_init 31 = .ok (.new 9, 3) := by decide +kernel
theorem dX1_init_34 : decode cX1_init 34 = .ok (.dup, 1) := by decide +kernel
theorem dX1_init_35 : decode cX1_init 35 = .ok (.bipush 16, 2) := by decide +kernel
theorem dX1_init_37 : decode cX1_init 37 = .ok (.invokespecial 11, 3) := by decide +kernel
theorem dX1_init_40 : decode cX1_init 40 = .ok (.putfield 23, 3) := by decide +kernel
theorem dX1_init_43 : decode cX1_init 43 = .ok (.aload_n 0, 1) := by decide +kernel
theorem dX1_init_44 : decode cX1_init 44 = .ok (.new 9, 3) := by decide +kernel
theorem dX1_init_47 : decode cX1_init 47 = .ok (.dup, 1) := by decide +kernel
theorem dX1_init_48 : decode cX1_init 48 = .ok (.bipush 76, 2) := by decide +kernel
theorem dX1_init_50 : decode cX1_init 50 = .ok (.invokespecial 11, 3) := by decide +kernel
theorem dX1_init_53 : decode cX1_init 53 = .ok (.putfield 26, 3) := by decide +kernel
theorem dX1_init_56 : decode cX1_init 56 = .ok (.return_, 1) := by decide +kernel
set_option maxRecDepth 20000 in
theorem ggX1_layOut_X1_empty : GoodIn wsX1_layOut wsX1_empty := goodIn_r _ [12, 2, 4, 5, 13, 14, 15, 16, 17, 18, 19, 20, 21, 22, 23, 24, 25, 26, 27, 81, 82, 83, 84, 85, 86, 87, 92, 93] (by decide +kernel) (by decide +kernel)
set_option maxRecDepth 20000 in
theorem gX1_layOut_X1_empty : GoodIn wsX1_layOut (wsV RX1 29 RX1 yX1_empty wsX1_empty) := goodIn_app (goodIn_of _ (by decide +kernel)) ggX1_layOut_X1_empty
set_option maxRecDepth 20000 in
theorem ggX1_layOut_X4_piecesOf : GoodIn wsX1_layOut wsX4_piecesOf := goodIn_r _ [32, 33, 34, 35, 36, 37, 38, 39, 40, 41, 42, 43, 44, 45, 46, 47, 20, 48, 22, 27, 49, 50, 51, 75, 76, 77, 78, 79, 80, 88, 89, 90, 91, 92, 93] (by decide +kernel) (by decide +kernel)
set_option maxRecDepth 20000 in
theorem gX1_layOut_X4_piecesOf : GoodIn wsX1_layOut (wsV RX1 38 RX4 yX4_piecesOf wsX4_piecesOf) := goodIn_app (goodIn_of _ (by decide +kernel)) ggX1_layOut_X4_piecesOf
set_option maxRecDepth 20000 in
theorem ggX1_layOut_X6_add : GoodIn wsX1_layOut wsX6_add := goodIn_r _ [26, 22, 27, 92, 93] (by decide +kernel) (by decide +kernel)
set_option maxRecDepth 20000 in
theorem gX1_layOut_X6_add : GoodIn wsX1_layOut (wsV RX1 47 RX6 yX6_add wsX6_add) := goodIn_app (goodIn_of _ (by decide +kernel)) ggX1_layOut_X6_add
set_option maxRecDepth 20000 in
theorem ggX1_layOut_X6_item : GoodIn wsX1_layOut wsX6_item := goodIn_r _ [48, 22, 27, 92, 93] (by decide +kernel) (by decide +kernel)
set_option maxRecDepth 20000 in
theorem gX1_layOut_X6_item : GoodIn wsX1_layOut (wsV RX1 56 RX6 yX6_item wsX6_item) := goodIn_app (goodIn_of _ (by decide +kernel)) ggX1_layOut_X6_item
set_option maxRecDepth 20000 in
theorem ggX1_layOut_X4_lineOf : GoodIn wsX1_layOut wsX4_lineOf := goodIn_r _ [56, 57, 58, 46, 47, 20, 48, 22, 27, 75, 76, 77, 78, 79, 80, 92, 93] (by decide +kernel) (by decide +kernel)
set_option maxRecDepth 20000 in
theorem gX1_layOut_X4_lineOf : GoodIn wsX1_layOut (wsV RX1 60 RX4 yX4_lineOf wsX4_lineOf) := goodIn_app (goodIn_of _ (by decide +kernel)) ggX1_layOut_X4_lineOf
set_option maxRecDepth 20000 in
theorem ggX1_layOut_X1_print : GoodIn wsX1_layOut wsX1_print := goodIn_r _ [62, 13, 4, 5, 14, 63, 64, 65, 66, 15, 16, 52, 46, 47, 20, 48, 22, 27, 67, 68, 69, 70, 71, 72, 73, 74, 81, 82, 83, 84, 85, 86, 87, 92, 93] (by decide +kernel) (by decide +kernel)
set_option maxRecDepth 20000 in
theorem gX1_layOut_X1_print : GoodIn wsX1_layOut (wsV RX1 63 RX1 yX1_print wsX1_print) := goodIn_app (goodIn_of _ (by decide +kernel)) ggX1_layOut_X1_print
theorem dX1_layOut_0 : decode cX1_layOut 0 = .ok (.aload_n 0, 1) := by decide +kernel
theorem dX1_layOut_1 : decode cX1_layOut 1 = .ok (.invokevirtual 29, 3) := by decide +kernel
theorem dX1_layOut_4 : decode cX1_layOut 4 = .ok (.iconst 0, 1) := by decide +kernel
theorem dX1_layOut_5 : decode cX1_layOut 5 = .ok (.istore_n 3, 1) := by decide +kernel
theorem dX1_layOut_6 : decode cX1_layOut 6 = .ok (.iload_n 3, 1) := by decide +kernel
theorem dX1_layOut_7 : decode cX1_layOut 7 = .ok (.aload_n 1, 1) := by decide +kernel
theorem dX1_layOut_8 : decode cX1_layOut 8 = .ok (.getfield 32, 3) := by decide +kernel
theorem dX1_layOut_11 : decode cX1_layOut 11 = .ok (.if_icmp .ge 42, 3) := by decide +kernel
theorem dX1_layOut_14 : decode cX1_layOut 14 = .ok (.aload_n 0, 1) := by decide +kernel
theorem dX1_layOut_15 : decode cX1_layOut 15 = .ok (.getfield 23, 3) := by decide +kernel
theorem dX1_layOut_18 : decode cX1_layOut 18 = .ok (.aload_n 1, 1) := by decide +kernel
theorem dX1_layOut_19 : decode cX1_layOut 19 = .ok (.iload_n 3, 1) := by decide +kernel
theorem dX1_layOut_20 : decode cX1_layOut 20 = .ok (.invokevirtual 38, 3) := by decide +kernel
theorem dX1_layOut_23 : decode cX1_layOut 23 = .ok (.getfield 42, 3) := by decide +kernel
theorem dX1_layOut_26 : decode cX1_layOut 26 = .ok (.invokevirtual 47, 3) := by decide +kernel
theorem dX1_layOut_29 : decode cX1_layOut 29 = .ok (.aload_n 0, 1) := by decide +kernel
theorem dX1_layOut_30 : decode cX1_layOut 30 = .ok (.getfield 14, 3) := by decide +kernel
theorem dX1_layOut_33 : decode cX1_layOut 33 = .ok (.bipush (-6), 2) := by decide +kernel
theorem dX1_layOut_35 : decode cX1_layOut 35 = .ok (.invokevirtual 47, 3) := by decide +kernel
theorem dX1_layOut_38 : decode cX1_layOut 38 = .ok (.aload_n 0, 1) := by decide +kernel
theorem dX1_layOut_39 : decode cX1_layOut 39 = .ok (.getfield 20, 3) := by decide +kernel
theorem dX1_layOut_42 : decode cX1_layOut 42 = .ok (.bipush (-6), 2) := by decide +kernel
theorem dX1_layOut_44 : decode cX1_layOut 44 = .ok (.invokevirtual 47, 3) := by decide +kernel
theorem dX1_layOut_47 : decode cX1_layOut 47 = .ok (.iinc 3 1, 3) := by decide +kernel
theorem dX1_layOut_50 : decode cX1_layOut 50 = .ok (.goto (-44), 3) := by decide +kernel
theorem dX1_layOut_53 : decode cX1_layOut 53 = .ok (.iconst 0, 1) := by decide +kernel
theorem dX1_layOut_54 : decode cX1_layOut 54 = .ok (.istore_n 3, 1) := by decide +kernel
theorem dX1_layOut_55 : decode cX1_layOut 55 = .ok (.iload_n 3, 1) := by decide +kernel
theorem dX1_layOut_56 : decode cX1_layOut 56 = .ok (.aload_n 1, 1) := by decide +kernel
theorem dX1_layOut_57 : decode cX1_layOut 57 = .ok (.getfield 50, 3) := by decide +kernel
theorem dX1_layOut_60 : decode cX1_layOut 60 = .ok (.getfield 53, 3) := by decide +kernel
theorem dX1_layOut_63 : decode cX1_layOut 63 = .ok (.if_icmp .ge 52, 3) := by decide +kernel
theorem dX1_layOut_66 : decode cX1_layOut 66 = .ok (.iconst 0, 1) := by decide +kernel
theorem dX1_layOut_67 : decode cX1_layOut 67 = .ok (.istore 4, 2) := by decide +kernel
theorem dX1_layOut_69 : decode cX1_layOut 69 = .ok (.iload 4, 2) := by decide +kernel
theorem dX1_layOut_71 : decode cX1_layOut 71 = .ok (.aload_n 1, 1) := by decide +kernel
theorem dX1_layOut_72 : decode cX1_layOut 72 = .ok (.getfield 32, 3) := by decide +kernel
theorem dX1_layOut_75 : decode cX1_layOut 75 = .ok (.if_icmp .ge 34, 3) := by decide +kernel
theorem dX1_layOut_78 : decode cX1_layOut 78 = .ok (.aload_n 0, 1) := by decide +kernel
theorem dX1_layOut_79 : decode cX1_layOut 79 = .ok (.getfield 23, 3) := by decide +kernel
theorem dX1_layOut_82 : decode cX1_layOut 82 = .ok (.iload 4, 2) := by decide +kernel
theorem dX1_layOut_84 : decode cX1_layOut 84 = .ok (.invokevirtual 56, 3) := by decide +kernel
theorem dX1_layOut_87 : decode cX1_layOut 87 = .ok (.iload_n 3, 1) := by decide +kernel
theorem dX1_layOut_88 : decode cX1_layOut 88 = .ok (.if_icmp .ne 15, 3) := by decide +kernel
theorem dX1_layOut_91 : decode cX1_layOut 91 = .ok (.aload_n 0, 1) := by decide +kernel
theorem dX1_layOut_92 : decode cX1_layOut 92 = .ok (.iload 4, 2) := by decide +kernel
theorem dX1_layOut_94 : decode cX1_layOut 94 = .ok (.aload_n 1, 1) := by decide +kernel
theorem dX1_layOut_95 : decode cX1_layOut 95 = .ok (.iload_n 3, 1) := by decide +kernel
theorem dX1_layOut_96 : decode cX1_layOut 96 = .ok (.invokevirtual 60, 3) := by decide +kernel
theorem dX1_layOut_99 : decode cX1_layOut 99 = .ok (.iload_n 2, 1) := by decide +kernel
theorem dX1_layOut_100 : decode cX1_layOut 100 = .ok (.invokevirtual 63, 3) := by decide +kernel
theorem dX1_layOut_103 : decode cX1_layOut 103 = .ok (.iinc 4 1, 3) := by decide +kernel
theorem dX1_layOut_106 : decode cX1_layOut 106 = .ok (.goto (-37), 3) := by decide +kernel
theorem dX1_layOut_109 : decode cX1_layOut 109 = .ok (.iinc 3 1, 3) := by decide +kernel
theorem dX1_layOut_112 : decode cX1_layOut 112 = .ok (.goto (-57), 3) := by decide +kernel
theorem dX1_layOut_115 : decode cX1_layOut 115 = .ok (.return_, 1) := by decide +kernel
set_option maxRecDepth 20000 in
theorem ggX1_empty_X6_clear : GoodIn wsX1_empty wsX6_clear := goodIn_r _ [12, 13, 26, 27] (by decide +kernel) (by decide +kernel)
set_option maxRecDepth 20000 in
theorem gX1_empty_X6_clear : GoodIn wsX1_empty (wsV RX1 67 RX6 yX6_clear wsX6_clear) := goodIn_app (goodIn_of _ (by decide +kernel)) ggX1_empty_X6_clear
set_option maxRecDepth 20000 in
theorem ggX1_empty_X6_add : GoodIn wsX1_empty wsX6_add := goodIn_r _ [17, 13, 18, 26, 27] (by decide +kernel) (by decide +kernel)
set_option maxRecDepth 20000 in
theorem gX1_empty_X6_add : GoodIn wsX1_empty (wsV RX1 47 RX6 yX6_add wsX6_add) := goodIn_app (goodIn_of _ (by decide +kernel)) ggX1_empty_X6_add
theorem dX1_empty_0 : decode cX1_empty 0 = .ok (.aload_n 0, 1) := by decide +kernel
theorem dX1_empty_1 : decode cX1_empty 1 = .ok (.getfield 23, 3) := by decide +kernel
theorem dX1_empty_4 : decode cX1_empty 4 = .ok (.invokevirtual 67, 3) := by decide +kernel
theorem dX1_empty_7 : decode cX1_empty 7 = .ok (.aload_n 0, 1) := by decide +kernel
theorem dX1_empty_8 : decode cX1_empty 8 = .ok (.getfield 14, 3) := by decide +kernel
theorem dX1_empty_11 : decode cX1_empty 11 = .ok (.invokevirtual 67, 3) := by decide +kernel
theorem dX1_empty_14 : decode cX1_empty 14 = .ok (.aload_n 0, 1) := by decide +kernel
theorem dX1_empty_15 : decode cX1_empty 15 = .ok (.getfield 20, 3) := by decide +kernel
theorem dX1_empty_18 : decode cX1_empty 18 = .ok (.invokevirtual 67, 3) := by decide +kernel
theorem dX1_empty_21 : decode cX1_empty 21 = .ok (.aload_n 0, 1) := by decide +kernel
theorem dX1_empty_22 : decode cX1_empty 22 = .ok (.getfield 26, 3) := by decide +kernel
theorem dX1_empty_25 : decode cX1_empty 25 = .ok (.invokevirtual 67, 3) := by decide +kernel
theorem dX1_empty_28 : decode cX1_empty 28 = .ok (.iconst 0, 1) := by decide +kernel
theorem dX1_empty_29 : decode cX1_empty 29 = .ok (.istore_n 1, 1) := by decide +kernel
theorem dX1_empty_30 : decode cX1_empty 30 = .ok (.iload_n 1, 1) := by decide +kernel
theorem dX1_empty_31 : decode cX1_empty 31 = .ok (.bipush 76, 2) := by decide +kernel
theorem dX1_empty_33 : decode cX1_empty 33 = .ok (.if_icmp .ge 17, 3) := by decide +kernel
theorem dX1_empty_36 : decode cX1_empty 36 = .ok (.aload_n 0, 1) := by decide +kernel
theorem dX1_empty_37 : decode cX1_empty 37 = .ok (.getfield 26, 3) := by decide +kernel
theorem dX1_empty_40 : decode cX1_empty 40 = .ok (.iconst 0, 1) := by decide +kernel
theorem dX1_empty_41 : decode cX1_empty 41 = .ok (.invokevirtual 47, 3) := by decide +kernel
theorem dX1_empty_44 : decode cX1_empty 44 = .ok (.iinc 1 1, 3) := by decide +kernel
theorem dX1_empty_47 : decode cX1_empty 47 = .ok (.goto (-17), 3) := by decide +kernel
theorem dX1_empty_50 : decode cX1_empty 50 = .ok (.aload_n 0, 1) := by decide +kernel
theorem dX1_empty_51 : decode cX1_empty 51 = .ok (.bipush (-6), 2) := by decide +kernel
theorem dX1_empty_53 : decode cX1_empty 53 = .ok (.putfield 70, 3) := by decide +kernel
theorem dX1_empty_56 : decode cX1_empty 56 = .ok (.aload_n 0, 1) := by decide +kernel
theorem dX1_empty_57 : decode cX1_empty 57 = .ok (.iconst 0, 1) := by decide +kernel
theorem dX1_empty_58 : decode cX1_empty 58 = .ok (.putfield 73, 3) := by decide +kernel
theorem dX1_empty_61 : decode cX1_empty 61 = .ok (.aload_n 0, 1) := by decide +kernel
theorem dX1_empty_62 : decode cX1_empty 62 = .ok (.iconst 0, 1) := by decide +kernel
theorem dX1_empty_63 : decode cX1_empty 63 = .ok (.putfield 76, 3) := by decide +kernel
theorem dX1_empty_66 : decode cX1_empty 66 = .ok (.return_, 1) := by decide +kernel
set_option maxRecDepth 20000 in
theorem ggX1_print_X6_item : GoodIn wsX1_print wsX6_item := goodIn_r _ [15, 16, 17, 33, 34] (by decide +kernel) (by decide +kernel)
set_option maxRecDepth 20000 in
theorem gX1_print_X6_item : GoodIn wsX1_print (wsV RX1 56 RX6 yX6_item wsX6_item) := goodIn_app (goodIn_of _ (by decide +kernel)) ggX1_print_X6_item
set_option maxRecDepth 20000 in
theorem ggX1_print_X6_replace : GoodIn wsX1_print wsX6_replace := goodIn_r _ [21, 17, 22, 23, 24, 14, 25, 16, 33, 34] (by decide +kernel) (by decide +kernel)
set_option maxRecDepth 20000 in
theorem gX1_print_X6_replace : GoodIn wsX1_print (wsV RX1 79 RX6 yX6_replace wsX6_replace) := goodIn_app (goodIn_of _ (by decide +kernel)) ggX1_print_X6_replace
theorem dX1_print_0 : decode cX1_print 0 = .ok (.iload_n 2, 1) := by decide +kernel
theorem dX1_print_1 : decode cX1_print 1 = .ok (.istore 4, 2) := by decide +kernel
theorem dX1_print_3 : decode cX1_print 3 = .ok (.iload 4, 2) := by decide +kernel
theorem dX1_print_5 : decode cX1_print 5 = .ok (.bipush 75, 2) := by decide +kernel
theorem dX1_print_7 : decode cX1_print 7 = .ok (.if_icmp .ge 22, 3) := by decide +kernel
theorem dX1_print_10 : decode cX1_print 10 = .ok (.aload_n 0, 1) := by decide +kernel
theorem dX1_print_11 : decode cX1_print 11 = .ok (.getfield 26, 3) := by decide +kernel
theorem dX1_print_14 : decode cX1_print 14 = .ok (.iload 4, 2) := by decide +kernel
theorem dX1_print_16 : decode cX1_print 16 = .ok (.invokevirtual 56, 3) := by decide +kernel
theorem dX1_print_19 : decode cX1_print 19 = .ok (.iload_n 3, 1) := by decide +kernel
theorem dX1_print_20 : decode cX1_print 20 = .ok (.if_icmp .lt 9, 3) := by decide +kernel
theorem dX1_print_23 : decode cX1_print 23 = .ok (.iinc 4 1, 3) := by decide +kernel
theorem dX1_print_26 : decode cX1_print 26 = .ok (.goto (-23), 3) := by decide +kernel
theorem dX1_print_29 : decode cX1_print 29 = .ok (.aload_n 0, 1) := by decide +kernel
theorem dX1_print_30 : decode cX1_print 30 = .ok (.getfield 26, 3) := by decide +kernel
theorem dX1_print_33 : decode cX1_print 33 = .ok (.iload 4, 2) := by decide +kernel
theorem dX1_print_35 : decode cX1_print 35 = .ok (.aload_n 0, 1) := by decide +kernel
theorem dX1_print_36 : decode cX1_print 36 = .ok (.getfield 26, 3) := by decide +kernel
theorem dX1_print_39 : decode cX1_print 39 = .ok (.iload 4, 2) := by decide +kernel
theorem dX1_print_41 : decode cX1_print 41 = .ok (.invokevirtual 56, 3) := by decide +kernel
theorem dX1_print_44 : decode cX1_print 44 = .ok (.iconst 1, 1) := by decide +kernel
theorem dX1_print_45 : decode cX1_print 45 = .ok (.iadd, 1) := by decide +kernel
theorem dX1_print_46 : decode cX1_print 46 = .ok (.invokevirtual 79, 3) := by decide +kernel
theorem dX1_print_49 : decode cX1_print 49 = .ok (.aload_n 0, 1) := by decide +kernel
theorem dX1_print_50 : decode cX1_print 50 = .ok (.getfield 14, 3) := by decide +kernel
theorem dX1_print_53 : decode cX1_print 53 = .ok (.iload_n 1, 1) := by decide +kernel
theorem dX1_print_54 : decode cX1_print 54 = .ok (.iload 4, 2) := by decide +kernel
theorem dX1_print_56 : decode cX1_print 56 = .ok (.invokevirtual 79, 3) := by decide +kernel
theorem dX1_print_59 : decode cX1_print 59 = .ok (.aload_n 0, 1) := by decide +kernel
theorem dX1_print_60 : decode cX1_print 60 = .ok (.getfield 20, 3) := by decide +kernel
theorem dX1_print_63 : decode cX1_print 63 = .ok (.iload_n 1, 1) := by decide +kernel
theorem dX1_print_64 : decode cX1_print 64 = .ok (.iload 4, 2) := by decide +kernel
theorem dX1_print_66 : decode cX1_print 66 = .ok (.iload_n 2, 1) := by decide +kernel
theorem dX1_print_67 : decode cX1_print 67 = .ok (.isub, 1) := by decide +kernel
theorem dX1_print_68 : decode cX1_print 68 = .ok (.invokevirtual 79, 3) := by decide +kernel
theorem dX1_print_71 : decode cX1_print 71 = .ok (.aload_n 0, 1) := by decide +kernel
theorem dX1_print_72 : decode cX1_print 72 = .ok (.aload_n 0, 1) := by decide +kernel
theorem dX1_print_73 : decode cX1_print 73 = .ok (.getfield 70, 3) := by decide +kernel
theorem dX1_print_76 : decode cX1_print 76 = .ok (.iload 4, 2) := by decide +kernel
theorem dX1_print_78 : decode cX1_print 78 = .ok (.invokestatic 83, 3) := by decide +kernel
theorem dX1_print_81 : decode cX1_print 81 = .ok (.putfield 70, 3) := by decide +kernel
theorem dX1_print_84 : decode cX1_print 84 = .ok (.aload_n 0, 1) := by decide +kernel
theorem dX1_print_85 : decode cX1_print 85 = .ok (.dup, 1) := by decide +kernel
theorem dX1_print_86 : decode cX1_print 86 = .ok (.getfield 73, 3) := by decide +kernel
theorem dX1_print_89 : decode cX1_print 89 = .ok (.iload 4, 2) := by decide +kernel
theorem dX1_print_91 : decode cX1_print 91 = .ok (.iload_n 2, 1) := by decide +kernel
theorem dX1_print_92 : decode cX1_print 92 = .ok (.isub, 1) := by decide +kernel
theorem dX1_print_93 : decode cX1_print 93 = .ok (.iadd, 1) := by decide +kernel
theorem dX1_print_94 : decode cX1_print 94 = .ok (.putfield 73, 3) := by decide +kernel
theorem dX1_print_97 : decode cX1_print 97 = .ok (.aload_n 0, 1) := by decide +kernel
theorem dX1_print_98 : decode cX1_print 98 = .ok (.aload_n 0, 1) := by decide +kernel
theorem dX1_print_99 : decode cX1_print 99 = .ok (.getfield 76, 3) := by decide +kernel
theorem dX1_print_102 : decode cX1_print 102 = .ok (.iload 4, 2) := by decide +kernel
theorem dX1_print_104 : decode cX1_print 104 = .ok (.iload_n 2, 1) := by decide +kernel
theorem dX1_print_105 : decode cX1_print 105 = .ok (.isub, 1) := by decide +kernel
theorem dX1_print_106 : decode cX1_print 106 = .ok (.invokestatic 83, 3) := by decide +kernel
theorem dX1_print_109 : decode cX1_print 109 = .ok (.putfield 76, 3) := by decide +kernel
theorem dX1_print_112 : decode cX1_print 112 = .ok (.return_, 1) := by decide +kernel
set_option maxRecDepth 20000 in
theorem ggX3_init_X6_init : GoodIn wsX3_init wsX6_init := goodIn_r _ [10, 11, 2, 3, 12, 13, 14, 15] (by decide +kernel) (by decide +kernel)
set_option maxRecDepth 20000 in
theorem gX3_init_X6_init : GoodIn wsX3_init (wsX6_init) := ggX3_init_X6_init
theorem dX3_init_0 : decode cX3_init 0 = .ok (.aload_n 0, 1) := by decide +kernel
theorem dX3_init_1 : decode cX3_init 1 = .ok (.invokespecial 3, 3) := by decide +kernel
theorem dX3_init_4 : decode cX3_init 4 = .ok (.aload_n 0, 1) := by decide +kernel
theorem dX3_init_5 : decode cX3_init 5 = .ok (.new 9, 3) := by decide +kernel
theorem dX3_init_8 : decode cX3_init 8 = .ok (.dup, 1) := by decide +kernel
theorem dX3_init_9 : decode cX3_init 9 = .ok (.iconst 3, 1) := by decide +kernel
theorem dX3_init_10 : decode cX3_init 10 = .ok (.invokespecial 11, 3) := by decide +kernel
theorem dX3_init_13 : decode cX3_init 13 = .ok (.putfield 14, 3) := by decide +kernel
theorem dX3_init_16 : decode cX3_init 16 = .ok (.return_, 1) := by decide +kernel
set_option maxRecDepth 20000 in
theorem ggX8_init_X4_init : GoodIn wsX8_init wsX4_init := goodIn_r _ [31, 32, 2, 3, 33, 17, 18, 34, 35, 36, 37, 38, 39, 40, 41, 42, 43, 44, 45, 46, 47, 48, 49, 50, 51, 52, 53, 54, 55, 56, 57, 58, 59, 60, 61, 62, 63, 64, 65, 66, 67, 115, 116, 92, 93, 94, 95, 96, 97, 123, 124, 125, 126, 127, 128, 129, 130] (by decide +kernel) (by decide +kernel)
set_option maxRecDepth 20000 in
theorem gX8_init_X4_init : GoodIn wsX8_init (wsX4_init) := ggX8_init_X4_init
set_option maxRecDepth 20000 in
theorem ggX8_init_X1_init : GoodIn wsX8_init wsX1_init := goodIn_r _ [69, 70, 2, 3, 71, 17, 18, 72, 73, 74, 75, 76, 46, 47, 48, 49, 50, 115, 116, 105, 106, 107, 108, 109, 110, 111] (by decide +kernel) (by decide +kernel)
set_option maxRecDepth 20000 in
theorem gX8_init_X1_init_n18 : GoodIn wsX8_init (wsX1_init) := ggX8_init_X1_init
set_option maxRecDepth 20000 in
theorem ggX8_init_X7_init : GoodIn wsX8_init wsX7_init := goodIn_r _ [78, 79, 2, 3] (by decide +kernel) (by decide +kernel)
set_option maxRecDepth 20000 in
theorem gX8_init_X7_init_n25 : GoodIn wsX8_init (wsX7_init) := ggX8_init_X7_init
set_option maxRecDepth 20000 in
theorem ggX8_init_X6_init : GoodIn wsX8_init wsX6_init := goodIn_r _ [47, 48, 2, 3, 49, 50, 115, 116] (by decide +kernel) (by decide +kernel)
set_option maxRecDepth 20000 in
theorem gX8_init_X6_init : GoodIn wsX8_init (wsX6_init) := ggX8_init_X6_init
set_option maxRecDepth 20000 in
theorem ggX8_init_X3_init : GoodIn wsX8_init wsX3_init := goodIn_r _ [82, 83, 2, 3, 84, 17, 18, 85, 86, 46, 47, 48, 49, 50, 115, 116, 117, 118, 119, 120] (by decide +kernel) (by decide +kernel)
set_option maxRecDepth 20000 in
theorem gX8_init_X3_init_n41 : GoodIn wsX8_init (wsX3_init) := ggX8_init_X3_init
set_option maxRecDepth 20000 in
theorem ggX8_init_X0_init : GoodIn wsX8_init wsX0_init := goodIn_r _ [88, 89, 2, 3, 90, 91, 121, 122] (by decide +kernel) (by decide +kernel)
set_option maxRecDepth 20000 in
theorem gX8_init_X0_init_n48 : GoodIn wsX8_init (wsX0_init) := ggX8_init_X0_init
theorem dX8_init_0 : decode cX8_init 0 = .ok (.aload_n 0, 1) := by decide +kernel
theorem dX8_init_1 : decode cX8_init 1 = .ok (.invokespecial 1, 3) := by decide +kernel
theorem dX8_init_4 : decode cX8_init 4 = .ok (.aload_n 0, 1) := by decide +kernel
theorem dX8_init_5 : decode cX8_init 5 = .ok (.new 7, 3) := by decide +kernel
theorem dX8_init_8 : decode cX8_init 8 = .ok (.dup, 1) := by decide +kernel
theorem dX8_init_9 : decode cX8_init 9 = .ok (.invokespecial 9, 3) := by decide +kernel
theorem dX8_init_12 : decode cX8_init 12 = .ok (.putfield 10, 3) := by decide +kernel
theorem dX8_init_15 : decode cX8_init 15 = .ok (.aload_n 0, 1) := by decide +kernel
theorem dX8_init_16 : decode cX8_init 16 = .ok (.new 16, 3) := by decide +kernel
theorem dX8_init_19 : decode cX8_init 19 = .ok (.dup, 1) := by decide +kernel
theorem dX8_init_20 : decode cX8_init 20 = .ok (.invokespecial 18, 3) := by decide +kernel
theorem dX8_init_23 : decode cX8_init 23 = .ok (.putfield 19, 3) := by decide +kernel
theorem dX8_init_26 : decode cX8_init 26 = .ok (.aload_n 0, 1) := by decide +kernel
theorem dX8_init_27 : decode cX8_init 27 = .ok (.new 23, 3) := by decide +kernel
theorem dX8_init_30 : decode cX8_init 30 = .ok (.dup, 1) := by decide +kernel
theorem dX8_init_31 : decode cX8_init 31 = .ok (.invokespecial 25, 3) := by decide +kernel
theorem dX8_init_34 : decode cX8_init 34 = .ok (.putfield 26, 3) := by decide +kernel
theorem dX8_init_37 : decode cX8_init 37 = .ok (.aload_n 0, 1) := by decide +kernel
theorem dX8_init_38 : decode cX8_init 38 = .ok (.new 30, 3) := by decide +kernel
theorem dX8_init_41 : decode cX8_init 41 = .ok (.dup, 1) := by decide +kernel
theorem dX8_init_42 : decode cX8_init 42 = .ok (.bipush 80, 2) := by decide +kernel
theorem dX8_init_44 : decode cX8_init 44 = .ok (.invokespecial 32, 3) := by decide +kernel
theorem dX8_init_47 : decode cX8_init 47 = .ok (.putfield 35, 3) := by decide +kernel
theorem dX8_init_50 : decode cX8_init 50 = .ok (.aload_n 0, 1) := by decide +kernel
theorem dX8_init_51 : decode cX8_init 51 = .ok (.new 39, 3) := by decide +kernel
theorem dX8_init_54 : decode cX8_init 54 = .ok (.dup, 1) := by decide +kernel
theorem dX8_init_55 : decode cX8_init 55 = .ok (.invokespecial 41, 3) := by decide +kernel
theorem dX8_init_58 : decode cX8_init 58 = .ok (.putfield 42, 3) := by decide +kernel
theorem dX8_init_61 : decode cX8_init 61 = .ok (.aload_n 0, 1) := by decide +kernel
theorem dX8_init_62 : decode cX8_init 62 = .ok (.new 46, 3) := by decide +kernel
theorem dX8_init_65 : decode cX8_init 65 = .ok (.dup, 1) := by decide +kernel
theorem dX8_init_66 : decode cX8_init 66 = .ok (.invokespecial 48, 3) := by decide +kernel
theorem dX8_init_69 : decode cX8_init 69 = .ok (.putfield 49, 3) := by decide +kernel
theorem dX8_init_72 : decode cX8_init 72 = .ok (.aload_n 0, 1) := by decide +kernel
theorem dX8_init_73 : decode cX8_init 73 = .ok (.iconst 2, 1) := by decide +kernel
theorem dX8_init_74 : decode cX8_init 74 = .ok (.anewarray 7, 3) := by decide +kernel
theorem dX8_init_77 : decode cX8_init 77 = .ok (.putfield 53, 3) := by decide +kernel
theorem dX8_init_80 : decode cX8_init 80 = .ok (.return_, 1) := by decide +kernel
set_option maxRecDepth 20000 in
theorem ggX8_set_X0_keep : GoodIn wsX8_set wsX0_keep := goodIn_r _ [7, 8, 9, 10, 11, 12, 13, 14, 15, 16, 17, 18, 19, 20, 21, 22, 23, 24, 25, 26, 27, 28, 29, 30, 31, 32, 33, 34, 35, 36, 37, 38, 39, 40, 41, 42, 43, 44, 45, 46, 47, 48, 49, 50, 51, 52, 53, 54, 55, 56, 57, 58, 59, 60, 61, 62, 63, 64, 65, 66, 67, 68, 69, 70, 71, 72, 73, 74, 75, 76, 77, 78, 79, 80, 81, 120, 121, 122, 123, 124, 125, 126, 127, 128, 129, 130, 131, 132, 133, 134, 135, 136, 137] (by decide +kernel) (by decide +kernel)
set_option maxRecDepth 20000 in
theorem gX8_set_X0_keep : GoodIn wsX8_set (wsV RX8 57 RX0 yX0_keep wsX0_keep) := goodIn_app (goodIn_of _ (by decide +kernel)) ggX8_set_X0_keep
set_option maxRecDepth 20000 in
theorem ggX8_set_X4_changeSetting : GoodIn wsX8_set wsX4_changeSetting := goodIn_r _ [85, 22, 86, 87, 88, 21, 89, 46, 38, 90, 91, 12, 92, 93, 94, 95, 96, 97, 98, 99, 100, 101, 102, 103, 104, 122, 123, 124, 125, 126, 127, 128, 129] (by decide +kernel) (by decide +kernel)
set_option maxRecDepth 20000 in
theorem gX8_set_X4_changeSetting : GoodIn wsX8_set (wsV RX8 61 RX4 yX4_changeSetting wsX4_changeSetting) := goodIn_app (goodIn_of _ (by decide +kernel)) ggX8_set_X4_changeSetting
set_option maxRecDepth 20000 in
theorem ggX8_set_X0_confirm : GoodIn wsX8_set wsX0_confirm := goodIn_r _ [108, 8, 109, 110, 111, 6, 112, 9, 120, 121] (by decide +kernel) (by decide +kernel)
set_option maxRecDepth 20000 in
theorem gX8_set_X0_confirm : GoodIn wsX8_set (wsV RX8 65 RX0 yX0_confirm wsX0_confirm) := goodIn_app (goodIn_of _ (by decide +kernel)) ggX8_set_X0_confirm
theorem dX8_set_0 : decode cX8_set 0 = .ok (.aload_n 0, 1) := by decide +kernel
theorem dX8_set_1 : decode cX8_set 1 = .ok (.getfield 49, 3) := by decide +kernel
theorem dX8_set_4 : decode cX8_set 4 = .ok (.aload_n 0, 1) := by decide +kernel
theorem dX8_set_5 : decode cX8_set 5 = .ok (.getfield 10, 3) := by decide +kernel
theorem dX8_set_8 : decode cX8_set 8 = .ok (.invokevirtual 57, 3) := by decide +kernel
theorem dX8_set_11 : decode cX8_set 11 = .ok (.aload_n 0, 1) := by decide +kernel
theorem dX8_set_12 : decode cX8_set 12 = .ok (.getfield 49, 3) := by decide +kernel
theorem dX8_set_15 : decode cX8_set 15 = .ok (.aload_n 0, 1) := by decide +kernel
theorem dX8_set_16 : decode cX8_set 16 = .ok (.getfield 10, 3) := by decide +kernel
theorem dX8_set_19 : decode cX8_set 19 = .ok (.iload_n 1, 1) := by decide +kernel
theorem dX8_set_20 : decode cX8_set 20 = .ok (.iload_n 2, 1) := by decide +kernel
theorem dX8_set_21 : decode cX8_set 21 = .ok (.invokevirtual 61, 3) := by decide +kernel
theorem dX8_set_24 : decode cX8_set 24 = .ok (.invokevirtual 65, 3) := by decide +kernel
theorem dX8_set_27 : decode cX8_set 27 = .ok (.ireturn, 1) := by decide +kernel
set_option maxRecDepth 20000 in
theorem ggX8_write_X0_keep : GoodIn wsX8_write wsX0_keep := goodIn_r _ [7, 8, 9, 10, 11, 12, 13, 14, 15, 16, 17, 18, 19, 20, 21, 22, 23, 24, 25, 26, 27, 28, 29, 30, 31, 32, 33, 34, 35, 36, 37, 38, 39, 40, 41, 42, 43, 44, 45, 46, 47, 48, 49, 50, 51, 52, 53, 54, 55, 56, 57, 58, 59, 60, 61, 62, 63, 64, 65, 66, 67, 68, 69, 70, 71, 72, 73, 74, 75, 76, 77, 78, 79, 80, 81, 106, 107, 108, 109, 110, 111, 112, 113, 114, 115, 116, 117, 118, 119, 120, 121, 122, 123] (by decide +kernel) (by decide +kernel)
set_option maxRecDepth 20000 in
theorem gX8_write_X0_keep : GoodIn wsX8_write (wsV RX8 57 RX0 yX0_keep wsX0_keep) := goodIn_app (goodIn_of _ (by decide +kernel)) ggX8_write_X0_keep
set_option maxRecDepth 20000 in
theorem ggX8_write_X4_writeLetter : GoodIn wsX8_write wsX4_writeLetter := goodIn_r _ [85, 23, 86, 24, 87, 88, 89, 21, 90, 46, 38, 69, 70, 71, 72, 108, 109, 110, 111, 112, 113, 114, 115] (by decide +kernel) (by decide +kernel)
set_option maxRecDepth 20000 in
theorem gX8_write_X4_writeLetter : GoodIn wsX8_write (wsV RX8 69 RX4 yX4_writeLetter wsX4_writeLetter) := goodIn_app (goodIn_of _ (by decide +kernel)) ggX8_write_X4_writeLetter
set_option maxRecDepth 20000 in
theorem ggX8_write_X0_confirm : GoodIn wsX8_write wsX0_confirm := goodIn_r _ [94, 8, 95, 96, 97, 6, 98, 9, 106, 107] (by decide +kernel) (by decide +kernel)
set_option maxRecDepth 20000 in
theorem gX8_write_X0_confirm : GoodIn wsX8_write (wsV RX8 65 RX0 yX0_confirm wsX0_confirm) := goodIn_app (goodIn_of _ (by decide +kernel)) ggX8_write_X0_confirm
theorem dX8_write_0 : decode cX8_write 0 = .ok (.aload_n 0, 1) := by decide +kernel
theorem dX8_write_1 : decode cX8_write 1 = .ok (.getfield 49, 3) := by decide +kernel
theorem dX8_write_4 : decode cX8_write 4 = .ok (.aload_n 0, 1) := by decide +kernel
theorem dX8_write_5 : decode cX8_write 5 = .ok (.getfield 10, 3) := by decide +kernel
theorem dX8_write_8 : decode cX8_write 8 = .ok (.invokevirtual 57, 3) := by decide +kernel
theorem dX8_write_11 : decode cX8_write 11 = .ok (.aload_n 0, 1) := by decide +kernel
theorem dX8_write_12 : decode cX8_write 12 = .ok (.getfield 49, 3) := by decide +kernel
theorem dX8_write_15 : decode cX8_write 15 = .ok (.aload_n 0, 1) := by decide +kernel
theorem dX8_write_16 : decode cX8_write 16 = .ok (.getfield 10, 3) := by decide +kernel
theorem dX8_write_19 : decode cX8_write 19 = .ok (.iload_n 1, 1) := by decide +kernel
theorem dX8_write_20 : decode cX8_write 20 = .ok (.iload_n 2, 1) := by decide +kernel
theorem dX8_write_21 : decode cX8_write 21 = .ok (.invokevirtual 69, 3) := by decide +kernel
theorem dX8_write_24 : decode cX8_write 24 = .ok (.invokevirtual 65, 3) := by decide +kernel
theorem dX8_write_27 : decode cX8_write 27 = .ok (.ireturn, 1) := by decide +kernel
set_option maxRecDepth 20000 in
theorem ggX8_erase_X0_keep : GoodIn wsX8_erase wsX0_keep := goodIn_r _ [7, 8, 9, 10, 11, 12, 13, 14, 15, 16, 17, 18, 19, 20, 21, 22, 23, 24, 25, 26, 27, 28, 29, 30, 31, 32, 33, 34, 35, 36, 37, 38, 39, 40, 41, 42, 43, 44, 45, 46, 47, 48, 49, 50, 51, 52, 53, 54, 55, 56, 57, 58, 59, 60, 61, 62, 63, 64, 65, 66, 67, 68, 69, 70, 71, 72, 73, 74, 75, 76, 77, 78, 79, 80, 81, 130, 131, 132, 133, 134, 135, 136, 137, 138, 139, 140, 141, 142, 143, 144, 145, 146, 147] (by decide +kernel) (by decide +kernel)
set_option maxRecDepth 20000 in
theorem gX8_erase_X0_keep : GoodIn wsX8_erase (wsV RX8 57 RX0 yX0_keep wsX0_keep) := goodIn_app (goodIn_of _ (by decide +kernel)) ggX8_erase_X0_keep
set_option maxRecDepth 20000 in
theorem ggX8_erase_X4_eraseLetters : GoodIn wsX8_erase wsX4_eraseLetters := goodIn_r _ [85, 23, 24, 86, 87, 88, 12, 89, 90, 91, 92, 93, 94, 95, 96, 97, 21, 98, 46, 38, 99, 100, 101, 102, 103, 104, 105, 106, 69, 70, 71, 72, 107, 108, 109, 110, 111, 112, 113, 114, 132, 133, 134, 135, 136, 137, 138, 139] (by decide +kernel) (by decide +kernel)
set_option maxRecDepth 20000 in
theorem gX8_erase_X4_eraseLetters : GoodIn wsX8_erase (wsV RX8 72 RX4 yX4_eraseLetters wsX4_eraseLetters) := goodIn_app (goodIn_of _ (by decide +kernel)) ggX8_erase_X4_eraseLetters
set_option maxRecDepth 20000 in
theorem ggX8_erase_X0_confirm : GoodIn wsX8_erase wsX0_confirm := goodIn_r _ [118, 8, 119, 120, 121, 6, 122, 9, 130, 131] (by decide +kernel) (by decide +kernel)
set_option maxRecDepth 20000 in
theorem gX8_erase_X0_confirm : GoodIn wsX8_erase (wsV RX8 65 RX0 yX0_confirm wsX0_confirm) := goodIn_app (goodIn_of _ (by decide +kernel)) ggX8_erase_X0_confirm
theorem dX8_erase_0 : decode cX8_erase 0 = .ok (.aload_n 0, 1) := by decide +kernel
theorem dX8_erase_1 : decode cX8_erase 1 = .ok (.getfield 49, 3) := by decide +kernel
theorem dX8_erase_4 : decode cX8_erase 4 = .ok (.aload_n 0, 1) := by decide +kernel
theorem dX8_erase_5 : decode cX8_erase 5 = .ok (.getfield 10, 3) := by decide +kernel
theorem dX8_erase_8 : decode cX8_erase 8 = .ok (.invokevirtual 57, 3) := by decide +kernel
theorem dX8_erase_11 : decode cX8_erase 11 = .ok (.aload_n 0, 1) := by decide +kernel
theorem dX8_erase_12 : decode cX8_erase 12 = .ok (.getfield 49, 3) := by decide +kernel
theorem dX8_erase_15 : decode cX8_erase 15 = .ok (.aload_n 0, 1) := by decide +kernel
theorem dX8_erase_16 : decode cX8_erase 16 = .ok (.getfield 10, 3) := by decide +kernel
theorem dX8_erase_19 : decode cX8_erase 19 = .ok (.iload_n 1, 1) := by decide +kernel
theorem dX8_erase_20 : decode cX8_erase 20 = .ok (.iload_n 2, 1) := by decide +kernel
theorem dX8_erase_21 : decode cX8_erase 21 = .ok (.invokevirtual 72, 3) := by decide +kernel
theorem dX8_erase_24 : decode cX8_erase 24 = .ok (.invokevirtual 65, 3) := by decide +kernel
theorem dX8_erase_27 : decode cX8_erase 27 = .ok (.ireturn, 1) := by decide +kernel
set_option maxRecDepth 20000 in
theorem ggX8_move_X0_keep : GoodIn wsX8_move wsX0_keep := goodIn_r _ [7, 8, 9, 10, 11, 12, 13, 14, 15, 16, 17, 18, 19, 20, 21, 22, 23, 24, 25, 26, 27, 28, 29, 30, 31, 32, 33, 34, 35, 36, 37, 38, 39, 40, 41, 42, 43, 44, 45, 46, 47, 48, 49, 50, 51, 52, 53, 54, 55, 56, 57, 58, 59, 60, 61, 62, 63, 64, 65, 66, 67, 68, 69, 70, 71, 72, 73, 74, 75, 76, 77, 78, 79, 80, 81, 148, 149, 150, 151, 152, 153, 154, 155, 156, 157, 158, 159, 160, 161, 162, 163, 164, 165] (by decide +kernel) (by decide +kernel)
set_option maxRecDepth 20000 in
theorem gX8_move_X0_keep : GoodIn wsX8_move (wsV RX8 57 RX0 yX0_keep wsX0_keep) := goodIn_app (goodIn_of _ (by decide +kernel)) ggX8_move_X0_keep
set_option maxRecDepth 20000 in
theorem ggX8_move_X4_moveLetters : GoodIn wsX8_move wsX4_moveLetters := goodIn_r _ [85, 23, 86, 24, 87, 88, 89, 12, 90, 91, 92, 93, 21, 94, 46, 38, 95, 96, 97, 98, 99, 100, 101, 102, 103, 104, 105, 106, 107, 108, 109, 110, 111, 60, 112, 113, 114, 115, 116, 30, 117, 118, 119, 29, 120, 121, 122, 123, 124, 125, 126, 127, 128, 129, 130, 131, 132, 150, 151, 152, 153, 154, 155, 156, 157, 158, 159, 160, 161] (by decide +kernel) (by decide +kernel)
set_option maxRecDepth 20000 in
theorem gX8_move_X4_moveLetters : GoodIn wsX8_move (wsV RX8 75 RX4 yX4_moveLetters wsX4_moveLetters) := goodIn_app (goodIn_of _ (by decide +kernel)) ggX8_move_X4_moveLetters
set_option maxRecDepth 20000 in
theorem ggX8_move_X0_confirm : GoodIn wsX8_move wsX0_confirm := goodIn_r _ [136, 8, 137, 138, 139, 6, 140, 9, 148, 149] (by decide +kernel) (by decide +kernel)
set_option maxRecDepth 20000 in
theorem gX8_move_X0_confirm : GoodIn wsX8_move (wsV RX8 65 RX0 yX0_confirm wsX0_confirm) := goodIn_app (goodIn_of _ (by decide +kernel)) ggX8_move_X0_confirm
theorem dX8_move_0 : decode cX8_move 0 = .ok (.aload_n 0, 1) := by decide +kernel
theorem dX8_move_1 : decode cX8_move 1 = .ok (.getfield 49, 3) := by decide +kernel
theorem dX8_move_4 : decode cX8_move 4 = .ok (.aload_n 0, 1) := by decide +kernel
theorem dX8_move_5 : decode cX8_move 5 = .ok (.getfield 10, 3) := by decide +kernel
theorem dX8_move_8 : decode cX8_move 8 = .ok (.invokevirtual 57, 3) := by decide +kernel
theorem dX8_move_11 : decode cX8_move 11 = .ok (.aload_n 0, 1) := by decide +kernel
theorem dX8_move_12 : decode cX8_move 12 = .ok (.getfield 49, 3) := by decide +kernel
theorem dX8_move_15 : decode cX8_move 15 = .ok (.aload_n 0, 1) := by decide +kernel
theorem dX8_move_16 : decode cX8_move 16 = .ok (.getfield 10, 3) := by decide +kernel
theorem dX8_move_19 : decode cX8_move 19 = .ok (.iload_n 1, 1) := by decide +kernel
theorem dX8_move_20 : decode cX8_move 20 = .ok (.iload_n 2, 1) := by decide +kernel
theorem dX8_move_21 : decode cX8_move 21 = .ok (.iload_n 3, 1) := by decide +kernel
theorem dX8_move_22 : decode cX8_move 22 = .ok (.invokevirtual 75, 3) := by decide +kernel
theorem dX8_move_25 : decode cX8_move 25 = .ok (.invokevirtual 65, 3) := by decide +kernel
theorem dX8_move_28 : decode cX8_move 28 = .ok (.ireturn, 1) := by decide +kernel
set_option maxRecDepth 20000 in
theorem ggX8_note_X0_keep : GoodIn wsX8_note wsX0_keep := goodIn_r _ [7, 8, 9, 10, 11, 12, 13, 14, 15, 16, 17, 18, 19, 20, 21, 22, 23, 24, 25, 26, 27, 28, 29, 30, 31, 32, 33, 34, 35, 36, 37, 38, 39, 40, 41, 42, 43, 44, 45, 46, 47, 48, 49, 50, 51, 52, 53, 54, 55, 56, 57, 58, 59, 60, 61, 62, 63, 64, 65, 66, 67, 68, 69, 70, 71, 72, 73, 74, 75, 76, 77, 78, 79, 80, 81, 137, 138, 139, 140, 141, 142, 143, 144, 145, 146, 147, 148, 149, 150, 151, 152, 153, 154] (by decide +kernel) (by decide +kernel)
set_option maxRecDepth 20000 in
theorem gX8_note_X0_keep : GoodIn wsX8_note (wsV RX8 57 RX0 yX0_keep wsX0_keep) := goodIn_app (goodIn_of _ (by decide +kernel)) ggX8_note_X0_keep
set_option maxRecDepth 20000 in
theorem ggX8_note_X4_addNote : GoodIn wsX8_note wsX4_addNote := goodIn_r _ [85, 60, 86, 87, 88, 12, 89, 23, 90, 91, 92, 21, 93, 46, 38, 94, 95, 96, 97, 22, 24, 98, 73, 74, 75, 76, 26, 99, 100, 101, 102, 103, 104, 105, 32, 106, 50, 52, 53, 54, 107, 108, 109, 110, 111, 112, 113, 114, 115, 116, 117, 43, 44, 45, 118, 119, 120, 121, 139, 140, 141, 142, 143, 144, 145, 146, 151, 152, 153, 154] (by decide +kernel) (by decide +kernel)
set_option maxRecDepth 20000 in
theorem gX8_note_X4_addNote : GoodIn wsX8_note (wsV RX8 79 RX4 yX4_addNote wsX4_addNote) := goodIn_app (goodIn_of _ (by decide +kernel)) ggX8_note_X4_addNote
set_option maxRecDepth 20000 in
theorem ggX8_note_X0_confirm : GoodIn wsX8_note wsX0_confirm := goodIn_r _ [125, 8, 126, 127, 128, 6, 129, 9, 137, 138] (by decide +kernel) (by decide +kernel)
set_option maxRecDepth 20000 in
theorem gX8_note_X0_confirm : GoodIn wsX8_note (wsV RX8 65 RX0 yX0_confirm wsX0_confirm) := goodIn_app (goodIn_of _ (by decide +kernel)) ggX8_note_X0_confirm
theorem dX8_note_0 : decode cX8_note 0 = .ok (.aload_n 0, 1) := by decide +kernel
theorem dX8_note_1 : decode cX8_note 1 = .ok (.getfield 49, 3) := by decide +kernel
theorem dX8_note_4 : decode cX8_note 4 = .ok (.aload_n 0, 1) := by decide +kernel
theorem dX8_note_5 : decode cX8_note 5 = .ok (.getfield 10, 3) := by decide +kernel
theorem dX8_note_8 : decode cX8_note 8 = .ok (.invokevirtual 57, 3) := by decide +kernel
theorem dX8_note_11 : decode cX8_note 11 = .ok (.aload_n 0, 1) := by decide +kernel
theorem dX8_note_12 : decode cX8_note 12 = .ok (.getfield 49, 3) := by decide +kernel
theorem dX8_note_15 : decode cX8_note 15 = .ok (.aload_n 0, 1) := by decide +kernel
theorem dX8_note_16 : decode cX8_note 16 = .ok (.getfield 10, 3) := by decide +kernel
theorem dX8_note_19 : decode cX8_note 19 = .ok (.iload_n 1, 1) := by decide +kernel
theorem dX8_note_20 : decode cX8_note 20 = .ok (.iload_n 2, 1) := by decide +kernel
theorem dX8_note_21 : decode cX8_note 21 = .ok (.invokevirtual 79, 3) := by decide +kernel
theorem dX8_note_24 : decode cX8_note 24 = .ok (.invokevirtual 65, 3) := by decide +kernel
theorem dX8_note_27 : decode cX8_note 27 = .ok (.ireturn, 1) := by decide +kernel
set_option maxRecDepth 20000 in
theorem ggX8_reply_X0_keep : GoodIn wsX8_reply wsX0_keep := goodIn_r _ [7, 8, 9, 10, 11, 12, 13, 14, 15, 16, 17, 18, 19, 20, 21, 22, 23, 24, 25, 26, 27, 28, 29, 30, 31, 32, 33, 34, 35, 36, 37, 38, 39, 40, 41, 42, 43, 44, 45, 46, 47, 48, 49, 50, 51, 52, 53, 54, 55, 56, 57, 58, 59, 60, 61, 62, 63, 64, 65, 66, 67, 68, 69, 70, 71, 72, 73, 74, 75, 76, 77, 78, 79, 80, 81, 109, 110, 111, 112, 113, 114, 115, 116, 117, 118, 119, 120, 121, 122, 123, 124, 125, 126] (by decide +kernel) (by decide +kernel)
set_option maxRecDepth 20000 in
theorem gX8_reply_X0_keep : GoodIn wsX8_reply (wsV RX8 57 RX0 yX0_keep wsX0_keep) := goodIn_app (goodIn_of _ (by decide +kernel)) ggX8_reply_X0_keep
set_option maxRecDepth 20000 in
theorem ggX8_reply_X4_addReply : GoodIn wsX8_reply wsX4_addReply := goodIn_r _ [85, 60, 73, 74, 75, 12, 76, 26, 86, 87, 88, 32, 89, 50, 52, 53, 54, 90, 91, 92, 21, 93, 46, 111, 112, 113, 114, 115, 116, 123, 124, 125, 126, 117, 118] (by decide +kernel) (by decide +kernel)
set_option maxRecDepth 20000 in
theorem gX8_reply_X4_addReply : GoodIn wsX8_reply (wsV RX8 82 RX4 yX4_addReply wsX4_addReply) := goodIn_app (goodIn_of _ (by decide +kernel)) ggX8_reply_X4_addReply
set_option maxRecDepth 20000 in
theorem ggX8_reply_X0_confirm : GoodIn wsX8_reply wsX0_confirm := goodIn_r _ [97, 8, 98, 99, 100, 6, 101, 9, 109, 110] (by decide +kernel) (by decide +kernel)
set_option maxRecDepth 20000 in
theorem gX8_reply_X0_confirm : GoodIn wsX8_reply (wsV RX8 65 RX0 yX0_confirm wsX0_confirm) := goodIn_app (goodIn_of _ (by decide +kernel)) ggX8_reply_X0_confirm
theorem dX8_reply_0 : decode cX8_reply 0 = .ok (.aload_n 0, 1) := by decide +kernel
theorem dX8_reply_1 : decode cX8_reply 1 = .ok (.getfield 49, 3) := by decide +kernel
theorem dX8_reply_4 : decode cX8_reply 4 = .ok (.aload_n 0, 1) := by decide +kernel
theorem dX8_reply_5 : decode cX8_reply 5 = .ok (.getfield 10, 3) := by decide +kernel
theorem dX8_reply_8 : decode cX8_reply 8 = .ok (.invokevirtual 57, 3) := by decide +kernel
theorem dX8_reply_11 : decode cX8_reply 11 = .ok (.aload_n 0, 1) := by decide +kernel
theorem dX8_reply_12 : decode cX8_reply 12 = .ok (.getfield 49, 3) := by decide +kernel
theorem dX8_reply_15 : decode cX8_reply 15 = .ok (.aload_n 0, 1) := by decide +kernel
theorem dX8_reply_16 : decode cX8_reply 16 = .ok (.getfield 10, 3) := by decide +kernel
theorem dX8_reply_19 : decode cX8_reply 19 = .ok (.iload_n 1, 1) := by decide +kernel
theorem dX8_reply_20 : decode cX8_reply 20 = .ok (.invokevirtual 82, 3) := by decide +kernel
theorem dX8_reply_23 : decode cX8_reply 23 = .ok (.invokevirtual 65, 3) := by decide +kernel
theorem dX8_reply_26 : decode cX8_reply 26 = .ok (.ireturn, 1) := by decide +kernel
set_option maxRecDepth 20000 in
theorem ggX8_drop_X0_keep : GoodIn wsX8_drop wsX0_keep := goodIn_r _ [7, 8, 9, 10, 11, 12, 13, 14, 15, 16, 17, 18, 19, 20, 21, 22, 23, 24, 25, 26, 27, 28, 29, 30, 31, 32, 33, 34, 35, 36, 37, 38, 39, 40, 41, 42, 43, 44, 45, 46, 47, 48, 49, 50, 51, 52, 53, 54, 55, 56, 57, 58, 59, 60, 61, 62, 63, 64, 65, 66, 67, 68, 69, 70, 71, 72, 73, 74, 75, 76, 77, 78, 79, 80, 81, 133, 134, 135, 136, 137, 138, 139, 140, 141, 142, 143, 144, 145, 146, 147, 148, 149, 150] (by decide +kernel) (by decide +kernel)
set_option maxRecDepth 20000 in
theorem gX8_drop_X0_keep : GoodIn wsX8_drop (wsV RX8 57 RX0 yX0_keep wsX0_keep) := goodIn_app (goodIn_of _ (by decide +kernel)) ggX8_drop_X0_keep
set_option maxRecDepth 20000 in
theorem ggX8_drop_X4_dropFamily : GoodIn wsX8_drop wsX4_dropFamily := goodIn_r _ [85, 60, 73, 74, 75, 12, 76, 26, 86, 87, 88, 89, 90, 91, 92, 93, 94, 95, 96, 97, 24, 98, 99, 100, 101, 21, 102, 46, 38, 103, 104, 105, 106, 107, 108, 109, 110, 111, 112, 113, 114, 115, 116, 117, 135, 136, 137, 138, 139, 140, 147, 148, 149, 150, 141, 142] (by decide +kernel) (by decide +kernel)
set_option maxRecDepth 20000 in
theorem gX8_drop_X4_dropFamily : GoodIn wsX8_drop (wsV RX8 85 RX4 yX4_dropFamily wsX4_dropFamily) := goodIn_app (goodIn_of _ (by decide +kernel)) ggX8_drop_X4_dropFamily
set_option maxRecDepth 20000 in
theorem ggX8_drop_X0_confirm : GoodIn wsX8_drop wsX0_confirm := goodIn_r _ [121, 8, 122, 123, 124, 6, 125, 9, 133, 134] (by decide +kernel) (by decide +kernel)
set_option maxRecDepth 20000 in
theorem gX8_drop_X0_confirm : GoodIn wsX8_drop (wsV RX8 65 RX0 yX0_confirm wsX0_confirm) := goodIn_app (goodIn_of _ (by decide +kernel)) ggX8_drop_X0_confirm
theorem dX8_drop_0 : decode cX8_drop 0 = .ok (.aload_n 0, 1) := by decide +kernel
theorem dX8_drop_1 : decode cX8_drop 1 = .ok (.getfield 49, 3) := by decide +kernel
theorem dX8_drop_4 : decode cX8_drop 4 = .ok (.aload_n 0, 1) := by decide +kernel
theorem dX8_drop_5 : decode cX8_drop 5 = .ok (.getfield 10, 3) := by decide +kernel
theorem dX8_drop_8 : decode cX8_drop 8 = .ok (.invokevirtual 57, 3) := by decide +kernel
theorem dX8_drop_11 : decode cX8_drop 11 = .ok (.aload_n 0, 1) := by decide +kernel
theorem dX8_drop_12 : decode cX8_drop 12 = .ok (.getfield 49, 3) := by decide +kernel
theorem dX8_drop_15 : decode cX8_drop 15 = .ok (.aload_n 0, 1) := by decide +kernel
theorem dX8_drop_16 : decode cX8_drop 16 = .ok (.getfield 10, 3) := by decide +kernel
theorem dX8_drop_19 : decode cX8_drop 19 = .ok (.iload_n 1, 1) := by decide +kernel
theorem dX8_drop_20 : decode cX8_drop 20 = .ok (.invokevirtual 85, 3) := by decide +kernel
theorem dX8_drop_23 : decode cX8_drop 23 = .ok (.invokevirtual 65, 3) := by decide +kernel
theorem dX8_drop_26 : decode cX8_drop 26 = .ok (.ireturn, 1) := by decide +kernel
set_option maxRecDepth 20000 in
theorem ggX8_reclaim_X0_keep : GoodIn wsX8_reclaim wsX0_keep := goodIn_r _ [8, 9, 10, 11, 12, 13, 14, 15, 16, 17, 18, 19, 20, 21, 22, 23, 24, 25, 26, 27, 28, 29, 30, 31, 32, 33, 34, 35, 36, 37, 38, 39, 40, 41, 42, 43, 44, 45, 46, 47, 48, 49, 50, 51, 52, 53, 54, 55, 56, 57, 58, 59, 60, 61, 62, 63, 64, 65, 66, 67, 68, 69, 70, 71, 72, 73, 74, 75, 76, 77, 78, 79, 80, 81, 82, 178, 179, 180, 181, 182, 183, 184, 185, 186, 187, 188, 189, 190, 191, 192, 193, 194, 195] (by decide +kernel) (by decide +kernel)
set_option maxRecDepth 20000 in
theorem gX8_reclaim_X0_keep : GoodIn wsX8_reclaim (wsV RX8 57 RX0 yX0_keep wsX0_keep) := goodIn_app (goodIn_of _ (by decide +kernel)) ggX8_reclaim_X0_keep
set_option maxRecDepth 20000 in
theorem ggX8_reclaim_X4_reclaimNote : GoodIn wsX8_reclaim wsX4_reclaimNote := goodIn_r _ [86, 24, 87, 88, 89, 90, 74, 75, 76, 13, 77, 61, 27, 91, 92, 93, 94, 95, 96, 97, 98, 33, 99, 51, 100, 101, 102, 103, 31, 25, 104, 105, 106, 30, 107, 108, 109, 110, 111, 112, 113, 114, 115, 22, 116, 47, 39, 117, 118, 119, 120, 121, 122, 123, 124, 125, 126, 127, 128, 129, 130, 131, 132, 133, 134, 135, 136, 137, 138, 139, 140, 23, 141, 142, 143, 144, 145, 53, 54, 55, 146, 147, 148, 149, 150, 151, 152, 153, 154, 155, 156, 157, 158, 44, 45, 46, 159, 160, 161, 162, 180, 181, 182, 183, 184, 185, 196, 197, 198, 192, 193, 194, 195, 186, 187, 188, 189, 190, 191] (by decide +kernel) (by decide +kernel)
set_option maxRecDepth 20000 in
theorem gX8_reclaim_X4_reclaimNote : GoodIn wsX8_reclaim (wsV RX8 88 RX4 yX4_reclaimNote wsX4_reclaimNote) := goodIn_app (goodIn_of _ (by decide +kernel)) ggX8_reclaim_X4_reclaimNote
set_option maxRecDepth 20000 in
theorem ggX8_reclaim_X0_confirm : GoodIn wsX8_reclaim wsX0_confirm := goodIn_r _ [166, 9, 167, 168, 169, 7, 170, 10, 178, 179] (by decide +kernel) (by decide +kernel)
set_option maxRecDepth 20000 in
theorem gX8_reclaim_X0_confirm : GoodIn wsX8_reclaim (wsV RX8 65 RX0 yX0_confirm wsX0_confirm) := goodIn_app (goodIn_of _ (by decide +kernel)) ggX8_reclaim_X0_confirm
theorem dX8_reclaim_0 : decode cX8_reclaim 0 = .ok (.aload_n 0, 1) := by decide +kernel
theorem dX8_reclaim_1 : decode cX8_reclaim 1 = .ok (.getfield 49, 3) := by decide +kernel
theorem dX8_reclaim_4 : decode cX8_reclaim 4 = .ok (.aload_n 0, 1) := by decide +kernel
theorem dX8_reclaim_5 : decode cX8_reclaim 5 = .ok (.getfield 10, 3) := by decide +kernel
theorem dX8_reclaim_8 : decode cX8_reclaim 8 = .ok (.invokevirtual 57, 3) := by decide +kernel
theorem dX8_reclaim_11 : decode cX8_reclaim 11 = .ok (.aload_n 0, 1) := by decide +kernel
theorem dX8_reclaim_12 : decode cX8_reclaim 12 = .ok (.getfield 49, 3) := by decide +kernel
theorem dX8_reclaim_15 : decode cX8_reclaim 15 = .ok (.aload_n 0, 1) := by decide +kernel
theorem dX8_reclaim_16 : decode cX8_reclaim 16 = .ok (.getfield 10, 3) := by decide +kernel
theorem dX8_reclaim_19 : decode cX8_reclaim 19 = .ok (.iload_n 1, 1) := by decide +kernel
theorem dX8_reclaim_20 : decode cX8_reclaim 20 = .ok (.aload_n 0, 1) := by decide +kernel
theorem dX8_reclaim_21 : decode cX8_reclaim 21 = .ok (.getfield 26, 3) := by decide +kernel
theorem dX8_reclaim_24 : decode cX8_reclaim 24 = .ok (.invokevirtual 88, 3) := by decide +kernel
theorem dX8_reclaim_27 : decode cX8_reclaim 27 = .ok (.invokevirtual 65, 3) := by decide +kernel
theorem dX8_reclaim_30 : decode cX8_reclaim 30 = .ok (.ireturn, 1) := by decide +kernel
set_option maxRecDepth 20000 in
theorem ggX8_letter_X6_item : GoodIn wsX8_letter wsX6_item := goodIn_r _ [7, 8, 9, 23, 24] (by decide +kernel) (by decide +kernel)
set_option maxRecDepth 20000 in
theorem gX8_letter_X6_item : GoodIn wsX8_letter (wsV RX8 95 RX6 yX6_item wsX6_item) := goodIn_app (goodIn_of _ (by decide +kernel)) ggX8_letter_X6_item
theorem dX8_letter_0 : decode cX8_letter 0 = .ok (.aload_n 0, 1) := by decide +kernel
theorem dX8_letter_1 : decode cX8_letter 1 = .ok (.getfield 10, 3) := by decide +kernel
theorem dX8_letter_4 : decode cX8_letter 4 = .ok (.getfield 92, 3) := by decide +kernel
theorem dX8_letter_7 : decode cX8_letter 7 = .ok (.iload_n 1, 1) := by decide +kernel
theorem dX8_letter_8 : decode cX8_letter 8 = .ok (.invokevirtual 95, 3) := by decide +kernel
theorem dX8_letter_11 : decode cX8_letter 11 = .ok (.ireturn, 1) := by decide +kernel
set_option maxRecDepth 20000 in
theorem ggX8_of_X4_find : GoodIn wsX8_of wsX4_find := goodIn_r _ [13, 14, 15, 94, 95, 96, 97, 98, 99] (by decide +kernel) (by decide +kernel)
set_option maxRecDepth 20000 in
theorem gX8_of_X4_find : GoodIn wsX8_of (wsV RX8 98 RX4 yX4_find wsX4_find) := goodIn_app (goodIn_of _ (by decide +kernel)) ggX8_of_X4_find
set_option maxRecDepth 20000 in
theorem ggX8_of_X4_state : GoodIn wsX8_of wsX4_state := goodIn_r _ [19, 20, 21, 10, 11, 12, 13, 14, 15, 22, 23, 24, 25, 26, 27, 28, 29, 30, 31, 32, 33, 34, 35, 36, 37, 38, 39, 40, 41, 42, 43, 44, 45, 46, 47, 48, 49, 50, 51, 52, 53, 84, 85, 86, 87, 94, 95, 96, 97, 98, 99, 88, 89, 90, 91, 92, 93] (by decide +kernel) (by decide +kernel)
set_option maxRecDepth 20000 in
theorem gX8_of_X4_state : GoodIn wsX8_of (wsV RX8 102 RX4 yX4_state wsX4_state) := goodIn_app (goodIn_of _ (by decide +kernel)) ggX8_of_X4_state
set_option maxRecDepth 20000 in
theorem ggX8_of_X4_root : GoodIn wsX8_of wsX4_root := goodIn_r _ [57, 58, 59, 60, 61, 12, 62, 21, 10, 11, 13, 14, 15, 22, 23, 24, 25, 26, 27, 88, 89, 90, 91, 94, 95, 96, 97, 98, 99] (by decide +kernel) (by decide +kernel)
set_option maxRecDepth 20000 in
theorem gX8_of_X4_root : GoodIn wsX8_of (wsV RX8 105 RX4 yX4_root wsX4_root) := goodIn_app (goodIn_of _ (by decide +kernel)) ggX8_of_X4_root
set_option maxRecDepth 20000 in
theorem ggX8_of_X4_piecesOf : GoodIn wsX8_of wsX4_piecesOf := goodIn_r _ [31, 32, 33, 34, 35, 36, 37, 38, 39, 40, 41, 42, 43, 44, 45, 46, 47, 48, 49, 50, 51, 52, 53, 94, 95, 96, 97, 98, 99, 84, 85, 86, 87, 92, 93] (by decide +kernel) (by decide +kernel)
set_option maxRecDepth 20000 in
theorem gX8_of_X4_piecesOf : GoodIn wsX8_of (wsV RX8 108 RX4 yX4_piecesOf wsX4_piecesOf) := goodIn_app (goodIn_of _ (by decide +kernel)) ggX8_of_X4_piecesOf
set_option maxRecDepth 20000 in
theorem ggX8_of_X2_isReply : GoodIn wsX8_of wsX2_isReply := goodIn_r _ [26, 27, 88, 89, 90, 91] (by decide +kernel) (by decide +kernel)
set_option maxRecDepth 20000 in
theorem gX8_of_X2_isReply : GoodIn wsX8_of (wsV RX8 121 RX2 yX2_isReply wsX2_isReply) := goodIn_app (goodIn_of _ (by decide +kernel)) ggX8_of_X2_isReply
set_option maxRecDepth 20000 in
theorem ggX8_of_X4_family : GoodIn wsX8_of wsX4_family := goodIn_r _ [68, 14, 58, 21, 10, 11, 12, 13, 15, 51, 52, 53, 94, 95, 96, 97, 98, 99, 88, 89, 90, 91] (by decide +kernel) (by decide +kernel)
set_option maxRecDepth 20000 in
theorem gX8_of_X4_family : GoodIn wsX8_of (wsV RX8 141 RX4 yX4_family wsX4_family) := goodIn_app (goodIn_of _ (by decide +kernel)) ggX8_of_X4_family
set_option maxRecDepth 20000 in
theorem ggX8_of_J6_bitCount_0f7a4 : GoodIn wsX8_of wsJ6_bitCount_0f7a4 := goodIn_r _ [72, 73, 74, 75] (by decide +kernel) (by decide +kernel)
set_option maxRecDepth 20000 in
theorem gX8_of_J6_bitCount_0f7a4 : GoodIn wsX8_of (va_wsS RX8 144 yJ6_bitCount_0f7a4 wsJ6_bitCount_0f7a4) := goodIn_app (goodIn_of _ (by decide +kernel)) ggX8_of_J6_bitCount_0f7a4
set_option maxRecDepth 20000 in
theorem ggX8_of_X4_depth : GoodIn wsX8_of wsX4_depth := goodIn_r _ [62, 58, 21, 10, 11, 12, 13, 14, 15, 22, 23, 24, 25, 26, 27, 88, 89, 90, 91, 94, 95, 96, 97, 98, 99] (by decide +kernel) (by decide +kernel)
set_option maxRecDepth 20000 in
theorem gX8_of_X4_depth : GoodIn wsX8_of (wsV RX8 149 RX4 yX4_depth wsX4_depth) := goodIn_app (goodIn_of _ (by decide +kernel)) ggX8_of_X4_depth
theorem dX8_of_0 : decode cX8_of 0 = .ok (.aload_n 0, 1) := by decide +kernel
theorem dX8_of_1 : decode cX8_of 1 = .ok (.getfield 10, 3) := by decide +kernel
theorem dX8_of_4 : decode cX8_of 4 = .ok (.iload_n 1, 1) := by decide +kernel
theorem dX8_of_5 : decode cX8_of 5 = .ok (.invokevirtual 98, 3) := by decide +kernel
theorem dX8_of_8 : decode cX8_of 8 = .ok (.astore_n 3, 1) := by decide +kernel
theorem dX8_of_9 : decode cX8_of 9 = .ok (.aload_n 3, 1) := by decide +kernel
theorem dX8_of_10 : decode cX8_of 10 = .ok (.ifnonnull 5, 3) := by decide +kernel
theorem dX8_of_13 : decode cX8_of 13 = .ok (.iconst (-1), 1) := by decide +kernel
theorem dX8_of_14 : decode cX8_of 14 = .ok (.ireturn, 1) := by decide +kernel
theorem dX8_of_15 : decode cX8_of 15 = .ok (.iload_n 2, 1) := by decide +kernel
theorem dX8_of_16 : decode cX8_of 16 = .ok (.tableswitch 195 0 8 #[52, 61, 80, 99, 119, 143, 167, 172, 186], 52) := by decide +kernel
theorem dX8_of_68 : decode cX8_of 68 = .ok (.aload_n 0, 1) := by decide +kernel
theorem dX8_of_69 : decode cX8_of 69 = .ok (.getfield 10, 3) := by decide +kernel
theorem dX8_of_72 : decode cX8_of 72 = .ok (.iload_n 1, 1) := by decide +kernel
theorem dX8_of_73 : decode cX8_of 73 = .ok (.invokevirtual 102, 3) := by decide +kernel
theorem dX8_of_76 : decode cX8_of 76 = .ok (.ireturn, 1) := by decide +kernel
theorem dX8_of_77 : decode cX8_of 77 = .ok (.aload_n 0, 1) := by decide +kernel
theorem dX8_of_78 : decode cX8_of 78 = .ok (.getfield 10, 3) := by decide +kernel
theorem dX8_of_81 : decode cX8_of 81 = .ok (.aload_n 0, 1) := by decide +kernel
theorem dX8_of_82 : decode cX8_of 82 = .ok (.getfield 10, 3) := by decide +kernel
theorem dX8_of_85 : decode cX8_of 85 = .ok (.iload_n 1, 1) := by decide +kernel
theorem dX8_of_86 : decode cX8_of 86 = .ok (.invokevirtual 105, 3) := by decide +kernel
theorem dX8_of_89 : decode cX8_of 89 = .ok (.invokevirtual 108, 3) := by decide +kernel
theorem dX8_of_92 : decode cX8_of 92 = .ok (.getfield 112, 3) := by decide +kernel
theorem dX8_of_95 : decode cX8_of 95 = .ok (.ireturn, 1) := by decide +kernel
theorem dX8_of_96 : decode cX8_of 96 = .ok (.aload_n 0, 1) := by decide +kernel
theorem dX8_of_97 : decode cX8_of 97 = .ok (.getfield 10, 3) := by decide +kernel
theorem dX8_of_100 : decode cX8_of 100 = .ok (.aload_n 0, 1) := by decide +kernel
theorem dX8_of_101 : decode cX8_of 101 = .ok (.getfield 10, 3) := by decide +kernel
theorem dX8_of_104 : decode cX8_of 104 = .ok (.iload_n 1, 1) := by decide +kernel
theorem dX8_of_105 : decode cX8_of 105 = .ok (.invokevirtual 105, 3) := by decide +kernel
theorem dX8_of_108 : decode cX8_of 108 = .ok (.invokevirtual 108, 3) := by decide +kernel
theorem dX8_of_111 : decode cX8_of 111 = .ok (.getfield 118, 3) := by decide +kernel
theorem dX8_of_114 : decode cX8_of 114 = .ok (.ireturn, 1) := by decide +kernel
theorem dX8_of_115 : decode cX8_of 115 = .ok (.aload_n 3, 1) := by decide +kernel
theorem dX8_of_116 : decode cX8_of 116 = .ok (.invokevirtual 121, 3) := by decide +kernel
theorem dX8_of_119 : decode cX8_of 119 = .ok (.ifCond .eq 8, 3) := by decide +kernel
theorem dX8_of_122 : decode cX8_of 122 = .ok (.bipush (-6), 2) := by decide +kernel
theorem dX8_of_124 : decode cX8_of 124 = .ok (.goto 10, 3) := by decide +kernel
theorem dX8_of_127 : decode cX8_of 127 = .ok (.aload_n 3, 1) := by decide +kernel
theorem dX8_of_128 : decode cX8_of 128 = .ok (.getfield 127, 3) := by decide +kernel
theorem dX8_of_131 : decode cX8_of 131 = .ok (.getfield 130, 3) := by decide +kernel
theorem dX8_of_134 : decode cX8_of 134 = .ok (.ireturn, 1) := by decide +kernel
theorem dX8_of_135 : decode cX8_of 135 = .ok (.aload_n 3, 1) := by decide +kernel
theorem dX8_of_136 : decode cX8_of 136 = .ok (.invokevirtual 121, 3) := by decide +kernel
theorem dX8_of_139 : decode cX8_of 139 = .ok (.ifCond .eq 8, 3) := by decide +kernel
theorem dX8_of_142 : decode cX8_of 142 = .ok (.bipush (-6), 2) := by decide +kernel
theorem dX8_of_144 : decode cX8_of 144 = .ok (.goto 14, 3) := by decide +kernel
theorem dX8_of_147 : decode cX8_of 147 = .ok (.aload_n 0, 1) := by decide +kernel
theorem dX8_of_148 : decode cX8_of 148 = .ok (.getfield 10, 3) := by decide +kernel
theorem dX8_of_151 : decode cX8_of 151 = .ok (.iload_n 1, 1) := by decide +kernel
theorem dX8_of_152 : decode cX8_of 152 = .ok (.invokevirtual 108, 3) := by decide +kernel
theorem dX8_of_155 : decode cX8_of 155 = .ok (.getfield 133, 3) := by decide +kernel
theorem dX8_of_158 : decode cX8_of 158 = .ok (.ireturn, 1) := by decide +kernel
theorem dX8_of_159 : decode cX8_of 159 = .ok (.aload_n 3, 1) := by decide +kernel
theorem dX8_of_160 : decode cX8_of 160 = .ok (.invokevirtual 121, 3) := by decide +kernel
theorem dX8_of_163 : decode cX8_of 163 = .ok (.ifCond .eq 8, 3) := by decide +kernel
theorem dX8_of_166 : decode cX8_of 166 = .ok (.bipush (-6), 2) := by decide +kernel
theorem dX8_of_168 : decode cX8_of 168 = .ok (.goto 14, 3) := by decide +kernel
theorem dX8_of_171 : decode cX8_of 171 = .ok (.aload_n 0, 1) := by decide +kernel
theorem dX8_of_172 : decode cX8_of 172 = .ok (.getfield 10, 3) := by decide +kernel
theorem dX8_of_175 : decode cX8_of 175 = .ok (.iload_n 1, 1) := by decide +kernel
theorem dX8_of_176 : decode cX8_of 176 = .ok (.invokevirtual 108, 3) := by decide +kernel
theorem dX8_of_179 : decode cX8_of 179 = .ok (.getfield 135, 3) := by decide +kernel
theorem dX8_of_182 : decode cX8_of 182 = .ok (.ireturn, 1) := by decide +kernel
theorem dX8_of_183 : decode cX8_of 183 = .ok (.aload_n 3, 1) := by decide +kernel
theorem dX8_of_184 : decode cX8_of 184 = .ok (.getfield 138, 3) := by decide +kernel
theorem dX8_of_187 : decode cX8_of 187 = .ok (.ireturn, 1) := by decide +kernel
theorem dX8_of_188 : decode cX8_of 188 = .ok (.aload_n 0, 1) := by decide +kernel
theorem dX8_of_189 : decode cX8_of 189 = .ok (.getfield 10, 3) := by decide +kernel
theorem dX8_of_192 : decode cX8_of 192 = .ok (.iload_n 1, 1) := by decide +kernel
theorem dX8_of_193 : decode cX8_of 193 = .ok (.invokevirtual 141, 3) := by decide +kernel
theorem dX8_of_196 : decode cX8_of 196 = .ok (.invokestatic 144, 3) := by decide +kernel
theorem dX8_of_199 : decode cX8_of 199 = .ok (.iconst 1, 1) := by decide +kernel
theorem dX8_of_200 : decode cX8_of 200 = .ok (.isub, 1) := by decide +kernel
theorem dX8_of_201 : decode cX8_of 201 = .ok (.ireturn, 1) := by decide +kernel
theorem dX8_of_202 : decode cX8_of 202 = .ok (.aload_n 0, 1) := by decide +kernel
theorem dX8_of_203 : decode cX8_of 203 = .ok (.getfield 10, 3) := by decide +kernel
theorem dX8_of_206 : decode cX8_of 206 = .ok (.iload_n 1, 1) := by decide +kernel
theorem dX8_of_207 : decode cX8_of 207 = .ok (.invokevirtual 149, 3) := by decide +kernel
theorem dX8_of_210 : decode cX8_of 210 = .ok (.ireturn, 1) := by decide +kernel
theorem dX8_of_211 : decode cX8_of 211 = .ok (.bipush (-2), 2) := by decide +kernel
theorem dX8_of_213 : decode cX8_of 213 = .ok (.ireturn, 1) := by decide +kernel
set_option maxRecDepth 20000 in
theorem ggX8_word_X4_find : GoodIn wsX8_word wsX4_find := goodIn_r _ [7, 8, 9, 34, 35, 36, 37, 38, 39] (by decide +kernel) (by decide +kernel)
set_option maxRecDepth 20000 in
theorem gX8_word_X4_find : GoodIn wsX8_word (wsV RX8 98 RX4 yX4_find wsX4_find) := goodIn_app (goodIn_of _ (by decide +kernel)) ggX8_word_X4_find
set_option maxRecDepth 20000 in
theorem ggX8_word_X2_isReply : GoodIn wsX8_word wsX2_isReply := goodIn_r _ [14, 15, 30, 31, 32, 33] (by decide +kernel) (by decide +kernel)
set_option maxRecDepth 20000 in
theorem gX8_word_X2_isReply : GoodIn wsX8_word (wsV RX8 121 RX2 yX2_isReply wsX2_isReply) := goodIn_app (goodIn_of _ (by decide +kernel)) ggX8_word_X2_isReply
set_option maxRecDepth 20000 in
theorem ggX8_word_X6_item : GoodIn wsX8_word wsX6_item := goodIn_r _ [20, 21, 22, 40, 41] (by decide +kernel) (by decide +kernel)
set_option maxRecDepth 20000 in
theorem gX8_word_X6_item : GoodIn wsX8_word (wsV RX8 95 RX6 yX6_item wsX6_item) := goodIn_app (goodIn_of _ (by decide +kernel)) ggX8_word_X6_item
theorem dX8_word_0 : decode cX8_word 0 = .ok (.aload_n 0, 1) := by decide +kernel
theorem dX8_word_1 : decode cX8_word 1 = .ok (.getfield 10, 3) := by decide +kernel
theorem dX8_word_4 : decode cX8_word 4 = .ok (.iload_n 1, 1) := by decide +kernel
theorem dX8_word_5 : decode cX8_word 5 = .ok (.invokevirtual 98, 3) := by decide +kernel
theorem dX8_word_8 : decode cX8_word 8 = .ok (.astore_n 3, 1) := by decide +kernel
theorem dX8_word_9 : decode cX8_word 9 = .ok (.aload_n 3, 1) := by decide +kernel
theorem dX8_word_10 : decode cX8_word 10 = .ok (.ifnonnull 5, 3) := by decide +kernel
theorem dX8_word_13 : decode cX8_word 13 = .ok (.iconst (-1), 1) := by decide +kernel
theorem dX8_word_14 : decode cX8_word 14 = .ok (.ireturn, 1) := by decide +kernel
theorem dX8_word_15 : decode cX8_word 15 = .ok (.aload_n 3, 1) := by decide +kernel
theorem dX8_word_16 : decode cX8_word 16 = .ok (.invokevirtual 121, 3) := by decide +kernel
theorem dX8_word_19 : decode cX8_word 19 = .ok (.ifCond .eq 8, 3) := by decide +kernel
theorem dX8_word_22 : decode cX8_word 22 = .ok (.bipush (-6), 2) := by decide +kernel
theorem dX8_word_24 : decode cX8_word 24 = .ok (.goto 11, 3) := by decide +kernel
theorem dX8_word_27 : decode cX8_word 27 = .ok (.aload_n 3, 1) := by decide +kernel
theorem dX8_word_28 : decode cX8_word 28 = .ok (.getfield 127, 3) := by decide +kernel
theorem dX8_word_31 : decode cX8_word 31 = .ok (.iload_n 2, 1) := by decide +kernel
theorem dX8_word_32 : decode cX8_word 32 = .ok (.invokevirtual 95, 3) := by decide +kernel
theorem dX8_word_35 : decode cX8_word 35 = .ok (.ireturn, 1) := by decide +kernel
set_option maxRecDepth 20000 in
theorem ggX8_at_X6_item : GoodIn wsX8_at wsX6_item := goodIn_r _ [7, 8, 9, 23, 24] (by decide +kernel) (by decide +kernel)
set_option maxRecDepth 20000 in
theorem gX8_at_X6_item : GoodIn wsX8_at (wsV RX8 95 RX6 yX6_item wsX6_item) := goodIn_app (goodIn_of _ (by decide +kernel)) ggX8_at_X6_item
theorem dX8_at_0 : decode cX8_at 0 = .ok (.aload_n 0, 1) := by decide +kernel
theorem dX8_at_1 : decode cX8_at 1 = .ok (.getfield 10, 3) := by decide +kernel
theorem dX8_at_4 : decode cX8_at 4 = .ok (.getfield 152, 3) := by decide +kernel
theorem dX8_at_7 : decode cX8_at 7 = .ok (.iload_n 1, 1) := by decide +kernel
theorem dX8_at_8 : decode cX8_at 8 = .ok (.invokevirtual 95, 3) := by decide +kernel
theorem dX8_at_11 : decode cX8_at 11 = .ok (.ireturn, 1) := by decide +kernel
set_option maxRecDepth 20000 in
theorem ggX8_printed_X4_find : GoodIn wsX8_printed wsX4_find := goodIn_r _ [10, 11, 12, 98, 99, 100, 101, 102, 103] (by decide +kernel) (by decide +kernel)
set_option maxRecDepth 20000 in
theorem gX8_printed_X4_find : GoodIn wsX8_printed (wsV RX8 98 RX4 yX4_find wsX4_find) := goodIn_app (goodIn_of _ (by decide +kernel)) ggX8_printed_X4_find
set_option maxRecDepth 20000 in
theorem ggX8_printed_X6_item : GoodIn wsX8_printed wsX6_item := goodIn_r _ [17, 18, 19, 111, 112] (by decide +kernel) (by decide +kernel)
set_option maxRecDepth 20000 in
theorem gX8_printed_X6_item : GoodIn wsX8_printed (wsV RX8 95 RX6 yX6_item wsX6_item) := goodIn_app (goodIn_of _ (by decide +kernel)) ggX8_printed_X6_item
set_option maxRecDepth 20000 in
theorem ggX8_printed_X1_layOut : GoodIn wsX8_printed wsX1_layOut := goodIn_r _ [24, 25, 26, 27, 28, 29, 30, 31, 32, 33, 34, 23, 35, 36, 37, 38, 39, 40, 41, 42, 16, 43, 18, 44, 45, 46, 47, 19, 48, 49, 50, 9, 51, 52, 53, 54, 55, 56, 57, 58, 59, 60, 61, 62, 63, 64, 14, 15, 17, 65, 66, 67, 68, 69, 70, 71, 72, 73, 74, 75, 76, 77, 78, 79, 80, 81, 82, 83, 84, 85, 86, 87, 88, 89, 90, 98, 99, 100, 101, 102, 103, 104, 105, 106, 107, 108, 109, 110, 113, 114, 115, 116, 111, 112] (by decide +kernel) (by decide +kernel)
set_option maxRecDepth 20000 in
theorem gX8_printed_X1_layOut : GoodIn wsX8_printed (wsV RX8 158 RX1 yX1_layOut wsX1_layOut) := goodIn_app (goodIn_of _ (by decide +kernel)) ggX8_printed_X1_layOut
theorem dX8_printed_0 : decode cX8_printed 0 = .ok (.aload_n 0, 1) := by decide +kernel
theorem dX8_printed_1 : decode cX8_printed 1 = .ok (.getfield 10, 3) := by decide +kernel
theorem dX8_printed_4 : decode cX8_printed 4 = .ok (.iload_n 1, 1) := by decide +kernel
theorem dX8_printed_5 : decode cX8_printed 5 = .ok (.invokevirtual 98, 3) := by decide +kernel
theorem dX8_printed_8 : decode cX8_printed 8 = .ok (.ifnonnull 5, 3) := by decide +kernel
theorem dX8_printed_11 : decode cX8_printed 11 = .ok (.iconst (-1), 1) := by decide +kernel
theorem dX8_printed_12 : decode cX8_printed 12 = .ok (.ireturn, 1) := by decide +kernel
theorem dX8_printed_13 : decode cX8_printed 13 = .ok (.iload_n 2, 1) := by decide +kernel
theorem dX8_printed_14 : decode cX8_printed 14 = .ok (.ifCond .eq 11, 3) := by decide +kernel
theorem dX8_printed_17 : decode cX8_printed 17 = .ok (.iload_n 2, 1) := by decide +kernel
theorem dX8_printed_18 : decode cX8_printed 18 = .ok (.iconst 1, 1) := by decide +kernel
theorem dX8_printed_19 : decode cX8_printed 19 = .ok (.if_icmp .eq 6, 3) := by decide +kernel
theorem dX8_printed_22 : decode cX8_printed 22 = .ok (.bipush (-2), 2) := by decide +kernel
theorem dX8_printed_24 : decode cX8_printed 24 = .ok (.ireturn, 1) := by decide +kernel
theorem dX8_printed_25 : decode cX8_printed 25 = .ok (.aload_n 0, 1) := by decide +kernel
theorem dX8_printed_26 : decode cX8_printed 26 = .ok (.getfield 19, 3) := by decide +kernel
theorem dX8_printed_29 : decode cX8_printed 29 = .ok (.aload_n 0, 1) := by decide +kernel
theorem dX8_printed_30 : decode cX8_printed 30 = .ok (.getfield 10, 3) := by decide +kernel
theorem dX8_printed_33 : decode cX8_printed 33 = .ok (.aload_n 0, 1) := by decide +kernel
theorem dX8_printed_34 : decode cX8_printed 34 = .ok (.getfield 10, 3) := by decide +kernel
theorem dX8_printed_37 : decode cX8_printed 37 = .ok (.getfield 155, 3) := by decide +kernel
theorem dX8_printed_40 : decode cX8_printed 40 = .ok (.iconst 2, 1) := by decide +kernel
theorem dX8_printed_41 : decode cX8_printed 41 = .ok (.invokevirtual 95, 3) := by decide +kernel
theorem dX8_printed_44 : decode cX8_printed 44 = .ok (.invokevirtual 158, 3) := by decide +kernel
theorem dX8_printed_47 : decode cX8_printed 47 = .ok (.iload_n 2, 1) := by decide +kernel
theorem dX8_printed_48 : decode cX8_printed 48 = .ok (.ifCond .ne 17, 3) := by decide +kernel
theorem dX8_printed_51 : decode cX8_printed 51 = .ok (.aload_n 0, 1) := by decide +kernel
theorem dX8_printed_52 : decode cX8_printed 52 = .ok (.getfield 19, 3) := by decide +kernel
theorem dX8_printed_55 : decode cX8_printed 55 = .ok (.getfield 162, 3) := by decide +kernel
theorem dX8_printed_58 : decode cX8_printed 58 = .ok (.iload_n 1, 1) := by decide +kernel
theorem dX8_printed_59 : decode cX8_printed 59 = .ok (.invokevirtual 95, 3) := by decide +kernel
theorem dX8_printed_62 : decode cX8_printed 62 = .ok (.goto 14, 3) := by decide +kernel
theorem dX8_printed_65 : decode cX8_printed 65 = .ok (.aload_n 0, 1) := by decide +kernel
theorem dX8_printed_66 : decode cX8_printed 66 = .ok (.getfield 19, 3) := by decide +kernel
theorem dX8_printed_69 : decode cX8_printed 69 = .ok (.getfield 165, 3) := by decide +kernel
theorem dX8_printed_72 : decode cX8_printed 72 = .ok (.iload_n 1, 1) := by decide +kernel
theorem dX8_printed_73 : decode cX8_printed 73 = .ok (.invokevirtual 95, 3) := by decide +kernel
theorem dX8_printed_76 : decode cX8_printed 76 = .ok (.ireturn, 1) := by decide +kernel
set_option maxRecDepth 20000 in
theorem ggX8_count_X4_countState : GoodIn wsX8_count wsX4_countState := goodIn_r _ [16, 17, 18, 19, 20, 15, 21, 22, 23, 24, 25, 26, 27, 28, 29, 30, 31, 32, 33, 34, 35, 36, 37, 38, 39, 40, 41, 42, 43, 44, 45, 46, 47, 48, 49, 50, 51, 52, 53, 54, 55, 56, 57, 58, 59, 132, 133, 134, 135, 136, 137, 149, 150, 151, 152, 153, 154, 155, 156, 138, 139] (by decide +kernel) (by decide +kernel)
set_option maxRecDepth 20000 in
theorem gX8_count_X4_countState : GoodIn wsX8_count (wsV RX8 171 RX4 yX4_countState wsX4_countState) := goodIn_app (goodIn_of _ (by decide +kernel)) ggX8_count_X4_countState
set_option maxRecDepth 20000 in
theorem ggX8_count_X4_countParted : GoodIn wsX8_count wsX4_countParted := goodIn_r _ [63, 17, 64, 34, 35, 36, 15, 37, 38, 39, 40, 41, 42, 43, 44, 45, 46, 47, 48, 49, 50, 51, 52, 53, 54, 55, 56, 57, 58, 59, 132, 133, 134, 135, 136, 137, 149, 150, 151, 152, 138, 139] (by decide +kernel) (by decide +kernel)
set_option maxRecDepth 20000 in
theorem gX8_count_X4_countParted : GoodIn wsX8_count (wsV RX8 174 RX4 yX4_countParted wsX4_countParted) := goodIn_app (goodIn_of _ (by decide +kernel)) ggX8_count_X4_countParted
set_option maxRecDepth 20000 in
theorem ggX8_count_X4_countLines : GoodIn wsX8_count wsX4_countLines := goodIn_r _ [68, 69, 70, 71, 72, 73, 15, 74, 75, 76, 51, 52, 53, 54, 55, 56, 132, 133, 134, 135, 136, 137, 138, 139] (by decide +kernel) (by decide +kernel)
set_option maxRecDepth 20000 in
theorem gX8_count_X4_countLines : GoodIn wsX8_count (wsV RX8 178 RX4 yX4_countLines wsX4_countLines) := goodIn_app (goodIn_of _ (by decide +kernel)) ggX8_count_X4_countLines
set_option maxRecDepth 20000 in
theorem ggX8_count_X6_item : GoodIn wsX8_count wsX6_item := goodIn_r _ [54, 55, 56, 138, 139] (by decide +kernel) (by decide +kernel)
set_option maxRecDepth 20000 in
theorem gX8_count_X6_item : GoodIn wsX8_count (wsV RX8 95 RX6 yX6_item wsX6_item) := goodIn_app (goodIn_of _ (by decide +kernel)) ggX8_count_X6_item
set_option maxRecDepth 20000 in
theorem ggX8_count_X1_layOut : GoodIn wsX8_count wsX1_layOut := goodIn_r _ [82, 83, 84, 85, 86, 87, 88, 89, 90, 91, 92, 81, 93, 94, 95, 96, 97, 98, 99, 100, 53, 101, 55, 102, 103, 104, 105, 56, 106, 35, 36, 15, 37, 38, 39, 40, 41, 42, 43, 44, 45, 46, 47, 48, 49, 50, 51, 52, 54, 57, 58, 59, 107, 108, 72, 73, 74, 75, 76, 109, 110, 111, 112, 113, 114, 115, 116, 117, 118, 119, 120, 121, 122, 123, 124, 132, 133, 134, 135, 136, 137, 140, 141, 142, 143, 144, 145, 146, 149, 150, 151, 152, 138, 139] (by decide +kernel) (by decide +kernel)
set_option maxRecDepth 20000 in
theorem gX8_count_X1_layOut : GoodIn wsX8_count (wsV RX8 158 RX1 yX1_layOut wsX1_layOut) := goodIn_app (goodIn_of _ (by decide +kernel)) ggX8_count_X1_layOut
theorem dX8_count_0 : decode cX8_count 0 = .ok (.iload_n 1, 1) := by decide +kernel
theorem dX8_count_1 : decode cX8_count 1 = .ok (.tableswitch 211 0 12 #[67, 78, 86, 95, 104, 112, 120, 150, 180, 180, 180, 195, 203], 67) := by decide +kernel
theorem dX8_count_68 : decode cX8_count 68 = .ok (.aload_n 0, 1) := by decide +kernel
theorem dX8_count_69 : decode cX8_count 69 = .ok (.getfield 10, 3) := by decide +kernel
theorem dX8_count_72 : decode cX8_count 72 = .ok (.getfield 92, 3) := by decide +kernel
theorem dX8_count_75 : decode cX8_count 75 = .ok (.getfield 130, 3) := by decide +kernel
theorem dX8_count_78 : decode cX8_count 78 = .ok (.ireturn, 1) := by decide +kernel
theorem dX8_count_79 : decode cX8_count 79 = .ok (.aload_n 0, 1) := by decide +kernel
theorem dX8_count_80 : decode cX8_count 80 = .ok (.getfield 10, 3) := by decide +kernel
theorem dX8_count_83 : decode cX8_count 83 = .ok (.getfield 168, 3) := by decide +kernel
theorem dX8_count_86 : decode cX8_count 86 = .ok (.ireturn, 1) := by decide +kernel
theorem dX8_count_87 : decode cX8_count 87 = .ok (.aload_n 0, 1) := by decide +kernel
theorem dX8_count_88 : decode cX8_count 88 = .ok (.getfield 10, 3) := by decide +kernel
theorem dX8_count_91 : decode cX8_count 91 = .ok (.iconst 1, 1) := by decide +kernel
theorem dX8_count_92 : decode cX8_count 92 = .ok (.invokevirtual 171, 3) := by decide +kernel
theorem dX8_count_95 : decode cX8_count 95 = .ok (.ireturn, 1) := by decide +kernel
theorem dX8_count_96 : decode cX8_count 96 = .ok (.aload_n 0, 1) := by decide +kernel
theorem dX8_count_97 : decode cX8_count 97 = .ok (.getfield 10, 3) := by decide +kernel
theorem dX8_count_100 : decode cX8_count 100 = .ok (.iconst 2, 1) := by decide +kernel
theorem dX8_count_101 : decode cX8_count 101 = .ok (.invokevirtual 171, 3) := by decide +kernel
theorem dX8_count_104 : decode cX8_count 104 = .ok (.ireturn, 1) := by decide +kernel
theorem dX8_count_105 : decode cX8_count 105 = .ok (.aload_n 0, 1) := by decide +kernel
theorem dX8_count_106 : decode cX8_count 106 = .ok (.getfield 10, 3) := by decide +kernel
theorem dX8_count_109 : decode cX8_count 109 = .ok (.invokevirtual 174, 3) := by decide +kernel
theorem dX8_count_112 : decode cX8_count 112 = .ok (.ireturn, 1) := by decide +kernel
theorem dX8_count_113 : decode cX8_count 113 = .ok (.aload_n 0, 1) := by decide +kernel
theorem dX8_count_114 : decode cX8_count 114 = .ok (.getfield 10, 3) := by decide +kernel
theorem dX8_count_117 : decode cX8_count 117 = .ok (.invokevirtual 178, 3) := by decide +kernel
theorem dX8_count_120 : decode cX8_count 120 = .ok (.ireturn, 1) := by decide +kernel
theorem dX8_count_121 : decode cX8_count 121 = .ok (.aload_n 0, 1) := by decide +kernel
theorem dX8_count_122 : decode cX8_count 122 = .ok (.getfield 19, 3) := by decide +kernel
theorem dX8_count_125 : decode cX8_count 125 = .ok (.aload_n 0, 1) := by decide +kernel
theorem dX8_count_126 : decode cX8_count 126 = .ok (.getfield 10, 3) := by decide +kernel
theorem dX8_count_129 : decode cX8_count 129 = .ok (.aload_n 0, 1) := by decide +kernel
theorem dX8_count_130 : decode cX8_count 130 = .ok (.getfield 10, 3) := by decide +kernel
theorem dX8_count_133 : decode cX8_count 133 = .ok (.getfield 155, 3) := by decide +kernel
theorem dX8_count_136 : decode cX8_count 136 = .ok (.iconst 2, 1) := by decide +kernel
theorem dX8_count_137 : decode cX8_count 137 = .ok (.invokevirtual 95, 3) := by decide +kernel
theorem dX8_count_140 : decode cX8_count 140 = .ok (.invokevirtual 158, 3) := by decide +kernel
theorem dX8_count_143 : decode cX8_count 143 = .ok (.aload_n 0, 1) := by decide +kernel
theorem dX8_count_144 : decode cX8_count 144 = .ok (.getfield 19, 3) := by decide +kernel
theorem dX8_count_147 : decode cX8_count 147 = .ok (.getfield 181, 3) := by decide +kernel
theorem dX8_count_150 : decode cX8_count 150 = .ok (.ireturn, 1) := by decide +kernel
theorem dX8_count_151 : decode cX8_count 151 = .ok (.aload_n 0, 1) := by decide +kernel
theorem dX8_count_152 : decode cX8_count 152 = .ok (.getfield 19, 3) := by decide +kernel
theorem dX8_count_155 : decode cX8_count 155 = .ok (.aload_n 0, 1) := by decide +kernel
theorem dX8_count_156 : decode cX8_count 156 = .ok (.getfield 10, 3) := by decide +kernel
theorem dX8_count_159 : decode cX8_count 159 = .ok (.aload_n 0, 1) := by decide +kernel
theorem dX8_count_160 : decode cX8_count 160 = .ok (.getfield 10, 3) := by decide +kernel
theorem dX8_count_163 : decode cX8_count 163 = .ok (.getfield 155, 3) := by decide +kernel
theorem dX8_count_166 : decode cX8_count 166 = .ok (.iconst 2, 1) := by decide +kernel
theorem dX8_count_167 : decode cX8_count 167 = .ok (.invokevirtual 95, 3) := by decide +kernel
theorem dX8_count_170 : decode cX8_count 170 = .ok (.invokevirtual 158, 3) := by decide +kernel
theorem dX8_count_173 : decode cX8_count 173 = .ok (.aload_n 0, 1) := by decide +kernel
theorem dX8_count_174 : decode cX8_count 174 = .ok (.getfield 19, 3) := by decide +kernel
theorem dX8_count_177 : decode cX8_count 177 = .ok (.getfield 184, 3) := by decide +kernel
theorem dX8_count_180 : decode cX8_count 180 = .ok (.ireturn, 1) := by decide +kernel
theorem dX8_count_181 : decode cX8_count 181 = .ok (.aload_n 0, 1) := by decide +kernel
theorem dX8_count_182 : decode cX8_count 182 = .ok (.getfield 10, 3) := by decide +kernel
theorem dX8_count_185 : decode cX8_count 185 = .ok (.getfield 155, 3) := by decide +kernel
theorem dX8_count_188 : decode cX8_count 188 = .ok (.iload_n 1, 1) := by decide +kernel
theorem dX8_count_189 : decode cX8_count 189 = .ok (.bipush 8, 2) := by decide +kernel
theorem dX8_count_191 : decode cX8_count 191 = .ok (.isub, 1) := by decide +kernel
theorem dX8_count_192 : decode cX8_count 192 = .ok (.invokevirtual 95, 3) := by decide +kernel
theorem dX8_count_195 : decode cX8_count 195 = .ok (.ireturn, 1) := by decide +kernel
theorem dX8_count_196 : decode cX8_count 196 = .ok (.aload_n 0, 1) := by decide +kernel
theorem dX8_count_197 : decode cX8_count 197 = .ok (.getfield 35, 3) := by decide +kernel
theorem dX8_count_200 : decode cX8_count 200 = .ok (.getfield 130, 3) := by decide +kernel
theorem dX8_count_203 : decode cX8_count 203 = .ok (.ireturn, 1) := by decide +kernel
theorem dX8_count_204 : decode cX8_count 204 = .ok (.aload_n 0, 1) := by decide +kernel
theorem dX8_count_205 : decode cX8_count 205 = .ok (.getfield 49, 3) := by decide +kernel
theorem dX8_count_208 : decode cX8_count 208 = .ok (.getfield 187, 3) := by decide +kernel
theorem dX8_count_211 : decode cX8_count 211 = .ok (.ireturn, 1) := by decide +kernel
theorem dX8_count_212 : decode cX8_count 212 = .ok (.bipush (-2), 2) := by decide +kernel
theorem dX8_count_214 : decode cX8_count 214 = .ok (.ireturn, 1) := by decide +kernel
set_option maxRecDepth 20000 in
theorem ggX8_could_X4_find : GoodIn wsX8_could wsX4_find := goodIn_r _ [11, 12, 13, 76, 77, 78, 79, 80, 81] (by decide +kernel) (by decide +kernel)
set_option maxRecDepth 20000 in
theorem gX8_could_X4_find : GoodIn wsX8_could (wsV RX8 98 RX4 yX4_find wsX4_find) := goodIn_app (goodIn_of _ (by decide +kernel)) ggX8_could_X4_find
set_option maxRecDepth 20000 in
theorem ggX8_could_X4_state : GoodIn wsX8_could wsX4_state := goodIn_r _ [17, 18, 19, 8, 9, 10, 11, 12, 13, 20, 21, 22, 23, 24, 25, 26, 27, 28, 29, 30, 31, 32, 33, 34, 35, 36, 37, 38, 39, 40, 41, 42, 43, 44, 45, 46, 47, 48, 49, 50, 51, 85, 86, 87, 88, 76, 77, 78, 79, 80, 81, 89, 90, 91, 92, 93, 94] (by decide +kernel) (by decide +kernel)
set_option maxRecDepth 20000 in
theorem gX8_could_X4_state : GoodIn wsX8_could (wsV RX8 102 RX4 yX4_state wsX4_state) := goodIn_app (goodIn_of _ (by decide +kernel)) ggX8_could_X4_state
set_option maxRecDepth 20000 in
theorem ggX8_could_X7_look : GoodIn wsX8_could wsX7_look := goodIn_r _ [56, 57, 58, 59, 60, 61, 62, 63, 64, 65, 66, 45, 67, 47, 68, 43, 44, 46, 48, 82, 83, 84, 89, 90, 91, 92, 93, 94] (by decide +kernel) (by decide +kernel)
set_option maxRecDepth 20000 in
theorem gX8_could_X7_look : GoodIn wsX8_could (wsV RX8 193 RX7 yX7_look wsX7_look) := goodIn_app (goodIn_of _ (by decide +kernel)) ggX8_could_X7_look
theorem dX8_could_0 : decode cX8_could 0 = .ok (.aload_n 0, 1) := by decide +kernel
theorem dX8_could_1 : decode cX8_could 1 = .ok (.getfield 10, 3) := by decide +kernel
theorem dX8_could_4 : decode cX8_could 4 = .ok (.iload_n 1, 1) := by decide +kernel
theorem dX8_could_5 : decode cX8_could 5 = .ok (.invokevirtual 98, 3) := by decide +kernel
theorem dX8_could_8 : decode cX8_could 8 = .ok (.astore_n 3, 1) := by decide +kernel
theorem dX8_could_9 : decode cX8_could 9 = .ok (.aload_n 3, 1) := by decide +kernel
theorem dX8_could_10 : decode cX8_could 10 = .ok (.ifnonnull 5, 3) := by decide +kernel
theorem dX8_could_13 : decode cX8_could 13 = .ok (.iconst (-1), 1) := by decide +kernel
theorem dX8_could_14 : decode cX8_could 14 = .ok (.ireturn, 1) := by decide +kernel
theorem dX8_could_15 : decode cX8_could 15 = .ok (.iload_n 2, 1) := by decide +kernel
theorem dX8_could_16 : decode cX8_could 16 = .ok (.ifCond .lt 8, 3) := by decide +kernel
theorem dX8_could_19 : decode cX8_could 19 = .ok (.iload_n 2, 1) := by decide +kernel
theorem dX8_could_20 : decode cX8_could 20 = .ok (.iconst 2, 1) := by decide +kernel
theorem dX8_could_21 : decode cX8_could 21 = .ok (.if_icmp .le 6, 3) := by decide +kernel
theorem dX8_could_24 : decode cX8_could 24 = .ok (.bipush (-2), 2) := by decide +kernel
theorem dX8_could_26 : decode cX8_could 26 = .ok (.ireturn, 1) := by decide +kernel
theorem dX8_could_27 : decode cX8_could 27 = .ok (.aload_n 0, 1) := by decide +kernel
theorem dX8_could_28 : decode cX8_could 28 = .ok (.getfield 10, 3) := by decide +kernel
theorem dX8_could_31 : decode cX8_could 31 = .ok (.iload_n 1, 1) := by decide +kernel
theorem dX8_could_32 : decode cX8_could 32 = .ok (.invokevirtual 102, 3) := by decide +kernel
theorem dX8_could_35 : decode cX8_could 35 = .ok (.iconst 1, 1) := by decide +kernel
theorem dX8_could_36 : decode cX8_could 36 = .ok (.if_icmp .eq 6, 3) := by decide +kernel
theorem dX8_could_39 : decode cX8_could 39 = .ok (.bipush (-5), 2) := by decide +kernel
theorem dX8_could_41 : decode cX8_could 41 = .ok (.ireturn, 1) := by decide +kernel
theorem dX8_could_42 : decode cX8_could 42 = .ok (.aload_n 0, 1) := by decide +kernel
theorem dX8_could_43 : decode cX8_could 43 = .ok (.getfield 26, 3) := by decide +kernel
theorem dX8_could_46 : decode cX8_could 46 = .ok (.aload_n 0, 1) := by decide +kernel
theorem dX8_could_47 : decode cX8_could 47 = .ok (.getfield 10, 3) := by decide +kernel
theorem dX8_could_50 : decode cX8_could 50 = .ok (.getfield 92, 3) := by decide +kernel
theorem dX8_could_53 : decode cX8_could 53 = .ok (.aload_n 3, 1) := by decide +kernel
theorem dX8_could_54 : decode cX8_could 54 = .ok (.invokevirtual 193, 3) := by decide +kernel
theorem dX8_could_57 : decode cX8_could 57 = .ok (.aload_n 0, 1) := by decide +kernel
theorem dX8_could_58 : decode cX8_could 58 = .ok (.getfield 26, 3) := by decide +kernel
theorem dX8_could_61 : decode cX8_could 61 = .ok (.getfield 197, 3) := by decide +kernel
theorem dX8_could_64 : decode cX8_could 64 = .ok (.ifCond .ne 6, 3) := by decide +kernel
theorem dX8_could_67 : decode cX8_could 67 = .ok (.bipush (-6), 2) := by decide +kernel
theorem dX8_could_69 : decode cX8_could 69 = .ok (.ireturn, 1) := by decide +kernel
theorem dX8_could_70 : decode cX8_could 70 = .ok (.iload_n 2, 1) := by decide +kernel
theorem dX8_could_71 : decode cX8_could 71 = .ok (.ifCond .ne 13, 3) := by decide +kernel
theorem dX8_could_74 : decode cX8_could 74 = .ok (.aload_n 0, 1) := by decide +kernel
theorem dX8_could_75 : decode cX8_could 75 = .ok (.getfield 26, 3) := by decide +kernel
theorem dX8_could_78 : decode cX8_could 78 = .ok (.getfield 200, 3) := by decide +kernel
theorem dX8_could_81 : decode cX8_could 81 = .ok (.goto 25, 3) := by decide +kernel
theorem dX8_could_84 : decode cX8_could 84 = .ok (.iload_n 2, 1) := by decide +kernel
theorem dX8_could_85 : decode cX8_could 85 = .ok (.iconst 1, 1) := by decide +kernel
theorem dX8_could_86 : decode cX8_could 86 = .ok (.if_icmp .ne 13, 3) := by decide +kernel
theorem dX8_could_89 : decode cX8_could 89 = .ok (.aload_n 0, 1) := by decide +kernel
theorem dX8_could_90 : decode cX8_could 90 = .ok (.getfield 26, 3) := by decide +kernel
theorem dX8_could_93 : decode cX8_could 93 = .ok (.getfield 203, 3) := by decide +kernel
theorem dX8_could_96 : decode cX8_could 96 = .ok (.goto 10, 3) := by decide +kernel
theorem dX8_could_99 : decode cX8_could 99 = .ok (.aload_n 0, 1) := by decide +kernel
theorem dX8_could_100 : decode cX8_could 100 = .ok (.getfield 26, 3) := by decide +kernel
theorem dX8_could_103 : decode cX8_could 103 = .ok (.getfield 197, 3) := by decide +kernel
theorem dX8_could_106 : decode cX8_could 106 = .ok (.ireturn, 1) := by decide +kernel
set_option maxRecDepth 20000 in
theorem ggX8_leastRoom_X1_layOut : GoodIn wsX8_leastRoom wsX1_layOut := goodIn_r _ [8, 9, 10, 11, 12, 13, 14, 15, 16, 17, 18, 7, 19, 20, 21, 22, 23, 24, 25, 26, 27, 28, 29, 30, 31, 32, 33, 34, 35, 36, 37, 38, 39, 40, 41, 42, 43, 44, 45, 46, 47, 48, 49, 50, 51, 52, 53, 54, 55, 56, 57, 58, 59, 60, 61, 62, 63, 64, 65, 66, 67, 68, 69, 70, 71, 72, 73, 74, 75, 76, 77, 78, 79, 80, 81, 96, 97, 98, 99, 100, 101, 89, 90, 91, 92, 93, 94, 95, 102, 103, 104, 105, 106, 107] (by decide +kernel) (by decide +kernel)
set_option maxRecDepth 20000 in
theorem gX8_leastRoom_X1_layOut : GoodIn wsX8_leastRoom (wsV RX8 158 RX1 yX1_layOut wsX1_layOut) := goodIn_app (goodIn_of _ (by decide +kernel)) ggX8_leastRoom_X1_layOut
theorem dX8_leastRoom_0 : decode cX8_leastRoom 0 = .ok (.iload_n 1, 1) := by decide +kernel
theorem dX8_leastRoom_1 : decode cX8_leastRoom 1 = .ok (.ifCond .lt 9, 3) := by decide +kernel
theorem dX8_leastRoom_4 : decode cX8_leastRoom 4 = .ok (.iload_n 1, 1) := by decide +kernel
theorem dX8_leastRoom_5 : decode cX8_leastRoom 5 = .ok (.bipush 60, 2) := by decide +kernel
theorem dX8_leastRoom_7 : decode cX8_leastRoom 7 = .ok (.if_icmp .le 6, 3) := by decide +kernel
theorem dX8_leastRoom_10 : decode cX8_leastRoom 10 = .ok (.bipush (-2), 2) := by decide +kernel
theorem dX8_leastRoom_12 : decode cX8_leastRoom 12 = .ok (.ireturn, 1) := by decide +kernel
theorem dX8_leastRoom_13 : decode cX8_leastRoom 13 = .ok (.iconst 1, 1) := by decide +kernel
theorem dX8_leastRoom_14 : decode cX8_leastRoom 14 = .ok (.istore_n 2, 1) := by decide +kernel
theorem dX8_leastRoom_15 : decode cX8_leastRoom 15 = .ok (.iload_n 2, 1) := by decide +kernel
theorem dX8_leastRoom_16 : decode cX8_leastRoom 16 = .ok (.bipush 9, 2) := by decide +kernel
theorem dX8_leastRoom_18 : decode cX8_leastRoom 18 = .ok (.if_icmp .gt 34, 3) := by decide +kernel
theorem dX8_leastRoom_21 : decode cX8_leastRoom 21 = .ok (.aload_n 0, 1) := by decide +kernel
theorem dX8_leastRoom_22 : decode cX8_leastRoom 22 = .ok (.getfield 19, 3) := by decide +kernel
theorem dX8_leastRoom_25 : decode cX8_leastRoom 25 = .ok (.aload_n 0, 1) := by decide +kernel
theorem dX8_leastRoom_26 : decode cX8_leastRoom 26 = .ok (.getfield 10, 3) := by decide +kernel
theorem dX8_leastRoom_29 : decode cX8_leastRoom 29 = .ok (.iload_n 2, 1) := by decide +kernel
theorem dX8_leastRoom_30 : decode cX8_leastRoom 30 = .ok (.invokevirtual 158, 3) := by decide +kernel
theorem dX8_leastRoom_33 : decode cX8_leastRoom 33 = .ok (.aload_n 0, 1) := by decide +kernel
theorem dX8_leastRoom_34 : decode cX8_leastRoom 34 = .ok (.getfield 19, 3) := by decide +kernel
theorem dX8_leastRoom_37 : decode cX8_leastRoom 37 = .ok (.getfield 206, 3) := by decide +kernel
theorem dX8_leastRoom_40 : decode cX8_leastRoom 40 = .ok (.iload_n 1, 1) := by decide +kernel
theorem dX8_leastRoom_41 : decode cX8_leastRoom 41 = .ok (.if_icmp .gt 5, 3) := by decide +kernel
theorem dX8_leastRoom_44 : decode cX8_leastRoom 44 = .ok (.iload_n 2, 1) := by decide +kernel
theorem dX8_leastRoom_45 : decode cX8_leastRoom 45 = .ok (.ireturn, 1) := by decide +kernel
theorem dX8_leastRoom_46 : decode cX8_leastRoom 46 = .ok (.iinc 2 1, 3) := by decide +kernel
theorem dX8_leastRoom_49 : decode cX8_leastRoom 49 = .ok (.goto (-34), 3) := by decide +kernel
theorem dX8_leastRoom_52 : decode cX8_leastRoom 52 = .ok (.bipush (-6), 2) := by decide +kernel
theorem dX8_leastRoom_54 : decode cX8_leastRoom 54 = .ok (.ireturn, 1) := by decide +kernel
set_option maxRecDepth 20000 in
theorem ggX8_undo_X0_goBack : GoodIn wsX8_undo wsX0_goBack := goodIn_r _ [8, 9, 10, 11, 12, 13, 14, 15, 16, 17, 18, 19, 20, 21, 22, 23, 24, 25, 26, 27, 28, 29, 30, 31, 32, 33, 34, 35, 36, 37, 38, 39, 40, 41, 42, 43, 44, 45, 46, 47, 48, 49, 57, 58, 59, 60, 61, 62, 63, 64, 65, 66, 67, 68, 69, 70] (by decide +kernel) (by decide +kernel)
set_option maxRecDepth 20000 in
theorem gX8_undo_X0_goBack : GoodIn wsX8_undo (wsV RX8 239 RX0 yX0_goBack wsX0_goBack) := goodIn_app (goodIn_of _ (by decide +kernel)) ggX8_undo_X0_goBack
theorem dX8_undo_0 : decode cX8_undo 0 = .ok (.aload_n 0, 1) := by decide +kernel
theorem dX8_undo_1 : decode cX8_undo 1 = .ok (.getfield 49, 3) := by decide +kernel
theorem dX8_undo_4 : decode cX8_undo 4 = .ok (.aload_n 0, 1) := by decide +kernel
theorem dX8_undo_5 : decode cX8_undo 5 = .ok (.getfield 10, 3) := by decide +kernel
theorem dX8_undo_8 : decode cX8_undo 8 = .ok (.invokevirtual 239, 3) := by decide +kernel
theorem dX8_undo_11 : decode cX8_undo 11 = .ok (.ifCond .eq 13, 3) := by decide +kernel
theorem dX8_undo_14 : decode cX8_undo 14 = .ok (.aload_n 0, 1) := by decide +kernel
theorem dX8_undo_15 : decode cX8_undo 15 = .ok (.getfield 49, 3) := by decide +kernel
theorem dX8_undo_18 : decode cX8_undo 18 = .ok (.getfield 187, 3) := by decide +kernel
theorem dX8_undo_21 : decode cX8_undo 21 = .ok (.goto 5, 3) := by decide +kernel
theorem dX8_undo_24 : decode cX8_undo 24 = .ok (.bipush (-5), 2) := by decide +kernel
theorem dX8_undo_26 : decode cX8_undo 26 = .ok (.ireturn, 1) := by decide +kernel
theorem dX8_isIn_0 : decode cX8_isIn 0 = .ok (.iload_n 1, 1) := by decide +kernel
theorem dX8_isIn_1 : decode cX8_isIn 1 = .ok (.ifCond .lt 21, 3) := by decide +kernel
theorem dX8_isIn_4 : decode cX8_isIn 4 = .ok (.iload_n 1, 1) := by decide +kernel
theorem dX8_isIn_5 : decode cX8_isIn 5 = .ok (.bipush 16, 2) := by decide +kernel
theorem dX8_isIn_7 : decode cX8_isIn 7 = .ok (.if_icmp .ge 15, 3) := by decide +kernel
theorem dX8_isIn_10 : decode cX8_isIn 10 = .ok (.iload_n 0, 1) := by decide +kernel
theorem dX8_isIn_11 : decode cX8_isIn 11 = .ok (.iload_n 1, 1) := by decide +kernel
theorem dX8_isIn_12 : decode cX8_isIn 12 = .ok (.ishr, 1) := by decide +kernel
theorem dX8_isIn_13 : decode cX8_isIn 13 = .ok (.iconst 1, 1) := by decide +kernel
theorem dX8_isIn_14 : decode cX8_isIn 14 = .ok (.iand, 1) := by decide +kernel
theorem dX8_isIn_15 : decode cX8_isIn 15 = .ok (.ifCond .eq 7, 3) := by decide +kernel
theorem dX8_isIn_18 : decode cX8_isIn 18 = .ok (.iconst 1, 1) := by decide +kernel
theorem dX8_isIn_19 : decode cX8_isIn 19 = .ok (.goto 4, 3) := by decide +kernel
theorem dX8_isIn_22 : decode cX8_isIn 22 = .ok (.iconst 0, 1) := by decide +kernel
theorem dX8_isIn_23 : decode cX8_isIn 23 = .ok (.ireturn, 1) := by decide +kernel

set_option maxRecDepth 20000 in
theorem ggX0_init_X5_init : GoodIn wsX0_init wsX5_init := goodIn_r _ [15, 16, 2, 3, 17, 18, 24] (by decide +kernel) (by decide +kernel)
set_option maxRecDepth 20000 in
theorem gX0_init_X5_init : GoodIn wsX0_init (wsX5_init) := ggX0_init_X5_init
set_option maxRecDepth 20000 in
theorem ggX0_init_X3_init : GoodIn wsX0_init wsX3_init := goodIn_r _ [21, 22, 2, 3, 23, 28, 29, 30, 31] (by decide +kernel) (by decide +kernel)
set_option maxRecDepth 20000 in
theorem gX0_init_X3_init : GoodIn wsX0_init (wsX3_init) := ggX0_init_X3_init
theorem dX0_init_0 : decode cX0_init 0 = .ok (.aload_n 0, 1) := by decide +kernel
theorem dX0_init_1 : decode cX0_init 1 = .ok (.invokespecial 3, 3) := by decide +kernel
theorem dX0_init_4 : decode cX0_init 4 = .ok (.aload_n 0, 1) := by decide +kernel
theorem dX0_init_5 : decode cX0_init 5 = .ok (.new 9, 3) := by decide +kernel
theorem dX0_init_8 : decode cX0_init 8 = .ok (.dup, 1) := by decide +kernel
theorem dX0_init_9 : decode cX0_init 9 = .ok (.invokespecial 11, 3) := by decide +kernel
theorem dX0_init_12 : decode cX0_init 12 = .ok (.putfield 12, 3) := by decide +kernel
theorem dX0_init_15 : decode cX0_init 15 = .ok (.aload_n 0, 1) := by decide +kernel
theorem dX0_init_16 : decode cX0_init 16 = .ok (.new 9, 3) := by decide +kernel
theorem dX0_init_19 : decode cX0_init 19 = .ok (.dup, 1) := by decide +kernel
theorem dX0_init_20 : decode cX0_init 20 = .ok (.invokespecial 11, 3) := by decide +kernel
theorem dX0_init_23 : decode cX0_init 23 = .ok (.putfield 18, 3) := by decide +kernel
theorem dX0_init_26 : decode cX0_init 26 = .ok (.aload_n 0, 1) := by decide +kernel
theorem dX0_init_27 : decode cX0_init 27 = .ok (.new 21, 3) := by decide +kernel
theorem dX0_init_30 : decode cX0_init 30 = .ok (.dup, 1) := by decide +kernel
theorem dX0_init_31 : decode cX0_init 31 = .ok (.invokespecial 23, 3) := by decide +kernel
theorem dX0_init_34 : decode cX0_init 34 = .ok (.putfield 24, 3) := by decide +kernel
theorem dX0_init_37 : decode cX0_init 37 = .ok (.return_, 1) := by decide +kernel
set_option maxRecDepth 20000 in
theorem ggX0_cutOne_X5_clear : GoodIn wsX0_cutOne wsX5_clear := goodIn_r _ [6, 7, 48] (by decide +kernel) (by decide +kernel)
set_option maxRecDepth 20000 in
theorem gX0_cutOne_X5_clear : GoodIn wsX0_cutOne (wsV RX0 28 RX5 yX5_clear wsX5_clear) := goodIn_app (goodIn_of _ (by decide +kernel)) ggX0_cutOne_X5_clear
set_option maxRecDepth 20000 in
theorem ggX0_cutOne_X5_cutRosette : GoodIn wsX0_cutOne wsX5_cutRosette := goodIn_r _ [11, 12, 13, 14, 15, 16, 17, 18, 19, 20, 21, 22, 23, 24, 25, 26, 27, 28, 29, 30, 31, 32, 33, 34, 35, 36, 37, 38, 39, 40, 41, 42, 43, 5, 44, 7, 49, 50, 51, 52, 48] (by decide +kernel) (by decide +kernel)
set_option maxRecDepth 20000 in
theorem gX0_cutOne_X5_cutRosette : GoodIn wsX0_cutOne (wsV RX0 31 RX5 yX5_cutRosette wsX5_cutRosette) := goodIn_app (goodIn_of _ (by decide +kernel)) ggX0_cutOne_X5_cutRosette
theorem dX0_cutOne_0 : decode cX0_cutOne 0 = .ok (.aload_n 0, 1) := by decide +kernel
theorem dX0_cutOne_1 : decode cX0_cutOne 1 = .ok (.getfield 12, 3) := by decide +kernel
theorem dX0_cutOne_4 : decode cX0_cutOne 4 = .ok (.invokevirtual 28, 3) := by decide +kernel
theorem dX0_cutOne_7 : decode cX0_cutOne 7 = .ok (.aload_n 0, 1) := by decide +kernel
theorem dX0_cutOne_8 : decode cX0_cutOne 8 = .ok (.getfield 12, 3) := by decide +kernel
theorem dX0_cutOne_11 : decode cX0_cutOne 11 = .ok (.iload_n 1, 1) := by decide +kernel
theorem dX0_cutOne_12 : decode cX0_cutOne 12 = .ok (.aload_n 2, 1) := by decide +kernel
theorem dX0_cutOne_13 : decode cX0_cutOne 13 = .ok (.invokevirtual 31, 3) := by decide +kernel
theorem dX0_cutOne_16 : decode cX0_cutOne 16 = .ok (.aload_n 0, 1) := by decide +kernel
theorem dX0_cutOne_17 : decode cX0_cutOne 17 = .ok (.getfield 12, 3) := by decide +kernel
theorem dX0_cutOne_20 : decode cX0_cutOne 20 = .ok (.areturn, 1) := by decide +kernel
set_option maxRecDepth 20000 in
theorem ggX0_cutAll_X5_clear : GoodIn wsX0_cutAll wsX5_clear := goodIn_r _ [8, 9, 63] (by decide +kernel) (by decide +kernel)
set_option maxRecDepth 20000 in
theorem gX0_cutAll_X5_clear : GoodIn wsX0_cutAll (wsV RX0 28 RX5 yX5_clear wsX5_clear) := goodIn_app (goodIn_of _ (by decide +kernel)) ggX0_cutAll_X5_clear
set_option maxRecDepth 20000 in
theorem ggX0_cutAll_X4_find : GoodIn wsX0_cutAll wsX4_find := goodIn_r _ [14, 15, 16, 57, 58, 59, 60, 61, 62] (by decide +kernel) (by decide +kernel)
set_option maxRecDepth 20000 in
theorem gX0_cutAll_X4_find : GoodIn wsX0_cutAll (wsV RX0 41 RX4 yX4_find wsX4_find) := goodIn_app (goodIn_of _ (by decide +kernel)) ggX0_cutAll_X4_find
set_option maxRecDepth 20000 in
theorem ggX0_cutAll_X5_cutRosette : GoodIn wsX0_cutAll wsX5_cutRosette := goodIn_r _ [20, 21, 22, 23, 24, 25, 26, 27, 28, 29, 30, 31, 32, 33, 34, 35, 36, 37, 38, 39, 40, 41, 42, 43, 44, 45, 46, 47, 48, 49, 50, 51, 52, 7, 53, 9, 64, 65, 66, 67, 63] (by decide +kernel) (by decide +kernel)
set_option maxRecDepth 20000 in
theorem gX0_cutAll_X5_cutRosette : GoodIn wsX0_cutAll (wsV RX0 31 RX5 yX5_cutRosette wsX5_cutRosette) := goodIn_app (goodIn_of _ (by decide +kernel)) ggX0_cutAll_X5_cutRosette
theorem dX0_cutAll_0 : decode cX0_cutAll 0 = .ok (.aload_n 0, 1) := by decide +kernel
theorem dX0_cutAll_1 : decode cX0_cutAll 1 = .ok (.getfield 12, 3) := by decide +kernel
theorem dX0_cutAll_4 : decode cX0_cutAll 4 = .ok (.invokevirtual 28, 3) := by decide +kernel
theorem dX0_cutAll_7 : decode cX0_cutAll 7 = .ok (.iconst 0, 1) := by decide +kernel
theorem dX0_cutAll_8 : decode cX0_cutAll 8 = .ok (.istore_n 2, 1) := by decide +kernel
theorem dX0_cutAll_9 : decode cX0_cutAll 9 = .ok (.iload_n 2, 1) := by decide +kernel
theorem dX0_cutAll_10 : decode cX0_cutAll 10 = .ok (.aload_n 1, 1) := by decide +kernel
theorem dX0_cutAll_11 : decode cX0_cutAll 11 = .ok (.getfield 35, 3) := by decide +kernel
theorem dX0_cutAll_14 : decode cX0_cutAll 14 = .ok (.if_icmp .ge 31, 3) := by decide +kernel
theorem dX0_cutAll_17 : decode cX0_cutAll 17 = .ok (.aload_n 1, 1) := by decide +kernel
theorem dX0_cutAll_18 : decode cX0_cutAll 18 = .ok (.iload_n 2, 1) := by decide +kernel
theorem dX0_cutAll_19 : decode cX0_cutAll 19 = .ok (.invokevirtual 41, 3) := by decide +kernel
theorem dX0_cutAll_22 : decode cX0_cutAll 22 = .ok (.astore_n 3, 1) := by decide +kernel
theorem dX0_cutAll_23 : decode cX0_cutAll 23 = .ok (.aload_n 3, 1) := by decide +kernel
theorem dX0_cutAll_24 : decode cX0_cutAll 24 = .ok (.ifnull 15, 3) := by decide +kernel
theorem dX0_cutAll_27 : decode cX0_cutAll 27 = .ok (.aload_n 0, 1) := by decide +kernel
theorem dX0_cutAll_28 : decode cX0_cutAll 28 = .ok (.getfield 12, 3) := by decide +kernel
theorem dX0_cutAll_31 : decode cX0_cutAll 31 = .ok (.aload_n 1, 1) := by decide +kernel
theorem dX0_cutAll_32 : decode cX0_cutAll 32 = .ok (.getfield 45, 3) := by decide +kernel
theorem dX0_cutAll_35 : decode cX0_cutAll 35 = .ok (.aload_n 3, 1) := by decide +kernel
theorem dX0_cutAll_36 : decode cX0_cutAll 36 = .ok (.invokevirtual 31, 3) := by decide +kernel
theorem dX0_cutAll_39 : decode cX0_cutAll 39 = .ok (.iinc 2 1, 3) := by decide +kernel
theorem dX0_cutAll_42 : decode cX0_cutAll 42 = .ok (.goto (-33), 3) := by decide +kernel
theorem dX0_cutAll_45 : decode cX0_cutAll 45 = .ok (.aload_n 0, 1) := by decide +kernel
theorem dX0_cutAll_46 : decode cX0_cutAll 46 = .ok (.getfield 12, 3) := by decide +kernel
theorem dX0_cutAll_49 : decode cX0_cutAll 49 = .ok (.areturn, 1) := by decide +kernel
set_option maxRecDepth 20000 in
theorem ggX0_countCommon_X5_clear : GoodIn wsX0_countCommon wsX5_clear := goodIn_r _ [7, 8, 60] (by decide +kernel) (by decide +kernel)
set_option maxRecDepth 20000 in
theorem gX0_countCommon_X5_clear : GoodIn wsX0_countCommon (wsV RX0 28 RX5 yX5_clear wsX5_clear) := goodIn_app (goodIn_of _ (by decide +kernel)) ggX0_countCommon_X5_clear
set_option maxRecDepth 20000 in
theorem ggX0_countCommon_X5_cutRosette : GoodIn wsX0_countCommon wsX5_cutRosette := goodIn_r _ [12, 13, 14, 15, 16, 17, 18, 19, 20, 21, 22, 23, 24, 25, 26, 27, 28, 29, 30, 31, 32, 33, 34, 35, 36, 37, 38, 39, 40, 41, 42, 43, 44, 6, 45, 8, 61, 62, 63, 64, 60] (by decide +kernel) (by decide +kernel)
set_option maxRecDepth 20000 in
theorem gX0_countCommon_X5_cutRosette : GoodIn wsX0_countCommon (wsV RX0 31 RX5 yX5_cutRosette wsX5_cutRosette) := goodIn_app (goodIn_of _ (by decide +kernel)) ggX0_countCommon_X5_cutRosette
set_option maxRecDepth 20000 in
theorem ggX0_countCommon_X5_sizeOfBoth : GoodIn wsX0_countCommon wsX5_sizeOfBoth := goodIn_r _ [49, 8, 50, 51, 52, 53, 54, 55, 56, 60] (by decide +kernel) (by decide +kernel)
set_option maxRecDepth 20000 in
theorem gX0_countCommon_X5_sizeOfBoth : GoodIn wsX0_countCommon (wsV RX0 48 RX5 yX5_sizeOfBoth wsX5_sizeOfBoth) := goodIn_app (goodIn_of _ (by decide +kernel)) ggX0_countCommon_X5_sizeOfBoth
theorem dX0_countCommon_0 : decode cX0_countCommon 0 = .ok (.aload_n 0, 1) := by decide +kernel
theorem dX0_countCommon_1 : decode cX0_countCommon 1 = .ok (.getfield 12, 3) := by decide +kernel
theorem dX0_countCommon_4 : decode cX0_countCommon 4 = .ok (.invokevirtual 28, 3) := by decide +kernel
theorem dX0_countCommon_7 : decode cX0_countCommon 7 = .ok (.aload_n 0, 1) := by decide +kernel
theorem dX0_countCommon_8 : decode cX0_countCommon 8 = .ok (.getfield 12, 3) := by decide +kernel
theorem dX0_countCommon_11 : decode cX0_countCommon 11 = .ok (.iload_n 1, 1) := by decide +kernel
theorem dX0_countCommon_12 : decode cX0_countCommon 12 = .ok (.aload_n 2, 1) := by decide +kernel
theorem dX0_countCommon_13 : decode cX0_countCommon 13 = .ok (.invokevirtual 31, 3) := by decide +kernel
theorem dX0_countCommon_16 : decode cX0_countCommon 16 = .ok (.aload_n 0, 1) := by decide +kernel
theorem dX0_countCommon_17 : decode cX0_countCommon 17 = .ok (.getfield 18, 3) := by decide +kernel
theorem dX0_countCommon_20 : decode cX0_countCommon 20 = .ok (.invokevirtual 28, 3) := by decide +kernel
theorem dX0_countCommon_23 : decode cX0_countCommon 23 = .ok (.aload_n 0, 1) := by decide +kernel
theorem dX0_countCommon_24 : decode cX0_countCommon 24 = .ok (.getfield 18, 3) := by decide +kernel
theorem dX0_countCommon_27 : decode cX0_countCommon 27 = .ok (.iload_n 1, 1) := by decide +kernel
theorem dX0_countCommon_28 : decode cX0_countCommon 28 = .ok (.aload_n 3, 1) := by decide +kernel
theorem dX0_countCommon_29 : decode cX0_countCommon 29 = .ok (.invokevirtual 31, 3) := by decide +kernel
theorem dX0_countCommon_32 : decode cX0_countCommon 32 = .ok (.aload_n 0, 1) := by decide +kernel
theorem dX0_countCommon_33 : decode cX0_countCommon 33 = .ok (.getfield 12, 3) := by decide +kernel
theorem dX0_countCommon_36 : decode cX0_countCommon 36 = .ok (.aload_n 0, 1) := by decide +kernel
theorem dX0_countCommon_37 : decode cX0_countCommon 37 = .ok (.getfield 18, 3) := by decide +kernel
theorem dX0_countCommon_40 : decode cX0_countCommon 40 = .ok (.invokevirtual 48, 3) := by decide +kernel
theorem dX0_countCommon_43 : decode cX0_countCommon 43 = .ok (.ireturn, 1) := by decide +kernel
set_option maxRecDepth 20000 in
theorem ggX0_differentStarts_X7_commonDivisor : GoodIn wsX0_differentStarts wsX7_commonDivisor := goodIn_r _ [4] (by decide +kernel) (by decide +kernel)
set_option maxRecDepth 20000 in
theorem gX0_differentStarts_X7_commonDivisor_n55 : GoodIn wsX0_differentStarts (wsX7_commonDivisor) := ggX0_differentStarts_X7_commonDivisor
theorem dX0_differentStarts_0 : decode cX0_differentStarts 0 = .ok (.iload_n 0, 1) := by decide +kernel
theorem dX0_differentStarts_1 : decode cX0_differentStarts 1 = .ok (.i2l, 1) := by decide +kernel
theorem dX0_differentStarts_2 : decode cX0_differentStarts 2 = .ok (.aload_n 1, 1) := by decide +kernel
theorem dX0_differentStarts_3 : decode cX0_differentStarts 3 = .ok (.getfield 52, 3) := by decide +kernel
theorem dX0_differentStarts_6 : decode cX0_differentStarts 6 = .ok (.i2l, 1) := by decide +kernel
theorem dX0_differentStarts_7 : decode cX0_differentStarts 7 = .ok (.invokestatic 55, 3) := by decide +kernel
theorem dX0_differentStarts_10 : decode cX0_differentStarts 10 = .ok (.l2i, 1) := by decide +kernel
theorem dX0_differentStarts_11 : decode cX0_differentStarts 11 = .ok (.ireturn, 1) := by decide +kernel
set_option maxRecDepth 20000 in
theorem ggX0_turnBetween_X5_clear : GoodIn wsX0_turnBetween wsX5_clear := goodIn_r _ [9, 10, 73] (by decide +kernel) (by decide +kernel)
set_option maxRecDepth 20000 in
theorem gX0_turnBetween_X5_clear : GoodIn wsX0_turnBetween (wsV RX0 28 RX5 yX5_clear wsX5_clear) := goodIn_app (goodIn_of _ (by decide +kernel)) ggX0_turnBetween_X5_clear
set_option maxRecDepth 20000 in
theorem ggX0_turnBetween_X5_cutRosette : GoodIn wsX0_turnBetween wsX5_cutRosette := goodIn_r _ [14, 15, 16, 17, 18, 19, 20, 21, 22, 23, 24, 25, 26, 27, 28, 29, 30, 31, 32, 33, 34, 35, 36, 37, 38, 39, 40, 41, 42, 43, 44, 45, 46, 8, 47, 10, 69, 70, 71, 72, 73] (by decide +kernel) (by decide +kernel)
set_option maxRecDepth 20000 in
theorem gX0_turnBetween_X5_cutRosette : GoodIn wsX0_turnBetween (wsV RX0 31 RX5 yX5_cutRosette wsX5_cutRosette) := goodIn_app (goodIn_of _ (by decide +kernel)) ggX0_turnBetween_X5_cutRosette
set_option maxRecDepth 20000 in
theorem ggX0_turnBetween_X3_become : GoodIn wsX0_turnBetween wsX3_become := goodIn_r _ [51, 21, 31, 32, 43, 52, 53, 54, 19, 55, 69, 70, 71, 72] (by decide +kernel) (by decide +kernel)
set_option maxRecDepth 20000 in
theorem gX0_turnBetween_X3_become : GoodIn wsX0_turnBetween (wsV RX0 59 RX3 yX3_become wsX3_become) := goodIn_app (goodIn_of _ (by decide +kernel)) ggX0_turnBetween_X3_become
set_option maxRecDepth 20000 in
theorem ggX0_turnBetween_X0_differentStarts : GoodIn wsX0_turnBetween wsX0_differentStarts := goodIn_r _ [59, 60, 22, 23, 24, 69, 70, 71, 72] (by decide +kernel) (by decide +kernel)
set_option maxRecDepth 20000 in
theorem gX0_turnBetween_X0_differentStarts : GoodIn wsX0_turnBetween (va_wsS RX0 63 yX0_differentStarts wsX0_differentStarts) := goodIn_app (goodIn_of _ (by decide +kernel)) ggX0_turnBetween_X0_differentStarts
set_option maxRecDepth 20000 in
theorem ggX0_turnBetween_X3_angleAt : GoodIn wsX0_turnBetween wsX3_angleAt := goodIn_r _ [42, 43, 37, 23, 38, 69, 70, 71, 72] (by decide +kernel) (by decide +kernel)
set_option maxRecDepth 20000 in
theorem gX0_turnBetween_X3_angleAt : GoodIn wsX0_turnBetween (wsV RX0 67 RX3 yX3_angleAt wsX3_angleAt) := goodIn_app (goodIn_of _ (by decide +kernel)) ggX0_turnBetween_X3_angleAt
set_option maxRecDepth 20000 in
theorem ggX0_turnBetween_X5_isSameAs : GoodIn wsX0_turnBetween wsX5_isSameAs := goodIn_r _ [65, 10, 73] (by decide +kernel) (by decide +kernel)
set_option maxRecDepth 20000 in
theorem gX0_turnBetween_X5_isSameAs : GoodIn wsX0_turnBetween (wsV RX0 74 RX5 yX5_isSameAs wsX5_isSameAs) := goodIn_app (goodIn_of _ (by decide +kernel)) ggX0_turnBetween_X5_isSameAs
theorem dX0_turnBetween_0 : decode cX0_turnBetween 0 = .ok (.aload_n 0, 1) := by decide +kernel
theorem dX0_turnBetween_1 : decode cX0_turnBetween 1 = .ok (.getfield 18, 3) := by decide +kernel
theorem dX0_turnBetween_4 : decode cX0_turnBetween 4 = .ok (.invokevirtual 28, 3) := by decide +kernel
theorem dX0_turnBetween_7 : decode cX0_turnBetween 7 = .ok (.aload_n 0, 1) := by decide +kernel
theorem dX0_turnBetween_8 : decode cX0_turnBetween 8 = .ok (.getfield 18, 3) := by decide +kernel
theorem dX0_turnBetween_11 : decode cX0_turnBetween 11 = .ok (.iload_n 1, 1) := by decide +kernel
theorem dX0_turnBetween_12 : decode cX0_turnBetween 12 = .ok (.aload_n 3, 1) := by decide +kernel
theorem dX0_turnBetween_13 : decode cX0_turnBetween 13 = .ok (.invokevirtual 31, 3) := by decide +kernel
theorem dX0_turnBetween_16 : decode cX0_turnBetween 16 = .ok (.aload_n 0, 1) := by decide +kernel
theorem dX0_turnBetween_17 : decode cX0_turnBetween 17 = .ok (.getfield 24, 3) := by decide +kernel
theorem dX0_turnBetween_20 : decode cX0_turnBetween 20 = .ok (.aload_n 2, 1) := by decide +kernel
theorem dX0_turnBetween_21 : decode cX0_turnBetween 21 = .ok (.invokevirtual 59, 3) := by decide +kernel
theorem dX0_turnBetween_24 : decode cX0_turnBetween 24 = .ok (.iload_n 1, 1) := by decide +kernel
theorem dX0_turnBetween_25 : decode cX0_turnBetween 25 = .ok (.aload_n 2, 1) := by decide +kernel
theorem dX0_turnBetween_26 : decode cX0_turnBetween 26 = .ok (.invokestatic 63, 3) := by decide +kernel
theorem dX0_turnBetween_29 : decode cX0_turnBetween 29 = .ok (.istore 4, 2) := by decide +kernel
theorem dX0_turnBetween_31 : decode cX0_turnBetween 31 = .ok (.iconst 0, 1) := by decide +kernel
theorem dX0_turnBetween_32 : decode cX0_turnBetween 32 = .ok (.istore 5, 2) := by decide +kernel
theorem dX0_turnBetween_34 : decode cX0_turnBetween 34 = .ok (.iload 5, 2) := by decide +kernel
theorem dX0_turnBetween_36 : decode cX0_turnBetween 36 = .ok (.iload 4, 2) := by decide +kernel
theorem dX0_turnBetween_38 : decode cX0_turnBetween 38 = .ok (.if_icmp .ge 60, 3) := by decide +kernel
theorem dX0_turnBetween_41 : decode cX0_turnBetween 41 = .ok (.aload_n 0, 1) := by decide +kernel
theorem dX0_turnBetween_42 : decode cX0_turnBetween 42 = .ok (.getfield 24, 3) := by decide +kernel
theorem dX0_turnBetween_45 : decode cX0_turnBetween 45 = .ok (.aload_n 2, 1) := by decide +kernel
theorem dX0_turnBetween_46 : decode cX0_turnBetween 46 = .ok (.iload_n 1, 1) := by decide +kernel
theorem dX0_turnBetween_47 : decode cX0_turnBetween 47 = .ok (.iload 5, 2) := by decide +kernel
theorem dX0_turnBetween_49 : decode cX0_turnBetween 49 = .ok (.i2l, 1) := by decide +kernel
theorem dX0_turnBetween_50 : decode cX0_turnBetween 50 = .ok (.invokevirtual 67, 3) := by decide +kernel
theorem dX0_turnBetween_53 : decode cX0_turnBetween 53 = .ok (.putfield 71, 3) := by decide +kernel
theorem dX0_turnBetween_56 : decode cX0_turnBetween 56 = .ok (.aload_n 0, 1) := by decide +kernel
theorem dX0_turnBetween_57 : decode cX0_turnBetween 57 = .ok (.getfield 12, 3) := by decide +kernel
theorem dX0_turnBetween_60 : decode cX0_turnBetween 60 = .ok (.invokevirtual 28, 3) := by decide +kernel
theorem dX0_turnBetween_63 : decode cX0_turnBetween 63 = .ok (.aload_n 0, 1) := by decide +kernel
theorem dX0_turnBetween_64 : decode cX0_turnBetween 64 = .ok (.getfield 12, 3) := by decide +kernel
theorem dX0_turnBetween_67 : decode cX0_turnBetween 67 = .ok (.iload_n 1, 1) := by decide +kernel
theorem dX0_turnBetween_68 : decode cX0_turnBetween 68 = .ok (.aload_n 0, 1) := by decide +kernel
theorem dX0_turnBetween_69 : decode cX0_turnBetween 69 = .ok (.getfield 24, 3) := by decide +kernel
theorem dX0_turnBetween_72 : decode cX0_turnBetween 72 = .ok (.invokevirtual 31, 3) := by decide +kernel
theorem dX0_turnBetween_75 : decode cX0_turnBetween 75 = .ok (.aload_n 0, 1) := by decide +kernel
theorem dX0_turnBetween_76 : decode cX0_turnBetween 76 = .ok (.getfield 12, 3) := by decide +kernel
theorem dX0_turnBetween_79 : decode cX0_turnBetween 79 = .ok (.aload_n 0, 1) := by decide +kernel
theorem dX0_turnBetween_80 : decode cX0_turnBetween 80 = .ok (.getfield 18, 3) := by decide +kernel
theorem dX0_turnBetween_83 : decode cX0_turnBetween 83 = .ok (.invokevirtual 74, 3) := by decide +kernel
theorem dX0_turnBetween_86 : decode cX0_turnBetween 86 = .ok (.ifCond .eq 6, 3) := by decide +kernel
theorem dX0_turnBetween_89 : decode cX0_turnBetween 89 = .ok (.iload 5, 2) := by decide +kernel
theorem dX0_turnBetween_91 : decode cX0_turnBetween 91 = .ok (.ireturn, 1) := by decide +kernel
theorem dX0_turnBetween_92 : decode cX0_turnBetween 92 = .ok (.iinc 5 1, 3) := by decide +kernel
theorem dX0_turnBetween_95 : decode cX0_turnBetween 95 = .ok (.goto (-61), 3) := by decide +kernel
theorem dX0_turnBetween_98 : decode cX0_turnBetween 98 = .ok (.bipush (-9), 2) := by decide +kernel
theorem dX0_turnBetween_100 : decode cX0_turnBetween 100 = .ok (.ireturn, 1) := by decide +kernel
set_option maxRecDepth 20000 in
theorem ggX0_startWithMost_X5_clear : GoodIn wsX0_startWithMost wsX5_clear := goodIn_r _ [9, 10, 79] (by decide +kernel) (by decide +kernel)
set_option maxRecDepth 20000 in
theorem gX0_startWithMost_X5_clear : GoodIn wsX0_startWithMost (wsV RX0 28 RX5 yX5_clear wsX5_clear) := goodIn_app (goodIn_of _ (by decide +kernel)) ggX0_startWithMost_X5_clear
set_option maxRecDepth 20000 in
theorem ggX0_startWithMost_X5_cutRosette : GoodIn wsX0_startWithMost wsX5_cutRosette := goodIn_r _ [14, 15, 16, 17, 18, 19, 20, 21, 22, 23, 24, 25, 26, 27, 28, 29, 30, 31, 32, 33, 34, 35, 36, 37, 38, 39, 40, 41, 42, 43, 44, 45, 46, 8, 47, 10, 75, 76, 77, 78, 79] (by decide +kernel) (by decide +kernel)
set_option maxRecDepth 20000 in
theorem gX0_startWithMost_X5_cutRosette : GoodIn wsX0_startWithMost (wsV RX0 31 RX5 yX5_cutRosette wsX5_cutRosette) := goodIn_app (goodIn_of _ (by decide +kernel)) ggX0_startWithMost_X5_cutRosette
set_option maxRecDepth 20000 in
theorem ggX0_startWithMost_X3_become : GoodIn wsX0_startWithMost wsX3_become := goodIn_r _ [51, 21, 31, 32, 43, 52, 53, 54, 19, 55, 75, 76, 77, 78] (by decide +kernel) (by decide +kernel)
set_option maxRecDepth 20000 in
theorem gX0_startWithMost_X3_become : GoodIn wsX0_startWithMost (wsV RX0 59 RX3 yX3_become wsX3_become) := goodIn_app (goodIn_of _ (by decide +kernel)) ggX0_startWithMost_X3_become
set_option maxRecDepth 20000 in
theorem ggX0_startWithMost_X0_differentStarts : GoodIn wsX0_startWithMost wsX0_differentStarts := goodIn_r _ [59, 60, 22, 23, 24, 75, 76, 77, 78] (by decide +kernel) (by decide +kernel)
set_option maxRecDepth 20000 in
theorem gX0_startWithMost_X0_differentStarts : GoodIn wsX0_startWithMost (va_wsS RX0 63 yX0_differentStarts wsX0_differentStarts) := goodIn_app (goodIn_of _ (by decide +kernel)) ggX0_startWithMost_X0_differentStarts
set_option maxRecDepth 20000 in
theorem ggX0_startWithMost_X5_sizeOfBoth : GoodIn wsX0_startWithMost wsX5_sizeOfBoth := goodIn_r _ [64, 10, 65, 66, 67, 68, 69, 70, 71, 79] (by decide +kernel) (by decide +kernel)
set_option maxRecDepth 20000 in
theorem gX0_startWithMost_X5_sizeOfBoth : GoodIn wsX0_startWithMost (wsV RX0 48 RX5 yX5_sizeOfBoth wsX5_sizeOfBoth) := goodIn_app (goodIn_of _ (by decide +kernel)) ggX0_startWithMost_X5_sizeOfBoth
theorem dX0_startWithMost_0 : decode cX0_startWithMost 0 = .ok (.aload_n 0, 1) := by decide +kernel
theorem dX0_startWithMost_1 : decode cX0_startWithMost 1 = .ok (.getfield 18, 3) := by decide +kernel
theorem dX0_startWithMost_4 : decode cX0_startWithMost 4 = .ok (.invokevirtual 28, 3) := by decide +kernel
theorem dX0_startWithMost_7 : decode cX0_startWithMost 7 = .ok (.aload_n 0, 1) := by decide +kernel
theorem dX0_startWithMost_8 : decode cX0_startWithMost 8 = .ok (.getfield 18, 3) := by decide +kernel
theorem dX0_startWithMost_11 : decode cX0_startWithMost 11 = .ok (.iload_n 1, 1) := by decide +kernel
theorem dX0_startWithMost_12 : decode cX0_startWithMost 12 = .ok (.aload_n 3, 1) := by decide +kernel
theorem dX0_startWithMost_13 : decode cX0_startWithMost 13 = .ok (.invokevirtual 31, 3) := by decide +kernel
theorem dX0_startWithMost_16 : decode cX0_startWithMost 16 = .ok (.aload_n 0, 1) := by decide +kernel
theorem dX0_startWithMost_17 : decode cX0_startWithMost 17 = .ok (.getfield 24, 3) := by decide +kernel
theorem dX0_startWithMost_20 : decode cX0_startWithMost 20 = .ok (.aload_n 2, 1) := by decide +kernel
theorem dX0_startWithMost_21 : decode cX0_startWithMost 21 = .ok (.invokevirtual 59, 3) := by decide +kernel
theorem dX0_startWithMost_24 : decode cX0_startWithMost 24 = .ok (.iload_n 1, 1) := by decide +kernel
theorem dX0_startWithMost_25 : decode cX0_startWithMost 25 = .ok (.aload_n 2, 1) := by decide +kernel
theorem dX0_startWithMost_26 : decode cX0_startWithMost 26 = .ok (.invokestatic 63, 3) := by decide +kernel
theorem dX0_startWithMost_29 : decode cX0_startWithMost 29 = .ok (.istore 4, 2) := by decide +kernel
theorem dX0_startWithMost_31 : decode cX0_startWithMost 31 = .ok (.iconst 0, 1) := by decide +kernel
theorem dX0_startWithMost_32 : decode cX0_startWithMost 32 = .ok (.istore 5, 2) := by decide +kernel
theorem dX0_startWithMost_34 : decode cX0_startWithMost 34 = .ok (.bipush (-9), 2) := by decide +kernel
theorem dX0_startWithMost_36 : decode cX0_startWithMost 36 = .ok (.istore 6, 2) := by decide +kernel
theorem dX0_startWithMost_38 : decode cX0_startWithMost 38 = .ok (.iconst 0, 1) := by decide +kernel
theorem dX0_startWithMost_39 : decode cX0_startWithMost 39 = .ok (.istore 7, 2) := by decide +kernel
theorem dX0_startWithMost_41 : decode cX0_startWithMost 41 = .ok (.iload 7, 2) := by decide +kernel
theorem dX0_startWithMost_43 : decode cX0_startWithMost 43 = .ok (.iload 4, 2) := by decide +kernel
theorem dX0_startWithMost_45 : decode cX0_startWithMost 45 = .ok (.if_icmp .ge 65, 3) := by decide +kernel
theorem dX0_startWithMost_48 : decode cX0_startWithMost 48 = .ok (.aload_n 0, 1) := by decide +kernel
theorem dX0_startWithMost_49 : decode cX0_startWithMost 49 = .ok (.getfield 24, 3) := by decide +kernel
theorem dX0_startWithMost_52 : decode cX0_startWithMost 52 = .ok (.iload 7, 2) := by decide +kernel
theorem dX0_startWithMost_54 : decode cX0_startWithMost 54 = .ok (.putfield 71, 3) := by decide +kernel
theorem dX0_startWithMost_57 : decode cX0_startWithMost 57 = .ok (.aload_n 0, 1) := by decide +kernel
theorem dX0_startWithMost_58 : decode cX0_startWithMost 58 = .ok (.getfield 12, 3) := by decide +kernel
theorem dX0_startWithMost_61 : decode cX0_startWithMost 61 = .ok (.invokevirtual 28, 3) := by decide +kernel
theorem dX0_startWithMost_64 : decode cX0_startWithMost 64 = .ok (.aload_n 0, 1) := by decide +kernel
theorem dX0_startWithMost_65 : decode cX0_startWithMost 65 = .ok (.getfield 12, 3) := by decide +kernel
theorem dX0_startWithMost_68 : decode cX0_startWithMost 68 = .ok (.iload_n 1, 1) := by decide +kernel
theorem dX0_startWithMost_69 : decode cX0_startWithMost 69 = .ok (.aload_n 0, 1) := by decide +kernel
theorem dX0_startWithMost_70 : decode cX0_startWithMost 70 = .ok (.getfield 24, 3) := by decide +kernel
theorem dX0_startWithMost_73 : decode cX0_startWithMost 73 = .ok (.invokevirtual 31, 3) := by decide +kernel
theorem dX0_startWithMost_76 : decode cX0_startWithMost 76 = .ok (.aload_n 0, 1) := by decide +kernel
theorem dX0_startWithMost_77 : decode cX0_startWithMost 77 = .ok (.getfield 12, 3) := by decide +kernel
theorem dX0_startWithMost_80 : decode cX0_startWithMost 80 = .ok (.aload_n 0, 1) := by decide +kernel
theorem dX0_startWithMost_81 : decode cX0_startWithMost 81 = .ok (.getfield 18, 3) := by decide +kernel
theorem dX0_startWithMost_84 : decode cX0_startWithMost 84 = .ok (.invokevirtual 48, 3) := by decide +kernel
theorem dX0_startWithMost_87 : decode cX0_startWithMost 87 = .ok (.istore 8, 2) := by decide +kernel
theorem dX0_startWithMost_89 : decode cX0_startWithMost 89 = .ok (.iload 8, 2) := by decide +kernel
theorem dX0_startWithMost_91 : decode cX0_startWithMost 91 = .ok (.iload 6, 2) := by decide +kernel
theorem dX0_startWithMost_93 : decode cX0_startWithMost 93 = .ok (.if_icmp .le 11, 3) := by decide +kernel
theorem dX0_startWithMost_96 : decode cX0_startWithMost 96 = .ok (.iload 8, 2) := by decide +kernel
theorem dX0_startWithMost_98 : decode cX0_startWithMost 98 = .ok (.istore 6, 2) := by decide +kernel
theorem dX0_startWithMost_100 : decode cX0_startWithMost 100 = .ok (.iload 7, 2) := by decide +kernel
theorem dX0_startWithMost_102 : decode cX0_startWithMost 102 = .ok (.istore 5, 2) := by decide +kernel
theorem dX0_startWithMost_104 : decode cX0_startWithMost 104 = .ok (.iinc 7 1, 3) := by decide +kernel
theorem dX0_startWithMost_107 : decode cX0_startWithMost 107 = .ok (.goto (-66), 3) := by decide +kernel
theorem dX0_startWithMost_110 : decode cX0_startWithMost 110 = .ok (.iload 5, 2) := by decide +kernel
theorem dX0_startWithMost_112 : decode cX0_startWithMost 112 = .ok (.ireturn, 1) := by decide +kernel
theorem dX1_init_0 : decode cX1_init 0 = .ok (.aload_n 0, 1) := by decide +kernel
theorem dX1_init_1 : decode cX1_init 1 = .ok (.invokespecial 1, 3) := by decide +kernel
theorem dX1_init_4 : decode cX1_init 4 = .ok (.aload_n 0, 1) := by decide +kernel
theorem dX1_init_5 : decode cX1_init 5 = .ok (.iload_n 1, 1) := by decide +kernel
theorem dX1_init_6 : decode cX1_init 6 = .ok (.sipush 10000, 3) := by decide +kernel
theorem dX1_init_9 : decode cX1_init 9 = .ok (.idiv, 1) := by decide +kernel
theorem dX1_init_10 : decode cX1_init 10 = .ok (.bipush 10, 2) := by decide +kernel
theorem dX1_init_12 : decode cX1_init 12 = .ok (.irem, 1) := by decide +kernel
theorem dX1_init_13 : decode cX1_init 13 = .ok (.putfield 7, 3) := by decide +kernel
theorem dX1_init_16 : decode cX1_init 16 = .ok (.aload_n 0, 1) := by decide +kernel
theorem dX1_init_17 : decode cX1_init 17 = .ok (.iload_n 1, 1) := by decide +kernel
theorem dX1_init_18 : decode cX1_init 18 = .ok (.sipush 1000, 3) := by decide +kernel
theorem dX1_init_21 : decode cX1_init 21 = .ok (.idiv, 1) := by decide +kernel
theorem dX1_init_22 : decode cX1_init 22 = .ok (.bipush 10, 2) := by decide +kernel
theorem dX1_init_24 : decode cX1_init 24 = .ok (.irem, 1) := by decide +kernel
theorem dX1_init_25 : decode cX1_init 25 = .ok (.putfield 13, 3) := by decide +kernel
theorem dX1_init_28 : decode cX1_init 28 = .ok (.aload_n 0, 1) := by decide +kernel
theorem dX1_init_29 : decode cX1_init 29 = .ok (.iload_n 1, 1) := by decide +kernel
theorem dX1_init_30 : decode cX1_init 30 = .ok (.bipush 100, 2) := by decide +kernel
theorem dX1_init_32 : decode cX1_init 32 = .ok (.idiv, 1) := by decide +kernel
theorem dX1_init_33 : decode cX1_init 33 = .ok (.bipush 10, 2) := by decide +kernel
theorem dX1_init_35 : decode cX1_init 35 = .ok (.irem, 1) := by decide +kernel
theorem dX1_init_36 : decode cX1_init 36 = .ok (.putfield 16, 3) := by decide +kernel
theorem dX1_init_39 : decode cX1_init 39 = .ok (.aload_n 0, 1) := by decide +kernel
theorem dX1_init_40 : decode cX1_init 40 = .ok (.iload_n 1, 1) := by decide +kernel
theorem dX1_init_41 : decode cX1_init 41 = .ok (.bipush 10, 2) := by decide +kernel
theorem dX1_init_43 : decode cX1_init 43 = .ok (.idiv, 1) := by decide +kernel
theorem dX1_init_44 : decode cX1_init 44 = .ok (.bipush 10, 2) := by decide +kernel
theorem dX1_init_46 : decode cX1_init 46 = .ok (.irem, 1) := by decide +kernel
theorem dX1_init_47 : decode cX1_init 47 = .ok (.putfield 19, 3) := by decide +kernel
theorem dX1_init_50 : decode cX1_init 50 = .ok (.aload_n 0, 1) := by decide +kernel
theorem dX1_init_51 : decode cX1_init 51 = .ok (.iload_n 1, 1) := by decide +kernel
theorem dX1_init_52 : decode cX1_init 52 = .ok (.bipush 10, 2) := by decide +kernel
theorem dX1_init_54 : decode cX1_init 54 = .ok (.irem, 1) := by decide +kernel
theorem dX1_init_55 : decode cX1_init 55 = .ok (.putfield 22, 3) := by decide +kernel
theorem dX1_init_58 : decode cX1_init 58 = .ok (.return_, 1) := by decide +kernel
theorem dX1_lastTwo_0 : decode cX1_lastTwo 0 = .ok (.bipush 10, 2) := by decide +kernel
theorem dX1_lastTwo_2 : decode cX1_lastTwo 2 = .ok (.aload_n 0, 1) := by decide +kernel
theorem dX1_lastTwo_3 : decode cX1_lastTwo 3 = .ok (.getfield 19, 3) := by decide +kernel
theorem dX1_lastTwo_6 : decode cX1_lastTwo 6 = .ok (.imul, 1) := by decide +kernel
theorem dX1_lastTwo_7 : decode cX1_lastTwo 7 = .ok (.aload_n 0, 1) := by decide +kernel
theorem dX1_lastTwo_8 : decode cX1_lastTwo 8 = .ok (.getfield 22, 3) := by decide +kernel
theorem dX1_lastTwo_11 : decode cX1_lastTwo 11 = .ok (.iadd, 1) := by decide +kernel
theorem dX1_lastTwo_12 : decode cX1_lastTwo 12 = .ok (.ireturn, 1) := by decide +kernel
set_option maxRecDepth 20000 in
theorem ggX1_succeeds_X1_changes : GoodIn wsX1_succeeds wsX1_changes := goodIn_r _ [8, 3, 2, 9, 10, 11, 12, 13, 14, 15, 16, 17, 18, 7, 19, 20, 21, 22, 23, 24, 25, 26, 27, 28, 29, 30, 31, 32, 33, 34, 35, 36, 37, 38, 39, 40, 41, 42, 43, 44, 45, 46, 207, 208, 209, 210, 211, 212, 213, 214, 215, 216, 217, 218, 219, 220, 221] (by decide +kernel) (by decide +kernel)
set_option maxRecDepth 20000 in
theorem gX1_succeeds_X1_changes : GoodIn wsX1_succeeds (wsV RX1 25 RX1 yX1_changes wsX1_changes) := goodIn_app (goodIn_of _ (by decide +kernel)) ggX1_succeeds_X1_changes
set_option maxRecDepth 20000 in
theorem ggX1_succeeds_X1_removes : GoodIn wsX1_succeeds wsX1_removes := goodIn_r _ [50, 2, 3, 16, 17, 18, 7, 19, 20, 21, 9, 10, 11, 12, 13, 14, 15, 51, 52, 53, 54, 55, 56, 57, 58, 41, 59, 44, 45, 46, 43, 60, 61, 62, 63, 207, 208, 209, 210, 211, 212, 213, 214, 215, 216, 217, 218, 219, 220, 221] (by decide +kernel) (by decide +kernel)
set_option maxRecDepth 20000 in
theorem gX1_succeeds_X1_removes : GoodIn wsX1_succeeds (wsV RX1 29 RX1 yX1_removes wsX1_removes) := goodIn_app (goodIn_of _ (by decide +kernel)) ggX1_succeeds_X1_removes
set_option maxRecDepth 20000 in
theorem ggX1_succeeds_X1_takesRing : GoodIn wsX1_succeeds wsX1_takesRing := goodIn_r _ [67, 3, 2, 16, 17, 18, 7, 19, 20, 21, 68, 27, 69, 70, 71, 72, 12, 73, 37, 14, 74, 75, 55, 10, 11, 13, 15, 33, 34, 35, 36, 207, 208, 209, 210, 211, 212, 213, 214, 215, 216, 217, 218, 219, 220, 221] (by decide +kernel) (by decide +kernel)
set_option maxRecDepth 20000 in
theorem gX1_succeeds_X1_takesRing : GoodIn wsX1_succeeds (wsV RX1 32 RX1 yX1_takesRing wsX1_takesRing) := goodIn_app (goodIn_of _ (by decide +kernel)) ggX1_succeeds_X1_takesRing
set_option maxRecDepth 20000 in
theorem ggX1_succeeds_X1_adds : GoodIn wsX1_succeeds wsX1_adds := goodIn_r _ [79, 2, 20, 3, 21, 29, 27, 30, 26, 28, 31, 32, 80, 81, 82, 12, 83, 14, 84, 85, 86, 87, 88, 55, 10, 11, 13, 15, 89, 61, 62, 41, 63, 44, 45, 46, 43, 207, 208, 209, 210, 211, 212, 213, 214, 215, 216, 217, 218, 219, 220, 221] (by decide +kernel) (by decide +kernel)
set_option maxRecDepth 20000 in
theorem gX1_succeeds_X1_adds : GoodIn wsX1_succeeds (wsV RX1 35 RX1 yX1_adds wsX1_adds) := goodIn_app (goodIn_of _ (by decide +kernel)) ggX1_succeeds_X1_adds
set_option maxRecDepth 20000 in
theorem ggX1_succeeds_X1_sharesEnough : GoodIn wsX1_succeeds wsX1_sharesEnough := goodIn_r _ [93, 3, 2, 94, 9, 10, 11, 12, 13, 14, 15, 95, 96, 97, 98, 99, 100, 101, 102, 103, 104, 105, 106, 107, 108, 109, 110, 111, 112, 113, 114, 115, 41, 116, 44, 117, 27, 118, 119, 120, 121, 122, 123, 124, 45, 46, 125, 126, 127, 128, 129, 130, 131, 132, 133, 134, 43, 135, 136, 137, 138, 139, 140, 141, 142, 143, 144, 145, 146, 147, 148, 149, 16, 17, 18, 7, 19, 20, 21, 207, 208, 209, 210, 211, 212, 213, 214, 215, 216, 217, 222, 223, 224, 225, 218, 219, 220, 221] (by decide +kernel) (by decide +kernel)
set_option maxRecDepth 20000 in
theorem gX1_succeeds_X1_sharesEnough : GoodIn wsX1_succeeds (wsV RX1 38 RX1 yX1_sharesEnough wsX1_sharesEnough) := goodIn_app (goodIn_of _ (by decide +kernel)) ggX1_succeeds_X1_sharesEnough
set_option maxRecDepth 20000 in
theorem ggX1_succeeds_X1_hasTurns : GoodIn wsX1_succeeds wsX1_hasTurns := goodIn_r _ [153, 3, 2, 94, 9, 10, 11, 12, 13, 14, 15, 154, 155, 156, 41, 157, 44, 117, 27, 118, 119, 120, 16, 17, 18, 7, 19, 20, 21, 207, 208, 209, 210, 211, 212, 213, 214, 215, 216, 217, 218, 219, 220, 221] (by decide +kernel) (by decide +kernel)
set_option maxRecDepth 20000 in
theorem gX1_succeeds_X1_hasTurns : GoodIn wsX1_succeeds (wsV RX1 42 RX1 yX1_hasTurns wsX1_hasTurns) := goodIn_app (goodIn_of _ (by decide +kernel)) ggX1_succeeds_X1_hasTurns
set_option maxRecDepth 20000 in
theorem ggX1_succeeds_X1_isTurned : GoodIn wsX1_succeeds wsX1_isTurned := goodIn_r _ [161, 3, 2, 94, 9, 10, 11, 12, 13, 14, 15, 162, 163, 164, 98, 165, 101, 166, 167, 100, 102, 103, 104, 105, 106, 107, 108, 109, 110, 111, 112, 113, 114, 115, 41, 116, 44, 117, 27, 118, 119, 120, 121, 122, 123, 124, 45, 46, 125, 126, 127, 128, 129, 130, 131, 132, 133, 134, 43, 135, 136, 137, 138, 168, 57, 58, 59, 60, 61, 62, 63, 169, 170, 171, 172, 173, 174, 175, 176, 177, 16, 17, 18, 7, 19, 20, 21, 207, 208, 209, 210, 211, 212, 213, 214, 215, 216, 217, 222, 223, 224, 218, 219, 220, 221, 225] (by decide +kernel) (by decide +kernel)
set_option maxRecDepth 20000 in
theorem gX1_succeeds_X1_isTurned : GoodIn wsX1_succeeds (wsV RX1 45 RX1 yX1_isTurned wsX1_isTurned) := goodIn_app (goodIn_of _ (by decide +kernel)) ggX1_succeeds_X1_isTurned
set_option maxRecDepth 20000 in
theorem ggX1_succeeds_X1_lastTwo : GoodIn wsX1_succeeds wsX1_lastTwo := goodIn_r _ [19, 20, 21, 207, 208, 209, 210, 211] (by decide +kernel) (by decide +kernel)
set_option maxRecDepth 20000 in
theorem gX1_succeeds_X1_lastTwo : GoodIn wsX1_succeeds (wsV RX1 48 RX1 yX1_lastTwo wsX1_lastTwo) := goodIn_app (goodIn_of _ (by decide +kernel)) ggX1_succeeds_X1_lastTwo
set_option maxRecDepth 20000 in
theorem ggX1_succeeds_X4_fitting : GoodIn wsX1_succeeds wsX4_fitting := goodIn_r _ [181, 14, 55, 10, 11, 12, 13, 15, 182, 183, 184, 185, 186, 37, 187, 188, 189, 190, 75, 191, 192, 193, 194, 195, 196, 197, 198, 41, 199, 43, 129, 27, 130, 200, 155, 156, 157, 44, 117, 118, 119, 120, 201, 122, 123, 124, 45, 46, 125, 126, 127, 128, 212, 213, 214, 215, 216, 217, 218, 219, 220, 221] (by decide +kernel) (by decide +kernel)
set_option maxRecDepth 20000 in
theorem gX1_succeeds_X4_fitting : GoodIn wsX1_succeeds (wsV RX1 52 RX4 yX4_fitting wsX4_fitting) := goodIn_app (goodIn_of _ (by decide +kernel)) ggX1_succeeds_X4_fitting
set_option maxRecDepth 20000 in
theorem ggX1_succeeds_X1_hasLobes : GoodIn wsX1_succeeds wsX1_hasLobes := goodIn_r _ [205, 3, 2, 94, 9, 10, 11, 12, 13, 14, 15, 206, 114, 115, 41, 116, 44, 117, 27, 118, 119, 120, 16, 17, 18, 7, 19, 20, 21, 207, 208, 209, 210, 211, 212, 213, 214, 215, 216, 217, 218, 219, 220, 221] (by decide +kernel) (by decide +kernel)
set_option maxRecDepth 20000 in
theorem gX1_succeeds_X1_hasLobes : GoodIn wsX1_succeeds (wsV RX1 57 RX1 yX1_hasLobes wsX1_hasLobes) := goodIn_app (goodIn_of _ (by decide +kernel)) ggX1_succeeds_X1_hasLobes
theorem dX1_succeeds_0 : decode cX1_succeeds 0 = .ok (.aload_n 0, 1) := by decide +kernel
theorem dX1_succeeds_1 : decode cX1_succeeds 1 = .ok (.getfield 7, 3) := by decide +kernel
theorem dX1_succeeds_4 : decode cX1_succeeds 4 = .ok (.tableswitch 133 1 9 #[52, 58, 64, 70, 76, 83, 89, 96, 127], 52) := by decide +kernel
theorem dX1_succeeds_56 : decode cX1_succeeds 56 = .ok (.aload_n 0, 1) := by decide +kernel
theorem dX1_succeeds_57 : decode cX1_succeeds 57 = .ok (.aload_n 1, 1) := by decide +kernel
theorem dX1_succeeds_58 : decode cX1_succeeds 58 = .ok (.invokevirtual 25, 3) := by decide +kernel
theorem dX1_succeeds_61 : decode cX1_succeeds 61 = .ok (.ireturn, 1) := by decide +kernel
theorem dX1_succeeds_62 : decode cX1_succeeds 62 = .ok (.aload_n 0, 1) := by decide +kernel
theorem dX1_succeeds_63 : decode cX1_succeeds 63 = .ok (.aload_n 1, 1) := by decide +kernel
theorem dX1_succeeds_64 : decode cX1_succeeds 64 = .ok (.invokevirtual 29, 3) := by decide +kernel
theorem dX1_succeeds_67 : decode cX1_succeeds 67 = .ok (.ireturn, 1) := by decide +kernel
theorem dX1_succeeds_68 : decode cX1_succeeds 68 = .ok (.aload_n 0, 1) := by decide +kernel
theorem dX1_succeeds_69 : decode cX1_succeeds 69 = .ok (.aload_n 1, 1) := by decide +kernel
theorem dX1_succeeds_70 : decode cX1_succeeds 70 = .ok (.invokevirtual 32, 3) := by decide +kernel
theorem dX1_succeeds_73 : decode cX1_succeeds 73 = .ok (.ireturn, 1) := by decide +kernel
theorem dX1_succeeds_74 : decode cX1_succeeds 74 = .ok (.aload_n 0, 1) := by decide +kernel
theorem dX1_succeeds_75 : decode cX1_succeeds 75 = .ok (.aload_n 1, 1) := by decide +kernel
theorem dX1_succeeds_76 : decode cX1_succeeds 76 = .ok (.invokevirtual 35, 3) := by decide +kernel
theorem dX1_succeeds_79 : decode cX1_succeeds 79 = .ok (.ireturn, 1) := by decide +kernel
theorem dX1_succeeds_80 : decode cX1_succeeds 80 = .ok (.aload_n 0, 1) := by decide +kernel
theorem dX1_succeeds_81 : decode cX1_succeeds 81 = .ok (.aload_n 1, 1) := by decide +kernel
theorem dX1_succeeds_82 : decode cX1_succeeds 82 = .ok (.aload_n 2, 1) := by decide +kernel
theorem dX1_succeeds_83 : decode cX1_succeeds 83 = .ok (.invokevirtual 38, 3) := by decide +kernel
theorem dX1_succeeds_86 : decode cX1_succeeds 86 = .ok (.ireturn, 1) := by decide +kernel
theorem dX1_succeeds_87 : decode cX1_succeeds 87 = .ok (.aload_n 0, 1) := by decide +kernel
theorem dX1_succeeds_88 : decode cX1_succeeds 88 = .ok (.aload_n 1, 1) := by decide +kernel
theorem dX1_succeeds_89 : decode cX1_succeeds 89 = .ok (.invokevirtual 42, 3) := by decide +kernel
theorem dX1_succeeds_92 : decode cX1_succeeds 92 = .ok (.ireturn, 1) := by decide +kernel
theorem dX1_succeeds_93 : decode cX1_succeeds 93 = .ok (.aload_n 0, 1) := by decide +kernel
theorem dX1_succeeds_94 : decode cX1_succeeds 94 = .ok (.aload_n 1, 1) := by decide +kernel
theorem dX1_succeeds_95 : decode cX1_succeeds 95 = .ok (.aload_n 2, 1) := by decide +kernel
theorem dX1_succeeds_96 : decode cX1_succeeds 96 = .ok (.invokevirtual 45, 3) := by decide +kernel
theorem dX1_succeeds_99 : decode cX1_succeeds 99 = .ok (.ireturn, 1) := by decide +kernel
theorem dX1_succeeds_100 : decode cX1_succeeds 100 = .ok (.aload_n 0, 1) := by decide +kernel
theorem dX1_succeeds_101 : decode cX1_succeeds 101 = .ok (.getfield 16, 3) := by decide +kernel
theorem dX1_succeeds_104 : decode cX1_succeeds 104 = .ok (.ifCond .ne 25, 3) := by decide +kernel
theorem dX1_succeeds_107 : decode cX1_succeeds 107 = .ok (.aload_n 0, 1) := by decide +kernel
theorem dX1_succeeds_108 : decode cX1_succeeds 108 = .ok (.invokevirtual 48, 3) := by decide +kernel
theorem dX1_succeeds_111 : decode cX1_succeeds 111 = .ok (.ifCond .ne 18, 3) := by decide +kernel
theorem dX1_succeeds_114 : decode cX1_succeeds 114 = .ok (.aload_n 1, 1) := by decide +kernel
theorem dX1_succeeds_115 : decode cX1_succeeds 115 = .ok (.invokevirtual 52, 3) := by decide +kernel
theorem dX1_succeeds_118 : decode cX1_succeeds 118 = .ok (.aload_n 0, 1) := by decide +kernel
theorem dX1_succeeds_119 : decode cX1_succeeds 119 = .ok (.getfield 13, 3) := by decide +kernel
theorem dX1_succeeds_122 : decode cX1_succeeds 122 = .ok (.if_icmp .lt 7, 3) := by decide +kernel
theorem dX1_succeeds_125 : decode cX1_succeeds 125 = .ok (.iconst 1, 1) := by decide +kernel
theorem dX1_succeeds_126 : decode cX1_succeeds 126 = .ok (.goto 4, 3) := by decide +kernel
theorem dX1_succeeds_129 : decode cX1_succeeds 129 = .ok (.iconst 0, 1) := by decide +kernel
theorem dX1_succeeds_130 : decode cX1_succeeds 130 = .ok (.ireturn, 1) := by decide +kernel
theorem dX1_succeeds_131 : decode cX1_succeeds 131 = .ok (.aload_n 0, 1) := by decide +kernel
theorem dX1_succeeds_132 : decode cX1_succeeds 132 = .ok (.aload_n 1, 1) := by decide +kernel
theorem dX1_succeeds_133 : decode cX1_succeeds 133 = .ok (.invokevirtual 57, 3) := by decide +kernel
theorem dX1_succeeds_136 : decode cX1_succeeds 136 = .ok (.ireturn, 1) := by decide +kernel
theorem dX1_succeeds_137 : decode cX1_succeeds 137 = .ok (.iconst 0, 1) := by decide +kernel
theorem dX1_succeeds_138 : decode cX1_succeeds 138 = .ok (.ireturn, 1) := by decide +kernel
set_option maxRecDepth 20000 in
theorem ggX1_changes_X4_find : GoodIn wsX1_changes wsX4_find := goodIn_r _ [7, 8, 9, 47, 48, 49, 50, 51, 52] (by decide +kernel) (by decide +kernel)
set_option maxRecDepth 20000 in
theorem gX1_changes_X4_find : GoodIn wsX1_changes (wsV RX1 60 RX4 yX4_find wsX4_find) := goodIn_app (goodIn_of _ (by decide +kernel)) ggX1_changes_X4_find
set_option maxRecDepth 20000 in
theorem ggX1_changes_X1_lastTwo : GoodIn wsX1_changes wsX1_lastTwo := goodIn_r _ [14, 15, 16, 42, 43, 44, 45, 46] (by decide +kernel) (by decide +kernel)
set_option maxRecDepth 20000 in
theorem gX1_changes_X1_lastTwo : GoodIn wsX1_changes (wsV RX1 48 RX1 yX1_lastTwo wsX1_lastTwo) := goodIn_app (goodIn_of _ (by decide +kernel)) ggX1_changes_X1_lastTwo
set_option maxRecDepth 20000 in
theorem ggX1_changes_X4_allows : GoodIn wsX1_changes wsX4_allows := goodIn_r _ [20, 21, 22, 23, 24, 25, 26, 27, 28, 29, 30, 6, 31, 32, 47, 48, 49, 50, 51, 52] (by decide +kernel) (by decide +kernel)
set_option maxRecDepth 20000 in
theorem gX1_changes_X4_allows : GoodIn wsX1_changes (wsV RX1 64 RX4 yX4_allows wsX4_allows) := goodIn_app (goodIn_of _ (by decide +kernel)) ggX1_changes_X4_allows
set_option maxRecDepth 20000 in
theorem ggX1_changes_X3_exchange : GoodIn wsX1_changes wsX3_exchange := goodIn_r _ [37, 38, 39, 40, 41, 53, 54, 55, 56] (by decide +kernel) (by decide +kernel)
set_option maxRecDepth 20000 in
theorem gX1_changes_X3_exchange : GoodIn wsX1_changes (wsV RX1 68 RX3 yX3_exchange wsX3_exchange) := goodIn_app (goodIn_of _ (by decide +kernel)) ggX1_changes_X3_exchange
theorem dX1_changes_0 : decode cX1_changes 0 = .ok (.aload_n 1, 1) := by decide +kernel
theorem dX1_changes_1 : decode cX1_changes 1 = .ok (.aload_n 0, 1) := by decide +kernel
theorem dX1_changes_2 : decode cX1_changes 2 = .ok (.getfield 13, 3) := by decide +kernel
theorem dX1_changes_5 : decode cX1_changes 5 = .ok (.invokevirtual 60, 3) := by decide +kernel
theorem dX1_changes_8 : decode cX1_changes 8 = .ok (.astore_n 2, 1) := by decide +kernel
theorem dX1_changes_9 : decode cX1_changes 9 = .ok (.aload_n 2, 1) := by decide +kernel
theorem dX1_changes_10 : decode cX1_changes 10 = .ok (.ifnull 18, 3) := by decide +kernel
theorem dX1_changes_13 : decode cX1_changes 13 = .ok (.aload_n 1, 1) := by decide +kernel
theorem dX1_changes_14 : decode cX1_changes 14 = .ok (.aload_n 0, 1) := by decide +kernel
theorem dX1_changes_15 : decode cX1_changes 15 = .ok (.getfield 16, 3) := by decide +kernel
theorem dX1_changes_18 : decode cX1_changes 18 = .ok (.aload_n 0, 1) := by decide +kernel
theorem dX1_changes_19 : decode cX1_changes 19 = .ok (.invokevirtual 48, 3) := by decide +kernel
theorem dX1_changes_22 : decode cX1_changes 22 = .ok (.invokevirtual 64, 3) := by decide +kernel
theorem dX1_changes_25 : decode cX1_changes 25 = .ok (.ifCond .ne 5, 3) := by decide +kernel
theorem dX1_changes_28 : decode cX1_changes 28 = .ok (.iconst 0, 1) := by decide +kernel
theorem dX1_changes_29 : decode cX1_changes 29 = .ok (.ireturn, 1) := by decide +kernel
theorem dX1_changes_30 : decode cX1_changes 30 = .ok (.aload_n 2, 1) := by decide +kernel
theorem dX1_changes_31 : decode cX1_changes 31 = .ok (.aload_n 0, 1) := by decide +kernel
theorem dX1_changes_32 : decode cX1_changes 32 = .ok (.getfield 16, 3) := by decide +kernel
theorem dX1_changes_35 : decode cX1_changes 35 = .ok (.aload_n 0, 1) := by decide +kernel
theorem dX1_changes_36 : decode cX1_changes 36 = .ok (.invokevirtual 48, 3) := by decide +kernel
theorem dX1_changes_39 : decode cX1_changes 39 = .ok (.invokevirtual 68, 3) := by decide +kernel
theorem dX1_changes_42 : decode cX1_changes 42 = .ok (.pop, 1) := by decide +kernel
theorem dX1_changes_43 : decode cX1_changes 43 = .ok (.iconst 1, 1) := by decide +kernel
theorem dX1_changes_44 : decode cX1_changes 44 = .ok (.ireturn, 1) := by decide +kernel
set_option maxRecDepth 20000 in
theorem ggX1_removes_X1_lastTwo : GoodIn wsX1_removes wsX1_lastTwo := goodIn_r _ [7, 8, 9, 35, 36, 37, 38, 39] (by decide +kernel) (by decide +kernel)
set_option maxRecDepth 20000 in
theorem gX1_removes_X1_lastTwo : GoodIn wsX1_removes (wsV RX1 48 RX1 yX1_lastTwo wsX1_lastTwo) := goodIn_app (goodIn_of _ (by decide +kernel)) ggX1_removes_X1_lastTwo
set_option maxRecDepth 20000 in
theorem ggX1_removes_X4_find : GoodIn wsX1_removes wsX4_find := goodIn_r _ [14, 15, 16, 40, 41, 42, 43, 44, 45] (by decide +kernel) (by decide +kernel)
set_option maxRecDepth 20000 in
theorem gX1_removes_X4_find : GoodIn wsX1_removes (wsV RX1 60 RX4 yX4_find wsX4_find) := goodIn_app (goodIn_of _ (by decide +kernel)) ggX1_removes_X4_find
set_option maxRecDepth 20000 in
theorem ggX1_removes_X4_dropLayer : GoodIn wsX1_removes wsX4_dropLayer := goodIn_r _ [20, 15, 21, 11, 12, 13, 14, 16, 22, 23, 24, 25, 26, 27, 28, 29, 30, 31, 32, 33, 34, 40, 41, 42, 43, 44, 45, 46, 47, 48, 49] (by decide +kernel) (by decide +kernel)
set_option maxRecDepth 20000 in
theorem gX1_removes_X4_dropLayer : GoodIn wsX1_removes (wsV RX1 74 RX4 yX4_dropLayer wsX4_dropLayer) := goodIn_app (goodIn_of _ (by decide +kernel)) ggX1_removes_X4_dropLayer
theorem dX1_removes_0 : decode cX1_removes 0 = .ok (.aload_n 0, 1) := by decide +kernel
theorem dX1_removes_1 : decode cX1_removes 1 = .ok (.getfield 16, 3) := by decide +kernel
theorem dX1_removes_4 : decode cX1_removes 4 = .ok (.ifCond .ne 21, 3) := by decide +kernel
theorem dX1_removes_7 : decode cX1_removes 7 = .ok (.aload_n 0, 1) := by decide +kernel
theorem dX1_removes_8 : decode cX1_removes 8 = .ok (.invokevirtual 48, 3) := by decide +kernel
theorem dX1_removes_11 : decode cX1_removes 11 = .ok (.ifCond .ne 14, 3) := by decide +kernel
theorem dX1_removes_14 : decode cX1_removes 14 = .ok (.aload_n 1, 1) := by decide +kernel
theorem dX1_removes_15 : decode cX1_removes 15 = .ok (.aload_n 0, 1) := by decide +kernel
theorem dX1_removes_16 : decode cX1_removes 16 = .ok (.getfield 13, 3) := by decide +kernel
theorem dX1_removes_19 : decode cX1_removes 19 = .ok (.invokevirtual 60, 3) := by decide +kernel
theorem dX1_removes_22 : decode cX1_removes 22 = .ok (.ifnonnull 5, 3) := by decide +kernel
theorem dX1_removes_25 : decode cX1_removes 25 = .ok (.iconst 0, 1) := by decide +kernel
theorem dX1_removes_26 : decode cX1_removes 26 = .ok (.ireturn, 1) := by decide +kernel
theorem dX1_removes_27 : decode cX1_removes 27 = .ok (.aload_n 1, 1) := by decide +kernel
theorem dX1_removes_28 : decode cX1_removes 28 = .ok (.aload_n 0, 1) := by decide +kernel
theorem dX1_removes_29 : decode cX1_removes 29 = .ok (.getfield 13, 3) := by decide +kernel
theorem dX1_removes_32 : decode cX1_removes 32 = .ok (.invokevirtual 74, 3) := by decide +kernel
theorem dX1_removes_35 : decode cX1_removes 35 = .ok (.iconst 1, 1) := by decide +kernel
theorem dX1_removes_36 : decode cX1_removes 36 = .ok (.ireturn, 1) := by decide +kernel
set_option maxRecDepth 20000 in
theorem ggX1_takesRing_X1_lastTwo : GoodIn wsX1_takesRing wsX1_lastTwo := goodIn_r _ [7, 8, 9, 31, 32, 33, 34, 35] (by decide +kernel) (by decide +kernel)
set_option maxRecDepth 20000 in
theorem gX1_takesRing_X1_lastTwo : GoodIn wsX1_takesRing (wsV RX1 48 RX1 yX1_lastTwo wsX1_lastTwo) := goodIn_app (goodIn_of _ (by decide +kernel)) ggX1_takesRing_X1_lastTwo
set_option maxRecDepth 20000 in
theorem ggX1_takesRing_X7_isRing : GoodIn wsX1_takesRing wsX7_isRing := goodIn_r _ [12] (by decide +kernel) (by decide +kernel)
set_option maxRecDepth 20000 in
theorem gX1_takesRing_X7_isRing_n78 : GoodIn wsX1_takesRing (wsX7_isRing) := ggX1_takesRing_X7_isRing
set_option maxRecDepth 20000 in
theorem ggX1_takesRing_X4_takeRing : GoodIn wsX1_takesRing wsX4_takeRing := goodIn_r _ [17, 18, 19, 20, 21, 22, 23, 24, 16, 25, 26, 27, 28, 29, 30, 36, 37, 38, 39, 40, 41, 42, 43, 44, 45] (by decide +kernel) (by decide +kernel)
set_option maxRecDepth 20000 in
theorem gX1_takesRing_X4_takeRing : GoodIn wsX1_takesRing (wsV RX1 84 RX4 yX4_takeRing wsX4_takeRing) := goodIn_app (goodIn_of _ (by decide +kernel)) ggX1_takesRing_X4_takeRing
theorem dX1_takesRing_0 : decode cX1_takesRing 0 = .ok (.aload_n 0, 1) := by decide +kernel
theorem dX1_takesRing_1 : decode cX1_takesRing 1 = .ok (.getfield 13, 3) := by decide +kernel
theorem dX1_takesRing_4 : decode cX1_takesRing 4 = .ok (.ifCond .ne 20, 3) := by decide +kernel
theorem dX1_takesRing_7 : decode cX1_takesRing 7 = .ok (.aload_n 0, 1) := by decide +kernel
theorem dX1_takesRing_8 : decode cX1_takesRing 8 = .ok (.getfield 16, 3) := by decide +kernel
theorem dX1_takesRing_11 : decode cX1_takesRing 11 = .ok (.ifCond .ne 13, 3) := by decide +kernel
theorem dX1_takesRing_14 : decode cX1_takesRing 14 = .ok (.aload_n 0, 1) := by decide +kernel
theorem dX1_takesRing_15 : decode cX1_takesRing 15 = .ok (.invokevirtual 48, 3) := by decide +kernel
theorem dX1_takesRing_18 : decode cX1_takesRing 18 = .ok (.invokestatic 78, 3) := by decide +kernel
theorem dX1_takesRing_21 : decode cX1_takesRing 21 = .ok (.ifCond .ne 5, 3) := by decide +kernel
theorem dX1_takesRing_24 : decode cX1_takesRing 24 = .ok (.iconst 0, 1) := by decide +kernel
theorem dX1_takesRing_25 : decode cX1_takesRing 25 = .ok (.ireturn, 1) := by decide +kernel
theorem dX1_takesRing_26 : decode cX1_takesRing 26 = .ok (.aload_n 1, 1) := by decide +kernel
theorem dX1_takesRing_27 : decode cX1_takesRing 27 = .ok (.aload_n 0, 1) := by decide +kernel
theorem dX1_takesRing_28 : decode cX1_takesRing 28 = .ok (.invokevirtual 48, 3) := by decide +kernel
theorem dX1_takesRing_31 : decode cX1_takesRing 31 = .ok (.invokevirtual 84, 3) := by decide +kernel
theorem dX1_takesRing_34 : decode cX1_takesRing 34 = .ok (.iconst 1, 1) := by decide +kernel
theorem dX1_takesRing_35 : decode cX1_takesRing 35 = .ok (.ireturn, 1) := by decide +kernel
set_option maxRecDepth 20000 in
theorem ggX1_adds_X7_isSide : GoodIn wsX1_adds wsX7_isSide := goodIn_r _ [7] (by decide +kernel) (by decide +kernel)
set_option maxRecDepth 20000 in
theorem gX1_adds_X7_isSide_n87 : GoodIn wsX1_adds (wsX7_isSide) := ggX1_adds_X7_isSide
set_option maxRecDepth 20000 in
theorem ggX1_adds_X7_isWheel : GoodIn wsX1_adds wsX7_isWheel := goodIn_r _ [9] (by decide +kernel) (by decide +kernel)
set_option maxRecDepth 20000 in
theorem gX1_adds_X7_isWheel_n90 : GoodIn wsX1_adds (wsX7_isWheel) := ggX1_adds_X7_isWheel
set_option maxRecDepth 20000 in
theorem ggX1_adds_X7_isHole : GoodIn wsX1_adds wsX7_isHole := goodIn_r _ [11] (by decide +kernel) (by decide +kernel)
set_option maxRecDepth 20000 in
theorem gX1_adds_X7_isHole_n93 : GoodIn wsX1_adds (wsX7_isHole) := ggX1_adds_X7_isHole
set_option maxRecDepth 20000 in
theorem ggX1_adds_X4_isFull : GoodIn wsX1_adds wsX4_isFull := goodIn_r _ [16, 17, 42, 43, 44, 45, 46, 47] (by decide +kernel) (by decide +kernel)
set_option maxRecDepth 20000 in
theorem gX1_adds_X4_isFull : GoodIn wsX1_adds (wsV RX1 96 RX4 yX4_isFull wsX4_isFull) := goodIn_app (goodIn_of _ (by decide +kernel)) ggX1_adds_X4_isFull
set_option maxRecDepth 20000 in
theorem ggX1_adds_X4_putLayer : GoodIn wsX1_adds wsX4_putLayer := goodIn_r _ [21, 17, 22, 13, 14, 15, 16, 23, 24, 25, 26, 27, 28, 29, 30, 31, 32, 33, 34, 35, 36, 42, 43, 44, 45, 46, 47, 48, 49, 50, 51] (by decide +kernel) (by decide +kernel)
set_option maxRecDepth 20000 in
theorem gX1_adds_X4_putLayer : GoodIn wsX1_adds (wsV RX1 100 RX4 yX4_putLayer wsX4_putLayer) := goodIn_app (goodIn_of _ (by decide +kernel)) ggX1_adds_X4_putLayer
theorem dX1_adds_0 : decode cX1_adds 0 = .ok (.bipush 10, 2) := by decide +kernel
theorem dX1_adds_2 : decode cX1_adds 2 = .ok (.aload_n 0, 1) := by decide +kernel
theorem dX1_adds_3 : decode cX1_adds 3 = .ok (.getfield 16, 3) := by decide +kernel
theorem dX1_adds_6 : decode cX1_adds 6 = .ok (.imul, 1) := by decide +kernel
theorem dX1_adds_7 : decode cX1_adds 7 = .ok (.aload_n 0, 1) := by decide +kernel
theorem dX1_adds_8 : decode cX1_adds 8 = .ok (.getfield 19, 3) := by decide +kernel
theorem dX1_adds_11 : decode cX1_adds 11 = .ok (.iadd, 1) := by decide +kernel
theorem dX1_adds_12 : decode cX1_adds 12 = .ok (.istore_n 2, 1) := by decide +kernel
theorem dX1_adds_13 : decode cX1_adds 13 = .ok (.aload_n 0, 1) := by decide +kernel
theorem dX1_adds_14 : decode cX1_adds 14 = .ok (.getfield 13, 3) := by decide +kernel
theorem dX1_adds_17 : decode cX1_adds 17 = .ok (.invokestatic 87, 3) := by decide +kernel
theorem dX1_adds_20 : decode cX1_adds 20 = .ok (.ifCond .eq 27, 3) := by decide +kernel
theorem dX1_adds_23 : decode cX1_adds 23 = .ok (.iload_n 2, 1) := by decide +kernel
theorem dX1_adds_24 : decode cX1_adds 24 = .ok (.invokestatic 90, 3) := by decide +kernel
theorem dX1_adds_27 : decode cX1_adds 27 = .ok (.ifCond .eq 20, 3) := by decide +kernel
theorem dX1_adds_30 : decode cX1_adds 30 = .ok (.aload_n 0, 1) := by decide +kernel
theorem dX1_adds_31 : decode cX1_adds 31 = .ok (.getfield 22, 3) := by decide +kernel
theorem dX1_adds_34 : decode cX1_adds 34 = .ok (.invokestatic 93, 3) := by decide +kernel
theorem dX1_adds_37 : decode cX1_adds 37 = .ok (.ifCond .eq 10, 3) := by decide +kernel
theorem dX1_adds_40 : decode cX1_adds 40 = .ok (.aload_n 1, 1) := by decide +kernel
theorem dX1_adds_41 : decode cX1_adds 41 = .ok (.invokevirtual 96, 3) := by decide +kernel
theorem dX1_adds_44 : decode cX1_adds 44 = .ok (.ifCond .eq 5, 3) := by decide +kernel
theorem dX1_adds_47 : decode cX1_adds 47 = .ok (.iconst 0, 1) := by decide +kernel
theorem dX1_adds_48 : decode cX1_adds 48 = .ok (.ireturn, 1) := by decide +kernel
theorem dX1_adds_49 : decode cX1_adds 49 = .ok (.aload_n 1, 1) := by decide +kernel
theorem dX1_adds_50 : decode cX1_adds 50 = .ok (.iload_n 2, 1) := by decide +kernel
theorem dX1_adds_51 : decode cX1_adds 51 = .ok (.aload_n 0, 1) := by decide +kernel
theorem dX1_adds_52 : decode cX1_adds 52 = .ok (.getfield 13, 3) := by decide +kernel
theorem dX1_adds_55 : decode cX1_adds 55 = .ok (.aload_n 0, 1) := by decide +kernel
theorem dX1_adds_56 : decode cX1_adds 56 = .ok (.getfield 22, 3) := by decide +kernel
theorem dX1_adds_59 : decode cX1_adds 59 = .ok (.iconst 0, 1) := by decide +kernel
theorem dX1_adds_60 : decode cX1_adds 60 = .ok (.invokevirtual 100, 3) := by decide +kernel
theorem dX1_adds_63 : decode cX1_adds 63 = .ok (.iconst 1, 1) := by decide +kernel
theorem dX1_adds_64 : decode cX1_adds 64 = .ok (.ireturn, 1) := by decide +kernel
set_option maxRecDepth 20000 in
theorem ggX1_sharesEnough_X4_find : GoodIn wsX1_sharesEnough wsX4_find := goodIn_r _ [8, 9, 10, 84, 85, 86, 87, 88, 89] (by decide +kernel) (by decide +kernel)
set_option maxRecDepth 20000 in
theorem gX1_sharesEnough_X4_find : GoodIn wsX1_sharesEnough (wsV RX1 60 RX4 yX4_find wsX4_find) := goodIn_app (goodIn_of _ (by decide +kernel)) ggX1_sharesEnough_X4_find
set_option maxRecDepth 20000 in
theorem ggX1_sharesEnough_X0_countCommon : GoodIn wsX1_sharesEnough wsX0_countCommon := goodIn_r _ [15, 16, 17, 18, 19, 20, 21, 22, 23, 24, 25, 26, 27, 28, 29, 30, 31, 32, 33, 34, 35, 36, 37, 38, 39, 40, 41, 42, 43, 44, 45, 46, 47, 48, 49, 50, 51, 52, 53, 54, 55, 56, 57, 58, 59, 60, 61, 62, 63, 64, 65, 66, 67, 68, 69, 70, 71, 90, 91, 92, 93, 94, 95, 96, 97] (by decide +kernel) (by decide +kernel)
set_option maxRecDepth 20000 in
theorem gX1_sharesEnough_X0_countCommon : GoodIn wsX1_sharesEnough (wsV RX1 107 RX0 yX0_countCommon wsX0_countCommon) := goodIn_app (goodIn_of _ (by decide +kernel)) ggX1_sharesEnough_X0_countCommon
set_option maxRecDepth 20000 in
theorem ggX1_sharesEnough_X1_lastTwo : GoodIn wsX1_sharesEnough wsX1_lastTwo := goodIn_r _ [76, 77, 78, 79, 80, 81, 82, 83] (by decide +kernel) (by decide +kernel)
set_option maxRecDepth 20000 in
theorem gX1_sharesEnough_X1_lastTwo : GoodIn wsX1_sharesEnough (wsV RX1 48 RX1 yX1_lastTwo wsX1_lastTwo) := goodIn_app (goodIn_of _ (by decide +kernel)) ggX1_sharesEnough_X1_lastTwo
theorem dX1_sharesEnough_0 : decode cX1_sharesEnough 0 = .ok (.aload_n 1, 1) := by decide +kernel
theorem dX1_sharesEnough_1 : decode cX1_sharesEnough 1 = .ok (.aload_n 0, 1) := by decide +kernel
theorem dX1_sharesEnough_2 : decode cX1_sharesEnough 2 = .ok (.getfield 13, 3) := by decide +kernel
theorem dX1_sharesEnough_5 : decode cX1_sharesEnough 5 = .ok (.invokevirtual 60, 3) := by decide +kernel
theorem dX1_sharesEnough_8 : decode cX1_sharesEnough 8 = .ok (.astore_n 3, 1) := by decide +kernel
theorem dX1_sharesEnough_9 : decode cX1_sharesEnough 9 = .ok (.aload_n 1, 1) := by decide +kernel
theorem dX1_sharesEnough_10 : decode cX1_sharesEnough 10 = .ok (.aload_n 0, 1) := by decide +kernel
theorem dX1_sharesEnough_11 : decode cX1_sharesEnough 11 = .ok (.getfield 16, 3) := by decide +kernel
theorem dX1_sharesEnough_14 : decode cX1_sharesEnough 14 = .ok (.invokevirtual 60, 3) := by decide +kernel
theorem dX1_sharesEnough_17 : decode cX1_sharesEnough 17 = .ok (.astore 4, 2) := by decide +kernel
theorem dX1_sharesEnough_19 : decode cX1_sharesEnough 19 = .ok (.aload_n 3, 1) := by decide +kernel
theorem dX1_sharesEnough_20 : decode cX1_sharesEnough 20 = .ok (.ifnull 30, 3) := by decide +kernel
theorem dX1_sharesEnough_23 : decode cX1_sharesEnough 23 = .ok (.aload 4, 2) := by decide +kernel
theorem dX1_sharesEnough_25 : decode cX1_sharesEnough 25 = .ok (.ifnull 25, 3) := by decide +kernel
theorem dX1_sharesEnough_28 : decode cX1_sharesEnough 28 = .ok (.aload_n 2, 1) := by decide +kernel
theorem dX1_sharesEnough_29 : decode cX1_sharesEnough 29 = .ok (.aload_n 1, 1) := by decide +kernel
theorem dX1_sharesEnough_30 : decode cX1_sharesEnough 30 = .ok (.getfield 104, 3) := by decide +kernel
theorem dX1_sharesEnough_33 : decode cX1_sharesEnough 33 = .ok (.aload_n 3, 1) := by decide +kernel
theorem dX1_sharesEnough_34 : decode cX1_sharesEnough 34 = .ok (.aload 4, 2) := by decide +kernel
theorem dX1_sharesEnough_36 : decode cX1_sharesEnough 36 = .ok (.invokevirtual 107, 3) := by decide +kernel
theorem dX1_sharesEnough_39 : decode cX1_sharesEnough 39 = .ok (.aload_n 0, 1) := by decide +kernel
theorem dX1_sharesEnough_40 : decode cX1_sharesEnough 40 = .ok (.invokevirtual 48, 3) := by decide +kernel
theorem dX1_sharesEnough_43 : decode cX1_sharesEnough 43 = .ok (.if_icmp .lt 7, 3) := by decide +kernel
theorem dX1_sharesEnough_46 : decode cX1_sharesEnough 46 = .ok (.iconst 1, 1) := by decide +kernel
theorem dX1_sharesEnough_47 : decode cX1_sharesEnough 47 = .ok (.goto 4, 3) := by decide +kernel
theorem dX1_sharesEnough_50 : decode cX1_sharesEnough 50 = .ok (.iconst 0, 1) := by decide +kernel
theorem dX1_sharesEnough_51 : decode cX1_sharesEnough 51 = .ok (.ireturn, 1) := by decide +kernel
set_option maxRecDepth 20000 in
theorem ggX1_isTurned_X4_find : GoodIn wsX1_isTurned wsX4_find := goodIn_r _ [8, 9, 10, 92, 93, 94, 95, 96, 97] (by decide +kernel) (by decide +kernel)
set_option maxRecDepth 20000 in
theorem gX1_isTurned_X4_find : GoodIn wsX1_isTurned (wsV RX1 60 RX4 yX4_find wsX4_find) := goodIn_app (goodIn_of _ (by decide +kernel)) ggX1_isTurned_X4_find
set_option maxRecDepth 20000 in
theorem ggX1_isTurned_X0_turnBetween : GoodIn wsX1_isTurned wsX0_turnBetween := goodIn_r _ [15, 16, 17, 18, 19, 20, 21, 22, 23, 24, 25, 26, 27, 28, 29, 30, 31, 32, 33, 34, 35, 36, 37, 38, 39, 40, 41, 42, 43, 44, 45, 46, 47, 48, 49, 50, 51, 52, 53, 54, 55, 56, 57, 58, 59, 60, 61, 62, 63, 64, 65, 66, 67, 68, 69, 70, 71, 72, 14, 73, 74, 75, 76, 77, 78, 79, 98, 99, 100, 101, 102, 103, 104, 105] (by decide +kernel) (by decide +kernel)
set_option maxRecDepth 20000 in
theorem gX1_isTurned_X0_turnBetween : GoodIn wsX1_isTurned (wsV RX1 113 RX0 yX0_turnBetween wsX0_turnBetween) := goodIn_app (goodIn_of _ (by decide +kernel)) ggX1_isTurned_X0_turnBetween
set_option maxRecDepth 20000 in
theorem ggX1_isTurned_X1_lastTwo : GoodIn wsX1_isTurned wsX1_lastTwo := goodIn_r _ [84, 85, 86, 87, 88, 89, 90, 91] (by decide +kernel) (by decide +kernel)
set_option maxRecDepth 20000 in
theorem gX1_isTurned_X1_lastTwo : GoodIn wsX1_isTurned (wsV RX1 48 RX1 yX1_lastTwo wsX1_lastTwo) := goodIn_app (goodIn_of _ (by decide +kernel)) ggX1_isTurned_X1_lastTwo
theorem dX1_isTurned_0 : decode cX1_isTurned 0 = .ok (.aload_n 1, 1) := by decide +kernel
theorem dX1_isTurned_1 : decode cX1_isTurned 1 = .ok (.aload_n 0, 1) := by decide +kernel
theorem dX1_isTurned_2 : decode cX1_isTurned 2 = .ok (.getfield 13, 3) := by decide +kernel
theorem dX1_isTurned_5 : decode cX1_isTurned 5 = .ok (.invokevirtual 60, 3) := by decide +kernel
theorem dX1_isTurned_8 : decode cX1_isTurned 8 = .ok (.astore_n 3, 1) := by decide +kernel
theorem dX1_isTurned_9 : decode cX1_isTurned 9 = .ok (.aload_n 1, 1) := by decide +kernel
theorem dX1_isTurned_10 : decode cX1_isTurned 10 = .ok (.aload_n 0, 1) := by decide +kernel
theorem dX1_isTurned_11 : decode cX1_isTurned 11 = .ok (.getfield 16, 3) := by decide +kernel
theorem dX1_isTurned_14 : decode cX1_isTurned 14 = .ok (.invokevirtual 60, 3) := by decide +kernel
theorem dX1_isTurned_17 : decode cX1_isTurned 17 = .ok (.astore 4, 2) := by decide +kernel
theorem dX1_isTurned_19 : decode cX1_isTurned 19 = .ok (.aload_n 3, 1) := by decide +kernel
theorem dX1_isTurned_20 : decode cX1_isTurned 20 = .ok (.ifnull 30, 3) := by decide +kernel
theorem dX1_isTurned_23 : decode cX1_isTurned 23 = .ok (.aload 4, 2) := by decide +kernel
theorem dX1_isTurned_25 : decode cX1_isTurned 25 = .ok (.ifnull 25, 3) := by decide +kernel
theorem dX1_isTurned_28 : decode cX1_isTurned 28 = .ok (.aload_n 2, 1) := by decide +kernel
theorem dX1_isTurned_29 : decode cX1_isTurned 29 = .ok (.aload_n 1, 1) := by decide +kernel
theorem dX1_isTurned_30 : decode cX1_isTurned 30 = .ok (.getfield 104, 3) := by decide +kernel
theorem dX1_isTurned_33 : decode cX1_isTurned 33 = .ok (.aload_n 3, 1) := by decide +kernel
theorem dX1_isTurned_34 : decode cX1_isTurned 34 = .ok (.aload 4, 2) := by decide +kernel
theorem dX1_isTurned_36 : decode cX1_isTurned 36 = .ok (.invokevirtual 113, 3) := by decide +kernel
theorem dX1_isTurned_39 : decode cX1_isTurned 39 = .ok (.aload_n 0, 1) := by decide +kernel
theorem dX1_isTurned_40 : decode cX1_isTurned 40 = .ok (.invokevirtual 48, 3) := by decide +kernel
theorem dX1_isTurned_43 : decode cX1_isTurned 43 = .ok (.if_icmp .ne 7, 3) := by decide +kernel
theorem dX1_isTurned_46 : decode cX1_isTurned 46 = .ok (.iconst 1, 1) := by decide +kernel
theorem dX1_isTurned_47 : decode cX1_isTurned 47 = .ok (.goto 4, 3) := by decide +kernel
theorem dX1_isTurned_50 : decode cX1_isTurned 50 = .ok (.iconst 0, 1) := by decide +kernel
theorem dX1_isTurned_51 : decode cX1_isTurned 51 = .ok (.ireturn, 1) := by decide +kernel
set_option maxRecDepth 20000 in
theorem ggX1_hasTurns_X4_find : GoodIn wsX1_hasTurns wsX4_find := goodIn_r _ [8, 9, 10, 34, 35, 36, 37, 38, 39] (by decide +kernel) (by decide +kernel)
set_option maxRecDepth 20000 in
theorem gX1_hasTurns_X4_find : GoodIn wsX1_hasTurns (wsV RX1 60 RX4 yX4_find wsX4_find) := goodIn_app (goodIn_of _ (by decide +kernel)) ggX1_hasTurns_X4_find
set_option maxRecDepth 20000 in
theorem ggX1_hasTurns_X3_turns : GoodIn wsX1_hasTurns wsX3_turns := goodIn_r _ [15, 16, 17, 18, 19, 20, 21, 40, 41, 42, 43] (by decide +kernel) (by decide +kernel)
set_option maxRecDepth 20000 in
theorem gX1_hasTurns_X3_turns : GoodIn wsX1_hasTurns (wsV RX1 116 RX3 yX3_turns wsX3_turns) := goodIn_app (goodIn_of _ (by decide +kernel)) ggX1_hasTurns_X3_turns
set_option maxRecDepth 20000 in
theorem ggX1_hasTurns_X1_lastTwo : GoodIn wsX1_hasTurns wsX1_lastTwo := goodIn_r _ [26, 27, 28, 29, 30, 31, 32, 33] (by decide +kernel) (by decide +kernel)
set_option maxRecDepth 20000 in
theorem gX1_hasTurns_X1_lastTwo : GoodIn wsX1_hasTurns (wsV RX1 48 RX1 yX1_lastTwo wsX1_lastTwo) := goodIn_app (goodIn_of _ (by decide +kernel)) ggX1_hasTurns_X1_lastTwo
theorem dX1_hasTurns_0 : decode cX1_hasTurns 0 = .ok (.aload_n 1, 1) := by decide +kernel
theorem dX1_hasTurns_1 : decode cX1_hasTurns 1 = .ok (.aload_n 0, 1) := by decide +kernel
theorem dX1_hasTurns_2 : decode cX1_hasTurns 2 = .ok (.getfield 13, 3) := by decide +kernel
theorem dX1_hasTurns_5 : decode cX1_hasTurns 5 = .ok (.invokevirtual 60, 3) := by decide +kernel
theorem dX1_hasTurns_8 : decode cX1_hasTurns 8 = .ok (.astore_n 2, 1) := by decide +kernel
theorem dX1_hasTurns_9 : decode cX1_hasTurns 9 = .ok (.aload_n 2, 1) := by decide +kernel
theorem dX1_hasTurns_10 : decode cX1_hasTurns 10 = .ok (.ifnull 29, 3) := by decide +kernel
theorem dX1_hasTurns_13 : decode cX1_hasTurns 13 = .ok (.aload_n 0, 1) := by decide +kernel
theorem dX1_hasTurns_14 : decode cX1_hasTurns 14 = .ok (.getfield 16, 3) := by decide +kernel
theorem dX1_hasTurns_17 : decode cX1_hasTurns 17 = .ok (.ifCond .ne 22, 3) := by decide +kernel
theorem dX1_hasTurns_20 : decode cX1_hasTurns 20 = .ok (.aload_n 2, 1) := by decide +kernel
theorem dX1_hasTurns_21 : decode cX1_hasTurns 21 = .ok (.aload_n 1, 1) := by decide +kernel
theorem dX1_hasTurns_22 : decode cX1_hasTurns 22 = .ok (.getfield 104, 3) := by decide +kernel
theorem dX1_hasTurns_25 : decode cX1_hasTurns 25 = .ok (.invokevirtual 116, 3) := by decide +kernel
theorem dX1_hasTurns_28 : decode cX1_hasTurns 28 = .ok (.aload_n 0, 1) := by decide +kernel
theorem dX1_hasTurns_29 : decode cX1_hasTurns 29 = .ok (.invokevirtual 48, 3) := by decide +kernel
theorem dX1_hasTurns_32 : decode cX1_hasTurns 32 = .ok (.if_icmp .ne 7, 3) := by decide +kernel
theorem dX1_hasTurns_35 : decode cX1_hasTurns 35 = .ok (.iconst 1, 1) := by decide +kernel
theorem dX1_hasTurns_36 : decode cX1_hasTurns 36 = .ok (.goto 4, 3) := by decide +kernel
theorem dX1_hasTurns_39 : decode cX1_hasTurns 39 = .ok (.iconst 0, 1) := by decide +kernel
theorem dX1_hasTurns_40 : decode cX1_hasTurns 40 = .ok (.ireturn, 1) := by decide +kernel
set_option maxRecDepth 20000 in
theorem ggX1_hasLobes_X4_find : GoodIn wsX1_hasLobes wsX4_find := goodIn_r _ [8, 9, 10, 34, 35, 36, 37, 38, 39] (by decide +kernel) (by decide +kernel)
set_option maxRecDepth 20000 in
theorem gX1_hasLobes_X4_find : GoodIn wsX1_hasLobes (wsV RX1 60 RX4 yX4_find wsX4_find) := goodIn_app (goodIn_of _ (by decide +kernel)) ggX1_hasLobes_X4_find
set_option maxRecDepth 20000 in
theorem ggX1_hasLobes_X3_lobes : GoodIn wsX1_hasLobes wsX3_lobes := goodIn_r _ [15, 16, 17, 18, 19, 20, 21, 40, 41, 42, 43] (by decide +kernel) (by decide +kernel)
set_option maxRecDepth 20000 in
theorem gX1_hasLobes_X3_lobes : GoodIn wsX1_hasLobes (wsV RX1 120 RX3 yX3_lobes wsX3_lobes) := goodIn_app (goodIn_of _ (by decide +kernel)) ggX1_hasLobes_X3_lobes
set_option maxRecDepth 20000 in
theorem ggX1_hasLobes_X1_lastTwo : GoodIn wsX1_hasLobes wsX1_lastTwo := goodIn_r _ [26, 27, 28, 29, 30, 31, 32, 33] (by decide +kernel) (by decide +kernel)
set_option maxRecDepth 20000 in
theorem gX1_hasLobes_X1_lastTwo : GoodIn wsX1_hasLobes (wsV RX1 48 RX1 yX1_lastTwo wsX1_lastTwo) := goodIn_app (goodIn_of _ (by decide +kernel)) ggX1_hasLobes_X1_lastTwo
theorem dX1_hasLobes_0 : decode cX1_hasLobes 0 = .ok (.aload_n 1, 1) := by decide +kernel
theorem dX1_hasLobes_1 : decode cX1_hasLobes 1 = .ok (.aload_n 0, 1) := by decide +kernel
theorem dX1_hasLobes_2 : decode cX1_hasLobes 2 = .ok (.getfield 13, 3) := by decide +kernel
theorem dX1_hasLobes_5 : decode cX1_hasLobes 5 = .ok (.invokevirtual 60, 3) := by decide +kernel
theorem dX1_hasLobes_8 : decode cX1_hasLobes 8 = .ok (.astore_n 2, 1) := by decide +kernel
theorem dX1_hasLobes_9 : decode cX1_hasLobes 9 = .ok (.aload_n 2, 1) := by decide +kernel
theorem dX1_hasLobes_10 : decode cX1_hasLobes 10 = .ok (.ifnull 29, 3) := by decide +kernel
theorem dX1_hasLobes_13 : decode cX1_hasLobes 13 = .ok (.aload_n 0, 1) := by decide +kernel
theorem dX1_hasLobes_14 : decode cX1_hasLobes 14 = .ok (.getfield 16, 3) := by decide +kernel
theorem dX1_hasLobes_17 : decode cX1_hasLobes 17 = .ok (.ifCond .ne 22, 3) := by decide +kernel
theorem dX1_hasLobes_20 : decode cX1_hasLobes 20 = .ok (.aload_n 2, 1) := by decide +kernel
theorem dX1_hasLobes_21 : decode cX1_hasLobes 21 = .ok (.aload_n 1, 1) := by decide +kernel
theorem dX1_hasLobes_22 : decode cX1_hasLobes 22 = .ok (.getfield 104, 3) := by decide +kernel
theorem dX1_hasLobes_25 : decode cX1_hasLobes 25 = .ok (.invokevirtual 120, 3) := by decide +kernel
theorem dX1_hasLobes_28 : decode cX1_hasLobes 28 = .ok (.aload_n 0, 1) := by decide +kernel
theorem dX1_hasLobes_29 : decode cX1_hasLobes 29 = .ok (.invokevirtual 48, 3) := by decide +kernel
theorem dX1_hasLobes_32 : decode cX1_hasLobes 32 = .ok (.if_icmp .ne 7, 3) := by decide +kernel
theorem dX1_hasLobes_35 : decode cX1_hasLobes 35 = .ok (.iconst 1, 1) := by decide +kernel
theorem dX1_hasLobes_36 : decode cX1_hasLobes 36 = .ok (.goto 4, 3) := by decide +kernel
theorem dX1_hasLobes_39 : decode cX1_hasLobes 39 = .ok (.iconst 0, 1) := by decide +kernel
theorem dX1_hasLobes_40 : decode cX1_hasLobes 40 = .ok (.ireturn, 1) := by decide +kernel
set_option maxRecDepth 20000 in
theorem ggX2_init_X4_init : GoodIn wsX2_init wsX4_init := goodIn_r _ [10, 11, 2, 3, 12, 13, 14, 15, 16, 17, 18, 19, 20, 21, 22, 23, 24, 28, 29, 30, 31, 32, 33, 34, 35, 36, 37] (by decide +kernel) (by decide +kernel)
set_option maxRecDepth 20000 in
theorem gX2_init_X4_init : GoodIn wsX2_init (wsX4_init) := ggX2_init_X4_init
theorem dX2_init_0 : decode cX2_init 0 = .ok (.aload_n 0, 1) := by decide +kernel
theorem dX2_init_1 : decode cX2_init 1 = .ok (.invokespecial 3, 3) := by decide +kernel
theorem dX2_init_4 : decode cX2_init 4 = .ok (.aload_n 0, 1) := by decide +kernel
theorem dX2_init_5 : decode cX2_init 5 = .ok (.bipush 14, 2) := by decide +kernel
theorem dX2_init_7 : decode cX2_init 7 = .ok (.anewarray 9, 3) := by decide +kernel
theorem dX2_init_10 : decode cX2_init 10 = .ok (.putfield 11, 3) := by decide +kernel
theorem dX2_init_13 : decode cX2_init 13 = .ok (.iconst 0, 1) := by decide +kernel
theorem dX2_init_14 : decode cX2_init 14 = .ok (.istore_n 1, 1) := by decide +kernel
theorem dX2_init_15 : decode cX2_init 15 = .ok (.iload_n 1, 1) := by decide +kernel
theorem dX2_init_16 : decode cX2_init 16 = .ok (.aload_n 0, 1) := by decide +kernel
theorem dX2_init_17 : decode cX2_init 17 = .ok (.getfield 11, 3) := by decide +kernel
theorem dX2_init_20 : decode cX2_init 20 = .ok (.arraylength, 1) := by decide +kernel
theorem dX2_init_21 : decode cX2_init 21 = .ok (.if_icmp .ge 22, 3) := by decide +kernel
theorem dX2_init_24 : decode cX2_init 24 = .ok (.aload_n 0, 1) := by decide +kernel
theorem dX2_init_25 : decode cX2_init 25 = .ok (.getfield 11, 3) := by decide +kernel
theorem dX2_init_28 : decode cX2_init 28 = .ok (.iload_n 1, 1) := by decide +kernel
theorem dX2_init_29 : decode cX2_init 29 = .ok (.new 9, 3) := by decide +kernel
theorem dX2_init_32 : decode cX2_init 32 = .ok (.dup, 1) := by decide +kernel
theorem dX2_init_33 : decode cX2_init 33 = .ok (.invokespecial 17, 3) := by decide +kernel
theorem dX2_init_36 : decode cX2_init 36 = .ok (.aastore, 1) := by decide +kernel
theorem dX2_init_37 : decode cX2_init 37 = .ok (.iinc 1 1, 3) := by decide +kernel
theorem dX2_init_40 : decode cX2_init 40 = .ok (.goto (-25), 3) := by decide +kernel
theorem dX2_init_43 : decode cX2_init 43 = .ok (.return_, 1) := by decide +kernel
theorem dX2_stateAt_0 : decode cX2_stateAt 0 = .ok (.iload_n 1, 1) := by decide +kernel
theorem dX2_stateAt_1 : decode cX2_stateAt 1 = .ok (.bipush 14, 2) := by decide +kernel
theorem dX2_stateAt_3 : decode cX2_stateAt 3 = .ok (.irem, 1) := by decide +kernel
theorem dX2_stateAt_4 : decode cX2_stateAt 4 = .ok (.istore_n 2, 1) := by decide +kernel
theorem dX2_stateAt_5 : decode cX2_stateAt 5 = .ok (.iload_n 2, 1) := by decide +kernel
theorem dX2_stateAt_6 : decode cX2_stateAt 6 = .ok (.ifCond .lt 21, 3) := by decide +kernel
theorem dX2_stateAt_9 : decode cX2_stateAt 9 = .ok (.iload_n 2, 1) := by decide +kernel
theorem dX2_stateAt_10 : decode cX2_stateAt 10 = .ok (.aload_n 0, 1) := by decide +kernel
theorem dX2_stateAt_11 : decode cX2_stateAt 11 = .ok (.getfield 11, 3) := by decide +kernel
theorem dX2_stateAt_14 : decode cX2_stateAt 14 = .ok (.arraylength, 1) := by decide +kernel
theorem dX2_stateAt_15 : decode cX2_stateAt 15 = .ok (.if_icmp .ge 12, 3) := by decide +kernel
theorem dX2_stateAt_18 : decode cX2_stateAt 18 = .ok (.aload_n 0, 1) := by decide +kernel
theorem dX2_stateAt_19 : decode cX2_stateAt 19 = .ok (.getfield 11, 3) := by decide +kernel
theorem dX2_stateAt_22 : decode cX2_stateAt 22 = .ok (.iload_n 2, 1) := by decide +kernel
theorem dX2_stateAt_23 : decode cX2_stateAt 23 = .ok (.aaload, 1) := by decide +kernel
theorem dX2_stateAt_24 : decode cX2_stateAt 24 = .ok (.goto 4, 3) := by decide +kernel
theorem dX2_stateAt_27 : decode cX2_stateAt 27 = .ok (.aconst_null, 1) := by decide +kernel
theorem dX2_stateAt_28 : decode cX2_stateAt 28 = .ok (.areturn, 1) := by decide +kernel
set_option maxRecDepth 20000 in
theorem ggX2_remember_X2_stateAt : GoodIn wsX2_remember wsX2_stateAt := goodIn_r _ [7, 8, 65, 66, 67] (by decide +kernel) (by decide +kernel)
set_option maxRecDepth 20000 in
theorem gX2_remember_X2_stateAt : GoodIn wsX2_remember (wsV RX2 25 RX2 yX2_stateAt wsX2_stateAt) := goodIn_app (goodIn_of _ (by decide +kernel)) ggX2_remember_X2_stateAt
set_option maxRecDepth 20000 in
theorem ggX2_remember_X4_become : GoodIn wsX2_remember wsX4_become := goodIn_r _ [13, 14, 15, 16, 17, 18, 19, 20, 21, 22, 23, 12, 24, 25, 26, 27, 28, 29, 30, 31, 32, 33, 34, 35, 36, 37, 38, 39, 40, 41, 42, 43, 44, 45, 46, 47, 48, 49, 50, 51, 52, 53, 54, 55, 56, 57, 58, 59, 60, 61, 62, 63, 64, 68, 69, 70, 71, 72, 73, 74, 75, 76, 77] (by decide +kernel) (by decide +kernel)
set_option maxRecDepth 20000 in
theorem gX2_remember_X4_become : GoodIn wsX2_remember (wsV RX2 29 RX4 yX4_become wsX4_become) := goodIn_app (goodIn_of _ (by decide +kernel)) ggX2_remember_X4_become
theorem dX2_remember_0 : decode cX2_remember 0 = .ok (.aload_n 0, 1) := by decide +kernel
theorem dX2_remember_1 : decode cX2_remember 1 = .ok (.aload_n 0, 1) := by decide +kernel
theorem dX2_remember_2 : decode cX2_remember 2 = .ok (.getfield 18, 3) := by decide +kernel
theorem dX2_remember_5 : decode cX2_remember 5 = .ok (.aload_n 0, 1) := by decide +kernel
theorem dX2_remember_6 : decode cX2_remember 6 = .ok (.getfield 22, 3) := by decide +kernel
theorem dX2_remember_9 : decode cX2_remember 9 = .ok (.iadd, 1) := by decide +kernel
theorem dX2_remember_10 : decode cX2_remember 10 = .ok (.invokevirtual 25, 3) := by decide +kernel
theorem dX2_remember_13 : decode cX2_remember 13 = .ok (.astore_n 2, 1) := by decide +kernel
theorem dX2_remember_14 : decode cX2_remember 14 = .ok (.aload_n 2, 1) := by decide +kernel
theorem dX2_remember_15 : decode cX2_remember 15 = .ok (.ifnull 8, 3) := by decide +kernel
theorem dX2_remember_18 : decode cX2_remember 18 = .ok (.aload_n 2, 1) := by decide +kernel
theorem dX2_remember_19 : decode cX2_remember 19 = .ok (.aload_n 1, 1) := by decide +kernel
theorem dX2_remember_20 : decode cX2_remember 20 = .ok (.invokevirtual 29, 3) := by decide +kernel
theorem dX2_remember_23 : decode cX2_remember 23 = .ok (.aload_n 0, 1) := by decide +kernel
theorem dX2_remember_24 : decode cX2_remember 24 = .ok (.getfield 22, 3) := by decide +kernel
theorem dX2_remember_27 : decode cX2_remember 27 = .ok (.bipush 14, 2) := by decide +kernel
theorem dX2_remember_29 : decode cX2_remember 29 = .ok (.if_icmp .ge 16, 3) := by decide +kernel
theorem dX2_remember_32 : decode cX2_remember 32 = .ok (.aload_n 0, 1) := by decide +kernel
theorem dX2_remember_33 : decode cX2_remember 33 = .ok (.dup, 1) := by decide +kernel
theorem dX2_remember_34 : decode cX2_remember 34 = .ok (.getfield 22, 3) := by decide +kernel
theorem dX2_remember_37 : decode cX2_remember 37 = .ok (.iconst 1, 1) := by decide +kernel
theorem dX2_remember_38 : decode cX2_remember 38 = .ok (.iadd, 1) := by decide +kernel
theorem dX2_remember_39 : decode cX2_remember 39 = .ok (.putfield 22, 3) := by decide +kernel
theorem dX2_remember_42 : decode cX2_remember 42 = .ok (.goto 16, 3) := by decide +kernel
theorem dX2_remember_45 : decode cX2_remember 45 = .ok (.aload_n 0, 1) := by decide +kernel
theorem dX2_remember_46 : decode cX2_remember 46 = .ok (.aload_n 0, 1) := by decide +kernel
theorem dX2_remember_47 : decode cX2_remember 47 = .ok (.getfield 18, 3) := by decide +kernel
theorem dX2_remember_50 : decode cX2_remember 50 = .ok (.iconst 1, 1) := by decide +kernel
theorem dX2_remember_51 : decode cX2_remember 51 = .ok (.iadd, 1) := by decide +kernel
theorem dX2_remember_52 : decode cX2_remember 52 = .ok (.bipush 14, 2) := by decide +kernel
theorem dX2_remember_54 : decode cX2_remember 54 = .ok (.irem, 1) := by decide +kernel
theorem dX2_remember_55 : decode cX2_remember 55 = .ok (.putfield 18, 3) := by decide +kernel
theorem dX2_remember_58 : decode cX2_remember 58 = .ok (.return_, 1) := by decide +kernel
set_option maxRecDepth 20000 in
theorem ggX2_takeBack_X2_stateAt : GoodIn wsX2_takeBack wsX2_stateAt := goodIn_r _ [7, 8, 65, 66, 67] (by decide +kernel) (by decide +kernel)
set_option maxRecDepth 20000 in
theorem gX2_takeBack_X2_stateAt : GoodIn wsX2_takeBack (wsV RX2 25 RX2 yX2_stateAt wsX2_stateAt) := goodIn_app (goodIn_of _ (by decide +kernel)) ggX2_takeBack_X2_stateAt
set_option maxRecDepth 20000 in
theorem ggX2_takeBack_X4_become : GoodIn wsX2_takeBack wsX4_become := goodIn_r _ [13, 14, 15, 16, 17, 18, 19, 20, 21, 22, 23, 12, 24, 25, 26, 27, 28, 29, 30, 31, 32, 33, 34, 35, 36, 37, 38, 39, 40, 41, 42, 43, 44, 45, 46, 47, 48, 49, 50, 51, 52, 53, 54, 55, 56, 57, 58, 59, 60, 61, 62, 63, 64, 68, 69, 70, 71, 72, 73, 74, 75, 76, 77] (by decide +kernel) (by decide +kernel)
set_option maxRecDepth 20000 in
theorem gX2_takeBack_X4_become : GoodIn wsX2_takeBack (wsV RX2 29 RX4 yX4_become wsX4_become) := goodIn_app (goodIn_of _ (by decide +kernel)) ggX2_takeBack_X4_become
theorem dX2_takeBack_0 : decode cX2_takeBack 0 = .ok (.aload_n 0, 1) := by decide +kernel
theorem dX2_takeBack_1 : decode cX2_takeBack 1 = .ok (.dup, 1) := by decide +kernel
theorem dX2_takeBack_2 : decode cX2_takeBack 2 = .ok (.getfield 22, 3) := by decide +kernel
theorem dX2_takeBack_5 : decode cX2_takeBack 5 = .ok (.iconst 1, 1) := by decide +kernel
theorem dX2_takeBack_6 : decode cX2_takeBack 6 = .ok (.isub, 1) := by decide +kernel
theorem dX2_takeBack_7 : decode cX2_takeBack 7 = .ok (.putfield 22, 3) := by decide +kernel
theorem dX2_takeBack_10 : decode cX2_takeBack 10 = .ok (.aload_n 0, 1) := by decide +kernel
theorem dX2_takeBack_11 : decode cX2_takeBack 11 = .ok (.aload_n 0, 1) := by decide +kernel
theorem dX2_takeBack_12 : decode cX2_takeBack 12 = .ok (.getfield 18, 3) := by decide +kernel
theorem dX2_takeBack_15 : decode cX2_takeBack 15 = .ok (.aload_n 0, 1) := by decide +kernel
theorem dX2_takeBack_16 : decode cX2_takeBack 16 = .ok (.getfield 22, 3) := by decide +kernel
theorem dX2_takeBack_19 : decode cX2_takeBack 19 = .ok (.iadd, 1) := by decide +kernel
theorem dX2_takeBack_20 : decode cX2_takeBack 20 = .ok (.invokevirtual 25, 3) := by decide +kernel
theorem dX2_takeBack_23 : decode cX2_takeBack 23 = .ok (.astore_n 2, 1) := by decide +kernel
theorem dX2_takeBack_24 : decode cX2_takeBack 24 = .ok (.aload_n 2, 1) := by decide +kernel
theorem dX2_takeBack_25 : decode cX2_takeBack 25 = .ok (.ifnull 8, 3) := by decide +kernel
theorem dX2_takeBack_28 : decode cX2_takeBack 28 = .ok (.aload_n 1, 1) := by decide +kernel
theorem dX2_takeBack_29 : decode cX2_takeBack 29 = .ok (.aload_n 2, 1) := by decide +kernel
theorem dX2_takeBack_30 : decode cX2_takeBack 30 = .ok (.invokevirtual 29, 3) := by decide +kernel
theorem dX2_takeBack_33 : decode cX2_takeBack 33 = .ok (.return_, 1) := by decide +kernel
theorem dX2_forgetAll_0 : decode cX2_forgetAll 0 = .ok (.aload_n 0, 1) := by decide +kernel
theorem dX2_forgetAll_1 : decode cX2_forgetAll 1 = .ok (.iconst 0, 1) := by decide +kernel
theorem dX2_forgetAll_2 : decode cX2_forgetAll 2 = .ok (.putfield 18, 3) := by decide +kernel
theorem dX2_forgetAll_5 : decode cX2_forgetAll 5 = .ok (.aload_n 0, 1) := by decide +kernel
theorem dX2_forgetAll_6 : decode cX2_forgetAll 6 = .ok (.iconst 0, 1) := by decide +kernel
theorem dX2_forgetAll_7 : decode cX2_forgetAll 7 = .ok (.putfield 22, 3) := by decide +kernel
theorem dX2_forgetAll_10 : decode cX2_forgetAll 10 = .ok (.return_, 1) := by decide +kernel
theorem dX3_init_0 : decode cX3_init 0 = .ok (.aload_n 0, 1) := by decide +kernel
theorem dX3_init_1 : decode cX3_init 1 = .ok (.invokespecial 3, 3) := by decide +kernel
theorem dX3_init_4 : decode cX3_init 4 = .ok (.aload_n 0, 1) := by decide +kernel
theorem dX3_init_5 : decode cX3_init 5 = .ok (.iconst 5, 1) := by decide +kernel
theorem dX3_init_6 : decode cX3_init 6 = .ok (.putfield 9, 3) := by decide +kernel
theorem dX3_init_9 : decode cX3_init 9 = .ok (.return_, 1) := by decide +kernel
theorem dX3_set_0 : decode cX3_set 0 = .ok (.aload_n 0, 1) := by decide +kernel
theorem dX3_set_1 : decode cX3_set 1 = .ok (.iload_n 1, 1) := by decide +kernel
theorem dX3_set_2 : decode cX3_set 2 = .ok (.putfield 9, 3) := by decide +kernel
theorem dX3_set_5 : decode cX3_set 5 = .ok (.aload_n 0, 1) := by decide +kernel
theorem dX3_set_6 : decode cX3_set 6 = .ok (.iload_n 2, 1) := by decide +kernel
theorem dX3_set_7 : decode cX3_set 7 = .ok (.putfield 15, 3) := by decide +kernel
theorem dX3_set_10 : decode cX3_set 10 = .ok (.aload_n 0, 1) := by decide +kernel
theorem dX3_set_11 : decode cX3_set 11 = .ok (.iload_n 3, 1) := by decide +kernel
theorem dX3_set_12 : decode cX3_set 12 = .ok (.putfield 18, 3) := by decide +kernel
theorem dX3_set_15 : decode cX3_set 15 = .ok (.aload_n 0, 1) := by decide +kernel
theorem dX3_set_16 : decode cX3_set 16 = .ok (.iload 4, 2) := by decide +kernel
theorem dX3_set_18 : decode cX3_set 18 = .ok (.putfield 21, 3) := by decide +kernel
theorem dX3_set_21 : decode cX3_set 21 = .ok (.return_, 1) := by decide +kernel
set_option maxRecDepth 20000 in
theorem ggX3_become_X3_set : GoodIn wsX3_become wsX3_set := goodIn_r _ [9, 1, 2, 3, 4, 10, 11, 12, 13] (by decide +kernel) (by decide +kernel)
set_option maxRecDepth 20000 in
theorem gX3_become_X3_set : GoodIn wsX3_become (wsV RX3 24 RX3 yX3_set wsX3_set) := goodIn_app (goodIn_of _ (by decide +kernel)) ggX3_become_X3_set
theorem dX3_become_0 : decode cX3_become 0 = .ok (.aload_n 0, 1) := by decide +kernel
theorem dX3_become_1 : decode cX3_become 1 = .ok (.aload_n 1, 1) := by decide +kernel
theorem dX3_become_2 : decode cX3_become 2 = .ok (.getfield 9, 3) := by decide +kernel
theorem dX3_become_5 : decode cX3_become 5 = .ok (.aload_n 1, 1) := by decide +kernel
theorem dX3_become_6 : decode cX3_become 6 = .ok (.getfield 15, 3) := by decide +kernel
theorem dX3_become_9 : decode cX3_become 9 = .ok (.aload_n 1, 1) := by decide +kernel
theorem dX3_become_10 : decode cX3_become 10 = .ok (.getfield 18, 3) := by decide +kernel
theorem dX3_become_13 : decode cX3_become 13 = .ok (.aload_n 1, 1) := by decide +kernel
theorem dX3_become_14 : decode cX3_become 14 = .ok (.getfield 21, 3) := by decide +kernel
theorem dX3_become_17 : decode cX3_become 17 = .ok (.invokevirtual 24, 3) := by decide +kernel
theorem dX3_become_20 : decode cX3_become 20 = .ok (.return_, 1) := by decide +kernel
theorem dX3_exchange_0 : decode cX3_exchange 0 = .ok (.aload_n 0, 1) := by decide +kernel
theorem dX3_exchange_1 : decode cX3_exchange 1 = .ok (.getfield 21, 3) := by decide +kernel
theorem dX3_exchange_4 : decode cX3_exchange 4 = .ok (.istore_n 3, 1) := by decide +kernel
theorem dX3_exchange_5 : decode cX3_exchange 5 = .ok (.iload_n 1, 1) := by decide +kernel
theorem dX3_exchange_6 : decode cX3_exchange 6 = .ok (.tableswitch 65 0 2 #[26, 39, 52], 26) := by decide +kernel
theorem dX3_exchange_32 : decode cX3_exchange 32 = .ok (.aload_n 0, 1) := by decide +kernel
theorem dX3_exchange_33 : decode cX3_exchange 33 = .ok (.getfield 9, 3) := by decide +kernel
theorem dX3_exchange_36 : decode cX3_exchange 36 = .ok (.istore_n 3, 1) := by decide +kernel
theorem dX3_exchange_37 : decode cX3_exchange 37 = .ok (.aload_n 0, 1) := by decide +kernel
theorem dX3_exchange_38 : decode cX3_exchange 38 = .ok (.iload_n 2, 1) := by decide +kernel
theorem dX3_exchange_39 : decode cX3_exchange 39 = .ok (.putfield 9, 3) := by decide +kernel
theorem dX3_exchange_42 : decode cX3_exchange 42 = .ok (.goto 34, 3) := by decide +kernel
theorem dX3_exchange_45 : decode cX3_exchange 45 = .ok (.aload_n 0, 1) := by decide +kernel
theorem dX3_exchange_46 : decode cX3_exchange 46 = .ok (.getfield 15, 3) := by decide +kernel
theorem dX3_exchange_49 : decode cX3_exchange 49 = .ok (.istore_n 3, 1) := by decide +kernel
theorem dX3_exchange_50 : decode cX3_exchange 50 = .ok (.aload_n 0, 1) := by decide +kernel
theorem dX3_exchange_51 : decode cX3_exchange 51 = .ok (.iload_n 2, 1) := by decide +kernel
theorem dX3_exchange_52 : decode cX3_exchange 52 = .ok (.putfield 15, 3) := by decide +kernel
theorem dX3_exchange_55 : decode cX3_exchange 55 = .ok (.goto 21, 3) := by decide +kernel
theorem dX3_exchange_58 : decode cX3_exchange 58 = .ok (.aload_n 0, 1) := by decide +kernel
theorem dX3_exchange_59 : decode cX3_exchange 59 = .ok (.getfield 18, 3) := by decide +kernel
theorem dX3_exchange_62 : decode cX3_exchange 62 = .ok (.istore_n 3, 1) := by decide +kernel
theorem dX3_exchange_63 : decode cX3_exchange 63 = .ok (.aload_n 0, 1) := by decide +kernel
theorem dX3_exchange_64 : decode cX3_exchange 64 = .ok (.iload_n 2, 1) := by decide +kernel
theorem dX3_exchange_65 : decode cX3_exchange 65 = .ok (.putfield 18, 3) := by decide +kernel
theorem dX3_exchange_68 : decode cX3_exchange 68 = .ok (.goto 8, 3) := by decide +kernel
theorem dX3_exchange_71 : decode cX3_exchange 71 = .ok (.aload_n 0, 1) := by decide +kernel
theorem dX3_exchange_72 : decode cX3_exchange 72 = .ok (.iload_n 2, 1) := by decide +kernel
theorem dX3_exchange_73 : decode cX3_exchange 73 = .ok (.putfield 21, 3) := by decide +kernel
theorem dX3_exchange_76 : decode cX3_exchange 76 = .ok (.iload_n 3, 1) := by decide +kernel
theorem dX3_exchange_77 : decode cX3_exchange 77 = .ok (.ireturn, 1) := by decide +kernel
set_option maxRecDepth 20000 in
theorem ggX3_angleAt_X7_remainder : GoodIn wsX3_angleAt wsX7_remainder := goodIn_r _ [4] (by decide +kernel) (by decide +kernel)
set_option maxRecDepth 20000 in
theorem gX3_angleAt_X7_remainder_n28 : GoodIn wsX3_angleAt (wsX7_remainder) := ggX3_angleAt_X7_remainder
theorem dX3_angleAt_0 : decode cX3_angleAt 0 = .ok (.aload_n 0, 1) := by decide +kernel
theorem dX3_angleAt_1 : decode cX3_angleAt 1 = .ok (.getfield 21, 3) := by decide +kernel
theorem dX3_angleAt_4 : decode cX3_angleAt 4 = .ok (.lload_n 2, 1) := by decide +kernel
theorem dX3_angleAt_5 : decode cX3_angleAt 5 = .ok (.iload_n 1, 1) := by decide +kernel
theorem dX3_angleAt_6 : decode cX3_angleAt 6 = .ok (.invokestatic 28, 3) := by decide +kernel
theorem dX3_angleAt_9 : decode cX3_angleAt 9 = .ok (.iadd, 1) := by decide +kernel
theorem dX3_angleAt_10 : decode cX3_angleAt 10 = .ok (.i2l, 1) := by decide +kernel
theorem dX3_angleAt_11 : decode cX3_angleAt 11 = .ok (.iload_n 1, 1) := by decide +kernel
theorem dX3_angleAt_12 : decode cX3_angleAt 12 = .ok (.invokestatic 28, 3) := by decide +kernel
theorem dX3_angleAt_15 : decode cX3_angleAt 15 = .ok (.ireturn, 1) := by decide +kernel
set_option maxRecDepth 20000 in
theorem ggX3_radiusAt_X7_remainder : GoodIn wsX3_radiusAt wsX7_remainder := goodIn_r _ [10] (by decide +kernel) (by decide +kernel)
set_option maxRecDepth 20000 in
theorem gX3_radiusAt_X7_remainder_n28 : GoodIn wsX3_radiusAt (wsX7_remainder) := ggX3_radiusAt_X7_remainder
set_option maxRecDepth 20000 in
theorem ggX3_radiusAt_X7_quotient : GoodIn wsX3_radiusAt wsX7_quotient := goodIn_r _ [12] (by decide +kernel) (by decide +kernel)
set_option maxRecDepth 20000 in
theorem gX3_radiusAt_X7_quotient_n38 : GoodIn wsX3_radiusAt (wsX7_quotient) := ggX3_radiusAt_X7_quotient
theorem dX3_radiusAt_0 : decode cX3_radiusAt 0 = .ok (.lload_n 1, 1) := by decide +kernel
theorem dX3_radiusAt_1 : decode cX3_radiusAt 1 = .ok (.aload_n 0, 1) := by decide +kernel
theorem dX3_radiusAt_2 : decode cX3_radiusAt 2 = .ok (.getfield 9, 3) := by decide +kernel
theorem dX3_radiusAt_5 : decode cX3_radiusAt 5 = .ok (.invokestatic 28, 3) := by decide +kernel
theorem dX3_radiusAt_8 : decode cX3_radiusAt 8 = .ok (.istore_n 3, 1) := by decide +kernel
theorem dX3_radiusAt_9 : decode cX3_radiusAt 9 = .ok (.aload_n 0, 1) := by decide +kernel
theorem dX3_radiusAt_10 : decode cX3_radiusAt 10 = .ok (.getfield 15, 3) := by decide +kernel
theorem dX3_radiusAt_13 : decode cX3_radiusAt 13 = .ok (.ifCond .ne 14, 3) := by decide +kernel
theorem dX3_radiusAt_16 : decode cX3_radiusAt 16 = .ok (.sipush 200, 3) := by decide +kernel
theorem dX3_radiusAt_19 : decode cX3_radiusAt 19 = .ok (.aload_n 0, 1) := by decide +kernel
theorem dX3_radiusAt_20 : decode cX3_radiusAt 20 = .ok (.getfield 9, 3) := by decide +kernel
theorem dX3_radiusAt_23 : decode cX3_radiusAt 23 = .ok (.isub, 1) := by decide +kernel
theorem dX3_radiusAt_24 : decode cX3_radiusAt 24 = .ok (.goto 11, 3) := by decide +kernel
theorem dX3_radiusAt_27 : decode cX3_radiusAt 27 = .ok (.sipush 200, 3) := by decide +kernel
theorem dX3_radiusAt_30 : decode cX3_radiusAt 30 = .ok (.aload_n 0, 1) := by decide +kernel
theorem dX3_radiusAt_31 : decode cX3_radiusAt 31 = .ok (.getfield 9, 3) := by decide +kernel
theorem dX3_radiusAt_34 : decode cX3_radiusAt 34 = .ok (.iadd, 1) := by decide +kernel
theorem dX3_radiusAt_35 : decode cX3_radiusAt 35 = .ok (.istore 4, 2) := by decide +kernel
theorem dX3_radiusAt_37 : decode cX3_radiusAt 37 = .ok (.iload 4, 2) := by decide +kernel
theorem dX3_radiusAt_39 : decode cX3_radiusAt 39 = .ok (.aload_n 0, 1) := by decide +kernel
theorem dX3_radiusAt_40 : decode cX3_radiusAt 40 = .ok (.getfield 18, 3) := by decide +kernel
theorem dX3_radiusAt_43 : decode cX3_radiusAt 43 = .ok (.iconst 2, 1) := by decide +kernel
theorem dX3_radiusAt_44 : decode cX3_radiusAt 44 = .ok (.iconst 2, 1) := by decide +kernel
theorem dX3_radiusAt_45 : decode cX3_radiusAt 45 = .ok (.iload_n 3, 1) := by decide +kernel
theorem dX3_radiusAt_46 : decode cX3_radiusAt 46 = .ok (.imul, 1) := by decide +kernel
theorem dX3_radiusAt_47 : decode cX3_radiusAt 47 = .ok (.aload_n 0, 1) := by decide +kernel
theorem dX3_radiusAt_48 : decode cX3_radiusAt 48 = .ok (.getfield 9, 3) := by decide +kernel
theorem dX3_radiusAt_51 : decode cX3_radiusAt 51 = .ok (.isub, 1) := by decide +kernel
theorem dX3_radiusAt_52 : decode cX3_radiusAt 52 = .ok (.invokestatic 32, 3) := by decide +kernel
theorem dX3_radiusAt_55 : decode cX3_radiusAt 55 = .ok (.imul, 1) := by decide +kernel
theorem dX3_radiusAt_56 : decode cX3_radiusAt 56 = .ok (.aload_n 0, 1) := by decide +kernel
theorem dX3_radiusAt_57 : decode cX3_radiusAt 57 = .ok (.getfield 9, 3) := by decide +kernel
theorem dX3_radiusAt_60 : decode cX3_radiusAt 60 = .ok (.isub, 1) := by decide +kernel
theorem dX3_radiusAt_61 : decode cX3_radiusAt 61 = .ok (.imul, 1) := by decide +kernel
theorem dX3_radiusAt_62 : decode cX3_radiusAt 62 = .ok (.i2l, 1) := by decide +kernel
theorem dX3_radiusAt_63 : decode cX3_radiusAt 63 = .ok (.aload_n 0, 1) := by decide +kernel
theorem dX3_radiusAt_64 : decode cX3_radiusAt 64 = .ok (.getfield 9, 3) := by decide +kernel
theorem dX3_radiusAt_67 : decode cX3_radiusAt 67 = .ok (.i2l, 1) := by decide +kernel
theorem dX3_radiusAt_68 : decode cX3_radiusAt 68 = .ok (.invokestatic 38, 3) := by decide +kernel
theorem dX3_radiusAt_71 : decode cX3_radiusAt 71 = .ok (.l2i, 1) := by decide +kernel
theorem dX3_radiusAt_72 : decode cX3_radiusAt 72 = .ok (.iadd, 1) := by decide +kernel
theorem dX3_radiusAt_73 : decode cX3_radiusAt 73 = .ok (.ireturn, 1) := by decide +kernel
set_option maxRecDepth 20000 in
theorem ggX3_leastRadius_X3_radiusAt : GoodIn wsX3_leastRadius wsX3_radiusAt := goodIn_r _ [10, 1, 11, 12, 13, 14, 4, 15, 16, 17, 18, 19, 20, 21, 22, 23, 24] (by decide +kernel) (by decide +kernel)
set_option maxRecDepth 20000 in
theorem gX3_leastRadius_X3_radiusAt : GoodIn wsX3_leastRadius (wsV RX3 42 RX3 yX3_radiusAt wsX3_radiusAt) := goodIn_app (goodIn_of _ (by decide +kernel)) ggX3_leastRadius_X3_radiusAt
theorem dX3_leastRadius_0 : decode cX3_leastRadius 0 = .ok (.aload_n 0, 1) := by decide +kernel
theorem dX3_leastRadius_1 : decode cX3_leastRadius 1 = .ok (.lconst 0, 1) := by decide +kernel
theorem dX3_leastRadius_2 : decode cX3_leastRadius 2 = .ok (.invokevirtual 42, 3) := by decide +kernel
theorem dX3_leastRadius_5 : decode cX3_leastRadius 5 = .ok (.istore_n 1, 1) := by decide +kernel
theorem dX3_leastRadius_6 : decode cX3_leastRadius 6 = .ok (.iconst 1, 1) := by decide +kernel
theorem dX3_leastRadius_7 : decode cX3_leastRadius 7 = .ok (.istore_n 2, 1) := by decide +kernel
theorem dX3_leastRadius_8 : decode cX3_leastRadius 8 = .ok (.iload_n 2, 1) := by decide +kernel
theorem dX3_leastRadius_9 : decode cX3_leastRadius 9 = .ok (.aload_n 0, 1) := by decide +kernel
theorem dX3_leastRadius_10 : decode cX3_leastRadius 10 = .ok (.getfield 9, 3) := by decide +kernel
theorem dX3_leastRadius_13 : decode cX3_leastRadius 13 = .ok (.if_icmp .ge 20, 3) := by decide +kernel
theorem dX3_leastRadius_16 : decode cX3_leastRadius 16 = .ok (.iload_n 1, 1) := by decide +kernel
theorem dX3_leastRadius_17 : decode cX3_leastRadius 17 = .ok (.aload_n 0, 1) := by decide +kernel
theorem dX3_leastRadius_18 : decode cX3_leastRadius 18 = .ok (.iload_n 2, 1) := by decide +kernel
theorem dX3_leastRadius_19 : decode cX3_leastRadius 19 = .ok (.i2l, 1) := by decide +kernel
theorem dX3_leastRadius_20 : decode cX3_leastRadius 20 = .ok (.invokevirtual 42, 3) := by decide +kernel
theorem dX3_leastRadius_23 : decode cX3_leastRadius 23 = .ok (.invokestatic 46, 3) := by decide +kernel
theorem dX3_leastRadius_26 : decode cX3_leastRadius 26 = .ok (.istore_n 1, 1) := by decide +kernel
theorem dX3_leastRadius_27 : decode cX3_leastRadius 27 = .ok (.iinc 2 1, 3) := by decide +kernel
theorem dX3_leastRadius_30 : decode cX3_leastRadius 30 = .ok (.goto (-22), 3) := by decide +kernel
theorem dX3_leastRadius_33 : decode cX3_leastRadius 33 = .ok (.iload_n 1, 1) := by decide +kernel
theorem dX3_leastRadius_34 : decode cX3_leastRadius 34 = .ok (.ireturn, 1) := by decide +kernel
set_option maxRecDepth 20000 in
theorem ggX3_greatestRadius_X3_radiusAt : GoodIn wsX3_greatestRadius wsX3_radiusAt := goodIn_r _ [10, 1, 11, 12, 13, 14, 4, 15, 16, 17, 18, 19, 20, 21, 22, 23, 24] (by decide +kernel) (by decide +kernel)
set_option maxRecDepth 20000 in
theorem gX3_greatestRadius_X3_radiusAt : GoodIn wsX3_greatestRadius (wsV RX3 42 RX3 yX3_radiusAt wsX3_radiusAt) := goodIn_app (goodIn_of _ (by decide +kernel)) ggX3_greatestRadius_X3_radiusAt
theorem dX3_greatestRadius_0 : decode cX3_greatestRadius 0 = .ok (.aload_n 0, 1) := by decide +kernel
theorem dX3_greatestRadius_1 : decode cX3_greatestRadius 1 = .ok (.lconst 0, 1) := by decide +kernel
theorem dX3_greatestRadius_2 : decode cX3_greatestRadius 2 = .ok (.invokevirtual 42, 3) := by decide +kernel
theorem dX3_greatestRadius_5 : decode cX3_greatestRadius 5 = .ok (.istore_n 1, 1) := by decide +kernel
theorem dX3_greatestRadius_6 : decode cX3_greatestRadius 6 = .ok (.iconst 1, 1) := by decide +kernel
theorem dX3_greatestRadius_7 : decode cX3_greatestRadius 7 = .ok (.istore_n 2, 1) := by decide +kernel
theorem dX3_greatestRadius_8 : decode cX3_greatestRadius 8 = .ok (.iload_n 2, 1) := by decide +kernel
theorem dX3_greatestRadius_9 : decode cX3_greatestRadius 9 = .ok (.aload_n 0, 1) := by decide +kernel
theorem dX3_greatestRadius_10 : decode cX3_greatestRadius 10 = .ok (.getfield 9, 3) := by decide +kernel
theorem dX3_greatestRadius_13 : decode cX3_greatestRadius 13 = .ok (.if_icmp .ge 20, 3) := by decide +kernel
theorem dX3_greatestRadius_16 : decode cX3_greatestRadius 16 = .ok (.iload_n 1, 1) := by decide +kernel
theorem dX3_greatestRadius_17 : decode cX3_greatestRadius 17 = .ok (.aload_n 0, 1) := by decide +kernel
theorem dX3_greatestRadius_18 : decode cX3_greatestRadius 18 = .ok (.iload_n 2, 1) := by decide +kernel
theorem dX3_greatestRadius_19 : decode cX3_greatestRadius 19 = .ok (.i2l, 1) := by decide +kernel
theorem dX3_greatestRadius_20 : decode cX3_greatestRadius 20 = .ok (.invokevirtual 42, 3) := by decide +kernel
theorem dX3_greatestRadius_23 : decode cX3_greatestRadius 23 = .ok (.invokestatic 50, 3) := by decide +kernel
theorem dX3_greatestRadius_26 : decode cX3_greatestRadius 26 = .ok (.istore_n 1, 1) := by decide +kernel
theorem dX3_greatestRadius_27 : decode cX3_greatestRadius 27 = .ok (.iinc 2 1, 3) := by decide +kernel
theorem dX3_greatestRadius_30 : decode cX3_greatestRadius 30 = .ok (.goto (-22), 3) := by decide +kernel
theorem dX3_greatestRadius_33 : decode cX3_greatestRadius 33 = .ok (.iload_n 1, 1) := by decide +kernel
theorem dX3_greatestRadius_34 : decode cX3_greatestRadius 34 = .ok (.ireturn, 1) := by decide +kernel
set_option maxRecDepth 20000 in
theorem ggX3_period_X3_turns : GoodIn wsX3_period wsX3_turns := goodIn_r _ [5, 6, 7, 8, 9, 10, 11, 12, 13, 14, 15] (by decide +kernel) (by decide +kernel)
set_option maxRecDepth 20000 in
theorem gX3_period_X3_turns : GoodIn wsX3_period (wsV RX3 53 RX3 yX3_turns wsX3_turns) := goodIn_app (goodIn_of _ (by decide +kernel)) ggX3_period_X3_turns
theorem dX3_period_0 : decode cX3_period 0 = .ok (.iload_n 1, 1) := by decide +kernel
theorem dX3_period_1 : decode cX3_period 1 = .ok (.aload_n 0, 1) := by decide +kernel
theorem dX3_period_2 : decode cX3_period 2 = .ok (.iload_n 1, 1) := by decide +kernel
theorem dX3_period_3 : decode cX3_period 3 = .ok (.invokevirtual 53, 3) := by decide +kernel
theorem dX3_period_6 : decode cX3_period 6 = .ok (.imul, 1) := by decide +kernel
theorem dX3_period_7 : decode cX3_period 7 = .ok (.ireturn, 1) := by decide +kernel
set_option maxRecDepth 20000 in
theorem ggX3_turns_X7_commonDivisor : GoodIn wsX3_turns wsX7_commonDivisor := goodIn_r _ [4] (by decide +kernel) (by decide +kernel)
set_option maxRecDepth 20000 in
theorem gX3_turns_X7_commonDivisor_n56 : GoodIn wsX3_turns (wsX7_commonDivisor) := ggX3_turns_X7_commonDivisor
set_option maxRecDepth 20000 in
theorem ggX3_turns_X7_quotient : GoodIn wsX3_turns wsX7_quotient := goodIn_r _ [6] (by decide +kernel) (by decide +kernel)
set_option maxRecDepth 20000 in
theorem gX3_turns_X7_quotient_n38 : GoodIn wsX3_turns (wsX7_quotient) := ggX3_turns_X7_quotient
theorem dX3_turns_0 : decode cX3_turns 0 = .ok (.aload_n 0, 1) := by decide +kernel
theorem dX3_turns_1 : decode cX3_turns 1 = .ok (.getfield 9, 3) := by decide +kernel
theorem dX3_turns_4 : decode cX3_turns 4 = .ok (.i2l, 1) := by decide +kernel
theorem dX3_turns_5 : decode cX3_turns 5 = .ok (.iload_n 1, 1) := by decide +kernel
theorem dX3_turns_6 : decode cX3_turns 6 = .ok (.i2l, 1) := by decide +kernel
theorem dX3_turns_7 : decode cX3_turns 7 = .ok (.aload_n 0, 1) := by decide +kernel
theorem dX3_turns_8 : decode cX3_turns 8 = .ok (.getfield 9, 3) := by decide +kernel
theorem dX3_turns_11 : decode cX3_turns 11 = .ok (.i2l, 1) := by decide +kernel
theorem dX3_turns_12 : decode cX3_turns 12 = .ok (.invokestatic 56, 3) := by decide +kernel
theorem dX3_turns_15 : decode cX3_turns 15 = .ok (.invokestatic 38, 3) := by decide +kernel
theorem dX3_turns_18 : decode cX3_turns 18 = .ok (.l2i, 1) := by decide +kernel
theorem dX3_turns_19 : decode cX3_turns 19 = .ok (.ireturn, 1) := by decide +kernel
set_option maxRecDepth 20000 in
theorem ggX3_lobes_X7_commonDivisor : GoodIn wsX3_lobes wsX7_commonDivisor := goodIn_r _ [4] (by decide +kernel) (by decide +kernel)
set_option maxRecDepth 20000 in
theorem gX3_lobes_X7_commonDivisor_n56 : GoodIn wsX3_lobes (wsX7_commonDivisor) := ggX3_lobes_X7_commonDivisor
set_option maxRecDepth 20000 in
theorem ggX3_lobes_X7_quotient : GoodIn wsX3_lobes wsX7_quotient := goodIn_r _ [6] (by decide +kernel) (by decide +kernel)
set_option maxRecDepth 20000 in
theorem gX3_lobes_X7_quotient_n38 : GoodIn wsX3_lobes (wsX7_quotient) := ggX3_lobes_X7_quotient
theorem dX3_lobes_0 : decode cX3_lobes 0 = .ok (.iload_n 1, 1) := by decide +kernel
theorem dX3_lobes_1 : decode cX3_lobes 1 = .ok (.i2l, 1) := by decide +kernel
theorem dX3_lobes_2 : decode cX3_lobes 2 = .ok (.iload_n 1, 1) := by decide +kernel
theorem dX3_lobes_3 : decode cX3_lobes 3 = .ok (.i2l, 1) := by decide +kernel
theorem dX3_lobes_4 : decode cX3_lobes 4 = .ok (.aload_n 0, 1) := by decide +kernel
theorem dX3_lobes_5 : decode cX3_lobes 5 = .ok (.getfield 9, 3) := by decide +kernel
theorem dX3_lobes_8 : decode cX3_lobes 8 = .ok (.i2l, 1) := by decide +kernel
theorem dX3_lobes_9 : decode cX3_lobes 9 = .ok (.invokestatic 56, 3) := by decide +kernel
theorem dX3_lobes_12 : decode cX3_lobes 12 = .ok (.invokestatic 38, 3) := by decide +kernel
theorem dX3_lobes_15 : decode cX3_lobes 15 = .ok (.l2i, 1) := by decide +kernel
theorem dX3_lobes_16 : decode cX3_lobes 16 = .ok (.ireturn, 1) := by decide +kernel
set_option maxRecDepth 20000 in
theorem ggX3_firstStepAt_X7_remainder : GoodIn wsX3_firstStepAt wsX7_remainder := goodIn_r _ [4] (by decide +kernel) (by decide +kernel)
set_option maxRecDepth 20000 in
theorem gX3_firstStepAt_X7_remainder_n28 : GoodIn wsX3_firstStepAt (wsX7_remainder) := ggX3_firstStepAt_X7_remainder
set_option maxRecDepth 20000 in
theorem ggX3_firstStepAt_X3_turns : GoodIn wsX3_firstStepAt wsX3_turns := goodIn_r _ [9, 10, 11, 3, 12, 13, 14, 25, 26, 27, 28] (by decide +kernel) (by decide +kernel)
set_option maxRecDepth 20000 in
theorem gX3_firstStepAt_X3_turns : GoodIn wsX3_firstStepAt (wsV RX3 53 RX3 yX3_turns wsX3_turns) := goodIn_app (goodIn_of _ (by decide +kernel)) ggX3_firstStepAt_X3_turns
set_option maxRecDepth 20000 in
theorem ggX3_firstStepAt_X3_radiusAt : GoodIn wsX3_firstStepAt wsX3_radiusAt := goodIn_r _ [18, 10, 19, 20, 21, 22, 23, 24, 2, 3, 4, 13, 14, 25, 26, 27, 28] (by decide +kernel) (by decide +kernel)
set_option maxRecDepth 20000 in
theorem gX3_firstStepAt_X3_radiusAt : GoodIn wsX3_firstStepAt (wsV RX3 42 RX3 yX3_radiusAt wsX3_radiusAt) := goodIn_app (goodIn_of _ (by decide +kernel)) ggX3_firstStepAt_X3_radiusAt
theorem dX3_firstStepAt_0 : decode cX3_firstStepAt 0 = .ok (.iload_n 2, 1) := by decide +kernel
theorem dX3_firstStepAt_1 : decode cX3_firstStepAt 1 = .ok (.i2l, 1) := by decide +kernel
theorem dX3_firstStepAt_2 : decode cX3_firstStepAt 2 = .ok (.aload_n 0, 1) := by decide +kernel
theorem dX3_firstStepAt_3 : decode cX3_firstStepAt 3 = .ok (.getfield 21, 3) := by decide +kernel
theorem dX3_firstStepAt_6 : decode cX3_firstStepAt 6 = .ok (.i2l, 1) := by decide +kernel
theorem dX3_firstStepAt_7 : decode cX3_firstStepAt 7 = .ok (.lsub, 1) := by decide +kernel
theorem dX3_firstStepAt_8 : decode cX3_firstStepAt 8 = .ok (.iload_n 1, 1) := by decide +kernel
theorem dX3_firstStepAt_9 : decode cX3_firstStepAt 9 = .ok (.i2l, 1) := by decide +kernel
theorem dX3_firstStepAt_10 : decode cX3_firstStepAt 10 = .ok (.ladd, 1) := by decide +kernel
theorem dX3_firstStepAt_11 : decode cX3_firstStepAt 11 = .ok (.iload_n 1, 1) := by decide +kernel
theorem dX3_firstStepAt_12 : decode cX3_firstStepAt 12 = .ok (.invokestatic 28, 3) := by decide +kernel
theorem dX3_firstStepAt_15 : decode cX3_firstStepAt 15 = .ok (.istore 4, 2) := by decide +kernel
theorem dX3_firstStepAt_17 : decode cX3_firstStepAt 17 = .ok (.aload_n 0, 1) := by decide +kernel
theorem dX3_firstStepAt_18 : decode cX3_firstStepAt 18 = .ok (.iload_n 1, 1) := by decide +kernel
theorem dX3_firstStepAt_19 : decode cX3_firstStepAt 19 = .ok (.invokevirtual 53, 3) := by decide +kernel
theorem dX3_firstStepAt_22 : decode cX3_firstStepAt 22 = .ok (.istore 5, 2) := by decide +kernel
theorem dX3_firstStepAt_24 : decode cX3_firstStepAt 24 = .ok (.iconst 0, 1) := by decide +kernel
theorem dX3_firstStepAt_25 : decode cX3_firstStepAt 25 = .ok (.istore 6, 2) := by decide +kernel
theorem dX3_firstStepAt_27 : decode cX3_firstStepAt 27 = .ok (.iload 6, 2) := by decide +kernel
theorem dX3_firstStepAt_29 : decode cX3_firstStepAt 29 = .ok (.iload 5, 2) := by decide +kernel
theorem dX3_firstStepAt_31 : decode cX3_firstStepAt 31 = .ok (.if_icmp .ge 32, 3) := by decide +kernel
theorem dX3_firstStepAt_34 : decode cX3_firstStepAt 34 = .ok (.iload 4, 2) := by decide +kernel
theorem dX3_firstStepAt_36 : decode cX3_firstStepAt 36 = .ok (.iload 6, 2) := by decide +kernel
theorem dX3_firstStepAt_38 : decode cX3_firstStepAt 38 = .ok (.iload_n 1, 1) := by decide +kernel
theorem dX3_firstStepAt_39 : decode cX3_firstStepAt 39 = .ok (.imul, 1) := by decide +kernel
theorem dX3_firstStepAt_40 : decode cX3_firstStepAt 40 = .ok (.iadd, 1) := by decide +kernel
theorem dX3_firstStepAt_41 : decode cX3_firstStepAt 41 = .ok (.istore 7, 2) := by decide +kernel
theorem dX3_firstStepAt_43 : decode cX3_firstStepAt 43 = .ok (.aload_n 0, 1) := by decide +kernel
theorem dX3_firstStepAt_44 : decode cX3_firstStepAt 44 = .ok (.iload 7, 2) := by decide +kernel
theorem dX3_firstStepAt_46 : decode cX3_firstStepAt 46 = .ok (.i2l, 1) := by decide +kernel
theorem dX3_firstStepAt_47 : decode cX3_firstStepAt 47 = .ok (.invokevirtual 42, 3) := by decide +kernel
theorem dX3_firstStepAt_50 : decode cX3_firstStepAt 50 = .ok (.iload_n 3, 1) := by decide +kernel
theorem dX3_firstStepAt_51 : decode cX3_firstStepAt 51 = .ok (.if_icmp .ne 6, 3) := by decide +kernel
theorem dX3_firstStepAt_54 : decode cX3_firstStepAt 54 = .ok (.iload 7, 2) := by decide +kernel
theorem dX3_firstStepAt_56 : decode cX3_firstStepAt 56 = .ok (.ireturn, 1) := by decide +kernel
theorem dX3_firstStepAt_57 : decode cX3_firstStepAt 57 = .ok (.iinc 6 1, 3) := by decide +kernel
theorem dX3_firstStepAt_60 : decode cX3_firstStepAt 60 = .ok (.goto (-33), 3) := by decide +kernel
theorem dX3_firstStepAt_63 : decode cX3_firstStepAt 63 = .ok (.bipush (-9), 2) := by decide +kernel
theorem dX3_firstStepAt_65 : decode cX3_firstStepAt 65 = .ok (.ireturn, 1) := by decide +kernel
set_option maxRecDepth 20000 in
theorem ggX3_firstMeeting_X7_commonMultiple : GoodIn wsX3_firstMeeting wsX7_commonMultiple := goodIn_r _ [5, 6, 7, 4, 8, 9, 10, 11] (by decide +kernel) (by decide +kernel)
set_option maxRecDepth 20000 in
theorem gX3_firstMeeting_X7_commonMultiple_n59 : GoodIn wsX3_firstMeeting (wsX7_commonMultiple) := ggX3_firstMeeting_X7_commonMultiple
set_option maxRecDepth 20000 in
theorem ggX3_firstMeeting_X3_radiusAt : GoodIn wsX3_firstMeeting wsX3_radiusAt := goodIn_r _ [16, 2, 17, 18, 19, 20, 21, 22, 23, 4, 24, 10, 11, 25, 26, 27, 28] (by decide +kernel) (by decide +kernel)
set_option maxRecDepth 20000 in
theorem gX3_firstMeeting_X3_radiusAt : GoodIn wsX3_firstMeeting (wsV RX3 42 RX3 yX3_radiusAt wsX3_radiusAt) := goodIn_app (goodIn_of _ (by decide +kernel)) ggX3_firstMeeting_X3_radiusAt
theorem dX3_firstMeeting_0 : decode cX3_firstMeeting 0 = .ok (.aload_n 0, 1) := by decide +kernel
theorem dX3_firstMeeting_1 : decode cX3_firstMeeting 1 = .ok (.getfield 21, 3) := by decide +kernel
theorem dX3_firstMeeting_4 : decode cX3_firstMeeting 4 = .ok (.aload_n 1, 1) := by decide +kernel
theorem dX3_firstMeeting_5 : decode cX3_firstMeeting 5 = .ok (.getfield 21, 3) := by decide +kernel
theorem dX3_firstMeeting_8 : decode cX3_firstMeeting 8 = .ok (.if_icmp .eq 6, 3) := by decide +kernel
theorem dX3_firstMeeting_11 : decode cX3_firstMeeting 11 = .ok (.bipush (-9), 2) := by decide +kernel
theorem dX3_firstMeeting_13 : decode cX3_firstMeeting 13 = .ok (.ireturn, 1) := by decide +kernel
theorem dX3_firstMeeting_14 : decode cX3_firstMeeting 14 = .ok (.aload_n 0, 1) := by decide +kernel
theorem dX3_firstMeeting_15 : decode cX3_firstMeeting 15 = .ok (.getfield 9, 3) := by decide +kernel
theorem dX3_firstMeeting_18 : decode cX3_firstMeeting 18 = .ok (.i2l, 1) := by decide +kernel
theorem dX3_firstMeeting_19 : decode cX3_firstMeeting 19 = .ok (.aload_n 1, 1) := by decide +kernel
theorem dX3_firstMeeting_20 : decode cX3_firstMeeting 20 = .ok (.getfield 9, 3) := by decide +kernel
theorem dX3_firstMeeting_23 : decode cX3_firstMeeting 23 = .ok (.i2l, 1) := by decide +kernel
theorem dX3_firstMeeting_24 : decode cX3_firstMeeting 24 = .ok (.invokestatic 59, 3) := by decide +kernel
theorem dX3_firstMeeting_27 : decode cX3_firstMeeting 27 = .ok (.l2i, 1) := by decide +kernel
theorem dX3_firstMeeting_28 : decode cX3_firstMeeting 28 = .ok (.istore_n 2, 1) := by decide +kernel
theorem dX3_firstMeeting_29 : decode cX3_firstMeeting 29 = .ok (.iconst 0, 1) := by decide +kernel
theorem dX3_firstMeeting_30 : decode cX3_firstMeeting 30 = .ok (.istore_n 3, 1) := by decide +kernel
theorem dX3_firstMeeting_31 : decode cX3_firstMeeting 31 = .ok (.iload_n 3, 1) := by decide +kernel
theorem dX3_firstMeeting_32 : decode cX3_firstMeeting 32 = .ok (.iload_n 2, 1) := by decide +kernel
theorem dX3_firstMeeting_33 : decode cX3_firstMeeting 33 = .ok (.if_icmp .ge 26, 3) := by decide +kernel
theorem dX3_firstMeeting_36 : decode cX3_firstMeeting 36 = .ok (.aload_n 0, 1) := by decide +kernel
theorem dX3_firstMeeting_37 : decode cX3_firstMeeting 37 = .ok (.iload_n 3, 1) := by decide +kernel
theorem dX3_firstMeeting_38 : decode cX3_firstMeeting 38 = .ok (.i2l, 1) := by decide +kernel
theorem dX3_firstMeeting_39 : decode cX3_firstMeeting 39 = .ok (.invokevirtual 42, 3) := by decide +kernel
theorem dX3_firstMeeting_42 : decode cX3_firstMeeting 42 = .ok (.aload_n 1, 1) := by decide +kernel
theorem dX3_firstMeeting_43 : decode cX3_firstMeeting 43 = .ok (.iload_n 3, 1) := by decide +kernel
theorem dX3_firstMeeting_44 : decode cX3_firstMeeting 44 = .ok (.i2l, 1) := by decide +kernel
theorem dX3_firstMeeting_45 : decode cX3_firstMeeting 45 = .ok (.invokevirtual 42, 3) := by decide +kernel
theorem dX3_firstMeeting_48 : decode cX3_firstMeeting 48 = .ok (.if_icmp .ne 5, 3) := by decide +kernel
theorem dX3_firstMeeting_51 : decode cX3_firstMeeting 51 = .ok (.iload_n 3, 1) := by decide +kernel
theorem dX3_firstMeeting_52 : decode cX3_firstMeeting 52 = .ok (.ireturn, 1) := by decide +kernel
theorem dX3_firstMeeting_53 : decode cX3_firstMeeting 53 = .ok (.iinc 3 1, 3) := by decide +kernel
theorem dX3_firstMeeting_56 : decode cX3_firstMeeting 56 = .ok (.goto (-25), 3) := by decide +kernel
theorem dX3_firstMeeting_59 : decode cX3_firstMeeting 59 = .ok (.bipush (-9), 2) := by decide +kernel
theorem dX3_firstMeeting_61 : decode cX3_firstMeeting 61 = .ok (.ireturn, 1) := by decide +kernel
set_option maxRecDepth 20000 in
theorem ggX4_init_X3_init : GoodIn wsX4_init wsX3_init := goodIn_r _ [14, 15, 2, 3, 16, 23, 24, 25, 26] (by decide +kernel) (by decide +kernel)
set_option maxRecDepth 20000 in
theorem gX4_init_X3_init : GoodIn wsX4_init (wsX3_init) := ggX4_init_X3_init
theorem dX4_init_0 : decode cX4_init 0 = .ok (.aload_n 0, 1) := by decide +kernel
theorem dX4_init_1 : decode cX4_init 1 = .ok (.invokespecial 3, 3) := by decide +kernel
theorem dX4_init_4 : decode cX4_init 4 = .ok (.aload_n 0, 1) := by decide +kernel
theorem dX4_init_5 : decode cX4_init 5 = .ok (.bipush 24, 2) := by decide +kernel
theorem dX4_init_7 : decode cX4_init 7 = .ok (.putfield 9, 3) := by decide +kernel
theorem dX4_init_10 : decode cX4_init 10 = .ok (.aload_n 0, 1) := by decide +kernel
theorem dX4_init_11 : decode cX4_init 11 = .ok (.bipush 6, 2) := by decide +kernel
theorem dX4_init_13 : decode cX4_init 13 = .ok (.anewarray 15, 3) := by decide +kernel
theorem dX4_init_16 : decode cX4_init 16 = .ok (.putfield 17, 3) := by decide +kernel
theorem dX4_init_19 : decode cX4_init 19 = .ok (.iconst 0, 1) := by decide +kernel
theorem dX4_init_20 : decode cX4_init 20 = .ok (.istore_n 1, 1) := by decide +kernel
theorem dX4_init_21 : decode cX4_init 21 = .ok (.iload_n 1, 1) := by decide +kernel
theorem dX4_init_22 : decode cX4_init 22 = .ok (.aload_n 0, 1) := by decide +kernel
theorem dX4_init_23 : decode cX4_init 23 = .ok (.getfield 17, 3) := by decide +kernel
theorem dX4_init_26 : decode cX4_init 26 = .ok (.arraylength, 1) := by decide +kernel
theorem dX4_init_27 : decode cX4_init 27 = .ok (.if_icmp .ge 22, 3) := by decide +kernel
theorem dX4_init_30 : decode cX4_init 30 = .ok (.aload_n 0, 1) := by decide +kernel
theorem dX4_init_31 : decode cX4_init 31 = .ok (.getfield 17, 3) := by decide +kernel
theorem dX4_init_34 : decode cX4_init 34 = .ok (.iload_n 1, 1) := by decide +kernel
theorem dX4_init_35 : decode cX4_init 35 = .ok (.new 15, 3) := by decide +kernel
theorem dX4_init_38 : decode cX4_init 38 = .ok (.dup, 1) := by decide +kernel
theorem dX4_init_39 : decode cX4_init 39 = .ok (.invokespecial 21, 3) := by decide +kernel
theorem dX4_init_42 : decode cX4_init 42 = .ok (.aastore, 1) := by decide +kernel
theorem dX4_init_43 : decode cX4_init 43 = .ok (.iinc 1 1, 3) := by decide +kernel
theorem dX4_init_46 : decode cX4_init 46 = .ok (.goto (-25), 3) := by decide +kernel
theorem dX4_init_49 : decode cX4_init 49 = .ok (.aload_n 0, 1) := by decide +kernel
theorem dX4_init_50 : decode cX4_init 50 = .ok (.bipush 8, 2) := by decide +kernel
theorem dX4_init_52 : decode cX4_init 52 = .ok (.newarray .int, 2) := by decide +kernel
theorem dX4_init_54 : decode cX4_init 54 = .ok (.putfield 22, 3) := by decide +kernel
theorem dX4_init_57 : decode cX4_init 57 = .ok (.aload_n 0, 1) := by decide +kernel
theorem dX4_init_58 : decode cX4_init 58 = .ok (.bipush 8, 2) := by decide +kernel
theorem dX4_init_60 : decode cX4_init 60 = .ok (.newarray .int, 2) := by decide +kernel
theorem dX4_init_62 : decode cX4_init 62 = .ok (.putfield 26, 3) := by decide +kernel
theorem dX4_init_65 : decode cX4_init 65 = .ok (.return_, 1) := by decide +kernel
set_option maxRecDepth 20000 in
theorem ggX4_become_X4_empty : GoodIn wsX4_become wsX4_empty := goodIn_r _ [12, 1, 2, 7, 53, 54, 55, 56, 57, 58] (by decide +kernel) (by decide +kernel)
set_option maxRecDepth 20000 in
theorem gX4_become_X4_empty : GoodIn wsX4_become (wsV RX4 29 RX4 yX4_empty wsX4_empty) := goodIn_app (goodIn_of _ (by decide +kernel)) ggX4_become_X4_empty
set_option maxRecDepth 20000 in
theorem ggX4_become_X4_find : GoodIn wsX4_become wsX4_find := goodIn_r _ [16, 2, 17, 53, 54, 55, 56, 57, 58] (by decide +kernel) (by decide +kernel)
set_option maxRecDepth 20000 in
theorem gX4_become_X4_find : GoodIn wsX4_become (wsV RX4 36 RX4 yX4_find wsX4_find) := goodIn_app (goodIn_of _ (by decide +kernel)) ggX4_become_X4_find
set_option maxRecDepth 20000 in
theorem ggX4_become_X4_putLayer : GoodIn wsX4_become wsX4_putLayer := goodIn_r _ [21, 2, 22, 23, 24, 11, 25, 13, 14, 15, 16, 17, 26, 27, 28, 29, 30, 31, 32, 33, 34, 53, 54, 55, 56, 57, 58, 59, 60, 61, 62] (by decide +kernel) (by decide +kernel)
set_option maxRecDepth 20000 in
theorem gX4_become_X4_putLayer : GoodIn wsX4_become (wsV RX4 52 RX4 yX4_putLayer wsX4_putLayer) := goodIn_app (goodIn_of _ (by decide +kernel)) ggX4_become_X4_putLayer
set_option maxRecDepth 20000 in
theorem ggX4_become_X4_sightedAngle : GoodIn wsX4_become wsX4_sightedAngle := goodIn_r _ [38, 39, 53, 54, 55, 56, 57, 58] (by decide +kernel) (by decide +kernel)
set_option maxRecDepth 20000 in
theorem gX4_become_X4_sightedAngle : GoodIn wsX4_become (wsV RX4 59 RX4 yX4_sightedAngle wsX4_sightedAngle) := goodIn_app (goodIn_of _ (by decide +kernel)) ggX4_become_X4_sightedAngle
set_option maxRecDepth 20000 in
theorem ggX4_become_X4_sightedRadius : GoodIn wsX4_become wsX4_sightedRadius := goodIn_r _ [43, 44, 53, 54, 55, 56, 57, 58] (by decide +kernel) (by decide +kernel)
set_option maxRecDepth 20000 in
theorem gX4_become_X4_sightedRadius : GoodIn wsX4_become (wsV RX4 63 RX4 yX4_sightedRadius wsX4_sightedRadius) := goodIn_app (goodIn_of _ (by decide +kernel)) ggX4_become_X4_sightedRadius
set_option maxRecDepth 20000 in
theorem ggX4_become_X4_note : GoodIn wsX4_become wsX4_note := goodIn_r _ [48, 7, 39, 44, 49, 50, 51, 11, 52, 53, 54, 55, 56, 57, 58] (by decide +kernel) (by decide +kernel)
set_option maxRecDepth 20000 in
theorem gX4_become_X4_note : GoodIn wsX4_become (wsV RX4 66 RX4 yX4_note wsX4_note) := goodIn_app (goodIn_of _ (by decide +kernel)) ggX4_become_X4_note
theorem dX4_become_0 : decode cX4_become 0 = .ok (.aload_n 0, 1) := by decide +kernel
theorem dX4_become_1 : decode cX4_become 1 = .ok (.aload_n 1, 1) := by decide +kernel
theorem dX4_become_2 : decode cX4_become 2 = .ok (.getfield 9, 3) := by decide +kernel
theorem dX4_become_5 : decode cX4_become 5 = .ok (.invokevirtual 29, 3) := by decide +kernel
theorem dX4_become_8 : decode cX4_become 8 = .ok (.iconst 0, 1) := by decide +kernel
theorem dX4_become_9 : decode cX4_become 9 = .ok (.istore_n 2, 1) := by decide +kernel
theorem dX4_become_10 : decode cX4_become 10 = .ok (.iload_n 2, 1) := by decide +kernel
theorem dX4_become_11 : decode cX4_become 11 = .ok (.aload_n 1, 1) := by decide +kernel
theorem dX4_become_12 : decode cX4_become 12 = .ok (.getfield 33, 3) := by decide +kernel
theorem dX4_become_15 : decode cX4_become 15 = .ok (.if_icmp .ge 39, 3) := by decide +kernel
theorem dX4_become_18 : decode cX4_become 18 = .ok (.aload_n 1, 1) := by decide +kernel
theorem dX4_become_19 : decode cX4_become 19 = .ok (.iload_n 2, 1) := by decide +kernel
theorem dX4_become_20 : decode cX4_become 20 = .ok (.invokevirtual 36, 3) := by decide +kernel
theorem dX4_become_23 : decode cX4_become 23 = .ok (.astore_n 3, 1) := by decide +kernel
theorem dX4_become_24 : decode cX4_become 24 = .ok (.aload_n 3, 1) := by decide +kernel
theorem dX4_become_25 : decode cX4_become 25 = .ok (.ifnull 23, 3) := by decide +kernel
theorem dX4_become_28 : decode cX4_become 28 = .ok (.aload_n 0, 1) := by decide +kernel
theorem dX4_become_29 : decode cX4_become 29 = .ok (.aload_n 3, 1) := by decide +kernel
theorem dX4_become_30 : decode cX4_become 30 = .ok (.getfield 40, 3) := by decide +kernel
theorem dX4_become_33 : decode cX4_become 33 = .ok (.aload_n 3, 1) := by decide +kernel
theorem dX4_become_34 : decode cX4_become 34 = .ok (.getfield 43, 3) := by decide +kernel
theorem dX4_become_37 : decode cX4_become 37 = .ok (.aload_n 3, 1) := by decide +kernel
theorem dX4_become_38 : decode cX4_become 38 = .ok (.getfield 46, 3) := by decide +kernel
theorem dX4_become_41 : decode cX4_become 41 = .ok (.aload_n 3, 1) := by decide +kernel
theorem dX4_become_42 : decode cX4_become 42 = .ok (.getfield 49, 3) := by decide +kernel
theorem dX4_become_45 : decode cX4_become 45 = .ok (.invokevirtual 52, 3) := by decide +kernel
theorem dX4_become_48 : decode cX4_become 48 = .ok (.iinc 2 1, 3) := by decide +kernel
theorem dX4_become_51 : decode cX4_become 51 = .ok (.goto (-41), 3) := by decide +kernel
theorem dX4_become_54 : decode cX4_become 54 = .ok (.iconst 0, 1) := by decide +kernel
theorem dX4_become_55 : decode cX4_become 55 = .ok (.istore_n 2, 1) := by decide +kernel
theorem dX4_become_56 : decode cX4_become 56 = .ok (.iload_n 2, 1) := by decide +kernel
theorem dX4_become_57 : decode cX4_become 57 = .ok (.aload_n 1, 1) := by decide +kernel
theorem dX4_become_58 : decode cX4_become 58 = .ok (.getfield 56, 3) := by decide +kernel
theorem dX4_become_61 : decode cX4_become 61 = .ok (.if_icmp .ge 23, 3) := by decide +kernel
theorem dX4_become_64 : decode cX4_become 64 = .ok (.aload_n 0, 1) := by decide +kernel
theorem dX4_become_65 : decode cX4_become 65 = .ok (.aload_n 1, 1) := by decide +kernel
theorem dX4_become_66 : decode cX4_become 66 = .ok (.iload_n 2, 1) := by decide +kernel
theorem dX4_become_67 : decode cX4_become 67 = .ok (.invokevirtual 59, 3) := by decide +kernel
theorem dX4_become_70 : decode cX4_become 70 = .ok (.aload_n 1, 1) := by decide +kernel
theorem dX4_become_71 : decode cX4_become 71 = .ok (.iload_n 2, 1) := by decide +kernel
theorem dX4_become_72 : decode cX4_become 72 = .ok (.invokevirtual 63, 3) := by decide +kernel
theorem dX4_become_75 : decode cX4_become 75 = .ok (.invokevirtual 66, 3) := by decide +kernel
theorem dX4_become_78 : decode cX4_become 78 = .ok (.iinc 2 1, 3) := by decide +kernel
theorem dX4_become_81 : decode cX4_become 81 = .ok (.goto (-25), 3) := by decide +kernel
theorem dX4_become_84 : decode cX4_become 84 = .ok (.return_, 1) := by decide +kernel
theorem dX4_empty_0 : decode cX4_empty 0 = .ok (.aload_n 0, 1) := by decide +kernel
theorem dX4_empty_1 : decode cX4_empty 1 = .ok (.iload_n 1, 1) := by decide +kernel
theorem dX4_empty_2 : decode cX4_empty 2 = .ok (.putfield 9, 3) := by decide +kernel
theorem dX4_empty_5 : decode cX4_empty 5 = .ok (.aload_n 0, 1) := by decide +kernel
theorem dX4_empty_6 : decode cX4_empty 6 = .ok (.iconst 0, 1) := by decide +kernel
theorem dX4_empty_7 : decode cX4_empty 7 = .ok (.putfield 33, 3) := by decide +kernel
theorem dX4_empty_10 : decode cX4_empty 10 = .ok (.aload_n 0, 1) := by decide +kernel
theorem dX4_empty_11 : decode cX4_empty 11 = .ok (.iconst 0, 1) := by decide +kernel
theorem dX4_empty_12 : decode cX4_empty 12 = .ok (.putfield 56, 3) := by decide +kernel
theorem dX4_empty_15 : decode cX4_empty 15 = .ok (.return_, 1) := by decide +kernel
theorem dX4_find_0 : decode cX4_find 0 = .ok (.iload_n 1, 1) := by decide +kernel
theorem dX4_find_1 : decode cX4_find 1 = .ok (.ifCond .lt 29, 3) := by decide +kernel
theorem dX4_find_4 : decode cX4_find 4 = .ok (.iload_n 1, 1) := by decide +kernel
theorem dX4_find_5 : decode cX4_find 5 = .ok (.aload_n 0, 1) := by decide +kernel
theorem dX4_find_6 : decode cX4_find 6 = .ok (.getfield 33, 3) := by decide +kernel
theorem dX4_find_9 : decode cX4_find 9 = .ok (.if_icmp .ge 21, 3) := by decide +kernel
theorem dX4_find_12 : decode cX4_find 12 = .ok (.iload_n 1, 1) := by decide +kernel
theorem dX4_find_13 : decode cX4_find 13 = .ok (.aload_n 0, 1) := by decide +kernel
theorem dX4_find_14 : decode cX4_find 14 = .ok (.getfield 17, 3) := by decide +kernel
theorem dX4_find_17 : decode cX4_find 17 = .ok (.arraylength, 1) := by decide +kernel
theorem dX4_find_18 : decode cX4_find 18 = .ok (.if_icmp .ge 12, 3) := by decide +kernel
theorem dX4_find_21 : decode cX4_find 21 = .ok (.aload_n 0, 1) := by decide +kernel
theorem dX4_find_22 : decode cX4_find 22 = .ok (.getfield 17, 3) := by decide +kernel
theorem dX4_find_25 : decode cX4_find 25 = .ok (.iload_n 1, 1) := by decide +kernel
theorem dX4_find_26 : decode cX4_find 26 = .ok (.aaload, 1) := by decide +kernel
theorem dX4_find_27 : decode cX4_find 27 = .ok (.goto 4, 3) := by decide +kernel
theorem dX4_find_30 : decode cX4_find 30 = .ok (.aconst_null, 1) := by decide +kernel
theorem dX4_find_31 : decode cX4_find 31 = .ok (.areturn, 1) := by decide +kernel
theorem dX4_hasTooth_0 : decode cX4_hasTooth 0 = .ok (.iload_n 1, 1) := by decide +kernel
theorem dX4_hasTooth_1 : decode cX4_hasTooth 1 = .ok (.ifCond .lt 15, 3) := by decide +kernel
theorem dX4_hasTooth_4 : decode cX4_hasTooth 4 = .ok (.iload_n 1, 1) := by decide +kernel
theorem dX4_hasTooth_5 : decode cX4_hasTooth 5 = .ok (.aload_n 0, 1) := by decide +kernel
theorem dX4_hasTooth_6 : decode cX4_hasTooth 6 = .ok (.getfield 9, 3) := by decide +kernel
theorem dX4_hasTooth_9 : decode cX4_hasTooth 9 = .ok (.if_icmp .ge 7, 3) := by decide +kernel
theorem dX4_hasTooth_12 : decode cX4_hasTooth 12 = .ok (.iconst 1, 1) := by decide +kernel
theorem dX4_hasTooth_13 : decode cX4_hasTooth 13 = .ok (.goto 4, 3) := by decide +kernel
theorem dX4_hasTooth_16 : decode cX4_hasTooth 16 = .ok (.iconst 0, 1) := by decide +kernel
theorem dX4_hasTooth_17 : decode cX4_hasTooth 17 = .ok (.ireturn, 1) := by decide +kernel
theorem dX4_isFull_0 : decode cX4_isFull 0 = .ok (.aload_n 0, 1) := by decide +kernel
theorem dX4_isFull_1 : decode cX4_isFull 1 = .ok (.getfield 33, 3) := by decide +kernel
theorem dX4_isFull_4 : decode cX4_isFull 4 = .ok (.bipush 6, 2) := by decide +kernel
theorem dX4_isFull_6 : decode cX4_isFull 6 = .ok (.if_icmp .lt 7, 3) := by decide +kernel
theorem dX4_isFull_9 : decode cX4_isFull 9 = .ok (.iconst 1, 1) := by decide +kernel
theorem dX4_isFull_10 : decode cX4_isFull 10 = .ok (.goto 4, 3) := by decide +kernel
theorem dX4_isFull_13 : decode cX4_isFull 13 = .ok (.iconst 0, 1) := by decide +kernel
theorem dX4_isFull_14 : decode cX4_isFull 14 = .ok (.ireturn, 1) := by decide +kernel
set_option maxRecDepth 20000 in
theorem ggX4_allows_X7_isWheel : GoodIn wsX4_allows wsX7_isWheel := goodIn_r _ [3] (by decide +kernel) (by decide +kernel)
set_option maxRecDepth 20000 in
theorem gX4_allows_X7_isWheel_n70 : GoodIn wsX4_allows (wsX7_isWheel) := ggX4_allows_X7_isWheel
set_option maxRecDepth 20000 in
theorem ggX4_allows_X7_isSide : GoodIn wsX4_allows wsX7_isSide := goodIn_r _ [5] (by decide +kernel) (by decide +kernel)
set_option maxRecDepth 20000 in
theorem gX4_allows_X7_isSide_n74 : GoodIn wsX4_allows (wsX7_isSide) := ggX4_allows_X7_isSide
set_option maxRecDepth 20000 in
theorem ggX4_allows_X7_isHole : GoodIn wsX4_allows wsX7_isHole := goodIn_r _ [7] (by decide +kernel) (by decide +kernel)
set_option maxRecDepth 20000 in
theorem gX4_allows_X7_isHole_n77 : GoodIn wsX4_allows (wsX7_isHole) := ggX4_allows_X7_isHole
set_option maxRecDepth 20000 in
theorem ggX4_allows_X4_hasTooth : GoodIn wsX4_allows wsX4_hasTooth := goodIn_r _ [12, 13, 14, 15, 16, 17, 18, 19] (by decide +kernel) (by decide +kernel)
set_option maxRecDepth 20000 in
theorem gX4_allows_X4_hasTooth : GoodIn wsX4_allows (wsV RX4 80 RX4 yX4_hasTooth wsX4_hasTooth) := goodIn_app (goodIn_of _ (by decide +kernel)) ggX4_allows_X4_hasTooth
theorem dX4_allows_0 : decode cX4_allows 0 = .ok (.iload_n 1, 1) := by decide +kernel
theorem dX4_allows_1 : decode cX4_allows 1 = .ok (.tableswitch 52 0 3 #[31, 36, 41, 46], 31) := by decide +kernel
theorem dX4_allows_32 : decode cX4_allows 32 = .ok (.iload_n 2, 1) := by decide +kernel
theorem dX4_allows_33 : decode cX4_allows 33 = .ok (.invokestatic 70, 3) := by decide +kernel
theorem dX4_allows_36 : decode cX4_allows 36 = .ok (.ireturn, 1) := by decide +kernel
theorem dX4_allows_37 : decode cX4_allows 37 = .ok (.iload_n 2, 1) := by decide +kernel
theorem dX4_allows_38 : decode cX4_allows 38 = .ok (.invokestatic 74, 3) := by decide +kernel
theorem dX4_allows_41 : decode cX4_allows 41 = .ok (.ireturn, 1) := by decide +kernel
theorem dX4_allows_42 : decode cX4_allows 42 = .ok (.iload_n 2, 1) := by decide +kernel
theorem dX4_allows_43 : decode cX4_allows 43 = .ok (.invokestatic 77, 3) := by decide +kernel
theorem dX4_allows_46 : decode cX4_allows 46 = .ok (.ireturn, 1) := by decide +kernel
theorem dX4_allows_47 : decode cX4_allows 47 = .ok (.aload_n 0, 1) := by decide +kernel
theorem dX4_allows_48 : decode cX4_allows 48 = .ok (.iload_n 2, 1) := by decide +kernel
theorem dX4_allows_49 : decode cX4_allows 49 = .ok (.invokevirtual 80, 3) := by decide +kernel
theorem dX4_allows_52 : decode cX4_allows 52 = .ok (.ireturn, 1) := by decide +kernel
theorem dX4_allows_53 : decode cX4_allows 53 = .ok (.iconst 0, 1) := by decide +kernel
theorem dX4_allows_54 : decode cX4_allows 54 = .ok (.ireturn, 1) := by decide +kernel
set_option maxRecDepth 20000 in
theorem ggX4_takeRing_X4_find : GoodIn wsX4_takeRing wsX4_find := goodIn_r _ [9, 2, 10, 15, 16, 17, 18, 19, 20] (by decide +kernel) (by decide +kernel)
set_option maxRecDepth 20000 in
theorem gX4_takeRing_X4_find : GoodIn wsX4_takeRing (wsV RX4 36 RX4 yX4_find wsX4_find) := goodIn_app (goodIn_of _ (by decide +kernel)) ggX4_takeRing_X4_find
set_option maxRecDepth 20000 in
theorem ggX4_takeRing_X4_hasTooth : GoodIn wsX4_takeRing wsX4_hasTooth := goodIn_r _ [14, 1, 15, 16, 17, 18, 19, 20] (by decide +kernel) (by decide +kernel)
set_option maxRecDepth 20000 in
theorem gX4_takeRing_X4_hasTooth : GoodIn wsX4_takeRing (wsV RX4 80 RX4 yX4_hasTooth wsX4_hasTooth) := goodIn_app (goodIn_of _ (by decide +kernel)) ggX4_takeRing_X4_hasTooth
theorem dX4_takeRing_0 : decode cX4_takeRing 0 = .ok (.aload_n 0, 1) := by decide +kernel
theorem dX4_takeRing_1 : decode cX4_takeRing 1 = .ok (.iload_n 1, 1) := by decide +kernel
theorem dX4_takeRing_2 : decode cX4_takeRing 2 = .ok (.putfield 9, 3) := by decide +kernel
theorem dX4_takeRing_5 : decode cX4_takeRing 5 = .ok (.iconst 0, 1) := by decide +kernel
theorem dX4_takeRing_6 : decode cX4_takeRing 6 = .ok (.istore_n 2, 1) := by decide +kernel
theorem dX4_takeRing_7 : decode cX4_takeRing 7 = .ok (.iload_n 2, 1) := by decide +kernel
theorem dX4_takeRing_8 : decode cX4_takeRing 8 = .ok (.aload_n 0, 1) := by decide +kernel
theorem dX4_takeRing_9 : decode cX4_takeRing 9 = .ok (.getfield 33, 3) := by decide +kernel
theorem dX4_takeRing_12 : decode cX4_takeRing 12 = .ok (.if_icmp .ge 35, 3) := by decide +kernel
theorem dX4_takeRing_15 : decode cX4_takeRing 15 = .ok (.aload_n 0, 1) := by decide +kernel
theorem dX4_takeRing_16 : decode cX4_takeRing 16 = .ok (.iload_n 2, 1) := by decide +kernel
theorem dX4_takeRing_17 : decode cX4_takeRing 17 = .ok (.invokevirtual 36, 3) := by decide +kernel
theorem dX4_takeRing_20 : decode cX4_takeRing 20 = .ok (.astore_n 3, 1) := by decide +kernel
theorem dX4_takeRing_21 : decode cX4_takeRing 21 = .ok (.aload_n 3, 1) := by decide +kernel
theorem dX4_takeRing_22 : decode cX4_takeRing 22 = .ok (.ifnull 19, 3) := by decide +kernel
theorem dX4_takeRing_25 : decode cX4_takeRing 25 = .ok (.aload_n 0, 1) := by decide +kernel
theorem dX4_takeRing_26 : decode cX4_takeRing 26 = .ok (.aload_n 3, 1) := by decide +kernel
theorem dX4_takeRing_27 : decode cX4_takeRing 27 = .ok (.getfield 49, 3) := by decide +kernel
theorem dX4_takeRing_30 : decode cX4_takeRing 30 = .ok (.invokevirtual 80, 3) := by decide +kernel
theorem dX4_takeRing_33 : decode cX4_takeRing 33 = .ok (.ifCond .ne 8, 3) := by decide +kernel
theorem dX4_takeRing_36 : decode cX4_takeRing 36 = .ok (.aload_n 3, 1) := by decide +kernel
theorem dX4_takeRing_37 : decode cX4_takeRing 37 = .ok (.iconst 0, 1) := by decide +kernel
theorem dX4_takeRing_38 : decode cX4_takeRing 38 = .ok (.putfield 49, 3) := by decide +kernel
theorem dX4_takeRing_41 : decode cX4_takeRing 41 = .ok (.iinc 2 1, 3) := by decide +kernel
theorem dX4_takeRing_44 : decode cX4_takeRing 44 = .ok (.goto (-37), 3) := by decide +kernel
theorem dX4_takeRing_47 : decode cX4_takeRing 47 = .ok (.iconst 0, 1) := by decide +kernel
theorem dX4_takeRing_48 : decode cX4_takeRing 48 = .ok (.istore_n 2, 1) := by decide +kernel
theorem dX4_takeRing_49 : decode cX4_takeRing 49 = .ok (.iload_n 2, 1) := by decide +kernel
theorem dX4_takeRing_50 : decode cX4_takeRing 50 = .ok (.aload_n 0, 1) := by decide +kernel
theorem dX4_takeRing_51 : decode cX4_takeRing 51 = .ok (.getfield 22, 3) := by decide +kernel
theorem dX4_takeRing_54 : decode cX4_takeRing 54 = .ok (.arraylength, 1) := by decide +kernel
theorem dX4_takeRing_55 : decode cX4_takeRing 55 = .ok (.if_icmp .ge 29, 3) := by decide +kernel
theorem dX4_takeRing_58 : decode cX4_takeRing 58 = .ok (.aload_n 0, 1) := by decide +kernel
theorem dX4_takeRing_59 : decode cX4_takeRing 59 = .ok (.aload_n 0, 1) := by decide +kernel
theorem dX4_takeRing_60 : decode cX4_takeRing 60 = .ok (.getfield 22, 3) := by decide +kernel
theorem dX4_takeRing_63 : decode cX4_takeRing 63 = .ok (.iload_n 2, 1) := by decide +kernel
theorem dX4_takeRing_64 : decode cX4_takeRing 64 = .ok (.iaload, 1) := by decide +kernel
theorem dX4_takeRing_65 : decode cX4_takeRing 65 = .ok (.invokevirtual 80, 3) := by decide +kernel
theorem dX4_takeRing_68 : decode cX4_takeRing 68 = .ok (.ifCond .ne 10, 3) := by decide +kernel
theorem dX4_takeRing_71 : decode cX4_takeRing 71 = .ok (.aload_n 0, 1) := by decide +kernel
theorem dX4_takeRing_72 : decode cX4_takeRing 72 = .ok (.getfield 22, 3) := by decide +kernel
theorem dX4_takeRing_75 : decode cX4_takeRing 75 = .ok (.iload_n 2, 1) := by decide +kernel
theorem dX4_takeRing_76 : decode cX4_takeRing 76 = .ok (.iconst 0, 1) := by decide +kernel
theorem dX4_takeRing_77 : decode cX4_takeRing 77 = .ok (.iastore, 1) := by decide +kernel
theorem dX4_takeRing_78 : decode cX4_takeRing 78 = .ok (.iinc 2 1, 3) := by decide +kernel
theorem dX4_takeRing_81 : decode cX4_takeRing 81 = .ok (.goto (-32), 3) := by decide +kernel
theorem dX4_takeRing_84 : decode cX4_takeRing 84 = .ok (.return_, 1) := by decide +kernel
set_option maxRecDepth 20000 in
theorem ggX4_putLayer_X4_isFull : GoodIn wsX4_putLayer wsX4_isFull := goodIn_r _ [6, 1, 21, 22, 23, 24, 25, 26] (by decide +kernel) (by decide +kernel)
set_option maxRecDepth 20000 in
theorem gX4_putLayer_X4_isFull : GoodIn wsX4_putLayer (wsV RX4 83 RX4 yX4_isFull wsX4_isFull) := goodIn_app (goodIn_of _ (by decide +kernel)) ggX4_putLayer_X4_isFull
set_option maxRecDepth 20000 in
theorem ggX4_putLayer_X4_find : GoodIn wsX4_putLayer wsX4_find := goodIn_r _ [10, 1, 11, 21, 22, 23, 24, 25, 26] (by decide +kernel) (by decide +kernel)
set_option maxRecDepth 20000 in
theorem gX4_putLayer_X4_find : GoodIn wsX4_putLayer (wsV RX4 36 RX4 yX4_find wsX4_find) := goodIn_app (goodIn_of _ (by decide +kernel)) ggX4_putLayer_X4_find
set_option maxRecDepth 20000 in
theorem ggX4_putLayer_X3_set : GoodIn wsX4_putLayer wsX3_set := goodIn_r _ [16, 17, 18, 19, 20, 27, 28, 29, 30] (by decide +kernel) (by decide +kernel)
set_option maxRecDepth 20000 in
theorem gX4_putLayer_X3_set : GoodIn wsX4_putLayer (wsV RX4 87 RX3 yX3_set wsX3_set) := goodIn_app (goodIn_of _ (by decide +kernel)) ggX4_putLayer_X3_set
theorem dX4_putLayer_0 : decode cX4_putLayer 0 = .ok (.aload_n 0, 1) := by decide +kernel
theorem dX4_putLayer_1 : decode cX4_putLayer 1 = .ok (.invokevirtual 83, 3) := by decide +kernel
theorem dX4_putLayer_4 : decode cX4_putLayer 4 = .ok (.ifCond .eq 4, 3) := by decide +kernel
theorem dX4_putLayer_7 : decode cX4_putLayer 7 = .ok (.return_, 1) := by decide +kernel
theorem dX4_putLayer_8 : decode cX4_putLayer 8 = .ok (.aload_n 0, 1) := by decide +kernel
theorem dX4_putLayer_9 : decode cX4_putLayer 9 = .ok (.dup, 1) := by decide +kernel
theorem dX4_putLayer_10 : decode cX4_putLayer 10 = .ok (.getfield 33, 3) := by decide +kernel
theorem dX4_putLayer_13 : decode cX4_putLayer 13 = .ok (.iconst 1, 1) := by decide +kernel
theorem dX4_putLayer_14 : decode cX4_putLayer 14 = .ok (.iadd, 1) := by decide +kernel
theorem dX4_putLayer_15 : decode cX4_putLayer 15 = .ok (.putfield 33, 3) := by decide +kernel
theorem dX4_putLayer_18 : decode cX4_putLayer 18 = .ok (.aload_n 0, 1) := by decide +kernel
theorem dX4_putLayer_19 : decode cX4_putLayer 19 = .ok (.aload_n 0, 1) := by decide +kernel
theorem dX4_putLayer_20 : decode cX4_putLayer 20 = .ok (.getfield 33, 3) := by decide +kernel
theorem dX4_putLayer_23 : decode cX4_putLayer 23 = .ok (.iconst 1, 1) := by decide +kernel
theorem dX4_putLayer_24 : decode cX4_putLayer 24 = .ok (.isub, 1) := by decide +kernel
theorem dX4_putLayer_25 : decode cX4_putLayer 25 = .ok (.invokevirtual 36, 3) := by decide +kernel
theorem dX4_putLayer_28 : decode cX4_putLayer 28 = .ok (.astore 5, 2) := by decide +kernel
theorem dX4_putLayer_30 : decode cX4_putLayer 30 = .ok (.aload 5, 2) := by decide +kernel
theorem dX4_putLayer_32 : decode cX4_putLayer 32 = .ok (.ifnull 13, 3) := by decide +kernel
theorem dX4_putLayer_35 : decode cX4_putLayer 35 = .ok (.aload 5, 2) := by decide +kernel
theorem dX4_putLayer_37 : decode cX4_putLayer 37 = .ok (.iload_n 1, 1) := by decide +kernel
theorem dX4_putLayer_38 : decode cX4_putLayer 38 = .ok (.iload_n 2, 1) := by decide +kernel
theorem dX4_putLayer_39 : decode cX4_putLayer 39 = .ok (.iload_n 3, 1) := by decide +kernel
theorem dX4_putLayer_40 : decode cX4_putLayer 40 = .ok (.iload 4, 2) := by decide +kernel
theorem dX4_putLayer_42 : decode cX4_putLayer 42 = .ok (.invokevirtual 87, 3) := by decide +kernel
theorem dX4_putLayer_45 : decode cX4_putLayer 45 = .ok (.return_, 1) := by decide +kernel
set_option maxRecDepth 20000 in
theorem ggX4_dropLayer_X4_find : GoodIn wsX4_dropLayer wsX4_find := goodIn_r _ [6, 1, 7, 21, 22, 23, 24, 25, 26] (by decide +kernel) (by decide +kernel)
set_option maxRecDepth 20000 in
theorem gX4_dropLayer_X4_find : GoodIn wsX4_dropLayer (wsV RX4 36 RX4 yX4_find wsX4_find) := goodIn_app (goodIn_of _ (by decide +kernel)) ggX4_dropLayer_X4_find
set_option maxRecDepth 20000 in
theorem ggX4_dropLayer_X3_become : GoodIn wsX4_dropLayer wsX3_become := goodIn_r _ [12, 13, 14, 15, 16, 17, 18, 19, 11, 20, 27, 28, 29, 30] (by decide +kernel) (by decide +kernel)
set_option maxRecDepth 20000 in
theorem gX4_dropLayer_X3_become : GoodIn wsX4_dropLayer (wsV RX4 90 RX3 yX3_become wsX3_become) := goodIn_app (goodIn_of _ (by decide +kernel)) ggX4_dropLayer_X3_become
theorem dX4_dropLayer_0 : decode cX4_dropLayer 0 = .ok (.iload_n 1, 1) := by decide +kernel
theorem dX4_dropLayer_1 : decode cX4_dropLayer 1 = .ok (.istore_n 2, 1) := by decide +kernel
theorem dX4_dropLayer_2 : decode cX4_dropLayer 2 = .ok (.iload_n 2, 1) := by decide +kernel
theorem dX4_dropLayer_3 : decode cX4_dropLayer 3 = .ok (.aload_n 0, 1) := by decide +kernel
theorem dX4_dropLayer_4 : decode cX4_dropLayer 4 = .ok (.getfield 33, 3) := by decide +kernel
theorem dX4_dropLayer_7 : decode cX4_dropLayer 7 = .ok (.iconst 1, 1) := by decide +kernel
theorem dX4_dropLayer_8 : decode cX4_dropLayer 8 = .ok (.isub, 1) := by decide +kernel
theorem dX4_dropLayer_9 : decode cX4_dropLayer 9 = .ok (.if_icmp .ge 39, 3) := by decide +kernel
theorem dX4_dropLayer_12 : decode cX4_dropLayer 12 = .ok (.aload_n 0, 1) := by decide +kernel
theorem dX4_dropLayer_13 : decode cX4_dropLayer 13 = .ok (.iload_n 2, 1) := by decide +kernel
theorem dX4_dropLayer_14 : decode cX4_dropLayer 14 = .ok (.invokevirtual 36, 3) := by decide +kernel
theorem dX4_dropLayer_17 : decode cX4_dropLayer 17 = .ok (.astore_n 3, 1) := by decide +kernel
theorem dX4_dropLayer_18 : decode cX4_dropLayer 18 = .ok (.aload_n 0, 1) := by decide +kernel
theorem dX4_dropLayer_19 : decode cX4_dropLayer 19 = .ok (.iload_n 2, 1) := by decide +kernel
theorem dX4_dropLayer_20 : decode cX4_dropLayer 20 = .ok (.iconst 1, 1) := by decide +kernel
theorem dX4_dropLayer_21 : decode cX4_dropLayer 21 = .ok (.iadd, 1) := by decide +kernel
theorem dX4_dropLayer_22 : decode cX4_dropLayer 22 = .ok (.invokevirtual 36, 3) := by decide +kernel
theorem dX4_dropLayer_25 : decode cX4_dropLayer 25 = .ok (.astore 4, 2) := by decide +kernel
theorem dX4_dropLayer_27 : decode cX4_dropLayer 27 = .ok (.aload_n 3, 1) := by decide +kernel
theorem dX4_dropLayer_28 : decode cX4_dropLayer 28 = .ok (.ifnull 14, 3) := by decide +kernel
theorem dX4_dropLayer_31 : decode cX4_dropLayer 31 = .ok (.aload 4, 2) := by decide +kernel
theorem dX4_dropLayer_33 : decode cX4_dropLayer 33 = .ok (.ifnull 9, 3) := by decide +kernel
theorem dX4_dropLayer_36 : decode cX4_dropLayer 36 = .ok (.aload_n 3, 1) := by decide +kernel
theorem dX4_dropLayer_37 : decode cX4_dropLayer 37 = .ok (.aload 4, 2) := by decide +kernel
theorem dX4_dropLayer_39 : decode cX4_dropLayer 39 = .ok (.invokevirtual 90, 3) := by decide +kernel
theorem dX4_dropLayer_42 : decode cX4_dropLayer 42 = .ok (.iinc 2 1, 3) := by decide +kernel
theorem dX4_dropLayer_45 : decode cX4_dropLayer 45 = .ok (.goto (-43), 3) := by decide +kernel
theorem dX4_dropLayer_48 : decode cX4_dropLayer 48 = .ok (.aload_n 0, 1) := by decide +kernel
theorem dX4_dropLayer_49 : decode cX4_dropLayer 49 = .ok (.dup, 1) := by decide +kernel
theorem dX4_dropLayer_50 : decode cX4_dropLayer 50 = .ok (.getfield 33, 3) := by decide +kernel
theorem dX4_dropLayer_53 : decode cX4_dropLayer 53 = .ok (.iconst 1, 1) := by decide +kernel
theorem dX4_dropLayer_54 : decode cX4_dropLayer 54 = .ok (.isub, 1) := by decide +kernel
theorem dX4_dropLayer_55 : decode cX4_dropLayer 55 = .ok (.putfield 33, 3) := by decide +kernel
theorem dX4_dropLayer_58 : decode cX4_dropLayer 58 = .ok (.return_, 1) := by decide +kernel
theorem dX4_sightedAngle_0 : decode cX4_sightedAngle 0 = .ok (.iload_n 1, 1) := by decide +kernel
theorem dX4_sightedAngle_1 : decode cX4_sightedAngle 1 = .ok (.ifCond .lt 21, 3) := by decide +kernel
theorem dX4_sightedAngle_4 : decode cX4_sightedAngle 4 = .ok (.iload_n 1, 1) := by decide +kernel
theorem dX4_sightedAngle_5 : decode cX4_sightedAngle 5 = .ok (.aload_n 0, 1) := by decide +kernel
theorem dX4_sightedAngle_6 : decode cX4_sightedAngle 6 = .ok (.getfield 22, 3) := by decide +kernel
theorem dX4_sightedAngle_9 : decode cX4_sightedAngle 9 = .ok (.arraylength, 1) := by decide +kernel
theorem dX4_sightedAngle_10 : decode cX4_sightedAngle 10 = .ok (.if_icmp .ge 12, 3) := by decide +kernel
theorem dX4_sightedAngle_13 : decode cX4_sightedAngle 13 = .ok (.aload_n 0, 1) := by decide +kernel
theorem dX4_sightedAngle_14 : decode cX4_sightedAngle 14 = .ok (.getfield 22, 3) := by decide +kernel
theorem dX4_sightedAngle_17 : decode cX4_sightedAngle 17 = .ok (.iload_n 1, 1) := by decide +kernel
theorem dX4_sightedAngle_18 : decode cX4_sightedAngle 18 = .ok (.iaload, 1) := by decide +kernel
theorem dX4_sightedAngle_19 : decode cX4_sightedAngle 19 = .ok (.goto 5, 3) := by decide +kernel
theorem dX4_sightedAngle_22 : decode cX4_sightedAngle 22 = .ok (.bipush (-9), 2) := by decide +kernel
theorem dX4_sightedAngle_24 : decode cX4_sightedAngle 24 = .ok (.ireturn, 1) := by decide +kernel
theorem dX4_sightedRadius_0 : decode cX4_sightedRadius 0 = .ok (.iload_n 1, 1) := by decide +kernel
theorem dX4_sightedRadius_1 : decode cX4_sightedRadius 1 = .ok (.ifCond .lt 21, 3) := by decide +kernel
theorem dX4_sightedRadius_4 : decode cX4_sightedRadius 4 = .ok (.iload_n 1, 1) := by decide +kernel
theorem dX4_sightedRadius_5 : decode cX4_sightedRadius 5 = .ok (.aload_n 0, 1) := by decide +kernel
theorem dX4_sightedRadius_6 : decode cX4_sightedRadius 6 = .ok (.getfield 26, 3) := by decide +kernel
theorem dX4_sightedRadius_9 : decode cX4_sightedRadius 9 = .ok (.arraylength, 1) := by decide +kernel
theorem dX4_sightedRadius_10 : decode cX4_sightedRadius 10 = .ok (.if_icmp .ge 12, 3) := by decide +kernel
theorem dX4_sightedRadius_13 : decode cX4_sightedRadius 13 = .ok (.aload_n 0, 1) := by decide +kernel
theorem dX4_sightedRadius_14 : decode cX4_sightedRadius 14 = .ok (.getfield 26, 3) := by decide +kernel
theorem dX4_sightedRadius_17 : decode cX4_sightedRadius 17 = .ok (.iload_n 1, 1) := by decide +kernel
theorem dX4_sightedRadius_18 : decode cX4_sightedRadius 18 = .ok (.iaload, 1) := by decide +kernel
theorem dX4_sightedRadius_19 : decode cX4_sightedRadius 19 = .ok (.goto 5, 3) := by decide +kernel
theorem dX4_sightedRadius_22 : decode cX4_sightedRadius 22 = .ok (.bipush (-9), 2) := by decide +kernel
theorem dX4_sightedRadius_24 : decode cX4_sightedRadius 24 = .ok (.ireturn, 1) := by decide +kernel
set_option maxRecDepth 20000 in
theorem ggX4_note_X4_dropOldest : GoodIn wsX4_note wsX4_dropOldest := goodIn_r _ [8, 2, 3, 1, 9, 10, 11, 12, 13, 14] (by decide +kernel) (by decide +kernel)
set_option maxRecDepth 20000 in
theorem gX4_note_X4_dropOldest : GoodIn wsX4_note (wsV RX4 94 RX4 yX4_dropOldest wsX4_dropOldest) := goodIn_app (goodIn_of _ (by decide +kernel)) ggX4_note_X4_dropOldest
theorem dX4_note_0 : decode cX4_note 0 = .ok (.aload_n 0, 1) := by decide +kernel
theorem dX4_note_1 : decode cX4_note 1 = .ok (.getfield 56, 3) := by decide +kernel
theorem dX4_note_4 : decode cX4_note 4 = .ok (.bipush 8, 2) := by decide +kernel
theorem dX4_note_6 : decode cX4_note 6 = .ok (.if_icmp .lt 7, 3) := by decide +kernel
theorem dX4_note_9 : decode cX4_note 9 = .ok (.aload_n 0, 1) := by decide +kernel
theorem dX4_note_10 : decode cX4_note 10 = .ok (.invokevirtual 94, 3) := by decide +kernel
theorem dX4_note_13 : decode cX4_note 13 = .ok (.aload_n 0, 1) := by decide +kernel
theorem dX4_note_14 : decode cX4_note 14 = .ok (.getfield 56, 3) := by decide +kernel
theorem dX4_note_17 : decode cX4_note 17 = .ok (.ifCond .lt 57, 3) := by decide +kernel
theorem dX4_note_20 : decode cX4_note 20 = .ok (.aload_n 0, 1) := by decide +kernel
theorem dX4_note_21 : decode cX4_note 21 = .ok (.getfield 56, 3) := by decide +kernel
theorem dX4_note_24 : decode cX4_note 24 = .ok (.aload_n 0, 1) := by decide +kernel
theorem dX4_note_25 : decode cX4_note 25 = .ok (.getfield 22, 3) := by decide +kernel
theorem dX4_note_28 : decode cX4_note 28 = .ok (.arraylength, 1) := by decide +kernel
theorem dX4_note_29 : decode cX4_note 29 = .ok (.if_icmp .ge 45, 3) := by decide +kernel
theorem dX4_note_32 : decode cX4_note 32 = .ok (.aload_n 0, 1) := by decide +kernel
theorem dX4_note_33 : decode cX4_note 33 = .ok (.getfield 56, 3) := by decide +kernel
theorem dX4_note_36 : decode cX4_note 36 = .ok (.aload_n 0, 1) := by decide +kernel
theorem dX4_note_37 : decode cX4_note 37 = .ok (.getfield 26, 3) := by decide +kernel
theorem dX4_note_40 : decode cX4_note 40 = .ok (.arraylength, 1) := by decide +kernel
theorem dX4_note_41 : decode cX4_note 41 = .ok (.if_icmp .ge 33, 3) := by decide +kernel
theorem dX4_note_44 : decode cX4_note 44 = .ok (.aload_n 0, 1) := by decide +kernel
theorem dX4_note_45 : decode cX4_note 45 = .ok (.getfield 22, 3) := by decide +kernel
theorem dX4_note_48 : decode cX4_note 48 = .ok (.aload_n 0, 1) := by decide +kernel
theorem dX4_note_49 : decode cX4_note 49 = .ok (.getfield 56, 3) := by decide +kernel
theorem dX4_note_52 : decode cX4_note 52 = .ok (.iload_n 1, 1) := by decide +kernel
theorem dX4_note_53 : decode cX4_note 53 = .ok (.iastore, 1) := by decide +kernel
theorem dX4_note_54 : decode cX4_note 54 = .ok (.aload_n 0, 1) := by decide +kernel
theorem dX4_note_55 : decode cX4_note 55 = .ok (.getfield 26, 3) := by decide +kernel
theorem dX4_note_58 : decode cX4_note 58 = .ok (.aload_n 0, 1) := by decide +kernel
theorem dX4_note_59 : decode cX4_note 59 = .ok (.getfield 56, 3) := by decide +kernel
theorem dX4_note_62 : decode cX4_note 62 = .ok (.iload_n 2, 1) := by decide +kernel
theorem dX4_note_63 : decode cX4_note 63 = .ok (.iastore, 1) := by decide +kernel
theorem dX4_note_64 : decode cX4_note 64 = .ok (.aload_n 0, 1) := by decide +kernel
theorem dX4_note_65 : decode cX4_note 65 = .ok (.dup, 1) := by decide +kernel
theorem dX4_note_66 : decode cX4_note 66 = .ok (.getfield 56, 3) := by decide +kernel
theorem dX4_note_69 : decode cX4_note 69 = .ok (.iconst 1, 1) := by decide +kernel
theorem dX4_note_70 : decode cX4_note 70 = .ok (.iadd, 1) := by decide +kernel
theorem dX4_note_71 : decode cX4_note 71 = .ok (.putfield 56, 3) := by decide +kernel
theorem dX4_note_74 : decode cX4_note 74 = .ok (.return_, 1) := by decide +kernel
theorem dX4_dropOldest_0 : decode cX4_dropOldest 0 = .ok (.iconst 1, 1) := by decide +kernel
theorem dX4_dropOldest_1 : decode cX4_dropOldest 1 = .ok (.istore_n 1, 1) := by decide +kernel
theorem dX4_dropOldest_2 : decode cX4_dropOldest 2 = .ok (.iload_n 1, 1) := by decide +kernel
theorem dX4_dropOldest_3 : decode cX4_dropOldest 3 = .ok (.aload_n 0, 1) := by decide +kernel
theorem dX4_dropOldest_4 : decode cX4_dropOldest 4 = .ok (.getfield 22, 3) := by decide +kernel
theorem dX4_dropOldest_7 : decode cX4_dropOldest 7 = .ok (.arraylength, 1) := by decide +kernel
theorem dX4_dropOldest_8 : decode cX4_dropOldest 8 = .ok (.if_icmp .ge 46, 3) := by decide +kernel
theorem dX4_dropOldest_11 : decode cX4_dropOldest 11 = .ok (.iload_n 1, 1) := by decide +kernel
theorem dX4_dropOldest_12 : decode cX4_dropOldest 12 = .ok (.aload_n 0, 1) := by decide +kernel
theorem dX4_dropOldest_13 : decode cX4_dropOldest 13 = .ok (.getfield 26, 3) := by decide +kernel
theorem dX4_dropOldest_16 : decode cX4_dropOldest 16 = .ok (.arraylength, 1) := by decide +kernel
theorem dX4_dropOldest_17 : decode cX4_dropOldest 17 = .ok (.if_icmp .ge 37, 3) := by decide +kernel
theorem dX4_dropOldest_20 : decode cX4_dropOldest 20 = .ok (.aload_n 0, 1) := by decide +kernel
theorem dX4_dropOldest_21 : decode cX4_dropOldest 21 = .ok (.getfield 22, 3) := by decide +kernel
theorem dX4_dropOldest_24 : decode cX4_dropOldest 24 = .ok (.iload_n 1, 1) := by decide +kernel
theorem dX4_dropOldest_25 : decode cX4_dropOldest 25 = .ok (.iconst 1, 1) := by decide +kernel
theorem dX4_dropOldest_26 : decode cX4_dropOldest 26 = .ok (.isub, 1) := by decide +kernel
theorem dX4_dropOldest_27 : decode cX4_dropOldest 27 = .ok (.aload_n 0, 1) := by decide +kernel
theorem dX4_dropOldest_28 : decode cX4_dropOldest 28 = .ok (.getfield 22, 3) := by decide +kernel
theorem dX4_dropOldest_31 : decode cX4_dropOldest 31 = .ok (.iload_n 1, 1) := by decide +kernel
theorem dX4_dropOldest_32 : decode cX4_dropOldest 32 = .ok (.iaload, 1) := by decide +kernel
theorem dX4_dropOldest_33 : decode cX4_dropOldest 33 = .ok (.iastore, 1) := by decide +kernel
theorem dX4_dropOldest_34 : decode cX4_dropOldest 34 = .ok (.aload_n 0, 1) := by decide +kernel
theorem dX4_dropOldest_35 : decode cX4_dropOldest 35 = .ok (.getfield 26, 3) := by decide +kernel
theorem dX4_dropOldest_38 : decode cX4_dropOldest 38 = .ok (.iload_n 1, 1) := by decide +kernel
theorem dX4_dropOldest_39 : decode cX4_dropOldest 39 = .ok (.iconst 1, 1) := by decide +kernel
theorem dX4_dropOldest_40 : decode cX4_dropOldest 40 = .ok (.isub, 1) := by decide +kernel
theorem dX4_dropOldest_41 : decode cX4_dropOldest 41 = .ok (.aload_n 0, 1) := by decide +kernel
theorem dX4_dropOldest_42 : decode cX4_dropOldest 42 = .ok (.getfield 26, 3) := by decide +kernel
theorem dX4_dropOldest_45 : decode cX4_dropOldest 45 = .ok (.iload_n 1, 1) := by decide +kernel
theorem dX4_dropOldest_46 : decode cX4_dropOldest 46 = .ok (.iaload, 1) := by decide +kernel
theorem dX4_dropOldest_47 : decode cX4_dropOldest 47 = .ok (.iastore, 1) := by decide +kernel
theorem dX4_dropOldest_48 : decode cX4_dropOldest 48 = .ok (.iinc 1 1, 3) := by decide +kernel
theorem dX4_dropOldest_51 : decode cX4_dropOldest 51 = .ok (.goto (-49), 3) := by decide +kernel
theorem dX4_dropOldest_54 : decode cX4_dropOldest 54 = .ok (.aload_n 0, 1) := by decide +kernel
theorem dX4_dropOldest_55 : decode cX4_dropOldest 55 = .ok (.dup, 1) := by decide +kernel
theorem dX4_dropOldest_56 : decode cX4_dropOldest 56 = .ok (.getfield 56, 3) := by decide +kernel
theorem dX4_dropOldest_59 : decode cX4_dropOldest 59 = .ok (.iconst 1, 1) := by decide +kernel
theorem dX4_dropOldest_60 : decode cX4_dropOldest 60 = .ok (.isub, 1) := by decide +kernel
theorem dX4_dropOldest_61 : decode cX4_dropOldest 61 = .ok (.putfield 56, 3) := by decide +kernel
theorem dX4_dropOldest_64 : decode cX4_dropOldest 64 = .ok (.return_, 1) := by decide +kernel
set_option maxRecDepth 20000 in
theorem ggX4_fits_X4_sightedAngle : GoodIn wsX4_fits wsX4_sightedAngle := goodIn_r _ [7, 8, 42, 43, 44, 45, 46, 47] (by decide +kernel) (by decide +kernel)
set_option maxRecDepth 20000 in
theorem gX4_fits_X4_sightedAngle : GoodIn wsX4_fits (wsV RX4 59 RX4 yX4_sightedAngle wsX4_sightedAngle) := goodIn_app (goodIn_of _ (by decide +kernel)) ggX4_fits_X4_sightedAngle
set_option maxRecDepth 20000 in
theorem ggX4_fits_X4_sightedRadius : GoodIn wsX4_fits wsX4_sightedRadius := goodIn_r _ [12, 13, 42, 43, 44, 45, 46, 47] (by decide +kernel) (by decide +kernel)
set_option maxRecDepth 20000 in
theorem gX4_fits_X4_sightedRadius : GoodIn wsX4_fits (wsV RX4 63 RX4 yX4_sightedRadius wsX4_sightedRadius) := goodIn_app (goodIn_of _ (by decide +kernel)) ggX4_fits_X4_sightedRadius
set_option maxRecDepth 20000 in
theorem ggX4_fits_X3_firstStepAt : GoodIn wsX4_fits wsX3_firstStepAt := goodIn_r _ [18, 19, 20, 21, 22, 23, 24, 25, 17, 26, 27, 28, 29, 30, 31, 32, 33, 34, 35, 36, 37, 38, 39, 40, 41, 48, 49, 50, 51] (by decide +kernel) (by decide +kernel)
set_option maxRecDepth 20000 in
theorem gX4_fits_X3_firstStepAt : GoodIn wsX4_fits (wsV RX4 97 RX3 yX3_firstStepAt wsX3_firstStepAt) := goodIn_app (goodIn_of _ (by decide +kernel)) ggX4_fits_X3_firstStepAt
theorem dX4_fits_0 : decode cX4_fits 0 = .ok (.iconst 0, 1) := by decide +kernel
theorem dX4_fits_1 : decode cX4_fits 1 = .ok (.istore_n 2, 1) := by decide +kernel
theorem dX4_fits_2 : decode cX4_fits 2 = .ok (.iload_n 2, 1) := by decide +kernel
theorem dX4_fits_3 : decode cX4_fits 3 = .ok (.aload_n 0, 1) := by decide +kernel
theorem dX4_fits_4 : decode cX4_fits 4 = .ok (.getfield 56, 3) := by decide +kernel
theorem dX4_fits_7 : decode cX4_fits 7 = .ok (.if_icmp .ge 34, 3) := by decide +kernel
theorem dX4_fits_10 : decode cX4_fits 10 = .ok (.aload_n 1, 1) := by decide +kernel

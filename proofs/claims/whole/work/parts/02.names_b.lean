set_option maxRecDepth 20000 in
theorem ggX0_init_X5_init : GoodIn wsX0_init wsX5_init := goodIn_r _ [15, 16, 2, 3, 17, 18, 24] (by decide +kernel) (by decide +kernel)
set_option maxRecDepth 20000 in
theorem gX0_init_X5_init : GoodIn wsX0_init (wsX5_init) := ggX0_init_X5_init
set_option maxRecDepth 20000 in
theorem ggX0_init_X3_init : GoodIn wsX0_init wsX3_init := goodIn_r _ [21, 22, 2, 3, 23, 28, 29, 30, 31] (by decide +kernel) (by decide +kernel)
set_option maxRecDepth 20000 in
theorem gX0_init_X3_init : GoodIn wsX0_init (wsX3_init) := ggX0_init_X3_init
theorem dX0_init_0 : decode cX0_init 0 = .ok (.aload_n 0, 1) := by decide +kernel
theorem dX0_init_1 : decode cX0_init 1 = .ok (.invokespecial 3, 3) := by decide +kernel
theorem dX0_init_4 : decode cX0_init 4 = .ok (.aload_n 0, 1) := by decide +kernel
theorem dX0_init_5 : decode cX0_init 5 = .ok (.new 9, 3) := by decide +kernel
theorem dX0_init_8 : decode cX0_init 8 = .ok (.dup, 1) := by decide +kernel
theorem dX0_init_9 : decode cX0_init 9 = .ok (.invokespecial 11, 3) := by decide +kernel
theorem dX0_init_12 : decode cX0_init 12 = .ok (.putfield 12, 3) := by decide +kernel
theorem dX0_init_15 : decode cX0_init 15 = .ok (.aload_n 0, 1) := by decide +kernel
theorem dX0_init_16 : decode cX0_init 16 = .ok (.new 9, 3) := by decide +kernel
theorem dX0_init_19 : decode cX0_init 19 = .ok (.dup, 1) := by decide +kernel
theorem dX0_init_20 : decode cX0_init 20 = .ok (.invokespecial 11, 3) := by decide +kernel
theorem dX0_init_23 : decode cX0_init 23 = .ok (.putfield 18, 3) := by decide +kernel
theorem dX0_init_26 : decode cX0_init 26 = .ok (.aload_n 0, 1) := by decide +kernel
theorem dX0_init_27 : decode cX0_init 27 = .ok (.new 21, 3) := by decide +kernel
theorem dX0_init_30 : decode cX0_init 30 = .ok (.dup, 1) := by decide +kernel
theorem dX0_init_31 : decode cX0_init 31 = .ok (.invokespecial 23, 3) := by decide +kernel
theorem dX0_init_34 : decode cX0_init 34 = .ok (.putfield 24, 3) := by decide +kernel
theorem dX0_init_37 : decode cX0_init 37 = .ok (.return_, 1) := by decide +kernel
set_option maxRecDepth 20000 in
theorem ggX0_cutOne_X5_clear : GoodIn wsX0_cutOne wsX5_clear := goodIn_r _ [6, 7, 48] (by decide +kernel) (by decide +kernel)
set_option maxRecDepth 20000 in
theorem gX0_cutOne_X5_clear : GoodIn wsX0_cutOne (wsV RX0 28 RX5 yX5_clear wsX5_clear) := goodIn_app (goodIn_of _ (by decide +kernel)) ggX0_cutOne_X5_clear
set_option maxRecDepth 20000 in
theorem ggX0_cutOne_X5_cutRosette : GoodIn wsX0_cutOne wsX5_cutRosette := goodIn_r _ [11, 12, 13, 14, 15, 16, 17, 18, 19, 20, 21, 22, 23, 24, 25, 26, 27, 28, 29, 30, 31, 32, 33, 34, 35, 36, 37, 38, 39, 40, 41, 42, 43, 5, 44, 7, 49, 50, 51, 52, 48] (by decide +kernel) (by decide +kernel)
set_option maxRecDepth 20000 in
theorem gX0_cutOne_X5_cutRosette : GoodIn wsX0_cutOne (wsV RX0 31 RX5 yX5_cutRosette wsX5_cutRosette) := goodIn_app (goodIn_of _ (by decide +kernel)) ggX0_cutOne_X5_cutRosette
theorem dX0_cutOne_0 : decode cX0_cutOne 0 = .ok (.aload_n 0, 1) := by decide +kernel
theorem dX0_cutOne_1 : decode cX0_cutOne 1 = .ok (.getfield 12, 3) := by decide +kernel
theorem dX0_cutOne_4 : decode cX0_cutOne 4 = .ok (.invokevirtual 28, 3) := by decide +kernel
theorem dX0_cutOne_7 : decode cX0_cutOne 7 = .ok (.aload_n 0, 1) := by decide +kernel
theorem dX0_cutOne_8 : decode cX0_cutOne 8 = .ok (.getfield 12, 3) := by decide +kernel
theorem dX0_cutOne_11 : decode cX0_cutOne 11 = .ok (.iload_n 1, 1) := by decide +kernel
theorem dX0_cutOne_12 : decode cX0_cutOne 12 = .ok (.aload_n 2, 1) := by decide +kernel
theorem dX0_cutOne_13 : decode cX0_cutOne 13 = .ok (.invokevirtual 31, 3) := by decide +kernel
theorem dX0_cutOne_16 : decode cX0_cutOne 16 = .ok (.aload_n 0, 1) := by decide +kernel
theorem dX0_cutOne_17 : decode cX0_cutOne 17 = .ok (.getfield 12, 3) := by decide +kernel
theorem dX0_cutOne_20 : decode cX0_cutOne 20 = .ok (.areturn, 1) := by decide +kernel
set_option maxRecDepth 20000 in
theorem ggX0_cutAll_X5_clear : GoodIn wsX0_cutAll wsX5_clear := goodIn_r _ [8, 9, 63] (by decide +kernel) (by decide +kernel)
set_option maxRecDepth 20000 in
theorem gX0_cutAll_X5_clear : GoodIn wsX0_cutAll (wsV RX0 28 RX5 yX5_clear wsX5_clear) := goodIn_app (goodIn_of _ (by decide +kernel)) ggX0_cutAll_X5_clear
set_option maxRecDepth 20000 in
theorem ggX0_cutAll_X4_find : GoodIn wsX0_cutAll wsX4_find := goodIn_r _ [14, 15, 16, 57, 58, 59, 60, 61, 62] (by decide +kernel) (by decide +kernel)
set_option maxRecDepth 20000 in
theorem gX0_cutAll_X4_find : GoodIn wsX0_cutAll (wsV RX0 41 RX4 yX4_find wsX4_find) := goodIn_app (goodIn_of _ (by decide +kernel)) ggX0_cutAll_X4_find
set_option maxRecDepth 20000 in
theorem ggX0_cutAll_X5_cutRosette : GoodIn wsX0_cutAll wsX5_cutRosette := goodIn_r _ [20, 21, 22, 23, 24, 25, 26, 27, 28, 29, 30, 31, 32, 33, 34, 35, 36, 37, 38, 39, 40, 41, 42, 43, 44, 45, 46, 47, 48, 49, 50, 51, 52, 7, 53, 9, 64, 65, 66, 67, 63] (by decide +kernel) (by decide +kernel)
set_option maxRecDepth 20000 in
theorem gX0_cutAll_X5_cutRosette : GoodIn wsX0_cutAll (wsV RX0 31 RX5 yX5_cutRosette wsX5_cutRosette) := goodIn_app (goodIn_of _ (by decide +kernel)) ggX0_cutAll_X5_cutRosette
theorem dX0_cutAll_0 : decode cX0_cutAll 0 = .ok (.aload_n 0, 1) := by decide +kernel
theorem dX0_cutAll_1 : decode cX0_cutAll 1 = .ok (.getfield 12, 3) := by decide +kernel
theorem dX0_cutAll_4 : decode cX0_cutAll 4 = .ok (.invokevirtual 28, 3) := by decide +kernel
theorem dX0_cutAll_7 : decode cX0_cutAll 7 = .ok (.iconst 0, 1) := by decide +kernel
theorem dX0_cutAll_8 : decode cX0_cutAll 8 = .ok (.istore_n 2, 1) := by decide +kernel
theorem dX0_cutAll_9 : decode cX0_cutAll 9 = .ok (.iload_n 2, 1) := by decide +kernel
theorem dX0_cutAll_10 : decode cX0_cutAll 10 = .ok (.aload_n 1, 1) := by decide +kernel
theorem dX0_cutAll_11 : decode cX0_cutAll 11 = .ok (.getfield 35, 3) := by decide +kernel
theorem dX0_cutAll_14 : decode cX0_cutAll 14 = .ok (.if_icmp .ge 31, 3) := by decide +kernel
theorem dX0_cutAll_17 : decode cX0_cutAll 17 = .ok (.aload_n 1, 1) := by decide +kernel
theorem dX0_cutAll_18 : decode cX0_cutAll 18 = .ok (.iload_n 2, 1) := by decide +kernel
theorem dX0_cutAll_19 : decode cX0_cutAll 19 = .ok (.invokevirtual 41, 3) := by decide +kernel
theorem dX0_cutAll_22 : decode cX0_cutAll 22 = .ok (.astore_n 3, 1) := by decide +kernel
theorem dX0_cutAll_23 : decode cX0_cutAll 23 = .ok (.aload_n 3, 1) := by decide +kernel
theorem dX0_cutAll_24 : decode cX0_cutAll 24 = .ok (.ifnull 15, 3) := by decide +kernel
theorem dX0_cutAll_27 : decode cX0_cutAll 27 = .ok (.aload_n 0, 1) := by decide +kernel
theorem dX0_cutAll_28 : decode cX0_cutAll 28 = .ok (.getfield 12, 3) := by decide +kernel
theorem dX0_cutAll_31 : decode cX0_cutAll 31 = .ok (.aload_n 1, 1) := by decide +kernel
theorem dX0_cutAll_32 : decode cX0_cutAll 32 = .ok (.getfield 45, 3) := by decide +kernel
theorem dX0_cutAll_35 : decode cX0_cutAll 35 = .ok (.aload_n 3, 1) := by decide +kernel
theorem dX0_cutAll_36 : decode cX0_cutAll 36 = .ok (.invokevirtual 31, 3) := by decide +kernel
theorem dX0_cutAll_39 : decode cX0_cutAll 39 = .ok (.iinc 2 1, 3) := by decide +kernel
theorem dX0_cutAll_42 : decode cX0_cutAll 42 = .ok (.goto (-33), 3) := by decide +kernel
theorem dX0_cutAll_45 : decode cX0_cutAll 45 = .ok (.aload_n 0, 1) := by decide +kernel
theorem dX0_cutAll_46 : decode cX0_cutAll 46 = .ok (.getfield 12, 3) := by decide +kernel
theorem dX0_cutAll_49 : decode cX0_cutAll 49 = .ok (.areturn, 1) := by decide +kernel
set_option maxRecDepth 20000 in
theorem ggX0_countCommon_X5_clear : GoodIn wsX0_countCommon wsX5_clear := goodIn_r _ [7, 8, 60] (by decide +kernel) (by decide +kernel)
set_option maxRecDepth 20000 in
theorem gX0_countCommon_X5_clear : GoodIn wsX0_countCommon (wsV RX0 28 RX5 yX5_clear wsX5_clear) := goodIn_app (goodIn_of _ (by decide +kernel)) ggX0_countCommon_X5_clear
set_option maxRecDepth 20000 in
theorem ggX0_countCommon_X5_cutRosette : GoodIn wsX0_countCommon wsX5_cutRosette := goodIn_r _ [12, 13, 14, 15, 16, 17, 18, 19, 20, 21, 22, 23, 24, 25, 26, 27, 28, 29, 30, 31, 32, 33, 34, 35, 36, 37, 38, 39, 40, 41, 42, 43, 44, 6, 45, 8, 61, 62, 63, 64, 60] (by decide +kernel) (by decide +kernel)
set_option maxRecDepth 20000 in
theorem gX0_countCommon_X5_cutRosette : GoodIn wsX0_countCommon (wsV RX0 31 RX5 yX5_cutRosette wsX5_cutRosette) := goodIn_app (goodIn_of _ (by decide +kernel)) ggX0_countCommon_X5_cutRosette
set_option maxRecDepth 20000 in
theorem ggX0_countCommon_X5_sizeOfBoth : GoodIn wsX0_countCommon wsX5_sizeOfBoth := goodIn_r _ [49, 8, 50, 51, 52, 53, 54, 55, 56, 60] (by decide +kernel) (by decide +kernel)
set_option maxRecDepth 20000 in
theorem gX0_countCommon_X5_sizeOfBoth : GoodIn wsX0_countCommon (wsV RX0 48 RX5 yX5_sizeOfBoth wsX5_sizeOfBoth) := goodIn_app (goodIn_of _ (by decide +kernel)) ggX0_countCommon_X5_sizeOfBoth
theorem dX0_countCommon_0 : decode cX0_countCommon 0 = .ok (.aload_n 0, 1) := by decide +kernel
theorem dX0_countCommon_1 : decode cX0_countCommon 1 = .ok (.getfield 12, 3) := by decide +kernel
theorem dX0_countCommon_4 : decode cX0_countCommon 4 = .ok (.invokevirtual 28, 3) := by decide +kernel
theorem dX0_countCommon_7 : decode cX0_countCommon 7 = .ok (.aload_n 0, 1) := by decide +kernel
theorem dX0_countCommon_8 : decode cX0_countCommon 8 = .ok (.getfield 12, 3) := by decide +kernel
theorem dX0_countCommon_11 : decode cX0_countCommon 11 = .ok (.iload_n 1, 1) := by decide +kernel
theorem dX0_countCommon_12 : decode cX0_countCommon 12 = .ok (.aload_n 2, 1) := by decide +kernel
theorem dX0_countCommon_13 : decode cX0_countCommon 13 = .ok (.invokevirtual 31, 3) := by decide +kernel
theorem dX0_countCommon_16 : decode cX0_countCommon 16 = .ok (.aload_n 0, 1) := by decide +kernel
theorem dX0_countCommon_17 : decode cX0_countCommon 17 = .ok (.getfield 18, 3) := by decide +kernel
theorem dX0_countCommon_20 : decode cX0_countCommon 20 = .ok (.invokevirtual 28, 3) := by decide +kernel
theorem dX0_countCommon_23 : decode cX0_countCommon 23 = .ok (.aload_n 0, 1) := by decide +kernel
theorem dX0_countCommon_24 : decode cX0_countCommon 24 = .ok (.getfield 18, 3) := by decide +kernel
theorem dX0_countCommon_27 : decode cX0_countCommon 27 = .ok (.iload_n 1, 1) := by decide +kernel
theorem dX0_countCommon_28 : decode cX0_countCommon 28 = .ok (.aload_n 3, 1) := by decide +kernel
theorem dX0_countCommon_29 : decode cX0_countCommon 29 = .ok (.invokevirtual 31, 3) := by decide +kernel
theorem dX0_countCommon_32 : decode cX0_countCommon 32 = .ok (.aload_n 0, 1) := by decide +kernel
theorem dX0_countCommon_33 : decode cX0_countCommon 33 = .ok (.getfield 12, 3) := by decide +kernel
theorem dX0_countCommon_36 : decode cX0_countCommon 36 = .ok (.aload_n 0, 1) := by decide +kernel
theorem dX0_countCommon_37 : decode cX0_countCommon 37 = .ok (.getfield 18, 3) := by decide +kernel
theorem dX0_countCommon_40 : decode cX0_countCommon 40 = .ok (.invokevirtual 48, 3) := by decide +kernel
theorem dX0_countCommon_43 : decode cX0_countCommon 43 = .ok (.ireturn, 1) := by decide +kernel
set_option maxRecDepth 20000 in
theorem ggX0_differentStarts_X7_commonDivisor : GoodIn wsX0_differentStarts wsX7_commonDivisor := goodIn_r _ [4] (by decide +kernel) (by decide +kernel)
set_option maxRecDepth 20000 in
theorem gX0_differentStarts_X7_commonDivisor_n55 : GoodIn wsX0_differentStarts (wsX7_commonDivisor) := ggX0_differentStarts_X7_commonDivisor
theorem dX0_differentStarts_0 : decode cX0_differentStarts 0 = .ok (.iload_n 0, 1) := by decide +kernel
theorem dX0_differentStarts_1 : decode cX0_differentStarts 1 = .ok (.i2l, 1) := by decide +kernel
theorem dX0_differentStarts_2 : decode cX0_differentStarts 2 = .ok (.aload_n 1, 1) := by decide +kernel
theorem dX0_differentStarts_3 : decode cX0_differentStarts 3 = .ok (.getfield 52, 3) := by decide +kernel
theorem dX0_differentStarts_6 : decode cX0_differentStarts 6 = .ok (.i2l, 1) := by decide +kernel
theorem dX0_differentStarts_7 : decode cX0_differentStarts 7 = .ok (.invokestatic 55, 3) := by decide +kernel
theorem dX0_differentStarts_10 : decode cX0_differentStarts 10 = .ok (.l2i, 1) := by decide +kernel
theorem dX0_differentStarts_11 : decode cX0_differentStarts 11 = .ok (.ireturn, 1) := by decide +kernel
set_option maxRecDepth 20000 in
theorem ggX0_turnBetween_X5_clear : GoodIn wsX0_turnBetween wsX5_clear := goodIn_r _ [9, 10, 73] (by decide +kernel) (by decide +kernel)
set_option maxRecDepth 20000 in
theorem gX0_turnBetween_X5_clear : GoodIn wsX0_turnBetween (wsV RX0 28 RX5 yX5_clear wsX5_clear) := goodIn_app (goodIn_of _ (by decide +kernel)) ggX0_turnBetween_X5_clear
set_option maxRecDepth 20000 in
theorem ggX0_turnBetween_X5_cutRosette : GoodIn wsX0_turnBetween wsX5_cutRosette := goodIn_r _ [14, 15, 16, 17, 18, 19, 20, 21, 22, 23, 24, 25, 26, 27, 28, 29, 30, 31, 32, 33, 34, 35, 36, 37, 38, 39, 40, 41, 42, 43, 44, 45, 46, 8, 47, 10, 69, 70, 71, 72, 73] (by decide +kernel) (by decide +kernel)
set_option maxRecDepth 20000 in
theorem gX0_turnBetween_X5_cutRosette : GoodIn wsX0_turnBetween (wsV RX0 31 RX5 yX5_cutRosette wsX5_cutRosette) := goodIn_app (goodIn_of _ (by decide +kernel)) ggX0_turnBetween_X5_cutRosette
set_option maxRecDepth 20000 in
theorem ggX0_turnBetween_X3_become : GoodIn wsX0_turnBetween wsX3_become := goodIn_r _ [51, 21, 31, 32, 43, 52, 53, 54, 19, 55, 69, 70, 71, 72] (by decide +kernel) (by decide +kernel)
set_option maxRecDepth 20000 in
theorem gX0_turnBetween_X3_become : GoodIn wsX0_turnBetween (wsV RX0 59 RX3 yX3_become wsX3_become) := goodIn_app (goodIn_of _ (by decide +kernel)) ggX0_turnBetween_X3_become
set_option maxRecDepth 20000 in
theorem ggX0_turnBetween_X0_differentStarts : GoodIn wsX0_turnBetween wsX0_differentStarts := goodIn_r _ [59, 60, 22, 23, 24, 69, 70, 71, 72] (by decide +kernel) (by decide +kernel)
set_option maxRecDepth 20000 in
theorem gX0_turnBetween_X0_differentStarts : GoodIn wsX0_turnBetween (va_wsS RX0 63 yX0_differentStarts wsX0_differentStarts) := goodIn_app (goodIn_of _ (by decide +kernel)) ggX0_turnBetween_X0_differentStarts
set_option maxRecDepth 20000 in
theorem ggX0_turnBetween_X3_angleAt : GoodIn wsX0_turnBetween wsX3_angleAt := goodIn_r _ [42, 43, 37, 23, 38, 69, 70, 71, 72] (by decide +kernel) (by decide +kernel)
set_option maxRecDepth 20000 in
theorem gX0_turnBetween_X3_angleAt : GoodIn wsX0_turnBetween (wsV RX0 67 RX3 yX3_angleAt wsX3_angleAt) := goodIn_app (goodIn_of _ (by decide +kernel)) ggX0_turnBetween_X3_angleAt
set_option maxRecDepth 20000 in
theorem ggX0_turnBetween_X5_isSameAs : GoodIn wsX0_turnBetween wsX5_isSameAs := goodIn_r _ [65, 10, 73] (by decide +kernel) (by decide +kernel)
set_option maxRecDepth 20000 in
theorem gX0_turnBetween_X5_isSameAs : GoodIn wsX0_turnBetween (wsV RX0 74 RX5 yX5_isSameAs wsX5_isSameAs) := goodIn_app (goodIn_of _ (by decide +kernel)) ggX0_turnBetween_X5_isSameAs
theorem dX0_turnBetween_0 : decode cX0_turnBetween 0 = .ok (.aload_n 0, 1) := by decide +kernel
theorem dX0_turnBetween_1 : decode cX0_turnBetween 1 = .ok (.getfield 18, 3) := by decide +kernel
theorem dX0_turnBetween_4 : decode cX0_turnBetween 4 = .ok (.invokevirtual 28, 3) := by decide +kernel
theorem dX0_turnBetween_7 : decode cX0_turnBetween 7 = .ok (.aload_n 0, 1) := by decide +kernel
theorem dX0_turnBetween_8 : decode cX0_turnBetween 8 = .ok (.getfield 18, 3) := by decide +kernel
theorem dX0_turnBetween_11 : decode cX0_turnBetween 11 = .ok (.iload_n 1, 1) := by decide +kernel
theorem dX0_turnBetween_12 : decode cX0_turnBetween 12 = .ok (.aload_n 3, 1) := by decide +kernel
theorem dX0_turnBetween_13 : decode cX0_turnBetween 13 = .ok (.invokevirtual 31, 3) := by decide +kernel
theorem dX0_turnBetween_16 : decode cX0_turnBetween 16 = .ok (.aload_n 0, 1) := by decide +kernel
theorem dX0_turnBetween_17 : decode cX0_turnBetween 17 = .ok (.getfield 24, 3) := by decide +kernel
theorem dX0_turnBetween_20 : decode cX0_turnBetween 20 = .ok (.aload_n 2, 1) := by decide +kernel
theorem dX0_turnBetween_21 : decode cX0_turnBetween 21 = .ok (.invokevirtual 59, 3) := by decide +kernel
theorem dX0_turnBetween_24 : decode cX0_turnBetween 24 = .ok (.iload_n 1, 1) := by decide +kernel
theorem dX0_turnBetween_25 : decode cX0_turnBetween 25 = .ok (.aload_n 2, 1) := by decide +kernel
theorem dX0_turnBetween_26 : decode cX0_turnBetween 26 = .ok (.invokestatic 63, 3) := by decide +kernel
theorem dX0_turnBetween_29 : decode cX0_turnBetween 29 = .ok (.istore 4, 2) := by decide +kernel
theorem dX0_turnBetween_31 : decode cX0_turnBetween 31 = .ok (.iconst 0, 1) := by decide +kernel
theorem dX0_turnBetween_32 : decode cX0_turnBetween 32 = .ok (.istore 5, 2) := by decide +kernel
theorem dX0_turnBetween_34 : decode cX0_turnBetween 34 = .ok (.iload 5, 2) := by decide +kernel
theorem dX0_turnBetween_36 : decode cX0_turnBetween 36 = .ok (.iload 4, 2) := by decide +kernel
theorem dX0_turnBetween_38 : decode cX0_turnBetween 38 = .ok (.if_icmp .ge 60, 3) := by decide +kernel
theorem dX0_turnBetween_41 : decode cX0_turnBetween 41 = .ok (.aload_n 0, 1) := by decide +kernel
theorem dX0_turnBetween_42 : decode cX0_turnBetween 42 = .ok (.getfield 24, 3) := by decide +kernel
theorem dX0_turnBetween_45 : decode cX0_turnBetween 45 = .ok (.aload_n 2, 1) := by decide +kernel
theorem dX0_turnBetween_46 : decode cX0_turnBetween 46 = .ok (.iload_n 1, 1) := by decide +kernel
theorem dX0_turnBetween_47 : decode cX0_turnBetween 47 = .ok (.iload 5, 2) := by decide +kernel
theorem dX0_turnBetween_49 : decode cX0_turnBetween 49 = .ok (.i2l, 1) := by decide +kernel
theorem dX0_turnBetween_50 : decode cX0_turnBetween 50 = .ok (.invokevirtual 67, 3) := by decide +kernel
theorem dX0_turnBetween_53 : decode cX0_turnBetween 53 = .ok (.putfield 71, 3) := by decide +kernel
theorem dX0_turnBetween_56 : decode cX0_turnBetween 56 = .ok (.aload_n 0, 1) := by decide +kernel
theorem dX0_turnBetween_57 : decode cX0_turnBetween 57 = .ok (.getfield 12, 3) := by decide +kernel
theorem dX0_turnBetween_60 : decode cX0_turnBetween 60 = .ok (.invokevirtual 28, 3) := by decide +kernel
theorem dX0_turnBetween_63 : decode cX0_turnBetween 63 = .ok (.aload_n 0, 1) := by decide +kernel
theorem dX0_turnBetween_64 : decode cX0_turnBetween 64 = .ok (.getfield 12, 3) := by decide +kernel
theorem dX0_turnBetween_67 : decode cX0_turnBetween 67 = .ok (.iload_n 1, 1) := by decide +kernel
theorem dX0_turnBetween_68 : decode cX0_turnBetween 68 = .ok (.aload_n 0, 1) := by decide +kernel
theorem dX0_turnBetween_69 : decode cX0_turnBetween 69 = .ok (.getfield 24, 3) := by decide +kernel
theorem dX0_turnBetween_72 : decode cX0_turnBetween 72 = .ok (.invokevirtual 31, 3) := by decide +kernel
theorem dX0_turnBetween_75 : decode cX0_turnBetween 75 = .ok (.aload_n 0, 1) := by decide +kernel
theorem dX0_turnBetween_76 : decode cX0_turnBetween 76 = .ok (.getfield 12, 3) := by decide +kernel
theorem dX0_turnBetween_79 : decode cX0_turnBetween 79 = .ok (.aload_n 0, 1) := by decide +kernel
theorem dX0_turnBetween_80 : decode cX0_turnBetween 80 = .ok (.getfield 18, 3) := by decide +kernel
theorem dX0_turnBetween_83 : decode cX0_turnBetween 83 = .ok (.invokevirtual 74, 3) := by decide +kernel
theorem dX0_turnBetween_86 : decode cX0_turnBetween 86 = .ok (.ifCond .eq 6, 3) := by decide +kernel
theorem dX0_turnBetween_89 : decode cX0_turnBetween 89 = .ok (.iload 5, 2) := by decide +kernel
theorem dX0_turnBetween_91 : decode cX0_turnBetween 91 = .ok (.ireturn, 1) := by decide +kernel
theorem dX0_turnBetween_92 : decode cX0_turnBetween 92 = .ok (.iinc 5 1, 3) := by decide +kernel
theorem dX0_turnBetween_95 : decode cX0_turnBetween 95 = .ok (.goto (-61), 3) := by decide +kernel
theorem dX0_turnBetween_98 : decode cX0_turnBetween 98 = .ok (.bipush (-9), 2) := by decide +kernel
theorem dX0_turnBetween_100 : decode cX0_turnBetween 100 = .ok (.ireturn, 1) := by decide +kernel
set_option maxRecDepth 20000 in
theorem ggX0_startWithMost_X5_clear : GoodIn wsX0_startWithMost wsX5_clear := goodIn_r _ [9, 10, 79] (by decide +kernel) (by decide +kernel)
set_option maxRecDepth 20000 in
theorem gX0_startWithMost_X5_clear : GoodIn wsX0_startWithMost (wsV RX0 28 RX5 yX5_clear wsX5_clear) := goodIn_app (goodIn_of _ (by decide +kernel)) ggX0_startWithMost_X5_clear
set_option maxRecDepth 20000 in
theorem ggX0_startWithMost_X5_cutRosette : GoodIn wsX0_startWithMost wsX5_cutRosette := goodIn_r _ [14, 15, 16, 17, 18, 19, 20, 21, 22, 23, 24, 25, 26, 27, 28, 29, 30, 31, 32, 33, 34, 35, 36, 37, 38, 39, 40, 41, 42, 43, 44, 45, 46, 8, 47, 10, 75, 76, 77, 78, 79] (by decide +kernel) (by decide +kernel)
set_option maxRecDepth 20000 in
theorem gX0_startWithMost_X5_cutRosette : GoodIn wsX0_startWithMost (wsV RX0 31 RX5 yX5_cutRosette wsX5_cutRosette) := goodIn_app (goodIn_of _ (by decide +kernel)) ggX0_startWithMost_X5_cutRosette
set_option maxRecDepth 20000 in
theorem ggX0_startWithMost_X3_become : GoodIn wsX0_startWithMost wsX3_become := goodIn_r _ [51, 21, 31, 32, 43, 52, 53, 54, 19, 55, 75, 76, 77, 78] (by decide +kernel) (by decide +kernel)
set_option maxRecDepth 20000 in
theorem gX0_startWithMost_X3_become : GoodIn wsX0_startWithMost (wsV RX0 59 RX3 yX3_become wsX3_become) := goodIn_app (goodIn_of _ (by decide +kernel)) ggX0_startWithMost_X3_become
set_option maxRecDepth 20000 in
theorem ggX0_startWithMost_X0_differentStarts : GoodIn wsX0_startWithMost wsX0_differentStarts := goodIn_r _ [59, 60, 22, 23, 24, 75, 76, 77, 78] (by decide +kernel) (by decide +kernel)
set_option maxRecDepth 20000 in
theorem gX0_startWithMost_X0_differentStarts : GoodIn wsX0_startWithMost (va_wsS RX0 63 yX0_differentStarts wsX0_differentStarts) := goodIn_app (goodIn_of _ (by decide +kernel)) ggX0_startWithMost_X0_differentStarts
set_option maxRecDepth 20000 in
theorem ggX0_startWithMost_X5_sizeOfBoth : GoodIn wsX0_startWithMost wsX5_sizeOfBoth := goodIn_r _ [64, 10, 65, 66, 67, 68, 69, 70, 71, 79] (by decide +kernel) (by decide +kernel)
set_option maxRecDepth 20000 in
theorem gX0_startWithMost_X5_sizeOfBoth : GoodIn wsX0_startWithMost (wsV RX0 48 RX5 yX5_sizeOfBoth wsX5_sizeOfBoth) := goodIn_app (goodIn_of _ (by decide +kernel)) ggX0_startWithMost_X5_sizeOfBoth
theorem dX0_startWithMost_0 : decode cX0_startWithMost 0 = .ok (.aload_n 0, 1) := by decide +kernel
theorem dX0_startWithMost_1 : decode cX0_startWithMost 1 = .ok (.getfield 18, 3) := by decide +kernel
theorem dX0_startWithMost_4 : decode cX0_startWithMost 4 = .ok (.invokevirtual 28, 3) := by decide +kernel
theorem dX0_startWithMost_7 : decode cX0_startWithMost 7 = .ok (.aload_n 0, 1) := by decide +kernel
theorem dX0_startWithMost_8 : decode cX0_startWithMost 8 = .ok (.getfield 18, 3) := by decide +kernel
theorem dX0_startWithMost_11 : decode cX0_startWithMost 11 = .ok (.iload_n 1, 1) := by decide +kernel
theorem dX0_startWithMost_12 : decode cX0_startWithMost 12 = .ok (.aload_n 3, 1) := by decide +kernel
theorem dX0_startWithMost_13 : decode cX0_startWithMost 13 = .ok (.invokevirtual 31, 3) := by decide +kernel
theorem dX0_startWithMost_16 : decode cX0_startWithMost 16 = .ok (.aload_n 0, 1) := by decide +kernel
theorem dX0_startWithMost_17 : decode cX0_startWithMost 17 = .ok (.getfield 24, 3) := by decide +kernel
theorem dX0_startWithMost_20 : decode cX0_startWithMost 20 = .ok (.aload_n 2, 1) := by decide +kernel
theorem dX0_startWithMost_21 : decode cX0_startWithMost 21 = .ok (.invokevirtual 59, 3) := by decide +kernel
theorem dX0_startWithMost_24 : decode cX0_startWithMost 24 = .ok (.iload_n 1, 1) := by decide +kernel
theorem dX0_startWithMost_25 : decode cX0_startWithMost 25 = .ok (.aload_n 2, 1) := by decide +kernel
theorem dX0_startWithMost_26 : decode cX0_startWithMost 26 = .ok (.invokestatic 63, 3) := by decide +kernel
theorem dX0_startWithMost_29 : decode cX0_startWithMost 29 = .ok (.istore 4, 2) := by decide +kernel
theorem dX0_startWithMost_31 : decode cX0_startWithMost 31 = .ok (.iconst 0, 1) := by decide +kernel
theorem dX0_startWithMost_32 : decode cX0_startWithMost 32 = .ok (.istore 5, 2) := by decide +kernel
theorem dX0_startWithMost_34 : decode cX0_startWithMost 34 = .ok (.bipush (-9), 2) := by decide +kernel
theorem dX0_startWithMost_36 : decode cX0_startWithMost 36 = .ok (.istore 6, 2) := by decide +kernel
theorem dX0_startWithMost_38 : decode cX0_startWithMost 38 = .ok (.iconst 0, 1) := by decide +kernel
theorem dX0_startWithMost_39 : decode cX0_startWithMost 39 = .ok (.istore 7, 2) := by decide +kernel
theorem dX0_startWithMost_41 : decode cX0_startWithMost 41 = .ok (.iload 7, 2) := by decide +kernel
theorem dX0_startWithMost_43 : decode cX0_startWithMost 43 = .ok (.iload 4, 2) := by decide +kernel
theorem dX0_startWithMost_45 : decode cX0_startWithMost 45 = .ok (.if_icmp .ge 65, 3) := by decide +kernel
theorem dX0_startWithMost_48 : decode cX0_startWithMost 48 = .ok (.aload_n 0, 1) := by decide +kernel
theorem dX0_startWithMost_49 : decode cX0_startWithMost 49 = .ok (.getfield 24, 3) := by decide +kernel
theorem dX0_startWithMost_52 : decode cX0_startWithMost 52 = .ok (.iload 7, 2) := by decide +kernel
theorem dX0_startWithMost_54 : decode cX0_startWithMost 54 = .ok (.putfield 71, 3) := by decide +kernel
theorem dX0_startWithMost_57 : decode cX0_startWithMost 57 = .ok (.aload_n 0, 1) := by decide +kernel
theorem dX0_startWithMost_58 : decode cX0_startWithMost 58 = .ok (.getfield 12, 3) := by decide +kernel
theorem dX0_startWithMost_61 : decode cX0_startWithMost 61 = .ok (.invokevirtual 28, 3) := by decide +kernel
theorem dX0_startWithMost_64 : decode cX0_startWithMost 64 = .ok (.aload_n 0, 1) := by decide +kernel
theorem dX0_startWithMost_65 : decode cX0_startWithMost 65 = .ok (.getfield 12, 3) := by decide +kernel
theorem dX0_startWithMost_68 : decode cX0_startWithMost 68 = .ok (.iload_n 1, 1) := by decide +kernel
theorem dX0_startWithMost_69 : decode cX0_startWithMost 69 = .ok (.aload_n 0, 1) := by decide +kernel
theorem dX0_startWithMost_70 : decode cX0_startWithMost 70 = .ok (.getfield 24, 3) := by decide +kernel
theorem dX0_startWithMost_73 : decode cX0_startWithMost 73 = .ok (.invokevirtual 31, 3) := by decide +kernel
theorem dX0_startWithMost_76 : decode cX0_startWithMost 76 = .ok (.aload_n 0, 1) := by decide +kernel
theorem dX0_startWithMost_77 : decode cX0_startWithMost 77 = .ok (.getfield 12, 3) := by decide +kernel
theorem dX0_startWithMost_80 : decode cX0_startWithMost 80 = .ok (.aload_n 0, 1) := by decide +kernel
theorem dX0_startWithMost_81 : decode cX0_startWithMost 81 = .ok (.getfield 18, 3) := by decide +kernel
theorem dX0_startWithMost_84 : decode cX0_startWithMost 84 = .ok (.invokevirtual 48, 3) := by decide +kernel
theorem dX0_startWithMost_87 : decode cX0_startWithMost 87 = .ok (.istore 8, 2) := by decide +kernel
theorem dX0_startWithMost_89 : decode cX0_startWithMost 89 = .ok (.iload 8, 2) := by decide +kernel
theorem dX0_startWithMost_91 : decode cX0_startWithMost 91 = .ok (.iload 6, 2) := by decide +kernel
theorem dX0_startWithMost_93 : decode cX0_startWithMost 93 = .ok (.if_icmp .le 11, 3) := by decide +kernel
theorem dX0_startWithMost_96 : decode cX0_startWithMost 96 = .ok (.iload 8, 2) := by decide +kernel
theorem dX0_startWithMost_98 : decode cX0_startWithMost 98 = .ok (.istore 6, 2) := by decide +kernel
theorem dX0_startWithMost_100 : decode cX0_startWithMost 100 = .ok (.iload 7, 2) := by decide +kernel
theorem dX0_startWithMost_102 : decode cX0_startWithMost 102 = .ok (.istore 5, 2) := by decide +kernel
theorem dX0_startWithMost_104 : decode cX0_startWithMost 104 = .ok (.iinc 7 1, 3) := by decide +kernel
theorem dX0_startWithMost_107 : decode cX0_startWithMost 107 = .ok (.goto (-66), 3) := by decide +kernel
theorem dX0_startWithMost_110 : decode cX0_startWithMost 110 = .ok (.iload 5, 2) := by decide +kernel
theorem dX0_startWithMost_112 : decode cX0_startWithMost 112 = .ok (.ireturn, 1) := by decide +kernel
theorem dX1_init_0 : decode cX1_init 0 = .ok (.aload_n 0, 1) := by decide +kernel
theorem dX1_init_1 : decode cX1_init 1 = .ok (.invokespecial 1, 3) := by decide +kernel
theorem dX1_init_4 : decode cX1_init 4 = .ok (.aload_n 0, 1) := by decide +kernel
theorem dX1_init_5 : decode cX1_init 5 = .ok (.iload_n 1, 1) := by decide +kernel
theorem dX1_init_6 : decode cX1_init 6 = .ok (.sipush 10000, 3) := by decide +kernel
theorem dX1_init_9 : decode cX1_init 9 = .ok (.idiv, 1) := by decide +kernel
theorem dX1_init_10 : decode cX1_init 10 = .ok (.bipush 10, 2) := by decide +kernel
theorem dX1_init_12 : decode cX1_init 12 = .ok (.irem, 1) := by decide +kernel
theorem dX1_init_13 : decode cX1_init 13 = .ok (.putfield 7, 3) := by decide +kernel
theorem dX1_init_16 : decode cX1_init 16 = .ok (.aload_n 0, 1) := by decide +kernel
theorem dX1_init_17 : decode cX1_init 17 = .ok (.iload_n 1, 1) := by decide +kernel
theorem dX1_init_18 : decode cX1_init 18 = .ok (.sipush 1000, 3) := by decide +kernel
theorem dX1_init_21 : decode cX1_init 21 = .ok (.idiv, 1) := by decide +kernel
theorem dX1_init_22 : decode cX1_init 22 = .ok (.bipush 10, 2) := by decide +kernel
theorem dX1_init_24 : decode cX1_init 24 = .ok (.irem, 1) := by decide +kernel
theorem dX1_init_25 : decode cX1_init 25 = .ok (.putfield 13, 3) := by decide +kernel
theorem dX1_init_28 : decode cX1_init 28 = .ok (.aload_n 0, 1) := by decide +kernel
theorem dX1_init_29 : decode cX1_init 29 = .ok (.iload_n 1, 1) := by decide +kernel
theorem dX1_init_30 : decode cX1_init 30 = .ok (.bipush 100, 2) := by decide +kernel
theorem dX1_init_32 : decode cX1_init 32 = .ok (.idiv, 1) := by decide +kernel
theorem dX1_init_33 : decode cX1_init 33 = .ok (.bipush 10, 2) := by decide +kernel
theorem dX1_init_35 : decode cX1_init 35 = .ok (.irem, 1) := by decide +kernel
theorem dX1_init_36 : decode cX1_init 36 = .ok (.putfield 16, 3) := by decide +kernel
theorem dX1_init_39 : decode cX1_init 39 = .ok (.aload_n 0, 1) := by decide +kernel
theorem dX1_init_40 : decode cX1_init 40 = .ok (.iload_n 1, 1) := by decide +kernel
theorem dX1_init_41 : decode cX1_init 41 = .ok (.bipush 10, 2) := by decide +kernel
theorem dX1_init_43 : decode cX1_init 43 = .ok (.idiv, 1) := by decide +kernel
theorem dX1_init_44 : decode cX1_init 44 = .ok (.bipush 10, 2) := by decide +kernel
theorem dX1_init_46 : decode cX1_init 46 = .ok (.irem, 1) := by decide +kernel
theorem dX1_init_47 : decode cX1_init 47 = .ok (.putfield 19, 3) := by decide +kernel
theorem dX1_init_50 : decode cX1_init 50 = .ok (.aload_n 0, 1) := by decide +kernel
theorem dX1_init_51 : decode cX1_init 51 = .ok (.iload_n 1, 1) := by decide +kernel
theorem dX1_init_52 : decode cX1_init 52 = .ok (.bipush 10, 2) := by decide +kernel
theorem dX1_init_54 : decode cX1_init 54 = .ok (.irem, 1) := by decide +kernel
theorem dX1_init_55 : decode cX1_init 55 = .ok (.putfield 22, 3) := by decide +kernel
theorem dX1_init_58 : decode cX1_init 58 = .ok (.return_, 1) := by decide +kernel
theorem dX1_lastTwo_0 : decode cX1_lastTwo 0 = .ok (.bipush 10, 2) := by decide +kernel
theorem dX1_lastTwo_2 : decode cX1_lastTwo 2 = .ok (.aload_n 0, 1) := by decide +kernel
theorem dX1_lastTwo_3 : decode cX1_lastTwo 3 = .ok (.getfield 19, 3) := by decide +kernel
theorem dX1_lastTwo_6 : decode cX1_lastTwo 6 = .ok (.imul, 1) := by decide +kernel
theorem dX1_lastTwo_7 : decode cX1_lastTwo 7 = .ok (.aload_n 0, 1) := by decide +kernel
theorem dX1_lastTwo_8 : decode cX1_lastTwo 8 = .ok (.getfield 22, 3) := by decide +kernel
theorem dX1_lastTwo_11 : decode cX1_lastTwo 11 = .ok (.iadd, 1) := by decide +kernel
theorem dX1_lastTwo_12 : decode cX1_lastTwo 12 = .ok (.ireturn, 1) := by decide +kernel
set_option maxRecDepth 20000 in
theorem ggX1_succeeds_X1_changes : GoodIn wsX1_succeeds wsX1_changes := goodIn_r _ [8, 3, 2, 9, 10, 11, 12, 13, 14, 15, 16, 17, 18, 7, 19, 20, 21, 22, 23, 24, 25, 26, 27, 28, 29, 30, 31, 32, 33, 34, 35, 36, 37, 38, 39, 40, 41, 42, 43, 44, 45, 46, 207, 208, 209, 210, 211, 212, 213, 214, 215, 216, 217, 218, 219, 220, 221] (by decide +kernel) (by decide +kernel)
set_option maxRecDepth 20000 in
theorem gX1_succeeds_X1_changes : GoodIn wsX1_succeeds (wsV RX1 25 RX1 yX1_changes wsX1_changes) := goodIn_app (goodIn_of _ (by decide +kernel)) ggX1_succeeds_X1_changes
set_option maxRecDepth 20000 in
theorem ggX1_succeeds_X1_removes : GoodIn wsX1_succeeds wsX1_removes := goodIn_r _ [50, 2, 3, 16, 17, 18, 7, 19, 20, 21, 9, 10, 11, 12, 13, 14, 15, 51, 52, 53, 54, 55, 56, 57, 58, 41, 59, 44, 45, 46, 43, 60, 61, 62, 63, 207, 208, 209, 210, 211, 212, 213, 214, 215, 216, 217, 218, 219, 220, 221] (by decide +kernel) (by decide +kernel)
set_option maxRecDepth 20000 in
theorem gX1_succeeds_X1_removes : GoodIn wsX1_succeeds (wsV RX1 29 RX1 yX1_removes wsX1_removes) := goodIn_app (goodIn_of _ (by decide +kernel)) ggX1_succeeds_X1_removes
set_option maxRecDepth 20000 in
theorem ggX1_succeeds_X1_takesRing : GoodIn wsX1_succeeds wsX1_takesRing := goodIn_r _ [67, 3, 2, 16, 17, 18, 7, 19, 20, 21, 68, 27, 69, 70, 71, 72, 12, 73, 37, 14, 74, 75, 55, 10, 11, 13, 15, 33, 34, 35, 36, 207, 208, 209, 210, 211, 212, 213, 214, 215, 216, 217, 218, 219, 220, 221] (by decide +kernel) (by decide +kernel)
set_option maxRecDepth 20000 in
theorem gX1_succeeds_X1_takesRing : GoodIn wsX1_succeeds (wsV RX1 32 RX1 yX1_takesRing wsX1_takesRing) := goodIn_app (goodIn_of _ (by decide +kernel)) ggX1_succeeds_X1_takesRing
set_option maxRecDepth 20000 in
theorem ggX1_succeeds_X1_adds : GoodIn wsX1_succeeds wsX1_adds := goodIn_r _ [79, 2, 20, 3, 21, 29, 27, 30, 26, 28, 31, 32, 80, 81, 82, 12, 83, 14, 84, 85, 86, 87, 88, 55, 10, 11, 13, 15, 89, 61, 62, 41, 63, 44, 45, 46, 43, 207, 208, 209, 210, 211, 212, 213, 214, 215, 216, 217, 218, 219, 220, 221] (by decide +kernel) (by decide +kernel)
set_option maxRecDepth 20000 in
theorem gX1_succeeds_X1_adds : GoodIn wsX1_succeeds (wsV RX1 35 RX1 yX1_adds wsX1_adds) := goodIn_app (goodIn_of _ (by decide +kernel)) ggX1_succeeds_X1_adds
set_option maxRecDepth 20000 in
theorem ggX1_succeeds_X1_sharesEnough : GoodIn wsX1_succeeds wsX1_sharesEnough := goodIn_r _ [93, 3, 2, 94, 9, 10, 11, 12, 13, 14, 15, 95, 96, 97, 98, 99, 100, 101, 102, 103, 104, 105, 106, 107, 108, 109, 110, 111, 112, 113, 114, 115, 41, 116, 44, 117, 27, 118, 119, 120, 121, 122, 123, 124, 45, 46, 125, 126, 127, 128, 129, 130, 131, 132, 133, 134, 43, 135, 136, 137, 138, 139, 140, 141, 142, 143, 144, 145, 146, 147, 148, 149, 16, 17, 18, 7, 19, 20, 21, 207, 208, 209, 210, 211, 212, 213, 214, 215, 216, 217, 222, 223, 224, 225, 218, 219, 220, 221] (by decide +kernel) (by decide +kernel)
set_option maxRecDepth 20000 in
theorem gX1_succeeds_X1_sharesEnough : GoodIn wsX1_succeeds (wsV RX1 38 RX1 yX1_sharesEnough wsX1_sharesEnough) := goodIn_app (goodIn_of _ (by decide +kernel)) ggX1_succeeds_X1_sharesEnough
set_option maxRecDepth 20000 in
theorem ggX1_succeeds_X1_hasTurns : GoodIn wsX1_succeeds wsX1_hasTurns := goodIn_r _ [153, 3, 2, 94, 9, 10, 11, 12, 13, 14, 15, 154, 155, 156, 41, 157, 44, 117, 27, 118, 119, 120, 16, 17, 18, 7, 19, 20, 21, 207, 208, 209, 210, 211, 212, 213, 214, 215, 216, 217, 218, 219, 220, 221] (by decide +kernel) (by decide +kernel)
set_option maxRecDepth 20000 in
theorem gX1_succeeds_X1_hasTurns : GoodIn wsX1_succeeds (wsV RX1 42 RX1 yX1_hasTurns wsX1_hasTurns) := goodIn_app (goodIn_of _ (by decide +kernel)) ggX1_succeeds_X1_hasTurns
set_option maxRecDepth 20000 in
theorem ggX1_succeeds_X1_isTurned : GoodIn wsX1_succeeds wsX1_isTurned := goodIn_r _ [161, 3, 2, 94, 9, 10, 11, 12, 13, 14, 15, 162, 163, 164, 98, 165, 101, 166, 167, 100, 102, 103, 104, 105, 106, 107, 108, 109, 110, 111, 112, 113, 114, 115, 41, 116, 44, 117, 27, 118, 119, 120, 121, 122, 123, 124, 45, 46, 125, 126, 127, 128, 129, 130, 131, 132, 133, 134, 43, 135, 136, 137, 138, 168, 57, 58, 59, 60, 61, 62, 63, 169, 170, 171, 172, 173, 174, 175, 176, 177, 16, 17, 18, 7, 19, 20, 21, 207, 208, 209, 210, 211, 212, 213, 214, 215, 216, 217, 222, 223, 224, 218, 219, 220, 221, 225] (by decide +kernel) (by decide +kernel)
set_option maxRecDepth 20000 in
theorem gX1_succeeds_X1_isTurned : GoodIn wsX1_succeeds (wsV RX1 45 RX1 yX1_isTurned wsX1_isTurned) := goodIn_app (goodIn_of _ (by decide +kernel)) ggX1_succeeds_X1_isTurned
set_option maxRecDepth 20000 in
theorem ggX1_succeeds_X1_lastTwo : GoodIn wsX1_succeeds wsX1_lastTwo := goodIn_r _ [19, 20, 21, 207, 208, 209, 210, 211] (by decide +kernel) (by decide +kernel)
set_option maxRecDepth 20000 in
theorem gX1_succeeds_X1_lastTwo : GoodIn wsX1_succeeds (wsV RX1 48 RX1 yX1_lastTwo wsX1_lastTwo) := goodIn_app (goodIn_of _ (by decide +kernel)) ggX1_succeeds_X1_lastTwo
set_option maxRecDepth 20000 in
theorem ggX1_succeeds_X4_fitting : GoodIn wsX1_succeeds wsX4_fitting := goodIn_r _ [181, 14, 55, 10, 11, 12, 13, 15, 182, 183, 184, 185, 186, 37, 187, 188, 189, 190, 75, 191, 192, 193, 194, 195, 196, 197, 198, 41, 199, 43, 129, 27, 130, 200, 155, 156, 157, 44, 117, 118, 119, 120, 201, 122, 123, 124, 45, 46, 125, 126, 127, 128, 212, 213, 214, 215, 216, 217, 218, 219, 220, 221] (by decide +kernel) (by decide +kernel)
set_option maxRecDepth 20000 in
theorem gX1_succeeds_X4_fitting : GoodIn wsX1_succeeds (wsV RX1 52 RX4 yX4_fitting wsX4_fitting) := goodIn_app (goodIn_of _ (by decide +kernel)) ggX1_succeeds_X4_fitting
set_option maxRecDepth 20000 in
theorem ggX1_succeeds_X1_hasLobes : GoodIn wsX1_succeeds wsX1_hasLobes := goodIn_r _ [205, 3, 2, 94, 9, 10, 11, 12, 13, 14, 15, 206, 114, 115, 41, 116, 44, 117, 27, 118, 119, 120, 16, 17, 18, 7, 19, 20, 21, 207, 208, 209, 210, 211, 212, 213, 214, 215, 216, 217, 218, 219, 220, 221] (by decide +kernel) (by decide +kernel)
set_option maxRecDepth 20000 in
theorem gX1_succeeds_X1_hasLobes : GoodIn wsX1_succeeds (wsV RX1 57 RX1 yX1_hasLobes wsX1_hasLobes) := goodIn_app (goodIn_of _ (by decide +kernel)) ggX1_succeeds_X1_hasLobes
theorem dX1_succeeds_0 : decode cX1_succeeds 0 = .ok (.aload_n 0, 1) := by decide +kernel
theorem dX1_succeeds_1 : decode cX1_succeeds 1 = .ok (.getfield 7, 3) := by decide +kernel
theorem dX1_succeeds_4 : decode cX1_succeeds 4 = .ok (.tableswitch 133 1 9 #[52, 58, 64, 70, 76, 83, 89, 96, 127], 52) := by decide +kernel
theorem dX1_succeeds_56 : decode cX1_succeeds 56 = .ok (.aload_n 0, 1) := by decide +kernel
theorem dX1_succeeds_57 : decode cX1_succeeds 57 = .ok (.aload_n 1, 1) := by decide +kernel
theorem dX1_succeeds_58 : decode cX1_succeeds 58 = .ok (.invokevirtual 25, 3) := by decide +kernel
theorem dX1_succeeds_61 : decode cX1_succeeds 61 = .ok (.ireturn, 1) := by decide +kernel
theorem dX1_succeeds_62 : decode cX1_succeeds 62 = .ok (.aload_n 0, 1) := by decide +kernel
theorem dX1_succeeds_63 : decode cX1_succeeds 63 = .ok (.aload_n 1, 1) := by decide +kernel
theorem dX1_succeeds_64 : decode cX1_succeeds 64 = .ok (.invokevirtual 29, 3) := by decide +kernel
theorem dX1_succeeds_67 : decode cX1_succeeds 67 = .ok (.ireturn, 1) := by decide +kernel
theorem dX1_succeeds_68 : decode cX1_succeeds 68 = .ok (.aload_n 0, 1) := by decide +kernel
theorem dX1_succeeds_69 : decode cX1_succeeds 69 = .ok (.aload_n 1, 1) := by decide +kernel
theorem dX1_succeeds_70 : decode cX1_succeeds 70 = .ok (.invokevirtual 32, 3) := by decide +kernel
theorem dX1_succeeds_73 : decode cX1_succeeds 73 = .ok (.ireturn, 1) := by decide +kernel
theorem dX1_succeeds_74 : decode cX1_succeeds 74 = .ok (.aload_n 0, 1) := by decide +kernel
theorem dX1_succeeds_75 : decode cX1_succeeds 75 = .ok (.aload_n 1, 1) := by decide +kernel
theorem dX1_succeeds_76 : decode cX1_succeeds 76 = .ok (.invokevirtual 35, 3) := by decide +kernel
theorem dX1_succeeds_79 : decode cX1_succeeds 79 = .ok (.ireturn, 1) := by decide +kernel
theorem dX1_succeeds_80 : decode cX1_succeeds 80 = .ok (.aload_n 0, 1) := by decide +kernel
theorem dX1_succeeds_81 : decode cX1_succeeds 81 = .ok (.aload_n 1, 1) := by decide +kernel
theorem dX1_succeeds_82 : decode cX1_succeeds 82 = .ok (.aload_n 2, 1) := by decide +kernel
theorem dX1_succeeds_83 : decode cX1_succeeds 83 = .ok (.invokevirtual 38, 3) := by decide +kernel
theorem dX1_succeeds_86 : decode cX1_succeeds 86 = .ok (.ireturn, 1) := by decide +kernel
theorem dX1_succeeds_87 : decode cX1_succeeds 87 = .ok (.aload_n 0, 1) := by decide +kernel
theorem dX1_succeeds_88 : decode cX1_succeeds 88 = .ok (.aload_n 1, 1) := by decide +kernel
theorem dX1_succeeds_89 : decode cX1_succeeds 89 = .ok (.invokevirtual 42, 3) := by decide +kernel
theorem dX1_succeeds_92 : decode cX1_succeeds 92 = .ok (.ireturn, 1) := by decide +kernel
theorem dX1_succeeds_93 : decode cX1_succeeds 93 = .ok (.aload_n 0, 1) := by decide +kernel
theorem dX1_succeeds_94 : decode cX1_succeeds 94 = .ok (.aload_n 1, 1) := by decide +kernel
theorem dX1_succeeds_95 : decode cX1_succeeds 95 = .ok (.aload_n 2, 1) := by decide +kernel
theorem dX1_succeeds_96 : decode cX1_succeeds 96 = .ok (.invokevirtual 45, 3) := by decide +kernel
theorem dX1_succeeds_99 : decode cX1_succeeds 99 = .ok (.ireturn, 1) := by decide +kernel
theorem dX1_succeeds_100 : decode cX1_succeeds 100 = .ok (.aload_n 0, 1) := by decide +kernel
theorem dX1_succeeds_101 : decode cX1_succeeds 101 = .ok (.getfield 16, 3) := by decide +kernel
theorem dX1_succeeds_104 : decode cX1_succeeds 104 = .ok (.ifCond .ne 25, 3) := by decide +kernel
theorem dX1_succeeds_107 : decode cX1_succeeds 107 = .ok (.aload_n 0, 1) := by decide +kernel
theorem dX1_succeeds_108 : decode cX1_succeeds 108 = .ok (.invokevirtual 48, 3) := by decide +kernel
theorem dX1_succeeds_111 : decode cX1_succeeds 111 = .ok (.ifCond .ne 18, 3) := by decide +kernel
theorem dX1_succeeds_114 : decode cX1_succeeds 114 = .ok (.aload_n 1, 1) := by decide +kernel
theorem dX1_succeeds_115 : decode cX1_succeeds 115 = .ok (.invokevirtual 52, 3) := by decide +kernel
theorem dX1_succeeds_118 : decode cX1_succeeds 118 = .ok (.aload_n 0, 1) := by decide +kernel
theorem dX1_succeeds_119 : decode cX1_succeeds 119 = .ok (.getfield 13, 3) := by decide +kernel
theorem dX1_succeeds_122 : decode cX1_succeeds 122 = .ok (.if_icmp .lt 7, 3) := by decide +kernel
theorem dX1_succeeds_125 : decode cX1_succeeds 125 = .ok (.iconst 1, 1) := by decide +kernel
theorem dX1_succeeds_126 : decode cX1_succeeds 126 = .ok (.goto 4, 3) := by decide +kernel
theorem dX1_succeeds_129 : decode cX1_succeeds 129 = .ok (.iconst 0, 1) := by decide +kernel
theorem dX1_succeeds_130 : decode cX1_succeeds 130 = .ok (.ireturn, 1) := by decide +kernel
theorem dX1_succeeds_131 : decode cX1_succeeds 131 = .ok (.aload_n 0, 1) := by decide +kernel
theorem dX1_succeeds_132 : decode cX1_succeeds 132 = .ok (.aload_n 1, 1) := by decide +kernel
theorem dX1_succeeds_133 : decode cX1_succeeds 133 = .ok (.invokevirtual 57, 3) := by decide +kernel
theorem dX1_succeeds_136 : decode cX1_succeeds 136 = .ok (.ireturn, 1) := by decide +kernel
theorem dX1_succeeds_137 : decode cX1_succeeds 137 = .ok (.iconst 0, 1) := by decide +kernel
theorem dX1_succeeds_138 : decode cX1_succeeds 138 = .ok (.ireturn, 1) := by decide +kernel
set_option maxRecDepth 20000 in
theorem ggX1_changes_X4_find : GoodIn wsX1_changes wsX4_find := goodIn_r _ [7, 8, 9, 47, 48, 49, 50, 51, 52] (by decide +kernel) (by decide +kernel)
set_option maxRecDepth 20000 in
theorem gX1_changes_X4_find : GoodIn wsX1_changes (wsV RX1 60 RX4 yX4_find wsX4_find) := goodIn_app (goodIn_of _ (by decide +kernel)) ggX1_changes_X4_find
set_option maxRecDepth 20000 in
theorem ggX1_changes_X1_lastTwo : GoodIn wsX1_changes wsX1_lastTwo := goodIn_r _ [14, 15, 16, 42, 43, 44, 45, 46] (by decide +kernel) (by decide +kernel)
set_option maxRecDepth 20000 in
theorem gX1_changes_X1_lastTwo : GoodIn wsX1_changes (wsV RX1 48 RX1 yX1_lastTwo wsX1_lastTwo) := goodIn_app (goodIn_of _ (by decide +kernel)) ggX1_changes_X1_lastTwo
set_option maxRecDepth 20000 in
theorem ggX1_changes_X4_allows : GoodIn wsX1_changes wsX4_allows := goodIn_r _ [20, 21, 22, 23, 24, 25, 26, 27, 28, 29, 30, 6, 31, 32, 47, 48, 49, 50, 51, 52] (by decide +kernel) (by decide +kernel)
set_option maxRecDepth 20000 in
theorem gX1_changes_X4_allows : GoodIn wsX1_changes (wsV RX1 64 RX4 yX4_allows wsX4_allows) := goodIn_app (goodIn_of _ (by decide +kernel)) ggX1_changes_X4_allows
set_option maxRecDepth 20000 in
theorem ggX1_changes_X3_exchange : GoodIn wsX1_changes wsX3_exchange := goodIn_r _ [37, 38, 39, 40, 41, 53, 54, 55, 56] (by decide +kernel) (by decide +kernel)
set_option maxRecDepth 20000 in
theorem gX1_changes_X3_exchange : GoodIn wsX1_changes (wsV RX1 68 RX3 yX3_exchange wsX3_exchange) := goodIn_app (goodIn_of _ (by decide +kernel)) ggX1_changes_X3_exchange
theorem dX1_changes_0 : decode cX1_changes 0 = .ok (.aload_n 1, 1) := by decide +kernel
theorem dX1_changes_1 : decode cX1_changes 1 = .ok (.aload_n 0, 1) := by decide +kernel
theorem dX1_changes_2 : decode cX1_changes 2 = .ok (.getfield 13, 3) := by decide +kernel
theorem dX1_changes_5 : decode cX1_changes 5 = .ok (.invokevirtual 60, 3) := by decide +kernel
theorem dX1_changes_8 : decode cX1_changes 8 = .ok (.astore_n 2, 1) := by decide +kernel
theorem dX1_changes_9 : decode cX1_changes 9 = .ok (.aload_n 2, 1) := by decide +kernel
theorem dX1_changes_10 : decode cX1_changes 10 = .ok (.ifnull 18, 3) := by decide +kernel
theorem dX1_changes_13 : decode cX1_changes 13 = .ok (.aload_n 1, 1) := by decide +kernel
theorem dX1_changes_14 : decode cX1_changes 14 = .ok (.aload_n 0, 1) := by decide +kernel
theorem dX1_changes_15 : decode cX1_changes 15 = .ok (.getfield 16, 3) := by decide +kernel
theorem dX1_changes_18 : decode cX1_changes 18 = .ok (.aload_n 0, 1) := by decide +kernel
theorem dX1_changes_19 : decode cX1_changes 19 = .ok (.invokevirtual 48, 3) := by decide +kernel
theorem dX1_changes_22 : decode cX1_changes 22 = .ok (.invokevirtual 64, 3) := by decide +kernel
theorem dX1_changes_25 : decode cX1_changes 25 = .ok (.ifCond .ne 5, 3) := by decide +kernel
theorem dX1_changes_28 : decode cX1_changes 28 = .ok (.iconst 0, 1) := by decide +kernel
theorem dX1_changes_29 : decode cX1_changes 29 = .ok (.ireturn, 1) := by decide +kernel
theorem dX1_changes_30 : decode cX1_changes 30 = .ok (.aload_n 2, 1) := by decide +kernel
theorem dX1_changes_31 : decode cX1_changes 31 = .ok (.aload_n 0, 1) := by decide +kernel
theorem dX1_changes_32 : decode cX1_changes 32 = .ok (.getfield 16, 3) := by decide +kernel
theorem dX1_changes_35 : decode cX1_changes 35 = .ok (.aload_n 0, 1) := by decide +kernel
theorem dX1_changes_36 : decode cX1_changes 36 = .ok (.invokevirtual 48, 3) := by decide +kernel
theorem dX1_changes_39 : decode cX1_changes 39 = .ok (.invokevirtual 68, 3) := by decide +kernel
theorem dX1_changes_42 : decode cX1_changes 42 = .ok (.pop, 1) := by decide +kernel
theorem dX1_changes_43 : decode cX1_changes 43 = .ok (.iconst 1, 1) := by decide +kernel
theorem dX1_changes_44 : decode cX1_changes 44 = .ok (.ireturn, 1) := by decide +kernel
set_option maxRecDepth 20000 in
theorem ggX1_removes_X1_lastTwo : GoodIn wsX1_removes wsX1_lastTwo := goodIn_r _ [7, 8, 9, 35, 36, 37, 38, 39] (by decide +kernel) (by decide +kernel)
set_option maxRecDepth 20000 in
theorem gX1_removes_X1_lastTwo : GoodIn wsX1_removes (wsV RX1 48 RX1 yX1_lastTwo wsX1_lastTwo) := goodIn_app (goodIn_of _ (by decide +kernel)) ggX1_removes_X1_lastTwo
set_option maxRecDepth 20000 in
theorem ggX1_removes_X4_find : GoodIn wsX1_removes wsX4_find := goodIn_r _ [14, 15, 16, 40, 41, 42, 43, 44, 45] (by decide +kernel) (by decide +kernel)
set_option maxRecDepth 20000 in
theorem gX1_removes_X4_find : GoodIn wsX1_removes (wsV RX1 60 RX4 yX4_find wsX4_find) := goodIn_app (goodIn_of _ (by decide +kernel)) ggX1_removes_X4_find
set_option maxRecDepth 20000 in
theorem ggX1_removes_X4_dropLayer : GoodIn wsX1_removes wsX4_dropLayer := goodIn_r _ [20, 15, 21, 11, 12, 13, 14, 16, 22, 23, 24, 25, 26, 27, 28, 29, 30, 31, 32, 33, 34, 40, 41, 42, 43, 44, 45, 46, 47, 48, 49] (by decide +kernel) (by decide +kernel)
set_option maxRecDepth 20000 in
theorem gX1_removes_X4_dropLayer : GoodIn wsX1_removes (wsV RX1 74 RX4 yX4_dropLayer wsX4_dropLayer) := goodIn_app (goodIn_of _ (by decide +kernel)) ggX1_removes_X4_dropLayer
theorem dX1_removes_0 : decode cX1_removes 0 = .ok (.aload_n 0, 1) := by decide +kernel
theorem dX1_removes_1 : decode cX1_removes 1 = .ok (.getfield 16, 3) := by decide +kernel
theorem dX1_removes_4 : decode cX1_removes 4 = .ok (.ifCond .ne 21, 3) := by decide +kernel
theorem dX1_removes_7 : decode cX1_removes 7 = .ok (.aload_n 0, 1) := by decide +kernel
theorem dX1_removes_8 : decode cX1_removes 8 = .ok (.invokevirtual 48, 3) := by decide +kernel
theorem dX1_removes_11 : decode cX1_removes 11 = .ok (.ifCond .ne 14, 3) := by decide +kernel
theorem dX1_removes_14 : decode cX1_removes 14 = .ok (.aload_n 1, 1) := by decide +kernel
theorem dX1_removes_15 : decode cX1_removes 15 = .ok (.aload_n 0, 1) := by decide +kernel
theorem dX1_removes_16 : decode cX1_removes 16 = .ok (.getfield 13, 3) := by decide +kernel
theorem dX1_removes_19 : decode cX1_removes 19 = .ok (.invokevirtual 60, 3) := by decide +kernel
theorem dX1_removes_22 : decode cX1_removes 22 = .ok (.ifnonnull 5, 3) := by decide +kernel
theorem dX1_removes_25 : decode cX1_removes 25 = .ok (.iconst 0, 1) := by decide +kernel
theorem dX1_removes_26 : decode cX1_removes 26 = .ok (.ireturn, 1) := by decide +kernel
theorem dX1_removes_27 : decode cX1_removes 27 = .ok (.aload_n 1, 1) := by decide +kernel
theorem dX1_removes_28 : decode cX1_removes 28 = .ok (.aload_n 0, 1) := by decide +kernel
theorem dX1_removes_29 : decode cX1_removes 29 = .ok (.getfield 13, 3) := by decide +kernel
theorem dX1_removes_32 : decode cX1_removes 32 = .ok (.invokevirtual 74, 3) := by decide +kernel
theorem dX1_removes_35 : decode cX1_removes 35 = .ok (.iconst 1, 1) := by decide +kernel
theorem dX1_removes_36 : decode cX1_removes 36 = .ok (.ireturn, 1) := by decide +kernel
set_option maxRecDepth 20000 in
theorem ggX1_takesRing_X1_lastTwo : GoodIn wsX1_takesRing wsX1_lastTwo := goodIn_r _ [7, 8, 9, 31, 32, 33, 34, 35] (by decide +kernel) (by decide +kernel)
set_option maxRecDepth 20000 in
theorem gX1_takesRing_X1_lastTwo : GoodIn wsX1_takesRing (wsV RX1 48 RX1 yX1_lastTwo wsX1_lastTwo) := goodIn_app (goodIn_of _ (by decide +kernel)) ggX1_takesRing_X1_lastTwo
set_option maxRecDepth 20000 in
theorem ggX1_takesRing_X7_isRing : GoodIn wsX1_takesRing wsX7_isRing := goodIn_r _ [12] (by decide +kernel) (by decide +kernel)
set_option maxRecDepth 20000 in
theorem gX1_takesRing_X7_isRing_n78 : GoodIn wsX1_takesRing (wsX7_isRing) := ggX1_takesRing_X7_isRing
set_option maxRecDepth 20000 in
theorem ggX1_takesRing_X4_takeRing : GoodIn wsX1_takesRing wsX4_takeRing := goodIn_r _ [17, 18, 19, 20, 21, 22, 23, 24, 16, 25, 26, 27, 28, 29, 30, 36, 37, 38, 39, 40, 41, 42, 43, 44, 45] (by decide +kernel) (by decide +kernel)
set_option maxRecDepth 20000 in
theorem gX1_takesRing_X4_takeRing : GoodIn wsX1_takesRing (wsV RX1 84 RX4 yX4_takeRing wsX4_takeRing) := goodIn_app (goodIn_of _ (by decide +kernel)) ggX1_takesRing_X4_takeRing
theorem dX1_takesRing_0 : decode cX1_takesRing 0 = .ok (.aload_n 0, 1) := by decide +kernel
theorem dX1_takesRing_1 : decode cX1_takesRing 1 = .ok (.getfield 13, 3) := by decide +kernel
theorem dX1_takesRing_4 : decode cX1_takesRing 4 = .ok (.ifCond .ne 20, 3) := by decide +kernel
theorem dX1_takesRing_7 : decode cX1_takesRing 7 = .ok (.aload_n 0, 1) := by decide +kernel
theorem dX1_takesRing_8 : decode cX1_takesRing 8 = .ok (.getfield 16, 3) := by decide +kernel
theorem dX1_takesRing_11 : decode cX1_takesRing 11 = .ok (.ifCond .ne 13, 3) := by decide +kernel
theorem dX1_takesRing_14 : decode cX1_takesRing 14 = .ok (.aload_n 0, 1) := by decide +kernel
theorem dX1_takesRing_15 : decode cX1_takesRing 15 = .ok (.invokevirtual 48, 3) := by decide +kernel
theorem dX1_takesRing_18 : decode cX1_takesRing 18 = .ok (.invokestatic 78, 3) := by decide +kernel
theorem dX1_takesRing_21 : decode cX1_takesRing 21 = .ok (.ifCond .ne 5, 3) := by decide +kernel
theorem dX1_takesRing_24 : decode cX1_takesRing 24 = .ok (.iconst 0, 1) := by decide +kernel
theorem dX1_takesRing_25 : decode cX1_takesRing 25 = .ok (.ireturn, 1) := by decide +kernel
theorem dX1_takesRing_26 : decode cX1_takesRing 26 = .ok (.aload_n 1, 1) := by decide +kernel
theorem dX1_takesRing_27 : decode cX1_takesRing 27 = .ok (.aload_n 0, 1) := by decide +kernel
theorem dX1_takesRing_28 : decode cX1_takesRing 28 = .ok (.invokevirtual 48, 3) := by decide +kernel
theorem dX1_takesRing_31 : decode cX1_takesRing 31 = .ok (.invokevirtual 84, 3) := by decide +kernel
theorem dX1_takesRing_34 : decode cX1_takesRing 34 = .ok (.iconst 1, 1) := by decide +kernel
theorem dX1_takesRing_35 : decode cX1_takesRing 35 = .ok (.ireturn, 1) := by decide +kernel
set_option maxRecDepth 20000 in
theorem ggX1_adds_X7_isSide : GoodIn wsX1_adds wsX7_isSide := goodIn_r _ [7] (by decide +kernel) (by decide +kernel)
set_option maxRecDepth 20000 in
theorem gX1_adds_X7_isSide_n87 : GoodIn wsX1_adds (wsX7_isSide) := ggX1_adds_X7_isSide
set_option maxRecDepth 20000 in
theorem ggX1_adds_X7_isWheel : GoodIn wsX1_adds wsX7_isWheel := goodIn_r _ [9] (by decide +kernel) (by decide +kernel)
set_option maxRecDepth 20000 in
theorem gX1_adds_X7_isWheel_n90 : GoodIn wsX1_adds (wsX7_isWheel) := ggX1_adds_X7_isWheel
set_option maxRecDepth 20000 in
theorem ggX1_adds_X7_isHole : GoodIn wsX1_adds wsX7_isHole := goodIn_r _ [11] (by decide +kernel) (by decide +kernel)
set_option maxRecDepth 20000 in
theorem gX1_adds_X7_isHole_n93 : GoodIn wsX1_adds (wsX7_isHole) := ggX1_adds_X7_isHole
set_option maxRecDepth 20000 in
theorem ggX1_adds_X4_isFull : GoodIn wsX1_adds wsX4_isFull := goodIn_r _ [16, 17, 42, 43, 44, 45, 46, 47] (by decide +kernel) (by decide +kernel)
set_option maxRecDepth 20000 in
theorem gX1_adds_X4_isFull : GoodIn wsX1_adds (wsV RX1 96 RX4 yX4_isFull wsX4_isFull) := goodIn_app (goodIn_of _ (by decide +kernel)) ggX1_adds_X4_isFull
set_option maxRecDepth 20000 in
theorem ggX1_adds_X4_putLayer : GoodIn wsX1_adds wsX4_putLayer := goodIn_r _ [21, 17, 22, 13, 14, 15, 16, 23, 24, 25, 26, 27, 28, 29, 30, 31, 32, 33, 34, 35, 36, 42, 43, 44, 45, 46, 47, 48, 49, 50, 51] (by decide +kernel) (by decide +kernel)
set_option maxRecDepth 20000 in
theorem gX1_adds_X4_putLayer : GoodIn wsX1_adds (wsV RX1 100 RX4 yX4_putLayer wsX4_putLayer) := goodIn_app (goodIn_of _ (by decide +kernel)) ggX1_adds_X4_putLayer
theorem dX1_adds_0 : decode cX1_adds 0 = .ok (.bipush 10, 2) := by decide +kernel
theorem dX1_adds_2 : decode cX1_adds 2 = .ok (.aload_n 0, 1) := by decide +kernel
theorem dX1_adds_3 : decode cX1_adds 3 = .ok (.getfield 16, 3) := by decide +kernel
theorem dX1_adds_6 : decode cX1_adds 6 = .ok (.imul, 1) := by decide +kernel
theorem dX1_adds_7 : decode cX1_adds 7 = .ok (.aload_n 0, 1) := by decide +kernel
theorem dX1_adds_8 : decode cX1_adds 8 = .ok (.getfield 19, 3) := by decide +kernel
theorem dX1_adds_11 : decode cX1_adds 11 = .ok (.iadd, 1) := by decide +kernel
theorem dX1_adds_12 : decode cX1_adds 12 = .ok (.istore_n 2, 1) := by decide +kernel
theorem dX1_adds_13 : decode cX1_adds 13 = .ok (.aload_n 0, 1) := by decide +kernel
theorem dX1_adds_14 : decode cX1_adds 14 = .ok (.getfield 13, 3) := by decide +kernel
theorem dX1_adds_17 : decode cX1_adds 17 = .ok (.invokestatic 87, 3) := by decide +kernel
theorem dX1_adds_20 : decode cX1_adds 20 = .ok (.ifCond .eq 27, 3) := by decide +kernel
theorem dX1_adds_23 : decode cX1_adds 23 = .ok (.iload_n 2, 1) := by decide +kernel
theorem dX1_adds_24 : decode cX1_adds 24 = .ok (.invokestatic 90, 3) := by decide +kernel
theorem dX1_adds_27 : decode cX1_adds 27 = .ok (.ifCond .eq 20, 3) := by decide +kernel
theorem dX1_adds_30 : decode cX1_adds 30 = .ok (.aload_n 0, 1) := by decide +kernel
theorem dX1_adds_31 : decode cX1_adds 31 = .ok (.getfield 22, 3) := by decide +kernel
theorem dX1_adds_34 : decode cX1_adds 34 = .ok (.invokestatic 93, 3) := by decide +kernel
theorem dX1_adds_37 : decode cX1_adds 37 = .ok (.ifCond .eq 10, 3) := by decide +kernel
theorem dX1_adds_40 : decode cX1_adds 40 = .ok (.aload_n 1, 1) := by decide +kernel
theorem dX1_adds_41 : decode cX1_adds 41 = .ok (.invokevirtual 96, 3) := by decide +kernel
theorem dX1_adds_44 : decode cX1_adds 44 = .ok (.ifCond .eq 5, 3) := by decide +kernel
theorem dX1_adds_47 : decode cX1_adds 47 = .ok (.iconst 0, 1) := by decide +kernel
theorem dX1_adds_48 : decode cX1_adds 48 = .ok (.ireturn, 1) := by decide +kernel
theorem dX1_adds_49 : decode cX1_adds 49 = .ok (.aload_n 1, 1) := by decide +kernel
theorem dX1_adds_50 : decode cX1_adds 50 = .ok (.iload_n 2, 1) := by decide +kernel
theorem dX1_adds_51 : decode cX1_adds 51 = .ok (.aload_n 0, 1) := by decide +kernel
theorem dX1_adds_52 : decode cX1_adds 52 = .ok (.getfield 13, 3) := by decide +kernel
theorem dX1_adds_55 : decode cX1_adds 55 = .ok (.aload_n 0, 1) := by decide +kernel
theorem dX1_adds_56 : decode cX1_adds 56 = .ok (.getfield 22, 3) := by decide +kernel
theorem dX1_adds_59 : decode cX1_adds 59 = .ok (.iconst 0, 1) := by decide +kernel
theorem dX1_adds_60 : decode cX1_adds 60 = .ok (.invokevirtual 100, 3) := by decide +kernel
theorem dX1_adds_63 : decode cX1_adds 63 = .ok (.iconst 1, 1) := by decide +kernel
theorem dX1_adds_64 : decode cX1_adds 64 = .ok (.ireturn, 1) := by decide +kernel
set_option maxRecDepth 20000 in
theorem ggX1_sharesEnough_X4_find : GoodIn wsX1_sharesEnough wsX4_find := goodIn_r _ [8, 9, 10, 84, 85, 86, 87, 88, 89] (by decide +kernel) (by decide +kernel)
set_option maxRecDepth 20000 in
theorem gX1_sharesEnough_X4_find : GoodIn wsX1_sharesEnough (wsV RX1 60 RX4 yX4_find wsX4_find) := goodIn_app (goodIn_of _ (by decide +kernel)) ggX1_sharesEnough_X4_find
set_option maxRecDepth 20000 in
theorem ggX1_sharesEnough_X0_countCommon : GoodIn wsX1_sharesEnough wsX0_countCommon := goodIn_r _ [15, 16, 17, 18, 19, 20, 21, 22, 23, 24, 25, 26, 27, 28, 29, 30, 31, 32, 33, 34, 35, 36, 37, 38, 39, 40, 41, 42, 43, 44, 45, 46, 47, 48, 49, 50, 51, 52, 53, 54, 55, 56, 57, 58, 59, 60, 61, 62, 63, 64, 65, 66, 67, 68, 69, 70, 71, 90, 91, 92, 93, 94, 95, 96, 97] (by decide +kernel) (by decide +kernel)
set_option maxRecDepth 20000 in
theorem gX1_sharesEnough_X0_countCommon : GoodIn wsX1_sharesEnough (wsV RX1 107 RX0 yX0_countCommon wsX0_countCommon) := goodIn_app (goodIn_of _ (by decide +kernel)) ggX1_sharesEnough_X0_countCommon
set_option maxRecDepth 20000 in
theorem ggX1_sharesEnough_X1_lastTwo : GoodIn wsX1_sharesEnough wsX1_lastTwo := goodIn_r _ [76, 77, 78, 79, 80, 81, 82, 83] (by decide +kernel) (by decide +kernel)
set_option maxRecDepth 20000 in
theorem gX1_sharesEnough_X1_lastTwo : GoodIn wsX1_sharesEnough (wsV RX1 48 RX1 yX1_lastTwo wsX1_lastTwo) := goodIn_app (goodIn_of _ (by decide +kernel)) ggX1_sharesEnough_X1_lastTwo
theorem dX1_sharesEnough_0 : decode cX1_sharesEnough 0 = .ok (.aload_n 1, 1) := by decide +kernel
theorem dX1_sharesEnough_1 : decode cX1_sharesEnough 1 = .ok (.aload_n 0, 1) := by decide +kernel
theorem dX1_sharesEnough_2 : decode cX1_sharesEnough 2 = .ok (.getfield 13, 3) := by decide +kernel
theorem dX1_sharesEnough_5 : decode cX1_sharesEnough 5 = .ok (.invokevirtual 60, 3) := by decide +kernel
theorem dX1_sharesEnough_8 : decode cX1_sharesEnough 8 = .ok (.astore_n 3, 1) := by decide +kernel
theorem dX1_sharesEnough_9 : decode cX1_sharesEnough 9 = .ok (.aload_n 1, 1) := by decide +kernel
theorem dX1_sharesEnough_10 : decode cX1_sharesEnough 10 = .ok (.aload_n 0, 1) := by decide +kernel
theorem dX1_sharesEnough_11 : decode cX1_sharesEnough 11 = .ok (.getfield 16, 3) := by decide +kernel
theorem dX1_sharesEnough_14 : decode cX1_sharesEnough 14 = .ok (.invokevirtual 60, 3) := by decide +kernel
theorem dX1_sharesEnough_17 : decode cX1_sharesEnough 17 = .ok (.astore 4, 2) := by decide +kernel
theorem dX1_sharesEnough_19 : decode cX1_sharesEnough 19 = .ok (.aload_n 3, 1) := by decide +kernel
theorem dX1_sharesEnough_20 : decode cX1_sharesEnough 20 = .ok (.ifnull 30, 3) := by decide +kernel
theorem dX1_sharesEnough_23 : decode cX1_sharesEnough 23 = .ok (.aload 4, 2) := by decide +kernel
theorem dX1_sharesEnough_25 : decode cX1_sharesEnough 25 = .ok (.ifnull 25, 3) := by decide +kernel
theorem dX1_sharesEnough_28 : decode cX1_sharesEnough 28 = .ok (.aload_n 2, 1) := by decide +kernel
theorem dX1_sharesEnough_29 : decode cX1_sharesEnough 29 = .ok (.aload_n 1, 1) := by decide +kernel
theorem dX1_sharesEnough_30 : decode cX1_sharesEnough 30 = .ok (.getfield 104, 3) := by decide +kernel
theorem dX1_sharesEnough_33 : decode cX1_sharesEnough 33 = .ok (.aload_n 3, 1) := by decide +kernel
theorem dX1_sharesEnough_34 : decode cX1_sharesEnough 34 = .ok (.aload 4, 2) := by decide +kernel
theorem dX1_sharesEnough_36 : decode cX1_sharesEnough 36 = .ok (.invokevirtual 107, 3) := by decide +kernel
theorem dX1_sharesEnough_39 : decode cX1_sharesEnough 39 = .ok (.aload_n 0, 1) := by decide +kernel
theorem dX1_sharesEnough_40 : decode cX1_sharesEnough 40 = .ok (.invokevirtual 48, 3) := by decide +kernel
theorem dX1_sharesEnough_43 : decode cX1_sharesEnough 43 = .ok (.if_icmp .lt 7, 3) := by decide +kernel
theorem dX1_sharesEnough_46 : decode cX1_sharesEnough 46 = .ok (.iconst 1, 1) := by decide +kernel
theorem dX1_sharesEnough_47 : decode cX1_sharesEnough 47 = .ok (.goto 4, 3) := by decide +kernel
theorem dX1_sharesEnough_50 : decode cX1_sharesEnough 50 = .ok (.iconst 0, 1) := by decide +kernel
theorem dX1_sharesEnough_51 : decode cX1_sharesEnough 51 = .ok (.ireturn, 1) := by decide +kernel
set_option maxRecDepth 20000 in
theorem ggX1_isTurned_X4_find : GoodIn wsX1_isTurned wsX4_find := goodIn_r _ [8, 9, 10, 92, 93, 94, 95, 96, 97] (by decide +kernel) (by decide +kernel)
set_option maxRecDepth 20000 in
theorem gX1_isTurned_X4_find : GoodIn wsX1_isTurned (wsV RX1 60 RX4 yX4_find wsX4_find) := goodIn_app (goodIn_of _ (by decide +kernel)) ggX1_isTurned_X4_find
set_option maxRecDepth 20000 in
theorem ggX1_isTurned_X0_turnBetween : GoodIn wsX1_isTurned wsX0_turnBetween := goodIn_r _ [15, 16, 17, 18, 19, 20, 21, 22, 23, 24, 25, 26, 27, 28, 29, 30, 31, 32, 33, 34, 35, 36, 37, 38, 39, 40, 41, 42, 43, 44, 45, 46, 47, 48, 49, 50, 51, 52, 53, 54, 55, 56, 57, 58, 59, 60, 61, 62, 63, 64, 65, 66, 67, 68, 69, 70, 71, 72, 14, 73, 74, 75, 76, 77, 78, 79, 98, 99, 100, 101, 102, 103, 104, 105] (by decide +kernel) (by decide +kernel)
set_option maxRecDepth 20000 in
theorem gX1_isTurned_X0_turnBetween : GoodIn wsX1_isTurned (wsV RX1 113 RX0 yX0_turnBetween wsX0_turnBetween) := goodIn_app (goodIn_of _ (by decide +kernel)) ggX1_isTurned_X0_turnBetween
set_option maxRecDepth 20000 in
theorem ggX1_isTurned_X1_lastTwo : GoodIn wsX1_isTurned wsX1_lastTwo := goodIn_r _ [84, 85, 86, 87, 88, 89, 90, 91] (by decide +kernel) (by decide +kernel)
set_option maxRecDepth 20000 in
theorem gX1_isTurned_X1_lastTwo : GoodIn wsX1_isTurned (wsV RX1 48 RX1 yX1_lastTwo wsX1_lastTwo) := goodIn_app (goodIn_of _ (by decide +kernel)) ggX1_isTurned_X1_lastTwo
theorem dX1_isTurned_0 : decode cX1_isTurned 0 = .ok (.aload_n 1, 1) := by decide +kernel
theorem dX1_isTurned_1 : decode cX1_isTurned 1 = .ok (.aload_n 0, 1) := by decide +kernel
theorem dX1_isTurned_2 : decode cX1_isTurned 2 = .ok (.getfield 13, 3) := by decide +kernel
theorem dX1_isTurned_5 : decode cX1_isTurned 5 = .ok (.invokevirtual 60, 3) := by decide +kernel
theorem dX1_isTurned_8 : decode cX1_isTurned 8 = .ok (.astore_n 3, 1) := by decide +kernel
theorem dX1_isTurned_9 : decode cX1_isTurned 9 = .ok (.aload_n 1, 1) := by decide +kernel
theorem dX1_isTurned_10 : decode cX1_isTurned 10 = .ok (.aload_n 0, 1) := by decide +kernel
theorem dX1_isTurned_11 : decode cX1_isTurned 11 = .ok (.getfield 16, 3) := by decide +kernel
theorem dX1_isTurned_14 : decode cX1_isTurned 14 = .ok (.invokevirtual 60, 3) := by decide +kernel
theorem dX1_isTurned_17 : decode cX1_isTurned 17 = .ok (.astore 4, 2) := by decide +kernel
theorem dX1_isTurned_19 : decode cX1_isTurned 19 = .ok (.aload_n 3, 1) := by decide +kernel
theorem dX1_isTurned_20 : decode cX1_isTurned 20 = .ok (.ifnull 30, 3) := by decide +kernel
theorem dX1_isTurned_23 : decode cX1_isTurned 23 = .ok (.aload 4, 2) := by decide +kernel
theorem dX1_isTurned_25 : decode cX1_isTurned 25 = .ok (.ifnull 25, 3) := by decide +kernel
theorem dX1_isTurned_28 : decode cX1_isTurned 28 = .ok (.aload_n 2, 1) := by decide +kernel
theorem dX1_isTurned_29 : decode cX1_isTurned 29 = .ok (.aload_n 1, 1) := by decide +kernel
theorem dX1_isTurned_30 : decode cX1_isTurned 30 = .ok (.getfield 104, 3) := by decide +kernel
theorem dX1_isTurned_33 : decode cX1_isTurned 33 = .ok (.aload_n 3, 1) := by decide +kernel
theorem dX1_isTurned_34 : decode cX1_isTurned 34 = .ok (.aload 4, 2) := by decide +kernel
theorem dX1_isTurned_36 : decode cX1_isTurned 36 = .ok (.invokevirtual 113, 3) := by decide +kernel
theorem dX1_isTurned_39 : decode cX1_isTurned 39 = .ok (.aload_n 0, 1) := by decide +kernel
theorem dX1_isTurned_40 : decode cX1_isTurned 40 = .ok (.invokevirtual 48, 3) := by decide +kernel
theorem dX1_isTurned_43 : decode cX1_isTurned 43 = .ok (.if_icmp .ne 7, 3) := by decide +kernel
theorem dX1_isTurned_46 : decode cX1_isTurned 46 = .ok (.iconst 1, 1) := by decide +kernel
theorem dX1_isTurned_47 : decode cX1_isTurned 47 = .ok (.goto 4, 3) := by decide +kernel
theorem dX1_isTurned_50 : decode cX1_isTurned 50 = .ok (.iconst 0, 1) := by decide +kernel
theorem dX1_isTurned_51 : decode cX1_isTurned 51 = .ok (.ireturn, 1) := by decide +kernel
set_option maxRecDepth 20000 in
theorem ggX1_hasTurns_X4_find : GoodIn wsX1_hasTurns wsX4_find := goodIn_r _ [8, 9, 10, 34, 35, 36, 37, 38, 39] (by decide +kernel) (by decide +kernel)
set_option maxRecDepth 20000 in
theorem gX1_hasTurns_X4_find : GoodIn wsX1_hasTurns (wsV RX1 60 RX4 yX4_find wsX4_find) := goodIn_app (goodIn_of _ (by decide +kernel)) ggX1_hasTurns_X4_find
set_option maxRecDepth 20000 in
theorem ggX1_hasTurns_X3_turns : GoodIn wsX1_hasTurns wsX3_turns := goodIn_r _ [15, 16, 17, 18, 19, 20, 21, 40, 41, 42, 43] (by decide +kernel) (by decide +kernel)
set_option maxRecDepth 20000 in
theorem gX1_hasTurns_X3_turns : GoodIn wsX1_hasTurns (wsV RX1 116 RX3 yX3_turns wsX3_turns) := goodIn_app (goodIn_of _ (by decide +kernel)) ggX1_hasTurns_X3_turns
set_option maxRecDepth 20000 in
theorem ggX1_hasTurns_X1_lastTwo : GoodIn wsX1_hasTurns wsX1_lastTwo := goodIn_r _ [26, 27, 28, 29, 30, 31, 32, 33] (by decide +kernel) (by decide +kernel)
set_option maxRecDepth 20000 in
theorem gX1_hasTurns_X1_lastTwo : GoodIn wsX1_hasTurns (wsV RX1 48 RX1 yX1_lastTwo wsX1_lastTwo) := goodIn_app (goodIn_of _ (by decide +kernel)) ggX1_hasTurns_X1_lastTwo
theorem dX1_hasTurns_0 : decode cX1_hasTurns 0 = .ok (.aload_n 1, 1) := by decide +kernel
theorem dX1_hasTurns_1 : decode cX1_hasTurns 1 = .ok (.aload_n 0, 1) := by decide +kernel
theorem dX1_hasTurns_2 : decode cX1_hasTurns 2 = .ok (.getfield 13, 3) := by decide +kernel
theorem dX1_hasTurns_5 : decode cX1_hasTurns 5 = .ok (.invokevirtual 60, 3) := by decide +kernel
theorem dX1_hasTurns_8 : decode cX1_hasTurns 8 = .ok (.astore_n 2, 1) := by decide +kernel
theorem dX1_hasTurns_9 : decode cX1_hasTurns 9 = .ok (.aload_n 2, 1) := by decide +kernel
theorem dX1_hasTurns_10 : decode cX1_hasTurns 10 = .ok (.ifnull 29, 3) := by decide +kernel
theorem dX1_hasTurns_13 : decode cX1_hasTurns 13 = .ok (.aload_n 0, 1) := by decide +kernel
theorem dX1_hasTurns_14 : decode cX1_hasTurns 14 = .ok (.getfield 16, 3) := by decide +kernel
theorem dX1_hasTurns_17 : decode cX1_hasTurns 17 = .ok (.ifCond .ne 22, 3) := by decide +kernel
theorem dX1_hasTurns_20 : decode cX1_hasTurns 20 = .ok (.aload_n 2, 1) := by decide +kernel
theorem dX1_hasTurns_21 : decode cX1_hasTurns 21 = .ok (.aload_n 1, 1) := by decide +kernel
theorem dX1_hasTurns_22 : decode cX1_hasTurns 22 = .ok (.getfield 104, 3) := by decide +kernel
theorem dX1_hasTurns_25 : decode cX1_hasTurns 25 = .ok (.invokevirtual 116, 3) := by decide +kernel
theorem dX1_hasTurns_28 : decode cX1_hasTurns 28 = .ok (.aload_n 0, 1) := by decide +kernel
theorem dX1_hasTurns_29 : decode cX1_hasTurns 29 = .ok (.invokevirtual 48, 3) := by decide +kernel
theorem dX1_hasTurns_32 : decode cX1_hasTurns 32 = .ok (.if_icmp .ne 7, 3) := by decide +kernel
theorem dX1_hasTurns_35 : decode cX1_hasTurns 35 = .ok (.iconst 1, 1) := by decide +kernel
theorem dX1_hasTurns_36 : decode cX1_hasTurns 36 = .ok (.goto 4, 3) := by decide +kernel
theorem dX1_hasTurns_39 : decode cX1_hasTurns 39 = .ok (.iconst 0, 1) := by decide +kernel
theorem dX1_hasTurns_40 : decode cX1_hasTurns 40 = .ok (.ireturn, 1) := by decide +kernel
set_option maxRecDepth 20000 in
theorem ggX1_hasLobes_X4_find : GoodIn wsX1_hasLobes wsX4_find := goodIn_r _ [8, 9, 10, 34, 35, 36, 37, 38, 39] (by decide +kernel) (by decide +kernel)
set_option maxRecDepth 20000 in
theorem gX1_hasLobes_X4_find : GoodIn wsX1_hasLobes (wsV RX1 60 RX4 yX4_find wsX4_find) := goodIn_app (goodIn_of _ (by decide +kernel)) ggX1_hasLobes_X4_find
set_option maxRecDepth 20000 in
theorem ggX1_hasLobes_X3_lobes : GoodIn wsX1_hasLobes wsX3_lobes := goodIn_r _ [15, 16, 17, 18, 19, 20, 21, 40, 41, 42, 43] (by decide +kernel) (by decide +kernel)
set_option maxRecDepth 20000 in
theorem gX1_hasLobes_X3_lobes : GoodIn wsX1_hasLobes (wsV RX1 120 RX3 yX3_lobes wsX3_lobes) := goodIn_app (goodIn_of _ (by decide +kernel)) ggX1_hasLobes_X3_lobes
set_option maxRecDepth 20000 in
theorem ggX1_hasLobes_X1_lastTwo : GoodIn wsX1_hasLobes wsX1_lastTwo := goodIn_r _ [26, 27, 28, 29, 30, 31, 32, 33] (by decide +kernel) (by decide +kernel)
set_option maxRecDepth 20000 in
theorem gX1_hasLobes_X1_lastTwo : GoodIn wsX1_hasLobes (wsV RX1 48 RX1 yX1_lastTwo wsX1_lastTwo) := goodIn_app (goodIn_of _ (by decide +kernel)) ggX1_hasLobes_X1_lastTwo
theorem dX1_hasLobes_0 : decode cX1_hasLobes 0 = .ok (.aload_n 1, 1) := by decide +kernel
theorem dX1_hasLobes_1 : decode cX1_hasLobes 1 = .ok (.aload_n 0, 1) := by decide +kernel
theorem dX1_hasLobes_2 : decode cX1_hasLobes 2 = .ok (.getfield 13, 3) := by decide +kernel
theorem dX1_hasLobes_5 : decode cX1_hasLobes 5 = .ok (.invokevirtual 60, 3) := by decide +kernel
theorem dX1_hasLobes_8 : decode cX1_hasLobes 8 = .ok (.astore_n 2, 1) := by decide +kernel
theorem dX1_hasLobes_9 : decode cX1_hasLobes 9 = .ok (.aload_n 2, 1) := by decide +kernel
theorem dX1_hasLobes_10 : decode cX1_hasLobes 10 = .ok (.ifnull 29, 3) := by decide +kernel
theorem dX1_hasLobes_13 : decode cX1_hasLobes 13 = .ok (.aload_n 0, 1) := by decide +kernel
theorem dX1_hasLobes_14 : decode cX1_hasLobes 14 = .ok (.getfield 16, 3) := by decide +kernel
theorem dX1_hasLobes_17 : decode cX1_hasLobes 17 = .ok (.ifCond .ne 22, 3) := by decide +kernel
theorem dX1_hasLobes_20 : decode cX1_hasLobes 20 = .ok (.aload_n 2, 1) := by decide +kernel
theorem dX1_hasLobes_21 : decode cX1_hasLobes 21 = .ok (.aload_n 1, 1) := by decide +kernel
theorem dX1_hasLobes_22 : decode cX1_hasLobes 22 = .ok (.getfield 104, 3) := by decide +kernel
theorem dX1_hasLobes_25 : decode cX1_hasLobes 25 = .ok (.invokevirtual 120, 3) := by decide +kernel
theorem dX1_hasLobes_28 : decode cX1_hasLobes 28 = .ok (.aload_n 0, 1) := by decide +kernel
theorem dX1_hasLobes_29 : decode cX1_hasLobes 29 = .ok (.invokevirtual 48, 3) := by decide +kernel
theorem dX1_hasLobes_32 : decode cX1_hasLobes 32 = .ok (.if_icmp .ne 7, 3) := by decide +kernel
theorem dX1_hasLobes_35 : decode cX1_hasLobes 35 = .ok (.iconst 1, 1) := by decide +kernel
theorem dX1_hasLobes_36 : decode cX1_hasLobes 36 = .ok (.goto 4, 3) := by decide +kernel
theorem dX1_hasLobes_39 : decode cX1_hasLobes 39 = .ok (.iconst 0, 1) := by decide +kernel
theorem dX1_hasLobes_40 : decode cX1_hasLobes 40 = .ok (.ireturn, 1) := by decide +kernel
set_option maxRecDepth 20000 in
theorem ggX2_init_X4_init : GoodIn wsX2_init wsX4_init := goodIn_r _ [10, 11, 2, 3, 12, 13, 14, 15, 16, 17, 18, 19, 20, 21, 22, 23, 24, 28, 29, 30, 31, 32, 33, 34, 35, 36, 37] (by decide +kernel) (by decide +kernel)
set_option maxRecDepth 20000 in
theorem gX2_init_X4_init : GoodIn wsX2_init (wsX4_init) := ggX2_init_X4_init
theorem dX2_init_0 : decode cX2_init 0 = .ok (.aload_n 0, 1) := by decide +kernel
theorem dX2_init_1 : decode cX2_init 1 = .ok (.invokespecial 3, 3) := by decide +kernel
theorem dX2_init_4 : decode cX2_init 4 = .ok (.aload_n 0, 1) := by decide +kernel
theorem dX2_init_5 : decode cX2_init 5 = .ok (.bipush 14, 2) := by decide +kernel
theorem dX2_init_7 : decode cX2_init 7 = .ok (.anewarray 9, 3) := by decide +kernel
theorem dX2_init_10 : decode cX2_init 10 = .ok (.putfield 11, 3) := by decide +kernel
theorem dX2_init_13 : decode cX2_init 13 = .ok (.iconst 0, 1) := by decide +kernel
theorem dX2_init_14 : decode cX2_init 14 = .ok (.istore_n 1, 1) := by decide +kernel
theorem dX2_init_15 : decode cX2_init 15 = .ok (.iload_n 1, 1) := by decide +kernel
theorem dX2_init_16 : decode cX2_init 16 = .ok (.aload_n 0, 1) := by decide +kernel
theorem dX2_init_17 : decode cX2_init 17 = .ok (.getfield 11, 3) := by decide +kernel
theorem dX2_init_20 : decode cX2_init 20 = .ok (.arraylength, 1) := by decide +kernel
theorem dX2_init_21 : decode cX2_init 21 = .ok (.if_icmp .ge 22, 3) := by decide +kernel
theorem dX2_init_24 : decode cX2_init 24 = .ok (.aload_n 0, 1) := by decide +kernel
theorem dX2_init_25 : decode cX2_init 25 = .ok (.getfield 11, 3) := by decide +kernel
theorem dX2_init_28 : decode cX2_init 28 = .ok (.iload_n 1, 1) := by decide +kernel
theorem dX2_init_29 : decode cX2_init 29 = .ok (.new 9, 3) := by decide +kernel
theorem dX2_init_32 : decode cX2_init 32 = .ok (.dup, 1) := by decide +kernel
theorem dX2_init_33 : decode cX2_init 33 = .ok (.invokespecial 17, 3) := by decide +kernel
theorem dX2_init_36 : decode cX2_init 36 = .ok (.aastore, 1) := by decide +kernel
theorem dX2_init_37 : decode cX2_init 37 = .ok (.iinc 1 1, 3) := by decide +kernel
theorem dX2_init_40 : decode cX2_init 40 = .ok (.goto (-25), 3) := by decide +kernel
theorem dX2_init_43 : decode cX2_init 43 = .ok (.return_, 1) := by decide +kernel
theorem dX2_stateAt_0 : decode cX2_stateAt 0 = .ok (.iload_n 1, 1) := by decide +kernel
theorem dX2_stateAt_1 : decode cX2_stateAt 1 = .ok (.bipush 14, 2) := by decide +kernel
theorem dX2_stateAt_3 : decode cX2_stateAt 3 = .ok (.irem, 1) := by decide +kernel
theorem dX2_stateAt_4 : decode cX2_stateAt 4 = .ok (.istore_n 2, 1) := by decide +kernel
theorem dX2_stateAt_5 : decode cX2_stateAt 5 = .ok (.iload_n 2, 1) := by decide +kernel
theorem dX2_stateAt_6 : decode cX2_stateAt 6 = .ok (.ifCond .lt 21, 3) := by decide +kernel
theorem dX2_stateAt_9 : decode cX2_stateAt 9 = .ok (.iload_n 2, 1) := by decide +kernel
theorem dX2_stateAt_10 : decode cX2_stateAt 10 = .ok (.aload_n 0, 1) := by decide +kernel
theorem dX2_stateAt_11 : decode cX2_stateAt 11 = .ok (.getfield 11, 3) := by decide +kernel
theorem dX2_stateAt_14 : decode cX2_stateAt 14 = .ok (.arraylength, 1) := by decide +kernel
theorem dX2_stateAt_15 : decode cX2_stateAt 15 = .ok (.if_icmp .ge 12, 3) := by decide +kernel
theorem dX2_stateAt_18 : decode cX2_stateAt 18 = .ok (.aload_n 0, 1) := by decide +kernel
theorem dX2_stateAt_19 : decode cX2_stateAt 19 = .ok (.getfield 11, 3) := by decide +kernel
theorem dX2_stateAt_22 : decode cX2_stateAt 22 = .ok (.iload_n 2, 1) := by decide +kernel
theorem dX2_stateAt_23 : decode cX2_stateAt 23 = .ok (.aaload, 1) := by decide +kernel
theorem dX2_stateAt_24 : decode cX2_stateAt 24 = .ok (.goto 4, 3) := by decide +kernel
theorem dX2_stateAt_27 : decode cX2_stateAt 27 = .ok (.aconst_null, 1) := by decide +kernel
theorem dX2_stateAt_28 : decode cX2_stateAt 28 = .ok (.areturn, 1) := by decide +kernel
set_option maxRecDepth 20000 in
theorem ggX2_remember_X2_stateAt : GoodIn wsX2_remember wsX2_stateAt := goodIn_r _ [7, 8, 65, 66, 67] (by decide +kernel) (by decide +kernel)
set_option maxRecDepth 20000 in
theorem gX2_remember_X2_stateAt : GoodIn wsX2_remember (wsV RX2 25 RX2 yX2_stateAt wsX2_stateAt) := goodIn_app (goodIn_of _ (by decide +kernel)) ggX2_remember_X2_stateAt
set_option maxRecDepth 20000 in
theorem ggX2_remember_X4_become : GoodIn wsX2_remember wsX4_become := goodIn_r _ [13, 14, 15, 16, 17, 18, 19, 20, 21, 22, 23, 12, 24, 25, 26, 27, 28, 29, 30, 31, 32, 33, 34, 35, 36, 37, 38, 39, 40, 41, 42, 43, 44, 45, 46, 47, 48, 49, 50, 51, 52, 53, 54, 55, 56, 57, 58, 59, 60, 61, 62, 63, 64, 68, 69, 70, 71, 72, 73, 74, 75, 76, 77] (by decide +kernel) (by decide +kernel)
set_option maxRecDepth 20000 in
theorem gX2_remember_X4_become : GoodIn wsX2_remember (wsV RX2 29 RX4 yX4_become wsX4_become) := goodIn_app (goodIn_of _ (by decide +kernel)) ggX2_remember_X4_become
theorem dX2_remember_0 : decode cX2_remember 0 = .ok (.aload_n 0, 1) := by decide +kernel
theorem dX2_remember_1 : decode cX2_remember 1 = .ok (.aload_n 0, 1) := by decide +kernel
theorem dX2_remember_2 : decode cX2_remember 2 = .ok (.getfield 18, 3) := by decide +kernel
theorem dX2_remember_5 : decode cX2_remember 5 = .ok (.aload_n 0, 1) := by decide +kernel
theorem dX2_remember_6 : decode cX2_remember 6 = .ok (.getfield 22, 3) := by decide +kernel
theorem dX2_remember_9 : decode cX2_remember 9 = .ok (.iadd, 1) := by decide +kernel
theorem dX2_remember_10 : decode cX2_remember 10 = .ok (.invokevirtual 25, 3) := by decide +kernel
theorem dX2_remember_13 : decode cX2_remember 13 = .ok (.astore_n 2, 1) := by decide +kernel
theorem dX2_remember_14 : decode cX2_remember 14 = .ok (.aload_n 2, 1) := by decide +kernel
theorem dX2_remember_15 : decode cX2_remember 15 = .ok (.ifnull 8, 3) := by decide +kernel
theorem dX2_remember_18 : decode cX2_remember 18 = .ok (.aload_n 2, 1) := by decide +kernel
theorem dX2_remember_19 : decode cX2_remember 19 = .ok (.aload_n 1, 1) := by decide +kernel
theorem dX2_remember_20 : decode cX2_remember 20 = .ok (.invokevirtual 29, 3) := by decide +kernel
theorem dX2_remember_23 : decode cX2_remember 23 = .ok (.aload_n 0, 1) := by decide +kernel
theorem dX2_remember_24 : decode cX2_remember 24 = .ok (.getfield 22, 3) := by decide +kernel
theorem dX2_remember_27 : decode cX2_remember 27 = .ok (.bipush 14, 2) := by decide +kernel
theorem dX2_remember_29 : decode cX2_remember 29 = .ok (.if_icmp .ge 16, 3) := by decide +kernel
theorem dX2_remember_32 : decode cX2_remember 32 = .ok (.aload_n 0, 1) := by decide +kernel
theorem dX2_remember_33 : decode cX2_remember 33 = .ok (.dup, 1) := by decide +kernel
theorem dX2_remember_34 : decode cX2_remember 34 = .ok (.getfield 22, 3) := by decide +kernel
theorem dX2_remember_37 : decode cX2_remember 37 = .ok (.iconst 1, 1) := by decide +kernel
theorem dX2_remember_38 : decode cX2_remember 38 = .ok (.iadd, 1) := by decide +kernel
theorem dX2_remember_39 : decode cX2_remember 39 = .ok (.putfield 22, 3) := by decide +kernel
theorem dX2_remember_42 : decode cX2_remember 42 = .ok (.goto 16, 3) := by decide +kernel
theorem dX2_remember_45 : decode cX2_remember 45 = .ok (.aload_n 0, 1) := by decide +kernel
theorem dX2_remember_46 : decode cX2_remember 46 = .ok (.aload_n 0, 1) := by decide +kernel
theorem dX2_remember_47 : decode cX2_remember 47 = .ok (.getfield 18, 3) := by decide +kernel
theorem dX2_remember_50 : decode cX2_remember 50 = .ok (.iconst 1, 1) := by decide +kernel
theorem dX2_remember_51 : decode cX2_remember 51 = .ok (.iadd, 1) := by decide +kernel
theorem dX2_remember_52 : decode cX2_remember 52 = .ok (.bipush 14, 2) := by decide +kernel
theorem dX2_remember_54 : decode cX2_remember 54 = .ok (.irem, 1) := by decide +kernel
theorem dX2_remember_55 : decode cX2_remember 55 = .ok (.putfield 18, 3) := by decide +kernel
theorem dX2_remember_58 : decode cX2_remember 58 = .ok (.return_, 1) := by decide +kernel
set_option maxRecDepth 20000 in
theorem ggX2_takeBack_X2_stateAt : GoodIn wsX2_takeBack wsX2_stateAt := goodIn_r _ [7, 8, 65, 66, 67] (by decide +kernel) (by decide +kernel)
set_option maxRecDepth 20000 in
theorem gX2_takeBack_X2_stateAt : GoodIn wsX2_takeBack (wsV RX2 25 RX2 yX2_stateAt wsX2_stateAt) := goodIn_app (goodIn_of _ (by decide +kernel)) ggX2_takeBack_X2_stateAt
set_option maxRecDepth 20000 in
theorem ggX2_takeBack_X4_become : GoodIn wsX2_takeBack wsX4_become := goodIn_r _ [13, 14, 15, 16, 17, 18, 19, 20, 21, 22, 23, 12, 24, 25, 26, 27, 28, 29, 30, 31, 32, 33, 34, 35, 36, 37, 38, 39, 40, 41, 42, 43, 44, 45, 46, 47, 48, 49, 50, 51, 52, 53, 54, 55, 56, 57, 58, 59, 60, 61, 62, 63, 64, 68, 69, 70, 71, 72, 73, 74, 75, 76, 77] (by decide +kernel) (by decide +kernel)
set_option maxRecDepth 20000 in
theorem gX2_takeBack_X4_become : GoodIn wsX2_takeBack (wsV RX2 29 RX4 yX4_become wsX4_become) := goodIn_app (goodIn_of _ (by decide +kernel)) ggX2_takeBack_X4_become
theorem dX2_takeBack_0 : decode cX2_takeBack 0 = .ok (.aload_n 0, 1) := by decide +kernel
theorem dX2_takeBack_1 : decode cX2_takeBack 1 = .ok (.dup, 1) := by decide +kernel
theorem dX2_takeBack_2 : decode cX2_takeBack 2 = .ok (.getfield 22, 3) := by decide +kernel
theorem dX2_takeBack_5 : decode cX2_takeBack 5 = .ok (.iconst 1, 1) := by decide +kernel
theorem dX2_takeBack_6 : decode cX2_takeBack 6 = .ok (.isub, 1) := by decide +kernel
theorem dX2_takeBack_7 : decode cX2_takeBack 7 = .ok (.putfield 22, 3) := by decide +kernel
theorem dX2_takeBack_10 : decode cX2_takeBack 10 = .ok (.aload_n 0, 1) := by decide +kernel
theorem dX2_takeBack_11 : decode cX2_takeBack 11 = .ok (.aload_n 0, 1) := by decide +kernel
theorem dX2_takeBack_12 : decode cX2_takeBack 12 = .ok (.getfield 18, 3) := by decide +kernel
theorem dX2_takeBack_15 : decode cX2_takeBack 15 = .ok (.aload_n 0, 1) := by decide +kernel
theorem dX2_takeBack_16 : decode cX2_takeBack 16 = .ok (.getfield 22, 3) := by decide +kernel
theorem dX2_takeBack_19 : decode cX2_takeBack 19 = .ok (.iadd, 1) := by decide +kernel
theorem dX2_takeBack_20 : decode cX2_takeBack 20 = .ok (.invokevirtual 25, 3) := by decide +kernel
theorem dX2_takeBack_23 : decode cX2_takeBack 23 = .ok (.astore_n 2, 1) := by decide +kernel
theorem dX2_takeBack_24 : decode cX2_takeBack 24 = .ok (.aload_n 2, 1) := by decide +kernel
theorem dX2_takeBack_25 : decode cX2_takeBack 25 = .ok (.ifnull 8, 3) := by decide +kernel
theorem dX2_takeBack_28 : decode cX2_takeBack 28 = .ok (.aload_n 1, 1) := by decide +kernel
theorem dX2_takeBack_29 : decode cX2_takeBack 29 = .ok (.aload_n 2, 1) := by decide +kernel
theorem dX2_takeBack_30 : decode cX2_takeBack 30 = .ok (.invokevirtual 29, 3) := by decide +kernel
theorem dX2_takeBack_33 : decode cX2_takeBack 33 = .ok (.return_, 1) := by decide +kernel
theorem dX2_forgetAll_0 : decode cX2_forgetAll 0 = .ok (.aload_n 0, 1) := by decide +kernel
theorem dX2_forgetAll_1 : decode cX2_forgetAll 1 = .ok (.iconst 0, 1) := by decide +kernel
theorem dX2_forgetAll_2 : decode cX2_forgetAll 2 = .ok (.putfield 18, 3) := by decide +kernel
theorem dX2_forgetAll_5 : decode cX2_forgetAll 5 = .ok (.aload_n 0, 1) := by decide +kernel
theorem dX2_forgetAll_6 : decode cX2_forgetAll 6 = .ok (.iconst 0, 1) := by decide +kernel
theorem dX2_forgetAll_7 : decode cX2_forgetAll 7 = .ok (.putfield 22, 3) := by decide +kernel
theorem dX2_forgetAll_10 : decode cX2_forgetAll 10 = .ok (.return_, 1) := by decide +kernel
theorem dX3_init_0 : decode cX3_init 0 = .ok (.aload_n 0, 1) := by decide +kernel
theorem dX3_init_1 : decode cX3_init 1 = .ok (.invokespecial 3, 3) := by decide +kernel
theorem dX3_init_4 : decode cX3_init 4 = .ok (.aload_n 0, 1) := by decide +kernel
theorem dX3_init_5 : decode cX3_init 5 = .ok (.iconst 5, 1) := by decide +kernel
theorem dX3_init_6 : decode cX3_init 6 = .ok (.putfield 9, 3) := by decide +kernel
theorem dX3_init_9 : decode cX3_init 9 = .ok (.return_, 1) := by decide +kernel
theorem dX3_set_0 : decode cX3_set 0 = .ok (.aload_n 0, 1) := by decide +kernel
theorem dX3_set_1 : decode cX3_set 1 = .ok (.iload_n 1, 1) := by decide +kernel
theorem dX3_set_2 : decode cX3_set 2 = .ok (.putfield 9, 3) := by decide +kernel
theorem dX3_set_5 : decode cX3_set 5 = .ok (.aload_n 0, 1) := by decide +kernel
theorem dX3_set_6 : decode cX3_set 6 = .ok (.iload_n 2, 1) := by decide +kernel
theorem dX3_set_7 : decode cX3_set 7 = .ok (.putfield 15, 3) := by decide +kernel
theorem dX3_set_10 : decode cX3_set 10 = .ok (.aload_n 0, 1) := by decide +kernel
theorem dX3_set_11 : decode cX3_set 11 = .ok (.iload_n 3, 1) := by decide +kernel
theorem dX3_set_12 : decode cX3_set 12 = .ok (.putfield 18, 3) := by decide +kernel
theorem dX3_set_15 : decode cX3_set 15 = .ok (.aload_n 0, 1) := by decide +kernel
theorem dX3_set_16 : decode cX3_set 16 = .ok (.iload 4, 2) := by decide +kernel
theorem dX3_set_18 : decode cX3_set 18 = .ok (.putfield 21, 3) := by decide +kernel
theorem dX3_set_21 : decode cX3_set 21 = .ok (.return_, 1) := by decide +kernel
set_option maxRecDepth 20000 in
theorem ggX3_become_X3_set : GoodIn wsX3_become wsX3_set := goodIn_r _ [9, 1, 2, 3, 4, 10, 11, 12, 13] (by decide +kernel) (by decide +kernel)
set_option maxRecDepth 20000 in
theorem gX3_become_X3_set : GoodIn wsX3_become (wsV RX3 24 RX3 yX3_set wsX3_set) := goodIn_app (goodIn_of _ (by decide +kernel)) ggX3_become_X3_set
theorem dX3_become_0 : decode cX3_become 0 = .ok (.aload_n 0, 1) := by decide +kernel
theorem dX3_become_1 : decode cX3_become 1 = .ok (.aload_n 1, 1) := by decide +kernel
theorem dX3_become_2 : decode cX3_become 2 = .ok (.getfield 9, 3) := by decide +kernel
theorem dX3_become_5 : decode cX3_become 5 = .ok (.aload_n 1, 1) := by decide +kernel
theorem dX3_become_6 : decode cX3_become 6 = .ok (.getfield 15, 3) := by decide +kernel
theorem dX3_become_9 : decode cX3_become 9 = .ok (.aload_n 1, 1) := by decide +kernel
theorem dX3_become_10 : decode cX3_become 10 = .ok (.getfield 18, 3) := by decide +kernel
theorem dX3_become_13 : decode cX3_become 13 = .ok (.aload_n 1, 1) := by decide +kernel
theorem dX3_become_14 : decode cX3_become 14 = .ok (.getfield 21, 3) := by decide +kernel
theorem dX3_become_17 : decode cX3_become 17 = .ok (.invokevirtual 24, 3) := by decide +kernel
theorem dX3_become_20 : decode cX3_become 20 = .ok (.return_, 1) := by decide +kernel
theorem dX3_exchange_0 : decode cX3_exchange 0 = .ok (.aload_n 0, 1) := by decide +kernel
theorem dX3_exchange_1 : decode cX3_exchange 1 = .ok (.getfield 21, 3) := by decide +kernel
theorem dX3_exchange_4 : decode cX3_exchange 4 = .ok (.istore_n 3, 1) := by decide +kernel
theorem dX3_exchange_5 : decode cX3_exchange 5 = .ok (.iload_n 1, 1) := by decide +kernel
theorem dX3_exchange_6 : decode cX3_exchange 6 = .ok (.tableswitch 65 0 2 #[26, 39, 52], 26) := by decide +kernel
theorem dX3_exchange_32 : decode cX3_exchange 32 = .ok (.aload_n 0, 1) := by decide +kernel
theorem dX3_exchange_33 : decode cX3_exchange 33 = .ok (.getfield 9, 3) := by decide +kernel
theorem dX3_exchange_36 : decode cX3_exchange 36 = .ok (.istore_n 3, 1) := by decide +kernel
theorem dX3_exchange_37 : decode cX3_exchange 37 = .ok (.aload_n 0, 1) := by decide +kernel
theorem dX3_exchange_38 : decode cX3_exchange 38 = .ok (.iload_n 2, 1) := by decide +kernel
theorem dX3_exchange_39 : decode cX3_exchange 39 = .ok (.putfield 9, 3) := by decide +kernel
theorem dX3_exchange_42 : decode cX3_exchange 42 = .ok (.goto 34, 3) := by decide +kernel
theorem dX3_exchange_45 : decode cX3_exchange 45 = .ok (.aload_n 0, 1) := by decide +kernel
theorem dX3_exchange_46 : decode cX3_exchange 46 = .ok (.getfield 15, 3) := by decide +kernel
theorem dX3_exchange_49 : decode cX3_exchange 49 = .ok (.istore_n 3, 1) := by decide +kernel
theorem dX3_exchange_50 : decode cX3_exchange 50 = .ok (.aload_n 0, 1) := by decide +kernel
theorem dX3_exchange_51 : decode cX3_exchange 51 = .ok (.iload_n 2, 1) := by decide +kernel
theorem dX3_exchange_52 : decode cX3_exchange 52 = .ok (.putfield 15, 3) := by decide +kernel
theorem dX3_exchange_55 : decode cX3_exchange 55 = .ok (.goto 21, 3) := by decide +kernel
theorem dX3_exchange_58 : decode cX3_exchange 58 = .ok (.aload_n 0, 1) := by decide +kernel
theorem dX3_exchange_59 : decode cX3_exchange 59 = .ok (.getfield 18, 3) := by decide +kernel
theorem dX3_exchange_62 : decode cX3_exchange 62 = .ok (.istore_n 3, 1) := by decide +kernel
theorem dX3_exchange_63 : decode cX3_exchange 63 = .ok (.aload_n 0, 1) := by decide +kernel
theorem dX3_exchange_64 : decode cX3_exchange 64 = .ok (.iload_n 2, 1) := by decide +kernel
theorem dX3_exchange_65 : decode cX3_exchange 65 = .ok (.putfield 18, 3) := by decide +kernel
theorem dX3_exchange_68 : decode cX3_exchange 68 = .ok (.goto 8, 3) := by decide +kernel
theorem dX3_exchange_71 : decode cX3_exchange 71 = .ok (.aload_n 0, 1) := by decide +kernel
theorem dX3_exchange_72 : decode cX3_exchange 72 = .ok (.iload_n 2, 1) := by decide +kernel
theorem dX3_exchange_73 : decode cX3_exchange 73 = .ok (.putfield 21, 3) := by decide +kernel
theorem dX3_exchange_76 : decode cX3_exchange 76 = .ok (.iload_n 3, 1) := by decide +kernel
theorem dX3_exchange_77 : decode cX3_exchange 77 = .ok (.ireturn, 1) := by decide +kernel
set_option maxRecDepth 20000 in
theorem ggX3_angleAt_X7_remainder : GoodIn wsX3_angleAt wsX7_remainder := goodIn_r _ [4] (by decide +kernel) (by decide +kernel)
set_option maxRecDepth 20000 in
theorem gX3_angleAt_X7_remainder_n28 : GoodIn wsX3_angleAt (wsX7_remainder) := ggX3_angleAt_X7_remainder
theorem dX3_angleAt_0 : decode cX3_angleAt 0 = .ok (.aload_n 0, 1) := by decide +kernel
theorem dX3_angleAt_1 : decode cX3_angleAt 1 = .ok (.getfield 21, 3) := by decide +kernel
theorem dX3_angleAt_4 : decode cX3_angleAt 4 = .ok (.lload_n 2, 1) := by decide +kernel
theorem dX3_angleAt_5 : decode cX3_angleAt 5 = .ok (.iload_n 1, 1) := by decide +kernel
theorem dX3_angleAt_6 : decode cX3_angleAt 6 = .ok (.invokestatic 28, 3) := by decide +kernel
theorem dX3_angleAt_9 : decode cX3_angleAt 9 = .ok (.iadd, 1) := by decide +kernel
theorem dX3_angleAt_10 : decode cX3_angleAt 10 = .ok (.i2l, 1) := by decide +kernel
theorem dX3_angleAt_11 : decode cX3_angleAt 11 = .ok (.iload_n 1, 1) := by decide +kernel
theorem dX3_angleAt_12 : decode cX3_angleAt 12 = .ok (.invokestatic 28, 3) := by decide +kernel
theorem dX3_angleAt_15 : decode cX3_angleAt 15 = .ok (.ireturn, 1) := by decide +kernel
set_option maxRecDepth 20000 in
theorem ggX3_radiusAt_X7_remainder : GoodIn wsX3_radiusAt wsX7_remainder := goodIn_r _ [10] (by decide +kernel) (by decide +kernel)
set_option maxRecDepth 20000 in
theorem gX3_radiusAt_X7_remainder_n28 : GoodIn wsX3_radiusAt (wsX7_remainder) := ggX3_radiusAt_X7_remainder
set_option maxRecDepth 20000 in
theorem ggX3_radiusAt_X7_quotient : GoodIn wsX3_radiusAt wsX7_quotient := goodIn_r _ [12] (by decide +kernel) (by decide +kernel)
set_option maxRecDepth 20000 in
theorem gX3_radiusAt_X7_quotient_n38 : GoodIn wsX3_radiusAt (wsX7_quotient) := ggX3_radiusAt_X7_quotient
theorem dX3_radiusAt_0 : decode cX3_radiusAt 0 = .ok (.lload_n 1, 1) := by decide +kernel
theorem dX3_radiusAt_1 : decode cX3_radiusAt 1 = .ok (.aload_n 0, 1) := by decide +kernel
theorem dX3_radiusAt_2 : decode cX3_radiusAt 2 = .ok (.getfield 9, 3) := by decide +kernel
theorem dX3_radiusAt_5 : decode cX3_radiusAt 5 = .ok (.invokestatic 28, 3) := by decide +kernel
theorem dX3_radiusAt_8 : decode cX3_radiusAt 8 = .ok (.istore_n 3, 1) := by decide +kernel
theorem dX3_radiusAt_9 : decode cX3_radiusAt 9 = .ok (.aload_n 0, 1) := by decide +kernel
theorem dX3_radiusAt_10 : decode cX3_radiusAt 10 = .ok (.getfield 15, 3) := by decide +kernel
theorem dX3_radiusAt_13 : decode cX3_radiusAt 13 = .ok (.ifCond .ne 14, 3) := by decide +kernel
theorem dX3_radiusAt_16 : decode cX3_radiusAt 16 = .ok (.sipush 200, 3) := by decide +kernel
theorem dX3_radiusAt_19 : decode cX3_radiusAt 19 = .ok (.aload_n 0, 1) := by decide +kernel
theorem dX3_radiusAt_20 : decode cX3_radiusAt 20 = .ok (.getfield 9, 3) := by decide +kernel
theorem dX3_radiusAt_23 : decode cX3_radiusAt 23 = .ok (.isub, 1) := by decide +kernel
theorem dX3_radiusAt_24 : decode cX3_radiusAt 24 = .ok (.goto 11, 3) := by decide +kernel
theorem dX3_radiusAt_27 : decode cX3_radiusAt 27 = .ok (.sipush 200, 3) := by decide +kernel
theorem dX3_radiusAt_30 : decode cX3_radiusAt 30 = .ok (.aload_n 0, 1) := by decide +kernel
theorem dX3_radiusAt_31 : decode cX3_radiusAt 31 = .ok (.getfield 9, 3) := by decide +kernel
theorem dX3_radiusAt_34 : decode cX3_radiusAt 34 = .ok (.iadd, 1) := by decide +kernel
theorem dX3_radiusAt_35 : decode cX3_radiusAt 35 = .ok (.istore 4, 2) := by decide +kernel
theorem dX3_radiusAt_37 : decode cX3_radiusAt 37 = .ok (.iload 4, 2) := by decide +kernel
theorem dX3_radiusAt_39 : decode cX3_radiusAt 39 = .ok (.aload_n 0, 1) := by decide +kernel
theorem dX3_radiusAt_40 : decode cX3_radiusAt 40 = .ok (.getfield 18, 3) := by decide +kernel
theorem dX3_radiusAt_43 : decode cX3_radiusAt 43 = .ok (.iconst 2, 1) := by decide +kernel
theorem dX3_radiusAt_44 : decode cX3_radiusAt 44 = .ok (.iconst 2, 1) := by decide +kernel
theorem dX3_radiusAt_45 : decode cX3_radiusAt 45 = .ok (.iload_n 3, 1) := by decide +kernel
theorem dX3_radiusAt_46 : decode cX3_radiusAt 46 = .ok (.imul, 1) := by decide +kernel
theorem dX3_radiusAt_47 : decode cX3_radiusAt 47 = .ok (.aload_n 0, 1) := by decide +kernel
theorem dX3_radiusAt_48 : decode cX3_radiusAt 48 = .ok (.getfield 9, 3) := by decide +kernel
theorem dX3_radiusAt_51 : decode cX3_radiusAt 51 = .ok (.isub, 1) := by decide +kernel
theorem dX3_radiusAt_52 : decode cX3_radiusAt 52 = .ok (.invokestatic 32, 3) := by decide +kernel
theorem dX3_radiusAt_55 : decode cX3_radiusAt 55 = .ok (.imul, 1) := by decide +kernel
theorem dX3_radiusAt_56 : decode cX3_radiusAt 56 = .ok (.aload_n 0, 1) := by decide +kernel
theorem dX3_radiusAt_57 : decode cX3_radiusAt 57 = .ok (.getfield 9, 3) := by decide +kernel
theorem dX3_radiusAt_60 : decode cX3_radiusAt 60 = .ok (.isub, 1) := by decide +kernel
theorem dX3_radiusAt_61 : decode cX3_radiusAt 61 = .ok (.imul, 1) := by decide +kernel
theorem dX3_radiusAt_62 : decode cX3_radiusAt 62 = .ok (.i2l, 1) := by decide +kernel
theorem dX3_radiusAt_63 : decode cX3_radiusAt 63 = .ok (.aload_n 0, 1) := by decide +kernel
theorem dX3_radiusAt_64 : decode cX3_radiusAt 64 = .ok (.getfield 9, 3) := by decide +kernel
theorem dX3_radiusAt_67 : decode cX3_radiusAt 67 = .ok (.i2l, 1) := by decide +kernel
theorem dX3_radiusAt_68 : decode cX3_radiusAt 68 = .ok (.invokestatic 38, 3) := by decide +kernel
theorem dX3_radiusAt_71 : decode cX3_radiusAt 71 = .ok (.l2i, 1) := by decide +kernel
theorem dX3_radiusAt_72 : decode cX3_radiusAt 72 = .ok (.iadd, 1) := by decide +kernel
theorem dX3_radiusAt_73 : decode cX3_radiusAt 73 = .ok (.ireturn, 1) := by decide +kernel
set_option maxRecDepth 20000 in
theorem ggX3_leastRadius_X3_radiusAt : GoodIn wsX3_leastRadius wsX3_radiusAt := goodIn_r _ [10, 1, 11, 12, 13, 14, 4, 15, 16, 17, 18, 19, 20, 21, 22, 23, 24] (by decide +kernel) (by decide +kernel)
set_option maxRecDepth 20000 in
theorem gX3_leastRadius_X3_radiusAt : GoodIn wsX3_leastRadius (wsV RX3 42 RX3 yX3_radiusAt wsX3_radiusAt) := goodIn_app (goodIn_of _ (by decide +kernel)) ggX3_leastRadius_X3_radiusAt
theorem dX3_leastRadius_0 : decode cX3_leastRadius 0 = .ok (.aload_n 0, 1) := by decide +kernel
theorem dX3_leastRadius_1 : decode cX3_leastRadius 1 = .ok (.lconst 0, 1) := by decide +kernel
theorem dX3_leastRadius_2 : decode cX3_leastRadius 2 = .ok (.invokevirtual 42, 3) := by decide +kernel
theorem dX3_leastRadius_5 : decode cX3_leastRadius 5 = .ok (.istore_n 1, 1) := by decide +kernel
theorem dX3_leastRadius_6 : decode cX3_leastRadius 6 = .ok (.iconst 1, 1) := by decide +kernel
theorem dX3_leastRadius_7 : decode cX3_leastRadius 7 = .ok (.istore_n 2, 1) := by decide +kernel
theorem dX3_leastRadius_8 : decode cX3_leastRadius 8 = .ok (.iload_n 2, 1) := by decide +kernel
theorem dX3_leastRadius_9 : decode cX3_leastRadius 9 = .ok (.aload_n 0, 1) := by decide +kernel
theorem dX3_leastRadius_10 : decode cX3_leastRadius 10 = .ok (.getfield 9, 3) := by decide +kernel
theorem dX3_leastRadius_13 : decode cX3_leastRadius 13 = .ok (.if_icmp .ge 20, 3) := by decide +kernel
theorem dX3_leastRadius_16 : decode cX3_leastRadius 16 = .ok (.iload_n 1, 1) := by decide +kernel
theorem dX3_leastRadius_17 : decode cX3_leastRadius 17 = .ok (.aload_n 0, 1) := by decide +kernel
theorem dX3_leastRadius_18 : decode cX3_leastRadius 18 = .ok (.iload_n 2, 1) := by decide +kernel
theorem dX3_leastRadius_19 : decode cX3_leastRadius 19 = .ok (.i2l, 1) := by decide +kernel
theorem dX3_leastRadius_20 : decode cX3_leastRadius 20 = .ok (.invokevirtual 42, 3) := by decide +kernel
theorem dX3_leastRadius_23 : decode cX3_leastRadius 23 = .ok (.invokestatic 46, 3) := by decide +kernel
theorem dX3_leastRadius_26 : decode cX3_leastRadius 26 = .ok (.istore_n 1, 1) := by decide +kernel
theorem dX3_leastRadius_27 : decode cX3_leastRadius 27 = .ok (.iinc 2 1, 3) := by decide +kernel
theorem dX3_leastRadius_30 : decode cX3_leastRadius 30 = .ok (.goto (-22), 3) := by decide +kernel
theorem dX3_leastRadius_33 : decode cX3_leastRadius 33 = .ok (.iload_n 1, 1) := by decide +kernel
theorem dX3_leastRadius_34 : decode cX3_leastRadius 34 = .ok (.ireturn, 1) := by decide +kernel
set_option maxRecDepth 20000 in
theorem ggX3_greatestRadius_X3_radiusAt : GoodIn wsX3_greatestRadius wsX3_radiusAt := goodIn_r _ [10, 1, 11, 12, 13, 14, 4, 15, 16, 17, 18, 19, 20, 21, 22, 23, 24] (by decide +kernel) (by decide +kernel)
set_option maxRecDepth 20000 in
theorem gX3_greatestRadius_X3_radiusAt : GoodIn wsX3_greatestRadius (wsV RX3 42 RX3 yX3_radiusAt wsX3_radiusAt) := goodIn_app (goodIn_of _ (by decide +kernel)) ggX3_greatestRadius_X3_radiusAt
theorem dX3_greatestRadius_0 : decode cX3_greatestRadius 0 = .ok (.aload_n 0, 1) := by decide +kernel
theorem dX3_greatestRadius_1 : decode cX3_greatestRadius 1 = .ok (.lconst 0, 1) := by decide +kernel
theorem dX3_greatestRadius_2 : decode cX3_greatestRadius 2 = .ok (.invokevirtual 42, 3) := by decide +kernel
theorem dX3_greatestRadius_5 : decode cX3_greatestRadius 5 = .ok (.istore_n 1, 1) := by decide +kernel
theorem dX3_greatestRadius_6 : decode cX3_greatestRadius 6 = .ok (.iconst 1, 1) := by decide +kernel
theorem dX3_greatestRadius_7 : decode cX3_greatestRadius 7 = .ok (.istore_n 2, 1) := by decide +kernel
theorem dX3_greatestRadius_8 : decode cX3_greatestRadius 8 = .ok (.iload_n 2, 1) := by decide +kernel
theorem dX3_greatestRadius_9 : decode cX3_greatestRadius 9 = .ok (.aload_n 0, 1) := by decide +kernel
theorem dX3_greatestRadius_10 : decode cX3_greatestRadius 10 = .ok (.getfield 9, 3) := by decide +kernel
theorem dX3_greatestRadius_13 : decode cX3_greatestRadius 13 = .ok (.if_icmp .ge 20, 3) := by decide +kernel
theorem dX3_greatestRadius_16 : decode cX3_greatestRadius 16 = .ok (.iload_n 1, 1) := by decide +kernel
theorem dX3_greatestRadius_17 : decode cX3_greatestRadius 17 = .ok (.aload_n 0, 1) := by decide +kernel
theorem dX3_greatestRadius_18 : decode cX3_greatestRadius 18 = .ok (.iload_n 2, 1) := by decide +kernel
theorem dX3_greatestRadius_19 : decode cX3_greatestRadius 19 = .ok (.i2l, 1) := by decide +kernel
theorem dX3_greatestRadius_20 : decode cX3_greatestRadius 20 = .ok (.invokevirtual 42, 3) := by decide +kernel
theorem dX3_greatestRadius_23 : decode cX3_greatestRadius 23 = .ok (.invokestatic 50, 3) := by decide +kernel
theorem dX3_greatestRadius_26 : decode cX3_greatestRadius 26 = .ok (.istore_n 1, 1) := by decide +kernel
theorem dX3_greatestRadius_27 : decode cX3_greatestRadius 27 = .ok (.iinc 2 1, 3) := by decide +kernel
theorem dX3_greatestRadius_30 : decode cX3_greatestRadius 30 = .ok (.goto (-22), 3) := by decide +kernel
theorem dX3_greatestRadius_33 : decode cX3_greatestRadius 33 = .ok (.iload_n 1, 1) := by decide +kernel
theorem dX3_greatestRadius_34 : decode cX3_greatestRadius 34 = .ok (.ireturn, 1) := by decide +kernel
set_option maxRecDepth 20000 in
theorem ggX3_period_X3_turns : GoodIn wsX3_period wsX3_turns := goodIn_r _ [5, 6, 7, 8, 9, 10, 11, 12, 13, 14, 15] (by decide +kernel) (by decide +kernel)
set_option maxRecDepth 20000 in
theorem gX3_period_X3_turns : GoodIn wsX3_period (wsV RX3 53 RX3 yX3_turns wsX3_turns) := goodIn_app (goodIn_of _ (by decide +kernel)) ggX3_period_X3_turns
theorem dX3_period_0 : decode cX3_period 0 = .ok (.iload_n 1, 1) := by decide +kernel
theorem dX3_period_1 : decode cX3_period 1 = .ok (.aload_n 0, 1) := by decide +kernel
theorem dX3_period_2 : decode cX3_period 2 = .ok (.iload_n 1, 1) := by decide +kernel
theorem dX3_period_3 : decode cX3_period 3 = .ok (.invokevirtual 53, 3) := by decide +kernel
theorem dX3_period_6 : decode cX3_period 6 = .ok (.imul, 1) := by decide +kernel
theorem dX3_period_7 : decode cX3_period 7 = .ok (.ireturn, 1) := by decide +kernel
set_option maxRecDepth 20000 in
theorem ggX3_turns_X7_commonDivisor : GoodIn wsX3_turns wsX7_commonDivisor := goodIn_r _ [4] (by decide +kernel) (by decide +kernel)
set_option maxRecDepth 20000 in
theorem gX3_turns_X7_commonDivisor_n56 : GoodIn wsX3_turns (wsX7_commonDivisor) := ggX3_turns_X7_commonDivisor
set_option maxRecDepth 20000 in
theorem ggX3_turns_X7_quotient : GoodIn wsX3_turns wsX7_quotient := goodIn_r _ [6] (by decide +kernel) (by decide +kernel)
set_option maxRecDepth 20000 in
theorem gX3_turns_X7_quotient_n38 : GoodIn wsX3_turns (wsX7_quotient) := ggX3_turns_X7_quotient
theorem dX3_turns_0 : decode cX3_turns 0 = .ok (.aload_n 0, 1) := by decide +kernel
theorem dX3_turns_1 : decode cX3_turns 1 = .ok (.getfield 9, 3) := by decide +kernel
theorem dX3_turns_4 : decode cX3_turns 4 = .ok (.i2l, 1) := by decide +kernel
theorem dX3_turns_5 : decode cX3_turns 5 = .ok (.iload_n 1, 1) := by decide +kernel
theorem dX3_turns_6 : decode cX3_turns 6 = .ok (.i2l, 1) := by decide +kernel
theorem dX3_turns_7 : decode cX3_turns 7 = .ok (.aload_n 0, 1) := by decide +kernel
theorem dX3_turns_8 : decode cX3_turns 8 = .ok (.getfield 9, 3) := by decide +kernel
theorem dX3_turns_11 : decode cX3_turns 11 = .ok (.i2l, 1) := by decide +kernel
theorem dX3_turns_12 : decode cX3_turns 12 = .ok (.invokestatic 56, 3) := by decide +kernel
theorem dX3_turns_15 : decode cX3_turns 15 = .ok (.invokestatic 38, 3) := by decide +kernel
theorem dX3_turns_18 : decode cX3_turns 18 = .ok (.l2i, 1) := by decide +kernel
theorem dX3_turns_19 : decode cX3_turns 19 = .ok (.ireturn, 1) := by decide +kernel
set_option maxRecDepth 20000 in
theorem ggX3_lobes_X7_commonDivisor : GoodIn wsX3_lobes wsX7_commonDivisor := goodIn_r _ [4] (by decide +kernel) (by decide +kernel)
set_option maxRecDepth 20000 in
theorem gX3_lobes_X7_commonDivisor_n56 : GoodIn wsX3_lobes (wsX7_commonDivisor) := ggX3_lobes_X7_commonDivisor
set_option maxRecDepth 20000 in
theorem ggX3_lobes_X7_quotient : GoodIn wsX3_lobes wsX7_quotient := goodIn_r _ [6] (by decide +kernel) (by decide +kernel)
set_option maxRecDepth 20000 in
theorem gX3_lobes_X7_quotient_n38 : GoodIn wsX3_lobes (wsX7_quotient) := ggX3_lobes_X7_quotient
theorem dX3_lobes_0 : decode cX3_lobes 0 = .ok (.iload_n 1, 1) := by decide +kernel
theorem dX3_lobes_1 : decode cX3_lobes 1 = .ok (.i2l, 1) := by decide +kernel
theorem dX3_lobes_2 : decode cX3_lobes 2 = .ok (.iload_n 1, 1) := by decide +kernel
theorem dX3_lobes_3 : decode cX3_lobes 3 = .ok (.i2l, 1) := by decide +kernel
theorem dX3_lobes_4 : decode cX3_lobes 4 = .ok (.aload_n 0, 1) := by decide +kernel
theorem dX3_lobes_5 : decode cX3_lobes 5 = .ok (.getfield 9, 3) := by decide +kernel
theorem dX3_lobes_8 : decode cX3_lobes 8 = .ok (.i2l, 1) := by decide +kernel
theorem dX3_lobes_9 : decode cX3_lobes 9 = .ok (.invokestatic 56, 3) := by decide +kernel
theorem dX3_lobes_12 : decode cX3_lobes 12 = .ok (.invokestatic 38, 3) := by decide +kernel
theorem dX3_lobes_15 : decode cX3_lobes 15 = .ok (.l2i, 1) := by decide +kernel
theorem dX3_lobes_16 : decode cX3_lobes 16 = .ok (.ireturn, 1) := by decide +kernel
set_option maxRecDepth 20000 in
theorem ggX3_firstStepAt_X7_remainder : GoodIn wsX3_firstStepAt wsX7_remainder := goodIn_r _ [4] (by decide +kernel) (by decide +kernel)
set_option maxRecDepth 20000 in
theorem gX3_firstStepAt_X7_remainder_n28 : GoodIn wsX3_firstStepAt (wsX7_remainder) := ggX3_firstStepAt_X7_remainder
set_option maxRecDepth 20000 in
theorem ggX3_firstStepAt_X3_turns : GoodIn wsX3_firstStepAt wsX3_turns := goodIn_r _ [9, 10, 11, 3, 12, 13, 14, 25, 26, 27, 28] (by decide +kernel) (by decide +kernel)
set_option maxRecDepth 20000 in
theorem gX3_firstStepAt_X3_turns : GoodIn wsX3_firstStepAt (wsV RX3 53 RX3 yX3_turns wsX3_turns) := goodIn_app (goodIn_of _ (by decide +kernel)) ggX3_firstStepAt_X3_turns
set_option maxRecDepth 20000 in
theorem ggX3_firstStepAt_X3_radiusAt : GoodIn wsX3_firstStepAt wsX3_radiusAt := goodIn_r _ [18, 10, 19, 20, 21, 22, 23, 24, 2, 3, 4, 13, 14, 25, 26, 27, 28] (by decide +kernel) (by decide +kernel)
set_option maxRecDepth 20000 in
theorem gX3_firstStepAt_X3_radiusAt : GoodIn wsX3_firstStepAt (wsV RX3 42 RX3 yX3_radiusAt wsX3_radiusAt) := goodIn_app (goodIn_of _ (by decide +kernel)) ggX3_firstStepAt_X3_radiusAt
theorem dX3_firstStepAt_0 : decode cX3_firstStepAt 0 = .ok (.iload_n 2, 1) := by decide +kernel
theorem dX3_firstStepAt_1 : decode cX3_firstStepAt 1 = .ok (.i2l, 1) := by decide +kernel
theorem dX3_firstStepAt_2 : decode cX3_firstStepAt 2 = .ok (.aload_n 0, 1) := by decide +kernel
theorem dX3_firstStepAt_3 : decode cX3_firstStepAt 3 = .ok (.getfield 21, 3) := by decide +kernel
theorem dX3_firstStepAt_6 : decode cX3_firstStepAt 6 = .ok (.i2l, 1) := by decide +kernel
theorem dX3_firstStepAt_7 : decode cX3_firstStepAt 7 = .ok (.lsub, 1) := by decide +kernel
theorem dX3_firstStepAt_8 : decode cX3_firstStepAt 8 = .ok (.iload_n 1, 1) := by decide +kernel
theorem dX3_firstStepAt_9 : decode cX3_firstStepAt 9 = .ok (.i2l, 1) := by decide +kernel
theorem dX3_firstStepAt_10 : decode cX3_firstStepAt 10 = .ok (.ladd, 1) := by decide +kernel
theorem dX3_firstStepAt_11 : decode cX3_firstStepAt 11 = .ok (.iload_n 1, 1) := by decide +kernel
theorem dX3_firstStepAt_12 : decode cX3_firstStepAt 12 = .ok (.invokestatic 28, 3) := by decide +kernel
theorem dX3_firstStepAt_15 : decode cX3_firstStepAt 15 = .ok (.istore 4, 2) := by decide +kernel
theorem dX3_firstStepAt_17 : decode cX3_firstStepAt 17 = .ok (.aload_n 0, 1) := by decide +kernel
theorem dX3_firstStepAt_18 : decode cX3_firstStepAt 18 = .ok (.iload_n 1, 1) := by decide +kernel
theorem dX3_firstStepAt_19 : decode cX3_firstStepAt 19 = .ok (.invokevirtual 53, 3) := by decide +kernel
theorem dX3_firstStepAt_22 : decode cX3_firstStepAt 22 = .ok (.istore 5, 2) := by decide +kernel
theorem dX3_firstStepAt_24 : decode cX3_firstStepAt 24 = .ok (.iconst 0, 1) := by decide +kernel
theorem dX3_firstStepAt_25 : decode cX3_firstStepAt 25 = .ok (.istore 6, 2) := by decide +kernel
theorem dX3_firstStepAt_27 : decode cX3_firstStepAt 27 = .ok (.iload 6, 2) := by decide +kernel
theorem dX3_firstStepAt_29 : decode cX3_firstStepAt 29 = .ok (.iload 5, 2) := by decide +kernel
theorem dX3_firstStepAt_31 : decode cX3_firstStepAt 31 = .ok (.if_icmp .ge 32, 3) := by decide +kernel
theorem dX3_firstStepAt_34 : decode cX3_firstStepAt 34 = .ok (.iload 4, 2) := by decide +kernel
theorem dX3_firstStepAt_36 : decode cX3_firstStepAt 36 = .ok (.iload 6, 2) := by decide +kernel
theorem dX3_firstStepAt_38 : decode cX3_firstStepAt 38 = .ok (.iload_n 1, 1) := by decide +kernel
theorem dX3_firstStepAt_39 : decode cX3_firstStepAt 39 = .ok (.imul, 1) := by decide +kernel
theorem dX3_firstStepAt_40 : decode cX3_firstStepAt 40 = .ok (.iadd, 1) := by decide +kernel
theorem dX3_firstStepAt_41 : decode cX3_firstStepAt 41 = .ok (.istore 7, 2) := by decide +kernel
theorem dX3_firstStepAt_43 : decode cX3_firstStepAt 43 = .ok (.aload_n 0, 1) := by decide +kernel
theorem dX3_firstStepAt_44 : decode cX3_firstStepAt 44 = .ok (.iload 7, 2) := by decide +kernel
theorem dX3_firstStepAt_46 : decode cX3_firstStepAt 46 = .ok (.i2l, 1) := by decide +kernel
theorem dX3_firstStepAt_47 : decode cX3_firstStepAt 47 = .ok (.invokevirtual 42, 3) := by decide +kernel
theorem dX3_firstStepAt_50 : decode cX3_firstStepAt 50 = .ok (.iload_n 3, 1) := by decide +kernel
theorem dX3_firstStepAt_51 : decode cX3_firstStepAt 51 = .ok (.if_icmp .ne 6, 3) := by decide +kernel
theorem dX3_firstStepAt_54 : decode cX3_firstStepAt 54 = .ok (.iload 7, 2) := by decide +kernel
theorem dX3_firstStepAt_56 : decode cX3_firstStepAt 56 = .ok (.ireturn, 1) := by decide +kernel
theorem dX3_firstStepAt_57 : decode cX3_firstStepAt 57 = .ok (.iinc 6 1, 3) := by decide +kernel
theorem dX3_firstStepAt_60 : decode cX3_firstStepAt 60 = .ok (.goto (-33), 3) := by decide +kernel
theorem dX3_firstStepAt_63 : decode cX3_firstStepAt 63 = .ok (.bipush (-9), 2) := by decide +kernel
theorem dX3_firstStepAt_65 : decode cX3_firstStepAt 65 = .ok (.ireturn, 1) := by decide +kernel
set_option maxRecDepth 20000 in
theorem ggX3_firstMeeting_X7_commonMultiple : GoodIn wsX3_firstMeeting wsX7_commonMultiple := goodIn_r _ [5, 6, 7, 4, 8, 9, 10, 11] (by decide +kernel) (by decide +kernel)
set_option maxRecDepth 20000 in
theorem gX3_firstMeeting_X7_commonMultiple_n59 : GoodIn wsX3_firstMeeting (wsX7_commonMultiple) := ggX3_firstMeeting_X7_commonMultiple
set_option maxRecDepth 20000 in
theorem ggX3_firstMeeting_X3_radiusAt : GoodIn wsX3_firstMeeting wsX3_radiusAt := goodIn_r _ [16, 2, 17, 18, 19, 20, 21, 22, 23, 4, 24, 10, 11, 25, 26, 27, 28] (by decide +kernel) (by decide +kernel)
set_option maxRecDepth 20000 in
theorem gX3_firstMeeting_X3_radiusAt : GoodIn wsX3_firstMeeting (wsV RX3 42 RX3 yX3_radiusAt wsX3_radiusAt) := goodIn_app (goodIn_of _ (by decide +kernel)) ggX3_firstMeeting_X3_radiusAt
theorem dX3_firstMeeting_0 : decode cX3_firstMeeting 0 = .ok (.aload_n 0, 1) := by decide +kernel
theorem dX3_firstMeeting_1 : decode cX3_firstMeeting 1 = .ok (.getfield 21, 3) := by decide +kernel
theorem dX3_firstMeeting_4 : decode cX3_firstMeeting 4 = .ok (.aload_n 1, 1) := by decide +kernel
theorem dX3_firstMeeting_5 : decode cX3_firstMeeting 5 = .ok (.getfield 21, 3) := by decide +kernel
theorem dX3_firstMeeting_8 : decode cX3_firstMeeting 8 = .ok (.if_icmp .eq 6, 3) := by decide +kernel
theorem dX3_firstMeeting_11 : decode cX3_firstMeeting 11 = .ok (.bipush (-9), 2) := by decide +kernel
theorem dX3_firstMeeting_13 : decode cX3_firstMeeting 13 = .ok (.ireturn, 1) := by decide +kernel
theorem dX3_firstMeeting_14 : decode cX3_firstMeeting 14 = .ok (.aload_n 0, 1) := by decide +kernel
theorem dX3_firstMeeting_15 : decode cX3_firstMeeting 15 = .ok (.getfield 9, 3) := by decide +kernel
theorem dX3_firstMeeting_18 : decode cX3_firstMeeting 18 = .ok (.i2l, 1) := by decide +kernel
theorem dX3_firstMeeting_19 : decode cX3_firstMeeting 19 = .ok (.aload_n 1, 1) := by decide +kernel
theorem dX3_firstMeeting_20 : decode cX3_firstMeeting 20 = .ok (.getfield 9, 3) := by decide +kernel
theorem dX3_firstMeeting_23 : decode cX3_firstMeeting 23 = .ok (.i2l, 1) := by decide +kernel
theorem dX3_firstMeeting_24 : decode cX3_firstMeeting 24 = .ok (.invokestatic 59, 3) := by decide +kernel
theorem dX3_firstMeeting_27 : decode cX3_firstMeeting 27 = .ok (.l2i, 1) := by decide +kernel
theorem dX3_firstMeeting_28 : decode cX3_firstMeeting 28 = .ok (.istore_n 2, 1) := by decide +kernel
theorem dX3_firstMeeting_29 : decode cX3_firstMeeting 29 = .ok (.iconst 0, 1) := by decide +kernel
theorem dX3_firstMeeting_30 : decode cX3_firstMeeting 30 = .ok (.istore_n 3, 1) := by decide +kernel
theorem dX3_firstMeeting_31 : decode cX3_firstMeeting 31 = .ok (.iload_n 3, 1) := by decide +kernel
theorem dX3_firstMeeting_32 : decode cX3_firstMeeting 32 = .ok (.iload_n 2, 1) := by decide +kernel
theorem dX3_firstMeeting_33 : decode cX3_firstMeeting 33 = .ok (.if_icmp .ge 26, 3) := by decide +kernel
theorem dX3_firstMeeting_36 : decode cX3_firstMeeting 36 = .ok (.aload_n 0, 1) := by decide +kernel
theorem dX3_firstMeeting_37 : decode cX3_firstMeeting 37 = .ok (.iload_n 3, 1) := by decide +kernel
theorem dX3_firstMeeting_38 : decode cX3_firstMeeting 38 = .ok (.i2l, 1) := by decide +kernel
theorem dX3_firstMeeting_39 : decode cX3_firstMeeting 39 = .ok (.invokevirtual 42, 3) := by decide +kernel
theorem dX3_firstMeeting_42 : decode cX3_firstMeeting 42 = .ok (.aload_n 1, 1) := by decide +kernel
theorem dX3_firstMeeting_43 : decode cX3_firstMeeting 43 = .ok (.iload_n 3, 1) := by decide +kernel
theorem dX3_firstMeeting_44 : decode cX3_firstMeeting 44 = .ok (.i2l, 1) := by decide +kernel
theorem dX3_firstMeeting_45 : decode cX3_firstMeeting 45 = .ok (.invokevirtual 42, 3) := by decide +kernel
theorem dX3_firstMeeting_48 : decode cX3_firstMeeting 48 = .ok (.if_icmp .ne 5, 3) := by decide +kernel
theorem dX3_firstMeeting_51 : decode cX3_firstMeeting 51 = .ok (.iload_n 3, 1) := by decide +kernel
theorem dX3_firstMeeting_52 : decode cX3_firstMeeting 52 = .ok (.ireturn, 1) := by decide +kernel
theorem dX3_firstMeeting_53 : decode cX3_firstMeeting 53 = .ok (.iinc 3 1, 3) := by decide +kernel
theorem dX3_firstMeeting_56 : decode cX3_firstMeeting 56 = .ok (.goto (-25), 3) := by decide +kernel
theorem dX3_firstMeeting_59 : decode cX3_firstMeeting 59 = .ok (.bipush (-9), 2) := by decide +kernel
theorem dX3_firstMeeting_61 : decode cX3_firstMeeting 61 = .ok (.ireturn, 1) := by decide +kernel
set_option maxRecDepth 20000 in
theorem ggX4_init_X3_init : GoodIn wsX4_init wsX3_init := goodIn_r _ [14, 15, 2, 3, 16, 23, 24, 25, 26] (by decide +kernel) (by decide +kernel)
set_option maxRecDepth 20000 in
theorem gX4_init_X3_init : GoodIn wsX4_init (wsX3_init) := ggX4_init_X3_init
theorem dX4_init_0 : decode cX4_init 0 = .ok (.aload_n 0, 1) := by decide +kernel
theorem dX4_init_1 : decode cX4_init 1 = .ok (.invokespecial 3, 3) := by decide +kernel
theorem dX4_init_4 : decode cX4_init 4 = .ok (.aload_n 0, 1) := by decide +kernel
theorem dX4_init_5 : decode cX4_init 5 = .ok (.bipush 24, 2) := by decide +kernel
theorem dX4_init_7 : decode cX4_init 7 = .ok (.putfield 9, 3) := by decide +kernel
theorem dX4_init_10 : decode cX4_init 10 = .ok (.aload_n 0, 1) := by decide +kernel
theorem dX4_init_11 : decode cX4_init 11 = .ok (.bipush 6, 2) := by decide +kernel
theorem dX4_init_13 : decode cX4_init 13 = .ok (.anewarray 15, 3) := by decide +kernel
theorem dX4_init_16 : decode cX4_init 16 = .ok (.putfield 17, 3) := by decide +kernel
theorem dX4_init_19 : decode cX4_init 19 = .ok (.iconst 0, 1) := by decide +kernel
theorem dX4_init_20 : decode cX4_init 20 = .ok (.istore_n 1, 1) := by decide +kernel
theorem dX4_init_21 : decode cX4_init 21 = .ok (.iload_n 1, 1) := by decide +kernel
theorem dX4_init_22 : decode cX4_init 22 = .ok (.aload_n 0, 1) := by decide +kernel
theorem dX4_init_23 : decode cX4_init 23 = .ok (.getfield 17, 3) := by decide +kernel
theorem dX4_init_26 : decode cX4_init 26 = .ok (.arraylength, 1) := by decide +kernel
theorem dX4_init_27 : decode cX4_init 27 = .ok (.if_icmp .ge 22, 3) := by decide +kernel
theorem dX4_init_30 : decode cX4_init 30 = .ok (.aload_n 0, 1) := by decide +kernel
theorem dX4_init_31 : decode cX4_init 31 = .ok (.getfield 17, 3) := by decide +kernel
theorem dX4_init_34 : decode cX4_init 34 = .ok (.iload_n 1, 1) := by decide +kernel
theorem dX4_init_35 : decode cX4_init 35 = .ok (.new 15, 3) := by decide +kernel
theorem dX4_init_38 : decode cX4_init 38 = .ok (.dup, 1) := by decide +kernel
theorem dX4_init_39 : decode cX4_init 39 = .ok (.invokespecial 21, 3) := by decide +kernel
theorem dX4_init_42 : decode cX4_init 42 = .ok (.aastore, 1) := by decide +kernel
theorem dX4_init_43 : decode cX4_init 43 = .ok (.iinc 1 1, 3) := by decide +kernel
theorem dX4_init_46 : decode cX4_init 46 = .ok (.goto (-25), 3) := by decide +kernel
theorem dX4_init_49 : decode cX4_init 49 = .ok (.aload_n 0, 1) := by decide +kernel
theorem dX4_init_50 : decode cX4_init 50 = .ok (.bipush 8, 2) := by decide +kernel
theorem dX4_init_52 : decode cX4_init 52 = .ok (.newarray .int, 2) := by decide +kernel
theorem dX4_init_54 : decode cX4_init 54 = .ok (.putfield 22, 3) := by decide +kernel
theorem dX4_init_57 : decode cX4_init 57 = .ok (.aload_n 0, 1) := by decide +kernel
theorem dX4_init_58 : decode cX4_init 58 = .ok (.bipush 8, 2) := by decide +kernel
theorem dX4_init_60 : decode cX4_init 60 = .ok (.newarray .int, 2) := by decide +kernel
theorem dX4_init_62 : decode cX4_init 62 = .ok (.putfield 26, 3) := by decide +kernel
theorem dX4_init_65 : decode cX4_init 65 = .ok (.return_, 1) := by decide +kernel
set_option maxRecDepth 20000 in
theorem ggX4_become_X4_empty : GoodIn wsX4_become wsX4_empty := goodIn_r _ [12, 1, 2, 7, 53, 54, 55, 56, 57, 58] (by decide +kernel) (by decide +kernel)
set_option maxRecDepth 20000 in
theorem gX4_become_X4_empty : GoodIn wsX4_become (wsV RX4 29 RX4 yX4_empty wsX4_empty) := goodIn_app (goodIn_of _ (by decide +kernel)) ggX4_become_X4_empty
set_option maxRecDepth 20000 in
theorem ggX4_become_X4_find : GoodIn wsX4_become wsX4_find := goodIn_r _ [16, 2, 17, 53, 54, 55, 56, 57, 58] (by decide +kernel) (by decide +kernel)
set_option maxRecDepth 20000 in
theorem gX4_become_X4_find : GoodIn wsX4_become (wsV RX4 36 RX4 yX4_find wsX4_find) := goodIn_app (goodIn_of _ (by decide +kernel)) ggX4_become_X4_find
set_option maxRecDepth 20000 in
theorem ggX4_become_X4_putLayer : GoodIn wsX4_become wsX4_putLayer := goodIn_r _ [21, 2, 22, 23, 24, 11, 25, 13, 14, 15, 16, 17, 26, 27, 28, 29, 30, 31, 32, 33, 34, 53, 54, 55, 56, 57, 58, 59, 60, 61, 62] (by decide +kernel) (by decide +kernel)
set_option maxRecDepth 20000 in
theorem gX4_become_X4_putLayer : GoodIn wsX4_become (wsV RX4 52 RX4 yX4_putLayer wsX4_putLayer) := goodIn_app (goodIn_of _ (by decide +kernel)) ggX4_become_X4_putLayer
set_option maxRecDepth 20000 in
theorem ggX4_become_X4_sightedAngle : GoodIn wsX4_become wsX4_sightedAngle := goodIn_r _ [38, 39, 53, 54, 55, 56, 57, 58] (by decide +kernel) (by decide +kernel)
set_option maxRecDepth 20000 in
theorem gX4_become_X4_sightedAngle : GoodIn wsX4_become (wsV RX4 59 RX4 yX4_sightedAngle wsX4_sightedAngle) := goodIn_app (goodIn_of _ (by decide +kernel)) ggX4_become_X4_sightedAngle
set_option maxRecDepth 20000 in
theorem ggX4_become_X4_sightedRadius : GoodIn wsX4_become wsX4_sightedRadius := goodIn_r _ [43, 44, 53, 54, 55, 56, 57, 58] (by decide +kernel) (by decide +kernel)
set_option maxRecDepth 20000 in
theorem gX4_become_X4_sightedRadius : GoodIn wsX4_become (wsV RX4 63 RX4 yX4_sightedRadius wsX4_sightedRadius) := goodIn_app (goodIn_of _ (by decide +kernel)) ggX4_become_X4_sightedRadius
set_option maxRecDepth 20000 in
theorem ggX4_become_X4_note : GoodIn wsX4_become wsX4_note := goodIn_r _ [48, 7, 39, 44, 49, 50, 51, 11, 52, 53, 54, 55, 56, 57, 58] (by decide +kernel) (by decide +kernel)
set_option maxRecDepth 20000 in
theorem gX4_become_X4_note : GoodIn wsX4_become (wsV RX4 66 RX4 yX4_note wsX4_note) := goodIn_app (goodIn_of _ (by decide +kernel)) ggX4_become_X4_note
theorem dX4_become_0 : decode cX4_become 0 = .ok (.aload_n 0, 1) := by decide +kernel
theorem dX4_become_1 : decode cX4_become 1 = .ok (.aload_n 1, 1) := by decide +kernel
theorem dX4_become_2 : decode cX4_become 2 = .ok (.getfield 9, 3) := by decide +kernel
theorem dX4_become_5 : decode cX4_become 5 = .ok (.invokevirtual 29, 3) := by decide +kernel
theorem dX4_become_8 : decode cX4_become 8 = .ok (.iconst 0, 1) := by decide +kernel
theorem dX4_become_9 : decode cX4_become 9 = .ok (.istore_n 2, 1) := by decide +kernel
theorem dX4_become_10 : decode cX4_become 10 = .ok (.iload_n 2, 1) := by decide +kernel
theorem dX4_become_11 : decode cX4_become 11 = .ok (.aload_n 1, 1) := by decide +kernel
theorem dX4_become_12 : decode cX4_become 12 = .ok (.getfield 33, 3) := by decide +kernel
theorem dX4_become_15 : decode cX4_become 15 = .ok (.if_icmp .ge 39, 3) := by decide +kernel
theorem dX4_become_18 : decode cX4_become 18 = .ok (.aload_n 1, 1) := by decide +kernel
theorem dX4_become_19 : decode cX4_become 19 = .ok (.iload_n 2, 1) := by decide +kernel
theorem dX4_become_20 : decode cX4_become 20 = .ok (.invokevirtual 36, 3) := by decide +kernel
theorem dX4_become_23 : decode cX4_become 23 = .ok (.astore_n 3, 1) := by decide +kernel
theorem dX4_become_24 : decode cX4_become 24 = .ok (.aload_n 3, 1) := by decide +kernel
theorem dX4_become_25 : decode cX4_become 25 = .ok (.ifnull 23, 3) := by decide +kernel
theorem dX4_become_28 : decode cX4_become 28 = .ok (.aload_n 0, 1) := by decide +kernel
theorem dX4_become_29 : decode cX4_become 29 = .ok (.aload_n 3, 1) := by decide +kernel
theorem dX4_become_30 : decode cX4_become 30 = .ok (.getfield 40, 3) := by decide +kernel
theorem dX4_become_33 : decode cX4_become 33 = .ok (.aload_n 3, 1) := by decide +kernel
theorem dX4_become_34 : decode cX4_become 34 = .ok (.getfield 43, 3) := by decide +kernel
theorem dX4_become_37 : decode cX4_become 37 = .ok (.aload_n 3, 1) := by decide +kernel
theorem dX4_become_38 : decode cX4_become 38 = .ok (.getfield 46, 3) := by decide +kernel
theorem dX4_become_41 : decode cX4_become 41 = .ok (.aload_n 3, 1) := by decide +kernel
theorem dX4_become_42 : decode cX4_become 42 = .ok (.getfield 49, 3) := by decide +kernel
theorem dX4_become_45 : decode cX4_become 45 = .ok (.invokevirtual 52, 3) := by decide +kernel
theorem dX4_become_48 : decode cX4_become 48 = .ok (.iinc 2 1, 3) := by decide +kernel
theorem dX4_become_51 : decode cX4_become 51 = .ok (.goto (-41), 3) := by decide +kernel
theorem dX4_become_54 : decode cX4_become 54 = .ok (.iconst 0, 1) := by decide +kernel
theorem dX4_become_55 : decode cX4_become 55 = .ok (.istore_n 2, 1) := by decide +kernel
theorem dX4_become_56 : decode cX4_become 56 = .ok (.iload_n 2, 1) := by decide +kernel
theorem dX4_become_57 : decode cX4_become 57 = .ok (.aload_n 1, 1) := by decide +kernel
theorem dX4_become_58 : decode cX4_become 58 = .ok (.getfield 56, 3) := by decide +kernel
theorem dX4_become_61 : decode cX4_become 61 = .ok (.if_icmp .ge 23, 3) := by decide +kernel
theorem dX4_become_64 : decode cX4_become 64 = .ok (.aload_n 0, 1) := by decide +kernel
theorem dX4_become_65 : decode cX4_become 65 = .ok (.aload_n 1, 1) := by decide +kernel
theorem dX4_become_66 : decode cX4_become 66 = .ok (.iload_n 2, 1) := by decide +kernel
theorem dX4_become_67 : decode cX4_become 67 = .ok (.invokevirtual 59, 3) := by decide +kernel
theorem dX4_become_70 : decode cX4_become 70 = .ok (.aload_n 1, 1) := by decide +kernel
theorem dX4_become_71 : decode cX4_become 71 = .ok (.iload_n 2, 1) := by decide +kernel
theorem dX4_become_72 : decode cX4_become 72 = .ok (.invokevirtual 63, 3) := by decide +kernel
theorem dX4_become_75 : decode cX4_become 75 = .ok (.invokevirtual 66, 3) := by decide +kernel
theorem dX4_become_78 : decode cX4_become 78 = .ok (.iinc 2 1, 3) := by decide +kernel
theorem dX4_become_81 : decode cX4_become 81 = .ok (.goto (-25), 3) := by decide +kernel
theorem dX4_become_84 : decode cX4_become 84 = .ok (.return_, 1) := by decide +kernel
theorem dX4_empty_0 : decode cX4_empty 0 = .ok (.aload_n 0, 1) := by decide +kernel
theorem dX4_empty_1 : decode cX4_empty 1 = .ok (.iload_n 1, 1) := by decide +kernel
theorem dX4_empty_2 : decode cX4_empty 2 = .ok (.putfield 9, 3) := by decide +kernel
theorem dX4_empty_5 : decode cX4_empty 5 = .ok (.aload_n 0, 1) := by decide +kernel
theorem dX4_empty_6 : decode cX4_empty 6 = .ok (.iconst 0, 1) := by decide +kernel
theorem dX4_empty_7 : decode cX4_empty 7 = .ok (.putfield 33, 3) := by decide +kernel
theorem dX4_empty_10 : decode cX4_empty 10 = .ok (.aload_n 0, 1) := by decide +kernel
theorem dX4_empty_11 : decode cX4_empty 11 = .ok (.iconst 0, 1) := by decide +kernel
theorem dX4_empty_12 : decode cX4_empty 12 = .ok (.putfield 56, 3) := by decide +kernel
theorem dX4_empty_15 : decode cX4_empty 15 = .ok (.return_, 1) := by decide +kernel
theorem dX4_find_0 : decode cX4_find 0 = .ok (.iload_n 1, 1) := by decide +kernel
theorem dX4_find_1 : decode cX4_find 1 = .ok (.ifCond .lt 29, 3) := by decide +kernel
theorem dX4_find_4 : decode cX4_find 4 = .ok (.iload_n 1, 1) := by decide +kernel
theorem dX4_find_5 : decode cX4_find 5 = .ok (.aload_n 0, 1) := by decide +kernel
theorem dX4_find_6 : decode cX4_find 6 = .ok (.getfield 33, 3) := by decide +kernel
theorem dX4_find_9 : decode cX4_find 9 = .ok (.if_icmp .ge 21, 3) := by decide +kernel
theorem dX4_find_12 : decode cX4_find 12 = .ok (.iload_n 1, 1) := by decide +kernel
theorem dX4_find_13 : decode cX4_find 13 = .ok (.aload_n 0, 1) := by decide +kernel
theorem dX4_find_14 : decode cX4_find 14 = .ok (.getfield 17, 3) := by decide +kernel
theorem dX4_find_17 : decode cX4_find 17 = .ok (.arraylength, 1) := by decide +kernel
theorem dX4_find_18 : decode cX4_find 18 = .ok (.if_icmp .ge 12, 3) := by decide +kernel
theorem dX4_find_21 : decode cX4_find 21 = .ok (.aload_n 0, 1) := by decide +kernel
theorem dX4_find_22 : decode cX4_find 22 = .ok (.getfield 17, 3) := by decide +kernel
theorem dX4_find_25 : decode cX4_find 25 = .ok (.iload_n 1, 1) := by decide +kernel
theorem dX4_find_26 : decode cX4_find 26 = .ok (.aaload, 1) := by decide +kernel
theorem dX4_find_27 : decode cX4_find 27 = .ok (.goto 4, 3) := by decide +kernel
theorem dX4_find_30 : decode cX4_find 30 = .ok (.aconst_null, 1) := by decide +kernel
theorem dX4_find_31 : decode cX4_find 31 = .ok (.areturn, 1) := by decide +kernel
theorem dX4_hasTooth_0 : decode cX4_hasTooth 0 = .ok (.iload_n 1, 1) := by decide +kernel
theorem dX4_hasTooth_1 : decode cX4_hasTooth 1 = .ok (.ifCond .lt 15, 3) := by decide +kernel
theorem dX4_hasTooth_4 : decode cX4_hasTooth 4 = .ok (.iload_n 1, 1) := by decide +kernel
theorem dX4_hasTooth_5 : decode cX4_hasTooth 5 = .ok (.aload_n 0, 1) := by decide +kernel
theorem dX4_hasTooth_6 : decode cX4_hasTooth 6 = .ok (.getfield 9, 3) := by decide +kernel
theorem dX4_hasTooth_9 : decode cX4_hasTooth 9 = .ok (.if_icmp .ge 7, 3) := by decide +kernel
theorem dX4_hasTooth_12 : decode cX4_hasTooth 12 = .ok (.iconst 1, 1) := by decide +kernel
theorem dX4_hasTooth_13 : decode cX4_hasTooth 13 = .ok (.goto 4, 3) := by decide +kernel
theorem dX4_hasTooth_16 : decode cX4_hasTooth 16 = .ok (.iconst 0, 1) := by decide +kernel
theorem dX4_hasTooth_17 : decode cX4_hasTooth 17 = .ok (.ireturn, 1) := by decide +kernel
theorem dX4_isFull_0 : decode cX4_isFull 0 = .ok (.aload_n 0, 1) := by decide +kernel
theorem dX4_isFull_1 : decode cX4_isFull 1 = .ok (.getfield 33, 3) := by decide +kernel
theorem dX4_isFull_4 : decode cX4_isFull 4 = .ok (.bipush 6, 2) := by decide +kernel
theorem dX4_isFull_6 : decode cX4_isFull 6 = .ok (.if_icmp .lt 7, 3) := by decide +kernel
theorem dX4_isFull_9 : decode cX4_isFull 9 = .ok (.iconst 1, 1) := by decide +kernel
theorem dX4_isFull_10 : decode cX4_isFull 10 = .ok (.goto 4, 3) := by decide +kernel
theorem dX4_isFull_13 : decode cX4_isFull 13 = .ok (.iconst 0, 1) := by decide +kernel
theorem dX4_isFull_14 : decode cX4_isFull 14 = .ok (.ireturn, 1) := by decide +kernel
set_option maxRecDepth 20000 in
theorem ggX4_allows_X7_isWheel : GoodIn wsX4_allows wsX7_isWheel := goodIn_r _ [3] (by decide +kernel) (by decide +kernel)
set_option maxRecDepth 20000 in
theorem gX4_allows_X7_isWheel_n70 : GoodIn wsX4_allows (wsX7_isWheel) := ggX4_allows_X7_isWheel
set_option maxRecDepth 20000 in
theorem ggX4_allows_X7_isSide : GoodIn wsX4_allows wsX7_isSide := goodIn_r _ [5] (by decide +kernel) (by decide +kernel)
set_option maxRecDepth 20000 in
theorem gX4_allows_X7_isSide_n74 : GoodIn wsX4_allows (wsX7_isSide) := ggX4_allows_X7_isSide
set_option maxRecDepth 20000 in
theorem ggX4_allows_X7_isHole : GoodIn wsX4_allows wsX7_isHole := goodIn_r _ [7] (by decide +kernel) (by decide +kernel)
set_option maxRecDepth 20000 in
theorem gX4_allows_X7_isHole_n77 : GoodIn wsX4_allows (wsX7_isHole) := ggX4_allows_X7_isHole
set_option maxRecDepth 20000 in
theorem ggX4_allows_X4_hasTooth : GoodIn wsX4_allows wsX4_hasTooth := goodIn_r _ [12, 13, 14, 15, 16, 17, 18, 19] (by decide +kernel) (by decide +kernel)
set_option maxRecDepth 20000 in
theorem gX4_allows_X4_hasTooth : GoodIn wsX4_allows (wsV RX4 80 RX4 yX4_hasTooth wsX4_hasTooth) := goodIn_app (goodIn_of _ (by decide +kernel)) ggX4_allows_X4_hasTooth
theorem dX4_allows_0 : decode cX4_allows 0 = .ok (.iload_n 1, 1) := by decide +kernel
theorem dX4_allows_1 : decode cX4_allows 1 = .ok (.tableswitch 52 0 3 #[31, 36, 41, 46], 31) := by decide +kernel
theorem dX4_allows_32 : decode cX4_allows 32 = .ok (.iload_n 2, 1) := by decide +kernel
theorem dX4_allows_33 : decode cX4_allows 33 = .ok (.invokestatic 70, 3) := by decide +kernel
theorem dX4_allows_36 : decode cX4_allows 36 = .ok (.ireturn, 1) := by decide +kernel
theorem dX4_allows_37 : decode cX4_allows 37 = .ok (.iload_n 2, 1) := by decide +kernel
theorem dX4_allows_38 : decode cX4_allows 38 = .ok (.invokestatic 74, 3) := by decide +kernel
theorem dX4_allows_41 : decode cX4_allows 41 = .ok (.ireturn, 1) := by decide +kernel
theorem dX4_allows_42 : decode cX4_allows 42 = .ok (.iload_n 2, 1) := by decide +kernel
theorem dX4_allows_43 : decode cX4_allows 43 = .ok (.invokestatic 77, 3) := by decide +kernel
theorem dX4_allows_46 : decode cX4_allows 46 = .ok (.ireturn, 1) := by decide +kernel
theorem dX4_allows_47 : decode cX4_allows 47 = .ok (.aload_n 0, 1) := by decide +kernel
theorem dX4_allows_48 : decode cX4_allows 48 = .ok (.iload_n 2, 1) := by decide +kernel
theorem dX4_allows_49 : decode cX4_allows 49 = .ok (.invokevirtual 80, 3) := by decide +kernel
theorem dX4_allows_52 : decode cX4_allows 52 = .ok (.ireturn, 1) := by decide +kernel
theorem dX4_allows_53 : decode cX4_allows 53 = .ok (.iconst 0, 1) := by decide +kernel
theorem dX4_allows_54 : decode cX4_allows 54 = .ok (.ireturn, 1) := by decide +kernel
set_option maxRecDepth 20000 in
theorem ggX4_takeRing_X4_find : GoodIn wsX4_takeRing wsX4_find := goodIn_r _ [9, 2, 10, 15, 16, 17, 18, 19, 20] (by decide +kernel) (by decide +kernel)
set_option maxRecDepth 20000 in
theorem gX4_takeRing_X4_find : GoodIn wsX4_takeRing (wsV RX4 36 RX4 yX4_find wsX4_find) := goodIn_app (goodIn_of _ (by decide +kernel)) ggX4_takeRing_X4_find
set_option maxRecDepth 20000 in
theorem ggX4_takeRing_X4_hasTooth : GoodIn wsX4_takeRing wsX4_hasTooth := goodIn_r _ [14, 1, 15, 16, 17, 18, 19, 20] (by decide +kernel) (by decide +kernel)
set_option maxRecDepth 20000 in
theorem gX4_takeRing_X4_hasTooth : GoodIn wsX4_takeRing (wsV RX4 80 RX4 yX4_hasTooth wsX4_hasTooth) := goodIn_app (goodIn_of _ (by decide +kernel)) ggX4_takeRing_X4_hasTooth
theorem dX4_takeRing_0 : decode cX4_takeRing 0 = .ok (.aload_n 0, 1) := by decide +kernel
theorem dX4_takeRing_1 : decode cX4_takeRing 1 = .ok (.iload_n 1, 1) := by decide +kernel
theorem dX4_takeRing_2 : decode cX4_takeRing 2 = .ok (.putfield 9, 3) := by decide +kernel
theorem dX4_takeRing_5 : decode cX4_takeRing 5 = .ok (.iconst 0, 1) := by decide +kernel
theorem dX4_takeRing_6 : decode cX4_takeRing 6 = .ok (.istore_n 2, 1) := by decide +kernel
theorem dX4_takeRing_7 : decode cX4_takeRing 7 = .ok (.iload_n 2, 1) := by decide +kernel
theorem dX4_takeRing_8 : decode cX4_takeRing 8 = .ok (.aload_n 0, 1) := by decide +kernel
theorem dX4_takeRing_9 : decode cX4_takeRing 9 = .ok (.getfield 33, 3) := by decide +kernel
theorem dX4_takeRing_12 : decode cX4_takeRing 12 = .ok (.if_icmp .ge 35, 3) := by decide +kernel
theorem dX4_takeRing_15 : decode cX4_takeRing 15 = .ok (.aload_n 0, 1) := by decide +kernel
theorem dX4_takeRing_16 : decode cX4_takeRing 16 = .ok (.iload_n 2, 1) := by decide +kernel
theorem dX4_takeRing_17 : decode cX4_takeRing 17 = .ok (.invokevirtual 36, 3) := by decide +kernel
theorem dX4_takeRing_20 : decode cX4_takeRing 20 = .ok (.astore_n 3, 1) := by decide +kernel
theorem dX4_takeRing_21 : decode cX4_takeRing 21 = .ok (.aload_n 3, 1) := by decide +kernel
theorem dX4_takeRing_22 : decode cX4_takeRing 22 = .ok (.ifnull 19, 3) := by decide +kernel
theorem dX4_takeRing_25 : decode cX4_takeRing 25 = .ok (.aload_n 0, 1) := by decide +kernel
theorem dX4_takeRing_26 : decode cX4_takeRing 26 = .ok (.aload_n 3, 1) := by decide +kernel
theorem dX4_takeRing_27 : decode cX4_takeRing 27 = .ok (.getfield 49, 3) := by decide +kernel
theorem dX4_takeRing_30 : decode cX4_takeRing 30 = .ok (.invokevirtual 80, 3) := by decide +kernel
theorem dX4_takeRing_33 : decode cX4_takeRing 33 = .ok (.ifCond .ne 8, 3) := by decide +kernel
theorem dX4_takeRing_36 : decode cX4_takeRing 36 = .ok (.aload_n 3, 1) := by decide +kernel
theorem dX4_takeRing_37 : decode cX4_takeRing 37 = .ok (.iconst 0, 1) := by decide +kernel
theorem dX4_takeRing_38 : decode cX4_takeRing 38 = .ok (.putfield 49, 3) := by decide +kernel
theorem dX4_takeRing_41 : decode cX4_takeRing 41 = .ok (.iinc 2 1, 3) := by decide +kernel
theorem dX4_takeRing_44 : decode cX4_takeRing 44 = .ok (.goto (-37), 3) := by decide +kernel
theorem dX4_takeRing_47 : decode cX4_takeRing 47 = .ok (.iconst 0, 1) := by decide +kernel
theorem dX4_takeRing_48 : decode cX4_takeRing 48 = .ok (.istore_n 2, 1) := by decide +kernel
theorem dX4_takeRing_49 : decode cX4_takeRing 49 = .ok (.iload_n 2, 1) := by decide +kernel
theorem dX4_takeRing_50 : decode cX4_takeRing 50 = .ok (.aload_n 0, 1) := by decide +kernel
theorem dX4_takeRing_51 : decode cX4_takeRing 51 = .ok (.getfield 22, 3) := by decide +kernel
theorem dX4_takeRing_54 : decode cX4_takeRing 54 = .ok (.arraylength, 1) := by decide +kernel
theorem dX4_takeRing_55 : decode cX4_takeRing 55 = .ok (.if_icmp .ge 29, 3) := by decide +kernel
theorem dX4_takeRing_58 : decode cX4_takeRing 58 = .ok (.aload_n 0, 1) := by decide +kernel
theorem dX4_takeRing_59 : decode cX4_takeRing 59 = .ok (.aload_n 0, 1) := by decide +kernel
theorem dX4_takeRing_60 : decode cX4_takeRing 60 = .ok (.getfield 22, 3) := by decide +kernel
theorem dX4_takeRing_63 : decode cX4_takeRing 63 = .ok (.iload_n 2, 1) := by decide +kernel
theorem dX4_takeRing_64 : decode cX4_takeRing 64 = .ok (.iaload, 1) := by decide +kernel
theorem dX4_takeRing_65 : decode cX4_takeRing 65 = .ok (.invokevirtual 80, 3) := by decide +kernel
theorem dX4_takeRing_68 : decode cX4_takeRing 68 = .ok (.ifCond .ne 10, 3) := by decide +kernel
theorem dX4_takeRing_71 : decode cX4_takeRing 71 = .ok (.aload_n 0, 1) := by decide +kernel
theorem dX4_takeRing_72 : decode cX4_takeRing 72 = .ok (.getfield 22, 3) := by decide +kernel
theorem dX4_takeRing_75 : decode cX4_takeRing 75 = .ok (.iload_n 2, 1) := by decide +kernel
theorem dX4_takeRing_76 : decode cX4_takeRing 76 = .ok (.iconst 0, 1) := by decide +kernel
theorem dX4_takeRing_77 : decode cX4_takeRing 77 = .ok (.iastore, 1) := by decide +kernel
theorem dX4_takeRing_78 : decode cX4_takeRing 78 = .ok (.iinc 2 1, 3) := by decide +kernel
theorem dX4_takeRing_81 : decode cX4_takeRing 81 = .ok (.goto (-32), 3) := by decide +kernel
theorem dX4_takeRing_84 : decode cX4_takeRing 84 = .ok (.return_, 1) := by decide +kernel
set_option maxRecDepth 20000 in
theorem ggX4_putLayer_X4_isFull : GoodIn wsX4_putLayer wsX4_isFull := goodIn_r _ [6, 1, 21, 22, 23, 24, 25, 26] (by decide +kernel) (by decide +kernel)
set_option maxRecDepth 20000 in
theorem gX4_putLayer_X4_isFull : GoodIn wsX4_putLayer (wsV RX4 83 RX4 yX4_isFull wsX4_isFull) := goodIn_app (goodIn_of _ (by decide +kernel)) ggX4_putLayer_X4_isFull
set_option maxRecDepth 20000 in
theorem ggX4_putLayer_X4_find : GoodIn wsX4_putLayer wsX4_find := goodIn_r _ [10, 1, 11, 21, 22, 23, 24, 25, 26] (by decide +kernel) (by decide +kernel)
set_option maxRecDepth 20000 in
theorem gX4_putLayer_X4_find : GoodIn wsX4_putLayer (wsV RX4 36 RX4 yX4_find wsX4_find) := goodIn_app (goodIn_of _ (by decide +kernel)) ggX4_putLayer_X4_find
set_option maxRecDepth 20000 in
theorem ggX4_putLayer_X3_set : GoodIn wsX4_putLayer wsX3_set := goodIn_r _ [16, 17, 18, 19, 20, 27, 28, 29, 30] (by decide +kernel) (by decide +kernel)
set_option maxRecDepth 20000 in
theorem gX4_putLayer_X3_set : GoodIn wsX4_putLayer (wsV RX4 87 RX3 yX3_set wsX3_set) := goodIn_app (goodIn_of _ (by decide +kernel)) ggX4_putLayer_X3_set
theorem dX4_putLayer_0 : decode cX4_putLayer 0 = .ok (.aload_n 0, 1) := by decide +kernel
theorem dX4_putLayer_1 : decode cX4_putLayer 1 = .ok (.invokevirtual 83, 3) := by decide +kernel
theorem dX4_putLayer_4 : decode cX4_putLayer 4 = .ok (.ifCond .eq 4, 3) := by decide +kernel
theorem dX4_putLayer_7 : decode cX4_putLayer 7 = .ok (.return_, 1) := by decide +kernel
theorem dX4_putLayer_8 : decode cX4_putLayer 8 = .ok (.aload_n 0, 1) := by decide +kernel
theorem dX4_putLayer_9 : decode cX4_putLayer 9 = .ok (.dup, 1) := by decide +kernel
theorem dX4_putLayer_10 : decode cX4_putLayer 10 = .ok (.getfield 33, 3) := by decide +kernel
theorem dX4_putLayer_13 : decode cX4_putLayer 13 = .ok (.iconst 1, 1) := by decide +kernel
theorem dX4_putLayer_14 : decode cX4_putLayer 14 = .ok (.iadd, 1) := by decide +kernel
theorem dX4_putLayer_15 : decode cX4_putLayer 15 = .ok (.putfield 33, 3) := by decide +kernel
theorem dX4_putLayer_18 : decode cX4_putLayer 18 = .ok (.aload_n 0, 1) := by decide +kernel
theorem dX4_putLayer_19 : decode cX4_putLayer 19 = .ok (.aload_n 0, 1) := by decide +kernel
theorem dX4_putLayer_20 : decode cX4_putLayer 20 = .ok (.getfield 33, 3) := by decide +kernel
theorem dX4_putLayer_23 : decode cX4_putLayer 23 = .ok (.iconst 1, 1) := by decide +kernel
theorem dX4_putLayer_24 : decode cX4_putLayer 24 = .ok (.isub, 1) := by decide +kernel
theorem dX4_putLayer_25 : decode cX4_putLayer 25 = .ok (.invokevirtual 36, 3) := by decide +kernel
theorem dX4_putLayer_28 : decode cX4_putLayer 28 = .ok (.astore 5, 2) := by decide +kernel
theorem dX4_putLayer_30 : decode cX4_putLayer 30 = .ok (.aload 5, 2) := by decide +kernel
theorem dX4_putLayer_32 : decode cX4_putLayer 32 = .ok (.ifnull 13, 3) := by decide +kernel
theorem dX4_putLayer_35 : decode cX4_putLayer 35 = .ok (.aload 5, 2) := by decide +kernel
theorem dX4_putLayer_37 : decode cX4_putLayer 37 = .ok (.iload_n 1, 1) := by decide +kernel
theorem dX4_putLayer_38 : decode cX4_putLayer 38 = .ok (.iload_n 2, 1) := by decide +kernel
theorem dX4_putLayer_39 : decode cX4_putLayer 39 = .ok (.iload_n 3, 1) := by decide +kernel
theorem dX4_putLayer_40 : decode cX4_putLayer 40 = .ok (.iload 4, 2) := by decide +kernel
theorem dX4_putLayer_42 : decode cX4_putLayer 42 = .ok (.invokevirtual 87, 3) := by decide +kernel
theorem dX4_putLayer_45 : decode cX4_putLayer 45 = .ok (.return_, 1) := by decide +kernel
set_option maxRecDepth 20000 in
theorem ggX4_dropLayer_X4_find : GoodIn wsX4_dropLayer wsX4_find := goodIn_r _ [6, 1, 7, 21, 22, 23, 24, 25, 26] (by decide +kernel) (by decide +kernel)
set_option maxRecDepth 20000 in
theorem gX4_dropLayer_X4_find : GoodIn wsX4_dropLayer (wsV RX4 36 RX4 yX4_find wsX4_find) := goodIn_app (goodIn_of _ (by decide +kernel)) ggX4_dropLayer_X4_find
set_option maxRecDepth 20000 in
theorem ggX4_dropLayer_X3_become : GoodIn wsX4_dropLayer wsX3_become := goodIn_r _ [12, 13, 14, 15, 16, 17, 18, 19, 11, 20, 27, 28, 29, 30] (by decide +kernel) (by decide +kernel)
set_option maxRecDepth 20000 in
theorem gX4_dropLayer_X3_become : GoodIn wsX4_dropLayer (wsV RX4 90 RX3 yX3_become wsX3_become) := goodIn_app (goodIn_of _ (by decide +kernel)) ggX4_dropLayer_X3_become
theorem dX4_dropLayer_0 : decode cX4_dropLayer 0 = .ok (.iload_n 1, 1) := by decide +kernel
theorem dX4_dropLayer_1 : decode cX4_dropLayer 1 = .ok (.istore_n 2, 1) := by decide +kernel
theorem dX4_dropLayer_2 : decode cX4_dropLayer 2 = .ok (.iload_n 2, 1) := by decide +kernel
theorem dX4_dropLayer_3 : decode cX4_dropLayer 3 = .ok (.aload_n 0, 1) := by decide +kernel
theorem dX4_dropLayer_4 : decode cX4_dropLayer 4 = .ok (.getfield 33, 3) := by decide +kernel
theorem dX4_dropLayer_7 : decode cX4_dropLayer 7 = .ok (.iconst 1, 1) := by decide +kernel
theorem dX4_dropLayer_8 : decode cX4_dropLayer 8 = .ok (.isub, 1) := by decide +kernel
theorem dX4_dropLayer_9 : decode cX4_dropLayer 9 = .ok (.if_icmp .ge 39, 3) := by decide +kernel
theorem dX4_dropLayer_12 : decode cX4_dropLayer 12 = .ok (.aload_n 0, 1) := by decide +kernel
theorem dX4_dropLayer_13 : decode cX4_dropLayer 13 = .ok (.iload_n 2, 1) := by decide +kernel
theorem dX4_dropLayer_14 : decode cX4_dropLayer 14 = .ok (.invokevirtual 36, 3) := by decide +kernel
theorem dX4_dropLayer_17 : decode cX4_dropLayer 17 = .ok (.astore_n 3, 1) := by decide +kernel
theorem dX4_dropLayer_18 : decode cX4_dropLayer 18 = .ok (.aload_n 0, 1) := by decide +kernel
theorem dX4_dropLayer_19 : decode cX4_dropLayer 19 = .ok (.iload_n 2, 1) := by decide +kernel
theorem dX4_dropLayer_20 : decode cX4_dropLayer 20 = .ok (.iconst 1, 1) := by decide +kernel
theorem dX4_dropLayer_21 : decode cX4_dropLayer 21 = .ok (.iadd, 1) := by decide +kernel
theorem dX4_dropLayer_22 : decode cX4_dropLayer 22 = .ok (.invokevirtual 36, 3) := by decide +kernel
theorem dX4_dropLayer_25 : decode cX4_dropLayer 25 = .ok (.astore 4, 2) := by decide +kernel
theorem dX4_dropLayer_27 : decode cX4_dropLayer 27 = .ok (.aload_n 3, 1) := by decide +kernel
theorem dX4_dropLayer_28 : decode cX4_dropLayer 28 = .ok (.ifnull 14, 3) := by decide +kernel
theorem dX4_dropLayer_31 : decode cX4_dropLayer 31 = .ok (.aload 4, 2) := by decide +kernel
theorem dX4_dropLayer_33 : decode cX4_dropLayer 33 = .ok (.ifnull 9, 3) := by decide +kernel
theorem dX4_dropLayer_36 : decode cX4_dropLayer 36 = .ok (.aload_n 3, 1) := by decide +kernel
theorem dX4_dropLayer_37 : decode cX4_dropLayer 37 = .ok (.aload 4, 2) := by decide +kernel
theorem dX4_dropLayer_39 : decode cX4_dropLayer 39 = .ok (.invokevirtual 90, 3) := by decide +kernel
theorem dX4_dropLayer_42 : decode cX4_dropLayer 42 = .ok (.iinc 2 1, 3) := by decide +kernel
theorem dX4_dropLayer_45 : decode cX4_dropLayer 45 = .ok (.goto (-43), 3) := by decide +kernel
theorem dX4_dropLayer_48 : decode cX4_dropLayer 48 = .ok (.aload_n 0, 1) := by decide +kernel
theorem dX4_dropLayer_49 : decode cX4_dropLayer 49 = .ok (.dup, 1) := by decide +kernel
theorem dX4_dropLayer_50 : decode cX4_dropLayer 50 = .ok (.getfield 33, 3) := by decide +kernel
theorem dX4_dropLayer_53 : decode cX4_dropLayer 53 = .ok (.iconst 1, 1) := by decide +kernel
theorem dX4_dropLayer_54 : decode cX4_dropLayer 54 = .ok (.isub, 1) := by decide +kernel
theorem dX4_dropLayer_55 : decode cX4_dropLayer 55 = .ok (.putfield 33, 3) := by decide +kernel
theorem dX4_dropLayer_58 : decode cX4_dropLayer 58 = .ok (.return_, 1) := by decide +kernel
theorem dX4_sightedAngle_0 : decode cX4_sightedAngle 0 = .ok (.iload_n 1, 1) := by decide +kernel
theorem dX4_sightedAngle_1 : decode cX4_sightedAngle 1 = .ok (.ifCond .lt 21, 3) := by decide +kernel
theorem dX4_sightedAngle_4 : decode cX4_sightedAngle 4 = .ok (.iload_n 1, 1) := by decide +kernel
theorem dX4_sightedAngle_5 : decode cX4_sightedAngle 5 = .ok (.aload_n 0, 1) := by decide +kernel
theorem dX4_sightedAngle_6 : decode cX4_sightedAngle 6 = .ok (.getfield 22, 3) := by decide +kernel
theorem dX4_sightedAngle_9 : decode cX4_sightedAngle 9 = .ok (.arraylength, 1) := by decide +kernel
theorem dX4_sightedAngle_10 : decode cX4_sightedAngle 10 = .ok (.if_icmp .ge 12, 3) := by decide +kernel
theorem dX4_sightedAngle_13 : decode cX4_sightedAngle 13 = .ok (.aload_n 0, 1) := by decide +kernel
theorem dX4_sightedAngle_14 : decode cX4_sightedAngle 14 = .ok (.getfield 22, 3) := by decide +kernel
theorem dX4_sightedAngle_17 : decode cX4_sightedAngle 17 = .ok (.iload_n 1, 1) := by decide +kernel
theorem dX4_sightedAngle_18 : decode cX4_sightedAngle 18 = .ok (.iaload, 1) := by decide +kernel
theorem dX4_sightedAngle_19 : decode cX4_sightedAngle 19 = .ok (.goto 5, 3) := by decide +kernel
theorem dX4_sightedAngle_22 : decode cX4_sightedAngle 22 = .ok (.bipush (-9), 2) := by decide +kernel
theorem dX4_sightedAngle_24 : decode cX4_sightedAngle 24 = .ok (.ireturn, 1) := by decide +kernel
theorem dX4_sightedRadius_0 : decode cX4_sightedRadius 0 = .ok (.iload_n 1, 1) := by decide +kernel
theorem dX4_sightedRadius_1 : decode cX4_sightedRadius 1 = .ok (.ifCond .lt 21, 3) := by decide +kernel
theorem dX4_sightedRadius_4 : decode cX4_sightedRadius 4 = .ok (.iload_n 1, 1) := by decide +kernel
theorem dX4_sightedRadius_5 : decode cX4_sightedRadius 5 = .ok (.aload_n 0, 1) := by decide +kernel
theorem dX4_sightedRadius_6 : decode cX4_sightedRadius 6 = .ok (.getfield 26, 3) := by decide +kernel
theorem dX4_sightedRadius_9 : decode cX4_sightedRadius 9 = .ok (.arraylength, 1) := by decide +kernel
theorem dX4_sightedRadius_10 : decode cX4_sightedRadius 10 = .ok (.if_icmp .ge 12, 3) := by decide +kernel
theorem dX4_sightedRadius_13 : decode cX4_sightedRadius 13 = .ok (.aload_n 0, 1) := by decide +kernel
theorem dX4_sightedRadius_14 : decode cX4_sightedRadius 14 = .ok (.getfield 26, 3) := by decide +kernel
theorem dX4_sightedRadius_17 : decode cX4_sightedRadius 17 = .ok (.iload_n 1, 1) := by decide +kernel
theorem dX4_sightedRadius_18 : decode cX4_sightedRadius 18 = .ok (.iaload, 1) := by decide +kernel
theorem dX4_sightedRadius_19 : decode cX4_sightedRadius 19 = .ok (.goto 5, 3) := by decide +kernel
theorem dX4_sightedRadius_22 : decode cX4_sightedRadius 22 = .ok (.bipush (-9), 2) := by decide +kernel
theorem dX4_sightedRadius_24 : decode cX4_sightedRadius 24 = .ok (.ireturn, 1) := by decide +kernel
set_option maxRecDepth 20000 in
theorem ggX4_note_X4_dropOldest : GoodIn wsX4_note wsX4_dropOldest := goodIn_r _ [8, 2, 3, 1, 9, 10, 11, 12, 13, 14] (by decide +kernel) (by decide +kernel)
set_option maxRecDepth 20000 in
theorem gX4_note_X4_dropOldest : GoodIn wsX4_note (wsV RX4 94 RX4 yX4_dropOldest wsX4_dropOldest) := goodIn_app (goodIn_of _ (by decide +kernel)) ggX4_note_X4_dropOldest
theorem dX4_note_0 : decode cX4_note 0 = .ok (.aload_n 0, 1) := by decide +kernel
theorem dX4_note_1 : decode cX4_note 1 = .ok (.getfield 56, 3) := by decide +kernel
theorem dX4_note_4 : decode cX4_note 4 = .ok (.bipush 8, 2) := by decide +kernel
theorem dX4_note_6 : decode cX4_note 6 = .ok (.if_icmp .lt 7, 3) := by decide +kernel
theorem dX4_note_9 : decode cX4_note 9 = .ok (.aload_n 0, 1) := by decide +kernel
theorem dX4_note_10 : decode cX4_note 10 = .ok (.invokevirtual 94, 3) := by decide +kernel
theorem dX4_note_13 : decode cX4_note 13 = .ok (.aload_n 0, 1) := by decide +kernel
theorem dX4_note_14 : decode cX4_note 14 = .ok (.getfield 56, 3) := by decide +kernel
theorem dX4_note_17 : decode cX4_note 17 = .ok (.ifCond .lt 57, 3) := by decide +kernel
theorem dX4_note_20 : decode cX4_note 20 = .ok (.aload_n 0, 1) := by decide +kernel
theorem dX4_note_21 : decode cX4_note 21 = .ok (.getfield 56, 3) := by decide +kernel
theorem dX4_note_24 : decode cX4_note 24 = .ok (.aload_n 0, 1) := by decide +kernel
theorem dX4_note_25 : decode cX4_note 25 = .ok (.getfield 22, 3) := by decide +kernel
theorem dX4_note_28 : decode cX4_note 28 = .ok (.arraylength, 1) := by decide +kernel
theorem dX4_note_29 : decode cX4_note 29 = .ok (.if_icmp .ge 45, 3) := by decide +kernel
theorem dX4_note_32 : decode cX4_note 32 = .ok (.aload_n 0, 1) := by decide +kernel
theorem dX4_note_33 : decode cX4_note 33 = .ok (.getfield 56, 3) := by decide +kernel
theorem dX4_note_36 : decode cX4_note 36 = .ok (.aload_n 0, 1) := by decide +kernel
theorem dX4_note_37 : decode cX4_note 37 = .ok (.getfield 26, 3) := by decide +kernel
theorem dX4_note_40 : decode cX4_note 40 = .ok (.arraylength, 1) := by decide +kernel
theorem dX4_note_41 : decode cX4_note 41 = .ok (.if_icmp .ge 33, 3) := by decide +kernel
theorem dX4_note_44 : decode cX4_note 44 = .ok (.aload_n 0, 1) := by decide +kernel
theorem dX4_note_45 : decode cX4_note 45 = .ok (.getfield 22, 3) := by decide +kernel
theorem dX4_note_48 : decode cX4_note 48 = .ok (.aload_n 0, 1) := by decide +kernel
theorem dX4_note_49 : decode cX4_note 49 = .ok (.getfield 56, 3) := by decide +kernel
theorem dX4_note_52 : decode cX4_note 52 = .ok (.iload_n 1, 1) := by decide +kernel
theorem dX4_note_53 : decode cX4_note 53 = .ok (.iastore, 1) := by decide +kernel
theorem dX4_note_54 : decode cX4_note 54 = .ok (.aload_n 0, 1) := by decide +kernel
theorem dX4_note_55 : decode cX4_note 55 = .ok (.getfield 26, 3) := by decide +kernel
theorem dX4_note_58 : decode cX4_note 58 = .ok (.aload_n 0, 1) := by decide +kernel
theorem dX4_note_59 : decode cX4_note 59 = .ok (.getfield 56, 3) := by decide +kernel
theorem dX4_note_62 : decode cX4_note 62 = .ok (.iload_n 2, 1) := by decide +kernel
theorem dX4_note_63 : decode cX4_note 63 = .ok (.iastore, 1) := by decide +kernel
theorem dX4_note_64 : decode cX4_note 64 = .ok (.aload_n 0, 1) := by decide +kernel
theorem dX4_note_65 : decode cX4_note 65 = .ok (.dup, 1) := by decide +kernel
theorem dX4_note_66 : decode cX4_note 66 = .ok (.getfield 56, 3) := by decide +kernel
theorem dX4_note_69 : decode cX4_note 69 = .ok (.iconst 1, 1) := by decide +kernel
theorem dX4_note_70 : decode cX4_note 70 = .ok (.iadd, 1) := by decide +kernel
theorem dX4_note_71 : decode cX4_note 71 = .ok (.putfield 56, 3) := by decide +kernel
theorem dX4_note_74 : decode cX4_note 74 = .ok (.return_, 1) := by decide +kernel
theorem dX4_dropOldest_0 : decode cX4_dropOldest 0 = .ok (.iconst 1, 1) := by decide +kernel
theorem dX4_dropOldest_1 : decode cX4_dropOldest 1 = .ok (.istore_n 1, 1) := by decide +kernel
theorem dX4_dropOldest_2 : decode cX4_dropOldest 2 = .ok (.iload_n 1, 1) := by decide +kernel
theorem dX4_dropOldest_3 : decode cX4_dropOldest 3 = .ok (.aload_n 0, 1) := by decide +kernel
theorem dX4_dropOldest_4 : decode cX4_dropOldest 4 = .ok (.getfield 22, 3) := by decide +kernel
theorem dX4_dropOldest_7 : decode cX4_dropOldest 7 = .ok (.arraylength, 1) := by decide +kernel
theorem dX4_dropOldest_8 : decode cX4_dropOldest 8 = .ok (.if_icmp .ge 46, 3) := by decide +kernel
theorem dX4_dropOldest_11 : decode cX4_dropOldest 11 = .ok (.iload_n 1, 1) := by decide +kernel
theorem dX4_dropOldest_12 : decode cX4_dropOldest 12 = .ok (.aload_n 0, 1) := by decide +kernel
theorem dX4_dropOldest_13 : decode cX4_dropOldest 13 = .ok (.getfield 26, 3) := by decide +kernel
theorem dX4_dropOldest_16 : decode cX4_dropOldest 16 = .ok (.arraylength, 1) := by decide +kernel
theorem dX4_dropOldest_17 : decode cX4_dropOldest 17 = .ok (.if_icmp .ge 37, 3) := by decide +kernel
theorem dX4_dropOldest_20 : decode cX4_dropOldest 20 = .ok (.aload_n 0, 1) := by decide +kernel
theorem dX4_dropOldest_21 : decode cX4_dropOldest 21 = .ok (.getfield 22, 3) := by decide +kernel
theorem dX4_dropOldest_24 : decode cX4_dropOldest 24 = .ok (.iload_n 1, 1) := by decide +kernel
theorem dX4_dropOldest_25 : decode cX4_dropOldest 25 = .ok (.iconst 1, 1) := by decide +kernel
theorem dX4_dropOldest_26 : decode cX4_dropOldest 26 = .ok (.isub, 1) := by decide +kernel
theorem dX4_dropOldest_27 : decode cX4_dropOldest 27 = .ok (.aload_n 0, 1) := by decide +kernel
theorem dX4_dropOldest_28 : decode cX4_dropOldest 28 = .ok (.getfield 22, 3) := by decide +kernel
theorem dX4_dropOldest_31 : decode cX4_dropOldest 31 = .ok (.iload_n 1, 1) := by decide +kernel
theorem dX4_dropOldest_32 : decode cX4_dropOldest 32 = .ok (.iaload, 1) := by decide +kernel
theorem dX4_dropOldest_33 : decode cX4_dropOldest 33 = .ok (.iastore, 1) := by decide +kernel
theorem dX4_dropOldest_34 : decode cX4_dropOldest 34 = .ok (.aload_n 0, 1) := by decide +kernel
theorem dX4_dropOldest_35 : decode cX4_dropOldest 35 = .ok (.getfield 26, 3) := by decide +kernel
theorem dX4_dropOldest_38 : decode cX4_dropOldest 38 = .ok (.iload_n 1, 1) := by decide +kernel
theorem dX4_dropOldest_39 : decode cX4_dropOldest 39 = .ok (.iconst 1, 1) := by decide +kernel
theorem dX4_dropOldest_40 : decode cX4_dropOldest 40 = .ok (.isub, 1) := by decide +kernel
theorem dX4_dropOldest_41 : decode cX4_dropOldest 41 = .ok (.aload_n 0, 1) := by decide +kernel
theorem dX4_dropOldest_42 : decode cX4_dropOldest 42 = .ok (.getfield 26, 3) := by decide +kernel
theorem dX4_dropOldest_45 : decode cX4_dropOldest 45 = .ok (.iload_n 1, 1) := by decide +kernel
theorem dX4_dropOldest_46 : decode cX4_dropOldest 46 = .ok (.iaload, 1) := by decide +kernel
theorem dX4_dropOldest_47 : decode cX4_dropOldest 47 = .ok (.iastore, 1) := by decide +kernel
theorem dX4_dropOldest_48 : decode cX4_dropOldest 48 = .ok (.iinc 1 1, 3) := by decide +kernel
theorem dX4_dropOldest_51 : decode cX4_dropOldest 51 = .ok (.goto (-49), 3) := by decide +kernel
theorem dX4_dropOldest_54 : decode cX4_dropOldest 54 = .ok (.aload_n 0, 1) := by decide +kernel
theorem dX4_dropOldest_55 : decode cX4_dropOldest 55 = .ok (.dup, 1) := by decide +kernel
theorem dX4_dropOldest_56 : decode cX4_dropOldest 56 = .ok (.getfield 56, 3) := by decide +kernel
theorem dX4_dropOldest_59 : decode cX4_dropOldest 59 = .ok (.iconst 1, 1) := by decide +kernel
theorem dX4_dropOldest_60 : decode cX4_dropOldest 60 = .ok (.isub, 1) := by decide +kernel
theorem dX4_dropOldest_61 : decode cX4_dropOldest 61 = .ok (.putfield 56, 3) := by decide +kernel
theorem dX4_dropOldest_64 : decode cX4_dropOldest 64 = .ok (.return_, 1) := by decide +kernel
set_option maxRecDepth 20000 in
theorem ggX4_fits_X4_sightedAngle : GoodIn wsX4_fits wsX4_sightedAngle := goodIn_r _ [7, 8, 42, 43, 44, 45, 46, 47] (by decide +kernel) (by decide +kernel)
set_option maxRecDepth 20000 in
theorem gX4_fits_X4_sightedAngle : GoodIn wsX4_fits (wsV RX4 59 RX4 yX4_sightedAngle wsX4_sightedAngle) := goodIn_app (goodIn_of _ (by decide +kernel)) ggX4_fits_X4_sightedAngle
set_option maxRecDepth 20000 in
theorem ggX4_fits_X4_sightedRadius : GoodIn wsX4_fits wsX4_sightedRadius := goodIn_r _ [12, 13, 42, 43, 44, 45, 46, 47] (by decide +kernel) (by decide +kernel)
set_option maxRecDepth 20000 in
theorem gX4_fits_X4_sightedRadius : GoodIn wsX4_fits (wsV RX4 63 RX4 yX4_sightedRadius wsX4_sightedRadius) := goodIn_app (goodIn_of _ (by decide +kernel)) ggX4_fits_X4_sightedRadius
set_option maxRecDepth 20000 in
theorem ggX4_fits_X3_firstStepAt : GoodIn wsX4_fits wsX3_firstStepAt := goodIn_r _ [18, 19, 20, 21, 22, 23, 24, 25, 17, 26, 27, 28, 29, 30, 31, 32, 33, 34, 35, 36, 37, 38, 39, 40, 41, 48, 49, 50, 51] (by decide +kernel) (by decide +kernel)
set_option maxRecDepth 20000 in
theorem gX4_fits_X3_firstStepAt : GoodIn wsX4_fits (wsV RX4 97 RX3 yX3_firstStepAt wsX3_firstStepAt) := goodIn_app (goodIn_of _ (by decide +kernel)) ggX4_fits_X3_firstStepAt
theorem dX4_fits_0 : decode cX4_fits 0 = .ok (.iconst 0, 1) := by decide +kernel
theorem dX4_fits_1 : decode cX4_fits 1 = .ok (.istore_n 2, 1) := by decide +kernel
theorem dX4_fits_2 : decode cX4_fits 2 = .ok (.iload_n 2, 1) := by decide +kernel
theorem dX4_fits_3 : decode cX4_fits 3 = .ok (.aload_n 0, 1) := by decide +kernel
theorem dX4_fits_4 : decode cX4_fits 4 = .ok (.getfield 56, 3) := by decide +kernel
theorem dX4_fits_7 : decode cX4_fits 7 = .ok (.if_icmp .ge 34, 3) := by decide +kernel
theorem dX4_fits_10 : decode cX4_fits 10 = .ok (.aload_n 1, 1) := by decide +kernel
theorem dX4_fits_11 : decode cX4_fits 11 = .ok (.aload_n 0, 1) := by decide +kernel
theorem dX4_fits_12 : decode cX4_fits 12 = .ok (.getfield 9, 3) := by decide +kernel
theorem dX4_fits_15 : decode cX4_fits 15 = .ok (.aload_n 0, 1) := by decide +kernel
theorem dX4_fits_16 : decode cX4_fits 16 = .ok (.iload_n 2, 1) := by decide +kernel
theorem dX4_fits_17 : decode cX4_fits 17 = .ok (.invokevirtual 59, 3) := by decide +kernel
theorem dX4_fits_20 : decode cX4_fits 20 = .ok (.aload_n 0, 1) := by decide +kernel
theorem dX4_fits_21 : decode cX4_fits 21 = .ok (.iload_n 2, 1) := by decide +kernel
theorem dX4_fits_22 : decode cX4_fits 22 = .ok (.invokevirtual 63, 3) := by decide +kernel
theorem dX4_fits_25 : decode cX4_fits 25 = .ok (.invokevirtual 97, 3) := by decide +kernel
theorem dX4_fits_28 : decode cX4_fits 28 = .ok (.bipush (-9), 2) := by decide +kernel
theorem dX4_fits_30 : decode cX4_fits 30 = .ok (.if_icmp .ne 5, 3) := by decide +kernel
theorem dX4_fits_33 : decode cX4_fits 33 = .ok (.iconst 0, 1) := by decide +kernel
theorem dX4_fits_34 : decode cX4_fits 34 = .ok (.ireturn, 1) := by decide +kernel
theorem dX4_fits_35 : decode cX4_fits 35 = .ok (.iinc 2 1, 3) := by decide +kernel
theorem dX4_fits_38 : decode cX4_fits 38 = .ok (.goto (-36), 3) := by decide +kernel
theorem dX4_fits_41 : decode cX4_fits 41 = .ok (.iconst 1, 1) := by decide +kernel
theorem dX4_fits_42 : decode cX4_fits 42 = .ok (.ireturn, 1) := by decide +kernel
set_option maxRecDepth 20000 in
theorem ggX4_fitting_X4_find : GoodIn wsX4_fitting wsX4_find := goodIn_r _ [6, 1, 7, 52, 53, 54, 55, 56, 57] (by decide +kernel) (by decide +kernel)
set_option maxRecDepth 20000 in
theorem gX4_fitting_X4_find : GoodIn wsX4_fitting (wsV RX4 36 RX4 yX4_find wsX4_find) := goodIn_app (goodIn_of _ (by decide +kernel)) ggX4_fitting_X4_find
set_option maxRecDepth 20000 in
theorem ggX4_fitting_X4_fits : GoodIn wsX4_fitting wsX4_fits := goodIn_r _ [11, 12, 13, 14, 15, 16, 5, 17, 18, 19, 20, 21, 22, 23, 24, 25, 26, 27, 28, 29, 30, 31, 32, 33, 34, 35, 36, 37, 38, 39, 40, 41, 42, 43, 44, 45, 46, 47, 48, 49, 50, 51, 52, 53, 54, 55, 56, 57, 58, 59, 60, 61] (by decide +kernel) (by decide +kernel)
set_option maxRecDepth 20000 in
theorem gX4_fitting_X4_fits : GoodIn wsX4_fitting (wsV RX4 101 RX4 yX4_fits wsX4_fits) := goodIn_app (goodIn_of _ (by decide +kernel)) ggX4_fitting_X4_fits
theorem dX4_fitting_0 : decode cX4_fitting 0 = .ok (.iconst 0, 1) := by decide +kernel
theorem dX4_fitting_1 : decode cX4_fitting 1 = .ok (.istore_n 1, 1) := by decide +kernel
theorem dX4_fitting_2 : decode cX4_fitting 2 = .ok (.iconst 0, 1) := by decide +kernel
theorem dX4_fitting_3 : decode cX4_fitting 3 = .ok (.istore_n 2, 1) := by decide +kernel
theorem dX4_fitting_4 : decode cX4_fitting 4 = .ok (.iload_n 2, 1) := by decide +kernel
theorem dX4_fitting_5 : decode cX4_fitting 5 = .ok (.aload_n 0, 1) := by decide +kernel
theorem dX4_fitting_6 : decode cX4_fitting 6 = .ok (.getfield 33, 3) := by decide +kernel
theorem dX4_fitting_9 : decode cX4_fitting 9 = .ok (.if_icmp .ge 30, 3) := by decide +kernel
theorem dX4_fitting_12 : decode cX4_fitting 12 = .ok (.aload_n 0, 1) := by decide +kernel
theorem dX4_fitting_13 : decode cX4_fitting 13 = .ok (.iload_n 2, 1) := by decide +kernel
theorem dX4_fitting_14 : decode cX4_fitting 14 = .ok (.invokevirtual 36, 3) := by decide +kernel
theorem dX4_fitting_17 : decode cX4_fitting 17 = .ok (.astore_n 3, 1) := by decide +kernel
theorem dX4_fitting_18 : decode cX4_fitting 18 = .ok (.aload_n 3, 1) := by decide +kernel
theorem dX4_fitting_19 : decode cX4_fitting 19 = .ok (.ifnull 14, 3) := by decide +kernel
theorem dX4_fitting_22 : decode cX4_fitting 22 = .ok (.aload_n 0, 1) := by decide +kernel
theorem dX4_fitting_23 : decode cX4_fitting 23 = .ok (.aload_n 3, 1) := by decide +kernel
theorem dX4_fitting_24 : decode cX4_fitting 24 = .ok (.invokevirtual 101, 3) := by decide +kernel
theorem dX4_fitting_27 : decode cX4_fitting 27 = .ok (.ifCond .eq 6, 3) := by decide +kernel
theorem dX4_fitting_30 : decode cX4_fitting 30 = .ok (.iinc 1 1, 3) := by decide +kernel
theorem dX4_fitting_33 : decode cX4_fitting 33 = .ok (.iinc 2 1, 3) := by decide +kernel
theorem dX4_fitting_36 : decode cX4_fitting 36 = .ok (.goto (-32), 3) := by decide +kernel
theorem dX4_fitting_39 : decode cX4_fitting 39 = .ok (.iload_n 1, 1) := by decide +kernel
theorem dX4_fitting_40 : decode cX4_fitting 40 = .ok (.ireturn, 1) := by decide +kernel
set_option maxRecDepth 20000 in
theorem ggX4_layersThrough_X4_find : GoodIn wsX4_layersThrough wsX4_find := goodIn_r _ [7, 1, 8, 37, 38, 39, 40, 41, 42] (by decide +kernel) (by decide +kernel)
set_option maxRecDepth 20000 in
theorem gX4_layersThrough_X4_find : GoodIn wsX4_layersThrough (wsV RX4 36 RX4 yX4_find wsX4_find) := goodIn_app (goodIn_of _ (by decide +kernel)) ggX4_layersThrough_X4_find
set_option maxRecDepth 20000 in
theorem ggX4_layersThrough_X3_firstStepAt : GoodIn wsX4_layersThrough wsX3_firstStepAt := goodIn_r _ [13, 14, 15, 16, 17, 18, 19, 20, 12, 21, 22, 23, 24, 25, 26, 27, 28, 29, 30, 31, 32, 33, 34, 35, 36, 43, 44, 45, 46] (by decide +kernel) (by decide +kernel)
set_option maxRecDepth 20000 in
theorem gX4_layersThrough_X3_firstStepAt : GoodIn wsX4_layersThrough (wsV RX4 97 RX3 yX3_firstStepAt wsX3_firstStepAt) := goodIn_app (goodIn_of _ (by decide +kernel)) ggX4_layersThrough_X3_firstStepAt
theorem dX4_layersThrough_0 : decode cX4_layersThrough 0 = .ok (.iconst 0, 1) := by decide +kernel
theorem dX4_layersThrough_1 : decode cX4_layersThrough 1 = .ok (.istore_n 3, 1) := by decide +kernel
theorem dX4_layersThrough_2 : decode cX4_layersThrough 2 = .ok (.iconst 0, 1) := by decide +kernel
theorem dX4_layersThrough_3 : decode cX4_layersThrough 3 = .ok (.istore 4, 2) := by decide +kernel
theorem dX4_layersThrough_5 : decode cX4_layersThrough 5 = .ok (.iload 4, 2) := by decide +kernel
theorem dX4_layersThrough_7 : decode cX4_layersThrough 7 = .ok (.aload_n 0, 1) := by decide +kernel
theorem dX4_layersThrough_8 : decode cX4_layersThrough 8 = .ok (.getfield 33, 3) := by decide +kernel
theorem dX4_layersThrough_11 : decode cX4_layersThrough 11 = .ok (.if_icmp .ge 41, 3) := by decide +kernel
theorem dX4_layersThrough_14 : decode cX4_layersThrough 14 = .ok (.aload_n 0, 1) := by decide +kernel
theorem dX4_layersThrough_15 : decode cX4_layersThrough 15 = .ok (.iload 4, 2) := by decide +kernel
theorem dX4_layersThrough_17 : decode cX4_layersThrough 17 = .ok (.invokevirtual 36, 3) := by decide +kernel
theorem dX4_layersThrough_20 : decode cX4_layersThrough 20 = .ok (.astore 5, 2) := by decide +kernel
theorem dX4_layersThrough_22 : decode cX4_layersThrough 22 = .ok (.aload 5, 2) := by decide +kernel
theorem dX4_layersThrough_24 : decode cX4_layersThrough 24 = .ok (.ifnull 22, 3) := by decide +kernel
theorem dX4_layersThrough_27 : decode cX4_layersThrough 27 = .ok (.aload 5, 2) := by decide +kernel
theorem dX4_layersThrough_29 : decode cX4_layersThrough 29 = .ok (.aload_n 0, 1) := by decide +kernel
theorem dX4_layersThrough_30 : decode cX4_layersThrough 30 = .ok (.getfield 9, 3) := by decide +kernel
theorem dX4_layersThrough_33 : decode cX4_layersThrough 33 = .ok (.iload_n 1, 1) := by decide +kernel
theorem dX4_layersThrough_34 : decode cX4_layersThrough 34 = .ok (.iload_n 2, 1) := by decide +kernel
theorem dX4_layersThrough_35 : decode cX4_layersThrough 35 = .ok (.invokevirtual 97, 3) := by decide +kernel
theorem dX4_layersThrough_38 : decode cX4_layersThrough 38 = .ok (.bipush (-9), 2) := by decide +kernel
theorem dX4_layersThrough_40 : decode cX4_layersThrough 40 = .ok (.if_icmp .eq 6, 3) := by decide +kernel
theorem dX4_layersThrough_43 : decode cX4_layersThrough 43 = .ok (.iinc 3 1, 3) := by decide +kernel
theorem dX4_layersThrough_46 : decode cX4_layersThrough 46 = .ok (.iinc 4 1, 3) := by decide +kernel
theorem dX4_layersThrough_49 : decode cX4_layersThrough 49 = .ok (.goto (-44), 3) := by decide +kernel
theorem dX4_layersThrough_52 : decode cX4_layersThrough 52 = .ok (.iload_n 3, 1) := by decide +kernel
theorem dX4_layersThrough_53 : decode cX4_layersThrough 53 = .ok (.ireturn, 1) := by decide +kernel
set_option maxRecDepth 20000 in
theorem ggX4_leastRadius_X4_find : GoodIn wsX4_leastRadius wsX4_find := goodIn_r _ [6, 1, 7, 32, 33, 34, 35, 36, 37] (by decide +kernel) (by decide +kernel)
set_option maxRecDepth 20000 in
theorem gX4_leastRadius_X4_find : GoodIn wsX4_leastRadius (wsV RX4 36 RX4 yX4_find wsX4_find) := goodIn_app (goodIn_of _ (by decide +kernel)) ggX4_leastRadius_X4_find
set_option maxRecDepth 20000 in
theorem ggX4_leastRadius_X3_leastRadius : GoodIn wsX4_leastRadius wsX3_leastRadius := goodIn_r _ [12, 13, 14, 15, 16, 17, 18, 19, 20, 11, 21, 22, 23, 24, 25, 26, 27, 28, 29, 30, 31, 38, 39, 40, 41] (by decide +kernel) (by decide +kernel)
set_option maxRecDepth 20000 in
theorem gX4_leastRadius_X3_leastRadius : GoodIn wsX4_leastRadius (wsV RX4 105 RX3 yX3_leastRadius wsX3_leastRadius) := goodIn_app (goodIn_of _ (by decide +kernel)) ggX4_leastRadius_X3_leastRadius
theorem dX4_leastRadius_0 : decode cX4_leastRadius 0 = .ok (.bipush (-9), 2) := by decide +kernel
theorem dX4_leastRadius_2 : decode cX4_leastRadius 2 = .ok (.istore_n 1, 1) := by decide +kernel
theorem dX4_leastRadius_3 : decode cX4_leastRadius 3 = .ok (.iconst 0, 1) := by decide +kernel
theorem dX4_leastRadius_4 : decode cX4_leastRadius 4 = .ok (.istore_n 2, 1) := by decide +kernel
theorem dX4_leastRadius_5 : decode cX4_leastRadius 5 = .ok (.iload_n 2, 1) := by decide +kernel
theorem dX4_leastRadius_6 : decode cX4_leastRadius 6 = .ok (.aload_n 0, 1) := by decide +kernel
theorem dX4_leastRadius_7 : decode cX4_leastRadius 7 = .ok (.getfield 33, 3) := by decide +kernel
theorem dX4_leastRadius_10 : decode cX4_leastRadius 10 = .ok (.if_icmp .ge 38, 3) := by decide +kernel
theorem dX4_leastRadius_13 : decode cX4_leastRadius 13 = .ok (.aload_n 0, 1) := by decide +kernel
theorem dX4_leastRadius_14 : decode cX4_leastRadius 14 = .ok (.iload_n 2, 1) := by decide +kernel
theorem dX4_leastRadius_15 : decode cX4_leastRadius 15 = .ok (.invokevirtual 36, 3) := by decide +kernel
theorem dX4_leastRadius_18 : decode cX4_leastRadius 18 = .ok (.astore_n 3, 1) := by decide +kernel
theorem dX4_leastRadius_19 : decode cX4_leastRadius 19 = .ok (.aload_n 3, 1) := by decide +kernel
theorem dX4_leastRadius_20 : decode cX4_leastRadius 20 = .ok (.ifnull 22, 3) := by decide +kernel
theorem dX4_leastRadius_23 : decode cX4_leastRadius 23 = .ok (.iload_n 1, 1) := by decide +kernel
theorem dX4_leastRadius_24 : decode cX4_leastRadius 24 = .ok (.bipush (-9), 2) := by decide +kernel
theorem dX4_leastRadius_26 : decode cX4_leastRadius 26 = .ok (.if_icmp .eq 11, 3) := by decide +kernel
theorem dX4_leastRadius_29 : decode cX4_leastRadius 29 = .ok (.aload_n 3, 1) := by decide +kernel
theorem dX4_leastRadius_30 : decode cX4_leastRadius 30 = .ok (.invokevirtual 105, 3) := by decide +kernel
theorem dX4_leastRadius_33 : decode cX4_leastRadius 33 = .ok (.iload_n 1, 1) := by decide +kernel
theorem dX4_leastRadius_34 : decode cX4_leastRadius 34 = .ok (.if_icmp .ge 8, 3) := by decide +kernel
theorem dX4_leastRadius_37 : decode cX4_leastRadius 37 = .ok (.aload_n 3, 1) := by decide +kernel
theorem dX4_leastRadius_38 : decode cX4_leastRadius 38 = .ok (.invokevirtual 105, 3) := by decide +kernel
theorem dX4_leastRadius_41 : decode cX4_leastRadius 41 = .ok (.istore_n 1, 1) := by decide +kernel
theorem dX4_leastRadius_42 : decode cX4_leastRadius 42 = .ok (.iinc 2 1, 3) := by decide +kernel
theorem dX4_leastRadius_45 : decode cX4_leastRadius 45 = .ok (.goto (-40), 3) := by decide +kernel
theorem dX4_leastRadius_48 : decode cX4_leastRadius 48 = .ok (.iload_n 1, 1) := by decide +kernel
theorem dX4_leastRadius_49 : decode cX4_leastRadius 49 = .ok (.ireturn, 1) := by decide +kernel
set_option maxRecDepth 20000 in
theorem ggX4_greatestRadius_X4_find : GoodIn wsX4_greatestRadius wsX4_find := goodIn_r _ [6, 1, 7, 32, 33, 34, 35, 36, 37] (by decide +kernel) (by decide +kernel)
set_option maxRecDepth 20000 in
theorem gX4_greatestRadius_X4_find : GoodIn wsX4_greatestRadius (wsV RX4 36 RX4 yX4_find wsX4_find) := goodIn_app (goodIn_of _ (by decide +kernel)) ggX4_greatestRadius_X4_find
set_option maxRecDepth 20000 in
theorem ggX4_greatestRadius_X3_greatestRadius : GoodIn wsX4_greatestRadius wsX3_greatestRadius := goodIn_r _ [12, 13, 14, 15, 16, 17, 18, 19, 20, 11, 21, 22, 23, 24, 25, 26, 27, 28, 29, 30, 31, 38, 39, 40, 41] (by decide +kernel) (by decide +kernel)
set_option maxRecDepth 20000 in
theorem gX4_greatestRadius_X3_greatestRadius : GoodIn wsX4_greatestRadius (wsV RX4 109 RX3 yX3_greatestRadius wsX3_greatestRadius) := goodIn_app (goodIn_of _ (by decide +kernel)) ggX4_greatestRadius_X3_greatestRadius
theorem dX4_greatestRadius_0 : decode cX4_greatestRadius 0 = .ok (.bipush (-9), 2) := by decide +kernel
theorem dX4_greatestRadius_2 : decode cX4_greatestRadius 2 = .ok (.istore_n 1, 1) := by decide +kernel
theorem dX4_greatestRadius_3 : decode cX4_greatestRadius 3 = .ok (.iconst 0, 1) := by decide +kernel
theorem dX4_greatestRadius_4 : decode cX4_greatestRadius 4 = .ok (.istore_n 2, 1) := by decide +kernel
theorem dX4_greatestRadius_5 : decode cX4_greatestRadius 5 = .ok (.iload_n 2, 1) := by decide +kernel
theorem dX4_greatestRadius_6 : decode cX4_greatestRadius 6 = .ok (.aload_n 0, 1) := by decide +kernel
theorem dX4_greatestRadius_7 : decode cX4_greatestRadius 7 = .ok (.getfield 33, 3) := by decide +kernel
theorem dX4_greatestRadius_10 : decode cX4_greatestRadius 10 = .ok (.if_icmp .ge 32, 3) := by decide +kernel
theorem dX4_greatestRadius_13 : decode cX4_greatestRadius 13 = .ok (.aload_n 0, 1) := by decide +kernel
theorem dX4_greatestRadius_14 : decode cX4_greatestRadius 14 = .ok (.iload_n 2, 1) := by decide +kernel
theorem dX4_greatestRadius_15 : decode cX4_greatestRadius 15 = .ok (.invokevirtual 36, 3) := by decide +kernel
theorem dX4_greatestRadius_18 : decode cX4_greatestRadius 18 = .ok (.astore_n 3, 1) := by decide +kernel
theorem dX4_greatestRadius_19 : decode cX4_greatestRadius 19 = .ok (.aload_n 3, 1) := by decide +kernel
theorem dX4_greatestRadius_20 : decode cX4_greatestRadius 20 = .ok (.ifnull 16, 3) := by decide +kernel
theorem dX4_greatestRadius_23 : decode cX4_greatestRadius 23 = .ok (.aload_n 3, 1) := by decide +kernel
theorem dX4_greatestRadius_24 : decode cX4_greatestRadius 24 = .ok (.invokevirtual 109, 3) := by decide +kernel
theorem dX4_greatestRadius_27 : decode cX4_greatestRadius 27 = .ok (.iload_n 1, 1) := by decide +kernel
theorem dX4_greatestRadius_28 : decode cX4_greatestRadius 28 = .ok (.if_icmp .le 8, 3) := by decide +kernel
theorem dX4_greatestRadius_31 : decode cX4_greatestRadius 31 = .ok (.aload_n 3, 1) := by decide +kernel
theorem dX4_greatestRadius_32 : decode cX4_greatestRadius 32 = .ok (.invokevirtual 109, 3) := by decide +kernel
theorem dX4_greatestRadius_35 : decode cX4_greatestRadius 35 = .ok (.istore_n 1, 1) := by decide +kernel
theorem dX4_greatestRadius_36 : decode cX4_greatestRadius 36 = .ok (.iinc 2 1, 3) := by decide +kernel
theorem dX4_greatestRadius_39 : decode cX4_greatestRadius 39 = .ok (.goto (-34), 3) := by decide +kernel
theorem dX4_greatestRadius_42 : decode cX4_greatestRadius 42 = .ok (.iload_n 1, 1) := by decide +kernel
theorem dX4_greatestRadius_43 : decode cX4_greatestRadius 43 = .ok (.ireturn, 1) := by decide +kernel
set_option maxRecDepth 20000 in
theorem ggX4_cutBefore_X4_isCutBefore : GoodIn wsX4_cutBefore wsX4_isCutBefore := goodIn_r _ [6, 7, 8, 9, 10, 5, 11, 1, 12, 13, 14, 15, 16, 17, 18, 19, 20, 21, 22, 23, 24, 25, 26, 27, 28, 29, 30, 31, 32, 33, 34, 35, 36, 37] (by decide +kernel) (by decide +kernel)
set_option maxRecDepth 20000 in
theorem gX4_cutBefore_X4_isCutBefore : GoodIn wsX4_cutBefore (wsV RX4 112 RX4 yX4_isCutBefore wsX4_isCutBefore) := goodIn_app (goodIn_of _ (by decide +kernel)) ggX4_cutBefore_X4_isCutBefore
theorem dX4_cutBefore_0 : decode cX4_cutBefore 0 = .ok (.iconst 0, 1) := by decide +kernel
theorem dX4_cutBefore_1 : decode cX4_cutBefore 1 = .ok (.istore_n 2, 1) := by decide +kernel
theorem dX4_cutBefore_2 : decode cX4_cutBefore 2 = .ok (.iconst 0, 1) := by decide +kernel
theorem dX4_cutBefore_3 : decode cX4_cutBefore 3 = .ok (.istore_n 3, 1) := by decide +kernel
theorem dX4_cutBefore_4 : decode cX4_cutBefore 4 = .ok (.iload_n 3, 1) := by decide +kernel
theorem dX4_cutBefore_5 : decode cX4_cutBefore 5 = .ok (.aload_n 0, 1) := by decide +kernel
theorem dX4_cutBefore_6 : decode cX4_cutBefore 6 = .ok (.getfield 33, 3) := by decide +kernel
theorem dX4_cutBefore_9 : decode cX4_cutBefore 9 = .ok (.if_icmp .ge 26, 3) := by decide +kernel
theorem dX4_cutBefore_12 : decode cX4_cutBefore 12 = .ok (.iload_n 3, 1) := by decide +kernel
theorem dX4_cutBefore_13 : decode cX4_cutBefore 13 = .ok (.iload_n 1, 1) := by decide +kernel
theorem dX4_cutBefore_14 : decode cX4_cutBefore 14 = .ok (.if_icmp .eq 15, 3) := by decide +kernel
theorem dX4_cutBefore_17 : decode cX4_cutBefore 17 = .ok (.aload_n 0, 1) := by decide +kernel
theorem dX4_cutBefore_18 : decode cX4_cutBefore 18 = .ok (.iload_n 3, 1) := by decide +kernel
theorem dX4_cutBefore_19 : decode cX4_cutBefore 19 = .ok (.iload_n 1, 1) := by decide +kernel
theorem dX4_cutBefore_20 : decode cX4_cutBefore 20 = .ok (.invokevirtual 112, 3) := by decide +kernel
theorem dX4_cutBefore_23 : decode cX4_cutBefore 23 = .ok (.ifCond .eq 6, 3) := by decide +kernel
theorem dX4_cutBefore_26 : decode cX4_cutBefore 26 = .ok (.iinc 2 1, 3) := by decide +kernel
theorem dX4_cutBefore_29 : decode cX4_cutBefore 29 = .ok (.iinc 3 1, 3) := by decide +kernel
theorem dX4_cutBefore_32 : decode cX4_cutBefore 32 = .ok (.goto (-28), 3) := by decide +kernel
theorem dX4_cutBefore_35 : decode cX4_cutBefore 35 = .ok (.iload_n 2, 1) := by decide +kernel
theorem dX4_cutBefore_36 : decode cX4_cutBefore 36 = .ok (.ireturn, 1) := by decide +kernel
set_option maxRecDepth 20000 in
theorem ggX4_isCutBefore_X4_find : GoodIn wsX4_isCutBefore wsX4_find := goodIn_r _ [6, 7, 8, 24, 25, 26, 27, 28, 29] (by decide +kernel) (by decide +kernel)
set_option maxRecDepth 20000 in
theorem gX4_isCutBefore_X4_find : GoodIn wsX4_isCutBefore (wsV RX4 36 RX4 yX4_find wsX4_find) := goodIn_app (goodIn_of _ (by decide +kernel)) ggX4_isCutBefore_X4_find
set_option maxRecDepth 20000 in
theorem ggX4_isCutBefore_X3_turns : GoodIn wsX4_isCutBefore wsX3_turns := goodIn_r _ [13, 14, 15, 16, 17, 18, 19, 30, 31, 32, 33] (by decide +kernel) (by decide +kernel)
set_option maxRecDepth 20000 in
theorem gX4_isCutBefore_X3_turns : GoodIn wsX4_isCutBefore (wsV RX4 116 RX3 yX3_turns wsX3_turns) := goodIn_app (goodIn_of _ (by decide +kernel)) ggX4_isCutBefore_X3_turns
set_option maxRecDepth 20000 in
theorem ggX4_isCutBefore_X3_lobes : GoodIn wsX4_isCutBefore wsX3_lobes := goodIn_r _ [23, 14, 15, 16, 17, 18, 19, 30, 31, 32, 33] (by decide +kernel) (by decide +kernel)
set_option maxRecDepth 20000 in
theorem gX4_isCutBefore_X3_lobes : GoodIn wsX4_isCutBefore (wsV RX4 119 RX3 yX3_lobes wsX3_lobes) := goodIn_app (goodIn_of _ (by decide +kernel)) ggX4_isCutBefore_X3_lobes
theorem dX4_isCutBefore_0 : decode cX4_isCutBefore 0 = .ok (.aload_n 0, 1) := by decide +kernel
theorem dX4_isCutBefore_1 : decode cX4_isCutBefore 1 = .ok (.iload_n 1, 1) := by decide +kernel
theorem dX4_isCutBefore_2 : decode cX4_isCutBefore 2 = .ok (.invokevirtual 36, 3) := by decide +kernel
theorem dX4_isCutBefore_5 : decode cX4_isCutBefore 5 = .ok (.astore_n 3, 1) := by decide +kernel
theorem dX4_isCutBefore_6 : decode cX4_isCutBefore 6 = .ok (.aload_n 0, 1) := by decide +kernel
theorem dX4_isCutBefore_7 : decode cX4_isCutBefore 7 = .ok (.iload_n 2, 1) := by decide +kernel
theorem dX4_isCutBefore_8 : decode cX4_isCutBefore 8 = .ok (.invokevirtual 36, 3) := by decide +kernel
theorem dX4_isCutBefore_11 : decode cX4_isCutBefore 11 = .ok (.astore 4, 2) := by decide +kernel
theorem dX4_isCutBefore_13 : decode cX4_isCutBefore 13 = .ok (.aload_n 3, 1) := by decide +kernel
theorem dX4_isCutBefore_14 : decode cX4_isCutBefore 14 = .ok (.ifnull 8, 3) := by decide +kernel
theorem dX4_isCutBefore_17 : decode cX4_isCutBefore 17 = .ok (.aload 4, 2) := by decide +kernel
theorem dX4_isCutBefore_19 : decode cX4_isCutBefore 19 = .ok (.ifnonnull 5, 3) := by decide +kernel
theorem dX4_isCutBefore_22 : decode cX4_isCutBefore 22 = .ok (.iconst 0, 1) := by decide +kernel
theorem dX4_isCutBefore_23 : decode cX4_isCutBefore 23 = .ok (.ireturn, 1) := by decide +kernel
theorem dX4_isCutBefore_24 : decode cX4_isCutBefore 24 = .ok (.aload_n 3, 1) := by decide +kernel
theorem dX4_isCutBefore_25 : decode cX4_isCutBefore 25 = .ok (.aload_n 0, 1) := by decide +kernel
theorem dX4_isCutBefore_26 : decode cX4_isCutBefore 26 = .ok (.getfield 9, 3) := by decide +kernel
theorem dX4_isCutBefore_29 : decode cX4_isCutBefore 29 = .ok (.invokevirtual 116, 3) := by decide +kernel
theorem dX4_isCutBefore_32 : decode cX4_isCutBefore 32 = .ok (.aload 4, 2) := by decide +kernel
theorem dX4_isCutBefore_34 : decode cX4_isCutBefore 34 = .ok (.aload_n 0, 1) := by decide +kernel
theorem dX4_isCutBefore_35 : decode cX4_isCutBefore 35 = .ok (.getfield 9, 3) := by decide +kernel
theorem dX4_isCutBefore_38 : decode cX4_isCutBefore 38 = .ok (.invokevirtual 116, 3) := by decide +kernel
theorem dX4_isCutBefore_41 : decode cX4_isCutBefore 41 = .ok (.if_icmp .eq 29, 3) := by decide +kernel
theorem dX4_isCutBefore_44 : decode cX4_isCutBefore 44 = .ok (.aload_n 3, 1) := by decide +kernel
theorem dX4_isCutBefore_45 : decode cX4_isCutBefore 45 = .ok (.aload_n 0, 1) := by decide +kernel
theorem dX4_isCutBefore_46 : decode cX4_isCutBefore 46 = .ok (.getfield 9, 3) := by decide +kernel
theorem dX4_isCutBefore_49 : decode cX4_isCutBefore 49 = .ok (.invokevirtual 116, 3) := by decide +kernel
theorem dX4_isCutBefore_52 : decode cX4_isCutBefore 52 = .ok (.aload 4, 2) := by decide +kernel
theorem dX4_isCutBefore_54 : decode cX4_isCutBefore 54 = .ok (.aload_n 0, 1) := by decide +kernel
theorem dX4_isCutBefore_55 : decode cX4_isCutBefore 55 = .ok (.getfield 9, 3) := by decide +kernel
theorem dX4_isCutBefore_58 : decode cX4_isCutBefore 58 = .ok (.invokevirtual 116, 3) := by decide +kernel
theorem dX4_isCutBefore_61 : decode cX4_isCutBefore 61 = .ok (.if_icmp .ge 7, 3) := by decide +kernel
theorem dX4_isCutBefore_64 : decode cX4_isCutBefore 64 = .ok (.iconst 1, 1) := by decide +kernel
theorem dX4_isCutBefore_65 : decode cX4_isCutBefore 65 = .ok (.goto 4, 3) := by decide +kernel
theorem dX4_isCutBefore_68 : decode cX4_isCutBefore 68 = .ok (.iconst 0, 1) := by decide +kernel
theorem dX4_isCutBefore_69 : decode cX4_isCutBefore 69 = .ok (.ireturn, 1) := by decide +kernel
theorem dX4_isCutBefore_70 : decode cX4_isCutBefore 70 = .ok (.aload_n 3, 1) := by decide +kernel
theorem dX4_isCutBefore_71 : decode cX4_isCutBefore 71 = .ok (.aload_n 0, 1) := by decide +kernel
theorem dX4_isCutBefore_72 : decode cX4_isCutBefore 72 = .ok (.getfield 9, 3) := by decide +kernel
theorem dX4_isCutBefore_75 : decode cX4_isCutBefore 75 = .ok (.invokevirtual 119, 3) := by decide +kernel
theorem dX4_isCutBefore_78 : decode cX4_isCutBefore 78 = .ok (.aload 4, 2) := by decide +kernel
theorem dX4_isCutBefore_80 : decode cX4_isCutBefore 80 = .ok (.aload_n 0, 1) := by decide +kernel
theorem dX4_isCutBefore_81 : decode cX4_isCutBefore 81 = .ok (.getfield 9, 3) := by decide +kernel
theorem dX4_isCutBefore_84 : decode cX4_isCutBefore 84 = .ok (.invokevirtual 119, 3) := by decide +kernel
theorem dX4_isCutBefore_87 : decode cX4_isCutBefore 87 = .ok (.if_icmp .eq 29, 3) := by decide +kernel
theorem dX4_isCutBefore_90 : decode cX4_isCutBefore 90 = .ok (.aload_n 3, 1) := by decide +kernel
theorem dX4_isCutBefore_91 : decode cX4_isCutBefore 91 = .ok (.aload_n 0, 1) := by decide +kernel
theorem dX4_isCutBefore_92 : decode cX4_isCutBefore 92 = .ok (.getfield 9, 3) := by decide +kernel
theorem dX4_isCutBefore_95 : decode cX4_isCutBefore 95 = .ok (.invokevirtual 119, 3) := by decide +kernel
theorem dX4_isCutBefore_98 : decode cX4_isCutBefore 98 = .ok (.aload 4, 2) := by decide +kernel
theorem dX4_isCutBefore_100 : decode cX4_isCutBefore 100 = .ok (.aload_n 0, 1) := by decide +kernel
theorem dX4_isCutBefore_101 : decode cX4_isCutBefore 101 = .ok (.getfield 9, 3) := by decide +kernel
theorem dX4_isCutBefore_104 : decode cX4_isCutBefore 104 = .ok (.invokevirtual 119, 3) := by decide +kernel
theorem dX4_isCutBefore_107 : decode cX4_isCutBefore 107 = .ok (.if_icmp .le 7, 3) := by decide +kernel
theorem dX4_isCutBefore_110 : decode cX4_isCutBefore 110 = .ok (.iconst 1, 1) := by decide +kernel
theorem dX4_isCutBefore_111 : decode cX4_isCutBefore 111 = .ok (.goto 4, 3) := by decide +kernel
theorem dX4_isCutBefore_114 : decode cX4_isCutBefore 114 = .ok (.iconst 0, 1) := by decide +kernel
theorem dX4_isCutBefore_115 : decode cX4_isCutBefore 115 = .ok (.ireturn, 1) := by decide +kernel
theorem dX4_isCutBefore_116 : decode cX4_isCutBefore 116 = .ok (.iload_n 1, 1) := by decide +kernel
theorem dX4_isCutBefore_117 : decode cX4_isCutBefore 117 = .ok (.iload_n 2, 1) := by decide +kernel
theorem dX4_isCutBefore_118 : decode cX4_isCutBefore 118 = .ok (.if_icmp .ge 7, 3) := by decide +kernel
theorem dX4_isCutBefore_121 : decode cX4_isCutBefore 121 = .ok (.iconst 1, 1) := by decide +kernel
theorem dX4_isCutBefore_122 : decode cX4_isCutBefore 122 = .ok (.goto 4, 3) := by decide +kernel
theorem dX4_isCutBefore_125 : decode cX4_isCutBefore 125 = .ok (.iconst 0, 1) := by decide +kernel
theorem dX4_isCutBefore_126 : decode cX4_isCutBefore 126 = .ok (.ireturn, 1) := by decide +kernel
theorem dX5_init_0 : decode cX5_init 0 = .ok (.aload_n 0, 1) := by decide +kernel
theorem dX5_init_1 : decode cX5_init 1 = .ok (.invokespecial 3, 3) := by decide +kernel
theorem dX5_init_4 : decode cX5_init 4 = .ok (.aload_n 0, 1) := by decide +kernel
theorem dX5_init_5 : decode cX5_init 5 = .ok (.sipush 602, 3) := by decide +kernel
theorem dX5_init_8 : decode cX5_init 8 = .ok (.newarray .long, 2) := by decide +kernel
theorem dX5_init_10 : decode cX5_init 10 = .ok (.putfield 11, 3) := by decide +kernel
theorem dX5_init_13 : decode cX5_init 13 = .ok (.return_, 1) := by decide +kernel
theorem dX5_clear_0 : decode cX5_clear 0 = .ok (.iconst 0, 1) := by decide +kernel
theorem dX5_clear_1 : decode cX5_clear 1 = .ok (.istore_n 1, 1) := by decide +kernel
theorem dX5_clear_2 : decode cX5_clear 2 = .ok (.iload_n 1, 1) := by decide +kernel
theorem dX5_clear_3 : decode cX5_clear 3 = .ok (.aload_n 0, 1) := by decide +kernel
theorem dX5_clear_4 : decode cX5_clear 4 = .ok (.getfield 11, 3) := by decide +kernel
theorem dX5_clear_7 : decode cX5_clear 7 = .ok (.arraylength, 1) := by decide +kernel
theorem dX5_clear_8 : decode cX5_clear 8 = .ok (.if_icmp .ge 16, 3) := by decide +kernel
theorem dX5_clear_11 : decode cX5_clear 11 = .ok (.aload_n 0, 1) := by decide +kernel
theorem dX5_clear_12 : decode cX5_clear 12 = .ok (.getfield 11, 3) := by decide +kernel
theorem dX5_clear_15 : decode cX5_clear 15 = .ok (.iload_n 1, 1) := by decide +kernel
theorem dX5_clear_16 : decode cX5_clear 16 = .ok (.lconst 0, 1) := by decide +kernel
theorem dX5_clear_17 : decode cX5_clear 17 = .ok (.lastore, 1) := by decide +kernel
theorem dX5_clear_18 : decode cX5_clear 18 = .ok (.iinc 1 1, 3) := by decide +kernel
theorem dX5_clear_21 : decode cX5_clear 21 = .ok (.goto (-19), 3) := by decide +kernel
theorem dX5_clear_24 : decode cX5_clear 24 = .ok (.return_, 1) := by decide +kernel
theorem dX5_cut_0 : decode cX5_cut 0 = .ok (.iconst 2, 1) := by decide +kernel
theorem dX5_cut_1 : decode cX5_cut 1 = .ok (.iload_n 2, 1) := by decide +kernel
theorem dX5_cut_2 : decode cX5_cut 2 = .ok (.imul, 1) := by decide +kernel
theorem dX5_cut_3 : decode cX5_cut 3 = .ok (.iload_n 1, 1) := by decide +kernel
theorem dX5_cut_4 : decode cX5_cut 4 = .ok (.bipush 64, 2) := by decide +kernel
theorem dX5_cut_6 : decode cX5_cut 6 = .ok (.idiv, 1) := by decide +kernel
theorem dX5_cut_7 : decode cX5_cut 7 = .ok (.iadd, 1) := by decide +kernel
theorem dX5_cut_8 : decode cX5_cut 8 = .ok (.istore_n 3, 1) := by decide +kernel
theorem dX5_cut_9 : decode cX5_cut 9 = .ok (.iload_n 1, 1) := by decide +kernel
theorem dX5_cut_10 : decode cX5_cut 10 = .ok (.ifCond .lt 37, 3) := by decide +kernel
theorem dX5_cut_13 : decode cX5_cut 13 = .ok (.iload_n 1, 1) := by decide +kernel
theorem dX5_cut_14 : decode cX5_cut 14 = .ok (.bipush 96, 2) := by decide +kernel
theorem dX5_cut_16 : decode cX5_cut 16 = .ok (.if_icmp .ge 31, 3) := by decide +kernel
theorem dX5_cut_19 : decode cX5_cut 19 = .ok (.iload_n 3, 1) := by decide +kernel
theorem dX5_cut_20 : decode cX5_cut 20 = .ok (.ifCond .lt 27, 3) := by decide +kernel
theorem dX5_cut_23 : decode cX5_cut 23 = .ok (.iload_n 3, 1) := by decide +kernel
theorem dX5_cut_24 : decode cX5_cut 24 = .ok (.aload_n 0, 1) := by decide +kernel
theorem dX5_cut_25 : decode cX5_cut 25 = .ok (.getfield 11, 3) := by decide +kernel
theorem dX5_cut_28 : decode cX5_cut 28 = .ok (.arraylength, 1) := by decide +kernel
theorem dX5_cut_29 : decode cX5_cut 29 = .ok (.if_icmp .ge 18, 3) := by decide +kernel
theorem dX5_cut_32 : decode cX5_cut 32 = .ok (.aload_n 0, 1) := by decide +kernel
theorem dX5_cut_33 : decode cX5_cut 33 = .ok (.getfield 11, 3) := by decide +kernel
theorem dX5_cut_36 : decode cX5_cut 36 = .ok (.iload_n 3, 1) := by decide +kernel
theorem dX5_cut_37 : decode cX5_cut 37 = .ok (.dup2, 1) := by decide +kernel
theorem dX5_cut_38 : decode cX5_cut 38 = .ok (.laload, 1) := by decide +kernel
theorem dX5_cut_39 : decode cX5_cut 39 = .ok (.lconst 1, 1) := by decide +kernel
theorem dX5_cut_40 : decode cX5_cut 40 = .ok (.iload_n 1, 1) := by decide +kernel
theorem dX5_cut_41 : decode cX5_cut 41 = .ok (.bipush 64, 2) := by decide +kernel
theorem dX5_cut_43 : decode cX5_cut 43 = .ok (.irem, 1) := by decide +kernel
theorem dX5_cut_44 : decode cX5_cut 44 = .ok (.lshl, 1) := by decide +kernel
theorem dX5_cut_45 : decode cX5_cut 45 = .ok (.lor, 1) := by decide +kernel
theorem dX5_cut_46 : decode cX5_cut 46 = .ok (.lastore, 1) := by decide +kernel
theorem dX5_cut_47 : decode cX5_cut 47 = .ok (.return_, 1) := by decide +kernel
set_option maxRecDepth 20000 in
theorem ggX5_cutRosette_X3_lobes : GoodIn wsX5_cutRosette wsX3_lobes := goodIn_r _ [6, 7, 8, 9, 10, 11, 12, 36, 37, 38, 39] (by decide +kernel) (by decide +kernel)
set_option maxRecDepth 20000 in
theorem gX5_cutRosette_X3_lobes : GoodIn wsX5_cutRosette (wsV RX5 15 RX3 yX3_lobes wsX3_lobes) := goodIn_app (goodIn_of _ (by decide +kernel)) ggX5_cutRosette_X3_lobes
set_option maxRecDepth 20000 in
theorem ggX5_cutRosette_X3_radiusAt : GoodIn wsX5_cutRosette wsX3_radiusAt := goodIn_r _ [16, 7, 17, 18, 19, 20, 21, 22, 23, 9, 24, 11, 12, 36, 37, 38, 39] (by decide +kernel) (by decide +kernel)
set_option maxRecDepth 20000 in
theorem gX5_cutRosette_X3_radiusAt : GoodIn wsX5_cutRosette (wsV RX5 25 RX3 yX3_radiusAt wsX3_radiusAt) := goodIn_app (goodIn_of _ (by decide +kernel)) ggX5_cutRosette_X3_radiusAt
set_option maxRecDepth 20000 in
theorem ggX5_cutRosette_X3_angleAt : GoodIn wsX5_cutRosette wsX3_angleAt := goodIn_r _ [28, 29, 23, 9, 24, 36, 37, 38, 39] (by decide +kernel) (by decide +kernel)
set_option maxRecDepth 20000 in
theorem gX5_cutRosette_X3_angleAt : GoodIn wsX5_cutRosette (wsV RX5 29 RX3 yX3_angleAt wsX3_angleAt) := goodIn_app (goodIn_of _ (by decide +kernel)) ggX5_cutRosette_X3_angleAt
set_option maxRecDepth 20000 in
theorem ggX5_cutRosette_X5_cut : GoodIn wsX5_cutRosette wsX5_cut := goodIn_r _ [34, 35, 40] (by decide +kernel) (by decide +kernel)
set_option maxRecDepth 20000 in
theorem gX5_cutRosette_X5_cut : GoodIn wsX5_cutRosette (wsV RX5 33 RX5 yX5_cut wsX5_cut) := goodIn_app (goodIn_of _ (by decide +kernel)) ggX5_cutRosette_X5_cut
theorem dX5_cutRosette_0 : decode cX5_cutRosette 0 = .ok (.aload_n 2, 1) := by decide +kernel
theorem dX5_cutRosette_1 : decode cX5_cutRosette 1 = .ok (.iload_n 1, 1) := by decide +kernel
theorem dX5_cutRosette_2 : decode cX5_cutRosette 2 = .ok (.invokevirtual 15, 3) := by decide +kernel
theorem dX5_cutRosette_5 : decode cX5_cutRosette 5 = .ok (.istore_n 3, 1) := by decide +kernel
theorem dX5_cutRosette_6 : decode cX5_cutRosette 6 = .ok (.iconst 0, 1) := by decide +kernel
theorem dX5_cutRosette_7 : decode cX5_cutRosette 7 = .ok (.istore 4, 2) := by decide +kernel
theorem dX5_cutRosette_9 : decode cX5_cutRosette 9 = .ok (.iload 4, 2) := by decide +kernel
theorem dX5_cutRosette_11 : decode cX5_cutRosette 11 = .ok (.aload_n 2, 1) := by decide +kernel
theorem dX5_cutRosette_12 : decode cX5_cutRosette 12 = .ok (.getfield 21, 3) := by decide +kernel
theorem dX5_cutRosette_15 : decode cX5_cutRosette 15 = .ok (.if_icmp .ge 55, 3) := by decide +kernel
theorem dX5_cutRosette_18 : decode cX5_cutRosette 18 = .ok (.aload_n 2, 1) := by decide +kernel
theorem dX5_cutRosette_19 : decode cX5_cutRosette 19 = .ok (.iload 4, 2) := by decide +kernel
theorem dX5_cutRosette_21 : decode cX5_cutRosette 21 = .ok (.i2l, 1) := by decide +kernel
theorem dX5_cutRosette_22 : decode cX5_cutRosette 22 = .ok (.invokevirtual 25, 3) := by decide +kernel
theorem dX5_cutRosette_25 : decode cX5_cutRosette 25 = .ok (.istore 5, 2) := by decide +kernel
theorem dX5_cutRosette_27 : decode cX5_cutRosette 27 = .ok (.iconst 0, 1) := by decide +kernel
theorem dX5_cutRosette_28 : decode cX5_cutRosette 28 = .ok (.istore 6, 2) := by decide +kernel
theorem dX5_cutRosette_30 : decode cX5_cutRosette 30 = .ok (.iload 6, 2) := by decide +kernel
theorem dX5_cutRosette_32 : decode cX5_cutRosette 32 = .ok (.iload_n 3, 1) := by decide +kernel
theorem dX5_cutRosette_33 : decode cX5_cutRosette 33 = .ok (.if_icmp .ge 31, 3) := by decide +kernel
theorem dX5_cutRosette_36 : decode cX5_cutRosette 36 = .ok (.aload_n 0, 1) := by decide +kernel
theorem dX5_cutRosette_37 : decode cX5_cutRosette 37 = .ok (.aload_n 2, 1) := by decide +kernel
theorem dX5_cutRosette_38 : decode cX5_cutRosette 38 = .ok (.iload_n 1, 1) := by decide +kernel
theorem dX5_cutRosette_39 : decode cX5_cutRosette 39 = .ok (.iload 4, 2) := by decide +kernel
theorem dX5_cutRosette_41 : decode cX5_cutRosette 41 = .ok (.iload 6, 2) := by decide +kernel
theorem dX5_cutRosette_43 : decode cX5_cutRosette 43 = .ok (.aload_n 2, 1) := by decide +kernel
theorem dX5_cutRosette_44 : decode cX5_cutRosette 44 = .ok (.getfield 21, 3) := by decide +kernel
theorem dX5_cutRosette_47 : decode cX5_cutRosette 47 = .ok (.imul, 1) := by decide +kernel
theorem dX5_cutRosette_48 : decode cX5_cutRosette 48 = .ok (.iadd, 1) := by decide +kernel
theorem dX5_cutRosette_49 : decode cX5_cutRosette 49 = .ok (.i2l, 1) := by decide +kernel
theorem dX5_cutRosette_50 : decode cX5_cutRosette 50 = .ok (.invokevirtual 29, 3) := by decide +kernel
theorem dX5_cutRosette_53 : decode cX5_cutRosette 53 = .ok (.iload 5, 2) := by decide +kernel
theorem dX5_cutRosette_55 : decode cX5_cutRosette 55 = .ok (.invokevirtual 33, 3) := by decide +kernel
theorem dX5_cutRosette_58 : decode cX5_cutRosette 58 = .ok (.iinc 6 1, 3) := by decide +kernel
theorem dX5_cutRosette_61 : decode cX5_cutRosette 61 = .ok (.goto (-31), 3) := by decide +kernel
theorem dX5_cutRosette_64 : decode cX5_cutRosette 64 = .ok (.iinc 4 1, 3) := by decide +kernel
theorem dX5_cutRosette_67 : decode cX5_cutRosette 67 = .ok (.goto (-58), 3) := by decide +kernel
theorem dX5_cutRosette_70 : decode cX5_cutRosette 70 = .ok (.return_, 1) := by decide +kernel
set_option maxRecDepth 20000 in
theorem ggX5_size_J13_bitCount_95d88 : GoodIn wsX5_size wsJ13_bitCount_95d88 := goodIn_r _ [5, 6, 7, 8] (by decide +kernel) (by decide +kernel)
set_option maxRecDepth 20000 in
theorem gX5_size_J13_bitCount_95d88 : GoodIn wsX5_size (va_wsS RX5 37 yJ13_bitCount_95d88 wsJ13_bitCount_95d88) := goodIn_app (goodIn_of _ (by decide +kernel)) ggX5_size_J13_bitCount_95d88
theorem dX5_size_0 : decode cX5_size 0 = .ok (.iconst 0, 1) := by decide +kernel
theorem dX5_size_1 : decode cX5_size 1 = .ok (.istore_n 1, 1) := by decide +kernel
theorem dX5_size_2 : decode cX5_size 2 = .ok (.iconst 0, 1) := by decide +kernel
theorem dX5_size_3 : decode cX5_size 3 = .ok (.istore_n 2, 1) := by decide +kernel
theorem dX5_size_4 : decode cX5_size 4 = .ok (.iload_n 2, 1) := by decide +kernel
theorem dX5_size_5 : decode cX5_size 5 = .ok (.aload_n 0, 1) := by decide +kernel
theorem dX5_size_6 : decode cX5_size 6 = .ok (.getfield 11, 3) := by decide +kernel
theorem dX5_size_9 : decode cX5_size 9 = .ok (.arraylength, 1) := by decide +kernel
theorem dX5_size_10 : decode cX5_size 10 = .ok (.if_icmp .ge 21, 3) := by decide +kernel
theorem dX5_size_13 : decode cX5_size 13 = .ok (.iload_n 1, 1) := by decide +kernel
theorem dX5_size_14 : decode cX5_size 14 = .ok (.aload_n 0, 1) := by decide +kernel
theorem dX5_size_15 : decode cX5_size 15 = .ok (.getfield 11, 3) := by decide +kernel
theorem dX5_size_18 : decode cX5_size 18 = .ok (.iload_n 2, 1) := by decide +kernel
theorem dX5_size_19 : decode cX5_size 19 = .ok (.laload, 1) := by decide +kernel
theorem dX5_size_20 : decode cX5_size 20 = .ok (.invokestatic 37, 3) := by decide +kernel
theorem dX5_size_23 : decode cX5_size 23 = .ok (.iadd, 1) := by decide +kernel
theorem dX5_size_24 : decode cX5_size 24 = .ok (.istore_n 1, 1) := by decide +kernel
theorem dX5_size_25 : decode cX5_size 25 = .ok (.iinc 2 1, 3) := by decide +kernel
theorem dX5_size_28 : decode cX5_size 28 = .ok (.goto (-24), 3) := by decide +kernel
theorem dX5_size_31 : decode cX5_size 31 = .ok (.iload_n 1, 1) := by decide +kernel
theorem dX5_size_32 : decode cX5_size 32 = .ok (.ireturn, 1) := by decide +kernel
set_option maxRecDepth 20000 in
theorem ggX5_sizeAt_J13_bitCount_95d88 : GoodIn wsX5_sizeAt wsJ13_bitCount_95d88 := goodIn_r _ [5, 6, 7, 8] (by decide +kernel) (by decide +kernel)
set_option maxRecDepth 20000 in
theorem gX5_sizeAt_J13_bitCount_95d88 : GoodIn wsX5_sizeAt (va_wsS RX5 37 yJ13_bitCount_95d88 wsJ13_bitCount_95d88) := goodIn_app (goodIn_of _ (by decide +kernel)) ggX5_sizeAt_J13_bitCount_95d88
theorem dX5_sizeAt_0 : decode cX5_sizeAt 0 = .ok (.iconst 2, 1) := by decide +kernel
theorem dX5_sizeAt_1 : decode cX5_sizeAt 1 = .ok (.iload_n 1, 1) := by decide +kernel
theorem dX5_sizeAt_2 : decode cX5_sizeAt 2 = .ok (.imul, 1) := by decide +kernel
theorem dX5_sizeAt_3 : decode cX5_sizeAt 3 = .ok (.istore_n 2, 1) := by decide +kernel
theorem dX5_sizeAt_4 : decode cX5_sizeAt 4 = .ok (.iload_n 2, 1) := by decide +kernel
theorem dX5_sizeAt_5 : decode cX5_sizeAt 5 = .ok (.ifCond .lt 14, 3) := by decide +kernel
theorem dX5_sizeAt_8 : decode cX5_sizeAt 8 = .ok (.iload_n 2, 1) := by decide +kernel
theorem dX5_sizeAt_9 : decode cX5_sizeAt 9 = .ok (.iconst 1, 1) := by decide +kernel
theorem dX5_sizeAt_10 : decode cX5_sizeAt 10 = .ok (.iadd, 1) := by decide +kernel
theorem dX5_sizeAt_11 : decode cX5_sizeAt 11 = .ok (.aload_n 0, 1) := by decide +kernel
theorem dX5_sizeAt_12 : decode cX5_sizeAt 12 = .ok (.getfield 11, 3) := by decide +kernel
theorem dX5_sizeAt_15 : decode cX5_sizeAt 15 = .ok (.arraylength, 1) := by decide +kernel
theorem dX5_sizeAt_16 : decode cX5_sizeAt 16 = .ok (.if_icmp .lt 5, 3) := by decide +kernel
theorem dX5_sizeAt_19 : decode cX5_sizeAt 19 = .ok (.iconst 0, 1) := by decide +kernel
theorem dX5_sizeAt_20 : decode cX5_sizeAt 20 = .ok (.ireturn, 1) := by decide +kernel
theorem dX5_sizeAt_21 : decode cX5_sizeAt 21 = .ok (.aload_n 0, 1) := by decide +kernel
theorem dX5_sizeAt_22 : decode cX5_sizeAt 22 = .ok (.getfield 11, 3) := by decide +kernel
theorem dX5_sizeAt_25 : decode cX5_sizeAt 25 = .ok (.iload_n 2, 1) := by decide +kernel
theorem dX5_sizeAt_26 : decode cX5_sizeAt 26 = .ok (.laload, 1) := by decide +kernel
theorem dX5_sizeAt_27 : decode cX5_sizeAt 27 = .ok (.invokestatic 37, 3) := by decide +kernel
theorem dX5_sizeAt_30 : decode cX5_sizeAt 30 = .ok (.aload_n 0, 1) := by decide +kernel
theorem dX5_sizeAt_31 : decode cX5_sizeAt 31 = .ok (.getfield 11, 3) := by decide +kernel
theorem dX5_sizeAt_34 : decode cX5_sizeAt 34 = .ok (.iload_n 2, 1) := by decide +kernel
theorem dX5_sizeAt_35 : decode cX5_sizeAt 35 = .ok (.iconst 1, 1) := by decide +kernel
theorem dX5_sizeAt_36 : decode cX5_sizeAt 36 = .ok (.iadd, 1) := by decide +kernel
theorem dX5_sizeAt_37 : decode cX5_sizeAt 37 = .ok (.laload, 1) := by decide +kernel
theorem dX5_sizeAt_38 : decode cX5_sizeAt 38 = .ok (.invokestatic 37, 3) := by decide +kernel
theorem dX5_sizeAt_41 : decode cX5_sizeAt 41 = .ok (.iadd, 1) := by decide +kernel
theorem dX5_sizeAt_42 : decode cX5_sizeAt 42 = .ok (.ireturn, 1) := by decide +kernel
set_option maxRecDepth 20000 in
theorem ggX5_widestGap_X5_sizeAt : GoodIn wsX5_widestGap wsX5_sizeAt := goodIn_r _ [9, 10, 11, 12, 13, 14, 15, 16, 17, 18] (by decide +kernel) (by decide +kernel)
set_option maxRecDepth 20000 in
theorem gX5_widestGap_X5_sizeAt : GoodIn wsX5_widestGap (wsV RX5 42 RX5 yX5_sizeAt wsX5_sizeAt) := goodIn_app (goodIn_of _ (by decide +kernel)) ggX5_widestGap_X5_sizeAt
theorem dX5_widestGap_0 : decode cX5_widestGap 0 = .ok (.iconst 0, 1) := by decide +kernel
theorem dX5_widestGap_1 : decode cX5_widestGap 1 = .ok (.istore_n 1, 1) := by decide +kernel
theorem dX5_widestGap_2 : decode cX5_widestGap 2 = .ok (.bipush (-9), 2) := by decide +kernel
theorem dX5_widestGap_4 : decode cX5_widestGap 4 = .ok (.istore_n 2, 1) := by decide +kernel
theorem dX5_widestGap_5 : decode cX5_widestGap 5 = .ok (.iconst 0, 1) := by decide +kernel
theorem dX5_widestGap_6 : decode cX5_widestGap 6 = .ok (.istore_n 3, 1) := by decide +kernel
theorem dX5_widestGap_7 : decode cX5_widestGap 7 = .ok (.iload_n 3, 1) := by decide +kernel
theorem dX5_widestGap_8 : decode cX5_widestGap 8 = .ok (.sipush 300, 3) := by decide +kernel
theorem dX5_widestGap_11 : decode cX5_widestGap 11 = .ok (.if_icmp .gt 33, 3) := by decide +kernel
theorem dX5_widestGap_14 : decode cX5_widestGap 14 = .ok (.aload_n 0, 1) := by decide +kernel
theorem dX5_widestGap_15 : decode cX5_widestGap 15 = .ok (.iload_n 3, 1) := by decide +kernel
theorem dX5_widestGap_16 : decode cX5_widestGap 16 = .ok (.invokevirtual 42, 3) := by decide +kernel
theorem dX5_widestGap_19 : decode cX5_widestGap 19 = .ok (.ifCond .le 19, 3) := by decide +kernel
theorem dX5_widestGap_22 : decode cX5_widestGap 22 = .ok (.iload_n 2, 1) := by decide +kernel
theorem dX5_widestGap_23 : decode cX5_widestGap 23 = .ok (.bipush (-9), 2) := by decide +kernel
theorem dX5_widestGap_25 : decode cX5_widestGap 25 = .ok (.if_icmp .eq 11, 3) := by decide +kernel
theorem dX5_widestGap_28 : decode cX5_widestGap 28 = .ok (.iload_n 1, 1) := by decide +kernel
theorem dX5_widestGap_29 : decode cX5_widestGap 29 = .ok (.iload_n 3, 1) := by decide +kernel
theorem dX5_widestGap_30 : decode cX5_widestGap 30 = .ok (.iload_n 2, 1) := by decide +kernel
theorem dX5_widestGap_31 : decode cX5_widestGap 31 = .ok (.isub, 1) := by decide +kernel
theorem dX5_widestGap_32 : decode cX5_widestGap 32 = .ok (.invokestatic 45, 3) := by decide +kernel
theorem dX5_widestGap_35 : decode cX5_widestGap 35 = .ok (.istore_n 1, 1) := by decide +kernel
theorem dX5_widestGap_36 : decode cX5_widestGap 36 = .ok (.iload_n 3, 1) := by decide +kernel
theorem dX5_widestGap_37 : decode cX5_widestGap 37 = .ok (.istore_n 2, 1) := by decide +kernel
theorem dX5_widestGap_38 : decode cX5_widestGap 38 = .ok (.iinc 3 1, 3) := by decide +kernel
theorem dX5_widestGap_41 : decode cX5_widestGap 41 = .ok (.goto (-34), 3) := by decide +kernel
theorem dX5_widestGap_44 : decode cX5_widestGap 44 = .ok (.iload_n 1, 1) := by decide +kernel
theorem dX5_widestGap_45 : decode cX5_widestGap 45 = .ok (.ireturn, 1) := by decide +kernel
set_option maxRecDepth 20000 in
theorem ggX5_sizeOfBoth_J13_bitCount_95d88 : GoodIn wsX5_sizeOfBoth wsJ13_bitCount_95d88 := goodIn_r _ [5, 6, 7, 8] (by decide +kernel) (by decide +kernel)
set_option maxRecDepth 20000 in
theorem gX5_sizeOfBoth_J13_bitCount_95d88 : GoodIn wsX5_sizeOfBoth (va_wsS RX5 37 yJ13_bitCount_95d88 wsJ13_bitCount_95d88) := goodIn_app (goodIn_of _ (by decide +kernel)) ggX5_sizeOfBoth_J13_bitCount_95d88
theorem dX5_sizeOfBoth_0 : decode cX5_sizeOfBoth 0 = .ok (.iconst 0, 1) := by decide +kernel
theorem dX5_sizeOfBoth_1 : decode cX5_sizeOfBoth 1 = .ok (.istore_n 2, 1) := by decide +kernel
theorem dX5_sizeOfBoth_2 : decode cX5_sizeOfBoth 2 = .ok (.iconst 0, 1) := by decide +kernel
theorem dX5_sizeOfBoth_3 : decode cX5_sizeOfBoth 3 = .ok (.istore_n 3, 1) := by decide +kernel
theorem dX5_sizeOfBoth_4 : decode cX5_sizeOfBoth 4 = .ok (.iload_n 3, 1) := by decide +kernel
theorem dX5_sizeOfBoth_5 : decode cX5_sizeOfBoth 5 = .ok (.aload_n 0, 1) := by decide +kernel
theorem dX5_sizeOfBoth_6 : decode cX5_sizeOfBoth 6 = .ok (.getfield 11, 3) := by decide +kernel
theorem dX5_sizeOfBoth_9 : decode cX5_sizeOfBoth 9 = .ok (.arraylength, 1) := by decide +kernel
theorem dX5_sizeOfBoth_10 : decode cX5_sizeOfBoth 10 = .ok (.if_icmp .ge 37, 3) := by decide +kernel
theorem dX5_sizeOfBoth_13 : decode cX5_sizeOfBoth 13 = .ok (.iload_n 3, 1) := by decide +kernel
theorem dX5_sizeOfBoth_14 : decode cX5_sizeOfBoth 14 = .ok (.aload_n 1, 1) := by decide +kernel
theorem dX5_sizeOfBoth_15 : decode cX5_sizeOfBoth 15 = .ok (.getfield 11, 3) := by decide +kernel
theorem dX5_sizeOfBoth_18 : decode cX5_sizeOfBoth 18 = .ok (.arraylength, 1) := by decide +kernel
theorem dX5_sizeOfBoth_19 : decode cX5_sizeOfBoth 19 = .ok (.if_icmp .ge 28, 3) := by decide +kernel
theorem dX5_sizeOfBoth_22 : decode cX5_sizeOfBoth 22 = .ok (.iload_n 2, 1) := by decide +kernel
theorem dX5_sizeOfBoth_23 : decode cX5_sizeOfBoth 23 = .ok (.aload_n 0, 1) := by decide +kernel
theorem dX5_sizeOfBoth_24 : decode cX5_sizeOfBoth 24 = .ok (.getfield 11, 3) := by decide +kernel
theorem dX5_sizeOfBoth_27 : decode cX5_sizeOfBoth 27 = .ok (.iload_n 3, 1) := by decide +kernel
theorem dX5_sizeOfBoth_28 : decode cX5_sizeOfBoth 28 = .ok (.laload, 1) := by decide +kernel
theorem dX5_sizeOfBoth_29 : decode cX5_sizeOfBoth 29 = .ok (.aload_n 1, 1) := by decide +kernel
theorem dX5_sizeOfBoth_30 : decode cX5_sizeOfBoth 30 = .ok (.getfield 11, 3) := by decide +kernel
theorem dX5_sizeOfBoth_33 : decode cX5_sizeOfBoth 33 = .ok (.iload_n 3, 1) := by decide +kernel
theorem dX5_sizeOfBoth_34 : decode cX5_sizeOfBoth 34 = .ok (.laload, 1) := by decide +kernel
theorem dX5_sizeOfBoth_35 : decode cX5_sizeOfBoth 35 = .ok (.land, 1) := by decide +kernel
theorem dX5_sizeOfBoth_36 : decode cX5_sizeOfBoth 36 = .ok (.invokestatic 37, 3) := by decide +kernel
theorem dX5_sizeOfBoth_39 : decode cX5_sizeOfBoth 39 = .ok (.iadd, 1) := by decide +kernel
theorem dX5_sizeOfBoth_40 : decode cX5_sizeOfBoth 40 = .ok (.istore_n 2, 1) := by decide +kernel
theorem dX5_sizeOfBoth_41 : decode cX5_sizeOfBoth 41 = .ok (.iinc 3 1, 3) := by decide +kernel
theorem dX5_sizeOfBoth_44 : decode cX5_sizeOfBoth 44 = .ok (.goto (-40), 3) := by decide +kernel
theorem dX5_sizeOfBoth_47 : decode cX5_sizeOfBoth 47 = .ok (.iload_n 2, 1) := by decide +kernel
theorem dX5_sizeOfBoth_48 : decode cX5_sizeOfBoth 48 = .ok (.ireturn, 1) := by decide +kernel
theorem dX5_isSameAs_0 : decode cX5_isSameAs 0 = .ok (.iconst 0, 1) := by decide +kernel
theorem dX5_isSameAs_1 : decode cX5_isSameAs 1 = .ok (.istore_n 2, 1) := by decide +kernel
theorem dX5_isSameAs_2 : decode cX5_isSameAs 2 = .ok (.iload_n 2, 1) := by decide +kernel
theorem dX5_isSameAs_3 : decode cX5_isSameAs 3 = .ok (.aload_n 0, 1) := by decide +kernel
theorem dX5_isSameAs_4 : decode cX5_isSameAs 4 = .ok (.getfield 11, 3) := by decide +kernel
theorem dX5_isSameAs_7 : decode cX5_isSameAs 7 = .ok (.arraylength, 1) := by decide +kernel
theorem dX5_isSameAs_8 : decode cX5_isSameAs 8 = .ok (.if_icmp .ge 36, 3) := by decide +kernel
theorem dX5_isSameAs_11 : decode cX5_isSameAs 11 = .ok (.iload_n 2, 1) := by decide +kernel
theorem dX5_isSameAs_12 : decode cX5_isSameAs 12 = .ok (.aload_n 1, 1) := by decide +kernel
theorem dX5_isSameAs_13 : decode cX5_isSameAs 13 = .ok (.getfield 11, 3) := by decide +kernel
theorem dX5_isSameAs_16 : decode cX5_isSameAs 16 = .ok (.arraylength, 1) := by decide +kernel
theorem dX5_isSameAs_17 : decode cX5_isSameAs 17 = .ok (.if_icmp .ge 27, 3) := by decide +kernel
theorem dX5_isSameAs_20 : decode cX5_isSameAs 20 = .ok (.aload_n 0, 1) := by decide +kernel
theorem dX5_isSameAs_21 : decode cX5_isSameAs 21 = .ok (.getfield 11, 3) := by decide +kernel
theorem dX5_isSameAs_24 : decode cX5_isSameAs 24 = .ok (.iload_n 2, 1) := by decide +kernel
theorem dX5_isSameAs_25 : decode cX5_isSameAs 25 = .ok (.laload, 1) := by decide +kernel
theorem dX5_isSameAs_26 : decode cX5_isSameAs 26 = .ok (.aload_n 1, 1) := by decide +kernel
theorem dX5_isSameAs_27 : decode cX5_isSameAs 27 = .ok (.getfield 11, 3) := by decide +kernel
theorem dX5_isSameAs_30 : decode cX5_isSameAs 30 = .ok (.iload_n 2, 1) := by decide +kernel
theorem dX5_isSameAs_31 : decode cX5_isSameAs 31 = .ok (.laload, 1) := by decide +kernel
theorem dX5_isSameAs_32 : decode cX5_isSameAs 32 = .ok (.lcmp, 1) := by decide +kernel
theorem dX5_isSameAs_33 : decode cX5_isSameAs 33 = .ok (.ifCond .eq 5, 3) := by decide +kernel
theorem dX5_isSameAs_36 : decode cX5_isSameAs 36 = .ok (.iconst 0, 1) := by decide +kernel
theorem dX5_isSameAs_37 : decode cX5_isSameAs 37 = .ok (.ireturn, 1) := by decide +kernel
theorem dX5_isSameAs_38 : decode cX5_isSameAs 38 = .ok (.iinc 2 1, 3) := by decide +kernel
theorem dX5_isSameAs_41 : decode cX5_isSameAs 41 = .ok (.goto (-39), 3) := by decide +kernel
theorem dX5_isSameAs_44 : decode cX5_isSameAs 44 = .ok (.iconst 1, 1) := by decide +kernel
theorem dX5_isSameAs_45 : decode cX5_isSameAs 45 = .ok (.ireturn, 1) := by decide +kernel
theorem dX6_init_0 : decode cX6_init 0 = .ok (.aload_n 0, 1) := by decide +kernel
theorem dX6_init_1 : decode cX6_init 1 = .ok (.invokespecial 3, 3) := by decide +kernel
theorem dX6_init_4 : decode cX6_init 4 = .ok (.aload_n 0, 1) := by decide +kernel
theorem dX6_init_5 : decode cX6_init 5 = .ok (.aload_n 1, 1) := by decide +kernel
theorem dX6_init_6 : decode cX6_init 6 = .ok (.putfield 9, 3) := by decide +kernel
theorem dX6_init_9 : decode cX6_init 9 = .ok (.aload_n 0, 1) := by decide +kernel
theorem dX6_init_10 : decode cX6_init 10 = .ok (.iload_n 2, 1) := by decide +kernel
theorem dX6_init_11 : decode cX6_init 11 = .ok (.putfield 15, 3) := by decide +kernel
theorem dX6_init_14 : decode cX6_init 14 = .ok (.return_, 1) := by decide +kernel
set_option maxRecDepth 20000 in
theorem ggX6_readInto_X6_readRing : GoodIn wsX6_readInto wsX6_readRing := goodIn_r _ [7, 1, 8, 9, 10, 6, 11, 2, 12, 13, 14, 15, 16, 17, 18, 19, 20, 21, 22, 23, 24, 72, 73, 74, 75, 76, 77, 78, 79, 80] (by decide +kernel) (by decide +kernel)
set_option maxRecDepth 20000 in
theorem gX6_readInto_X6_readRing : GoodIn wsX6_readInto (wsV RX6 19 RX6 yX6_readRing wsX6_readRing) := goodIn_app (goodIn_of _ (by decide +kernel)) ggX6_readInto_X6_readRing
set_option maxRecDepth 20000 in
theorem ggX6_readInto_X6_readPart : GoodIn wsX6_readInto wsX6_readPart := goodIn_r _ [28, 29, 8, 9, 10, 6, 11, 1, 2, 12, 30, 31, 32, 20, 33, 23, 34, 35, 36, 37, 38, 13, 14, 15, 16, 39, 40, 41, 42, 43, 44, 45, 46, 47, 48, 49, 50, 51, 52, 53, 54, 55, 56, 57, 58, 59, 60, 61, 62, 63, 64, 65, 24, 66, 67, 68, 69, 70, 71, 75, 76, 77, 78, 79, 80, 72, 73, 74, 81, 82, 83, 84] (by decide +kernel) (by decide +kernel)
set_option maxRecDepth 20000 in
theorem gX6_readInto_X6_readPart : GoodIn wsX6_readInto (wsV RX6 26 RX6 yX6_readPart wsX6_readPart) := goodIn_app (goodIn_of _ (by decide +kernel)) ggX6_readInto_X6_readPart
theorem dX6_readInto_0 : decode cX6_readInto 0 = .ok (.aload_n 0, 1) := by decide +kernel
theorem dX6_readInto_1 : decode cX6_readInto 1 = .ok (.aload_n 1, 1) := by decide +kernel
theorem dX6_readInto_2 : decode cX6_readInto 2 = .ok (.invokevirtual 19, 3) := by decide +kernel
theorem dX6_readInto_5 : decode cX6_readInto 5 = .ok (.ifCond .ne 8, 3) := by decide +kernel
theorem dX6_readInto_8 : decode cX6_readInto 8 = .ok (.aload_n 0, 1) := by decide +kernel
theorem dX6_readInto_9 : decode cX6_readInto 9 = .ok (.getfield 23, 3) := by decide +kernel
theorem dX6_readInto_12 : decode cX6_readInto 12 = .ok (.ireturn, 1) := by decide +kernel
theorem dX6_readInto_13 : decode cX6_readInto 13 = .ok (.iconst 0, 1) := by decide +kernel
theorem dX6_readInto_14 : decode cX6_readInto 14 = .ok (.istore_n 2, 1) := by decide +kernel
theorem dX6_readInto_15 : decode cX6_readInto 15 = .ok (.iload_n 2, 1) := by decide +kernel
theorem dX6_readInto_16 : decode cX6_readInto 16 = .ok (.bipush 100, 2) := by decide +kernel
theorem dX6_readInto_18 : decode cX6_readInto 18 = .ok (.if_icmp .ge 33, 3) := by decide +kernel
theorem dX6_readInto_21 : decode cX6_readInto 21 = .ok (.aload_n 0, 1) := by decide +kernel
theorem dX6_readInto_22 : decode cX6_readInto 22 = .ok (.getfield 23, 3) := by decide +kernel
theorem dX6_readInto_25 : decode cX6_readInto 25 = .ok (.aload_n 0, 1) := by decide +kernel
theorem dX6_readInto_26 : decode cX6_readInto 26 = .ok (.getfield 15, 3) := by decide +kernel
theorem dX6_readInto_29 : decode cX6_readInto 29 = .ok (.if_icmp .ge 22, 3) := by decide +kernel
theorem dX6_readInto_32 : decode cX6_readInto 32 = .ok (.aload_n 0, 1) := by decide +kernel
theorem dX6_readInto_33 : decode cX6_readInto 33 = .ok (.aload_n 1, 1) := by decide +kernel
theorem dX6_readInto_34 : decode cX6_readInto 34 = .ok (.invokevirtual 26, 3) := by decide +kernel
theorem dX6_readInto_37 : decode cX6_readInto 37 = .ok (.ifCond .ne 8, 3) := by decide +kernel
theorem dX6_readInto_40 : decode cX6_readInto 40 = .ok (.aload_n 0, 1) := by decide +kernel
theorem dX6_readInto_41 : decode cX6_readInto 41 = .ok (.getfield 23, 3) := by decide +kernel
theorem dX6_readInto_44 : decode cX6_readInto 44 = .ok (.ireturn, 1) := by decide +kernel
theorem dX6_readInto_45 : decode cX6_readInto 45 = .ok (.iinc 2 1, 3) := by decide +kernel
theorem dX6_readInto_48 : decode cX6_readInto 48 = .ok (.goto (-33), 3) := by decide +kernel
theorem dX6_readInto_51 : decode cX6_readInto 51 = .ok (.bipush (-9), 2) := by decide +kernel
theorem dX6_readInto_53 : decode cX6_readInto 53 = .ok (.ireturn, 1) := by decide +kernel
theorem dX6_next_0 : decode cX6_next 0 = .ok (.aload_n 0, 1) := by decide +kernel
theorem dX6_next_1 : decode cX6_next 1 = .ok (.getfield 23, 3) := by decide +kernel
theorem dX6_next_4 : decode cX6_next 4 = .ok (.ifCond .lt 38, 3) := by decide +kernel
theorem dX6_next_7 : decode cX6_next 7 = .ok (.aload_n 0, 1) := by decide +kernel
theorem dX6_next_8 : decode cX6_next 8 = .ok (.getfield 23, 3) := by decide +kernel
theorem dX6_next_11 : decode cX6_next 11 = .ok (.aload_n 0, 1) := by decide +kernel
theorem dX6_next_12 : decode cX6_next 12 = .ok (.getfield 15, 3) := by decide +kernel
theorem dX6_next_15 : decode cX6_next 15 = .ok (.if_icmp .ge 27, 3) := by decide +kernel
theorem dX6_next_18 : decode cX6_next 18 = .ok (.aload_n 0, 1) := by decide +kernel
theorem dX6_next_19 : decode cX6_next 19 = .ok (.getfield 23, 3) := by decide +kernel
theorem dX6_next_22 : decode cX6_next 22 = .ok (.aload_n 0, 1) := by decide +kernel
theorem dX6_next_23 : decode cX6_next 23 = .ok (.getfield 9, 3) := by decide +kernel
theorem dX6_next_26 : decode cX6_next 26 = .ok (.arraylength, 1) := by decide +kernel
theorem dX6_next_27 : decode cX6_next 27 = .ok (.if_icmp .ge 15, 3) := by decide +kernel
theorem dX6_next_30 : decode cX6_next 30 = .ok (.aload_n 0, 1) := by decide +kernel
theorem dX6_next_31 : decode cX6_next 31 = .ok (.getfield 9, 3) := by decide +kernel
theorem dX6_next_34 : decode cX6_next 34 = .ok (.aload_n 0, 1) := by decide +kernel
theorem dX6_next_35 : decode cX6_next 35 = .ok (.getfield 23, 3) := by decide +kernel
theorem dX6_next_38 : decode cX6_next 38 = .ok (.caload, 1) := by decide +kernel
theorem dX6_next_39 : decode cX6_next 39 = .ok (.goto 5, 3) := by decide +kernel
theorem dX6_next_42 : decode cX6_next 42 = .ok (.bipush (-9), 2) := by decide +kernel
theorem dX6_next_44 : decode cX6_next 44 = .ok (.ireturn, 1) := by decide +kernel
set_option maxRecDepth 20000 in
theorem ggX6_readRing_X6_next : GoodIn wsX6_readRing wsX6_next := goodIn_r _ [6, 1, 7, 8, 21, 22, 23] (by decide +kernel) (by decide +kernel)
set_option maxRecDepth 20000 in
theorem gX6_readRing_X6_next : GoodIn wsX6_readRing (wsV RX6 29 RX6 yX6_next wsX6_next) := goodIn_app (goodIn_of _ (by decide +kernel)) ggX6_readRing_X6_next
set_option maxRecDepth 20000 in
theorem ggX6_readRing_X6_readNumber : GoodIn wsX6_readRing wsX6_readNumber := goodIn_r _ [12, 1, 2, 3, 4, 5, 6, 7, 8, 21, 22, 23] (by decide +kernel) (by decide +kernel)
set_option maxRecDepth 20000 in
theorem gX6_readRing_X6_readNumber : GoodIn wsX6_readRing (wsV RX6 33 RX6 yX6_readNumber wsX6_readNumber) := goodIn_app (goodIn_of _ (by decide +kernel)) ggX6_readRing_X6_readNumber
set_option maxRecDepth 20000 in
theorem ggX6_readRing_X4_empty : GoodIn wsX6_readRing wsX4_empty := goodIn_r _ [17, 18, 19, 20, 24, 25, 26, 27, 28, 29] (by decide +kernel) (by decide +kernel)
set_option maxRecDepth 20000 in
theorem gX6_readRing_X4_empty : GoodIn wsX6_readRing (wsV RX6 37 RX4 yX4_empty wsX4_empty) := goodIn_app (goodIn_of _ (by decide +kernel)) ggX6_readRing_X4_empty
theorem dX6_readRing_0 : decode cX6_readRing 0 = .ok (.aload_n 0, 1) := by decide +kernel
theorem dX6_readRing_1 : decode cX6_readRing 1 = .ok (.invokevirtual 29, 3) := by decide +kernel
theorem dX6_readRing_4 : decode cX6_readRing 4 = .ok (.bipush 69, 2) := by decide +kernel
theorem dX6_readRing_6 : decode cX6_readRing 6 = .ok (.if_icmp .eq 5, 3) := by decide +kernel
theorem dX6_readRing_9 : decode cX6_readRing 9 = .ok (.iconst 0, 1) := by decide +kernel
theorem dX6_readRing_10 : decode cX6_readRing 10 = .ok (.ireturn, 1) := by decide +kernel
theorem dX6_readRing_11 : decode cX6_readRing 11 = .ok (.aload_n 0, 1) := by decide +kernel
theorem dX6_readRing_12 : decode cX6_readRing 12 = .ok (.dup, 1) := by decide +kernel
theorem dX6_readRing_13 : decode cX6_readRing 13 = .ok (.getfield 23, 3) := by decide +kernel
theorem dX6_readRing_16 : decode cX6_readRing 16 = .ok (.iconst 1, 1) := by decide +kernel
theorem dX6_readRing_17 : decode cX6_readRing 17 = .ok (.iadd, 1) := by decide +kernel
theorem dX6_readRing_18 : decode cX6_readRing 18 = .ok (.putfield 23, 3) := by decide +kernel
theorem dX6_readRing_21 : decode cX6_readRing 21 = .ok (.aload_n 0, 1) := by decide +kernel
theorem dX6_readRing_22 : decode cX6_readRing 22 = .ok (.iconst 2, 1) := by decide +kernel
theorem dX6_readRing_23 : decode cX6_readRing 23 = .ok (.bipush 12, 2) := by decide +kernel
theorem dX6_readRing_25 : decode cX6_readRing 25 = .ok (.bipush 96, 2) := by decide +kernel
theorem dX6_readRing_27 : decode cX6_readRing 27 = .ok (.invokevirtual 33, 3) := by decide +kernel
theorem dX6_readRing_30 : decode cX6_readRing 30 = .ok (.istore_n 2, 1) := by decide +kernel
theorem dX6_readRing_31 : decode cX6_readRing 31 = .ok (.iload_n 2, 1) := by decide +kernel
theorem dX6_readRing_32 : decode cX6_readRing 32 = .ok (.iconst (-1), 1) := by decide +kernel
theorem dX6_readRing_33 : decode cX6_readRing 33 = .ok (.if_icmp .ne 5, 3) := by decide +kernel
theorem dX6_readRing_36 : decode cX6_readRing 36 = .ok (.iconst 0, 1) := by decide +kernel
theorem dX6_readRing_37 : decode cX6_readRing 37 = .ok (.ireturn, 1) := by decide +kernel
theorem dX6_readRing_38 : decode cX6_readRing 38 = .ok (.aload_n 1, 1) := by decide +kernel
theorem dX6_readRing_39 : decode cX6_readRing 39 = .ok (.iload_n 2, 1) := by decide +kernel
theorem dX6_readRing_40 : decode cX6_readRing 40 = .ok (.invokevirtual 37, 3) := by decide +kernel
theorem dX6_readRing_43 : decode cX6_readRing 43 = .ok (.iconst 1, 1) := by decide +kernel
theorem dX6_readRing_44 : decode cX6_readRing 44 = .ok (.ireturn, 1) := by decide +kernel
set_option maxRecDepth 20000 in
theorem ggX6_readPart_X6_next : GoodIn wsX6_readPart wsX6_next := goodIn_r _ [6, 7, 8, 9, 65, 66, 67] (by decide +kernel) (by decide +kernel)
set_option maxRecDepth 20000 in
theorem gX6_readPart_X6_next : GoodIn wsX6_readPart (wsV RX6 29 RX6 yX6_next wsX6_next) := goodIn_app (goodIn_of _ (by decide +kernel)) ggX6_readPart_X6_next
set_option maxRecDepth 20000 in
theorem ggX6_readPart_X4_isFull : GoodIn wsX6_readPart wsX4_isFull := goodIn_r _ [14, 15, 59, 60, 61, 62, 63, 64] (by decide +kernel) (by decide +kernel)
set_option maxRecDepth 20000 in
theorem gX6_readPart_X4_isFull : GoodIn wsX6_readPart (wsV RX6 43 RX4 yX4_isFull wsX4_isFull) := goodIn_app (goodIn_of _ (by decide +kernel)) ggX6_readPart_X4_isFull
set_option maxRecDepth 20000 in
theorem ggX6_readPart_X6_readLayer : GoodIn wsX6_readPart wsX6_readLayer := goodIn_r _ [19, 7, 20, 21, 22, 23, 5, 24, 2, 3, 4, 6, 8, 9, 25, 26, 27, 13, 28, 15, 29, 11, 12, 14, 30, 31, 32, 33, 34, 35, 36, 37, 38, 39, 40, 41, 42, 43, 65, 66, 67, 59, 60, 61, 62, 63, 64, 68, 69, 70, 71] (by decide +kernel) (by decide +kernel)
set_option maxRecDepth 20000 in
theorem gX6_readPart_X6_readLayer : GoodIn wsX6_readPart (wsV RX6 47 RX6 yX6_readLayer wsX6_readLayer) := goodIn_app (goodIn_of _ (by decide +kernel)) ggX6_readPart_X6_readLayer
set_option maxRecDepth 20000 in
theorem ggX6_readPart_X6_readSighting : GoodIn wsX6_readPart wsX6_readSighting := goodIn_r _ [47, 7, 20, 21, 22, 23, 5, 24, 2, 3, 4, 6, 8, 9, 48, 49, 50, 13, 51, 52, 53, 54, 55, 56, 57, 58, 65, 66, 67, 59, 60, 61, 62, 63, 64] (by decide +kernel) (by decide +kernel)
set_option maxRecDepth 20000 in
theorem gX6_readPart_X6_readSighting : GoodIn wsX6_readPart (wsV RX6 54 RX6 yX6_readSighting wsX6_readSighting) := goodIn_app (goodIn_of _ (by decide +kernel)) ggX6_readPart_X6_readSighting
theorem dX6_readPart_0 : decode cX6_readPart 0 = .ok (.aload_n 0, 1) := by decide +kernel
theorem dX6_readPart_1 : decode cX6_readPart 1 = .ok (.invokevirtual 29, 3) := by decide +kernel
theorem dX6_readPart_4 : decode cX6_readPart 4 = .ok (.lookupswitch 103 #[(105, 36), (111, 58), (115, 80)], 36) := by decide +kernel
theorem dX6_readPart_40 : decode cX6_readPart 40 = .ok (.aload_n 1, 1) := by decide +kernel
theorem dX6_readPart_41 : decode cX6_readPart 41 = .ok (.invokevirtual 43, 3) := by decide +kernel
theorem dX6_readPart_44 : decode cX6_readPart 44 = .ok (.ifCond .ne 16, 3) := by decide +kernel
theorem dX6_readPart_47 : decode cX6_readPart 47 = .ok (.aload_n 0, 1) := by decide +kernel
theorem dX6_readPart_48 : decode cX6_readPart 48 = .ok (.aload_n 1, 1) := by decide +kernel
theorem dX6_readPart_49 : decode cX6_readPart 49 = .ok (.iconst 0, 1) := by decide +kernel
theorem dX6_readPart_50 : decode cX6_readPart 50 = .ok (.invokevirtual 47, 3) := by decide +kernel
theorem dX6_readPart_53 : decode cX6_readPart 53 = .ok (.ifCond .eq 7, 3) := by decide +kernel
theorem dX6_readPart_56 : decode cX6_readPart 56 = .ok (.iconst 1, 1) := by decide +kernel
theorem dX6_readPart_57 : decode cX6_readPart 57 = .ok (.goto 4, 3) := by decide +kernel
theorem dX6_readPart_60 : decode cX6_readPart 60 = .ok (.iconst 0, 1) := by decide +kernel
theorem dX6_readPart_61 : decode cX6_readPart 61 = .ok (.ireturn, 1) := by decide +kernel
theorem dX6_readPart_62 : decode cX6_readPart 62 = .ok (.aload_n 1, 1) := by decide +kernel
theorem dX6_readPart_63 : decode cX6_readPart 63 = .ok (.invokevirtual 43, 3) := by decide +kernel
theorem dX6_readPart_66 : decode cX6_readPart 66 = .ok (.ifCond .ne 16, 3) := by decide +kernel
theorem dX6_readPart_69 : decode cX6_readPart 69 = .ok (.aload_n 0, 1) := by decide +kernel
theorem dX6_readPart_70 : decode cX6_readPart 70 = .ok (.aload_n 1, 1) := by decide +kernel
theorem dX6_readPart_71 : decode cX6_readPart 71 = .ok (.iconst 1, 1) := by decide +kernel
theorem dX6_readPart_72 : decode cX6_readPart 72 = .ok (.invokevirtual 47, 3) := by decide +kernel
theorem dX6_readPart_75 : decode cX6_readPart 75 = .ok (.ifCond .eq 7, 3) := by decide +kernel
theorem dX6_readPart_78 : decode cX6_readPart 78 = .ok (.iconst 1, 1) := by decide +kernel
theorem dX6_readPart_79 : decode cX6_readPart 79 = .ok (.goto 4, 3) := by decide +kernel
theorem dX6_readPart_82 : decode cX6_readPart 82 = .ok (.iconst 0, 1) := by decide +kernel
theorem dX6_readPart_83 : decode cX6_readPart 83 = .ok (.ireturn, 1) := by decide +kernel
theorem dX6_readPart_84 : decode cX6_readPart 84 = .ok (.aload_n 1, 1) := by decide +kernel
theorem dX6_readPart_85 : decode cX6_readPart 85 = .ok (.getfield 51, 3) := by decide +kernel
theorem dX6_readPart_88 : decode cX6_readPart 88 = .ok (.bipush 8, 2) := by decide +kernel
theorem dX6_readPart_90 : decode cX6_readPart 90 = .ok (.if_icmp .ge 15, 3) := by decide +kernel
theorem dX6_readPart_93 : decode cX6_readPart 93 = .ok (.aload_n 0, 1) := by decide +kernel
theorem dX6_readPart_94 : decode cX6_readPart 94 = .ok (.aload_n 1, 1) := by decide +kernel
theorem dX6_readPart_95 : decode cX6_readPart 95 = .ok (.invokevirtual 54, 3) := by decide +kernel
theorem dX6_readPart_98 : decode cX6_readPart 98 = .ok (.ifCond .eq 7, 3) := by decide +kernel
theorem dX6_readPart_101 : decode cX6_readPart 101 = .ok (.iconst 1, 1) := by decide +kernel
theorem dX6_readPart_102 : decode cX6_readPart 102 = .ok (.goto 4, 3) := by decide +kernel
theorem dX6_readPart_105 : decode cX6_readPart 105 = .ok (.iconst 0, 1) := by decide +kernel
theorem dX6_readPart_106 : decode cX6_readPart 106 = .ok (.ireturn, 1) := by decide +kernel
theorem dX6_readPart_107 : decode cX6_readPart 107 = .ok (.iconst 0, 1) := by decide +kernel
theorem dX6_readPart_108 : decode cX6_readPart 108 = .ok (.ireturn, 1) := by decide +kernel
set_option maxRecDepth 20000 in
theorem ggX6_readLayer_X6_readNumber : GoodIn wsX6_readLayer wsX6_readNumber := goodIn_r _ [7, 1, 8, 9, 10, 6, 11, 12, 13, 38, 39, 40] (by decide +kernel) (by decide +kernel)
set_option maxRecDepth 20000 in
theorem gX6_readLayer_X6_readNumber : GoodIn wsX6_readLayer (wsV RX6 33 RX6 yX6_readNumber wsX6_readNumber) := goodIn_app (goodIn_of _ (by decide +kernel)) ggX6_readLayer_X6_readNumber
set_option maxRecDepth 20000 in
theorem ggX6_readLayer_X4_putLayer : GoodIn wsX6_readLayer wsX4_putLayer := goodIn_r _ [18, 19, 20, 21, 22, 17, 23, 24, 25, 26, 27, 28, 29, 30, 31, 32, 33, 34, 35, 36, 37, 41, 42, 43, 44, 45, 46, 47, 48, 49, 50] (by decide +kernel) (by decide +kernel)
set_option maxRecDepth 20000 in
theorem gX6_readLayer_X4_putLayer : GoodIn wsX6_readLayer (wsV RX6 60 RX4 yX4_putLayer wsX4_putLayer) := goodIn_app (goodIn_of _ (by decide +kernel)) ggX6_readLayer_X4_putLayer
theorem dX6_readLayer_0 : decode cX6_readLayer 0 = .ok (.aload_n 0, 1) := by decide +kernel
theorem dX6_readLayer_1 : decode cX6_readLayer 1 = .ok (.dup, 1) := by decide +kernel
theorem dX6_readLayer_2 : decode cX6_readLayer 2 = .ok (.getfield 23, 3) := by decide +kernel
theorem dX6_readLayer_5 : decode cX6_readLayer 5 = .ok (.iconst 1, 1) := by decide +kernel
theorem dX6_readLayer_6 : decode cX6_readLayer 6 = .ok (.iadd, 1) := by decide +kernel
theorem dX6_readLayer_7 : decode cX6_readLayer 7 = .ok (.putfield 23, 3) := by decide +kernel
theorem dX6_readLayer_10 : decode cX6_readLayer 10 = .ok (.aload_n 0, 1) := by decide +kernel
theorem dX6_readLayer_11 : decode cX6_readLayer 11 = .ok (.iconst 2, 1) := by decide +kernel
theorem dX6_readLayer_12 : decode cX6_readLayer 12 = .ok (.iconst 5, 1) := by decide +kernel
theorem dX6_readLayer_13 : decode cX6_readLayer 13 = .ok (.bipush 60, 2) := by decide +kernel
theorem dX6_readLayer_15 : decode cX6_readLayer 15 = .ok (.invokevirtual 33, 3) := by decide +kernel
theorem dX6_readLayer_18 : decode cX6_readLayer 18 = .ok (.istore_n 3, 1) := by decide +kernel
theorem dX6_readLayer_19 : decode cX6_readLayer 19 = .ok (.iload_n 3, 1) := by decide +kernel
theorem dX6_readLayer_20 : decode cX6_readLayer 20 = .ok (.iconst (-1), 1) := by decide +kernel
theorem dX6_readLayer_21 : decode cX6_readLayer 21 = .ok (.if_icmp .ne 5, 3) := by decide +kernel
theorem dX6_readLayer_24 : decode cX6_readLayer 24 = .ok (.iconst 0, 1) := by decide +kernel
theorem dX6_readLayer_25 : decode cX6_readLayer 25 = .ok (.ireturn, 1) := by decide +kernel
theorem dX6_readLayer_26 : decode cX6_readLayer 26 = .ok (.aload_n 0, 1) := by decide +kernel
theorem dX6_readLayer_27 : decode cX6_readLayer 27 = .ok (.iconst 2, 1) := by decide +kernel
theorem dX6_readLayer_28 : decode cX6_readLayer 28 = .ok (.iconst 0, 1) := by decide +kernel
theorem dX6_readLayer_29 : decode cX6_readLayer 29 = .ok (.bipush 20, 2) := by decide +kernel
theorem dX6_readLayer_31 : decode cX6_readLayer 31 = .ok (.invokevirtual 33, 3) := by decide +kernel
theorem dX6_readLayer_34 : decode cX6_readLayer 34 = .ok (.istore 4, 2) := by decide +kernel
theorem dX6_readLayer_36 : decode cX6_readLayer 36 = .ok (.iload 4, 2) := by decide +kernel
theorem dX6_readLayer_38 : decode cX6_readLayer 38 = .ok (.iconst (-1), 1) := by decide +kernel
theorem dX6_readLayer_39 : decode cX6_readLayer 39 = .ok (.if_icmp .ne 5, 3) := by decide +kernel
theorem dX6_readLayer_42 : decode cX6_readLayer 42 = .ok (.iconst 0, 1) := by decide +kernel
theorem dX6_readLayer_43 : decode cX6_readLayer 43 = .ok (.ireturn, 1) := by decide +kernel
theorem dX6_readLayer_44 : decode cX6_readLayer 44 = .ok (.aload_n 0, 1) := by decide +kernel
theorem dX6_readLayer_45 : decode cX6_readLayer 45 = .ok (.iconst 2, 1) := by decide +kernel
theorem dX6_readLayer_46 : decode cX6_readLayer 46 = .ok (.iconst 0, 1) := by decide +kernel
theorem dX6_readLayer_47 : decode cX6_readLayer 47 = .ok (.aload_n 1, 1) := by decide +kernel
theorem dX6_readLayer_48 : decode cX6_readLayer 48 = .ok (.getfield 57, 3) := by decide +kernel
theorem dX6_readLayer_51 : decode cX6_readLayer 51 = .ok (.iconst 1, 1) := by decide +kernel
theorem dX6_readLayer_52 : decode cX6_readLayer 52 = .ok (.isub, 1) := by decide +kernel
theorem dX6_readLayer_53 : decode cX6_readLayer 53 = .ok (.invokevirtual 33, 3) := by decide +kernel
theorem dX6_readLayer_56 : decode cX6_readLayer 56 = .ok (.istore 5, 2) := by decide +kernel
theorem dX6_readLayer_58 : decode cX6_readLayer 58 = .ok (.iload 5, 2) := by decide +kernel
theorem dX6_readLayer_60 : decode cX6_readLayer 60 = .ok (.iconst (-1), 1) := by decide +kernel
theorem dX6_readLayer_61 : decode cX6_readLayer 61 = .ok (.if_icmp .ne 5, 3) := by decide +kernel
theorem dX6_readLayer_64 : decode cX6_readLayer 64 = .ok (.iconst 0, 1) := by decide +kernel
theorem dX6_readLayer_65 : decode cX6_readLayer 65 = .ok (.ireturn, 1) := by decide +kernel
theorem dX6_readLayer_66 : decode cX6_readLayer 66 = .ok (.aload_n 1, 1) := by decide +kernel
theorem dX6_readLayer_67 : decode cX6_readLayer 67 = .ok (.iload_n 3, 1) := by decide +kernel
theorem dX6_readLayer_68 : decode cX6_readLayer 68 = .ok (.iload_n 2, 1) := by decide +kernel
theorem dX6_readLayer_69 : decode cX6_readLayer 69 = .ok (.iload 4, 2) := by decide +kernel
theorem dX6_readLayer_71 : decode cX6_readLayer 71 = .ok (.iload 5, 2) := by decide +kernel
theorem dX6_readLayer_73 : decode cX6_readLayer 73 = .ok (.invokevirtual 60, 3) := by decide +kernel
theorem dX6_readLayer_76 : decode cX6_readLayer 76 = .ok (.iconst 1, 1) := by decide +kernel
theorem dX6_readLayer_77 : decode cX6_readLayer 77 = .ok (.ireturn, 1) := by decide +kernel
set_option maxRecDepth 20000 in
theorem ggX6_readSighting_X6_readNumber : GoodIn wsX6_readSighting wsX6_readNumber := goodIn_r _ [7, 1, 8, 9, 10, 6, 11, 12, 13, 26, 27, 28] (by decide +kernel) (by decide +kernel)
set_option maxRecDepth 20000 in
theorem gX6_readSighting_X6_readNumber : GoodIn wsX6_readSighting (wsV RX6 33 RX6 yX6_readNumber wsX6_readNumber) := goodIn_app (goodIn_of _ (by decide +kernel)) ggX6_readSighting_X6_readNumber
set_option maxRecDepth 20000 in
theorem ggX6_readSighting_X4_note : GoodIn wsX6_readSighting wsX4_note := goodIn_r _ [18, 19, 20, 21, 22, 23, 24, 17, 25, 29, 30, 31, 32, 33, 34] (by decide +kernel) (by decide +kernel)
set_option maxRecDepth 20000 in
theorem gX6_readSighting_X4_note : GoodIn wsX6_readSighting (wsV RX6 64 RX4 yX4_note wsX4_note) := goodIn_app (goodIn_of _ (by decide +kernel)) ggX6_readSighting_X4_note
theorem dX6_readSighting_0 : decode cX6_readSighting 0 = .ok (.aload_n 0, 1) := by decide +kernel
theorem dX6_readSighting_1 : decode cX6_readSighting 1 = .ok (.dup, 1) := by decide +kernel
theorem dX6_readSighting_2 : decode cX6_readSighting 2 = .ok (.getfield 23, 3) := by decide +kernel
theorem dX6_readSighting_5 : decode cX6_readSighting 5 = .ok (.iconst 1, 1) := by decide +kernel
theorem dX6_readSighting_6 : decode cX6_readSighting 6 = .ok (.iadd, 1) := by decide +kernel
theorem dX6_readSighting_7 : decode cX6_readSighting 7 = .ok (.putfield 23, 3) := by decide +kernel
theorem dX6_readSighting_10 : decode cX6_readSighting 10 = .ok (.aload_n 0, 1) := by decide +kernel
theorem dX6_readSighting_11 : decode cX6_readSighting 11 = .ok (.iconst 2, 1) := by decide +kernel
theorem dX6_readSighting_12 : decode cX6_readSighting 12 = .ok (.iconst 0, 1) := by decide +kernel
theorem dX6_readSighting_13 : decode cX6_readSighting 13 = .ok (.aload_n 1, 1) := by decide +kernel
theorem dX6_readSighting_14 : decode cX6_readSighting 14 = .ok (.getfield 57, 3) := by decide +kernel
theorem dX6_readSighting_17 : decode cX6_readSighting 17 = .ok (.iconst 1, 1) := by decide +kernel
theorem dX6_readSighting_18 : decode cX6_readSighting 18 = .ok (.isub, 1) := by decide +kernel
theorem dX6_readSighting_19 : decode cX6_readSighting 19 = .ok (.invokevirtual 33, 3) := by decide +kernel
theorem dX6_readSighting_22 : decode cX6_readSighting 22 = .ok (.istore_n 2, 1) := by decide +kernel
theorem dX6_readSighting_23 : decode cX6_readSighting 23 = .ok (.iload_n 2, 1) := by decide +kernel
theorem dX6_readSighting_24 : decode cX6_readSighting 24 = .ok (.iconst (-1), 1) := by decide +kernel
theorem dX6_readSighting_25 : decode cX6_readSighting 25 = .ok (.if_icmp .ne 5, 3) := by decide +kernel
theorem dX6_readSighting_28 : decode cX6_readSighting 28 = .ok (.iconst 0, 1) := by decide +kernel
theorem dX6_readSighting_29 : decode cX6_readSighting 29 = .ok (.ireturn, 1) := by decide +kernel
theorem dX6_readSighting_30 : decode cX6_readSighting 30 = .ok (.aload_n 0, 1) := by decide +kernel
theorem dX6_readSighting_31 : decode cX6_readSighting 31 = .ok (.iconst 3, 1) := by decide +kernel
theorem dX6_readSighting_32 : decode cX6_readSighting 32 = .ok (.iconst 0, 1) := by decide +kernel
theorem dX6_readSighting_33 : decode cX6_readSighting 33 = .ok (.sipush 300, 3) := by decide +kernel
theorem dX6_readSighting_36 : decode cX6_readSighting 36 = .ok (.invokevirtual 33, 3) := by decide +kernel
theorem dX6_readSighting_39 : decode cX6_readSighting 39 = .ok (.istore_n 3, 1) := by decide +kernel
theorem dX6_readSighting_40 : decode cX6_readSighting 40 = .ok (.iload_n 3, 1) := by decide +kernel
theorem dX6_readSighting_41 : decode cX6_readSighting 41 = .ok (.iconst (-1), 1) := by decide +kernel
theorem dX6_readSighting_42 : decode cX6_readSighting 42 = .ok (.if_icmp .ne 5, 3) := by decide +kernel
theorem dX6_readSighting_45 : decode cX6_readSighting 45 = .ok (.iconst 0, 1) := by decide +kernel
theorem dX6_readSighting_46 : decode cX6_readSighting 46 = .ok (.ireturn, 1) := by decide +kernel
theorem dX6_readSighting_47 : decode cX6_readSighting 47 = .ok (.aload_n 1, 1) := by decide +kernel
theorem dX6_readSighting_48 : decode cX6_readSighting 48 = .ok (.iload_n 2, 1) := by decide +kernel
theorem dX6_readSighting_49 : decode cX6_readSighting 49 = .ok (.iload_n 3, 1) := by decide +kernel
theorem dX6_readSighting_50 : decode cX6_readSighting 50 = .ok (.invokevirtual 64, 3) := by decide +kernel
theorem dX6_readSighting_53 : decode cX6_readSighting 53 = .ok (.iconst 1, 1) := by decide +kernel
theorem dX6_readSighting_54 : decode cX6_readSighting 54 = .ok (.ireturn, 1) := by decide +kernel
set_option maxRecDepth 20000 in
theorem ggX6_readNumber_X6_next : GoodIn wsX6_readNumber wsX6_next := goodIn_r _ [6, 1, 7, 8, 9, 10, 11] (by decide +kernel) (by decide +kernel)
set_option maxRecDepth 20000 in
theorem gX6_readNumber_X6_next : GoodIn wsX6_readNumber (wsV RX6 29 RX6 yX6_next wsX6_next) := goodIn_app (goodIn_of _ (by decide +kernel)) ggX6_readNumber_X6_next
theorem dX6_readNumber_0 : decode cX6_readNumber 0 = .ok (.iconst 0, 1) := by decide +kernel
theorem dX6_readNumber_1 : decode cX6_readNumber 1 = .ok (.istore 4, 2) := by decide +kernel
theorem dX6_readNumber_3 : decode cX6_readNumber 3 = .ok (.iconst 1, 1) := by decide +kernel
theorem dX6_readNumber_4 : decode cX6_readNumber 4 = .ok (.istore 5, 2) := by decide +kernel
theorem dX6_readNumber_6 : decode cX6_readNumber 6 = .ok (.iconst 0, 1) := by decide +kernel
theorem dX6_readNumber_7 : decode cX6_readNumber 7 = .ok (.istore 6, 2) := by decide +kernel
theorem dX6_readNumber_9 : decode cX6_readNumber 9 = .ok (.iload 6, 2) := by decide +kernel
theorem dX6_readNumber_11 : decode cX6_readNumber 11 = .ok (.iload_n 1, 1) := by decide +kernel
theorem dX6_readNumber_12 : decode cX6_readNumber 12 = .ok (.if_icmp .ge 16, 3) := by decide +kernel
theorem dX6_readNumber_15 : decode cX6_readNumber 15 = .ok (.iload 5, 2) := by decide +kernel
theorem dX6_readNumber_17 : decode cX6_readNumber 17 = .ok (.bipush 10, 2) := by decide +kernel
theorem dX6_readNumber_19 : decode cX6_readNumber 19 = .ok (.imul, 1) := by decide +kernel
theorem dX6_readNumber_20 : decode cX6_readNumber 20 = .ok (.istore 5, 2) := by decide +kernel
theorem dX6_readNumber_22 : decode cX6_readNumber 22 = .ok (.iinc 6 1, 3) := by decide +kernel
theorem dX6_readNumber_25 : decode cX6_readNumber 25 = .ok (.goto (-16), 3) := by decide +kernel
theorem dX6_readNumber_28 : decode cX6_readNumber 28 = .ok (.iconst 0, 1) := by decide +kernel
theorem dX6_readNumber_29 : decode cX6_readNumber 29 = .ok (.istore 6, 2) := by decide +kernel
theorem dX6_readNumber_31 : decode cX6_readNumber 31 = .ok (.iload 6, 2) := by decide +kernel
theorem dX6_readNumber_33 : decode cX6_readNumber 33 = .ok (.iload_n 1, 1) := by decide +kernel
theorem dX6_readNumber_34 : decode cX6_readNumber 34 = .ok (.if_icmp .ge 78, 3) := by decide +kernel
theorem dX6_readNumber_37 : decode cX6_readNumber 37 = .ok (.aload_n 0, 1) := by decide +kernel
theorem dX6_readNumber_38 : decode cX6_readNumber 38 = .ok (.invokevirtual 29, 3) := by decide +kernel
theorem dX6_readNumber_41 : decode cX6_readNumber 41 = .ok (.bipush 48, 2) := by decide +kernel
theorem dX6_readNumber_43 : decode cX6_readNumber 43 = .ok (.isub, 1) := by decide +kernel
theorem dX6_readNumber_44 : decode cX6_readNumber 44 = .ok (.istore 7, 2) := by decide +kernel
theorem dX6_readNumber_46 : decode cX6_readNumber 46 = .ok (.iload 7, 2) := by decide +kernel
theorem dX6_readNumber_48 : decode cX6_readNumber 48 = .ok (.ifCond .lt 10, 3) := by decide +kernel
theorem dX6_readNumber_51 : decode cX6_readNumber 51 = .ok (.iload 7, 2) := by decide +kernel
theorem dX6_readNumber_53 : decode cX6_readNumber 53 = .ok (.bipush 9, 2) := by decide +kernel
theorem dX6_readNumber_55 : decode cX6_readNumber 55 = .ok (.if_icmp .le 5, 3) := by decide +kernel
theorem dX6_readNumber_58 : decode cX6_readNumber 58 = .ok (.iconst (-1), 1) := by decide +kernel
theorem dX6_readNumber_59 : decode cX6_readNumber 59 = .ok (.ireturn, 1) := by decide +kernel
theorem dX6_readNumber_60 : decode cX6_readNumber 60 = .ok (.iload 5, 2) := by decide +kernel
theorem dX6_readNumber_62 : decode cX6_readNumber 62 = .ok (.bipush 10, 2) := by decide +kernel
theorem dX6_readNumber_64 : decode cX6_readNumber 64 = .ok (.idiv, 1) := by decide +kernel
theorem dX6_readNumber_65 : decode cX6_readNumber 65 = .ok (.istore 5, 2) := by decide +kernel
theorem dX6_readNumber_67 : decode cX6_readNumber 67 = .ok (.iload 4, 2) := by decide +kernel
theorem dX6_readNumber_69 : decode cX6_readNumber 69 = .ok (.iload 7, 2) := by decide +kernel
theorem dX6_readNumber_71 : decode cX6_readNumber 71 = .ok (.iload 5, 2) := by decide +kernel
theorem dX6_readNumber_73 : decode cX6_readNumber 73 = .ok (.imul, 1) := by decide +kernel
theorem dX6_readNumber_74 : decode cX6_readNumber 74 = .ok (.iadd, 1) := by decide +kernel
theorem dX6_readNumber_75 : decode cX6_readNumber 75 = .ok (.istore 4, 2) := by decide +kernel
theorem dX6_readNumber_77 : decode cX6_readNumber 77 = .ok (.iload 4, 2) := by decide +kernel
theorem dX6_readNumber_79 : decode cX6_readNumber 79 = .ok (.iload_n 3, 1) := by decide +kernel
theorem dX6_readNumber_80 : decode cX6_readNumber 80 = .ok (.if_icmp .gt 14, 3) := by decide +kernel
theorem dX6_readNumber_83 : decode cX6_readNumber 83 = .ok (.iload 4, 2) := by decide +kernel
theorem dX6_readNumber_85 : decode cX6_readNumber 85 = .ok (.iload 5, 2) := by decide +kernel
theorem dX6_readNumber_87 : decode cX6_readNumber 87 = .ok (.iadd, 1) := by decide +kernel
theorem dX6_readNumber_88 : decode cX6_readNumber 88 = .ok (.iconst 1, 1) := by decide +kernel
theorem dX6_readNumber_89 : decode cX6_readNumber 89 = .ok (.isub, 1) := by decide +kernel
theorem dX6_readNumber_90 : decode cX6_readNumber 90 = .ok (.iload_n 2, 1) := by decide +kernel
theorem dX6_readNumber_91 : decode cX6_readNumber 91 = .ok (.if_icmp .ge 5, 3) := by decide +kernel
theorem dX6_readNumber_94 : decode cX6_readNumber 94 = .ok (.iconst (-1), 1) := by decide +kernel
theorem dX6_readNumber_95 : decode cX6_readNumber 95 = .ok (.ireturn, 1) := by decide +kernel
theorem dX6_readNumber_96 : decode cX6_readNumber 96 = .ok (.aload_n 0, 1) := by decide +kernel
theorem dX6_readNumber_97 : decode cX6_readNumber 97 = .ok (.dup, 1) := by decide +kernel
theorem dX6_readNumber_98 : decode cX6_readNumber 98 = .ok (.getfield 23, 3) := by decide +kernel
theorem dX6_readNumber_101 : decode cX6_readNumber 101 = .ok (.iconst 1, 1) := by decide +kernel
theorem dX6_readNumber_102 : decode cX6_readNumber 102 = .ok (.iadd, 1) := by decide +kernel
theorem dX6_readNumber_103 : decode cX6_readNumber 103 = .ok (.putfield 23, 3) := by decide +kernel
theorem dX6_readNumber_106 : decode cX6_readNumber 106 = .ok (.iinc 6 1, 3) := by decide +kernel
theorem dX6_readNumber_109 : decode cX6_readNumber 109 = .ok (.goto (-78), 3) := by decide +kernel
theorem dX6_readNumber_112 : decode cX6_readNumber 112 = .ok (.iload 4, 2) := by decide +kernel
theorem dX6_readNumber_114 : decode cX6_readNumber 114 = .ok (.ireturn, 1) := by decide +kernel
set_option maxRecDepth 20000 in
theorem ggX7_init_X4_init : GoodIn wsX7_init wsX4_init := goodIn_r _ [24, 25, 2, 3, 26, 27, 28, 29, 30, 31, 32, 33, 34, 35, 36, 37, 38, 72, 73, 74, 75, 76, 77, 84, 85, 86, 87] (by decide +kernel) (by decide +kernel)
set_option maxRecDepth 20000 in
theorem gX7_init_X4_init : GoodIn wsX7_init (wsX4_init) := ggX7_init_X4_init
set_option maxRecDepth 20000 in
theorem ggX7_init_X2_init : GoodIn wsX7_init wsX2_init := goodIn_r _ [41, 42, 2, 3, 43, 44, 7, 8, 45, 23, 24, 25, 26, 27, 28, 29, 30, 31, 32, 33, 34, 35, 36, 37, 38, 78, 79, 80, 72, 73, 74, 75, 76, 77, 84, 85, 86, 87] (by decide +kernel) (by decide +kernel)
set_option maxRecDepth 20000 in
theorem gX7_init_X2_init : GoodIn wsX7_init (wsX2_init) := ggX7_init_X2_init
set_option maxRecDepth 20000 in
theorem ggX7_init_X0_init : GoodIn wsX7_init wsX0_init := goodIn_r _ [48, 49, 2, 3, 50, 51, 52, 53, 54, 55, 29, 30, 56, 57, 58, 59, 60, 61, 62, 63, 35, 36, 37, 38, 88, 81, 82, 83, 84, 85, 86, 87] (by decide +kernel) (by decide +kernel)
set_option maxRecDepth 20000 in
theorem gX7_init_X0_init : GoodIn wsX7_init (wsX0_init) := ggX7_init_X0_init
theorem dX7_init_0 : decode cX7_init 0 = .ok (.aload_n 0, 1) := by decide +kernel
theorem dX7_init_1 : decode cX7_init 1 = .ok (.invokespecial 1, 3) := by decide +kernel
theorem dX7_init_4 : decode cX7_init 4 = .ok (.aload_n 0, 1) := by decide +kernel
theorem dX7_init_5 : decode cX7_init 5 = .ok (.bipush 100, 2) := by decide +kernel
theorem dX7_init_7 : decode cX7_init 7 = .ok (.newarray .char, 2) := by decide +kernel
theorem dX7_init_9 : decode cX7_init 9 = .ok (.putfield 9, 3) := by decide +kernel
theorem dX7_init_12 : decode cX7_init 12 = .ok (.aload_n 0, 1) := by decide +kernel
theorem dX7_init_13 : decode cX7_init 13 = .ok (.new 13, 3) := by decide +kernel
theorem dX7_init_16 : decode cX7_init 16 = .ok (.dup, 1) := by decide +kernel
theorem dX7_init_17 : decode cX7_init 17 = .ok (.invokespecial 15, 3) := by decide +kernel
theorem dX7_init_20 : decode cX7_init 20 = .ok (.putfield 16, 3) := by decide +kernel
theorem dX7_init_23 : decode cX7_init 23 = .ok (.aload_n 0, 1) := by decide +kernel
theorem dX7_init_24 : decode cX7_init 24 = .ok (.new 13, 3) := by decide +kernel
theorem dX7_init_27 : decode cX7_init 27 = .ok (.dup, 1) := by decide +kernel
theorem dX7_init_28 : decode cX7_init 28 = .ok (.invokespecial 15, 3) := by decide +kernel
theorem dX7_init_31 : decode cX7_init 31 = .ok (.putfield 20, 3) := by decide +kernel
theorem dX7_init_34 : decode cX7_init 34 = .ok (.aload_n 0, 1) := by decide +kernel
theorem dX7_init_35 : decode cX7_init 35 = .ok (.new 23, 3) := by decide +kernel
theorem dX7_init_38 : decode cX7_init 38 = .ok (.dup, 1) := by decide +kernel
theorem dX7_init_39 : decode cX7_init 39 = .ok (.invokespecial 25, 3) := by decide +kernel
theorem dX7_init_42 : decode cX7_init 42 = .ok (.putfield 26, 3) := by decide +kernel
theorem dX7_init_45 : decode cX7_init 45 = .ok (.aload_n 0, 1) := by decide +kernel
theorem dX7_init_46 : decode cX7_init 46 = .ok (.iconst 2, 1) := by decide +kernel
theorem dX7_init_47 : decode cX7_init 47 = .ok (.anewarray 13, 3) := by decide +kernel
theorem dX7_init_50 : decode cX7_init 50 = .ok (.putfield 30, 3) := by decide +kernel
theorem dX7_init_53 : decode cX7_init 53 = .ok (.aload_n 0, 1) := by decide +kernel
theorem dX7_init_54 : decode cX7_init 54 = .ok (.iconst 2, 1) := by decide +kernel
theorem dX7_init_55 : decode cX7_init 55 = .ok (.newarray .boolean, 2) := by decide +kernel
theorem dX7_init_57 : decode cX7_init 57 = .ok (.putfield 34, 3) := by decide +kernel
theorem dX7_init_60 : decode cX7_init 60 = .ok (.iconst 0, 1) := by decide +kernel
theorem dX7_init_61 : decode cX7_init 61 = .ok (.istore_n 1, 1) := by decide +kernel
theorem dX7_init_62 : decode cX7_init 62 = .ok (.iload_n 1, 1) := by decide +kernel
theorem dX7_init_63 : decode cX7_init 63 = .ok (.aload_n 0, 1) := by decide +kernel
theorem dX7_init_64 : decode cX7_init 64 = .ok (.getfield 30, 3) := by decide +kernel
theorem dX7_init_67 : decode cX7_init 67 = .ok (.arraylength, 1) := by decide +kernel
theorem dX7_init_68 : decode cX7_init 68 = .ok (.if_icmp .ge 22, 3) := by decide +kernel
theorem dX7_init_71 : decode cX7_init 71 = .ok (.aload_n 0, 1) := by decide +kernel
theorem dX7_init_72 : decode cX7_init 72 = .ok (.getfield 30, 3) := by decide +kernel
theorem dX7_init_75 : decode cX7_init 75 = .ok (.iload_n 1, 1) := by decide +kernel
theorem dX7_init_76 : decode cX7_init 76 = .ok (.new 13, 3) := by decide +kernel
theorem dX7_init_79 : decode cX7_init 79 = .ok (.dup, 1) := by decide +kernel
theorem dX7_init_80 : decode cX7_init 80 = .ok (.invokespecial 15, 3) := by decide +kernel
theorem dX7_init_83 : decode cX7_init 83 = .ok (.aastore, 1) := by decide +kernel
theorem dX7_init_84 : decode cX7_init 84 = .ok (.iinc 1 1, 3) := by decide +kernel
theorem dX7_init_87 : decode cX7_init 87 = .ok (.goto (-25), 3) := by decide +kernel
theorem dX7_init_90 : decode cX7_init 90 = .ok (.aload_n 0, 1) := by decide +kernel
theorem dX7_init_91 : decode cX7_init 91 = .ok (.new 38, 3) := by decide +kernel
theorem dX7_init_94 : decode cX7_init 94 = .ok (.dup, 1) := by decide +kernel
theorem dX7_init_95 : decode cX7_init 95 = .ok (.invokespecial 40, 3) := by decide +kernel
theorem dX7_init_98 : decode cX7_init 98 = .ok (.putfield 41, 3) := by decide +kernel
theorem dX7_init_101 : decode cX7_init 101 = .ok (.return_, 1) := by decide +kernel
theorem dX7_append_0 : decode cX7_append 0 = .ok (.iload_n 1, 1) := by decide +kernel
theorem dX7_append_1 : decode cX7_append 1 = .ok (.ifCond .lt 10, 3) := by decide +kernel
theorem dX7_append_4 : decode cX7_append 4 = .ok (.iload_n 1, 1) := by decide +kernel
theorem dX7_append_5 : decode cX7_append 5 = .ok (.sipush 255, 3) := by decide +kernel
theorem dX7_append_8 : decode cX7_append 8 = .ok (.if_icmp .le 13, 3) := by decide +kernel
theorem dX7_append_11 : decode cX7_append 11 = .ok (.new 45, 3) := by decide +kernel
theorem dX7_append_14 : decode cX7_append 14 = .ok (.dup, 1) := by decide +kernel
theorem dX7_append_15 : decode cX7_append 15 = .ok (.ldc 47, 2) := by decide +kernel
theorem dX7_append_17 : decode cX7_append 17 = .ok (.invokespecial 49, 3) := by decide +kernel
theorem dX7_append_20 : decode cX7_append 20 = .ok (.athrow, 1) := by decide +kernel
theorem dX7_append_21 : decode cX7_append 21 = .ok (.aload_n 0, 1) := by decide +kernel
theorem dX7_append_22 : decode cX7_append 22 = .ok (.getfield 52, 3) := by decide +kernel
theorem dX7_append_25 : decode cX7_append 25 = .ok (.ifCond .lt 15, 3) := by decide +kernel
theorem dX7_append_28 : decode cX7_append 28 = .ok (.aload_n 0, 1) := by decide +kernel
theorem dX7_append_29 : decode cX7_append 29 = .ok (.getfield 52, 3) := by decide +kernel
theorem dX7_append_32 : decode cX7_append 32 = .ok (.aload_n 0, 1) := by decide +kernel
theorem dX7_append_33 : decode cX7_append 33 = .ok (.getfield 9, 3) := by decide +kernel
theorem dX7_append_36 : decode cX7_append 36 = .ok (.arraylength, 1) := by decide +kernel
theorem dX7_append_37 : decode cX7_append 37 = .ok (.if_icmp .lt 13, 3) := by decide +kernel
theorem dX7_append_40 : decode cX7_append 40 = .ok (.new 56, 3) := by decide +kernel
theorem dX7_append_43 : decode cX7_append 43 = .ok (.dup, 1) := by decide +kernel
theorem dX7_append_44 : decode cX7_append 44 = .ok (.ldc 58, 2) := by decide +kernel
theorem dX7_append_46 : decode cX7_append 46 = .ok (.invokespecial 60, 3) := by decide +kernel
theorem dX7_append_49 : decode cX7_append 49 = .ok (.athrow, 1) := by decide +kernel
theorem dX7_append_50 : decode cX7_append 50 = .ok (.aload_n 0, 1) := by decide +kernel
theorem dX7_append_51 : decode cX7_append 51 = .ok (.getfield 9, 3) := by decide +kernel
theorem dX7_append_54 : decode cX7_append 54 = .ok (.aload_n 0, 1) := by decide +kernel
theorem dX7_append_55 : decode cX7_append 55 = .ok (.getfield 52, 3) := by decide +kernel
theorem dX7_append_58 : decode cX7_append 58 = .ok (.iload_n 1, 1) := by decide +kernel
theorem dX7_append_59 : decode cX7_append 59 = .ok (.i2c, 1) := by decide +kernel
theorem dX7_append_60 : decode cX7_append 60 = .ok (.castore, 1) := by decide +kernel
theorem dX7_append_61 : decode cX7_append 61 = .ok (.aload_n 0, 1) := by decide +kernel
theorem dX7_append_62 : decode cX7_append 62 = .ok (.dup, 1) := by decide +kernel
theorem dX7_append_63 : decode cX7_append 63 = .ok (.getfield 52, 3) := by decide +kernel
theorem dX7_append_66 : decode cX7_append 66 = .ok (.iconst 1, 1) := by decide +kernel
theorem dX7_append_67 : decode cX7_append 67 = .ok (.iadd, 1) := by decide +kernel
theorem dX7_append_68 : decode cX7_append 68 = .ok (.putfield 52, 3) := by decide +kernel
theorem dX7_append_71 : decode cX7_append 71 = .ok (.aload_n 0, 1) := by decide +kernel
theorem dX7_append_72 : decode cX7_append 72 = .ok (.getfield 52, 3) := by decide +kernel
theorem dX7_append_75 : decode cX7_append 75 = .ok (.ireturn, 1) := by decide +kernel
theorem dX7_clearText_0 : decode cX7_clearText 0 = .ok (.aload_n 0, 1) := by decide +kernel
theorem dX7_clearText_1 : decode cX7_clearText 1 = .ok (.getfield 52, 3) := by decide +kernel
theorem dX7_clearText_4 : decode cX7_clearText 4 = .ok (.istore_n 1, 1) := by decide +kernel
theorem dX7_clearText_5 : decode cX7_clearText 5 = .ok (.aload_n 0, 1) := by decide +kernel
theorem dX7_clearText_6 : decode cX7_clearText 6 = .ok (.iconst 0, 1) := by decide +kernel
theorem dX7_clearText_7 : decode cX7_clearText 7 = .ok (.putfield 52, 3) := by decide +kernel
theorem dX7_clearText_10 : decode cX7_clearText 10 = .ok (.iload_n 1, 1) := by decide +kernel
theorem dX7_clearText_11 : decode cX7_clearText 11 = .ok (.ireturn, 1) := by decide +kernel
set_option maxRecDepth 20000 in
theorem ggX7_errorPosition_X7_readText : GoodIn wsX7_errorPosition wsX7_readText := goodIn_r _ [5, 6, 7, 8, 9, 10, 11, 12, 13, 14, 15, 16, 17, 18, 19, 20, 21, 22, 23, 24, 25, 26, 27, 28, 29, 30, 31, 32, 33, 34, 35, 36, 37, 38, 39, 40, 41, 42, 43, 44, 45, 46, 47, 48, 49, 50, 51, 52, 53, 54, 55, 56, 57, 58, 59, 60, 61, 62, 63, 64, 65, 66, 67, 68, 69, 70, 71, 72, 73, 74, 75, 76, 77, 78, 79, 80, 81, 82, 83, 84, 85, 86, 87, 88, 89, 90, 91, 92, 93, 94, 95, 96, 97, 98, 99, 100, 101, 102, 103, 104, 105, 106, 107, 108, 109, 110, 111, 112] (by decide +kernel) (by decide +kernel)
set_option maxRecDepth 20000 in
theorem gX7_errorPosition_X7_readText : GoodIn wsX7_errorPosition (wsV RX7 61 RX7 yX7_readText wsX7_readText) := goodIn_app (goodIn_of _ (by decide +kernel)) ggX7_errorPosition_X7_readText
theorem dX7_errorPosition_0 : decode cX7_errorPosition 0 = .ok (.aload_n 0, 1) := by decide +kernel
theorem dX7_errorPosition_1 : decode cX7_errorPosition 1 = .ok (.invokevirtual 61, 3) := by decide +kernel
theorem dX7_errorPosition_4 : decode cX7_errorPosition 4 = .ok (.ireturn, 1) := by decide +kernel
set_option maxRecDepth 20000 in
theorem ggX7_load_X7_readText : GoodIn wsX7_load wsX7_readText := goodIn_r _ [12, 13, 14, 15, 16, 17, 4, 18, 19, 20, 21, 22, 23, 24, 25, 26, 27, 28, 29, 30, 31, 32, 33, 34, 35, 36, 37, 38, 39, 40, 41, 42, 43, 44, 45, 46, 47, 48, 49, 50, 51, 52, 53, 54, 55, 56, 57, 58, 59, 60, 61, 62, 63, 64, 65, 66, 67, 68, 69, 70, 71, 72, 73, 74, 75, 76, 77, 78, 79, 80, 81, 82, 83, 84, 85, 86, 87, 88, 89, 90, 91, 92, 93, 94, 95, 96, 97, 138, 139, 140, 124, 125, 126, 127, 128, 129, 130, 131, 132, 133, 134, 135, 136, 137, 141, 142, 143, 144] (by decide +kernel) (by decide +kernel)
set_option maxRecDepth 20000 in
theorem gX7_load_X7_readText : GoodIn wsX7_load (wsV RX7 61 RX7 yX7_readText wsX7_readText) := goodIn_app (goodIn_of _ (by decide +kernel)) ggX7_load_X7_readText
set_option maxRecDepth 20000 in
theorem ggX7_load_X4_become : GoodIn wsX7_load wsX4_become := goodIn_r _ [101, 48, 49, 102, 103, 104, 105, 50, 106, 44, 45, 46, 47, 70, 71, 72, 73, 74, 107, 66, 67, 68, 69, 57, 58, 59, 75, 76, 77, 78, 79, 80, 81, 82, 83, 108, 109, 110, 111, 92, 112, 113, 114, 115, 93, 116, 89, 90, 91, 94, 95, 96, 97, 132, 133, 134, 135, 136, 137, 141, 142, 143, 144] (by decide +kernel) (by decide +kernel)
set_option maxRecDepth 20000 in
theorem gX7_load_X4_become : GoodIn wsX7_load (wsV RX7 67 RX4 yX4_become wsX4_become) := goodIn_app (goodIn_of _ (by decide +kernel)) ggX7_load_X4_become
set_option maxRecDepth 20000 in
theorem ggX7_load_X2_forgetAll : GoodIn wsX7_load wsX2_forgetAll := goodIn_r _ [121, 122, 123, 145, 146, 147] (by decide +kernel) (by decide +kernel)
set_option maxRecDepth 20000 in
theorem gX7_load_X2_forgetAll : GoodIn wsX7_load (wsV RX7 71 RX2 yX2_forgetAll wsX2_forgetAll) := goodIn_app (goodIn_of _ (by decide +kernel)) ggX7_load_X2_forgetAll
theorem dX7_load_0 : decode cX7_load 0 = .ok (.aload_n 0, 1) := by decide +kernel
theorem dX7_load_1 : decode cX7_load 1 = .ok (.invokevirtual 61, 3) := by decide +kernel
theorem dX7_load_4 : decode cX7_load 4 = .ok (.bipush (-9), 2) := by decide +kernel
theorem dX7_load_6 : decode cX7_load 6 = .ok (.if_icmp .eq 13, 3) := by decide +kernel
theorem dX7_load_9 : decode cX7_load 9 = .ok (.new 56, 3) := by decide +kernel
theorem dX7_load_12 : decode cX7_load 12 = .ok (.dup, 1) := by decide +kernel
theorem dX7_load_13 : decode cX7_load 13 = .ok (.ldc 65, 2) := by decide +kernel
theorem dX7_load_15 : decode cX7_load 15 = .ok (.invokespecial 60, 3) := by decide +kernel
theorem dX7_load_18 : decode cX7_load 18 = .ok (.athrow, 1) := by decide +kernel
theorem dX7_load_19 : decode cX7_load 19 = .ok (.aload_n 0, 1) := by decide +kernel
theorem dX7_load_20 : decode cX7_load 20 = .ok (.getfield 16, 3) := by decide +kernel
theorem dX7_load_23 : decode cX7_load 23 = .ok (.aload_n 0, 1) := by decide +kernel
theorem dX7_load_24 : decode cX7_load 24 = .ok (.getfield 20, 3) := by decide +kernel
theorem dX7_load_27 : decode cX7_load 27 = .ok (.invokevirtual 67, 3) := by decide +kernel
theorem dX7_load_30 : decode cX7_load 30 = .ok (.aload_n 0, 1) := by decide +kernel
theorem dX7_load_31 : decode cX7_load 31 = .ok (.getfield 26, 3) := by decide +kernel
theorem dX7_load_34 : decode cX7_load 34 = .ok (.invokevirtual 71, 3) := by decide +kernel
theorem dX7_load_37 : decode cX7_load 37 = .ok (.iconst 0, 1) := by decide +kernel
theorem dX7_load_38 : decode cX7_load 38 = .ok (.istore_n 1, 1) := by decide +kernel
theorem dX7_load_39 : decode cX7_load 39 = .ok (.iload_n 1, 1) := by decide +kernel
theorem dX7_load_40 : decode cX7_load 40 = .ok (.aload_n 0, 1) := by decide +kernel
theorem dX7_load_41 : decode cX7_load 41 = .ok (.getfield 34, 3) := by decide +kernel
theorem dX7_load_44 : decode cX7_load 44 = .ok (.arraylength, 1) := by decide +kernel
theorem dX7_load_45 : decode cX7_load 45 = .ok (.if_icmp .ge 16, 3) := by decide +kernel
theorem dX7_load_48 : decode cX7_load 48 = .ok (.aload_n 0, 1) := by decide +kernel
theorem dX7_load_49 : decode cX7_load 49 = .ok (.getfield 34, 3) := by decide +kernel
theorem dX7_load_52 : decode cX7_load 52 = .ok (.iload_n 1, 1) := by decide +kernel
theorem dX7_load_53 : decode cX7_load 53 = .ok (.iconst 0, 1) := by decide +kernel
theorem dX7_load_54 : decode cX7_load 54 = .ok (.bastore, 1) := by decide +kernel
theorem dX7_load_55 : decode cX7_load 55 = .ok (.iinc 1 1, 3) := by decide +kernel
theorem dX7_load_58 : decode cX7_load 58 = .ok (.goto (-19), 3) := by decide +kernel
theorem dX7_load_61 : decode cX7_load 61 = .ok (.aload_n 0, 1) := by decide +kernel
theorem dX7_load_62 : decode cX7_load 62 = .ok (.getfield 16, 3) := by decide +kernel
theorem dX7_load_65 : decode cX7_load 65 = .ok (.getfield 74, 3) := by decide +kernel
theorem dX7_load_68 : decode cX7_load 68 = .ok (.ireturn, 1) := by decide +kernel
set_option maxRecDepth 20000 in
theorem ggX7_readText_X6_init : GoodIn wsX7_readText wsX6_init := goodIn_r _ [9, 10, 11, 12, 13, 14, 87, 88, 89] (by decide +kernel) (by decide +kernel)
set_option maxRecDepth 20000 in
theorem gX7_readText_X6_init : GoodIn wsX7_readText (wsX6_init) := ggX7_readText_X6_init
set_option maxRecDepth 20000 in
theorem ggX7_readText_X6_readInto : GoodIn wsX7_readText wsX6_readInto := goodIn_r _ [18, 19, 14, 20, 21, 22, 3, 23, 24, 25, 26, 27, 13, 28, 29, 30, 31, 32, 33, 34, 35, 36, 37, 38, 39, 40, 41, 42, 43, 44, 45, 46, 47, 48, 49, 50, 51, 52, 53, 54, 55, 56, 57, 58, 59, 60, 61, 62, 63, 64, 65, 66, 67, 68, 69, 70, 71, 72, 73, 74, 75, 76, 77, 78, 79, 80, 81, 82, 83, 84, 85, 86, 87, 88, 89, 98, 99, 100, 101, 102, 103, 104, 105, 106, 107] (by decide +kernel) (by decide +kernel)
set_option maxRecDepth 20000 in
theorem gX7_readText_X6_readInto : GoodIn wsX7_readText (wsV RX7 82 RX6 yX6_readInto wsX6_readInto) := goodIn_app (goodIn_of _ (by decide +kernel)) ggX7_readText_X6_readInto
theorem dX7_readText_0 : decode cX7_readText 0 = .ok (.new 77, 3) := by decide +kernel
theorem dX7_readText_3 : decode cX7_readText 3 = .ok (.dup, 1) := by decide +kernel
theorem dX7_readText_4 : decode cX7_readText 4 = .ok (.aload_n 0, 1) := by decide +kernel
theorem dX7_readText_5 : decode cX7_readText 5 = .ok (.getfield 9, 3) := by decide +kernel
theorem dX7_readText_8 : decode cX7_readText 8 = .ok (.aload_n 0, 1) := by decide +kernel
theorem dX7_readText_9 : decode cX7_readText 9 = .ok (.getfield 52, 3) := by decide +kernel
theorem dX7_readText_12 : decode cX7_readText 12 = .ok (.invokespecial 79, 3) := by decide +kernel
theorem dX7_readText_15 : decode cX7_readText 15 = .ok (.aload_n 0, 1) := by decide +kernel
theorem dX7_readText_16 : decode cX7_readText 16 = .ok (.getfield 20, 3) := by decide +kernel
theorem dX7_readText_19 : decode cX7_readText 19 = .ok (.invokevirtual 82, 3) := by decide +kernel
theorem dX7_readText_22 : decode cX7_readText 22 = .ok (.ireturn, 1) := by decide +kernel
set_option maxRecDepth 20000 in
theorem ggX7_about_X0_cutAll : GoodIn wsX7_about wsX0_cutAll := goodIn_r _ [12, 13, 14, 15, 16, 17, 18, 19, 20, 21, 22, 23, 24, 25, 26, 27, 28, 29, 30, 31, 32, 33, 34, 35, 36, 37, 38, 39, 40, 41, 42, 43, 44, 45, 46, 47, 48, 49, 50, 51, 52, 53, 54, 55, 56, 57, 58, 59, 60, 61, 62, 63, 64, 65, 143, 144, 145, 137, 138, 139, 140, 141, 142, 146, 147, 148, 149, 150] (by decide +kernel) (by decide +kernel)
set_option maxRecDepth 20000 in
theorem gX7_about_X0_cutAll : GoodIn wsX7_about (wsV RX7 92 RX0 yX0_cutAll wsX0_cutAll) := goodIn_app (goodIn_of _ (by decide +kernel)) ggX7_about_X0_cutAll
set_option maxRecDepth 20000 in
theorem ggX7_about_X5_size : GoodIn wsX7_about wsX5_size := goodIn_r _ [69, 21, 70, 71, 72, 73, 74, 75, 76, 146] (by decide +kernel) (by decide +kernel)
set_option maxRecDepth 20000 in
theorem gX7_about_X5_size : GoodIn wsX7_about (wsV RX7 96 RX5 yX5_size wsX5_size) := goodIn_app (goodIn_of _ (by decide +kernel)) ggX7_about_X5_size
set_option maxRecDepth 20000 in
theorem ggX7_about_X4_leastRadius : GoodIn wsX7_about wsX4_leastRadius := goodIn_r _ [80, 27, 81, 23, 24, 25, 26, 28, 82, 83, 84, 37, 85, 39, 86, 87, 53, 88, 89, 46, 47, 48, 49, 50, 51, 52, 54, 55, 41, 56, 43, 44, 137, 138, 139, 140, 141, 142, 147, 148, 149, 150] (by decide +kernel) (by decide +kernel)
set_option maxRecDepth 20000 in
theorem gX7_about_X4_leastRadius : GoodIn wsX7_about (wsV RX7 101 RX4 yX4_leastRadius wsX4_leastRadius) := goodIn_app (goodIn_of _ (by decide +kernel)) ggX7_about_X4_leastRadius
set_option maxRecDepth 20000 in
theorem ggX7_about_X4_greatestRadius : GoodIn wsX7_about wsX4_greatestRadius := goodIn_r _ [93, 27, 81, 23, 24, 25, 26, 28, 94, 95, 96, 37, 97, 39, 98, 99, 53, 100, 89, 46, 47, 48, 49, 50, 51, 52, 54, 55, 41, 56, 43, 44, 137, 138, 139, 140, 141, 142, 147, 148, 149, 150] (by decide +kernel) (by decide +kernel)
set_option maxRecDepth 20000 in
theorem gX7_about_X4_greatestRadius : GoodIn wsX7_about (wsV RX7 104 RX4 yX4_greatestRadius wsX4_greatestRadius) := goodIn_app (goodIn_of _ (by decide +kernel)) ggX7_about_X4_greatestRadius
set_option maxRecDepth 20000 in
theorem ggX7_about_X4_fitting : GoodIn wsX7_about wsX4_fitting := goodIn_r _ [104, 27, 81, 23, 24, 25, 26, 28, 105, 106, 107, 108, 109, 110, 111, 112, 113, 114, 115, 116, 117, 118, 119, 120, 121, 122, 123, 37, 124, 61, 55, 41, 56, 125, 126, 127, 128, 39, 40, 42, 43, 44, 89, 46, 47, 48, 49, 50, 51, 52, 53, 54, 137, 138, 139, 140, 141, 142, 147, 148, 149, 150] (by decide +kernel) (by decide +kernel)
set_option maxRecDepth 20000 in
theorem gX7_about_X4_fitting : GoodIn wsX7_about (wsV RX7 107 RX4 yX4_fitting wsX4_fitting) := goodIn_app (goodIn_of _ (by decide +kernel)) ggX7_about_X4_fitting
theorem dX7_about_0 : decode cX7_about 0 = .ok (.iload_n 1, 1) := by decide +kernel
theorem dX7_about_1 : decode cX7_about 1 = .ok (.tableswitch 106 0 6 #[43, 51, 59, 67, 82, 90, 98], 43) := by decide +kernel
theorem dX7_about_44 : decode cX7_about 44 = .ok (.aload_n 0, 1) := by decide +kernel
theorem dX7_about_45 : decode cX7_about 45 = .ok (.getfield 16, 3) := by decide +kernel
theorem dX7_about_48 : decode cX7_about 48 = .ok (.getfield 86, 3) := by decide +kernel
theorem dX7_about_51 : decode cX7_about 51 = .ok (.ireturn, 1) := by decide +kernel
theorem dX7_about_52 : decode cX7_about 52 = .ok (.aload_n 0, 1) := by decide +kernel
theorem dX7_about_53 : decode cX7_about 53 = .ok (.getfield 16, 3) := by decide +kernel
theorem dX7_about_56 : decode cX7_about 56 = .ok (.getfield 74, 3) := by decide +kernel
theorem dX7_about_59 : decode cX7_about 59 = .ok (.ireturn, 1) := by decide +kernel
theorem dX7_about_60 : decode cX7_about 60 = .ok (.aload_n 0, 1) := by decide +kernel
theorem dX7_about_61 : decode cX7_about 61 = .ok (.getfield 16, 3) := by decide +kernel
theorem dX7_about_64 : decode cX7_about 64 = .ok (.getfield 89, 3) := by decide +kernel
theorem dX7_about_67 : decode cX7_about 67 = .ok (.ireturn, 1) := by decide +kernel
theorem dX7_about_68 : decode cX7_about 68 = .ok (.aload_n 0, 1) := by decide +kernel
theorem dX7_about_69 : decode cX7_about 69 = .ok (.getfield 41, 3) := by decide +kernel
theorem dX7_about_72 : decode cX7_about 72 = .ok (.aload_n 0, 1) := by decide +kernel
theorem dX7_about_73 : decode cX7_about 73 = .ok (.getfield 16, 3) := by decide +kernel
theorem dX7_about_76 : decode cX7_about 76 = .ok (.invokevirtual 92, 3) := by decide +kernel
theorem dX7_about_79 : decode cX7_about 79 = .ok (.invokevirtual 96, 3) := by decide +kernel
theorem dX7_about_82 : decode cX7_about 82 = .ok (.ireturn, 1) := by decide +kernel
theorem dX7_about_83 : decode cX7_about 83 = .ok (.aload_n 0, 1) := by decide +kernel
theorem dX7_about_84 : decode cX7_about 84 = .ok (.getfield 16, 3) := by decide +kernel

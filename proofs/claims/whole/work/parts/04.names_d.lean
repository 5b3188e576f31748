theorem dX8_addLayer_1 : decode cX8_addLayer 1 = .ok (.iconst 0, 1) := by decide +kernel
theorem dX8_addLayer_2 : decode cX8_addLayer 2 = .ok (.putfield 31, 3) := by decide +kernel
theorem dX8_addLayer_5 : decode cX8_addLayer 5 = .ok (.aload_n 0, 1) := by decide +kernel
theorem dX8_addLayer_6 : decode cX8_addLayer 6 = .ok (.iload_n 1, 1) := by decide +kernel
theorem dX8_addLayer_7 : decode cX8_addLayer 7 = .ok (.iload_n 2, 1) := by decide +kernel
theorem dX8_addLayer_8 : decode cX8_addLayer 8 = .ok (.iload_n 3, 1) := by decide +kernel
theorem dX8_addLayer_9 : decode cX8_addLayer 9 = .ok (.iload 4, 2) := by decide +kernel
theorem dX8_addLayer_11 : decode cX8_addLayer 11 = .ok (.invokevirtual 203, 3) := by decide +kernel
theorem dX8_addLayer_14 : decode cX8_addLayer 14 = .ok (.ifCond .ne 9, 3) := by decide +kernel
theorem dX8_addLayer_17 : decode cX8_addLayer 17 = .ok (.aload_n 0, 1) := by decide +kernel
theorem dX8_addLayer_18 : decode cX8_addLayer 18 = .ok (.iconst 1, 1) := by decide +kernel
theorem dX8_addLayer_19 : decode cX8_addLayer 19 = .ok (.invokevirtual 83, 3) := by decide +kernel
theorem dX8_addLayer_22 : decode cX8_addLayer 22 = .ok (.ireturn, 1) := by decide +kernel
theorem dX8_addLayer_23 : decode cX8_addLayer 23 = .ok (.aload_n 0, 1) := by decide +kernel
theorem dX8_addLayer_24 : decode cX8_addLayer 24 = .ok (.getfield 35, 3) := by decide +kernel
theorem dX8_addLayer_27 : decode cX8_addLayer 27 = .ok (.bipush 6, 2) := by decide +kernel
theorem dX8_addLayer_29 : decode cX8_addLayer 29 = .ok (.if_icmp .ne 9, 3) := by decide +kernel
theorem dX8_addLayer_32 : decode cX8_addLayer 32 = .ok (.aload_n 0, 1) := by decide +kernel
theorem dX8_addLayer_33 : decode cX8_addLayer 33 = .ok (.iconst 2, 1) := by decide +kernel
theorem dX8_addLayer_34 : decode cX8_addLayer 34 = .ok (.invokevirtual 83, 3) := by decide +kernel
theorem dX8_addLayer_37 : decode cX8_addLayer 37 = .ok (.ireturn, 1) := by decide +kernel
theorem dX8_addLayer_38 : decode cX8_addLayer 38 = .ok (.aload_n 0, 1) := by decide +kernel
theorem dX8_addLayer_39 : decode cX8_addLayer 39 = .ok (.invokevirtual 188, 3) := by decide +kernel
theorem dX8_addLayer_42 : decode cX8_addLayer 42 = .ok (.aload_n 0, 1) := by decide +kernel
theorem dX8_addLayer_43 : decode cX8_addLayer 43 = .ok (.iload_n 1, 1) := by decide +kernel
theorem dX8_addLayer_44 : decode cX8_addLayer 44 = .ok (.iload_n 2, 1) := by decide +kernel
theorem dX8_addLayer_45 : decode cX8_addLayer 45 = .ok (.iload_n 3, 1) := by decide +kernel
theorem dX8_addLayer_46 : decode cX8_addLayer 46 = .ok (.iload 4, 2) := by decide +kernel
theorem dX8_addLayer_48 : decode cX8_addLayer 48 = .ok (.invokevirtual 207, 3) := by decide +kernel
theorem dX8_addLayer_51 : decode cX8_addLayer 51 = .ok (.ireturn, 1) := by decide +kernel
set_option maxRecDepth 20000 in
theorem ggX8_change_X8_isLayer : GoodIn wsX8_change wsX8_isLayer := goodIn_r _ [7, 8, 9, 10, 6, 11, 37, 38, 39, 40, 41, 42, 43, 44, 45, 46, 47, 48, 49, 50, 51, 52, 53] (by decide +kernel) (by decide +kernel)
set_option maxRecDepth 20000 in
theorem gX8_change_X8_isLayer : GoodIn wsX8_change (wsV RX8 138 RX8 yX8_isLayer wsX8_isLayer) := goodIn_app (goodIn_of _ (by decide +kernel)) ggX8_change_X8_isLayer
set_option maxRecDepth 20000 in
theorem ggX8_change_X8_refused : GoodIn wsX8_change wsX8_refused := goodIn_r _ [15, 1, 37, 38, 39, 40, 41, 42, 43, 44, 45, 46, 47, 48, 49, 50, 51, 52, 53] (by decide +kernel) (by decide +kernel)
set_option maxRecDepth 20000 in
theorem gX8_change_X8_refused : GoodIn wsX8_change (wsV RX8 83 RX8 yX8_refused wsX8_refused) := goodIn_app (goodIn_of _ (by decide +kernel)) ggX8_change_X8_refused
set_option maxRecDepth 20000 in
theorem ggX8_change_X8_can : GoodIn wsX8_change wsX8_can := goodIn_r _ [19, 20, 21, 22, 9, 10, 6, 11, 23, 24, 25, 26, 2, 37, 38, 39, 40, 41, 42, 43, 44, 45, 46, 47, 48, 49, 50, 51, 52, 53] (by decide +kernel) (by decide +kernel)
set_option maxRecDepth 20000 in
theorem gX8_change_X8_can : GoodIn wsX8_change (wsV RX8 200 RX8 yX8_can wsX8_can) := goodIn_app (goodIn_of _ (by decide +kernel)) ggX8_change_X8_can
set_option maxRecDepth 20000 in
theorem ggX8_change_X8_remember : GoodIn wsX8_change wsX8_remember := goodIn_r _ [30, 31, 32, 33, 34, 35, 6, 36, 8, 2, 37, 38, 39, 40, 41, 42, 43, 44, 45, 46, 47, 48, 49, 50, 51, 52, 53] (by decide +kernel) (by decide +kernel)
set_option maxRecDepth 20000 in
theorem gX8_change_X8_remember : GoodIn wsX8_change (wsV RX8 188 RX8 yX8_remember wsX8_remember) := goodIn_app (goodIn_of _ (by decide +kernel)) ggX8_change_X8_remember
theorem dX8_change_0 : decode cX8_change 0 = .ok (.aload_n 0, 1) := by decide +kernel
theorem dX8_change_1 : decode cX8_change 1 = .ok (.iconst 0, 1) := by decide +kernel
theorem dX8_change_2 : decode cX8_change 2 = .ok (.putfield 31, 3) := by decide +kernel
theorem dX8_change_5 : decode cX8_change 5 = .ok (.aload_n 0, 1) := by decide +kernel
theorem dX8_change_6 : decode cX8_change 6 = .ok (.iload_n 1, 1) := by decide +kernel
theorem dX8_change_7 : decode cX8_change 7 = .ok (.invokevirtual 138, 3) := by decide +kernel
theorem dX8_change_10 : decode cX8_change 10 = .ok (.ifCond .ne 9, 3) := by decide +kernel
theorem dX8_change_13 : decode cX8_change 13 = .ok (.aload_n 0, 1) := by decide +kernel
theorem dX8_change_14 : decode cX8_change 14 = .ok (.iconst 1, 1) := by decide +kernel
theorem dX8_change_15 : decode cX8_change 15 = .ok (.invokevirtual 83, 3) := by decide +kernel
theorem dX8_change_18 : decode cX8_change 18 = .ok (.ireturn, 1) := by decide +kernel
theorem dX8_change_19 : decode cX8_change 19 = .ok (.aload_n 0, 1) := by decide +kernel
theorem dX8_change_20 : decode cX8_change 20 = .ok (.iload_n 2, 1) := by decide +kernel
theorem dX8_change_21 : decode cX8_change 21 = .ok (.iload_n 3, 1) := by decide +kernel
theorem dX8_change_22 : decode cX8_change 22 = .ok (.invokevirtual 200, 3) := by decide +kernel
theorem dX8_change_25 : decode cX8_change 25 = .ok (.ifCond .ne 9, 3) := by decide +kernel
theorem dX8_change_28 : decode cX8_change 28 = .ok (.aload_n 0, 1) := by decide +kernel
theorem dX8_change_29 : decode cX8_change 29 = .ok (.iconst 2, 1) := by decide +kernel
theorem dX8_change_30 : decode cX8_change 30 = .ok (.invokevirtual 83, 3) := by decide +kernel
theorem dX8_change_33 : decode cX8_change 33 = .ok (.ireturn, 1) := by decide +kernel
theorem dX8_change_34 : decode cX8_change 34 = .ok (.aload_n 0, 1) := by decide +kernel
theorem dX8_change_35 : decode cX8_change 35 = .ok (.invokevirtual 188, 3) := by decide +kernel
theorem dX8_change_38 : decode cX8_change 38 = .ok (.aload_n 0, 1) := by decide +kernel
theorem dX8_change_39 : decode cX8_change 39 = .ok (.getfield 7, 3) := by decide +kernel
theorem dX8_change_42 : decode cX8_change 42 = .ok (.iconst 4, 1) := by decide +kernel
theorem dX8_change_43 : decode cX8_change 43 = .ok (.iload_n 1, 1) := by decide +kernel
theorem dX8_change_44 : decode cX8_change 44 = .ok (.imul, 1) := by decide +kernel
theorem dX8_change_45 : decode cX8_change 45 = .ok (.iconst 1, 1) := by decide +kernel
theorem dX8_change_46 : decode cX8_change 46 = .ok (.iadd, 1) := by decide +kernel
theorem dX8_change_47 : decode cX8_change 47 = .ok (.iload_n 2, 1) := by decide +kernel
theorem dX8_change_48 : decode cX8_change 48 = .ok (.iadd, 1) := by decide +kernel
theorem dX8_change_49 : decode cX8_change 49 = .ok (.iaload, 1) := by decide +kernel
theorem dX8_change_50 : decode cX8_change 50 = .ok (.istore 4, 2) := by decide +kernel
theorem dX8_change_52 : decode cX8_change 52 = .ok (.aload_n 0, 1) := by decide +kernel
theorem dX8_change_53 : decode cX8_change 53 = .ok (.getfield 7, 3) := by decide +kernel
theorem dX8_change_56 : decode cX8_change 56 = .ok (.iconst 4, 1) := by decide +kernel
theorem dX8_change_57 : decode cX8_change 57 = .ok (.iload_n 1, 1) := by decide +kernel
theorem dX8_change_58 : decode cX8_change 58 = .ok (.imul, 1) := by decide +kernel
theorem dX8_change_59 : decode cX8_change 59 = .ok (.iconst 1, 1) := by decide +kernel
theorem dX8_change_60 : decode cX8_change 60 = .ok (.iadd, 1) := by decide +kernel
theorem dX8_change_61 : decode cX8_change 61 = .ok (.iload_n 2, 1) := by decide +kernel
theorem dX8_change_62 : decode cX8_change 62 = .ok (.iadd, 1) := by decide +kernel
theorem dX8_change_63 : decode cX8_change 63 = .ok (.iload_n 3, 1) := by decide +kernel
theorem dX8_change_64 : decode cX8_change 64 = .ok (.iastore, 1) := by decide +kernel
theorem dX8_change_65 : decode cX8_change 65 = .ok (.iload 4, 2) := by decide +kernel
theorem dX8_change_67 : decode cX8_change 67 = .ok (.ireturn, 1) := by decide +kernel
theorem dX8_drop_0 : decode cX8_drop 0 = .ok (.iconst 4, 1) := by decide +kernel
theorem dX8_drop_1 : decode cX8_drop 1 = .ok (.iload_n 1, 1) := by decide +kernel
theorem dX8_drop_2 : decode cX8_drop 2 = .ok (.imul, 1) := by decide +kernel
theorem dX8_drop_3 : decode cX8_drop 3 = .ok (.iconst 5, 1) := by decide +kernel
theorem dX8_drop_4 : decode cX8_drop 4 = .ok (.iadd, 1) := by decide +kernel
theorem dX8_drop_5 : decode cX8_drop 5 = .ok (.istore_n 2, 1) := by decide +kernel
theorem dX8_drop_6 : decode cX8_drop 6 = .ok (.iload_n 2, 1) := by decide +kernel
theorem dX8_drop_7 : decode cX8_drop 7 = .ok (.bipush 25, 2) := by decide +kernel
theorem dX8_drop_9 : decode cX8_drop 9 = .ok (.if_icmp .ge 23, 3) := by decide +kernel
theorem dX8_drop_12 : decode cX8_drop 12 = .ok (.aload_n 0, 1) := by decide +kernel
theorem dX8_drop_13 : decode cX8_drop 13 = .ok (.getfield 7, 3) := by decide +kernel
theorem dX8_drop_16 : decode cX8_drop 16 = .ok (.iload_n 2, 1) := by decide +kernel
theorem dX8_drop_17 : decode cX8_drop 17 = .ok (.iconst 4, 1) := by decide +kernel
theorem dX8_drop_18 : decode cX8_drop 18 = .ok (.isub, 1) := by decide +kernel
theorem dX8_drop_19 : decode cX8_drop 19 = .ok (.aload_n 0, 1) := by decide +kernel
theorem dX8_drop_20 : decode cX8_drop 20 = .ok (.getfield 7, 3) := by decide +kernel
theorem dX8_drop_23 : decode cX8_drop 23 = .ok (.iload_n 2, 1) := by decide +kernel
theorem dX8_drop_24 : decode cX8_drop 24 = .ok (.iaload, 1) := by decide +kernel
theorem dX8_drop_25 : decode cX8_drop 25 = .ok (.iastore, 1) := by decide +kernel
theorem dX8_drop_26 : decode cX8_drop 26 = .ok (.iinc 2 1, 3) := by decide +kernel
theorem dX8_drop_29 : decode cX8_drop 29 = .ok (.goto (-23), 3) := by decide +kernel
theorem dX8_drop_32 : decode cX8_drop 32 = .ok (.aload_n 0, 1) := by decide +kernel
theorem dX8_drop_33 : decode cX8_drop 33 = .ok (.dup, 1) := by decide +kernel
theorem dX8_drop_34 : decode cX8_drop 34 = .ok (.getfield 35, 3) := by decide +kernel
theorem dX8_drop_37 : decode cX8_drop 37 = .ok (.iconst 1, 1) := by decide +kernel
theorem dX8_drop_38 : decode cX8_drop 38 = .ok (.isub, 1) := by decide +kernel
theorem dX8_drop_39 : decode cX8_drop 39 = .ok (.putfield 35, 3) := by decide +kernel
theorem dX8_drop_42 : decode cX8_drop 42 = .ok (.aload_n 0, 1) := by decide +kernel
theorem dX8_drop_43 : decode cX8_drop 43 = .ok (.getfield 35, 3) := by decide +kernel
theorem dX8_drop_46 : decode cX8_drop 46 = .ok (.ireturn, 1) := by decide +kernel
set_option maxRecDepth 20000 in
theorem ggX8_remove_X8_isLayer : GoodIn wsX8_remove wsX8_isLayer := goodIn_r _ [6, 7, 8, 9, 5, 10, 30, 31, 32, 33, 34, 35, 36, 37, 38, 39, 40, 41, 42, 43, 44, 45, 46] (by decide +kernel) (by decide +kernel)
set_option maxRecDepth 20000 in
theorem gX8_remove_X8_isLayer : GoodIn wsX8_remove (wsV RX8 138 RX8 yX8_isLayer wsX8_isLayer) := goodIn_app (goodIn_of _ (by decide +kernel)) ggX8_remove_X8_isLayer
set_option maxRecDepth 20000 in
theorem ggX8_remove_X8_refused : GoodIn wsX8_remove wsX8_refused := goodIn_r _ [14, 1, 30, 31, 32, 33, 34, 35, 36, 37, 38, 39, 40, 41, 42, 43, 44, 45, 46] (by decide +kernel) (by decide +kernel)
set_option maxRecDepth 20000 in
theorem gX8_remove_X8_refused : GoodIn wsX8_remove (wsV RX8 83 RX8 yX8_refused wsX8_refused) := goodIn_app (goodIn_of _ (by decide +kernel)) ggX8_remove_X8_refused
set_option maxRecDepth 20000 in
theorem ggX8_remove_X8_remember : GoodIn wsX8_remove wsX8_remember := goodIn_r _ [18, 19, 20, 21, 22, 23, 5, 24, 7, 25, 30, 31, 32, 33, 34, 35, 36, 37, 38, 39, 40, 41, 42, 43, 44, 45, 46] (by decide +kernel) (by decide +kernel)
set_option maxRecDepth 20000 in
theorem gX8_remove_X8_remember : GoodIn wsX8_remove (wsV RX8 188 RX8 yX8_remember wsX8_remember) := goodIn_app (goodIn_of _ (by decide +kernel)) ggX8_remove_X8_remember
set_option maxRecDepth 20000 in
theorem ggX8_remove_X8_drop : GoodIn wsX8_remove wsX8_drop := goodIn_r _ [29, 25, 7, 30, 31, 32, 33, 34, 35, 36, 37, 38, 39, 40, 41, 42, 43, 44, 45, 46] (by decide +kernel) (by decide +kernel)
set_option maxRecDepth 20000 in
theorem gX8_remove_X8_drop : GoodIn wsX8_remove (wsV RX8 210 RX8 yX8_drop wsX8_drop) := goodIn_app (goodIn_of _ (by decide +kernel)) ggX8_remove_X8_drop
theorem dX8_remove_0 : decode cX8_remove 0 = .ok (.aload_n 0, 1) := by decide +kernel
theorem dX8_remove_1 : decode cX8_remove 1 = .ok (.iconst 0, 1) := by decide +kernel
theorem dX8_remove_2 : decode cX8_remove 2 = .ok (.putfield 31, 3) := by decide +kernel
theorem dX8_remove_5 : decode cX8_remove 5 = .ok (.aload_n 0, 1) := by decide +kernel
theorem dX8_remove_6 : decode cX8_remove 6 = .ok (.iload_n 1, 1) := by decide +kernel
theorem dX8_remove_7 : decode cX8_remove 7 = .ok (.invokevirtual 138, 3) := by decide +kernel
theorem dX8_remove_10 : decode cX8_remove 10 = .ok (.ifCond .ne 9, 3) := by decide +kernel
theorem dX8_remove_13 : decode cX8_remove 13 = .ok (.aload_n 0, 1) := by decide +kernel
theorem dX8_remove_14 : decode cX8_remove 14 = .ok (.iconst 1, 1) := by decide +kernel
theorem dX8_remove_15 : decode cX8_remove 15 = .ok (.invokevirtual 83, 3) := by decide +kernel
theorem dX8_remove_18 : decode cX8_remove 18 = .ok (.ireturn, 1) := by decide +kernel
theorem dX8_remove_19 : decode cX8_remove 19 = .ok (.aload_n 0, 1) := by decide +kernel
theorem dX8_remove_20 : decode cX8_remove 20 = .ok (.invokevirtual 188, 3) := by decide +kernel
theorem dX8_remove_23 : decode cX8_remove 23 = .ok (.aload_n 0, 1) := by decide +kernel
theorem dX8_remove_24 : decode cX8_remove 24 = .ok (.iload_n 1, 1) := by decide +kernel
theorem dX8_remove_25 : decode cX8_remove 25 = .ok (.invokevirtual 210, 3) := by decide +kernel
theorem dX8_remove_28 : decode cX8_remove 28 = .ok (.ireturn, 1) := by decide +kernel
set_option maxRecDepth 20000 in
theorem ggX8_see_X8_isAngle : GoodIn wsX8_see wsX8_isAngle := goodIn_r _ [8, 3, 9, 10, 7, 11, 65, 66, 67, 68, 69, 70, 71, 72, 73, 74, 75, 76, 77, 78, 79, 80, 81] (by decide +kernel) (by decide +kernel)
set_option maxRecDepth 20000 in
theorem gX8_see_X8_isAngle : GoodIn wsX8_see (wsV RX8 150 RX8 yX8_isAngle wsX8_isAngle) := goodIn_app (goodIn_of _ (by decide +kernel)) ggX8_see_X8_isAngle
set_option maxRecDepth 20000 in
theorem ggX8_see_X8_in : GoodIn wsX8_see wsX8_in := goodIn_r _ [11] (by decide +kernel) (by decide +kernel)
set_option maxRecDepth 20000 in
theorem gX8_see_X8_in : GoodIn wsX8_see (va_wsS RX8 38 yX8_in wsX8_in) := goodIn_app (goodIn_of _ (by decide +kernel)) ggX8_see_X8_in
set_option maxRecDepth 20000 in
theorem ggX8_see_X8_refused : GoodIn wsX8_see wsX8_refused := goodIn_r _ [15, 1, 65, 66, 67, 68, 69, 70, 71, 72, 73, 74, 75, 76, 77, 78, 79, 80, 81] (by decide +kernel) (by decide +kernel)
set_option maxRecDepth 20000 in
theorem gX8_see_X8_refused : GoodIn wsX8_see (wsV RX8 83 RX8 yX8_refused wsX8_refused) := goodIn_app (goodIn_of _ (by decide +kernel)) ggX8_see_X8_refused
set_option maxRecDepth 20000 in
theorem ggX8_see_X8_remember : GoodIn wsX8_see wsX8_remember := goodIn_r _ [19, 20, 21, 22, 23, 24, 7, 25, 26, 3, 65, 66, 67, 68, 69, 70, 71, 72, 73, 74, 75, 76, 77, 78, 79, 80, 81] (by decide +kernel) (by decide +kernel)
set_option maxRecDepth 20000 in
theorem gX8_see_X8_remember : GoodIn wsX8_see (wsV RX8 188 RX8 yX8_remember wsX8_remember) := goodIn_app (goodIn_of _ (by decide +kernel)) ggX8_see_X8_remember
set_option maxRecDepth 20000 in
theorem ggX8_see_X8_fitting : GoodIn wsX8_see wsX8_fitting := goodIn_r _ [30, 26, 31, 32, 33, 7, 34, 3, 35, 36, 37, 38, 39, 40, 41, 42, 43, 44, 45, 46, 47, 48, 49, 50, 51, 52, 53, 54, 55, 56, 57, 58, 59, 60, 61, 62, 63, 64, 65, 66, 67, 68, 69, 70, 71, 72, 73, 74, 75, 76, 77, 78, 79, 80, 81] (by decide +kernel) (by decide +kernel)
set_option maxRecDepth 20000 in
theorem gX8_see_X8_fitting : GoodIn wsX8_see (wsV RX8 135 RX8 yX8_fitting wsX8_fitting) := goodIn_app (goodIn_of _ (by decide +kernel)) ggX8_see_X8_fitting
theorem dX8_see_0 : decode cX8_see 0 = .ok (.aload_n 0, 1) := by decide +kernel
theorem dX8_see_1 : decode cX8_see 1 = .ok (.iconst 0, 1) := by decide +kernel
theorem dX8_see_2 : decode cX8_see 2 = .ok (.putfield 31, 3) := by decide +kernel
theorem dX8_see_5 : decode cX8_see 5 = .ok (.aload_n 0, 1) := by decide +kernel
theorem dX8_see_6 : decode cX8_see 6 = .ok (.iload_n 1, 1) := by decide +kernel
theorem dX8_see_7 : decode cX8_see 7 = .ok (.invokevirtual 150, 3) := by decide +kernel
theorem dX8_see_10 : decode cX8_see 10 = .ok (.ifCond .eq 15, 3) := by decide +kernel
theorem dX8_see_13 : decode cX8_see 13 = .ok (.iload_n 2, 1) := by decide +kernel
theorem dX8_see_14 : decode cX8_see 14 = .ok (.i2l, 1) := by decide +kernel
theorem dX8_see_15 : decode cX8_see 15 = .ok (.lconst 0, 1) := by decide +kernel
theorem dX8_see_16 : decode cX8_see 16 = .ok (.ldc2_w 153, 3) := by decide +kernel
theorem dX8_see_19 : decode cX8_see 19 = .ok (.invokestatic 38, 3) := by decide +kernel
theorem dX8_see_22 : decode cX8_see 22 = .ok (.ifCond .ne 9, 3) := by decide +kernel
theorem dX8_see_25 : decode cX8_see 25 = .ok (.aload_n 0, 1) := by decide +kernel
theorem dX8_see_26 : decode cX8_see 26 = .ok (.iconst 1, 1) := by decide +kernel
theorem dX8_see_27 : decode cX8_see 27 = .ok (.invokevirtual 83, 3) := by decide +kernel
theorem dX8_see_30 : decode cX8_see 30 = .ok (.ireturn, 1) := by decide +kernel
theorem dX8_see_31 : decode cX8_see 31 = .ok (.aload_n 0, 1) := by decide +kernel
theorem dX8_see_32 : decode cX8_see 32 = .ok (.invokevirtual 188, 3) := by decide +kernel
theorem dX8_see_35 : decode cX8_see 35 = .ok (.aload_n 0, 1) := by decide +kernel
theorem dX8_see_36 : decode cX8_see 36 = .ok (.getfield 7, 3) := by decide +kernel
theorem dX8_see_39 : decode cX8_see 39 = .ok (.bipush 25, 2) := by decide +kernel
theorem dX8_see_41 : decode cX8_see 41 = .ok (.iaload, 1) := by decide +kernel
theorem dX8_see_42 : decode cX8_see 42 = .ok (.bipush 8, 2) := by decide +kernel
theorem dX8_see_44 : decode cX8_see 44 = .ok (.if_icmp .ne 43, 3) := by decide +kernel
theorem dX8_see_47 : decode cX8_see 47 = .ok (.bipush 28, 2) := by decide +kernel
theorem dX8_see_49 : decode cX8_see 49 = .ok (.istore_n 3, 1) := by decide +kernel
theorem dX8_see_50 : decode cX8_see 50 = .ok (.iload_n 3, 1) := by decide +kernel
theorem dX8_see_51 : decode cX8_see 51 = .ok (.bipush 42, 2) := by decide +kernel
theorem dX8_see_53 : decode cX8_see 53 = .ok (.if_icmp .ge 23, 3) := by decide +kernel
theorem dX8_see_56 : decode cX8_see 56 = .ok (.aload_n 0, 1) := by decide +kernel
theorem dX8_see_57 : decode cX8_see 57 = .ok (.getfield 7, 3) := by decide +kernel
theorem dX8_see_60 : decode cX8_see 60 = .ok (.iload_n 3, 1) := by decide +kernel
theorem dX8_see_61 : decode cX8_see 61 = .ok (.iconst 2, 1) := by decide +kernel
theorem dX8_see_62 : decode cX8_see 62 = .ok (.isub, 1) := by decide +kernel
theorem dX8_see_63 : decode cX8_see 63 = .ok (.aload_n 0, 1) := by decide +kernel
theorem dX8_see_64 : decode cX8_see 64 = .ok (.getfield 7, 3) := by decide +kernel
theorem dX8_see_67 : decode cX8_see 67 = .ok (.iload_n 3, 1) := by decide +kernel
theorem dX8_see_68 : decode cX8_see 68 = .ok (.iaload, 1) := by decide +kernel
theorem dX8_see_69 : decode cX8_see 69 = .ok (.iastore, 1) := by decide +kernel
theorem dX8_see_70 : decode cX8_see 70 = .ok (.iinc 3 1, 3) := by decide +kernel
theorem dX8_see_73 : decode cX8_see 73 = .ok (.goto (-23), 3) := by decide +kernel
theorem dX8_see_76 : decode cX8_see 76 = .ok (.aload_n 0, 1) := by decide +kernel
theorem dX8_see_77 : decode cX8_see 77 = .ok (.getfield 7, 3) := by decide +kernel
theorem dX8_see_80 : decode cX8_see 80 = .ok (.bipush 25, 2) := by decide +kernel
theorem dX8_see_82 : decode cX8_see 82 = .ok (.dup2, 1) := by decide +kernel
theorem dX8_see_83 : decode cX8_see 83 = .ok (.iaload, 1) := by decide +kernel
theorem dX8_see_84 : decode cX8_see 84 = .ok (.iconst 1, 1) := by decide +kernel
theorem dX8_see_85 : decode cX8_see 85 = .ok (.isub, 1) := by decide +kernel
theorem dX8_see_86 : decode cX8_see 86 = .ok (.iastore, 1) := by decide +kernel
theorem dX8_see_87 : decode cX8_see 87 = .ok (.aload_n 0, 1) := by decide +kernel
theorem dX8_see_88 : decode cX8_see 88 = .ok (.getfield 7, 3) := by decide +kernel
theorem dX8_see_91 : decode cX8_see 91 = .ok (.bipush 26, 2) := by decide +kernel
theorem dX8_see_93 : decode cX8_see 93 = .ok (.iconst 2, 1) := by decide +kernel
theorem dX8_see_94 : decode cX8_see 94 = .ok (.aload_n 0, 1) := by decide +kernel
theorem dX8_see_95 : decode cX8_see 95 = .ok (.getfield 7, 3) := by decide +kernel
theorem dX8_see_98 : decode cX8_see 98 = .ok (.bipush 25, 2) := by decide +kernel
theorem dX8_see_100 : decode cX8_see 100 = .ok (.iaload, 1) := by decide +kernel
theorem dX8_see_101 : decode cX8_see 101 = .ok (.imul, 1) := by decide +kernel
theorem dX8_see_102 : decode cX8_see 102 = .ok (.iadd, 1) := by decide +kernel
theorem dX8_see_103 : decode cX8_see 103 = .ok (.iload_n 1, 1) := by decide +kernel
theorem dX8_see_104 : decode cX8_see 104 = .ok (.iastore, 1) := by decide +kernel
theorem dX8_see_105 : decode cX8_see 105 = .ok (.aload_n 0, 1) := by decide +kernel
theorem dX8_see_106 : decode cX8_see 106 = .ok (.getfield 7, 3) := by decide +kernel
theorem dX8_see_109 : decode cX8_see 109 = .ok (.bipush 27, 2) := by decide +kernel
theorem dX8_see_111 : decode cX8_see 111 = .ok (.iconst 2, 1) := by decide +kernel
theorem dX8_see_112 : decode cX8_see 112 = .ok (.aload_n 0, 1) := by decide +kernel
theorem dX8_see_113 : decode cX8_see 113 = .ok (.getfield 7, 3) := by decide +kernel
theorem dX8_see_116 : decode cX8_see 116 = .ok (.bipush 25, 2) := by decide +kernel
theorem dX8_see_118 : decode cX8_see 118 = .ok (.iaload, 1) := by decide +kernel
theorem dX8_see_119 : decode cX8_see 119 = .ok (.imul, 1) := by decide +kernel
theorem dX8_see_120 : decode cX8_see 120 = .ok (.iadd, 1) := by decide +kernel
theorem dX8_see_121 : decode cX8_see 121 = .ok (.iload_n 2, 1) := by decide +kernel
theorem dX8_see_122 : decode cX8_see 122 = .ok (.iastore, 1) := by decide +kernel
theorem dX8_see_123 : decode cX8_see 123 = .ok (.aload_n 0, 1) := by decide +kernel
theorem dX8_see_124 : decode cX8_see 124 = .ok (.getfield 7, 3) := by decide +kernel
theorem dX8_see_127 : decode cX8_see 127 = .ok (.bipush 25, 2) := by decide +kernel
theorem dX8_see_129 : decode cX8_see 129 = .ok (.dup2, 1) := by decide +kernel
theorem dX8_see_130 : decode cX8_see 130 = .ok (.iaload, 1) := by decide +kernel
theorem dX8_see_131 : decode cX8_see 131 = .ok (.iconst 1, 1) := by decide +kernel
theorem dX8_see_132 : decode cX8_see 132 = .ok (.iadd, 1) := by decide +kernel
theorem dX8_see_133 : decode cX8_see 133 = .ok (.iastore, 1) := by decide +kernel
theorem dX8_see_134 : decode cX8_see 134 = .ok (.aload_n 0, 1) := by decide +kernel
theorem dX8_see_135 : decode cX8_see 135 = .ok (.invokevirtual 135, 3) := by decide +kernel
theorem dX8_see_138 : decode cX8_see 138 = .ok (.ireturn, 1) := by decide +kernel
set_option maxRecDepth 20000 in
theorem ggX8_forget_X8_remember : GoodIn wsX8_forget wsX8_remember := goodIn_r _ [7, 8, 9, 10, 11, 12, 6, 13, 14, 2, 15, 16, 17, 18, 19, 20, 21, 22, 23, 24, 25, 26, 27, 28, 29, 30, 31] (by decide +kernel) (by decide +kernel)
set_option maxRecDepth 20000 in
theorem gX8_forget_X8_remember : GoodIn wsX8_forget (wsV RX8 188 RX8 yX8_remember wsX8_remember) := goodIn_app (goodIn_of _ (by decide +kernel)) ggX8_forget_X8_remember
theorem dX8_forget_0 : decode cX8_forget 0 = .ok (.aload_n 0, 1) := by decide +kernel
theorem dX8_forget_1 : decode cX8_forget 1 = .ok (.iconst 0, 1) := by decide +kernel
theorem dX8_forget_2 : decode cX8_forget 2 = .ok (.putfield 31, 3) := by decide +kernel
theorem dX8_forget_5 : decode cX8_forget 5 = .ok (.aload_n 0, 1) := by decide +kernel
theorem dX8_forget_6 : decode cX8_forget 6 = .ok (.invokevirtual 188, 3) := by decide +kernel
theorem dX8_forget_9 : decode cX8_forget 9 = .ok (.aload_n 0, 1) := by decide +kernel
theorem dX8_forget_10 : decode cX8_forget 10 = .ok (.getfield 7, 3) := by decide +kernel
theorem dX8_forget_13 : decode cX8_forget 13 = .ok (.bipush 25, 2) := by decide +kernel
theorem dX8_forget_15 : decode cX8_forget 15 = .ok (.iaload, 1) := by decide +kernel
theorem dX8_forget_16 : decode cX8_forget 16 = .ok (.istore_n 1, 1) := by decide +kernel
theorem dX8_forget_17 : decode cX8_forget 17 = .ok (.aload_n 0, 1) := by decide +kernel
theorem dX8_forget_18 : decode cX8_forget 18 = .ok (.getfield 7, 3) := by decide +kernel
theorem dX8_forget_21 : decode cX8_forget 21 = .ok (.bipush 25, 2) := by decide +kernel
theorem dX8_forget_23 : decode cX8_forget 23 = .ok (.iconst 0, 1) := by decide +kernel
theorem dX8_forget_24 : decode cX8_forget 24 = .ok (.iastore, 1) := by decide +kernel
theorem dX8_forget_25 : decode cX8_forget 25 = .ok (.iload_n 1, 1) := by decide +kernel
theorem dX8_forget_26 : decode cX8_forget 26 = .ok (.ireturn, 1) := by decide +kernel
set_option maxRecDepth 20000 in
theorem ggX8_undo_X8_refused : GoodIn wsX8_undo wsX8_refused := goodIn_r _ [8, 1, 15, 16, 17, 18, 19, 20, 21, 22, 23, 24, 25, 26, 27, 28, 29, 30, 31] (by decide +kernel) (by decide +kernel)
set_option maxRecDepth 20000 in
theorem gX8_undo_X8_refused : GoodIn wsX8_undo (wsV RX8 83 RX8 yX8_refused wsX8_refused) := goodIn_app (goodIn_of _ (by decide +kernel)) ggX8_undo_X8_refused
set_option maxRecDepth 20000 in
theorem ggX8_undo_X8_bring : GoodIn wsX8_undo wsX8_bring := goodIn_r _ [12, 13, 14, 15, 16, 17, 18, 19, 20, 21, 22, 23, 24, 25, 26, 27, 28, 29, 30, 31] (by decide +kernel) (by decide +kernel)
set_option maxRecDepth 20000 in
theorem gX8_undo_X8_bring : GoodIn wsX8_undo (wsV RX8 213 RX8 yX8_bring wsX8_bring) := goodIn_app (goodIn_of _ (by decide +kernel)) ggX8_undo_X8_bring
theorem dX8_undo_0 : decode cX8_undo 0 = .ok (.aload_n 0, 1) := by decide +kernel
theorem dX8_undo_1 : decode cX8_undo 1 = .ok (.iconst 0, 1) := by decide +kernel
theorem dX8_undo_2 : decode cX8_undo 2 = .ok (.putfield 31, 3) := by decide +kernel
theorem dX8_undo_5 : decode cX8_undo 5 = .ok (.aload_n 0, 1) := by decide +kernel
theorem dX8_undo_6 : decode cX8_undo 6 = .ok (.getfield 111, 3) := by decide +kernel
theorem dX8_undo_9 : decode cX8_undo 9 = .ok (.ifCond .ne 9, 3) := by decide +kernel
theorem dX8_undo_12 : decode cX8_undo 12 = .ok (.aload_n 0, 1) := by decide +kernel
theorem dX8_undo_13 : decode cX8_undo 13 = .ok (.iconst 1, 1) := by decide +kernel
theorem dX8_undo_14 : decode cX8_undo 14 = .ok (.invokevirtual 83, 3) := by decide +kernel
theorem dX8_undo_17 : decode cX8_undo 17 = .ok (.ireturn, 1) := by decide +kernel
theorem dX8_undo_18 : decode cX8_undo 18 = .ok (.aload_n 0, 1) := by decide +kernel
theorem dX8_undo_19 : decode cX8_undo 19 = .ok (.dup, 1) := by decide +kernel
theorem dX8_undo_20 : decode cX8_undo 20 = .ok (.getfield 111, 3) := by decide +kernel
theorem dX8_undo_23 : decode cX8_undo 23 = .ok (.iconst 1, 1) := by decide +kernel
theorem dX8_undo_24 : decode cX8_undo 24 = .ok (.isub, 1) := by decide +kernel
theorem dX8_undo_25 : decode cX8_undo 25 = .ok (.putfield 111, 3) := by decide +kernel
theorem dX8_undo_28 : decode cX8_undo 28 = .ok (.aload_n 0, 1) := by decide +kernel
theorem dX8_undo_29 : decode cX8_undo 29 = .ok (.aload_n 0, 1) := by decide +kernel
theorem dX8_undo_30 : decode cX8_undo 30 = .ok (.getfield 22, 3) := by decide +kernel
theorem dX8_undo_33 : decode cX8_undo 33 = .ok (.bipush 43, 2) := by decide +kernel
theorem dX8_undo_35 : decode cX8_undo 35 = .ok (.aload_n 0, 1) := by decide +kernel
theorem dX8_undo_36 : decode cX8_undo 36 = .ok (.getfield 111, 3) := by decide +kernel
theorem dX8_undo_39 : decode cX8_undo 39 = .ok (.imul, 1) := by decide +kernel
theorem dX8_undo_40 : decode cX8_undo 40 = .ok (.invokevirtual 213, 3) := by decide +kernel
theorem dX8_undo_43 : decode cX8_undo 43 = .ok (.aload_n 0, 1) := by decide +kernel
theorem dX8_undo_44 : decode cX8_undo 44 = .ok (.getfield 111, 3) := by decide +kernel
theorem dX8_undo_47 : decode cX8_undo 47 = .ok (.ireturn, 1) := by decide +kernel
set_option maxRecDepth 20000 in
theorem ggX8_bestStart_X8_isLayer : GoodIn wsX8_bestStart wsX8_isLayer := goodIn_r _ [7, 8, 9, 10, 6, 11, 56, 57, 58, 59, 60, 61, 62, 63, 64, 65, 66, 67, 68, 69, 70, 71, 72] (by decide +kernel) (by decide +kernel)
set_option maxRecDepth 20000 in
theorem gX8_bestStart_X8_isLayer : GoodIn wsX8_bestStart (wsV RX8 138 RX8 yX8_isLayer wsX8_isLayer) := goodIn_app (goodIn_of _ (by decide +kernel)) ggX8_bestStart_X8_isLayer
set_option maxRecDepth 20000 in
theorem ggX8_bestStart_X8_refused : GoodIn wsX8_bestStart wsX8_refused := goodIn_r _ [15, 1, 56, 57, 58, 59, 60, 61, 62, 63, 64, 65, 66, 67, 68, 69, 70, 71, 72] (by decide +kernel) (by decide +kernel)
set_option maxRecDepth 20000 in
theorem gX8_bestStart_X8_refused : GoodIn wsX8_bestStart (wsV RX8 83 RX8 yX8_refused wsX8_refused) := goodIn_app (goodIn_of _ (by decide +kernel)) ggX8_bestStart_X8_refused
set_option maxRecDepth 20000 in
theorem ggX8_bestStart_X8_inBoth : GoodIn wsX8_bestStart wsX8_inBoth := goodIn_r _ [19, 20, 21, 22, 23, 6, 24, 25, 26, 27, 28, 29, 30, 31, 32, 33, 2, 34, 35, 36, 37, 38, 39, 40, 41, 42, 43, 44, 45, 46, 47, 48, 49, 50, 51, 52, 53, 54, 55, 56, 57, 58, 59, 60, 61, 62, 63, 64, 65, 66, 67, 68, 69, 70, 71, 72] (by decide +kernel) (by decide +kernel)
set_option maxRecDepth 20000 in
theorem gX8_bestStart_X8_inBoth : GoodIn wsX8_bestStart (wsV RX8 168 RX8 yX8_inBoth wsX8_inBoth) := goodIn_app (goodIn_of _ (by decide +kernel)) ggX8_bestStart_X8_inBoth
theorem dX8_bestStart_0 : decode cX8_bestStart 0 = .ok (.aload_n 0, 1) := by decide +kernel
theorem dX8_bestStart_1 : decode cX8_bestStart 1 = .ok (.iconst 0, 1) := by decide +kernel
theorem dX8_bestStart_2 : decode cX8_bestStart 2 = .ok (.putfield 31, 3) := by decide +kernel
theorem dX8_bestStart_5 : decode cX8_bestStart 5 = .ok (.aload_n 0, 1) := by decide +kernel
theorem dX8_bestStart_6 : decode cX8_bestStart 6 = .ok (.iload_n 1, 1) := by decide +kernel
theorem dX8_bestStart_7 : decode cX8_bestStart 7 = .ok (.invokevirtual 138, 3) := by decide +kernel
theorem dX8_bestStart_10 : decode cX8_bestStart 10 = .ok (.ifCond .eq 11, 3) := by decide +kernel
theorem dX8_bestStart_13 : decode cX8_bestStart 13 = .ok (.aload_n 0, 1) := by decide +kernel
theorem dX8_bestStart_14 : decode cX8_bestStart 14 = .ok (.iload_n 2, 1) := by decide +kernel
theorem dX8_bestStart_15 : decode cX8_bestStart 15 = .ok (.invokevirtual 138, 3) := by decide +kernel
theorem dX8_bestStart_18 : decode cX8_bestStart 18 = .ok (.ifCond .ne 9, 3) := by decide +kernel
theorem dX8_bestStart_21 : decode cX8_bestStart 21 = .ok (.aload_n 0, 1) := by decide +kernel
theorem dX8_bestStart_22 : decode cX8_bestStart 22 = .ok (.iconst 1, 1) := by decide +kernel
theorem dX8_bestStart_23 : decode cX8_bestStart 23 = .ok (.invokevirtual 83, 3) := by decide +kernel
theorem dX8_bestStart_26 : decode cX8_bestStart 26 = .ok (.ireturn, 1) := by decide +kernel
theorem dX8_bestStart_27 : decode cX8_bestStart 27 = .ok (.iload_n 1, 1) := by decide +kernel
theorem dX8_bestStart_28 : decode cX8_bestStart 28 = .ok (.iload_n 2, 1) := by decide +kernel
theorem dX8_bestStart_29 : decode cX8_bestStart 29 = .ok (.if_icmp .ne 9, 3) := by decide +kernel
theorem dX8_bestStart_32 : decode cX8_bestStart 32 = .ok (.aload_n 0, 1) := by decide +kernel
theorem dX8_bestStart_33 : decode cX8_bestStart 33 = .ok (.iconst 2, 1) := by decide +kernel
theorem dX8_bestStart_34 : decode cX8_bestStart 34 = .ok (.invokevirtual 83, 3) := by decide +kernel
theorem dX8_bestStart_37 : decode cX8_bestStart 37 = .ok (.ireturn, 1) := by decide +kernel
theorem dX8_bestStart_38 : decode cX8_bestStart 38 = .ok (.iconst 4, 1) := by decide +kernel
theorem dX8_bestStart_39 : decode cX8_bestStart 39 = .ok (.iload_n 1, 1) := by decide +kernel
theorem dX8_bestStart_40 : decode cX8_bestStart 40 = .ok (.imul, 1) := by decide +kernel
theorem dX8_bestStart_41 : decode cX8_bestStart 41 = .ok (.iconst 4, 1) := by decide +kernel
theorem dX8_bestStart_42 : decode cX8_bestStart 42 = .ok (.iadd, 1) := by decide +kernel
theorem dX8_bestStart_43 : decode cX8_bestStart 43 = .ok (.istore_n 3, 1) := by decide +kernel
theorem dX8_bestStart_44 : decode cX8_bestStart 44 = .ok (.aload_n 0, 1) := by decide +kernel
theorem dX8_bestStart_45 : decode cX8_bestStart 45 = .ok (.getfield 7, 3) := by decide +kernel
theorem dX8_bestStart_48 : decode cX8_bestStart 48 = .ok (.iload_n 3, 1) := by decide +kernel
theorem dX8_bestStart_49 : decode cX8_bestStart 49 = .ok (.iaload, 1) := by decide +kernel
theorem dX8_bestStart_50 : decode cX8_bestStart 50 = .ok (.istore 4, 2) := by decide +kernel
theorem dX8_bestStart_52 : decode cX8_bestStart 52 = .ok (.iconst 0, 1) := by decide +kernel
theorem dX8_bestStart_53 : decode cX8_bestStart 53 = .ok (.istore 5, 2) := by decide +kernel
theorem dX8_bestStart_55 : decode cX8_bestStart 55 = .ok (.bipush (-9), 2) := by decide +kernel
theorem dX8_bestStart_57 : decode cX8_bestStart 57 = .ok (.istore 6, 2) := by decide +kernel
theorem dX8_bestStart_59 : decode cX8_bestStart 59 = .ok (.iconst 0, 1) := by decide +kernel
theorem dX8_bestStart_60 : decode cX8_bestStart 60 = .ok (.istore 7, 2) := by decide +kernel
theorem dX8_bestStart_62 : decode cX8_bestStart 62 = .ok (.iload 7, 2) := by decide +kernel
theorem dX8_bestStart_64 : decode cX8_bestStart 64 = .ok (.aload_n 0, 1) := by decide +kernel
theorem dX8_bestStart_65 : decode cX8_bestStart 65 = .ok (.getfield 7, 3) := by decide +kernel
theorem dX8_bestStart_68 : decode cX8_bestStart 68 = .ok (.iconst 0, 1) := by decide +kernel
theorem dX8_bestStart_69 : decode cX8_bestStart 69 = .ok (.iaload, 1) := by decide +kernel
theorem dX8_bestStart_70 : decode cX8_bestStart 70 = .ok (.if_icmp .ge 57, 3) := by decide +kernel
theorem dX8_bestStart_73 : decode cX8_bestStart 73 = .ok (.aload_n 0, 1) := by decide +kernel
theorem dX8_bestStart_74 : decode cX8_bestStart 74 = .ok (.getfield 7, 3) := by decide +kernel
theorem dX8_bestStart_77 : decode cX8_bestStart 77 = .ok (.iload_n 3, 1) := by decide +kernel
theorem dX8_bestStart_78 : decode cX8_bestStart 78 = .ok (.iload 7, 2) := by decide +kernel
theorem dX8_bestStart_80 : decode cX8_bestStart 80 = .ok (.iastore, 1) := by decide +kernel
theorem dX8_bestStart_81 : decode cX8_bestStart 81 = .ok (.aload_n 0, 1) := by decide +kernel
theorem dX8_bestStart_82 : decode cX8_bestStart 82 = .ok (.iload_n 1, 1) := by decide +kernel
theorem dX8_bestStart_83 : decode cX8_bestStart 83 = .ok (.iload_n 2, 1) := by decide +kernel
theorem dX8_bestStart_84 : decode cX8_bestStart 84 = .ok (.invokevirtual 168, 3) := by decide +kernel
theorem dX8_bestStart_87 : decode cX8_bestStart 87 = .ok (.istore 8, 2) := by decide +kernel
theorem dX8_bestStart_89 : decode cX8_bestStart 89 = .ok (.iload 8, 2) := by decide +kernel
theorem dX8_bestStart_91 : decode cX8_bestStart 91 = .ok (.iload 6, 2) := by decide +kernel
theorem dX8_bestStart_93 : decode cX8_bestStart 93 = .ok (.if_icmp .le 8, 3) := by decide +kernel
theorem dX8_bestStart_96 : decode cX8_bestStart 96 = .ok (.iload 7, 2) := by decide +kernel
theorem dX8_bestStart_98 : decode cX8_bestStart 98 = .ok (.goto 5, 3) := by decide +kernel
theorem dX8_bestStart_101 : decode cX8_bestStart 101 = .ok (.iload 5, 2) := by decide +kernel
theorem dX8_bestStart_103 : decode cX8_bestStart 103 = .ok (.istore 5, 2) := by decide +kernel
theorem dX8_bestStart_105 : decode cX8_bestStart 105 = .ok (.iload 8, 2) := by decide +kernel
theorem dX8_bestStart_107 : decode cX8_bestStart 107 = .ok (.iload 6, 2) := by decide +kernel
theorem dX8_bestStart_109 : decode cX8_bestStart 109 = .ok (.if_icmp .le 8, 3) := by decide +kernel
theorem dX8_bestStart_112 : decode cX8_bestStart 112 = .ok (.iload 8, 2) := by decide +kernel
theorem dX8_bestStart_114 : decode cX8_bestStart 114 = .ok (.goto 5, 3) := by decide +kernel
theorem dX8_bestStart_117 : decode cX8_bestStart 117 = .ok (.iload 6, 2) := by decide +kernel
theorem dX8_bestStart_119 : decode cX8_bestStart 119 = .ok (.istore 6, 2) := by decide +kernel
theorem dX8_bestStart_121 : decode cX8_bestStart 121 = .ok (.iinc 7 1, 3) := by decide +kernel
theorem dX8_bestStart_124 : decode cX8_bestStart 124 = .ok (.goto (-62), 3) := by decide +kernel
theorem dX8_bestStart_127 : decode cX8_bestStart 127 = .ok (.aload_n 0, 1) := by decide +kernel
theorem dX8_bestStart_128 : decode cX8_bestStart 128 = .ok (.getfield 7, 3) := by decide +kernel
theorem dX8_bestStart_131 : decode cX8_bestStart 131 = .ok (.iload_n 3, 1) := by decide +kernel
theorem dX8_bestStart_132 : decode cX8_bestStart 132 = .ok (.iload 4, 2) := by decide +kernel
theorem dX8_bestStart_134 : decode cX8_bestStart 134 = .ok (.iastore, 1) := by decide +kernel
theorem dX8_bestStart_135 : decode cX8_bestStart 135 = .ok (.iload 5, 2) := by decide +kernel
theorem dX8_bestStart_137 : decode cX8_bestStart 137 = .ok (.ireturn, 1) := by decide +kernel
set_option maxRecDepth 20000 in
theorem ggX8_brings_X8_divisor : GoodIn wsX8_brings wsX8_divisor := goodIn_r _ [5] (by decide +kernel) (by decide +kernel)
set_option maxRecDepth 20000 in
theorem gX8_brings_X8_divisor : GoodIn wsX8_brings (va_wsS RX8 46 yX8_divisor wsX8_divisor) := goodIn_app (goodIn_of _ (by decide +kernel)) ggX8_brings_X8_divisor
set_option maxRecDepth 20000 in
theorem ggX8_brings_X8_radius : GoodIn wsX8_brings wsX8_radius := goodIn_r _ [8] (by decide +kernel) (by decide +kernel)
set_option maxRecDepth 20000 in
theorem gX8_brings_X8_radius : GoodIn wsX8_brings (va_wsS RX8 53 yX8_radius wsX8_radius) := goodIn_app (goodIn_of _ (by decide +kernel)) ggX8_brings_X8_radius
theorem dX8_brings_0 : decode cX8_brings 0 = .ok (.aload_n 0, 1) := by decide +kernel
theorem dX8_brings_1 : decode cX8_brings 1 = .ok (.getfield 7, 3) := by decide +kernel
theorem dX8_brings_4 : decode cX8_brings 4 = .ok (.iconst 0, 1) := by decide +kernel
theorem dX8_brings_5 : decode cX8_brings 5 = .ok (.iaload, 1) := by decide +kernel
theorem dX8_brings_6 : decode cX8_brings 6 = .ok (.aload_n 0, 1) := by decide +kernel
theorem dX8_brings_7 : decode cX8_brings 7 = .ok (.getfield 7, 3) := by decide +kernel
theorem dX8_brings_10 : decode cX8_brings 10 = .ok (.iconst 0, 1) := by decide +kernel
theorem dX8_brings_11 : decode cX8_brings 11 = .ok (.iaload, 1) := by decide +kernel
theorem dX8_brings_12 : decode cX8_brings 12 = .ok (.iload_n 1, 1) := by decide +kernel
theorem dX8_brings_13 : decode cX8_brings 13 = .ok (.invokestatic 46, 3) := by decide +kernel
theorem dX8_brings_16 : decode cX8_brings 16 = .ok (.idiv, 1) := by decide +kernel
theorem dX8_brings_17 : decode cX8_brings 17 = .ok (.iload_n 1, 1) := by decide +kernel
theorem dX8_brings_18 : decode cX8_brings 18 = .ok (.imul, 1) := by decide +kernel
theorem dX8_brings_19 : decode cX8_brings 19 = .ok (.istore 7, 2) := by decide +kernel
theorem dX8_brings_21 : decode cX8_brings 21 = .ok (.iconst 0, 1) := by decide +kernel
theorem dX8_brings_22 : decode cX8_brings 22 = .ok (.istore 8, 2) := by decide +kernel
theorem dX8_brings_24 : decode cX8_brings 24 = .ok (.iload 8, 2) := by decide +kernel
theorem dX8_brings_26 : decode cX8_brings 26 = .ok (.iload 7, 2) := by decide +kernel
theorem dX8_brings_28 : decode cX8_brings 28 = .ok (.if_icmp .ge 43, 3) := by decide +kernel
theorem dX8_brings_31 : decode cX8_brings 31 = .ok (.iload 4, 2) := by decide +kernel
theorem dX8_brings_33 : decode cX8_brings 33 = .ok (.iload 8, 2) := by decide +kernel
theorem dX8_brings_35 : decode cX8_brings 35 = .ok (.iadd, 1) := by decide +kernel
theorem dX8_brings_36 : decode cX8_brings 36 = .ok (.aload_n 0, 1) := by decide +kernel
theorem dX8_brings_37 : decode cX8_brings 37 = .ok (.getfield 7, 3) := by decide +kernel
theorem dX8_brings_40 : decode cX8_brings 40 = .ok (.iconst 0, 1) := by decide +kernel
theorem dX8_brings_41 : decode cX8_brings 41 = .ok (.iaload, 1) := by decide +kernel
theorem dX8_brings_42 : decode cX8_brings 42 = .ok (.irem, 1) := by decide +kernel
theorem dX8_brings_43 : decode cX8_brings 43 = .ok (.iload 5, 2) := by decide +kernel
theorem dX8_brings_45 : decode cX8_brings 45 = .ok (.if_icmp .ne 20, 3) := by decide +kernel
theorem dX8_brings_48 : decode cX8_brings 48 = .ok (.iload_n 1, 1) := by decide +kernel
theorem dX8_brings_49 : decode cX8_brings 49 = .ok (.iload_n 2, 1) := by decide +kernel
theorem dX8_brings_50 : decode cX8_brings 50 = .ok (.iload_n 3, 1) := by decide +kernel
theorem dX8_brings_51 : decode cX8_brings 51 = .ok (.iload 8, 2) := by decide +kernel
theorem dX8_brings_53 : decode cX8_brings 53 = .ok (.iload_n 1, 1) := by decide +kernel
theorem dX8_brings_54 : decode cX8_brings 54 = .ok (.irem, 1) := by decide +kernel
theorem dX8_brings_55 : decode cX8_brings 55 = .ok (.invokestatic 53, 3) := by decide +kernel
theorem dX8_brings_58 : decode cX8_brings 58 = .ok (.iload 6, 2) := by decide +kernel
theorem dX8_brings_60 : decode cX8_brings 60 = .ok (.if_icmp .ne 5, 3) := by decide +kernel
theorem dX8_brings_63 : decode cX8_brings 63 = .ok (.iconst 1, 1) := by decide +kernel
theorem dX8_brings_64 : decode cX8_brings 64 = .ok (.ireturn, 1) := by decide +kernel
theorem dX8_brings_65 : decode cX8_brings 65 = .ok (.iinc 8 1, 3) := by decide +kernel
theorem dX8_brings_68 : decode cX8_brings 68 = .ok (.goto (-44), 3) := by decide +kernel
theorem dX8_brings_71 : decode cX8_brings 71 = .ok (.iconst 0, 1) := by decide +kernel
theorem dX8_brings_72 : decode cX8_brings 72 = .ok (.ireturn, 1) := by decide +kernel
set_option maxRecDepth 20000 in
theorem ggX8_wouldFit_X8_brings : GoodIn wsX8_wouldFit wsX8_brings := goodIn_r _ [6, 1, 7, 8, 5, 9, 10, 11, 12, 13, 14, 15, 16, 17, 18, 19, 20, 21, 22, 23, 24, 25, 26, 27, 28, 29] (by decide +kernel) (by decide +kernel)
set_option maxRecDepth 20000 in
theorem gX8_wouldFit_X8_brings : GoodIn wsX8_wouldFit (wsV RX8 216 RX8 yX8_brings wsX8_brings) := goodIn_app (goodIn_of _ (by decide +kernel)) ggX8_wouldFit_X8_brings
theorem dX8_wouldFit_0 : decode cX8_wouldFit 0 = .ok (.iconst 0, 1) := by decide +kernel
theorem dX8_wouldFit_1 : decode cX8_wouldFit 1 = .ok (.istore 5, 2) := by decide +kernel
theorem dX8_wouldFit_3 : decode cX8_wouldFit 3 = .ok (.iload 5, 2) := by decide +kernel
theorem dX8_wouldFit_5 : decode cX8_wouldFit 5 = .ok (.aload_n 0, 1) := by decide +kernel
theorem dX8_wouldFit_6 : decode cX8_wouldFit 6 = .ok (.getfield 7, 3) := by decide +kernel
theorem dX8_wouldFit_9 : decode cX8_wouldFit 9 = .ok (.bipush 25, 2) := by decide +kernel
theorem dX8_wouldFit_11 : decode cX8_wouldFit 11 = .ok (.iaload, 1) := by decide +kernel
theorem dX8_wouldFit_12 : decode cX8_wouldFit 12 = .ok (.if_icmp .ge 47, 3) := by decide +kernel
theorem dX8_wouldFit_15 : decode cX8_wouldFit 15 = .ok (.aload_n 0, 1) := by decide +kernel
theorem dX8_wouldFit_16 : decode cX8_wouldFit 16 = .ok (.iload_n 1, 1) := by decide +kernel
theorem dX8_wouldFit_17 : decode cX8_wouldFit 17 = .ok (.iload_n 2, 1) := by decide +kernel
theorem dX8_wouldFit_18 : decode cX8_wouldFit 18 = .ok (.iload_n 3, 1) := by decide +kernel
theorem dX8_wouldFit_19 : decode cX8_wouldFit 19 = .ok (.iload 4, 2) := by decide +kernel
theorem dX8_wouldFit_21 : decode cX8_wouldFit 21 = .ok (.aload_n 0, 1) := by decide +kernel
theorem dX8_wouldFit_22 : decode cX8_wouldFit 22 = .ok (.getfield 7, 3) := by decide +kernel
theorem dX8_wouldFit_25 : decode cX8_wouldFit 25 = .ok (.bipush 26, 2) := by decide +kernel
theorem dX8_wouldFit_27 : decode cX8_wouldFit 27 = .ok (.iconst 2, 1) := by decide +kernel
theorem dX8_wouldFit_28 : decode cX8_wouldFit 28 = .ok (.iload 5, 2) := by decide +kernel
theorem dX8_wouldFit_30 : decode cX8_wouldFit 30 = .ok (.imul, 1) := by decide +kernel
theorem dX8_wouldFit_31 : decode cX8_wouldFit 31 = .ok (.iadd, 1) := by decide +kernel
theorem dX8_wouldFit_32 : decode cX8_wouldFit 32 = .ok (.iaload, 1) := by decide +kernel
theorem dX8_wouldFit_33 : decode cX8_wouldFit 33 = .ok (.aload_n 0, 1) := by decide +kernel
theorem dX8_wouldFit_34 : decode cX8_wouldFit 34 = .ok (.getfield 7, 3) := by decide +kernel
theorem dX8_wouldFit_37 : decode cX8_wouldFit 37 = .ok (.bipush 27, 2) := by decide +kernel
theorem dX8_wouldFit_39 : decode cX8_wouldFit 39 = .ok (.iconst 2, 1) := by decide +kernel
theorem dX8_wouldFit_40 : decode cX8_wouldFit 40 = .ok (.iload 5, 2) := by decide +kernel
theorem dX8_wouldFit_42 : decode cX8_wouldFit 42 = .ok (.imul, 1) := by decide +kernel
theorem dX8_wouldFit_43 : decode cX8_wouldFit 43 = .ok (.iadd, 1) := by decide +kernel
theorem dX8_wouldFit_44 : decode cX8_wouldFit 44 = .ok (.iaload, 1) := by decide +kernel
theorem dX8_wouldFit_45 : decode cX8_wouldFit 45 = .ok (.invokevirtual 216, 3) := by decide +kernel
theorem dX8_wouldFit_48 : decode cX8_wouldFit 48 = .ok (.ifCond .ne 5, 3) := by decide +kernel
theorem dX8_wouldFit_51 : decode cX8_wouldFit 51 = .ok (.iconst 0, 1) := by decide +kernel
theorem dX8_wouldFit_52 : decode cX8_wouldFit 52 = .ok (.ireturn, 1) := by decide +kernel
theorem dX8_wouldFit_53 : decode cX8_wouldFit 53 = .ok (.iinc 5 1, 3) := by decide +kernel
theorem dX8_wouldFit_56 : decode cX8_wouldFit 56 = .ok (.goto (-53), 3) := by decide +kernel
theorem dX8_wouldFit_59 : decode cX8_wouldFit 59 = .ok (.iconst 1, 1) := by decide +kernel
theorem dX8_wouldFit_60 : decode cX8_wouldFit 60 = .ok (.ireturn, 1) := by decide +kernel
set_option maxRecDepth 20000 in
theorem ggX8_wheels_X8_canBe : GoodIn wsX8_wheels wsX8_canBe := goodIn_r _ [7, 8, 9, 10, 6, 11, 12, 13, 14, 15, 16, 17, 18, 19, 20, 21, 22, 41, 42, 43, 44, 45, 46, 47, 48, 49, 50, 51, 52, 53, 54, 55, 56, 57] (by decide +kernel) (by decide +kernel)
set_option maxRecDepth 20000 in
theorem gX8_wheels_X8_canBe : GoodIn wsX8_wheels (wsV RX8 203 RX8 yX8_canBe wsX8_canBe) := goodIn_app (goodIn_of _ (by decide +kernel)) ggX8_wheels_X8_canBe
set_option maxRecDepth 20000 in
theorem ggX8_wheels_X8_in : GoodIn wsX8_wheels wsX8_in := goodIn_r _ [17] (by decide +kernel) (by decide +kernel)
set_option maxRecDepth 20000 in
theorem gX8_wheels_X8_in : GoodIn wsX8_wheels (va_wsS RX8 38 yX8_in wsX8_in) := goodIn_app (goodIn_of _ (by decide +kernel)) ggX8_wheels_X8_in
set_option maxRecDepth 20000 in
theorem ggX8_wheels_X8_refused : GoodIn wsX8_wheels wsX8_refused := goodIn_r _ [26, 1, 41, 42, 43, 44, 45, 46, 47, 48, 49, 50, 51, 52, 53, 54, 55, 56, 57] (by decide +kernel) (by decide +kernel)
set_option maxRecDepth 20000 in
theorem gX8_wheels_X8_refused : GoodIn wsX8_wheels (wsV RX8 83 RX8 yX8_refused wsX8_refused) := goodIn_app (goodIn_of _ (by decide +kernel)) ggX8_wheels_X8_refused
set_option maxRecDepth 20000 in
theorem ggX8_wheels_X8_wouldFit : GoodIn wsX8_wheels wsX8_wouldFit := goodIn_r _ [30, 22, 31, 32, 33, 6, 34, 35, 36, 37, 38, 39, 40, 41, 42, 43, 44, 45, 46, 47, 48, 49, 50, 51, 52, 53, 54, 55, 56, 57] (by decide +kernel) (by decide +kernel)
set_option maxRecDepth 20000 in
theorem gX8_wheels_X8_wouldFit : GoodIn wsX8_wheels (wsV RX8 220 RX8 yX8_wouldFit wsX8_wouldFit) := goodIn_app (goodIn_of _ (by decide +kernel)) ggX8_wheels_X8_wouldFit
theorem dX8_wheels_0 : decode cX8_wheels 0 = .ok (.aload_n 0, 1) := by decide +kernel
theorem dX8_wheels_1 : decode cX8_wheels 1 = .ok (.iconst 0, 1) := by decide +kernel
theorem dX8_wheels_2 : decode cX8_wheels 2 = .ok (.putfield 31, 3) := by decide +kernel
theorem dX8_wheels_5 : decode cX8_wheels 5 = .ok (.aload_n 0, 1) := by decide +kernel
theorem dX8_wheels_6 : decode cX8_wheels 6 = .ok (.iconst 5, 1) := by decide +kernel
theorem dX8_wheels_7 : decode cX8_wheels 7 = .ok (.iload_n 1, 1) := by decide +kernel
theorem dX8_wheels_8 : decode cX8_wheels 8 = .ok (.iload_n 2, 1) := by decide +kernel
theorem dX8_wheels_9 : decode cX8_wheels 9 = .ok (.iload_n 3, 1) := by decide +kernel
theorem dX8_wheels_10 : decode cX8_wheels 10 = .ok (.invokevirtual 203, 3) := by decide +kernel
theorem dX8_wheels_13 : decode cX8_wheels 13 = .ok (.ifCond .eq 16, 3) := by decide +kernel
theorem dX8_wheels_16 : decode cX8_wheels 16 = .ok (.iload 4, 2) := by decide +kernel
theorem dX8_wheels_18 : decode cX8_wheels 18 = .ok (.i2l, 1) := by decide +kernel
theorem dX8_wheels_19 : decode cX8_wheels 19 = .ok (.lconst 0, 1) := by decide +kernel
theorem dX8_wheels_20 : decode cX8_wheels 20 = .ok (.ldc2_w 166, 3) := by decide +kernel
theorem dX8_wheels_23 : decode cX8_wheels 23 = .ok (.invokestatic 38, 3) := by decide +kernel
theorem dX8_wheels_26 : decode cX8_wheels 26 = .ok (.ifCond .ne 9, 3) := by decide +kernel
theorem dX8_wheels_29 : decode cX8_wheels 29 = .ok (.aload_n 0, 1) := by decide +kernel
theorem dX8_wheels_30 : decode cX8_wheels 30 = .ok (.iconst 1, 1) := by decide +kernel
theorem dX8_wheels_31 : decode cX8_wheels 31 = .ok (.invokevirtual 83, 3) := by decide +kernel
theorem dX8_wheels_34 : decode cX8_wheels 34 = .ok (.ireturn, 1) := by decide +kernel
theorem dX8_wheels_35 : decode cX8_wheels 35 = .ok (.iconst 0, 1) := by decide +kernel
theorem dX8_wheels_36 : decode cX8_wheels 36 = .ok (.istore 5, 2) := by decide +kernel
theorem dX8_wheels_38 : decode cX8_wheels 38 = .ok (.bipush (-9), 2) := by decide +kernel
theorem dX8_wheels_40 : decode cX8_wheels 40 = .ok (.istore 6, 2) := by decide +kernel
theorem dX8_wheels_42 : decode cX8_wheels 42 = .ok (.bipush (-9), 2) := by decide +kernel
theorem dX8_wheels_44 : decode cX8_wheels 44 = .ok (.istore 7, 2) := by decide +kernel
theorem dX8_wheels_46 : decode cX8_wheels 46 = .ok (.iconst 5, 1) := by decide +kernel
theorem dX8_wheels_47 : decode cX8_wheels 47 = .ok (.istore 8, 2) := by decide +kernel
theorem dX8_wheels_49 : decode cX8_wheels 49 = .ok (.iload 8, 2) := by decide +kernel
theorem dX8_wheels_51 : decode cX8_wheels 51 = .ok (.bipush 60, 2) := by decide +kernel
theorem dX8_wheels_53 : decode cX8_wheels 53 = .ok (.if_icmp .gt 44, 3) := by decide +kernel
theorem dX8_wheels_56 : decode cX8_wheels 56 = .ok (.aload_n 0, 1) := by decide +kernel
theorem dX8_wheels_57 : decode cX8_wheels 57 = .ok (.iload 8, 2) := by decide +kernel
theorem dX8_wheels_59 : decode cX8_wheels 59 = .ok (.iload_n 1, 1) := by decide +kernel
theorem dX8_wheels_60 : decode cX8_wheels 60 = .ok (.iload_n 2, 1) := by decide +kernel
theorem dX8_wheels_61 : decode cX8_wheels 61 = .ok (.iload_n 3, 1) := by decide +kernel
theorem dX8_wheels_62 : decode cX8_wheels 62 = .ok (.invokevirtual 220, 3) := by decide +kernel
theorem dX8_wheels_65 : decode cX8_wheels 65 = .ok (.ifCond .eq 26, 3) := by decide +kernel
theorem dX8_wheels_68 : decode cX8_wheels 68 = .ok (.iinc 5 1, 3) := by decide +kernel
theorem dX8_wheels_71 : decode cX8_wheels 71 = .ok (.iload 6, 2) := by decide +kernel
theorem dX8_wheels_73 : decode cX8_wheels 73 = .ok (.bipush (-9), 2) := by decide +kernel
theorem dX8_wheels_75 : decode cX8_wheels 75 = .ok (.if_icmp .ne 8, 3) := by decide +kernel
theorem dX8_wheels_78 : decode cX8_wheels 78 = .ok (.iload 8, 2) := by decide +kernel
theorem dX8_wheels_80 : decode cX8_wheels 80 = .ok (.goto 5, 3) := by decide +kernel
theorem dX8_wheels_83 : decode cX8_wheels 83 = .ok (.iload 6, 2) := by decide +kernel
theorem dX8_wheels_85 : decode cX8_wheels 85 = .ok (.istore 6, 2) := by decide +kernel
theorem dX8_wheels_87 : decode cX8_wheels 87 = .ok (.iload 8, 2) := by decide +kernel
theorem dX8_wheels_89 : decode cX8_wheels 89 = .ok (.istore 7, 2) := by decide +kernel
theorem dX8_wheels_91 : decode cX8_wheels 91 = .ok (.iinc 8 1, 3) := by decide +kernel
theorem dX8_wheels_94 : decode cX8_wheels 94 = .ok (.goto (-45), 3) := by decide +kernel
theorem dX8_wheels_97 : decode cX8_wheels 97 = .ok (.iload 4, 2) := by decide +kernel
theorem dX8_wheels_99 : decode cX8_wheels 99 = .ok (.ifCond .ne 8, 3) := by decide +kernel
theorem dX8_wheels_102 : decode cX8_wheels 102 = .ok (.iload 5, 2) := by decide +kernel
theorem dX8_wheels_104 : decode cX8_wheels 104 = .ok (.goto 16, 3) := by decide +kernel
theorem dX8_wheels_107 : decode cX8_wheels 107 = .ok (.iload 4, 2) := by decide +kernel
theorem dX8_wheels_109 : decode cX8_wheels 109 = .ok (.iconst 1, 1) := by decide +kernel
theorem dX8_wheels_110 : decode cX8_wheels 110 = .ok (.if_icmp .ne 8, 3) := by decide +kernel
theorem dX8_wheels_113 : decode cX8_wheels 113 = .ok (.iload 6, 2) := by decide +kernel
theorem dX8_wheels_115 : decode cX8_wheels 115 = .ok (.goto 5, 3) := by decide +kernel
theorem dX8_wheels_118 : decode cX8_wheels 118 = .ok (.iload 7, 2) := by decide +kernel
theorem dX8_wheels_120 : decode cX8_wheels 120 = .ok (.ireturn, 1) := by decide +kernel
set_option maxRecDepth 20000 in
theorem ggX8_wheelFor_X8_in : GoodIn wsX8_wheelFor wsX8_in := goodIn_r _ [7] (by decide +kernel) (by decide +kernel)
set_option maxRecDepth 20000 in
theorem gX8_wheelFor_X8_in : GoodIn wsX8_wheelFor (va_wsS RX8 38 yX8_in wsX8_in) := goodIn_app (goodIn_of _ (by decide +kernel)) ggX8_wheelFor_X8_in
set_option maxRecDepth 20000 in
theorem ggX8_wheelFor_X8_refused : GoodIn wsX8_wheelFor wsX8_refused := goodIn_r _ [11, 1, 15, 16, 17, 18, 19, 20, 21, 22, 23, 24, 25, 26, 27, 28, 29, 30, 31] (by decide +kernel) (by decide +kernel)
set_option maxRecDepth 20000 in
theorem gX8_wheelFor_X8_refused : GoodIn wsX8_wheelFor (wsV RX8 83 RX8 yX8_refused wsX8_refused) := goodIn_app (goodIn_of _ (by decide +kernel)) ggX8_wheelFor_X8_refused
set_option maxRecDepth 20000 in
theorem ggX8_wheelFor_X8_divisor : GoodIn wsX8_wheelFor wsX8_divisor := goodIn_r _ [14] (by decide +kernel) (by decide +kernel)
set_option maxRecDepth 20000 in
theorem gX8_wheelFor_X8_divisor : GoodIn wsX8_wheelFor (va_wsS RX8 46 yX8_divisor wsX8_divisor) := goodIn_app (goodIn_of _ (by decide +kernel)) ggX8_wheelFor_X8_divisor
theorem dX8_wheelFor_0 : decode cX8_wheelFor 0 = .ok (.aload_n 0, 1) := by decide +kernel
theorem dX8_wheelFor_1 : decode cX8_wheelFor 1 = .ok (.iconst 0, 1) := by decide +kernel
theorem dX8_wheelFor_2 : decode cX8_wheelFor 2 = .ok (.putfield 31, 3) := by decide +kernel
theorem dX8_wheelFor_5 : decode cX8_wheelFor 5 = .ok (.iload_n 1, 1) := by decide +kernel
theorem dX8_wheelFor_6 : decode cX8_wheelFor 6 = .ok (.i2l, 1) := by decide +kernel
theorem dX8_wheelFor_7 : decode cX8_wheelFor 7 = .ok (.lconst 1, 1) := by decide +kernel
theorem dX8_wheelFor_8 : decode cX8_wheelFor 8 = .ok (.ldc2_w 196, 3) := by decide +kernel
theorem dX8_wheelFor_11 : decode cX8_wheelFor 11 = .ok (.invokestatic 38, 3) := by decide +kernel
theorem dX8_wheelFor_14 : decode cX8_wheelFor 14 = .ok (.ifCond .ne 9, 3) := by decide +kernel
theorem dX8_wheelFor_17 : decode cX8_wheelFor 17 = .ok (.aload_n 0, 1) := by decide +kernel
theorem dX8_wheelFor_18 : decode cX8_wheelFor 18 = .ok (.iconst 1, 1) := by decide +kernel
theorem dX8_wheelFor_19 : decode cX8_wheelFor 19 = .ok (.invokevirtual 83, 3) := by decide +kernel
theorem dX8_wheelFor_22 : decode cX8_wheelFor 22 = .ok (.ireturn, 1) := by decide +kernel
theorem dX8_wheelFor_23 : decode cX8_wheelFor 23 = .ok (.bipush 60, 2) := by decide +kernel
theorem dX8_wheelFor_25 : decode cX8_wheelFor 25 = .ok (.istore_n 2, 1) := by decide +kernel
theorem dX8_wheelFor_26 : decode cX8_wheelFor 26 = .ok (.iload_n 2, 1) := by decide +kernel
theorem dX8_wheelFor_27 : decode cX8_wheelFor 27 = .ok (.iconst 5, 1) := by decide +kernel
theorem dX8_wheelFor_28 : decode cX8_wheelFor 28 = .ok (.if_icmp .lt 27, 3) := by decide +kernel
theorem dX8_wheelFor_31 : decode cX8_wheelFor 31 = .ok (.iload_n 2, 1) := by decide +kernel
theorem dX8_wheelFor_32 : decode cX8_wheelFor 32 = .ok (.aload_n 0, 1) := by decide +kernel
theorem dX8_wheelFor_33 : decode cX8_wheelFor 33 = .ok (.getfield 7, 3) := by decide +kernel
theorem dX8_wheelFor_36 : decode cX8_wheelFor 36 = .ok (.iconst 0, 1) := by decide +kernel
theorem dX8_wheelFor_37 : decode cX8_wheelFor 37 = .ok (.iaload, 1) := by decide +kernel
theorem dX8_wheelFor_38 : decode cX8_wheelFor 38 = .ok (.iload_n 2, 1) := by decide +kernel
theorem dX8_wheelFor_39 : decode cX8_wheelFor 39 = .ok (.invokestatic 46, 3) := by decide +kernel
theorem dX8_wheelFor_42 : decode cX8_wheelFor 42 = .ok (.idiv, 1) := by decide +kernel
theorem dX8_wheelFor_43 : decode cX8_wheelFor 43 = .ok (.iload_n 1, 1) := by decide +kernel
theorem dX8_wheelFor_44 : decode cX8_wheelFor 44 = .ok (.if_icmp .ne 5, 3) := by decide +kernel
theorem dX8_wheelFor_47 : decode cX8_wheelFor 47 = .ok (.iload_n 2, 1) := by decide +kernel
theorem dX8_wheelFor_48 : decode cX8_wheelFor 48 = .ok (.ireturn, 1) := by decide +kernel
theorem dX8_wheelFor_49 : decode cX8_wheelFor 49 = .ok (.iinc 2 (-1), 3) := by decide +kernel
theorem dX8_wheelFor_52 : decode cX8_wheelFor 52 = .ok (.goto (-26), 3) := by decide +kernel
theorem dX8_wheelFor_55 : decode cX8_wheelFor 55 = .ok (.bipush (-9), 2) := by decide +kernel
theorem dX8_wheelFor_57 : decode cX8_wheelFor 57 = .ok (.ireturn, 1) := by decide +kernel
set_option maxRecDepth 20000 in
theorem ggX8_succeeds_X8_isLayer : GoodIn wsX8_succeeds wsX8_isLayer := goodIn_r _ [7, 2, 8, 9, 6, 10, 111, 112, 113, 114, 115, 116, 117, 118, 119, 120, 121, 122, 123, 124, 125, 126, 127] (by decide +kernel) (by decide +kernel)
set_option maxRecDepth 20000 in
theorem gX8_succeeds_X8_isLayer : GoodIn wsX8_succeeds (wsV RX8 138 RX8 yX8_isLayer wsX8_isLayer) := goodIn_app (goodIn_of _ (by decide +kernel)) ggX8_succeeds_X8_isLayer
set_option maxRecDepth 20000 in
theorem ggX8_succeeds_X8_can : GoodIn wsX8_succeeds wsX8_can := goodIn_r _ [14, 15, 16, 17, 8, 9, 6, 10, 18, 19, 20, 21, 1, 111, 112, 113, 114, 115, 116, 117, 118, 119, 120, 121, 122, 123, 124, 125, 126, 127] (by decide +kernel) (by decide +kernel)
set_option maxRecDepth 20000 in
theorem gX8_succeeds_X8_can : GoodIn wsX8_succeeds (wsV RX8 200 RX8 yX8_can wsX8_can) := goodIn_app (goodIn_of _ (by decide +kernel)) ggX8_succeeds_X8_can
set_option maxRecDepth 20000 in
theorem ggX8_succeeds_X8_drop : GoodIn wsX8_succeeds wsX8_drop := goodIn_r _ [25, 1, 2, 111, 112, 113, 114, 115, 116, 117, 118, 119, 120, 121, 122, 123, 124, 125, 126, 127] (by decide +kernel) (by decide +kernel)
set_option maxRecDepth 20000 in
theorem gX8_succeeds_X8_drop : GoodIn wsX8_succeeds (wsV RX8 210 RX8 yX8_drop wsX8_drop) := goodIn_app (goodIn_of _ (by decide +kernel)) ggX8_succeeds_X8_drop
set_option maxRecDepth 20000 in
theorem ggX8_succeeds_X8_isTeeth : GoodIn wsX8_succeeds wsX8_isTeeth := goodIn_r _ [28, 29, 30, 8, 9, 6, 10] (by decide +kernel) (by decide +kernel)
set_option maxRecDepth 20000 in
theorem gX8_succeeds_X8_isTeeth : GoodIn wsX8_succeeds (va_wsS RX8 185 yX8_isTeeth wsX8_isTeeth) := goodIn_app (goodIn_of _ (by decide +kernel)) ggX8_succeeds_X8_isTeeth
set_option maxRecDepth 20000 in
theorem ggX8_succeeds_X8_takeRing : GoodIn wsX8_succeeds wsX8_takeRing := goodIn_r _ [34, 1, 2, 35, 36, 37, 6, 38, 111, 112, 113, 114, 115, 116, 117, 118, 119, 120, 121, 122, 123, 124, 125, 126, 127] (by decide +kernel) (by decide +kernel)
set_option maxRecDepth 20000 in
theorem gX8_succeeds_X8_takeRing : GoodIn wsX8_succeeds (wsV RX8 191 RX8 yX8_takeRing wsX8_takeRing) := goodIn_app (goodIn_of _ (by decide +kernel)) ggX8_succeeds_X8_takeRing
set_option maxRecDepth 20000 in
theorem ggX8_succeeds_X8_canBe : GoodIn wsX8_succeeds wsX8_canBe := goodIn_r _ [42, 11, 12, 13, 6, 14, 15, 16, 17, 8, 9, 10, 18, 19, 20, 21, 1, 111, 112, 113, 114, 115, 116, 117, 118, 119, 120, 121, 122, 123, 124, 125, 126, 127] (by decide +kernel) (by decide +kernel)
set_option maxRecDepth 20000 in
theorem gX8_succeeds_X8_canBe : GoodIn wsX8_succeeds (wsV RX8 203 RX8 yX8_canBe wsX8_canBe) := goodIn_app (goodIn_of _ (by decide +kernel)) ggX8_succeeds_X8_canBe
set_option maxRecDepth 20000 in
theorem ggX8_succeeds_X8_lay : GoodIn wsX8_succeeds wsX8_lay := goodIn_r _ [46, 2, 1, 111, 112, 113, 114, 115, 116, 117, 118, 119, 120, 121, 122, 123, 124, 125, 126, 127] (by decide +kernel) (by decide +kernel)
set_option maxRecDepth 20000 in
theorem gX8_succeeds_X8_lay : GoodIn wsX8_succeeds (wsV RX8 207 RX8 yX8_lay wsX8_lay) := goodIn_app (goodIn_of _ (by decide +kernel)) ggX8_succeeds_X8_lay
set_option maxRecDepth 20000 in
theorem ggX8_succeeds_X8_inBoth : GoodIn wsX8_succeeds wsX8_inBoth := goodIn_r _ [50, 51, 52, 53, 54, 6, 55, 56, 57, 58, 59, 60, 61, 62, 63, 64, 1, 65, 66, 67, 68, 69, 70, 71, 72, 73, 74, 75, 35, 36, 37, 38, 76, 77, 78, 79, 80, 81, 82, 111, 112, 113, 114, 115, 116, 117, 118, 119, 120, 121, 122, 123, 124, 125, 126, 127] (by decide +kernel) (by decide +kernel)
set_option maxRecDepth 20000 in
theorem gX8_succeeds_X8_inBoth : GoodIn wsX8_succeeds (wsV RX8 168 RX8 yX8_inBoth wsX8_inBoth) := goodIn_app (goodIn_of _ (by decide +kernel)) ggX8_succeeds_X8_inBoth
set_option maxRecDepth 20000 in
theorem ggX8_succeeds_X8_turns : GoodIn wsX8_succeeds wsX8_turns := goodIn_r _ [86, 1, 61, 62, 63, 6, 64, 65, 66, 67, 68, 69, 70, 71, 111, 112, 113, 114, 115, 116, 117, 118, 119, 120, 121, 122, 123, 124, 125, 126, 127] (by decide +kernel) (by decide +kernel)
set_option maxRecDepth 20000 in
theorem gX8_succeeds_X8_turns : GoodIn wsX8_succeeds (wsV RX8 141 RX8 yX8_turns wsX8_turns) := goodIn_app (goodIn_of _ (by decide +kernel)) ggX8_succeeds_X8_turns
set_option maxRecDepth 20000 in
theorem ggX8_succeeds_X8_turnedBy : GoodIn wsX8_succeeds wsX8_turnedBy := goodIn_r _ [90, 1, 51, 56, 57, 58, 6, 59, 60, 61, 62, 63, 64, 65, 66, 67, 68, 69, 70, 71, 72, 73, 74, 75, 35, 36, 37, 38, 76, 77, 78, 79, 80, 81, 82, 91, 92, 93, 94, 52, 53, 54, 55, 111, 112, 113, 114, 115, 116, 117, 118, 119, 120, 121, 122, 123, 124, 125, 126, 127] (by decide +kernel) (by decide +kernel)
set_option maxRecDepth 20000 in
theorem gX8_succeeds_X8_turnedBy : GoodIn wsX8_succeeds (wsV RX8 174 RX8 yX8_turnedBy wsX8_turnedBy) := goodIn_app (goodIn_of _ (by decide +kernel)) ggX8_succeeds_X8_turnedBy
set_option maxRecDepth 20000 in
theorem ggX8_succeeds_X8_fitting : GoodIn wsX8_succeeds wsX8_fitting := goodIn_r _ [98, 2, 99, 100, 101, 6, 102, 1, 103, 104, 105, 106, 61, 62, 63, 64, 65, 66, 67, 68, 69, 70, 71, 72, 73, 74, 75, 35, 36, 37, 38, 76, 77, 78, 79, 80, 81, 82, 111, 112, 113, 114, 115, 116, 117, 118, 119, 120, 121, 122, 123, 124, 125, 126, 127] (by decide +kernel) (by decide +kernel)
set_option maxRecDepth 20000 in
theorem gX8_succeeds_X8_fitting : GoodIn wsX8_succeeds (wsV RX8 135 RX8 yX8_fitting wsX8_fitting) := goodIn_app (goodIn_of _ (by decide +kernel)) ggX8_succeeds_X8_fitting
set_option maxRecDepth 20000 in
theorem ggX8_succeeds_X8_lobes : GoodIn wsX8_succeeds wsX8_lobes := goodIn_r _ [110, 61, 62, 63, 6, 64, 1, 65, 66, 67, 68, 69, 70, 71, 111, 112, 113, 114, 115, 116, 117, 118, 119, 120, 121, 122, 123, 124, 125, 126, 127] (by decide +kernel) (by decide +kernel)
set_option maxRecDepth 20000 in
theorem gX8_succeeds_X8_lobes : GoodIn wsX8_succeeds (wsV RX8 144 RX8 yX8_lobes wsX8_lobes) := goodIn_app (goodIn_of _ (by decide +kernel)) ggX8_succeeds_X8_lobes
theorem dX8_succeeds_0 : decode cX8_succeeds 0 = .ok (.iload_n 1, 1) := by decide +kernel
theorem dX8_succeeds_1 : decode cX8_succeeds 1 = .ok (.sipush 1000, 3) := by decide +kernel
theorem dX8_succeeds_4 : decode cX8_succeeds 4 = .ok (.idiv, 1) := by decide +kernel
theorem dX8_succeeds_5 : decode cX8_succeeds 5 = .ok (.bipush 10, 2) := by decide +kernel
theorem dX8_succeeds_7 : decode cX8_succeeds 7 = .ok (.irem, 1) := by decide +kernel
theorem dX8_succeeds_8 : decode cX8_succeeds 8 = .ok (.istore_n 2, 1) := by decide +kernel
theorem dX8_succeeds_9 : decode cX8_succeeds 9 = .ok (.iload_n 1, 1) := by decide +kernel
theorem dX8_succeeds_10 : decode cX8_succeeds 10 = .ok (.bipush 100, 2) := by decide +kernel
theorem dX8_succeeds_12 : decode cX8_succeeds 12 = .ok (.idiv, 1) := by decide +kernel
theorem dX8_succeeds_13 : decode cX8_succeeds 13 = .ok (.bipush 10, 2) := by decide +kernel
theorem dX8_succeeds_15 : decode cX8_succeeds 15 = .ok (.irem, 1) := by decide +kernel
theorem dX8_succeeds_16 : decode cX8_succeeds 16 = .ok (.istore_n 3, 1) := by decide +kernel
theorem dX8_succeeds_17 : decode cX8_succeeds 17 = .ok (.iload_n 1, 1) := by decide +kernel
theorem dX8_succeeds_18 : decode cX8_succeeds 18 = .ok (.bipush 100, 2) := by decide +kernel
theorem dX8_succeeds_20 : decode cX8_succeeds 20 = .ok (.irem, 1) := by decide +kernel
theorem dX8_succeeds_21 : decode cX8_succeeds 21 = .ok (.istore 4, 2) := by decide +kernel
theorem dX8_succeeds_23 : decode cX8_succeeds 23 = .ok (.iload_n 1, 1) := by decide +kernel
theorem dX8_succeeds_24 : decode cX8_succeeds 24 = .ok (.sipush 10000, 3) := by decide +kernel
theorem dX8_succeeds_27 : decode cX8_succeeds 27 = .ok (.idiv, 1) := by decide +kernel
theorem dX8_succeeds_28 : decode cX8_succeeds 28 = .ok (.tableswitch 348 1 9 #[52, 88, 118, 149, 204, 237, 265, 298, 320], 52) := by decide +kernel
theorem dX8_succeeds_80 : decode cX8_succeeds 80 = .ok (.aload_n 0, 1) := by decide +kernel
theorem dX8_succeeds_81 : decode cX8_succeeds 81 = .ok (.iload_n 2, 1) := by decide +kernel
theorem dX8_succeeds_82 : decode cX8_succeeds 82 = .ok (.invokevirtual 138, 3) := by decide +kernel
theorem dX8_succeeds_85 : decode cX8_succeeds 85 = .ok (.ifCond .eq 13, 3) := by decide +kernel
theorem dX8_succeeds_88 : decode cX8_succeeds 88 = .ok (.aload_n 0, 1) := by decide +kernel
theorem dX8_succeeds_89 : decode cX8_succeeds 89 = .ok (.iload_n 3, 1) := by decide +kernel
theorem dX8_succeeds_90 : decode cX8_succeeds 90 = .ok (.iload 4, 2) := by decide +kernel
theorem dX8_succeeds_92 : decode cX8_succeeds 92 = .ok (.invokevirtual 200, 3) := by decide +kernel
theorem dX8_succeeds_95 : decode cX8_succeeds 95 = .ok (.ifCond .ne 5, 3) := by decide +kernel
theorem dX8_succeeds_98 : decode cX8_succeeds 98 = .ok (.iconst 0, 1) := by decide +kernel
theorem dX8_succeeds_99 : decode cX8_succeeds 99 = .ok (.ireturn, 1) := by decide +kernel
theorem dX8_succeeds_100 : decode cX8_succeeds 100 = .ok (.aload_n 0, 1) := by decide +kernel
theorem dX8_succeeds_101 : decode cX8_succeeds 101 = .ok (.getfield 7, 3) := by decide +kernel
theorem dX8_succeeds_104 : decode cX8_succeeds 104 = .ok (.iconst 4, 1) := by decide +kernel
theorem dX8_succeeds_105 : decode cX8_succeeds 105 = .ok (.iload_n 2, 1) := by decide +kernel
theorem dX8_succeeds_106 : decode cX8_succeeds 106 = .ok (.imul, 1) := by decide +kernel
theorem dX8_succeeds_107 : decode cX8_succeeds 107 = .ok (.iconst 1, 1) := by decide +kernel
theorem dX8_succeeds_108 : decode cX8_succeeds 108 = .ok (.iadd, 1) := by decide +kernel
theorem dX8_succeeds_109 : decode cX8_succeeds 109 = .ok (.iload_n 3, 1) := by decide +kernel
theorem dX8_succeeds_110 : decode cX8_succeeds 110 = .ok (.iadd, 1) := by decide +kernel
theorem dX8_succeeds_111 : decode cX8_succeeds 111 = .ok (.iload 4, 2) := by decide +kernel
theorem dX8_succeeds_113 : decode cX8_succeeds 113 = .ok (.iastore, 1) := by decide +kernel
theorem dX8_succeeds_114 : decode cX8_succeeds 114 = .ok (.iconst 1, 1) := by decide +kernel
theorem dX8_succeeds_115 : decode cX8_succeeds 115 = .ok (.ireturn, 1) := by decide +kernel
theorem dX8_succeeds_116 : decode cX8_succeeds 116 = .ok (.aload_n 0, 1) := by decide +kernel
theorem dX8_succeeds_117 : decode cX8_succeeds 117 = .ok (.iload_n 2, 1) := by decide +kernel
theorem dX8_succeeds_118 : decode cX8_succeeds 118 = .ok (.invokevirtual 138, 3) := by decide +kernel
theorem dX8_succeeds_121 : decode cX8_succeeds 121 = .ok (.ifCond .eq 23, 3) := by decide +kernel
theorem dX8_succeeds_124 : decode cX8_succeeds 124 = .ok (.iload_n 1, 1) := by decide +kernel
theorem dX8_succeeds_125 : decode cX8_succeeds 125 = .ok (.sipush 1000, 3) := by decide +kernel
theorem dX8_succeeds_128 : decode cX8_succeeds 128 = .ok (.irem, 1) := by decide +kernel
theorem dX8_succeeds_129 : decode cX8_succeeds 129 = .ok (.ifCond .ne 15, 3) := by decide +kernel
theorem dX8_succeeds_132 : decode cX8_succeeds 132 = .ok (.aload_n 0, 1) := by decide +kernel
theorem dX8_succeeds_133 : decode cX8_succeeds 133 = .ok (.iload_n 2, 1) := by decide +kernel
theorem dX8_succeeds_134 : decode cX8_succeeds 134 = .ok (.invokevirtual 210, 3) := by decide +kernel
theorem dX8_succeeds_137 : decode cX8_succeeds 137 = .ok (.ifCond .lt 7, 3) := by decide +kernel
theorem dX8_succeeds_140 : decode cX8_succeeds 140 = .ok (.iconst 1, 1) := by decide +kernel
theorem dX8_succeeds_141 : decode cX8_succeeds 141 = .ok (.goto 4, 3) := by decide +kernel
theorem dX8_succeeds_144 : decode cX8_succeeds 144 = .ok (.iconst 0, 1) := by decide +kernel
theorem dX8_succeeds_145 : decode cX8_succeeds 145 = .ok (.ireturn, 1) := by decide +kernel
theorem dX8_succeeds_146 : decode cX8_succeeds 146 = .ok (.iload_n 2, 1) := by decide +kernel
theorem dX8_succeeds_147 : decode cX8_succeeds 147 = .ok (.ifCond .ne 28, 3) := by decide +kernel
theorem dX8_succeeds_150 : decode cX8_succeeds 150 = .ok (.iload_n 3, 1) := by decide +kernel
theorem dX8_succeeds_151 : decode cX8_succeeds 151 = .ok (.ifCond .ne 24, 3) := by decide +kernel
theorem dX8_succeeds_154 : decode cX8_succeeds 154 = .ok (.iload 4, 2) := by decide +kernel
theorem dX8_succeeds_156 : decode cX8_succeeds 156 = .ok (.invokestatic 185, 3) := by decide +kernel
theorem dX8_succeeds_159 : decode cX8_succeeds 159 = .ok (.ifCond .eq 16, 3) := by decide +kernel
theorem dX8_succeeds_162 : decode cX8_succeeds 162 = .ok (.aload_n 0, 1) := by decide +kernel
theorem dX8_succeeds_163 : decode cX8_succeeds 163 = .ok (.iload 4, 2) := by decide +kernel
theorem dX8_succeeds_165 : decode cX8_succeeds 165 = .ok (.invokevirtual 191, 3) := by decide +kernel
theorem dX8_succeeds_168 : decode cX8_succeeds 168 = .ok (.ifCond .le 7, 3) := by decide +kernel
theorem dX8_succeeds_171 : decode cX8_succeeds 171 = .ok (.iconst 1, 1) := by decide +kernel
theorem dX8_succeeds_172 : decode cX8_succeeds 172 = .ok (.goto 4, 3) := by decide +kernel
theorem dX8_succeeds_175 : decode cX8_succeeds 175 = .ok (.iconst 0, 1) := by decide +kernel
theorem dX8_succeeds_176 : decode cX8_succeeds 176 = .ok (.ireturn, 1) := by decide +kernel
theorem dX8_succeeds_177 : decode cX8_succeeds 177 = .ok (.aload_n 0, 1) := by decide +kernel
theorem dX8_succeeds_178 : decode cX8_succeeds 178 = .ok (.iload_n 1, 1) := by decide +kernel
theorem dX8_succeeds_179 : decode cX8_succeeds 179 = .ok (.bipush 10, 2) := by decide +kernel
theorem dX8_succeeds_181 : decode cX8_succeeds 181 = .ok (.idiv, 1) := by decide +kernel
theorem dX8_succeeds_182 : decode cX8_succeeds 182 = .ok (.bipush 100, 2) := by decide +kernel
theorem dX8_succeeds_184 : decode cX8_succeeds 184 = .ok (.irem, 1) := by decide +kernel
theorem dX8_succeeds_185 : decode cX8_succeeds 185 = .ok (.iload_n 2, 1) := by decide +kernel
theorem dX8_succeeds_186 : decode cX8_succeeds 186 = .ok (.iload_n 1, 1) := by decide +kernel
theorem dX8_succeeds_187 : decode cX8_succeeds 187 = .ok (.bipush 10, 2) := by decide +kernel
theorem dX8_succeeds_189 : decode cX8_succeeds 189 = .ok (.irem, 1) := by decide +kernel
theorem dX8_succeeds_190 : decode cX8_succeeds 190 = .ok (.iconst 0, 1) := by decide +kernel
theorem dX8_succeeds_191 : decode cX8_succeeds 191 = .ok (.invokevirtual 203, 3) := by decide +kernel
theorem dX8_succeeds_194 : decode cX8_succeeds 194 = .ok (.ifCond .eq 36, 3) := by decide +kernel
theorem dX8_succeeds_197 : decode cX8_succeeds 197 = .ok (.aload_n 0, 1) := by decide +kernel
theorem dX8_succeeds_198 : decode cX8_succeeds 198 = .ok (.getfield 35, 3) := by decide +kernel
theorem dX8_succeeds_201 : decode cX8_succeeds 201 = .ok (.bipush 6, 2) := by decide +kernel
theorem dX8_succeeds_203 : decode cX8_succeeds 203 = .ok (.if_icmp .ge 27, 3) := by decide +kernel
theorem dX8_succeeds_206 : decode cX8_succeeds 206 = .ok (.aload_n 0, 1) := by decide +kernel
theorem dX8_succeeds_207 : decode cX8_succeeds 207 = .ok (.iload_n 1, 1) := by decide +kernel
theorem dX8_succeeds_208 : decode cX8_succeeds 208 = .ok (.bipush 10, 2) := by decide +kernel
theorem dX8_succeeds_210 : decode cX8_succeeds 210 = .ok (.idiv, 1) := by decide +kernel
theorem dX8_succeeds_211 : decode cX8_succeeds 211 = .ok (.bipush 100, 2) := by decide +kernel
theorem dX8_succeeds_213 : decode cX8_succeeds 213 = .ok (.irem, 1) := by decide +kernel
theorem dX8_succeeds_214 : decode cX8_succeeds 214 = .ok (.iload_n 2, 1) := by decide +kernel
theorem dX8_succeeds_215 : decode cX8_succeeds 215 = .ok (.iload_n 1, 1) := by decide +kernel
theorem dX8_succeeds_216 : decode cX8_succeeds 216 = .ok (.bipush 10, 2) := by decide +kernel
theorem dX8_succeeds_218 : decode cX8_succeeds 218 = .ok (.irem, 1) := by decide +kernel
theorem dX8_succeeds_219 : decode cX8_succeeds 219 = .ok (.iconst 0, 1) := by decide +kernel
theorem dX8_succeeds_220 : decode cX8_succeeds 220 = .ok (.invokevirtual 207, 3) := by decide +kernel
theorem dX8_succeeds_223 : decode cX8_succeeds 223 = .ok (.ifCond .lt 7, 3) := by decide +kernel
theorem dX8_succeeds_226 : decode cX8_succeeds 226 = .ok (.iconst 1, 1) := by decide +kernel
theorem dX8_succeeds_227 : decode cX8_succeeds 227 = .ok (.goto 4, 3) := by decide +kernel
theorem dX8_succeeds_230 : decode cX8_succeeds 230 = .ok (.iconst 0, 1) := by decide +kernel
theorem dX8_succeeds_231 : decode cX8_succeeds 231 = .ok (.ireturn, 1) := by decide +kernel
theorem dX8_succeeds_232 : decode cX8_succeeds 232 = .ok (.aload_n 0, 1) := by decide +kernel
theorem dX8_succeeds_233 : decode cX8_succeeds 233 = .ok (.iload_n 2, 1) := by decide +kernel
theorem dX8_succeeds_234 : decode cX8_succeeds 234 = .ok (.invokevirtual 138, 3) := by decide +kernel
theorem dX8_succeeds_237 : decode cX8_succeeds 237 = .ok (.ifCond .eq 26, 3) := by decide +kernel
theorem dX8_succeeds_240 : decode cX8_succeeds 240 = .ok (.aload_n 0, 1) := by decide +kernel
theorem dX8_succeeds_241 : decode cX8_succeeds 241 = .ok (.iload_n 3, 1) := by decide +kernel
theorem dX8_succeeds_242 : decode cX8_succeeds 242 = .ok (.invokevirtual 138, 3) := by decide +kernel
theorem dX8_succeeds_245 : decode cX8_succeeds 245 = .ok (.ifCond .eq 18, 3) := by decide +kernel
theorem dX8_succeeds_248 : decode cX8_succeeds 248 = .ok (.aload_n 0, 1) := by decide +kernel
theorem dX8_succeeds_249 : decode cX8_succeeds 249 = .ok (.iload_n 2, 1) := by decide +kernel
theorem dX8_succeeds_250 : decode cX8_succeeds 250 = .ok (.iload_n 3, 1) := by decide +kernel
theorem dX8_succeeds_251 : decode cX8_succeeds 251 = .ok (.invokevirtual 168, 3) := by decide +kernel
theorem dX8_succeeds_254 : decode cX8_succeeds 254 = .ok (.iload 4, 2) := by decide +kernel
theorem dX8_succeeds_256 : decode cX8_succeeds 256 = .ok (.if_icmp .lt 7, 3) := by decide +kernel
theorem dX8_succeeds_259 : decode cX8_succeeds 259 = .ok (.iconst 1, 1) := by decide +kernel
theorem dX8_succeeds_260 : decode cX8_succeeds 260 = .ok (.goto 4, 3) := by decide +kernel
theorem dX8_succeeds_263 : decode cX8_succeeds 263 = .ok (.iconst 0, 1) := by decide +kernel
theorem dX8_succeeds_264 : decode cX8_succeeds 264 = .ok (.ireturn, 1) := by decide +kernel
theorem dX8_succeeds_265 : decode cX8_succeeds 265 = .ok (.aload_n 0, 1) := by decide +kernel
theorem dX8_succeeds_266 : decode cX8_succeeds 266 = .ok (.iload_n 2, 1) := by decide +kernel
theorem dX8_succeeds_267 : decode cX8_succeeds 267 = .ok (.invokevirtual 138, 3) := by decide +kernel
theorem dX8_succeeds_270 : decode cX8_succeeds 270 = .ok (.ifCond .eq 21, 3) := by decide +kernel
theorem dX8_succeeds_273 : decode cX8_succeeds 273 = .ok (.iload_n 3, 1) := by decide +kernel
theorem dX8_succeeds_274 : decode cX8_succeeds 274 = .ok (.ifCond .ne 17, 3) := by decide +kernel
theorem dX8_succeeds_277 : decode cX8_succeeds 277 = .ok (.aload_n 0, 1) := by decide +kernel
theorem dX8_succeeds_278 : decode cX8_succeeds 278 = .ok (.iload_n 2, 1) := by decide +kernel
theorem dX8_succeeds_279 : decode cX8_succeeds 279 = .ok (.invokevirtual 141, 3) := by decide +kernel
theorem dX8_succeeds_282 : decode cX8_succeeds 282 = .ok (.iload 4, 2) := by decide +kernel
theorem dX8_succeeds_284 : decode cX8_succeeds 284 = .ok (.if_icmp .ne 7, 3) := by decide +kernel
theorem dX8_succeeds_287 : decode cX8_succeeds 287 = .ok (.iconst 1, 1) := by decide +kernel
theorem dX8_succeeds_288 : decode cX8_succeeds 288 = .ok (.goto 4, 3) := by decide +kernel
theorem dX8_succeeds_291 : decode cX8_succeeds 291 = .ok (.iconst 0, 1) := by decide +kernel
theorem dX8_succeeds_292 : decode cX8_succeeds 292 = .ok (.ireturn, 1) := by decide +kernel
theorem dX8_succeeds_293 : decode cX8_succeeds 293 = .ok (.aload_n 0, 1) := by decide +kernel
theorem dX8_succeeds_294 : decode cX8_succeeds 294 = .ok (.iload_n 2, 1) := by decide +kernel
theorem dX8_succeeds_295 : decode cX8_succeeds 295 = .ok (.invokevirtual 138, 3) := by decide +kernel
theorem dX8_succeeds_298 : decode cX8_succeeds 298 = .ok (.ifCond .eq 26, 3) := by decide +kernel
theorem dX8_succeeds_301 : decode cX8_succeeds 301 = .ok (.aload_n 0, 1) := by decide +kernel
theorem dX8_succeeds_302 : decode cX8_succeeds 302 = .ok (.iload_n 3, 1) := by decide +kernel
theorem dX8_succeeds_303 : decode cX8_succeeds 303 = .ok (.invokevirtual 138, 3) := by decide +kernel
theorem dX8_succeeds_306 : decode cX8_succeeds 306 = .ok (.ifCond .eq 18, 3) := by decide +kernel
theorem dX8_succeeds_309 : decode cX8_succeeds 309 = .ok (.aload_n 0, 1) := by decide +kernel
theorem dX8_succeeds_310 : decode cX8_succeeds 310 = .ok (.iload_n 2, 1) := by decide +kernel
theorem dX8_succeeds_311 : decode cX8_succeeds 311 = .ok (.iload_n 3, 1) := by decide +kernel
theorem dX8_succeeds_312 : decode cX8_succeeds 312 = .ok (.invokevirtual 174, 3) := by decide +kernel
theorem dX8_succeeds_315 : decode cX8_succeeds 315 = .ok (.iload 4, 2) := by decide +kernel
theorem dX8_succeeds_317 : decode cX8_succeeds 317 = .ok (.if_icmp .ne 7, 3) := by decide +kernel
theorem dX8_succeeds_320 : decode cX8_succeeds 320 = .ok (.iconst 1, 1) := by decide +kernel
theorem dX8_succeeds_321 : decode cX8_succeeds 321 = .ok (.goto 4, 3) := by decide +kernel
theorem dX8_succeeds_324 : decode cX8_succeeds 324 = .ok (.iconst 0, 1) := by decide +kernel
theorem dX8_succeeds_325 : decode cX8_succeeds 325 = .ok (.ireturn, 1) := by decide +kernel
theorem dX8_succeeds_326 : decode cX8_succeeds 326 = .ok (.iload_n 1, 1) := by decide +kernel
theorem dX8_succeeds_327 : decode cX8_succeeds 327 = .ok (.sipush 1000, 3) := by decide +kernel
theorem dX8_succeeds_330 : decode cX8_succeeds 330 = .ok (.irem, 1) := by decide +kernel
theorem dX8_succeeds_331 : decode cX8_succeeds 331 = .ok (.ifCond .ne 15, 3) := by decide +kernel
theorem dX8_succeeds_334 : decode cX8_succeeds 334 = .ok (.aload_n 0, 1) := by decide +kernel
theorem dX8_succeeds_335 : decode cX8_succeeds 335 = .ok (.invokevirtual 135, 3) := by decide +kernel
theorem dX8_succeeds_338 : decode cX8_succeeds 338 = .ok (.iload_n 2, 1) := by decide +kernel
theorem dX8_succeeds_339 : decode cX8_succeeds 339 = .ok (.if_icmp .lt 7, 3) := by decide +kernel
theorem dX8_succeeds_342 : decode cX8_succeeds 342 = .ok (.iconst 1, 1) := by decide +kernel
theorem dX8_succeeds_343 : decode cX8_succeeds 343 = .ok (.goto 4, 3) := by decide +kernel
theorem dX8_succeeds_346 : decode cX8_succeeds 346 = .ok (.iconst 0, 1) := by decide +kernel
theorem dX8_succeeds_347 : decode cX8_succeeds 347 = .ok (.ireturn, 1) := by decide +kernel
theorem dX8_succeeds_348 : decode cX8_succeeds 348 = .ok (.aload_n 0, 1) := by decide +kernel
theorem dX8_succeeds_349 : decode cX8_succeeds 349 = .ok (.iload_n 2, 1) := by decide +kernel
theorem dX8_succeeds_350 : decode cX8_succeeds 350 = .ok (.invokevirtual 138, 3) := by decide +kernel
theorem dX8_succeeds_353 : decode cX8_succeeds 353 = .ok (.ifCond .eq 21, 3) := by decide +kernel
theorem dX8_succeeds_356 : decode cX8_succeeds 356 = .ok (.iload_n 3, 1) := by decide +kernel
theorem dX8_succeeds_357 : decode cX8_succeeds 357 = .ok (.ifCond .ne 17, 3) := by decide +kernel
theorem dX8_succeeds_360 : decode cX8_succeeds 360 = .ok (.aload_n 0, 1) := by decide +kernel
theorem dX8_succeeds_361 : decode cX8_succeeds 361 = .ok (.iload_n 2, 1) := by decide +kernel
theorem dX8_succeeds_362 : decode cX8_succeeds 362 = .ok (.invokevirtual 144, 3) := by decide +kernel
theorem dX8_succeeds_365 : decode cX8_succeeds 365 = .ok (.iload 4, 2) := by decide +kernel
theorem dX8_succeeds_367 : decode cX8_succeeds 367 = .ok (.if_icmp .ne 7, 3) := by decide +kernel
theorem dX8_succeeds_370 : decode cX8_succeeds 370 = .ok (.iconst 1, 1) := by decide +kernel
theorem dX8_succeeds_371 : decode cX8_succeeds 371 = .ok (.goto 4, 3) := by decide +kernel
theorem dX8_succeeds_374 : decode cX8_succeeds 374 = .ok (.iconst 0, 1) := by decide +kernel
theorem dX8_succeeds_375 : decode cX8_succeeds 375 = .ok (.ireturn, 1) := by decide +kernel
theorem dX8_succeeds_376 : decode cX8_succeeds 376 = .ok (.iconst 0, 1) := by decide +kernel
theorem dX8_succeeds_377 : decode cX8_succeeds 377 = .ok (.ireturn, 1) := by decide +kernel
set_option maxRecDepth 20000 in
theorem ggX8_runScript_X8_in : GoodIn wsX8_runScript wsX8_in := goodIn_r _ [10] (by decide +kernel) (by decide +kernel)
set_option maxRecDepth 20000 in
theorem gX8_runScript_X8_in : GoodIn wsX8_runScript (va_wsS RX8 38 yX8_in wsX8_in) := goodIn_app (goodIn_of _ (by decide +kernel)) ggX8_runScript_X8_in
set_option maxRecDepth 20000 in
theorem ggX8_runScript_X8_refused : GoodIn wsX8_runScript wsX8_refused := goodIn_r _ [14, 1, 133, 134, 135, 136, 137, 138, 139, 140, 141, 142, 143, 144, 145, 146, 147, 148, 149] (by decide +kernel) (by decide +kernel)
set_option maxRecDepth 20000 in
theorem gX8_runScript_X8_refused : GoodIn wsX8_runScript (wsV RX8 83 RX8 yX8_refused wsX8_refused) := goodIn_app (goodIn_of _ (by decide +kernel)) ggX8_runScript_X8_refused
set_option maxRecDepth 20000 in
theorem ggX8_runScript_X8_store : GoodIn wsX8_runScript wsX8_store := goodIn_r _ [18, 19, 20, 133, 134, 135, 136, 137, 138, 139, 140, 141, 142, 143, 144, 145, 146, 147, 148, 149] (by decide +kernel) (by decide +kernel)
set_option maxRecDepth 20000 in
theorem gX8_runScript_X8_store : GoodIn wsX8_runScript (wsV RX8 177 RX8 yX8_store wsX8_store) := goodIn_app (goodIn_of _ (by decide +kernel)) ggX8_runScript_X8_store
set_option maxRecDepth 20000 in
theorem ggX8_runScript_X8_succeeds : GoodIn wsX8_runScript wsX8_succeeds := goodIn_r _ [24, 20, 19, 25, 26, 27, 9, 28, 7, 8, 10, 29, 30, 31, 32, 33, 34, 35, 36, 37, 38, 39, 40, 41, 42, 43, 44, 45, 46, 47, 48, 49, 50, 51, 52, 53, 54, 55, 56, 57, 58, 59, 60, 61, 62, 63, 64, 65, 66, 67, 68, 69, 70, 71, 72, 73, 74, 75, 76, 77, 78, 79, 80, 81, 82, 83, 84, 85, 86, 87, 88, 89, 90, 91, 92, 93, 94, 95, 96, 97, 98, 99, 100, 101, 102, 103, 104, 105, 106, 107, 108, 109, 110, 111, 112, 113, 114, 115, 116, 117, 118, 119, 120, 121, 122, 123, 124, 125, 126, 127, 128, 133, 134, 135, 136, 137, 138, 139, 140, 141, 142, 143, 144, 145, 146, 147, 148, 149] (by decide +kernel) (by decide +kernel)
set_option maxRecDepth 20000 in
theorem gX8_runScript_X8_succeeds : GoodIn wsX8_runScript (wsV RX8 231 RX8 yX8_succeeds wsX8_succeeds) := goodIn_app (goodIn_of _ (by decide +kernel)) ggX8_runScript_X8_succeeds
set_option maxRecDepth 20000 in
theorem ggX8_runScript_X8_bring : GoodIn wsX8_runScript wsX8_bring := goodIn_r _ [132, 19, 20, 133, 134, 135, 136, 137, 138, 139, 140, 141, 142, 143, 144, 145, 146, 147, 148, 149] (by decide +kernel) (by decide +kernel)
set_option maxRecDepth 20000 in
theorem gX8_runScript_X8_bring : GoodIn wsX8_runScript (wsV RX8 213 RX8 yX8_bring wsX8_bring) := goodIn_app (goodIn_of _ (by decide +kernel)) ggX8_runScript_X8_bring
theorem dX8_runScript_0 : decode cX8_runScript 0 = .ok (.aload_n 0, 1) := by decide +kernel
theorem dX8_runScript_1 : decode cX8_runScript 1 = .ok (.iconst 0, 1) := by decide +kernel
theorem dX8_runScript_2 : decode cX8_runScript 2 = .ok (.putfield 31, 3) := by decide +kernel
theorem dX8_runScript_5 : decode cX8_runScript 5 = .ok (.iload_n 1, 1) := by decide +kernel
theorem dX8_runScript_6 : decode cX8_runScript 6 = .ok (.iconst 1, 1) := by decide +kernel
theorem dX8_runScript_7 : decode cX8_runScript 7 = .ok (.if_icmp .ne 9, 3) := by decide +kernel
theorem dX8_runScript_10 : decode cX8_runScript 10 = .ok (.ldc2_w 223, 3) := by decide +kernel
theorem dX8_runScript_13 : decode cX8_runScript 13 = .ok (.goto 17, 3) := by decide +kernel
theorem dX8_runScript_16 : decode cX8_runScript 16 = .ok (.iload_n 1, 1) := by decide +kernel
theorem dX8_runScript_17 : decode cX8_runScript 17 = .ok (.iconst 2, 1) := by decide +kernel
theorem dX8_runScript_18 : decode cX8_runScript 18 = .ok (.if_icmp .ne 9, 3) := by decide +kernel
theorem dX8_runScript_21 : decode cX8_runScript 21 = .ok (.ldc2_w 225, 3) := by decide +kernel
theorem dX8_runScript_24 : decode cX8_runScript 24 = .ok (.goto 6, 3) := by decide +kernel
theorem dX8_runScript_27 : decode cX8_runScript 27 = .ok (.ldc2_w 227, 3) := by decide +kernel
theorem dX8_runScript_30 : decode cX8_runScript 30 = .ok (.lstore 4, 2) := by decide +kernel
theorem dX8_runScript_32 : decode cX8_runScript 32 = .ok (.iload_n 1, 1) := by decide +kernel
theorem dX8_runScript_33 : decode cX8_runScript 33 = .ok (.i2l, 1) := by decide +kernel
theorem dX8_runScript_34 : decode cX8_runScript 34 = .ok (.lconst 1, 1) := by decide +kernel
theorem dX8_runScript_35 : decode cX8_runScript 35 = .ok (.ldc2_w 229, 3) := by decide +kernel
theorem dX8_runScript_38 : decode cX8_runScript 38 = .ok (.invokestatic 38, 3) := by decide +kernel
theorem dX8_runScript_41 : decode cX8_runScript 41 = .ok (.ifCond .eq 16, 3) := by decide +kernel
theorem dX8_runScript_44 : decode cX8_runScript 44 = .ok (.lload_n 2, 1) := by decide +kernel
theorem dX8_runScript_45 : decode cX8_runScript 45 = .ok (.lconst 0, 1) := by decide +kernel
theorem dX8_runScript_46 : decode cX8_runScript 46 = .ok (.lcmp, 1) := by decide +kernel
theorem dX8_runScript_47 : decode cX8_runScript 47 = .ok (.ifCond .lt 10, 3) := by decide +kernel
theorem dX8_runScript_50 : decode cX8_runScript 50 = .ok (.lload_n 2, 1) := by decide +kernel
theorem dX8_runScript_51 : decode cX8_runScript 51 = .ok (.lload 4, 2) := by decide +kernel
theorem dX8_runScript_53 : decode cX8_runScript 53 = .ok (.lcmp, 1) := by decide +kernel
theorem dX8_runScript_54 : decode cX8_runScript 54 = .ok (.ifCond .lt 9, 3) := by decide +kernel
theorem dX8_runScript_57 : decode cX8_runScript 57 = .ok (.aload_n 0, 1) := by decide +kernel
theorem dX8_runScript_58 : decode cX8_runScript 58 = .ok (.iconst 1, 1) := by decide +kernel
theorem dX8_runScript_59 : decode cX8_runScript 59 = .ok (.invokevirtual 83, 3) := by decide +kernel
theorem dX8_runScript_62 : decode cX8_runScript 62 = .ok (.ireturn, 1) := by decide +kernel
theorem dX8_runScript_63 : decode cX8_runScript 63 = .ok (.aload_n 0, 1) := by decide +kernel
theorem dX8_runScript_64 : decode cX8_runScript 64 = .ok (.aload_n 0, 1) := by decide +kernel
theorem dX8_runScript_65 : decode cX8_runScript 65 = .ok (.getfield 25, 3) := by decide +kernel
theorem dX8_runScript_68 : decode cX8_runScript 68 = .ok (.iconst 0, 1) := by decide +kernel
theorem dX8_runScript_69 : decode cX8_runScript 69 = .ok (.invokevirtual 177, 3) := by decide +kernel
theorem dX8_runScript_72 : decode cX8_runScript 72 = .ok (.bipush (-9), 2) := by decide +kernel
theorem dX8_runScript_74 : decode cX8_runScript 74 = .ok (.istore 6, 2) := by decide +kernel
theorem dX8_runScript_76 : decode cX8_runScript 76 = .ok (.iconst 0, 1) := by decide +kernel
theorem dX8_runScript_77 : decode cX8_runScript 77 = .ok (.istore 7, 2) := by decide +kernel
theorem dX8_runScript_79 : decode cX8_runScript 79 = .ok (.iload 7, 2) := by decide +kernel
theorem dX8_runScript_81 : decode cX8_runScript 81 = .ok (.iload_n 1, 1) := by decide +kernel
theorem dX8_runScript_82 : decode cX8_runScript 82 = .ok (.if_icmp .ge 49, 3) := by decide +kernel
theorem dX8_runScript_85 : decode cX8_runScript 85 = .ok (.iload 6, 2) := by decide +kernel
theorem dX8_runScript_87 : decode cX8_runScript 87 = .ok (.bipush (-9), 2) := by decide +kernel
theorem dX8_runScript_89 : decode cX8_runScript 89 = .ok (.if_icmp .ne 42, 3) := by decide +kernel
theorem dX8_runScript_92 : decode cX8_runScript 92 = .ok (.lload 4, 2) := by decide +kernel
theorem dX8_runScript_94 : decode cX8_runScript 94 = .ok (.ldc2_w 223, 3) := by decide +kernel
theorem dX8_runScript_97 : decode cX8_runScript 97 = .ok (.ldiv, 1) := by decide +kernel
theorem dX8_runScript_98 : decode cX8_runScript 98 = .ok (.lstore 4, 2) := by decide +kernel
theorem dX8_runScript_100 : decode cX8_runScript 100 = .ok (.aload_n 0, 1) := by decide +kernel
theorem dX8_runScript_101 : decode cX8_runScript 101 = .ok (.lload_n 2, 1) := by decide +kernel
theorem dX8_runScript_102 : decode cX8_runScript 102 = .ok (.lload 4, 2) := by decide +kernel
theorem dX8_runScript_104 : decode cX8_runScript 104 = .ok (.ldiv, 1) := by decide +kernel
theorem dX8_runScript_105 : decode cX8_runScript 105 = .ok (.ldc2_w 223, 3) := by decide +kernel
theorem dX8_runScript_108 : decode cX8_runScript 108 = .ok (.lrem, 1) := by decide +kernel
theorem dX8_runScript_109 : decode cX8_runScript 109 = .ok (.l2i, 1) := by decide +kernel
theorem dX8_runScript_110 : decode cX8_runScript 110 = .ok (.invokevirtual 231, 3) := by decide +kernel
theorem dX8_runScript_113 : decode cX8_runScript 113 = .ok (.ifCond .eq 8, 3) := by decide +kernel
theorem dX8_runScript_116 : decode cX8_runScript 116 = .ok (.bipush (-9), 2) := by decide +kernel
theorem dX8_runScript_118 : decode cX8_runScript 118 = .ok (.goto 5, 3) := by decide +kernel
theorem dX8_runScript_121 : decode cX8_runScript 121 = .ok (.iload 7, 2) := by decide +kernel
theorem dX8_runScript_123 : decode cX8_runScript 123 = .ok (.istore 6, 2) := by decide +kernel
theorem dX8_runScript_125 : decode cX8_runScript 125 = .ok (.iinc 7 1, 3) := by decide +kernel
theorem dX8_runScript_128 : decode cX8_runScript 128 = .ok (.goto (-49), 3) := by decide +kernel
theorem dX8_runScript_131 : decode cX8_runScript 131 = .ok (.aload_n 0, 1) := by decide +kernel
theorem dX8_runScript_132 : decode cX8_runScript 132 = .ok (.aload_n 0, 1) := by decide +kernel
theorem dX8_runScript_133 : decode cX8_runScript 133 = .ok (.getfield 25, 3) := by decide +kernel
theorem dX8_runScript_136 : decode cX8_runScript 136 = .ok (.iconst 0, 1) := by decide +kernel
theorem dX8_runScript_137 : decode cX8_runScript 137 = .ok (.invokevirtual 213, 3) := by decide +kernel
theorem dX8_runScript_140 : decode cX8_runScript 140 = .ok (.iload 6, 2) := by decide +kernel
theorem dX8_runScript_142 : decode cX8_runScript 142 = .ok (.ireturn, 1) := by decide +kernel
set_option maxRecDepth 20000 in
theorem ggX8_simulate_X8_in : GoodIn wsX8_simulate wsX8_in := goodIn_r _ [11] (by decide +kernel) (by decide +kernel)
set_option maxRecDepth 20000 in
theorem gX8_simulate_X8_in : GoodIn wsX8_simulate (va_wsS RX8 38 yX8_in wsX8_in) := goodIn_app (goodIn_of _ (by decide +kernel)) ggX8_simulate_X8_in
set_option maxRecDepth 20000 in
theorem ggX8_simulate_X8_refused : GoodIn wsX8_simulate wsX8_refused := goodIn_r _ [15, 1, 19, 20, 21, 22, 23, 24, 25, 26, 27, 28, 29, 30, 31, 32, 33, 34, 35] (by decide +kernel) (by decide +kernel)
set_option maxRecDepth 20000 in
theorem gX8_simulate_X8_refused : GoodIn wsX8_simulate (wsV RX8 83 RX8 yX8_refused wsX8_refused) := goodIn_app (goodIn_of _ (by decide +kernel)) ggX8_simulate_X8_refused
set_option maxRecDepth 20000 in
theorem ggX8_simulate_X8_radius : GoodIn wsX8_simulate wsX8_radius := goodIn_r _ [18] (by decide +kernel) (by decide +kernel)
set_option maxRecDepth 20000 in
theorem gX8_simulate_X8_radius : GoodIn wsX8_simulate (va_wsS RX8 53 yX8_radius wsX8_radius) := goodIn_app (goodIn_of _ (by decide +kernel)) ggX8_simulate_X8_radius
theorem dX8_simulate_0 : decode cX8_simulate 0 = .ok (.aload_n 0, 1) := by decide +kernel
theorem dX8_simulate_1 : decode cX8_simulate 1 = .ok (.iconst 0, 1) := by decide +kernel
theorem dX8_simulate_2 : decode cX8_simulate 2 = .ok (.putfield 31, 3) := by decide +kernel
theorem dX8_simulate_5 : decode cX8_simulate 5 = .ok (.iload_n 3, 1) := by decide +kernel
theorem dX8_simulate_6 : decode cX8_simulate 6 = .ok (.i2l, 1) := by decide +kernel
theorem dX8_simulate_7 : decode cX8_simulate 7 = .ok (.lconst 1, 1) := by decide +kernel
theorem dX8_simulate_8 : decode cX8_simulate 8 = .ok (.ldc2_w 234, 3) := by decide +kernel
theorem dX8_simulate_11 : decode cX8_simulate 11 = .ok (.invokestatic 38, 3) := by decide +kernel
theorem dX8_simulate_14 : decode cX8_simulate 14 = .ok (.ifCond .ne 9, 3) := by decide +kernel
theorem dX8_simulate_17 : decode cX8_simulate 17 = .ok (.aload_n 0, 1) := by decide +kernel
theorem dX8_simulate_18 : decode cX8_simulate 18 = .ok (.iconst 1, 1) := by decide +kernel
theorem dX8_simulate_19 : decode cX8_simulate 19 = .ok (.invokevirtual 83, 3) := by decide +kernel
theorem dX8_simulate_22 : decode cX8_simulate 22 = .ok (.ireturn, 1) := by decide +kernel
theorem dX8_simulate_23 : decode cX8_simulate 23 = .ok (.aload_n 0, 1) := by decide +kernel
theorem dX8_simulate_24 : decode cX8_simulate 24 = .ok (.dup, 1) := by decide +kernel
theorem dX8_simulate_25 : decode cX8_simulate 25 = .ok (.getfield 67, 3) := by decide +kernel
theorem dX8_simulate_28 : decode cX8_simulate 28 = .ok (.iconst 1, 1) := by decide +kernel
theorem dX8_simulate_29 : decode cX8_simulate 29 = .ok (.iadd, 1) := by decide +kernel
theorem dX8_simulate_30 : decode cX8_simulate 30 = .ok (.putfield 67, 3) := by decide +kernel
theorem dX8_simulate_33 : decode cX8_simulate 33 = .ok (.lload_n 1, 1) := by decide +kernel
theorem dX8_simulate_34 : decode cX8_simulate 34 = .ok (.lstore 4, 2) := by decide +kernel
theorem dX8_simulate_36 : decode cX8_simulate 36 = .ok (.iconst 0, 1) := by decide +kernel
theorem dX8_simulate_37 : decode cX8_simulate 37 = .ok (.istore 6, 2) := by decide +kernel
theorem dX8_simulate_39 : decode cX8_simulate 39 = .ok (.iconst 0, 1) := by decide +kernel
theorem dX8_simulate_40 : decode cX8_simulate 40 = .ok (.istore 7, 2) := by decide +kernel
theorem dX8_simulate_42 : decode cX8_simulate 42 = .ok (.iconst 0, 1) := by decide +kernel
theorem dX8_simulate_43 : decode cX8_simulate 43 = .ok (.istore 8, 2) := by decide +kernel
theorem dX8_simulate_45 : decode cX8_simulate 45 = .ok (.iload 8, 2) := by decide +kernel
theorem dX8_simulate_47 : decode cX8_simulate 47 = .ok (.iload_n 3, 1) := by decide +kernel
theorem dX8_simulate_48 : decode cX8_simulate 48 = .ok (.if_icmp .ge 147, 3) := by decide +kernel
theorem dX8_simulate_51 : decode cX8_simulate 51 = .ok (.lload 4, 2) := by decide +kernel
theorem dX8_simulate_53 : decode cX8_simulate 53 = .ok (.ldc2_w 236, 3) := by decide +kernel
theorem dX8_simulate_56 : decode cX8_simulate 56 = .ok (.lmul, 1) := by decide +kernel
theorem dX8_simulate_57 : decode cX8_simulate 57 = .ok (.ldc2_w 238, 3) := by decide +kernel
theorem dX8_simulate_60 : decode cX8_simulate 60 = .ok (.ladd, 1) := by decide +kernel
theorem dX8_simulate_61 : decode cX8_simulate 61 = .ok (.lstore 4, 2) := by decide +kernel
theorem dX8_simulate_63 : decode cX8_simulate 63 = .ok (.lload 4, 2) := by decide +kernel
theorem dX8_simulate_65 : decode cX8_simulate 65 = .ok (.bipush 33, 2) := by decide +kernel
theorem dX8_simulate_67 : decode cX8_simulate 67 = .ok (.lushr, 1) := by decide +kernel
theorem dX8_simulate_68 : decode cX8_simulate 68 = .ok (.l2i, 1) := by decide +kernel
theorem dX8_simulate_69 : decode cX8_simulate 69 = .ok (.istore 9, 2) := by decide +kernel
theorem dX8_simulate_71 : decode cX8_simulate 71 = .ok (.iconst 5, 1) := by decide +kernel
theorem dX8_simulate_72 : decode cX8_simulate 72 = .ok (.iload 9, 2) := by decide +kernel
theorem dX8_simulate_74 : decode cX8_simulate 74 = .ok (.bipush 56, 2) := by decide +kernel
theorem dX8_simulate_76 : decode cX8_simulate 76 = .ok (.irem, 1) := by decide +kernel
theorem dX8_simulate_77 : decode cX8_simulate 77 = .ok (.iadd, 1) := by decide +kernel
theorem dX8_simulate_78 : decode cX8_simulate 78 = .ok (.istore 10, 2) := by decide +kernel
theorem dX8_simulate_80 : decode cX8_simulate 80 = .ok (.iload 9, 2) := by decide +kernel
theorem dX8_simulate_82 : decode cX8_simulate 82 = .ok (.sipush 4096, 3) := by decide +kernel
theorem dX8_simulate_85 : decode cX8_simulate 85 = .ok (.idiv, 1) := by decide +kernel
theorem dX8_simulate_86 : decode cX8_simulate 86 = .ok (.sipush 1000, 3) := by decide +kernel
theorem dX8_simulate_89 : decode cX8_simulate 89 = .ok (.irem, 1) := by decide +kernel
theorem dX8_simulate_90 : decode cX8_simulate 90 = .ok (.istore 11, 2) := by decide +kernel
theorem dX8_simulate_92 : decode cX8_simulate 92 = .ok (.iload 10, 2) := by decide +kernel
theorem dX8_simulate_94 : decode cX8_simulate 94 = .ok (.iload 9, 2) := by decide +kernel
theorem dX8_simulate_96 : decode cX8_simulate 96 = .ok (.bipush 64, 2) := by decide +kernel
theorem dX8_simulate_98 : decode cX8_simulate 98 = .ok (.idiv, 1) := by decide +kernel
theorem dX8_simulate_99 : decode cX8_simulate 99 = .ok (.iconst 2, 1) := by decide +kernel
theorem dX8_simulate_100 : decode cX8_simulate 100 = .ok (.irem, 1) := by decide +kernel
theorem dX8_simulate_101 : decode cX8_simulate 101 = .ok (.iload 9, 2) := by decide +kernel
theorem dX8_simulate_103 : decode cX8_simulate 103 = .ok (.sipush 128, 3) := by decide +kernel
theorem dX8_simulate_106 : decode cX8_simulate 106 = .ok (.idiv, 1) := by decide +kernel
theorem dX8_simulate_107 : decode cX8_simulate 107 = .ok (.bipush 21, 2) := by decide +kernel
theorem dX8_simulate_109 : decode cX8_simulate 109 = .ok (.irem, 1) := by decide +kernel
theorem dX8_simulate_110 : decode cX8_simulate 110 = .ok (.iload 11, 2) := by decide +kernel
theorem dX8_simulate_112 : decode cX8_simulate 112 = .ok (.iload 10, 2) := by decide +kernel
theorem dX8_simulate_114 : decode cX8_simulate 114 = .ok (.irem, 1) := by decide +kernel
theorem dX8_simulate_115 : decode cX8_simulate 115 = .ok (.invokestatic 53, 3) := by decide +kernel
theorem dX8_simulate_118 : decode cX8_simulate 118 = .ok (.istore 12, 2) := by decide +kernel
theorem dX8_simulate_120 : decode cX8_simulate 120 = .ok (.iload 11, 2) := by decide +kernel
theorem dX8_simulate_122 : decode cX8_simulate 122 = .ok (.aload_n 0, 1) := by decide +kernel
theorem dX8_simulate_123 : decode cX8_simulate 123 = .ok (.getfield 7, 3) := by decide +kernel
theorem dX8_simulate_126 : decode cX8_simulate 126 = .ok (.iconst 0, 1) := by decide +kernel
theorem dX8_simulate_127 : decode cX8_simulate 127 = .ok (.iaload, 1) := by decide +kernel
theorem dX8_simulate_128 : decode cX8_simulate 128 = .ok (.irem, 1) := by decide +kernel
theorem dX8_simulate_129 : decode cX8_simulate 129 = .ok (.sipush 301, 3) := by decide +kernel
theorem dX8_simulate_132 : decode cX8_simulate 132 = .ok (.imul, 1) := by decide +kernel
theorem dX8_simulate_133 : decode cX8_simulate 133 = .ok (.iload 12, 2) := by decide +kernel
theorem dX8_simulate_135 : decode cX8_simulate 135 = .ok (.iadd, 1) := by decide +kernel
theorem dX8_simulate_136 : decode cX8_simulate 136 = .ok (.istore 13, 2) := by decide +kernel
theorem dX8_simulate_138 : decode cX8_simulate 138 = .ok (.iload 6, 2) := by decide +kernel
theorem dX8_simulate_140 : decode cX8_simulate 140 = .ok (.aload_n 0, 1) := by decide +kernel
theorem dX8_simulate_141 : decode cX8_simulate 141 = .ok (.getfield 13, 3) := by decide +kernel
theorem dX8_simulate_144 : decode cX8_simulate 144 = .ok (.iload 13, 2) := by decide +kernel
theorem dX8_simulate_146 : decode cX8_simulate 146 = .ok (.iaload, 1) := by decide +kernel
theorem dX8_simulate_147 : decode cX8_simulate 147 = .ok (.aload_n 0, 1) := by decide +kernel
theorem dX8_simulate_148 : decode cX8_simulate 148 = .ok (.getfield 67, 3) := by decide +kernel
theorem dX8_simulate_151 : decode cX8_simulate 151 = .ok (.if_icmp .ne 7, 3) := by decide +kernel
theorem dX8_simulate_154 : decode cX8_simulate 154 = .ok (.iconst 0, 1) := by decide +kernel
theorem dX8_simulate_155 : decode cX8_simulate 155 = .ok (.goto 4, 3) := by decide +kernel
theorem dX8_simulate_158 : decode cX8_simulate 158 = .ok (.iconst 1, 1) := by decide +kernel
theorem dX8_simulate_159 : decode cX8_simulate 159 = .ok (.iadd, 1) := by decide +kernel
theorem dX8_simulate_160 : decode cX8_simulate 160 = .ok (.istore 6, 2) := by decide +kernel
theorem dX8_simulate_162 : decode cX8_simulate 162 = .ok (.aload_n 0, 1) := by decide +kernel
theorem dX8_simulate_163 : decode cX8_simulate 163 = .ok (.getfield 13, 3) := by decide +kernel
theorem dX8_simulate_166 : decode cX8_simulate 166 = .ok (.iload 13, 2) := by decide +kernel
theorem dX8_simulate_168 : decode cX8_simulate 168 = .ok (.aload_n 0, 1) := by decide +kernel
theorem dX8_simulate_169 : decode cX8_simulate 169 = .ok (.getfield 67, 3) := by decide +kernel
theorem dX8_simulate_172 : decode cX8_simulate 172 = .ok (.iastore, 1) := by decide +kernel
theorem dX8_simulate_173 : decode cX8_simulate 173 = .ok (.iload 12, 2) := by decide +kernel
theorem dX8_simulate_175 : decode cX8_simulate 175 = .ok (.iload 7, 2) := by decide +kernel
theorem dX8_simulate_177 : decode cX8_simulate 177 = .ok (.if_icmp .le 8, 3) := by decide +kernel
theorem dX8_simulate_180 : decode cX8_simulate 180 = .ok (.iload 12, 2) := by decide +kernel
theorem dX8_simulate_182 : decode cX8_simulate 182 = .ok (.goto 5, 3) := by decide +kernel
theorem dX8_simulate_185 : decode cX8_simulate 185 = .ok (.iload 7, 2) := by decide +kernel
theorem dX8_simulate_187 : decode cX8_simulate 187 = .ok (.istore 7, 2) := by decide +kernel
theorem dX8_simulate_189 : decode cX8_simulate 189 = .ok (.iinc 8 1, 3) := by decide +kernel
theorem dX8_simulate_192 : decode cX8_simulate 192 = .ok (.goto (-147), 3) := by decide +kernel
theorem dX8_simulate_195 : decode cX8_simulate 195 = .ok (.sipush 1000, 3) := by decide +kernel
theorem dX8_simulate_198 : decode cX8_simulate 198 = .ok (.iload 6, 2) := by decide +kernel
theorem dX8_simulate_200 : decode cX8_simulate 200 = .ok (.imul, 1) := by decide +kernel
theorem dX8_simulate_201 : decode cX8_simulate 201 = .ok (.iload 7, 2) := by decide +kernel
theorem dX8_simulate_203 : decode cX8_simulate 203 = .ok (.iadd, 1) := by decide +kernel
theorem dX8_simulate_204 : decode cX8_simulate 204 = .ok (.ireturn, 1) := by decide +kernel
set_option maxRecDepth 20000 in
theorem ggX8_save_X8_in : GoodIn wsX8_save wsX8_in := goodIn_r _ [9] (by decide +kernel) (by decide +kernel)
set_option maxRecDepth 20000 in
theorem gX8_save_X8_in : GoodIn wsX8_save (va_wsS RX8 38 yX8_in wsX8_in) := goodIn_app (goodIn_of _ (by decide +kernel)) ggX8_save_X8_in
set_option maxRecDepth 20000 in
theorem ggX8_save_X8_refused : GoodIn wsX8_save wsX8_refused := goodIn_r _ [13, 1, 19, 20, 21, 22, 23, 24, 25, 26, 27, 28, 29, 30, 31, 32, 33, 34, 35] (by decide +kernel) (by decide +kernel)
set_option maxRecDepth 20000 in
theorem gX8_save_X8_refused : GoodIn wsX8_save (wsV RX8 83 RX8 yX8_refused wsX8_refused) := goodIn_app (goodIn_of _ (by decide +kernel)) ggX8_save_X8_refused
set_option maxRecDepth 20000 in
theorem ggX8_save_X8_store : GoodIn wsX8_save wsX8_store := goodIn_r _ [17, 5, 18, 19, 20, 21, 22, 23, 24, 25, 26, 27, 28, 29, 30, 31, 32, 33, 34, 35] (by decide +kernel) (by decide +kernel)
set_option maxRecDepth 20000 in
theorem gX8_save_X8_store : GoodIn wsX8_save (wsV RX8 177 RX8 yX8_store wsX8_store) := goodIn_app (goodIn_of _ (by decide +kernel)) ggX8_save_X8_store
theorem dX8_save_0 : decode cX8_save 0 = .ok (.aload_n 0, 1) := by decide +kernel
theorem dX8_save_1 : decode cX8_save 1 = .ok (.iconst 0, 1) := by decide +kernel
theorem dX8_save_2 : decode cX8_save 2 = .ok (.putfield 31, 3) := by decide +kernel
theorem dX8_save_5 : decode cX8_save 5 = .ok (.iload_n 1, 1) := by decide +kernel
theorem dX8_save_6 : decode cX8_save 6 = .ok (.i2l, 1) := by decide +kernel
theorem dX8_save_7 : decode cX8_save 7 = .ok (.lconst 0, 1) := by decide +kernel
theorem dX8_save_8 : decode cX8_save 8 = .ok (.lconst 1, 1) := by decide +kernel
theorem dX8_save_9 : decode cX8_save 9 = .ok (.invokestatic 38, 3) := by decide +kernel
theorem dX8_save_12 : decode cX8_save 12 = .ok (.ifCond .ne 9, 3) := by decide +kernel
theorem dX8_save_15 : decode cX8_save 15 = .ok (.aload_n 0, 1) := by decide +kernel
theorem dX8_save_16 : decode cX8_save 16 = .ok (.iconst 1, 1) := by decide +kernel
theorem dX8_save_17 : decode cX8_save 17 = .ok (.invokevirtual 83, 3) := by decide +kernel
theorem dX8_save_20 : decode cX8_save 20 = .ok (.ireturn, 1) := by decide +kernel
theorem dX8_save_21 : decode cX8_save 21 = .ok (.aload_n 0, 1) := by decide +kernel
theorem dX8_save_22 : decode cX8_save 22 = .ok (.aload_n 0, 1) := by decide +kernel
theorem dX8_save_23 : decode cX8_save 23 = .ok (.getfield 28, 3) := by decide +kernel
theorem dX8_save_26 : decode cX8_save 26 = .ok (.bipush 43, 2) := by decide +kernel
theorem dX8_save_28 : decode cX8_save 28 = .ok (.iload_n 1, 1) := by decide +kernel
theorem dX8_save_29 : decode cX8_save 29 = .ok (.imul, 1) := by decide +kernel
theorem dX8_save_30 : decode cX8_save 30 = .ok (.invokevirtual 177, 3) := by decide +kernel
theorem dX8_save_33 : decode cX8_save 33 = .ok (.aload_n 0, 1) := by decide +kernel
theorem dX8_save_34 : decode cX8_save 34 = .ok (.aload_n 0, 1) := by decide +kernel
theorem dX8_save_35 : decode cX8_save 35 = .ok (.getfield 114, 3) := by decide +kernel
theorem dX8_save_38 : decode cX8_save 38 = .ok (.ifCond .ne 7, 3) := by decide +kernel
theorem dX8_save_41 : decode cX8_save 41 = .ok (.iload_n 1, 1) := by decide +kernel
theorem dX8_save_42 : decode cX8_save 42 = .ok (.ifCond .ne 7, 3) := by decide +kernel
theorem dX8_save_45 : decode cX8_save 45 = .ok (.iconst 1, 1) := by decide +kernel
theorem dX8_save_46 : decode cX8_save 46 = .ok (.goto 4, 3) := by decide +kernel
theorem dX8_save_49 : decode cX8_save 49 = .ok (.iconst 0, 1) := by decide +kernel
theorem dX8_save_50 : decode cX8_save 50 = .ok (.putfield 114, 3) := by decide +kernel
theorem dX8_save_53 : decode cX8_save 53 = .ok (.aload_n 0, 1) := by decide +kernel
theorem dX8_save_54 : decode cX8_save 54 = .ok (.aload_n 0, 1) := by decide +kernel
theorem dX8_save_55 : decode cX8_save 55 = .ok (.getfield 117, 3) := by decide +kernel
theorem dX8_save_58 : decode cX8_save 58 = .ok (.ifCond .ne 8, 3) := by decide +kernel
theorem dX8_save_61 : decode cX8_save 61 = .ok (.iload_n 1, 1) := by decide +kernel
theorem dX8_save_62 : decode cX8_save 62 = .ok (.iconst 1, 1) := by decide +kernel
theorem dX8_save_63 : decode cX8_save 63 = .ok (.if_icmp .ne 7, 3) := by decide +kernel
theorem dX8_save_66 : decode cX8_save 66 = .ok (.iconst 1, 1) := by decide +kernel
theorem dX8_save_67 : decode cX8_save 67 = .ok (.goto 4, 3) := by decide +kernel
theorem dX8_save_70 : decode cX8_save 70 = .ok (.iconst 0, 1) := by decide +kernel
theorem dX8_save_71 : decode cX8_save 71 = .ok (.putfield 117, 3) := by decide +kernel
theorem dX8_save_74 : decode cX8_save 74 = .ok (.aload_n 0, 1) := by decide +kernel
theorem dX8_save_75 : decode cX8_save 75 = .ok (.getfield 35, 3) := by decide +kernel
theorem dX8_save_78 : decode cX8_save 78 = .ok (.ireturn, 1) := by decide +kernel
set_option maxRecDepth 20000 in
theorem ggX8_restore_X8_in : GoodIn wsX8_restore wsX8_in := goodIn_r _ [10] (by decide +kernel) (by decide +kernel)
set_option maxRecDepth 20000 in
theorem gX8_restore_X8_in : GoodIn wsX8_restore (va_wsS RX8 38 yX8_in wsX8_in) := goodIn_app (goodIn_of _ (by decide +kernel)) ggX8_restore_X8_in
set_option maxRecDepth 20000 in
theorem ggX8_restore_X8_refused : GoodIn wsX8_restore wsX8_refused := goodIn_r _ [14, 1, 20, 21, 22, 23, 24, 25, 26, 27, 28, 29, 30, 31, 32, 33, 34, 35, 36] (by decide +kernel) (by decide +kernel)
set_option maxRecDepth 20000 in
theorem gX8_restore_X8_refused : GoodIn wsX8_restore (wsV RX8 83 RX8 yX8_refused wsX8_refused) := goodIn_app (goodIn_of _ (by decide +kernel)) ggX8_restore_X8_refused
set_option maxRecDepth 20000 in
theorem ggX8_restore_X8_bring : GoodIn wsX8_restore wsX8_bring := goodIn_r _ [18, 6, 19, 20, 21, 22, 23, 24, 25, 26, 27, 28, 29, 30, 31, 32, 33, 34, 35, 36] (by decide +kernel) (by decide +kernel)
set_option maxRecDepth 20000 in
theorem gX8_restore_X8_bring : GoodIn wsX8_restore (wsV RX8 213 RX8 yX8_bring wsX8_bring) := goodIn_app (goodIn_of _ (by decide +kernel)) ggX8_restore_X8_bring
theorem dX8_restore_0 : decode cX8_restore 0 = .ok (.aload_n 0, 1) := by decide +kernel
theorem dX8_restore_1 : decode cX8_restore 1 = .ok (.iconst 0, 1) := by decide +kernel
theorem dX8_restore_2 : decode cX8_restore 2 = .ok (.putfield 31, 3) := by decide +kernel
theorem dX8_restore_5 : decode cX8_restore 5 = .ok (.iload_n 1, 1) := by decide +kernel
theorem dX8_restore_6 : decode cX8_restore 6 = .ok (.i2l, 1) := by decide +kernel
theorem dX8_restore_7 : decode cX8_restore 7 = .ok (.lconst 0, 1) := by decide +kernel
theorem dX8_restore_8 : decode cX8_restore 8 = .ok (.lconst 1, 1) := by decide +kernel
theorem dX8_restore_9 : decode cX8_restore 9 = .ok (.invokestatic 38, 3) := by decide +kernel
theorem dX8_restore_12 : decode cX8_restore 12 = .ok (.ifCond .ne 9, 3) := by decide +kernel
theorem dX8_restore_15 : decode cX8_restore 15 = .ok (.aload_n 0, 1) := by decide +kernel
theorem dX8_restore_16 : decode cX8_restore 16 = .ok (.iconst 1, 1) := by decide +kernel
theorem dX8_restore_17 : decode cX8_restore 17 = .ok (.invokevirtual 83, 3) := by decide +kernel
theorem dX8_restore_20 : decode cX8_restore 20 = .ok (.ireturn, 1) := by decide +kernel
theorem dX8_restore_21 : decode cX8_restore 21 = .ok (.iload_n 1, 1) := by decide +kernel
theorem dX8_restore_22 : decode cX8_restore 22 = .ok (.ifCond .ne 13, 3) := by decide +kernel
theorem dX8_restore_25 : decode cX8_restore 25 = .ok (.aload_n 0, 1) := by decide +kernel
theorem dX8_restore_26 : decode cX8_restore 26 = .ok (.getfield 114, 3) := by decide +kernel
theorem dX8_restore_29 : decode cX8_restore 29 = .ok (.ifCond .ne 19, 3) := by decide +kernel
theorem dX8_restore_32 : decode cX8_restore 32 = .ok (.goto 10, 3) := by decide +kernel
theorem dX8_restore_35 : decode cX8_restore 35 = .ok (.aload_n 0, 1) := by decide +kernel
theorem dX8_restore_36 : decode cX8_restore 36 = .ok (.getfield 117, 3) := by decide +kernel
theorem dX8_restore_39 : decode cX8_restore 39 = .ok (.ifCond .ne 9, 3) := by decide +kernel
theorem dX8_restore_42 : decode cX8_restore 42 = .ok (.aload_n 0, 1) := by decide +kernel
theorem dX8_restore_43 : decode cX8_restore 43 = .ok (.iconst 2, 1) := by decide +kernel
theorem dX8_restore_44 : decode cX8_restore 44 = .ok (.invokevirtual 83, 3) := by decide +kernel
theorem dX8_restore_47 : decode cX8_restore 47 = .ok (.ireturn, 1) := by decide +kernel
theorem dX8_restore_48 : decode cX8_restore 48 = .ok (.aload_n 0, 1) := by decide +kernel
theorem dX8_restore_49 : decode cX8_restore 49 = .ok (.aload_n 0, 1) := by decide +kernel
theorem dX8_restore_50 : decode cX8_restore 50 = .ok (.getfield 28, 3) := by decide +kernel
theorem dX8_restore_53 : decode cX8_restore 53 = .ok (.bipush 43, 2) := by decide +kernel
theorem dX8_restore_55 : decode cX8_restore 55 = .ok (.iload_n 1, 1) := by decide +kernel
theorem dX8_restore_56 : decode cX8_restore 56 = .ok (.imul, 1) := by decide +kernel
theorem dX8_restore_57 : decode cX8_restore 57 = .ok (.invokevirtual 213, 3) := by decide +kernel
theorem dX8_restore_60 : decode cX8_restore 60 = .ok (.aload_n 0, 1) := by decide +kernel
theorem dX8_restore_61 : decode cX8_restore 61 = .ok (.iconst 0, 1) := by decide +kernel
theorem dX8_restore_62 : decode cX8_restore 62 = .ok (.putfield 111, 3) := by decide +kernel
theorem dX8_restore_65 : decode cX8_restore 65 = .ok (.aload_n 0, 1) := by decide +kernel
theorem dX8_restore_66 : decode cX8_restore 66 = .ok (.getfield 35, 3) := by decide +kernel
theorem dX8_restore_69 : decode cX8_restore 69 = .ok (.ireturn, 1) := by decide +kernel
theorem dJ13_bitCount_95d88_0 : decode cJ13_bitCount_95d88 0 = .ok (.lload_n 0, 1) := by decide +kernel
theorem dJ13_bitCount_95d88_1 : decode cJ13_bitCount_95d88 1 = .ok (.lload_n 0, 1) := by decide +kernel
theorem dJ13_bitCount_95d88_2 : decode cJ13_bitCount_95d88 2 = .ok (.iconst 1, 1) := by decide +kernel
theorem dJ13_bitCount_95d88_3 : decode cJ13_bitCount_95d88 3 = .ok (.lushr, 1) := by decide +kernel
theorem dJ13_bitCount_95d88_4 : decode cJ13_bitCount_95d88 4 = .ok (.ldc2_w 314, 3) := by decide +kernel
theorem dJ13_bitCount_95d88_7 : decode cJ13_bitCount_95d88 7 = .ok (.land, 1) := by decide +kernel
theorem dJ13_bitCount_95d88_8 : decode cJ13_bitCount_95d88 8 = .ok (.lsub, 1) := by decide +kernel
theorem dJ13_bitCount_95d88_9 : decode cJ13_bitCount_95d88 9 = .ok (.lstore_n 0, 1) := by decide +kernel
theorem dJ13_bitCount_95d88_10 : decode cJ13_bitCount_95d88 10 = .ok (.lload_n 0, 1) := by decide +kernel
theorem dJ13_bitCount_95d88_11 : decode cJ13_bitCount_95d88 11 = .ok (.ldc2_w 316, 3) := by decide +kernel
theorem dJ13_bitCount_95d88_14 : decode cJ13_bitCount_95d88 14 = .ok (.land, 1) := by decide +kernel
theorem dJ13_bitCount_95d88_15 : decode cJ13_bitCount_95d88 15 = .ok (.lload_n 0, 1) := by decide +kernel
theorem dJ13_bitCount_95d88_16 : decode cJ13_bitCount_95d88 16 = .ok (.iconst 2, 1) := by decide +kernel
theorem dJ13_bitCount_95d88_17 : decode cJ13_bitCount_95d88 17 = .ok (.lushr, 1) := by decide +kernel
theorem dJ13_bitCount_95d88_18 : decode cJ13_bitCount_95d88 18 = .ok (.ldc2_w 316, 3) := by decide +kernel
theorem dJ13_bitCount_95d88_21 : decode cJ13_bitCount_95d88 21 = .ok (.land, 1) := by decide +kernel
theorem dJ13_bitCount_95d88_22 : decode cJ13_bitCount_95d88 22 = .ok (.ladd, 1) := by decide +kernel
theorem dJ13_bitCount_95d88_23 : decode cJ13_bitCount_95d88 23 = .ok (.lstore_n 0, 1) := by decide +kernel
theorem dJ13_bitCount_95d88_24 : decode cJ13_bitCount_95d88 24 = .ok (.lload_n 0, 1) := by decide +kernel
theorem dJ13_bitCount_95d88_25 : decode cJ13_bitCount_95d88 25 = .ok (.lload_n 0, 1) := by decide +kernel
theorem dJ13_bitCount_95d88_26 : decode cJ13_bitCount_95d88 26 = .ok (.iconst 4, 1) := by decide +kernel
theorem dJ13_bitCount_95d88_27 : decode cJ13_bitCount_95d88 27 = .ok (.lushr, 1) := by decide +kernel
theorem dJ13_bitCount_95d88_28 : decode cJ13_bitCount_95d88 28 = .ok (.ladd, 1) := by decide +kernel
theorem dJ13_bitCount_95d88_29 : decode cJ13_bitCount_95d88 29 = .ok (.ldc2_w 318, 3) := by decide +kernel
theorem dJ13_bitCount_95d88_32 : decode cJ13_bitCount_95d88 32 = .ok (.land, 1) := by decide +kernel
theorem dJ13_bitCount_95d88_33 : decode cJ13_bitCount_95d88 33 = .ok (.lstore_n 0, 1) := by decide +kernel
theorem dJ13_bitCount_95d88_34 : decode cJ13_bitCount_95d88 34 = .ok (.lload_n 0, 1) := by decide +kernel
theorem dJ13_bitCount_95d88_35 : decode cJ13_bitCount_95d88 35 = .ok (.lload_n 0, 1) := by decide +kernel
theorem dJ13_bitCount_95d88_36 : decode cJ13_bitCount_95d88 36 = .ok (.bipush 8, 2) := by decide +kernel
theorem dJ13_bitCount_95d88_38 : decode cJ13_bitCount_95d88 38 = .ok (.lushr, 1) := by decide +kernel
theorem dJ13_bitCount_95d88_39 : decode cJ13_bitCount_95d88 39 = .ok (.ladd, 1) := by decide +kernel
theorem dJ13_bitCount_95d88_40 : decode cJ13_bitCount_95d88 40 = .ok (.lstore_n 0, 1) := by decide +kernel
theorem dJ13_bitCount_95d88_41 : decode cJ13_bitCount_95d88 41 = .ok (.lload_n 0, 1) := by decide +kernel
theorem dJ13_bitCount_95d88_42 : decode cJ13_bitCount_95d88 42 = .ok (.lload_n 0, 1) := by decide +kernel
theorem dJ13_bitCount_95d88_43 : decode cJ13_bitCount_95d88 43 = .ok (.bipush 16, 2) := by decide +kernel
theorem dJ13_bitCount_95d88_45 : decode cJ13_bitCount_95d88 45 = .ok (.lushr, 1) := by decide +kernel
theorem dJ13_bitCount_95d88_46 : decode cJ13_bitCount_95d88 46 = .ok (.ladd, 1) := by decide +kernel
theorem dJ13_bitCount_95d88_47 : decode cJ13_bitCount_95d88 47 = .ok (.lstore_n 0, 1) := by decide +kernel
theorem dJ13_bitCount_95d88_48 : decode cJ13_bitCount_95d88 48 = .ok (.lload_n 0, 1) := by decide +kernel
theorem dJ13_bitCount_95d88_49 : decode cJ13_bitCount_95d88 49 = .ok (.lload_n 0, 1) := by decide +kernel
theorem dJ13_bitCount_95d88_50 : decode cJ13_bitCount_95d88 50 = .ok (.bipush 32, 2) := by decide +kernel
theorem dJ13_bitCount_95d88_52 : decode cJ13_bitCount_95d88 52 = .ok (.lushr, 1) := by decide +kernel
theorem dJ13_bitCount_95d88_53 : decode cJ13_bitCount_95d88 53 = .ok (.ladd, 1) := by decide +kernel
theorem dJ13_bitCount_95d88_54 : decode cJ13_bitCount_95d88 54 = .ok (.lstore_n 0, 1) := by decide +kernel
theorem dJ13_bitCount_95d88_55 : decode cJ13_bitCount_95d88 55 = .ok (.lload_n 0, 1) := by decide +kernel
theorem dJ13_bitCount_95d88_56 : decode cJ13_bitCount_95d88 56 = .ok (.l2i, 1) := by decide +kernel
theorem dJ13_bitCount_95d88_57 : decode cJ13_bitCount_95d88 57 = .ok (.bipush 127, 2) := by decide +kernel
theorem dJ13_bitCount_95d88_59 : decode cJ13_bitCount_95d88 59 = .ok (.iand, 1) := by decide +kernel
theorem dJ13_bitCount_95d88_60 : decode cJ13_bitCount_95d88 60 = .ok (.ireturn, 1) := by decide +kernel
theorem dJ9_abs_0f7a4_0 : decode cJ9_abs_0f7a4 0 = .ok (.iload_n 0, 1) := by decide +kernel
theorem dJ9_abs_0f7a4_1 : decode cJ9_abs_0f7a4 1 = .ok (.ifCond .ge 8, 3) := by decide +kernel
theorem dJ9_abs_0f7a4_4 : decode cJ9_abs_0f7a4 4 = .ok (.iload_n 0, 1) := by decide +kernel
theorem dJ9_abs_0f7a4_5 : decode cJ9_abs_0f7a4 5 = .ok (.ineg, 1) := by decide +kernel
theorem dJ9_abs_0f7a4_6 : decode cJ9_abs_0f7a4 6 = .ok (.goto 4, 3) := by decide +kernel
theorem dJ9_abs_0f7a4_9 : decode cJ9_abs_0f7a4 9 = .ok (.iload_n 0, 1) := by decide +kernel
theorem dJ9_abs_0f7a4_10 : decode cJ9_abs_0f7a4 10 = .ok (.ireturn, 1) := by decide +kernel
theorem dJ9_max_7cf53_0 : decode cJ9_max_7cf53 0 = .ok (.iload_n 0, 1) := by decide +kernel
theorem dJ9_max_7cf53_1 : decode cJ9_max_7cf53 1 = .ok (.iload_n 1, 1) := by decide +kernel
theorem dJ9_max_7cf53_2 : decode cJ9_max_7cf53 2 = .ok (.if_icmp .lt 7, 3) := by decide +kernel
theorem dJ9_max_7cf53_5 : decode cJ9_max_7cf53 5 = .ok (.iload_n 0, 1) := by decide +kernel
theorem dJ9_max_7cf53_6 : decode cJ9_max_7cf53 6 = .ok (.goto 4, 3) := by decide +kernel
theorem dJ9_max_7cf53_9 : decode cJ9_max_7cf53 9 = .ok (.iload_n 1, 1) := by decide +kernel
theorem dJ9_max_7cf53_10 : decode cJ9_max_7cf53 10 = .ok (.ireturn, 1) := by decide +kernel
theorem dJ9_min_7cf53_0 : decode cJ9_min_7cf53 0 = .ok (.iload_n 0, 1) := by decide +kernel
theorem dJ9_min_7cf53_1 : decode cJ9_min_7cf53 1 = .ok (.iload_n 1, 1) := by decide +kernel
theorem dJ9_min_7cf53_2 : decode cJ9_min_7cf53 2 = .ok (.if_icmp .gt 7, 3) := by decide +kernel
theorem dJ9_min_7cf53_5 : decode cJ9_min_7cf53 5 = .ok (.iload_n 0, 1) := by decide +kernel
theorem dJ9_min_7cf53_6 : decode cJ9_min_7cf53 6 = .ok (.goto 4, 3) := by decide +kernel
theorem dJ9_min_7cf53_9 : decode cJ9_min_7cf53 9 = .ok (.iload_n 1, 1) := by decide +kernel
theorem dJ9_min_7cf53_10 : decode cJ9_min_7cf53 10 = .ok (.ireturn, 1) := by decide +kernel
set_option maxRecDepth 20000 in
theorem ggL_append_X7_append : GoodIn wsL_append wsX7_append := goodIn_ca (goodIn_ca (goodIn_r _ [7, 8, 9, 10, 11, 12, 13, 14, 15, 16, 17, 18, 19, 20, 21] (by decide +kernel) (by decide +kernel)) (goodIn_sub (fun _ h => List.mem_cons_of_mem _ (List.mem_append_left _ (List.mem_append_right _ h))) (by decide +kernel))) (goodIn_sub (fun _ h => List.mem_cons_of_mem _ (List.mem_append_right _ h)) (by decide +kernel))
set_option maxRecDepth 20000 in
theorem gL_append_X7_append : GoodIn wsL_append (wsV RL 7 RX7 yX7_append wsX7_append) := goodIn_app (goodIn_of _ (by decide +kernel)) ggL_append_X7_append
theorem dL_append_0 : decode cL_append 0 = .ok (.aload_n 2, 1) := by decide +kernel
theorem dL_append_1 : decode cL_append 1 = .ok (.iconst 0, 1) := by decide +kernel
theorem dL_append_2 : decode cL_append 2 = .ok (.aload_n 0, 1) := by decide +kernel
theorem dL_append_3 : decode cL_append 3 = .ok (.iload_n 1, 1) := by decide +kernel
theorem dL_append_4 : decode cL_append 4 = .ok (.invokevirtual 7, 3) := by decide +kernel
theorem dL_append_7 : decode cL_append 7 = .ok (.i2l, 1) := by decide +kernel
theorem dL_append_8 : decode cL_append 8 = .ok (.lastore, 1) := by decide +kernel
theorem dL_append_9 : decode cL_append 9 = .ok (.goto 9, 3) := by decide +kernel
theorem dL_append_12 : decode cL_append 12 = .ok (.astore_n 3, 1) := by decide +kernel
theorem dL_append_13 : decode cL_append 13 = .ok (.iconst 1, 1) := by decide +kernel
theorem dL_append_14 : decode cL_append 14 = .ok (.ireturn, 1) := by decide +kernel
theorem dL_append_15 : decode cL_append 15 = .ok (.astore_n 3, 1) := by decide +kernel
theorem dL_append_16 : decode cL_append 16 = .ok (.iconst 2, 1) := by decide +kernel
theorem dL_append_17 : decode cL_append 17 = .ok (.ireturn, 1) := by decide +kernel
theorem dL_append_18 : decode cL_append 18 = .ok (.iconst 0, 1) := by decide +kernel
theorem dL_append_19 : decode cL_append 19 = .ok (.ireturn, 1) := by decide +kernel
set_option maxRecDepth 20000 in
theorem ggL_load_X7_load : GoodIn wsL_load wsX7_load := goodIn_ca (goodIn_r _ [6, 7, 8, 9, 10, 11, 12, 13, 14, 15, 16, 5, 17, 18, 19, 20, 21, 22, 23, 24, 25, 26, 27, 28, 29, 30, 31, 32, 33, 34, 35, 36, 37, 38, 39, 40, 41, 42, 43, 44, 45, 46, 47, 48, 49, 50, 51, 52, 53, 54, 55, 56, 57, 58, 59, 60, 61, 62, 63, 64, 65, 66, 67, 68, 69, 70, 71, 72, 73, 74, 75, 76, 77, 78, 79, 80, 81, 82, 83, 84, 85, 86, 87, 88, 89, 90, 91, 92, 93, 94, 95, 96, 97, 98, 99, 100, 101, 102, 103, 104, 105, 106, 107, 108, 109, 110, 111, 112, 113, 114, 115, 116, 117, 118, 119, 120, 121, 122, 123, 124, 125, 126, 127, 128, 129, 130, 131, 132, 133, 134, 135, 136, 137, 138, 139, 140, 141, 142, 143, 144, 145, 146, 147, 148, 149, 150, 151, 152] (by decide +kernel) (by decide +kernel)) (goodIn_sub (fun _ h => List.mem_cons_of_mem _ (List.mem_append_right _ h)) (by decide +kernel))
set_option maxRecDepth 20000 in
theorem gL_load_X7_load : GoodIn wsL_load (wsV RL 17 RX7 yX7_load wsX7_load) := goodIn_app (goodIn_of _ (by decide +kernel)) ggL_load_X7_load
theorem dL_load_0 : decode cL_load 0 = .ok (.aload_n 1, 1) := by decide +kernel
theorem dL_load_1 : decode cL_load 1 = .ok (.iconst 0, 1) := by decide +kernel
theorem dL_load_2 : decode cL_load 2 = .ok (.aload_n 0, 1) := by decide +kernel
theorem dL_load_3 : decode cL_load 3 = .ok (.invokevirtual 17, 3) := by decide +kernel
theorem dL_load_6 : decode cL_load 6 = .ok (.i2l, 1) := by decide +kernel
theorem dL_load_7 : decode cL_load 7 = .ok (.lastore, 1) := by decide +kernel
theorem dL_load_8 : decode cL_load 8 = .ok (.goto 6, 3) := by decide +kernel
theorem dL_load_11 : decode cL_load 11 = .ok (.astore_n 2, 1) := by decide +kernel
theorem dL_load_12 : decode cL_load 12 = .ok (.iconst 1, 1) := by decide +kernel
theorem dL_load_13 : decode cL_load 13 = .ok (.ireturn, 1) := by decide +kernel
theorem dL_load_14 : decode cL_load 14 = .ok (.iconst 0, 1) := by decide +kernel
theorem dL_load_15 : decode cL_load 15 = .ok (.ireturn, 1) := by decide +kernel
set_option maxRecDepth 20000 in
theorem ggL_about_X7_about : GoodIn wsL_about wsX7_about := goodIn_ca (goodIn_r _ [6, 7, 8, 9, 10, 11, 12, 13, 14, 15, 16, 17, 18, 19, 20, 21, 22, 23, 24, 25, 26, 27, 28, 29, 30, 31, 32, 33, 34, 35, 36, 37, 38, 39, 40, 41, 42, 43, 44, 45, 46, 5, 47, 48, 49, 50, 51, 52, 53, 54, 55, 56, 57, 58, 59, 60, 61, 62, 63, 64, 65, 66, 67, 68, 69, 70, 71, 72, 73, 74, 75, 76, 77, 78, 79, 80, 81, 82, 83, 84, 85, 86, 87, 88, 89, 90, 91, 92, 93, 94, 95, 96, 97, 98, 99, 100, 101, 102, 103, 104, 105, 106, 107, 108, 109, 110, 111, 112, 113, 114, 115, 116, 117, 118, 119, 120, 121, 122, 123, 124, 125, 126, 127, 128, 129, 130, 131, 132, 133, 134, 135, 136, 137, 138, 139, 140, 141, 142, 143, 144, 145, 146, 147, 148, 149, 150, 151, 152, 153, 154, 155] (by decide +kernel) (by decide +kernel)) (goodIn_sub (fun _ h => List.mem_cons_of_mem _ (List.mem_append_right _ h)) (by decide +kernel))
set_option maxRecDepth 20000 in
theorem gL_about_X7_about : GoodIn wsL_about (wsV RL 21 RX7 yX7_about wsX7_about) := goodIn_app (goodIn_of _ (by decide +kernel)) ggL_about_X7_about
theorem dL_about_0 : decode cL_about 0 = .ok (.aload_n 2, 1) := by decide +kernel
theorem dL_about_1 : decode cL_about 1 = .ok (.iconst 0, 1) := by decide +kernel
theorem dL_about_2 : decode cL_about 2 = .ok (.aload_n 0, 1) := by decide +kernel
theorem dL_about_3 : decode cL_about 3 = .ok (.iload_n 1, 1) := by decide +kernel
theorem dL_about_4 : decode cL_about 4 = .ok (.invokevirtual 21, 3) := by decide +kernel
theorem dL_about_7 : decode cL_about 7 = .ok (.i2l, 1) := by decide +kernel
theorem dL_about_8 : decode cL_about 8 = .ok (.lastore, 1) := by decide +kernel
theorem dL_about_9 : decode cL_about 9 = .ok (.goto 6, 3) := by decide +kernel
theorem dL_about_12 : decode cL_about 12 = .ok (.astore_n 3, 1) := by decide +kernel
theorem dL_about_13 : decode cL_about 13 = .ok (.iconst 1, 1) := by decide +kernel
theorem dL_about_14 : decode cL_about 14 = .ok (.ireturn, 1) := by decide +kernel
theorem dL_about_15 : decode cL_about 15 = .ok (.iconst 0, 1) := by decide +kernel
theorem dL_about_16 : decode cL_about 16 = .ok (.ireturn, 1) := by decide +kernel
set_option maxRecDepth 20000 in
theorem ggL_layer_X7_layer : GoodIn wsL_layer wsX7_layer := goodIn_ca (goodIn_ca (goodIn_r _ [7, 8, 9, 10, 11, 12, 13, 14, 15, 16, 17, 18, 19, 20, 21, 22, 23, 24, 25, 26, 27, 28, 29, 30, 31, 32, 33, 34, 35, 36, 6, 37, 38, 39, 40, 41, 42, 43, 44, 45, 46, 47, 48, 49, 50, 51, 52, 53, 54, 55, 56, 57, 58, 59, 60, 61, 62, 63, 64, 65, 66, 67, 68, 69, 70, 71, 72, 73, 74, 75, 76, 77, 78, 79, 80, 81, 82, 83, 84, 85, 86, 87, 88, 89, 90, 91, 92, 93, 94, 95, 96, 97, 98, 99, 100, 101, 102, 103, 104, 105, 106, 107, 108, 109, 110, 111, 112, 113, 114, 115, 116, 117, 118, 119, 120, 121, 122, 123, 124, 125, 126, 127, 128, 129, 130, 131] (by decide +kernel) (by decide +kernel)) (goodIn_sub (fun _ h => List.mem_cons_of_mem _ (List.mem_append_left _ (List.mem_append_right _ h))) (by decide +kernel))) (goodIn_sub (fun _ h => List.mem_cons_of_mem _ (List.mem_append_right _ h)) (by decide +kernel))
set_option maxRecDepth 20000 in
theorem gL_layer_X7_layer : GoodIn wsL_layer (wsV RL 24 RX7 yX7_layer wsX7_layer) := goodIn_app (goodIn_of _ (by decide +kernel)) ggL_layer_X7_layer
theorem dL_layer_0 : decode cL_layer 0 = .ok (.aload_n 3, 1) := by decide +kernel
theorem dL_layer_1 : decode cL_layer 1 = .ok (.iconst 0, 1) := by decide +kernel
theorem dL_layer_2 : decode cL_layer 2 = .ok (.aload_n 0, 1) := by decide +kernel
theorem dL_layer_3 : decode cL_layer 3 = .ok (.iload_n 1, 1) := by decide +kernel
theorem dL_layer_4 : decode cL_layer 4 = .ok (.iload_n 2, 1) := by decide +kernel
theorem dL_layer_5 : decode cL_layer 5 = .ok (.invokevirtual 24, 3) := by decide +kernel
theorem dL_layer_8 : decode cL_layer 8 = .ok (.i2l, 1) := by decide +kernel
theorem dL_layer_9 : decode cL_layer 9 = .ok (.lastore, 1) := by decide +kernel
theorem dL_layer_10 : decode cL_layer 10 = .ok (.goto 11, 3) := by decide +kernel
theorem dL_layer_13 : decode cL_layer 13 = .ok (.astore 4, 2) := by decide +kernel
theorem dL_layer_15 : decode cL_layer 15 = .ok (.iconst 1, 1) := by decide +kernel
theorem dL_layer_16 : decode cL_layer 16 = .ok (.ireturn, 1) := by decide +kernel
theorem dL_layer_17 : decode cL_layer 17 = .ok (.astore 4, 2) := by decide +kernel
theorem dL_layer_19 : decode cL_layer 19 = .ok (.iconst 2, 1) := by decide +kernel
theorem dL_layer_20 : decode cL_layer 20 = .ok (.ireturn, 1) := by decide +kernel
theorem dL_layer_21 : decode cL_layer 21 = .ok (.iconst 0, 1) := by decide +kernel
theorem dL_layer_22 : decode cL_layer 22 = .ok (.ireturn, 1) := by decide +kernel
set_option maxRecDepth 20000 in
theorem ggL_pen_X7_pen : GoodIn wsL_pen wsX7_pen := goodIn_ca (goodIn_ca (goodIn_r _ [7, 8, 9, 10, 11, 12, 13, 14, 15, 16, 17, 18, 19, 20, 21, 22, 23, 24, 25, 26, 27, 6, 28, 29, 30, 31, 32, 33, 34, 35, 36, 37, 38, 39, 40, 41, 42, 43, 44, 45, 46, 47, 48, 49, 50, 51, 52, 53, 54, 55, 56, 57, 58, 59] (by decide +kernel) (by decide +kernel)) (goodIn_sub (fun _ h => List.mem_cons_of_mem _ (List.mem_append_left _ (List.mem_append_right _ h))) (by decide +kernel))) (goodIn_sub (fun _ h => List.mem_cons_of_mem _ (List.mem_append_right _ h)) (by decide +kernel))
set_option maxRecDepth 20000 in
theorem gL_pen_X7_pen : GoodIn wsL_pen (wsV RL 30 RX7 yX7_pen wsX7_pen) := goodIn_app (goodIn_of _ (by decide +kernel)) ggL_pen_X7_pen
theorem dL_pen_0 : decode cL_pen 0 = .ok (.aload 4, 2) := by decide +kernel
theorem dL_pen_2 : decode cL_pen 2 = .ok (.iconst 0, 1) := by decide +kernel
theorem dL_pen_3 : decode cL_pen 3 = .ok (.aload_n 0, 1) := by decide +kernel
theorem dL_pen_4 : decode cL_pen 4 = .ok (.iload_n 1, 1) := by decide +kernel
theorem dL_pen_5 : decode cL_pen 5 = .ok (.lload_n 2, 1) := by decide +kernel
theorem dL_pen_6 : decode cL_pen 6 = .ok (.invokevirtual 30, 3) := by decide +kernel
theorem dL_pen_9 : decode cL_pen 9 = .ok (.i2l, 1) := by decide +kernel
theorem dL_pen_10 : decode cL_pen 10 = .ok (.lastore, 1) := by decide +kernel
theorem dL_pen_11 : decode cL_pen 11 = .ok (.goto 11, 3) := by decide +kernel
theorem dL_pen_14 : decode cL_pen 14 = .ok (.astore 5, 2) := by decide +kernel
theorem dL_pen_16 : decode cL_pen 16 = .ok (.iconst 1, 1) := by decide +kernel
theorem dL_pen_17 : decode cL_pen 17 = .ok (.ireturn, 1) := by decide +kernel
theorem dL_pen_18 : decode cL_pen 18 = .ok (.astore 5, 2) := by decide +kernel
theorem dL_pen_20 : decode cL_pen 20 = .ok (.iconst 2, 1) := by decide +kernel
theorem dL_pen_21 : decode cL_pen 21 = .ok (.ireturn, 1) := by decide +kernel
theorem dL_pen_22 : decode cL_pen 22 = .ok (.iconst 0, 1) := by decide +kernel
theorem dL_pen_23 : decode cL_pen 23 = .ok (.ireturn, 1) := by decide +kernel
set_option maxRecDepth 20000 in
theorem ggL_comes_X7_comes : GoodIn wsL_comes wsX7_comes := goodIn_ca (goodIn_ca (goodIn_r _ [7, 8, 9, 10, 11, 12, 13, 14, 15, 16, 17, 18, 19, 20, 21, 22, 23, 24, 25, 26, 27, 6, 28, 29, 30, 31, 32, 33, 34, 35, 36, 37, 38, 39, 40, 41, 42, 43, 44, 45, 46, 47, 48, 49, 50, 51, 52, 53, 54, 55, 56, 57, 58, 59, 60, 61, 62, 63, 64, 65, 66, 67, 68, 69, 70, 71, 72, 73] (by decide +kernel) (by decide +kernel)) (goodIn_sub (fun _ h => List.mem_cons_of_mem _ (List.mem_append_left _ (List.mem_append_right _ h))) (by decide +kernel))) (goodIn_sub (fun _ h => List.mem_cons_of_mem _ (List.mem_append_right _ h)) (by decide +kernel))
set_option maxRecDepth 20000 in
theorem gL_comes_X7_comes : GoodIn wsL_comes (wsV RL 34 RX7 yX7_comes wsX7_comes) := goodIn_app (goodIn_of _ (by decide +kernel)) ggL_comes_X7_comes
theorem dL_comes_0 : decode cL_comes 0 = .ok (.aload 4, 2) := by decide +kernel
theorem dL_comes_2 : decode cL_comes 2 = .ok (.iconst 0, 1) := by decide +kernel
theorem dL_comes_3 : decode cL_comes 3 = .ok (.aload_n 0, 1) := by decide +kernel
theorem dL_comes_4 : decode cL_comes 4 = .ok (.iload_n 1, 1) := by decide +kernel
theorem dL_comes_5 : decode cL_comes 5 = .ok (.iload_n 2, 1) := by decide +kernel
theorem dL_comes_6 : decode cL_comes 6 = .ok (.iload_n 3, 1) := by decide +kernel
theorem dL_comes_7 : decode cL_comes 7 = .ok (.invokevirtual 34, 3) := by decide +kernel
theorem dL_comes_10 : decode cL_comes 10 = .ok (.i2l, 1) := by decide +kernel
theorem dL_comes_11 : decode cL_comes 11 = .ok (.lastore, 1) := by decide +kernel
theorem dL_comes_12 : decode cL_comes 12 = .ok (.goto 11, 3) := by decide +kernel
theorem dL_comes_15 : decode cL_comes 15 = .ok (.astore 5, 2) := by decide +kernel
theorem dL_comes_17 : decode cL_comes 17 = .ok (.iconst 1, 1) := by decide +kernel
theorem dL_comes_18 : decode cL_comes 18 = .ok (.ireturn, 1) := by decide +kernel
theorem dL_comes_19 : decode cL_comes 19 = .ok (.astore 5, 2) := by decide +kernel
theorem dL_comes_21 : decode cL_comes 21 = .ok (.iconst 2, 1) := by decide +kernel
theorem dL_comes_22 : decode cL_comes 22 = .ok (.ireturn, 1) := by decide +kernel
theorem dL_comes_23 : decode cL_comes 23 = .ok (.iconst 0, 1) := by decide +kernel
theorem dL_comes_24 : decode cL_comes 24 = .ok (.ireturn, 1) := by decide +kernel
set_option maxRecDepth 20000 in
theorem ggL_at_X7_at : GoodIn wsL_at wsX7_at := goodIn_ca (goodIn_r _ [6, 7, 8, 9, 10, 11, 12, 5, 13, 14, 15, 16, 17, 18, 19, 20, 21, 22, 23, 24, 25, 26, 27, 28, 29, 30, 31, 32, 33, 34, 35, 36, 37, 38, 39, 40, 41, 42, 43, 44, 45, 46, 47, 48, 49, 50, 51, 52, 53, 54, 55, 56, 57, 58, 59, 60, 61, 62, 63, 64, 65, 66, 67, 68, 69, 70, 71, 72, 73, 74, 75, 76, 77, 78, 79, 80, 81, 82, 83, 84, 85, 86, 87, 88, 89, 90, 91, 92, 93, 94, 95, 96, 97, 98, 99, 100, 101, 102, 103] (by decide +kernel) (by decide +kernel)) (goodIn_sub (fun _ h => List.mem_cons_of_mem _ (List.mem_append_right _ h)) (by decide +kernel))
set_option maxRecDepth 20000 in
theorem gL_at_X7_at : GoodIn wsL_at (wsV RL 38 RX7 yX7_at wsX7_at) := goodIn_app (goodIn_of _ (by decide +kernel)) ggL_at_X7_at
theorem dL_at_0 : decode cL_at 0 = .ok (.aload_n 2, 1) := by decide +kernel
theorem dL_at_1 : decode cL_at 1 = .ok (.iconst 0, 1) := by decide +kernel
theorem dL_at_2 : decode cL_at 2 = .ok (.aload_n 0, 1) := by decide +kernel
theorem dL_at_3 : decode cL_at 3 = .ok (.iload_n 1, 1) := by decide +kernel
theorem dL_at_4 : decode cL_at 4 = .ok (.invokevirtual 38, 3) := by decide +kernel
theorem dL_at_7 : decode cL_at 7 = .ok (.i2l, 1) := by decide +kernel
theorem dL_at_8 : decode cL_at 8 = .ok (.lastore, 1) := by decide +kernel
theorem dL_at_9 : decode cL_at 9 = .ok (.goto 6, 3) := by decide +kernel
theorem dL_at_12 : decode cL_at 12 = .ok (.astore_n 3, 1) := by decide +kernel
theorem dL_at_13 : decode cL_at 13 = .ok (.iconst 1, 1) := by decide +kernel
theorem dL_at_14 : decode cL_at 14 = .ok (.ireturn, 1) := by decide +kernel
theorem dL_at_15 : decode cL_at 15 = .ok (.iconst 0, 1) := by decide +kernel
theorem dL_at_16 : decode cL_at 16 = .ok (.ireturn, 1) := by decide +kernel
set_option maxRecDepth 20000 in
theorem ggL_order_X7_order : GoodIn wsL_order wsX7_order := goodIn_ca (goodIn_r _ [6, 7, 8, 9, 10, 11, 12, 13, 14, 15, 16, 17, 18, 19, 20, 21, 22, 23, 24, 25, 26, 27, 28, 29, 30, 31, 32, 33, 5, 34, 35, 36, 37, 38, 39, 40, 41, 42, 43, 44, 45, 46, 47, 48, 49, 50, 51, 52, 53, 54, 55, 56, 57, 58] (by decide +kernel) (by decide +kernel)) (goodIn_sub (fun _ h => List.mem_cons_of_mem _ (List.mem_append_right _ h)) (by decide +kernel))
set_option maxRecDepth 20000 in
theorem gL_order_X7_order : GoodIn wsL_order (wsV RL 41 RX7 yX7_order wsX7_order) := goodIn_app (goodIn_of _ (by decide +kernel)) ggL_order_X7_order
theorem dL_order_0 : decode cL_order 0 = .ok (.aload_n 2, 1) := by decide +kernel
theorem dL_order_1 : decode cL_order 1 = .ok (.iconst 0, 1) := by decide +kernel
theorem dL_order_2 : decode cL_order 2 = .ok (.aload_n 0, 1) := by decide +kernel
theorem dL_order_3 : decode cL_order 3 = .ok (.iload_n 1, 1) := by decide +kernel
theorem dL_order_4 : decode cL_order 4 = .ok (.invokevirtual 41, 3) := by decide +kernel
theorem dL_order_7 : decode cL_order 7 = .ok (.i2l, 1) := by decide +kernel
theorem dL_order_8 : decode cL_order 8 = .ok (.lastore, 1) := by decide +kernel
theorem dL_order_9 : decode cL_order 9 = .ok (.goto 6, 3) := by decide +kernel
theorem dL_order_12 : decode cL_order 12 = .ok (.astore_n 3, 1) := by decide +kernel
theorem dL_order_13 : decode cL_order 13 = .ok (.iconst 1, 1) := by decide +kernel
theorem dL_order_14 : decode cL_order 14 = .ok (.ireturn, 1) := by decide +kernel
theorem dL_order_15 : decode cL_order 15 = .ok (.iconst 0, 1) := by decide +kernel
theorem dL_order_16 : decode cL_order 16 = .ok (.ireturn, 1) := by decide +kernel
set_option maxRecDepth 20000 in
theorem ggL_sighting_X7_sighting : GoodIn wsL_sighting wsX7_sighting := goodIn_ca (goodIn_ca (goodIn_r _ [7, 8, 9, 10, 11, 12, 13, 14, 15, 16, 17, 18, 19, 20, 21, 22, 23, 24, 25, 26, 27, 28, 29, 30, 31, 32, 33, 34, 35, 36, 37, 38, 39, 40, 41, 42, 6, 43, 44, 45, 46, 47, 48, 49, 50, 51, 52, 53, 54, 55, 56, 57, 58, 59, 60, 61, 62, 63, 64, 65, 66, 67, 68, 69, 70, 71, 72, 73, 74, 75, 76, 77, 78, 79, 80] (by decide +kernel) (by decide +kernel)) (goodIn_sub (fun _ h => List.mem_cons_of_mem _ (List.mem_append_left _ (List.mem_append_right _ h))) (by decide +kernel))) (goodIn_sub (fun _ h => List.mem_cons_of_mem _ (List.mem_append_right _ h)) (by decide +kernel))
set_option maxRecDepth 20000 in
theorem gL_sighting_X7_sighting : GoodIn wsL_sighting (wsV RL 44 RX7 yX7_sighting wsX7_sighting) := goodIn_app (goodIn_of _ (by decide +kernel)) ggL_sighting_X7_sighting
theorem dL_sighting_0 : decode cL_sighting 0 = .ok (.aload_n 3, 1) := by decide +kernel
theorem dL_sighting_1 : decode cL_sighting 1 = .ok (.iconst 0, 1) := by decide +kernel
theorem dL_sighting_2 : decode cL_sighting 2 = .ok (.aload_n 0, 1) := by decide +kernel
theorem dL_sighting_3 : decode cL_sighting 3 = .ok (.iload_n 1, 1) := by decide +kernel
theorem dL_sighting_4 : decode cL_sighting 4 = .ok (.iload_n 2, 1) := by decide +kernel
theorem dL_sighting_5 : decode cL_sighting 5 = .ok (.invokevirtual 44, 3) := by decide +kernel
theorem dL_sighting_8 : decode cL_sighting 8 = .ok (.i2l, 1) := by decide +kernel
theorem dL_sighting_9 : decode cL_sighting 9 = .ok (.lastore, 1) := by decide +kernel
theorem dL_sighting_10 : decode cL_sighting 10 = .ok (.goto 11, 3) := by decide +kernel
theorem dL_sighting_13 : decode cL_sighting 13 = .ok (.astore 4, 2) := by decide +kernel
theorem dL_sighting_15 : decode cL_sighting 15 = .ok (.iconst 1, 1) := by decide +kernel
theorem dL_sighting_16 : decode cL_sighting 16 = .ok (.ireturn, 1) := by decide +kernel
theorem dL_sighting_17 : decode cL_sighting 17 = .ok (.astore 4, 2) := by decide +kernel
theorem dL_sighting_19 : decode cL_sighting 19 = .ok (.iconst 2, 1) := by decide +kernel
theorem dL_sighting_20 : decode cL_sighting 20 = .ok (.ireturn, 1) := by decide +kernel
theorem dL_sighting_21 : decode cL_sighting 21 = .ok (.iconst 0, 1) := by decide +kernel
theorem dL_sighting_22 : decode cL_sighting 22 = .ok (.ireturn, 1) := by decide +kernel
set_option maxRecDepth 20000 in
theorem ggL_common_X7_common : GoodIn wsL_common wsX7_common := goodIn_ca (goodIn_r _ [6, 7, 8, 9, 10, 11, 12, 13, 14, 15, 16, 17, 18, 19, 20, 21, 22, 23, 24, 25, 26, 27, 28, 29, 30, 31, 32, 33, 34, 35, 36, 37, 38, 39, 40, 41, 42, 43, 5, 44, 45, 46, 47, 48, 49, 50, 51, 52, 53, 54, 55, 56, 57, 58, 59, 60, 61, 62, 63, 64, 65, 66, 67, 68, 69, 70, 71, 72, 73, 74, 75, 76, 77, 78, 79, 80, 81, 82, 83, 84, 85, 86, 87, 88, 89, 90, 91, 92, 93, 94, 95, 96, 97, 98, 99, 100] (by decide +kernel) (by decide +kernel)) (goodIn_sub (fun _ h => List.mem_cons_of_mem _ (List.mem_append_right _ h)) (by decide +kernel))
set_option maxRecDepth 20000 in
theorem gL_common_X7_common : GoodIn wsL_common (wsV RL 47 RX7 yX7_common wsX7_common) := goodIn_app (goodIn_of _ (by decide +kernel)) ggL_common_X7_common
theorem dL_common_0 : decode cL_common 0 = .ok (.aload_n 3, 1) := by decide +kernel
theorem dL_common_1 : decode cL_common 1 = .ok (.iconst 0, 1) := by decide +kernel
theorem dL_common_2 : decode cL_common 2 = .ok (.aload_n 0, 1) := by decide +kernel
theorem dL_common_3 : decode cL_common 3 = .ok (.iload_n 1, 1) := by decide +kernel
theorem dL_common_4 : decode cL_common 4 = .ok (.iload_n 2, 1) := by decide +kernel
theorem dL_common_5 : decode cL_common 5 = .ok (.invokevirtual 47, 3) := by decide +kernel
theorem dL_common_8 : decode cL_common 8 = .ok (.i2l, 1) := by decide +kernel
theorem dL_common_9 : decode cL_common 9 = .ok (.lastore, 1) := by decide +kernel
theorem dL_common_10 : decode cL_common 10 = .ok (.goto 7, 3) := by decide +kernel
theorem dL_common_13 : decode cL_common 13 = .ok (.astore 4, 2) := by decide +kernel
theorem dL_common_15 : decode cL_common 15 = .ok (.iconst 1, 1) := by decide +kernel
theorem dL_common_16 : decode cL_common 16 = .ok (.ireturn, 1) := by decide +kernel
theorem dL_common_17 : decode cL_common 17 = .ok (.iconst 0, 1) := by decide +kernel
theorem dL_common_18 : decode cL_common 18 = .ok (.ireturn, 1) := by decide +kernel
set_option maxRecDepth 20000 in
theorem ggL_meet_X7_meet : GoodIn wsL_meet wsX7_meet := goodIn_ca (goodIn_r _ [6, 7, 8, 9, 10, 11, 12, 13, 14, 15, 16, 17, 18, 19, 20, 21, 22, 23, 24, 5, 25, 26, 27, 28, 29, 30, 31, 32, 33, 34, 35, 36, 37, 38, 39, 40, 41, 42, 43, 44, 45, 46, 47, 48, 49, 50, 51, 52, 53, 54, 55, 56, 57, 58, 59, 60, 61] (by decide +kernel) (by decide +kernel)) (goodIn_sub (fun _ h => List.mem_cons_of_mem _ (List.mem_append_right _ h)) (by decide +kernel))
set_option maxRecDepth 20000 in
theorem gL_meet_X7_meet : GoodIn wsL_meet (wsV RL 50 RX7 yX7_meet wsX7_meet) := goodIn_app (goodIn_of _ (by decide +kernel)) ggL_meet_X7_meet
theorem dL_meet_0 : decode cL_meet 0 = .ok (.aload_n 3, 1) := by decide +kernel
theorem dL_meet_1 : decode cL_meet 1 = .ok (.iconst 0, 1) := by decide +kernel
theorem dL_meet_2 : decode cL_meet 2 = .ok (.aload_n 0, 1) := by decide +kernel
theorem dL_meet_3 : decode cL_meet 3 = .ok (.iload_n 1, 1) := by decide +kernel
theorem dL_meet_4 : decode cL_meet 4 = .ok (.iload_n 2, 1) := by decide +kernel
theorem dL_meet_5 : decode cL_meet 5 = .ok (.invokevirtual 50, 3) := by decide +kernel
theorem dL_meet_8 : decode cL_meet 8 = .ok (.i2l, 1) := by decide +kernel
theorem dL_meet_9 : decode cL_meet 9 = .ok (.lastore, 1) := by decide +kernel
theorem dL_meet_10 : decode cL_meet 10 = .ok (.goto 7, 3) := by decide +kernel
theorem dL_meet_13 : decode cL_meet 13 = .ok (.astore 4, 2) := by decide +kernel
theorem dL_meet_15 : decode cL_meet 15 = .ok (.iconst 1, 1) := by decide +kernel
theorem dL_meet_16 : decode cL_meet 16 = .ok (.ireturn, 1) := by decide +kernel
theorem dL_meet_17 : decode cL_meet 17 = .ok (.iconst 0, 1) := by decide +kernel
theorem dL_meet_18 : decode cL_meet 18 = .ok (.ireturn, 1) := by decide +kernel
set_option maxRecDepth 20000 in
theorem ggL_turned_X7_turned : GoodIn wsL_turned wsX7_turned := goodIn_ca (goodIn_r _ [6, 7, 8, 9, 10, 11, 12, 13, 14, 15, 16, 17, 18, 19, 20, 21, 22, 23, 24, 25, 26, 27, 28, 29, 30, 31, 32, 33, 34, 35, 36, 37, 38, 39, 40, 41, 42, 43, 44, 45, 5, 46, 47, 48, 49, 50, 51, 52, 53, 54, 55, 56, 57, 58, 59, 60, 61, 62, 63, 64, 65, 66, 67, 68, 69, 70, 71, 72, 73, 74, 75, 76, 77, 78, 79, 80, 81, 82, 83, 84, 85, 86, 87, 88, 89, 90, 91, 92, 93, 94, 95, 96, 97, 98, 99, 100, 101, 102, 103, 104, 105, 106, 107, 108] (by decide +kernel) (by decide +kernel)) (goodIn_sub (fun _ h => List.mem_cons_of_mem _ (List.mem_append_right _ h)) (by decide +kernel))
set_option maxRecDepth 20000 in
theorem gL_turned_X7_turned : GoodIn wsL_turned (wsV RL 53 RX7 yX7_turned wsX7_turned) := goodIn_app (goodIn_of _ (by decide +kernel)) ggL_turned_X7_turned
theorem dL_turned_0 : decode cL_turned 0 = .ok (.aload_n 3, 1) := by decide +kernel
theorem dL_turned_1 : decode cL_turned 1 = .ok (.iconst 0, 1) := by decide +kernel
theorem dL_turned_2 : decode cL_turned 2 = .ok (.aload_n 0, 1) := by decide +kernel
theorem dL_turned_3 : decode cL_turned 3 = .ok (.iload_n 1, 1) := by decide +kernel
theorem dL_turned_4 : decode cL_turned 4 = .ok (.iload_n 2, 1) := by decide +kernel
theorem dL_turned_5 : decode cL_turned 5 = .ok (.invokevirtual 53, 3) := by decide +kernel
theorem dL_turned_8 : decode cL_turned 8 = .ok (.i2l, 1) := by decide +kernel
theorem dL_turned_9 : decode cL_turned 9 = .ok (.lastore, 1) := by decide +kernel
theorem dL_turned_10 : decode cL_turned 10 = .ok (.goto 7, 3) := by decide +kernel
theorem dL_turned_13 : decode cL_turned 13 = .ok (.astore 4, 2) := by decide +kernel
theorem dL_turned_15 : decode cL_turned 15 = .ok (.iconst 1, 1) := by decide +kernel
theorem dL_turned_16 : decode cL_turned 16 = .ok (.ireturn, 1) := by decide +kernel
theorem dL_turned_17 : decode cL_turned 17 = .ok (.iconst 0, 1) := by decide +kernel
theorem dL_turned_18 : decode cL_turned 18 = .ok (.ireturn, 1) := by decide +kernel
set_option maxRecDepth 20000 in
theorem ggL_setRing_X7_setRing : GoodIn wsL_setRing wsX7_setRing := goodIn_ca (goodIn_r _ [6, 7, 8, 9, 10, 11, 12, 13, 5, 14, 15, 16, 17, 18, 19, 20, 21, 22, 23, 24, 25, 26, 27, 28, 29, 30, 31, 32, 33, 34, 35, 36, 37, 38, 39, 40, 41, 42, 43, 44, 45, 46, 47, 48, 49, 50, 51, 52, 53, 54, 55, 56, 57, 58, 59, 60, 61, 62, 63, 64, 65, 66, 67, 68, 69, 70, 71, 72, 73, 74, 75, 76, 77, 78, 79, 80, 81, 82, 83, 84, 85, 86, 87, 88, 89, 90, 91, 92, 93, 94, 95, 96, 97, 98, 99, 100, 101, 102, 103, 104, 105, 106, 107, 108, 109, 110, 111] (by decide +kernel) (by decide +kernel)) (goodIn_sub (fun _ h => List.mem_cons_of_mem _ (List.mem_append_right _ h)) (by decide +kernel))
set_option maxRecDepth 20000 in
theorem gL_setRing_X7_setRing : GoodIn wsL_setRing (wsV RL 56 RX7 yX7_setRing wsX7_setRing) := goodIn_app (goodIn_of _ (by decide +kernel)) ggL_setRing_X7_setRing
theorem dL_setRing_0 : decode cL_setRing 0 = .ok (.aload_n 2, 1) := by decide +kernel
theorem dL_setRing_1 : decode cL_setRing 1 = .ok (.iconst 0, 1) := by decide +kernel
theorem dL_setRing_2 : decode cL_setRing 2 = .ok (.aload_n 0, 1) := by decide +kernel
theorem dL_setRing_3 : decode cL_setRing 3 = .ok (.iload_n 1, 1) := by decide +kernel
theorem dL_setRing_4 : decode cL_setRing 4 = .ok (.invokevirtual 56, 3) := by decide +kernel
theorem dL_setRing_7 : decode cL_setRing 7 = .ok (.i2l, 1) := by decide +kernel
theorem dL_setRing_8 : decode cL_setRing 8 = .ok (.lastore, 1) := by decide +kernel
theorem dL_setRing_9 : decode cL_setRing 9 = .ok (.goto 6, 3) := by decide +kernel
theorem dL_setRing_12 : decode cL_setRing 12 = .ok (.astore_n 3, 1) := by decide +kernel
theorem dL_setRing_13 : decode cL_setRing 13 = .ok (.iconst 1, 1) := by decide +kernel
theorem dL_setRing_14 : decode cL_setRing 14 = .ok (.ireturn, 1) := by decide +kernel
theorem dL_setRing_15 : decode cL_setRing 15 = .ok (.iconst 0, 1) := by decide +kernel
theorem dL_setRing_16 : decode cL_setRing 16 = .ok (.ireturn, 1) := by decide +kernel
set_option maxRecDepth 20000 in
theorem ggL_addLayer_X7_addLayer : GoodIn wsL_addLayer wsX7_addLayer := goodIn_ca (goodIn_ca (goodIn_r _ [7, 8, 9, 10, 11, 12, 13, 14, 15, 16, 6, 17, 18, 19, 20, 21, 22, 23, 24, 25, 26, 27, 28, 29, 30, 31, 32, 33, 34, 35, 36, 37, 38, 39, 40, 41, 42, 43, 44, 45, 46, 47, 48, 49, 50, 51, 52, 53, 54, 55, 56, 57, 58, 59, 60, 61, 62, 63, 64, 65, 66, 67, 68, 69, 70, 71, 72, 73, 74, 75, 76, 77, 78, 79, 80, 81, 82, 83, 84, 85, 86, 87, 88, 89, 90, 91, 92, 93, 94, 95, 96, 97, 98, 99, 100, 101, 102, 103, 104, 105, 106, 107, 108, 109, 110, 111, 112, 113, 114, 115, 116, 117, 118] (by decide +kernel) (by decide +kernel)) (goodIn_sub (fun _ h => List.mem_cons_of_mem _ (List.mem_append_left _ (List.mem_append_right _ h))) (by decide +kernel))) (goodIn_sub (fun _ h => List.mem_cons_of_mem _ (List.mem_append_right _ h)) (by decide +kernel))
set_option maxRecDepth 20000 in
theorem gL_addLayer_X7_addLayer : GoodIn wsL_addLayer (wsV RL 59 RX7 yX7_addLayer wsX7_addLayer) := goodIn_app (goodIn_of _ (by decide +kernel)) ggL_addLayer_X7_addLayer
theorem dL_addLayer_0 : decode cL_addLayer 0 = .ok (.aload 5, 2) := by decide +kernel
theorem dL_addLayer_2 : decode cL_addLayer 2 = .ok (.iconst 0, 1) := by decide +kernel
theorem dL_addLayer_3 : decode cL_addLayer 3 = .ok (.aload_n 0, 1) := by decide +kernel
theorem dL_addLayer_4 : decode cL_addLayer 4 = .ok (.iload_n 1, 1) := by decide +kernel
theorem dL_addLayer_5 : decode cL_addLayer 5 = .ok (.iload_n 2, 1) := by decide +kernel
theorem dL_addLayer_6 : decode cL_addLayer 6 = .ok (.iload_n 3, 1) := by decide +kernel
theorem dL_addLayer_7 : decode cL_addLayer 7 = .ok (.iload 4, 2) := by decide +kernel
theorem dL_addLayer_9 : decode cL_addLayer 9 = .ok (.invokevirtual 59, 3) := by decide +kernel
theorem dL_addLayer_12 : decode cL_addLayer 12 = .ok (.i2l, 1) := by decide +kernel
theorem dL_addLayer_13 : decode cL_addLayer 13 = .ok (.lastore, 1) := by decide +kernel
theorem dL_addLayer_14 : decode cL_addLayer 14 = .ok (.goto 11, 3) := by decide +kernel
theorem dL_addLayer_17 : decode cL_addLayer 17 = .ok (.astore 6, 2) := by decide +kernel
theorem dL_addLayer_19 : decode cL_addLayer 19 = .ok (.iconst 1, 1) := by decide +kernel
theorem dL_addLayer_20 : decode cL_addLayer 20 = .ok (.ireturn, 1) := by decide +kernel
theorem dL_addLayer_21 : decode cL_addLayer 21 = .ok (.astore 6, 2) := by decide +kernel
theorem dL_addLayer_23 : decode cL_addLayer 23 = .ok (.iconst 2, 1) := by decide +kernel
theorem dL_addLayer_24 : decode cL_addLayer 24 = .ok (.ireturn, 1) := by decide +kernel
theorem dL_addLayer_25 : decode cL_addLayer 25 = .ok (.iconst 0, 1) := by decide +kernel
theorem dL_addLayer_26 : decode cL_addLayer 26 = .ok (.ireturn, 1) := by decide +kernel
set_option maxRecDepth 20000 in
theorem ggL_change_X7_change : GoodIn wsL_change wsX7_change := goodIn_ca (goodIn_ca (goodIn_r _ [7, 8, 9, 10, 11, 12, 13, 14, 15, 16, 17, 18, 19, 20, 21, 22, 23, 24, 25, 6, 26, 27, 28, 29, 30, 31, 32, 33, 34, 35, 36, 37, 38, 39, 40, 41, 42, 43, 44, 45, 46, 47, 48, 49, 50, 51, 52, 53, 54, 55, 56, 57, 58, 59, 60, 61, 62, 63, 64, 65, 66, 67, 68, 69, 70, 71, 72, 73, 74, 75, 76, 77, 78, 79, 80, 81, 82, 83, 84, 85, 86, 87, 88, 89, 90, 91, 92, 93, 94, 95, 96, 97, 98, 99, 100, 101, 102, 103, 104, 105, 106, 107, 108, 109, 110, 111, 112, 113, 114, 115, 116, 117, 118, 119, 120, 121] (by decide +kernel) (by decide +kernel)) (goodIn_sub (fun _ h => List.mem_cons_of_mem _ (List.mem_append_left _ (List.mem_append_right _ h))) (by decide +kernel))) (goodIn_sub (fun _ h => List.mem_cons_of_mem _ (List.mem_append_right _ h)) (by decide +kernel))
set_option maxRecDepth 20000 in
theorem gL_change_X7_change : GoodIn wsL_change (wsV RL 63 RX7 yX7_change wsX7_change) := goodIn_app (goodIn_of _ (by decide +kernel)) ggL_change_X7_change
theorem dL_change_0 : decode cL_change 0 = .ok (.aload 4, 2) := by decide +kernel
theorem dL_change_2 : decode cL_change 2 = .ok (.iconst 0, 1) := by decide +kernel
theorem dL_change_3 : decode cL_change 3 = .ok (.aload_n 0, 1) := by decide +kernel
theorem dL_change_4 : decode cL_change 4 = .ok (.iload_n 1, 1) := by decide +kernel
theorem dL_change_5 : decode cL_change 5 = .ok (.iload_n 2, 1) := by decide +kernel
theorem dL_change_6 : decode cL_change 6 = .ok (.iload_n 3, 1) := by decide +kernel
theorem dL_change_7 : decode cL_change 7 = .ok (.invokevirtual 63, 3) := by decide +kernel
theorem dL_change_10 : decode cL_change 10 = .ok (.i2l, 1) := by decide +kernel
theorem dL_change_11 : decode cL_change 11 = .ok (.lastore, 1) := by decide +kernel
theorem dL_change_12 : decode cL_change 12 = .ok (.goto 11, 3) := by decide +kernel
theorem dL_change_15 : decode cL_change 15 = .ok (.astore 5, 2) := by decide +kernel
theorem dL_change_17 : decode cL_change 17 = .ok (.iconst 1, 1) := by decide +kernel
theorem dL_change_18 : decode cL_change 18 = .ok (.ireturn, 1) := by decide +kernel
theorem dL_change_19 : decode cL_change 19 = .ok (.astore 5, 2) := by decide +kernel
theorem dL_change_21 : decode cL_change 21 = .ok (.iconst 2, 1) := by decide +kernel
theorem dL_change_22 : decode cL_change 22 = .ok (.ireturn, 1) := by decide +kernel
theorem dL_change_23 : decode cL_change 23 = .ok (.iconst 0, 1) := by decide +kernel
theorem dL_change_24 : decode cL_change 24 = .ok (.ireturn, 1) := by decide +kernel
set_option maxRecDepth 20000 in
theorem ggL_remove_X7_remove : GoodIn wsL_remove wsX7_remove := goodIn_ca (goodIn_r _ [6, 7, 8, 9, 10, 11, 12, 13, 14, 15, 16, 17, 18, 19, 20, 21, 22, 23, 24, 25, 26, 27, 28, 29, 30, 31, 32, 33, 34, 35, 36, 37, 38, 39, 40, 41, 42, 43, 44, 45, 46, 47, 48, 49, 50, 51, 52, 53, 54, 55, 56, 57, 58, 59, 60, 61, 62, 63, 64, 65, 66, 67, 68, 69, 70, 71, 72, 73, 74, 75, 76, 77, 78, 79, 80, 81, 82, 83, 84, 85, 86, 87, 88, 89, 90, 91, 92, 93, 94, 95, 96, 97, 98, 99, 100, 101, 102, 103, 104, 105, 106, 107, 108, 109, 110] (by decide +kernel) (by decide +kernel)) (goodIn_sub (fun _ h => List.mem_cons_of_mem _ (List.mem_append_right _ h)) (by decide +kernel))
set_option maxRecDepth 20000 in
theorem gL_remove_X7_remove : GoodIn wsL_remove (wsV RL 66 RX7 yX7_remove wsX7_remove) := goodIn_app (goodIn_of _ (by decide +kernel)) ggL_remove_X7_remove
theorem dL_remove_0 : decode cL_remove 0 = .ok (.aload_n 2, 1) := by decide +kernel
theorem dL_remove_1 : decode cL_remove 1 = .ok (.iconst 0, 1) := by decide +kernel
theorem dL_remove_2 : decode cL_remove 2 = .ok (.aload_n 0, 1) := by decide +kernel
theorem dL_remove_3 : decode cL_remove 3 = .ok (.iload_n 1, 1) := by decide +kernel
theorem dL_remove_4 : decode cL_remove 4 = .ok (.invokevirtual 66, 3) := by decide +kernel
theorem dL_remove_7 : decode cL_remove 7 = .ok (.i2l, 1) := by decide +kernel
theorem dL_remove_8 : decode cL_remove 8 = .ok (.lastore, 1) := by decide +kernel
theorem dL_remove_9 : decode cL_remove 9 = .ok (.goto 6, 3) := by decide +kernel
theorem dL_remove_12 : decode cL_remove 12 = .ok (.astore_n 3, 1) := by decide +kernel
theorem dL_remove_13 : decode cL_remove 13 = .ok (.iconst 1, 1) := by decide +kernel
theorem dL_remove_14 : decode cL_remove 14 = .ok (.ireturn, 1) := by decide +kernel
theorem dL_remove_15 : decode cL_remove 15 = .ok (.iconst 0, 1) := by decide +kernel
theorem dL_remove_16 : decode cL_remove 16 = .ok (.ireturn, 1) := by decide +kernel
set_option maxRecDepth 20000 in
theorem ggL_see_X7_see : GoodIn wsL_see wsX7_see := goodIn_ca (goodIn_r _ [6, 7, 8, 9, 10, 11, 12, 13, 14, 15, 16, 17, 18, 5, 19, 20, 21, 22, 23, 24, 25, 26, 27, 28, 29, 30, 31, 32, 33, 34, 35, 36, 37, 38, 39, 40, 41, 42, 43, 44, 45, 46, 47, 48, 49, 50, 51, 52, 53, 54, 55, 56, 57, 58, 59, 60, 61, 62, 63, 64, 65, 66, 67, 68, 69, 70, 71, 72, 73, 74, 75, 76, 77, 78, 79, 80, 81, 82, 83, 84, 85, 86, 87, 88, 89, 90, 91, 92, 93, 94, 95, 96, 97, 98, 99, 100, 101, 102, 103, 104, 105, 106, 107, 108, 109, 110, 111, 112, 113, 114, 115, 116, 117, 118, 119, 120, 121, 122, 123, 124, 125, 126, 127, 128, 129, 130, 131, 132, 133, 134, 135, 136, 137] (by decide +kernel) (by decide +kernel)) (goodIn_sub (fun _ h => List.mem_cons_of_mem _ (List.mem_append_right _ h)) (by decide +kernel))
set_option maxRecDepth 20000 in
theorem gL_see_X7_see : GoodIn wsL_see (wsV RL 69 RX7 yX7_see wsX7_see) := goodIn_app (goodIn_of _ (by decide +kernel)) ggL_see_X7_see
theorem dL_see_0 : decode cL_see 0 = .ok (.aload_n 3, 1) := by decide +kernel
theorem dL_see_1 : decode cL_see 1 = .ok (.iconst 0, 1) := by decide +kernel
theorem dL_see_2 : decode cL_see 2 = .ok (.aload_n 0, 1) := by decide +kernel
theorem dL_see_3 : decode cL_see 3 = .ok (.iload_n 1, 1) := by decide +kernel
theorem dL_see_4 : decode cL_see 4 = .ok (.iload_n 2, 1) := by decide +kernel
theorem dL_see_5 : decode cL_see 5 = .ok (.invokevirtual 69, 3) := by decide +kernel
theorem dL_see_8 : decode cL_see 8 = .ok (.i2l, 1) := by decide +kernel
theorem dL_see_9 : decode cL_see 9 = .ok (.lastore, 1) := by decide +kernel
theorem dL_see_10 : decode cL_see 10 = .ok (.goto 7, 3) := by decide +kernel
theorem dL_see_13 : decode cL_see 13 = .ok (.astore 4, 2) := by decide +kernel
theorem dL_see_15 : decode cL_see 15 = .ok (.iconst 1, 1) := by decide +kernel
theorem dL_see_16 : decode cL_see 16 = .ok (.ireturn, 1) := by decide +kernel
theorem dL_see_17 : decode cL_see 17 = .ok (.iconst 0, 1) := by decide +kernel
theorem dL_see_18 : decode cL_see 18 = .ok (.ireturn, 1) := by decide +kernel
set_option maxRecDepth 20000 in
theorem ggL_undo_X7_undo : GoodIn wsL_undo wsX7_undo := goodIn_ca (goodIn_r _ [6, 7, 8, 9, 10, 11, 12, 13, 14, 15, 16, 17, 18, 19, 20, 21, 22, 23, 24, 25, 26, 27, 28, 29, 30, 31, 32, 33, 34, 35, 36, 37, 38, 39, 40, 41, 42, 43, 44, 45, 46, 47, 48, 49, 50, 51, 52, 53, 54, 55, 56, 57, 58, 59, 60, 61, 62, 63, 64, 65, 66, 67, 68, 69, 70, 71, 72, 73, 74, 75, 76, 77, 78, 79, 80, 81, 82, 83, 84, 85, 86, 87, 88, 89, 90, 91, 92, 93, 94, 95, 96, 97, 98, 99, 100] (by decide +kernel) (by decide +kernel)) (goodIn_sub (fun _ h => List.mem_cons_of_mem _ (List.mem_append_right _ h)) (by decide +kernel))
set_option maxRecDepth 20000 in
theorem gL_undo_X7_undo : GoodIn wsL_undo (wsV RL 72 RX7 yX7_undo wsX7_undo) := goodIn_app (goodIn_of _ (by decide +kernel)) ggL_undo_X7_undo
theorem dL_undo_0 : decode cL_undo 0 = .ok (.aload_n 1, 1) := by decide +kernel
theorem dL_undo_1 : decode cL_undo 1 = .ok (.iconst 0, 1) := by decide +kernel
theorem dL_undo_2 : decode cL_undo 2 = .ok (.aload_n 0, 1) := by decide +kernel
theorem dL_undo_3 : decode cL_undo 3 = .ok (.invokevirtual 72, 3) := by decide +kernel
theorem dL_undo_6 : decode cL_undo 6 = .ok (.i2l, 1) := by decide +kernel
theorem dL_undo_7 : decode cL_undo 7 = .ok (.lastore, 1) := by decide +kernel
theorem dL_undo_8 : decode cL_undo 8 = .ok (.goto 6, 3) := by decide +kernel
theorem dL_undo_11 : decode cL_undo 11 = .ok (.astore_n 2, 1) := by decide +kernel
theorem dL_undo_12 : decode cL_undo 12 = .ok (.iconst 1, 1) := by decide +kernel
theorem dL_undo_13 : decode cL_undo 13 = .ok (.ireturn, 1) := by decide +kernel
theorem dL_undo_14 : decode cL_undo 14 = .ok (.iconst 0, 1) := by decide +kernel
theorem dL_undo_15 : decode cL_undo 15 = .ok (.ireturn, 1) := by decide +kernel
set_option maxRecDepth 20000 in
theorem ggL_bestStart_X7_bestStart : GoodIn wsL_bestStart wsX7_bestStart := goodIn_ca (goodIn_ca (goodIn_r _ [7, 8, 9, 10, 11, 12, 13, 14, 15, 16, 17, 18, 19, 20, 21, 22, 23, 24, 25, 26, 27, 28, 29, 30, 31, 32, 33, 34, 35, 36, 37, 38, 39, 40, 41, 42, 43, 44, 45, 46, 47, 48, 6, 49, 50, 51, 52, 53, 54, 55, 56, 57, 58, 59, 60, 61, 62, 63, 64, 65, 66, 67, 68, 69, 70, 71, 72, 73, 74, 75, 76, 77, 78, 79, 80, 81, 82, 83, 84, 85, 86, 87, 88, 89, 90, 91, 92, 93, 94, 95, 96, 97, 98, 99, 100, 101, 102, 103, 104, 105, 106, 107, 108, 109, 110, 111, 112, 113, 114, 115, 116, 117] (by decide +kernel) (by decide +kernel)) (goodIn_sub (fun _ h => List.mem_cons_of_mem _ (List.mem_append_left _ (List.mem_append_right _ h))) (by decide +kernel))) (goodIn_sub (fun _ h => List.mem_cons_of_mem _ (List.mem_append_right _ h)) (by decide +kernel))
set_option maxRecDepth 20000 in
theorem gL_bestStart_X7_bestStart : GoodIn wsL_bestStart (wsV RL 75 RX7 yX7_bestStart wsX7_bestStart) := goodIn_app (goodIn_of _ (by decide +kernel)) ggL_bestStart_X7_bestStart
theorem dL_bestStart_0 : decode cL_bestStart 0 = .ok (.aload_n 3, 1) := by decide +kernel
theorem dL_bestStart_1 : decode cL_bestStart 1 = .ok (.iconst 0, 1) := by decide +kernel
theorem dL_bestStart_2 : decode cL_bestStart 2 = .ok (.aload_n 0, 1) := by decide +kernel
theorem dL_bestStart_3 : decode cL_bestStart 3 = .ok (.iload_n 1, 1) := by decide +kernel
theorem dL_bestStart_4 : decode cL_bestStart 4 = .ok (.iload_n 2, 1) := by decide +kernel
theorem dL_bestStart_5 : decode cL_bestStart 5 = .ok (.invokevirtual 75, 3) := by decide +kernel
theorem dL_bestStart_8 : decode cL_bestStart 8 = .ok (.i2l, 1) := by decide +kernel
theorem dL_bestStart_9 : decode cL_bestStart 9 = .ok (.lastore, 1) := by decide +kernel
theorem dL_bestStart_10 : decode cL_bestStart 10 = .ok (.goto 11, 3) := by decide +kernel
theorem dL_bestStart_13 : decode cL_bestStart 13 = .ok (.astore 4, 2) := by decide +kernel
theorem dL_bestStart_15 : decode cL_bestStart 15 = .ok (.iconst 1, 1) := by decide +kernel
theorem dL_bestStart_16 : decode cL_bestStart 16 = .ok (.ireturn, 1) := by decide +kernel
theorem dL_bestStart_17 : decode cL_bestStart 17 = .ok (.astore 4, 2) := by decide +kernel
theorem dL_bestStart_19 : decode cL_bestStart 19 = .ok (.iconst 2, 1) := by decide +kernel
theorem dL_bestStart_20 : decode cL_bestStart 20 = .ok (.ireturn, 1) := by decide +kernel
theorem dL_bestStart_21 : decode cL_bestStart 21 = .ok (.iconst 0, 1) := by decide +kernel
theorem dL_bestStart_22 : decode cL_bestStart 22 = .ok (.ireturn, 1) := by decide +kernel
set_option maxRecDepth 20000 in
theorem ggL_wheels_X7_wheels : GoodIn wsL_wheels wsX7_wheels := goodIn_ca (goodIn_r _ [6, 7, 8, 9, 10, 11, 12, 13, 5, 14, 15, 16, 17, 18, 19, 20, 21, 22, 23, 24, 25, 26, 27, 28, 29, 30, 31, 32, 33, 34, 35, 36, 37, 38, 39, 40, 41, 42, 43, 44, 45, 46, 47, 48, 49, 50, 51, 52, 53, 54, 55, 56, 57, 58, 59, 60, 61, 62, 63, 64, 65, 66, 67, 68, 69, 70, 71, 72, 73, 74, 75, 76, 77, 78, 79, 80, 81, 82, 83, 84, 85, 86, 87, 88, 89, 90] (by decide +kernel) (by decide +kernel)) (goodIn_sub (fun _ h => List.mem_cons_of_mem _ (List.mem_append_right _ h)) (by decide +kernel))
set_option maxRecDepth 20000 in
theorem gL_wheels_X7_wheels : GoodIn wsL_wheels (wsV RL 78 RX7 yX7_wheels wsX7_wheels) := goodIn_app (goodIn_of _ (by decide +kernel)) ggL_wheels_X7_wheels
theorem dL_wheels_0 : decode cL_wheels 0 = .ok (.aload 5, 2) := by decide +kernel
theorem dL_wheels_2 : decode cL_wheels 2 = .ok (.iconst 0, 1) := by decide +kernel
theorem dL_wheels_3 : decode cL_wheels 3 = .ok (.aload_n 0, 1) := by decide +kernel
theorem dL_wheels_4 : decode cL_wheels 4 = .ok (.iload_n 1, 1) := by decide +kernel
theorem dL_wheels_5 : decode cL_wheels 5 = .ok (.iload_n 2, 1) := by decide +kernel
theorem dL_wheels_6 : decode cL_wheels 6 = .ok (.iload_n 3, 1) := by decide +kernel
theorem dL_wheels_7 : decode cL_wheels 7 = .ok (.iload 4, 2) := by decide +kernel
theorem dL_wheels_9 : decode cL_wheels 9 = .ok (.invokevirtual 78, 3) := by decide +kernel
theorem dL_wheels_12 : decode cL_wheels 12 = .ok (.i2l, 1) := by decide +kernel
theorem dL_wheels_13 : decode cL_wheels 13 = .ok (.lastore, 1) := by decide +kernel
theorem dL_wheels_14 : decode cL_wheels 14 = .ok (.goto 7, 3) := by decide +kernel
theorem dL_wheels_17 : decode cL_wheels 17 = .ok (.astore 6, 2) := by decide +kernel
theorem dL_wheels_19 : decode cL_wheels 19 = .ok (.iconst 1, 1) := by decide +kernel
theorem dL_wheels_20 : decode cL_wheels 20 = .ok (.ireturn, 1) := by decide +kernel
theorem dL_wheels_21 : decode cL_wheels 21 = .ok (.iconst 0, 1) := by decide +kernel
theorem dL_wheels_22 : decode cL_wheels 22 = .ok (.ireturn, 1) := by decide +kernel
set_option maxRecDepth 20000 in
theorem ggL_wheelFor_X7_wheelFor : GoodIn wsL_wheelFor wsX7_wheelFor := goodIn_ca (goodIn_r _ [6, 7, 8, 9, 10, 11, 12, 13, 14, 15, 16, 17, 18, 19, 20, 21, 22, 23, 24, 25, 26, 5, 27, 28, 29, 30, 31, 32, 33, 34, 35, 36, 37, 38, 39, 40, 41, 42, 43, 44, 45, 46, 47, 48, 49, 50] (by decide +kernel) (by decide +kernel)) (goodIn_sub (fun _ h => List.mem_cons_of_mem _ (List.mem_append_right _ h)) (by decide +kernel))
set_option maxRecDepth 20000 in
theorem gL_wheelFor_X7_wheelFor : GoodIn wsL_wheelFor (wsV RL 81 RX7 yX7_wheelFor wsX7_wheelFor) := goodIn_app (goodIn_of _ (by decide +kernel)) ggL_wheelFor_X7_wheelFor
theorem dL_wheelFor_0 : decode cL_wheelFor 0 = .ok (.aload_n 2, 1) := by decide +kernel
theorem dL_wheelFor_1 : decode cL_wheelFor 1 = .ok (.iconst 0, 1) := by decide +kernel
theorem dL_wheelFor_2 : decode cL_wheelFor 2 = .ok (.aload_n 0, 1) := by decide +kernel
theorem dL_wheelFor_3 : decode cL_wheelFor 3 = .ok (.iload_n 1, 1) := by decide +kernel
theorem dL_wheelFor_4 : decode cL_wheelFor 4 = .ok (.invokevirtual 81, 3) := by decide +kernel
theorem dL_wheelFor_7 : decode cL_wheelFor 7 = .ok (.i2l, 1) := by decide +kernel
theorem dL_wheelFor_8 : decode cL_wheelFor 8 = .ok (.lastore, 1) := by decide +kernel
theorem dL_wheelFor_9 : decode cL_wheelFor 9 = .ok (.goto 6, 3) := by decide +kernel
theorem dL_wheelFor_12 : decode cL_wheelFor 12 = .ok (.astore_n 3, 1) := by decide +kernel
theorem dL_wheelFor_13 : decode cL_wheelFor 13 = .ok (.iconst 1, 1) := by decide +kernel
theorem dL_wheelFor_14 : decode cL_wheelFor 14 = .ok (.ireturn, 1) := by decide +kernel
theorem dL_wheelFor_15 : decode cL_wheelFor 15 = .ok (.iconst 0, 1) := by decide +kernel
theorem dL_wheelFor_16 : decode cL_wheelFor 16 = .ok (.ireturn, 1) := by decide +kernel
set_option maxRecDepth 20000 in
theorem ggL_runScript_X7_runScript : GoodIn wsL_runScript wsX7_runScript := goodIn_ca (goodIn_r _ [6, 7, 8, 9, 10, 11, 12, 13, 14, 15, 16, 17, 5, 18, 19, 20, 21, 22, 23, 24, 25, 26, 27, 28, 29, 30, 31, 32, 33, 34, 35, 36, 37, 38, 39, 40, 41, 42, 43, 44, 45, 46, 47, 48, 49, 50, 51, 52, 53, 54, 55, 56, 57, 58, 59, 60, 61, 62, 63, 64, 65, 66, 67, 68, 69, 70, 71, 72, 73, 74, 75, 76, 77, 78, 79, 80, 81, 82, 83, 84, 85, 86, 87, 88, 89, 90, 91, 92, 93, 94, 95, 96, 97, 98, 99, 100, 101, 102, 103, 104, 105, 106, 107, 108, 109, 110, 111, 112, 113, 114, 115, 116, 117, 118, 119, 120, 121, 122, 123, 124, 125, 126, 127, 128, 129, 130, 131, 132, 133, 134, 135, 136, 137, 138, 139, 140, 141, 142, 143, 144, 145, 146, 147, 148, 149, 150, 151, 152, 153, 154, 155, 156, 157, 158, 159, 160, 161, 162, 163, 164, 165, 166, 167, 168, 169, 170, 171, 172, 173, 174, 175, 176, 177, 178, 179, 180, 181, 182, 183, 184, 185, 186, 187, 188, 189, 190, 191, 192, 193, 194, 195, 196, 197, 198, 199, 200, 201, 202, 203, 204, 205, 206, 207, 208, 209, 210, 211, 212, 213, 214, 215, 216, 217, 218, 219, 220, 221, 222, 223, 224, 225, 226, 227, 228, 229, 230, 231, 232, 233, 234, 235, 236, 237, 238, 239, 240, 241, 242, 243, 244, 245, 246, 247, 248, 249, 250, 251, 252, 253, 254, 255, 256, 257, 258, 259, 260, 261, 262, 263, 264, 265, 266, 267, 268, 269, 270, 271, 272, 273, 274, 275, 276, 277, 278, 279, 280] (by decide +kernel) (by decide +kernel)) (goodIn_sub (fun _ h => List.mem_cons_of_mem _ (List.mem_append_right _ h)) (by decide +kernel))
set_option maxRecDepth 20000 in
theorem gL_runScript_X7_runScript : GoodIn wsL_runScript (wsV RL 84 RX7 yX7_runScript wsX7_runScript) := goodIn_app (goodIn_of _ (by decide +kernel)) ggL_runScript_X7_runScript
theorem dL_runScript_0 : decode cL_runScript 0 = .ok (.aload 4, 2) := by decide +kernel
theorem dL_runScript_2 : decode cL_runScript 2 = .ok (.iconst 0, 1) := by decide +kernel
theorem dL_runScript_3 : decode cL_runScript 3 = .ok (.aload_n 0, 1) := by decide +kernel
theorem dL_runScript_4 : decode cL_runScript 4 = .ok (.iload_n 1, 1) := by decide +kernel
theorem dL_runScript_5 : decode cL_runScript 5 = .ok (.lload_n 2, 1) := by decide +kernel
theorem dL_runScript_6 : decode cL_runScript 6 = .ok (.invokevirtual 84, 3) := by decide +kernel
theorem dL_runScript_9 : decode cL_runScript 9 = .ok (.i2l, 1) := by decide +kernel
theorem dL_runScript_10 : decode cL_runScript 10 = .ok (.lastore, 1) := by decide +kernel
theorem dL_runScript_11 : decode cL_runScript 11 = .ok (.goto 7, 3) := by decide +kernel
theorem dL_runScript_14 : decode cL_runScript 14 = .ok (.astore 5, 2) := by decide +kernel
theorem dL_runScript_16 : decode cL_runScript 16 = .ok (.iconst 1, 1) := by decide +kernel
theorem dL_runScript_17 : decode cL_runScript 17 = .ok (.ireturn, 1) := by decide +kernel
theorem dL_runScript_18 : decode cL_runScript 18 = .ok (.iconst 0, 1) := by decide +kernel
theorem dL_runScript_19 : decode cL_runScript 19 = .ok (.ireturn, 1) := by decide +kernel
set_option maxRecDepth 20000 in
theorem ggL_simulate_X7_simulate : GoodIn wsL_simulate wsX7_simulate := goodIn_ca (goodIn_r _ [6, 7, 8, 9, 10, 11, 12, 13, 14, 15, 16, 17, 18, 19, 20, 21, 22, 23, 24, 25, 26, 27, 28, 29, 30, 31, 32, 33, 34, 35, 36, 37, 38, 39, 40, 41, 42, 5, 43, 44, 45, 46, 47, 48, 49, 50, 51, 52, 53, 54, 55, 56, 57, 58, 59, 60, 61, 62, 63, 64, 65, 66, 67, 68, 69, 70, 71, 72, 73, 74, 75, 76, 77, 78, 79, 80, 81, 82, 83, 84, 85, 86] (by decide +kernel) (by decide +kernel)) (goodIn_sub (fun _ h => List.mem_cons_of_mem _ (List.mem_append_right _ h)) (by decide +kernel))
set_option maxRecDepth 20000 in
theorem gL_simulate_X7_simulate : GoodIn wsL_simulate (wsV RL 87 RX7 yX7_simulate wsX7_simulate) := goodIn_app (goodIn_of _ (by decide +kernel)) ggL_simulate_X7_simulate
theorem dL_simulate_0 : decode cL_simulate 0 = .ok (.aload 4, 2) := by decide +kernel
theorem dL_simulate_2 : decode cL_simulate 2 = .ok (.iconst 0, 1) := by decide +kernel
theorem dL_simulate_3 : decode cL_simulate 3 = .ok (.aload_n 0, 1) := by decide +kernel
theorem dL_simulate_4 : decode cL_simulate 4 = .ok (.lload_n 1, 1) := by decide +kernel
theorem dL_simulate_5 : decode cL_simulate 5 = .ok (.iload_n 3, 1) := by decide +kernel
theorem dL_simulate_6 : decode cL_simulate 6 = .ok (.invokevirtual 87, 3) := by decide +kernel
theorem dL_simulate_9 : decode cL_simulate 9 = .ok (.i2l, 1) := by decide +kernel
theorem dL_simulate_10 : decode cL_simulate 10 = .ok (.lastore, 1) := by decide +kernel
theorem dL_simulate_11 : decode cL_simulate 11 = .ok (.goto 7, 3) := by decide +kernel
theorem dL_simulate_14 : decode cL_simulate 14 = .ok (.astore 5, 2) := by decide +kernel
theorem dL_simulate_16 : decode cL_simulate 16 = .ok (.iconst 1, 1) := by decide +kernel
theorem dL_simulate_17 : decode cL_simulate 17 = .ok (.ireturn, 1) := by decide +kernel
theorem dL_simulate_18 : decode cL_simulate 18 = .ok (.iconst 0, 1) := by decide +kernel
theorem dL_simulate_19 : decode cL_simulate 19 = .ok (.ireturn, 1) := by decide +kernel
set_option maxRecDepth 20000 in
theorem ggL_save_X7_save : GoodIn wsL_save wsX7_save := goodIn_ca (goodIn_r _ [6, 7, 8, 9, 10, 11, 12, 13, 14, 5, 15, 16, 17, 18, 19, 20, 21, 22, 23, 24, 25, 26, 27, 28, 29, 30, 31, 32, 33, 34, 35, 36, 37, 38, 39, 40, 41, 42, 43, 44, 45, 46, 47, 48, 49, 50, 51, 52, 53, 54, 55, 56, 57, 58, 59, 60, 61, 62, 63, 64, 65, 66, 67, 68, 69, 70, 71, 72, 73, 74, 75, 76, 77, 78, 79, 80, 81, 82, 83, 84, 85, 86, 87, 88, 89, 90] (by decide +kernel) (by decide +kernel)) (goodIn_sub (fun _ h => List.mem_cons_of_mem _ (List.mem_append_right _ h)) (by decide +kernel))
set_option maxRecDepth 20000 in
theorem gL_save_X7_save : GoodIn wsL_save (wsV RL 91 RX7 yX7_save wsX7_save) := goodIn_app (goodIn_of _ (by decide +kernel)) ggL_save_X7_save
theorem dL_save_0 : decode cL_save 0 = .ok (.aload_n 2, 1) := by decide +kernel
theorem dL_save_1 : decode cL_save 1 = .ok (.iconst 0, 1) := by decide +kernel
theorem dL_save_2 : decode cL_save 2 = .ok (.aload_n 0, 1) := by decide +kernel
theorem dL_save_3 : decode cL_save 3 = .ok (.iload_n 1, 1) := by decide +kernel
theorem dL_save_4 : decode cL_save 4 = .ok (.invokevirtual 91, 3) := by decide +kernel
theorem dL_save_7 : decode cL_save 7 = .ok (.i2l, 1) := by decide +kernel
theorem dL_save_8 : decode cL_save 8 = .ok (.lastore, 1) := by decide +kernel
theorem dL_save_9 : decode cL_save 9 = .ok (.goto 6, 3) := by decide +kernel
theorem dL_save_12 : decode cL_save 12 = .ok (.astore_n 3, 1) := by decide +kernel
theorem dL_save_13 : decode cL_save 13 = .ok (.iconst 1, 1) := by decide +kernel
theorem dL_save_14 : decode cL_save 14 = .ok (.ireturn, 1) := by decide +kernel
theorem dL_save_15 : decode cL_save 15 = .ok (.iconst 0, 1) := by decide +kernel
theorem dL_save_16 : decode cL_save 16 = .ok (.ireturn, 1) := by decide +kernel
set_option maxRecDepth 20000 in
theorem ggL_restore_X7_restore : GoodIn wsL_restore wsX7_restore := goodIn_ca (goodIn_ca (goodIn_r _ [7, 8, 9, 10, 11, 12, 13, 14, 15, 16, 17, 18, 6, 19, 20, 21, 22, 23, 24, 25, 26, 27, 28, 29, 30, 31, 32, 33, 34, 35, 36, 37, 38, 39, 40, 41, 42, 43, 44, 45, 46, 47, 48, 49, 50, 51, 52, 53, 54, 55, 56, 57, 58, 59, 60, 61, 62, 63, 64, 65, 66, 67, 68, 69, 70, 71, 72, 73, 74, 75, 76, 77, 78, 79, 80, 81, 82, 83, 84, 85, 86, 87, 88, 89, 90, 91, 92, 93, 94, 95, 96, 97, 98, 99, 100, 101, 102, 103, 104] (by decide +kernel) (by decide +kernel)) (goodIn_sub (fun _ h => List.mem_cons_of_mem _ (List.mem_append_left _ (List.mem_append_right _ h))) (by decide +kernel))) (goodIn_sub (fun _ h => List.mem_cons_of_mem _ (List.mem_append_right _ h)) (by decide +kernel))
set_option maxRecDepth 20000 in
theorem gL_restore_X7_restore : GoodIn wsL_restore (wsV RL 94 RX7 yX7_restore wsX7_restore) := goodIn_app (goodIn_of _ (by decide +kernel)) ggL_restore_X7_restore
theorem dL_restore_0 : decode cL_restore 0 = .ok (.aload_n 2, 1) := by decide +kernel
theorem dL_restore_1 : decode cL_restore 1 = .ok (.iconst 0, 1) := by decide +kernel
theorem dL_restore_2 : decode cL_restore 2 = .ok (.aload_n 0, 1) := by decide +kernel
theorem dL_restore_3 : decode cL_restore 3 = .ok (.iload_n 1, 1) := by decide +kernel
theorem dL_restore_4 : decode cL_restore 4 = .ok (.invokevirtual 94, 3) := by decide +kernel
theorem dL_restore_7 : decode cL_restore 7 = .ok (.i2l, 1) := by decide +kernel
theorem dL_restore_8 : decode cL_restore 8 = .ok (.lastore, 1) := by decide +kernel
theorem dL_restore_9 : decode cL_restore 9 = .ok (.goto 9, 3) := by decide +kernel
theorem dL_restore_12 : decode cL_restore 12 = .ok (.astore_n 3, 1) := by decide +kernel
theorem dL_restore_13 : decode cL_restore 13 = .ok (.iconst 1, 1) := by decide +kernel
theorem dL_restore_14 : decode cL_restore 14 = .ok (.ireturn, 1) := by decide +kernel
theorem dL_restore_15 : decode cL_restore 15 = .ok (.astore_n 3, 1) := by decide +kernel
theorem dL_restore_16 : decode cL_restore 16 = .ok (.iconst 2, 1) := by decide +kernel
theorem dL_restore_17 : decode cL_restore 17 = .ok (.ireturn, 1) := by decide +kernel
theorem dL_restore_18 : decode cL_restore 18 = .ok (.iconst 0, 1) := by decide +kernel
theorem dL_restore_19 : decode cL_restore 19 = .ok (.ireturn, 1) := by decide +kernel
set_option maxRecDepth 20000 in
theorem ggL_law_X7_init : GoodIn wsL_law wsX7_init := goodIn_r _ [10, 11, 12, 13, 14, 15, 16, 17, 18, 19, 20, 21, 22, 23, 24, 25, 26, 27, 28, 29, 30, 31, 32, 33, 34, 35, 36, 37, 38, 39, 40, 41, 42, 43, 44, 45, 46, 47, 48, 49, 50, 51, 52, 53, 54, 55, 56, 57, 58, 59, 60, 61, 62, 63, 64, 65, 66, 67, 68, 69, 70, 6, 71, 72, 1031, 1032, 1033, 1034, 1035, 1036, 1037, 1038, 1056, 1057, 1058, 1059, 1060, 1061, 1062, 1063, 1064, 1065, 1066, 1067, 1068, 1069, 1070, 1071, 1072] (by decide +kernel) (by decide +kernel)
set_option maxRecDepth 20000 in
theorem gL_law_X7_init : GoodIn wsL_law (wsX7_init) := ggL_law_X7_init
set_option maxRecDepth 20000 in
theorem ggL_law_X8_init : GoodIn wsL_law wsX8_init := goodIn_r _ [75, 76, 12, 13, 41, 77, 78, 79, 80, 81, 82, 83, 1039, 1040, 1041, 1042, 1043, 1044, 1045, 1046, 1047, 1048, 1049, 1050, 1051, 1052, 1053, 1054, 1055] (by decide +kernel) (by decide +kernel)
set_option maxRecDepth 20000 in
theorem gL_law_X8_init : GoodIn wsL_law (wsX8_init) := ggL_law_X8_init
set_option maxRecDepth 20000 in
theorem ggL_law_L_append : GoodIn wsL_law wsL_append := goodIn_ca (goodIn_ca (goodIn_r _ [87, 88, 89, 90, 91, 92, 2, 93, 94, 95, 96, 97, 98, 15, 1031, 1032, 1033, 1034, 1035, 1036, 1037, 1038] (by decide +kernel) (by decide +kernel)) (goodIn_sub (fun _ h => List.mem_append_left _ (List.mem_append_left _ (List.mem_append_right _ h))) (by decide +kernel))) (goodIn_sub (fun _ h => List.mem_append_left _ (List.mem_append_right _ h)) (by decide +kernel))
set_option maxRecDepth 20000 in
theorem gL_law_L_append : GoodIn wsL_law (va_wsS RL 101 yL_append wsL_append) := goodIn_app (goodIn_of _ (by decide +kernel)) ggL_law_L_append
set_option maxRecDepth 20000 in
theorem ggL_law_X8_append : GoodIn wsL_law wsX8_append := goodIn_r _ [102, 103, 104, 105, 79, 106, 107, 5, 108, 109, 110, 111, 112, 1039, 1040, 1041, 1042, 1043, 1044, 1045, 1046, 1047, 1048, 1049, 1050, 1051, 1052, 1053, 1054, 1055] (by decide +kernel) (by decide +kernel)
set_option maxRecDepth 20000 in
theorem gL_law_X8_append : GoodIn wsL_law (wsV RL 106 RX8 yX8_append wsX8_append) := goodIn_app (goodIn_of _ (by decide +kernel)) ggL_law_X8_append
set_option maxRecDepth 20000 in
theorem ggL_law_X8_thrown : GoodIn wsL_law wsX8_thrown := goodIn_r _ [116, 103, 1039, 1040, 1041, 1042, 1043, 1044, 1045, 1046, 1047, 1048, 1049, 1050, 1051, 1052, 1053, 1054, 1055] (by decide +kernel) (by decide +kernel)
set_option maxRecDepth 20000 in
theorem gL_law_X8_thrown : GoodIn wsL_law (wsV RL 107 RX8 yX8_thrown wsX8_thrown) := goodIn_app (goodIn_of _ (by decide +kernel)) ggL_law_X8_thrown
set_option maxRecDepth 20000 in
theorem ggL_law_X7_clearText : GoodIn wsL_law wsX7_clearText := goodIn_r _ [120, 98, 1031, 1032, 1033, 1034, 1035, 1036, 1037, 1038] (by decide +kernel) (by decide +kernel)
set_option maxRecDepth 20000 in
theorem gL_law_X7_clearText : GoodIn wsL_law (wsV RL 110 RX7 yX7_clearText wsX7_clearText) := goodIn_app (goodIn_of _ (by decide +kernel)) ggL_law_X7_clearText
set_option maxRecDepth 20000 in
theorem ggL_law_X8_clearText : GoodIn wsL_law wsX8_clearText := goodIn_r _ [124, 103, 105, 1039, 1040, 1041, 1042, 1043, 1044, 1045, 1046, 1047, 1048, 1049, 1050, 1051, 1052, 1053, 1054, 1055] (by decide +kernel) (by decide +kernel)
set_option maxRecDepth 20000 in
theorem gL_law_X8_clearText : GoodIn wsL_law (wsV RL 113 RX8 yX8_clearText wsX8_clearText) := goodIn_app (goodIn_of _ (by decide +kernel)) ggL_law_X8_clearText
set_option maxRecDepth 20000 in
theorem ggL_law_X7_errorPosition : GoodIn wsL_law wsX7_errorPosition := goodIn_r _ [128, 129, 130, 131, 2, 132, 133, 134, 135, 15, 98, 20, 136, 137, 138, 139, 12, 13, 140, 141, 142, 143, 144, 145, 146, 147, 148, 149, 150, 151, 152, 153, 154, 155, 156, 157, 158, 159, 160, 161, 18, 162, 36, 163, 164, 165, 166, 167, 168, 169, 170, 171, 172, 173, 174, 175, 176, 177, 178, 179, 180, 181, 182, 183, 184, 185, 186, 187, 38, 188, 189, 190, 40, 191, 48, 192, 193, 194, 195, 196, 197, 198, 199, 200, 201, 202, 42, 43, 203, 204, 205, 206, 1073, 1074, 1075, 1031, 1032, 1033, 1034, 1035, 1036, 1037, 1038, 1056, 1057, 1058, 1059, 1060, 1061, 1068, 1069, 1070, 1071] (by decide +kernel) (by decide +kernel)
set_option maxRecDepth 20000 in
theorem gL_law_X7_errorPosition : GoodIn wsL_law (wsV RL 114 RX7 yX7_errorPosition wsX7_errorPosition) := goodIn_app (goodIn_of _ (by decide +kernel)) ggL_law_X7_errorPosition
set_option maxRecDepth 20000 in
theorem ggL_law_X8_errorPosition : GoodIn wsL_law wsX8_errorPosition := goodIn_r _ [210, 103, 211, 212, 213, 5, 214, 215, 105, 79, 216, 217, 80, 218, 219, 220, 221, 222, 106, 107, 108, 223, 224, 225, 226, 1039, 1040, 1041, 1042, 1043, 1044, 1045, 1046, 1047, 1048, 1049, 1050, 1051, 1052, 1053, 1054, 1055] (by decide +kernel) (by decide +kernel)
set_option maxRecDepth 20000 in
theorem gL_law_X8_errorPosition : GoodIn wsL_law (wsV RL 117 RX8 yX8_errorPosition wsX8_errorPosition) := goodIn_app (goodIn_of _ (by decide +kernel)) ggL_law_X8_errorPosition
set_option maxRecDepth 20000 in
theorem ggL_law_L_load : GoodIn wsL_law wsL_load := goodIn_ca (goodIn_r _ [229, 89, 230, 231, 232, 2, 233, 96, 97, 19, 20, 24, 27, 234, 129, 130, 131, 132, 133, 134, 135, 15, 98, 136, 137, 138, 139, 12, 13, 140, 141, 142, 143, 144, 145, 146, 147, 148, 149, 150, 151, 152, 153, 154, 155, 156, 157, 158, 159, 160, 161, 18, 162, 36, 163, 164, 165, 166, 167, 168, 169, 170, 171, 172, 173, 174, 175, 176, 177, 178, 179, 180, 181, 182, 183, 184, 185, 186, 187, 38, 188, 189, 190, 40, 191, 48, 192, 193, 194, 195, 196, 197, 198, 199, 200, 201, 202, 42, 43, 203, 204, 205, 206, 235, 236, 237, 238, 239, 240, 241, 242, 243, 244, 245, 246, 247, 248, 249, 250, 251, 252, 253, 254, 255, 256, 23, 257, 258, 259, 1031, 1032, 1033, 1034, 1035, 1036, 1037, 1038, 1056, 1057, 1058, 1059, 1060, 1061, 1073, 1074, 1075, 1068, 1069, 1070, 1071, 1062, 1063, 1064] (by decide +kernel) (by decide +kernel)) (goodIn_sub (fun _ h => List.mem_append_left _ (List.mem_append_right _ h)) (by decide +kernel))
set_option maxRecDepth 20000 in
theorem gL_law_L_load : GoodIn wsL_law (va_wsS RL 118 yL_load wsL_load) := goodIn_app (goodIn_of _ (by decide +kernel)) ggL_law_L_load
set_option maxRecDepth 20000 in
theorem ggL_law_X8_load : GoodIn wsL_law wsX8_load := goodIn_r _ [263, 103, 77, 80, 217, 264, 265, 266, 267, 211, 212, 213, 5, 214, 215, 105, 79, 216, 218, 219, 220, 221, 222, 106, 107, 108, 223, 224, 225, 226, 109, 110, 111, 112, 1039, 1040, 1041, 1042, 1043, 1044, 1045, 1046, 1047, 1048, 1049, 1050, 1051, 1052, 1053, 1054, 1055] (by decide +kernel) (by decide +kernel)
set_option maxRecDepth 20000 in
theorem gL_law_X8_load : GoodIn wsL_law (wsV RL 121 RX8 yX8_load wsX8_load) := goodIn_app (goodIn_of _ (by decide +kernel)) ggL_law_X8_load
set_option maxRecDepth 20000 in
theorem ggL_law_L_about : GoodIn wsL_law wsL_about := goodIn_ca (goodIn_r _ [270, 88, 271, 272, 273, 2, 274, 94, 95, 19, 275, 234, 276, 31, 277, 278, 279, 30, 280, 63, 281, 282, 283, 284, 285, 62, 286, 71, 287, 185, 186, 18, 187, 163, 38, 288, 289, 290, 291, 292, 293, 294, 295, 40, 296, 48, 297, 298, 299, 300, 301, 302, 303, 304, 192, 193, 305, 306, 307, 308, 309, 310, 311, 312, 313, 314, 194, 315, 316, 317, 318, 319, 320, 321, 322, 323, 324, 325, 326, 327, 328, 329, 330, 331, 332, 333, 184, 334, 335, 336, 337, 338, 339, 340, 341, 342, 343, 344, 345, 346, 347, 348, 349, 350, 351, 352, 353, 354, 355, 356, 357, 358, 359, 360, 164, 36, 245, 246, 247, 248, 42, 249, 250, 251, 252, 43, 361, 362, 363, 364, 365, 366, 367, 368, 1031, 1032, 1033, 1034, 1035, 1036, 1037, 1038, 1056, 1057, 1058, 1059, 1060, 1061, 1065, 1066, 1067, 1072, 1068, 1069, 1070, 1071] (by decide +kernel) (by decide +kernel)) (goodIn_sub (fun _ h => List.mem_append_left _ (List.mem_append_left _ (List.mem_append_right _ h))) (by decide +kernel))
set_option maxRecDepth 20000 in
theorem gL_law_L_about : GoodIn wsL_law (va_wsS RL 122 yL_about wsL_about) := goodIn_app (goodIn_of _ (by decide +kernel)) ggL_law_L_about
set_option maxRecDepth 20000 in
theorem ggL_law_X8_about : GoodIn wsL_law wsX8_about := goodIn_r _ [372, 103, 77, 264, 373, 374, 375, 5, 376, 377, 378, 379, 380, 381, 78, 382, 383, 384, 385, 386, 387, 388, 389, 390, 391, 392, 393, 394, 395, 396, 397, 398, 399, 400, 401, 402, 403, 404, 405, 406, 407, 408, 409, 410, 411, 412, 413, 414, 415, 416, 417, 418, 419, 420, 421, 422, 423, 424, 425, 426, 427, 428, 429, 430, 431, 432, 433, 434, 435, 109, 110, 111, 112, 1039, 1040, 1041, 1042, 1043, 1044, 1045, 1046, 1047, 1048, 1049, 1050, 1051, 1052, 1053, 1054, 1055] (by decide +kernel) (by decide +kernel)
set_option maxRecDepth 20000 in
theorem gL_law_X8_about : GoodIn wsL_law (wsV RL 124 RX8 yX8_about wsX8_about) := goodIn_app (goodIn_of _ (by decide +kernel)) ggL_law_X8_about
set_option maxRecDepth 20000 in
theorem ggL_law_L_layer : GoodIn wsL_law wsL_layer := goodIn_ca (goodIn_ca (goodIn_r _ [438, 439, 88, 440, 441, 442, 2, 443, 444, 445, 94, 95, 19, 446, 447, 448, 449, 275, 31, 450, 185, 186, 18, 187, 163, 38, 451, 452, 453, 40, 454, 365, 366, 367, 368, 48, 297, 298, 299, 300, 455, 456, 294, 295, 296, 457, 458, 459, 30, 460, 63, 283, 284, 285, 62, 286, 71, 288, 289, 290, 291, 292, 293, 301, 302, 303, 304, 192, 193, 305, 306, 307, 308, 309, 310, 311, 312, 313, 314, 194, 315, 316, 317, 318, 319, 320, 321, 322, 323, 324, 325, 326, 327, 328, 329, 461, 335, 336, 337, 338, 339, 340, 341, 462, 347, 348, 349, 350, 351, 352, 1031, 1032, 1033, 1034, 1035, 1036, 1037, 1038, 1068, 1069, 1070, 1071, 1056, 1057, 1058, 1059, 1060, 1061, 1065, 1066, 1067, 1072] (by decide +kernel) (by decide +kernel)) (goodIn_sub (fun _ h => List.mem_append_right _ h) (by decide +kernel))) (goodIn_sub (fun _ h => List.mem_append_left _ (List.mem_append_left _ (List.mem_append_right _ h))) (by decide +kernel))
set_option maxRecDepth 20000 in
theorem gL_law_L_layer : GoodIn wsL_law (va_wsS RL 125 yL_layer wsL_layer) := goodIn_app (goodIn_of _ (by decide +kernel)) ggL_law_L_layer
set_option maxRecDepth 20000 in
theorem ggL_law_X8_layer : GoodIn wsL_law wsX8_layer := goodIn_r _ [466, 103, 77, 467, 468, 469, 5, 470, 264, 106, 107, 108, 109, 110, 111, 112, 382, 383, 384, 385, 386, 387, 388, 389, 390, 391, 392, 471, 472, 473, 474, 475, 476, 477, 478, 479, 480, 481, 482, 377, 378, 379, 380, 381, 78, 393, 394, 395, 396, 397, 398, 399, 400, 401, 402, 403, 404, 405, 406, 407, 412, 413, 414, 415, 420, 421, 422, 423, 1039, 1040, 1041, 1042, 1043, 1044, 1045, 1046, 1047, 1048, 1049, 1050, 1051, 1052, 1053, 1054, 1055] (by decide +kernel) (by decide +kernel)
set_option maxRecDepth 20000 in
theorem gL_law_X8_layer : GoodIn wsL_law (wsV RL 128 RX8 yX8_layer wsX8_layer) := goodIn_app (goodIn_of _ (by decide +kernel)) ggL_law_X8_layer
set_option maxRecDepth 20000 in
theorem ggL_law_L_pen : GoodIn wsL_law wsL_pen := goodIn_ca (goodIn_ca (goodIn_r _ [485, 439, 88, 486, 487, 488, 2, 489, 444, 445, 94, 95, 19, 275, 450, 185, 186, 18, 187, 163, 38, 490, 312, 313, 40, 314, 194, 309, 310, 491, 302, 303, 304, 48, 192, 193, 305, 306, 307, 308, 299, 300, 1031, 1032, 1033, 1034, 1035, 1036, 1037, 1038, 1056, 1057, 1058, 1059, 1060, 1061, 1068, 1069, 1070, 1071] (by decide +kernel) (by decide +kernel)) (goodIn_sub (fun _ h => List.mem_append_right _ h) (by decide +kernel))) (goodIn_sub (fun _ h => List.mem_append_left _ (List.mem_append_left _ (List.mem_append_right _ h))) (by decide +kernel))
set_option maxRecDepth 20000 in
theorem gL_law_L_pen : GoodIn wsL_law (va_wsS RL 131 yL_pen wsL_pen) := goodIn_app (goodIn_of _ (by decide +kernel)) ggL_law_L_pen
set_option maxRecDepth 20000 in
theorem ggL_law_X8_pen : GoodIn wsL_law wsX8_pen := goodIn_r _ [495, 103, 77, 467, 468, 469, 5, 470, 264, 106, 107, 108, 109, 110, 111, 112, 397, 398, 399, 400, 401, 402, 403, 404, 386, 387, 388, 389, 405, 406, 407, 1039, 1040, 1041, 1042, 1043, 1044, 1045, 1046, 1047, 1048, 1049, 1050, 1051, 1052, 1053, 1054, 1055] (by decide +kernel) (by decide +kernel)
set_option maxRecDepth 20000 in
theorem gL_law_X8_pen : GoodIn wsL_law (wsV RL 134 RX8 yX8_pen wsX8_pen) := goodIn_app (goodIn_of _ (by decide +kernel)) ggL_law_X8_pen
set_option maxRecDepth 20000 in
theorem ggL_law_L_comes : GoodIn wsL_law wsL_comes := goodIn_ca (goodIn_ca (goodIn_r _ [498, 439, 88, 499, 500, 501, 2, 502, 444, 445, 94, 95, 19, 275, 450, 185, 186, 18, 187, 163, 38, 503, 504, 505, 506, 36, 507, 508, 509, 510, 362, 363, 40, 364, 194, 309, 310, 365, 366, 367, 368, 48, 297, 298, 299, 300, 341, 302, 303, 304, 192, 193, 305, 306, 307, 308, 1031, 1032, 1033, 1034, 1035, 1036, 1037, 1038, 1056, 1057, 1058, 1059, 1060, 1061, 1068, 1069, 1070, 1071] (by decide +kernel) (by decide +kernel)) (goodIn_sub (fun _ h => List.mem_append_right _ h) (by decide +kernel))) (goodIn_sub (fun _ h => List.mem_append_left _ (List.mem_append_left _ (List.mem_append_right _ h))) (by decide +kernel))
set_option maxRecDepth 20000 in
theorem gL_law_L_comes : GoodIn wsL_law (va_wsS RL 135 yL_comes wsL_comes) := goodIn_app (goodIn_of _ (by decide +kernel)) ggL_law_L_comes
set_option maxRecDepth 20000 in
theorem ggL_law_X8_comes : GoodIn wsL_law wsX8_comes := goodIn_r _ [514, 103, 515, 467, 468, 469, 5, 470, 264, 106, 107, 108, 109, 110, 111, 112, 516, 517, 518, 519, 77, 432, 433, 434, 435, 382, 383, 384, 385, 386, 387, 388, 389, 390, 391, 392, 393, 394, 395, 396, 397, 398, 399, 400, 401, 402, 403, 404, 405, 406, 407, 1039, 1040, 1041, 1042, 1043, 1044, 1045, 1046, 1047, 1048, 1049, 1050, 1051, 1052, 1053, 1054, 1055] (by decide +kernel) (by decide +kernel)
set_option maxRecDepth 20000 in
theorem gL_law_X8_comes : GoodIn wsL_law (wsV RL 138 RX8 yX8_comes wsX8_comes) := goodIn_app (goodIn_of _ (by decide +kernel)) ggL_law_X8_comes
set_option maxRecDepth 20000 in
theorem ggL_law_L_at : GoodIn wsL_law wsL_at := goodIn_ca (goodIn_r _ [522, 88, 523, 524, 525, 2, 526, 94, 95, 31, 19, 507, 508, 509, 277, 278, 279, 30, 280, 63, 281, 282, 283, 284, 285, 62, 286, 71, 287, 185, 186, 18, 187, 163, 38, 288, 289, 290, 291, 292, 293, 294, 295, 40, 296, 48, 297, 298, 299, 300, 301, 302, 303, 304, 192, 193, 305, 306, 307, 308, 309, 310, 311, 312, 313, 314, 194, 315, 316, 317, 318, 527, 528, 529, 530, 323, 324, 325, 326, 327, 328, 329, 1031, 1032, 1033, 1034, 1035, 1036, 1037, 1038, 1065, 1066, 1067, 1056, 1057, 1058, 1059, 1060, 1061, 1072, 1068, 1069, 1070, 1071] (by decide +kernel) (by decide +kernel)) (goodIn_sub (fun _ h => List.mem_append_left _ (List.mem_append_left _ (List.mem_append_right _ h))) (by decide +kernel))
set_option maxRecDepth 20000 in
theorem gL_law_L_at : GoodIn wsL_law (va_wsS RL 139 yL_at wsL_at) := goodIn_app (goodIn_of _ (by decide +kernel)) ggL_law_L_at
set_option maxRecDepth 20000 in
theorem ggL_law_X8_at : GoodIn wsL_law wsX8_at := goodIn_r _ [534, 103, 515, 106, 107, 5, 108, 109, 110, 111, 112, 373, 374, 375, 376, 377, 264, 378, 379, 380, 381, 78, 382, 383, 384, 385, 77, 386, 387, 388, 389, 390, 391, 392, 393, 394, 395, 396, 397, 398, 399, 400, 401, 402, 403, 404, 405, 406, 407, 535, 536, 537, 538, 1039, 1040, 1041, 1042, 1043, 1044, 1045, 1046, 1047, 1048, 1049, 1050, 1051, 1052, 1053, 1054, 1055] (by decide +kernel) (by decide +kernel)
set_option maxRecDepth 20000 in
theorem gL_law_X8_at : GoodIn wsL_law (wsV RL 141 RX8 yX8_at wsX8_at) := goodIn_app (goodIn_of _ (by decide +kernel)) ggL_law_X8_at
set_option maxRecDepth 20000 in
theorem ggL_law_X7_blank : GoodIn wsL_law wsX7_blank := goodIn_r _ [542, 19, 234, 31, 277, 278, 279, 30, 280, 63, 281, 282, 283, 284, 285, 62, 286, 71, 287, 185, 186, 18, 187, 163, 38, 288, 289, 290, 291, 292, 293, 294, 295, 40, 296, 48, 297, 2, 298, 299, 300, 301, 302, 303, 304, 192, 193, 305, 306, 307, 308, 309, 310, 311, 312, 313, 314, 194, 315, 316, 317, 318, 543, 544, 545, 546, 547, 351, 352, 548, 528, 529, 530, 323, 324, 325, 326, 327, 328, 329, 1031, 1032, 1033, 1034, 1035, 1036, 1037, 1038, 1056, 1057, 1058, 1059, 1060, 1061, 1065, 1066, 1067, 1072, 1068, 1069, 1070, 1071] (by decide +kernel) (by decide +kernel)
set_option maxRecDepth 20000 in
theorem gL_law_X7_blank : GoodIn wsL_law (wsV RL 142 RX7 yX7_blank wsX7_blank) := goodIn_app (goodIn_of _ (by decide +kernel)) ggL_law_X7_blank
set_option maxRecDepth 20000 in
theorem ggL_law_X8_blank : GoodIn wsL_law wsX8_blank := goodIn_r _ [552, 103, 264, 373, 374, 375, 5, 376, 377, 378, 379, 380, 381, 78, 382, 383, 384, 385, 77, 386, 387, 388, 389, 390, 391, 392, 393, 394, 395, 396, 397, 398, 399, 400, 401, 402, 403, 404, 405, 406, 407, 535, 536, 537, 538, 1039, 1040, 1041, 1042, 1043, 1044, 1045, 1046, 1047, 1048, 1049, 1050, 1051, 1052, 1053, 1054, 1055] (by decide +kernel) (by decide +kernel)
set_option maxRecDepth 20000 in
theorem gL_law_X8_blank : GoodIn wsL_law (wsV RL 145 RX8 yX8_blank wsX8_blank) := goodIn_app (goodIn_of _ (by decide +kernel)) ggL_law_X8_blank
set_option maxRecDepth 20000 in
theorem ggL_law_X7_together : GoodIn wsL_law wsX7_together := goodIn_r _ [556, 19, 234, 275, 450, 185, 186, 18, 187, 163, 38, 451, 452, 453, 40, 454, 365, 366, 367, 368, 48, 297, 2, 298, 299, 300, 557, 558, 559, 560, 561, 1031, 1032, 1033, 1034, 1035, 1036, 1037, 1038, 1056, 1057, 1058, 1059, 1060, 1061, 1068, 1069, 1070, 1071] (by decide +kernel) (by decide +kernel)
set_option maxRecDepth 20000 in
theorem gL_law_X7_together : GoodIn wsL_law (wsV RL 146 RX7 yX7_together wsX7_together) := goodIn_app (goodIn_of _ (by decide +kernel)) ggL_law_X7_together
set_option maxRecDepth 20000 in
theorem ggL_law_X8_together : GoodIn wsL_law wsX8_together := goodIn_r _ [565, 103, 264, 382, 383, 384, 5, 385, 77, 386, 387, 388, 389, 390, 391, 392, 566, 567, 568, 1039, 1040, 1041, 1042, 1043, 1044, 1045, 1046, 1047, 1048, 1049, 1050, 1051, 1052, 1053, 1054, 1055] (by decide +kernel) (by decide +kernel)
set_option maxRecDepth 20000 in
theorem gL_law_X8_together : GoodIn wsL_law (wsV RL 150 RX8 yX8_together wsX8_together) := goodIn_app (goodIn_of _ (by decide +kernel)) ggL_law_X8_together
set_option maxRecDepth 20000 in
theorem ggL_law_L_order : GoodIn wsL_law wsL_order := goodIn_ca (goodIn_r _ [571, 88, 572, 573, 574, 2, 575, 94, 95, 19, 234, 576, 577, 578, 18, 579, 163, 580, 581, 582, 583, 36, 184, 185, 186, 187, 38, 584, 366, 367, 40, 368, 48, 297, 298, 299, 300, 585, 294, 295, 296, 1031, 1032, 1033, 1034, 1035, 1036, 1037, 1038, 1056, 1057, 1058, 1059, 1060, 1061, 1068, 1069, 1070, 1071] (by decide +kernel) (by decide +kernel)) (goodIn_sub (fun _ h => List.mem_append_left _ (List.mem_append_left _ (List.mem_append_right _ h))) (by decide +kernel))
set_option maxRecDepth 20000 in
theorem gL_law_L_order : GoodIn wsL_law (va_wsS RL 151 yL_order wsL_order) := goodIn_app (goodIn_of _ (by decide +kernel)) ggL_law_L_order
set_option maxRecDepth 20000 in
theorem ggL_law_X8_order : GoodIn wsL_law wsX8_order := goodIn_r _ [589, 103, 264, 109, 110, 111, 5, 112, 590, 591, 592, 593, 471, 472, 473, 474, 77, 382, 383, 384, 385, 386, 387, 388, 389, 390, 391, 392, 475, 476, 477, 478, 1039, 1040, 1041, 1042, 1043, 1044, 1045, 1046, 1047, 1048, 1049, 1050, 1051, 1052, 1053, 1054, 1055] (by decide +kernel) (by decide +kernel)
set_option maxRecDepth 20000 in
theorem gL_law_X8_order : GoodIn wsL_law (wsV RL 153 RX8 yX8_order wsX8_order) := goodIn_app (goodIn_of _ (by decide +kernel)) ggL_law_X8_order
set_option maxRecDepth 20000 in
theorem ggL_law_L_sighting : GoodIn wsL_law wsL_sighting := goodIn_ca (goodIn_ca (goodIn_r _ [596, 439, 88, 597, 598, 599, 2, 600, 444, 445, 94, 95, 19, 276, 601, 246, 247, 18, 248, 42, 602, 250, 251, 252, 43, 603, 604, 605, 606, 163, 36, 184, 185, 186, 187, 38, 361, 362, 363, 40, 364, 194, 309, 310, 365, 366, 367, 368, 48, 297, 298, 299, 300, 341, 302, 303, 304, 192, 193, 305, 306, 307, 308, 1031, 1032, 1033, 1034, 1035, 1036, 1037, 1038, 1056, 1057, 1058, 1059, 1060, 1061, 1068, 1069, 1070, 1071] (by decide +kernel) (by decide +kernel)) (goodIn_sub (fun _ h => List.mem_append_right _ h) (by decide +kernel))) (goodIn_sub (fun _ h => List.mem_append_left _ (List.mem_append_left _ (List.mem_append_right _ h))) (by decide +kernel))
set_option maxRecDepth 20000 in
theorem gL_law_L_sighting : GoodIn wsL_law (va_wsS RL 154 yL_sighting wsL_sighting) := goodIn_app (goodIn_of _ (by decide +kernel)) ggL_law_L_sighting
set_option maxRecDepth 20000 in
theorem ggL_law_X8_sighting : GoodIn wsL_law wsX8_sighting := goodIn_r _ [610, 103, 77, 611, 264, 106, 107, 5, 108, 109, 110, 111, 112, 432, 433, 434, 435, 382, 383, 384, 385, 386, 387, 388, 389, 390, 391, 392, 393, 394, 395, 396, 397, 398, 399, 400, 401, 402, 403, 404, 405, 406, 407, 1039, 1040, 1041, 1042, 1043, 1044, 1045, 1046, 1047, 1048, 1049, 1050, 1051, 1052, 1053, 1054, 1055] (by decide +kernel) (by decide +kernel)
set_option maxRecDepth 20000 in
theorem gL_law_X8_sighting : GoodIn wsL_law (wsV RL 156 RX8 yX8_sighting wsX8_sighting) := goodIn_app (goodIn_of _ (by decide +kernel)) ggL_law_X8_sighting
set_option maxRecDepth 20000 in
theorem ggL_law_L_common : GoodIn wsL_law wsL_common := goodIn_ca (goodIn_r _ [614, 439, 615, 616, 617, 2, 618, 444, 445, 19, 31, 275, 450, 185, 186, 18, 187, 163, 38, 619, 620, 621, 30, 622, 63, 64, 283, 284, 285, 62, 286, 71, 288, 289, 290, 291, 292, 293, 294, 295, 40, 296, 48, 297, 298, 299, 300, 301, 302, 303, 304, 192, 193, 305, 306, 307, 308, 309, 310, 311, 312, 313, 314, 194, 315, 316, 317, 318, 623, 624, 625, 626, 323, 324, 325, 326, 327, 328, 329, 1031, 1032, 1033, 1034, 1035, 1036, 1037, 1038, 1056, 1057, 1058, 1059, 1060, 1061, 1065, 1066, 1067, 1072, 1068, 1069, 1070, 1071] (by decide +kernel) (by decide +kernel)) (goodIn_sub (fun _ h => List.mem_append_right _ h) (by decide +kernel))
set_option maxRecDepth 20000 in
theorem gL_law_L_common : GoodIn wsL_law (va_wsS RL 157 yL_common wsL_common) := goodIn_app (goodIn_of _ (by decide +kernel)) ggL_law_L_common
set_option maxRecDepth 20000 in
theorem ggL_law_X8_common_ : GoodIn wsL_law wsX8_common_ := goodIn_r _ [630, 103, 467, 468, 469, 5, 470, 264, 106, 107, 108, 109, 110, 111, 112, 631, 632, 633, 634, 377, 479, 480, 481, 482, 378, 379, 380, 381, 78, 382, 383, 384, 385, 77, 386, 387, 388, 389, 390, 391, 392, 393, 394, 395, 396, 397, 398, 399, 400, 401, 402, 403, 404, 405, 406, 407, 1039, 1040, 1041, 1042, 1043, 1044, 1045, 1046, 1047, 1048, 1049, 1050, 1051, 1052, 1053, 1054, 1055] (by decide +kernel) (by decide +kernel)
set_option maxRecDepth 20000 in
theorem gL_law_X8_common_ : GoodIn wsL_law (wsV RL 159 RX8 yX8_common_ wsX8_common_) := goodIn_app (goodIn_of _ (by decide +kernel)) ggL_law_X8_common_
set_option maxRecDepth 20000 in
theorem ggL_law_L_meet : GoodIn wsL_law wsL_meet := goodIn_ca (goodIn_r _ [637, 439, 638, 639, 640, 2, 641, 444, 445, 19, 450, 185, 186, 18, 187, 163, 38, 642, 643, 644, 40, 645, 194, 48, 558, 559, 560, 297, 298, 561, 299, 300, 341, 302, 303, 304, 192, 193, 305, 306, 307, 308, 309, 310, 1031, 1032, 1033, 1034, 1035, 1036, 1037, 1038, 1056, 1057, 1058, 1059, 1060, 1061, 1068, 1069, 1070, 1071] (by decide +kernel) (by decide +kernel)) (goodIn_sub (fun _ h => List.mem_append_right _ h) (by decide +kernel))
set_option maxRecDepth 20000 in
theorem gL_law_L_meet : GoodIn wsL_law (va_wsS RL 160 yL_meet wsL_meet) := goodIn_app (goodIn_of _ (by decide +kernel)) ggL_law_L_meet
set_option maxRecDepth 20000 in
theorem ggL_law_X8_meet : GoodIn wsL_law wsX8_meet := goodIn_r _ [649, 103, 467, 468, 469, 5, 470, 264, 106, 107, 108, 109, 110, 111, 112, 386, 387, 388, 389, 77, 390, 391, 392, 397, 398, 399, 400, 401, 402, 403, 404, 405, 406, 407, 1039, 1040, 1041, 1042, 1043, 1044, 1045, 1046, 1047, 1048, 1049, 1050, 1051, 1052, 1053, 1054, 1055] (by decide +kernel) (by decide +kernel)
set_option maxRecDepth 20000 in
theorem gL_law_X8_meet : GoodIn wsL_law (wsV RL 162 RX8 yX8_meet wsX8_meet) := goodIn_app (goodIn_of _ (by decide +kernel)) ggL_law_X8_meet
set_option maxRecDepth 20000 in
theorem ggL_law_L_turned : GoodIn wsL_law wsL_turned := goodIn_ca (goodIn_r _ [652, 439, 653, 654, 655, 2, 656, 444, 445, 19, 31, 275, 450, 185, 186, 18, 187, 163, 38, 657, 658, 659, 30, 660, 64, 66, 661, 63, 283, 284, 285, 62, 286, 71, 288, 289, 290, 291, 292, 293, 294, 295, 40, 296, 48, 297, 298, 299, 300, 301, 302, 303, 304, 192, 193, 305, 306, 307, 308, 309, 310, 311, 312, 313, 314, 194, 315, 316, 317, 318, 662, 663, 664, 665, 666, 189, 190, 191, 667, 668, 669, 670, 671, 672, 673, 674, 675, 1031, 1032, 1033, 1034, 1035, 1036, 1037, 1038, 1056, 1057, 1058, 1059, 1060, 1061, 1065, 1066, 1067, 1068, 1069, 1070, 1071, 1072] (by decide +kernel) (by decide +kernel)) (goodIn_sub (fun _ h => List.mem_append_right _ h) (by decide +kernel))
set_option maxRecDepth 20000 in
theorem gL_law_L_turned : GoodIn wsL_law (va_wsS RL 163 yL_turned wsL_turned) := goodIn_app (goodIn_of _ (by decide +kernel)) ggL_law_L_turned
set_option maxRecDepth 20000 in
theorem ggL_law_X8_turned : GoodIn wsL_law wsX8_turned := goodIn_r _ [679, 103, 467, 468, 469, 5, 470, 264, 106, 107, 108, 109, 110, 111, 112, 680, 681, 682, 683, 77, 377, 378, 379, 380, 381, 78, 382, 383, 384, 385, 386, 387, 388, 389, 390, 391, 392, 393, 394, 395, 396, 397, 398, 399, 400, 401, 402, 403, 404, 405, 406, 407, 684, 685, 686, 687, 479, 480, 481, 482, 1039, 1040, 1041, 1042, 1043, 1044, 1045, 1046, 1047, 1048, 1049, 1050, 1051, 1052, 1053, 1054, 1055] (by decide +kernel) (by decide +kernel)
set_option maxRecDepth 20000 in
theorem gL_law_X8_turned : GoodIn wsL_law (wsV RL 165 RX8 yX8_turned wsX8_turned) := goodIn_app (goodIn_of _ (by decide +kernel)) ggL_law_X8_turned
set_option maxRecDepth 20000 in
theorem ggL_law_L_setRing : GoodIn wsL_law wsL_setRing := goodIn_ca (goodIn_r _ [690, 88, 691, 692, 693, 2, 694, 94, 95, 24, 19, 275, 695, 696, 697, 698, 699, 700, 23, 701, 258, 259, 702, 703, 704, 705, 54, 706, 236, 237, 18, 238, 36, 163, 239, 240, 241, 242, 164, 243, 160, 161, 162, 184, 185, 186, 187, 38, 244, 180, 181, 182, 183, 171, 172, 173, 188, 189, 190, 40, 191, 48, 192, 193, 194, 245, 246, 247, 248, 42, 249, 250, 251, 252, 43, 253, 200, 201, 202, 203, 204, 205, 206, 707, 708, 709, 710, 711, 504, 505, 506, 1031, 1032, 1033, 1034, 1035, 1036, 1037, 1038, 1056, 1057, 1058, 1059, 1060, 1061, 1062, 1063, 1064, 1068, 1069, 1070, 1071] (by decide +kernel) (by decide +kernel)) (goodIn_sub (fun _ h => List.mem_append_left _ (List.mem_append_left _ (List.mem_append_right _ h))) (by decide +kernel))
set_option maxRecDepth 20000 in
theorem gL_law_L_setRing : GoodIn wsL_law (va_wsS RL 166 yL_setRing wsL_setRing) := goodIn_app (goodIn_of _ (by decide +kernel)) ggL_law_L_setRing
set_option maxRecDepth 20000 in
theorem ggL_law_X8_setRing : GoodIn wsL_law wsX8_setRing := goodIn_r _ [715, 103, 716, 717, 5, 718, 719, 720, 106, 107, 108, 109, 110, 111, 112, 721, 722, 723, 724, 265, 81, 725, 726, 727, 728, 264, 77, 729, 730, 731, 732, 397, 398, 399, 400, 1039, 1040, 1041, 1042, 1043, 1044, 1045, 1046, 1047, 1048, 1049, 1050, 1051, 1052, 1053, 1054, 1055] (by decide +kernel) (by decide +kernel)
set_option maxRecDepth 20000 in
theorem gL_law_X8_setRing : GoodIn wsL_law (wsV RL 168 RX8 yX8_setRing wsX8_setRing) := goodIn_app (goodIn_of _ (by decide +kernel)) ggL_law_X8_setRing
set_option maxRecDepth 20000 in
theorem ggL_law_L_addLayer : GoodIn wsL_law wsL_addLayer := goodIn_ca (goodIn_ca (goodIn_r _ [735, 88, 89, 736, 737, 738, 2, 739, 94, 95, 96, 97, 19, 24, 234, 740, 741, 742, 743, 744, 745, 746, 747, 748, 503, 504, 505, 18, 506, 36, 749, 171, 172, 173, 163, 698, 699, 700, 23, 701, 258, 259, 702, 703, 704, 705, 54, 706, 236, 237, 238, 239, 240, 241, 242, 164, 243, 160, 161, 162, 184, 185, 186, 187, 38, 244, 180, 181, 182, 183, 188, 189, 190, 40, 191, 48, 192, 193, 194, 245, 246, 247, 248, 42, 249, 250, 251, 252, 43, 253, 200, 201, 202, 203, 204, 205, 206, 750, 1031, 1032, 1033, 1034, 1035, 1036, 1037, 1038, 1056, 1057, 1058, 1059, 1060, 1061, 1062, 1063, 1064, 1068, 1069, 1070, 1071] (by decide +kernel) (by decide +kernel)) (goodIn_sub (fun _ h => List.mem_append_left _ (List.mem_append_left _ (List.mem_append_right _ h))) (by decide +kernel))) (goodIn_sub (fun _ h => List.mem_append_left _ (List.mem_append_right _ h)) (by decide +kernel))
set_option maxRecDepth 20000 in
theorem gL_law_L_addLayer : GoodIn wsL_law (va_wsS RL 169 yL_addLayer wsL_addLayer) := goodIn_app (goodIn_of _ (by decide +kernel)) ggL_law_L_addLayer
set_option maxRecDepth 20000 in
theorem ggL_law_X8_addLayer : GoodIn wsL_law wsX8_addLayer := goodIn_r _ [754, 103, 264, 755, 756, 757, 5, 758, 759, 760, 761, 762, 763, 764, 765, 106, 107, 108, 516, 517, 518, 519, 77, 109, 110, 111, 112, 721, 722, 723, 724, 265, 81, 725, 726, 727, 728, 766, 767, 768, 769, 1039, 1040, 1041, 1042, 1043, 1044, 1045, 1046, 1047, 1048, 1049, 1050, 1051, 1052, 1053, 1054, 1055] (by decide +kernel) (by decide +kernel)
set_option maxRecDepth 20000 in
theorem gL_law_X8_addLayer : GoodIn wsL_law (wsV RL 172 RX8 yX8_addLayer wsX8_addLayer) := goodIn_app (goodIn_of _ (by decide +kernel)) ggL_law_X8_addLayer
set_option maxRecDepth 20000 in
theorem ggL_law_L_change : GoodIn wsL_law wsL_change := goodIn_ca (goodIn_ca (goodIn_r _ [772, 439, 88, 773, 774, 775, 2, 776, 444, 445, 94, 95, 19, 24, 450, 185, 186, 18, 187, 163, 38, 777, 778, 779, 780, 741, 742, 744, 745, 747, 748, 711, 504, 505, 506, 36, 698, 699, 700, 23, 701, 258, 259, 702, 703, 704, 705, 54, 706, 236, 237, 238, 239, 240, 241, 242, 164, 243, 160, 161, 162, 184, 244, 180, 181, 182, 183, 171, 172, 173, 188, 189, 190, 40, 191, 48, 192, 193, 194, 245, 246, 247, 248, 42, 249, 250, 251, 252, 43, 253, 200, 201, 202, 203, 204, 205, 206, 781, 782, 783, 784, 1031, 1032, 1033, 1034, 1035, 1036, 1037, 1038, 1056, 1057, 1058, 1059, 1060, 1061, 1062, 1063, 1064, 1068, 1069, 1070, 1071] (by decide +kernel) (by decide +kernel)) (goodIn_sub (fun _ h => List.mem_append_right _ h) (by decide +kernel))) (goodIn_sub (fun _ h => List.mem_append_left _ (List.mem_append_left _ (List.mem_append_right _ h))) (by decide +kernel))
set_option maxRecDepth 20000 in
theorem gL_law_L_change : GoodIn wsL_law (va_wsS RL 173 yL_change wsL_change) := goodIn_app (goodIn_of _ (by decide +kernel)) ggL_law_L_change
set_option maxRecDepth 20000 in
theorem ggL_law_X8_change : GoodIn wsL_law wsX8_change := goodIn_r _ [788, 103, 77, 467, 468, 469, 5, 470, 264, 106, 107, 108, 109, 110, 111, 112, 759, 760, 761, 762, 763, 764, 765, 516, 517, 518, 519, 721, 722, 723, 724, 265, 81, 725, 726, 727, 728, 1039, 1040, 1041, 1042, 1043, 1044, 1045, 1046, 1047, 1048, 1049, 1050, 1051, 1052, 1053, 1054, 1055] (by decide +kernel) (by decide +kernel)
set_option maxRecDepth 20000 in
theorem gL_law_X8_change : GoodIn wsL_law (wsV RL 175 RX8 yX8_change wsX8_change) := goodIn_app (goodIn_of _ (by decide +kernel)) ggL_law_X8_change
set_option maxRecDepth 20000 in
theorem ggL_law_L_remove : GoodIn wsL_law wsL_remove := goodIn_ca (goodIn_r _ [791, 439, 792, 793, 794, 2, 795, 444, 445, 19, 24, 234, 450, 185, 186, 18, 187, 163, 38, 698, 699, 700, 23, 701, 258, 259, 702, 703, 704, 705, 54, 706, 236, 237, 238, 36, 239, 240, 241, 242, 164, 243, 160, 161, 162, 184, 244, 180, 181, 182, 183, 171, 172, 173, 188, 189, 190, 40, 191, 48, 192, 193, 194, 245, 246, 247, 248, 42, 249, 250, 251, 252, 43, 253, 200, 201, 202, 203, 204, 205, 206, 796, 797, 798, 799, 800, 663, 664, 665, 666, 1031, 1032, 1033, 1034, 1035, 1036, 1037, 1038, 1056, 1057, 1058, 1059, 1060, 1061, 1062, 1063, 1064, 1068, 1069, 1070, 1071] (by decide +kernel) (by decide +kernel)) (goodIn_sub (fun _ h => List.mem_append_right _ h) (by decide +kernel))
set_option maxRecDepth 20000 in
theorem gL_law_L_remove : GoodIn wsL_law (va_wsS RL 176 yL_remove wsL_remove) := goodIn_app (goodIn_of _ (by decide +kernel)) ggL_law_L_remove
set_option maxRecDepth 20000 in
theorem ggL_law_X8_remove : GoodIn wsL_law wsX8_remove := goodIn_r _ [804, 103, 467, 468, 469, 5, 470, 264, 106, 107, 108, 109, 110, 111, 112, 721, 722, 723, 724, 265, 81, 725, 726, 727, 728, 77, 805, 806, 807, 808, 1039, 1040, 1041, 1042, 1043, 1044, 1045, 1046, 1047, 1048, 1049, 1050, 1051, 1052, 1053, 1054, 1055] (by decide +kernel) (by decide +kernel)
set_option maxRecDepth 20000 in
theorem gL_law_X8_remove : GoodIn wsL_law (wsV RL 178 RX8 yX8_remove wsX8_remove) := goodIn_app (goodIn_of _ (by decide +kernel)) ggL_law_X8_remove
set_option maxRecDepth 20000 in
theorem ggL_law_L_see : GoodIn wsL_law wsL_see := goodIn_ca (goodIn_r _ [811, 88, 812, 813, 814, 2, 815, 94, 95, 19, 24, 503, 504, 505, 18, 506, 36, 507, 508, 509, 698, 699, 700, 23, 701, 258, 259, 702, 703, 704, 705, 54, 706, 236, 237, 238, 163, 239, 240, 241, 242, 164, 243, 160, 161, 162, 184, 185, 186, 187, 38, 244, 180, 181, 182, 183, 171, 172, 173, 188, 189, 190, 40, 191, 48, 192, 193, 194, 245, 246, 247, 248, 42, 249, 250, 251, 252, 43, 253, 200, 201, 202, 203, 204, 205, 206, 816, 353, 354, 355, 356, 357, 358, 359, 360, 361, 362, 363, 364, 309, 310, 365, 366, 367, 368, 297, 298, 299, 300, 341, 302, 303, 304, 305, 306, 307, 308, 1031, 1032, 1033, 1034, 1035, 1036, 1037, 1038, 1056, 1057, 1058, 1059, 1060, 1061, 1062, 1063, 1064, 1068, 1069, 1070, 1071] (by decide +kernel) (by decide +kernel)) (goodIn_sub (fun _ h => List.mem_append_left _ (List.mem_append_left _ (List.mem_append_right _ h))) (by decide +kernel))
set_option maxRecDepth 20000 in
theorem gL_law_L_see : GoodIn wsL_law (va_wsS RL 179 yL_see wsL_see) := goodIn_app (goodIn_of _ (by decide +kernel)) ggL_law_L_see
set_option maxRecDepth 20000 in
theorem ggL_law_X8_see : GoodIn wsL_law wsX8_see := goodIn_r _ [820, 103, 515, 77, 516, 517, 518, 5, 519, 106, 107, 108, 109, 110, 111, 112, 721, 722, 723, 724, 265, 81, 725, 726, 727, 728, 264, 424, 425, 426, 427, 428, 429, 430, 431, 432, 433, 434, 435, 382, 383, 384, 385, 386, 387, 388, 389, 390, 391, 392, 393, 394, 395, 396, 397, 398, 399, 400, 401, 402, 403, 404, 405, 406, 407, 1039, 1040, 1041, 1042, 1043, 1044, 1045, 1046, 1047, 1048, 1049, 1050, 1051, 1052, 1053, 1054, 1055] (by decide +kernel) (by decide +kernel)
set_option maxRecDepth 20000 in
theorem gL_law_X8_see : GoodIn wsL_law (wsV RL 181 RX8 yX8_see wsX8_see) := goodIn_app (goodIn_of _ (by decide +kernel)) ggL_law_X8_see
set_option maxRecDepth 20000 in
theorem ggL_law_X7_forget : GoodIn wsL_law wsX7_forget := goodIn_r _ [824, 24, 19, 276, 698, 699, 700, 23, 701, 258, 259, 702, 703, 704, 705, 54, 706, 236, 237, 18, 238, 36, 163, 239, 240, 241, 242, 164, 243, 160, 161, 162, 184, 185, 186, 187, 38, 244, 180, 181, 182, 183, 171, 172, 173, 188, 189, 190, 40, 191, 48, 192, 193, 194, 245, 246, 247, 248, 42, 249, 250, 251, 252, 43, 253, 200, 201, 202, 203, 204, 205, 206, 1031, 1032, 1033, 1034, 1035, 1036, 1037, 1038, 1056, 1057, 1058, 1059, 1060, 1061, 1062, 1063, 1064, 1068, 1069, 1070, 1071] (by decide +kernel) (by decide +kernel)
set_option maxRecDepth 20000 in
theorem gL_law_X7_forget : GoodIn wsL_law (wsV RL 182 RX7 yX7_forget wsX7_forget) := goodIn_app (goodIn_of _ (by decide +kernel)) ggL_law_X7_forget
set_option maxRecDepth 20000 in
theorem ggL_law_X8_forget : GoodIn wsL_law wsX8_forget := goodIn_r _ [828, 103, 77, 721, 722, 723, 5, 724, 265, 81, 725, 726, 727, 728, 264, 1039, 1040, 1041, 1042, 1043, 1044, 1045, 1046, 1047, 1048, 1049, 1050, 1051, 1052, 1053, 1054, 1055] (by decide +kernel) (by decide +kernel)
set_option maxRecDepth 20000 in
theorem gL_law_X8_forget : GoodIn wsL_law (wsV RL 185 RX8 yX8_forget wsX8_forget) := goodIn_app (goodIn_of _ (by decide +kernel)) ggL_law_X8_forget
set_option maxRecDepth 20000 in
theorem ggL_law_L_undo : GoodIn wsL_law wsL_undo := goodIn_ca (goodIn_r _ [831, 89, 832, 833, 834, 2, 835, 96, 97, 24, 836, 19, 837, 838, 839, 23, 840, 259, 258, 702, 703, 704, 705, 54, 706, 236, 237, 18, 238, 36, 163, 239, 240, 241, 242, 164, 243, 160, 161, 162, 184, 185, 186, 187, 38, 244, 180, 181, 182, 183, 171, 172, 173, 188, 189, 190, 40, 191, 48, 192, 193, 194, 245, 246, 247, 248, 42, 249, 250, 251, 252, 43, 253, 200, 201, 202, 203, 204, 205, 206, 1031, 1032, 1033, 1034, 1035, 1036, 1037, 1038, 1062, 1063, 1064, 1056, 1057, 1058, 1059, 1060, 1061, 1068, 1069, 1070, 1071] (by decide +kernel) (by decide +kernel)) (goodIn_sub (fun _ h => List.mem_append_left _ (List.mem_append_right _ h)) (by decide +kernel))
set_option maxRecDepth 20000 in
theorem gL_law_L_undo : GoodIn wsL_law (va_wsS RL 186 yL_undo wsL_undo) := goodIn_app (goodIn_of _ (by decide +kernel)) ggL_law_L_undo
set_option maxRecDepth 20000 in
theorem ggL_law_X8_undo : GoodIn wsL_law wsX8_undo := goodIn_r _ [844, 103, 265, 81, 109, 110, 111, 5, 112, 845, 846, 847, 848, 264, 77, 1039, 1040, 1041, 1042, 1043, 1044, 1045, 1046, 1047, 1048, 1049, 1050, 1051, 1052, 1053, 1054, 1055] (by decide +kernel) (by decide +kernel)
set_option maxRecDepth 20000 in
theorem gL_law_X8_undo : GoodIn wsL_law (wsV RL 188 RX8 yX8_undo wsX8_undo) := goodIn_app (goodIn_of _ (by decide +kernel)) ggL_law_X8_undo
set_option maxRecDepth 20000 in
theorem ggL_law_L_bestStart : GoodIn wsL_law wsL_bestStart := goodIn_ca (goodIn_ca (goodIn_r _ [851, 439, 88, 852, 853, 854, 2, 855, 444, 445, 94, 95, 19, 31, 275, 450, 185, 186, 18, 187, 163, 38, 856, 857, 858, 30, 859, 64, 66, 661, 63, 283, 284, 285, 62, 286, 71, 288, 289, 290, 291, 292, 293, 294, 295, 40, 296, 48, 297, 298, 299, 300, 301, 302, 303, 304, 192, 193, 305, 306, 307, 308, 309, 310, 311, 312, 313, 314, 194, 315, 316, 317, 318, 662, 663, 664, 665, 666, 189, 190, 191, 667, 668, 669, 670, 623, 624, 625, 626, 323, 324, 325, 326, 327, 328, 329, 1031, 1032, 1033, 1034, 1035, 1036, 1037, 1038, 1056, 1057, 1058, 1059, 1060, 1061, 1065, 1066, 1067, 1068, 1069, 1070, 1071, 1072] (by decide +kernel) (by decide +kernel)) (goodIn_sub (fun _ h => List.mem_append_right _ h) (by decide +kernel))) (goodIn_sub (fun _ h => List.mem_append_left _ (List.mem_append_left _ (List.mem_append_right _ h))) (by decide +kernel))
set_option maxRecDepth 20000 in
theorem gL_law_L_bestStart : GoodIn wsL_law (va_wsS RL 189 yL_bestStart wsL_bestStart) := goodIn_app (goodIn_of _ (by decide +kernel)) ggL_law_L_bestStart
set_option maxRecDepth 20000 in
theorem ggL_law_X8_bestStart : GoodIn wsL_law wsX8_bestStart := goodIn_r _ [863, 103, 77, 467, 468, 469, 5, 470, 264, 106, 107, 108, 109, 110, 111, 112, 631, 632, 633, 634, 377, 479, 480, 481, 482, 378, 379, 380, 381, 78, 382, 383, 384, 385, 386, 387, 388, 389, 390, 391, 392, 393, 394, 395, 396, 397, 398, 399, 400, 401, 402, 403, 404, 405, 406, 407, 1039, 1040, 1041, 1042, 1043, 1044, 1045, 1046, 1047, 1048, 1049, 1050, 1051, 1052, 1053, 1054, 1055] (by decide +kernel) (by decide +kernel)
set_option maxRecDepth 20000 in
theorem gL_law_X8_bestStart : GoodIn wsL_law (wsV RL 191 RX8 yX8_bestStart wsX8_bestStart) := goodIn_app (goodIn_of _ (by decide +kernel)) ggL_law_X8_bestStart
set_option maxRecDepth 20000 in
theorem ggL_law_L_wheels : GoodIn wsL_law wsL_wheels := goodIn_ca (goodIn_r _ [866, 88, 867, 868, 869, 2, 870, 94, 95, 19, 31, 871, 743, 744, 745, 746, 747, 748, 503, 504, 505, 18, 506, 36, 872, 189, 190, 40, 191, 48, 192, 193, 194, 873, 358, 359, 360, 164, 245, 246, 247, 248, 42, 249, 250, 251, 252, 43, 361, 362, 363, 364, 309, 310, 365, 366, 367, 368, 297, 298, 299, 300, 341, 302, 303, 304, 305, 306, 307, 308, 1031, 1032, 1033, 1034, 1035, 1036, 1037, 1038, 1065, 1066, 1067, 1056, 1057, 1058, 1059, 1060, 1061, 1068, 1069, 1070, 1071] (by decide +kernel) (by decide +kernel)) (goodIn_sub (fun _ h => List.mem_append_left _ (List.mem_append_left _ (List.mem_append_right _ h))) (by decide +kernel))
set_option maxRecDepth 20000 in
theorem gL_law_L_wheels : GoodIn wsL_law (va_wsS RL 192 yL_wheels wsL_wheels) := goodIn_app (goodIn_of _ (by decide +kernel)) ggL_law_L_wheels
set_option maxRecDepth 20000 in
theorem ggL_law_X8_wheels : GoodIn wsL_law wsX8_wheels := goodIn_r _ [877, 103, 611, 755, 756, 757, 5, 758, 759, 760, 761, 762, 763, 764, 765, 106, 107, 108, 516, 517, 518, 519, 77, 109, 110, 111, 112, 878, 879, 880, 881, 882, 883, 884, 885, 390, 391, 392, 405, 406, 407, 1039, 1040, 1041, 1042, 1043, 1044, 1045, 1046, 1047, 1048, 1049, 1050, 1051, 1052, 1053, 1054, 1055] (by decide +kernel) (by decide +kernel)
set_option maxRecDepth 20000 in
theorem gL_law_X8_wheels : GoodIn wsL_law (wsV RL 194 RX8 yX8_wheels wsX8_wheels) := goodIn_app (goodIn_of _ (by decide +kernel)) ggL_law_X8_wheels
set_option maxRecDepth 20000 in
theorem ggL_law_L_wheelFor : GoodIn wsL_law wsL_wheelFor := goodIn_ca (goodIn_r _ [888, 88, 889, 890, 891, 2, 892, 94, 95, 31, 871, 19, 275, 872, 189, 190, 40, 191, 48, 192, 193, 194, 455, 366, 367, 368, 297, 298, 299, 300, 1031, 1032, 1033, 1034, 1035, 1036, 1037, 1038, 1065, 1066, 1067, 1056, 1057, 1058, 1059, 1060, 1061, 1068, 1069, 1070, 1071] (by decide +kernel) (by decide +kernel)) (goodIn_sub (fun _ h => List.mem_append_left _ (List.mem_append_left _ (List.mem_append_right _ h))) (by decide +kernel))
set_option maxRecDepth 20000 in
theorem gL_law_L_wheelFor : GoodIn wsL_law (va_wsS RL 195 yL_wheelFor wsL_wheelFor) := goodIn_app (goodIn_of _ (by decide +kernel)) ggL_law_L_wheelFor
set_option maxRecDepth 20000 in
theorem ggL_law_X8_wheelFor : GoodIn wsL_law wsX8_wheelFor := goodIn_r _ [896, 103, 764, 77, 106, 107, 5, 108, 109, 110, 111, 112, 390, 391, 392, 1039, 1040, 1041, 1042, 1043, 1044, 1045, 1046, 1047, 1048, 1049, 1050, 1051, 1052, 1053, 1054, 1055] (by decide +kernel) (by decide +kernel)
set_option maxRecDepth 20000 in
theorem gL_law_X8_wheelFor : GoodIn wsL_law (wsV RL 197 RX8 yX8_wheelFor wsX8_wheelFor) := goodIn_app (goodIn_of _ (by decide +kernel)) ggL_law_X8_wheelFor
set_option maxRecDepth 20000 in
theorem ggL_law_L_runScript : GoodIn wsL_law wsL_runScript := goodIn_ca (goodIn_r _ [899, 88, 900, 901, 902, 2, 903, 94, 95, 20, 19, 904, 905, 906, 907, 31, 908, 909, 910, 235, 236, 237, 18, 238, 36, 163, 239, 240, 241, 242, 164, 243, 160, 161, 162, 184, 185, 186, 187, 38, 244, 180, 181, 182, 183, 171, 172, 173, 188, 189, 190, 40, 191, 48, 192, 193, 194, 245, 246, 247, 248, 42, 249, 250, 251, 252, 43, 253, 200, 201, 202, 203, 204, 205, 206, 561, 299, 300, 911, 912, 913, 914, 12, 13, 915, 916, 917, 918, 919, 920, 921, 922, 923, 924, 925, 926, 927, 928, 929, 930, 931, 932, 933, 778, 779, 780, 741, 742, 744, 745, 747, 748, 711, 504, 505, 506, 934, 782, 783, 784, 935, 936, 937, 938, 939, 797, 798, 799, 800, 663, 664, 665, 666, 940, 941, 942, 943, 696, 697, 944, 708, 709, 710, 945, 946, 947, 948, 949, 950, 951, 952, 953, 954, 955, 956, 620, 621, 30, 622, 63, 64, 283, 284, 285, 62, 286, 71, 288, 289, 290, 291, 292, 293, 294, 295, 296, 297, 298, 301, 302, 303, 304, 305, 306, 307, 308, 309, 310, 311, 312, 313, 314, 315, 316, 317, 318, 623, 624, 625, 626, 323, 324, 325, 326, 327, 328, 329, 957, 958, 959, 960, 961, 366, 367, 368, 962, 963, 964, 965, 966, 658, 659, 660, 66, 661, 662, 667, 668, 669, 670, 671, 672, 673, 674, 675, 967, 354, 355, 356, 357, 358, 359, 360, 361, 362, 363, 364, 365, 341, 968, 969, 970, 971, 972, 1031, 1032, 1033, 1034, 1035, 1036, 1037, 1038, 1076, 1077, 1078, 1079, 1080, 1056, 1057, 1058, 1059, 1060, 1061, 1068, 1069, 1070, 1071, 1065, 1066, 1067, 1072] (by decide +kernel) (by decide +kernel)) (goodIn_sub (fun _ h => List.mem_append_left _ (List.mem_append_left _ (List.mem_append_right _ h))) (by decide +kernel))
set_option maxRecDepth 20000 in
theorem gL_law_L_runScript : GoodIn wsL_law (va_wsS RL 198 yL_runScript wsL_runScript) := goodIn_app (goodIn_of _ (by decide +kernel)) ggL_law_L_runScript
set_option maxRecDepth 20000 in
theorem ggL_law_X8_runScript : GoodIn wsL_law wsX8_runScript := goodIn_r _ [976, 103, 977, 978, 979, 980, 82, 106, 107, 5, 108, 109, 110, 111, 112, 725, 726, 727, 728, 264, 77, 981, 982, 983, 984, 467, 468, 469, 470, 759, 760, 761, 762, 763, 764, 765, 516, 517, 518, 519, 805, 806, 807, 808, 716, 717, 718, 719, 720, 729, 730, 731, 732, 397, 398, 399, 400, 755, 756, 757, 758, 766, 767, 768, 769, 631, 632, 633, 634, 377, 479, 480, 481, 482, 378, 379, 380, 381, 78, 382, 383, 384, 385, 386, 387, 388, 389, 390, 391, 392, 393, 394, 395, 396, 401, 402, 403, 404, 405, 406, 407, 471, 472, 473, 474, 680, 681, 682, 683, 684, 685, 686, 687, 424, 425, 426, 427, 428, 429, 430, 431, 432, 433, 434, 435, 475, 476, 477, 478, 845, 846, 847, 848, 1039, 1040, 1041, 1042, 1043, 1044, 1045, 1046, 1047, 1048, 1049, 1050, 1051, 1052, 1053, 1054, 1055] (by decide +kernel) (by decide +kernel)
set_option maxRecDepth 20000 in
theorem gL_law_X8_runScript : GoodIn wsL_law (wsV RL 200 RX8 yX8_runScript wsX8_runScript) := goodIn_app (goodIn_of _ (by decide +kernel)) ggL_law_X8_runScript
set_option maxRecDepth 20000 in
theorem ggL_law_L_simulate : GoodIn wsL_law wsL_simulate := goodIn_ca (goodIn_r _ [987, 88, 988, 989, 990, 2, 991, 94, 95, 31, 871, 992, 993, 994, 19, 275, 995, 351, 307, 352, 996, 284, 285, 62, 286, 71, 872, 189, 190, 40, 191, 48, 192, 193, 194, 491, 302, 303, 304, 305, 306, 308, 309, 310, 299, 300, 490, 312, 313, 314, 997, 316, 317, 318, 319, 320, 321, 322, 323, 324, 325, 326, 327, 328, 329, 1031, 1032, 1033, 1034, 1035, 1036, 1037, 1038, 1065, 1066, 1067, 1056, 1057, 1058, 1059, 1060, 1061, 1072, 1068, 1069, 1070, 1071] (by decide +kernel) (by decide +kernel)) (goodIn_sub (fun _ h => List.mem_append_left _ (List.mem_append_left _ (List.mem_append_right _ h))) (by decide +kernel))
set_option maxRecDepth 20000 in
theorem gL_law_L_simulate : GoodIn wsL_law (va_wsS RL 201 yL_simulate wsL_simulate) := goodIn_app (goodIn_of _ (by decide +kernel)) ggL_law_L_simulate
set_option maxRecDepth 20000 in
theorem ggL_law_X8_simulate : GoodIn wsL_law wsX8_simulate := goodIn_r _ [1001, 103, 1002, 377, 1003, 1004, 77, 78, 106, 107, 5, 108, 109, 110, 111, 112, 405, 406, 407, 1039, 1040, 1041, 1042, 1043, 1044, 1045, 1046, 1047, 1048, 1049, 1050, 1051, 1052, 1053, 1054, 1055] (by decide +kernel) (by decide +kernel)
set_option maxRecDepth 20000 in
theorem gL_law_X8_simulate : GoodIn wsL_law (wsV RL 204 RX8 yX8_simulate wsX8_simulate) := goodIn_app (goodIn_of _ (by decide +kernel)) ggL_law_X8_simulate
set_option maxRecDepth 20000 in
theorem ggL_law_L_save : GoodIn wsL_law wsL_save := goodIn_ca (goodIn_r _ [1007, 439, 1008, 1009, 1010, 2, 1011, 444, 445, 27, 19, 234, 1012, 1013, 1014, 1015, 25, 235, 236, 237, 18, 238, 36, 163, 239, 240, 241, 242, 164, 243, 160, 161, 162, 184, 185, 186, 187, 38, 244, 180, 181, 182, 183, 171, 172, 173, 188, 189, 190, 40, 191, 48, 192, 193, 194, 245, 246, 247, 248, 42, 249, 250, 251, 252, 43, 253, 200, 201, 202, 203, 204, 205, 206, 1031, 1032, 1033, 1034, 1035, 1036, 1037, 1038, 1056, 1057, 1058, 1059, 1060, 1061, 1068, 1069, 1070, 1071] (by decide +kernel) (by decide +kernel)) (goodIn_sub (fun _ h => List.mem_append_right _ h) (by decide +kernel))
set_option maxRecDepth 20000 in
theorem gL_law_L_save : GoodIn wsL_law (va_wsS RL 205 yL_save wsL_save) := goodIn_app (goodIn_of _ (by decide +kernel)) ggL_law_L_save
set_option maxRecDepth 20000 in
theorem ggL_law_X8_save : GoodIn wsL_law wsX8_save := goodIn_r _ [1019, 103, 83, 266, 267, 264, 106, 107, 5, 108, 109, 110, 111, 112, 725, 726, 727, 728, 77, 1039, 1040, 1041, 1042, 1043, 1044, 1045, 1046, 1047, 1048, 1049, 1050, 1051, 1052, 1053, 1054, 1055] (by decide +kernel) (by decide +kernel)
set_option maxRecDepth 20000 in
theorem gL_law_X8_save : GoodIn wsL_law (wsV RL 207 RX8 yX8_save wsX8_save) := goodIn_app (goodIn_of _ (by decide +kernel)) ggL_law_X8_save
set_option maxRecDepth 20000 in
theorem ggL_law_L_restore : GoodIn wsL_law wsL_restore := goodIn_ca (goodIn_ca (goodIn_r _ [1022, 439, 89, 1023, 1024, 1025, 2, 1026, 444, 445, 96, 97, 27, 19, 24, 234, 1012, 1013, 1014, 1015, 25, 235, 236, 237, 18, 238, 36, 163, 239, 240, 241, 242, 164, 243, 160, 161, 162, 184, 185, 186, 187, 38, 244, 180, 181, 182, 183, 171, 172, 173, 188, 189, 190, 40, 191, 48, 192, 193, 194, 245, 246, 247, 248, 42, 249, 250, 251, 252, 43, 253, 200, 201, 202, 203, 204, 205, 206, 254, 255, 256, 23, 257, 258, 259, 1031, 1032, 1033, 1034, 1035, 1036, 1037, 1038, 1056, 1057, 1058, 1059, 1060, 1061, 1068, 1069, 1070, 1071, 1062, 1063, 1064] (by decide +kernel) (by decide +kernel)) (goodIn_sub (fun _ h => List.mem_append_right _ h) (by decide +kernel))) (goodIn_sub (fun _ h => List.mem_append_left _ (List.mem_append_right _ h)) (by decide +kernel))
set_option maxRecDepth 20000 in
theorem gL_law_L_restore : GoodIn wsL_law (va_wsS RL 208 yL_restore wsL_restore) := goodIn_app (goodIn_of _ (by decide +kernel)) ggL_law_L_restore
set_option maxRecDepth 20000 in
theorem ggL_law_X8_restore : GoodIn wsL_law wsX8_restore := goodIn_r _ [1030, 103, 266, 267, 83, 265, 264, 106, 107, 5, 108, 109, 110, 111, 112, 845, 846, 847, 848, 77, 1039, 1040, 1041, 1042, 1043, 1044, 1045, 1046, 1047, 1048, 1049, 1050, 1051, 1052, 1053, 1054, 1055] (by decide +kernel) (by decide +kernel)
set_option maxRecDepth 20000 in
theorem gL_law_X8_restore : GoodIn wsL_law (wsV RL 210 RX8 yX8_restore wsX8_restore) := goodIn_app (goodIn_of _ (by decide +kernel)) ggL_law_X8_restore
theorem dL_law_0 : decode cL_law 0 = .ok (.new 8, 3) := by decide +kernel
theorem dL_law_3 : decode cL_law 3 = .ok (.dup, 1) := by decide +kernel
theorem dL_law_4 : decode cL_law 4 = .ok (.invokespecial 97, 3) := by decide +kernel
theorem dL_law_7 : decode cL_law 7 = .ok (.astore_n 1, 1) := by decide +kernel
theorem dL_law_8 : decode cL_law 8 = .ok (.new 98, 3) := by decide +kernel
theorem dL_law_11 : decode cL_law 11 = .ok (.dup, 1) := by decide +kernel
theorem dL_law_12 : decode cL_law 12 = .ok (.invokespecial 100, 3) := by decide +kernel
theorem dL_law_15 : decode cL_law 15 = .ok (.astore_n 2, 1) := by decide +kernel
theorem dL_law_16 : decode cL_law 16 = .ok (.iconst 1, 1) := by decide +kernel
theorem dL_law_17 : decode cL_law 17 = .ok (.newarray .long, 2) := by decide +kernel
theorem dL_law_19 : decode cL_law 19 = .ok (.astore_n 3, 1) := by decide +kernel
theorem dL_law_20 : decode cL_law 20 = .ok (.iconst 0, 1) := by decide +kernel
theorem dL_law_21 : decode cL_law 21 = .ok (.istore 4, 2) := by decide +kernel
theorem dL_law_23 : decode cL_law 23 = .ok (.iload 4, 2) := by decide +kernel
theorem dL_law_25 : decode cL_law 25 = .ok (.aload_n 0, 1) := by decide +kernel
theorem dL_law_26 : decode cL_law 26 = .ok (.arraylength, 1) := by decide +kernel
theorem dL_law_27 : decode cL_law 27 = .ok (.iconst 5, 1) := by decide +kernel
theorem dL_law_28 : decode cL_law 28 = .ok (.isub, 1) := by decide +kernel
theorem dL_law_29 : decode cL_law 29 = .ok (.if_icmp .gt 1927, 3) := by decide +kernel
theorem dL_law_32 : decode cL_law 32 = .ok (.aload_n 0, 1) := by decide +kernel
theorem dL_law_33 : decode cL_law 33 = .ok (.iload 4, 2) := by decide +kernel
theorem dL_law_35 : decode cL_law 35 = .ok (.iaload, 1) := by decide +kernel
theorem dL_law_36 : decode cL_law 36 = .ok (.bipush 31, 2) := by decide +kernel
theorem dL_law_38 : decode cL_law 38 = .ok (.iand, 1) := by decide +kernel
theorem dL_law_39 : decode cL_law 39 = .ok (.tableswitch 1911 0 29 #[133, 189, 202, 215, 259, 315, 383, 483, 563, 619, 632, 646, 702, 770, 838, 906, 974, 1030, 1122, 1202, 1258, 1326, 1339, 1383, 1451, 1543, 1599, 1699, 1799, 1855], 133) := by decide +kernel
theorem dL_law_172 : decode cL_law 172 = .ok (.aload_n 1, 1) := by decide +kernel
theorem dL_law_173 : decode cL_law 173 = .ok (.aload_n 0, 1) := by decide +kernel
theorem dL_law_174 : decode cL_law 174 = .ok (.iload 4, 2) := by decide +kernel
theorem dL_law_176 : decode cL_law 176 = .ok (.iconst 1, 1) := by decide +kernel
theorem dL_law_177 : decode cL_law 177 = .ok (.iadd, 1) := by decide +kernel
theorem dL_law_178 : decode cL_law 178 = .ok (.iaload, 1) := by decide +kernel
theorem dL_law_179 : decode cL_law 179 = .ok (.aload_n 3, 1) := by decide +kernel
theorem dL_law_180 : decode cL_law 180 = .ok (.invokestatic 101, 3) := by decide +kernel
theorem dL_law_183 : decode cL_law 183 = .ok (.istore 5, 2) := by decide +kernel
theorem dL_law_185 : decode cL_law 185 = .ok (.aload_n 2, 1) := by decide +kernel
theorem dL_law_186 : decode cL_law 186 = .ok (.aload_n 0, 1) := by decide +kernel
theorem dL_law_187 : decode cL_law 187 = .ok (.iload 4, 2) := by decide +kernel
theorem dL_law_189 : decode cL_law 189 = .ok (.iconst 1, 1) := by decide +kernel
theorem dL_law_190 : decode cL_law 190 = .ok (.iadd, 1) := by decide +kernel
theorem dL_law_191 : decode cL_law 191 = .ok (.iaload, 1) := by decide +kernel
theorem dL_law_192 : decode cL_law 192 = .ok (.invokevirtual 106, 3) := by decide +kernel
theorem dL_law_195 : decode cL_law 195 = .ok (.istore 6, 2) := by decide +kernel
theorem dL_law_197 : decode cL_law 197 = .ok (.aload_n 2, 1) := by decide +kernel
theorem dL_law_198 : decode cL_law 198 = .ok (.invokevirtual 107, 3) := by decide +kernel
theorem dL_law_201 : decode cL_law 201 = .ok (.iload 5, 2) := by decide +kernel
theorem dL_law_203 : decode cL_law 203 = .ok (.if_icmp .eq 5, 3) := by decide +kernel
theorem dL_law_206 : decode cL_law 206 = .ok (.iconst 0, 1) := by decide +kernel
theorem dL_law_207 : decode cL_law 207 = .ok (.ireturn, 1) := by decide +kernel
theorem dL_law_208 : decode cL_law 208 = .ok (.iload 5, 2) := by decide +kernel
theorem dL_law_210 : decode cL_law 210 = .ok (.ifCond .ne 15, 3) := by decide +kernel
theorem dL_law_213 : decode cL_law 213 = .ok (.aload_n 3, 1) := by decide +kernel
theorem dL_law_214 : decode cL_law 214 = .ok (.iconst 0, 1) := by decide +kernel
theorem dL_law_215 : decode cL_law 215 = .ok (.laload, 1) := by decide +kernel
theorem dL_law_216 : decode cL_law 216 = .ok (.iload 6, 2) := by decide +kernel
theorem dL_law_218 : decode cL_law 218 = .ok (.i2l, 1) := by decide +kernel
theorem dL_law_219 : decode cL_law 219 = .ok (.lcmp, 1) := by decide +kernel
theorem dL_law_220 : decode cL_law 220 = .ok (.ifCond .eq 5, 3) := by decide +kernel
theorem dL_law_223 : decode cL_law 223 = .ok (.iconst 0, 1) := by decide +kernel
theorem dL_law_224 : decode cL_law 224 = .ok (.ireturn, 1) := by decide +kernel
theorem dL_law_225 : decode cL_law 225 = .ok (.goto 1725, 3) := by decide +kernel
theorem dL_law_228 : decode cL_law 228 = .ok (.aload_n 1, 1) := by decide +kernel
theorem dL_law_229 : decode cL_law 229 = .ok (.invokevirtual 110, 3) := by decide +kernel
theorem dL_law_232 : decode cL_law 232 = .ok (.aload_n 2, 1) := by decide +kernel
theorem dL_law_233 : decode cL_law 233 = .ok (.invokevirtual 113, 3) := by decide +kernel
theorem dL_law_236 : decode cL_law 236 = .ok (.if_icmp .eq 1714, 3) := by decide +kernel
theorem dL_law_239 : decode cL_law 239 = .ok (.iconst 0, 1) := by decide +kernel
theorem dL_law_240 : decode cL_law 240 = .ok (.ireturn, 1) := by decide +kernel
theorem dL_law_241 : decode cL_law 241 = .ok (.aload_n 1, 1) := by decide +kernel
theorem dL_law_242 : decode cL_law 242 = .ok (.invokevirtual 114, 3) := by decide +kernel
theorem dL_law_245 : decode cL_law 245 = .ok (.aload_n 2, 1) := by decide +kernel
theorem dL_law_246 : decode cL_law 246 = .ok (.invokevirtual 117, 3) := by decide +kernel
theorem dL_law_249 : decode cL_law 249 = .ok (.if_icmp .eq 1701, 3) := by decide +kernel
theorem dL_law_252 : decode cL_law 252 = .ok (.iconst 0, 1) := by decide +kernel
theorem dL_law_253 : decode cL_law 253 = .ok (.ireturn, 1) := by decide +kernel
theorem dL_law_254 : decode cL_law 254 = .ok (.aload_n 1, 1) := by decide +kernel
theorem dL_law_255 : decode cL_law 255 = .ok (.aload_n 3, 1) := by decide +kernel
theorem dL_law_256 : decode cL_law 256 = .ok (.invokestatic 118, 3) := by decide +kernel
theorem dL_law_259 : decode cL_law 259 = .ok (.istore 5, 2) := by decide +kernel
theorem dL_law_261 : decode cL_law 261 = .ok (.aload_n 2, 1) := by decide +kernel
theorem dL_law_262 : decode cL_law 262 = .ok (.invokevirtual 121, 3) := by decide +kernel
theorem dL_law_265 : decode cL_law 265 = .ok (.istore 6, 2) := by decide +kernel
theorem dL_law_267 : decode cL_law 267 = .ok (.aload_n 2, 1) := by decide +kernel
theorem dL_law_268 : decode cL_law 268 = .ok (.invokevirtual 107, 3) := by decide +kernel
theorem dL_law_271 : decode cL_law 271 = .ok (.iload 5, 2) := by decide +kernel
theorem dL_law_273 : decode cL_law 273 = .ok (.if_icmp .eq 5, 3) := by decide +kernel
theorem dL_law_276 : decode cL_law 276 = .ok (.iconst 0, 1) := by decide +kernel
theorem dL_law_277 : decode cL_law 277 = .ok (.ireturn, 1) := by decide +kernel
theorem dL_law_278 : decode cL_law 278 = .ok (.iload 5, 2) := by decide +kernel
theorem dL_law_280 : decode cL_law 280 = .ok (.ifCond .ne 15, 3) := by decide +kernel
theorem dL_law_283 : decode cL_law 283 = .ok (.aload_n 3, 1) := by decide +kernel
theorem dL_law_284 : decode cL_law 284 = .ok (.iconst 0, 1) := by decide +kernel
theorem dL_law_285 : decode cL_law 285 = .ok (.laload, 1) := by decide +kernel
theorem dL_law_286 : decode cL_law 286 = .ok (.iload 6, 2) := by decide +kernel
theorem dL_law_288 : decode cL_law 288 = .ok (.i2l, 1) := by decide +kernel
theorem dL_law_289 : decode cL_law 289 = .ok (.lcmp, 1) := by decide +kernel
theorem dL_law_290 : decode cL_law 290 = .ok (.ifCond .eq 5, 3) := by decide +kernel
theorem dL_law_293 : decode cL_law 293 = .ok (.iconst 0, 1) := by decide +kernel
theorem dL_law_294 : decode cL_law 294 = .ok (.ireturn, 1) := by decide +kernel
theorem dL_law_295 : decode cL_law 295 = .ok (.goto 1655, 3) := by decide +kernel
theorem dL_law_298 : decode cL_law 298 = .ok (.aload_n 1, 1) := by decide +kernel
theorem dL_law_299 : decode cL_law 299 = .ok (.aload_n 0, 1) := by decide +kernel
theorem dL_law_300 : decode cL_law 300 = .ok (.iload 4, 2) := by decide +kernel
theorem dL_law_302 : decode cL_law 302 = .ok (.iconst 1, 1) := by decide +kernel
theorem dL_law_303 : decode cL_law 303 = .ok (.iadd, 1) := by decide +kernel
theorem dL_law_304 : decode cL_law 304 = .ok (.iaload, 1) := by decide +kernel
theorem dL_law_305 : decode cL_law 305 = .ok (.aload_n 3, 1) := by decide +kernel
theorem dL_law_306 : decode cL_law 306 = .ok (.invokestatic 122, 3) := by decide +kernel
theorem dL_law_309 : decode cL_law 309 = .ok (.istore 5, 2) := by decide +kernel
theorem dL_law_311 : decode cL_law 311 = .ok (.aload_n 2, 1) := by decide +kernel
theorem dL_law_312 : decode cL_law 312 = .ok (.aload_n 0, 1) := by decide +kernel
theorem dL_law_313 : decode cL_law 313 = .ok (.iload 4, 2) := by decide +kernel
theorem dL_law_315 : decode cL_law 315 = .ok (.iconst 1, 1) := by decide +kernel
theorem dL_law_316 : decode cL_law 316 = .ok (.iadd, 1) := by decide +kernel
theorem dL_law_317 : decode cL_law 317 = .ok (.iaload, 1) := by decide +kernel
theorem dL_law_318 : decode cL_law 318 = .ok (.invokevirtual 124, 3) := by decide +kernel
theorem dL_law_321 : decode cL_law 321 = .ok (.istore 6, 2) := by decide +kernel
theorem dL_law_323 : decode cL_law 323 = .ok (.aload_n 2, 1) := by decide +kernel
theorem dL_law_324 : decode cL_law 324 = .ok (.invokevirtual 107, 3) := by decide +kernel
theorem dL_law_327 : decode cL_law 327 = .ok (.iload 5, 2) := by decide +kernel
theorem dL_law_329 : decode cL_law 329 = .ok (.if_icmp .eq 5, 3) := by decide +kernel
theorem dL_law_332 : decode cL_law 332 = .ok (.iconst 0, 1) := by decide +kernel
theorem dL_law_333 : decode cL_law 333 = .ok (.ireturn, 1) := by decide +kernel
theorem dL_law_334 : decode cL_law 334 = .ok (.iload 5, 2) := by decide +kernel
theorem dL_law_336 : decode cL_law 336 = .ok (.ifCond .ne 15, 3) := by decide +kernel
theorem dL_law_339 : decode cL_law 339 = .ok (.aload_n 3, 1) := by decide +kernel
theorem dL_law_340 : decode cL_law 340 = .ok (.iconst 0, 1) := by decide +kernel
theorem dL_law_341 : decode cL_law 341 = .ok (.laload, 1) := by decide +kernel
theorem dL_law_342 : decode cL_law 342 = .ok (.iload 6, 2) := by decide +kernel
theorem dL_law_344 : decode cL_law 344 = .ok (.i2l, 1) := by decide +kernel
theorem dL_law_345 : decode cL_law 345 = .ok (.lcmp, 1) := by decide +kernel
theorem dL_law_346 : decode cL_law 346 = .ok (.ifCond .eq 5, 3) := by decide +kernel
theorem dL_law_349 : decode cL_law 349 = .ok (.iconst 0, 1) := by decide +kernel
theorem dL_law_350 : decode cL_law 350 = .ok (.ireturn, 1) := by decide +kernel
theorem dL_law_351 : decode cL_law 351 = .ok (.goto 1599, 3) := by decide +kernel
theorem dL_law_354 : decode cL_law 354 = .ok (.aload_n 1, 1) := by decide +kernel
theorem dL_law_355 : decode cL_law 355 = .ok (.aload_n 0, 1) := by decide +kernel
theorem dL_law_356 : decode cL_law 356 = .ok (.iload 4, 2) := by decide +kernel
theorem dL_law_358 : decode cL_law 358 = .ok (.iconst 1, 1) := by decide +kernel
theorem dL_law_359 : decode cL_law 359 = .ok (.iadd, 1) := by decide +kernel
theorem dL_law_360 : decode cL_law 360 = .ok (.iaload, 1) := by decide +kernel
theorem dL_law_361 : decode cL_law 361 = .ok (.aload_n 0, 1) := by decide +kernel
theorem dL_law_362 : decode cL_law 362 = .ok (.iload 4, 2) := by decide +kernel
theorem dL_law_364 : decode cL_law 364 = .ok (.iconst 2, 1) := by decide +kernel
theorem dL_law_365 : decode cL_law 365 = .ok (.iadd, 1) := by decide +kernel
theorem dL_law_366 : decode cL_law 366 = .ok (.iaload, 1) := by decide +kernel
theorem dL_law_367 : decode cL_law 367 = .ok (.aload_n 3, 1) := by decide +kernel
theorem dL_law_368 : decode cL_law 368 = .ok (.invokestatic 125, 3) := by decide +kernel
theorem dL_law_371 : decode cL_law 371 = .ok (.istore 5, 2) := by decide +kernel
theorem dL_law_373 : decode cL_law 373 = .ok (.aload_n 2, 1) := by decide +kernel
theorem dL_law_374 : decode cL_law 374 = .ok (.aload_n 0, 1) := by decide +kernel
theorem dL_law_375 : decode cL_law 375 = .ok (.iload 4, 2) := by decide +kernel
theorem dL_law_377 : decode cL_law 377 = .ok (.iconst 1, 1) := by decide +kernel
theorem dL_law_378 : decode cL_law 378 = .ok (.iadd, 1) := by decide +kernel
theorem dL_law_379 : decode cL_law 379 = .ok (.iaload, 1) := by decide +kernel
theorem dL_law_380 : decode cL_law 380 = .ok (.aload_n 0, 1) := by decide +kernel
theorem dL_law_381 : decode cL_law 381 = .ok (.iload 4, 2) := by decide +kernel
theorem dL_law_383 : decode cL_law 383 = .ok (.iconst 2, 1) := by decide +kernel
theorem dL_law_384 : decode cL_law 384 = .ok (.iadd, 1) := by decide +kernel
theorem dL_law_385 : decode cL_law 385 = .ok (.iaload, 1) := by decide +kernel
theorem dL_law_386 : decode cL_law 386 = .ok (.invokevirtual 128, 3) := by decide +kernel
theorem dL_law_389 : decode cL_law 389 = .ok (.istore 6, 2) := by decide +kernel
theorem dL_law_391 : decode cL_law 391 = .ok (.aload_n 2, 1) := by decide +kernel
theorem dL_law_392 : decode cL_law 392 = .ok (.invokevirtual 107, 3) := by decide +kernel
theorem dL_law_395 : decode cL_law 395 = .ok (.iload 5, 2) := by decide +kernel
theorem dL_law_397 : decode cL_law 397 = .ok (.if_icmp .eq 5, 3) := by decide +kernel
theorem dL_law_400 : decode cL_law 400 = .ok (.iconst 0, 1) := by decide +kernel
theorem dL_law_401 : decode cL_law 401 = .ok (.ireturn, 1) := by decide +kernel
theorem dL_law_402 : decode cL_law 402 = .ok (.iload 5, 2) := by decide +kernel
theorem dL_law_404 : decode cL_law 404 = .ok (.ifCond .ne 15, 3) := by decide +kernel
theorem dL_law_407 : decode cL_law 407 = .ok (.aload_n 3, 1) := by decide +kernel
theorem dL_law_408 : decode cL_law 408 = .ok (.iconst 0, 1) := by decide +kernel
theorem dL_law_409 : decode cL_law 409 = .ok (.laload, 1) := by decide +kernel
theorem dL_law_410 : decode cL_law 410 = .ok (.iload 6, 2) := by decide +kernel
theorem dL_law_412 : decode cL_law 412 = .ok (.i2l, 1) := by decide +kernel
theorem dL_law_413 : decode cL_law 413 = .ok (.lcmp, 1) := by decide +kernel
theorem dL_law_414 : decode cL_law 414 = .ok (.ifCond .eq 5, 3) := by decide +kernel
theorem dL_law_417 : decode cL_law 417 = .ok (.iconst 0, 1) := by decide +kernel
theorem dL_law_418 : decode cL_law 418 = .ok (.ireturn, 1) := by decide +kernel
theorem dL_law_419 : decode cL_law 419 = .ok (.goto 1531, 3) := by decide +kernel
theorem dL_law_422 : decode cL_law 422 = .ok (.aload_n 1, 1) := by decide +kernel
theorem dL_law_423 : decode cL_law 423 = .ok (.aload_n 0, 1) := by decide +kernel
theorem dL_law_424 : decode cL_law 424 = .ok (.iload 4, 2) := by decide +kernel
theorem dL_law_426 : decode cL_law 426 = .ok (.iconst 1, 1) := by decide +kernel
theorem dL_law_427 : decode cL_law 427 = .ok (.iadd, 1) := by decide +kernel
theorem dL_law_428 : decode cL_law 428 = .ok (.iaload, 1) := by decide +kernel
theorem dL_law_429 : decode cL_law 429 = .ok (.aload_n 0, 1) := by decide +kernel
theorem dL_law_430 : decode cL_law 430 = .ok (.iload 4, 2) := by decide +kernel
theorem dL_law_432 : decode cL_law 432 = .ok (.iconst 2, 1) := by decide +kernel
theorem dL_law_433 : decode cL_law 433 = .ok (.iadd, 1) := by decide +kernel
theorem dL_law_434 : decode cL_law 434 = .ok (.iaload, 1) := by decide +kernel
theorem dL_law_435 : decode cL_law 435 = .ok (.i2l, 1) := by decide +kernel
theorem dL_law_436 : decode cL_law 436 = .ok (.bipush 32, 2) := by decide +kernel
theorem dL_law_438 : decode cL_law 438 = .ok (.lshl, 1) := by decide +kernel
theorem dL_law_439 : decode cL_law 439 = .ok (.aload_n 0, 1) := by decide +kernel
theorem dL_law_440 : decode cL_law 440 = .ok (.iload 4, 2) := by decide +kernel
theorem dL_law_442 : decode cL_law 442 = .ok (.iconst 3, 1) := by decide +kernel
theorem dL_law_443 : decode cL_law 443 = .ok (.iadd, 1) := by decide +kernel
theorem dL_law_444 : decode cL_law 444 = .ok (.iaload, 1) := by decide +kernel
theorem dL_law_445 : decode cL_law 445 = .ok (.i2l, 1) := by decide +kernel
theorem dL_law_446 : decode cL_law 446 = .ok (.ldc2_w 129, 3) := by decide +kernel
theorem dL_law_449 : decode cL_law 449 = .ok (.land, 1) := by decide +kernel
theorem dL_law_450 : decode cL_law 450 = .ok (.lor, 1) := by decide +kernel
theorem dL_law_451 : decode cL_law 451 = .ok (.aload_n 3, 1) := by decide +kernel
theorem dL_law_452 : decode cL_law 452 = .ok (.invokestatic 131, 3) := by decide +kernel
theorem dL_law_455 : decode cL_law 455 = .ok (.istore 5, 2) := by decide +kernel
theorem dL_law_457 : decode cL_law 457 = .ok (.aload_n 2, 1) := by decide +kernel
theorem dL_law_458 : decode cL_law 458 = .ok (.aload_n 0, 1) := by decide +kernel
theorem dL_law_459 : decode cL_law 459 = .ok (.iload 4, 2) := by decide +kernel
theorem dL_law_461 : decode cL_law 461 = .ok (.iconst 1, 1) := by decide +kernel
theorem dL_law_462 : decode cL_law 462 = .ok (.iadd, 1) := by decide +kernel
theorem dL_law_463 : decode cL_law 463 = .ok (.iaload, 1) := by decide +kernel
theorem dL_law_464 : decode cL_law 464 = .ok (.aload_n 0, 1) := by decide +kernel
theorem dL_law_465 : decode cL_law 465 = .ok (.iload 4, 2) := by decide +kernel
theorem dL_law_467 : decode cL_law 467 = .ok (.iconst 2, 1) := by decide +kernel
theorem dL_law_468 : decode cL_law 468 = .ok (.iadd, 1) := by decide +kernel
theorem dL_law_469 : decode cL_law 469 = .ok (.iaload, 1) := by decide +kernel
theorem dL_law_470 : decode cL_law 470 = .ok (.i2l, 1) := by decide +kernel
theorem dL_law_471 : decode cL_law 471 = .ok (.bipush 32, 2) := by decide +kernel
theorem dL_law_473 : decode cL_law 473 = .ok (.lshl, 1) := by decide +kernel
theorem dL_law_474 : decode cL_law 474 = .ok (.aload_n 0, 1) := by decide +kernel
theorem dL_law_475 : decode cL_law 475 = .ok (.iload 4, 2) := by decide +kernel
theorem dL_law_477 : decode cL_law 477 = .ok (.iconst 3, 1) := by decide +kernel
theorem dL_law_478 : decode cL_law 478 = .ok (.iadd, 1) := by decide +kernel
theorem dL_law_479 : decode cL_law 479 = .ok (.iaload, 1) := by decide +kernel
theorem dL_law_480 : decode cL_law 480 = .ok (.i2l, 1) := by decide +kernel
theorem dL_law_481 : decode cL_law 481 = .ok (.ldc2_w 129, 3) := by decide +kernel
theorem dL_law_484 : decode cL_law 484 = .ok (.land, 1) := by decide +kernel
theorem dL_law_485 : decode cL_law 485 = .ok (.lor, 1) := by decide +kernel
theorem dL_law_486 : decode cL_law 486 = .ok (.invokevirtual 134, 3) := by decide +kernel
theorem dL_law_489 : decode cL_law 489 = .ok (.istore 6, 2) := by decide +kernel
theorem dL_law_491 : decode cL_law 491 = .ok (.aload_n 2, 1) := by decide +kernel
theorem dL_law_492 : decode cL_law 492 = .ok (.invokevirtual 107, 3) := by decide +kernel
theorem dL_law_495 : decode cL_law 495 = .ok (.iload 5, 2) := by decide +kernel
theorem dL_law_497 : decode cL_law 497 = .ok (.if_icmp .eq 5, 3) := by decide +kernel
theorem dL_law_500 : decode cL_law 500 = .ok (.iconst 0, 1) := by decide +kernel
theorem dL_law_501 : decode cL_law 501 = .ok (.ireturn, 1) := by decide +kernel
theorem dL_law_502 : decode cL_law 502 = .ok (.iload 5, 2) := by decide +kernel
theorem dL_law_504 : decode cL_law 504 = .ok (.ifCond .ne 15, 3) := by decide +kernel
theorem dL_law_507 : decode cL_law 507 = .ok (.aload_n 3, 1) := by decide +kernel
theorem dL_law_508 : decode cL_law 508 = .ok (.iconst 0, 1) := by decide +kernel
theorem dL_law_509 : decode cL_law 509 = .ok (.laload, 1) := by decide +kernel
theorem dL_law_510 : decode cL_law 510 = .ok (.iload 6, 2) := by decide +kernel
theorem dL_law_512 : decode cL_law 512 = .ok (.i2l, 1) := by decide +kernel
theorem dL_law_513 : decode cL_law 513 = .ok (.lcmp, 1) := by decide +kernel
theorem dL_law_514 : decode cL_law 514 = .ok (.ifCond .eq 5, 3) := by decide +kernel
theorem dL_law_517 : decode cL_law 517 = .ok (.iconst 0, 1) := by decide +kernel
theorem dL_law_518 : decode cL_law 518 = .ok (.ireturn, 1) := by decide +kernel
theorem dL_law_519 : decode cL_law 519 = .ok (.goto 1431, 3) := by decide +kernel
theorem dL_law_522 : decode cL_law 522 = .ok (.aload_n 1, 1) := by decide +kernel
theorem dL_law_523 : decode cL_law 523 = .ok (.aload_n 0, 1) := by decide +kernel
theorem dL_law_524 : decode cL_law 524 = .ok (.iload 4, 2) := by decide +kernel
theorem dL_law_526 : decode cL_law 526 = .ok (.iconst 1, 1) := by decide +kernel
theorem dL_law_527 : decode cL_law 527 = .ok (.iadd, 1) := by decide +kernel
theorem dL_law_528 : decode cL_law 528 = .ok (.iaload, 1) := by decide +kernel
theorem dL_law_529 : decode cL_law 529 = .ok (.aload_n 0, 1) := by decide +kernel
theorem dL_law_530 : decode cL_law 530 = .ok (.iload 4, 2) := by decide +kernel
theorem dL_law_532 : decode cL_law 532 = .ok (.iconst 2, 1) := by decide +kernel
theorem dL_law_533 : decode cL_law 533 = .ok (.iadd, 1) := by decide +kernel
theorem dL_law_534 : decode cL_law 534 = .ok (.iaload, 1) := by decide +kernel
theorem dL_law_535 : decode cL_law 535 = .ok (.aload_n 0, 1) := by decide +kernel
theorem dL_law_536 : decode cL_law 536 = .ok (.iload 4, 2) := by decide +kernel
theorem dL_law_538 : decode cL_law 538 = .ok (.iconst 3, 1) := by decide +kernel
theorem dL_law_539 : decode cL_law 539 = .ok (.iadd, 1) := by decide +kernel
theorem dL_law_540 : decode cL_law 540 = .ok (.iaload, 1) := by decide +kernel
theorem dL_law_541 : decode cL_law 541 = .ok (.aload_n 3, 1) := by decide +kernel
theorem dL_law_542 : decode cL_law 542 = .ok (.invokestatic 135, 3) := by decide +kernel
theorem dL_law_545 : decode cL_law 545 = .ok (.istore 5, 2) := by decide +kernel
theorem dL_law_547 : decode cL_law 547 = .ok (.aload_n 2, 1) := by decide +kernel
theorem dL_law_548 : decode cL_law 548 = .ok (.aload_n 0, 1) := by decide +kernel
theorem dL_law_549 : decode cL_law 549 = .ok (.iload 4, 2) := by decide +kernel
theorem dL_law_551 : decode cL_law 551 = .ok (.iconst 1, 1) := by decide +kernel
theorem dL_law_552 : decode cL_law 552 = .ok (.iadd, 1) := by decide +kernel
theorem dL_law_553 : decode cL_law 553 = .ok (.iaload, 1) := by decide +kernel
theorem dL_law_554 : decode cL_law 554 = .ok (.aload_n 0, 1) := by decide +kernel
theorem dL_law_555 : decode cL_law 555 = .ok (.iload 4, 2) := by decide +kernel
theorem dL_law_557 : decode cL_law 557 = .ok (.iconst 2, 1) := by decide +kernel
theorem dL_law_558 : decode cL_law 558 = .ok (.iadd, 1) := by decide +kernel
theorem dL_law_559 : decode cL_law 559 = .ok (.iaload, 1) := by decide +kernel
theorem dL_law_560 : decode cL_law 560 = .ok (.aload_n 0, 1) := by decide +kernel
theorem dL_law_561 : decode cL_law 561 = .ok (.iload 4, 2) := by decide +kernel
theorem dL_law_563 : decode cL_law 563 = .ok (.iconst 3, 1) := by decide +kernel
theorem dL_law_564 : decode cL_law 564 = .ok (.iadd, 1) := by decide +kernel
theorem dL_law_565 : decode cL_law 565 = .ok (.iaload, 1) := by decide +kernel
theorem dL_law_566 : decode cL_law 566 = .ok (.invokevirtual 138, 3) := by decide +kernel
theorem dL_law_569 : decode cL_law 569 = .ok (.istore 6, 2) := by decide +kernel
theorem dL_law_571 : decode cL_law 571 = .ok (.aload_n 2, 1) := by decide +kernel
theorem dL_law_572 : decode cL_law 572 = .ok (.invokevirtual 107, 3) := by decide +kernel
theorem dL_law_575 : decode cL_law 575 = .ok (.iload 5, 2) := by decide +kernel
theorem dL_law_577 : decode cL_law 577 = .ok (.if_icmp .eq 5, 3) := by decide +kernel
theorem dL_law_580 : decode cL_law 580 = .ok (.iconst 0, 1) := by decide +kernel
theorem dL_law_581 : decode cL_law 581 = .ok (.ireturn, 1) := by decide +kernel
theorem dL_law_582 : decode cL_law 582 = .ok (.iload 5, 2) := by decide +kernel
theorem dL_law_584 : decode cL_law 584 = .ok (.ifCond .ne 15, 3) := by decide +kernel
theorem dL_law_587 : decode cL_law 587 = .ok (.aload_n 3, 1) := by decide +kernel
theorem dL_law_588 : decode cL_law 588 = .ok (.iconst 0, 1) := by decide +kernel
theorem dL_law_589 : decode cL_law 589 = .ok (.laload, 1) := by decide +kernel
theorem dL_law_590 : decode cL_law 590 = .ok (.iload 6, 2) := by decide +kernel
theorem dL_law_592 : decode cL_law 592 = .ok (.i2l, 1) := by decide +kernel
theorem dL_law_593 : decode cL_law 593 = .ok (.lcmp, 1) := by decide +kernel
theorem dL_law_594 : decode cL_law 594 = .ok (.ifCond .eq 5, 3) := by decide +kernel
theorem dL_law_597 : decode cL_law 597 = .ok (.iconst 0, 1) := by decide +kernel
theorem dL_law_598 : decode cL_law 598 = .ok (.ireturn, 1) := by decide +kernel
theorem dL_law_599 : decode cL_law 599 = .ok (.goto 1351, 3) := by decide +kernel
theorem dL_law_602 : decode cL_law 602 = .ok (.aload_n 1, 1) := by decide +kernel
theorem dL_law_603 : decode cL_law 603 = .ok (.aload_n 0, 1) := by decide +kernel
theorem dL_law_604 : decode cL_law 604 = .ok (.iload 4, 2) := by decide +kernel
theorem dL_law_606 : decode cL_law 606 = .ok (.iconst 1, 1) := by decide +kernel
theorem dL_law_607 : decode cL_law 607 = .ok (.iadd, 1) := by decide +kernel
theorem dL_law_608 : decode cL_law 608 = .ok (.iaload, 1) := by decide +kernel
theorem dL_law_609 : decode cL_law 609 = .ok (.aload_n 3, 1) := by decide +kernel
theorem dL_law_610 : decode cL_law 610 = .ok (.invokestatic 139, 3) := by decide +kernel
theorem dL_law_613 : decode cL_law 613 = .ok (.istore 5, 2) := by decide +kernel
theorem dL_law_615 : decode cL_law 615 = .ok (.aload_n 2, 1) := by decide +kernel
theorem dL_law_616 : decode cL_law 616 = .ok (.aload_n 0, 1) := by decide +kernel
theorem dL_law_617 : decode cL_law 617 = .ok (.iload 4, 2) := by decide +kernel
theorem dL_law_619 : decode cL_law 619 = .ok (.iconst 1, 1) := by decide +kernel
theorem dL_law_620 : decode cL_law 620 = .ok (.iadd, 1) := by decide +kernel
theorem dL_law_621 : decode cL_law 621 = .ok (.iaload, 1) := by decide +kernel
theorem dL_law_622 : decode cL_law 622 = .ok (.invokevirtual 141, 3) := by decide +kernel
theorem dL_law_625 : decode cL_law 625 = .ok (.istore 6, 2) := by decide +kernel
theorem dL_law_627 : decode cL_law 627 = .ok (.aload_n 2, 1) := by decide +kernel
theorem dL_law_628 : decode cL_law 628 = .ok (.invokevirtual 107, 3) := by decide +kernel
theorem dL_law_631 : decode cL_law 631 = .ok (.iload 5, 2) := by decide +kernel
theorem dL_law_633 : decode cL_law 633 = .ok (.if_icmp .eq 5, 3) := by decide +kernel
theorem dL_law_636 : decode cL_law 636 = .ok (.iconst 0, 1) := by decide +kernel
theorem dL_law_637 : decode cL_law 637 = .ok (.ireturn, 1) := by decide +kernel
theorem dL_law_638 : decode cL_law 638 = .ok (.iload 5, 2) := by decide +kernel
theorem dL_law_640 : decode cL_law 640 = .ok (.ifCond .ne 15, 3) := by decide +kernel
theorem dL_law_643 : decode cL_law 643 = .ok (.aload_n 3, 1) := by decide +kernel
theorem dL_law_644 : decode cL_law 644 = .ok (.iconst 0, 1) := by decide +kernel
theorem dL_law_645 : decode cL_law 645 = .ok (.laload, 1) := by decide +kernel
theorem dL_law_646 : decode cL_law 646 = .ok (.iload 6, 2) := by decide +kernel
theorem dL_law_648 : decode cL_law 648 = .ok (.i2l, 1) := by decide +kernel
theorem dL_law_649 : decode cL_law 649 = .ok (.lcmp, 1) := by decide +kernel
theorem dL_law_650 : decode cL_law 650 = .ok (.ifCond .eq 5, 3) := by decide +kernel
theorem dL_law_653 : decode cL_law 653 = .ok (.iconst 0, 1) := by decide +kernel
theorem dL_law_654 : decode cL_law 654 = .ok (.ireturn, 1) := by decide +kernel
theorem dL_law_655 : decode cL_law 655 = .ok (.goto 1295, 3) := by decide +kernel
theorem dL_law_658 : decode cL_law 658 = .ok (.aload_n 1, 1) := by decide +kernel
theorem dL_law_659 : decode cL_law 659 = .ok (.invokevirtual 142, 3) := by decide +kernel
theorem dL_law_662 : decode cL_law 662 = .ok (.aload_n 2, 1) := by decide +kernel
theorem dL_law_663 : decode cL_law 663 = .ok (.invokevirtual 145, 3) := by decide +kernel
theorem dL_law_666 : decode cL_law 666 = .ok (.if_icmp .eq 1284, 3) := by decide +kernel
theorem dL_law_669 : decode cL_law 669 = .ok (.iconst 0, 1) := by decide +kernel
theorem dL_law_670 : decode cL_law 670 = .ok (.ireturn, 1) := by decide +kernel
theorem dL_law_671 : decode cL_law 671 = .ok (.aload_n 1, 1) := by decide +kernel
theorem dL_law_672 : decode cL_law 672 = .ok (.invokevirtual 146, 3) := by decide +kernel
theorem dL_law_675 : decode cL_law 675 = .ok (.aload_n 2, 1) := by decide +kernel
theorem dL_law_676 : decode cL_law 676 = .ok (.invokevirtual 150, 3) := by decide +kernel
theorem dL_law_679 : decode cL_law 679 = .ok (.lcmp, 1) := by decide +kernel
theorem dL_law_680 : decode cL_law 680 = .ok (.ifCond .eq 1270, 3) := by decide +kernel
theorem dL_law_683 : decode cL_law 683 = .ok (.iconst 0, 1) := by decide +kernel
theorem dL_law_684 : decode cL_law 684 = .ok (.ireturn, 1) := by decide +kernel
theorem dL_law_685 : decode cL_law 685 = .ok (.aload_n 1, 1) := by decide +kernel
theorem dL_law_686 : decode cL_law 686 = .ok (.aload_n 0, 1) := by decide +kernel
theorem dL_law_687 : decode cL_law 687 = .ok (.iload 4, 2) := by decide +kernel
theorem dL_law_689 : decode cL_law 689 = .ok (.iconst 1, 1) := by decide +kernel
theorem dL_law_690 : decode cL_law 690 = .ok (.iadd, 1) := by decide +kernel
theorem dL_law_691 : decode cL_law 691 = .ok (.iaload, 1) := by decide +kernel
theorem dL_law_692 : decode cL_law 692 = .ok (.aload_n 3, 1) := by decide +kernel
theorem dL_law_693 : decode cL_law 693 = .ok (.invokestatic 151, 3) := by decide +kernel
theorem dL_law_696 : decode cL_law 696 = .ok (.istore 5, 2) := by decide +kernel
theorem dL_law_698 : decode cL_law 698 = .ok (.aload_n 2, 1) := by decide +kernel
theorem dL_law_699 : decode cL_law 699 = .ok (.aload_n 0, 1) := by decide +kernel
theorem dL_law_700 : decode cL_law 700 = .ok (.iload 4, 2) := by decide +kernel
theorem dL_law_702 : decode cL_law 702 = .ok (.iconst 1, 1) := by decide +kernel
theorem dL_law_703 : decode cL_law 703 = .ok (.iadd, 1) := by decide +kernel
theorem dL_law_704 : decode cL_law 704 = .ok (.iaload, 1) := by decide +kernel
theorem dL_law_705 : decode cL_law 705 = .ok (.invokevirtual 153, 3) := by decide +kernel
theorem dL_law_708 : decode cL_law 708 = .ok (.istore 6, 2) := by decide +kernel
theorem dL_law_710 : decode cL_law 710 = .ok (.aload_n 2, 1) := by decide +kernel
theorem dL_law_711 : decode cL_law 711 = .ok (.invokevirtual 107, 3) := by decide +kernel
theorem dL_law_714 : decode cL_law 714 = .ok (.iload 5, 2) := by decide +kernel
theorem dL_law_716 : decode cL_law 716 = .ok (.if_icmp .eq 5, 3) := by decide +kernel
theorem dL_law_719 : decode cL_law 719 = .ok (.iconst 0, 1) := by decide +kernel
theorem dL_law_720 : decode cL_law 720 = .ok (.ireturn, 1) := by decide +kernel
theorem dL_law_721 : decode cL_law 721 = .ok (.iload 5, 2) := by decide +kernel
theorem dL_law_723 : decode cL_law 723 = .ok (.ifCond .ne 15, 3) := by decide +kernel
theorem dL_law_726 : decode cL_law 726 = .ok (.aload_n 3, 1) := by decide +kernel
theorem dL_law_727 : decode cL_law 727 = .ok (.iconst 0, 1) := by decide +kernel
theorem dL_law_728 : decode cL_law 728 = .ok (.laload, 1) := by decide +kernel
theorem dL_law_729 : decode cL_law 729 = .ok (.iload 6, 2) := by decide +kernel
theorem dL_law_731 : decode cL_law 731 = .ok (.i2l, 1) := by decide +kernel
theorem dL_law_732 : decode cL_law 732 = .ok (.lcmp, 1) := by decide +kernel
theorem dL_law_733 : decode cL_law 733 = .ok (.ifCond .eq 5, 3) := by decide +kernel
theorem dL_law_736 : decode cL_law 736 = .ok (.iconst 0, 1) := by decide +kernel
theorem dL_law_737 : decode cL_law 737 = .ok (.ireturn, 1) := by decide +kernel
theorem dL_law_738 : decode cL_law 738 = .ok (.goto 1212, 3) := by decide +kernel
theorem dL_law_741 : decode cL_law 741 = .ok (.aload_n 1, 1) := by decide +kernel
theorem dL_law_742 : decode cL_law 742 = .ok (.aload_n 0, 1) := by decide +kernel
theorem dL_law_743 : decode cL_law 743 = .ok (.iload 4, 2) := by decide +kernel
theorem dL_law_745 : decode cL_law 745 = .ok (.iconst 1, 1) := by decide +kernel
theorem dL_law_746 : decode cL_law 746 = .ok (.iadd, 1) := by decide +kernel
theorem dL_law_747 : decode cL_law 747 = .ok (.iaload, 1) := by decide +kernel
theorem dL_law_748 : decode cL_law 748 = .ok (.aload_n 0, 1) := by decide +kernel
theorem dL_law_749 : decode cL_law 749 = .ok (.iload 4, 2) := by decide +kernel
theorem dL_law_751 : decode cL_law 751 = .ok (.iconst 2, 1) := by decide +kernel
theorem dL_law_752 : decode cL_law 752 = .ok (.iadd, 1) := by decide +kernel
theorem dL_law_753 : decode cL_law 753 = .ok (.iaload, 1) := by decide +kernel
theorem dL_law_754 : decode cL_law 754 = .ok (.aload_n 3, 1) := by decide +kernel
theorem dL_law_755 : decode cL_law 755 = .ok (.invokestatic 154, 3) := by decide +kernel
theorem dL_law_758 : decode cL_law 758 = .ok (.istore 5, 2) := by decide +kernel
theorem dL_law_760 : decode cL_law 760 = .ok (.aload_n 2, 1) := by decide +kernel
theorem dL_law_761 : decode cL_law 761 = .ok (.aload_n 0, 1) := by decide +kernel
theorem dL_law_762 : decode cL_law 762 = .ok (.iload 4, 2) := by decide +kernel
theorem dL_law_764 : decode cL_law 764 = .ok (.iconst 1, 1) := by decide +kernel
theorem dL_law_765 : decode cL_law 765 = .ok (.iadd, 1) := by decide +kernel
theorem dL_law_766 : decode cL_law 766 = .ok (.iaload, 1) := by decide +kernel
theorem dL_law_767 : decode cL_law 767 = .ok (.aload_n 0, 1) := by decide +kernel
theorem dL_law_768 : decode cL_law 768 = .ok (.iload 4, 2) := by decide +kernel
theorem dL_law_770 : decode cL_law 770 = .ok (.iconst 2, 1) := by decide +kernel
theorem dL_law_771 : decode cL_law 771 = .ok (.iadd, 1) := by decide +kernel
theorem dL_law_772 : decode cL_law 772 = .ok (.iaload, 1) := by decide +kernel
theorem dL_law_773 : decode cL_law 773 = .ok (.invokevirtual 156, 3) := by decide +kernel
theorem dL_law_776 : decode cL_law 776 = .ok (.istore 6, 2) := by decide +kernel
theorem dL_law_778 : decode cL_law 778 = .ok (.aload_n 2, 1) := by decide +kernel
theorem dL_law_779 : decode cL_law 779 = .ok (.invokevirtual 107, 3) := by decide +kernel
theorem dL_law_782 : decode cL_law 782 = .ok (.iload 5, 2) := by decide +kernel
theorem dL_law_784 : decode cL_law 784 = .ok (.if_icmp .eq 5, 3) := by decide +kernel
theorem dL_law_787 : decode cL_law 787 = .ok (.iconst 0, 1) := by decide +kernel
theorem dL_law_788 : decode cL_law 788 = .ok (.ireturn, 1) := by decide +kernel
theorem dL_law_789 : decode cL_law 789 = .ok (.iload 5, 2) := by decide +kernel
theorem dL_law_791 : decode cL_law 791 = .ok (.ifCond .ne 15, 3) := by decide +kernel
theorem dL_law_794 : decode cL_law 794 = .ok (.aload_n 3, 1) := by decide +kernel
theorem dL_law_795 : decode cL_law 795 = .ok (.iconst 0, 1) := by decide +kernel
theorem dL_law_796 : decode cL_law 796 = .ok (.laload, 1) := by decide +kernel
theorem dL_law_797 : decode cL_law 797 = .ok (.iload 6, 2) := by decide +kernel
theorem dL_law_799 : decode cL_law 799 = .ok (.i2l, 1) := by decide +kernel
theorem dL_law_800 : decode cL_law 800 = .ok (.lcmp, 1) := by decide +kernel
theorem dL_law_801 : decode cL_law 801 = .ok (.ifCond .eq 5, 3) := by decide +kernel
theorem dL_law_804 : decode cL_law 804 = .ok (.iconst 0, 1) := by decide +kernel
theorem dL_law_805 : decode cL_law 805 = .ok (.ireturn, 1) := by decide +kernel
theorem dL_law_806 : decode cL_law 806 = .ok (.goto 1144, 3) := by decide +kernel
theorem dL_law_809 : decode cL_law 809 = .ok (.aload_n 1, 1) := by decide +kernel
theorem dL_law_810 : decode cL_law 810 = .ok (.aload_n 0, 1) := by decide +kernel
theorem dL_law_811 : decode cL_law 811 = .ok (.iload 4, 2) := by decide +kernel
theorem dL_law_813 : decode cL_law 813 = .ok (.iconst 1, 1) := by decide +kernel
theorem dL_law_814 : decode cL_law 814 = .ok (.iadd, 1) := by decide +kernel
theorem dL_law_815 : decode cL_law 815 = .ok (.iaload, 1) := by decide +kernel
theorem dL_law_816 : decode cL_law 816 = .ok (.aload_n 0, 1) := by decide +kernel
theorem dL_law_817 : decode cL_law 817 = .ok (.iload 4, 2) := by decide +kernel
theorem dL_law_819 : decode cL_law 819 = .ok (.iconst 2, 1) := by decide +kernel
theorem dL_law_820 : decode cL_law 820 = .ok (.iadd, 1) := by decide +kernel
theorem dL_law_821 : decode cL_law 821 = .ok (.iaload, 1) := by decide +kernel
theorem dL_law_822 : decode cL_law 822 = .ok (.aload_n 3, 1) := by decide +kernel
theorem dL_law_823 : decode cL_law 823 = .ok (.invokestatic 157, 3) := by decide +kernel
theorem dL_law_826 : decode cL_law 826 = .ok (.istore 5, 2) := by decide +kernel
theorem dL_law_828 : decode cL_law 828 = .ok (.aload_n 2, 1) := by decide +kernel
theorem dL_law_829 : decode cL_law 829 = .ok (.aload_n 0, 1) := by decide +kernel
theorem dL_law_830 : decode cL_law 830 = .ok (.iload 4, 2) := by decide +kernel
theorem dL_law_832 : decode cL_law 832 = .ok (.iconst 1, 1) := by decide +kernel
theorem dL_law_833 : decode cL_law 833 = .ok (.iadd, 1) := by decide +kernel
theorem dL_law_834 : decode cL_law 834 = .ok (.iaload, 1) := by decide +kernel
theorem dL_law_835 : decode cL_law 835 = .ok (.aload_n 0, 1) := by decide +kernel
theorem dL_law_836 : decode cL_law 836 = .ok (.iload 4, 2) := by decide +kernel
theorem dL_law_838 : decode cL_law 838 = .ok (.iconst 2, 1) := by decide +kernel
theorem dL_law_839 : decode cL_law 839 = .ok (.iadd, 1) := by decide +kernel
theorem dL_law_840 : decode cL_law 840 = .ok (.iaload, 1) := by decide +kernel
theorem dL_law_841 : decode cL_law 841 = .ok (.invokevirtual 159, 3) := by decide +kernel
theorem dL_law_844 : decode cL_law 844 = .ok (.istore 6, 2) := by decide +kernel
theorem dL_law_846 : decode cL_law 846 = .ok (.aload_n 2, 1) := by decide +kernel
theorem dL_law_847 : decode cL_law 847 = .ok (.invokevirtual 107, 3) := by decide +kernel
theorem dL_law_850 : decode cL_law 850 = .ok (.iload 5, 2) := by decide +kernel
theorem dL_law_852 : decode cL_law 852 = .ok (.if_icmp .eq 5, 3) := by decide +kernel
theorem dL_law_855 : decode cL_law 855 = .ok (.iconst 0, 1) := by decide +kernel
theorem dL_law_856 : decode cL_law 856 = .ok (.ireturn, 1) := by decide +kernel
theorem dL_law_857 : decode cL_law 857 = .ok (.iload 5, 2) := by decide +kernel
theorem dL_law_859 : decode cL_law 859 = .ok (.ifCond .ne 15, 3) := by decide +kernel
theorem dL_law_862 : decode cL_law 862 = .ok (.aload_n 3, 1) := by decide +kernel
theorem dL_law_863 : decode cL_law 863 = .ok (.iconst 0, 1) := by decide +kernel
theorem dL_law_864 : decode cL_law 864 = .ok (.laload, 1) := by decide +kernel
theorem dL_law_865 : decode cL_law 865 = .ok (.iload 6, 2) := by decide +kernel
theorem dL_law_867 : decode cL_law 867 = .ok (.i2l, 1) := by decide +kernel
theorem dL_law_868 : decode cL_law 868 = .ok (.lcmp, 1) := by decide +kernel
theorem dL_law_869 : decode cL_law 869 = .ok (.ifCond .eq 5, 3) := by decide +kernel
theorem dL_law_872 : decode cL_law 872 = .ok (.iconst 0, 1) := by decide +kernel
theorem dL_law_873 : decode cL_law 873 = .ok (.ireturn, 1) := by decide +kernel
theorem dL_law_874 : decode cL_law 874 = .ok (.goto 1076, 3) := by decide +kernel
theorem dL_law_877 : decode cL_law 877 = .ok (.aload_n 1, 1) := by decide +kernel
theorem dL_law_878 : decode cL_law 878 = .ok (.aload_n 0, 1) := by decide +kernel
theorem dL_law_879 : decode cL_law 879 = .ok (.iload 4, 2) := by decide +kernel
theorem dL_law_881 : decode cL_law 881 = .ok (.iconst 1, 1) := by decide +kernel
theorem dL_law_882 : decode cL_law 882 = .ok (.iadd, 1) := by decide +kernel
theorem dL_law_883 : decode cL_law 883 = .ok (.iaload, 1) := by decide +kernel
theorem dL_law_884 : decode cL_law 884 = .ok (.aload_n 0, 1) := by decide +kernel
theorem dL_law_885 : decode cL_law 885 = .ok (.iload 4, 2) := by decide +kernel
theorem dL_law_887 : decode cL_law 887 = .ok (.iconst 2, 1) := by decide +kernel
theorem dL_law_888 : decode cL_law 888 = .ok (.iadd, 1) := by decide +kernel
theorem dL_law_889 : decode cL_law 889 = .ok (.iaload, 1) := by decide +kernel
theorem dL_law_890 : decode cL_law 890 = .ok (.aload_n 3, 1) := by decide +kernel
theorem dL_law_891 : decode cL_law 891 = .ok (.invokestatic 160, 3) := by decide +kernel
theorem dL_law_894 : decode cL_law 894 = .ok (.istore 5, 2) := by decide +kernel
theorem dL_law_896 : decode cL_law 896 = .ok (.aload_n 2, 1) := by decide +kernel
theorem dL_law_897 : decode cL_law 897 = .ok (.aload_n 0, 1) := by decide +kernel
theorem dL_law_898 : decode cL_law 898 = .ok (.iload 4, 2) := by decide +kernel
theorem dL_law_900 : decode cL_law 900 = .ok (.iconst 1, 1) := by decide +kernel
theorem dL_law_901 : decode cL_law 901 = .ok (.iadd, 1) := by decide +kernel
theorem dL_law_902 : decode cL_law 902 = .ok (.iaload, 1) := by decide +kernel
theorem dL_law_903 : decode cL_law 903 = .ok (.aload_n 0, 1) := by decide +kernel
theorem dL_law_904 : decode cL_law 904 = .ok (.iload 4, 2) := by decide +kernel
theorem dL_law_906 : decode cL_law 906 = .ok (.iconst 2, 1) := by decide +kernel
theorem dL_law_907 : decode cL_law 907 = .ok (.iadd, 1) := by decide +kernel
theorem dL_law_908 : decode cL_law 908 = .ok (.iaload, 1) := by decide +kernel
theorem dL_law_909 : decode cL_law 909 = .ok (.invokevirtual 162, 3) := by decide +kernel
theorem dL_law_912 : decode cL_law 912 = .ok (.istore 6, 2) := by decide +kernel
theorem dL_law_914 : decode cL_law 914 = .ok (.aload_n 2, 1) := by decide +kernel
theorem dL_law_915 : decode cL_law 915 = .ok (.invokevirtual 107, 3) := by decide +kernel
theorem dL_law_918 : decode cL_law 918 = .ok (.iload 5, 2) := by decide +kernel
theorem dL_law_920 : decode cL_law 920 = .ok (.if_icmp .eq 5, 3) := by decide +kernel
theorem dL_law_923 : decode cL_law 923 = .ok (.iconst 0, 1) := by decide +kernel
theorem dL_law_924 : decode cL_law 924 = .ok (.ireturn, 1) := by decide +kernel
theorem dL_law_925 : decode cL_law 925 = .ok (.iload 5, 2) := by decide +kernel
theorem dL_law_927 : decode cL_law 927 = .ok (.ifCond .ne 15, 3) := by decide +kernel
theorem dL_law_930 : decode cL_law 930 = .ok (.aload_n 3, 1) := by decide +kernel
theorem dL_law_931 : decode cL_law 931 = .ok (.iconst 0, 1) := by decide +kernel
theorem dL_law_932 : decode cL_law 932 = .ok (.laload, 1) := by decide +kernel
theorem dL_law_933 : decode cL_law 933 = .ok (.iload 6, 2) := by decide +kernel
theorem dL_law_935 : decode cL_law 935 = .ok (.i2l, 1) := by decide +kernel
theorem dL_law_936 : decode cL_law 936 = .ok (.lcmp, 1) := by decide +kernel
theorem dL_law_937 : decode cL_law 937 = .ok (.ifCond .eq 5, 3) := by decide +kernel
theorem dL_law_940 : decode cL_law 940 = .ok (.iconst 0, 1) := by decide +kernel
theorem dL_law_941 : decode cL_law 941 = .ok (.ireturn, 1) := by decide +kernel
theorem dL_law_942 : decode cL_law 942 = .ok (.goto 1008, 3) := by decide +kernel
theorem dL_law_945 : decode cL_law 945 = .ok (.aload_n 1, 1) := by decide +kernel
theorem dL_law_946 : decode cL_law 946 = .ok (.aload_n 0, 1) := by decide +kernel
theorem dL_law_947 : decode cL_law 947 = .ok (.iload 4, 2) := by decide +kernel
theorem dL_law_949 : decode cL_law 949 = .ok (.iconst 1, 1) := by decide +kernel
theorem dL_law_950 : decode cL_law 950 = .ok (.iadd, 1) := by decide +kernel
theorem dL_law_951 : decode cL_law 951 = .ok (.iaload, 1) := by decide +kernel
theorem dL_law_952 : decode cL_law 952 = .ok (.aload_n 0, 1) := by decide +kernel
theorem dL_law_953 : decode cL_law 953 = .ok (.iload 4, 2) := by decide +kernel
theorem dL_law_955 : decode cL_law 955 = .ok (.iconst 2, 1) := by decide +kernel
theorem dL_law_956 : decode cL_law 956 = .ok (.iadd, 1) := by decide +kernel
theorem dL_law_957 : decode cL_law 957 = .ok (.iaload, 1) := by decide +kernel
theorem dL_law_958 : decode cL_law 958 = .ok (.aload_n 3, 1) := by decide +kernel
theorem dL_law_959 : decode cL_law 959 = .ok (.invokestatic 163, 3) := by decide +kernel
theorem dL_law_962 : decode cL_law 962 = .ok (.istore 5, 2) := by decide +kernel
theorem dL_law_964 : decode cL_law 964 = .ok (.aload_n 2, 1) := by decide +kernel
theorem dL_law_965 : decode cL_law 965 = .ok (.aload_n 0, 1) := by decide +kernel
theorem dL_law_966 : decode cL_law 966 = .ok (.iload 4, 2) := by decide +kernel
theorem dL_law_968 : decode cL_law 968 = .ok (.iconst 1, 1) := by decide +kernel
theorem dL_law_969 : decode cL_law 969 = .ok (.iadd, 1) := by decide +kernel
theorem dL_law_970 : decode cL_law 970 = .ok (.iaload, 1) := by decide +kernel
theorem dL_law_971 : decode cL_law 971 = .ok (.aload_n 0, 1) := by decide +kernel
theorem dL_law_972 : decode cL_law 972 = .ok (.iload 4, 2) := by decide +kernel
theorem dL_law_974 : decode cL_law 974 = .ok (.iconst 2, 1) := by decide +kernel
theorem dL_law_975 : decode cL_law 975 = .ok (.iadd, 1) := by decide +kernel
theorem dL_law_976 : decode cL_law 976 = .ok (.iaload, 1) := by decide +kernel
theorem dL_law_977 : decode cL_law 977 = .ok (.invokevirtual 165, 3) := by decide +kernel
theorem dL_law_980 : decode cL_law 980 = .ok (.istore 6, 2) := by decide +kernel
theorem dL_law_982 : decode cL_law 982 = .ok (.aload_n 2, 1) := by decide +kernel
theorem dL_law_983 : decode cL_law 983 = .ok (.invokevirtual 107, 3) := by decide +kernel
theorem dL_law_986 : decode cL_law 986 = .ok (.iload 5, 2) := by decide +kernel
theorem dL_law_988 : decode cL_law 988 = .ok (.if_icmp .eq 5, 3) := by decide +kernel
theorem dL_law_991 : decode cL_law 991 = .ok (.iconst 0, 1) := by decide +kernel
theorem dL_law_992 : decode cL_law 992 = .ok (.ireturn, 1) := by decide +kernel
theorem dL_law_993 : decode cL_law 993 = .ok (.iload 5, 2) := by decide +kernel
theorem dL_law_995 : decode cL_law 995 = .ok (.ifCond .ne 15, 3) := by decide +kernel
theorem dL_law_998 : decode cL_law 998 = .ok (.aload_n 3, 1) := by decide +kernel
theorem dL_law_999 : decode cL_law 999 = .ok (.iconst 0, 1) := by decide +kernel
theorem dL_law_1000 : decode cL_law 1000 = .ok (.laload, 1) := by decide +kernel
theorem dL_law_1001 : decode cL_law 1001 = .ok (.iload 6, 2) := by decide +kernel
theorem dL_law_1003 : decode cL_law 1003 = .ok (.i2l, 1) := by decide +kernel
theorem dL_law_1004 : decode cL_law 1004 = .ok (.lcmp, 1) := by decide +kernel
theorem dL_law_1005 : decode cL_law 1005 = .ok (.ifCond .eq 5, 3) := by decide +kernel
theorem dL_law_1008 : decode cL_law 1008 = .ok (.iconst 0, 1) := by decide +kernel
theorem dL_law_1009 : decode cL_law 1009 = .ok (.ireturn, 1) := by decide +kernel
theorem dL_law_1010 : decode cL_law 1010 = .ok (.goto 940, 3) := by decide +kernel
theorem dL_law_1013 : decode cL_law 1013 = .ok (.aload_n 1, 1) := by decide +kernel
theorem dL_law_1014 : decode cL_law 1014 = .ok (.aload_n 0, 1) := by decide +kernel
theorem dL_law_1015 : decode cL_law 1015 = .ok (.iload 4, 2) := by decide +kernel
theorem dL_law_1017 : decode cL_law 1017 = .ok (.iconst 1, 1) := by decide +kernel
theorem dL_law_1018 : decode cL_law 1018 = .ok (.iadd, 1) := by decide +kernel
theorem dL_law_1019 : decode cL_law 1019 = .ok (.iaload, 1) := by decide +kernel
theorem dL_law_1020 : decode cL_law 1020 = .ok (.aload_n 3, 1) := by decide +kernel
theorem dL_law_1021 : decode cL_law 1021 = .ok (.invokestatic 166, 3) := by decide +kernel
theorem dL_law_1024 : decode cL_law 1024 = .ok (.istore 5, 2) := by decide +kernel
theorem dL_law_1026 : decode cL_law 1026 = .ok (.aload_n 2, 1) := by decide +kernel
theorem dL_law_1027 : decode cL_law 1027 = .ok (.aload_n 0, 1) := by decide +kernel
theorem dL_law_1028 : decode cL_law 1028 = .ok (.iload 4, 2) := by decide +kernel
theorem dL_law_1030 : decode cL_law 1030 = .ok (.iconst 1, 1) := by decide +kernel
theorem dL_law_1031 : decode cL_law 1031 = .ok (.iadd, 1) := by decide +kernel
theorem dL_law_1032 : decode cL_law 1032 = .ok (.iaload, 1) := by decide +kernel
theorem dL_law_1033 : decode cL_law 1033 = .ok (.invokevirtual 168, 3) := by decide +kernel
theorem dL_law_1036 : decode cL_law 1036 = .ok (.istore 6, 2) := by decide +kernel
theorem dL_law_1038 : decode cL_law 1038 = .ok (.aload_n 2, 1) := by decide +kernel
theorem dL_law_1039 : decode cL_law 1039 = .ok (.invokevirtual 107, 3) := by decide +kernel
theorem dL_law_1042 : decode cL_law 1042 = .ok (.iload 5, 2) := by decide +kernel
theorem dL_law_1044 : decode cL_law 1044 = .ok (.if_icmp .eq 5, 3) := by decide +kernel
theorem dL_law_1047 : decode cL_law 1047 = .ok (.iconst 0, 1) := by decide +kernel
theorem dL_law_1048 : decode cL_law 1048 = .ok (.ireturn, 1) := by decide +kernel
theorem dL_law_1049 : decode cL_law 1049 = .ok (.iload 5, 2) := by decide +kernel
theorem dL_law_1051 : decode cL_law 1051 = .ok (.ifCond .ne 15, 3) := by decide +kernel
theorem dL_law_1054 : decode cL_law 1054 = .ok (.aload_n 3, 1) := by decide +kernel
theorem dL_law_1055 : decode cL_law 1055 = .ok (.iconst 0, 1) := by decide +kernel
theorem dL_law_1056 : decode cL_law 1056 = .ok (.laload, 1) := by decide +kernel
theorem dL_law_1057 : decode cL_law 1057 = .ok (.iload 6, 2) := by decide +kernel
theorem dL_law_1059 : decode cL_law 1059 = .ok (.i2l, 1) := by decide +kernel
theorem dL_law_1060 : decode cL_law 1060 = .ok (.lcmp, 1) := by decide +kernel
theorem dL_law_1061 : decode cL_law 1061 = .ok (.ifCond .eq 5, 3) := by decide +kernel
theorem dL_law_1064 : decode cL_law 1064 = .ok (.iconst 0, 1) := by decide +kernel
theorem dL_law_1065 : decode cL_law 1065 = .ok (.ireturn, 1) := by decide +kernel
theorem dL_law_1066 : decode cL_law 1066 = .ok (.goto 884, 3) := by decide +kernel
theorem dL_law_1069 : decode cL_law 1069 = .ok (.aload_n 1, 1) := by decide +kernel
theorem dL_law_1070 : decode cL_law 1070 = .ok (.aload_n 0, 1) := by decide +kernel
theorem dL_law_1071 : decode cL_law 1071 = .ok (.iload 4, 2) := by decide +kernel
theorem dL_law_1073 : decode cL_law 1073 = .ok (.iconst 1, 1) := by decide +kernel
theorem dL_law_1074 : decode cL_law 1074 = .ok (.iadd, 1) := by decide +kernel
theorem dL_law_1075 : decode cL_law 1075 = .ok (.iaload, 1) := by decide +kernel
theorem dL_law_1076 : decode cL_law 1076 = .ok (.aload_n 0, 1) := by decide +kernel
theorem dL_law_1077 : decode cL_law 1077 = .ok (.iload 4, 2) := by decide +kernel
theorem dL_law_1079 : decode cL_law 1079 = .ok (.iconst 2, 1) := by decide +kernel
theorem dL_law_1080 : decode cL_law 1080 = .ok (.iadd, 1) := by decide +kernel
theorem dL_law_1081 : decode cL_law 1081 = .ok (.iaload, 1) := by decide +kernel
theorem dL_law_1082 : decode cL_law 1082 = .ok (.aload_n 0, 1) := by decide +kernel
theorem dL_law_1083 : decode cL_law 1083 = .ok (.iload 4, 2) := by decide +kernel
theorem dL_law_1085 : decode cL_law 1085 = .ok (.iconst 3, 1) := by decide +kernel
theorem dL_law_1086 : decode cL_law 1086 = .ok (.iadd, 1) := by decide +kernel
theorem dL_law_1087 : decode cL_law 1087 = .ok (.iaload, 1) := by decide +kernel
theorem dL_law_1088 : decode cL_law 1088 = .ok (.aload_n 0, 1) := by decide +kernel
theorem dL_law_1089 : decode cL_law 1089 = .ok (.iload 4, 2) := by decide +kernel
theorem dL_law_1091 : decode cL_law 1091 = .ok (.iconst 4, 1) := by decide +kernel
theorem dL_law_1092 : decode cL_law 1092 = .ok (.iadd, 1) := by decide +kernel
theorem dL_law_1093 : decode cL_law 1093 = .ok (.iaload, 1) := by decide +kernel
theorem dL_law_1094 : decode cL_law 1094 = .ok (.aload_n 3, 1) := by decide +kernel
theorem dL_law_1095 : decode cL_law 1095 = .ok (.invokestatic 169, 3) := by decide +kernel
theorem dL_law_1098 : decode cL_law 1098 = .ok (.istore 5, 2) := by decide +kernel
theorem dL_law_1100 : decode cL_law 1100 = .ok (.aload_n 2, 1) := by decide +kernel
theorem dL_law_1101 : decode cL_law 1101 = .ok (.aload_n 0, 1) := by decide +kernel
theorem dL_law_1102 : decode cL_law 1102 = .ok (.iload 4, 2) := by decide +kernel
theorem dL_law_1104 : decode cL_law 1104 = .ok (.iconst 1, 1) := by decide +kernel
theorem dL_law_1105 : decode cL_law 1105 = .ok (.iadd, 1) := by decide +kernel
theorem dL_law_1106 : decode cL_law 1106 = .ok (.iaload, 1) := by decide +kernel
theorem dL_law_1107 : decode cL_law 1107 = .ok (.aload_n 0, 1) := by decide +kernel
theorem dL_law_1108 : decode cL_law 1108 = .ok (.iload 4, 2) := by decide +kernel
theorem dL_law_1110 : decode cL_law 1110 = .ok (.iconst 2, 1) := by decide +kernel
theorem dL_law_1111 : decode cL_law 1111 = .ok (.iadd, 1) := by decide +kernel
theorem dL_law_1112 : decode cL_law 1112 = .ok (.iaload, 1) := by decide +kernel
theorem dL_law_1113 : decode cL_law 1113 = .ok (.aload_n 0, 1) := by decide +kernel
theorem dL_law_1114 : decode cL_law 1114 = .ok (.iload 4, 2) := by decide +kernel
theorem dL_law_1116 : decode cL_law 1116 = .ok (.iconst 3, 1) := by decide +kernel
theorem dL_law_1117 : decode cL_law 1117 = .ok (.iadd, 1) := by decide +kernel
theorem dL_law_1118 : decode cL_law 1118 = .ok (.iaload, 1) := by decide +kernel
theorem dL_law_1119 : decode cL_law 1119 = .ok (.aload_n 0, 1) := by decide +kernel
theorem dL_law_1120 : decode cL_law 1120 = .ok (.iload 4, 2) := by decide +kernel
theorem dL_law_1122 : decode cL_law 1122 = .ok (.iconst 4, 1) := by decide +kernel
theorem dL_law_1123 : decode cL_law 1123 = .ok (.iadd, 1) := by decide +kernel
theorem dL_law_1124 : decode cL_law 1124 = .ok (.iaload, 1) := by decide +kernel
theorem dL_law_1125 : decode cL_law 1125 = .ok (.invokevirtual 172, 3) := by decide +kernel
theorem dL_law_1128 : decode cL_law 1128 = .ok (.istore 6, 2) := by decide +kernel
theorem dL_law_1130 : decode cL_law 1130 = .ok (.aload_n 2, 1) := by decide +kernel
theorem dL_law_1131 : decode cL_law 1131 = .ok (.invokevirtual 107, 3) := by decide +kernel
theorem dL_law_1134 : decode cL_law 1134 = .ok (.iload 5, 2) := by decide +kernel
theorem dL_law_1136 : decode cL_law 1136 = .ok (.if_icmp .eq 5, 3) := by decide +kernel
theorem dL_law_1139 : decode cL_law 1139 = .ok (.iconst 0, 1) := by decide +kernel
theorem dL_law_1140 : decode cL_law 1140 = .ok (.ireturn, 1) := by decide +kernel
theorem dL_law_1141 : decode cL_law 1141 = .ok (.iload 5, 2) := by decide +kernel
theorem dL_law_1143 : decode cL_law 1143 = .ok (.ifCond .ne 15, 3) := by decide +kernel
theorem dL_law_1146 : decode cL_law 1146 = .ok (.aload_n 3, 1) := by decide +kernel
theorem dL_law_1147 : decode cL_law 1147 = .ok (.iconst 0, 1) := by decide +kernel
theorem dL_law_1148 : decode cL_law 1148 = .ok (.laload, 1) := by decide +kernel
theorem dL_law_1149 : decode cL_law 1149 = .ok (.iload 6, 2) := by decide +kernel
theorem dL_law_1151 : decode cL_law 1151 = .ok (.i2l, 1) := by decide +kernel
theorem dL_law_1152 : decode cL_law 1152 = .ok (.lcmp, 1) := by decide +kernel
theorem dL_law_1153 : decode cL_law 1153 = .ok (.ifCond .eq 5, 3) := by decide +kernel
theorem dL_law_1156 : decode cL_law 1156 = .ok (.iconst 0, 1) := by decide +kernel
theorem dL_law_1157 : decode cL_law 1157 = .ok (.ireturn, 1) := by decide +kernel
theorem dL_law_1158 : decode cL_law 1158 = .ok (.goto 792, 3) := by decide +kernel
theorem dL_law_1161 : decode cL_law 1161 = .ok (.aload_n 1, 1) := by decide +kernel
theorem dL_law_1162 : decode cL_law 1162 = .ok (.aload_n 0, 1) := by decide +kernel
theorem dL_law_1163 : decode cL_law 1163 = .ok (.iload 4, 2) := by decide +kernel
theorem dL_law_1165 : decode cL_law 1165 = .ok (.iconst 1, 1) := by decide +kernel
theorem dL_law_1166 : decode cL_law 1166 = .ok (.iadd, 1) := by decide +kernel
theorem dL_law_1167 : decode cL_law 1167 = .ok (.iaload, 1) := by decide +kernel
theorem dL_law_1168 : decode cL_law 1168 = .ok (.aload_n 0, 1) := by decide +kernel
theorem dL_law_1169 : decode cL_law 1169 = .ok (.iload 4, 2) := by decide +kernel
theorem dL_law_1171 : decode cL_law 1171 = .ok (.iconst 2, 1) := by decide +kernel
theorem dL_law_1172 : decode cL_law 1172 = .ok (.iadd, 1) := by decide +kernel
theorem dL_law_1173 : decode cL_law 1173 = .ok (.iaload, 1) := by decide +kernel
theorem dL_law_1174 : decode cL_law 1174 = .ok (.aload_n 0, 1) := by decide +kernel
theorem dL_law_1175 : decode cL_law 1175 = .ok (.iload 4, 2) := by decide +kernel
theorem dL_law_1177 : decode cL_law 1177 = .ok (.iconst 3, 1) := by decide +kernel
theorem dL_law_1178 : decode cL_law 1178 = .ok (.iadd, 1) := by decide +kernel
theorem dL_law_1179 : decode cL_law 1179 = .ok (.iaload, 1) := by decide +kernel
theorem dL_law_1180 : decode cL_law 1180 = .ok (.aload_n 3, 1) := by decide +kernel
theorem dL_law_1181 : decode cL_law 1181 = .ok (.invokestatic 173, 3) := by decide +kernel
theorem dL_law_1184 : decode cL_law 1184 = .ok (.istore 5, 2) := by decide +kernel
theorem dL_law_1186 : decode cL_law 1186 = .ok (.aload_n 2, 1) := by decide +kernel
theorem dL_law_1187 : decode cL_law 1187 = .ok (.aload_n 0, 1) := by decide +kernel
theorem dL_law_1188 : decode cL_law 1188 = .ok (.iload 4, 2) := by decide +kernel
theorem dL_law_1190 : decode cL_law 1190 = .ok (.iconst 1, 1) := by decide +kernel
theorem dL_law_1191 : decode cL_law 1191 = .ok (.iadd, 1) := by decide +kernel
theorem dL_law_1192 : decode cL_law 1192 = .ok (.iaload, 1) := by decide +kernel
theorem dL_law_1193 : decode cL_law 1193 = .ok (.aload_n 0, 1) := by decide +kernel
theorem dL_law_1194 : decode cL_law 1194 = .ok (.iload 4, 2) := by decide +kernel
theorem dL_law_1196 : decode cL_law 1196 = .ok (.iconst 2, 1) := by decide +kernel
theorem dL_law_1197 : decode cL_law 1197 = .ok (.iadd, 1) := by decide +kernel
theorem dL_law_1198 : decode cL_law 1198 = .ok (.iaload, 1) := by decide +kernel
theorem dL_law_1199 : decode cL_law 1199 = .ok (.aload_n 0, 1) := by decide +kernel
theorem dL_law_1200 : decode cL_law 1200 = .ok (.iload 4, 2) := by decide +kernel
theorem dL_law_1202 : decode cL_law 1202 = .ok (.iconst 3, 1) := by decide +kernel
theorem dL_law_1203 : decode cL_law 1203 = .ok (.iadd, 1) := by decide +kernel
theorem dL_law_1204 : decode cL_law 1204 = .ok (.iaload, 1) := by decide +kernel
theorem dL_law_1205 : decode cL_law 1205 = .ok (.invokevirtual 175, 3) := by decide +kernel
theorem dL_law_1208 : decode cL_law 1208 = .ok (.istore 6, 2) := by decide +kernel
theorem dL_law_1210 : decode cL_law 1210 = .ok (.aload_n 2, 1) := by decide +kernel
theorem dL_law_1211 : decode cL_law 1211 = .ok (.invokevirtual 107, 3) := by decide +kernel
theorem dL_law_1214 : decode cL_law 1214 = .ok (.iload 5, 2) := by decide +kernel
theorem dL_law_1216 : decode cL_law 1216 = .ok (.if_icmp .eq 5, 3) := by decide +kernel
theorem dL_law_1219 : decode cL_law 1219 = .ok (.iconst 0, 1) := by decide +kernel
theorem dL_law_1220 : decode cL_law 1220 = .ok (.ireturn, 1) := by decide +kernel
theorem dL_law_1221 : decode cL_law 1221 = .ok (.iload 5, 2) := by decide +kernel
theorem dL_law_1223 : decode cL_law 1223 = .ok (.ifCond .ne 15, 3) := by decide +kernel
theorem dL_law_1226 : decode cL_law 1226 = .ok (.aload_n 3, 1) := by decide +kernel
theorem dL_law_1227 : decode cL_law 1227 = .ok (.iconst 0, 1) := by decide +kernel
theorem dL_law_1228 : decode cL_law 1228 = .ok (.laload, 1) := by decide +kernel
theorem dL_law_1229 : decode cL_law 1229 = .ok (.iload 6, 2) := by decide +kernel
theorem dL_law_1231 : decode cL_law 1231 = .ok (.i2l, 1) := by decide +kernel
theorem dL_law_1232 : decode cL_law 1232 = .ok (.lcmp, 1) := by decide +kernel
theorem dL_law_1233 : decode cL_law 1233 = .ok (.ifCond .eq 5, 3) := by decide +kernel
theorem dL_law_1236 : decode cL_law 1236 = .ok (.iconst 0, 1) := by decide +kernel
theorem dL_law_1237 : decode cL_law 1237 = .ok (.ireturn, 1) := by decide +kernel
theorem dL_law_1238 : decode cL_law 1238 = .ok (.goto 712, 3) := by decide +kernel
theorem dL_law_1241 : decode cL_law 1241 = .ok (.aload_n 1, 1) := by decide +kernel
theorem dL_law_1242 : decode cL_law 1242 = .ok (.aload_n 0, 1) := by decide +kernel
theorem dL_law_1243 : decode cL_law 1243 = .ok (.iload 4, 2) := by decide +kernel
theorem dL_law_1245 : decode cL_law 1245 = .ok (.iconst 1, 1) := by decide +kernel
theorem dL_law_1246 : decode cL_law 1246 = .ok (.iadd, 1) := by decide +kernel
theorem dL_law_1247 : decode cL_law 1247 = .ok (.iaload, 1) := by decide +kernel
theorem dL_law_1248 : decode cL_law 1248 = .ok (.aload_n 3, 1) := by decide +kernel
theorem dL_law_1249 : decode cL_law 1249 = .ok (.invokestatic 176, 3) := by decide +kernel
theorem dL_law_1252 : decode cL_law 1252 = .ok (.istore 5, 2) := by decide +kernel
theorem dL_law_1254 : decode cL_law 1254 = .ok (.aload_n 2, 1) := by decide +kernel
theorem dL_law_1255 : decode cL_law 1255 = .ok (.aload_n 0, 1) := by decide +kernel
theorem dL_law_1256 : decode cL_law 1256 = .ok (.iload 4, 2) := by decide +kernel
theorem dL_law_1258 : decode cL_law 1258 = .ok (.iconst 1, 1) := by decide +kernel
theorem dL_law_1259 : decode cL_law 1259 = .ok (.iadd, 1) := by decide +kernel
theorem dL_law_1260 : decode cL_law 1260 = .ok (.iaload, 1) := by decide +kernel
theorem dL_law_1261 : decode cL_law 1261 = .ok (.invokevirtual 178, 3) := by decide +kernel
theorem dL_law_1264 : decode cL_law 1264 = .ok (.istore 6, 2) := by decide +kernel
theorem dL_law_1266 : decode cL_law 1266 = .ok (.aload_n 2, 1) := by decide +kernel
theorem dL_law_1267 : decode cL_law 1267 = .ok (.invokevirtual 107, 3) := by decide +kernel
theorem dL_law_1270 : decode cL_law 1270 = .ok (.iload 5, 2) := by decide +kernel
theorem dL_law_1272 : decode cL_law 1272 = .ok (.if_icmp .eq 5, 3) := by decide +kernel
theorem dL_law_1275 : decode cL_law 1275 = .ok (.iconst 0, 1) := by decide +kernel
theorem dL_law_1276 : decode cL_law 1276 = .ok (.ireturn, 1) := by decide +kernel
theorem dL_law_1277 : decode cL_law 1277 = .ok (.iload 5, 2) := by decide +kernel
theorem dL_law_1279 : decode cL_law 1279 = .ok (.ifCond .ne 15, 3) := by decide +kernel
theorem dL_law_1282 : decode cL_law 1282 = .ok (.aload_n 3, 1) := by decide +kernel
theorem dL_law_1283 : decode cL_law 1283 = .ok (.iconst 0, 1) := by decide +kernel
theorem dL_law_1284 : decode cL_law 1284 = .ok (.laload, 1) := by decide +kernel
theorem dL_law_1285 : decode cL_law 1285 = .ok (.iload 6, 2) := by decide +kernel
theorem dL_law_1287 : decode cL_law 1287 = .ok (.i2l, 1) := by decide +kernel
theorem dL_law_1288 : decode cL_law 1288 = .ok (.lcmp, 1) := by decide +kernel
theorem dL_law_1289 : decode cL_law 1289 = .ok (.ifCond .eq 5, 3) := by decide +kernel
theorem dL_law_1292 : decode cL_law 1292 = .ok (.iconst 0, 1) := by decide +kernel
theorem dL_law_1293 : decode cL_law 1293 = .ok (.ireturn, 1) := by decide +kernel
theorem dL_law_1294 : decode cL_law 1294 = .ok (.goto 656, 3) := by decide +kernel
theorem dL_law_1297 : decode cL_law 1297 = .ok (.aload_n 1, 1) := by decide +kernel
theorem dL_law_1298 : decode cL_law 1298 = .ok (.aload_n 0, 1) := by decide +kernel
theorem dL_law_1299 : decode cL_law 1299 = .ok (.iload 4, 2) := by decide +kernel
theorem dL_law_1301 : decode cL_law 1301 = .ok (.iconst 1, 1) := by decide +kernel
theorem dL_law_1302 : decode cL_law 1302 = .ok (.iadd, 1) := by decide +kernel
theorem dL_law_1303 : decode cL_law 1303 = .ok (.iaload, 1) := by decide +kernel
theorem dL_law_1304 : decode cL_law 1304 = .ok (.aload_n 0, 1) := by decide +kernel
theorem dL_law_1305 : decode cL_law 1305 = .ok (.iload 4, 2) := by decide +kernel
theorem dL_law_1307 : decode cL_law 1307 = .ok (.iconst 2, 1) := by decide +kernel
theorem dL_law_1308 : decode cL_law 1308 = .ok (.iadd, 1) := by decide +kernel
theorem dL_law_1309 : decode cL_law 1309 = .ok (.iaload, 1) := by decide +kernel
theorem dL_law_1310 : decode cL_law 1310 = .ok (.aload_n 3, 1) := by decide +kernel
theorem dL_law_1311 : decode cL_law 1311 = .ok (.invokestatic 179, 3) := by decide +kernel
theorem dL_law_1314 : decode cL_law 1314 = .ok (.istore 5, 2) := by decide +kernel
theorem dL_law_1316 : decode cL_law 1316 = .ok (.aload_n 2, 1) := by decide +kernel
theorem dL_law_1317 : decode cL_law 1317 = .ok (.aload_n 0, 1) := by decide +kernel
theorem dL_law_1318 : decode cL_law 1318 = .ok (.iload 4, 2) := by decide +kernel
theorem dL_law_1320 : decode cL_law 1320 = .ok (.iconst 1, 1) := by decide +kernel
theorem dL_law_1321 : decode cL_law 1321 = .ok (.iadd, 1) := by decide +kernel
theorem dL_law_1322 : decode cL_law 1322 = .ok (.iaload, 1) := by decide +kernel
theorem dL_law_1323 : decode cL_law 1323 = .ok (.aload_n 0, 1) := by decide +kernel
theorem dL_law_1324 : decode cL_law 1324 = .ok (.iload 4, 2) := by decide +kernel
theorem dL_law_1326 : decode cL_law 1326 = .ok (.iconst 2, 1) := by decide +kernel
theorem dL_law_1327 : decode cL_law 1327 = .ok (.iadd, 1) := by decide +kernel
theorem dL_law_1328 : decode cL_law 1328 = .ok (.iaload, 1) := by decide +kernel
theorem dL_law_1329 : decode cL_law 1329 = .ok (.invokevirtual 181, 3) := by decide +kernel
theorem dL_law_1332 : decode cL_law 1332 = .ok (.istore 6, 2) := by decide +kernel
theorem dL_law_1334 : decode cL_law 1334 = .ok (.aload_n 2, 1) := by decide +kernel
theorem dL_law_1335 : decode cL_law 1335 = .ok (.invokevirtual 107, 3) := by decide +kernel
theorem dL_law_1338 : decode cL_law 1338 = .ok (.iload 5, 2) := by decide +kernel
theorem dL_law_1340 : decode cL_law 1340 = .ok (.if_icmp .eq 5, 3) := by decide +kernel
theorem dL_law_1343 : decode cL_law 1343 = .ok (.iconst 0, 1) := by decide +kernel
theorem dL_law_1344 : decode cL_law 1344 = .ok (.ireturn, 1) := by decide +kernel
theorem dL_law_1345 : decode cL_law 1345 = .ok (.iload 5, 2) := by decide +kernel
theorem dL_law_1347 : decode cL_law 1347 = .ok (.ifCond .ne 15, 3) := by decide +kernel
theorem dL_law_1350 : decode cL_law 1350 = .ok (.aload_n 3, 1) := by decide +kernel
theorem dL_law_1351 : decode cL_law 1351 = .ok (.iconst 0, 1) := by decide +kernel
theorem dL_law_1352 : decode cL_law 1352 = .ok (.laload, 1) := by decide +kernel
theorem dL_law_1353 : decode cL_law 1353 = .ok (.iload 6, 2) := by decide +kernel
theorem dL_law_1355 : decode cL_law 1355 = .ok (.i2l, 1) := by decide +kernel
theorem dL_law_1356 : decode cL_law 1356 = .ok (.lcmp, 1) := by decide +kernel
theorem dL_law_1357 : decode cL_law 1357 = .ok (.ifCond .eq 5, 3) := by decide +kernel
theorem dL_law_1360 : decode cL_law 1360 = .ok (.iconst 0, 1) := by decide +kernel
theorem dL_law_1361 : decode cL_law 1361 = .ok (.ireturn, 1) := by decide +kernel
theorem dL_law_1362 : decode cL_law 1362 = .ok (.goto 588, 3) := by decide +kernel
theorem dL_law_1365 : decode cL_law 1365 = .ok (.aload_n 1, 1) := by decide +kernel
theorem dL_law_1366 : decode cL_law 1366 = .ok (.invokevirtual 182, 3) := by decide +kernel
theorem dL_law_1369 : decode cL_law 1369 = .ok (.aload_n 2, 1) := by decide +kernel
theorem dL_law_1370 : decode cL_law 1370 = .ok (.invokevirtual 185, 3) := by decide +kernel
theorem dL_law_1373 : decode cL_law 1373 = .ok (.if_icmp .eq 577, 3) := by decide +kernel
theorem dL_law_1376 : decode cL_law 1376 = .ok (.iconst 0, 1) := by decide +kernel
theorem dL_law_1377 : decode cL_law 1377 = .ok (.ireturn, 1) := by decide +kernel
theorem dL_law_1378 : decode cL_law 1378 = .ok (.aload_n 1, 1) := by decide +kernel
theorem dL_law_1379 : decode cL_law 1379 = .ok (.aload_n 3, 1) := by decide +kernel
theorem dL_law_1380 : decode cL_law 1380 = .ok (.invokestatic 186, 3) := by decide +kernel
theorem dL_law_1383 : decode cL_law 1383 = .ok (.istore 5, 2) := by decide +kernel
theorem dL_law_1385 : decode cL_law 1385 = .ok (.aload_n 2, 1) := by decide +kernel
theorem dL_law_1386 : decode cL_law 1386 = .ok (.invokevirtual 188, 3) := by decide +kernel
theorem dL_law_1389 : decode cL_law 1389 = .ok (.istore 6, 2) := by decide +kernel
theorem dL_law_1391 : decode cL_law 1391 = .ok (.aload_n 2, 1) := by decide +kernel
theorem dL_law_1392 : decode cL_law 1392 = .ok (.invokevirtual 107, 3) := by decide +kernel
theorem dL_law_1395 : decode cL_law 1395 = .ok (.iload 5, 2) := by decide +kernel
theorem dL_law_1397 : decode cL_law 1397 = .ok (.if_icmp .eq 5, 3) := by decide +kernel
theorem dL_law_1400 : decode cL_law 1400 = .ok (.iconst 0, 1) := by decide +kernel
theorem dL_law_1401 : decode cL_law 1401 = .ok (.ireturn, 1) := by decide +kernel
theorem dL_law_1402 : decode cL_law 1402 = .ok (.iload 5, 2) := by decide +kernel
theorem dL_law_1404 : decode cL_law 1404 = .ok (.ifCond .ne 15, 3) := by decide +kernel
theorem dL_law_1407 : decode cL_law 1407 = .ok (.aload_n 3, 1) := by decide +kernel
theorem dL_law_1408 : decode cL_law 1408 = .ok (.iconst 0, 1) := by decide +kernel
theorem dL_law_1409 : decode cL_law 1409 = .ok (.laload, 1) := by decide +kernel
theorem dL_law_1410 : decode cL_law 1410 = .ok (.iload 6, 2) := by decide +kernel
theorem dL_law_1412 : decode cL_law 1412 = .ok (.i2l, 1) := by decide +kernel
theorem dL_law_1413 : decode cL_law 1413 = .ok (.lcmp, 1) := by decide +kernel
theorem dL_law_1414 : decode cL_law 1414 = .ok (.ifCond .eq 5, 3) := by decide +kernel
theorem dL_law_1417 : decode cL_law 1417 = .ok (.iconst 0, 1) := by decide +kernel
theorem dL_law_1418 : decode cL_law 1418 = .ok (.ireturn, 1) := by decide +kernel
theorem dL_law_1419 : decode cL_law 1419 = .ok (.goto 531, 3) := by decide +kernel
theorem dL_law_1422 : decode cL_law 1422 = .ok (.aload_n 1, 1) := by decide +kernel
theorem dL_law_1423 : decode cL_law 1423 = .ok (.aload_n 0, 1) := by decide +kernel
theorem dL_law_1424 : decode cL_law 1424 = .ok (.iload 4, 2) := by decide +kernel
theorem dL_law_1426 : decode cL_law 1426 = .ok (.iconst 1, 1) := by decide +kernel
theorem dL_law_1427 : decode cL_law 1427 = .ok (.iadd, 1) := by decide +kernel
theorem dL_law_1428 : decode cL_law 1428 = .ok (.iaload, 1) := by decide +kernel
theorem dL_law_1429 : decode cL_law 1429 = .ok (.aload_n 0, 1) := by decide +kernel
theorem dL_law_1430 : decode cL_law 1430 = .ok (.iload 4, 2) := by decide +kernel
theorem dL_law_1432 : decode cL_law 1432 = .ok (.iconst 2, 1) := by decide +kernel
theorem dL_law_1433 : decode cL_law 1433 = .ok (.iadd, 1) := by decide +kernel
theorem dL_law_1434 : decode cL_law 1434 = .ok (.iaload, 1) := by decide +kernel
theorem dL_law_1435 : decode cL_law 1435 = .ok (.aload_n 3, 1) := by decide +kernel
theorem dL_law_1436 : decode cL_law 1436 = .ok (.invokestatic 189, 3) := by decide +kernel
theorem dL_law_1439 : decode cL_law 1439 = .ok (.istore 5, 2) := by decide +kernel
theorem dL_law_1441 : decode cL_law 1441 = .ok (.aload_n 2, 1) := by decide +kernel
theorem dL_law_1442 : decode cL_law 1442 = .ok (.aload_n 0, 1) := by decide +kernel
theorem dL_law_1443 : decode cL_law 1443 = .ok (.iload 4, 2) := by decide +kernel
theorem dL_law_1445 : decode cL_law 1445 = .ok (.iconst 1, 1) := by decide +kernel
theorem dL_law_1446 : decode cL_law 1446 = .ok (.iadd, 1) := by decide +kernel
theorem dL_law_1447 : decode cL_law 1447 = .ok (.iaload, 1) := by decide +kernel
theorem dL_law_1448 : decode cL_law 1448 = .ok (.aload_n 0, 1) := by decide +kernel
theorem dL_law_1449 : decode cL_law 1449 = .ok (.iload 4, 2) := by decide +kernel
theorem dL_law_1451 : decode cL_law 1451 = .ok (.iconst 2, 1) := by decide +kernel
theorem dL_law_1452 : decode cL_law 1452 = .ok (.iadd, 1) := by decide +kernel
theorem dL_law_1453 : decode cL_law 1453 = .ok (.iaload, 1) := by decide +kernel
theorem dL_law_1454 : decode cL_law 1454 = .ok (.invokevirtual 191, 3) := by decide +kernel
theorem dL_law_1457 : decode cL_law 1457 = .ok (.istore 6, 2) := by decide +kernel
theorem dL_law_1459 : decode cL_law 1459 = .ok (.aload_n 2, 1) := by decide +kernel
theorem dL_law_1460 : decode cL_law 1460 = .ok (.invokevirtual 107, 3) := by decide +kernel
theorem dL_law_1463 : decode cL_law 1463 = .ok (.iload 5, 2) := by decide +kernel
theorem dL_law_1465 : decode cL_law 1465 = .ok (.if_icmp .eq 5, 3) := by decide +kernel
theorem dL_law_1468 : decode cL_law 1468 = .ok (.iconst 0, 1) := by decide +kernel
theorem dL_law_1469 : decode cL_law 1469 = .ok (.ireturn, 1) := by decide +kernel
theorem dL_law_1470 : decode cL_law 1470 = .ok (.iload 5, 2) := by decide +kernel
theorem dL_law_1472 : decode cL_law 1472 = .ok (.ifCond .ne 15, 3) := by decide +kernel
theorem dL_law_1475 : decode cL_law 1475 = .ok (.aload_n 3, 1) := by decide +kernel
theorem dL_law_1476 : decode cL_law 1476 = .ok (.iconst 0, 1) := by decide +kernel
theorem dL_law_1477 : decode cL_law 1477 = .ok (.laload, 1) := by decide +kernel
theorem dL_law_1478 : decode cL_law 1478 = .ok (.iload 6, 2) := by decide +kernel
theorem dL_law_1480 : decode cL_law 1480 = .ok (.i2l, 1) := by decide +kernel
theorem dL_law_1481 : decode cL_law 1481 = .ok (.lcmp, 1) := by decide +kernel
theorem dL_law_1482 : decode cL_law 1482 = .ok (.ifCond .eq 5, 3) := by decide +kernel
theorem dL_law_1485 : decode cL_law 1485 = .ok (.iconst 0, 1) := by decide +kernel
theorem dL_law_1486 : decode cL_law 1486 = .ok (.ireturn, 1) := by decide +kernel
theorem dL_law_1487 : decode cL_law 1487 = .ok (.goto 463, 3) := by decide +kernel
theorem dL_law_1490 : decode cL_law 1490 = .ok (.aload_n 1, 1) := by decide +kernel
theorem dL_law_1491 : decode cL_law 1491 = .ok (.aload_n 0, 1) := by decide +kernel
theorem dL_law_1492 : decode cL_law 1492 = .ok (.iload 4, 2) := by decide +kernel
theorem dL_law_1494 : decode cL_law 1494 = .ok (.iconst 1, 1) := by decide +kernel
theorem dL_law_1495 : decode cL_law 1495 = .ok (.iadd, 1) := by decide +kernel
theorem dL_law_1496 : decode cL_law 1496 = .ok (.iaload, 1) := by decide +kernel
theorem dL_law_1497 : decode cL_law 1497 = .ok (.aload_n 0, 1) := by decide +kernel
theorem dL_law_1498 : decode cL_law 1498 = .ok (.iload 4, 2) := by decide +kernel
theorem dL_law_1500 : decode cL_law 1500 = .ok (.iconst 2, 1) := by decide +kernel
theorem dL_law_1501 : decode cL_law 1501 = .ok (.iadd, 1) := by decide +kernel
theorem dL_law_1502 : decode cL_law 1502 = .ok (.iaload, 1) := by decide +kernel
theorem dL_law_1503 : decode cL_law 1503 = .ok (.aload_n 0, 1) := by decide +kernel
theorem dL_law_1504 : decode cL_law 1504 = .ok (.iload 4, 2) := by decide +kernel
theorem dL_law_1506 : decode cL_law 1506 = .ok (.iconst 3, 1) := by decide +kernel
theorem dL_law_1507 : decode cL_law 1507 = .ok (.iadd, 1) := by decide +kernel
theorem dL_law_1508 : decode cL_law 1508 = .ok (.iaload, 1) := by decide +kernel
theorem dL_law_1509 : decode cL_law 1509 = .ok (.aload_n 0, 1) := by decide +kernel
theorem dL_law_1510 : decode cL_law 1510 = .ok (.iload 4, 2) := by decide +kernel
theorem dL_law_1512 : decode cL_law 1512 = .ok (.iconst 4, 1) := by decide +kernel
theorem dL_law_1513 : decode cL_law 1513 = .ok (.iadd, 1) := by decide +kernel
theorem dL_law_1514 : decode cL_law 1514 = .ok (.iaload, 1) := by decide +kernel
theorem dL_law_1515 : decode cL_law 1515 = .ok (.aload_n 3, 1) := by decide +kernel
theorem dL_law_1516 : decode cL_law 1516 = .ok (.invokestatic 192, 3) := by decide +kernel
theorem dL_law_1519 : decode cL_law 1519 = .ok (.istore 5, 2) := by decide +kernel
theorem dL_law_1521 : decode cL_law 1521 = .ok (.aload_n 2, 1) := by decide +kernel
theorem dL_law_1522 : decode cL_law 1522 = .ok (.aload_n 0, 1) := by decide +kernel
theorem dL_law_1523 : decode cL_law 1523 = .ok (.iload 4, 2) := by decide +kernel
theorem dL_law_1525 : decode cL_law 1525 = .ok (.iconst 1, 1) := by decide +kernel
theorem dL_law_1526 : decode cL_law 1526 = .ok (.iadd, 1) := by decide +kernel
theorem dL_law_1527 : decode cL_law 1527 = .ok (.iaload, 1) := by decide +kernel
theorem dL_law_1528 : decode cL_law 1528 = .ok (.aload_n 0, 1) := by decide +kernel
theorem dL_law_1529 : decode cL_law 1529 = .ok (.iload 4, 2) := by decide +kernel
theorem dL_law_1531 : decode cL_law 1531 = .ok (.iconst 2, 1) := by decide +kernel
theorem dL_law_1532 : decode cL_law 1532 = .ok (.iadd, 1) := by decide +kernel
theorem dL_law_1533 : decode cL_law 1533 = .ok (.iaload, 1) := by decide +kernel
theorem dL_law_1534 : decode cL_law 1534 = .ok (.aload_n 0, 1) := by decide +kernel
theorem dL_law_1535 : decode cL_law 1535 = .ok (.iload 4, 2) := by decide +kernel
theorem dL_law_1537 : decode cL_law 1537 = .ok (.iconst 3, 1) := by decide +kernel
theorem dL_law_1538 : decode cL_law 1538 = .ok (.iadd, 1) := by decide +kernel
theorem dL_law_1539 : decode cL_law 1539 = .ok (.iaload, 1) := by decide +kernel
theorem dL_law_1540 : decode cL_law 1540 = .ok (.aload_n 0, 1) := by decide +kernel
theorem dL_law_1541 : decode cL_law 1541 = .ok (.iload 4, 2) := by decide +kernel
theorem dL_law_1543 : decode cL_law 1543 = .ok (.iconst 4, 1) := by decide +kernel
theorem dL_law_1544 : decode cL_law 1544 = .ok (.iadd, 1) := by decide +kernel
theorem dL_law_1545 : decode cL_law 1545 = .ok (.iaload, 1) := by decide +kernel
theorem dL_law_1546 : decode cL_law 1546 = .ok (.invokevirtual 194, 3) := by decide +kernel
theorem dL_law_1549 : decode cL_law 1549 = .ok (.istore 6, 2) := by decide +kernel
theorem dL_law_1551 : decode cL_law 1551 = .ok (.aload_n 2, 1) := by decide +kernel
theorem dL_law_1552 : decode cL_law 1552 = .ok (.invokevirtual 107, 3) := by decide +kernel
theorem dL_law_1555 : decode cL_law 1555 = .ok (.iload 5, 2) := by decide +kernel
theorem dL_law_1557 : decode cL_law 1557 = .ok (.if_icmp .eq 5, 3) := by decide +kernel
theorem dL_law_1560 : decode cL_law 1560 = .ok (.iconst 0, 1) := by decide +kernel
theorem dL_law_1561 : decode cL_law 1561 = .ok (.ireturn, 1) := by decide +kernel
theorem dL_law_1562 : decode cL_law 1562 = .ok (.iload 5, 2) := by decide +kernel
theorem dL_law_1564 : decode cL_law 1564 = .ok (.ifCond .ne 15, 3) := by decide +kernel
theorem dL_law_1567 : decode cL_law 1567 = .ok (.aload_n 3, 1) := by decide +kernel
theorem dL_law_1568 : decode cL_law 1568 = .ok (.iconst 0, 1) := by decide +kernel
theorem dL_law_1569 : decode cL_law 1569 = .ok (.laload, 1) := by decide +kernel
theorem dL_law_1570 : decode cL_law 1570 = .ok (.iload 6, 2) := by decide +kernel
theorem dL_law_1572 : decode cL_law 1572 = .ok (.i2l, 1) := by decide +kernel
theorem dL_law_1573 : decode cL_law 1573 = .ok (.lcmp, 1) := by decide +kernel
theorem dL_law_1574 : decode cL_law 1574 = .ok (.ifCond .eq 5, 3) := by decide +kernel
theorem dL_law_1577 : decode cL_law 1577 = .ok (.iconst 0, 1) := by decide +kernel
theorem dL_law_1578 : decode cL_law 1578 = .ok (.ireturn, 1) := by decide +kernel
theorem dL_law_1579 : decode cL_law 1579 = .ok (.goto 371, 3) := by decide +kernel
theorem dL_law_1582 : decode cL_law 1582 = .ok (.aload_n 1, 1) := by decide +kernel
theorem dL_law_1583 : decode cL_law 1583 = .ok (.aload_n 0, 1) := by decide +kernel
theorem dL_law_1584 : decode cL_law 1584 = .ok (.iload 4, 2) := by decide +kernel
theorem dL_law_1586 : decode cL_law 1586 = .ok (.iconst 1, 1) := by decide +kernel
theorem dL_law_1587 : decode cL_law 1587 = .ok (.iadd, 1) := by decide +kernel
theorem dL_law_1588 : decode cL_law 1588 = .ok (.iaload, 1) := by decide +kernel
theorem dL_law_1589 : decode cL_law 1589 = .ok (.aload_n 3, 1) := by decide +kernel
theorem dL_law_1590 : decode cL_law 1590 = .ok (.invokestatic 195, 3) := by decide +kernel
theorem dL_law_1593 : decode cL_law 1593 = .ok (.istore 5, 2) := by decide +kernel
theorem dL_law_1595 : decode cL_law 1595 = .ok (.aload_n 2, 1) := by decide +kernel
theorem dL_law_1596 : decode cL_law 1596 = .ok (.aload_n 0, 1) := by decide +kernel
theorem dL_law_1597 : decode cL_law 1597 = .ok (.iload 4, 2) := by decide +kernel
theorem dL_law_1599 : decode cL_law 1599 = .ok (.iconst 1, 1) := by decide +kernel
theorem dL_law_1600 : decode cL_law 1600 = .ok (.iadd, 1) := by decide +kernel
theorem dL_law_1601 : decode cL_law 1601 = .ok (.iaload, 1) := by decide +kernel
theorem dL_law_1602 : decode cL_law 1602 = .ok (.invokevirtual 197, 3) := by decide +kernel
theorem dL_law_1605 : decode cL_law 1605 = .ok (.istore 6, 2) := by decide +kernel
theorem dL_law_1607 : decode cL_law 1607 = .ok (.aload_n 2, 1) := by decide +kernel
theorem dL_law_1608 : decode cL_law 1608 = .ok (.invokevirtual 107, 3) := by decide +kernel
theorem dL_law_1611 : decode cL_law 1611 = .ok (.iload 5, 2) := by decide +kernel
theorem dL_law_1613 : decode cL_law 1613 = .ok (.if_icmp .eq 5, 3) := by decide +kernel
theorem dL_law_1616 : decode cL_law 1616 = .ok (.iconst 0, 1) := by decide +kernel
theorem dL_law_1617 : decode cL_law 1617 = .ok (.ireturn, 1) := by decide +kernel
theorem dL_law_1618 : decode cL_law 1618 = .ok (.iload 5, 2) := by decide +kernel
theorem dL_law_1620 : decode cL_law 1620 = .ok (.ifCond .ne 15, 3) := by decide +kernel
theorem dL_law_1623 : decode cL_law 1623 = .ok (.aload_n 3, 1) := by decide +kernel
theorem dL_law_1624 : decode cL_law 1624 = .ok (.iconst 0, 1) := by decide +kernel
theorem dL_law_1625 : decode cL_law 1625 = .ok (.laload, 1) := by decide +kernel
theorem dL_law_1626 : decode cL_law 1626 = .ok (.iload 6, 2) := by decide +kernel
theorem dL_law_1628 : decode cL_law 1628 = .ok (.i2l, 1) := by decide +kernel
theorem dL_law_1629 : decode cL_law 1629 = .ok (.lcmp, 1) := by decide +kernel
theorem dL_law_1630 : decode cL_law 1630 = .ok (.ifCond .eq 5, 3) := by decide +kernel
theorem dL_law_1633 : decode cL_law 1633 = .ok (.iconst 0, 1) := by decide +kernel
theorem dL_law_1634 : decode cL_law 1634 = .ok (.ireturn, 1) := by decide +kernel
theorem dL_law_1635 : decode cL_law 1635 = .ok (.goto 315, 3) := by decide +kernel
theorem dL_law_1638 : decode cL_law 1638 = .ok (.aload_n 1, 1) := by decide +kernel
theorem dL_law_1639 : decode cL_law 1639 = .ok (.aload_n 0, 1) := by decide +kernel
theorem dL_law_1640 : decode cL_law 1640 = .ok (.iload 4, 2) := by decide +kernel
theorem dL_law_1642 : decode cL_law 1642 = .ok (.iconst 1, 1) := by decide +kernel
theorem dL_law_1643 : decode cL_law 1643 = .ok (.iadd, 1) := by decide +kernel
theorem dL_law_1644 : decode cL_law 1644 = .ok (.iaload, 1) := by decide +kernel
theorem dL_law_1645 : decode cL_law 1645 = .ok (.aload_n 0, 1) := by decide +kernel
theorem dL_law_1646 : decode cL_law 1646 = .ok (.iload 4, 2) := by decide +kernel
theorem dL_law_1648 : decode cL_law 1648 = .ok (.iconst 2, 1) := by decide +kernel
theorem dL_law_1649 : decode cL_law 1649 = .ok (.iadd, 1) := by decide +kernel
theorem dL_law_1650 : decode cL_law 1650 = .ok (.iaload, 1) := by decide +kernel
theorem dL_law_1651 : decode cL_law 1651 = .ok (.i2l, 1) := by decide +kernel
theorem dL_law_1652 : decode cL_law 1652 = .ok (.bipush 32, 2) := by decide +kernel
theorem dL_law_1654 : decode cL_law 1654 = .ok (.lshl, 1) := by decide +kernel
theorem dL_law_1655 : decode cL_law 1655 = .ok (.aload_n 0, 1) := by decide +kernel
theorem dL_law_1656 : decode cL_law 1656 = .ok (.iload 4, 2) := by decide +kernel
theorem dL_law_1658 : decode cL_law 1658 = .ok (.iconst 3, 1) := by decide +kernel
theorem dL_law_1659 : decode cL_law 1659 = .ok (.iadd, 1) := by decide +kernel
theorem dL_law_1660 : decode cL_law 1660 = .ok (.iaload, 1) := by decide +kernel
theorem dL_law_1661 : decode cL_law 1661 = .ok (.i2l, 1) := by decide +kernel
theorem dL_law_1662 : decode cL_law 1662 = .ok (.ldc2_w 129, 3) := by decide +kernel
theorem dL_law_1665 : decode cL_law 1665 = .ok (.land, 1) := by decide +kernel
theorem dL_law_1666 : decode cL_law 1666 = .ok (.lor, 1) := by decide +kernel
theorem dL_law_1667 : decode cL_law 1667 = .ok (.aload_n 3, 1) := by decide +kernel
theorem dL_law_1668 : decode cL_law 1668 = .ok (.invokestatic 198, 3) := by decide +kernel
theorem dL_law_1671 : decode cL_law 1671 = .ok (.istore 5, 2) := by decide +kernel
theorem dL_law_1673 : decode cL_law 1673 = .ok (.aload_n 2, 1) := by decide +kernel
theorem dL_law_1674 : decode cL_law 1674 = .ok (.aload_n 0, 1) := by decide +kernel
theorem dL_law_1675 : decode cL_law 1675 = .ok (.iload 4, 2) := by decide +kernel
theorem dL_law_1677 : decode cL_law 1677 = .ok (.iconst 1, 1) := by decide +kernel
theorem dL_law_1678 : decode cL_law 1678 = .ok (.iadd, 1) := by decide +kernel
theorem dL_law_1679 : decode cL_law 1679 = .ok (.iaload, 1) := by decide +kernel
theorem dL_law_1680 : decode cL_law 1680 = .ok (.aload_n 0, 1) := by decide +kernel
theorem dL_law_1681 : decode cL_law 1681 = .ok (.iload 4, 2) := by decide +kernel
theorem dL_law_1683 : decode cL_law 1683 = .ok (.iconst 2, 1) := by decide +kernel
theorem dL_law_1684 : decode cL_law 1684 = .ok (.iadd, 1) := by decide +kernel
theorem dL_law_1685 : decode cL_law 1685 = .ok (.iaload, 1) := by decide +kernel
theorem dL_law_1686 : decode cL_law 1686 = .ok (.i2l, 1) := by decide +kernel
theorem dL_law_1687 : decode cL_law 1687 = .ok (.bipush 32, 2) := by decide +kernel
theorem dL_law_1689 : decode cL_law 1689 = .ok (.lshl, 1) := by decide +kernel
theorem dL_law_1690 : decode cL_law 1690 = .ok (.aload_n 0, 1) := by decide +kernel
theorem dL_law_1691 : decode cL_law 1691 = .ok (.iload 4, 2) := by decide +kernel
theorem dL_law_1693 : decode cL_law 1693 = .ok (.iconst 3, 1) := by decide +kernel
theorem dL_law_1694 : decode cL_law 1694 = .ok (.iadd, 1) := by decide +kernel
theorem dL_law_1695 : decode cL_law 1695 = .ok (.iaload, 1) := by decide +kernel
theorem dL_law_1696 : decode cL_law 1696 = .ok (.i2l, 1) := by decide +kernel
theorem dL_law_1697 : decode cL_law 1697 = .ok (.ldc2_w 129, 3) := by decide +kernel
theorem dL_law_1700 : decode cL_law 1700 = .ok (.land, 1) := by decide +kernel
theorem dL_law_1701 : decode cL_law 1701 = .ok (.lor, 1) := by decide +kernel
theorem dL_law_1702 : decode cL_law 1702 = .ok (.invokevirtual 200, 3) := by decide +kernel
theorem dL_law_1705 : decode cL_law 1705 = .ok (.istore 6, 2) := by decide +kernel
theorem dL_law_1707 : decode cL_law 1707 = .ok (.aload_n 2, 1) := by decide +kernel
theorem dL_law_1708 : decode cL_law 1708 = .ok (.invokevirtual 107, 3) := by decide +kernel
theorem dL_law_1711 : decode cL_law 1711 = .ok (.iload 5, 2) := by decide +kernel
theorem dL_law_1713 : decode cL_law 1713 = .ok (.if_icmp .eq 5, 3) := by decide +kernel
theorem dL_law_1716 : decode cL_law 1716 = .ok (.iconst 0, 1) := by decide +kernel
theorem dL_law_1717 : decode cL_law 1717 = .ok (.ireturn, 1) := by decide +kernel
theorem dL_law_1718 : decode cL_law 1718 = .ok (.iload 5, 2) := by decide +kernel
theorem dL_law_1720 : decode cL_law 1720 = .ok (.ifCond .ne 15, 3) := by decide +kernel
theorem dL_law_1723 : decode cL_law 1723 = .ok (.aload_n 3, 1) := by decide +kernel
theorem dL_law_1724 : decode cL_law 1724 = .ok (.iconst 0, 1) := by decide +kernel
theorem dL_law_1725 : decode cL_law 1725 = .ok (.laload, 1) := by decide +kernel
theorem dL_law_1726 : decode cL_law 1726 = .ok (.iload 6, 2) := by decide +kernel
theorem dL_law_1728 : decode cL_law 1728 = .ok (.i2l, 1) := by decide +kernel
theorem dL_law_1729 : decode cL_law 1729 = .ok (.lcmp, 1) := by decide +kernel
theorem dL_law_1730 : decode cL_law 1730 = .ok (.ifCond .eq 5, 3) := by decide +kernel
theorem dL_law_1733 : decode cL_law 1733 = .ok (.iconst 0, 1) := by decide +kernel
theorem dL_law_1734 : decode cL_law 1734 = .ok (.ireturn, 1) := by decide +kernel
theorem dL_law_1735 : decode cL_law 1735 = .ok (.goto 215, 3) := by decide +kernel
theorem dL_law_1738 : decode cL_law 1738 = .ok (.aload_n 1, 1) := by decide +kernel
theorem dL_law_1739 : decode cL_law 1739 = .ok (.aload_n 0, 1) := by decide +kernel
theorem dL_law_1740 : decode cL_law 1740 = .ok (.iload 4, 2) := by decide +kernel
theorem dL_law_1742 : decode cL_law 1742 = .ok (.iconst 1, 1) := by decide +kernel
theorem dL_law_1743 : decode cL_law 1743 = .ok (.iadd, 1) := by decide +kernel
theorem dL_law_1744 : decode cL_law 1744 = .ok (.iaload, 1) := by decide +kernel
theorem dL_law_1745 : decode cL_law 1745 = .ok (.i2l, 1) := by decide +kernel
theorem dL_law_1746 : decode cL_law 1746 = .ok (.bipush 32, 2) := by decide +kernel
theorem dL_law_1748 : decode cL_law 1748 = .ok (.lshl, 1) := by decide +kernel
theorem dL_law_1749 : decode cL_law 1749 = .ok (.aload_n 0, 1) := by decide +kernel
theorem dL_law_1750 : decode cL_law 1750 = .ok (.iload 4, 2) := by decide +kernel
theorem dL_law_1752 : decode cL_law 1752 = .ok (.iconst 2, 1) := by decide +kernel
theorem dL_law_1753 : decode cL_law 1753 = .ok (.iadd, 1) := by decide +kernel
theorem dL_law_1754 : decode cL_law 1754 = .ok (.iaload, 1) := by decide +kernel
theorem dL_law_1755 : decode cL_law 1755 = .ok (.i2l, 1) := by decide +kernel
theorem dL_law_1756 : decode cL_law 1756 = .ok (.ldc2_w 129, 3) := by decide +kernel
theorem dL_law_1759 : decode cL_law 1759 = .ok (.land, 1) := by decide +kernel
theorem dL_law_1760 : decode cL_law 1760 = .ok (.lor, 1) := by decide +kernel
theorem dL_law_1761 : decode cL_law 1761 = .ok (.aload_n 0, 1) := by decide +kernel
theorem dL_law_1762 : decode cL_law 1762 = .ok (.iload 4, 2) := by decide +kernel
theorem dL_law_1764 : decode cL_law 1764 = .ok (.iconst 3, 1) := by decide +kernel
theorem dL_law_1765 : decode cL_law 1765 = .ok (.iadd, 1) := by decide +kernel
theorem dL_law_1766 : decode cL_law 1766 = .ok (.iaload, 1) := by decide +kernel
theorem dL_law_1767 : decode cL_law 1767 = .ok (.aload_n 3, 1) := by decide +kernel
theorem dL_law_1768 : decode cL_law 1768 = .ok (.invokestatic 201, 3) := by decide +kernel
theorem dL_law_1771 : decode cL_law 1771 = .ok (.istore 5, 2) := by decide +kernel
theorem dL_law_1773 : decode cL_law 1773 = .ok (.aload_n 2, 1) := by decide +kernel
theorem dL_law_1774 : decode cL_law 1774 = .ok (.aload_n 0, 1) := by decide +kernel
theorem dL_law_1775 : decode cL_law 1775 = .ok (.iload 4, 2) := by decide +kernel
theorem dL_law_1777 : decode cL_law 1777 = .ok (.iconst 1, 1) := by decide +kernel
theorem dL_law_1778 : decode cL_law 1778 = .ok (.iadd, 1) := by decide +kernel
theorem dL_law_1779 : decode cL_law 1779 = .ok (.iaload, 1) := by decide +kernel
theorem dL_law_1780 : decode cL_law 1780 = .ok (.i2l, 1) := by decide +kernel
theorem dL_law_1781 : decode cL_law 1781 = .ok (.bipush 32, 2) := by decide +kernel
theorem dL_law_1783 : decode cL_law 1783 = .ok (.lshl, 1) := by decide +kernel
theorem dL_law_1784 : decode cL_law 1784 = .ok (.aload_n 0, 1) := by decide +kernel
theorem dL_law_1785 : decode cL_law 1785 = .ok (.iload 4, 2) := by decide +kernel
theorem dL_law_1787 : decode cL_law 1787 = .ok (.iconst 2, 1) := by decide +kernel
theorem dL_law_1788 : decode cL_law 1788 = .ok (.iadd, 1) := by decide +kernel
theorem dL_law_1789 : decode cL_law 1789 = .ok (.iaload, 1) := by decide +kernel
theorem dL_law_1790 : decode cL_law 1790 = .ok (.i2l, 1) := by decide +kernel
theorem dL_law_1791 : decode cL_law 1791 = .ok (.ldc2_w 129, 3) := by decide +kernel
theorem dL_law_1794 : decode cL_law 1794 = .ok (.land, 1) := by decide +kernel
theorem dL_law_1795 : decode cL_law 1795 = .ok (.lor, 1) := by decide +kernel
theorem dL_law_1796 : decode cL_law 1796 = .ok (.aload_n 0, 1) := by decide +kernel
theorem dL_law_1797 : decode cL_law 1797 = .ok (.iload 4, 2) := by decide +kernel
theorem dL_law_1799 : decode cL_law 1799 = .ok (.iconst 3, 1) := by decide +kernel
theorem dL_law_1800 : decode cL_law 1800 = .ok (.iadd, 1) := by decide +kernel
theorem dL_law_1801 : decode cL_law 1801 = .ok (.iaload, 1) := by decide +kernel
theorem dL_law_1802 : decode cL_law 1802 = .ok (.invokevirtual 204, 3) := by decide +kernel
theorem dL_law_1805 : decode cL_law 1805 = .ok (.istore 6, 2) := by decide +kernel
theorem dL_law_1807 : decode cL_law 1807 = .ok (.aload_n 2, 1) := by decide +kernel
theorem dL_law_1808 : decode cL_law 1808 = .ok (.invokevirtual 107, 3) := by decide +kernel
theorem dL_law_1811 : decode cL_law 1811 = .ok (.iload 5, 2) := by decide +kernel
theorem dL_law_1813 : decode cL_law 1813 = .ok (.if_icmp .eq 5, 3) := by decide +kernel
theorem dL_law_1816 : decode cL_law 1816 = .ok (.iconst 0, 1) := by decide +kernel
theorem dL_law_1817 : decode cL_law 1817 = .ok (.ireturn, 1) := by decide +kernel
theorem dL_law_1818 : decode cL_law 1818 = .ok (.iload 5, 2) := by decide +kernel
theorem dL_law_1820 : decode cL_law 1820 = .ok (.ifCond .ne 15, 3) := by decide +kernel
theorem dL_law_1823 : decode cL_law 1823 = .ok (.aload_n 3, 1) := by decide +kernel
theorem dL_law_1824 : decode cL_law 1824 = .ok (.iconst 0, 1) := by decide +kernel
theorem dL_law_1825 : decode cL_law 1825 = .ok (.laload, 1) := by decide +kernel
theorem dL_law_1826 : decode cL_law 1826 = .ok (.iload 6, 2) := by decide +kernel
theorem dL_law_1828 : decode cL_law 1828 = .ok (.i2l, 1) := by decide +kernel
theorem dL_law_1829 : decode cL_law 1829 = .ok (.lcmp, 1) := by decide +kernel
theorem dL_law_1830 : decode cL_law 1830 = .ok (.ifCond .eq 5, 3) := by decide +kernel
theorem dL_law_1833 : decode cL_law 1833 = .ok (.iconst 0, 1) := by decide +kernel
theorem dL_law_1834 : decode cL_law 1834 = .ok (.ireturn, 1) := by decide +kernel
theorem dL_law_1835 : decode cL_law 1835 = .ok (.goto 115, 3) := by decide +kernel
theorem dL_law_1838 : decode cL_law 1838 = .ok (.aload_n 1, 1) := by decide +kernel
theorem dL_law_1839 : decode cL_law 1839 = .ok (.aload_n 0, 1) := by decide +kernel
theorem dL_law_1840 : decode cL_law 1840 = .ok (.iload 4, 2) := by decide +kernel
theorem dL_law_1842 : decode cL_law 1842 = .ok (.iconst 1, 1) := by decide +kernel
theorem dL_law_1843 : decode cL_law 1843 = .ok (.iadd, 1) := by decide +kernel
theorem dL_law_1844 : decode cL_law 1844 = .ok (.iaload, 1) := by decide +kernel
theorem dL_law_1845 : decode cL_law 1845 = .ok (.aload_n 3, 1) := by decide +kernel
theorem dL_law_1846 : decode cL_law 1846 = .ok (.invokestatic 205, 3) := by decide +kernel
theorem dL_law_1849 : decode cL_law 1849 = .ok (.istore 5, 2) := by decide +kernel
theorem dL_law_1851 : decode cL_law 1851 = .ok (.aload_n 2, 1) := by decide +kernel
theorem dL_law_1852 : decode cL_law 1852 = .ok (.aload_n 0, 1) := by decide +kernel
theorem dL_law_1853 : decode cL_law 1853 = .ok (.iload 4, 2) := by decide +kernel
theorem dL_law_1855 : decode cL_law 1855 = .ok (.iconst 1, 1) := by decide +kernel
theorem dL_law_1856 : decode cL_law 1856 = .ok (.iadd, 1) := by decide +kernel
theorem dL_law_1857 : decode cL_law 1857 = .ok (.iaload, 1) := by decide +kernel
theorem dL_law_1858 : decode cL_law 1858 = .ok (.invokevirtual 207, 3) := by decide +kernel
theorem dL_law_1861 : decode cL_law 1861 = .ok (.istore 6, 2) := by decide +kernel
theorem dL_law_1863 : decode cL_law 1863 = .ok (.aload_n 2, 1) := by decide +kernel
theorem dL_law_1864 : decode cL_law 1864 = .ok (.invokevirtual 107, 3) := by decide +kernel
theorem dL_law_1867 : decode cL_law 1867 = .ok (.iload 5, 2) := by decide +kernel
theorem dL_law_1869 : decode cL_law 1869 = .ok (.if_icmp .eq 5, 3) := by decide +kernel
theorem dL_law_1872 : decode cL_law 1872 = .ok (.iconst 0, 1) := by decide +kernel
theorem dL_law_1873 : decode cL_law 1873 = .ok (.ireturn, 1) := by decide +kernel
theorem dL_law_1874 : decode cL_law 1874 = .ok (.iload 5, 2) := by decide +kernel
theorem dL_law_1876 : decode cL_law 1876 = .ok (.ifCond .ne 15, 3) := by decide +kernel
theorem dL_law_1879 : decode cL_law 1879 = .ok (.aload_n 3, 1) := by decide +kernel
theorem dL_law_1880 : decode cL_law 1880 = .ok (.iconst 0, 1) := by decide +kernel
theorem dL_law_1881 : decode cL_law 1881 = .ok (.laload, 1) := by decide +kernel
theorem dL_law_1882 : decode cL_law 1882 = .ok (.iload 6, 2) := by decide +kernel
theorem dL_law_1884 : decode cL_law 1884 = .ok (.i2l, 1) := by decide +kernel
theorem dL_law_1885 : decode cL_law 1885 = .ok (.lcmp, 1) := by decide +kernel
theorem dL_law_1886 : decode cL_law 1886 = .ok (.ifCond .eq 5, 3) := by decide +kernel
theorem dL_law_1889 : decode cL_law 1889 = .ok (.iconst 0, 1) := by decide +kernel
theorem dL_law_1890 : decode cL_law 1890 = .ok (.ireturn, 1) := by decide +kernel
theorem dL_law_1891 : decode cL_law 1891 = .ok (.goto 59, 3) := by decide +kernel
theorem dL_law_1894 : decode cL_law 1894 = .ok (.aload_n 1, 1) := by decide +kernel
theorem dL_law_1895 : decode cL_law 1895 = .ok (.aload_n 0, 1) := by decide +kernel
theorem dL_law_1896 : decode cL_law 1896 = .ok (.iload 4, 2) := by decide +kernel
theorem dL_law_1898 : decode cL_law 1898 = .ok (.iconst 1, 1) := by decide +kernel
theorem dL_law_1899 : decode cL_law 1899 = .ok (.iadd, 1) := by decide +kernel
theorem dL_law_1900 : decode cL_law 1900 = .ok (.iaload, 1) := by decide +kernel
theorem dL_law_1901 : decode cL_law 1901 = .ok (.aload_n 3, 1) := by decide +kernel
theorem dL_law_1902 : decode cL_law 1902 = .ok (.invokestatic 208, 3) := by decide +kernel
theorem dL_law_1905 : decode cL_law 1905 = .ok (.istore 5, 2) := by decide +kernel
theorem dL_law_1907 : decode cL_law 1907 = .ok (.aload_n 2, 1) := by decide +kernel
theorem dL_law_1908 : decode cL_law 1908 = .ok (.aload_n 0, 1) := by decide +kernel
theorem dL_law_1909 : decode cL_law 1909 = .ok (.iload 4, 2) := by decide +kernel
theorem dL_law_1911 : decode cL_law 1911 = .ok (.iconst 1, 1) := by decide +kernel
theorem dL_law_1912 : decode cL_law 1912 = .ok (.iadd, 1) := by decide +kernel
theorem dL_law_1913 : decode cL_law 1913 = .ok (.iaload, 1) := by decide +kernel
theorem dL_law_1914 : decode cL_law 1914 = .ok (.invokevirtual 210, 3) := by decide +kernel
theorem dL_law_1917 : decode cL_law 1917 = .ok (.istore 6, 2) := by decide +kernel
theorem dL_law_1919 : decode cL_law 1919 = .ok (.aload_n 2, 1) := by decide +kernel
theorem dL_law_1920 : decode cL_law 1920 = .ok (.invokevirtual 107, 3) := by decide +kernel
theorem dL_law_1923 : decode cL_law 1923 = .ok (.iload 5, 2) := by decide +kernel
theorem dL_law_1925 : decode cL_law 1925 = .ok (.if_icmp .eq 5, 3) := by decide +kernel
theorem dL_law_1928 : decode cL_law 1928 = .ok (.iconst 0, 1) := by decide +kernel
theorem dL_law_1929 : decode cL_law 1929 = .ok (.ireturn, 1) := by decide +kernel
theorem dL_law_1930 : decode cL_law 1930 = .ok (.iload 5, 2) := by decide +kernel
theorem dL_law_1932 : decode cL_law 1932 = .ok (.ifCond .ne 15, 3) := by decide +kernel
theorem dL_law_1935 : decode cL_law 1935 = .ok (.aload_n 3, 1) := by decide +kernel
theorem dL_law_1936 : decode cL_law 1936 = .ok (.iconst 0, 1) := by decide +kernel
theorem dL_law_1937 : decode cL_law 1937 = .ok (.laload, 1) := by decide +kernel
theorem dL_law_1938 : decode cL_law 1938 = .ok (.iload 6, 2) := by decide +kernel
theorem dL_law_1940 : decode cL_law 1940 = .ok (.i2l, 1) := by decide +kernel
theorem dL_law_1941 : decode cL_law 1941 = .ok (.lcmp, 1) := by decide +kernel
theorem dL_law_1942 : decode cL_law 1942 = .ok (.ifCond .eq 5, 3) := by decide +kernel
theorem dL_law_1945 : decode cL_law 1945 = .ok (.iconst 0, 1) := by decide +kernel
theorem dL_law_1946 : decode cL_law 1946 = .ok (.ireturn, 1) := by decide +kernel
theorem dL_law_1947 : decode cL_law 1947 = .ok (.goto 3, 3) := by decide +kernel
theorem dL_law_1950 : decode cL_law 1950 = .ok (.iinc 4 5, 3) := by decide +kernel
theorem dL_law_1953 : decode cL_law 1953 = .ok (.goto (-1930), 3) := by decide +kernel
theorem dL_law_1956 : decode cL_law 1956 = .ok (.iconst 1, 1) := by decide +kernel
theorem dL_law_1957 : decode cL_law 1957 = .ok (.ireturn, 1) := by decide +kernel

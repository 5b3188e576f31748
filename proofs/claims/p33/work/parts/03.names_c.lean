theorem dX4_fits_11 : decode cX4_fits 11 = .ok (.aload_n 0, 1) := by decide +kernel
theorem dX4_fits_12 : decode cX4_fits 12 = .ok (.getfield 9, 3) := by decide +kernel
theorem dX4_fits_15 : decode cX4_fits 15 = .ok (.aload_n 0, 1) := by decide +kernel
theorem dX4_fits_16 : decode cX4_fits 16 = .ok (.iload_n 2, 1) := by decide +kernel
theorem dX4_fits_17 : decode cX4_fits 17 = .ok (.invokevirtual 59, 3) := by decide +kernel
theorem dX4_fits_20 : decode cX4_fits 20 = .ok (.aload_n 0, 1) := by decide +kernel
theorem dX4_fits_21 : decode cX4_fits 21 = .ok (.iload_n 2, 1) := by decide +kernel
theorem dX4_fits_22 : decode cX4_fits 22 = .ok (.invokevirtual 63, 3) := by decide +kernel
theorem dX4_fits_25 : decode cX4_fits 25 = .ok (.invokevirtual 97, 3) := by decide +kernel
theorem dX4_fits_28 : decode cX4_fits 28 = .ok (.bipush (-9), 2) := by decide +kernel
theorem dX4_fits_30 : decode cX4_fits 30 = .ok (.if_icmp .ne 5, 3) := by decide +kernel
theorem dX4_fits_33 : decode cX4_fits 33 = .ok (.iconst 0, 1) := by decide +kernel
theorem dX4_fits_34 : decode cX4_fits 34 = .ok (.ireturn, 1) := by decide +kernel
theorem dX4_fits_35 : decode cX4_fits 35 = .ok (.iinc 2 1, 3) := by decide +kernel
theorem dX4_fits_38 : decode cX4_fits 38 = .ok (.goto (-36), 3) := by decide +kernel
theorem dX4_fits_41 : decode cX4_fits 41 = .ok (.iconst 1, 1) := by decide +kernel
theorem dX4_fits_42 : decode cX4_fits 42 = .ok (.ireturn, 1) := by decide +kernel
set_option maxRecDepth 20000 in
theorem ggX4_fitting_X4_find : GoodIn wsX4_fitting wsX4_find := goodIn_r _ [6, 1, 7, 52, 53, 54, 55, 56, 57] (by decide +kernel) (by decide +kernel)
set_option maxRecDepth 20000 in
theorem gX4_fitting_X4_find : GoodIn wsX4_fitting (wsV RX4 36 RX4 yX4_find wsX4_find) := goodIn_app (goodIn_of _ (by decide +kernel)) ggX4_fitting_X4_find
set_option maxRecDepth 20000 in
theorem ggX4_fitting_X4_fits : GoodIn wsX4_fitting wsX4_fits := goodIn_r _ [11, 12, 13, 14, 15, 16, 5, 17, 18, 19, 20, 21, 22, 23, 24, 25, 26, 27, 28, 29, 30, 31, 32, 33, 34, 35, 36, 37, 38, 39, 40, 41, 42, 43, 44, 45, 46, 47, 48, 49, 50, 51, 52, 53, 54, 55, 56, 57, 58, 59, 60, 61] (by decide +kernel) (by decide +kernel)
set_option maxRecDepth 20000 in
theorem gX4_fitting_X4_fits : GoodIn wsX4_fitting (wsV RX4 101 RX4 yX4_fits wsX4_fits) := goodIn_app (goodIn_of _ (by decide +kernel)) ggX4_fitting_X4_fits
theorem dX4_fitting_0 : decode cX4_fitting 0 = .ok (.iconst 0, 1) := by decide +kernel
theorem dX4_fitting_1 : decode cX4_fitting 1 = .ok (.istore_n 1, 1) := by decide +kernel
theorem dX4_fitting_2 : decode cX4_fitting 2 = .ok (.iconst 0, 1) := by decide +kernel
theorem dX4_fitting_3 : decode cX4_fitting 3 = .ok (.istore_n 2, 1) := by decide +kernel
theorem dX4_fitting_4 : decode cX4_fitting 4 = .ok (.iload_n 2, 1) := by decide +kernel
theorem dX4_fitting_5 : decode cX4_fitting 5 = .ok (.aload_n 0, 1) := by decide +kernel
theorem dX4_fitting_6 : decode cX4_fitting 6 = .ok (.getfield 33, 3) := by decide +kernel
theorem dX4_fitting_9 : decode cX4_fitting 9 = .ok (.if_icmp .ge 30, 3) := by decide +kernel
theorem dX4_fitting_12 : decode cX4_fitting 12 = .ok (.aload_n 0, 1) := by decide +kernel
theorem dX4_fitting_13 : decode cX4_fitting 13 = .ok (.iload_n 2, 1) := by decide +kernel
theorem dX4_fitting_14 : decode cX4_fitting 14 = .ok (.invokevirtual 36, 3) := by decide +kernel
theorem dX4_fitting_17 : decode cX4_fitting 17 = .ok (.astore_n 3, 1) := by decide +kernel
theorem dX4_fitting_18 : decode cX4_fitting 18 = .ok (.aload_n 3, 1) := by decide +kernel
theorem dX4_fitting_19 : decode cX4_fitting 19 = .ok (.ifnull 14, 3) := by decide +kernel
theorem dX4_fitting_22 : decode cX4_fitting 22 = .ok (.aload_n 0, 1) := by decide +kernel
theorem dX4_fitting_23 : decode cX4_fitting 23 = .ok (.aload_n 3, 1) := by decide +kernel
theorem dX4_fitting_24 : decode cX4_fitting 24 = .ok (.invokevirtual 101, 3) := by decide +kernel
theorem dX4_fitting_27 : decode cX4_fitting 27 = .ok (.ifCond .eq 6, 3) := by decide +kernel
theorem dX4_fitting_30 : decode cX4_fitting 30 = .ok (.iinc 1 1, 3) := by decide +kernel
theorem dX4_fitting_33 : decode cX4_fitting 33 = .ok (.iinc 2 1, 3) := by decide +kernel
theorem dX4_fitting_36 : decode cX4_fitting 36 = .ok (.goto (-32), 3) := by decide +kernel
theorem dX4_fitting_39 : decode cX4_fitting 39 = .ok (.iload_n 1, 1) := by decide +kernel
theorem dX4_fitting_40 : decode cX4_fitting 40 = .ok (.ireturn, 1) := by decide +kernel
set_option maxRecDepth 20000 in
theorem ggX4_layersThrough_X4_find : GoodIn wsX4_layersThrough wsX4_find := goodIn_r _ [7, 1, 8, 37, 38, 39, 40, 41, 42] (by decide +kernel) (by decide +kernel)
set_option maxRecDepth 20000 in
theorem gX4_layersThrough_X4_find : GoodIn wsX4_layersThrough (wsV RX4 36 RX4 yX4_find wsX4_find) := goodIn_app (goodIn_of _ (by decide +kernel)) ggX4_layersThrough_X4_find
set_option maxRecDepth 20000 in
theorem ggX4_layersThrough_X3_firstStepAt : GoodIn wsX4_layersThrough wsX3_firstStepAt := goodIn_r _ [13, 14, 15, 16, 17, 18, 19, 20, 12, 21, 22, 23, 24, 25, 26, 27, 28, 29, 30, 31, 32, 33, 34, 35, 36, 43, 44, 45, 46] (by decide +kernel) (by decide +kernel)
set_option maxRecDepth 20000 in
theorem gX4_layersThrough_X3_firstStepAt : GoodIn wsX4_layersThrough (wsV RX4 97 RX3 yX3_firstStepAt wsX3_firstStepAt) := goodIn_app (goodIn_of _ (by decide +kernel)) ggX4_layersThrough_X3_firstStepAt
theorem dX4_layersThrough_0 : decode cX4_layersThrough 0 = .ok (.iconst 0, 1) := by decide +kernel
theorem dX4_layersThrough_1 : decode cX4_layersThrough 1 = .ok (.istore_n 3, 1) := by decide +kernel
theorem dX4_layersThrough_2 : decode cX4_layersThrough 2 = .ok (.iconst 0, 1) := by decide +kernel
theorem dX4_layersThrough_3 : decode cX4_layersThrough 3 = .ok (.istore 4, 2) := by decide +kernel
theorem dX4_layersThrough_5 : decode cX4_layersThrough 5 = .ok (.iload 4, 2) := by decide +kernel
theorem dX4_layersThrough_7 : decode cX4_layersThrough 7 = .ok (.aload_n 0, 1) := by decide +kernel
theorem dX4_layersThrough_8 : decode cX4_layersThrough 8 = .ok (.getfield 33, 3) := by decide +kernel
theorem dX4_layersThrough_11 : decode cX4_layersThrough 11 = .ok (.if_icmp .ge 41, 3) := by decide +kernel
theorem dX4_layersThrough_14 : decode cX4_layersThrough 14 = .ok (.aload_n 0, 1) := by decide +kernel
theorem dX4_layersThrough_15 : decode cX4_layersThrough 15 = .ok (.iload 4, 2) := by decide +kernel
theorem dX4_layersThrough_17 : decode cX4_layersThrough 17 = .ok (.invokevirtual 36, 3) := by decide +kernel
theorem dX4_layersThrough_20 : decode cX4_layersThrough 20 = .ok (.astore 5, 2) := by decide +kernel
theorem dX4_layersThrough_22 : decode cX4_layersThrough 22 = .ok (.aload 5, 2) := by decide +kernel
theorem dX4_layersThrough_24 : decode cX4_layersThrough 24 = .ok (.ifnull 22, 3) := by decide +kernel
theorem dX4_layersThrough_27 : decode cX4_layersThrough 27 = .ok (.aload 5, 2) := by decide +kernel
theorem dX4_layersThrough_29 : decode cX4_layersThrough 29 = .ok (.aload_n 0, 1) := by decide +kernel
theorem dX4_layersThrough_30 : decode cX4_layersThrough 30 = .ok (.getfield 9, 3) := by decide +kernel
theorem dX4_layersThrough_33 : decode cX4_layersThrough 33 = .ok (.iload_n 1, 1) := by decide +kernel
theorem dX4_layersThrough_34 : decode cX4_layersThrough 34 = .ok (.iload_n 2, 1) := by decide +kernel
theorem dX4_layersThrough_35 : decode cX4_layersThrough 35 = .ok (.invokevirtual 97, 3) := by decide +kernel
theorem dX4_layersThrough_38 : decode cX4_layersThrough 38 = .ok (.bipush (-9), 2) := by decide +kernel
theorem dX4_layersThrough_40 : decode cX4_layersThrough 40 = .ok (.if_icmp .eq 6, 3) := by decide +kernel
theorem dX4_layersThrough_43 : decode cX4_layersThrough 43 = .ok (.iinc 3 1, 3) := by decide +kernel
theorem dX4_layersThrough_46 : decode cX4_layersThrough 46 = .ok (.iinc 4 1, 3) := by decide +kernel
theorem dX4_layersThrough_49 : decode cX4_layersThrough 49 = .ok (.goto (-44), 3) := by decide +kernel
theorem dX4_layersThrough_52 : decode cX4_layersThrough 52 = .ok (.iload_n 3, 1) := by decide +kernel
theorem dX4_layersThrough_53 : decode cX4_layersThrough 53 = .ok (.ireturn, 1) := by decide +kernel
set_option maxRecDepth 20000 in
theorem ggX4_leastRadius_X4_find : GoodIn wsX4_leastRadius wsX4_find := goodIn_r _ [6, 1, 7, 32, 33, 34, 35, 36, 37] (by decide +kernel) (by decide +kernel)
set_option maxRecDepth 20000 in
theorem gX4_leastRadius_X4_find : GoodIn wsX4_leastRadius (wsV RX4 36 RX4 yX4_find wsX4_find) := goodIn_app (goodIn_of _ (by decide +kernel)) ggX4_leastRadius_X4_find
set_option maxRecDepth 20000 in
theorem ggX4_leastRadius_X3_leastRadius : GoodIn wsX4_leastRadius wsX3_leastRadius := goodIn_r _ [12, 13, 14, 15, 16, 17, 18, 19, 20, 11, 21, 22, 23, 24, 25, 26, 27, 28, 29, 30, 31, 38, 39, 40, 41] (by decide +kernel) (by decide +kernel)
set_option maxRecDepth 20000 in
theorem gX4_leastRadius_X3_leastRadius : GoodIn wsX4_leastRadius (wsV RX4 105 RX3 yX3_leastRadius wsX3_leastRadius) := goodIn_app (goodIn_of _ (by decide +kernel)) ggX4_leastRadius_X3_leastRadius
theorem dX4_leastRadius_0 : decode cX4_leastRadius 0 = .ok (.bipush (-9), 2) := by decide +kernel
theorem dX4_leastRadius_2 : decode cX4_leastRadius 2 = .ok (.istore_n 1, 1) := by decide +kernel
theorem dX4_leastRadius_3 : decode cX4_leastRadius 3 = .ok (.iconst 0, 1) := by decide +kernel
theorem dX4_leastRadius_4 : decode cX4_leastRadius 4 = .ok (.istore_n 2, 1) := by decide +kernel
theorem dX4_leastRadius_5 : decode cX4_leastRadius 5 = .ok (.iload_n 2, 1) := by decide +kernel
theorem dX4_leastRadius_6 : decode cX4_leastRadius 6 = .ok (.aload_n 0, 1) := by decide +kernel
theorem dX4_leastRadius_7 : decode cX4_leastRadius 7 = .ok (.getfield 33, 3) := by decide +kernel
theorem dX4_leastRadius_10 : decode cX4_leastRadius 10 = .ok (.if_icmp .ge 38, 3) := by decide +kernel
theorem dX4_leastRadius_13 : decode cX4_leastRadius 13 = .ok (.aload_n 0, 1) := by decide +kernel
theorem dX4_leastRadius_14 : decode cX4_leastRadius 14 = .ok (.iload_n 2, 1) := by decide +kernel
theorem dX4_leastRadius_15 : decode cX4_leastRadius 15 = .ok (.invokevirtual 36, 3) := by decide +kernel
theorem dX4_leastRadius_18 : decode cX4_leastRadius 18 = .ok (.astore_n 3, 1) := by decide +kernel
theorem dX4_leastRadius_19 : decode cX4_leastRadius 19 = .ok (.aload_n 3, 1) := by decide +kernel
theorem dX4_leastRadius_20 : decode cX4_leastRadius 20 = .ok (.ifnull 22, 3) := by decide +kernel
theorem dX4_leastRadius_23 : decode cX4_leastRadius 23 = .ok (.iload_n 1, 1) := by decide +kernel
theorem dX4_leastRadius_24 : decode cX4_leastRadius 24 = .ok (.bipush (-9), 2) := by decide +kernel
theorem dX4_leastRadius_26 : decode cX4_leastRadius 26 = .ok (.if_icmp .eq 11, 3) := by decide +kernel
theorem dX4_leastRadius_29 : decode cX4_leastRadius 29 = .ok (.aload_n 3, 1) := by decide +kernel
theorem dX4_leastRadius_30 : decode cX4_leastRadius 30 = .ok (.invokevirtual 105, 3) := by decide +kernel
theorem dX4_leastRadius_33 : decode cX4_leastRadius 33 = .ok (.iload_n 1, 1) := by decide +kernel
theorem dX4_leastRadius_34 : decode cX4_leastRadius 34 = .ok (.if_icmp .ge 8, 3) := by decide +kernel
theorem dX4_leastRadius_37 : decode cX4_leastRadius 37 = .ok (.aload_n 3, 1) := by decide +kernel
theorem dX4_leastRadius_38 : decode cX4_leastRadius 38 = .ok (.invokevirtual 105, 3) := by decide +kernel
theorem dX4_leastRadius_41 : decode cX4_leastRadius 41 = .ok (.istore_n 1, 1) := by decide +kernel
theorem dX4_leastRadius_42 : decode cX4_leastRadius 42 = .ok (.iinc 2 1, 3) := by decide +kernel
theorem dX4_leastRadius_45 : decode cX4_leastRadius 45 = .ok (.goto (-40), 3) := by decide +kernel
theorem dX4_leastRadius_48 : decode cX4_leastRadius 48 = .ok (.iload_n 1, 1) := by decide +kernel
theorem dX4_leastRadius_49 : decode cX4_leastRadius 49 = .ok (.ireturn, 1) := by decide +kernel
set_option maxRecDepth 20000 in
theorem ggX4_greatestRadius_X4_find : GoodIn wsX4_greatestRadius wsX4_find := goodIn_r _ [6, 1, 7, 32, 33, 34, 35, 36, 37] (by decide +kernel) (by decide +kernel)
set_option maxRecDepth 20000 in
theorem gX4_greatestRadius_X4_find : GoodIn wsX4_greatestRadius (wsV RX4 36 RX4 yX4_find wsX4_find) := goodIn_app (goodIn_of _ (by decide +kernel)) ggX4_greatestRadius_X4_find
set_option maxRecDepth 20000 in
theorem ggX4_greatestRadius_X3_greatestRadius : GoodIn wsX4_greatestRadius wsX3_greatestRadius := goodIn_r _ [12, 13, 14, 15, 16, 17, 18, 19, 20, 11, 21, 22, 23, 24, 25, 26, 27, 28, 29, 30, 31, 38, 39, 40, 41] (by decide +kernel) (by decide +kernel)
set_option maxRecDepth 20000 in
theorem gX4_greatestRadius_X3_greatestRadius : GoodIn wsX4_greatestRadius (wsV RX4 109 RX3 yX3_greatestRadius wsX3_greatestRadius) := goodIn_app (goodIn_of _ (by decide +kernel)) ggX4_greatestRadius_X3_greatestRadius
theorem dX4_greatestRadius_0 : decode cX4_greatestRadius 0 = .ok (.bipush (-9), 2) := by decide +kernel
theorem dX4_greatestRadius_2 : decode cX4_greatestRadius 2 = .ok (.istore_n 1, 1) := by decide +kernel
theorem dX4_greatestRadius_3 : decode cX4_greatestRadius 3 = .ok (.iconst 0, 1) := by decide +kernel
theorem dX4_greatestRadius_4 : decode cX4_greatestRadius 4 = .ok (.istore_n 2, 1) := by decide +kernel
theorem dX4_greatestRadius_5 : decode cX4_greatestRadius 5 = .ok (.iload_n 2, 1) := by decide +kernel
theorem dX4_greatestRadius_6 : decode cX4_greatestRadius 6 = .ok (.aload_n 0, 1) := by decide +kernel
theorem dX4_greatestRadius_7 : decode cX4_greatestRadius 7 = .ok (.getfield 33, 3) := by decide +kernel
theorem dX4_greatestRadius_10 : decode cX4_greatestRadius 10 = .ok (.if_icmp .ge 32, 3) := by decide +kernel
theorem dX4_greatestRadius_13 : decode cX4_greatestRadius 13 = .ok (.aload_n 0, 1) := by decide +kernel
theorem dX4_greatestRadius_14 : decode cX4_greatestRadius 14 = .ok (.iload_n 2, 1) := by decide +kernel
theorem dX4_greatestRadius_15 : decode cX4_greatestRadius 15 = .ok (.invokevirtual 36, 3) := by decide +kernel
theorem dX4_greatestRadius_18 : decode cX4_greatestRadius 18 = .ok (.astore_n 3, 1) := by decide +kernel
theorem dX4_greatestRadius_19 : decode cX4_greatestRadius 19 = .ok (.aload_n 3, 1) := by decide +kernel
theorem dX4_greatestRadius_20 : decode cX4_greatestRadius 20 = .ok (.ifnull 16, 3) := by decide +kernel
theorem dX4_greatestRadius_23 : decode cX4_greatestRadius 23 = .ok (.aload_n 3, 1) := by decide +kernel
theorem dX4_greatestRadius_24 : decode cX4_greatestRadius 24 = .ok (.invokevirtual 109, 3) := by decide +kernel
theorem dX4_greatestRadius_27 : decode cX4_greatestRadius 27 = .ok (.iload_n 1, 1) := by decide +kernel
theorem dX4_greatestRadius_28 : decode cX4_greatestRadius 28 = .ok (.if_icmp .le 8, 3) := by decide +kernel
theorem dX4_greatestRadius_31 : decode cX4_greatestRadius 31 = .ok (.aload_n 3, 1) := by decide +kernel
theorem dX4_greatestRadius_32 : decode cX4_greatestRadius 32 = .ok (.invokevirtual 109, 3) := by decide +kernel
theorem dX4_greatestRadius_35 : decode cX4_greatestRadius 35 = .ok (.istore_n 1, 1) := by decide +kernel
theorem dX4_greatestRadius_36 : decode cX4_greatestRadius 36 = .ok (.iinc 2 1, 3) := by decide +kernel
theorem dX4_greatestRadius_39 : decode cX4_greatestRadius 39 = .ok (.goto (-34), 3) := by decide +kernel
theorem dX4_greatestRadius_42 : decode cX4_greatestRadius 42 = .ok (.iload_n 1, 1) := by decide +kernel
theorem dX4_greatestRadius_43 : decode cX4_greatestRadius 43 = .ok (.ireturn, 1) := by decide +kernel
set_option maxRecDepth 20000 in
theorem ggX4_cutBefore_X4_isCutBefore : GoodIn wsX4_cutBefore wsX4_isCutBefore := goodIn_r _ [6, 7, 8, 9, 10, 5, 11, 1, 12, 13, 14, 15, 16, 17, 18, 19, 20, 21, 22, 23, 24, 25, 26, 27, 28, 29, 30, 31, 32, 33, 34, 35, 36, 37] (by decide +kernel) (by decide +kernel)
set_option maxRecDepth 20000 in
theorem gX4_cutBefore_X4_isCutBefore : GoodIn wsX4_cutBefore (wsV RX4 112 RX4 yX4_isCutBefore wsX4_isCutBefore) := goodIn_app (goodIn_of _ (by decide +kernel)) ggX4_cutBefore_X4_isCutBefore
theorem dX4_cutBefore_0 : decode cX4_cutBefore 0 = .ok (.iconst 0, 1) := by decide +kernel
theorem dX4_cutBefore_1 : decode cX4_cutBefore 1 = .ok (.istore_n 2, 1) := by decide +kernel
theorem dX4_cutBefore_2 : decode cX4_cutBefore 2 = .ok (.iconst 0, 1) := by decide +kernel
theorem dX4_cutBefore_3 : decode cX4_cutBefore 3 = .ok (.istore_n 3, 1) := by decide +kernel
theorem dX4_cutBefore_4 : decode cX4_cutBefore 4 = .ok (.iload_n 3, 1) := by decide +kernel
theorem dX4_cutBefore_5 : decode cX4_cutBefore 5 = .ok (.aload_n 0, 1) := by decide +kernel
theorem dX4_cutBefore_6 : decode cX4_cutBefore 6 = .ok (.getfield 33, 3) := by decide +kernel
theorem dX4_cutBefore_9 : decode cX4_cutBefore 9 = .ok (.if_icmp .ge 26, 3) := by decide +kernel
theorem dX4_cutBefore_12 : decode cX4_cutBefore 12 = .ok (.iload_n 3, 1) := by decide +kernel
theorem dX4_cutBefore_13 : decode cX4_cutBefore 13 = .ok (.iload_n 1, 1) := by decide +kernel
theorem dX4_cutBefore_14 : decode cX4_cutBefore 14 = .ok (.if_icmp .eq 15, 3) := by decide +kernel
theorem dX4_cutBefore_17 : decode cX4_cutBefore 17 = .ok (.aload_n 0, 1) := by decide +kernel
theorem dX4_cutBefore_18 : decode cX4_cutBefore 18 = .ok (.iload_n 3, 1) := by decide +kernel
theorem dX4_cutBefore_19 : decode cX4_cutBefore 19 = .ok (.iload_n 1, 1) := by decide +kernel
theorem dX4_cutBefore_20 : decode cX4_cutBefore 20 = .ok (.invokevirtual 112, 3) := by decide +kernel
theorem dX4_cutBefore_23 : decode cX4_cutBefore 23 = .ok (.ifCond .eq 6, 3) := by decide +kernel
theorem dX4_cutBefore_26 : decode cX4_cutBefore 26 = .ok (.iinc 2 1, 3) := by decide +kernel
theorem dX4_cutBefore_29 : decode cX4_cutBefore 29 = .ok (.iinc 3 1, 3) := by decide +kernel
theorem dX4_cutBefore_32 : decode cX4_cutBefore 32 = .ok (.goto (-28), 3) := by decide +kernel
theorem dX4_cutBefore_35 : decode cX4_cutBefore 35 = .ok (.iload_n 2, 1) := by decide +kernel
theorem dX4_cutBefore_36 : decode cX4_cutBefore 36 = .ok (.ireturn, 1) := by decide +kernel
set_option maxRecDepth 20000 in
theorem ggX4_isCutBefore_X4_find : GoodIn wsX4_isCutBefore wsX4_find := goodIn_r _ [6, 7, 8, 24, 25, 26, 27, 28, 29] (by decide +kernel) (by decide +kernel)
set_option maxRecDepth 20000 in
theorem gX4_isCutBefore_X4_find : GoodIn wsX4_isCutBefore (wsV RX4 36 RX4 yX4_find wsX4_find) := goodIn_app (goodIn_of _ (by decide +kernel)) ggX4_isCutBefore_X4_find
set_option maxRecDepth 20000 in
theorem ggX4_isCutBefore_X3_turns : GoodIn wsX4_isCutBefore wsX3_turns := goodIn_r _ [13, 14, 15, 16, 17, 18, 19, 30, 31, 32, 33] (by decide +kernel) (by decide +kernel)
set_option maxRecDepth 20000 in
theorem gX4_isCutBefore_X3_turns : GoodIn wsX4_isCutBefore (wsV RX4 116 RX3 yX3_turns wsX3_turns) := goodIn_app (goodIn_of _ (by decide +kernel)) ggX4_isCutBefore_X3_turns
set_option maxRecDepth 20000 in
theorem ggX4_isCutBefore_X3_lobes : GoodIn wsX4_isCutBefore wsX3_lobes := goodIn_r _ [23, 14, 15, 16, 17, 18, 19, 30, 31, 32, 33] (by decide +kernel) (by decide +kernel)
set_option maxRecDepth 20000 in
theorem gX4_isCutBefore_X3_lobes : GoodIn wsX4_isCutBefore (wsV RX4 119 RX3 yX3_lobes wsX3_lobes) := goodIn_app (goodIn_of _ (by decide +kernel)) ggX4_isCutBefore_X3_lobes
theorem dX4_isCutBefore_0 : decode cX4_isCutBefore 0 = .ok (.aload_n 0, 1) := by decide +kernel
theorem dX4_isCutBefore_1 : decode cX4_isCutBefore 1 = .ok (.iload_n 1, 1) := by decide +kernel
theorem dX4_isCutBefore_2 : decode cX4_isCutBefore 2 = .ok (.invokevirtual 36, 3) := by decide +kernel
theorem dX4_isCutBefore_5 : decode cX4_isCutBefore 5 = .ok (.astore_n 3, 1) := by decide +kernel
theorem dX4_isCutBefore_6 : decode cX4_isCutBefore 6 = .ok (.aload_n 0, 1) := by decide +kernel
theorem dX4_isCutBefore_7 : decode cX4_isCutBefore 7 = .ok (.iload_n 2, 1) := by decide +kernel
theorem dX4_isCutBefore_8 : decode cX4_isCutBefore 8 = .ok (.invokevirtual 36, 3) := by decide +kernel
theorem dX4_isCutBefore_11 : decode cX4_isCutBefore 11 = .ok (.astore 4, 2) := by decide +kernel
theorem dX4_isCutBefore_13 : decode cX4_isCutBefore 13 = .ok (.aload_n 3, 1) := by decide +kernel
theorem dX4_isCutBefore_14 : decode cX4_isCutBefore 14 = .ok (.ifnull 8, 3) := by decide +kernel
theorem dX4_isCutBefore_17 : decode cX4_isCutBefore 17 = .ok (.aload 4, 2) := by decide +kernel
theorem dX4_isCutBefore_19 : decode cX4_isCutBefore 19 = .ok (.ifnonnull 5, 3) := by decide +kernel
theorem dX4_isCutBefore_22 : decode cX4_isCutBefore 22 = .ok (.iconst 0, 1) := by decide +kernel
theorem dX4_isCutBefore_23 : decode cX4_isCutBefore 23 = .ok (.ireturn, 1) := by decide +kernel
theorem dX4_isCutBefore_24 : decode cX4_isCutBefore 24 = .ok (.aload_n 3, 1) := by decide +kernel
theorem dX4_isCutBefore_25 : decode cX4_isCutBefore 25 = .ok (.aload_n 0, 1) := by decide +kernel
theorem dX4_isCutBefore_26 : decode cX4_isCutBefore 26 = .ok (.getfield 9, 3) := by decide +kernel
theorem dX4_isCutBefore_29 : decode cX4_isCutBefore 29 = .ok (.invokevirtual 116, 3) := by decide +kernel
theorem dX4_isCutBefore_32 : decode cX4_isCutBefore 32 = .ok (.aload 4, 2) := by decide +kernel
theorem dX4_isCutBefore_34 : decode cX4_isCutBefore 34 = .ok (.aload_n 0, 1) := by decide +kernel
theorem dX4_isCutBefore_35 : decode cX4_isCutBefore 35 = .ok (.getfield 9, 3) := by decide +kernel
theorem dX4_isCutBefore_38 : decode cX4_isCutBefore 38 = .ok (.invokevirtual 116, 3) := by decide +kernel
theorem dX4_isCutBefore_41 : decode cX4_isCutBefore 41 = .ok (.if_icmp .eq 29, 3) := by decide +kernel
theorem dX4_isCutBefore_44 : decode cX4_isCutBefore 44 = .ok (.aload_n 3, 1) := by decide +kernel
theorem dX4_isCutBefore_45 : decode cX4_isCutBefore 45 = .ok (.aload_n 0, 1) := by decide +kernel
theorem dX4_isCutBefore_46 : decode cX4_isCutBefore 46 = .ok (.getfield 9, 3) := by decide +kernel
theorem dX4_isCutBefore_49 : decode cX4_isCutBefore 49 = .ok (.invokevirtual 116, 3) := by decide +kernel
theorem dX4_isCutBefore_52 : decode cX4_isCutBefore 52 = .ok (.aload 4, 2) := by decide +kernel
theorem dX4_isCutBefore_54 : decode cX4_isCutBefore 54 = .ok (.aload_n 0, 1) := by decide +kernel
theorem dX4_isCutBefore_55 : decode cX4_isCutBefore 55 = .ok (.getfield 9, 3) := by decide +kernel
theorem dX4_isCutBefore_58 : decode cX4_isCutBefore 58 = .ok (.invokevirtual 116, 3) := by decide +kernel
theorem dX4_isCutBefore_61 : decode cX4_isCutBefore 61 = .ok (.if_icmp .ge 7, 3) := by decide +kernel
theorem dX4_isCutBefore_64 : decode cX4_isCutBefore 64 = .ok (.iconst 1, 1) := by decide +kernel
theorem dX4_isCutBefore_65 : decode cX4_isCutBefore 65 = .ok (.goto 4, 3) := by decide +kernel
theorem dX4_isCutBefore_68 : decode cX4_isCutBefore 68 = .ok (.iconst 0, 1) := by decide +kernel
theorem dX4_isCutBefore_69 : decode cX4_isCutBefore 69 = .ok (.ireturn, 1) := by decide +kernel
theorem dX4_isCutBefore_70 : decode cX4_isCutBefore 70 = .ok (.aload_n 3, 1) := by decide +kernel
theorem dX4_isCutBefore_71 : decode cX4_isCutBefore 71 = .ok (.aload_n 0, 1) := by decide +kernel
theorem dX4_isCutBefore_72 : decode cX4_isCutBefore 72 = .ok (.getfield 9, 3) := by decide +kernel
theorem dX4_isCutBefore_75 : decode cX4_isCutBefore 75 = .ok (.invokevirtual 119, 3) := by decide +kernel
theorem dX4_isCutBefore_78 : decode cX4_isCutBefore 78 = .ok (.aload 4, 2) := by decide +kernel
theorem dX4_isCutBefore_80 : decode cX4_isCutBefore 80 = .ok (.aload_n 0, 1) := by decide +kernel
theorem dX4_isCutBefore_81 : decode cX4_isCutBefore 81 = .ok (.getfield 9, 3) := by decide +kernel
theorem dX4_isCutBefore_84 : decode cX4_isCutBefore 84 = .ok (.invokevirtual 119, 3) := by decide +kernel
theorem dX4_isCutBefore_87 : decode cX4_isCutBefore 87 = .ok (.if_icmp .eq 29, 3) := by decide +kernel
theorem dX4_isCutBefore_90 : decode cX4_isCutBefore 90 = .ok (.aload_n 3, 1) := by decide +kernel
theorem dX4_isCutBefore_91 : decode cX4_isCutBefore 91 = .ok (.aload_n 0, 1) := by decide +kernel
theorem dX4_isCutBefore_92 : decode cX4_isCutBefore 92 = .ok (.getfield 9, 3) := by decide +kernel
theorem dX4_isCutBefore_95 : decode cX4_isCutBefore 95 = .ok (.invokevirtual 119, 3) := by decide +kernel
theorem dX4_isCutBefore_98 : decode cX4_isCutBefore 98 = .ok (.aload 4, 2) := by decide +kernel
theorem dX4_isCutBefore_100 : decode cX4_isCutBefore 100 = .ok (.aload_n 0, 1) := by decide +kernel
theorem dX4_isCutBefore_101 : decode cX4_isCutBefore 101 = .ok (.getfield 9, 3) := by decide +kernel
theorem dX4_isCutBefore_104 : decode cX4_isCutBefore 104 = .ok (.invokevirtual 119, 3) := by decide +kernel
theorem dX4_isCutBefore_107 : decode cX4_isCutBefore 107 = .ok (.if_icmp .le 7, 3) := by decide +kernel
theorem dX4_isCutBefore_110 : decode cX4_isCutBefore 110 = .ok (.iconst 1, 1) := by decide +kernel
theorem dX4_isCutBefore_111 : decode cX4_isCutBefore 111 = .ok (.goto 4, 3) := by decide +kernel
theorem dX4_isCutBefore_114 : decode cX4_isCutBefore 114 = .ok (.iconst 0, 1) := by decide +kernel
theorem dX4_isCutBefore_115 : decode cX4_isCutBefore 115 = .ok (.ireturn, 1) := by decide +kernel
theorem dX4_isCutBefore_116 : decode cX4_isCutBefore 116 = .ok (.iload_n 1, 1) := by decide +kernel
theorem dX4_isCutBefore_117 : decode cX4_isCutBefore 117 = .ok (.iload_n 2, 1) := by decide +kernel
theorem dX4_isCutBefore_118 : decode cX4_isCutBefore 118 = .ok (.if_icmp .ge 7, 3) := by decide +kernel
theorem dX4_isCutBefore_121 : decode cX4_isCutBefore 121 = .ok (.iconst 1, 1) := by decide +kernel
theorem dX4_isCutBefore_122 : decode cX4_isCutBefore 122 = .ok (.goto 4, 3) := by decide +kernel
theorem dX4_isCutBefore_125 : decode cX4_isCutBefore 125 = .ok (.iconst 0, 1) := by decide +kernel
theorem dX4_isCutBefore_126 : decode cX4_isCutBefore 126 = .ok (.ireturn, 1) := by decide +kernel
theorem dX5_init_0 : decode cX5_init 0 = .ok (.aload_n 0, 1) := by decide +kernel
theorem dX5_init_1 : decode cX5_init 1 = .ok (.invokespecial 3, 3) := by decide +kernel
theorem dX5_init_4 : decode cX5_init 4 = .ok (.aload_n 0, 1) := by decide +kernel
theorem dX5_init_5 : decode cX5_init 5 = .ok (.sipush 602, 3) := by decide +kernel
theorem dX5_init_8 : decode cX5_init 8 = .ok (.newarray .long, 2) := by decide +kernel
theorem dX5_init_10 : decode cX5_init 10 = .ok (.putfield 11, 3) := by decide +kernel
theorem dX5_init_13 : decode cX5_init 13 = .ok (.return_, 1) := by decide +kernel
theorem dX5_clear_0 : decode cX5_clear 0 = .ok (.iconst 0, 1) := by decide +kernel
theorem dX5_clear_1 : decode cX5_clear 1 = .ok (.istore_n 1, 1) := by decide +kernel
theorem dX5_clear_2 : decode cX5_clear 2 = .ok (.iload_n 1, 1) := by decide +kernel
theorem dX5_clear_3 : decode cX5_clear 3 = .ok (.aload_n 0, 1) := by decide +kernel
theorem dX5_clear_4 : decode cX5_clear 4 = .ok (.getfield 11, 3) := by decide +kernel
theorem dX5_clear_7 : decode cX5_clear 7 = .ok (.arraylength, 1) := by decide +kernel
theorem dX5_clear_8 : decode cX5_clear 8 = .ok (.if_icmp .ge 16, 3) := by decide +kernel
theorem dX5_clear_11 : decode cX5_clear 11 = .ok (.aload_n 0, 1) := by decide +kernel
theorem dX5_clear_12 : decode cX5_clear 12 = .ok (.getfield 11, 3) := by decide +kernel
theorem dX5_clear_15 : decode cX5_clear 15 = .ok (.iload_n 1, 1) := by decide +kernel
theorem dX5_clear_16 : decode cX5_clear 16 = .ok (.lconst 0, 1) := by decide +kernel
theorem dX5_clear_17 : decode cX5_clear 17 = .ok (.lastore, 1) := by decide +kernel
theorem dX5_clear_18 : decode cX5_clear 18 = .ok (.iinc 1 1, 3) := by decide +kernel
theorem dX5_clear_21 : decode cX5_clear 21 = .ok (.goto (-19), 3) := by decide +kernel
theorem dX5_clear_24 : decode cX5_clear 24 = .ok (.return_, 1) := by decide +kernel
theorem dX5_cut_0 : decode cX5_cut 0 = .ok (.iconst 2, 1) := by decide +kernel
theorem dX5_cut_1 : decode cX5_cut 1 = .ok (.iload_n 2, 1) := by decide +kernel
theorem dX5_cut_2 : decode cX5_cut 2 = .ok (.imul, 1) := by decide +kernel
theorem dX5_cut_3 : decode cX5_cut 3 = .ok (.iload_n 1, 1) := by decide +kernel
theorem dX5_cut_4 : decode cX5_cut 4 = .ok (.bipush 64, 2) := by decide +kernel
theorem dX5_cut_6 : decode cX5_cut 6 = .ok (.idiv, 1) := by decide +kernel
theorem dX5_cut_7 : decode cX5_cut 7 = .ok (.iadd, 1) := by decide +kernel
theorem dX5_cut_8 : decode cX5_cut 8 = .ok (.istore_n 3, 1) := by decide +kernel
theorem dX5_cut_9 : decode cX5_cut 9 = .ok (.iload_n 1, 1) := by decide +kernel
theorem dX5_cut_10 : decode cX5_cut 10 = .ok (.ifCond .lt 37, 3) := by decide +kernel
theorem dX5_cut_13 : decode cX5_cut 13 = .ok (.iload_n 1, 1) := by decide +kernel
theorem dX5_cut_14 : decode cX5_cut 14 = .ok (.bipush 96, 2) := by decide +kernel
theorem dX5_cut_16 : decode cX5_cut 16 = .ok (.if_icmp .ge 31, 3) := by decide +kernel
theorem dX5_cut_19 : decode cX5_cut 19 = .ok (.iload_n 3, 1) := by decide +kernel
theorem dX5_cut_20 : decode cX5_cut 20 = .ok (.ifCond .lt 27, 3) := by decide +kernel
theorem dX5_cut_23 : decode cX5_cut 23 = .ok (.iload_n 3, 1) := by decide +kernel
theorem dX5_cut_24 : decode cX5_cut 24 = .ok (.aload_n 0, 1) := by decide +kernel
theorem dX5_cut_25 : decode cX5_cut 25 = .ok (.getfield 11, 3) := by decide +kernel
theorem dX5_cut_28 : decode cX5_cut 28 = .ok (.arraylength, 1) := by decide +kernel
theorem dX5_cut_29 : decode cX5_cut 29 = .ok (.if_icmp .ge 18, 3) := by decide +kernel
theorem dX5_cut_32 : decode cX5_cut 32 = .ok (.aload_n 0, 1) := by decide +kernel
theorem dX5_cut_33 : decode cX5_cut 33 = .ok (.getfield 11, 3) := by decide +kernel
theorem dX5_cut_36 : decode cX5_cut 36 = .ok (.iload_n 3, 1) := by decide +kernel
theorem dX5_cut_37 : decode cX5_cut 37 = .ok (.dup2, 1) := by decide +kernel
theorem dX5_cut_38 : decode cX5_cut 38 = .ok (.laload, 1) := by decide +kernel
theorem dX5_cut_39 : decode cX5_cut 39 = .ok (.lconst 1, 1) := by decide +kernel
theorem dX5_cut_40 : decode cX5_cut 40 = .ok (.iload_n 1, 1) := by decide +kernel
theorem dX5_cut_41 : decode cX5_cut 41 = .ok (.bipush 64, 2) := by decide +kernel
theorem dX5_cut_43 : decode cX5_cut 43 = .ok (.irem, 1) := by decide +kernel
theorem dX5_cut_44 : decode cX5_cut 44 = .ok (.lshl, 1) := by decide +kernel
theorem dX5_cut_45 : decode cX5_cut 45 = .ok (.lor, 1) := by decide +kernel
theorem dX5_cut_46 : decode cX5_cut 46 = .ok (.lastore, 1) := by decide +kernel
theorem dX5_cut_47 : decode cX5_cut 47 = .ok (.return_, 1) := by decide +kernel
set_option maxRecDepth 20000 in
theorem ggX5_cutRosette_X3_lobes : GoodIn wsX5_cutRosette wsX3_lobes := goodIn_r _ [6, 7, 8, 9, 10, 11, 12, 36, 37, 38, 39] (by decide +kernel) (by decide +kernel)
set_option maxRecDepth 20000 in
theorem gX5_cutRosette_X3_lobes : GoodIn wsX5_cutRosette (wsV RX5 15 RX3 yX3_lobes wsX3_lobes) := goodIn_app (goodIn_of _ (by decide +kernel)) ggX5_cutRosette_X3_lobes
set_option maxRecDepth 20000 in
theorem ggX5_cutRosette_X3_radiusAt : GoodIn wsX5_cutRosette wsX3_radiusAt := goodIn_r _ [16, 7, 17, 18, 19, 20, 21, 22, 23, 9, 24, 11, 12, 36, 37, 38, 39] (by decide +kernel) (by decide +kernel)
set_option maxRecDepth 20000 in
theorem gX5_cutRosette_X3_radiusAt : GoodIn wsX5_cutRosette (wsV RX5 25 RX3 yX3_radiusAt wsX3_radiusAt) := goodIn_app (goodIn_of _ (by decide +kernel)) ggX5_cutRosette_X3_radiusAt
set_option maxRecDepth 20000 in
theorem ggX5_cutRosette_X3_angleAt : GoodIn wsX5_cutRosette wsX3_angleAt := goodIn_r _ [28, 29, 23, 9, 24, 36, 37, 38, 39] (by decide +kernel) (by decide +kernel)
set_option maxRecDepth 20000 in
theorem gX5_cutRosette_X3_angleAt : GoodIn wsX5_cutRosette (wsV RX5 29 RX3 yX3_angleAt wsX3_angleAt) := goodIn_app (goodIn_of _ (by decide +kernel)) ggX5_cutRosette_X3_angleAt
set_option maxRecDepth 20000 in
theorem ggX5_cutRosette_X5_cut : GoodIn wsX5_cutRosette wsX5_cut := goodIn_r _ [34, 35, 40] (by decide +kernel) (by decide +kernel)
set_option maxRecDepth 20000 in
theorem gX5_cutRosette_X5_cut : GoodIn wsX5_cutRosette (wsV RX5 33 RX5 yX5_cut wsX5_cut) := goodIn_app (goodIn_of _ (by decide +kernel)) ggX5_cutRosette_X5_cut
theorem dX5_cutRosette_0 : decode cX5_cutRosette 0 = .ok (.aload_n 2, 1) := by decide +kernel
theorem dX5_cutRosette_1 : decode cX5_cutRosette 1 = .ok (.iload_n 1, 1) := by decide +kernel
theorem dX5_cutRosette_2 : decode cX5_cutRosette 2 = .ok (.invokevirtual 15, 3) := by decide +kernel
theorem dX5_cutRosette_5 : decode cX5_cutRosette 5 = .ok (.istore_n 3, 1) := by decide +kernel
theorem dX5_cutRosette_6 : decode cX5_cutRosette 6 = .ok (.iconst 0, 1) := by decide +kernel
theorem dX5_cutRosette_7 : decode cX5_cutRosette 7 = .ok (.istore 4, 2) := by decide +kernel
theorem dX5_cutRosette_9 : decode cX5_cutRosette 9 = .ok (.iload 4, 2) := by decide +kernel
theorem dX5_cutRosette_11 : decode cX5_cutRosette 11 = .ok (.aload_n 2, 1) := by decide +kernel
theorem dX5_cutRosette_12 : decode cX5_cutRosette 12 = .ok (.getfield 21, 3) := by decide +kernel
theorem dX5_cutRosette_15 : decode cX5_cutRosette 15 = .ok (.if_icmp .ge 55, 3) := by decide +kernel
theorem dX5_cutRosette_18 : decode cX5_cutRosette 18 = .ok (.aload_n 2, 1) := by decide +kernel
theorem dX5_cutRosette_19 : decode cX5_cutRosette 19 = .ok (.iload 4, 2) := by decide +kernel
theorem dX5_cutRosette_21 : decode cX5_cutRosette 21 = .ok (.i2l, 1) := by decide +kernel
theorem dX5_cutRosette_22 : decode cX5_cutRosette 22 = .ok (.invokevirtual 25, 3) := by decide +kernel
theorem dX5_cutRosette_25 : decode cX5_cutRosette 25 = .ok (.istore 5, 2) := by decide +kernel
theorem dX5_cutRosette_27 : decode cX5_cutRosette 27 = .ok (.iconst 0, 1) := by decide +kernel
theorem dX5_cutRosette_28 : decode cX5_cutRosette 28 = .ok (.istore 6, 2) := by decide +kernel
theorem dX5_cutRosette_30 : decode cX5_cutRosette 30 = .ok (.iload 6, 2) := by decide +kernel
theorem dX5_cutRosette_32 : decode cX5_cutRosette 32 = .ok (.iload_n 3, 1) := by decide +kernel
theorem dX5_cutRosette_33 : decode cX5_cutRosette 33 = .ok (.if_icmp .ge 31, 3) := by decide +kernel
theorem dX5_cutRosette_36 : decode cX5_cutRosette 36 = .ok (.aload_n 0, 1) := by decide +kernel
theorem dX5_cutRosette_37 : decode cX5_cutRosette 37 = .ok (.aload_n 2, 1) := by decide +kernel
theorem dX5_cutRosette_38 : decode cX5_cutRosette 38 = .ok (.iload_n 1, 1) := by decide +kernel
theorem dX5_cutRosette_39 : decode cX5_cutRosette 39 = .ok (.iload 4, 2) := by decide +kernel
theorem dX5_cutRosette_41 : decode cX5_cutRosette 41 = .ok (.iload 6, 2) := by decide +kernel
theorem dX5_cutRosette_43 : decode cX5_cutRosette 43 = .ok (.aload_n 2, 1) := by decide +kernel
theorem dX5_cutRosette_44 : decode cX5_cutRosette 44 = .ok (.getfield 21, 3) := by decide +kernel
theorem dX5_cutRosette_47 : decode cX5_cutRosette 47 = .ok (.imul, 1) := by decide +kernel
theorem dX5_cutRosette_48 : decode cX5_cutRosette 48 = .ok (.iadd, 1) := by decide +kernel
theorem dX5_cutRosette_49 : decode cX5_cutRosette 49 = .ok (.i2l, 1) := by decide +kernel
theorem dX5_cutRosette_50 : decode cX5_cutRosette 50 = .ok (.invokevirtual 29, 3) := by decide +kernel
theorem dX5_cutRosette_53 : decode cX5_cutRosette 53 = .ok (.iload 5, 2) := by decide +kernel
theorem dX5_cutRosette_55 : decode cX5_cutRosette 55 = .ok (.invokevirtual 33, 3) := by decide +kernel
theorem dX5_cutRosette_58 : decode cX5_cutRosette 58 = .ok (.iinc 6 1, 3) := by decide +kernel
theorem dX5_cutRosette_61 : decode cX5_cutRosette 61 = .ok (.goto (-31), 3) := by decide +kernel
theorem dX5_cutRosette_64 : decode cX5_cutRosette 64 = .ok (.iinc 4 1, 3) := by decide +kernel
theorem dX5_cutRosette_67 : decode cX5_cutRosette 67 = .ok (.goto (-58), 3) := by decide +kernel
theorem dX5_cutRosette_70 : decode cX5_cutRosette 70 = .ok (.return_, 1) := by decide +kernel
set_option maxRecDepth 20000 in
theorem ggX5_size_J13_bitCount_95d88 : GoodIn wsX5_size wsJ13_bitCount_95d88 := goodIn_r _ [5, 6, 7, 8] (by decide +kernel) (by decide +kernel)
set_option maxRecDepth 20000 in
theorem gX5_size_J13_bitCount_95d88 : GoodIn wsX5_size (va_wsS RX5 37 yJ13_bitCount_95d88 wsJ13_bitCount_95d88) := goodIn_app (goodIn_of _ (by decide +kernel)) ggX5_size_J13_bitCount_95d88
theorem dX5_size_0 : decode cX5_size 0 = .ok (.iconst 0, 1) := by decide +kernel
theorem dX5_size_1 : decode cX5_size 1 = .ok (.istore_n 1, 1) := by decide +kernel
theorem dX5_size_2 : decode cX5_size 2 = .ok (.iconst 0, 1) := by decide +kernel
theorem dX5_size_3 : decode cX5_size 3 = .ok (.istore_n 2, 1) := by decide +kernel
theorem dX5_size_4 : decode cX5_size 4 = .ok (.iload_n 2, 1) := by decide +kernel
theorem dX5_size_5 : decode cX5_size 5 = .ok (.aload_n 0, 1) := by decide +kernel
theorem dX5_size_6 : decode cX5_size 6 = .ok (.getfield 11, 3) := by decide +kernel
theorem dX5_size_9 : decode cX5_size 9 = .ok (.arraylength, 1) := by decide +kernel
theorem dX5_size_10 : decode cX5_size 10 = .ok (.if_icmp .ge 21, 3) := by decide +kernel
theorem dX5_size_13 : decode cX5_size 13 = .ok (.iload_n 1, 1) := by decide +kernel
theorem dX5_size_14 : decode cX5_size 14 = .ok (.aload_n 0, 1) := by decide +kernel
theorem dX5_size_15 : decode cX5_size 15 = .ok (.getfield 11, 3) := by decide +kernel
theorem dX5_size_18 : decode cX5_size 18 = .ok (.iload_n 2, 1) := by decide +kernel
theorem dX5_size_19 : decode cX5_size 19 = .ok (.laload, 1) := by decide +kernel
theorem dX5_size_20 : decode cX5_size 20 = .ok (.invokestatic 37, 3) := by decide +kernel
theorem dX5_size_23 : decode cX5_size 23 = .ok (.iadd, 1) := by decide +kernel
theorem dX5_size_24 : decode cX5_size 24 = .ok (.istore_n 1, 1) := by decide +kernel
theorem dX5_size_25 : decode cX5_size 25 = .ok (.iinc 2 1, 3) := by decide +kernel
theorem dX5_size_28 : decode cX5_size 28 = .ok (.goto (-24), 3) := by decide +kernel
theorem dX5_size_31 : decode cX5_size 31 = .ok (.iload_n 1, 1) := by decide +kernel
theorem dX5_size_32 : decode cX5_size 32 = .ok (.ireturn, 1) := by decide +kernel
set_option maxRecDepth 20000 in
theorem ggX5_sizeAt_J13_bitCount_95d88 : GoodIn wsX5_sizeAt wsJ13_bitCount_95d88 := goodIn_r _ [5, 6, 7, 8] (by decide +kernel) (by decide +kernel)
set_option maxRecDepth 20000 in
theorem gX5_sizeAt_J13_bitCount_95d88 : GoodIn wsX5_sizeAt (va_wsS RX5 37 yJ13_bitCount_95d88 wsJ13_bitCount_95d88) := goodIn_app (goodIn_of _ (by decide +kernel)) ggX5_sizeAt_J13_bitCount_95d88
theorem dX5_sizeAt_0 : decode cX5_sizeAt 0 = .ok (.iconst 2, 1) := by decide +kernel
theorem dX5_sizeAt_1 : decode cX5_sizeAt 1 = .ok (.iload_n 1, 1) := by decide +kernel
theorem dX5_sizeAt_2 : decode cX5_sizeAt 2 = .ok (.imul, 1) := by decide +kernel
theorem dX5_sizeAt_3 : decode cX5_sizeAt 3 = .ok (.istore_n 2, 1) := by decide +kernel
theorem dX5_sizeAt_4 : decode cX5_sizeAt 4 = .ok (.iload_n 2, 1) := by decide +kernel
theorem dX5_sizeAt_5 : decode cX5_sizeAt 5 = .ok (.ifCond .lt 14, 3) := by decide +kernel
theorem dX5_sizeAt_8 : decode cX5_sizeAt 8 = .ok (.iload_n 2, 1) := by decide +kernel
theorem dX5_sizeAt_9 : decode cX5_sizeAt 9 = .ok (.iconst 1, 1) := by decide +kernel
theorem dX5_sizeAt_10 : decode cX5_sizeAt 10 = .ok (.iadd, 1) := by decide +kernel
theorem dX5_sizeAt_11 : decode cX5_sizeAt 11 = .ok (.aload_n 0, 1) := by decide +kernel
theorem dX5_sizeAt_12 : decode cX5_sizeAt 12 = .ok (.getfield 11, 3) := by decide +kernel
theorem dX5_sizeAt_15 : decode cX5_sizeAt 15 = .ok (.arraylength, 1) := by decide +kernel
theorem dX5_sizeAt_16 : decode cX5_sizeAt 16 = .ok (.if_icmp .lt 5, 3) := by decide +kernel
theorem dX5_sizeAt_19 : decode cX5_sizeAt 19 = .ok (.iconst 0, 1) := by decide +kernel
theorem dX5_sizeAt_20 : decode cX5_sizeAt 20 = .ok (.ireturn, 1) := by decide +kernel
theorem dX5_sizeAt_21 : decode cX5_sizeAt 21 = .ok (.aload_n 0, 1) := by decide +kernel
theorem dX5_sizeAt_22 : decode cX5_sizeAt 22 = .ok (.getfield 11, 3) := by decide +kernel
theorem dX5_sizeAt_25 : decode cX5_sizeAt 25 = .ok (.iload_n 2, 1) := by decide +kernel
theorem dX5_sizeAt_26 : decode cX5_sizeAt 26 = .ok (.laload, 1) := by decide +kernel
theorem dX5_sizeAt_27 : decode cX5_sizeAt 27 = .ok (.invokestatic 37, 3) := by decide +kernel
theorem dX5_sizeAt_30 : decode cX5_sizeAt 30 = .ok (.aload_n 0, 1) := by decide +kernel
theorem dX5_sizeAt_31 : decode cX5_sizeAt 31 = .ok (.getfield 11, 3) := by decide +kernel
theorem dX5_sizeAt_34 : decode cX5_sizeAt 34 = .ok (.iload_n 2, 1) := by decide +kernel
theorem dX5_sizeAt_35 : decode cX5_sizeAt 35 = .ok (.iconst 1, 1) := by decide +kernel
theorem dX5_sizeAt_36 : decode cX5_sizeAt 36 = .ok (.iadd, 1) := by decide +kernel
theorem dX5_sizeAt_37 : decode cX5_sizeAt 37 = .ok (.laload, 1) := by decide +kernel
theorem dX5_sizeAt_38 : decode cX5_sizeAt 38 = .ok (.invokestatic 37, 3) := by decide +kernel
theorem dX5_sizeAt_41 : decode cX5_sizeAt 41 = .ok (.iadd, 1) := by decide +kernel
theorem dX5_sizeAt_42 : decode cX5_sizeAt 42 = .ok (.ireturn, 1) := by decide +kernel
set_option maxRecDepth 20000 in
theorem ggX5_widestGap_X5_sizeAt : GoodIn wsX5_widestGap wsX5_sizeAt := goodIn_r _ [9, 10, 11, 12, 13, 14, 15, 16, 17, 18] (by decide +kernel) (by decide +kernel)
set_option maxRecDepth 20000 in
theorem gX5_widestGap_X5_sizeAt : GoodIn wsX5_widestGap (wsV RX5 42 RX5 yX5_sizeAt wsX5_sizeAt) := goodIn_app (goodIn_of _ (by decide +kernel)) ggX5_widestGap_X5_sizeAt
theorem dX5_widestGap_0 : decode cX5_widestGap 0 = .ok (.iconst 0, 1) := by decide +kernel
theorem dX5_widestGap_1 : decode cX5_widestGap 1 = .ok (.istore_n 1, 1) := by decide +kernel
theorem dX5_widestGap_2 : decode cX5_widestGap 2 = .ok (.bipush (-9), 2) := by decide +kernel
theorem dX5_widestGap_4 : decode cX5_widestGap 4 = .ok (.istore_n 2, 1) := by decide +kernel
theorem dX5_widestGap_5 : decode cX5_widestGap 5 = .ok (.iconst 0, 1) := by decide +kernel
theorem dX5_widestGap_6 : decode cX5_widestGap 6 = .ok (.istore_n 3, 1) := by decide +kernel
theorem dX5_widestGap_7 : decode cX5_widestGap 7 = .ok (.iload_n 3, 1) := by decide +kernel
theorem dX5_widestGap_8 : decode cX5_widestGap 8 = .ok (.sipush 300, 3) := by decide +kernel
theorem dX5_widestGap_11 : decode cX5_widestGap 11 = .ok (.if_icmp .gt 33, 3) := by decide +kernel
theorem dX5_widestGap_14 : decode cX5_widestGap 14 = .ok (.aload_n 0, 1) := by decide +kernel
theorem dX5_widestGap_15 : decode cX5_widestGap 15 = .ok (.iload_n 3, 1) := by decide +kernel
theorem dX5_widestGap_16 : decode cX5_widestGap 16 = .ok (.invokevirtual 42, 3) := by decide +kernel
theorem dX5_widestGap_19 : decode cX5_widestGap 19 = .ok (.ifCond .le 19, 3) := by decide +kernel
theorem dX5_widestGap_22 : decode cX5_widestGap 22 = .ok (.iload_n 2, 1) := by decide +kernel
theorem dX5_widestGap_23 : decode cX5_widestGap 23 = .ok (.bipush (-9), 2) := by decide +kernel
theorem dX5_widestGap_25 : decode cX5_widestGap 25 = .ok (.if_icmp .eq 11, 3) := by decide +kernel
theorem dX5_widestGap_28 : decode cX5_widestGap 28 = .ok (.iload_n 1, 1) := by decide +kernel
theorem dX5_widestGap_29 : decode cX5_widestGap 29 = .ok (.iload_n 3, 1) := by decide +kernel
theorem dX5_widestGap_30 : decode cX5_widestGap 30 = .ok (.iload_n 2, 1) := by decide +kernel
theorem dX5_widestGap_31 : decode cX5_widestGap 31 = .ok (.isub, 1) := by decide +kernel
theorem dX5_widestGap_32 : decode cX5_widestGap 32 = .ok (.invokestatic 45, 3) := by decide +kernel
theorem dX5_widestGap_35 : decode cX5_widestGap 35 = .ok (.istore_n 1, 1) := by decide +kernel
theorem dX5_widestGap_36 : decode cX5_widestGap 36 = .ok (.iload_n 3, 1) := by decide +kernel
theorem dX5_widestGap_37 : decode cX5_widestGap 37 = .ok (.istore_n 2, 1) := by decide +kernel
theorem dX5_widestGap_38 : decode cX5_widestGap 38 = .ok (.iinc 3 1, 3) := by decide +kernel
theorem dX5_widestGap_41 : decode cX5_widestGap 41 = .ok (.goto (-34), 3) := by decide +kernel
theorem dX5_widestGap_44 : decode cX5_widestGap 44 = .ok (.iload_n 1, 1) := by decide +kernel
theorem dX5_widestGap_45 : decode cX5_widestGap 45 = .ok (.ireturn, 1) := by decide +kernel
set_option maxRecDepth 20000 in
theorem ggX5_sizeOfBoth_J13_bitCount_95d88 : GoodIn wsX5_sizeOfBoth wsJ13_bitCount_95d88 := goodIn_r _ [5, 6, 7, 8] (by decide +kernel) (by decide +kernel)
set_option maxRecDepth 20000 in
theorem gX5_sizeOfBoth_J13_bitCount_95d88 : GoodIn wsX5_sizeOfBoth (va_wsS RX5 37 yJ13_bitCount_95d88 wsJ13_bitCount_95d88) := goodIn_app (goodIn_of _ (by decide +kernel)) ggX5_sizeOfBoth_J13_bitCount_95d88
theorem dX5_sizeOfBoth_0 : decode cX5_sizeOfBoth 0 = .ok (.iconst 0, 1) := by decide +kernel
theorem dX5_sizeOfBoth_1 : decode cX5_sizeOfBoth 1 = .ok (.istore_n 2, 1) := by decide +kernel
theorem dX5_sizeOfBoth_2 : decode cX5_sizeOfBoth 2 = .ok (.iconst 0, 1) := by decide +kernel
theorem dX5_sizeOfBoth_3 : decode cX5_sizeOfBoth 3 = .ok (.istore_n 3, 1) := by decide +kernel
theorem dX5_sizeOfBoth_4 : decode cX5_sizeOfBoth 4 = .ok (.iload_n 3, 1) := by decide +kernel
theorem dX5_sizeOfBoth_5 : decode cX5_sizeOfBoth 5 = .ok (.aload_n 0, 1) := by decide +kernel
theorem dX5_sizeOfBoth_6 : decode cX5_sizeOfBoth 6 = .ok (.getfield 11, 3) := by decide +kernel
theorem dX5_sizeOfBoth_9 : decode cX5_sizeOfBoth 9 = .ok (.arraylength, 1) := by decide +kernel
theorem dX5_sizeOfBoth_10 : decode cX5_sizeOfBoth 10 = .ok (.if_icmp .ge 37, 3) := by decide +kernel
theorem dX5_sizeOfBoth_13 : decode cX5_sizeOfBoth 13 = .ok (.iload_n 3, 1) := by decide +kernel
theorem dX5_sizeOfBoth_14 : decode cX5_sizeOfBoth 14 = .ok (.aload_n 1, 1) := by decide +kernel
theorem dX5_sizeOfBoth_15 : decode cX5_sizeOfBoth 15 = .ok (.getfield 11, 3) := by decide +kernel
theorem dX5_sizeOfBoth_18 : decode cX5_sizeOfBoth 18 = .ok (.arraylength, 1) := by decide +kernel
theorem dX5_sizeOfBoth_19 : decode cX5_sizeOfBoth 19 = .ok (.if_icmp .ge 28, 3) := by decide +kernel
theorem dX5_sizeOfBoth_22 : decode cX5_sizeOfBoth 22 = .ok (.iload_n 2, 1) := by decide +kernel
theorem dX5_sizeOfBoth_23 : decode cX5_sizeOfBoth 23 = .ok (.aload_n 0, 1) := by decide +kernel
theorem dX5_sizeOfBoth_24 : decode cX5_sizeOfBoth 24 = .ok (.getfield 11, 3) := by decide +kernel
theorem dX5_sizeOfBoth_27 : decode cX5_sizeOfBoth 27 = .ok (.iload_n 3, 1) := by decide +kernel
theorem dX5_sizeOfBoth_28 : decode cX5_sizeOfBoth 28 = .ok (.laload, 1) := by decide +kernel
theorem dX5_sizeOfBoth_29 : decode cX5_sizeOfBoth 29 = .ok (.aload_n 1, 1) := by decide +kernel
theorem dX5_sizeOfBoth_30 : decode cX5_sizeOfBoth 30 = .ok (.getfield 11, 3) := by decide +kernel
theorem dX5_sizeOfBoth_33 : decode cX5_sizeOfBoth 33 = .ok (.iload_n 3, 1) := by decide +kernel
theorem dX5_sizeOfBoth_34 : decode cX5_sizeOfBoth 34 = .ok (.laload, 1) := by decide +kernel
theorem dX5_sizeOfBoth_35 : decode cX5_sizeOfBoth 35 = .ok (.land, 1) := by decide +kernel
theorem dX5_sizeOfBoth_36 : decode cX5_sizeOfBoth 36 = .ok (.invokestatic 37, 3) := by decide +kernel
theorem dX5_sizeOfBoth_39 : decode cX5_sizeOfBoth 39 = .ok (.iadd, 1) := by decide +kernel
theorem dX5_sizeOfBoth_40 : decode cX5_sizeOfBoth 40 = .ok (.istore_n 2, 1) := by decide +kernel
theorem dX5_sizeOfBoth_41 : decode cX5_sizeOfBoth 41 = .ok (.iinc 3 1, 3) := by decide +kernel
theorem dX5_sizeOfBoth_44 : decode cX5_sizeOfBoth 44 = .ok (.goto (-40), 3) := by decide +kernel
theorem dX5_sizeOfBoth_47 : decode cX5_sizeOfBoth 47 = .ok (.iload_n 2, 1) := by decide +kernel
theorem dX5_sizeOfBoth_48 : decode cX5_sizeOfBoth 48 = .ok (.ireturn, 1) := by decide +kernel
theorem dX5_isSameAs_0 : decode cX5_isSameAs 0 = .ok (.iconst 0, 1) := by decide +kernel
theorem dX5_isSameAs_1 : decode cX5_isSameAs 1 = .ok (.istore_n 2, 1) := by decide +kernel
theorem dX5_isSameAs_2 : decode cX5_isSameAs 2 = .ok (.iload_n 2, 1) := by decide +kernel
theorem dX5_isSameAs_3 : decode cX5_isSameAs 3 = .ok (.aload_n 0, 1) := by decide +kernel
theorem dX5_isSameAs_4 : decode cX5_isSameAs 4 = .ok (.getfield 11, 3) := by decide +kernel
theorem dX5_isSameAs_7 : decode cX5_isSameAs 7 = .ok (.arraylength, 1) := by decide +kernel
theorem dX5_isSameAs_8 : decode cX5_isSameAs 8 = .ok (.if_icmp .ge 36, 3) := by decide +kernel
theorem dX5_isSameAs_11 : decode cX5_isSameAs 11 = .ok (.iload_n 2, 1) := by decide +kernel
theorem dX5_isSameAs_12 : decode cX5_isSameAs 12 = .ok (.aload_n 1, 1) := by decide +kernel
theorem dX5_isSameAs_13 : decode cX5_isSameAs 13 = .ok (.getfield 11, 3) := by decide +kernel
theorem dX5_isSameAs_16 : decode cX5_isSameAs 16 = .ok (.arraylength, 1) := by decide +kernel
theorem dX5_isSameAs_17 : decode cX5_isSameAs 17 = .ok (.if_icmp .ge 27, 3) := by decide +kernel
theorem dX5_isSameAs_20 : decode cX5_isSameAs 20 = .ok (.aload_n 0, 1) := by decide +kernel
theorem dX5_isSameAs_21 : decode cX5_isSameAs 21 = .ok (.getfield 11, 3) := by decide +kernel
theorem dX5_isSameAs_24 : decode cX5_isSameAs 24 = .ok (.iload_n 2, 1) := by decide +kernel
theorem dX5_isSameAs_25 : decode cX5_isSameAs 25 = .ok (.laload, 1) := by decide +kernel
theorem dX5_isSameAs_26 : decode cX5_isSameAs 26 = .ok (.aload_n 1, 1) := by decide +kernel
theorem dX5_isSameAs_27 : decode cX5_isSameAs 27 = .ok (.getfield 11, 3) := by decide +kernel
theorem dX5_isSameAs_30 : decode cX5_isSameAs 30 = .ok (.iload_n 2, 1) := by decide +kernel
theorem dX5_isSameAs_31 : decode cX5_isSameAs 31 = .ok (.laload, 1) := by decide +kernel
theorem dX5_isSameAs_32 : decode cX5_isSameAs 32 = .ok (.lcmp, 1) := by decide +kernel
theorem dX5_isSameAs_33 : decode cX5_isSameAs 33 = .ok (.ifCond .eq 5, 3) := by decide +kernel
theorem dX5_isSameAs_36 : decode cX5_isSameAs 36 = .ok (.iconst 0, 1) := by decide +kernel
theorem dX5_isSameAs_37 : decode cX5_isSameAs 37 = .ok (.ireturn, 1) := by decide +kernel
theorem dX5_isSameAs_38 : decode cX5_isSameAs 38 = .ok (.iinc 2 1, 3) := by decide +kernel
theorem dX5_isSameAs_41 : decode cX5_isSameAs 41 = .ok (.goto (-39), 3) := by decide +kernel
theorem dX5_isSameAs_44 : decode cX5_isSameAs 44 = .ok (.iconst 1, 1) := by decide +kernel
theorem dX5_isSameAs_45 : decode cX5_isSameAs 45 = .ok (.ireturn, 1) := by decide +kernel
set_option maxRecDepth 20000 in
theorem ggX7_init_X4_init : GoodIn wsX7_init wsX4_init := goodIn_r _ [24, 25, 2, 3, 26, 27, 28, 29, 30, 31, 32, 33, 34, 35, 36, 37, 38, 72, 73, 74, 75, 76, 77, 84, 85, 86, 87] (by decide +kernel) (by decide +kernel)
set_option maxRecDepth 20000 in
theorem gX7_init_X4_init : GoodIn wsX7_init (wsX4_init) := ggX7_init_X4_init
set_option maxRecDepth 20000 in
theorem ggX7_init_X2_init : GoodIn wsX7_init wsX2_init := goodIn_r _ [41, 42, 2, 3, 43, 44, 7, 8, 45, 23, 24, 25, 26, 27, 28, 29, 30, 31, 32, 33, 34, 35, 36, 37, 38, 78, 79, 80, 72, 73, 74, 75, 76, 77, 84, 85, 86, 87] (by decide +kernel) (by decide +kernel)
set_option maxRecDepth 20000 in
theorem gX7_init_X2_init : GoodIn wsX7_init (wsX2_init) := ggX7_init_X2_init
set_option maxRecDepth 20000 in
theorem ggX7_init_X0_init : GoodIn wsX7_init wsX0_init := goodIn_r _ [48, 49, 2, 3, 50, 51, 52, 53, 54, 55, 29, 30, 56, 57, 58, 59, 60, 61, 62, 63, 35, 36, 37, 38, 88, 81, 82, 83, 84, 85, 86, 87] (by decide +kernel) (by decide +kernel)
set_option maxRecDepth 20000 in
theorem gX7_init_X0_init : GoodIn wsX7_init (wsX0_init) := ggX7_init_X0_init
theorem dX7_init_0 : decode cX7_init 0 = .ok (.aload_n 0, 1) := by decide +kernel
theorem dX7_init_1 : decode cX7_init 1 = .ok (.invokespecial 1, 3) := by decide +kernel
theorem dX7_init_4 : decode cX7_init 4 = .ok (.aload_n 0, 1) := by decide +kernel
theorem dX7_init_5 : decode cX7_init 5 = .ok (.bipush 100, 2) := by decide +kernel
theorem dX7_init_7 : decode cX7_init 7 = .ok (.newarray .char, 2) := by decide +kernel
theorem dX7_init_9 : decode cX7_init 9 = .ok (.putfield 9, 3) := by decide +kernel
theorem dX7_init_12 : decode cX7_init 12 = .ok (.aload_n 0, 1) := by decide +kernel
theorem dX7_init_13 : decode cX7_init 13 = .ok (.new 13, 3) := by decide +kernel
theorem dX7_init_16 : decode cX7_init 16 = .ok (.dup, 1) := by decide +kernel
theorem dX7_init_17 : decode cX7_init 17 = .ok (.invokespecial 15, 3) := by decide +kernel
theorem dX7_init_20 : decode cX7_init 20 = .ok (.putfield 16, 3) := by decide +kernel
theorem dX7_init_23 : decode cX7_init 23 = .ok (.aload_n 0, 1) := by decide +kernel
theorem dX7_init_24 : decode cX7_init 24 = .ok (.new 13, 3) := by decide +kernel
theorem dX7_init_27 : decode cX7_init 27 = .ok (.dup, 1) := by decide +kernel
theorem dX7_init_28 : decode cX7_init 28 = .ok (.invokespecial 15, 3) := by decide +kernel
theorem dX7_init_31 : decode cX7_init 31 = .ok (.putfield 20, 3) := by decide +kernel
theorem dX7_init_34 : decode cX7_init 34 = .ok (.aload_n 0, 1) := by decide +kernel
theorem dX7_init_35 : decode cX7_init 35 = .ok (.new 23, 3) := by decide +kernel
theorem dX7_init_38 : decode cX7_init 38 = .ok (.dup, 1) := by decide +kernel
theorem dX7_init_39 : decode cX7_init 39 = .ok (.invokespecial 25, 3) := by decide +kernel
theorem dX7_init_42 : decode cX7_init 42 = .ok (.putfield 26, 3) := by decide +kernel
theorem dX7_init_45 : decode cX7_init 45 = .ok (.aload_n 0, 1) := by decide +kernel
theorem dX7_init_46 : decode cX7_init 46 = .ok (.iconst 2, 1) := by decide +kernel
theorem dX7_init_47 : decode cX7_init 47 = .ok (.anewarray 13, 3) := by decide +kernel
theorem dX7_init_50 : decode cX7_init 50 = .ok (.putfield 30, 3) := by decide +kernel
theorem dX7_init_53 : decode cX7_init 53 = .ok (.aload_n 0, 1) := by decide +kernel
theorem dX7_init_54 : decode cX7_init 54 = .ok (.iconst 2, 1) := by decide +kernel
theorem dX7_init_55 : decode cX7_init 55 = .ok (.newarray .boolean, 2) := by decide +kernel
theorem dX7_init_57 : decode cX7_init 57 = .ok (.putfield 34, 3) := by decide +kernel
theorem dX7_init_60 : decode cX7_init 60 = .ok (.iconst 0, 1) := by decide +kernel
theorem dX7_init_61 : decode cX7_init 61 = .ok (.istore_n 1, 1) := by decide +kernel
theorem dX7_init_62 : decode cX7_init 62 = .ok (.iload_n 1, 1) := by decide +kernel
theorem dX7_init_63 : decode cX7_init 63 = .ok (.aload_n 0, 1) := by decide +kernel
theorem dX7_init_64 : decode cX7_init 64 = .ok (.getfield 30, 3) := by decide +kernel
theorem dX7_init_67 : decode cX7_init 67 = .ok (.arraylength, 1) := by decide +kernel
theorem dX7_init_68 : decode cX7_init 68 = .ok (.if_icmp .ge 22, 3) := by decide +kernel
theorem dX7_init_71 : decode cX7_init 71 = .ok (.aload_n 0, 1) := by decide +kernel
theorem dX7_init_72 : decode cX7_init 72 = .ok (.getfield 30, 3) := by decide +kernel
theorem dX7_init_75 : decode cX7_init 75 = .ok (.iload_n 1, 1) := by decide +kernel
theorem dX7_init_76 : decode cX7_init 76 = .ok (.new 13, 3) := by decide +kernel
theorem dX7_init_79 : decode cX7_init 79 = .ok (.dup, 1) := by decide +kernel
theorem dX7_init_80 : decode cX7_init 80 = .ok (.invokespecial 15, 3) := by decide +kernel
theorem dX7_init_83 : decode cX7_init 83 = .ok (.aastore, 1) := by decide +kernel
theorem dX7_init_84 : decode cX7_init 84 = .ok (.iinc 1 1, 3) := by decide +kernel
theorem dX7_init_87 : decode cX7_init 87 = .ok (.goto (-25), 3) := by decide +kernel
theorem dX7_init_90 : decode cX7_init 90 = .ok (.aload_n 0, 1) := by decide +kernel
theorem dX7_init_91 : decode cX7_init 91 = .ok (.new 38, 3) := by decide +kernel
theorem dX7_init_94 : decode cX7_init 94 = .ok (.dup, 1) := by decide +kernel
theorem dX7_init_95 : decode cX7_init 95 = .ok (.invokespecial 40, 3) := by decide +kernel
theorem dX7_init_98 : decode cX7_init 98 = .ok (.putfield 41, 3) := by decide +kernel
theorem dX7_init_101 : decode cX7_init 101 = .ok (.return_, 1) := by decide +kernel
set_option maxRecDepth 20000 in
theorem ggX7_about_X0_cutAll : GoodIn wsX7_about wsX0_cutAll := goodIn_r _ [12, 13, 14, 15, 16, 17, 18, 19, 20, 21, 22, 23, 24, 25, 26, 27, 28, 29, 30, 31, 32, 33, 34, 35, 36, 37, 38, 39, 40, 41, 42, 43, 44, 45, 46, 47, 48, 49, 50, 51, 52, 53, 54, 55, 56, 57, 58, 59, 60, 61, 62, 63, 64, 65, 143, 144, 145, 137, 138, 139, 140, 141, 142, 146, 147, 148, 149, 150] (by decide +kernel) (by decide +kernel)
set_option maxRecDepth 20000 in
theorem gX7_about_X0_cutAll : GoodIn wsX7_about (wsV RX7 92 RX0 yX0_cutAll wsX0_cutAll) := goodIn_app (goodIn_of _ (by decide +kernel)) ggX7_about_X0_cutAll
set_option maxRecDepth 20000 in
theorem ggX7_about_X5_size : GoodIn wsX7_about wsX5_size := goodIn_r _ [69, 21, 70, 71, 72, 73, 74, 75, 76, 146] (by decide +kernel) (by decide +kernel)
set_option maxRecDepth 20000 in
theorem gX7_about_X5_size : GoodIn wsX7_about (wsV RX7 96 RX5 yX5_size wsX5_size) := goodIn_app (goodIn_of _ (by decide +kernel)) ggX7_about_X5_size
set_option maxRecDepth 20000 in
theorem ggX7_about_X4_leastRadius : GoodIn wsX7_about wsX4_leastRadius := goodIn_r _ [80, 27, 81, 23, 24, 25, 26, 28, 82, 83, 84, 37, 85, 39, 86, 87, 53, 88, 89, 46, 47, 48, 49, 50, 51, 52, 54, 55, 41, 56, 43, 44, 137, 138, 139, 140, 141, 142, 147, 148, 149, 150] (by decide +kernel) (by decide +kernel)
set_option maxRecDepth 20000 in
theorem gX7_about_X4_leastRadius : GoodIn wsX7_about (wsV RX7 101 RX4 yX4_leastRadius wsX4_leastRadius) := goodIn_app (goodIn_of _ (by decide +kernel)) ggX7_about_X4_leastRadius
set_option maxRecDepth 20000 in
theorem ggX7_about_X4_greatestRadius : GoodIn wsX7_about wsX4_greatestRadius := goodIn_r _ [93, 27, 81, 23, 24, 25, 26, 28, 94, 95, 96, 37, 97, 39, 98, 99, 53, 100, 89, 46, 47, 48, 49, 50, 51, 52, 54, 55, 41, 56, 43, 44, 137, 138, 139, 140, 141, 142, 147, 148, 149, 150] (by decide +kernel) (by decide +kernel)
set_option maxRecDepth 20000 in
theorem gX7_about_X4_greatestRadius : GoodIn wsX7_about (wsV RX7 104 RX4 yX4_greatestRadius wsX4_greatestRadius) := goodIn_app (goodIn_of _ (by decide +kernel)) ggX7_about_X4_greatestRadius
set_option maxRecDepth 20000 in
theorem ggX7_about_X4_fitting : GoodIn wsX7_about wsX4_fitting := goodIn_r _ [104, 27, 81, 23, 24, 25, 26, 28, 105, 106, 107, 108, 109, 110, 111, 112, 113, 114, 115, 116, 117, 118, 119, 120, 121, 122, 123, 37, 124, 61, 55, 41, 56, 125, 126, 127, 128, 39, 40, 42, 43, 44, 89, 46, 47, 48, 49, 50, 51, 52, 53, 54, 137, 138, 139, 140, 141, 142, 147, 148, 149, 150] (by decide +kernel) (by decide +kernel)
set_option maxRecDepth 20000 in
theorem gX7_about_X4_fitting : GoodIn wsX7_about (wsV RX7 107 RX4 yX4_fitting wsX4_fitting) := goodIn_app (goodIn_of _ (by decide +kernel)) ggX7_about_X4_fitting
theorem dX7_about_0 : decode cX7_about 0 = .ok (.iload_n 1, 1) := by decide +kernel
theorem dX7_about_1 : decode cX7_about 1 = .ok (.tableswitch 106 0 6 #[43, 51, 59, 67, 82, 90, 98], 43) := by decide +kernel
theorem dX7_about_44 : decode cX7_about 44 = .ok (.aload_n 0, 1) := by decide +kernel
theorem dX7_about_45 : decode cX7_about 45 = .ok (.getfield 16, 3) := by decide +kernel
theorem dX7_about_48 : decode cX7_about 48 = .ok (.getfield 86, 3) := by decide +kernel
theorem dX7_about_51 : decode cX7_about 51 = .ok (.ireturn, 1) := by decide +kernel
theorem dX7_about_52 : decode cX7_about 52 = .ok (.aload_n 0, 1) := by decide +kernel
theorem dX7_about_53 : decode cX7_about 53 = .ok (.getfield 16, 3) := by decide +kernel
theorem dX7_about_56 : decode cX7_about 56 = .ok (.getfield 74, 3) := by decide +kernel
theorem dX7_about_59 : decode cX7_about 59 = .ok (.ireturn, 1) := by decide +kernel
theorem dX7_about_60 : decode cX7_about 60 = .ok (.aload_n 0, 1) := by decide +kernel
theorem dX7_about_61 : decode cX7_about 61 = .ok (.getfield 16, 3) := by decide +kernel
theorem dX7_about_64 : decode cX7_about 64 = .ok (.getfield 89, 3) := by decide +kernel
theorem dX7_about_67 : decode cX7_about 67 = .ok (.ireturn, 1) := by decide +kernel
theorem dX7_about_68 : decode cX7_about 68 = .ok (.aload_n 0, 1) := by decide +kernel
theorem dX7_about_69 : decode cX7_about 69 = .ok (.getfield 41, 3) := by decide +kernel
theorem dX7_about_72 : decode cX7_about 72 = .ok (.aload_n 0, 1) := by decide +kernel
theorem dX7_about_73 : decode cX7_about 73 = .ok (.getfield 16, 3) := by decide +kernel
theorem dX7_about_76 : decode cX7_about 76 = .ok (.invokevirtual 92, 3) := by decide +kernel
theorem dX7_about_79 : decode cX7_about 79 = .ok (.invokevirtual 96, 3) := by decide +kernel
theorem dX7_about_82 : decode cX7_about 82 = .ok (.ireturn, 1) := by decide +kernel
theorem dX7_about_83 : decode cX7_about 83 = .ok (.aload_n 0, 1) := by decide +kernel
theorem dX7_about_84 : decode cX7_about 84 = .ok (.getfield 16, 3) := by decide +kernel
theorem dX7_about_87 : decode cX7_about 87 = .ok (.invokevirtual 101, 3) := by decide +kernel
theorem dX7_about_90 : decode cX7_about 90 = .ok (.ireturn, 1) := by decide +kernel
theorem dX7_about_91 : decode cX7_about 91 = .ok (.aload_n 0, 1) := by decide +kernel
theorem dX7_about_92 : decode cX7_about 92 = .ok (.getfield 16, 3) := by decide +kernel
theorem dX7_about_95 : decode cX7_about 95 = .ok (.invokevirtual 104, 3) := by decide +kernel
theorem dX7_about_98 : decode cX7_about 98 = .ok (.ireturn, 1) := by decide +kernel
theorem dX7_about_99 : decode cX7_about 99 = .ok (.aload_n 0, 1) := by decide +kernel
theorem dX7_about_100 : decode cX7_about 100 = .ok (.getfield 16, 3) := by decide +kernel
theorem dX7_about_103 : decode cX7_about 103 = .ok (.invokevirtual 107, 3) := by decide +kernel
theorem dX7_about_106 : decode cX7_about 106 = .ok (.ireturn, 1) := by decide +kernel
theorem dX7_about_107 : decode cX7_about 107 = .ok (.new 45, 3) := by decide +kernel
theorem dX7_about_110 : decode cX7_about 110 = .ok (.dup, 1) := by decide +kernel
theorem dX7_about_111 : decode cX7_about 111 = .ok (.ldc 110, 2) := by decide +kernel
theorem dX7_about_113 : decode cX7_about 113 = .ok (.invokespecial 49, 3) := by decide +kernel
theorem dX7_about_116 : decode cX7_about 116 = .ok (.athrow, 1) := by decide +kernel
set_option maxRecDepth 20000 in
theorem ggX7_layer_X4_find : GoodIn wsX7_layer wsX4_find := goodIn_r _ [16, 17, 18, 116, 117, 118, 119, 120, 121] (by decide +kernel) (by decide +kernel)
set_option maxRecDepth 20000 in
theorem gX7_layer_X4_find : GoodIn wsX7_layer (wsV RX7 112 RX4 yX4_find wsX4_find) := goodIn_app (goodIn_of _ (by decide +kernel)) ggX7_layer_X4_find
set_option maxRecDepth 20000 in
theorem ggX7_layer_X3_period : GoodIn wsX7_layer wsX3_period := goodIn_r _ [23, 24, 25, 26, 22, 27, 28, 29, 30, 31, 32, 33, 112, 113, 114, 115] (by decide +kernel) (by decide +kernel)
set_option maxRecDepth 20000 in
theorem gX7_layer_X3_period : GoodIn wsX7_layer (wsV RX7 135 RX3 yX3_period wsX3_period) := goodIn_app (goodIn_of _ (by decide +kernel)) ggX7_layer_X3_period
set_option maxRecDepth 20000 in
theorem ggX7_layer_X3_turns : GoodIn wsX7_layer wsX3_turns := goodIn_r _ [27, 28, 29, 30, 31, 32, 33, 112, 113, 114, 115] (by decide +kernel) (by decide +kernel)
set_option maxRecDepth 20000 in
theorem gX7_layer_X3_turns : GoodIn wsX7_layer (wsV RX7 139 RX3 yX3_turns wsX3_turns) := goodIn_app (goodIn_of _ (by decide +kernel)) ggX7_layer_X3_turns
set_option maxRecDepth 20000 in
theorem ggX7_layer_X3_lobes : GoodIn wsX7_layer wsX3_lobes := goodIn_r _ [38, 28, 29, 30, 31, 32, 33, 112, 113, 114, 115] (by decide +kernel) (by decide +kernel)
set_option maxRecDepth 20000 in
theorem gX7_layer_X3_lobes : GoodIn wsX7_layer (wsV RX7 142 RX3 yX3_lobes wsX3_lobes) := goodIn_app (goodIn_of _ (by decide +kernel)) ggX7_layer_X3_lobes
set_option maxRecDepth 20000 in
theorem ggX7_layer_X0_cutOne : GoodIn wsX7_layer wsX0_cutOne := goodIn_r _ [43, 44, 45, 46, 47, 48, 49, 50, 51, 52, 53, 54, 55, 56, 36, 37, 22, 38, 28, 29, 30, 31, 32, 33, 57, 58, 59, 60, 61, 62, 63, 64, 65, 66, 67, 68, 69, 70, 71, 72, 73, 74, 75, 76, 77, 122, 123, 124, 125, 112, 113, 114, 115] (by decide +kernel) (by decide +kernel)
set_option maxRecDepth 20000 in
theorem gX7_layer_X0_cutOne : GoodIn wsX7_layer (wsV RX7 145 RX0 yX0_cutOne wsX0_cutOne) := goodIn_app (goodIn_of _ (by decide +kernel)) ggX7_layer_X0_cutOne
set_option maxRecDepth 20000 in
theorem ggX7_layer_X5_size : GoodIn wsX7_layer wsX5_size := goodIn_r _ [81, 50, 82, 83, 84, 85, 86, 87, 88, 125] (by decide +kernel) (by decide +kernel)
set_option maxRecDepth 20000 in
theorem gX7_layer_X5_size : GoodIn wsX7_layer (wsV RX7 96 RX5 yX5_size wsX5_size) := goodIn_app (goodIn_of _ (by decide +kernel)) ggX7_layer_X5_size
set_option maxRecDepth 20000 in
theorem ggX7_layer_X3_leastRadius : GoodIn wsX7_layer wsX3_leastRadius := goodIn_r _ [92, 28, 93, 94, 65, 95, 96, 58, 59, 22, 60, 61, 62, 63, 64, 66, 67, 30, 68, 32, 33, 112, 113, 114, 115] (by decide +kernel) (by decide +kernel)
set_option maxRecDepth 20000 in
theorem gX7_layer_X3_leastRadius : GoodIn wsX7_layer (wsV RX7 149 RX3 yX3_leastRadius wsX3_leastRadius) := goodIn_app (goodIn_of _ (by decide +kernel)) ggX7_layer_X3_leastRadius
set_option maxRecDepth 20000 in
theorem ggX7_layer_X3_greatestRadius : GoodIn wsX7_layer wsX3_greatestRadius := goodIn_r _ [100, 28, 101, 102, 65, 103, 96, 58, 59, 22, 60, 61, 62, 63, 64, 66, 67, 30, 68, 32, 33, 112, 113, 114, 115] (by decide +kernel) (by decide +kernel)
set_option maxRecDepth 20000 in
theorem gX7_layer_X3_greatestRadius : GoodIn wsX7_layer (wsV RX7 150 RX3 yX3_greatestRadius wsX3_greatestRadius) := goodIn_app (goodIn_of _ (by decide +kernel)) ggX7_layer_X3_greatestRadius
theorem dX7_layer_0 : decode cX7_layer 0 = .ok (.aload_n 0, 1) := by decide +kernel
theorem dX7_layer_1 : decode cX7_layer 1 = .ok (.getfield 16, 3) := by decide +kernel
theorem dX7_layer_4 : decode cX7_layer 4 = .ok (.iload_n 1, 1) := by decide +kernel
theorem dX7_layer_5 : decode cX7_layer 5 = .ok (.invokevirtual 112, 3) := by decide +kernel
theorem dX7_layer_8 : decode cX7_layer 8 = .ok (.astore_n 3, 1) := by decide +kernel
theorem dX7_layer_9 : decode cX7_layer 9 = .ok (.aload_n 3, 1) := by decide +kernel
theorem dX7_layer_10 : decode cX7_layer 10 = .ok (.ifnonnull 13, 3) := by decide +kernel
theorem dX7_layer_13 : decode cX7_layer 13 = .ok (.new 116, 3) := by decide +kernel
theorem dX7_layer_16 : decode cX7_layer 16 = .ok (.dup, 1) := by decide +kernel
theorem dX7_layer_17 : decode cX7_layer 17 = .ok (.ldc 118, 2) := by decide +kernel
theorem dX7_layer_19 : decode cX7_layer 19 = .ok (.invokespecial 120, 3) := by decide +kernel
theorem dX7_layer_22 : decode cX7_layer 22 = .ok (.athrow, 1) := by decide +kernel
theorem dX7_layer_23 : decode cX7_layer 23 = .ok (.iload_n 2, 1) := by decide +kernel
theorem dX7_layer_24 : decode cX7_layer 24 = .ok (.tableswitch 141 0 9 #[56, 61, 66, 71, 76, 88, 100, 112, 131, 136], 56) := by decide +kernel
theorem dX7_layer_80 : decode cX7_layer 80 = .ok (.aload_n 3, 1) := by decide +kernel
theorem dX7_layer_81 : decode cX7_layer 81 = .ok (.getfield 121, 3) := by decide +kernel
theorem dX7_layer_84 : decode cX7_layer 84 = .ok (.ireturn, 1) := by decide +kernel
theorem dX7_layer_85 : decode cX7_layer 85 = .ok (.aload_n 3, 1) := by decide +kernel
theorem dX7_layer_86 : decode cX7_layer 86 = .ok (.getfield 126, 3) := by decide +kernel
theorem dX7_layer_89 : decode cX7_layer 89 = .ok (.ireturn, 1) := by decide +kernel
theorem dX7_layer_90 : decode cX7_layer 90 = .ok (.aload_n 3, 1) := by decide +kernel
theorem dX7_layer_91 : decode cX7_layer 91 = .ok (.getfield 129, 3) := by decide +kernel
theorem dX7_layer_94 : decode cX7_layer 94 = .ok (.ireturn, 1) := by decide +kernel
theorem dX7_layer_95 : decode cX7_layer 95 = .ok (.aload_n 3, 1) := by decide +kernel
theorem dX7_layer_96 : decode cX7_layer 96 = .ok (.getfield 132, 3) := by decide +kernel
theorem dX7_layer_99 : decode cX7_layer 99 = .ok (.ireturn, 1) := by decide +kernel
theorem dX7_layer_100 : decode cX7_layer 100 = .ok (.aload_n 3, 1) := by decide +kernel
theorem dX7_layer_101 : decode cX7_layer 101 = .ok (.aload_n 0, 1) := by decide +kernel
theorem dX7_layer_102 : decode cX7_layer 102 = .ok (.getfield 16, 3) := by decide +kernel
theorem dX7_layer_105 : decode cX7_layer 105 = .ok (.getfield 86, 3) := by decide +kernel
theorem dX7_layer_108 : decode cX7_layer 108 = .ok (.invokevirtual 135, 3) := by decide +kernel
theorem dX7_layer_111 : decode cX7_layer 111 = .ok (.ireturn, 1) := by decide +kernel
theorem dX7_layer_112 : decode cX7_layer 112 = .ok (.aload_n 3, 1) := by decide +kernel
theorem dX7_layer_113 : decode cX7_layer 113 = .ok (.aload_n 0, 1) := by decide +kernel
theorem dX7_layer_114 : decode cX7_layer 114 = .ok (.getfield 16, 3) := by decide +kernel
theorem dX7_layer_117 : decode cX7_layer 117 = .ok (.getfield 86, 3) := by decide +kernel
theorem dX7_layer_120 : decode cX7_layer 120 = .ok (.invokevirtual 139, 3) := by decide +kernel
theorem dX7_layer_123 : decode cX7_layer 123 = .ok (.ireturn, 1) := by decide +kernel
theorem dX7_layer_124 : decode cX7_layer 124 = .ok (.aload_n 3, 1) := by decide +kernel
theorem dX7_layer_125 : decode cX7_layer 125 = .ok (.aload_n 0, 1) := by decide +kernel
theorem dX7_layer_126 : decode cX7_layer 126 = .ok (.getfield 16, 3) := by decide +kernel
theorem dX7_layer_129 : decode cX7_layer 129 = .ok (.getfield 86, 3) := by decide +kernel
theorem dX7_layer_132 : decode cX7_layer 132 = .ok (.invokevirtual 142, 3) := by decide +kernel
theorem dX7_layer_135 : decode cX7_layer 135 = .ok (.ireturn, 1) := by decide +kernel
theorem dX7_layer_136 : decode cX7_layer 136 = .ok (.aload_n 0, 1) := by decide +kernel
theorem dX7_layer_137 : decode cX7_layer 137 = .ok (.getfield 41, 3) := by decide +kernel
theorem dX7_layer_140 : decode cX7_layer 140 = .ok (.aload_n 0, 1) := by decide +kernel
theorem dX7_layer_141 : decode cX7_layer 141 = .ok (.getfield 16, 3) := by decide +kernel
theorem dX7_layer_144 : decode cX7_layer 144 = .ok (.getfield 86, 3) := by decide +kernel
theorem dX7_layer_147 : decode cX7_layer 147 = .ok (.aload_n 3, 1) := by decide +kernel
theorem dX7_layer_148 : decode cX7_layer 148 = .ok (.invokevirtual 145, 3) := by decide +kernel
theorem dX7_layer_151 : decode cX7_layer 151 = .ok (.invokevirtual 96, 3) := by decide +kernel
theorem dX7_layer_154 : decode cX7_layer 154 = .ok (.ireturn, 1) := by decide +kernel
theorem dX7_layer_155 : decode cX7_layer 155 = .ok (.aload_n 3, 1) := by decide +kernel
theorem dX7_layer_156 : decode cX7_layer 156 = .ok (.invokevirtual 149, 3) := by decide +kernel
theorem dX7_layer_159 : decode cX7_layer 159 = .ok (.ireturn, 1) := by decide +kernel
theorem dX7_layer_160 : decode cX7_layer 160 = .ok (.aload_n 3, 1) := by decide +kernel
theorem dX7_layer_161 : decode cX7_layer 161 = .ok (.invokevirtual 150, 3) := by decide +kernel
theorem dX7_layer_164 : decode cX7_layer 164 = .ok (.ireturn, 1) := by decide +kernel
theorem dX7_layer_165 : decode cX7_layer 165 = .ok (.new 45, 3) := by decide +kernel
theorem dX7_layer_168 : decode cX7_layer 168 = .ok (.dup, 1) := by decide +kernel
theorem dX7_layer_169 : decode cX7_layer 169 = .ok (.ldc 151, 2) := by decide +kernel
theorem dX7_layer_171 : decode cX7_layer 171 = .ok (.invokespecial 49, 3) := by decide +kernel
theorem dX7_layer_174 : decode cX7_layer 174 = .ok (.athrow, 1) := by decide +kernel
set_option maxRecDepth 20000 in
theorem ggX7_pen_X4_find : GoodIn wsX7_pen wsX4_find := goodIn_r _ [11, 12, 13, 44, 45, 46, 47, 48, 49] (by decide +kernel) (by decide +kernel)
set_option maxRecDepth 20000 in
theorem gX7_pen_X4_find : GoodIn wsX7_pen (wsV RX7 112 RX4 yX4_find wsX4_find) := goodIn_app (goodIn_of _ (by decide +kernel)) ggX7_pen_X4_find
set_option maxRecDepth 20000 in
theorem ggX7_pen_X3_angleAt : GoodIn wsX7_pen wsX3_angleAt := goodIn_r _ [18, 19, 20, 21, 22, 50, 51, 52, 53] (by decide +kernel) (by decide +kernel)
set_option maxRecDepth 20000 in
theorem gX7_pen_X3_angleAt : GoodIn wsX7_pen (wsV RX7 155 RX3 yX3_angleAt wsX3_angleAt) := goodIn_app (goodIn_of _ (by decide +kernel)) ggX7_pen_X3_angleAt
set_option maxRecDepth 20000 in
theorem ggX7_pen_X3_radiusAt : GoodIn wsX7_pen wsX3_radiusAt := goodIn_r _ [26, 27, 28, 29, 30, 31, 32, 33, 20, 21, 22, 34, 35, 50, 51, 52, 53] (by decide +kernel) (by decide +kernel)
set_option maxRecDepth 20000 in
theorem gX7_pen_X3_radiusAt : GoodIn wsX7_pen (wsV RX7 159 RX3 yX3_radiusAt wsX3_radiusAt) := goodIn_app (goodIn_of _ (by decide +kernel)) ggX7_pen_X3_radiusAt
theorem dX7_pen_0 : decode cX7_pen 0 = .ok (.aload_n 0, 1) := by decide +kernel
theorem dX7_pen_1 : decode cX7_pen 1 = .ok (.getfield 16, 3) := by decide +kernel
theorem dX7_pen_4 : decode cX7_pen 4 = .ok (.iload_n 1, 1) := by decide +kernel
theorem dX7_pen_5 : decode cX7_pen 5 = .ok (.invokevirtual 112, 3) := by decide +kernel
theorem dX7_pen_8 : decode cX7_pen 8 = .ok (.astore 4, 2) := by decide +kernel
theorem dX7_pen_10 : decode cX7_pen 10 = .ok (.aload 4, 2) := by decide +kernel
theorem dX7_pen_12 : decode cX7_pen 12 = .ok (.ifnonnull 13, 3) := by decide +kernel
theorem dX7_pen_15 : decode cX7_pen 15 = .ok (.new 116, 3) := by decide +kernel
theorem dX7_pen_18 : decode cX7_pen 18 = .ok (.dup, 1) := by decide +kernel
theorem dX7_pen_19 : decode cX7_pen 19 = .ok (.ldc 118, 2) := by decide +kernel
theorem dX7_pen_21 : decode cX7_pen 21 = .ok (.invokespecial 120, 3) := by decide +kernel
theorem dX7_pen_24 : decode cX7_pen 24 = .ok (.athrow, 1) := by decide +kernel
theorem dX7_pen_25 : decode cX7_pen 25 = .ok (.lload_n 2, 1) := by decide +kernel
theorem dX7_pen_26 : decode cX7_pen 26 = .ok (.lconst 0, 1) := by decide +kernel
theorem dX7_pen_27 : decode cX7_pen 27 = .ok (.lcmp, 1) := by decide +kernel
theorem dX7_pen_28 : decode cX7_pen 28 = .ok (.ifCond .ge 13, 3) := by decide +kernel
theorem dX7_pen_31 : decode cX7_pen 31 = .ok (.new 45, 3) := by decide +kernel
theorem dX7_pen_34 : decode cX7_pen 34 = .ok (.dup, 1) := by decide +kernel
theorem dX7_pen_35 : decode cX7_pen 35 = .ok (.ldc 153, 2) := by decide +kernel
theorem dX7_pen_37 : decode cX7_pen 37 = .ok (.invokespecial 49, 3) := by decide +kernel
theorem dX7_pen_40 : decode cX7_pen 40 = .ok (.athrow, 1) := by decide +kernel
theorem dX7_pen_41 : decode cX7_pen 41 = .ok (.sipush 1000, 3) := by decide +kernel
theorem dX7_pen_44 : decode cX7_pen 44 = .ok (.aload 4, 2) := by decide +kernel
theorem dX7_pen_46 : decode cX7_pen 46 = .ok (.aload_n 0, 1) := by decide +kernel
theorem dX7_pen_47 : decode cX7_pen 47 = .ok (.getfield 16, 3) := by decide +kernel
theorem dX7_pen_50 : decode cX7_pen 50 = .ok (.getfield 86, 3) := by decide +kernel
theorem dX7_pen_53 : decode cX7_pen 53 = .ok (.lload_n 2, 1) := by decide +kernel
theorem dX7_pen_54 : decode cX7_pen 54 = .ok (.invokevirtual 155, 3) := by decide +kernel
theorem dX7_pen_57 : decode cX7_pen 57 = .ok (.imul, 1) := by decide +kernel
theorem dX7_pen_58 : decode cX7_pen 58 = .ok (.aload 4, 2) := by decide +kernel
theorem dX7_pen_60 : decode cX7_pen 60 = .ok (.lload_n 2, 1) := by decide +kernel
theorem dX7_pen_61 : decode cX7_pen 61 = .ok (.invokevirtual 159, 3) := by decide +kernel
theorem dX7_pen_64 : decode cX7_pen 64 = .ok (.iadd, 1) := by decide +kernel
theorem dX7_pen_65 : decode cX7_pen 65 = .ok (.ireturn, 1) := by decide +kernel
set_option maxRecDepth 20000 in
theorem ggX7_comes_X4_find : GoodIn wsX7_comes wsX4_find := goodIn_r _ [11, 12, 13, 58, 59, 60, 61, 62, 63] (by decide +kernel) (by decide +kernel)
set_option maxRecDepth 20000 in
theorem gX7_comes_X4_find : GoodIn wsX7_comes (wsV RX7 112 RX4 yX4_find wsX4_find) := goodIn_app (goodIn_of _ (by decide +kernel)) ggX7_comes_X4_find
set_option maxRecDepth 20000 in
theorem ggX7_comes_X4_hasTooth : GoodIn wsX7_comes wsX4_hasTooth := goodIn_r _ [17, 18, 58, 59, 60, 61, 62, 63] (by decide +kernel) (by decide +kernel)
set_option maxRecDepth 20000 in
theorem gX7_comes_X4_hasTooth : GoodIn wsX7_comes (wsV RX7 163 RX4 yX4_hasTooth wsX4_hasTooth) := goodIn_app (goodIn_of _ (by decide +kernel)) ggX7_comes_X4_hasTooth
set_option maxRecDepth 20000 in
theorem ggX7_comes_X7_isRadius : GoodIn wsX7_comes wsX7_isRadius := goodIn_r _ [22] (by decide +kernel) (by decide +kernel)
set_option maxRecDepth 20000 in
theorem gX7_comes_X7_isRadius : GoodIn wsX7_comes (va_wsS RX7 167 yX7_isRadius wsX7_isRadius) := goodIn_app (goodIn_of _ (by decide +kernel)) ggX7_comes_X7_isRadius
set_option maxRecDepth 20000 in
theorem ggX7_comes_X3_firstStepAt : GoodIn wsX7_comes wsX3_firstStepAt := goodIn_r _ [27, 28, 29, 21, 30, 31, 32, 33, 26, 34, 35, 36, 37, 38, 39, 40, 41, 42, 43, 44, 45, 46, 47, 48, 49, 64, 65, 66, 67] (by decide +kernel) (by decide +kernel)
set_option maxRecDepth 20000 in
theorem gX7_comes_X3_firstStepAt : GoodIn wsX7_comes (wsV RX7 172 RX3 yX3_firstStepAt wsX3_firstStepAt) := goodIn_app (goodIn_of _ (by decide +kernel)) ggX7_comes_X3_firstStepAt
theorem dX7_comes_0 : decode cX7_comes 0 = .ok (.aload_n 0, 1) := by decide +kernel
theorem dX7_comes_1 : decode cX7_comes 1 = .ok (.getfield 16, 3) := by decide +kernel
theorem dX7_comes_4 : decode cX7_comes 4 = .ok (.iload_n 1, 1) := by decide +kernel
theorem dX7_comes_5 : decode cX7_comes 5 = .ok (.invokevirtual 112, 3) := by decide +kernel
theorem dX7_comes_8 : decode cX7_comes 8 = .ok (.astore 4, 2) := by decide +kernel
theorem dX7_comes_10 : decode cX7_comes 10 = .ok (.aload 4, 2) := by decide +kernel
theorem dX7_comes_12 : decode cX7_comes 12 = .ok (.ifnonnull 13, 3) := by decide +kernel
theorem dX7_comes_15 : decode cX7_comes 15 = .ok (.new 116, 3) := by decide +kernel
theorem dX7_comes_18 : decode cX7_comes 18 = .ok (.dup, 1) := by decide +kernel
theorem dX7_comes_19 : decode cX7_comes 19 = .ok (.ldc 118, 2) := by decide +kernel
theorem dX7_comes_21 : decode cX7_comes 21 = .ok (.invokespecial 120, 3) := by decide +kernel
theorem dX7_comes_24 : decode cX7_comes 24 = .ok (.athrow, 1) := by decide +kernel
theorem dX7_comes_25 : decode cX7_comes 25 = .ok (.aload_n 0, 1) := by decide +kernel
theorem dX7_comes_26 : decode cX7_comes 26 = .ok (.getfield 16, 3) := by decide +kernel
theorem dX7_comes_29 : decode cX7_comes 29 = .ok (.iload_n 2, 1) := by decide +kernel
theorem dX7_comes_30 : decode cX7_comes 30 = .ok (.invokevirtual 163, 3) := by decide +kernel
theorem dX7_comes_33 : decode cX7_comes 33 = .ok (.ifCond .eq 10, 3) := by decide +kernel
theorem dX7_comes_36 : decode cX7_comes 36 = .ok (.iload_n 3, 1) := by decide +kernel
theorem dX7_comes_37 : decode cX7_comes 37 = .ok (.invokestatic 167, 3) := by decide +kernel
theorem dX7_comes_40 : decode cX7_comes 40 = .ok (.ifCond .ne 13, 3) := by decide +kernel
theorem dX7_comes_43 : decode cX7_comes 43 = .ok (.new 45, 3) := by decide +kernel
theorem dX7_comes_46 : decode cX7_comes 46 = .ok (.dup, 1) := by decide +kernel
theorem dX7_comes_47 : decode cX7_comes 47 = .ok (.ldc 170, 2) := by decide +kernel
theorem dX7_comes_49 : decode cX7_comes 49 = .ok (.invokespecial 49, 3) := by decide +kernel
theorem dX7_comes_52 : decode cX7_comes 52 = .ok (.athrow, 1) := by decide +kernel
theorem dX7_comes_53 : decode cX7_comes 53 = .ok (.aload 4, 2) := by decide +kernel
theorem dX7_comes_55 : decode cX7_comes 55 = .ok (.aload_n 0, 1) := by decide +kernel
theorem dX7_comes_56 : decode cX7_comes 56 = .ok (.getfield 16, 3) := by decide +kernel
theorem dX7_comes_59 : decode cX7_comes 59 = .ok (.getfield 86, 3) := by decide +kernel
theorem dX7_comes_62 : decode cX7_comes 62 = .ok (.iload_n 2, 1) := by decide +kernel
theorem dX7_comes_63 : decode cX7_comes 63 = .ok (.iload_n 3, 1) := by decide +kernel
theorem dX7_comes_64 : decode cX7_comes 64 = .ok (.invokevirtual 172, 3) := by decide +kernel
theorem dX7_comes_67 : decode cX7_comes 67 = .ok (.ireturn, 1) := by decide +kernel
set_option maxRecDepth 20000 in
theorem ggX7_at_X7_isRadius : GoodIn wsX7_at wsX7_isRadius := goodIn_r _ [8] (by decide +kernel) (by decide +kernel)
set_option maxRecDepth 20000 in
theorem gX7_at_X7_isRadius : GoodIn wsX7_at (va_wsS RX7 167 yX7_isRadius wsX7_isRadius) := goodIn_app (goodIn_of _ (by decide +kernel)) ggX7_at_X7_isRadius
set_option maxRecDepth 20000 in
theorem ggX7_at_X0_cutAll : GoodIn wsX7_at wsX0_cutAll := goodIn_r _ [13, 14, 15, 16, 17, 18, 19, 20, 21, 22, 23, 24, 25, 26, 27, 28, 29, 30, 31, 32, 33, 34, 35, 36, 37, 38, 39, 40, 41, 7, 42, 43, 44, 45, 46, 47, 48, 49, 50, 51, 52, 53, 54, 55, 56, 57, 58, 59, 60, 61, 62, 63, 64, 65, 85, 86, 87, 88, 89, 90, 91, 92, 93, 94, 95, 96, 97, 98] (by decide +kernel) (by decide +kernel)
set_option maxRecDepth 20000 in
theorem gX7_at_X0_cutAll : GoodIn wsX7_at (wsV RX7 92 RX0 yX0_cutAll wsX0_cutAll) := goodIn_app (goodIn_of _ (by decide +kernel)) ggX7_at_X0_cutAll
set_option maxRecDepth 20000 in
theorem ggX7_at_X5_sizeAt : GoodIn wsX7_at wsX5_sizeAt := goodIn_r _ [69, 22, 70, 71, 72, 73, 74, 75, 76, 94] (by decide +kernel) (by decide +kernel)
set_option maxRecDepth 20000 in
theorem gX7_at_X5_sizeAt : GoodIn wsX7_at (wsV RX7 178 RX5 yX5_sizeAt wsX5_sizeAt) := goodIn_app (goodIn_of _ (by decide +kernel)) ggX7_at_X5_sizeAt
theorem dX7_at_0 : decode cX7_at 0 = .ok (.iload_n 1, 1) := by decide +kernel
theorem dX7_at_1 : decode cX7_at 1 = .ok (.invokestatic 167, 3) := by decide +kernel
theorem dX7_at_4 : decode cX7_at 4 = .ok (.ifCond .ne 13, 3) := by decide +kernel
theorem dX7_at_7 : decode cX7_at 7 = .ok (.new 45, 3) := by decide +kernel
theorem dX7_at_10 : decode cX7_at 10 = .ok (.dup, 1) := by decide +kernel
theorem dX7_at_11 : decode cX7_at 11 = .ok (.ldc 176, 2) := by decide +kernel
theorem dX7_at_13 : decode cX7_at 13 = .ok (.invokespecial 49, 3) := by decide +kernel
theorem dX7_at_16 : decode cX7_at 16 = .ok (.athrow, 1) := by decide +kernel
theorem dX7_at_17 : decode cX7_at 17 = .ok (.aload_n 0, 1) := by decide +kernel
theorem dX7_at_18 : decode cX7_at 18 = .ok (.getfield 41, 3) := by decide +kernel
theorem dX7_at_21 : decode cX7_at 21 = .ok (.aload_n 0, 1) := by decide +kernel
theorem dX7_at_22 : decode cX7_at 22 = .ok (.getfield 16, 3) := by decide +kernel
theorem dX7_at_25 : decode cX7_at 25 = .ok (.invokevirtual 92, 3) := by decide +kernel
theorem dX7_at_28 : decode cX7_at 28 = .ok (.iload_n 1, 1) := by decide +kernel
theorem dX7_at_29 : decode cX7_at 29 = .ok (.invokevirtual 178, 3) := by decide +kernel
theorem dX7_at_32 : decode cX7_at 32 = .ok (.ireturn, 1) := by decide +kernel
set_option maxRecDepth 20000 in
theorem ggX7_blank_X0_cutAll : GoodIn wsX7_blank wsX0_cutAll := goodIn_r _ [8, 9, 10, 11, 12, 13, 14, 15, 16, 17, 18, 19, 20, 21, 22, 23, 24, 25, 26, 27, 28, 29, 30, 31, 32, 33, 34, 35, 36, 37, 38, 39, 40, 41, 42, 43, 44, 45, 46, 47, 48, 49, 50, 51, 52, 53, 54, 55, 56, 57, 58, 59, 60, 61, 94, 95, 96, 88, 89, 90, 91, 92, 93, 97, 98, 99, 100, 101] (by decide +kernel) (by decide +kernel)
set_option maxRecDepth 20000 in
theorem gX7_blank_X0_cutAll : GoodIn wsX7_blank (wsV RX7 92 RX0 yX0_cutAll wsX0_cutAll) := goodIn_app (goodIn_of _ (by decide +kernel)) ggX7_blank_X0_cutAll
set_option maxRecDepth 20000 in
theorem ggX7_blank_X5_widestGap : GoodIn wsX7_blank wsX5_widestGap := goodIn_r _ [65, 66, 67, 49, 68, 69, 70, 71, 15, 72, 17, 73, 74, 75, 76, 77, 78, 79, 97] (by decide +kernel) (by decide +kernel)
set_option maxRecDepth 20000 in
theorem gX7_blank_X5_widestGap : GoodIn wsX7_blank (wsV RX7 181 RX5 yX5_widestGap wsX5_widestGap) := goodIn_app (goodIn_of _ (by decide +kernel)) ggX7_blank_X5_widestGap
theorem dX7_blank_0 : decode cX7_blank 0 = .ok (.aload_n 0, 1) := by decide +kernel
theorem dX7_blank_1 : decode cX7_blank 1 = .ok (.getfield 16, 3) := by decide +kernel
theorem dX7_blank_4 : decode cX7_blank 4 = .ok (.getfield 74, 3) := by decide +kernel
theorem dX7_blank_7 : decode cX7_blank 7 = .ok (.ifCond .ne 8, 3) := by decide +kernel
theorem dX7_blank_10 : decode cX7_blank 10 = .ok (.bipush (-9), 2) := by decide +kernel
theorem dX7_blank_12 : decode cX7_blank 12 = .ok (.goto 17, 3) := by decide +kernel
theorem dX7_blank_15 : decode cX7_blank 15 = .ok (.aload_n 0, 1) := by decide +kernel
theorem dX7_blank_16 : decode cX7_blank 16 = .ok (.getfield 41, 3) := by decide +kernel
theorem dX7_blank_19 : decode cX7_blank 19 = .ok (.aload_n 0, 1) := by decide +kernel
theorem dX7_blank_20 : decode cX7_blank 20 = .ok (.getfield 16, 3) := by decide +kernel
theorem dX7_blank_23 : decode cX7_blank 23 = .ok (.invokevirtual 92, 3) := by decide +kernel
theorem dX7_blank_26 : decode cX7_blank 26 = .ok (.invokevirtual 181, 3) := by decide +kernel
theorem dX7_blank_29 : decode cX7_blank 29 = .ok (.ireturn, 1) := by decide +kernel
set_option maxRecDepth 20000 in
theorem ggX7_together_X4_find : GoodIn wsX7_together wsX4_find := goodIn_r _ [8, 9, 10, 39, 40, 41, 42, 43, 44] (by decide +kernel) (by decide +kernel)
set_option maxRecDepth 20000 in
theorem gX7_together_X4_find : GoodIn wsX7_together (wsV RX7 112 RX4 yX4_find wsX4_find) := goodIn_app (goodIn_of _ (by decide +kernel)) ggX7_together_X4_find
set_option maxRecDepth 20000 in
theorem ggX7_together_X3_period : GoodIn wsX7_together wsX3_period := goodIn_r _ [15, 16, 17, 18, 14, 19, 20, 21, 22, 23, 24, 25, 45, 46, 47, 48] (by decide +kernel) (by decide +kernel)
set_option maxRecDepth 20000 in
theorem gX7_together_X3_period : GoodIn wsX7_together (wsV RX7 135 RX3 yX3_period wsX3_period) := goodIn_app (goodIn_of _ (by decide +kernel)) ggX7_together_X3_period
set_option maxRecDepth 20000 in
theorem ggX7_together_X7_commonMultiple : GoodIn wsX7_together wsX7_commonMultiple := goodIn_r _ [28, 29, 21, 22, 23, 30, 24, 25] (by decide +kernel) (by decide +kernel)
set_option maxRecDepth 20000 in
theorem gX7_together_X7_commonMultiple : GoodIn wsX7_together (va_wsS RX7 184 yX7_commonMultiple wsX7_commonMultiple) := goodIn_app (goodIn_of _ (by decide +kernel)) ggX7_together_X7_commonMultiple
theorem dX7_together_0 : decode cX7_together 0 = .ok (.aload_n 0, 1) := by decide +kernel
theorem dX7_together_1 : decode cX7_together 1 = .ok (.getfield 16, 3) := by decide +kernel
theorem dX7_together_4 : decode cX7_together 4 = .ok (.getfield 74, 3) := by decide +kernel
theorem dX7_together_7 : decode cX7_together 7 = .ok (.ifCond .ne 5, 3) := by decide +kernel
theorem dX7_together_10 : decode cX7_together 10 = .ok (.lconst 0, 1) := by decide +kernel
theorem dX7_together_11 : decode cX7_together 11 = .ok (.lreturn, 1) := by decide +kernel
theorem dX7_together_12 : decode cX7_together 12 = .ok (.lconst 1, 1) := by decide +kernel
theorem dX7_together_13 : decode cX7_together 13 = .ok (.lstore_n 1, 1) := by decide +kernel
theorem dX7_together_14 : decode cX7_together 14 = .ok (.iconst 0, 1) := by decide +kernel
theorem dX7_together_15 : decode cX7_together 15 = .ok (.istore_n 3, 1) := by decide +kernel
theorem dX7_together_16 : decode cX7_together 16 = .ok (.iload_n 3, 1) := by decide +kernel
theorem dX7_together_17 : decode cX7_together 17 = .ok (.aload_n 0, 1) := by decide +kernel
theorem dX7_together_18 : decode cX7_together 18 = .ok (.getfield 16, 3) := by decide +kernel
theorem dX7_together_21 : decode cX7_together 21 = .ok (.getfield 74, 3) := by decide +kernel
theorem dX7_together_24 : decode cX7_together 24 = .ok (.if_icmp .ge 42, 3) := by decide +kernel
theorem dX7_together_27 : decode cX7_together 27 = .ok (.aload_n 0, 1) := by decide +kernel
theorem dX7_together_28 : decode cX7_together 28 = .ok (.getfield 16, 3) := by decide +kernel
theorem dX7_together_31 : decode cX7_together 31 = .ok (.iload_n 3, 1) := by decide +kernel
theorem dX7_together_32 : decode cX7_together 32 = .ok (.invokevirtual 112, 3) := by decide +kernel
theorem dX7_together_35 : decode cX7_together 35 = .ok (.astore 4, 2) := by decide +kernel
theorem dX7_together_37 : decode cX7_together 37 = .ok (.aload 4, 2) := by decide +kernel
theorem dX7_together_39 : decode cX7_together 39 = .ok (.ifnull 21, 3) := by decide +kernel
theorem dX7_together_42 : decode cX7_together 42 = .ok (.lload_n 1, 1) := by decide +kernel
theorem dX7_together_43 : decode cX7_together 43 = .ok (.aload 4, 2) := by decide +kernel
theorem dX7_together_45 : decode cX7_together 45 = .ok (.aload_n 0, 1) := by decide +kernel
theorem dX7_together_46 : decode cX7_together 46 = .ok (.getfield 16, 3) := by decide +kernel
theorem dX7_together_49 : decode cX7_together 49 = .ok (.getfield 86, 3) := by decide +kernel
theorem dX7_together_52 : decode cX7_together 52 = .ok (.invokevirtual 135, 3) := by decide +kernel
theorem dX7_together_55 : decode cX7_together 55 = .ok (.i2l, 1) := by decide +kernel
theorem dX7_together_56 : decode cX7_together 56 = .ok (.invokestatic 184, 3) := by decide +kernel
theorem dX7_together_59 : decode cX7_together 59 = .ok (.lstore_n 1, 1) := by decide +kernel
theorem dX7_together_60 : decode cX7_together 60 = .ok (.iinc 3 1, 3) := by decide +kernel
theorem dX7_together_63 : decode cX7_together 63 = .ok (.goto (-47), 3) := by decide +kernel
theorem dX7_together_66 : decode cX7_together 66 = .ok (.lload_n 1, 1) := by decide +kernel
theorem dX7_together_67 : decode cX7_together 67 = .ok (.lreturn, 1) := by decide +kernel
set_option maxRecDepth 20000 in
theorem ggX7_order_X4_cutBefore : GoodIn wsX7_order wsX4_cutBefore := goodIn_r _ [9, 10, 11, 12, 13, 8, 14, 15, 16, 17, 18, 19, 20, 21, 22, 23, 24, 25, 26, 27, 28, 29, 30, 31, 32, 33, 34, 35, 44, 45, 46, 47, 48, 49, 50, 51, 52, 53] (by decide +kernel) (by decide +kernel)
set_option maxRecDepth 20000 in
theorem gX7_order_X4_cutBefore : GoodIn wsX7_order (wsV RX7 190 RX4 yX4_cutBefore wsX4_cutBefore) := goodIn_app (goodIn_of _ (by decide +kernel)) ggX7_order_X4_cutBefore
theorem dX7_order_0 : decode cX7_order 0 = .ok (.iload_n 1, 1) := by decide +kernel
theorem dX7_order_1 : decode cX7_order 1 = .ok (.ifCond .ge 13, 3) := by decide +kernel
theorem dX7_order_4 : decode cX7_order 4 = .ok (.new 45, 3) := by decide +kernel
theorem dX7_order_7 : decode cX7_order 7 = .ok (.dup, 1) := by decide +kernel
theorem dX7_order_8 : decode cX7_order 8 = .ok (.ldc 188, 2) := by decide +kernel
theorem dX7_order_10 : decode cX7_order 10 = .ok (.invokespecial 49, 3) := by decide +kernel
theorem dX7_order_13 : decode cX7_order 13 = .ok (.athrow, 1) := by decide +kernel
theorem dX7_order_14 : decode cX7_order 14 = .ok (.iconst 0, 1) := by decide +kernel
theorem dX7_order_15 : decode cX7_order 15 = .ok (.istore_n 2, 1) := by decide +kernel
theorem dX7_order_16 : decode cX7_order 16 = .ok (.iload_n 2, 1) := by decide +kernel
theorem dX7_order_17 : decode cX7_order 17 = .ok (.aload_n 0, 1) := by decide +kernel
theorem dX7_order_18 : decode cX7_order 18 = .ok (.getfield 16, 3) := by decide +kernel
theorem dX7_order_21 : decode cX7_order 21 = .ok (.getfield 74, 3) := by decide +kernel
theorem dX7_order_24 : decode cX7_order 24 = .ok (.if_icmp .ge 23, 3) := by decide +kernel
theorem dX7_order_27 : decode cX7_order 27 = .ok (.aload_n 0, 1) := by decide +kernel
theorem dX7_order_28 : decode cX7_order 28 = .ok (.getfield 16, 3) := by decide +kernel
theorem dX7_order_31 : decode cX7_order 31 = .ok (.iload_n 2, 1) := by decide +kernel
theorem dX7_order_32 : decode cX7_order 32 = .ok (.invokevirtual 190, 3) := by decide +kernel
theorem dX7_order_35 : decode cX7_order 35 = .ok (.iload_n 1, 1) := by decide +kernel
theorem dX7_order_36 : decode cX7_order 36 = .ok (.if_icmp .ne 5, 3) := by decide +kernel
theorem dX7_order_39 : decode cX7_order 39 = .ok (.iload_n 2, 1) := by decide +kernel
theorem dX7_order_40 : decode cX7_order 40 = .ok (.ireturn, 1) := by decide +kernel
theorem dX7_order_41 : decode cX7_order 41 = .ok (.iinc 2 1, 3) := by decide +kernel
theorem dX7_order_44 : decode cX7_order 44 = .ok (.goto (-28), 3) := by decide +kernel
theorem dX7_order_47 : decode cX7_order 47 = .ok (.bipush (-9), 2) := by decide +kernel
theorem dX7_order_49 : decode cX7_order 49 = .ok (.ireturn, 1) := by decide +kernel
set_option maxRecDepth 20000 in
theorem ggX7_sighting_X4_sightedAngle : GoodIn wsX7_sighting wsX4_sightedAngle := goodIn_r _ [11, 12, 65, 66, 67, 68, 69, 70] (by decide +kernel) (by decide +kernel)
set_option maxRecDepth 20000 in
theorem gX7_sighting_X4_sightedAngle : GoodIn wsX7_sighting (wsV RX7 195 RX4 yX4_sightedAngle wsX4_sightedAngle) := goodIn_app (goodIn_of _ (by decide +kernel)) ggX7_sighting_X4_sightedAngle
set_option maxRecDepth 20000 in
theorem ggX7_sighting_X4_sightedRadius : GoodIn wsX7_sighting wsX4_sightedRadius := goodIn_r _ [16, 17, 65, 66, 67, 68, 69, 70] (by decide +kernel) (by decide +kernel)
set_option maxRecDepth 20000 in
theorem gX7_sighting_X4_sightedRadius : GoodIn wsX7_sighting (wsV RX7 198 RX4 yX4_sightedRadius wsX4_sightedRadius) := goodIn_app (goodIn_of _ (by decide +kernel)) ggX7_sighting_X4_sightedRadius
set_option maxRecDepth 20000 in
theorem ggX7_sighting_X4_layersThrough : GoodIn wsX7_sighting wsX4_layersThrough := goodIn_r _ [21, 22, 23, 24, 25, 26, 10, 27, 28, 29, 30, 31, 32, 33, 34, 35, 36, 37, 38, 39, 40, 41, 42, 43, 44, 45, 46, 47, 48, 49, 50, 51, 52, 53, 54, 55, 56, 65, 66, 67, 68, 69, 70, 71, 72, 73, 74] (by decide +kernel) (by decide +kernel)
set_option maxRecDepth 20000 in
theorem gX7_sighting_X4_layersThrough : GoodIn wsX7_sighting (wsV RX7 201 RX4 yX4_layersThrough wsX4_layersThrough) := goodIn_app (goodIn_of _ (by decide +kernel)) ggX7_sighting_X4_layersThrough
theorem dX7_sighting_0 : decode cX7_sighting 0 = .ok (.iload_n 1, 1) := by decide +kernel
theorem dX7_sighting_1 : decode cX7_sighting 1 = .ok (.ifCond .lt 14, 3) := by decide +kernel
theorem dX7_sighting_4 : decode cX7_sighting 4 = .ok (.iload_n 1, 1) := by decide +kernel
theorem dX7_sighting_5 : decode cX7_sighting 5 = .ok (.aload_n 0, 1) := by decide +kernel
theorem dX7_sighting_6 : decode cX7_sighting 6 = .ok (.getfield 16, 3) := by decide +kernel
theorem dX7_sighting_9 : decode cX7_sighting 9 = .ok (.getfield 89, 3) := by decide +kernel
theorem dX7_sighting_12 : decode cX7_sighting 12 = .ok (.if_icmp .lt 13, 3) := by decide +kernel
theorem dX7_sighting_15 : decode cX7_sighting 15 = .ok (.new 116, 3) := by decide +kernel
theorem dX7_sighting_18 : decode cX7_sighting 18 = .ok (.dup, 1) := by decide +kernel
theorem dX7_sighting_19 : decode cX7_sighting 19 = .ok (.ldc 193, 2) := by decide +kernel
theorem dX7_sighting_21 : decode cX7_sighting 21 = .ok (.invokespecial 120, 3) := by decide +kernel
theorem dX7_sighting_24 : decode cX7_sighting 24 = .ok (.athrow, 1) := by decide +kernel
theorem dX7_sighting_25 : decode cX7_sighting 25 = .ok (.iload_n 2, 1) := by decide +kernel
theorem dX7_sighting_26 : decode cX7_sighting 26 = .ok (.tableswitch 68 0 2 #[26, 35, 44], 26) := by decide +kernel
theorem dX7_sighting_52 : decode cX7_sighting 52 = .ok (.aload_n 0, 1) := by decide +kernel
theorem dX7_sighting_53 : decode cX7_sighting 53 = .ok (.getfield 16, 3) := by decide +kernel
theorem dX7_sighting_56 : decode cX7_sighting 56 = .ok (.iload_n 1, 1) := by decide +kernel
theorem dX7_sighting_57 : decode cX7_sighting 57 = .ok (.invokevirtual 195, 3) := by decide +kernel
theorem dX7_sighting_60 : decode cX7_sighting 60 = .ok (.ireturn, 1) := by decide +kernel
theorem dX7_sighting_61 : decode cX7_sighting 61 = .ok (.aload_n 0, 1) := by decide +kernel
theorem dX7_sighting_62 : decode cX7_sighting 62 = .ok (.getfield 16, 3) := by decide +kernel
theorem dX7_sighting_65 : decode cX7_sighting 65 = .ok (.iload_n 1, 1) := by decide +kernel
theorem dX7_sighting_66 : decode cX7_sighting 66 = .ok (.invokevirtual 198, 3) := by decide +kernel
theorem dX7_sighting_69 : decode cX7_sighting 69 = .ok (.ireturn, 1) := by decide +kernel
theorem dX7_sighting_70 : decode cX7_sighting 70 = .ok (.aload_n 0, 1) := by decide +kernel
theorem dX7_sighting_71 : decode cX7_sighting 71 = .ok (.getfield 16, 3) := by decide +kernel
theorem dX7_sighting_74 : decode cX7_sighting 74 = .ok (.aload_n 0, 1) := by decide +kernel
theorem dX7_sighting_75 : decode cX7_sighting 75 = .ok (.getfield 16, 3) := by decide +kernel
theorem dX7_sighting_78 : decode cX7_sighting 78 = .ok (.iload_n 1, 1) := by decide +kernel
theorem dX7_sighting_79 : decode cX7_sighting 79 = .ok (.invokevirtual 195, 3) := by decide +kernel
theorem dX7_sighting_82 : decode cX7_sighting 82 = .ok (.aload_n 0, 1) := by decide +kernel
theorem dX7_sighting_83 : decode cX7_sighting 83 = .ok (.getfield 16, 3) := by decide +kernel
theorem dX7_sighting_86 : decode cX7_sighting 86 = .ok (.iload_n 1, 1) := by decide +kernel
theorem dX7_sighting_87 : decode cX7_sighting 87 = .ok (.invokevirtual 198, 3) := by decide +kernel
theorem dX7_sighting_90 : decode cX7_sighting 90 = .ok (.invokevirtual 201, 3) := by decide +kernel
theorem dX7_sighting_93 : decode cX7_sighting 93 = .ok (.ireturn, 1) := by decide +kernel
theorem dX7_sighting_94 : decode cX7_sighting 94 = .ok (.new 45, 3) := by decide +kernel
theorem dX7_sighting_97 : decode cX7_sighting 97 = .ok (.dup, 1) := by decide +kernel
theorem dX7_sighting_98 : decode cX7_sighting 98 = .ok (.ldc 205, 2) := by decide +kernel
theorem dX7_sighting_100 : decode cX7_sighting 100 = .ok (.invokespecial 49, 3) := by decide +kernel
theorem dX7_sighting_103 : decode cX7_sighting 103 = .ok (.athrow, 1) := by decide +kernel
set_option maxRecDepth 20000 in
theorem ggX7_common_X4_find : GoodIn wsX7_common wsX4_find := goodIn_r _ [10, 11, 12, 82, 83, 84, 85, 86, 87] (by decide +kernel) (by decide +kernel)
set_option maxRecDepth 20000 in
theorem gX7_common_X4_find : GoodIn wsX7_common (wsV RX7 112 RX4 yX4_find wsX4_find) := goodIn_app (goodIn_of _ (by decide +kernel)) ggX7_common_X4_find
set_option maxRecDepth 20000 in
theorem ggX7_common_X0_countCommon : GoodIn wsX7_common wsX0_countCommon := goodIn_r _ [17, 18, 19, 20, 21, 22, 23, 24, 25, 26, 27, 28, 29, 30, 31, 32, 33, 34, 35, 36, 37, 38, 39, 40, 41, 42, 43, 44, 45, 46, 47, 48, 49, 50, 51, 52, 53, 54, 55, 56, 57, 58, 59, 60, 61, 62, 63, 64, 65, 66, 67, 68, 69, 70, 71, 72, 73, 88, 89, 90, 91, 92, 93, 94, 95] (by decide +kernel) (by decide +kernel)
set_option maxRecDepth 20000 in
theorem gX7_common_X0_countCommon : GoodIn wsX7_common (wsV RX7 207 RX0 yX0_countCommon wsX0_countCommon) := goodIn_app (goodIn_of _ (by decide +kernel)) ggX7_common_X0_countCommon
theorem dX7_common_0 : decode cX7_common 0 = .ok (.aload_n 0, 1) := by decide +kernel
theorem dX7_common_1 : decode cX7_common 1 = .ok (.getfield 16, 3) := by decide +kernel
theorem dX7_common_4 : decode cX7_common 4 = .ok (.iload_n 1, 1) := by decide +kernel
theorem dX7_common_5 : decode cX7_common 5 = .ok (.invokevirtual 112, 3) := by decide +kernel
theorem dX7_common_8 : decode cX7_common 8 = .ok (.astore_n 3, 1) := by decide +kernel
theorem dX7_common_9 : decode cX7_common 9 = .ok (.aload_n 0, 1) := by decide +kernel
theorem dX7_common_10 : decode cX7_common 10 = .ok (.getfield 16, 3) := by decide +kernel
theorem dX7_common_13 : decode cX7_common 13 = .ok (.iload_n 2, 1) := by decide +kernel
theorem dX7_common_14 : decode cX7_common 14 = .ok (.invokevirtual 112, 3) := by decide +kernel
theorem dX7_common_17 : decode cX7_common 17 = .ok (.astore 4, 2) := by decide +kernel
theorem dX7_common_19 : decode cX7_common 19 = .ok (.aload_n 3, 1) := by decide +kernel
theorem dX7_common_20 : decode cX7_common 20 = .ok (.ifnull 8, 3) := by decide +kernel
theorem dX7_common_23 : decode cX7_common 23 = .ok (.aload 4, 2) := by decide +kernel
theorem dX7_common_25 : decode cX7_common 25 = .ok (.ifnonnull 13, 3) := by decide +kernel
theorem dX7_common_28 : decode cX7_common 28 = .ok (.new 116, 3) := by decide +kernel
theorem dX7_common_31 : decode cX7_common 31 = .ok (.dup, 1) := by decide +kernel
theorem dX7_common_32 : decode cX7_common 32 = .ok (.ldc 118, 2) := by decide +kernel
theorem dX7_common_34 : decode cX7_common 34 = .ok (.invokespecial 120, 3) := by decide +kernel
theorem dX7_common_37 : decode cX7_common 37 = .ok (.athrow, 1) := by decide +kernel
theorem dX7_common_38 : decode cX7_common 38 = .ok (.aload_n 0, 1) := by decide +kernel
theorem dX7_common_39 : decode cX7_common 39 = .ok (.getfield 41, 3) := by decide +kernel
theorem dX7_common_42 : decode cX7_common 42 = .ok (.aload_n 0, 1) := by decide +kernel
theorem dX7_common_43 : decode cX7_common 43 = .ok (.getfield 16, 3) := by decide +kernel
theorem dX7_common_46 : decode cX7_common 46 = .ok (.getfield 86, 3) := by decide +kernel
theorem dX7_common_49 : decode cX7_common 49 = .ok (.aload_n 3, 1) := by decide +kernel
theorem dX7_common_50 : decode cX7_common 50 = .ok (.aload 4, 2) := by decide +kernel
theorem dX7_common_52 : decode cX7_common 52 = .ok (.invokevirtual 207, 3) := by decide +kernel
theorem dX7_common_55 : decode cX7_common 55 = .ok (.ireturn, 1) := by decide +kernel
set_option maxRecDepth 20000 in
theorem ggX7_meet_X4_find : GoodIn wsX7_meet wsX4_find := goodIn_r _ [8, 9, 10, 47, 48, 49, 50, 51, 52] (by decide +kernel) (by decide +kernel)
set_option maxRecDepth 20000 in
theorem gX7_meet_X4_find : GoodIn wsX7_meet (wsV RX7 112 RX4 yX4_find wsX4_find) := goodIn_app (goodIn_of _ (by decide +kernel)) ggX7_meet_X4_find
set_option maxRecDepth 20000 in
theorem ggX7_meet_X3_firstMeeting : GoodIn wsX7_meet wsX3_firstMeeting := goodIn_r _ [15, 16, 17, 18, 19, 20, 21, 22, 23, 24, 25, 26, 27, 28, 29, 14, 30, 31, 32, 33, 34, 35, 36, 37, 38, 53, 54, 55, 56] (by decide +kernel) (by decide +kernel)
set_option maxRecDepth 20000 in
theorem gX7_meet_X3_firstMeeting : GoodIn wsX7_meet (wsV RX7 211 RX3 yX3_firstMeeting wsX3_firstMeeting) := goodIn_app (goodIn_of _ (by decide +kernel)) ggX7_meet_X3_firstMeeting
theorem dX7_meet_0 : decode cX7_meet 0 = .ok (.aload_n 0, 1) := by decide +kernel
theorem dX7_meet_1 : decode cX7_meet 1 = .ok (.getfield 16, 3) := by decide +kernel
theorem dX7_meet_4 : decode cX7_meet 4 = .ok (.iload_n 1, 1) := by decide +kernel
theorem dX7_meet_5 : decode cX7_meet 5 = .ok (.invokevirtual 112, 3) := by decide +kernel
theorem dX7_meet_8 : decode cX7_meet 8 = .ok (.astore_n 3, 1) := by decide +kernel
theorem dX7_meet_9 : decode cX7_meet 9 = .ok (.aload_n 0, 1) := by decide +kernel
theorem dX7_meet_10 : decode cX7_meet 10 = .ok (.getfield 16, 3) := by decide +kernel
theorem dX7_meet_13 : decode cX7_meet 13 = .ok (.iload_n 2, 1) := by decide +kernel
theorem dX7_meet_14 : decode cX7_meet 14 = .ok (.invokevirtual 112, 3) := by decide +kernel
theorem dX7_meet_17 : decode cX7_meet 17 = .ok (.astore 4, 2) := by decide +kernel
theorem dX7_meet_19 : decode cX7_meet 19 = .ok (.aload_n 3, 1) := by decide +kernel
theorem dX7_meet_20 : decode cX7_meet 20 = .ok (.ifnull 8, 3) := by decide +kernel
theorem dX7_meet_23 : decode cX7_meet 23 = .ok (.aload 4, 2) := by decide +kernel
theorem dX7_meet_25 : decode cX7_meet 25 = .ok (.ifnonnull 13, 3) := by decide +kernel
theorem dX7_meet_28 : decode cX7_meet 28 = .ok (.new 116, 3) := by decide +kernel
theorem dX7_meet_31 : decode cX7_meet 31 = .ok (.dup, 1) := by decide +kernel
theorem dX7_meet_32 : decode cX7_meet 32 = .ok (.ldc 118, 2) := by decide +kernel
theorem dX7_meet_34 : decode cX7_meet 34 = .ok (.invokespecial 120, 3) := by decide +kernel
theorem dX7_meet_37 : decode cX7_meet 37 = .ok (.athrow, 1) := by decide +kernel
theorem dX7_meet_38 : decode cX7_meet 38 = .ok (.aload_n 3, 1) := by decide +kernel
theorem dX7_meet_39 : decode cX7_meet 39 = .ok (.aload 4, 2) := by decide +kernel
theorem dX7_meet_41 : decode cX7_meet 41 = .ok (.invokevirtual 211, 3) := by decide +kernel
theorem dX7_meet_44 : decode cX7_meet 44 = .ok (.ireturn, 1) := by decide +kernel
set_option maxRecDepth 20000 in
theorem ggX7_turned_X4_find : GoodIn wsX7_turned wsX4_find := goodIn_r _ [10, 11, 12, 90, 91, 92, 93, 94, 95] (by decide +kernel) (by decide +kernel)
set_option maxRecDepth 20000 in
theorem gX7_turned_X4_find : GoodIn wsX7_turned (wsV RX7 112 RX4 yX4_find wsX4_find) := goodIn_app (goodIn_of _ (by decide +kernel)) ggX7_turned_X4_find
set_option maxRecDepth 20000 in
theorem ggX7_turned_X0_turnBetween : GoodIn wsX7_turned wsX0_turnBetween := goodIn_r _ [17, 18, 19, 20, 21, 22, 23, 24, 25, 26, 27, 28, 29, 30, 31, 32, 33, 34, 35, 36, 37, 38, 39, 40, 41, 42, 43, 44, 45, 46, 47, 48, 49, 50, 51, 52, 53, 54, 55, 56, 57, 58, 59, 60, 61, 62, 63, 64, 65, 66, 67, 68, 69, 70, 71, 72, 73, 74, 16, 75, 76, 77, 78, 79, 80, 81, 96, 97, 98, 99, 100, 101, 102, 103] (by decide +kernel) (by decide +kernel)
set_option maxRecDepth 20000 in
theorem gX7_turned_X0_turnBetween : GoodIn wsX7_turned (wsV RX7 215 RX0 yX0_turnBetween wsX0_turnBetween) := goodIn_app (goodIn_of _ (by decide +kernel)) ggX7_turned_X0_turnBetween
theorem dX7_turned_0 : decode cX7_turned 0 = .ok (.aload_n 0, 1) := by decide +kernel
theorem dX7_turned_1 : decode cX7_turned 1 = .ok (.getfield 16, 3) := by decide +kernel
theorem dX7_turned_4 : decode cX7_turned 4 = .ok (.iload_n 1, 1) := by decide +kernel
theorem dX7_turned_5 : decode cX7_turned 5 = .ok (.invokevirtual 112, 3) := by decide +kernel
theorem dX7_turned_8 : decode cX7_turned 8 = .ok (.astore_n 3, 1) := by decide +kernel
theorem dX7_turned_9 : decode cX7_turned 9 = .ok (.aload_n 0, 1) := by decide +kernel
theorem dX7_turned_10 : decode cX7_turned 10 = .ok (.getfield 16, 3) := by decide +kernel
theorem dX7_turned_13 : decode cX7_turned 13 = .ok (.iload_n 2, 1) := by decide +kernel
theorem dX7_turned_14 : decode cX7_turned 14 = .ok (.invokevirtual 112, 3) := by decide +kernel
theorem dX7_turned_17 : decode cX7_turned 17 = .ok (.astore 4, 2) := by decide +kernel
theorem dX7_turned_19 : decode cX7_turned 19 = .ok (.aload_n 3, 1) := by decide +kernel
theorem dX7_turned_20 : decode cX7_turned 20 = .ok (.ifnull 8, 3) := by decide +kernel
theorem dX7_turned_23 : decode cX7_turned 23 = .ok (.aload 4, 2) := by decide +kernel
theorem dX7_turned_25 : decode cX7_turned 25 = .ok (.ifnonnull 13, 3) := by decide +kernel
theorem dX7_turned_28 : decode cX7_turned 28 = .ok (.new 116, 3) := by decide +kernel
theorem dX7_turned_31 : decode cX7_turned 31 = .ok (.dup, 1) := by decide +kernel
theorem dX7_turned_32 : decode cX7_turned 32 = .ok (.ldc 118, 2) := by decide +kernel
theorem dX7_turned_34 : decode cX7_turned 34 = .ok (.invokespecial 120, 3) := by decide +kernel
theorem dX7_turned_37 : decode cX7_turned 37 = .ok (.athrow, 1) := by decide +kernel
theorem dX7_turned_38 : decode cX7_turned 38 = .ok (.aload_n 0, 1) := by decide +kernel
theorem dX7_turned_39 : decode cX7_turned 39 = .ok (.getfield 41, 3) := by decide +kernel
theorem dX7_turned_42 : decode cX7_turned 42 = .ok (.aload_n 0, 1) := by decide +kernel
theorem dX7_turned_43 : decode cX7_turned 43 = .ok (.getfield 16, 3) := by decide +kernel
theorem dX7_turned_46 : decode cX7_turned 46 = .ok (.getfield 86, 3) := by decide +kernel
theorem dX7_turned_49 : decode cX7_turned 49 = .ok (.aload_n 3, 1) := by decide +kernel
theorem dX7_turned_50 : decode cX7_turned 50 = .ok (.aload 4, 2) := by decide +kernel
theorem dX7_turned_52 : decode cX7_turned 52 = .ok (.invokevirtual 215, 3) := by decide +kernel
theorem dX7_turned_55 : decode cX7_turned 55 = .ok (.ireturn, 1) := by decide +kernel
set_option maxRecDepth 20000 in
theorem ggX7_setRing_X7_isRing : GoodIn wsX7_setRing wsX7_isRing := goodIn_r _ [9] (by decide +kernel) (by decide +kernel)
set_option maxRecDepth 20000 in
theorem gX7_setRing_X7_isRing : GoodIn wsX7_setRing (va_wsS RX7 218 yX7_isRing wsX7_isRing) := goodIn_app (goodIn_of _ (by decide +kernel)) ggX7_setRing_X7_isRing
set_option maxRecDepth 20000 in
theorem ggX7_setRing_X2_remember : GoodIn wsX7_setRing wsX2_remember := goodIn_r _ [14, 15, 16, 17, 18, 19, 13, 20, 21, 22, 23, 24, 25, 26, 27, 28, 29, 30, 31, 32, 33, 34, 35, 36, 37, 38, 39, 40, 41, 42, 43, 44, 45, 46, 47, 48, 49, 50, 51, 52, 53, 54, 55, 56, 57, 58, 59, 60, 61, 62, 63, 64, 65, 66, 67, 68, 69, 70, 71, 72, 73, 74, 75, 76, 77, 100, 101, 102, 94, 95, 96, 97, 98, 99, 103, 104, 105, 106] (by decide +kernel) (by decide +kernel)
set_option maxRecDepth 20000 in
theorem gX7_setRing_X2_remember : GoodIn wsX7_setRing (wsV RX7 223 RX2 yX2_remember wsX2_remember) := goodIn_app (goodIn_of _ (by decide +kernel)) ggX7_setRing_X2_remember
set_option maxRecDepth 20000 in
theorem ggX7_setRing_X4_takeRing : GoodIn wsX7_setRing wsX4_takeRing := goodIn_r _ [81, 27, 28, 32, 64, 38, 39, 40, 25, 41, 42, 82, 83, 84, 85, 94, 95, 96, 97, 98, 99, 103, 104, 105, 106] (by decide +kernel) (by decide +kernel)
set_option maxRecDepth 20000 in
theorem gX7_setRing_X4_takeRing : GoodIn wsX7_setRing (wsV RX7 226 RX4 yX4_takeRing wsX4_takeRing) := goodIn_app (goodIn_of _ (by decide +kernel)) ggX7_setRing_X4_takeRing
theorem dX7_setRing_0 : decode cX7_setRing 0 = .ok (.iload_n 1, 1) := by decide +kernel
theorem dX7_setRing_1 : decode cX7_setRing 1 = .ok (.invokestatic 218, 3) := by decide +kernel
theorem dX7_setRing_4 : decode cX7_setRing 4 = .ok (.ifCond .ne 13, 3) := by decide +kernel
theorem dX7_setRing_7 : decode cX7_setRing 7 = .ok (.new 45, 3) := by decide +kernel
theorem dX7_setRing_10 : decode cX7_setRing 10 = .ok (.dup, 1) := by decide +kernel
theorem dX7_setRing_11 : decode cX7_setRing 11 = .ok (.ldc 221, 2) := by decide +kernel
theorem dX7_setRing_13 : decode cX7_setRing 13 = .ok (.invokespecial 49, 3) := by decide +kernel
theorem dX7_setRing_16 : decode cX7_setRing 16 = .ok (.athrow, 1) := by decide +kernel
theorem dX7_setRing_17 : decode cX7_setRing 17 = .ok (.aload_n 0, 1) := by decide +kernel
theorem dX7_setRing_18 : decode cX7_setRing 18 = .ok (.getfield 26, 3) := by decide +kernel
theorem dX7_setRing_21 : decode cX7_setRing 21 = .ok (.aload_n 0, 1) := by decide +kernel
theorem dX7_setRing_22 : decode cX7_setRing 22 = .ok (.getfield 16, 3) := by decide +kernel
theorem dX7_setRing_25 : decode cX7_setRing 25 = .ok (.invokevirtual 223, 3) := by decide +kernel
theorem dX7_setRing_28 : decode cX7_setRing 28 = .ok (.aload_n 0, 1) := by decide +kernel
theorem dX7_setRing_29 : decode cX7_setRing 29 = .ok (.getfield 16, 3) := by decide +kernel
theorem dX7_setRing_32 : decode cX7_setRing 32 = .ok (.getfield 86, 3) := by decide +kernel
theorem dX7_setRing_35 : decode cX7_setRing 35 = .ok (.istore_n 2, 1) := by decide +kernel
theorem dX7_setRing_36 : decode cX7_setRing 36 = .ok (.aload_n 0, 1) := by decide +kernel
theorem dX7_setRing_37 : decode cX7_setRing 37 = .ok (.getfield 16, 3) := by decide +kernel
theorem dX7_setRing_40 : decode cX7_setRing 40 = .ok (.iload_n 1, 1) := by decide +kernel
theorem dX7_setRing_41 : decode cX7_setRing 41 = .ok (.invokevirtual 226, 3) := by decide +kernel
theorem dX7_setRing_44 : decode cX7_setRing 44 = .ok (.iload_n 2, 1) := by decide +kernel
theorem dX7_setRing_45 : decode cX7_setRing 45 = .ok (.ireturn, 1) := by decide +kernel
set_option maxRecDepth 20000 in
theorem ggX7_addLayer_X7_isWheel : GoodIn wsX7_addLayer wsX7_isWheel := goodIn_r _ [11] (by decide +kernel) (by decide +kernel)
set_option maxRecDepth 20000 in
theorem gX7_addLayer_X7_isWheel : GoodIn wsX7_addLayer (va_wsS RX7 230 yX7_isWheel wsX7_isWheel) := goodIn_app (goodIn_of _ (by decide +kernel)) ggX7_addLayer_X7_isWheel
set_option maxRecDepth 20000 in
theorem ggX7_addLayer_X7_isSide : GoodIn wsX7_addLayer wsX7_isSide := goodIn_r _ [14] (by decide +kernel) (by decide +kernel)
set_option maxRecDepth 20000 in
theorem gX7_addLayer_X7_isSide : GoodIn wsX7_addLayer (va_wsS RX7 233 yX7_isSide wsX7_isSide) := goodIn_app (goodIn_of _ (by decide +kernel)) ggX7_addLayer_X7_isSide
set_option maxRecDepth 20000 in
theorem ggX7_addLayer_X7_isHole : GoodIn wsX7_addLayer wsX7_isHole := goodIn_r _ [17] (by decide +kernel) (by decide +kernel)
set_option maxRecDepth 20000 in
theorem gX7_addLayer_X7_isHole : GoodIn wsX7_addLayer (va_wsS RX7 236 yX7_isHole wsX7_isHole) := goodIn_app (goodIn_of _ (by decide +kernel)) ggX7_addLayer_X7_isHole
set_option maxRecDepth 20000 in
theorem ggX7_addLayer_X4_hasTooth : GoodIn wsX7_addLayer wsX4_hasTooth := goodIn_r _ [22, 23, 100, 101, 102, 103, 104, 105] (by decide +kernel) (by decide +kernel)
set_option maxRecDepth 20000 in
theorem gX7_addLayer_X4_hasTooth : GoodIn wsX7_addLayer (wsV RX7 163 RX4 yX4_hasTooth wsX4_hasTooth) := goodIn_app (goodIn_of _ (by decide +kernel)) ggX7_addLayer_X4_hasTooth
set_option maxRecDepth 20000 in
theorem ggX7_addLayer_X4_isFull : GoodIn wsX7_addLayer wsX4_isFull := goodIn_r _ [27, 28, 100, 101, 102, 103, 104, 105] (by decide +kernel) (by decide +kernel)
set_option maxRecDepth 20000 in
theorem gX7_addLayer_X4_isFull : GoodIn wsX7_addLayer (wsV RX7 241 RX4 yX4_isFull wsX4_isFull) := goodIn_app (goodIn_of _ (by decide +kernel)) ggX7_addLayer_X4_isFull
set_option maxRecDepth 20000 in
theorem ggX7_addLayer_X2_remember : GoodIn wsX7_addLayer wsX2_remember := goodIn_r _ [33, 34, 35, 36, 37, 38, 32, 39, 40, 41, 42, 43, 21, 44, 23, 28, 45, 46, 47, 48, 49, 50, 51, 52, 53, 54, 55, 56, 57, 58, 59, 60, 61, 62, 63, 25, 26, 27, 64, 65, 66, 67, 68, 69, 70, 71, 72, 73, 74, 75, 76, 77, 78, 79, 80, 81, 82, 83, 84, 85, 86, 87, 88, 89, 90, 106, 107, 108, 100, 101, 102, 103, 104, 105, 109, 110, 111, 112] (by decide +kernel) (by decide +kernel)
set_option maxRecDepth 20000 in
theorem gX7_addLayer_X2_remember : GoodIn wsX7_addLayer (wsV RX7 223 RX2 yX2_remember wsX2_remember) := goodIn_app (goodIn_of _ (by decide +kernel)) ggX7_addLayer_X2_remember
set_option maxRecDepth 20000 in
theorem ggX7_addLayer_X4_putLayer : GoodIn wsX7_addLayer wsX4_putLayer := goodIn_r _ [62, 28, 63, 25, 26, 21, 27, 54, 55, 56, 57, 58, 64, 65, 66, 67, 68, 69, 70, 71, 72, 100, 101, 102, 103, 104, 105, 109, 110, 111, 112] (by decide +kernel) (by decide +kernel)
set_option maxRecDepth 20000 in
theorem gX7_addLayer_X4_putLayer : GoodIn wsX7_addLayer (wsV RX7 247 RX4 yX4_putLayer wsX4_putLayer) := goodIn_app (goodIn_of _ (by decide +kernel)) ggX7_addLayer_X4_putLayer
theorem dX7_addLayer_0 : decode cX7_addLayer 0 = .ok (.iload_n 1, 1) := by decide +kernel
theorem dX7_addLayer_1 : decode cX7_addLayer 1 = .ok (.invokestatic 230, 3) := by decide +kernel
theorem dX7_addLayer_4 : decode cX7_addLayer 4 = .ok (.ifCond .eq 29, 3) := by decide +kernel
theorem dX7_addLayer_7 : decode cX7_addLayer 7 = .ok (.iload_n 2, 1) := by decide +kernel
theorem dX7_addLayer_8 : decode cX7_addLayer 8 = .ok (.invokestatic 233, 3) := by decide +kernel
theorem dX7_addLayer_11 : decode cX7_addLayer 11 = .ok (.ifCond .eq 22, 3) := by decide +kernel
theorem dX7_addLayer_14 : decode cX7_addLayer 14 = .ok (.iload_n 3, 1) := by decide +kernel
theorem dX7_addLayer_15 : decode cX7_addLayer 15 = .ok (.invokestatic 236, 3) := by decide +kernel
theorem dX7_addLayer_18 : decode cX7_addLayer 18 = .ok (.ifCond .eq 15, 3) := by decide +kernel
theorem dX7_addLayer_21 : decode cX7_addLayer 21 = .ok (.aload_n 0, 1) := by decide +kernel
theorem dX7_addLayer_22 : decode cX7_addLayer 22 = .ok (.getfield 16, 3) := by decide +kernel
theorem dX7_addLayer_25 : decode cX7_addLayer 25 = .ok (.iload 4, 2) := by decide +kernel
theorem dX7_addLayer_27 : decode cX7_addLayer 27 = .ok (.invokevirtual 163, 3) := by decide +kernel
theorem dX7_addLayer_30 : decode cX7_addLayer 30 = .ok (.ifCond .ne 13, 3) := by decide +kernel
theorem dX7_addLayer_33 : decode cX7_addLayer 33 = .ok (.new 45, 3) := by decide +kernel
theorem dX7_addLayer_36 : decode cX7_addLayer 36 = .ok (.dup, 1) := by decide +kernel
theorem dX7_addLayer_37 : decode cX7_addLayer 37 = .ok (.ldc 239, 2) := by decide +kernel
theorem dX7_addLayer_39 : decode cX7_addLayer 39 = .ok (.invokespecial 49, 3) := by decide +kernel
theorem dX7_addLayer_42 : decode cX7_addLayer 42 = .ok (.athrow, 1) := by decide +kernel
theorem dX7_addLayer_43 : decode cX7_addLayer 43 = .ok (.aload_n 0, 1) := by decide +kernel
theorem dX7_addLayer_44 : decode cX7_addLayer 44 = .ok (.getfield 16, 3) := by decide +kernel
theorem dX7_addLayer_47 : decode cX7_addLayer 47 = .ok (.invokevirtual 241, 3) := by decide +kernel
theorem dX7_addLayer_50 : decode cX7_addLayer 50 = .ok (.ifCond .eq 13, 3) := by decide +kernel
theorem dX7_addLayer_53 : decode cX7_addLayer 53 = .ok (.new 56, 3) := by decide +kernel
theorem dX7_addLayer_56 : decode cX7_addLayer 56 = .ok (.dup, 1) := by decide +kernel
theorem dX7_addLayer_57 : decode cX7_addLayer 57 = .ok (.ldc 245, 2) := by decide +kernel
theorem dX7_addLayer_59 : decode cX7_addLayer 59 = .ok (.invokespecial 60, 3) := by decide +kernel
theorem dX7_addLayer_62 : decode cX7_addLayer 62 = .ok (.athrow, 1) := by decide +kernel
theorem dX7_addLayer_63 : decode cX7_addLayer 63 = .ok (.aload_n 0, 1) := by decide +kernel
theorem dX7_addLayer_64 : decode cX7_addLayer 64 = .ok (.getfield 26, 3) := by decide +kernel
theorem dX7_addLayer_67 : decode cX7_addLayer 67 = .ok (.aload_n 0, 1) := by decide +kernel
theorem dX7_addLayer_68 : decode cX7_addLayer 68 = .ok (.getfield 16, 3) := by decide +kernel
theorem dX7_addLayer_71 : decode cX7_addLayer 71 = .ok (.invokevirtual 223, 3) := by decide +kernel
theorem dX7_addLayer_74 : decode cX7_addLayer 74 = .ok (.aload_n 0, 1) := by decide +kernel
theorem dX7_addLayer_75 : decode cX7_addLayer 75 = .ok (.getfield 16, 3) := by decide +kernel
theorem dX7_addLayer_78 : decode cX7_addLayer 78 = .ok (.iload_n 1, 1) := by decide +kernel
theorem dX7_addLayer_79 : decode cX7_addLayer 79 = .ok (.iload_n 2, 1) := by decide +kernel
theorem dX7_addLayer_80 : decode cX7_addLayer 80 = .ok (.iload_n 3, 1) := by decide +kernel
theorem dX7_addLayer_81 : decode cX7_addLayer 81 = .ok (.iload 4, 2) := by decide +kernel
theorem dX7_addLayer_83 : decode cX7_addLayer 83 = .ok (.invokevirtual 247, 3) := by decide +kernel
theorem dX7_addLayer_86 : decode cX7_addLayer 86 = .ok (.aload_n 0, 1) := by decide +kernel
theorem dX7_addLayer_87 : decode cX7_addLayer 87 = .ok (.getfield 16, 3) := by decide +kernel
theorem dX7_addLayer_90 : decode cX7_addLayer 90 = .ok (.getfield 74, 3) := by decide +kernel
theorem dX7_addLayer_93 : decode cX7_addLayer 93 = .ok (.iconst 1, 1) := by decide +kernel
theorem dX7_addLayer_94 : decode cX7_addLayer 94 = .ok (.isub, 1) := by decide +kernel
theorem dX7_addLayer_95 : decode cX7_addLayer 95 = .ok (.ireturn, 1) := by decide +kernel
set_option maxRecDepth 20000 in
theorem ggX7_change_X4_find : GoodIn wsX7_change wsX4_find := goodIn_r _ [11, 12, 13, 103, 104, 105, 106, 107, 108] (by decide +kernel) (by decide +kernel)
set_option maxRecDepth 20000 in
theorem gX7_change_X4_find : GoodIn wsX7_change (wsV RX7 112 RX4 yX4_find wsX4_find) := goodIn_app (goodIn_of _ (by decide +kernel)) ggX7_change_X4_find
set_option maxRecDepth 20000 in
theorem ggX7_change_X4_allows : GoodIn wsX7_change wsX4_allows := goodIn_r _ [17, 18, 19, 20, 21, 22, 23, 24, 25, 26, 27, 10, 28, 29, 103, 104, 105, 106, 107, 108] (by decide +kernel) (by decide +kernel)
set_option maxRecDepth 20000 in
theorem gX7_change_X4_allows : GoodIn wsX7_change (wsV RX7 251 RX4 yX4_allows wsX4_allows) := goodIn_app (goodIn_of _ (by decide +kernel)) ggX7_change_X4_allows
set_option maxRecDepth 20000 in
theorem ggX7_change_X2_remember : GoodIn wsX7_change wsX2_remember := goodIn_r _ [34, 35, 36, 37, 38, 39, 33, 40, 41, 42, 43, 44, 10, 45, 29, 12, 46, 47, 48, 49, 50, 51, 52, 53, 54, 55, 8, 9, 11, 13, 56, 57, 58, 59, 60, 61, 62, 63, 64, 65, 66, 67, 68, 69, 70, 71, 72, 73, 74, 75, 76, 77, 78, 79, 80, 81, 82, 83, 84, 85, 86, 87, 88, 89, 90, 109, 110, 111, 103, 104, 105, 106, 107, 108, 112, 113, 114, 115] (by decide +kernel) (by decide +kernel)
set_option maxRecDepth 20000 in
theorem gX7_change_X2_remember : GoodIn wsX7_change (wsV RX7 223 RX2 yX2_remember wsX2_remember) := goodIn_app (goodIn_of _ (by decide +kernel)) ggX7_change_X2_remember
set_option maxRecDepth 20000 in
theorem ggX7_change_X3_exchange : GoodIn wsX7_change wsX3_exchange := goodIn_r _ [94, 72, 69, 70, 71, 112, 113, 114, 115] (by decide +kernel) (by decide +kernel)
set_option maxRecDepth 20000 in
theorem gX7_change_X3_exchange : GoodIn wsX7_change (wsV RX7 257 RX3 yX3_exchange wsX3_exchange) := goodIn_app (goodIn_of _ (by decide +kernel)) ggX7_change_X3_exchange
theorem dX7_change_0 : decode cX7_change 0 = .ok (.aload_n 0, 1) := by decide +kernel
theorem dX7_change_1 : decode cX7_change 1 = .ok (.getfield 16, 3) := by decide +kernel
theorem dX7_change_4 : decode cX7_change 4 = .ok (.iload_n 1, 1) := by decide +kernel
theorem dX7_change_5 : decode cX7_change 5 = .ok (.invokevirtual 112, 3) := by decide +kernel
theorem dX7_change_8 : decode cX7_change 8 = .ok (.astore 4, 2) := by decide +kernel
theorem dX7_change_10 : decode cX7_change 10 = .ok (.aload 4, 2) := by decide +kernel
theorem dX7_change_12 : decode cX7_change 12 = .ok (.ifnonnull 13, 3) := by decide +kernel
theorem dX7_change_15 : decode cX7_change 15 = .ok (.new 116, 3) := by decide +kernel
theorem dX7_change_18 : decode cX7_change 18 = .ok (.dup, 1) := by decide +kernel
theorem dX7_change_19 : decode cX7_change 19 = .ok (.ldc 118, 2) := by decide +kernel
theorem dX7_change_21 : decode cX7_change 21 = .ok (.invokespecial 120, 3) := by decide +kernel
theorem dX7_change_24 : decode cX7_change 24 = .ok (.athrow, 1) := by decide +kernel
theorem dX7_change_25 : decode cX7_change 25 = .ok (.aload_n 0, 1) := by decide +kernel
theorem dX7_change_26 : decode cX7_change 26 = .ok (.getfield 16, 3) := by decide +kernel
theorem dX7_change_29 : decode cX7_change 29 = .ok (.iload_n 2, 1) := by decide +kernel
theorem dX7_change_30 : decode cX7_change 30 = .ok (.iload_n 3, 1) := by decide +kernel
theorem dX7_change_31 : decode cX7_change 31 = .ok (.invokevirtual 251, 3) := by decide +kernel
theorem dX7_change_34 : decode cX7_change 34 = .ok (.ifCond .ne 13, 3) := by decide +kernel
theorem dX7_change_37 : decode cX7_change 37 = .ok (.new 45, 3) := by decide +kernel
theorem dX7_change_40 : decode cX7_change 40 = .ok (.dup, 1) := by decide +kernel
theorem dX7_change_41 : decode cX7_change 41 = .ok (.ldc 255, 2) := by decide +kernel
theorem dX7_change_43 : decode cX7_change 43 = .ok (.invokespecial 49, 3) := by decide +kernel
theorem dX7_change_46 : decode cX7_change 46 = .ok (.athrow, 1) := by decide +kernel
theorem dX7_change_47 : decode cX7_change 47 = .ok (.aload_n 0, 1) := by decide +kernel
theorem dX7_change_48 : decode cX7_change 48 = .ok (.getfield 26, 3) := by decide +kernel
theorem dX7_change_51 : decode cX7_change 51 = .ok (.aload_n 0, 1) := by decide +kernel
theorem dX7_change_52 : decode cX7_change 52 = .ok (.getfield 16, 3) := by decide +kernel
theorem dX7_change_55 : decode cX7_change 55 = .ok (.invokevirtual 223, 3) := by decide +kernel
theorem dX7_change_58 : decode cX7_change 58 = .ok (.aload 4, 2) := by decide +kernel
theorem dX7_change_60 : decode cX7_change 60 = .ok (.iload_n 2, 1) := by decide +kernel
theorem dX7_change_61 : decode cX7_change 61 = .ok (.iload_n 3, 1) := by decide +kernel
theorem dX7_change_62 : decode cX7_change 62 = .ok (.invokevirtual 257, 3) := by decide +kernel
theorem dX7_change_65 : decode cX7_change 65 = .ok (.ireturn, 1) := by decide +kernel
set_option maxRecDepth 20000 in
theorem ggX7_remove_X4_find : GoodIn wsX7_remove wsX4_find := goodIn_r _ [10, 11, 12, 92, 93, 94, 95, 96, 97] (by decide +kernel) (by decide +kernel)
set_option maxRecDepth 20000 in
theorem gX7_remove_X4_find : GoodIn wsX7_remove (wsV RX7 112 RX4 yX4_find wsX4_find) := goodIn_app (goodIn_of _ (by decide +kernel)) ggX7_remove_X4_find
set_option maxRecDepth 20000 in
theorem ggX7_remove_X2_remember : GoodIn wsX7_remove wsX2_remember := goodIn_r _ [17, 18, 19, 20, 21, 22, 16, 23, 24, 25, 26, 27, 9, 28, 29, 11, 30, 31, 32, 33, 34, 35, 36, 37, 38, 39, 7, 8, 10, 12, 40, 41, 42, 43, 44, 45, 46, 47, 48, 49, 50, 51, 52, 53, 54, 55, 56, 57, 58, 59, 60, 61, 62, 63, 64, 65, 66, 67, 68, 69, 70, 71, 72, 73, 74, 98, 99, 100, 92, 93, 94, 95, 96, 97, 101, 102, 103, 104] (by decide +kernel) (by decide +kernel)
set_option maxRecDepth 20000 in
theorem gX7_remove_X2_remember : GoodIn wsX7_remove (wsV RX7 223 RX2 yX2_remember wsX2_remember) := goodIn_app (goodIn_of _ (by decide +kernel)) ggX7_remove_X2_remember
set_option maxRecDepth 20000 in
theorem ggX7_remove_X4_dropLayer : GoodIn wsX7_remove wsX4_dropLayer := goodIn_r _ [78, 11, 39, 7, 8, 9, 10, 12, 79, 80, 81, 51, 82, 53, 54, 55, 56, 83, 49, 50, 52, 92, 93, 94, 95, 96, 97, 101, 102, 103, 104] (by decide +kernel) (by decide +kernel)
set_option maxRecDepth 20000 in
theorem gX7_remove_X4_dropLayer : GoodIn wsX7_remove (wsV RX7 260 RX4 yX4_dropLayer wsX4_dropLayer) := goodIn_app (goodIn_of _ (by decide +kernel)) ggX7_remove_X4_dropLayer
theorem dX7_remove_0 : decode cX7_remove 0 = .ok (.aload_n 0, 1) := by decide +kernel
theorem dX7_remove_1 : decode cX7_remove 1 = .ok (.getfield 16, 3) := by decide +kernel
theorem dX7_remove_4 : decode cX7_remove 4 = .ok (.iload_n 1, 1) := by decide +kernel
theorem dX7_remove_5 : decode cX7_remove 5 = .ok (.invokevirtual 112, 3) := by decide +kernel
theorem dX7_remove_8 : decode cX7_remove 8 = .ok (.ifnonnull 13, 3) := by decide +kernel
theorem dX7_remove_11 : decode cX7_remove 11 = .ok (.new 116, 3) := by decide +kernel
theorem dX7_remove_14 : decode cX7_remove 14 = .ok (.dup, 1) := by decide +kernel
theorem dX7_remove_15 : decode cX7_remove 15 = .ok (.ldc 118, 2) := by decide +kernel
theorem dX7_remove_17 : decode cX7_remove 17 = .ok (.invokespecial 120, 3) := by decide +kernel
theorem dX7_remove_20 : decode cX7_remove 20 = .ok (.athrow, 1) := by decide +kernel
theorem dX7_remove_21 : decode cX7_remove 21 = .ok (.aload_n 0, 1) := by decide +kernel
theorem dX7_remove_22 : decode cX7_remove 22 = .ok (.getfield 26, 3) := by decide +kernel
theorem dX7_remove_25 : decode cX7_remove 25 = .ok (.aload_n 0, 1) := by decide +kernel
theorem dX7_remove_26 : decode cX7_remove 26 = .ok (.getfield 16, 3) := by decide +kernel
theorem dX7_remove_29 : decode cX7_remove 29 = .ok (.invokevirtual 223, 3) := by decide +kernel
theorem dX7_remove_32 : decode cX7_remove 32 = .ok (.aload_n 0, 1) := by decide +kernel
theorem dX7_remove_33 : decode cX7_remove 33 = .ok (.getfield 16, 3) := by decide +kernel
theorem dX7_remove_36 : decode cX7_remove 36 = .ok (.iload_n 1, 1) := by decide +kernel
theorem dX7_remove_37 : decode cX7_remove 37 = .ok (.invokevirtual 260, 3) := by decide +kernel
theorem dX7_remove_40 : decode cX7_remove 40 = .ok (.aload_n 0, 1) := by decide +kernel
theorem dX7_remove_41 : decode cX7_remove 41 = .ok (.getfield 16, 3) := by decide +kernel
theorem dX7_remove_44 : decode cX7_remove 44 = .ok (.getfield 74, 3) := by decide +kernel
theorem dX7_remove_47 : decode cX7_remove 47 = .ok (.ireturn, 1) := by decide +kernel
set_option maxRecDepth 20000 in
theorem ggX7_see_X4_hasTooth : GoodIn wsX7_see wsX4_hasTooth := goodIn_r _ [9, 10, 120, 121, 122, 123, 124, 125] (by decide +kernel) (by decide +kernel)
set_option maxRecDepth 20000 in
theorem gX7_see_X4_hasTooth : GoodIn wsX7_see (wsV RX7 163 RX4 yX4_hasTooth wsX4_hasTooth) := goodIn_app (goodIn_of _ (by decide +kernel)) ggX7_see_X4_hasTooth
set_option maxRecDepth 20000 in
theorem ggX7_see_X7_isRadius : GoodIn wsX7_see wsX7_isRadius := goodIn_r _ [14] (by decide +kernel) (by decide +kernel)
set_option maxRecDepth 20000 in
theorem gX7_see_X7_isRadius : GoodIn wsX7_see (va_wsS RX7 167 yX7_isRadius wsX7_isRadius) := goodIn_app (goodIn_of _ (by decide +kernel)) ggX7_see_X7_isRadius
set_option maxRecDepth 20000 in
theorem ggX7_see_X2_remember : GoodIn wsX7_see wsX2_remember := goodIn_r _ [19, 20, 21, 22, 23, 24, 18, 25, 26, 27, 28, 29, 8, 30, 10, 31, 32, 33, 34, 35, 36, 37, 38, 39, 40, 41, 42, 43, 44, 45, 46, 47, 48, 49, 50, 51, 52, 53, 54, 55, 56, 57, 58, 59, 60, 61, 62, 63, 64, 65, 66, 67, 68, 69, 70, 71, 72, 73, 74, 75, 76, 77, 78, 79, 80, 126, 127, 128, 120, 121, 122, 123, 124, 125, 129, 130, 131, 132] (by decide +kernel) (by decide +kernel)
set_option maxRecDepth 20000 in
theorem gX7_see_X2_remember : GoodIn wsX7_see (wsV RX7 223 RX2 yX2_remember wsX2_remember) := goodIn_app (goodIn_of _ (by decide +kernel)) ggX7_see_X2_remember
set_option maxRecDepth 20000 in
theorem ggX7_see_X4_note : GoodIn wsX7_see wsX4_note := goodIn_r _ [76, 36, 67, 72, 77, 78, 79, 8, 80, 120, 121, 122, 123, 124, 125] (by decide +kernel) (by decide +kernel)
set_option maxRecDepth 20000 in
theorem gX7_see_X4_note : GoodIn wsX7_see (wsV RX7 263 RX4 yX4_note wsX4_note) := goodIn_app (goodIn_of _ (by decide +kernel)) ggX7_see_X4_note
set_option maxRecDepth 20000 in
theorem ggX7_see_X4_fitting : GoodIn wsX7_see wsX4_fitting := goodIn_r _ [85, 31, 41, 42, 43, 8, 44, 45, 86, 87, 88, 89, 36, 10, 63, 64, 65, 66, 67, 68, 69, 70, 71, 72, 90, 91, 92, 57, 93, 62, 94, 13, 95, 96, 97, 98, 99, 59, 100, 101, 102, 103, 104, 105, 106, 107, 60, 61, 108, 109, 110, 111, 120, 121, 122, 123, 124, 125, 129, 130, 131, 132] (by decide +kernel) (by decide +kernel)
set_option maxRecDepth 20000 in
theorem gX7_see_X4_fitting : GoodIn wsX7_see (wsV RX7 107 RX4 yX4_fitting wsX4_fitting) := goodIn_app (goodIn_of _ (by decide +kernel)) ggX7_see_X4_fitting
theorem dX7_see_0 : decode cX7_see 0 = .ok (.aload_n 0, 1) := by decide +kernel
theorem dX7_see_1 : decode cX7_see 1 = .ok (.getfield 16, 3) := by decide +kernel
theorem dX7_see_4 : decode cX7_see 4 = .ok (.iload_n 1, 1) := by decide +kernel
theorem dX7_see_5 : decode cX7_see 5 = .ok (.invokevirtual 163, 3) := by decide +kernel
theorem dX7_see_8 : decode cX7_see 8 = .ok (.ifCond .eq 10, 3) := by decide +kernel
theorem dX7_see_11 : decode cX7_see 11 = .ok (.iload_n 2, 1) := by decide +kernel
theorem dX7_see_12 : decode cX7_see 12 = .ok (.invokestatic 167, 3) := by decide +kernel
theorem dX7_see_15 : decode cX7_see 15 = .ok (.ifCond .ne 13, 3) := by decide +kernel
theorem dX7_see_18 : decode cX7_see 18 = .ok (.new 45, 3) := by decide +kernel
theorem dX7_see_21 : decode cX7_see 21 = .ok (.dup, 1) := by decide +kernel
theorem dX7_see_22 : decode cX7_see 22 = .ok (.ldc 170, 2) := by decide +kernel
theorem dX7_see_24 : decode cX7_see 24 = .ok (.invokespecial 49, 3) := by decide +kernel
theorem dX7_see_27 : decode cX7_see 27 = .ok (.athrow, 1) := by decide +kernel
theorem dX7_see_28 : decode cX7_see 28 = .ok (.aload_n 0, 1) := by decide +kernel
theorem dX7_see_29 : decode cX7_see 29 = .ok (.getfield 26, 3) := by decide +kernel
theorem dX7_see_32 : decode cX7_see 32 = .ok (.aload_n 0, 1) := by decide +kernel
theorem dX7_see_33 : decode cX7_see 33 = .ok (.getfield 16, 3) := by decide +kernel
theorem dX7_see_36 : decode cX7_see 36 = .ok (.invokevirtual 223, 3) := by decide +kernel
theorem dX7_see_39 : decode cX7_see 39 = .ok (.aload_n 0, 1) := by decide +kernel
theorem dX7_see_40 : decode cX7_see 40 = .ok (.getfield 16, 3) := by decide +kernel
theorem dX7_see_43 : decode cX7_see 43 = .ok (.iload_n 1, 1) := by decide +kernel
theorem dX7_see_44 : decode cX7_see 44 = .ok (.iload_n 2, 1) := by decide +kernel
theorem dX7_see_45 : decode cX7_see 45 = .ok (.invokevirtual 263, 3) := by decide +kernel
theorem dX7_see_48 : decode cX7_see 48 = .ok (.aload_n 0, 1) := by decide +kernel
theorem dX7_see_49 : decode cX7_see 49 = .ok (.getfield 16, 3) := by decide +kernel
theorem dX7_see_52 : decode cX7_see 52 = .ok (.invokevirtual 107, 3) := by decide +kernel
theorem dX7_see_55 : decode cX7_see 55 = .ok (.ireturn, 1) := by decide +kernel
set_option maxRecDepth 20000 in
theorem ggX7_forget_X2_remember : GoodIn wsX7_forget wsX2_remember := goodIn_r _ [8, 9, 10, 11, 12, 13, 7, 14, 15, 16, 17, 18, 19, 20, 21, 22, 23, 24, 25, 26, 27, 28, 29, 30, 31, 32, 33, 34, 35, 36, 37, 38, 39, 40, 41, 42, 43, 44, 45, 46, 47, 48, 49, 50, 51, 52, 53, 54, 55, 56, 57, 58, 59, 60, 61, 62, 63, 64, 65, 66, 67, 68, 69, 70, 71, 86, 87, 88, 80, 81, 82, 83, 84, 85, 89, 90, 91, 92] (by decide +kernel) (by decide +kernel)
set_option maxRecDepth 20000 in
theorem gX7_forget_X2_remember : GoodIn wsX7_forget (wsV RX7 223 RX2 yX2_remember wsX2_remember) := goodIn_app (goodIn_of _ (by decide +kernel)) ggX7_forget_X2_remember
theorem dX7_forget_0 : decode cX7_forget 0 = .ok (.aload_n 0, 1) := by decide +kernel
theorem dX7_forget_1 : decode cX7_forget 1 = .ok (.getfield 26, 3) := by decide +kernel
theorem dX7_forget_4 : decode cX7_forget 4 = .ok (.aload_n 0, 1) := by decide +kernel
theorem dX7_forget_5 : decode cX7_forget 5 = .ok (.getfield 16, 3) := by decide +kernel
theorem dX7_forget_8 : decode cX7_forget 8 = .ok (.invokevirtual 223, 3) := by decide +kernel
theorem dX7_forget_11 : decode cX7_forget 11 = .ok (.aload_n 0, 1) := by decide +kernel
theorem dX7_forget_12 : decode cX7_forget 12 = .ok (.getfield 16, 3) := by decide +kernel
theorem dX7_forget_15 : decode cX7_forget 15 = .ok (.getfield 89, 3) := by decide +kernel
theorem dX7_forget_18 : decode cX7_forget 18 = .ok (.istore_n 1, 1) := by decide +kernel
theorem dX7_forget_19 : decode cX7_forget 19 = .ok (.aload_n 0, 1) := by decide +kernel
theorem dX7_forget_20 : decode cX7_forget 20 = .ok (.getfield 16, 3) := by decide +kernel
theorem dX7_forget_23 : decode cX7_forget 23 = .ok (.iconst 0, 1) := by decide +kernel
theorem dX7_forget_24 : decode cX7_forget 24 = .ok (.putfield 89, 3) := by decide +kernel
theorem dX7_forget_27 : decode cX7_forget 27 = .ok (.iload_n 1, 1) := by decide +kernel
theorem dX7_forget_28 : decode cX7_forget 28 = .ok (.ireturn, 1) := by decide +kernel
set_option maxRecDepth 20000 in
theorem ggX7_undo_X2_takeBack : GoodIn wsX7_undo wsX2_takeBack := goodIn_r _ [10, 11, 12, 13, 14, 15, 9, 16, 17, 18, 19, 20, 21, 22, 23, 24, 25, 26, 27, 28, 29, 30, 31, 32, 33, 34, 35, 36, 37, 38, 39, 40, 41, 42, 43, 44, 45, 46, 47, 48, 49, 50, 51, 52, 53, 54, 55, 56, 57, 58, 59, 60, 61, 62, 63, 64, 65, 66, 67, 68, 69, 70, 71, 72, 73, 82, 83, 84, 85, 86, 87, 88, 89, 90, 91, 92, 93, 94] (by decide +kernel) (by decide +kernel)
set_option maxRecDepth 20000 in
theorem gX7_undo_X2_takeBack : GoodIn wsX7_undo (wsV RX7 272 RX2 yX2_takeBack wsX2_takeBack) := goodIn_app (goodIn_of _ (by decide +kernel)) ggX7_undo_X2_takeBack
theorem dX7_undo_0 : decode cX7_undo 0 = .ok (.aload_n 0, 1) := by decide +kernel
theorem dX7_undo_1 : decode cX7_undo 1 = .ok (.getfield 26, 3) := by decide +kernel
theorem dX7_undo_4 : decode cX7_undo 4 = .ok (.getfield 267, 3) := by decide +kernel
theorem dX7_undo_7 : decode cX7_undo 7 = .ok (.ifCond .ne 14, 3) := by decide +kernel
theorem dX7_undo_10 : decode cX7_undo 10 = .ok (.new 56, 3) := by decide +kernel
theorem dX7_undo_13 : decode cX7_undo 13 = .ok (.dup, 1) := by decide +kernel
theorem dX7_undo_14 : decode cX7_undo 14 = .ok (.ldc_w 270, 3) := by decide +kernel
theorem dX7_undo_17 : decode cX7_undo 17 = .ok (.invokespecial 60, 3) := by decide +kernel
theorem dX7_undo_20 : decode cX7_undo 20 = .ok (.athrow, 1) := by decide +kernel
theorem dX7_undo_21 : decode cX7_undo 21 = .ok (.aload_n 0, 1) := by decide +kernel
theorem dX7_undo_22 : decode cX7_undo 22 = .ok (.getfield 26, 3) := by decide +kernel
theorem dX7_undo_25 : decode cX7_undo 25 = .ok (.aload_n 0, 1) := by decide +kernel
theorem dX7_undo_26 : decode cX7_undo 26 = .ok (.getfield 16, 3) := by decide +kernel
theorem dX7_undo_29 : decode cX7_undo 29 = .ok (.invokevirtual 272, 3) := by decide +kernel
theorem dX7_undo_32 : decode cX7_undo 32 = .ok (.aload_n 0, 1) := by decide +kernel
theorem dX7_undo_33 : decode cX7_undo 33 = .ok (.getfield 26, 3) := by decide +kernel
theorem dX7_undo_36 : decode cX7_undo 36 = .ok (.getfield 267, 3) := by decide +kernel
theorem dX7_undo_39 : decode cX7_undo 39 = .ok (.ireturn, 1) := by decide +kernel
set_option maxRecDepth 20000 in
theorem ggX7_bestStart_X4_find : GoodIn wsX7_bestStart wsX4_find := goodIn_r _ [12, 13, 14, 98, 99, 100, 101, 102, 103] (by decide +kernel) (by decide +kernel)
set_option maxRecDepth 20000 in
theorem gX7_bestStart_X4_find : GoodIn wsX7_bestStart (wsV RX7 112 RX4 yX4_find wsX4_find) := goodIn_app (goodIn_of _ (by decide +kernel)) ggX7_bestStart_X4_find
set_option maxRecDepth 20000 in
theorem ggX7_bestStart_X0_startWithMost : GoodIn wsX7_bestStart wsX0_startWithMost := goodIn_r _ [19, 20, 21, 22, 23, 24, 25, 26, 27, 28, 29, 30, 31, 32, 33, 34, 35, 36, 37, 38, 39, 40, 41, 42, 43, 44, 45, 46, 47, 48, 49, 50, 51, 52, 53, 54, 55, 56, 57, 58, 59, 60, 61, 62, 63, 64, 65, 66, 67, 68, 69, 70, 71, 72, 73, 74, 75, 76, 18, 77, 78, 79, 80, 81, 82, 83, 84, 85, 86, 87, 88, 89, 104, 105, 106, 107, 108, 109, 110, 111] (by decide +kernel) (by decide +kernel)
set_option maxRecDepth 20000 in
theorem gX7_bestStart_X0_startWithMost : GoodIn wsX7_bestStart (wsV RX7 277 RX0 yX0_startWithMost wsX0_startWithMost) := goodIn_app (goodIn_of _ (by decide +kernel)) ggX7_bestStart_X0_startWithMost
theorem dX7_bestStart_0 : decode cX7_bestStart 0 = .ok (.aload_n 0, 1) := by decide +kernel
theorem dX7_bestStart_1 : decode cX7_bestStart 1 = .ok (.getfield 16, 3) := by decide +kernel
theorem dX7_bestStart_4 : decode cX7_bestStart 4 = .ok (.iload_n 1, 1) := by decide +kernel
theorem dX7_bestStart_5 : decode cX7_bestStart 5 = .ok (.invokevirtual 112, 3) := by decide +kernel
theorem dX7_bestStart_8 : decode cX7_bestStart 8 = .ok (.astore_n 3, 1) := by decide +kernel
theorem dX7_bestStart_9 : decode cX7_bestStart 9 = .ok (.aload_n 0, 1) := by decide +kernel
theorem dX7_bestStart_10 : decode cX7_bestStart 10 = .ok (.getfield 16, 3) := by decide +kernel
theorem dX7_bestStart_13 : decode cX7_bestStart 13 = .ok (.iload_n 2, 1) := by decide +kernel
theorem dX7_bestStart_14 : decode cX7_bestStart 14 = .ok (.invokevirtual 112, 3) := by decide +kernel
theorem dX7_bestStart_17 : decode cX7_bestStart 17 = .ok (.astore 4, 2) := by decide +kernel
theorem dX7_bestStart_19 : decode cX7_bestStart 19 = .ok (.aload_n 3, 1) := by decide +kernel
theorem dX7_bestStart_20 : decode cX7_bestStart 20 = .ok (.ifnull 8, 3) := by decide +kernel
theorem dX7_bestStart_23 : decode cX7_bestStart 23 = .ok (.aload 4, 2) := by decide +kernel
theorem dX7_bestStart_25 : decode cX7_bestStart 25 = .ok (.ifnonnull 13, 3) := by decide +kernel
theorem dX7_bestStart_28 : decode cX7_bestStart 28 = .ok (.new 116, 3) := by decide +kernel
theorem dX7_bestStart_31 : decode cX7_bestStart 31 = .ok (.dup, 1) := by decide +kernel
theorem dX7_bestStart_32 : decode cX7_bestStart 32 = .ok (.ldc 118, 2) := by decide +kernel
theorem dX7_bestStart_34 : decode cX7_bestStart 34 = .ok (.invokespecial 120, 3) := by decide +kernel
theorem dX7_bestStart_37 : decode cX7_bestStart 37 = .ok (.athrow, 1) := by decide +kernel
theorem dX7_bestStart_38 : decode cX7_bestStart 38 = .ok (.iload_n 1, 1) := by decide +kernel
theorem dX7_bestStart_39 : decode cX7_bestStart 39 = .ok (.iload_n 2, 1) := by decide +kernel
theorem dX7_bestStart_40 : decode cX7_bestStart 40 = .ok (.if_icmp .ne 14, 3) := by decide +kernel
theorem dX7_bestStart_43 : decode cX7_bestStart 43 = .ok (.new 45, 3) := by decide +kernel
theorem dX7_bestStart_46 : decode cX7_bestStart 46 = .ok (.dup, 1) := by decide +kernel
theorem dX7_bestStart_47 : decode cX7_bestStart 47 = .ok (.ldc_w 275, 3) := by decide +kernel
theorem dX7_bestStart_50 : decode cX7_bestStart 50 = .ok (.invokespecial 49, 3) := by decide +kernel
theorem dX7_bestStart_53 : decode cX7_bestStart 53 = .ok (.athrow, 1) := by decide +kernel
theorem dX7_bestStart_54 : decode cX7_bestStart 54 = .ok (.aload_n 0, 1) := by decide +kernel
theorem dX7_bestStart_55 : decode cX7_bestStart 55 = .ok (.getfield 41, 3) := by decide +kernel
theorem dX7_bestStart_58 : decode cX7_bestStart 58 = .ok (.aload_n 0, 1) := by decide +kernel
theorem dX7_bestStart_59 : decode cX7_bestStart 59 = .ok (.getfield 16, 3) := by decide +kernel
theorem dX7_bestStart_62 : decode cX7_bestStart 62 = .ok (.getfield 86, 3) := by decide +kernel
theorem dX7_bestStart_65 : decode cX7_bestStart 65 = .ok (.aload_n 3, 1) := by decide +kernel
theorem dX7_bestStart_66 : decode cX7_bestStart 66 = .ok (.aload 4, 2) := by decide +kernel
theorem dX7_bestStart_68 : decode cX7_bestStart 68 = .ok (.invokevirtual 277, 3) := by decide +kernel
theorem dX7_bestStart_71 : decode cX7_bestStart 71 = .ok (.ireturn, 1) := by decide +kernel
set_option maxRecDepth 20000 in
theorem ggX7_wheels_X7_isSide : GoodIn wsX7_wheels wsX7_isSide := goodIn_r _ [9] (by decide +kernel) (by decide +kernel)
set_option maxRecDepth 20000 in
theorem gX7_wheels_X7_isSide : GoodIn wsX7_wheels (va_wsS RX7 233 yX7_isSide wsX7_isSide) := goodIn_app (goodIn_of _ (by decide +kernel)) ggX7_wheels_X7_isSide
set_option maxRecDepth 20000 in
theorem ggX7_wheels_X7_isHole : GoodIn wsX7_wheels wsX7_isHole := goodIn_r _ [12] (by decide +kernel) (by decide +kernel)
set_option maxRecDepth 20000 in
theorem gX7_wheels_X7_isHole : GoodIn wsX7_wheels (va_wsS RX7 236 yX7_isHole wsX7_isHole) := goodIn_app (goodIn_of _ (by decide +kernel)) ggX7_wheels_X7_isHole
set_option maxRecDepth 20000 in
theorem ggX7_wheels_X4_hasTooth : GoodIn wsX7_wheels wsX4_hasTooth := goodIn_r _ [17, 18, 76, 77, 78, 79, 80, 81] (by decide +kernel) (by decide +kernel)
set_option maxRecDepth 20000 in
theorem gX7_wheels_X4_hasTooth : GoodIn wsX7_wheels (wsV RX7 163 RX4 yX4_hasTooth wsX4_hasTooth) := goodIn_app (goodIn_of _ (by decide +kernel)) ggX7_wheels_X4_hasTooth
set_option maxRecDepth 20000 in
theorem ggX7_wheels_X3_set : GoodIn wsX7_wheels wsX3_set := goodIn_r _ [23, 24, 25, 26, 27, 82, 83, 84, 85] (by decide +kernel) (by decide +kernel)
set_option maxRecDepth 20000 in
theorem gX7_wheels_X3_set : GoodIn wsX7_wheels (wsV RX7 284 RX3 yX3_set wsX3_set) := goodIn_app (goodIn_of _ (by decide +kernel)) ggX7_wheels_X3_set
set_option maxRecDepth 20000 in
theorem ggX7_wheels_X4_fits : GoodIn wsX7_wheels wsX4_fits := goodIn_r _ [31, 32, 18, 33, 34, 35, 16, 36, 37, 38, 39, 40, 41, 42, 43, 44, 45, 22, 46, 27, 47, 8, 48, 49, 50, 51, 52, 24, 53, 54, 55, 56, 57, 58, 59, 60, 25, 26, 61, 62, 63, 64, 76, 77, 78, 79, 80, 81, 82, 83, 84, 85] (by decide +kernel) (by decide +kernel)
set_option maxRecDepth 20000 in
theorem gX7_wheels_X4_fits : GoodIn wsX7_wheels (wsV RX7 287 RX4 yX4_fits wsX4_fits) := goodIn_app (goodIn_of _ (by decide +kernel)) ggX7_wheels_X4_fits
theorem dX7_wheels_0 : decode cX7_wheels 0 = .ok (.iload_n 1, 1) := by decide +kernel
theorem dX7_wheels_1 : decode cX7_wheels 1 = .ok (.invokestatic 233, 3) := by decide +kernel
theorem dX7_wheels_4 : decode cX7_wheels 4 = .ok (.ifCond .eq 32, 3) := by decide +kernel
theorem dX7_wheels_7 : decode cX7_wheels 7 = .ok (.iload_n 2, 1) := by decide +kernel
theorem dX7_wheels_8 : decode cX7_wheels 8 = .ok (.invokestatic 236, 3) := by decide +kernel
theorem dX7_wheels_11 : decode cX7_wheels 11 = .ok (.ifCond .eq 25, 3) := by decide +kernel
theorem dX7_wheels_14 : decode cX7_wheels 14 = .ok (.aload_n 0, 1) := by decide +kernel
theorem dX7_wheels_15 : decode cX7_wheels 15 = .ok (.getfield 16, 3) := by decide +kernel
theorem dX7_wheels_18 : decode cX7_wheels 18 = .ok (.iload_n 3, 1) := by decide +kernel
theorem dX7_wheels_19 : decode cX7_wheels 19 = .ok (.invokevirtual 163, 3) := by decide +kernel
theorem dX7_wheels_22 : decode cX7_wheels 22 = .ok (.ifCond .eq 14, 3) := by decide +kernel
theorem dX7_wheels_25 : decode cX7_wheels 25 = .ok (.iload 4, 2) := by decide +kernel
theorem dX7_wheels_27 : decode cX7_wheels 27 = .ok (.ifCond .lt 9, 3) := by decide +kernel
theorem dX7_wheels_30 : decode cX7_wheels 30 = .ok (.iload 4, 2) := by decide +kernel
theorem dX7_wheels_32 : decode cX7_wheels 32 = .ok (.iconst 2, 1) := by decide +kernel
theorem dX7_wheels_33 : decode cX7_wheels 33 = .ok (.if_icmp .le 13, 3) := by decide +kernel
theorem dX7_wheels_36 : decode cX7_wheels 36 = .ok (.new 45, 3) := by decide +kernel
theorem dX7_wheels_39 : decode cX7_wheels 39 = .ok (.dup, 1) := by decide +kernel
theorem dX7_wheels_40 : decode cX7_wheels 40 = .ok (.ldc 239, 2) := by decide +kernel
theorem dX7_wheels_42 : decode cX7_wheels 42 = .ok (.invokespecial 49, 3) := by decide +kernel
theorem dX7_wheels_45 : decode cX7_wheels 45 = .ok (.athrow, 1) := by decide +kernel
theorem dX7_wheels_46 : decode cX7_wheels 46 = .ok (.iconst 0, 1) := by decide +kernel
theorem dX7_wheels_47 : decode cX7_wheels 47 = .ok (.istore 5, 2) := by decide +kernel
theorem dX7_wheels_49 : decode cX7_wheels 49 = .ok (.bipush (-9), 2) := by decide +kernel
theorem dX7_wheels_51 : decode cX7_wheels 51 = .ok (.istore 6, 2) := by decide +kernel
theorem dX7_wheels_53 : decode cX7_wheels 53 = .ok (.bipush (-9), 2) := by decide +kernel
theorem dX7_wheels_55 : decode cX7_wheels 55 = .ok (.istore 7, 2) := by decide +kernel
theorem dX7_wheels_57 : decode cX7_wheels 57 = .ok (.iconst 5, 1) := by decide +kernel
theorem dX7_wheels_58 : decode cX7_wheels 58 = .ok (.istore 8, 2) := by decide +kernel
theorem dX7_wheels_60 : decode cX7_wheels 60 = .ok (.iload 8, 2) := by decide +kernel
theorem dX7_wheels_62 : decode cX7_wheels 62 = .ok (.bipush 60, 2) := by decide +kernel
theorem dX7_wheels_64 : decode cX7_wheels 64 = .ok (.if_icmp .gt 64, 3) := by decide +kernel
theorem dX7_wheels_67 : decode cX7_wheels 67 = .ok (.aload_n 0, 1) := by decide +kernel
theorem dX7_wheels_68 : decode cX7_wheels 68 = .ok (.getfield 41, 3) := by decide +kernel
theorem dX7_wheels_71 : decode cX7_wheels 71 = .ok (.getfield 280, 3) := by decide +kernel
theorem dX7_wheels_74 : decode cX7_wheels 74 = .ok (.iload 8, 2) := by decide +kernel
theorem dX7_wheels_76 : decode cX7_wheels 76 = .ok (.iload_n 1, 1) := by decide +kernel
theorem dX7_wheels_77 : decode cX7_wheels 77 = .ok (.iload_n 2, 1) := by decide +kernel
theorem dX7_wheels_78 : decode cX7_wheels 78 = .ok (.iload_n 3, 1) := by decide +kernel
theorem dX7_wheels_79 : decode cX7_wheels 79 = .ok (.invokevirtual 284, 3) := by decide +kernel
theorem dX7_wheels_82 : decode cX7_wheels 82 = .ok (.aload_n 0, 1) := by decide +kernel
theorem dX7_wheels_83 : decode cX7_wheels 83 = .ok (.getfield 16, 3) := by decide +kernel
theorem dX7_wheels_86 : decode cX7_wheels 86 = .ok (.aload_n 0, 1) := by decide +kernel
theorem dX7_wheels_87 : decode cX7_wheels 87 = .ok (.getfield 41, 3) := by decide +kernel
theorem dX7_wheels_90 : decode cX7_wheels 90 = .ok (.getfield 280, 3) := by decide +kernel
theorem dX7_wheels_93 : decode cX7_wheels 93 = .ok (.invokevirtual 287, 3) := by decide +kernel
theorem dX7_wheels_96 : decode cX7_wheels 96 = .ok (.ifCond .eq 26, 3) := by decide +kernel
theorem dX7_wheels_99 : decode cX7_wheels 99 = .ok (.iinc 5 1, 3) := by decide +kernel
theorem dX7_wheels_102 : decode cX7_wheels 102 = .ok (.iload 6, 2) := by decide +kernel
theorem dX7_wheels_104 : decode cX7_wheels 104 = .ok (.bipush (-9), 2) := by decide +kernel
theorem dX7_wheels_106 : decode cX7_wheels 106 = .ok (.if_icmp .ne 8, 3) := by decide +kernel
theorem dX7_wheels_109 : decode cX7_wheels 109 = .ok (.iload 8, 2) := by decide +kernel
theorem dX7_wheels_111 : decode cX7_wheels 111 = .ok (.goto 5, 3) := by decide +kernel
theorem dX7_wheels_114 : decode cX7_wheels 114 = .ok (.iload 6, 2) := by decide +kernel
theorem dX7_wheels_116 : decode cX7_wheels 116 = .ok (.istore 6, 2) := by decide +kernel
theorem dX7_wheels_118 : decode cX7_wheels 118 = .ok (.iload 8, 2) := by decide +kernel
theorem dX7_wheels_120 : decode cX7_wheels 120 = .ok (.istore 7, 2) := by decide +kernel
theorem dX7_wheels_122 : decode cX7_wheels 122 = .ok (.iinc 8 1, 3) := by decide +kernel
theorem dX7_wheels_125 : decode cX7_wheels 125 = .ok (.goto (-65), 3) := by decide +kernel
theorem dX7_wheels_128 : decode cX7_wheels 128 = .ok (.iload 4, 2) := by decide +kernel
theorem dX7_wheels_130 : decode cX7_wheels 130 = .ok (.ifCond .ne 8, 3) := by decide +kernel
theorem dX7_wheels_133 : decode cX7_wheels 133 = .ok (.iload 5, 2) := by decide +kernel
theorem dX7_wheels_135 : decode cX7_wheels 135 = .ok (.goto 16, 3) := by decide +kernel
theorem dX7_wheels_138 : decode cX7_wheels 138 = .ok (.iload 4, 2) := by decide +kernel
theorem dX7_wheels_140 : decode cX7_wheels 140 = .ok (.iconst 1, 1) := by decide +kernel
theorem dX7_wheels_141 : decode cX7_wheels 141 = .ok (.if_icmp .ne 8, 3) := by decide +kernel
theorem dX7_wheels_144 : decode cX7_wheels 144 = .ok (.iload 6, 2) := by decide +kernel
theorem dX7_wheels_146 : decode cX7_wheels 146 = .ok (.goto 5, 3) := by decide +kernel
theorem dX7_wheels_149 : decode cX7_wheels 149 = .ok (.iload 7, 2) := by decide +kernel
theorem dX7_wheels_151 : decode cX7_wheels 151 = .ok (.ireturn, 1) := by decide +kernel
set_option maxRecDepth 20000 in
theorem ggX7_runScript_X7_groupUnit : GoodIn wsX7_runScript wsX7_groupUnit := goodIn_r _ [13, 8] (by decide +kernel) (by decide +kernel)
set_option maxRecDepth 20000 in
theorem gX7_runScript_X7_groupUnit : GoodIn wsX7_runScript (va_wsS RX7 295 yX7_groupUnit wsX7_groupUnit) := goodIn_app (goodIn_of _ (by decide +kernel)) ggX7_runScript_X7_groupUnit
set_option maxRecDepth 20000 in
theorem ggX7_runScript_X4_become : GoodIn wsX7_runScript wsX4_become := goodIn_r _ [18, 19, 20, 21, 22, 23, 24, 25, 26, 27, 28, 17, 29, 30, 31, 32, 33, 34, 35, 36, 37, 38, 39, 40, 41, 42, 43, 44, 45, 46, 47, 48, 49, 50, 51, 52, 53, 54, 55, 56, 57, 58, 59, 60, 61, 62, 63, 64, 65, 66, 67, 68, 69, 262, 263, 264, 265, 266, 267, 268, 269, 270, 271] (by decide +kernel) (by decide +kernel)
set_option maxRecDepth 20000 in
theorem gX7_runScript_X4_become : GoodIn wsX7_runScript (wsV RX7 67 RX4 yX4_become wsX4_become) := goodIn_app (goodIn_of _ (by decide +kernel)) ggX7_runScript_X4_become
set_option maxRecDepth 20000 in
theorem ggX7_runScript_X7_quotient : GoodIn wsX7_runScript wsX7_quotient := goodIn_r _ [72] (by decide +kernel) (by decide +kernel)
set_option maxRecDepth 20000 in
theorem gX7_runScript_X7_quotient : GoodIn wsX7_runScript (va_wsS RX7 301 yX7_quotient wsX7_quotient) := goodIn_app (goodIn_of _ (by decide +kernel)) ggX7_runScript_X7_quotient
set_option maxRecDepth 20000 in
theorem ggX7_runScript_X1_init : GoodIn wsX7_runScript wsX1_init := goodIn_r _ [75, 76, 77, 78, 79, 80, 81, 82, 83, 257, 258, 259, 260, 261] (by decide +kernel) (by decide +kernel)
set_option maxRecDepth 20000 in
theorem gX7_runScript_X1_init : GoodIn wsX7_runScript (wsX1_init) := ggX7_runScript_X1_init
set_option maxRecDepth 20000 in
theorem ggX7_runScript_X1_succeeds : GoodIn wsX7_runScript wsX1_succeeds := goodIn_r _ [87, 79, 81, 80, 88, 89, 90, 7, 91, 92, 31, 32, 17, 33, 20, 34, 93, 94, 95, 96, 82, 83, 97, 98, 99, 100, 101, 12, 102, 103, 104, 105, 106, 107, 108, 109, 110, 19, 111, 112, 113, 46, 114, 51, 48, 49, 50, 115, 116, 117, 118, 119, 120, 121, 122, 30, 123, 124, 125, 126, 127, 44, 45, 47, 128, 129, 130, 131, 132, 133, 134, 135, 136, 137, 24, 56, 138, 139, 140, 141, 142, 40, 41, 42, 143, 36, 37, 38, 39, 43, 144, 145, 146, 147, 148, 149, 150, 151, 152, 153, 154, 155, 156, 157, 158, 159, 160, 161, 162, 163, 164, 165, 166, 167, 168, 169, 170, 171, 172, 71, 72, 173, 174, 175, 176, 177, 178, 179, 180, 181, 182, 183, 184, 185, 186, 187, 188, 189, 190, 191, 192, 193, 194, 195, 196, 197, 198, 199, 200, 201, 202, 203, 204, 205, 206, 207, 208, 209, 210, 211, 212, 213, 214, 215, 216, 217, 218, 219, 220, 221, 222, 223, 224, 225, 226, 227, 228, 229, 230, 231, 232, 233, 234, 235, 236, 237, 25, 52, 53, 54, 55, 57, 58, 59, 60, 61, 238, 239, 240, 241, 242, 243, 244, 245, 246, 247, 248, 257, 258, 259, 260, 261, 262, 263, 264, 265, 266, 267, 268, 269, 270, 271, 272, 273, 274, 275] (by decide +kernel) (by decide +kernel)
set_option maxRecDepth 20000 in
theorem gX7_runScript_X1_succeeds : GoodIn wsX7_runScript (wsV RX7 310 RX1 yX1_succeeds wsX1_succeeds) := goodIn_app (goodIn_of _ (by decide +kernel)) ggX7_runScript_X1_succeeds
theorem dX7_runScript_0 : decode cX7_runScript 0 = .ok (.iload_n 1, 1) := by decide +kernel
theorem dX7_runScript_1 : decode cX7_runScript 1 = .ok (.iconst 1, 1) := by decide +kernel
theorem dX7_runScript_2 : decode cX7_runScript 2 = .ok (.if_icmp .lt 8, 3) := by decide +kernel
theorem dX7_runScript_5 : decode cX7_runScript 5 = .ok (.iload_n 1, 1) := by decide +kernel
theorem dX7_runScript_6 : decode cX7_runScript 6 = .ok (.iconst 3, 1) := by decide +kernel
theorem dX7_runScript_7 : decode cX7_runScript 7 = .ok (.if_icmp .le 14, 3) := by decide +kernel
theorem dX7_runScript_10 : decode cX7_runScript 10 = .ok (.new 45, 3) := by decide +kernel
theorem dX7_runScript_13 : decode cX7_runScript 13 = .ok (.dup, 1) := by decide +kernel
theorem dX7_runScript_14 : decode cX7_runScript 14 = .ok (.ldc_w 293, 3) := by decide +kernel
theorem dX7_runScript_17 : decode cX7_runScript 17 = .ok (.invokespecial 49, 3) := by decide +kernel
theorem dX7_runScript_20 : decode cX7_runScript 20 = .ok (.athrow, 1) := by decide +kernel
theorem dX7_runScript_21 : decode cX7_runScript 21 = .ok (.lload_n 2, 1) := by decide +kernel
theorem dX7_runScript_22 : decode cX7_runScript 22 = .ok (.lconst 0, 1) := by decide +kernel
theorem dX7_runScript_23 : decode cX7_runScript 23 = .ok (.lcmp, 1) := by decide +kernel
theorem dX7_runScript_24 : decode cX7_runScript 24 = .ok (.ifCond .lt 12, 3) := by decide +kernel
theorem dX7_runScript_27 : decode cX7_runScript 27 = .ok (.lload_n 2, 1) := by decide +kernel
theorem dX7_runScript_28 : decode cX7_runScript 28 = .ok (.iload_n 1, 1) := by decide +kernel
theorem dX7_runScript_29 : decode cX7_runScript 29 = .ok (.invokestatic 295, 3) := by decide +kernel
theorem dX7_runScript_32 : decode cX7_runScript 32 = .ok (.lcmp, 1) := by decide +kernel
theorem dX7_runScript_33 : decode cX7_runScript 33 = .ok (.ifCond .lt 14, 3) := by decide +kernel
theorem dX7_runScript_36 : decode cX7_runScript 36 = .ok (.new 45, 3) := by decide +kernel
theorem dX7_runScript_39 : decode cX7_runScript 39 = .ok (.dup, 1) := by decide +kernel
theorem dX7_runScript_40 : decode cX7_runScript 40 = .ok (.ldc_w 299, 3) := by decide +kernel
theorem dX7_runScript_43 : decode cX7_runScript 43 = .ok (.invokespecial 49, 3) := by decide +kernel
theorem dX7_runScript_46 : decode cX7_runScript 46 = .ok (.athrow, 1) := by decide +kernel
theorem dX7_runScript_47 : decode cX7_runScript 47 = .ok (.aload_n 0, 1) := by decide +kernel
theorem dX7_runScript_48 : decode cX7_runScript 48 = .ok (.getfield 20, 3) := by decide +kernel
theorem dX7_runScript_51 : decode cX7_runScript 51 = .ok (.aload_n 0, 1) := by decide +kernel
theorem dX7_runScript_52 : decode cX7_runScript 52 = .ok (.getfield 16, 3) := by decide +kernel
theorem dX7_runScript_55 : decode cX7_runScript 55 = .ok (.invokevirtual 67, 3) := by decide +kernel
theorem dX7_runScript_58 : decode cX7_runScript 58 = .ok (.iconst 0, 1) := by decide +kernel
theorem dX7_runScript_59 : decode cX7_runScript 59 = .ok (.istore 4, 2) := by decide +kernel
theorem dX7_runScript_61 : decode cX7_runScript 61 = .ok (.iload 4, 2) := by decide +kernel
theorem dX7_runScript_63 : decode cX7_runScript 63 = .ok (.iload_n 1, 1) := by decide +kernel
theorem dX7_runScript_64 : decode cX7_runScript 64 = .ok (.if_icmp .ge 55, 3) := by decide +kernel
theorem dX7_runScript_67 : decode cX7_runScript 67 = .ok (.lload_n 2, 1) := by decide +kernel
theorem dX7_runScript_68 : decode cX7_runScript 68 = .ok (.iload_n 1, 1) := by decide +kernel
theorem dX7_runScript_69 : decode cX7_runScript 69 = .ok (.iconst 1, 1) := by decide +kernel
theorem dX7_runScript_70 : decode cX7_runScript 70 = .ok (.isub, 1) := by decide +kernel
theorem dX7_runScript_71 : decode cX7_runScript 71 = .ok (.iload 4, 2) := by decide +kernel
theorem dX7_runScript_73 : decode cX7_runScript 73 = .ok (.isub, 1) := by decide +kernel
theorem dX7_runScript_74 : decode cX7_runScript 74 = .ok (.invokestatic 295, 3) := by decide +kernel
theorem dX7_runScript_77 : decode cX7_runScript 77 = .ok (.invokestatic 301, 3) := by decide +kernel
theorem dX7_runScript_80 : decode cX7_runScript 80 = .ok (.lstore 5, 2) := by decide +kernel
theorem dX7_runScript_82 : decode cX7_runScript 82 = .ok (.new 304, 3) := by decide +kernel
theorem dX7_runScript_85 : decode cX7_runScript 85 = .ok (.dup, 1) := by decide +kernel
theorem dX7_runScript_86 : decode cX7_runScript 86 = .ok (.lload 5, 2) := by decide +kernel
theorem dX7_runScript_88 : decode cX7_runScript 88 = .ok (.ldc2_w 306, 3) := by decide +kernel
theorem dX7_runScript_91 : decode cX7_runScript 91 = .ok (.lrem, 1) := by decide +kernel
theorem dX7_runScript_92 : decode cX7_runScript 92 = .ok (.l2i, 1) := by decide +kernel
theorem dX7_runScript_93 : decode cX7_runScript 93 = .ok (.invokespecial 308, 3) := by decide +kernel
theorem dX7_runScript_96 : decode cX7_runScript 96 = .ok (.aload_n 0, 1) := by decide +kernel
theorem dX7_runScript_97 : decode cX7_runScript 97 = .ok (.getfield 20, 3) := by decide +kernel
theorem dX7_runScript_100 : decode cX7_runScript 100 = .ok (.aload_n 0, 1) := by decide +kernel
theorem dX7_runScript_101 : decode cX7_runScript 101 = .ok (.getfield 41, 3) := by decide +kernel
theorem dX7_runScript_104 : decode cX7_runScript 104 = .ok (.invokevirtual 310, 3) := by decide +kernel
theorem dX7_runScript_107 : decode cX7_runScript 107 = .ok (.ifCond .ne 6, 3) := by decide +kernel
theorem dX7_runScript_110 : decode cX7_runScript 110 = .ok (.iload 4, 2) := by decide +kernel
theorem dX7_runScript_112 : decode cX7_runScript 112 = .ok (.ireturn, 1) := by decide +kernel
theorem dX7_runScript_113 : decode cX7_runScript 113 = .ok (.iinc 4 1, 3) := by decide +kernel
theorem dX7_runScript_116 : decode cX7_runScript 116 = .ok (.goto (-55), 3) := by decide +kernel
theorem dX7_runScript_119 : decode cX7_runScript 119 = .ok (.bipush (-9), 2) := by decide +kernel
theorem dX7_runScript_121 : decode cX7_runScript 121 = .ok (.ireturn, 1) := by decide +kernel
theorem dX7_groupUnit_0 : decode cX7_groupUnit 0 = .ok (.lconst 1, 1) := by decide +kernel
theorem dX7_groupUnit_1 : decode cX7_groupUnit 1 = .ok (.lstore_n 1, 1) := by decide +kernel
theorem dX7_groupUnit_2 : decode cX7_groupUnit 2 = .ok (.iconst 0, 1) := by decide +kernel
theorem dX7_groupUnit_3 : decode cX7_groupUnit 3 = .ok (.istore_n 3, 1) := by decide +kernel
theorem dX7_groupUnit_4 : decode cX7_groupUnit 4 = .ok (.iload_n 3, 1) := by decide +kernel
theorem dX7_groupUnit_5 : decode cX7_groupUnit 5 = .ok (.iload_n 0, 1) := by decide +kernel

theorem dX8_at_18 : decode cX8_at 18 = .ok (.iconst 1, 1) := by decide +kernel
theorem dX8_at_19 : decode cX8_at 19 = .ok (.invokevirtual 83, 3) := by decide +kernel
theorem dX8_at_22 : decode cX8_at 22 = .ok (.ireturn, 1) := by decide +kernel
theorem dX8_at_23 : decode cX8_at 23 = .ok (.aload_n 0, 1) := by decide +kernel
theorem dX8_at_24 : decode cX8_at 24 = .ok (.invokevirtual 126, 3) := by decide +kernel
theorem dX8_at_27 : decode cX8_at 27 = .ok (.pop, 1) := by decide +kernel
theorem dX8_at_28 : decode cX8_at 28 = .ok (.aload_n 0, 1) := by decide +kernel
theorem dX8_at_29 : decode cX8_at 29 = .ok (.iload_n 1, 1) := by decide +kernel
theorem dX8_at_30 : decode cX8_at 30 = .ok (.invokevirtual 155, 3) := by decide +kernel
theorem dX8_at_33 : decode cX8_at 33 = .ok (.ireturn, 1) := by decide +kernel
set_option maxRecDepth 20000 in
theorem ggX8_blank_X8_markAll : GoodIn wsX8_blank wsX8_markAll := goodIn_r _ [7, 8, 2, 9, 10, 11, 6, 12, 13, 14, 15, 16, 17, 18, 19, 20, 21, 22, 23, 24, 25, 26, 27, 28, 29, 30, 31, 32, 33, 34, 35, 36, 37, 38, 39, 40, 45, 46, 47, 48, 49, 50, 51, 52, 53, 54, 55, 56, 57, 58, 59, 60, 61] (by decide +kernel) (by decide +kernel)
set_option maxRecDepth 20000 in
theorem gX8_blank_X8_markAll : GoodIn wsX8_blank (wsV RX8 126 RX8 yX8_markAll wsX8_markAll) := goodIn_app (goodIn_of _ (by decide +kernel)) ggX8_blank_X8_markAll
set_option maxRecDepth 20000 in
theorem ggX8_blank_X8_markedAt : GoodIn wsX8_blank wsX8_markedAt := goodIn_r _ [44, 18, 13, 8, 45, 46, 47, 48, 49, 50, 51, 52, 53, 54, 55, 56, 57, 58, 59, 60, 61] (by decide +kernel) (by decide +kernel)
set_option maxRecDepth 20000 in
theorem gX8_blank_X8_markedAt : GoodIn wsX8_blank (wsV RX8 155 RX8 yX8_markedAt wsX8_markedAt) := goodIn_app (goodIn_of _ (by decide +kernel)) ggX8_blank_X8_markedAt
theorem dX8_blank_0 : decode cX8_blank 0 = .ok (.aload_n 0, 1) := by decide +kernel
theorem dX8_blank_1 : decode cX8_blank 1 = .ok (.iconst 0, 1) := by decide +kernel
theorem dX8_blank_2 : decode cX8_blank 2 = .ok (.putfield 31, 3) := by decide +kernel
theorem dX8_blank_5 : decode cX8_blank 5 = .ok (.aload_n 0, 1) := by decide +kernel
theorem dX8_blank_6 : decode cX8_blank 6 = .ok (.getfield 35, 3) := by decide +kernel
theorem dX8_blank_9 : decode cX8_blank 9 = .ok (.ifCond .ne 6, 3) := by decide +kernel
theorem dX8_blank_12 : decode cX8_blank 12 = .ok (.bipush (-9), 2) := by decide +kernel
theorem dX8_blank_14 : decode cX8_blank 14 = .ok (.ireturn, 1) := by decide +kernel
theorem dX8_blank_15 : decode cX8_blank 15 = .ok (.aload_n 0, 1) := by decide +kernel
theorem dX8_blank_16 : decode cX8_blank 16 = .ok (.invokevirtual 126, 3) := by decide +kernel
theorem dX8_blank_19 : decode cX8_blank 19 = .ok (.pop, 1) := by decide +kernel
theorem dX8_blank_20 : decode cX8_blank 20 = .ok (.iconst 0, 1) := by decide +kernel
theorem dX8_blank_21 : decode cX8_blank 21 = .ok (.istore_n 1, 1) := by decide +kernel
theorem dX8_blank_22 : decode cX8_blank 22 = .ok (.bipush (-9), 2) := by decide +kernel
theorem dX8_blank_24 : decode cX8_blank 24 = .ok (.istore_n 2, 1) := by decide +kernel
theorem dX8_blank_25 : decode cX8_blank 25 = .ok (.iconst 0, 1) := by decide +kernel
theorem dX8_blank_26 : decode cX8_blank 26 = .ok (.istore_n 3, 1) := by decide +kernel
theorem dX8_blank_27 : decode cX8_blank 27 = .ok (.iload_n 3, 1) := by decide +kernel
theorem dX8_blank_28 : decode cX8_blank 28 = .ok (.sipush 301, 3) := by decide +kernel
theorem dX8_blank_31 : decode cX8_blank 31 = .ok (.if_icmp .ge 47, 3) := by decide +kernel
theorem dX8_blank_34 : decode cX8_blank 34 = .ok (.aload_n 0, 1) := by decide +kernel
theorem dX8_blank_35 : decode cX8_blank 35 = .ok (.iload_n 3, 1) := by decide +kernel
theorem dX8_blank_36 : decode cX8_blank 36 = .ok (.invokevirtual 155, 3) := by decide +kernel
theorem dX8_blank_39 : decode cX8_blank 39 = .ok (.ifCond .le 33, 3) := by decide +kernel
theorem dX8_blank_42 : decode cX8_blank 42 = .ok (.iload_n 2, 1) := by decide +kernel
theorem dX8_blank_43 : decode cX8_blank 43 = .ok (.bipush (-9), 2) := by decide +kernel
theorem dX8_blank_45 : decode cX8_blank 45 = .ok (.if_icmp .ne 7, 3) := by decide +kernel
theorem dX8_blank_48 : decode cX8_blank 48 = .ok (.iconst 0, 1) := by decide +kernel
theorem dX8_blank_49 : decode cX8_blank 49 = .ok (.goto 6, 3) := by decide +kernel
theorem dX8_blank_52 : decode cX8_blank 52 = .ok (.iload_n 3, 1) := by decide +kernel
theorem dX8_blank_53 : decode cX8_blank 53 = .ok (.iload_n 2, 1) := by decide +kernel
theorem dX8_blank_54 : decode cX8_blank 54 = .ok (.isub, 1) := by decide +kernel
theorem dX8_blank_55 : decode cX8_blank 55 = .ok (.istore 4, 2) := by decide +kernel
theorem dX8_blank_57 : decode cX8_blank 57 = .ok (.iload 4, 2) := by decide +kernel
theorem dX8_blank_59 : decode cX8_blank 59 = .ok (.iload_n 1, 1) := by decide +kernel
theorem dX8_blank_60 : decode cX8_blank 60 = .ok (.if_icmp .le 8, 3) := by decide +kernel
theorem dX8_blank_63 : decode cX8_blank 63 = .ok (.iload 4, 2) := by decide +kernel
theorem dX8_blank_65 : decode cX8_blank 65 = .ok (.goto 4, 3) := by decide +kernel
theorem dX8_blank_68 : decode cX8_blank 68 = .ok (.iload_n 1, 1) := by decide +kernel
theorem dX8_blank_69 : decode cX8_blank 69 = .ok (.istore_n 1, 1) := by decide +kernel
theorem dX8_blank_70 : decode cX8_blank 70 = .ok (.iload_n 3, 1) := by decide +kernel
theorem dX8_blank_71 : decode cX8_blank 71 = .ok (.istore_n 2, 1) := by decide +kernel
theorem dX8_blank_72 : decode cX8_blank 72 = .ok (.iinc 3 1, 3) := by decide +kernel
theorem dX8_blank_75 : decode cX8_blank 75 = .ok (.goto (-48), 3) := by decide +kernel
theorem dX8_blank_78 : decode cX8_blank 78 = .ok (.iload_n 1, 1) := by decide +kernel
theorem dX8_blank_79 : decode cX8_blank 79 = .ok (.ireturn, 1) := by decide +kernel
theorem dX8_common_0 : decode cX8_common 0 = .ok (.lload_n 0, 1) := by decide +kernel
theorem dX8_common_1 : decode cX8_common 1 = .ok (.lstore 4, 2) := by decide +kernel
theorem dX8_common_3 : decode cX8_common 3 = .ok (.lload_n 2, 1) := by decide +kernel
theorem dX8_common_4 : decode cX8_common 4 = .ok (.lstore 6, 2) := by decide +kernel
theorem dX8_common_6 : decode cX8_common 6 = .ok (.lload 6, 2) := by decide +kernel
theorem dX8_common_8 : decode cX8_common 8 = .ok (.lconst 0, 1) := by decide +kernel
theorem dX8_common_9 : decode cX8_common 9 = .ok (.lcmp, 1) := by decide +kernel
theorem dX8_common_10 : decode cX8_common 10 = .ok (.ifCond .eq 21, 3) := by decide +kernel
theorem dX8_common_13 : decode cX8_common 13 = .ok (.lload 4, 2) := by decide +kernel
theorem dX8_common_15 : decode cX8_common 15 = .ok (.lload 6, 2) := by decide +kernel
theorem dX8_common_17 : decode cX8_common 17 = .ok (.lrem, 1) := by decide +kernel
theorem dX8_common_18 : decode cX8_common 18 = .ok (.lstore 8, 2) := by decide +kernel
theorem dX8_common_20 : decode cX8_common 20 = .ok (.lload 6, 2) := by decide +kernel
theorem dX8_common_22 : decode cX8_common 22 = .ok (.lstore 4, 2) := by decide +kernel
theorem dX8_common_24 : decode cX8_common 24 = .ok (.lload 8, 2) := by decide +kernel
theorem dX8_common_26 : decode cX8_common 26 = .ok (.lstore 6, 2) := by decide +kernel
theorem dX8_common_28 : decode cX8_common 28 = .ok (.goto (-22), 3) := by decide +kernel
theorem dX8_common_31 : decode cX8_common 31 = .ok (.lload 4, 2) := by decide +kernel
theorem dX8_common_33 : decode cX8_common 33 = .ok (.lreturn, 1) := by decide +kernel
set_option maxRecDepth 20000 in
theorem ggX8_together_X8_period : GoodIn wsX8_together wsX8_period := goodIn_r _ [7, 8, 9, 10, 11, 6, 12, 13, 14, 15, 19, 20, 21, 22, 23, 24, 25, 26, 27, 28, 29, 30, 31, 32, 33, 34, 35] (by decide +kernel) (by decide +kernel)
set_option maxRecDepth 20000 in
theorem gX8_together_X8_period : GoodIn wsX8_together (wsV RX8 50 RX8 yX8_period wsX8_period) := goodIn_app (goodIn_of _ (by decide +kernel)) ggX8_together_X8_period
set_option maxRecDepth 20000 in
theorem ggX8_together_X8_common : GoodIn wsX8_together wsX8_common := goodIn_r _ [18] (by decide +kernel) (by decide +kernel)
set_option maxRecDepth 20000 in
theorem gX8_together_X8_common : GoodIn wsX8_together (va_wsS RX8 158 yX8_common wsX8_common) := goodIn_app (goodIn_of _ (by decide +kernel)) ggX8_together_X8_common
theorem dX8_together_0 : decode cX8_together 0 = .ok (.aload_n 0, 1) := by decide +kernel
theorem dX8_together_1 : decode cX8_together 1 = .ok (.iconst 0, 1) := by decide +kernel
theorem dX8_together_2 : decode cX8_together 2 = .ok (.putfield 31, 3) := by decide +kernel
theorem dX8_together_5 : decode cX8_together 5 = .ok (.lconst 0, 1) := by decide +kernel
theorem dX8_together_6 : decode cX8_together 6 = .ok (.lstore_n 1, 1) := by decide +kernel
theorem dX8_together_7 : decode cX8_together 7 = .ok (.iconst 0, 1) := by decide +kernel
theorem dX8_together_8 : decode cX8_together 8 = .ok (.istore_n 3, 1) := by decide +kernel
theorem dX8_together_9 : decode cX8_together 9 = .ok (.iload_n 3, 1) := by decide +kernel
theorem dX8_together_10 : decode cX8_together 10 = .ok (.aload_n 0, 1) := by decide +kernel
theorem dX8_together_11 : decode cX8_together 11 = .ok (.getfield 35, 3) := by decide +kernel
theorem dX8_together_14 : decode cX8_together 14 = .ok (.if_icmp .ge 38, 3) := by decide +kernel
theorem dX8_together_17 : decode cX8_together 17 = .ok (.aload_n 0, 1) := by decide +kernel
theorem dX8_together_18 : decode cX8_together 18 = .ok (.iload_n 3, 1) := by decide +kernel
theorem dX8_together_19 : decode cX8_together 19 = .ok (.invokevirtual 50, 3) := by decide +kernel
theorem dX8_together_22 : decode cX8_together 22 = .ok (.i2l, 1) := by decide +kernel
theorem dX8_together_23 : decode cX8_together 23 = .ok (.lstore 4, 2) := by decide +kernel
theorem dX8_together_25 : decode cX8_together 25 = .ok (.iload_n 3, 1) := by decide +kernel
theorem dX8_together_26 : decode cX8_together 26 = .ok (.ifCond .ne 8, 3) := by decide +kernel
theorem dX8_together_29 : decode cX8_together 29 = .ok (.lload 4, 2) := by decide +kernel
theorem dX8_together_31 : decode cX8_together 31 = .ok (.goto 14, 3) := by decide +kernel
theorem dX8_together_34 : decode cX8_together 34 = .ok (.lload_n 1, 1) := by decide +kernel
theorem dX8_together_35 : decode cX8_together 35 = .ok (.lload_n 1, 1) := by decide +kernel
theorem dX8_together_36 : decode cX8_together 36 = .ok (.lload 4, 2) := by decide +kernel
theorem dX8_together_38 : decode cX8_together 38 = .ok (.invokestatic 158, 3) := by decide +kernel
theorem dX8_together_41 : decode cX8_together 41 = .ok (.ldiv, 1) := by decide +kernel
theorem dX8_together_42 : decode cX8_together 42 = .ok (.lload 4, 2) := by decide +kernel
theorem dX8_together_44 : decode cX8_together 44 = .ok (.lmul, 1) := by decide +kernel
theorem dX8_together_45 : decode cX8_together 45 = .ok (.lstore_n 1, 1) := by decide +kernel
theorem dX8_together_46 : decode cX8_together 46 = .ok (.iinc 3 1, 3) := by decide +kernel
theorem dX8_together_49 : decode cX8_together 49 = .ok (.goto (-40), 3) := by decide +kernel
theorem dX8_together_52 : decode cX8_together 52 = .ok (.lload_n 1, 1) := by decide +kernel
theorem dX8_together_53 : decode cX8_together 53 = .ok (.lreturn, 1) := by decide +kernel
set_option maxRecDepth 20000 in
theorem ggX8_isAhead_X8_turns : GoodIn wsX8_isAhead wsX8_turns := goodIn_r _ [5, 6, 7, 8, 9, 4, 10, 11, 12, 13, 14, 15, 16, 17, 22, 23, 24, 25, 26, 27, 28, 29, 30, 31, 32, 33, 34, 35, 36, 37, 38] (by decide +kernel) (by decide +kernel)
set_option maxRecDepth 20000 in
theorem gX8_isAhead_X8_turns : GoodIn wsX8_isAhead (wsV RX8 141 RX8 yX8_turns wsX8_turns) := goodIn_app (goodIn_of _ (by decide +kernel)) ggX8_isAhead_X8_turns
set_option maxRecDepth 20000 in
theorem ggX8_isAhead_X8_lobes : GoodIn wsX8_isAhead wsX8_lobes := goodIn_r _ [21, 7, 8, 9, 4, 10, 6, 11, 12, 13, 14, 15, 16, 17, 22, 23, 24, 25, 26, 27, 28, 29, 30, 31, 32, 33, 34, 35, 36, 37, 38] (by decide +kernel) (by decide +kernel)
set_option maxRecDepth 20000 in
theorem gX8_isAhead_X8_lobes : GoodIn wsX8_isAhead (wsV RX8 144 RX8 yX8_lobes wsX8_lobes) := goodIn_app (goodIn_of _ (by decide +kernel)) ggX8_isAhead_X8_lobes
theorem dX8_isAhead_0 : decode cX8_isAhead 0 = .ok (.aload_n 0, 1) := by decide +kernel
theorem dX8_isAhead_1 : decode cX8_isAhead 1 = .ok (.iload_n 1, 1) := by decide +kernel
theorem dX8_isAhead_2 : decode cX8_isAhead 2 = .ok (.invokevirtual 141, 3) := by decide +kernel
theorem dX8_isAhead_5 : decode cX8_isAhead 5 = .ok (.aload_n 0, 1) := by decide +kernel
theorem dX8_isAhead_6 : decode cX8_isAhead 6 = .ok (.iload_n 2, 1) := by decide +kernel
theorem dX8_isAhead_7 : decode cX8_isAhead 7 = .ok (.invokevirtual 141, 3) := by decide +kernel
theorem dX8_isAhead_10 : decode cX8_isAhead 10 = .ok (.if_icmp .eq 22, 3) := by decide +kernel
theorem dX8_isAhead_13 : decode cX8_isAhead 13 = .ok (.aload_n 0, 1) := by decide +kernel
theorem dX8_isAhead_14 : decode cX8_isAhead 14 = .ok (.iload_n 1, 1) := by decide +kernel
theorem dX8_isAhead_15 : decode cX8_isAhead 15 = .ok (.invokevirtual 141, 3) := by decide +kernel
theorem dX8_isAhead_18 : decode cX8_isAhead 18 = .ok (.aload_n 0, 1) := by decide +kernel
theorem dX8_isAhead_19 : decode cX8_isAhead 19 = .ok (.iload_n 2, 1) := by decide +kernel
theorem dX8_isAhead_20 : decode cX8_isAhead 20 = .ok (.invokevirtual 141, 3) := by decide +kernel
theorem dX8_isAhead_23 : decode cX8_isAhead 23 = .ok (.if_icmp .ge 7, 3) := by decide +kernel
theorem dX8_isAhead_26 : decode cX8_isAhead 26 = .ok (.iconst 1, 1) := by decide +kernel
theorem dX8_isAhead_27 : decode cX8_isAhead 27 = .ok (.goto 4, 3) := by decide +kernel
theorem dX8_isAhead_30 : decode cX8_isAhead 30 = .ok (.iconst 0, 1) := by decide +kernel
theorem dX8_isAhead_31 : decode cX8_isAhead 31 = .ok (.ireturn, 1) := by decide +kernel
theorem dX8_isAhead_32 : decode cX8_isAhead 32 = .ok (.aload_n 0, 1) := by decide +kernel
theorem dX8_isAhead_33 : decode cX8_isAhead 33 = .ok (.iload_n 1, 1) := by decide +kernel
theorem dX8_isAhead_34 : decode cX8_isAhead 34 = .ok (.invokevirtual 144, 3) := by decide +kernel
theorem dX8_isAhead_37 : decode cX8_isAhead 37 = .ok (.aload_n 0, 1) := by decide +kernel
theorem dX8_isAhead_38 : decode cX8_isAhead 38 = .ok (.iload_n 2, 1) := by decide +kernel
theorem dX8_isAhead_39 : decode cX8_isAhead 39 = .ok (.invokevirtual 144, 3) := by decide +kernel
theorem dX8_isAhead_42 : decode cX8_isAhead 42 = .ok (.if_icmp .eq 22, 3) := by decide +kernel
theorem dX8_isAhead_45 : decode cX8_isAhead 45 = .ok (.aload_n 0, 1) := by decide +kernel
theorem dX8_isAhead_46 : decode cX8_isAhead 46 = .ok (.iload_n 1, 1) := by decide +kernel
theorem dX8_isAhead_47 : decode cX8_isAhead 47 = .ok (.invokevirtual 144, 3) := by decide +kernel
theorem dX8_isAhead_50 : decode cX8_isAhead 50 = .ok (.aload_n 0, 1) := by decide +kernel
theorem dX8_isAhead_51 : decode cX8_isAhead 51 = .ok (.iload_n 2, 1) := by decide +kernel
theorem dX8_isAhead_52 : decode cX8_isAhead 52 = .ok (.invokevirtual 144, 3) := by decide +kernel
theorem dX8_isAhead_55 : decode cX8_isAhead 55 = .ok (.if_icmp .le 7, 3) := by decide +kernel
theorem dX8_isAhead_58 : decode cX8_isAhead 58 = .ok (.iconst 1, 1) := by decide +kernel
theorem dX8_isAhead_59 : decode cX8_isAhead 59 = .ok (.goto 4, 3) := by decide +kernel
theorem dX8_isAhead_62 : decode cX8_isAhead 62 = .ok (.iconst 0, 1) := by decide +kernel
theorem dX8_isAhead_63 : decode cX8_isAhead 63 = .ok (.ireturn, 1) := by decide +kernel
theorem dX8_isAhead_64 : decode cX8_isAhead 64 = .ok (.iload_n 1, 1) := by decide +kernel
theorem dX8_isAhead_65 : decode cX8_isAhead 65 = .ok (.iload_n 2, 1) := by decide +kernel
theorem dX8_isAhead_66 : decode cX8_isAhead 66 = .ok (.if_icmp .ge 7, 3) := by decide +kernel
theorem dX8_isAhead_69 : decode cX8_isAhead 69 = .ok (.iconst 1, 1) := by decide +kernel
theorem dX8_isAhead_70 : decode cX8_isAhead 70 = .ok (.goto 4, 3) := by decide +kernel
theorem dX8_isAhead_73 : decode cX8_isAhead 73 = .ok (.iconst 0, 1) := by decide +kernel
theorem dX8_isAhead_74 : decode cX8_isAhead 74 = .ok (.ireturn, 1) := by decide +kernel
set_option maxRecDepth 20000 in
theorem ggX8_order_X8_refused : GoodIn wsX8_order wsX8_refused := goodIn_r _ [7, 1, 32, 33, 34, 35, 36, 37, 38, 39, 40, 41, 42, 43, 44, 45, 46, 47, 48] (by decide +kernel) (by decide +kernel)
set_option maxRecDepth 20000 in
theorem gX8_order_X8_refused : GoodIn wsX8_order (wsV RX8 83 RX8 yX8_refused wsX8_refused) := goodIn_app (goodIn_of _ (by decide +kernel)) ggX8_order_X8_refused
set_option maxRecDepth 20000 in
theorem ggX8_order_X8_isAhead : GoodIn wsX8_order wsX8_isAhead := goodIn_r _ [11, 12, 13, 14, 6, 15, 16, 17, 18, 19, 20, 21, 22, 23, 24, 25, 26, 27, 28, 29, 30, 31, 32, 33, 34, 35, 36, 37, 38, 39, 40, 41, 42, 43, 44, 45, 46, 47, 48] (by decide +kernel) (by decide +kernel)
set_option maxRecDepth 20000 in
theorem gX8_order_X8_isAhead : GoodIn wsX8_order (wsV RX8 162 RX8 yX8_isAhead wsX8_isAhead) := goodIn_app (goodIn_of _ (by decide +kernel)) ggX8_order_X8_isAhead
theorem dX8_order_0 : decode cX8_order 0 = .ok (.aload_n 0, 1) := by decide +kernel
theorem dX8_order_1 : decode cX8_order 1 = .ok (.iconst 0, 1) := by decide +kernel
theorem dX8_order_2 : decode cX8_order 2 = .ok (.putfield 31, 3) := by decide +kernel
theorem dX8_order_5 : decode cX8_order 5 = .ok (.iload_n 1, 1) := by decide +kernel
theorem dX8_order_6 : decode cX8_order 6 = .ok (.ifCond .ge 9, 3) := by decide +kernel
theorem dX8_order_9 : decode cX8_order 9 = .ok (.aload_n 0, 1) := by decide +kernel
theorem dX8_order_10 : decode cX8_order 10 = .ok (.iconst 1, 1) := by decide +kernel
theorem dX8_order_11 : decode cX8_order 11 = .ok (.invokevirtual 83, 3) := by decide +kernel
theorem dX8_order_14 : decode cX8_order 14 = .ok (.ireturn, 1) := by decide +kernel
theorem dX8_order_15 : decode cX8_order 15 = .ok (.iconst 0, 1) := by decide +kernel
theorem dX8_order_16 : decode cX8_order 16 = .ok (.istore_n 2, 1) := by decide +kernel
theorem dX8_order_17 : decode cX8_order 17 = .ok (.iload_n 2, 1) := by decide +kernel
theorem dX8_order_18 : decode cX8_order 18 = .ok (.aload_n 0, 1) := by decide +kernel
theorem dX8_order_19 : decode cX8_order 19 = .ok (.getfield 35, 3) := by decide +kernel
theorem dX8_order_22 : decode cX8_order 22 = .ok (.if_icmp .ge 60, 3) := by decide +kernel
theorem dX8_order_25 : decode cX8_order 25 = .ok (.iconst 0, 1) := by decide +kernel
theorem dX8_order_26 : decode cX8_order 26 = .ok (.istore_n 3, 1) := by decide +kernel
theorem dX8_order_27 : decode cX8_order 27 = .ok (.iconst 0, 1) := by decide +kernel
theorem dX8_order_28 : decode cX8_order 28 = .ok (.istore 4, 2) := by decide +kernel
theorem dX8_order_30 : decode cX8_order 30 = .ok (.iload 4, 2) := by decide +kernel
theorem dX8_order_32 : decode cX8_order 32 = .ok (.aload_n 0, 1) := by decide +kernel
theorem dX8_order_33 : decode cX8_order 33 = .ok (.getfield 35, 3) := by decide +kernel
theorem dX8_order_36 : decode cX8_order 36 = .ok (.if_icmp .ge 33, 3) := by decide +kernel
theorem dX8_order_39 : decode cX8_order 39 = .ok (.iload_n 3, 1) := by decide +kernel
theorem dX8_order_40 : decode cX8_order 40 = .ok (.iload 4, 2) := by decide +kernel
theorem dX8_order_42 : decode cX8_order 42 = .ok (.iload_n 2, 1) := by decide +kernel
theorem dX8_order_43 : decode cX8_order 43 = .ok (.if_icmp .eq 17, 3) := by decide +kernel
theorem dX8_order_46 : decode cX8_order 46 = .ok (.aload_n 0, 1) := by decide +kernel
theorem dX8_order_47 : decode cX8_order 47 = .ok (.iload 4, 2) := by decide +kernel
theorem dX8_order_49 : decode cX8_order 49 = .ok (.iload_n 2, 1) := by decide +kernel
theorem dX8_order_50 : decode cX8_order 50 = .ok (.invokevirtual 162, 3) := by decide +kernel
theorem dX8_order_53 : decode cX8_order 53 = .ok (.ifCond .eq 7, 3) := by decide +kernel
theorem dX8_order_56 : decode cX8_order 56 = .ok (.iconst 1, 1) := by decide +kernel
theorem dX8_order_57 : decode cX8_order 57 = .ok (.goto 4, 3) := by decide +kernel
theorem dX8_order_60 : decode cX8_order 60 = .ok (.iconst 0, 1) := by decide +kernel
theorem dX8_order_61 : decode cX8_order 61 = .ok (.iadd, 1) := by decide +kernel
theorem dX8_order_62 : decode cX8_order 62 = .ok (.istore_n 3, 1) := by decide +kernel
theorem dX8_order_63 : decode cX8_order 63 = .ok (.iinc 4 1, 3) := by decide +kernel
theorem dX8_order_66 : decode cX8_order 66 = .ok (.goto (-36), 3) := by decide +kernel
theorem dX8_order_69 : decode cX8_order 69 = .ok (.iload_n 3, 1) := by decide +kernel
theorem dX8_order_70 : decode cX8_order 70 = .ok (.iload_n 1, 1) := by decide +kernel
theorem dX8_order_71 : decode cX8_order 71 = .ok (.if_icmp .ne 5, 3) := by decide +kernel
theorem dX8_order_74 : decode cX8_order 74 = .ok (.iload_n 2, 1) := by decide +kernel
theorem dX8_order_75 : decode cX8_order 75 = .ok (.ireturn, 1) := by decide +kernel
theorem dX8_order_76 : decode cX8_order 76 = .ok (.iinc 2 1, 3) := by decide +kernel
theorem dX8_order_79 : decode cX8_order 79 = .ok (.goto (-62), 3) := by decide +kernel
theorem dX8_order_82 : decode cX8_order 82 = .ok (.bipush (-9), 2) := by decide +kernel
theorem dX8_order_84 : decode cX8_order 84 = .ok (.ireturn, 1) := by decide +kernel
set_option maxRecDepth 20000 in
theorem ggX8_sighting_X8_in : GoodIn wsX8_sighting wsX8_in := goodIn_r _ [8] (by decide +kernel) (by decide +kernel)
set_option maxRecDepth 20000 in
theorem gX8_sighting_X8_in : GoodIn wsX8_sighting (va_wsS RX8 38 yX8_in wsX8_in) := goodIn_app (goodIn_of _ (by decide +kernel)) ggX8_sighting_X8_in
set_option maxRecDepth 20000 in
theorem ggX8_sighting_X8_refused : GoodIn wsX8_sighting wsX8_refused := goodIn_r _ [12, 1, 43, 44, 45, 46, 47, 48, 49, 50, 51, 52, 53, 54, 55, 56, 57, 58, 59] (by decide +kernel) (by decide +kernel)
set_option maxRecDepth 20000 in
theorem gX8_sighting_X8_refused : GoodIn wsX8_sighting (wsV RX8 83 RX8 yX8_refused wsX8_refused) := goodIn_app (goodIn_of _ (by decide +kernel)) ggX8_sighting_X8_refused
set_option maxRecDepth 20000 in
theorem ggX8_sighting_X8_comesTo : GoodIn wsX8_sighting wsX8_comesTo := goodIn_r _ [16, 17, 18, 19, 7, 20, 2, 21, 22, 23, 24, 25, 26, 27, 28, 29, 30, 31, 32, 33, 34, 35, 36, 37, 38, 39, 40, 41, 42, 43, 44, 45, 46, 47, 48, 49, 50, 51, 52, 53, 54, 55, 56, 57, 58, 59] (by decide +kernel) (by decide +kernel)
set_option maxRecDepth 20000 in
theorem gX8_sighting_X8_comesTo : GoodIn wsX8_sighting (wsV RX8 73 RX8 yX8_comesTo wsX8_comesTo) := goodIn_app (goodIn_of _ (by decide +kernel)) ggX8_sighting_X8_comesTo
theorem dX8_sighting_0 : decode cX8_sighting 0 = .ok (.aload_n 0, 1) := by decide +kernel
theorem dX8_sighting_1 : decode cX8_sighting 1 = .ok (.iconst 0, 1) := by decide +kernel
theorem dX8_sighting_2 : decode cX8_sighting 2 = .ok (.putfield 31, 3) := by decide +kernel
theorem dX8_sighting_5 : decode cX8_sighting 5 = .ok (.iload_n 1, 1) := by decide +kernel
theorem dX8_sighting_6 : decode cX8_sighting 6 = .ok (.i2l, 1) := by decide +kernel
theorem dX8_sighting_7 : decode cX8_sighting 7 = .ok (.lconst 0, 1) := by decide +kernel
theorem dX8_sighting_8 : decode cX8_sighting 8 = .ok (.aload_n 0, 1) := by decide +kernel
theorem dX8_sighting_9 : decode cX8_sighting 9 = .ok (.getfield 7, 3) := by decide +kernel
theorem dX8_sighting_12 : decode cX8_sighting 12 = .ok (.bipush 25, 2) := by decide +kernel
theorem dX8_sighting_14 : decode cX8_sighting 14 = .ok (.iaload, 1) := by decide +kernel
theorem dX8_sighting_15 : decode cX8_sighting 15 = .ok (.iconst 1, 1) := by decide +kernel
theorem dX8_sighting_16 : decode cX8_sighting 16 = .ok (.isub, 1) := by decide +kernel
theorem dX8_sighting_17 : decode cX8_sighting 17 = .ok (.i2l, 1) := by decide +kernel
theorem dX8_sighting_18 : decode cX8_sighting 18 = .ok (.invokestatic 38, 3) := by decide +kernel
theorem dX8_sighting_21 : decode cX8_sighting 21 = .ok (.ifCond .ne 9, 3) := by decide +kernel
theorem dX8_sighting_24 : decode cX8_sighting 24 = .ok (.aload_n 0, 1) := by decide +kernel
theorem dX8_sighting_25 : decode cX8_sighting 25 = .ok (.iconst 1, 1) := by decide +kernel
theorem dX8_sighting_26 : decode cX8_sighting 26 = .ok (.invokevirtual 83, 3) := by decide +kernel
theorem dX8_sighting_29 : decode cX8_sighting 29 = .ok (.ireturn, 1) := by decide +kernel
theorem dX8_sighting_30 : decode cX8_sighting 30 = .ok (.iload_n 2, 1) := by decide +kernel
theorem dX8_sighting_31 : decode cX8_sighting 31 = .ok (.i2l, 1) := by decide +kernel
theorem dX8_sighting_32 : decode cX8_sighting 32 = .ok (.lconst 0, 1) := by decide +kernel
theorem dX8_sighting_33 : decode cX8_sighting 33 = .ok (.ldc2_w 166, 3) := by decide +kernel
theorem dX8_sighting_36 : decode cX8_sighting 36 = .ok (.invokestatic 38, 3) := by decide +kernel
theorem dX8_sighting_39 : decode cX8_sighting 39 = .ok (.ifCond .ne 9, 3) := by decide +kernel
theorem dX8_sighting_42 : decode cX8_sighting 42 = .ok (.aload_n 0, 1) := by decide +kernel
theorem dX8_sighting_43 : decode cX8_sighting 43 = .ok (.iconst 2, 1) := by decide +kernel
theorem dX8_sighting_44 : decode cX8_sighting 44 = .ok (.invokevirtual 83, 3) := by decide +kernel
theorem dX8_sighting_47 : decode cX8_sighting 47 = .ok (.ireturn, 1) := by decide +kernel
theorem dX8_sighting_48 : decode cX8_sighting 48 = .ok (.aload_n 0, 1) := by decide +kernel
theorem dX8_sighting_49 : decode cX8_sighting 49 = .ok (.getfield 7, 3) := by decide +kernel
theorem dX8_sighting_52 : decode cX8_sighting 52 = .ok (.bipush 26, 2) := by decide +kernel
theorem dX8_sighting_54 : decode cX8_sighting 54 = .ok (.iconst 2, 1) := by decide +kernel
theorem dX8_sighting_55 : decode cX8_sighting 55 = .ok (.iload_n 1, 1) := by decide +kernel
theorem dX8_sighting_56 : decode cX8_sighting 56 = .ok (.imul, 1) := by decide +kernel
theorem dX8_sighting_57 : decode cX8_sighting 57 = .ok (.iadd, 1) := by decide +kernel
theorem dX8_sighting_58 : decode cX8_sighting 58 = .ok (.iaload, 1) := by decide +kernel
theorem dX8_sighting_59 : decode cX8_sighting 59 = .ok (.istore_n 3, 1) := by decide +kernel
theorem dX8_sighting_60 : decode cX8_sighting 60 = .ok (.aload_n 0, 1) := by decide +kernel
theorem dX8_sighting_61 : decode cX8_sighting 61 = .ok (.getfield 7, 3) := by decide +kernel
theorem dX8_sighting_64 : decode cX8_sighting 64 = .ok (.bipush 27, 2) := by decide +kernel
theorem dX8_sighting_66 : decode cX8_sighting 66 = .ok (.iconst 2, 1) := by decide +kernel
theorem dX8_sighting_67 : decode cX8_sighting 67 = .ok (.iload_n 1, 1) := by decide +kernel
theorem dX8_sighting_68 : decode cX8_sighting 68 = .ok (.imul, 1) := by decide +kernel
theorem dX8_sighting_69 : decode cX8_sighting 69 = .ok (.iadd, 1) := by decide +kernel
theorem dX8_sighting_70 : decode cX8_sighting 70 = .ok (.iaload, 1) := by decide +kernel
theorem dX8_sighting_71 : decode cX8_sighting 71 = .ok (.istore 4, 2) := by decide +kernel
theorem dX8_sighting_73 : decode cX8_sighting 73 = .ok (.iconst 0, 1) := by decide +kernel
theorem dX8_sighting_74 : decode cX8_sighting 74 = .ok (.istore 5, 2) := by decide +kernel
theorem dX8_sighting_76 : decode cX8_sighting 76 = .ok (.iconst 0, 1) := by decide +kernel
theorem dX8_sighting_77 : decode cX8_sighting 77 = .ok (.istore 6, 2) := by decide +kernel
theorem dX8_sighting_79 : decode cX8_sighting 79 = .ok (.iload 6, 2) := by decide +kernel
theorem dX8_sighting_81 : decode cX8_sighting 81 = .ok (.aload_n 0, 1) := by decide +kernel
theorem dX8_sighting_82 : decode cX8_sighting 82 = .ok (.getfield 35, 3) := by decide +kernel
theorem dX8_sighting_85 : decode cX8_sighting 85 = .ok (.if_icmp .ge 31, 3) := by decide +kernel
theorem dX8_sighting_88 : decode cX8_sighting 88 = .ok (.iload 5, 2) := by decide +kernel
theorem dX8_sighting_90 : decode cX8_sighting 90 = .ok (.aload_n 0, 1) := by decide +kernel
theorem dX8_sighting_91 : decode cX8_sighting 91 = .ok (.iload 6, 2) := by decide +kernel
theorem dX8_sighting_93 : decode cX8_sighting 93 = .ok (.iload_n 3, 1) := by decide +kernel
theorem dX8_sighting_94 : decode cX8_sighting 94 = .ok (.iload 4, 2) := by decide +kernel
theorem dX8_sighting_96 : decode cX8_sighting 96 = .ok (.invokevirtual 73, 3) := by decide +kernel
theorem dX8_sighting_99 : decode cX8_sighting 99 = .ok (.ifCond .lt 7, 3) := by decide +kernel
theorem dX8_sighting_102 : decode cX8_sighting 102 = .ok (.iconst 1, 1) := by decide +kernel
theorem dX8_sighting_103 : decode cX8_sighting 103 = .ok (.goto 4, 3) := by decide +kernel
theorem dX8_sighting_106 : decode cX8_sighting 106 = .ok (.iconst 0, 1) := by decide +kernel
theorem dX8_sighting_107 : decode cX8_sighting 107 = .ok (.iadd, 1) := by decide +kernel
theorem dX8_sighting_108 : decode cX8_sighting 108 = .ok (.istore 5, 2) := by decide +kernel
theorem dX8_sighting_110 : decode cX8_sighting 110 = .ok (.iinc 6 1, 3) := by decide +kernel
theorem dX8_sighting_113 : decode cX8_sighting 113 = .ok (.goto (-34), 3) := by decide +kernel
theorem dX8_sighting_116 : decode cX8_sighting 116 = .ok (.iload_n 2, 1) := by decide +kernel
theorem dX8_sighting_117 : decode cX8_sighting 117 = .ok (.ifCond .ne 7, 3) := by decide +kernel
theorem dX8_sighting_120 : decode cX8_sighting 120 = .ok (.iload_n 3, 1) := by decide +kernel
theorem dX8_sighting_121 : decode cX8_sighting 121 = .ok (.goto 15, 3) := by decide +kernel
theorem dX8_sighting_124 : decode cX8_sighting 124 = .ok (.iload_n 2, 1) := by decide +kernel
theorem dX8_sighting_125 : decode cX8_sighting 125 = .ok (.iconst 1, 1) := by decide +kernel
theorem dX8_sighting_126 : decode cX8_sighting 126 = .ok (.if_icmp .ne 8, 3) := by decide +kernel
theorem dX8_sighting_129 : decode cX8_sighting 129 = .ok (.iload 4, 2) := by decide +kernel
theorem dX8_sighting_131 : decode cX8_sighting 131 = .ok (.goto 5, 3) := by decide +kernel
theorem dX8_sighting_134 : decode cX8_sighting 134 = .ok (.iload 5, 2) := by decide +kernel
theorem dX8_sighting_136 : decode cX8_sighting 136 = .ok (.ireturn, 1) := by decide +kernel
set_option maxRecDepth 20000 in
theorem ggX8_inBoth_X8_size : GoodIn wsX8_inBoth wsX8_size := goodIn_r _ [6, 1, 7, 8, 9, 5, 10, 11, 12, 13, 14, 15, 16, 17, 18, 19, 20, 21, 22, 23, 24, 25, 26, 27, 28, 29, 30, 31, 32, 33, 34, 35, 36, 37, 38, 39, 40, 41, 42, 43, 44, 45, 46, 47, 48, 49, 50, 51, 52, 53, 54, 55] (by decide +kernel) (by decide +kernel)
set_option maxRecDepth 20000 in
theorem gX8_inBoth_X8_size : GoodIn wsX8_inBoth (wsV RX8 147 RX8 yX8_size wsX8_size) := goodIn_app (goodIn_of _ (by decide +kernel)) ggX8_inBoth_X8_size
set_option maxRecDepth 20000 in
theorem ggX8_inBoth_X8_mark : GoodIn wsX8_inBoth wsX8_mark := goodIn_r _ [10, 11, 1, 12, 13, 14, 5, 15, 16, 17, 18, 19, 20, 21, 22, 23, 24, 25, 26, 27, 28, 29, 30, 31, 32, 33, 34, 35, 36, 37, 38, 39, 40, 41, 42, 43, 44, 45, 46, 47, 48, 49, 50, 51, 52, 53, 54, 55] (by decide +kernel) (by decide +kernel)
set_option maxRecDepth 20000 in
theorem gX8_inBoth_X8_mark : GoodIn wsX8_inBoth (wsV RX8 70 RX8 yX8_mark wsX8_mark) := goodIn_app (goodIn_of _ (by decide +kernel)) ggX8_inBoth_X8_mark
theorem dX8_inBoth_0 : decode cX8_inBoth 0 = .ok (.aload_n 0, 1) := by decide +kernel
theorem dX8_inBoth_1 : decode cX8_inBoth 1 = .ok (.iload_n 2, 1) := by decide +kernel
theorem dX8_inBoth_2 : decode cX8_inBoth 2 = .ok (.invokevirtual 147, 3) := by decide +kernel
theorem dX8_inBoth_5 : decode cX8_inBoth 5 = .ok (.istore_n 3, 1) := by decide +kernel
theorem dX8_inBoth_6 : decode cX8_inBoth 6 = .ok (.aload_n 0, 1) := by decide +kernel
theorem dX8_inBoth_7 : decode cX8_inBoth 7 = .ok (.dup, 1) := by decide +kernel
theorem dX8_inBoth_8 : decode cX8_inBoth 8 = .ok (.getfield 67, 3) := by decide +kernel
theorem dX8_inBoth_11 : decode cX8_inBoth 11 = .ok (.iconst 1, 1) := by decide +kernel
theorem dX8_inBoth_12 : decode cX8_inBoth 12 = .ok (.iadd, 1) := by decide +kernel
theorem dX8_inBoth_13 : decode cX8_inBoth 13 = .ok (.putfield 67, 3) := by decide +kernel
theorem dX8_inBoth_16 : decode cX8_inBoth 16 = .ok (.aload_n 0, 1) := by decide +kernel
theorem dX8_inBoth_17 : decode cX8_inBoth 17 = .ok (.iload_n 1, 1) := by decide +kernel
theorem dX8_inBoth_18 : decode cX8_inBoth 18 = .ok (.invokevirtual 70, 3) := by decide +kernel
theorem dX8_inBoth_21 : decode cX8_inBoth 21 = .ok (.istore 4, 2) := by decide +kernel
theorem dX8_inBoth_23 : decode cX8_inBoth 23 = .ok (.iload 4, 2) := by decide +kernel
theorem dX8_inBoth_25 : decode cX8_inBoth 25 = .ok (.aload_n 0, 1) := by decide +kernel
theorem dX8_inBoth_26 : decode cX8_inBoth 26 = .ok (.iload_n 2, 1) := by decide +kernel
theorem dX8_inBoth_27 : decode cX8_inBoth 27 = .ok (.invokevirtual 70, 3) := by decide +kernel
theorem dX8_inBoth_30 : decode cX8_inBoth 30 = .ok (.iadd, 1) := by decide +kernel
theorem dX8_inBoth_31 : decode cX8_inBoth 31 = .ok (.istore 5, 2) := by decide +kernel
theorem dX8_inBoth_33 : decode cX8_inBoth 33 = .ok (.iload 4, 2) := by decide +kernel
theorem dX8_inBoth_35 : decode cX8_inBoth 35 = .ok (.iload_n 3, 1) := by decide +kernel
theorem dX8_inBoth_36 : decode cX8_inBoth 36 = .ok (.iadd, 1) := by decide +kernel
theorem dX8_inBoth_37 : decode cX8_inBoth 37 = .ok (.iload 5, 2) := by decide +kernel
theorem dX8_inBoth_39 : decode cX8_inBoth 39 = .ok (.isub, 1) := by decide +kernel
theorem dX8_inBoth_40 : decode cX8_inBoth 40 = .ok (.ireturn, 1) := by decide +kernel
set_option maxRecDepth 20000 in
theorem ggX8_common__X8_isLayer : GoodIn wsX8_common_ wsX8_isLayer := goodIn_r _ [6, 7, 8, 9, 5, 10, 56, 57, 58, 59, 60, 61, 62, 63, 64, 65, 66, 67, 68, 69, 70, 71, 72] (by decide +kernel) (by decide +kernel)
set_option maxRecDepth 20000 in
theorem gX8_common__X8_isLayer : GoodIn wsX8_common_ (wsV RX8 138 RX8 yX8_isLayer wsX8_isLayer) := goodIn_app (goodIn_of _ (by decide +kernel)) ggX8_common__X8_isLayer
set_option maxRecDepth 20000 in
theorem ggX8_common__X8_refused : GoodIn wsX8_common_ wsX8_refused := goodIn_r _ [14, 1, 56, 57, 58, 59, 60, 61, 62, 63, 64, 65, 66, 67, 68, 69, 70, 71, 72] (by decide +kernel) (by decide +kernel)
set_option maxRecDepth 20000 in
theorem gX8_common__X8_refused : GoodIn wsX8_common_ (wsV RX8 83 RX8 yX8_refused wsX8_refused) := goodIn_app (goodIn_of _ (by decide +kernel)) ggX8_common__X8_refused
set_option maxRecDepth 20000 in
theorem ggX8_common__X8_inBoth : GoodIn wsX8_common_ wsX8_inBoth := goodIn_r _ [18, 19, 20, 21, 22, 5, 23, 24, 25, 26, 27, 28, 29, 30, 31, 32, 33, 34, 35, 36, 37, 38, 39, 40, 41, 42, 43, 44, 45, 46, 47, 48, 49, 50, 51, 52, 53, 54, 55, 56, 57, 58, 59, 60, 61, 62, 63, 64, 65, 66, 67, 68, 69, 70, 71, 72] (by decide +kernel) (by decide +kernel)
set_option maxRecDepth 20000 in
theorem gX8_common__X8_inBoth : GoodIn wsX8_common_ (wsV RX8 168 RX8 yX8_inBoth wsX8_inBoth) := goodIn_app (goodIn_of _ (by decide +kernel)) ggX8_common__X8_inBoth
theorem dX8_common__0 : decode cX8_common_ 0 = .ok (.aload_n 0, 1) := by decide +kernel
theorem dX8_common__1 : decode cX8_common_ 1 = .ok (.iconst 0, 1) := by decide +kernel
theorem dX8_common__2 : decode cX8_common_ 2 = .ok (.putfield 31, 3) := by decide +kernel
theorem dX8_common__5 : decode cX8_common_ 5 = .ok (.aload_n 0, 1) := by decide +kernel
theorem dX8_common__6 : decode cX8_common_ 6 = .ok (.iload_n 1, 1) := by decide +kernel
theorem dX8_common__7 : decode cX8_common_ 7 = .ok (.invokevirtual 138, 3) := by decide +kernel
theorem dX8_common__10 : decode cX8_common_ 10 = .ok (.ifCond .eq 11, 3) := by decide +kernel
theorem dX8_common__13 : decode cX8_common_ 13 = .ok (.aload_n 0, 1) := by decide +kernel
theorem dX8_common__14 : decode cX8_common_ 14 = .ok (.iload_n 2, 1) := by decide +kernel
theorem dX8_common__15 : decode cX8_common_ 15 = .ok (.invokevirtual 138, 3) := by decide +kernel
theorem dX8_common__18 : decode cX8_common_ 18 = .ok (.ifCond .ne 9, 3) := by decide +kernel
theorem dX8_common__21 : decode cX8_common_ 21 = .ok (.aload_n 0, 1) := by decide +kernel
theorem dX8_common__22 : decode cX8_common_ 22 = .ok (.iconst 1, 1) := by decide +kernel
theorem dX8_common__23 : decode cX8_common_ 23 = .ok (.invokevirtual 83, 3) := by decide +kernel
theorem dX8_common__26 : decode cX8_common_ 26 = .ok (.ireturn, 1) := by decide +kernel
theorem dX8_common__27 : decode cX8_common_ 27 = .ok (.aload_n 0, 1) := by decide +kernel
theorem dX8_common__28 : decode cX8_common_ 28 = .ok (.iload_n 1, 1) := by decide +kernel
theorem dX8_common__29 : decode cX8_common_ 29 = .ok (.iload_n 2, 1) := by decide +kernel
theorem dX8_common__30 : decode cX8_common_ 30 = .ok (.invokevirtual 168, 3) := by decide +kernel
theorem dX8_common__33 : decode cX8_common_ 33 = .ok (.ireturn, 1) := by decide +kernel
set_option maxRecDepth 20000 in
theorem ggX8_meet_X8_isLayer : GoodIn wsX8_meet wsX8_isLayer := goodIn_r _ [6, 7, 8, 9, 5, 10, 34, 35, 36, 37, 38, 39, 40, 41, 42, 43, 44, 45, 46, 47, 48, 49, 50] (by decide +kernel) (by decide +kernel)
set_option maxRecDepth 20000 in
theorem gX8_meet_X8_isLayer : GoodIn wsX8_meet (wsV RX8 138 RX8 yX8_isLayer wsX8_isLayer) := goodIn_app (goodIn_of _ (by decide +kernel)) ggX8_meet_X8_isLayer
set_option maxRecDepth 20000 in
theorem ggX8_meet_X8_refused : GoodIn wsX8_meet wsX8_refused := goodIn_r _ [14, 1, 34, 35, 36, 37, 38, 39, 40, 41, 42, 43, 44, 45, 46, 47, 48, 49, 50] (by decide +kernel) (by decide +kernel)
set_option maxRecDepth 20000 in
theorem gX8_meet_X8_refused : GoodIn wsX8_meet (wsV RX8 83 RX8 yX8_refused wsX8_refused) := goodIn_app (goodIn_of _ (by decide +kernel)) ggX8_meet_X8_refused
set_option maxRecDepth 20000 in
theorem ggX8_meet_X8_wheel : GoodIn wsX8_meet wsX8_wheel := goodIn_r _ [18, 19, 34, 35, 36, 37, 38, 39, 40, 41, 42, 43, 44, 45, 46, 47, 48, 49, 50] (by decide +kernel) (by decide +kernel)
set_option maxRecDepth 20000 in
theorem gX8_meet_X8_wheel : GoodIn wsX8_meet (wsV RX8 42 RX8 yX8_wheel wsX8_wheel) := goodIn_app (goodIn_of _ (by decide +kernel)) ggX8_meet_X8_wheel
set_option maxRecDepth 20000 in
theorem ggX8_meet_X8_divisor : GoodIn wsX8_meet wsX8_divisor := goodIn_r _ [22] (by decide +kernel) (by decide +kernel)
set_option maxRecDepth 20000 in
theorem gX8_meet_X8_divisor : GoodIn wsX8_meet (va_wsS RX8 46 yX8_divisor wsX8_divisor) := goodIn_app (goodIn_of _ (by decide +kernel)) ggX8_meet_X8_divisor
set_option maxRecDepth 20000 in
theorem ggX8_meet_X8_start : GoodIn wsX8_meet wsX8_start := goodIn_r _ [26, 19, 34, 35, 36, 37, 38, 39, 40, 41, 42, 43, 44, 45, 46, 47, 48, 49, 50] (by decide +kernel) (by decide +kernel)
set_option maxRecDepth 20000 in
theorem gX8_meet_X8_start : GoodIn wsX8_meet (wsV RX8 57 RX8 yX8_start wsX8_start) := goodIn_app (goodIn_of _ (by decide +kernel)) ggX8_meet_X8_start
set_option maxRecDepth 20000 in
theorem ggX8_meet_X8_radiusAt : GoodIn wsX8_meet wsX8_radiusAt := goodIn_r _ [30, 19, 15, 16, 17, 5, 18, 31, 32, 33, 34, 35, 36, 37, 38, 39, 40, 41, 42, 43, 44, 45, 46, 47, 48, 49, 50] (by decide +kernel) (by decide +kernel)
set_option maxRecDepth 20000 in
theorem gX8_meet_X8_radiusAt : GoodIn wsX8_meet (wsV RX8 60 RX8 yX8_radiusAt wsX8_radiusAt) := goodIn_app (goodIn_of _ (by decide +kernel)) ggX8_meet_X8_radiusAt
theorem dX8_meet_0 : decode cX8_meet 0 = .ok (.aload_n 0, 1) := by decide +kernel
theorem dX8_meet_1 : decode cX8_meet 1 = .ok (.iconst 0, 1) := by decide +kernel
theorem dX8_meet_2 : decode cX8_meet 2 = .ok (.putfield 31, 3) := by decide +kernel
theorem dX8_meet_5 : decode cX8_meet 5 = .ok (.aload_n 0, 1) := by decide +kernel
theorem dX8_meet_6 : decode cX8_meet 6 = .ok (.iload_n 1, 1) := by decide +kernel
theorem dX8_meet_7 : decode cX8_meet 7 = .ok (.invokevirtual 138, 3) := by decide +kernel
theorem dX8_meet_10 : decode cX8_meet 10 = .ok (.ifCond .eq 11, 3) := by decide +kernel
theorem dX8_meet_13 : decode cX8_meet 13 = .ok (.aload_n 0, 1) := by decide +kernel
theorem dX8_meet_14 : decode cX8_meet 14 = .ok (.iload_n 2, 1) := by decide +kernel
theorem dX8_meet_15 : decode cX8_meet 15 = .ok (.invokevirtual 138, 3) := by decide +kernel
theorem dX8_meet_18 : decode cX8_meet 18 = .ok (.ifCond .ne 9, 3) := by decide +kernel
theorem dX8_meet_21 : decode cX8_meet 21 = .ok (.aload_n 0, 1) := by decide +kernel
theorem dX8_meet_22 : decode cX8_meet 22 = .ok (.iconst 1, 1) := by decide +kernel
theorem dX8_meet_23 : decode cX8_meet 23 = .ok (.invokevirtual 83, 3) := by decide +kernel
theorem dX8_meet_26 : decode cX8_meet 26 = .ok (.ireturn, 1) := by decide +kernel
theorem dX8_meet_27 : decode cX8_meet 27 = .ok (.aload_n 0, 1) := by decide +kernel
theorem dX8_meet_28 : decode cX8_meet 28 = .ok (.iload_n 1, 1) := by decide +kernel
theorem dX8_meet_29 : decode cX8_meet 29 = .ok (.invokevirtual 42, 3) := by decide +kernel
theorem dX8_meet_32 : decode cX8_meet 32 = .ok (.aload_n 0, 1) := by decide +kernel
theorem dX8_meet_33 : decode cX8_meet 33 = .ok (.iload_n 1, 1) := by decide +kernel
theorem dX8_meet_34 : decode cX8_meet 34 = .ok (.invokevirtual 42, 3) := by decide +kernel
theorem dX8_meet_37 : decode cX8_meet 37 = .ok (.aload_n 0, 1) := by decide +kernel
theorem dX8_meet_38 : decode cX8_meet 38 = .ok (.iload_n 2, 1) := by decide +kernel
theorem dX8_meet_39 : decode cX8_meet 39 = .ok (.invokevirtual 42, 3) := by decide +kernel
theorem dX8_meet_42 : decode cX8_meet 42 = .ok (.invokestatic 46, 3) := by decide +kernel
theorem dX8_meet_45 : decode cX8_meet 45 = .ok (.idiv, 1) := by decide +kernel
theorem dX8_meet_46 : decode cX8_meet 46 = .ok (.aload_n 0, 1) := by decide +kernel
theorem dX8_meet_47 : decode cX8_meet 47 = .ok (.iload_n 2, 1) := by decide +kernel
theorem dX8_meet_48 : decode cX8_meet 48 = .ok (.invokevirtual 42, 3) := by decide +kernel
theorem dX8_meet_51 : decode cX8_meet 51 = .ok (.imul, 1) := by decide +kernel
theorem dX8_meet_52 : decode cX8_meet 52 = .ok (.istore_n 3, 1) := by decide +kernel
theorem dX8_meet_53 : decode cX8_meet 53 = .ok (.iconst 0, 1) := by decide +kernel
theorem dX8_meet_54 : decode cX8_meet 54 = .ok (.istore 4, 2) := by decide +kernel
theorem dX8_meet_56 : decode cX8_meet 56 = .ok (.iload 4, 2) := by decide +kernel
theorem dX8_meet_58 : decode cX8_meet 58 = .ok (.iload_n 3, 1) := by decide +kernel
theorem dX8_meet_59 : decode cX8_meet 59 = .ok (.if_icmp .ge 44, 3) := by decide +kernel
theorem dX8_meet_62 : decode cX8_meet 62 = .ok (.aload_n 0, 1) := by decide +kernel
theorem dX8_meet_63 : decode cX8_meet 63 = .ok (.iload_n 1, 1) := by decide +kernel
theorem dX8_meet_64 : decode cX8_meet 64 = .ok (.invokevirtual 57, 3) := by decide +kernel
theorem dX8_meet_67 : decode cX8_meet 67 = .ok (.aload_n 0, 1) := by decide +kernel
theorem dX8_meet_68 : decode cX8_meet 68 = .ok (.iload_n 2, 1) := by decide +kernel
theorem dX8_meet_69 : decode cX8_meet 69 = .ok (.invokevirtual 57, 3) := by decide +kernel
theorem dX8_meet_72 : decode cX8_meet 72 = .ok (.if_icmp .ne 31, 3) := by decide +kernel
theorem dX8_meet_75 : decode cX8_meet 75 = .ok (.aload_n 0, 1) := by decide +kernel
theorem dX8_meet_76 : decode cX8_meet 76 = .ok (.iload_n 1, 1) := by decide +kernel
theorem dX8_meet_77 : decode cX8_meet 77 = .ok (.iload 4, 2) := by decide +kernel
theorem dX8_meet_79 : decode cX8_meet 79 = .ok (.i2l, 1) := by decide +kernel
theorem dX8_meet_80 : decode cX8_meet 80 = .ok (.invokevirtual 60, 3) := by decide +kernel
theorem dX8_meet_83 : decode cX8_meet 83 = .ok (.aload_n 0, 1) := by decide +kernel
theorem dX8_meet_84 : decode cX8_meet 84 = .ok (.iload_n 2, 1) := by decide +kernel
theorem dX8_meet_85 : decode cX8_meet 85 = .ok (.iload 4, 2) := by decide +kernel
theorem dX8_meet_87 : decode cX8_meet 87 = .ok (.i2l, 1) := by decide +kernel
theorem dX8_meet_88 : decode cX8_meet 88 = .ok (.invokevirtual 60, 3) := by decide +kernel
theorem dX8_meet_91 : decode cX8_meet 91 = .ok (.if_icmp .ne 6, 3) := by decide +kernel
theorem dX8_meet_94 : decode cX8_meet 94 = .ok (.iload 4, 2) := by decide +kernel
theorem dX8_meet_96 : decode cX8_meet 96 = .ok (.ireturn, 1) := by decide +kernel
theorem dX8_meet_97 : decode cX8_meet 97 = .ok (.iinc 4 1, 3) := by decide +kernel
theorem dX8_meet_100 : decode cX8_meet 100 = .ok (.goto (-44), 3) := by decide +kernel
theorem dX8_meet_103 : decode cX8_meet 103 = .ok (.bipush (-9), 2) := by decide +kernel
theorem dX8_meet_105 : decode cX8_meet 105 = .ok (.ireturn, 1) := by decide +kernel
set_option maxRecDepth 20000 in
theorem ggX8_isMarked_X8_period : GoodIn wsX8_isMarked wsX8_period := goodIn_r _ [7, 8, 9, 10, 11, 6, 12, 13, 14, 15, 39, 40, 41, 42, 43, 44, 45, 46, 47, 48, 49, 50, 51, 52, 53, 54, 55] (by decide +kernel) (by decide +kernel)
set_option maxRecDepth 20000 in
theorem gX8_isMarked_X8_period : GoodIn wsX8_isMarked (wsV RX8 50 RX8 yX8_period wsX8_period) := goodIn_app (goodIn_of _ (by decide +kernel)) ggX8_isMarked_X8_period
set_option maxRecDepth 20000 in
theorem ggX8_isMarked_X8_spot : GoodIn wsX8_isMarked wsX8_spot := goodIn_r _ [19, 8, 20, 21, 22, 6, 23, 24, 25, 26, 27, 9, 10, 11, 12, 28, 29, 30, 39, 40, 41, 42, 43, 44, 45, 46, 47, 48, 49, 50, 51, 52, 53, 54, 55] (by decide +kernel) (by decide +kernel)
set_option maxRecDepth 20000 in
theorem gX8_isMarked_X8_spot : GoodIn wsX8_isMarked (wsV RX8 64 RX8 yX8_spot wsX8_spot) := goodIn_app (goodIn_of _ (by decide +kernel)) ggX8_isMarked_X8_spot
set_option maxRecDepth 20000 in
theorem ggX8_isMarked_X8_size : GoodIn wsX8_isMarked wsX8_size := goodIn_r _ [34, 1, 35, 36, 37, 6, 38, 2, 3, 4, 5, 7, 8, 9, 10, 11, 12, 13, 14, 15, 16, 17, 18, 19, 20, 21, 22, 23, 24, 25, 26, 27, 28, 29, 30, 39, 40, 41, 42, 43, 44, 45, 46, 47, 48, 49, 50, 51, 52, 53, 54, 55] (by decide +kernel) (by decide +kernel)
set_option maxRecDepth 20000 in
theorem gX8_isMarked_X8_size : GoodIn wsX8_isMarked (wsV RX8 147 RX8 yX8_size wsX8_size) := goodIn_app (goodIn_of _ (by decide +kernel)) ggX8_isMarked_X8_size
theorem dX8_isMarked_0 : decode cX8_isMarked 0 = .ok (.aload_n 0, 1) := by decide +kernel
theorem dX8_isMarked_1 : decode cX8_isMarked 1 = .ok (.getfield 67, 3) := by decide +kernel
theorem dX8_isMarked_4 : decode cX8_isMarked 4 = .ok (.istore_n 3, 1) := by decide +kernel
theorem dX8_isMarked_5 : decode cX8_isMarked 5 = .ok (.aload_n 0, 1) := by decide +kernel
theorem dX8_isMarked_6 : decode cX8_isMarked 6 = .ok (.iload_n 1, 1) := by decide +kernel
theorem dX8_isMarked_7 : decode cX8_isMarked 7 = .ok (.invokevirtual 50, 3) := by decide +kernel
theorem dX8_isMarked_10 : decode cX8_isMarked 10 = .ok (.istore 4, 2) := by decide +kernel
theorem dX8_isMarked_12 : decode cX8_isMarked 12 = .ok (.iconst 0, 1) := by decide +kernel
theorem dX8_isMarked_13 : decode cX8_isMarked 13 = .ok (.istore 5, 2) := by decide +kernel
theorem dX8_isMarked_15 : decode cX8_isMarked 15 = .ok (.iload 5, 2) := by decide +kernel
theorem dX8_isMarked_17 : decode cX8_isMarked 17 = .ok (.iload 4, 2) := by decide +kernel
theorem dX8_isMarked_19 : decode cX8_isMarked 19 = .ok (.if_icmp .ge 27, 3) := by decide +kernel
theorem dX8_isMarked_22 : decode cX8_isMarked 22 = .ok (.aload_n 0, 1) := by decide +kernel
theorem dX8_isMarked_23 : decode cX8_isMarked 23 = .ok (.getfield 13, 3) := by decide +kernel
theorem dX8_isMarked_26 : decode cX8_isMarked 26 = .ok (.aload_n 0, 1) := by decide +kernel
theorem dX8_isMarked_27 : decode cX8_isMarked 27 = .ok (.iload_n 1, 1) := by decide +kernel
theorem dX8_isMarked_28 : decode cX8_isMarked 28 = .ok (.iload 5, 2) := by decide +kernel
theorem dX8_isMarked_30 : decode cX8_isMarked 30 = .ok (.invokevirtual 64, 3) := by decide +kernel
theorem dX8_isMarked_33 : decode cX8_isMarked 33 = .ok (.iaload, 1) := by decide +kernel
theorem dX8_isMarked_34 : decode cX8_isMarked 34 = .ok (.iload_n 3, 1) := by decide +kernel
theorem dX8_isMarked_35 : decode cX8_isMarked 35 = .ok (.if_icmp .eq 5, 3) := by decide +kernel
theorem dX8_isMarked_38 : decode cX8_isMarked 38 = .ok (.iconst 0, 1) := by decide +kernel
theorem dX8_isMarked_39 : decode cX8_isMarked 39 = .ok (.ireturn, 1) := by decide +kernel
theorem dX8_isMarked_40 : decode cX8_isMarked 40 = .ok (.iinc 5 1, 3) := by decide +kernel
theorem dX8_isMarked_43 : decode cX8_isMarked 43 = .ok (.goto (-28), 3) := by decide +kernel
theorem dX8_isMarked_46 : decode cX8_isMarked 46 = .ok (.aload_n 0, 1) := by decide +kernel
theorem dX8_isMarked_47 : decode cX8_isMarked 47 = .ok (.iload_n 1, 1) := by decide +kernel
theorem dX8_isMarked_48 : decode cX8_isMarked 48 = .ok (.invokevirtual 147, 3) := by decide +kernel
theorem dX8_isMarked_51 : decode cX8_isMarked 51 = .ok (.iload_n 2, 1) := by decide +kernel
theorem dX8_isMarked_52 : decode cX8_isMarked 52 = .ok (.if_icmp .ne 7, 3) := by decide +kernel
theorem dX8_isMarked_55 : decode cX8_isMarked 55 = .ok (.iconst 1, 1) := by decide +kernel
theorem dX8_isMarked_56 : decode cX8_isMarked 56 = .ok (.goto 4, 3) := by decide +kernel
theorem dX8_isMarked_59 : decode cX8_isMarked 59 = .ok (.iconst 0, 1) := by decide +kernel
theorem dX8_isMarked_60 : decode cX8_isMarked 60 = .ok (.ireturn, 1) := by decide +kernel
set_option maxRecDepth 20000 in
theorem ggX8_turnedBy_X8_mark : GoodIn wsX8_turnedBy wsX8_mark := goodIn_r _ [7, 8, 2, 9, 10, 11, 6, 12, 1, 13, 14, 15, 16, 17, 18, 19, 20, 21, 22, 23, 24, 25, 26, 27, 28, 29, 30, 31, 32, 33, 34, 43, 44, 45, 46, 47, 48, 49, 50, 51, 52, 53, 54, 55, 56, 57, 58, 59] (by decide +kernel) (by decide +kernel)
set_option maxRecDepth 20000 in
theorem gX8_turnedBy_X8_mark : GoodIn wsX8_turnedBy (wsV RX8 70 RX8 yX8_mark wsX8_mark) := goodIn_app (goodIn_of _ (by decide +kernel)) ggX8_turnedBy_X8_mark
set_option maxRecDepth 20000 in
theorem ggX8_turnedBy_X8_isMarked : GoodIn wsX8_turnedBy wsX8_isMarked := goodIn_r _ [38, 2, 8, 9, 10, 11, 6, 12, 1, 13, 14, 15, 16, 17, 18, 19, 20, 21, 22, 23, 24, 25, 26, 27, 28, 29, 30, 31, 32, 33, 34, 39, 40, 41, 42, 3, 4, 5, 7, 43, 44, 45, 46, 47, 48, 49, 50, 51, 52, 53, 54, 55, 56, 57, 58, 59] (by decide +kernel) (by decide +kernel)
set_option maxRecDepth 20000 in
theorem gX8_turnedBy_X8_isMarked : GoodIn wsX8_turnedBy (wsV RX8 171 RX8 yX8_isMarked wsX8_isMarked) := goodIn_app (goodIn_of _ (by decide +kernel)) ggX8_turnedBy_X8_isMarked
theorem dX8_turnedBy_0 : decode cX8_turnedBy 0 = .ok (.iconst 4, 1) := by decide +kernel
theorem dX8_turnedBy_1 : decode cX8_turnedBy 1 = .ok (.iload_n 1, 1) := by decide +kernel
theorem dX8_turnedBy_2 : decode cX8_turnedBy 2 = .ok (.imul, 1) := by decide +kernel
theorem dX8_turnedBy_3 : decode cX8_turnedBy 3 = .ok (.iconst 4, 1) := by decide +kernel
theorem dX8_turnedBy_4 : decode cX8_turnedBy 4 = .ok (.iadd, 1) := by decide +kernel
theorem dX8_turnedBy_5 : decode cX8_turnedBy 5 = .ok (.istore_n 3, 1) := by decide +kernel
theorem dX8_turnedBy_6 : decode cX8_turnedBy 6 = .ok (.aload_n 0, 1) := by decide +kernel
theorem dX8_turnedBy_7 : decode cX8_turnedBy 7 = .ok (.getfield 7, 3) := by decide +kernel
theorem dX8_turnedBy_10 : decode cX8_turnedBy 10 = .ok (.iload_n 3, 1) := by decide +kernel
theorem dX8_turnedBy_11 : decode cX8_turnedBy 11 = .ok (.iaload, 1) := by decide +kernel
theorem dX8_turnedBy_12 : decode cX8_turnedBy 12 = .ok (.istore 4, 2) := by decide +kernel
theorem dX8_turnedBy_14 : decode cX8_turnedBy 14 = .ok (.bipush (-9), 2) := by decide +kernel
theorem dX8_turnedBy_16 : decode cX8_turnedBy 16 = .ok (.istore 5, 2) := by decide +kernel
theorem dX8_turnedBy_18 : decode cX8_turnedBy 18 = .ok (.iconst 0, 1) := by decide +kernel
theorem dX8_turnedBy_19 : decode cX8_turnedBy 19 = .ok (.istore 6, 2) := by decide +kernel
theorem dX8_turnedBy_21 : decode cX8_turnedBy 21 = .ok (.iload 6, 2) := by decide +kernel
theorem dX8_turnedBy_23 : decode cX8_turnedBy 23 = .ok (.aload_n 0, 1) := by decide +kernel
theorem dX8_turnedBy_24 : decode cX8_turnedBy 24 = .ok (.getfield 7, 3) := by decide +kernel
theorem dX8_turnedBy_27 : decode cX8_turnedBy 27 = .ok (.iconst 0, 1) := by decide +kernel
theorem dX8_turnedBy_28 : decode cX8_turnedBy 28 = .ok (.iaload, 1) := by decide +kernel
theorem dX8_turnedBy_29 : decode cX8_turnedBy 29 = .ok (.if_icmp .ge 78, 3) := by decide +kernel
theorem dX8_turnedBy_32 : decode cX8_turnedBy 32 = .ok (.iload 5, 2) := by decide +kernel
theorem dX8_turnedBy_34 : decode cX8_turnedBy 34 = .ok (.bipush (-9), 2) := by decide +kernel
theorem dX8_turnedBy_36 : decode cX8_turnedBy 36 = .ok (.if_icmp .ne 71, 3) := by decide +kernel
theorem dX8_turnedBy_39 : decode cX8_turnedBy 39 = .ok (.aload_n 0, 1) := by decide +kernel
theorem dX8_turnedBy_40 : decode cX8_turnedBy 40 = .ok (.getfield 7, 3) := by decide +kernel
theorem dX8_turnedBy_43 : decode cX8_turnedBy 43 = .ok (.iload_n 3, 1) := by decide +kernel
theorem dX8_turnedBy_44 : decode cX8_turnedBy 44 = .ok (.iload 4, 2) := by decide +kernel
theorem dX8_turnedBy_46 : decode cX8_turnedBy 46 = .ok (.iastore, 1) := by decide +kernel
theorem dX8_turnedBy_47 : decode cX8_turnedBy 47 = .ok (.aload_n 0, 1) := by decide +kernel
theorem dX8_turnedBy_48 : decode cX8_turnedBy 48 = .ok (.dup, 1) := by decide +kernel
theorem dX8_turnedBy_49 : decode cX8_turnedBy 49 = .ok (.getfield 67, 3) := by decide +kernel
theorem dX8_turnedBy_52 : decode cX8_turnedBy 52 = .ok (.iconst 1, 1) := by decide +kernel
theorem dX8_turnedBy_53 : decode cX8_turnedBy 53 = .ok (.iadd, 1) := by decide +kernel
theorem dX8_turnedBy_54 : decode cX8_turnedBy 54 = .ok (.putfield 67, 3) := by decide +kernel
theorem dX8_turnedBy_57 : decode cX8_turnedBy 57 = .ok (.aload_n 0, 1) := by decide +kernel
theorem dX8_turnedBy_58 : decode cX8_turnedBy 58 = .ok (.iload_n 2, 1) := by decide +kernel
theorem dX8_turnedBy_59 : decode cX8_turnedBy 59 = .ok (.invokevirtual 70, 3) := by decide +kernel
theorem dX8_turnedBy_62 : decode cX8_turnedBy 62 = .ok (.istore 7, 2) := by decide +kernel
theorem dX8_turnedBy_64 : decode cX8_turnedBy 64 = .ok (.aload_n 0, 1) := by decide +kernel
theorem dX8_turnedBy_65 : decode cX8_turnedBy 65 = .ok (.getfield 7, 3) := by decide +kernel
theorem dX8_turnedBy_68 : decode cX8_turnedBy 68 = .ok (.iload_n 3, 1) := by decide +kernel
theorem dX8_turnedBy_69 : decode cX8_turnedBy 69 = .ok (.iload 4, 2) := by decide +kernel
theorem dX8_turnedBy_71 : decode cX8_turnedBy 71 = .ok (.iload 6, 2) := by decide +kernel
theorem dX8_turnedBy_73 : decode cX8_turnedBy 73 = .ok (.iadd, 1) := by decide +kernel
theorem dX8_turnedBy_74 : decode cX8_turnedBy 74 = .ok (.aload_n 0, 1) := by decide +kernel
theorem dX8_turnedBy_75 : decode cX8_turnedBy 75 = .ok (.getfield 7, 3) := by decide +kernel
theorem dX8_turnedBy_78 : decode cX8_turnedBy 78 = .ok (.iconst 0, 1) := by decide +kernel
theorem dX8_turnedBy_79 : decode cX8_turnedBy 79 = .ok (.iaload, 1) := by decide +kernel
theorem dX8_turnedBy_80 : decode cX8_turnedBy 80 = .ok (.irem, 1) := by decide +kernel
theorem dX8_turnedBy_81 : decode cX8_turnedBy 81 = .ok (.iastore, 1) := by decide +kernel
theorem dX8_turnedBy_82 : decode cX8_turnedBy 82 = .ok (.aload_n 0, 1) := by decide +kernel
theorem dX8_turnedBy_83 : decode cX8_turnedBy 83 = .ok (.iload_n 1, 1) := by decide +kernel
theorem dX8_turnedBy_84 : decode cX8_turnedBy 84 = .ok (.iload 7, 2) := by decide +kernel
theorem dX8_turnedBy_86 : decode cX8_turnedBy 86 = .ok (.invokevirtual 171, 3) := by decide +kernel
theorem dX8_turnedBy_89 : decode cX8_turnedBy 89 = .ok (.ifCond .eq 8, 3) := by decide +kernel
theorem dX8_turnedBy_92 : decode cX8_turnedBy 92 = .ok (.iload 6, 2) := by decide +kernel
theorem dX8_turnedBy_94 : decode cX8_turnedBy 94 = .ok (.goto 5, 3) := by decide +kernel
theorem dX8_turnedBy_97 : decode cX8_turnedBy 97 = .ok (.bipush (-9), 2) := by decide +kernel
theorem dX8_turnedBy_99 : decode cX8_turnedBy 99 = .ok (.istore 5, 2) := by decide +kernel
theorem dX8_turnedBy_101 : decode cX8_turnedBy 101 = .ok (.iinc 6 1, 3) := by decide +kernel
theorem dX8_turnedBy_104 : decode cX8_turnedBy 104 = .ok (.goto (-83), 3) := by decide +kernel
theorem dX8_turnedBy_107 : decode cX8_turnedBy 107 = .ok (.aload_n 0, 1) := by decide +kernel
theorem dX8_turnedBy_108 : decode cX8_turnedBy 108 = .ok (.getfield 7, 3) := by decide +kernel
theorem dX8_turnedBy_111 : decode cX8_turnedBy 111 = .ok (.iload_n 3, 1) := by decide +kernel
theorem dX8_turnedBy_112 : decode cX8_turnedBy 112 = .ok (.iload 4, 2) := by decide +kernel
theorem dX8_turnedBy_114 : decode cX8_turnedBy 114 = .ok (.iastore, 1) := by decide +kernel
theorem dX8_turnedBy_115 : decode cX8_turnedBy 115 = .ok (.iload 5, 2) := by decide +kernel
theorem dX8_turnedBy_117 : decode cX8_turnedBy 117 = .ok (.ireturn, 1) := by decide +kernel
set_option maxRecDepth 20000 in
theorem ggX8_turned_X8_isLayer : GoodIn wsX8_turned wsX8_isLayer := goodIn_r _ [6, 7, 8, 9, 5, 10, 60, 61, 62, 63, 64, 65, 66, 67, 68, 69, 70, 71, 72, 73, 74, 75, 76] (by decide +kernel) (by decide +kernel)
set_option maxRecDepth 20000 in
theorem gX8_turned_X8_isLayer : GoodIn wsX8_turned (wsV RX8 138 RX8 yX8_isLayer wsX8_isLayer) := goodIn_app (goodIn_of _ (by decide +kernel)) ggX8_turned_X8_isLayer
set_option maxRecDepth 20000 in
theorem ggX8_turned_X8_refused : GoodIn wsX8_turned wsX8_refused := goodIn_r _ [14, 1, 60, 61, 62, 63, 64, 65, 66, 67, 68, 69, 70, 71, 72, 73, 74, 75, 76] (by decide +kernel) (by decide +kernel)
set_option maxRecDepth 20000 in
theorem gX8_turned_X8_refused : GoodIn wsX8_turned (wsV RX8 83 RX8 yX8_refused wsX8_refused) := goodIn_app (goodIn_of _ (by decide +kernel)) ggX8_turned_X8_refused
set_option maxRecDepth 20000 in
theorem ggX8_turned_X8_turnedBy : GoodIn wsX8_turned wsX8_turnedBy := goodIn_r _ [18, 19, 20, 21, 22, 23, 5, 24, 25, 26, 27, 28, 29, 30, 31, 32, 33, 34, 35, 36, 37, 38, 39, 40, 41, 42, 43, 44, 45, 46, 47, 48, 49, 50, 51, 52, 53, 54, 55, 56, 57, 58, 59, 60, 61, 62, 63, 64, 65, 66, 67, 68, 69, 70, 71, 72, 73, 74, 75, 76] (by decide +kernel) (by decide +kernel)
set_option maxRecDepth 20000 in
theorem gX8_turned_X8_turnedBy : GoodIn wsX8_turned (wsV RX8 174 RX8 yX8_turnedBy wsX8_turnedBy) := goodIn_app (goodIn_of _ (by decide +kernel)) ggX8_turned_X8_turnedBy
theorem dX8_turned_0 : decode cX8_turned 0 = .ok (.aload_n 0, 1) := by decide +kernel
theorem dX8_turned_1 : decode cX8_turned 1 = .ok (.iconst 0, 1) := by decide +kernel
theorem dX8_turned_2 : decode cX8_turned 2 = .ok (.putfield 31, 3) := by decide +kernel
theorem dX8_turned_5 : decode cX8_turned 5 = .ok (.aload_n 0, 1) := by decide +kernel
theorem dX8_turned_6 : decode cX8_turned 6 = .ok (.iload_n 1, 1) := by decide +kernel
theorem dX8_turned_7 : decode cX8_turned 7 = .ok (.invokevirtual 138, 3) := by decide +kernel
theorem dX8_turned_10 : decode cX8_turned 10 = .ok (.ifCond .eq 11, 3) := by decide +kernel
theorem dX8_turned_13 : decode cX8_turned 13 = .ok (.aload_n 0, 1) := by decide +kernel
theorem dX8_turned_14 : decode cX8_turned 14 = .ok (.iload_n 2, 1) := by decide +kernel
theorem dX8_turned_15 : decode cX8_turned 15 = .ok (.invokevirtual 138, 3) := by decide +kernel
theorem dX8_turned_18 : decode cX8_turned 18 = .ok (.ifCond .ne 9, 3) := by decide +kernel
theorem dX8_turned_21 : decode cX8_turned 21 = .ok (.aload_n 0, 1) := by decide +kernel
theorem dX8_turned_22 : decode cX8_turned 22 = .ok (.iconst 1, 1) := by decide +kernel
theorem dX8_turned_23 : decode cX8_turned 23 = .ok (.invokevirtual 83, 3) := by decide +kernel
theorem dX8_turned_26 : decode cX8_turned 26 = .ok (.ireturn, 1) := by decide +kernel
theorem dX8_turned_27 : decode cX8_turned 27 = .ok (.aload_n 0, 1) := by decide +kernel
theorem dX8_turned_28 : decode cX8_turned 28 = .ok (.iload_n 1, 1) := by decide +kernel
theorem dX8_turned_29 : decode cX8_turned 29 = .ok (.iload_n 2, 1) := by decide +kernel
theorem dX8_turned_30 : decode cX8_turned 30 = .ok (.invokevirtual 174, 3) := by decide +kernel
theorem dX8_turned_33 : decode cX8_turned 33 = .ok (.ireturn, 1) := by decide +kernel
theorem dX8_store_0 : decode cX8_store 0 = .ok (.aload_n 1, 1) := by decide +kernel
theorem dX8_store_1 : decode cX8_store 1 = .ok (.iload_n 2, 1) := by decide +kernel
theorem dX8_store_2 : decode cX8_store 2 = .ok (.aload_n 0, 1) := by decide +kernel
theorem dX8_store_3 : decode cX8_store 3 = .ok (.getfield 35, 3) := by decide +kernel
theorem dX8_store_6 : decode cX8_store 6 = .ok (.iastore, 1) := by decide +kernel
theorem dX8_store_7 : decode cX8_store 7 = .ok (.iconst 0, 1) := by decide +kernel
theorem dX8_store_8 : decode cX8_store 8 = .ok (.istore_n 3, 1) := by decide +kernel
theorem dX8_store_9 : decode cX8_store 9 = .ok (.iload_n 3, 1) := by decide +kernel
theorem dX8_store_10 : decode cX8_store 10 = .ok (.bipush 42, 2) := by decide +kernel
theorem dX8_store_12 : decode cX8_store 12 = .ok (.if_icmp .ge 22, 3) := by decide +kernel
theorem dX8_store_15 : decode cX8_store 15 = .ok (.aload_n 1, 1) := by decide +kernel
theorem dX8_store_16 : decode cX8_store 16 = .ok (.iload_n 2, 1) := by decide +kernel
theorem dX8_store_17 : decode cX8_store 17 = .ok (.iconst 1, 1) := by decide +kernel
theorem dX8_store_18 : decode cX8_store 18 = .ok (.iadd, 1) := by decide +kernel
theorem dX8_store_19 : decode cX8_store 19 = .ok (.iload_n 3, 1) := by decide +kernel
theorem dX8_store_20 : decode cX8_store 20 = .ok (.iadd, 1) := by decide +kernel
theorem dX8_store_21 : decode cX8_store 21 = .ok (.aload_n 0, 1) := by decide +kernel
theorem dX8_store_22 : decode cX8_store 22 = .ok (.getfield 7, 3) := by decide +kernel
theorem dX8_store_25 : decode cX8_store 25 = .ok (.iload_n 3, 1) := by decide +kernel
theorem dX8_store_26 : decode cX8_store 26 = .ok (.iaload, 1) := by decide +kernel
theorem dX8_store_27 : decode cX8_store 27 = .ok (.iastore, 1) := by decide +kernel
theorem dX8_store_28 : decode cX8_store 28 = .ok (.iinc 3 1, 3) := by decide +kernel
theorem dX8_store_31 : decode cX8_store 31 = .ok (.goto (-22), 3) := by decide +kernel
theorem dX8_store_34 : decode cX8_store 34 = .ok (.return_, 1) := by decide +kernel
theorem dX8_bring_0 : decode cX8_bring 0 = .ok (.aload_n 0, 1) := by decide +kernel
theorem dX8_bring_1 : decode cX8_bring 1 = .ok (.aload_n 1, 1) := by decide +kernel
theorem dX8_bring_2 : decode cX8_bring 2 = .ok (.iload_n 2, 1) := by decide +kernel
theorem dX8_bring_3 : decode cX8_bring 3 = .ok (.iaload, 1) := by decide +kernel
theorem dX8_bring_4 : decode cX8_bring 4 = .ok (.putfield 35, 3) := by decide +kernel
theorem dX8_bring_7 : decode cX8_bring 7 = .ok (.iconst 0, 1) := by decide +kernel
theorem dX8_bring_8 : decode cX8_bring 8 = .ok (.istore_n 3, 1) := by decide +kernel
theorem dX8_bring_9 : decode cX8_bring 9 = .ok (.iload_n 3, 1) := by decide +kernel
theorem dX8_bring_10 : decode cX8_bring 10 = .ok (.bipush 42, 2) := by decide +kernel
theorem dX8_bring_12 : decode cX8_bring 12 = .ok (.if_icmp .ge 22, 3) := by decide +kernel
theorem dX8_bring_15 : decode cX8_bring 15 = .ok (.aload_n 0, 1) := by decide +kernel
theorem dX8_bring_16 : decode cX8_bring 16 = .ok (.getfield 7, 3) := by decide +kernel
theorem dX8_bring_19 : decode cX8_bring 19 = .ok (.iload_n 3, 1) := by decide +kernel
theorem dX8_bring_20 : decode cX8_bring 20 = .ok (.aload_n 1, 1) := by decide +kernel
theorem dX8_bring_21 : decode cX8_bring 21 = .ok (.iload_n 2, 1) := by decide +kernel
theorem dX8_bring_22 : decode cX8_bring 22 = .ok (.iconst 1, 1) := by decide +kernel
theorem dX8_bring_23 : decode cX8_bring 23 = .ok (.iadd, 1) := by decide +kernel
theorem dX8_bring_24 : decode cX8_bring 24 = .ok (.iload_n 3, 1) := by decide +kernel
theorem dX8_bring_25 : decode cX8_bring 25 = .ok (.iadd, 1) := by decide +kernel
theorem dX8_bring_26 : decode cX8_bring 26 = .ok (.iaload, 1) := by decide +kernel
theorem dX8_bring_27 : decode cX8_bring 27 = .ok (.iastore, 1) := by decide +kernel
theorem dX8_bring_28 : decode cX8_bring 28 = .ok (.iinc 3 1, 3) := by decide +kernel
theorem dX8_bring_31 : decode cX8_bring 31 = .ok (.goto (-22), 3) := by decide +kernel
theorem dX8_bring_34 : decode cX8_bring 34 = .ok (.return_, 1) := by decide +kernel
set_option maxRecDepth 20000 in
theorem ggX8_remember_X8_store : GoodIn wsX8_remember wsX8_store := goodIn_r _ [7, 8, 9, 10, 11, 12, 13, 14, 15, 16, 17, 18, 19, 20, 21, 22, 23, 24, 25, 26] (by decide +kernel) (by decide +kernel)
set_option maxRecDepth 20000 in
theorem gX8_remember_X8_store : GoodIn wsX8_remember (wsV RX8 177 RX8 yX8_store wsX8_store) := goodIn_app (goodIn_of _ (by decide +kernel)) ggX8_remember_X8_store
theorem dX8_remember_0 : decode cX8_remember 0 = .ok (.aload_n 0, 1) := by decide +kernel
theorem dX8_remember_1 : decode cX8_remember 1 = .ok (.getfield 111, 3) := by decide +kernel
theorem dX8_remember_4 : decode cX8_remember 4 = .ok (.bipush 14, 2) := by decide +kernel
theorem dX8_remember_6 : decode cX8_remember 6 = .ok (.if_icmp .ne 44, 3) := by decide +kernel
theorem dX8_remember_9 : decode cX8_remember 9 = .ok (.bipush 43, 2) := by decide +kernel
theorem dX8_remember_11 : decode cX8_remember 11 = .ok (.istore_n 1, 1) := by decide +kernel
theorem dX8_remember_12 : decode cX8_remember 12 = .ok (.iload_n 1, 1) := by decide +kernel
theorem dX8_remember_13 : decode cX8_remember 13 = .ok (.sipush 602, 3) := by decide +kernel
theorem dX8_remember_16 : decode cX8_remember 16 = .ok (.if_icmp .ge 24, 3) := by decide +kernel
theorem dX8_remember_19 : decode cX8_remember 19 = .ok (.aload_n 0, 1) := by decide +kernel
theorem dX8_remember_20 : decode cX8_remember 20 = .ok (.getfield 22, 3) := by decide +kernel
theorem dX8_remember_23 : decode cX8_remember 23 = .ok (.iload_n 1, 1) := by decide +kernel
theorem dX8_remember_24 : decode cX8_remember 24 = .ok (.bipush 43, 2) := by decide +kernel
theorem dX8_remember_26 : decode cX8_remember 26 = .ok (.isub, 1) := by decide +kernel
theorem dX8_remember_27 : decode cX8_remember 27 = .ok (.aload_n 0, 1) := by decide +kernel
theorem dX8_remember_28 : decode cX8_remember 28 = .ok (.getfield 22, 3) := by decide +kernel
theorem dX8_remember_31 : decode cX8_remember 31 = .ok (.iload_n 1, 1) := by decide +kernel
theorem dX8_remember_32 : decode cX8_remember 32 = .ok (.iaload, 1) := by decide +kernel
theorem dX8_remember_33 : decode cX8_remember 33 = .ok (.iastore, 1) := by decide +kernel
theorem dX8_remember_34 : decode cX8_remember 34 = .ok (.iinc 1 1, 3) := by decide +kernel
theorem dX8_remember_37 : decode cX8_remember 37 = .ok (.goto (-25), 3) := by decide +kernel
theorem dX8_remember_40 : decode cX8_remember 40 = .ok (.aload_n 0, 1) := by decide +kernel
theorem dX8_remember_41 : decode cX8_remember 41 = .ok (.dup, 1) := by decide +kernel
theorem dX8_remember_42 : decode cX8_remember 42 = .ok (.getfield 111, 3) := by decide +kernel
theorem dX8_remember_45 : decode cX8_remember 45 = .ok (.iconst 1, 1) := by decide +kernel
theorem dX8_remember_46 : decode cX8_remember 46 = .ok (.isub, 1) := by decide +kernel
theorem dX8_remember_47 : decode cX8_remember 47 = .ok (.putfield 111, 3) := by decide +kernel
theorem dX8_remember_50 : decode cX8_remember 50 = .ok (.aload_n 0, 1) := by decide +kernel
theorem dX8_remember_51 : decode cX8_remember 51 = .ok (.aload_n 0, 1) := by decide +kernel
theorem dX8_remember_52 : decode cX8_remember 52 = .ok (.getfield 22, 3) := by decide +kernel
theorem dX8_remember_55 : decode cX8_remember 55 = .ok (.bipush 43, 2) := by decide +kernel
theorem dX8_remember_57 : decode cX8_remember 57 = .ok (.aload_n 0, 1) := by decide +kernel
theorem dX8_remember_58 : decode cX8_remember 58 = .ok (.getfield 111, 3) := by decide +kernel
theorem dX8_remember_61 : decode cX8_remember 61 = .ok (.imul, 1) := by decide +kernel
theorem dX8_remember_62 : decode cX8_remember 62 = .ok (.invokevirtual 177, 3) := by decide +kernel
theorem dX8_remember_65 : decode cX8_remember 65 = .ok (.aload_n 0, 1) := by decide +kernel
theorem dX8_remember_66 : decode cX8_remember 66 = .ok (.dup, 1) := by decide +kernel
theorem dX8_remember_67 : decode cX8_remember 67 = .ok (.getfield 111, 3) := by decide +kernel
theorem dX8_remember_70 : decode cX8_remember 70 = .ok (.iconst 1, 1) := by decide +kernel
theorem dX8_remember_71 : decode cX8_remember 71 = .ok (.iadd, 1) := by decide +kernel
theorem dX8_remember_72 : decode cX8_remember 72 = .ok (.putfield 111, 3) := by decide +kernel
theorem dX8_remember_75 : decode cX8_remember 75 = .ok (.return_, 1) := by decide +kernel
set_option maxRecDepth 20000 in
theorem ggX8_isTeeth_X8_in : GoodIn wsX8_isTeeth wsX8_in := goodIn_r _ [6] (by decide +kernel) (by decide +kernel)
set_option maxRecDepth 20000 in
theorem gX8_isTeeth_X8_in : GoodIn wsX8_isTeeth (va_wsS RX8 38 yX8_in wsX8_in) := goodIn_app (goodIn_of _ (by decide +kernel)) ggX8_isTeeth_X8_in
theorem dX8_isTeeth_0 : decode cX8_isTeeth 0 = .ok (.iload_n 0, 1) := by decide +kernel
theorem dX8_isTeeth_1 : decode cX8_isTeeth 1 = .ok (.i2l, 1) := by decide +kernel
theorem dX8_isTeeth_2 : decode cX8_isTeeth 2 = .ok (.ldc2_w 181, 3) := by decide +kernel
theorem dX8_isTeeth_5 : decode cX8_isTeeth 5 = .ok (.ldc2_w 183, 3) := by decide +kernel
theorem dX8_isTeeth_8 : decode cX8_isTeeth 8 = .ok (.invokestatic 38, 3) := by decide +kernel
theorem dX8_isTeeth_11 : decode cX8_isTeeth 11 = .ok (.ireturn, 1) := by decide +kernel
set_option maxRecDepth 20000 in
theorem ggX8_takeRing_X8_start : GoodIn wsX8_takeRing wsX8_start := goodIn_r _ [7, 1, 8, 9, 10, 11, 12, 13, 14, 15, 16, 17, 18, 19, 20, 21, 22, 23, 24] (by decide +kernel) (by decide +kernel)
set_option maxRecDepth 20000 in
theorem gX8_takeRing_X8_start : GoodIn wsX8_takeRing (wsV RX8 57 RX8 yX8_start wsX8_start) := goodIn_app (goodIn_of _ (by decide +kernel)) ggX8_takeRing_X8_start
theorem dX8_takeRing_0 : decode cX8_takeRing 0 = .ok (.aload_n 0, 1) := by decide +kernel
theorem dX8_takeRing_1 : decode cX8_takeRing 1 = .ok (.getfield 7, 3) := by decide +kernel
theorem dX8_takeRing_4 : decode cX8_takeRing 4 = .ok (.iconst 0, 1) := by decide +kernel
theorem dX8_takeRing_5 : decode cX8_takeRing 5 = .ok (.iaload, 1) := by decide +kernel
theorem dX8_takeRing_6 : decode cX8_takeRing 6 = .ok (.istore_n 2, 1) := by decide +kernel
theorem dX8_takeRing_7 : decode cX8_takeRing 7 = .ok (.aload_n 0, 1) := by decide +kernel
theorem dX8_takeRing_8 : decode cX8_takeRing 8 = .ok (.getfield 7, 3) := by decide +kernel
theorem dX8_takeRing_11 : decode cX8_takeRing 11 = .ok (.iconst 0, 1) := by decide +kernel
theorem dX8_takeRing_12 : decode cX8_takeRing 12 = .ok (.iload_n 1, 1) := by decide +kernel
theorem dX8_takeRing_13 : decode cX8_takeRing 13 = .ok (.iastore, 1) := by decide +kernel
theorem dX8_takeRing_14 : decode cX8_takeRing 14 = .ok (.iconst 0, 1) := by decide +kernel
theorem dX8_takeRing_15 : decode cX8_takeRing 15 = .ok (.istore_n 3, 1) := by decide +kernel
theorem dX8_takeRing_16 : decode cX8_takeRing 16 = .ok (.iload_n 3, 1) := by decide +kernel
theorem dX8_takeRing_17 : decode cX8_takeRing 17 = .ok (.aload_n 0, 1) := by decide +kernel
theorem dX8_takeRing_18 : decode cX8_takeRing 18 = .ok (.getfield 35, 3) := by decide +kernel
theorem dX8_takeRing_21 : decode cX8_takeRing 21 = .ok (.if_icmp .ge 37, 3) := by decide +kernel
theorem dX8_takeRing_24 : decode cX8_takeRing 24 = .ok (.aload_n 0, 1) := by decide +kernel
theorem dX8_takeRing_25 : decode cX8_takeRing 25 = .ok (.getfield 7, 3) := by decide +kernel
theorem dX8_takeRing_28 : decode cX8_takeRing 28 = .ok (.iconst 4, 1) := by decide +kernel
theorem dX8_takeRing_29 : decode cX8_takeRing 29 = .ok (.iload_n 3, 1) := by decide +kernel
theorem dX8_takeRing_30 : decode cX8_takeRing 30 = .ok (.imul, 1) := by decide +kernel
theorem dX8_takeRing_31 : decode cX8_takeRing 31 = .ok (.iconst 4, 1) := by decide +kernel
theorem dX8_takeRing_32 : decode cX8_takeRing 32 = .ok (.iadd, 1) := by decide +kernel
theorem dX8_takeRing_33 : decode cX8_takeRing 33 = .ok (.aload_n 0, 1) := by decide +kernel
theorem dX8_takeRing_34 : decode cX8_takeRing 34 = .ok (.iload_n 3, 1) := by decide +kernel
theorem dX8_takeRing_35 : decode cX8_takeRing 35 = .ok (.invokevirtual 57, 3) := by decide +kernel
theorem dX8_takeRing_38 : decode cX8_takeRing 38 = .ok (.iload_n 1, 1) := by decide +kernel
theorem dX8_takeRing_39 : decode cX8_takeRing 39 = .ok (.if_icmp .ge 11, 3) := by decide +kernel
theorem dX8_takeRing_42 : decode cX8_takeRing 42 = .ok (.aload_n 0, 1) := by decide +kernel
theorem dX8_takeRing_43 : decode cX8_takeRing 43 = .ok (.iload_n 3, 1) := by decide +kernel
theorem dX8_takeRing_44 : decode cX8_takeRing 44 = .ok (.invokevirtual 57, 3) := by decide +kernel
theorem dX8_takeRing_47 : decode cX8_takeRing 47 = .ok (.goto 4, 3) := by decide +kernel
theorem dX8_takeRing_50 : decode cX8_takeRing 50 = .ok (.iconst 0, 1) := by decide +kernel
theorem dX8_takeRing_51 : decode cX8_takeRing 51 = .ok (.iastore, 1) := by decide +kernel
theorem dX8_takeRing_52 : decode cX8_takeRing 52 = .ok (.iinc 3 1, 3) := by decide +kernel
theorem dX8_takeRing_55 : decode cX8_takeRing 55 = .ok (.goto (-39), 3) := by decide +kernel
theorem dX8_takeRing_58 : decode cX8_takeRing 58 = .ok (.iconst 0, 1) := by decide +kernel
theorem dX8_takeRing_59 : decode cX8_takeRing 59 = .ok (.istore_n 3, 1) := by decide +kernel
theorem dX8_takeRing_60 : decode cX8_takeRing 60 = .ok (.iload_n 3, 1) := by decide +kernel
theorem dX8_takeRing_61 : decode cX8_takeRing 61 = .ok (.aload_n 0, 1) := by decide +kernel
theorem dX8_takeRing_62 : decode cX8_takeRing 62 = .ok (.getfield 7, 3) := by decide +kernel
theorem dX8_takeRing_65 : decode cX8_takeRing 65 = .ok (.bipush 25, 2) := by decide +kernel
theorem dX8_takeRing_67 : decode cX8_takeRing 67 = .ok (.iaload, 1) := by decide +kernel
theorem dX8_takeRing_68 : decode cX8_takeRing 68 = .ok (.if_icmp .ge 50, 3) := by decide +kernel
theorem dX8_takeRing_71 : decode cX8_takeRing 71 = .ok (.aload_n 0, 1) := by decide +kernel
theorem dX8_takeRing_72 : decode cX8_takeRing 72 = .ok (.getfield 7, 3) := by decide +kernel
theorem dX8_takeRing_75 : decode cX8_takeRing 75 = .ok (.bipush 26, 2) := by decide +kernel
theorem dX8_takeRing_77 : decode cX8_takeRing 77 = .ok (.iconst 2, 1) := by decide +kernel
theorem dX8_takeRing_78 : decode cX8_takeRing 78 = .ok (.iload_n 3, 1) := by decide +kernel
theorem dX8_takeRing_79 : decode cX8_takeRing 79 = .ok (.imul, 1) := by decide +kernel
theorem dX8_takeRing_80 : decode cX8_takeRing 80 = .ok (.iadd, 1) := by decide +kernel
theorem dX8_takeRing_81 : decode cX8_takeRing 81 = .ok (.aload_n 0, 1) := by decide +kernel
theorem dX8_takeRing_82 : decode cX8_takeRing 82 = .ok (.getfield 7, 3) := by decide +kernel
theorem dX8_takeRing_85 : decode cX8_takeRing 85 = .ok (.bipush 26, 2) := by decide +kernel
theorem dX8_takeRing_87 : decode cX8_takeRing 87 = .ok (.iconst 2, 1) := by decide +kernel
theorem dX8_takeRing_88 : decode cX8_takeRing 88 = .ok (.iload_n 3, 1) := by decide +kernel
theorem dX8_takeRing_89 : decode cX8_takeRing 89 = .ok (.imul, 1) := by decide +kernel
theorem dX8_takeRing_90 : decode cX8_takeRing 90 = .ok (.iadd, 1) := by decide +kernel
theorem dX8_takeRing_91 : decode cX8_takeRing 91 = .ok (.iaload, 1) := by decide +kernel
theorem dX8_takeRing_92 : decode cX8_takeRing 92 = .ok (.iload_n 1, 1) := by decide +kernel
theorem dX8_takeRing_93 : decode cX8_takeRing 93 = .ok (.if_icmp .ge 17, 3) := by decide +kernel
theorem dX8_takeRing_96 : decode cX8_takeRing 96 = .ok (.aload_n 0, 1) := by decide +kernel
theorem dX8_takeRing_97 : decode cX8_takeRing 97 = .ok (.getfield 7, 3) := by decide +kernel
theorem dX8_takeRing_100 : decode cX8_takeRing 100 = .ok (.bipush 26, 2) := by decide +kernel
theorem dX8_takeRing_102 : decode cX8_takeRing 102 = .ok (.iconst 2, 1) := by decide +kernel
theorem dX8_takeRing_103 : decode cX8_takeRing 103 = .ok (.iload_n 3, 1) := by decide +kernel
theorem dX8_takeRing_104 : decode cX8_takeRing 104 = .ok (.imul, 1) := by decide +kernel
theorem dX8_takeRing_105 : decode cX8_takeRing 105 = .ok (.iadd, 1) := by decide +kernel
theorem dX8_takeRing_106 : decode cX8_takeRing 106 = .ok (.iaload, 1) := by decide +kernel
theorem dX8_takeRing_107 : decode cX8_takeRing 107 = .ok (.goto 4, 3) := by decide +kernel
theorem dX8_takeRing_110 : decode cX8_takeRing 110 = .ok (.iconst 0, 1) := by decide +kernel
theorem dX8_takeRing_111 : decode cX8_takeRing 111 = .ok (.iastore, 1) := by decide +kernel
theorem dX8_takeRing_112 : decode cX8_takeRing 112 = .ok (.iinc 3 1, 3) := by decide +kernel
theorem dX8_takeRing_115 : decode cX8_takeRing 115 = .ok (.goto (-55), 3) := by decide +kernel
theorem dX8_takeRing_118 : decode cX8_takeRing 118 = .ok (.iload_n 2, 1) := by decide +kernel
theorem dX8_takeRing_119 : decode cX8_takeRing 119 = .ok (.ireturn, 1) := by decide +kernel
set_option maxRecDepth 20000 in
theorem ggX8_setRing_X8_isTeeth : GoodIn wsX8_setRing wsX8_isTeeth := goodIn_r _ [5, 6, 7, 8, 9, 4, 10] (by decide +kernel) (by decide +kernel)
set_option maxRecDepth 20000 in
theorem gX8_setRing_X8_isTeeth : GoodIn wsX8_setRing (va_wsS RX8 185 yX8_isTeeth wsX8_isTeeth) := goodIn_app (goodIn_of _ (by decide +kernel)) ggX8_setRing_X8_isTeeth
set_option maxRecDepth 20000 in
theorem ggX8_setRing_X8_refused : GoodIn wsX8_setRing wsX8_refused := goodIn_r _ [14, 1, 35, 36, 37, 38, 39, 40, 41, 42, 43, 44, 45, 46, 47, 48, 49, 50, 51] (by decide +kernel) (by decide +kernel)
set_option maxRecDepth 20000 in
theorem gX8_setRing_X8_refused : GoodIn wsX8_setRing (wsV RX8 83 RX8 yX8_refused wsX8_refused) := goodIn_app (goodIn_of _ (by decide +kernel)) ggX8_setRing_X8_refused
set_option maxRecDepth 20000 in
theorem ggX8_setRing_X8_remember : GoodIn wsX8_setRing wsX8_remember := goodIn_r _ [18, 19, 20, 21, 22, 23, 4, 24, 25, 26, 35, 36, 37, 38, 39, 40, 41, 42, 43, 44, 45, 46, 47, 48, 49, 50, 51] (by decide +kernel) (by decide +kernel)
set_option maxRecDepth 20000 in
theorem gX8_setRing_X8_remember : GoodIn wsX8_setRing (wsV RX8 188 RX8 yX8_remember wsX8_remember) := goodIn_app (goodIn_of _ (by decide +kernel)) ggX8_setRing_X8_remember
set_option maxRecDepth 20000 in
theorem ggX8_setRing_X8_takeRing : GoodIn wsX8_setRing wsX8_takeRing := goodIn_r _ [30, 26, 25, 31, 32, 33, 4, 34, 35, 36, 37, 38, 39, 40, 41, 42, 43, 44, 45, 46, 47, 48, 49, 50, 51] (by decide +kernel) (by decide +kernel)
set_option maxRecDepth 20000 in
theorem gX8_setRing_X8_takeRing : GoodIn wsX8_setRing (wsV RX8 191 RX8 yX8_takeRing wsX8_takeRing) := goodIn_app (goodIn_of _ (by decide +kernel)) ggX8_setRing_X8_takeRing
theorem dX8_setRing_0 : decode cX8_setRing 0 = .ok (.aload_n 0, 1) := by decide +kernel
theorem dX8_setRing_1 : decode cX8_setRing 1 = .ok (.iconst 0, 1) := by decide +kernel
theorem dX8_setRing_2 : decode cX8_setRing 2 = .ok (.putfield 31, 3) := by decide +kernel
theorem dX8_setRing_5 : decode cX8_setRing 5 = .ok (.iload_n 1, 1) := by decide +kernel
theorem dX8_setRing_6 : decode cX8_setRing 6 = .ok (.invokestatic 185, 3) := by decide +kernel
theorem dX8_setRing_9 : decode cX8_setRing 9 = .ok (.ifCond .ne 9, 3) := by decide +kernel
theorem dX8_setRing_12 : decode cX8_setRing 12 = .ok (.aload_n 0, 1) := by decide +kernel
theorem dX8_setRing_13 : decode cX8_setRing 13 = .ok (.iconst 1, 1) := by decide +kernel
theorem dX8_setRing_14 : decode cX8_setRing 14 = .ok (.invokevirtual 83, 3) := by decide +kernel
theorem dX8_setRing_17 : decode cX8_setRing 17 = .ok (.ireturn, 1) := by decide +kernel
theorem dX8_setRing_18 : decode cX8_setRing 18 = .ok (.aload_n 0, 1) := by decide +kernel
theorem dX8_setRing_19 : decode cX8_setRing 19 = .ok (.invokevirtual 188, 3) := by decide +kernel
theorem dX8_setRing_22 : decode cX8_setRing 22 = .ok (.aload_n 0, 1) := by decide +kernel
theorem dX8_setRing_23 : decode cX8_setRing 23 = .ok (.iload_n 1, 1) := by decide +kernel
theorem dX8_setRing_24 : decode cX8_setRing 24 = .ok (.invokevirtual 191, 3) := by decide +kernel
theorem dX8_setRing_27 : decode cX8_setRing 27 = .ok (.ireturn, 1) := by decide +kernel
set_option maxRecDepth 20000 in
theorem ggX8_can_X8_in : GoodIn wsX8_can wsX8_in := goodIn_r _ [7] (by decide +kernel) (by decide +kernel)
set_option maxRecDepth 20000 in
theorem gX8_can_X8_in : GoodIn wsX8_can (va_wsS RX8 38 yX8_in wsX8_in) := goodIn_app (goodIn_of _ (by decide +kernel)) ggX8_can_X8_in
set_option maxRecDepth 20000 in
theorem ggX8_can_X8_isAngle : GoodIn wsX8_can wsX8_isAngle := goodIn_r _ [11, 12, 4, 5, 6, 7, 13, 14, 15, 16, 17, 18, 19, 20, 21, 22, 23, 24, 25, 26, 27, 28, 29] (by decide +kernel) (by decide +kernel)
set_option maxRecDepth 20000 in
theorem gX8_can_X8_isAngle : GoodIn wsX8_can (wsV RX8 150 RX8 yX8_isAngle wsX8_isAngle) := goodIn_app (goodIn_of _ (by decide +kernel)) ggX8_can_X8_isAngle
theorem dX8_can_0 : decode cX8_can 0 = .ok (.iload_n 1, 1) := by decide +kernel
theorem dX8_can_1 : decode cX8_can 1 = .ok (.tableswitch 67 0 3 #[31, 43, 51, 61], 31) := by decide +kernel
theorem dX8_can_32 : decode cX8_can 32 = .ok (.iload_n 2, 1) := by decide +kernel
theorem dX8_can_33 : decode cX8_can 33 = .ok (.i2l, 1) := by decide +kernel
theorem dX8_can_34 : decode cX8_can 34 = .ok (.ldc2_w 194, 3) := by decide +kernel
theorem dX8_can_37 : decode cX8_can 37 = .ok (.ldc2_w 196, 3) := by decide +kernel
theorem dX8_can_40 : decode cX8_can 40 = .ok (.invokestatic 38, 3) := by decide +kernel
theorem dX8_can_43 : decode cX8_can 43 = .ok (.ireturn, 1) := by decide +kernel
theorem dX8_can_44 : decode cX8_can 44 = .ok (.iload_n 2, 1) := by decide +kernel
theorem dX8_can_45 : decode cX8_can 45 = .ok (.i2l, 1) := by decide +kernel
theorem dX8_can_46 : decode cX8_can 46 = .ok (.lconst 0, 1) := by decide +kernel
theorem dX8_can_47 : decode cX8_can 47 = .ok (.lconst 1, 1) := by decide +kernel
theorem dX8_can_48 : decode cX8_can 48 = .ok (.invokestatic 38, 3) := by decide +kernel
theorem dX8_can_51 : decode cX8_can 51 = .ok (.ireturn, 1) := by decide +kernel
theorem dX8_can_52 : decode cX8_can 52 = .ok (.iload_n 2, 1) := by decide +kernel
theorem dX8_can_53 : decode cX8_can 53 = .ok (.i2l, 1) := by decide +kernel
theorem dX8_can_54 : decode cX8_can 54 = .ok (.lconst 0, 1) := by decide +kernel
theorem dX8_can_55 : decode cX8_can 55 = .ok (.ldc2_w 198, 3) := by decide +kernel
theorem dX8_can_58 : decode cX8_can 58 = .ok (.invokestatic 38, 3) := by decide +kernel
theorem dX8_can_61 : decode cX8_can 61 = .ok (.ireturn, 1) := by decide +kernel
theorem dX8_can_62 : decode cX8_can 62 = .ok (.aload_n 0, 1) := by decide +kernel
theorem dX8_can_63 : decode cX8_can 63 = .ok (.iload_n 2, 1) := by decide +kernel
theorem dX8_can_64 : decode cX8_can 64 = .ok (.invokevirtual 150, 3) := by decide +kernel
theorem dX8_can_67 : decode cX8_can 67 = .ok (.ireturn, 1) := by decide +kernel
theorem dX8_can_68 : decode cX8_can 68 = .ok (.iconst 0, 1) := by decide +kernel
theorem dX8_can_69 : decode cX8_can 69 = .ok (.ireturn, 1) := by decide +kernel
set_option maxRecDepth 20000 in
theorem ggX8_canBe_X8_can : GoodIn wsX8_canBe wsX8_can := goodIn_r _ [5, 6, 7, 8, 9, 10, 4, 11, 12, 13, 14, 15, 16, 17, 18, 19, 20, 21, 22, 23, 24, 25, 26, 27, 28, 29, 30, 31, 32, 33] (by decide +kernel) (by decide +kernel)
set_option maxRecDepth 20000 in
theorem gX8_canBe_X8_can : GoodIn wsX8_canBe (wsV RX8 200 RX8 yX8_can wsX8_can) := goodIn_app (goodIn_of _ (by decide +kernel)) ggX8_canBe_X8_can
theorem dX8_canBe_0 : decode cX8_canBe 0 = .ok (.aload_n 0, 1) := by decide +kernel
theorem dX8_canBe_1 : decode cX8_canBe 1 = .ok (.iconst 0, 1) := by decide +kernel
theorem dX8_canBe_2 : decode cX8_canBe 2 = .ok (.iload_n 1, 1) := by decide +kernel
theorem dX8_canBe_3 : decode cX8_canBe 3 = .ok (.invokevirtual 200, 3) := by decide +kernel
theorem dX8_canBe_6 : decode cX8_canBe 6 = .ok (.ifCond .eq 35, 3) := by decide +kernel
theorem dX8_canBe_9 : decode cX8_canBe 9 = .ok (.aload_n 0, 1) := by decide +kernel
theorem dX8_canBe_10 : decode cX8_canBe 10 = .ok (.iconst 1, 1) := by decide +kernel
theorem dX8_canBe_11 : decode cX8_canBe 11 = .ok (.iload_n 2, 1) := by decide +kernel
theorem dX8_canBe_12 : decode cX8_canBe 12 = .ok (.invokevirtual 200, 3) := by decide +kernel
theorem dX8_canBe_15 : decode cX8_canBe 15 = .ok (.ifCond .eq 26, 3) := by decide +kernel
theorem dX8_canBe_18 : decode cX8_canBe 18 = .ok (.aload_n 0, 1) := by decide +kernel
theorem dX8_canBe_19 : decode cX8_canBe 19 = .ok (.iconst 2, 1) := by decide +kernel
theorem dX8_canBe_20 : decode cX8_canBe 20 = .ok (.iload_n 3, 1) := by decide +kernel
theorem dX8_canBe_21 : decode cX8_canBe 21 = .ok (.invokevirtual 200, 3) := by decide +kernel
theorem dX8_canBe_24 : decode cX8_canBe 24 = .ok (.ifCond .eq 17, 3) := by decide +kernel
theorem dX8_canBe_27 : decode cX8_canBe 27 = .ok (.aload_n 0, 1) := by decide +kernel
theorem dX8_canBe_28 : decode cX8_canBe 28 = .ok (.iconst 3, 1) := by decide +kernel
theorem dX8_canBe_29 : decode cX8_canBe 29 = .ok (.iload 4, 2) := by decide +kernel
theorem dX8_canBe_31 : decode cX8_canBe 31 = .ok (.invokevirtual 200, 3) := by decide +kernel
theorem dX8_canBe_34 : decode cX8_canBe 34 = .ok (.ifCond .eq 7, 3) := by decide +kernel
theorem dX8_canBe_37 : decode cX8_canBe 37 = .ok (.iconst 1, 1) := by decide +kernel
theorem dX8_canBe_38 : decode cX8_canBe 38 = .ok (.goto 4, 3) := by decide +kernel
theorem dX8_canBe_41 : decode cX8_canBe 41 = .ok (.iconst 0, 1) := by decide +kernel
theorem dX8_canBe_42 : decode cX8_canBe 42 = .ok (.ireturn, 1) := by decide +kernel
theorem dX8_lay_0 : decode cX8_lay 0 = .ok (.iconst 4, 1) := by decide +kernel
theorem dX8_lay_1 : decode cX8_lay 1 = .ok (.aload_n 0, 1) := by decide +kernel
theorem dX8_lay_2 : decode cX8_lay 2 = .ok (.getfield 35, 3) := by decide +kernel
theorem dX8_lay_5 : decode cX8_lay 5 = .ok (.imul, 1) := by decide +kernel
theorem dX8_lay_6 : decode cX8_lay 6 = .ok (.istore 5, 2) := by decide +kernel
theorem dX8_lay_8 : decode cX8_lay 8 = .ok (.aload_n 0, 1) := by decide +kernel
theorem dX8_lay_9 : decode cX8_lay 9 = .ok (.getfield 7, 3) := by decide +kernel
theorem dX8_lay_12 : decode cX8_lay 12 = .ok (.iload 5, 2) := by decide +kernel
theorem dX8_lay_14 : decode cX8_lay 14 = .ok (.iconst 1, 1) := by decide +kernel
theorem dX8_lay_15 : decode cX8_lay 15 = .ok (.iadd, 1) := by decide +kernel
theorem dX8_lay_16 : decode cX8_lay 16 = .ok (.iload_n 1, 1) := by decide +kernel
theorem dX8_lay_17 : decode cX8_lay 17 = .ok (.iastore, 1) := by decide +kernel
theorem dX8_lay_18 : decode cX8_lay 18 = .ok (.aload_n 0, 1) := by decide +kernel
theorem dX8_lay_19 : decode cX8_lay 19 = .ok (.getfield 7, 3) := by decide +kernel
theorem dX8_lay_22 : decode cX8_lay 22 = .ok (.iload 5, 2) := by decide +kernel
theorem dX8_lay_24 : decode cX8_lay 24 = .ok (.iconst 2, 1) := by decide +kernel
theorem dX8_lay_25 : decode cX8_lay 25 = .ok (.iadd, 1) := by decide +kernel
theorem dX8_lay_26 : decode cX8_lay 26 = .ok (.iload_n 2, 1) := by decide +kernel
theorem dX8_lay_27 : decode cX8_lay 27 = .ok (.iastore, 1) := by decide +kernel
theorem dX8_lay_28 : decode cX8_lay 28 = .ok (.aload_n 0, 1) := by decide +kernel
theorem dX8_lay_29 : decode cX8_lay 29 = .ok (.getfield 7, 3) := by decide +kernel
theorem dX8_lay_32 : decode cX8_lay 32 = .ok (.iload 5, 2) := by decide +kernel
theorem dX8_lay_34 : decode cX8_lay 34 = .ok (.iconst 3, 1) := by decide +kernel
theorem dX8_lay_35 : decode cX8_lay 35 = .ok (.iadd, 1) := by decide +kernel
theorem dX8_lay_36 : decode cX8_lay 36 = .ok (.iload_n 3, 1) := by decide +kernel
theorem dX8_lay_37 : decode cX8_lay 37 = .ok (.iastore, 1) := by decide +kernel
theorem dX8_lay_38 : decode cX8_lay 38 = .ok (.aload_n 0, 1) := by decide +kernel
theorem dX8_lay_39 : decode cX8_lay 39 = .ok (.getfield 7, 3) := by decide +kernel
theorem dX8_lay_42 : decode cX8_lay 42 = .ok (.iload 5, 2) := by decide +kernel
theorem dX8_lay_44 : decode cX8_lay 44 = .ok (.iconst 4, 1) := by decide +kernel
theorem dX8_lay_45 : decode cX8_lay 45 = .ok (.iadd, 1) := by decide +kernel
theorem dX8_lay_46 : decode cX8_lay 46 = .ok (.iload 4, 2) := by decide +kernel
theorem dX8_lay_48 : decode cX8_lay 48 = .ok (.iastore, 1) := by decide +kernel
theorem dX8_lay_49 : decode cX8_lay 49 = .ok (.aload_n 0, 1) := by decide +kernel
theorem dX8_lay_50 : decode cX8_lay 50 = .ok (.dup, 1) := by decide +kernel
theorem dX8_lay_51 : decode cX8_lay 51 = .ok (.getfield 35, 3) := by decide +kernel
theorem dX8_lay_54 : decode cX8_lay 54 = .ok (.iconst 1, 1) := by decide +kernel
theorem dX8_lay_55 : decode cX8_lay 55 = .ok (.iadd, 1) := by decide +kernel
theorem dX8_lay_56 : decode cX8_lay 56 = .ok (.putfield 35, 3) := by decide +kernel
theorem dX8_lay_59 : decode cX8_lay 59 = .ok (.aload_n 0, 1) := by decide +kernel
theorem dX8_lay_60 : decode cX8_lay 60 = .ok (.getfield 35, 3) := by decide +kernel
theorem dX8_lay_63 : decode cX8_lay 63 = .ok (.iconst 1, 1) := by decide +kernel
theorem dX8_lay_64 : decode cX8_lay 64 = .ok (.isub, 1) := by decide +kernel
theorem dX8_lay_65 : decode cX8_lay 65 = .ok (.ireturn, 1) := by decide +kernel
set_option maxRecDepth 20000 in
theorem ggX8_addLayer_X8_canBe : GoodIn wsX8_addLayer wsX8_canBe := goodIn_r _ [7, 8, 9, 10, 6, 11, 12, 13, 14, 15, 16, 17, 18, 19, 20, 21, 22, 41, 42, 43, 44, 45, 46, 47, 48, 49, 50, 51, 52, 53, 54, 55, 56, 57] (by decide +kernel) (by decide +kernel)
set_option maxRecDepth 20000 in
theorem gX8_addLayer_X8_canBe : GoodIn wsX8_addLayer (wsV RX8 203 RX8 yX8_canBe wsX8_canBe) := goodIn_app (goodIn_of _ (by decide +kernel)) ggX8_addLayer_X8_canBe
set_option maxRecDepth 20000 in
theorem ggX8_addLayer_X8_refused : GoodIn wsX8_addLayer wsX8_refused := goodIn_r _ [26, 1, 41, 42, 43, 44, 45, 46, 47, 48, 49, 50, 51, 52, 53, 54, 55, 56, 57] (by decide +kernel) (by decide +kernel)
set_option maxRecDepth 20000 in
theorem gX8_addLayer_X8_refused : GoodIn wsX8_addLayer (wsV RX8 83 RX8 yX8_refused wsX8_refused) := goodIn_app (goodIn_of _ (by decide +kernel)) ggX8_addLayer_X8_refused
set_option maxRecDepth 20000 in
theorem ggX8_addLayer_X8_remember : GoodIn wsX8_addLayer wsX8_remember := goodIn_r _ [30, 31, 32, 33, 34, 35, 6, 36, 2, 22, 41, 42, 43, 44, 45, 46, 47, 48, 49, 50, 51, 52, 53, 54, 55, 56, 57] (by decide +kernel) (by decide +kernel)
set_option maxRecDepth 20000 in
theorem gX8_addLayer_X8_remember : GoodIn wsX8_addLayer (wsV RX8 188 RX8 yX8_remember wsX8_remember) := goodIn_app (goodIn_of _ (by decide +kernel)) ggX8_addLayer_X8_remember
set_option maxRecDepth 20000 in
theorem ggX8_addLayer_X8_lay : GoodIn wsX8_addLayer wsX8_lay := goodIn_r _ [40, 2, 22, 41, 42, 43, 44, 45, 46, 47, 48, 49, 50, 51, 52, 53, 54, 55, 56, 57] (by decide +kernel) (by decide +kernel)
set_option maxRecDepth 20000 in
theorem gX8_addLayer_X8_lay : GoodIn wsX8_addLayer (wsV RX8 207 RX8 yX8_lay wsX8_lay) := goodIn_app (goodIn_of _ (by decide +kernel)) ggX8_addLayer_X8_lay
theorem dX8_addLayer_0 : decode cX8_addLayer 0 = .ok (.aload_n 0, 1) := by decide +kernel
theorem dX8_addLayer_1 : decode cX8_addLayer 1 = .ok (.iconst 0, 1) := by decide +kernel
theorem dX8_addLayer_2 : decode cX8_addLayer 2 = .ok (.putfield 31, 3) := by decide +kernel
theorem dX8_addLayer_5 : decode cX8_addLayer 5 = .ok (.aload_n 0, 1) := by decide +kernel
theorem dX8_addLayer_6 : decode cX8_addLayer 6 = .ok (.iload_n 1, 1) := by decide +kernel
theorem dX8_addLayer_7 : decode cX8_addLayer 7 = .ok (.iload_n 2, 1) := by decide +kernel
theorem dX8_addLayer_8 : decode cX8_addLayer 8 = .ok (.iload_n 3, 1) := by decide +kernel
theorem dX8_addLayer_9 : decode cX8_addLayer 9 = .ok (.iload 4, 2) := by decide +kernel
theorem dX8_addLayer_11 : decode cX8_addLayer 11 = .ok (.invokevirtual 203, 3) := by decide +kernel
theorem dX8_addLayer_14 : decode cX8_addLayer 14 = .ok (.ifCond .ne 9, 3) := by decide +kernel
theorem dX8_addLayer_17 : decode cX8_addLayer 17 = .ok (.aload_n 0, 1) := by decide +kernel
theorem dX8_addLayer_18 : decode cX8_addLayer 18 = .ok (.iconst 1, 1) := by decide +kernel
theorem dX8_addLayer_19 : decode cX8_addLayer 19 = .ok (.invokevirtual 83, 3) := by decide +kernel
theorem dX8_addLayer_22 : decode cX8_addLayer 22 = .ok (.ireturn, 1) := by decide +kernel
theorem dX8_addLayer_23 : decode cX8_addLayer 23 = .ok (.aload_n 0, 1) := by decide +kernel
theorem dX8_addLayer_24 : decode cX8_addLayer 24 = .ok (.getfield 35, 3) := by decide +kernel
theorem dX8_addLayer_27 : decode cX8_addLayer 27 = .ok (.bipush 6, 2) := by decide +kernel
theorem dX8_addLayer_29 : decode cX8_addLayer 29 = .ok (.if_icmp .ne 9, 3) := by decide +kernel
theorem dX8_addLayer_32 : decode cX8_addLayer 32 = .ok (.aload_n 0, 1) := by decide +kernel
theorem dX8_addLayer_33 : decode cX8_addLayer 33 = .ok (.iconst 2, 1) := by decide +kernel
theorem dX8_addLayer_34 : decode cX8_addLayer 34 = .ok (.invokevirtual 83, 3) := by decide +kernel
theorem dX8_addLayer_37 : decode cX8_addLayer 37 = .ok (.ireturn, 1) := by decide +kernel
theorem dX8_addLayer_38 : decode cX8_addLayer 38 = .ok (.aload_n 0, 1) := by decide +kernel
theorem dX8_addLayer_39 : decode cX8_addLayer 39 = .ok (.invokevirtual 188, 3) := by decide +kernel
theorem dX8_addLayer_42 : decode cX8_addLayer 42 = .ok (.aload_n 0, 1) := by decide +kernel
theorem dX8_addLayer_43 : decode cX8_addLayer 43 = .ok (.iload_n 1, 1) := by decide +kernel
theorem dX8_addLayer_44 : decode cX8_addLayer 44 = .ok (.iload_n 2, 1) := by decide +kernel
theorem dX8_addLayer_45 : decode cX8_addLayer 45 = .ok (.iload_n 3, 1) := by decide +kernel
theorem dX8_addLayer_46 : decode cX8_addLayer 46 = .ok (.iload 4, 2) := by decide +kernel
theorem dX8_addLayer_48 : decode cX8_addLayer 48 = .ok (.invokevirtual 207, 3) := by decide +kernel
theorem dX8_addLayer_51 : decode cX8_addLayer 51 = .ok (.ireturn, 1) := by decide +kernel
set_option maxRecDepth 20000 in
theorem ggX8_change_X8_isLayer : GoodIn wsX8_change wsX8_isLayer := goodIn_r _ [7, 8, 9, 10, 6, 11, 37, 38, 39, 40, 41, 42, 43, 44, 45, 46, 47, 48, 49, 50, 51, 52, 53] (by decide +kernel) (by decide +kernel)
set_option maxRecDepth 20000 in
theorem gX8_change_X8_isLayer : GoodIn wsX8_change (wsV RX8 138 RX8 yX8_isLayer wsX8_isLayer) := goodIn_app (goodIn_of _ (by decide +kernel)) ggX8_change_X8_isLayer
set_option maxRecDepth 20000 in
theorem ggX8_change_X8_refused : GoodIn wsX8_change wsX8_refused := goodIn_r _ [15, 1, 37, 38, 39, 40, 41, 42, 43, 44, 45, 46, 47, 48, 49, 50, 51, 52, 53] (by decide +kernel) (by decide +kernel)
set_option maxRecDepth 20000 in
theorem gX8_change_X8_refused : GoodIn wsX8_change (wsV RX8 83 RX8 yX8_refused wsX8_refused) := goodIn_app (goodIn_of _ (by decide +kernel)) ggX8_change_X8_refused
set_option maxRecDepth 20000 in
theorem ggX8_change_X8_can : GoodIn wsX8_change wsX8_can := goodIn_r _ [19, 20, 21, 22, 9, 10, 6, 11, 23, 24, 25, 26, 2, 37, 38, 39, 40, 41, 42, 43, 44, 45, 46, 47, 48, 49, 50, 51, 52, 53] (by decide +kernel) (by decide +kernel)
set_option maxRecDepth 20000 in
theorem gX8_change_X8_can : GoodIn wsX8_change (wsV RX8 200 RX8 yX8_can wsX8_can) := goodIn_app (goodIn_of _ (by decide +kernel)) ggX8_change_X8_can
set_option maxRecDepth 20000 in
theorem ggX8_change_X8_remember : GoodIn wsX8_change wsX8_remember := goodIn_r _ [30, 31, 32, 33, 34, 35, 6, 36, 8, 2, 37, 38, 39, 40, 41, 42, 43, 44, 45, 46, 47, 48, 49, 50, 51, 52, 53] (by decide +kernel) (by decide +kernel)
set_option maxRecDepth 20000 in
theorem gX8_change_X8_remember : GoodIn wsX8_change (wsV RX8 188 RX8 yX8_remember wsX8_remember) := goodIn_app (goodIn_of _ (by decide +kernel)) ggX8_change_X8_remember
theorem dX8_change_0 : decode cX8_change 0 = .ok (.aload_n 0, 1) := by decide +kernel
theorem dX8_change_1 : decode cX8_change 1 = .ok (.iconst 0, 1) := by decide +kernel
theorem dX8_change_2 : decode cX8_change 2 = .ok (.putfield 31, 3) := by decide +kernel
theorem dX8_change_5 : decode cX8_change 5 = .ok (.aload_n 0, 1) := by decide +kernel
theorem dX8_change_6 : decode cX8_change 6 = .ok (.iload_n 1, 1) := by decide +kernel
theorem dX8_change_7 : decode cX8_change 7 = .ok (.invokevirtual 138, 3) := by decide +kernel
theorem dX8_change_10 : decode cX8_change 10 = .ok (.ifCond .ne 9, 3) := by decide +kernel
theorem dX8_change_13 : decode cX8_change 13 = .ok (.aload_n 0, 1) := by decide +kernel
theorem dX8_change_14 : decode cX8_change 14 = .ok (.iconst 1, 1) := by decide +kernel
theorem dX8_change_15 : decode cX8_change 15 = .ok (.invokevirtual 83, 3) := by decide +kernel
theorem dX8_change_18 : decode cX8_change 18 = .ok (.ireturn, 1) := by decide +kernel
theorem dX8_change_19 : decode cX8_change 19 = .ok (.aload_n 0, 1) := by decide +kernel
theorem dX8_change_20 : decode cX8_change 20 = .ok (.iload_n 2, 1) := by decide +kernel
theorem dX8_change_21 : decode cX8_change 21 = .ok (.iload_n 3, 1) := by decide +kernel
theorem dX8_change_22 : decode cX8_change 22 = .ok (.invokevirtual 200, 3) := by decide +kernel
theorem dX8_change_25 : decode cX8_change 25 = .ok (.ifCond .ne 9, 3) := by decide +kernel
theorem dX8_change_28 : decode cX8_change 28 = .ok (.aload_n 0, 1) := by decide +kernel
theorem dX8_change_29 : decode cX8_change 29 = .ok (.iconst 2, 1) := by decide +kernel
theorem dX8_change_30 : decode cX8_change 30 = .ok (.invokevirtual 83, 3) := by decide +kernel
theorem dX8_change_33 : decode cX8_change 33 = .ok (.ireturn, 1) := by decide +kernel
theorem dX8_change_34 : decode cX8_change 34 = .ok (.aload_n 0, 1) := by decide +kernel
theorem dX8_change_35 : decode cX8_change 35 = .ok (.invokevirtual 188, 3) := by decide +kernel
theorem dX8_change_38 : decode cX8_change 38 = .ok (.aload_n 0, 1) := by decide +kernel
theorem dX8_change_39 : decode cX8_change 39 = .ok (.getfield 7, 3) := by decide +kernel
theorem dX8_change_42 : decode cX8_change 42 = .ok (.iconst 4, 1) := by decide +kernel
theorem dX8_change_43 : decode cX8_change 43 = .ok (.iload_n 1, 1) := by decide +kernel
theorem dX8_change_44 : decode cX8_change 44 = .ok (.imul, 1) := by decide +kernel
theorem dX8_change_45 : decode cX8_change 45 = .ok (.iconst 1, 1) := by decide +kernel
theorem dX8_change_46 : decode cX8_change 46 = .ok (.iadd, 1) := by decide +kernel
theorem dX8_change_47 : decode cX8_change 47 = .ok (.iload_n 2, 1) := by decide +kernel
theorem dX8_change_48 : decode cX8_change 48 = .ok (.iadd, 1) := by decide +kernel
theorem dX8_change_49 : decode cX8_change 49 = .ok (.iaload, 1) := by decide +kernel
theorem dX8_change_50 : decode cX8_change 50 = .ok (.istore 4, 2) := by decide +kernel
theorem dX8_change_52 : decode cX8_change 52 = .ok (.aload_n 0, 1) := by decide +kernel
theorem dX8_change_53 : decode cX8_change 53 = .ok (.getfield 7, 3) := by decide +kernel
theorem dX8_change_56 : decode cX8_change 56 = .ok (.iconst 4, 1) := by decide +kernel
theorem dX8_change_57 : decode cX8_change 57 = .ok (.iload_n 1, 1) := by decide +kernel
theorem dX8_change_58 : decode cX8_change 58 = .ok (.imul, 1) := by decide +kernel
theorem dX8_change_59 : decode cX8_change 59 = .ok (.iconst 1, 1) := by decide +kernel
theorem dX8_change_60 : decode cX8_change 60 = .ok (.iadd, 1) := by decide +kernel
theorem dX8_change_61 : decode cX8_change 61 = .ok (.iload_n 2, 1) := by decide +kernel
theorem dX8_change_62 : decode cX8_change 62 = .ok (.iadd, 1) := by decide +kernel
theorem dX8_change_63 : decode cX8_change 63 = .ok (.iload_n 3, 1) := by decide +kernel
theorem dX8_change_64 : decode cX8_change 64 = .ok (.iastore, 1) := by decide +kernel
theorem dX8_change_65 : decode cX8_change 65 = .ok (.iload 4, 2) := by decide +kernel
theorem dX8_change_67 : decode cX8_change 67 = .ok (.ireturn, 1) := by decide +kernel
theorem dX8_drop_0 : decode cX8_drop 0 = .ok (.iconst 4, 1) := by decide +kernel
theorem dX8_drop_1 : decode cX8_drop 1 = .ok (.iload_n 1, 1) := by decide +kernel
theorem dX8_drop_2 : decode cX8_drop 2 = .ok (.imul, 1) := by decide +kernel
theorem dX8_drop_3 : decode cX8_drop 3 = .ok (.iconst 5, 1) := by decide +kernel
theorem dX8_drop_4 : decode cX8_drop 4 = .ok (.iadd, 1) := by decide +kernel
theorem dX8_drop_5 : decode cX8_drop 5 = .ok (.istore_n 2, 1) := by decide +kernel
theorem dX8_drop_6 : decode cX8_drop 6 = .ok (.iload_n 2, 1) := by decide +kernel
theorem dX8_drop_7 : decode cX8_drop 7 = .ok (.bipush 25, 2) := by decide +kernel
theorem dX8_drop_9 : decode cX8_drop 9 = .ok (.if_icmp .ge 23, 3) := by decide +kernel
theorem dX8_drop_12 : decode cX8_drop 12 = .ok (.aload_n 0, 1) := by decide +kernel
theorem dX8_drop_13 : decode cX8_drop 13 = .ok (.getfield 7, 3) := by decide +kernel
theorem dX8_drop_16 : decode cX8_drop 16 = .ok (.iload_n 2, 1) := by decide +kernel
theorem dX8_drop_17 : decode cX8_drop 17 = .ok (.iconst 4, 1) := by decide +kernel
theorem dX8_drop_18 : decode cX8_drop 18 = .ok (.isub, 1) := by decide +kernel
theorem dX8_drop_19 : decode cX8_drop 19 = .ok (.aload_n 0, 1) := by decide +kernel
theorem dX8_drop_20 : decode cX8_drop 20 = .ok (.getfield 7, 3) := by decide +kernel
theorem dX8_drop_23 : decode cX8_drop 23 = .ok (.iload_n 2, 1) := by decide +kernel
theorem dX8_drop_24 : decode cX8_drop 24 = .ok (.iaload, 1) := by decide +kernel
theorem dX8_drop_25 : decode cX8_drop 25 = .ok (.iastore, 1) := by decide +kernel
theorem dX8_drop_26 : decode cX8_drop 26 = .ok (.iinc 2 1, 3) := by decide +kernel
theorem dX8_drop_29 : decode cX8_drop 29 = .ok (.goto (-23), 3) := by decide +kernel
theorem dX8_drop_32 : decode cX8_drop 32 = .ok (.aload_n 0, 1) := by decide +kernel
theorem dX8_drop_33 : decode cX8_drop 33 = .ok (.dup, 1) := by decide +kernel
theorem dX8_drop_34 : decode cX8_drop 34 = .ok (.getfield 35, 3) := by decide +kernel
theorem dX8_drop_37 : decode cX8_drop 37 = .ok (.iconst 1, 1) := by decide +kernel
theorem dX8_drop_38 : decode cX8_drop 38 = .ok (.isub, 1) := by decide +kernel
theorem dX8_drop_39 : decode cX8_drop 39 = .ok (.putfield 35, 3) := by decide +kernel
theorem dX8_drop_42 : decode cX8_drop 42 = .ok (.aload_n 0, 1) := by decide +kernel
theorem dX8_drop_43 : decode cX8_drop 43 = .ok (.getfield 35, 3) := by decide +kernel
theorem dX8_drop_46 : decode cX8_drop 46 = .ok (.ireturn, 1) := by decide +kernel
set_option maxRecDepth 20000 in
theorem ggX8_remove_X8_isLayer : GoodIn wsX8_remove wsX8_isLayer := goodIn_r _ [6, 7, 8, 9, 5, 10, 30, 31, 32, 33, 34, 35, 36, 37, 38, 39, 40, 41, 42, 43, 44, 45, 46] (by decide +kernel) (by decide +kernel)
set_option maxRecDepth 20000 in
theorem gX8_remove_X8_isLayer : GoodIn wsX8_remove (wsV RX8 138 RX8 yX8_isLayer wsX8_isLayer) := goodIn_app (goodIn_of _ (by decide +kernel)) ggX8_remove_X8_isLayer
set_option maxRecDepth 20000 in
theorem ggX8_remove_X8_refused : GoodIn wsX8_remove wsX8_refused := goodIn_r _ [14, 1, 30, 31, 32, 33, 34, 35, 36, 37, 38, 39, 40, 41, 42, 43, 44, 45, 46] (by decide +kernel) (by decide +kernel)
set_option maxRecDepth 20000 in
theorem gX8_remove_X8_refused : GoodIn wsX8_remove (wsV RX8 83 RX8 yX8_refused wsX8_refused) := goodIn_app (goodIn_of _ (by decide +kernel)) ggX8_remove_X8_refused
set_option maxRecDepth 20000 in
theorem ggX8_remove_X8_remember : GoodIn wsX8_remove wsX8_remember := goodIn_r _ [18, 19, 20, 21, 22, 23, 5, 24, 7, 25, 30, 31, 32, 33, 34, 35, 36, 37, 38, 39, 40, 41, 42, 43, 44, 45, 46] (by decide +kernel) (by decide +kernel)
set_option maxRecDepth 20000 in
theorem gX8_remove_X8_remember : GoodIn wsX8_remove (wsV RX8 188 RX8 yX8_remember wsX8_remember) := goodIn_app (goodIn_of _ (by decide +kernel)) ggX8_remove_X8_remember
set_option maxRecDepth 20000 in
theorem ggX8_remove_X8_drop : GoodIn wsX8_remove wsX8_drop := goodIn_r _ [29, 25, 7, 30, 31, 32, 33, 34, 35, 36, 37, 38, 39, 40, 41, 42, 43, 44, 45, 46] (by decide +kernel) (by decide +kernel)
set_option maxRecDepth 20000 in
theorem gX8_remove_X8_drop : GoodIn wsX8_remove (wsV RX8 210 RX8 yX8_drop wsX8_drop) := goodIn_app (goodIn_of _ (by decide +kernel)) ggX8_remove_X8_drop
theorem dX8_remove_0 : decode cX8_remove 0 = .ok (.aload_n 0, 1) := by decide +kernel
theorem dX8_remove_1 : decode cX8_remove 1 = .ok (.iconst 0, 1) := by decide +kernel
theorem dX8_remove_2 : decode cX8_remove 2 = .ok (.putfield 31, 3) := by decide +kernel
theorem dX8_remove_5 : decode cX8_remove 5 = .ok (.aload_n 0, 1) := by decide +kernel
theorem dX8_remove_6 : decode cX8_remove 6 = .ok (.iload_n 1, 1) := by decide +kernel
theorem dX8_remove_7 : decode cX8_remove 7 = .ok (.invokevirtual 138, 3) := by decide +kernel
theorem dX8_remove_10 : decode cX8_remove 10 = .ok (.ifCond .ne 9, 3) := by decide +kernel
theorem dX8_remove_13 : decode cX8_remove 13 = .ok (.aload_n 0, 1) := by decide +kernel
theorem dX8_remove_14 : decode cX8_remove 14 = .ok (.iconst 1, 1) := by decide +kernel
theorem dX8_remove_15 : decode cX8_remove 15 = .ok (.invokevirtual 83, 3) := by decide +kernel
theorem dX8_remove_18 : decode cX8_remove 18 = .ok (.ireturn, 1) := by decide +kernel
theorem dX8_remove_19 : decode cX8_remove 19 = .ok (.aload_n 0, 1) := by decide +kernel
theorem dX8_remove_20 : decode cX8_remove 20 = .ok (.invokevirtual 188, 3) := by decide +kernel
theorem dX8_remove_23 : decode cX8_remove 23 = .ok (.aload_n 0, 1) := by decide +kernel
theorem dX8_remove_24 : decode cX8_remove 24 = .ok (.iload_n 1, 1) := by decide +kernel
theorem dX8_remove_25 : decode cX8_remove 25 = .ok (.invokevirtual 210, 3) := by decide +kernel
theorem dX8_remove_28 : decode cX8_remove 28 = .ok (.ireturn, 1) := by decide +kernel
set_option maxRecDepth 20000 in
theorem ggX8_see_X8_isAngle : GoodIn wsX8_see wsX8_isAngle := goodIn_r _ [8, 3, 9, 10, 7, 11, 65, 66, 67, 68, 69, 70, 71, 72, 73, 74, 75, 76, 77, 78, 79, 80, 81] (by decide +kernel) (by decide +kernel)
set_option maxRecDepth 20000 in
theorem gX8_see_X8_isAngle : GoodIn wsX8_see (wsV RX8 150 RX8 yX8_isAngle wsX8_isAngle) := goodIn_app (goodIn_of _ (by decide +kernel)) ggX8_see_X8_isAngle
set_option maxRecDepth 20000 in
theorem ggX8_see_X8_in : GoodIn wsX8_see wsX8_in := goodIn_r _ [11] (by decide +kernel) (by decide +kernel)
set_option maxRecDepth 20000 in
theorem gX8_see_X8_in : GoodIn wsX8_see (va_wsS RX8 38 yX8_in wsX8_in) := goodIn_app (goodIn_of _ (by decide +kernel)) ggX8_see_X8_in
set_option maxRecDepth 20000 in
theorem ggX8_see_X8_refused : GoodIn wsX8_see wsX8_refused := goodIn_r _ [15, 1, 65, 66, 67, 68, 69, 70, 71, 72, 73, 74, 75, 76, 77, 78, 79, 80, 81] (by decide +kernel) (by decide +kernel)
set_option maxRecDepth 20000 in
theorem gX8_see_X8_refused : GoodIn wsX8_see (wsV RX8 83 RX8 yX8_refused wsX8_refused) := goodIn_app (goodIn_of _ (by decide +kernel)) ggX8_see_X8_refused
set_option maxRecDepth 20000 in
theorem ggX8_see_X8_remember : GoodIn wsX8_see wsX8_remember := goodIn_r _ [19, 20, 21, 22, 23, 24, 7, 25, 26, 3, 65, 66, 67, 68, 69, 70, 71, 72, 73, 74, 75, 76, 77, 78, 79, 80, 81] (by decide +kernel) (by decide +kernel)
set_option maxRecDepth 20000 in
theorem gX8_see_X8_remember : GoodIn wsX8_see (wsV RX8 188 RX8 yX8_remember wsX8_remember) := goodIn_app (goodIn_of _ (by decide +kernel)) ggX8_see_X8_remember
set_option maxRecDepth 20000 in
theorem ggX8_see_X8_fitting : GoodIn wsX8_see wsX8_fitting := goodIn_r _ [30, 26, 31, 32, 33, 7, 34, 3, 35, 36, 37, 38, 39, 40, 41, 42, 43, 44, 45, 46, 47, 48, 49, 50, 51, 52, 53, 54, 55, 56, 57, 58, 59, 60, 61, 62, 63, 64, 65, 66, 67, 68, 69, 70, 71, 72, 73, 74, 75, 76, 77, 78, 79, 80, 81] (by decide +kernel) (by decide +kernel)
set_option maxRecDepth 20000 in
theorem gX8_see_X8_fitting : GoodIn wsX8_see (wsV RX8 135 RX8 yX8_fitting wsX8_fitting) := goodIn_app (goodIn_of _ (by decide +kernel)) ggX8_see_X8_fitting
theorem dX8_see_0 : decode cX8_see 0 = .ok (.aload_n 0, 1) := by decide +kernel
theorem dX8_see_1 : decode cX8_see 1 = .ok (.iconst 0, 1) := by decide +kernel
theorem dX8_see_2 : decode cX8_see 2 = .ok (.putfield 31, 3) := by decide +kernel
theorem dX8_see_5 : decode cX8_see 5 = .ok (.aload_n 0, 1) := by decide +kernel
theorem dX8_see_6 : decode cX8_see 6 = .ok (.iload_n 1, 1) := by decide +kernel
theorem dX8_see_7 : decode cX8_see 7 = .ok (.invokevirtual 150, 3) := by decide +kernel
theorem dX8_see_10 : decode cX8_see 10 = .ok (.ifCond .eq 15, 3) := by decide +kernel
theorem dX8_see_13 : decode cX8_see 13 = .ok (.iload_n 2, 1) := by decide +kernel
theorem dX8_see_14 : decode cX8_see 14 = .ok (.i2l, 1) := by decide +kernel
theorem dX8_see_15 : decode cX8_see 15 = .ok (.lconst 0, 1) := by decide +kernel
theorem dX8_see_16 : decode cX8_see 16 = .ok (.ldc2_w 153, 3) := by decide +kernel
theorem dX8_see_19 : decode cX8_see 19 = .ok (.invokestatic 38, 3) := by decide +kernel
theorem dX8_see_22 : decode cX8_see 22 = .ok (.ifCond .ne 9, 3) := by decide +kernel
theorem dX8_see_25 : decode cX8_see 25 = .ok (.aload_n 0, 1) := by decide +kernel
theorem dX8_see_26 : decode cX8_see 26 = .ok (.iconst 1, 1) := by decide +kernel
theorem dX8_see_27 : decode cX8_see 27 = .ok (.invokevirtual 83, 3) := by decide +kernel
theorem dX8_see_30 : decode cX8_see 30 = .ok (.ireturn, 1) := by decide +kernel
theorem dX8_see_31 : decode cX8_see 31 = .ok (.aload_n 0, 1) := by decide +kernel
theorem dX8_see_32 : decode cX8_see 32 = .ok (.invokevirtual 188, 3) := by decide +kernel
theorem dX8_see_35 : decode cX8_see 35 = .ok (.aload_n 0, 1) := by decide +kernel
theorem dX8_see_36 : decode cX8_see 36 = .ok (.getfield 7, 3) := by decide +kernel
theorem dX8_see_39 : decode cX8_see 39 = .ok (.bipush 25, 2) := by decide +kernel
theorem dX8_see_41 : decode cX8_see 41 = .ok (.iaload, 1) := by decide +kernel
theorem dX8_see_42 : decode cX8_see 42 = .ok (.bipush 8, 2) := by decide +kernel
theorem dX8_see_44 : decode cX8_see 44 = .ok (.if_icmp .ne 43, 3) := by decide +kernel
theorem dX8_see_47 : decode cX8_see 47 = .ok (.bipush 28, 2) := by decide +kernel
theorem dX8_see_49 : decode cX8_see 49 = .ok (.istore_n 3, 1) := by decide +kernel
theorem dX8_see_50 : decode cX8_see 50 = .ok (.iload_n 3, 1) := by decide +kernel
theorem dX8_see_51 : decode cX8_see 51 = .ok (.bipush 42, 2) := by decide +kernel
theorem dX8_see_53 : decode cX8_see 53 = .ok (.if_icmp .ge 23, 3) := by decide +kernel
theorem dX8_see_56 : decode cX8_see 56 = .ok (.aload_n 0, 1) := by decide +kernel
theorem dX8_see_57 : decode cX8_see 57 = .ok (.getfield 7, 3) := by decide +kernel
theorem dX8_see_60 : decode cX8_see 60 = .ok (.iload_n 3, 1) := by decide +kernel
theorem dX8_see_61 : decode cX8_see 61 = .ok (.iconst 2, 1) := by decide +kernel
theorem dX8_see_62 : decode cX8_see 62 = .ok (.isub, 1) := by decide +kernel
theorem dX8_see_63 : decode cX8_see 63 = .ok (.aload_n 0, 1) := by decide +kernel
theorem dX8_see_64 : decode cX8_see 64 = .ok (.getfield 7, 3) := by decide +kernel
theorem dX8_see_67 : decode cX8_see 67 = .ok (.iload_n 3, 1) := by decide +kernel
theorem dX8_see_68 : decode cX8_see 68 = .ok (.iaload, 1) := by decide +kernel
theorem dX8_see_69 : decode cX8_see 69 = .ok (.iastore, 1) := by decide +kernel
theorem dX8_see_70 : decode cX8_see 70 = .ok (.iinc 3 1, 3) := by decide +kernel
theorem dX8_see_73 : decode cX8_see 73 = .ok (.goto (-23), 3) := by decide +kernel
theorem dX8_see_76 : decode cX8_see 76 = .ok (.aload_n 0, 1) := by decide +kernel
theorem dX8_see_77 : decode cX8_see 77 = .ok (.getfield 7, 3) := by decide +kernel
theorem dX8_see_80 : decode cX8_see 80 = .ok (.bipush 25, 2) := by decide +kernel
theorem dX8_see_82 : decode cX8_see 82 = .ok (.dup2, 1) := by decide +kernel
theorem dX8_see_83 : decode cX8_see 83 = .ok (.iaload, 1) := by decide +kernel
theorem dX8_see_84 : decode cX8_see 84 = .ok (.iconst 1, 1) := by decide +kernel
theorem dX8_see_85 : decode cX8_see 85 = .ok (.isub, 1) := by decide +kernel
theorem dX8_see_86 : decode cX8_see 86 = .ok (.iastore, 1) := by decide +kernel
theorem dX8_see_87 : decode cX8_see 87 = .ok (.aload_n 0, 1) := by decide +kernel
theorem dX8_see_88 : decode cX8_see 88 = .ok (.getfield 7, 3) := by decide +kernel
theorem dX8_see_91 : decode cX8_see 91 = .ok (.bipush 26, 2) := by decide +kernel
theorem dX8_see_93 : decode cX8_see 93 = .ok (.iconst 2, 1) := by decide +kernel
theorem dX8_see_94 : decode cX8_see 94 = .ok (.aload_n 0, 1) := by decide +kernel
theorem dX8_see_95 : decode cX8_see 95 = .ok (.getfield 7, 3) := by decide +kernel
theorem dX8_see_98 : decode cX8_see 98 = .ok (.bipush 25, 2) := by decide +kernel
theorem dX8_see_100 : decode cX8_see 100 = .ok (.iaload, 1) := by decide +kernel
theorem dX8_see_101 : decode cX8_see 101 = .ok (.imul, 1) := by decide +kernel
theorem dX8_see_102 : decode cX8_see 102 = .ok (.iadd, 1) := by decide +kernel
theorem dX8_see_103 : decode cX8_see 103 = .ok (.iload_n 1, 1) := by decide +kernel
theorem dX8_see_104 : decode cX8_see 104 = .ok (.iastore, 1) := by decide +kernel
theorem dX8_see_105 : decode cX8_see 105 = .ok (.aload_n 0, 1) := by decide +kernel
theorem dX8_see_106 : decode cX8_see 106 = .ok (.getfield 7, 3) := by decide +kernel
theorem dX8_see_109 : decode cX8_see 109 = .ok (.bipush 27, 2) := by decide +kernel
theorem dX8_see_111 : decode cX8_see 111 = .ok (.iconst 2, 1) := by decide +kernel
theorem dX8_see_112 : decode cX8_see 112 = .ok (.aload_n 0, 1) := by decide +kernel
theorem dX8_see_113 : decode cX8_see 113 = .ok (.getfield 7, 3) := by decide +kernel
theorem dX8_see_116 : decode cX8_see 116 = .ok (.bipush 25, 2) := by decide +kernel
theorem dX8_see_118 : decode cX8_see 118 = .ok (.iaload, 1) := by decide +kernel
theorem dX8_see_119 : decode cX8_see 119 = .ok (.imul, 1) := by decide +kernel
theorem dX8_see_120 : decode cX8_see 120 = .ok (.iadd, 1) := by decide +kernel
theorem dX8_see_121 : decode cX8_see 121 = .ok (.iload_n 2, 1) := by decide +kernel
theorem dX8_see_122 : decode cX8_see 122 = .ok (.iastore, 1) := by decide +kernel
theorem dX8_see_123 : decode cX8_see 123 = .ok (.aload_n 0, 1) := by decide +kernel
theorem dX8_see_124 : decode cX8_see 124 = .ok (.getfield 7, 3) := by decide +kernel
theorem dX8_see_127 : decode cX8_see 127 = .ok (.bipush 25, 2) := by decide +kernel
theorem dX8_see_129 : decode cX8_see 129 = .ok (.dup2, 1) := by decide +kernel
theorem dX8_see_130 : decode cX8_see 130 = .ok (.iaload, 1) := by decide +kernel
theorem dX8_see_131 : decode cX8_see 131 = .ok (.iconst 1, 1) := by decide +kernel
theorem dX8_see_132 : decode cX8_see 132 = .ok (.iadd, 1) := by decide +kernel
theorem dX8_see_133 : decode cX8_see 133 = .ok (.iastore, 1) := by decide +kernel
theorem dX8_see_134 : decode cX8_see 134 = .ok (.aload_n 0, 1) := by decide +kernel
theorem dX8_see_135 : decode cX8_see 135 = .ok (.invokevirtual 135, 3) := by decide +kernel
theorem dX8_see_138 : decode cX8_see 138 = .ok (.ireturn, 1) := by decide +kernel
set_option maxRecDepth 20000 in
theorem ggX8_forget_X8_remember : GoodIn wsX8_forget wsX8_remember := goodIn_r _ [7, 8, 9, 10, 11, 12, 6, 13, 14, 2, 15, 16, 17, 18, 19, 20, 21, 22, 23, 24, 25, 26, 27, 28, 29, 30, 31] (by decide +kernel) (by decide +kernel)
set_option maxRecDepth 20000 in
theorem gX8_forget_X8_remember : GoodIn wsX8_forget (wsV RX8 188 RX8 yX8_remember wsX8_remember) := goodIn_app (goodIn_of _ (by decide +kernel)) ggX8_forget_X8_remember
theorem dX8_forget_0 : decode cX8_forget 0 = .ok (.aload_n 0, 1) := by decide +kernel
theorem dX8_forget_1 : decode cX8_forget 1 = .ok (.iconst 0, 1) := by decide +kernel
theorem dX8_forget_2 : decode cX8_forget 2 = .ok (.putfield 31, 3) := by decide +kernel
theorem dX8_forget_5 : decode cX8_forget 5 = .ok (.aload_n 0, 1) := by decide +kernel
theorem dX8_forget_6 : decode cX8_forget 6 = .ok (.invokevirtual 188, 3) := by decide +kernel
theorem dX8_forget_9 : decode cX8_forget 9 = .ok (.aload_n 0, 1) := by decide +kernel
theorem dX8_forget_10 : decode cX8_forget 10 = .ok (.getfield 7, 3) := by decide +kernel
theorem dX8_forget_13 : decode cX8_forget 13 = .ok (.bipush 25, 2) := by decide +kernel
theorem dX8_forget_15 : decode cX8_forget 15 = .ok (.iaload, 1) := by decide +kernel
theorem dX8_forget_16 : decode cX8_forget 16 = .ok (.istore_n 1, 1) := by decide +kernel
theorem dX8_forget_17 : decode cX8_forget 17 = .ok (.aload_n 0, 1) := by decide +kernel
theorem dX8_forget_18 : decode cX8_forget 18 = .ok (.getfield 7, 3) := by decide +kernel
theorem dX8_forget_21 : decode cX8_forget 21 = .ok (.bipush 25, 2) := by decide +kernel
theorem dX8_forget_23 : decode cX8_forget 23 = .ok (.iconst 0, 1) := by decide +kernel
theorem dX8_forget_24 : decode cX8_forget 24 = .ok (.iastore, 1) := by decide +kernel
theorem dX8_forget_25 : decode cX8_forget 25 = .ok (.iload_n 1, 1) := by decide +kernel
theorem dX8_forget_26 : decode cX8_forget 26 = .ok (.ireturn, 1) := by decide +kernel
set_option maxRecDepth 20000 in
theorem ggX8_undo_X8_refused : GoodIn wsX8_undo wsX8_refused := goodIn_r _ [8, 1, 15, 16, 17, 18, 19, 20, 21, 22, 23, 24, 25, 26, 27, 28, 29, 30, 31] (by decide +kernel) (by decide +kernel)
set_option maxRecDepth 20000 in
theorem gX8_undo_X8_refused : GoodIn wsX8_undo (wsV RX8 83 RX8 yX8_refused wsX8_refused) := goodIn_app (goodIn_of _ (by decide +kernel)) ggX8_undo_X8_refused
set_option maxRecDepth 20000 in
theorem ggX8_undo_X8_bring : GoodIn wsX8_undo wsX8_bring := goodIn_r _ [12, 13, 14, 15, 16, 17, 18, 19, 20, 21, 22, 23, 24, 25, 26, 27, 28, 29, 30, 31] (by decide +kernel) (by decide +kernel)
set_option maxRecDepth 20000 in
theorem gX8_undo_X8_bring : GoodIn wsX8_undo (wsV RX8 213 RX8 yX8_bring wsX8_bring) := goodIn_app (goodIn_of _ (by decide +kernel)) ggX8_undo_X8_bring
theorem dX8_undo_0 : decode cX8_undo 0 = .ok (.aload_n 0, 1) := by decide +kernel
theorem dX8_undo_1 : decode cX8_undo 1 = .ok (.iconst 0, 1) := by decide +kernel
theorem dX8_undo_2 : decode cX8_undo 2 = .ok (.putfield 31, 3) := by decide +kernel
theorem dX8_undo_5 : decode cX8_undo 5 = .ok (.aload_n 0, 1) := by decide +kernel
theorem dX8_undo_6 : decode cX8_undo 6 = .ok (.getfield 111, 3) := by decide +kernel
theorem dX8_undo_9 : decode cX8_undo 9 = .ok (.ifCond .ne 9, 3) := by decide +kernel
theorem dX8_undo_12 : decode cX8_undo 12 = .ok (.aload_n 0, 1) := by decide +kernel
theorem dX8_undo_13 : decode cX8_undo 13 = .ok (.iconst 1, 1) := by decide +kernel
theorem dX8_undo_14 : decode cX8_undo 14 = .ok (.invokevirtual 83, 3) := by decide +kernel
theorem dX8_undo_17 : decode cX8_undo 17 = .ok (.ireturn, 1) := by decide +kernel
theorem dX8_undo_18 : decode cX8_undo 18 = .ok (.aload_n 0, 1) := by decide +kernel
theorem dX8_undo_19 : decode cX8_undo 19 = .ok (.dup, 1) := by decide +kernel
theorem dX8_undo_20 : decode cX8_undo 20 = .ok (.getfield 111, 3) := by decide +kernel
theorem dX8_undo_23 : decode cX8_undo 23 = .ok (.iconst 1, 1) := by decide +kernel
theorem dX8_undo_24 : decode cX8_undo 24 = .ok (.isub, 1) := by decide +kernel
theorem dX8_undo_25 : decode cX8_undo 25 = .ok (.putfield 111, 3) := by decide +kernel
theorem dX8_undo_28 : decode cX8_undo 28 = .ok (.aload_n 0, 1) := by decide +kernel
theorem dX8_undo_29 : decode cX8_undo 29 = .ok (.aload_n 0, 1) := by decide +kernel
theorem dX8_undo_30 : decode cX8_undo 30 = .ok (.getfield 22, 3) := by decide +kernel
theorem dX8_undo_33 : decode cX8_undo 33 = .ok (.bipush 43, 2) := by decide +kernel
theorem dX8_undo_35 : decode cX8_undo 35 = .ok (.aload_n 0, 1) := by decide +kernel
theorem dX8_undo_36 : decode cX8_undo 36 = .ok (.getfield 111, 3) := by decide +kernel
theorem dX8_undo_39 : decode cX8_undo 39 = .ok (.imul, 1) := by decide +kernel
theorem dX8_undo_40 : decode cX8_undo 40 = .ok (.invokevirtual 213, 3) := by decide +kernel
theorem dX8_undo_43 : decode cX8_undo 43 = .ok (.aload_n 0, 1) := by decide +kernel
theorem dX8_undo_44 : decode cX8_undo 44 = .ok (.getfield 111, 3) := by decide +kernel
theorem dX8_undo_47 : decode cX8_undo 47 = .ok (.ireturn, 1) := by decide +kernel
set_option maxRecDepth 20000 in
theorem ggX8_bestStart_X8_isLayer : GoodIn wsX8_bestStart wsX8_isLayer := goodIn_r _ [7, 8, 9, 10, 6, 11, 56, 57, 58, 59, 60, 61, 62, 63, 64, 65, 66, 67, 68, 69, 70, 71, 72] (by decide +kernel) (by decide +kernel)
set_option maxRecDepth 20000 in
theorem gX8_bestStart_X8_isLayer : GoodIn wsX8_bestStart (wsV RX8 138 RX8 yX8_isLayer wsX8_isLayer) := goodIn_app (goodIn_of _ (by decide +kernel)) ggX8_bestStart_X8_isLayer
set_option maxRecDepth 20000 in
theorem ggX8_bestStart_X8_refused : GoodIn wsX8_bestStart wsX8_refused := goodIn_r _ [15, 1, 56, 57, 58, 59, 60, 61, 62, 63, 64, 65, 66, 67, 68, 69, 70, 71, 72] (by decide +kernel) (by decide +kernel)
set_option maxRecDepth 20000 in
theorem gX8_bestStart_X8_refused : GoodIn wsX8_bestStart (wsV RX8 83 RX8 yX8_refused wsX8_refused) := goodIn_app (goodIn_of _ (by decide +kernel)) ggX8_bestStart_X8_refused
set_option maxRecDepth 20000 in
theorem ggX8_bestStart_X8_inBoth : GoodIn wsX8_bestStart wsX8_inBoth := goodIn_r _ [19, 20, 21, 22, 23, 6, 24, 25, 26, 27, 28, 29, 30, 31, 32, 33, 2, 34, 35, 36, 37, 38, 39, 40, 41, 42, 43, 44, 45, 46, 47, 48, 49, 50, 51, 52, 53, 54, 55, 56, 57, 58, 59, 60, 61, 62, 63, 64, 65, 66, 67, 68, 69, 70, 71, 72] (by decide +kernel) (by decide +kernel)
set_option maxRecDepth 20000 in
theorem gX8_bestStart_X8_inBoth : GoodIn wsX8_bestStart (wsV RX8 168 RX8 yX8_inBoth wsX8_inBoth) := goodIn_app (goodIn_of _ (by decide +kernel)) ggX8_bestStart_X8_inBoth
theorem dX8_bestStart_0 : decode cX8_bestStart 0 = .ok (.aload_n 0, 1) := by decide +kernel
theorem dX8_bestStart_1 : decode cX8_bestStart 1 = .ok (.iconst 0, 1) := by decide +kernel
theorem dX8_bestStart_2 : decode cX8_bestStart 2 = .ok (.putfield 31, 3) := by decide +kernel
theorem dX8_bestStart_5 : decode cX8_bestStart 5 = .ok (.aload_n 0, 1) := by decide +kernel
theorem dX8_bestStart_6 : decode cX8_bestStart 6 = .ok (.iload_n 1, 1) := by decide +kernel
theorem dX8_bestStart_7 : decode cX8_bestStart 7 = .ok (.invokevirtual 138, 3) := by decide +kernel
theorem dX8_bestStart_10 : decode cX8_bestStart 10 = .ok (.ifCond .eq 11, 3) := by decide +kernel
theorem dX8_bestStart_13 : decode cX8_bestStart 13 = .ok (.aload_n 0, 1) := by decide +kernel
theorem dX8_bestStart_14 : decode cX8_bestStart 14 = .ok (.iload_n 2, 1) := by decide +kernel
theorem dX8_bestStart_15 : decode cX8_bestStart 15 = .ok (.invokevirtual 138, 3) := by decide +kernel
theorem dX8_bestStart_18 : decode cX8_bestStart 18 = .ok (.ifCond .ne 9, 3) := by decide +kernel
theorem dX8_bestStart_21 : decode cX8_bestStart 21 = .ok (.aload_n 0, 1) := by decide +kernel
theorem dX8_bestStart_22 : decode cX8_bestStart 22 = .ok (.iconst 1, 1) := by decide +kernel
theorem dX8_bestStart_23 : decode cX8_bestStart 23 = .ok (.invokevirtual 83, 3) := by decide +kernel
theorem dX8_bestStart_26 : decode cX8_bestStart 26 = .ok (.ireturn, 1) := by decide +kernel
theorem dX8_bestStart_27 : decode cX8_bestStart 27 = .ok (.iload_n 1, 1) := by decide +kernel
theorem dX8_bestStart_28 : decode cX8_bestStart 28 = .ok (.iload_n 2, 1) := by decide +kernel
theorem dX8_bestStart_29 : decode cX8_bestStart 29 = .ok (.if_icmp .ne 9, 3) := by decide +kernel
theorem dX8_bestStart_32 : decode cX8_bestStart 32 = .ok (.aload_n 0, 1) := by decide +kernel
theorem dX8_bestStart_33 : decode cX8_bestStart 33 = .ok (.iconst 2, 1) := by decide +kernel
theorem dX8_bestStart_34 : decode cX8_bestStart 34 = .ok (.invokevirtual 83, 3) := by decide +kernel
theorem dX8_bestStart_37 : decode cX8_bestStart 37 = .ok (.ireturn, 1) := by decide +kernel
theorem dX8_bestStart_38 : decode cX8_bestStart 38 = .ok (.iconst 4, 1) := by decide +kernel
theorem dX8_bestStart_39 : decode cX8_bestStart 39 = .ok (.iload_n 1, 1) := by decide +kernel
theorem dX8_bestStart_40 : decode cX8_bestStart 40 = .ok (.imul, 1) := by decide +kernel
theorem dX8_bestStart_41 : decode cX8_bestStart 41 = .ok (.iconst 4, 1) := by decide +kernel
theorem dX8_bestStart_42 : decode cX8_bestStart 42 = .ok (.iadd, 1) := by decide +kernel
theorem dX8_bestStart_43 : decode cX8_bestStart 43 = .ok (.istore_n 3, 1) := by decide +kernel
theorem dX8_bestStart_44 : decode cX8_bestStart 44 = .ok (.aload_n 0, 1) := by decide +kernel
theorem dX8_bestStart_45 : decode cX8_bestStart 45 = .ok (.getfield 7, 3) := by decide +kernel
theorem dX8_bestStart_48 : decode cX8_bestStart 48 = .ok (.iload_n 3, 1) := by decide +kernel
theorem dX8_bestStart_49 : decode cX8_bestStart 49 = .ok (.iaload, 1) := by decide +kernel
theorem dX8_bestStart_50 : decode cX8_bestStart 50 = .ok (.istore 4, 2) := by decide +kernel
theorem dX8_bestStart_52 : decode cX8_bestStart 52 = .ok (.iconst 0, 1) := by decide +kernel
theorem dX8_bestStart_53 : decode cX8_bestStart 53 = .ok (.istore 5, 2) := by decide +kernel
theorem dX8_bestStart_55 : decode cX8_bestStart 55 = .ok (.bipush (-9), 2) := by decide +kernel
theorem dX8_bestStart_57 : decode cX8_bestStart 57 = .ok (.istore 6, 2) := by decide +kernel
theorem dX8_bestStart_59 : decode cX8_bestStart 59 = .ok (.iconst 0, 1) := by decide +kernel
theorem dX8_bestStart_60 : decode cX8_bestStart 60 = .ok (.istore 7, 2) := by decide +kernel
theorem dX8_bestStart_62 : decode cX8_bestStart 62 = .ok (.iload 7, 2) := by decide +kernel
theorem dX8_bestStart_64 : decode cX8_bestStart 64 = .ok (.aload_n 0, 1) := by decide +kernel
theorem dX8_bestStart_65 : decode cX8_bestStart 65 = .ok (.getfield 7, 3) := by decide +kernel
theorem dX8_bestStart_68 : decode cX8_bestStart 68 = .ok (.iconst 0, 1) := by decide +kernel
theorem dX8_bestStart_69 : decode cX8_bestStart 69 = .ok (.iaload, 1) := by decide +kernel
theorem dX8_bestStart_70 : decode cX8_bestStart 70 = .ok (.if_icmp .ge 57, 3) := by decide +kernel
theorem dX8_bestStart_73 : decode cX8_bestStart 73 = .ok (.aload_n 0, 1) := by decide +kernel
theorem dX8_bestStart_74 : decode cX8_bestStart 74 = .ok (.getfield 7, 3) := by decide +kernel
theorem dX8_bestStart_77 : decode cX8_bestStart 77 = .ok (.iload_n 3, 1) := by decide +kernel
theorem dX8_bestStart_78 : decode cX8_bestStart 78 = .ok (.iload 7, 2) := by decide +kernel
theorem dX8_bestStart_80 : decode cX8_bestStart 80 = .ok (.iastore, 1) := by decide +kernel
theorem dX8_bestStart_81 : decode cX8_bestStart 81 = .ok (.aload_n 0, 1) := by decide +kernel
theorem dX8_bestStart_82 : decode cX8_bestStart 82 = .ok (.iload_n 1, 1) := by decide +kernel
theorem dX8_bestStart_83 : decode cX8_bestStart 83 = .ok (.iload_n 2, 1) := by decide +kernel
theorem dX8_bestStart_84 : decode cX8_bestStart 84 = .ok (.invokevirtual 168, 3) := by decide +kernel
theorem dX8_bestStart_87 : decode cX8_bestStart 87 = .ok (.istore 8, 2) := by decide +kernel
theorem dX8_bestStart_89 : decode cX8_bestStart 89 = .ok (.iload 8, 2) := by decide +kernel
theorem dX8_bestStart_91 : decode cX8_bestStart 91 = .ok (.iload 6, 2) := by decide +kernel
theorem dX8_bestStart_93 : decode cX8_bestStart 93 = .ok (.if_icmp .le 8, 3) := by decide +kernel
theorem dX8_bestStart_96 : decode cX8_bestStart 96 = .ok (.iload 7, 2) := by decide +kernel
theorem dX8_bestStart_98 : decode cX8_bestStart 98 = .ok (.goto 5, 3) := by decide +kernel
theorem dX8_bestStart_101 : decode cX8_bestStart 101 = .ok (.iload 5, 2) := by decide +kernel
theorem dX8_bestStart_103 : decode cX8_bestStart 103 = .ok (.istore 5, 2) := by decide +kernel
theorem dX8_bestStart_105 : decode cX8_bestStart 105 = .ok (.iload 8, 2) := by decide +kernel
theorem dX8_bestStart_107 : decode cX8_bestStart 107 = .ok (.iload 6, 2) := by decide +kernel
theorem dX8_bestStart_109 : decode cX8_bestStart 109 = .ok (.if_icmp .le 8, 3) := by decide +kernel
theorem dX8_bestStart_112 : decode cX8_bestStart 112 = .ok (.iload 8, 2) := by decide +kernel
theorem dX8_bestStart_114 : decode cX8_bestStart 114 = .ok (.goto 5, 3) := by decide +kernel
theorem dX8_bestStart_117 : decode cX8_bestStart 117 = .ok (.iload 6, 2) := by decide +kernel
theorem dX8_bestStart_119 : decode cX8_bestStart 119 = .ok (.istore 6, 2) := by decide +kernel
theorem dX8_bestStart_121 : decode cX8_bestStart 121 = .ok (.iinc 7 1, 3) := by decide +kernel
theorem dX8_bestStart_124 : decode cX8_bestStart 124 = .ok (.goto (-62), 3) := by decide +kernel
theorem dX8_bestStart_127 : decode cX8_bestStart 127 = .ok (.aload_n 0, 1) := by decide +kernel
theorem dX8_bestStart_128 : decode cX8_bestStart 128 = .ok (.getfield 7, 3) := by decide +kernel
theorem dX8_bestStart_131 : decode cX8_bestStart 131 = .ok (.iload_n 3, 1) := by decide +kernel
theorem dX8_bestStart_132 : decode cX8_bestStart 132 = .ok (.iload 4, 2) := by decide +kernel
theorem dX8_bestStart_134 : decode cX8_bestStart 134 = .ok (.iastore, 1) := by decide +kernel
theorem dX8_bestStart_135 : decode cX8_bestStart 135 = .ok (.iload 5, 2) := by decide +kernel
theorem dX8_bestStart_137 : decode cX8_bestStart 137 = .ok (.ireturn, 1) := by decide +kernel
set_option maxRecDepth 20000 in
theorem ggX8_brings_X8_divisor : GoodIn wsX8_brings wsX8_divisor := goodIn_r _ [5] (by decide +kernel) (by decide +kernel)
set_option maxRecDepth 20000 in
theorem gX8_brings_X8_divisor : GoodIn wsX8_brings (va_wsS RX8 46 yX8_divisor wsX8_divisor) := goodIn_app (goodIn_of _ (by decide +kernel)) ggX8_brings_X8_divisor
set_option maxRecDepth 20000 in
theorem ggX8_brings_X8_radius : GoodIn wsX8_brings wsX8_radius := goodIn_r _ [8] (by decide +kernel) (by decide +kernel)
set_option maxRecDepth 20000 in
theorem gX8_brings_X8_radius : GoodIn wsX8_brings (va_wsS RX8 53 yX8_radius wsX8_radius) := goodIn_app (goodIn_of _ (by decide +kernel)) ggX8_brings_X8_radius
theorem dX8_brings_0 : decode cX8_brings 0 = .ok (.aload_n 0, 1) := by decide +kernel
theorem dX8_brings_1 : decode cX8_brings 1 = .ok (.getfield 7, 3) := by decide +kernel
theorem dX8_brings_4 : decode cX8_brings 4 = .ok (.iconst 0, 1) := by decide +kernel
theorem dX8_brings_5 : decode cX8_brings 5 = .ok (.iaload, 1) := by decide +kernel
theorem dX8_brings_6 : decode cX8_brings 6 = .ok (.aload_n 0, 1) := by decide +kernel
theorem dX8_brings_7 : decode cX8_brings 7 = .ok (.getfield 7, 3) := by decide +kernel
theorem dX8_brings_10 : decode cX8_brings 10 = .ok (.iconst 0, 1) := by decide +kernel
theorem dX8_brings_11 : decode cX8_brings 11 = .ok (.iaload, 1) := by decide +kernel
theorem dX8_brings_12 : decode cX8_brings 12 = .ok (.iload_n 1, 1) := by decide +kernel
theorem dX8_brings_13 : decode cX8_brings 13 = .ok (.invokestatic 46, 3) := by decide +kernel
theorem dX8_brings_16 : decode cX8_brings 16 = .ok (.idiv, 1) := by decide +kernel
theorem dX8_brings_17 : decode cX8_brings 17 = .ok (.iload_n 1, 1) := by decide +kernel
theorem dX8_brings_18 : decode cX8_brings 18 = .ok (.imul, 1) := by decide +kernel
theorem dX8_brings_19 : decode cX8_brings 19 = .ok (.istore 7, 2) := by decide +kernel
theorem dX8_brings_21 : decode cX8_brings 21 = .ok (.iconst 0, 1) := by decide +kernel
theorem dX8_brings_22 : decode cX8_brings 22 = .ok (.istore 8, 2) := by decide +kernel
theorem dX8_brings_24 : decode cX8_brings 24 = .ok (.iload 8, 2) := by decide +kernel
theorem dX8_brings_26 : decode cX8_brings 26 = .ok (.iload 7, 2) := by decide +kernel
theorem dX8_brings_28 : decode cX8_brings 28 = .ok (.if_icmp .ge 43, 3) := by decide +kernel
theorem dX8_brings_31 : decode cX8_brings 31 = .ok (.iload 4, 2) := by decide +kernel
theorem dX8_brings_33 : decode cX8_brings 33 = .ok (.iload 8, 2) := by decide +kernel
theorem dX8_brings_35 : decode cX8_brings 35 = .ok (.iadd, 1) := by decide +kernel
theorem dX8_brings_36 : decode cX8_brings 36 = .ok (.aload_n 0, 1) := by decide +kernel
theorem dX8_brings_37 : decode cX8_brings 37 = .ok (.getfield 7, 3) := by decide +kernel
theorem dX8_brings_40 : decode cX8_brings 40 = .ok (.iconst 0, 1) := by decide +kernel
theorem dX8_brings_41 : decode cX8_brings 41 = .ok (.iaload, 1) := by decide +kernel
theorem dX8_brings_42 : decode cX8_brings 42 = .ok (.irem, 1) := by decide +kernel
theorem dX8_brings_43 : decode cX8_brings 43 = .ok (.iload 5, 2) := by decide +kernel
theorem dX8_brings_45 : decode cX8_brings 45 = .ok (.if_icmp .ne 20, 3) := by decide +kernel
theorem dX8_brings_48 : decode cX8_brings 48 = .ok (.iload_n 1, 1) := by decide +kernel
theorem dX8_brings_49 : decode cX8_brings 49 = .ok (.iload_n 2, 1) := by decide +kernel
theorem dX8_brings_50 : decode cX8_brings 50 = .ok (.iload_n 3, 1) := by decide +kernel
theorem dX8_brings_51 : decode cX8_brings 51 = .ok (.iload 8, 2) := by decide +kernel
theorem dX8_brings_53 : decode cX8_brings 53 = .ok (.iload_n 1, 1) := by decide +kernel
theorem dX8_brings_54 : decode cX8_brings 54 = .ok (.irem, 1) := by decide +kernel
theorem dX8_brings_55 : decode cX8_brings 55 = .ok (.invokestatic 53, 3) := by decide +kernel
theorem dX8_brings_58 : decode cX8_brings 58 = .ok (.iload 6, 2) := by decide +kernel
theorem dX8_brings_60 : decode cX8_brings 60 = .ok (.if_icmp .ne 5, 3) := by decide +kernel
theorem dX8_brings_63 : decode cX8_brings 63 = .ok (.iconst 1, 1) := by decide +kernel
theorem dX8_brings_64 : decode cX8_brings 64 = .ok (.ireturn, 1) := by decide +kernel
theorem dX8_brings_65 : decode cX8_brings 65 = .ok (.iinc 8 1, 3) := by decide +kernel
theorem dX8_brings_68 : decode cX8_brings 68 = .ok (.goto (-44), 3) := by decide +kernel
theorem dX8_brings_71 : decode cX8_brings 71 = .ok (.iconst 0, 1) := by decide +kernel
theorem dX8_brings_72 : decode cX8_brings 72 = .ok (.ireturn, 1) := by decide +kernel
set_option maxRecDepth 20000 in
theorem ggX8_wouldFit_X8_brings : GoodIn wsX8_wouldFit wsX8_brings := goodIn_r _ [6, 1, 7, 8, 5, 9, 10, 11, 12, 13, 14, 15, 16, 17, 18, 19, 20, 21, 22, 23, 24, 25, 26, 27, 28, 29] (by decide +kernel) (by decide +kernel)
set_option maxRecDepth 20000 in
theorem gX8_wouldFit_X8_brings : GoodIn wsX8_wouldFit (wsV RX8 216 RX8 yX8_brings wsX8_brings) := goodIn_app (goodIn_of _ (by decide +kernel)) ggX8_wouldFit_X8_brings
theorem dX8_wouldFit_0 : decode cX8_wouldFit 0 = .ok (.iconst 0, 1) := by decide +kernel
theorem dX8_wouldFit_1 : decode cX8_wouldFit 1 = .ok (.istore 5, 2) := by decide +kernel
theorem dX8_wouldFit_3 : decode cX8_wouldFit 3 = .ok (.iload 5, 2) := by decide +kernel
theorem dX8_wouldFit_5 : decode cX8_wouldFit 5 = .ok (.aload_n 0, 1) := by decide +kernel
theorem dX8_wouldFit_6 : decode cX8_wouldFit 6 = .ok (.getfield 7, 3) := by decide +kernel
theorem dX8_wouldFit_9 : decode cX8_wouldFit 9 = .ok (.bipush 25, 2) := by decide +kernel
theorem dX8_wouldFit_11 : decode cX8_wouldFit 11 = .ok (.iaload, 1) := by decide +kernel
theorem dX8_wouldFit_12 : decode cX8_wouldFit 12 = .ok (.if_icmp .ge 47, 3) := by decide +kernel
theorem dX8_wouldFit_15 : decode cX8_wouldFit 15 = .ok (.aload_n 0, 1) := by decide +kernel
theorem dX8_wouldFit_16 : decode cX8_wouldFit 16 = .ok (.iload_n 1, 1) := by decide +kernel
theorem dX8_wouldFit_17 : decode cX8_wouldFit 17 = .ok (.iload_n 2, 1) := by decide +kernel
theorem dX8_wouldFit_18 : decode cX8_wouldFit 18 = .ok (.iload_n 3, 1) := by decide +kernel
theorem dX8_wouldFit_19 : decode cX8_wouldFit 19 = .ok (.iload 4, 2) := by decide +kernel
theorem dX8_wouldFit_21 : decode cX8_wouldFit 21 = .ok (.aload_n 0, 1) := by decide +kernel
theorem dX8_wouldFit_22 : decode cX8_wouldFit 22 = .ok (.getfield 7, 3) := by decide +kernel
theorem dX8_wouldFit_25 : decode cX8_wouldFit 25 = .ok (.bipush 26, 2) := by decide +kernel
theorem dX8_wouldFit_27 : decode cX8_wouldFit 27 = .ok (.iconst 2, 1) := by decide +kernel
theorem dX8_wouldFit_28 : decode cX8_wouldFit 28 = .ok (.iload 5, 2) := by decide +kernel
theorem dX8_wouldFit_30 : decode cX8_wouldFit 30 = .ok (.imul, 1) := by decide +kernel
theorem dX8_wouldFit_31 : decode cX8_wouldFit 31 = .ok (.iadd, 1) := by decide +kernel
theorem dX8_wouldFit_32 : decode cX8_wouldFit 32 = .ok (.iaload, 1) := by decide +kernel
theorem dX8_wouldFit_33 : decode cX8_wouldFit 33 = .ok (.aload_n 0, 1) := by decide +kernel
theorem dX8_wouldFit_34 : decode cX8_wouldFit 34 = .ok (.getfield 7, 3) := by decide +kernel
theorem dX8_wouldFit_37 : decode cX8_wouldFit 37 = .ok (.bipush 27, 2) := by decide +kernel
theorem dX8_wouldFit_39 : decode cX8_wouldFit 39 = .ok (.iconst 2, 1) := by decide +kernel
theorem dX8_wouldFit_40 : decode cX8_wouldFit 40 = .ok (.iload 5, 2) := by decide +kernel
theorem dX8_wouldFit_42 : decode cX8_wouldFit 42 = .ok (.imul, 1) := by decide +kernel
theorem dX8_wouldFit_43 : decode cX8_wouldFit 43 = .ok (.iadd, 1) := by decide +kernel
theorem dX8_wouldFit_44 : decode cX8_wouldFit 44 = .ok (.iaload, 1) := by decide +kernel
theorem dX8_wouldFit_45 : decode cX8_wouldFit 45 = .ok (.invokevirtual 216, 3) := by decide +kernel
theorem dX8_wouldFit_48 : decode cX8_wouldFit 48 = .ok (.ifCond .ne 5, 3) := by decide +kernel
theorem dX8_wouldFit_51 : decode cX8_wouldFit 51 = .ok (.iconst 0, 1) := by decide +kernel
theorem dX8_wouldFit_52 : decode cX8_wouldFit 52 = .ok (.ireturn, 1) := by decide +kernel
theorem dX8_wouldFit_53 : decode cX8_wouldFit 53 = .ok (.iinc 5 1, 3) := by decide +kernel
theorem dX8_wouldFit_56 : decode cX8_wouldFit 56 = .ok (.goto (-53), 3) := by decide +kernel
theorem dX8_wouldFit_59 : decode cX8_wouldFit 59 = .ok (.iconst 1, 1) := by decide +kernel
theorem dX8_wouldFit_60 : decode cX8_wouldFit 60 = .ok (.ireturn, 1) := by decide +kernel
set_option maxRecDepth 20000 in
theorem ggX8_wheels_X8_canBe : GoodIn wsX8_wheels wsX8_canBe := goodIn_r _ [7, 8, 9, 10, 6, 11, 12, 13, 14, 15, 16, 17, 18, 19, 20, 21, 22, 41, 42, 43, 44, 45, 46, 47, 48, 49, 50, 51, 52, 53, 54, 55, 56, 57] (by decide +kernel) (by decide +kernel)
set_option maxRecDepth 20000 in
theorem gX8_wheels_X8_canBe : GoodIn wsX8_wheels (wsV RX8 203 RX8 yX8_canBe wsX8_canBe) := goodIn_app (goodIn_of _ (by decide +kernel)) ggX8_wheels_X8_canBe
set_option maxRecDepth 20000 in
theorem ggX8_wheels_X8_in : GoodIn wsX8_wheels wsX8_in := goodIn_r _ [17] (by decide +kernel) (by decide +kernel)
set_option maxRecDepth 20000 in
theorem gX8_wheels_X8_in : GoodIn wsX8_wheels (va_wsS RX8 38 yX8_in wsX8_in) := goodIn_app (goodIn_of _ (by decide +kernel)) ggX8_wheels_X8_in
set_option maxRecDepth 20000 in
theorem ggX8_wheels_X8_refused : GoodIn wsX8_wheels wsX8_refused := goodIn_r _ [26, 1, 41, 42, 43, 44, 45, 46, 47, 48, 49, 50, 51, 52, 53, 54, 55, 56, 57] (by decide +kernel) (by decide +kernel)
set_option maxRecDepth 20000 in
theorem gX8_wheels_X8_refused : GoodIn wsX8_wheels (wsV RX8 83 RX8 yX8_refused wsX8_refused) := goodIn_app (goodIn_of _ (by decide +kernel)) ggX8_wheels_X8_refused
set_option maxRecDepth 20000 in
theorem ggX8_wheels_X8_wouldFit : GoodIn wsX8_wheels wsX8_wouldFit := goodIn_r _ [30, 22, 31, 32, 33, 6, 34, 35, 36, 37, 38, 39, 40, 41, 42, 43, 44, 45, 46, 47, 48, 49, 50, 51, 52, 53, 54, 55, 56, 57] (by decide +kernel) (by decide +kernel)
set_option maxRecDepth 20000 in
theorem gX8_wheels_X8_wouldFit : GoodIn wsX8_wheels (wsV RX8 220 RX8 yX8_wouldFit wsX8_wouldFit) := goodIn_app (goodIn_of _ (by decide +kernel)) ggX8_wheels_X8_wouldFit
theorem dX8_wheels_0 : decode cX8_wheels 0 = .ok (.aload_n 0, 1) := by decide +kernel
theorem dX8_wheels_1 : decode cX8_wheels 1 = .ok (.iconst 0, 1) := by decide +kernel
theorem dX8_wheels_2 : decode cX8_wheels 2 = .ok (.putfield 31, 3) := by decide +kernel
theorem dX8_wheels_5 : decode cX8_wheels 5 = .ok (.aload_n 0, 1) := by decide +kernel
theorem dX8_wheels_6 : decode cX8_wheels 6 = .ok (.iconst 5, 1) := by decide +kernel
theorem dX8_wheels_7 : decode cX8_wheels 7 = .ok (.iload_n 1, 1) := by decide +kernel
theorem dX8_wheels_8 : decode cX8_wheels 8 = .ok (.iload_n 2, 1) := by decide +kernel
theorem dX8_wheels_9 : decode cX8_wheels 9 = .ok (.iload_n 3, 1) := by decide +kernel
theorem dX8_wheels_10 : decode cX8_wheels 10 = .ok (.invokevirtual 203, 3) := by decide +kernel
theorem dX8_wheels_13 : decode cX8_wheels 13 = .ok (.ifCond .eq 16, 3) := by decide +kernel
theorem dX8_wheels_16 : decode cX8_wheels 16 = .ok (.iload 4, 2) := by decide +kernel
theorem dX8_wheels_18 : decode cX8_wheels 18 = .ok (.i2l, 1) := by decide +kernel
theorem dX8_wheels_19 : decode cX8_wheels 19 = .ok (.lconst 0, 1) := by decide +kernel
theorem dX8_wheels_20 : decode cX8_wheels 20 = .ok (.ldc2_w 166, 3) := by decide +kernel
theorem dX8_wheels_23 : decode cX8_wheels 23 = .ok (.invokestatic 38, 3) := by decide +kernel
theorem dX8_wheels_26 : decode cX8_wheels 26 = .ok (.ifCond .ne 9, 3) := by decide +kernel
theorem dX8_wheels_29 : decode cX8_wheels 29 = .ok (.aload_n 0, 1) := by decide +kernel
theorem dX8_wheels_30 : decode cX8_wheels 30 = .ok (.iconst 1, 1) := by decide +kernel
theorem dX8_wheels_31 : decode cX8_wheels 31 = .ok (.invokevirtual 83, 3) := by decide +kernel
theorem dX8_wheels_34 : decode cX8_wheels 34 = .ok (.ireturn, 1) := by decide +kernel
theorem dX8_wheels_35 : decode cX8_wheels 35 = .ok (.iconst 0, 1) := by decide +kernel
theorem dX8_wheels_36 : decode cX8_wheels 36 = .ok (.istore 5, 2) := by decide +kernel
theorem dX8_wheels_38 : decode cX8_wheels 38 = .ok (.bipush (-9), 2) := by decide +kernel
theorem dX8_wheels_40 : decode cX8_wheels 40 = .ok (.istore 6, 2) := by decide +kernel
theorem dX8_wheels_42 : decode cX8_wheels 42 = .ok (.bipush (-9), 2) := by decide +kernel
theorem dX8_wheels_44 : decode cX8_wheels 44 = .ok (.istore 7, 2) := by decide +kernel
theorem dX8_wheels_46 : decode cX8_wheels 46 = .ok (.iconst 5, 1) := by decide +kernel
theorem dX8_wheels_47 : decode cX8_wheels 47 = .ok (.istore 8, 2) := by decide +kernel
theorem dX8_wheels_49 : decode cX8_wheels 49 = .ok (.iload 8, 2) := by decide +kernel
theorem dX8_wheels_51 : decode cX8_wheels 51 = .ok (.bipush 60, 2) := by decide +kernel
theorem dX8_wheels_53 : decode cX8_wheels 53 = .ok (.if_icmp .gt 44, 3) := by decide +kernel
theorem dX8_wheels_56 : decode cX8_wheels 56 = .ok (.aload_n 0, 1) := by decide +kernel
theorem dX8_wheels_57 : decode cX8_wheels 57 = .ok (.iload 8, 2) := by decide +kernel
theorem dX8_wheels_59 : decode cX8_wheels 59 = .ok (.iload_n 1, 1) := by decide +kernel
theorem dX8_wheels_60 : decode cX8_wheels 60 = .ok (.iload_n 2, 1) := by decide +kernel
theorem dX8_wheels_61 : decode cX8_wheels 61 = .ok (.iload_n 3, 1) := by decide +kernel
theorem dX8_wheels_62 : decode cX8_wheels 62 = .ok (.invokevirtual 220, 3) := by decide +kernel
theorem dX8_wheels_65 : decode cX8_wheels 65 = .ok (.ifCond .eq 26, 3) := by decide +kernel
theorem dX8_wheels_68 : decode cX8_wheels 68 = .ok (.iinc 5 1, 3) := by decide +kernel
theorem dX8_wheels_71 : decode cX8_wheels 71 = .ok (.iload 6, 2) := by decide +kernel
theorem dX8_wheels_73 : decode cX8_wheels 73 = .ok (.bipush (-9), 2) := by decide +kernel
theorem dX8_wheels_75 : decode cX8_wheels 75 = .ok (.if_icmp .ne 8, 3) := by decide +kernel
theorem dX8_wheels_78 : decode cX8_wheels 78 = .ok (.iload 8, 2) := by decide +kernel
theorem dX8_wheels_80 : decode cX8_wheels 80 = .ok (.goto 5, 3) := by decide +kernel
theorem dX8_wheels_83 : decode cX8_wheels 83 = .ok (.iload 6, 2) := by decide +kernel
theorem dX8_wheels_85 : decode cX8_wheels 85 = .ok (.istore 6, 2) := by decide +kernel
theorem dX8_wheels_87 : decode cX8_wheels 87 = .ok (.iload 8, 2) := by decide +kernel
theorem dX8_wheels_89 : decode cX8_wheels 89 = .ok (.istore 7, 2) := by decide +kernel
theorem dX8_wheels_91 : decode cX8_wheels 91 = .ok (.iinc 8 1, 3) := by decide +kernel
theorem dX8_wheels_94 : decode cX8_wheels 94 = .ok (.goto (-45), 3) := by decide +kernel
theorem dX8_wheels_97 : decode cX8_wheels 97 = .ok (.iload 4, 2) := by decide +kernel
theorem dX8_wheels_99 : decode cX8_wheels 99 = .ok (.ifCond .ne 8, 3) := by decide +kernel
theorem dX8_wheels_102 : decode cX8_wheels 102 = .ok (.iload 5, 2) := by decide +kernel
theorem dX8_wheels_104 : decode cX8_wheels 104 = .ok (.goto 16, 3) := by decide +kernel
theorem dX8_wheels_107 : decode cX8_wheels 107 = .ok (.iload 4, 2) := by decide +kernel
theorem dX8_wheels_109 : decode cX8_wheels 109 = .ok (.iconst 1, 1) := by decide +kernel
theorem dX8_wheels_110 : decode cX8_wheels 110 = .ok (.if_icmp .ne 8, 3) := by decide +kernel
theorem dX8_wheels_113 : decode cX8_wheels 113 = .ok (.iload 6, 2) := by decide +kernel
theorem dX8_wheels_115 : decode cX8_wheels 115 = .ok (.goto 5, 3) := by decide +kernel
theorem dX8_wheels_118 : decode cX8_wheels 118 = .ok (.iload 7, 2) := by decide +kernel
theorem dX8_wheels_120 : decode cX8_wheels 120 = .ok (.ireturn, 1) := by decide +kernel
set_option maxRecDepth 20000 in
theorem ggX8_wheelFor_X8_in : GoodIn wsX8_wheelFor wsX8_in := goodIn_r _ [7] (by decide +kernel) (by decide +kernel)
set_option maxRecDepth 20000 in
theorem gX8_wheelFor_X8_in : GoodIn wsX8_wheelFor (va_wsS RX8 38 yX8_in wsX8_in) := goodIn_app (goodIn_of _ (by decide +kernel)) ggX8_wheelFor_X8_in
set_option maxRecDepth 20000 in
theorem ggX8_wheelFor_X8_refused : GoodIn wsX8_wheelFor wsX8_refused := goodIn_r _ [11, 1, 15, 16, 17, 18, 19, 20, 21, 22, 23, 24, 25, 26, 27, 28, 29, 30, 31] (by decide +kernel) (by decide +kernel)
set_option maxRecDepth 20000 in
theorem gX8_wheelFor_X8_refused : GoodIn wsX8_wheelFor (wsV RX8 83 RX8 yX8_refused wsX8_refused) := goodIn_app (goodIn_of _ (by decide +kernel)) ggX8_wheelFor_X8_refused
set_option maxRecDepth 20000 in
theorem ggX8_wheelFor_X8_divisor : GoodIn wsX8_wheelFor wsX8_divisor := goodIn_r _ [14] (by decide +kernel) (by decide +kernel)
set_option maxRecDepth 20000 in
theorem gX8_wheelFor_X8_divisor : GoodIn wsX8_wheelFor (va_wsS RX8 46 yX8_divisor wsX8_divisor) := goodIn_app (goodIn_of _ (by decide +kernel)) ggX8_wheelFor_X8_divisor
theorem dX8_wheelFor_0 : decode cX8_wheelFor 0 = .ok (.aload_n 0, 1) := by decide +kernel
theorem dX8_wheelFor_1 : decode cX8_wheelFor 1 = .ok (.iconst 0, 1) := by decide +kernel
theorem dX8_wheelFor_2 : decode cX8_wheelFor 2 = .ok (.putfield 31, 3) := by decide +kernel
theorem dX8_wheelFor_5 : decode cX8_wheelFor 5 = .ok (.iload_n 1, 1) := by decide +kernel
theorem dX8_wheelFor_6 : decode cX8_wheelFor 6 = .ok (.i2l, 1) := by decide +kernel
theorem dX8_wheelFor_7 : decode cX8_wheelFor 7 = .ok (.lconst 1, 1) := by decide +kernel
theorem dX8_wheelFor_8 : decode cX8_wheelFor 8 = .ok (.ldc2_w 196, 3) := by decide +kernel
theorem dX8_wheelFor_11 : decode cX8_wheelFor 11 = .ok (.invokestatic 38, 3) := by decide +kernel
theorem dX8_wheelFor_14 : decode cX8_wheelFor 14 = .ok (.ifCond .ne 9, 3) := by decide +kernel
theorem dX8_wheelFor_17 : decode cX8_wheelFor 17 = .ok (.aload_n 0, 1) := by decide +kernel
theorem dX8_wheelFor_18 : decode cX8_wheelFor 18 = .ok (.iconst 1, 1) := by decide +kernel
theorem dX8_wheelFor_19 : decode cX8_wheelFor 19 = .ok (.invokevirtual 83, 3) := by decide +kernel
theorem dX8_wheelFor_22 : decode cX8_wheelFor 22 = .ok (.ireturn, 1) := by decide +kernel
theorem dX8_wheelFor_23 : decode cX8_wheelFor 23 = .ok (.bipush 60, 2) := by decide +kernel
theorem dX8_wheelFor_25 : decode cX8_wheelFor 25 = .ok (.istore_n 2, 1) := by decide +kernel
theorem dX8_wheelFor_26 : decode cX8_wheelFor 26 = .ok (.iload_n 2, 1) := by decide +kernel
theorem dX8_wheelFor_27 : decode cX8_wheelFor 27 = .ok (.iconst 5, 1) := by decide +kernel
theorem dX8_wheelFor_28 : decode cX8_wheelFor 28 = .ok (.if_icmp .lt 27, 3) := by decide +kernel
theorem dX8_wheelFor_31 : decode cX8_wheelFor 31 = .ok (.iload_n 2, 1) := by decide +kernel
theorem dX8_wheelFor_32 : decode cX8_wheelFor 32 = .ok (.aload_n 0, 1) := by decide +kernel
theorem dX8_wheelFor_33 : decode cX8_wheelFor 33 = .ok (.getfield 7, 3) := by decide +kernel
theorem dX8_wheelFor_36 : decode cX8_wheelFor 36 = .ok (.iconst 0, 1) := by decide +kernel
theorem dX8_wheelFor_37 : decode cX8_wheelFor 37 = .ok (.iaload, 1) := by decide +kernel
theorem dX8_wheelFor_38 : decode cX8_wheelFor 38 = .ok (.iload_n 2, 1) := by decide +kernel
theorem dX8_wheelFor_39 : decode cX8_wheelFor 39 = .ok (.invokestatic 46, 3) := by decide +kernel
theorem dX8_wheelFor_42 : decode cX8_wheelFor 42 = .ok (.idiv, 1) := by decide +kernel
theorem dX8_wheelFor_43 : decode cX8_wheelFor 43 = .ok (.iload_n 1, 1) := by decide +kernel
theorem dX8_wheelFor_44 : decode cX8_wheelFor 44 = .ok (.if_icmp .ne 5, 3) := by decide +kernel
theorem dX8_wheelFor_47 : decode cX8_wheelFor 47 = .ok (.iload_n 2, 1) := by decide +kernel
theorem dX8_wheelFor_48 : decode cX8_wheelFor 48 = .ok (.ireturn, 1) := by decide +kernel
theorem dX8_wheelFor_49 : decode cX8_wheelFor 49 = .ok (.iinc 2 (-1), 3) := by decide +kernel
theorem dX8_wheelFor_52 : decode cX8_wheelFor 52 = .ok (.goto (-26), 3) := by decide +kernel
theorem dX8_wheelFor_55 : decode cX8_wheelFor 55 = .ok (.bipush (-9), 2) := by decide +kernel
theorem dX8_wheelFor_57 : decode cX8_wheelFor 57 = .ok (.ireturn, 1) := by decide +kernel
set_option maxRecDepth 20000 in
theorem ggX8_succeeds_X8_isLayer : GoodIn wsX8_succeeds wsX8_isLayer := goodIn_r _ [7, 2, 8, 9, 6, 10, 111, 112, 113, 114, 115, 116, 117, 118, 119, 120, 121, 122, 123, 124, 125, 126, 127] (by decide +kernel) (by decide +kernel)
set_option maxRecDepth 20000 in
theorem gX8_succeeds_X8_isLayer : GoodIn wsX8_succeeds (wsV RX8 138 RX8 yX8_isLayer wsX8_isLayer) := goodIn_app (goodIn_of _ (by decide +kernel)) ggX8_succeeds_X8_isLayer
set_option maxRecDepth 20000 in
theorem ggX8_succeeds_X8_can : GoodIn wsX8_succeeds wsX8_can := goodIn_r _ [14, 15, 16, 17, 8, 9, 6, 10, 18, 19, 20, 21, 1, 111, 112, 113, 114, 115, 116, 117, 118, 119, 120, 121, 122, 123, 124, 125, 126, 127] (by decide +kernel) (by decide +kernel)
set_option maxRecDepth 20000 in
theorem gX8_succeeds_X8_can : GoodIn wsX8_succeeds (wsV RX8 200 RX8 yX8_can wsX8_can) := goodIn_app (goodIn_of _ (by decide +kernel)) ggX8_succeeds_X8_can
set_option maxRecDepth 20000 in
theorem ggX8_succeeds_X8_drop : GoodIn wsX8_succeeds wsX8_drop := goodIn_r _ [25, 1, 2, 111, 112, 113, 114, 115, 116, 117, 118, 119, 120, 121, 122, 123, 124, 125, 126, 127] (by decide +kernel) (by decide +kernel)
set_option maxRecDepth 20000 in
theorem gX8_succeeds_X8_drop : GoodIn wsX8_succeeds (wsV RX8 210 RX8 yX8_drop wsX8_drop) := goodIn_app (goodIn_of _ (by decide +kernel)) ggX8_succeeds_X8_drop
set_option maxRecDepth 20000 in
theorem ggX8_succeeds_X8_isTeeth : GoodIn wsX8_succeeds wsX8_isTeeth := goodIn_r _ [28, 29, 30, 8, 9, 6, 10] (by decide +kernel) (by decide +kernel)
set_option maxRecDepth 20000 in
theorem gX8_succeeds_X8_isTeeth : GoodIn wsX8_succeeds (va_wsS RX8 185 yX8_isTeeth wsX8_isTeeth) := goodIn_app (goodIn_of _ (by decide +kernel)) ggX8_succeeds_X8_isTeeth
set_option maxRecDepth 20000 in
theorem ggX8_succeeds_X8_takeRing : GoodIn wsX8_succeeds wsX8_takeRing := goodIn_r _ [34, 1, 2, 35, 36, 37, 6, 38, 111, 112, 113, 114, 115, 116, 117, 118, 119, 120, 121, 122, 123, 124, 125, 126, 127] (by decide +kernel) (by decide +kernel)
set_option maxRecDepth 20000 in
theorem gX8_succeeds_X8_takeRing : GoodIn wsX8_succeeds (wsV RX8 191 RX8 yX8_takeRing wsX8_takeRing) := goodIn_app (goodIn_of _ (by decide +kernel)) ggX8_succeeds_X8_takeRing
set_option maxRecDepth 20000 in
theorem ggX8_succeeds_X8_canBe : GoodIn wsX8_succeeds wsX8_canBe := goodIn_r _ [42, 11, 12, 13, 6, 14, 15, 16, 17, 8, 9, 10, 18, 19, 20, 21, 1, 111, 112, 113, 114, 115, 116, 117, 118, 119, 120, 121, 122, 123, 124, 125, 126, 127] (by decide +kernel) (by decide +kernel)
set_option maxRecDepth 20000 in
theorem gX8_succeeds_X8_canBe : GoodIn wsX8_succeeds (wsV RX8 203 RX8 yX8_canBe wsX8_canBe) := goodIn_app (goodIn_of _ (by decide +kernel)) ggX8_succeeds_X8_canBe
set_option maxRecDepth 20000 in
theorem ggX8_succeeds_X8_lay : GoodIn wsX8_succeeds wsX8_lay := goodIn_r _ [46, 2, 1, 111, 112, 113, 114, 115, 116, 117, 118, 119, 120, 121, 122, 123, 124, 125, 126, 127] (by decide +kernel) (by decide +kernel)
set_option maxRecDepth 20000 in
theorem gX8_succeeds_X8_lay : GoodIn wsX8_succeeds (wsV RX8 207 RX8 yX8_lay wsX8_lay) := goodIn_app (goodIn_of _ (by decide +kernel)) ggX8_succeeds_X8_lay
set_option maxRecDepth 20000 in
theorem ggX8_succeeds_X8_inBoth : GoodIn wsX8_succeeds wsX8_inBoth := goodIn_r _ [50, 51, 52, 53, 54, 6, 55, 56, 57, 58, 59, 60, 61, 62, 63, 64, 1, 65, 66, 67, 68, 69, 70, 71, 72, 73, 74, 75, 35, 36, 37, 38, 76, 77, 78, 79, 80, 81, 82, 111, 112, 113, 114, 115, 116, 117, 118, 119, 120, 121, 122, 123, 124, 125, 126, 127] (by decide +kernel) (by decide +kernel)
set_option maxRecDepth 20000 in
theorem gX8_succeeds_X8_inBoth : GoodIn wsX8_succeeds (wsV RX8 168 RX8 yX8_inBoth wsX8_inBoth) := goodIn_app (goodIn_of _ (by decide +kernel)) ggX8_succeeds_X8_inBoth
set_option maxRecDepth 20000 in
theorem ggX8_succeeds_X8_turns : GoodIn wsX8_succeeds wsX8_turns := goodIn_r _ [86, 1, 61, 62, 63, 6, 64, 65, 66, 67, 68, 69, 70, 71, 111, 112, 113, 114, 115, 116, 117, 118, 119, 120, 121, 122, 123, 124, 125, 126, 127] (by decide +kernel) (by decide +kernel)
set_option maxRecDepth 20000 in
theorem gX8_succeeds_X8_turns : GoodIn wsX8_succeeds (wsV RX8 141 RX8 yX8_turns wsX8_turns) := goodIn_app (goodIn_of _ (by decide +kernel)) ggX8_succeeds_X8_turns
set_option maxRecDepth 20000 in
theorem ggX8_succeeds_X8_turnedBy : GoodIn wsX8_succeeds wsX8_turnedBy := goodIn_r _ [90, 1, 51, 56, 57, 58, 6, 59, 60, 61, 62, 63, 64, 65, 66, 67, 68, 69, 70, 71, 72, 73, 74, 75, 35, 36, 37, 38, 76, 77, 78, 79, 80, 81, 82, 91, 92, 93, 94, 52, 53, 54, 55, 111, 112, 113, 114, 115, 116, 117, 118, 119, 120, 121, 122, 123, 124, 125, 126, 127] (by decide +kernel) (by decide +kernel)
set_option maxRecDepth 20000 in
theorem gX8_succeeds_X8_turnedBy : GoodIn wsX8_succeeds (wsV RX8 174 RX8 yX8_turnedBy wsX8_turnedBy) := goodIn_app (goodIn_of _ (by decide +kernel)) ggX8_succeeds_X8_turnedBy
set_option maxRecDepth 20000 in
theorem ggX8_succeeds_X8_fitting : GoodIn wsX8_succeeds wsX8_fitting := goodIn_r _ [98, 2, 99, 100, 101, 6, 102, 1, 103, 104, 105, 106, 61, 62, 63, 64, 65, 66, 67, 68, 69, 70, 71, 72, 73, 74, 75, 35, 36, 37, 38, 76, 77, 78, 79, 80, 81, 82, 111, 112, 113, 114, 115, 116, 117, 118, 119, 120, 121, 122, 123, 124, 125, 126, 127] (by decide +kernel) (by decide +kernel)
set_option maxRecDepth 20000 in
theorem gX8_succeeds_X8_fitting : GoodIn wsX8_succeeds (wsV RX8 135 RX8 yX8_fitting wsX8_fitting) := goodIn_app (goodIn_of _ (by decide +kernel)) ggX8_succeeds_X8_fitting
set_option maxRecDepth 20000 in
theorem ggX8_succeeds_X8_lobes : GoodIn wsX8_succeeds wsX8_lobes := goodIn_r _ [110, 61, 62, 63, 6, 64, 1, 65, 66, 67, 68, 69, 70, 71, 111, 112, 113, 114, 115, 116, 117, 118, 119, 120, 121, 122, 123, 124, 125, 126, 127] (by decide +kernel) (by decide +kernel)
set_option maxRecDepth 20000 in
theorem gX8_succeeds_X8_lobes : GoodIn wsX8_succeeds (wsV RX8 144 RX8 yX8_lobes wsX8_lobes) := goodIn_app (goodIn_of _ (by decide +kernel)) ggX8_succeeds_X8_lobes
theorem dX8_succeeds_0 : decode cX8_succeeds 0 = .ok (.iload_n 1, 1) := by decide +kernel
theorem dX8_succeeds_1 : decode cX8_succeeds 1 = .ok (.sipush 1000, 3) := by decide +kernel
theorem dX8_succeeds_4 : decode cX8_succeeds 4 = .ok (.idiv, 1) := by decide +kernel
theorem dX8_succeeds_5 : decode cX8_succeeds 5 = .ok (.bipush 10, 2) := by decide +kernel
theorem dX8_succeeds_7 : decode cX8_succeeds 7 = .ok (.irem, 1) := by decide +kernel
theorem dX8_succeeds_8 : decode cX8_succeeds 8 = .ok (.istore_n 2, 1) := by decide +kernel
theorem dX8_succeeds_9 : decode cX8_succeeds 9 = .ok (.iload_n 1, 1) := by decide +kernel
theorem dX8_succeeds_10 : decode cX8_succeeds 10 = .ok (.bipush 100, 2) := by decide +kernel
theorem dX8_succeeds_12 : decode cX8_succeeds 12 = .ok (.idiv, 1) := by decide +kernel
theorem dX8_succeeds_13 : decode cX8_succeeds 13 = .ok (.bipush 10, 2) := by decide +kernel
theorem dX8_succeeds_15 : decode cX8_succeeds 15 = .ok (.irem, 1) := by decide +kernel
theorem dX8_succeeds_16 : decode cX8_succeeds 16 = .ok (.istore_n 3, 1) := by decide +kernel
theorem dX8_succeeds_17 : decode cX8_succeeds 17 = .ok (.iload_n 1, 1) := by decide +kernel
theorem dX8_succeeds_18 : decode cX8_succeeds 18 = .ok (.bipush 100, 2) := by decide +kernel
theorem dX8_succeeds_20 : decode cX8_succeeds 20 = .ok (.irem, 1) := by decide +kernel
theorem dX8_succeeds_21 : decode cX8_succeeds 21 = .ok (.istore 4, 2) := by decide +kernel
theorem dX8_succeeds_23 : decode cX8_succeeds 23 = .ok (.iload_n 1, 1) := by decide +kernel
theorem dX8_succeeds_24 : decode cX8_succeeds 24 = .ok (.sipush 10000, 3) := by decide +kernel
theorem dX8_succeeds_27 : decode cX8_succeeds 27 = .ok (.idiv, 1) := by decide +kernel
theorem dX8_succeeds_28 : decode cX8_succeeds 28 = .ok (.tableswitch 348 1 9 #[52, 88, 118, 149, 204, 237, 265, 298, 320], 52) := by decide +kernel
theorem dX8_succeeds_80 : decode cX8_succeeds 80 = .ok (.aload_n 0, 1) := by decide +kernel
theorem dX8_succeeds_81 : decode cX8_succeeds 81 = .ok (.iload_n 2, 1) := by decide +kernel
theorem dX8_succeeds_82 : decode cX8_succeeds 82 = .ok (.invokevirtual 138, 3) := by decide +kernel
theorem dX8_succeeds_85 : decode cX8_succeeds 85 = .ok (.ifCond .eq 13, 3) := by decide +kernel
theorem dX8_succeeds_88 : decode cX8_succeeds 88 = .ok (.aload_n 0, 1) := by decide +kernel
theorem dX8_succeeds_89 : decode cX8_succeeds 89 = .ok (.iload_n 3, 1) := by decide +kernel
theorem dX8_succeeds_90 : decode cX8_succeeds 90 = .ok (.iload 4, 2) := by decide +kernel
theorem dX8_succeeds_92 : decode cX8_succeeds 92 = .ok (.invokevirtual 200, 3) := by decide +kernel
theorem dX8_succeeds_95 : decode cX8_succeeds 95 = .ok (.ifCond .ne 5, 3) := by decide +kernel
theorem dX8_succeeds_98 : decode cX8_succeeds 98 = .ok (.iconst 0, 1) := by decide +kernel
theorem dX8_succeeds_99 : decode cX8_succeeds 99 = .ok (.ireturn, 1) := by decide +kernel
theorem dX8_succeeds_100 : decode cX8_succeeds 100 = .ok (.aload_n 0, 1) := by decide +kernel
theorem dX8_succeeds_101 : decode cX8_succeeds 101 = .ok (.getfield 7, 3) := by decide +kernel
theorem dX8_succeeds_104 : decode cX8_succeeds 104 = .ok (.iconst 4, 1) := by decide +kernel
theorem dX8_succeeds_105 : decode cX8_succeeds 105 = .ok (.iload_n 2, 1) := by decide +kernel
theorem dX8_succeeds_106 : decode cX8_succeeds 106 = .ok (.imul, 1) := by decide +kernel
theorem dX8_succeeds_107 : decode cX8_succeeds 107 = .ok (.iconst 1, 1) := by decide +kernel
theorem dX8_succeeds_108 : decode cX8_succeeds 108 = .ok (.iadd, 1) := by decide +kernel
theorem dX8_succeeds_109 : decode cX8_succeeds 109 = .ok (.iload_n 3, 1) := by decide +kernel
theorem dX8_succeeds_110 : decode cX8_succeeds 110 = .ok (.iadd, 1) := by decide +kernel
theorem dX8_succeeds_111 : decode cX8_succeeds 111 = .ok (.iload 4, 2) := by decide +kernel
theorem dX8_succeeds_113 : decode cX8_succeeds 113 = .ok (.iastore, 1) := by decide +kernel
theorem dX8_succeeds_114 : decode cX8_succeeds 114 = .ok (.iconst 1, 1) := by decide +kernel
theorem dX8_succeeds_115 : decode cX8_succeeds 115 = .ok (.ireturn, 1) := by decide +kernel
theorem dX8_succeeds_116 : decode cX8_succeeds 116 = .ok (.aload_n 0, 1) := by decide +kernel
theorem dX8_succeeds_117 : decode cX8_succeeds 117 = .ok (.iload_n 2, 1) := by decide +kernel
theorem dX8_succeeds_118 : decode cX8_succeeds 118 = .ok (.invokevirtual 138, 3) := by decide +kernel
theorem dX8_succeeds_121 : decode cX8_succeeds 121 = .ok (.ifCond .eq 23, 3) := by decide +kernel
theorem dX8_succeeds_124 : decode cX8_succeeds 124 = .ok (.iload_n 1, 1) := by decide +kernel
theorem dX8_succeeds_125 : decode cX8_succeeds 125 = .ok (.sipush 1000, 3) := by decide +kernel
theorem dX8_succeeds_128 : decode cX8_succeeds 128 = .ok (.irem, 1) := by decide +kernel
theorem dX8_succeeds_129 : decode cX8_succeeds 129 = .ok (.ifCond .ne 15, 3) := by decide +kernel
theorem dX8_succeeds_132 : decode cX8_succeeds 132 = .ok (.aload_n 0, 1) := by decide +kernel
theorem dX8_succeeds_133 : decode cX8_succeeds 133 = .ok (.iload_n 2, 1) := by decide +kernel
theorem dX8_succeeds_134 : decode cX8_succeeds 134 = .ok (.invokevirtual 210, 3) := by decide +kernel
theorem dX8_succeeds_137 : decode cX8_succeeds 137 = .ok (.ifCond .lt 7, 3) := by decide +kernel
theorem dX8_succeeds_140 : decode cX8_succeeds 140 = .ok (.iconst 1, 1) := by decide +kernel
theorem dX8_succeeds_141 : decode cX8_succeeds 141 = .ok (.goto 4, 3) := by decide +kernel
theorem dX8_succeeds_144 : decode cX8_succeeds 144 = .ok (.iconst 0, 1) := by decide +kernel
theorem dX8_succeeds_145 : decode cX8_succeeds 145 = .ok (.ireturn, 1) := by decide +kernel
theorem dX8_succeeds_146 : decode cX8_succeeds 146 = .ok (.iload_n 2, 1) := by decide +kernel
theorem dX8_succeeds_147 : decode cX8_succeeds 147 = .ok (.ifCond .ne 28, 3) := by decide +kernel
theorem dX8_succeeds_150 : decode cX8_succeeds 150 = .ok (.iload_n 3, 1) := by decide +kernel
theorem dX8_succeeds_151 : decode cX8_succeeds 151 = .ok (.ifCond .ne 24, 3) := by decide +kernel
theorem dX8_succeeds_154 : decode cX8_succeeds 154 = .ok (.iload 4, 2) := by decide +kernel
theorem dX8_succeeds_156 : decode cX8_succeeds 156 = .ok (.invokestatic 185, 3) := by decide +kernel
theorem dX8_succeeds_159 : decode cX8_succeeds 159 = .ok (.ifCond .eq 16, 3) := by decide +kernel
theorem dX8_succeeds_162 : decode cX8_succeeds 162 = .ok (.aload_n 0, 1) := by decide +kernel
theorem dX8_succeeds_163 : decode cX8_succeeds 163 = .ok (.iload 4, 2) := by decide +kernel
theorem dX8_succeeds_165 : decode cX8_succeeds 165 = .ok (.invokevirtual 191, 3) := by decide +kernel
theorem dX8_succeeds_168 : decode cX8_succeeds 168 = .ok (.ifCond .le 7, 3) := by decide +kernel
theorem dX8_succeeds_171 : decode cX8_succeeds 171 = .ok (.iconst 1, 1) := by decide +kernel
theorem dX8_succeeds_172 : decode cX8_succeeds 172 = .ok (.goto 4, 3) := by decide +kernel
theorem dX8_succeeds_175 : decode cX8_succeeds 175 = .ok (.iconst 0, 1) := by decide +kernel
theorem dX8_succeeds_176 : decode cX8_succeeds 176 = .ok (.ireturn, 1) := by decide +kernel
theorem dX8_succeeds_177 : decode cX8_succeeds 177 = .ok (.aload_n 0, 1) := by decide +kernel
theorem dX8_succeeds_178 : decode cX8_succeeds 178 = .ok (.iload_n 1, 1) := by decide +kernel
theorem dX8_succeeds_179 : decode cX8_succeeds 179 = .ok (.bipush 10, 2) := by decide +kernel
theorem dX8_succeeds_181 : decode cX8_succeeds 181 = .ok (.idiv, 1) := by decide +kernel
theorem dX8_succeeds_182 : decode cX8_succeeds 182 = .ok (.bipush 100, 2) := by decide +kernel
theorem dX8_succeeds_184 : decode cX8_succeeds 184 = .ok (.irem, 1) := by decide +kernel
theorem dX8_succeeds_185 : decode cX8_succeeds 185 = .ok (.iload_n 2, 1) := by decide +kernel
theorem dX8_succeeds_186 : decode cX8_succeeds 186 = .ok (.iload_n 1, 1) := by decide +kernel
theorem dX8_succeeds_187 : decode cX8_succeeds 187 = .ok (.bipush 10, 2) := by decide +kernel
theorem dX8_succeeds_189 : decode cX8_succeeds 189 = .ok (.irem, 1) := by decide +kernel
theorem dX8_succeeds_190 : decode cX8_succeeds 190 = .ok (.iconst 0, 1) := by decide +kernel
theorem dX8_succeeds_191 : decode cX8_succeeds 191 = .ok (.invokevirtual 203, 3) := by decide +kernel
theorem dX8_succeeds_194 : decode cX8_succeeds 194 = .ok (.ifCond .eq 36, 3) := by decide +kernel
theorem dX8_succeeds_197 : decode cX8_succeeds 197 = .ok (.aload_n 0, 1) := by decide +kernel
theorem dX8_succeeds_198 : decode cX8_succeeds 198 = .ok (.getfield 35, 3) := by decide +kernel
theorem dX8_succeeds_201 : decode cX8_succeeds 201 = .ok (.bipush 6, 2) := by decide +kernel
theorem dX8_succeeds_203 : decode cX8_succeeds 203 = .ok (.if_icmp .ge 27, 3) := by decide +kernel
theorem dX8_succeeds_206 : decode cX8_succeeds 206 = .ok (.aload_n 0, 1) := by decide +kernel
theorem dX8_succeeds_207 : decode cX8_succeeds 207 = .ok (.iload_n 1, 1) := by decide +kernel
theorem dX8_succeeds_208 : decode cX8_succeeds 208 = .ok (.bipush 10, 2) := by decide +kernel
theorem dX8_succeeds_210 : decode cX8_succeeds 210 = .ok (.idiv, 1) := by decide +kernel
theorem dX8_succeeds_211 : decode cX8_succeeds 211 = .ok (.bipush 100, 2) := by decide +kernel
theorem dX8_succeeds_213 : decode cX8_succeeds 213 = .ok (.irem, 1) := by decide +kernel
theorem dX8_succeeds_214 : decode cX8_succeeds 214 = .ok (.iload_n 2, 1) := by decide +kernel
theorem dX8_succeeds_215 : decode cX8_succeeds 215 = .ok (.iload_n 1, 1) := by decide +kernel
theorem dX8_succeeds_216 : decode cX8_succeeds 216 = .ok (.bipush 10, 2) := by decide +kernel
theorem dX8_succeeds_218 : decode cX8_succeeds 218 = .ok (.irem, 1) := by decide +kernel
theorem dX8_succeeds_219 : decode cX8_succeeds 219 = .ok (.iconst 0, 1) := by decide +kernel
theorem dX8_succeeds_220 : decode cX8_succeeds 220 = .ok (.invokevirtual 207, 3) := by decide +kernel
theorem dX8_succeeds_223 : decode cX8_succeeds 223 = .ok (.ifCond .lt 7, 3) := by decide +kernel
theorem dX8_succeeds_226 : decode cX8_succeeds 226 = .ok (.iconst 1, 1) := by decide +kernel
theorem dX8_succeeds_227 : decode cX8_succeeds 227 = .ok (.goto 4, 3) := by decide +kernel
theorem dX8_succeeds_230 : decode cX8_succeeds 230 = .ok (.iconst 0, 1) := by decide +kernel
theorem dX8_succeeds_231 : decode cX8_succeeds 231 = .ok (.ireturn, 1) := by decide +kernel
theorem dX8_succeeds_232 : decode cX8_succeeds 232 = .ok (.aload_n 0, 1) := by decide +kernel
theorem dX8_succeeds_233 : decode cX8_succeeds 233 = .ok (.iload_n 2, 1) := by decide +kernel
theorem dX8_succeeds_234 : decode cX8_succeeds 234 = .ok (.invokevirtual 138, 3) := by decide +kernel
theorem dX8_succeeds_237 : decode cX8_succeeds 237 = .ok (.ifCond .eq 26, 3) := by decide +kernel
theorem dX8_succeeds_240 : decode cX8_succeeds 240 = .ok (.aload_n 0, 1) := by decide +kernel
theorem dX8_succeeds_241 : decode cX8_succeeds 241 = .ok (.iload_n 3, 1) := by decide +kernel
theorem dX8_succeeds_242 : decode cX8_succeeds 242 = .ok (.invokevirtual 138, 3) := by decide +kernel
theorem dX8_succeeds_245 : decode cX8_succeeds 245 = .ok (.ifCond .eq 18, 3) := by decide +kernel
theorem dX8_succeeds_248 : decode cX8_succeeds 248 = .ok (.aload_n 0, 1) := by decide +kernel
theorem dX8_succeeds_249 : decode cX8_succeeds 249 = .ok (.iload_n 2, 1) := by decide +kernel
theorem dX8_succeeds_250 : decode cX8_succeeds 250 = .ok (.iload_n 3, 1) := by decide +kernel
theorem dX8_succeeds_251 : decode cX8_succeeds 251 = .ok (.invokevirtual 168, 3) := by decide +kernel
theorem dX8_succeeds_254 : decode cX8_succeeds 254 = .ok (.iload 4, 2) := by decide +kernel
theorem dX8_succeeds_256 : decode cX8_succeeds 256 = .ok (.if_icmp .lt 7, 3) := by decide +kernel
theorem dX8_succeeds_259 : decode cX8_succeeds 259 = .ok (.iconst 1, 1) := by decide +kernel
theorem dX8_succeeds_260 : decode cX8_succeeds 260 = .ok (.goto 4, 3) := by decide +kernel
theorem dX8_succeeds_263 : decode cX8_succeeds 263 = .ok (.iconst 0, 1) := by decide +kernel
theorem dX8_succeeds_264 : decode cX8_succeeds 264 = .ok (.ireturn, 1) := by decide +kernel
theorem dX8_succeeds_265 : decode cX8_succeeds 265 = .ok (.aload_n 0, 1) := by decide +kernel
theorem dX8_succeeds_266 : decode cX8_succeeds 266 = .ok (.iload_n 2, 1) := by decide +kernel
theorem dX8_succeeds_267 : decode cX8_succeeds 267 = .ok (.invokevirtual 138, 3) := by decide +kernel
theorem dX8_succeeds_270 : decode cX8_succeeds 270 = .ok (.ifCond .eq 21, 3) := by decide +kernel
theorem dX8_succeeds_273 : decode cX8_succeeds 273 = .ok (.iload_n 3, 1) := by decide +kernel
theorem dX8_succeeds_274 : decode cX8_succeeds 274 = .ok (.ifCond .ne 17, 3) := by decide +kernel
theorem dX8_succeeds_277 : decode cX8_succeeds 277 = .ok (.aload_n 0, 1) := by decide +kernel
theorem dX8_succeeds_278 : decode cX8_succeeds 278 = .ok (.iload_n 2, 1) := by decide +kernel
theorem dX8_succeeds_279 : decode cX8_succeeds 279 = .ok (.invokevirtual 141, 3) := by decide +kernel
theorem dX8_succeeds_282 : decode cX8_succeeds 282 = .ok (.iload 4, 2) := by decide +kernel
theorem dX8_succeeds_284 : decode cX8_succeeds 284 = .ok (.if_icmp .ne 7, 3) := by decide +kernel
theorem dX8_succeeds_287 : decode cX8_succeeds 287 = .ok (.iconst 1, 1) := by decide +kernel
theorem dX8_succeeds_288 : decode cX8_succeeds 288 = .ok (.goto 4, 3) := by decide +kernel
theorem dX8_succeeds_291 : decode cX8_succeeds 291 = .ok (.iconst 0, 1) := by decide +kernel
theorem dX8_succeeds_292 : decode cX8_succeeds 292 = .ok (.ireturn, 1) := by decide +kernel
theorem dX8_succeeds_293 : decode cX8_succeeds 293 = .ok (.aload_n 0, 1) := by decide +kernel
theorem dX8_succeeds_294 : decode cX8_succeeds 294 = .ok (.iload_n 2, 1) := by decide +kernel
theorem dX8_succeeds_295 : decode cX8_succeeds 295 = .ok (.invokevirtual 138, 3) := by decide +kernel
theorem dX8_succeeds_298 : decode cX8_succeeds 298 = .ok (.ifCond .eq 26, 3) := by decide +kernel
theorem dX8_succeeds_301 : decode cX8_succeeds 301 = .ok (.aload_n 0, 1) := by decide +kernel
theorem dX8_succeeds_302 : decode cX8_succeeds 302 = .ok (.iload_n 3, 1) := by decide +kernel
theorem dX8_succeeds_303 : decode cX8_succeeds 303 = .ok (.invokevirtual 138, 3) := by decide +kernel
theorem dX8_succeeds_306 : decode cX8_succeeds 306 = .ok (.ifCond .eq 18, 3) := by decide +kernel
theorem dX8_succeeds_309 : decode cX8_succeeds 309 = .ok (.aload_n 0, 1) := by decide +kernel
theorem dX8_succeeds_310 : decode cX8_succeeds 310 = .ok (.iload_n 2, 1) := by decide +kernel
theorem dX8_succeeds_311 : decode cX8_succeeds 311 = .ok (.iload_n 3, 1) := by decide +kernel
theorem dX8_succeeds_312 : decode cX8_succeeds 312 = .ok (.invokevirtual 174, 3) := by decide +kernel
theorem dX8_succeeds_315 : decode cX8_succeeds 315 = .ok (.iload 4, 2) := by decide +kernel
theorem dX8_succeeds_317 : decode cX8_succeeds 317 = .ok (.if_icmp .ne 7, 3) := by decide +kernel
theorem dX8_succeeds_320 : decode cX8_succeeds 320 = .ok (.iconst 1, 1) := by decide +kernel
theorem dX8_succeeds_321 : decode cX8_succeeds 321 = .ok (.goto 4, 3) := by decide +kernel
theorem dX8_succeeds_324 : decode cX8_succeeds 324 = .ok (.iconst 0, 1) := by decide +kernel
theorem dX8_succeeds_325 : decode cX8_succeeds 325 = .ok (.ireturn, 1) := by decide +kernel
theorem dX8_succeeds_326 : decode cX8_succeeds 326 = .ok (.iload_n 1, 1) := by decide +kernel
theorem dX8_succeeds_327 : decode cX8_succeeds 327 = .ok (.sipush 1000, 3) := by decide +kernel
theorem dX8_succeeds_330 : decode cX8_succeeds 330 = .ok (.irem, 1) := by decide +kernel
theorem dX8_succeeds_331 : decode cX8_succeeds 331 = .ok (.ifCond .ne 15, 3) := by decide +kernel
theorem dX8_succeeds_334 : decode cX8_succeeds 334 = .ok (.aload_n 0, 1) := by decide +kernel
theorem dX8_succeeds_335 : decode cX8_succeeds 335 = .ok (.invokevirtual 135, 3) := by decide +kernel
theorem dX8_succeeds_338 : decode cX8_succeeds 338 = .ok (.iload_n 2, 1) := by decide +kernel
theorem dX8_succeeds_339 : decode cX8_succeeds 339 = .ok (.if_icmp .lt 7, 3) := by decide +kernel
theorem dX8_succeeds_342 : decode cX8_succeeds 342 = .ok (.iconst 1, 1) := by decide +kernel
theorem dX8_succeeds_343 : decode cX8_succeeds 343 = .ok (.goto 4, 3) := by decide +kernel
theorem dX8_succeeds_346 : decode cX8_succeeds 346 = .ok (.iconst 0, 1) := by decide +kernel
theorem dX8_succeeds_347 : decode cX8_succeeds 347 = .ok (.ireturn, 1) := by decide +kernel
theorem dX8_succeeds_348 : decode cX8_succeeds 348 = .ok (.aload_n 0, 1) := by decide +kernel
theorem dX8_succeeds_349 : decode cX8_succeeds 349 = .ok (.iload_n 2, 1) := by decide +kernel
theorem dX8_succeeds_350 : decode cX8_succeeds 350 = .ok (.invokevirtual 138, 3) := by decide +kernel
theorem dX8_succeeds_353 : decode cX8_succeeds 353 = .ok (.ifCond .eq 21, 3) := by decide +kernel
theorem dX8_succeeds_356 : decode cX8_succeeds 356 = .ok (.iload_n 3, 1) := by decide +kernel
theorem dX8_succeeds_357 : decode cX8_succeeds 357 = .ok (.ifCond .ne 17, 3) := by decide +kernel
theorem dX8_succeeds_360 : decode cX8_succeeds 360 = .ok (.aload_n 0, 1) := by decide +kernel
theorem dX8_succeeds_361 : decode cX8_succeeds 361 = .ok (.iload_n 2, 1) := by decide +kernel
theorem dX8_succeeds_362 : decode cX8_succeeds 362 = .ok (.invokevirtual 144, 3) := by decide +kernel
theorem dX8_succeeds_365 : decode cX8_succeeds 365 = .ok (.iload 4, 2) := by decide +kernel
theorem dX8_succeeds_367 : decode cX8_succeeds 367 = .ok (.if_icmp .ne 7, 3) := by decide +kernel
theorem dX8_succeeds_370 : decode cX8_succeeds 370 = .ok (.iconst 1, 1) := by decide +kernel
theorem dX8_succeeds_371 : decode cX8_succeeds 371 = .ok (.goto 4, 3) := by decide +kernel
theorem dX8_succeeds_374 : decode cX8_succeeds 374 = .ok (.iconst 0, 1) := by decide +kernel
theorem dX8_succeeds_375 : decode cX8_succeeds 375 = .ok (.ireturn, 1) := by decide +kernel
theorem dX8_succeeds_376 : decode cX8_succeeds 376 = .ok (.iconst 0, 1) := by decide +kernel
theorem dX8_succeeds_377 : decode cX8_succeeds 377 = .ok (.ireturn, 1) := by decide +kernel
set_option maxRecDepth 20000 in
theorem ggX8_runScript_X8_in : GoodIn wsX8_runScript wsX8_in := goodIn_r _ [10] (by decide +kernel) (by decide +kernel)
set_option maxRecDepth 20000 in
theorem gX8_runScript_X8_in : GoodIn wsX8_runScript (va_wsS RX8 38 yX8_in wsX8_in) := goodIn_app (goodIn_of _ (by decide +kernel)) ggX8_runScript_X8_in
set_option maxRecDepth 20000 in
theorem ggX8_runScript_X8_refused : GoodIn wsX8_runScript wsX8_refused := goodIn_r _ [14, 1, 133, 134, 135, 136, 137, 138, 139, 140, 141, 142, 143, 144, 145, 146, 147, 148, 149] (by decide +kernel) (by decide +kernel)
set_option maxRecDepth 20000 in
theorem gX8_runScript_X8_refused : GoodIn wsX8_runScript (wsV RX8 83 RX8 yX8_refused wsX8_refused) := goodIn_app (goodIn_of _ (by decide +kernel)) ggX8_runScript_X8_refused
set_option maxRecDepth 20000 in
theorem ggX8_runScript_X8_store : GoodIn wsX8_runScript wsX8_store := goodIn_r _ [18, 19, 20, 133, 134, 135, 136, 137, 138, 139, 140, 141, 142, 143, 144, 145, 146, 147, 148, 149] (by decide +kernel) (by decide +kernel)
set_option maxRecDepth 20000 in
theorem gX8_runScript_X8_store : GoodIn wsX8_runScript (wsV RX8 177 RX8 yX8_store wsX8_store) := goodIn_app (goodIn_of _ (by decide +kernel)) ggX8_runScript_X8_store
set_option maxRecDepth 20000 in
theorem ggX8_runScript_X8_succeeds : GoodIn wsX8_runScript wsX8_succeeds := goodIn_r _ [24, 20, 19, 25, 26, 27, 9, 28, 7, 8, 10, 29, 30, 31, 32, 33, 34, 35, 36, 37, 38, 39, 40, 41, 42, 43, 44, 45, 46, 47, 48, 49, 50, 51, 52, 53, 54, 55, 56, 57, 58, 59, 60, 61, 62, 63, 64, 65, 66, 67, 68, 69, 70, 71, 72, 73, 74, 75, 76, 77, 78, 79, 80, 81, 82, 83, 84, 85, 86, 87, 88, 89, 90, 91, 92, 93, 94, 95, 96, 97, 98, 99, 100, 101, 102, 103, 104, 105, 106, 107, 108, 109, 110, 111, 112, 113, 114, 115, 116, 117, 118, 119, 120, 121, 122, 123, 124, 125, 126, 127, 128, 133, 134, 135, 136, 137, 138, 139, 140, 141, 142, 143, 144, 145, 146, 147, 148, 149] (by decide +kernel) (by decide +kernel)
set_option maxRecDepth 20000 in
theorem gX8_runScript_X8_succeeds : GoodIn wsX8_runScript (wsV RX8 231 RX8 yX8_succeeds wsX8_succeeds) := goodIn_app (goodIn_of _ (by decide +kernel)) ggX8_runScript_X8_succeeds
set_option maxRecDepth 20000 in
theorem ggX8_runScript_X8_bring : GoodIn wsX8_runScript wsX8_bring := goodIn_r _ [132, 19, 20, 133, 134, 135, 136, 137, 138, 139, 140, 141, 142, 143, 144, 145, 146, 147, 148, 149] (by decide +kernel) (by decide +kernel)
set_option maxRecDepth 20000 in
theorem gX8_runScript_X8_bring : GoodIn wsX8_runScript (wsV RX8 213 RX8 yX8_bring wsX8_bring) := goodIn_app (goodIn_of _ (by decide +kernel)) ggX8_runScript_X8_bring
theorem dX8_runScript_0 : decode cX8_runScript 0 = .ok (.aload_n 0, 1) := by decide +kernel
theorem dX8_runScript_1 : decode cX8_runScript 1 = .ok (.iconst 0, 1) := by decide +kernel
theorem dX8_runScript_2 : decode cX8_runScript 2 = .ok (.putfield 31, 3) := by decide +kernel
theorem dX8_runScript_5 : decode cX8_runScript 5 = .ok (.iload_n 1, 1) := by decide +kernel
theorem dX8_runScript_6 : decode cX8_runScript 6 = .ok (.iconst 1, 1) := by decide +kernel
theorem dX8_runScript_7 : decode cX8_runScript 7 = .ok (.if_icmp .ne 9, 3) := by decide +kernel
theorem dX8_runScript_10 : decode cX8_runScript 10 = .ok (.ldc2_w 223, 3) := by decide +kernel
theorem dX8_runScript_13 : decode cX8_runScript 13 = .ok (.goto 17, 3) := by decide +kernel
theorem dX8_runScript_16 : decode cX8_runScript 16 = .ok (.iload_n 1, 1) := by decide +kernel
theorem dX8_runScript_17 : decode cX8_runScript 17 = .ok (.iconst 2, 1) := by decide +kernel
theorem dX8_runScript_18 : decode cX8_runScript 18 = .ok (.if_icmp .ne 9, 3) := by decide +kernel
theorem dX8_runScript_21 : decode cX8_runScript 21 = .ok (.ldc2_w 225, 3) := by decide +kernel
theorem dX8_runScript_24 : decode cX8_runScript 24 = .ok (.goto 6, 3) := by decide +kernel
theorem dX8_runScript_27 : decode cX8_runScript 27 = .ok (.ldc2_w 227, 3) := by decide +kernel
theorem dX8_runScript_30 : decode cX8_runScript 30 = .ok (.lstore 4, 2) := by decide +kernel
theorem dX8_runScript_32 : decode cX8_runScript 32 = .ok (.iload_n 1, 1) := by decide +kernel
theorem dX8_runScript_33 : decode cX8_runScript 33 = .ok (.i2l, 1) := by decide +kernel
theorem dX8_runScript_34 : decode cX8_runScript 34 = .ok (.lconst 1, 1) := by decide +kernel
theorem dX8_runScript_35 : decode cX8_runScript 35 = .ok (.ldc2_w 229, 3) := by decide +kernel
theorem dX8_runScript_38 : decode cX8_runScript 38 = .ok (.invokestatic 38, 3) := by decide +kernel
theorem dX8_runScript_41 : decode cX8_runScript 41 = .ok (.ifCond .eq 16, 3) := by decide +kernel
theorem dX8_runScript_44 : decode cX8_runScript 44 = .ok (.lload_n 2, 1) := by decide +kernel
theorem dX8_runScript_45 : decode cX8_runScript 45 = .ok (.lconst 0, 1) := by decide +kernel
theorem dX8_runScript_46 : decode cX8_runScript 46 = .ok (.lcmp, 1) := by decide +kernel
theorem dX8_runScript_47 : decode cX8_runScript 47 = .ok (.ifCond .lt 10, 3) := by decide +kernel
theorem dX8_runScript_50 : decode cX8_runScript 50 = .ok (.lload_n 2, 1) := by decide +kernel
theorem dX8_runScript_51 : decode cX8_runScript 51 = .ok (.lload 4, 2) := by decide +kernel
theorem dX8_runScript_53 : decode cX8_runScript 53 = .ok (.lcmp, 1) := by decide +kernel
theorem dX8_runScript_54 : decode cX8_runScript 54 = .ok (.ifCond .lt 9, 3) := by decide +kernel
theorem dX8_runScript_57 : decode cX8_runScript 57 = .ok (.aload_n 0, 1) := by decide +kernel
theorem dX8_runScript_58 : decode cX8_runScript 58 = .ok (.iconst 1, 1) := by decide +kernel
theorem dX8_runScript_59 : decode cX8_runScript 59 = .ok (.invokevirtual 83, 3) := by decide +kernel
theorem dX8_runScript_62 : decode cX8_runScript 62 = .ok (.ireturn, 1) := by decide +kernel
theorem dX8_runScript_63 : decode cX8_runScript 63 = .ok (.aload_n 0, 1) := by decide +kernel
theorem dX8_runScript_64 : decode cX8_runScript 64 = .ok (.aload_n 0, 1) := by decide +kernel
theorem dX8_runScript_65 : decode cX8_runScript 65 = .ok (.getfield 25, 3) := by decide +kernel
theorem dX8_runScript_68 : decode cX8_runScript 68 = .ok (.iconst 0, 1) := by decide +kernel
theorem dX8_runScript_69 : decode cX8_runScript 69 = .ok (.invokevirtual 177, 3) := by decide +kernel
theorem dX8_runScript_72 : decode cX8_runScript 72 = .ok (.bipush (-9), 2) := by decide +kernel
theorem dX8_runScript_74 : decode cX8_runScript 74 = .ok (.istore 6, 2) := by decide +kernel
theorem dX8_runScript_76 : decode cX8_runScript 76 = .ok (.iconst 0, 1) := by decide +kernel
theorem dX8_runScript_77 : decode cX8_runScript 77 = .ok (.istore 7, 2) := by decide +kernel
theorem dX8_runScript_79 : decode cX8_runScript 79 = .ok (.iload 7, 2) := by decide +kernel
theorem dX8_runScript_81 : decode cX8_runScript 81 = .ok (.iload_n 1, 1) := by decide +kernel
theorem dX8_runScript_82 : decode cX8_runScript 82 = .ok (.if_icmp .ge 49, 3) := by decide +kernel
theorem dX8_runScript_85 : decode cX8_runScript 85 = .ok (.iload 6, 2) := by decide +kernel
theorem dX8_runScript_87 : decode cX8_runScript 87 = .ok (.bipush (-9), 2) := by decide +kernel
theorem dX8_runScript_89 : decode cX8_runScript 89 = .ok (.if_icmp .ne 42, 3) := by decide +kernel
theorem dX8_runScript_92 : decode cX8_runScript 92 = .ok (.lload 4, 2) := by decide +kernel
theorem dX8_runScript_94 : decode cX8_runScript 94 = .ok (.ldc2_w 223, 3) := by decide +kernel
theorem dX8_runScript_97 : decode cX8_runScript 97 = .ok (.ldiv, 1) := by decide +kernel
theorem dX8_runScript_98 : decode cX8_runScript 98 = .ok (.lstore 4, 2) := by decide +kernel
theorem dX8_runScript_100 : decode cX8_runScript 100 = .ok (.aload_n 0, 1) := by decide +kernel
theorem dX8_runScript_101 : decode cX8_runScript 101 = .ok (.lload_n 2, 1) := by decide +kernel
theorem dX8_runScript_102 : decode cX8_runScript 102 = .ok (.lload 4, 2) := by decide +kernel
theorem dX8_runScript_104 : decode cX8_runScript 104 = .ok (.ldiv, 1) := by decide +kernel
theorem dX8_runScript_105 : decode cX8_runScript 105 = .ok (.ldc2_w 223, 3) := by decide +kernel
theorem dX8_runScript_108 : decode cX8_runScript 108 = .ok (.lrem, 1) := by decide +kernel
theorem dX8_runScript_109 : decode cX8_runScript 109 = .ok (.l2i, 1) := by decide +kernel
theorem dX8_runScript_110 : decode cX8_runScript 110 = .ok (.invokevirtual 231, 3) := by decide +kernel
theorem dX8_runScript_113 : decode cX8_runScript 113 = .ok (.ifCond .eq 8, 3) := by decide +kernel
theorem dX8_runScript_116 : decode cX8_runScript 116 = .ok (.bipush (-9), 2) := by decide +kernel
theorem dX8_runScript_118 : decode cX8_runScript 118 = .ok (.goto 5, 3) := by decide +kernel
theorem dX8_runScript_121 : decode cX8_runScript 121 = .ok (.iload 7, 2) := by decide +kernel
theorem dX8_runScript_123 : decode cX8_runScript 123 = .ok (.istore 6, 2) := by decide +kernel
theorem dX8_runScript_125 : decode cX8_runScript 125 = .ok (.iinc 7 1, 3) := by decide +kernel
theorem dX8_runScript_128 : decode cX8_runScript 128 = .ok (.goto (-49), 3) := by decide +kernel
theorem dX8_runScript_131 : decode cX8_runScript 131 = .ok (.aload_n 0, 1) := by decide +kernel
theorem dX8_runScript_132 : decode cX8_runScript 132 = .ok (.aload_n 0, 1) := by decide +kernel
theorem dX8_runScript_133 : decode cX8_runScript 133 = .ok (.getfield 25, 3) := by decide +kernel
theorem dX8_runScript_136 : decode cX8_runScript 136 = .ok (.iconst 0, 1) := by decide +kernel
theorem dX8_runScript_137 : decode cX8_runScript 137 = .ok (.invokevirtual 213, 3) := by decide +kernel
theorem dX8_runScript_140 : decode cX8_runScript 140 = .ok (.iload 6, 2) := by decide +kernel
theorem dX8_runScript_142 : decode cX8_runScript 142 = .ok (.ireturn, 1) := by decide +kernel
set_option maxRecDepth 20000 in
theorem ggX8_simulate_X8_in : GoodIn wsX8_simulate wsX8_in := goodIn_r _ [11] (by decide +kernel) (by decide +kernel)
set_option maxRecDepth 20000 in
theorem gX8_simulate_X8_in : GoodIn wsX8_simulate (va_wsS RX8 38 yX8_in wsX8_in) := goodIn_app (goodIn_of _ (by decide +kernel)) ggX8_simulate_X8_in
set_option maxRecDepth 20000 in
theorem ggX8_simulate_X8_refused : GoodIn wsX8_simulate wsX8_refused := goodIn_r _ [15, 1, 19, 20, 21, 22, 23, 24, 25, 26, 27, 28, 29, 30, 31, 32, 33, 34, 35] (by decide +kernel) (by decide +kernel)
set_option maxRecDepth 20000 in
theorem gX8_simulate_X8_refused : GoodIn wsX8_simulate (wsV RX8 83 RX8 yX8_refused wsX8_refused) := goodIn_app (goodIn_of _ (by decide +kernel)) ggX8_simulate_X8_refused
set_option maxRecDepth 20000 in
theorem ggX8_simulate_X8_radius : GoodIn wsX8_simulate wsX8_radius := goodIn_r _ [18] (by decide +kernel) (by decide +kernel)
set_option maxRecDepth 20000 in
theorem gX8_simulate_X8_radius : GoodIn wsX8_simulate (va_wsS RX8 53 yX8_radius wsX8_radius) := goodIn_app (goodIn_of _ (by decide +kernel)) ggX8_simulate_X8_radius
theorem dX8_simulate_0 : decode cX8_simulate 0 = .ok (.aload_n 0, 1) := by decide +kernel
theorem dX8_simulate_1 : decode cX8_simulate 1 = .ok (.iconst 0, 1) := by decide +kernel
theorem dX8_simulate_2 : decode cX8_simulate 2 = .ok (.putfield 31, 3) := by decide +kernel
theorem dX8_simulate_5 : decode cX8_simulate 5 = .ok (.iload_n 3, 1) := by decide +kernel
theorem dX8_simulate_6 : decode cX8_simulate 6 = .ok (.i2l, 1) := by decide +kernel
theorem dX8_simulate_7 : decode cX8_simulate 7 = .ok (.lconst 1, 1) := by decide +kernel
theorem dX8_simulate_8 : decode cX8_simulate 8 = .ok (.ldc2_w 234, 3) := by decide +kernel
theorem dX8_simulate_11 : decode cX8_simulate 11 = .ok (.invokestatic 38, 3) := by decide +kernel
theorem dX8_simulate_14 : decode cX8_simulate 14 = .ok (.ifCond .ne 9, 3) := by decide +kernel
theorem dX8_simulate_17 : decode cX8_simulate 17 = .ok (.aload_n 0, 1) := by decide +kernel
theorem dX8_simulate_18 : decode cX8_simulate 18 = .ok (.iconst 1, 1) := by decide +kernel
theorem dX8_simulate_19 : decode cX8_simulate 19 = .ok (.invokevirtual 83, 3) := by decide +kernel
theorem dX8_simulate_22 : decode cX8_simulate 22 = .ok (.ireturn, 1) := by decide +kernel
theorem dX8_simulate_23 : decode cX8_simulate 23 = .ok (.aload_n 0, 1) := by decide +kernel
theorem dX8_simulate_24 : decode cX8_simulate 24 = .ok (.dup, 1) := by decide +kernel
theorem dX8_simulate_25 : decode cX8_simulate 25 = .ok (.getfield 67, 3) := by decide +kernel
theorem dX8_simulate_28 : decode cX8_simulate 28 = .ok (.iconst 1, 1) := by decide +kernel
theorem dX8_simulate_29 : decode cX8_simulate 29 = .ok (.iadd, 1) := by decide +kernel
theorem dX8_simulate_30 : decode cX8_simulate 30 = .ok (.putfield 67, 3) := by decide +kernel
theorem dX8_simulate_33 : decode cX8_simulate 33 = .ok (.lload_n 1, 1) := by decide +kernel
theorem dX8_simulate_34 : decode cX8_simulate 34 = .ok (.lstore 4, 2) := by decide +kernel
theorem dX8_simulate_36 : decode cX8_simulate 36 = .ok (.iconst 0, 1) := by decide +kernel
theorem dX8_simulate_37 : decode cX8_simulate 37 = .ok (.istore 6, 2) := by decide +kernel
theorem dX8_simulate_39 : decode cX8_simulate 39 = .ok (.iconst 0, 1) := by decide +kernel
theorem dX8_simulate_40 : decode cX8_simulate 40 = .ok (.istore 7, 2) := by decide +kernel
theorem dX8_simulate_42 : decode cX8_simulate 42 = .ok (.iconst 0, 1) := by decide +kernel
theorem dX8_simulate_43 : decode cX8_simulate 43 = .ok (.istore 8, 2) := by decide +kernel
theorem dX8_simulate_45 : decode cX8_simulate 45 = .ok (.iload 8, 2) := by decide +kernel
theorem dX8_simulate_47 : decode cX8_simulate 47 = .ok (.iload_n 3, 1) := by decide +kernel
theorem dX8_simulate_48 : decode cX8_simulate 48 = .ok (.if_icmp .ge 147, 3) := by decide +kernel
theorem dX8_simulate_51 : decode cX8_simulate 51 = .ok (.lload 4, 2) := by decide +kernel
theorem dX8_simulate_53 : decode cX8_simulate 53 = .ok (.ldc2_w 236, 3) := by decide +kernel
theorem dX8_simulate_56 : decode cX8_simulate 56 = .ok (.lmul, 1) := by decide +kernel
theorem dX8_simulate_57 : decode cX8_simulate 57 = .ok (.ldc2_w 238, 3) := by decide +kernel
theorem dX8_simulate_60 : decode cX8_simulate 60 = .ok (.ladd, 1) := by decide +kernel
theorem dX8_simulate_61 : decode cX8_simulate 61 = .ok (.lstore 4, 2) := by decide +kernel
theorem dX8_simulate_63 : decode cX8_simulate 63 = .ok (.lload 4, 2) := by decide +kernel
theorem dX8_simulate_65 : decode cX8_simulate 65 = .ok (.bipush 33, 2) := by decide +kernel
theorem dX8_simulate_67 : decode cX8_simulate 67 = .ok (.lushr, 1) := by decide +kernel
theorem dX8_simulate_68 : decode cX8_simulate 68 = .ok (.l2i, 1) := by decide +kernel
theorem dX8_simulate_69 : decode cX8_simulate 69 = .ok (.istore 9, 2) := by decide +kernel
theorem dX8_simulate_71 : decode cX8_simulate 71 = .ok (.iconst 5, 1) := by decide +kernel
theorem dX8_simulate_72 : decode cX8_simulate 72 = .ok (.iload 9, 2) := by decide +kernel
theorem dX8_simulate_74 : decode cX8_simulate 74 = .ok (.bipush 56, 2) := by decide +kernel
theorem dX8_simulate_76 : decode cX8_simulate 76 = .ok (.irem, 1) := by decide +kernel
theorem dX8_simulate_77 : decode cX8_simulate 77 = .ok (.iadd, 1) := by decide +kernel
theorem dX8_simulate_78 : decode cX8_simulate 78 = .ok (.istore 10, 2) := by decide +kernel
theorem dX8_simulate_80 : decode cX8_simulate 80 = .ok (.iload 9, 2) := by decide +kernel
theorem dX8_simulate_82 : decode cX8_simulate 82 = .ok (.sipush 4096, 3) := by decide +kernel
theorem dX8_simulate_85 : decode cX8_simulate 85 = .ok (.idiv, 1) := by decide +kernel
theorem dX8_simulate_86 : decode cX8_simulate 86 = .ok (.sipush 1000, 3) := by decide +kernel
theorem dX8_simulate_89 : decode cX8_simulate 89 = .ok (.irem, 1) := by decide +kernel
theorem dX8_simulate_90 : decode cX8_simulate 90 = .ok (.istore 11, 2) := by decide +kernel
theorem dX8_simulate_92 : decode cX8_simulate 92 = .ok (.iload 10, 2) := by decide +kernel
theorem dX8_simulate_94 : decode cX8_simulate 94 = .ok (.iload 9, 2) := by decide +kernel
theorem dX8_simulate_96 : decode cX8_simulate 96 = .ok (.bipush 64, 2) := by decide +kernel
theorem dX8_simulate_98 : decode cX8_simulate 98 = .ok (.idiv, 1) := by decide +kernel
theorem dX8_simulate_99 : decode cX8_simulate 99 = .ok (.iconst 2, 1) := by decide +kernel
theorem dX8_simulate_100 : decode cX8_simulate 100 = .ok (.irem, 1) := by decide +kernel
theorem dX8_simulate_101 : decode cX8_simulate 101 = .ok (.iload 9, 2) := by decide +kernel
theorem dX8_simulate_103 : decode cX8_simulate 103 = .ok (.sipush 128, 3) := by decide +kernel
theorem dX8_simulate_106 : decode cX8_simulate 106 = .ok (.idiv, 1) := by decide +kernel
theorem dX8_simulate_107 : decode cX8_simulate 107 = .ok (.bipush 21, 2) := by decide +kernel
theorem dX8_simulate_109 : decode cX8_simulate 109 = .ok (.irem, 1) := by decide +kernel
theorem dX8_simulate_110 : decode cX8_simulate 110 = .ok (.iload 11, 2) := by decide +kernel
theorem dX8_simulate_112 : decode cX8_simulate 112 = .ok (.iload 10, 2) := by decide +kernel
theorem dX8_simulate_114 : decode cX8_simulate 114 = .ok (.irem, 1) := by decide +kernel
theorem dX8_simulate_115 : decode cX8_simulate 115 = .ok (.invokestatic 53, 3) := by decide +kernel
theorem dX8_simulate_118 : decode cX8_simulate 118 = .ok (.istore 12, 2) := by decide +kernel
theorem dX8_simulate_120 : decode cX8_simulate 120 = .ok (.iload 11, 2) := by decide +kernel
theorem dX8_simulate_122 : decode cX8_simulate 122 = .ok (.aload_n 0, 1) := by decide +kernel
theorem dX8_simulate_123 : decode cX8_simulate 123 = .ok (.getfield 7, 3) := by decide +kernel
theorem dX8_simulate_126 : decode cX8_simulate 126 = .ok (.iconst 0, 1) := by decide +kernel
theorem dX8_simulate_127 : decode cX8_simulate 127 = .ok (.iaload, 1) := by decide +kernel
theorem dX8_simulate_128 : decode cX8_simulate 128 = .ok (.irem, 1) := by decide +kernel
theorem dX8_simulate_129 : decode cX8_simulate 129 = .ok (.sipush 301, 3) := by decide +kernel
theorem dX8_simulate_132 : decode cX8_simulate 132 = .ok (.imul, 1) := by decide +kernel
theorem dX8_simulate_133 : decode cX8_simulate 133 = .ok (.iload 12, 2) := by decide +kernel
theorem dX8_simulate_135 : decode cX8_simulate 135 = .ok (.iadd, 1) := by decide +kernel
theorem dX8_simulate_136 : decode cX8_simulate 136 = .ok (.istore 13, 2) := by decide +kernel
theorem dX8_simulate_138 : decode cX8_simulate 138 = .ok (.iload 6, 2) := by decide +kernel
theorem dX8_simulate_140 : decode cX8_simulate 140 = .ok (.aload_n 0, 1) := by decide +kernel
theorem dX8_simulate_141 : decode cX8_simulate 141 = .ok (.getfield 13, 3) := by decide +kernel
theorem dX8_simulate_144 : decode cX8_simulate 144 = .ok (.iload 13, 2) := by decide +kernel
theorem dX8_simulate_146 : decode cX8_simulate 146 = .ok (.iaload, 1) := by decide +kernel
theorem dX8_simulate_147 : decode cX8_simulate 147 = .ok (.aload_n 0, 1) := by decide +kernel
theorem dX8_simulate_148 : decode cX8_simulate 148 = .ok (.getfield 67, 3) := by decide +kernel
theorem dX8_simulate_151 : decode cX8_simulate 151 = .ok (.if_icmp .ne 7, 3) := by decide +kernel
theorem dX8_simulate_154 : decode cX8_simulate 154 = .ok (.iconst 0, 1) := by decide +kernel
theorem dX8_simulate_155 : decode cX8_simulate 155 = .ok (.goto 4, 3) := by decide +kernel
theorem dX8_simulate_158 : decode cX8_simulate 158 = .ok (.iconst 1, 1) := by decide +kernel
theorem dX8_simulate_159 : decode cX8_simulate 159 = .ok (.iadd, 1) := by decide +kernel
theorem dX8_simulate_160 : decode cX8_simulate 160 = .ok (.istore 6, 2) := by decide +kernel
theorem dX8_simulate_162 : decode cX8_simulate 162 = .ok (.aload_n 0, 1) := by decide +kernel
theorem dX8_simulate_163 : decode cX8_simulate 163 = .ok (.getfield 13, 3) := by decide +kernel
theorem dX8_simulate_166 : decode cX8_simulate 166 = .ok (.iload 13, 2) := by decide +kernel
theorem dX8_simulate_168 : decode cX8_simulate 168 = .ok (.aload_n 0, 1) := by decide +kernel
theorem dX8_simulate_169 : decode cX8_simulate 169 = .ok (.getfield 67, 3) := by decide +kernel
theorem dX8_simulate_172 : decode cX8_simulate 172 = .ok (.iastore, 1) := by decide +kernel
theorem dX8_simulate_173 : decode cX8_simulate 173 = .ok (.iload 12, 2) := by decide +kernel
theorem dX8_simulate_175 : decode cX8_simulate 175 = .ok (.iload 7, 2) := by decide +kernel
theorem dX8_simulate_177 : decode cX8_simulate 177 = .ok (.if_icmp .le 8, 3) := by decide +kernel
theorem dX8_simulate_180 : decode cX8_simulate 180 = .ok (.iload 12, 2) := by decide +kernel
theorem dX8_simulate_182 : decode cX8_simulate 182 = .ok (.goto 5, 3) := by decide +kernel
theorem dX8_simulate_185 : decode cX8_simulate 185 = .ok (.iload 7, 2) := by decide +kernel
theorem dX8_simulate_187 : decode cX8_simulate 187 = .ok (.istore 7, 2) := by decide +kernel
theorem dX8_simulate_189 : decode cX8_simulate 189 = .ok (.iinc 8 1, 3) := by decide +kernel
theorem dX8_simulate_192 : decode cX8_simulate 192 = .ok (.goto (-147), 3) := by decide +kernel
theorem dX8_simulate_195 : decode cX8_simulate 195 = .ok (.sipush 1000, 3) := by decide +kernel
theorem dX8_simulate_198 : decode cX8_simulate 198 = .ok (.iload 6, 2) := by decide +kernel
theorem dX8_simulate_200 : decode cX8_simulate 200 = .ok (.imul, 1) := by decide +kernel
theorem dX8_simulate_201 : decode cX8_simulate 201 = .ok (.iload 7, 2) := by decide +kernel
theorem dX8_simulate_203 : decode cX8_simulate 203 = .ok (.iadd, 1) := by decide +kernel
theorem dX8_simulate_204 : decode cX8_simulate 204 = .ok (.ireturn, 1) := by decide +kernel
set_option maxRecDepth 20000 in
theorem ggX8_save_X8_in : GoodIn wsX8_save wsX8_in := goodIn_r _ [9] (by decide +kernel) (by decide +kernel)
set_option maxRecDepth 20000 in
theorem gX8_save_X8_in : GoodIn wsX8_save (va_wsS RX8 38 yX8_in wsX8_in) := goodIn_app (goodIn_of _ (by decide +kernel)) ggX8_save_X8_in
set_option maxRecDepth 20000 in
theorem ggX8_save_X8_refused : GoodIn wsX8_save wsX8_refused := goodIn_r _ [13, 1, 19, 20, 21, 22, 23, 24, 25, 26, 27, 28, 29, 30, 31, 32, 33, 34, 35] (by decide +kernel) (by decide +kernel)
set_option maxRecDepth 20000 in
theorem gX8_save_X8_refused : GoodIn wsX8_save (wsV RX8 83 RX8 yX8_refused wsX8_refused) := goodIn_app (goodIn_of _ (by decide +kernel)) ggX8_save_X8_refused
set_option maxRecDepth 20000 in
theorem ggX8_save_X8_store : GoodIn wsX8_save wsX8_store := goodIn_r _ [17, 5, 18, 19, 20, 21, 22, 23, 24, 25, 26, 27, 28, 29, 30, 31, 32, 33, 34, 35] (by decide +kernel) (by decide +kernel)
set_option maxRecDepth 20000 in
theorem gX8_save_X8_store : GoodIn wsX8_save (wsV RX8 177 RX8 yX8_store wsX8_store) := goodIn_app (goodIn_of _ (by decide +kernel)) ggX8_save_X8_store
theorem dX8_save_0 : decode cX8_save 0 = .ok (.aload_n 0, 1) := by decide +kernel
theorem dX8_save_1 : decode cX8_save 1 = .ok (.iconst 0, 1) := by decide +kernel
theorem dX8_save_2 : decode cX8_save 2 = .ok (.putfield 31, 3) := by decide +kernel
theorem dX8_save_5 : decode cX8_save 5 = .ok (.iload_n 1, 1) := by decide +kernel
theorem dX8_save_6 : decode cX8_save 6 = .ok (.i2l, 1) := by decide +kernel
theorem dX8_save_7 : decode cX8_save 7 = .ok (.lconst 0, 1) := by decide +kernel
theorem dX8_save_8 : decode cX8_save 8 = .ok (.lconst 1, 1) := by decide +kernel
theorem dX8_save_9 : decode cX8_save 9 = .ok (.invokestatic 38, 3) := by decide +kernel
theorem dX8_save_12 : decode cX8_save 12 = .ok (.ifCond .ne 9, 3) := by decide +kernel
theorem dX8_save_15 : decode cX8_save 15 = .ok (.aload_n 0, 1) := by decide +kernel
theorem dX8_save_16 : decode cX8_save 16 = .ok (.iconst 1, 1) := by decide +kernel
theorem dX8_save_17 : decode cX8_save 17 = .ok (.invokevirtual 83, 3) := by decide +kernel
theorem dX8_save_20 : decode cX8_save 20 = .ok (.ireturn, 1) := by decide +kernel
theorem dX8_save_21 : decode cX8_save 21 = .ok (.aload_n 0, 1) := by decide +kernel
theorem dX8_save_22 : decode cX8_save 22 = .ok (.aload_n 0, 1) := by decide +kernel
theorem dX8_save_23 : decode cX8_save 23 = .ok (.getfield 28, 3) := by decide +kernel
theorem dX8_save_26 : decode cX8_save 26 = .ok (.bipush 43, 2) := by decide +kernel
theorem dX8_save_28 : decode cX8_save 28 = .ok (.iload_n 1, 1) := by decide +kernel
theorem dX8_save_29 : decode cX8_save 29 = .ok (.imul, 1) := by decide +kernel
theorem dX8_save_30 : decode cX8_save 30 = .ok (.invokevirtual 177, 3) := by decide +kernel
theorem dX8_save_33 : decode cX8_save 33 = .ok (.aload_n 0, 1) := by decide +kernel
theorem dX8_save_34 : decode cX8_save 34 = .ok (.aload_n 0, 1) := by decide +kernel
theorem dX8_save_35 : decode cX8_save 35 = .ok (.getfield 114, 3) := by decide +kernel
theorem dX8_save_38 : decode cX8_save 38 = .ok (.ifCond .ne 7, 3) := by decide +kernel
theorem dX8_save_41 : decode cX8_save 41 = .ok (.iload_n 1, 1) := by decide +kernel
theorem dX8_save_42 : decode cX8_save 42 = .ok (.ifCond .ne 7, 3) := by decide +kernel
theorem dX8_save_45 : decode cX8_save 45 = .ok (.iconst 1, 1) := by decide +kernel
theorem dX8_save_46 : decode cX8_save 46 = .ok (.goto 4, 3) := by decide +kernel
theorem dX8_save_49 : decode cX8_save 49 = .ok (.iconst 0, 1) := by decide +kernel
theorem dX8_save_50 : decode cX8_save 50 = .ok (.putfield 114, 3) := by decide +kernel
theorem dX8_save_53 : decode cX8_save 53 = .ok (.aload_n 0, 1) := by decide +kernel
theorem dX8_save_54 : decode cX8_save 54 = .ok (.aload_n 0, 1) := by decide +kernel
theorem dX8_save_55 : decode cX8_save 55 = .ok (.getfield 117, 3) := by decide +kernel
theorem dX8_save_58 : decode cX8_save 58 = .ok (.ifCond .ne 8, 3) := by decide +kernel
theorem dX8_save_61 : decode cX8_save 61 = .ok (.iload_n 1, 1) := by decide +kernel
theorem dX8_save_62 : decode cX8_save 62 = .ok (.iconst 1, 1) := by decide +kernel
theorem dX8_save_63 : decode cX8_save 63 = .ok (.if_icmp .ne 7, 3) := by decide +kernel
theorem dX8_save_66 : decode cX8_save 66 = .ok (.iconst 1, 1) := by decide +kernel
theorem dX8_save_67 : decode cX8_save 67 = .ok (.goto 4, 3) := by decide +kernel
theorem dX8_save_70 : decode cX8_save 70 = .ok (.iconst 0, 1) := by decide +kernel
theorem dX8_save_71 : decode cX8_save 71 = .ok (.putfield 117, 3) := by decide +kernel
theorem dX8_save_74 : decode cX8_save 74 = .ok (.aload_n 0, 1) := by decide +kernel
theorem dX8_save_75 : decode cX8_save 75 = .ok (.getfield 35, 3) := by decide +kernel
theorem dX8_save_78 : decode cX8_save 78 = .ok (.ireturn, 1) := by decide +kernel
set_option maxRecDepth 20000 in
theorem ggX8_restore_X8_in : GoodIn wsX8_restore wsX8_in := goodIn_r _ [10] (by decide +kernel) (by decide +kernel)
set_option maxRecDepth 20000 in
theorem gX8_restore_X8_in : GoodIn wsX8_restore (va_wsS RX8 38 yX8_in wsX8_in) := goodIn_app (goodIn_of _ (by decide +kernel)) ggX8_restore_X8_in
set_option maxRecDepth 20000 in
theorem ggX8_restore_X8_refused : GoodIn wsX8_restore wsX8_refused := goodIn_r _ [14, 1, 20, 21, 22, 23, 24, 25, 26, 27, 28, 29, 30, 31, 32, 33, 34, 35, 36] (by decide +kernel) (by decide +kernel)
set_option maxRecDepth 20000 in
theorem gX8_restore_X8_refused : GoodIn wsX8_restore (wsV RX8 83 RX8 yX8_refused wsX8_refused) := goodIn_app (goodIn_of _ (by decide +kernel)) ggX8_restore_X8_refused
set_option maxRecDepth 20000 in
theorem ggX8_restore_X8_bring : GoodIn wsX8_restore wsX8_bring := goodIn_r _ [18, 6, 19, 20, 21, 22, 23, 24, 25, 26, 27, 28, 29, 30, 31, 32, 33, 34, 35, 36] (by decide +kernel) (by decide +kernel)
set_option maxRecDepth 20000 in
theorem gX8_restore_X8_bring : GoodIn wsX8_restore (wsV RX8 213 RX8 yX8_bring wsX8_bring) := goodIn_app (goodIn_of _ (by decide +kernel)) ggX8_restore_X8_bring
theorem dX8_restore_0 : decode cX8_restore 0 = .ok (.aload_n 0, 1) := by decide +kernel
theorem dX8_restore_1 : decode cX8_restore 1 = .ok (.iconst 0, 1) := by decide +kernel
theorem dX8_restore_2 : decode cX8_restore 2 = .ok (.putfield 31, 3) := by decide +kernel
theorem dX8_restore_5 : decode cX8_restore 5 = .ok (.iload_n 1, 1) := by decide +kernel
theorem dX8_restore_6 : decode cX8_restore 6 = .ok (.i2l, 1) := by decide +kernel
theorem dX8_restore_7 : decode cX8_restore 7 = .ok (.lconst 0, 1) := by decide +kernel
theorem dX8_restore_8 : decode cX8_restore 8 = .ok (.lconst 1, 1) := by decide +kernel
theorem dX8_restore_9 : decode cX8_restore 9 = .ok (.invokestatic 38, 3) := by decide +kernel
theorem dX8_restore_12 : decode cX8_restore 12 = .ok (.ifCond .ne 9, 3) := by decide +kernel
theorem dX8_restore_15 : decode cX8_restore 15 = .ok (.aload_n 0, 1) := by decide +kernel
theorem dX8_restore_16 : decode cX8_restore 16 = .ok (.iconst 1, 1) := by decide +kernel
theorem dX8_restore_17 : decode cX8_restore 17 = .ok (.invokevirtual 83, 3) := by decide +kernel
theorem dX8_restore_20 : decode cX8_restore 20 = .ok (.ireturn, 1) := by decide +kernel
theorem dX8_restore_21 : decode cX8_restore 21 = .ok (.iload_n 1, 1) := by decide +kernel
theorem dX8_restore_22 : decode cX8_restore 22 = .ok (.ifCond .ne 13, 3) := by decide +kernel
theorem dX8_restore_25 : decode cX8_restore 25 = .ok (.aload_n 0, 1) := by decide +kernel
theorem dX8_restore_26 : decode cX8_restore 26 = .ok (.getfield 114, 3) := by decide +kernel
theorem dX8_restore_29 : decode cX8_restore 29 = .ok (.ifCond .ne 19, 3) := by decide +kernel
theorem dX8_restore_32 : decode cX8_restore 32 = .ok (.goto 10, 3) := by decide +kernel
theorem dX8_restore_35 : decode cX8_restore 35 = .ok (.aload_n 0, 1) := by decide +kernel
theorem dX8_restore_36 : decode cX8_restore 36 = .ok (.getfield 117, 3) := by decide +kernel
theorem dX8_restore_39 : decode cX8_restore 39 = .ok (.ifCond .ne 9, 3) := by decide +kernel
theorem dX8_restore_42 : decode cX8_restore 42 = .ok (.aload_n 0, 1) := by decide +kernel
theorem dX8_restore_43 : decode cX8_restore 43 = .ok (.iconst 2, 1) := by decide +kernel
theorem dX8_restore_44 : decode cX8_restore 44 = .ok (.invokevirtual 83, 3) := by decide +kernel
theorem dX8_restore_47 : decode cX8_restore 47 = .ok (.ireturn, 1) := by decide +kernel
theorem dX8_restore_48 : decode cX8_restore 48 = .ok (.aload_n 0, 1) := by decide +kernel
theorem dX8_restore_49 : decode cX8_restore 49 = .ok (.aload_n 0, 1) := by decide +kernel
theorem dX8_restore_50 : decode cX8_restore 50 = .ok (.getfield 28, 3) := by decide +kernel
theorem dX8_restore_53 : decode cX8_restore 53 = .ok (.bipush 43, 2) := by decide +kernel
theorem dX8_restore_55 : decode cX8_restore 55 = .ok (.iload_n 1, 1) := by decide +kernel
theorem dX8_restore_56 : decode cX8_restore 56 = .ok (.imul, 1) := by decide +kernel
theorem dX8_restore_57 : decode cX8_restore 57 = .ok (.invokevirtual 213, 3) := by decide +kernel
theorem dX8_restore_60 : decode cX8_restore 60 = .ok (.aload_n 0, 1) := by decide +kernel
theorem dX8_restore_61 : decode cX8_restore 61 = .ok (.iconst 0, 1) := by decide +kernel
theorem dX8_restore_62 : decode cX8_restore 62 = .ok (.putfield 111, 3) := by decide +kernel
theorem dX8_restore_65 : decode cX8_restore 65 = .ok (.aload_n 0, 1) := by decide +kernel
theorem dX8_restore_66 : decode cX8_restore 66 = .ok (.getfield 35, 3) := by decide +kernel
theorem dX8_restore_69 : decode cX8_restore 69 = .ok (.ireturn, 1) := by decide +kernel
theorem dJ13_bitCount_95d88_0 : decode cJ13_bitCount_95d88 0 = .ok (.lload_n 0, 1) := by decide +kernel
theorem dJ13_bitCount_95d88_1 : decode cJ13_bitCount_95d88 1 = .ok (.lload_n 0, 1) := by decide +kernel
theorem dJ13_bitCount_95d88_2 : decode cJ13_bitCount_95d88 2 = .ok (.iconst 1, 1) := by decide +kernel
theorem dJ13_bitCount_95d88_3 : decode cJ13_bitCount_95d88 3 = .ok (.lushr, 1) := by decide +kernel
theorem dJ13_bitCount_95d88_4 : decode cJ13_bitCount_95d88 4 = .ok (.ldc2_w 314, 3) := by decide +kernel
theorem dJ13_bitCount_95d88_7 : decode cJ13_bitCount_95d88 7 = .ok (.land, 1) := by decide +kernel
theorem dJ13_bitCount_95d88_8 : decode cJ13_bitCount_95d88 8 = .ok (.lsub, 1) := by decide +kernel
theorem dJ13_bitCount_95d88_9 : decode cJ13_bitCount_95d88 9 = .ok (.lstore_n 0, 1) := by decide +kernel
theorem dJ13_bitCount_95d88_10 : decode cJ13_bitCount_95d88 10 = .ok (.lload_n 0, 1) := by decide +kernel
theorem dJ13_bitCount_95d88_11 : decode cJ13_bitCount_95d88 11 = .ok (.ldc2_w 316, 3) := by decide +kernel
theorem dJ13_bitCount_95d88_14 : decode cJ13_bitCount_95d88 14 = .ok (.land, 1) := by decide +kernel
theorem dJ13_bitCount_95d88_15 : decode cJ13_bitCount_95d88 15 = .ok (.lload_n 0, 1) := by decide +kernel
theorem dJ13_bitCount_95d88_16 : decode cJ13_bitCount_95d88 16 = .ok (.iconst 2, 1) := by decide +kernel
theorem dJ13_bitCount_95d88_17 : decode cJ13_bitCount_95d88 17 = .ok (.lushr, 1) := by decide +kernel
theorem dJ13_bitCount_95d88_18 : decode cJ13_bitCount_95d88 18 = .ok (.ldc2_w 316, 3) := by decide +kernel
theorem dJ13_bitCount_95d88_21 : decode cJ13_bitCount_95d88 21 = .ok (.land, 1) := by decide +kernel
theorem dJ13_bitCount_95d88_22 : decode cJ13_bitCount_95d88 22 = .ok (.ladd, 1) := by decide +kernel
theorem dJ13_bitCount_95d88_23 : decode cJ13_bitCount_95d88 23 = .ok (.lstore_n 0, 1) := by decide +kernel
theorem dJ13_bitCount_95d88_24 : decode cJ13_bitCount_95d88 24 = .ok (.lload_n 0, 1) := by decide +kernel
theorem dJ13_bitCount_95d88_25 : decode cJ13_bitCount_95d88 25 = .ok (.lload_n 0, 1) := by decide +kernel
theorem dJ13_bitCount_95d88_26 : decode cJ13_bitCount_95d88 26 = .ok (.iconst 4, 1) := by decide +kernel
theorem dJ13_bitCount_95d88_27 : decode cJ13_bitCount_95d88 27 = .ok (.lushr, 1) := by decide +kernel
theorem dJ13_bitCount_95d88_28 : decode cJ13_bitCount_95d88 28 = .ok (.ladd, 1) := by decide +kernel
theorem dJ13_bitCount_95d88_29 : decode cJ13_bitCount_95d88 29 = .ok (.ldc2_w 318, 3) := by decide +kernel
theorem dJ13_bitCount_95d88_32 : decode cJ13_bitCount_95d88 32 = .ok (.land, 1) := by decide +kernel
theorem dJ13_bitCount_95d88_33 : decode cJ13_bitCount_95d88 33 = .ok (.lstore_n 0, 1) := by decide +kernel
theorem dJ13_bitCount_95d88_34 : decode cJ13_bitCount_95d88 34 = .ok (.lload_n 0, 1) := by decide +kernel
theorem dJ13_bitCount_95d88_35 : decode cJ13_bitCount_95d88 35 = .ok (.lload_n 0, 1) := by decide +kernel
theorem dJ13_bitCount_95d88_36 : decode cJ13_bitCount_95d88 36 = .ok (.bipush 8, 2) := by decide +kernel
theorem dJ13_bitCount_95d88_38 : decode cJ13_bitCount_95d88 38 = .ok (.lushr, 1) := by decide +kernel
theorem dJ13_bitCount_95d88_39 : decode cJ13_bitCount_95d88 39 = .ok (.ladd, 1) := by decide +kernel
theorem dJ13_bitCount_95d88_40 : decode cJ13_bitCount_95d88 40 = .ok (.lstore_n 0, 1) := by decide +kernel
theorem dJ13_bitCount_95d88_41 : decode cJ13_bitCount_95d88 41 = .ok (.lload_n 0, 1) := by decide +kernel
theorem dJ13_bitCount_95d88_42 : decode cJ13_bitCount_95d88 42 = .ok (.lload_n 0, 1) := by decide +kernel
theorem dJ13_bitCount_95d88_43 : decode cJ13_bitCount_95d88 43 = .ok (.bipush 16, 2) := by decide +kernel
theorem dJ13_bitCount_95d88_45 : decode cJ13_bitCount_95d88 45 = .ok (.lushr, 1) := by decide +kernel
theorem dJ13_bitCount_95d88_46 : decode cJ13_bitCount_95d88 46 = .ok (.ladd, 1) := by decide +kernel
theorem dJ13_bitCount_95d88_47 : decode cJ13_bitCount_95d88 47 = .ok (.lstore_n 0, 1) := by decide +kernel
theorem dJ13_bitCount_95d88_48 : decode cJ13_bitCount_95d88 48 = .ok (.lload_n 0, 1) := by decide +kernel
theorem dJ13_bitCount_95d88_49 : decode cJ13_bitCount_95d88 49 = .ok (.lload_n 0, 1) := by decide +kernel
theorem dJ13_bitCount_95d88_50 : decode cJ13_bitCount_95d88 50 = .ok (.bipush 32, 2) := by decide +kernel
theorem dJ13_bitCount_95d88_52 : decode cJ13_bitCount_95d88 52 = .ok (.lushr, 1) := by decide +kernel
theorem dJ13_bitCount_95d88_53 : decode cJ13_bitCount_95d88 53 = .ok (.ladd, 1) := by decide +kernel
theorem dJ13_bitCount_95d88_54 : decode cJ13_bitCount_95d88 54 = .ok (.lstore_n 0, 1) := by decide +kernel
theorem dJ13_bitCount_95d88_55 : decode cJ13_bitCount_95d88 55 = .ok (.lload_n 0, 1) := by decide +kernel
theorem dJ13_bitCount_95d88_56 : decode cJ13_bitCount_95d88 56 = .ok (.l2i, 1) := by decide +kernel
theorem dJ13_bitCount_95d88_57 : decode cJ13_bitCount_95d88 57 = .ok (.bipush 127, 2) := by decide +kernel
theorem dJ13_bitCount_95d88_59 : decode cJ13_bitCount_95d88 59 = .ok (.iand, 1) := by decide +kernel
theorem dJ13_bitCount_95d88_60 : decode cJ13_bitCount_95d88 60 = .ok (.ireturn, 1) := by decide +kernel
theorem dJ9_abs_0f7a4_0 : decode cJ9_abs_0f7a4 0 = .ok (.iload_n 0, 1) := by decide +kernel
theorem dJ9_abs_0f7a4_1 : decode cJ9_abs_0f7a4 1 = .ok (.ifCond .ge 8, 3) := by decide +kernel
theorem dJ9_abs_0f7a4_4 : decode cJ9_abs_0f7a4 4 = .ok (.iload_n 0, 1) := by decide +kernel
theorem dJ9_abs_0f7a4_5 : decode cJ9_abs_0f7a4 5 = .ok (.ineg, 1) := by decide +kernel
theorem dJ9_abs_0f7a4_6 : decode cJ9_abs_0f7a4 6 = .ok (.goto 4, 3) := by decide +kernel
theorem dJ9_abs_0f7a4_9 : decode cJ9_abs_0f7a4 9 = .ok (.iload_n 0, 1) := by decide +kernel
theorem dJ9_abs_0f7a4_10 : decode cJ9_abs_0f7a4 10 = .ok (.ireturn, 1) := by decide +kernel
theorem dJ9_max_7cf53_0 : decode cJ9_max_7cf53 0 = .ok (.iload_n 0, 1) := by decide +kernel
theorem dJ9_max_7cf53_1 : decode cJ9_max_7cf53 1 = .ok (.iload_n 1, 1) := by decide +kernel
theorem dJ9_max_7cf53_2 : decode cJ9_max_7cf53 2 = .ok (.if_icmp .lt 7, 3) := by decide +kernel
theorem dJ9_max_7cf53_5 : decode cJ9_max_7cf53 5 = .ok (.iload_n 0, 1) := by decide +kernel
theorem dJ9_max_7cf53_6 : decode cJ9_max_7cf53 6 = .ok (.goto 4, 3) := by decide +kernel
theorem dJ9_max_7cf53_9 : decode cJ9_max_7cf53 9 = .ok (.iload_n 1, 1) := by decide +kernel
theorem dJ9_max_7cf53_10 : decode cJ9_max_7cf53 10 = .ok (.ireturn, 1) := by decide +kernel
theorem dJ9_min_7cf53_0 : decode cJ9_min_7cf53 0 = .ok (.iload_n 0, 1) := by decide +kernel
theorem dJ9_min_7cf53_1 : decode cJ9_min_7cf53 1 = .ok (.iload_n 1, 1) := by decide +kernel
theorem dJ9_min_7cf53_2 : decode cJ9_min_7cf53 2 = .ok (.if_icmp .gt 7, 3) := by decide +kernel
theorem dJ9_min_7cf53_5 : decode cJ9_min_7cf53 5 = .ok (.iload_n 0, 1) := by decide +kernel
theorem dJ9_min_7cf53_6 : decode cJ9_min_7cf53 6 = .ok (.goto 4, 3) := by decide +kernel
theorem dJ9_min_7cf53_9 : decode cJ9_min_7cf53 9 = .ok (.iload_n 1, 1) := by decide +kernel
theorem dJ9_min_7cf53_10 : decode cJ9_min_7cf53 10 = .ok (.ireturn, 1) := by decide +kernel
set_option maxRecDepth 20000 in
theorem ggL_append_X7_append : GoodIn wsL_append wsX7_append := goodIn_ca (goodIn_ca (goodIn_r _ [7, 8, 9, 10, 11, 12, 13, 14, 15, 16, 17, 18, 19, 20, 21] (by decide +kernel) (by decide +kernel)) (goodIn_sub (fun _ h => List.mem_cons_of_mem _ (List.mem_append_left _ (List.mem_append_right _ h))) (by decide +kernel))) (goodIn_sub (fun _ h => List.mem_cons_of_mem _ (List.mem_append_right _ h)) (by decide +kernel))
set_option maxRecDepth 20000 in
theorem gL_append_X7_append : GoodIn wsL_append (wsV RL 7 RX7 yX7_append wsX7_append) := goodIn_app (goodIn_of _ (by decide +kernel)) ggL_append_X7_append
theorem dL_append_0 : decode cL_append 0 = .ok (.aload_n 2, 1) := by decide +kernel
theorem dL_append_1 : decode cL_append 1 = .ok (.iconst 0, 1) := by decide +kernel
theorem dL_append_2 : decode cL_append 2 = .ok (.aload_n 0, 1) := by decide +kernel
theorem dL_append_3 : decode cL_append 3 = .ok (.iload_n 1, 1) := by decide +kernel
theorem dL_append_4 : decode cL_append 4 = .ok (.invokevirtual 7, 3) := by decide +kernel
theorem dL_append_7 : decode cL_append 7 = .ok (.i2l, 1) := by decide +kernel
theorem dL_append_8 : decode cL_append 8 = .ok (.lastore, 1) := by decide +kernel
theorem dL_append_9 : decode cL_append 9 = .ok (.goto 9, 3) := by decide +kernel
theorem dL_append_12 : decode cL_append 12 = .ok (.astore_n 3, 1) := by decide +kernel
theorem dL_append_13 : decode cL_append 13 = .ok (.iconst 1, 1) := by decide +kernel
theorem dL_append_14 : decode cL_append 14 = .ok (.ireturn, 1) := by decide +kernel
theorem dL_append_15 : decode cL_append 15 = .ok (.astore_n 3, 1) := by decide +kernel
theorem dL_append_16 : decode cL_append 16 = .ok (.iconst 2, 1) := by decide +kernel
theorem dL_append_17 : decode cL_append 17 = .ok (.ireturn, 1) := by decide +kernel
theorem dL_append_18 : decode cL_append 18 = .ok (.iconst 0, 1) := by decide +kernel
theorem dL_append_19 : decode cL_append 19 = .ok (.ireturn, 1) := by decide +kernel
set_option maxRecDepth 20000 in
theorem ggL_load_X7_load : GoodIn wsL_load wsX7_load := goodIn_ca (goodIn_r _ [6, 7, 8, 9, 10, 11, 12, 13, 14, 15, 16, 5, 17, 18, 19, 20, 21, 22, 23, 24, 25, 26, 27, 28, 29, 30, 31, 32, 33, 34, 35, 36, 37, 38, 39, 40, 41, 42, 43, 44, 45, 46, 47, 48, 49, 50, 51, 52, 53, 54, 55, 56, 57, 58, 59, 60, 61, 62, 63, 64, 65, 66, 67, 68, 69, 70, 71, 72, 73, 74, 75, 76, 77, 78, 79, 80, 81, 82, 83, 84, 85, 86, 87, 88, 89, 90, 91, 92, 93, 94, 95, 96, 97, 98, 99, 100, 101, 102, 103, 104, 105, 106, 107, 108, 109, 110, 111, 112, 113, 114, 115, 116, 117, 118, 119, 120, 121, 122, 123, 124, 125, 126, 127, 128, 129, 130, 131, 132, 133, 134, 135, 136, 137, 138, 139, 140, 141, 142, 143, 144, 145, 146, 147, 148, 149, 150, 151, 152] (by decide +kernel) (by decide +kernel)) (goodIn_sub (fun _ h => List.mem_cons_of_mem _ (List.mem_append_right _ h)) (by decide +kernel))
set_option maxRecDepth 20000 in
theorem gL_load_X7_load : GoodIn wsL_load (wsV RL 17 RX7 yX7_load wsX7_load) := goodIn_app (goodIn_of _ (by decide +kernel)) ggL_load_X7_load
theorem dL_load_0 : decode cL_load 0 = .ok (.aload_n 1, 1) := by decide +kernel
theorem dL_load_1 : decode cL_load 1 = .ok (.iconst 0, 1) := by decide +kernel
theorem dL_load_2 : decode cL_load 2 = .ok (.aload_n 0, 1) := by decide +kernel
theorem dL_load_3 : decode cL_load 3 = .ok (.invokevirtual 17, 3) := by decide +kernel
theorem dL_load_6 : decode cL_load 6 = .ok (.i2l, 1) := by decide +kernel
theorem dL_load_7 : decode cL_load 7 = .ok (.lastore, 1) := by decide +kernel
theorem dL_load_8 : decode cL_load 8 = .ok (.goto 6, 3) := by decide +kernel
theorem dL_load_11 : decode cL_load 11 = .ok (.astore_n 2, 1) := by decide +kernel
theorem dL_load_12 : decode cL_load 12 = .ok (.iconst 1, 1) := by decide +kernel
theorem dL_load_13 : decode cL_load 13 = .ok (.ireturn, 1) := by decide +kernel
theorem dL_load_14 : decode cL_load 14 = .ok (.iconst 0, 1) := by decide +kernel
theorem dL_load_15 : decode cL_load 15 = .ok (.ireturn, 1) := by decide +kernel
set_option maxRecDepth 20000 in
theorem ggL_about_X7_about : GoodIn wsL_about wsX7_about := goodIn_ca (goodIn_r _ [6, 7, 8, 9, 10, 11, 12, 13, 14, 15, 16, 17, 18, 19, 20, 21, 22, 23, 24, 25, 26, 27, 28, 29, 30, 31, 32, 33, 34, 35, 36, 37, 38, 39, 40, 41, 42, 43, 44, 45, 46, 5, 47, 48, 49, 50, 51, 52, 53, 54, 55, 56, 57, 58, 59, 60, 61, 62, 63, 64, 65, 66, 67, 68, 69, 70, 71, 72, 73, 74, 75, 76, 77, 78, 79, 80, 81, 82, 83, 84, 85, 86, 87, 88, 89, 90, 91, 92, 93, 94, 95, 96, 97, 98, 99, 100, 101, 102, 103, 104, 105, 106, 107, 108, 109, 110, 111, 112, 113, 114, 115, 116, 117, 118, 119, 120, 121, 122, 123, 124, 125, 126, 127, 128, 129, 130, 131, 132, 133, 134, 135, 136, 137, 138, 139, 140, 141, 142, 143, 144, 145, 146, 147, 148, 149, 150, 151, 152, 153, 154, 155] (by decide +kernel) (by decide +kernel)) (goodIn_sub (fun _ h => List.mem_cons_of_mem _ (List.mem_append_right _ h)) (by decide +kernel))
set_option maxRecDepth 20000 in
theorem gL_about_X7_about : GoodIn wsL_about (wsV RL 21 RX7 yX7_about wsX7_about) := goodIn_app (goodIn_of _ (by decide +kernel)) ggL_about_X7_about
theorem dL_about_0 : decode cL_about 0 = .ok (.aload_n 2, 1) := by decide +kernel
theorem dL_about_1 : decode cL_about 1 = .ok (.iconst 0, 1) := by decide +kernel
theorem dL_about_2 : decode cL_about 2 = .ok (.aload_n 0, 1) := by decide +kernel
theorem dL_about_3 : decode cL_about 3 = .ok (.iload_n 1, 1) := by decide +kernel
theorem dL_about_4 : decode cL_about 4 = .ok (.invokevirtual 21, 3) := by decide +kernel
theorem dL_about_7 : decode cL_about 7 = .ok (.i2l, 1) := by decide +kernel
theorem dL_about_8 : decode cL_about 8 = .ok (.lastore, 1) := by decide +kernel
theorem dL_about_9 : decode cL_about 9 = .ok (.goto 6, 3) := by decide +kernel
theorem dL_about_12 : decode cL_about 12 = .ok (.astore_n 3, 1) := by decide +kernel
theorem dL_about_13 : decode cL_about 13 = .ok (.iconst 1, 1) := by decide +kernel
theorem dL_about_14 : decode cL_about 14 = .ok (.ireturn, 1) := by decide +kernel
theorem dL_about_15 : decode cL_about 15 = .ok (.iconst 0, 1) := by decide +kernel
theorem dL_about_16 : decode cL_about 16 = .ok (.ireturn, 1) := by decide +kernel
set_option maxRecDepth 20000 in
theorem ggL_layer_X7_layer : GoodIn wsL_layer wsX7_layer := goodIn_ca (goodIn_ca (goodIn_r _ [7, 8, 9, 10, 11, 12, 13, 14, 15, 16, 17, 18, 19, 20, 21, 22, 23, 24, 25, 26, 27, 28, 29, 30, 31, 32, 33, 34, 35, 36, 6, 37, 38, 39, 40, 41, 42, 43, 44, 45, 46, 47, 48, 49, 50, 51, 52, 53, 54, 55, 56, 57, 58, 59, 60, 61, 62, 63, 64, 65, 66, 67, 68, 69, 70, 71, 72, 73, 74, 75, 76, 77, 78, 79, 80, 81, 82, 83, 84, 85, 86, 87, 88, 89, 90, 91, 92, 93, 94, 95, 96, 97, 98, 99, 100, 101, 102, 103, 104, 105, 106, 107, 108, 109, 110, 111, 112, 113, 114, 115, 116, 117, 118, 119, 120, 121, 122, 123, 124, 125, 126, 127, 128, 129, 130, 131] (by decide +kernel) (by decide +kernel)) (goodIn_sub (fun _ h => List.mem_cons_of_mem _ (List.mem_append_left _ (List.mem_append_right _ h))) (by decide +kernel))) (goodIn_sub (fun _ h => List.mem_cons_of_mem _ (List.mem_append_right _ h)) (by decide +kernel))
set_option maxRecDepth 20000 in
theorem gL_layer_X7_layer : GoodIn wsL_layer (wsV RL 24 RX7 yX7_layer wsX7_layer) := goodIn_app (goodIn_of _ (by decide +kernel)) ggL_layer_X7_layer
theorem dL_layer_0 : decode cL_layer 0 = .ok (.aload_n 3, 1) := by decide +kernel
theorem dL_layer_1 : decode cL_layer 1 = .ok (.iconst 0, 1) := by decide +kernel
theorem dL_layer_2 : decode cL_layer 2 = .ok (.aload_n 0, 1) := by decide +kernel
theorem dL_layer_3 : decode cL_layer 3 = .ok (.iload_n 1, 1) := by decide +kernel
theorem dL_layer_4 : decode cL_layer 4 = .ok (.iload_n 2, 1) := by decide +kernel
theorem dL_layer_5 : decode cL_layer 5 = .ok (.invokevirtual 24, 3) := by decide +kernel
theorem dL_layer_8 : decode cL_layer 8 = .ok (.i2l, 1) := by decide +kernel
theorem dL_layer_9 : decode cL_layer 9 = .ok (.lastore, 1) := by decide +kernel
theorem dL_layer_10 : decode cL_layer 10 = .ok (.goto 11, 3) := by decide +kernel
theorem dL_layer_13 : decode cL_layer 13 = .ok (.astore 4, 2) := by decide +kernel
theorem dL_layer_15 : decode cL_layer 15 = .ok (.iconst 1, 1) := by decide +kernel
theorem dL_layer_16 : decode cL_layer 16 = .ok (.ireturn, 1) := by decide +kernel
theorem dL_layer_17 : decode cL_layer 17 = .ok (.astore 4, 2) := by decide +kernel
theorem dL_layer_19 : decode cL_layer 19 = .ok (.iconst 2, 1) := by decide +kernel
theorem dL_layer_20 : decode cL_layer 20 = .ok (.ireturn, 1) := by decide +kernel
theorem dL_layer_21 : decode cL_layer 21 = .ok (.iconst 0, 1) := by decide +kernel
theorem dL_layer_22 : decode cL_layer 22 = .ok (.ireturn, 1) := by decide +kernel
set_option maxRecDepth 20000 in
theorem ggL_pen_X7_pen : GoodIn wsL_pen wsX7_pen := goodIn_ca (goodIn_ca (goodIn_r _ [7, 8, 9, 10, 11, 12, 13, 14, 15, 16, 17, 18, 19, 20, 21, 22, 23, 24, 25, 26, 27, 6, 28, 29, 30, 31, 32, 33, 34, 35, 36, 37, 38, 39, 40, 41, 42, 43, 44, 45, 46, 47, 48, 49, 50, 51, 52, 53, 54, 55, 56, 57, 58, 59] (by decide +kernel) (by decide +kernel)) (goodIn_sub (fun _ h => List.mem_cons_of_mem _ (List.mem_append_left _ (List.mem_append_right _ h))) (by decide +kernel))) (goodIn_sub (fun _ h => List.mem_cons_of_mem _ (List.mem_append_right _ h)) (by decide +kernel))
set_option maxRecDepth 20000 in
theorem gL_pen_X7_pen : GoodIn wsL_pen (wsV RL 30 RX7 yX7_pen wsX7_pen) := goodIn_app (goodIn_of _ (by decide +kernel)) ggL_pen_X7_pen
theorem dL_pen_0 : decode cL_pen 0 = .ok (.aload 4, 2) := by decide +kernel
theorem dL_pen_2 : decode cL_pen 2 = .ok (.iconst 0, 1) := by decide +kernel
theorem dL_pen_3 : decode cL_pen 3 = .ok (.aload_n 0, 1) := by decide +kernel
theorem dL_pen_4 : decode cL_pen 4 = .ok (.iload_n 1, 1) := by decide +kernel
theorem dL_pen_5 : decode cL_pen 5 = .ok (.lload_n 2, 1) := by decide +kernel
theorem dL_pen_6 : decode cL_pen 6 = .ok (.invokevirtual 30, 3) := by decide +kernel
theorem dL_pen_9 : decode cL_pen 9 = .ok (.i2l, 1) := by decide +kernel
theorem dL_pen_10 : decode cL_pen 10 = .ok (.lastore, 1) := by decide +kernel
theorem dL_pen_11 : decode cL_pen 11 = .ok (.goto 11, 3) := by decide +kernel
theorem dL_pen_14 : decode cL_pen 14 = .ok (.astore 5, 2) := by decide +kernel
theorem dL_pen_16 : decode cL_pen 16 = .ok (.iconst 1, 1) := by decide +kernel
theorem dL_pen_17 : decode cL_pen 17 = .ok (.ireturn, 1) := by decide +kernel
theorem dL_pen_18 : decode cL_pen 18 = .ok (.astore 5, 2) := by decide +kernel
theorem dL_pen_20 : decode cL_pen 20 = .ok (.iconst 2, 1) := by decide +kernel
theorem dL_pen_21 : decode cL_pen 21 = .ok (.ireturn, 1) := by decide +kernel
theorem dL_pen_22 : decode cL_pen 22 = .ok (.iconst 0, 1) := by decide +kernel
theorem dL_pen_23 : decode cL_pen 23 = .ok (.ireturn, 1) := by decide +kernel
set_option maxRecDepth 20000 in
theorem ggL_comes_X7_comes : GoodIn wsL_comes wsX7_comes := goodIn_ca (goodIn_ca (goodIn_r _ [7, 8, 9, 10, 11, 12, 13, 14, 15, 16, 17, 18, 19, 20, 21, 22, 23, 24, 25, 26, 27, 6, 28, 29, 30, 31, 32, 33, 34, 35, 36, 37, 38, 39, 40, 41, 42, 43, 44, 45, 46, 47, 48, 49, 50, 51, 52, 53, 54, 55, 56, 57, 58, 59, 60, 61, 62, 63, 64, 65, 66, 67, 68, 69, 70, 71, 72, 73] (by decide +kernel) (by decide +kernel)) (goodIn_sub (fun _ h => List.mem_cons_of_mem _ (List.mem_append_left _ (List.mem_append_right _ h))) (by decide +kernel))) (goodIn_sub (fun _ h => List.mem_cons_of_mem _ (List.mem_append_right _ h)) (by decide +kernel))
set_option maxRecDepth 20000 in
theorem gL_comes_X7_comes : GoodIn wsL_comes (wsV RL 34 RX7 yX7_comes wsX7_comes) := goodIn_app (goodIn_of _ (by decide +kernel)) ggL_comes_X7_comes
theorem dL_comes_0 : decode cL_comes 0 = .ok (.aload 4, 2) := by decide +kernel
theorem dL_comes_2 : decode cL_comes 2 = .ok (.iconst 0, 1) := by decide +kernel
theorem dL_comes_3 : decode cL_comes 3 = .ok (.aload_n 0, 1) := by decide +kernel
theorem dL_comes_4 : decode cL_comes 4 = .ok (.iload_n 1, 1) := by decide +kernel
theorem dL_comes_5 : decode cL_comes 5 = .ok (.iload_n 2, 1) := by decide +kernel
theorem dL_comes_6 : decode cL_comes 6 = .ok (.iload_n 3, 1) := by decide +kernel
theorem dL_comes_7 : decode cL_comes 7 = .ok (.invokevirtual 34, 3) := by decide +kernel
theorem dL_comes_10 : decode cL_comes 10 = .ok (.i2l, 1) := by decide +kernel
theorem dL_comes_11 : decode cL_comes 11 = .ok (.lastore, 1) := by decide +kernel
theorem dL_comes_12 : decode cL_comes 12 = .ok (.goto 11, 3) := by decide +kernel
theorem dL_comes_15 : decode cL_comes 15 = .ok (.astore 5, 2) := by decide +kernel
theorem dL_comes_17 : decode cL_comes 17 = .ok (.iconst 1, 1) := by decide +kernel
theorem dL_comes_18 : decode cL_comes 18 = .ok (.ireturn, 1) := by decide +kernel
theorem dL_comes_19 : decode cL_comes 19 = .ok (.astore 5, 2) := by decide +kernel
theorem dL_comes_21 : decode cL_comes 21 = .ok (.iconst 2, 1) := by decide +kernel
theorem dL_comes_22 : decode cL_comes 22 = .ok (.ireturn, 1) := by decide +kernel
theorem dL_comes_23 : decode cL_comes 23 = .ok (.iconst 0, 1) := by decide +kernel
theorem dL_comes_24 : decode cL_comes 24 = .ok (.ireturn, 1) := by decide +kernel
set_option maxRecDepth 20000 in
theorem ggL_at_X7_at : GoodIn wsL_at wsX7_at := goodIn_ca (goodIn_r _ [6, 7, 8, 9, 10, 11, 12, 5, 13, 14, 15, 16, 17, 18, 19, 20, 21, 22, 23, 24, 25, 26, 27, 28, 29, 30, 31, 32, 33, 34, 35, 36, 37, 38, 39, 40, 41, 42, 43, 44, 45, 46, 47, 48, 49, 50, 51, 52, 53, 54, 55, 56, 57, 58, 59, 60, 61, 62, 63, 64, 65, 66, 67, 68, 69, 70, 71, 72, 73, 74, 75, 76, 77, 78, 79, 80, 81, 82, 83, 84, 85, 86, 87, 88, 89, 90, 91, 92, 93, 94, 95, 96, 97, 98, 99, 100, 101, 102, 103] (by decide +kernel) (by decide +kernel)) (goodIn_sub (fun _ h => List.mem_cons_of_mem _ (List.mem_append_right _ h)) (by decide +kernel))
set_option maxRecDepth 20000 in
theorem gL_at_X7_at : GoodIn wsL_at (wsV RL 38 RX7 yX7_at wsX7_at) := goodIn_app (goodIn_of _ (by decide +kernel)) ggL_at_X7_at
theorem dL_at_0 : decode cL_at 0 = .ok (.aload_n 2, 1) := by decide +kernel
theorem dL_at_1 : decode cL_at 1 = .ok (.iconst 0, 1) := by decide +kernel
theorem dL_at_2 : decode cL_at 2 = .ok (.aload_n 0, 1) := by decide +kernel
theorem dL_at_3 : decode cL_at 3 = .ok (.iload_n 1, 1) := by decide +kernel
theorem dL_at_4 : decode cL_at 4 = .ok (.invokevirtual 38, 3) := by decide +kernel
theorem dL_at_7 : decode cL_at 7 = .ok (.i2l, 1) := by decide +kernel
theorem dL_at_8 : decode cL_at 8 = .ok (.lastore, 1) := by decide +kernel
theorem dL_at_9 : decode cL_at 9 = .ok (.goto 6, 3) := by decide +kernel
theorem dL_at_12 : decode cL_at 12 = .ok (.astore_n 3, 1) := by decide +kernel
theorem dL_at_13 : decode cL_at 13 = .ok (.iconst 1, 1) := by decide +kernel
theorem dL_at_14 : decode cL_at 14 = .ok (.ireturn, 1) := by decide +kernel
theorem dL_at_15 : decode cL_at 15 = .ok (.iconst 0, 1) := by decide +kernel
theorem dL_at_16 : decode cL_at 16 = .ok (.ireturn, 1) := by decide +kernel
set_option maxRecDepth 20000 in
theorem ggL_order_X7_order : GoodIn wsL_order wsX7_order := goodIn_ca (goodIn_r _ [6, 7, 8, 9, 10, 11, 12, 13, 14, 15, 16, 17, 18, 19, 20, 21, 22, 23, 24, 25, 26, 27, 28, 29, 30, 31, 32, 33, 5, 34, 35, 36, 37, 38, 39, 40, 41, 42, 43, 44, 45, 46, 47, 48, 49, 50, 51, 52, 53, 54, 55, 56, 57, 58] (by decide +kernel) (by decide +kernel)) (goodIn_sub (fun _ h => List.mem_cons_of_mem _ (List.mem_append_right _ h)) (by decide +kernel))
set_option maxRecDepth 20000 in
theorem gL_order_X7_order : GoodIn wsL_order (wsV RL 41 RX7 yX7_order wsX7_order) := goodIn_app (goodIn_of _ (by decide +kernel)) ggL_order_X7_order
theorem dL_order_0 : decode cL_order 0 = .ok (.aload_n 2, 1) := by decide +kernel
theorem dL_order_1 : decode cL_order 1 = .ok (.iconst 0, 1) := by decide +kernel
theorem dL_order_2 : decode cL_order 2 = .ok (.aload_n 0, 1) := by decide +kernel
theorem dL_order_3 : decode cL_order 3 = .ok (.iload_n 1, 1) := by decide +kernel
theorem dL_order_4 : decode cL_order 4 = .ok (.invokevirtual 41, 3) := by decide +kernel
theorem dL_order_7 : decode cL_order 7 = .ok (.i2l, 1) := by decide +kernel
theorem dL_order_8 : decode cL_order 8 = .ok (.lastore, 1) := by decide +kernel
theorem dL_order_9 : decode cL_order 9 = .ok (.goto 6, 3) := by decide +kernel
theorem dL_order_12 : decode cL_order 12 = .ok (.astore_n 3, 1) := by decide +kernel
theorem dL_order_13 : decode cL_order 13 = .ok (.iconst 1, 1) := by decide +kernel
theorem dL_order_14 : decode cL_order 14 = .ok (.ireturn, 1) := by decide +kernel
theorem dL_order_15 : decode cL_order 15 = .ok (.iconst 0, 1) := by decide +kernel
theorem dL_order_16 : decode cL_order 16 = .ok (.ireturn, 1) := by decide +kernel
set_option maxRecDepth 20000 in
theorem ggL_sighting_X7_sighting : GoodIn wsL_sighting wsX7_sighting := goodIn_ca (goodIn_ca (goodIn_r _ [7, 8, 9, 10, 11, 12, 13, 14, 15, 16, 17, 18, 19, 20, 21, 22, 23, 24, 25, 26, 27, 28, 29, 30, 31, 32, 33, 34, 35, 36, 37, 38, 39, 40, 41, 42, 6, 43, 44, 45, 46, 47, 48, 49, 50, 51, 52, 53, 54, 55, 56, 57, 58, 59, 60, 61, 62, 63, 64, 65, 66, 67, 68, 69, 70, 71, 72, 73, 74, 75, 76, 77, 78, 79, 80] (by decide +kernel) (by decide +kernel)) (goodIn_sub (fun _ h => List.mem_cons_of_mem _ (List.mem_append_left _ (List.mem_append_right _ h))) (by decide +kernel))) (goodIn_sub (fun _ h => List.mem_cons_of_mem _ (List.mem_append_right _ h)) (by decide +kernel))
set_option maxRecDepth 20000 in
theorem gL_sighting_X7_sighting : GoodIn wsL_sighting (wsV RL 44 RX7 yX7_sighting wsX7_sighting) := goodIn_app (goodIn_of _ (by decide +kernel)) ggL_sighting_X7_sighting
theorem dL_sighting_0 : decode cL_sighting 0 = .ok (.aload_n 3, 1) := by decide +kernel
theorem dL_sighting_1 : decode cL_sighting 1 = .ok (.iconst 0, 1) := by decide +kernel
theorem dL_sighting_2 : decode cL_sighting 2 = .ok (.aload_n 0, 1) := by decide +kernel
theorem dL_sighting_3 : decode cL_sighting 3 = .ok (.iload_n 1, 1) := by decide +kernel
theorem dL_sighting_4 : decode cL_sighting 4 = .ok (.iload_n 2, 1) := by decide +kernel
theorem dL_sighting_5 : decode cL_sighting 5 = .ok (.invokevirtual 44, 3) := by decide +kernel
theorem dL_sighting_8 : decode cL_sighting 8 = .ok (.i2l, 1) := by decide +kernel
theorem dL_sighting_9 : decode cL_sighting 9 = .ok (.lastore, 1) := by decide +kernel
theorem dL_sighting_10 : decode cL_sighting 10 = .ok (.goto 11, 3) := by decide +kernel
theorem dL_sighting_13 : decode cL_sighting 13 = .ok (.astore 4, 2) := by decide +kernel
theorem dL_sighting_15 : decode cL_sighting 15 = .ok (.iconst 1, 1) := by decide +kernel
theorem dL_sighting_16 : decode cL_sighting 16 = .ok (.ireturn, 1) := by decide +kernel
theorem dL_sighting_17 : decode cL_sighting 17 = .ok (.astore 4, 2) := by decide +kernel
theorem dL_sighting_19 : decode cL_sighting 19 = .ok (.iconst 2, 1) := by decide +kernel
theorem dL_sighting_20 : decode cL_sighting 20 = .ok (.ireturn, 1) := by decide +kernel
theorem dL_sighting_21 : decode cL_sighting 21 = .ok (.iconst 0, 1) := by decide +kernel
theorem dL_sighting_22 : decode cL_sighting 22 = .ok (.ireturn, 1) := by decide +kernel
set_option maxRecDepth 20000 in
theorem ggL_common_X7_common : GoodIn wsL_common wsX7_common := goodIn_ca (goodIn_r _ [6, 7, 8, 9, 10, 11, 12, 13, 14, 15, 16, 17, 18, 19, 20, 21, 22, 23, 24, 25, 26, 27, 28, 29, 30, 31, 32, 33, 34, 35, 36, 37, 38, 39, 40, 41, 42, 43, 5, 44, 45, 46, 47, 48, 49, 50, 51, 52, 53, 54, 55, 56, 57, 58, 59, 60, 61, 62, 63, 64, 65, 66, 67, 68, 69, 70, 71, 72, 73, 74, 75, 76, 77, 78, 79, 80, 81, 82, 83, 84, 85, 86, 87, 88, 89, 90, 91, 92, 93, 94, 95, 96, 97, 98, 99, 100] (by decide +kernel) (by decide +kernel)) (goodIn_sub (fun _ h => List.mem_cons_of_mem _ (List.mem_append_right _ h)) (by decide +kernel))
set_option maxRecDepth 20000 in
theorem gL_common_X7_common : GoodIn wsL_common (wsV RL 47 RX7 yX7_common wsX7_common) := goodIn_app (goodIn_of _ (by decide +kernel)) ggL_common_X7_common
theorem dL_common_0 : decode cL_common 0 = .ok (.aload_n 3, 1) := by decide +kernel
theorem dL_common_1 : decode cL_common 1 = .ok (.iconst 0, 1) := by decide +kernel
theorem dL_common_2 : decode cL_common 2 = .ok (.aload_n 0, 1) := by decide +kernel
theorem dL_common_3 : decode cL_common 3 = .ok (.iload_n 1, 1) := by decide +kernel
theorem dL_common_4 : decode cL_common 4 = .ok (.iload_n 2, 1) := by decide +kernel
theorem dL_common_5 : decode cL_common 5 = .ok (.invokevirtual 47, 3) := by decide +kernel
theorem dL_common_8 : decode cL_common 8 = .ok (.i2l, 1) := by decide +kernel
theorem dL_common_9 : decode cL_common 9 = .ok (.lastore, 1) := by decide +kernel
theorem dL_common_10 : decode cL_common 10 = .ok (.goto 7, 3) := by decide +kernel
theorem dL_common_13 : decode cL_common 13 = .ok (.astore 4, 2) := by decide +kernel
theorem dL_common_15 : decode cL_common 15 = .ok (.iconst 1, 1) := by decide +kernel
theorem dL_common_16 : decode cL_common 16 = .ok (.ireturn, 1) := by decide +kernel
theorem dL_common_17 : decode cL_common 17 = .ok (.iconst 0, 1) := by decide +kernel
theorem dL_common_18 : decode cL_common 18 = .ok (.ireturn, 1) := by decide +kernel
set_option maxRecDepth 20000 in
theorem ggL_meet_X7_meet : GoodIn wsL_meet wsX7_meet := goodIn_ca (goodIn_r _ [6, 7, 8, 9, 10, 11, 12, 13, 14, 15, 16, 17, 18, 19, 20, 21, 22, 23, 24, 5, 25, 26, 27, 28, 29, 30, 31, 32, 33, 34, 35, 36, 37, 38, 39, 40, 41, 42, 43, 44, 45, 46, 47, 48, 49, 50, 51, 52, 53, 54, 55, 56, 57, 58, 59, 60, 61] (by decide +kernel) (by decide +kernel)) (goodIn_sub (fun _ h => List.mem_cons_of_mem _ (List.mem_append_right _ h)) (by decide +kernel))
set_option maxRecDepth 20000 in
theorem gL_meet_X7_meet : GoodIn wsL_meet (wsV RL 50 RX7 yX7_meet wsX7_meet) := goodIn_app (goodIn_of _ (by decide +kernel)) ggL_meet_X7_meet
theorem dL_meet_0 : decode cL_meet 0 = .ok (.aload_n 3, 1) := by decide +kernel
theorem dL_meet_1 : decode cL_meet 1 = .ok (.iconst 0, 1) := by decide +kernel
theorem dL_meet_2 : decode cL_meet 2 = .ok (.aload_n 0, 1) := by decide +kernel
theorem dL_meet_3 : decode cL_meet 3 = .ok (.iload_n 1, 1) := by decide +kernel
theorem dL_meet_4 : decode cL_meet 4 = .ok (.iload_n 2, 1) := by decide +kernel
theorem dL_meet_5 : decode cL_meet 5 = .ok (.invokevirtual 50, 3) := by decide +kernel
theorem dL_meet_8 : decode cL_meet 8 = .ok (.i2l, 1) := by decide +kernel
theorem dL_meet_9 : decode cL_meet 9 = .ok (.lastore, 1) := by decide +kernel
theorem dL_meet_10 : decode cL_meet 10 = .ok (.goto 7, 3) := by decide +kernel
theorem dL_meet_13 : decode cL_meet 13 = .ok (.astore 4, 2) := by decide +kernel
theorem dL_meet_15 : decode cL_meet 15 = .ok (.iconst 1, 1) := by decide +kernel
theorem dL_meet_16 : decode cL_meet 16 = .ok (.ireturn, 1) := by decide +kernel
theorem dL_meet_17 : decode cL_meet 17 = .ok (.iconst 0, 1) := by decide +kernel
theorem dL_meet_18 : decode cL_meet 18 = .ok (.ireturn, 1) := by decide +kernel
set_option maxRecDepth 20000 in
theorem ggL_turned_X7_turned : GoodIn wsL_turned wsX7_turned := goodIn_ca (goodIn_r _ [6, 7, 8, 9, 10, 11, 12, 13, 14, 15, 16, 17, 18, 19, 20, 21, 22, 23, 24, 25, 26, 27, 28, 29, 30, 31, 32, 33, 34, 35, 36, 37, 38, 39, 40, 41, 42, 43, 44, 45, 5, 46, 47, 48, 49, 50, 51, 52, 53, 54, 55, 56, 57, 58, 59, 60, 61, 62, 63, 64, 65, 66, 67, 68, 69, 70, 71, 72, 73, 74, 75, 76, 77, 78, 79, 80, 81, 82, 83, 84, 85, 86, 87, 88, 89, 90, 91, 92, 93, 94, 95, 96, 97, 98, 99, 100, 101, 102, 103, 104, 105, 106, 107, 108] (by decide +kernel) (by decide +kernel)) (goodIn_sub (fun _ h => List.mem_cons_of_mem _ (List.mem_append_right _ h)) (by decide +kernel))
set_option maxRecDepth 20000 in
theorem gL_turned_X7_turned : GoodIn wsL_turned (wsV RL 53 RX7 yX7_turned wsX7_turned) := goodIn_app (goodIn_of _ (by decide +kernel)) ggL_turned_X7_turned
theorem dL_turned_0 : decode cL_turned 0 = .ok (.aload_n 3, 1) := by decide +kernel
theorem dL_turned_1 : decode cL_turned 1 = .ok (.iconst 0, 1) := by decide +kernel
theorem dL_turned_2 : decode cL_turned 2 = .ok (.aload_n 0, 1) := by decide +kernel
theorem dL_turned_3 : decode cL_turned 3 = .ok (.iload_n 1, 1) := by decide +kernel
theorem dL_turned_4 : decode cL_turned 4 = .ok (.iload_n 2, 1) := by decide +kernel
theorem dL_turned_5 : decode cL_turned 5 = .ok (.invokevirtual 53, 3) := by decide +kernel
theorem dL_turned_8 : decode cL_turned 8 = .ok (.i2l, 1) := by decide +kernel
theorem dL_turned_9 : decode cL_turned 9 = .ok (.lastore, 1) := by decide +kernel
theorem dL_turned_10 : decode cL_turned 10 = .ok (.goto 7, 3) := by decide +kernel
theorem dL_turned_13 : decode cL_turned 13 = .ok (.astore 4, 2) := by decide +kernel
theorem dL_turned_15 : decode cL_turned 15 = .ok (.iconst 1, 1) := by decide +kernel
theorem dL_turned_16 : decode cL_turned 16 = .ok (.ireturn, 1) := by decide +kernel
theorem dL_turned_17 : decode cL_turned 17 = .ok (.iconst 0, 1) := by decide +kernel
theorem dL_turned_18 : decode cL_turned 18 = .ok (.ireturn, 1) := by decide +kernel
set_option maxRecDepth 20000 in
theorem ggL_setRing_X7_setRing : GoodIn wsL_setRing wsX7_setRing := goodIn_ca (goodIn_r _ [6, 7, 8, 9, 10, 11, 12, 13, 5, 14, 15, 16, 17, 18, 19, 20, 21, 22, 23, 24, 25, 26, 27, 28, 29, 30, 31, 32, 33, 34, 35, 36, 37, 38, 39, 40, 41, 42, 43, 44, 45, 46, 47, 48, 49, 50, 51, 52, 53, 54, 55, 56, 57, 58, 59, 60, 61, 62, 63, 64, 65, 66, 67, 68, 69, 70, 71, 72, 73, 74, 75, 76, 77, 78, 79, 80, 81, 82, 83, 84, 85, 86, 87, 88, 89, 90, 91, 92, 93, 94, 95, 96, 97, 98, 99, 100, 101, 102, 103, 104, 105, 106, 107, 108, 109, 110, 111] (by decide +kernel) (by decide +kernel)) (goodIn_sub (fun _ h => List.mem_cons_of_mem _ (List.mem_append_right _ h)) (by decide +kernel))
set_option maxRecDepth 20000 in
theorem gL_setRing_X7_setRing : GoodIn wsL_setRing (wsV RL 56 RX7 yX7_setRing wsX7_setRing) := goodIn_app (goodIn_of _ (by decide +kernel)) ggL_setRing_X7_setRing
theorem dL_setRing_0 : decode cL_setRing 0 = .ok (.aload_n 2, 1) := by decide +kernel
theorem dL_setRing_1 : decode cL_setRing 1 = .ok (.iconst 0, 1) := by decide +kernel
theorem dL_setRing_2 : decode cL_setRing 2 = .ok (.aload_n 0, 1) := by decide +kernel
theorem dL_setRing_3 : decode cL_setRing 3 = .ok (.iload_n 1, 1) := by decide +kernel
theorem dL_setRing_4 : decode cL_setRing 4 = .ok (.invokevirtual 56, 3) := by decide +kernel
theorem dL_setRing_7 : decode cL_setRing 7 = .ok (.i2l, 1) := by decide +kernel
theorem dL_setRing_8 : decode cL_setRing 8 = .ok (.lastore, 1) := by decide +kernel
theorem dL_setRing_9 : decode cL_setRing 9 = .ok (.goto 6, 3) := by decide +kernel
theorem dL_setRing_12 : decode cL_setRing 12 = .ok (.astore_n 3, 1) := by decide +kernel
theorem dL_setRing_13 : decode cL_setRing 13 = .ok (.iconst 1, 1) := by decide +kernel
theorem dL_setRing_14 : decode cL_setRing 14 = .ok (.ireturn, 1) := by decide +kernel
theorem dL_setRing_15 : decode cL_setRing 15 = .ok (.iconst 0, 1) := by decide +kernel
theorem dL_setRing_16 : decode cL_setRing 16 = .ok (.ireturn, 1) := by decide +kernel
set_option maxRecDepth 20000 in
theorem ggL_addLayer_X7_addLayer : GoodIn wsL_addLayer wsX7_addLayer := goodIn_ca (goodIn_ca (goodIn_r _ [7, 8, 9, 10, 11, 12, 13, 14, 15, 16, 6, 17, 18, 19, 20, 21, 22, 23, 24, 25, 26, 27, 28, 29, 30, 31, 32, 33, 34, 35, 36, 37, 38, 39, 40, 41, 42, 43, 44, 45, 46, 47, 48, 49, 50, 51, 52, 53, 54, 55, 56, 57, 58, 59, 60, 61, 62, 63, 64, 65, 66, 67, 68, 69, 70, 71, 72, 73, 74, 75, 76, 77, 78, 79, 80, 81, 82, 83, 84, 85, 86, 87, 88, 89, 90, 91, 92, 93, 94, 95, 96, 97, 98, 99, 100, 101, 102, 103, 104, 105, 106, 107, 108, 109, 110, 111, 112, 113, 114, 115, 116, 117, 118] (by decide +kernel) (by decide +kernel)) (goodIn_sub (fun _ h => List.mem_cons_of_mem _ (List.mem_append_left _ (List.mem_append_right _ h))) (by decide +kernel))) (goodIn_sub (fun _ h => List.mem_cons_of_mem _ (List.mem_append_right _ h)) (by decide +kernel))
set_option maxRecDepth 20000 in
theorem gL_addLayer_X7_addLayer : GoodIn wsL_addLayer (wsV RL 59 RX7 yX7_addLayer wsX7_addLayer) := goodIn_app (goodIn_of _ (by decide +kernel)) ggL_addLayer_X7_addLayer
theorem dL_addLayer_0 : decode cL_addLayer 0 = .ok (.aload 5, 2) := by decide +kernel
theorem dL_addLayer_2 : decode cL_addLayer 2 = .ok (.iconst 0, 1) := by decide +kernel
theorem dL_addLayer_3 : decode cL_addLayer 3 = .ok (.aload_n 0, 1) := by decide +kernel
theorem dL_addLayer_4 : decode cL_addLayer 4 = .ok (.iload_n 1, 1) := by decide +kernel
theorem dL_addLayer_5 : decode cL_addLayer 5 = .ok (.iload_n 2, 1) := by decide +kernel
theorem dL_addLayer_6 : decode cL_addLayer 6 = .ok (.iload_n 3, 1) := by decide +kernel
theorem dL_addLayer_7 : decode cL_addLayer 7 = .ok (.iload 4, 2) := by decide +kernel
theorem dL_addLayer_9 : decode cL_addLayer 9 = .ok (.invokevirtual 59, 3) := by decide +kernel
theorem dL_addLayer_12 : decode cL_addLayer 12 = .ok (.i2l, 1) := by decide +kernel
theorem dL_addLayer_13 : decode cL_addLayer 13 = .ok (.lastore, 1) := by decide +kernel
theorem dL_addLayer_14 : decode cL_addLayer 14 = .ok (.goto 11, 3) := by decide +kernel
theorem dL_addLayer_17 : decode cL_addLayer 17 = .ok (.astore 6, 2) := by decide +kernel
theorem dL_addLayer_19 : decode cL_addLayer 19 = .ok (.iconst 1, 1) := by decide +kernel
theorem dL_addLayer_20 : decode cL_addLayer 20 = .ok (.ireturn, 1) := by decide +kernel
theorem dL_addLayer_21 : decode cL_addLayer 21 = .ok (.astore 6, 2) := by decide +kernel
theorem dL_addLayer_23 : decode cL_addLayer 23 = .ok (.iconst 2, 1) := by decide +kernel
theorem dL_addLayer_24 : decode cL_addLayer 24 = .ok (.ireturn, 1) := by decide +kernel
theorem dL_addLayer_25 : decode cL_addLayer 25 = .ok (.iconst 0, 1) := by decide +kernel
theorem dL_addLayer_26 : decode cL_addLayer 26 = .ok (.ireturn, 1) := by decide +kernel
set_option maxRecDepth 20000 in
theorem ggL_change_X7_change : GoodIn wsL_change wsX7_change := goodIn_ca (goodIn_ca (goodIn_r _ [7, 8, 9, 10, 11, 12, 13, 14, 15, 16, 17, 18, 19, 20, 21, 22, 23, 24, 25, 6, 26, 27, 28, 29, 30, 31, 32, 33, 34, 35, 36, 37, 38, 39, 40, 41, 42, 43, 44, 45, 46, 47, 48, 49, 50, 51, 52, 53, 54, 55, 56, 57, 58, 59, 60, 61, 62, 63, 64, 65, 66, 67, 68, 69, 70, 71, 72, 73, 74, 75, 76, 77, 78, 79, 80, 81, 82, 83, 84, 85, 86, 87, 88, 89, 90, 91, 92, 93, 94, 95, 96, 97, 98, 99, 100, 101, 102, 103, 104, 105, 106, 107, 108, 109, 110, 111, 112, 113, 114, 115, 116, 117, 118, 119, 120, 121] (by decide +kernel) (by decide +kernel)) (goodIn_sub (fun _ h => List.mem_cons_of_mem _ (List.mem_append_left _ (List.mem_append_right _ h))) (by decide +kernel))) (goodIn_sub (fun _ h => List.mem_cons_of_mem _ (List.mem_append_right _ h)) (by decide +kernel))
set_option maxRecDepth 20000 in
theorem gL_change_X7_change : GoodIn wsL_change (wsV RL 63 RX7 yX7_change wsX7_change) := goodIn_app (goodIn_of _ (by decide +kernel)) ggL_change_X7_change
theorem dL_change_0 : decode cL_change 0 = .ok (.aload 4, 2) := by decide +kernel
theorem dL_change_2 : decode cL_change 2 = .ok (.iconst 0, 1) := by decide +kernel
theorem dL_change_3 : decode cL_change 3 = .ok (.aload_n 0, 1) := by decide +kernel
theorem dL_change_4 : decode cL_change 4 = .ok (.iload_n 1, 1) := by decide +kernel
theorem dL_change_5 : decode cL_change 5 = .ok (.iload_n 2, 1) := by decide +kernel
theorem dL_change_6 : decode cL_change 6 = .ok (.iload_n 3, 1) := by decide +kernel
theorem dL_change_7 : decode cL_change 7 = .ok (.invokevirtual 63, 3) := by decide +kernel
theorem dL_change_10 : decode cL_change 10 = .ok (.i2l, 1) := by decide +kernel
theorem dL_change_11 : decode cL_change 11 = .ok (.lastore, 1) := by decide +kernel
theorem dL_change_12 : decode cL_change 12 = .ok (.goto 11, 3) := by decide +kernel
theorem dL_change_15 : decode cL_change 15 = .ok (.astore 5, 2) := by decide +kernel
theorem dL_change_17 : decode cL_change 17 = .ok (.iconst 1, 1) := by decide +kernel
theorem dL_change_18 : decode cL_change 18 = .ok (.ireturn, 1) := by decide +kernel
theorem dL_change_19 : decode cL_change 19 = .ok (.astore 5, 2) := by decide +kernel
theorem dL_change_21 : decode cL_change 21 = .ok (.iconst 2, 1) := by decide +kernel
theorem dL_change_22 : decode cL_change 22 = .ok (.ireturn, 1) := by decide +kernel
theorem dL_change_23 : decode cL_change 23 = .ok (.iconst 0, 1) := by decide +kernel
theorem dL_change_24 : decode cL_change 24 = .ok (.ireturn, 1) := by decide +kernel
set_option maxRecDepth 20000 in
theorem ggL_remove_X7_remove : GoodIn wsL_remove wsX7_remove := goodIn_ca (goodIn_r _ [6, 7, 8, 9, 10, 11, 12, 13, 14, 15, 16, 17, 18, 19, 20, 21, 22, 23, 24, 25, 26, 27, 28, 29, 30, 31, 32, 33, 34, 35, 36, 37, 38, 39, 40, 41, 42, 43, 44, 45, 46, 47, 48, 49, 50, 51, 52, 53, 54, 55, 56, 57, 58, 59, 60, 61, 62, 63, 64, 65, 66, 67, 68, 69, 70, 71, 72, 73, 74, 75, 76, 77, 78, 79, 80, 81, 82, 83, 84, 85, 86, 87, 88, 89, 90, 91, 92, 93, 94, 95, 96, 97, 98, 99, 100, 101, 102, 103, 104, 105, 106, 107, 108, 109, 110] (by decide +kernel) (by decide +kernel)) (goodIn_sub (fun _ h => List.mem_cons_of_mem _ (List.mem_append_right _ h)) (by decide +kernel))
set_option maxRecDepth 20000 in
theorem gL_remove_X7_remove : GoodIn wsL_remove (wsV RL 66 RX7 yX7_remove wsX7_remove) := goodIn_app (goodIn_of _ (by decide +kernel)) ggL_remove_X7_remove
theorem dL_remove_0 : decode cL_remove 0 = .ok (.aload_n 2, 1) := by decide +kernel
theorem dL_remove_1 : decode cL_remove 1 = .ok (.iconst 0, 1) := by decide +kernel
theorem dL_remove_2 : decode cL_remove 2 = .ok (.aload_n 0, 1) := by decide +kernel
theorem dL_remove_3 : decode cL_remove 3 = .ok (.iload_n 1, 1) := by decide +kernel
theorem dL_remove_4 : decode cL_remove 4 = .ok (.invokevirtual 66, 3) := by decide +kernel
theorem dL_remove_7 : decode cL_remove 7 = .ok (.i2l, 1) := by decide +kernel
theorem dL_remove_8 : decode cL_remove 8 = .ok (.lastore, 1) := by decide +kernel
theorem dL_remove_9 : decode cL_remove 9 = .ok (.goto 6, 3) := by decide +kernel
theorem dL_remove_12 : decode cL_remove 12 = .ok (.astore_n 3, 1) := by decide +kernel
theorem dL_remove_13 : decode cL_remove 13 = .ok (.iconst 1, 1) := by decide +kernel
theorem dL_remove_14 : decode cL_remove 14 = .ok (.ireturn, 1) := by decide +kernel
theorem dL_remove_15 : decode cL_remove 15 = .ok (.iconst 0, 1) := by decide +kernel
theorem dL_remove_16 : decode cL_remove 16 = .ok (.ireturn, 1) := by decide +kernel
set_option maxRecDepth 20000 in
theorem ggL_see_X7_see : GoodIn wsL_see wsX7_see := goodIn_ca (goodIn_r _ [6, 7, 8, 9, 10, 11, 12, 13, 14, 15, 16, 17, 18, 5, 19, 20, 21, 22, 23, 24, 25, 26, 27, 28, 29, 30, 31, 32, 33, 34, 35, 36, 37, 38, 39, 40, 41, 42, 43, 44, 45, 46, 47, 48, 49, 50, 51, 52, 53, 54, 55, 56, 57, 58, 59, 60, 61, 62, 63, 64, 65, 66, 67, 68, 69, 70, 71, 72, 73, 74, 75, 76, 77, 78, 79, 80, 81, 82, 83, 84, 85, 86, 87, 88, 89, 90, 91, 92, 93, 94, 95, 96, 97, 98, 99, 100, 101, 102, 103, 104, 105, 106, 107, 108, 109, 110, 111, 112, 113, 114, 115, 116, 117, 118, 119, 120, 121, 122, 123, 124, 125, 126, 127, 128, 129, 130, 131, 132, 133, 134, 135, 136, 137] (by decide +kernel) (by decide +kernel)) (goodIn_sub (fun _ h => List.mem_cons_of_mem _ (List.mem_append_right _ h)) (by decide +kernel))
set_option maxRecDepth 20000 in
theorem gL_see_X7_see : GoodIn wsL_see (wsV RL 69 RX7 yX7_see wsX7_see) := goodIn_app (goodIn_of _ (by decide +kernel)) ggL_see_X7_see
theorem dL_see_0 : decode cL_see 0 = .ok (.aload_n 3, 1) := by decide +kernel
theorem dL_see_1 : decode cL_see 1 = .ok (.iconst 0, 1) := by decide +kernel
theorem dL_see_2 : decode cL_see 2 = .ok (.aload_n 0, 1) := by decide +kernel
theorem dL_see_3 : decode cL_see 3 = .ok (.iload_n 1, 1) := by decide +kernel
theorem dL_see_4 : decode cL_see 4 = .ok (.iload_n 2, 1) := by decide +kernel
theorem dL_see_5 : decode cL_see 5 = .ok (.invokevirtual 69, 3) := by decide +kernel
theorem dL_see_8 : decode cL_see 8 = .ok (.i2l, 1) := by decide +kernel
theorem dL_see_9 : decode cL_see 9 = .ok (.lastore, 1) := by decide +kernel
theorem dL_see_10 : decode cL_see 10 = .ok (.goto 7, 3) := by decide +kernel
theorem dL_see_13 : decode cL_see 13 = .ok (.astore 4, 2) := by decide +kernel
theorem dL_see_15 : decode cL_see 15 = .ok (.iconst 1, 1) := by decide +kernel
theorem dL_see_16 : decode cL_see 16 = .ok (.ireturn, 1) := by decide +kernel
theorem dL_see_17 : decode cL_see 17 = .ok (.iconst 0, 1) := by decide +kernel
theorem dL_see_18 : decode cL_see 18 = .ok (.ireturn, 1) := by decide +kernel
set_option maxRecDepth 20000 in
theorem ggL_undo_X7_undo : GoodIn wsL_undo wsX7_undo := goodIn_ca (goodIn_r _ [6, 7, 8, 9, 10, 11, 12, 13, 14, 15, 16, 17, 18, 19, 20, 21, 22, 23, 24, 25, 26, 27, 28, 29, 30, 31, 32, 33, 34, 35, 36, 37, 38, 39, 40, 41, 42, 43, 44, 45, 46, 47, 48, 49, 50, 51, 52, 53, 54, 55, 56, 57, 58, 59, 60, 61, 62, 63, 64, 65, 66, 67, 68, 69, 70, 71, 72, 73, 74, 75, 76, 77, 78, 79, 80, 81, 82, 83, 84, 85, 86, 87, 88, 89, 90, 91, 92, 93, 94, 95, 96, 97, 98, 99, 100] (by decide +kernel) (by decide +kernel)) (goodIn_sub (fun _ h => List.mem_cons_of_mem _ (List.mem_append_right _ h)) (by decide +kernel))
set_option maxRecDepth 20000 in
theorem gL_undo_X7_undo : GoodIn wsL_undo (wsV RL 72 RX7 yX7_undo wsX7_undo) := goodIn_app (goodIn_of _ (by decide +kernel)) ggL_undo_X7_undo
theorem dL_undo_0 : decode cL_undo 0 = .ok (.aload_n 1, 1) := by decide +kernel
theorem dL_undo_1 : decode cL_undo 1 = .ok (.iconst 0, 1) := by decide +kernel
theorem dL_undo_2 : decode cL_undo 2 = .ok (.aload_n 0, 1) := by decide +kernel
theorem dL_undo_3 : decode cL_undo 3 = .ok (.invokevirtual 72, 3) := by decide +kernel
theorem dL_undo_6 : decode cL_undo 6 = .ok (.i2l, 1) := by decide +kernel
theorem dL_undo_7 : decode cL_undo 7 = .ok (.lastore, 1) := by decide +kernel
theorem dL_undo_8 : decode cL_undo 8 = .ok (.goto 6, 3) := by decide +kernel
theorem dL_undo_11 : decode cL_undo 11 = .ok (.astore_n 2, 1) := by decide +kernel
theorem dL_undo_12 : decode cL_undo 12 = .ok (.iconst 1, 1) := by decide +kernel
theorem dL_undo_13 : decode cL_undo 13 = .ok (.ireturn, 1) := by decide +kernel
theorem dL_undo_14 : decode cL_undo 14 = .ok (.iconst 0, 1) := by decide +kernel
theorem dL_undo_15 : decode cL_undo 15 = .ok (.ireturn, 1) := by decide +kernel
set_option maxRecDepth 20000 in
theorem ggL_bestStart_X7_bestStart : GoodIn wsL_bestStart wsX7_bestStart := goodIn_ca (goodIn_ca (goodIn_r _ [7, 8, 9, 10, 11, 12, 13, 14, 15, 16, 17, 18, 19, 20, 21, 22, 23, 24, 25, 26, 27, 28, 29, 30, 31, 32, 33, 34, 35, 36, 37, 38, 39, 40, 41, 42, 43, 44, 45, 46, 47, 48, 6, 49, 50, 51, 52, 53, 54, 55, 56, 57, 58, 59, 60, 61, 62, 63, 64, 65, 66, 67, 68, 69, 70, 71, 72, 73, 74, 75, 76, 77, 78, 79, 80, 81, 82, 83, 84, 85, 86, 87, 88, 89, 90, 91, 92, 93, 94, 95, 96, 97, 98, 99, 100, 101, 102, 103, 104, 105, 106, 107, 108, 109, 110, 111, 112, 113, 114, 115, 116, 117] (by decide +kernel) (by decide +kernel)) (goodIn_sub (fun _ h => List.mem_cons_of_mem _ (List.mem_append_left _ (List.mem_append_right _ h))) (by decide +kernel))) (goodIn_sub (fun _ h => List.mem_cons_of_mem _ (List.mem_append_right _ h)) (by decide +kernel))
set_option maxRecDepth 20000 in
theorem gL_bestStart_X7_bestStart : GoodIn wsL_bestStart (wsV RL 75 RX7 yX7_bestStart wsX7_bestStart) := goodIn_app (goodIn_of _ (by decide +kernel)) ggL_bestStart_X7_bestStart
theorem dL_bestStart_0 : decode cL_bestStart 0 = .ok (.aload_n 3, 1) := by decide +kernel
theorem dL_bestStart_1 : decode cL_bestStart 1 = .ok (.iconst 0, 1) := by decide +kernel
theorem dL_bestStart_2 : decode cL_bestStart 2 = .ok (.aload_n 0, 1) := by decide +kernel
theorem dL_bestStart_3 : decode cL_bestStart 3 = .ok (.iload_n 1, 1) := by decide +kernel
theorem dL_bestStart_4 : decode cL_bestStart 4 = .ok (.iload_n 2, 1) := by decide +kernel
theorem dL_bestStart_5 : decode cL_bestStart 5 = .ok (.invokevirtual 75, 3) := by decide +kernel
theorem dL_bestStart_8 : decode cL_bestStart 8 = .ok (.i2l, 1) := by decide +kernel
theorem dL_bestStart_9 : decode cL_bestStart 9 = .ok (.lastore, 1) := by decide +kernel
theorem dL_bestStart_10 : decode cL_bestStart 10 = .ok (.goto 11, 3) := by decide +kernel
theorem dL_bestStart_13 : decode cL_bestStart 13 = .ok (.astore 4, 2) := by decide +kernel
theorem dL_bestStart_15 : decode cL_bestStart 15 = .ok (.iconst 1, 1) := by decide +kernel
theorem dL_bestStart_16 : decode cL_bestStart 16 = .ok (.ireturn, 1) := by decide +kernel
theorem dL_bestStart_17 : decode cL_bestStart 17 = .ok (.astore 4, 2) := by decide +kernel
theorem dL_bestStart_19 : decode cL_bestStart 19 = .ok (.iconst 2, 1) := by decide +kernel
theorem dL_bestStart_20 : decode cL_bestStart 20 = .ok (.ireturn, 1) := by decide +kernel
theorem dL_bestStart_21 : decode cL_bestStart 21 = .ok (.iconst 0, 1) := by decide +kernel
theorem dL_bestStart_22 : decode cL_bestStart 22 = .ok (.ireturn, 1) := by decide +kernel
set_option maxRecDepth 20000 in
theorem ggL_wheels_X7_wheels : GoodIn wsL_wheels wsX7_wheels := goodIn_ca (goodIn_r _ [6, 7, 8, 9, 10, 11, 12, 13, 5, 14, 15, 16, 17, 18, 19, 20, 21, 22, 23, 24, 25, 26, 27, 28, 29, 30, 31, 32, 33, 34, 35, 36, 37, 38, 39, 40, 41, 42, 43, 44, 45, 46, 47, 48, 49, 50, 51, 52, 53, 54, 55, 56, 57, 58, 59, 60, 61, 62, 63, 64, 65, 66, 67, 68, 69, 70, 71, 72, 73, 74, 75, 76, 77, 78, 79, 80, 81, 82, 83, 84, 85, 86, 87, 88, 89, 90] (by decide +kernel) (by decide +kernel)) (goodIn_sub (fun _ h => List.mem_cons_of_mem _ (List.mem_append_right _ h)) (by decide +kernel))
set_option maxRecDepth 20000 in
theorem gL_wheels_X7_wheels : GoodIn wsL_wheels (wsV RL 78 RX7 yX7_wheels wsX7_wheels) := goodIn_app (goodIn_of _ (by decide +kernel)) ggL_wheels_X7_wheels
theorem dL_wheels_0 : decode cL_wheels 0 = .ok (.aload 5, 2) := by decide +kernel
theorem dL_wheels_2 : decode cL_wheels 2 = .ok (.iconst 0, 1) := by decide +kernel
theorem dL_wheels_3 : decode cL_wheels 3 = .ok (.aload_n 0, 1) := by decide +kernel
theorem dL_wheels_4 : decode cL_wheels 4 = .ok (.iload_n 1, 1) := by decide +kernel
theorem dL_wheels_5 : decode cL_wheels 5 = .ok (.iload_n 2, 1) := by decide +kernel
theorem dL_wheels_6 : decode cL_wheels 6 = .ok (.iload_n 3, 1) := by decide +kernel
theorem dL_wheels_7 : decode cL_wheels 7 = .ok (.iload 4, 2) := by decide +kernel
theorem dL_wheels_9 : decode cL_wheels 9 = .ok (.invokevirtual 78, 3) := by decide +kernel
theorem dL_wheels_12 : decode cL_wheels 12 = .ok (.i2l, 1) := by decide +kernel
theorem dL_wheels_13 : decode cL_wheels 13 = .ok (.lastore, 1) := by decide +kernel
theorem dL_wheels_14 : decode cL_wheels 14 = .ok (.goto 7, 3) := by decide +kernel
theorem dL_wheels_17 : decode cL_wheels 17 = .ok (.astore 6, 2) := by decide +kernel
theorem dL_wheels_19 : decode cL_wheels 19 = .ok (.iconst 1, 1) := by decide +kernel
theorem dL_wheels_20 : decode cL_wheels 20 = .ok (.ireturn, 1) := by decide +kernel
theorem dL_wheels_21 : decode cL_wheels 21 = .ok (.iconst 0, 1) := by decide +kernel
theorem dL_wheels_22 : decode cL_wheels 22 = .ok (.ireturn, 1) := by decide +kernel
set_option maxRecDepth 20000 in
theorem ggL_wheelFor_X7_wheelFor : GoodIn wsL_wheelFor wsX7_wheelFor := goodIn_ca (goodIn_r _ [6, 7, 8, 9, 10, 11, 12, 13, 14, 15, 16, 17, 18, 19, 20, 21, 22, 23, 24, 25, 26, 5, 27, 28, 29, 30, 31, 32, 33, 34, 35, 36, 37, 38, 39, 40, 41, 42, 43, 44, 45, 46, 47, 48, 49, 50] (by decide +kernel) (by decide +kernel)) (goodIn_sub (fun _ h => List.mem_cons_of_mem _ (List.mem_append_right _ h)) (by decide +kernel))
set_option maxRecDepth 20000 in
theorem gL_wheelFor_X7_wheelFor : GoodIn wsL_wheelFor (wsV RL 81 RX7 yX7_wheelFor wsX7_wheelFor) := goodIn_app (goodIn_of _ (by decide +kernel)) ggL_wheelFor_X7_wheelFor
theorem dL_wheelFor_0 : decode cL_wheelFor 0 = .ok (.aload_n 2, 1) := by decide +kernel
theorem dL_wheelFor_1 : decode cL_wheelFor 1 = .ok (.iconst 0, 1) := by decide +kernel
theorem dL_wheelFor_2 : decode cL_wheelFor 2 = .ok (.aload_n 0, 1) := by decide +kernel
theorem dL_wheelFor_3 : decode cL_wheelFor 3 = .ok (.iload_n 1, 1) := by decide +kernel
theorem dL_wheelFor_4 : decode cL_wheelFor 4 = .ok (.invokevirtual 81, 3) := by decide +kernel
theorem dL_wheelFor_7 : decode cL_wheelFor 7 = .ok (.i2l, 1) := by decide +kernel
theorem dL_wheelFor_8 : decode cL_wheelFor 8 = .ok (.lastore, 1) := by decide +kernel
theorem dL_wheelFor_9 : decode cL_wheelFor 9 = .ok (.goto 6, 3) := by decide +kernel
theorem dL_wheelFor_12 : decode cL_wheelFor 12 = .ok (.astore_n 3, 1) := by decide +kernel
theorem dL_wheelFor_13 : decode cL_wheelFor 13 = .ok (.iconst 1, 1) := by decide +kernel
theorem dL_wheelFor_14 : decode cL_wheelFor 14 = .ok (.ireturn, 1) := by decide +kernel
theorem dL_wheelFor_15 : decode cL_wheelFor 15 = .ok (.iconst 0, 1) := by decide +kernel
theorem dL_wheelFor_16 : decode cL_wheelFor 16 = .ok (.ireturn, 1) := by decide +kernel
set_option maxRecDepth 20000 in
theorem ggL_runScript_X7_runScript : GoodIn wsL_runScript wsX7_runScript := goodIn_ca (goodIn_r _ [6, 7, 8, 9, 10, 11, 12, 13, 14, 15, 16, 17, 5, 18, 19, 20, 21, 22, 23, 24, 25, 26, 27, 28, 29, 30, 31, 32, 33, 34, 35, 36, 37, 38, 39, 40, 41, 42, 43, 44, 45, 46, 47, 48, 49, 50, 51, 52, 53, 54, 55, 56, 57, 58, 59, 60, 61, 62, 63, 64, 65, 66, 67, 68, 69, 70, 71, 72, 73, 74, 75, 76, 77, 78, 79, 80, 81, 82, 83, 84, 85, 86, 87, 88, 89, 90, 91, 92, 93, 94, 95, 96, 97, 98, 99, 100, 101, 102, 103, 104, 105, 106, 107, 108, 109, 110, 111, 112, 113, 114, 115, 116, 117, 118, 119, 120, 121, 122, 123, 124, 125, 126, 127, 128, 129, 130, 131, 132, 133, 134, 135, 136, 137, 138, 139, 140, 141, 142, 143, 144, 145, 146, 147, 148, 149, 150, 151, 152, 153, 154, 155, 156, 157, 158, 159, 160, 161, 162, 163, 164, 165, 166, 167, 168, 169, 170, 171, 172, 173, 174, 175, 176, 177, 178, 179, 180, 181, 182, 183, 184, 185, 186, 187, 188, 189, 190, 191, 192, 193, 194, 195, 196, 197, 198, 199, 200, 201, 202, 203, 204, 205, 206, 207, 208, 209, 210, 211, 212, 213, 214, 215, 216, 217, 218, 219, 220, 221, 222, 223, 224, 225, 226, 227, 228, 229, 230, 231, 232, 233, 234, 235, 236, 237, 238, 239, 240, 241, 242, 243, 244, 245, 246, 247, 248, 249, 250, 251, 252, 253, 254, 255, 256, 257, 258, 259, 260, 261, 262, 263, 264, 265, 266, 267, 268, 269, 270, 271, 272, 273, 274, 275, 276, 277, 278, 279, 280] (by decide +kernel) (by decide +kernel)) (goodIn_sub (fun _ h => List.mem_cons_of_mem _ (List.mem_append_right _ h)) (by decide +kernel))
set_option maxRecDepth 20000 in
theorem gL_runScript_X7_runScript : GoodIn wsL_runScript (wsV RL 84 RX7 yX7_runScript wsX7_runScript) := goodIn_app (goodIn_of _ (by decide +kernel)) ggL_runScript_X7_runScript
theorem dL_runScript_0 : decode cL_runScript 0 = .ok (.aload 4, 2) := by decide +kernel
theorem dL_runScript_2 : decode cL_runScript 2 = .ok (.iconst 0, 1) := by decide +kernel
theorem dL_runScript_3 : decode cL_runScript 3 = .ok (.aload_n 0, 1) := by decide +kernel
theorem dL_runScript_4 : decode cL_runScript 4 = .ok (.iload_n 1, 1) := by decide +kernel
theorem dL_runScript_5 : decode cL_runScript 5 = .ok (.lload_n 2, 1) := by decide +kernel
theorem dL_runScript_6 : decode cL_runScript 6 = .ok (.invokevirtual 84, 3) := by decide +kernel
theorem dL_runScript_9 : decode cL_runScript 9 = .ok (.i2l, 1) := by decide +kernel
theorem dL_runScript_10 : decode cL_runScript 10 = .ok (.lastore, 1) := by decide +kernel
theorem dL_runScript_11 : decode cL_runScript 11 = .ok (.goto 7, 3) := by decide +kernel
theorem dL_runScript_14 : decode cL_runScript 14 = .ok (.astore 5, 2) := by decide +kernel
theorem dL_runScript_16 : decode cL_runScript 16 = .ok (.iconst 1, 1) := by decide +kernel
theorem dL_runScript_17 : decode cL_runScript 17 = .ok (.ireturn, 1) := by decide +kernel
theorem dL_runScript_18 : decode cL_runScript 18 = .ok (.iconst 0, 1) := by decide +kernel
theorem dL_runScript_19 : decode cL_runScript 19 = .ok (.ireturn, 1) := by decide +kernel
set_option maxRecDepth 20000 in
theorem ggL_simulate_X7_simulate : GoodIn wsL_simulate wsX7_simulate := goodIn_ca (goodIn_r _ [6, 7, 8, 9, 10, 11, 12, 13, 14, 15, 16, 17, 18, 19, 20, 21, 22, 23, 24, 25, 26, 27, 28, 29, 30, 31, 32, 33, 34, 35, 36, 37, 38, 39, 40, 41, 42, 5, 43, 44, 45, 46, 47, 48, 49, 50, 51, 52, 53, 54, 55, 56, 57, 58, 59, 60, 61, 62, 63, 64, 65, 66, 67, 68, 69, 70, 71, 72, 73, 74, 75, 76, 77, 78, 79, 80, 81, 82, 83, 84, 85, 86] (by decide +kernel) (by decide +kernel)) (goodIn_sub (fun _ h => List.mem_cons_of_mem _ (List.mem_append_right _ h)) (by decide +kernel))
set_option maxRecDepth 20000 in
theorem gL_simulate_X7_simulate : GoodIn wsL_simulate (wsV RL 87 RX7 yX7_simulate wsX7_simulate) := goodIn_app (goodIn_of _ (by decide +kernel)) ggL_simulate_X7_simulate
theorem dL_simulate_0 : decode cL_simulate 0 = .ok (.aload 4, 2) := by decide +kernel
theorem dL_simulate_2 : decode cL_simulate 2 = .ok (.iconst 0, 1) := by decide +kernel
theorem dL_simulate_3 : decode cL_simulate 3 = .ok (.aload_n 0, 1) := by decide +kernel
theorem dL_simulate_4 : decode cL_simulate 4 = .ok (.lload_n 1, 1) := by decide +kernel
theorem dL_simulate_5 : decode cL_simulate 5 = .ok (.iload_n 3, 1) := by decide +kernel
theorem dL_simulate_6 : decode cL_simulate 6 = .ok (.invokevirtual 87, 3) := by decide +kernel
theorem dL_simulate_9 : decode cL_simulate 9 = .ok (.i2l, 1) := by decide +kernel
theorem dL_simulate_10 : decode cL_simulate 10 = .ok (.lastore, 1) := by decide +kernel
theorem dL_simulate_11 : decode cL_simulate 11 = .ok (.goto 7, 3) := by decide +kernel
theorem dL_simulate_14 : decode cL_simulate 14 = .ok (.astore 5, 2) := by decide +kernel
theorem dL_simulate_16 : decode cL_simulate 16 = .ok (.iconst 1, 1) := by decide +kernel
theorem dL_simulate_17 : decode cL_simulate 17 = .ok (.ireturn, 1) := by decide +kernel
theorem dL_simulate_18 : decode cL_simulate 18 = .ok (.iconst 0, 1) := by decide +kernel
theorem dL_simulate_19 : decode cL_simulate 19 = .ok (.ireturn, 1) := by decide +kernel
set_option maxRecDepth 20000 in
theorem ggL_save_X7_save : GoodIn wsL_save wsX7_save := goodIn_ca (goodIn_r _ [6, 7, 8, 9, 10, 11, 12, 13, 14, 5, 15, 16, 17, 18, 19, 20, 21, 22, 23, 24, 25, 26, 27, 28, 29, 30, 31, 32, 33, 34, 35, 36, 37, 38, 39, 40, 41, 42, 43, 44, 45, 46, 47, 48, 49, 50, 51, 52, 53, 54, 55, 56, 57, 58, 59, 60, 61, 62, 63, 64, 65, 66, 67, 68, 69, 70, 71, 72, 73, 74, 75, 76, 77, 78, 79, 80, 81, 82, 83, 84, 85, 86, 87, 88, 89, 90] (by decide +kernel) (by decide +kernel)) (goodIn_sub (fun _ h => List.mem_cons_of_mem _ (List.mem_append_right _ h)) (by decide +kernel))
set_option maxRecDepth 20000 in
theorem gL_save_X7_save : GoodIn wsL_save (wsV RL 91 RX7 yX7_save wsX7_save) := goodIn_app (goodIn_of _ (by decide +kernel)) ggL_save_X7_save
theorem dL_save_0 : decode cL_save 0 = .ok (.aload_n 2, 1) := by decide +kernel
theorem dL_save_1 : decode cL_save 1 = .ok (.iconst 0, 1) := by decide +kernel
theorem dL_save_2 : decode cL_save 2 = .ok (.aload_n 0, 1) := by decide +kernel
theorem dL_save_3 : decode cL_save 3 = .ok (.iload_n 1, 1) := by decide +kernel
theorem dL_save_4 : decode cL_save 4 = .ok (.invokevirtual 91, 3) := by decide +kernel
theorem dL_save_7 : decode cL_save 7 = .ok (.i2l, 1) := by decide +kernel
theorem dL_save_8 : decode cL_save 8 = .ok (.lastore, 1) := by decide +kernel
theorem dL_save_9 : decode cL_save 9 = .ok (.goto 6, 3) := by decide +kernel
theorem dL_save_12 : decode cL_save 12 = .ok (.astore_n 3, 1) := by decide +kernel
theorem dL_save_13 : decode cL_save 13 = .ok (.iconst 1, 1) := by decide +kernel
theorem dL_save_14 : decode cL_save 14 = .ok (.ireturn, 1) := by decide +kernel
theorem dL_save_15 : decode cL_save 15 = .ok (.iconst 0, 1) := by decide +kernel
theorem dL_save_16 : decode cL_save 16 = .ok (.ireturn, 1) := by decide +kernel
set_option maxRecDepth 20000 in
theorem ggL_restore_X7_restore : GoodIn wsL_restore wsX7_restore := goodIn_ca (goodIn_ca (goodIn_r _ [7, 8, 9, 10, 11, 12, 13, 14, 15, 16, 17, 18, 6, 19, 20, 21, 22, 23, 24, 25, 26, 27, 28, 29, 30, 31, 32, 33, 34, 35, 36, 37, 38, 39, 40, 41, 42, 43, 44, 45, 46, 47, 48, 49, 50, 51, 52, 53, 54, 55, 56, 57, 58, 59, 60, 61, 62, 63, 64, 65, 66, 67, 68, 69, 70, 71, 72, 73, 74, 75, 76, 77, 78, 79, 80, 81, 82, 83, 84, 85, 86, 87, 88, 89, 90, 91, 92, 93, 94, 95, 96, 97, 98, 99, 100, 101, 102, 103, 104] (by decide +kernel) (by decide +kernel)) (goodIn_sub (fun _ h => List.mem_cons_of_mem _ (List.mem_append_left _ (List.mem_append_right _ h))) (by decide +kernel))) (goodIn_sub (fun _ h => List.mem_cons_of_mem _ (List.mem_append_right _ h)) (by decide +kernel))
set_option maxRecDepth 20000 in
theorem gL_restore_X7_restore : GoodIn wsL_restore (wsV RL 94 RX7 yX7_restore wsX7_restore) := goodIn_app (goodIn_of _ (by decide +kernel)) ggL_restore_X7_restore
theorem dL_restore_0 : decode cL_restore 0 = .ok (.aload_n 2, 1) := by decide +kernel
theorem dL_restore_1 : decode cL_restore 1 = .ok (.iconst 0, 1) := by decide +kernel
theorem dL_restore_2 : decode cL_restore 2 = .ok (.aload_n 0, 1) := by decide +kernel
theorem dL_restore_3 : decode cL_restore 3 = .ok (.iload_n 1, 1) := by decide +kernel
theorem dL_restore_4 : decode cL_restore 4 = .ok (.invokevirtual 94, 3) := by decide +kernel
theorem dL_restore_7 : decode cL_restore 7 = .ok (.i2l, 1) := by decide +kernel
theorem dL_restore_8 : decode cL_restore 8 = .ok (.lastore, 1) := by decide +kernel
theorem dL_restore_9 : decode cL_restore 9 = .ok (.goto 9, 3) := by decide +kernel
theorem dL_restore_12 : decode cL_restore 12 = .ok (.astore_n 3, 1) := by decide +kernel
theorem dL_restore_13 : decode cL_restore 13 = .ok (.iconst 1, 1) := by decide +kernel
theorem dL_restore_14 : decode cL_restore 14 = .ok (.ireturn, 1) := by decide +kernel
theorem dL_restore_15 : decode cL_restore 15 = .ok (.astore_n 3, 1) := by decide +kernel
theorem dL_restore_16 : decode cL_restore 16 = .ok (.iconst 2, 1) := by decide +kernel
theorem dL_restore_17 : decode cL_restore 17 = .ok (.ireturn, 1) := by decide +kernel
theorem dL_restore_18 : decode cL_restore 18 = .ok (.iconst 0, 1) := by decide +kernel
theorem dL_restore_19 : decode cL_restore 19 = .ok (.ireturn, 1) := by decide +kernel

theorem dX7_about_87 : decode cX7_about 87 = .ok (.invokevirtual 101, 3) := by decide +kernel
theorem dX7_about_90 : decode cX7_about 90 = .ok (.ireturn, 1) := by decide +kernel
theorem dX7_about_91 : decode cX7_about 91 = .ok (.aload_n 0, 1) := by decide +kernel
theorem dX7_about_92 : decode cX7_about 92 = .ok (.getfield 16, 3) := by decide +kernel
theorem dX7_about_95 : decode cX7_about 95 = .ok (.invokevirtual 104, 3) := by decide +kernel
theorem dX7_about_98 : decode cX7_about 98 = .ok (.ireturn, 1) := by decide +kernel
theorem dX7_about_99 : decode cX7_about 99 = .ok (.aload_n 0, 1) := by decide +kernel
theorem dX7_about_100 : decode cX7_about 100 = .ok (.getfield 16, 3) := by decide +kernel
theorem dX7_about_103 : decode cX7_about 103 = .ok (.invokevirtual 107, 3) := by decide +kernel
theorem dX7_about_106 : decode cX7_about 106 = .ok (.ireturn, 1) := by decide +kernel
theorem dX7_about_107 : decode cX7_about 107 = .ok (.new 45, 3) := by decide +kernel
theorem dX7_about_110 : decode cX7_about 110 = .ok (.dup, 1) := by decide +kernel
theorem dX7_about_111 : decode cX7_about 111 = .ok (.ldc 110, 2) := by decide +kernel
theorem dX7_about_113 : decode cX7_about 113 = .ok (.invokespecial 49, 3) := by decide +kernel
theorem dX7_about_116 : decode cX7_about 116 = .ok (.athrow, 1) := by decide +kernel
set_option maxRecDepth 20000 in
theorem ggX7_layer_X4_find : GoodIn wsX7_layer wsX4_find := goodIn_r _ [16, 17, 18, 116, 117, 118, 119, 120, 121] (by decide +kernel) (by decide +kernel)
set_option maxRecDepth 20000 in
theorem gX7_layer_X4_find : GoodIn wsX7_layer (wsV RX7 112 RX4 yX4_find wsX4_find) := goodIn_app (goodIn_of _ (by decide +kernel)) ggX7_layer_X4_find
set_option maxRecDepth 20000 in
theorem ggX7_layer_X3_period : GoodIn wsX7_layer wsX3_period := goodIn_r _ [23, 24, 25, 26, 22, 27, 28, 29, 30, 31, 32, 33, 112, 113, 114, 115] (by decide +kernel) (by decide +kernel)
set_option maxRecDepth 20000 in
theorem gX7_layer_X3_period : GoodIn wsX7_layer (wsV RX7 135 RX3 yX3_period wsX3_period) := goodIn_app (goodIn_of _ (by decide +kernel)) ggX7_layer_X3_period
set_option maxRecDepth 20000 in
theorem ggX7_layer_X3_turns : GoodIn wsX7_layer wsX3_turns := goodIn_r _ [27, 28, 29, 30, 31, 32, 33, 112, 113, 114, 115] (by decide +kernel) (by decide +kernel)
set_option maxRecDepth 20000 in
theorem gX7_layer_X3_turns : GoodIn wsX7_layer (wsV RX7 139 RX3 yX3_turns wsX3_turns) := goodIn_app (goodIn_of _ (by decide +kernel)) ggX7_layer_X3_turns
set_option maxRecDepth 20000 in
theorem ggX7_layer_X3_lobes : GoodIn wsX7_layer wsX3_lobes := goodIn_r _ [38, 28, 29, 30, 31, 32, 33, 112, 113, 114, 115] (by decide +kernel) (by decide +kernel)
set_option maxRecDepth 20000 in
theorem gX7_layer_X3_lobes : GoodIn wsX7_layer (wsV RX7 142 RX3 yX3_lobes wsX3_lobes) := goodIn_app (goodIn_of _ (by decide +kernel)) ggX7_layer_X3_lobes
set_option maxRecDepth 20000 in
theorem ggX7_layer_X0_cutOne : GoodIn wsX7_layer wsX0_cutOne := goodIn_r _ [43, 44, 45, 46, 47, 48, 49, 50, 51, 52, 53, 54, 55, 56, 36, 37, 22, 38, 28, 29, 30, 31, 32, 33, 57, 58, 59, 60, 61, 62, 63, 64, 65, 66, 67, 68, 69, 70, 71, 72, 73, 74, 75, 76, 77, 122, 123, 124, 125, 112, 113, 114, 115] (by decide +kernel) (by decide +kernel)
set_option maxRecDepth 20000 in
theorem gX7_layer_X0_cutOne : GoodIn wsX7_layer (wsV RX7 145 RX0 yX0_cutOne wsX0_cutOne) := goodIn_app (goodIn_of _ (by decide +kernel)) ggX7_layer_X0_cutOne
set_option maxRecDepth 20000 in
theorem ggX7_layer_X5_size : GoodIn wsX7_layer wsX5_size := goodIn_r _ [81, 50, 82, 83, 84, 85, 86, 87, 88, 125] (by decide +kernel) (by decide +kernel)
set_option maxRecDepth 20000 in
theorem gX7_layer_X5_size : GoodIn wsX7_layer (wsV RX7 96 RX5 yX5_size wsX5_size) := goodIn_app (goodIn_of _ (by decide +kernel)) ggX7_layer_X5_size
set_option maxRecDepth 20000 in
theorem ggX7_layer_X3_leastRadius : GoodIn wsX7_layer wsX3_leastRadius := goodIn_r _ [92, 28, 93, 94, 65, 95, 96, 58, 59, 22, 60, 61, 62, 63, 64, 66, 67, 30, 68, 32, 33, 112, 113, 114, 115] (by decide +kernel) (by decide +kernel)
set_option maxRecDepth 20000 in
theorem gX7_layer_X3_leastRadius : GoodIn wsX7_layer (wsV RX7 149 RX3 yX3_leastRadius wsX3_leastRadius) := goodIn_app (goodIn_of _ (by decide +kernel)) ggX7_layer_X3_leastRadius
set_option maxRecDepth 20000 in
theorem ggX7_layer_X3_greatestRadius : GoodIn wsX7_layer wsX3_greatestRadius := goodIn_r _ [100, 28, 101, 102, 65, 103, 96, 58, 59, 22, 60, 61, 62, 63, 64, 66, 67, 30, 68, 32, 33, 112, 113, 114, 115] (by decide +kernel) (by decide +kernel)
set_option maxRecDepth 20000 in
theorem gX7_layer_X3_greatestRadius : GoodIn wsX7_layer (wsV RX7 150 RX3 yX3_greatestRadius wsX3_greatestRadius) := goodIn_app (goodIn_of _ (by decide +kernel)) ggX7_layer_X3_greatestRadius
theorem dX7_layer_0 : decode cX7_layer 0 = .ok (.aload_n 0, 1) := by decide +kernel
theorem dX7_layer_1 : decode cX7_layer 1 = .ok (.getfield 16, 3) := by decide +kernel
theorem dX7_layer_4 : decode cX7_layer 4 = .ok (.iload_n 1, 1) := by decide +kernel
theorem dX7_layer_5 : decode cX7_layer 5 = .ok (.invokevirtual 112, 3) := by decide +kernel
theorem dX7_layer_8 : decode cX7_layer 8 = .ok (.astore_n 3, 1) := by decide +kernel
theorem dX7_layer_9 : decode cX7_layer 9 = .ok (.aload_n 3, 1) := by decide +kernel
theorem dX7_layer_10 : decode cX7_layer 10 = .ok (.ifnonnull 13, 3) := by decide +kernel
theorem dX7_layer_13 : decode cX7_layer 13 = .ok (.new 116, 3) := by decide +kernel
theorem dX7_layer_16 : decode cX7_layer 16 = .ok (.dup, 1) := by decide +kernel
theorem dX7_layer_17 : decode cX7_layer 17 = .ok (.ldc 118, 2) := by decide +kernel
theorem dX7_layer_19 : decode cX7_layer 19 = .ok (.invokespecial 120, 3) := by decide +kernel
theorem dX7_layer_22 : decode cX7_layer 22 = .ok (.athrow, 1) := by decide +kernel
theorem dX7_layer_23 : decode cX7_layer 23 = .ok (.iload_n 2, 1) := by decide +kernel
theorem dX7_layer_24 : decode cX7_layer 24 = .ok (.tableswitch 141 0 9 #[56, 61, 66, 71, 76, 88, 100, 112, 131, 136], 56) := by decide +kernel
theorem dX7_layer_80 : decode cX7_layer 80 = .ok (.aload_n 3, 1) := by decide +kernel
theorem dX7_layer_81 : decode cX7_layer 81 = .ok (.getfield 121, 3) := by decide +kernel
theorem dX7_layer_84 : decode cX7_layer 84 = .ok (.ireturn, 1) := by decide +kernel
theorem dX7_layer_85 : decode cX7_layer 85 = .ok (.aload_n 3, 1) := by decide +kernel
theorem dX7_layer_86 : decode cX7_layer 86 = .ok (.getfield 126, 3) := by decide +kernel
theorem dX7_layer_89 : decode cX7_layer 89 = .ok (.ireturn, 1) := by decide +kernel
theorem dX7_layer_90 : decode cX7_layer 90 = .ok (.aload_n 3, 1) := by decide +kernel
theorem dX7_layer_91 : decode cX7_layer 91 = .ok (.getfield 129, 3) := by decide +kernel
theorem dX7_layer_94 : decode cX7_layer 94 = .ok (.ireturn, 1) := by decide +kernel
theorem dX7_layer_95 : decode cX7_layer 95 = .ok (.aload_n 3, 1) := by decide +kernel
theorem dX7_layer_96 : decode cX7_layer 96 = .ok (.getfield 132, 3) := by decide +kernel
theorem dX7_layer_99 : decode cX7_layer 99 = .ok (.ireturn, 1) := by decide +kernel
theorem dX7_layer_100 : decode cX7_layer 100 = .ok (.aload_n 3, 1) := by decide +kernel
theorem dX7_layer_101 : decode cX7_layer 101 = .ok (.aload_n 0, 1) := by decide +kernel
theorem dX7_layer_102 : decode cX7_layer 102 = .ok (.getfield 16, 3) := by decide +kernel
theorem dX7_layer_105 : decode cX7_layer 105 = .ok (.getfield 86, 3) := by decide +kernel
theorem dX7_layer_108 : decode cX7_layer 108 = .ok (.invokevirtual 135, 3) := by decide +kernel
theorem dX7_layer_111 : decode cX7_layer 111 = .ok (.ireturn, 1) := by decide +kernel
theorem dX7_layer_112 : decode cX7_layer 112 = .ok (.aload_n 3, 1) := by decide +kernel
theorem dX7_layer_113 : decode cX7_layer 113 = .ok (.aload_n 0, 1) := by decide +kernel
theorem dX7_layer_114 : decode cX7_layer 114 = .ok (.getfield 16, 3) := by decide +kernel
theorem dX7_layer_117 : decode cX7_layer 117 = .ok (.getfield 86, 3) := by decide +kernel
theorem dX7_layer_120 : decode cX7_layer 120 = .ok (.invokevirtual 139, 3) := by decide +kernel
theorem dX7_layer_123 : decode cX7_layer 123 = .ok (.ireturn, 1) := by decide +kernel
theorem dX7_layer_124 : decode cX7_layer 124 = .ok (.aload_n 3, 1) := by decide +kernel
theorem dX7_layer_125 : decode cX7_layer 125 = .ok (.aload_n 0, 1) := by decide +kernel
theorem dX7_layer_126 : decode cX7_layer 126 = .ok (.getfield 16, 3) := by decide +kernel
theorem dX7_layer_129 : decode cX7_layer 129 = .ok (.getfield 86, 3) := by decide +kernel
theorem dX7_layer_132 : decode cX7_layer 132 = .ok (.invokevirtual 142, 3) := by decide +kernel
theorem dX7_layer_135 : decode cX7_layer 135 = .ok (.ireturn, 1) := by decide +kernel
theorem dX7_layer_136 : decode cX7_layer 136 = .ok (.aload_n 0, 1) := by decide +kernel
theorem dX7_layer_137 : decode cX7_layer 137 = .ok (.getfield 41, 3) := by decide +kernel
theorem dX7_layer_140 : decode cX7_layer 140 = .ok (.aload_n 0, 1) := by decide +kernel
theorem dX7_layer_141 : decode cX7_layer 141 = .ok (.getfield 16, 3) := by decide +kernel
theorem dX7_layer_144 : decode cX7_layer 144 = .ok (.getfield 86, 3) := by decide +kernel
theorem dX7_layer_147 : decode cX7_layer 147 = .ok (.aload_n 3, 1) := by decide +kernel
theorem dX7_layer_148 : decode cX7_layer 148 = .ok (.invokevirtual 145, 3) := by decide +kernel
theorem dX7_layer_151 : decode cX7_layer 151 = .ok (.invokevirtual 96, 3) := by decide +kernel
theorem dX7_layer_154 : decode cX7_layer 154 = .ok (.ireturn, 1) := by decide +kernel
theorem dX7_layer_155 : decode cX7_layer 155 = .ok (.aload_n 3, 1) := by decide +kernel
theorem dX7_layer_156 : decode cX7_layer 156 = .ok (.invokevirtual 149, 3) := by decide +kernel
theorem dX7_layer_159 : decode cX7_layer 159 = .ok (.ireturn, 1) := by decide +kernel
theorem dX7_layer_160 : decode cX7_layer 160 = .ok (.aload_n 3, 1) := by decide +kernel
theorem dX7_layer_161 : decode cX7_layer 161 = .ok (.invokevirtual 150, 3) := by decide +kernel
theorem dX7_layer_164 : decode cX7_layer 164 = .ok (.ireturn, 1) := by decide +kernel
theorem dX7_layer_165 : decode cX7_layer 165 = .ok (.new 45, 3) := by decide +kernel
theorem dX7_layer_168 : decode cX7_layer 168 = .ok (.dup, 1) := by decide +kernel
theorem dX7_layer_169 : decode cX7_layer 169 = .ok (.ldc 151, 2) := by decide +kernel
theorem dX7_layer_171 : decode cX7_layer 171 = .ok (.invokespecial 49, 3) := by decide +kernel
theorem dX7_layer_174 : decode cX7_layer 174 = .ok (.athrow, 1) := by decide +kernel
set_option maxRecDepth 20000 in
theorem ggX7_pen_X4_find : GoodIn wsX7_pen wsX4_find := goodIn_r _ [11, 12, 13, 44, 45, 46, 47, 48, 49] (by decide +kernel) (by decide +kernel)
set_option maxRecDepth 20000 in
theorem gX7_pen_X4_find : GoodIn wsX7_pen (wsV RX7 112 RX4 yX4_find wsX4_find) := goodIn_app (goodIn_of _ (by decide +kernel)) ggX7_pen_X4_find
set_option maxRecDepth 20000 in
theorem ggX7_pen_X3_angleAt : GoodIn wsX7_pen wsX3_angleAt := goodIn_r _ [18, 19, 20, 21, 22, 50, 51, 52, 53] (by decide +kernel) (by decide +kernel)
set_option maxRecDepth 20000 in
theorem gX7_pen_X3_angleAt : GoodIn wsX7_pen (wsV RX7 155 RX3 yX3_angleAt wsX3_angleAt) := goodIn_app (goodIn_of _ (by decide +kernel)) ggX7_pen_X3_angleAt
set_option maxRecDepth 20000 in
theorem ggX7_pen_X3_radiusAt : GoodIn wsX7_pen wsX3_radiusAt := goodIn_r _ [26, 27, 28, 29, 30, 31, 32, 33, 20, 21, 22, 34, 35, 50, 51, 52, 53] (by decide +kernel) (by decide +kernel)
set_option maxRecDepth 20000 in
theorem gX7_pen_X3_radiusAt : GoodIn wsX7_pen (wsV RX7 159 RX3 yX3_radiusAt wsX3_radiusAt) := goodIn_app (goodIn_of _ (by decide +kernel)) ggX7_pen_X3_radiusAt
theorem dX7_pen_0 : decode cX7_pen 0 = .ok (.aload_n 0, 1) := by decide +kernel
theorem dX7_pen_1 : decode cX7_pen 1 = .ok (.getfield 16, 3) := by decide +kernel
theorem dX7_pen_4 : decode cX7_pen 4 = .ok (.iload_n 1, 1) := by decide +kernel
theorem dX7_pen_5 : decode cX7_pen 5 = .ok (.invokevirtual 112, 3) := by decide +kernel
theorem dX7_pen_8 : decode cX7_pen 8 = .ok (.astore 4, 2) := by decide +kernel
theorem dX7_pen_10 : decode cX7_pen 10 = .ok (.aload 4, 2) := by decide +kernel
theorem dX7_pen_12 : decode cX7_pen 12 = .ok (.ifnonnull 13, 3) := by decide +kernel
theorem dX7_pen_15 : decode cX7_pen 15 = .ok (.new 116, 3) := by decide +kernel
theorem dX7_pen_18 : decode cX7_pen 18 = .ok (.dup, 1) := by decide +kernel
theorem dX7_pen_19 : decode cX7_pen 19 = .ok (.ldc 118, 2) := by decide +kernel
theorem dX7_pen_21 : decode cX7_pen 21 = .ok (.invokespecial 120, 3) := by decide +kernel
theorem dX7_pen_24 : decode cX7_pen 24 = .ok (.athrow, 1) := by decide +kernel
theorem dX7_pen_25 : decode cX7_pen 25 = .ok (.lload_n 2, 1) := by decide +kernel
theorem dX7_pen_26 : decode cX7_pen 26 = .ok (.lconst 0, 1) := by decide +kernel
theorem dX7_pen_27 : decode cX7_pen 27 = .ok (.lcmp, 1) := by decide +kernel
theorem dX7_pen_28 : decode cX7_pen 28 = .ok (.ifCond .ge 13, 3) := by decide +kernel
theorem dX7_pen_31 : decode cX7_pen 31 = .ok (.new 45, 3) := by decide +kernel
theorem dX7_pen_34 : decode cX7_pen 34 = .ok (.dup, 1) := by decide +kernel
theorem dX7_pen_35 : decode cX7_pen 35 = .ok (.ldc 153, 2) := by decide +kernel
theorem dX7_pen_37 : decode cX7_pen 37 = .ok (.invokespecial 49, 3) := by decide +kernel
theorem dX7_pen_40 : decode cX7_pen 40 = .ok (.athrow, 1) := by decide +kernel
theorem dX7_pen_41 : decode cX7_pen 41 = .ok (.sipush 1000, 3) := by decide +kernel
theorem dX7_pen_44 : decode cX7_pen 44 = .ok (.aload 4, 2) := by decide +kernel
theorem dX7_pen_46 : decode cX7_pen 46 = .ok (.aload_n 0, 1) := by decide +kernel
theorem dX7_pen_47 : decode cX7_pen 47 = .ok (.getfield 16, 3) := by decide +kernel
theorem dX7_pen_50 : decode cX7_pen 50 = .ok (.getfield 86, 3) := by decide +kernel
theorem dX7_pen_53 : decode cX7_pen 53 = .ok (.lload_n 2, 1) := by decide +kernel
theorem dX7_pen_54 : decode cX7_pen 54 = .ok (.invokevirtual 155, 3) := by decide +kernel
theorem dX7_pen_57 : decode cX7_pen 57 = .ok (.imul, 1) := by decide +kernel
theorem dX7_pen_58 : decode cX7_pen 58 = .ok (.aload 4, 2) := by decide +kernel
theorem dX7_pen_60 : decode cX7_pen 60 = .ok (.lload_n 2, 1) := by decide +kernel
theorem dX7_pen_61 : decode cX7_pen 61 = .ok (.invokevirtual 159, 3) := by decide +kernel
theorem dX7_pen_64 : decode cX7_pen 64 = .ok (.iadd, 1) := by decide +kernel
theorem dX7_pen_65 : decode cX7_pen 65 = .ok (.ireturn, 1) := by decide +kernel
set_option maxRecDepth 20000 in
theorem ggX7_comes_X4_find : GoodIn wsX7_comes wsX4_find := goodIn_r _ [11, 12, 13, 58, 59, 60, 61, 62, 63] (by decide +kernel) (by decide +kernel)
set_option maxRecDepth 20000 in
theorem gX7_comes_X4_find : GoodIn wsX7_comes (wsV RX7 112 RX4 yX4_find wsX4_find) := goodIn_app (goodIn_of _ (by decide +kernel)) ggX7_comes_X4_find
set_option maxRecDepth 20000 in
theorem ggX7_comes_X4_hasTooth : GoodIn wsX7_comes wsX4_hasTooth := goodIn_r _ [17, 18, 58, 59, 60, 61, 62, 63] (by decide +kernel) (by decide +kernel)
set_option maxRecDepth 20000 in
theorem gX7_comes_X4_hasTooth : GoodIn wsX7_comes (wsV RX7 163 RX4 yX4_hasTooth wsX4_hasTooth) := goodIn_app (goodIn_of _ (by decide +kernel)) ggX7_comes_X4_hasTooth
set_option maxRecDepth 20000 in
theorem ggX7_comes_X7_isRadius : GoodIn wsX7_comes wsX7_isRadius := goodIn_r _ [22] (by decide +kernel) (by decide +kernel)
set_option maxRecDepth 20000 in
theorem gX7_comes_X7_isRadius : GoodIn wsX7_comes (va_wsS RX7 167 yX7_isRadius wsX7_isRadius) := goodIn_app (goodIn_of _ (by decide +kernel)) ggX7_comes_X7_isRadius
set_option maxRecDepth 20000 in
theorem ggX7_comes_X3_firstStepAt : GoodIn wsX7_comes wsX3_firstStepAt := goodIn_r _ [27, 28, 29, 21, 30, 31, 32, 33, 26, 34, 35, 36, 37, 38, 39, 40, 41, 42, 43, 44, 45, 46, 47, 48, 49, 64, 65, 66, 67] (by decide +kernel) (by decide +kernel)
set_option maxRecDepth 20000 in
theorem gX7_comes_X3_firstStepAt : GoodIn wsX7_comes (wsV RX7 172 RX3 yX3_firstStepAt wsX3_firstStepAt) := goodIn_app (goodIn_of _ (by decide +kernel)) ggX7_comes_X3_firstStepAt
theorem dX7_comes_0 : decode cX7_comes 0 = .ok (.aload_n 0, 1) := by decide +kernel
theorem dX7_comes_1 : decode cX7_comes 1 = .ok (.getfield 16, 3) := by decide +kernel
theorem dX7_comes_4 : decode cX7_comes 4 = .ok (.iload_n 1, 1) := by decide +kernel
theorem dX7_comes_5 : decode cX7_comes 5 = .ok (.invokevirtual 112, 3) := by decide +kernel
theorem dX7_comes_8 : decode cX7_comes 8 = .ok (.astore 4, 2) := by decide +kernel
theorem dX7_comes_10 : decode cX7_comes 10 = .ok (.aload 4, 2) := by decide +kernel
theorem dX7_comes_12 : decode cX7_comes 12 = .ok (.ifnonnull 13, 3) := by decide +kernel
theorem dX7_comes_15 : decode cX7_comes 15 = .ok (.new 116, 3) := by decide +kernel
theorem dX7_comes_18 : decode cX7_comes 18 = .ok (.dup, 1) := by decide +kernel
theorem dX7_comes_19 : decode cX7_comes 19 = .ok (.ldc 118, 2) := by decide +kernel
theorem dX7_comes_21 : decode cX7_comes 21 = .ok (.invokespecial 120, 3) := by decide +kernel
theorem dX7_comes_24 : decode cX7_comes 24 = .ok (.athrow, 1) := by decide +kernel
theorem dX7_comes_25 : decode cX7_comes 25 = .ok (.aload_n 0, 1) := by decide +kernel
theorem dX7_comes_26 : decode cX7_comes 26 = .ok (.getfield 16, 3) := by decide +kernel
theorem dX7_comes_29 : decode cX7_comes 29 = .ok (.iload_n 2, 1) := by decide +kernel
theorem dX7_comes_30 : decode cX7_comes 30 = .ok (.invokevirtual 163, 3) := by decide +kernel
theorem dX7_comes_33 : decode cX7_comes 33 = .ok (.ifCond .eq 10, 3) := by decide +kernel
theorem dX7_comes_36 : decode cX7_comes 36 = .ok (.iload_n 3, 1) := by decide +kernel
theorem dX7_comes_37 : decode cX7_comes 37 = .ok (.invokestatic 167, 3) := by decide +kernel
theorem dX7_comes_40 : decode cX7_comes 40 = .ok (.ifCond .ne 13, 3) := by decide +kernel
theorem dX7_comes_43 : decode cX7_comes 43 = .ok (.new 45, 3) := by decide +kernel
theorem dX7_comes_46 : decode cX7_comes 46 = .ok (.dup, 1) := by decide +kernel
theorem dX7_comes_47 : decode cX7_comes 47 = .ok (.ldc 170, 2) := by decide +kernel
theorem dX7_comes_49 : decode cX7_comes 49 = .ok (.invokespecial 49, 3) := by decide +kernel
theorem dX7_comes_52 : decode cX7_comes 52 = .ok (.athrow, 1) := by decide +kernel
theorem dX7_comes_53 : decode cX7_comes 53 = .ok (.aload 4, 2) := by decide +kernel
theorem dX7_comes_55 : decode cX7_comes 55 = .ok (.aload_n 0, 1) := by decide +kernel
theorem dX7_comes_56 : decode cX7_comes 56 = .ok (.getfield 16, 3) := by decide +kernel
theorem dX7_comes_59 : decode cX7_comes 59 = .ok (.getfield 86, 3) := by decide +kernel
theorem dX7_comes_62 : decode cX7_comes 62 = .ok (.iload_n 2, 1) := by decide +kernel
theorem dX7_comes_63 : decode cX7_comes 63 = .ok (.iload_n 3, 1) := by decide +kernel
theorem dX7_comes_64 : decode cX7_comes 64 = .ok (.invokevirtual 172, 3) := by decide +kernel
theorem dX7_comes_67 : decode cX7_comes 67 = .ok (.ireturn, 1) := by decide +kernel
set_option maxRecDepth 20000 in
theorem ggX7_at_X7_isRadius : GoodIn wsX7_at wsX7_isRadius := goodIn_r _ [8] (by decide +kernel) (by decide +kernel)
set_option maxRecDepth 20000 in
theorem gX7_at_X7_isRadius : GoodIn wsX7_at (va_wsS RX7 167 yX7_isRadius wsX7_isRadius) := goodIn_app (goodIn_of _ (by decide +kernel)) ggX7_at_X7_isRadius
set_option maxRecDepth 20000 in
theorem ggX7_at_X0_cutAll : GoodIn wsX7_at wsX0_cutAll := goodIn_r _ [13, 14, 15, 16, 17, 18, 19, 20, 21, 22, 23, 24, 25, 26, 27, 28, 29, 30, 31, 32, 33, 34, 35, 36, 37, 38, 39, 40, 41, 7, 42, 43, 44, 45, 46, 47, 48, 49, 50, 51, 52, 53, 54, 55, 56, 57, 58, 59, 60, 61, 62, 63, 64, 65, 85, 86, 87, 88, 89, 90, 91, 92, 93, 94, 95, 96, 97, 98] (by decide +kernel) (by decide +kernel)
set_option maxRecDepth 20000 in
theorem gX7_at_X0_cutAll : GoodIn wsX7_at (wsV RX7 92 RX0 yX0_cutAll wsX0_cutAll) := goodIn_app (goodIn_of _ (by decide +kernel)) ggX7_at_X0_cutAll
set_option maxRecDepth 20000 in
theorem ggX7_at_X5_sizeAt : GoodIn wsX7_at wsX5_sizeAt := goodIn_r _ [69, 22, 70, 71, 72, 73, 74, 75, 76, 94] (by decide +kernel) (by decide +kernel)
set_option maxRecDepth 20000 in
theorem gX7_at_X5_sizeAt : GoodIn wsX7_at (wsV RX7 178 RX5 yX5_sizeAt wsX5_sizeAt) := goodIn_app (goodIn_of _ (by decide +kernel)) ggX7_at_X5_sizeAt
theorem dX7_at_0 : decode cX7_at 0 = .ok (.iload_n 1, 1) := by decide +kernel
theorem dX7_at_1 : decode cX7_at 1 = .ok (.invokestatic 167, 3) := by decide +kernel
theorem dX7_at_4 : decode cX7_at 4 = .ok (.ifCond .ne 13, 3) := by decide +kernel
theorem dX7_at_7 : decode cX7_at 7 = .ok (.new 45, 3) := by decide +kernel
theorem dX7_at_10 : decode cX7_at 10 = .ok (.dup, 1) := by decide +kernel
theorem dX7_at_11 : decode cX7_at 11 = .ok (.ldc 176, 2) := by decide +kernel
theorem dX7_at_13 : decode cX7_at 13 = .ok (.invokespecial 49, 3) := by decide +kernel
theorem dX7_at_16 : decode cX7_at 16 = .ok (.athrow, 1) := by decide +kernel
theorem dX7_at_17 : decode cX7_at 17 = .ok (.aload_n 0, 1) := by decide +kernel
theorem dX7_at_18 : decode cX7_at 18 = .ok (.getfield 41, 3) := by decide +kernel
theorem dX7_at_21 : decode cX7_at 21 = .ok (.aload_n 0, 1) := by decide +kernel
theorem dX7_at_22 : decode cX7_at 22 = .ok (.getfield 16, 3) := by decide +kernel
theorem dX7_at_25 : decode cX7_at 25 = .ok (.invokevirtual 92, 3) := by decide +kernel
theorem dX7_at_28 : decode cX7_at 28 = .ok (.iload_n 1, 1) := by decide +kernel
theorem dX7_at_29 : decode cX7_at 29 = .ok (.invokevirtual 178, 3) := by decide +kernel
theorem dX7_at_32 : decode cX7_at 32 = .ok (.ireturn, 1) := by decide +kernel
set_option maxRecDepth 20000 in
theorem ggX7_blank_X0_cutAll : GoodIn wsX7_blank wsX0_cutAll := goodIn_r _ [8, 9, 10, 11, 12, 13, 14, 15, 16, 17, 18, 19, 20, 21, 22, 23, 24, 25, 26, 27, 28, 29, 30, 31, 32, 33, 34, 35, 36, 37, 38, 39, 40, 41, 42, 43, 44, 45, 46, 47, 48, 49, 50, 51, 52, 53, 54, 55, 56, 57, 58, 59, 60, 61, 94, 95, 96, 88, 89, 90, 91, 92, 93, 97, 98, 99, 100, 101] (by decide +kernel) (by decide +kernel)
set_option maxRecDepth 20000 in
theorem gX7_blank_X0_cutAll : GoodIn wsX7_blank (wsV RX7 92 RX0 yX0_cutAll wsX0_cutAll) := goodIn_app (goodIn_of _ (by decide +kernel)) ggX7_blank_X0_cutAll
set_option maxRecDepth 20000 in
theorem ggX7_blank_X5_widestGap : GoodIn wsX7_blank wsX5_widestGap := goodIn_r _ [65, 66, 67, 49, 68, 69, 70, 71, 15, 72, 17, 73, 74, 75, 76, 77, 78, 79, 97] (by decide +kernel) (by decide +kernel)
set_option maxRecDepth 20000 in
theorem gX7_blank_X5_widestGap : GoodIn wsX7_blank (wsV RX7 181 RX5 yX5_widestGap wsX5_widestGap) := goodIn_app (goodIn_of _ (by decide +kernel)) ggX7_blank_X5_widestGap
theorem dX7_blank_0 : decode cX7_blank 0 = .ok (.aload_n 0, 1) := by decide +kernel
theorem dX7_blank_1 : decode cX7_blank 1 = .ok (.getfield 16, 3) := by decide +kernel
theorem dX7_blank_4 : decode cX7_blank 4 = .ok (.getfield 74, 3) := by decide +kernel
theorem dX7_blank_7 : decode cX7_blank 7 = .ok (.ifCond .ne 8, 3) := by decide +kernel
theorem dX7_blank_10 : decode cX7_blank 10 = .ok (.bipush (-9), 2) := by decide +kernel
theorem dX7_blank_12 : decode cX7_blank 12 = .ok (.goto 17, 3) := by decide +kernel
theorem dX7_blank_15 : decode cX7_blank 15 = .ok (.aload_n 0, 1) := by decide +kernel
theorem dX7_blank_16 : decode cX7_blank 16 = .ok (.getfield 41, 3) := by decide +kernel
theorem dX7_blank_19 : decode cX7_blank 19 = .ok (.aload_n 0, 1) := by decide +kernel
theorem dX7_blank_20 : decode cX7_blank 20 = .ok (.getfield 16, 3) := by decide +kernel
theorem dX7_blank_23 : decode cX7_blank 23 = .ok (.invokevirtual 92, 3) := by decide +kernel
theorem dX7_blank_26 : decode cX7_blank 26 = .ok (.invokevirtual 181, 3) := by decide +kernel
theorem dX7_blank_29 : decode cX7_blank 29 = .ok (.ireturn, 1) := by decide +kernel
set_option maxRecDepth 20000 in
theorem ggX7_together_X4_find : GoodIn wsX7_together wsX4_find := goodIn_r _ [8, 9, 10, 39, 40, 41, 42, 43, 44] (by decide +kernel) (by decide +kernel)
set_option maxRecDepth 20000 in
theorem gX7_together_X4_find : GoodIn wsX7_together (wsV RX7 112 RX4 yX4_find wsX4_find) := goodIn_app (goodIn_of _ (by decide +kernel)) ggX7_together_X4_find
set_option maxRecDepth 20000 in
theorem ggX7_together_X3_period : GoodIn wsX7_together wsX3_period := goodIn_r _ [15, 16, 17, 18, 14, 19, 20, 21, 22, 23, 24, 25, 45, 46, 47, 48] (by decide +kernel) (by decide +kernel)
set_option maxRecDepth 20000 in
theorem gX7_together_X3_period : GoodIn wsX7_together (wsV RX7 135 RX3 yX3_period wsX3_period) := goodIn_app (goodIn_of _ (by decide +kernel)) ggX7_together_X3_period
set_option maxRecDepth 20000 in
theorem ggX7_together_X7_commonMultiple : GoodIn wsX7_together wsX7_commonMultiple := goodIn_r _ [28, 29, 21, 22, 23, 30, 24, 25] (by decide +kernel) (by decide +kernel)
set_option maxRecDepth 20000 in
theorem gX7_together_X7_commonMultiple : GoodIn wsX7_together (va_wsS RX7 184 yX7_commonMultiple wsX7_commonMultiple) := goodIn_app (goodIn_of _ (by decide +kernel)) ggX7_together_X7_commonMultiple
theorem dX7_together_0 : decode cX7_together 0 = .ok (.aload_n 0, 1) := by decide +kernel
theorem dX7_together_1 : decode cX7_together 1 = .ok (.getfield 16, 3) := by decide +kernel
theorem dX7_together_4 : decode cX7_together 4 = .ok (.getfield 74, 3) := by decide +kernel
theorem dX7_together_7 : decode cX7_together 7 = .ok (.ifCond .ne 5, 3) := by decide +kernel
theorem dX7_together_10 : decode cX7_together 10 = .ok (.lconst 0, 1) := by decide +kernel
theorem dX7_together_11 : decode cX7_together 11 = .ok (.lreturn, 1) := by decide +kernel
theorem dX7_together_12 : decode cX7_together 12 = .ok (.lconst 1, 1) := by decide +kernel
theorem dX7_together_13 : decode cX7_together 13 = .ok (.lstore_n 1, 1) := by decide +kernel
theorem dX7_together_14 : decode cX7_together 14 = .ok (.iconst 0, 1) := by decide +kernel
theorem dX7_together_15 : decode cX7_together 15 = .ok (.istore_n 3, 1) := by decide +kernel
theorem dX7_together_16 : decode cX7_together 16 = .ok (.iload_n 3, 1) := by decide +kernel
theorem dX7_together_17 : decode cX7_together 17 = .ok (.aload_n 0, 1) := by decide +kernel
theorem dX7_together_18 : decode cX7_together 18 = .ok (.getfield 16, 3) := by decide +kernel
theorem dX7_together_21 : decode cX7_together 21 = .ok (.getfield 74, 3) := by decide +kernel
theorem dX7_together_24 : decode cX7_together 24 = .ok (.if_icmp .ge 42, 3) := by decide +kernel
theorem dX7_together_27 : decode cX7_together 27 = .ok (.aload_n 0, 1) := by decide +kernel
theorem dX7_together_28 : decode cX7_together 28 = .ok (.getfield 16, 3) := by decide +kernel
theorem dX7_together_31 : decode cX7_together 31 = .ok (.iload_n 3, 1) := by decide +kernel
theorem dX7_together_32 : decode cX7_together 32 = .ok (.invokevirtual 112, 3) := by decide +kernel
theorem dX7_together_35 : decode cX7_together 35 = .ok (.astore 4, 2) := by decide +kernel
theorem dX7_together_37 : decode cX7_together 37 = .ok (.aload 4, 2) := by decide +kernel
theorem dX7_together_39 : decode cX7_together 39 = .ok (.ifnull 21, 3) := by decide +kernel
theorem dX7_together_42 : decode cX7_together 42 = .ok (.lload_n 1, 1) := by decide +kernel
theorem dX7_together_43 : decode cX7_together 43 = .ok (.aload 4, 2) := by decide +kernel
theorem dX7_together_45 : decode cX7_together 45 = .ok (.aload_n 0, 1) := by decide +kernel
theorem dX7_together_46 : decode cX7_together 46 = .ok (.getfield 16, 3) := by decide +kernel
theorem dX7_together_49 : decode cX7_together 49 = .ok (.getfield 86, 3) := by decide +kernel
theorem dX7_together_52 : decode cX7_together 52 = .ok (.invokevirtual 135, 3) := by decide +kernel
theorem dX7_together_55 : decode cX7_together 55 = .ok (.i2l, 1) := by decide +kernel
theorem dX7_together_56 : decode cX7_together 56 = .ok (.invokestatic 184, 3) := by decide +kernel
theorem dX7_together_59 : decode cX7_together 59 = .ok (.lstore_n 1, 1) := by decide +kernel
theorem dX7_together_60 : decode cX7_together 60 = .ok (.iinc 3 1, 3) := by decide +kernel
theorem dX7_together_63 : decode cX7_together 63 = .ok (.goto (-47), 3) := by decide +kernel
theorem dX7_together_66 : decode cX7_together 66 = .ok (.lload_n 1, 1) := by decide +kernel
theorem dX7_together_67 : decode cX7_together 67 = .ok (.lreturn, 1) := by decide +kernel
set_option maxRecDepth 20000 in
theorem ggX7_order_X4_cutBefore : GoodIn wsX7_order wsX4_cutBefore := goodIn_r _ [9, 10, 11, 12, 13, 8, 14, 15, 16, 17, 18, 19, 20, 21, 22, 23, 24, 25, 26, 27, 28, 29, 30, 31, 32, 33, 34, 35, 44, 45, 46, 47, 48, 49, 50, 51, 52, 53] (by decide +kernel) (by decide +kernel)
set_option maxRecDepth 20000 in
theorem gX7_order_X4_cutBefore : GoodIn wsX7_order (wsV RX7 190 RX4 yX4_cutBefore wsX4_cutBefore) := goodIn_app (goodIn_of _ (by decide +kernel)) ggX7_order_X4_cutBefore
theorem dX7_order_0 : decode cX7_order 0 = .ok (.iload_n 1, 1) := by decide +kernel
theorem dX7_order_1 : decode cX7_order 1 = .ok (.ifCond .ge 13, 3) := by decide +kernel
theorem dX7_order_4 : decode cX7_order 4 = .ok (.new 45, 3) := by decide +kernel
theorem dX7_order_7 : decode cX7_order 7 = .ok (.dup, 1) := by decide +kernel
theorem dX7_order_8 : decode cX7_order 8 = .ok (.ldc 188, 2) := by decide +kernel
theorem dX7_order_10 : decode cX7_order 10 = .ok (.invokespecial 49, 3) := by decide +kernel
theorem dX7_order_13 : decode cX7_order 13 = .ok (.athrow, 1) := by decide +kernel
theorem dX7_order_14 : decode cX7_order 14 = .ok (.iconst 0, 1) := by decide +kernel
theorem dX7_order_15 : decode cX7_order 15 = .ok (.istore_n 2, 1) := by decide +kernel
theorem dX7_order_16 : decode cX7_order 16 = .ok (.iload_n 2, 1) := by decide +kernel
theorem dX7_order_17 : decode cX7_order 17 = .ok (.aload_n 0, 1) := by decide +kernel
theorem dX7_order_18 : decode cX7_order 18 = .ok (.getfield 16, 3) := by decide +kernel
theorem dX7_order_21 : decode cX7_order 21 = .ok (.getfield 74, 3) := by decide +kernel
theorem dX7_order_24 : decode cX7_order 24 = .ok (.if_icmp .ge 23, 3) := by decide +kernel
theorem dX7_order_27 : decode cX7_order 27 = .ok (.aload_n 0, 1) := by decide +kernel
theorem dX7_order_28 : decode cX7_order 28 = .ok (.getfield 16, 3) := by decide +kernel
theorem dX7_order_31 : decode cX7_order 31 = .ok (.iload_n 2, 1) := by decide +kernel
theorem dX7_order_32 : decode cX7_order 32 = .ok (.invokevirtual 190, 3) := by decide +kernel
theorem dX7_order_35 : decode cX7_order 35 = .ok (.iload_n 1, 1) := by decide +kernel
theorem dX7_order_36 : decode cX7_order 36 = .ok (.if_icmp .ne 5, 3) := by decide +kernel
theorem dX7_order_39 : decode cX7_order 39 = .ok (.iload_n 2, 1) := by decide +kernel
theorem dX7_order_40 : decode cX7_order 40 = .ok (.ireturn, 1) := by decide +kernel
theorem dX7_order_41 : decode cX7_order 41 = .ok (.iinc 2 1, 3) := by decide +kernel
theorem dX7_order_44 : decode cX7_order 44 = .ok (.goto (-28), 3) := by decide +kernel
theorem dX7_order_47 : decode cX7_order 47 = .ok (.bipush (-9), 2) := by decide +kernel
theorem dX7_order_49 : decode cX7_order 49 = .ok (.ireturn, 1) := by decide +kernel
set_option maxRecDepth 20000 in
theorem ggX7_sighting_X4_sightedAngle : GoodIn wsX7_sighting wsX4_sightedAngle := goodIn_r _ [11, 12, 65, 66, 67, 68, 69, 70] (by decide +kernel) (by decide +kernel)
set_option maxRecDepth 20000 in
theorem gX7_sighting_X4_sightedAngle : GoodIn wsX7_sighting (wsV RX7 195 RX4 yX4_sightedAngle wsX4_sightedAngle) := goodIn_app (goodIn_of _ (by decide +kernel)) ggX7_sighting_X4_sightedAngle
set_option maxRecDepth 20000 in
theorem ggX7_sighting_X4_sightedRadius : GoodIn wsX7_sighting wsX4_sightedRadius := goodIn_r _ [16, 17, 65, 66, 67, 68, 69, 70] (by decide +kernel) (by decide +kernel)
set_option maxRecDepth 20000 in
theorem gX7_sighting_X4_sightedRadius : GoodIn wsX7_sighting (wsV RX7 198 RX4 yX4_sightedRadius wsX4_sightedRadius) := goodIn_app (goodIn_of _ (by decide +kernel)) ggX7_sighting_X4_sightedRadius
set_option maxRecDepth 20000 in
theorem ggX7_sighting_X4_layersThrough : GoodIn wsX7_sighting wsX4_layersThrough := goodIn_r _ [21, 22, 23, 24, 25, 26, 10, 27, 28, 29, 30, 31, 32, 33, 34, 35, 36, 37, 38, 39, 40, 41, 42, 43, 44, 45, 46, 47, 48, 49, 50, 51, 52, 53, 54, 55, 56, 65, 66, 67, 68, 69, 70, 71, 72, 73, 74] (by decide +kernel) (by decide +kernel)
set_option maxRecDepth 20000 in
theorem gX7_sighting_X4_layersThrough : GoodIn wsX7_sighting (wsV RX7 201 RX4 yX4_layersThrough wsX4_layersThrough) := goodIn_app (goodIn_of _ (by decide +kernel)) ggX7_sighting_X4_layersThrough
theorem dX7_sighting_0 : decode cX7_sighting 0 = .ok (.iload_n 1, 1) := by decide +kernel
theorem dX7_sighting_1 : decode cX7_sighting 1 = .ok (.ifCond .lt 14, 3) := by decide +kernel
theorem dX7_sighting_4 : decode cX7_sighting 4 = .ok (.iload_n 1, 1) := by decide +kernel
theorem dX7_sighting_5 : decode cX7_sighting 5 = .ok (.aload_n 0, 1) := by decide +kernel
theorem dX7_sighting_6 : decode cX7_sighting 6 = .ok (.getfield 16, 3) := by decide +kernel
theorem dX7_sighting_9 : decode cX7_sighting 9 = .ok (.getfield 89, 3) := by decide +kernel
theorem dX7_sighting_12 : decode cX7_sighting 12 = .ok (.if_icmp .lt 13, 3) := by decide +kernel
theorem dX7_sighting_15 : decode cX7_sighting 15 = .ok (.new 116, 3) := by decide +kernel
theorem dX7_sighting_18 : decode cX7_sighting 18 = .ok (.dup, 1) := by decide +kernel
theorem dX7_sighting_19 : decode cX7_sighting 19 = .ok (.ldc 193, 2) := by decide +kernel
theorem dX7_sighting_21 : decode cX7_sighting 21 = .ok (.invokespecial 120, 3) := by decide +kernel
theorem dX7_sighting_24 : decode cX7_sighting 24 = .ok (.athrow, 1) := by decide +kernel
theorem dX7_sighting_25 : decode cX7_sighting 25 = .ok (.iload_n 2, 1) := by decide +kernel
theorem dX7_sighting_26 : decode cX7_sighting 26 = .ok (.tableswitch 68 0 2 #[26, 35, 44], 26) := by decide +kernel
theorem dX7_sighting_52 : decode cX7_sighting 52 = .ok (.aload_n 0, 1) := by decide +kernel
theorem dX7_sighting_53 : decode cX7_sighting 53 = .ok (.getfield 16, 3) := by decide +kernel
theorem dX7_sighting_56 : decode cX7_sighting 56 = .ok (.iload_n 1, 1) := by decide +kernel
theorem dX7_sighting_57 : decode cX7_sighting 57 = .ok (.invokevirtual 195, 3) := by decide +kernel
theorem dX7_sighting_60 : decode cX7_sighting 60 = .ok (.ireturn, 1) := by decide +kernel
theorem dX7_sighting_61 : decode cX7_sighting 61 = .ok (.aload_n 0, 1) := by decide +kernel
theorem dX7_sighting_62 : decode cX7_sighting 62 = .ok (.getfield 16, 3) := by decide +kernel
theorem dX7_sighting_65 : decode cX7_sighting 65 = .ok (.iload_n 1, 1) := by decide +kernel
theorem dX7_sighting_66 : decode cX7_sighting 66 = .ok (.invokevirtual 198, 3) := by decide +kernel
theorem dX7_sighting_69 : decode cX7_sighting 69 = .ok (.ireturn, 1) := by decide +kernel
theorem dX7_sighting_70 : decode cX7_sighting 70 = .ok (.aload_n 0, 1) := by decide +kernel
theorem dX7_sighting_71 : decode cX7_sighting 71 = .ok (.getfield 16, 3) := by decide +kernel
theorem dX7_sighting_74 : decode cX7_sighting 74 = .ok (.aload_n 0, 1) := by decide +kernel
theorem dX7_sighting_75 : decode cX7_sighting 75 = .ok (.getfield 16, 3) := by decide +kernel
theorem dX7_sighting_78 : decode cX7_sighting 78 = .ok (.iload_n 1, 1) := by decide +kernel
theorem dX7_sighting_79 : decode cX7_sighting 79 = .ok (.invokevirtual 195, 3) := by decide +kernel
theorem dX7_sighting_82 : decode cX7_sighting 82 = .ok (.aload_n 0, 1) := by decide +kernel
theorem dX7_sighting_83 : decode cX7_sighting 83 = .ok (.getfield 16, 3) := by decide +kernel
theorem dX7_sighting_86 : decode cX7_sighting 86 = .ok (.iload_n 1, 1) := by decide +kernel
theorem dX7_sighting_87 : decode cX7_sighting 87 = .ok (.invokevirtual 198, 3) := by decide +kernel
theorem dX7_sighting_90 : decode cX7_sighting 90 = .ok (.invokevirtual 201, 3) := by decide +kernel
theorem dX7_sighting_93 : decode cX7_sighting 93 = .ok (.ireturn, 1) := by decide +kernel
theorem dX7_sighting_94 : decode cX7_sighting 94 = .ok (.new 45, 3) := by decide +kernel
theorem dX7_sighting_97 : decode cX7_sighting 97 = .ok (.dup, 1) := by decide +kernel
theorem dX7_sighting_98 : decode cX7_sighting 98 = .ok (.ldc 205, 2) := by decide +kernel
theorem dX7_sighting_100 : decode cX7_sighting 100 = .ok (.invokespecial 49, 3) := by decide +kernel
theorem dX7_sighting_103 : decode cX7_sighting 103 = .ok (.athrow, 1) := by decide +kernel
set_option maxRecDepth 20000 in
theorem ggX7_common_X4_find : GoodIn wsX7_common wsX4_find := goodIn_r _ [10, 11, 12, 82, 83, 84, 85, 86, 87] (by decide +kernel) (by decide +kernel)
set_option maxRecDepth 20000 in
theorem gX7_common_X4_find : GoodIn wsX7_common (wsV RX7 112 RX4 yX4_find wsX4_find) := goodIn_app (goodIn_of _ (by decide +kernel)) ggX7_common_X4_find
set_option maxRecDepth 20000 in
theorem ggX7_common_X0_countCommon : GoodIn wsX7_common wsX0_countCommon := goodIn_r _ [17, 18, 19, 20, 21, 22, 23, 24, 25, 26, 27, 28, 29, 30, 31, 32, 33, 34, 35, 36, 37, 38, 39, 40, 41, 42, 43, 44, 45, 46, 47, 48, 49, 50, 51, 52, 53, 54, 55, 56, 57, 58, 59, 60, 61, 62, 63, 64, 65, 66, 67, 68, 69, 70, 71, 72, 73, 88, 89, 90, 91, 92, 93, 94, 95] (by decide +kernel) (by decide +kernel)
set_option maxRecDepth 20000 in
theorem gX7_common_X0_countCommon : GoodIn wsX7_common (wsV RX7 207 RX0 yX0_countCommon wsX0_countCommon) := goodIn_app (goodIn_of _ (by decide +kernel)) ggX7_common_X0_countCommon
theorem dX7_common_0 : decode cX7_common 0 = .ok (.aload_n 0, 1) := by decide +kernel
theorem dX7_common_1 : decode cX7_common 1 = .ok (.getfield 16, 3) := by decide +kernel
theorem dX7_common_4 : decode cX7_common 4 = .ok (.iload_n 1, 1) := by decide +kernel
theorem dX7_common_5 : decode cX7_common 5 = .ok (.invokevirtual 112, 3) := by decide +kernel
theorem dX7_common_8 : decode cX7_common 8 = .ok (.astore_n 3, 1) := by decide +kernel
theorem dX7_common_9 : decode cX7_common 9 = .ok (.aload_n 0, 1) := by decide +kernel
theorem dX7_common_10 : decode cX7_common 10 = .ok (.getfield 16, 3) := by decide +kernel
theorem dX7_common_13 : decode cX7_common 13 = .ok (.iload_n 2, 1) := by decide +kernel
theorem dX7_common_14 : decode cX7_common 14 = .ok (.invokevirtual 112, 3) := by decide +kernel
theorem dX7_common_17 : decode cX7_common 17 = .ok (.astore 4, 2) := by decide +kernel
theorem dX7_common_19 : decode cX7_common 19 = .ok (.aload_n 3, 1) := by decide +kernel
theorem dX7_common_20 : decode cX7_common 20 = .ok (.ifnull 8, 3) := by decide +kernel
theorem dX7_common_23 : decode cX7_common 23 = .ok (.aload 4, 2) := by decide +kernel
theorem dX7_common_25 : decode cX7_common 25 = .ok (.ifnonnull 13, 3) := by decide +kernel
theorem dX7_common_28 : decode cX7_common 28 = .ok (.new 116, 3) := by decide +kernel
theorem dX7_common_31 : decode cX7_common 31 = .ok (.dup, 1) := by decide +kernel
theorem dX7_common_32 : decode cX7_common 32 = .ok (.ldc 118, 2) := by decide +kernel
theorem dX7_common_34 : decode cX7_common 34 = .ok (.invokespecial 120, 3) := by decide +kernel
theorem dX7_common_37 : decode cX7_common 37 = .ok (.athrow, 1) := by decide +kernel
theorem dX7_common_38 : decode cX7_common 38 = .ok (.aload_n 0, 1) := by decide +kernel
theorem dX7_common_39 : decode cX7_common 39 = .ok (.getfield 41, 3) := by decide +kernel
theorem dX7_common_42 : decode cX7_common 42 = .ok (.aload_n 0, 1) := by decide +kernel
theorem dX7_common_43 : decode cX7_common 43 = .ok (.getfield 16, 3) := by decide +kernel
theorem dX7_common_46 : decode cX7_common 46 = .ok (.getfield 86, 3) := by decide +kernel
theorem dX7_common_49 : decode cX7_common 49 = .ok (.aload_n 3, 1) := by decide +kernel
theorem dX7_common_50 : decode cX7_common 50 = .ok (.aload 4, 2) := by decide +kernel
theorem dX7_common_52 : decode cX7_common 52 = .ok (.invokevirtual 207, 3) := by decide +kernel
theorem dX7_common_55 : decode cX7_common 55 = .ok (.ireturn, 1) := by decide +kernel
set_option maxRecDepth 20000 in
theorem ggX7_meet_X4_find : GoodIn wsX7_meet wsX4_find := goodIn_r _ [8, 9, 10, 47, 48, 49, 50, 51, 52] (by decide +kernel) (by decide +kernel)
set_option maxRecDepth 20000 in
theorem gX7_meet_X4_find : GoodIn wsX7_meet (wsV RX7 112 RX4 yX4_find wsX4_find) := goodIn_app (goodIn_of _ (by decide +kernel)) ggX7_meet_X4_find
set_option maxRecDepth 20000 in
theorem ggX7_meet_X3_firstMeeting : GoodIn wsX7_meet wsX3_firstMeeting := goodIn_r _ [15, 16, 17, 18, 19, 20, 21, 22, 23, 24, 25, 26, 27, 28, 29, 14, 30, 31, 32, 33, 34, 35, 36, 37, 38, 53, 54, 55, 56] (by decide +kernel) (by decide +kernel)
set_option maxRecDepth 20000 in
theorem gX7_meet_X3_firstMeeting : GoodIn wsX7_meet (wsV RX7 211 RX3 yX3_firstMeeting wsX3_firstMeeting) := goodIn_app (goodIn_of _ (by decide +kernel)) ggX7_meet_X3_firstMeeting
theorem dX7_meet_0 : decode cX7_meet 0 = .ok (.aload_n 0, 1) := by decide +kernel
theorem dX7_meet_1 : decode cX7_meet 1 = .ok (.getfield 16, 3) := by decide +kernel
theorem dX7_meet_4 : decode cX7_meet 4 = .ok (.iload_n 1, 1) := by decide +kernel
theorem dX7_meet_5 : decode cX7_meet 5 = .ok (.invokevirtual 112, 3) := by decide +kernel
theorem dX7_meet_8 : decode cX7_meet 8 = .ok (.astore_n 3, 1) := by decide +kernel
theorem dX7_meet_9 : decode cX7_meet 9 = .ok (.aload_n 0, 1) := by decide +kernel
theorem dX7_meet_10 : decode cX7_meet 10 = .ok (.getfield 16, 3) := by decide +kernel
theorem dX7_meet_13 : decode cX7_meet 13 = .ok (.iload_n 2, 1) := by decide +kernel
theorem dX7_meet_14 : decode cX7_meet 14 = .ok (.invokevirtual 112, 3) := by decide +kernel
theorem dX7_meet_17 : decode cX7_meet 17 = .ok (.astore 4, 2) := by decide +kernel
theorem dX7_meet_19 : decode cX7_meet 19 = .ok (.aload_n 3, 1) := by decide +kernel
theorem dX7_meet_20 : decode cX7_meet 20 = .ok (.ifnull 8, 3) := by decide +kernel
theorem dX7_meet_23 : decode cX7_meet 23 = .ok (.aload 4, 2) := by decide +kernel
theorem dX7_meet_25 : decode cX7_meet 25 = .ok (.ifnonnull 13, 3) := by decide +kernel
theorem dX7_meet_28 : decode cX7_meet 28 = .ok (.new 116, 3) := by decide +kernel
theorem dX7_meet_31 : decode cX7_meet 31 = .ok (.dup, 1) := by decide +kernel
theorem dX7_meet_32 : decode cX7_meet 32 = .ok (.ldc 118, 2) := by decide +kernel
theorem dX7_meet_34 : decode cX7_meet 34 = .ok (.invokespecial 120, 3) := by decide +kernel
theorem dX7_meet_37 : decode cX7_meet 37 = .ok (.athrow, 1) := by decide +kernel
theorem dX7_meet_38 : decode cX7_meet 38 = .ok (.aload_n 3, 1) := by decide +kernel
theorem dX7_meet_39 : decode cX7_meet 39 = .ok (.aload 4, 2) := by decide +kernel
theorem dX7_meet_41 : decode cX7_meet 41 = .ok (.invokevirtual 211, 3) := by decide +kernel
theorem dX7_meet_44 : decode cX7_meet 44 = .ok (.ireturn, 1) := by decide +kernel
set_option maxRecDepth 20000 in
theorem ggX7_turned_X4_find : GoodIn wsX7_turned wsX4_find := goodIn_r _ [10, 11, 12, 90, 91, 92, 93, 94, 95] (by decide +kernel) (by decide +kernel)
set_option maxRecDepth 20000 in
theorem gX7_turned_X4_find : GoodIn wsX7_turned (wsV RX7 112 RX4 yX4_find wsX4_find) := goodIn_app (goodIn_of _ (by decide +kernel)) ggX7_turned_X4_find
set_option maxRecDepth 20000 in
theorem ggX7_turned_X0_turnBetween : GoodIn wsX7_turned wsX0_turnBetween := goodIn_r _ [17, 18, 19, 20, 21, 22, 23, 24, 25, 26, 27, 28, 29, 30, 31, 32, 33, 34, 35, 36, 37, 38, 39, 40, 41, 42, 43, 44, 45, 46, 47, 48, 49, 50, 51, 52, 53, 54, 55, 56, 57, 58, 59, 60, 61, 62, 63, 64, 65, 66, 67, 68, 69, 70, 71, 72, 73, 74, 16, 75, 76, 77, 78, 79, 80, 81, 96, 97, 98, 99, 100, 101, 102, 103] (by decide +kernel) (by decide +kernel)
set_option maxRecDepth 20000 in
theorem gX7_turned_X0_turnBetween : GoodIn wsX7_turned (wsV RX7 215 RX0 yX0_turnBetween wsX0_turnBetween) := goodIn_app (goodIn_of _ (by decide +kernel)) ggX7_turned_X0_turnBetween
theorem dX7_turned_0 : decode cX7_turned 0 = .ok (.aload_n 0, 1) := by decide +kernel
theorem dX7_turned_1 : decode cX7_turned 1 = .ok (.getfield 16, 3) := by decide +kernel
theorem dX7_turned_4 : decode cX7_turned 4 = .ok (.iload_n 1, 1) := by decide +kernel
theorem dX7_turned_5 : decode cX7_turned 5 = .ok (.invokevirtual 112, 3) := by decide +kernel
theorem dX7_turned_8 : decode cX7_turned 8 = .ok (.astore_n 3, 1) := by decide +kernel
theorem dX7_turned_9 : decode cX7_turned 9 = .ok (.aload_n 0, 1) := by decide +kernel
theorem dX7_turned_10 : decode cX7_turned 10 = .ok (.getfield 16, 3) := by decide +kernel
theorem dX7_turned_13 : decode cX7_turned 13 = .ok (.iload_n 2, 1) := by decide +kernel
theorem dX7_turned_14 : decode cX7_turned 14 = .ok (.invokevirtual 112, 3) := by decide +kernel
theorem dX7_turned_17 : decode cX7_turned 17 = .ok (.astore 4, 2) := by decide +kernel
theorem dX7_turned_19 : decode cX7_turned 19 = .ok (.aload_n 3, 1) := by decide +kernel
theorem dX7_turned_20 : decode cX7_turned 20 = .ok (.ifnull 8, 3) := by decide +kernel
theorem dX7_turned_23 : decode cX7_turned 23 = .ok (.aload 4, 2) := by decide +kernel
theorem dX7_turned_25 : decode cX7_turned 25 = .ok (.ifnonnull 13, 3) := by decide +kernel
theorem dX7_turned_28 : decode cX7_turned 28 = .ok (.new 116, 3) := by decide +kernel
theorem dX7_turned_31 : decode cX7_turned 31 = .ok (.dup, 1) := by decide +kernel
theorem dX7_turned_32 : decode cX7_turned 32 = .ok (.ldc 118, 2) := by decide +kernel
theorem dX7_turned_34 : decode cX7_turned 34 = .ok (.invokespecial 120, 3) := by decide +kernel
theorem dX7_turned_37 : decode cX7_turned 37 = .ok (.athrow, 1) := by decide +kernel
theorem dX7_turned_38 : decode cX7_turned 38 = .ok (.aload_n 0, 1) := by decide +kernel
theorem dX7_turned_39 : decode cX7_turned 39 = .ok (.getfield 41, 3) := by decide +kernel
theorem dX7_turned_42 : decode cX7_turned 42 = .ok (.aload_n 0, 1) := by decide +kernel
theorem dX7_turned_43 : decode cX7_turned 43 = .ok (.getfield 16, 3) := by decide +kernel
theorem dX7_turned_46 : decode cX7_turned 46 = .ok (.getfield 86, 3) := by decide +kernel
theorem dX7_turned_49 : decode cX7_turned 49 = .ok (.aload_n 3, 1) := by decide +kernel
theorem dX7_turned_50 : decode cX7_turned 50 = .ok (.aload 4, 2) := by decide +kernel
theorem dX7_turned_52 : decode cX7_turned 52 = .ok (.invokevirtual 215, 3) := by decide +kernel
theorem dX7_turned_55 : decode cX7_turned 55 = .ok (.ireturn, 1) := by decide +kernel
set_option maxRecDepth 20000 in
theorem ggX7_setRing_X7_isRing : GoodIn wsX7_setRing wsX7_isRing := goodIn_r _ [9] (by decide +kernel) (by decide +kernel)
set_option maxRecDepth 20000 in
theorem gX7_setRing_X7_isRing : GoodIn wsX7_setRing (va_wsS RX7 218 yX7_isRing wsX7_isRing) := goodIn_app (goodIn_of _ (by decide +kernel)) ggX7_setRing_X7_isRing
set_option maxRecDepth 20000 in
theorem ggX7_setRing_X2_remember : GoodIn wsX7_setRing wsX2_remember := goodIn_r _ [14, 15, 16, 17, 18, 19, 13, 20, 21, 22, 23, 24, 25, 26, 27, 28, 29, 30, 31, 32, 33, 34, 35, 36, 37, 38, 39, 40, 41, 42, 43, 44, 45, 46, 47, 48, 49, 50, 51, 52, 53, 54, 55, 56, 57, 58, 59, 60, 61, 62, 63, 64, 65, 66, 67, 68, 69, 70, 71, 72, 73, 74, 75, 76, 77, 100, 101, 102, 94, 95, 96, 97, 98, 99, 103, 104, 105, 106] (by decide +kernel) (by decide +kernel)
set_option maxRecDepth 20000 in
theorem gX7_setRing_X2_remember : GoodIn wsX7_setRing (wsV RX7 223 RX2 yX2_remember wsX2_remember) := goodIn_app (goodIn_of _ (by decide +kernel)) ggX7_setRing_X2_remember
set_option maxRecDepth 20000 in
theorem ggX7_setRing_X4_takeRing : GoodIn wsX7_setRing wsX4_takeRing := goodIn_r _ [81, 27, 28, 32, 64, 38, 39, 40, 25, 41, 42, 82, 83, 84, 85, 94, 95, 96, 97, 98, 99, 103, 104, 105, 106] (by decide +kernel) (by decide +kernel)
set_option maxRecDepth 20000 in
theorem gX7_setRing_X4_takeRing : GoodIn wsX7_setRing (wsV RX7 226 RX4 yX4_takeRing wsX4_takeRing) := goodIn_app (goodIn_of _ (by decide +kernel)) ggX7_setRing_X4_takeRing
theorem dX7_setRing_0 : decode cX7_setRing 0 = .ok (.iload_n 1, 1) := by decide +kernel
theorem dX7_setRing_1 : decode cX7_setRing 1 = .ok (.invokestatic 218, 3) := by decide +kernel
theorem dX7_setRing_4 : decode cX7_setRing 4 = .ok (.ifCond .ne 13, 3) := by decide +kernel
theorem dX7_setRing_7 : decode cX7_setRing 7 = .ok (.new 45, 3) := by decide +kernel
theorem dX7_setRing_10 : decode cX7_setRing 10 = .ok (.dup, 1) := by decide +kernel
theorem dX7_setRing_11 : decode cX7_setRing 11 = .ok (.ldc 221, 2) := by decide +kernel
theorem dX7_setRing_13 : decode cX7_setRing 13 = .ok (.invokespecial 49, 3) := by decide +kernel
theorem dX7_setRing_16 : decode cX7_setRing 16 = .ok (.athrow, 1) := by decide +kernel
theorem dX7_setRing_17 : decode cX7_setRing 17 = .ok (.aload_n 0, 1) := by decide +kernel
theorem dX7_setRing_18 : decode cX7_setRing 18 = .ok (.getfield 26, 3) := by decide +kernel
theorem dX7_setRing_21 : decode cX7_setRing 21 = .ok (.aload_n 0, 1) := by decide +kernel
theorem dX7_setRing_22 : decode cX7_setRing 22 = .ok (.getfield 16, 3) := by decide +kernel
theorem dX7_setRing_25 : decode cX7_setRing 25 = .ok (.invokevirtual 223, 3) := by decide +kernel
theorem dX7_setRing_28 : decode cX7_setRing 28 = .ok (.aload_n 0, 1) := by decide +kernel
theorem dX7_setRing_29 : decode cX7_setRing 29 = .ok (.getfield 16, 3) := by decide +kernel
theorem dX7_setRing_32 : decode cX7_setRing 32 = .ok (.getfield 86, 3) := by decide +kernel
theorem dX7_setRing_35 : decode cX7_setRing 35 = .ok (.istore_n 2, 1) := by decide +kernel
theorem dX7_setRing_36 : decode cX7_setRing 36 = .ok (.aload_n 0, 1) := by decide +kernel
theorem dX7_setRing_37 : decode cX7_setRing 37 = .ok (.getfield 16, 3) := by decide +kernel
theorem dX7_setRing_40 : decode cX7_setRing 40 = .ok (.iload_n 1, 1) := by decide +kernel
theorem dX7_setRing_41 : decode cX7_setRing 41 = .ok (.invokevirtual 226, 3) := by decide +kernel
theorem dX7_setRing_44 : decode cX7_setRing 44 = .ok (.iload_n 2, 1) := by decide +kernel
theorem dX7_setRing_45 : decode cX7_setRing 45 = .ok (.ireturn, 1) := by decide +kernel
set_option maxRecDepth 20000 in
theorem ggX7_addLayer_X7_isWheel : GoodIn wsX7_addLayer wsX7_isWheel := goodIn_r _ [11] (by decide +kernel) (by decide +kernel)
set_option maxRecDepth 20000 in
theorem gX7_addLayer_X7_isWheel : GoodIn wsX7_addLayer (va_wsS RX7 230 yX7_isWheel wsX7_isWheel) := goodIn_app (goodIn_of _ (by decide +kernel)) ggX7_addLayer_X7_isWheel
set_option maxRecDepth 20000 in
theorem ggX7_addLayer_X7_isSide : GoodIn wsX7_addLayer wsX7_isSide := goodIn_r _ [14] (by decide +kernel) (by decide +kernel)
set_option maxRecDepth 20000 in
theorem gX7_addLayer_X7_isSide : GoodIn wsX7_addLayer (va_wsS RX7 233 yX7_isSide wsX7_isSide) := goodIn_app (goodIn_of _ (by decide +kernel)) ggX7_addLayer_X7_isSide
set_option maxRecDepth 20000 in
theorem ggX7_addLayer_X7_isHole : GoodIn wsX7_addLayer wsX7_isHole := goodIn_r _ [17] (by decide +kernel) (by decide +kernel)
set_option maxRecDepth 20000 in
theorem gX7_addLayer_X7_isHole : GoodIn wsX7_addLayer (va_wsS RX7 236 yX7_isHole wsX7_isHole) := goodIn_app (goodIn_of _ (by decide +kernel)) ggX7_addLayer_X7_isHole
set_option maxRecDepth 20000 in
theorem ggX7_addLayer_X4_hasTooth : GoodIn wsX7_addLayer wsX4_hasTooth := goodIn_r _ [22, 23, 100, 101, 102, 103, 104, 105] (by decide +kernel) (by decide +kernel)
set_option maxRecDepth 20000 in
theorem gX7_addLayer_X4_hasTooth : GoodIn wsX7_addLayer (wsV RX7 163 RX4 yX4_hasTooth wsX4_hasTooth) := goodIn_app (goodIn_of _ (by decide +kernel)) ggX7_addLayer_X4_hasTooth
set_option maxRecDepth 20000 in
theorem ggX7_addLayer_X4_isFull : GoodIn wsX7_addLayer wsX4_isFull := goodIn_r _ [27, 28, 100, 101, 102, 103, 104, 105] (by decide +kernel) (by decide +kernel)
set_option maxRecDepth 20000 in
theorem gX7_addLayer_X4_isFull : GoodIn wsX7_addLayer (wsV RX7 241 RX4 yX4_isFull wsX4_isFull) := goodIn_app (goodIn_of _ (by decide +kernel)) ggX7_addLayer_X4_isFull
set_option maxRecDepth 20000 in
theorem ggX7_addLayer_X2_remember : GoodIn wsX7_addLayer wsX2_remember := goodIn_r _ [33, 34, 35, 36, 37, 38, 32, 39, 40, 41, 42, 43, 21, 44, 23, 28, 45, 46, 47, 48, 49, 50, 51, 52, 53, 54, 55, 56, 57, 58, 59, 60, 61, 62, 63, 25, 26, 27, 64, 65, 66, 67, 68, 69, 70, 71, 72, 73, 74, 75, 76, 77, 78, 79, 80, 81, 82, 83, 84, 85, 86, 87, 88, 89, 90, 106, 107, 108, 100, 101, 102, 103, 104, 105, 109, 110, 111, 112] (by decide +kernel) (by decide +kernel)
set_option maxRecDepth 20000 in
theorem gX7_addLayer_X2_remember : GoodIn wsX7_addLayer (wsV RX7 223 RX2 yX2_remember wsX2_remember) := goodIn_app (goodIn_of _ (by decide +kernel)) ggX7_addLayer_X2_remember
set_option maxRecDepth 20000 in
theorem ggX7_addLayer_X4_putLayer : GoodIn wsX7_addLayer wsX4_putLayer := goodIn_r _ [62, 28, 63, 25, 26, 21, 27, 54, 55, 56, 57, 58, 64, 65, 66, 67, 68, 69, 70, 71, 72, 100, 101, 102, 103, 104, 105, 109, 110, 111, 112] (by decide +kernel) (by decide +kernel)
set_option maxRecDepth 20000 in
theorem gX7_addLayer_X4_putLayer : GoodIn wsX7_addLayer (wsV RX7 247 RX4 yX4_putLayer wsX4_putLayer) := goodIn_app (goodIn_of _ (by decide +kernel)) ggX7_addLayer_X4_putLayer
theorem dX7_addLayer_0 : decode cX7_addLayer 0 = .ok (.iload_n 1, 1) := by decide +kernel
theorem dX7_addLayer_1 : decode cX7_addLayer 1 = .ok (.invokestatic 230, 3) := by decide +kernel
theorem dX7_addLayer_4 : decode cX7_addLayer 4 = .ok (.ifCond .eq 29, 3) := by decide +kernel
theorem dX7_addLayer_7 : decode cX7_addLayer 7 = .ok (.iload_n 2, 1) := by decide +kernel
theorem dX7_addLayer_8 : decode cX7_addLayer 8 = .ok (.invokestatic 233, 3) := by decide +kernel
theorem dX7_addLayer_11 : decode cX7_addLayer 11 = .ok (.ifCond .eq 22, 3) := by decide +kernel
theorem dX7_addLayer_14 : decode cX7_addLayer 14 = .ok (.iload_n 3, 1) := by decide +kernel
theorem dX7_addLayer_15 : decode cX7_addLayer 15 = .ok (.invokestatic 236, 3) := by decide +kernel
theorem dX7_addLayer_18 : decode cX7_addLayer 18 = .ok (.ifCond .eq 15, 3) := by decide +kernel
theorem dX7_addLayer_21 : decode cX7_addLayer 21 = .ok (.aload_n 0, 1) := by decide +kernel
theorem dX7_addLayer_22 : decode cX7_addLayer 22 = .ok (.getfield 16, 3) := by decide +kernel
theorem dX7_addLayer_25 : decode cX7_addLayer 25 = .ok (.iload 4, 2) := by decide +kernel
theorem dX7_addLayer_27 : decode cX7_addLayer 27 = .ok (.invokevirtual 163, 3) := by decide +kernel
theorem dX7_addLayer_30 : decode cX7_addLayer 30 = .ok (.ifCond .ne 13, 3) := by decide +kernel
theorem dX7_addLayer_33 : decode cX7_addLayer 33 = .ok (.new 45, 3) := by decide +kernel
theorem dX7_addLayer_36 : decode cX7_addLayer 36 = .ok (.dup, 1) := by decide +kernel
theorem dX7_addLayer_37 : decode cX7_addLayer 37 = .ok (.ldc 239, 2) := by decide +kernel
theorem dX7_addLayer_39 : decode cX7_addLayer 39 = .ok (.invokespecial 49, 3) := by decide +kernel
theorem dX7_addLayer_42 : decode cX7_addLayer 42 = .ok (.athrow, 1) := by decide +kernel
theorem dX7_addLayer_43 : decode cX7_addLayer 43 = .ok (.aload_n 0, 1) := by decide +kernel
theorem dX7_addLayer_44 : decode cX7_addLayer 44 = .ok (.getfield 16, 3) := by decide +kernel
theorem dX7_addLayer_47 : decode cX7_addLayer 47 = .ok (.invokevirtual 241, 3) := by decide +kernel
theorem dX7_addLayer_50 : decode cX7_addLayer 50 = .ok (.ifCond .eq 13, 3) := by decide +kernel
theorem dX7_addLayer_53 : decode cX7_addLayer 53 = .ok (.new 56, 3) := by decide +kernel
theorem dX7_addLayer_56 : decode cX7_addLayer 56 = .ok (.dup, 1) := by decide +kernel
theorem dX7_addLayer_57 : decode cX7_addLayer 57 = .ok (.ldc 245, 2) := by decide +kernel
theorem dX7_addLayer_59 : decode cX7_addLayer 59 = .ok (.invokespecial 60, 3) := by decide +kernel
theorem dX7_addLayer_62 : decode cX7_addLayer 62 = .ok (.athrow, 1) := by decide +kernel
theorem dX7_addLayer_63 : decode cX7_addLayer 63 = .ok (.aload_n 0, 1) := by decide +kernel
theorem dX7_addLayer_64 : decode cX7_addLayer 64 = .ok (.getfield 26, 3) := by decide +kernel
theorem dX7_addLayer_67 : decode cX7_addLayer 67 = .ok (.aload_n 0, 1) := by decide +kernel
theorem dX7_addLayer_68 : decode cX7_addLayer 68 = .ok (.getfield 16, 3) := by decide +kernel
theorem dX7_addLayer_71 : decode cX7_addLayer 71 = .ok (.invokevirtual 223, 3) := by decide +kernel
theorem dX7_addLayer_74 : decode cX7_addLayer 74 = .ok (.aload_n 0, 1) := by decide +kernel
theorem dX7_addLayer_75 : decode cX7_addLayer 75 = .ok (.getfield 16, 3) := by decide +kernel
theorem dX7_addLayer_78 : decode cX7_addLayer 78 = .ok (.iload_n 1, 1) := by decide +kernel
theorem dX7_addLayer_79 : decode cX7_addLayer 79 = .ok (.iload_n 2, 1) := by decide +kernel
theorem dX7_addLayer_80 : decode cX7_addLayer 80 = .ok (.iload_n 3, 1) := by decide +kernel
theorem dX7_addLayer_81 : decode cX7_addLayer 81 = .ok (.iload 4, 2) := by decide +kernel
theorem dX7_addLayer_83 : decode cX7_addLayer 83 = .ok (.invokevirtual 247, 3) := by decide +kernel
theorem dX7_addLayer_86 : decode cX7_addLayer 86 = .ok (.aload_n 0, 1) := by decide +kernel
theorem dX7_addLayer_87 : decode cX7_addLayer 87 = .ok (.getfield 16, 3) := by decide +kernel
theorem dX7_addLayer_90 : decode cX7_addLayer 90 = .ok (.getfield 74, 3) := by decide +kernel
theorem dX7_addLayer_93 : decode cX7_addLayer 93 = .ok (.iconst 1, 1) := by decide +kernel
theorem dX7_addLayer_94 : decode cX7_addLayer 94 = .ok (.isub, 1) := by decide +kernel
theorem dX7_addLayer_95 : decode cX7_addLayer 95 = .ok (.ireturn, 1) := by decide +kernel
set_option maxRecDepth 20000 in
theorem ggX7_change_X4_find : GoodIn wsX7_change wsX4_find := goodIn_r _ [11, 12, 13, 103, 104, 105, 106, 107, 108] (by decide +kernel) (by decide +kernel)
set_option maxRecDepth 20000 in
theorem gX7_change_X4_find : GoodIn wsX7_change (wsV RX7 112 RX4 yX4_find wsX4_find) := goodIn_app (goodIn_of _ (by decide +kernel)) ggX7_change_X4_find
set_option maxRecDepth 20000 in
theorem ggX7_change_X4_allows : GoodIn wsX7_change wsX4_allows := goodIn_r _ [17, 18, 19, 20, 21, 22, 23, 24, 25, 26, 27, 10, 28, 29, 103, 104, 105, 106, 107, 108] (by decide +kernel) (by decide +kernel)
set_option maxRecDepth 20000 in
theorem gX7_change_X4_allows : GoodIn wsX7_change (wsV RX7 251 RX4 yX4_allows wsX4_allows) := goodIn_app (goodIn_of _ (by decide +kernel)) ggX7_change_X4_allows
set_option maxRecDepth 20000 in
theorem ggX7_change_X2_remember : GoodIn wsX7_change wsX2_remember := goodIn_r _ [34, 35, 36, 37, 38, 39, 33, 40, 41, 42, 43, 44, 10, 45, 29, 12, 46, 47, 48, 49, 50, 51, 52, 53, 54, 55, 8, 9, 11, 13, 56, 57, 58, 59, 60, 61, 62, 63, 64, 65, 66, 67, 68, 69, 70, 71, 72, 73, 74, 75, 76, 77, 78, 79, 80, 81, 82, 83, 84, 85, 86, 87, 88, 89, 90, 109, 110, 111, 103, 104, 105, 106, 107, 108, 112, 113, 114, 115] (by decide +kernel) (by decide +kernel)
set_option maxRecDepth 20000 in
theorem gX7_change_X2_remember : GoodIn wsX7_change (wsV RX7 223 RX2 yX2_remember wsX2_remember) := goodIn_app (goodIn_of _ (by decide +kernel)) ggX7_change_X2_remember
set_option maxRecDepth 20000 in
theorem ggX7_change_X3_exchange : GoodIn wsX7_change wsX3_exchange := goodIn_r _ [94, 72, 69, 70, 71, 112, 113, 114, 115] (by decide +kernel) (by decide +kernel)
set_option maxRecDepth 20000 in
theorem gX7_change_X3_exchange : GoodIn wsX7_change (wsV RX7 257 RX3 yX3_exchange wsX3_exchange) := goodIn_app (goodIn_of _ (by decide +kernel)) ggX7_change_X3_exchange
theorem dX7_change_0 : decode cX7_change 0 = .ok (.aload_n 0, 1) := by decide +kernel
theorem dX7_change_1 : decode cX7_change 1 = .ok (.getfield 16, 3) := by decide +kernel
theorem dX7_change_4 : decode cX7_change 4 = .ok (.iload_n 1, 1) := by decide +kernel
theorem dX7_change_5 : decode cX7_change 5 = .ok (.invokevirtual 112, 3) := by decide +kernel
theorem dX7_change_8 : decode cX7_change 8 = .ok (.astore 4, 2) := by decide +kernel
theorem dX7_change_10 : decode cX7_change 10 = .ok (.aload 4, 2) := by decide +kernel
theorem dX7_change_12 : decode cX7_change 12 = .ok (.ifnonnull 13, 3) := by decide +kernel
theorem dX7_change_15 : decode cX7_change 15 = .ok (.new 116, 3) := by decide +kernel
theorem dX7_change_18 : decode cX7_change 18 = .ok (.dup, 1) := by decide +kernel
theorem dX7_change_19 : decode cX7_change 19 = .ok (.ldc 118, 2) := by decide +kernel
theorem dX7_change_21 : decode cX7_change 21 = .ok (.invokespecial 120, 3) := by decide +kernel
theorem dX7_change_24 : decode cX7_change 24 = .ok (.athrow, 1) := by decide +kernel
theorem dX7_change_25 : decode cX7_change 25 = .ok (.aload_n 0, 1) := by decide +kernel
theorem dX7_change_26 : decode cX7_change 26 = .ok (.getfield 16, 3) := by decide +kernel
theorem dX7_change_29 : decode cX7_change 29 = .ok (.iload_n 2, 1) := by decide +kernel
theorem dX7_change_30 : decode cX7_change 30 = .ok (.iload_n 3, 1) := by decide +kernel
theorem dX7_change_31 : decode cX7_change 31 = .ok (.invokevirtual 251, 3) := by decide +kernel
theorem dX7_change_34 : decode cX7_change 34 = .ok (.ifCond .ne 13, 3) := by decide +kernel
theorem dX7_change_37 : decode cX7_change 37 = .ok (.new 45, 3) := by decide +kernel
theorem dX7_change_40 : decode cX7_change 40 = .ok (.dup, 1) := by decide +kernel
theorem dX7_change_41 : decode cX7_change 41 = .ok (.ldc 255, 2) := by decide +kernel
theorem dX7_change_43 : decode cX7_change 43 = .ok (.invokespecial 49, 3) := by decide +kernel
theorem dX7_change_46 : decode cX7_change 46 = .ok (.athrow, 1) := by decide +kernel
theorem dX7_change_47 : decode cX7_change 47 = .ok (.aload_n 0, 1) := by decide +kernel
theorem dX7_change_48 : decode cX7_change 48 = .ok (.getfield 26, 3) := by decide +kernel
theorem dX7_change_51 : decode cX7_change 51 = .ok (.aload_n 0, 1) := by decide +kernel
theorem dX7_change_52 : decode cX7_change 52 = .ok (.getfield 16, 3) := by decide +kernel
theorem dX7_change_55 : decode cX7_change 55 = .ok (.invokevirtual 223, 3) := by decide +kernel
theorem dX7_change_58 : decode cX7_change 58 = .ok (.aload 4, 2) := by decide +kernel
theorem dX7_change_60 : decode cX7_change 60 = .ok (.iload_n 2, 1) := by decide +kernel
theorem dX7_change_61 : decode cX7_change 61 = .ok (.iload_n 3, 1) := by decide +kernel
theorem dX7_change_62 : decode cX7_change 62 = .ok (.invokevirtual 257, 3) := by decide +kernel
theorem dX7_change_65 : decode cX7_change 65 = .ok (.ireturn, 1) := by decide +kernel
set_option maxRecDepth 20000 in
theorem ggX7_remove_X4_find : GoodIn wsX7_remove wsX4_find := goodIn_r _ [10, 11, 12, 92, 93, 94, 95, 96, 97] (by decide +kernel) (by decide +kernel)
set_option maxRecDepth 20000 in
theorem gX7_remove_X4_find : GoodIn wsX7_remove (wsV RX7 112 RX4 yX4_find wsX4_find) := goodIn_app (goodIn_of _ (by decide +kernel)) ggX7_remove_X4_find
set_option maxRecDepth 20000 in
theorem ggX7_remove_X2_remember : GoodIn wsX7_remove wsX2_remember := goodIn_r _ [17, 18, 19, 20, 21, 22, 16, 23, 24, 25, 26, 27, 9, 28, 29, 11, 30, 31, 32, 33, 34, 35, 36, 37, 38, 39, 7, 8, 10, 12, 40, 41, 42, 43, 44, 45, 46, 47, 48, 49, 50, 51, 52, 53, 54, 55, 56, 57, 58, 59, 60, 61, 62, 63, 64, 65, 66, 67, 68, 69, 70, 71, 72, 73, 74, 98, 99, 100, 92, 93, 94, 95, 96, 97, 101, 102, 103, 104] (by decide +kernel) (by decide +kernel)
set_option maxRecDepth 20000 in
theorem gX7_remove_X2_remember : GoodIn wsX7_remove (wsV RX7 223 RX2 yX2_remember wsX2_remember) := goodIn_app (goodIn_of _ (by decide +kernel)) ggX7_remove_X2_remember
set_option maxRecDepth 20000 in
theorem ggX7_remove_X4_dropLayer : GoodIn wsX7_remove wsX4_dropLayer := goodIn_r _ [78, 11, 39, 7, 8, 9, 10, 12, 79, 80, 81, 51, 82, 53, 54, 55, 56, 83, 49, 50, 52, 92, 93, 94, 95, 96, 97, 101, 102, 103, 104] (by decide +kernel) (by decide +kernel)
set_option maxRecDepth 20000 in
theorem gX7_remove_X4_dropLayer : GoodIn wsX7_remove (wsV RX7 260 RX4 yX4_dropLayer wsX4_dropLayer) := goodIn_app (goodIn_of _ (by decide +kernel)) ggX7_remove_X4_dropLayer
theorem dX7_remove_0 : decode cX7_remove 0 = .ok (.aload_n 0, 1) := by decide +kernel
theorem dX7_remove_1 : decode cX7_remove 1 = .ok (.getfield 16, 3) := by decide +kernel
theorem dX7_remove_4 : decode cX7_remove 4 = .ok (.iload_n 1, 1) := by decide +kernel
theorem dX7_remove_5 : decode cX7_remove 5 = .ok (.invokevirtual 112, 3) := by decide +kernel
theorem dX7_remove_8 : decode cX7_remove 8 = .ok (.ifnonnull 13, 3) := by decide +kernel
theorem dX7_remove_11 : decode cX7_remove 11 = .ok (.new 116, 3) := by decide +kernel
theorem dX7_remove_14 : decode cX7_remove 14 = .ok (.dup, 1) := by decide +kernel
theorem dX7_remove_15 : decode cX7_remove 15 = .ok (.ldc 118, 2) := by decide +kernel
theorem dX7_remove_17 : decode cX7_remove 17 = .ok (.invokespecial 120, 3) := by decide +kernel
theorem dX7_remove_20 : decode cX7_remove 20 = .ok (.athrow, 1) := by decide +kernel
theorem dX7_remove_21 : decode cX7_remove 21 = .ok (.aload_n 0, 1) := by decide +kernel
theorem dX7_remove_22 : decode cX7_remove 22 = .ok (.getfield 26, 3) := by decide +kernel
theorem dX7_remove_25 : decode cX7_remove 25 = .ok (.aload_n 0, 1) := by decide +kernel
theorem dX7_remove_26 : decode cX7_remove 26 = .ok (.getfield 16, 3) := by decide +kernel
theorem dX7_remove_29 : decode cX7_remove 29 = .ok (.invokevirtual 223, 3) := by decide +kernel
theorem dX7_remove_32 : decode cX7_remove 32 = .ok (.aload_n 0, 1) := by decide +kernel
theorem dX7_remove_33 : decode cX7_remove 33 = .ok (.getfield 16, 3) := by decide +kernel
theorem dX7_remove_36 : decode cX7_remove 36 = .ok (.iload_n 1, 1) := by decide +kernel
theorem dX7_remove_37 : decode cX7_remove 37 = .ok (.invokevirtual 260, 3) := by decide +kernel
theorem dX7_remove_40 : decode cX7_remove 40 = .ok (.aload_n 0, 1) := by decide +kernel
theorem dX7_remove_41 : decode cX7_remove 41 = .ok (.getfield 16, 3) := by decide +kernel
theorem dX7_remove_44 : decode cX7_remove 44 = .ok (.getfield 74, 3) := by decide +kernel
theorem dX7_remove_47 : decode cX7_remove 47 = .ok (.ireturn, 1) := by decide +kernel
set_option maxRecDepth 20000 in
theorem ggX7_see_X4_hasTooth : GoodIn wsX7_see wsX4_hasTooth := goodIn_r _ [9, 10, 120, 121, 122, 123, 124, 125] (by decide +kernel) (by decide +kernel)
set_option maxRecDepth 20000 in
theorem gX7_see_X4_hasTooth : GoodIn wsX7_see (wsV RX7 163 RX4 yX4_hasTooth wsX4_hasTooth) := goodIn_app (goodIn_of _ (by decide +kernel)) ggX7_see_X4_hasTooth
set_option maxRecDepth 20000 in
theorem ggX7_see_X7_isRadius : GoodIn wsX7_see wsX7_isRadius := goodIn_r _ [14] (by decide +kernel) (by decide +kernel)
set_option maxRecDepth 20000 in
theorem gX7_see_X7_isRadius : GoodIn wsX7_see (va_wsS RX7 167 yX7_isRadius wsX7_isRadius) := goodIn_app (goodIn_of _ (by decide +kernel)) ggX7_see_X7_isRadius
set_option maxRecDepth 20000 in
theorem ggX7_see_X2_remember : GoodIn wsX7_see wsX2_remember := goodIn_r _ [19, 20, 21, 22, 23, 24, 18, 25, 26, 27, 28, 29, 8, 30, 10, 31, 32, 33, 34, 35, 36, 37, 38, 39, 40, 41, 42, 43, 44, 45, 46, 47, 48, 49, 50, 51, 52, 53, 54, 55, 56, 57, 58, 59, 60, 61, 62, 63, 64, 65, 66, 67, 68, 69, 70, 71, 72, 73, 74, 75, 76, 77, 78, 79, 80, 126, 127, 128, 120, 121, 122, 123, 124, 125, 129, 130, 131, 132] (by decide +kernel) (by decide +kernel)
set_option maxRecDepth 20000 in
theorem gX7_see_X2_remember : GoodIn wsX7_see (wsV RX7 223 RX2 yX2_remember wsX2_remember) := goodIn_app (goodIn_of _ (by decide +kernel)) ggX7_see_X2_remember
set_option maxRecDepth 20000 in
theorem ggX7_see_X4_note : GoodIn wsX7_see wsX4_note := goodIn_r _ [76, 36, 67, 72, 77, 78, 79, 8, 80, 120, 121, 122, 123, 124, 125] (by decide +kernel) (by decide +kernel)
set_option maxRecDepth 20000 in
theorem gX7_see_X4_note : GoodIn wsX7_see (wsV RX7 263 RX4 yX4_note wsX4_note) := goodIn_app (goodIn_of _ (by decide +kernel)) ggX7_see_X4_note
set_option maxRecDepth 20000 in
theorem ggX7_see_X4_fitting : GoodIn wsX7_see wsX4_fitting := goodIn_r _ [85, 31, 41, 42, 43, 8, 44, 45, 86, 87, 88, 89, 36, 10, 63, 64, 65, 66, 67, 68, 69, 70, 71, 72, 90, 91, 92, 57, 93, 62, 94, 13, 95, 96, 97, 98, 99, 59, 100, 101, 102, 103, 104, 105, 106, 107, 60, 61, 108, 109, 110, 111, 120, 121, 122, 123, 124, 125, 129, 130, 131, 132] (by decide +kernel) (by decide +kernel)
set_option maxRecDepth 20000 in
theorem gX7_see_X4_fitting : GoodIn wsX7_see (wsV RX7 107 RX4 yX4_fitting wsX4_fitting) := goodIn_app (goodIn_of _ (by decide +kernel)) ggX7_see_X4_fitting
theorem dX7_see_0 : decode cX7_see 0 = .ok (.aload_n 0, 1) := by decide +kernel
theorem dX7_see_1 : decode cX7_see 1 = .ok (.getfield 16, 3) := by decide +kernel
theorem dX7_see_4 : decode cX7_see 4 = .ok (.iload_n 1, 1) := by decide +kernel
theorem dX7_see_5 : decode cX7_see 5 = .ok (.invokevirtual 163, 3) := by decide +kernel
theorem dX7_see_8 : decode cX7_see 8 = .ok (.ifCond .eq 10, 3) := by decide +kernel
theorem dX7_see_11 : decode cX7_see 11 = .ok (.iload_n 2, 1) := by decide +kernel
theorem dX7_see_12 : decode cX7_see 12 = .ok (.invokestatic 167, 3) := by decide +kernel
theorem dX7_see_15 : decode cX7_see 15 = .ok (.ifCond .ne 13, 3) := by decide +kernel
theorem dX7_see_18 : decode cX7_see 18 = .ok (.new 45, 3) := by decide +kernel
theorem dX7_see_21 : decode cX7_see 21 = .ok (.dup, 1) := by decide +kernel
theorem dX7_see_22 : decode cX7_see 22 = .ok (.ldc 170, 2) := by decide +kernel
theorem dX7_see_24 : decode cX7_see 24 = .ok (.invokespecial 49, 3) := by decide +kernel
theorem dX7_see_27 : decode cX7_see 27 = .ok (.athrow, 1) := by decide +kernel
theorem dX7_see_28 : decode cX7_see 28 = .ok (.aload_n 0, 1) := by decide +kernel
theorem dX7_see_29 : decode cX7_see 29 = .ok (.getfield 26, 3) := by decide +kernel
theorem dX7_see_32 : decode cX7_see 32 = .ok (.aload_n 0, 1) := by decide +kernel
theorem dX7_see_33 : decode cX7_see 33 = .ok (.getfield 16, 3) := by decide +kernel
theorem dX7_see_36 : decode cX7_see 36 = .ok (.invokevirtual 223, 3) := by decide +kernel
theorem dX7_see_39 : decode cX7_see 39 = .ok (.aload_n 0, 1) := by decide +kernel
theorem dX7_see_40 : decode cX7_see 40 = .ok (.getfield 16, 3) := by decide +kernel
theorem dX7_see_43 : decode cX7_see 43 = .ok (.iload_n 1, 1) := by decide +kernel
theorem dX7_see_44 : decode cX7_see 44 = .ok (.iload_n 2, 1) := by decide +kernel
theorem dX7_see_45 : decode cX7_see 45 = .ok (.invokevirtual 263, 3) := by decide +kernel
theorem dX7_see_48 : decode cX7_see 48 = .ok (.aload_n 0, 1) := by decide +kernel
theorem dX7_see_49 : decode cX7_see 49 = .ok (.getfield 16, 3) := by decide +kernel
theorem dX7_see_52 : decode cX7_see 52 = .ok (.invokevirtual 107, 3) := by decide +kernel
theorem dX7_see_55 : decode cX7_see 55 = .ok (.ireturn, 1) := by decide +kernel
set_option maxRecDepth 20000 in
theorem ggX7_forget_X2_remember : GoodIn wsX7_forget wsX2_remember := goodIn_r _ [8, 9, 10, 11, 12, 13, 7, 14, 15, 16, 17, 18, 19, 20, 21, 22, 23, 24, 25, 26, 27, 28, 29, 30, 31, 32, 33, 34, 35, 36, 37, 38, 39, 40, 41, 42, 43, 44, 45, 46, 47, 48, 49, 50, 51, 52, 53, 54, 55, 56, 57, 58, 59, 60, 61, 62, 63, 64, 65, 66, 67, 68, 69, 70, 71, 86, 87, 88, 80, 81, 82, 83, 84, 85, 89, 90, 91, 92] (by decide +kernel) (by decide +kernel)
set_option maxRecDepth 20000 in
theorem gX7_forget_X2_remember : GoodIn wsX7_forget (wsV RX7 223 RX2 yX2_remember wsX2_remember) := goodIn_app (goodIn_of _ (by decide +kernel)) ggX7_forget_X2_remember
theorem dX7_forget_0 : decode cX7_forget 0 = .ok (.aload_n 0, 1) := by decide +kernel
theorem dX7_forget_1 : decode cX7_forget 1 = .ok (.getfield 26, 3) := by decide +kernel
theorem dX7_forget_4 : decode cX7_forget 4 = .ok (.aload_n 0, 1) := by decide +kernel
theorem dX7_forget_5 : decode cX7_forget 5 = .ok (.getfield 16, 3) := by decide +kernel
theorem dX7_forget_8 : decode cX7_forget 8 = .ok (.invokevirtual 223, 3) := by decide +kernel
theorem dX7_forget_11 : decode cX7_forget 11 = .ok (.aload_n 0, 1) := by decide +kernel
theorem dX7_forget_12 : decode cX7_forget 12 = .ok (.getfield 16, 3) := by decide +kernel
theorem dX7_forget_15 : decode cX7_forget 15 = .ok (.getfield 89, 3) := by decide +kernel
theorem dX7_forget_18 : decode cX7_forget 18 = .ok (.istore_n 1, 1) := by decide +kernel
theorem dX7_forget_19 : decode cX7_forget 19 = .ok (.aload_n 0, 1) := by decide +kernel
theorem dX7_forget_20 : decode cX7_forget 20 = .ok (.getfield 16, 3) := by decide +kernel
theorem dX7_forget_23 : decode cX7_forget 23 = .ok (.iconst 0, 1) := by decide +kernel
theorem dX7_forget_24 : decode cX7_forget 24 = .ok (.putfield 89, 3) := by decide +kernel
theorem dX7_forget_27 : decode cX7_forget 27 = .ok (.iload_n 1, 1) := by decide +kernel
theorem dX7_forget_28 : decode cX7_forget 28 = .ok (.ireturn, 1) := by decide +kernel
set_option maxRecDepth 20000 in
theorem ggX7_undo_X2_takeBack : GoodIn wsX7_undo wsX2_takeBack := goodIn_r _ [10, 11, 12, 13, 14, 15, 9, 16, 17, 18, 19, 20, 21, 22, 23, 24, 25, 26, 27, 28, 29, 30, 31, 32, 33, 34, 35, 36, 37, 38, 39, 40, 41, 42, 43, 44, 45, 46, 47, 48, 49, 50, 51, 52, 53, 54, 55, 56, 57, 58, 59, 60, 61, 62, 63, 64, 65, 66, 67, 68, 69, 70, 71, 72, 73, 82, 83, 84, 85, 86, 87, 88, 89, 90, 91, 92, 93, 94] (by decide +kernel) (by decide +kernel)
set_option maxRecDepth 20000 in
theorem gX7_undo_X2_takeBack : GoodIn wsX7_undo (wsV RX7 272 RX2 yX2_takeBack wsX2_takeBack) := goodIn_app (goodIn_of _ (by decide +kernel)) ggX7_undo_X2_takeBack
theorem dX7_undo_0 : decode cX7_undo 0 = .ok (.aload_n 0, 1) := by decide +kernel
theorem dX7_undo_1 : decode cX7_undo 1 = .ok (.getfield 26, 3) := by decide +kernel
theorem dX7_undo_4 : decode cX7_undo 4 = .ok (.getfield 267, 3) := by decide +kernel
theorem dX7_undo_7 : decode cX7_undo 7 = .ok (.ifCond .ne 14, 3) := by decide +kernel
theorem dX7_undo_10 : decode cX7_undo 10 = .ok (.new 56, 3) := by decide +kernel
theorem dX7_undo_13 : decode cX7_undo 13 = .ok (.dup, 1) := by decide +kernel
theorem dX7_undo_14 : decode cX7_undo 14 = .ok (.ldc_w 270, 3) := by decide +kernel
theorem dX7_undo_17 : decode cX7_undo 17 = .ok (.invokespecial 60, 3) := by decide +kernel
theorem dX7_undo_20 : decode cX7_undo 20 = .ok (.athrow, 1) := by decide +kernel
theorem dX7_undo_21 : decode cX7_undo 21 = .ok (.aload_n 0, 1) := by decide +kernel
theorem dX7_undo_22 : decode cX7_undo 22 = .ok (.getfield 26, 3) := by decide +kernel
theorem dX7_undo_25 : decode cX7_undo 25 = .ok (.aload_n 0, 1) := by decide +kernel
theorem dX7_undo_26 : decode cX7_undo 26 = .ok (.getfield 16, 3) := by decide +kernel
theorem dX7_undo_29 : decode cX7_undo 29 = .ok (.invokevirtual 272, 3) := by decide +kernel
theorem dX7_undo_32 : decode cX7_undo 32 = .ok (.aload_n 0, 1) := by decide +kernel
theorem dX7_undo_33 : decode cX7_undo 33 = .ok (.getfield 26, 3) := by decide +kernel
theorem dX7_undo_36 : decode cX7_undo 36 = .ok (.getfield 267, 3) := by decide +kernel
theorem dX7_undo_39 : decode cX7_undo 39 = .ok (.ireturn, 1) := by decide +kernel
set_option maxRecDepth 20000 in
theorem ggX7_bestStart_X4_find : GoodIn wsX7_bestStart wsX4_find := goodIn_r _ [12, 13, 14, 98, 99, 100, 101, 102, 103] (by decide +kernel) (by decide +kernel)
set_option maxRecDepth 20000 in
theorem gX7_bestStart_X4_find : GoodIn wsX7_bestStart (wsV RX7 112 RX4 yX4_find wsX4_find) := goodIn_app (goodIn_of _ (by decide +kernel)) ggX7_bestStart_X4_find
set_option maxRecDepth 20000 in
theorem ggX7_bestStart_X0_startWithMost : GoodIn wsX7_bestStart wsX0_startWithMost := goodIn_r _ [19, 20, 21, 22, 23, 24, 25, 26, 27, 28, 29, 30, 31, 32, 33, 34, 35, 36, 37, 38, 39, 40, 41, 42, 43, 44, 45, 46, 47, 48, 49, 50, 51, 52, 53, 54, 55, 56, 57, 58, 59, 60, 61, 62, 63, 64, 65, 66, 67, 68, 69, 70, 71, 72, 73, 74, 75, 76, 18, 77, 78, 79, 80, 81, 82, 83, 84, 85, 86, 87, 88, 89, 104, 105, 106, 107, 108, 109, 110, 111] (by decide +kernel) (by decide +kernel)
set_option maxRecDepth 20000 in
theorem gX7_bestStart_X0_startWithMost : GoodIn wsX7_bestStart (wsV RX7 277 RX0 yX0_startWithMost wsX0_startWithMost) := goodIn_app (goodIn_of _ (by decide +kernel)) ggX7_bestStart_X0_startWithMost
theorem dX7_bestStart_0 : decode cX7_bestStart 0 = .ok (.aload_n 0, 1) := by decide +kernel
theorem dX7_bestStart_1 : decode cX7_bestStart 1 = .ok (.getfield 16, 3) := by decide +kernel
theorem dX7_bestStart_4 : decode cX7_bestStart 4 = .ok (.iload_n 1, 1) := by decide +kernel
theorem dX7_bestStart_5 : decode cX7_bestStart 5 = .ok (.invokevirtual 112, 3) := by decide +kernel
theorem dX7_bestStart_8 : decode cX7_bestStart 8 = .ok (.astore_n 3, 1) := by decide +kernel
theorem dX7_bestStart_9 : decode cX7_bestStart 9 = .ok (.aload_n 0, 1) := by decide +kernel
theorem dX7_bestStart_10 : decode cX7_bestStart 10 = .ok (.getfield 16, 3) := by decide +kernel
theorem dX7_bestStart_13 : decode cX7_bestStart 13 = .ok (.iload_n 2, 1) := by decide +kernel
theorem dX7_bestStart_14 : decode cX7_bestStart 14 = .ok (.invokevirtual 112, 3) := by decide +kernel
theorem dX7_bestStart_17 : decode cX7_bestStart 17 = .ok (.astore 4, 2) := by decide +kernel
theorem dX7_bestStart_19 : decode cX7_bestStart 19 = .ok (.aload_n 3, 1) := by decide +kernel
theorem dX7_bestStart_20 : decode cX7_bestStart 20 = .ok (.ifnull 8, 3) := by decide +kernel
theorem dX7_bestStart_23 : decode cX7_bestStart 23 = .ok (.aload 4, 2) := by decide +kernel
theorem dX7_bestStart_25 : decode cX7_bestStart 25 = .ok (.ifnonnull 13, 3) := by decide +kernel
theorem dX7_bestStart_28 : decode cX7_bestStart 28 = .ok (.new 116, 3) := by decide +kernel
theorem dX7_bestStart_31 : decode cX7_bestStart 31 = .ok (.dup, 1) := by decide +kernel
theorem dX7_bestStart_32 : decode cX7_bestStart 32 = .ok (.ldc 118, 2) := by decide +kernel
theorem dX7_bestStart_34 : decode cX7_bestStart 34 = .ok (.invokespecial 120, 3) := by decide +kernel
theorem dX7_bestStart_37 : decode cX7_bestStart 37 = .ok (.athrow, 1) := by decide +kernel
theorem dX7_bestStart_38 : decode cX7_bestStart 38 = .ok (.iload_n 1, 1) := by decide +kernel
theorem dX7_bestStart_39 : decode cX7_bestStart 39 = .ok (.iload_n 2, 1) := by decide +kernel
theorem dX7_bestStart_40 : decode cX7_bestStart 40 = .ok (.if_icmp .ne 14, 3) := by decide +kernel
theorem dX7_bestStart_43 : decode cX7_bestStart 43 = .ok (.new 45, 3) := by decide +kernel
theorem dX7_bestStart_46 : decode cX7_bestStart 46 = .ok (.dup, 1) := by decide +kernel
theorem dX7_bestStart_47 : decode cX7_bestStart 47 = .ok (.ldc_w 275, 3) := by decide +kernel
theorem dX7_bestStart_50 : decode cX7_bestStart 50 = .ok (.invokespecial 49, 3) := by decide +kernel
theorem dX7_bestStart_53 : decode cX7_bestStart 53 = .ok (.athrow, 1) := by decide +kernel
theorem dX7_bestStart_54 : decode cX7_bestStart 54 = .ok (.aload_n 0, 1) := by decide +kernel
theorem dX7_bestStart_55 : decode cX7_bestStart 55 = .ok (.getfield 41, 3) := by decide +kernel
theorem dX7_bestStart_58 : decode cX7_bestStart 58 = .ok (.aload_n 0, 1) := by decide +kernel
theorem dX7_bestStart_59 : decode cX7_bestStart 59 = .ok (.getfield 16, 3) := by decide +kernel
theorem dX7_bestStart_62 : decode cX7_bestStart 62 = .ok (.getfield 86, 3) := by decide +kernel
theorem dX7_bestStart_65 : decode cX7_bestStart 65 = .ok (.aload_n 3, 1) := by decide +kernel
theorem dX7_bestStart_66 : decode cX7_bestStart 66 = .ok (.aload 4, 2) := by decide +kernel
theorem dX7_bestStart_68 : decode cX7_bestStart 68 = .ok (.invokevirtual 277, 3) := by decide +kernel
theorem dX7_bestStart_71 : decode cX7_bestStart 71 = .ok (.ireturn, 1) := by decide +kernel
set_option maxRecDepth 20000 in
theorem ggX7_wheels_X7_isSide : GoodIn wsX7_wheels wsX7_isSide := goodIn_r _ [9] (by decide +kernel) (by decide +kernel)
set_option maxRecDepth 20000 in
theorem gX7_wheels_X7_isSide : GoodIn wsX7_wheels (va_wsS RX7 233 yX7_isSide wsX7_isSide) := goodIn_app (goodIn_of _ (by decide +kernel)) ggX7_wheels_X7_isSide
set_option maxRecDepth 20000 in
theorem ggX7_wheels_X7_isHole : GoodIn wsX7_wheels wsX7_isHole := goodIn_r _ [12] (by decide +kernel) (by decide +kernel)
set_option maxRecDepth 20000 in
theorem gX7_wheels_X7_isHole : GoodIn wsX7_wheels (va_wsS RX7 236 yX7_isHole wsX7_isHole) := goodIn_app (goodIn_of _ (by decide +kernel)) ggX7_wheels_X7_isHole
set_option maxRecDepth 20000 in
theorem ggX7_wheels_X4_hasTooth : GoodIn wsX7_wheels wsX4_hasTooth := goodIn_r _ [17, 18, 76, 77, 78, 79, 80, 81] (by decide +kernel) (by decide +kernel)
set_option maxRecDepth 20000 in
theorem gX7_wheels_X4_hasTooth : GoodIn wsX7_wheels (wsV RX7 163 RX4 yX4_hasTooth wsX4_hasTooth) := goodIn_app (goodIn_of _ (by decide +kernel)) ggX7_wheels_X4_hasTooth
set_option maxRecDepth 20000 in
theorem ggX7_wheels_X3_set : GoodIn wsX7_wheels wsX3_set := goodIn_r _ [23, 24, 25, 26, 27, 82, 83, 84, 85] (by decide +kernel) (by decide +kernel)
set_option maxRecDepth 20000 in
theorem gX7_wheels_X3_set : GoodIn wsX7_wheels (wsV RX7 284 RX3 yX3_set wsX3_set) := goodIn_app (goodIn_of _ (by decide +kernel)) ggX7_wheels_X3_set
set_option maxRecDepth 20000 in
theorem ggX7_wheels_X4_fits : GoodIn wsX7_wheels wsX4_fits := goodIn_r _ [31, 32, 18, 33, 34, 35, 16, 36, 37, 38, 39, 40, 41, 42, 43, 44, 45, 22, 46, 27, 47, 8, 48, 49, 50, 51, 52, 24, 53, 54, 55, 56, 57, 58, 59, 60, 25, 26, 61, 62, 63, 64, 76, 77, 78, 79, 80, 81, 82, 83, 84, 85] (by decide +kernel) (by decide +kernel)
set_option maxRecDepth 20000 in
theorem gX7_wheels_X4_fits : GoodIn wsX7_wheels (wsV RX7 287 RX4 yX4_fits wsX4_fits) := goodIn_app (goodIn_of _ (by decide +kernel)) ggX7_wheels_X4_fits
theorem dX7_wheels_0 : decode cX7_wheels 0 = .ok (.iload_n 1, 1) := by decide +kernel
theorem dX7_wheels_1 : decode cX7_wheels 1 = .ok (.invokestatic 233, 3) := by decide +kernel
theorem dX7_wheels_4 : decode cX7_wheels 4 = .ok (.ifCond .eq 32, 3) := by decide +kernel
theorem dX7_wheels_7 : decode cX7_wheels 7 = .ok (.iload_n 2, 1) := by decide +kernel
theorem dX7_wheels_8 : decode cX7_wheels 8 = .ok (.invokestatic 236, 3) := by decide +kernel
theorem dX7_wheels_11 : decode cX7_wheels 11 = .ok (.ifCond .eq 25, 3) := by decide +kernel
theorem dX7_wheels_14 : decode cX7_wheels 14 = .ok (.aload_n 0, 1) := by decide +kernel
theorem dX7_wheels_15 : decode cX7_wheels 15 = .ok (.getfield 16, 3) := by decide +kernel
theorem dX7_wheels_18 : decode cX7_wheels 18 = .ok (.iload_n 3, 1) := by decide +kernel
theorem dX7_wheels_19 : decode cX7_wheels 19 = .ok (.invokevirtual 163, 3) := by decide +kernel
theorem dX7_wheels_22 : decode cX7_wheels 22 = .ok (.ifCond .eq 14, 3) := by decide +kernel
theorem dX7_wheels_25 : decode cX7_wheels 25 = .ok (.iload 4, 2) := by decide +kernel
theorem dX7_wheels_27 : decode cX7_wheels 27 = .ok (.ifCond .lt 9, 3) := by decide +kernel
theorem dX7_wheels_30 : decode cX7_wheels 30 = .ok (.iload 4, 2) := by decide +kernel
theorem dX7_wheels_32 : decode cX7_wheels 32 = .ok (.iconst 2, 1) := by decide +kernel
theorem dX7_wheels_33 : decode cX7_wheels 33 = .ok (.if_icmp .le 13, 3) := by decide +kernel
theorem dX7_wheels_36 : decode cX7_wheels 36 = .ok (.new 45, 3) := by decide +kernel
theorem dX7_wheels_39 : decode cX7_wheels 39 = .ok (.dup, 1) := by decide +kernel
theorem dX7_wheels_40 : decode cX7_wheels 40 = .ok (.ldc 239, 2) := by decide +kernel
theorem dX7_wheels_42 : decode cX7_wheels 42 = .ok (.invokespecial 49, 3) := by decide +kernel
theorem dX7_wheels_45 : decode cX7_wheels 45 = .ok (.athrow, 1) := by decide +kernel
theorem dX7_wheels_46 : decode cX7_wheels 46 = .ok (.iconst 0, 1) := by decide +kernel
theorem dX7_wheels_47 : decode cX7_wheels 47 = .ok (.istore 5, 2) := by decide +kernel
theorem dX7_wheels_49 : decode cX7_wheels 49 = .ok (.bipush (-9), 2) := by decide +kernel
theorem dX7_wheels_51 : decode cX7_wheels 51 = .ok (.istore 6, 2) := by decide +kernel
theorem dX7_wheels_53 : decode cX7_wheels 53 = .ok (.bipush (-9), 2) := by decide +kernel
theorem dX7_wheels_55 : decode cX7_wheels 55 = .ok (.istore 7, 2) := by decide +kernel
theorem dX7_wheels_57 : decode cX7_wheels 57 = .ok (.iconst 5, 1) := by decide +kernel
theorem dX7_wheels_58 : decode cX7_wheels 58 = .ok (.istore 8, 2) := by decide +kernel
theorem dX7_wheels_60 : decode cX7_wheels 60 = .ok (.iload 8, 2) := by decide +kernel
theorem dX7_wheels_62 : decode cX7_wheels 62 = .ok (.bipush 60, 2) := by decide +kernel
theorem dX7_wheels_64 : decode cX7_wheels 64 = .ok (.if_icmp .gt 64, 3) := by decide +kernel
theorem dX7_wheels_67 : decode cX7_wheels 67 = .ok (.aload_n 0, 1) := by decide +kernel
theorem dX7_wheels_68 : decode cX7_wheels 68 = .ok (.getfield 41, 3) := by decide +kernel
theorem dX7_wheels_71 : decode cX7_wheels 71 = .ok (.getfield 280, 3) := by decide +kernel
theorem dX7_wheels_74 : decode cX7_wheels 74 = .ok (.iload 8, 2) := by decide +kernel
theorem dX7_wheels_76 : decode cX7_wheels 76 = .ok (.iload_n 1, 1) := by decide +kernel
theorem dX7_wheels_77 : decode cX7_wheels 77 = .ok (.iload_n 2, 1) := by decide +kernel
theorem dX7_wheels_78 : decode cX7_wheels 78 = .ok (.iload_n 3, 1) := by decide +kernel
theorem dX7_wheels_79 : decode cX7_wheels 79 = .ok (.invokevirtual 284, 3) := by decide +kernel
theorem dX7_wheels_82 : decode cX7_wheels 82 = .ok (.aload_n 0, 1) := by decide +kernel
theorem dX7_wheels_83 : decode cX7_wheels 83 = .ok (.getfield 16, 3) := by decide +kernel
theorem dX7_wheels_86 : decode cX7_wheels 86 = .ok (.aload_n 0, 1) := by decide +kernel
theorem dX7_wheels_87 : decode cX7_wheels 87 = .ok (.getfield 41, 3) := by decide +kernel
theorem dX7_wheels_90 : decode cX7_wheels 90 = .ok (.getfield 280, 3) := by decide +kernel
theorem dX7_wheels_93 : decode cX7_wheels 93 = .ok (.invokevirtual 287, 3) := by decide +kernel
theorem dX7_wheels_96 : decode cX7_wheels 96 = .ok (.ifCond .eq 26, 3) := by decide +kernel
theorem dX7_wheels_99 : decode cX7_wheels 99 = .ok (.iinc 5 1, 3) := by decide +kernel
theorem dX7_wheels_102 : decode cX7_wheels 102 = .ok (.iload 6, 2) := by decide +kernel
theorem dX7_wheels_104 : decode cX7_wheels 104 = .ok (.bipush (-9), 2) := by decide +kernel
theorem dX7_wheels_106 : decode cX7_wheels 106 = .ok (.if_icmp .ne 8, 3) := by decide +kernel
theorem dX7_wheels_109 : decode cX7_wheels 109 = .ok (.iload 8, 2) := by decide +kernel
theorem dX7_wheels_111 : decode cX7_wheels 111 = .ok (.goto 5, 3) := by decide +kernel
theorem dX7_wheels_114 : decode cX7_wheels 114 = .ok (.iload 6, 2) := by decide +kernel
theorem dX7_wheels_116 : decode cX7_wheels 116 = .ok (.istore 6, 2) := by decide +kernel
theorem dX7_wheels_118 : decode cX7_wheels 118 = .ok (.iload 8, 2) := by decide +kernel
theorem dX7_wheels_120 : decode cX7_wheels 120 = .ok (.istore 7, 2) := by decide +kernel
theorem dX7_wheels_122 : decode cX7_wheels 122 = .ok (.iinc 8 1, 3) := by decide +kernel
theorem dX7_wheels_125 : decode cX7_wheels 125 = .ok (.goto (-65), 3) := by decide +kernel
theorem dX7_wheels_128 : decode cX7_wheels 128 = .ok (.iload 4, 2) := by decide +kernel
theorem dX7_wheels_130 : decode cX7_wheels 130 = .ok (.ifCond .ne 8, 3) := by decide +kernel
theorem dX7_wheels_133 : decode cX7_wheels 133 = .ok (.iload 5, 2) := by decide +kernel
theorem dX7_wheels_135 : decode cX7_wheels 135 = .ok (.goto 16, 3) := by decide +kernel
theorem dX7_wheels_138 : decode cX7_wheels 138 = .ok (.iload 4, 2) := by decide +kernel
theorem dX7_wheels_140 : decode cX7_wheels 140 = .ok (.iconst 1, 1) := by decide +kernel
theorem dX7_wheels_141 : decode cX7_wheels 141 = .ok (.if_icmp .ne 8, 3) := by decide +kernel
theorem dX7_wheels_144 : decode cX7_wheels 144 = .ok (.iload 6, 2) := by decide +kernel
theorem dX7_wheels_146 : decode cX7_wheels 146 = .ok (.goto 5, 3) := by decide +kernel
theorem dX7_wheels_149 : decode cX7_wheels 149 = .ok (.iload 7, 2) := by decide +kernel
theorem dX7_wheels_151 : decode cX7_wheels 151 = .ok (.ireturn, 1) := by decide +kernel
set_option maxRecDepth 20000 in
theorem ggX7_wheelFor_X3_set : GoodIn wsX7_wheelFor wsX3_set := goodIn_r _ [11, 12, 13, 14, 15, 42, 43, 44, 45] (by decide +kernel) (by decide +kernel)
set_option maxRecDepth 20000 in
theorem gX7_wheelFor_X3_set : GoodIn wsX7_wheelFor (wsV RX7 284 RX3 yX3_set wsX3_set) := goodIn_app (goodIn_of _ (by decide +kernel)) ggX7_wheelFor_X3_set
set_option maxRecDepth 20000 in
theorem ggX7_wheelFor_X3_turns : GoodIn wsX7_wheelFor wsX3_turns := goodIn_r _ [19, 12, 20, 21, 22, 23, 24, 42, 43, 44, 45] (by decide +kernel) (by decide +kernel)
set_option maxRecDepth 20000 in
theorem gX7_wheelFor_X3_turns : GoodIn wsX7_wheelFor (wsV RX7 139 RX3 yX3_turns wsX3_turns) := goodIn_app (goodIn_of _ (by decide +kernel)) ggX7_wheelFor_X3_turns
theorem dX7_wheelFor_0 : decode cX7_wheelFor 0 = .ok (.iload_n 1, 1) := by decide +kernel
theorem dX7_wheelFor_1 : decode cX7_wheelFor 1 = .ok (.iconst 1, 1) := by decide +kernel
theorem dX7_wheelFor_2 : decode cX7_wheelFor 2 = .ok (.if_icmp .lt 9, 3) := by decide +kernel
theorem dX7_wheelFor_5 : decode cX7_wheelFor 5 = .ok (.iload_n 1, 1) := by decide +kernel
theorem dX7_wheelFor_6 : decode cX7_wheelFor 6 = .ok (.bipush 60, 2) := by decide +kernel
theorem dX7_wheelFor_8 : decode cX7_wheelFor 8 = .ok (.if_icmp .le 14, 3) := by decide +kernel
theorem dX7_wheelFor_11 : decode cX7_wheelFor 11 = .ok (.new 45, 3) := by decide +kernel
theorem dX7_wheelFor_14 : decode cX7_wheelFor 14 = .ok (.dup, 1) := by decide +kernel
theorem dX7_wheelFor_15 : decode cX7_wheelFor 15 = .ok (.ldc_w 291, 3) := by decide +kernel
theorem dX7_wheelFor_18 : decode cX7_wheelFor 18 = .ok (.invokespecial 49, 3) := by decide +kernel
theorem dX7_wheelFor_21 : decode cX7_wheelFor 21 = .ok (.athrow, 1) := by decide +kernel
theorem dX7_wheelFor_22 : decode cX7_wheelFor 22 = .ok (.bipush 60, 2) := by decide +kernel
theorem dX7_wheelFor_24 : decode cX7_wheelFor 24 = .ok (.istore_n 2, 1) := by decide +kernel
theorem dX7_wheelFor_25 : decode cX7_wheelFor 25 = .ok (.iload_n 2, 1) := by decide +kernel
theorem dX7_wheelFor_26 : decode cX7_wheelFor 26 = .ok (.iconst 5, 1) := by decide +kernel
theorem dX7_wheelFor_27 : decode cX7_wheelFor 27 = .ok (.if_icmp .lt 46, 3) := by decide +kernel
theorem dX7_wheelFor_30 : decode cX7_wheelFor 30 = .ok (.aload_n 0, 1) := by decide +kernel
theorem dX7_wheelFor_31 : decode cX7_wheelFor 31 = .ok (.getfield 41, 3) := by decide +kernel
theorem dX7_wheelFor_34 : decode cX7_wheelFor 34 = .ok (.getfield 280, 3) := by decide +kernel
theorem dX7_wheelFor_37 : decode cX7_wheelFor 37 = .ok (.iload_n 2, 1) := by decide +kernel
theorem dX7_wheelFor_38 : decode cX7_wheelFor 38 = .ok (.iconst 0, 1) := by decide +kernel
theorem dX7_wheelFor_39 : decode cX7_wheelFor 39 = .ok (.iconst 0, 1) := by decide +kernel
theorem dX7_wheelFor_40 : decode cX7_wheelFor 40 = .ok (.iconst 0, 1) := by decide +kernel
theorem dX7_wheelFor_41 : decode cX7_wheelFor 41 = .ok (.invokevirtual 284, 3) := by decide +kernel
theorem dX7_wheelFor_44 : decode cX7_wheelFor 44 = .ok (.aload_n 0, 1) := by decide +kernel
theorem dX7_wheelFor_45 : decode cX7_wheelFor 45 = .ok (.getfield 41, 3) := by decide +kernel
theorem dX7_wheelFor_48 : decode cX7_wheelFor 48 = .ok (.getfield 280, 3) := by decide +kernel
theorem dX7_wheelFor_51 : decode cX7_wheelFor 51 = .ok (.aload_n 0, 1) := by decide +kernel
theorem dX7_wheelFor_52 : decode cX7_wheelFor 52 = .ok (.getfield 16, 3) := by decide +kernel
theorem dX7_wheelFor_55 : decode cX7_wheelFor 55 = .ok (.getfield 86, 3) := by decide +kernel
theorem dX7_wheelFor_58 : decode cX7_wheelFor 58 = .ok (.invokevirtual 139, 3) := by decide +kernel
theorem dX7_wheelFor_61 : decode cX7_wheelFor 61 = .ok (.iload_n 1, 1) := by decide +kernel
theorem dX7_wheelFor_62 : decode cX7_wheelFor 62 = .ok (.if_icmp .ne 5, 3) := by decide +kernel
theorem dX7_wheelFor_65 : decode cX7_wheelFor 65 = .ok (.iload_n 2, 1) := by decide +kernel
theorem dX7_wheelFor_66 : decode cX7_wheelFor 66 = .ok (.ireturn, 1) := by decide +kernel
theorem dX7_wheelFor_67 : decode cX7_wheelFor 67 = .ok (.iinc 2 (-1), 3) := by decide +kernel
theorem dX7_wheelFor_70 : decode cX7_wheelFor 70 = .ok (.goto (-45), 3) := by decide +kernel
theorem dX7_wheelFor_73 : decode cX7_wheelFor 73 = .ok (.bipush (-9), 2) := by decide +kernel
theorem dX7_wheelFor_75 : decode cX7_wheelFor 75 = .ok (.ireturn, 1) := by decide +kernel
set_option maxRecDepth 20000 in
theorem ggX7_runScript_X7_groupUnit : GoodIn wsX7_runScript wsX7_groupUnit := goodIn_r _ [13, 8] (by decide +kernel) (by decide +kernel)
set_option maxRecDepth 20000 in
theorem gX7_runScript_X7_groupUnit : GoodIn wsX7_runScript (va_wsS RX7 295 yX7_groupUnit wsX7_groupUnit) := goodIn_app (goodIn_of _ (by decide +kernel)) ggX7_runScript_X7_groupUnit
set_option maxRecDepth 20000 in
theorem ggX7_runScript_X4_become : GoodIn wsX7_runScript wsX4_become := goodIn_r _ [18, 19, 20, 21, 22, 23, 24, 25, 26, 27, 28, 17, 29, 30, 31, 32, 33, 34, 35, 36, 37, 38, 39, 40, 41, 42, 43, 44, 45, 46, 47, 48, 49, 50, 51, 52, 53, 54, 55, 56, 57, 58, 59, 60, 61, 62, 63, 64, 65, 66, 67, 68, 69, 262, 263, 264, 265, 266, 267, 268, 269, 270, 271] (by decide +kernel) (by decide +kernel)
set_option maxRecDepth 20000 in
theorem gX7_runScript_X4_become : GoodIn wsX7_runScript (wsV RX7 67 RX4 yX4_become wsX4_become) := goodIn_app (goodIn_of _ (by decide +kernel)) ggX7_runScript_X4_become
set_option maxRecDepth 20000 in
theorem ggX7_runScript_X7_quotient : GoodIn wsX7_runScript wsX7_quotient := goodIn_r _ [72] (by decide +kernel) (by decide +kernel)
set_option maxRecDepth 20000 in
theorem gX7_runScript_X7_quotient : GoodIn wsX7_runScript (va_wsS RX7 301 yX7_quotient wsX7_quotient) := goodIn_app (goodIn_of _ (by decide +kernel)) ggX7_runScript_X7_quotient
set_option maxRecDepth 20000 in
theorem ggX7_runScript_X1_init : GoodIn wsX7_runScript wsX1_init := goodIn_r _ [75, 76, 77, 78, 79, 80, 81, 82, 83, 257, 258, 259, 260, 261] (by decide +kernel) (by decide +kernel)
set_option maxRecDepth 20000 in
theorem gX7_runScript_X1_init : GoodIn wsX7_runScript (wsX1_init) := ggX7_runScript_X1_init
set_option maxRecDepth 20000 in
theorem ggX7_runScript_X1_succeeds : GoodIn wsX7_runScript wsX1_succeeds := goodIn_r _ [87, 79, 81, 80, 88, 89, 90, 7, 91, 92, 31, 32, 17, 33, 20, 34, 93, 94, 95, 96, 82, 83, 97, 98, 99, 100, 101, 12, 102, 103, 104, 105, 106, 107, 108, 109, 110, 19, 111, 112, 113, 46, 114, 51, 48, 49, 50, 115, 116, 117, 118, 119, 120, 121, 122, 30, 123, 124, 125, 126, 127, 44, 45, 47, 128, 129, 130, 131, 132, 133, 134, 135, 136, 137, 24, 56, 138, 139, 140, 141, 142, 40, 41, 42, 143, 36, 37, 38, 39, 43, 144, 145, 146, 147, 148, 149, 150, 151, 152, 153, 154, 155, 156, 157, 158, 159, 160, 161, 162, 163, 164, 165, 166, 167, 168, 169, 170, 171, 172, 71, 72, 173, 174, 175, 176, 177, 178, 179, 180, 181, 182, 183, 184, 185, 186, 187, 188, 189, 190, 191, 192, 193, 194, 195, 196, 197, 198, 199, 200, 201, 202, 203, 204, 205, 206, 207, 208, 209, 210, 211, 212, 213, 214, 215, 216, 217, 218, 219, 220, 221, 222, 223, 224, 225, 226, 227, 228, 229, 230, 231, 232, 233, 234, 235, 236, 237, 25, 52, 53, 54, 55, 57, 58, 59, 60, 61, 238, 239, 240, 241, 242, 243, 244, 245, 246, 247, 248, 257, 258, 259, 260, 261, 262, 263, 264, 265, 266, 267, 268, 269, 270, 271, 272, 273, 274, 275] (by decide +kernel) (by decide +kernel)
set_option maxRecDepth 20000 in
theorem gX7_runScript_X1_succeeds : GoodIn wsX7_runScript (wsV RX7 310 RX1 yX1_succeeds wsX1_succeeds) := goodIn_app (goodIn_of _ (by decide +kernel)) ggX7_runScript_X1_succeeds
theorem dX7_runScript_0 : decode cX7_runScript 0 = .ok (.iload_n 1, 1) := by decide +kernel
theorem dX7_runScript_1 : decode cX7_runScript 1 = .ok (.iconst 1, 1) := by decide +kernel
theorem dX7_runScript_2 : decode cX7_runScript 2 = .ok (.if_icmp .lt 8, 3) := by decide +kernel
theorem dX7_runScript_5 : decode cX7_runScript 5 = .ok (.iload_n 1, 1) := by decide +kernel
theorem dX7_runScript_6 : decode cX7_runScript 6 = .ok (.iconst 3, 1) := by decide +kernel
theorem dX7_runScript_7 : decode cX7_runScript 7 = .ok (.if_icmp .le 14, 3) := by decide +kernel
theorem dX7_runScript_10 : decode cX7_runScript 10 = .ok (.new 45, 3) := by decide +kernel
theorem dX7_runScript_13 : decode cX7_runScript 13 = .ok (.dup, 1) := by decide +kernel
theorem dX7_runScript_14 : decode cX7_runScript 14 = .ok (.ldc_w 293, 3) := by decide +kernel
theorem dX7_runScript_17 : decode cX7_runScript 17 = .ok (.invokespecial 49, 3) := by decide +kernel
theorem dX7_runScript_20 : decode cX7_runScript 20 = .ok (.athrow, 1) := by decide +kernel
theorem dX7_runScript_21 : decode cX7_runScript 21 = .ok (.lload_n 2, 1) := by decide +kernel
theorem dX7_runScript_22 : decode cX7_runScript 22 = .ok (.lconst 0, 1) := by decide +kernel
theorem dX7_runScript_23 : decode cX7_runScript 23 = .ok (.lcmp, 1) := by decide +kernel
theorem dX7_runScript_24 : decode cX7_runScript 24 = .ok (.ifCond .lt 12, 3) := by decide +kernel
theorem dX7_runScript_27 : decode cX7_runScript 27 = .ok (.lload_n 2, 1) := by decide +kernel
theorem dX7_runScript_28 : decode cX7_runScript 28 = .ok (.iload_n 1, 1) := by decide +kernel
theorem dX7_runScript_29 : decode cX7_runScript 29 = .ok (.invokestatic 295, 3) := by decide +kernel
theorem dX7_runScript_32 : decode cX7_runScript 32 = .ok (.lcmp, 1) := by decide +kernel
theorem dX7_runScript_33 : decode cX7_runScript 33 = .ok (.ifCond .lt 14, 3) := by decide +kernel
theorem dX7_runScript_36 : decode cX7_runScript 36 = .ok (.new 45, 3) := by decide +kernel
theorem dX7_runScript_39 : decode cX7_runScript 39 = .ok (.dup, 1) := by decide +kernel
theorem dX7_runScript_40 : decode cX7_runScript 40 = .ok (.ldc_w 299, 3) := by decide +kernel
theorem dX7_runScript_43 : decode cX7_runScript 43 = .ok (.invokespecial 49, 3) := by decide +kernel
theorem dX7_runScript_46 : decode cX7_runScript 46 = .ok (.athrow, 1) := by decide +kernel
theorem dX7_runScript_47 : decode cX7_runScript 47 = .ok (.aload_n 0, 1) := by decide +kernel
theorem dX7_runScript_48 : decode cX7_runScript 48 = .ok (.getfield 20, 3) := by decide +kernel
theorem dX7_runScript_51 : decode cX7_runScript 51 = .ok (.aload_n 0, 1) := by decide +kernel
theorem dX7_runScript_52 : decode cX7_runScript 52 = .ok (.getfield 16, 3) := by decide +kernel
theorem dX7_runScript_55 : decode cX7_runScript 55 = .ok (.invokevirtual 67, 3) := by decide +kernel
theorem dX7_runScript_58 : decode cX7_runScript 58 = .ok (.iconst 0, 1) := by decide +kernel
theorem dX7_runScript_59 : decode cX7_runScript 59 = .ok (.istore 4, 2) := by decide +kernel
theorem dX7_runScript_61 : decode cX7_runScript 61 = .ok (.iload 4, 2) := by decide +kernel
theorem dX7_runScript_63 : decode cX7_runScript 63 = .ok (.iload_n 1, 1) := by decide +kernel
theorem dX7_runScript_64 : decode cX7_runScript 64 = .ok (.if_icmp .ge 55, 3) := by decide +kernel
theorem dX7_runScript_67 : decode cX7_runScript 67 = .ok (.lload_n 2, 1) := by decide +kernel
theorem dX7_runScript_68 : decode cX7_runScript 68 = .ok (.iload_n 1, 1) := by decide +kernel
theorem dX7_runScript_69 : decode cX7_runScript 69 = .ok (.iconst 1, 1) := by decide +kernel
theorem dX7_runScript_70 : decode cX7_runScript 70 = .ok (.isub, 1) := by decide +kernel
theorem dX7_runScript_71 : decode cX7_runScript 71 = .ok (.iload 4, 2) := by decide +kernel
theorem dX7_runScript_73 : decode cX7_runScript 73 = .ok (.isub, 1) := by decide +kernel
theorem dX7_runScript_74 : decode cX7_runScript 74 = .ok (.invokestatic 295, 3) := by decide +kernel
theorem dX7_runScript_77 : decode cX7_runScript 77 = .ok (.invokestatic 301, 3) := by decide +kernel
theorem dX7_runScript_80 : decode cX7_runScript 80 = .ok (.lstore 5, 2) := by decide +kernel
theorem dX7_runScript_82 : decode cX7_runScript 82 = .ok (.new 304, 3) := by decide +kernel
theorem dX7_runScript_85 : decode cX7_runScript 85 = .ok (.dup, 1) := by decide +kernel
theorem dX7_runScript_86 : decode cX7_runScript 86 = .ok (.lload 5, 2) := by decide +kernel
theorem dX7_runScript_88 : decode cX7_runScript 88 = .ok (.ldc2_w 306, 3) := by decide +kernel
theorem dX7_runScript_91 : decode cX7_runScript 91 = .ok (.lrem, 1) := by decide +kernel
theorem dX7_runScript_92 : decode cX7_runScript 92 = .ok (.l2i, 1) := by decide +kernel
theorem dX7_runScript_93 : decode cX7_runScript 93 = .ok (.invokespecial 308, 3) := by decide +kernel
theorem dX7_runScript_96 : decode cX7_runScript 96 = .ok (.aload_n 0, 1) := by decide +kernel
theorem dX7_runScript_97 : decode cX7_runScript 97 = .ok (.getfield 20, 3) := by decide +kernel
theorem dX7_runScript_100 : decode cX7_runScript 100 = .ok (.aload_n 0, 1) := by decide +kernel
theorem dX7_runScript_101 : decode cX7_runScript 101 = .ok (.getfield 41, 3) := by decide +kernel
theorem dX7_runScript_104 : decode cX7_runScript 104 = .ok (.invokevirtual 310, 3) := by decide +kernel
theorem dX7_runScript_107 : decode cX7_runScript 107 = .ok (.ifCond .ne 6, 3) := by decide +kernel
theorem dX7_runScript_110 : decode cX7_runScript 110 = .ok (.iload 4, 2) := by decide +kernel
theorem dX7_runScript_112 : decode cX7_runScript 112 = .ok (.ireturn, 1) := by decide +kernel
theorem dX7_runScript_113 : decode cX7_runScript 113 = .ok (.iinc 4 1, 3) := by decide +kernel
theorem dX7_runScript_116 : decode cX7_runScript 116 = .ok (.goto (-55), 3) := by decide +kernel
theorem dX7_runScript_119 : decode cX7_runScript 119 = .ok (.bipush (-9), 2) := by decide +kernel
theorem dX7_runScript_121 : decode cX7_runScript 121 = .ok (.ireturn, 1) := by decide +kernel
theorem dX7_groupUnit_0 : decode cX7_groupUnit 0 = .ok (.lconst 1, 1) := by decide +kernel
theorem dX7_groupUnit_1 : decode cX7_groupUnit 1 = .ok (.lstore_n 1, 1) := by decide +kernel
theorem dX7_groupUnit_2 : decode cX7_groupUnit 2 = .ok (.iconst 0, 1) := by decide +kernel
theorem dX7_groupUnit_3 : decode cX7_groupUnit 3 = .ok (.istore_n 3, 1) := by decide +kernel
theorem dX7_groupUnit_4 : decode cX7_groupUnit 4 = .ok (.iload_n 3, 1) := by decide +kernel
theorem dX7_groupUnit_5 : decode cX7_groupUnit 5 = .ok (.iload_n 0, 1) := by decide +kernel
theorem dX7_groupUnit_6 : decode cX7_groupUnit 6 = .ok (.if_icmp .ge 15, 3) := by decide +kernel
theorem dX7_groupUnit_9 : decode cX7_groupUnit 9 = .ok (.lload_n 1, 1) := by decide +kernel
theorem dX7_groupUnit_10 : decode cX7_groupUnit 10 = .ok (.ldc2_w 306, 3) := by decide +kernel
theorem dX7_groupUnit_13 : decode cX7_groupUnit 13 = .ok (.lmul, 1) := by decide +kernel
theorem dX7_groupUnit_14 : decode cX7_groupUnit 14 = .ok (.lstore_n 1, 1) := by decide +kernel
theorem dX7_groupUnit_15 : decode cX7_groupUnit 15 = .ok (.iinc 3 1, 3) := by decide +kernel
theorem dX7_groupUnit_18 : decode cX7_groupUnit 18 = .ok (.goto (-14), 3) := by decide +kernel
theorem dX7_groupUnit_21 : decode cX7_groupUnit 21 = .ok (.lload_n 1, 1) := by decide +kernel
theorem dX7_groupUnit_22 : decode cX7_groupUnit 22 = .ok (.lreturn, 1) := by decide +kernel
set_option maxRecDepth 20000 in
theorem ggX7_simulate_X5_clear : GoodIn wsX7_simulate wsX5_clear := goodIn_r _ [18, 19, 77] (by decide +kernel) (by decide +kernel)
set_option maxRecDepth 20000 in
theorem gX7_simulate_X5_clear : GoodIn wsX7_simulate (wsV RX7 320 RX5 yX5_clear wsX5_clear) := goodIn_app (goodIn_of _ (by decide +kernel)) ggX7_simulate_X5_clear
set_option maxRecDepth 20000 in
theorem ggX7_simulate_X3_set : GoodIn wsX7_simulate wsX3_set := goodIn_r _ [24, 25, 26, 27, 28, 78, 79, 80, 81] (by decide +kernel) (by decide +kernel)
set_option maxRecDepth 20000 in
theorem gX7_simulate_X3_set : GoodIn wsX7_simulate (wsV RX7 284 RX3 yX3_set wsX3_set) := goodIn_app (goodIn_of _ (by decide +kernel)) ggX7_simulate_X3_set
set_option maxRecDepth 20000 in
theorem ggX7_simulate_X3_radiusAt : GoodIn wsX7_simulate wsX3_radiusAt := goodIn_r _ [32, 25, 26, 27, 33, 34, 12, 35, 36, 37, 38, 39, 40, 78, 79, 80, 81] (by decide +kernel) (by decide +kernel)
set_option maxRecDepth 20000 in
theorem gX7_simulate_X3_radiusAt : GoodIn wsX7_simulate (wsV RX7 159 RX3 yX3_radiusAt wsX3_radiusAt) := goodIn_app (goodIn_of _ (by decide +kernel)) ggX7_simulate_X3_radiusAt
set_option maxRecDepth 20000 in
theorem ggX7_simulate_X3_angleAt : GoodIn wsX7_simulate wsX3_angleAt := goodIn_r _ [44, 28, 36, 37, 38, 78, 79, 80, 81] (by decide +kernel) (by decide +kernel)
set_option maxRecDepth 20000 in
theorem gX7_simulate_X3_angleAt : GoodIn wsX7_simulate (wsV RX7 155 RX3 yX3_angleAt wsX3_angleAt) := goodIn_app (goodIn_of _ (by decide +kernel)) ggX7_simulate_X3_angleAt
set_option maxRecDepth 20000 in
theorem ggX7_simulate_X5_cut : GoodIn wsX7_simulate wsX5_cut := goodIn_r _ [48, 19, 77] (by decide +kernel) (by decide +kernel)
set_option maxRecDepth 20000 in
theorem gX7_simulate_X5_cut : GoodIn wsX7_simulate (wsV RX7 327 RX5 yX5_cut wsX5_cut) := goodIn_app (goodIn_of _ (by decide +kernel)) ggX7_simulate_X5_cut
set_option maxRecDepth 20000 in
theorem ggX7_simulate_X5_size : GoodIn wsX7_simulate wsX5_size := goodIn_r _ [52, 19, 53, 54, 55, 56, 57, 58, 59, 77] (by decide +kernel) (by decide +kernel)
set_option maxRecDepth 20000 in
theorem gX7_simulate_X5_size : GoodIn wsX7_simulate (wsV RX7 96 RX5 yX5_size wsX5_size) := goodIn_app (goodIn_of _ (by decide +kernel)) ggX7_simulate_X5_size
theorem dX7_simulate_0 : decode cX7_simulate 0 = .ok (.iload_n 3, 1) := by decide +kernel
theorem dX7_simulate_1 : decode cX7_simulate 1 = .ok (.iconst 1, 1) := by decide +kernel
theorem dX7_simulate_2 : decode cX7_simulate 2 = .ok (.if_icmp .lt 10, 3) := by decide +kernel
theorem dX7_simulate_5 : decode cX7_simulate 5 = .ok (.iload_n 3, 1) := by decide +kernel
theorem dX7_simulate_6 : decode cX7_simulate 6 = .ok (.sipush 200, 3) := by decide +kernel
theorem dX7_simulate_9 : decode cX7_simulate 9 = .ok (.if_icmp .le 14, 3) := by decide +kernel
theorem dX7_simulate_12 : decode cX7_simulate 12 = .ok (.new 45, 3) := by decide +kernel
theorem dX7_simulate_15 : decode cX7_simulate 15 = .ok (.dup, 1) := by decide +kernel
theorem dX7_simulate_16 : decode cX7_simulate 16 = .ok (.ldc_w 314, 3) := by decide +kernel
theorem dX7_simulate_19 : decode cX7_simulate 19 = .ok (.invokespecial 49, 3) := by decide +kernel
theorem dX7_simulate_22 : decode cX7_simulate 22 = .ok (.athrow, 1) := by decide +kernel
theorem dX7_simulate_23 : decode cX7_simulate 23 = .ok (.aload_n 0, 1) := by decide +kernel
theorem dX7_simulate_24 : decode cX7_simulate 24 = .ok (.getfield 41, 3) := by decide +kernel
theorem dX7_simulate_27 : decode cX7_simulate 27 = .ok (.getfield 280, 3) := by decide +kernel
theorem dX7_simulate_30 : decode cX7_simulate 30 = .ok (.astore 4, 2) := by decide +kernel
theorem dX7_simulate_32 : decode cX7_simulate 32 = .ok (.aload_n 0, 1) := by decide +kernel
theorem dX7_simulate_33 : decode cX7_simulate 33 = .ok (.getfield 41, 3) := by decide +kernel
theorem dX7_simulate_36 : decode cX7_simulate 36 = .ok (.getfield 316, 3) := by decide +kernel
theorem dX7_simulate_39 : decode cX7_simulate 39 = .ok (.invokevirtual 320, 3) := by decide +kernel
theorem dX7_simulate_42 : decode cX7_simulate 42 = .ok (.iconst 0, 1) := by decide +kernel
theorem dX7_simulate_43 : decode cX7_simulate 43 = .ok (.istore 5, 2) := by decide +kernel
theorem dX7_simulate_45 : decode cX7_simulate 45 = .ok (.lload_n 1, 1) := by decide +kernel
theorem dX7_simulate_46 : decode cX7_simulate 46 = .ok (.lstore 6, 2) := by decide +kernel
theorem dX7_simulate_48 : decode cX7_simulate 48 = .ok (.iconst 0, 1) := by decide +kernel
theorem dX7_simulate_49 : decode cX7_simulate 49 = .ok (.istore 8, 2) := by decide +kernel
theorem dX7_simulate_51 : decode cX7_simulate 51 = .ok (.iload 8, 2) := by decide +kernel
theorem dX7_simulate_53 : decode cX7_simulate 53 = .ok (.iload_n 3, 1) := by decide +kernel
theorem dX7_simulate_54 : decode cX7_simulate 54 = .ok (.if_icmp .ge 116, 3) := by decide +kernel
theorem dX7_simulate_57 : decode cX7_simulate 57 = .ok (.lload 6, 2) := by decide +kernel
theorem dX7_simulate_59 : decode cX7_simulate 59 = .ok (.ldc2_w 323, 3) := by decide +kernel
theorem dX7_simulate_62 : decode cX7_simulate 62 = .ok (.lmul, 1) := by decide +kernel
theorem dX7_simulate_63 : decode cX7_simulate 63 = .ok (.ldc2_w 325, 3) := by decide +kernel
theorem dX7_simulate_66 : decode cX7_simulate 66 = .ok (.ladd, 1) := by decide +kernel
theorem dX7_simulate_67 : decode cX7_simulate 67 = .ok (.lstore 6, 2) := by decide +kernel
theorem dX7_simulate_69 : decode cX7_simulate 69 = .ok (.lload 6, 2) := by decide +kernel
theorem dX7_simulate_71 : decode cX7_simulate 71 = .ok (.bipush 33, 2) := by decide +kernel
theorem dX7_simulate_73 : decode cX7_simulate 73 = .ok (.lushr, 1) := by decide +kernel
theorem dX7_simulate_74 : decode cX7_simulate 74 = .ok (.l2i, 1) := by decide +kernel
theorem dX7_simulate_75 : decode cX7_simulate 75 = .ok (.istore 9, 2) := by decide +kernel
theorem dX7_simulate_77 : decode cX7_simulate 77 = .ok (.aload 4, 2) := by decide +kernel
theorem dX7_simulate_79 : decode cX7_simulate 79 = .ok (.iconst 5, 1) := by decide +kernel
theorem dX7_simulate_80 : decode cX7_simulate 80 = .ok (.iload 9, 2) := by decide +kernel
theorem dX7_simulate_82 : decode cX7_simulate 82 = .ok (.bipush 56, 2) := by decide +kernel
theorem dX7_simulate_84 : decode cX7_simulate 84 = .ok (.irem, 1) := by decide +kernel
theorem dX7_simulate_85 : decode cX7_simulate 85 = .ok (.iadd, 1) := by decide +kernel
theorem dX7_simulate_86 : decode cX7_simulate 86 = .ok (.iload 9, 2) := by decide +kernel
theorem dX7_simulate_88 : decode cX7_simulate 88 = .ok (.bipush 64, 2) := by decide +kernel
theorem dX7_simulate_90 : decode cX7_simulate 90 = .ok (.idiv, 1) := by decide +kernel
theorem dX7_simulate_91 : decode cX7_simulate 91 = .ok (.iconst 2, 1) := by decide +kernel
theorem dX7_simulate_92 : decode cX7_simulate 92 = .ok (.irem, 1) := by decide +kernel
theorem dX7_simulate_93 : decode cX7_simulate 93 = .ok (.iload 9, 2) := by decide +kernel
theorem dX7_simulate_95 : decode cX7_simulate 95 = .ok (.sipush 128, 3) := by decide +kernel
theorem dX7_simulate_98 : decode cX7_simulate 98 = .ok (.idiv, 1) := by decide +kernel
theorem dX7_simulate_99 : decode cX7_simulate 99 = .ok (.bipush 21, 2) := by decide +kernel
theorem dX7_simulate_101 : decode cX7_simulate 101 = .ok (.irem, 1) := by decide +kernel
theorem dX7_simulate_102 : decode cX7_simulate 102 = .ok (.iconst 0, 1) := by decide +kernel
theorem dX7_simulate_103 : decode cX7_simulate 103 = .ok (.invokevirtual 284, 3) := by decide +kernel
theorem dX7_simulate_106 : decode cX7_simulate 106 = .ok (.iload 9, 2) := by decide +kernel
theorem dX7_simulate_108 : decode cX7_simulate 108 = .ok (.sipush 4096, 3) := by decide +kernel
theorem dX7_simulate_111 : decode cX7_simulate 111 = .ok (.idiv, 1) := by decide +kernel
theorem dX7_simulate_112 : decode cX7_simulate 112 = .ok (.sipush 1000, 3) := by decide +kernel
theorem dX7_simulate_115 : decode cX7_simulate 115 = .ok (.irem, 1) := by decide +kernel
theorem dX7_simulate_116 : decode cX7_simulate 116 = .ok (.istore 10, 2) := by decide +kernel
theorem dX7_simulate_118 : decode cX7_simulate 118 = .ok (.aload 4, 2) := by decide +kernel
theorem dX7_simulate_120 : decode cX7_simulate 120 = .ok (.iload 10, 2) := by decide +kernel
theorem dX7_simulate_122 : decode cX7_simulate 122 = .ok (.i2l, 1) := by decide +kernel
theorem dX7_simulate_123 : decode cX7_simulate 123 = .ok (.invokevirtual 159, 3) := by decide +kernel
theorem dX7_simulate_126 : decode cX7_simulate 126 = .ok (.istore 11, 2) := by decide +kernel
theorem dX7_simulate_128 : decode cX7_simulate 128 = .ok (.aload_n 0, 1) := by decide +kernel
theorem dX7_simulate_129 : decode cX7_simulate 129 = .ok (.getfield 41, 3) := by decide +kernel
theorem dX7_simulate_132 : decode cX7_simulate 132 = .ok (.getfield 316, 3) := by decide +kernel
theorem dX7_simulate_135 : decode cX7_simulate 135 = .ok (.aload 4, 2) := by decide +kernel
theorem dX7_simulate_137 : decode cX7_simulate 137 = .ok (.aload_n 0, 1) := by decide +kernel
theorem dX7_simulate_138 : decode cX7_simulate 138 = .ok (.getfield 16, 3) := by decide +kernel
theorem dX7_simulate_141 : decode cX7_simulate 141 = .ok (.getfield 86, 3) := by decide +kernel
theorem dX7_simulate_144 : decode cX7_simulate 144 = .ok (.iload 10, 2) := by decide +kernel
theorem dX7_simulate_146 : decode cX7_simulate 146 = .ok (.i2l, 1) := by decide +kernel
theorem dX7_simulate_147 : decode cX7_simulate 147 = .ok (.invokevirtual 155, 3) := by decide +kernel
theorem dX7_simulate_150 : decode cX7_simulate 150 = .ok (.iload 11, 2) := by decide +kernel
theorem dX7_simulate_152 : decode cX7_simulate 152 = .ok (.invokevirtual 327, 3) := by decide +kernel
theorem dX7_simulate_155 : decode cX7_simulate 155 = .ok (.iload 5, 2) := by decide +kernel
theorem dX7_simulate_157 : decode cX7_simulate 157 = .ok (.iload 11, 2) := by decide +kernel
theorem dX7_simulate_159 : decode cX7_simulate 159 = .ok (.invokestatic 330, 3) := by decide +kernel
theorem dX7_simulate_162 : decode cX7_simulate 162 = .ok (.istore 5, 2) := by decide +kernel
theorem dX7_simulate_164 : decode cX7_simulate 164 = .ok (.iinc 8 1, 3) := by decide +kernel
theorem dX7_simulate_167 : decode cX7_simulate 167 = .ok (.goto (-116), 3) := by decide +kernel
theorem dX7_simulate_170 : decode cX7_simulate 170 = .ok (.sipush 1000, 3) := by decide +kernel
theorem dX7_simulate_173 : decode cX7_simulate 173 = .ok (.aload_n 0, 1) := by decide +kernel
theorem dX7_simulate_174 : decode cX7_simulate 174 = .ok (.getfield 41, 3) := by decide +kernel
theorem dX7_simulate_177 : decode cX7_simulate 177 = .ok (.getfield 316, 3) := by decide +kernel
theorem dX7_simulate_180 : decode cX7_simulate 180 = .ok (.invokevirtual 96, 3) := by decide +kernel
theorem dX7_simulate_183 : decode cX7_simulate 183 = .ok (.imul, 1) := by decide +kernel
theorem dX7_simulate_184 : decode cX7_simulate 184 = .ok (.iload 5, 2) := by decide +kernel
theorem dX7_simulate_186 : decode cX7_simulate 186 = .ok (.iadd, 1) := by decide +kernel
theorem dX7_simulate_187 : decode cX7_simulate 187 = .ok (.ireturn, 1) := by decide +kernel
set_option maxRecDepth 20000 in
theorem ggX7_save_X7_slotPlate : GoodIn wsX7_save wsX7_slotPlate := goodIn_r _ [10, 11, 68, 69, 70, 71, 72, 73, 74, 75] (by decide +kernel) (by decide +kernel)
set_option maxRecDepth 20000 in
theorem gX7_save_X7_slotPlate : GoodIn wsX7_save (wsV RX7 335 RX7 yX7_slotPlate wsX7_slotPlate) := goodIn_app (goodIn_of _ (by decide +kernel)) ggX7_save_X7_slotPlate
set_option maxRecDepth 20000 in
theorem ggX7_save_X4_become : GoodIn wsX7_save wsX4_become := goodIn_r _ [16, 17, 18, 19, 20, 21, 22, 23, 24, 25, 26, 15, 27, 28, 29, 30, 31, 32, 33, 34, 35, 36, 37, 38, 39, 40, 41, 42, 43, 44, 45, 46, 47, 48, 49, 50, 51, 52, 53, 54, 55, 56, 57, 58, 59, 60, 61, 62, 63, 64, 65, 66, 67, 76, 77, 78, 79, 80, 81, 82, 83, 84, 85] (by decide +kernel) (by decide +kernel)
set_option maxRecDepth 20000 in
theorem gX7_save_X4_become : GoodIn wsX7_save (wsV RX7 67 RX4 yX4_become wsX4_become) := goodIn_app (goodIn_of _ (by decide +kernel)) ggX7_save_X4_become
theorem dX7_save_0 : decode cX7_save 0 = .ok (.aload_n 0, 1) := by decide +kernel
theorem dX7_save_1 : decode cX7_save 1 = .ok (.iload_n 1, 1) := by decide +kernel
theorem dX7_save_2 : decode cX7_save 2 = .ok (.invokevirtual 335, 3) := by decide +kernel
theorem dX7_save_5 : decode cX7_save 5 = .ok (.astore_n 2, 1) := by decide +kernel
theorem dX7_save_6 : decode cX7_save 6 = .ok (.aload_n 2, 1) := by decide +kernel
theorem dX7_save_7 : decode cX7_save 7 = .ok (.ifnull 16, 3) := by decide +kernel
theorem dX7_save_10 : decode cX7_save 10 = .ok (.iload_n 1, 1) := by decide +kernel
theorem dX7_save_11 : decode cX7_save 11 = .ok (.ifCond .lt 12, 3) := by decide +kernel
theorem dX7_save_14 : decode cX7_save 14 = .ok (.iload_n 1, 1) := by decide +kernel
theorem dX7_save_15 : decode cX7_save 15 = .ok (.aload_n 0, 1) := by decide +kernel
theorem dX7_save_16 : decode cX7_save 16 = .ok (.getfield 34, 3) := by decide +kernel
theorem dX7_save_19 : decode cX7_save 19 = .ok (.arraylength, 1) := by decide +kernel
theorem dX7_save_20 : decode cX7_save 20 = .ok (.if_icmp .lt 14, 3) := by decide +kernel
theorem dX7_save_23 : decode cX7_save 23 = .ok (.new 116, 3) := by decide +kernel
theorem dX7_save_26 : decode cX7_save 26 = .ok (.dup, 1) := by decide +kernel
theorem dX7_save_27 : decode cX7_save 27 = .ok (.ldc_w 339, 3) := by decide +kernel
theorem dX7_save_30 : decode cX7_save 30 = .ok (.invokespecial 120, 3) := by decide +kernel
theorem dX7_save_33 : decode cX7_save 33 = .ok (.athrow, 1) := by decide +kernel
theorem dX7_save_34 : decode cX7_save 34 = .ok (.aload_n 2, 1) := by decide +kernel
theorem dX7_save_35 : decode cX7_save 35 = .ok (.aload_n 0, 1) := by decide +kernel
theorem dX7_save_36 : decode cX7_save 36 = .ok (.getfield 16, 3) := by decide +kernel
theorem dX7_save_39 : decode cX7_save 39 = .ok (.invokevirtual 67, 3) := by decide +kernel
theorem dX7_save_42 : decode cX7_save 42 = .ok (.aload_n 0, 1) := by decide +kernel
theorem dX7_save_43 : decode cX7_save 43 = .ok (.getfield 34, 3) := by decide +kernel
theorem dX7_save_46 : decode cX7_save 46 = .ok (.iload_n 1, 1) := by decide +kernel
theorem dX7_save_47 : decode cX7_save 47 = .ok (.iconst 1, 1) := by decide +kernel
theorem dX7_save_48 : decode cX7_save 48 = .ok (.bastore, 1) := by decide +kernel
theorem dX7_save_49 : decode cX7_save 49 = .ok (.aload_n 0, 1) := by decide +kernel
theorem dX7_save_50 : decode cX7_save 50 = .ok (.getfield 16, 3) := by decide +kernel
theorem dX7_save_53 : decode cX7_save 53 = .ok (.getfield 74, 3) := by decide +kernel
theorem dX7_save_56 : decode cX7_save 56 = .ok (.ireturn, 1) := by decide +kernel
set_option maxRecDepth 20000 in
theorem ggX7_restore_X7_slotPlate : GoodIn wsX7_restore wsX7_slotPlate := goodIn_r _ [13, 14, 78, 79, 80, 81, 82, 83, 84, 85] (by decide +kernel) (by decide +kernel)
set_option maxRecDepth 20000 in
theorem gX7_restore_X7_slotPlate : GoodIn wsX7_restore (wsV RX7 335 RX7 yX7_slotPlate wsX7_slotPlate) := goodIn_app (goodIn_of _ (by decide +kernel)) ggX7_restore_X7_slotPlate
set_option maxRecDepth 20000 in
theorem ggX7_restore_X4_become : GoodIn wsX7_restore wsX4_become := goodIn_r _ [19, 20, 21, 22, 23, 24, 25, 26, 27, 28, 29, 18, 30, 31, 32, 33, 34, 35, 36, 37, 38, 39, 40, 41, 42, 43, 44, 45, 46, 47, 48, 49, 50, 51, 52, 53, 54, 55, 56, 57, 58, 59, 60, 61, 62, 63, 64, 65, 66, 67, 68, 69, 70, 86, 87, 88, 89, 90, 91, 92, 93, 94, 95] (by decide +kernel) (by decide +kernel)
set_option maxRecDepth 20000 in
theorem gX7_restore_X4_become : GoodIn wsX7_restore (wsV RX7 67 RX4 yX4_become wsX4_become) := goodIn_app (goodIn_of _ (by decide +kernel)) ggX7_restore_X4_become
set_option maxRecDepth 20000 in
theorem ggX7_restore_X2_forgetAll : GoodIn wsX7_restore wsX2_forgetAll := goodIn_r _ [75, 76, 77, 96, 97, 98] (by decide +kernel) (by decide +kernel)
set_option maxRecDepth 20000 in
theorem gX7_restore_X2_forgetAll : GoodIn wsX7_restore (wsV RX7 71 RX2 yX2_forgetAll wsX2_forgetAll) := goodIn_app (goodIn_of _ (by decide +kernel)) ggX7_restore_X2_forgetAll
theorem dX7_restore_0 : decode cX7_restore 0 = .ok (.aload_n 0, 1) := by decide +kernel
theorem dX7_restore_1 : decode cX7_restore 1 = .ok (.iload_n 1, 1) := by decide +kernel
theorem dX7_restore_2 : decode cX7_restore 2 = .ok (.invokevirtual 335, 3) := by decide +kernel
theorem dX7_restore_5 : decode cX7_restore 5 = .ok (.astore_n 2, 1) := by decide +kernel
theorem dX7_restore_6 : decode cX7_restore 6 = .ok (.aload_n 2, 1) := by decide +kernel
theorem dX7_restore_7 : decode cX7_restore 7 = .ok (.ifnull 16, 3) := by decide +kernel
theorem dX7_restore_10 : decode cX7_restore 10 = .ok (.iload_n 1, 1) := by decide +kernel
theorem dX7_restore_11 : decode cX7_restore 11 = .ok (.ifCond .lt 12, 3) := by decide +kernel
theorem dX7_restore_14 : decode cX7_restore 14 = .ok (.iload_n 1, 1) := by decide +kernel
theorem dX7_restore_15 : decode cX7_restore 15 = .ok (.aload_n 0, 1) := by decide +kernel
theorem dX7_restore_16 : decode cX7_restore 16 = .ok (.getfield 34, 3) := by decide +kernel
theorem dX7_restore_19 : decode cX7_restore 19 = .ok (.arraylength, 1) := by decide +kernel
theorem dX7_restore_20 : decode cX7_restore 20 = .ok (.if_icmp .lt 14, 3) := by decide +kernel
theorem dX7_restore_23 : decode cX7_restore 23 = .ok (.new 116, 3) := by decide +kernel
theorem dX7_restore_26 : decode cX7_restore 26 = .ok (.dup, 1) := by decide +kernel
theorem dX7_restore_27 : decode cX7_restore 27 = .ok (.ldc_w 339, 3) := by decide +kernel
theorem dX7_restore_30 : decode cX7_restore 30 = .ok (.invokespecial 120, 3) := by decide +kernel
theorem dX7_restore_33 : decode cX7_restore 33 = .ok (.athrow, 1) := by decide +kernel
theorem dX7_restore_34 : decode cX7_restore 34 = .ok (.aload_n 0, 1) := by decide +kernel
theorem dX7_restore_35 : decode cX7_restore 35 = .ok (.getfield 34, 3) := by decide +kernel
theorem dX7_restore_38 : decode cX7_restore 38 = .ok (.iload_n 1, 1) := by decide +kernel
theorem dX7_restore_39 : decode cX7_restore 39 = .ok (.baload, 1) := by decide +kernel
theorem dX7_restore_40 : decode cX7_restore 40 = .ok (.ifCond .ne 14, 3) := by decide +kernel
theorem dX7_restore_43 : decode cX7_restore 43 = .ok (.new 56, 3) := by decide +kernel
theorem dX7_restore_46 : decode cX7_restore 46 = .ok (.dup, 1) := by decide +kernel
theorem dX7_restore_47 : decode cX7_restore 47 = .ok (.ldc_w 341, 3) := by decide +kernel
theorem dX7_restore_50 : decode cX7_restore 50 = .ok (.invokespecial 60, 3) := by decide +kernel
theorem dX7_restore_53 : decode cX7_restore 53 = .ok (.athrow, 1) := by decide +kernel
theorem dX7_restore_54 : decode cX7_restore 54 = .ok (.aload_n 0, 1) := by decide +kernel
theorem dX7_restore_55 : decode cX7_restore 55 = .ok (.getfield 16, 3) := by decide +kernel
theorem dX7_restore_58 : decode cX7_restore 58 = .ok (.aload_n 2, 1) := by decide +kernel
theorem dX7_restore_59 : decode cX7_restore 59 = .ok (.invokevirtual 67, 3) := by decide +kernel
theorem dX7_restore_62 : decode cX7_restore 62 = .ok (.aload_n 0, 1) := by decide +kernel
theorem dX7_restore_63 : decode cX7_restore 63 = .ok (.getfield 26, 3) := by decide +kernel
theorem dX7_restore_66 : decode cX7_restore 66 = .ok (.invokevirtual 71, 3) := by decide +kernel
theorem dX7_restore_69 : decode cX7_restore 69 = .ok (.aload_n 0, 1) := by decide +kernel
theorem dX7_restore_70 : decode cX7_restore 70 = .ok (.getfield 16, 3) := by decide +kernel
theorem dX7_restore_73 : decode cX7_restore 73 = .ok (.getfield 74, 3) := by decide +kernel
theorem dX7_restore_76 : decode cX7_restore 76 = .ok (.ireturn, 1) := by decide +kernel
theorem dX7_slotPlate_0 : decode cX7_slotPlate 0 = .ok (.iload_n 1, 1) := by decide +kernel
theorem dX7_slotPlate_1 : decode cX7_slotPlate 1 = .ok (.ifCond .lt 21, 3) := by decide +kernel
theorem dX7_slotPlate_4 : decode cX7_slotPlate 4 = .ok (.iload_n 1, 1) := by decide +kernel
theorem dX7_slotPlate_5 : decode cX7_slotPlate 5 = .ok (.aload_n 0, 1) := by decide +kernel
theorem dX7_slotPlate_6 : decode cX7_slotPlate 6 = .ok (.getfield 30, 3) := by decide +kernel
theorem dX7_slotPlate_9 : decode cX7_slotPlate 9 = .ok (.arraylength, 1) := by decide +kernel
theorem dX7_slotPlate_10 : decode cX7_slotPlate 10 = .ok (.if_icmp .ge 12, 3) := by decide +kernel
theorem dX7_slotPlate_13 : decode cX7_slotPlate 13 = .ok (.aload_n 0, 1) := by decide +kernel
theorem dX7_slotPlate_14 : decode cX7_slotPlate 14 = .ok (.getfield 30, 3) := by decide +kernel
theorem dX7_slotPlate_17 : decode cX7_slotPlate 17 = .ok (.iload_n 1, 1) := by decide +kernel
theorem dX7_slotPlate_18 : decode cX7_slotPlate 18 = .ok (.aaload, 1) := by decide +kernel
theorem dX7_slotPlate_19 : decode cX7_slotPlate 19 = .ok (.goto 4, 3) := by decide +kernel
theorem dX7_slotPlate_22 : decode cX7_slotPlate 22 = .ok (.aconst_null, 1) := by decide +kernel
theorem dX7_slotPlate_23 : decode cX7_slotPlate 23 = .ok (.areturn, 1) := by decide +kernel
theorem dX7_isRing_0 : decode cX7_isRing 0 = .ok (.iload_n 0, 1) := by decide +kernel
theorem dX7_isRing_1 : decode cX7_isRing 1 = .ok (.bipush 12, 2) := by decide +kernel
theorem dX7_isRing_3 : decode cX7_isRing 3 = .ok (.if_icmp .lt 13, 3) := by decide +kernel
theorem dX7_isRing_6 : decode cX7_isRing 6 = .ok (.iload_n 0, 1) := by decide +kernel
theorem dX7_isRing_7 : decode cX7_isRing 7 = .ok (.bipush 96, 2) := by decide +kernel
theorem dX7_isRing_9 : decode cX7_isRing 9 = .ok (.if_icmp .gt 7, 3) := by decide +kernel
theorem dX7_isRing_12 : decode cX7_isRing 12 = .ok (.iconst 1, 1) := by decide +kernel
theorem dX7_isRing_13 : decode cX7_isRing 13 = .ok (.goto 4, 3) := by decide +kernel
theorem dX7_isRing_16 : decode cX7_isRing 16 = .ok (.iconst 0, 1) := by decide +kernel
theorem dX7_isRing_17 : decode cX7_isRing 17 = .ok (.ireturn, 1) := by decide +kernel
theorem dX7_isWheel_0 : decode cX7_isWheel 0 = .ok (.iload_n 0, 1) := by decide +kernel
theorem dX7_isWheel_1 : decode cX7_isWheel 1 = .ok (.iconst 5, 1) := by decide +kernel
theorem dX7_isWheel_2 : decode cX7_isWheel 2 = .ok (.if_icmp .lt 13, 3) := by decide +kernel
theorem dX7_isWheel_5 : decode cX7_isWheel 5 = .ok (.iload_n 0, 1) := by decide +kernel
theorem dX7_isWheel_6 : decode cX7_isWheel 6 = .ok (.bipush 60, 2) := by decide +kernel
theorem dX7_isWheel_8 : decode cX7_isWheel 8 = .ok (.if_icmp .gt 7, 3) := by decide +kernel
theorem dX7_isWheel_11 : decode cX7_isWheel 11 = .ok (.iconst 1, 1) := by decide +kernel
theorem dX7_isWheel_12 : decode cX7_isWheel 12 = .ok (.goto 4, 3) := by decide +kernel
theorem dX7_isWheel_15 : decode cX7_isWheel 15 = .ok (.iconst 0, 1) := by decide +kernel
theorem dX7_isWheel_16 : decode cX7_isWheel 16 = .ok (.ireturn, 1) := by decide +kernel
theorem dX7_isSide_0 : decode cX7_isSide 0 = .ok (.iload_n 0, 1) := by decide +kernel
theorem dX7_isSide_1 : decode cX7_isSide 1 = .ok (.ifCond .eq 8, 3) := by decide +kernel
theorem dX7_isSide_4 : decode cX7_isSide 4 = .ok (.iload_n 0, 1) := by decide +kernel
theorem dX7_isSide_5 : decode cX7_isSide 5 = .ok (.iconst 1, 1) := by decide +kernel
theorem dX7_isSide_6 : decode cX7_isSide 6 = .ok (.if_icmp .ne 7, 3) := by decide +kernel
theorem dX7_isSide_9 : decode cX7_isSide 9 = .ok (.iconst 1, 1) := by decide +kernel
theorem dX7_isSide_10 : decode cX7_isSide 10 = .ok (.goto 4, 3) := by decide +kernel
theorem dX7_isSide_13 : decode cX7_isSide 13 = .ok (.iconst 0, 1) := by decide +kernel
theorem dX7_isSide_14 : decode cX7_isSide 14 = .ok (.ireturn, 1) := by decide +kernel
theorem dX7_isHole_0 : decode cX7_isHole 0 = .ok (.iload_n 0, 1) := by decide +kernel
theorem dX7_isHole_1 : decode cX7_isHole 1 = .ok (.ifCond .lt 13, 3) := by decide +kernel
theorem dX7_isHole_4 : decode cX7_isHole 4 = .ok (.iload_n 0, 1) := by decide +kernel
theorem dX7_isHole_5 : decode cX7_isHole 5 = .ok (.bipush 20, 2) := by decide +kernel
theorem dX7_isHole_7 : decode cX7_isHole 7 = .ok (.if_icmp .gt 7, 3) := by decide +kernel
theorem dX7_isHole_10 : decode cX7_isHole 10 = .ok (.iconst 1, 1) := by decide +kernel
theorem dX7_isHole_11 : decode cX7_isHole 11 = .ok (.goto 4, 3) := by decide +kernel
theorem dX7_isHole_14 : decode cX7_isHole 14 = .ok (.iconst 0, 1) := by decide +kernel
theorem dX7_isHole_15 : decode cX7_isHole 15 = .ok (.ireturn, 1) := by decide +kernel
theorem dX7_isRadius_0 : decode cX7_isRadius 0 = .ok (.iload_n 0, 1) := by decide +kernel
theorem dX7_isRadius_1 : decode cX7_isRadius 1 = .ok (.ifCond .lt 14, 3) := by decide +kernel
theorem dX7_isRadius_4 : decode cX7_isRadius 4 = .ok (.iload_n 0, 1) := by decide +kernel
theorem dX7_isRadius_5 : decode cX7_isRadius 5 = .ok (.sipush 300, 3) := by decide +kernel
theorem dX7_isRadius_8 : decode cX7_isRadius 8 = .ok (.if_icmp .gt 7, 3) := by decide +kernel
theorem dX7_isRadius_11 : decode cX7_isRadius 11 = .ok (.iconst 1, 1) := by decide +kernel
theorem dX7_isRadius_12 : decode cX7_isRadius 12 = .ok (.goto 4, 3) := by decide +kernel
theorem dX7_isRadius_15 : decode cX7_isRadius 15 = .ok (.iconst 0, 1) := by decide +kernel
theorem dX7_isRadius_16 : decode cX7_isRadius 16 = .ok (.ireturn, 1) := by decide +kernel
theorem dX7_quotient_0 : decode cX7_quotient 0 = .ok (.lload_n 2, 1) := by decide +kernel
theorem dX7_quotient_1 : decode cX7_quotient 1 = .ok (.lconst 0, 1) := by decide +kernel
theorem dX7_quotient_2 : decode cX7_quotient 2 = .ok (.lcmp, 1) := by decide +kernel
theorem dX7_quotient_3 : decode cX7_quotient 3 = .ok (.ifCond .le 9, 3) := by decide +kernel
theorem dX7_quotient_6 : decode cX7_quotient 6 = .ok (.lload_n 0, 1) := by decide +kernel
theorem dX7_quotient_7 : decode cX7_quotient 7 = .ok (.lload_n 2, 1) := by decide +kernel
theorem dX7_quotient_8 : decode cX7_quotient 8 = .ok (.ldiv, 1) := by decide +kernel
theorem dX7_quotient_9 : decode cX7_quotient 9 = .ok (.goto 4, 3) := by decide +kernel
theorem dX7_quotient_12 : decode cX7_quotient 12 = .ok (.lconst 0, 1) := by decide +kernel
theorem dX7_quotient_13 : decode cX7_quotient 13 = .ok (.lreturn, 1) := by decide +kernel
theorem dX7_remainder_0 : decode cX7_remainder 0 = .ok (.iload_n 2, 1) := by decide +kernel
theorem dX7_remainder_1 : decode cX7_remainder 1 = .ok (.ifCond .le 11, 3) := by decide +kernel
theorem dX7_remainder_4 : decode cX7_remainder 4 = .ok (.lload_n 0, 1) := by decide +kernel
theorem dX7_remainder_5 : decode cX7_remainder 5 = .ok (.iload_n 2, 1) := by decide +kernel
theorem dX7_remainder_6 : decode cX7_remainder 6 = .ok (.i2l, 1) := by decide +kernel
theorem dX7_remainder_7 : decode cX7_remainder 7 = .ok (.lrem, 1) := by decide +kernel
theorem dX7_remainder_8 : decode cX7_remainder 8 = .ok (.l2i, 1) := by decide +kernel
theorem dX7_remainder_9 : decode cX7_remainder 9 = .ok (.goto 4, 3) := by decide +kernel
theorem dX7_remainder_12 : decode cX7_remainder 12 = .ok (.iconst 0, 1) := by decide +kernel
theorem dX7_remainder_13 : decode cX7_remainder 13 = .ok (.ireturn, 1) := by decide +kernel
theorem dX7_commonDivisor_0 : decode cX7_commonDivisor 0 = .ok (.lload_n 0, 1) := by decide +kernel
theorem dX7_commonDivisor_1 : decode cX7_commonDivisor 1 = .ok (.lstore 4, 2) := by decide +kernel
theorem dX7_commonDivisor_3 : decode cX7_commonDivisor 3 = .ok (.lload_n 2, 1) := by decide +kernel
theorem dX7_commonDivisor_4 : decode cX7_commonDivisor 4 = .ok (.lstore 6, 2) := by decide +kernel
theorem dX7_commonDivisor_6 : decode cX7_commonDivisor 6 = .ok (.iconst 0, 1) := by decide +kernel
theorem dX7_commonDivisor_7 : decode cX7_commonDivisor 7 = .ok (.istore 8, 2) := by decide +kernel
theorem dX7_commonDivisor_9 : decode cX7_commonDivisor 9 = .ok (.iload 8, 2) := by decide +kernel
theorem dX7_commonDivisor_11 : decode cX7_commonDivisor 11 = .ok (.bipush 100, 2) := by decide +kernel
theorem dX7_commonDivisor_13 : decode cX7_commonDivisor 13 = .ok (.if_icmp .ge 31, 3) := by decide +kernel
theorem dX7_commonDivisor_16 : decode cX7_commonDivisor 16 = .ok (.lload 6, 2) := by decide +kernel
theorem dX7_commonDivisor_18 : decode cX7_commonDivisor 18 = .ok (.lconst 0, 1) := by decide +kernel
theorem dX7_commonDivisor_19 : decode cX7_commonDivisor 19 = .ok (.lcmp, 1) := by decide +kernel
theorem dX7_commonDivisor_20 : decode cX7_commonDivisor 20 = .ok (.ifCond .le 24, 3) := by decide +kernel
theorem dX7_commonDivisor_23 : decode cX7_commonDivisor 23 = .ok (.lload 4, 2) := by decide +kernel
theorem dX7_commonDivisor_25 : decode cX7_commonDivisor 25 = .ok (.lload 6, 2) := by decide +kernel
theorem dX7_commonDivisor_27 : decode cX7_commonDivisor 27 = .ok (.lrem, 1) := by decide +kernel
theorem dX7_commonDivisor_28 : decode cX7_commonDivisor 28 = .ok (.lstore 9, 2) := by decide +kernel
theorem dX7_commonDivisor_30 : decode cX7_commonDivisor 30 = .ok (.lload 6, 2) := by decide +kernel
theorem dX7_commonDivisor_32 : decode cX7_commonDivisor 32 = .ok (.lstore 4, 2) := by decide +kernel
theorem dX7_commonDivisor_34 : decode cX7_commonDivisor 34 = .ok (.lload 9, 2) := by decide +kernel
theorem dX7_commonDivisor_36 : decode cX7_commonDivisor 36 = .ok (.lstore 6, 2) := by decide +kernel
theorem dX7_commonDivisor_38 : decode cX7_commonDivisor 38 = .ok (.iinc 8 1, 3) := by decide +kernel
theorem dX7_commonDivisor_41 : decode cX7_commonDivisor 41 = .ok (.goto (-32), 3) := by decide +kernel
theorem dX7_commonDivisor_44 : decode cX7_commonDivisor 44 = .ok (.lload 4, 2) := by decide +kernel
theorem dX7_commonDivisor_46 : decode cX7_commonDivisor 46 = .ok (.lreturn, 1) := by decide +kernel
set_option maxRecDepth 20000 in
theorem ggX7_commonMultiple_X7_commonDivisor : GoodIn wsX7_commonMultiple wsX7_commonDivisor := goodIn_r _ [4] (by decide +kernel) (by decide +kernel)
set_option maxRecDepth 20000 in
theorem gX7_commonMultiple_X7_commonDivisor : GoodIn wsX7_commonMultiple (va_wsS RX7 343 yX7_commonDivisor wsX7_commonDivisor) := goodIn_app (goodIn_of _ (by decide +kernel)) ggX7_commonMultiple_X7_commonDivisor
set_option maxRecDepth 20000 in
theorem ggX7_commonMultiple_X7_quotient : GoodIn wsX7_commonMultiple wsX7_quotient := goodIn_r _ [7] (by decide +kernel) (by decide +kernel)
set_option maxRecDepth 20000 in
theorem gX7_commonMultiple_X7_quotient : GoodIn wsX7_commonMultiple (va_wsS RX7 301 yX7_quotient wsX7_quotient) := goodIn_app (goodIn_of _ (by decide +kernel)) ggX7_commonMultiple_X7_quotient
theorem dX7_commonMultiple_0 : decode cX7_commonMultiple 0 = .ok (.lload_n 0, 1) := by decide +kernel
theorem dX7_commonMultiple_1 : decode cX7_commonMultiple 1 = .ok (.lload_n 0, 1) := by decide +kernel
theorem dX7_commonMultiple_2 : decode cX7_commonMultiple 2 = .ok (.lload_n 2, 1) := by decide +kernel
theorem dX7_commonMultiple_3 : decode cX7_commonMultiple 3 = .ok (.invokestatic 343, 3) := by decide +kernel
theorem dX7_commonMultiple_6 : decode cX7_commonMultiple 6 = .ok (.invokestatic 301, 3) := by decide +kernel
theorem dX7_commonMultiple_9 : decode cX7_commonMultiple 9 = .ok (.lload_n 2, 1) := by decide +kernel
theorem dX7_commonMultiple_10 : decode cX7_commonMultiple 10 = .ok (.lmul, 1) := by decide +kernel
theorem dX7_commonMultiple_11 : decode cX7_commonMultiple 11 = .ok (.lreturn, 1) := by decide +kernel
theorem dX8_init_0 : decode cX8_init 0 = .ok (.aload_n 0, 1) := by decide +kernel
theorem dX8_init_1 : decode cX8_init 1 = .ok (.invokespecial 1, 3) := by decide +kernel
theorem dX8_init_4 : decode cX8_init 4 = .ok (.aload_n 0, 1) := by decide +kernel
theorem dX8_init_5 : decode cX8_init 5 = .ok (.bipush 42, 2) := by decide +kernel
theorem dX8_init_7 : decode cX8_init 7 = .ok (.newarray .int, 2) := by decide +kernel
theorem dX8_init_9 : decode cX8_init 9 = .ok (.putfield 7, 3) := by decide +kernel
theorem dX8_init_12 : decode cX8_init 12 = .ok (.aload_n 0, 1) := by decide +kernel
theorem dX8_init_13 : decode cX8_init 13 = .ok (.sipush 28896, 3) := by decide +kernel
theorem dX8_init_16 : decode cX8_init 16 = .ok (.newarray .int, 2) := by decide +kernel
theorem dX8_init_18 : decode cX8_init 18 = .ok (.putfield 13, 3) := by decide +kernel
theorem dX8_init_21 : decode cX8_init 21 = .ok (.aload_n 0, 1) := by decide +kernel
theorem dX8_init_22 : decode cX8_init 22 = .ok (.bipush 100, 2) := by decide +kernel
theorem dX8_init_24 : decode cX8_init 24 = .ok (.newarray .int, 2) := by decide +kernel
theorem dX8_init_26 : decode cX8_init 26 = .ok (.putfield 16, 3) := by decide +kernel
theorem dX8_init_29 : decode cX8_init 29 = .ok (.aload_n 0, 1) := by decide +kernel
theorem dX8_init_30 : decode cX8_init 30 = .ok (.bipush 42, 2) := by decide +kernel
theorem dX8_init_32 : decode cX8_init 32 = .ok (.newarray .int, 2) := by decide +kernel
theorem dX8_init_34 : decode cX8_init 34 = .ok (.putfield 19, 3) := by decide +kernel
theorem dX8_init_37 : decode cX8_init 37 = .ok (.aload_n 0, 1) := by decide +kernel
theorem dX8_init_38 : decode cX8_init 38 = .ok (.sipush 602, 3) := by decide +kernel
theorem dX8_init_41 : decode cX8_init 41 = .ok (.newarray .int, 2) := by decide +kernel
theorem dX8_init_43 : decode cX8_init 43 = .ok (.putfield 22, 3) := by decide +kernel
theorem dX8_init_46 : decode cX8_init 46 = .ok (.aload_n 0, 1) := by decide +kernel
theorem dX8_init_47 : decode cX8_init 47 = .ok (.bipush 43, 2) := by decide +kernel
theorem dX8_init_49 : decode cX8_init 49 = .ok (.newarray .int, 2) := by decide +kernel
theorem dX8_init_51 : decode cX8_init 51 = .ok (.putfield 25, 3) := by decide +kernel
theorem dX8_init_54 : decode cX8_init 54 = .ok (.aload_n 0, 1) := by decide +kernel
theorem dX8_init_55 : decode cX8_init 55 = .ok (.bipush 86, 2) := by decide +kernel
theorem dX8_init_57 : decode cX8_init 57 = .ok (.newarray .int, 2) := by decide +kernel
theorem dX8_init_59 : decode cX8_init 59 = .ok (.putfield 28, 3) := by decide +kernel
theorem dX8_init_62 : decode cX8_init 62 = .ok (.aload_n 0, 1) := by decide +kernel
theorem dX8_init_63 : decode cX8_init 63 = .ok (.getfield 7, 3) := by decide +kernel
theorem dX8_init_66 : decode cX8_init 66 = .ok (.iconst 0, 1) := by decide +kernel
theorem dX8_init_67 : decode cX8_init 67 = .ok (.bipush 24, 2) := by decide +kernel
theorem dX8_init_69 : decode cX8_init 69 = .ok (.iastore, 1) := by decide +kernel
theorem dX8_init_70 : decode cX8_init 70 = .ok (.return_, 1) := by decide +kernel
theorem dX8_thrown_0 : decode cX8_thrown 0 = .ok (.aload_n 0, 1) := by decide +kernel
theorem dX8_thrown_1 : decode cX8_thrown 1 = .ok (.getfield 31, 3) := by decide +kernel
theorem dX8_thrown_4 : decode cX8_thrown 4 = .ok (.ireturn, 1) := by decide +kernel
theorem dX8_refused_0 : decode cX8_refused 0 = .ok (.aload_n 0, 1) := by decide +kernel
theorem dX8_refused_1 : decode cX8_refused 1 = .ok (.iload_n 1, 1) := by decide +kernel
theorem dX8_refused_2 : decode cX8_refused 2 = .ok (.putfield 31, 3) := by decide +kernel
theorem dX8_refused_5 : decode cX8_refused 5 = .ok (.iconst 0, 1) := by decide +kernel
theorem dX8_refused_6 : decode cX8_refused 6 = .ok (.ireturn, 1) := by decide +kernel
theorem dX8_in_0 : decode cX8_in 0 = .ok (.lload_n 0, 1) := by decide +kernel
theorem dX8_in_1 : decode cX8_in 1 = .ok (.lload_n 2, 1) := by decide +kernel
theorem dX8_in_2 : decode cX8_in 2 = .ok (.lcmp, 1) := by decide +kernel
theorem dX8_in_3 : decode cX8_in 3 = .ok (.ifCond .lt 14, 3) := by decide +kernel
theorem dX8_in_6 : decode cX8_in 6 = .ok (.lload_n 0, 1) := by decide +kernel
theorem dX8_in_7 : decode cX8_in 7 = .ok (.lload 4, 2) := by decide +kernel
theorem dX8_in_9 : decode cX8_in 9 = .ok (.lcmp, 1) := by decide +kernel
theorem dX8_in_10 : decode cX8_in 10 = .ok (.ifCond .gt 7, 3) := by decide +kernel
theorem dX8_in_13 : decode cX8_in 13 = .ok (.iconst 1, 1) := by decide +kernel
theorem dX8_in_14 : decode cX8_in 14 = .ok (.goto 4, 3) := by decide +kernel
theorem dX8_in_17 : decode cX8_in 17 = .ok (.iconst 0, 1) := by decide +kernel
theorem dX8_in_18 : decode cX8_in 18 = .ok (.ireturn, 1) := by decide +kernel
theorem dX8_divisor_0 : decode cX8_divisor 0 = .ok (.iload_n 0, 1) := by decide +kernel
theorem dX8_divisor_1 : decode cX8_divisor 1 = .ok (.istore_n 2, 1) := by decide +kernel
theorem dX8_divisor_2 : decode cX8_divisor 2 = .ok (.iload_n 1, 1) := by decide +kernel
theorem dX8_divisor_3 : decode cX8_divisor 3 = .ok (.istore_n 3, 1) := by decide +kernel
theorem dX8_divisor_4 : decode cX8_divisor 4 = .ok (.iload_n 3, 1) := by decide +kernel
theorem dX8_divisor_5 : decode cX8_divisor 5 = .ok (.ifCond .eq 16, 3) := by decide +kernel
theorem dX8_divisor_8 : decode cX8_divisor 8 = .ok (.iload_n 2, 1) := by decide +kernel
theorem dX8_divisor_9 : decode cX8_divisor 9 = .ok (.iload_n 3, 1) := by decide +kernel
theorem dX8_divisor_10 : decode cX8_divisor 10 = .ok (.irem, 1) := by decide +kernel
theorem dX8_divisor_11 : decode cX8_divisor 11 = .ok (.istore 4, 2) := by decide +kernel
theorem dX8_divisor_13 : decode cX8_divisor 13 = .ok (.iload_n 3, 1) := by decide +kernel
theorem dX8_divisor_14 : decode cX8_divisor 14 = .ok (.istore_n 2, 1) := by decide +kernel
theorem dX8_divisor_15 : decode cX8_divisor 15 = .ok (.iload 4, 2) := by decide +kernel
theorem dX8_divisor_17 : decode cX8_divisor 17 = .ok (.istore_n 3, 1) := by decide +kernel
theorem dX8_divisor_18 : decode cX8_divisor 18 = .ok (.goto (-14), 3) := by decide +kernel
theorem dX8_divisor_21 : decode cX8_divisor 21 = .ok (.iload_n 2, 1) := by decide +kernel
theorem dX8_divisor_22 : decode cX8_divisor 22 = .ok (.ireturn, 1) := by decide +kernel
set_option maxRecDepth 20000 in
theorem ggX8_isLayer_X8_in : GoodIn wsX8_isLayer wsX8_in := goodIn_r _ [5] (by decide +kernel) (by decide +kernel)
set_option maxRecDepth 20000 in
theorem gX8_isLayer_X8_in : GoodIn wsX8_isLayer (va_wsS RX8 38 yX8_in wsX8_in) := goodIn_app (goodIn_of _ (by decide +kernel)) ggX8_isLayer_X8_in
theorem dX8_isLayer_0 : decode cX8_isLayer 0 = .ok (.iload_n 1, 1) := by decide +kernel
theorem dX8_isLayer_1 : decode cX8_isLayer 1 = .ok (.i2l, 1) := by decide +kernel
theorem dX8_isLayer_2 : decode cX8_isLayer 2 = .ok (.lconst 0, 1) := by decide +kernel
theorem dX8_isLayer_3 : decode cX8_isLayer 3 = .ok (.aload_n 0, 1) := by decide +kernel
theorem dX8_isLayer_4 : decode cX8_isLayer 4 = .ok (.getfield 35, 3) := by decide +kernel
theorem dX8_isLayer_7 : decode cX8_isLayer 7 = .ok (.iconst 1, 1) := by decide +kernel
theorem dX8_isLayer_8 : decode cX8_isLayer 8 = .ok (.isub, 1) := by decide +kernel
theorem dX8_isLayer_9 : decode cX8_isLayer 9 = .ok (.i2l, 1) := by decide +kernel
theorem dX8_isLayer_10 : decode cX8_isLayer 10 = .ok (.invokestatic 38, 3) := by decide +kernel
theorem dX8_isLayer_13 : decode cX8_isLayer 13 = .ok (.ireturn, 1) := by decide +kernel
theorem dX8_wheel_0 : decode cX8_wheel 0 = .ok (.aload_n 0, 1) := by decide +kernel
theorem dX8_wheel_1 : decode cX8_wheel 1 = .ok (.getfield 7, 3) := by decide +kernel
theorem dX8_wheel_4 : decode cX8_wheel 4 = .ok (.iconst 4, 1) := by decide +kernel
theorem dX8_wheel_5 : decode cX8_wheel 5 = .ok (.iload_n 1, 1) := by decide +kernel
theorem dX8_wheel_6 : decode cX8_wheel 6 = .ok (.imul, 1) := by decide +kernel
theorem dX8_wheel_7 : decode cX8_wheel 7 = .ok (.iconst 1, 1) := by decide +kernel
theorem dX8_wheel_8 : decode cX8_wheel 8 = .ok (.iadd, 1) := by decide +kernel
theorem dX8_wheel_9 : decode cX8_wheel 9 = .ok (.iaload, 1) := by decide +kernel
theorem dX8_wheel_10 : decode cX8_wheel 10 = .ok (.ireturn, 1) := by decide +kernel
theorem dX8_start_0 : decode cX8_start 0 = .ok (.aload_n 0, 1) := by decide +kernel
theorem dX8_start_1 : decode cX8_start 1 = .ok (.getfield 7, 3) := by decide +kernel
theorem dX8_start_4 : decode cX8_start 4 = .ok (.iconst 4, 1) := by decide +kernel
theorem dX8_start_5 : decode cX8_start 5 = .ok (.iload_n 1, 1) := by decide +kernel
theorem dX8_start_6 : decode cX8_start 6 = .ok (.imul, 1) := by decide +kernel
theorem dX8_start_7 : decode cX8_start 7 = .ok (.iconst 4, 1) := by decide +kernel
theorem dX8_start_8 : decode cX8_start 8 = .ok (.iadd, 1) := by decide +kernel
theorem dX8_start_9 : decode cX8_start 9 = .ok (.iaload, 1) := by decide +kernel
theorem dX8_start_10 : decode cX8_start 10 = .ok (.ireturn, 1) := by decide +kernel
set_option maxRecDepth 20000 in
theorem ggX8_period_X8_wheel : GoodIn wsX8_period wsX8_wheel := goodIn_r _ [6, 1, 10, 11, 12, 13, 14, 15, 16, 17, 18, 19, 20, 21, 22, 23, 24, 25, 26] (by decide +kernel) (by decide +kernel)
set_option maxRecDepth 20000 in
theorem gX8_period_X8_wheel : GoodIn wsX8_period (wsV RX8 42 RX8 yX8_wheel wsX8_wheel) := goodIn_app (goodIn_of _ (by decide +kernel)) ggX8_period_X8_wheel
set_option maxRecDepth 20000 in
theorem ggX8_period_X8_divisor : GoodIn wsX8_period wsX8_divisor := goodIn_r _ [9] (by decide +kernel) (by decide +kernel)
set_option maxRecDepth 20000 in
theorem gX8_period_X8_divisor : GoodIn wsX8_period (va_wsS RX8 46 yX8_divisor wsX8_divisor) := goodIn_app (goodIn_of _ (by decide +kernel)) ggX8_period_X8_divisor
theorem dX8_period_0 : decode cX8_period 0 = .ok (.aload_n 0, 1) := by decide +kernel
theorem dX8_period_1 : decode cX8_period 1 = .ok (.getfield 7, 3) := by decide +kernel
theorem dX8_period_4 : decode cX8_period 4 = .ok (.iconst 0, 1) := by decide +kernel
theorem dX8_period_5 : decode cX8_period 5 = .ok (.iaload, 1) := by decide +kernel
theorem dX8_period_6 : decode cX8_period 6 = .ok (.aload_n 0, 1) := by decide +kernel
theorem dX8_period_7 : decode cX8_period 7 = .ok (.getfield 7, 3) := by decide +kernel
theorem dX8_period_10 : decode cX8_period 10 = .ok (.iconst 0, 1) := by decide +kernel
theorem dX8_period_11 : decode cX8_period 11 = .ok (.iaload, 1) := by decide +kernel
theorem dX8_period_12 : decode cX8_period 12 = .ok (.aload_n 0, 1) := by decide +kernel
theorem dX8_period_13 : decode cX8_period 13 = .ok (.iload_n 1, 1) := by decide +kernel
theorem dX8_period_14 : decode cX8_period 14 = .ok (.invokevirtual 42, 3) := by decide +kernel
theorem dX8_period_17 : decode cX8_period 17 = .ok (.invokestatic 46, 3) := by decide +kernel
theorem dX8_period_20 : decode cX8_period 20 = .ok (.idiv, 1) := by decide +kernel
theorem dX8_period_21 : decode cX8_period 21 = .ok (.aload_n 0, 1) := by decide +kernel
theorem dX8_period_22 : decode cX8_period 22 = .ok (.iload_n 1, 1) := by decide +kernel
theorem dX8_period_23 : decode cX8_period 23 = .ok (.invokevirtual 42, 3) := by decide +kernel
theorem dX8_period_26 : decode cX8_period 26 = .ok (.imul, 1) := by decide +kernel
theorem dX8_period_27 : decode cX8_period 27 = .ok (.ireturn, 1) := by decide +kernel
set_option maxRecDepth 20000 in
theorem ggX8_turns_X8_period : GoodIn wsX8_turns wsX8_period := goodIn_r _ [6, 1, 7, 8, 9, 5, 10, 11, 12, 13, 14, 15, 16, 17, 18, 19, 20, 21, 22, 23, 24, 25, 26, 27, 28, 29, 30] (by decide +kernel) (by decide +kernel)
set_option maxRecDepth 20000 in
theorem gX8_turns_X8_period : GoodIn wsX8_turns (wsV RX8 50 RX8 yX8_period wsX8_period) := goodIn_app (goodIn_of _ (by decide +kernel)) ggX8_turns_X8_period
theorem dX8_turns_0 : decode cX8_turns 0 = .ok (.aload_n 0, 1) := by decide +kernel
theorem dX8_turns_1 : decode cX8_turns 1 = .ok (.iload_n 1, 1) := by decide +kernel
theorem dX8_turns_2 : decode cX8_turns 2 = .ok (.invokevirtual 50, 3) := by decide +kernel
theorem dX8_turns_5 : decode cX8_turns 5 = .ok (.aload_n 0, 1) := by decide +kernel
theorem dX8_turns_6 : decode cX8_turns 6 = .ok (.getfield 7, 3) := by decide +kernel
theorem dX8_turns_9 : decode cX8_turns 9 = .ok (.iconst 0, 1) := by decide +kernel
theorem dX8_turns_10 : decode cX8_turns 10 = .ok (.iaload, 1) := by decide +kernel
theorem dX8_turns_11 : decode cX8_turns 11 = .ok (.idiv, 1) := by decide +kernel
theorem dX8_turns_12 : decode cX8_turns 12 = .ok (.ireturn, 1) := by decide +kernel
set_option maxRecDepth 20000 in
theorem ggX8_lobes_X8_period : GoodIn wsX8_lobes wsX8_period := goodIn_r _ [5, 6, 7, 8, 9, 4, 10, 11, 12, 13, 14, 15, 16, 17, 18, 19, 20, 21, 22, 23, 24, 25, 26, 27, 28, 29, 30] (by decide +kernel) (by decide +kernel)
set_option maxRecDepth 20000 in
theorem gX8_lobes_X8_period : GoodIn wsX8_lobes (wsV RX8 50 RX8 yX8_period wsX8_period) := goodIn_app (goodIn_of _ (by decide +kernel)) ggX8_lobes_X8_period
set_option maxRecDepth 20000 in
theorem ggX8_lobes_X8_wheel : GoodIn wsX8_lobes wsX8_wheel := goodIn_r _ [10, 6, 14, 15, 16, 17, 18, 19, 20, 21, 22, 23, 24, 25, 26, 27, 28, 29, 30] (by decide +kernel) (by decide +kernel)
set_option maxRecDepth 20000 in
theorem gX8_lobes_X8_wheel : GoodIn wsX8_lobes (wsV RX8 42 RX8 yX8_wheel wsX8_wheel) := goodIn_app (goodIn_of _ (by decide +kernel)) ggX8_lobes_X8_wheel
theorem dX8_lobes_0 : decode cX8_lobes 0 = .ok (.aload_n 0, 1) := by decide +kernel
theorem dX8_lobes_1 : decode cX8_lobes 1 = .ok (.iload_n 1, 1) := by decide +kernel
theorem dX8_lobes_2 : decode cX8_lobes 2 = .ok (.invokevirtual 50, 3) := by decide +kernel
theorem dX8_lobes_5 : decode cX8_lobes 5 = .ok (.aload_n 0, 1) := by decide +kernel
theorem dX8_lobes_6 : decode cX8_lobes 6 = .ok (.iload_n 1, 1) := by decide +kernel
theorem dX8_lobes_7 : decode cX8_lobes 7 = .ok (.invokevirtual 42, 3) := by decide +kernel
theorem dX8_lobes_10 : decode cX8_lobes 10 = .ok (.idiv, 1) := by decide +kernel
theorem dX8_lobes_11 : decode cX8_lobes 11 = .ok (.ireturn, 1) := by decide +kernel
theorem dX8_radius_0 : decode cX8_radius 0 = .ok (.iconst 2, 1) := by decide +kernel
theorem dX8_radius_1 : decode cX8_radius 1 = .ok (.iload_n 3, 1) := by decide +kernel
theorem dX8_radius_2 : decode cX8_radius 2 = .ok (.imul, 1) := by decide +kernel
theorem dX8_radius_3 : decode cX8_radius 3 = .ok (.iload_n 0, 1) := by decide +kernel
theorem dX8_radius_4 : decode cX8_radius 4 = .ok (.isub, 1) := by decide +kernel
theorem dX8_radius_5 : decode cX8_radius 5 = .ok (.istore 4, 2) := by decide +kernel
theorem dX8_radius_7 : decode cX8_radius 7 = .ok (.iload 4, 2) := by decide +kernel
theorem dX8_radius_9 : decode cX8_radius 9 = .ok (.ifCond .ge 9, 3) := by decide +kernel
theorem dX8_radius_12 : decode cX8_radius 12 = .ok (.iload 4, 2) := by decide +kernel
theorem dX8_radius_14 : decode cX8_radius 14 = .ok (.ineg, 1) := by decide +kernel
theorem dX8_radius_15 : decode cX8_radius 15 = .ok (.goto 5, 3) := by decide +kernel
theorem dX8_radius_18 : decode cX8_radius 18 = .ok (.iload 4, 2) := by decide +kernel
theorem dX8_radius_20 : decode cX8_radius 20 = .ok (.istore 5, 2) := by decide +kernel
theorem dX8_radius_22 : decode cX8_radius 22 = .ok (.iload_n 1, 1) := by decide +kernel
theorem dX8_radius_23 : decode cX8_radius 23 = .ok (.ifCond .ne 11, 3) := by decide +kernel
theorem dX8_radius_26 : decode cX8_radius 26 = .ok (.sipush 200, 3) := by decide +kernel
theorem dX8_radius_29 : decode cX8_radius 29 = .ok (.iload_n 0, 1) := by decide +kernel
theorem dX8_radius_30 : decode cX8_radius 30 = .ok (.isub, 1) := by decide +kernel
theorem dX8_radius_31 : decode cX8_radius 31 = .ok (.goto 8, 3) := by decide +kernel
theorem dX8_radius_34 : decode cX8_radius 34 = .ok (.sipush 200, 3) := by decide +kernel
theorem dX8_radius_37 : decode cX8_radius 37 = .ok (.iload_n 0, 1) := by decide +kernel
theorem dX8_radius_38 : decode cX8_radius 38 = .ok (.iadd, 1) := by decide +kernel
theorem dX8_radius_39 : decode cX8_radius 39 = .ok (.istore 6, 2) := by decide +kernel
theorem dX8_radius_41 : decode cX8_radius 41 = .ok (.iload 6, 2) := by decide +kernel
theorem dX8_radius_43 : decode cX8_radius 43 = .ok (.iload_n 2, 1) := by decide +kernel
theorem dX8_radius_44 : decode cX8_radius 44 = .ok (.iconst 2, 1) := by decide +kernel
theorem dX8_radius_45 : decode cX8_radius 45 = .ok (.iload 5, 2) := by decide +kernel
theorem dX8_radius_47 : decode cX8_radius 47 = .ok (.imul, 1) := by decide +kernel
theorem dX8_radius_48 : decode cX8_radius 48 = .ok (.iload_n 0, 1) := by decide +kernel
theorem dX8_radius_49 : decode cX8_radius 49 = .ok (.isub, 1) := by decide +kernel
theorem dX8_radius_50 : decode cX8_radius 50 = .ok (.imul, 1) := by decide +kernel
theorem dX8_radius_51 : decode cX8_radius 51 = .ok (.iload_n 0, 1) := by decide +kernel
theorem dX8_radius_52 : decode cX8_radius 52 = .ok (.idiv, 1) := by decide +kernel
theorem dX8_radius_53 : decode cX8_radius 53 = .ok (.iadd, 1) := by decide +kernel
theorem dX8_radius_54 : decode cX8_radius 54 = .ok (.ireturn, 1) := by decide +kernel
set_option maxRecDepth 20000 in
theorem ggX8_radiusAt_X8_wheel : GoodIn wsX8_radiusAt wsX8_wheel := goodIn_r _ [6, 1, 10, 11, 12, 13, 14, 15, 16, 17, 18, 19, 20, 21, 22, 23, 24, 25, 26] (by decide +kernel) (by decide +kernel)
set_option maxRecDepth 20000 in
theorem gX8_radiusAt_X8_wheel : GoodIn wsX8_radiusAt (wsV RX8 42 RX8 yX8_wheel wsX8_wheel) := goodIn_app (goodIn_of _ (by decide +kernel)) ggX8_radiusAt_X8_wheel
set_option maxRecDepth 20000 in
theorem ggX8_radiusAt_X8_radius : GoodIn wsX8_radiusAt wsX8_radius := goodIn_r _ [9] (by decide +kernel) (by decide +kernel)
set_option maxRecDepth 20000 in
theorem gX8_radiusAt_X8_radius : GoodIn wsX8_radiusAt (va_wsS RX8 53 yX8_radius wsX8_radius) := goodIn_app (goodIn_of _ (by decide +kernel)) ggX8_radiusAt_X8_radius
theorem dX8_radiusAt_0 : decode cX8_radiusAt 0 = .ok (.aload_n 0, 1) := by decide +kernel
theorem dX8_radiusAt_1 : decode cX8_radiusAt 1 = .ok (.iload_n 1, 1) := by decide +kernel
theorem dX8_radiusAt_2 : decode cX8_radiusAt 2 = .ok (.invokevirtual 42, 3) := by decide +kernel
theorem dX8_radiusAt_5 : decode cX8_radiusAt 5 = .ok (.istore 4, 2) := by decide +kernel
theorem dX8_radiusAt_7 : decode cX8_radiusAt 7 = .ok (.iload 4, 2) := by decide +kernel
theorem dX8_radiusAt_9 : decode cX8_radiusAt 9 = .ok (.aload_n 0, 1) := by decide +kernel
theorem dX8_radiusAt_10 : decode cX8_radiusAt 10 = .ok (.getfield 7, 3) := by decide +kernel
theorem dX8_radiusAt_13 : decode cX8_radiusAt 13 = .ok (.iconst 4, 1) := by decide +kernel
theorem dX8_radiusAt_14 : decode cX8_radiusAt 14 = .ok (.iload_n 1, 1) := by decide +kernel
theorem dX8_radiusAt_15 : decode cX8_radiusAt 15 = .ok (.imul, 1) := by decide +kernel
theorem dX8_radiusAt_16 : decode cX8_radiusAt 16 = .ok (.iconst 2, 1) := by decide +kernel
theorem dX8_radiusAt_17 : decode cX8_radiusAt 17 = .ok (.iadd, 1) := by decide +kernel
theorem dX8_radiusAt_18 : decode cX8_radiusAt 18 = .ok (.iaload, 1) := by decide +kernel
theorem dX8_radiusAt_19 : decode cX8_radiusAt 19 = .ok (.aload_n 0, 1) := by decide +kernel
theorem dX8_radiusAt_20 : decode cX8_radiusAt 20 = .ok (.getfield 7, 3) := by decide +kernel
theorem dX8_radiusAt_23 : decode cX8_radiusAt 23 = .ok (.iconst 4, 1) := by decide +kernel
theorem dX8_radiusAt_24 : decode cX8_radiusAt 24 = .ok (.iload_n 1, 1) := by decide +kernel
theorem dX8_radiusAt_25 : decode cX8_radiusAt 25 = .ok (.imul, 1) := by decide +kernel
theorem dX8_radiusAt_26 : decode cX8_radiusAt 26 = .ok (.iconst 3, 1) := by decide +kernel
theorem dX8_radiusAt_27 : decode cX8_radiusAt 27 = .ok (.iadd, 1) := by decide +kernel
theorem dX8_radiusAt_28 : decode cX8_radiusAt 28 = .ok (.iaload, 1) := by decide +kernel
theorem dX8_radiusAt_29 : decode cX8_radiusAt 29 = .ok (.lload_n 2, 1) := by decide +kernel
theorem dX8_radiusAt_30 : decode cX8_radiusAt 30 = .ok (.iload 4, 2) := by decide +kernel
theorem dX8_radiusAt_32 : decode cX8_radiusAt 32 = .ok (.i2l, 1) := by decide +kernel
theorem dX8_radiusAt_33 : decode cX8_radiusAt 33 = .ok (.lrem, 1) := by decide +kernel
theorem dX8_radiusAt_34 : decode cX8_radiusAt 34 = .ok (.l2i, 1) := by decide +kernel
theorem dX8_radiusAt_35 : decode cX8_radiusAt 35 = .ok (.invokestatic 53, 3) := by decide +kernel
theorem dX8_radiusAt_38 : decode cX8_radiusAt 38 = .ok (.ireturn, 1) := by decide +kernel
set_option maxRecDepth 20000 in
theorem ggX8_spot_X8_start : GoodIn wsX8_spot wsX8_start := goodIn_r _ [6, 1, 18, 19, 20, 21, 22, 23, 24, 25, 26, 27, 28, 29, 30, 31, 32, 33, 34] (by decide +kernel) (by decide +kernel)
set_option maxRecDepth 20000 in
theorem gX8_spot_X8_start : GoodIn wsX8_spot (wsV RX8 57 RX8 yX8_start wsX8_start) := goodIn_app (goodIn_of _ (by decide +kernel)) ggX8_spot_X8_start
set_option maxRecDepth 20000 in
theorem ggX8_spot_X8_radiusAt : GoodIn wsX8_spot wsX8_radiusAt := goodIn_r _ [10, 1, 11, 12, 13, 5, 14, 15, 16, 17, 18, 19, 20, 21, 22, 23, 24, 25, 26, 27, 28, 29, 30, 31, 32, 33, 34] (by decide +kernel) (by decide +kernel)
set_option maxRecDepth 20000 in
theorem gX8_spot_X8_radiusAt : GoodIn wsX8_spot (wsV RX8 60 RX8 yX8_radiusAt wsX8_radiusAt) := goodIn_app (goodIn_of _ (by decide +kernel)) ggX8_spot_X8_radiusAt
theorem dX8_spot_0 : decode cX8_spot 0 = .ok (.aload_n 0, 1) := by decide +kernel
theorem dX8_spot_1 : decode cX8_spot 1 = .ok (.iload_n 1, 1) := by decide +kernel
theorem dX8_spot_2 : decode cX8_spot 2 = .ok (.invokevirtual 57, 3) := by decide +kernel
theorem dX8_spot_5 : decode cX8_spot 5 = .ok (.iload_n 2, 1) := by decide +kernel
theorem dX8_spot_6 : decode cX8_spot 6 = .ok (.iadd, 1) := by decide +kernel
theorem dX8_spot_7 : decode cX8_spot 7 = .ok (.aload_n 0, 1) := by decide +kernel
theorem dX8_spot_8 : decode cX8_spot 8 = .ok (.getfield 7, 3) := by decide +kernel
theorem dX8_spot_11 : decode cX8_spot 11 = .ok (.iconst 0, 1) := by decide +kernel
theorem dX8_spot_12 : decode cX8_spot 12 = .ok (.iaload, 1) := by decide +kernel
theorem dX8_spot_13 : decode cX8_spot 13 = .ok (.irem, 1) := by decide +kernel
theorem dX8_spot_14 : decode cX8_spot 14 = .ok (.sipush 301, 3) := by decide +kernel
theorem dX8_spot_17 : decode cX8_spot 17 = .ok (.imul, 1) := by decide +kernel
theorem dX8_spot_18 : decode cX8_spot 18 = .ok (.aload_n 0, 1) := by decide +kernel
theorem dX8_spot_19 : decode cX8_spot 19 = .ok (.iload_n 1, 1) := by decide +kernel
theorem dX8_spot_20 : decode cX8_spot 20 = .ok (.iload_n 2, 1) := by decide +kernel
theorem dX8_spot_21 : decode cX8_spot 21 = .ok (.i2l, 1) := by decide +kernel
theorem dX8_spot_22 : decode cX8_spot 22 = .ok (.invokevirtual 60, 3) := by decide +kernel
theorem dX8_spot_25 : decode cX8_spot 25 = .ok (.iadd, 1) := by decide +kernel
theorem dX8_spot_26 : decode cX8_spot 26 = .ok (.ireturn, 1) := by decide +kernel
set_option maxRecDepth 20000 in
theorem ggX8_mark_X8_period : GoodIn wsX8_mark wsX8_period := goodIn_r _ [7, 8, 9, 10, 11, 6, 12, 13, 14, 15, 31, 32, 33, 34, 35, 36, 37, 38, 39, 40, 41, 42, 43, 44, 45, 46, 47] (by decide +kernel) (by decide +kernel)
set_option maxRecDepth 20000 in
theorem gX8_mark_X8_period : GoodIn wsX8_mark (wsV RX8 50 RX8 yX8_period wsX8_period) := goodIn_app (goodIn_of _ (by decide +kernel)) ggX8_mark_X8_period
set_option maxRecDepth 20000 in
theorem ggX8_mark_X8_spot : GoodIn wsX8_mark wsX8_spot := goodIn_r _ [19, 8, 20, 21, 22, 6, 23, 24, 25, 26, 27, 9, 10, 11, 12, 28, 29, 30, 31, 32, 33, 34, 35, 36, 37, 38, 39, 40, 41, 42, 43, 44, 45, 46, 47] (by decide +kernel) (by decide +kernel)
set_option maxRecDepth 20000 in
theorem gX8_mark_X8_spot : GoodIn wsX8_mark (wsV RX8 64 RX8 yX8_spot wsX8_spot) := goodIn_app (goodIn_of _ (by decide +kernel)) ggX8_mark_X8_spot
theorem dX8_mark_0 : decode cX8_mark 0 = .ok (.iconst 0, 1) := by decide +kernel
theorem dX8_mark_1 : decode cX8_mark 1 = .ok (.istore_n 2, 1) := by decide +kernel
theorem dX8_mark_2 : decode cX8_mark 2 = .ok (.aload_n 0, 1) := by decide +kernel
theorem dX8_mark_3 : decode cX8_mark 3 = .ok (.iload_n 1, 1) := by decide +kernel
theorem dX8_mark_4 : decode cX8_mark 4 = .ok (.invokevirtual 50, 3) := by decide +kernel
theorem dX8_mark_7 : decode cX8_mark 7 = .ok (.istore_n 3, 1) := by decide +kernel
theorem dX8_mark_8 : decode cX8_mark 8 = .ok (.iconst 0, 1) := by decide +kernel
theorem dX8_mark_9 : decode cX8_mark 9 = .ok (.istore 4, 2) := by decide +kernel
theorem dX8_mark_11 : decode cX8_mark 11 = .ok (.iload 4, 2) := by decide +kernel
theorem dX8_mark_13 : decode cX8_mark 13 = .ok (.iload_n 3, 1) := by decide +kernel
theorem dX8_mark_14 : decode cX8_mark 14 = .ok (.if_icmp .ge 46, 3) := by decide +kernel
theorem dX8_mark_17 : decode cX8_mark 17 = .ok (.aload_n 0, 1) := by decide +kernel
theorem dX8_mark_18 : decode cX8_mark 18 = .ok (.iload_n 1, 1) := by decide +kernel
theorem dX8_mark_19 : decode cX8_mark 19 = .ok (.iload 4, 2) := by decide +kernel
theorem dX8_mark_21 : decode cX8_mark 21 = .ok (.invokevirtual 64, 3) := by decide +kernel
theorem dX8_mark_24 : decode cX8_mark 24 = .ok (.istore 5, 2) := by decide +kernel
theorem dX8_mark_26 : decode cX8_mark 26 = .ok (.aload_n 0, 1) := by decide +kernel
theorem dX8_mark_27 : decode cX8_mark 27 = .ok (.getfield 13, 3) := by decide +kernel
theorem dX8_mark_30 : decode cX8_mark 30 = .ok (.iload 5, 2) := by decide +kernel
theorem dX8_mark_32 : decode cX8_mark 32 = .ok (.iaload, 1) := by decide +kernel
theorem dX8_mark_33 : decode cX8_mark 33 = .ok (.aload_n 0, 1) := by decide +kernel
theorem dX8_mark_34 : decode cX8_mark 34 = .ok (.getfield 67, 3) := by decide +kernel
theorem dX8_mark_37 : decode cX8_mark 37 = .ok (.if_icmp .eq 17, 3) := by decide +kernel
theorem dX8_mark_40 : decode cX8_mark 40 = .ok (.aload_n 0, 1) := by decide +kernel
theorem dX8_mark_41 : decode cX8_mark 41 = .ok (.getfield 13, 3) := by decide +kernel
theorem dX8_mark_44 : decode cX8_mark 44 = .ok (.iload 5, 2) := by decide +kernel
theorem dX8_mark_46 : decode cX8_mark 46 = .ok (.aload_n 0, 1) := by decide +kernel
theorem dX8_mark_47 : decode cX8_mark 47 = .ok (.getfield 67, 3) := by decide +kernel
theorem dX8_mark_50 : decode cX8_mark 50 = .ok (.iastore, 1) := by decide +kernel
theorem dX8_mark_51 : decode cX8_mark 51 = .ok (.iinc 2 1, 3) := by decide +kernel
theorem dX8_mark_54 : decode cX8_mark 54 = .ok (.iinc 4 1, 3) := by decide +kernel
theorem dX8_mark_57 : decode cX8_mark 57 = .ok (.goto (-46), 3) := by decide +kernel
theorem dX8_mark_60 : decode cX8_mark 60 = .ok (.iload_n 2, 1) := by decide +kernel
theorem dX8_mark_61 : decode cX8_mark 61 = .ok (.ireturn, 1) := by decide +kernel
set_option maxRecDepth 20000 in
theorem ggX8_markAll_X8_mark : GoodIn wsX8_markAll wsX8_mark := goodIn_r _ [7, 8, 1, 9, 10, 11, 6, 12, 13, 14, 15, 16, 17, 18, 19, 20, 21, 22, 23, 24, 25, 26, 27, 28, 29, 30, 31, 32, 33, 34, 35, 36, 37, 38, 39, 40, 41, 42, 43, 44, 45, 46, 47, 48, 49, 50, 51, 52] (by decide +kernel) (by decide +kernel)
set_option maxRecDepth 20000 in
theorem gX8_markAll_X8_mark : GoodIn wsX8_markAll (wsV RX8 70 RX8 yX8_mark wsX8_mark) := goodIn_app (goodIn_of _ (by decide +kernel)) ggX8_markAll_X8_mark
theorem dX8_markAll_0 : decode cX8_markAll 0 = .ok (.aload_n 0, 1) := by decide +kernel
theorem dX8_markAll_1 : decode cX8_markAll 1 = .ok (.dup, 1) := by decide +kernel
theorem dX8_markAll_2 : decode cX8_markAll 2 = .ok (.getfield 67, 3) := by decide +kernel
theorem dX8_markAll_5 : decode cX8_markAll 5 = .ok (.iconst 1, 1) := by decide +kernel
theorem dX8_markAll_6 : decode cX8_markAll 6 = .ok (.iadd, 1) := by decide +kernel
theorem dX8_markAll_7 : decode cX8_markAll 7 = .ok (.putfield 67, 3) := by decide +kernel
theorem dX8_markAll_10 : decode cX8_markAll 10 = .ok (.iconst 0, 1) := by decide +kernel
theorem dX8_markAll_11 : decode cX8_markAll 11 = .ok (.istore_n 1, 1) := by decide +kernel
theorem dX8_markAll_12 : decode cX8_markAll 12 = .ok (.iconst 0, 1) := by decide +kernel
theorem dX8_markAll_13 : decode cX8_markAll 13 = .ok (.istore_n 2, 1) := by decide +kernel
theorem dX8_markAll_14 : decode cX8_markAll 14 = .ok (.iload_n 2, 1) := by decide +kernel
theorem dX8_markAll_15 : decode cX8_markAll 15 = .ok (.aload_n 0, 1) := by decide +kernel
theorem dX8_markAll_16 : decode cX8_markAll 16 = .ok (.getfield 35, 3) := by decide +kernel
theorem dX8_markAll_19 : decode cX8_markAll 19 = .ok (.if_icmp .ge 17, 3) := by decide +kernel
theorem dX8_markAll_22 : decode cX8_markAll 22 = .ok (.iload_n 1, 1) := by decide +kernel
theorem dX8_markAll_23 : decode cX8_markAll 23 = .ok (.aload_n 0, 1) := by decide +kernel
theorem dX8_markAll_24 : decode cX8_markAll 24 = .ok (.iload_n 2, 1) := by decide +kernel
theorem dX8_markAll_25 : decode cX8_markAll 25 = .ok (.invokevirtual 70, 3) := by decide +kernel
theorem dX8_markAll_28 : decode cX8_markAll 28 = .ok (.iadd, 1) := by decide +kernel
theorem dX8_markAll_29 : decode cX8_markAll 29 = .ok (.istore_n 1, 1) := by decide +kernel
theorem dX8_markAll_30 : decode cX8_markAll 30 = .ok (.iinc 2 1, 3) := by decide +kernel
theorem dX8_markAll_33 : decode cX8_markAll 33 = .ok (.goto (-19), 3) := by decide +kernel
theorem dX8_markAll_36 : decode cX8_markAll 36 = .ok (.iload_n 1, 1) := by decide +kernel
theorem dX8_markAll_37 : decode cX8_markAll 37 = .ok (.ireturn, 1) := by decide +kernel
set_option maxRecDepth 20000 in
theorem ggX8_size_X8_mark : GoodIn wsX8_size wsX8_mark := goodIn_r _ [6, 7, 1, 8, 9, 10, 5, 11, 12, 13, 14, 15, 16, 17, 18, 19, 20, 21, 22, 23, 24, 25, 26, 27, 28, 29, 30, 31, 32, 33, 34, 35, 36, 37, 38, 39, 40, 41, 42, 43, 44, 45, 46, 47, 48, 49, 50, 51] (by decide +kernel) (by decide +kernel)
set_option maxRecDepth 20000 in
theorem gX8_size_X8_mark : GoodIn wsX8_size (wsV RX8 70 RX8 yX8_mark wsX8_mark) := goodIn_app (goodIn_of _ (by decide +kernel)) ggX8_size_X8_mark
theorem dX8_size_0 : decode cX8_size 0 = .ok (.aload_n 0, 1) := by decide +kernel
theorem dX8_size_1 : decode cX8_size 1 = .ok (.dup, 1) := by decide +kernel
theorem dX8_size_2 : decode cX8_size 2 = .ok (.getfield 67, 3) := by decide +kernel
theorem dX8_size_5 : decode cX8_size 5 = .ok (.iconst 1, 1) := by decide +kernel
theorem dX8_size_6 : decode cX8_size 6 = .ok (.iadd, 1) := by decide +kernel
theorem dX8_size_7 : decode cX8_size 7 = .ok (.putfield 67, 3) := by decide +kernel
theorem dX8_size_10 : decode cX8_size 10 = .ok (.aload_n 0, 1) := by decide +kernel
theorem dX8_size_11 : decode cX8_size 11 = .ok (.iload_n 1, 1) := by decide +kernel
theorem dX8_size_12 : decode cX8_size 12 = .ok (.invokevirtual 70, 3) := by decide +kernel
theorem dX8_size_15 : decode cX8_size 15 = .ok (.ireturn, 1) := by decide +kernel
set_option maxRecDepth 20000 in
theorem ggX8_least_X8_radiusAt : GoodIn wsX8_least wsX8_radiusAt := goodIn_r _ [5, 6, 7, 8, 9, 4, 10, 11, 12, 13, 14, 15, 16, 17, 18, 19, 20, 21, 22, 23, 24, 25, 26, 27, 28, 29, 30] (by decide +kernel) (by decide +kernel)
set_option maxRecDepth 20000 in
theorem gX8_least_X8_radiusAt : GoodIn wsX8_least (wsV RX8 60 RX8 yX8_radiusAt wsX8_radiusAt) := goodIn_app (goodIn_of _ (by decide +kernel)) ggX8_least_X8_radiusAt
set_option maxRecDepth 20000 in
theorem ggX8_least_X8_wheel : GoodIn wsX8_least wsX8_wheel := goodIn_r _ [10, 6, 14, 15, 16, 17, 18, 19, 20, 21, 22, 23, 24, 25, 26, 27, 28, 29, 30] (by decide +kernel) (by decide +kernel)
set_option maxRecDepth 20000 in
theorem gX8_least_X8_wheel : GoodIn wsX8_least (wsV RX8 42 RX8 yX8_wheel wsX8_wheel) := goodIn_app (goodIn_of _ (by decide +kernel)) ggX8_least_X8_wheel
theorem dX8_least_0 : decode cX8_least 0 = .ok (.aload_n 0, 1) := by decide +kernel
theorem dX8_least_1 : decode cX8_least 1 = .ok (.iload_n 1, 1) := by decide +kernel
theorem dX8_least_2 : decode cX8_least 2 = .ok (.lconst 0, 1) := by decide +kernel
theorem dX8_least_3 : decode cX8_least 3 = .ok (.invokevirtual 60, 3) := by decide +kernel
theorem dX8_least_6 : decode cX8_least 6 = .ok (.istore_n 2, 1) := by decide +kernel
theorem dX8_least_7 : decode cX8_least 7 = .ok (.iconst 1, 1) := by decide +kernel
theorem dX8_least_8 : decode cX8_least 8 = .ok (.istore_n 3, 1) := by decide +kernel
theorem dX8_least_9 : decode cX8_least 9 = .ok (.iload_n 3, 1) := by decide +kernel
theorem dX8_least_10 : decode cX8_least 10 = .ok (.aload_n 0, 1) := by decide +kernel
theorem dX8_least_11 : decode cX8_least 11 = .ok (.iload_n 1, 1) := by decide +kernel
theorem dX8_least_12 : decode cX8_least 12 = .ok (.invokevirtual 42, 3) := by decide +kernel
theorem dX8_least_15 : decode cX8_least 15 = .ok (.if_icmp .ge 31, 3) := by decide +kernel
theorem dX8_least_18 : decode cX8_least 18 = .ok (.aload_n 0, 1) := by decide +kernel
theorem dX8_least_19 : decode cX8_least 19 = .ok (.iload_n 1, 1) := by decide +kernel
theorem dX8_least_20 : decode cX8_least 20 = .ok (.iload_n 3, 1) := by decide +kernel
theorem dX8_least_21 : decode cX8_least 21 = .ok (.i2l, 1) := by decide +kernel
theorem dX8_least_22 : decode cX8_least 22 = .ok (.invokevirtual 60, 3) := by decide +kernel
theorem dX8_least_25 : decode cX8_least 25 = .ok (.istore 4, 2) := by decide +kernel
theorem dX8_least_27 : decode cX8_least 27 = .ok (.iload 4, 2) := by decide +kernel
theorem dX8_least_29 : decode cX8_least 29 = .ok (.iload_n 2, 1) := by decide +kernel
theorem dX8_least_30 : decode cX8_least 30 = .ok (.if_icmp .ge 8, 3) := by decide +kernel
theorem dX8_least_33 : decode cX8_least 33 = .ok (.iload 4, 2) := by decide +kernel
theorem dX8_least_35 : decode cX8_least 35 = .ok (.goto 4, 3) := by decide +kernel
theorem dX8_least_38 : decode cX8_least 38 = .ok (.iload_n 2, 1) := by decide +kernel
theorem dX8_least_39 : decode cX8_least 39 = .ok (.istore_n 2, 1) := by decide +kernel
theorem dX8_least_40 : decode cX8_least 40 = .ok (.iinc 3 1, 3) := by decide +kernel
theorem dX8_least_43 : decode cX8_least 43 = .ok (.goto (-34), 3) := by decide +kernel
theorem dX8_least_46 : decode cX8_least 46 = .ok (.iload_n 2, 1) := by decide +kernel
theorem dX8_least_47 : decode cX8_least 47 = .ok (.ireturn, 1) := by decide +kernel
set_option maxRecDepth 20000 in
theorem ggX8_greatest_X8_radiusAt : GoodIn wsX8_greatest wsX8_radiusAt := goodIn_r _ [5, 6, 7, 8, 9, 4, 10, 11, 12, 13, 14, 15, 16, 17, 18, 19, 20, 21, 22, 23, 24, 25, 26, 27, 28, 29, 30] (by decide +kernel) (by decide +kernel)
set_option maxRecDepth 20000 in
theorem gX8_greatest_X8_radiusAt : GoodIn wsX8_greatest (wsV RX8 60 RX8 yX8_radiusAt wsX8_radiusAt) := goodIn_app (goodIn_of _ (by decide +kernel)) ggX8_greatest_X8_radiusAt
set_option maxRecDepth 20000 in
theorem ggX8_greatest_X8_wheel : GoodIn wsX8_greatest wsX8_wheel := goodIn_r _ [10, 6, 14, 15, 16, 17, 18, 19, 20, 21, 22, 23, 24, 25, 26, 27, 28, 29, 30] (by decide +kernel) (by decide +kernel)
set_option maxRecDepth 20000 in
theorem gX8_greatest_X8_wheel : GoodIn wsX8_greatest (wsV RX8 42 RX8 yX8_wheel wsX8_wheel) := goodIn_app (goodIn_of _ (by decide +kernel)) ggX8_greatest_X8_wheel
theorem dX8_greatest_0 : decode cX8_greatest 0 = .ok (.aload_n 0, 1) := by decide +kernel
theorem dX8_greatest_1 : decode cX8_greatest 1 = .ok (.iload_n 1, 1) := by decide +kernel
theorem dX8_greatest_2 : decode cX8_greatest 2 = .ok (.lconst 0, 1) := by decide +kernel
theorem dX8_greatest_3 : decode cX8_greatest 3 = .ok (.invokevirtual 60, 3) := by decide +kernel
theorem dX8_greatest_6 : decode cX8_greatest 6 = .ok (.istore_n 2, 1) := by decide +kernel
theorem dX8_greatest_7 : decode cX8_greatest 7 = .ok (.iconst 1, 1) := by decide +kernel
theorem dX8_greatest_8 : decode cX8_greatest 8 = .ok (.istore_n 3, 1) := by decide +kernel
theorem dX8_greatest_9 : decode cX8_greatest 9 = .ok (.iload_n 3, 1) := by decide +kernel
theorem dX8_greatest_10 : decode cX8_greatest 10 = .ok (.aload_n 0, 1) := by decide +kernel
theorem dX8_greatest_11 : decode cX8_greatest 11 = .ok (.iload_n 1, 1) := by decide +kernel
theorem dX8_greatest_12 : decode cX8_greatest 12 = .ok (.invokevirtual 42, 3) := by decide +kernel
theorem dX8_greatest_15 : decode cX8_greatest 15 = .ok (.if_icmp .ge 31, 3) := by decide +kernel
theorem dX8_greatest_18 : decode cX8_greatest 18 = .ok (.aload_n 0, 1) := by decide +kernel
theorem dX8_greatest_19 : decode cX8_greatest 19 = .ok (.iload_n 1, 1) := by decide +kernel
theorem dX8_greatest_20 : decode cX8_greatest 20 = .ok (.iload_n 3, 1) := by decide +kernel
theorem dX8_greatest_21 : decode cX8_greatest 21 = .ok (.i2l, 1) := by decide +kernel
theorem dX8_greatest_22 : decode cX8_greatest 22 = .ok (.invokevirtual 60, 3) := by decide +kernel
theorem dX8_greatest_25 : decode cX8_greatest 25 = .ok (.istore 4, 2) := by decide +kernel
theorem dX8_greatest_27 : decode cX8_greatest 27 = .ok (.iload 4, 2) := by decide +kernel
theorem dX8_greatest_29 : decode cX8_greatest 29 = .ok (.iload_n 2, 1) := by decide +kernel
theorem dX8_greatest_30 : decode cX8_greatest 30 = .ok (.if_icmp .le 8, 3) := by decide +kernel
theorem dX8_greatest_33 : decode cX8_greatest 33 = .ok (.iload 4, 2) := by decide +kernel
theorem dX8_greatest_35 : decode cX8_greatest 35 = .ok (.goto 4, 3) := by decide +kernel
theorem dX8_greatest_38 : decode cX8_greatest 38 = .ok (.iload_n 2, 1) := by decide +kernel
theorem dX8_greatest_39 : decode cX8_greatest 39 = .ok (.istore_n 2, 1) := by decide +kernel
theorem dX8_greatest_40 : decode cX8_greatest 40 = .ok (.iinc 3 1, 3) := by decide +kernel
theorem dX8_greatest_43 : decode cX8_greatest 43 = .ok (.goto (-34), 3) := by decide +kernel
theorem dX8_greatest_46 : decode cX8_greatest 46 = .ok (.iload_n 2, 1) := by decide +kernel
theorem dX8_greatest_47 : decode cX8_greatest 47 = .ok (.ireturn, 1) := by decide +kernel
set_option maxRecDepth 20000 in
theorem ggX8_comesTo_X8_period : GoodIn wsX8_comesTo wsX8_period := goodIn_r _ [5, 6, 7, 8, 9, 4, 10, 11, 12, 13, 29, 30, 31, 32, 33, 34, 35, 36, 37, 38, 39, 40, 41, 42, 43, 44, 45] (by decide +kernel) (by decide +kernel)
set_option maxRecDepth 20000 in
theorem gX8_comesTo_X8_period : GoodIn wsX8_comesTo (wsV RX8 50 RX8 yX8_period wsX8_period) := goodIn_app (goodIn_of _ (by decide +kernel)) ggX8_comesTo_X8_period
set_option maxRecDepth 20000 in
theorem ggX8_comesTo_X8_spot : GoodIn wsX8_comesTo wsX8_spot := goodIn_r _ [17, 6, 18, 19, 20, 4, 21, 22, 23, 24, 25, 7, 8, 9, 10, 26, 27, 28, 29, 30, 31, 32, 33, 34, 35, 36, 37, 38, 39, 40, 41, 42, 43, 44, 45] (by decide +kernel) (by decide +kernel)
set_option maxRecDepth 20000 in
theorem gX8_comesTo_X8_spot : GoodIn wsX8_comesTo (wsV RX8 64 RX8 yX8_spot wsX8_spot) := goodIn_app (goodIn_of _ (by decide +kernel)) ggX8_comesTo_X8_spot
theorem dX8_comesTo_0 : decode cX8_comesTo 0 = .ok (.aload_n 0, 1) := by decide +kernel
theorem dX8_comesTo_1 : decode cX8_comesTo 1 = .ok (.iload_n 1, 1) := by decide +kernel
theorem dX8_comesTo_2 : decode cX8_comesTo 2 = .ok (.invokevirtual 50, 3) := by decide +kernel
theorem dX8_comesTo_5 : decode cX8_comesTo 5 = .ok (.istore 4, 2) := by decide +kernel
theorem dX8_comesTo_7 : decode cX8_comesTo 7 = .ok (.iload_n 2, 1) := by decide +kernel
theorem dX8_comesTo_8 : decode cX8_comesTo 8 = .ok (.sipush 301, 3) := by decide +kernel
theorem dX8_comesTo_11 : decode cX8_comesTo 11 = .ok (.imul, 1) := by decide +kernel
theorem dX8_comesTo_12 : decode cX8_comesTo 12 = .ok (.iload_n 3, 1) := by decide +kernel
theorem dX8_comesTo_13 : decode cX8_comesTo 13 = .ok (.iadd, 1) := by decide +kernel
theorem dX8_comesTo_14 : decode cX8_comesTo 14 = .ok (.istore 5, 2) := by decide +kernel
theorem dX8_comesTo_16 : decode cX8_comesTo 16 = .ok (.iconst 0, 1) := by decide +kernel
theorem dX8_comesTo_17 : decode cX8_comesTo 17 = .ok (.istore 6, 2) := by decide +kernel
theorem dX8_comesTo_19 : decode cX8_comesTo 19 = .ok (.iload 6, 2) := by decide +kernel
theorem dX8_comesTo_21 : decode cX8_comesTo 21 = .ok (.iload 4, 2) := by decide +kernel
theorem dX8_comesTo_23 : decode cX8_comesTo 23 = .ok (.if_icmp .ge 24, 3) := by decide +kernel
theorem dX8_comesTo_26 : decode cX8_comesTo 26 = .ok (.aload_n 0, 1) := by decide +kernel
theorem dX8_comesTo_27 : decode cX8_comesTo 27 = .ok (.iload_n 1, 1) := by decide +kernel
theorem dX8_comesTo_28 : decode cX8_comesTo 28 = .ok (.iload 6, 2) := by decide +kernel
theorem dX8_comesTo_30 : decode cX8_comesTo 30 = .ok (.invokevirtual 64, 3) := by decide +kernel
theorem dX8_comesTo_33 : decode cX8_comesTo 33 = .ok (.iload 5, 2) := by decide +kernel
theorem dX8_comesTo_35 : decode cX8_comesTo 35 = .ok (.if_icmp .ne 6, 3) := by decide +kernel
theorem dX8_comesTo_38 : decode cX8_comesTo 38 = .ok (.iload 6, 2) := by decide +kernel
theorem dX8_comesTo_40 : decode cX8_comesTo 40 = .ok (.ireturn, 1) := by decide +kernel
theorem dX8_comesTo_41 : decode cX8_comesTo 41 = .ok (.iinc 6 1, 3) := by decide +kernel
theorem dX8_comesTo_44 : decode cX8_comesTo 44 = .ok (.goto (-25), 3) := by decide +kernel
theorem dX8_comesTo_47 : decode cX8_comesTo 47 = .ok (.bipush (-9), 2) := by decide +kernel
theorem dX8_comesTo_49 : decode cX8_comesTo 49 = .ok (.ireturn, 1) := by decide +kernel
set_option maxRecDepth 20000 in
theorem ggX8_fits_X8_comesTo : GoodIn wsX8_fits wsX8_comesTo := goodIn_r _ [6, 7, 8, 9, 5, 10, 1, 11, 12, 13, 14, 15, 16, 17, 18, 19, 20, 21, 22, 23, 24, 25, 26, 27, 28, 29, 30, 31, 32, 33, 34, 35, 36, 37, 38, 39, 40, 41, 42, 43, 44, 45, 46, 47, 48, 49] (by decide +kernel) (by decide +kernel)
set_option maxRecDepth 20000 in
theorem gX8_fits_X8_comesTo : GoodIn wsX8_fits (wsV RX8 73 RX8 yX8_comesTo wsX8_comesTo) := goodIn_app (goodIn_of _ (by decide +kernel)) ggX8_fits_X8_comesTo
theorem dX8_fits_0 : decode cX8_fits 0 = .ok (.iconst 0, 1) := by decide +kernel
theorem dX8_fits_1 : decode cX8_fits 1 = .ok (.istore_n 2, 1) := by decide +kernel
theorem dX8_fits_2 : decode cX8_fits 2 = .ok (.iload_n 2, 1) := by decide +kernel
theorem dX8_fits_3 : decode cX8_fits 3 = .ok (.aload_n 0, 1) := by decide +kernel
theorem dX8_fits_4 : decode cX8_fits 4 = .ok (.getfield 7, 3) := by decide +kernel
theorem dX8_fits_7 : decode cX8_fits 7 = .ok (.bipush 25, 2) := by decide +kernel
theorem dX8_fits_9 : decode cX8_fits 9 = .ok (.iaload, 1) := by decide +kernel
theorem dX8_fits_10 : decode cX8_fits 10 = .ok (.if_icmp .ge 41, 3) := by decide +kernel
theorem dX8_fits_13 : decode cX8_fits 13 = .ok (.aload_n 0, 1) := by decide +kernel
theorem dX8_fits_14 : decode cX8_fits 14 = .ok (.iload_n 1, 1) := by decide +kernel
theorem dX8_fits_15 : decode cX8_fits 15 = .ok (.aload_n 0, 1) := by decide +kernel
theorem dX8_fits_16 : decode cX8_fits 16 = .ok (.getfield 7, 3) := by decide +kernel
theorem dX8_fits_19 : decode cX8_fits 19 = .ok (.bipush 26, 2) := by decide +kernel
theorem dX8_fits_21 : decode cX8_fits 21 = .ok (.iconst 2, 1) := by decide +kernel
theorem dX8_fits_22 : decode cX8_fits 22 = .ok (.iload_n 2, 1) := by decide +kernel
theorem dX8_fits_23 : decode cX8_fits 23 = .ok (.imul, 1) := by decide +kernel
theorem dX8_fits_24 : decode cX8_fits 24 = .ok (.iadd, 1) := by decide +kernel
theorem dX8_fits_25 : decode cX8_fits 25 = .ok (.iaload, 1) := by decide +kernel
theorem dX8_fits_26 : decode cX8_fits 26 = .ok (.aload_n 0, 1) := by decide +kernel
theorem dX8_fits_27 : decode cX8_fits 27 = .ok (.getfield 7, 3) := by decide +kernel
theorem dX8_fits_30 : decode cX8_fits 30 = .ok (.bipush 27, 2) := by decide +kernel
theorem dX8_fits_32 : decode cX8_fits 32 = .ok (.iconst 2, 1) := by decide +kernel
theorem dX8_fits_33 : decode cX8_fits 33 = .ok (.iload_n 2, 1) := by decide +kernel
theorem dX8_fits_34 : decode cX8_fits 34 = .ok (.imul, 1) := by decide +kernel
theorem dX8_fits_35 : decode cX8_fits 35 = .ok (.iadd, 1) := by decide +kernel
theorem dX8_fits_36 : decode cX8_fits 36 = .ok (.iaload, 1) := by decide +kernel
theorem dX8_fits_37 : decode cX8_fits 37 = .ok (.invokevirtual 73, 3) := by decide +kernel
theorem dX8_fits_40 : decode cX8_fits 40 = .ok (.ifCond .ge 5, 3) := by decide +kernel
theorem dX8_fits_43 : decode cX8_fits 43 = .ok (.iconst 0, 1) := by decide +kernel
theorem dX8_fits_44 : decode cX8_fits 44 = .ok (.ireturn, 1) := by decide +kernel
theorem dX8_fits_45 : decode cX8_fits 45 = .ok (.iinc 2 1, 3) := by decide +kernel
theorem dX8_fits_48 : decode cX8_fits 48 = .ok (.goto (-46), 3) := by decide +kernel
theorem dX8_fits_51 : decode cX8_fits 51 = .ok (.iconst 1, 1) := by decide +kernel
theorem dX8_fits_52 : decode cX8_fits 52 = .ok (.ireturn, 1) := by decide +kernel
set_option maxRecDepth 20000 in
theorem ggX8_fitting_X8_fits : GoodIn wsX8_fitting wsX8_fits := goodIn_r _ [6, 7, 8, 9, 10, 5, 11, 12, 13, 14, 15, 16, 17, 18, 19, 20, 21, 22, 23, 24, 25, 26, 27, 28, 29, 30, 31, 32, 33, 34, 35, 36, 37, 38, 39, 40, 41, 42, 43, 44, 45, 46, 47, 48, 49, 50, 51, 52, 53, 54] (by decide +kernel) (by decide +kernel)
set_option maxRecDepth 20000 in
theorem gX8_fitting_X8_fits : GoodIn wsX8_fitting (wsV RX8 77 RX8 yX8_fits wsX8_fits) := goodIn_app (goodIn_of _ (by decide +kernel)) ggX8_fitting_X8_fits
theorem dX8_fitting_0 : decode cX8_fitting 0 = .ok (.iconst 0, 1) := by decide +kernel
theorem dX8_fitting_1 : decode cX8_fitting 1 = .ok (.istore_n 1, 1) := by decide +kernel
theorem dX8_fitting_2 : decode cX8_fitting 2 = .ok (.iconst 0, 1) := by decide +kernel
theorem dX8_fitting_3 : decode cX8_fitting 3 = .ok (.istore_n 2, 1) := by decide +kernel
theorem dX8_fitting_4 : decode cX8_fitting 4 = .ok (.iload_n 2, 1) := by decide +kernel
theorem dX8_fitting_5 : decode cX8_fitting 5 = .ok (.aload_n 0, 1) := by decide +kernel
theorem dX8_fitting_6 : decode cX8_fitting 6 = .ok (.getfield 35, 3) := by decide +kernel
theorem dX8_fitting_9 : decode cX8_fitting 9 = .ok (.if_icmp .ge 25, 3) := by decide +kernel
theorem dX8_fitting_12 : decode cX8_fitting 12 = .ok (.iload_n 1, 1) := by decide +kernel
theorem dX8_fitting_13 : decode cX8_fitting 13 = .ok (.aload_n 0, 1) := by decide +kernel
theorem dX8_fitting_14 : decode cX8_fitting 14 = .ok (.iload_n 2, 1) := by decide +kernel
theorem dX8_fitting_15 : decode cX8_fitting 15 = .ok (.invokevirtual 77, 3) := by decide +kernel
theorem dX8_fitting_18 : decode cX8_fitting 18 = .ok (.ifCond .eq 7, 3) := by decide +kernel
theorem dX8_fitting_21 : decode cX8_fitting 21 = .ok (.iconst 1, 1) := by decide +kernel
theorem dX8_fitting_22 : decode cX8_fitting 22 = .ok (.goto 4, 3) := by decide +kernel
theorem dX8_fitting_25 : decode cX8_fitting 25 = .ok (.iconst 0, 1) := by decide +kernel
theorem dX8_fitting_26 : decode cX8_fitting 26 = .ok (.iadd, 1) := by decide +kernel
theorem dX8_fitting_27 : decode cX8_fitting 27 = .ok (.istore_n 1, 1) := by decide +kernel
theorem dX8_fitting_28 : decode cX8_fitting 28 = .ok (.iinc 2 1, 3) := by decide +kernel
theorem dX8_fitting_31 : decode cX8_fitting 31 = .ok (.goto (-27), 3) := by decide +kernel
theorem dX8_fitting_34 : decode cX8_fitting 34 = .ok (.iload_n 1, 1) := by decide +kernel
theorem dX8_fitting_35 : decode cX8_fitting 35 = .ok (.ireturn, 1) := by decide +kernel
set_option maxRecDepth 20000 in
theorem ggX8_append_X8_in : GoodIn wsX8_append wsX8_in := goodIn_r _ [8] (by decide +kernel) (by decide +kernel)
set_option maxRecDepth 20000 in
theorem gX8_append_X8_in : GoodIn wsX8_append (va_wsS RX8 38 yX8_in wsX8_in) := goodIn_app (goodIn_of _ (by decide +kernel)) ggX8_append_X8_in
set_option maxRecDepth 20000 in
theorem ggX8_append_X8_refused : GoodIn wsX8_append wsX8_refused := goodIn_r _ [12, 1, 13, 14, 15, 16, 17, 18, 19, 20, 21, 22, 23, 24, 25, 26, 27, 28, 29] (by decide +kernel) (by decide +kernel)
set_option maxRecDepth 20000 in
theorem gX8_append_X8_refused : GoodIn wsX8_append (wsV RX8 83 RX8 yX8_refused wsX8_refused) := goodIn_app (goodIn_of _ (by decide +kernel)) ggX8_append_X8_refused
theorem dX8_append_0 : decode cX8_append 0 = .ok (.aload_n 0, 1) := by decide +kernel
theorem dX8_append_1 : decode cX8_append 1 = .ok (.iconst 0, 1) := by decide +kernel
theorem dX8_append_2 : decode cX8_append 2 = .ok (.putfield 31, 3) := by decide +kernel
theorem dX8_append_5 : decode cX8_append 5 = .ok (.iload_n 1, 1) := by decide +kernel
theorem dX8_append_6 : decode cX8_append 6 = .ok (.i2l, 1) := by decide +kernel
theorem dX8_append_7 : decode cX8_append 7 = .ok (.lconst 0, 1) := by decide +kernel
theorem dX8_append_8 : decode cX8_append 8 = .ok (.ldc2_w 81, 3) := by decide +kernel
theorem dX8_append_11 : decode cX8_append 11 = .ok (.invokestatic 38, 3) := by decide +kernel
theorem dX8_append_14 : decode cX8_append 14 = .ok (.ifCond .ne 9, 3) := by decide +kernel
theorem dX8_append_17 : decode cX8_append 17 = .ok (.aload_n 0, 1) := by decide +kernel
theorem dX8_append_18 : decode cX8_append 18 = .ok (.iconst 1, 1) := by decide +kernel
theorem dX8_append_19 : decode cX8_append 19 = .ok (.invokevirtual 83, 3) := by decide +kernel
theorem dX8_append_22 : decode cX8_append 22 = .ok (.ireturn, 1) := by decide +kernel
theorem dX8_append_23 : decode cX8_append 23 = .ok (.aload_n 0, 1) := by decide +kernel
theorem dX8_append_24 : decode cX8_append 24 = .ok (.getfield 86, 3) := by decide +kernel
theorem dX8_append_27 : decode cX8_append 27 = .ok (.bipush 100, 2) := by decide +kernel
theorem dX8_append_29 : decode cX8_append 29 = .ok (.if_icmp .ne 9, 3) := by decide +kernel
theorem dX8_append_32 : decode cX8_append 32 = .ok (.aload_n 0, 1) := by decide +kernel
theorem dX8_append_33 : decode cX8_append 33 = .ok (.iconst 2, 1) := by decide +kernel
theorem dX8_append_34 : decode cX8_append 34 = .ok (.invokevirtual 83, 3) := by decide +kernel
theorem dX8_append_37 : decode cX8_append 37 = .ok (.ireturn, 1) := by decide +kernel
theorem dX8_append_38 : decode cX8_append 38 = .ok (.aload_n 0, 1) := by decide +kernel
theorem dX8_append_39 : decode cX8_append 39 = .ok (.getfield 16, 3) := by decide +kernel
theorem dX8_append_42 : decode cX8_append 42 = .ok (.aload_n 0, 1) := by decide +kernel
theorem dX8_append_43 : decode cX8_append 43 = .ok (.getfield 86, 3) := by decide +kernel
theorem dX8_append_46 : decode cX8_append 46 = .ok (.iload_n 1, 1) := by decide +kernel
theorem dX8_append_47 : decode cX8_append 47 = .ok (.iastore, 1) := by decide +kernel
theorem dX8_append_48 : decode cX8_append 48 = .ok (.aload_n 0, 1) := by decide +kernel
theorem dX8_append_49 : decode cX8_append 49 = .ok (.dup, 1) := by decide +kernel
theorem dX8_append_50 : decode cX8_append 50 = .ok (.getfield 86, 3) := by decide +kernel
theorem dX8_append_53 : decode cX8_append 53 = .ok (.iconst 1, 1) := by decide +kernel
theorem dX8_append_54 : decode cX8_append 54 = .ok (.iadd, 1) := by decide +kernel
theorem dX8_append_55 : decode cX8_append 55 = .ok (.putfield 86, 3) := by decide +kernel
theorem dX8_append_58 : decode cX8_append 58 = .ok (.aload_n 0, 1) := by decide +kernel
theorem dX8_append_59 : decode cX8_append 59 = .ok (.getfield 86, 3) := by decide +kernel
theorem dX8_append_62 : decode cX8_append 62 = .ok (.ireturn, 1) := by decide +kernel
theorem dX8_clearText_0 : decode cX8_clearText 0 = .ok (.aload_n 0, 1) := by decide +kernel
theorem dX8_clearText_1 : decode cX8_clearText 1 = .ok (.iconst 0, 1) := by decide +kernel
theorem dX8_clearText_2 : decode cX8_clearText 2 = .ok (.putfield 31, 3) := by decide +kernel
theorem dX8_clearText_5 : decode cX8_clearText 5 = .ok (.aload_n 0, 1) := by decide +kernel
theorem dX8_clearText_6 : decode cX8_clearText 6 = .ok (.getfield 86, 3) := by decide +kernel
theorem dX8_clearText_9 : decode cX8_clearText 9 = .ok (.istore_n 1, 1) := by decide +kernel
theorem dX8_clearText_10 : decode cX8_clearText 10 = .ok (.aload_n 0, 1) := by decide +kernel
theorem dX8_clearText_11 : decode cX8_clearText 11 = .ok (.iconst 0, 1) := by decide +kernel
theorem dX8_clearText_12 : decode cX8_clearText 12 = .ok (.putfield 86, 3) := by decide +kernel
theorem dX8_clearText_15 : decode cX8_clearText 15 = .ok (.iload_n 1, 1) := by decide +kernel
theorem dX8_clearText_16 : decode cX8_clearText 16 = .ok (.ireturn, 1) := by decide +kernel
set_option maxRecDepth 20000 in
theorem ggX8_number_X8_in : GoodIn wsX8_number wsX8_in := goodIn_r _ [9] (by decide +kernel) (by decide +kernel)
set_option maxRecDepth 20000 in
theorem gX8_number_X8_in : GoodIn wsX8_number (va_wsS RX8 38 yX8_in wsX8_in) := goodIn_app (goodIn_of _ (by decide +kernel)) ggX8_number_X8_in
theorem dX8_number_0 : decode cX8_number 0 = .ok (.iconst 0, 1) := by decide +kernel
theorem dX8_number_1 : decode cX8_number 1 = .ok (.istore 4, 2) := by decide +kernel
theorem dX8_number_3 : decode cX8_number 3 = .ok (.iload_n 1, 1) := by decide +kernel
theorem dX8_number_4 : decode cX8_number 4 = .ok (.iconst 2, 1) := by decide +kernel
theorem dX8_number_5 : decode cX8_number 5 = .ok (.if_icmp .ne 8, 3) := by decide +kernel
theorem dX8_number_8 : decode cX8_number 8 = .ok (.bipush 100, 2) := by decide +kernel
theorem dX8_number_10 : decode cX8_number 10 = .ok (.goto 6, 3) := by decide +kernel
theorem dX8_number_13 : decode cX8_number 13 = .ok (.sipush 1000, 3) := by decide +kernel
theorem dX8_number_16 : decode cX8_number 16 = .ok (.istore 5, 2) := by decide +kernel
theorem dX8_number_18 : decode cX8_number 18 = .ok (.iconst 0, 1) := by decide +kernel
theorem dX8_number_19 : decode cX8_number 19 = .ok (.istore 6, 2) := by decide +kernel
theorem dX8_number_21 : decode cX8_number 21 = .ok (.iload 6, 2) := by decide +kernel
theorem dX8_number_23 : decode cX8_number 23 = .ok (.iload_n 1, 1) := by decide +kernel
theorem dX8_number_24 : decode cX8_number 24 = .ok (.if_icmp .ge 124, 3) := by decide +kernel
theorem dX8_number_27 : decode cX8_number 27 = .ok (.aload_n 0, 1) := by decide +kernel
theorem dX8_number_28 : decode cX8_number 28 = .ok (.getfield 89, 3) := by decide +kernel
theorem dX8_number_31 : decode cX8_number 31 = .ok (.ifCond .ne 117, 3) := by decide +kernel
theorem dX8_number_34 : decode cX8_number 34 = .ok (.iload 5, 2) := by decide +kernel
theorem dX8_number_36 : decode cX8_number 36 = .ok (.bipush 10, 2) := by decide +kernel
theorem dX8_number_38 : decode cX8_number 38 = .ok (.idiv, 1) := by decide +kernel
theorem dX8_number_39 : decode cX8_number 39 = .ok (.istore 5, 2) := by decide +kernel
theorem dX8_number_41 : decode cX8_number 41 = .ok (.aload_n 0, 1) := by decide +kernel
theorem dX8_number_42 : decode cX8_number 42 = .ok (.getfield 93, 3) := by decide +kernel
theorem dX8_number_45 : decode cX8_number 45 = .ok (.aload_n 0, 1) := by decide +kernel
theorem dX8_number_46 : decode cX8_number 46 = .ok (.getfield 86, 3) := by decide +kernel
theorem dX8_number_49 : decode cX8_number 49 = .ok (.if_icmp .ge 18, 3) := by decide +kernel
theorem dX8_number_52 : decode cX8_number 52 = .ok (.aload_n 0, 1) := by decide +kernel
theorem dX8_number_53 : decode cX8_number 53 = .ok (.getfield 16, 3) := by decide +kernel
theorem dX8_number_56 : decode cX8_number 56 = .ok (.aload_n 0, 1) := by decide +kernel
theorem dX8_number_57 : decode cX8_number 57 = .ok (.getfield 93, 3) := by decide +kernel
theorem dX8_number_60 : decode cX8_number 60 = .ok (.iaload, 1) := by decide +kernel
theorem dX8_number_61 : decode cX8_number 61 = .ok (.bipush 48, 2) := by decide +kernel
theorem dX8_number_63 : decode cX8_number 63 = .ok (.isub, 1) := by decide +kernel
theorem dX8_number_64 : decode cX8_number 64 = .ok (.goto 5, 3) := by decide +kernel
theorem dX8_number_67 : decode cX8_number 67 = .ok (.bipush 10, 2) := by decide +kernel
theorem dX8_number_69 : decode cX8_number 69 = .ok (.istore 7, 2) := by decide +kernel
theorem dX8_number_71 : decode cX8_number 71 = .ok (.bipush 10, 2) := by decide +kernel
theorem dX8_number_73 : decode cX8_number 73 = .ok (.iload 4, 2) := by decide +kernel
theorem dX8_number_75 : decode cX8_number 75 = .ok (.imul, 1) := by decide +kernel
theorem dX8_number_76 : decode cX8_number 76 = .ok (.iload 7, 2) := by decide +kernel
theorem dX8_number_78 : decode cX8_number 78 = .ok (.iadd, 1) := by decide +kernel
theorem dX8_number_79 : decode cX8_number 79 = .ok (.iload 5, 2) := by decide +kernel
theorem dX8_number_81 : decode cX8_number 81 = .ok (.imul, 1) := by decide +kernel
theorem dX8_number_82 : decode cX8_number 82 = .ok (.istore 8, 2) := by decide +kernel
theorem dX8_number_84 : decode cX8_number 84 = .ok (.iload 7, 2) := by decide +kernel
theorem dX8_number_86 : decode cX8_number 86 = .ok (.i2l, 1) := by decide +kernel
theorem dX8_number_87 : decode cX8_number 87 = .ok (.lconst 0, 1) := by decide +kernel
theorem dX8_number_88 : decode cX8_number 88 = .ok (.ldc2_w 96, 3) := by decide +kernel
theorem dX8_number_91 : decode cX8_number 91 = .ok (.invokestatic 38, 3) := by decide +kernel
theorem dX8_number_94 : decode cX8_number 94 = .ok (.ifCond .eq 20, 3) := by decide +kernel
theorem dX8_number_97 : decode cX8_number 97 = .ok (.iload 8, 2) := by decide +kernel
theorem dX8_number_99 : decode cX8_number 99 = .ok (.iload_n 3, 1) := by decide +kernel
theorem dX8_number_100 : decode cX8_number 100 = .ok (.if_icmp .gt 14, 3) := by decide +kernel
theorem dX8_number_103 : decode cX8_number 103 = .ok (.iload 8, 2) := by decide +kernel
theorem dX8_number_105 : decode cX8_number 105 = .ok (.iload 5, 2) := by decide +kernel
theorem dX8_number_107 : decode cX8_number 107 = .ok (.iadd, 1) := by decide +kernel
theorem dX8_number_108 : decode cX8_number 108 = .ok (.iconst 1, 1) := by decide +kernel
theorem dX8_number_109 : decode cX8_number 109 = .ok (.isub, 1) := by decide +kernel
theorem dX8_number_110 : decode cX8_number 110 = .ok (.iload_n 2, 1) := by decide +kernel
theorem dX8_number_111 : decode cX8_number 111 = .ok (.if_icmp .ge 11, 3) := by decide +kernel
theorem dX8_number_114 : decode cX8_number 114 = .ok (.aload_n 0, 1) := by decide +kernel
theorem dX8_number_115 : decode cX8_number 115 = .ok (.iconst 1, 1) := by decide +kernel
theorem dX8_number_116 : decode cX8_number 116 = .ok (.putfield 89, 3) := by decide +kernel
theorem dX8_number_119 : decode cX8_number 119 = .ok (.goto 23, 3) := by decide +kernel
theorem dX8_number_122 : decode cX8_number 122 = .ok (.bipush 10, 2) := by decide +kernel
theorem dX8_number_124 : decode cX8_number 124 = .ok (.iload 4, 2) := by decide +kernel
theorem dX8_number_126 : decode cX8_number 126 = .ok (.imul, 1) := by decide +kernel
theorem dX8_number_127 : decode cX8_number 127 = .ok (.iload 7, 2) := by decide +kernel
theorem dX8_number_129 : decode cX8_number 129 = .ok (.iadd, 1) := by decide +kernel
theorem dX8_number_130 : decode cX8_number 130 = .ok (.istore 4, 2) := by decide +kernel
theorem dX8_number_132 : decode cX8_number 132 = .ok (.aload_n 0, 1) := by decide +kernel
theorem dX8_number_133 : decode cX8_number 133 = .ok (.dup, 1) := by decide +kernel
theorem dX8_number_134 : decode cX8_number 134 = .ok (.getfield 93, 3) := by decide +kernel
theorem dX8_number_137 : decode cX8_number 137 = .ok (.iconst 1, 1) := by decide +kernel
theorem dX8_number_138 : decode cX8_number 138 = .ok (.iadd, 1) := by decide +kernel
theorem dX8_number_139 : decode cX8_number 139 = .ok (.putfield 93, 3) := by decide +kernel
theorem dX8_number_142 : decode cX8_number 142 = .ok (.iinc 6 1, 3) := by decide +kernel
theorem dX8_number_145 : decode cX8_number 145 = .ok (.goto (-124), 3) := by decide +kernel
theorem dX8_number_148 : decode cX8_number 148 = .ok (.iload 4, 2) := by decide +kernel
theorem dX8_number_150 : decode cX8_number 150 = .ok (.ireturn, 1) := by decide +kernel
set_option maxRecDepth 20000 in
theorem ggX8_part_X8_number : GoodIn wsX8_part wsX8_number := goodIn_r _ [10, 5, 2, 11, 1, 12, 13, 14, 9, 15, 16, 17, 18, 19, 20, 21, 22, 23, 24, 25, 26, 27, 28, 29, 30, 31, 32] (by decide +kernel) (by decide +kernel)
set_option maxRecDepth 20000 in
theorem gX8_part_X8_number : GoodIn wsX8_part (wsV RX8 101 RX8 yX8_number wsX8_number) := goodIn_app (goodIn_of _ (by decide +kernel)) ggX8_part_X8_number
theorem dX8_part_0 : decode cX8_part 0 = .ok (.aload_n 0, 1) := by decide +kernel
theorem dX8_part_1 : decode cX8_part 1 = .ok (.getfield 16, 3) := by decide +kernel
theorem dX8_part_4 : decode cX8_part 4 = .ok (.aload_n 0, 1) := by decide +kernel
theorem dX8_part_5 : decode cX8_part 5 = .ok (.getfield 93, 3) := by decide +kernel
theorem dX8_part_8 : decode cX8_part 8 = .ok (.iaload, 1) := by decide +kernel
theorem dX8_part_9 : decode cX8_part 9 = .ok (.istore_n 1, 1) := by decide +kernel
theorem dX8_part_10 : decode cX8_part 10 = .ok (.iload_n 1, 1) := by decide +kernel
theorem dX8_part_11 : decode cX8_part 11 = .ok (.bipush 105, 2) := by decide +kernel
theorem dX8_part_13 : decode cX8_part 13 = .ok (.if_icmp .eq 9, 3) := by decide +kernel
theorem dX8_part_16 : decode cX8_part 16 = .ok (.iload_n 1, 1) := by decide +kernel
theorem dX8_part_17 : decode cX8_part 17 = .ok (.bipush 111, 2) := by decide +kernel
theorem dX8_part_19 : decode cX8_part 19 = .ok (.if_icmp .ne 115, 3) := by decide +kernel
theorem dX8_part_22 : decode cX8_part 22 = .ok (.aload_n 0, 1) := by decide +kernel
theorem dX8_part_23 : decode cX8_part 23 = .ok (.getfield 98, 3) := by decide +kernel
theorem dX8_part_26 : decode cX8_part 26 = .ok (.bipush 6, 2) := by decide +kernel
theorem dX8_part_28 : decode cX8_part 28 = .ok (.if_icmp .ge 106, 3) := by decide +kernel
theorem dX8_part_31 : decode cX8_part 31 = .ok (.aload_n 0, 1) := by decide +kernel
theorem dX8_part_32 : decode cX8_part 32 = .ok (.dup, 1) := by decide +kernel
theorem dX8_part_33 : decode cX8_part 33 = .ok (.getfield 93, 3) := by decide +kernel
theorem dX8_part_36 : decode cX8_part 36 = .ok (.iconst 1, 1) := by decide +kernel
theorem dX8_part_37 : decode cX8_part 37 = .ok (.iadd, 1) := by decide +kernel
theorem dX8_part_38 : decode cX8_part 38 = .ok (.putfield 93, 3) := by decide +kernel
theorem dX8_part_41 : decode cX8_part 41 = .ok (.iconst 4, 1) := by decide +kernel
theorem dX8_part_42 : decode cX8_part 42 = .ok (.aload_n 0, 1) := by decide +kernel
theorem dX8_part_43 : decode cX8_part 43 = .ok (.getfield 98, 3) := by decide +kernel
theorem dX8_part_46 : decode cX8_part 46 = .ok (.imul, 1) := by decide +kernel
theorem dX8_part_47 : decode cX8_part 47 = .ok (.istore_n 2, 1) := by decide +kernel
theorem dX8_part_48 : decode cX8_part 48 = .ok (.aload_n 0, 1) := by decide +kernel
theorem dX8_part_49 : decode cX8_part 49 = .ok (.getfield 19, 3) := by decide +kernel
theorem dX8_part_52 : decode cX8_part 52 = .ok (.iload_n 2, 1) := by decide +kernel
theorem dX8_part_53 : decode cX8_part 53 = .ok (.iconst 1, 1) := by decide +kernel
theorem dX8_part_54 : decode cX8_part 54 = .ok (.iadd, 1) := by decide +kernel
theorem dX8_part_55 : decode cX8_part 55 = .ok (.aload_n 0, 1) := by decide +kernel
theorem dX8_part_56 : decode cX8_part 56 = .ok (.iconst 2, 1) := by decide +kernel
theorem dX8_part_57 : decode cX8_part 57 = .ok (.iconst 5, 1) := by decide +kernel
theorem dX8_part_58 : decode cX8_part 58 = .ok (.bipush 60, 2) := by decide +kernel
theorem dX8_part_60 : decode cX8_part 60 = .ok (.invokevirtual 101, 3) := by decide +kernel
theorem dX8_part_63 : decode cX8_part 63 = .ok (.iastore, 1) := by decide +kernel
theorem dX8_part_64 : decode cX8_part 64 = .ok (.aload_n 0, 1) := by decide +kernel
theorem dX8_part_65 : decode cX8_part 65 = .ok (.getfield 19, 3) := by decide +kernel
theorem dX8_part_68 : decode cX8_part 68 = .ok (.iload_n 2, 1) := by decide +kernel
theorem dX8_part_69 : decode cX8_part 69 = .ok (.iconst 2, 1) := by decide +kernel
theorem dX8_part_70 : decode cX8_part 70 = .ok (.iadd, 1) := by decide +kernel
theorem dX8_part_71 : decode cX8_part 71 = .ok (.iload_n 1, 1) := by decide +kernel
theorem dX8_part_72 : decode cX8_part 72 = .ok (.bipush 105, 2) := by decide +kernel
theorem dX8_part_74 : decode cX8_part 74 = .ok (.if_icmp .ne 7, 3) := by decide +kernel
theorem dX8_part_77 : decode cX8_part 77 = .ok (.iconst 0, 1) := by decide +kernel
theorem dX8_part_78 : decode cX8_part 78 = .ok (.goto 4, 3) := by decide +kernel
theorem dX8_part_81 : decode cX8_part 81 = .ok (.iconst 1, 1) := by decide +kernel
theorem dX8_part_82 : decode cX8_part 82 = .ok (.iastore, 1) := by decide +kernel
theorem dX8_part_83 : decode cX8_part 83 = .ok (.aload_n 0, 1) := by decide +kernel
theorem dX8_part_84 : decode cX8_part 84 = .ok (.getfield 19, 3) := by decide +kernel
theorem dX8_part_87 : decode cX8_part 87 = .ok (.iload_n 2, 1) := by decide +kernel
theorem dX8_part_88 : decode cX8_part 88 = .ok (.iconst 3, 1) := by decide +kernel
theorem dX8_part_89 : decode cX8_part 89 = .ok (.iadd, 1) := by decide +kernel
theorem dX8_part_90 : decode cX8_part 90 = .ok (.aload_n 0, 1) := by decide +kernel
theorem dX8_part_91 : decode cX8_part 91 = .ok (.iconst 2, 1) := by decide +kernel
theorem dX8_part_92 : decode cX8_part 92 = .ok (.iconst 0, 1) := by decide +kernel
theorem dX8_part_93 : decode cX8_part 93 = .ok (.bipush 20, 2) := by decide +kernel
theorem dX8_part_95 : decode cX8_part 95 = .ok (.invokevirtual 101, 3) := by decide +kernel
theorem dX8_part_98 : decode cX8_part 98 = .ok (.iastore, 1) := by decide +kernel
theorem dX8_part_99 : decode cX8_part 99 = .ok (.aload_n 0, 1) := by decide +kernel
theorem dX8_part_100 : decode cX8_part 100 = .ok (.getfield 19, 3) := by decide +kernel
theorem dX8_part_103 : decode cX8_part 103 = .ok (.iload_n 2, 1) := by decide +kernel
theorem dX8_part_104 : decode cX8_part 104 = .ok (.iconst 4, 1) := by decide +kernel
theorem dX8_part_105 : decode cX8_part 105 = .ok (.iadd, 1) := by decide +kernel
theorem dX8_part_106 : decode cX8_part 106 = .ok (.aload_n 0, 1) := by decide +kernel
theorem dX8_part_107 : decode cX8_part 107 = .ok (.iconst 2, 1) := by decide +kernel
theorem dX8_part_108 : decode cX8_part 108 = .ok (.iconst 0, 1) := by decide +kernel
theorem dX8_part_109 : decode cX8_part 109 = .ok (.aload_n 0, 1) := by decide +kernel
theorem dX8_part_110 : decode cX8_part 110 = .ok (.getfield 19, 3) := by decide +kernel
theorem dX8_part_113 : decode cX8_part 113 = .ok (.iconst 0, 1) := by decide +kernel
theorem dX8_part_114 : decode cX8_part 114 = .ok (.iaload, 1) := by decide +kernel
theorem dX8_part_115 : decode cX8_part 115 = .ok (.iconst 1, 1) := by decide +kernel
theorem dX8_part_116 : decode cX8_part 116 = .ok (.isub, 1) := by decide +kernel
theorem dX8_part_117 : decode cX8_part 117 = .ok (.invokevirtual 101, 3) := by decide +kernel
theorem dX8_part_120 : decode cX8_part 120 = .ok (.iastore, 1) := by decide +kernel
theorem dX8_part_121 : decode cX8_part 121 = .ok (.aload_n 0, 1) := by decide +kernel
theorem dX8_part_122 : decode cX8_part 122 = .ok (.dup, 1) := by decide +kernel
theorem dX8_part_123 : decode cX8_part 123 = .ok (.getfield 98, 3) := by decide +kernel
theorem dX8_part_126 : decode cX8_part 126 = .ok (.iconst 1, 1) := by decide +kernel
theorem dX8_part_127 : decode cX8_part 127 = .ok (.iadd, 1) := by decide +kernel
theorem dX8_part_128 : decode cX8_part 128 = .ok (.putfield 98, 3) := by decide +kernel
theorem dX8_part_131 : decode cX8_part 131 = .ok (.goto 100, 3) := by decide +kernel
theorem dX8_part_134 : decode cX8_part 134 = .ok (.iload_n 1, 1) := by decide +kernel
theorem dX8_part_135 : decode cX8_part 135 = .ok (.bipush 115, 2) := by decide +kernel
theorem dX8_part_137 : decode cX8_part 137 = .ok (.if_icmp .ne 89, 3) := by decide +kernel
theorem dX8_part_140 : decode cX8_part 140 = .ok (.aload_n 0, 1) := by decide +kernel
theorem dX8_part_141 : decode cX8_part 141 = .ok (.getfield 19, 3) := by decide +kernel
theorem dX8_part_144 : decode cX8_part 144 = .ok (.bipush 25, 2) := by decide +kernel
theorem dX8_part_146 : decode cX8_part 146 = .ok (.iaload, 1) := by decide +kernel
theorem dX8_part_147 : decode cX8_part 147 = .ok (.bipush 8, 2) := by decide +kernel
theorem dX8_part_149 : decode cX8_part 149 = .ok (.if_icmp .ge 77, 3) := by decide +kernel
theorem dX8_part_152 : decode cX8_part 152 = .ok (.aload_n 0, 1) := by decide +kernel
theorem dX8_part_153 : decode cX8_part 153 = .ok (.dup, 1) := by decide +kernel
theorem dX8_part_154 : decode cX8_part 154 = .ok (.getfield 93, 3) := by decide +kernel
theorem dX8_part_157 : decode cX8_part 157 = .ok (.iconst 1, 1) := by decide +kernel
theorem dX8_part_158 : decode cX8_part 158 = .ok (.iadd, 1) := by decide +kernel
theorem dX8_part_159 : decode cX8_part 159 = .ok (.putfield 93, 3) := by decide +kernel
theorem dX8_part_162 : decode cX8_part 162 = .ok (.bipush 26, 2) := by decide +kernel
theorem dX8_part_164 : decode cX8_part 164 = .ok (.iconst 2, 1) := by decide +kernel
theorem dX8_part_165 : decode cX8_part 165 = .ok (.aload_n 0, 1) := by decide +kernel
theorem dX8_part_166 : decode cX8_part 166 = .ok (.getfield 19, 3) := by decide +kernel
theorem dX8_part_169 : decode cX8_part 169 = .ok (.bipush 25, 2) := by decide +kernel
theorem dX8_part_171 : decode cX8_part 171 = .ok (.iaload, 1) := by decide +kernel
theorem dX8_part_172 : decode cX8_part 172 = .ok (.imul, 1) := by decide +kernel
theorem dX8_part_173 : decode cX8_part 173 = .ok (.iadd, 1) := by decide +kernel
theorem dX8_part_174 : decode cX8_part 174 = .ok (.istore_n 2, 1) := by decide +kernel
theorem dX8_part_175 : decode cX8_part 175 = .ok (.aload_n 0, 1) := by decide +kernel
theorem dX8_part_176 : decode cX8_part 176 = .ok (.getfield 19, 3) := by decide +kernel
theorem dX8_part_179 : decode cX8_part 179 = .ok (.iload_n 2, 1) := by decide +kernel
theorem dX8_part_180 : decode cX8_part 180 = .ok (.aload_n 0, 1) := by decide +kernel
theorem dX8_part_181 : decode cX8_part 181 = .ok (.iconst 2, 1) := by decide +kernel
theorem dX8_part_182 : decode cX8_part 182 = .ok (.iconst 0, 1) := by decide +kernel
theorem dX8_part_183 : decode cX8_part 183 = .ok (.aload_n 0, 1) := by decide +kernel
theorem dX8_part_184 : decode cX8_part 184 = .ok (.getfield 19, 3) := by decide +kernel
theorem dX8_part_187 : decode cX8_part 187 = .ok (.iconst 0, 1) := by decide +kernel
theorem dX8_part_188 : decode cX8_part 188 = .ok (.iaload, 1) := by decide +kernel
theorem dX8_part_189 : decode cX8_part 189 = .ok (.iconst 1, 1) := by decide +kernel
theorem dX8_part_190 : decode cX8_part 190 = .ok (.isub, 1) := by decide +kernel
theorem dX8_part_191 : decode cX8_part 191 = .ok (.invokevirtual 101, 3) := by decide +kernel
theorem dX8_part_194 : decode cX8_part 194 = .ok (.iastore, 1) := by decide +kernel
theorem dX8_part_195 : decode cX8_part 195 = .ok (.aload_n 0, 1) := by decide +kernel
theorem dX8_part_196 : decode cX8_part 196 = .ok (.getfield 19, 3) := by decide +kernel
theorem dX8_part_199 : decode cX8_part 199 = .ok (.iload_n 2, 1) := by decide +kernel
theorem dX8_part_200 : decode cX8_part 200 = .ok (.iconst 1, 1) := by decide +kernel
theorem dX8_part_201 : decode cX8_part 201 = .ok (.iadd, 1) := by decide +kernel
theorem dX8_part_202 : decode cX8_part 202 = .ok (.aload_n 0, 1) := by decide +kernel
theorem dX8_part_203 : decode cX8_part 203 = .ok (.iconst 3, 1) := by decide +kernel
theorem dX8_part_204 : decode cX8_part 204 = .ok (.iconst 0, 1) := by decide +kernel
theorem dX8_part_205 : decode cX8_part 205 = .ok (.sipush 300, 3) := by decide +kernel
theorem dX8_part_208 : decode cX8_part 208 = .ok (.invokevirtual 101, 3) := by decide +kernel
theorem dX8_part_211 : decode cX8_part 211 = .ok (.iastore, 1) := by decide +kernel
theorem dX8_part_212 : decode cX8_part 212 = .ok (.aload_n 0, 1) := by decide +kernel
theorem dX8_part_213 : decode cX8_part 213 = .ok (.getfield 19, 3) := by decide +kernel
theorem dX8_part_216 : decode cX8_part 216 = .ok (.bipush 25, 2) := by decide +kernel
theorem dX8_part_218 : decode cX8_part 218 = .ok (.dup2, 1) := by decide +kernel
theorem dX8_part_219 : decode cX8_part 219 = .ok (.iaload, 1) := by decide +kernel
theorem dX8_part_220 : decode cX8_part 220 = .ok (.iconst 1, 1) := by decide +kernel
theorem dX8_part_221 : decode cX8_part 221 = .ok (.iadd, 1) := by decide +kernel
theorem dX8_part_222 : decode cX8_part 222 = .ok (.iastore, 1) := by decide +kernel
theorem dX8_part_223 : decode cX8_part 223 = .ok (.goto 8, 3) := by decide +kernel
theorem dX8_part_226 : decode cX8_part 226 = .ok (.aload_n 0, 1) := by decide +kernel
theorem dX8_part_227 : decode cX8_part 227 = .ok (.iconst 1, 1) := by decide +kernel
theorem dX8_part_228 : decode cX8_part 228 = .ok (.putfield 89, 3) := by decide +kernel
theorem dX8_part_231 : decode cX8_part 231 = .ok (.return_, 1) := by decide +kernel
set_option maxRecDepth 20000 in
theorem ggX8_readText_X8_number : GoodIn wsX8_readText wsX8_number := goodIn_r _ [11, 4, 1, 2, 3, 12, 13, 14, 10, 15, 20, 21, 22, 23, 24, 25, 26, 27, 28, 29, 30, 31, 32, 33, 34, 35, 36] (by decide +kernel) (by decide +kernel)
set_option maxRecDepth 20000 in
theorem gX8_readText_X8_number : GoodIn wsX8_readText (wsV RX8 101 RX8 yX8_number wsX8_number) := goodIn_app (goodIn_of _ (by decide +kernel)) ggX8_readText_X8_number
set_option maxRecDepth 20000 in
theorem ggX8_readText_X8_part : GoodIn wsX8_readText wsX8_part := goodIn_r _ [19, 3, 1, 5, 6, 4, 7, 8, 9, 10, 11, 2, 12, 13, 14, 15, 20, 21, 22, 23, 24, 25, 26, 27, 28, 29, 30, 31, 32, 33, 34, 35, 36] (by decide +kernel) (by decide +kernel)
set_option maxRecDepth 20000 in
theorem gX8_readText_X8_part : GoodIn wsX8_readText (wsV RX8 104 RX8 yX8_part wsX8_part) := goodIn_app (goodIn_of _ (by decide +kernel)) ggX8_readText_X8_part
theorem dX8_readText_0 : decode cX8_readText 0 = .ok (.aload_n 0, 1) := by decide +kernel
theorem dX8_readText_1 : decode cX8_readText 1 = .ok (.iconst 0, 1) := by decide +kernel
theorem dX8_readText_2 : decode cX8_readText 2 = .ok (.putfield 93, 3) := by decide +kernel
theorem dX8_readText_5 : decode cX8_readText 5 = .ok (.aload_n 0, 1) := by decide +kernel
theorem dX8_readText_6 : decode cX8_readText 6 = .ok (.aload_n 0, 1) := by decide +kernel
theorem dX8_readText_7 : decode cX8_readText 7 = .ok (.getfield 86, 3) := by decide +kernel
theorem dX8_readText_10 : decode cX8_readText 10 = .ok (.ifCond .eq 14, 3) := by decide +kernel
theorem dX8_readText_13 : decode cX8_readText 13 = .ok (.aload_n 0, 1) := by decide +kernel
theorem dX8_readText_14 : decode cX8_readText 14 = .ok (.getfield 16, 3) := by decide +kernel
theorem dX8_readText_17 : decode cX8_readText 17 = .ok (.iconst 0, 1) := by decide +kernel
theorem dX8_readText_18 : decode cX8_readText 18 = .ok (.iaload, 1) := by decide +kernel
theorem dX8_readText_19 : decode cX8_readText 19 = .ok (.bipush 69, 2) := by decide +kernel
theorem dX8_readText_21 : decode cX8_readText 21 = .ok (.if_icmp .eq 7, 3) := by decide +kernel
theorem dX8_readText_24 : decode cX8_readText 24 = .ok (.iconst 1, 1) := by decide +kernel
theorem dX8_readText_25 : decode cX8_readText 25 = .ok (.goto 4, 3) := by decide +kernel
theorem dX8_readText_28 : decode cX8_readText 28 = .ok (.iconst 0, 1) := by decide +kernel
theorem dX8_readText_29 : decode cX8_readText 29 = .ok (.putfield 89, 3) := by decide +kernel
theorem dX8_readText_32 : decode cX8_readText 32 = .ok (.aload_n 0, 1) := by decide +kernel
theorem dX8_readText_33 : decode cX8_readText 33 = .ok (.iconst 0, 1) := by decide +kernel
theorem dX8_readText_34 : decode cX8_readText 34 = .ok (.putfield 98, 3) := by decide +kernel
theorem dX8_readText_37 : decode cX8_readText 37 = .ok (.aload_n 0, 1) := by decide +kernel
theorem dX8_readText_38 : decode cX8_readText 38 = .ok (.getfield 19, 3) := by decide +kernel
theorem dX8_readText_41 : decode cX8_readText 41 = .ok (.bipush 25, 2) := by decide +kernel
theorem dX8_readText_43 : decode cX8_readText 43 = .ok (.iconst 0, 1) := by decide +kernel
theorem dX8_readText_44 : decode cX8_readText 44 = .ok (.iastore, 1) := by decide +kernel
theorem dX8_readText_45 : decode cX8_readText 45 = .ok (.aload_n 0, 1) := by decide +kernel
theorem dX8_readText_46 : decode cX8_readText 46 = .ok (.getfield 89, 3) := by decide +kernel
theorem dX8_readText_49 : decode cX8_readText 49 = .ok (.ifCond .ne 23, 3) := by decide +kernel
theorem dX8_readText_52 : decode cX8_readText 52 = .ok (.aload_n 0, 1) := by decide +kernel
theorem dX8_readText_53 : decode cX8_readText 53 = .ok (.iconst 1, 1) := by decide +kernel
theorem dX8_readText_54 : decode cX8_readText 54 = .ok (.putfield 93, 3) := by decide +kernel
theorem dX8_readText_57 : decode cX8_readText 57 = .ok (.aload_n 0, 1) := by decide +kernel
theorem dX8_readText_58 : decode cX8_readText 58 = .ok (.getfield 19, 3) := by decide +kernel
theorem dX8_readText_61 : decode cX8_readText 61 = .ok (.iconst 0, 1) := by decide +kernel
theorem dX8_readText_62 : decode cX8_readText 62 = .ok (.aload_n 0, 1) := by decide +kernel
theorem dX8_readText_63 : decode cX8_readText 63 = .ok (.iconst 2, 1) := by decide +kernel
theorem dX8_readText_64 : decode cX8_readText 64 = .ok (.bipush 12, 2) := by decide +kernel
theorem dX8_readText_66 : decode cX8_readText 66 = .ok (.bipush 96, 2) := by decide +kernel
theorem dX8_readText_68 : decode cX8_readText 68 = .ok (.invokevirtual 101, 3) := by decide +kernel
theorem dX8_readText_71 : decode cX8_readText 71 = .ok (.iastore, 1) := by decide +kernel
theorem dX8_readText_72 : decode cX8_readText 72 = .ok (.aload_n 0, 1) := by decide +kernel
theorem dX8_readText_73 : decode cX8_readText 73 = .ok (.getfield 89, 3) := by decide +kernel
theorem dX8_readText_76 : decode cX8_readText 76 = .ok (.ifCond .ne 21, 3) := by decide +kernel
theorem dX8_readText_79 : decode cX8_readText 79 = .ok (.aload_n 0, 1) := by decide +kernel
theorem dX8_readText_80 : decode cX8_readText 80 = .ok (.getfield 93, 3) := by decide +kernel
theorem dX8_readText_83 : decode cX8_readText 83 = .ok (.aload_n 0, 1) := by decide +kernel
theorem dX8_readText_84 : decode cX8_readText 84 = .ok (.getfield 86, 3) := by decide +kernel
theorem dX8_readText_87 : decode cX8_readText 87 = .ok (.if_icmp .ge 10, 3) := by decide +kernel
theorem dX8_readText_90 : decode cX8_readText 90 = .ok (.aload_n 0, 1) := by decide +kernel
theorem dX8_readText_91 : decode cX8_readText 91 = .ok (.invokevirtual 104, 3) := by decide +kernel
theorem dX8_readText_94 : decode cX8_readText 94 = .ok (.goto (-22), 3) := by decide +kernel
theorem dX8_readText_97 : decode cX8_readText 97 = .ok (.aload_n 0, 1) := by decide +kernel
theorem dX8_readText_98 : decode cX8_readText 98 = .ok (.getfield 89, 3) := by decide +kernel
theorem dX8_readText_101 : decode cX8_readText 101 = .ok (.ifCond .eq 10, 3) := by decide +kernel
theorem dX8_readText_104 : decode cX8_readText 104 = .ok (.aload_n 0, 1) := by decide +kernel
theorem dX8_readText_105 : decode cX8_readText 105 = .ok (.getfield 93, 3) := by decide +kernel
theorem dX8_readText_108 : decode cX8_readText 108 = .ok (.goto 5, 3) := by decide +kernel
theorem dX8_readText_111 : decode cX8_readText 111 = .ok (.bipush (-9), 2) := by decide +kernel
theorem dX8_readText_113 : decode cX8_readText 113 = .ok (.ireturn, 1) := by decide +kernel
set_option maxRecDepth 20000 in
theorem ggX8_errorPosition_X8_readText : GoodIn wsX8_errorPosition wsX8_readText := goodIn_r _ [6, 7, 8, 9, 10, 11, 12, 13, 14, 15, 5, 16, 17, 18, 19, 20, 21, 22, 23, 24, 25, 26, 27, 28, 29, 30, 31, 32, 33, 34, 35, 36, 37, 38, 39, 40, 41] (by decide +kernel) (by decide +kernel)
set_option maxRecDepth 20000 in
theorem gX8_errorPosition_X8_readText : GoodIn wsX8_errorPosition (wsV RX8 107 RX8 yX8_readText wsX8_readText) := goodIn_app (goodIn_of _ (by decide +kernel)) ggX8_errorPosition_X8_readText
theorem dX8_errorPosition_0 : decode cX8_errorPosition 0 = .ok (.aload_n 0, 1) := by decide +kernel
theorem dX8_errorPosition_1 : decode cX8_errorPosition 1 = .ok (.iconst 0, 1) := by decide +kernel
theorem dX8_errorPosition_2 : decode cX8_errorPosition 2 = .ok (.putfield 31, 3) := by decide +kernel
theorem dX8_errorPosition_5 : decode cX8_errorPosition 5 = .ok (.aload_n 0, 1) := by decide +kernel
theorem dX8_errorPosition_6 : decode cX8_errorPosition 6 = .ok (.invokevirtual 107, 3) := by decide +kernel
theorem dX8_errorPosition_9 : decode cX8_errorPosition 9 = .ok (.ireturn, 1) := by decide +kernel
set_option maxRecDepth 20000 in
theorem ggX8_load_X8_readText : GoodIn wsX8_load wsX8_readText := goodIn_r _ [13, 14, 15, 16, 17, 4, 3, 18, 19, 20, 12, 21, 22, 23, 24, 25, 26, 27, 28, 29, 34, 35, 36, 37, 38, 39, 40, 41, 42, 43, 44, 45, 46, 47, 48, 49, 50] (by decide +kernel) (by decide +kernel)
set_option maxRecDepth 20000 in
theorem gX8_load_X8_readText : GoodIn wsX8_load (wsV RX8 107 RX8 yX8_readText wsX8_readText) := goodIn_app (goodIn_of _ (by decide +kernel)) ggX8_load_X8_readText
set_option maxRecDepth 20000 in
theorem ggX8_load_X8_refused : GoodIn wsX8_load wsX8_refused := goodIn_r _ [33, 1, 34, 35, 36, 37, 38, 39, 40, 41, 42, 43, 44, 45, 46, 47, 48, 49, 50] (by decide +kernel) (by decide +kernel)
set_option maxRecDepth 20000 in
theorem gX8_load_X8_refused : GoodIn wsX8_load (wsV RX8 83 RX8 yX8_refused wsX8_refused) := goodIn_app (goodIn_of _ (by decide +kernel)) ggX8_load_X8_refused
theorem dX8_load_0 : decode cX8_load 0 = .ok (.aload_n 0, 1) := by decide +kernel
theorem dX8_load_1 : decode cX8_load 1 = .ok (.iconst 0, 1) := by decide +kernel
theorem dX8_load_2 : decode cX8_load 2 = .ok (.putfield 31, 3) := by decide +kernel
theorem dX8_load_5 : decode cX8_load 5 = .ok (.aload_n 0, 1) := by decide +kernel
theorem dX8_load_6 : decode cX8_load 6 = .ok (.invokevirtual 107, 3) := by decide +kernel
theorem dX8_load_9 : decode cX8_load 9 = .ok (.bipush (-9), 2) := by decide +kernel
theorem dX8_load_11 : decode cX8_load 11 = .ok (.if_icmp .eq 9, 3) := by decide +kernel
theorem dX8_load_14 : decode cX8_load 14 = .ok (.aload_n 0, 1) := by decide +kernel
theorem dX8_load_15 : decode cX8_load 15 = .ok (.iconst 1, 1) := by decide +kernel
theorem dX8_load_16 : decode cX8_load 16 = .ok (.invokevirtual 83, 3) := by decide +kernel
theorem dX8_load_19 : decode cX8_load 19 = .ok (.ireturn, 1) := by decide +kernel
theorem dX8_load_20 : decode cX8_load 20 = .ok (.iconst 0, 1) := by decide +kernel
theorem dX8_load_21 : decode cX8_load 21 = .ok (.istore_n 1, 1) := by decide +kernel
theorem dX8_load_22 : decode cX8_load 22 = .ok (.iload_n 1, 1) := by decide +kernel
theorem dX8_load_23 : decode cX8_load 23 = .ok (.bipush 42, 2) := by decide +kernel
theorem dX8_load_25 : decode cX8_load 25 = .ok (.if_icmp .ge 21, 3) := by decide +kernel
theorem dX8_load_28 : decode cX8_load 28 = .ok (.aload_n 0, 1) := by decide +kernel
theorem dX8_load_29 : decode cX8_load 29 = .ok (.getfield 7, 3) := by decide +kernel
theorem dX8_load_32 : decode cX8_load 32 = .ok (.iload_n 1, 1) := by decide +kernel
theorem dX8_load_33 : decode cX8_load 33 = .ok (.aload_n 0, 1) := by decide +kernel
theorem dX8_load_34 : decode cX8_load 34 = .ok (.getfield 19, 3) := by decide +kernel
theorem dX8_load_37 : decode cX8_load 37 = .ok (.iload_n 1, 1) := by decide +kernel
theorem dX8_load_38 : decode cX8_load 38 = .ok (.iaload, 1) := by decide +kernel
theorem dX8_load_39 : decode cX8_load 39 = .ok (.iastore, 1) := by decide +kernel
theorem dX8_load_40 : decode cX8_load 40 = .ok (.iinc 1 1, 3) := by decide +kernel
theorem dX8_load_43 : decode cX8_load 43 = .ok (.goto (-21), 3) := by decide +kernel
theorem dX8_load_46 : decode cX8_load 46 = .ok (.aload_n 0, 1) := by decide +kernel
theorem dX8_load_47 : decode cX8_load 47 = .ok (.aload_n 0, 1) := by decide +kernel
theorem dX8_load_48 : decode cX8_load 48 = .ok (.getfield 98, 3) := by decide +kernel
theorem dX8_load_51 : decode cX8_load 51 = .ok (.putfield 35, 3) := by decide +kernel
theorem dX8_load_54 : decode cX8_load 54 = .ok (.aload_n 0, 1) := by decide +kernel
theorem dX8_load_55 : decode cX8_load 55 = .ok (.iconst 0, 1) := by decide +kernel
theorem dX8_load_56 : decode cX8_load 56 = .ok (.putfield 111, 3) := by decide +kernel
theorem dX8_load_59 : decode cX8_load 59 = .ok (.aload_n 0, 1) := by decide +kernel
theorem dX8_load_60 : decode cX8_load 60 = .ok (.iconst 0, 1) := by decide +kernel
theorem dX8_load_61 : decode cX8_load 61 = .ok (.putfield 114, 3) := by decide +kernel
theorem dX8_load_64 : decode cX8_load 64 = .ok (.aload_n 0, 1) := by decide +kernel
theorem dX8_load_65 : decode cX8_load 65 = .ok (.iconst 0, 1) := by decide +kernel
theorem dX8_load_66 : decode cX8_load 66 = .ok (.putfield 117, 3) := by decide +kernel
theorem dX8_load_69 : decode cX8_load 69 = .ok (.aload_n 0, 1) := by decide +kernel
theorem dX8_load_70 : decode cX8_load 70 = .ok (.getfield 35, 3) := by decide +kernel
theorem dX8_load_73 : decode cX8_load 73 = .ok (.ireturn, 1) := by decide +kernel
set_option maxRecDepth 20000 in
theorem ggX8_leastOfAll_X8_least : GoodIn wsX8_leastOfAll wsX8_least := goodIn_r _ [6, 7, 8, 9, 5, 10, 11, 12, 13, 14, 15, 16, 17, 18, 19, 20, 21, 22, 23, 24, 25, 26, 27, 28, 29, 30, 31, 32, 33, 34, 35] (by decide +kernel) (by decide +kernel)
set_option maxRecDepth 20000 in
theorem gX8_leastOfAll_X8_least : GoodIn wsX8_leastOfAll (wsV RX8 120 RX8 yX8_least wsX8_least) := goodIn_app (goodIn_of _ (by decide +kernel)) ggX8_leastOfAll_X8_least
theorem dX8_leastOfAll_0 : decode cX8_leastOfAll 0 = .ok (.bipush (-9), 2) := by decide +kernel
theorem dX8_leastOfAll_2 : decode cX8_leastOfAll 2 = .ok (.istore_n 1, 1) := by decide +kernel
theorem dX8_leastOfAll_3 : decode cX8_leastOfAll 3 = .ok (.iconst 0, 1) := by decide +kernel
theorem dX8_leastOfAll_4 : decode cX8_leastOfAll 4 = .ok (.istore_n 2, 1) := by decide +kernel
theorem dX8_leastOfAll_5 : decode cX8_leastOfAll 5 = .ok (.iload_n 2, 1) := by decide +kernel
theorem dX8_leastOfAll_6 : decode cX8_leastOfAll 6 = .ok (.aload_n 0, 1) := by decide +kernel
theorem dX8_leastOfAll_7 : decode cX8_leastOfAll 7 = .ok (.getfield 35, 3) := by decide +kernel
theorem dX8_leastOfAll_10 : decode cX8_leastOfAll 10 = .ok (.if_icmp .ge 32, 3) := by decide +kernel
theorem dX8_leastOfAll_13 : decode cX8_leastOfAll 13 = .ok (.aload_n 0, 1) := by decide +kernel
theorem dX8_leastOfAll_14 : decode cX8_leastOfAll 14 = .ok (.iload_n 2, 1) := by decide +kernel
theorem dX8_leastOfAll_15 : decode cX8_leastOfAll 15 = .ok (.invokevirtual 120, 3) := by decide +kernel
theorem dX8_leastOfAll_18 : decode cX8_leastOfAll 18 = .ok (.istore_n 3, 1) := by decide +kernel
theorem dX8_leastOfAll_19 : decode cX8_leastOfAll 19 = .ok (.iload_n 1, 1) := by decide +kernel
theorem dX8_leastOfAll_20 : decode cX8_leastOfAll 20 = .ok (.bipush (-9), 2) := by decide +kernel
theorem dX8_leastOfAll_22 : decode cX8_leastOfAll 22 = .ok (.if_icmp .eq 8, 3) := by decide +kernel
theorem dX8_leastOfAll_25 : decode cX8_leastOfAll 25 = .ok (.iload_n 3, 1) := by decide +kernel
theorem dX8_leastOfAll_26 : decode cX8_leastOfAll 26 = .ok (.iload_n 1, 1) := by decide +kernel
theorem dX8_leastOfAll_27 : decode cX8_leastOfAll 27 = .ok (.if_icmp .ge 7, 3) := by decide +kernel
theorem dX8_leastOfAll_30 : decode cX8_leastOfAll 30 = .ok (.iload_n 3, 1) := by decide +kernel
theorem dX8_leastOfAll_31 : decode cX8_leastOfAll 31 = .ok (.goto 4, 3) := by decide +kernel
theorem dX8_leastOfAll_34 : decode cX8_leastOfAll 34 = .ok (.iload_n 1, 1) := by decide +kernel
theorem dX8_leastOfAll_35 : decode cX8_leastOfAll 35 = .ok (.istore_n 1, 1) := by decide +kernel
theorem dX8_leastOfAll_36 : decode cX8_leastOfAll 36 = .ok (.iinc 2 1, 3) := by decide +kernel
theorem dX8_leastOfAll_39 : decode cX8_leastOfAll 39 = .ok (.goto (-34), 3) := by decide +kernel
theorem dX8_leastOfAll_42 : decode cX8_leastOfAll 42 = .ok (.iload_n 1, 1) := by decide +kernel
theorem dX8_leastOfAll_43 : decode cX8_leastOfAll 43 = .ok (.ireturn, 1) := by decide +kernel
set_option maxRecDepth 20000 in
theorem ggX8_greatestOfAll_X8_greatest : GoodIn wsX8_greatestOfAll wsX8_greatest := goodIn_r _ [6, 7, 8, 9, 5, 10, 11, 12, 13, 14, 15, 16, 17, 18, 19, 20, 21, 22, 23, 24, 25, 26, 27, 28, 29, 30, 31, 32, 33, 34, 35] (by decide +kernel) (by decide +kernel)
set_option maxRecDepth 20000 in
theorem gX8_greatestOfAll_X8_greatest : GoodIn wsX8_greatestOfAll (wsV RX8 123 RX8 yX8_greatest wsX8_greatest) := goodIn_app (goodIn_of _ (by decide +kernel)) ggX8_greatestOfAll_X8_greatest
theorem dX8_greatestOfAll_0 : decode cX8_greatestOfAll 0 = .ok (.bipush (-9), 2) := by decide +kernel
theorem dX8_greatestOfAll_2 : decode cX8_greatestOfAll 2 = .ok (.istore_n 1, 1) := by decide +kernel
theorem dX8_greatestOfAll_3 : decode cX8_greatestOfAll 3 = .ok (.iconst 0, 1) := by decide +kernel
theorem dX8_greatestOfAll_4 : decode cX8_greatestOfAll 4 = .ok (.istore_n 2, 1) := by decide +kernel
theorem dX8_greatestOfAll_5 : decode cX8_greatestOfAll 5 = .ok (.iload_n 2, 1) := by decide +kernel
theorem dX8_greatestOfAll_6 : decode cX8_greatestOfAll 6 = .ok (.aload_n 0, 1) := by decide +kernel
theorem dX8_greatestOfAll_7 : decode cX8_greatestOfAll 7 = .ok (.getfield 35, 3) := by decide +kernel
theorem dX8_greatestOfAll_10 : decode cX8_greatestOfAll 10 = .ok (.if_icmp .ge 26, 3) := by decide +kernel
theorem dX8_greatestOfAll_13 : decode cX8_greatestOfAll 13 = .ok (.aload_n 0, 1) := by decide +kernel
theorem dX8_greatestOfAll_14 : decode cX8_greatestOfAll 14 = .ok (.iload_n 2, 1) := by decide +kernel
theorem dX8_greatestOfAll_15 : decode cX8_greatestOfAll 15 = .ok (.invokevirtual 123, 3) := by decide +kernel
theorem dX8_greatestOfAll_18 : decode cX8_greatestOfAll 18 = .ok (.istore_n 3, 1) := by decide +kernel
theorem dX8_greatestOfAll_19 : decode cX8_greatestOfAll 19 = .ok (.iload_n 3, 1) := by decide +kernel
theorem dX8_greatestOfAll_20 : decode cX8_greatestOfAll 20 = .ok (.iload_n 1, 1) := by decide +kernel
theorem dX8_greatestOfAll_21 : decode cX8_greatestOfAll 21 = .ok (.if_icmp .le 7, 3) := by decide +kernel
theorem dX8_greatestOfAll_24 : decode cX8_greatestOfAll 24 = .ok (.iload_n 3, 1) := by decide +kernel
theorem dX8_greatestOfAll_25 : decode cX8_greatestOfAll 25 = .ok (.goto 4, 3) := by decide +kernel
theorem dX8_greatestOfAll_28 : decode cX8_greatestOfAll 28 = .ok (.iload_n 1, 1) := by decide +kernel
theorem dX8_greatestOfAll_29 : decode cX8_greatestOfAll 29 = .ok (.istore_n 1, 1) := by decide +kernel
theorem dX8_greatestOfAll_30 : decode cX8_greatestOfAll 30 = .ok (.iinc 2 1, 3) := by decide +kernel
theorem dX8_greatestOfAll_33 : decode cX8_greatestOfAll 33 = .ok (.goto (-28), 3) := by decide +kernel
theorem dX8_greatestOfAll_36 : decode cX8_greatestOfAll 36 = .ok (.iload_n 1, 1) := by decide +kernel
theorem dX8_greatestOfAll_37 : decode cX8_greatestOfAll 37 = .ok (.ireturn, 1) := by decide +kernel
set_option maxRecDepth 20000 in
theorem ggX8_about_X8_markAll : GoodIn wsX8_about wsX8_markAll := goodIn_r _ [8, 9, 3, 10, 11, 12, 7, 13, 14, 15, 16, 17, 18, 2, 19, 20, 21, 22, 23, 24, 25, 26, 27, 28, 29, 30, 31, 32, 33, 34, 35, 36, 37, 38, 39, 40, 73, 74, 75, 76, 77, 78, 79, 80, 81, 82, 83, 84, 85, 86, 87, 88, 89] (by decide +kernel) (by decide +kernel)
set_option maxRecDepth 20000 in
theorem gX8_about_X8_markAll : GoodIn wsX8_about (wsV RX8 126 RX8 yX8_markAll wsX8_markAll) := goodIn_app (goodIn_of _ (by decide +kernel)) ggX8_about_X8_markAll
set_option maxRecDepth 20000 in
theorem ggX8_about_X8_leastOfAll : GoodIn wsX8_about wsX8_leastOfAll := goodIn_r _ [44, 3, 45, 46, 47, 7, 48, 34, 35, 36, 37, 2, 19, 20, 21, 22, 38, 39, 40, 73, 74, 75, 76, 77, 78, 79, 80, 81, 82, 83, 84, 85, 86, 87, 88, 89] (by decide +kernel) (by decide +kernel)
set_option maxRecDepth 20000 in
theorem gX8_about_X8_leastOfAll : GoodIn wsX8_about (wsV RX8 129 RX8 yX8_leastOfAll wsX8_leastOfAll) := goodIn_app (goodIn_of _ (by decide +kernel)) ggX8_about_X8_leastOfAll
set_option maxRecDepth 20000 in
theorem ggX8_about_X8_greatestOfAll : GoodIn wsX8_about wsX8_greatestOfAll := goodIn_r _ [52, 3, 53, 54, 55, 7, 56, 34, 35, 36, 37, 2, 19, 20, 21, 22, 38, 39, 40, 73, 74, 75, 76, 77, 78, 79, 80, 81, 82, 83, 84, 85, 86, 87, 88, 89] (by decide +kernel) (by decide +kernel)
set_option maxRecDepth 20000 in
theorem gX8_about_X8_greatestOfAll : GoodIn wsX8_about (wsV RX8 132 RX8 yX8_greatestOfAll wsX8_greatestOfAll) := goodIn_app (goodIn_of _ (by decide +kernel)) ggX8_about_X8_greatestOfAll
set_option maxRecDepth 20000 in
theorem ggX8_about_X8_fitting : GoodIn wsX8_about wsX8_fitting := goodIn_r _ [60, 3, 61, 62, 63, 7, 64, 2, 65, 66, 67, 68, 15, 16, 17, 18, 19, 20, 21, 22, 23, 24, 25, 26, 27, 28, 29, 30, 31, 32, 33, 34, 35, 36, 37, 38, 39, 40, 73, 74, 75, 76, 77, 78, 79, 80, 81, 82, 83, 84, 85, 86, 87, 88, 89] (by decide +kernel) (by decide +kernel)
set_option maxRecDepth 20000 in
theorem gX8_about_X8_fitting : GoodIn wsX8_about (wsV RX8 135 RX8 yX8_fitting wsX8_fitting) := goodIn_app (goodIn_of _ (by decide +kernel)) ggX8_about_X8_fitting
set_option maxRecDepth 20000 in
theorem ggX8_about_X8_refused : GoodIn wsX8_about wsX8_refused := goodIn_r _ [72, 1, 73, 74, 75, 76, 77, 78, 79, 80, 81, 82, 83, 84, 85, 86, 87, 88, 89] (by decide +kernel) (by decide +kernel)
set_option maxRecDepth 20000 in
theorem gX8_about_X8_refused : GoodIn wsX8_about (wsV RX8 83 RX8 yX8_refused wsX8_refused) := goodIn_app (goodIn_of _ (by decide +kernel)) ggX8_about_X8_refused
theorem dX8_about_0 : decode cX8_about 0 = .ok (.aload_n 0, 1) := by decide +kernel
theorem dX8_about_1 : decode cX8_about 1 = .ok (.iconst 0, 1) := by decide +kernel
theorem dX8_about_2 : decode cX8_about 2 = .ok (.putfield 31, 3) := by decide +kernel
theorem dX8_about_5 : decode cX8_about 5 = .ok (.iload_n 1, 1) := by decide +kernel
theorem dX8_about_6 : decode cX8_about 6 = .ok (.tableswitch 82 0 6 #[42, 49, 54, 62, 67, 72, 77], 42) := by decide +kernel
theorem dX8_about_48 : decode cX8_about 48 = .ok (.aload_n 0, 1) := by decide +kernel
theorem dX8_about_49 : decode cX8_about 49 = .ok (.getfield 7, 3) := by decide +kernel
theorem dX8_about_52 : decode cX8_about 52 = .ok (.iconst 0, 1) := by decide +kernel
theorem dX8_about_53 : decode cX8_about 53 = .ok (.iaload, 1) := by decide +kernel
theorem dX8_about_54 : decode cX8_about 54 = .ok (.ireturn, 1) := by decide +kernel
theorem dX8_about_55 : decode cX8_about 55 = .ok (.aload_n 0, 1) := by decide +kernel
theorem dX8_about_56 : decode cX8_about 56 = .ok (.getfield 35, 3) := by decide +kernel
theorem dX8_about_59 : decode cX8_about 59 = .ok (.ireturn, 1) := by decide +kernel
theorem dX8_about_60 : decode cX8_about 60 = .ok (.aload_n 0, 1) := by decide +kernel
theorem dX8_about_61 : decode cX8_about 61 = .ok (.getfield 7, 3) := by decide +kernel
theorem dX8_about_64 : decode cX8_about 64 = .ok (.bipush 25, 2) := by decide +kernel
theorem dX8_about_66 : decode cX8_about 66 = .ok (.iaload, 1) := by decide +kernel
theorem dX8_about_67 : decode cX8_about 67 = .ok (.ireturn, 1) := by decide +kernel
theorem dX8_about_68 : decode cX8_about 68 = .ok (.aload_n 0, 1) := by decide +kernel
theorem dX8_about_69 : decode cX8_about 69 = .ok (.invokevirtual 126, 3) := by decide +kernel
theorem dX8_about_72 : decode cX8_about 72 = .ok (.ireturn, 1) := by decide +kernel
theorem dX8_about_73 : decode cX8_about 73 = .ok (.aload_n 0, 1) := by decide +kernel
theorem dX8_about_74 : decode cX8_about 74 = .ok (.invokevirtual 129, 3) := by decide +kernel
theorem dX8_about_77 : decode cX8_about 77 = .ok (.ireturn, 1) := by decide +kernel
theorem dX8_about_78 : decode cX8_about 78 = .ok (.aload_n 0, 1) := by decide +kernel
theorem dX8_about_79 : decode cX8_about 79 = .ok (.invokevirtual 132, 3) := by decide +kernel
theorem dX8_about_82 : decode cX8_about 82 = .ok (.ireturn, 1) := by decide +kernel
theorem dX8_about_83 : decode cX8_about 83 = .ok (.aload_n 0, 1) := by decide +kernel
theorem dX8_about_84 : decode cX8_about 84 = .ok (.invokevirtual 135, 3) := by decide +kernel
theorem dX8_about_87 : decode cX8_about 87 = .ok (.ireturn, 1) := by decide +kernel
theorem dX8_about_88 : decode cX8_about 88 = .ok (.aload_n 0, 1) := by decide +kernel
theorem dX8_about_89 : decode cX8_about 89 = .ok (.iconst 1, 1) := by decide +kernel
theorem dX8_about_90 : decode cX8_about 90 = .ok (.invokevirtual 83, 3) := by decide +kernel
theorem dX8_about_93 : decode cX8_about 93 = .ok (.ireturn, 1) := by decide +kernel
set_option maxRecDepth 20000 in
theorem ggX8_layer_X8_isLayer : GoodIn wsX8_layer wsX8_isLayer := goodIn_r _ [7, 8, 9, 10, 6, 11, 68, 69, 70, 71, 72, 73, 74, 75, 76, 77, 78, 79, 80, 81, 82, 83, 84] (by decide +kernel) (by decide +kernel)
set_option maxRecDepth 20000 in
theorem gX8_layer_X8_isLayer : GoodIn wsX8_layer (wsV RX8 138 RX8 yX8_isLayer wsX8_isLayer) := goodIn_app (goodIn_of _ (by decide +kernel)) ggX8_layer_X8_isLayer
set_option maxRecDepth 20000 in
theorem ggX8_layer_X8_refused : GoodIn wsX8_layer wsX8_refused := goodIn_r _ [15, 1, 68, 69, 70, 71, 72, 73, 74, 75, 76, 77, 78, 79, 80, 81, 82, 83, 84] (by decide +kernel) (by decide +kernel)
set_option maxRecDepth 20000 in
theorem gX8_layer_X8_refused : GoodIn wsX8_layer (wsV RX8 83 RX8 yX8_refused wsX8_refused) := goodIn_app (goodIn_of _ (by decide +kernel)) ggX8_layer_X8_refused
set_option maxRecDepth 20000 in
theorem ggX8_layer_X8_period : GoodIn wsX8_layer wsX8_period := goodIn_r _ [19, 2, 20, 21, 22, 6, 23, 24, 25, 26, 68, 69, 70, 71, 72, 73, 74, 75, 76, 77, 78, 79, 80, 81, 82, 83, 84] (by decide +kernel) (by decide +kernel)
set_option maxRecDepth 20000 in
theorem gX8_layer_X8_period : GoodIn wsX8_layer (wsV RX8 50 RX8 yX8_period wsX8_period) := goodIn_app (goodIn_of _ (by decide +kernel)) ggX8_layer_X8_period
set_option maxRecDepth 20000 in
theorem ggX8_layer_X8_turns : GoodIn wsX8_layer wsX8_turns := goodIn_r _ [30, 2, 16, 17, 18, 6, 19, 20, 21, 22, 23, 24, 25, 26, 68, 69, 70, 71, 72, 73, 74, 75, 76, 77, 78, 79, 80, 81, 82, 83, 84] (by decide +kernel) (by decide +kernel)
set_option maxRecDepth 20000 in
theorem gX8_layer_X8_turns : GoodIn wsX8_layer (wsV RX8 141 RX8 yX8_turns wsX8_turns) := goodIn_app (goodIn_of _ (by decide +kernel)) ggX8_layer_X8_turns
set_option maxRecDepth 20000 in
theorem ggX8_layer_X8_lobes : GoodIn wsX8_layer wsX8_lobes := goodIn_r _ [34, 16, 17, 18, 6, 19, 2, 20, 21, 22, 23, 24, 25, 26, 68, 69, 70, 71, 72, 73, 74, 75, 76, 77, 78, 79, 80, 81, 82, 83, 84] (by decide +kernel) (by decide +kernel)
set_option maxRecDepth 20000 in
theorem gX8_layer_X8_lobes : GoodIn wsX8_layer (wsV RX8 144 RX8 yX8_lobes wsX8_lobes) := goodIn_app (goodIn_of _ (by decide +kernel)) ggX8_layer_X8_lobes
set_option maxRecDepth 20000 in
theorem ggX8_layer_X8_size : GoodIn wsX8_layer wsX8_size := goodIn_r _ [38, 39, 40, 41, 42, 6, 43, 44, 16, 17, 18, 19, 2, 20, 21, 22, 23, 24, 25, 26, 45, 46, 47, 48, 49, 50, 51, 52, 53, 54, 55, 56, 57, 58, 59, 68, 69, 70, 71, 72, 73, 74, 75, 76, 77, 78, 79, 80, 81, 82, 83, 84] (by decide +kernel) (by decide +kernel)
set_option maxRecDepth 20000 in
theorem gX8_layer_X8_size : GoodIn wsX8_layer (wsV RX8 147 RX8 yX8_size wsX8_size) := goodIn_app (goodIn_of _ (by decide +kernel)) ggX8_layer_X8_size
set_option maxRecDepth 20000 in
theorem ggX8_layer_X8_least : GoodIn wsX8_layer wsX8_least := goodIn_r _ [63, 53, 54, 55, 6, 56, 2, 20, 21, 22, 23, 57, 58, 59, 68, 69, 70, 71, 72, 73, 74, 75, 76, 77, 78, 79, 80, 81, 82, 83, 84] (by decide +kernel) (by decide +kernel)
set_option maxRecDepth 20000 in
theorem gX8_layer_X8_least : GoodIn wsX8_layer (wsV RX8 120 RX8 yX8_least wsX8_least) := goodIn_app (goodIn_of _ (by decide +kernel)) ggX8_layer_X8_least
set_option maxRecDepth 20000 in
theorem ggX8_layer_X8_greatest : GoodIn wsX8_layer wsX8_greatest := goodIn_r _ [67, 53, 54, 55, 6, 56, 2, 20, 21, 22, 23, 57, 58, 59, 68, 69, 70, 71, 72, 73, 74, 75, 76, 77, 78, 79, 80, 81, 82, 83, 84] (by decide +kernel) (by decide +kernel)
set_option maxRecDepth 20000 in
theorem gX8_layer_X8_greatest : GoodIn wsX8_layer (wsV RX8 123 RX8 yX8_greatest wsX8_greatest) := goodIn_app (goodIn_of _ (by decide +kernel)) ggX8_layer_X8_greatest
theorem dX8_layer_0 : decode cX8_layer 0 = .ok (.aload_n 0, 1) := by decide +kernel
theorem dX8_layer_1 : decode cX8_layer 1 = .ok (.iconst 0, 1) := by decide +kernel
theorem dX8_layer_2 : decode cX8_layer 2 = .ok (.putfield 31, 3) := by decide +kernel
theorem dX8_layer_5 : decode cX8_layer 5 = .ok (.aload_n 0, 1) := by decide +kernel
theorem dX8_layer_6 : decode cX8_layer 6 = .ok (.iload_n 1, 1) := by decide +kernel
theorem dX8_layer_7 : decode cX8_layer 7 = .ok (.invokevirtual 138, 3) := by decide +kernel
theorem dX8_layer_10 : decode cX8_layer 10 = .ok (.ifCond .ne 9, 3) := by decide +kernel
theorem dX8_layer_13 : decode cX8_layer 13 = .ok (.aload_n 0, 1) := by decide +kernel
theorem dX8_layer_14 : decode cX8_layer 14 = .ok (.iconst 1, 1) := by decide +kernel
theorem dX8_layer_15 : decode cX8_layer 15 = .ok (.invokevirtual 83, 3) := by decide +kernel
theorem dX8_layer_18 : decode cX8_layer 18 = .ok (.ireturn, 1) := by decide +kernel
theorem dX8_layer_19 : decode cX8_layer 19 = .ok (.iload_n 2, 1) := by decide +kernel
theorem dX8_layer_20 : decode cX8_layer 20 = .ok (.tableswitch 105 0 9 #[56, 56, 56, 56, 69, 75, 81, 87, 93, 99], 56) := by decide +kernel
theorem dX8_layer_76 : decode cX8_layer 76 = .ok (.aload_n 0, 1) := by decide +kernel
theorem dX8_layer_77 : decode cX8_layer 77 = .ok (.getfield 7, 3) := by decide +kernel
theorem dX8_layer_80 : decode cX8_layer 80 = .ok (.iconst 4, 1) := by decide +kernel
theorem dX8_layer_81 : decode cX8_layer 81 = .ok (.iload_n 1, 1) := by decide +kernel
theorem dX8_layer_82 : decode cX8_layer 82 = .ok (.imul, 1) := by decide +kernel
theorem dX8_layer_83 : decode cX8_layer 83 = .ok (.iconst 1, 1) := by decide +kernel
theorem dX8_layer_84 : decode cX8_layer 84 = .ok (.iadd, 1) := by decide +kernel
theorem dX8_layer_85 : decode cX8_layer 85 = .ok (.iload_n 2, 1) := by decide +kernel
theorem dX8_layer_86 : decode cX8_layer 86 = .ok (.iadd, 1) := by decide +kernel
theorem dX8_layer_87 : decode cX8_layer 87 = .ok (.iaload, 1) := by decide +kernel
theorem dX8_layer_88 : decode cX8_layer 88 = .ok (.ireturn, 1) := by decide +kernel
theorem dX8_layer_89 : decode cX8_layer 89 = .ok (.aload_n 0, 1) := by decide +kernel
theorem dX8_layer_90 : decode cX8_layer 90 = .ok (.iload_n 1, 1) := by decide +kernel
theorem dX8_layer_91 : decode cX8_layer 91 = .ok (.invokevirtual 50, 3) := by decide +kernel
theorem dX8_layer_94 : decode cX8_layer 94 = .ok (.ireturn, 1) := by decide +kernel
theorem dX8_layer_95 : decode cX8_layer 95 = .ok (.aload_n 0, 1) := by decide +kernel
theorem dX8_layer_96 : decode cX8_layer 96 = .ok (.iload_n 1, 1) := by decide +kernel
theorem dX8_layer_97 : decode cX8_layer 97 = .ok (.invokevirtual 141, 3) := by decide +kernel
theorem dX8_layer_100 : decode cX8_layer 100 = .ok (.ireturn, 1) := by decide +kernel
theorem dX8_layer_101 : decode cX8_layer 101 = .ok (.aload_n 0, 1) := by decide +kernel
theorem dX8_layer_102 : decode cX8_layer 102 = .ok (.iload_n 1, 1) := by decide +kernel
theorem dX8_layer_103 : decode cX8_layer 103 = .ok (.invokevirtual 144, 3) := by decide +kernel
theorem dX8_layer_106 : decode cX8_layer 106 = .ok (.ireturn, 1) := by decide +kernel
theorem dX8_layer_107 : decode cX8_layer 107 = .ok (.aload_n 0, 1) := by decide +kernel
theorem dX8_layer_108 : decode cX8_layer 108 = .ok (.iload_n 1, 1) := by decide +kernel
theorem dX8_layer_109 : decode cX8_layer 109 = .ok (.invokevirtual 147, 3) := by decide +kernel
theorem dX8_layer_112 : decode cX8_layer 112 = .ok (.ireturn, 1) := by decide +kernel
theorem dX8_layer_113 : decode cX8_layer 113 = .ok (.aload_n 0, 1) := by decide +kernel
theorem dX8_layer_114 : decode cX8_layer 114 = .ok (.iload_n 1, 1) := by decide +kernel
theorem dX8_layer_115 : decode cX8_layer 115 = .ok (.invokevirtual 120, 3) := by decide +kernel
theorem dX8_layer_118 : decode cX8_layer 118 = .ok (.ireturn, 1) := by decide +kernel
theorem dX8_layer_119 : decode cX8_layer 119 = .ok (.aload_n 0, 1) := by decide +kernel
theorem dX8_layer_120 : decode cX8_layer 120 = .ok (.iload_n 1, 1) := by decide +kernel
theorem dX8_layer_121 : decode cX8_layer 121 = .ok (.invokevirtual 123, 3) := by decide +kernel
theorem dX8_layer_124 : decode cX8_layer 124 = .ok (.ireturn, 1) := by decide +kernel
theorem dX8_layer_125 : decode cX8_layer 125 = .ok (.aload_n 0, 1) := by decide +kernel
theorem dX8_layer_126 : decode cX8_layer 126 = .ok (.iconst 2, 1) := by decide +kernel
theorem dX8_layer_127 : decode cX8_layer 127 = .ok (.invokevirtual 83, 3) := by decide +kernel
theorem dX8_layer_130 : decode cX8_layer 130 = .ok (.ireturn, 1) := by decide +kernel
set_option maxRecDepth 20000 in
theorem ggX8_pen_X8_isLayer : GoodIn wsX8_pen wsX8_isLayer := goodIn_r _ [7, 8, 9, 10, 6, 11, 31, 32, 33, 34, 35, 36, 37, 38, 39, 40, 41, 42, 43, 44, 45, 46, 47] (by decide +kernel) (by decide +kernel)
set_option maxRecDepth 20000 in
theorem gX8_pen_X8_isLayer : GoodIn wsX8_pen (wsV RX8 138 RX8 yX8_isLayer wsX8_isLayer) := goodIn_app (goodIn_of _ (by decide +kernel)) ggX8_pen_X8_isLayer
set_option maxRecDepth 20000 in
theorem ggX8_pen_X8_refused : GoodIn wsX8_pen wsX8_refused := goodIn_r _ [15, 1, 31, 32, 33, 34, 35, 36, 37, 38, 39, 40, 41, 42, 43, 44, 45, 46, 47] (by decide +kernel) (by decide +kernel)
set_option maxRecDepth 20000 in
theorem gX8_pen_X8_refused : GoodIn wsX8_pen (wsV RX8 83 RX8 yX8_refused wsX8_refused) := goodIn_app (goodIn_of _ (by decide +kernel)) ggX8_pen_X8_refused
set_option maxRecDepth 20000 in
theorem ggX8_pen_X8_start : GoodIn wsX8_pen wsX8_start := goodIn_r _ [19, 2, 31, 32, 33, 34, 35, 36, 37, 38, 39, 40, 41, 42, 43, 44, 45, 46, 47] (by decide +kernel) (by decide +kernel)
set_option maxRecDepth 20000 in
theorem gX8_pen_X8_start : GoodIn wsX8_pen (wsV RX8 57 RX8 yX8_start wsX8_start) := goodIn_app (goodIn_of _ (by decide +kernel)) ggX8_pen_X8_start
set_option maxRecDepth 20000 in
theorem ggX8_pen_X8_radiusAt : GoodIn wsX8_pen wsX8_radiusAt := goodIn_r _ [23, 2, 24, 25, 26, 6, 27, 28, 29, 30, 31, 32, 33, 34, 35, 36, 37, 38, 39, 40, 41, 42, 43, 44, 45, 46, 47] (by decide +kernel) (by decide +kernel)
set_option maxRecDepth 20000 in
theorem gX8_pen_X8_radiusAt : GoodIn wsX8_pen (wsV RX8 60 RX8 yX8_radiusAt wsX8_radiusAt) := goodIn_app (goodIn_of _ (by decide +kernel)) ggX8_pen_X8_radiusAt
theorem dX8_pen_0 : decode cX8_pen 0 = .ok (.aload_n 0, 1) := by decide +kernel
theorem dX8_pen_1 : decode cX8_pen 1 = .ok (.iconst 0, 1) := by decide +kernel
theorem dX8_pen_2 : decode cX8_pen 2 = .ok (.putfield 31, 3) := by decide +kernel
theorem dX8_pen_5 : decode cX8_pen 5 = .ok (.aload_n 0, 1) := by decide +kernel
theorem dX8_pen_6 : decode cX8_pen 6 = .ok (.iload_n 1, 1) := by decide +kernel
theorem dX8_pen_7 : decode cX8_pen 7 = .ok (.invokevirtual 138, 3) := by decide +kernel
theorem dX8_pen_10 : decode cX8_pen 10 = .ok (.ifCond .ne 9, 3) := by decide +kernel
theorem dX8_pen_13 : decode cX8_pen 13 = .ok (.aload_n 0, 1) := by decide +kernel
theorem dX8_pen_14 : decode cX8_pen 14 = .ok (.iconst 1, 1) := by decide +kernel
theorem dX8_pen_15 : decode cX8_pen 15 = .ok (.invokevirtual 83, 3) := by decide +kernel
theorem dX8_pen_18 : decode cX8_pen 18 = .ok (.ireturn, 1) := by decide +kernel
theorem dX8_pen_19 : decode cX8_pen 19 = .ok (.lload_n 2, 1) := by decide +kernel
theorem dX8_pen_20 : decode cX8_pen 20 = .ok (.lconst 0, 1) := by decide +kernel
theorem dX8_pen_21 : decode cX8_pen 21 = .ok (.lcmp, 1) := by decide +kernel
theorem dX8_pen_22 : decode cX8_pen 22 = .ok (.ifCond .ge 9, 3) := by decide +kernel
theorem dX8_pen_25 : decode cX8_pen 25 = .ok (.aload_n 0, 1) := by decide +kernel
theorem dX8_pen_26 : decode cX8_pen 26 = .ok (.iconst 2, 1) := by decide +kernel
theorem dX8_pen_27 : decode cX8_pen 27 = .ok (.invokevirtual 83, 3) := by decide +kernel
theorem dX8_pen_30 : decode cX8_pen 30 = .ok (.ireturn, 1) := by decide +kernel
theorem dX8_pen_31 : decode cX8_pen 31 = .ok (.aload_n 0, 1) := by decide +kernel
theorem dX8_pen_32 : decode cX8_pen 32 = .ok (.iload_n 1, 1) := by decide +kernel
theorem dX8_pen_33 : decode cX8_pen 33 = .ok (.invokevirtual 57, 3) := by decide +kernel
theorem dX8_pen_36 : decode cX8_pen 36 = .ok (.lload_n 2, 1) := by decide +kernel
theorem dX8_pen_37 : decode cX8_pen 37 = .ok (.aload_n 0, 1) := by decide +kernel
theorem dX8_pen_38 : decode cX8_pen 38 = .ok (.getfield 7, 3) := by decide +kernel
theorem dX8_pen_41 : decode cX8_pen 41 = .ok (.iconst 0, 1) := by decide +kernel
theorem dX8_pen_42 : decode cX8_pen 42 = .ok (.iaload, 1) := by decide +kernel
theorem dX8_pen_43 : decode cX8_pen 43 = .ok (.i2l, 1) := by decide +kernel
theorem dX8_pen_44 : decode cX8_pen 44 = .ok (.lrem, 1) := by decide +kernel
theorem dX8_pen_45 : decode cX8_pen 45 = .ok (.l2i, 1) := by decide +kernel
theorem dX8_pen_46 : decode cX8_pen 46 = .ok (.iadd, 1) := by decide +kernel
theorem dX8_pen_47 : decode cX8_pen 47 = .ok (.aload_n 0, 1) := by decide +kernel
theorem dX8_pen_48 : decode cX8_pen 48 = .ok (.getfield 7, 3) := by decide +kernel
theorem dX8_pen_51 : decode cX8_pen 51 = .ok (.iconst 0, 1) := by decide +kernel
theorem dX8_pen_52 : decode cX8_pen 52 = .ok (.iaload, 1) := by decide +kernel
theorem dX8_pen_53 : decode cX8_pen 53 = .ok (.irem, 1) := by decide +kernel
theorem dX8_pen_54 : decode cX8_pen 54 = .ok (.istore 4, 2) := by decide +kernel
theorem dX8_pen_56 : decode cX8_pen 56 = .ok (.sipush 1000, 3) := by decide +kernel
theorem dX8_pen_59 : decode cX8_pen 59 = .ok (.iload 4, 2) := by decide +kernel
theorem dX8_pen_61 : decode cX8_pen 61 = .ok (.imul, 1) := by decide +kernel
theorem dX8_pen_62 : decode cX8_pen 62 = .ok (.aload_n 0, 1) := by decide +kernel
theorem dX8_pen_63 : decode cX8_pen 63 = .ok (.iload_n 1, 1) := by decide +kernel
theorem dX8_pen_64 : decode cX8_pen 64 = .ok (.lload_n 2, 1) := by decide +kernel
theorem dX8_pen_65 : decode cX8_pen 65 = .ok (.invokevirtual 60, 3) := by decide +kernel
theorem dX8_pen_68 : decode cX8_pen 68 = .ok (.iadd, 1) := by decide +kernel
theorem dX8_pen_69 : decode cX8_pen 69 = .ok (.ireturn, 1) := by decide +kernel
set_option maxRecDepth 20000 in
theorem ggX8_isAngle_X8_in : GoodIn wsX8_isAngle wsX8_in := goodIn_r _ [5] (by decide +kernel) (by decide +kernel)
set_option maxRecDepth 20000 in
theorem gX8_isAngle_X8_in : GoodIn wsX8_isAngle (va_wsS RX8 38 yX8_in wsX8_in) := goodIn_app (goodIn_of _ (by decide +kernel)) ggX8_isAngle_X8_in
theorem dX8_isAngle_0 : decode cX8_isAngle 0 = .ok (.iload_n 1, 1) := by decide +kernel
theorem dX8_isAngle_1 : decode cX8_isAngle 1 = .ok (.i2l, 1) := by decide +kernel
theorem dX8_isAngle_2 : decode cX8_isAngle 2 = .ok (.lconst 0, 1) := by decide +kernel
theorem dX8_isAngle_3 : decode cX8_isAngle 3 = .ok (.aload_n 0, 1) := by decide +kernel
theorem dX8_isAngle_4 : decode cX8_isAngle 4 = .ok (.getfield 7, 3) := by decide +kernel
theorem dX8_isAngle_7 : decode cX8_isAngle 7 = .ok (.iconst 0, 1) := by decide +kernel
theorem dX8_isAngle_8 : decode cX8_isAngle 8 = .ok (.iaload, 1) := by decide +kernel
theorem dX8_isAngle_9 : decode cX8_isAngle 9 = .ok (.iconst 1, 1) := by decide +kernel
theorem dX8_isAngle_10 : decode cX8_isAngle 10 = .ok (.isub, 1) := by decide +kernel
theorem dX8_isAngle_11 : decode cX8_isAngle 11 = .ok (.i2l, 1) := by decide +kernel
theorem dX8_isAngle_12 : decode cX8_isAngle 12 = .ok (.invokestatic 38, 3) := by decide +kernel
theorem dX8_isAngle_15 : decode cX8_isAngle 15 = .ok (.ireturn, 1) := by decide +kernel
set_option maxRecDepth 20000 in
theorem ggX8_comes_X8_isLayer : GoodIn wsX8_comes wsX8_isLayer := goodIn_r _ [7, 8, 9, 10, 6, 11, 51, 52, 53, 54, 55, 56, 57, 58, 59, 60, 61, 62, 63, 64, 65, 66, 67] (by decide +kernel) (by decide +kernel)
set_option maxRecDepth 20000 in
theorem gX8_comes_X8_isLayer : GoodIn wsX8_comes (wsV RX8 138 RX8 yX8_isLayer wsX8_isLayer) := goodIn_app (goodIn_of _ (by decide +kernel)) ggX8_comes_X8_isLayer
set_option maxRecDepth 20000 in
theorem ggX8_comes_X8_refused : GoodIn wsX8_comes wsX8_refused := goodIn_r _ [15, 1, 51, 52, 53, 54, 55, 56, 57, 58, 59, 60, 61, 62, 63, 64, 65, 66, 67] (by decide +kernel) (by decide +kernel)
set_option maxRecDepth 20000 in
theorem gX8_comes_X8_refused : GoodIn wsX8_comes (wsV RX8 83 RX8 yX8_refused wsX8_refused) := goodIn_app (goodIn_of _ (by decide +kernel)) ggX8_comes_X8_refused
set_option maxRecDepth 20000 in
theorem ggX8_comes_X8_isAngle : GoodIn wsX8_comes wsX8_isAngle := goodIn_r _ [19, 20, 9, 10, 6, 11, 51, 52, 53, 54, 55, 56, 57, 58, 59, 60, 61, 62, 63, 64, 65, 66, 67] (by decide +kernel) (by decide +kernel)
set_option maxRecDepth 20000 in
theorem gX8_comes_X8_isAngle : GoodIn wsX8_comes (wsV RX8 150 RX8 yX8_isAngle wsX8_isAngle) := goodIn_app (goodIn_of _ (by decide +kernel)) ggX8_comes_X8_isAngle
set_option maxRecDepth 20000 in
theorem ggX8_comes_X8_in : GoodIn wsX8_comes wsX8_in := goodIn_r _ [11] (by decide +kernel) (by decide +kernel)
set_option maxRecDepth 20000 in
theorem gX8_comes_X8_in : GoodIn wsX8_comes (va_wsS RX8 38 yX8_in wsX8_in) := goodIn_app (goodIn_of _ (by decide +kernel)) ggX8_comes_X8_in
set_option maxRecDepth 20000 in
theorem ggX8_comes_X8_comesTo : GoodIn wsX8_comes wsX8_comesTo := goodIn_r _ [24, 25, 26, 27, 6, 28, 20, 29, 30, 31, 32, 33, 34, 35, 36, 37, 38, 39, 40, 41, 42, 43, 44, 45, 46, 47, 48, 49, 50, 51, 52, 53, 54, 55, 56, 57, 58, 59, 60, 61, 62, 63, 64, 65, 66, 67] (by decide +kernel) (by decide +kernel)
set_option maxRecDepth 20000 in
theorem gX8_comes_X8_comesTo : GoodIn wsX8_comes (wsV RX8 73 RX8 yX8_comesTo wsX8_comesTo) := goodIn_app (goodIn_of _ (by decide +kernel)) ggX8_comes_X8_comesTo
theorem dX8_comes_0 : decode cX8_comes 0 = .ok (.aload_n 0, 1) := by decide +kernel
theorem dX8_comes_1 : decode cX8_comes 1 = .ok (.iconst 0, 1) := by decide +kernel
theorem dX8_comes_2 : decode cX8_comes 2 = .ok (.putfield 31, 3) := by decide +kernel
theorem dX8_comes_5 : decode cX8_comes 5 = .ok (.aload_n 0, 1) := by decide +kernel
theorem dX8_comes_6 : decode cX8_comes 6 = .ok (.iload_n 1, 1) := by decide +kernel
theorem dX8_comes_7 : decode cX8_comes 7 = .ok (.invokevirtual 138, 3) := by decide +kernel
theorem dX8_comes_10 : decode cX8_comes 10 = .ok (.ifCond .ne 9, 3) := by decide +kernel
theorem dX8_comes_13 : decode cX8_comes 13 = .ok (.aload_n 0, 1) := by decide +kernel
theorem dX8_comes_14 : decode cX8_comes 14 = .ok (.iconst 1, 1) := by decide +kernel
theorem dX8_comes_15 : decode cX8_comes 15 = .ok (.invokevirtual 83, 3) := by decide +kernel
theorem dX8_comes_18 : decode cX8_comes 18 = .ok (.ireturn, 1) := by decide +kernel
theorem dX8_comes_19 : decode cX8_comes 19 = .ok (.aload_n 0, 1) := by decide +kernel
theorem dX8_comes_20 : decode cX8_comes 20 = .ok (.iload_n 2, 1) := by decide +kernel
theorem dX8_comes_21 : decode cX8_comes 21 = .ok (.invokevirtual 150, 3) := by decide +kernel
theorem dX8_comes_24 : decode cX8_comes 24 = .ok (.ifCond .eq 15, 3) := by decide +kernel
theorem dX8_comes_27 : decode cX8_comes 27 = .ok (.iload_n 3, 1) := by decide +kernel
theorem dX8_comes_28 : decode cX8_comes 28 = .ok (.i2l, 1) := by decide +kernel
theorem dX8_comes_29 : decode cX8_comes 29 = .ok (.lconst 0, 1) := by decide +kernel
theorem dX8_comes_30 : decode cX8_comes 30 = .ok (.ldc2_w 153, 3) := by decide +kernel
theorem dX8_comes_33 : decode cX8_comes 33 = .ok (.invokestatic 38, 3) := by decide +kernel
theorem dX8_comes_36 : decode cX8_comes 36 = .ok (.ifCond .ne 9, 3) := by decide +kernel
theorem dX8_comes_39 : decode cX8_comes 39 = .ok (.aload_n 0, 1) := by decide +kernel
theorem dX8_comes_40 : decode cX8_comes 40 = .ok (.iconst 2, 1) := by decide +kernel
theorem dX8_comes_41 : decode cX8_comes 41 = .ok (.invokevirtual 83, 3) := by decide +kernel
theorem dX8_comes_44 : decode cX8_comes 44 = .ok (.ireturn, 1) := by decide +kernel
theorem dX8_comes_45 : decode cX8_comes 45 = .ok (.aload_n 0, 1) := by decide +kernel
theorem dX8_comes_46 : decode cX8_comes 46 = .ok (.iload_n 1, 1) := by decide +kernel
theorem dX8_comes_47 : decode cX8_comes 47 = .ok (.iload_n 2, 1) := by decide +kernel
theorem dX8_comes_48 : decode cX8_comes 48 = .ok (.iload_n 3, 1) := by decide +kernel
theorem dX8_comes_49 : decode cX8_comes 49 = .ok (.invokevirtual 73, 3) := by decide +kernel
theorem dX8_comes_52 : decode cX8_comes 52 = .ok (.ireturn, 1) := by decide +kernel
theorem dX8_markedAt_0 : decode cX8_markedAt 0 = .ok (.iconst 0, 1) := by decide +kernel
theorem dX8_markedAt_1 : decode cX8_markedAt 1 = .ok (.istore_n 2, 1) := by decide +kernel
theorem dX8_markedAt_2 : decode cX8_markedAt 2 = .ok (.iconst 0, 1) := by decide +kernel
theorem dX8_markedAt_3 : decode cX8_markedAt 3 = .ok (.istore_n 3, 1) := by decide +kernel
theorem dX8_markedAt_4 : decode cX8_markedAt 4 = .ok (.iload_n 3, 1) := by decide +kernel
theorem dX8_markedAt_5 : decode cX8_markedAt 5 = .ok (.aload_n 0, 1) := by decide +kernel
theorem dX8_markedAt_6 : decode cX8_markedAt 6 = .ok (.getfield 7, 3) := by decide +kernel
theorem dX8_markedAt_9 : decode cX8_markedAt 9 = .ok (.iconst 0, 1) := by decide +kernel
theorem dX8_markedAt_10 : decode cX8_markedAt 10 = .ok (.iaload, 1) := by decide +kernel
theorem dX8_markedAt_11 : decode cX8_markedAt 11 = .ok (.if_icmp .ge 36, 3) := by decide +kernel
theorem dX8_markedAt_14 : decode cX8_markedAt 14 = .ok (.iload_n 2, 1) := by decide +kernel
theorem dX8_markedAt_15 : decode cX8_markedAt 15 = .ok (.aload_n 0, 1) := by decide +kernel
theorem dX8_markedAt_16 : decode cX8_markedAt 16 = .ok (.getfield 13, 3) := by decide +kernel
theorem dX8_markedAt_19 : decode cX8_markedAt 19 = .ok (.iload_n 3, 1) := by decide +kernel
theorem dX8_markedAt_20 : decode cX8_markedAt 20 = .ok (.sipush 301, 3) := by decide +kernel
theorem dX8_markedAt_23 : decode cX8_markedAt 23 = .ok (.imul, 1) := by decide +kernel
theorem dX8_markedAt_24 : decode cX8_markedAt 24 = .ok (.iload_n 1, 1) := by decide +kernel
theorem dX8_markedAt_25 : decode cX8_markedAt 25 = .ok (.iadd, 1) := by decide +kernel
theorem dX8_markedAt_26 : decode cX8_markedAt 26 = .ok (.iaload, 1) := by decide +kernel
theorem dX8_markedAt_27 : decode cX8_markedAt 27 = .ok (.aload_n 0, 1) := by decide +kernel
theorem dX8_markedAt_28 : decode cX8_markedAt 28 = .ok (.getfield 67, 3) := by decide +kernel
theorem dX8_markedAt_31 : decode cX8_markedAt 31 = .ok (.if_icmp .ne 7, 3) := by decide +kernel
theorem dX8_markedAt_34 : decode cX8_markedAt 34 = .ok (.iconst 1, 1) := by decide +kernel
theorem dX8_markedAt_35 : decode cX8_markedAt 35 = .ok (.goto 4, 3) := by decide +kernel
theorem dX8_markedAt_38 : decode cX8_markedAt 38 = .ok (.iconst 0, 1) := by decide +kernel
theorem dX8_markedAt_39 : decode cX8_markedAt 39 = .ok (.iadd, 1) := by decide +kernel
theorem dX8_markedAt_40 : decode cX8_markedAt 40 = .ok (.istore_n 2, 1) := by decide +kernel
theorem dX8_markedAt_41 : decode cX8_markedAt 41 = .ok (.iinc 3 1, 3) := by decide +kernel
theorem dX8_markedAt_44 : decode cX8_markedAt 44 = .ok (.goto (-40), 3) := by decide +kernel
theorem dX8_markedAt_47 : decode cX8_markedAt 47 = .ok (.iload_n 2, 1) := by decide +kernel
theorem dX8_markedAt_48 : decode cX8_markedAt 48 = .ok (.ireturn, 1) := by decide +kernel
set_option maxRecDepth 20000 in
theorem ggX8_at_X8_in : GoodIn wsX8_at wsX8_in := goodIn_r _ [6] (by decide +kernel) (by decide +kernel)
set_option maxRecDepth 20000 in
theorem gX8_at_X8_in : GoodIn wsX8_at (va_wsS RX8 38 yX8_in wsX8_in) := goodIn_app (goodIn_of _ (by decide +kernel)) ggX8_at_X8_in
set_option maxRecDepth 20000 in
theorem ggX8_at_X8_refused : GoodIn wsX8_at wsX8_refused := goodIn_r _ [10, 1, 53, 54, 55, 56, 57, 58, 59, 60, 61, 62, 63, 64, 65, 66, 67, 68, 69] (by decide +kernel) (by decide +kernel)
set_option maxRecDepth 20000 in
theorem gX8_at_X8_refused : GoodIn wsX8_at (wsV RX8 83 RX8 yX8_refused wsX8_refused) := goodIn_app (goodIn_of _ (by decide +kernel)) ggX8_at_X8_refused
set_option maxRecDepth 20000 in
theorem ggX8_at_X8_markAll : GoodIn wsX8_at wsX8_markAll := goodIn_r _ [14, 15, 16, 17, 18, 19, 5, 20, 21, 22, 23, 24, 25, 26, 27, 28, 29, 30, 31, 32, 33, 34, 35, 36, 37, 38, 39, 40, 41, 42, 43, 44, 45, 46, 47, 48, 53, 54, 55, 56, 57, 58, 59, 60, 61, 62, 63, 64, 65, 66, 67, 68, 69] (by decide +kernel) (by decide +kernel)
set_option maxRecDepth 20000 in
theorem gX8_at_X8_markAll : GoodIn wsX8_at (wsV RX8 126 RX8 yX8_markAll wsX8_markAll) := goodIn_app (goodIn_of _ (by decide +kernel)) ggX8_at_X8_markAll
set_option maxRecDepth 20000 in
theorem ggX8_at_X8_markedAt : GoodIn wsX8_at wsX8_markedAt := goodIn_r _ [52, 26, 21, 15, 53, 54, 55, 56, 57, 58, 59, 60, 61, 62, 63, 64, 65, 66, 67, 68, 69] (by decide +kernel) (by decide +kernel)
set_option maxRecDepth 20000 in
theorem gX8_at_X8_markedAt : GoodIn wsX8_at (wsV RX8 155 RX8 yX8_markedAt wsX8_markedAt) := goodIn_app (goodIn_of _ (by decide +kernel)) ggX8_at_X8_markedAt
theorem dX8_at_0 : decode cX8_at 0 = .ok (.aload_n 0, 1) := by decide +kernel
theorem dX8_at_1 : decode cX8_at 1 = .ok (.iconst 0, 1) := by decide +kernel
theorem dX8_at_2 : decode cX8_at 2 = .ok (.putfield 31, 3) := by decide +kernel
theorem dX8_at_5 : decode cX8_at 5 = .ok (.iload_n 1, 1) := by decide +kernel
theorem dX8_at_6 : decode cX8_at 6 = .ok (.i2l, 1) := by decide +kernel
theorem dX8_at_7 : decode cX8_at 7 = .ok (.lconst 0, 1) := by decide +kernel
theorem dX8_at_8 : decode cX8_at 8 = .ok (.ldc2_w 153, 3) := by decide +kernel
theorem dX8_at_11 : decode cX8_at 11 = .ok (.invokestatic 38, 3) := by decide +kernel
theorem dX8_at_14 : decode cX8_at 14 = .ok (.ifCond .ne 9, 3) := by decide +kernel
theorem dX8_at_17 : decode cX8_at 17 = .ok (.aload_n 0, 1) := by decide +kernel

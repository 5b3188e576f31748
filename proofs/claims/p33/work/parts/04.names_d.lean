theorem dX7_groupUnit_6 : decode cX7_groupUnit 6 = .ok (.if_icmp .ge 15, 3) := by decide +kernel
theorem dX7_groupUnit_9 : decode cX7_groupUnit 9 = .ok (.lload_n 1, 1) := by decide +kernel
theorem dX7_groupUnit_10 : decode cX7_groupUnit 10 = .ok (.ldc2_w 306, 3) := by decide +kernel
theorem dX7_groupUnit_13 : decode cX7_groupUnit 13 = .ok (.lmul, 1) := by decide +kernel
theorem dX7_groupUnit_14 : decode cX7_groupUnit 14 = .ok (.lstore_n 1, 1) := by decide +kernel
theorem dX7_groupUnit_15 : decode cX7_groupUnit 15 = .ok (.iinc 3 1, 3) := by decide +kernel
theorem dX7_groupUnit_18 : decode cX7_groupUnit 18 = .ok (.goto (-14), 3) := by decide +kernel
theorem dX7_groupUnit_21 : decode cX7_groupUnit 21 = .ok (.lload_n 1, 1) := by decide +kernel
theorem dX7_groupUnit_22 : decode cX7_groupUnit 22 = .ok (.lreturn, 1) := by decide +kernel
set_option maxRecDepth 20000 in
theorem ggX7_simulate_X5_clear : GoodIn wsX7_simulate wsX5_clear := goodIn_r _ [18, 19, 77] (by decide +kernel) (by decide +kernel)
set_option maxRecDepth 20000 in
theorem gX7_simulate_X5_clear : GoodIn wsX7_simulate (wsV RX7 320 RX5 yX5_clear wsX5_clear) := goodIn_app (goodIn_of _ (by decide +kernel)) ggX7_simulate_X5_clear
set_option maxRecDepth 20000 in
theorem ggX7_simulate_X3_set : GoodIn wsX7_simulate wsX3_set := goodIn_r _ [24, 25, 26, 27, 28, 78, 79, 80, 81] (by decide +kernel) (by decide +kernel)
set_option maxRecDepth 20000 in
theorem gX7_simulate_X3_set : GoodIn wsX7_simulate (wsV RX7 284 RX3 yX3_set wsX3_set) := goodIn_app (goodIn_of _ (by decide +kernel)) ggX7_simulate_X3_set
set_option maxRecDepth 20000 in
theorem ggX7_simulate_X3_radiusAt : GoodIn wsX7_simulate wsX3_radiusAt := goodIn_r _ [32, 25, 26, 27, 33, 34, 12, 35, 36, 37, 38, 39, 40, 78, 79, 80, 81] (by decide +kernel) (by decide +kernel)
set_option maxRecDepth 20000 in
theorem gX7_simulate_X3_radiusAt : GoodIn wsX7_simulate (wsV RX7 159 RX3 yX3_radiusAt wsX3_radiusAt) := goodIn_app (goodIn_of _ (by decide +kernel)) ggX7_simulate_X3_radiusAt
set_option maxRecDepth 20000 in
theorem ggX7_simulate_X3_angleAt : GoodIn wsX7_simulate wsX3_angleAt := goodIn_r _ [44, 28, 36, 37, 38, 78, 79, 80, 81] (by decide +kernel) (by decide +kernel)
set_option maxRecDepth 20000 in
theorem gX7_simulate_X3_angleAt : GoodIn wsX7_simulate (wsV RX7 155 RX3 yX3_angleAt wsX3_angleAt) := goodIn_app (goodIn_of _ (by decide +kernel)) ggX7_simulate_X3_angleAt
set_option maxRecDepth 20000 in
theorem ggX7_simulate_X5_cut : GoodIn wsX7_simulate wsX5_cut := goodIn_r _ [48, 19, 77] (by decide +kernel) (by decide +kernel)
set_option maxRecDepth 20000 in
theorem gX7_simulate_X5_cut : GoodIn wsX7_simulate (wsV RX7 327 RX5 yX5_cut wsX5_cut) := goodIn_app (goodIn_of _ (by decide +kernel)) ggX7_simulate_X5_cut
set_option maxRecDepth 20000 in
theorem ggX7_simulate_X5_size : GoodIn wsX7_simulate wsX5_size := goodIn_r _ [52, 19, 53, 54, 55, 56, 57, 58, 59, 77] (by decide +kernel) (by decide +kernel)
set_option maxRecDepth 20000 in
theorem gX7_simulate_X5_size : GoodIn wsX7_simulate (wsV RX7 96 RX5 yX5_size wsX5_size) := goodIn_app (goodIn_of _ (by decide +kernel)) ggX7_simulate_X5_size
theorem dX7_simulate_0 : decode cX7_simulate 0 = .ok (.iload_n 3, 1) := by decide +kernel
theorem dX7_simulate_1 : decode cX7_simulate 1 = .ok (.iconst 1, 1) := by decide +kernel
theorem dX7_simulate_2 : decode cX7_simulate 2 = .ok (.if_icmp .lt 10, 3) := by decide +kernel
theorem dX7_simulate_5 : decode cX7_simulate 5 = .ok (.iload_n 3, 1) := by decide +kernel
theorem dX7_simulate_6 : decode cX7_simulate 6 = .ok (.sipush 200, 3) := by decide +kernel
theorem dX7_simulate_9 : decode cX7_simulate 9 = .ok (.if_icmp .le 14, 3) := by decide +kernel
theorem dX7_simulate_12 : decode cX7_simulate 12 = .ok (.new 45, 3) := by decide +kernel
theorem dX7_simulate_15 : decode cX7_simulate 15 = .ok (.dup, 1) := by decide +kernel
theorem dX7_simulate_16 : decode cX7_simulate 16 = .ok (.ldc_w 314, 3) := by decide +kernel
theorem dX7_simulate_19 : decode cX7_simulate 19 = .ok (.invokespecial 49, 3) := by decide +kernel
theorem dX7_simulate_22 : decode cX7_simulate 22 = .ok (.athrow, 1) := by decide +kernel
theorem dX7_simulate_23 : decode cX7_simulate 23 = .ok (.aload_n 0, 1) := by decide +kernel
theorem dX7_simulate_24 : decode cX7_simulate 24 = .ok (.getfield 41, 3) := by decide +kernel
theorem dX7_simulate_27 : decode cX7_simulate 27 = .ok (.getfield 280, 3) := by decide +kernel
theorem dX7_simulate_30 : decode cX7_simulate 30 = .ok (.astore 4, 2) := by decide +kernel
theorem dX7_simulate_32 : decode cX7_simulate 32 = .ok (.aload_n 0, 1) := by decide +kernel
theorem dX7_simulate_33 : decode cX7_simulate 33 = .ok (.getfield 41, 3) := by decide +kernel
theorem dX7_simulate_36 : decode cX7_simulate 36 = .ok (.getfield 316, 3) := by decide +kernel
theorem dX7_simulate_39 : decode cX7_simulate 39 = .ok (.invokevirtual 320, 3) := by decide +kernel
theorem dX7_simulate_42 : decode cX7_simulate 42 = .ok (.iconst 0, 1) := by decide +kernel
theorem dX7_simulate_43 : decode cX7_simulate 43 = .ok (.istore 5, 2) := by decide +kernel
theorem dX7_simulate_45 : decode cX7_simulate 45 = .ok (.lload_n 1, 1) := by decide +kernel
theorem dX7_simulate_46 : decode cX7_simulate 46 = .ok (.lstore 6, 2) := by decide +kernel
theorem dX7_simulate_48 : decode cX7_simulate 48 = .ok (.iconst 0, 1) := by decide +kernel
theorem dX7_simulate_49 : decode cX7_simulate 49 = .ok (.istore 8, 2) := by decide +kernel
theorem dX7_simulate_51 : decode cX7_simulate 51 = .ok (.iload 8, 2) := by decide +kernel
theorem dX7_simulate_53 : decode cX7_simulate 53 = .ok (.iload_n 3, 1) := by decide +kernel
theorem dX7_simulate_54 : decode cX7_simulate 54 = .ok (.if_icmp .ge 116, 3) := by decide +kernel
theorem dX7_simulate_57 : decode cX7_simulate 57 = .ok (.lload 6, 2) := by decide +kernel
theorem dX7_simulate_59 : decode cX7_simulate 59 = .ok (.ldc2_w 323, 3) := by decide +kernel
theorem dX7_simulate_62 : decode cX7_simulate 62 = .ok (.lmul, 1) := by decide +kernel
theorem dX7_simulate_63 : decode cX7_simulate 63 = .ok (.ldc2_w 325, 3) := by decide +kernel
theorem dX7_simulate_66 : decode cX7_simulate 66 = .ok (.ladd, 1) := by decide +kernel
theorem dX7_simulate_67 : decode cX7_simulate 67 = .ok (.lstore 6, 2) := by decide +kernel
theorem dX7_simulate_69 : decode cX7_simulate 69 = .ok (.lload 6, 2) := by decide +kernel
theorem dX7_simulate_71 : decode cX7_simulate 71 = .ok (.bipush 33, 2) := by decide +kernel
theorem dX7_simulate_73 : decode cX7_simulate 73 = .ok (.lushr, 1) := by decide +kernel
theorem dX7_simulate_74 : decode cX7_simulate 74 = .ok (.l2i, 1) := by decide +kernel
theorem dX7_simulate_75 : decode cX7_simulate 75 = .ok (.istore 9, 2) := by decide +kernel
theorem dX7_simulate_77 : decode cX7_simulate 77 = .ok (.aload 4, 2) := by decide +kernel
theorem dX7_simulate_79 : decode cX7_simulate 79 = .ok (.iconst 5, 1) := by decide +kernel
theorem dX7_simulate_80 : decode cX7_simulate 80 = .ok (.iload 9, 2) := by decide +kernel
theorem dX7_simulate_82 : decode cX7_simulate 82 = .ok (.bipush 56, 2) := by decide +kernel
theorem dX7_simulate_84 : decode cX7_simulate 84 = .ok (.irem, 1) := by decide +kernel
theorem dX7_simulate_85 : decode cX7_simulate 85 = .ok (.iadd, 1) := by decide +kernel
theorem dX7_simulate_86 : decode cX7_simulate 86 = .ok (.iload 9, 2) := by decide +kernel
theorem dX7_simulate_88 : decode cX7_simulate 88 = .ok (.bipush 64, 2) := by decide +kernel
theorem dX7_simulate_90 : decode cX7_simulate 90 = .ok (.idiv, 1) := by decide +kernel
theorem dX7_simulate_91 : decode cX7_simulate 91 = .ok (.iconst 2, 1) := by decide +kernel
theorem dX7_simulate_92 : decode cX7_simulate 92 = .ok (.irem, 1) := by decide +kernel
theorem dX7_simulate_93 : decode cX7_simulate 93 = .ok (.iload 9, 2) := by decide +kernel
theorem dX7_simulate_95 : decode cX7_simulate 95 = .ok (.sipush 128, 3) := by decide +kernel
theorem dX7_simulate_98 : decode cX7_simulate 98 = .ok (.idiv, 1) := by decide +kernel
theorem dX7_simulate_99 : decode cX7_simulate 99 = .ok (.bipush 21, 2) := by decide +kernel
theorem dX7_simulate_101 : decode cX7_simulate 101 = .ok (.irem, 1) := by decide +kernel
theorem dX7_simulate_102 : decode cX7_simulate 102 = .ok (.iconst 0, 1) := by decide +kernel
theorem dX7_simulate_103 : decode cX7_simulate 103 = .ok (.invokevirtual 284, 3) := by decide +kernel
theorem dX7_simulate_106 : decode cX7_simulate 106 = .ok (.iload 9, 2) := by decide +kernel
theorem dX7_simulate_108 : decode cX7_simulate 108 = .ok (.sipush 4096, 3) := by decide +kernel
theorem dX7_simulate_111 : decode cX7_simulate 111 = .ok (.idiv, 1) := by decide +kernel
theorem dX7_simulate_112 : decode cX7_simulate 112 = .ok (.sipush 1000, 3) := by decide +kernel
theorem dX7_simulate_115 : decode cX7_simulate 115 = .ok (.irem, 1) := by decide +kernel
theorem dX7_simulate_116 : decode cX7_simulate 116 = .ok (.istore 10, 2) := by decide +kernel
theorem dX7_simulate_118 : decode cX7_simulate 118 = .ok (.aload 4, 2) := by decide +kernel
theorem dX7_simulate_120 : decode cX7_simulate 120 = .ok (.iload 10, 2) := by decide +kernel
theorem dX7_simulate_122 : decode cX7_simulate 122 = .ok (.i2l, 1) := by decide +kernel
theorem dX7_simulate_123 : decode cX7_simulate 123 = .ok (.invokevirtual 159, 3) := by decide +kernel
theorem dX7_simulate_126 : decode cX7_simulate 126 = .ok (.istore 11, 2) := by decide +kernel
theorem dX7_simulate_128 : decode cX7_simulate 128 = .ok (.aload_n 0, 1) := by decide +kernel
theorem dX7_simulate_129 : decode cX7_simulate 129 = .ok (.getfield 41, 3) := by decide +kernel
theorem dX7_simulate_132 : decode cX7_simulate 132 = .ok (.getfield 316, 3) := by decide +kernel
theorem dX7_simulate_135 : decode cX7_simulate 135 = .ok (.aload 4, 2) := by decide +kernel
theorem dX7_simulate_137 : decode cX7_simulate 137 = .ok (.aload_n 0, 1) := by decide +kernel
theorem dX7_simulate_138 : decode cX7_simulate 138 = .ok (.getfield 16, 3) := by decide +kernel
theorem dX7_simulate_141 : decode cX7_simulate 141 = .ok (.getfield 86, 3) := by decide +kernel
theorem dX7_simulate_144 : decode cX7_simulate 144 = .ok (.iload 10, 2) := by decide +kernel
theorem dX7_simulate_146 : decode cX7_simulate 146 = .ok (.i2l, 1) := by decide +kernel
theorem dX7_simulate_147 : decode cX7_simulate 147 = .ok (.invokevirtual 155, 3) := by decide +kernel
theorem dX7_simulate_150 : decode cX7_simulate 150 = .ok (.iload 11, 2) := by decide +kernel
theorem dX7_simulate_152 : decode cX7_simulate 152 = .ok (.invokevirtual 327, 3) := by decide +kernel
theorem dX7_simulate_155 : decode cX7_simulate 155 = .ok (.iload 5, 2) := by decide +kernel
theorem dX7_simulate_157 : decode cX7_simulate 157 = .ok (.iload 11, 2) := by decide +kernel
theorem dX7_simulate_159 : decode cX7_simulate 159 = .ok (.invokestatic 330, 3) := by decide +kernel
theorem dX7_simulate_162 : decode cX7_simulate 162 = .ok (.istore 5, 2) := by decide +kernel
theorem dX7_simulate_164 : decode cX7_simulate 164 = .ok (.iinc 8 1, 3) := by decide +kernel
theorem dX7_simulate_167 : decode cX7_simulate 167 = .ok (.goto (-116), 3) := by decide +kernel
theorem dX7_simulate_170 : decode cX7_simulate 170 = .ok (.sipush 1000, 3) := by decide +kernel
theorem dX7_simulate_173 : decode cX7_simulate 173 = .ok (.aload_n 0, 1) := by decide +kernel
theorem dX7_simulate_174 : decode cX7_simulate 174 = .ok (.getfield 41, 3) := by decide +kernel
theorem dX7_simulate_177 : decode cX7_simulate 177 = .ok (.getfield 316, 3) := by decide +kernel
theorem dX7_simulate_180 : decode cX7_simulate 180 = .ok (.invokevirtual 96, 3) := by decide +kernel
theorem dX7_simulate_183 : decode cX7_simulate 183 = .ok (.imul, 1) := by decide +kernel
theorem dX7_simulate_184 : decode cX7_simulate 184 = .ok (.iload 5, 2) := by decide +kernel
theorem dX7_simulate_186 : decode cX7_simulate 186 = .ok (.iadd, 1) := by decide +kernel
theorem dX7_simulate_187 : decode cX7_simulate 187 = .ok (.ireturn, 1) := by decide +kernel
set_option maxRecDepth 20000 in
theorem ggX7_save_X7_slotPlate : GoodIn wsX7_save wsX7_slotPlate := goodIn_r _ [10, 11, 68, 69, 70, 71, 72, 73, 74, 75] (by decide +kernel) (by decide +kernel)
set_option maxRecDepth 20000 in
theorem gX7_save_X7_slotPlate : GoodIn wsX7_save (wsV RX7 335 RX7 yX7_slotPlate wsX7_slotPlate) := goodIn_app (goodIn_of _ (by decide +kernel)) ggX7_save_X7_slotPlate
set_option maxRecDepth 20000 in
theorem ggX7_save_X4_become : GoodIn wsX7_save wsX4_become := goodIn_r _ [16, 17, 18, 19, 20, 21, 22, 23, 24, 25, 26, 15, 27, 28, 29, 30, 31, 32, 33, 34, 35, 36, 37, 38, 39, 40, 41, 42, 43, 44, 45, 46, 47, 48, 49, 50, 51, 52, 53, 54, 55, 56, 57, 58, 59, 60, 61, 62, 63, 64, 65, 66, 67, 76, 77, 78, 79, 80, 81, 82, 83, 84, 85] (by decide +kernel) (by decide +kernel)
set_option maxRecDepth 20000 in
theorem gX7_save_X4_become : GoodIn wsX7_save (wsV RX7 67 RX4 yX4_become wsX4_become) := goodIn_app (goodIn_of _ (by decide +kernel)) ggX7_save_X4_become
theorem dX7_save_0 : decode cX7_save 0 = .ok (.aload_n 0, 1) := by decide +kernel
theorem dX7_save_1 : decode cX7_save 1 = .ok (.iload_n 1, 1) := by decide +kernel
theorem dX7_save_2 : decode cX7_save 2 = .ok (.invokevirtual 335, 3) := by decide +kernel
theorem dX7_save_5 : decode cX7_save 5 = .ok (.astore_n 2, 1) := by decide +kernel
theorem dX7_save_6 : decode cX7_save 6 = .ok (.aload_n 2, 1) := by decide +kernel
theorem dX7_save_7 : decode cX7_save 7 = .ok (.ifnull 16, 3) := by decide +kernel
theorem dX7_save_10 : decode cX7_save 10 = .ok (.iload_n 1, 1) := by decide +kernel
theorem dX7_save_11 : decode cX7_save 11 = .ok (.ifCond .lt 12, 3) := by decide +kernel
theorem dX7_save_14 : decode cX7_save 14 = .ok (.iload_n 1, 1) := by decide +kernel
theorem dX7_save_15 : decode cX7_save 15 = .ok (.aload_n 0, 1) := by decide +kernel
theorem dX7_save_16 : decode cX7_save 16 = .ok (.getfield 34, 3) := by decide +kernel
theorem dX7_save_19 : decode cX7_save 19 = .ok (.arraylength, 1) := by decide +kernel
theorem dX7_save_20 : decode cX7_save 20 = .ok (.if_icmp .lt 14, 3) := by decide +kernel
theorem dX7_save_23 : decode cX7_save 23 = .ok (.new 116, 3) := by decide +kernel
theorem dX7_save_26 : decode cX7_save 26 = .ok (.dup, 1) := by decide +kernel
theorem dX7_save_27 : decode cX7_save 27 = .ok (.ldc_w 339, 3) := by decide +kernel
theorem dX7_save_30 : decode cX7_save 30 = .ok (.invokespecial 120, 3) := by decide +kernel
theorem dX7_save_33 : decode cX7_save 33 = .ok (.athrow, 1) := by decide +kernel
theorem dX7_save_34 : decode cX7_save 34 = .ok (.aload_n 2, 1) := by decide +kernel
theorem dX7_save_35 : decode cX7_save 35 = .ok (.aload_n 0, 1) := by decide +kernel
theorem dX7_save_36 : decode cX7_save 36 = .ok (.getfield 16, 3) := by decide +kernel
theorem dX7_save_39 : decode cX7_save 39 = .ok (.invokevirtual 67, 3) := by decide +kernel
theorem dX7_save_42 : decode cX7_save 42 = .ok (.aload_n 0, 1) := by decide +kernel
theorem dX7_save_43 : decode cX7_save 43 = .ok (.getfield 34, 3) := by decide +kernel
theorem dX7_save_46 : decode cX7_save 46 = .ok (.iload_n 1, 1) := by decide +kernel
theorem dX7_save_47 : decode cX7_save 47 = .ok (.iconst 1, 1) := by decide +kernel
theorem dX7_save_48 : decode cX7_save 48 = .ok (.bastore, 1) := by decide +kernel
theorem dX7_save_49 : decode cX7_save 49 = .ok (.aload_n 0, 1) := by decide +kernel
theorem dX7_save_50 : decode cX7_save 50 = .ok (.getfield 16, 3) := by decide +kernel
theorem dX7_save_53 : decode cX7_save 53 = .ok (.getfield 74, 3) := by decide +kernel
theorem dX7_save_56 : decode cX7_save 56 = .ok (.ireturn, 1) := by decide +kernel
set_option maxRecDepth 20000 in
theorem ggX7_restore_X7_slotPlate : GoodIn wsX7_restore wsX7_slotPlate := goodIn_r _ [13, 14, 78, 79, 80, 81, 82, 83, 84, 85] (by decide +kernel) (by decide +kernel)
set_option maxRecDepth 20000 in
theorem gX7_restore_X7_slotPlate : GoodIn wsX7_restore (wsV RX7 335 RX7 yX7_slotPlate wsX7_slotPlate) := goodIn_app (goodIn_of _ (by decide +kernel)) ggX7_restore_X7_slotPlate
set_option maxRecDepth 20000 in
theorem ggX7_restore_X4_become : GoodIn wsX7_restore wsX4_become := goodIn_r _ [19, 20, 21, 22, 23, 24, 25, 26, 27, 28, 29, 18, 30, 31, 32, 33, 34, 35, 36, 37, 38, 39, 40, 41, 42, 43, 44, 45, 46, 47, 48, 49, 50, 51, 52, 53, 54, 55, 56, 57, 58, 59, 60, 61, 62, 63, 64, 65, 66, 67, 68, 69, 70, 86, 87, 88, 89, 90, 91, 92, 93, 94, 95] (by decide +kernel) (by decide +kernel)
set_option maxRecDepth 20000 in
theorem gX7_restore_X4_become : GoodIn wsX7_restore (wsV RX7 67 RX4 yX4_become wsX4_become) := goodIn_app (goodIn_of _ (by decide +kernel)) ggX7_restore_X4_become
set_option maxRecDepth 20000 in
theorem ggX7_restore_X2_forgetAll : GoodIn wsX7_restore wsX2_forgetAll := goodIn_r _ [75, 76, 77, 96, 97, 98] (by decide +kernel) (by decide +kernel)
set_option maxRecDepth 20000 in
theorem gX7_restore_X2_forgetAll : GoodIn wsX7_restore (wsV RX7 71 RX2 yX2_forgetAll wsX2_forgetAll) := goodIn_app (goodIn_of _ (by decide +kernel)) ggX7_restore_X2_forgetAll
theorem dX7_restore_0 : decode cX7_restore 0 = .ok (.aload_n 0, 1) := by decide +kernel
theorem dX7_restore_1 : decode cX7_restore 1 = .ok (.iload_n 1, 1) := by decide +kernel
theorem dX7_restore_2 : decode cX7_restore 2 = .ok (.invokevirtual 335, 3) := by decide +kernel
theorem dX7_restore_5 : decode cX7_restore 5 = .ok (.astore_n 2, 1) := by decide +kernel
theorem dX7_restore_6 : decode cX7_restore 6 = .ok (.aload_n 2, 1) := by decide +kernel
theorem dX7_restore_7 : decode cX7_restore 7 = .ok (.ifnull 16, 3) := by decide +kernel
theorem dX7_restore_10 : decode cX7_restore 10 = .ok (.iload_n 1, 1) := by decide +kernel
theorem dX7_restore_11 : decode cX7_restore 11 = .ok (.ifCond .lt 12, 3) := by decide +kernel
theorem dX7_restore_14 : decode cX7_restore 14 = .ok (.iload_n 1, 1) := by decide +kernel
theorem dX7_restore_15 : decode cX7_restore 15 = .ok (.aload_n 0, 1) := by decide +kernel
theorem dX7_restore_16 : decode cX7_restore 16 = .ok (.getfield 34, 3) := by decide +kernel
theorem dX7_restore_19 : decode cX7_restore 19 = .ok (.arraylength, 1) := by decide +kernel
theorem dX7_restore_20 : decode cX7_restore 20 = .ok (.if_icmp .lt 14, 3) := by decide +kernel
theorem dX7_restore_23 : decode cX7_restore 23 = .ok (.new 116, 3) := by decide +kernel
theorem dX7_restore_26 : decode cX7_restore 26 = .ok (.dup, 1) := by decide +kernel
theorem dX7_restore_27 : decode cX7_restore 27 = .ok (.ldc_w 339, 3) := by decide +kernel
theorem dX7_restore_30 : decode cX7_restore 30 = .ok (.invokespecial 120, 3) := by decide +kernel
theorem dX7_restore_33 : decode cX7_restore 33 = .ok (.athrow, 1) := by decide +kernel
theorem dX7_restore_34 : decode cX7_restore 34 = .ok (.aload_n 0, 1) := by decide +kernel
theorem dX7_restore_35 : decode cX7_restore 35 = .ok (.getfield 34, 3) := by decide +kernel
theorem dX7_restore_38 : decode cX7_restore 38 = .ok (.iload_n 1, 1) := by decide +kernel
theorem dX7_restore_39 : decode cX7_restore 39 = .ok (.baload, 1) := by decide +kernel
theorem dX7_restore_40 : decode cX7_restore 40 = .ok (.ifCond .ne 14, 3) := by decide +kernel
theorem dX7_restore_43 : decode cX7_restore 43 = .ok (.new 56, 3) := by decide +kernel
theorem dX7_restore_46 : decode cX7_restore 46 = .ok (.dup, 1) := by decide +kernel
theorem dX7_restore_47 : decode cX7_restore 47 = .ok (.ldc_w 341, 3) := by decide +kernel
theorem dX7_restore_50 : decode cX7_restore 50 = .ok (.invokespecial 60, 3) := by decide +kernel
theorem dX7_restore_53 : decode cX7_restore 53 = .ok (.athrow, 1) := by decide +kernel
theorem dX7_restore_54 : decode cX7_restore 54 = .ok (.aload_n 0, 1) := by decide +kernel
theorem dX7_restore_55 : decode cX7_restore 55 = .ok (.getfield 16, 3) := by decide +kernel
theorem dX7_restore_58 : decode cX7_restore 58 = .ok (.aload_n 2, 1) := by decide +kernel
theorem dX7_restore_59 : decode cX7_restore 59 = .ok (.invokevirtual 67, 3) := by decide +kernel
theorem dX7_restore_62 : decode cX7_restore 62 = .ok (.aload_n 0, 1) := by decide +kernel
theorem dX7_restore_63 : decode cX7_restore 63 = .ok (.getfield 26, 3) := by decide +kernel
theorem dX7_restore_66 : decode cX7_restore 66 = .ok (.invokevirtual 71, 3) := by decide +kernel
theorem dX7_restore_69 : decode cX7_restore 69 = .ok (.aload_n 0, 1) := by decide +kernel
theorem dX7_restore_70 : decode cX7_restore 70 = .ok (.getfield 16, 3) := by decide +kernel
theorem dX7_restore_73 : decode cX7_restore 73 = .ok (.getfield 74, 3) := by decide +kernel
theorem dX7_restore_76 : decode cX7_restore 76 = .ok (.ireturn, 1) := by decide +kernel
theorem dX7_slotPlate_0 : decode cX7_slotPlate 0 = .ok (.iload_n 1, 1) := by decide +kernel
theorem dX7_slotPlate_1 : decode cX7_slotPlate 1 = .ok (.ifCond .lt 21, 3) := by decide +kernel
theorem dX7_slotPlate_4 : decode cX7_slotPlate 4 = .ok (.iload_n 1, 1) := by decide +kernel
theorem dX7_slotPlate_5 : decode cX7_slotPlate 5 = .ok (.aload_n 0, 1) := by decide +kernel
theorem dX7_slotPlate_6 : decode cX7_slotPlate 6 = .ok (.getfield 30, 3) := by decide +kernel
theorem dX7_slotPlate_9 : decode cX7_slotPlate 9 = .ok (.arraylength, 1) := by decide +kernel
theorem dX7_slotPlate_10 : decode cX7_slotPlate 10 = .ok (.if_icmp .ge 12, 3) := by decide +kernel
theorem dX7_slotPlate_13 : decode cX7_slotPlate 13 = .ok (.aload_n 0, 1) := by decide +kernel
theorem dX7_slotPlate_14 : decode cX7_slotPlate 14 = .ok (.getfield 30, 3) := by decide +kernel
theorem dX7_slotPlate_17 : decode cX7_slotPlate 17 = .ok (.iload_n 1, 1) := by decide +kernel
theorem dX7_slotPlate_18 : decode cX7_slotPlate 18 = .ok (.aaload, 1) := by decide +kernel
theorem dX7_slotPlate_19 : decode cX7_slotPlate 19 = .ok (.goto 4, 3) := by decide +kernel
theorem dX7_slotPlate_22 : decode cX7_slotPlate 22 = .ok (.aconst_null, 1) := by decide +kernel
theorem dX7_slotPlate_23 : decode cX7_slotPlate 23 = .ok (.areturn, 1) := by decide +kernel
theorem dX7_isRing_0 : decode cX7_isRing 0 = .ok (.iload_n 0, 1) := by decide +kernel
theorem dX7_isRing_1 : decode cX7_isRing 1 = .ok (.bipush 12, 2) := by decide +kernel
theorem dX7_isRing_3 : decode cX7_isRing 3 = .ok (.if_icmp .lt 13, 3) := by decide +kernel
theorem dX7_isRing_6 : decode cX7_isRing 6 = .ok (.iload_n 0, 1) := by decide +kernel
theorem dX7_isRing_7 : decode cX7_isRing 7 = .ok (.bipush 96, 2) := by decide +kernel
theorem dX7_isRing_9 : decode cX7_isRing 9 = .ok (.if_icmp .gt 7, 3) := by decide +kernel
theorem dX7_isRing_12 : decode cX7_isRing 12 = .ok (.iconst 1, 1) := by decide +kernel
theorem dX7_isRing_13 : decode cX7_isRing 13 = .ok (.goto 4, 3) := by decide +kernel
theorem dX7_isRing_16 : decode cX7_isRing 16 = .ok (.iconst 0, 1) := by decide +kernel
theorem dX7_isRing_17 : decode cX7_isRing 17 = .ok (.ireturn, 1) := by decide +kernel
theorem dX7_isWheel_0 : decode cX7_isWheel 0 = .ok (.iload_n 0, 1) := by decide +kernel
theorem dX7_isWheel_1 : decode cX7_isWheel 1 = .ok (.iconst 5, 1) := by decide +kernel
theorem dX7_isWheel_2 : decode cX7_isWheel 2 = .ok (.if_icmp .lt 13, 3) := by decide +kernel
theorem dX7_isWheel_5 : decode cX7_isWheel 5 = .ok (.iload_n 0, 1) := by decide +kernel
theorem dX7_isWheel_6 : decode cX7_isWheel 6 = .ok (.bipush 60, 2) := by decide +kernel
theorem dX7_isWheel_8 : decode cX7_isWheel 8 = .ok (.if_icmp .gt 7, 3) := by decide +kernel
theorem dX7_isWheel_11 : decode cX7_isWheel 11 = .ok (.iconst 1, 1) := by decide +kernel
theorem dX7_isWheel_12 : decode cX7_isWheel 12 = .ok (.goto 4, 3) := by decide +kernel
theorem dX7_isWheel_15 : decode cX7_isWheel 15 = .ok (.iconst 0, 1) := by decide +kernel
theorem dX7_isWheel_16 : decode cX7_isWheel 16 = .ok (.ireturn, 1) := by decide +kernel
theorem dX7_isSide_0 : decode cX7_isSide 0 = .ok (.iload_n 0, 1) := by decide +kernel
theorem dX7_isSide_1 : decode cX7_isSide 1 = .ok (.ifCond .eq 8, 3) := by decide +kernel
theorem dX7_isSide_4 : decode cX7_isSide 4 = .ok (.iload_n 0, 1) := by decide +kernel
theorem dX7_isSide_5 : decode cX7_isSide 5 = .ok (.iconst 1, 1) := by decide +kernel
theorem dX7_isSide_6 : decode cX7_isSide 6 = .ok (.if_icmp .ne 7, 3) := by decide +kernel
theorem dX7_isSide_9 : decode cX7_isSide 9 = .ok (.iconst 1, 1) := by decide +kernel
theorem dX7_isSide_10 : decode cX7_isSide 10 = .ok (.goto 4, 3) := by decide +kernel
theorem dX7_isSide_13 : decode cX7_isSide 13 = .ok (.iconst 0, 1) := by decide +kernel
theorem dX7_isSide_14 : decode cX7_isSide 14 = .ok (.ireturn, 1) := by decide +kernel
theorem dX7_isHole_0 : decode cX7_isHole 0 = .ok (.iload_n 0, 1) := by decide +kernel
theorem dX7_isHole_1 : decode cX7_isHole 1 = .ok (.ifCond .lt 13, 3) := by decide +kernel
theorem dX7_isHole_4 : decode cX7_isHole 4 = .ok (.iload_n 0, 1) := by decide +kernel
theorem dX7_isHole_5 : decode cX7_isHole 5 = .ok (.bipush 20, 2) := by decide +kernel
theorem dX7_isHole_7 : decode cX7_isHole 7 = .ok (.if_icmp .gt 7, 3) := by decide +kernel
theorem dX7_isHole_10 : decode cX7_isHole 10 = .ok (.iconst 1, 1) := by decide +kernel
theorem dX7_isHole_11 : decode cX7_isHole 11 = .ok (.goto 4, 3) := by decide +kernel
theorem dX7_isHole_14 : decode cX7_isHole 14 = .ok (.iconst 0, 1) := by decide +kernel
theorem dX7_isHole_15 : decode cX7_isHole 15 = .ok (.ireturn, 1) := by decide +kernel
theorem dX7_isRadius_0 : decode cX7_isRadius 0 = .ok (.iload_n 0, 1) := by decide +kernel
theorem dX7_isRadius_1 : decode cX7_isRadius 1 = .ok (.ifCond .lt 14, 3) := by decide +kernel
theorem dX7_isRadius_4 : decode cX7_isRadius 4 = .ok (.iload_n 0, 1) := by decide +kernel
theorem dX7_isRadius_5 : decode cX7_isRadius 5 = .ok (.sipush 300, 3) := by decide +kernel
theorem dX7_isRadius_8 : decode cX7_isRadius 8 = .ok (.if_icmp .gt 7, 3) := by decide +kernel
theorem dX7_isRadius_11 : decode cX7_isRadius 11 = .ok (.iconst 1, 1) := by decide +kernel
theorem dX7_isRadius_12 : decode cX7_isRadius 12 = .ok (.goto 4, 3) := by decide +kernel
theorem dX7_isRadius_15 : decode cX7_isRadius 15 = .ok (.iconst 0, 1) := by decide +kernel
theorem dX7_isRadius_16 : decode cX7_isRadius 16 = .ok (.ireturn, 1) := by decide +kernel
theorem dX7_quotient_0 : decode cX7_quotient 0 = .ok (.lload_n 2, 1) := by decide +kernel
theorem dX7_quotient_1 : decode cX7_quotient 1 = .ok (.lconst 0, 1) := by decide +kernel
theorem dX7_quotient_2 : decode cX7_quotient 2 = .ok (.lcmp, 1) := by decide +kernel
theorem dX7_quotient_3 : decode cX7_quotient 3 = .ok (.ifCond .le 9, 3) := by decide +kernel
theorem dX7_quotient_6 : decode cX7_quotient 6 = .ok (.lload_n 0, 1) := by decide +kernel
theorem dX7_quotient_7 : decode cX7_quotient 7 = .ok (.lload_n 2, 1) := by decide +kernel
theorem dX7_quotient_8 : decode cX7_quotient 8 = .ok (.ldiv, 1) := by decide +kernel
theorem dX7_quotient_9 : decode cX7_quotient 9 = .ok (.goto 4, 3) := by decide +kernel
theorem dX7_quotient_12 : decode cX7_quotient 12 = .ok (.lconst 0, 1) := by decide +kernel
theorem dX7_quotient_13 : decode cX7_quotient 13 = .ok (.lreturn, 1) := by decide +kernel
theorem dX7_remainder_0 : decode cX7_remainder 0 = .ok (.iload_n 2, 1) := by decide +kernel
theorem dX7_remainder_1 : decode cX7_remainder 1 = .ok (.ifCond .le 11, 3) := by decide +kernel
theorem dX7_remainder_4 : decode cX7_remainder 4 = .ok (.lload_n 0, 1) := by decide +kernel
theorem dX7_remainder_5 : decode cX7_remainder 5 = .ok (.iload_n 2, 1) := by decide +kernel
theorem dX7_remainder_6 : decode cX7_remainder 6 = .ok (.i2l, 1) := by decide +kernel
theorem dX7_remainder_7 : decode cX7_remainder 7 = .ok (.lrem, 1) := by decide +kernel
theorem dX7_remainder_8 : decode cX7_remainder 8 = .ok (.l2i, 1) := by decide +kernel
theorem dX7_remainder_9 : decode cX7_remainder 9 = .ok (.goto 4, 3) := by decide +kernel
theorem dX7_remainder_12 : decode cX7_remainder 12 = .ok (.iconst 0, 1) := by decide +kernel
theorem dX7_remainder_13 : decode cX7_remainder 13 = .ok (.ireturn, 1) := by decide +kernel
theorem dX7_commonDivisor_0 : decode cX7_commonDivisor 0 = .ok (.lload_n 0, 1) := by decide +kernel
theorem dX7_commonDivisor_1 : decode cX7_commonDivisor 1 = .ok (.lstore 4, 2) := by decide +kernel
theorem dX7_commonDivisor_3 : decode cX7_commonDivisor 3 = .ok (.lload_n 2, 1) := by decide +kernel
theorem dX7_commonDivisor_4 : decode cX7_commonDivisor 4 = .ok (.lstore 6, 2) := by decide +kernel
theorem dX7_commonDivisor_6 : decode cX7_commonDivisor 6 = .ok (.iconst 0, 1) := by decide +kernel
theorem dX7_commonDivisor_7 : decode cX7_commonDivisor 7 = .ok (.istore 8, 2) := by decide +kernel
theorem dX7_commonDivisor_9 : decode cX7_commonDivisor 9 = .ok (.iload 8, 2) := by decide +kernel
theorem dX7_commonDivisor_11 : decode cX7_commonDivisor 11 = .ok (.bipush 100, 2) := by decide +kernel
theorem dX7_commonDivisor_13 : decode cX7_commonDivisor 13 = .ok (.if_icmp .ge 31, 3) := by decide +kernel
theorem dX7_commonDivisor_16 : decode cX7_commonDivisor 16 = .ok (.lload 6, 2) := by decide +kernel
theorem dX7_commonDivisor_18 : decode cX7_commonDivisor 18 = .ok (.lconst 0, 1) := by decide +kernel
theorem dX7_commonDivisor_19 : decode cX7_commonDivisor 19 = .ok (.lcmp, 1) := by decide +kernel
theorem dX7_commonDivisor_20 : decode cX7_commonDivisor 20 = .ok (.ifCond .le 24, 3) := by decide +kernel
theorem dX7_commonDivisor_23 : decode cX7_commonDivisor 23 = .ok (.lload 4, 2) := by decide +kernel
theorem dX7_commonDivisor_25 : decode cX7_commonDivisor 25 = .ok (.lload 6, 2) := by decide +kernel
theorem dX7_commonDivisor_27 : decode cX7_commonDivisor 27 = .ok (.lrem, 1) := by decide +kernel
theorem dX7_commonDivisor_28 : decode cX7_commonDivisor 28 = .ok (.lstore 9, 2) := by decide +kernel
theorem dX7_commonDivisor_30 : decode cX7_commonDivisor 30 = .ok (.lload 6, 2) := by decide +kernel
theorem dX7_commonDivisor_32 : decode cX7_commonDivisor 32 = .ok (.lstore 4, 2) := by decide +kernel
theorem dX7_commonDivisor_34 : decode cX7_commonDivisor 34 = .ok (.lload 9, 2) := by decide +kernel
theorem dX7_commonDivisor_36 : decode cX7_commonDivisor 36 = .ok (.lstore 6, 2) := by decide +kernel
theorem dX7_commonDivisor_38 : decode cX7_commonDivisor 38 = .ok (.iinc 8 1, 3) := by decide +kernel
theorem dX7_commonDivisor_41 : decode cX7_commonDivisor 41 = .ok (.goto (-32), 3) := by decide +kernel
theorem dX7_commonDivisor_44 : decode cX7_commonDivisor 44 = .ok (.lload 4, 2) := by decide +kernel
theorem dX7_commonDivisor_46 : decode cX7_commonDivisor 46 = .ok (.lreturn, 1) := by decide +kernel
set_option maxRecDepth 20000 in
theorem ggX7_commonMultiple_X7_commonDivisor : GoodIn wsX7_commonMultiple wsX7_commonDivisor := goodIn_r _ [4] (by decide +kernel) (by decide +kernel)
set_option maxRecDepth 20000 in
theorem gX7_commonMultiple_X7_commonDivisor : GoodIn wsX7_commonMultiple (va_wsS RX7 343 yX7_commonDivisor wsX7_commonDivisor) := goodIn_app (goodIn_of _ (by decide +kernel)) ggX7_commonMultiple_X7_commonDivisor
set_option maxRecDepth 20000 in
theorem ggX7_commonMultiple_X7_quotient : GoodIn wsX7_commonMultiple wsX7_quotient := goodIn_r _ [7] (by decide +kernel) (by decide +kernel)
set_option maxRecDepth 20000 in
theorem gX7_commonMultiple_X7_quotient : GoodIn wsX7_commonMultiple (va_wsS RX7 301 yX7_quotient wsX7_quotient) := goodIn_app (goodIn_of _ (by decide +kernel)) ggX7_commonMultiple_X7_quotient
theorem dX7_commonMultiple_0 : decode cX7_commonMultiple 0 = .ok (.lload_n 0, 1) := by decide +kernel
theorem dX7_commonMultiple_1 : decode cX7_commonMultiple 1 = .ok (.lload_n 0, 1) := by decide +kernel
theorem dX7_commonMultiple_2 : decode cX7_commonMultiple 2 = .ok (.lload_n 2, 1) := by decide +kernel
theorem dX7_commonMultiple_3 : decode cX7_commonMultiple 3 = .ok (.invokestatic 343, 3) := by decide +kernel
theorem dX7_commonMultiple_6 : decode cX7_commonMultiple 6 = .ok (.invokestatic 301, 3) := by decide +kernel
theorem dX7_commonMultiple_9 : decode cX7_commonMultiple 9 = .ok (.lload_n 2, 1) := by decide +kernel
theorem dX7_commonMultiple_10 : decode cX7_commonMultiple 10 = .ok (.lmul, 1) := by decide +kernel
theorem dX7_commonMultiple_11 : decode cX7_commonMultiple 11 = .ok (.lreturn, 1) := by decide +kernel
theorem dJ13_bitCount_95d88_0 : decode cJ13_bitCount_95d88 0 = .ok (.lload_n 0, 1) := by decide +kernel
theorem dJ13_bitCount_95d88_1 : decode cJ13_bitCount_95d88 1 = .ok (.lload_n 0, 1) := by decide +kernel
theorem dJ13_bitCount_95d88_2 : decode cJ13_bitCount_95d88 2 = .ok (.iconst 1, 1) := by decide +kernel
theorem dJ13_bitCount_95d88_3 : decode cJ13_bitCount_95d88 3 = .ok (.lushr, 1) := by decide +kernel
theorem dJ13_bitCount_95d88_4 : decode cJ13_bitCount_95d88 4 = .ok (.ldc2_w 314, 3) := by decide +kernel
theorem dJ13_bitCount_95d88_7 : decode cJ13_bitCount_95d88 7 = .ok (.land, 1) := by decide +kernel
theorem dJ13_bitCount_95d88_8 : decode cJ13_bitCount_95d88 8 = .ok (.lsub, 1) := by decide +kernel
theorem dJ13_bitCount_95d88_9 : decode cJ13_bitCount_95d88 9 = .ok (.lstore_n 0, 1) := by decide +kernel
theorem dJ13_bitCount_95d88_10 : decode cJ13_bitCount_95d88 10 = .ok (.lload_n 0, 1) := by decide +kernel
theorem dJ13_bitCount_95d88_11 : decode cJ13_bitCount_95d88 11 = .ok (.ldc2_w 316, 3) := by decide +kernel
theorem dJ13_bitCount_95d88_14 : decode cJ13_bitCount_95d88 14 = .ok (.land, 1) := by decide +kernel
theorem dJ13_bitCount_95d88_15 : decode cJ13_bitCount_95d88 15 = .ok (.lload_n 0, 1) := by decide +kernel
theorem dJ13_bitCount_95d88_16 : decode cJ13_bitCount_95d88 16 = .ok (.iconst 2, 1) := by decide +kernel
theorem dJ13_bitCount_95d88_17 : decode cJ13_bitCount_95d88 17 = .ok (.lushr, 1) := by decide +kernel
theorem dJ13_bitCount_95d88_18 : decode cJ13_bitCount_95d88 18 = .ok (.ldc2_w 316, 3) := by decide +kernel
theorem dJ13_bitCount_95d88_21 : decode cJ13_bitCount_95d88 21 = .ok (.land, 1) := by decide +kernel
theorem dJ13_bitCount_95d88_22 : decode cJ13_bitCount_95d88 22 = .ok (.ladd, 1) := by decide +kernel
theorem dJ13_bitCount_95d88_23 : decode cJ13_bitCount_95d88 23 = .ok (.lstore_n 0, 1) := by decide +kernel
theorem dJ13_bitCount_95d88_24 : decode cJ13_bitCount_95d88 24 = .ok (.lload_n 0, 1) := by decide +kernel
theorem dJ13_bitCount_95d88_25 : decode cJ13_bitCount_95d88 25 = .ok (.lload_n 0, 1) := by decide +kernel
theorem dJ13_bitCount_95d88_26 : decode cJ13_bitCount_95d88 26 = .ok (.iconst 4, 1) := by decide +kernel
theorem dJ13_bitCount_95d88_27 : decode cJ13_bitCount_95d88 27 = .ok (.lushr, 1) := by decide +kernel
theorem dJ13_bitCount_95d88_28 : decode cJ13_bitCount_95d88 28 = .ok (.ladd, 1) := by decide +kernel
theorem dJ13_bitCount_95d88_29 : decode cJ13_bitCount_95d88 29 = .ok (.ldc2_w 318, 3) := by decide +kernel
theorem dJ13_bitCount_95d88_32 : decode cJ13_bitCount_95d88 32 = .ok (.land, 1) := by decide +kernel
theorem dJ13_bitCount_95d88_33 : decode cJ13_bitCount_95d88 33 = .ok (.lstore_n 0, 1) := by decide +kernel
theorem dJ13_bitCount_95d88_34 : decode cJ13_bitCount_95d88 34 = .ok (.lload_n 0, 1) := by decide +kernel
theorem dJ13_bitCount_95d88_35 : decode cJ13_bitCount_95d88 35 = .ok (.lload_n 0, 1) := by decide +kernel
theorem dJ13_bitCount_95d88_36 : decode cJ13_bitCount_95d88 36 = .ok (.bipush 8, 2) := by decide +kernel
theorem dJ13_bitCount_95d88_38 : decode cJ13_bitCount_95d88 38 = .ok (.lushr, 1) := by decide +kernel
theorem dJ13_bitCount_95d88_39 : decode cJ13_bitCount_95d88 39 = .ok (.ladd, 1) := by decide +kernel
theorem dJ13_bitCount_95d88_40 : decode cJ13_bitCount_95d88 40 = .ok (.lstore_n 0, 1) := by decide +kernel
theorem dJ13_bitCount_95d88_41 : decode cJ13_bitCount_95d88 41 = .ok (.lload_n 0, 1) := by decide +kernel
theorem dJ13_bitCount_95d88_42 : decode cJ13_bitCount_95d88 42 = .ok (.lload_n 0, 1) := by decide +kernel
theorem dJ13_bitCount_95d88_43 : decode cJ13_bitCount_95d88 43 = .ok (.bipush 16, 2) := by decide +kernel
theorem dJ13_bitCount_95d88_45 : decode cJ13_bitCount_95d88 45 = .ok (.lushr, 1) := by decide +kernel
theorem dJ13_bitCount_95d88_46 : decode cJ13_bitCount_95d88 46 = .ok (.ladd, 1) := by decide +kernel
theorem dJ13_bitCount_95d88_47 : decode cJ13_bitCount_95d88 47 = .ok (.lstore_n 0, 1) := by decide +kernel
theorem dJ13_bitCount_95d88_48 : decode cJ13_bitCount_95d88 48 = .ok (.lload_n 0, 1) := by decide +kernel
theorem dJ13_bitCount_95d88_49 : decode cJ13_bitCount_95d88 49 = .ok (.lload_n 0, 1) := by decide +kernel
theorem dJ13_bitCount_95d88_50 : decode cJ13_bitCount_95d88 50 = .ok (.bipush 32, 2) := by decide +kernel
theorem dJ13_bitCount_95d88_52 : decode cJ13_bitCount_95d88 52 = .ok (.lushr, 1) := by decide +kernel
theorem dJ13_bitCount_95d88_53 : decode cJ13_bitCount_95d88 53 = .ok (.ladd, 1) := by decide +kernel
theorem dJ13_bitCount_95d88_54 : decode cJ13_bitCount_95d88 54 = .ok (.lstore_n 0, 1) := by decide +kernel
theorem dJ13_bitCount_95d88_55 : decode cJ13_bitCount_95d88 55 = .ok (.lload_n 0, 1) := by decide +kernel
theorem dJ13_bitCount_95d88_56 : decode cJ13_bitCount_95d88 56 = .ok (.l2i, 1) := by decide +kernel
theorem dJ13_bitCount_95d88_57 : decode cJ13_bitCount_95d88 57 = .ok (.bipush 127, 2) := by decide +kernel
theorem dJ13_bitCount_95d88_59 : decode cJ13_bitCount_95d88 59 = .ok (.iand, 1) := by decide +kernel
theorem dJ13_bitCount_95d88_60 : decode cJ13_bitCount_95d88 60 = .ok (.ireturn, 1) := by decide +kernel
theorem dJ9_abs_0f7a4_0 : decode cJ9_abs_0f7a4 0 = .ok (.iload_n 0, 1) := by decide +kernel
theorem dJ9_abs_0f7a4_1 : decode cJ9_abs_0f7a4 1 = .ok (.ifCond .ge 8, 3) := by decide +kernel
theorem dJ9_abs_0f7a4_4 : decode cJ9_abs_0f7a4 4 = .ok (.iload_n 0, 1) := by decide +kernel
theorem dJ9_abs_0f7a4_5 : decode cJ9_abs_0f7a4 5 = .ok (.ineg, 1) := by decide +kernel
theorem dJ9_abs_0f7a4_6 : decode cJ9_abs_0f7a4 6 = .ok (.goto 4, 3) := by decide +kernel
theorem dJ9_abs_0f7a4_9 : decode cJ9_abs_0f7a4 9 = .ok (.iload_n 0, 1) := by decide +kernel
theorem dJ9_abs_0f7a4_10 : decode cJ9_abs_0f7a4 10 = .ok (.ireturn, 1) := by decide +kernel
theorem dJ9_max_7cf53_0 : decode cJ9_max_7cf53 0 = .ok (.iload_n 0, 1) := by decide +kernel
theorem dJ9_max_7cf53_1 : decode cJ9_max_7cf53 1 = .ok (.iload_n 1, 1) := by decide +kernel
theorem dJ9_max_7cf53_2 : decode cJ9_max_7cf53 2 = .ok (.if_icmp .lt 7, 3) := by decide +kernel
theorem dJ9_max_7cf53_5 : decode cJ9_max_7cf53 5 = .ok (.iload_n 0, 1) := by decide +kernel
theorem dJ9_max_7cf53_6 : decode cJ9_max_7cf53 6 = .ok (.goto 4, 3) := by decide +kernel
theorem dJ9_max_7cf53_9 : decode cJ9_max_7cf53 9 = .ok (.iload_n 1, 1) := by decide +kernel
theorem dJ9_max_7cf53_10 : decode cJ9_max_7cf53 10 = .ok (.ireturn, 1) := by decide +kernel
theorem dJ9_min_7cf53_0 : decode cJ9_min_7cf53 0 = .ok (.iload_n 0, 1) := by decide +kernel
theorem dJ9_min_7cf53_1 : decode cJ9_min_7cf53 1 = .ok (.iload_n 1, 1) := by decide +kernel
theorem dJ9_min_7cf53_2 : decode cJ9_min_7cf53 2 = .ok (.if_icmp .gt 7, 3) := by decide +kernel
theorem dJ9_min_7cf53_5 : decode cJ9_min_7cf53 5 = .ok (.iload_n 0, 1) := by decide +kernel
theorem dJ9_min_7cf53_6 : decode cJ9_min_7cf53 6 = .ok (.goto 4, 3) := by decide +kernel
theorem dJ9_min_7cf53_9 : decode cJ9_min_7cf53 9 = .ok (.iload_n 1, 1) := by decide +kernel
theorem dJ9_min_7cf53_10 : decode cJ9_min_7cf53 10 = .ok (.ireturn, 1) := by decide +kernel
theorem dL_cell_0 : decode cL_cell 0 = .ok (.iload_n 1, 1) := by decide +kernel
theorem dL_cell_1 : decode cL_cell 1 = .ok (.aload_n 0, 1) := by decide +kernel
theorem dL_cell_2 : decode cL_cell 2 = .ok (.arraylength, 1) := by decide +kernel
theorem dL_cell_3 : decode cL_cell 3 = .ok (.if_icmp .ge 9, 3) := by decide +kernel
theorem dL_cell_6 : decode cL_cell 6 = .ok (.aload_n 0, 1) := by decide +kernel
theorem dL_cell_7 : decode cL_cell 7 = .ok (.iload_n 1, 1) := by decide +kernel
theorem dL_cell_8 : decode cL_cell 8 = .ok (.iaload, 1) := by decide +kernel
theorem dL_cell_9 : decode cL_cell 9 = .ok (.goto 9, 3) := by decide +kernel
theorem dL_cell_12 : decode cL_cell 12 = .ok (.ldc 7, 2) := by decide +kernel
theorem dL_cell_14 : decode cL_cell 14 = .ok (.iload_n 1, 1) := by decide +kernel
theorem dL_cell_15 : decode cL_cell 15 = .ok (.iconst 1, 1) := by decide +kernel
theorem dL_cell_16 : decode cL_cell 16 = .ok (.iadd, 1) := by decide +kernel
theorem dL_cell_17 : decode cL_cell 17 = .ok (.imul, 1) := by decide +kernel
theorem dL_cell_18 : decode cL_cell 18 = .ok (.ireturn, 1) := by decide +kernel
theorem dL_low_0 : decode cL_low 0 = .ok (.iload_n 0, 1) := by decide +kernel
theorem dL_low_1 : decode cL_low 1 = .ok (.ldc 8, 2) := by decide +kernel
theorem dL_low_3 : decode cL_low 3 = .ok (.iand, 1) := by decide +kernel
theorem dL_low_4 : decode cL_low 4 = .ok (.iload_n 1, 1) := by decide +kernel
theorem dL_low_5 : decode cL_low 5 = .ok (.irem, 1) := by decide +kernel
theorem dL_low_6 : decode cL_low 6 = .ok (.ireturn, 1) := by decide +kernel
set_option maxRecDepth 20000 in
theorem ggL_restored_X7_restore : GoodIn wsL_restored wsX7_restore := goodIn_ca (goodIn_ca (goodIn_r _ [6, 7, 8, 9, 10, 11, 12, 13, 14, 15, 16, 17, 5, 18, 19, 20, 21, 22, 23, 24, 25, 26, 27, 28, 29, 30, 31, 32, 33, 34, 35, 36, 37, 38, 39, 40, 41, 42, 43, 44, 45, 46, 47, 48, 49, 50, 51, 52, 53, 54, 55, 56, 57, 58, 59, 60, 61, 62, 63, 64, 65, 66, 67, 68, 69, 70, 71, 72, 73, 74, 75, 76, 77, 78, 79, 80, 81, 82, 83, 84, 85, 86, 87, 88, 89, 90, 91, 92, 93, 94, 95, 96, 97, 98, 99, 100, 101, 102, 103] (by decide +kernel) (by decide +kernel)) (goodIn_sub (fun _ h => List.mem_cons_of_mem _ (List.mem_append_left _ (List.mem_append_right _ h))) (by decide +kernel))) (goodIn_sub (fun _ h => List.mem_cons_of_mem _ (List.mem_append_right _ h)) (by decide +kernel))
set_option maxRecDepth 20000 in
theorem gL_restored_X7_restore : GoodIn wsL_restored (wsV RL 9 RX7 yX7_restore wsX7_restore) := goodIn_app (goodIn_of _ (by decide +kernel)) ggL_restored_X7_restore
theorem dL_restored_0 : decode cL_restored 0 = .ok (.aload_n 0, 1) := by decide +kernel
theorem dL_restored_1 : decode cL_restored 1 = .ok (.iload_n 1, 1) := by decide +kernel
theorem dL_restored_2 : decode cL_restored 2 = .ok (.invokevirtual 9, 3) := by decide +kernel
theorem dL_restored_5 : decode cL_restored 5 = .ok (.ireturn, 1) := by decide +kernel
theorem dL_restored_6 : decode cL_restored 6 = .ok (.astore_n 2, 1) := by decide +kernel
theorem dL_restored_7 : decode cL_restored 7 = .ok (.sipush (-1000), 3) := by decide +kernel
theorem dL_restored_10 : decode cL_restored 10 = .ok (.ireturn, 1) := by decide +kernel
set_option maxRecDepth 20000 in
theorem ggL_change_X7_about : GoodIn wsL_change wsX7_about := goodIn_ca (goodIn_r _ [5, 6, 7, 8, 9, 10, 11, 12, 13, 14, 15, 16, 17, 18, 19, 20, 21, 22, 23, 24, 25, 26, 27, 28, 29, 30, 31, 32, 33, 34, 35, 36, 37, 38, 39, 40, 41, 42, 43, 44, 45, 4, 46, 47, 48, 49, 50, 51, 52, 53, 54, 55, 56, 57, 58, 59, 60, 61, 62, 63, 64, 65, 66, 67, 68, 69, 70, 71, 72, 73, 74, 75, 76, 77, 78, 79, 80, 81, 82, 83, 84, 85, 86, 87, 88, 89, 90, 91, 92, 93, 94, 95, 96, 97, 98, 99, 100, 101, 102, 103, 104, 105, 106, 107, 108, 109, 110, 111, 112, 113, 114, 115, 116, 117, 118, 119, 120, 121, 122, 123, 124, 125, 126, 127, 128, 129, 130, 131, 132, 285, 286, 287, 288, 289, 290, 291, 292, 293, 294, 295, 296, 297, 298, 299, 300, 301, 302, 303, 304, 305, 306] (by decide +kernel) (by decide +kernel)) (goodIn_sub (fun _ h => List.mem_cons_of_mem _ (List.mem_append_left _ (List.mem_append_left _ (List.mem_append_right _ h)))) (by decide +kernel))
set_option maxRecDepth 20000 in
theorem gL_change_X7_about : GoodIn wsL_change (wsV RL 17 RX7 yX7_about wsX7_about) := goodIn_app (goodIn_of _ (by decide +kernel)) ggL_change_X7_about
set_option maxRecDepth 20000 in
theorem ggL_change_L_low : GoodIn wsL_change wsL_low := goodIn_r _ [136, 137] (by decide +kernel) (by decide +kernel)
set_option maxRecDepth 20000 in
theorem gL_change_L_low : GoodIn wsL_change (va_wsS RL 20 yL_low wsL_low) := goodIn_app (goodIn_of _ (by decide +kernel)) ggL_change_L_low
set_option maxRecDepth 20000 in
theorem ggL_change_X7_setRing : GoodIn wsL_change wsX7_setRing := goodIn_ca (goodIn_r _ [141, 6, 7, 142, 8, 9, 143, 144, 4, 145, 146, 147, 148, 149, 150, 151, 152, 153, 154, 155, 156, 157, 158, 159, 160, 30, 161, 114, 32, 162, 163, 164, 165, 113, 166, 167, 168, 169, 85, 28, 29, 31, 33, 170, 171, 172, 173, 174, 175, 176, 177, 178, 179, 180, 42, 181, 44, 53, 54, 65, 115, 116, 117, 118, 119, 120, 121, 122, 123, 124, 182, 183, 184, 185, 186, 187, 188, 189, 190, 191, 192, 193, 194, 195, 196, 197, 285, 286, 287, 288, 289, 290, 291, 292, 293, 294, 295, 296, 297, 298, 307, 308, 309, 303, 304, 305, 306] (by decide +kernel) (by decide +kernel)) (goodIn_sub (fun _ h => List.mem_cons_of_mem _ (List.mem_append_left _ (List.mem_append_left _ (List.mem_append_right _ h)))) (by decide +kernel))
set_option maxRecDepth 20000 in
theorem gL_change_X7_setRing : GoodIn wsL_change (wsV RL 26 RX7 yX7_setRing wsX7_setRing) := goodIn_app (goodIn_of _ (by decide +kernel)) ggL_change_X7_setRing
set_option maxRecDepth 20000 in
theorem ggL_change_X7_forget : GoodIn wsL_change wsX7_forget := goodIn_r _ [201, 142, 8, 11, 146, 147, 148, 149, 150, 151, 152, 153, 154, 155, 156, 157, 158, 159, 160, 30, 161, 114, 32, 162, 163, 164, 165, 113, 166, 167, 168, 169, 85, 28, 29, 31, 33, 170, 171, 172, 173, 174, 175, 176, 177, 178, 179, 180, 42, 181, 44, 53, 54, 65, 115, 116, 117, 118, 119, 120, 121, 122, 123, 124, 182, 183, 184, 185, 186, 187, 188, 189, 285, 286, 287, 288, 289, 290, 291, 292, 293, 294, 295, 296, 297, 298, 307, 308, 309, 303, 304, 305, 306] (by decide +kernel) (by decide +kernel)
set_option maxRecDepth 20000 in
theorem gL_change_X7_forget : GoodIn wsL_change (wsV RL 29 RX7 yX7_forget wsX7_forget) := goodIn_app (goodIn_of _ (by decide +kernel)) ggL_change_X7_forget
set_option maxRecDepth 20000 in
theorem ggL_change_X7_change : GoodIn wsL_change wsX7_change := goodIn_ca (goodIn_ca (goodIn_r _ [205, 206, 207, 6, 7, 8, 142, 208, 28, 29, 30, 31, 32, 33, 209, 210, 211, 212, 213, 4, 214, 215, 216, 217, 218, 194, 195, 196, 197, 114, 146, 147, 148, 149, 150, 151, 152, 153, 154, 155, 156, 157, 158, 159, 160, 161, 162, 163, 164, 165, 113, 166, 167, 168, 169, 85, 170, 171, 172, 173, 174, 175, 176, 177, 178, 179, 180, 42, 181, 44, 53, 54, 65, 115, 116, 117, 118, 119, 120, 121, 122, 123, 124, 182, 183, 184, 185, 186, 187, 188, 189, 219, 220, 221, 222, 285, 286, 287, 288, 289, 290, 291, 292, 293, 294, 295, 296, 297, 298, 307, 308, 309, 303, 304, 305, 306] (by decide +kernel) (by decide +kernel)) (goodIn_sub (fun _ h => List.mem_cons_of_mem _ (List.mem_append_left _ (List.mem_append_right _ h))) (by decide +kernel))) (goodIn_sub (fun _ h => List.mem_cons_of_mem _ (List.mem_append_left _ (List.mem_append_left _ (List.mem_append_right _ h)))) (by decide +kernel))
set_option maxRecDepth 20000 in
theorem gL_change_X7_change : GoodIn wsL_change (wsV RL 33 RX7 yX7_change wsX7_change) := goodIn_app (goodIn_of _ (by decide +kernel)) ggL_change_X7_change
set_option maxRecDepth 20000 in
theorem ggL_change_X7_remove : GoodIn wsL_change wsX7_remove := goodIn_ca (goodIn_r _ [226, 206, 207, 8, 142, 10, 208, 28, 29, 30, 31, 32, 33, 146, 147, 148, 149, 150, 151, 152, 153, 154, 155, 156, 157, 158, 159, 160, 161, 114, 162, 163, 164, 165, 113, 166, 167, 168, 169, 85, 170, 171, 172, 173, 174, 175, 176, 177, 178, 179, 180, 42, 181, 44, 53, 54, 65, 115, 116, 117, 118, 119, 120, 121, 122, 123, 124, 182, 183, 184, 185, 186, 187, 188, 189, 227, 228, 229, 230, 231, 232, 233, 234, 235, 285, 286, 287, 288, 289, 290, 291, 292, 293, 294, 295, 296, 297, 298, 307, 308, 309, 303, 304, 305, 306] (by decide +kernel) (by decide +kernel)) (goodIn_sub (fun _ h => List.mem_cons_of_mem _ (List.mem_append_left _ (List.mem_append_right _ h))) (by decide +kernel))
set_option maxRecDepth 20000 in
theorem gL_change_X7_remove : GoodIn wsL_change (wsV RL 37 RX7 yX7_remove wsX7_remove) := goodIn_app (goodIn_of _ (by decide +kernel)) ggL_change_X7_remove
set_option maxRecDepth 20000 in
theorem ggL_change_X7_pen : GoodIn wsL_change wsX7_pen := goodIn_ca (goodIn_ca (goodIn_r _ [239, 206, 207, 6, 7, 8, 9, 208, 28, 29, 30, 31, 32, 33, 240, 62, 63, 42, 64, 65, 59, 4, 60, 241, 50, 51, 52, 44, 53, 54, 55, 56, 57, 58, 47, 48, 285, 286, 287, 288, 289, 290, 291, 292, 293, 294, 295, 296, 297, 298, 303, 304, 305, 306] (by decide +kernel) (by decide +kernel)) (goodIn_sub (fun _ h => List.mem_cons_of_mem _ (List.mem_append_left _ (List.mem_append_right _ h))) (by decide +kernel))) (goodIn_sub (fun _ h => List.mem_cons_of_mem _ (List.mem_append_left _ (List.mem_append_left _ (List.mem_append_right _ h)))) (by decide +kernel))
set_option maxRecDepth 20000 in
theorem gL_change_X7_pen : GoodIn wsL_change (wsV RL 40 RX7 yX7_pen wsX7_pen) := goodIn_app (goodIn_of _ (by decide +kernel)) ggL_change_X7_pen
set_option maxRecDepth 20000 in
theorem ggL_change_X7_see : GoodIn wsL_change wsX7_see := goodIn_ca (goodIn_r _ [245, 6, 7, 8, 142, 246, 195, 196, 30, 197, 114, 247, 248, 4, 249, 146, 147, 148, 149, 150, 151, 152, 153, 154, 155, 156, 157, 158, 159, 160, 161, 32, 162, 163, 164, 165, 113, 166, 167, 168, 169, 85, 28, 29, 31, 33, 170, 171, 172, 173, 174, 175, 176, 177, 178, 179, 180, 42, 181, 44, 53, 54, 65, 115, 116, 117, 118, 119, 120, 121, 122, 123, 124, 182, 183, 184, 185, 186, 187, 188, 189, 250, 105, 106, 107, 108, 109, 110, 111, 112, 125, 126, 127, 128, 59, 60, 129, 130, 131, 132, 45, 46, 47, 48, 93, 50, 51, 52, 55, 56, 57, 58, 285, 286, 287, 288, 289, 290, 291, 292, 293, 294, 295, 296, 297, 298, 307, 308, 309, 303, 304, 305, 306] (by decide +kernel) (by decide +kernel)) (goodIn_sub (fun _ h => List.mem_cons_of_mem _ (List.mem_append_left _ (List.mem_append_left _ (List.mem_append_right _ h)))) (by decide +kernel))
set_option maxRecDepth 20000 in
theorem gL_change_X7_see : GoodIn wsL_change (wsV RL 44 RX7 yX7_see wsX7_see) := goodIn_app (goodIn_of _ (by decide +kernel)) ggL_change_X7_see
set_option maxRecDepth 20000 in
theorem ggL_change_X7_save : GoodIn wsL_change wsX7_save := goodIn_ca (goodIn_r _ [254, 206, 207, 255, 8, 10, 256, 257, 258, 4, 259, 260, 261, 159, 160, 30, 161, 114, 32, 162, 163, 164, 165, 113, 166, 167, 168, 169, 85, 28, 29, 31, 33, 170, 171, 172, 173, 174, 175, 176, 177, 178, 179, 180, 42, 181, 44, 53, 54, 65, 115, 116, 117, 118, 119, 120, 121, 122, 123, 124, 182, 183, 184, 185, 186, 187, 188, 189, 285, 286, 287, 288, 289, 290, 291, 292, 293, 294, 295, 296, 297, 298, 303, 304, 305, 306] (by decide +kernel) (by decide +kernel)) (goodIn_sub (fun _ h => List.mem_cons_of_mem _ (List.mem_append_left _ (List.mem_append_right _ h))) (by decide +kernel))
set_option maxRecDepth 20000 in
theorem gL_change_X7_save : GoodIn wsL_change (wsV RL 47 RX7 yX7_save wsX7_save) := goodIn_app (goodIn_of _ (by decide +kernel)) ggL_change_X7_save
set_option maxRecDepth 20000 in
theorem ggL_change_L_restored : GoodIn wsL_change wsL_restored := goodIn_ca (goodIn_ca (goodIn_r _ [264, 265, 266, 267, 268, 4, 269, 206, 207, 270, 271, 255, 8, 142, 10, 256, 257, 258, 259, 260, 261, 159, 160, 30, 161, 114, 32, 162, 163, 164, 165, 113, 166, 167, 168, 169, 85, 28, 29, 31, 33, 170, 171, 172, 173, 174, 175, 176, 177, 178, 179, 180, 42, 181, 44, 53, 54, 65, 115, 116, 117, 118, 119, 120, 121, 122, 123, 124, 182, 183, 184, 185, 186, 187, 188, 189, 272, 273, 274, 149, 275, 151, 152, 285, 286, 287, 288, 289, 290, 291, 292, 293, 294, 295, 296, 297, 298, 303, 304, 305, 306, 307, 308, 309] (by decide +kernel) (by decide +kernel)) (goodIn_sub (fun _ h => List.mem_cons_of_mem _ (List.mem_append_left _ (List.mem_append_right _ h))) (by decide +kernel))) (goodIn_sub (fun _ h => List.mem_cons_of_mem _ (List.mem_append_right _ h)) (by decide +kernel))
set_option maxRecDepth 20000 in
theorem gL_change_L_restored : GoodIn wsL_change (va_wsS RL 50 yL_restored wsL_restored) := goodIn_app (goodIn_of _ (by decide +kernel)) ggL_change_L_restored
set_option maxRecDepth 20000 in
theorem ggL_change_X7_addLayer : GoodIn wsL_change wsX7_addLayer := goodIn_ca (goodIn_ca (goodIn_r _ [279, 6, 7, 270, 271, 8, 142, 10, 280, 213, 4, 214, 281, 215, 216, 282, 217, 218, 246, 195, 196, 30, 197, 114, 283, 175, 176, 177, 32, 146, 147, 148, 149, 150, 151, 152, 153, 154, 155, 156, 157, 158, 159, 160, 161, 162, 163, 164, 165, 113, 166, 167, 168, 169, 85, 28, 29, 31, 33, 170, 171, 172, 173, 174, 178, 179, 180, 42, 181, 44, 53, 54, 65, 115, 116, 117, 118, 119, 120, 121, 122, 123, 124, 182, 183, 184, 185, 186, 187, 188, 189, 284, 285, 286, 287, 288, 289, 290, 291, 292, 293, 294, 295, 296, 297, 298, 307, 308, 309, 303, 304, 305, 306] (by decide +kernel) (by decide +kernel)) (goodIn_sub (fun _ h => List.mem_cons_of_mem _ (List.mem_append_left _ (List.mem_append_left _ (List.mem_append_right _ h)))) (by decide +kernel))) (goodIn_sub (fun _ h => List.mem_cons_of_mem _ (List.mem_append_right _ h)) (by decide +kernel))
set_option maxRecDepth 20000 in
theorem gL_change_X7_addLayer : GoodIn wsL_change (wsV RL 54 RX7 yX7_addLayer wsX7_addLayer) := goodIn_app (goodIn_of _ (by decide +kernel)) ggL_change_X7_addLayer
theorem dL_change_0 : decode cL_change 0 = .ok (.aload_n 0, 1) := by decide +kernel
theorem dL_change_1 : decode cL_change 1 = .ok (.iconst 1, 1) := by decide +kernel
theorem dL_change_2 : decode cL_change 2 = .ok (.invokevirtual 17, 3) := by decide +kernel
theorem dL_change_5 : decode cL_change 5 = .ok (.istore_n 3, 1) := by decide +kernel
theorem dL_change_6 : decode cL_change 6 = .ok (.aload_n 0, 1) := by decide +kernel
theorem dL_change_7 : decode cL_change 7 = .ok (.iconst 0, 1) := by decide +kernel
theorem dL_change_8 : decode cL_change 8 = .ok (.invokevirtual 17, 3) := by decide +kernel
theorem dL_change_11 : decode cL_change 11 = .ok (.istore 4, 2) := by decide +kernel
theorem dL_change_13 : decode cL_change 13 = .ok (.iload_n 3, 1) := by decide +kernel
theorem dL_change_14 : decode cL_change 14 = .ok (.ifCond .ne 7, 3) := by decide +kernel
theorem dL_change_17 : decode cL_change 17 = .ok (.iconst 0, 1) := by decide +kernel
theorem dL_change_18 : decode cL_change 18 = .ok (.goto 11, 3) := by decide +kernel
theorem dL_change_21 : decode cL_change 21 = .ok (.iload_n 1, 1) := by decide +kernel
theorem dL_change_22 : decode cL_change 22 = .ok (.bipush 6, 2) := by decide +kernel
theorem dL_change_24 : decode cL_change 24 = .ok (.ishr, 1) := by decide +kernel
theorem dL_change_25 : decode cL_change 25 = .ok (.iload_n 3, 1) := by decide +kernel
theorem dL_change_26 : decode cL_change 26 = .ok (.invokestatic 20, 3) := by decide +kernel
theorem dL_change_29 : decode cL_change 29 = .ok (.istore 5, 2) := by decide +kernel
theorem dL_change_31 : decode cL_change 31 = .ok (.iload_n 1, 1) := by decide +kernel
theorem dL_change_32 : decode cL_change 32 = .ok (.bipush 13, 2) := by decide +kernel
theorem dL_change_34 : decode cL_change 34 = .ok (.invokestatic 20, 3) := by decide +kernel
theorem dL_change_37 : decode cL_change 37 = .ok (.tableswitch 326 0 9 #[55, 69, 96, 122, 147, 174, 192, 192, 253, 292], 55) := by decide +kernel
theorem dL_change_92 : decode cL_change 92 = .ok (.aload_n 0, 1) := by decide +kernel
theorem dL_change_93 : decode cL_change 93 = .ok (.bipush 12, 2) := by decide +kernel
theorem dL_change_95 : decode cL_change 95 = .ok (.iload_n 2, 1) := by decide +kernel
theorem dL_change_96 : decode cL_change 96 = .ok (.bipush 19, 2) := by decide +kernel
theorem dL_change_98 : decode cL_change 98 = .ok (.invokestatic 20, 3) := by decide +kernel
theorem dL_change_101 : decode cL_change 101 = .ok (.iadd, 1) := by decide +kernel
theorem dL_change_102 : decode cL_change 102 = .ok (.invokevirtual 26, 3) := by decide +kernel
theorem dL_change_105 : decode cL_change 105 = .ok (.ireturn, 1) := by decide +kernel
theorem dL_change_106 : decode cL_change 106 = .ok (.iload_n 3, 1) := by decide +kernel
theorem dL_change_107 : decode cL_change 107 = .ok (.ifCond .ne 10, 3) := by decide +kernel
theorem dL_change_110 : decode cL_change 110 = .ok (.aload_n 0, 1) := by decide +kernel
theorem dL_change_111 : decode cL_change 111 = .ok (.invokevirtual 29, 3) := by decide +kernel
theorem dL_change_114 : decode cL_change 114 = .ok (.goto 18, 3) := by decide +kernel
theorem dL_change_117 : decode cL_change 117 = .ok (.aload_n 0, 1) := by decide +kernel
theorem dL_change_118 : decode cL_change 118 = .ok (.iload 5, 2) := by decide +kernel
theorem dL_change_120 : decode cL_change 120 = .ok (.iconst 0, 1) := by decide +kernel
theorem dL_change_121 : decode cL_change 121 = .ok (.iconst 5, 1) := by decide +kernel
theorem dL_change_122 : decode cL_change 122 = .ok (.iload_n 2, 1) := by decide +kernel
theorem dL_change_123 : decode cL_change 123 = .ok (.bipush 16, 2) := by decide +kernel
theorem dL_change_125 : decode cL_change 125 = .ok (.invokestatic 20, 3) := by decide +kernel
theorem dL_change_128 : decode cL_change 128 = .ok (.iadd, 1) := by decide +kernel
theorem dL_change_129 : decode cL_change 129 = .ok (.invokevirtual 33, 3) := by decide +kernel
theorem dL_change_132 : decode cL_change 132 = .ok (.ireturn, 1) := by decide +kernel
theorem dL_change_133 : decode cL_change 133 = .ok (.iload_n 3, 1) := by decide +kernel
theorem dL_change_134 : decode cL_change 134 = .ok (.ifCond .ne 12, 3) := by decide +kernel
theorem dL_change_137 : decode cL_change 137 = .ok (.aload_n 0, 1) := by decide +kernel
theorem dL_change_138 : decode cL_change 138 = .ok (.bipush 12, 2) := by decide +kernel
theorem dL_change_140 : decode cL_change 140 = .ok (.invokevirtual 26, 3) := by decide +kernel
theorem dL_change_143 : decode cL_change 143 = .ok (.goto 15, 3) := by decide +kernel
theorem dL_change_146 : decode cL_change 146 = .ok (.aload_n 0, 1) := by decide +kernel
theorem dL_change_147 : decode cL_change 147 = .ok (.iload 5, 2) := by decide +kernel
theorem dL_change_149 : decode cL_change 149 = .ok (.iconst 1, 1) := by decide +kernel
theorem dL_change_150 : decode cL_change 150 = .ok (.iload_n 2, 1) := by decide +kernel
theorem dL_change_151 : decode cL_change 151 = .ok (.iconst 2, 1) := by decide +kernel
theorem dL_change_152 : decode cL_change 152 = .ok (.invokestatic 20, 3) := by decide +kernel
theorem dL_change_155 : decode cL_change 155 = .ok (.invokevirtual 33, 3) := by decide +kernel
theorem dL_change_158 : decode cL_change 158 = .ok (.ireturn, 1) := by decide +kernel
theorem dL_change_159 : decode cL_change 159 = .ok (.iload_n 3, 1) := by decide +kernel
theorem dL_change_160 : decode cL_change 160 = .ok (.ifCond .ne 10, 3) := by decide +kernel
theorem dL_change_163 : decode cL_change 163 = .ok (.aload_n 0, 1) := by decide +kernel
theorem dL_change_164 : decode cL_change 164 = .ok (.invokevirtual 29, 3) := by decide +kernel
theorem dL_change_167 : decode cL_change 167 = .ok (.goto 16, 3) := by decide +kernel
theorem dL_change_170 : decode cL_change 170 = .ok (.aload_n 0, 1) := by decide +kernel
theorem dL_change_171 : decode cL_change 171 = .ok (.iload 5, 2) := by decide +kernel
theorem dL_change_173 : decode cL_change 173 = .ok (.iconst 2, 1) := by decide +kernel
theorem dL_change_174 : decode cL_change 174 = .ok (.iload_n 2, 1) := by decide +kernel
theorem dL_change_175 : decode cL_change 175 = .ok (.bipush 21, 2) := by decide +kernel
theorem dL_change_177 : decode cL_change 177 = .ok (.invokestatic 20, 3) := by decide +kernel
theorem dL_change_180 : decode cL_change 180 = .ok (.invokevirtual 33, 3) := by decide +kernel
theorem dL_change_183 : decode cL_change 183 = .ok (.ireturn, 1) := by decide +kernel
theorem dL_change_184 : decode cL_change 184 = .ok (.iload_n 3, 1) := by decide +kernel
theorem dL_change_185 : decode cL_change 185 = .ok (.ifCond .ne 12, 3) := by decide +kernel
theorem dL_change_188 : decode cL_change 188 = .ok (.aload_n 0, 1) := by decide +kernel
theorem dL_change_189 : decode cL_change 189 = .ok (.bipush 24, 2) := by decide +kernel
theorem dL_change_191 : decode cL_change 191 = .ok (.invokevirtual 26, 3) := by decide +kernel
theorem dL_change_194 : decode cL_change 194 = .ok (.goto 16, 3) := by decide +kernel
theorem dL_change_197 : decode cL_change 197 = .ok (.aload_n 0, 1) := by decide +kernel
theorem dL_change_198 : decode cL_change 198 = .ok (.iload 5, 2) := by decide +kernel
theorem dL_change_200 : decode cL_change 200 = .ok (.iconst 3, 1) := by decide +kernel
theorem dL_change_201 : decode cL_change 201 = .ok (.iload_n 2, 1) := by decide +kernel
theorem dL_change_202 : decode cL_change 202 = .ok (.iload 4, 2) := by decide +kernel
theorem dL_change_204 : decode cL_change 204 = .ok (.invokestatic 20, 3) := by decide +kernel
theorem dL_change_207 : decode cL_change 207 = .ok (.invokevirtual 33, 3) := by decide +kernel
theorem dL_change_210 : decode cL_change 210 = .ok (.ireturn, 1) := by decide +kernel
theorem dL_change_211 : decode cL_change 211 = .ok (.iload_n 3, 1) := by decide +kernel
theorem dL_change_212 : decode cL_change 212 = .ok (.ifCond .ne 10, 3) := by decide +kernel
theorem dL_change_215 : decode cL_change 215 = .ok (.aload_n 0, 1) := by decide +kernel
theorem dL_change_216 : decode cL_change 216 = .ok (.invokevirtual 29, 3) := by decide +kernel
theorem dL_change_219 : decode cL_change 219 = .ok (.goto 9, 3) := by decide +kernel
theorem dL_change_222 : decode cL_change 222 = .ok (.aload_n 0, 1) := by decide +kernel
theorem dL_change_223 : decode cL_change 223 = .ok (.iload 5, 2) := by decide +kernel
theorem dL_change_225 : decode cL_change 225 = .ok (.invokevirtual 37, 3) := by decide +kernel
theorem dL_change_228 : decode cL_change 228 = .ok (.ireturn, 1) := by decide +kernel
theorem dL_change_229 : decode cL_change 229 = .ok (.iload_n 3, 1) := by decide +kernel
theorem dL_change_230 : decode cL_change 230 = .ok (.ifCond .ne 27, 3) := by decide +kernel
theorem dL_change_233 : decode cL_change 233 = .ok (.sipush 1000, 3) := by decide +kernel
theorem dL_change_236 : decode cL_change 236 = .ok (.iload_n 2, 1) := by decide +kernel
theorem dL_change_237 : decode cL_change 237 = .ok (.iload 4, 2) := by decide +kernel
theorem dL_change_239 : decode cL_change 239 = .ok (.invokestatic 20, 3) := by decide +kernel
theorem dL_change_242 : decode cL_change 242 = .ok (.imul, 1) := by decide +kernel
theorem dL_change_243 : decode cL_change 243 = .ok (.iload_n 2, 1) := by decide +kernel
theorem dL_change_244 : decode cL_change 244 = .ok (.bipush 6, 2) := by decide +kernel
theorem dL_change_246 : decode cL_change 246 = .ok (.ishr, 1) := by decide +kernel
theorem dL_change_247 : decode cL_change 247 = .ok (.sipush 301, 3) := by decide +kernel
theorem dL_change_250 : decode cL_change 250 = .ok (.invokestatic 20, 3) := by decide +kernel
theorem dL_change_253 : decode cL_change 253 = .ok (.iadd, 1) := by decide +kernel
theorem dL_change_254 : decode cL_change 254 = .ok (.goto 17, 3) := by decide +kernel
theorem dL_change_257 : decode cL_change 257 = .ok (.aload_n 0, 1) := by decide +kernel
theorem dL_change_258 : decode cL_change 258 = .ok (.iload 5, 2) := by decide +kernel
theorem dL_change_260 : decode cL_change 260 = .ok (.iload_n 2, 1) := by decide +kernel
theorem dL_change_261 : decode cL_change 261 = .ok (.sipush 500, 3) := by decide +kernel
theorem dL_change_264 : decode cL_change 264 = .ok (.invokestatic 20, 3) := by decide +kernel
theorem dL_change_267 : decode cL_change 267 = .ok (.i2l, 1) := by decide +kernel
theorem dL_change_268 : decode cL_change 268 = .ok (.invokevirtual 40, 3) := by decide +kernel
theorem dL_change_271 : decode cL_change 271 = .ok (.istore 6, 2) := by decide +kernel
theorem dL_change_273 : decode cL_change 273 = .ok (.aload_n 0, 1) := by decide +kernel
theorem dL_change_274 : decode cL_change 274 = .ok (.iload 6, 2) := by decide +kernel
theorem dL_change_276 : decode cL_change 276 = .ok (.sipush 1000, 3) := by decide +kernel
theorem dL_change_279 : decode cL_change 279 = .ok (.idiv, 1) := by decide +kernel
theorem dL_change_280 : decode cL_change 280 = .ok (.iload 6, 2) := by decide +kernel
theorem dL_change_282 : decode cL_change 282 = .ok (.sipush 1000, 3) := by decide +kernel
theorem dL_change_285 : decode cL_change 285 = .ok (.irem, 1) := by decide +kernel
theorem dL_change_286 : decode cL_change 286 = .ok (.invokevirtual 44, 3) := by decide +kernel
theorem dL_change_289 : decode cL_change 289 = .ok (.ireturn, 1) := by decide +kernel
theorem dL_change_290 : decode cL_change 290 = .ok (.iload_n 2, 1) := by decide +kernel
theorem dL_change_291 : decode cL_change 291 = .ok (.iconst 3, 1) := by decide +kernel
theorem dL_change_292 : decode cL_change 292 = .ok (.invokestatic 20, 3) := by decide +kernel
theorem dL_change_295 : decode cL_change 295 = .ok (.ifCond .ne 10, 3) := by decide +kernel
theorem dL_change_298 : decode cL_change 298 = .ok (.aload_n 0, 1) := by decide +kernel
theorem dL_change_299 : decode cL_change 299 = .ok (.invokevirtual 29, 3) := by decide +kernel
theorem dL_change_302 : decode cL_change 302 = .ok (.goto 26, 3) := by decide +kernel
theorem dL_change_305 : decode cL_change 305 = .ok (.aload_n 0, 1) := by decide +kernel
theorem dL_change_306 : decode cL_change 306 = .ok (.iload_n 2, 1) := by decide +kernel
theorem dL_change_307 : decode cL_change 307 = .ok (.iload 4, 2) := by decide +kernel
theorem dL_change_309 : decode cL_change 309 = .ok (.invokestatic 20, 3) := by decide +kernel
theorem dL_change_312 : decode cL_change 312 = .ok (.sipush 180, 3) := by decide +kernel
theorem dL_change_315 : decode cL_change 315 = .ok (.iload_n 2, 1) := by decide +kernel
theorem dL_change_316 : decode cL_change 316 = .ok (.bipush 8, 2) := by decide +kernel
theorem dL_change_318 : decode cL_change 318 = .ok (.ishr, 1) := by decide +kernel
theorem dL_change_319 : decode cL_change 319 = .ok (.bipush 40, 2) := by decide +kernel
theorem dL_change_321 : decode cL_change 321 = .ok (.invokestatic 20, 3) := by decide +kernel
theorem dL_change_324 : decode cL_change 324 = .ok (.iadd, 1) := by decide +kernel
theorem dL_change_325 : decode cL_change 325 = .ok (.invokevirtual 44, 3) := by decide +kernel
theorem dL_change_328 : decode cL_change 328 = .ok (.ireturn, 1) := by decide +kernel
theorem dL_change_329 : decode cL_change 329 = .ok (.iload_n 2, 1) := by decide +kernel
theorem dL_change_330 : decode cL_change 330 = .ok (.iconst 2, 1) := by decide +kernel
theorem dL_change_331 : decode cL_change 331 = .ok (.invokestatic 20, 3) := by decide +kernel
theorem dL_change_334 : decode cL_change 334 = .ok (.ifCond .ne 17, 3) := by decide +kernel
theorem dL_change_337 : decode cL_change 337 = .ok (.aload_n 0, 1) := by decide +kernel
theorem dL_change_338 : decode cL_change 338 = .ok (.iload_n 2, 1) := by decide +kernel
theorem dL_change_339 : decode cL_change 339 = .ok (.iconst 2, 1) := by decide +kernel
theorem dL_change_340 : decode cL_change 340 = .ok (.ishr, 1) := by decide +kernel
theorem dL_change_341 : decode cL_change 341 = .ok (.iconst 2, 1) := by decide +kernel
theorem dL_change_342 : decode cL_change 342 = .ok (.invokestatic 20, 3) := by decide +kernel
theorem dL_change_345 : decode cL_change 345 = .ok (.invokevirtual 47, 3) := by decide +kernel
theorem dL_change_348 : decode cL_change 348 = .ok (.goto 14, 3) := by decide +kernel
theorem dL_change_351 : decode cL_change 351 = .ok (.aload_n 0, 1) := by decide +kernel
theorem dL_change_352 : decode cL_change 352 = .ok (.iload_n 2, 1) := by decide +kernel
theorem dL_change_353 : decode cL_change 353 = .ok (.iconst 2, 1) := by decide +kernel
theorem dL_change_354 : decode cL_change 354 = .ok (.ishr, 1) := by decide +kernel
theorem dL_change_355 : decode cL_change 355 = .ok (.iconst 2, 1) := by decide +kernel
theorem dL_change_356 : decode cL_change 356 = .ok (.invokestatic 20, 3) := by decide +kernel
theorem dL_change_359 : decode cL_change 359 = .ok (.invokestatic 50, 3) := by decide +kernel
theorem dL_change_362 : decode cL_change 362 = .ok (.ireturn, 1) := by decide +kernel
theorem dL_change_363 : decode cL_change 363 = .ok (.iload_n 3, 1) := by decide +kernel
theorem dL_change_364 : decode cL_change 364 = .ok (.bipush 6, 2) := by decide +kernel
theorem dL_change_366 : decode cL_change 366 = .ok (.if_icmp .ne 12, 3) := by decide +kernel
theorem dL_change_369 : decode cL_change 369 = .ok (.aload_n 0, 1) := by decide +kernel
theorem dL_change_370 : decode cL_change 370 = .ok (.iload 5, 2) := by decide +kernel
theorem dL_change_372 : decode cL_change 372 = .ok (.invokevirtual 37, 3) := by decide +kernel
theorem dL_change_375 : decode cL_change 375 = .ok (.goto 40, 3) := by decide +kernel
theorem dL_change_378 : decode cL_change 378 = .ok (.aload_n 0, 1) := by decide +kernel
theorem dL_change_379 : decode cL_change 379 = .ok (.iconst 5, 1) := by decide +kernel
theorem dL_change_380 : decode cL_change 380 = .ok (.iload_n 2, 1) := by decide +kernel
theorem dL_change_381 : decode cL_change 381 = .ok (.bipush 16, 2) := by decide +kernel
theorem dL_change_383 : decode cL_change 383 = .ok (.invokestatic 20, 3) := by decide +kernel
theorem dL_change_386 : decode cL_change 386 = .ok (.iadd, 1) := by decide +kernel
theorem dL_change_387 : decode cL_change 387 = .ok (.iload_n 2, 1) := by decide +kernel
theorem dL_change_388 : decode cL_change 388 = .ok (.iconst 5, 1) := by decide +kernel
theorem dL_change_389 : decode cL_change 389 = .ok (.ishr, 1) := by decide +kernel
theorem dL_change_390 : decode cL_change 390 = .ok (.iconst 2, 1) := by decide +kernel
theorem dL_change_391 : decode cL_change 391 = .ok (.invokestatic 20, 3) := by decide +kernel
theorem dL_change_394 : decode cL_change 394 = .ok (.iload_n 2, 1) := by decide +kernel
theorem dL_change_395 : decode cL_change 395 = .ok (.bipush 7, 2) := by decide +kernel
theorem dL_change_397 : decode cL_change 397 = .ok (.ishr, 1) := by decide +kernel
theorem dL_change_398 : decode cL_change 398 = .ok (.bipush 21, 2) := by decide +kernel
theorem dL_change_400 : decode cL_change 400 = .ok (.invokestatic 20, 3) := by decide +kernel
theorem dL_change_403 : decode cL_change 403 = .ok (.iload_n 2, 1) := by decide +kernel
theorem dL_change_404 : decode cL_change 404 = .ok (.bipush 13, 2) := by decide +kernel
theorem dL_change_406 : decode cL_change 406 = .ok (.ishr, 1) := by decide +kernel
theorem dL_change_407 : decode cL_change 407 = .ok (.iload 4, 2) := by decide +kernel
theorem dL_change_409 : decode cL_change 409 = .ok (.invokestatic 20, 3) := by decide +kernel
theorem dL_change_412 : decode cL_change 412 = .ok (.invokevirtual 54, 3) := by decide +kernel
theorem dL_change_415 : decode cL_change 415 = .ok (.ireturn, 1) := by decide +kernel
theorem dL_divisor_0 : decode cL_divisor 0 = .ok (.iload_n 0, 1) := by decide +kernel
theorem dL_divisor_1 : decode cL_divisor 1 = .ok (.istore_n 2, 1) := by decide +kernel
theorem dL_divisor_2 : decode cL_divisor 2 = .ok (.iload_n 1, 1) := by decide +kernel
theorem dL_divisor_3 : decode cL_divisor 3 = .ok (.istore_n 3, 1) := by decide +kernel
theorem dL_divisor_4 : decode cL_divisor 4 = .ok (.iload_n 3, 1) := by decide +kernel
theorem dL_divisor_5 : decode cL_divisor 5 = .ok (.ifCond .le 16, 3) := by decide +kernel
theorem dL_divisor_8 : decode cL_divisor 8 = .ok (.iload_n 2, 1) := by decide +kernel
theorem dL_divisor_9 : decode cL_divisor 9 = .ok (.iload_n 3, 1) := by decide +kernel
theorem dL_divisor_10 : decode cL_divisor 10 = .ok (.irem, 1) := by decide +kernel
theorem dL_divisor_11 : decode cL_divisor 11 = .ok (.istore 4, 2) := by decide +kernel
theorem dL_divisor_13 : decode cL_divisor 13 = .ok (.iload_n 3, 1) := by decide +kernel
theorem dL_divisor_14 : decode cL_divisor 14 = .ok (.istore_n 2, 1) := by decide +kernel
theorem dL_divisor_15 : decode cL_divisor 15 = .ok (.iload 4, 2) := by decide +kernel
theorem dL_divisor_17 : decode cL_divisor 17 = .ok (.istore_n 3, 1) := by decide +kernel
theorem dL_divisor_18 : decode cL_divisor 18 = .ok (.goto (-14), 3) := by decide +kernel
theorem dL_divisor_21 : decode cL_divisor 21 = .ok (.iload_n 2, 1) := by decide +kernel
theorem dL_divisor_22 : decode cL_divisor 22 = .ok (.ireturn, 1) := by decide +kernel
set_option maxRecDepth 20000 in
theorem ggL_isLayer_X7_about : GoodIn wsL_isLayer wsX7_about := goodIn_ca (goodIn_r _ [6, 7, 8, 9, 10, 11, 12, 13, 14, 15, 16, 17, 18, 19, 20, 21, 22, 23, 24, 25, 26, 27, 28, 29, 30, 31, 32, 33, 34, 35, 36, 37, 38, 39, 40, 41, 42, 43, 44, 45, 46, 5, 47, 48, 49, 50, 51, 52, 53, 54, 55, 56, 57, 58, 59, 60, 61, 62, 63, 64, 65, 66, 67, 68, 69, 70, 71, 72, 73, 74, 75, 76, 77, 78, 79, 80, 81, 82, 83, 84, 85, 86, 87, 88, 89, 90, 91, 92, 93, 94, 95, 96, 97, 98, 99, 100, 101, 102, 103, 104, 105, 106, 107, 108, 109, 110, 111, 112, 113, 114, 115, 116, 117, 118, 119, 120, 121, 122, 123, 124, 125, 126, 127, 128, 129, 130, 131, 132, 133, 191, 192, 193, 194, 195, 196, 197, 198, 199, 200, 201, 202, 203, 204, 205, 206, 207, 208, 209, 210, 211, 212] (by decide +kernel) (by decide +kernel)) (goodIn_sub (fun _ h => List.mem_cons_of_mem _ (List.mem_append_left _ (List.mem_append_right _ h))) (by decide +kernel))
set_option maxRecDepth 20000 in
theorem gL_isLayer_X7_about : GoodIn wsL_isLayer (wsV RL 17 RX7 yX7_about wsX7_about) := goodIn_app (goodIn_of _ (by decide +kernel)) ggL_isLayer_X7_about
set_option maxRecDepth 20000 in
theorem ggL_isLayer_X7_layer : GoodIn wsL_isLayer wsX7_layer := goodIn_ca (goodIn_ca (goodIn_r _ [137, 138, 139, 7, 8, 9, 140, 141, 142, 143, 10, 13, 144, 29, 30, 31, 32, 33, 34, 145, 146, 147, 43, 148, 130, 131, 132, 133, 45, 46, 5, 47, 48, 49, 149, 150, 41, 42, 44, 151, 152, 153, 17, 154, 19, 22, 23, 24, 25, 26, 27, 35, 36, 37, 38, 39, 40, 50, 51, 52, 53, 54, 55, 56, 57, 58, 59, 60, 61, 62, 63, 64, 65, 66, 67, 68, 69, 70, 71, 72, 73, 74, 75, 76, 77, 78, 79, 80, 81, 155, 88, 89, 90, 91, 92, 93, 94, 156, 100, 101, 102, 103, 104, 105, 191, 192, 193, 194, 195, 196, 197, 198, 209, 210, 211, 212, 199, 200, 201, 202, 203, 204, 205, 206, 207, 208] (by decide +kernel) (by decide +kernel)) (goodIn_sub (fun _ h => List.mem_cons_of_mem _ (List.mem_append_right _ h)) (by decide +kernel))) (goodIn_sub (fun _ h => List.mem_cons_of_mem _ (List.mem_append_left _ (List.mem_append_right _ h))) (by decide +kernel))
set_option maxRecDepth 20000 in
theorem gL_isLayer_X7_layer : GoodIn wsL_isLayer (wsV RL 58 RX7 yX7_layer wsX7_layer) := goodIn_app (goodIn_of _ (by decide +kernel)) ggL_isLayer_X7_layer
set_option maxRecDepth 20000 in
theorem ggL_isLayer_L_divisor : GoodIn wsL_isLayer wsL_divisor := goodIn_r _ [160] (by decide +kernel) (by decide +kernel)
set_option maxRecDepth 20000 in
theorem gL_isLayer_L_divisor : GoodIn wsL_isLayer (va_wsS RL 61 yL_divisor wsL_divisor) := goodIn_app (goodIn_of _ (by decide +kernel)) ggL_isLayer_L_divisor
set_option maxRecDepth 20000 in
theorem ggL_isLayer_X7_pen : GoodIn wsL_isLayer wsX7_pen := goodIn_ca (goodIn_ca (goodIn_r _ [164, 138, 139, 7, 8, 9, 10, 144, 29, 30, 31, 32, 33, 34, 165, 63, 64, 43, 65, 66, 60, 5, 61, 166, 51, 52, 53, 45, 54, 55, 56, 57, 58, 59, 48, 49, 191, 192, 193, 194, 195, 196, 197, 198, 199, 200, 201, 202, 203, 204, 209, 210, 211, 212] (by decide +kernel) (by decide +kernel)) (goodIn_sub (fun _ h => List.mem_cons_of_mem _ (List.mem_append_right _ h)) (by decide +kernel))) (goodIn_sub (fun _ h => List.mem_cons_of_mem _ (List.mem_append_left _ (List.mem_append_right _ h))) (by decide +kernel))
set_option maxRecDepth 20000 in
theorem gL_isLayer_X7_pen : GoodIn wsL_isLayer (wsV RL 40 RX7 yX7_pen wsX7_pen) := goodIn_app (goodIn_of _ (by decide +kernel)) ggL_isLayer_X7_pen
set_option maxRecDepth 20000 in
theorem ggL_isLayer_L_low : GoodIn wsL_isLayer wsL_low := goodIn_r _ [169, 170] (by decide +kernel) (by decide +kernel)
set_option maxRecDepth 20000 in
theorem gL_isLayer_L_low : GoodIn wsL_isLayer (va_wsS RL 20 yL_low wsL_low) := goodIn_app (goodIn_of _ (by decide +kernel)) ggL_isLayer_L_low
set_option maxRecDepth 20000 in
theorem ggL_isLayer_X7_comes : GoodIn wsL_isLayer wsX7_comes := goodIn_ca (goodIn_ca (goodIn_r _ [174, 138, 139, 7, 8, 9, 10, 144, 29, 30, 31, 32, 33, 34, 175, 176, 177, 178, 115, 179, 180, 5, 181, 182, 127, 128, 43, 129, 66, 60, 61, 130, 131, 132, 133, 45, 46, 47, 48, 49, 94, 51, 52, 53, 54, 55, 56, 57, 58, 59, 191, 192, 193, 194, 195, 196, 197, 198, 199, 200, 201, 202, 203, 204, 209, 210, 211, 212] (by decide +kernel) (by decide +kernel)) (goodIn_sub (fun _ h => List.mem_cons_of_mem _ (List.mem_append_right _ h)) (by decide +kernel))) (goodIn_sub (fun _ h => List.mem_cons_of_mem _ (List.mem_append_left _ (List.mem_append_right _ h))) (by decide +kernel))
set_option maxRecDepth 20000 in
theorem gL_isLayer_X7_comes : GoodIn wsL_isLayer (wsV RL 64 RX7 yX7_comes wsX7_comes) := goodIn_app (goodIn_of _ (by decide +kernel)) ggL_isLayer_X7_comes
set_option maxRecDepth 20000 in
theorem ggL_isLayer_X7_at : GoodIn wsL_isLayer wsX7_at := goodIn_ca (goodIn_r _ [186, 7, 8, 13, 9, 179, 180, 5, 181, 14, 15, 16, 17, 18, 19, 20, 21, 22, 23, 24, 25, 26, 27, 28, 29, 30, 31, 32, 33, 34, 35, 36, 37, 38, 39, 40, 41, 42, 43, 44, 45, 46, 47, 48, 49, 50, 51, 52, 53, 54, 55, 56, 57, 58, 59, 60, 61, 62, 63, 64, 65, 66, 67, 68, 69, 70, 187, 188, 189, 190, 75, 76, 77, 78, 79, 80, 81, 191, 192, 193, 194, 195, 196, 197, 198, 205, 206, 207, 199, 200, 201, 202, 203, 204, 208, 209, 210, 211, 212] (by decide +kernel) (by decide +kernel)) (goodIn_sub (fun _ h => List.mem_cons_of_mem _ (List.mem_append_left _ (List.mem_append_right _ h))) (by decide +kernel))
set_option maxRecDepth 20000 in
theorem gL_isLayer_X7_at : GoodIn wsL_isLayer (wsV RL 69 RX7 yX7_at wsX7_at) := goodIn_app (goodIn_of _ (by decide +kernel)) ggL_isLayer_X7_at
theorem dL_isLayer_0 : decode cL_isLayer 0 = .ok (.aload_n 0, 1) := by decide +kernel
theorem dL_isLayer_1 : decode cL_isLayer 1 = .ok (.iconst 0, 1) := by decide +kernel
theorem dL_isLayer_2 : decode cL_isLayer 2 = .ok (.invokevirtual 17, 3) := by decide +kernel
theorem dL_isLayer_5 : decode cL_isLayer 5 = .ok (.istore_n 3, 1) := by decide +kernel
theorem dL_isLayer_6 : decode cL_isLayer 6 = .ok (.aload_n 0, 1) := by decide +kernel
theorem dL_isLayer_7 : decode cL_isLayer 7 = .ok (.iload_n 1, 1) := by decide +kernel
theorem dL_isLayer_8 : decode cL_isLayer 8 = .ok (.iconst 4, 1) := by decide +kernel
theorem dL_isLayer_9 : decode cL_isLayer 9 = .ok (.invokevirtual 58, 3) := by decide +kernel
theorem dL_isLayer_12 : decode cL_isLayer 12 = .ok (.istore 4, 2) := by decide +kernel
theorem dL_isLayer_14 : decode cL_isLayer 14 = .ok (.aload_n 0, 1) := by decide +kernel
theorem dL_isLayer_15 : decode cL_isLayer 15 = .ok (.iload_n 1, 1) := by decide +kernel
theorem dL_isLayer_16 : decode cL_isLayer 16 = .ok (.iconst 5, 1) := by decide +kernel
theorem dL_isLayer_17 : decode cL_isLayer 17 = .ok (.invokevirtual 58, 3) := by decide +kernel
theorem dL_isLayer_20 : decode cL_isLayer 20 = .ok (.istore 5, 2) := by decide +kernel
theorem dL_isLayer_22 : decode cL_isLayer 22 = .ok (.aload_n 0, 1) := by decide +kernel
theorem dL_isLayer_23 : decode cL_isLayer 23 = .ok (.iload_n 1, 1) := by decide +kernel
theorem dL_isLayer_24 : decode cL_isLayer 24 = .ok (.bipush 6, 2) := by decide +kernel
theorem dL_isLayer_26 : decode cL_isLayer 26 = .ok (.invokevirtual 58, 3) := by decide +kernel
theorem dL_isLayer_29 : decode cL_isLayer 29 = .ok (.istore 6, 2) := by decide +kernel
theorem dL_isLayer_31 : decode cL_isLayer 31 = .ok (.iload 5, 2) := by decide +kernel
theorem dL_isLayer_33 : decode cL_isLayer 33 = .ok (.iload_n 3, 1) := by decide +kernel
theorem dL_isLayer_34 : decode cL_isLayer 34 = .ok (.imul, 1) := by decide +kernel
theorem dL_isLayer_35 : decode cL_isLayer 35 = .ok (.iload 4, 2) := by decide +kernel
theorem dL_isLayer_37 : decode cL_isLayer 37 = .ok (.if_icmp .ne 32, 3) := by decide +kernel
theorem dL_isLayer_40 : decode cL_isLayer 40 = .ok (.iload 6, 2) := by decide +kernel
theorem dL_isLayer_42 : decode cL_isLayer 42 = .ok (.aload_n 0, 1) := by decide +kernel
theorem dL_isLayer_43 : decode cL_isLayer 43 = .ok (.iload_n 1, 1) := by decide +kernel
theorem dL_isLayer_44 : decode cL_isLayer 44 = .ok (.iconst 0, 1) := by decide +kernel
theorem dL_isLayer_45 : decode cL_isLayer 45 = .ok (.invokevirtual 58, 3) := by decide +kernel
theorem dL_isLayer_48 : decode cL_isLayer 48 = .ok (.imul, 1) := by decide +kernel
theorem dL_isLayer_49 : decode cL_isLayer 49 = .ok (.iload 4, 2) := by decide +kernel
theorem dL_isLayer_51 : decode cL_isLayer 51 = .ok (.if_icmp .ne 18, 3) := by decide +kernel
theorem dL_isLayer_54 : decode cL_isLayer 54 = .ok (.iload 5, 2) := by decide +kernel
theorem dL_isLayer_56 : decode cL_isLayer 56 = .ok (.iload 6, 2) := by decide +kernel
theorem dL_isLayer_58 : decode cL_isLayer 58 = .ok (.invokestatic 61, 3) := by decide +kernel
theorem dL_isLayer_61 : decode cL_isLayer 61 = .ok (.iconst 1, 1) := by decide +kernel
theorem dL_isLayer_62 : decode cL_isLayer 62 = .ok (.if_icmp .ne 7, 3) := by decide +kernel
theorem dL_isLayer_65 : decode cL_isLayer 65 = .ok (.iconst 1, 1) := by decide +kernel
theorem dL_isLayer_66 : decode cL_isLayer 66 = .ok (.goto 4, 3) := by decide +kernel
theorem dL_isLayer_69 : decode cL_isLayer 69 = .ok (.iconst 0, 1) := by decide +kernel
theorem dL_isLayer_70 : decode cL_isLayer 70 = .ok (.istore 7, 2) := by decide +kernel
theorem dL_isLayer_72 : decode cL_isLayer 72 = .ok (.iload 7, 2) := by decide +kernel
theorem dL_isLayer_74 : decode cL_isLayer 74 = .ok (.ifCond .eq 55, 3) := by decide +kernel
theorem dL_isLayer_77 : decode cL_isLayer 77 = .ok (.aload_n 0, 1) := by decide +kernel
theorem dL_isLayer_78 : decode cL_isLayer 78 = .ok (.iload_n 1, 1) := by decide +kernel
theorem dL_isLayer_79 : decode cL_isLayer 79 = .ok (.bipush 7, 2) := by decide +kernel
theorem dL_isLayer_81 : decode cL_isLayer 81 = .ok (.invokevirtual 58, 3) := by decide +kernel
theorem dL_isLayer_84 : decode cL_isLayer 84 = .ok (.iload 4, 2) := by decide +kernel
theorem dL_isLayer_86 : decode cL_isLayer 86 = .ok (.if_icmp .gt 43, 3) := by decide +kernel
theorem dL_isLayer_89 : decode cL_isLayer 89 = .ok (.aload_n 0, 1) := by decide +kernel
theorem dL_isLayer_90 : decode cL_isLayer 90 = .ok (.iload_n 1, 1) := by decide +kernel
theorem dL_isLayer_91 : decode cL_isLayer 91 = .ok (.bipush 8, 2) := by decide +kernel
theorem dL_isLayer_93 : decode cL_isLayer 93 = .ok (.invokevirtual 58, 3) := by decide +kernel
theorem dL_isLayer_96 : decode cL_isLayer 96 = .ok (.aload_n 0, 1) := by decide +kernel
theorem dL_isLayer_97 : decode cL_isLayer 97 = .ok (.iload_n 1, 1) := by decide +kernel
theorem dL_isLayer_98 : decode cL_isLayer 98 = .ok (.bipush 9, 2) := by decide +kernel
theorem dL_isLayer_100 : decode cL_isLayer 100 = .ok (.invokevirtual 58, 3) := by decide +kernel
theorem dL_isLayer_103 : decode cL_isLayer 103 = .ok (.if_icmp .gt 26, 3) := by decide +kernel
theorem dL_isLayer_106 : decode cL_isLayer 106 = .ok (.aload_n 0, 1) := by decide +kernel
theorem dL_isLayer_107 : decode cL_isLayer 107 = .ok (.iload_n 1, 1) := by decide +kernel
theorem dL_isLayer_108 : decode cL_isLayer 108 = .ok (.lconst 0, 1) := by decide +kernel
theorem dL_isLayer_109 : decode cL_isLayer 109 = .ok (.invokevirtual 40, 3) := by decide +kernel
theorem dL_isLayer_112 : decode cL_isLayer 112 = .ok (.sipush 1000, 3) := by decide +kernel
theorem dL_isLayer_115 : decode cL_isLayer 115 = .ok (.idiv, 1) := by decide +kernel
theorem dL_isLayer_116 : decode cL_isLayer 116 = .ok (.aload_n 0, 1) := by decide +kernel
theorem dL_isLayer_117 : decode cL_isLayer 117 = .ok (.iload_n 1, 1) := by decide +kernel
theorem dL_isLayer_118 : decode cL_isLayer 118 = .ok (.iconst 3, 1) := by decide +kernel
theorem dL_isLayer_119 : decode cL_isLayer 119 = .ok (.invokevirtual 58, 3) := by decide +kernel
theorem dL_isLayer_122 : decode cL_isLayer 122 = .ok (.if_icmp .ne 7, 3) := by decide +kernel
theorem dL_isLayer_125 : decode cL_isLayer 125 = .ok (.iconst 1, 1) := by decide +kernel
theorem dL_isLayer_126 : decode cL_isLayer 126 = .ok (.goto 4, 3) := by decide +kernel
theorem dL_isLayer_129 : decode cL_isLayer 129 = .ok (.iconst 0, 1) := by decide +kernel
theorem dL_isLayer_130 : decode cL_isLayer 130 = .ok (.istore 7, 2) := by decide +kernel
theorem dL_isLayer_132 : decode cL_isLayer 132 = .ok (.iconst 0, 1) := by decide +kernel
theorem dL_isLayer_133 : decode cL_isLayer 133 = .ok (.istore 8, 2) := by decide +kernel
theorem dL_isLayer_135 : decode cL_isLayer 135 = .ok (.iload 8, 2) := by decide +kernel
theorem dL_isLayer_137 : decode cL_isLayer 137 = .ok (.iconst 3, 1) := by decide +kernel
theorem dL_isLayer_138 : decode cL_isLayer 138 = .ok (.if_icmp .ge 166, 3) := by decide +kernel
theorem dL_isLayer_141 : decode cL_isLayer 141 = .ok (.iload_n 2, 1) := by decide +kernel
theorem dL_isLayer_142 : decode cL_isLayer 142 = .ok (.iconst 4, 1) := by decide +kernel
theorem dL_isLayer_143 : decode cL_isLayer 143 = .ok (.iload 8, 2) := by decide +kernel
theorem dL_isLayer_145 : decode cL_isLayer 145 = .ok (.imul, 1) := by decide +kernel
theorem dL_isLayer_146 : decode cL_isLayer 146 = .ok (.ishr, 1) := by decide +kernel
theorem dL_isLayer_147 : decode cL_isLayer 147 = .ok (.iload 4, 2) := by decide +kernel
theorem dL_isLayer_149 : decode cL_isLayer 149 = .ok (.invokestatic 20, 3) := by decide +kernel
theorem dL_isLayer_152 : decode cL_isLayer 152 = .ok (.istore 9, 2) := by decide +kernel
theorem dL_isLayer_154 : decode cL_isLayer 154 = .ok (.aload_n 0, 1) := by decide +kernel
theorem dL_isLayer_155 : decode cL_isLayer 155 = .ok (.iload_n 1, 1) := by decide +kernel
theorem dL_isLayer_156 : decode cL_isLayer 156 = .ok (.iload 9, 2) := by decide +kernel
theorem dL_isLayer_158 : decode cL_isLayer 158 = .ok (.i2l, 1) := by decide +kernel
theorem dL_isLayer_159 : decode cL_isLayer 159 = .ok (.invokevirtual 40, 3) := by decide +kernel
theorem dL_isLayer_162 : decode cL_isLayer 162 = .ok (.istore 10, 2) := by decide +kernel
theorem dL_isLayer_164 : decode cL_isLayer 164 = .ok (.aload_n 0, 1) := by decide +kernel
theorem dL_isLayer_165 : decode cL_isLayer 165 = .ok (.iload_n 1, 1) := by decide +kernel
theorem dL_isLayer_166 : decode cL_isLayer 166 = .ok (.iload 10, 2) := by decide +kernel
theorem dL_isLayer_168 : decode cL_isLayer 168 = .ok (.sipush 1000, 3) := by decide +kernel
theorem dL_isLayer_171 : decode cL_isLayer 171 = .ok (.idiv, 1) := by decide +kernel
theorem dL_isLayer_172 : decode cL_isLayer 172 = .ok (.iload 10, 2) := by decide +kernel
theorem dL_isLayer_174 : decode cL_isLayer 174 = .ok (.sipush 1000, 3) := by decide +kernel
theorem dL_isLayer_177 : decode cL_isLayer 177 = .ok (.irem, 1) := by decide +kernel
theorem dL_isLayer_178 : decode cL_isLayer 178 = .ok (.invokevirtual 64, 3) := by decide +kernel
theorem dL_isLayer_181 : decode cL_isLayer 181 = .ok (.istore 11, 2) := by decide +kernel
theorem dL_isLayer_183 : decode cL_isLayer 183 = .ok (.iload 7, 2) := by decide +kernel
theorem dL_isLayer_185 : decode cL_isLayer 185 = .ok (.ifCond .eq 53, 3) := by decide +kernel
theorem dL_isLayer_188 : decode cL_isLayer 188 = .ok (.iload 11, 2) := by decide +kernel
theorem dL_isLayer_190 : decode cL_isLayer 190 = .ok (.ifCond .lt 48, 3) := by decide +kernel
theorem dL_isLayer_193 : decode cL_isLayer 193 = .ok (.iload 11, 2) := by decide +kernel
theorem dL_isLayer_195 : decode cL_isLayer 195 = .ok (.iload 9, 2) := by decide +kernel
theorem dL_isLayer_197 : decode cL_isLayer 197 = .ok (.if_icmp .gt 41, 3) := by decide +kernel
theorem dL_isLayer_200 : decode cL_isLayer 200 = .ok (.aload_n 0, 1) := by decide +kernel
theorem dL_isLayer_201 : decode cL_isLayer 201 = .ok (.iload_n 1, 1) := by decide +kernel
theorem dL_isLayer_202 : decode cL_isLayer 202 = .ok (.iload 11, 2) := by decide +kernel
theorem dL_isLayer_204 : decode cL_isLayer 204 = .ok (.i2l, 1) := by decide +kernel
theorem dL_isLayer_205 : decode cL_isLayer 205 = .ok (.invokevirtual 40, 3) := by decide +kernel
theorem dL_isLayer_208 : decode cL_isLayer 208 = .ok (.iload 10, 2) := by decide +kernel
theorem dL_isLayer_210 : decode cL_isLayer 210 = .ok (.if_icmp .ne 28, 3) := by decide +kernel
theorem dL_isLayer_213 : decode cL_isLayer 213 = .ok (.aload_n 0, 1) := by decide +kernel
theorem dL_isLayer_214 : decode cL_isLayer 214 = .ok (.iload_n 1, 1) := by decide +kernel
theorem dL_isLayer_215 : decode cL_isLayer 215 = .ok (.iload 9, 2) := by decide +kernel
theorem dL_isLayer_217 : decode cL_isLayer 217 = .ok (.i2l, 1) := by decide +kernel
theorem dL_isLayer_218 : decode cL_isLayer 218 = .ok (.ldc2_w 67, 3) := by decide +kernel
theorem dL_isLayer_221 : decode cL_isLayer 221 = .ok (.iload 4, 2) := by decide +kernel
theorem dL_isLayer_223 : decode cL_isLayer 223 = .ok (.i2l, 1) := by decide +kernel
theorem dL_isLayer_224 : decode cL_isLayer 224 = .ok (.lmul, 1) := by decide +kernel
theorem dL_isLayer_225 : decode cL_isLayer 225 = .ok (.ladd, 1) := by decide +kernel
theorem dL_isLayer_226 : decode cL_isLayer 226 = .ok (.invokevirtual 40, 3) := by decide +kernel
theorem dL_isLayer_229 : decode cL_isLayer 229 = .ok (.iload 10, 2) := by decide +kernel
theorem dL_isLayer_231 : decode cL_isLayer 231 = .ok (.if_icmp .ne 7, 3) := by decide +kernel
theorem dL_isLayer_234 : decode cL_isLayer 234 = .ok (.iconst 1, 1) := by decide +kernel
theorem dL_isLayer_235 : decode cL_isLayer 235 = .ok (.goto 4, 3) := by decide +kernel
theorem dL_isLayer_238 : decode cL_isLayer 238 = .ok (.iconst 0, 1) := by decide +kernel
theorem dL_isLayer_239 : decode cL_isLayer 239 = .ok (.istore 7, 2) := by decide +kernel
theorem dL_isLayer_241 : decode cL_isLayer 241 = .ok (.iload 7, 2) := by decide +kernel
theorem dL_isLayer_243 : decode cL_isLayer 243 = .ok (.ifCond .eq 52, 3) := by decide +kernel
theorem dL_isLayer_246 : decode cL_isLayer 246 = .ok (.iload 10, 2) := by decide +kernel
theorem dL_isLayer_248 : decode cL_isLayer 248 = .ok (.sipush 1000, 3) := by decide +kernel
theorem dL_isLayer_251 : decode cL_isLayer 251 = .ok (.irem, 1) := by decide +kernel
theorem dL_isLayer_252 : decode cL_isLayer 252 = .ok (.aload_n 0, 1) := by decide +kernel
theorem dL_isLayer_253 : decode cL_isLayer 253 = .ok (.iload_n 1, 1) := by decide +kernel
theorem dL_isLayer_254 : decode cL_isLayer 254 = .ok (.bipush 8, 2) := by decide +kernel
theorem dL_isLayer_256 : decode cL_isLayer 256 = .ok (.invokevirtual 58, 3) := by decide +kernel
theorem dL_isLayer_259 : decode cL_isLayer 259 = .ok (.if_icmp .lt 36, 3) := by decide +kernel
theorem dL_isLayer_262 : decode cL_isLayer 262 = .ok (.iload 10, 2) := by decide +kernel
theorem dL_isLayer_264 : decode cL_isLayer 264 = .ok (.sipush 1000, 3) := by decide +kernel
theorem dL_isLayer_267 : decode cL_isLayer 267 = .ok (.irem, 1) := by decide +kernel
theorem dL_isLayer_268 : decode cL_isLayer 268 = .ok (.aload_n 0, 1) := by decide +kernel
theorem dL_isLayer_269 : decode cL_isLayer 269 = .ok (.iload_n 1, 1) := by decide +kernel
theorem dL_isLayer_270 : decode cL_isLayer 270 = .ok (.bipush 9, 2) := by decide +kernel
theorem dL_isLayer_272 : decode cL_isLayer 272 = .ok (.invokevirtual 58, 3) := by decide +kernel
theorem dL_isLayer_275 : decode cL_isLayer 275 = .ok (.if_icmp .gt 20, 3) := by decide +kernel
theorem dL_isLayer_278 : decode cL_isLayer 278 = .ok (.aload_n 0, 1) := by decide +kernel
theorem dL_isLayer_279 : decode cL_isLayer 279 = .ok (.iload 10, 2) := by decide +kernel
theorem dL_isLayer_281 : decode cL_isLayer 281 = .ok (.sipush 1000, 3) := by decide +kernel
theorem dL_isLayer_284 : decode cL_isLayer 284 = .ok (.irem, 1) := by decide +kernel
theorem dL_isLayer_285 : decode cL_isLayer 285 = .ok (.invokevirtual 69, 3) := by decide +kernel
theorem dL_isLayer_288 : decode cL_isLayer 288 = .ok (.ifCond .le 7, 3) := by decide +kernel
theorem dL_isLayer_291 : decode cL_isLayer 291 = .ok (.iconst 1, 1) := by decide +kernel
theorem dL_isLayer_292 : decode cL_isLayer 292 = .ok (.goto 4, 3) := by decide +kernel
theorem dL_isLayer_295 : decode cL_isLayer 295 = .ok (.iconst 0, 1) := by decide +kernel
theorem dL_isLayer_296 : decode cL_isLayer 296 = .ok (.istore 7, 2) := by decide +kernel
theorem dL_isLayer_298 : decode cL_isLayer 298 = .ok (.iinc 8 1, 3) := by decide +kernel
theorem dL_isLayer_301 : decode cL_isLayer 301 = .ok (.goto (-166), 3) := by decide +kernel
theorem dL_isLayer_304 : decode cL_isLayer 304 = .ok (.iload 7, 2) := by decide +kernel
theorem dL_isLayer_306 : decode cL_isLayer 306 = .ok (.ireturn, 1) := by decide +kernel
set_option maxRecDepth 20000 in
theorem ggL_isWhole_X7_about : GoodIn wsL_isWhole wsX7_about := goodIn_ca (goodIn_r _ [5, 6, 7, 8, 9, 10, 11, 12, 13, 14, 15, 16, 17, 18, 19, 20, 21, 22, 23, 24, 25, 26, 27, 28, 29, 30, 31, 32, 33, 34, 35, 36, 37, 38, 39, 40, 41, 42, 43, 44, 45, 4, 46, 47, 48, 49, 50, 51, 52, 53, 54, 55, 56, 57, 58, 59, 60, 61, 62, 63, 64, 65, 66, 67, 68, 69, 70, 71, 72, 73, 74, 75, 76, 77, 78, 79, 80, 81, 82, 83, 84, 85, 86, 87, 88, 89, 90, 91, 92, 93, 94, 95, 96, 97, 98, 99, 100, 101, 102, 103, 104, 105, 106, 107, 108, 109, 110, 111, 112, 113, 114, 115, 116, 117, 118, 119, 120, 121, 122, 123, 124, 125, 126, 127, 128, 129, 130, 131, 132, 213, 214, 215, 216, 217, 218, 219, 220, 221, 222, 223, 224, 225, 226, 227, 228, 229, 230, 231, 232, 233, 234] (by decide +kernel) (by decide +kernel)) (goodIn_sub (fun _ h => List.mem_cons_of_mem _ (List.mem_append_left _ (List.mem_append_right _ h))) (by decide +kernel))
set_option maxRecDepth 20000 in
theorem gL_isWhole_X7_about : GoodIn wsL_isWhole (wsV RL 17 RX7 yX7_about wsX7_about) := goodIn_app (goodIn_of _ (by decide +kernel)) ggL_isWhole_X7_about
set_option maxRecDepth 20000 in
theorem ggL_isWhole_X7_together : GoodIn wsL_isWhole wsX7_together := goodIn_r _ [136, 8, 10, 9, 137, 28, 29, 30, 31, 32, 33, 138, 139, 140, 42, 141, 129, 130, 131, 132, 44, 45, 4, 46, 47, 48, 142, 143, 144, 145, 146, 213, 214, 215, 216, 217, 218, 219, 220, 221, 222, 223, 224, 225, 226, 231, 232, 233, 234] (by decide +kernel) (by decide +kernel)
set_option maxRecDepth 20000 in
theorem gL_isWhole_X7_together : GoodIn wsL_isWhole (wsV RL 72 RX7 yX7_together wsX7_together) := goodIn_app (goodIn_of _ (by decide +kernel)) ggL_isWhole_X7_together
set_option maxRecDepth 20000 in
theorem ggL_isWhole_X7_blank : GoodIn wsL_isWhole wsX7_blank := goodIn_r _ [150, 8, 10, 12, 13, 14, 15, 16, 17, 18, 19, 20, 21, 22, 23, 24, 25, 26, 27, 28, 29, 30, 31, 32, 33, 34, 35, 36, 37, 38, 39, 40, 41, 42, 43, 44, 45, 4, 46, 47, 48, 49, 50, 51, 52, 53, 54, 55, 56, 57, 58, 59, 60, 61, 62, 63, 64, 65, 66, 67, 68, 69, 151, 152, 153, 154, 155, 103, 104, 156, 157, 158, 159, 74, 75, 76, 77, 78, 79, 80, 213, 214, 215, 216, 217, 218, 219, 220, 221, 222, 223, 224, 225, 226, 227, 228, 229, 230, 231, 232, 233, 234] (by decide +kernel) (by decide +kernel)
set_option maxRecDepth 20000 in
theorem gL_isWhole_X7_blank : GoodIn wsL_isWhole (wsV RL 76 RX7 yX7_blank wsX7_blank) := goodIn_app (goodIn_of _ (by decide +kernel)) ggL_isWhole_X7_blank
set_option maxRecDepth 20000 in
theorem ggL_isWhole_X7_layer : GoodIn wsL_isWhole wsX7_layer := goodIn_ca (goodIn_ca (goodIn_r _ [163, 164, 165, 6, 7, 8, 166, 167, 168, 169, 9, 12, 137, 28, 29, 30, 31, 32, 33, 138, 139, 140, 42, 141, 129, 130, 131, 132, 44, 45, 4, 46, 47, 48, 170, 171, 40, 41, 43, 172, 173, 174, 16, 175, 18, 21, 22, 23, 24, 25, 26, 34, 35, 36, 37, 38, 39, 49, 50, 51, 52, 53, 54, 55, 56, 57, 58, 59, 60, 61, 62, 63, 64, 65, 66, 67, 68, 69, 70, 71, 72, 73, 74, 75, 76, 77, 78, 79, 80, 176, 87, 88, 89, 90, 91, 92, 93, 177, 99, 100, 101, 102, 103, 104, 213, 214, 215, 216, 217, 218, 219, 220, 231, 232, 233, 234, 221, 222, 223, 224, 225, 226, 227, 228, 229, 230] (by decide +kernel) (by decide +kernel)) (goodIn_sub (fun _ h => List.mem_cons_of_mem _ (List.mem_append_right _ h)) (by decide +kernel))) (goodIn_sub (fun _ h => List.mem_cons_of_mem _ (List.mem_append_left _ (List.mem_append_right _ h))) (by decide +kernel))
set_option maxRecDepth 20000 in
theorem gL_isWhole_X7_layer : GoodIn wsL_isWhole (wsV RL 58 RX7 yX7_layer wsX7_layer) := goodIn_app (goodIn_of _ (by decide +kernel)) ggL_isWhole_X7_layer
set_option maxRecDepth 20000 in
theorem ggL_isWhole_L_isLayer : GoodIn wsL_isWhole wsL_isLayer := goodIn_ca (goodIn_ca (goodIn_r _ [181, 182, 1, 2, 3, 4, 5, 6, 7, 8, 9, 10, 11, 12, 13, 14, 15, 16, 17, 18, 19, 20, 21, 22, 23, 24, 25, 26, 27, 28, 29, 30, 31, 32, 33, 34, 35, 36, 37, 38, 39, 40, 41, 42, 43, 44, 45, 46, 47, 48, 49, 50, 51, 52, 53, 54, 55, 56, 57, 58, 59, 60, 61, 62, 63, 64, 65, 66, 67, 68, 69, 70, 71, 72, 73, 74, 75, 76, 77, 78, 79, 80, 81, 82, 83, 84, 85, 86, 87, 88, 89, 90, 91, 92, 93, 94, 95, 96, 97, 98, 99, 100, 101, 102, 103, 104, 105, 106, 107, 108, 109, 110, 111, 112, 113, 114, 115, 116, 117, 118, 119, 120, 121, 122, 123, 124, 125, 126, 127, 128, 129, 130, 131, 132, 160, 161, 162, 163, 164, 165, 166, 167, 168, 169, 137, 138, 139, 140, 141, 170, 171, 172, 173, 174, 175, 176, 177, 183, 184, 180, 185, 186, 187, 188, 189, 190, 191, 192, 193, 194, 195, 196, 197, 198, 199, 200, 201, 202, 203, 204, 205, 206, 207, 208, 209, 210, 211, 212, 157, 158, 159, 213, 214, 215, 216, 217, 218, 219, 220, 221, 222, 223, 224, 225, 226, 227, 228, 229, 230, 231, 232, 233, 234] (by decide +kernel) (by decide +kernel)) (goodIn_sub (fun _ h => List.mem_cons_of_mem _ (List.mem_append_left _ (List.mem_append_right _ h))) (by decide +kernel))) (goodIn_sub (fun _ h => List.mem_cons_of_mem _ (List.mem_append_right _ h)) (by decide +kernel))
set_option maxRecDepth 20000 in
theorem gL_isWhole_L_isLayer : GoodIn wsL_isWhole (va_wsS RL 79 yL_isLayer wsL_isLayer) := goodIn_app (goodIn_of _ (by decide +kernel)) ggL_isWhole_L_isLayer
theorem dL_isWhole_0 : decode cL_isWhole 0 = .ok (.aload_n 0, 1) := by decide +kernel
theorem dL_isWhole_1 : decode cL_isWhole 1 = .ok (.iconst 1, 1) := by decide +kernel
theorem dL_isWhole_2 : decode cL_isWhole 2 = .ok (.invokevirtual 17, 3) := by decide +kernel
theorem dL_isWhole_5 : decode cL_isWhole 5 = .ok (.istore_n 2, 1) := by decide +kernel
theorem dL_isWhole_6 : decode cL_isWhole 6 = .ok (.iconst 0, 1) := by decide +kernel
theorem dL_isWhole_7 : decode cL_isWhole 7 = .ok (.istore_n 3, 1) := by decide +kernel
theorem dL_isWhole_8 : decode cL_isWhole 8 = .ok (.iconst 0, 1) := by decide +kernel
theorem dL_isWhole_9 : decode cL_isWhole 9 = .ok (.istore 4, 2) := by decide +kernel
theorem dL_isWhole_11 : decode cL_isWhole 11 = .ok (.iload_n 2, 1) := by decide +kernel
theorem dL_isWhole_12 : decode cL_isWhole 12 = .ok (.ifCond .ne 8, 3) := by decide +kernel
theorem dL_isWhole_15 : decode cL_isWhole 15 = .ok (.bipush (-9), 2) := by decide +kernel
theorem dL_isWhole_17 : decode cL_isWhole 17 = .ok (.goto 6, 3) := by decide +kernel
theorem dL_isWhole_20 : decode cL_isWhole 20 = .ok (.sipush 1000, 3) := by decide +kernel
theorem dL_isWhole_23 : decode cL_isWhole 23 = .ok (.istore 5, 2) := by decide +kernel
theorem dL_isWhole_25 : decode cL_isWhole 25 = .ok (.bipush (-9), 2) := by decide +kernel
theorem dL_isWhole_27 : decode cL_isWhole 27 = .ok (.istore 6, 2) := by decide +kernel
theorem dL_isWhole_29 : decode cL_isWhole 29 = .ok (.aload_n 0, 1) := by decide +kernel
theorem dL_isWhole_30 : decode cL_isWhole 30 = .ok (.invokevirtual 72, 3) := by decide +kernel
theorem dL_isWhole_33 : decode cL_isWhole 33 = .ok (.lstore 7, 2) := by decide +kernel
theorem dL_isWhole_35 : decode cL_isWhole 35 = .ok (.iload_n 2, 1) := by decide +kernel
theorem dL_isWhole_36 : decode cL_isWhole 36 = .ok (.ifCond .gt 19, 3) := by decide +kernel
theorem dL_isWhole_39 : decode cL_isWhole 39 = .ok (.lload 7, 2) := by decide +kernel
theorem dL_isWhole_41 : decode cL_isWhole 41 = .ok (.lconst 0, 1) := by decide +kernel
theorem dL_isWhole_42 : decode cL_isWhole 42 = .ok (.lcmp, 1) := by decide +kernel
theorem dL_isWhole_43 : decode cL_isWhole 43 = .ok (.ifCond .ne 16, 3) := by decide +kernel
theorem dL_isWhole_46 : decode cL_isWhole 46 = .ok (.aload_n 0, 1) := by decide +kernel
theorem dL_isWhole_47 : decode cL_isWhole 47 = .ok (.invokevirtual 76, 3) := by decide +kernel
theorem dL_isWhole_50 : decode cL_isWhole 50 = .ok (.bipush (-9), 2) := by decide +kernel
theorem dL_isWhole_52 : decode cL_isWhole 52 = .ok (.if_icmp .ne 7, 3) := by decide +kernel
theorem dL_isWhole_55 : decode cL_isWhole 55 = .ok (.iconst 1, 1) := by decide +kernel
theorem dL_isWhole_56 : decode cL_isWhole 56 = .ok (.goto 4, 3) := by decide +kernel
theorem dL_isWhole_59 : decode cL_isWhole 59 = .ok (.iconst 0, 1) := by decide +kernel
theorem dL_isWhole_60 : decode cL_isWhole 60 = .ok (.istore 9, 2) := by decide +kernel
theorem dL_isWhole_62 : decode cL_isWhole 62 = .ok (.iconst 0, 1) := by decide +kernel
theorem dL_isWhole_63 : decode cL_isWhole 63 = .ok (.istore 10, 2) := by decide +kernel
theorem dL_isWhole_65 : decode cL_isWhole 65 = .ok (.iload 10, 2) := by decide +kernel
theorem dL_isWhole_67 : decode cL_isWhole 67 = .ok (.iload_n 2, 1) := by decide +kernel
theorem dL_isWhole_68 : decode cL_isWhole 68 = .ok (.if_icmp .ge 140, 3) := by decide +kernel
theorem dL_isWhole_71 : decode cL_isWhole 71 = .ok (.aload_n 0, 1) := by decide +kernel
theorem dL_isWhole_72 : decode cL_isWhole 72 = .ok (.iload 10, 2) := by decide +kernel
theorem dL_isWhole_74 : decode cL_isWhole 74 = .ok (.bipush 7, 2) := by decide +kernel
theorem dL_isWhole_76 : decode cL_isWhole 76 = .ok (.invokevirtual 58, 3) := by decide +kernel
theorem dL_isWhole_79 : decode cL_isWhole 79 = .ok (.istore 11, 2) := by decide +kernel
theorem dL_isWhole_81 : decode cL_isWhole 81 = .ok (.iload_n 3, 1) := by decide +kernel
theorem dL_isWhole_82 : decode cL_isWhole 82 = .ok (.iload 11, 2) := by decide +kernel
theorem dL_isWhole_84 : decode cL_isWhole 84 = .ok (.iadd, 1) := by decide +kernel
theorem dL_isWhole_85 : decode cL_isWhole 85 = .ok (.istore_n 3, 1) := by decide +kernel
theorem dL_isWhole_86 : decode cL_isWhole 86 = .ok (.iload 11, 2) := by decide +kernel
theorem dL_isWhole_88 : decode cL_isWhole 88 = .ok (.iload 4, 2) := by decide +kernel
theorem dL_isWhole_90 : decode cL_isWhole 90 = .ok (.if_icmp .le 8, 3) := by decide +kernel
theorem dL_isWhole_93 : decode cL_isWhole 93 = .ok (.iload 11, 2) := by decide +kernel
theorem dL_isWhole_95 : decode cL_isWhole 95 = .ok (.goto 5, 3) := by decide +kernel
theorem dL_isWhole_98 : decode cL_isWhole 98 = .ok (.iload 4, 2) := by decide +kernel
theorem dL_isWhole_100 : decode cL_isWhole 100 = .ok (.istore 4, 2) := by decide +kernel
theorem dL_isWhole_102 : decode cL_isWhole 102 = .ok (.aload_n 0, 1) := by decide +kernel
theorem dL_isWhole_103 : decode cL_isWhole 103 = .ok (.iload 10, 2) := by decide +kernel
theorem dL_isWhole_105 : decode cL_isWhole 105 = .ok (.bipush 8, 2) := by decide +kernel
theorem dL_isWhole_107 : decode cL_isWhole 107 = .ok (.invokevirtual 58, 3) := by decide +kernel
theorem dL_isWhole_110 : decode cL_isWhole 110 = .ok (.iload 5, 2) := by decide +kernel
theorem dL_isWhole_112 : decode cL_isWhole 112 = .ok (.if_icmp .ge 14, 3) := by decide +kernel
theorem dL_isWhole_115 : decode cL_isWhole 115 = .ok (.aload_n 0, 1) := by decide +kernel
theorem dL_isWhole_116 : decode cL_isWhole 116 = .ok (.iload 10, 2) := by decide +kernel
theorem dL_isWhole_118 : decode cL_isWhole 118 = .ok (.bipush 8, 2) := by decide +kernel
theorem dL_isWhole_120 : decode cL_isWhole 120 = .ok (.invokevirtual 58, 3) := by decide +kernel
theorem dL_isWhole_123 : decode cL_isWhole 123 = .ok (.goto 5, 3) := by decide +kernel
theorem dL_isWhole_126 : decode cL_isWhole 126 = .ok (.iload 5, 2) := by decide +kernel
theorem dL_isWhole_128 : decode cL_isWhole 128 = .ok (.istore 5, 2) := by decide +kernel
theorem dL_isWhole_130 : decode cL_isWhole 130 = .ok (.aload_n 0, 1) := by decide +kernel
theorem dL_isWhole_131 : decode cL_isWhole 131 = .ok (.iload 10, 2) := by decide +kernel
theorem dL_isWhole_133 : decode cL_isWhole 133 = .ok (.bipush 9, 2) := by decide +kernel
theorem dL_isWhole_135 : decode cL_isWhole 135 = .ok (.invokevirtual 58, 3) := by decide +kernel
theorem dL_isWhole_138 : decode cL_isWhole 138 = .ok (.iload 6, 2) := by decide +kernel
theorem dL_isWhole_140 : decode cL_isWhole 140 = .ok (.if_icmp .le 14, 3) := by decide +kernel
theorem dL_isWhole_143 : decode cL_isWhole 143 = .ok (.aload_n 0, 1) := by decide +kernel
theorem dL_isWhole_144 : decode cL_isWhole 144 = .ok (.iload 10, 2) := by decide +kernel
theorem dL_isWhole_146 : decode cL_isWhole 146 = .ok (.bipush 9, 2) := by decide +kernel
theorem dL_isWhole_148 : decode cL_isWhole 148 = .ok (.invokevirtual 58, 3) := by decide +kernel
theorem dL_isWhole_151 : decode cL_isWhole 151 = .ok (.goto 5, 3) := by decide +kernel
theorem dL_isWhole_154 : decode cL_isWhole 154 = .ok (.iload 6, 2) := by decide +kernel
theorem dL_isWhole_156 : decode cL_isWhole 156 = .ok (.istore 6, 2) := by decide +kernel
theorem dL_isWhole_158 : decode cL_isWhole 158 = .ok (.iload 9, 2) := by decide +kernel
theorem dL_isWhole_160 : decode cL_isWhole 160 = .ok (.ifCond .eq 39, 3) := by decide +kernel
theorem dL_isWhole_163 : decode cL_isWhole 163 = .ok (.lload 7, 2) := by decide +kernel
theorem dL_isWhole_165 : decode cL_isWhole 165 = .ok (.aload_n 0, 1) := by decide +kernel
theorem dL_isWhole_166 : decode cL_isWhole 166 = .ok (.iload 10, 2) := by decide +kernel
theorem dL_isWhole_168 : decode cL_isWhole 168 = .ok (.iconst 4, 1) := by decide +kernel
theorem dL_isWhole_169 : decode cL_isWhole 169 = .ok (.invokevirtual 58, 3) := by decide +kernel
theorem dL_isWhole_172 : decode cL_isWhole 172 = .ok (.i2l, 1) := by decide +kernel
theorem dL_isWhole_173 : decode cL_isWhole 173 = .ok (.lrem, 1) := by decide +kernel
theorem dL_isWhole_174 : decode cL_isWhole 174 = .ok (.lconst 0, 1) := by decide +kernel
theorem dL_isWhole_175 : decode cL_isWhole 175 = .ok (.lcmp, 1) := by decide +kernel
theorem dL_isWhole_176 : decode cL_isWhole 176 = .ok (.ifCond .ne 23, 3) := by decide +kernel
theorem dL_isWhole_179 : decode cL_isWhole 179 = .ok (.aload_n 0, 1) := by decide +kernel
theorem dL_isWhole_180 : decode cL_isWhole 180 = .ok (.iload 10, 2) := by decide +kernel
theorem dL_isWhole_182 : decode cL_isWhole 182 = .ok (.iload_n 1, 1) := by decide +kernel
theorem dL_isWhole_183 : decode cL_isWhole 183 = .ok (.bipush 31, 2) := by decide +kernel
theorem dL_isWhole_185 : decode cL_isWhole 185 = .ok (.iload 10, 2) := by decide +kernel
theorem dL_isWhole_187 : decode cL_isWhole 187 = .ok (.imul, 1) := by decide +kernel
theorem dL_isWhole_188 : decode cL_isWhole 188 = .ok (.iadd, 1) := by decide +kernel
theorem dL_isWhole_189 : decode cL_isWhole 189 = .ok (.invokestatic 79, 3) := by decide +kernel
theorem dL_isWhole_192 : decode cL_isWhole 192 = .ok (.ifCond .eq 7, 3) := by decide +kernel
theorem dL_isWhole_195 : decode cL_isWhole 195 = .ok (.iconst 1, 1) := by decide +kernel
theorem dL_isWhole_196 : decode cL_isWhole 196 = .ok (.goto 4, 3) := by decide +kernel
theorem dL_isWhole_199 : decode cL_isWhole 199 = .ok (.iconst 0, 1) := by decide +kernel
theorem dL_isWhole_200 : decode cL_isWhole 200 = .ok (.istore 9, 2) := by decide +kernel
theorem dL_isWhole_202 : decode cL_isWhole 202 = .ok (.iinc 10 1, 3) := by decide +kernel
theorem dL_isWhole_205 : decode cL_isWhole 205 = .ok (.goto (-140), 3) := by decide +kernel
theorem dL_isWhole_208 : decode cL_isWhole 208 = .ok (.iload 9, 2) := by decide +kernel
theorem dL_isWhole_210 : decode cL_isWhole 210 = .ok (.ifCond .eq 62, 3) := by decide +kernel
theorem dL_isWhole_213 : decode cL_isWhole 213 = .ok (.aload_n 0, 1) := by decide +kernel
theorem dL_isWhole_214 : decode cL_isWhole 214 = .ok (.iconst 3, 1) := by decide +kernel
theorem dL_isWhole_215 : decode cL_isWhole 215 = .ok (.invokevirtual 17, 3) := by decide +kernel
theorem dL_isWhole_218 : decode cL_isWhole 218 = .ok (.iload_n 3, 1) := by decide +kernel
theorem dL_isWhole_219 : decode cL_isWhole 219 = .ok (.if_icmp .gt 53, 3) := by decide +kernel
theorem dL_isWhole_222 : decode cL_isWhole 222 = .ok (.aload_n 0, 1) := by decide +kernel
theorem dL_isWhole_223 : decode cL_isWhole 223 = .ok (.iconst 3, 1) := by decide +kernel
theorem dL_isWhole_224 : decode cL_isWhole 224 = .ok (.invokevirtual 17, 3) := by decide +kernel
theorem dL_isWhole_227 : decode cL_isWhole 227 = .ok (.iload 4, 2) := by decide +kernel
theorem dL_isWhole_229 : decode cL_isWhole 229 = .ok (.if_icmp .lt 43, 3) := by decide +kernel
theorem dL_isWhole_232 : decode cL_isWhole 232 = .ok (.aload_n 0, 1) := by decide +kernel
theorem dL_isWhole_233 : decode cL_isWhole 233 = .ok (.iconst 4, 1) := by decide +kernel
theorem dL_isWhole_234 : decode cL_isWhole 234 = .ok (.invokevirtual 17, 3) := by decide +kernel
theorem dL_isWhole_237 : decode cL_isWhole 237 = .ok (.iload 5, 2) := by decide +kernel
theorem dL_isWhole_239 : decode cL_isWhole 239 = .ok (.if_icmp .ne 33, 3) := by decide +kernel
theorem dL_isWhole_242 : decode cL_isWhole 242 = .ok (.aload_n 0, 1) := by decide +kernel
theorem dL_isWhole_243 : decode cL_isWhole 243 = .ok (.iconst 5, 1) := by decide +kernel
theorem dL_isWhole_244 : decode cL_isWhole 244 = .ok (.invokevirtual 17, 3) := by decide +kernel
theorem dL_isWhole_247 : decode cL_isWhole 247 = .ok (.iload 6, 2) := by decide +kernel
theorem dL_isWhole_249 : decode cL_isWhole 249 = .ok (.if_icmp .ne 23, 3) := by decide +kernel
theorem dL_isWhole_252 : decode cL_isWhole 252 = .ok (.iload_n 2, 1) := by decide +kernel
theorem dL_isWhole_253 : decode cL_isWhole 253 = .ok (.ifCond .eq 15, 3) := by decide +kernel
theorem dL_isWhole_256 : decode cL_isWhole 256 = .ok (.aload_n 0, 1) := by decide +kernel
theorem dL_isWhole_257 : decode cL_isWhole 257 = .ok (.invokevirtual 76, 3) := by decide +kernel
theorem dL_isWhole_260 : decode cL_isWhole 260 = .ok (.iload 6, 2) := by decide +kernel
theorem dL_isWhole_262 : decode cL_isWhole 262 = .ok (.iload 5, 2) := by decide +kernel
theorem dL_isWhole_264 : decode cL_isWhole 264 = .ok (.isub, 1) := by decide +kernel
theorem dL_isWhole_265 : decode cL_isWhole 265 = .ok (.if_icmp .gt 7, 3) := by decide +kernel
theorem dL_isWhole_268 : decode cL_isWhole 268 = .ok (.iconst 1, 1) := by decide +kernel
theorem dL_isWhole_269 : decode cL_isWhole 269 = .ok (.goto 4, 3) := by decide +kernel
theorem dL_isWhole_272 : decode cL_isWhole 272 = .ok (.iconst 0, 1) := by decide +kernel
theorem dL_isWhole_273 : decode cL_isWhole 273 = .ok (.ireturn, 1) := by decide +kernel
set_option maxRecDepth 20000 in
theorem ggL_isSeen_X7_about : GoodIn wsL_isSeen wsX7_about := goodIn_ca (goodIn_r _ [5, 6, 7, 8, 9, 10, 11, 12, 13, 14, 15, 16, 17, 18, 19, 20, 21, 22, 23, 24, 25, 26, 27, 28, 29, 30, 31, 32, 33, 34, 35, 36, 37, 38, 39, 40, 41, 42, 43, 44, 45, 4, 46, 47, 48, 49, 50, 51, 52, 53, 54, 55, 56, 57, 58, 59, 60, 61, 62, 63, 64, 65, 66, 67, 68, 69, 70, 71, 72, 73, 74, 75, 76, 77, 78, 79, 80, 81, 82, 83, 84, 85, 86, 87, 88, 89, 90, 91, 92, 93, 94, 95, 96, 97, 98, 99, 100, 101, 102, 103, 104, 105, 106, 107, 108, 109, 110, 111, 112, 113, 114, 115, 116, 117, 118, 119, 120, 121, 122, 123, 124, 125, 126, 127, 128, 129, 130, 131, 132, 158, 159, 160, 161, 162, 163, 164, 165, 166, 167, 168, 169, 170, 171, 172, 173, 174, 175, 176, 177, 178, 179] (by decide +kernel) (by decide +kernel)) (goodIn_sub (fun _ h => List.mem_cons_of_mem _ (List.mem_append_left _ (List.mem_append_right _ h))) (by decide +kernel))
set_option maxRecDepth 20000 in
theorem gL_isSeen_X7_about : GoodIn wsL_isSeen (wsV RL 17 RX7 yX7_about wsX7_about) := goodIn_app (goodIn_of _ (by decide +kernel)) ggL_isSeen_X7_about
set_option maxRecDepth 20000 in
theorem ggL_isSeen_X7_sighting : GoodIn wsL_isSeen wsX7_sighting := goodIn_ca (goodIn_ca (goodIn_r _ [136, 137, 138, 6, 7, 8, 11, 139, 116, 117, 30, 118, 119, 140, 121, 122, 123, 124, 141, 142, 143, 144, 32, 114, 85, 28, 29, 31, 33, 125, 126, 127, 42, 128, 65, 59, 4, 60, 129, 130, 131, 132, 44, 45, 46, 47, 48, 93, 50, 51, 52, 53, 54, 55, 56, 57, 58, 158, 159, 160, 161, 162, 163, 164, 165, 166, 167, 168, 169, 170, 171, 176, 177, 178, 179] (by decide +kernel) (by decide +kernel)) (goodIn_sub (fun _ h => List.mem_cons_of_mem _ (List.mem_append_right _ h)) (by decide +kernel))) (goodIn_sub (fun _ h => List.mem_cons_of_mem _ (List.mem_append_left _ (List.mem_append_right _ h))) (by decide +kernel))
set_option maxRecDepth 20000 in
theorem gL_isSeen_X7_sighting : GoodIn wsL_isSeen (wsV RL 83 RX7 yX7_sighting wsX7_sighting) := goodIn_app (goodIn_of _ (by decide +kernel)) ggL_isSeen_X7_sighting
set_option maxRecDepth 20000 in
theorem ggL_isSeen_X7_comes : GoodIn wsL_isSeen wsX7_comes := goodIn_ca (goodIn_ca (goodIn_r _ [148, 137, 138, 6, 7, 8, 9, 149, 28, 29, 30, 31, 32, 33, 150, 151, 152, 153, 114, 154, 155, 4, 156, 157, 126, 127, 42, 128, 65, 59, 60, 129, 130, 131, 132, 44, 45, 46, 47, 48, 93, 50, 51, 52, 53, 54, 55, 56, 57, 58, 158, 159, 160, 161, 162, 163, 164, 165, 166, 167, 168, 169, 170, 171, 176, 177, 178, 179] (by decide +kernel) (by decide +kernel)) (goodIn_sub (fun _ h => List.mem_cons_of_mem _ (List.mem_append_right _ h)) (by decide +kernel))) (goodIn_sub (fun _ h => List.mem_cons_of_mem _ (List.mem_append_left _ (List.mem_append_right _ h))) (by decide +kernel))
set_option maxRecDepth 20000 in
theorem gL_isSeen_X7_comes : GoodIn wsL_isSeen (wsV RL 64 RX7 yX7_comes wsX7_comes) := goodIn_app (goodIn_of _ (by decide +kernel)) ggL_isSeen_X7_comes
theorem dL_isSeen_0 : decode cL_isSeen 0 = .ok (.aload_n 0, 1) := by decide +kernel
theorem dL_isSeen_1 : decode cL_isSeen 1 = .ok (.iconst 1, 1) := by decide +kernel
theorem dL_isSeen_2 : decode cL_isSeen 2 = .ok (.invokevirtual 17, 3) := by decide +kernel
theorem dL_isSeen_5 : decode cL_isSeen 5 = .ok (.istore_n 1, 1) := by decide +kernel
theorem dL_isSeen_6 : decode cL_isSeen 6 = .ok (.aload_n 0, 1) := by decide +kernel
theorem dL_isSeen_7 : decode cL_isSeen 7 = .ok (.iconst 2, 1) := by decide +kernel
theorem dL_isSeen_8 : decode cL_isSeen 8 = .ok (.invokevirtual 17, 3) := by decide +kernel
theorem dL_isSeen_11 : decode cL_isSeen 11 = .ok (.istore_n 2, 1) := by decide +kernel
theorem dL_isSeen_12 : decode cL_isSeen 12 = .ok (.iconst 0, 1) := by decide +kernel
theorem dL_isSeen_13 : decode cL_isSeen 13 = .ok (.istore_n 3, 1) := by decide +kernel
theorem dL_isSeen_14 : decode cL_isSeen 14 = .ok (.iload_n 2, 1) := by decide +kernel
theorem dL_isSeen_15 : decode cL_isSeen 15 = .ok (.bipush 8, 2) := by decide +kernel
theorem dL_isSeen_17 : decode cL_isSeen 17 = .ok (.if_icmp .gt 7, 3) := by decide +kernel
theorem dL_isSeen_20 : decode cL_isSeen 20 = .ok (.iconst 1, 1) := by decide +kernel
theorem dL_isSeen_21 : decode cL_isSeen 21 = .ok (.goto 4, 3) := by decide +kernel
theorem dL_isSeen_24 : decode cL_isSeen 24 = .ok (.iconst 0, 1) := by decide +kernel
theorem dL_isSeen_25 : decode cL_isSeen 25 = .ok (.istore 4, 2) := by decide +kernel
theorem dL_isSeen_27 : decode cL_isSeen 27 = .ok (.iconst 0, 1) := by decide +kernel
theorem dL_isSeen_28 : decode cL_isSeen 28 = .ok (.istore 5, 2) := by decide +kernel
theorem dL_isSeen_30 : decode cL_isSeen 30 = .ok (.iload 5, 2) := by decide +kernel
theorem dL_isSeen_32 : decode cL_isSeen 32 = .ok (.iload_n 1, 1) := by decide +kernel
theorem dL_isSeen_33 : decode cL_isSeen 33 = .ok (.if_icmp .ge 75, 3) := by decide +kernel
theorem dL_isSeen_36 : decode cL_isSeen 36 = .ok (.iconst 0, 1) := by decide +kernel
theorem dL_isSeen_37 : decode cL_isSeen 37 = .ok (.istore 6, 2) := by decide +kernel
theorem dL_isSeen_39 : decode cL_isSeen 39 = .ok (.iconst 0, 1) := by decide +kernel
theorem dL_isSeen_40 : decode cL_isSeen 40 = .ok (.istore 7, 2) := by decide +kernel
theorem dL_isSeen_42 : decode cL_isSeen 42 = .ok (.iload 7, 2) := by decide +kernel
theorem dL_isSeen_44 : decode cL_isSeen 44 = .ok (.iload_n 2, 1) := by decide +kernel
theorem dL_isSeen_45 : decode cL_isSeen 45 = .ok (.if_icmp .ge 43, 3) := by decide +kernel
theorem dL_isSeen_48 : decode cL_isSeen 48 = .ok (.aload_n 0, 1) := by decide +kernel
theorem dL_isSeen_49 : decode cL_isSeen 49 = .ok (.iload 5, 2) := by decide +kernel
theorem dL_isSeen_51 : decode cL_isSeen 51 = .ok (.aload_n 0, 1) := by decide +kernel
theorem dL_isSeen_52 : decode cL_isSeen 52 = .ok (.iload 7, 2) := by decide +kernel
theorem dL_isSeen_54 : decode cL_isSeen 54 = .ok (.iconst 0, 1) := by decide +kernel
theorem dL_isSeen_55 : decode cL_isSeen 55 = .ok (.invokevirtual 83, 3) := by decide +kernel
theorem dL_isSeen_58 : decode cL_isSeen 58 = .ok (.aload_n 0, 1) := by decide +kernel
theorem dL_isSeen_59 : decode cL_isSeen 59 = .ok (.iload 7, 2) := by decide +kernel
theorem dL_isSeen_61 : decode cL_isSeen 61 = .ok (.iconst 1, 1) := by decide +kernel
theorem dL_isSeen_62 : decode cL_isSeen 62 = .ok (.invokevirtual 83, 3) := by decide +kernel
theorem dL_isSeen_65 : decode cL_isSeen 65 = .ok (.invokevirtual 64, 3) := by decide +kernel
theorem dL_isSeen_68 : decode cL_isSeen 68 = .ok (.ifCond .lt 10, 3) := by decide +kernel
theorem dL_isSeen_71 : decode cL_isSeen 71 = .ok (.iload 6, 2) := by decide +kernel
theorem dL_isSeen_73 : decode cL_isSeen 73 = .ok (.iconst 1, 1) := by decide +kernel
theorem dL_isSeen_74 : decode cL_isSeen 74 = .ok (.iadd, 1) := by decide +kernel
theorem dL_isSeen_75 : decode cL_isSeen 75 = .ok (.goto 5, 3) := by decide +kernel
theorem dL_isSeen_78 : decode cL_isSeen 78 = .ok (.iload 6, 2) := by decide +kernel
theorem dL_isSeen_80 : decode cL_isSeen 80 = .ok (.istore 6, 2) := by decide +kernel
theorem dL_isSeen_82 : decode cL_isSeen 82 = .ok (.iinc 7 1, 3) := by decide +kernel
theorem dL_isSeen_85 : decode cL_isSeen 85 = .ok (.goto (-43), 3) := by decide +kernel
theorem dL_isSeen_88 : decode cL_isSeen 88 = .ok (.iload 6, 2) := by decide +kernel
theorem dL_isSeen_90 : decode cL_isSeen 90 = .ok (.iload_n 2, 1) := by decide +kernel
theorem dL_isSeen_91 : decode cL_isSeen 91 = .ok (.if_icmp .ne 9, 3) := by decide +kernel
theorem dL_isSeen_94 : decode cL_isSeen 94 = .ok (.iload_n 3, 1) := by decide +kernel
theorem dL_isSeen_95 : decode cL_isSeen 95 = .ok (.iconst 1, 1) := by decide +kernel
theorem dL_isSeen_96 : decode cL_isSeen 96 = .ok (.iadd, 1) := by decide +kernel
theorem dL_isSeen_97 : decode cL_isSeen 97 = .ok (.goto 4, 3) := by decide +kernel
theorem dL_isSeen_100 : decode cL_isSeen 100 = .ok (.iload_n 3, 1) := by decide +kernel
theorem dL_isSeen_101 : decode cL_isSeen 101 = .ok (.istore_n 3, 1) := by decide +kernel
theorem dL_isSeen_102 : decode cL_isSeen 102 = .ok (.iinc 5 1, 3) := by decide +kernel
theorem dL_isSeen_105 : decode cL_isSeen 105 = .ok (.goto (-75), 3) := by decide +kernel
theorem dL_isSeen_108 : decode cL_isSeen 108 = .ok (.iconst 0, 1) := by decide +kernel
theorem dL_isSeen_109 : decode cL_isSeen 109 = .ok (.istore 5, 2) := by decide +kernel
theorem dL_isSeen_111 : decode cL_isSeen 111 = .ok (.iload 5, 2) := by decide +kernel
theorem dL_isSeen_113 : decode cL_isSeen 113 = .ok (.iload_n 2, 1) := by decide +kernel
theorem dL_isSeen_114 : decode cL_isSeen 114 = .ok (.if_icmp .ge 85, 3) := by decide +kernel
theorem dL_isSeen_117 : decode cL_isSeen 117 = .ok (.iconst 0, 1) := by decide +kernel
theorem dL_isSeen_118 : decode cL_isSeen 118 = .ok (.istore 6, 2) := by decide +kernel
theorem dL_isSeen_120 : decode cL_isSeen 120 = .ok (.iconst 0, 1) := by decide +kernel
theorem dL_isSeen_121 : decode cL_isSeen 121 = .ok (.istore 7, 2) := by decide +kernel
theorem dL_isSeen_123 : decode cL_isSeen 123 = .ok (.iload 7, 2) := by decide +kernel
theorem dL_isSeen_125 : decode cL_isSeen 125 = .ok (.iload_n 1, 1) := by decide +kernel
theorem dL_isSeen_126 : decode cL_isSeen 126 = .ok (.if_icmp .ge 43, 3) := by decide +kernel
theorem dL_isSeen_129 : decode cL_isSeen 129 = .ok (.aload_n 0, 1) := by decide +kernel
theorem dL_isSeen_130 : decode cL_isSeen 130 = .ok (.iload 7, 2) := by decide +kernel
theorem dL_isSeen_132 : decode cL_isSeen 132 = .ok (.aload_n 0, 1) := by decide +kernel
theorem dL_isSeen_133 : decode cL_isSeen 133 = .ok (.iload 5, 2) := by decide +kernel
theorem dL_isSeen_135 : decode cL_isSeen 135 = .ok (.iconst 0, 1) := by decide +kernel
theorem dL_isSeen_136 : decode cL_isSeen 136 = .ok (.invokevirtual 83, 3) := by decide +kernel
theorem dL_isSeen_139 : decode cL_isSeen 139 = .ok (.aload_n 0, 1) := by decide +kernel
theorem dL_isSeen_140 : decode cL_isSeen 140 = .ok (.iload 5, 2) := by decide +kernel
theorem dL_isSeen_142 : decode cL_isSeen 142 = .ok (.iconst 1, 1) := by decide +kernel
theorem dL_isSeen_143 : decode cL_isSeen 143 = .ok (.invokevirtual 83, 3) := by decide +kernel
theorem dL_isSeen_146 : decode cL_isSeen 146 = .ok (.invokevirtual 64, 3) := by decide +kernel
theorem dL_isSeen_149 : decode cL_isSeen 149 = .ok (.ifCond .lt 10, 3) := by decide +kernel
theorem dL_isSeen_152 : decode cL_isSeen 152 = .ok (.iload 6, 2) := by decide +kernel
theorem dL_isSeen_154 : decode cL_isSeen 154 = .ok (.iconst 1, 1) := by decide +kernel
theorem dL_isSeen_155 : decode cL_isSeen 155 = .ok (.iadd, 1) := by decide +kernel
theorem dL_isSeen_156 : decode cL_isSeen 156 = .ok (.goto 5, 3) := by decide +kernel
theorem dL_isSeen_159 : decode cL_isSeen 159 = .ok (.iload 6, 2) := by decide +kernel
theorem dL_isSeen_161 : decode cL_isSeen 161 = .ok (.istore 6, 2) := by decide +kernel
theorem dL_isSeen_163 : decode cL_isSeen 163 = .ok (.iinc 7 1, 3) := by decide +kernel
theorem dL_isSeen_166 : decode cL_isSeen 166 = .ok (.goto (-43), 3) := by decide +kernel
theorem dL_isSeen_169 : decode cL_isSeen 169 = .ok (.iload 4, 2) := by decide +kernel
theorem dL_isSeen_171 : decode cL_isSeen 171 = .ok (.ifCond .eq 19, 3) := by decide +kernel
theorem dL_isSeen_174 : decode cL_isSeen 174 = .ok (.aload_n 0, 1) := by decide +kernel
theorem dL_isSeen_175 : decode cL_isSeen 175 = .ok (.iload 5, 2) := by decide +kernel
theorem dL_isSeen_177 : decode cL_isSeen 177 = .ok (.iconst 2, 1) := by decide +kernel
theorem dL_isSeen_178 : decode cL_isSeen 178 = .ok (.invokevirtual 83, 3) := by decide +kernel
theorem dL_isSeen_181 : decode cL_isSeen 181 = .ok (.iload 6, 2) := by decide +kernel
theorem dL_isSeen_183 : decode cL_isSeen 183 = .ok (.if_icmp .ne 7, 3) := by decide +kernel
theorem dL_isSeen_186 : decode cL_isSeen 186 = .ok (.iconst 1, 1) := by decide +kernel
theorem dL_isSeen_187 : decode cL_isSeen 187 = .ok (.goto 4, 3) := by decide +kernel
theorem dL_isSeen_190 : decode cL_isSeen 190 = .ok (.iconst 0, 1) := by decide +kernel
theorem dL_isSeen_191 : decode cL_isSeen 191 = .ok (.istore 4, 2) := by decide +kernel
theorem dL_isSeen_193 : decode cL_isSeen 193 = .ok (.iinc 5 1, 3) := by decide +kernel
theorem dL_isSeen_196 : decode cL_isSeen 196 = .ok (.goto (-85), 3) := by decide +kernel
theorem dL_isSeen_199 : decode cL_isSeen 199 = .ok (.iload 4, 2) := by decide +kernel
theorem dL_isSeen_201 : decode cL_isSeen 201 = .ok (.ifCond .eq 17, 3) := by decide +kernel
theorem dL_isSeen_204 : decode cL_isSeen 204 = .ok (.aload_n 0, 1) := by decide +kernel
theorem dL_isSeen_205 : decode cL_isSeen 205 = .ok (.bipush 6, 2) := by decide +kernel
theorem dL_isSeen_207 : decode cL_isSeen 207 = .ok (.invokevirtual 17, 3) := by decide +kernel
theorem dL_isSeen_210 : decode cL_isSeen 210 = .ok (.iload_n 3, 1) := by decide +kernel
theorem dL_isSeen_211 : decode cL_isSeen 211 = .ok (.if_icmp .ne 7, 3) := by decide +kernel
theorem dL_isSeen_214 : decode cL_isSeen 214 = .ok (.iconst 1, 1) := by decide +kernel
theorem dL_isSeen_215 : decode cL_isSeen 215 = .ok (.goto 4, 3) := by decide +kernel
theorem dL_isSeen_218 : decode cL_isSeen 218 = .ok (.iconst 0, 1) := by decide +kernel
theorem dL_isSeen_219 : decode cL_isSeen 219 = .ok (.ireturn, 1) := by decide +kernel
set_option maxRecDepth 20000 in
theorem ggL_isOrder_X7_about : GoodIn wsL_isOrder wsX7_about := goodIn_ca (goodIn_r _ [5, 6, 7, 8, 9, 10, 11, 12, 13, 14, 15, 16, 17, 18, 19, 20, 21, 22, 23, 24, 25, 26, 27, 28, 29, 30, 31, 32, 33, 34, 35, 36, 37, 38, 39, 40, 41, 42, 43, 44, 45, 4, 46, 47, 48, 49, 50, 51, 52, 53, 54, 55, 56, 57, 58, 59, 60, 61, 62, 63, 64, 65, 66, 67, 68, 69, 70, 71, 72, 73, 74, 75, 76, 77, 78, 79, 80, 81, 82, 83, 84, 85, 86, 87, 88, 89, 90, 91, 92, 93, 94, 95, 96, 97, 98, 99, 100, 101, 102, 103, 104, 105, 106, 107, 108, 109, 110, 111, 112, 113, 114, 115, 116, 117, 118, 119, 120, 121, 122, 123, 124, 125, 126, 127, 128, 129, 130, 131, 132, 170, 171, 172, 173, 174, 175, 176, 177, 178, 179, 180, 181, 182, 183, 184, 185, 186, 187, 188, 189, 190, 191] (by decide +kernel) (by decide +kernel)) (goodIn_sub (fun _ h => List.mem_cons_of_mem _ (List.mem_append_left _ (List.mem_append_right _ h))) (by decide +kernel))
set_option maxRecDepth 20000 in
theorem gL_isOrder_X7_about : GoodIn wsL_isOrder (wsV RL 17 RX7 yX7_about wsX7_about) := goodIn_app (goodIn_of _ (by decide +kernel)) ggL_isOrder_X7_about
set_option maxRecDepth 20000 in
theorem ggL_isOrder_X7_order : GoodIn wsL_isOrder wsX7_order := goodIn_ca (goodIn_r _ [136, 6, 7, 8, 10, 137, 138, 139, 30, 140, 32, 141, 142, 143, 144, 114, 85, 28, 29, 31, 33, 145, 130, 131, 42, 132, 44, 45, 4, 46, 47, 48, 146, 40, 41, 43, 170, 171, 172, 173, 174, 175, 176, 177, 178, 179, 180, 181, 182, 183, 188, 189, 190, 191] (by decide +kernel) (by decide +kernel)) (goodIn_sub (fun _ h => List.mem_cons_of_mem _ (List.mem_append_left _ (List.mem_append_right _ h))) (by decide +kernel))
set_option maxRecDepth 20000 in
theorem gL_isOrder_X7_order : GoodIn wsL_isOrder (wsV RL 86 RX7 yX7_order wsX7_order) := goodIn_app (goodIn_of _ (by decide +kernel)) ggL_isOrder_X7_order
set_option maxRecDepth 20000 in
theorem ggL_isOrder_X7_layer : GoodIn wsL_isOrder wsX7_layer := goodIn_ca (goodIn_ca (goodIn_r _ [150, 151, 152, 6, 7, 8, 153, 154, 155, 156, 9, 12, 157, 28, 29, 30, 31, 32, 33, 158, 159, 160, 42, 161, 129, 130, 131, 132, 44, 45, 4, 46, 47, 48, 162, 163, 40, 41, 43, 164, 165, 166, 16, 167, 18, 21, 22, 23, 24, 25, 26, 34, 35, 36, 37, 38, 39, 49, 50, 51, 52, 53, 54, 55, 56, 57, 58, 59, 60, 61, 62, 63, 64, 65, 66, 67, 68, 69, 70, 71, 72, 73, 74, 75, 76, 77, 78, 79, 80, 168, 87, 88, 89, 90, 91, 92, 93, 169, 99, 100, 101, 102, 103, 104, 170, 171, 172, 173, 174, 175, 176, 177, 188, 189, 190, 191, 178, 179, 180, 181, 182, 183, 184, 185, 186, 187] (by decide +kernel) (by decide +kernel)) (goodIn_sub (fun _ h => List.mem_cons_of_mem _ (List.mem_append_right _ h)) (by decide +kernel))) (goodIn_sub (fun _ h => List.mem_cons_of_mem _ (List.mem_append_left _ (List.mem_append_right _ h))) (by decide +kernel))
set_option maxRecDepth 20000 in
theorem gL_isOrder_X7_layer : GoodIn wsL_isOrder (wsV RL 58 RX7 yX7_layer wsX7_layer) := goodIn_app (goodIn_of _ (by decide +kernel)) ggL_isOrder_X7_layer
theorem dL_isOrder_0 : decode cL_isOrder 0 = .ok (.aload_n 0, 1) := by decide +kernel
theorem dL_isOrder_1 : decode cL_isOrder 1 = .ok (.iconst 1, 1) := by decide +kernel
theorem dL_isOrder_2 : decode cL_isOrder 2 = .ok (.invokevirtual 17, 3) := by decide +kernel
theorem dL_isOrder_5 : decode cL_isOrder 5 = .ok (.istore_n 1, 1) := by decide +kernel
theorem dL_isOrder_6 : decode cL_isOrder 6 = .ok (.iconst 0, 1) := by decide +kernel
theorem dL_isOrder_7 : decode cL_isOrder 7 = .ok (.istore_n 2, 1) := by decide +kernel
theorem dL_isOrder_8 : decode cL_isOrder 8 = .ok (.aload_n 0, 1) := by decide +kernel
theorem dL_isOrder_9 : decode cL_isOrder 9 = .ok (.iload_n 1, 1) := by decide +kernel
theorem dL_isOrder_10 : decode cL_isOrder 10 = .ok (.invokevirtual 86, 3) := by decide +kernel
theorem dL_isOrder_13 : decode cL_isOrder 13 = .ok (.bipush (-9), 2) := by decide +kernel
theorem dL_isOrder_15 : decode cL_isOrder 15 = .ok (.if_icmp .ne 7, 3) := by decide +kernel
theorem dL_isOrder_18 : decode cL_isOrder 18 = .ok (.iconst 1, 1) := by decide +kernel
theorem dL_isOrder_19 : decode cL_isOrder 19 = .ok (.goto 4, 3) := by decide +kernel
theorem dL_isOrder_22 : decode cL_isOrder 22 = .ok (.iconst 0, 1) := by decide +kernel
theorem dL_isOrder_23 : decode cL_isOrder 23 = .ok (.istore_n 3, 1) := by decide +kernel
theorem dL_isOrder_24 : decode cL_isOrder 24 = .ok (.iconst 0, 1) := by decide +kernel
theorem dL_isOrder_25 : decode cL_isOrder 25 = .ok (.istore 4, 2) := by decide +kernel
theorem dL_isOrder_27 : decode cL_isOrder 27 = .ok (.iload 4, 2) := by decide +kernel
theorem dL_isOrder_29 : decode cL_isOrder 29 = .ok (.iload_n 1, 1) := by decide +kernel
theorem dL_isOrder_30 : decode cL_isOrder 30 = .ok (.if_icmp .ge 112, 3) := by decide +kernel
theorem dL_isOrder_33 : decode cL_isOrder 33 = .ok (.aload_n 0, 1) := by decide +kernel
theorem dL_isOrder_34 : decode cL_isOrder 34 = .ok (.iload 4, 2) := by decide +kernel
theorem dL_isOrder_36 : decode cL_isOrder 36 = .ok (.invokevirtual 86, 3) := by decide +kernel
theorem dL_isOrder_39 : decode cL_isOrder 39 = .ok (.istore 5, 2) := by decide +kernel
theorem dL_isOrder_41 : decode cL_isOrder 41 = .ok (.iload_n 2, 1) := by decide +kernel
theorem dL_isOrder_42 : decode cL_isOrder 42 = .ok (.iconst 1, 1) := by decide +kernel
theorem dL_isOrder_43 : decode cL_isOrder 43 = .ok (.iload 5, 2) := by decide +kernel
theorem dL_isOrder_45 : decode cL_isOrder 45 = .ok (.ishl, 1) := by decide +kernel
theorem dL_isOrder_46 : decode cL_isOrder 46 = .ok (.ior, 1) := by decide +kernel
theorem dL_isOrder_47 : decode cL_isOrder 47 = .ok (.istore_n 2, 1) := by decide +kernel
theorem dL_isOrder_48 : decode cL_isOrder 48 = .ok (.iload 4, 2) := by decide +kernel
theorem dL_isOrder_50 : decode cL_isOrder 50 = .ok (.ifCond .le 86, 3) := by decide +kernel
theorem dL_isOrder_53 : decode cL_isOrder 53 = .ok (.aload_n 0, 1) := by decide +kernel
theorem dL_isOrder_54 : decode cL_isOrder 54 = .ok (.iload 4, 2) := by decide +kernel
theorem dL_isOrder_56 : decode cL_isOrder 56 = .ok (.iconst 1, 1) := by decide +kernel
theorem dL_isOrder_57 : decode cL_isOrder 57 = .ok (.isub, 1) := by decide +kernel
theorem dL_isOrder_58 : decode cL_isOrder 58 = .ok (.invokevirtual 86, 3) := by decide +kernel
theorem dL_isOrder_61 : decode cL_isOrder 61 = .ok (.istore 6, 2) := by decide +kernel
theorem dL_isOrder_63 : decode cL_isOrder 63 = .ok (.aload_n 0, 1) := by decide +kernel
theorem dL_isOrder_64 : decode cL_isOrder 64 = .ok (.iload 5, 2) := by decide +kernel
theorem dL_isOrder_66 : decode cL_isOrder 66 = .ok (.iconst 5, 1) := by decide +kernel
theorem dL_isOrder_67 : decode cL_isOrder 67 = .ok (.invokevirtual 58, 3) := by decide +kernel
theorem dL_isOrder_70 : decode cL_isOrder 70 = .ok (.aload_n 0, 1) := by decide +kernel
theorem dL_isOrder_71 : decode cL_isOrder 71 = .ok (.iload 6, 2) := by decide +kernel
theorem dL_isOrder_73 : decode cL_isOrder 73 = .ok (.iconst 5, 1) := by decide +kernel
theorem dL_isOrder_74 : decode cL_isOrder 74 = .ok (.invokevirtual 58, 3) := by decide +kernel
theorem dL_isOrder_77 : decode cL_isOrder 77 = .ok (.isub, 1) := by decide +kernel
theorem dL_isOrder_78 : decode cL_isOrder 78 = .ok (.istore 7, 2) := by decide +kernel
theorem dL_isOrder_80 : decode cL_isOrder 80 = .ok (.aload_n 0, 1) := by decide +kernel
theorem dL_isOrder_81 : decode cL_isOrder 81 = .ok (.iload 6, 2) := by decide +kernel
theorem dL_isOrder_83 : decode cL_isOrder 83 = .ok (.bipush 6, 2) := by decide +kernel
theorem dL_isOrder_85 : decode cL_isOrder 85 = .ok (.invokevirtual 58, 3) := by decide +kernel
theorem dL_isOrder_88 : decode cL_isOrder 88 = .ok (.aload_n 0, 1) := by decide +kernel
theorem dL_isOrder_89 : decode cL_isOrder 89 = .ok (.iload 5, 2) := by decide +kernel
theorem dL_isOrder_91 : decode cL_isOrder 91 = .ok (.bipush 6, 2) := by decide +kernel
theorem dL_isOrder_93 : decode cL_isOrder 93 = .ok (.invokevirtual 58, 3) := by decide +kernel
theorem dL_isOrder_96 : decode cL_isOrder 96 = .ok (.isub, 1) := by decide +kernel
theorem dL_isOrder_97 : decode cL_isOrder 97 = .ok (.istore 8, 2) := by decide +kernel
theorem dL_isOrder_99 : decode cL_isOrder 99 = .ok (.iload_n 3, 1) := by decide +kernel
theorem dL_isOrder_100 : decode cL_isOrder 100 = .ok (.ifCond .eq 34, 3) := by decide +kernel
theorem dL_isOrder_103 : decode cL_isOrder 103 = .ok (.iload 7, 2) := by decide +kernel
theorem dL_isOrder_105 : decode cL_isOrder 105 = .ok (.ifCond .gt 25, 3) := by decide +kernel
theorem dL_isOrder_108 : decode cL_isOrder 108 = .ok (.iload 7, 2) := by decide +kernel
theorem dL_isOrder_110 : decode cL_isOrder 110 = .ok (.ifCond .ne 24, 3) := by decide +kernel
theorem dL_isOrder_113 : decode cL_isOrder 113 = .ok (.iload 8, 2) := by decide +kernel
theorem dL_isOrder_115 : decode cL_isOrder 115 = .ok (.ifCond .gt 15, 3) := by decide +kernel
theorem dL_isOrder_118 : decode cL_isOrder 118 = .ok (.iload 8, 2) := by decide +kernel
theorem dL_isOrder_120 : decode cL_isOrder 120 = .ok (.ifCond .ne 14, 3) := by decide +kernel
theorem dL_isOrder_123 : decode cL_isOrder 123 = .ok (.iload 6, 2) := by decide +kernel
theorem dL_isOrder_125 : decode cL_isOrder 125 = .ok (.iload 5, 2) := by decide +kernel
theorem dL_isOrder_127 : decode cL_isOrder 127 = .ok (.if_icmp .ge 7, 3) := by decide +kernel
theorem dL_isOrder_130 : decode cL_isOrder 130 = .ok (.iconst 1, 1) := by decide +kernel
theorem dL_isOrder_131 : decode cL_isOrder 131 = .ok (.goto 4, 3) := by decide +kernel
theorem dL_isOrder_134 : decode cL_isOrder 134 = .ok (.iconst 0, 1) := by decide +kernel
theorem dL_isOrder_135 : decode cL_isOrder 135 = .ok (.istore_n 3, 1) := by decide +kernel
theorem dL_isOrder_136 : decode cL_isOrder 136 = .ok (.iinc 4 1, 3) := by decide +kernel
theorem dL_isOrder_139 : decode cL_isOrder 139 = .ok (.goto (-112), 3) := by decide +kernel
theorem dL_isOrder_142 : decode cL_isOrder 142 = .ok (.iload_n 3, 1) := by decide +kernel
theorem dL_isOrder_143 : decode cL_isOrder 143 = .ok (.ifCond .eq 16, 3) := by decide +kernel
theorem dL_isOrder_146 : decode cL_isOrder 146 = .ok (.iload_n 2, 1) := by decide +kernel
theorem dL_isOrder_147 : decode cL_isOrder 147 = .ok (.iconst 1, 1) := by decide +kernel
theorem dL_isOrder_148 : decode cL_isOrder 148 = .ok (.iload_n 1, 1) := by decide +kernel
theorem dL_isOrder_149 : decode cL_isOrder 149 = .ok (.ishl, 1) := by decide +kernel
theorem dL_isOrder_150 : decode cL_isOrder 150 = .ok (.iconst 1, 1) := by decide +kernel
theorem dL_isOrder_151 : decode cL_isOrder 151 = .ok (.isub, 1) := by decide +kernel
theorem dL_isOrder_152 : decode cL_isOrder 152 = .ok (.if_icmp .ne 7, 3) := by decide +kernel
theorem dL_isOrder_155 : decode cL_isOrder 155 = .ok (.iconst 1, 1) := by decide +kernel
theorem dL_isOrder_156 : decode cL_isOrder 156 = .ok (.goto 4, 3) := by decide +kernel
theorem dL_isOrder_159 : decode cL_isOrder 159 = .ok (.iconst 0, 1) := by decide +kernel
theorem dL_isOrder_160 : decode cL_isOrder 160 = .ok (.ireturn, 1) := by decide +kernel
set_option maxRecDepth 20000 in
theorem ggL_isPair_X7_common : GoodIn wsL_isPair wsX7_common := goodIn_ca (goodIn_r _ [5, 6, 7, 8, 9, 10, 11, 12, 13, 14, 15, 16, 17, 18, 19, 20, 21, 22, 23, 24, 25, 26, 27, 28, 29, 30, 31, 32, 33, 34, 35, 36, 37, 38, 39, 40, 41, 42, 4, 43, 44, 45, 46, 47, 48, 49, 50, 51, 52, 53, 54, 55, 56, 57, 58, 59, 60, 61, 62, 63, 64, 65, 66, 67, 68, 69, 70, 71, 72, 73, 74, 75, 76, 77, 297, 298, 299, 300, 301, 302, 303, 304, 305, 306, 307, 308, 309, 310, 311, 312, 313, 314, 315, 316, 317, 318] (by decide +kernel) (by decide +kernel)) (goodIn_sub (fun _ h => List.mem_cons_of_mem _ (List.mem_append_left _ (List.mem_append_left _ (List.mem_append_right _ h)))) (by decide +kernel))
set_option maxRecDepth 20000 in
theorem gL_isPair_X7_common : GoodIn wsL_isPair (wsV RL 89 RX7 yX7_common wsX7_common) := goodIn_app (goodIn_of _ (by decide +kernel)) ggL_isPair_X7_common
set_option maxRecDepth 20000 in
theorem ggL_isPair_X7_meet : GoodIn wsL_isPair wsX7_meet := goodIn_ca (goodIn_r _ [81, 6, 7, 8, 11, 12, 13, 14, 15, 16, 17, 82, 83, 84, 39, 85, 62, 41, 86, 4, 87, 88, 42, 43, 89, 44, 45, 90, 47, 48, 49, 50, 51, 52, 53, 54, 55, 56, 57, 297, 298, 299, 300, 301, 302, 303, 304, 305, 306, 307, 308, 309, 310, 315, 316, 317, 318] (by decide +kernel) (by decide +kernel)) (goodIn_sub (fun _ h => List.mem_cons_of_mem _ (List.mem_append_left _ (List.mem_append_left _ (List.mem_append_right _ h)))) (by decide +kernel))
set_option maxRecDepth 20000 in
theorem gL_isPair_X7_meet : GoodIn wsL_isPair (wsV RL 92 RX7 yX7_meet wsX7_meet) := goodIn_app (goodIn_of _ (by decide +kernel)) ggL_isPair_X7_meet
set_option maxRecDepth 20000 in
theorem ggL_isPair_X7_turned : GoodIn wsL_isPair wsX7_turned := goodIn_ca (goodIn_r _ [94, 6, 7, 8, 9, 10, 11, 12, 13, 14, 15, 16, 17, 95, 96, 97, 21, 98, 24, 99, 100, 23, 25, 26, 27, 28, 29, 30, 31, 32, 33, 34, 35, 36, 37, 38, 39, 40, 41, 42, 4, 43, 44, 45, 46, 47, 48, 49, 50, 51, 52, 53, 54, 55, 56, 57, 58, 59, 60, 61, 62, 63, 64, 65, 66, 101, 102, 103, 104, 105, 106, 107, 108, 109, 110, 111, 112, 113, 114, 115, 116, 117, 297, 298, 299, 300, 301, 302, 303, 304, 305, 306, 307, 308, 309, 310, 311, 312, 313, 315, 316, 317, 318, 314] (by decide +kernel) (by decide +kernel)) (goodIn_sub (fun _ h => List.mem_cons_of_mem _ (List.mem_append_left _ (List.mem_append_left _ (List.mem_append_right _ h)))) (by decide +kernel))
set_option maxRecDepth 20000 in
theorem gL_isPair_X7_turned : GoodIn wsL_isPair (wsV RL 95 RX7 yX7_turned wsX7_turned) := goodIn_app (goodIn_of _ (by decide +kernel)) ggL_isPair_X7_turned
set_option maxRecDepth 20000 in
theorem ggL_isPair_X7_about : GoodIn wsL_isPair wsX7_about := goodIn_ca (goodIn_r _ [121, 122, 123, 8, 10, 124, 125, 9, 126, 127, 128, 21, 129, 23, 130, 131, 25, 26, 27, 28, 29, 30, 132, 12, 13, 14, 15, 16, 17, 31, 32, 33, 34, 35, 36, 37, 38, 39, 40, 41, 42, 4, 43, 44, 45, 46, 47, 48, 49, 50, 51, 52, 53, 54, 55, 56, 57, 58, 59, 60, 61, 62, 63, 64, 65, 66, 133, 134, 135, 136, 71, 72, 73, 74, 75, 76, 77, 137, 138, 139, 140, 141, 142, 143, 144, 145, 146, 147, 148, 90, 149, 150, 151, 152, 153, 154, 155, 156, 157, 158, 159, 160, 161, 162, 163, 164, 165, 166, 167, 168, 169, 170, 171, 172, 173, 174, 175, 176, 177, 178, 179, 180, 181, 182, 183, 184, 185, 186, 187, 297, 298, 299, 300, 301, 302, 303, 304, 305, 306, 307, 308, 309, 310, 311, 312, 313, 314, 315, 316, 317, 318] (by decide +kernel) (by decide +kernel)) (goodIn_sub (fun _ h => List.mem_cons_of_mem _ (List.mem_append_left _ (List.mem_append_right _ h))) (by decide +kernel))
set_option maxRecDepth 20000 in
theorem gL_isPair_X7_about : GoodIn wsL_isPair (wsV RL 17 RX7 yX7_about wsX7_about) := goodIn_app (goodIn_of _ (by decide +kernel)) ggL_isPair_X7_about
set_option maxRecDepth 20000 in
theorem ggL_isPair_X7_layer : GoodIn wsL_isPair wsX7_layer := goodIn_ca (goodIn_ca (goodIn_r _ [191, 6, 7, 122, 123, 8, 192, 193, 194, 195, 10, 9, 11, 12, 13, 14, 15, 16, 17, 196, 197, 198, 39, 199, 184, 185, 186, 187, 41, 42, 4, 43, 44, 45, 200, 201, 37, 38, 40, 202, 203, 204, 21, 205, 23, 25, 26, 27, 28, 29, 30, 31, 32, 33, 34, 35, 36, 46, 47, 48, 49, 50, 51, 52, 53, 54, 55, 56, 57, 58, 59, 60, 61, 62, 63, 64, 65, 66, 133, 134, 135, 136, 71, 72, 73, 74, 75, 76, 77, 206, 143, 144, 145, 146, 147, 148, 90, 207, 154, 155, 156, 157, 158, 159, 297, 298, 299, 300, 301, 302, 303, 304, 315, 316, 317, 318, 305, 306, 307, 308, 309, 310, 311, 312, 313, 314] (by decide +kernel) (by decide +kernel)) (goodIn_sub (fun _ h => List.mem_cons_of_mem _ (List.mem_append_left _ (List.mem_append_left _ (List.mem_append_right _ h)))) (by decide +kernel))) (goodIn_sub (fun _ h => List.mem_cons_of_mem _ (List.mem_append_left _ (List.mem_append_right _ h))) (by decide +kernel))
set_option maxRecDepth 20000 in
theorem gL_isPair_X7_layer : GoodIn wsL_isPair (wsV RL 58 RX7 yX7_layer wsX7_layer) := goodIn_app (goodIn_of _ (by decide +kernel)) ggL_isPair_X7_layer
set_option maxRecDepth 20000 in
theorem ggL_isPair_X7_pen : GoodIn wsL_isPair wsX7_pen := goodIn_ca (goodIn_ca (goodIn_r _ [211, 6, 7, 122, 123, 8, 10, 11, 12, 13, 14, 15, 16, 17, 212, 59, 60, 39, 61, 62, 56, 4, 57, 213, 47, 48, 49, 41, 50, 51, 52, 53, 54, 55, 44, 45, 297, 298, 299, 300, 301, 302, 303, 304, 305, 306, 307, 308, 309, 310, 315, 316, 317, 318] (by decide +kernel) (by decide +kernel)) (goodIn_sub (fun _ h => List.mem_cons_of_mem _ (List.mem_append_left _ (List.mem_append_left _ (List.mem_append_right _ h)))) (by decide +kernel))) (goodIn_sub (fun _ h => List.mem_cons_of_mem _ (List.mem_append_left _ (List.mem_append_right _ h))) (by decide +kernel))
set_option maxRecDepth 20000 in
theorem gL_isPair_X7_pen : GoodIn wsL_isPair (wsV RL 40 RX7 yX7_pen wsX7_pen) := goodIn_app (goodIn_of _ (by decide +kernel)) ggL_isPair_X7_pen
set_option maxRecDepth 20000 in
theorem ggL_isPair_X7_change : GoodIn wsL_isPair wsX7_change := goodIn_ca (goodIn_ca (goodIn_r _ [217, 6, 7, 122, 123, 8, 218, 11, 12, 13, 14, 15, 16, 17, 219, 220, 221, 222, 223, 4, 224, 225, 226, 227, 228, 229, 230, 231, 232, 169, 233, 234, 235, 236, 237, 238, 239, 240, 241, 242, 243, 244, 245, 246, 247, 248, 249, 250, 251, 252, 168, 253, 254, 255, 256, 141, 257, 258, 259, 260, 261, 262, 263, 264, 265, 106, 107, 39, 108, 41, 50, 51, 62, 170, 171, 172, 173, 174, 175, 176, 177, 178, 179, 266, 267, 268, 269, 270, 271, 272, 273, 274, 275, 276, 277, 297, 298, 299, 300, 301, 302, 303, 304, 305, 306, 307, 308, 309, 310, 319, 320, 321, 315, 316, 317, 318] (by decide +kernel) (by decide +kernel)) (goodIn_sub (fun _ h => List.mem_cons_of_mem _ (List.mem_append_left _ (List.mem_append_left _ (List.mem_append_right _ h)))) (by decide +kernel))) (goodIn_sub (fun _ h => List.mem_cons_of_mem _ (List.mem_append_left _ (List.mem_append_right _ h))) (by decide +kernel))
set_option maxRecDepth 20000 in
theorem gL_isPair_X7_change : GoodIn wsL_isPair (wsV RL 33 RX7 yX7_change wsX7_change) := goodIn_app (goodIn_of _ (by decide +kernel)) ggL_isPair_X7_change
set_option maxRecDepth 20000 in
theorem ggL_isPair_X7_undo : GoodIn wsL_isPair wsX7_undo := goodIn_ca (goodIn_r _ [281, 282, 283, 218, 284, 8, 285, 286, 287, 236, 288, 239, 238, 240, 241, 242, 243, 244, 245, 246, 247, 14, 248, 169, 16, 249, 250, 251, 252, 168, 253, 254, 255, 256, 141, 12, 13, 15, 17, 257, 258, 259, 260, 261, 262, 263, 264, 265, 106, 107, 39, 108, 41, 50, 51, 62, 170, 171, 172, 173, 174, 175, 176, 177, 178, 179, 266, 267, 268, 269, 270, 271, 272, 273, 297, 298, 299, 300, 301, 302, 303, 304, 319, 320, 321, 305, 306, 307, 308, 309, 310, 315, 316, 317, 318] (by decide +kernel) (by decide +kernel)) (goodIn_sub (fun _ h => List.mem_cons_of_mem _ (List.mem_append_right _ h)) (by decide +kernel))
set_option maxRecDepth 20000 in
theorem gL_isPair_X7_undo : GoodIn wsL_isPair (wsV RL 98 RX7 yX7_undo wsX7_undo) := goodIn_app (goodIn_of _ (by decide +kernel)) ggL_isPair_X7_undo
set_option maxRecDepth 20000 in
theorem ggL_isPair_X7_bestStart : GoodIn wsL_isPair wsX7_bestStart := goodIn_ca (goodIn_ca (goodIn_r _ [292, 6, 7, 122, 123, 8, 9, 10, 11, 12, 13, 14, 15, 16, 17, 293, 294, 295, 21, 296, 24, 99, 100, 23, 25, 26, 27, 28, 29, 30, 31, 32, 33, 34, 35, 36, 37, 38, 39, 40, 41, 42, 4, 43, 44, 45, 46, 47, 48, 49, 50, 51, 52, 53, 54, 55, 56, 57, 58, 59, 60, 61, 62, 63, 64, 65, 66, 101, 102, 103, 104, 105, 106, 107, 108, 109, 110, 111, 112, 67, 68, 69, 70, 71, 72, 73, 74, 75, 76, 77, 297, 298, 299, 300, 301, 302, 303, 304, 305, 306, 307, 308, 309, 310, 311, 312, 313, 315, 316, 317, 318, 314] (by decide +kernel) (by decide +kernel)) (goodIn_sub (fun _ h => List.mem_cons_of_mem _ (List.mem_append_left _ (List.mem_append_left _ (List.mem_append_right _ h)))) (by decide +kernel))) (goodIn_sub (fun _ h => List.mem_cons_of_mem _ (List.mem_append_left _ (List.mem_append_right _ h))) (by decide +kernel))
set_option maxRecDepth 20000 in
theorem gL_isPair_X7_bestStart : GoodIn wsL_isPair (wsV RL 101 RX7 yX7_bestStart wsX7_bestStart) := goodIn_app (goodIn_of _ (by decide +kernel)) ggL_isPair_X7_bestStart
theorem dL_isPair_0 : decode cL_isPair 0 = .ok (.aload_n 0, 1) := by decide +kernel
theorem dL_isPair_1 : decode cL_isPair 1 = .ok (.iload_n 1, 1) := by decide +kernel
theorem dL_isPair_2 : decode cL_isPair 2 = .ok (.iload_n 2, 1) := by decide +kernel
theorem dL_isPair_3 : decode cL_isPair 3 = .ok (.invokevirtual 89, 3) := by decide +kernel
theorem dL_isPair_6 : decode cL_isPair 6 = .ok (.istore_n 3, 1) := by decide +kernel
theorem dL_isPair_7 : decode cL_isPair 7 = .ok (.aload_n 0, 1) := by decide +kernel
theorem dL_isPair_8 : decode cL_isPair 8 = .ok (.iload_n 1, 1) := by decide +kernel
theorem dL_isPair_9 : decode cL_isPair 9 = .ok (.iload_n 2, 1) := by decide +kernel
theorem dL_isPair_10 : decode cL_isPair 10 = .ok (.invokevirtual 92, 3) := by decide +kernel
theorem dL_isPair_13 : decode cL_isPair 13 = .ok (.istore 4, 2) := by decide +kernel
theorem dL_isPair_15 : decode cL_isPair 15 = .ok (.aload_n 0, 1) := by decide +kernel
theorem dL_isPair_16 : decode cL_isPair 16 = .ok (.iload_n 1, 1) := by decide +kernel
theorem dL_isPair_17 : decode cL_isPair 17 = .ok (.iload_n 2, 1) := by decide +kernel
theorem dL_isPair_18 : decode cL_isPair 18 = .ok (.invokevirtual 95, 3) := by decide +kernel
theorem dL_isPair_21 : decode cL_isPair 21 = .ok (.istore 5, 2) := by decide +kernel
theorem dL_isPair_23 : decode cL_isPair 23 = .ok (.aload_n 0, 1) := by decide +kernel
theorem dL_isPair_24 : decode cL_isPair 24 = .ok (.iconst 0, 1) := by decide +kernel
theorem dL_isPair_25 : decode cL_isPair 25 = .ok (.invokevirtual 17, 3) := by decide +kernel
theorem dL_isPair_28 : decode cL_isPair 28 = .ok (.istore 6, 2) := by decide +kernel
theorem dL_isPair_30 : decode cL_isPair 30 = .ok (.iload_n 3, 1) := by decide +kernel
theorem dL_isPair_31 : decode cL_isPair 31 = .ok (.aload_n 0, 1) := by decide +kernel
theorem dL_isPair_32 : decode cL_isPair 32 = .ok (.iload_n 2, 1) := by decide +kernel
theorem dL_isPair_33 : decode cL_isPair 33 = .ok (.iload_n 1, 1) := by decide +kernel
theorem dL_isPair_34 : decode cL_isPair 34 = .ok (.invokevirtual 89, 3) := by decide +kernel
theorem dL_isPair_37 : decode cL_isPair 37 = .ok (.if_icmp .ne 43, 3) := by decide +kernel
theorem dL_isPair_40 : decode cL_isPair 40 = .ok (.iload_n 3, 1) := by decide +kernel
theorem dL_isPair_41 : decode cL_isPair 41 = .ok (.aload_n 0, 1) := by decide +kernel
theorem dL_isPair_42 : decode cL_isPair 42 = .ok (.iload_n 1, 1) := by decide +kernel
theorem dL_isPair_43 : decode cL_isPair 43 = .ok (.bipush 7, 2) := by decide +kernel
theorem dL_isPair_45 : decode cL_isPair 45 = .ok (.invokevirtual 58, 3) := by decide +kernel
theorem dL_isPair_48 : decode cL_isPair 48 = .ok (.if_icmp .gt 32, 3) := by decide +kernel
theorem dL_isPair_51 : decode cL_isPair 51 = .ok (.aload_n 0, 1) := by decide +kernel
theorem dL_isPair_52 : decode cL_isPair 52 = .ok (.iload_n 1, 1) := by decide +kernel
theorem dL_isPair_53 : decode cL_isPair 53 = .ok (.iload_n 1, 1) := by decide +kernel
theorem dL_isPair_54 : decode cL_isPair 54 = .ok (.invokevirtual 89, 3) := by decide +kernel
theorem dL_isPair_57 : decode cL_isPair 57 = .ok (.aload_n 0, 1) := by decide +kernel
theorem dL_isPair_58 : decode cL_isPair 58 = .ok (.iload_n 1, 1) := by decide +kernel
theorem dL_isPair_59 : decode cL_isPair 59 = .ok (.bipush 7, 2) := by decide +kernel
theorem dL_isPair_61 : decode cL_isPair 61 = .ok (.invokevirtual 58, 3) := by decide +kernel
theorem dL_isPair_64 : decode cL_isPair 64 = .ok (.if_icmp .ne 16, 3) := by decide +kernel
theorem dL_isPair_67 : decode cL_isPair 67 = .ok (.aload_n 0, 1) := by decide +kernel
theorem dL_isPair_68 : decode cL_isPair 68 = .ok (.iload_n 1, 1) := by decide +kernel
theorem dL_isPair_69 : decode cL_isPair 69 = .ok (.iload_n 1, 1) := by decide +kernel
theorem dL_isPair_70 : decode cL_isPair 70 = .ok (.invokevirtual 95, 3) := by decide +kernel
theorem dL_isPair_73 : decode cL_isPair 73 = .ok (.ifCond .ne 7, 3) := by decide +kernel
theorem dL_isPair_76 : decode cL_isPair 76 = .ok (.iconst 1, 1) := by decide +kernel
theorem dL_isPair_77 : decode cL_isPair 77 = .ok (.goto 4, 3) := by decide +kernel
theorem dL_isPair_80 : decode cL_isPair 80 = .ok (.iconst 0, 1) := by decide +kernel
theorem dL_isPair_81 : decode cL_isPair 81 = .ok (.istore 7, 2) := by decide +kernel
theorem dL_isPair_83 : decode cL_isPair 83 = .ok (.iload 7, 2) := by decide +kernel
theorem dL_isPair_85 : decode cL_isPair 85 = .ok (.ifCond .eq 45, 3) := by decide +kernel
theorem dL_isPair_88 : decode cL_isPair 88 = .ok (.iload 4, 2) := by decide +kernel
theorem dL_isPair_90 : decode cL_isPair 90 = .ok (.ifCond .ge 13, 3) := by decide +kernel
theorem dL_isPair_93 : decode cL_isPair 93 = .ok (.iload 4, 2) := by decide +kernel
theorem dL_isPair_95 : decode cL_isPair 95 = .ok (.bipush (-9), 2) := by decide +kernel
theorem dL_isPair_97 : decode cL_isPair 97 = .ok (.if_icmp .ne 33, 3) := by decide +kernel
theorem dL_isPair_100 : decode cL_isPair 100 = .ok (.goto 26, 3) := by decide +kernel
theorem dL_isPair_103 : decode cL_isPair 103 = .ok (.aload_n 0, 1) := by decide +kernel
theorem dL_isPair_104 : decode cL_isPair 104 = .ok (.iload_n 1, 1) := by decide +kernel
theorem dL_isPair_105 : decode cL_isPair 105 = .ok (.iload 4, 2) := by decide +kernel
theorem dL_isPair_107 : decode cL_isPair 107 = .ok (.i2l, 1) := by decide +kernel
theorem dL_isPair_108 : decode cL_isPair 108 = .ok (.invokevirtual 40, 3) := by decide +kernel
theorem dL_isPair_111 : decode cL_isPair 111 = .ok (.aload_n 0, 1) := by decide +kernel
theorem dL_isPair_112 : decode cL_isPair 112 = .ok (.iload_n 2, 1) := by decide +kernel
theorem dL_isPair_113 : decode cL_isPair 113 = .ok (.iload 4, 2) := by decide +kernel
theorem dL_isPair_115 : decode cL_isPair 115 = .ok (.i2l, 1) := by decide +kernel
theorem dL_isPair_116 : decode cL_isPair 116 = .ok (.invokevirtual 40, 3) := by decide +kernel
theorem dL_isPair_119 : decode cL_isPair 119 = .ok (.if_icmp .ne 11, 3) := by decide +kernel
theorem dL_isPair_122 : decode cL_isPair 122 = .ok (.iload_n 3, 1) := by decide +kernel
theorem dL_isPair_123 : decode cL_isPair 123 = .ok (.ifCond .le 7, 3) := by decide +kernel
theorem dL_isPair_126 : decode cL_isPair 126 = .ok (.iconst 1, 1) := by decide +kernel
theorem dL_isPair_127 : decode cL_isPair 127 = .ok (.goto 4, 3) := by decide +kernel
theorem dL_isPair_130 : decode cL_isPair 130 = .ok (.iconst 0, 1) := by decide +kernel
theorem dL_isPair_131 : decode cL_isPair 131 = .ok (.istore 7, 2) := by decide +kernel
theorem dL_isPair_133 : decode cL_isPair 133 = .ok (.aload_n 0, 1) := by decide +kernel
theorem dL_isPair_134 : decode cL_isPair 134 = .ok (.iload_n 1, 1) := by decide +kernel
theorem dL_isPair_135 : decode cL_isPair 135 = .ok (.iconst 3, 1) := by decide +kernel
theorem dL_isPair_136 : decode cL_isPair 136 = .ok (.invokevirtual 58, 3) := by decide +kernel
theorem dL_isPair_139 : decode cL_isPair 139 = .ok (.istore 8, 2) := by decide +kernel
theorem dL_isPair_141 : decode cL_isPair 141 = .ok (.iload 5, 2) := by decide +kernel
theorem dL_isPair_143 : decode cL_isPair 143 = .ok (.ifCond .lt 86, 3) := by decide +kernel
theorem dL_isPair_146 : decode cL_isPair 146 = .ok (.iload_n 1, 1) := by decide +kernel
theorem dL_isPair_147 : decode cL_isPair 147 = .ok (.iload_n 2, 1) := by decide +kernel
theorem dL_isPair_148 : decode cL_isPair 148 = .ok (.if_icmp .eq 81, 3) := by decide +kernel
theorem dL_isPair_151 : decode cL_isPair 151 = .ok (.iload 7, 2) := by decide +kernel
theorem dL_isPair_153 : decode cL_isPair 153 = .ok (.ifCond .eq 67, 3) := by decide +kernel
theorem dL_isPair_156 : decode cL_isPair 156 = .ok (.aload_n 0, 1) := by decide +kernel
theorem dL_isPair_157 : decode cL_isPair 157 = .ok (.iload_n 1, 1) := by decide +kernel
theorem dL_isPair_158 : decode cL_isPair 158 = .ok (.iconst 3, 1) := by decide +kernel
theorem dL_isPair_159 : decode cL_isPair 159 = .ok (.iload 8, 2) := by decide +kernel
theorem dL_isPair_161 : decode cL_isPair 161 = .ok (.iload 5, 2) := by decide +kernel
theorem dL_isPair_163 : decode cL_isPair 163 = .ok (.iadd, 1) := by decide +kernel
theorem dL_isPair_164 : decode cL_isPair 164 = .ok (.iload 6, 2) := by decide +kernel
theorem dL_isPair_166 : decode cL_isPair 166 = .ok (.irem, 1) := by decide +kernel
theorem dL_isPair_167 : decode cL_isPair 167 = .ok (.invokevirtual 33, 3) := by decide +kernel
theorem dL_isPair_170 : decode cL_isPair 170 = .ok (.iload 8, 2) := by decide +kernel
theorem dL_isPair_172 : decode cL_isPair 172 = .ok (.if_icmp .ne 48, 3) := by decide +kernel
theorem dL_isPair_175 : decode cL_isPair 175 = .ok (.aload_n 0, 1) := by decide +kernel
theorem dL_isPair_176 : decode cL_isPair 176 = .ok (.iload_n 1, 1) := by decide +kernel
theorem dL_isPair_177 : decode cL_isPair 177 = .ok (.iload_n 2, 1) := by decide +kernel
theorem dL_isPair_178 : decode cL_isPair 178 = .ok (.invokevirtual 89, 3) := by decide +kernel
theorem dL_isPair_181 : decode cL_isPair 181 = .ok (.aload_n 0, 1) := by decide +kernel
theorem dL_isPair_182 : decode cL_isPair 182 = .ok (.iload_n 1, 1) := by decide +kernel
theorem dL_isPair_183 : decode cL_isPair 183 = .ok (.bipush 7, 2) := by decide +kernel
theorem dL_isPair_185 : decode cL_isPair 185 = .ok (.invokevirtual 58, 3) := by decide +kernel
theorem dL_isPair_188 : decode cL_isPair 188 = .ok (.if_icmp .ne 32, 3) := by decide +kernel
theorem dL_isPair_191 : decode cL_isPair 191 = .ok (.aload_n 0, 1) := by decide +kernel
theorem dL_isPair_192 : decode cL_isPair 192 = .ok (.iload_n 1, 1) := by decide +kernel
theorem dL_isPair_193 : decode cL_isPair 193 = .ok (.iload_n 2, 1) := by decide +kernel
theorem dL_isPair_194 : decode cL_isPair 194 = .ok (.invokevirtual 89, 3) := by decide +kernel
theorem dL_isPair_197 : decode cL_isPair 197 = .ok (.aload_n 0, 1) := by decide +kernel
theorem dL_isPair_198 : decode cL_isPair 198 = .ok (.iload_n 2, 1) := by decide +kernel
theorem dL_isPair_199 : decode cL_isPair 199 = .ok (.bipush 7, 2) := by decide +kernel
theorem dL_isPair_201 : decode cL_isPair 201 = .ok (.invokevirtual 58, 3) := by decide +kernel
theorem dL_isPair_204 : decode cL_isPair 204 = .ok (.if_icmp .ne 16, 3) := by decide +kernel
theorem dL_isPair_207 : decode cL_isPair 207 = .ok (.aload_n 0, 1) := by decide +kernel
theorem dL_isPair_208 : decode cL_isPair 208 = .ok (.iload_n 1, 1) := by decide +kernel
theorem dL_isPair_209 : decode cL_isPair 209 = .ok (.iload_n 2, 1) := by decide +kernel
theorem dL_isPair_210 : decode cL_isPair 210 = .ok (.invokevirtual 95, 3) := by decide +kernel
theorem dL_isPair_213 : decode cL_isPair 213 = .ok (.ifCond .ne 7, 3) := by decide +kernel
theorem dL_isPair_216 : decode cL_isPair 216 = .ok (.iconst 1, 1) := by decide +kernel
theorem dL_isPair_217 : decode cL_isPair 217 = .ok (.goto 4, 3) := by decide +kernel
theorem dL_isPair_220 : decode cL_isPair 220 = .ok (.iconst 0, 1) := by decide +kernel
theorem dL_isPair_221 : decode cL_isPair 221 = .ok (.istore 7, 2) := by decide +kernel
theorem dL_isPair_223 : decode cL_isPair 223 = .ok (.aload_n 0, 1) := by decide +kernel
theorem dL_isPair_224 : decode cL_isPair 224 = .ok (.invokevirtual 98, 3) := by decide +kernel
theorem dL_isPair_227 : decode cL_isPair 227 = .ok (.istore 9, 2) := by decide +kernel
theorem dL_isPair_229 : decode cL_isPair 229 = .ok (.iload_n 1, 1) := by decide +kernel
theorem dL_isPair_230 : decode cL_isPair 230 = .ok (.iload_n 2, 1) := by decide +kernel
theorem dL_isPair_231 : decode cL_isPair 231 = .ok (.if_icmp .eq 52, 3) := by decide +kernel
theorem dL_isPair_234 : decode cL_isPair 234 = .ok (.aload_n 0, 1) := by decide +kernel
theorem dL_isPair_235 : decode cL_isPair 235 = .ok (.iload_n 1, 1) := by decide +kernel
theorem dL_isPair_236 : decode cL_isPair 236 = .ok (.iload_n 2, 1) := by decide +kernel
theorem dL_isPair_237 : decode cL_isPair 237 = .ok (.invokevirtual 101, 3) := by decide +kernel
theorem dL_isPair_240 : decode cL_isPair 240 = .ok (.istore 9, 2) := by decide +kernel
theorem dL_isPair_242 : decode cL_isPair 242 = .ok (.iload 7, 2) := by decide +kernel
theorem dL_isPair_244 : decode cL_isPair 244 = .ok (.ifCond .eq 30, 3) := by decide +kernel
theorem dL_isPair_247 : decode cL_isPair 247 = .ok (.aload_n 0, 1) := by decide +kernel
theorem dL_isPair_248 : decode cL_isPair 248 = .ok (.iload_n 1, 1) := by decide +kernel
theorem dL_isPair_249 : decode cL_isPair 249 = .ok (.iconst 3, 1) := by decide +kernel
theorem dL_isPair_250 : decode cL_isPair 250 = .ok (.iload 9, 2) := by decide +kernel
theorem dL_isPair_252 : decode cL_isPair 252 = .ok (.invokevirtual 33, 3) := by decide +kernel
theorem dL_isPair_255 : decode cL_isPair 255 = .ok (.iload 8, 2) := by decide +kernel
theorem dL_isPair_257 : decode cL_isPair 257 = .ok (.if_icmp .ne 17, 3) := by decide +kernel
theorem dL_isPair_260 : decode cL_isPair 260 = .ok (.aload_n 0, 1) := by decide +kernel
theorem dL_isPair_261 : decode cL_isPair 261 = .ok (.iload_n 1, 1) := by decide +kernel
theorem dL_isPair_262 : decode cL_isPair 262 = .ok (.iload_n 2, 1) := by decide +kernel
theorem dL_isPair_263 : decode cL_isPair 263 = .ok (.invokevirtual 89, 3) := by decide +kernel
theorem dL_isPair_266 : decode cL_isPair 266 = .ok (.iload_n 3, 1) := by decide +kernel
theorem dL_isPair_267 : decode cL_isPair 267 = .ok (.if_icmp .lt 7, 3) := by decide +kernel
theorem dL_isPair_270 : decode cL_isPair 270 = .ok (.iconst 1, 1) := by decide +kernel
theorem dL_isPair_271 : decode cL_isPair 271 = .ok (.goto 4, 3) := by decide +kernel
theorem dL_isPair_274 : decode cL_isPair 274 = .ok (.iconst 0, 1) := by decide +kernel
theorem dL_isPair_275 : decode cL_isPair 275 = .ok (.istore 7, 2) := by decide +kernel
theorem dL_isPair_277 : decode cL_isPair 277 = .ok (.aload_n 0, 1) := by decide +kernel
theorem dL_isPair_278 : decode cL_isPair 278 = .ok (.invokevirtual 98, 3) := by decide +kernel
theorem dL_isPair_281 : decode cL_isPair 281 = .ok (.istore 10, 2) := by decide +kernel
theorem dL_isPair_283 : decode cL_isPair 283 = .ok (.iload 7, 2) := by decide +kernel
theorem dL_isPair_285 : decode cL_isPair 285 = .ok (.ifCond .eq 28, 3) := by decide +kernel
theorem dL_isPair_288 : decode cL_isPair 288 = .ok (.aload_n 0, 1) := by decide +kernel
theorem dL_isPair_289 : decode cL_isPair 289 = .ok (.iload_n 1, 1) := by decide +kernel
theorem dL_isPair_290 : decode cL_isPair 290 = .ok (.iconst 3, 1) := by decide +kernel
theorem dL_isPair_291 : decode cL_isPair 291 = .ok (.invokevirtual 58, 3) := by decide +kernel
theorem dL_isPair_294 : decode cL_isPair 294 = .ok (.iload 8, 2) := by decide +kernel
theorem dL_isPair_296 : decode cL_isPair 296 = .ok (.if_icmp .ne 17, 3) := by decide +kernel
theorem dL_isPair_299 : decode cL_isPair 299 = .ok (.aload_n 0, 1) := by decide +kernel
theorem dL_isPair_300 : decode cL_isPair 300 = .ok (.iload_n 1, 1) := by decide +kernel
theorem dL_isPair_301 : decode cL_isPair 301 = .ok (.iload_n 2, 1) := by decide +kernel
theorem dL_isPair_302 : decode cL_isPair 302 = .ok (.invokevirtual 89, 3) := by decide +kernel
theorem dL_isPair_305 : decode cL_isPair 305 = .ok (.iload_n 3, 1) := by decide +kernel
theorem dL_isPair_306 : decode cL_isPair 306 = .ok (.if_icmp .ne 7, 3) := by decide +kernel
theorem dL_isPair_309 : decode cL_isPair 309 = .ok (.iconst 1, 1) := by decide +kernel
theorem dL_isPair_310 : decode cL_isPair 310 = .ok (.goto 4, 3) := by decide +kernel
theorem dL_isPair_313 : decode cL_isPair 313 = .ok (.iconst 0, 1) := by decide +kernel
theorem dL_isPair_314 : decode cL_isPair 314 = .ok (.ireturn, 1) := by decide +kernel
set_option maxRecDepth 20000 in
theorem ggL_areAlike_X7_together : GoodIn wsL_areAlike wsX7_together := goodIn_r _ [5, 6, 7, 8, 9, 10, 11, 12, 13, 14, 15, 16, 17, 18, 19, 20, 21, 22, 23, 24, 25, 26, 4, 27, 28, 29, 30, 31, 32, 33, 34, 188, 189, 190, 191, 192, 193, 194, 195, 196, 197, 198, 199, 200, 201, 202, 203, 204, 205] (by decide +kernel) (by decide +kernel)
set_option maxRecDepth 20000 in
theorem gL_areAlike_X7_together : GoodIn wsL_areAlike (wsV RL 72 RX7 yX7_together wsX7_together) := goodIn_app (goodIn_of _ (by decide +kernel)) ggL_areAlike_X7_together
set_option maxRecDepth 20000 in
theorem ggL_areAlike_X7_blank : GoodIn wsL_areAlike wsX7_blank := goodIn_r _ [38, 6, 7, 39, 40, 41, 42, 43, 44, 45, 46, 47, 48, 49, 50, 51, 52, 53, 54, 10, 11, 12, 13, 14, 15, 55, 56, 57, 58, 59, 60, 61, 62, 19, 63, 25, 26, 4, 27, 28, 29, 64, 65, 66, 67, 68, 69, 70, 71, 72, 73, 74, 75, 76, 77, 78, 79, 80, 81, 82, 83, 84, 85, 86, 87, 88, 89, 90, 91, 92, 93, 94, 95, 96, 97, 98, 99, 100, 101, 102, 188, 189, 190, 191, 192, 193, 194, 195, 196, 197, 198, 199, 200, 201, 206, 207, 208, 209, 202, 203, 204, 205] (by decide +kernel) (by decide +kernel)
set_option maxRecDepth 20000 in
theorem gL_areAlike_X7_blank : GoodIn wsL_areAlike (wsV RL 76 RX7 yX7_blank wsX7_blank) := goodIn_app (goodIn_of _ (by decide +kernel)) ggL_areAlike_X7_blank
set_option maxRecDepth 20000 in
theorem ggL_areAlike_X7_about : GoodIn wsL_areAlike wsX7_about := goodIn_ca (goodIn_r _ [106, 107, 108, 6, 8, 7, 109, 39, 40, 41, 42, 43, 44, 45, 46, 47, 48, 49, 50, 51, 52, 53, 54, 10, 11, 12, 13, 14, 15, 55, 56, 57, 58, 59, 60, 61, 62, 19, 63, 25, 26, 4, 27, 28, 29, 64, 65, 66, 67, 68, 69, 70, 71, 72, 73, 74, 75, 76, 77, 78, 79, 80, 81, 82, 83, 84, 110, 111, 112, 113, 96, 97, 98, 99, 100, 101, 102, 114, 115, 116, 117, 118, 119, 120, 121, 122, 123, 124, 125, 126, 127, 128, 129, 130, 131, 132, 133, 134, 135, 90, 91, 136, 137, 138, 139, 140, 141, 142, 143, 144, 145, 146, 147, 148, 149, 150, 151, 152, 153, 154, 155, 156, 157, 158, 159, 21, 22, 23, 24, 188, 189, 190, 191, 192, 193, 194, 195, 196, 197, 198, 199, 200, 201, 206, 207, 208, 209, 202, 203, 204, 205] (by decide +kernel) (by decide +kernel)) (goodIn_sub (fun _ h => List.mem_cons_of_mem _ (List.mem_append_left _ (List.mem_append_right _ h))) (by decide +kernel))
set_option maxRecDepth 20000 in
theorem gL_areAlike_X7_about : GoodIn wsL_areAlike (wsV RL 17 RX7 yX7_about wsX7_about) := goodIn_app (goodIn_of _ (by decide +kernel)) ggL_areAlike_X7_about
set_option maxRecDepth 20000 in
theorem ggL_areAlike_X7_layer : GoodIn wsL_areAlike wsX7_layer := goodIn_ca (goodIn_ca (goodIn_r _ [163, 164, 165, 107, 108, 6, 166, 167, 168, 169, 8, 39, 9, 10, 11, 12, 13, 14, 15, 16, 17, 18, 19, 20, 21, 22, 23, 24, 25, 26, 4, 27, 28, 29, 170, 171, 61, 62, 63, 172, 173, 174, 43, 175, 45, 48, 49, 50, 51, 52, 53, 55, 56, 57, 58, 59, 60, 64, 65, 66, 67, 68, 69, 70, 71, 72, 73, 74, 75, 76, 77, 78, 79, 80, 81, 82, 83, 84, 110, 111, 112, 113, 96, 97, 98, 99, 100, 101, 102, 176, 120, 121, 122, 123, 124, 125, 126, 177, 132, 133, 134, 135, 90, 91, 188, 189, 190, 191, 192, 193, 194, 195, 202, 203, 204, 205, 196, 197, 198, 199, 200, 201, 206, 207, 208, 209] (by decide +kernel) (by decide +kernel)) (goodIn_sub (fun _ h => List.mem_cons_of_mem _ (List.mem_append_right _ h)) (by decide +kernel))) (goodIn_sub (fun _ h => List.mem_cons_of_mem _ (List.mem_append_left _ (List.mem_append_right _ h))) (by decide +kernel))
set_option maxRecDepth 20000 in
theorem gL_areAlike_X7_layer : GoodIn wsL_areAlike (wsV RL 58 RX7 yX7_layer wsX7_layer) := goodIn_app (goodIn_of _ (by decide +kernel)) ggL_areAlike_X7_layer
set_option maxRecDepth 20000 in
theorem ggL_areAlike_X7_sighting : GoodIn wsL_areAlike wsX7_sighting := goodIn_ca (goodIn_ca (goodIn_r _ [181, 164, 165, 107, 108, 6, 109, 182, 147, 148, 12, 149, 150, 183, 152, 153, 154, 155, 184, 185, 186, 187, 14, 145, 118, 10, 11, 13, 15, 156, 157, 158, 19, 159, 80, 74, 4, 75, 21, 22, 23, 24, 25, 26, 27, 28, 29, 126, 65, 66, 67, 68, 69, 70, 71, 72, 73, 188, 189, 190, 191, 192, 193, 194, 195, 196, 197, 198, 199, 200, 201, 202, 203, 204, 205] (by decide +kernel) (by decide +kernel)) (goodIn_sub (fun _ h => List.mem_cons_of_mem _ (List.mem_append_right _ h)) (by decide +kernel))) (goodIn_sub (fun _ h => List.mem_cons_of_mem _ (List.mem_append_left _ (List.mem_append_right _ h))) (by decide +kernel))
set_option maxRecDepth 20000 in
theorem gL_areAlike_X7_sighting : GoodIn wsL_areAlike (wsV RL 83 RX7 yX7_sighting wsX7_sighting) := goodIn_app (goodIn_of _ (by decide +kernel)) ggL_areAlike_X7_sighting
theorem dL_areAlike_0 : decode cL_areAlike 0 = .ok (.aload_n 0, 1) := by decide +kernel
theorem dL_areAlike_1 : decode cL_areAlike 1 = .ok (.invokevirtual 72, 3) := by decide +kernel
theorem dL_areAlike_4 : decode cL_areAlike 4 = .ok (.aload_n 1, 1) := by decide +kernel
theorem dL_areAlike_5 : decode cL_areAlike 5 = .ok (.invokevirtual 72, 3) := by decide +kernel
theorem dL_areAlike_8 : decode cL_areAlike 8 = .ok (.lcmp, 1) := by decide +kernel
theorem dL_areAlike_9 : decode cL_areAlike 9 = .ok (.ifCond .ne 18, 3) := by decide +kernel
theorem dL_areAlike_12 : decode cL_areAlike 12 = .ok (.aload_n 0, 1) := by decide +kernel
theorem dL_areAlike_13 : decode cL_areAlike 13 = .ok (.invokevirtual 76, 3) := by decide +kernel
theorem dL_areAlike_16 : decode cL_areAlike 16 = .ok (.aload_n 1, 1) := by decide +kernel
theorem dL_areAlike_17 : decode cL_areAlike 17 = .ok (.invokevirtual 76, 3) := by decide +kernel
theorem dL_areAlike_20 : decode cL_areAlike 20 = .ok (.if_icmp .ne 7, 3) := by decide +kernel
theorem dL_areAlike_23 : decode cL_areAlike 23 = .ok (.iconst 1, 1) := by decide +kernel
theorem dL_areAlike_24 : decode cL_areAlike 24 = .ok (.goto 4, 3) := by decide +kernel
theorem dL_areAlike_27 : decode cL_areAlike 27 = .ok (.iconst 0, 1) := by decide +kernel
theorem dL_areAlike_28 : decode cL_areAlike 28 = .ok (.istore_n 2, 1) := by decide +kernel
theorem dL_areAlike_29 : decode cL_areAlike 29 = .ok (.iconst 0, 1) := by decide +kernel
theorem dL_areAlike_30 : decode cL_areAlike 30 = .ok (.istore_n 3, 1) := by decide +kernel
theorem dL_areAlike_31 : decode cL_areAlike 31 = .ok (.iload_n 3, 1) := by decide +kernel
theorem dL_areAlike_32 : decode cL_areAlike 32 = .ok (.bipush 7, 2) := by decide +kernel
theorem dL_areAlike_34 : decode cL_areAlike 34 = .ok (.if_icmp .ge 32, 3) := by decide +kernel
theorem dL_areAlike_37 : decode cL_areAlike 37 = .ok (.iload_n 2, 1) := by decide +kernel
theorem dL_areAlike_38 : decode cL_areAlike 38 = .ok (.ifCond .eq 20, 3) := by decide +kernel
theorem dL_areAlike_41 : decode cL_areAlike 41 = .ok (.aload_n 0, 1) := by decide +kernel
theorem dL_areAlike_42 : decode cL_areAlike 42 = .ok (.iload_n 3, 1) := by decide +kernel
theorem dL_areAlike_43 : decode cL_areAlike 43 = .ok (.invokevirtual 17, 3) := by decide +kernel
theorem dL_areAlike_46 : decode cL_areAlike 46 = .ok (.aload_n 1, 1) := by decide +kernel
theorem dL_areAlike_47 : decode cL_areAlike 47 = .ok (.iload_n 3, 1) := by decide +kernel
theorem dL_areAlike_48 : decode cL_areAlike 48 = .ok (.invokevirtual 17, 3) := by decide +kernel
theorem dL_areAlike_51 : decode cL_areAlike 51 = .ok (.if_icmp .ne 7, 3) := by decide +kernel
theorem dL_areAlike_54 : decode cL_areAlike 54 = .ok (.iconst 1, 1) := by decide +kernel
theorem dL_areAlike_55 : decode cL_areAlike 55 = .ok (.goto 4, 3) := by decide +kernel
theorem dL_areAlike_58 : decode cL_areAlike 58 = .ok (.iconst 0, 1) := by decide +kernel
theorem dL_areAlike_59 : decode cL_areAlike 59 = .ok (.istore_n 2, 1) := by decide +kernel
theorem dL_areAlike_60 : decode cL_areAlike 60 = .ok (.iinc 3 1, 3) := by decide +kernel
theorem dL_areAlike_63 : decode cL_areAlike 63 = .ok (.goto (-32), 3) := by decide +kernel
theorem dL_areAlike_66 : decode cL_areAlike 66 = .ok (.iconst 0, 1) := by decide +kernel
theorem dL_areAlike_67 : decode cL_areAlike 67 = .ok (.istore_n 3, 1) := by decide +kernel
theorem dL_areAlike_68 : decode cL_areAlike 68 = .ok (.iload_n 3, 1) := by decide +kernel
theorem dL_areAlike_69 : decode cL_areAlike 69 = .ok (.aload_n 0, 1) := by decide +kernel
theorem dL_areAlike_70 : decode cL_areAlike 70 = .ok (.iconst 1, 1) := by decide +kernel
theorem dL_areAlike_71 : decode cL_areAlike 71 = .ok (.invokevirtual 17, 3) := by decide +kernel
theorem dL_areAlike_74 : decode cL_areAlike 74 = .ok (.if_icmp .ge 52, 3) := by decide +kernel
theorem dL_areAlike_77 : decode cL_areAlike 77 = .ok (.iconst 0, 1) := by decide +kernel
theorem dL_areAlike_78 : decode cL_areAlike 78 = .ok (.istore 4, 2) := by decide +kernel
theorem dL_areAlike_80 : decode cL_areAlike 80 = .ok (.iload 4, 2) := by decide +kernel
theorem dL_areAlike_82 : decode cL_areAlike 82 = .ok (.bipush 10, 2) := by decide +kernel
theorem dL_areAlike_84 : decode cL_areAlike 84 = .ok (.if_icmp .ge 36, 3) := by decide +kernel
theorem dL_areAlike_87 : decode cL_areAlike 87 = .ok (.iload_n 2, 1) := by decide +kernel
theorem dL_areAlike_88 : decode cL_areAlike 88 = .ok (.ifCond .eq 24, 3) := by decide +kernel
theorem dL_areAlike_91 : decode cL_areAlike 91 = .ok (.aload_n 0, 1) := by decide +kernel
theorem dL_areAlike_92 : decode cL_areAlike 92 = .ok (.iload_n 3, 1) := by decide +kernel
theorem dL_areAlike_93 : decode cL_areAlike 93 = .ok (.iload 4, 2) := by decide +kernel
theorem dL_areAlike_95 : decode cL_areAlike 95 = .ok (.invokevirtual 58, 3) := by decide +kernel
theorem dL_areAlike_98 : decode cL_areAlike 98 = .ok (.aload_n 1, 1) := by decide +kernel
theorem dL_areAlike_99 : decode cL_areAlike 99 = .ok (.iload_n 3, 1) := by decide +kernel
theorem dL_areAlike_100 : decode cL_areAlike 100 = .ok (.iload 4, 2) := by decide +kernel
theorem dL_areAlike_102 : decode cL_areAlike 102 = .ok (.invokevirtual 58, 3) := by decide +kernel
theorem dL_areAlike_105 : decode cL_areAlike 105 = .ok (.if_icmp .ne 7, 3) := by decide +kernel
theorem dL_areAlike_108 : decode cL_areAlike 108 = .ok (.iconst 1, 1) := by decide +kernel
theorem dL_areAlike_109 : decode cL_areAlike 109 = .ok (.goto 4, 3) := by decide +kernel
theorem dL_areAlike_112 : decode cL_areAlike 112 = .ok (.iconst 0, 1) := by decide +kernel
theorem dL_areAlike_113 : decode cL_areAlike 113 = .ok (.istore_n 2, 1) := by decide +kernel
theorem dL_areAlike_114 : decode cL_areAlike 114 = .ok (.iinc 4 1, 3) := by decide +kernel
theorem dL_areAlike_117 : decode cL_areAlike 117 = .ok (.goto (-37), 3) := by decide +kernel
theorem dL_areAlike_120 : decode cL_areAlike 120 = .ok (.iinc 3 1, 3) := by decide +kernel
theorem dL_areAlike_123 : decode cL_areAlike 123 = .ok (.goto (-55), 3) := by decide +kernel
theorem dL_areAlike_126 : decode cL_areAlike 126 = .ok (.iconst 0, 1) := by decide +kernel
theorem dL_areAlike_127 : decode cL_areAlike 127 = .ok (.istore_n 3, 1) := by decide +kernel
theorem dL_areAlike_128 : decode cL_areAlike 128 = .ok (.iload_n 3, 1) := by decide +kernel
theorem dL_areAlike_129 : decode cL_areAlike 129 = .ok (.aload_n 0, 1) := by decide +kernel
theorem dL_areAlike_130 : decode cL_areAlike 130 = .ok (.iconst 2, 1) := by decide +kernel
theorem dL_areAlike_131 : decode cL_areAlike 131 = .ok (.invokevirtual 17, 3) := by decide +kernel
theorem dL_areAlike_134 : decode cL_areAlike 134 = .ok (.if_icmp .ge 49, 3) := by decide +kernel
theorem dL_areAlike_137 : decode cL_areAlike 137 = .ok (.iload_n 2, 1) := by decide +kernel
theorem dL_areAlike_138 : decode cL_areAlike 138 = .ok (.ifCond .eq 37, 3) := by decide +kernel
theorem dL_areAlike_141 : decode cL_areAlike 141 = .ok (.aload_n 0, 1) := by decide +kernel
theorem dL_areAlike_142 : decode cL_areAlike 142 = .ok (.iload_n 3, 1) := by decide +kernel
theorem dL_areAlike_143 : decode cL_areAlike 143 = .ok (.iconst 0, 1) := by decide +kernel
theorem dL_areAlike_144 : decode cL_areAlike 144 = .ok (.invokevirtual 83, 3) := by decide +kernel
theorem dL_areAlike_147 : decode cL_areAlike 147 = .ok (.aload_n 1, 1) := by decide +kernel
theorem dL_areAlike_148 : decode cL_areAlike 148 = .ok (.iload_n 3, 1) := by decide +kernel
theorem dL_areAlike_149 : decode cL_areAlike 149 = .ok (.iconst 0, 1) := by decide +kernel
theorem dL_areAlike_150 : decode cL_areAlike 150 = .ok (.invokevirtual 83, 3) := by decide +kernel
theorem dL_areAlike_153 : decode cL_areAlike 153 = .ok (.if_icmp .ne 22, 3) := by decide +kernel
theorem dL_areAlike_156 : decode cL_areAlike 156 = .ok (.aload_n 0, 1) := by decide +kernel
theorem dL_areAlike_157 : decode cL_areAlike 157 = .ok (.iload_n 3, 1) := by decide +kernel
theorem dL_areAlike_158 : decode cL_areAlike 158 = .ok (.iconst 1, 1) := by decide +kernel
theorem dL_areAlike_159 : decode cL_areAlike 159 = .ok (.invokevirtual 83, 3) := by decide +kernel
theorem dL_areAlike_162 : decode cL_areAlike 162 = .ok (.aload_n 1, 1) := by decide +kernel
theorem dL_areAlike_163 : decode cL_areAlike 163 = .ok (.iload_n 3, 1) := by decide +kernel
theorem dL_areAlike_164 : decode cL_areAlike 164 = .ok (.iconst 1, 1) := by decide +kernel
theorem dL_areAlike_165 : decode cL_areAlike 165 = .ok (.invokevirtual 83, 3) := by decide +kernel
theorem dL_areAlike_168 : decode cL_areAlike 168 = .ok (.if_icmp .ne 7, 3) := by decide +kernel
theorem dL_areAlike_171 : decode cL_areAlike 171 = .ok (.iconst 1, 1) := by decide +kernel
theorem dL_areAlike_172 : decode cL_areAlike 172 = .ok (.goto 4, 3) := by decide +kernel
theorem dL_areAlike_175 : decode cL_areAlike 175 = .ok (.iconst 0, 1) := by decide +kernel
theorem dL_areAlike_176 : decode cL_areAlike 176 = .ok (.istore_n 2, 1) := by decide +kernel
theorem dL_areAlike_177 : decode cL_areAlike 177 = .ok (.iinc 3 1, 3) := by decide +kernel
theorem dL_areAlike_180 : decode cL_areAlike 180 = .ok (.goto (-52), 3) := by decide +kernel
theorem dL_areAlike_183 : decode cL_areAlike 183 = .ok (.iload_n 2, 1) := by decide +kernel
theorem dL_areAlike_184 : decode cL_areAlike 184 = .ok (.ireturn, 1) := by decide +kernel

set_option maxRecDepth 20000 in
theorem ggL_law_X7_init : GoodIn wsL_law wsX7_init := goodIn_r _ [10, 11, 12, 13, 14, 15, 16, 17, 18, 19, 20, 21, 22, 23, 24, 25, 26, 27, 28, 29, 30, 31, 32, 33, 34, 35, 36, 37, 38, 39, 40, 41, 42, 43, 44, 45, 46, 47, 48, 49, 50, 51, 52, 53, 54, 55, 56, 57, 58, 59, 60, 61, 62, 63, 64, 65, 66, 67, 68, 69, 70, 6, 71, 72, 1031, 1032, 1033, 1034, 1035, 1036, 1037, 1038, 1056, 1057, 1058, 1059, 1060, 1061, 1062, 1063, 1064, 1065, 1066, 1067, 1068, 1069, 1070, 1071, 1072] (by decide +kernel) (by decide +kernel)
set_option maxRecDepth 20000 in
theorem gL_law_X7_init : GoodIn wsL_law (wsX7_init) := ggL_law_X7_init
set_option maxRecDepth 20000 in
theorem ggL_law_X8_init : GoodIn wsL_law wsX8_init := goodIn_r _ [75, 76, 12, 13, 41, 77, 78, 79, 80, 81, 82, 83, 1039, 1040, 1041, 1042, 1043, 1044, 1045, 1046, 1047, 1048, 1049, 1050, 1051, 1052, 1053, 1054, 1055] (by decide +kernel) (by decide +kernel)
set_option maxRecDepth 20000 in
theorem gL_law_X8_init : GoodIn wsL_law (wsX8_init) := ggL_law_X8_init
set_option maxRecDepth 20000 in
theorem ggL_law_L_append : GoodIn wsL_law wsL_append := goodIn_ca (goodIn_ca (goodIn_r _ [87, 88, 89, 90, 91, 92, 2, 93, 94, 95, 96, 97, 98, 15, 1031, 1032, 1033, 1034, 1035, 1036, 1037, 1038] (by decide +kernel) (by decide +kernel)) (goodIn_sub (fun _ h => List.mem_append_left _ (List.mem_append_left _ (List.mem_append_right _ h))) (by decide +kernel))) (goodIn_sub (fun _ h => List.mem_append_left _ (List.mem_append_right _ h)) (by decide +kernel))
set_option maxRecDepth 20000 in
theorem gL_law_L_append : GoodIn wsL_law (va_wsS RL 101 yL_append wsL_append) := goodIn_app (goodIn_of _ (by decide +kernel)) ggL_law_L_append
set_option maxRecDepth 20000 in
theorem ggL_law_X8_append : GoodIn wsL_law wsX8_append := goodIn_r _ [102, 103, 104, 105, 79, 106, 107, 5, 108, 109, 110, 111, 112, 1039, 1040, 1041, 1042, 1043, 1044, 1045, 1046, 1047, 1048, 1049, 1050, 1051, 1052, 1053, 1054, 1055] (by decide +kernel) (by decide +kernel)
set_option maxRecDepth 20000 in
theorem gL_law_X8_append : GoodIn wsL_law (wsV RL 106 RX8 yX8_append wsX8_append) := goodIn_app (goodIn_of _ (by decide +kernel)) ggL_law_X8_append
set_option maxRecDepth 20000 in
theorem ggL_law_X8_thrown : GoodIn wsL_law wsX8_thrown := goodIn_r _ [116, 103, 1039, 1040, 1041, 1042, 1043, 1044, 1045, 1046, 1047, 1048, 1049, 1050, 1051, 1052, 1053, 1054, 1055] (by decide +kernel) (by decide +kernel)
set_option maxRecDepth 20000 in
theorem gL_law_X8_thrown : GoodIn wsL_law (wsV RL 107 RX8 yX8_thrown wsX8_thrown) := goodIn_app (goodIn_of _ (by decide +kernel)) ggL_law_X8_thrown
set_option maxRecDepth 20000 in
theorem ggL_law_X7_clearText : GoodIn wsL_law wsX7_clearText := goodIn_r _ [120, 98, 1031, 1032, 1033, 1034, 1035, 1036, 1037, 1038] (by decide +kernel) (by decide +kernel)
set_option maxRecDepth 20000 in
theorem gL_law_X7_clearText : GoodIn wsL_law (wsV RL 110 RX7 yX7_clearText wsX7_clearText) := goodIn_app (goodIn_of _ (by decide +kernel)) ggL_law_X7_clearText
set_option maxRecDepth 20000 in
theorem ggL_law_X8_clearText : GoodIn wsL_law wsX8_clearText := goodIn_r _ [124, 103, 105, 1039, 1040, 1041, 1042, 1043, 1044, 1045, 1046, 1047, 1048, 1049, 1050, 1051, 1052, 1053, 1054, 1055] (by decide +kernel) (by decide +kernel)
set_option maxRecDepth 20000 in
theorem gL_law_X8_clearText : GoodIn wsL_law (wsV RL 113 RX8 yX8_clearText wsX8_clearText) := goodIn_app (goodIn_of _ (by decide +kernel)) ggL_law_X8_clearText
set_option maxRecDepth 20000 in
theorem ggL_law_X7_errorPosition : GoodIn wsL_law wsX7_errorPosition := goodIn_r _ [128, 129, 130, 131, 2, 132, 133, 134, 135, 15, 98, 20, 136, 137, 138, 139, 12, 13, 140, 141, 142, 143, 144, 145, 146, 147, 148, 149, 150, 151, 152, 153, 154, 155, 156, 157, 158, 159, 160, 161, 18, 162, 36, 163, 164, 165, 166, 167, 168, 169, 170, 171, 172, 173, 174, 175, 176, 177, 178, 179, 180, 181, 182, 183, 184, 185, 186, 187, 38, 188, 189, 190, 40, 191, 48, 192, 193, 194, 195, 196, 197, 198, 199, 200, 201, 202, 42, 43, 203, 204, 205, 206, 1073, 1074, 1075, 1031, 1032, 1033, 1034, 1035, 1036, 1037, 1038, 1056, 1057, 1058, 1059, 1060, 1061, 1068, 1069, 1070, 1071] (by decide +kernel) (by decide +kernel)
set_option maxRecDepth 20000 in
theorem gL_law_X7_errorPosition : GoodIn wsL_law (wsV RL 114 RX7 yX7_errorPosition wsX7_errorPosition) := goodIn_app (goodIn_of _ (by decide +kernel)) ggL_law_X7_errorPosition
set_option maxRecDepth 20000 in
theorem ggL_law_X8_errorPosition : GoodIn wsL_law wsX8_errorPosition := goodIn_r _ [210, 103, 211, 212, 213, 5, 214, 215, 105, 79, 216, 217, 80, 218, 219, 220, 221, 222, 106, 107, 108, 223, 224, 225, 226, 1039, 1040, 1041, 1042, 1043, 1044, 1045, 1046, 1047, 1048, 1049, 1050, 1051, 1052, 1053, 1054, 1055] (by decide +kernel) (by decide +kernel)
set_option maxRecDepth 20000 in
theorem gL_law_X8_errorPosition : GoodIn wsL_law (wsV RL 117 RX8 yX8_errorPosition wsX8_errorPosition) := goodIn_app (goodIn_of _ (by decide +kernel)) ggL_law_X8_errorPosition
set_option maxRecDepth 20000 in
theorem ggL_law_L_load : GoodIn wsL_law wsL_load := goodIn_ca (goodIn_r _ [229, 89, 230, 231, 232, 2, 233, 96, 97, 19, 20, 24, 27, 234, 129, 130, 131, 132, 133, 134, 135, 15, 98, 136, 137, 138, 139, 12, 13, 140, 141, 142, 143, 144, 145, 146, 147, 148, 149, 150, 151, 152, 153, 154, 155, 156, 157, 158, 159, 160, 161, 18, 162, 36, 163, 164, 165, 166, 167, 168, 169, 170, 171, 172, 173, 174, 175, 176, 177, 178, 179, 180, 181, 182, 183, 184, 185, 186, 187, 38, 188, 189, 190, 40, 191, 48, 192, 193, 194, 195, 196, 197, 198, 199, 200, 201, 202, 42, 43, 203, 204, 205, 206, 235, 236, 237, 238, 239, 240, 241, 242, 243, 244, 245, 246, 247, 248, 249, 250, 251, 252, 253, 254, 255, 256, 23, 257, 258, 259, 1031, 1032, 1033, 1034, 1035, 1036, 1037, 1038, 1056, 1057, 1058, 1059, 1060, 1061, 1073, 1074, 1075, 1068, 1069, 1070, 1071, 1062, 1063, 1064] (by decide +kernel) (by decide +kernel)) (goodIn_sub (fun _ h => List.mem_append_left _ (List.mem_append_right _ h)) (by decide +kernel))
set_option maxRecDepth 20000 in
theorem gL_law_L_load : GoodIn wsL_law (va_wsS RL 118 yL_load wsL_load) := goodIn_app (goodIn_of _ (by decide +kernel)) ggL_law_L_load
set_option maxRecDepth 20000 in
theorem ggL_law_X8_load : GoodIn wsL_law wsX8_load := goodIn_r _ [263, 103, 77, 80, 217, 264, 265, 266, 267, 211, 212, 213, 5, 214, 215, 105, 79, 216, 218, 219, 220, 221, 222, 106, 107, 108, 223, 224, 225, 226, 109, 110, 111, 112, 1039, 1040, 1041, 1042, 1043, 1044, 1045, 1046, 1047, 1048, 1049, 1050, 1051, 1052, 1053, 1054, 1055] (by decide +kernel) (by decide +kernel)
set_option maxRecDepth 20000 in
theorem gL_law_X8_load : GoodIn wsL_law (wsV RL 121 RX8 yX8_load wsX8_load) := goodIn_app (goodIn_of _ (by decide +kernel)) ggL_law_X8_load
set_option maxRecDepth 20000 in
theorem ggL_law_L_about : GoodIn wsL_law wsL_about := goodIn_ca (goodIn_r _ [270, 88, 271, 272, 273, 2, 274, 94, 95, 19, 275, 234, 276, 31, 277, 278, 279, 30, 280, 63, 281, 282, 283, 284, 285, 62, 286, 71, 287, 185, 186, 18, 187, 163, 38, 288, 289, 290, 291, 292, 293, 294, 295, 40, 296, 48, 297, 298, 299, 300, 301, 302, 303, 304, 192, 193, 305, 306, 307, 308, 309, 310, 311, 312, 313, 314, 194, 315, 316, 317, 318, 319, 320, 321, 322, 323, 324, 325, 326, 327, 328, 329, 330, 331, 332, 333, 184, 334, 335, 336, 337, 338, 339, 340, 341, 342, 343, 344, 345, 346, 347, 348, 349, 350, 351, 352, 353, 354, 355, 356, 357, 358, 359, 360, 164, 36, 245, 246, 247, 248, 42, 249, 250, 251, 252, 43, 361, 362, 363, 364, 365, 366, 367, 368, 1031, 1032, 1033, 1034, 1035, 1036, 1037, 1038, 1056, 1057, 1058, 1059, 1060, 1061, 1065, 1066, 1067, 1072, 1068, 1069, 1070, 1071] (by decide +kernel) (by decide +kernel)) (goodIn_sub (fun _ h => List.mem_append_left _ (List.mem_append_left _ (List.mem_append_right _ h))) (by decide +kernel))
set_option maxRecDepth 20000 in
theorem gL_law_L_about : GoodIn wsL_law (va_wsS RL 122 yL_about wsL_about) := goodIn_app (goodIn_of _ (by decide +kernel)) ggL_law_L_about
set_option maxRecDepth 20000 in
theorem ggL_law_X8_about : GoodIn wsL_law wsX8_about := goodIn_r _ [372, 103, 77, 264, 373, 374, 375, 5, 376, 377, 378, 379, 380, 381, 78, 382, 383, 384, 385, 386, 387, 388, 389, 390, 391, 392, 393, 394, 395, 396, 397, 398, 399, 400, 401, 402, 403, 404, 405, 406, 407, 408, 409, 410, 411, 412, 413, 414, 415, 416, 417, 418, 419, 420, 421, 422, 423, 424, 425, 426, 427, 428, 429, 430, 431, 432, 433, 434, 435, 109, 110, 111, 112, 1039, 1040, 1041, 1042, 1043, 1044, 1045, 1046, 1047, 1048, 1049, 1050, 1051, 1052, 1053, 1054, 1055] (by decide +kernel) (by decide +kernel)
set_option maxRecDepth 20000 in
theorem gL_law_X8_about : GoodIn wsL_law (wsV RL 124 RX8 yX8_about wsX8_about) := goodIn_app (goodIn_of _ (by decide +kernel)) ggL_law_X8_about
set_option maxRecDepth 20000 in
theorem ggL_law_L_layer : GoodIn wsL_law wsL_layer := goodIn_ca (goodIn_ca (goodIn_r _ [438, 439, 88, 440, 441, 442, 2, 443, 444, 445, 94, 95, 19, 446, 447, 448, 449, 275, 31, 450, 185, 186, 18, 187, 163, 38, 451, 452, 453, 40, 454, 365, 366, 367, 368, 48, 297, 298, 299, 300, 455, 456, 294, 295, 296, 457, 458, 459, 30, 460, 63, 283, 284, 285, 62, 286, 71, 288, 289, 290, 291, 292, 293, 301, 302, 303, 304, 192, 193, 305, 306, 307, 308, 309, 310, 311, 312, 313, 314, 194, 315, 316, 317, 318, 319, 320, 321, 322, 323, 324, 325, 326, 327, 328, 329, 461, 335, 336, 337, 338, 339, 340, 341, 462, 347, 348, 349, 350, 351, 352, 1031, 1032, 1033, 1034, 1035, 1036, 1037, 1038, 1068, 1069, 1070, 1071, 1056, 1057, 1058, 1059, 1060, 1061, 1065, 1066, 1067, 1072] (by decide +kernel) (by decide +kernel)) (goodIn_sub (fun _ h => List.mem_append_right _ h) (by decide +kernel))) (goodIn_sub (fun _ h => List.mem_append_left _ (List.mem_append_left _ (List.mem_append_right _ h))) (by decide +kernel))
set_option maxRecDepth 20000 in
theorem gL_law_L_layer : GoodIn wsL_law (va_wsS RL 125 yL_layer wsL_layer) := goodIn_app (goodIn_of _ (by decide +kernel)) ggL_law_L_layer
set_option maxRecDepth 20000 in
theorem ggL_law_X8_layer : GoodIn wsL_law wsX8_layer := goodIn_r _ [466, 103, 77, 467, 468, 469, 5, 470, 264, 106, 107, 108, 109, 110, 111, 112, 382, 383, 384, 385, 386, 387, 388, 389, 390, 391, 392, 471, 472, 473, 474, 475, 476, 477, 478, 479, 480, 481, 482, 377, 378, 379, 380, 381, 78, 393, 394, 395, 396, 397, 398, 399, 400, 401, 402, 403, 404, 405, 406, 407, 412, 413, 414, 415, 420, 421, 422, 423, 1039, 1040, 1041, 1042, 1043, 1044, 1045, 1046, 1047, 1048, 1049, 1050, 1051, 1052, 1053, 1054, 1055] (by decide +kernel) (by decide +kernel)
set_option maxRecDepth 20000 in
theorem gL_law_X8_layer : GoodIn wsL_law (wsV RL 128 RX8 yX8_layer wsX8_layer) := goodIn_app (goodIn_of _ (by decide +kernel)) ggL_law_X8_layer
set_option maxRecDepth 20000 in
theorem ggL_law_L_pen : GoodIn wsL_law wsL_pen := goodIn_ca (goodIn_ca (goodIn_r _ [485, 439, 88, 486, 487, 488, 2, 489, 444, 445, 94, 95, 19, 275, 450, 185, 186, 18, 187, 163, 38, 490, 312, 313, 40, 314, 194, 309, 310, 491, 302, 303, 304, 48, 192, 193, 305, 306, 307, 308, 299, 300, 1031, 1032, 1033, 1034, 1035, 1036, 1037, 1038, 1056, 1057, 1058, 1059, 1060, 1061, 1068, 1069, 1070, 1071] (by decide +kernel) (by decide +kernel)) (goodIn_sub (fun _ h => List.mem_append_right _ h) (by decide +kernel))) (goodIn_sub (fun _ h => List.mem_append_left _ (List.mem_append_left _ (List.mem_append_right _ h))) (by decide +kernel))
set_option maxRecDepth 20000 in
theorem gL_law_L_pen : GoodIn wsL_law (va_wsS RL 131 yL_pen wsL_pen) := goodIn_app (goodIn_of _ (by decide +kernel)) ggL_law_L_pen
set_option maxRecDepth 20000 in
theorem ggL_law_X8_pen : GoodIn wsL_law wsX8_pen := goodIn_r _ [495, 103, 77, 467, 468, 469, 5, 470, 264, 106, 107, 108, 109, 110, 111, 112, 397, 398, 399, 400, 401, 402, 403, 404, 386, 387, 388, 389, 405, 406, 407, 1039, 1040, 1041, 1042, 1043, 1044, 1045, 1046, 1047, 1048, 1049, 1050, 1051, 1052, 1053, 1054, 1055] (by decide +kernel) (by decide +kernel)
set_option maxRecDepth 20000 in
theorem gL_law_X8_pen : GoodIn wsL_law (wsV RL 134 RX8 yX8_pen wsX8_pen) := goodIn_app (goodIn_of _ (by decide +kernel)) ggL_law_X8_pen
set_option maxRecDepth 20000 in
theorem ggL_law_L_comes : GoodIn wsL_law wsL_comes := goodIn_ca (goodIn_ca (goodIn_r _ [498, 439, 88, 499, 500, 501, 2, 502, 444, 445, 94, 95, 19, 275, 450, 185, 186, 18, 187, 163, 38, 503, 504, 505, 506, 36, 507, 508, 509, 510, 362, 363, 40, 364, 194, 309, 310, 365, 366, 367, 368, 48, 297, 298, 299, 300, 341, 302, 303, 304, 192, 193, 305, 306, 307, 308, 1031, 1032, 1033, 1034, 1035, 1036, 1037, 1038, 1056, 1057, 1058, 1059, 1060, 1061, 1068, 1069, 1070, 1071] (by decide +kernel) (by decide +kernel)) (goodIn_sub (fun _ h => List.mem_append_right _ h) (by decide +kernel))) (goodIn_sub (fun _ h => List.mem_append_left _ (List.mem_append_left _ (List.mem_append_right _ h))) (by decide +kernel))
set_option maxRecDepth 20000 in
theorem gL_law_L_comes : GoodIn wsL_law (va_wsS RL 135 yL_comes wsL_comes) := goodIn_app (goodIn_of _ (by decide +kernel)) ggL_law_L_comes
set_option maxRecDepth 20000 in
theorem ggL_law_X8_comes : GoodIn wsL_law wsX8_comes := goodIn_r _ [514, 103, 515, 467, 468, 469, 5, 470, 264, 106, 107, 108, 109, 110, 111, 112, 516, 517, 518, 519, 77, 432, 433, 434, 435, 382, 383, 384, 385, 386, 387, 388, 389, 390, 391, 392, 393, 394, 395, 396, 397, 398, 399, 400, 401, 402, 403, 404, 405, 406, 407, 1039, 1040, 1041, 1042, 1043, 1044, 1045, 1046, 1047, 1048, 1049, 1050, 1051, 1052, 1053, 1054, 1055] (by decide +kernel) (by decide +kernel)
set_option maxRecDepth 20000 in
theorem gL_law_X8_comes : GoodIn wsL_law (wsV RL 138 RX8 yX8_comes wsX8_comes) := goodIn_app (goodIn_of _ (by decide +kernel)) ggL_law_X8_comes
set_option maxRecDepth 20000 in
theorem ggL_law_L_at : GoodIn wsL_law wsL_at := goodIn_ca (goodIn_r _ [522, 88, 523, 524, 525, 2, 526, 94, 95, 31, 19, 507, 508, 509, 277, 278, 279, 30, 280, 63, 281, 282, 283, 284, 285, 62, 286, 71, 287, 185, 186, 18, 187, 163, 38, 288, 289, 290, 291, 292, 293, 294, 295, 40, 296, 48, 297, 298, 299, 300, 301, 302, 303, 304, 192, 193, 305, 306, 307, 308, 309, 310, 311, 312, 313, 314, 194, 315, 316, 317, 318, 527, 528, 529, 530, 323, 324, 325, 326, 327, 328, 329, 1031, 1032, 1033, 1034, 1035, 1036, 1037, 1038, 1065, 1066, 1067, 1056, 1057, 1058, 1059, 1060, 1061, 1072, 1068, 1069, 1070, 1071] (by decide +kernel) (by decide +kernel)) (goodIn_sub (fun _ h => List.mem_append_left _ (List.mem_append_left _ (List.mem_append_right _ h))) (by decide +kernel))
set_option maxRecDepth 20000 in
theorem gL_law_L_at : GoodIn wsL_law (va_wsS RL 139 yL_at wsL_at) := goodIn_app (goodIn_of _ (by decide +kernel)) ggL_law_L_at
set_option maxRecDepth 20000 in
theorem ggL_law_X8_at : GoodIn wsL_law wsX8_at := goodIn_r _ [534, 103, 515, 106, 107, 5, 108, 109, 110, 111, 112, 373, 374, 375, 376, 377, 264, 378, 379, 380, 381, 78, 382, 383, 384, 385, 77, 386, 387, 388, 389, 390, 391, 392, 393, 394, 395, 396, 397, 398, 399, 400, 401, 402, 403, 404, 405, 406, 407, 535, 536, 537, 538, 1039, 1040, 1041, 1042, 1043, 1044, 1045, 1046, 1047, 1048, 1049, 1050, 1051, 1052, 1053, 1054, 1055] (by decide +kernel) (by decide +kernel)
set_option maxRecDepth 20000 in
theorem gL_law_X8_at : GoodIn wsL_law (wsV RL 141 RX8 yX8_at wsX8_at) := goodIn_app (goodIn_of _ (by decide +kernel)) ggL_law_X8_at
set_option maxRecDepth 20000 in
theorem ggL_law_X7_blank : GoodIn wsL_law wsX7_blank := goodIn_r _ [542, 19, 234, 31, 277, 278, 279, 30, 280, 63, 281, 282, 283, 284, 285, 62, 286, 71, 287, 185, 186, 18, 187, 163, 38, 288, 289, 290, 291, 292, 293, 294, 295, 40, 296, 48, 297, 2, 298, 299, 300, 301, 302, 303, 304, 192, 193, 305, 306, 307, 308, 309, 310, 311, 312, 313, 314, 194, 315, 316, 317, 318, 543, 544, 545, 546, 547, 351, 352, 548, 528, 529, 530, 323, 324, 325, 326, 327, 328, 329, 1031, 1032, 1033, 1034, 1035, 1036, 1037, 1038, 1056, 1057, 1058, 1059, 1060, 1061, 1065, 1066, 1067, 1072, 1068, 1069, 1070, 1071] (by decide +kernel) (by decide +kernel)
set_option maxRecDepth 20000 in
theorem gL_law_X7_blank : GoodIn wsL_law (wsV RL 142 RX7 yX7_blank wsX7_blank) := goodIn_app (goodIn_of _ (by decide +kernel)) ggL_law_X7_blank
set_option maxRecDepth 20000 in
theorem ggL_law_X8_blank : GoodIn wsL_law wsX8_blank := goodIn_r _ [552, 103, 264, 373, 374, 375, 5, 376, 377, 378, 379, 380, 381, 78, 382, 383, 384, 385, 77, 386, 387, 388, 389, 390, 391, 392, 393, 394, 395, 396, 397, 398, 399, 400, 401, 402, 403, 404, 405, 406, 407, 535, 536, 537, 538, 1039, 1040, 1041, 1042, 1043, 1044, 1045, 1046, 1047, 1048, 1049, 1050, 1051, 1052, 1053, 1054, 1055] (by decide +kernel) (by decide +kernel)
set_option maxRecDepth 20000 in
theorem gL_law_X8_blank : GoodIn wsL_law (wsV RL 145 RX8 yX8_blank wsX8_blank) := goodIn_app (goodIn_of _ (by decide +kernel)) ggL_law_X8_blank
set_option maxRecDepth 20000 in
theorem ggL_law_X7_together : GoodIn wsL_law wsX7_together := goodIn_r _ [556, 19, 234, 275, 450, 185, 186, 18, 187, 163, 38, 451, 452, 453, 40, 454, 365, 366, 367, 368, 48, 297, 2, 298, 299, 300, 557, 558, 559, 560, 561, 1031, 1032, 1033, 1034, 1035, 1036, 1037, 1038, 1056, 1057, 1058, 1059, 1060, 1061, 1068, 1069, 1070, 1071] (by decide +kernel) (by decide +kernel)
set_option maxRecDepth 20000 in
theorem gL_law_X7_together : GoodIn wsL_law (wsV RL 146 RX7 yX7_together wsX7_together) := goodIn_app (goodIn_of _ (by decide +kernel)) ggL_law_X7_together
set_option maxRecDepth 20000 in
theorem ggL_law_X8_together : GoodIn wsL_law wsX8_together := goodIn_r _ [565, 103, 264, 382, 383, 384, 5, 385, 77, 386, 387, 388, 389, 390, 391, 392, 566, 567, 568, 1039, 1040, 1041, 1042, 1043, 1044, 1045, 1046, 1047, 1048, 1049, 1050, 1051, 1052, 1053, 1054, 1055] (by decide +kernel) (by decide +kernel)
set_option maxRecDepth 20000 in
theorem gL_law_X8_together : GoodIn wsL_law (wsV RL 150 RX8 yX8_together wsX8_together) := goodIn_app (goodIn_of _ (by decide +kernel)) ggL_law_X8_together
set_option maxRecDepth 20000 in
theorem ggL_law_L_order : GoodIn wsL_law wsL_order := goodIn_ca (goodIn_r _ [571, 88, 572, 573, 574, 2, 575, 94, 95, 19, 234, 576, 577, 578, 18, 579, 163, 580, 581, 582, 583, 36, 184, 185, 186, 187, 38, 584, 366, 367, 40, 368, 48, 297, 298, 299, 300, 585, 294, 295, 296, 1031, 1032, 1033, 1034, 1035, 1036, 1037, 1038, 1056, 1057, 1058, 1059, 1060, 1061, 1068, 1069, 1070, 1071] (by decide +kernel) (by decide +kernel)) (goodIn_sub (fun _ h => List.mem_append_left _ (List.mem_append_left _ (List.mem_append_right _ h))) (by decide +kernel))
set_option maxRecDepth 20000 in
theorem gL_law_L_order : GoodIn wsL_law (va_wsS RL 151 yL_order wsL_order) := goodIn_app (goodIn_of _ (by decide +kernel)) ggL_law_L_order
set_option maxRecDepth 20000 in
theorem ggL_law_X8_order : GoodIn wsL_law wsX8_order := goodIn_r _ [589, 103, 264, 109, 110, 111, 5, 112, 590, 591, 592, 593, 471, 472, 473, 474, 77, 382, 383, 384, 385, 386, 387, 388, 389, 390, 391, 392, 475, 476, 477, 478, 1039, 1040, 1041, 1042, 1043, 1044, 1045, 1046, 1047, 1048, 1049, 1050, 1051, 1052, 1053, 1054, 1055] (by decide +kernel) (by decide +kernel)
set_option maxRecDepth 20000 in
theorem gL_law_X8_order : GoodIn wsL_law (wsV RL 153 RX8 yX8_order wsX8_order) := goodIn_app (goodIn_of _ (by decide +kernel)) ggL_law_X8_order
set_option maxRecDepth 20000 in
theorem ggL_law_L_sighting : GoodIn wsL_law wsL_sighting := goodIn_ca (goodIn_ca (goodIn_r _ [596, 439, 88, 597, 598, 599, 2, 600, 444, 445, 94, 95, 19, 276, 601, 246, 247, 18, 248, 42, 602, 250, 251, 252, 43, 603, 604, 605, 606, 163, 36, 184, 185, 186, 187, 38, 361, 362, 363, 40, 364, 194, 309, 310, 365, 366, 367, 368, 48, 297, 298, 299, 300, 341, 302, 303, 304, 192, 193, 305, 306, 307, 308, 1031, 1032, 1033, 1034, 1035, 1036, 1037, 1038, 1056, 1057, 1058, 1059, 1060, 1061, 1068, 1069, 1070, 1071] (by decide +kernel) (by decide +kernel)) (goodIn_sub (fun _ h => List.mem_append_right _ h) (by decide +kernel))) (goodIn_sub (fun _ h => List.mem_append_left _ (List.mem_append_left _ (List.mem_append_right _ h))) (by decide +kernel))
set_option maxRecDepth 20000 in
theorem gL_law_L_sighting : GoodIn wsL_law (va_wsS RL 154 yL_sighting wsL_sighting) := goodIn_app (goodIn_of _ (by decide +kernel)) ggL_law_L_sighting
set_option maxRecDepth 20000 in
theorem ggL_law_X8_sighting : GoodIn wsL_law wsX8_sighting := goodIn_r _ [610, 103, 77, 611, 264, 106, 107, 5, 108, 109, 110, 111, 112, 432, 433, 434, 435, 382, 383, 384, 385, 386, 387, 388, 389, 390, 391, 392, 393, 394, 395, 396, 397, 398, 399, 400, 401, 402, 403, 404, 405, 406, 407, 1039, 1040, 1041, 1042, 1043, 1044, 1045, 1046, 1047, 1048, 1049, 1050, 1051, 1052, 1053, 1054, 1055] (by decide +kernel) (by decide +kernel)
set_option maxRecDepth 20000 in
theorem gL_law_X8_sighting : GoodIn wsL_law (wsV RL 156 RX8 yX8_sighting wsX8_sighting) := goodIn_app (goodIn_of _ (by decide +kernel)) ggL_law_X8_sighting
set_option maxRecDepth 20000 in
theorem ggL_law_L_common : GoodIn wsL_law wsL_common := goodIn_ca (goodIn_r _ [614, 439, 615, 616, 617, 2, 618, 444, 445, 19, 31, 275, 450, 185, 186, 18, 187, 163, 38, 619, 620, 621, 30, 622, 63, 64, 283, 284, 285, 62, 286, 71, 288, 289, 290, 291, 292, 293, 294, 295, 40, 296, 48, 297, 298, 299, 300, 301, 302, 303, 304, 192, 193, 305, 306, 307, 308, 309, 310, 311, 312, 313, 314, 194, 315, 316, 317, 318, 623, 624, 625, 626, 323, 324, 325, 326, 327, 328, 329, 1031, 1032, 1033, 1034, 1035, 1036, 1037, 1038, 1056, 1057, 1058, 1059, 1060, 1061, 1065, 1066, 1067, 1072, 1068, 1069, 1070, 1071] (by decide +kernel) (by decide +kernel)) (goodIn_sub (fun _ h => List.mem_append_right _ h) (by decide +kernel))
set_option maxRecDepth 20000 in
theorem gL_law_L_common : GoodIn wsL_law (va_wsS RL 157 yL_common wsL_common) := goodIn_app (goodIn_of _ (by decide +kernel)) ggL_law_L_common
set_option maxRecDepth 20000 in
theorem ggL_law_X8_common_ : GoodIn wsL_law wsX8_common_ := goodIn_r _ [630, 103, 467, 468, 469, 5, 470, 264, 106, 107, 108, 109, 110, 111, 112, 631, 632, 633, 634, 377, 479, 480, 481, 482, 378, 379, 380, 381, 78, 382, 383, 384, 385, 77, 386, 387, 388, 389, 390, 391, 392, 393, 394, 395, 396, 397, 398, 399, 400, 401, 402, 403, 404, 405, 406, 407, 1039, 1040, 1041, 1042, 1043, 1044, 1045, 1046, 1047, 1048, 1049, 1050, 1051, 1052, 1053, 1054, 1055] (by decide +kernel) (by decide +kernel)
set_option maxRecDepth 20000 in
theorem gL_law_X8_common_ : GoodIn wsL_law (wsV RL 159 RX8 yX8_common_ wsX8_common_) := goodIn_app (goodIn_of _ (by decide +kernel)) ggL_law_X8_common_
set_option maxRecDepth 20000 in
theorem ggL_law_L_meet : GoodIn wsL_law wsL_meet := goodIn_ca (goodIn_r _ [637, 439, 638, 639, 640, 2, 641, 444, 445, 19, 450, 185, 186, 18, 187, 163, 38, 642, 643, 644, 40, 645, 194, 48, 558, 559, 560, 297, 298, 561, 299, 300, 341, 302, 303, 304, 192, 193, 305, 306, 307, 308, 309, 310, 1031, 1032, 1033, 1034, 1035, 1036, 1037, 1038, 1056, 1057, 1058, 1059, 1060, 1061, 1068, 1069, 1070, 1071] (by decide +kernel) (by decide +kernel)) (goodIn_sub (fun _ h => List.mem_append_right _ h) (by decide +kernel))
set_option maxRecDepth 20000 in
theorem gL_law_L_meet : GoodIn wsL_law (va_wsS RL 160 yL_meet wsL_meet) := goodIn_app (goodIn_of _ (by decide +kernel)) ggL_law_L_meet
set_option maxRecDepth 20000 in
theorem ggL_law_X8_meet : GoodIn wsL_law wsX8_meet := goodIn_r _ [649, 103, 467, 468, 469, 5, 470, 264, 106, 107, 108, 109, 110, 111, 112, 386, 387, 388, 389, 77, 390, 391, 392, 397, 398, 399, 400, 401, 402, 403, 404, 405, 406, 407, 1039, 1040, 1041, 1042, 1043, 1044, 1045, 1046, 1047, 1048, 1049, 1050, 1051, 1052, 1053, 1054, 1055] (by decide +kernel) (by decide +kernel)
set_option maxRecDepth 20000 in
theorem gL_law_X8_meet : GoodIn wsL_law (wsV RL 162 RX8 yX8_meet wsX8_meet) := goodIn_app (goodIn_of _ (by decide +kernel)) ggL_law_X8_meet
set_option maxRecDepth 20000 in
theorem ggL_law_L_turned : GoodIn wsL_law wsL_turned := goodIn_ca (goodIn_r _ [652, 439, 653, 654, 655, 2, 656, 444, 445, 19, 31, 275, 450, 185, 186, 18, 187, 163, 38, 657, 658, 659, 30, 660, 64, 66, 661, 63, 283, 284, 285, 62, 286, 71, 288, 289, 290, 291, 292, 293, 294, 295, 40, 296, 48, 297, 298, 299, 300, 301, 302, 303, 304, 192, 193, 305, 306, 307, 308, 309, 310, 311, 312, 313, 314, 194, 315, 316, 317, 318, 662, 663, 664, 665, 666, 189, 190, 191, 667, 668, 669, 670, 671, 672, 673, 674, 675, 1031, 1032, 1033, 1034, 1035, 1036, 1037, 1038, 1056, 1057, 1058, 1059, 1060, 1061, 1065, 1066, 1067, 1068, 1069, 1070, 1071, 1072] (by decide +kernel) (by decide +kernel)) (goodIn_sub (fun _ h => List.mem_append_right _ h) (by decide +kernel))
set_option maxRecDepth 20000 in
theorem gL_law_L_turned : GoodIn wsL_law (va_wsS RL 163 yL_turned wsL_turned) := goodIn_app (goodIn_of _ (by decide +kernel)) ggL_law_L_turned
set_option maxRecDepth 20000 in
theorem ggL_law_X8_turned : GoodIn wsL_law wsX8_turned := goodIn_r _ [679, 103, 467, 468, 469, 5, 470, 264, 106, 107, 108, 109, 110, 111, 112, 680, 681, 682, 683, 77, 377, 378, 379, 380, 381, 78, 382, 383, 384, 385, 386, 387, 388, 389, 390, 391, 392, 393, 394, 395, 396, 397, 398, 399, 400, 401, 402, 403, 404, 405, 406, 407, 684, 685, 686, 687, 479, 480, 481, 482, 1039, 1040, 1041, 1042, 1043, 1044, 1045, 1046, 1047, 1048, 1049, 1050, 1051, 1052, 1053, 1054, 1055] (by decide +kernel) (by decide +kernel)
set_option maxRecDepth 20000 in
theorem gL_law_X8_turned : GoodIn wsL_law (wsV RL 165 RX8 yX8_turned wsX8_turned) := goodIn_app (goodIn_of _ (by decide +kernel)) ggL_law_X8_turned
set_option maxRecDepth 20000 in
theorem ggL_law_L_setRing : GoodIn wsL_law wsL_setRing := goodIn_ca (goodIn_r _ [690, 88, 691, 692, 693, 2, 694, 94, 95, 24, 19, 275, 695, 696, 697, 698, 699, 700, 23, 701, 258, 259, 702, 703, 704, 705, 54, 706, 236, 237, 18, 238, 36, 163, 239, 240, 241, 242, 164, 243, 160, 161, 162, 184, 185, 186, 187, 38, 244, 180, 181, 182, 183, 171, 172, 173, 188, 189, 190, 40, 191, 48, 192, 193, 194, 245, 246, 247, 248, 42, 249, 250, 251, 252, 43, 253, 200, 201, 202, 203, 204, 205, 206, 707, 708, 709, 710, 711, 504, 505, 506, 1031, 1032, 1033, 1034, 1035, 1036, 1037, 1038, 1056, 1057, 1058, 1059, 1060, 1061, 1062, 1063, 1064, 1068, 1069, 1070, 1071] (by decide +kernel) (by decide +kernel)) (goodIn_sub (fun _ h => List.mem_append_left _ (List.mem_append_left _ (List.mem_append_right _ h))) (by decide +kernel))
set_option maxRecDepth 20000 in
theorem gL_law_L_setRing : GoodIn wsL_law (va_wsS RL 166 yL_setRing wsL_setRing) := goodIn_app (goodIn_of _ (by decide +kernel)) ggL_law_L_setRing
set_option maxRecDepth 20000 in
theorem ggL_law_X8_setRing : GoodIn wsL_law wsX8_setRing := goodIn_r _ [715, 103, 716, 717, 5, 718, 719, 720, 106, 107, 108, 109, 110, 111, 112, 721, 722, 723, 724, 265, 81, 725, 726, 727, 728, 264, 77, 729, 730, 731, 732, 397, 398, 399, 400, 1039, 1040, 1041, 1042, 1043, 1044, 1045, 1046, 1047, 1048, 1049, 1050, 1051, 1052, 1053, 1054, 1055] (by decide +kernel) (by decide +kernel)
set_option maxRecDepth 20000 in
theorem gL_law_X8_setRing : GoodIn wsL_law (wsV RL 168 RX8 yX8_setRing wsX8_setRing) := goodIn_app (goodIn_of _ (by decide +kernel)) ggL_law_X8_setRing
set_option maxRecDepth 20000 in
theorem ggL_law_L_addLayer : GoodIn wsL_law wsL_addLayer := goodIn_ca (goodIn_ca (goodIn_r _ [735, 88, 89, 736, 737, 738, 2, 739, 94, 95, 96, 97, 19, 24, 234, 740, 741, 742, 743, 744, 745, 746, 747, 748, 503, 504, 505, 18, 506, 36, 749, 171, 172, 173, 163, 698, 699, 700, 23, 701, 258, 259, 702, 703, 704, 705, 54, 706, 236, 237, 238, 239, 240, 241, 242, 164, 243, 160, 161, 162, 184, 185, 186, 187, 38, 244, 180, 181, 182, 183, 188, 189, 190, 40, 191, 48, 192, 193, 194, 245, 246, 247, 248, 42, 249, 250, 251, 252, 43, 253, 200, 201, 202, 203, 204, 205, 206, 750, 1031, 1032, 1033, 1034, 1035, 1036, 1037, 1038, 1056, 1057, 1058, 1059, 1060, 1061, 1062, 1063, 1064, 1068, 1069, 1070, 1071] (by decide +kernel) (by decide +kernel)) (goodIn_sub (fun _ h => List.mem_append_left _ (List.mem_append_left _ (List.mem_append_right _ h))) (by decide +kernel))) (goodIn_sub (fun _ h => List.mem_append_left _ (List.mem_append_right _ h)) (by decide +kernel))
set_option maxRecDepth 20000 in
theorem gL_law_L_addLayer : GoodIn wsL_law (va_wsS RL 169 yL_addLayer wsL_addLayer) := goodIn_app (goodIn_of _ (by decide +kernel)) ggL_law_L_addLayer
set_option maxRecDepth 20000 in
theorem ggL_law_X8_addLayer : GoodIn wsL_law wsX8_addLayer := goodIn_r _ [754, 103, 264, 755, 756, 757, 5, 758, 759, 760, 761, 762, 763, 764, 765, 106, 107, 108, 516, 517, 518, 519, 77, 109, 110, 111, 112, 721, 722, 723, 724, 265, 81, 725, 726, 727, 728, 766, 767, 768, 769, 1039, 1040, 1041, 1042, 1043, 1044, 1045, 1046, 1047, 1048, 1049, 1050, 1051, 1052, 1053, 1054, 1055] (by decide +kernel) (by decide +kernel)
set_option maxRecDepth 20000 in
theorem gL_law_X8_addLayer : GoodIn wsL_law (wsV RL 172 RX8 yX8_addLayer wsX8_addLayer) := goodIn_app (goodIn_of _ (by decide +kernel)) ggL_law_X8_addLayer
set_option maxRecDepth 20000 in
theorem ggL_law_L_change : GoodIn wsL_law wsL_change := goodIn_ca (goodIn_ca (goodIn_r _ [772, 439, 88, 773, 774, 775, 2, 776, 444, 445, 94, 95, 19, 24, 450, 185, 186, 18, 187, 163, 38, 777, 778, 779, 780, 741, 742, 744, 745, 747, 748, 711, 504, 505, 506, 36, 698, 699, 700, 23, 701, 258, 259, 702, 703, 704, 705, 54, 706, 236, 237, 238, 239, 240, 241, 242, 164, 243, 160, 161, 162, 184, 244, 180, 181, 182, 183, 171, 172, 173, 188, 189, 190, 40, 191, 48, 192, 193, 194, 245, 246, 247, 248, 42, 249, 250, 251, 252, 43, 253, 200, 201, 202, 203, 204, 205, 206, 781, 782, 783, 784, 1031, 1032, 1033, 1034, 1035, 1036, 1037, 1038, 1056, 1057, 1058, 1059, 1060, 1061, 1062, 1063, 1064, 1068, 1069, 1070, 1071] (by decide +kernel) (by decide +kernel)) (goodIn_sub (fun _ h => List.mem_append_right _ h) (by decide +kernel))) (goodIn_sub (fun _ h => List.mem_append_left _ (List.mem_append_left _ (List.mem_append_right _ h))) (by decide +kernel))
set_option maxRecDepth 20000 in
theorem gL_law_L_change : GoodIn wsL_law (va_wsS RL 173 yL_change wsL_change) := goodIn_app (goodIn_of _ (by decide +kernel)) ggL_law_L_change
set_option maxRecDepth 20000 in
theorem ggL_law_X8_change : GoodIn wsL_law wsX8_change := goodIn_r _ [788, 103, 77, 467, 468, 469, 5, 470, 264, 106, 107, 108, 109, 110, 111, 112, 759, 760, 761, 762, 763, 764, 765, 516, 517, 518, 519, 721, 722, 723, 724, 265, 81, 725, 726, 727, 728, 1039, 1040, 1041, 1042, 1043, 1044, 1045, 1046, 1047, 1048, 1049, 1050, 1051, 1052, 1053, 1054, 1055] (by decide +kernel) (by decide +kernel)
set_option maxRecDepth 20000 in
theorem gL_law_X8_change : GoodIn wsL_law (wsV RL 175 RX8 yX8_change wsX8_change) := goodIn_app (goodIn_of _ (by decide +kernel)) ggL_law_X8_change
set_option maxRecDepth 20000 in
theorem ggL_law_L_remove : GoodIn wsL_law wsL_remove := goodIn_ca (goodIn_r _ [791, 439, 792, 793, 794, 2, 795, 444, 445, 19, 24, 234, 450, 185, 186, 18, 187, 163, 38, 698, 699, 700, 23, 701, 258, 259, 702, 703, 704, 705, 54, 706, 236, 237, 238, 36, 239, 240, 241, 242, 164, 243, 160, 161, 162, 184, 244, 180, 181, 182, 183, 171, 172, 173, 188, 189, 190, 40, 191, 48, 192, 193, 194, 245, 246, 247, 248, 42, 249, 250, 251, 252, 43, 253, 200, 201, 202, 203, 204, 205, 206, 796, 797, 798, 799, 800, 663, 664, 665, 666, 1031, 1032, 1033, 1034, 1035, 1036, 1037, 1038, 1056, 1057, 1058, 1059, 1060, 1061, 1062, 1063, 1064, 1068, 1069, 1070, 1071] (by decide +kernel) (by decide +kernel)) (goodIn_sub (fun _ h => List.mem_append_right _ h) (by decide +kernel))
set_option maxRecDepth 20000 in
theorem gL_law_L_remove : GoodIn wsL_law (va_wsS RL 176 yL_remove wsL_remove) := goodIn_app (goodIn_of _ (by decide +kernel)) ggL_law_L_remove
set_option maxRecDepth 20000 in
theorem ggL_law_X8_remove : GoodIn wsL_law wsX8_remove := goodIn_r _ [804, 103, 467, 468, 469, 5, 470, 264, 106, 107, 108, 109, 110, 111, 112, 721, 722, 723, 724, 265, 81, 725, 726, 727, 728, 77, 805, 806, 807, 808, 1039, 1040, 1041, 1042, 1043, 1044, 1045, 1046, 1047, 1048, 1049, 1050, 1051, 1052, 1053, 1054, 1055] (by decide +kernel) (by decide +kernel)
set_option maxRecDepth 20000 in
theorem gL_law_X8_remove : GoodIn wsL_law (wsV RL 178 RX8 yX8_remove wsX8_remove) := goodIn_app (goodIn_of _ (by decide +kernel)) ggL_law_X8_remove
set_option maxRecDepth 20000 in
theorem ggL_law_L_see : GoodIn wsL_law wsL_see := goodIn_ca (goodIn_r _ [811, 88, 812, 813, 814, 2, 815, 94, 95, 19, 24, 503, 504, 505, 18, 506, 36, 507, 508, 509, 698, 699, 700, 23, 701, 258, 259, 702, 703, 704, 705, 54, 706, 236, 237, 238, 163, 239, 240, 241, 242, 164, 243, 160, 161, 162, 184, 185, 186, 187, 38, 244, 180, 181, 182, 183, 171, 172, 173, 188, 189, 190, 40, 191, 48, 192, 193, 194, 245, 246, 247, 248, 42, 249, 250, 251, 252, 43, 253, 200, 201, 202, 203, 204, 205, 206, 816, 353, 354, 355, 356, 357, 358, 359, 360, 361, 362, 363, 364, 309, 310, 365, 366, 367, 368, 297, 298, 299, 300, 341, 302, 303, 304, 305, 306, 307, 308, 1031, 1032, 1033, 1034, 1035, 1036, 1037, 1038, 1056, 1057, 1058, 1059, 1060, 1061, 1062, 1063, 1064, 1068, 1069, 1070, 1071] (by decide +kernel) (by decide +kernel)) (goodIn_sub (fun _ h => List.mem_append_left _ (List.mem_append_left _ (List.mem_append_right _ h))) (by decide +kernel))
set_option maxRecDepth 20000 in
theorem gL_law_L_see : GoodIn wsL_law (va_wsS RL 179 yL_see wsL_see) := goodIn_app (goodIn_of _ (by decide +kernel)) ggL_law_L_see
set_option maxRecDepth 20000 in
theorem ggL_law_X8_see : GoodIn wsL_law wsX8_see := goodIn_r _ [820, 103, 515, 77, 516, 517, 518, 5, 519, 106, 107, 108, 109, 110, 111, 112, 721, 722, 723, 724, 265, 81, 725, 726, 727, 728, 264, 424, 425, 426, 427, 428, 429, 430, 431, 432, 433, 434, 435, 382, 383, 384, 385, 386, 387, 388, 389, 390, 391, 392, 393, 394, 395, 396, 397, 398, 399, 400, 401, 402, 403, 404, 405, 406, 407, 1039, 1040, 1041, 1042, 1043, 1044, 1045, 1046, 1047, 1048, 1049, 1050, 1051, 1052, 1053, 1054, 1055] (by decide +kernel) (by decide +kernel)
set_option maxRecDepth 20000 in
theorem gL_law_X8_see : GoodIn wsL_law (wsV RL 181 RX8 yX8_see wsX8_see) := goodIn_app (goodIn_of _ (by decide +kernel)) ggL_law_X8_see
set_option maxRecDepth 20000 in
theorem ggL_law_X7_forget : GoodIn wsL_law wsX7_forget := goodIn_r _ [824, 24, 19, 276, 698, 699, 700, 23, 701, 258, 259, 702, 703, 704, 705, 54, 706, 236, 237, 18, 238, 36, 163, 239, 240, 241, 242, 164, 243, 160, 161, 162, 184, 185, 186, 187, 38, 244, 180, 181, 182, 183, 171, 172, 173, 188, 189, 190, 40, 191, 48, 192, 193, 194, 245, 246, 247, 248, 42, 249, 250, 251, 252, 43, 253, 200, 201, 202, 203, 204, 205, 206, 1031, 1032, 1033, 1034, 1035, 1036, 1037, 1038, 1056, 1057, 1058, 1059, 1060, 1061, 1062, 1063, 1064, 1068, 1069, 1070, 1071] (by decide +kernel) (by decide +kernel)
set_option maxRecDepth 20000 in
theorem gL_law_X7_forget : GoodIn wsL_law (wsV RL 182 RX7 yX7_forget wsX7_forget) := goodIn_app (goodIn_of _ (by decide +kernel)) ggL_law_X7_forget
set_option maxRecDepth 20000 in
theorem ggL_law_X8_forget : GoodIn wsL_law wsX8_forget := goodIn_r _ [828, 103, 77, 721, 722, 723, 5, 724, 265, 81, 725, 726, 727, 728, 264, 1039, 1040, 1041, 1042, 1043, 1044, 1045, 1046, 1047, 1048, 1049, 1050, 1051, 1052, 1053, 1054, 1055] (by decide +kernel) (by decide +kernel)
set_option maxRecDepth 20000 in
theorem gL_law_X8_forget : GoodIn wsL_law (wsV RL 185 RX8 yX8_forget wsX8_forget) := goodIn_app (goodIn_of _ (by decide +kernel)) ggL_law_X8_forget
set_option maxRecDepth 20000 in
theorem ggL_law_L_undo : GoodIn wsL_law wsL_undo := goodIn_ca (goodIn_r _ [831, 89, 832, 833, 834, 2, 835, 96, 97, 24, 836, 19, 837, 838, 839, 23, 840, 259, 258, 702, 703, 704, 705, 54, 706, 236, 237, 18, 238, 36, 163, 239, 240, 241, 242, 164, 243, 160, 161, 162, 184, 185, 186, 187, 38, 244, 180, 181, 182, 183, 171, 172, 173, 188, 189, 190, 40, 191, 48, 192, 193, 194, 245, 246, 247, 248, 42, 249, 250, 251, 252, 43, 253, 200, 201, 202, 203, 204, 205, 206, 1031, 1032, 1033, 1034, 1035, 1036, 1037, 1038, 1062, 1063, 1064, 1056, 1057, 1058, 1059, 1060, 1061, 1068, 1069, 1070, 1071] (by decide +kernel) (by decide +kernel)) (goodIn_sub (fun _ h => List.mem_append_left _ (List.mem_append_right _ h)) (by decide +kernel))
set_option maxRecDepth 20000 in
theorem gL_law_L_undo : GoodIn wsL_law (va_wsS RL 186 yL_undo wsL_undo) := goodIn_app (goodIn_of _ (by decide +kernel)) ggL_law_L_undo
set_option maxRecDepth 20000 in
theorem ggL_law_X8_undo : GoodIn wsL_law wsX8_undo := goodIn_r _ [844, 103, 265, 81, 109, 110, 111, 5, 112, 845, 846, 847, 848, 264, 77, 1039, 1040, 1041, 1042, 1043, 1044, 1045, 1046, 1047, 1048, 1049, 1050, 1051, 1052, 1053, 1054, 1055] (by decide +kernel) (by decide +kernel)
set_option maxRecDepth 20000 in
theorem gL_law_X8_undo : GoodIn wsL_law (wsV RL 188 RX8 yX8_undo wsX8_undo) := goodIn_app (goodIn_of _ (by decide +kernel)) ggL_law_X8_undo
set_option maxRecDepth 20000 in
theorem ggL_law_L_bestStart : GoodIn wsL_law wsL_bestStart := goodIn_ca (goodIn_ca (goodIn_r _ [851, 439, 88, 852, 853, 854, 2, 855, 444, 445, 94, 95, 19, 31, 275, 450, 185, 186, 18, 187, 163, 38, 856, 857, 858, 30, 859, 64, 66, 661, 63, 283, 284, 285, 62, 286, 71, 288, 289, 290, 291, 292, 293, 294, 295, 40, 296, 48, 297, 298, 299, 300, 301, 302, 303, 304, 192, 193, 305, 306, 307, 308, 309, 310, 311, 312, 313, 314, 194, 315, 316, 317, 318, 662, 663, 664, 665, 666, 189, 190, 191, 667, 668, 669, 670, 623, 624, 625, 626, 323, 324, 325, 326, 327, 328, 329, 1031, 1032, 1033, 1034, 1035, 1036, 1037, 1038, 1056, 1057, 1058, 1059, 1060, 1061, 1065, 1066, 1067, 1068, 1069, 1070, 1071, 1072] (by decide +kernel) (by decide +kernel)) (goodIn_sub (fun _ h => List.mem_append_right _ h) (by decide +kernel))) (goodIn_sub (fun _ h => List.mem_append_left _ (List.mem_append_left _ (List.mem_append_right _ h))) (by decide +kernel))
set_option maxRecDepth 20000 in
theorem gL_law_L_bestStart : GoodIn wsL_law (va_wsS RL 189 yL_bestStart wsL_bestStart) := goodIn_app (goodIn_of _ (by decide +kernel)) ggL_law_L_bestStart
set_option maxRecDepth 20000 in
theorem ggL_law_X8_bestStart : GoodIn wsL_law wsX8_bestStart := goodIn_r _ [863, 103, 77, 467, 468, 469, 5, 470, 264, 106, 107, 108, 109, 110, 111, 112, 631, 632, 633, 634, 377, 479, 480, 481, 482, 378, 379, 380, 381, 78, 382, 383, 384, 385, 386, 387, 388, 389, 390, 391, 392, 393, 394, 395, 396, 397, 398, 399, 400, 401, 402, 403, 404, 405, 406, 407, 1039, 1040, 1041, 1042, 1043, 1044, 1045, 1046, 1047, 1048, 1049, 1050, 1051, 1052, 1053, 1054, 1055] (by decide +kernel) (by decide +kernel)
set_option maxRecDepth 20000 in
theorem gL_law_X8_bestStart : GoodIn wsL_law (wsV RL 191 RX8 yX8_bestStart wsX8_bestStart) := goodIn_app (goodIn_of _ (by decide +kernel)) ggL_law_X8_bestStart
set_option maxRecDepth 20000 in
theorem ggL_law_L_wheels : GoodIn wsL_law wsL_wheels := goodIn_ca (goodIn_r _ [866, 88, 867, 868, 869, 2, 870, 94, 95, 19, 31, 871, 743, 744, 745, 746, 747, 748, 503, 504, 505, 18, 506, 36, 872, 189, 190, 40, 191, 48, 192, 193, 194, 873, 358, 359, 360, 164, 245, 246, 247, 248, 42, 249, 250, 251, 252, 43, 361, 362, 363, 364, 309, 310, 365, 366, 367, 368, 297, 298, 299, 300, 341, 302, 303, 304, 305, 306, 307, 308, 1031, 1032, 1033, 1034, 1035, 1036, 1037, 1038, 1065, 1066, 1067, 1056, 1057, 1058, 1059, 1060, 1061, 1068, 1069, 1070, 1071] (by decide +kernel) (by decide +kernel)) (goodIn_sub (fun _ h => List.mem_append_left _ (List.mem_append_left _ (List.mem_append_right _ h))) (by decide +kernel))
set_option maxRecDepth 20000 in
theorem gL_law_L_wheels : GoodIn wsL_law (va_wsS RL 192 yL_wheels wsL_wheels) := goodIn_app (goodIn_of _ (by decide +kernel)) ggL_law_L_wheels
set_option maxRecDepth 20000 in
theorem ggL_law_X8_wheels : GoodIn wsL_law wsX8_wheels := goodIn_r _ [877, 103, 611, 755, 756, 757, 5, 758, 759, 760, 761, 762, 763, 764, 765, 106, 107, 108, 516, 517, 518, 519, 77, 109, 110, 111, 112, 878, 879, 880, 881, 882, 883, 884, 885, 390, 391, 392, 405, 406, 407, 1039, 1040, 1041, 1042, 1043, 1044, 1045, 1046, 1047, 1048, 1049, 1050, 1051, 1052, 1053, 1054, 1055] (by decide +kernel) (by decide +kernel)
set_option maxRecDepth 20000 in
theorem gL_law_X8_wheels : GoodIn wsL_law (wsV RL 194 RX8 yX8_wheels wsX8_wheels) := goodIn_app (goodIn_of _ (by decide +kernel)) ggL_law_X8_wheels
set_option maxRecDepth 20000 in
theorem ggL_law_L_wheelFor : GoodIn wsL_law wsL_wheelFor := goodIn_ca (goodIn_r _ [888, 88, 889, 890, 891, 2, 892, 94, 95, 31, 871, 19, 275, 872, 189, 190, 40, 191, 48, 192, 193, 194, 455, 366, 367, 368, 297, 298, 299, 300, 1031, 1032, 1033, 1034, 1035, 1036, 1037, 1038, 1065, 1066, 1067, 1056, 1057, 1058, 1059, 1060, 1061, 1068, 1069, 1070, 1071] (by decide +kernel) (by decide +kernel)) (goodIn_sub (fun _ h => List.mem_append_left _ (List.mem_append_left _ (List.mem_append_right _ h))) (by decide +kernel))
set_option maxRecDepth 20000 in
theorem gL_law_L_wheelFor : GoodIn wsL_law (va_wsS RL 195 yL_wheelFor wsL_wheelFor) := goodIn_app (goodIn_of _ (by decide +kernel)) ggL_law_L_wheelFor
set_option maxRecDepth 20000 in
theorem ggL_law_X8_wheelFor : GoodIn wsL_law wsX8_wheelFor := goodIn_r _ [896, 103, 764, 77, 106, 107, 5, 108, 109, 110, 111, 112, 390, 391, 392, 1039, 1040, 1041, 1042, 1043, 1044, 1045, 1046, 1047, 1048, 1049, 1050, 1051, 1052, 1053, 1054, 1055] (by decide +kernel) (by decide +kernel)
set_option maxRecDepth 20000 in
theorem gL_law_X8_wheelFor : GoodIn wsL_law (wsV RL 197 RX8 yX8_wheelFor wsX8_wheelFor) := goodIn_app (goodIn_of _ (by decide +kernel)) ggL_law_X8_wheelFor
set_option maxRecDepth 20000 in
theorem ggL_law_L_runScript : GoodIn wsL_law wsL_runScript := goodIn_ca (goodIn_r _ [899, 88, 900, 901, 902, 2, 903, 94, 95, 20, 19, 904, 905, 906, 907, 31, 908, 909, 910, 235, 236, 237, 18, 238, 36, 163, 239, 240, 241, 242, 164, 243, 160, 161, 162, 184, 185, 186, 187, 38, 244, 180, 181, 182, 183, 171, 172, 173, 188, 189, 190, 40, 191, 48, 192, 193, 194, 245, 246, 247, 248, 42, 249, 250, 251, 252, 43, 253, 200, 201, 202, 203, 204, 205, 206, 561, 299, 300, 911, 912, 913, 914, 12, 13, 915, 916, 917, 918, 919, 920, 921, 922, 923, 924, 925, 926, 927, 928, 929, 930, 931, 932, 933, 778, 779, 780, 741, 742, 744, 745, 747, 748, 711, 504, 505, 506, 934, 782, 783, 784, 935, 936, 937, 938, 939, 797, 798, 799, 800, 663, 664, 665, 666, 940, 941, 942, 943, 696, 697, 944, 708, 709, 710, 945, 946, 947, 948, 949, 950, 951, 952, 953, 954, 955, 956, 620, 621, 30, 622, 63, 64, 283, 284, 285, 62, 286, 71, 288, 289, 290, 291, 292, 293, 294, 295, 296, 297, 298, 301, 302, 303, 304, 305, 306, 307, 308, 309, 310, 311, 312, 313, 314, 315, 316, 317, 318, 623, 624, 625, 626, 323, 324, 325, 326, 327, 328, 329, 957, 958, 959, 960, 961, 366, 367, 368, 962, 963, 964, 965, 966, 658, 659, 660, 66, 661, 662, 667, 668, 669, 670, 671, 672, 673, 674, 675, 967, 354, 355, 356, 357, 358, 359, 360, 361, 362, 363, 364, 365, 341, 968, 969, 970, 971, 972, 1031, 1032, 1033, 1034, 1035, 1036, 1037, 1038, 1076, 1077, 1078, 1079, 1080, 1056, 1057, 1058, 1059, 1060, 1061, 1068, 1069, 1070, 1071, 1065, 1066, 1067, 1072] (by decide +kernel) (by decide +kernel)) (goodIn_sub (fun _ h => List.mem_append_left _ (List.mem_append_left _ (List.mem_append_right _ h))) (by decide +kernel))
set_option maxRecDepth 20000 in
theorem gL_law_L_runScript : GoodIn wsL_law (va_wsS RL 198 yL_runScript wsL_runScript) := goodIn_app (goodIn_of _ (by decide +kernel)) ggL_law_L_runScript
set_option maxRecDepth 20000 in
theorem ggL_law_X8_runScript : GoodIn wsL_law wsX8_runScript := goodIn_r _ [976, 103, 977, 978, 979, 980, 82, 106, 107, 5, 108, 109, 110, 111, 112, 725, 726, 727, 728, 264, 77, 981, 982, 983, 984, 467, 468, 469, 470, 759, 760, 761, 762, 763, 764, 765, 516, 517, 518, 519, 805, 806, 807, 808, 716, 717, 718, 719, 720, 729, 730, 731, 732, 397, 398, 399, 400, 755, 756, 757, 758, 766, 767, 768, 769, 631, 632, 633, 634, 377, 479, 480, 481, 482, 378, 379, 380, 381, 78, 382, 383, 384, 385, 386, 387, 388, 389, 390, 391, 392, 393, 394, 395, 396, 401, 402, 403, 404, 405, 406, 407, 471, 472, 473, 474, 680, 681, 682, 683, 684, 685, 686, 687, 424, 425, 426, 427, 428, 429, 430, 431, 432, 433, 434, 435, 475, 476, 477, 478, 845, 846, 847, 848, 1039, 1040, 1041, 1042, 1043, 1044, 1045, 1046, 1047, 1048, 1049, 1050, 1051, 1052, 1053, 1054, 1055] (by decide +kernel) (by decide +kernel)
set_option maxRecDepth 20000 in
theorem gL_law_X8_runScript : GoodIn wsL_law (wsV RL 200 RX8 yX8_runScript wsX8_runScript) := goodIn_app (goodIn_of _ (by decide +kernel)) ggL_law_X8_runScript
set_option maxRecDepth 20000 in
theorem ggL_law_L_simulate : GoodIn wsL_law wsL_simulate := goodIn_ca (goodIn_r _ [987, 88, 988, 989, 990, 2, 991, 94, 95, 31, 871, 992, 993, 994, 19, 275, 995, 351, 307, 352, 996, 284, 285, 62, 286, 71, 872, 189, 190, 40, 191, 48, 192, 193, 194, 491, 302, 303, 304, 305, 306, 308, 309, 310, 299, 300, 490, 312, 313, 314, 997, 316, 317, 318, 319, 320, 321, 322, 323, 324, 325, 326, 327, 328, 329, 1031, 1032, 1033, 1034, 1035, 1036, 1037, 1038, 1065, 1066, 1067, 1056, 1057, 1058, 1059, 1060, 1061, 1072, 1068, 1069, 1070, 1071] (by decide +kernel) (by decide +kernel)) (goodIn_sub (fun _ h => List.mem_append_left _ (List.mem_append_left _ (List.mem_append_right _ h))) (by decide +kernel))
set_option maxRecDepth 20000 in
theorem gL_law_L_simulate : GoodIn wsL_law (va_wsS RL 201 yL_simulate wsL_simulate) := goodIn_app (goodIn_of _ (by decide +kernel)) ggL_law_L_simulate
set_option maxRecDepth 20000 in
theorem ggL_law_X8_simulate : GoodIn wsL_law wsX8_simulate := goodIn_r _ [1001, 103, 1002, 377, 1003, 1004, 77, 78, 106, 107, 5, 108, 109, 110, 111, 112, 405, 406, 407, 1039, 1040, 1041, 1042, 1043, 1044, 1045, 1046, 1047, 1048, 1049, 1050, 1051, 1052, 1053, 1054, 1055] (by decide +kernel) (by decide +kernel)
set_option maxRecDepth 20000 in
theorem gL_law_X8_simulate : GoodIn wsL_law (wsV RL 204 RX8 yX8_simulate wsX8_simulate) := goodIn_app (goodIn_of _ (by decide +kernel)) ggL_law_X8_simulate
set_option maxRecDepth 20000 in
theorem ggL_law_L_save : GoodIn wsL_law wsL_save := goodIn_ca (goodIn_r _ [1007, 439, 1008, 1009, 1010, 2, 1011, 444, 445, 27, 19, 234, 1012, 1013, 1014, 1015, 25, 235, 236, 237, 18, 238, 36, 163, 239, 240, 241, 242, 164, 243, 160, 161, 162, 184, 185, 186, 187, 38, 244, 180, 181, 182, 183, 171, 172, 173, 188, 189, 190, 40, 191, 48, 192, 193, 194, 245, 246, 247, 248, 42, 249, 250, 251, 252, 43, 253, 200, 201, 202, 203, 204, 205, 206, 1031, 1032, 1033, 1034, 1035, 1036, 1037, 1038, 1056, 1057, 1058, 1059, 1060, 1061, 1068, 1069, 1070, 1071] (by decide +kernel) (by decide +kernel)) (goodIn_sub (fun _ h => List.mem_append_right _ h) (by decide +kernel))
set_option maxRecDepth 20000 in
theorem gL_law_L_save : GoodIn wsL_law (va_wsS RL 205 yL_save wsL_save) := goodIn_app (goodIn_of _ (by decide +kernel)) ggL_law_L_save
set_option maxRecDepth 20000 in
theorem ggL_law_X8_save : GoodIn wsL_law wsX8_save := goodIn_r _ [1019, 103, 83, 266, 267, 264, 106, 107, 5, 108, 109, 110, 111, 112, 725, 726, 727, 728, 77, 1039, 1040, 1041, 1042, 1043, 1044, 1045, 1046, 1047, 1048, 1049, 1050, 1051, 1052, 1053, 1054, 1055] (by decide +kernel) (by decide +kernel)
set_option maxRecDepth 20000 in
theorem gL_law_X8_save : GoodIn wsL_law (wsV RL 207 RX8 yX8_save wsX8_save) := goodIn_app (goodIn_of _ (by decide +kernel)) ggL_law_X8_save
set_option maxRecDepth 20000 in
theorem ggL_law_L_restore : GoodIn wsL_law wsL_restore := goodIn_ca (goodIn_ca (goodIn_r _ [1022, 439, 89, 1023, 1024, 1025, 2, 1026, 444, 445, 96, 97, 27, 19, 24, 234, 1012, 1013, 1014, 1015, 25, 235, 236, 237, 18, 238, 36, 163, 239, 240, 241, 242, 164, 243, 160, 161, 162, 184, 185, 186, 187, 38, 244, 180, 181, 182, 183, 171, 172, 173, 188, 189, 190, 40, 191, 48, 192, 193, 194, 245, 246, 247, 248, 42, 249, 250, 251, 252, 43, 253, 200, 201, 202, 203, 204, 205, 206, 254, 255, 256, 23, 257, 258, 259, 1031, 1032, 1033, 1034, 1035, 1036, 1037, 1038, 1056, 1057, 1058, 1059, 1060, 1061, 1068, 1069, 1070, 1071, 1062, 1063, 1064] (by decide +kernel) (by decide +kernel)) (goodIn_sub (fun _ h => List.mem_append_right _ h) (by decide +kernel))) (goodIn_sub (fun _ h => List.mem_append_left _ (List.mem_append_right _ h)) (by decide +kernel))
set_option maxRecDepth 20000 in
theorem gL_law_L_restore : GoodIn wsL_law (va_wsS RL 208 yL_restore wsL_restore) := goodIn_app (goodIn_of _ (by decide +kernel)) ggL_law_L_restore
set_option maxRecDepth 20000 in
theorem ggL_law_X8_restore : GoodIn wsL_law wsX8_restore := goodIn_r _ [1030, 103, 266, 267, 83, 265, 264, 106, 107, 5, 108, 109, 110, 111, 112, 845, 846, 847, 848, 77, 1039, 1040, 1041, 1042, 1043, 1044, 1045, 1046, 1047, 1048, 1049, 1050, 1051, 1052, 1053, 1054, 1055] (by decide +kernel) (by decide +kernel)
set_option maxRecDepth 20000 in
theorem gL_law_X8_restore : GoodIn wsL_law (wsV RL 210 RX8 yX8_restore wsX8_restore) := goodIn_app (goodIn_of _ (by decide +kernel)) ggL_law_X8_restore

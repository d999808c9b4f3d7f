set_option maxRecDepth 100000 in
theorem gi_wsL_shown_r4 : GoodIn lw_tbl wsL_shown_r4 := goodIn_r _ [749, 750, 333, 334, 79, 335, 1320, 336, 337, 338, 339, 340, 1321, 751, 347, 348, 349, 350, 351, 352, 353, 354, 355, 80] (by decide +kernel) (by decide +kernel)
set_option maxRecDepth 100000 in
theorem gi_wsL_shown_r5 : GoodIn lw_tbl wsL_shown_r5 := goodIn_r _ [356, 357, 358, 359, 360, 362, 363, 81, 364, 365, 366, 82, 367, 368, 369, 370, 371, 372, 373, 374, 375, 376, 377, 378] (by decide +kernel) (by decide +kernel)
set_option maxRecDepth 100000 in
theorem gi_wsL_shown_r6 : GoodIn lw_tbl wsL_shown_r6 := goodIn_r _ [380, 382, 752, 299, 300, 301, 101, 753, 754, 755, 756, 757, 758, 759, 760, 762, 765, 767, 20, 768, 136, 140, 769, 770] (by decide +kernel) (by decide +kernel)
set_option maxRecDepth 100000 in
theorem gi_wsL_shown_r7 : GoodIn lw_tbl wsL_shown_r7 := goodIn_r _ [771, 772, 777, 779, 21, 780, 147, 783, 785, 22, 786, 122, 125, 143, 437, 438, 448, 449, 846, 343, 344, 345] (by decide +kernel) (by decide +kernel)
theorem gi_wsL_shown : GoodIn lw_tbl wsL_shown := (gi_c gi_k34 (goodIn_app (goodIn_app (goodIn_app (goodIn_app (goodIn_app (goodIn_app (goodIn_app gi_wsL_shown_r1 (goodIn_app gi_wsL_shown_r2 (goodIn_app gi_wsL_shown_r3 (goodIn_app gi_wsL_shown_r4 (goodIn_app gi_wsL_shown_r5 (goodIn_app gi_wsL_shown_r6 gi_wsL_shown_r7)))))) gi_wsX80) gi_wsX20) gi_wsX30) gi_wsX10) gi_wsX60) gi_x1))
set_option maxRecDepth 100000 in
theorem gi_k35 : GoodIn lw_tbl ([Cond.methodLink RL 90 yL_shown, Cond.static yL_shown, Cond.initialized RL] : List Cond) := goodIn_r _ [826, 827, 65] (by decide +kernel) (by decide +kernel)
theorem gL_law_L_shown : GoodIn lw_tbl (va_wsS RL 90 yL_shown wsL_shown) := goodIn_app gi_k35 gi_wsL_shown
set_option maxRecDepth 100000 in
theorem gi_k36 : GoodIn lw_tbl [.code yX9_shown cX9_shown 6 (some .int)] := goodIn_r _ [1264] (by decide +kernel) (by decide +kernel)
set_option maxRecDepth 100000 in
theorem gi_wsX9_shown_r1 : GoodIn lw_tbl wsX9_shown_r1 := goodIn_r _ [984, 964, 965, 966, 974, 967, 973, 968, 969, 970, 957, 956, 1235, 1237, 53, 73, 1238, 977, 1257, 1259, 58, 1260, 975, 976] (by decide +kernel) (by decide +kernel)
set_option maxRecDepth 100000 in
theorem gi_wsX9_shown_r2 : GoodIn lw_tbl wsX9_shown_r2 := goodIn_r _ [1265, 1267, 59, 1268, 1074, 1076, 25, 1077, 955, 1082, 1087, 1114, 1115, 1116, 1117, 1078, 1080, 26, 1081, 954, 1083, 1085, 27, 1086] (by decide +kernel) (by decide +kernel)
set_option maxRecDepth 100000 in
theorem gi_wsX9_shown_r3 : GoodIn lw_tbl wsX9_shown_r3 := goodIn_r _ [1088, 1090, 28, 1091, 1092, 1093, 1094, 1095, 1096, 1097, 1098, 1099, 1100, 1102, 29, 1103, 1108, 1104, 1106, 30, 1107, 1109, 1111, 31] (by decide +kernel) (by decide +kernel)
set_option maxRecDepth 100000 in
theorem gi_wsX9_shown_r4 : GoodIn lw_tbl wsX9_shown_r4 := goodIn_r _ [1112, 1113, 1203, 1205, 46, 1206, 959, 1207, 1209, 47, 1210, 1211, 1213, 48, 1214, 958, 1138, 1139, 1140, 1215, 1217, 49, 1218, 1219] (by decide +kernel) (by decide +kernel)
set_option maxRecDepth 100000 in
theorem gi_wsX9_shown_r5 : GoodIn lw_tbl wsX9_shown_r5 := goodIn_r _ [1221, 50, 1222, 1223, 1225, 51, 1226, 1227, 1229, 52, 1230] (by decide +kernel) (by decide +kernel)
theorem gi_wsX9_shown : GoodIn lw_tbl wsX9_shown := (gi_c gi_k36 (goodIn_app (goodIn_app gi_wsX9_shown_r1 (goodIn_app gi_wsX9_shown_r2 (goodIn_app gi_wsX9_shown_r3 (goodIn_app gi_wsX9_shown_r4 gi_wsX9_shown_r5)))) gi_wsX90))
set_option maxRecDepth 100000 in
theorem gi_k37 : GoodIn lw_tbl ([Cond.methodLink RL 93 yX9_shown, Cond.instanceMethod yX9_shown, Cond.selects RX9 yX9_shown yX9_shown, Cond.initialized RX9] : List Cond) := goodIn_r _ [1261, 1262, 1263, 73] (by decide +kernel) (by decide +kernel)
theorem gL_law_X9_shown : GoodIn lw_tbl (wsV RL 93 RX9 yX9_shown wsX9_shown) := goodIn_app gi_k37 gi_wsX9_shown
set_option maxRecDepth 100000 in
theorem gi_k38 : GoodIn lw_tbl [.codeWith yL_diagnostic cL_diagnostic 5 (some .int) [(0, 10, 13, 23)]] := goodIn_r _ [849] (by decide +kernel) (by decide +kernel)
set_option maxRecDepth 100000 in
theorem gi_k39 : GoodIn lw_tbl ([.classLink RL 23 "java/lang/IndexOutOfBoundsException", .methodLink RL 29 yX8_diagnostic, .instanceMethod yX8_diagnostic, .selects RX8 yX8_diagnostic yX8_diagnostic, .initialized RX8, .code yX8_diagnostic cX8_diagnostic 3 (some .int), .classLink RX8 159 "java/lang/IndexOutOfBoundsException", .initialized "java/lang/IndexOutOfBoundsException", .fieldLink RX8 36 "PauseLog" "diagnostics" "LPauseLog$Diagnostics;", .methodLink RX8 178 yX0_has, .instanceMethod yX0_has, .selects RX0 yX0_has yX0_has, .initialized RX0, .code yX0_has cX0_has 2 (some .boolean), .fieldLink RX0 21 "PauseLog$Diagnostics" "made" "I", .methodLink RX8 183 yX0_fact, .instanceMethod yX0_fact, .selects RX0 yX0_fact yX0_fact, .code yX0_fact cX0_fact 3 (some .int), .fieldLink RX0 9 "PauseLog$Diagnostics" "numbers" "[I", .fieldLink RX0 15 "PauseLog$Diagnostics" "lineNumbers" "[I", .fieldLink RX0 18 "PauseLog$Diagnostics" "faults" "[I", .methodLink RX0 28 yX0_has] : List Cond) := goodIn_r _ [797, 850, 851, 852, 66, 853, 806, 85, 261, 854, 855, 856, 70, 857, 195, 859, 860, 861, 862, 192, 193, 194, 863] (by decide +kernel) (by decide +kernel)

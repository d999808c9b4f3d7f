theorem gi_wsL_drop : GoodIn lw_tbl wsL_drop := (gi_c gi_k8 (goodIn_app (goodIn_app (goodIn_app gi_k9 gi_wsX80) gi_wsX60) gi_x0))
set_option maxRecDepth 100000 in
theorem gi_k10 : GoodIn lw_tbl ([Cond.methodLink RL 64 yL_drop, Cond.static yL_drop, Cond.initialized RL] : List Cond) := goodIn_r _ [636, 637, 65] (by decide +kernel) (by decide +kernel)
theorem gL_law_L_drop : GoodIn lw_tbl (va_wsS RL 64 yL_drop wsL_drop) := goodIn_app gi_k10 gi_wsL_drop
set_option maxRecDepth 100000 in
theorem gi_k11 : GoodIn lw_tbl [.code yX9_drop cX9_drop 3 (some .int)] := goodIn_r _ [1190] (by decide +kernel) (by decide +kernel)
set_option maxRecDepth 100000 in
theorem gi_k12 : GoodIn lw_tbl ([.fieldLink RX9 84 "PauseLogModel" "thrown" "I", .fieldLink RX9 143 "PauseLogModel" "padLong" "I"] : List Cond) := goodIn_r _ [984, 953] (by decide +kernel) (by decide +kernel)
theorem gi_wsX9_drop : GoodIn lw_tbl wsX9_drop := (gi_c gi_k11 (goodIn_app gi_k12 gi_wsX90))
set_option maxRecDepth 100000 in
theorem gi_k13 : GoodIn lw_tbl ([Cond.methodLink RL 69 yX9_drop, Cond.instanceMethod yX9_drop, Cond.selects RX9 yX9_drop yX9_drop, Cond.initialized RX9] : List Cond) := goodIn_r _ [1187, 1188, 1189, 73] (by decide +kernel) (by decide +kernel)
theorem gL_law_X9_drop : GoodIn lw_tbl (wsV RL 69 RX9 yX9_drop wsX9_drop) := goodIn_app gi_k13 gi_wsX9_drop
set_option maxRecDepth 100000 in
theorem gi_k14 : GoodIn lw_tbl [.code yX9_thrown cX9_thrown 1 (some .int)] := goodIn_r _ [1065] (by decide +kernel) (by decide +kernel)
set_option maxRecDepth 100000 in
theorem gi_k15 : GoodIn lw_tbl ([.fieldLink RX9 84 "PauseLogModel" "thrown" "I"] : List Cond) := goodIn_r _ [984] (by decide +kernel) (by decide +kernel)
theorem gi_wsX9_thrown : GoodIn lw_tbl wsX9_thrown := (gi_c gi_k14 (goodIn_app gi_k15 gi_wsX90))
set_option maxRecDepth 100000 in
theorem gi_k16 : GoodIn lw_tbl ([Cond.methodLink RL 70 yX9_thrown, Cond.instanceMethod yX9_thrown, Cond.selects RX9 yX9_thrown yX9_thrown, Cond.initialized RX9] : List Cond) := goodIn_r _ [1062, 1063, 1064, 73] (by decide +kernel) (by decide +kernel)
theorem gL_law_X9_thrown : GoodIn lw_tbl (wsV RL 70 RX9 yX9_thrown wsX9_thrown) := goodIn_app gi_k16 gi_wsX9_thrown
set_option maxRecDepth 100000 in
theorem gi_k17 : GoodIn lw_tbl [.codeWith yL_write cL_write 10 (some .int) [(0, 20, 23, 13)]] := goodIn_r _ [720] (by decide +kernel) (by decide +kernel)
set_option maxRecDepth 100000 in
theorem gi_wsL_write_r1 : GoodIn lw_tbl wsL_write_r1 := goodIn_r _ [639, 721, 722, 723, 66, 724, 644, 77, 259, 130, 134, 137, 141, 144, 149, 257, 103, 725, 726, 727, 68, 728, 118, 122] (by decide +kernel) (by decide +kernel)
set_option maxRecDepth 100000 in
theorem gi_wsL_write_r2 : GoodIn lw_tbl wsL_write_r2 := goodIn_r _ [125, 730, 731, 732, 733, 129, 133, 734, 136, 140, 143, 147, 738, 735, 736, 737, 740, 741, 742, 743, 744, 464, 465, 67] (by decide +kernel) (by decide +kernel)
set_option maxRecDepth 100000 in
theorem gi_wsL_write_r3 : GoodIn lw_tbl wsL_write_r3 := goodIn_r _ [466, 102, 746, 747, 748, 749, 750, 333, 334, 79, 335, 1320, 336, 337, 338, 339, 340, 1321, 751, 347, 348, 349, 350, 351] (by decide +kernel) (by decide +kernel)
set_option maxRecDepth 100000 in
theorem gi_wsL_write_r4 : GoodIn lw_tbl wsL_write_r4 := goodIn_r _ [352, 353, 354, 355, 80, 356, 357, 358, 359, 360, 362, 363, 81, 364, 365, 366, 82, 367, 368, 369, 370, 371, 372, 373] (by decide +kernel) (by decide +kernel)
set_option maxRecDepth 100000 in
theorem gi_wsL_write_r5 : GoodIn lw_tbl wsL_write_r5 := goodIn_r _ [374, 375, 376, 377, 378, 380, 382, 752, 299, 300, 301, 101, 753, 754, 755, 756, 757, 758, 759, 760, 762, 765, 767, 20] (by decide +kernel) (by decide +kernel)
set_option maxRecDepth 100000 in
theorem gi_wsL_write_r6 : GoodIn lw_tbl wsL_write_r6 := goodIn_r _ [768, 769, 770, 771, 772, 777, 779, 21, 780, 783, 785, 22, 786, 437, 438, 448, 449] (by decide +kernel) (by decide +kernel)
theorem gi_wsL_write : GoodIn lw_tbl wsL_write := (gi_c gi_k17 (goodIn_app (goodIn_app (goodIn_app (goodIn_app (goodIn_app gi_wsL_write_r1 (goodIn_app gi_wsL_write_r2 (goodIn_app gi_wsL_write_r3 (goodIn_app gi_wsL_write_r4 (goodIn_app gi_wsL_write_r5 gi_wsL_write_r6))))) gi_wsX80) gi_wsX10) gi_wsX60) gi_x0))
set_option maxRecDepth 100000 in
theorem gi_k18 : GoodIn lw_tbl ([Cond.methodLink RL 74 yL_write, Cond.static yL_write, Cond.initialized RL] : List Cond) := goodIn_r _ [718, 719, 65] (by decide +kernel) (by decide +kernel)
theorem gL_law_L_write : GoodIn lw_tbl (va_wsS RL 74 yL_write wsL_write) := goodIn_app gi_k18 gi_wsL_write
set_option maxRecDepth 100000 in
theorem gi_k19 : GoodIn lw_tbl [.code yX9_write cX9_write 13 (some .int)] := goodIn_r _ [1194] (by decide +kernel) (by decide +kernel)
set_option maxRecDepth 100000 in
theorem gi_wsX9_write_r1 : GoodIn lw_tbl wsX9_write_r1 := goodIn_r _ [1198, 1202, 984, 957, 952, 956, 953, 1195, 1196, 73, 1197, 1138, 1139, 1140, 1199, 1200, 1201, 1074, 1076, 25, 1077, 955, 1082, 1087] (by decide +kernel) (by decide +kernel)
set_option maxRecDepth 100000 in
theorem gi_wsX9_write_r2 : GoodIn lw_tbl wsX9_write_r2 := goodIn_r _ [1114, 1115, 1116, 1117, 1078, 1080, 26, 1081, 954, 1083, 1085, 27, 1086, 1088, 1090, 28, 1091, 1092, 1093, 1094, 1095, 1096, 1097, 1098] (by decide +kernel) (by decide +kernel)
set_option maxRecDepth 100000 in
theorem gi_wsX9_write_r3 : GoodIn lw_tbl wsX9_write_r3 := goodIn_r _ [1099, 1100, 1102, 29, 1103, 1108, 1104, 1106, 30, 1107, 1109, 1111, 31, 1112, 1113, 1203, 1205, 46, 1206, 959, 1207, 1209, 47, 1210] (by decide +kernel) (by decide +kernel)

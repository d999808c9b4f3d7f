set_option maxRecDepth 100000 in
theorem gi_wsX8_line_r10 : GoodIn lw_tbl wsX8_line_r10 := goodIn_r _ [14, 560, 260, 263, 561, 562, 563, 564, 565, 566, 567, 568, 145, 569, 570, 571, 572, 573, 150, 579, 574, 576, 15, 577] (by decide +kernel) (by decide +kernel)
set_option maxRecDepth 100000 in
theorem gi_wsX8_line_r11 : GoodIn lw_tbl wsX8_line_r11 := goodIn_r _ [578, 580, 581, 582, 69, 583, 179, 178, 584, 585, 586, 587, 499, 507, 588, 589, 590, 72, 591, 234, 236, 505, 512, 242] (by decide +kernel) (by decide +kernel)
set_option maxRecDepth 100000 in
theorem gi_wsX8_line_r12 : GoodIn lw_tbl wsX8_line_r12 := goodIn_r _ [514, 233, 238, 501, 503, 240, 496, 498, 592, 594, 16, 595, 268, 516, 596, 597, 598, 599, 600, 602, 17, 603, 604, 605] (by decide +kernel) (by decide +kernel)
set_option maxRecDepth 100000 in
theorem gi_wsX8_line_r13 : GoodIn lw_tbl wsX8_line_r13 := goodIn_r _ [606, 607, 608, 609, 610, 611, 612, 613, 614, 70, 615, 192, 193, 194, 195, 197] (by decide +kernel) (by decide +kernel)
theorem gi_wsX8_line : GoodIn lw_tbl wsX8_line := (gi_c gi_k21 (goodIn_app (goodIn_app (goodIn_app (goodIn_app (goodIn_app (goodIn_app (goodIn_app (goodIn_app (goodIn_app (goodIn_app gi_wsX8_line_r1 (goodIn_app gi_wsX8_line_r2 (goodIn_app gi_wsX8_line_r3 (goodIn_app gi_wsX8_line_r4 (goodIn_app gi_wsX8_line_r5 (goodIn_app gi_wsX8_line_r6 (goodIn_app gi_wsX8_line_r7 (goodIn_app gi_wsX8_line_r8 (goodIn_app gi_wsX8_line_r9 (goodIn_app gi_wsX8_line_r10 (goodIn_app gi_wsX8_line_r11 (goodIn_app gi_wsX8_line_r12 gi_wsX8_line_r13)))))))))))) gi_wsX80) gi_wsX40) gi_wsX10) gi_wsX60) gi_wsX70) gi_wsX20) gi_wsX30) gi_wsX50) gi_wsX00))
set_option maxRecDepth 100000 in
theorem gi_k22 : GoodIn lw_tbl ([Cond.methodLink RL 78 yX8_line, Cond.instanceMethod yX8_line, Cond.selects RX8 yX8_line yX8_line, Cond.initialized RX8] : List Cond) := goodIn_r _ [302, 303, 304, 66] (by decide +kernel) (by decide +kernel)
theorem gL_law_X8_line : GoodIn lw_tbl (wsV RL 78 RX8 yX8_line wsX8_line) := goodIn_app gi_k22 gi_wsX8_line
set_option maxRecDepth 100000 in
theorem gi_k23 : GoodIn lw_tbl [.code yX9_line cX9_line 4 (some .int)] := goodIn_r _ [1069] (by decide +kernel) (by decide +kernel)
set_option maxRecDepth 100000 in
theorem gi_wsX9_line_r1 : GoodIn lw_tbl wsX9_line_r1 := goodIn_r _ [984, 971, 953, 960, 972, 962, 961, 963, 964, 982, 983, 1070, 1072, 24, 73, 1073, 987, 1074, 1076, 25, 1077, 955, 1082, 1087] (by decide +kernel) (by decide +kernel)
set_option maxRecDepth 100000 in
theorem gi_wsX9_line_r2 : GoodIn lw_tbl wsX9_line_r2 := goodIn_r _ [1114, 1115, 1116, 1117, 1078, 1080, 26, 1081, 954, 1083, 1085, 27, 1086, 1088, 1090, 28, 1091, 1092, 1093, 1094, 1095, 1096, 1097, 1098] (by decide +kernel) (by decide +kernel)
set_option maxRecDepth 100000 in
theorem gi_wsX9_line_r3 : GoodIn lw_tbl wsX9_line_r3 := goodIn_r _ [1099, 1100, 1102, 29, 1103, 1108, 1104, 1106, 30, 1107, 1109, 1111, 31, 1112, 1113, 1118, 1120, 32, 1121, 959, 1122, 1124, 33, 1125] (by decide +kernel) (by decide +kernel)
set_option maxRecDepth 100000 in
theorem gi_wsX9_line_r4 : GoodIn lw_tbl wsX9_line_r4 := goodIn_r _ [952, 958, 1126, 1128, 34, 1129, 1130, 1132, 35, 1133, 1134, 1136, 36, 1137, 965, 966, 967, 968, 969, 970, 1138, 1139, 1140, 1141] (by decide +kernel) (by decide +kernel)
set_option maxRecDepth 100000 in
theorem gi_wsX9_line_r5 : GoodIn lw_tbl wsX9_line_r5 := goodIn_r _ [1143, 37, 1144, 977, 1145, 1147, 38, 1148, 1149, 1151, 39, 1152, 1153, 1155, 40, 1156, 1157, 1159, 41, 1160, 1161, 1163, 42, 1164] (by decide +kernel) (by decide +kernel)
set_option maxRecDepth 100000 in
theorem gi_wsX9_line_r6 : GoodIn lw_tbl wsX9_line_r6 := goodIn_r _ [1165, 1166, 1167, 1169, 43, 1170, 978, 981, 979, 980, 1171, 1173, 44, 1174, 973, 974, 975, 976] (by decide +kernel) (by decide +kernel)

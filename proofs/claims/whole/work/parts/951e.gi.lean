theorem gi_wsX9_line : GoodIn lw_tbl wsX9_line := (gi_c gi_k23 (goodIn_app (goodIn_app gi_wsX9_line_r1 (goodIn_app gi_wsX9_line_r2 (goodIn_app gi_wsX9_line_r3 (goodIn_app gi_wsX9_line_r4 (goodIn_app gi_wsX9_line_r5 gi_wsX9_line_r6))))) gi_wsX90))
set_option maxRecDepth 100000 in
theorem gi_k24 : GoodIn lw_tbl ([Cond.methodLink RL 81 yX9_line, Cond.instanceMethod yX9_line, Cond.selects RX9 yX9_line yX9_line, Cond.initialized RX9] : List Cond) := goodIn_r _ [1066, 1067, 1068, 73] (by decide +kernel) (by decide +kernel)
theorem gL_law_X9_line : GoodIn lw_tbl (wsV RL 81 RX9 yX9_line wsX9_line) := goodIn_app gi_k24 gi_wsX9_line
set_option maxRecDepth 100000 in
theorem gi_k25 : GoodIn lw_tbl [.code yX8_finish cX8_finish 2 (some .int)] := goodIn_r _ [619] (by decide +kernel) (by decide +kernel)
set_option maxRecDepth 100000 in
theorem gi_wsX8_finish_r1 : GoodIn lw_tbl wsX8_finish_r1 := goodIn_r _ [264, 265, 266, 262, 263, 620, 622, 18, 66, 623, 261, 490, 516, 612, 613, 614, 70, 615, 192, 193, 194, 195, 197, 624] (by decide +kernel) (by decide +kernel)
set_option maxRecDepth 100000 in
theorem gi_wsX8_finish_r2 : GoodIn lw_tbl wsX8_finish_r2 := goodIn_r _ [625, 626, 71, 627, 217, 218, 219, 628, 629, 630, 631, 632, 633, 634, 72, 635, 233] (by decide +kernel) (by decide +kernel)
theorem gi_wsX8_finish : GoodIn lw_tbl wsX8_finish := (gi_c gi_k25 (goodIn_app (goodIn_app (goodIn_app (goodIn_app (goodIn_app (goodIn_app gi_wsX8_finish_r1 gi_wsX8_finish_r2) gi_wsX80) gi_wsX20) gi_wsX00) gi_wsX70) gi_wsX50))
set_option maxRecDepth 100000 in
theorem gi_k26 : GoodIn lw_tbl ([Cond.methodLink RL 82 yX8_finish, Cond.instanceMethod yX8_finish, Cond.selects RX8 yX8_finish yX8_finish, Cond.initialized RX8] : List Cond) := goodIn_r _ [616, 617, 618, 66] (by decide +kernel) (by decide +kernel)
theorem gL_law_X8_finish : GoodIn lw_tbl (wsV RL 82 RX8 yX8_finish wsX8_finish) := goodIn_app gi_k26 gi_wsX8_finish
set_option maxRecDepth 100000 in
theorem gi_k27 : GoodIn lw_tbl [.code yX9_finish cX9_finish 3 (some .int)] := goodIn_r _ [1178] (by decide +kernel) (by decide +kernel)
set_option maxRecDepth 100000 in
theorem gi_k28 : GoodIn lw_tbl ([.fieldLink RX9 84 "PauseLogModel" "thrown" "I", .fieldLink RX9 77 "PauseLogModel" "openPause" "I", .fieldLink RX9 81 "PauseLogModel" "openMark" "I", .fieldLink RX9 175 "PauseLogModel" "lines" "I", .fieldLink RX9 32 "PauseLogModel" "owner" "[I", .fieldLink RX9 182 "PauseLogModel" "logs" "I", .methodLink RX9 223 yX9_owned, .instanceMethod yX9_owned, .selects RX9 yX9_owned yX9_owned, .initialized RX9, .code yX9_owned cX9_owned 4 (some .int), .methodLink RX9 217 yX9_diagnose, .instanceMethod yX9_diagnose, .selects RX9 yX9_diagnose yX9_diagnose, .code yX9_diagnose cX9_diagnose 4 none, .fieldLink RX9 68 "PauseLogModel" "problem" "[I", .fieldLink RX9 208 "PauseLogModel" "problems" "I", .fieldLink RX9 71 "PauseLogModel" "problemLine" "[I", .fieldLink RX9 74 "PauseLogModel" "problemFault" "[I"] : List Cond) := goodIn_r _ [984, 982, 983, 971, 963, 972, 1179, 1181, 45, 73, 1182, 1167, 1169, 43, 1170, 978, 981, 979, 980] (by decide +kernel) (by decide +kernel)
theorem gi_wsX9_finish : GoodIn lw_tbl wsX9_finish := (gi_c gi_k27 (goodIn_app gi_k28 gi_wsX90))
set_option maxRecDepth 100000 in
theorem gi_k29 : GoodIn lw_tbl ([Cond.methodLink RL 85 yX9_finish, Cond.instanceMethod yX9_finish, Cond.selects RX9 yX9_finish yX9_finish, Cond.initialized RX9] : List Cond) := goodIn_r _ [1175, 1176, 1177, 73] (by decide +kernel) (by decide +kernel)
theorem gL_law_X9_finish : GoodIn lw_tbl (wsV RL 85 RX9 yX9_finish wsX9_finish) := goodIn_app gi_k29 gi_wsX9_finish
set_option maxRecDepth 100000 in
theorem gi_k30 : GoodIn lw_tbl [.codeWith yL_event cL_event 5 (some .int) [(0, 10, 13, 23)]] := goodIn_r _ [796] (by decide +kernel) (by decide +kernel)
set_option maxRecDepth 100000 in
theorem gi_wsL_event_r1 : GoodIn lw_tbl wsL_event_r1 := goodIn_r _ [797, 798, 799, 800, 66, 801, 806, 85, 260, 802, 803, 804, 69, 805, 179, 178, 822, 823, 824, 84, 825, 497, 491, 495] (by decide +kernel) (by decide +kernel)
set_option maxRecDepth 100000 in
theorem gi_wsL_event_r2 : GoodIn lw_tbl wsL_event_r2 := goodIn_r _ [499, 493, 500, 502, 504, 507, 509, 510, 511, 513, 515] (by decide +kernel) (by decide +kernel)
theorem gi_wsL_event : GoodIn lw_tbl wsL_event := (gi_c gi_k30 (goodIn_app (goodIn_app (goodIn_app (goodIn_app (goodIn_app gi_wsL_event_r1 gi_wsL_event_r2) gi_wsX80) gi_wsX30) gi_wsX20) gi_x1))
set_option maxRecDepth 100000 in
theorem gi_k31 : GoodIn lw_tbl ([Cond.methodLink RL 86 yL_event, Cond.static yL_event, Cond.initialized RL] : List Cond) := goodIn_r _ [794, 795, 65] (by decide +kernel) (by decide +kernel)
theorem gL_law_L_event : GoodIn lw_tbl (va_wsS RL 86 yL_event wsL_event) := goodIn_app gi_k31 gi_wsL_event
set_option maxRecDepth 100000 in
theorem gi_k32 : GoodIn lw_tbl [.code yX9_event cX9_event 4 (some .int)] := goodIn_r _ [1234] (by decide +kernel) (by decide +kernel)
set_option maxRecDepth 100000 in
theorem gi_wsX9_event_r1 : GoodIn lw_tbl wsX9_event_r1 := goodIn_r _ [984, 974, 968, 973, 967, 966, 975, 976, 1235, 1237, 53, 73, 1238, 977, 1195, 1196, 1197, 1239, 1241, 54, 1242, 964, 1243, 1245] (by decide +kernel) (by decide +kernel)
set_option maxRecDepth 100000 in
theorem gi_wsX9_event_r2 : GoodIn lw_tbl wsX9_event_r2 := goodIn_r _ [55, 1246, 965, 1247, 1249, 56, 1250, 969, 1251, 1253, 57, 1254, 970, 1165, 1255, 1256, 1257, 1259, 58, 1260] (by decide +kernel) (by decide +kernel)
theorem gi_wsX9_event : GoodIn lw_tbl wsX9_event := (gi_c gi_k32 (goodIn_app (goodIn_app gi_wsX9_event_r1 gi_wsX9_event_r2) gi_wsX90))
set_option maxRecDepth 100000 in
theorem gi_k33 : GoodIn lw_tbl ([Cond.methodLink RL 89 yX9_event, Cond.instanceMethod yX9_event, Cond.selects RX9 yX9_event yX9_event, Cond.initialized RX9] : List Cond) := goodIn_r _ [1231, 1232, 1233, 73] (by decide +kernel) (by decide +kernel)
theorem gL_law_X9_event : GoodIn lw_tbl (wsV RL 89 RX9 yX9_event wsX9_event) := goodIn_app gi_k33 gi_wsX9_event
set_option maxRecDepth 100000 in
theorem gi_k34 : GoodIn lw_tbl [.codeWith yL_shown cL_shown 6 (some .int) [(0, 12, 15, 23)]] := goodIn_r _ [828] (by decide +kernel) (by decide +kernel)
set_option maxRecDepth 100000 in
theorem gi_wsL_shown_r1 : GoodIn lw_tbl wsL_shown_r1 := goodIn_r _ [797, 829, 830, 831, 66, 832, 806, 85, 260, 516, 259, 258, 802, 803, 804, 69, 805, 179, 178, 834, 835, 836, 84, 837] (by decide +kernel) (by decide +kernel)
set_option maxRecDepth 100000 in
theorem gi_wsL_shown_r2 : GoodIn lw_tbl wsL_shown_r2 := goodIn_r _ [491, 127, 495, 131, 497, 121, 493, 124, 117, 515, 509, 135, 510, 139, 511, 513, 838, 839, 840, 841, 842, 844, 23, 845] (by decide +kernel) (by decide +kernel)
set_option maxRecDepth 100000 in
theorem gi_wsL_shown_r3 : GoodIn lw_tbl wsL_shown_r3 := goodIn_r _ [499, 500, 502, 504, 145, 507, 150, 740, 741, 742, 68, 743, 133, 129, 118, 744, 464, 465, 67, 466, 102, 746, 747, 748] (by decide +kernel) (by decide +kernel)

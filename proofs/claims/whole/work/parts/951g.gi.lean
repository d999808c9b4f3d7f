theorem gi_wsL_diagnostic : GoodIn lw_tbl wsL_diagnostic := (gi_c gi_k38 (goodIn_app (goodIn_app (goodIn_app gi_k39 gi_wsX80) gi_wsX00) gi_x1))
set_option maxRecDepth 100000 in
theorem gi_k40 : GoodIn lw_tbl ([Cond.methodLink RL 94 yL_diagnostic, Cond.static yL_diagnostic, Cond.initialized RL] : List Cond) := goodIn_r _ [847, 848, 65] (by decide +kernel) (by decide +kernel)
theorem gL_law_L_diagnostic : GoodIn lw_tbl (va_wsS RL 94 yL_diagnostic wsL_diagnostic) := goodIn_app gi_k40 gi_wsL_diagnostic
set_option maxRecDepth 100000 in
theorem gi_k41 : GoodIn lw_tbl [.code yX9_diagnostic cX9_diagnostic 4 (some .int)] := goodIn_r _ [1272] (by decide +kernel) (by decide +kernel)
set_option maxRecDepth 100000 in
theorem gi_k42 : GoodIn lw_tbl ([.fieldLink RX9 208 "PauseLogModel" "problems" "I", .fieldLink RX9 84 "PauseLogModel" "thrown" "I", .fieldLink RX9 68 "PauseLogModel" "problem" "[I", .fieldLink RX9 71 "PauseLogModel" "problemLine" "[I", .fieldLink RX9 74 "PauseLogModel" "problemFault" "[I", .methodLink RX9 238 yX9_tells, .static yX9_tells, .initialized RX9, .code yX9_tells cX9_tells 2 (some .boolean)] : List Cond) := goodIn_r _ [981, 984, 978, 979, 980, 1195, 1196, 73, 1197] (by decide +kernel) (by decide +kernel)
theorem gi_wsX9_diagnostic : GoodIn lw_tbl wsX9_diagnostic := (gi_c gi_k41 (goodIn_app gi_k42 gi_wsX90))
set_option maxRecDepth 100000 in
theorem gi_k43 : GoodIn lw_tbl ([Cond.methodLink RL 96 yX9_diagnostic, Cond.instanceMethod yX9_diagnostic, Cond.selects RX9 yX9_diagnostic yX9_diagnostic, Cond.initialized RX9] : List Cond) := goodIn_r _ [1269, 1270, 1271, 73] (by decide +kernel) (by decide +kernel)
theorem gL_law_X9_diagnostic : GoodIn lw_tbl (wsV RL 96 RX9 yX9_diagnostic wsX9_diagnostic) := goodIn_app gi_k43 gi_wsX9_diagnostic
set_option maxRecDepth 100000 in
theorem gi_k44 : GoodIn lw_tbl [.codeWith yL_throughput cL_throughput 3 (some .int) [(0, 7, 10, 36)]] := goodIn_r _ [866] (by decide +kernel) (by decide +kernel)
set_option maxRecDepth 100000 in
theorem gi_k45 : GoodIn lw_tbl ([.classLink RL 36 "java/lang/IllegalStateException", .methodLink RL 32 yX8_throughput, .instanceMethod yX8_throughput, .selects RX8 yX8_throughput yX8_throughput, .initialized RX8, .code yX8_throughput cX8_throughput 3 (some .double), .classLink RX8 190 "java/lang/IllegalStateException", .initialized "java/lang/IllegalStateException", .fieldLink RX8 43 "PauseLog" "times" "LPauseLog$Times;", .fieldLink RX8 50 "PauseLog" "sums" "LPauseLog$Sums;", .fieldLink RX8 195 "PauseLog$Sums" "took" "J", .constantLong RX8 198 (1000), .methodLink RX8 186 yX7_span, .instanceMethod yX7_span, .selects RX7 yX7_span yX7_span, .initialized RX7, .code yX7_span cX7_span 1 (some .long), .fieldLink RX7 22 "PauseLog$Times" "spanOfEndedLogs" "J", .fieldLink RX7 15 "PauseLog$Times" "latest" "I", .fieldLink RX7 9 "PauseLog$Times" "first" "I"] : List Cond) := goodIn_r _ [867, 868, 869, 870, 66, 871, 873, 86, 262, 263, 237, 889, 872, 629, 630, 71, 631, 217, 219, 218] (by decide +kernel) (by decide +kernel)
theorem gi_wsL_throughput : GoodIn lw_tbl wsL_throughput := (gi_c gi_k44 (goodIn_app (goodIn_app (goodIn_app (goodIn_app gi_k45 gi_wsX80) gi_wsX50) gi_wsX70) gi_x2))
set_option maxRecDepth 100000 in
theorem gi_k46 : GoodIn lw_tbl ([Cond.methodLink RL 97 yL_throughput, Cond.static yL_throughput, Cond.initialized RL] : List Cond) := goodIn_r _ [864, 865, 65] (by decide +kernel) (by decide +kernel)
theorem gL_law_L_throughput : GoodIn lw_tbl (va_wsS RL 97 yL_throughput wsL_throughput) := goodIn_app gi_k46 gi_wsL_throughput
set_option maxRecDepth 100000 in
theorem gi_k47 : GoodIn lw_tbl [.code yX9_throughput cX9_throughput 6 (some .double)] := goodIn_r _ [1276] (by decide +kernel) (by decide +kernel)
set_option maxRecDepth 100000 in
theorem gi_wsX9_throughput_r1 : GoodIn lw_tbl wsX9_throughput_r1 := goodIn_r _ [984, 977, 1165, 1277, 1279, 60, 73, 1280, 971, 961, 960, 967, 1239, 1241, 54, 1242, 964, 974, 1251, 1253, 57, 1254, 970, 973] (by decide +kernel) (by decide +kernel)
set_option maxRecDepth 100000 in
theorem gi_wsX9_throughput_r2 : GoodIn lw_tbl wsX9_throughput_r2 := goodIn_r _ [1255, 1256] (by decide +kernel) (by decide +kernel)
theorem gi_wsX9_throughput : GoodIn lw_tbl wsX9_throughput := (gi_c gi_k47 (goodIn_app (goodIn_app gi_wsX9_throughput_r1 gi_wsX9_throughput_r2) gi_wsX90))
set_option maxRecDepth 100000 in
theorem gi_k48 : GoodIn lw_tbl ([Cond.methodLink RL 100 yX9_throughput, Cond.instanceMethod yX9_throughput, Cond.selects RX9 yX9_throughput yX9_throughput, Cond.initialized RX9] : List Cond) := goodIn_r _ [1273, 1274, 1275, 73] (by decide +kernel) (by decide +kernel)
theorem gL_law_X9_throughput : GoodIn lw_tbl (wsV RL 100 RX9 yX9_throughput wsX9_throughput) := goodIn_app gi_k48 gi_wsX9_throughput
set_option maxRecDepth 100000 in
theorem gi_k49 : GoodIn lw_tbl [.codeWith yL_rate cL_rate 4 (some .int) [(0, 8, 11, 13), (0, 8, 14, 36)]] := goodIn_r _ [892] (by decide +kernel) (by decide +kernel)
set_option maxRecDepth 100000 in
theorem gi_k50 : GoodIn lw_tbl ([.classLink RL 13 "java/lang/IllegalArgumentException", .classLink RL 36 "java/lang/IllegalStateException", .methodLink RL 38 yX8_rate, .instanceMethod yX8_rate, .selects RX8 yX8_rate yX8_rate, .initialized RX8, .code yX8_rate cX8_rate 6 (some .double), .classLink RX8 62 "java/lang/IllegalArgumentException", .initialized "java/lang/IllegalArgumentException", .classLink RX8 190 "java/lang/IllegalStateException", .initialized "java/lang/IllegalStateException", .fieldLink RX8 50 "PauseLog" "sums" "LPauseLog$Sums;", .fieldLink RX8 202 "PauseLog$Sums" "allocated" "J", .fieldLink RX8 205 "PauseLog$Sums" "promoted" "J", .fieldLink RX8 208 "PauseLog$Sums" "between" "J", .fieldLink RX8 43 "PauseLog" "times" "LPauseLog$Times;", .methodLink RX8 186 yX7_span, .instanceMethod yX7_span, .selects RX7 yX7_span yX7_span, .initialized RX7, .code yX7_span cX7_span 1 (some .long), .fieldLink RX7 22 "PauseLog$Times" "spanOfEndedLogs" "J", .fieldLink RX7 15 "PauseLog$Times" "latest" "I", .fieldLink RX7 9 "PauseLog$Times" "first" "I"] : List Cond) := goodIn_r _ [639, 867, 893, 894, 895, 66, 896, 644, 77, 873, 86, 263, 239, 243, 241, 262, 872, 629, 630, 71, 631, 217, 219, 218] (by decide +kernel) (by decide +kernel)
theorem gi_wsL_rate : GoodIn lw_tbl wsL_rate := (gi_c gi_k49 (goodIn_app (goodIn_app (goodIn_app (goodIn_app (goodIn_app gi_k50 gi_wsX80) gi_wsX50) gi_wsX70) gi_x0) gi_x2))
set_option maxRecDepth 100000 in
theorem gi_k51 : GoodIn lw_tbl ([Cond.methodLink RL 101 yL_rate, Cond.static yL_rate, Cond.initialized RL] : List Cond) := goodIn_r _ [890, 891, 65] (by decide +kernel) (by decide +kernel)
theorem gL_law_L_rate : GoodIn lw_tbl (va_wsS RL 101 yL_rate wsL_rate) := goodIn_app gi_k51 gi_wsL_rate
set_option maxRecDepth 100000 in
theorem gi_k52 : GoodIn lw_tbl [.code yX9_rate cX9_rate 3 (some .double)] := goodIn_r _ [1284] (by decide +kernel) (by decide +kernel)
set_option maxRecDepth 100000 in
theorem gi_wsX9_rate_r1 : GoodIn lw_tbl wsX9_rate_r1 := goodIn_r _ [985, 986, 977, 976, 969, 984, 1285, 1287, 61, 73, 1288, 974, 967, 973, 1239, 1241, 54, 1242, 964, 1289, 1291, 62, 1292, 960] (by decide +kernel) (by decide +kernel)
set_option maxRecDepth 100000 in
theorem gi_wsX9_rate_r2 : GoodIn lw_tbl wsX9_rate_r2 := goodIn_r _ [1277, 1279, 60, 1280, 971, 961] (by decide +kernel) (by decide +kernel)
theorem gi_wsX9_rate : GoodIn lw_tbl wsX9_rate := (gi_c gi_k52 (goodIn_app (goodIn_app gi_wsX9_rate_r1 gi_wsX9_rate_r2) gi_wsX90))
set_option maxRecDepth 100000 in
theorem gi_k53 : GoodIn lw_tbl ([Cond.methodLink RL 104 yX9_rate, Cond.instanceMethod yX9_rate, Cond.selects RX9 yX9_rate yX9_rate, Cond.initialized RX9] : List Cond) := goodIn_r _ [1281, 1282, 1283, 73] (by decide +kernel) (by decide +kernel)
theorem gL_law_X9_rate : GoodIn lw_tbl (wsV RL 104 RX9 yX9_rate wsX9_rate) := goodIn_app gi_k53 gi_wsX9_rate
set_option maxRecDepth 100000 in
theorem gi_k54 : GoodIn lw_tbl [.codeWith yL_percentile cL_percentile 4 (some .int) [(0, 9, 12, 13), (0, 9, 15, 36)]] := goodIn_r _ [901] (by decide +kernel) (by decide +kernel)
set_option maxRecDepth 100000 in
theorem gi_wsL_percentile_r1 : GoodIn lw_tbl wsL_percentile_r1 := goodIn_r _ [639, 867, 902, 903, 904, 66, 905, 644, 77, 873, 86, 263, 235, 908, 260, 180, 508, 802, 803, 804, 69, 805, 179, 178] (by decide +kernel) (by decide +kernel)
set_option maxRecDepth 100000 in
theorem gi_wsL_percentile_r2 : GoodIn lw_tbl wsL_percentile_r2 := goodIn_r _ [909, 839, 840, 84, 841, 497, 910, 911, 912, 913, 506, 914, 915] (by decide +kernel) (by decide +kernel)
theorem gi_wsL_percentile : GoodIn lw_tbl wsL_percentile := (gi_c gi_k54 (goodIn_app (goodIn_app (goodIn_app (goodIn_app (goodIn_app (goodIn_app (goodIn_app gi_wsL_percentile_r1 gi_wsL_percentile_r2) gi_wsX80) gi_wsX50) gi_wsX30) gi_wsX20) gi_x0) gi_x2))
set_option maxRecDepth 100000 in
theorem gi_k55 : GoodIn lw_tbl ([Cond.methodLink RL 105 yL_percentile, Cond.static yL_percentile, Cond.initialized RL] : List Cond) := goodIn_r _ [899, 900, 65] (by decide +kernel) (by decide +kernel)
theorem gL_law_L_percentile : GoodIn lw_tbl (va_wsS RL 105 yL_percentile wsL_percentile) := goodIn_app gi_k55 gi_wsL_percentile
set_option maxRecDepth 100000 in
theorem gi_k56 : GoodIn lw_tbl [.code yX9_percentile cX9_percentile 5 (some .int)] := goodIn_r _ [1296] (by decide +kernel) (by decide +kernel)
set_option maxRecDepth 100000 in
theorem gi_wsX9_percentile_r1 : GoodIn lw_tbl wsX9_percentile_r1 := goodIn_r _ [984, 1256, 977, 1297, 1299, 63, 73, 1300, 1239, 1241, 54, 1242, 964, 974, 1251, 1253, 57, 1254, 970, 1165, 967, 973, 1255, 1301] (by decide +kernel) (by decide +kernel)
set_option maxRecDepth 100000 in
theorem gi_wsX9_percentile_r2 : GoodIn lw_tbl wsX9_percentile_r2 := goodIn_r _ [1303, 64, 1304] (by decide +kernel) (by decide +kernel)
theorem gi_wsX9_percentile : GoodIn lw_tbl wsX9_percentile := (gi_c gi_k56 (goodIn_app (goodIn_app gi_wsX9_percentile_r1 gi_wsX9_percentile_r2) gi_wsX90))
set_option maxRecDepth 100000 in
theorem gi_k57 : GoodIn lw_tbl ([Cond.methodLink RL 107 yX9_percentile, Cond.instanceMethod yX9_percentile, Cond.selects RX9 yX9_percentile yX9_percentile, Cond.initialized RX9] : List Cond) := goodIn_r _ [1293, 1294, 1295, 73] (by decide +kernel) (by decide +kernel)
theorem gL_law_X9_percentile : GoodIn lw_tbl (wsV RL 107 RX9 yX9_percentile wsX9_percentile) := goodIn_app gi_k57 gi_wsX9_percentile
set_option maxRecDepth 100000 in
theorem gi_k58 : GoodIn lw_tbl [.codeWith yL_bucket cL_bucket 4 (some .int) [(0, 9, 12, 23)]] := goodIn_r _ [918] (by decide +kernel) (by decide +kernel)
set_option maxRecDepth 100000 in
theorem gi_wsL_bucket_r1 : GoodIn lw_tbl wsL_bucket_r1 := goodIn_r _ [797, 919, 920, 921, 66, 922, 806, 85, 260, 910, 911, 912, 69, 913, 179, 506, 914, 803, 804, 805, 178, 915, 839, 840] (by decide +kernel) (by decide +kernel)

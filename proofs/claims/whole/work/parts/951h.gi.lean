set_option maxRecDepth 100000 in
theorem gi_wsL_bucket_r2 : GoodIn lw_tbl wsL_bucket_r2 := goodIn_r _ [84, 841, 497] (by decide +kernel) (by decide +kernel)
theorem gi_wsL_bucket : GoodIn lw_tbl wsL_bucket := (gi_c gi_k58 (goodIn_app (goodIn_app (goodIn_app (goodIn_app (goodIn_app gi_wsL_bucket_r1 gi_wsL_bucket_r2) gi_wsX80) gi_wsX30) gi_wsX20) gi_x1))
set_option maxRecDepth 100000 in
theorem gi_k59 : GoodIn lw_tbl ([Cond.methodLink RL 108 yL_bucket, Cond.static yL_bucket, Cond.initialized RL] : List Cond) := goodIn_r _ [916, 917, 65] (by decide +kernel) (by decide +kernel)
theorem gL_law_L_bucket : GoodIn lw_tbl (va_wsS RL 108 yL_bucket wsL_bucket) := goodIn_app gi_k59 gi_wsL_bucket
set_option maxRecDepth 100000 in
theorem gi_k60 : GoodIn lw_tbl [.code yX9_bucket cX9_bucket 2 (some .int)] := goodIn_r _ [1308] (by decide +kernel) (by decide +kernel)
set_option maxRecDepth 100000 in
theorem gi_wsX9_bucket_r1 : GoodIn lw_tbl wsX9_bucket_r1 := goodIn_r _ [984, 1195, 1196, 73, 1197, 1301, 1303, 64, 1304, 977, 1239, 1241, 54, 1242, 964, 974, 1251, 1253, 57, 1254, 970, 1165, 967, 973] (by decide +kernel) (by decide +kernel)
set_option maxRecDepth 100000 in
theorem gi_wsX9_bucket_r2 : GoodIn lw_tbl wsX9_bucket_r2 := goodIn_r _ [1255, 1256] (by decide +kernel) (by decide +kernel)
theorem gi_wsX9_bucket : GoodIn lw_tbl wsX9_bucket := (gi_c gi_k60 (goodIn_app (goodIn_app gi_wsX9_bucket_r1 gi_wsX9_bucket_r2) gi_wsX90))
set_option maxRecDepth 100000 in
theorem gi_k61 : GoodIn lw_tbl ([Cond.methodLink RL 110 yX9_bucket, Cond.instanceMethod yX9_bucket, Cond.selects RX9 yX9_bucket yX9_bucket, Cond.initialized RX9] : List Cond) := goodIn_r _ [1305, 1306, 1307, 73] (by decide +kernel) (by decide +kernel)
theorem gL_law_X9_bucket : GoodIn lw_tbl (wsV RL 110 RX9 yX9_bucket wsX9_bucket) := goodIn_app gi_k61 gi_wsX9_bucket
set_option maxRecDepth 100000 in
theorem gi_k62 : GoodIn lw_tbl [.codeWith yL_ofCause cL_ofCause 4 (some .int) [(0, 8, 11, 23)]] := goodIn_r _ [926] (by decide +kernel) (by decide +kernel)
set_option maxRecDepth 100000 in
theorem gi_wsL_ofCause_r1 : GoodIn lw_tbl wsL_ofCause_r1 := goodIn_r _ [797, 927, 928, 929, 66, 930, 806, 85, 260, 180, 494, 508, 802, 803, 804, 69, 805, 179, 178, 909, 839, 840, 84, 841] (by decide +kernel) (by decide +kernel)
set_option maxRecDepth 100000 in
theorem gi_wsL_ofCause_r2 : GoodIn lw_tbl wsL_ofCause_r2 := goodIn_r _ [497] (by decide +kernel) (by decide +kernel)
theorem gi_wsL_ofCause : GoodIn lw_tbl wsL_ofCause := (gi_c gi_k62 (goodIn_app (goodIn_app (goodIn_app (goodIn_app (goodIn_app gi_wsL_ofCause_r1 gi_wsL_ofCause_r2) gi_wsX80) gi_wsX30) gi_wsX20) gi_x1))
set_option maxRecDepth 100000 in
theorem gi_k63 : GoodIn lw_tbl ([Cond.methodLink RL 111 yL_ofCause, Cond.static yL_ofCause, Cond.initialized RL] : List Cond) := goodIn_r _ [924, 925, 65] (by decide +kernel) (by decide +kernel)
theorem gL_law_L_ofCause : GoodIn lw_tbl (va_wsS RL 111 yL_ofCause wsL_ofCause) := goodIn_app gi_k63 gi_wsL_ofCause
set_option maxRecDepth 100000 in
theorem gi_k64 : GoodIn lw_tbl [.code yX9_ofCause cX9_ofCause 5 (some .long)] := goodIn_r _ [1312] (by decide +kernel) (by decide +kernel)
set_option maxRecDepth 100000 in
theorem gi_k65 : GoodIn lw_tbl ([.fieldLink RX9 84 "PauseLogModel" "thrown" "I", .fieldLink RX9 205 "PauseLogModel" "events" "I", .fieldLink RX9 41 "PauseLogModel" "cause" "[I", .fieldLink RX9 56 "PauseLogModel" "beginLine" "[I", .methodLink RX9 238 yX9_tells, .static yX9_tells, .initialized RX9, .code yX9_tells cX9_tells 2 (some .boolean), .methodLink RX9 259 yX9_isPause, .instanceMethod yX9_isPause, .selects RX9 yX9_isPause yX9_isPause, .code yX9_isPause cX9_isPause 2 (some .boolean), .fieldLink RX9 35 "PauseLogModel" "shape" "[I", .fieldLink RX9 59 "PauseLogModel" "endLine" "[I", .methodLink RX9 274 yX9_tookOf, .instanceMethod yX9_tookOf, .selects RX9 yX9_tookOf yX9_tookOf, .code yX9_tookOf cX9_tookOf 5 (some .int), .fieldLink RX9 53 "PauseLogModel" "took" "[I", .constantLong RX9 185 (1000), .fieldLink RX9 44 "PauseLogModel" "time" "[I", .constantLong RX9 262 (2147483647), .constant RX9 264 (2147483647)] : List Cond) := goodIn_r _ [984, 977, 966, 973, 1195, 1196, 73, 1197, 1239, 1241, 54, 1242, 964, 974, 1251, 1253, 57, 1254, 970, 1165, 967, 1255, 1256] (by decide +kernel) (by decide +kernel)
theorem gi_wsX9_ofCause : GoodIn lw_tbl wsX9_ofCause := (gi_c gi_k64 (goodIn_app gi_k65 gi_wsX90))
set_option maxRecDepth 100000 in
theorem gi_k66 : GoodIn lw_tbl ([Cond.methodLink RL 113 yX9_ofCause, Cond.instanceMethod yX9_ofCause, Cond.selects RX9 yX9_ofCause yX9_ofCause, Cond.initialized RX9] : List Cond) := goodIn_r _ [1309, 1310, 1311, 73] (by decide +kernel) (by decide +kernel)
theorem gL_law_X9_ofCause : GoodIn lw_tbl (wsV RL 113 RX9 yX9_ofCause wsX9_ofCause) := goodIn_app gi_k66 gi_wsX9_ofCause
set_option maxRecDepth 100000 in
theorem gi_k67 : GoodIn lw_tbl [.codeWith yL_count cL_count 4 (some .int) [(0, 9, 12, 23)]] := goodIn_r _ [934] (by decide +kernel) (by decide +kernel)
set_option maxRecDepth 100000 in
theorem gi_wsL_count_r1 : GoodIn lw_tbl wsL_count_r1 := goodIn_r _ [797, 935, 936, 937, 66, 938, 806, 85, 267, 260, 180, 261, 196, 268, 198, 264, 265, 257, 103, 262, 263, 235, 939, 940] (by decide +kernel) (by decide +kernel)
set_option maxRecDepth 100000 in
theorem gi_wsL_count_r2 : GoodIn lw_tbl wsL_count_r2 := goodIn_r _ [941, 516, 872, 629, 630, 71, 631, 217, 219, 218, 942, 943, 944, 492] (by decide +kernel) (by decide +kernel)
theorem gi_wsL_count : GoodIn lw_tbl wsL_count := (gi_c gi_k67 (goodIn_app (goodIn_app (goodIn_app (goodIn_app (goodIn_app (goodIn_app (goodIn_app (goodIn_app (goodIn_app gi_wsL_count_r1 gi_wsL_count_r2) gi_wsX80) gi_wsX30) gi_wsX00) gi_wsX60) gi_wsX50) gi_wsX20) gi_wsX70) gi_x1))
set_option maxRecDepth 100000 in
theorem gi_k68 : GoodIn lw_tbl ([Cond.methodLink RL 114 yL_count, Cond.static yL_count, Cond.initialized RL] : List Cond) := goodIn_r _ [932, 933, 65] (by decide +kernel) (by decide +kernel)
theorem gL_law_L_count : GoodIn lw_tbl (va_wsS RL 114 yL_count wsL_count) := goodIn_app gi_k68 gi_wsL_count
set_option maxRecDepth 100000 in
theorem gi_k69 : GoodIn lw_tbl [.code yX9_count cX9_count 2 (some .int)] := goodIn_r _ [1316] (by decide +kernel) (by decide +kernel)
set_option maxRecDepth 100000 in
theorem gi_wsX9_count_r1 : GoodIn lw_tbl wsX9_count_r1 := goodIn_r _ [984, 971, 977, 981, 953, 982, 968, 983, 1195, 1196, 73, 1197, 1179, 1181, 45, 1182, 963, 1277, 1279, 60, 1280, 961, 960, 967] (by decide +kernel) (by decide +kernel)
set_option maxRecDepth 100000 in
theorem gi_wsX9_count_r2 : GoodIn lw_tbl wsX9_count_r2 := goodIn_r _ [1297, 1299, 63, 1300, 1239, 1241, 54, 1242, 964, 974] (by decide +kernel) (by decide +kernel)
theorem gi_wsX9_count : GoodIn lw_tbl wsX9_count := (gi_c gi_k69 (goodIn_app (goodIn_app gi_wsX9_count_r1 gi_wsX9_count_r2) gi_wsX90))
set_option maxRecDepth 100000 in
theorem gi_k70 : GoodIn lw_tbl ([Cond.methodLink RL 116 yX9_count, Cond.instanceMethod yX9_count, Cond.selects RX9 yX9_count yX9_count, Cond.initialized RX9] : List Cond) := goodIn_r _ [1313, 1314, 1315, 73] (by decide +kernel) (by decide +kernel)
theorem gL_law_X9_count : GoodIn lw_tbl (wsV RL 116 RX9 yX9_count wsX9_count) := goodIn_app gi_k70 gi_wsX9_count

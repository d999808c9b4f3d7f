set_option maxRecDepth 100000 in
theorem gi_wsX9_write_r4 : GoodIn lw_tbl wsX9_write_r4 := goodIn_r _ [1211, 1213, 48, 1214, 958, 1215, 1217, 49, 1218, 1219, 1221, 50, 1222, 1223, 1225, 51, 1226, 1227, 1229, 52, 1230] (by decide +kernel) (by decide +kernel)
theorem gi_wsX9_write : GoodIn lw_tbl wsX9_write := (gi_c gi_k19 (goodIn_app (goodIn_app gi_wsX9_write_r1 (goodIn_app gi_wsX9_write_r2 (goodIn_app gi_wsX9_write_r3 gi_wsX9_write_r4))) gi_wsX90))
set_option maxRecDepth 100000 in
theorem gi_k20 : GoodIn lw_tbl ([Cond.methodLink RL 77 yX9_write, Cond.instanceMethod yX9_write, Cond.selects RX9 yX9_write yX9_write, Cond.initialized RX9] : List Cond) := goodIn_r _ [1191, 1192, 1193, 73] (by decide +kernel) (by decide +kernel)
theorem gL_law_X9_write : GoodIn lw_tbl (wsV RL 77 RX9 yX9_write wsX9_write) := goodIn_app gi_k20 gi_wsX9_write
set_option maxRecDepth 100000 in
theorem gi_k21 : GoodIn lw_tbl [.code yX8_line cX8_line 4 (some .int)] := goodIn_r _ [305] (by decide +kernel) (by decide +kernel)
set_option maxRecDepth 100000 in
theorem gi_wsX8_line_r1 : GoodIn lw_tbl wsX8_line_r1 := goodIn_r _ [267, 306, 307, 83, 257, 259, 261, 315, 308, 309, 310, 311, 93, 94, 312, 323, 324, 325, 326, 132, 128, 328, 330, 0] (by decide +kernel) (by decide +kernel)
set_option maxRecDepth 100000 in
theorem gi_wsX8_line_r2 : GoodIn lw_tbl wsX8_line_r2 := goodIn_r _ [331, 313, 314, 332, 333, 334, 79, 335, 1320, 336, 337, 338, 339, 340, 1321, 342, 343, 344, 67, 345, 102, 101, 346, 347] (by decide +kernel) (by decide +kernel)
set_option maxRecDepth 100000 in
theorem gi_wsX8_line_r3 : GoodIn lw_tbl wsX8_line_r3 := goodIn_r _ [348, 349, 350, 351, 352, 353, 354, 355, 80, 356, 357, 358, 359, 360, 362, 363, 81, 364, 365, 366, 82, 367, 368, 369] (by decide +kernel) (by decide +kernel)
set_option maxRecDepth 100000 in
theorem gi_wsX8_line_r4 : GoodIn lw_tbl wsX8_line_r4 := goodIn_r _ [370, 371, 372, 373, 374, 375, 376, 377, 378, 380, 382, 384, 386, 1, 387, 388, 390, 2, 391, 392, 393, 78, 394, 398] (by decide +kernel) (by decide +kernel)
set_option maxRecDepth 100000 in
theorem gi_wsX8_line_r5 : GoodIn lw_tbl wsX8_line_r5 := goodIn_r _ [399, 400, 401, 119, 123, 126, 403, 405, 3, 406, 138, 142, 407, 409, 4, 410, 416, 418, 5, 419, 148, 420, 422, 6] (by decide +kernel) (by decide +kernel)
set_option maxRecDepth 100000 in
theorem gi_wsX8_line_r6 : GoodIn lw_tbl wsX8_line_r6 := goodIn_r _ [423, 104, 426, 428, 7, 429, 432, 434, 8, 435, 437, 66, 438, 443, 445, 9, 446, 448, 449, 454, 456, 10, 457, 146] (by decide +kernel) (by decide +kernel)
set_option maxRecDepth 100000 in
theorem gi_wsX8_line_r7 : GoodIn lw_tbl wsX8_line_r7 := goodIn_r _ [459, 460, 461, 462, 463, 464, 465, 466, 467, 469, 11, 470, 262, 134, 120, 471, 472, 473, 71, 474, 219, 475, 476, 477] (by decide +kernel) (by decide +kernel)
set_option maxRecDepth 100000 in
theorem gi_wsX8_line_r8 : GoodIn lw_tbl wsX8_line_r8 := goodIn_r _ [478, 218, 479, 481, 12, 482, 130, 266, 265, 264, 483, 484, 84, 485, 486, 487, 488, 117, 489, 127, 491, 124, 493, 131] (by decide +kernel) (by decide +kernel)
set_option maxRecDepth 100000 in
theorem gi_wsX8_line_r9 : GoodIn lw_tbl wsX8_line_r9 := goodIn_r _ [495, 121, 497, 500, 502, 504, 509, 510, 511, 513, 515, 549, 551, 13, 552, 492, 553, 554, 555, 556, 135, 139, 557, 559] (by decide +kernel) (by decide +kernel)

set_option maxRecDepth 100000 in
theorem wl_wsL_law0_r11 : ∀ w ∈ wsL_law0_r11, w ∈ lw_tbl := wl_in wsL_law0_r11 [752, 753, 754, 755, 756, 757, 758, 759, 760, 762, 765, 767, 20, 768, 769, 770, 771, 772, 777, 779, 21, 780, 783, 785] (by decide +kernel)
set_option maxRecDepth 100000 in
theorem wl_wsL_law0_r12 : ∀ w ∈ wsL_law0_r12, w ∈ lw_tbl := wl_in wsL_law0_r12 [22, 786, 437, 438, 448, 449, 1191, 1192, 1193, 1194, 1198, 1202, 957, 1195, 1196, 1197, 1138, 1139, 1140, 1199, 1200, 1201, 1074, 1076] (by decide +kernel)
set_option maxRecDepth 100000 in
theorem wl_wsL_law0_r13 : ∀ w ∈ wsL_law0_r13, w ∈ lw_tbl := wl_in wsL_law0_r13 [25, 1077, 955, 1082, 1087, 1114, 1115, 1116, 1117, 1078, 1080, 26, 1081, 1083, 1085, 27, 1086, 1088, 1090, 28, 1091, 1092, 1093, 1094] (by decide +kernel)
set_option maxRecDepth 100000 in
theorem wl_wsL_law0_r14 : ∀ w ∈ wsL_law0_r14, w ∈ lw_tbl := wl_in wsL_law0_r14 [1095, 1096, 1097, 1098, 1099, 1100, 1102, 29, 1103, 1108, 1104, 1106, 30, 1107, 1109, 1111, 31, 1112, 1113, 1203, 1205, 46, 1206, 959] (by decide +kernel)
set_option maxRecDepth 100000 in
theorem wl_wsL_law0_r15 : ∀ w ∈ wsL_law0_r15, w ∈ lw_tbl := wl_in wsL_law0_r15 [1207, 1209, 47, 1210, 1211, 1213, 48, 1214, 1215, 1217, 49, 1218, 1219, 1221, 50, 1222, 1223, 1225, 51, 1226, 1227, 1229, 52, 1230] (by decide +kernel)
set_option maxRecDepth 100000 in
theorem wl_wsL_law0_r16 : ∀ w ∈ wsL_law0_r16, w ∈ lw_tbl := wl_in wsL_law0_r16 [302, 303, 304, 305, 267, 306, 307, 83, 315, 308, 309, 310, 311, 312, 323, 324, 325, 326, 132, 128, 328, 330, 0, 331] (by decide +kernel)
set_option maxRecDepth 100000 in
theorem wl_wsL_law0_r17 : ∀ w ∈ wsL_law0_r17, w ∈ lw_tbl := wl_in wsL_law0_r17 [313, 314, 332, 342, 343, 344, 345, 346, 384, 386, 1, 387, 388, 390, 2, 391, 392, 393, 394, 398, 399, 400, 401, 119] (by decide +kernel)
set_option maxRecDepth 100000 in
theorem wl_wsL_law0_r18 : ∀ w ∈ wsL_law0_r18, w ∈ lw_tbl := wl_in wsL_law0_r18 [123, 126, 403, 405, 3, 406, 138, 142, 407, 409, 4, 410, 416, 418, 5, 419, 148, 420, 422, 6, 423, 104, 426, 428] (by decide +kernel)
set_option maxRecDepth 100000 in
theorem wl_wsL_law0_r19 : ∀ w ∈ wsL_law0_r19, w ∈ lw_tbl := wl_in wsL_law0_r19 [7, 429, 432, 434, 8, 435, 443, 445, 9, 446, 454, 456, 10, 457, 146, 459, 460, 461, 462, 463, 467, 469, 11, 470] (by decide +kernel)
set_option maxRecDepth 100000 in
theorem wl_wsL_law0_r20 : ∀ w ∈ wsL_law0_r20, w ∈ lw_tbl := wl_in wsL_law0_r20 [120, 471, 472, 473, 474, 475, 476, 477, 478, 479, 481, 12, 482, 265, 264, 483, 484, 84, 485, 486, 487, 488, 117, 489] (by decide +kernel)

set_option maxRecDepth 100000 in
theorem wl_wsL_law0_r21 : ∀ w ∈ wsL_law0_r21, w ∈ lw_tbl := wl_in wsL_law0_r21 [127, 491, 124, 493, 131, 495, 121, 497, 500, 502, 504, 509, 510, 511, 513, 515, 549, 551, 13, 552, 492, 553, 554, 555] (by decide +kernel)
set_option maxRecDepth 100000 in
theorem wl_wsL_law0_r22 : ∀ w ∈ wsL_law0_r22, w ∈ lw_tbl := wl_in wsL_law0_r22 [556, 135, 139, 557, 559, 14, 560, 561, 562, 563, 564, 565, 566, 567, 568, 145, 569, 570, 571, 572, 573, 150, 579, 574] (by decide +kernel)
set_option maxRecDepth 100000 in
theorem wl_wsL_law0_r23 : ∀ w ∈ wsL_law0_r23, w ∈ lw_tbl := wl_in wsL_law0_r23 [576, 15, 577, 578, 580, 581, 582, 583, 179, 584, 585, 586, 587, 499, 507, 588, 589, 590, 591, 234, 236, 505, 512, 242] (by decide +kernel)
set_option maxRecDepth 100000 in
theorem wl_wsL_law0_r24 : ∀ w ∈ wsL_law0_r24, w ∈ lw_tbl := wl_in wsL_law0_r24 [514, 233, 238, 501, 503, 240, 496, 498, 592, 594, 16, 595, 268, 516, 596, 597, 598, 599, 600, 602, 17, 603, 604, 605] (by decide +kernel)
set_option maxRecDepth 100000 in
theorem wl_wsL_law0_r25 : ∀ w ∈ wsL_law0_r25, w ∈ lw_tbl := wl_in wsL_law0_r25 [606, 607, 608, 609, 610, 611, 612, 613, 614, 615, 195, 197, 1066, 1067, 1068, 1069, 971, 972, 1070, 1072, 24, 1073, 987, 1118] (by decide +kernel)
set_option maxRecDepth 100000 in
theorem wl_wsL_law0_r26 : ∀ w ∈ wsL_law0_r26, w ∈ lw_tbl := wl_in wsL_law0_r26 [1120, 32, 1121, 1122, 1124, 33, 1125, 1126, 1128, 34, 1129, 1130, 1132, 35, 1133, 1134, 1136, 36, 1137, 1141, 1143, 37, 1144, 977] (by decide +kernel)
set_option maxRecDepth 100000 in
theorem wl_wsL_law0_r27 : ∀ w ∈ wsL_law0_r27, w ∈ lw_tbl := wl_in wsL_law0_r27 [1145, 1147, 38, 1148, 1149, 1151, 39, 1152, 1153, 1155, 40, 1156, 1157, 1159, 41, 1160, 1161, 1163, 42, 1164, 1165, 1166, 1167, 1169] (by decide +kernel)
set_option maxRecDepth 100000 in
theorem wl_wsL_law0_r28 : ∀ w ∈ wsL_law0_r28, w ∈ lw_tbl := wl_in wsL_law0_r28 [43, 1170, 981, 1171, 1173, 44, 1174, 616, 617, 618, 619, 620, 622, 18, 623, 490, 624, 625, 626, 627, 217, 628, 629, 630] (by decide +kernel)
set_option maxRecDepth 100000 in
theorem wl_wsL_law0_r29 : ∀ w ∈ wsL_law0_r29, w ∈ lw_tbl := wl_in wsL_law0_r29 [631, 632, 633, 634, 635, 1175, 1176, 1177, 1178, 1179, 1181, 45, 1182, 794, 795, 796, 797, 798, 799, 800, 801, 806, 85, 802] (by decide +kernel)
set_option maxRecDepth 100000 in
theorem wl_wsL_law0_r30 : ∀ w ∈ wsL_law0_r30, w ∈ lw_tbl := wl_in wsL_law0_r30 [803, 804, 805, 822, 823, 824, 825, 1231, 1232, 1233, 1234, 1235, 1237, 53, 1238, 1239, 1241, 54, 1242, 1243, 1245, 55, 1246, 1247] (by decide +kernel)

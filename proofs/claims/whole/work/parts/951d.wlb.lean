set_option maxRecDepth 100000 in
theorem wl_wsL_law0_r31 : ∀ w ∈ wsL_law0_r31, w ∈ lw_tbl := wl_in wsL_law0_r31 [1249, 56, 1250, 1251, 1253, 57, 1254, 1255, 1256, 1257, 1259, 58, 1260, 826, 827, 828, 829, 830, 831, 832, 834, 835, 836, 837] (by decide +kernel)
set_option maxRecDepth 100000 in
theorem wl_wsL_law0_r32 : ∀ w ∈ wsL_law0_r32, w ∈ lw_tbl := wl_in wsL_law0_r32 [838, 839, 840, 841, 842, 844, 23, 845, 846, 1261, 1262, 1263, 1264, 1265, 1267, 59, 1268, 847, 848, 849, 850, 851, 852, 853] (by decide +kernel)
set_option maxRecDepth 100000 in
theorem wl_wsL_law0_r33 : ∀ w ∈ wsL_law0_r33, w ∈ lw_tbl := wl_in wsL_law0_r33 [854, 855, 856, 857, 859, 860, 861, 862, 863, 1269, 1270, 1271, 1272, 864, 865, 866, 867, 868, 869, 870, 871, 873, 86, 237] (by decide +kernel)
set_option maxRecDepth 100000 in
theorem wl_wsL_law0_r34 : ∀ w ∈ wsL_law0_r34, w ∈ lw_tbl := wl_in wsL_law0_r34 [889, 872, 1273, 1274, 1275, 1276, 1277, 1279, 60, 1280, 890, 891, 892, 893, 894, 895, 896, 239, 243, 241, 1281, 1282, 1283, 1284] (by decide +kernel)
set_option maxRecDepth 100000 in
theorem wl_wsL_law0_r35 : ∀ w ∈ wsL_law0_r35, w ∈ lw_tbl := wl_in wsL_law0_r35 [985, 986, 1285, 1287, 61, 1288, 1289, 1291, 62, 1292, 899, 900, 901, 902, 903, 904, 905, 235, 908, 180, 508, 909, 910, 911] (by decide +kernel)
set_option maxRecDepth 100000 in
theorem wl_wsL_law0_r36 : ∀ w ∈ wsL_law0_r36, w ∈ lw_tbl := wl_in wsL_law0_r36 [912, 913, 506, 914, 915, 1293, 1294, 1295, 1296, 1297, 1299, 63, 1300, 1301, 1303, 64, 1304, 916, 917, 918, 919, 920, 921, 922] (by decide +kernel)
set_option maxRecDepth 100000 in
theorem wl_wsL_law0_r37 : ∀ w ∈ wsL_law0_r37, w ∈ lw_tbl := wl_in wsL_law0_r37 [1305, 1306, 1307, 1308, 924, 925, 926, 927, 928, 929, 930, 494, 1309, 1310, 1311, 1312, 932, 933, 934, 935, 936, 937, 938, 196] (by decide +kernel)
set_option maxRecDepth 100000 in
theorem wl_wsL_law0_r38 : ∀ w ∈ wsL_law0_r38, w ∈ lw_tbl := wl_in wsL_law0_r38 [198, 939, 940, 941, 942, 943, 944, 1313, 1314, 1315, 1316] (by decide +kernel)
set_option maxRecDepth 100000 in
theorem wl_wsX80 : ∀ w ∈ wsX80, w ∈ lw_tbl := wl_in wsX80 [269, 271, 273, 275, 277, 279, 281, 283, 285, 287, 289, 291] (by decide +kernel)
set_option maxRecDepth 100000 in
theorem wl_wsX90 : ∀ w ∈ wsX90, w ∈ lw_tbl := wl_in wsX90 [988, 990, 992, 994, 996, 998, 1000, 1002, 1004, 1006, 1008, 1010, 1012, 1014, 1016, 1018, 1020, 1022, 1024, 1026, 1028, 1030, 1032, 1034, 1036, 1038, 1040, 1042, 1044, 1046, 1048, 1050, 1052, 1054, 1056, 1058] (by decide +kernel)
set_option maxRecDepth 100000 in
theorem wl_wsX60 : ∀ w ∈ wsX60, w ∈ lw_tbl := wl_in wsX60 [105, 107] (by decide +kernel)
set_option maxRecDepth 100000 in
theorem wl_wsX10 : ∀ w ∈ wsX10, w ∈ lw_tbl := wl_in wsX10 [151, 153, 155, 157, 159, 161, 163, 165, 167] (by decide +kernel)
set_option maxRecDepth 100000 in
theorem wl_wsX30 : ∀ w ∈ wsX30, w ∈ lw_tbl := wl_in wsX30 [181, 183] (by decide +kernel)
set_option maxRecDepth 100000 in
theorem wl_wsX00 : ∀ w ∈ wsX00, w ∈ lw_tbl := wl_in wsX00 [199, 201, 203, 205, 207] (by decide +kernel)
set_option maxRecDepth 100000 in
theorem wl_wsX70 : ∀ w ∈ wsX70, w ∈ lw_tbl := wl_in wsX70 [220, 222, 224] (by decide +kernel)
set_option maxRecDepth 100000 in
theorem wl_wsX50 : ∀ w ∈ wsX50, w ∈ lw_tbl := wl_in wsX50 [244, 246, 248, 250, 252, 254] (by decide +kernel)
set_option maxRecDepth 100000 in
theorem wl_wsX40 : ∀ w ∈ wsX40, w ∈ lw_tbl := wl_in wsX40 [316, 318, 320] (by decide +kernel)
set_option maxRecDepth 100000 in
theorem wl_wsX20 : ∀ w ∈ wsX20, w ∈ lw_tbl := wl_in wsX20 [517, 519, 521, 523, 525, 527, 529, 531, 533, 535, 537, 539, 541, 543, 545] (by decide +kernel)

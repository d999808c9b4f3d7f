set_option maxRecDepth 20000 in
theorem ggL_law_X9_shown : GoodIn wsL_law wsX9_shown := goodIn_r _ [756, 114, 85, 86, 87, 93, 88, 92, 89, 90, 91, 276, 78, 707, 708, 709, 5, 710, 623, 729, 730, 731, 732, 94, 95, 757, 758, 759, 760, 286, 287, 288, 289, 290, 291, 292, 293, 294, 295, 296, 297, 298, 299, 300, 77, 301, 302, 303, 304, 305, 306, 307, 308, 309, 310, 311, 312, 313, 314, 315, 316, 317, 318, 319, 320, 321, 322, 323, 324, 325, 326, 327, 328, 329, 330, 331, 332, 333, 334, 335, 336, 337, 338, 339, 340, 341, 342, 343, 79, 280, 281, 282, 344, 345, 346, 347, 348, 349, 350, 351, 352, 353, 354, 355, 356, 357, 358, 359, 911, 912, 913, 914, 915, 916, 917, 918, 919, 920, 921, 922, 923, 924, 925, 926, 927, 928, 929, 930, 931, 932, 933, 934, 935, 936, 937, 938, 939, 940, 941, 942, 943, 944, 945, 946] (by decide +kernel) (by decide +kernel)
set_option maxRecDepth 20000 in
theorem gL_law_X9_shown : GoodIn wsL_law (wsV RL 93 RX9 yX9_shown wsX9_shown) := goodIn_app (goodIn_of _ (by decide +kernel)) ggL_law_X9_shown
set_option maxRecDepth 20000 in
theorem ggL_law_L_diagnostic : GoodIn wsL_law wsL_diagnostic := goodIn_ca (goodIn_r _ [763, 688, 764, 765, 766, 2, 767, 693, 694, 30, 768, 769, 770, 29, 771, 586, 772, 773, 774, 775, 60, 61, 62, 776, 899, 900, 901, 902, 903, 904, 905, 906, 907, 908, 909, 910, 960, 961, 962, 963, 964] (by decide +kernel) (by decide +kernel)) (goodIn_sub (fun _ h => List.mem_append_left _ (List.mem_append_right _ h)) (by decide +kernel))
set_option maxRecDepth 20000 in
theorem gL_law_L_diagnostic : GoodIn wsL_law (va_wsS RL 94 yL_diagnostic wsL_diagnostic) := goodIn_app (goodIn_of _ (by decide +kernel)) ggL_law_L_diagnostic
set_option maxRecDepth 20000 in
theorem ggL_law_X9_diagnostic : GoodIn wsL_law wsX9_diagnostic := goodIn_r _ [780, 650, 114, 96, 97, 98, 277, 278, 5, 279, 911, 912, 913, 914, 915, 916, 917, 918, 919, 920, 921, 922, 923, 924, 925, 926, 927, 928, 929, 930, 931, 932, 933, 934, 935, 936, 937, 938, 939, 940, 941, 942, 943, 944, 945, 946] (by decide +kernel) (by decide +kernel)
set_option maxRecDepth 20000 in
theorem gL_law_X9_diagnostic : GoodIn wsL_law (wsV RL 96 RX9 yX9_diagnostic wsX9_diagnostic) := goodIn_app (goodIn_of _ (by decide +kernel)) ggL_law_X9_diagnostic
set_option maxRecDepth 20000 in
theorem ggL_law_L_throughput : GoodIn wsL_law wsL_throughput := goodIn_ca (goodIn_r _ [783, 784, 785, 786, 787, 2, 788, 789, 790, 34, 38, 791, 792, 793, 670, 671, 33, 672, 668, 68, 67, 899, 900, 901, 902, 903, 904, 905, 906, 907, 908, 909, 910, 968, 969, 970, 971, 972, 973, 965, 966, 967] (by decide +kernel) (by decide +kernel)) (goodIn_sub (fun _ h => List.mem_append_right _ h) (by decide +kernel))
set_option maxRecDepth 20000 in
theorem gL_law_L_throughput : GoodIn wsL_law (va_wsS RL 97 yL_throughput wsL_throughput) := goodIn_app (goodIn_of _ (by decide +kernel)) ggL_law_L_throughput
set_option maxRecDepth 20000 in
theorem ggL_law_X9_throughput : GoodIn wsL_law wsX9_throughput := goodIn_r _ [797, 114, 623, 644, 798, 799, 800, 5, 801, 592, 82, 80, 88, 711, 712, 713, 714, 85, 93, 723, 724, 725, 726, 91, 92, 727, 728, 911, 912, 913, 914, 915, 916, 917, 918, 919, 920, 921, 922, 923, 924, 925, 926, 927, 928, 929, 930, 931, 932, 933, 934, 935, 936, 937, 938, 939, 940, 941, 942, 943, 944, 945, 946] (by decide +kernel) (by decide +kernel)
set_option maxRecDepth 20000 in
theorem gL_law_X9_throughput : GoodIn wsL_law (wsV RL 100 RX9 yX9_throughput wsX9_throughput) := goodIn_app (goodIn_of _ (by decide +kernel)) ggL_law_X9_throughput
set_option maxRecDepth 20000 in
theorem ggL_law_L_rate : GoodIn wsL_law wsL_rate := goodIn_ca (goodIn_ca (goodIn_r _ [804, 120, 784, 805, 806, 807, 2, 808, 125, 126, 789, 790, 38, 809, 810, 811, 34, 793, 670, 671, 33, 672, 668, 68, 67, 899, 900, 901, 902, 903, 904, 905, 906, 907, 908, 909, 910, 968, 969, 970, 971, 972, 973, 965, 966, 967] (by decide +kernel) (by decide +kernel)) (goodIn_sub (fun _ h => List.mem_append_left _ (List.mem_append_left _ (List.mem_append_right _ h))) (by decide +kernel))) (goodIn_sub (fun _ h => List.mem_append_right _ h) (by decide +kernel))
set_option maxRecDepth 20000 in
theorem gL_law_L_rate : GoodIn wsL_law (va_wsS RL 101 yL_rate wsL_rate) := goodIn_app (goodIn_of _ (by decide +kernel)) ggL_law_L_rate
set_option maxRecDepth 20000 in
theorem ggL_law_X9_rate : GoodIn wsL_law wsX9_rate := goodIn_r _ [815, 816, 817, 623, 95, 90, 114, 818, 819, 820, 5, 821, 93, 88, 92, 711, 712, 713, 714, 85, 822, 823, 824, 825, 80, 798, 799, 800, 801, 592, 82, 911, 912, 913, 914, 915, 916, 917, 918, 919, 920, 921, 922, 923, 924, 925, 926, 927, 928, 929, 930, 931, 932, 933, 934, 935, 936, 937, 938, 939, 940, 941, 942, 943, 944, 945, 946] (by decide +kernel) (by decide +kernel)
set_option maxRecDepth 20000 in
theorem gL_law_X9_rate : GoodIn wsL_law (wsV RL 104 RX9 yX9_rate wsX9_rate) := goodIn_app (goodIn_of _ (by decide +kernel)) ggL_law_X9_rate
set_option maxRecDepth 20000 in
theorem ggL_law_L_percentile : GoodIn wsL_law wsL_percentile := goodIn_ca (goodIn_ca (goodIn_r _ [828, 120, 784, 829, 830, 831, 2, 832, 125, 126, 789, 790, 38, 833, 834, 26, 835, 836, 695, 696, 697, 25, 698, 536, 54, 837, 745, 746, 473, 747, 487, 838, 839, 840, 841, 842, 843, 844, 899, 900, 901, 902, 903, 904, 905, 906, 907, 908, 909, 910, 968, 969, 970, 971, 972, 973, 958, 959, 977, 978, 979, 980, 981, 982, 983, 984, 985, 986, 987, 988, 989, 990, 991] (by decide +kernel) (by decide +kernel)) (goodIn_sub (fun _ h => List.mem_append_left _ (List.mem_append_left _ (List.mem_append_right _ h))) (by decide +kernel))) (goodIn_sub (fun _ h => List.mem_append_right _ h) (by decide +kernel))
set_option maxRecDepth 20000 in
theorem gL_law_L_percentile : GoodIn wsL_law (va_wsS RL 105 yL_percentile wsL_percentile) := goodIn_app (goodIn_of _ (by decide +kernel)) ggL_law_L_percentile

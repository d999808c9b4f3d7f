set_option maxRecDepth 20000 in
theorem ggL_law_X9_percentile : GoodIn wsL_law wsX9_percentile := goodIn_r _ [848, 114, 728, 623, 849, 850, 851, 5, 852, 711, 712, 713, 714, 85, 93, 723, 724, 725, 726, 91, 644, 88, 92, 727, 853, 854, 855, 856, 911, 912, 913, 914, 915, 916, 917, 918, 919, 920, 921, 922, 923, 924, 925, 926, 927, 928, 929, 930, 931, 932, 933, 934, 935, 936, 937, 938, 939, 940, 941, 942, 943, 944, 945, 946] (by decide +kernel) (by decide +kernel)
set_option maxRecDepth 20000 in
theorem gL_law_X9_percentile : GoodIn wsL_law (wsV RL 107 RX9 yX9_percentile wsX9_percentile) := goodIn_app (goodIn_of _ (by decide +kernel)) ggL_law_X9_percentile
set_option maxRecDepth 20000 in
theorem ggL_law_L_bucket : GoodIn wsL_law wsL_bucket := goodIn_ca (goodIn_r _ [859, 688, 860, 861, 862, 2, 863, 693, 694, 26, 838, 839, 840, 25, 841, 536, 842, 843, 696, 697, 698, 54, 844, 745, 746, 473, 747, 487, 899, 900, 901, 902, 903, 904, 905, 906, 907, 908, 909, 910, 958, 959, 977, 978, 979, 980, 981, 982, 983, 984, 985, 986, 987, 988, 989, 990, 991] (by decide +kernel) (by decide +kernel)) (goodIn_sub (fun _ h => List.mem_append_left _ (List.mem_append_right _ h)) (by decide +kernel))
set_option maxRecDepth 20000 in
theorem gL_law_L_bucket : GoodIn wsL_law (va_wsS RL 108 yL_bucket wsL_bucket) := goodIn_app (goodIn_of _ (by decide +kernel)) ggL_law_L_bucket
set_option maxRecDepth 20000 in
theorem ggL_law_X9_bucket : GoodIn wsL_law wsX9_bucket := goodIn_r _ [867, 114, 277, 278, 5, 279, 853, 854, 855, 856, 623, 711, 712, 713, 714, 85, 93, 723, 724, 725, 726, 91, 644, 88, 92, 727, 728, 911, 912, 913, 914, 915, 916, 917, 918, 919, 920, 921, 922, 923, 924, 925, 926, 927, 928, 929, 930, 931, 932, 933, 934, 935, 936, 937, 938, 939, 940, 941, 942, 943, 944, 945, 946] (by decide +kernel) (by decide +kernel)
set_option maxRecDepth 20000 in
theorem gL_law_X9_bucket : GoodIn wsL_law (wsV RL 110 RX9 yX9_bucket wsX9_bucket) := goodIn_app (goodIn_of _ (by decide +kernel)) ggL_law_X9_bucket
set_option maxRecDepth 20000 in
theorem ggL_law_L_ofCause : GoodIn wsL_law wsL_ofCause := goodIn_ca (goodIn_r _ [870, 688, 871, 872, 873, 2, 874, 693, 694, 26, 835, 875, 836, 695, 696, 697, 25, 698, 536, 54, 837, 745, 746, 473, 747, 487, 899, 900, 901, 902, 903, 904, 905, 906, 907, 908, 909, 910, 958, 959, 977, 978, 979, 980, 981, 982, 983, 984, 985, 986, 987, 988, 989, 990, 991] (by decide +kernel) (by decide +kernel)) (goodIn_sub (fun _ h => List.mem_append_left _ (List.mem_append_right _ h)) (by decide +kernel))
set_option maxRecDepth 20000 in
theorem gL_law_L_ofCause : GoodIn wsL_law (va_wsS RL 111 yL_ofCause wsL_ofCause) := goodIn_app (goodIn_of _ (by decide +kernel)) ggL_law_L_ofCause
set_option maxRecDepth 20000 in
theorem ggL_law_X9_ofCause : GoodIn wsL_law wsX9_ofCause := goodIn_r _ [879, 114, 623, 87, 92, 277, 278, 5, 279, 711, 712, 713, 714, 85, 93, 723, 724, 725, 726, 91, 644, 88, 727, 728, 911, 912, 913, 914, 915, 916, 917, 918, 919, 920, 921, 922, 923, 924, 925, 926, 927, 928, 929, 930, 931, 932, 933, 934, 935, 936, 937, 938, 939, 940, 941, 942, 943, 944, 945, 946] (by decide +kernel) (by decide +kernel)
set_option maxRecDepth 20000 in
theorem gL_law_X9_ofCause : GoodIn wsL_law (wsV RL 113 RX9 yX9_ofCause wsX9_ofCause) := goodIn_app (goodIn_of _ (by decide +kernel)) ggL_law_X9_ofCause
set_option maxRecDepth 20000 in
theorem ggL_law_L_count : GoodIn wsL_law wsL_count := goodIn_ca (goodIn_r _ [882, 688, 883, 884, 885, 2, 886, 693, 694, 364, 26, 835, 30, 887, 564, 888, 470, 469, 17, 156, 34, 38, 833, 889, 890, 891, 565, 793, 670, 671, 33, 672, 668, 68, 67, 892, 893, 894, 500, 899, 900, 901, 902, 903, 904, 905, 906, 907, 908, 909, 910, 958, 959, 960, 961, 962, 963, 964, 947, 948, 968, 969, 970, 971, 972, 973, 977, 978, 979, 980, 981, 982, 983, 984, 985, 986, 987, 988, 989, 990, 991, 965, 966, 967] (by decide +kernel) (by decide +kernel)) (goodIn_sub (fun _ h => List.mem_append_left _ (List.mem_append_right _ h)) (by decide +kernel))
set_option maxRecDepth 20000 in
theorem gL_law_L_count : GoodIn wsL_law (va_wsS RL 114 yL_count wsL_count) := goodIn_app (goodIn_of _ (by decide +kernel)) ggL_law_L_count
set_option maxRecDepth 20000 in
theorem ggL_law_X9_count : GoodIn wsL_law wsX9_count := goodIn_r _ [898, 114, 592, 623, 650, 115, 99, 89, 100, 277, 278, 5, 279, 681, 682, 683, 684, 84, 798, 799, 800, 801, 82, 80, 88, 849, 850, 851, 852, 711, 712, 713, 714, 85, 93, 911, 912, 913, 914, 915, 916, 917, 918, 919, 920, 921, 922, 923, 924, 925, 926, 927, 928, 929, 930, 931, 932, 933, 934, 935, 936, 937, 938, 939, 940, 941, 942, 943, 944, 945, 946] (by decide +kernel) (by decide +kernel)
set_option maxRecDepth 20000 in
theorem gL_law_X9_count : GoodIn wsL_law (wsV RL 116 RX9 yX9_count wsX9_count) := goodIn_app (goodIn_of _ (by decide +kernel)) ggL_law_X9_count

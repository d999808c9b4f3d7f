theorem dX9_allocated_61 : decode cX9_allocated 61 = .ok (.iaload, 1) := by decide +kernel
theorem dX9_allocated_62 : decode cX9_allocated 62 = .ok (.imul, 1) := by decide +kernel
theorem dX9_allocated_63 : decode cX9_allocated 63 = .ok (.iconst 1, 1) := by decide +kernel
theorem dX9_allocated_64 : decode cX9_allocated 64 = .ok (.iadd, 1) := by decide +kernel
theorem dX9_allocated_65 : decode cX9_allocated 65 = .ok (.iaload, 1) := by decide +kernel
theorem dX9_allocated_66 : decode cX9_allocated 66 = .ok (.isub, 1) := by decide +kernel
theorem dX9_allocated_67 : decode cX9_allocated 67 = .ok (.i2l, 1) := by decide +kernel
theorem dX9_allocated_68 : decode cX9_allocated 68 = .ok (.ladd, 1) := by decide +kernel
theorem dX9_allocated_69 : decode cX9_allocated 69 = .ok (.putfield 290, 3) := by decide +kernel
theorem dX9_allocated_72 : decode cX9_allocated 72 = .ok (.aload_n 0, 1) := by decide +kernel
theorem dX9_allocated_73 : decode cX9_allocated 73 = .ok (.dup, 1) := by decide +kernel
theorem dX9_allocated_74 : decode cX9_allocated 74 = .ok (.getfield 294, 3) := by decide +kernel
theorem dX9_allocated_77 : decode cX9_allocated 77 = .ok (.aload_n 0, 1) := by decide +kernel
theorem dX9_allocated_78 : decode cX9_allocated 78 = .ok (.getfield 44, 3) := by decide +kernel
theorem dX9_allocated_81 : decode cX9_allocated 81 = .ok (.aload_n 0, 1) := by decide +kernel
theorem dX9_allocated_82 : decode cX9_allocated 82 = .ok (.getfield 56, 3) := by decide +kernel
theorem dX9_allocated_85 : decode cX9_allocated 85 = .ok (.iload_n 1, 1) := by decide +kernel
theorem dX9_allocated_86 : decode cX9_allocated 86 = .ok (.iaload, 1) := by decide +kernel
theorem dX9_allocated_87 : decode cX9_allocated 87 = .ok (.iaload, 1) := by decide +kernel
theorem dX9_allocated_88 : decode cX9_allocated 88 = .ok (.aload_n 0, 1) := by decide +kernel
theorem dX9_allocated_89 : decode cX9_allocated 89 = .ok (.getfield 44, 3) := by decide +kernel
theorem dX9_allocated_92 : decode cX9_allocated 92 = .ok (.aload_n 0, 1) := by decide +kernel
theorem dX9_allocated_93 : decode cX9_allocated 93 = .ok (.getfield 59, 3) := by decide +kernel
theorem dX9_allocated_96 : decode cX9_allocated 96 = .ok (.iload_n 2, 1) := by decide +kernel
theorem dX9_allocated_97 : decode cX9_allocated 97 = .ok (.iaload, 1) := by decide +kernel
theorem dX9_allocated_98 : decode cX9_allocated 98 = .ok (.iaload, 1) := by decide +kernel
theorem dX9_allocated_99 : decode cX9_allocated 99 = .ok (.isub, 1) := by decide +kernel
theorem dX9_allocated_100 : decode cX9_allocated 100 = .ok (.i2l, 1) := by decide +kernel
theorem dX9_allocated_101 : decode cX9_allocated 101 = .ok (.ladd, 1) := by decide +kernel
theorem dX9_allocated_102 : decode cX9_allocated 102 = .ok (.putfield 294, 3) := by decide +kernel
theorem dX9_allocated_105 : decode cX9_allocated 105 = .ok (.iinc 1 1, 3) := by decide +kernel
theorem dX9_allocated_108 : decode cX9_allocated 108 = .ok (.goto (-106), 3) := by decide +kernel
theorem dX9_allocated_111 : decode cX9_allocated 111 = .ok (.return_, 1) := by decide +kernel
set_option maxRecDepth 20000 in
theorem ggX9_rate_X9_allocated : GoodIn wsX9_rate wsX9_allocated := goodIn_r _ [11, 3, 1, 5, 12, 2, 13, 14, 15, 16, 17, 10, 18, 19, 20, 21, 22, 23, 24, 31, 32, 33, 34, 35, 36, 37, 38, 39, 40, 41, 42, 43, 44, 45, 46, 47, 48, 49, 50, 51, 52, 53, 54, 55, 56, 57, 58, 59, 60, 61, 62, 63, 64, 65, 66] (by decide +kernel) (by decide +kernel)
set_option maxRecDepth 20000 in
theorem gX9_rate_X9_allocated : GoodIn wsX9_rate (wsV RX9 297 RX9 yX9_allocated wsX9_allocated) := goodIn_app (goodIn_of _ (by decide +kernel)) ggX9_rate_X9_allocated
set_option maxRecDepth 20000 in
theorem ggX9_rate_X9_span : GoodIn wsX9_rate wsX9_span := goodIn_r _ [28, 29, 30, 24, 13, 31, 32, 33, 34, 35, 36, 37, 38, 39, 40, 41, 42, 43, 44, 45, 46, 47, 48, 49, 50, 51, 52, 53, 54, 55, 56, 57, 58, 59, 60, 61, 62, 63, 64, 65, 66] (by decide +kernel) (by decide +kernel)
set_option maxRecDepth 20000 in
theorem gX9_rate_X9_span : GoodIn wsX9_rate (wsV RX9 283 RX9 yX9_span wsX9_span) := goodIn_app (goodIn_of _ (by decide +kernel)) ggX9_rate_X9_span
theorem dX9_rate_0 : decode cX9_rate 0 = .ok (.aload_n 0, 1) := by decide +kernel
theorem dX9_rate_1 : decode cX9_rate 1 = .ok (.lconst 0, 1) := by decide +kernel
theorem dX9_rate_2 : decode cX9_rate 2 = .ok (.putfield 290, 3) := by decide +kernel
theorem dX9_rate_5 : decode cX9_rate 5 = .ok (.aload_n 0, 1) := by decide +kernel
theorem dX9_rate_6 : decode cX9_rate 6 = .ok (.lconst 0, 1) := by decide +kernel
theorem dX9_rate_7 : decode cX9_rate 7 = .ok (.putfield 294, 3) := by decide +kernel
theorem dX9_rate_10 : decode cX9_rate 10 = .ok (.iload_n 1, 1) := by decide +kernel
theorem dX9_rate_11 : decode cX9_rate 11 = .ok (.ifCond .ne 7, 3) := by decide +kernel
theorem dX9_rate_14 : decode cX9_rate 14 = .ok (.aload_n 0, 1) := by decide +kernel
theorem dX9_rate_15 : decode cX9_rate 15 = .ok (.invokevirtual 297, 3) := by decide +kernel
theorem dX9_rate_18 : decode cX9_rate 18 = .ok (.iload_n 1, 1) := by decide +kernel
theorem dX9_rate_19 : decode cX9_rate 19 = .ok (.iconst 1, 1) := by decide +kernel
theorem dX9_rate_20 : decode cX9_rate 20 = .ok (.if_icmp .ne 76, 3) := by decide +kernel
theorem dX9_rate_23 : decode cX9_rate 23 = .ok (.aload_n 0, 1) := by decide +kernel
theorem dX9_rate_24 : decode cX9_rate 24 = .ok (.aload_n 0, 1) := by decide +kernel
theorem dX9_rate_25 : decode cX9_rate 25 = .ok (.invokevirtual 283, 3) := by decide +kernel
theorem dX9_rate_28 : decode cX9_rate 28 = .ok (.putfield 294, 3) := by decide +kernel
theorem dX9_rate_31 : decode cX9_rate 31 = .ok (.iconst 0, 1) := by decide +kernel
theorem dX9_rate_32 : decode cX9_rate 32 = .ok (.istore_n 2, 1) := by decide +kernel
theorem dX9_rate_33 : decode cX9_rate 33 = .ok (.iload_n 2, 1) := by decide +kernel
theorem dX9_rate_34 : decode cX9_rate 34 = .ok (.aload_n 0, 1) := by decide +kernel
theorem dX9_rate_35 : decode cX9_rate 35 = .ok (.getfield 205, 3) := by decide +kernel
theorem dX9_rate_38 : decode cX9_rate 38 = .ok (.if_icmp .ge 58, 3) := by decide +kernel
theorem dX9_rate_41 : decode cX9_rate 41 = .ok (.aload_n 0, 1) := by decide +kernel
theorem dX9_rate_42 : decode cX9_rate 42 = .ok (.getfield 65, 3) := by decide +kernel
theorem dX9_rate_45 : decode cX9_rate 45 = .ok (.iload_n 2, 1) := by decide +kernel
theorem dX9_rate_46 : decode cX9_rate 46 = .ok (.iaload, 1) := by decide +kernel
theorem dX9_rate_47 : decode cX9_rate 47 = .ok (.iconst (-1), 1) := by decide +kernel
theorem dX9_rate_48 : decode cX9_rate 48 = .ok (.if_icmp .eq 42, 3) := by decide +kernel
theorem dX9_rate_51 : decode cX9_rate 51 = .ok (.aload_n 0, 1) := by decide +kernel
theorem dX9_rate_52 : decode cX9_rate 52 = .ok (.dup, 1) := by decide +kernel
theorem dX9_rate_53 : decode cX9_rate 53 = .ok (.getfield 290, 3) := by decide +kernel
theorem dX9_rate_56 : decode cX9_rate 56 = .ok (.aload_n 0, 1) := by decide +kernel
theorem dX9_rate_57 : decode cX9_rate 57 = .ok (.getfield 50, 3) := by decide +kernel
theorem dX9_rate_60 : decode cX9_rate 60 = .ok (.iconst 3, 1) := by decide +kernel
theorem dX9_rate_61 : decode cX9_rate 61 = .ok (.aload_n 0, 1) := by decide +kernel
theorem dX9_rate_62 : decode cX9_rate 62 = .ok (.getfield 65, 3) := by decide +kernel
theorem dX9_rate_65 : decode cX9_rate 65 = .ok (.iload_n 2, 1) := by decide +kernel
theorem dX9_rate_66 : decode cX9_rate 66 = .ok (.iaload, 1) := by decide +kernel
theorem dX9_rate_67 : decode cX9_rate 67 = .ok (.imul, 1) := by decide +kernel
theorem dX9_rate_68 : decode cX9_rate 68 = .ok (.iconst 1, 1) := by decide +kernel
theorem dX9_rate_69 : decode cX9_rate 69 = .ok (.iadd, 1) := by decide +kernel
theorem dX9_rate_70 : decode cX9_rate 70 = .ok (.iaload, 1) := by decide +kernel
theorem dX9_rate_71 : decode cX9_rate 71 = .ok (.aload_n 0, 1) := by decide +kernel
theorem dX9_rate_72 : decode cX9_rate 72 = .ok (.getfield 50, 3) := by decide +kernel
theorem dX9_rate_75 : decode cX9_rate 75 = .ok (.iconst 3, 1) := by decide +kernel
theorem dX9_rate_76 : decode cX9_rate 76 = .ok (.aload_n 0, 1) := by decide +kernel
theorem dX9_rate_77 : decode cX9_rate 77 = .ok (.getfield 65, 3) := by decide +kernel
theorem dX9_rate_80 : decode cX9_rate 80 = .ok (.iload_n 2, 1) := by decide +kernel
theorem dX9_rate_81 : decode cX9_rate 81 = .ok (.iaload, 1) := by decide +kernel
theorem dX9_rate_82 : decode cX9_rate 82 = .ok (.imul, 1) := by decide +kernel
theorem dX9_rate_83 : decode cX9_rate 83 = .ok (.iaload, 1) := by decide +kernel
theorem dX9_rate_84 : decode cX9_rate 84 = .ok (.isub, 1) := by decide +kernel
theorem dX9_rate_85 : decode cX9_rate 85 = .ok (.i2l, 1) := by decide +kernel
theorem dX9_rate_86 : decode cX9_rate 86 = .ok (.ladd, 1) := by decide +kernel
theorem dX9_rate_87 : decode cX9_rate 87 = .ok (.putfield 290, 3) := by decide +kernel
theorem dX9_rate_90 : decode cX9_rate 90 = .ok (.iinc 2 1, 3) := by decide +kernel
theorem dX9_rate_93 : decode cX9_rate 93 = .ok (.goto (-60), 3) := by decide +kernel
theorem dX9_rate_96 : decode cX9_rate 96 = .ok (.aload_n 0, 1) := by decide +kernel
theorem dX9_rate_97 : decode cX9_rate 97 = .ok (.iload_n 1, 1) := by decide +kernel
theorem dX9_rate_98 : decode cX9_rate 98 = .ok (.ifCond .lt 8, 3) := by decide +kernel
theorem dX9_rate_101 : decode cX9_rate 101 = .ok (.iload_n 1, 1) := by decide +kernel
theorem dX9_rate_102 : decode cX9_rate 102 = .ok (.iconst 1, 1) := by decide +kernel
theorem dX9_rate_103 : decode cX9_rate 103 = .ok (.if_icmp .le 7, 3) := by decide +kernel
theorem dX9_rate_106 : decode cX9_rate 106 = .ok (.iconst 1, 1) := by decide +kernel
theorem dX9_rate_107 : decode cX9_rate 107 = .ok (.goto 17, 3) := by decide +kernel
theorem dX9_rate_110 : decode cX9_rate 110 = .ok (.aload_n 0, 1) := by decide +kernel
theorem dX9_rate_111 : decode cX9_rate 111 = .ok (.getfield 294, 3) := by decide +kernel
theorem dX9_rate_114 : decode cX9_rate 114 = .ok (.lconst 0, 1) := by decide +kernel
theorem dX9_rate_115 : decode cX9_rate 115 = .ok (.lcmp, 1) := by decide +kernel
theorem dX9_rate_116 : decode cX9_rate 116 = .ok (.ifCond .ne 7, 3) := by decide +kernel
theorem dX9_rate_119 : decode cX9_rate 119 = .ok (.iconst 2, 1) := by decide +kernel
theorem dX9_rate_120 : decode cX9_rate 120 = .ok (.goto 4, 3) := by decide +kernel
theorem dX9_rate_123 : decode cX9_rate 123 = .ok (.iconst 0, 1) := by decide +kernel
theorem dX9_rate_124 : decode cX9_rate 124 = .ok (.putfield 84, 3) := by decide +kernel
theorem dX9_rate_127 : decode cX9_rate 127 = .ok (.aload_n 0, 1) := by decide +kernel
theorem dX9_rate_128 : decode cX9_rate 128 = .ok (.getfield 84, 3) := by decide +kernel
theorem dX9_rate_131 : decode cX9_rate 131 = .ok (.ifCond .eq 7, 3) := by decide +kernel
theorem dX9_rate_134 : decode cX9_rate 134 = .ok (.dconst 0, 1) := by decide +kernel
theorem dX9_rate_135 : decode cX9_rate 135 = .ok (.goto 14, 3) := by decide +kernel
theorem dX9_rate_138 : decode cX9_rate 138 = .ok (.aload_n 0, 1) := by decide +kernel
theorem dX9_rate_139 : decode cX9_rate 139 = .ok (.getfield 290, 3) := by decide +kernel
theorem dX9_rate_142 : decode cX9_rate 142 = .ok (.l2d, 1) := by decide +kernel
theorem dX9_rate_143 : decode cX9_rate 143 = .ok (.aload_n 0, 1) := by decide +kernel
theorem dX9_rate_144 : decode cX9_rate 144 = .ok (.getfield 294, 3) := by decide +kernel
theorem dX9_rate_147 : decode cX9_rate 147 = .ok (.l2d, 1) := by decide +kernel
theorem dX9_rate_148 : decode cX9_rate 148 = .ok (.ddiv, 1) := by decide +kernel
theorem dX9_rate_149 : decode cX9_rate 149 = .ok (.dreturn, 1) := by decide +kernel
set_option maxRecDepth 20000 in
theorem ggX9_between_X9_isPause : GoodIn wsX9_between wsX9_isPause := goodIn_r _ [6, 7, 8, 19, 20, 21, 22, 23, 24, 25, 26, 27, 28, 29, 30, 31, 32, 33, 34, 35, 36, 37, 38, 39, 40, 41, 42, 43, 44, 45, 46, 47, 48, 49, 50, 51, 52, 53, 54] (by decide +kernel) (by decide +kernel)
set_option maxRecDepth 20000 in
theorem gX9_between_X9_isPause : GoodIn wsX9_between (wsV RX9 259 RX9 yX9_isPause wsX9_isPause) := goodIn_app (goodIn_of _ (by decide +kernel)) ggX9_between_X9_isPause
set_option maxRecDepth 20000 in
theorem ggX9_between_X9_tookOf : GoodIn wsX9_between wsX9_tookOf := goodIn_r _ [12, 8, 7, 13, 14, 15, 16, 17, 18, 19, 20, 21, 22, 23, 24, 25, 26, 27, 28, 29, 30, 31, 32, 33, 34, 35, 36, 37, 38, 39, 40, 41, 42, 43, 44, 45, 46, 47, 48, 49, 50, 51, 52, 53, 54] (by decide +kernel) (by decide +kernel)
set_option maxRecDepth 20000 in
theorem gX9_between_X9_tookOf : GoodIn wsX9_between (wsV RX9 274 RX9 yX9_tookOf wsX9_tookOf) := goodIn_app (goodIn_of _ (by decide +kernel)) ggX9_between_X9_tookOf
theorem dX9_between_0 : decode cX9_between 0 = .ok (.iconst 0, 1) := by decide +kernel
theorem dX9_between_1 : decode cX9_between 1 = .ok (.istore_n 3, 1) := by decide +kernel
theorem dX9_between_2 : decode cX9_between 2 = .ok (.iconst 0, 1) := by decide +kernel
theorem dX9_between_3 : decode cX9_between 3 = .ok (.istore 4, 2) := by decide +kernel
theorem dX9_between_5 : decode cX9_between 5 = .ok (.iload 4, 2) := by decide +kernel
theorem dX9_between_7 : decode cX9_between 7 = .ok (.aload_n 0, 1) := by decide +kernel
theorem dX9_between_8 : decode cX9_between 8 = .ok (.getfield 205, 3) := by decide +kernel
theorem dX9_between_11 : decode cX9_between 11 = .ok (.if_icmp .ge 41, 3) := by decide +kernel
theorem dX9_between_14 : decode cX9_between 14 = .ok (.aload_n 0, 1) := by decide +kernel
theorem dX9_between_15 : decode cX9_between 15 = .ok (.iload 4, 2) := by decide +kernel
theorem dX9_between_17 : decode cX9_between 17 = .ok (.invokevirtual 259, 3) := by decide +kernel
theorem dX9_between_20 : decode cX9_between 20 = .ok (.ifCond .eq 26, 3) := by decide +kernel
theorem dX9_between_23 : decode cX9_between 23 = .ok (.aload_n 0, 1) := by decide +kernel
theorem dX9_between_24 : decode cX9_between 24 = .ok (.iload 4, 2) := by decide +kernel
theorem dX9_between_26 : decode cX9_between 26 = .ok (.invokevirtual 274, 3) := by decide +kernel
theorem dX9_between_29 : decode cX9_between 29 = .ok (.iload_n 1, 1) := by decide +kernel
theorem dX9_between_30 : decode cX9_between 30 = .ok (.if_icmp .lt 16, 3) := by decide +kernel
theorem dX9_between_33 : decode cX9_between 33 = .ok (.aload_n 0, 1) := by decide +kernel
theorem dX9_between_34 : decode cX9_between 34 = .ok (.iload 4, 2) := by decide +kernel
theorem dX9_between_36 : decode cX9_between 36 = .ok (.invokevirtual 274, 3) := by decide +kernel
theorem dX9_between_39 : decode cX9_between 39 = .ok (.iload_n 2, 1) := by decide +kernel
theorem dX9_between_40 : decode cX9_between 40 = .ok (.if_icmp .gt 6, 3) := by decide +kernel
theorem dX9_between_43 : decode cX9_between 43 = .ok (.iinc 3 1, 3) := by decide +kernel
theorem dX9_between_46 : decode cX9_between 46 = .ok (.iinc 4 1, 3) := by decide +kernel
theorem dX9_between_49 : decode cX9_between 49 = .ok (.goto (-44), 3) := by decide +kernel
theorem dX9_between_52 : decode cX9_between 52 = .ok (.iload_n 3, 1) := by decide +kernel
theorem dX9_between_53 : decode cX9_between 53 = .ok (.ireturn, 1) := by decide +kernel
set_option maxRecDepth 20000 in
theorem ggX9_percentile_X9_pauses : GoodIn wsX9_percentile wsX9_pauses := goodIn_r _ [8, 3, 9, 10, 11, 7, 12, 13, 14, 28, 29, 30, 31, 32, 33, 34, 35, 36, 37, 38, 39, 40, 41, 42, 43, 44, 45, 46, 47, 48, 49, 50, 51, 52, 53, 54, 55, 56, 57, 58, 59, 60, 61, 62, 63] (by decide +kernel) (by decide +kernel)
set_option maxRecDepth 20000 in
theorem gX9_percentile_X9_pauses : GoodIn wsX9_percentile (wsV RX9 300 RX9 yX9_pauses wsX9_pauses) := goodIn_app (goodIn_of _ (by decide +kernel)) ggX9_percentile_X9_pauses
set_option maxRecDepth 20000 in
theorem ggX9_percentile_X9_isPause : GoodIn wsX9_percentile wsX9_isPause := goodIn_r _ [12, 13, 14, 28, 29, 30, 31, 32, 33, 34, 35, 36, 37, 38, 39, 40, 41, 42, 43, 44, 45, 46, 47, 48, 49, 50, 51, 52, 53, 54, 55, 56, 57, 58, 59, 60, 61, 62, 63] (by decide +kernel) (by decide +kernel)
set_option maxRecDepth 20000 in
theorem gX9_percentile_X9_isPause : GoodIn wsX9_percentile (wsV RX9 259 RX9 yX9_isPause wsX9_isPause) := goodIn_app (goodIn_of _ (by decide +kernel)) ggX9_percentile_X9_isPause
set_option maxRecDepth 20000 in
theorem ggX9_percentile_X9_tookOf : GoodIn wsX9_percentile wsX9_tookOf := goodIn_r _ [18, 14, 13, 19, 20, 21, 22, 23, 2, 28, 29, 30, 31, 32, 33, 34, 35, 36, 37, 38, 39, 40, 41, 42, 43, 44, 45, 46, 47, 48, 49, 50, 51, 52, 53, 54, 55, 56, 57, 58, 59, 60, 61, 62, 63] (by decide +kernel) (by decide +kernel)
set_option maxRecDepth 20000 in
theorem gX9_percentile_X9_tookOf : GoodIn wsX9_percentile (wsV RX9 274 RX9 yX9_tookOf wsX9_tookOf) := goodIn_app (goodIn_of _ (by decide +kernel)) ggX9_percentile_X9_tookOf
set_option maxRecDepth 20000 in
theorem ggX9_percentile_X9_between : GoodIn wsX9_percentile wsX9_between := goodIn_r _ [27, 3, 9, 10, 11, 7, 12, 13, 14, 15, 16, 17, 18, 19, 20, 21, 22, 23, 2, 28, 29, 30, 31, 32, 33, 34, 35, 36, 37, 38, 39, 40, 41, 42, 43, 44, 45, 46, 47, 48, 49, 50, 51, 52, 53, 54, 55, 56, 57, 58, 59, 60, 61, 62, 63] (by decide +kernel) (by decide +kernel)
set_option maxRecDepth 20000 in
theorem gX9_percentile_X9_between : GoodIn wsX9_percentile (wsV RX9 303 RX9 yX9_between wsX9_between) := goodIn_app (goodIn_of _ (by decide +kernel)) ggX9_percentile_X9_between
theorem dX9_percentile_0 : decode cX9_percentile 0 = .ok (.aload_n 0, 1) := by decide +kernel
theorem dX9_percentile_1 : decode cX9_percentile 1 = .ok (.invokevirtual 300, 3) := by decide +kernel
theorem dX9_percentile_4 : decode cX9_percentile 4 = .ok (.istore_n 2, 1) := by decide +kernel
theorem dX9_percentile_5 : decode cX9_percentile 5 = .ok (.aload_n 0, 1) := by decide +kernel
theorem dX9_percentile_6 : decode cX9_percentile 6 = .ok (.iload_n 1, 1) := by decide +kernel
theorem dX9_percentile_7 : decode cX9_percentile 7 = .ok (.iconst 1, 1) := by decide +kernel
theorem dX9_percentile_8 : decode cX9_percentile 8 = .ok (.if_icmp .lt 9, 3) := by decide +kernel
theorem dX9_percentile_11 : decode cX9_percentile 11 = .ok (.iload_n 1, 1) := by decide +kernel
theorem dX9_percentile_12 : decode cX9_percentile 12 = .ok (.bipush 100, 2) := by decide +kernel
theorem dX9_percentile_14 : decode cX9_percentile 14 = .ok (.if_icmp .le 7, 3) := by decide +kernel
theorem dX9_percentile_17 : decode cX9_percentile 17 = .ok (.iconst 1, 1) := by decide +kernel
theorem dX9_percentile_18 : decode cX9_percentile 18 = .ok (.goto 12, 3) := by decide +kernel
theorem dX9_percentile_21 : decode cX9_percentile 21 = .ok (.iload_n 2, 1) := by decide +kernel
theorem dX9_percentile_22 : decode cX9_percentile 22 = .ok (.ifCond .ne 7, 3) := by decide +kernel
theorem dX9_percentile_25 : decode cX9_percentile 25 = .ok (.iconst 2, 1) := by decide +kernel
theorem dX9_percentile_26 : decode cX9_percentile 26 = .ok (.goto 4, 3) := by decide +kernel
theorem dX9_percentile_29 : decode cX9_percentile 29 = .ok (.iconst 0, 1) := by decide +kernel
theorem dX9_percentile_30 : decode cX9_percentile 30 = .ok (.putfield 84, 3) := by decide +kernel
theorem dX9_percentile_33 : decode cX9_percentile 33 = .ok (.aload_n 0, 1) := by decide +kernel
theorem dX9_percentile_34 : decode cX9_percentile 34 = .ok (.getfield 84, 3) := by decide +kernel
theorem dX9_percentile_37 : decode cX9_percentile 37 = .ok (.ifCond .eq 5, 3) := by decide +kernel
theorem dX9_percentile_40 : decode cX9_percentile 40 = .ok (.iconst 0, 1) := by decide +kernel
theorem dX9_percentile_41 : decode cX9_percentile 41 = .ok (.ireturn, 1) := by decide +kernel
theorem dX9_percentile_42 : decode cX9_percentile 42 = .ok (.ldc_w 264, 3) := by decide +kernel
theorem dX9_percentile_45 : decode cX9_percentile 45 = .ok (.istore_n 3, 1) := by decide +kernel
theorem dX9_percentile_46 : decode cX9_percentile 46 = .ok (.iconst 0, 1) := by decide +kernel
theorem dX9_percentile_47 : decode cX9_percentile 47 = .ok (.istore 4, 2) := by decide +kernel
theorem dX9_percentile_49 : decode cX9_percentile 49 = .ok (.iload 4, 2) := by decide +kernel
theorem dX9_percentile_51 : decode cX9_percentile 51 = .ok (.aload_n 0, 1) := by decide +kernel
theorem dX9_percentile_52 : decode cX9_percentile 52 = .ok (.getfield 205, 3) := by decide +kernel
theorem dX9_percentile_55 : decode cX9_percentile 55 = .ok (.if_icmp .ge 55, 3) := by decide +kernel
theorem dX9_percentile_58 : decode cX9_percentile 58 = .ok (.aload_n 0, 1) := by decide +kernel
theorem dX9_percentile_59 : decode cX9_percentile 59 = .ok (.iload 4, 2) := by decide +kernel
theorem dX9_percentile_61 : decode cX9_percentile 61 = .ok (.invokevirtual 259, 3) := by decide +kernel
theorem dX9_percentile_64 : decode cX9_percentile 64 = .ok (.ifCond .eq 40, 3) := by decide +kernel
theorem dX9_percentile_67 : decode cX9_percentile 67 = .ok (.aload_n 0, 1) := by decide +kernel
theorem dX9_percentile_68 : decode cX9_percentile 68 = .ok (.iload 4, 2) := by decide +kernel
theorem dX9_percentile_70 : decode cX9_percentile 70 = .ok (.invokevirtual 274, 3) := by decide +kernel
theorem dX9_percentile_73 : decode cX9_percentile 73 = .ok (.iload_n 3, 1) := by decide +kernel
theorem dX9_percentile_74 : decode cX9_percentile 74 = .ok (.if_icmp .ge 30, 3) := by decide +kernel
theorem dX9_percentile_77 : decode cX9_percentile 77 = .ok (.bipush 100, 2) := by decide +kernel
theorem dX9_percentile_79 : decode cX9_percentile 79 = .ok (.aload_n 0, 1) := by decide +kernel
theorem dX9_percentile_80 : decode cX9_percentile 80 = .ok (.iconst 0, 1) := by decide +kernel
theorem dX9_percentile_81 : decode cX9_percentile 81 = .ok (.aload_n 0, 1) := by decide +kernel
theorem dX9_percentile_82 : decode cX9_percentile 82 = .ok (.iload 4, 2) := by decide +kernel
theorem dX9_percentile_84 : decode cX9_percentile 84 = .ok (.invokevirtual 274, 3) := by decide +kernel
theorem dX9_percentile_87 : decode cX9_percentile 87 = .ok (.invokevirtual 303, 3) := by decide +kernel
theorem dX9_percentile_90 : decode cX9_percentile 90 = .ok (.imul, 1) := by decide +kernel
theorem dX9_percentile_91 : decode cX9_percentile 91 = .ok (.iload_n 1, 1) := by decide +kernel
theorem dX9_percentile_92 : decode cX9_percentile 92 = .ok (.iload_n 2, 1) := by decide +kernel
theorem dX9_percentile_93 : decode cX9_percentile 93 = .ok (.imul, 1) := by decide +kernel
theorem dX9_percentile_94 : decode cX9_percentile 94 = .ok (.if_icmp .lt 10, 3) := by decide +kernel
theorem dX9_percentile_97 : decode cX9_percentile 97 = .ok (.aload_n 0, 1) := by decide +kernel
theorem dX9_percentile_98 : decode cX9_percentile 98 = .ok (.iload 4, 2) := by decide +kernel
theorem dX9_percentile_100 : decode cX9_percentile 100 = .ok (.invokevirtual 274, 3) := by decide +kernel
theorem dX9_percentile_103 : decode cX9_percentile 103 = .ok (.istore_n 3, 1) := by decide +kernel
theorem dX9_percentile_104 : decode cX9_percentile 104 = .ok (.iinc 4 1, 3) := by decide +kernel
theorem dX9_percentile_107 : decode cX9_percentile 107 = .ok (.goto (-58), 3) := by decide +kernel
theorem dX9_percentile_110 : decode cX9_percentile 110 = .ok (.iload_n 3, 1) := by decide +kernel
theorem dX9_percentile_111 : decode cX9_percentile 111 = .ok (.ireturn, 1) := by decide +kernel
set_option maxRecDepth 20000 in
theorem ggX9_bucket_X9_tells : GoodIn wsX9_bucket wsX9_tells := goodIn_r _ [5] (by decide +kernel) (by decide +kernel)
set_option maxRecDepth 20000 in
theorem gX9_bucket_X9_tells : GoodIn wsX9_bucket (va_wsS RX9 238 yX9_tells wsX9_tells) := goodIn_app (goodIn_of _ (by decide +kernel)) ggX9_bucket_X9_tells
set_option maxRecDepth 20000 in
theorem ggX9_bucket_X9_between : GoodIn wsX9_bucket wsX9_between := goodIn_r _ [9, 10, 11, 12, 13, 4, 14, 15, 16, 17, 18, 19, 20, 21, 22, 23, 24, 25, 26, 27, 28, 29, 30, 31, 32, 33, 34, 35, 36, 37, 38, 39, 40, 41, 42, 43, 44, 45, 46, 47, 48, 49, 50, 51, 52, 53, 54, 55, 56, 57, 58, 59, 60, 61, 62] (by decide +kernel) (by decide +kernel)
set_option maxRecDepth 20000 in
theorem gX9_bucket_X9_between : GoodIn wsX9_bucket (wsV RX9 303 RX9 yX9_between wsX9_between) := goodIn_app (goodIn_of _ (by decide +kernel)) ggX9_bucket_X9_between
theorem dX9_bucket_0 : decode cX9_bucket 0 = .ok (.aload_n 0, 1) := by decide +kernel
theorem dX9_bucket_1 : decode cX9_bucket 1 = .ok (.iload_n 1, 1) := by decide +kernel
theorem dX9_bucket_2 : decode cX9_bucket 2 = .ok (.bipush 23, 2) := by decide +kernel
theorem dX9_bucket_4 : decode cX9_bucket 4 = .ok (.invokestatic 238, 3) := by decide +kernel
theorem dX9_bucket_7 : decode cX9_bucket 7 = .ok (.ifCond .eq 7, 3) := by decide +kernel
theorem dX9_bucket_10 : decode cX9_bucket 10 = .ok (.iconst 0, 1) := by decide +kernel
theorem dX9_bucket_11 : decode cX9_bucket 11 = .ok (.goto 4, 3) := by decide +kernel
theorem dX9_bucket_14 : decode cX9_bucket 14 = .ok (.iconst 1, 1) := by decide +kernel
theorem dX9_bucket_15 : decode cX9_bucket 15 = .ok (.putfield 84, 3) := by decide +kernel
theorem dX9_bucket_18 : decode cX9_bucket 18 = .ok (.aload_n 0, 1) := by decide +kernel
theorem dX9_bucket_19 : decode cX9_bucket 19 = .ok (.getfield 84, 3) := by decide +kernel
theorem dX9_bucket_22 : decode cX9_bucket 22 = .ok (.ifCond .eq 7, 3) := by decide +kernel
theorem dX9_bucket_25 : decode cX9_bucket 25 = .ok (.iconst 0, 1) := by decide +kernel
theorem dX9_bucket_26 : decode cX9_bucket 26 = .ok (.goto 23, 3) := by decide +kernel
theorem dX9_bucket_29 : decode cX9_bucket 29 = .ok (.aload_n 0, 1) := by decide +kernel
theorem dX9_bucket_30 : decode cX9_bucket 30 = .ok (.iload_n 1, 1) := by decide +kernel
theorem dX9_bucket_31 : decode cX9_bucket 31 = .ok (.ifCond .ne 7, 3) := by decide +kernel
theorem dX9_bucket_34 : decode cX9_bucket 34 = .ok (.iconst 0, 1) := by decide +kernel
theorem dX9_bucket_35 : decode cX9_bucket 35 = .ok (.goto 6, 3) := by decide +kernel
theorem dX9_bucket_38 : decode cX9_bucket 38 = .ok (.iconst 1, 1) := by decide +kernel
theorem dX9_bucket_39 : decode cX9_bucket 39 = .ok (.iload_n 1, 1) := by decide +kernel
theorem dX9_bucket_40 : decode cX9_bucket 40 = .ok (.ishl, 1) := by decide +kernel
theorem dX9_bucket_41 : decode cX9_bucket 41 = .ok (.iconst 2, 1) := by decide +kernel
theorem dX9_bucket_42 : decode cX9_bucket 42 = .ok (.iload_n 1, 1) := by decide +kernel
theorem dX9_bucket_43 : decode cX9_bucket 43 = .ok (.ishl, 1) := by decide +kernel
theorem dX9_bucket_44 : decode cX9_bucket 44 = .ok (.iconst 1, 1) := by decide +kernel
theorem dX9_bucket_45 : decode cX9_bucket 45 = .ok (.isub, 1) := by decide +kernel
theorem dX9_bucket_46 : decode cX9_bucket 46 = .ok (.invokevirtual 303, 3) := by decide +kernel
theorem dX9_bucket_49 : decode cX9_bucket 49 = .ok (.ireturn, 1) := by decide +kernel
set_option maxRecDepth 20000 in
theorem ggX9_ofCause_X9_tells : GoodIn wsX9_ofCause wsX9_tells := goodIn_r _ [8] (by decide +kernel) (by decide +kernel)
set_option maxRecDepth 20000 in
theorem gX9_ofCause_X9_tells : GoodIn wsX9_ofCause (va_wsS RX9 238 yX9_tells wsX9_tells) := goodIn_app (goodIn_of _ (by decide +kernel)) ggX9_ofCause_X9_tells
set_option maxRecDepth 20000 in
theorem ggX9_ofCause_X9_isPause : GoodIn wsX9_ofCause wsX9_isPause := goodIn_r _ [12, 13, 14, 24, 25, 26, 27, 28, 29, 30, 31, 32, 33, 34, 35, 36, 37, 38, 39, 40, 41, 42, 43, 44, 45, 46, 47, 48, 49, 50, 51, 52, 53, 54, 55, 56, 57, 58, 59] (by decide +kernel) (by decide +kernel)
set_option maxRecDepth 20000 in
theorem gX9_ofCause_X9_isPause : GoodIn wsX9_ofCause (wsV RX9 259 RX9 yX9_isPause wsX9_isPause) := goodIn_app (goodIn_of _ (by decide +kernel)) ggX9_ofCause_X9_isPause
set_option maxRecDepth 20000 in
theorem ggX9_ofCause_X9_tookOf : GoodIn wsX9_ofCause wsX9_tookOf := goodIn_r _ [18, 14, 13, 19, 20, 21, 4, 22, 23, 24, 25, 26, 27, 28, 29, 30, 31, 32, 33, 34, 35, 36, 37, 38, 39, 40, 41, 42, 43, 44, 45, 46, 47, 48, 49, 50, 51, 52, 53, 54, 55, 56, 57, 58, 59] (by decide +kernel) (by decide +kernel)
set_option maxRecDepth 20000 in
theorem gX9_ofCause_X9_tookOf : GoodIn wsX9_ofCause (wsV RX9 274 RX9 yX9_tookOf wsX9_tookOf) := goodIn_app (goodIn_of _ (by decide +kernel)) ggX9_ofCause_X9_tookOf
theorem dX9_ofCause_0 : decode cX9_ofCause 0 = .ok (.aload_n 0, 1) := by decide +kernel
theorem dX9_ofCause_1 : decode cX9_ofCause 1 = .ok (.iload_n 1, 1) := by decide +kernel
theorem dX9_ofCause_2 : decode cX9_ofCause 2 = .ok (.iconst 2, 1) := by decide +kernel
theorem dX9_ofCause_3 : decode cX9_ofCause 3 = .ok (.invokestatic 238, 3) := by decide +kernel
theorem dX9_ofCause_6 : decode cX9_ofCause 6 = .ok (.ifCond .eq 7, 3) := by decide +kernel
theorem dX9_ofCause_9 : decode cX9_ofCause 9 = .ok (.iconst 0, 1) := by decide +kernel
theorem dX9_ofCause_10 : decode cX9_ofCause 10 = .ok (.goto 4, 3) := by decide +kernel
theorem dX9_ofCause_13 : decode cX9_ofCause 13 = .ok (.iconst 1, 1) := by decide +kernel
theorem dX9_ofCause_14 : decode cX9_ofCause 14 = .ok (.putfield 84, 3) := by decide +kernel
theorem dX9_ofCause_17 : decode cX9_ofCause 17 = .ok (.lconst 0, 1) := by decide +kernel
theorem dX9_ofCause_18 : decode cX9_ofCause 18 = .ok (.lstore_n 2, 1) := by decide +kernel
theorem dX9_ofCause_19 : decode cX9_ofCause 19 = .ok (.iconst 0, 1) := by decide +kernel
theorem dX9_ofCause_20 : decode cX9_ofCause 20 = .ok (.istore 4, 2) := by decide +kernel
theorem dX9_ofCause_22 : decode cX9_ofCause 22 = .ok (.iload 4, 2) := by decide +kernel
theorem dX9_ofCause_24 : decode cX9_ofCause 24 = .ok (.aload_n 0, 1) := by decide +kernel
theorem dX9_ofCause_25 : decode cX9_ofCause 25 = .ok (.getfield 205, 3) := by decide +kernel
theorem dX9_ofCause_28 : decode cX9_ofCause 28 = .ok (.if_icmp .ge 51, 3) := by decide +kernel
theorem dX9_ofCause_31 : decode cX9_ofCause 31 = .ok (.aload_n 0, 1) := by decide +kernel
theorem dX9_ofCause_32 : decode cX9_ofCause 32 = .ok (.getfield 84, 3) := by decide +kernel
theorem dX9_ofCause_35 : decode cX9_ofCause 35 = .ok (.ifCond .ne 44, 3) := by decide +kernel
theorem dX9_ofCause_38 : decode cX9_ofCause 38 = .ok (.aload_n 0, 1) := by decide +kernel
theorem dX9_ofCause_39 : decode cX9_ofCause 39 = .ok (.iload 4, 2) := by decide +kernel
theorem dX9_ofCause_41 : decode cX9_ofCause 41 = .ok (.invokevirtual 259, 3) := by decide +kernel
theorem dX9_ofCause_44 : decode cX9_ofCause 44 = .ok (.ifCond .eq 29, 3) := by decide +kernel
theorem dX9_ofCause_47 : decode cX9_ofCause 47 = .ok (.aload_n 0, 1) := by decide +kernel
theorem dX9_ofCause_48 : decode cX9_ofCause 48 = .ok (.getfield 41, 3) := by decide +kernel
theorem dX9_ofCause_51 : decode cX9_ofCause 51 = .ok (.aload_n 0, 1) := by decide +kernel
theorem dX9_ofCause_52 : decode cX9_ofCause 52 = .ok (.getfield 56, 3) := by decide +kernel
theorem dX9_ofCause_55 : decode cX9_ofCause 55 = .ok (.iload 4, 2) := by decide +kernel
theorem dX9_ofCause_57 : decode cX9_ofCause 57 = .ok (.iaload, 1) := by decide +kernel
theorem dX9_ofCause_58 : decode cX9_ofCause 58 = .ok (.iaload, 1) := by decide +kernel
theorem dX9_ofCause_59 : decode cX9_ofCause 59 = .ok (.iload_n 1, 1) := by decide +kernel
theorem dX9_ofCause_60 : decode cX9_ofCause 60 = .ok (.if_icmp .ne 13, 3) := by decide +kernel
theorem dX9_ofCause_63 : decode cX9_ofCause 63 = .ok (.lload_n 2, 1) := by decide +kernel
theorem dX9_ofCause_64 : decode cX9_ofCause 64 = .ok (.aload_n 0, 1) := by decide +kernel
theorem dX9_ofCause_65 : decode cX9_ofCause 65 = .ok (.iload 4, 2) := by decide +kernel
theorem dX9_ofCause_67 : decode cX9_ofCause 67 = .ok (.invokevirtual 274, 3) := by decide +kernel
theorem dX9_ofCause_70 : decode cX9_ofCause 70 = .ok (.i2l, 1) := by decide +kernel
theorem dX9_ofCause_71 : decode cX9_ofCause 71 = .ok (.ladd, 1) := by decide +kernel
theorem dX9_ofCause_72 : decode cX9_ofCause 72 = .ok (.lstore_n 2, 1) := by decide +kernel
theorem dX9_ofCause_73 : decode cX9_ofCause 73 = .ok (.iinc 4 1, 3) := by decide +kernel
theorem dX9_ofCause_76 : decode cX9_ofCause 76 = .ok (.goto (-54), 3) := by decide +kernel
theorem dX9_ofCause_79 : decode cX9_ofCause 79 = .ok (.lload_n 2, 1) := by decide +kernel
theorem dX9_ofCause_80 : decode cX9_ofCause 80 = .ok (.lreturn, 1) := by decide +kernel
set_option maxRecDepth 20000 in
theorem ggX9_count_X9_tells : GoodIn wsX9_count wsX9_tells := goodIn_r _ [12] (by decide +kernel) (by decide +kernel)
set_option maxRecDepth 20000 in
theorem gX9_count_X9_tells : GoodIn wsX9_count (va_wsS RX9 238 yX9_tells wsX9_tells) := goodIn_app (goodIn_of _ (by decide +kernel)) ggX9_count_X9_tells
set_option maxRecDepth 20000 in
theorem ggX9_count_X9_owned : GoodIn wsX9_count wsX9_owned := goodIn_r _ [16, 2, 17, 35, 36, 37, 38, 39, 40, 41, 42, 43, 44, 45, 46, 47, 48, 49, 50, 51, 52, 53, 54, 55, 56, 57, 58, 59, 60, 61, 62, 63, 64, 65, 66, 67, 68, 69, 70] (by decide +kernel) (by decide +kernel)
set_option maxRecDepth 20000 in
theorem gX9_count_X9_owned : GoodIn wsX9_count (wsV RX9 223 RX9 yX9_owned wsX9_owned) := goodIn_app (goodIn_of _ (by decide +kernel)) ggX9_count_X9_owned
set_option maxRecDepth 20000 in
theorem ggX9_count_X9_span : GoodIn wsX9_count wsX9_span := goodIn_r _ [21, 2, 22, 23, 24, 35, 36, 37, 38, 39, 40, 41, 42, 43, 44, 45, 46, 47, 48, 49, 50, 51, 52, 53, 54, 55, 56, 57, 58, 59, 60, 61, 62, 63, 64, 65, 66, 67, 68, 69, 70] (by decide +kernel) (by decide +kernel)
set_option maxRecDepth 20000 in
theorem gX9_count_X9_span : GoodIn wsX9_count (wsV RX9 283 RX9 yX9_span wsX9_span) := goodIn_app (goodIn_of _ (by decide +kernel)) ggX9_count_X9_span
set_option maxRecDepth 20000 in
theorem ggX9_count_X9_pauses : GoodIn wsX9_count wsX9_pauses := goodIn_r _ [28, 3, 29, 30, 31, 11, 32, 33, 34, 35, 36, 37, 38, 39, 40, 41, 42, 43, 44, 45, 46, 47, 48, 49, 50, 51, 52, 53, 54, 55, 56, 57, 58, 59, 60, 61, 62, 63, 64, 65, 66, 67, 68, 69, 70] (by decide +kernel) (by decide +kernel)
set_option maxRecDepth 20000 in
theorem gX9_count_X9_pauses : GoodIn wsX9_count (wsV RX9 300 RX9 yX9_pauses wsX9_pauses) := goodIn_app (goodIn_of _ (by decide +kernel)) ggX9_count_X9_pauses
theorem dX9_count_0 : decode cX9_count 0 = .ok (.aload_n 0, 1) := by decide +kernel
theorem dX9_count_1 : decode cX9_count 1 = .ok (.iload_n 1, 1) := by decide +kernel
theorem dX9_count_2 : decode cX9_count 2 = .ok (.bipush 10, 2) := by decide +kernel
theorem dX9_count_4 : decode cX9_count 4 = .ok (.invokestatic 238, 3) := by decide +kernel
theorem dX9_count_7 : decode cX9_count 7 = .ok (.ifCond .eq 7, 3) := by decide +kernel
theorem dX9_count_10 : decode cX9_count 10 = .ok (.iconst 0, 1) := by decide +kernel
theorem dX9_count_11 : decode cX9_count 11 = .ok (.goto 4, 3) := by decide +kernel
theorem dX9_count_14 : decode cX9_count 14 = .ok (.iconst 1, 1) := by decide +kernel
theorem dX9_count_15 : decode cX9_count 15 = .ok (.putfield 84, 3) := by decide +kernel
theorem dX9_count_18 : decode cX9_count 18 = .ok (.iload_n 1, 1) := by decide +kernel
theorem dX9_count_19 : decode cX9_count 19 = .ok (.tableswitch 150 0 10 #[57, 62, 67, 72, 78, 84, 90, 95, 101, 106, 128], 57) := by decide +kernel
theorem dX9_count_76 : decode cX9_count 76 = .ok (.aload_n 0, 1) := by decide +kernel
theorem dX9_count_77 : decode cX9_count 77 = .ok (.getfield 175, 3) := by decide +kernel
theorem dX9_count_80 : decode cX9_count 80 = .ok (.ireturn, 1) := by decide +kernel
theorem dX9_count_81 : decode cX9_count 81 = .ok (.aload_n 0, 1) := by decide +kernel
theorem dX9_count_82 : decode cX9_count 82 = .ok (.getfield 205, 3) := by decide +kernel
theorem dX9_count_85 : decode cX9_count 85 = .ok (.ireturn, 1) := by decide +kernel
theorem dX9_count_86 : decode cX9_count 86 = .ok (.aload_n 0, 1) := by decide +kernel
theorem dX9_count_87 : decode cX9_count 87 = .ok (.getfield 208, 3) := by decide +kernel
theorem dX9_count_90 : decode cX9_count 90 = .ok (.ireturn, 1) := by decide +kernel
theorem dX9_count_91 : decode cX9_count 91 = .ok (.aload_n 0, 1) := by decide +kernel
theorem dX9_count_92 : decode cX9_count 92 = .ok (.iconst 1, 1) := by decide +kernel
theorem dX9_count_93 : decode cX9_count 93 = .ok (.invokevirtual 223, 3) := by decide +kernel
theorem dX9_count_96 : decode cX9_count 96 = .ok (.ireturn, 1) := by decide +kernel
theorem dX9_count_97 : decode cX9_count 97 = .ok (.aload_n 0, 1) := by decide +kernel
theorem dX9_count_98 : decode cX9_count 98 = .ok (.iconst 2, 1) := by decide +kernel
theorem dX9_count_99 : decode cX9_count 99 = .ok (.invokevirtual 223, 3) := by decide +kernel
theorem dX9_count_102 : decode cX9_count 102 = .ok (.ireturn, 1) := by decide +kernel
theorem dX9_count_103 : decode cX9_count 103 = .ok (.aload_n 0, 1) := by decide +kernel
theorem dX9_count_104 : decode cX9_count 104 = .ok (.iconst 0, 1) := by decide +kernel
theorem dX9_count_105 : decode cX9_count 105 = .ok (.invokevirtual 223, 3) := by decide +kernel
theorem dX9_count_108 : decode cX9_count 108 = .ok (.ireturn, 1) := by decide +kernel
theorem dX9_count_109 : decode cX9_count 109 = .ok (.aload_n 0, 1) := by decide +kernel
theorem dX9_count_110 : decode cX9_count 110 = .ok (.getfield 143, 3) := by decide +kernel
theorem dX9_count_113 : decode cX9_count 113 = .ok (.ireturn, 1) := by decide +kernel
theorem dX9_count_114 : decode cX9_count 114 = .ok (.aload_n 0, 1) := by decide +kernel
theorem dX9_count_115 : decode cX9_count 115 = .ok (.invokevirtual 283, 3) := by decide +kernel
theorem dX9_count_118 : decode cX9_count 118 = .ok (.l2i, 1) := by decide +kernel
theorem dX9_count_119 : decode cX9_count 119 = .ok (.ireturn, 1) := by decide +kernel
theorem dX9_count_120 : decode cX9_count 120 = .ok (.aload_n 0, 1) := by decide +kernel
theorem dX9_count_121 : decode cX9_count 121 = .ok (.invokevirtual 300, 3) := by decide +kernel
theorem dX9_count_124 : decode cX9_count 124 = .ok (.ireturn, 1) := by decide +kernel
theorem dX9_count_125 : decode cX9_count 125 = .ok (.aload_n 0, 1) := by decide +kernel
theorem dX9_count_126 : decode cX9_count 126 = .ok (.getfield 77, 3) := by decide +kernel
theorem dX9_count_129 : decode cX9_count 129 = .ok (.iconst (-1), 1) := by decide +kernel
theorem dX9_count_130 : decode cX9_count 130 = .ok (.if_icmp .ne 7, 3) := by decide +kernel
theorem dX9_count_133 : decode cX9_count 133 = .ok (.iconst (-1), 1) := by decide +kernel
theorem dX9_count_134 : decode cX9_count 134 = .ok (.goto 12, 3) := by decide +kernel
theorem dX9_count_137 : decode cX9_count 137 = .ok (.aload_n 0, 1) := by decide +kernel
theorem dX9_count_138 : decode cX9_count 138 = .ok (.getfield 47, 3) := by decide +kernel
theorem dX9_count_141 : decode cX9_count 141 = .ok (.aload_n 0, 1) := by decide +kernel
theorem dX9_count_142 : decode cX9_count 142 = .ok (.getfield 77, 3) := by decide +kernel
theorem dX9_count_145 : decode cX9_count 145 = .ok (.iaload, 1) := by decide +kernel
theorem dX9_count_146 : decode cX9_count 146 = .ok (.ireturn, 1) := by decide +kernel
theorem dX9_count_147 : decode cX9_count 147 = .ok (.aload_n 0, 1) := by decide +kernel
theorem dX9_count_148 : decode cX9_count 148 = .ok (.getfield 81, 3) := by decide +kernel
theorem dX9_count_151 : decode cX9_count 151 = .ok (.iconst (-1), 1) := by decide +kernel
theorem dX9_count_152 : decode cX9_count 152 = .ok (.if_icmp .ne 7, 3) := by decide +kernel
theorem dX9_count_155 : decode cX9_count 155 = .ok (.iconst (-1), 1) := by decide +kernel
theorem dX9_count_156 : decode cX9_count 156 = .ok (.goto 12, 3) := by decide +kernel
theorem dX9_count_159 : decode cX9_count 159 = .ok (.aload_n 0, 1) := by decide +kernel
theorem dX9_count_160 : decode cX9_count 160 = .ok (.getfield 47, 3) := by decide +kernel
theorem dX9_count_163 : decode cX9_count 163 = .ok (.aload_n 0, 1) := by decide +kernel
theorem dX9_count_164 : decode cX9_count 164 = .ok (.getfield 81, 3) := by decide +kernel
theorem dX9_count_167 : decode cX9_count 167 = .ok (.iaload, 1) := by decide +kernel
theorem dX9_count_168 : decode cX9_count 168 = .ok (.ireturn, 1) := by decide +kernel
theorem dX9_count_169 : decode cX9_count 169 = .ok (.iconst 0, 1) := by decide +kernel
theorem dX9_count_170 : decode cX9_count 170 = .ok (.ireturn, 1) := by decide +kernel

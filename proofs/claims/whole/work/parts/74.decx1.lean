theorem dX8_endPause_17 : decode cX8_endPause 17 = .ok (.if_icmp .eq 6, 3) := by decide +kernel
theorem dX8_endPause_20 : decode cX8_endPause 20 = .ok (.bipush (-5), 2) := by decide +kernel
theorem dX8_endPause_22 : decode cX8_endPause 22 = .ok (.ireturn, 1) := by decide +kernel
theorem dX8_endPause_23 : decode cX8_endPause 23 = .ok (.aload_n 2, 1) := by decide +kernel
theorem dX8_endPause_24 : decode cX8_endPause 24 = .ok (.aload_n 1, 1) := by decide +kernel
theorem dX8_endPause_25 : decode cX8_endPause 25 = .ok (.invokevirtual 285, 3) := by decide +kernel
theorem dX8_endPause_28 : decode cX8_endPause 28 = .ok (.ifCond .ne 19, 3) := by decide +kernel
theorem dX8_endPause_31 : decode cX8_endPause 31 = .ok (.aload_n 2, 1) := by decide +kernel
theorem dX8_endPause_32 : decode cX8_endPause 32 = .ok (.aload_n 1, 1) := by decide +kernel
theorem dX8_endPause_33 : decode cX8_endPause 33 = .ok (.invokevirtual 288, 3) := by decide +kernel
theorem dX8_endPause_36 : decode cX8_endPause 36 = .ok (.ifCond .ne 11, 3) := by decide +kernel
theorem dX8_endPause_39 : decode cX8_endPause 39 = .ok (.aload_n 2, 1) := by decide +kernel
theorem dX8_endPause_40 : decode cX8_endPause 40 = .ok (.aload_n 1, 1) := by decide +kernel
theorem dX8_endPause_41 : decode cX8_endPause 41 = .ok (.invokevirtual 291, 3) := by decide +kernel
theorem dX8_endPause_44 : decode cX8_endPause 44 = .ok (.ifCond .eq 6, 3) := by decide +kernel
theorem dX8_endPause_47 : decode cX8_endPause 47 = .ok (.bipush (-6), 2) := by decide +kernel
theorem dX8_endPause_49 : decode cX8_endPause 49 = .ok (.ireturn, 1) := by decide +kernel
theorem dX8_endPause_50 : decode cX8_endPause 50 = .ok (.aload_n 0, 1) := by decide +kernel
theorem dX8_endPause_51 : decode cX8_endPause 51 = .ok (.getfield 29, 3) := by decide +kernel
theorem dX8_endPause_54 : decode cX8_endPause 54 = .ok (.invokevirtual 294, 3) := by decide +kernel
theorem dX8_endPause_57 : decode cX8_endPause 57 = .ok (.ifCond .eq 6, 3) := by decide +kernel
theorem dX8_endPause_60 : decode cX8_endPause 60 = .ok (.bipush (-7), 2) := by decide +kernel
theorem dX8_endPause_62 : decode cX8_endPause 62 = .ok (.ireturn, 1) := by decide +kernel
theorem dX8_endPause_63 : decode cX8_endPause 63 = .ok (.aload_n 2, 1) := by decide +kernel
theorem dX8_endPause_64 : decode cX8_endPause 64 = .ok (.aload_n 1, 1) := by decide +kernel
theorem dX8_endPause_65 : decode cX8_endPause 65 = .ok (.invokevirtual 297, 3) := by decide +kernel
theorem dX8_endPause_68 : decode cX8_endPause 68 = .ok (.aload_n 0, 1) := by decide +kernel
theorem dX8_endPause_69 : decode cX8_endPause 69 = .ok (.aconst_null, 1) := by decide +kernel
theorem dX8_endPause_70 : decode cX8_endPause 70 = .ok (.putfield 140, 3) := by decide +kernel
theorem dX8_endPause_73 : decode cX8_endPause 73 = .ok (.aload_n 0, 1) := by decide +kernel
theorem dX8_endPause_74 : decode cX8_endPause 74 = .ok (.getfield 50, 3) := by decide +kernel
theorem dX8_endPause_77 : decode cX8_endPause 77 = .ok (.aload_n 2, 1) := by decide +kernel
theorem dX8_endPause_78 : decode cX8_endPause 78 = .ok (.invokevirtual 300, 3) := by decide +kernel
theorem dX8_endPause_81 : decode cX8_endPause 81 = .ok (.aload_n 0, 1) := by decide +kernel
theorem dX8_endPause_82 : decode cX8_endPause 82 = .ok (.aload_n 2, 1) := by decide +kernel
theorem dX8_endPause_83 : decode cX8_endPause 83 = .ok (.invokevirtual 304, 3) := by decide +kernel
theorem dX8_endPause_86 : decode cX8_endPause 86 = .ok (.ireturn, 1) := by decide +kernel
set_option maxRecDepth 20000 in
theorem ggX8_endMark_X2_isTooShortFor : GoodIn wsX8_endMark wsX2_isTooShortFor := goodIn_r _ [10, 11, 12, 13, 14, 15, 9, 16, 17, 18, 19, 79, 80, 81, 82, 83, 84, 85, 86, 87, 64, 65, 66, 67, 68, 69, 70, 71, 72, 73, 74, 75, 76, 77, 78] (by decide +kernel) (by decide +kernel)
set_option maxRecDepth 20000 in
theorem gX8_endMark_X2_isTooShortFor : GoodIn wsX8_endMark (wsV RX8 291 RX2 yX2_isTooShortFor wsX2_isTooShortFor) := goodIn_app (goodIn_of _ (by decide +kernel)) ggX8_endMark_X2_isTooShortFor
set_option maxRecDepth 20000 in
theorem ggX8_endMark_X3_isFull : GoodIn wsX8_endMark wsX3_isFull := goodIn_r _ [24, 25, 26, 88, 89] (by decide +kernel) (by decide +kernel)
set_option maxRecDepth 20000 in
theorem gX8_endMark_X3_isFull : GoodIn wsX8_endMark (wsV RX8 294 RX3 yX3_isFull wsX3_isFull) := goodIn_app (goodIn_of _ (by decide +kernel)) ggX8_endMark_X3_isFull
set_option maxRecDepth 20000 in
theorem ggX8_endMark_X2_endAsMark : GoodIn wsX8_endMark wsX2_endAsMark := goodIn_r _ [30, 31, 18, 32, 33, 34, 35, 36, 37, 38, 11, 39, 40, 13, 14, 15, 9, 16, 17, 19, 79, 80, 81, 82, 83, 84, 85, 86, 87, 64, 65, 66, 67, 68, 69, 70, 71, 72, 73, 74, 75, 76, 77, 78] (by decide +kernel) (by decide +kernel)
set_option maxRecDepth 20000 in
theorem gX8_endMark_X2_endAsMark : GoodIn wsX8_endMark (wsV RX8 307 RX2 yX2_endAsMark wsX2_endAsMark) := goodIn_app (goodIn_of _ (by decide +kernel)) ggX8_endMark_X2_endAsMark
set_option maxRecDepth 20000 in
theorem ggX8_endMark_X8_keep : GoodIn wsX8_endMark wsX8_keep := goodIn_r _ [45, 5, 46, 47, 48, 49, 50, 23, 51, 25, 26, 52, 53, 54, 55, 56, 57, 58, 59, 60, 61, 62, 63, 64, 65, 66, 67, 68, 69, 70, 71, 72, 73, 74, 75, 76, 77, 78, 88, 89] (by decide +kernel) (by decide +kernel)
set_option maxRecDepth 20000 in
theorem gX8_endMark_X8_keep : GoodIn wsX8_endMark (wsV RX8 304 RX8 yX8_keep wsX8_keep) := goodIn_app (goodIn_of _ (by decide +kernel)) ggX8_endMark_X8_keep
theorem dX8_endMark_0 : decode cX8_endMark 0 = .ok (.aload_n 0, 1) := by decide +kernel
theorem dX8_endMark_1 : decode cX8_endMark 1 = .ok (.getfield 148, 3) := by decide +kernel
theorem dX8_endMark_4 : decode cX8_endMark 4 = .ok (.astore_n 2, 1) := by decide +kernel
theorem dX8_endMark_5 : decode cX8_endMark 5 = .ok (.aload_n 2, 1) := by decide +kernel
theorem dX8_endMark_6 : decode cX8_endMark 6 = .ok (.ifnull 14, 3) := by decide +kernel
theorem dX8_endMark_9 : decode cX8_endMark 9 = .ok (.aload_n 2, 1) := by decide +kernel
theorem dX8_endMark_10 : decode cX8_endMark 10 = .ok (.getfield 253, 3) := by decide +kernel
theorem dX8_endMark_13 : decode cX8_endMark 13 = .ok (.aload_n 1, 1) := by decide +kernel
theorem dX8_endMark_14 : decode cX8_endMark 14 = .ok (.getfield 79, 3) := by decide +kernel
theorem dX8_endMark_17 : decode cX8_endMark 17 = .ok (.if_icmp .eq 6, 3) := by decide +kernel
theorem dX8_endMark_20 : decode cX8_endMark 20 = .ok (.bipush (-5), 2) := by decide +kernel
theorem dX8_endMark_22 : decode cX8_endMark 22 = .ok (.ireturn, 1) := by decide +kernel
theorem dX8_endMark_23 : decode cX8_endMark 23 = .ok (.aload_n 1, 1) := by decide +kernel
theorem dX8_endMark_24 : decode cX8_endMark 24 = .ok (.getfield 264, 3) := by decide +kernel
theorem dX8_endMark_27 : decode cX8_endMark 27 = .ok (.iconst 5, 1) := by decide +kernel
theorem dX8_endMark_28 : decode cX8_endMark 28 = .ok (.if_icmp .ne 14, 3) := by decide +kernel
theorem dX8_endMark_31 : decode cX8_endMark 31 = .ok (.aload_n 2, 1) := by decide +kernel
theorem dX8_endMark_32 : decode cX8_endMark 32 = .ok (.aload_n 1, 1) := by decide +kernel
theorem dX8_endMark_33 : decode cX8_endMark 33 = .ok (.invokevirtual 291, 3) := by decide +kernel
theorem dX8_endMark_36 : decode cX8_endMark 36 = .ok (.ifCond .eq 6, 3) := by decide +kernel
theorem dX8_endMark_39 : decode cX8_endMark 39 = .ok (.bipush (-6), 2) := by decide +kernel
theorem dX8_endMark_41 : decode cX8_endMark 41 = .ok (.ireturn, 1) := by decide +kernel
theorem dX8_endMark_42 : decode cX8_endMark 42 = .ok (.aload_n 0, 1) := by decide +kernel
theorem dX8_endMark_43 : decode cX8_endMark 43 = .ok (.getfield 29, 3) := by decide +kernel
theorem dX8_endMark_46 : decode cX8_endMark 46 = .ok (.invokevirtual 294, 3) := by decide +kernel
theorem dX8_endMark_49 : decode cX8_endMark 49 = .ok (.ifCond .eq 6, 3) := by decide +kernel
theorem dX8_endMark_52 : decode cX8_endMark 52 = .ok (.bipush (-7), 2) := by decide +kernel
theorem dX8_endMark_54 : decode cX8_endMark 54 = .ok (.ireturn, 1) := by decide +kernel
theorem dX8_endMark_55 : decode cX8_endMark 55 = .ok (.aload_n 2, 1) := by decide +kernel
theorem dX8_endMark_56 : decode cX8_endMark 56 = .ok (.aload_n 1, 1) := by decide +kernel
theorem dX8_endMark_57 : decode cX8_endMark 57 = .ok (.invokevirtual 307, 3) := by decide +kernel
theorem dX8_endMark_60 : decode cX8_endMark 60 = .ok (.aload_n 0, 1) := by decide +kernel
theorem dX8_endMark_61 : decode cX8_endMark 61 = .ok (.aconst_null, 1) := by decide +kernel
theorem dX8_endMark_62 : decode cX8_endMark 62 = .ok (.putfield 148, 3) := by decide +kernel
theorem dX8_endMark_65 : decode cX8_endMark 65 = .ok (.aload_n 0, 1) := by decide +kernel
theorem dX8_endMark_66 : decode cX8_endMark 66 = .ok (.aload_n 2, 1) := by decide +kernel
theorem dX8_endMark_67 : decode cX8_endMark 67 = .ok (.invokevirtual 304, 3) := by decide +kernel
theorem dX8_endMark_70 : decode cX8_endMark 70 = .ok (.ireturn, 1) := by decide +kernel
set_option maxRecDepth 20000 in
theorem ggX8_keep_X3_add : GoodIn wsX8_keep wsX3_add := goodIn_r _ [8, 9, 10, 38, 39] (by decide +kernel) (by decide +kernel)
set_option maxRecDepth 20000 in
theorem gX8_keep_X3_add : GoodIn wsX8_keep (wsV RX8 310 RX3 yX3_add wsX3_add) := goodIn_app (goodIn_of _ (by decide +kernel)) ggX8_keep_X3_add
theorem dX8_keep_0 : decode cX8_keep 0 = .ok (.aload_n 0, 1) := by decide +kernel
theorem dX8_keep_1 : decode cX8_keep 1 = .ok (.getfield 29, 3) := by decide +kernel
theorem dX8_keep_4 : decode cX8_keep 4 = .ok (.aload_n 1, 1) := by decide +kernel
theorem dX8_keep_5 : decode cX8_keep 5 = .ok (.invokevirtual 310, 3) := by decide +kernel
theorem dX8_keep_8 : decode cX8_keep 8 = .ok (.aload_n 0, 1) := by decide +kernel
theorem dX8_keep_9 : decode cX8_keep 9 = .ok (.dup, 1) := by decide +kernel
theorem dX8_keep_10 : decode cX8_keep 10 = .ok (.getfield 241, 3) := by decide +kernel
theorem dX8_keep_13 : decode cX8_keep 13 = .ok (.aload_n 1, 1) := by decide +kernel
theorem dX8_keep_14 : decode cX8_keep 14 = .ok (.getfield 169, 3) := by decide +kernel
theorem dX8_keep_17 : decode cX8_keep 17 = .ok (.iadd, 1) := by decide +kernel
theorem dX8_keep_18 : decode cX8_keep 18 = .ok (.putfield 241, 3) := by decide +kernel
theorem dX8_keep_21 : decode cX8_keep 21 = .ok (.iconst 1, 1) := by decide +kernel
theorem dX8_keep_22 : decode cX8_keep 22 = .ok (.ireturn, 1) := by decide +kernel

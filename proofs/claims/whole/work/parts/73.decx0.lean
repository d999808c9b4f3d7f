set_option maxRecDepth 20000 in
theorem ggX8_init_X6_init : GoodIn wsX8_init wsX6_init := goodIn_r _ [32, 33, 2, 3, 34, 35, 62, 63] (by decide +kernel) (by decide +kernel)
set_option maxRecDepth 20000 in
theorem gX8_init_X6_init : GoodIn wsX8_init (wsX6_init) := ggX8_init_X6_init
set_option maxRecDepth 20000 in
theorem ggX8_init_X1_init : GoodIn wsX8_init wsX1_init := goodIn_r _ [37, 38, 2, 3] (by decide +kernel) (by decide +kernel)
set_option maxRecDepth 20000 in
theorem gX8_init_X1_init_n21 : GoodIn wsX8_init (wsX1_init) := ggX8_init_X1_init
set_option maxRecDepth 20000 in
theorem ggX8_init_X3_init : GoodIn wsX8_init wsX3_init := goodIn_r _ [41, 42, 2, 3, 43, 44, 85, 86] (by decide +kernel) (by decide +kernel)
set_option maxRecDepth 20000 in
theorem gX8_init_X3_init : GoodIn wsX8_init (wsX3_init) := ggX8_init_X3_init
set_option maxRecDepth 20000 in
theorem ggX8_init_X0_init : GoodIn wsX8_init wsX0_init := goodIn_r _ [47, 48, 2, 3, 49, 50, 51, 52, 87, 88, 89, 90, 91] (by decide +kernel) (by decide +kernel)
set_option maxRecDepth 20000 in
theorem gX8_init_X0_init : GoodIn wsX8_init (wsX0_init) := ggX8_init_X0_init
set_option maxRecDepth 20000 in
theorem ggX8_init_X7_init : GoodIn wsX8_init wsX7_init := goodIn_r _ [55, 56, 2, 3, 57, 58, 92, 93, 94] (by decide +kernel) (by decide +kernel)
set_option maxRecDepth 20000 in
theorem gX8_init_X7_init : GoodIn wsX8_init (wsX7_init) := ggX8_init_X7_init
set_option maxRecDepth 20000 in
theorem ggX8_init_X5_init : GoodIn wsX8_init wsX5_init := goodIn_r _ [60, 61, 2, 3] (by decide +kernel) (by decide +kernel)
set_option maxRecDepth 20000 in
theorem gX8_init_X5_init_n49 : GoodIn wsX8_init (wsX5_init) := ggX8_init_X5_init
theorem dX8_init_0 : decode cX8_init 0 = .ok (.aload_n 0, 1) := by decide +kernel
theorem dX8_init_1 : decode cX8_init 1 = .ok (.invokespecial 1, 3) := by decide +kernel
theorem dX8_init_4 : decode cX8_init 4 = .ok (.aload_n 0, 1) := by decide +kernel
theorem dX8_init_5 : decode cX8_init 5 = .ok (.new 7, 3) := by decide +kernel
theorem dX8_init_8 : decode cX8_init 8 = .ok (.dup, 1) := by decide +kernel
theorem dX8_init_9 : decode cX8_init 9 = .ok (.invokespecial 9, 3) := by decide +kernel
theorem dX8_init_12 : decode cX8_init 12 = .ok (.putfield 10, 3) := by decide +kernel
theorem dX8_init_15 : decode cX8_init 15 = .ok (.aload_n 0, 1) := by decide +kernel
theorem dX8_init_16 : decode cX8_init 16 = .ok (.new 7, 3) := by decide +kernel
theorem dX8_init_19 : decode cX8_init 19 = .ok (.dup, 1) := by decide +kernel
theorem dX8_init_20 : decode cX8_init 20 = .ok (.invokespecial 9, 3) := by decide +kernel
theorem dX8_init_23 : decode cX8_init 23 = .ok (.putfield 16, 3) := by decide +kernel
theorem dX8_init_26 : decode cX8_init 26 = .ok (.aload_n 0, 1) := by decide +kernel
theorem dX8_init_27 : decode cX8_init 27 = .ok (.new 19, 3) := by decide +kernel
theorem dX8_init_30 : decode cX8_init 30 = .ok (.dup, 1) := by decide +kernel
theorem dX8_init_31 : decode cX8_init 31 = .ok (.invokespecial 21, 3) := by decide +kernel
theorem dX8_init_34 : decode cX8_init 34 = .ok (.putfield 22, 3) := by decide +kernel
theorem dX8_init_37 : decode cX8_init 37 = .ok (.aload_n 0, 1) := by decide +kernel
theorem dX8_init_38 : decode cX8_init 38 = .ok (.new 26, 3) := by decide +kernel
theorem dX8_init_41 : decode cX8_init 41 = .ok (.dup, 1) := by decide +kernel
theorem dX8_init_42 : decode cX8_init 42 = .ok (.invokespecial 28, 3) := by decide +kernel
theorem dX8_init_45 : decode cX8_init 45 = .ok (.putfield 29, 3) := by decide +kernel
theorem dX8_init_48 : decode cX8_init 48 = .ok (.aload_n 0, 1) := by decide +kernel
theorem dX8_init_49 : decode cX8_init 49 = .ok (.new 33, 3) := by decide +kernel
theorem dX8_init_52 : decode cX8_init 52 = .ok (.dup, 1) := by decide +kernel
theorem dX8_init_53 : decode cX8_init 53 = .ok (.invokespecial 35, 3) := by decide +kernel
theorem dX8_init_56 : decode cX8_init 56 = .ok (.putfield 36, 3) := by decide +kernel
theorem dX8_init_59 : decode cX8_init 59 = .ok (.aload_n 0, 1) := by decide +kernel
theorem dX8_init_60 : decode cX8_init 60 = .ok (.new 40, 3) := by decide +kernel
theorem dX8_init_63 : decode cX8_init 63 = .ok (.dup, 1) := by decide +kernel
theorem dX8_init_64 : decode cX8_init 64 = .ok (.invokespecial 42, 3) := by decide +kernel
theorem dX8_init_67 : decode cX8_init 67 = .ok (.putfield 43, 3) := by decide +kernel
theorem dX8_init_70 : decode cX8_init 70 = .ok (.aload_n 0, 1) := by decide +kernel
theorem dX8_init_71 : decode cX8_init 71 = .ok (.new 47, 3) := by decide +kernel
theorem dX8_init_74 : decode cX8_init 74 = .ok (.dup, 1) := by decide +kernel
theorem dX8_init_75 : decode cX8_init 75 = .ok (.invokespecial 49, 3) := by decide +kernel
theorem dX8_init_78 : decode cX8_init 78 = .ok (.putfield 50, 3) := by decide +kernel
theorem dX8_init_81 : decode cX8_init 81 = .ok (.aload_n 0, 1) := by decide +kernel
theorem dX8_init_82 : decode cX8_init 82 = .ok (.iconst (-1), 1) := by decide +kernel
theorem dX8_init_83 : decode cX8_init 83 = .ok (.putfield 54, 3) := by decide +kernel
theorem dX8_init_86 : decode cX8_init 86 = .ok (.return_, 1) := by decide +kernel
set_option maxRecDepth 20000 in
theorem ggX8_type_X6_add : GoodIn wsX8_type wsX6_add := goodIn_r _ [6, 7, 8, 21, 22] (by decide +kernel) (by decide +kernel)
set_option maxRecDepth 20000 in
theorem gX8_type_X6_add : GoodIn wsX8_type (wsV RX8 58 RX6 yX6_add wsX6_add) := goodIn_app (goodIn_of _ (by decide +kernel)) ggX8_type_X6_add
theorem dX8_type_0 : decode cX8_type 0 = .ok (.iload_n 1, 1) := by decide +kernel
theorem dX8_type_1 : decode cX8_type 1 = .ok (.bipush 32, 2) := by decide +kernel
theorem dX8_type_3 : decode cX8_type 3 = .ok (.if_icmp .lt 24, 3) := by decide +kernel
theorem dX8_type_6 : decode cX8_type 6 = .ok (.iload_n 1, 1) := by decide +kernel
theorem dX8_type_7 : decode cX8_type 7 = .ok (.bipush 126, 2) := by decide +kernel
theorem dX8_type_9 : decode cX8_type 9 = .ok (.if_icmp .gt 18, 3) := by decide +kernel
theorem dX8_type_12 : decode cX8_type 12 = .ok (.aload_n 0, 1) := by decide +kernel
theorem dX8_type_13 : decode cX8_type 13 = .ok (.getfield 10, 3) := by decide +kernel
theorem dX8_type_16 : decode cX8_type 16 = .ok (.iload_n 1, 1) := by decide +kernel
theorem dX8_type_17 : decode cX8_type 17 = .ok (.invokevirtual 58, 3) := by decide +kernel
theorem dX8_type_20 : decode cX8_type 20 = .ok (.ifCond .eq 7, 3) := by decide +kernel
theorem dX8_type_23 : decode cX8_type 23 = .ok (.iconst 1, 1) := by decide +kernel
theorem dX8_type_24 : decode cX8_type 24 = .ok (.goto 4, 3) := by decide +kernel
theorem dX8_type_27 : decode cX8_type 27 = .ok (.iconst 0, 1) := by decide +kernel
theorem dX8_type_28 : decode cX8_type 28 = .ok (.ireturn, 1) := by decide +kernel
set_option maxRecDepth 20000 in
theorem ggX8_drop_X6_cut : GoodIn wsX8_drop wsX6_cut := goodIn_r _ [8, 9, 10, 11, 12, 13, 26, 27] (by decide +kernel) (by decide +kernel)
set_option maxRecDepth 20000 in
theorem gX8_drop_X6_cut : GoodIn wsX8_drop (wsV RX8 69 RX6 yX6_cut wsX6_cut) := goodIn_app (goodIn_of _ (by decide +kernel)) ggX8_drop_X6_cut
theorem dX8_drop_0 : decode cX8_drop 0 = .ok (.iload_n 1, 1) := by decide +kernel
theorem dX8_drop_1 : decode cX8_drop 1 = .ok (.ifCond .ge 13, 3) := by decide +kernel
theorem dX8_drop_4 : decode cX8_drop 4 = .ok (.new 62, 3) := by decide +kernel
theorem dX8_drop_7 : decode cX8_drop 7 = .ok (.dup, 1) := by decide +kernel
theorem dX8_drop_8 : decode cX8_drop 8 = .ok (.ldc 64, 2) := by decide +kernel
theorem dX8_drop_10 : decode cX8_drop 10 = .ok (.invokespecial 66, 3) := by decide +kernel
theorem dX8_drop_13 : decode cX8_drop 13 = .ok (.athrow, 1) := by decide +kernel
theorem dX8_drop_14 : decode cX8_drop 14 = .ok (.aload_n 0, 1) := by decide +kernel
theorem dX8_drop_15 : decode cX8_drop 15 = .ok (.getfield 10, 3) := by decide +kernel
theorem dX8_drop_18 : decode cX8_drop 18 = .ok (.iload_n 1, 1) := by decide +kernel
theorem dX8_drop_19 : decode cX8_drop 19 = .ok (.invokevirtual 69, 3) := by decide +kernel
theorem dX8_drop_22 : decode cX8_drop 22 = .ok (.ireturn, 1) := by decide +kernel
set_option maxRecDepth 20000 in
theorem ggX8_write_X1_setShape : GoodIn wsX8_write wsX1_setShape := goodIn_r _ [16, 17, 18, 19, 145, 146, 147, 148, 149, 150, 151, 152, 153] (by decide +kernel) (by decide +kernel)
set_option maxRecDepth 20000 in
theorem gX8_write_X1_setShape : GoodIn wsX8_write (wsV RX8 73 RX1 yX1_setShape wsX1_setShape) := goodIn_app (goodIn_of _ (by decide +kernel)) ggX8_write_X1_setShape
set_option maxRecDepth 20000 in
theorem ggX8_write_X1_hasText : GoodIn wsX8_write wsX1_hasText := goodIn_r _ [23, 17, 24, 25, 26, 27, 28, 29, 30, 31, 32, 33, 15, 34, 145, 146, 147, 148, 149, 150, 151, 152, 153] (by decide +kernel) (by decide +kernel)
set_option maxRecDepth 20000 in
theorem gX8_write_X1_hasText : GoodIn wsX8_write (wsV RX8 97 RX1 yX1_hasText wsX1_hasText) := goodIn_app (goodIn_of _ (by decide +kernel)) ggX8_write_X1_hasText
set_option maxRecDepth 20000 in
theorem ggX8_write_X1_putOn : GoodIn wsX8_write wsX1_putOn := goodIn_r _ [38, 25, 24, 17, 39, 40, 41, 42, 43, 44, 45, 46, 47, 48, 49, 50, 51, 52, 53, 54, 55, 56, 57, 58, 59, 60, 61, 62, 63, 64, 65, 66, 67, 68, 69, 70, 71, 72, 73, 74, 75, 76, 77, 78, 79, 80, 81, 82, 83, 84, 85, 86, 87, 88, 89, 90, 91, 92, 93, 94, 95, 96, 97, 98, 99, 100, 101, 102, 103, 104, 105, 106, 107, 108, 109, 110, 111, 112, 113, 114, 15, 115, 27, 28, 116, 117, 118, 119, 120, 121, 122, 123, 30, 124, 125, 126, 127, 18, 19, 29, 128, 129, 130, 131, 132, 145, 146, 147, 148, 149, 150, 151, 152, 153, 154, 155] (by decide +kernel) (by decide +kernel)
set_option maxRecDepth 20000 in
theorem gX8_write_X1_putOn : GoodIn wsX8_write (wsV RX8 103 RX1 yX1_putOn wsX1_putOn) := goodIn_app (goodIn_of _ (by decide +kernel)) ggX8_write_X1_putOn
theorem dX8_write_0 : decode cX8_write 0 = .ok (.aload_n 0, 1) := by decide +kernel
theorem dX8_write_1 : decode cX8_write 1 = .ok (.getfield 22, 3) := by decide +kernel
theorem dX8_write_4 : decode cX8_write 4 = .ok (.iload_n 1, 1) := by decide +kernel
theorem dX8_write_5 : decode cX8_write 5 = .ok (.invokevirtual 73, 3) := by decide +kernel
theorem dX8_write_8 : decode cX8_write 8 = .ok (.ifCond .ne 13, 3) := by decide +kernel
theorem dX8_write_11 : decode cX8_write 11 = .ok (.new 62, 3) := by decide +kernel
theorem dX8_write_14 : decode cX8_write 14 = .ok (.dup, 1) := by decide +kernel
theorem dX8_write_15 : decode cX8_write 15 = .ok (.ldc 77, 2) := by decide +kernel
theorem dX8_write_17 : decode cX8_write 17 = .ok (.invokespecial 66, 3) := by decide +kernel
theorem dX8_write_20 : decode cX8_write 20 = .ok (.athrow, 1) := by decide +kernel
theorem dX8_write_21 : decode cX8_write 21 = .ok (.aload_n 0, 1) := by decide +kernel
theorem dX8_write_22 : decode cX8_write 22 = .ok (.getfield 22, 3) := by decide +kernel
theorem dX8_write_25 : decode cX8_write 25 = .ok (.iload_n 2, 1) := by decide +kernel
theorem dX8_write_26 : decode cX8_write 26 = .ok (.putfield 79, 3) := by decide +kernel
theorem dX8_write_29 : decode cX8_write 29 = .ok (.aload_n 0, 1) := by decide +kernel
theorem dX8_write_30 : decode cX8_write 30 = .ok (.getfield 22, 3) := by decide +kernel
theorem dX8_write_33 : decode cX8_write 33 = .ok (.iload_n 3, 1) := by decide +kernel
theorem dX8_write_34 : decode cX8_write 34 = .ok (.putfield 82, 3) := by decide +kernel
theorem dX8_write_37 : decode cX8_write 37 = .ok (.aload_n 0, 1) := by decide +kernel
theorem dX8_write_38 : decode cX8_write 38 = .ok (.getfield 22, 3) := by decide +kernel
theorem dX8_write_41 : decode cX8_write 41 = .ok (.iload 4, 2) := by decide +kernel
theorem dX8_write_43 : decode cX8_write 43 = .ok (.putfield 85, 3) := by decide +kernel
theorem dX8_write_46 : decode cX8_write 46 = .ok (.aload_n 0, 1) := by decide +kernel
theorem dX8_write_47 : decode cX8_write 47 = .ok (.getfield 22, 3) := by decide +kernel
theorem dX8_write_50 : decode cX8_write 50 = .ok (.iload 5, 2) := by decide +kernel
theorem dX8_write_52 : decode cX8_write 52 = .ok (.putfield 88, 3) := by decide +kernel
theorem dX8_write_55 : decode cX8_write 55 = .ok (.aload_n 0, 1) := by decide +kernel
theorem dX8_write_56 : decode cX8_write 56 = .ok (.getfield 22, 3) := by decide +kernel
theorem dX8_write_59 : decode cX8_write 59 = .ok (.iload 6, 2) := by decide +kernel
theorem dX8_write_61 : decode cX8_write 61 = .ok (.putfield 91, 3) := by decide +kernel
theorem dX8_write_64 : decode cX8_write 64 = .ok (.aload_n 0, 1) := by decide +kernel
theorem dX8_write_65 : decode cX8_write 65 = .ok (.getfield 22, 3) := by decide +kernel
theorem dX8_write_68 : decode cX8_write 68 = .ok (.iload 7, 2) := by decide +kernel
theorem dX8_write_70 : decode cX8_write 70 = .ok (.putfield 94, 3) := by decide +kernel
theorem dX8_write_73 : decode cX8_write 73 = .ok (.aload_n 0, 1) := by decide +kernel
theorem dX8_write_74 : decode cX8_write 74 = .ok (.getfield 22, 3) := by decide +kernel
theorem dX8_write_77 : decode cX8_write 77 = .ok (.invokevirtual 97, 3) := by decide +kernel
theorem dX8_write_80 : decode cX8_write 80 = .ok (.ifCond .ne 13, 3) := by decide +kernel
theorem dX8_write_83 : decode cX8_write 83 = .ok (.new 62, 3) := by decide +kernel
theorem dX8_write_86 : decode cX8_write 86 = .ok (.dup, 1) := by decide +kernel
theorem dX8_write_87 : decode cX8_write 87 = .ok (.ldc 101, 2) := by decide +kernel
theorem dX8_write_89 : decode cX8_write 89 = .ok (.invokespecial 66, 3) := by decide +kernel
theorem dX8_write_92 : decode cX8_write 92 = .ok (.athrow, 1) := by decide +kernel
theorem dX8_write_93 : decode cX8_write 93 = .ok (.aload_n 0, 1) := by decide +kernel
theorem dX8_write_94 : decode cX8_write 94 = .ok (.getfield 22, 3) := by decide +kernel
theorem dX8_write_97 : decode cX8_write 97 = .ok (.aload_n 0, 1) := by decide +kernel
theorem dX8_write_98 : decode cX8_write 98 = .ok (.getfield 10, 3) := by decide +kernel
theorem dX8_write_101 : decode cX8_write 101 = .ok (.invokevirtual 103, 3) := by decide +kernel
theorem dX8_write_104 : decode cX8_write 104 = .ok (.aload_n 0, 1) := by decide +kernel
theorem dX8_write_105 : decode cX8_write 105 = .ok (.getfield 10, 3) := by decide +kernel
theorem dX8_write_108 : decode cX8_write 108 = .ok (.getfield 107, 3) := by decide +kernel
theorem dX8_write_111 : decode cX8_write 111 = .ok (.ireturn, 1) := by decide +kernel
set_option maxRecDepth 20000 in
theorem ggX8_line_X4_init : GoodIn wsX8_line wsX4_init := goodIn_r _ [11, 12, 13, 14, 15, 317, 318, 319] (by decide +kernel) (by decide +kernel)
set_option maxRecDepth 20000 in
theorem gX8_line_X4_init : GoodIn wsX8_line (wsX4_init) := ggX8_line_X4_init
set_option maxRecDepth 20000 in
theorem ggX8_line_X4_readHead : GoodIn wsX8_line wsX4_readHead := goodIn_r _ [19, 20, 21, 22, 23, 24, 4, 25, 26, 15, 27, 28, 29, 30, 31, 32, 33, 34, 35, 36, 37, 38, 39, 40, 41, 42, 43, 44, 45, 46, 47, 48, 49, 50, 51, 52, 53, 54, 55, 56, 57, 58, 59, 60, 61, 62, 63, 64, 65, 66, 67, 68, 69, 70, 71, 72, 73, 74, 75, 76, 77, 78, 79, 80, 81, 82, 83, 84, 85, 86, 87, 88, 89, 90, 91, 92, 93, 94, 95, 320, 321, 322, 323, 324, 325, 326, 327, 328, 317, 318, 319, 329, 330] (by decide +kernel) (by decide +kernel)
set_option maxRecDepth 20000 in
theorem gX8_line_X4_readHead : GoodIn wsX8_line (wsV RX8 117 RX4 yX4_readHead wsX4_readHead) := goodIn_app (goodIn_of _ (by decide +kernel)) ggX8_line_X4_readHead
set_option maxRecDepth 20000 in
theorem ggX8_line_X4_readMessage : GoodIn wsX8_line wsX4_readMessage := goodIn_r _ [99, 15, 27, 100, 101, 102, 40, 41, 42, 43, 44, 45, 46, 22, 23, 24, 4, 25, 26, 28, 29, 30, 31, 32, 33, 34, 35, 36, 37, 38, 39, 47, 48, 49, 50, 51, 52, 53, 54, 55, 56, 57, 58, 59, 60, 61, 62, 63, 64, 65, 66, 67, 68, 69, 70, 71, 72, 73, 74, 75, 76, 77, 78, 79, 80, 81, 82, 83, 103, 104, 105, 106, 107, 108, 109, 110, 111, 112, 88, 89, 90, 91, 92, 93, 94, 95, 113, 114, 115, 116, 117, 118, 119, 120, 121, 122, 123, 124, 125, 126, 84, 85, 86, 87, 127, 128, 129, 130, 131, 132, 133, 134, 135, 136, 137, 138, 139, 140, 141, 142, 143, 144, 317, 318, 319, 320, 321, 322, 323, 324, 325, 326, 327, 328, 329, 330] (by decide +kernel) (by decide +kernel)
set_option maxRecDepth 20000 in
theorem gX8_line_X4_readMessage : GoodIn wsX8_line (wsV RX8 121 RX4 yX4_readMessage wsX4_readMessage) := goodIn_app (goodIn_of _ (by decide +kernel)) ggX8_line_X4_readMessage
set_option maxRecDepth 20000 in
theorem ggX8_line_X4_hasReadAll : GoodIn wsX8_line wsX4_hasReadAll := goodIn_r _ [148, 26, 118, 119, 120, 4, 121, 27, 15, 122, 317, 318, 319, 329, 330] (by decide +kernel) (by decide +kernel)
set_option maxRecDepth 20000 in
theorem gX8_line_X4_hasReadAll : GoodIn wsX8_line (wsV RX8 124 RX4 yX4_hasReadAll wsX4_hasReadAll) := goodIn_app (goodIn_of _ (by decide +kernel)) ggX8_line_X4_hasReadAll
set_option maxRecDepth 20000 in
theorem ggX8_line_X6_clear : GoodIn wsX8_line wsX6_clear := goodIn_r _ [152, 45, 329, 330] (by decide +kernel) (by decide +kernel)
set_option maxRecDepth 20000 in
theorem gX8_line_X6_clear : GoodIn wsX8_line (wsV RX8 127 RX6 yX6_clear wsX6_clear) := goodIn_app (goodIn_of _ (by decide +kernel)) ggX8_line_X6_clear
set_option maxRecDepth 20000 in
theorem ggX8_line_X8_answerTo : GoodIn wsX8_line wsX8_answerTo := goodIn_r _ [156, 157, 158, 159, 160, 161, 162, 163, 164, 165, 166, 167, 168, 169, 170, 171, 172, 173, 132, 174, 175, 176, 177, 178, 179, 180, 181, 1, 182, 183, 184, 185, 13, 14, 186, 187, 188, 189, 190, 191, 192, 193, 194, 195, 196, 197, 198, 199, 200, 201, 202, 203, 204, 205, 206, 207, 208, 209, 210, 211, 212, 213, 214, 215, 216, 217, 218, 219, 220, 221, 222, 223, 224, 225, 226, 227, 228, 229, 230, 93, 94, 95, 231, 232, 233, 234, 235, 236, 237, 238, 239, 240, 241, 242, 243, 244, 245, 246, 247, 248, 249, 250, 251, 252, 253, 254, 255, 256, 257, 258, 259, 260, 261, 262, 263, 264, 265, 266, 267, 268, 269, 270, 271, 272, 273, 274, 275, 276, 277, 278, 279, 280, 281, 282, 283, 284, 285, 286, 287, 288, 289, 290, 291, 292, 293, 294, 305, 306, 307, 308, 309, 310, 311, 312, 313, 314, 315, 316, 320, 321, 322, 323, 324, 325, 326, 327, 328, 331, 332, 333, 334, 335, 336, 337, 338, 339, 340, 341, 342, 343, 344, 345, 346, 347, 348, 349, 350, 351, 352, 353, 354, 355, 356] (by decide +kernel) (by decide +kernel)
set_option maxRecDepth 20000 in
theorem gX8_line_X8_answerTo : GoodIn wsX8_line (wsV RX8 130 RX8 yX8_answerTo wsX8_answerTo) := goodIn_app (goodIn_of _ (by decide +kernel)) ggX8_line_X8_answerTo
set_option maxRecDepth 20000 in
theorem ggX8_line_X0_add : GoodIn wsX8_line wsX0_add := goodIn_r _ [299, 300, 301, 302, 303, 304, 357, 358, 359, 360, 361] (by decide +kernel) (by decide +kernel)
set_option maxRecDepth 20000 in
theorem gX8_line_X0_add : GoodIn wsX8_line (wsV RX8 137 RX0 yX0_add wsX0_add) := goodIn_app (goodIn_of _ (by decide +kernel)) ggX8_line_X0_add
theorem dX8_line_0 : decode cX8_line 0 = .ok (.aload_n 0, 1) := by decide +kernel
theorem dX8_line_1 : decode cX8_line 1 = .ok (.dup, 1) := by decide +kernel
theorem dX8_line_2 : decode cX8_line 2 = .ok (.getfield 110, 3) := by decide +kernel
theorem dX8_line_5 : decode cX8_line 5 = .ok (.iconst 1, 1) := by decide +kernel
theorem dX8_line_6 : decode cX8_line 6 = .ok (.iadd, 1) := by decide +kernel
theorem dX8_line_7 : decode cX8_line 7 = .ok (.putfield 110, 3) := by decide +kernel
theorem dX8_line_10 : decode cX8_line 10 = .ok (.new 113, 3) := by decide +kernel
theorem dX8_line_13 : decode cX8_line 13 = .ok (.dup, 1) := by decide +kernel
theorem dX8_line_14 : decode cX8_line 14 = .ok (.aload_n 0, 1) := by decide +kernel
theorem dX8_line_15 : decode cX8_line 15 = .ok (.getfield 10, 3) := by decide +kernel
theorem dX8_line_18 : decode cX8_line 18 = .ok (.invokespecial 115, 3) := by decide +kernel
theorem dX8_line_21 : decode cX8_line 21 = .ok (.astore_n 1, 1) := by decide +kernel
theorem dX8_line_22 : decode cX8_line 22 = .ok (.aload_n 1, 1) := by decide +kernel
theorem dX8_line_23 : decode cX8_line 23 = .ok (.aload_n 0, 1) := by decide +kernel
theorem dX8_line_24 : decode cX8_line 24 = .ok (.getfield 22, 3) := by decide +kernel
theorem dX8_line_27 : decode cX8_line 27 = .ok (.invokevirtual 117, 3) := by decide +kernel
theorem dX8_line_30 : decode cX8_line 30 = .ok (.aload_n 1, 1) := by decide +kernel
theorem dX8_line_31 : decode cX8_line 31 = .ok (.aload_n 0, 1) := by decide +kernel
theorem dX8_line_32 : decode cX8_line 32 = .ok (.getfield 22, 3) := by decide +kernel
theorem dX8_line_35 : decode cX8_line 35 = .ok (.invokevirtual 121, 3) := by decide +kernel
theorem dX8_line_38 : decode cX8_line 38 = .ok (.aload_n 1, 1) := by decide +kernel
theorem dX8_line_39 : decode cX8_line 39 = .ok (.invokevirtual 124, 3) := by decide +kernel
theorem dX8_line_42 : decode cX8_line 42 = .ok (.istore_n 2, 1) := by decide +kernel
theorem dX8_line_43 : decode cX8_line 43 = .ok (.aload_n 0, 1) := by decide +kernel
theorem dX8_line_44 : decode cX8_line 44 = .ok (.getfield 10, 3) := by decide +kernel
theorem dX8_line_47 : decode cX8_line 47 = .ok (.invokevirtual 127, 3) := by decide +kernel
theorem dX8_line_50 : decode cX8_line 50 = .ok (.iload_n 2, 1) := by decide +kernel
theorem dX8_line_51 : decode cX8_line 51 = .ok (.ifCond .eq 14, 3) := by decide +kernel
theorem dX8_line_54 : decode cX8_line 54 = .ok (.aload_n 0, 1) := by decide +kernel
theorem dX8_line_55 : decode cX8_line 55 = .ok (.aload_n 0, 1) := by decide +kernel
theorem dX8_line_56 : decode cX8_line 56 = .ok (.getfield 22, 3) := by decide +kernel
theorem dX8_line_59 : decode cX8_line 59 = .ok (.invokevirtual 130, 3) := by decide +kernel
theorem dX8_line_62 : decode cX8_line 62 = .ok (.goto 4, 3) := by decide +kernel
theorem dX8_line_65 : decode cX8_line 65 = .ok (.iconst (-1), 1) := by decide +kernel
theorem dX8_line_66 : decode cX8_line 66 = .ok (.istore_n 3, 1) := by decide +kernel
theorem dX8_line_67 : decode cX8_line 67 = .ok (.iload_n 3, 1) := by decide +kernel
theorem dX8_line_68 : decode cX8_line 68 = .ok (.ifCond .ge 29, 3) := by decide +kernel
theorem dX8_line_71 : decode cX8_line 71 = .ok (.aload_n 0, 1) := by decide +kernel
theorem dX8_line_72 : decode cX8_line 72 = .ok (.getfield 36, 3) := by decide +kernel
theorem dX8_line_75 : decode cX8_line 75 = .ok (.iload_n 3, 1) := by decide +kernel
theorem dX8_line_76 : decode cX8_line 76 = .ok (.ineg, 1) := by decide +kernel
theorem dX8_line_77 : decode cX8_line 77 = .ok (.aload_n 0, 1) := by decide +kernel
theorem dX8_line_78 : decode cX8_line 78 = .ok (.getfield 110, 3) := by decide +kernel
theorem dX8_line_81 : decode cX8_line 81 = .ok (.iload_n 2, 1) := by decide +kernel
theorem dX8_line_82 : decode cX8_line 82 = .ok (.ifCond .eq 7, 3) := by decide +kernel
theorem dX8_line_85 : decode cX8_line 85 = .ok (.iconst 0, 1) := by decide +kernel
theorem dX8_line_86 : decode cX8_line 86 = .ok (.goto 7, 3) := by decide +kernel
theorem dX8_line_89 : decode cX8_line 89 = .ok (.aload_n 1, 1) := by decide +kernel
theorem dX8_line_90 : decode cX8_line 90 = .ok (.getfield 134, 3) := by decide +kernel
theorem dX8_line_93 : decode cX8_line 93 = .ok (.iconst 1, 1) := by decide +kernel
theorem dX8_line_94 : decode cX8_line 94 = .ok (.invokevirtual 137, 3) := by decide +kernel
theorem dX8_line_97 : decode cX8_line 97 = .ok (.iload_n 3, 1) := by decide +kernel
theorem dX8_line_98 : decode cX8_line 98 = .ok (.ireturn, 1) := by decide +kernel
set_option maxRecDepth 20000 in
theorem ggX8_finish_X8_truncate : GoodIn wsX8_finish wsX8_truncate := goodIn_r _ [10, 11, 12, 13, 14, 15, 16, 17, 18, 19, 20, 21, 22, 23, 42, 43, 44, 45, 46, 47, 48, 49, 50, 51, 52, 53, 54, 55, 56, 57, 58, 59, 60, 61, 62, 63, 64, 65, 66, 67, 68, 69, 70, 71, 72, 73] (by decide +kernel) (by decide +kernel)
set_option maxRecDepth 20000 in
theorem gX8_finish_X8_truncate : GoodIn wsX8_finish (wsV RX8 144 RX8 yX8_truncate wsX8_truncate) := goodIn_app (goodIn_of _ (by decide +kernel)) ggX8_finish_X8_truncate
set_option maxRecDepth 20000 in
theorem ggX8_finish_X7_endLog : GoodIn wsX8_finish wsX7_endLog := goodIn_r _ [28, 29, 30, 31, 32, 33, 34, 27, 35, 74, 75, 76] (by decide +kernel) (by decide +kernel)
set_option maxRecDepth 20000 in
theorem gX8_finish_X7_endLog : GoodIn wsX8_finish (wsV RX8 151 RX7 yX7_endLog wsX7_endLog) := goodIn_app (goodIn_of _ (by decide +kernel)) ggX8_finish_X7_endLog
set_option maxRecDepth 20000 in
theorem ggX8_finish_X5_endLog : GoodIn wsX8_finish wsX5_endLog := goodIn_r _ [40, 41, 77, 78, 79, 80, 81, 82] (by decide +kernel) (by decide +kernel)
set_option maxRecDepth 20000 in
theorem gX8_finish_X5_endLog : GoodIn wsX8_finish (wsV RX8 154 RX5 yX5_endLog wsX5_endLog) := goodIn_app (goodIn_of _ (by decide +kernel)) ggX8_finish_X5_endLog
theorem dX8_finish_0 : decode cX8_finish 0 = .ok (.aload_n 0, 1) := by decide +kernel
theorem dX8_finish_1 : decode cX8_finish 1 = .ok (.aload_n 0, 1) := by decide +kernel
theorem dX8_finish_2 : decode cX8_finish 2 = .ok (.getfield 140, 3) := by decide +kernel
theorem dX8_finish_5 : decode cX8_finish 5 = .ok (.invokevirtual 144, 3) := by decide +kernel
theorem dX8_finish_8 : decode cX8_finish 8 = .ok (.aload_n 0, 1) := by decide +kernel
theorem dX8_finish_9 : decode cX8_finish 9 = .ok (.aload_n 0, 1) := by decide +kernel
theorem dX8_finish_10 : decode cX8_finish 10 = .ok (.getfield 148, 3) := by decide +kernel
theorem dX8_finish_13 : decode cX8_finish 13 = .ok (.invokevirtual 144, 3) := by decide +kernel
theorem dX8_finish_16 : decode cX8_finish 16 = .ok (.iadd, 1) := by decide +kernel
theorem dX8_finish_17 : decode cX8_finish 17 = .ok (.istore_n 1, 1) := by decide +kernel
theorem dX8_finish_18 : decode cX8_finish 18 = .ok (.aload_n 0, 1) := by decide +kernel
theorem dX8_finish_19 : decode cX8_finish 19 = .ok (.aconst_null, 1) := by decide +kernel
theorem dX8_finish_20 : decode cX8_finish 20 = .ok (.putfield 140, 3) := by decide +kernel
theorem dX8_finish_23 : decode cX8_finish 23 = .ok (.aload_n 0, 1) := by decide +kernel
theorem dX8_finish_24 : decode cX8_finish 24 = .ok (.aconst_null, 1) := by decide +kernel
theorem dX8_finish_25 : decode cX8_finish 25 = .ok (.putfield 148, 3) := by decide +kernel
theorem dX8_finish_28 : decode cX8_finish 28 = .ok (.aload_n 0, 1) := by decide +kernel
theorem dX8_finish_29 : decode cX8_finish 29 = .ok (.iconst (-1), 1) := by decide +kernel
theorem dX8_finish_30 : decode cX8_finish 30 = .ok (.putfield 54, 3) := by decide +kernel
theorem dX8_finish_33 : decode cX8_finish 33 = .ok (.aload_n 0, 1) := by decide +kernel
theorem dX8_finish_34 : decode cX8_finish 34 = .ok (.getfield 43, 3) := by decide +kernel
theorem dX8_finish_37 : decode cX8_finish 37 = .ok (.invokevirtual 151, 3) := by decide +kernel
theorem dX8_finish_40 : decode cX8_finish 40 = .ok (.aload_n 0, 1) := by decide +kernel
theorem dX8_finish_41 : decode cX8_finish 41 = .ok (.getfield 50, 3) := by decide +kernel
theorem dX8_finish_44 : decode cX8_finish 44 = .ok (.invokevirtual 154, 3) := by decide +kernel
theorem dX8_finish_47 : decode cX8_finish 47 = .ok (.iload_n 1, 1) := by decide +kernel
theorem dX8_finish_48 : decode cX8_finish 48 = .ok (.ireturn, 1) := by decide +kernel
set_option maxRecDepth 20000 in
theorem ggX8_event_X3_get : GoodIn wsX8_event wsX3_get := goodIn_r _ [8, 9, 10, 42, 43] (by decide +kernel) (by decide +kernel)
set_option maxRecDepth 20000 in
theorem gX8_event_X3_get : GoodIn wsX8_event (wsV RX8 155 RX3 yX3_get wsX3_get) := goodIn_app (goodIn_of _ (by decide +kernel)) ggX8_event_X3_get
set_option maxRecDepth 20000 in
theorem ggX8_event_X2_fact : GoodIn wsX8_event wsX2_fact := goodIn_r _ [15, 16, 17, 18, 19, 20, 21, 22, 23, 24, 25, 26, 27, 28, 29, 44, 45, 46, 47, 48, 49, 50, 51, 52, 53, 54, 55, 56, 57, 58] (by decide +kernel) (by decide +kernel)
set_option maxRecDepth 20000 in
theorem gX8_event_X2_fact : GoodIn wsX8_event (wsV RX8 164 RX2 yX2_fact wsX2_fact) := goodIn_app (goodIn_of _ (by decide +kernel)) ggX8_event_X2_fact
theorem dX8_event_0 : decode cX8_event 0 = .ok (.aload_n 0, 1) := by decide +kernel
theorem dX8_event_1 : decode cX8_event 1 = .ok (.getfield 29, 3) := by decide +kernel
theorem dX8_event_4 : decode cX8_event 4 = .ok (.iload_n 1, 1) := by decide +kernel
theorem dX8_event_5 : decode cX8_event 5 = .ok (.invokevirtual 155, 3) := by decide +kernel
theorem dX8_event_8 : decode cX8_event 8 = .ok (.astore_n 3, 1) := by decide +kernel
theorem dX8_event_9 : decode cX8_event 9 = .ok (.aload_n 3, 1) := by decide +kernel
theorem dX8_event_10 : decode cX8_event 10 = .ok (.ifnull 13, 3) := by decide +kernel
theorem dX8_event_13 : decode cX8_event 13 = .ok (.iload_n 2, 1) := by decide +kernel
theorem dX8_event_14 : decode cX8_event 14 = .ok (.ifCond .lt 9, 3) := by decide +kernel
theorem dX8_event_17 : decode cX8_event 17 = .ok (.iload_n 2, 1) := by decide +kernel
theorem dX8_event_18 : decode cX8_event 18 = .ok (.bipush 14, 2) := by decide +kernel
theorem dX8_event_20 : decode cX8_event 20 = .ok (.if_icmp .lt 13, 3) := by decide +kernel
theorem dX8_event_23 : decode cX8_event 23 = .ok (.new 159, 3) := by decide +kernel
theorem dX8_event_26 : decode cX8_event 26 = .ok (.dup, 1) := by decide +kernel
theorem dX8_event_27 : decode cX8_event 27 = .ok (.ldc 161, 2) := by decide +kernel
theorem dX8_event_29 : decode cX8_event 29 = .ok (.invokespecial 163, 3) := by decide +kernel
theorem dX8_event_32 : decode cX8_event 32 = .ok (.athrow, 1) := by decide +kernel
theorem dX8_event_33 : decode cX8_event 33 = .ok (.aload_n 3, 1) := by decide +kernel
theorem dX8_event_34 : decode cX8_event 34 = .ok (.iload_n 2, 1) := by decide +kernel
theorem dX8_event_35 : decode cX8_event 35 = .ok (.invokevirtual 164, 3) := by decide +kernel
theorem dX8_event_38 : decode cX8_event 38 = .ok (.ireturn, 1) := by decide +kernel
set_option maxRecDepth 20000 in
theorem ggX8_shown_X3_get : GoodIn wsX8_shown wsX3_get := goodIn_r _ [11, 12, 13, 189, 190] (by decide +kernel) (by decide +kernel)
set_option maxRecDepth 20000 in
theorem gX8_shown_X3_get : GoodIn wsX8_shown (wsV RX8 155 RX3 yX3_get wsX3_get) := goodIn_app (goodIn_of _ (by decide +kernel)) ggX8_shown_X3_get
set_option maxRecDepth 20000 in
theorem ggX8_shown_X2_tell : GoodIn wsX8_shown wsX2_tell := goodIn_r _ [18, 19, 20, 21, 22, 23, 24, 25, 26, 27, 28, 29, 30, 31, 32, 33, 34, 35, 36, 37, 17, 38, 39, 40, 41, 42, 43, 44, 45, 46, 47, 48, 49, 174, 175, 176, 177, 178, 179, 180, 181, 182, 183, 184, 185, 186, 187, 188, 191, 192, 193, 194, 195, 196, 197, 198, 199] (by decide +kernel) (by decide +kernel)
set_option maxRecDepth 20000 in
theorem gX8_shown_X2_tell : GoodIn wsX8_shown (wsV RX8 172 RX2 yX2_tell wsX2_tell) := goodIn_app (goodIn_of _ (by decide +kernel)) ggX8_shown_X2_tell
set_option maxRecDepth 20000 in
theorem ggX8_shown_X1_putOn : GoodIn wsX8_shown wsX1_putOn := goodIn_r _ [54, 55, 56, 57, 58, 59, 60, 61, 62, 63, 64, 65, 66, 67, 68, 69, 70, 71, 72, 73, 74, 75, 76, 77, 78, 79, 80, 81, 82, 83, 84, 85, 86, 87, 88, 89, 90, 91, 92, 93, 94, 95, 96, 97, 98, 99, 100, 101, 102, 103, 104, 105, 106, 107, 108, 109, 110, 111, 112, 113, 114, 115, 116, 117, 118, 119, 120, 121, 122, 123, 124, 125, 126, 127, 128, 129, 130, 131, 132, 133, 53, 134, 135, 136, 137, 138, 139, 140, 141, 142, 143, 144, 145, 146, 147, 148, 149, 150, 151, 152, 153, 154, 155, 156, 157, 191, 192, 193, 194, 195, 196, 197, 198, 199, 200, 201] (by decide +kernel) (by decide +kernel)
set_option maxRecDepth 20000 in
theorem gX8_shown_X1_putOn : GoodIn wsX8_shown (wsV RX8 103 RX1 yX1_putOn wsX1_putOn) := goodIn_app (goodIn_of _ (by decide +kernel)) ggX8_shown_X1_putOn
set_option maxRecDepth 20000 in
theorem ggX8_shown_X6_get : GoodIn wsX8_shown wsX6_get := goodIn_r _ [161, 63, 121, 200, 201] (by decide +kernel) (by decide +kernel)
set_option maxRecDepth 20000 in
theorem gX8_shown_X6_get : GoodIn wsX8_shown (wsV RX8 176 RX6 yX6_get wsX6_get) := goodIn_app (goodIn_of _ (by decide +kernel)) ggX8_shown_X6_get
theorem dX8_shown_0 : decode cX8_shown 0 = .ok (.aload_n 0, 1) := by decide +kernel
theorem dX8_shown_1 : decode cX8_shown 1 = .ok (.getfield 29, 3) := by decide +kernel
theorem dX8_shown_4 : decode cX8_shown 4 = .ok (.iload_n 1, 1) := by decide +kernel
theorem dX8_shown_5 : decode cX8_shown 5 = .ok (.invokevirtual 155, 3) := by decide +kernel
theorem dX8_shown_8 : decode cX8_shown 8 = .ok (.astore 4, 2) := by decide +kernel
theorem dX8_shown_10 : decode cX8_shown 10 = .ok (.aload 4, 2) := by decide +kernel
theorem dX8_shown_12 : decode cX8_shown 12 = .ok (.ifnull 20, 3) := by decide +kernel
theorem dX8_shown_15 : decode cX8_shown 15 = .ok (.iload_n 2, 1) := by decide +kernel
theorem dX8_shown_16 : decode cX8_shown 16 = .ok (.ifCond .lt 16, 3) := by decide +kernel
theorem dX8_shown_19 : decode cX8_shown 19 = .ok (.iload_n 2, 1) := by decide +kernel
theorem dX8_shown_20 : decode cX8_shown 20 = .ok (.aload 4, 2) := by decide +kernel
theorem dX8_shown_22 : decode cX8_shown 22 = .ok (.getfield 169, 3) := by decide +kernel
theorem dX8_shown_25 : decode cX8_shown 25 = .ok (.if_icmp .ge 7, 3) := by decide +kernel
theorem dX8_shown_28 : decode cX8_shown 28 = .ok (.iload_n 3, 1) := by decide +kernel
theorem dX8_shown_29 : decode cX8_shown 29 = .ok (.ifCond .ge 13, 3) := by decide +kernel
theorem dX8_shown_32 : decode cX8_shown 32 = .ok (.new 159, 3) := by decide +kernel
theorem dX8_shown_35 : decode cX8_shown 35 = .ok (.dup, 1) := by decide +kernel
theorem dX8_shown_36 : decode cX8_shown 36 = .ok (.ldc 170, 2) := by decide +kernel
theorem dX8_shown_38 : decode cX8_shown 38 = .ok (.invokespecial 163, 3) := by decide +kernel
theorem dX8_shown_41 : decode cX8_shown 41 = .ok (.athrow, 1) := by decide +kernel
theorem dX8_shown_42 : decode cX8_shown 42 = .ok (.aload 4, 2) := by decide +kernel
theorem dX8_shown_44 : decode cX8_shown 44 = .ok (.iload_n 2, 1) := by decide +kernel
theorem dX8_shown_45 : decode cX8_shown 45 = .ok (.aload_n 0, 1) := by decide +kernel
theorem dX8_shown_46 : decode cX8_shown 46 = .ok (.getfield 22, 3) := by decide +kernel
theorem dX8_shown_49 : decode cX8_shown 49 = .ok (.invokevirtual 172, 3) := by decide +kernel
theorem dX8_shown_52 : decode cX8_shown 52 = .ok (.aload_n 0, 1) := by decide +kernel
theorem dX8_shown_53 : decode cX8_shown 53 = .ok (.getfield 22, 3) := by decide +kernel
theorem dX8_shown_56 : decode cX8_shown 56 = .ok (.aload_n 0, 1) := by decide +kernel
theorem dX8_shown_57 : decode cX8_shown 57 = .ok (.getfield 16, 3) := by decide +kernel
theorem dX8_shown_60 : decode cX8_shown 60 = .ok (.invokevirtual 103, 3) := by decide +kernel
theorem dX8_shown_63 : decode cX8_shown 63 = .ok (.aload_n 0, 1) := by decide +kernel
theorem dX8_shown_64 : decode cX8_shown 64 = .ok (.getfield 16, 3) := by decide +kernel
theorem dX8_shown_67 : decode cX8_shown 67 = .ok (.iload_n 3, 1) := by decide +kernel
theorem dX8_shown_68 : decode cX8_shown 68 = .ok (.invokevirtual 176, 3) := by decide +kernel
theorem dX8_shown_71 : decode cX8_shown 71 = .ok (.ireturn, 1) := by decide +kernel
set_option maxRecDepth 20000 in
theorem ggX8_diagnostic_X0_has : GoodIn wsX8_diagnostic wsX0_has := goodIn_r _ [8, 9, 30, 31, 32, 33, 34] (by decide +kernel) (by decide +kernel)
set_option maxRecDepth 20000 in
theorem gX8_diagnostic_X0_has : GoodIn wsX8_diagnostic (wsV RX8 178 RX0 yX0_has wsX0_has) := goodIn_app (goodIn_of _ (by decide +kernel)) ggX8_diagnostic_X0_has
set_option maxRecDepth 20000 in
theorem ggX8_diagnostic_X0_fact : GoodIn wsX8_diagnostic wsX0_fact := goodIn_r _ [13, 14, 15, 16, 17, 5, 6, 7, 8, 9, 30, 31, 32, 33, 34] (by decide +kernel) (by decide +kernel)
set_option maxRecDepth 20000 in
theorem gX8_diagnostic_X0_fact : GoodIn wsX8_diagnostic (wsV RX8 183 RX0 yX0_fact wsX0_fact) := goodIn_app (goodIn_of _ (by decide +kernel)) ggX8_diagnostic_X0_fact
theorem dX8_diagnostic_0 : decode cX8_diagnostic 0 = .ok (.aload_n 0, 1) := by decide +kernel
theorem dX8_diagnostic_1 : decode cX8_diagnostic 1 = .ok (.getfield 36, 3) := by decide +kernel
theorem dX8_diagnostic_4 : decode cX8_diagnostic 4 = .ok (.iload_n 1, 1) := by decide +kernel
theorem dX8_diagnostic_5 : decode cX8_diagnostic 5 = .ok (.invokevirtual 178, 3) := by decide +kernel
theorem dX8_diagnostic_8 : decode cX8_diagnostic 8 = .ok (.ifCond .eq 12, 3) := by decide +kernel
theorem dX8_diagnostic_11 : decode cX8_diagnostic 11 = .ok (.iload_n 2, 1) := by decide +kernel
theorem dX8_diagnostic_12 : decode cX8_diagnostic 12 = .ok (.ifCond .lt 8, 3) := by decide +kernel
theorem dX8_diagnostic_15 : decode cX8_diagnostic 15 = .ok (.iload_n 2, 1) := by decide +kernel
theorem dX8_diagnostic_16 : decode cX8_diagnostic 16 = .ok (.iconst 2, 1) := by decide +kernel
theorem dX8_diagnostic_17 : decode cX8_diagnostic 17 = .ok (.if_icmp .le 13, 3) := by decide +kernel
theorem dX8_diagnostic_20 : decode cX8_diagnostic 20 = .ok (.new 159, 3) := by decide +kernel
theorem dX8_diagnostic_23 : decode cX8_diagnostic 23 = .ok (.dup, 1) := by decide +kernel
theorem dX8_diagnostic_24 : decode cX8_diagnostic 24 = .ok (.ldc 181, 2) := by decide +kernel
theorem dX8_diagnostic_26 : decode cX8_diagnostic 26 = .ok (.invokespecial 163, 3) := by decide +kernel
theorem dX8_diagnostic_29 : decode cX8_diagnostic 29 = .ok (.athrow, 1) := by decide +kernel
theorem dX8_diagnostic_30 : decode cX8_diagnostic 30 = .ok (.aload_n 0, 1) := by decide +kernel
theorem dX8_diagnostic_31 : decode cX8_diagnostic 31 = .ok (.getfield 36, 3) := by decide +kernel
theorem dX8_diagnostic_34 : decode cX8_diagnostic 34 = .ok (.iload_n 1, 1) := by decide +kernel
theorem dX8_diagnostic_35 : decode cX8_diagnostic 35 = .ok (.iload_n 2, 1) := by decide +kernel
theorem dX8_diagnostic_36 : decode cX8_diagnostic 36 = .ok (.invokevirtual 183, 3) := by decide +kernel
theorem dX8_diagnostic_39 : decode cX8_diagnostic 39 = .ok (.ireturn, 1) := by decide +kernel
set_option maxRecDepth 20000 in
theorem ggX8_throughput_X7_span : GoodIn wsX8_throughput wsX7_span := goodIn_r _ [11, 12, 13, 14, 33, 34, 35] (by decide +kernel) (by decide +kernel)
set_option maxRecDepth 20000 in
theorem gX8_throughput_X7_span : GoodIn wsX8_throughput (wsV RX8 186 RX7 yX7_span wsX7_span) := goodIn_app (goodIn_of _ (by decide +kernel)) ggX8_throughput_X7_span
theorem dX8_throughput_0 : decode cX8_throughput 0 = .ok (.aload_n 0, 1) := by decide +kernel
theorem dX8_throughput_1 : decode cX8_throughput 1 = .ok (.getfield 43, 3) := by decide +kernel
theorem dX8_throughput_4 : decode cX8_throughput 4 = .ok (.invokevirtual 186, 3) := by decide +kernel
theorem dX8_throughput_7 : decode cX8_throughput 7 = .ok (.lstore_n 1, 1) := by decide +kernel
theorem dX8_throughput_8 : decode cX8_throughput 8 = .ok (.lload_n 1, 1) := by decide +kernel
theorem dX8_throughput_9 : decode cX8_throughput 9 = .ok (.lconst 0, 1) := by decide +kernel
theorem dX8_throughput_10 : decode cX8_throughput 10 = .ok (.lcmp, 1) := by decide +kernel
theorem dX8_throughput_11 : decode cX8_throughput 11 = .ok (.ifCond .ne 13, 3) := by decide +kernel
theorem dX8_throughput_14 : decode cX8_throughput 14 = .ok (.new 190, 3) := by decide +kernel
theorem dX8_throughput_17 : decode cX8_throughput 17 = .ok (.dup, 1) := by decide +kernel
theorem dX8_throughput_18 : decode cX8_throughput 18 = .ok (.ldc 192, 2) := by decide +kernel
theorem dX8_throughput_20 : decode cX8_throughput 20 = .ok (.invokespecial 194, 3) := by decide +kernel
theorem dX8_throughput_23 : decode cX8_throughput 23 = .ok (.athrow, 1) := by decide +kernel
theorem dX8_throughput_24 : decode cX8_throughput 24 = .ok (.dconst 1, 1) := by decide +kernel
theorem dX8_throughput_25 : decode cX8_throughput 25 = .ok (.aload_n 0, 1) := by decide +kernel
theorem dX8_throughput_26 : decode cX8_throughput 26 = .ok (.getfield 50, 3) := by decide +kernel
theorem dX8_throughput_29 : decode cX8_throughput 29 = .ok (.getfield 195, 3) := by decide +kernel
theorem dX8_throughput_32 : decode cX8_throughput 32 = .ok (.l2d, 1) := by decide +kernel
theorem dX8_throughput_33 : decode cX8_throughput 33 = .ok (.ldc2_w 198, 3) := by decide +kernel
theorem dX8_throughput_36 : decode cX8_throughput 36 = .ok (.lload_n 1, 1) := by decide +kernel
theorem dX8_throughput_37 : decode cX8_throughput 37 = .ok (.lmul, 1) := by decide +kernel
theorem dX8_throughput_38 : decode cX8_throughput 38 = .ok (.l2d, 1) := by decide +kernel
theorem dX8_throughput_39 : decode cX8_throughput 39 = .ok (.ddiv, 1) := by decide +kernel
theorem dX8_throughput_40 : decode cX8_throughput 40 = .ok (.dsub, 1) := by decide +kernel
theorem dX8_throughput_41 : decode cX8_throughput 41 = .ok (.dreturn, 1) := by decide +kernel
set_option maxRecDepth 20000 in
theorem ggX8_rate_X7_span : GoodIn wsX8_rate wsX7_span := goodIn_r _ [14, 15, 16, 17, 36, 37, 38] (by decide +kernel) (by decide +kernel)
set_option maxRecDepth 20000 in
theorem gX8_rate_X7_span : GoodIn wsX8_rate (wsV RX8 186 RX7 yX7_span wsX7_span) := goodIn_app (goodIn_of _ (by decide +kernel)) ggX8_rate_X7_span
theorem dX8_rate_0 : decode cX8_rate 0 = .ok (.iload_n 1, 1) := by decide +kernel
theorem dX8_rate_1 : decode cX8_rate 1 = .ok (.ifCond .eq 18, 3) := by decide +kernel
theorem dX8_rate_4 : decode cX8_rate 4 = .ok (.iload_n 1, 1) := by decide +kernel
theorem dX8_rate_5 : decode cX8_rate 5 = .ok (.iconst 1, 1) := by decide +kernel
theorem dX8_rate_6 : decode cX8_rate 6 = .ok (.if_icmp .eq 13, 3) := by decide +kernel
theorem dX8_rate_9 : decode cX8_rate 9 = .ok (.new 62, 3) := by decide +kernel
theorem dX8_rate_12 : decode cX8_rate 12 = .ok (.dup, 1) := by decide +kernel
theorem dX8_rate_13 : decode cX8_rate 13 = .ok (.ldc 200, 2) := by decide +kernel
theorem dX8_rate_15 : decode cX8_rate 15 = .ok (.invokespecial 66, 3) := by decide +kernel
theorem dX8_rate_18 : decode cX8_rate 18 = .ok (.athrow, 1) := by decide +kernel
theorem dX8_rate_19 : decode cX8_rate 19 = .ok (.iload_n 1, 1) := by decide +kernel
theorem dX8_rate_20 : decode cX8_rate 20 = .ok (.ifCond .ne 13, 3) := by decide +kernel
theorem dX8_rate_23 : decode cX8_rate 23 = .ok (.aload_n 0, 1) := by decide +kernel
theorem dX8_rate_24 : decode cX8_rate 24 = .ok (.getfield 50, 3) := by decide +kernel
theorem dX8_rate_27 : decode cX8_rate 27 = .ok (.getfield 202, 3) := by decide +kernel
theorem dX8_rate_30 : decode cX8_rate 30 = .ok (.goto 10, 3) := by decide +kernel
theorem dX8_rate_33 : decode cX8_rate 33 = .ok (.aload_n 0, 1) := by decide +kernel
theorem dX8_rate_34 : decode cX8_rate 34 = .ok (.getfield 50, 3) := by decide +kernel
theorem dX8_rate_37 : decode cX8_rate 37 = .ok (.getfield 205, 3) := by decide +kernel
theorem dX8_rate_40 : decode cX8_rate 40 = .ok (.lstore_n 2, 1) := by decide +kernel
theorem dX8_rate_41 : decode cX8_rate 41 = .ok (.iload_n 1, 1) := by decide +kernel
theorem dX8_rate_42 : decode cX8_rate 42 = .ok (.ifCond .ne 13, 3) := by decide +kernel
theorem dX8_rate_45 : decode cX8_rate 45 = .ok (.aload_n 0, 1) := by decide +kernel
theorem dX8_rate_46 : decode cX8_rate 46 = .ok (.getfield 50, 3) := by decide +kernel
theorem dX8_rate_49 : decode cX8_rate 49 = .ok (.getfield 208, 3) := by decide +kernel
theorem dX8_rate_52 : decode cX8_rate 52 = .ok (.goto 10, 3) := by decide +kernel
theorem dX8_rate_55 : decode cX8_rate 55 = .ok (.aload_n 0, 1) := by decide +kernel
theorem dX8_rate_56 : decode cX8_rate 56 = .ok (.getfield 43, 3) := by decide +kernel
theorem dX8_rate_59 : decode cX8_rate 59 = .ok (.invokevirtual 186, 3) := by decide +kernel
theorem dX8_rate_62 : decode cX8_rate 62 = .ok (.lstore 4, 2) := by decide +kernel
theorem dX8_rate_64 : decode cX8_rate 64 = .ok (.lload 4, 2) := by decide +kernel
theorem dX8_rate_66 : decode cX8_rate 66 = .ok (.lconst 0, 1) := by decide +kernel
theorem dX8_rate_67 : decode cX8_rate 67 = .ok (.lcmp, 1) := by decide +kernel
theorem dX8_rate_68 : decode cX8_rate 68 = .ok (.ifCond .ne 13, 3) := by decide +kernel
theorem dX8_rate_71 : decode cX8_rate 71 = .ok (.new 190, 3) := by decide +kernel
theorem dX8_rate_74 : decode cX8_rate 74 = .ok (.dup, 1) := by decide +kernel
theorem dX8_rate_75 : decode cX8_rate 75 = .ok (.ldc 211, 2) := by decide +kernel
theorem dX8_rate_77 : decode cX8_rate 77 = .ok (.invokespecial 194, 3) := by decide +kernel
theorem dX8_rate_80 : decode cX8_rate 80 = .ok (.athrow, 1) := by decide +kernel
theorem dX8_rate_81 : decode cX8_rate 81 = .ok (.lload_n 2, 1) := by decide +kernel
theorem dX8_rate_82 : decode cX8_rate 82 = .ok (.l2d, 1) := by decide +kernel
theorem dX8_rate_83 : decode cX8_rate 83 = .ok (.lload 4, 2) := by decide +kernel
theorem dX8_rate_85 : decode cX8_rate 85 = .ok (.l2d, 1) := by decide +kernel
theorem dX8_rate_86 : decode cX8_rate 86 = .ok (.ddiv, 1) := by decide +kernel
theorem dX8_rate_87 : decode cX8_rate 87 = .ok (.dreturn, 1) := by decide +kernel
set_option maxRecDepth 20000 in
theorem ggX8_percentile_X3_get : GoodIn wsX8_percentile wsX3_get := goodIn_r _ [15, 16, 17, 49, 50] (by decide +kernel) (by decide +kernel)
set_option maxRecDepth 20000 in
theorem gX8_percentile_X3_get : GoodIn wsX8_percentile (wsV RX8 155 RX3 yX3_get wsX3_get) := goodIn_app (goodIn_of _ (by decide +kernel)) ggX8_percentile_X3_get
set_option maxRecDepth 20000 in
theorem ggX8_percentile_X2_isPause : GoodIn wsX8_percentile wsX2_isPause := goodIn_r _ [22, 23, 51, 52, 53, 54, 55, 56, 57, 58, 59, 60, 61, 62, 63, 64, 65] (by decide +kernel) (by decide +kernel)
set_option maxRecDepth 20000 in
theorem gX8_percentile_X2_isPause : GoodIn wsX8_percentile (wsV RX8 224 RX2 yX2_isPause wsX2_isPause) := goodIn_app (goodIn_of _ (by decide +kernel)) ggX8_percentile_X2_isPause
set_option maxRecDepth 20000 in
theorem ggX8_percentile_X3_pausesThatTook : GoodIn wsX8_percentile wsX3_pausesThatTook := goodIn_r _ [27, 16, 28, 29, 12, 13, 14, 15, 17, 30, 19, 20, 21, 22, 23, 49, 50, 51, 52, 53, 54, 55, 56, 57, 58, 59, 60, 61, 62, 63, 64, 65] (by decide +kernel) (by decide +kernel)
set_option maxRecDepth 20000 in
theorem gX8_percentile_X3_pausesThatTook : GoodIn wsX8_percentile (wsV RX8 228 RX3 yX3_pausesThatTook wsX3_pausesThatTook) := goodIn_app (goodIn_of _ (by decide +kernel)) ggX8_percentile_X3_pausesThatTook
theorem dX8_percentile_0 : decode cX8_percentile 0 = .ok (.iload_n 1, 1) := by decide +kernel
theorem dX8_percentile_1 : decode cX8_percentile 1 = .ok (.iconst 1, 1) := by decide +kernel
theorem dX8_percentile_2 : decode cX8_percentile 2 = .ok (.if_icmp .lt 9, 3) := by decide +kernel
theorem dX8_percentile_5 : decode cX8_percentile 5 = .ok (.iload_n 1, 1) := by decide +kernel
theorem dX8_percentile_6 : decode cX8_percentile 6 = .ok (.bipush 100, 2) := by decide +kernel
theorem dX8_percentile_8 : decode cX8_percentile 8 = .ok (.if_icmp .le 13, 3) := by decide +kernel
theorem dX8_percentile_11 : decode cX8_percentile 11 = .ok (.new 62, 3) := by decide +kernel
theorem dX8_percentile_14 : decode cX8_percentile 14 = .ok (.dup, 1) := by decide +kernel
theorem dX8_percentile_15 : decode cX8_percentile 15 = .ok (.ldc 213, 2) := by decide +kernel
theorem dX8_percentile_17 : decode cX8_percentile 17 = .ok (.invokespecial 66, 3) := by decide +kernel
theorem dX8_percentile_20 : decode cX8_percentile 20 = .ok (.athrow, 1) := by decide +kernel
theorem dX8_percentile_21 : decode cX8_percentile 21 = .ok (.aload_n 0, 1) := by decide +kernel
theorem dX8_percentile_22 : decode cX8_percentile 22 = .ok (.getfield 50, 3) := by decide +kernel
theorem dX8_percentile_25 : decode cX8_percentile 25 = .ok (.getfield 215, 3) := by decide +kernel
theorem dX8_percentile_28 : decode cX8_percentile 28 = .ok (.ifCond .ne 13, 3) := by decide +kernel
theorem dX8_percentile_31 : decode cX8_percentile 31 = .ok (.new 190, 3) := by decide +kernel
theorem dX8_percentile_34 : decode cX8_percentile 34 = .ok (.dup, 1) := by decide +kernel
theorem dX8_percentile_35 : decode cX8_percentile 35 = .ok (.ldc 218, 2) := by decide +kernel
theorem dX8_percentile_37 : decode cX8_percentile 37 = .ok (.invokespecial 194, 3) := by decide +kernel
theorem dX8_percentile_40 : decode cX8_percentile 40 = .ok (.athrow, 1) := by decide +kernel
theorem dX8_percentile_41 : decode cX8_percentile 41 = .ok (.ldc 220, 2) := by decide +kernel
theorem dX8_percentile_43 : decode cX8_percentile 43 = .ok (.istore_n 2, 1) := by decide +kernel
theorem dX8_percentile_44 : decode cX8_percentile 44 = .ok (.iconst 0, 1) := by decide +kernel
theorem dX8_percentile_45 : decode cX8_percentile 45 = .ok (.istore_n 3, 1) := by decide +kernel
theorem dX8_percentile_46 : decode cX8_percentile 46 = .ok (.iload_n 3, 1) := by decide +kernel
theorem dX8_percentile_47 : decode cX8_percentile 47 = .ok (.aload_n 0, 1) := by decide +kernel
theorem dX8_percentile_48 : decode cX8_percentile 48 = .ok (.getfield 29, 3) := by decide +kernel
theorem dX8_percentile_51 : decode cX8_percentile 51 = .ok (.getfield 221, 3) := by decide +kernel
theorem dX8_percentile_54 : decode cX8_percentile 54 = .ok (.if_icmp .ge 75, 3) := by decide +kernel
theorem dX8_percentile_57 : decode cX8_percentile 57 = .ok (.aload_n 0, 1) := by decide +kernel
theorem dX8_percentile_58 : decode cX8_percentile 58 = .ok (.getfield 29, 3) := by decide +kernel
theorem dX8_percentile_61 : decode cX8_percentile 61 = .ok (.iload_n 3, 1) := by decide +kernel
theorem dX8_percentile_62 : decode cX8_percentile 62 = .ok (.invokevirtual 155, 3) := by decide +kernel
theorem dX8_percentile_65 : decode cX8_percentile 65 = .ok (.astore 4, 2) := by decide +kernel
theorem dX8_percentile_67 : decode cX8_percentile 67 = .ok (.aload 4, 2) := by decide +kernel
theorem dX8_percentile_69 : decode cX8_percentile 69 = .ok (.ifnull 54, 3) := by decide +kernel
theorem dX8_percentile_72 : decode cX8_percentile 72 = .ok (.aload 4, 2) := by decide +kernel
theorem dX8_percentile_74 : decode cX8_percentile 74 = .ok (.invokevirtual 224, 3) := by decide +kernel
theorem dX8_percentile_77 : decode cX8_percentile 77 = .ok (.ifCond .eq 46, 3) := by decide +kernel
theorem dX8_percentile_80 : decode cX8_percentile 80 = .ok (.aload 4, 2) := by decide +kernel
theorem dX8_percentile_82 : decode cX8_percentile 82 = .ok (.getfield 227, 3) := by decide +kernel
theorem dX8_percentile_85 : decode cX8_percentile 85 = .ok (.iload_n 2, 1) := by decide +kernel
theorem dX8_percentile_86 : decode cX8_percentile 86 = .ok (.if_icmp .ge 37, 3) := by decide +kernel
theorem dX8_percentile_89 : decode cX8_percentile 89 = .ok (.bipush 100, 2) := by decide +kernel
theorem dX8_percentile_91 : decode cX8_percentile 91 = .ok (.aload_n 0, 1) := by decide +kernel
theorem dX8_percentile_92 : decode cX8_percentile 92 = .ok (.getfield 29, 3) := by decide +kernel
theorem dX8_percentile_95 : decode cX8_percentile 95 = .ok (.iconst 0, 1) := by decide +kernel
theorem dX8_percentile_96 : decode cX8_percentile 96 = .ok (.aload 4, 2) := by decide +kernel
theorem dX8_percentile_98 : decode cX8_percentile 98 = .ok (.getfield 227, 3) := by decide +kernel
theorem dX8_percentile_101 : decode cX8_percentile 101 = .ok (.invokevirtual 228, 3) := by decide +kernel
theorem dX8_percentile_104 : decode cX8_percentile 104 = .ok (.imul, 1) := by decide +kernel
theorem dX8_percentile_105 : decode cX8_percentile 105 = .ok (.iload_n 1, 1) := by decide +kernel
theorem dX8_percentile_106 : decode cX8_percentile 106 = .ok (.aload_n 0, 1) := by decide +kernel
theorem dX8_percentile_107 : decode cX8_percentile 107 = .ok (.getfield 50, 3) := by decide +kernel
theorem dX8_percentile_110 : decode cX8_percentile 110 = .ok (.getfield 215, 3) := by decide +kernel
theorem dX8_percentile_113 : decode cX8_percentile 113 = .ok (.imul, 1) := by decide +kernel
theorem dX8_percentile_114 : decode cX8_percentile 114 = .ok (.if_icmp .lt 9, 3) := by decide +kernel
theorem dX8_percentile_117 : decode cX8_percentile 117 = .ok (.aload 4, 2) := by decide +kernel
theorem dX8_percentile_119 : decode cX8_percentile 119 = .ok (.getfield 227, 3) := by decide +kernel
theorem dX8_percentile_122 : decode cX8_percentile 122 = .ok (.istore_n 2, 1) := by decide +kernel
theorem dX8_percentile_123 : decode cX8_percentile 123 = .ok (.iinc 3 1, 3) := by decide +kernel
theorem dX8_percentile_126 : decode cX8_percentile 126 = .ok (.goto (-80), 3) := by decide +kernel
theorem dX8_percentile_129 : decode cX8_percentile 129 = .ok (.iload_n 2, 1) := by decide +kernel
theorem dX8_percentile_130 : decode cX8_percentile 130 = .ok (.ireturn, 1) := by decide +kernel
set_option maxRecDepth 20000 in
theorem ggX8_bucket_X3_pausesThatTook : GoodIn wsX8_bucket wsX3_pausesThatTook := goodIn_r _ [8, 9, 10, 11, 12, 13, 7, 14, 15, 16, 17, 18, 19, 20, 21, 34, 35, 36, 37, 38, 39, 40, 41, 42, 43, 44, 45, 46, 47, 48, 49, 50] (by decide +kernel) (by decide +kernel)
set_option maxRecDepth 20000 in
theorem gX8_bucket_X3_pausesThatTook : GoodIn wsX8_bucket (wsV RX8 228 RX3 yX3_pausesThatTook wsX3_pausesThatTook) := goodIn_app (goodIn_of _ (by decide +kernel)) ggX8_bucket_X3_pausesThatTook
theorem dX8_bucket_0 : decode cX8_bucket 0 = .ok (.iload_n 1, 1) := by decide +kernel
theorem dX8_bucket_1 : decode cX8_bucket 1 = .ok (.ifCond .lt 9, 3) := by decide +kernel
theorem dX8_bucket_4 : decode cX8_bucket 4 = .ok (.iload_n 1, 1) := by decide +kernel
theorem dX8_bucket_5 : decode cX8_bucket 5 = .ok (.bipush 24, 2) := by decide +kernel
theorem dX8_bucket_7 : decode cX8_bucket 7 = .ok (.if_icmp .lt 13, 3) := by decide +kernel
theorem dX8_bucket_10 : decode cX8_bucket 10 = .ok (.new 159, 3) := by decide +kernel
theorem dX8_bucket_13 : decode cX8_bucket 13 = .ok (.dup, 1) := by decide +kernel
theorem dX8_bucket_14 : decode cX8_bucket 14 = .ok (.ldc 231, 2) := by decide +kernel
theorem dX8_bucket_16 : decode cX8_bucket 16 = .ok (.invokespecial 163, 3) := by decide +kernel
theorem dX8_bucket_19 : decode cX8_bucket 19 = .ok (.athrow, 1) := by decide +kernel
theorem dX8_bucket_20 : decode cX8_bucket 20 = .ok (.iload_n 1, 1) := by decide +kernel
theorem dX8_bucket_21 : decode cX8_bucket 21 = .ok (.ifCond .ne 7, 3) := by decide +kernel
theorem dX8_bucket_24 : decode cX8_bucket 24 = .ok (.iconst 0, 1) := by decide +kernel
theorem dX8_bucket_25 : decode cX8_bucket 25 = .ok (.goto 6, 3) := by decide +kernel
theorem dX8_bucket_28 : decode cX8_bucket 28 = .ok (.iconst 1, 1) := by decide +kernel
theorem dX8_bucket_29 : decode cX8_bucket 29 = .ok (.iload_n 1, 1) := by decide +kernel
theorem dX8_bucket_30 : decode cX8_bucket 30 = .ok (.ishl, 1) := by decide +kernel
theorem dX8_bucket_31 : decode cX8_bucket 31 = .ok (.istore_n 2, 1) := by decide +kernel
theorem dX8_bucket_32 : decode cX8_bucket 32 = .ok (.aload_n 0, 1) := by decide +kernel
theorem dX8_bucket_33 : decode cX8_bucket 33 = .ok (.getfield 29, 3) := by decide +kernel
theorem dX8_bucket_36 : decode cX8_bucket 36 = .ok (.iload_n 2, 1) := by decide +kernel
theorem dX8_bucket_37 : decode cX8_bucket 37 = .ok (.iconst 1, 1) := by decide +kernel
theorem dX8_bucket_38 : decode cX8_bucket 38 = .ok (.iload_n 1, 1) := by decide +kernel
theorem dX8_bucket_39 : decode cX8_bucket 39 = .ok (.iconst 1, 1) := by decide +kernel
theorem dX8_bucket_40 : decode cX8_bucket 40 = .ok (.iadd, 1) := by decide +kernel
theorem dX8_bucket_41 : decode cX8_bucket 41 = .ok (.ishl, 1) := by decide +kernel
theorem dX8_bucket_42 : decode cX8_bucket 42 = .ok (.iconst 1, 1) := by decide +kernel
theorem dX8_bucket_43 : decode cX8_bucket 43 = .ok (.isub, 1) := by decide +kernel
theorem dX8_bucket_44 : decode cX8_bucket 44 = .ok (.invokevirtual 228, 3) := by decide +kernel
theorem dX8_bucket_47 : decode cX8_bucket 47 = .ok (.ireturn, 1) := by decide +kernel
set_option maxRecDepth 20000 in
theorem ggX8_ofCause_X3_get : GoodIn wsX8_ofCause wsX3_get := goodIn_r _ [11, 12, 13, 32, 33] (by decide +kernel) (by decide +kernel)
set_option maxRecDepth 20000 in
theorem gX8_ofCause_X3_get : GoodIn wsX8_ofCause (wsV RX8 155 RX3 yX3_get wsX3_get) := goodIn_app (goodIn_of _ (by decide +kernel)) ggX8_ofCause_X3_get
set_option maxRecDepth 20000 in
theorem ggX8_ofCause_X2_isPause : GoodIn wsX8_ofCause wsX2_isPause := goodIn_r _ [18, 19, 34, 35, 36, 37, 38, 39, 40, 41, 42, 43, 44, 45, 46, 47, 48] (by decide +kernel) (by decide +kernel)
set_option maxRecDepth 20000 in
theorem gX8_ofCause_X2_isPause : GoodIn wsX8_ofCause (wsV RX8 224 RX2 yX2_isPause wsX2_isPause) := goodIn_app (goodIn_of _ (by decide +kernel)) ggX8_ofCause_X2_isPause
theorem dX8_ofCause_0 : decode cX8_ofCause 0 = .ok (.iload_n 1, 1) := by decide +kernel
theorem dX8_ofCause_1 : decode cX8_ofCause 1 = .ok (.ifCond .lt 8, 3) := by decide +kernel
theorem dX8_ofCause_4 : decode cX8_ofCause 4 = .ok (.iload_n 1, 1) := by decide +kernel
theorem dX8_ofCause_5 : decode cX8_ofCause 5 = .ok (.iconst 2, 1) := by decide +kernel
theorem dX8_ofCause_6 : decode cX8_ofCause 6 = .ok (.if_icmp .le 13, 3) := by decide +kernel
theorem dX8_ofCause_9 : decode cX8_ofCause 9 = .ok (.new 159, 3) := by decide +kernel
theorem dX8_ofCause_12 : decode cX8_ofCause 12 = .ok (.dup, 1) := by decide +kernel
theorem dX8_ofCause_13 : decode cX8_ofCause 13 = .ok (.ldc 233, 2) := by decide +kernel
theorem dX8_ofCause_15 : decode cX8_ofCause 15 = .ok (.invokespecial 163, 3) := by decide +kernel
theorem dX8_ofCause_18 : decode cX8_ofCause 18 = .ok (.athrow, 1) := by decide +kernel
theorem dX8_ofCause_19 : decode cX8_ofCause 19 = .ok (.lconst 0, 1) := by decide +kernel
theorem dX8_ofCause_20 : decode cX8_ofCause 20 = .ok (.lstore_n 2, 1) := by decide +kernel
theorem dX8_ofCause_21 : decode cX8_ofCause 21 = .ok (.iconst 0, 1) := by decide +kernel
theorem dX8_ofCause_22 : decode cX8_ofCause 22 = .ok (.istore 4, 2) := by decide +kernel
theorem dX8_ofCause_24 : decode cX8_ofCause 24 = .ok (.iload 4, 2) := by decide +kernel
theorem dX8_ofCause_26 : decode cX8_ofCause 26 = .ok (.aload_n 0, 1) := by decide +kernel
theorem dX8_ofCause_27 : decode cX8_ofCause 27 = .ok (.getfield 29, 3) := by decide +kernel
theorem dX8_ofCause_30 : decode cX8_ofCause 30 = .ok (.getfield 221, 3) := by decide +kernel
theorem dX8_ofCause_33 : decode cX8_ofCause 33 = .ok (.if_icmp .ge 51, 3) := by decide +kernel
theorem dX8_ofCause_36 : decode cX8_ofCause 36 = .ok (.aload_n 0, 1) := by decide +kernel
theorem dX8_ofCause_37 : decode cX8_ofCause 37 = .ok (.getfield 29, 3) := by decide +kernel
theorem dX8_ofCause_40 : decode cX8_ofCause 40 = .ok (.iload 4, 2) := by decide +kernel
theorem dX8_ofCause_42 : decode cX8_ofCause 42 = .ok (.invokevirtual 155, 3) := by decide +kernel
theorem dX8_ofCause_45 : decode cX8_ofCause 45 = .ok (.astore 5, 2) := by decide +kernel
theorem dX8_ofCause_47 : decode cX8_ofCause 47 = .ok (.aload 5, 2) := by decide +kernel
theorem dX8_ofCause_49 : decode cX8_ofCause 49 = .ok (.ifnull 29, 3) := by decide +kernel
theorem dX8_ofCause_52 : decode cX8_ofCause 52 = .ok (.aload 5, 2) := by decide +kernel
theorem dX8_ofCause_54 : decode cX8_ofCause 54 = .ok (.invokevirtual 224, 3) := by decide +kernel
theorem dX8_ofCause_57 : decode cX8_ofCause 57 = .ok (.ifCond .eq 21, 3) := by decide +kernel
theorem dX8_ofCause_60 : decode cX8_ofCause 60 = .ok (.aload 5, 2) := by decide +kernel
theorem dX8_ofCause_62 : decode cX8_ofCause 62 = .ok (.getfield 235, 3) := by decide +kernel
theorem dX8_ofCause_65 : decode cX8_ofCause 65 = .ok (.iload_n 1, 1) := by decide +kernel
theorem dX8_ofCause_66 : decode cX8_ofCause 66 = .ok (.if_icmp .ne 12, 3) := by decide +kernel
theorem dX8_ofCause_69 : decode cX8_ofCause 69 = .ok (.lload_n 2, 1) := by decide +kernel
theorem dX8_ofCause_70 : decode cX8_ofCause 70 = .ok (.aload 5, 2) := by decide +kernel
theorem dX8_ofCause_72 : decode cX8_ofCause 72 = .ok (.getfield 227, 3) := by decide +kernel
theorem dX8_ofCause_75 : decode cX8_ofCause 75 = .ok (.i2l, 1) := by decide +kernel
theorem dX8_ofCause_76 : decode cX8_ofCause 76 = .ok (.ladd, 1) := by decide +kernel
theorem dX8_ofCause_77 : decode cX8_ofCause 77 = .ok (.lstore_n 2, 1) := by decide +kernel
theorem dX8_ofCause_78 : decode cX8_ofCause 78 = .ok (.iinc 4 1, 3) := by decide +kernel
theorem dX8_ofCause_81 : decode cX8_ofCause 81 = .ok (.goto (-57), 3) := by decide +kernel
theorem dX8_ofCause_84 : decode cX8_ofCause 84 = .ok (.lload_n 2, 1) := by decide +kernel
theorem dX8_ofCause_85 : decode cX8_ofCause 85 = .ok (.lreturn, 1) := by decide +kernel
set_option maxRecDepth 20000 in
theorem ggX8_count_X8_linesOf : GoodIn wsX8_count wsX8_linesOf := goodIn_r _ [20, 21, 61, 62, 63, 64, 65, 66, 67, 68, 69, 70, 71, 72, 73, 74, 75] (by decide +kernel) (by decide +kernel)
set_option maxRecDepth 20000 in
theorem gX8_count_X8_linesOf : GoodIn wsX8_count (va_wsS RX8 245 yX8_linesOf wsX8_linesOf) := goodIn_app (goodIn_of _ (by decide +kernel)) ggX8_count_X8_linesOf
set_option maxRecDepth 20000 in
theorem ggX8_count_X7_span : GoodIn wsX8_count wsX7_span := goodIn_r _ [26, 27, 28, 29, 76, 77, 78] (by decide +kernel) (by decide +kernel)
set_option maxRecDepth 20000 in
theorem gX8_count_X7_span : GoodIn wsX8_count (wsV RX8 186 RX7 yX7_span wsX7_span) := goodIn_app (goodIn_of _ (by decide +kernel)) ggX8_count_X7_span
set_option maxRecDepth 20000 in
theorem ggX8_count_X8_idOf : GoodIn wsX8_count wsX8_idOf := goodIn_r _ [32, 33, 61, 62, 63, 64, 65, 66, 67, 68, 69, 70, 71, 72, 73, 74, 75] (by decide +kernel) (by decide +kernel)
set_option maxRecDepth 20000 in
theorem gX8_count_X8_idOf : GoodIn wsX8_count (va_wsS RX8 248 yX8_idOf wsX8_idOf) := goodIn_app (goodIn_of _ (by decide +kernel)) ggX8_count_X8_idOf
theorem dX8_count_0 : decode cX8_count 0 = .ok (.iload_n 1, 1) := by decide +kernel
theorem dX8_count_1 : decode cX8_count 1 = .ok (.tableswitch 150 0 10 #[59, 64, 72, 80, 85, 93, 109, 117, 126, 134, 142], 59) := by decide +kernel
theorem dX8_count_60 : decode cX8_count 60 = .ok (.aload_n 0, 1) := by decide +kernel
theorem dX8_count_61 : decode cX8_count 61 = .ok (.getfield 110, 3) := by decide +kernel
theorem dX8_count_64 : decode cX8_count 64 = .ok (.ireturn, 1) := by decide +kernel
theorem dX8_count_65 : decode cX8_count 65 = .ok (.aload_n 0, 1) := by decide +kernel
theorem dX8_count_66 : decode cX8_count 66 = .ok (.getfield 29, 3) := by decide +kernel
theorem dX8_count_69 : decode cX8_count 69 = .ok (.getfield 221, 3) := by decide +kernel
theorem dX8_count_72 : decode cX8_count 72 = .ok (.ireturn, 1) := by decide +kernel
theorem dX8_count_73 : decode cX8_count 73 = .ok (.aload_n 0, 1) := by decide +kernel
theorem dX8_count_74 : decode cX8_count 74 = .ok (.getfield 36, 3) := by decide +kernel
theorem dX8_count_77 : decode cX8_count 77 = .ok (.getfield 238, 3) := by decide +kernel
theorem dX8_count_80 : decode cX8_count 80 = .ok (.ireturn, 1) := by decide +kernel
theorem dX8_count_81 : decode cX8_count 81 = .ok (.aload_n 0, 1) := by decide +kernel
theorem dX8_count_82 : decode cX8_count 82 = .ok (.getfield 241, 3) := by decide +kernel
theorem dX8_count_85 : decode cX8_count 85 = .ok (.ireturn, 1) := by decide +kernel
theorem dX8_count_86 : decode cX8_count 86 = .ok (.aload_n 0, 1) := by decide +kernel
theorem dX8_count_87 : decode cX8_count 87 = .ok (.getfield 36, 3) := by decide +kernel
theorem dX8_count_90 : decode cX8_count 90 = .ok (.getfield 244, 3) := by decide +kernel
theorem dX8_count_93 : decode cX8_count 93 = .ok (.ireturn, 1) := by decide +kernel
theorem dX8_count_94 : decode cX8_count 94 = .ok (.aload_n 0, 1) := by decide +kernel
theorem dX8_count_95 : decode cX8_count 95 = .ok (.getfield 140, 3) := by decide +kernel
theorem dX8_count_98 : decode cX8_count 98 = .ok (.invokestatic 245, 3) := by decide +kernel
theorem dX8_count_101 : decode cX8_count 101 = .ok (.aload_n 0, 1) := by decide +kernel
theorem dX8_count_102 : decode cX8_count 102 = .ok (.getfield 148, 3) := by decide +kernel
theorem dX8_count_105 : decode cX8_count 105 = .ok (.invokestatic 245, 3) := by decide +kernel
theorem dX8_count_108 : decode cX8_count 108 = .ok (.iadd, 1) := by decide +kernel
theorem dX8_count_109 : decode cX8_count 109 = .ok (.ireturn, 1) := by decide +kernel
theorem dX8_count_110 : decode cX8_count 110 = .ok (.aload_n 0, 1) := by decide +kernel
theorem dX8_count_111 : decode cX8_count 111 = .ok (.getfield 10, 3) := by decide +kernel
theorem dX8_count_114 : decode cX8_count 114 = .ok (.getfield 107, 3) := by decide +kernel
theorem dX8_count_117 : decode cX8_count 117 = .ok (.ireturn, 1) := by decide +kernel
theorem dX8_count_118 : decode cX8_count 118 = .ok (.aload_n 0, 1) := by decide +kernel
theorem dX8_count_119 : decode cX8_count 119 = .ok (.getfield 43, 3) := by decide +kernel
theorem dX8_count_122 : decode cX8_count 122 = .ok (.invokevirtual 186, 3) := by decide +kernel
theorem dX8_count_125 : decode cX8_count 125 = .ok (.l2i, 1) := by decide +kernel
theorem dX8_count_126 : decode cX8_count 126 = .ok (.ireturn, 1) := by decide +kernel
theorem dX8_count_127 : decode cX8_count 127 = .ok (.aload_n 0, 1) := by decide +kernel
theorem dX8_count_128 : decode cX8_count 128 = .ok (.getfield 50, 3) := by decide +kernel
theorem dX8_count_131 : decode cX8_count 131 = .ok (.getfield 215, 3) := by decide +kernel
theorem dX8_count_134 : decode cX8_count 134 = .ok (.ireturn, 1) := by decide +kernel
theorem dX8_count_135 : decode cX8_count 135 = .ok (.aload_n 0, 1) := by decide +kernel
theorem dX8_count_136 : decode cX8_count 136 = .ok (.getfield 140, 3) := by decide +kernel
theorem dX8_count_139 : decode cX8_count 139 = .ok (.invokestatic 248, 3) := by decide +kernel
theorem dX8_count_142 : decode cX8_count 142 = .ok (.ireturn, 1) := by decide +kernel
theorem dX8_count_143 : decode cX8_count 143 = .ok (.aload_n 0, 1) := by decide +kernel
theorem dX8_count_144 : decode cX8_count 144 = .ok (.getfield 148, 3) := by decide +kernel
theorem dX8_count_147 : decode cX8_count 147 = .ok (.invokestatic 248, 3) := by decide +kernel
theorem dX8_count_150 : decode cX8_count 150 = .ok (.ireturn, 1) := by decide +kernel
theorem dX8_count_151 : decode cX8_count 151 = .ok (.new 159, 3) := by decide +kernel
theorem dX8_count_154 : decode cX8_count 154 = .ok (.dup, 1) := by decide +kernel
theorem dX8_count_155 : decode cX8_count 155 = .ok (.ldc 251, 2) := by decide +kernel
theorem dX8_count_157 : decode cX8_count 157 = .ok (.invokespecial 163, 3) := by decide +kernel
theorem dX8_count_160 : decode cX8_count 160 = .ok (.athrow, 1) := by decide +kernel
theorem dX8_linesOf_0 : decode cX8_linesOf 0 = .ok (.aload_n 0, 1) := by decide +kernel
theorem dX8_linesOf_1 : decode cX8_linesOf 1 = .ok (.ifnonnull 7, 3) := by decide +kernel
theorem dX8_linesOf_4 : decode cX8_linesOf 4 = .ok (.iconst 0, 1) := by decide +kernel
theorem dX8_linesOf_5 : decode cX8_linesOf 5 = .ok (.goto 7, 3) := by decide +kernel
theorem dX8_linesOf_8 : decode cX8_linesOf 8 = .ok (.aload_n 0, 1) := by decide +kernel
theorem dX8_linesOf_9 : decode cX8_linesOf 9 = .ok (.getfield 169, 3) := by decide +kernel
theorem dX8_linesOf_12 : decode cX8_linesOf 12 = .ok (.ireturn, 1) := by decide +kernel
theorem dX8_idOf_0 : decode cX8_idOf 0 = .ok (.aload_n 0, 1) := by decide +kernel
theorem dX8_idOf_1 : decode cX8_idOf 1 = .ok (.ifnonnull 7, 3) := by decide +kernel
theorem dX8_idOf_4 : decode cX8_idOf 4 = .ok (.iconst (-1), 1) := by decide +kernel
theorem dX8_idOf_5 : decode cX8_idOf 5 = .ok (.goto 7, 3) := by decide +kernel
theorem dX8_idOf_8 : decode cX8_idOf 8 = .ok (.aload_n 0, 1) := by decide +kernel
theorem dX8_idOf_9 : decode cX8_idOf 9 = .ok (.getfield 253, 3) := by decide +kernel
theorem dX8_idOf_12 : decode cX8_idOf 12 = .ok (.ireturn, 1) := by decide +kernel
set_option maxRecDepth 20000 in
theorem ggX8_truncate_X0_add : GoodIn wsX8_truncate wsX0_add := goodIn_r _ [8, 9, 10, 11, 12, 13, 41, 42, 43, 44, 45] (by decide +kernel) (by decide +kernel)
set_option maxRecDepth 20000 in
theorem gX8_truncate_X0_add : GoodIn wsX8_truncate (wsV RX8 137 RX0 yX0_add wsX0_add) := goodIn_app (goodIn_of _ (by decide +kernel)) ggX8_truncate_X0_add
theorem dX8_truncate_0 : decode cX8_truncate 0 = .ok (.aload_n 1, 1) := by decide +kernel
theorem dX8_truncate_1 : decode cX8_truncate 1 = .ok (.ifnonnull 5, 3) := by decide +kernel
theorem dX8_truncate_4 : decode cX8_truncate 4 = .ok (.iconst 0, 1) := by decide +kernel
theorem dX8_truncate_5 : decode cX8_truncate 5 = .ok (.ireturn, 1) := by decide +kernel
theorem dX8_truncate_6 : decode cX8_truncate 6 = .ok (.aload_n 0, 1) := by decide +kernel
theorem dX8_truncate_7 : decode cX8_truncate 7 = .ok (.getfield 36, 3) := by decide +kernel
theorem dX8_truncate_10 : decode cX8_truncate 10 = .ok (.bipush 8, 2) := by decide +kernel
theorem dX8_truncate_12 : decode cX8_truncate 12 = .ok (.aload_n 1, 1) := by decide +kernel
theorem dX8_truncate_13 : decode cX8_truncate 13 = .ok (.getfield 254, 3) := by decide +kernel
theorem dX8_truncate_16 : decode cX8_truncate 16 = .ok (.iconst 0, 1) := by decide +kernel
theorem dX8_truncate_17 : decode cX8_truncate 17 = .ok (.aload_n 1, 1) := by decide +kernel
theorem dX8_truncate_18 : decode cX8_truncate 18 = .ok (.getfield 169, 3) := by decide +kernel
theorem dX8_truncate_21 : decode cX8_truncate 21 = .ok (.invokevirtual 137, 3) := by decide +kernel
theorem dX8_truncate_24 : decode cX8_truncate 24 = .ok (.aload_n 1, 1) := by decide +kernel
theorem dX8_truncate_25 : decode cX8_truncate 25 = .ok (.getfield 169, 3) := by decide +kernel
theorem dX8_truncate_28 : decode cX8_truncate 28 = .ok (.ireturn, 1) := by decide +kernel
set_option maxRecDepth 20000 in
theorem ggX8_answerTo_X7_isBack : GoodIn wsX8_answerTo wsX7_isBack := goodIn_r _ [8, 9, 167, 168, 169] (by decide +kernel) (by decide +kernel)
set_option maxRecDepth 20000 in
theorem gX8_answerTo_X7_isBack : GoodIn wsX8_answerTo (wsV RX8 257 RX7 yX7_isBack wsX7_isBack) := goodIn_app (goodIn_of _ (by decide +kernel)) ggX8_answerTo_X7_isBack
set_option maxRecDepth 20000 in
theorem ggX8_answerTo_X7_see : GoodIn wsX8_answerTo wsX7_see := goodIn_r _ [13, 14, 9, 167, 168, 169] (by decide +kernel) (by decide +kernel)
set_option maxRecDepth 20000 in
theorem gX8_answerTo_X7_see : GoodIn wsX8_answerTo (wsV RX8 260 RX7 yX7_see wsX7_see) := goodIn_app (goodIn_of _ (by decide +kernel)) ggX8_answerTo_X7_see
set_option maxRecDepth 20000 in
theorem ggX8_answerTo_X8_begin : GoodIn wsX8_answerTo wsX8_begin := goodIn_r _ [19, 3, 20, 21, 22, 23, 24, 25, 26, 27, 28, 29, 30, 31, 32, 33, 34, 35, 36, 37, 38, 39, 40, 41, 42, 43, 44, 45, 46, 47, 48, 49, 50, 51, 158, 159, 160, 161, 162, 163, 164, 165, 166, 146, 147, 148, 149, 150, 151, 152, 153, 154, 155, 156, 157, 170, 171, 172, 173, 174, 175, 176, 177, 178, 179, 180, 181, 182, 183, 184] (by decide +kernel) (by decide +kernel)
set_option maxRecDepth 20000 in
theorem gX8_answerTo_X8_begin : GoodIn wsX8_answerTo (wsV RX8 267 RX8 yX8_begin wsX8_begin) := goodIn_app (goodIn_of _ (by decide +kernel)) ggX8_answerTo_X8_begin
set_option maxRecDepth 20000 in
theorem ggX8_answerTo_X8_addPart : GoodIn wsX8_answerTo wsX8_addPart := goodIn_r _ [55, 23, 56, 20, 57, 58, 59, 26, 60, 34, 47, 49, 61, 62, 48, 50, 51, 146, 147, 148, 149, 150, 151, 152, 153, 154, 155, 156, 157, 170, 171, 172, 173, 174, 175, 176, 177, 178, 179, 180, 181, 182, 183, 184, 158, 159, 160, 161, 162, 163, 164, 165, 166] (by decide +kernel) (by decide +kernel)
set_option maxRecDepth 20000 in
theorem gX8_answerTo_X8_addPart : GoodIn wsX8_answerTo (wsV RX8 270 RX8 yX8_addPart wsX8_addPart) := goodIn_app (goodIn_of _ (by decide +kernel)) ggX8_answerTo_X8_addPart
set_option maxRecDepth 20000 in
theorem ggX8_answerTo_X8_endPause : GoodIn wsX8_answerTo wsX8_endPause := goodIn_r _ [66, 23, 56, 20, 67, 68, 69, 70, 71, 26, 72, 42, 43, 38, 39, 73, 74, 75, 76, 61, 77, 62, 47, 78, 79, 80, 81, 49, 48, 50, 82, 83, 84, 85, 86, 87, 88, 89, 90, 91, 92, 40, 41, 93, 94, 95, 96, 97, 98, 99, 100, 101, 102, 103, 104, 44, 45, 46, 105, 51, 106, 107, 108, 109, 110, 111, 112, 113, 114, 115, 116, 117, 118, 119, 120, 121, 122, 123, 124, 125, 126, 18, 127, 128, 129, 130, 131, 132, 133, 146, 147, 148, 149, 150, 151, 152, 153, 154, 155, 156, 157, 170, 171, 172, 173, 174, 175, 176, 177, 178, 179, 180, 181, 182, 183, 184, 158, 159, 160, 161, 162, 163, 164, 165, 166, 185, 186, 187, 188, 189, 190, 191, 192] (by decide +kernel) (by decide +kernel)
set_option maxRecDepth 20000 in
theorem gX8_answerTo_X8_endPause : GoodIn wsX8_answerTo (wsV RX8 273 RX8 yX8_endPause wsX8_endPause) := goodIn_app (goodIn_of _ (by decide +kernel)) ggX8_answerTo_X8_endPause
set_option maxRecDepth 20000 in
theorem ggX8_answerTo_X8_endMark : GoodIn wsX8_answerTo wsX8_endMark := goodIn_r _ [137, 22, 56, 20, 3, 67, 82, 83, 84, 26, 85, 86, 87, 88, 89, 90, 91, 92, 40, 41, 93, 94, 95, 96, 97, 98, 99, 138, 139, 140, 141, 34, 104, 43, 142, 143, 144, 80, 145, 105, 51, 124, 125, 126, 18, 127, 128, 129, 130, 131, 132, 133, 146, 147, 148, 149, 150, 151, 152, 153, 154, 155, 156, 157, 170, 171, 172, 173, 174, 175, 176, 177, 178, 179, 180, 181, 182, 183, 184, 158, 159, 160, 161, 162, 163, 164, 165, 166, 185, 186] (by decide +kernel) (by decide +kernel)
set_option maxRecDepth 20000 in
theorem gX8_answerTo_X8_endMark : GoodIn wsX8_answerTo (wsV RX8 276 RX8 yX8_endMark wsX8_endMark) := goodIn_app (goodIn_of _ (by decide +kernel)) ggX8_answerTo_X8_endMark
theorem dX8_answerTo_0 : decode cX8_answerTo 0 = .ok (.aload_n 0, 1) := by decide +kernel
theorem dX8_answerTo_1 : decode cX8_answerTo 1 = .ok (.getfield 43, 3) := by decide +kernel
theorem dX8_answerTo_4 : decode cX8_answerTo 4 = .ok (.aload_n 1, 1) := by decide +kernel
theorem dX8_answerTo_5 : decode cX8_answerTo 5 = .ok (.getfield 82, 3) := by decide +kernel
theorem dX8_answerTo_8 : decode cX8_answerTo 8 = .ok (.invokevirtual 257, 3) := by decide +kernel
theorem dX8_answerTo_11 : decode cX8_answerTo 11 = .ok (.ifCond .eq 6, 3) := by decide +kernel
theorem dX8_answerTo_14 : decode cX8_answerTo 14 = .ok (.bipush (-2), 2) := by decide +kernel
theorem dX8_answerTo_16 : decode cX8_answerTo 16 = .ok (.ireturn, 1) := by decide +kernel
theorem dX8_answerTo_17 : decode cX8_answerTo 17 = .ok (.aload_n 0, 1) := by decide +kernel
theorem dX8_answerTo_18 : decode cX8_answerTo 18 = .ok (.getfield 43, 3) := by decide +kernel
theorem dX8_answerTo_21 : decode cX8_answerTo 21 = .ok (.aload_n 1, 1) := by decide +kernel
theorem dX8_answerTo_22 : decode cX8_answerTo 22 = .ok (.getfield 82, 3) := by decide +kernel
theorem dX8_answerTo_25 : decode cX8_answerTo 25 = .ok (.invokevirtual 260, 3) := by decide +kernel
theorem dX8_answerTo_28 : decode cX8_answerTo 28 = .ok (.aload_n 1, 1) := by decide +kernel
theorem dX8_answerTo_29 : decode cX8_answerTo 29 = .ok (.getfield 264, 3) := by decide +kernel
theorem dX8_answerTo_32 : decode cX8_answerTo 32 = .ok (.tableswitch 54 0 4 #[36, 48, 42, 42, 36], 36) := by decide +kernel
theorem dX8_answerTo_68 : decode cX8_answerTo 68 = .ok (.aload_n 0, 1) := by decide +kernel
theorem dX8_answerTo_69 : decode cX8_answerTo 69 = .ok (.aload_n 1, 1) := by decide +kernel
theorem dX8_answerTo_70 : decode cX8_answerTo 70 = .ok (.invokevirtual 267, 3) := by decide +kernel
theorem dX8_answerTo_73 : decode cX8_answerTo 73 = .ok (.ireturn, 1) := by decide +kernel
theorem dX8_answerTo_74 : decode cX8_answerTo 74 = .ok (.aload_n 0, 1) := by decide +kernel
theorem dX8_answerTo_75 : decode cX8_answerTo 75 = .ok (.aload_n 1, 1) := by decide +kernel
theorem dX8_answerTo_76 : decode cX8_answerTo 76 = .ok (.invokevirtual 270, 3) := by decide +kernel
theorem dX8_answerTo_79 : decode cX8_answerTo 79 = .ok (.ireturn, 1) := by decide +kernel
theorem dX8_answerTo_80 : decode cX8_answerTo 80 = .ok (.aload_n 0, 1) := by decide +kernel
theorem dX8_answerTo_81 : decode cX8_answerTo 81 = .ok (.aload_n 1, 1) := by decide +kernel
theorem dX8_answerTo_82 : decode cX8_answerTo 82 = .ok (.invokevirtual 273, 3) := by decide +kernel
theorem dX8_answerTo_85 : decode cX8_answerTo 85 = .ok (.ireturn, 1) := by decide +kernel
theorem dX8_answerTo_86 : decode cX8_answerTo 86 = .ok (.aload_n 0, 1) := by decide +kernel
theorem dX8_answerTo_87 : decode cX8_answerTo 87 = .ok (.aload_n 1, 1) := by decide +kernel
theorem dX8_answerTo_88 : decode cX8_answerTo 88 = .ok (.invokevirtual 276, 3) := by decide +kernel
theorem dX8_answerTo_91 : decode cX8_answerTo 91 = .ok (.ireturn, 1) := by decide +kernel
set_option maxRecDepth 20000 in
theorem ggX8_begin_X2_init : GoodIn wsX8_begin wsX2_init := goodIn_r _ [12, 13, 14, 15, 16, 17, 18, 19, 20, 21, 22, 23, 24, 25, 26, 27, 28, 29, 30, 31, 32, 33, 34, 35, 36, 37, 38, 39, 40, 41, 42, 55, 56, 57, 58, 59, 60, 61, 62, 63, 64, 65, 66, 67, 68, 69] (by decide +kernel) (by decide +kernel)
set_option maxRecDepth 20000 in
theorem gX8_begin_X2_init : GoodIn wsX8_begin (wsX2_init) := ggX8_begin_X2_init
theorem dX8_begin_0 : decode cX8_begin 0 = .ok (.aload_n 1, 1) := by decide +kernel
theorem dX8_begin_1 : decode cX8_begin 1 = .ok (.getfield 264, 3) := by decide +kernel
theorem dX8_begin_4 : decode cX8_begin 4 = .ok (.iconst 4, 1) := by decide +kernel
theorem dX8_begin_5 : decode cX8_begin 5 = .ok (.if_icmp .ne 7, 3) := by decide +kernel
theorem dX8_begin_8 : decode cX8_begin 8 = .ok (.iconst 1, 1) := by decide +kernel
theorem dX8_begin_9 : decode cX8_begin 9 = .ok (.goto 4, 3) := by decide +kernel
theorem dX8_begin_12 : decode cX8_begin 12 = .ok (.iconst 0, 1) := by decide +kernel
theorem dX8_begin_13 : decode cX8_begin 13 = .ok (.istore_n 2, 1) := by decide +kernel
theorem dX8_begin_14 : decode cX8_begin 14 = .ok (.aload_n 1, 1) := by decide +kernel
theorem dX8_begin_15 : decode cX8_begin 15 = .ok (.getfield 79, 3) := by decide +kernel
theorem dX8_begin_18 : decode cX8_begin 18 = .ok (.aload_n 0, 1) := by decide +kernel
theorem dX8_begin_19 : decode cX8_begin 19 = .ok (.getfield 54, 3) := by decide +kernel
theorem dX8_begin_22 : decode cX8_begin 22 = .ok (.if_icmp .gt 6, 3) := by decide +kernel
theorem dX8_begin_25 : decode cX8_begin 25 = .ok (.bipush (-3), 2) := by decide +kernel
theorem dX8_begin_27 : decode cX8_begin 27 = .ok (.ireturn, 1) := by decide +kernel
theorem dX8_begin_28 : decode cX8_begin 28 = .ok (.iload_n 2, 1) := by decide +kernel
theorem dX8_begin_29 : decode cX8_begin 29 = .ok (.ifCond .eq 10, 3) := by decide +kernel
theorem dX8_begin_32 : decode cX8_begin 32 = .ok (.aload_n 0, 1) := by decide +kernel
theorem dX8_begin_33 : decode cX8_begin 33 = .ok (.getfield 148, 3) := by decide +kernel
theorem dX8_begin_36 : decode cX8_begin 36 = .ok (.goto 7, 3) := by decide +kernel
theorem dX8_begin_39 : decode cX8_begin 39 = .ok (.aload_n 0, 1) := by decide +kernel
theorem dX8_begin_40 : decode cX8_begin 40 = .ok (.getfield 140, 3) := by decide +kernel
theorem dX8_begin_43 : decode cX8_begin 43 = .ok (.ifnull 6, 3) := by decide +kernel
theorem dX8_begin_46 : decode cX8_begin 46 = .ok (.bipush (-4), 2) := by decide +kernel
theorem dX8_begin_48 : decode cX8_begin 48 = .ok (.ireturn, 1) := by decide +kernel
theorem dX8_begin_49 : decode cX8_begin 49 = .ok (.new 165, 3) := by decide +kernel
theorem dX8_begin_52 : decode cX8_begin 52 = .ok (.dup, 1) := by decide +kernel
theorem dX8_begin_53 : decode cX8_begin 53 = .ok (.aload_n 1, 1) := by decide +kernel
theorem dX8_begin_54 : decode cX8_begin 54 = .ok (.aload_n 0, 1) := by decide +kernel
theorem dX8_begin_55 : decode cX8_begin 55 = .ok (.getfield 110, 3) := by decide +kernel
theorem dX8_begin_58 : decode cX8_begin 58 = .ok (.invokespecial 279, 3) := by decide +kernel
theorem dX8_begin_61 : decode cX8_begin 61 = .ok (.astore_n 3, 1) := by decide +kernel
theorem dX8_begin_62 : decode cX8_begin 62 = .ok (.iload_n 2, 1) := by decide +kernel
theorem dX8_begin_63 : decode cX8_begin 63 = .ok (.ifCond .eq 11, 3) := by decide +kernel
theorem dX8_begin_66 : decode cX8_begin 66 = .ok (.aload_n 0, 1) := by decide +kernel
theorem dX8_begin_67 : decode cX8_begin 67 = .ok (.aload_n 3, 1) := by decide +kernel
theorem dX8_begin_68 : decode cX8_begin 68 = .ok (.putfield 148, 3) := by decide +kernel
theorem dX8_begin_71 : decode cX8_begin 71 = .ok (.goto 8, 3) := by decide +kernel
theorem dX8_begin_74 : decode cX8_begin 74 = .ok (.aload_n 0, 1) := by decide +kernel
theorem dX8_begin_75 : decode cX8_begin 75 = .ok (.aload_n 3, 1) := by decide +kernel
theorem dX8_begin_76 : decode cX8_begin 76 = .ok (.putfield 140, 3) := by decide +kernel
theorem dX8_begin_79 : decode cX8_begin 79 = .ok (.aload_n 0, 1) := by decide +kernel
theorem dX8_begin_80 : decode cX8_begin 80 = .ok (.aload_n 1, 1) := by decide +kernel
theorem dX8_begin_81 : decode cX8_begin 81 = .ok (.getfield 79, 3) := by decide +kernel
theorem dX8_begin_84 : decode cX8_begin 84 = .ok (.putfield 54, 3) := by decide +kernel
theorem dX8_begin_87 : decode cX8_begin 87 = .ok (.iconst 0, 1) := by decide +kernel
theorem dX8_begin_88 : decode cX8_begin 88 = .ok (.ireturn, 1) := by decide +kernel
set_option maxRecDepth 20000 in
theorem ggX8_addPart_X2_addPart : GoodIn wsX8_addPart wsX2_addPart := goodIn_r _ [8, 9, 10, 11, 12, 13, 14, 15, 16, 44, 45, 46, 47, 48, 49, 50, 51, 52, 29, 30, 31, 32, 33, 34, 35, 36, 37, 38, 39, 40, 41, 42, 43] (by decide +kernel) (by decide +kernel)
set_option maxRecDepth 20000 in
theorem gX8_addPart_X2_addPart : GoodIn wsX8_addPart (wsV RX8 282 RX2 yX2_addPart wsX2_addPart) := goodIn_app (goodIn_of _ (by decide +kernel)) ggX8_addPart_X2_addPart
theorem dX8_addPart_0 : decode cX8_addPart 0 = .ok (.aload_n 0, 1) := by decide +kernel
theorem dX8_addPart_1 : decode cX8_addPart 1 = .ok (.getfield 140, 3) := by decide +kernel
theorem dX8_addPart_4 : decode cX8_addPart 4 = .ok (.astore_n 2, 1) := by decide +kernel
theorem dX8_addPart_5 : decode cX8_addPart 5 = .ok (.aload_n 2, 1) := by decide +kernel
theorem dX8_addPart_6 : decode cX8_addPart 6 = .ok (.ifnull 14, 3) := by decide +kernel
theorem dX8_addPart_9 : decode cX8_addPart 9 = .ok (.aload_n 2, 1) := by decide +kernel
theorem dX8_addPart_10 : decode cX8_addPart 10 = .ok (.getfield 253, 3) := by decide +kernel
theorem dX8_addPart_13 : decode cX8_addPart 13 = .ok (.aload_n 1, 1) := by decide +kernel
theorem dX8_addPart_14 : decode cX8_addPart 14 = .ok (.getfield 79, 3) := by decide +kernel
theorem dX8_addPart_17 : decode cX8_addPart 17 = .ok (.if_icmp .eq 6, 3) := by decide +kernel
theorem dX8_addPart_20 : decode cX8_addPart 20 = .ok (.bipush (-5), 2) := by decide +kernel
theorem dX8_addPart_22 : decode cX8_addPart 22 = .ok (.ireturn, 1) := by decide +kernel
theorem dX8_addPart_23 : decode cX8_addPart 23 = .ok (.aload_n 2, 1) := by decide +kernel
theorem dX8_addPart_24 : decode cX8_addPart 24 = .ok (.aload_n 1, 1) := by decide +kernel
theorem dX8_addPart_25 : decode cX8_addPart 25 = .ok (.invokevirtual 282, 3) := by decide +kernel
theorem dX8_addPart_28 : decode cX8_addPart 28 = .ok (.ifCond .eq 7, 3) := by decide +kernel
theorem dX8_addPart_31 : decode cX8_addPart 31 = .ok (.iconst 0, 1) := by decide +kernel
theorem dX8_addPart_32 : decode cX8_addPart 32 = .ok (.goto 5, 3) := by decide +kernel
theorem dX8_addPart_35 : decode cX8_addPart 35 = .ok (.bipush (-6), 2) := by decide +kernel
theorem dX8_addPart_37 : decode cX8_addPart 37 = .ok (.ireturn, 1) := by decide +kernel
set_option maxRecDepth 20000 in
theorem ggX8_endPause_X2_isAnotherPauseThan : GoodIn wsX8_endPause wsX2_isAnotherPauseThan := goodIn_r _ [10, 11, 12, 13, 14, 116, 117, 118, 119, 120, 121, 122, 123, 124, 101, 102, 103, 104, 105, 106, 107, 108, 109, 110, 111, 112, 113, 114, 115] (by decide +kernel) (by decide +kernel)
set_option maxRecDepth 20000 in
theorem gX8_endPause_X2_isAnotherPauseThan : GoodIn wsX8_endPause (wsV RX8 285 RX2 yX2_isAnotherPauseThan wsX2_isAnotherPauseThan) := goodIn_app (goodIn_of _ (by decide +kernel)) ggX8_endPause_X2_isAnotherPauseThan
set_option maxRecDepth 20000 in
theorem ggX8_endPause_X2_hasNoRoomIn : GoodIn wsX8_endPause wsX2_hasNoRoomIn := goodIn_r _ [18, 19, 20, 21, 22, 23, 24, 25, 26, 27, 28, 29, 116, 117, 118, 119, 120, 121, 122, 123, 124, 101, 102, 103, 104, 105, 106, 107, 108, 109, 110, 111, 112, 113, 114, 115] (by decide +kernel) (by decide +kernel)
set_option maxRecDepth 20000 in
theorem gX8_endPause_X2_hasNoRoomIn : GoodIn wsX8_endPause (wsV RX8 288 RX2 yX2_hasNoRoomIn wsX2_hasNoRoomIn) := goodIn_app (goodIn_of _ (by decide +kernel)) ggX8_endPause_X2_hasNoRoomIn
set_option maxRecDepth 20000 in
theorem ggX8_endPause_X2_isTooShortFor : GoodIn wsX8_endPause wsX2_isTooShortFor := goodIn_r _ [33, 34, 35, 36, 37, 38, 9, 39, 40, 41, 42, 116, 117, 118, 119, 120, 121, 122, 123, 124, 101, 102, 103, 104, 105, 106, 107, 108, 109, 110, 111, 112, 113, 114, 115] (by decide +kernel) (by decide +kernel)
set_option maxRecDepth 20000 in
theorem gX8_endPause_X2_isTooShortFor : GoodIn wsX8_endPause (wsV RX8 291 RX2 yX2_isTooShortFor wsX2_isTooShortFor) := goodIn_app (goodIn_of _ (by decide +kernel)) ggX8_endPause_X2_isTooShortFor
set_option maxRecDepth 20000 in
theorem ggX8_endPause_X3_isFull : GoodIn wsX8_endPause wsX3_isFull := goodIn_r _ [47, 48, 49, 125, 126] (by decide +kernel) (by decide +kernel)
set_option maxRecDepth 20000 in
theorem gX8_endPause_X3_isFull : GoodIn wsX8_endPause (wsV RX8 294 RX3 yX3_isFull wsX3_isFull) := goodIn_app (goodIn_of _ (by decide +kernel)) ggX8_endPause_X3_isFull
set_option maxRecDepth 20000 in
theorem ggX8_endPause_X2_endAsPause : GoodIn wsX8_endPause wsX2_endAsPause := goodIn_r _ [53, 41, 54, 19, 55, 21, 56, 20, 57, 34, 58, 59, 116, 117, 118, 119, 120, 121, 122, 123, 124, 101, 102, 103, 104, 105, 106, 107, 108, 109, 110, 111, 112, 113, 114, 115] (by decide +kernel) (by decide +kernel)
set_option maxRecDepth 20000 in
theorem gX8_endPause_X2_endAsPause : GoodIn wsX8_endPause (wsV RX8 297 RX2 yX2_endAsPause wsX2_endAsPause) := goodIn_app (goodIn_of _ (by decide +kernel)) ggX8_endPause_X2_endAsPause
set_option maxRecDepth 20000 in
theorem ggX8_endPause_X5_addPause : GoodIn wsX8_endPause wsX5_addPause := goodIn_r _ [64, 65, 66, 67, 68, 69, 70, 71, 72, 73, 74, 75, 76, 77, 127, 128, 129, 130, 131, 132, 101, 102, 103, 104, 105, 106, 107, 108, 109, 110, 111, 112, 113, 114, 115] (by decide +kernel) (by decide +kernel)
set_option maxRecDepth 20000 in
theorem gX8_endPause_X5_addPause : GoodIn wsX8_endPause (wsV RX8 300 RX5 yX5_addPause wsX5_addPause) := goodIn_app (goodIn_of _ (by decide +kernel)) ggX8_endPause_X5_addPause
set_option maxRecDepth 20000 in
theorem ggX8_endPause_X8_keep : GoodIn wsX8_endPause wsX8_keep := goodIn_r _ [82, 4, 83, 84, 85, 86, 87, 46, 88, 48, 49, 89, 90, 91, 92, 93, 94, 95, 96, 97, 98, 99, 100, 101, 102, 103, 104, 105, 106, 107, 108, 109, 110, 111, 112, 113, 114, 115, 125, 126] (by decide +kernel) (by decide +kernel)
set_option maxRecDepth 20000 in
theorem gX8_endPause_X8_keep : GoodIn wsX8_endPause (wsV RX8 304 RX8 yX8_keep wsX8_keep) := goodIn_app (goodIn_of _ (by decide +kernel)) ggX8_endPause_X8_keep
theorem dX8_endPause_0 : decode cX8_endPause 0 = .ok (.aload_n 0, 1) := by decide +kernel
theorem dX8_endPause_1 : decode cX8_endPause 1 = .ok (.getfield 140, 3) := by decide +kernel
theorem dX8_endPause_4 : decode cX8_endPause 4 = .ok (.astore_n 2, 1) := by decide +kernel
theorem dX8_endPause_5 : decode cX8_endPause 5 = .ok (.aload_n 2, 1) := by decide +kernel
theorem dX8_endPause_6 : decode cX8_endPause 6 = .ok (.ifnull 14, 3) := by decide +kernel
theorem dX8_endPause_9 : decode cX8_endPause 9 = .ok (.aload_n 2, 1) := by decide +kernel
theorem dX8_endPause_10 : decode cX8_endPause 10 = .ok (.getfield 253, 3) := by decide +kernel
theorem dX8_endPause_13 : decode cX8_endPause 13 = .ok (.aload_n 1, 1) := by decide +kernel
theorem dX8_endPause_14 : decode cX8_endPause 14 = .ok (.getfield 79, 3) := by decide +kernel

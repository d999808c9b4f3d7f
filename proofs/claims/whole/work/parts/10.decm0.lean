theorem dX9_init_0 : decode cX9_init 0 = .ok (.aload_n 0, 1) := by decide +kernel
theorem dX9_init_1 : decode cX9_init 1 = .ok (.invokespecial 1, 3) := by decide +kernel
theorem dX9_init_4 : decode cX9_init 4 = .ok (.aload_n 0, 1) := by decide +kernel
theorem dX9_init_5 : decode cX9_init 5 = .ok (.bipush 72, 2) := by decide +kernel
theorem dX9_init_7 : decode cX9_init 7 = .ok (.newarray .int, 2) := by decide +kernel
theorem dX9_init_9 : decode cX9_init 9 = .ok (.putfield 7, 3) := by decide +kernel
theorem dX9_init_12 : decode cX9_init 12 = .ok (.aload_n 0, 1) := by decide +kernel
theorem dX9_init_13 : decode cX9_init 13 = .ok (.bipush 80, 2) := by decide +kernel
theorem dX9_init_15 : decode cX9_init 15 = .ok (.newarray .int, 2) := by decide +kernel
theorem dX9_init_17 : decode cX9_init 17 = .ok (.putfield 13, 3) := by decide +kernel
theorem dX9_init_20 : decode cX9_init 20 = .ok (.aload_n 0, 1) := by decide +kernel
theorem dX9_init_21 : decode cX9_init 21 = .ok (.bipush 80, 2) := by decide +kernel
theorem dX9_init_23 : decode cX9_init 23 = .ok (.newarray .int, 2) := by decide +kernel
theorem dX9_init_25 : decode cX9_init 25 = .ok (.putfield 16, 3) := by decide +kernel
theorem dX9_init_28 : decode cX9_init 28 = .ok (.aload_n 0, 1) := by decide +kernel
theorem dX9_init_29 : decode cX9_init 29 = .ok (.bipush 16, 2) := by decide +kernel
theorem dX9_init_31 : decode cX9_init 31 = .ok (.newarray .int, 2) := by decide +kernel
theorem dX9_init_33 : decode cX9_init 33 = .ok (.putfield 19, 3) := by decide +kernel
theorem dX9_init_36 : decode cX9_init 36 = .ok (.aload_n 0, 1) := by decide +kernel
theorem dX9_init_37 : decode cX9_init 37 = .ok (.sipush 512, 3) := by decide +kernel
theorem dX9_init_40 : decode cX9_init 40 = .ok (.newarray .int, 2) := by decide +kernel
theorem dX9_init_42 : decode cX9_init 42 = .ok (.putfield 22, 3) := by decide +kernel
theorem dX9_init_45 : decode cX9_init 45 = .ok (.aload_n 0, 1) := by decide +kernel
theorem dX9_init_46 : decode cX9_init 46 = .ok (.sipush 512, 3) := by decide +kernel
theorem dX9_init_49 : decode cX9_init 49 = .ok (.newarray .boolean, 2) := by decide +kernel
theorem dX9_init_51 : decode cX9_init 51 = .ok (.putfield 25, 3) := by decide +kernel
theorem dX9_init_54 : decode cX9_init 54 = .ok (.aload_n 0, 1) := by decide +kernel
theorem dX9_init_55 : decode cX9_init 55 = .ok (.sipush 512, 3) := by decide +kernel
theorem dX9_init_58 : decode cX9_init 58 = .ok (.newarray .boolean, 2) := by decide +kernel
theorem dX9_init_60 : decode cX9_init 60 = .ok (.putfield 29, 3) := by decide +kernel
theorem dX9_init_63 : decode cX9_init 63 = .ok (.aload_n 0, 1) := by decide +kernel
theorem dX9_init_64 : decode cX9_init 64 = .ok (.sipush 512, 3) := by decide +kernel
theorem dX9_init_67 : decode cX9_init 67 = .ok (.newarray .int, 2) := by decide +kernel
theorem dX9_init_69 : decode cX9_init 69 = .ok (.putfield 32, 3) := by decide +kernel
theorem dX9_init_72 : decode cX9_init 72 = .ok (.aload_n 0, 1) := by decide +kernel
theorem dX9_init_73 : decode cX9_init 73 = .ok (.sipush 512, 3) := by decide +kernel
theorem dX9_init_76 : decode cX9_init 76 = .ok (.newarray .int, 2) := by decide +kernel
theorem dX9_init_78 : decode cX9_init 78 = .ok (.putfield 35, 3) := by decide +kernel
theorem dX9_init_81 : decode cX9_init 81 = .ok (.aload_n 0, 1) := by decide +kernel
theorem dX9_init_82 : decode cX9_init 82 = .ok (.sipush 512, 3) := by decide +kernel
theorem dX9_init_85 : decode cX9_init 85 = .ok (.newarray .int, 2) := by decide +kernel
theorem dX9_init_87 : decode cX9_init 87 = .ok (.putfield 38, 3) := by decide +kernel
theorem dX9_init_90 : decode cX9_init 90 = .ok (.aload_n 0, 1) := by decide +kernel
theorem dX9_init_91 : decode cX9_init 91 = .ok (.sipush 512, 3) := by decide +kernel
theorem dX9_init_94 : decode cX9_init 94 = .ok (.newarray .int, 2) := by decide +kernel
theorem dX9_init_96 : decode cX9_init 96 = .ok (.putfield 41, 3) := by decide +kernel
theorem dX9_init_99 : decode cX9_init 99 = .ok (.aload_n 0, 1) := by decide +kernel
theorem dX9_init_100 : decode cX9_init 100 = .ok (.sipush 512, 3) := by decide +kernel
theorem dX9_init_103 : decode cX9_init 103 = .ok (.newarray .int, 2) := by decide +kernel
theorem dX9_init_105 : decode cX9_init 105 = .ok (.putfield 44, 3) := by decide +kernel
theorem dX9_init_108 : decode cX9_init 108 = .ok (.aload_n 0, 1) := by decide +kernel
theorem dX9_init_109 : decode cX9_init 109 = .ok (.sipush 512, 3) := by decide +kernel
theorem dX9_init_112 : decode cX9_init 112 = .ok (.newarray .int, 2) := by decide +kernel
theorem dX9_init_114 : decode cX9_init 114 = .ok (.putfield 47, 3) := by decide +kernel
theorem dX9_init_117 : decode cX9_init 117 = .ok (.aload_n 0, 1) := by decide +kernel
theorem dX9_init_118 : decode cX9_init 118 = .ok (.sipush 1536, 3) := by decide +kernel
theorem dX9_init_121 : decode cX9_init 121 = .ok (.newarray .int, 2) := by decide +kernel
theorem dX9_init_123 : decode cX9_init 123 = .ok (.putfield 50, 3) := by decide +kernel
theorem dX9_init_126 : decode cX9_init 126 = .ok (.aload_n 0, 1) := by decide +kernel
theorem dX9_init_127 : decode cX9_init 127 = .ok (.sipush 512, 3) := by decide +kernel
theorem dX9_init_130 : decode cX9_init 130 = .ok (.newarray .int, 2) := by decide +kernel
theorem dX9_init_132 : decode cX9_init 132 = .ok (.putfield 53, 3) := by decide +kernel
theorem dX9_init_135 : decode cX9_init 135 = .ok (.aload_n 0, 1) := by decide +kernel
theorem dX9_init_136 : decode cX9_init 136 = .ok (.bipush 40, 2) := by decide +kernel
theorem dX9_init_138 : decode cX9_init 138 = .ok (.newarray .int, 2) := by decide +kernel
theorem dX9_init_140 : decode cX9_init 140 = .ok (.putfield 56, 3) := by decide +kernel
theorem dX9_init_143 : decode cX9_init 143 = .ok (.aload_n 0, 1) := by decide +kernel
theorem dX9_init_144 : decode cX9_init 144 = .ok (.bipush 40, 2) := by decide +kernel
theorem dX9_init_146 : decode cX9_init 146 = .ok (.newarray .int, 2) := by decide +kernel
theorem dX9_init_148 : decode cX9_init 148 = .ok (.putfield 59, 3) := by decide +kernel
theorem dX9_init_151 : decode cX9_init 151 = .ok (.aload_n 0, 1) := by decide +kernel
theorem dX9_init_152 : decode cX9_init 152 = .ok (.bipush 40, 2) := by decide +kernel
theorem dX9_init_154 : decode cX9_init 154 = .ok (.newarray .int, 2) := by decide +kernel
theorem dX9_init_156 : decode cX9_init 156 = .ok (.putfield 62, 3) := by decide +kernel
theorem dX9_init_159 : decode cX9_init 159 = .ok (.aload_n 0, 1) := by decide +kernel
theorem dX9_init_160 : decode cX9_init 160 = .ok (.bipush 40, 2) := by decide +kernel
theorem dX9_init_162 : decode cX9_init 162 = .ok (.newarray .int, 2) := by decide +kernel
theorem dX9_init_164 : decode cX9_init 164 = .ok (.putfield 65, 3) := by decide +kernel
theorem dX9_init_167 : decode cX9_init 167 = .ok (.aload_n 0, 1) := by decide +kernel
theorem dX9_init_168 : decode cX9_init 168 = .ok (.sipush 512, 3) := by decide +kernel
theorem dX9_init_171 : decode cX9_init 171 = .ok (.newarray .int, 2) := by decide +kernel
theorem dX9_init_173 : decode cX9_init 173 = .ok (.putfield 68, 3) := by decide +kernel
theorem dX9_init_176 : decode cX9_init 176 = .ok (.aload_n 0, 1) := by decide +kernel
theorem dX9_init_177 : decode cX9_init 177 = .ok (.sipush 512, 3) := by decide +kernel
theorem dX9_init_180 : decode cX9_init 180 = .ok (.newarray .int, 2) := by decide +kernel
theorem dX9_init_182 : decode cX9_init 182 = .ok (.putfield 71, 3) := by decide +kernel
theorem dX9_init_185 : decode cX9_init 185 = .ok (.aload_n 0, 1) := by decide +kernel
theorem dX9_init_186 : decode cX9_init 186 = .ok (.sipush 512, 3) := by decide +kernel
theorem dX9_init_189 : decode cX9_init 189 = .ok (.newarray .int, 2) := by decide +kernel
theorem dX9_init_191 : decode cX9_init 191 = .ok (.putfield 74, 3) := by decide +kernel
theorem dX9_init_194 : decode cX9_init 194 = .ok (.aload_n 0, 1) := by decide +kernel
theorem dX9_init_195 : decode cX9_init 195 = .ok (.iconst (-1), 1) := by decide +kernel
theorem dX9_init_196 : decode cX9_init 196 = .ok (.putfield 77, 3) := by decide +kernel
theorem dX9_init_199 : decode cX9_init 199 = .ok (.aload_n 0, 1) := by decide +kernel
theorem dX9_init_200 : decode cX9_init 200 = .ok (.iconst (-1), 1) := by decide +kernel
theorem dX9_init_201 : decode cX9_init 201 = .ok (.putfield 81, 3) := by decide +kernel
theorem dX9_init_204 : decode cX9_init 204 = .ok (.return_, 1) := by decide +kernel
theorem dX9_thrown_0 : decode cX9_thrown 0 = .ok (.aload_n 0, 1) := by decide +kernel
theorem dX9_thrown_1 : decode cX9_thrown 1 = .ok (.getfield 84, 3) := by decide +kernel
theorem dX9_thrown_4 : decode cX9_thrown 4 = .ok (.ireturn, 1) := by decide +kernel
theorem dX9_element_0 : decode cX9_element 0 = .ok (.aload_n 0, 1) := by decide +kernel
theorem dX9_element_1 : decode cX9_element 1 = .ok (.getfield 13, 3) := by decide +kernel
theorem dX9_element_4 : decode cX9_element 4 = .ok (.aload_n 0, 1) := by decide +kernel
theorem dX9_element_5 : decode cX9_element 5 = .ok (.getfield 87, 3) := by decide +kernel
theorem dX9_element_8 : decode cX9_element 8 = .ok (.iload_n 1, 1) := by decide +kernel
theorem dX9_element_9 : decode cX9_element 9 = .ok (.iastore, 1) := by decide +kernel
theorem dX9_element_10 : decode cX9_element 10 = .ok (.aload_n 0, 1) := by decide +kernel
theorem dX9_element_11 : decode cX9_element 11 = .ok (.dup, 1) := by decide +kernel
theorem dX9_element_12 : decode cX9_element 12 = .ok (.getfield 87, 3) := by decide +kernel
theorem dX9_element_15 : decode cX9_element 15 = .ok (.iconst 1, 1) := by decide +kernel
theorem dX9_element_16 : decode cX9_element 16 = .ok (.iadd, 1) := by decide +kernel
theorem dX9_element_17 : decode cX9_element 17 = .ok (.putfield 87, 3) := by decide +kernel
theorem dX9_element_20 : decode cX9_element 20 = .ok (.return_, 1) := by decide +kernel
set_option maxRecDepth 20000 in
theorem ggX9_literal_X9_element : GoodIn wsX9_literal wsX9_element := goodIn_r _ [5, 6, 7, 8, 9, 10, 11, 12, 13, 14, 15, 16, 17, 18, 19, 20, 21, 22, 23, 24, 25, 26, 27, 28, 29, 30, 31, 32, 33, 34, 35, 36, 37, 38, 39, 40, 41, 42, 43] (by decide +kernel) (by decide +kernel)
set_option maxRecDepth 20000 in
theorem gX9_literal_X9_element : GoodIn wsX9_literal (wsV RX9 90 RX9 yX9_element wsX9_element) := goodIn_app (goodIn_of _ (by decide +kernel)) ggX9_literal_X9_element
theorem dX9_literal_0 : decode cX9_literal 0 = .ok (.bipush 56, 2) := by decide +kernel
theorem dX9_literal_2 : decode cX9_literal 2 = .ok (.istore_n 3, 1) := by decide +kernel
theorem dX9_literal_3 : decode cX9_literal 3 = .ok (.iload_n 3, 1) := by decide +kernel
theorem dX9_literal_4 : decode cX9_literal 4 = .ok (.ifCond .lt 30, 3) := by decide +kernel
theorem dX9_literal_7 : decode cX9_literal 7 = .ok (.lload_n 1, 1) := by decide +kernel
theorem dX9_literal_8 : decode cX9_literal 8 = .ok (.iload_n 3, 1) := by decide +kernel
theorem dX9_literal_9 : decode cX9_literal 9 = .ok (.lushr, 1) := by decide +kernel
theorem dX9_literal_10 : decode cX9_literal 10 = .ok (.l2i, 1) := by decide +kernel
theorem dX9_literal_11 : decode cX9_literal 11 = .ok (.sipush 255, 3) := by decide +kernel
theorem dX9_literal_14 : decode cX9_literal 14 = .ok (.iand, 1) := by decide +kernel
theorem dX9_literal_15 : decode cX9_literal 15 = .ok (.istore 4, 2) := by decide +kernel
theorem dX9_literal_17 : decode cX9_literal 17 = .ok (.iload 4, 2) := by decide +kernel
theorem dX9_literal_19 : decode cX9_literal 19 = .ok (.ifCond .eq 9, 3) := by decide +kernel
theorem dX9_literal_22 : decode cX9_literal 22 = .ok (.aload_n 0, 1) := by decide +kernel
theorem dX9_literal_23 : decode cX9_literal 23 = .ok (.iload 4, 2) := by decide +kernel
theorem dX9_literal_25 : decode cX9_literal 25 = .ok (.invokevirtual 90, 3) := by decide +kernel
theorem dX9_literal_28 : decode cX9_literal 28 = .ok (.iinc 3 (-8), 3) := by decide +kernel
theorem dX9_literal_31 : decode cX9_literal 31 = .ok (.goto (-28), 3) := by decide +kernel
theorem dX9_literal_34 : decode cX9_literal 34 = .ok (.return_, 1) := by decide +kernel
set_option maxRecDepth 20000 in
theorem ggX9_sizeElements_X9_element : GoodIn wsX9_sizeElements wsX9_element := goodIn_r _ [5, 6, 7, 8, 9, 10, 11, 12, 13, 14, 15, 16, 17, 18, 19, 20, 21, 22, 23, 24, 25, 26, 27, 28, 29, 30, 31, 32, 33, 34, 35, 36, 37, 38, 39, 40, 41, 42, 43] (by decide +kernel) (by decide +kernel)
set_option maxRecDepth 20000 in
theorem gX9_sizeElements_X9_element : GoodIn wsX9_sizeElements (wsV RX9 90 RX9 yX9_element wsX9_element) := goodIn_app (goodIn_of _ (by decide +kernel)) ggX9_sizeElements_X9_element
theorem dX9_sizeElements_0 : decode cX9_sizeElements 0 = .ok (.aload_n 0, 1) := by decide +kernel
theorem dX9_sizeElements_1 : decode cX9_sizeElements 1 = .ok (.sipush 204, 3) := by decide +kernel
theorem dX9_sizeElements_4 : decode cX9_sizeElements 4 = .ok (.invokevirtual 90, 3) := by decide +kernel
theorem dX9_sizeElements_7 : decode cX9_sizeElements 7 = .ok (.aload_n 0, 1) := by decide +kernel
theorem dX9_sizeElements_8 : decode cX9_sizeElements 8 = .ok (.sipush 400, 3) := by decide +kernel
theorem dX9_sizeElements_11 : decode cX9_sizeElements 11 = .ok (.invokevirtual 90, 3) := by decide +kernel
theorem dX9_sizeElements_14 : decode cX9_sizeElements 14 = .ok (.return_, 1) := by decide +kernel
set_option maxRecDepth 20000 in
theorem ggX9_tookElements_X9_element : GoodIn wsX9_tookElements wsX9_element := goodIn_r _ [6, 7, 8, 13, 14, 15, 16, 17, 18, 19, 20, 21, 22, 23, 24, 25, 26, 27, 28, 29, 30, 31, 32, 33, 34, 35, 36, 37, 38, 39, 40, 41, 42, 43, 44, 45, 46, 47, 48] (by decide +kernel) (by decide +kernel)
set_option maxRecDepth 20000 in
theorem gX9_tookElements_X9_element : GoodIn wsX9_tookElements (wsV RX9 90 RX9 yX9_element wsX9_element) := goodIn_app (goodIn_of _ (by decide +kernel)) ggX9_tookElements_X9_element
set_option maxRecDepth 20000 in
theorem ggX9_tookElements_X9_literal : GoodIn wsX9_tookElements wsX9_literal := goodIn_r _ [12, 2, 3, 4, 5, 6, 7, 8, 13, 14, 15, 16, 17, 18, 19, 20, 21, 22, 23, 24, 25, 26, 27, 28, 29, 30, 31, 32, 33, 34, 35, 36, 37, 38, 39, 40, 41, 42, 43, 44, 45, 46, 47, 48] (by decide +kernel) (by decide +kernel)
set_option maxRecDepth 20000 in
theorem gX9_tookElements_X9_literal : GoodIn wsX9_tookElements (wsV RX9 96 RX9 yX9_literal wsX9_literal) := goodIn_app (goodIn_of _ (by decide +kernel)) ggX9_tookElements_X9_literal
theorem dX9_tookElements_0 : decode cX9_tookElements 0 = .ok (.aload_n 0, 1) := by decide +kernel
theorem dX9_tookElements_1 : decode cX9_tookElements 1 = .ok (.sipush 204, 3) := by decide +kernel
theorem dX9_tookElements_4 : decode cX9_tookElements 4 = .ok (.invokevirtual 90, 3) := by decide +kernel
theorem dX9_tookElements_7 : decode cX9_tookElements 7 = .ok (.aload_n 0, 1) := by decide +kernel
theorem dX9_tookElements_8 : decode cX9_tookElements 8 = .ok (.bipush 46, 2) := by decide +kernel
theorem dX9_tookElements_10 : decode cX9_tookElements 10 = .ok (.invokevirtual 90, 3) := by decide +kernel
theorem dX9_tookElements_13 : decode cX9_tookElements 13 = .ok (.aload_n 0, 1) := by decide +kernel
theorem dX9_tookElements_14 : decode cX9_tookElements 14 = .ok (.sipush 300, 3) := by decide +kernel
theorem dX9_tookElements_17 : decode cX9_tookElements 17 = .ok (.invokevirtual 90, 3) := by decide +kernel
theorem dX9_tookElements_20 : decode cX9_tookElements 20 = .ok (.aload_n 0, 1) := by decide +kernel
theorem dX9_tookElements_21 : decode cX9_tookElements 21 = .ok (.ldc2_w 94, 3) := by decide +kernel
theorem dX9_tookElements_24 : decode cX9_tookElements 24 = .ok (.invokevirtual 96, 3) := by decide +kernel
theorem dX9_tookElements_27 : decode cX9_tookElements 27 = .ok (.return_, 1) := by decide +kernel
set_option maxRecDepth 20000 in
theorem ggX9_pauseElements_X9_literal : GoodIn wsX9_pauseElements wsX9_literal := goodIn_r _ [13, 14, 15, 16, 12, 17, 18, 19, 20, 21, 22, 23, 24, 25, 26, 27, 28, 29, 30, 31, 32, 33, 34, 35, 36, 37, 38, 39, 40, 41, 42, 43, 44, 45, 46, 47, 48, 49, 50, 51, 52, 53, 54, 55] (by decide +kernel) (by decide +kernel)
set_option maxRecDepth 20000 in
theorem gX9_pauseElements_X9_literal : GoodIn wsX9_pauseElements (wsV RX9 96 RX9 yX9_literal wsX9_literal) := goodIn_app (goodIn_of _ (by decide +kernel)) ggX9_pauseElements_X9_literal
set_option maxRecDepth 20000 in
theorem ggX9_pauseElements_X9_element : GoodIn wsX9_pauseElements wsX9_element := goodIn_r _ [17, 18, 19, 20, 21, 22, 23, 24, 25, 26, 27, 28, 29, 30, 31, 32, 33, 34, 35, 36, 37, 38, 39, 40, 41, 42, 43, 44, 45, 46, 47, 48, 49, 50, 51, 52, 53, 54, 55] (by decide +kernel) (by decide +kernel)
set_option maxRecDepth 20000 in
theorem gX9_pauseElements_X9_element : GoodIn wsX9_pauseElements (wsV RX9 90 RX9 yX9_element wsX9_element) := goodIn_app (goodIn_of _ (by decide +kernel)) ggX9_pauseElements_X9_element
theorem dX9_pauseElements_0 : decode cX9_pauseElements 0 = .ok (.aload_n 0, 1) := by decide +kernel
theorem dX9_pauseElements_1 : decode cX9_pauseElements 1 = .ok (.ldc2_w 100, 3) := by decide +kernel
theorem dX9_pauseElements_4 : decode cX9_pauseElements 4 = .ok (.invokevirtual 96, 3) := by decide +kernel
theorem dX9_pauseElements_7 : decode cX9_pauseElements 7 = .ok (.aload_n 0, 1) := by decide +kernel
theorem dX9_pauseElements_8 : decode cX9_pauseElements 8 = .ok (.iload_n 1, 1) := by decide +kernel
theorem dX9_pauseElements_9 : decode cX9_pauseElements 9 = .ok (.ifCond .ne 9, 3) := by decide +kernel
theorem dX9_pauseElements_12 : decode cX9_pauseElements 12 = .ok (.ldc2_w 102, 3) := by decide +kernel
theorem dX9_pauseElements_15 : decode cX9_pauseElements 15 = .ok (.goto 17, 3) := by decide +kernel
theorem dX9_pauseElements_18 : decode cX9_pauseElements 18 = .ok (.iload_n 1, 1) := by decide +kernel
theorem dX9_pauseElements_19 : decode cX9_pauseElements 19 = .ok (.iconst 1, 1) := by decide +kernel
theorem dX9_pauseElements_20 : decode cX9_pauseElements 20 = .ok (.if_icmp .ne 9, 3) := by decide +kernel
theorem dX9_pauseElements_23 : decode cX9_pauseElements 23 = .ok (.ldc2_w 104, 3) := by decide +kernel
theorem dX9_pauseElements_26 : decode cX9_pauseElements 26 = .ok (.goto 6, 3) := by decide +kernel
theorem dX9_pauseElements_29 : decode cX9_pauseElements 29 = .ok (.ldc2_w 106, 3) := by decide +kernel
theorem dX9_pauseElements_32 : decode cX9_pauseElements 32 = .ok (.invokevirtual 96, 3) := by decide +kernel
theorem dX9_pauseElements_35 : decode cX9_pauseElements 35 = .ok (.aload_n 0, 1) := by decide +kernel
theorem dX9_pauseElements_36 : decode cX9_pauseElements 36 = .ok (.ldc2_w 108, 3) := by decide +kernel
theorem dX9_pauseElements_39 : decode cX9_pauseElements 39 = .ok (.invokevirtual 96, 3) := by decide +kernel
theorem dX9_pauseElements_42 : decode cX9_pauseElements 42 = .ok (.aload_n 0, 1) := by decide +kernel
theorem dX9_pauseElements_43 : decode cX9_pauseElements 43 = .ok (.iload_n 2, 1) := by decide +kernel
theorem dX9_pauseElements_44 : decode cX9_pauseElements 44 = .ok (.ifCond .ne 9, 3) := by decide +kernel
theorem dX9_pauseElements_47 : decode cX9_pauseElements 47 = .ok (.ldc2_w 110, 3) := by decide +kernel
theorem dX9_pauseElements_50 : decode cX9_pauseElements 50 = .ok (.goto 17, 3) := by decide +kernel
theorem dX9_pauseElements_53 : decode cX9_pauseElements 53 = .ok (.iload_n 2, 1) := by decide +kernel
theorem dX9_pauseElements_54 : decode cX9_pauseElements 54 = .ok (.iconst 1, 1) := by decide +kernel
theorem dX9_pauseElements_55 : decode cX9_pauseElements 55 = .ok (.if_icmp .ne 9, 3) := by decide +kernel
theorem dX9_pauseElements_58 : decode cX9_pauseElements 58 = .ok (.ldc2_w 112, 3) := by decide +kernel
theorem dX9_pauseElements_61 : decode cX9_pauseElements 61 = .ok (.goto 6, 3) := by decide +kernel
theorem dX9_pauseElements_64 : decode cX9_pauseElements 64 = .ok (.ldc2_w 114, 3) := by decide +kernel
theorem dX9_pauseElements_67 : decode cX9_pauseElements 67 = .ok (.invokevirtual 96, 3) := by decide +kernel
theorem dX9_pauseElements_70 : decode cX9_pauseElements 70 = .ok (.aload_n 0, 1) := by decide +kernel
theorem dX9_pauseElements_71 : decode cX9_pauseElements 71 = .ok (.bipush 41, 2) := by decide +kernel
theorem dX9_pauseElements_73 : decode cX9_pauseElements 73 = .ok (.invokevirtual 90, 3) := by decide +kernel
theorem dX9_pauseElements_76 : decode cX9_pauseElements 76 = .ok (.return_, 1) := by decide +kernel
set_option maxRecDepth 20000 in
theorem ggX9_arrow_X9_sizeElements : GoodIn wsX9_arrow wsX9_sizeElements := goodIn_r _ [6, 7, 8, 9, 5, 10, 11, 12, 17, 18, 19, 20, 21, 22, 23, 24, 25, 26, 27, 28, 29, 30, 31, 32, 33, 34, 35, 36, 37, 38, 39, 40, 41, 42, 43, 44, 45, 46, 47, 48, 49, 50, 51, 52] (by decide +kernel) (by decide +kernel)
set_option maxRecDepth 20000 in
theorem gX9_arrow_X9_sizeElements : GoodIn wsX9_arrow (wsV RX9 116 RX9 yX9_sizeElements wsX9_sizeElements) := goodIn_app (goodIn_of _ (by decide +kernel)) ggX9_arrow_X9_sizeElements
set_option maxRecDepth 20000 in
theorem ggX9_arrow_X9_literal : GoodIn wsX9_arrow wsX9_literal := goodIn_r _ [16, 7, 8, 9, 5, 10, 11, 12, 17, 18, 19, 20, 21, 22, 23, 24, 25, 26, 27, 28, 29, 30, 31, 32, 33, 34, 35, 36, 37, 38, 39, 40, 41, 42, 43, 44, 45, 46, 47, 48, 49, 50, 51, 52] (by decide +kernel) (by decide +kernel)
set_option maxRecDepth 20000 in
theorem gX9_arrow_X9_literal : GoodIn wsX9_arrow (wsV RX9 96 RX9 yX9_literal wsX9_literal) := goodIn_app (goodIn_of _ (by decide +kernel)) ggX9_arrow_X9_literal
theorem dX9_arrow_0 : decode cX9_arrow 0 = .ok (.aload_n 0, 1) := by decide +kernel
theorem dX9_arrow_1 : decode cX9_arrow 1 = .ok (.invokevirtual 116, 3) := by decide +kernel
theorem dX9_arrow_4 : decode cX9_arrow 4 = .ok (.aload_n 0, 1) := by decide +kernel
theorem dX9_arrow_5 : decode cX9_arrow 5 = .ok (.ldc2_w 119, 3) := by decide +kernel
theorem dX9_arrow_8 : decode cX9_arrow 8 = .ok (.invokevirtual 96, 3) := by decide +kernel
theorem dX9_arrow_11 : decode cX9_arrow 11 = .ok (.aload_n 0, 1) := by decide +kernel
theorem dX9_arrow_12 : decode cX9_arrow 12 = .ok (.invokevirtual 116, 3) := by decide +kernel
theorem dX9_arrow_15 : decode cX9_arrow 15 = .ok (.return_, 1) := by decide +kernel
set_option maxRecDepth 20000 in
theorem ggX9_makeMould_X9_element : GoodIn wsX9_makeMould wsX9_element := goodIn_r _ [12, 13, 1, 44, 45, 46, 47, 48, 49, 50, 51, 52, 53, 54, 55, 56, 57, 58, 59, 60, 61, 62, 63, 64, 65, 66, 67, 68, 69, 70, 71, 72, 73, 74, 75, 76, 77, 78, 79] (by decide +kernel) (by decide +kernel)
set_option maxRecDepth 20000 in
theorem gX9_makeMould_X9_element : GoodIn wsX9_makeMould (wsV RX9 90 RX9 yX9_element wsX9_element) := goodIn_app (goodIn_of _ (by decide +kernel)) ggX9_makeMould_X9_element
set_option maxRecDepth 20000 in
theorem ggX9_makeMould_X9_literal : GoodIn wsX9_makeMould wsX9_literal := goodIn_r _ [17, 8, 9, 10, 11, 12, 13, 1, 44, 45, 46, 47, 48, 49, 50, 51, 52, 53, 54, 55, 56, 57, 58, 59, 60, 61, 62, 63, 64, 65, 66, 67, 68, 69, 70, 71, 72, 73, 74, 75, 76, 77, 78, 79] (by decide +kernel) (by decide +kernel)
set_option maxRecDepth 20000 in
theorem gX9_makeMould_X9_literal : GoodIn wsX9_makeMould (wsV RX9 96 RX9 yX9_literal wsX9_literal) := goodIn_app (goodIn_of _ (by decide +kernel)) ggX9_makeMould_X9_literal
set_option maxRecDepth 20000 in
theorem ggX9_makeMould_X9_pauseElements : GoodIn wsX9_makeMould wsX9_pauseElements := goodIn_r _ [21, 22, 23, 24, 25, 26, 27, 28, 29, 14, 15, 16, 11, 17, 8, 9, 10, 12, 13, 1, 44, 45, 46, 47, 48, 49, 50, 51, 52, 53, 54, 55, 56, 57, 58, 59, 60, 61, 62, 63, 64, 65, 66, 67, 68, 69, 70, 71, 72, 73, 74, 75, 76, 77, 78, 79] (by decide +kernel) (by decide +kernel)
set_option maxRecDepth 20000 in
theorem gX9_makeMould_X9_pauseElements : GoodIn wsX9_makeMould (wsV RX9 125 RX9 yX9_pauseElements wsX9_pauseElements) := goodIn_app (goodIn_of _ (by decide +kernel)) ggX9_makeMould_X9_pauseElements
set_option maxRecDepth 20000 in
theorem ggX9_makeMould_X9_arrow : GoodIn wsX9_makeMould wsX9_arrow := goodIn_r _ [33, 34, 35, 36, 37, 11, 38, 8, 9, 10, 12, 13, 1, 14, 15, 16, 17, 44, 45, 46, 47, 48, 49, 50, 51, 52, 53, 54, 55, 56, 57, 58, 59, 60, 61, 62, 63, 64, 65, 66, 67, 68, 69, 70, 71, 72, 73, 74, 75, 76, 77, 78, 79] (by decide +kernel) (by decide +kernel)
set_option maxRecDepth 20000 in
theorem gX9_makeMould_X9_arrow : GoodIn wsX9_makeMould (wsV RX9 129 RX9 yX9_arrow wsX9_arrow) := goodIn_app (goodIn_of _ (by decide +kernel)) ggX9_makeMould_X9_arrow
set_option maxRecDepth 20000 in
theorem ggX9_makeMould_X9_sizeElements : GoodIn wsX9_makeMould wsX9_sizeElements := goodIn_r _ [38, 8, 9, 10, 11, 12, 13, 1, 44, 45, 46, 47, 48, 49, 50, 51, 52, 53, 54, 55, 56, 57, 58, 59, 60, 61, 62, 63, 64, 65, 66, 67, 68, 69, 70, 71, 72, 73, 74, 75, 76, 77, 78, 79] (by decide +kernel) (by decide +kernel)
set_option maxRecDepth 20000 in
theorem gX9_makeMould_X9_sizeElements : GoodIn wsX9_makeMould (wsV RX9 116 RX9 yX9_sizeElements wsX9_sizeElements) := goodIn_app (goodIn_of _ (by decide +kernel)) ggX9_makeMould_X9_sizeElements
set_option maxRecDepth 20000 in
theorem ggX9_makeMould_X9_tookElements : GoodIn wsX9_makeMould wsX9_tookElements := goodIn_r _ [42, 43, 8, 9, 10, 11, 12, 13, 1, 14, 15, 16, 17, 44, 45, 46, 47, 48, 49, 50, 51, 52, 53, 54, 55, 56, 57, 58, 59, 60, 61, 62, 63, 64, 65, 66, 67, 68, 69, 70, 71, 72, 73, 74, 75, 76, 77, 78, 79] (by decide +kernel) (by decide +kernel)
set_option maxRecDepth 20000 in
theorem gX9_makeMould_X9_tookElements : GoodIn wsX9_makeMould (wsV RX9 132 RX9 yX9_tookElements wsX9_tookElements) := goodIn_app (goodIn_of _ (by decide +kernel)) ggX9_makeMould_X9_tookElements
theorem dX9_makeMould_0 : decode cX9_makeMould 0 = .ok (.aload_n 0, 1) := by decide +kernel
theorem dX9_makeMould_1 : decode cX9_makeMould 1 = .ok (.iconst 0, 1) := by decide +kernel
theorem dX9_makeMould_2 : decode cX9_makeMould 2 = .ok (.putfield 87, 3) := by decide +kernel
theorem dX9_makeMould_5 : decode cX9_makeMould 5 = .ok (.aload_n 0, 1) := by decide +kernel
theorem dX9_makeMould_6 : decode cX9_makeMould 6 = .ok (.bipush 91, 2) := by decide +kernel
theorem dX9_makeMould_8 : decode cX9_makeMould 8 = .ok (.invokevirtual 90, 3) := by decide +kernel
theorem dX9_makeMould_11 : decode cX9_makeMould 11 = .ok (.aload_n 0, 1) := by decide +kernel
theorem dX9_makeMould_12 : decode cX9_makeMould 12 = .ok (.sipush 205, 3) := by decide +kernel
theorem dX9_makeMould_15 : decode cX9_makeMould 15 = .ok (.invokevirtual 90, 3) := by decide +kernel
theorem dX9_makeMould_18 : decode cX9_makeMould 18 = .ok (.aload_n 0, 1) := by decide +kernel
theorem dX9_makeMould_19 : decode cX9_makeMould 19 = .ok (.bipush 46, 2) := by decide +kernel
theorem dX9_makeMould_21 : decode cX9_makeMould 21 = .ok (.invokevirtual 90, 3) := by decide +kernel
theorem dX9_makeMould_24 : decode cX9_makeMould 24 = .ok (.aload_n 0, 1) := by decide +kernel
theorem dX9_makeMould_25 : decode cX9_makeMould 25 = .ok (.sipush 300, 3) := by decide +kernel
theorem dX9_makeMould_28 : decode cX9_makeMould 28 = .ok (.invokevirtual 90, 3) := by decide +kernel
theorem dX9_makeMould_31 : decode cX9_makeMould 31 = .ok (.aload_n 0, 1) := by decide +kernel
theorem dX9_makeMould_32 : decode cX9_makeMould 32 = .ok (.ldc2_w 121, 3) := by decide +kernel
theorem dX9_makeMould_35 : decode cX9_makeMould 35 = .ok (.invokevirtual 96, 3) := by decide +kernel
theorem dX9_makeMould_38 : decode cX9_makeMould 38 = .ok (.aload_n 0, 1) := by decide +kernel
theorem dX9_makeMould_39 : decode cX9_makeMould 39 = .ok (.sipush 203, 3) := by decide +kernel
theorem dX9_makeMould_42 : decode cX9_makeMould 42 = .ok (.invokevirtual 90, 3) := by decide +kernel
theorem dX9_makeMould_45 : decode cX9_makeMould 45 = .ok (.aload_n 0, 1) := by decide +kernel
theorem dX9_makeMould_46 : decode cX9_makeMould 46 = .ok (.ldc2_w 123, 3) := by decide +kernel
theorem dX9_makeMould_49 : decode cX9_makeMould 49 = .ok (.invokevirtual 96, 3) := by decide +kernel
theorem dX9_makeMould_52 : decode cX9_makeMould 52 = .ok (.iload_n 1, 1) := by decide +kernel
theorem dX9_makeMould_53 : decode cX9_makeMould 53 = .ok (.iconst 1, 1) := by decide +kernel
theorem dX9_makeMould_54 : decode cX9_makeMould 54 = .ok (.if_icmp .gt 9, 3) := by decide +kernel
theorem dX9_makeMould_57 : decode cX9_makeMould 57 = .ok (.aload_n 0, 1) := by decide +kernel
theorem dX9_makeMould_58 : decode cX9_makeMould 58 = .ok (.iload_n 2, 1) := by decide +kernel
theorem dX9_makeMould_59 : decode cX9_makeMould 59 = .ok (.iload_n 3, 1) := by decide +kernel
theorem dX9_makeMould_60 : decode cX9_makeMould 60 = .ok (.invokevirtual 125, 3) := by decide +kernel
theorem dX9_makeMould_63 : decode cX9_makeMould 63 = .ok (.iload_n 1, 1) := by decide +kernel
theorem dX9_makeMould_64 : decode cX9_makeMould 64 = .ok (.iconst 1, 1) := by decide +kernel
theorem dX9_makeMould_65 : decode cX9_makeMould 65 = .ok (.if_icmp .ne 34, 3) := by decide +kernel
theorem dX9_makeMould_68 : decode cX9_makeMould 68 = .ok (.aload_n 0, 1) := by decide +kernel
theorem dX9_makeMould_69 : decode cX9_makeMould 69 = .ok (.bipush 32, 2) := by decide +kernel
theorem dX9_makeMould_71 : decode cX9_makeMould 71 = .ok (.invokevirtual 90, 3) := by decide +kernel
theorem dX9_makeMould_74 : decode cX9_makeMould 74 = .ok (.aload_n 0, 1) := by decide +kernel
theorem dX9_makeMould_75 : decode cX9_makeMould 75 = .ok (.invokevirtual 129, 3) := by decide +kernel
theorem dX9_makeMould_78 : decode cX9_makeMould 78 = .ok (.aload_n 0, 1) := by decide +kernel
theorem dX9_makeMould_79 : decode cX9_makeMould 79 = .ok (.bipush 40, 2) := by decide +kernel
theorem dX9_makeMould_81 : decode cX9_makeMould 81 = .ok (.invokevirtual 90, 3) := by decide +kernel
theorem dX9_makeMould_84 : decode cX9_makeMould 84 = .ok (.aload_n 0, 1) := by decide +kernel
theorem dX9_makeMould_85 : decode cX9_makeMould 85 = .ok (.invokevirtual 116, 3) := by decide +kernel
theorem dX9_makeMould_88 : decode cX9_makeMould 88 = .ok (.aload_n 0, 1) := by decide +kernel
theorem dX9_makeMould_89 : decode cX9_makeMould 89 = .ok (.ldc2_w 123, 3) := by decide +kernel
theorem dX9_makeMould_92 : decode cX9_makeMould 92 = .ok (.invokevirtual 96, 3) := by decide +kernel
theorem dX9_makeMould_95 : decode cX9_makeMould 95 = .ok (.aload_n 0, 1) := by decide +kernel
theorem dX9_makeMould_96 : decode cX9_makeMould 96 = .ok (.invokevirtual 132, 3) := by decide +kernel
theorem dX9_makeMould_99 : decode cX9_makeMould 99 = .ok (.iload_n 1, 1) := by decide +kernel
theorem dX9_makeMould_100 : decode cX9_makeMould 100 = .ok (.iconst 2, 1) := by decide +kernel
theorem dX9_makeMould_101 : decode cX9_makeMould 101 = .ok (.if_icmp .ne 10, 3) := by decide +kernel
theorem dX9_makeMould_104 : decode cX9_makeMould 104 = .ok (.aload_n 0, 1) := by decide +kernel
theorem dX9_makeMould_105 : decode cX9_makeMould 105 = .ok (.ldc2_w 135, 3) := by decide +kernel
theorem dX9_makeMould_108 : decode cX9_makeMould 108 = .ok (.invokevirtual 96, 3) := by decide +kernel
theorem dX9_makeMould_111 : decode cX9_makeMould 111 = .ok (.iload_n 1, 1) := by decide +kernel
theorem dX9_makeMould_112 : decode cX9_makeMould 112 = .ok (.iconst 3, 1) := by decide +kernel
theorem dX9_makeMould_113 : decode cX9_makeMould 113 = .ok (.if_icmp .ne 10, 3) := by decide +kernel
theorem dX9_makeMould_116 : decode cX9_makeMould 116 = .ok (.aload_n 0, 1) := by decide +kernel
theorem dX9_makeMould_117 : decode cX9_makeMould 117 = .ok (.ldc2_w 137, 3) := by decide +kernel
theorem dX9_makeMould_120 : decode cX9_makeMould 120 = .ok (.invokevirtual 96, 3) := by decide +kernel
theorem dX9_makeMould_123 : decode cX9_makeMould 123 = .ok (.iload_n 1, 1) := by decide +kernel
theorem dX9_makeMould_124 : decode cX9_makeMould 124 = .ok (.iconst 2, 1) := by decide +kernel
theorem dX9_makeMould_125 : decode cX9_makeMould 125 = .ok (.if_icmp .eq 8, 3) := by decide +kernel
theorem dX9_makeMould_128 : decode cX9_makeMould 128 = .ok (.iload_n 1, 1) := by decide +kernel
theorem dX9_makeMould_129 : decode cX9_makeMould 129 = .ok (.iconst 3, 1) := by decide +kernel
theorem dX9_makeMould_130 : decode cX9_makeMould 130 = .ok (.if_icmp .ne 7, 3) := by decide +kernel
theorem dX9_makeMould_133 : decode cX9_makeMould 133 = .ok (.aload_n 0, 1) := by decide +kernel
theorem dX9_makeMould_134 : decode cX9_makeMould 134 = .ok (.invokevirtual 129, 3) := by decide +kernel
theorem dX9_makeMould_137 : decode cX9_makeMould 137 = .ok (.iload_n 1, 1) := by decide +kernel
theorem dX9_makeMould_138 : decode cX9_makeMould 138 = .ok (.iconst 4, 1) := by decide +kernel
theorem dX9_makeMould_139 : decode cX9_makeMould 139 = .ok (.if_icmp .lt 10, 3) := by decide +kernel
theorem dX9_makeMould_142 : decode cX9_makeMould 142 = .ok (.aload_n 0, 1) := by decide +kernel
theorem dX9_makeMould_143 : decode cX9_makeMould 143 = .ok (.ldc2_w 139, 3) := by decide +kernel
theorem dX9_makeMould_146 : decode cX9_makeMould 146 = .ok (.invokevirtual 96, 3) := by decide +kernel
theorem dX9_makeMould_149 : decode cX9_makeMould 149 = .ok (.iload_n 1, 1) := by decide +kernel
theorem dX9_makeMould_150 : decode cX9_makeMould 150 = .ok (.iconst 5, 1) := by decide +kernel
theorem dX9_makeMould_151 : decode cX9_makeMould 151 = .ok (.if_icmp .ne 13, 3) := by decide +kernel
theorem dX9_makeMould_154 : decode cX9_makeMould 154 = .ok (.aload_n 0, 1) := by decide +kernel
theorem dX9_makeMould_155 : decode cX9_makeMould 155 = .ok (.bipush 32, 2) := by decide +kernel
theorem dX9_makeMould_157 : decode cX9_makeMould 157 = .ok (.invokevirtual 90, 3) := by decide +kernel
theorem dX9_makeMould_160 : decode cX9_makeMould 160 = .ok (.aload_n 0, 1) := by decide +kernel
theorem dX9_makeMould_161 : decode cX9_makeMould 161 = .ok (.invokevirtual 132, 3) := by decide +kernel
theorem dX9_makeMould_164 : decode cX9_makeMould 164 = .ok (.iload_n 1, 1) := by decide +kernel
theorem dX9_makeMould_165 : decode cX9_makeMould 165 = .ok (.bipush 6, 2) := by decide +kernel
theorem dX9_makeMould_167 : decode cX9_makeMould 167 = .ok (.if_icmp .ne 10, 3) := by decide +kernel
theorem dX9_makeMould_170 : decode cX9_makeMould 170 = .ok (.aload_n 0, 1) := by decide +kernel
theorem dX9_makeMould_171 : decode cX9_makeMould 171 = .ok (.ldc2_w 141, 3) := by decide +kernel
theorem dX9_makeMould_174 : decode cX9_makeMould 174 = .ok (.invokevirtual 96, 3) := by decide +kernel
theorem dX9_makeMould_177 : decode cX9_makeMould 177 = .ok (.return_, 1) := by decide +kernel
theorem dX9_digitAt_0 : decode cX9_digitAt 0 = .ok (.iload_n 1, 1) := by decide +kernel
theorem dX9_digitAt_1 : decode cX9_digitAt 1 = .ok (.aload_n 0, 1) := by decide +kernel
theorem dX9_digitAt_2 : decode cX9_digitAt 2 = .ok (.getfield 143, 3) := by decide +kernel
theorem dX9_digitAt_5 : decode cX9_digitAt 5 = .ok (.if_icmp .ge 29, 3) := by decide +kernel
theorem dX9_digitAt_8 : decode cX9_digitAt 8 = .ok (.aload_n 0, 1) := by decide +kernel
theorem dX9_digitAt_9 : decode cX9_digitAt 9 = .ok (.getfield 7, 3) := by decide +kernel
theorem dX9_digitAt_12 : decode cX9_digitAt 12 = .ok (.iload_n 1, 1) := by decide +kernel
theorem dX9_digitAt_13 : decode cX9_digitAt 13 = .ok (.iaload, 1) := by decide +kernel
theorem dX9_digitAt_14 : decode cX9_digitAt 14 = .ok (.bipush 48, 2) := by decide +kernel
theorem dX9_digitAt_16 : decode cX9_digitAt 16 = .ok (.if_icmp .lt 18, 3) := by decide +kernel
theorem dX9_digitAt_19 : decode cX9_digitAt 19 = .ok (.aload_n 0, 1) := by decide +kernel
theorem dX9_digitAt_20 : decode cX9_digitAt 20 = .ok (.getfield 7, 3) := by decide +kernel
theorem dX9_digitAt_23 : decode cX9_digitAt 23 = .ok (.iload_n 1, 1) := by decide +kernel
theorem dX9_digitAt_24 : decode cX9_digitAt 24 = .ok (.iaload, 1) := by decide +kernel
theorem dX9_digitAt_25 : decode cX9_digitAt 25 = .ok (.bipush 57, 2) := by decide +kernel
theorem dX9_digitAt_27 : decode cX9_digitAt 27 = .ok (.if_icmp .gt 7, 3) := by decide +kernel
theorem dX9_digitAt_30 : decode cX9_digitAt 30 = .ok (.iconst 1, 1) := by decide +kernel
theorem dX9_digitAt_31 : decode cX9_digitAt 31 = .ok (.goto 4, 3) := by decide +kernel
theorem dX9_digitAt_34 : decode cX9_digitAt 34 = .ok (.iconst 0, 1) := by decide +kernel
theorem dX9_digitAt_35 : decode cX9_digitAt 35 = .ok (.ireturn, 1) := by decide +kernel
set_option maxRecDepth 20000 in
theorem ggX9_pass_X9_pad0 : GoodIn wsX9_pass wsX9_pad0 := goodIn_r _ [9, 1, 2, 14, 15, 16, 17, 18, 19, 20, 21, 22, 23, 24, 25, 26, 27, 28, 29, 30, 31, 32, 33, 34, 35, 36, 37, 38, 39, 40, 41, 42, 43, 44, 45, 46, 47, 48, 49] (by decide +kernel) (by decide +kernel)
set_option maxRecDepth 20000 in
theorem gX9_pass_X9_pad0 : GoodIn wsX9_pass (wsV RX9 149 RX9 yX9_pad0 wsX9_pad0) := goodIn_app (goodIn_of _ (by decide +kernel)) ggX9_pass_X9_pad0
set_option maxRecDepth 20000 in
theorem ggX9_pass_X9_digitAt : GoodIn wsX9_pass wsX9_digitAt := goodIn_r _ [13, 1, 2, 14, 15, 16, 17, 18, 19, 20, 21, 22, 23, 24, 25, 26, 27, 28, 29, 30, 31, 32, 33, 34, 35, 36, 37, 38, 39, 40, 41, 42, 43, 44, 45, 46, 47, 48, 49] (by decide +kernel) (by decide +kernel)
set_option maxRecDepth 20000 in
theorem gX9_pass_X9_digitAt : GoodIn wsX9_pass (wsV RX9 153 RX9 yX9_digitAt wsX9_digitAt) := goodIn_app (goodIn_of _ (by decide +kernel)) ggX9_pass_X9_digitAt
theorem dX9_pass_0 : decode cX9_pass 0 = .ok (.iload_n 2, 1) := by decide +kernel
theorem dX9_pass_1 : decode cX9_pass 1 = .ok (.istore_n 3, 1) := by decide +kernel
theorem dX9_pass_2 : decode cX9_pass 2 = .ok (.iload_n 1, 1) := by decide +kernel
theorem dX9_pass_3 : decode cX9_pass 3 = .ok (.sipush 200, 3) := by decide +kernel
theorem dX9_pass_6 : decode cX9_pass 6 = .ok (.if_icmp .ge 29, 3) := by decide +kernel
theorem dX9_pass_9 : decode cX9_pass 9 = .ok (.iload_n 2, 1) := by decide +kernel
theorem dX9_pass_10 : decode cX9_pass 10 = .ok (.aload_n 0, 1) := by decide +kernel
theorem dX9_pass_11 : decode cX9_pass 11 = .ok (.getfield 143, 3) := by decide +kernel
theorem dX9_pass_14 : decode cX9_pass 14 = .ok (.if_icmp .ge 19, 3) := by decide +kernel
theorem dX9_pass_17 : decode cX9_pass 17 = .ok (.aload_n 0, 1) := by decide +kernel
theorem dX9_pass_18 : decode cX9_pass 18 = .ok (.getfield 7, 3) := by decide +kernel
theorem dX9_pass_21 : decode cX9_pass 21 = .ok (.iload_n 2, 1) := by decide +kernel
theorem dX9_pass_22 : decode cX9_pass 22 = .ok (.iaload, 1) := by decide +kernel
theorem dX9_pass_23 : decode cX9_pass 23 = .ok (.iload_n 1, 1) := by decide +kernel
theorem dX9_pass_24 : decode cX9_pass 24 = .ok (.if_icmp .ne 9, 3) := by decide +kernel
theorem dX9_pass_27 : decode cX9_pass 27 = .ok (.iload_n 2, 1) := by decide +kernel
theorem dX9_pass_28 : decode cX9_pass 28 = .ok (.iconst 1, 1) := by decide +kernel
theorem dX9_pass_29 : decode cX9_pass 29 = .ok (.iadd, 1) := by decide +kernel
theorem dX9_pass_30 : decode cX9_pass 30 = .ok (.goto 4, 3) := by decide +kernel
theorem dX9_pass_33 : decode cX9_pass 33 = .ok (.iload_n 2, 1) := by decide +kernel
theorem dX9_pass_34 : decode cX9_pass 34 = .ok (.ireturn, 1) := by decide +kernel
theorem dX9_pass_35 : decode cX9_pass 35 = .ok (.iload_n 1, 1) := by decide +kernel
theorem dX9_pass_36 : decode cX9_pass 36 = .ok (.sipush 400, 3) := by decide +kernel
theorem dX9_pass_39 : decode cX9_pass 39 = .ok (.if_icmp .ne 69, 3) := by decide +kernel
theorem dX9_pass_42 : decode cX9_pass 42 = .ok (.iload_n 2, 1) := by decide +kernel
theorem dX9_pass_43 : decode cX9_pass 43 = .ok (.aload_n 0, 1) := by decide +kernel
theorem dX9_pass_44 : decode cX9_pass 44 = .ok (.getfield 143, 3) := by decide +kernel
theorem dX9_pass_47 : decode cX9_pass 47 = .ok (.if_icmp .ge 28, 3) := by decide +kernel
theorem dX9_pass_50 : decode cX9_pass 50 = .ok (.aload_n 0, 1) := by decide +kernel
theorem dX9_pass_51 : decode cX9_pass 51 = .ok (.getfield 7, 3) := by decide +kernel
theorem dX9_pass_54 : decode cX9_pass 54 = .ok (.iload_n 2, 1) := by decide +kernel
theorem dX9_pass_55 : decode cX9_pass 55 = .ok (.iaload, 1) := by decide +kernel
theorem dX9_pass_56 : decode cX9_pass 56 = .ok (.bipush 75, 2) := by decide +kernel
theorem dX9_pass_58 : decode cX9_pass 58 = .ok (.if_icmp .eq 14, 3) := by decide +kernel
theorem dX9_pass_61 : decode cX9_pass 61 = .ok (.aload_n 0, 1) := by decide +kernel
theorem dX9_pass_62 : decode cX9_pass 62 = .ok (.getfield 7, 3) := by decide +kernel
theorem dX9_pass_65 : decode cX9_pass 65 = .ok (.iload_n 2, 1) := by decide +kernel
theorem dX9_pass_66 : decode cX9_pass 66 = .ok (.iaload, 1) := by decide +kernel
theorem dX9_pass_67 : decode cX9_pass 67 = .ok (.bipush 77, 2) := by decide +kernel
theorem dX9_pass_69 : decode cX9_pass 69 = .ok (.if_icmp .ne 6, 3) := by decide +kernel
theorem dX9_pass_72 : decode cX9_pass 72 = .ok (.iinc 3 1, 3) := by decide +kernel
theorem dX9_pass_75 : decode cX9_pass 75 = .ok (.aload_n 0, 1) := by decide +kernel
theorem dX9_pass_76 : decode cX9_pass 76 = .ok (.getfield 19, 3) := by decide +kernel
theorem dX9_pass_79 : decode cX9_pass 79 = .ok (.aload_n 0, 1) := by decide +kernel
theorem dX9_pass_80 : decode cX9_pass 80 = .ok (.getfield 146, 3) := by decide +kernel
theorem dX9_pass_83 : decode cX9_pass 83 = .ok (.iload_n 3, 1) := by decide +kernel
theorem dX9_pass_84 : decode cX9_pass 84 = .ok (.iload_n 2, 1) := by decide +kernel
theorem dX9_pass_85 : decode cX9_pass 85 = .ok (.if_icmp .le 18, 3) := by decide +kernel
theorem dX9_pass_88 : decode cX9_pass 88 = .ok (.aload_n 0, 1) := by decide +kernel
theorem dX9_pass_89 : decode cX9_pass 89 = .ok (.getfield 7, 3) := by decide +kernel
theorem dX9_pass_92 : decode cX9_pass 92 = .ok (.iload_n 2, 1) := by decide +kernel
theorem dX9_pass_93 : decode cX9_pass 93 = .ok (.iaload, 1) := by decide +kernel
theorem dX9_pass_94 : decode cX9_pass 94 = .ok (.bipush 77, 2) := by decide +kernel
theorem dX9_pass_96 : decode cX9_pass 96 = .ok (.if_icmp .ne 7, 3) := by decide +kernel
theorem dX9_pass_99 : decode cX9_pass 99 = .ok (.iconst 1, 1) := by decide +kernel
theorem dX9_pass_100 : decode cX9_pass 100 = .ok (.goto 4, 3) := by decide +kernel
theorem dX9_pass_103 : decode cX9_pass 103 = .ok (.iconst 0, 1) := by decide +kernel
theorem dX9_pass_104 : decode cX9_pass 104 = .ok (.iastore, 1) := by decide +kernel
theorem dX9_pass_105 : decode cX9_pass 105 = .ok (.goto 86, 3) := by decide +kernel
theorem dX9_pass_108 : decode cX9_pass 108 = .ok (.iload_n 1, 1) := by decide +kernel
theorem dX9_pass_109 : decode cX9_pass 109 = .ok (.sipush 300, 3) := by decide +kernel
theorem dX9_pass_112 : decode cX9_pass 112 = .ok (.if_icmp .ne 7, 3) := by decide +kernel
theorem dX9_pass_115 : decode cX9_pass 115 = .ok (.iconst 3, 1) := by decide +kernel
theorem dX9_pass_116 : decode cX9_pass 116 = .ok (.goto 20, 3) := by decide +kernel
theorem dX9_pass_119 : decode cX9_pass 119 = .ok (.aload_n 0, 1) := by decide +kernel
theorem dX9_pass_120 : decode cX9_pass 120 = .ok (.iload_n 2, 1) := by decide +kernel
theorem dX9_pass_121 : decode cX9_pass 121 = .ok (.invokevirtual 149, 3) := by decide +kernel
theorem dX9_pass_124 : decode cX9_pass 124 = .ok (.ifCond .eq 7, 3) := by decide +kernel
theorem dX9_pass_127 : decode cX9_pass 127 = .ok (.iconst 1, 1) := by decide +kernel
theorem dX9_pass_128 : decode cX9_pass 128 = .ok (.goto 8, 3) := by decide +kernel
theorem dX9_pass_131 : decode cX9_pass 131 = .ok (.iload_n 1, 1) := by decide +kernel
theorem dX9_pass_132 : decode cX9_pass 132 = .ok (.sipush 200, 3) := by decide +kernel
theorem dX9_pass_135 : decode cX9_pass 135 = .ok (.isub, 1) := by decide +kernel
theorem dX9_pass_136 : decode cX9_pass 136 = .ok (.istore 4, 2) := by decide +kernel
theorem dX9_pass_138 : decode cX9_pass 138 = .ok (.iconst 0, 1) := by decide +kernel
theorem dX9_pass_139 : decode cX9_pass 139 = .ok (.istore 5, 2) := by decide +kernel
theorem dX9_pass_141 : decode cX9_pass 141 = .ok (.iload_n 3, 1) := by decide +kernel
theorem dX9_pass_142 : decode cX9_pass 142 = .ok (.iload_n 2, 1) := by decide +kernel
theorem dX9_pass_143 : decode cX9_pass 143 = .ok (.isub, 1) := by decide +kernel
theorem dX9_pass_144 : decode cX9_pass 144 = .ok (.iload 4, 2) := by decide +kernel
theorem dX9_pass_146 : decode cX9_pass 146 = .ok (.if_icmp .ge 34, 3) := by decide +kernel
theorem dX9_pass_149 : decode cX9_pass 149 = .ok (.aload_n 0, 1) := by decide +kernel
theorem dX9_pass_150 : decode cX9_pass 150 = .ok (.iload_n 3, 1) := by decide +kernel
theorem dX9_pass_151 : decode cX9_pass 151 = .ok (.invokevirtual 153, 3) := by decide +kernel
theorem dX9_pass_154 : decode cX9_pass 154 = .ok (.ifCond .eq 26, 3) := by decide +kernel
theorem dX9_pass_157 : decode cX9_pass 157 = .ok (.bipush 10, 2) := by decide +kernel
theorem dX9_pass_159 : decode cX9_pass 159 = .ok (.iload 5, 2) := by decide +kernel
theorem dX9_pass_161 : decode cX9_pass 161 = .ok (.imul, 1) := by decide +kernel
theorem dX9_pass_162 : decode cX9_pass 162 = .ok (.aload_n 0, 1) := by decide +kernel
theorem dX9_pass_163 : decode cX9_pass 163 = .ok (.getfield 7, 3) := by decide +kernel
theorem dX9_pass_166 : decode cX9_pass 166 = .ok (.iload_n 3, 1) := by decide +kernel
theorem dX9_pass_167 : decode cX9_pass 167 = .ok (.iaload, 1) := by decide +kernel
theorem dX9_pass_168 : decode cX9_pass 168 = .ok (.iadd, 1) := by decide +kernel
theorem dX9_pass_169 : decode cX9_pass 169 = .ok (.bipush 48, 2) := by decide +kernel
theorem dX9_pass_171 : decode cX9_pass 171 = .ok (.isub, 1) := by decide +kernel
theorem dX9_pass_172 : decode cX9_pass 172 = .ok (.istore 5, 2) := by decide +kernel
theorem dX9_pass_174 : decode cX9_pass 174 = .ok (.iinc 3 1, 3) := by decide +kernel
theorem dX9_pass_177 : decode cX9_pass 177 = .ok (.goto (-36), 3) := by decide +kernel
theorem dX9_pass_180 : decode cX9_pass 180 = .ok (.aload_n 0, 1) := by decide +kernel
theorem dX9_pass_181 : decode cX9_pass 181 = .ok (.getfield 19, 3) := by decide +kernel
theorem dX9_pass_184 : decode cX9_pass 184 = .ok (.aload_n 0, 1) := by decide +kernel
theorem dX9_pass_185 : decode cX9_pass 185 = .ok (.getfield 146, 3) := by decide +kernel
theorem dX9_pass_188 : decode cX9_pass 188 = .ok (.iload 5, 2) := by decide +kernel
theorem dX9_pass_190 : decode cX9_pass 190 = .ok (.iastore, 1) := by decide +kernel
theorem dX9_pass_191 : decode cX9_pass 191 = .ok (.aload_n 0, 1) := by decide +kernel
theorem dX9_pass_192 : decode cX9_pass 192 = .ok (.dup, 1) := by decide +kernel
theorem dX9_pass_193 : decode cX9_pass 193 = .ok (.getfield 146, 3) := by decide +kernel
theorem dX9_pass_196 : decode cX9_pass 196 = .ok (.iconst 1, 1) := by decide +kernel
theorem dX9_pass_197 : decode cX9_pass 197 = .ok (.iadd, 1) := by decide +kernel
theorem dX9_pass_198 : decode cX9_pass 198 = .ok (.putfield 146, 3) := by decide +kernel
theorem dX9_pass_201 : decode cX9_pass 201 = .ok (.iload_n 3, 1) := by decide +kernel
theorem dX9_pass_202 : decode cX9_pass 202 = .ok (.ireturn, 1) := by decide +kernel
theorem dX9_pad0_0 : decode cX9_pad0 0 = .ok (.iload_n 1, 1) := by decide +kernel
theorem dX9_pad0_1 : decode cX9_pad0 1 = .ok (.aload_n 0, 1) := by decide +kernel
theorem dX9_pad0_2 : decode cX9_pad0 2 = .ok (.getfield 143, 3) := by decide +kernel
theorem dX9_pad0_5 : decode cX9_pad0 5 = .ok (.if_icmp .ge 18, 3) := by decide +kernel
theorem dX9_pad0_8 : decode cX9_pad0 8 = .ok (.aload_n 0, 1) := by decide +kernel
theorem dX9_pad0_9 : decode cX9_pad0 9 = .ok (.getfield 7, 3) := by decide +kernel
theorem dX9_pad0_12 : decode cX9_pad0 12 = .ok (.iload_n 1, 1) := by decide +kernel
theorem dX9_pad0_13 : decode cX9_pad0 13 = .ok (.iaload, 1) := by decide +kernel
theorem dX9_pad0_14 : decode cX9_pad0 14 = .ok (.bipush 48, 2) := by decide +kernel
theorem dX9_pad0_16 : decode cX9_pad0 16 = .ok (.if_icmp .ne 7, 3) := by decide +kernel
theorem dX9_pad0_19 : decode cX9_pad0 19 = .ok (.iconst 1, 1) := by decide +kernel
theorem dX9_pad0_20 : decode cX9_pad0 20 = .ok (.goto 4, 3) := by decide +kernel
theorem dX9_pad0_23 : decode cX9_pad0 23 = .ok (.iconst 0, 1) := by decide +kernel
theorem dX9_pad0_24 : decode cX9_pad0 24 = .ok (.ireturn, 1) := by decide +kernel
set_option maxRecDepth 20000 in
theorem ggX9_reach_X9_pass : GoodIn wsX9_reach wsX9_pass := goodIn_r _ [10, 5, 11, 12, 1, 13, 14, 15, 9, 16, 17, 18, 19, 20, 21, 22, 23, 24, 25, 26, 27, 28, 29, 30, 31, 32, 33, 34, 35, 36, 37, 38, 39, 40, 41, 42, 43, 44, 45, 46, 47, 48, 49, 50, 51, 52, 53, 54, 55, 56] (by decide +kernel) (by decide +kernel)
set_option maxRecDepth 20000 in
theorem gX9_reach_X9_pass : GoodIn wsX9_reach (wsV RX9 160 RX9 yX9_pass wsX9_pass) := goodIn_app (goodIn_of _ (by decide +kernel)) ggX9_reach_X9_pass
theorem dX9_reach_0 : decode cX9_reach 0 = .ok (.iconst 0, 1) := by decide +kernel
theorem dX9_reach_1 : decode cX9_reach 1 = .ok (.istore_n 1, 1) := by decide +kernel
theorem dX9_reach_2 : decode cX9_reach 2 = .ok (.aload_n 0, 1) := by decide +kernel
theorem dX9_reach_3 : decode cX9_reach 3 = .ok (.iconst 0, 1) := by decide +kernel
theorem dX9_reach_4 : decode cX9_reach 4 = .ok (.putfield 146, 3) := by decide +kernel
theorem dX9_reach_7 : decode cX9_reach 7 = .ok (.aload_n 0, 1) := by decide +kernel
theorem dX9_reach_8 : decode cX9_reach 8 = .ok (.iconst 0, 1) := by decide +kernel
theorem dX9_reach_9 : decode cX9_reach 9 = .ok (.putfield 156, 3) := by decide +kernel
theorem dX9_reach_12 : decode cX9_reach 12 = .ok (.iconst 0, 1) := by decide +kernel
theorem dX9_reach_13 : decode cX9_reach 13 = .ok (.istore_n 2, 1) := by decide +kernel
theorem dX9_reach_14 : decode cX9_reach 14 = .ok (.iload_n 2, 1) := by decide +kernel
theorem dX9_reach_15 : decode cX9_reach 15 = .ok (.aload_n 0, 1) := by decide +kernel
theorem dX9_reach_16 : decode cX9_reach 16 = .ok (.getfield 87, 3) := by decide +kernel
theorem dX9_reach_19 : decode cX9_reach 19 = .ok (.if_icmp .ge 49, 3) := by decide +kernel
theorem dX9_reach_22 : decode cX9_reach 22 = .ok (.aload_n 0, 1) := by decide +kernel
theorem dX9_reach_23 : decode cX9_reach 23 = .ok (.aload_n 0, 1) := by decide +kernel
theorem dX9_reach_24 : decode cX9_reach 24 = .ok (.getfield 13, 3) := by decide +kernel
theorem dX9_reach_27 : decode cX9_reach 27 = .ok (.iload_n 2, 1) := by decide +kernel
theorem dX9_reach_28 : decode cX9_reach 28 = .ok (.iaload, 1) := by decide +kernel
theorem dX9_reach_29 : decode cX9_reach 29 = .ok (.iload_n 1, 1) := by decide +kernel
theorem dX9_reach_30 : decode cX9_reach 30 = .ok (.invokevirtual 160, 3) := by decide +kernel
theorem dX9_reach_33 : decode cX9_reach 33 = .ok (.istore_n 3, 1) := by decide +kernel
theorem dX9_reach_34 : decode cX9_reach 34 = .ok (.iload_n 3, 1) := by decide +kernel
theorem dX9_reach_35 : decode cX9_reach 35 = .ok (.iload_n 1, 1) := by decide +kernel
theorem dX9_reach_36 : decode cX9_reach 36 = .ok (.if_icmp .eq 22, 3) := by decide +kernel
theorem dX9_reach_39 : decode cX9_reach 39 = .ok (.aload_n 0, 1) := by decide +kernel
theorem dX9_reach_40 : decode cX9_reach 40 = .ok (.getfield 13, 3) := by decide +kernel
theorem dX9_reach_43 : decode cX9_reach 43 = .ok (.iload_n 2, 1) := by decide +kernel
theorem dX9_reach_44 : decode cX9_reach 44 = .ok (.iaload, 1) := by decide +kernel
theorem dX9_reach_45 : decode cX9_reach 45 = .ok (.sipush 300, 3) := by decide +kernel
theorem dX9_reach_48 : decode cX9_reach 48 = .ok (.if_icmp .ne 12, 3) := by decide +kernel
theorem dX9_reach_51 : decode cX9_reach 51 = .ok (.iload_n 3, 1) := by decide +kernel
theorem dX9_reach_52 : decode cX9_reach 52 = .ok (.iload_n 1, 1) := by decide +kernel
theorem dX9_reach_53 : decode cX9_reach 53 = .ok (.iconst 3, 1) := by decide +kernel
theorem dX9_reach_54 : decode cX9_reach 54 = .ok (.iadd, 1) := by decide +kernel
theorem dX9_reach_55 : decode cX9_reach 55 = .ok (.if_icmp .ge 5, 3) := by decide +kernel
theorem dX9_reach_58 : decode cX9_reach 58 = .ok (.iload_n 3, 1) := by decide +kernel
theorem dX9_reach_59 : decode cX9_reach 59 = .ok (.ireturn, 1) := by decide +kernel
theorem dX9_reach_60 : decode cX9_reach 60 = .ok (.iload_n 3, 1) := by decide +kernel
theorem dX9_reach_61 : decode cX9_reach 61 = .ok (.istore_n 1, 1) := by decide +kernel
theorem dX9_reach_62 : decode cX9_reach 62 = .ok (.iinc 2 1, 3) := by decide +kernel
theorem dX9_reach_65 : decode cX9_reach 65 = .ok (.goto (-51), 3) := by decide +kernel
theorem dX9_reach_68 : decode cX9_reach 68 = .ok (.aload_n 0, 1) := by decide +kernel
theorem dX9_reach_69 : decode cX9_reach 69 = .ok (.iload_n 1, 1) := by decide +kernel
theorem dX9_reach_70 : decode cX9_reach 70 = .ok (.aload_n 0, 1) := by decide +kernel
theorem dX9_reach_71 : decode cX9_reach 71 = .ok (.getfield 143, 3) := by decide +kernel
theorem dX9_reach_74 : decode cX9_reach 74 = .ok (.if_icmp .ne 7, 3) := by decide +kernel
theorem dX9_reach_77 : decode cX9_reach 77 = .ok (.iconst 1, 1) := by decide +kernel
theorem dX9_reach_78 : decode cX9_reach 78 = .ok (.goto 4, 3) := by decide +kernel
theorem dX9_reach_81 : decode cX9_reach 81 = .ok (.iconst 0, 1) := by decide +kernel
theorem dX9_reach_82 : decode cX9_reach 82 = .ok (.putfield 156, 3) := by decide +kernel
theorem dX9_reach_85 : decode cX9_reach 85 = .ok (.iload_n 1, 1) := by decide +kernel
theorem dX9_reach_86 : decode cX9_reach 86 = .ok (.ireturn, 1) := by decide +kernel
set_option maxRecDepth 20000 in
theorem ggX9_read_X9_makeMould : GoodIn wsX9_read wsX9_makeMould := goodIn_r _ [6, 7, 8, 9, 10, 11, 12, 13, 14, 15, 16, 5, 17, 18, 19, 20, 21, 22, 23, 24, 25, 26, 27, 28, 29, 30, 31, 32, 33, 34, 35, 36, 37, 38, 39, 40, 41, 42, 43, 44, 45, 46, 47, 48, 84, 85, 86, 87, 88, 89, 90, 91, 92, 93, 94, 95, 96, 97, 98, 99, 100, 101, 102, 103, 104, 105, 106, 107, 108, 109, 110, 111, 112, 113, 114, 115, 116, 117, 118, 119] (by decide +kernel) (by decide +kernel)
set_option maxRecDepth 20000 in
theorem gX9_read_X9_makeMould : GoodIn wsX9_read (wsV RX9 164 RX9 yX9_makeMould wsX9_makeMould) := goodIn_app (goodIn_of _ (by decide +kernel)) ggX9_read_X9_makeMould
set_option maxRecDepth 20000 in
theorem ggX9_read_X9_reach : GoodIn wsX9_read wsX9_reach := goodIn_r _ [52, 53, 1, 7, 18, 54, 55, 56, 57, 5, 58, 59, 60, 61, 62, 63, 64, 65, 66, 67, 68, 84, 85, 86, 87, 88, 89, 90, 91, 92, 93, 94, 95, 96, 97, 98, 99, 100, 101, 102, 103, 104, 105, 106, 107, 108, 109, 110, 111, 112, 113, 114, 115, 116, 117, 118, 119] (by decide +kernel) (by decide +kernel)
set_option maxRecDepth 20000 in
theorem gX9_read_X9_reach : GoodIn wsX9_read (wsV RX9 168 RX9 yX9_reach wsX9_reach) := goodIn_app (goodIn_of _ (by decide +kernel)) ggX9_read_X9_reach
set_option maxRecDepth 20000 in
theorem ggX9_read_X9_note : GoodIn wsX9_read wsX9_note := goodIn_r _ [72, 73, 74, 75, 76, 77, 60, 78, 79, 80, 81, 82, 5, 83, 84, 85, 86, 87, 88, 89, 90, 91, 92, 93, 94, 95, 96, 97, 98, 99, 100, 101, 102, 103, 104, 105, 106, 107, 108, 109, 110, 111, 112, 113, 114, 115, 116, 117, 118, 119] (by decide +kernel) (by decide +kernel)
set_option maxRecDepth 20000 in
theorem gX9_read_X9_note : GoodIn wsX9_read (wsV RX9 172 RX9 yX9_note wsX9_note) := goodIn_app (goodIn_of _ (by decide +kernel)) ggX9_read_X9_note
theorem dX9_read_0 : decode cX9_read 0 = .ok (.iconst 0, 1) := by decide +kernel
theorem dX9_read_1 : decode cX9_read 1 = .ok (.istore_n 1, 1) := by decide +kernel
theorem dX9_read_2 : decode cX9_read 2 = .ok (.iconst 0, 1) := by decide +kernel
theorem dX9_read_3 : decode cX9_read 3 = .ok (.istore_n 2, 1) := by decide +kernel
theorem dX9_read_4 : decode cX9_read 4 = .ok (.iload_n 2, 1) := by decide +kernel
theorem dX9_read_5 : decode cX9_read 5 = .ok (.bipush 6, 2) := by decide +kernel
theorem dX9_read_7 : decode cX9_read 7 = .ok (.if_icmp .gt 86, 3) := by decide +kernel
theorem dX9_read_10 : decode cX9_read 10 = .ok (.iload_n 2, 1) := by decide +kernel
theorem dX9_read_11 : decode cX9_read 11 = .ok (.iconst 1, 1) := by decide +kernel
theorem dX9_read_12 : decode cX9_read 12 = .ok (.if_icmp .gt 8, 3) := by decide +kernel
theorem dX9_read_15 : decode cX9_read 15 = .ok (.bipush 9, 2) := by decide +kernel
theorem dX9_read_17 : decode cX9_read 17 = .ok (.goto 4, 3) := by decide +kernel
theorem dX9_read_20 : decode cX9_read 20 = .ok (.iconst 1, 1) := by decide +kernel
theorem dX9_read_21 : decode cX9_read 21 = .ok (.istore_n 3, 1) := by decide +kernel
theorem dX9_read_22 : decode cX9_read 22 = .ok (.iconst 0, 1) := by decide +kernel
theorem dX9_read_23 : decode cX9_read 23 = .ok (.istore 4, 2) := by decide +kernel
theorem dX9_read_25 : decode cX9_read 25 = .ok (.iload 4, 2) := by decide +kernel
theorem dX9_read_27 : decode cX9_read 27 = .ok (.iload_n 3, 1) := by decide +kernel
theorem dX9_read_28 : decode cX9_read 28 = .ok (.if_icmp .ge 59, 3) := by decide +kernel
theorem dX9_read_31 : decode cX9_read 31 = .ok (.aload_n 0, 1) := by decide +kernel
theorem dX9_read_32 : decode cX9_read 32 = .ok (.iload_n 2, 1) := by decide +kernel
theorem dX9_read_33 : decode cX9_read 33 = .ok (.iload 4, 2) := by decide +kernel
theorem dX9_read_35 : decode cX9_read 35 = .ok (.iconst 3, 1) := by decide +kernel
theorem dX9_read_36 : decode cX9_read 36 = .ok (.idiv, 1) := by decide +kernel
theorem dX9_read_37 : decode cX9_read 37 = .ok (.iload 4, 2) := by decide +kernel
theorem dX9_read_39 : decode cX9_read 39 = .ok (.iconst 3, 1) := by decide +kernel
theorem dX9_read_40 : decode cX9_read 40 = .ok (.irem, 1) := by decide +kernel
theorem dX9_read_41 : decode cX9_read 41 = .ok (.invokevirtual 164, 3) := by decide +kernel
theorem dX9_read_44 : decode cX9_read 44 = .ok (.aload_n 0, 1) := by decide +kernel
theorem dX9_read_45 : decode cX9_read 45 = .ok (.invokevirtual 168, 3) := by decide +kernel
theorem dX9_read_48 : decode cX9_read 48 = .ok (.istore 5, 2) := by decide +kernel
theorem dX9_read_50 : decode cX9_read 50 = .ok (.aload_n 0, 1) := by decide +kernel
theorem dX9_read_51 : decode cX9_read 51 = .ok (.getfield 156, 3) := by decide +kernel
theorem dX9_read_54 : decode cX9_read 54 = .ok (.ifCond .eq 18, 3) := by decide +kernel
theorem dX9_read_57 : decode cX9_read 57 = .ok (.aload_n 0, 1) := by decide +kernel
theorem dX9_read_58 : decode cX9_read 58 = .ok (.iload_n 2, 1) := by decide +kernel
theorem dX9_read_59 : decode cX9_read 59 = .ok (.iload 4, 2) := by decide +kernel
theorem dX9_read_61 : decode cX9_read 61 = .ok (.iconst 3, 1) := by decide +kernel
theorem dX9_read_62 : decode cX9_read 62 = .ok (.idiv, 1) := by decide +kernel
theorem dX9_read_63 : decode cX9_read 63 = .ok (.iload 4, 2) := by decide +kernel
theorem dX9_read_65 : decode cX9_read 65 = .ok (.iconst 3, 1) := by decide +kernel
theorem dX9_read_66 : decode cX9_read 66 = .ok (.irem, 1) := by decide +kernel
theorem dX9_read_67 : decode cX9_read 67 = .ok (.invokevirtual 172, 3) := by decide +kernel
theorem dX9_read_70 : decode cX9_read 70 = .ok (.iconst (-1), 1) := by decide +kernel
theorem dX9_read_71 : decode cX9_read 71 = .ok (.ireturn, 1) := by decide +kernel
theorem dX9_read_72 : decode cX9_read 72 = .ok (.iload 5, 2) := by decide +kernel
theorem dX9_read_74 : decode cX9_read 74 = .ok (.iload_n 1, 1) := by decide +kernel
theorem dX9_read_75 : decode cX9_read 75 = .ok (.if_icmp .le 6, 3) := by decide +kernel
theorem dX9_read_78 : decode cX9_read 78 = .ok (.iload 5, 2) := by decide +kernel
theorem dX9_read_80 : decode cX9_read 80 = .ok (.istore_n 1, 1) := by decide +kernel
theorem dX9_read_81 : decode cX9_read 81 = .ok (.iinc 4 1, 3) := by decide +kernel
theorem dX9_read_84 : decode cX9_read 84 = .ok (.goto (-59), 3) := by decide +kernel
theorem dX9_read_87 : decode cX9_read 87 = .ok (.iinc 2 1, 3) := by decide +kernel
theorem dX9_read_90 : decode cX9_read 90 = .ok (.goto (-86), 3) := by decide +kernel
theorem dX9_read_93 : decode cX9_read 93 = .ok (.iload_n 1, 1) := by decide +kernel
theorem dX9_read_94 : decode cX9_read 94 = .ok (.ireturn, 1) := by decide +kernel
set_option maxRecDepth 20000 in
theorem ggX9_note_X9_sizesOf : GoodIn wsX9_note wsX9_sizesOf := goodIn_r _ [13] (by decide +kernel) (by decide +kernel)
set_option maxRecDepth 20000 in
theorem gX9_note_X9_sizesOf : GoodIn wsX9_note (va_wsS RX9 178 yX9_sizesOf wsX9_sizesOf) := goodIn_app (goodIn_of _ (by decide +kernel)) ggX9_note_X9_sizesOf
theorem dX9_note_0 : decode cX9_note 0 = .ok (.aload_n 0, 1) := by decide +kernel
theorem dX9_note_1 : decode cX9_note 1 = .ok (.getfield 35, 3) := by decide +kernel
theorem dX9_note_4 : decode cX9_note 4 = .ok (.aload_n 0, 1) := by decide +kernel
theorem dX9_note_5 : decode cX9_note 5 = .ok (.getfield 175, 3) := by decide +kernel
theorem dX9_note_8 : decode cX9_note 8 = .ok (.iload_n 1, 1) := by decide +kernel
theorem dX9_note_9 : decode cX9_note 9 = .ok (.iastore, 1) := by decide +kernel
theorem dX9_note_10 : decode cX9_note 10 = .ok (.aload_n 0, 1) := by decide +kernel
theorem dX9_note_11 : decode cX9_note 11 = .ok (.getfield 38, 3) := by decide +kernel
theorem dX9_note_14 : decode cX9_note 14 = .ok (.aload_n 0, 1) := by decide +kernel
theorem dX9_note_15 : decode cX9_note 15 = .ok (.getfield 175, 3) := by decide +kernel
theorem dX9_note_18 : decode cX9_note 18 = .ok (.iload_n 2, 1) := by decide +kernel
theorem dX9_note_19 : decode cX9_note 19 = .ok (.iastore, 1) := by decide +kernel
theorem dX9_note_20 : decode cX9_note 20 = .ok (.aload_n 0, 1) := by decide +kernel
theorem dX9_note_21 : decode cX9_note 21 = .ok (.getfield 41, 3) := by decide +kernel
theorem dX9_note_24 : decode cX9_note 24 = .ok (.aload_n 0, 1) := by decide +kernel
theorem dX9_note_25 : decode cX9_note 25 = .ok (.getfield 175, 3) := by decide +kernel
theorem dX9_note_28 : decode cX9_note 28 = .ok (.iload_n 3, 1) := by decide +kernel
theorem dX9_note_29 : decode cX9_note 29 = .ok (.iastore, 1) := by decide +kernel
theorem dX9_note_30 : decode cX9_note 30 = .ok (.aload_n 0, 1) := by decide +kernel
theorem dX9_note_31 : decode cX9_note 31 = .ok (.getfield 44, 3) := by decide +kernel
theorem dX9_note_34 : decode cX9_note 34 = .ok (.aload_n 0, 1) := by decide +kernel
theorem dX9_note_35 : decode cX9_note 35 = .ok (.getfield 175, 3) := by decide +kernel
theorem dX9_note_38 : decode cX9_note 38 = .ok (.sipush 1000, 3) := by decide +kernel
theorem dX9_note_41 : decode cX9_note 41 = .ok (.aload_n 0, 1) := by decide +kernel
theorem dX9_note_42 : decode cX9_note 42 = .ok (.getfield 19, 3) := by decide +kernel
theorem dX9_note_45 : decode cX9_note 45 = .ok (.iconst 0, 1) := by decide +kernel
theorem dX9_note_46 : decode cX9_note 46 = .ok (.iaload, 1) := by decide +kernel
theorem dX9_note_47 : decode cX9_note 47 = .ok (.imul, 1) := by decide +kernel
theorem dX9_note_48 : decode cX9_note 48 = .ok (.aload_n 0, 1) := by decide +kernel
theorem dX9_note_49 : decode cX9_note 49 = .ok (.getfield 19, 3) := by decide +kernel
theorem dX9_note_52 : decode cX9_note 52 = .ok (.iconst 1, 1) := by decide +kernel
theorem dX9_note_53 : decode cX9_note 53 = .ok (.iaload, 1) := by decide +kernel
theorem dX9_note_54 : decode cX9_note 54 = .ok (.iadd, 1) := by decide +kernel
theorem dX9_note_55 : decode cX9_note 55 = .ok (.iastore, 1) := by decide +kernel
theorem dX9_note_56 : decode cX9_note 56 = .ok (.aload_n 0, 1) := by decide +kernel
theorem dX9_note_57 : decode cX9_note 57 = .ok (.getfield 47, 3) := by decide +kernel
theorem dX9_note_60 : decode cX9_note 60 = .ok (.aload_n 0, 1) := by decide +kernel
theorem dX9_note_61 : decode cX9_note 61 = .ok (.getfield 175, 3) := by decide +kernel
theorem dX9_note_64 : decode cX9_note 64 = .ok (.aload_n 0, 1) := by decide +kernel
theorem dX9_note_65 : decode cX9_note 65 = .ok (.getfield 19, 3) := by decide +kernel
theorem dX9_note_68 : decode cX9_note 68 = .ok (.iconst 2, 1) := by decide +kernel
theorem dX9_note_69 : decode cX9_note 69 = .ok (.iaload, 1) := by decide +kernel
theorem dX9_note_70 : decode cX9_note 70 = .ok (.iastore, 1) := by decide +kernel
theorem dX9_note_71 : decode cX9_note 71 = .ok (.iconst 3, 1) := by decide +kernel
theorem dX9_note_72 : decode cX9_note 72 = .ok (.istore 4, 2) := by decide +kernel
theorem dX9_note_74 : decode cX9_note 74 = .ok (.iload_n 1, 1) := by decide +kernel
theorem dX9_note_75 : decode cX9_note 75 = .ok (.invokestatic 178, 3) := by decide +kernel
theorem dX9_note_78 : decode cX9_note 78 = .ok (.istore 5, 2) := by decide +kernel
theorem dX9_note_80 : decode cX9_note 80 = .ok (.iconst 0, 1) := by decide +kernel
theorem dX9_note_81 : decode cX9_note 81 = .ok (.istore 6, 2) := by decide +kernel
theorem dX9_note_83 : decode cX9_note 83 = .ok (.iload 6, 2) := by decide +kernel
theorem dX9_note_85 : decode cX9_note 85 = .ok (.iload 5, 2) := by decide +kernel
theorem dX9_note_87 : decode cX9_note 87 = .ok (.if_icmp .ge 60, 3) := by decide +kernel
theorem dX9_note_90 : decode cX9_note 90 = .ok (.aload_n 0, 1) := by decide +kernel
theorem dX9_note_91 : decode cX9_note 91 = .ok (.getfield 50, 3) := by decide +kernel
theorem dX9_note_94 : decode cX9_note 94 = .ok (.iconst 3, 1) := by decide +kernel
theorem dX9_note_95 : decode cX9_note 95 = .ok (.aload_n 0, 1) := by decide +kernel
theorem dX9_note_96 : decode cX9_note 96 = .ok (.getfield 175, 3) := by decide +kernel
theorem dX9_note_99 : decode cX9_note 99 = .ok (.imul, 1) := by decide +kernel
theorem dX9_note_100 : decode cX9_note 100 = .ok (.iload 6, 2) := by decide +kernel
theorem dX9_note_102 : decode cX9_note 102 = .ok (.iadd, 1) := by decide +kernel
theorem dX9_note_103 : decode cX9_note 103 = .ok (.aload_n 0, 1) := by decide +kernel
theorem dX9_note_104 : decode cX9_note 104 = .ok (.getfield 19, 3) := by decide +kernel
theorem dX9_note_107 : decode cX9_note 107 = .ok (.iload 4, 2) := by decide +kernel
theorem dX9_note_109 : decode cX9_note 109 = .ok (.iconst 1, 1) := by decide +kernel
theorem dX9_note_110 : decode cX9_note 110 = .ok (.iadd, 1) := by decide +kernel
theorem dX9_note_111 : decode cX9_note 111 = .ok (.iaload, 1) := by decide +kernel
theorem dX9_note_112 : decode cX9_note 112 = .ok (.iconst 1, 1) := by decide +kernel
theorem dX9_note_113 : decode cX9_note 113 = .ok (.if_icmp .ne 17, 3) := by decide +kernel
theorem dX9_note_116 : decode cX9_note 116 = .ok (.sipush 1024, 3) := by decide +kernel
theorem dX9_note_119 : decode cX9_note 119 = .ok (.aload_n 0, 1) := by decide +kernel
theorem dX9_note_120 : decode cX9_note 120 = .ok (.getfield 19, 3) := by decide +kernel
theorem dX9_note_123 : decode cX9_note 123 = .ok (.iload 4, 2) := by decide +kernel
theorem dX9_note_125 : decode cX9_note 125 = .ok (.iaload, 1) := by decide +kernel
theorem dX9_note_126 : decode cX9_note 126 = .ok (.imul, 1) := by decide +kernel
theorem dX9_note_127 : decode cX9_note 127 = .ok (.goto 10, 3) := by decide +kernel
theorem dX9_note_130 : decode cX9_note 130 = .ok (.aload_n 0, 1) := by decide +kernel
theorem dX9_note_131 : decode cX9_note 131 = .ok (.getfield 19, 3) := by decide +kernel
theorem dX9_note_134 : decode cX9_note 134 = .ok (.iload 4, 2) := by decide +kernel
theorem dX9_note_136 : decode cX9_note 136 = .ok (.iaload, 1) := by decide +kernel
theorem dX9_note_137 : decode cX9_note 137 = .ok (.iastore, 1) := by decide +kernel
theorem dX9_note_138 : decode cX9_note 138 = .ok (.iinc 4 2, 3) := by decide +kernel
theorem dX9_note_141 : decode cX9_note 141 = .ok (.iinc 6 1, 3) := by decide +kernel
theorem dX9_note_144 : decode cX9_note 144 = .ok (.goto (-61), 3) := by decide +kernel
theorem dX9_note_147 : decode cX9_note 147 = .ok (.aload_n 0, 1) := by decide +kernel
theorem dX9_note_148 : decode cX9_note 148 = .ok (.getfield 53, 3) := by decide +kernel
theorem dX9_note_151 : decode cX9_note 151 = .ok (.aload_n 0, 1) := by decide +kernel
theorem dX9_note_152 : decode cX9_note 152 = .ok (.getfield 175, 3) := by decide +kernel
theorem dX9_note_155 : decode cX9_note 155 = .ok (.iload_n 1, 1) := by decide +kernel
theorem dX9_note_156 : decode cX9_note 156 = .ok (.iconst 1, 1) := by decide +kernel
theorem dX9_note_157 : decode cX9_note 157 = .ok (.if_icmp .eq 8, 3) := by decide +kernel
theorem dX9_note_160 : decode cX9_note 160 = .ok (.iload_n 1, 1) := by decide +kernel
theorem dX9_note_161 : decode cX9_note 161 = .ok (.iconst 5, 1) := by decide +kernel
theorem dX9_note_162 : decode cX9_note 162 = .ok (.if_icmp .ne 27, 3) := by decide +kernel
theorem dX9_note_165 : decode cX9_note 165 = .ok (.sipush 1000, 3) := by decide +kernel
theorem dX9_note_168 : decode cX9_note 168 = .ok (.aload_n 0, 1) := by decide +kernel
theorem dX9_note_169 : decode cX9_note 169 = .ok (.getfield 19, 3) := by decide +kernel
theorem dX9_note_172 : decode cX9_note 172 = .ok (.iload 4, 2) := by decide +kernel
theorem dX9_note_174 : decode cX9_note 174 = .ok (.iaload, 1) := by decide +kernel
theorem dX9_note_175 : decode cX9_note 175 = .ok (.imul, 1) := by decide +kernel
theorem dX9_note_176 : decode cX9_note 176 = .ok (.aload_n 0, 1) := by decide +kernel
theorem dX9_note_177 : decode cX9_note 177 = .ok (.getfield 19, 3) := by decide +kernel
theorem dX9_note_180 : decode cX9_note 180 = .ok (.iload 4, 2) := by decide +kernel
theorem dX9_note_182 : decode cX9_note 182 = .ok (.iconst 1, 1) := by decide +kernel
theorem dX9_note_183 : decode cX9_note 183 = .ok (.iadd, 1) := by decide +kernel
theorem dX9_note_184 : decode cX9_note 184 = .ok (.iaload, 1) := by decide +kernel
theorem dX9_note_185 : decode cX9_note 185 = .ok (.iadd, 1) := by decide +kernel
theorem dX9_note_186 : decode cX9_note 186 = .ok (.goto 4, 3) := by decide +kernel
theorem dX9_note_189 : decode cX9_note 189 = .ok (.iconst 0, 1) := by decide +kernel
theorem dX9_note_190 : decode cX9_note 190 = .ok (.iastore, 1) := by decide +kernel
theorem dX9_note_191 : decode cX9_note 191 = .ok (.return_, 1) := by decide +kernel
theorem dX9_sizesOf_0 : decode cX9_sizesOf 0 = .ok (.iload_n 0, 1) := by decide +kernel
theorem dX9_sizesOf_1 : decode cX9_sizesOf 1 = .ok (.iconst 1, 1) := by decide +kernel
theorem dX9_sizesOf_2 : decode cX9_sizesOf 2 = .ok (.if_icmp .ne 7, 3) := by decide +kernel
theorem dX9_sizesOf_5 : decode cX9_sizesOf 5 = .ok (.iconst 3, 1) := by decide +kernel
theorem dX9_sizesOf_6 : decode cX9_sizesOf 6 = .ok (.goto 18, 3) := by decide +kernel
theorem dX9_sizesOf_9 : decode cX9_sizesOf 9 = .ok (.iload_n 0, 1) := by decide +kernel
theorem dX9_sizesOf_10 : decode cX9_sizesOf 10 = .ok (.iconst 2, 1) := by decide +kernel
theorem dX9_sizesOf_11 : decode cX9_sizesOf 11 = .ok (.if_icmp .eq 8, 3) := by decide +kernel
theorem dX9_sizesOf_14 : decode cX9_sizesOf 14 = .ok (.iload_n 0, 1) := by decide +kernel
theorem dX9_sizesOf_15 : decode cX9_sizesOf 15 = .ok (.iconst 3, 1) := by decide +kernel
theorem dX9_sizesOf_16 : decode cX9_sizesOf 16 = .ok (.if_icmp .ne 7, 3) := by decide +kernel
theorem dX9_sizesOf_19 : decode cX9_sizesOf 19 = .ok (.iconst 2, 1) := by decide +kernel
theorem dX9_sizesOf_20 : decode cX9_sizesOf 20 = .ok (.goto 4, 3) := by decide +kernel
theorem dX9_sizesOf_23 : decode cX9_sizesOf 23 = .ok (.iconst 0, 1) := by decide +kernel
theorem dX9_sizesOf_24 : decode cX9_sizesOf 24 = .ok (.ireturn, 1) := by decide +kernel
theorem dX9_isBack_0 : decode cX9_isBack 0 = .ok (.iconst 0, 1) := by decide +kernel
theorem dX9_isBack_1 : decode cX9_isBack 1 = .ok (.istore_n 2, 1) := by decide +kernel
theorem dX9_isBack_2 : decode cX9_isBack 2 = .ok (.iload_n 2, 1) := by decide +kernel
theorem dX9_isBack_3 : decode cX9_isBack 3 = .ok (.iload_n 1, 1) := by decide +kernel
theorem dX9_isBack_4 : decode cX9_isBack 4 = .ok (.if_icmp .ge 48, 3) := by decide +kernel
theorem dX9_isBack_7 : decode cX9_isBack 7 = .ok (.aload_n 0, 1) := by decide +kernel
theorem dX9_isBack_8 : decode cX9_isBack 8 = .ok (.getfield 22, 3) := by decide +kernel
theorem dX9_isBack_11 : decode cX9_isBack 11 = .ok (.iload_n 2, 1) := by decide +kernel
theorem dX9_isBack_12 : decode cX9_isBack 12 = .ok (.iaload, 1) := by decide +kernel
theorem dX9_isBack_13 : decode cX9_isBack 13 = .ok (.aload_n 0, 1) := by decide +kernel
theorem dX9_isBack_14 : decode cX9_isBack 14 = .ok (.getfield 182, 3) := by decide +kernel
theorem dX9_isBack_17 : decode cX9_isBack 17 = .ok (.if_icmp .ne 29, 3) := by decide +kernel
theorem dX9_isBack_20 : decode cX9_isBack 20 = .ok (.aload_n 0, 1) := by decide +kernel
theorem dX9_isBack_21 : decode cX9_isBack 21 = .ok (.getfield 25, 3) := by decide +kernel
theorem dX9_isBack_24 : decode cX9_isBack 24 = .ok (.iload_n 2, 1) := by decide +kernel
theorem dX9_isBack_25 : decode cX9_isBack 25 = .ok (.baload, 1) := by decide +kernel
theorem dX9_isBack_26 : decode cX9_isBack 26 = .ok (.ifCond .eq 20, 3) := by decide +kernel
theorem dX9_isBack_29 : decode cX9_isBack 29 = .ok (.aload_n 0, 1) := by decide +kernel
theorem dX9_isBack_30 : decode cX9_isBack 30 = .ok (.getfield 44, 3) := by decide +kernel
theorem dX9_isBack_33 : decode cX9_isBack 33 = .ok (.iload_n 2, 1) := by decide +kernel
theorem dX9_isBack_34 : decode cX9_isBack 34 = .ok (.iaload, 1) := by decide +kernel
theorem dX9_isBack_35 : decode cX9_isBack 35 = .ok (.aload_n 0, 1) := by decide +kernel
theorem dX9_isBack_36 : decode cX9_isBack 36 = .ok (.getfield 44, 3) := by decide +kernel
theorem dX9_isBack_39 : decode cX9_isBack 39 = .ok (.iload_n 1, 1) := by decide +kernel
theorem dX9_isBack_40 : decode cX9_isBack 40 = .ok (.iaload, 1) := by decide +kernel
theorem dX9_isBack_41 : decode cX9_isBack 41 = .ok (.if_icmp .le 5, 3) := by decide +kernel
theorem dX9_isBack_44 : decode cX9_isBack 44 = .ok (.iconst 1, 1) := by decide +kernel
theorem dX9_isBack_45 : decode cX9_isBack 45 = .ok (.ireturn, 1) := by decide +kernel
theorem dX9_isBack_46 : decode cX9_isBack 46 = .ok (.iinc 2 1, 3) := by decide +kernel
theorem dX9_isBack_49 : decode cX9_isBack 49 = .ok (.goto (-47), 3) := by decide +kernel
theorem dX9_isBack_52 : decode cX9_isBack 52 = .ok (.iconst 0, 1) := by decide +kernel
theorem dX9_isBack_53 : decode cX9_isBack 53 = .ok (.ireturn, 1) := by decide +kernel
theorem dX9_isStale_0 : decode cX9_isStale 0 = .ok (.iconst 0, 1) := by decide +kernel
theorem dX9_isStale_1 : decode cX9_isStale 1 = .ok (.istore_n 2, 1) := by decide +kernel
theorem dX9_isStale_2 : decode cX9_isStale 2 = .ok (.iload_n 2, 1) := by decide +kernel
theorem dX9_isStale_3 : decode cX9_isStale 3 = .ok (.iload_n 1, 1) := by decide +kernel
theorem dX9_isStale_4 : decode cX9_isStale 4 = .ok (.if_icmp .ge 67, 3) := by decide +kernel
theorem dX9_isStale_7 : decode cX9_isStale 7 = .ok (.aload_n 0, 1) := by decide +kernel
theorem dX9_isStale_8 : decode cX9_isStale 8 = .ok (.getfield 22, 3) := by decide +kernel
theorem dX9_isStale_11 : decode cX9_isStale 11 = .ok (.iload_n 2, 1) := by decide +kernel
theorem dX9_isStale_12 : decode cX9_isStale 12 = .ok (.iaload, 1) := by decide +kernel
theorem dX9_isStale_13 : decode cX9_isStale 13 = .ok (.aload_n 0, 1) := by decide +kernel
theorem dX9_isStale_14 : decode cX9_isStale 14 = .ok (.getfield 182, 3) := by decide +kernel
theorem dX9_isStale_17 : decode cX9_isStale 17 = .ok (.if_icmp .ne 48, 3) := by decide +kernel
theorem dX9_isStale_20 : decode cX9_isStale 20 = .ok (.aload_n 0, 1) := by decide +kernel
theorem dX9_isStale_21 : decode cX9_isStale 21 = .ok (.getfield 29, 3) := by decide +kernel
theorem dX9_isStale_24 : decode cX9_isStale 24 = .ok (.iload_n 2, 1) := by decide +kernel
theorem dX9_isStale_25 : decode cX9_isStale 25 = .ok (.baload, 1) := by decide +kernel
theorem dX9_isStale_26 : decode cX9_isStale 26 = .ok (.ifCond .eq 39, 3) := by decide +kernel
theorem dX9_isStale_29 : decode cX9_isStale 29 = .ok (.aload_n 0, 1) := by decide +kernel
theorem dX9_isStale_30 : decode cX9_isStale 30 = .ok (.getfield 35, 3) := by decide +kernel
theorem dX9_isStale_33 : decode cX9_isStale 33 = .ok (.iload_n 2, 1) := by decide +kernel
theorem dX9_isStale_34 : decode cX9_isStale 34 = .ok (.iaload, 1) := by decide +kernel
theorem dX9_isStale_35 : decode cX9_isStale 35 = .ok (.ifCond .eq 13, 3) := by decide +kernel
theorem dX9_isStale_38 : decode cX9_isStale 38 = .ok (.aload_n 0, 1) := by decide +kernel
theorem dX9_isStale_39 : decode cX9_isStale 39 = .ok (.getfield 35, 3) := by decide +kernel
theorem dX9_isStale_42 : decode cX9_isStale 42 = .ok (.iload_n 2, 1) := by decide +kernel
theorem dX9_isStale_43 : decode cX9_isStale 43 = .ok (.iaload, 1) := by decide +kernel
theorem dX9_isStale_44 : decode cX9_isStale 44 = .ok (.iconst 4, 1) := by decide +kernel
theorem dX9_isStale_45 : decode cX9_isStale 45 = .ok (.if_icmp .ne 20, 3) := by decide +kernel
theorem dX9_isStale_48 : decode cX9_isStale 48 = .ok (.aload_n 0, 1) := by decide +kernel
theorem dX9_isStale_49 : decode cX9_isStale 49 = .ok (.getfield 47, 3) := by decide +kernel
theorem dX9_isStale_52 : decode cX9_isStale 52 = .ok (.iload_n 2, 1) := by decide +kernel
theorem dX9_isStale_53 : decode cX9_isStale 53 = .ok (.iaload, 1) := by decide +kernel
theorem dX9_isStale_54 : decode cX9_isStale 54 = .ok (.aload_n 0, 1) := by decide +kernel
theorem dX9_isStale_55 : decode cX9_isStale 55 = .ok (.getfield 47, 3) := by decide +kernel
theorem dX9_isStale_58 : decode cX9_isStale 58 = .ok (.iload_n 1, 1) := by decide +kernel
theorem dX9_isStale_59 : decode cX9_isStale 59 = .ok (.iaload, 1) := by decide +kernel
theorem dX9_isStale_60 : decode cX9_isStale 60 = .ok (.if_icmp .lt 5, 3) := by decide +kernel
theorem dX9_isStale_63 : decode cX9_isStale 63 = .ok (.iconst 1, 1) := by decide +kernel
theorem dX9_isStale_64 : decode cX9_isStale 64 = .ok (.ireturn, 1) := by decide +kernel
theorem dX9_isStale_65 : decode cX9_isStale 65 = .ok (.iinc 2 1, 3) := by decide +kernel
theorem dX9_isStale_68 : decode cX9_isStale 68 = .ok (.goto (-66), 3) := by decide +kernel
theorem dX9_isStale_71 : decode cX9_isStale 71 = .ok (.iconst 0, 1) := by decide +kernel
theorem dX9_isStale_72 : decode cX9_isStale 72 = .ok (.ireturn, 1) := by decide +kernel
theorem dX9_ofOpenPause_0 : decode cX9_ofOpenPause 0 = .ok (.aload_n 0, 1) := by decide +kernel
theorem dX9_ofOpenPause_1 : decode cX9_ofOpenPause 1 = .ok (.getfield 77, 3) := by decide +kernel
theorem dX9_ofOpenPause_4 : decode cX9_ofOpenPause 4 = .ok (.iconst 1, 1) := by decide +kernel
theorem dX9_ofOpenPause_5 : decode cX9_ofOpenPause 5 = .ok (.iadd, 1) := by decide +kernel
theorem dX9_ofOpenPause_6 : decode cX9_ofOpenPause 6 = .ok (.istore_n 2, 1) := by decide +kernel
theorem dX9_ofOpenPause_7 : decode cX9_ofOpenPause 7 = .ok (.iload_n 2, 1) := by decide +kernel
theorem dX9_ofOpenPause_8 : decode cX9_ofOpenPause 8 = .ok (.aload_n 0, 1) := by decide +kernel
theorem dX9_ofOpenPause_9 : decode cX9_ofOpenPause 9 = .ok (.getfield 175, 3) := by decide +kernel
theorem dX9_ofOpenPause_12 : decode cX9_ofOpenPause 12 = .ok (.if_icmp .ge 30, 3) := by decide +kernel
theorem dX9_ofOpenPause_15 : decode cX9_ofOpenPause 15 = .ok (.aload_n 0, 1) := by decide +kernel
theorem dX9_ofOpenPause_16 : decode cX9_ofOpenPause 16 = .ok (.getfield 29, 3) := by decide +kernel
theorem dX9_ofOpenPause_19 : decode cX9_ofOpenPause 19 = .ok (.iload_n 2, 1) := by decide +kernel
theorem dX9_ofOpenPause_20 : decode cX9_ofOpenPause 20 = .ok (.baload, 1) := by decide +kernel
theorem dX9_ofOpenPause_21 : decode cX9_ofOpenPause 21 = .ok (.ifCond .eq 15, 3) := by decide +kernel
theorem dX9_ofOpenPause_24 : decode cX9_ofOpenPause 24 = .ok (.aload_n 0, 1) := by decide +kernel
theorem dX9_ofOpenPause_25 : decode cX9_ofOpenPause 25 = .ok (.getfield 35, 3) := by decide +kernel
theorem dX9_ofOpenPause_28 : decode cX9_ofOpenPause 28 = .ok (.iload_n 2, 1) := by decide +kernel
theorem dX9_ofOpenPause_29 : decode cX9_ofOpenPause 29 = .ok (.iaload, 1) := by decide +kernel
theorem dX9_ofOpenPause_30 : decode cX9_ofOpenPause 30 = .ok (.iload_n 1, 1) := by decide +kernel
theorem dX9_ofOpenPause_31 : decode cX9_ofOpenPause 31 = .ok (.if_icmp .ne 5, 3) := by decide +kernel
theorem dX9_ofOpenPause_34 : decode cX9_ofOpenPause 34 = .ok (.iload_n 2, 1) := by decide +kernel
theorem dX9_ofOpenPause_35 : decode cX9_ofOpenPause 35 = .ok (.ireturn, 1) := by decide +kernel
theorem dX9_ofOpenPause_36 : decode cX9_ofOpenPause 36 = .ok (.iinc 2 1, 3) := by decide +kernel
theorem dX9_ofOpenPause_39 : decode cX9_ofOpenPause 39 = .ok (.goto (-32), 3) := by decide +kernel
theorem dX9_ofOpenPause_42 : decode cX9_ofOpenPause 42 = .ok (.iconst (-1), 1) := by decide +kernel
theorem dX9_ofOpenPause_43 : decode cX9_ofOpenPause 43 = .ok (.ireturn, 1) := by decide +kernel
theorem dX9_slow_0 : decode cX9_slow 0 = .ok (.aload_n 0, 1) := by decide +kernel
theorem dX9_slow_1 : decode cX9_slow 1 = .ok (.getfield 53, 3) := by decide +kernel
theorem dX9_slow_4 : decode cX9_slow 4 = .ok (.iload_n 1, 1) := by decide +kernel
theorem dX9_slow_5 : decode cX9_slow 5 = .ok (.iaload, 1) := by decide +kernel
theorem dX9_slow_6 : decode cX9_slow 6 = .ok (.i2l, 1) := by decide +kernel
theorem dX9_slow_7 : decode cX9_slow 7 = .ok (.ldc2_w 185, 3) := by decide +kernel
theorem dX9_slow_10 : decode cX9_slow 10 = .ok (.aload_n 0, 1) := by decide +kernel
theorem dX9_slow_11 : decode cX9_slow 11 = .ok (.getfield 44, 3) := by decide +kernel
theorem dX9_slow_14 : decode cX9_slow 14 = .ok (.iload_n 1, 1) := by decide +kernel
theorem dX9_slow_15 : decode cX9_slow 15 = .ok (.iaload, 1) := by decide +kernel
theorem dX9_slow_16 : decode cX9_slow 16 = .ok (.aload_n 0, 1) := by decide +kernel
theorem dX9_slow_17 : decode cX9_slow 17 = .ok (.getfield 44, 3) := by decide +kernel
theorem dX9_slow_20 : decode cX9_slow 20 = .ok (.iload_n 2, 1) := by decide +kernel
theorem dX9_slow_21 : decode cX9_slow 21 = .ok (.iaload, 1) := by decide +kernel
theorem dX9_slow_22 : decode cX9_slow 22 = .ok (.isub, 1) := by decide +kernel
theorem dX9_slow_23 : decode cX9_slow 23 = .ok (.i2l, 1) := by decide +kernel
theorem dX9_slow_24 : decode cX9_slow 24 = .ok (.lmul, 1) := by decide +kernel
theorem dX9_slow_25 : decode cX9_slow 25 = .ok (.ldc2_w 187, 3) := by decide +kernel
theorem dX9_slow_28 : decode cX9_slow 28 = .ok (.ladd, 1) := by decide +kernel
theorem dX9_slow_29 : decode cX9_slow 29 = .ok (.lcmp, 1) := by decide +kernel
theorem dX9_slow_30 : decode cX9_slow 30 = .ok (.ifCond .le 7, 3) := by decide +kernel
theorem dX9_slow_33 : decode cX9_slow 33 = .ok (.iconst 1, 1) := by decide +kernel
theorem dX9_slow_34 : decode cX9_slow 34 = .ok (.goto 4, 3) := by decide +kernel
theorem dX9_slow_37 : decode cX9_slow 37 = .ok (.iconst 0, 1) := by decide +kernel
theorem dX9_slow_38 : decode cX9_slow 38 = .ok (.ireturn, 1) := by decide +kernel
set_option maxRecDepth 20000 in
theorem ggX9_isWrong_X9_ofOpenPause : GoodIn wsX9_isWrong wsX9_ofOpenPause := goodIn_r _ [11, 4, 12, 13, 1, 22, 23, 24, 25, 26, 27, 28, 29, 30, 31, 32, 33, 34, 35, 36, 37, 38, 39, 40, 41, 42, 43, 44, 45, 46, 47, 48, 49, 50, 51, 52, 53, 54, 55, 56, 57] (by decide +kernel) (by decide +kernel)
set_option maxRecDepth 20000 in
theorem gX9_isWrong_X9_ofOpenPause : GoodIn wsX9_isWrong (wsV RX9 189 RX9 yX9_ofOpenPause wsX9_ofOpenPause) := goodIn_app (goodIn_of _ (by decide +kernel)) ggX9_isWrong_X9_ofOpenPause
set_option maxRecDepth 20000 in
theorem ggX9_isWrong_X9_slow : GoodIn wsX9_isWrong wsX9_slow := goodIn_r _ [17, 18, 19, 20, 21, 22, 23, 24, 25, 26, 27, 28, 29, 30, 31, 32, 33, 34, 35, 36, 37, 38, 39, 40, 41, 42, 43, 44, 45, 46, 47, 48, 49, 50, 51, 52, 53, 54, 55, 56, 57] (by decide +kernel) (by decide +kernel)
set_option maxRecDepth 20000 in
theorem gX9_isWrong_X9_slow : GoodIn wsX9_isWrong (wsV RX9 192 RX9 yX9_slow wsX9_slow) := goodIn_app (goodIn_of _ (by decide +kernel)) ggX9_isWrong_X9_slow
theorem dX9_isWrong_0 : decode cX9_isWrong 0 = .ok (.aload_n 0, 1) := by decide +kernel
theorem dX9_isWrong_1 : decode cX9_isWrong 1 = .ok (.getfield 35, 3) := by decide +kernel
theorem dX9_isWrong_4 : decode cX9_isWrong 4 = .ok (.iload_n 1, 1) := by decide +kernel
theorem dX9_isWrong_5 : decode cX9_isWrong 5 = .ok (.iaload, 1) := by decide +kernel
theorem dX9_isWrong_6 : decode cX9_isWrong 6 = .ok (.istore_n 2, 1) := by decide +kernel
theorem dX9_isWrong_7 : decode cX9_isWrong 7 = .ok (.iload_n 2, 1) := by decide +kernel
theorem dX9_isWrong_8 : decode cX9_isWrong 8 = .ok (.iconst 2, 1) := by decide +kernel
theorem dX9_isWrong_9 : decode cX9_isWrong 9 = .ok (.if_icmp .eq 8, 3) := by decide +kernel
theorem dX9_isWrong_12 : decode cX9_isWrong 12 = .ok (.iload_n 2, 1) := by decide +kernel
theorem dX9_isWrong_13 : decode cX9_isWrong 13 = .ok (.iconst 3, 1) := by decide +kernel
theorem dX9_isWrong_14 : decode cX9_isWrong 14 = .ok (.if_icmp .ne 18, 3) := by decide +kernel
theorem dX9_isWrong_17 : decode cX9_isWrong 17 = .ok (.aload_n 0, 1) := by decide +kernel
theorem dX9_isWrong_18 : decode cX9_isWrong 18 = .ok (.iload_n 2, 1) := by decide +kernel
theorem dX9_isWrong_19 : decode cX9_isWrong 19 = .ok (.invokevirtual 189, 3) := by decide +kernel
theorem dX9_isWrong_22 : decode cX9_isWrong 22 = .ok (.iconst (-1), 1) := by decide +kernel
theorem dX9_isWrong_23 : decode cX9_isWrong 23 = .ok (.if_icmp .eq 7, 3) := by decide +kernel
theorem dX9_isWrong_26 : decode cX9_isWrong 26 = .ok (.iconst 1, 1) := by decide +kernel

theorem dX9_isWrong_27 : decode cX9_isWrong 27 = .ok (.goto 4, 3) := by decide +kernel
theorem dX9_isWrong_30 : decode cX9_isWrong 30 = .ok (.iconst 0, 1) := by decide +kernel
theorem dX9_isWrong_31 : decode cX9_isWrong 31 = .ok (.ireturn, 1) := by decide +kernel
theorem dX9_isWrong_32 : decode cX9_isWrong 32 = .ok (.iload_n 2, 1) := by decide +kernel
theorem dX9_isWrong_33 : decode cX9_isWrong 33 = .ok (.iconst 5, 1) := by decide +kernel
theorem dX9_isWrong_34 : decode cX9_isWrong 34 = .ok (.if_icmp .ne 13, 3) := by decide +kernel
theorem dX9_isWrong_37 : decode cX9_isWrong 37 = .ok (.aload_n 0, 1) := by decide +kernel
theorem dX9_isWrong_38 : decode cX9_isWrong 38 = .ok (.iload_n 1, 1) := by decide +kernel
theorem dX9_isWrong_39 : decode cX9_isWrong 39 = .ok (.aload_n 0, 1) := by decide +kernel
theorem dX9_isWrong_40 : decode cX9_isWrong 40 = .ok (.getfield 81, 3) := by decide +kernel
theorem dX9_isWrong_43 : decode cX9_isWrong 43 = .ok (.invokevirtual 192, 3) := by decide +kernel
theorem dX9_isWrong_46 : decode cX9_isWrong 46 = .ok (.ireturn, 1) := by decide +kernel
theorem dX9_isWrong_47 : decode cX9_isWrong 47 = .ok (.iload_n 2, 1) := by decide +kernel
theorem dX9_isWrong_48 : decode cX9_isWrong 48 = .ok (.iconst 1, 1) := by decide +kernel
theorem dX9_isWrong_49 : decode cX9_isWrong 49 = .ok (.if_icmp .eq 5, 3) := by decide +kernel
theorem dX9_isWrong_52 : decode cX9_isWrong 52 = .ok (.iconst 0, 1) := by decide +kernel
theorem dX9_isWrong_53 : decode cX9_isWrong 53 = .ok (.ireturn, 1) := by decide +kernel
theorem dX9_isWrong_54 : decode cX9_isWrong 54 = .ok (.aload_n 0, 1) := by decide +kernel
theorem dX9_isWrong_55 : decode cX9_isWrong 55 = .ok (.getfield 38, 3) := by decide +kernel
theorem dX9_isWrong_58 : decode cX9_isWrong 58 = .ok (.iload_n 1, 1) := by decide +kernel
theorem dX9_isWrong_59 : decode cX9_isWrong 59 = .ok (.iaload, 1) := by decide +kernel
theorem dX9_isWrong_60 : decode cX9_isWrong 60 = .ok (.aload_n 0, 1) := by decide +kernel
theorem dX9_isWrong_61 : decode cX9_isWrong 61 = .ok (.getfield 38, 3) := by decide +kernel
theorem dX9_isWrong_64 : decode cX9_isWrong 64 = .ok (.aload_n 0, 1) := by decide +kernel
theorem dX9_isWrong_65 : decode cX9_isWrong 65 = .ok (.getfield 77, 3) := by decide +kernel
theorem dX9_isWrong_68 : decode cX9_isWrong 68 = .ok (.iaload, 1) := by decide +kernel
theorem dX9_isWrong_69 : decode cX9_isWrong 69 = .ok (.if_icmp .ne 33, 3) := by decide +kernel
theorem dX9_isWrong_72 : decode cX9_isWrong 72 = .ok (.aload_n 0, 1) := by decide +kernel
theorem dX9_isWrong_73 : decode cX9_isWrong 73 = .ok (.getfield 41, 3) := by decide +kernel
theorem dX9_isWrong_76 : decode cX9_isWrong 76 = .ok (.iload_n 1, 1) := by decide +kernel
theorem dX9_isWrong_77 : decode cX9_isWrong 77 = .ok (.iaload, 1) := by decide +kernel
theorem dX9_isWrong_78 : decode cX9_isWrong 78 = .ok (.aload_n 0, 1) := by decide +kernel
theorem dX9_isWrong_79 : decode cX9_isWrong 79 = .ok (.getfield 41, 3) := by decide +kernel
theorem dX9_isWrong_82 : decode cX9_isWrong 82 = .ok (.aload_n 0, 1) := by decide +kernel
theorem dX9_isWrong_83 : decode cX9_isWrong 83 = .ok (.getfield 77, 3) := by decide +kernel
theorem dX9_isWrong_86 : decode cX9_isWrong 86 = .ok (.iaload, 1) := by decide +kernel
theorem dX9_isWrong_87 : decode cX9_isWrong 87 = .ok (.if_icmp .ne 15, 3) := by decide +kernel
theorem dX9_isWrong_90 : decode cX9_isWrong 90 = .ok (.aload_n 0, 1) := by decide +kernel
theorem dX9_isWrong_91 : decode cX9_isWrong 91 = .ok (.iload_n 1, 1) := by decide +kernel
theorem dX9_isWrong_92 : decode cX9_isWrong 92 = .ok (.aload_n 0, 1) := by decide +kernel
theorem dX9_isWrong_93 : decode cX9_isWrong 93 = .ok (.getfield 77, 3) := by decide +kernel
theorem dX9_isWrong_96 : decode cX9_isWrong 96 = .ok (.invokevirtual 192, 3) := by decide +kernel
theorem dX9_isWrong_99 : decode cX9_isWrong 99 = .ok (.ifCond .eq 5, 3) := by decide +kernel
theorem dX9_isWrong_102 : decode cX9_isWrong 102 = .ok (.iconst 1, 1) := by decide +kernel
theorem dX9_isWrong_103 : decode cX9_isWrong 103 = .ok (.ireturn, 1) := by decide +kernel
theorem dX9_isWrong_104 : decode cX9_isWrong 104 = .ok (.aload_n 0, 1) := by decide +kernel
theorem dX9_isWrong_105 : decode cX9_isWrong 105 = .ok (.iconst 2, 1) := by decide +kernel
theorem dX9_isWrong_106 : decode cX9_isWrong 106 = .ok (.invokevirtual 189, 3) := by decide +kernel
theorem dX9_isWrong_109 : decode cX9_isWrong 109 = .ok (.istore_n 3, 1) := by decide +kernel
theorem dX9_isWrong_110 : decode cX9_isWrong 110 = .ok (.aload_n 0, 1) := by decide +kernel
theorem dX9_isWrong_111 : decode cX9_isWrong 111 = .ok (.iconst 3, 1) := by decide +kernel
theorem dX9_isWrong_112 : decode cX9_isWrong 112 = .ok (.invokevirtual 189, 3) := by decide +kernel
theorem dX9_isWrong_115 : decode cX9_isWrong 115 = .ok (.istore 4, 2) := by decide +kernel
theorem dX9_isWrong_117 : decode cX9_isWrong 117 = .ok (.iconst 0, 1) := by decide +kernel
theorem dX9_isWrong_118 : decode cX9_isWrong 118 = .ok (.istore 5, 2) := by decide +kernel
theorem dX9_isWrong_120 : decode cX9_isWrong 120 = .ok (.iload 5, 2) := by decide +kernel
theorem dX9_isWrong_122 : decode cX9_isWrong 122 = .ok (.iconst 2, 1) := by decide +kernel
theorem dX9_isWrong_123 : decode cX9_isWrong 123 = .ok (.if_icmp .ge 96, 3) := by decide +kernel
theorem dX9_isWrong_126 : decode cX9_isWrong 126 = .ok (.iload_n 3, 1) := by decide +kernel
theorem dX9_isWrong_127 : decode cX9_isWrong 127 = .ok (.iconst (-1), 1) := by decide +kernel
theorem dX9_isWrong_128 : decode cX9_isWrong 128 = .ok (.if_icmp .ne 7, 3) := by decide +kernel
theorem dX9_isWrong_131 : decode cX9_isWrong 131 = .ok (.iconst 0, 1) := by decide +kernel
theorem dX9_isWrong_132 : decode cX9_isWrong 132 = .ok (.goto 14, 3) := by decide +kernel
theorem dX9_isWrong_135 : decode cX9_isWrong 135 = .ok (.aload_n 0, 1) := by decide +kernel
theorem dX9_isWrong_136 : decode cX9_isWrong 136 = .ok (.getfield 50, 3) := by decide +kernel
theorem dX9_isWrong_139 : decode cX9_isWrong 139 = .ok (.iconst 3, 1) := by decide +kernel
theorem dX9_isWrong_140 : decode cX9_isWrong 140 = .ok (.iload_n 3, 1) := by decide +kernel
theorem dX9_isWrong_141 : decode cX9_isWrong 141 = .ok (.imul, 1) := by decide +kernel
theorem dX9_isWrong_142 : decode cX9_isWrong 142 = .ok (.iload 5, 2) := by decide +kernel
theorem dX9_isWrong_144 : decode cX9_isWrong 144 = .ok (.iadd, 1) := by decide +kernel
theorem dX9_isWrong_145 : decode cX9_isWrong 145 = .ok (.iaload, 1) := by decide +kernel
theorem dX9_isWrong_146 : decode cX9_isWrong 146 = .ok (.iload 4, 2) := by decide +kernel
theorem dX9_isWrong_148 : decode cX9_isWrong 148 = .ok (.iconst (-1), 1) := by decide +kernel
theorem dX9_isWrong_149 : decode cX9_isWrong 149 = .ok (.if_icmp .ne 7, 3) := by decide +kernel
theorem dX9_isWrong_152 : decode cX9_isWrong 152 = .ok (.iconst 0, 1) := by decide +kernel
theorem dX9_isWrong_153 : decode cX9_isWrong 153 = .ok (.goto 15, 3) := by decide +kernel
theorem dX9_isWrong_156 : decode cX9_isWrong 156 = .ok (.aload_n 0, 1) := by decide +kernel
theorem dX9_isWrong_157 : decode cX9_isWrong 157 = .ok (.getfield 50, 3) := by decide +kernel
theorem dX9_isWrong_160 : decode cX9_isWrong 160 = .ok (.iconst 3, 1) := by decide +kernel
theorem dX9_isWrong_161 : decode cX9_isWrong 161 = .ok (.iload 4, 2) := by decide +kernel
theorem dX9_isWrong_163 : decode cX9_isWrong 163 = .ok (.imul, 1) := by decide +kernel
theorem dX9_isWrong_164 : decode cX9_isWrong 164 = .ok (.iload 5, 2) := by decide +kernel
theorem dX9_isWrong_166 : decode cX9_isWrong 166 = .ok (.iadd, 1) := by decide +kernel
theorem dX9_isWrong_167 : decode cX9_isWrong 167 = .ok (.iaload, 1) := by decide +kernel
theorem dX9_isWrong_168 : decode cX9_isWrong 168 = .ok (.iadd, 1) := by decide +kernel
theorem dX9_isWrong_169 : decode cX9_isWrong 169 = .ok (.istore 6, 2) := by decide +kernel
theorem dX9_isWrong_171 : decode cX9_isWrong 171 = .ok (.aload_n 0, 1) := by decide +kernel
theorem dX9_isWrong_172 : decode cX9_isWrong 172 = .ok (.getfield 50, 3) := by decide +kernel
theorem dX9_isWrong_175 : decode cX9_isWrong 175 = .ok (.iconst 3, 1) := by decide +kernel
theorem dX9_isWrong_176 : decode cX9_isWrong 176 = .ok (.iload_n 1, 1) := by decide +kernel
theorem dX9_isWrong_177 : decode cX9_isWrong 177 = .ok (.imul, 1) := by decide +kernel
theorem dX9_isWrong_178 : decode cX9_isWrong 178 = .ok (.iload 5, 2) := by decide +kernel
theorem dX9_isWrong_180 : decode cX9_isWrong 180 = .ok (.iadd, 1) := by decide +kernel
theorem dX9_isWrong_181 : decode cX9_isWrong 181 = .ok (.iaload, 1) := by decide +kernel
theorem dX9_isWrong_182 : decode cX9_isWrong 182 = .ok (.aload_n 0, 1) := by decide +kernel
theorem dX9_isWrong_183 : decode cX9_isWrong 183 = .ok (.getfield 50, 3) := by decide +kernel
theorem dX9_isWrong_186 : decode cX9_isWrong 186 = .ok (.iconst 3, 1) := by decide +kernel
theorem dX9_isWrong_187 : decode cX9_isWrong 187 = .ok (.iload_n 1, 1) := by decide +kernel
theorem dX9_isWrong_188 : decode cX9_isWrong 188 = .ok (.imul, 1) := by decide +kernel
theorem dX9_isWrong_189 : decode cX9_isWrong 189 = .ok (.iconst 2, 1) := by decide +kernel
theorem dX9_isWrong_190 : decode cX9_isWrong 190 = .ok (.iadd, 1) := by decide +kernel
theorem dX9_isWrong_191 : decode cX9_isWrong 191 = .ok (.iaload, 1) := by decide +kernel
theorem dX9_isWrong_192 : decode cX9_isWrong 192 = .ok (.if_icmp .gt 19, 3) := by decide +kernel
theorem dX9_isWrong_195 : decode cX9_isWrong 195 = .ok (.aload_n 0, 1) := by decide +kernel
theorem dX9_isWrong_196 : decode cX9_isWrong 196 = .ok (.getfield 50, 3) := by decide +kernel
theorem dX9_isWrong_199 : decode cX9_isWrong 199 = .ok (.iconst 3, 1) := by decide +kernel
theorem dX9_isWrong_200 : decode cX9_isWrong 200 = .ok (.iload_n 1, 1) := by decide +kernel
theorem dX9_isWrong_201 : decode cX9_isWrong 201 = .ok (.imul, 1) := by decide +kernel
theorem dX9_isWrong_202 : decode cX9_isWrong 202 = .ok (.iload 5, 2) := by decide +kernel
theorem dX9_isWrong_204 : decode cX9_isWrong 204 = .ok (.iadd, 1) := by decide +kernel
theorem dX9_isWrong_205 : decode cX9_isWrong 205 = .ok (.iaload, 1) := by decide +kernel
theorem dX9_isWrong_206 : decode cX9_isWrong 206 = .ok (.iload 6, 2) := by decide +kernel
theorem dX9_isWrong_208 : decode cX9_isWrong 208 = .ok (.if_icmp .ge 5, 3) := by decide +kernel
theorem dX9_isWrong_211 : decode cX9_isWrong 211 = .ok (.iconst 1, 1) := by decide +kernel
theorem dX9_isWrong_212 : decode cX9_isWrong 212 = .ok (.ireturn, 1) := by decide +kernel
theorem dX9_isWrong_213 : decode cX9_isWrong 213 = .ok (.iinc 5 1, 3) := by decide +kernel
theorem dX9_isWrong_216 : decode cX9_isWrong 216 = .ok (.goto (-96), 3) := by decide +kernel
theorem dX9_isWrong_219 : decode cX9_isWrong 219 = .ok (.iconst 0, 1) := by decide +kernel
theorem dX9_isWrong_220 : decode cX9_isWrong 220 = .ok (.ireturn, 1) := by decide +kernel
set_option maxRecDepth 20000 in
theorem ggX9_wrongWith_X9_isBack : GoodIn wsX9_wrongWith wsX9_isBack := goodIn_r _ [10, 11, 12, 13, 14, 39, 40, 41, 42, 43, 44, 45, 46, 47, 48, 49, 50, 51, 52, 53, 54, 55, 56, 57, 58, 59, 60, 61, 62, 63, 64, 65, 66, 67, 68, 69, 70, 71, 72, 73, 74] (by decide +kernel) (by decide +kernel)
set_option maxRecDepth 20000 in
theorem gX9_wrongWith_X9_isBack : GoodIn wsX9_wrongWith (wsV RX9 196 RX9 yX9_isBack wsX9_isBack) := goodIn_app (goodIn_of _ (by decide +kernel)) ggX9_wrongWith_X9_isBack
set_option maxRecDepth 20000 in
theorem ggX9_wrongWith_X9_isStale : GoodIn wsX9_wrongWith wsX9_isStale := goodIn_r _ [18, 11, 12, 19, 1, 4, 39, 40, 41, 42, 43, 44, 45, 46, 47, 48, 49, 50, 51, 52, 53, 54, 55, 56, 57, 58, 59, 60, 61, 62, 63, 64, 65, 66, 67, 68, 69, 70, 71, 72, 73, 74] (by decide +kernel) (by decide +kernel)
set_option maxRecDepth 20000 in
theorem gX9_wrongWith_X9_isStale : GoodIn wsX9_wrongWith (wsV RX9 199 RX9 yX9_isStale wsX9_isStale) := goodIn_app (goodIn_of _ (by decide +kernel)) ggX9_wrongWith_X9_isStale
set_option maxRecDepth 20000 in
theorem ggX9_wrongWith_X9_isWrong : GoodIn wsX9_wrongWith wsX9_isWrong := goodIn_r _ [23, 1, 3, 24, 2, 25, 26, 27, 28, 29, 9, 30, 31, 19, 32, 33, 34, 35, 36, 37, 14, 38, 39, 40, 41, 42, 43, 44, 45, 46, 47, 48, 49, 50, 51, 52, 53, 54, 55, 56, 57, 58, 59, 60, 61, 62, 63, 64, 65, 66, 67, 68, 69, 70, 71, 72, 73, 74] (by decide +kernel) (by decide +kernel)
set_option maxRecDepth 20000 in
theorem gX9_wrongWith_X9_isWrong : GoodIn wsX9_wrongWith (wsV RX9 202 RX9 yX9_isWrong wsX9_isWrong) := goodIn_app (goodIn_of _ (by decide +kernel)) ggX9_wrongWith_X9_isWrong
theorem dX9_wrongWith_0 : decode cX9_wrongWith 0 = .ok (.aload_n 0, 1) := by decide +kernel
theorem dX9_wrongWith_1 : decode cX9_wrongWith 1 = .ok (.getfield 35, 3) := by decide +kernel
theorem dX9_wrongWith_4 : decode cX9_wrongWith 4 = .ok (.iload_n 1, 1) := by decide +kernel
theorem dX9_wrongWith_5 : decode cX9_wrongWith 5 = .ok (.iaload, 1) := by decide +kernel
theorem dX9_wrongWith_6 : decode cX9_wrongWith 6 = .ok (.istore_n 2, 1) := by decide +kernel
theorem dX9_wrongWith_7 : decode cX9_wrongWith 7 = .ok (.iload_n 2, 1) := by decide +kernel
theorem dX9_wrongWith_8 : decode cX9_wrongWith 8 = .ok (.ifCond .eq 8, 3) := by decide +kernel
theorem dX9_wrongWith_11 : decode cX9_wrongWith 11 = .ok (.iload_n 2, 1) := by decide +kernel
theorem dX9_wrongWith_12 : decode cX9_wrongWith 12 = .ok (.iconst 4, 1) := by decide +kernel
theorem dX9_wrongWith_13 : decode cX9_wrongWith 13 = .ok (.if_icmp .ne 7, 3) := by decide +kernel
theorem dX9_wrongWith_16 : decode cX9_wrongWith 16 = .ok (.iconst 1, 1) := by decide +kernel
theorem dX9_wrongWith_17 : decode cX9_wrongWith 17 = .ok (.goto 4, 3) := by decide +kernel
theorem dX9_wrongWith_20 : decode cX9_wrongWith 20 = .ok (.iconst 0, 1) := by decide +kernel
theorem dX9_wrongWith_21 : decode cX9_wrongWith 21 = .ok (.istore_n 3, 1) := by decide +kernel
theorem dX9_wrongWith_22 : decode cX9_wrongWith 22 = .ok (.iload_n 2, 1) := by decide +kernel
theorem dX9_wrongWith_23 : decode cX9_wrongWith 23 = .ok (.iconst 1, 1) := by decide +kernel
theorem dX9_wrongWith_24 : decode cX9_wrongWith 24 = .ok (.if_icmp .eq 14, 3) := by decide +kernel
theorem dX9_wrongWith_27 : decode cX9_wrongWith 27 = .ok (.iload_n 2, 1) := by decide +kernel
theorem dX9_wrongWith_28 : decode cX9_wrongWith 28 = .ok (.iconst 5, 1) := by decide +kernel
theorem dX9_wrongWith_29 : decode cX9_wrongWith 29 = .ok (.if_icmp .eq 9, 3) := by decide +kernel
theorem dX9_wrongWith_32 : decode cX9_wrongWith 32 = .ok (.iload_n 2, 1) := by decide +kernel
theorem dX9_wrongWith_33 : decode cX9_wrongWith 33 = .ok (.bipush 6, 2) := by decide +kernel
theorem dX9_wrongWith_35 : decode cX9_wrongWith 35 = .ok (.if_icmp .ne 7, 3) := by decide +kernel
theorem dX9_wrongWith_38 : decode cX9_wrongWith 38 = .ok (.iconst 1, 1) := by decide +kernel
theorem dX9_wrongWith_39 : decode cX9_wrongWith 39 = .ok (.goto 4, 3) := by decide +kernel
theorem dX9_wrongWith_42 : decode cX9_wrongWith 42 = .ok (.iconst 0, 1) := by decide +kernel
theorem dX9_wrongWith_43 : decode cX9_wrongWith 43 = .ok (.istore 4, 2) := by decide +kernel
theorem dX9_wrongWith_45 : decode cX9_wrongWith 45 = .ok (.iload_n 2, 1) := by decide +kernel
theorem dX9_wrongWith_46 : decode cX9_wrongWith 46 = .ok (.iconst 3, 1) := by decide +kernel
theorem dX9_wrongWith_47 : decode cX9_wrongWith 47 = .ok (.if_icmp .gt 10, 3) := by decide +kernel
theorem dX9_wrongWith_50 : decode cX9_wrongWith 50 = .ok (.aload_n 0, 1) := by decide +kernel
theorem dX9_wrongWith_51 : decode cX9_wrongWith 51 = .ok (.getfield 77, 3) := by decide +kernel
theorem dX9_wrongWith_54 : decode cX9_wrongWith 54 = .ok (.goto 7, 3) := by decide +kernel
theorem dX9_wrongWith_57 : decode cX9_wrongWith 57 = .ok (.aload_n 0, 1) := by decide +kernel
theorem dX9_wrongWith_58 : decode cX9_wrongWith 58 = .ok (.getfield 81, 3) := by decide +kernel
theorem dX9_wrongWith_61 : decode cX9_wrongWith 61 = .ok (.istore 5, 2) := by decide +kernel
theorem dX9_wrongWith_63 : decode cX9_wrongWith 63 = .ok (.aload_n 0, 1) := by decide +kernel
theorem dX9_wrongWith_64 : decode cX9_wrongWith 64 = .ok (.iload_n 1, 1) := by decide +kernel
theorem dX9_wrongWith_65 : decode cX9_wrongWith 65 = .ok (.invokevirtual 196, 3) := by decide +kernel
theorem dX9_wrongWith_68 : decode cX9_wrongWith 68 = .ok (.ifCond .eq 5, 3) := by decide +kernel
theorem dX9_wrongWith_71 : decode cX9_wrongWith 71 = .ok (.iconst 2, 1) := by decide +kernel
theorem dX9_wrongWith_72 : decode cX9_wrongWith 72 = .ok (.ireturn, 1) := by decide +kernel
theorem dX9_wrongWith_73 : decode cX9_wrongWith 73 = .ok (.iload_n 3, 1) := by decide +kernel
theorem dX9_wrongWith_74 : decode cX9_wrongWith 74 = .ok (.ifCond .eq 13, 3) := by decide +kernel
theorem dX9_wrongWith_77 : decode cX9_wrongWith 77 = .ok (.aload_n 0, 1) := by decide +kernel
theorem dX9_wrongWith_78 : decode cX9_wrongWith 78 = .ok (.iload_n 1, 1) := by decide +kernel
theorem dX9_wrongWith_79 : decode cX9_wrongWith 79 = .ok (.invokevirtual 199, 3) := by decide +kernel
theorem dX9_wrongWith_82 : decode cX9_wrongWith 82 = .ok (.ifCond .eq 5, 3) := by decide +kernel
theorem dX9_wrongWith_85 : decode cX9_wrongWith 85 = .ok (.iconst 3, 1) := by decide +kernel
theorem dX9_wrongWith_86 : decode cX9_wrongWith 86 = .ok (.ireturn, 1) := by decide +kernel
theorem dX9_wrongWith_87 : decode cX9_wrongWith 87 = .ok (.iload_n 3, 1) := by decide +kernel
theorem dX9_wrongWith_88 : decode cX9_wrongWith 88 = .ok (.ifCond .eq 11, 3) := by decide +kernel
theorem dX9_wrongWith_91 : decode cX9_wrongWith 91 = .ok (.iload 5, 2) := by decide +kernel
theorem dX9_wrongWith_93 : decode cX9_wrongWith 93 = .ok (.iconst (-1), 1) := by decide +kernel
theorem dX9_wrongWith_94 : decode cX9_wrongWith 94 = .ok (.if_icmp .eq 5, 3) := by decide +kernel
theorem dX9_wrongWith_97 : decode cX9_wrongWith 97 = .ok (.iconst 4, 1) := by decide +kernel
theorem dX9_wrongWith_98 : decode cX9_wrongWith 98 = .ok (.ireturn, 1) := by decide +kernel
theorem dX9_wrongWith_99 : decode cX9_wrongWith 99 = .ok (.iload_n 3, 1) := by decide +kernel
theorem dX9_wrongWith_100 : decode cX9_wrongWith 100 = .ok (.ifCond .ne 27, 3) := by decide +kernel
theorem dX9_wrongWith_103 : decode cX9_wrongWith 103 = .ok (.iload 5, 2) := by decide +kernel
theorem dX9_wrongWith_105 : decode cX9_wrongWith 105 = .ok (.iconst (-1), 1) := by decide +kernel
theorem dX9_wrongWith_106 : decode cX9_wrongWith 106 = .ok (.if_icmp .eq 19, 3) := by decide +kernel
theorem dX9_wrongWith_109 : decode cX9_wrongWith 109 = .ok (.aload_n 0, 1) := by decide +kernel
theorem dX9_wrongWith_110 : decode cX9_wrongWith 110 = .ok (.getfield 47, 3) := by decide +kernel
theorem dX9_wrongWith_113 : decode cX9_wrongWith 113 = .ok (.iload 5, 2) := by decide +kernel
theorem dX9_wrongWith_115 : decode cX9_wrongWith 115 = .ok (.iaload, 1) := by decide +kernel
theorem dX9_wrongWith_116 : decode cX9_wrongWith 116 = .ok (.aload_n 0, 1) := by decide +kernel
theorem dX9_wrongWith_117 : decode cX9_wrongWith 117 = .ok (.getfield 47, 3) := by decide +kernel
theorem dX9_wrongWith_120 : decode cX9_wrongWith 120 = .ok (.iload_n 1, 1) := by decide +kernel
theorem dX9_wrongWith_121 : decode cX9_wrongWith 121 = .ok (.iaload, 1) := by decide +kernel
theorem dX9_wrongWith_122 : decode cX9_wrongWith 122 = .ok (.if_icmp .eq 5, 3) := by decide +kernel
theorem dX9_wrongWith_125 : decode cX9_wrongWith 125 = .ok (.iconst 5, 1) := by decide +kernel
theorem dX9_wrongWith_126 : decode cX9_wrongWith 126 = .ok (.ireturn, 1) := by decide +kernel
theorem dX9_wrongWith_127 : decode cX9_wrongWith 127 = .ok (.aload_n 0, 1) := by decide +kernel
theorem dX9_wrongWith_128 : decode cX9_wrongWith 128 = .ok (.iload_n 1, 1) := by decide +kernel
theorem dX9_wrongWith_129 : decode cX9_wrongWith 129 = .ok (.invokevirtual 202, 3) := by decide +kernel
theorem dX9_wrongWith_132 : decode cX9_wrongWith 132 = .ok (.ifCond .eq 6, 3) := by decide +kernel
theorem dX9_wrongWith_135 : decode cX9_wrongWith 135 = .ok (.bipush 6, 2) := by decide +kernel
theorem dX9_wrongWith_137 : decode cX9_wrongWith 137 = .ok (.ireturn, 1) := by decide +kernel
theorem dX9_wrongWith_138 : decode cX9_wrongWith 138 = .ok (.iload 4, 2) := by decide +kernel
theorem dX9_wrongWith_140 : decode cX9_wrongWith 140 = .ok (.ifCond .eq 17, 3) := by decide +kernel
theorem dX9_wrongWith_143 : decode cX9_wrongWith 143 = .ok (.aload_n 0, 1) := by decide +kernel
theorem dX9_wrongWith_144 : decode cX9_wrongWith 144 = .ok (.getfield 205, 3) := by decide +kernel
theorem dX9_wrongWith_147 : decode cX9_wrongWith 147 = .ok (.bipush 40, 2) := by decide +kernel
theorem dX9_wrongWith_149 : decode cX9_wrongWith 149 = .ok (.if_icmp .ne 8, 3) := by decide +kernel
theorem dX9_wrongWith_152 : decode cX9_wrongWith 152 = .ok (.bipush 7, 2) := by decide +kernel
theorem dX9_wrongWith_154 : decode cX9_wrongWith 154 = .ok (.goto 4, 3) := by decide +kernel
theorem dX9_wrongWith_157 : decode cX9_wrongWith 157 = .ok (.iconst 0, 1) := by decide +kernel
theorem dX9_wrongWith_158 : decode cX9_wrongWith 158 = .ok (.ireturn, 1) := by decide +kernel
theorem dX9_diagnose_0 : decode cX9_diagnose 0 = .ok (.aload_n 0, 1) := by decide +kernel
theorem dX9_diagnose_1 : decode cX9_diagnose 1 = .ok (.getfield 68, 3) := by decide +kernel
theorem dX9_diagnose_4 : decode cX9_diagnose 4 = .ok (.aload_n 0, 1) := by decide +kernel
theorem dX9_diagnose_5 : decode cX9_diagnose 5 = .ok (.getfield 208, 3) := by decide +kernel
theorem dX9_diagnose_8 : decode cX9_diagnose 8 = .ok (.iload_n 1, 1) := by decide +kernel
theorem dX9_diagnose_9 : decode cX9_diagnose 9 = .ok (.iastore, 1) := by decide +kernel
theorem dX9_diagnose_10 : decode cX9_diagnose 10 = .ok (.aload_n 0, 1) := by decide +kernel
theorem dX9_diagnose_11 : decode cX9_diagnose 11 = .ok (.getfield 71, 3) := by decide +kernel
theorem dX9_diagnose_14 : decode cX9_diagnose 14 = .ok (.aload_n 0, 1) := by decide +kernel
theorem dX9_diagnose_15 : decode cX9_diagnose 15 = .ok (.getfield 208, 3) := by decide +kernel
theorem dX9_diagnose_18 : decode cX9_diagnose 18 = .ok (.iload_n 2, 1) := by decide +kernel
theorem dX9_diagnose_19 : decode cX9_diagnose 19 = .ok (.iastore, 1) := by decide +kernel
theorem dX9_diagnose_20 : decode cX9_diagnose 20 = .ok (.aload_n 0, 1) := by decide +kernel
theorem dX9_diagnose_21 : decode cX9_diagnose 21 = .ok (.getfield 74, 3) := by decide +kernel
theorem dX9_diagnose_24 : decode cX9_diagnose 24 = .ok (.aload_n 0, 1) := by decide +kernel
theorem dX9_diagnose_25 : decode cX9_diagnose 25 = .ok (.getfield 208, 3) := by decide +kernel
theorem dX9_diagnose_28 : decode cX9_diagnose 28 = .ok (.iload_n 3, 1) := by decide +kernel
theorem dX9_diagnose_29 : decode cX9_diagnose 29 = .ok (.iastore, 1) := by decide +kernel
theorem dX9_diagnose_30 : decode cX9_diagnose 30 = .ok (.aload_n 0, 1) := by decide +kernel
theorem dX9_diagnose_31 : decode cX9_diagnose 31 = .ok (.dup, 1) := by decide +kernel
theorem dX9_diagnose_32 : decode cX9_diagnose 32 = .ok (.getfield 208, 3) := by decide +kernel
theorem dX9_diagnose_35 : decode cX9_diagnose 35 = .ok (.iconst 1, 1) := by decide +kernel
theorem dX9_diagnose_36 : decode cX9_diagnose 36 = .ok (.iadd, 1) := by decide +kernel
theorem dX9_diagnose_37 : decode cX9_diagnose 37 = .ok (.putfield 208, 3) := by decide +kernel
theorem dX9_diagnose_40 : decode cX9_diagnose 40 = .ok (.aload_n 0, 1) := by decide +kernel
theorem dX9_diagnose_41 : decode cX9_diagnose 41 = .ok (.getfield 32, 3) := by decide +kernel
theorem dX9_diagnose_44 : decode cX9_diagnose 44 = .ok (.iload_n 2, 1) := by decide +kernel
theorem dX9_diagnose_45 : decode cX9_diagnose 45 = .ok (.iconst 2, 1) := by decide +kernel
theorem dX9_diagnose_46 : decode cX9_diagnose 46 = .ok (.iastore, 1) := by decide +kernel
theorem dX9_diagnose_47 : decode cX9_diagnose 47 = .ok (.return_, 1) := by decide +kernel
set_option maxRecDepth 20000 in
theorem ggX9_line_X9_read : GoodIn wsX9_line wsX9_read := goodIn_r _ [16, 17, 18, 19, 20, 15, 21, 22, 23, 24, 25, 26, 27, 28, 29, 30, 31, 32, 33, 34, 35, 36, 37, 38, 39, 40, 41, 42, 43, 44, 45, 46, 47, 48, 49, 50, 51, 52, 53, 54, 55, 56, 57, 58, 59, 60, 61, 62, 63, 64, 65, 66, 67, 68, 3, 69, 70, 71, 72, 73, 74, 75, 76, 77, 78, 79, 80, 81, 82, 83, 84, 85, 86, 9, 2, 87, 88, 89, 90, 91, 92, 93, 94, 95, 139, 140, 141, 142, 143, 144, 145, 146, 147, 148, 149, 150, 151, 152, 153, 154, 155, 156, 157, 158, 159, 160, 161, 162, 163, 164, 165, 166, 167, 168, 169, 170, 171, 172, 173, 174] (by decide +kernel) (by decide +kernel)
set_option maxRecDepth 20000 in
theorem gX9_line_X9_read : GoodIn wsX9_line (wsV RX9 211 RX9 yX9_read wsX9_read) := goodIn_app (goodIn_of _ (by decide +kernel)) ggX9_line_X9_read
set_option maxRecDepth 20000 in
theorem ggX9_line_X9_wrongWith : GoodIn wsX9_line wsX9_wrongWith := goodIn_r _ [99, 9, 10, 11, 90, 100, 101, 102, 103, 15, 104, 4, 5, 7, 89, 105, 106, 107, 108, 6, 109, 110, 111, 112, 87, 88, 91, 113, 114, 115, 116, 2, 117, 118, 119, 120, 92, 121, 122, 139, 140, 141, 142, 143, 144, 145, 146, 147, 148, 149, 150, 151, 152, 153, 154, 155, 156, 157, 158, 159, 160, 161, 162, 163, 164, 165, 166, 167, 168, 169, 170, 171, 172, 173, 174] (by decide +kernel) (by decide +kernel)
set_option maxRecDepth 20000 in
theorem gX9_line_X9_wrongWith : GoodIn wsX9_line (wsV RX9 214 RX9 yX9_wrongWith wsX9_wrongWith) := goodIn_app (goodIn_of _ (by decide +kernel)) ggX9_line_X9_wrongWith
set_option maxRecDepth 20000 in
theorem ggX9_line_X9_diagnose : GoodIn wsX9_line wsX9_diagnose := goodIn_r _ [126, 127, 128, 129, 130, 8, 139, 140, 141, 142, 143, 144, 145, 146, 147, 148, 149, 150, 151, 152, 153, 154, 155, 156, 157, 158, 159, 160, 161, 162, 163, 164, 165, 166, 167, 168, 169, 170, 171, 172, 173, 174] (by decide +kernel) (by decide +kernel)
set_option maxRecDepth 20000 in
theorem gX9_line_X9_diagnose : GoodIn wsX9_line (wsV RX9 217 RX9 yX9_diagnose wsX9_diagnose) := goodIn_app (goodIn_of _ (by decide +kernel)) ggX9_line_X9_diagnose
set_option maxRecDepth 20000 in
theorem ggX9_line_X9_makeEvent : GoodIn wsX9_line wsX9_makeEvent := goodIn_r _ [134, 9, 135, 100, 10, 11, 136, 137, 138, 8, 113, 114, 115, 15, 116, 2, 6, 139, 140, 141, 142, 143, 144, 145, 146, 147, 148, 149, 150, 151, 152, 153, 154, 155, 156, 157, 158, 159, 160, 161, 162, 163, 164, 165, 166, 167, 168, 169, 170, 171, 172, 173, 174] (by decide +kernel) (by decide +kernel)
set_option maxRecDepth 20000 in
theorem gX9_line_X9_makeEvent : GoodIn wsX9_line (wsV RX9 220 RX9 yX9_makeEvent wsX9_makeEvent) := goodIn_app (goodIn_of _ (by decide +kernel)) ggX9_line_X9_makeEvent
theorem dX9_line_0 : decode cX9_line 0 = .ok (.aload_n 0, 1) := by decide +kernel
theorem dX9_line_1 : decode cX9_line 1 = .ok (.iconst 0, 1) := by decide +kernel
theorem dX9_line_2 : decode cX9_line 2 = .ok (.putfield 84, 3) := by decide +kernel
theorem dX9_line_5 : decode cX9_line 5 = .ok (.aload_n 0, 1) := by decide +kernel
theorem dX9_line_6 : decode cX9_line 6 = .ok (.getfield 175, 3) := by decide +kernel
theorem dX9_line_9 : decode cX9_line 9 = .ok (.istore_n 1, 1) := by decide +kernel
theorem dX9_line_10 : decode cX9_line 10 = .ok (.aload_n 0, 1) := by decide +kernel
theorem dX9_line_11 : decode cX9_line 11 = .ok (.invokevirtual 211, 3) := by decide +kernel
theorem dX9_line_14 : decode cX9_line 14 = .ok (.istore_n 2, 1) := by decide +kernel
theorem dX9_line_15 : decode cX9_line 15 = .ok (.aload_n 0, 1) := by decide +kernel
theorem dX9_line_16 : decode cX9_line 16 = .ok (.iconst 0, 1) := by decide +kernel
theorem dX9_line_17 : decode cX9_line 17 = .ok (.putfield 143, 3) := by decide +kernel
theorem dX9_line_20 : decode cX9_line 20 = .ok (.aload_n 0, 1) := by decide +kernel
theorem dX9_line_21 : decode cX9_line 21 = .ok (.getfield 22, 3) := by decide +kernel
theorem dX9_line_24 : decode cX9_line 24 = .ok (.iload_n 1, 1) := by decide +kernel
theorem dX9_line_25 : decode cX9_line 25 = .ok (.aload_n 0, 1) := by decide +kernel
theorem dX9_line_26 : decode cX9_line 26 = .ok (.getfield 182, 3) := by decide +kernel
theorem dX9_line_29 : decode cX9_line 29 = .ok (.iastore, 1) := by decide +kernel
theorem dX9_line_30 : decode cX9_line 30 = .ok (.aload_n 0, 1) := by decide +kernel
theorem dX9_line_31 : decode cX9_line 31 = .ok (.getfield 29, 3) := by decide +kernel
theorem dX9_line_34 : decode cX9_line 34 = .ok (.iload_n 1, 1) := by decide +kernel
theorem dX9_line_35 : decode cX9_line 35 = .ok (.iconst 0, 1) := by decide +kernel
theorem dX9_line_36 : decode cX9_line 36 = .ok (.bastore, 1) := by decide +kernel
theorem dX9_line_37 : decode cX9_line 37 = .ok (.iload_n 2, 1) := by decide +kernel
theorem dX9_line_38 : decode cX9_line 38 = .ok (.iconst (-1), 1) := by decide +kernel
theorem dX9_line_39 : decode cX9_line 39 = .ok (.if_icmp .ne 11, 3) := by decide +kernel
theorem dX9_line_42 : decode cX9_line 42 = .ok (.aload_n 0, 1) := by decide +kernel
theorem dX9_line_43 : decode cX9_line 43 = .ok (.iload_n 1, 1) := by decide +kernel
theorem dX9_line_44 : decode cX9_line 44 = .ok (.invokevirtual 214, 3) := by decide +kernel
theorem dX9_line_47 : decode cX9_line 47 = .ok (.goto 4, 3) := by decide +kernel
theorem dX9_line_50 : decode cX9_line 50 = .ok (.iconst 1, 1) := by decide +kernel
theorem dX9_line_51 : decode cX9_line 51 = .ok (.istore_n 3, 1) := by decide +kernel
theorem dX9_line_52 : decode cX9_line 52 = .ok (.aload_n 0, 1) := by decide +kernel
theorem dX9_line_53 : decode cX9_line 53 = .ok (.getfield 25, 3) := by decide +kernel
theorem dX9_line_56 : decode cX9_line 56 = .ok (.iload_n 1, 1) := by decide +kernel
theorem dX9_line_57 : decode cX9_line 57 = .ok (.iload_n 3, 1) := by decide +kernel
theorem dX9_line_58 : decode cX9_line 58 = .ok (.iconst 1, 1) := by decide +kernel
theorem dX9_line_59 : decode cX9_line 59 = .ok (.if_icmp .eq 12, 3) := by decide +kernel
theorem dX9_line_62 : decode cX9_line 62 = .ok (.iload_n 3, 1) := by decide +kernel
theorem dX9_line_63 : decode cX9_line 63 = .ok (.iconst 2, 1) := by decide +kernel
theorem dX9_line_64 : decode cX9_line 64 = .ok (.if_icmp .eq 7, 3) := by decide +kernel
theorem dX9_line_67 : decode cX9_line 67 = .ok (.iconst 1, 1) := by decide +kernel
theorem dX9_line_68 : decode cX9_line 68 = .ok (.goto 4, 3) := by decide +kernel
theorem dX9_line_71 : decode cX9_line 71 = .ok (.iconst 0, 1) := by decide +kernel
theorem dX9_line_72 : decode cX9_line 72 = .ok (.bastore, 1) := by decide +kernel
theorem dX9_line_73 : decode cX9_line 73 = .ok (.aload_n 0, 1) := by decide +kernel
theorem dX9_line_74 : decode cX9_line 74 = .ok (.getfield 29, 3) := by decide +kernel
theorem dX9_line_77 : decode cX9_line 77 = .ok (.iload_n 1, 1) := by decide +kernel
theorem dX9_line_78 : decode cX9_line 78 = .ok (.iload_n 3, 1) := by decide +kernel
theorem dX9_line_79 : decode cX9_line 79 = .ok (.ifCond .ne 7, 3) := by decide +kernel
theorem dX9_line_82 : decode cX9_line 82 = .ok (.iconst 1, 1) := by decide +kernel
theorem dX9_line_83 : decode cX9_line 83 = .ok (.goto 4, 3) := by decide +kernel
theorem dX9_line_86 : decode cX9_line 86 = .ok (.iconst 0, 1) := by decide +kernel
theorem dX9_line_87 : decode cX9_line 87 = .ok (.bastore, 1) := by decide +kernel
theorem dX9_line_88 : decode cX9_line 88 = .ok (.aload_n 0, 1) := by decide +kernel
theorem dX9_line_89 : decode cX9_line 89 = .ok (.dup, 1) := by decide +kernel
theorem dX9_line_90 : decode cX9_line 90 = .ok (.getfield 175, 3) := by decide +kernel
theorem dX9_line_93 : decode cX9_line 93 = .ok (.iconst 1, 1) := by decide +kernel
theorem dX9_line_94 : decode cX9_line 94 = .ok (.iadd, 1) := by decide +kernel
theorem dX9_line_95 : decode cX9_line 95 = .ok (.putfield 175, 3) := by decide +kernel
theorem dX9_line_98 : decode cX9_line 98 = .ok (.iload_n 3, 1) := by decide +kernel
theorem dX9_line_99 : decode cX9_line 99 = .ok (.ifCond .eq 22, 3) := by decide +kernel
theorem dX9_line_102 : decode cX9_line 102 = .ok (.aload_n 0, 1) := by decide +kernel
theorem dX9_line_103 : decode cX9_line 103 = .ok (.iload_n 3, 1) := by decide +kernel
theorem dX9_line_104 : decode cX9_line 104 = .ok (.iload_n 1, 1) := by decide +kernel
theorem dX9_line_105 : decode cX9_line 105 = .ok (.iload_n 3, 1) := by decide +kernel
theorem dX9_line_106 : decode cX9_line 106 = .ok (.iconst 1, 1) := by decide +kernel
theorem dX9_line_107 : decode cX9_line 107 = .ok (.if_icmp .ne 7, 3) := by decide +kernel
theorem dX9_line_110 : decode cX9_line 110 = .ok (.iload_n 2, 1) := by decide +kernel
theorem dX9_line_111 : decode cX9_line 111 = .ok (.goto 4, 3) := by decide +kernel
theorem dX9_line_114 : decode cX9_line 114 = .ok (.iconst 0, 1) := by decide +kernel
theorem dX9_line_115 : decode cX9_line 115 = .ok (.invokevirtual 217, 3) := by decide +kernel
theorem dX9_line_118 : decode cX9_line 118 = .ok (.iload_n 3, 1) := by decide +kernel
theorem dX9_line_119 : decode cX9_line 119 = .ok (.ineg, 1) := by decide +kernel
theorem dX9_line_120 : decode cX9_line 120 = .ok (.ireturn, 1) := by decide +kernel
theorem dX9_line_121 : decode cX9_line 121 = .ok (.aload_n 0, 1) := by decide +kernel
theorem dX9_line_122 : decode cX9_line 122 = .ok (.getfield 32, 3) := by decide +kernel
theorem dX9_line_125 : decode cX9_line 125 = .ok (.iload_n 1, 1) := by decide +kernel
theorem dX9_line_126 : decode cX9_line 126 = .ok (.iconst 0, 1) := by decide +kernel
theorem dX9_line_127 : decode cX9_line 127 = .ok (.iastore, 1) := by decide +kernel
theorem dX9_line_128 : decode cX9_line 128 = .ok (.aload_n 0, 1) := by decide +kernel
theorem dX9_line_129 : decode cX9_line 129 = .ok (.getfield 35, 3) := by decide +kernel
theorem dX9_line_132 : decode cX9_line 132 = .ok (.iload_n 1, 1) := by decide +kernel
theorem dX9_line_133 : decode cX9_line 133 = .ok (.iaload, 1) := by decide +kernel
theorem dX9_line_134 : decode cX9_line 134 = .ok (.ifCond .ne 8, 3) := by decide +kernel
theorem dX9_line_137 : decode cX9_line 137 = .ok (.aload_n 0, 1) := by decide +kernel
theorem dX9_line_138 : decode cX9_line 138 = .ok (.iload_n 1, 1) := by decide +kernel
theorem dX9_line_139 : decode cX9_line 139 = .ok (.putfield 77, 3) := by decide +kernel
theorem dX9_line_142 : decode cX9_line 142 = .ok (.aload_n 0, 1) := by decide +kernel
theorem dX9_line_143 : decode cX9_line 143 = .ok (.getfield 35, 3) := by decide +kernel
theorem dX9_line_146 : decode cX9_line 146 = .ok (.iload_n 1, 1) := by decide +kernel
theorem dX9_line_147 : decode cX9_line 147 = .ok (.iaload, 1) := by decide +kernel
theorem dX9_line_148 : decode cX9_line 148 = .ok (.iconst 4, 1) := by decide +kernel
theorem dX9_line_149 : decode cX9_line 149 = .ok (.if_icmp .ne 8, 3) := by decide +kernel
theorem dX9_line_152 : decode cX9_line 152 = .ok (.aload_n 0, 1) := by decide +kernel
theorem dX9_line_153 : decode cX9_line 153 = .ok (.iload_n 1, 1) := by decide +kernel
theorem dX9_line_154 : decode cX9_line 154 = .ok (.putfield 81, 3) := by decide +kernel
theorem dX9_line_157 : decode cX9_line 157 = .ok (.aload_n 0, 1) := by decide +kernel
theorem dX9_line_158 : decode cX9_line 158 = .ok (.getfield 35, 3) := by decide +kernel
theorem dX9_line_161 : decode cX9_line 161 = .ok (.iload_n 1, 1) := by decide +kernel
theorem dX9_line_162 : decode cX9_line 162 = .ok (.iaload, 1) := by decide +kernel
theorem dX9_line_163 : decode cX9_line 163 = .ok (.iconst 1, 1) := by decide +kernel
theorem dX9_line_164 : decode cX9_line 164 = .ok (.if_icmp .eq 26, 3) := by decide +kernel
theorem dX9_line_167 : decode cX9_line 167 = .ok (.aload_n 0, 1) := by decide +kernel
theorem dX9_line_168 : decode cX9_line 168 = .ok (.getfield 35, 3) := by decide +kernel
theorem dX9_line_171 : decode cX9_line 171 = .ok (.iload_n 1, 1) := by decide +kernel
theorem dX9_line_172 : decode cX9_line 172 = .ok (.iaload, 1) := by decide +kernel
theorem dX9_line_173 : decode cX9_line 173 = .ok (.iconst 5, 1) := by decide +kernel
theorem dX9_line_174 : decode cX9_line 174 = .ok (.if_icmp .eq 16, 3) := by decide +kernel
theorem dX9_line_177 : decode cX9_line 177 = .ok (.aload_n 0, 1) := by decide +kernel
theorem dX9_line_178 : decode cX9_line 178 = .ok (.getfield 35, 3) := by decide +kernel
theorem dX9_line_181 : decode cX9_line 181 = .ok (.iload_n 1, 1) := by decide +kernel
theorem dX9_line_182 : decode cX9_line 182 = .ok (.iaload, 1) := by decide +kernel
theorem dX9_line_183 : decode cX9_line 183 = .ok (.bipush 6, 2) := by decide +kernel
theorem dX9_line_185 : decode cX9_line 185 = .ok (.if_icmp .eq 5, 3) := by decide +kernel
theorem dX9_line_188 : decode cX9_line 188 = .ok (.iconst 0, 1) := by decide +kernel
theorem dX9_line_189 : decode cX9_line 189 = .ok (.ireturn, 1) := by decide +kernel
theorem dX9_line_190 : decode cX9_line 190 = .ok (.aload_n 0, 1) := by decide +kernel
theorem dX9_line_191 : decode cX9_line 191 = .ok (.iload_n 1, 1) := by decide +kernel
theorem dX9_line_192 : decode cX9_line 192 = .ok (.invokevirtual 220, 3) := by decide +kernel
theorem dX9_line_195 : decode cX9_line 195 = .ok (.iconst 1, 1) := by decide +kernel
theorem dX9_line_196 : decode cX9_line 196 = .ok (.ireturn, 1) := by decide +kernel
set_option maxRecDepth 20000 in
theorem ggX9_makeEvent_X9_ofOpenPause : GoodIn wsX9_makeEvent wsX9_ofOpenPause := goodIn_r _ [14, 4, 15, 16, 1, 17, 18, 19, 20, 21, 22, 23, 24, 25, 26, 27, 28, 29, 30, 31, 32, 33, 34, 35, 36, 37, 38, 39, 40, 41, 42, 43, 44, 45, 46, 47, 48, 49, 50, 51, 52] (by decide +kernel) (by decide +kernel)
set_option maxRecDepth 20000 in
theorem gX9_makeEvent_X9_ofOpenPause : GoodIn wsX9_makeEvent (wsV RX9 189 RX9 yX9_ofOpenPause wsX9_ofOpenPause) := goodIn_app (goodIn_of _ (by decide +kernel)) ggX9_makeEvent_X9_ofOpenPause
theorem dX9_makeEvent_0 : decode cX9_makeEvent 0 = .ok (.aload_n 0, 1) := by decide +kernel
theorem dX9_makeEvent_1 : decode cX9_makeEvent 1 = .ok (.getfield 35, 3) := by decide +kernel
theorem dX9_makeEvent_4 : decode cX9_makeEvent 4 = .ok (.iload_n 1, 1) := by decide +kernel
theorem dX9_makeEvent_5 : decode cX9_makeEvent 5 = .ok (.iaload, 1) := by decide +kernel
theorem dX9_makeEvent_6 : decode cX9_makeEvent 6 = .ok (.iconst 1, 1) := by decide +kernel
theorem dX9_makeEvent_7 : decode cX9_makeEvent 7 = .ok (.if_icmp .ne 7, 3) := by decide +kernel
theorem dX9_makeEvent_10 : decode cX9_makeEvent 10 = .ok (.iconst 1, 1) := by decide +kernel
theorem dX9_makeEvent_11 : decode cX9_makeEvent 11 = .ok (.goto 4, 3) := by decide +kernel
theorem dX9_makeEvent_14 : decode cX9_makeEvent 14 = .ok (.iconst 0, 1) := by decide +kernel
theorem dX9_makeEvent_15 : decode cX9_makeEvent 15 = .ok (.istore_n 2, 1) := by decide +kernel
theorem dX9_makeEvent_16 : decode cX9_makeEvent 16 = .ok (.aload_n 0, 1) := by decide +kernel
theorem dX9_makeEvent_17 : decode cX9_makeEvent 17 = .ok (.getfield 56, 3) := by decide +kernel
theorem dX9_makeEvent_20 : decode cX9_makeEvent 20 = .ok (.aload_n 0, 1) := by decide +kernel
theorem dX9_makeEvent_21 : decode cX9_makeEvent 21 = .ok (.getfield 205, 3) := by decide +kernel
theorem dX9_makeEvent_24 : decode cX9_makeEvent 24 = .ok (.iload_n 2, 1) := by decide +kernel
theorem dX9_makeEvent_25 : decode cX9_makeEvent 25 = .ok (.ifCond .eq 10, 3) := by decide +kernel
theorem dX9_makeEvent_28 : decode cX9_makeEvent 28 = .ok (.aload_n 0, 1) := by decide +kernel
theorem dX9_makeEvent_29 : decode cX9_makeEvent 29 = .ok (.getfield 77, 3) := by decide +kernel
theorem dX9_makeEvent_32 : decode cX9_makeEvent 32 = .ok (.goto 7, 3) := by decide +kernel
theorem dX9_makeEvent_35 : decode cX9_makeEvent 35 = .ok (.aload_n 0, 1) := by decide +kernel
theorem dX9_makeEvent_36 : decode cX9_makeEvent 36 = .ok (.getfield 81, 3) := by decide +kernel
theorem dX9_makeEvent_39 : decode cX9_makeEvent 39 = .ok (.iastore, 1) := by decide +kernel
theorem dX9_makeEvent_40 : decode cX9_makeEvent 40 = .ok (.aload_n 0, 1) := by decide +kernel
theorem dX9_makeEvent_41 : decode cX9_makeEvent 41 = .ok (.getfield 59, 3) := by decide +kernel
theorem dX9_makeEvent_44 : decode cX9_makeEvent 44 = .ok (.aload_n 0, 1) := by decide +kernel
theorem dX9_makeEvent_45 : decode cX9_makeEvent 45 = .ok (.getfield 205, 3) := by decide +kernel
theorem dX9_makeEvent_48 : decode cX9_makeEvent 48 = .ok (.iload_n 1, 1) := by decide +kernel
theorem dX9_makeEvent_49 : decode cX9_makeEvent 49 = .ok (.iastore, 1) := by decide +kernel
theorem dX9_makeEvent_50 : decode cX9_makeEvent 50 = .ok (.aload_n 0, 1) := by decide +kernel
theorem dX9_makeEvent_51 : decode cX9_makeEvent 51 = .ok (.getfield 62, 3) := by decide +kernel
theorem dX9_makeEvent_54 : decode cX9_makeEvent 54 = .ok (.aload_n 0, 1) := by decide +kernel
theorem dX9_makeEvent_55 : decode cX9_makeEvent 55 = .ok (.getfield 205, 3) := by decide +kernel
theorem dX9_makeEvent_58 : decode cX9_makeEvent 58 = .ok (.iload_n 2, 1) := by decide +kernel
theorem dX9_makeEvent_59 : decode cX9_makeEvent 59 = .ok (.ifCond .eq 11, 3) := by decide +kernel
theorem dX9_makeEvent_62 : decode cX9_makeEvent 62 = .ok (.aload_n 0, 1) := by decide +kernel
theorem dX9_makeEvent_63 : decode cX9_makeEvent 63 = .ok (.iconst 2, 1) := by decide +kernel
theorem dX9_makeEvent_64 : decode cX9_makeEvent 64 = .ok (.invokevirtual 189, 3) := by decide +kernel
theorem dX9_makeEvent_67 : decode cX9_makeEvent 67 = .ok (.goto 4, 3) := by decide +kernel
theorem dX9_makeEvent_70 : decode cX9_makeEvent 70 = .ok (.iconst (-1), 1) := by decide +kernel
theorem dX9_makeEvent_71 : decode cX9_makeEvent 71 = .ok (.iastore, 1) := by decide +kernel
theorem dX9_makeEvent_72 : decode cX9_makeEvent 72 = .ok (.aload_n 0, 1) := by decide +kernel
theorem dX9_makeEvent_73 : decode cX9_makeEvent 73 = .ok (.getfield 65, 3) := by decide +kernel
theorem dX9_makeEvent_76 : decode cX9_makeEvent 76 = .ok (.aload_n 0, 1) := by decide +kernel
theorem dX9_makeEvent_77 : decode cX9_makeEvent 77 = .ok (.getfield 205, 3) := by decide +kernel
theorem dX9_makeEvent_80 : decode cX9_makeEvent 80 = .ok (.iload_n 2, 1) := by decide +kernel
theorem dX9_makeEvent_81 : decode cX9_makeEvent 81 = .ok (.ifCond .eq 11, 3) := by decide +kernel
theorem dX9_makeEvent_84 : decode cX9_makeEvent 84 = .ok (.aload_n 0, 1) := by decide +kernel
theorem dX9_makeEvent_85 : decode cX9_makeEvent 85 = .ok (.iconst 3, 1) := by decide +kernel
theorem dX9_makeEvent_86 : decode cX9_makeEvent 86 = .ok (.invokevirtual 189, 3) := by decide +kernel
theorem dX9_makeEvent_89 : decode cX9_makeEvent 89 = .ok (.goto 4, 3) := by decide +kernel
theorem dX9_makeEvent_92 : decode cX9_makeEvent 92 = .ok (.iconst (-1), 1) := by decide +kernel
theorem dX9_makeEvent_93 : decode cX9_makeEvent 93 = .ok (.iastore, 1) := by decide +kernel
theorem dX9_makeEvent_94 : decode cX9_makeEvent 94 = .ok (.aload_n 0, 1) := by decide +kernel
theorem dX9_makeEvent_95 : decode cX9_makeEvent 95 = .ok (.getfield 32, 3) := by decide +kernel
theorem dX9_makeEvent_98 : decode cX9_makeEvent 98 = .ok (.aload_n 0, 1) := by decide +kernel
theorem dX9_makeEvent_99 : decode cX9_makeEvent 99 = .ok (.getfield 56, 3) := by decide +kernel
theorem dX9_makeEvent_102 : decode cX9_makeEvent 102 = .ok (.aload_n 0, 1) := by decide +kernel
theorem dX9_makeEvent_103 : decode cX9_makeEvent 103 = .ok (.getfield 205, 3) := by decide +kernel
theorem dX9_makeEvent_106 : decode cX9_makeEvent 106 = .ok (.iaload, 1) := by decide +kernel
theorem dX9_makeEvent_107 : decode cX9_makeEvent 107 = .ok (.iconst 1, 1) := by decide +kernel
theorem dX9_makeEvent_108 : decode cX9_makeEvent 108 = .ok (.iastore, 1) := by decide +kernel
theorem dX9_makeEvent_109 : decode cX9_makeEvent 109 = .ok (.aload_n 0, 1) := by decide +kernel
theorem dX9_makeEvent_110 : decode cX9_makeEvent 110 = .ok (.getfield 32, 3) := by decide +kernel
theorem dX9_makeEvent_113 : decode cX9_makeEvent 113 = .ok (.iload_n 1, 1) := by decide +kernel
theorem dX9_makeEvent_114 : decode cX9_makeEvent 114 = .ok (.iconst 1, 1) := by decide +kernel
theorem dX9_makeEvent_115 : decode cX9_makeEvent 115 = .ok (.iastore, 1) := by decide +kernel
theorem dX9_makeEvent_116 : decode cX9_makeEvent 116 = .ok (.aload_n 0, 1) := by decide +kernel
theorem dX9_makeEvent_117 : decode cX9_makeEvent 117 = .ok (.getfield 62, 3) := by decide +kernel
theorem dX9_makeEvent_120 : decode cX9_makeEvent 120 = .ok (.aload_n 0, 1) := by decide +kernel
theorem dX9_makeEvent_121 : decode cX9_makeEvent 121 = .ok (.getfield 205, 3) := by decide +kernel
theorem dX9_makeEvent_124 : decode cX9_makeEvent 124 = .ok (.iaload, 1) := by decide +kernel
theorem dX9_makeEvent_125 : decode cX9_makeEvent 125 = .ok (.iconst (-1), 1) := by decide +kernel
theorem dX9_makeEvent_126 : decode cX9_makeEvent 126 = .ok (.if_icmp .eq 18, 3) := by decide +kernel
theorem dX9_makeEvent_129 : decode cX9_makeEvent 129 = .ok (.aload_n 0, 1) := by decide +kernel
theorem dX9_makeEvent_130 : decode cX9_makeEvent 130 = .ok (.getfield 32, 3) := by decide +kernel
theorem dX9_makeEvent_133 : decode cX9_makeEvent 133 = .ok (.aload_n 0, 1) := by decide +kernel
theorem dX9_makeEvent_134 : decode cX9_makeEvent 134 = .ok (.getfield 62, 3) := by decide +kernel
theorem dX9_makeEvent_137 : decode cX9_makeEvent 137 = .ok (.aload_n 0, 1) := by decide +kernel
theorem dX9_makeEvent_138 : decode cX9_makeEvent 138 = .ok (.getfield 205, 3) := by decide +kernel
theorem dX9_makeEvent_141 : decode cX9_makeEvent 141 = .ok (.iaload, 1) := by decide +kernel
theorem dX9_makeEvent_142 : decode cX9_makeEvent 142 = .ok (.iconst 1, 1) := by decide +kernel
theorem dX9_makeEvent_143 : decode cX9_makeEvent 143 = .ok (.iastore, 1) := by decide +kernel
theorem dX9_makeEvent_144 : decode cX9_makeEvent 144 = .ok (.aload_n 0, 1) := by decide +kernel
theorem dX9_makeEvent_145 : decode cX9_makeEvent 145 = .ok (.getfield 65, 3) := by decide +kernel
theorem dX9_makeEvent_148 : decode cX9_makeEvent 148 = .ok (.aload_n 0, 1) := by decide +kernel
theorem dX9_makeEvent_149 : decode cX9_makeEvent 149 = .ok (.getfield 205, 3) := by decide +kernel
theorem dX9_makeEvent_152 : decode cX9_makeEvent 152 = .ok (.iaload, 1) := by decide +kernel
theorem dX9_makeEvent_153 : decode cX9_makeEvent 153 = .ok (.iconst (-1), 1) := by decide +kernel
theorem dX9_makeEvent_154 : decode cX9_makeEvent 154 = .ok (.if_icmp .eq 18, 3) := by decide +kernel
theorem dX9_makeEvent_157 : decode cX9_makeEvent 157 = .ok (.aload_n 0, 1) := by decide +kernel
theorem dX9_makeEvent_158 : decode cX9_makeEvent 158 = .ok (.getfield 32, 3) := by decide +kernel
theorem dX9_makeEvent_161 : decode cX9_makeEvent 161 = .ok (.aload_n 0, 1) := by decide +kernel
theorem dX9_makeEvent_162 : decode cX9_makeEvent 162 = .ok (.getfield 65, 3) := by decide +kernel
theorem dX9_makeEvent_165 : decode cX9_makeEvent 165 = .ok (.aload_n 0, 1) := by decide +kernel
theorem dX9_makeEvent_166 : decode cX9_makeEvent 166 = .ok (.getfield 205, 3) := by decide +kernel
theorem dX9_makeEvent_169 : decode cX9_makeEvent 169 = .ok (.iaload, 1) := by decide +kernel
theorem dX9_makeEvent_170 : decode cX9_makeEvent 170 = .ok (.iconst 1, 1) := by decide +kernel
theorem dX9_makeEvent_171 : decode cX9_makeEvent 171 = .ok (.iastore, 1) := by decide +kernel
theorem dX9_makeEvent_172 : decode cX9_makeEvent 172 = .ok (.aload_n 0, 1) := by decide +kernel
theorem dX9_makeEvent_173 : decode cX9_makeEvent 173 = .ok (.dup, 1) := by decide +kernel
theorem dX9_makeEvent_174 : decode cX9_makeEvent 174 = .ok (.getfield 205, 3) := by decide +kernel
theorem dX9_makeEvent_177 : decode cX9_makeEvent 177 = .ok (.iconst 1, 1) := by decide +kernel
theorem dX9_makeEvent_178 : decode cX9_makeEvent 178 = .ok (.iadd, 1) := by decide +kernel
theorem dX9_makeEvent_179 : decode cX9_makeEvent 179 = .ok (.putfield 205, 3) := by decide +kernel
theorem dX9_makeEvent_182 : decode cX9_makeEvent 182 = .ok (.iload_n 2, 1) := by decide +kernel
theorem dX9_makeEvent_183 : decode cX9_makeEvent 183 = .ok (.ifCond .eq 11, 3) := by decide +kernel
theorem dX9_makeEvent_186 : decode cX9_makeEvent 186 = .ok (.aload_n 0, 1) := by decide +kernel
theorem dX9_makeEvent_187 : decode cX9_makeEvent 187 = .ok (.iconst (-1), 1) := by decide +kernel
theorem dX9_makeEvent_188 : decode cX9_makeEvent 188 = .ok (.putfield 77, 3) := by decide +kernel
theorem dX9_makeEvent_191 : decode cX9_makeEvent 191 = .ok (.goto 8, 3) := by decide +kernel
theorem dX9_makeEvent_194 : decode cX9_makeEvent 194 = .ok (.aload_n 0, 1) := by decide +kernel
theorem dX9_makeEvent_195 : decode cX9_makeEvent 195 = .ok (.iconst (-1), 1) := by decide +kernel
theorem dX9_makeEvent_196 : decode cX9_makeEvent 196 = .ok (.putfield 81, 3) := by decide +kernel
theorem dX9_makeEvent_199 : decode cX9_makeEvent 199 = .ok (.return_, 1) := by decide +kernel
theorem dX9_owned_0 : decode cX9_owned 0 = .ok (.iconst 0, 1) := by decide +kernel
theorem dX9_owned_1 : decode cX9_owned 1 = .ok (.istore_n 2, 1) := by decide +kernel
theorem dX9_owned_2 : decode cX9_owned 2 = .ok (.iconst 0, 1) := by decide +kernel
theorem dX9_owned_3 : decode cX9_owned 3 = .ok (.istore_n 3, 1) := by decide +kernel
theorem dX9_owned_4 : decode cX9_owned 4 = .ok (.iload_n 3, 1) := by decide +kernel
theorem dX9_owned_5 : decode cX9_owned 5 = .ok (.aload_n 0, 1) := by decide +kernel
theorem dX9_owned_6 : decode cX9_owned 6 = .ok (.getfield 175, 3) := by decide +kernel
theorem dX9_owned_9 : decode cX9_owned 9 = .ok (.if_icmp .ge 22, 3) := by decide +kernel
theorem dX9_owned_12 : decode cX9_owned 12 = .ok (.aload_n 0, 1) := by decide +kernel
theorem dX9_owned_13 : decode cX9_owned 13 = .ok (.getfield 32, 3) := by decide +kernel
theorem dX9_owned_16 : decode cX9_owned 16 = .ok (.iload_n 3, 1) := by decide +kernel
theorem dX9_owned_17 : decode cX9_owned 17 = .ok (.iaload, 1) := by decide +kernel
theorem dX9_owned_18 : decode cX9_owned 18 = .ok (.iload_n 1, 1) := by decide +kernel
theorem dX9_owned_19 : decode cX9_owned 19 = .ok (.if_icmp .ne 6, 3) := by decide +kernel
theorem dX9_owned_22 : decode cX9_owned 22 = .ok (.iinc 2 1, 3) := by decide +kernel
theorem dX9_owned_25 : decode cX9_owned 25 = .ok (.iinc 3 1, 3) := by decide +kernel
theorem dX9_owned_28 : decode cX9_owned 28 = .ok (.goto (-24), 3) := by decide +kernel
theorem dX9_owned_31 : decode cX9_owned 31 = .ok (.iload_n 2, 1) := by decide +kernel
theorem dX9_owned_32 : decode cX9_owned 32 = .ok (.ireturn, 1) := by decide +kernel
set_option maxRecDepth 20000 in
theorem ggX9_finish_X9_owned : GoodIn wsX9_finish wsX9_owned := goodIn_r _ [11, 4, 5, 20, 21, 22, 23, 24, 25, 26, 27, 28, 29, 30, 31, 32, 33, 34, 35, 36, 37, 38, 39, 40, 41, 42, 43, 44, 45, 46, 47, 48, 49, 50, 51, 52, 53, 54, 55] (by decide +kernel) (by decide +kernel)
set_option maxRecDepth 20000 in
theorem gX9_finish_X9_owned : GoodIn wsX9_finish (wsV RX9 223 RX9 yX9_owned wsX9_owned) := goodIn_app (goodIn_of _ (by decide +kernel)) ggX9_finish_X9_owned
set_option maxRecDepth 20000 in
theorem ggX9_finish_X9_diagnose : GoodIn wsX9_finish wsX9_diagnose := goodIn_r _ [15, 16, 17, 18, 19, 5, 20, 21, 22, 23, 24, 25, 26, 27, 28, 29, 30, 31, 32, 33, 34, 35, 36, 37, 38, 39, 40, 41, 42, 43, 44, 45, 46, 47, 48, 49, 50, 51, 52, 53, 54, 55] (by decide +kernel) (by decide +kernel)
set_option maxRecDepth 20000 in
theorem gX9_finish_X9_diagnose : GoodIn wsX9_finish (wsV RX9 217 RX9 yX9_diagnose wsX9_diagnose) := goodIn_app (goodIn_of _ (by decide +kernel)) ggX9_finish_X9_diagnose
theorem dX9_finish_0 : decode cX9_finish 0 = .ok (.aload_n 0, 1) := by decide +kernel
theorem dX9_finish_1 : decode cX9_finish 1 = .ok (.iconst 0, 1) := by decide +kernel
theorem dX9_finish_2 : decode cX9_finish 2 = .ok (.putfield 84, 3) := by decide +kernel
theorem dX9_finish_5 : decode cX9_finish 5 = .ok (.aload_n 0, 1) := by decide +kernel
theorem dX9_finish_6 : decode cX9_finish 6 = .ok (.iconst 0, 1) := by decide +kernel
theorem dX9_finish_7 : decode cX9_finish 7 = .ok (.invokevirtual 223, 3) := by decide +kernel
theorem dX9_finish_10 : decode cX9_finish 10 = .ok (.istore_n 1, 1) := by decide +kernel
theorem dX9_finish_11 : decode cX9_finish 11 = .ok (.aload_n 0, 1) := by decide +kernel
theorem dX9_finish_12 : decode cX9_finish 12 = .ok (.getfield 77, 3) := by decide +kernel
theorem dX9_finish_15 : decode cX9_finish 15 = .ok (.iconst (-1), 1) := by decide +kernel
theorem dX9_finish_16 : decode cX9_finish 16 = .ok (.if_icmp .eq 14, 3) := by decide +kernel
theorem dX9_finish_19 : decode cX9_finish 19 = .ok (.aload_n 0, 1) := by decide +kernel
theorem dX9_finish_20 : decode cX9_finish 20 = .ok (.bipush 8, 2) := by decide +kernel
theorem dX9_finish_22 : decode cX9_finish 22 = .ok (.aload_n 0, 1) := by decide +kernel
theorem dX9_finish_23 : decode cX9_finish 23 = .ok (.getfield 77, 3) := by decide +kernel
theorem dX9_finish_26 : decode cX9_finish 26 = .ok (.iconst 0, 1) := by decide +kernel
theorem dX9_finish_27 : decode cX9_finish 27 = .ok (.invokevirtual 217, 3) := by decide +kernel
theorem dX9_finish_30 : decode cX9_finish 30 = .ok (.aload_n 0, 1) := by decide +kernel
theorem dX9_finish_31 : decode cX9_finish 31 = .ok (.getfield 81, 3) := by decide +kernel
theorem dX9_finish_34 : decode cX9_finish 34 = .ok (.iconst (-1), 1) := by decide +kernel
theorem dX9_finish_35 : decode cX9_finish 35 = .ok (.if_icmp .eq 14, 3) := by decide +kernel
theorem dX9_finish_38 : decode cX9_finish 38 = .ok (.aload_n 0, 1) := by decide +kernel
theorem dX9_finish_39 : decode cX9_finish 39 = .ok (.bipush 8, 2) := by decide +kernel
theorem dX9_finish_41 : decode cX9_finish 41 = .ok (.aload_n 0, 1) := by decide +kernel
theorem dX9_finish_42 : decode cX9_finish 42 = .ok (.getfield 81, 3) := by decide +kernel
theorem dX9_finish_45 : decode cX9_finish 45 = .ok (.iconst 0, 1) := by decide +kernel
theorem dX9_finish_46 : decode cX9_finish 46 = .ok (.invokevirtual 217, 3) := by decide +kernel
theorem dX9_finish_49 : decode cX9_finish 49 = .ok (.iconst 0, 1) := by decide +kernel
theorem dX9_finish_50 : decode cX9_finish 50 = .ok (.istore_n 2, 1) := by decide +kernel
theorem dX9_finish_51 : decode cX9_finish 51 = .ok (.iload_n 2, 1) := by decide +kernel
theorem dX9_finish_52 : decode cX9_finish 52 = .ok (.aload_n 0, 1) := by decide +kernel
theorem dX9_finish_53 : decode cX9_finish 53 = .ok (.getfield 175, 3) := by decide +kernel
theorem dX9_finish_56 : decode cX9_finish 56 = .ok (.if_icmp .ge 25, 3) := by decide +kernel
theorem dX9_finish_59 : decode cX9_finish 59 = .ok (.aload_n 0, 1) := by decide +kernel
theorem dX9_finish_60 : decode cX9_finish 60 = .ok (.getfield 32, 3) := by decide +kernel
theorem dX9_finish_63 : decode cX9_finish 63 = .ok (.iload_n 2, 1) := by decide +kernel
theorem dX9_finish_64 : decode cX9_finish 64 = .ok (.iaload, 1) := by decide +kernel
theorem dX9_finish_65 : decode cX9_finish 65 = .ok (.ifCond .ne 10, 3) := by decide +kernel
theorem dX9_finish_68 : decode cX9_finish 68 = .ok (.aload_n 0, 1) := by decide +kernel
theorem dX9_finish_69 : decode cX9_finish 69 = .ok (.getfield 32, 3) := by decide +kernel
theorem dX9_finish_72 : decode cX9_finish 72 = .ok (.iload_n 2, 1) := by decide +kernel
theorem dX9_finish_73 : decode cX9_finish 73 = .ok (.iconst 2, 1) := by decide +kernel
theorem dX9_finish_74 : decode cX9_finish 74 = .ok (.iastore, 1) := by decide +kernel
theorem dX9_finish_75 : decode cX9_finish 75 = .ok (.iinc 2 1, 3) := by decide +kernel
theorem dX9_finish_78 : decode cX9_finish 78 = .ok (.goto (-27), 3) := by decide +kernel
theorem dX9_finish_81 : decode cX9_finish 81 = .ok (.aload_n 0, 1) := by decide +kernel
theorem dX9_finish_82 : decode cX9_finish 82 = .ok (.iconst (-1), 1) := by decide +kernel
theorem dX9_finish_83 : decode cX9_finish 83 = .ok (.putfield 77, 3) := by decide +kernel
theorem dX9_finish_86 : decode cX9_finish 86 = .ok (.aload_n 0, 1) := by decide +kernel
theorem dX9_finish_87 : decode cX9_finish 87 = .ok (.iconst (-1), 1) := by decide +kernel
theorem dX9_finish_88 : decode cX9_finish 88 = .ok (.putfield 81, 3) := by decide +kernel
theorem dX9_finish_91 : decode cX9_finish 91 = .ok (.aload_n 0, 1) := by decide +kernel
theorem dX9_finish_92 : decode cX9_finish 92 = .ok (.dup, 1) := by decide +kernel
theorem dX9_finish_93 : decode cX9_finish 93 = .ok (.getfield 182, 3) := by decide +kernel
theorem dX9_finish_96 : decode cX9_finish 96 = .ok (.iconst 1, 1) := by decide +kernel
theorem dX9_finish_97 : decode cX9_finish 97 = .ok (.iadd, 1) := by decide +kernel
theorem dX9_finish_98 : decode cX9_finish 98 = .ok (.putfield 182, 3) := by decide +kernel
theorem dX9_finish_101 : decode cX9_finish 101 = .ok (.iload_n 1, 1) := by decide +kernel
theorem dX9_finish_102 : decode cX9_finish 102 = .ok (.ireturn, 1) := by decide +kernel
theorem dX9_type_0 : decode cX9_type 0 = .ok (.aload_n 0, 1) := by decide +kernel
theorem dX9_type_1 : decode cX9_type 1 = .ok (.iconst 0, 1) := by decide +kernel
theorem dX9_type_2 : decode cX9_type 2 = .ok (.putfield 84, 3) := by decide +kernel
theorem dX9_type_5 : decode cX9_type 5 = .ok (.aload_n 0, 1) := by decide +kernel
theorem dX9_type_6 : decode cX9_type 6 = .ok (.getfield 143, 3) := by decide +kernel
theorem dX9_type_9 : decode cX9_type 9 = .ok (.bipush 72, 2) := by decide +kernel
theorem dX9_type_11 : decode cX9_type 11 = .ok (.if_icmp .eq 15, 3) := by decide +kernel
theorem dX9_type_14 : decode cX9_type 14 = .ok (.iload_n 1, 1) := by decide +kernel
theorem dX9_type_15 : decode cX9_type 15 = .ok (.bipush 32, 2) := by decide +kernel
theorem dX9_type_17 : decode cX9_type 17 = .ok (.if_icmp .lt 9, 3) := by decide +kernel
theorem dX9_type_20 : decode cX9_type 20 = .ok (.iload_n 1, 1) := by decide +kernel
theorem dX9_type_21 : decode cX9_type 21 = .ok (.bipush 126, 2) := by decide +kernel
theorem dX9_type_23 : decode cX9_type 23 = .ok (.if_icmp .le 5, 3) := by decide +kernel
theorem dX9_type_26 : decode cX9_type 26 = .ok (.iconst 0, 1) := by decide +kernel
theorem dX9_type_27 : decode cX9_type 27 = .ok (.ireturn, 1) := by decide +kernel
theorem dX9_type_28 : decode cX9_type 28 = .ok (.aload_n 0, 1) := by decide +kernel
theorem dX9_type_29 : decode cX9_type 29 = .ok (.getfield 7, 3) := by decide +kernel
theorem dX9_type_32 : decode cX9_type 32 = .ok (.aload_n 0, 1) := by decide +kernel
theorem dX9_type_33 : decode cX9_type 33 = .ok (.getfield 143, 3) := by decide +kernel
theorem dX9_type_36 : decode cX9_type 36 = .ok (.iload_n 1, 1) := by decide +kernel
theorem dX9_type_37 : decode cX9_type 37 = .ok (.iastore, 1) := by decide +kernel
theorem dX9_type_38 : decode cX9_type 38 = .ok (.aload_n 0, 1) := by decide +kernel
theorem dX9_type_39 : decode cX9_type 39 = .ok (.dup, 1) := by decide +kernel
theorem dX9_type_40 : decode cX9_type 40 = .ok (.getfield 143, 3) := by decide +kernel
theorem dX9_type_43 : decode cX9_type 43 = .ok (.iconst 1, 1) := by decide +kernel
theorem dX9_type_44 : decode cX9_type 44 = .ok (.iadd, 1) := by decide +kernel
theorem dX9_type_45 : decode cX9_type 45 = .ok (.putfield 143, 3) := by decide +kernel
theorem dX9_type_48 : decode cX9_type 48 = .ok (.iconst 1, 1) := by decide +kernel
theorem dX9_type_49 : decode cX9_type 49 = .ok (.ireturn, 1) := by decide +kernel
theorem dX9_drop_0 : decode cX9_drop 0 = .ok (.aload_n 0, 1) := by decide +kernel
theorem dX9_drop_1 : decode cX9_drop 1 = .ok (.iload_n 1, 1) := by decide +kernel
theorem dX9_drop_2 : decode cX9_drop 2 = .ok (.ifCond .ge 7, 3) := by decide +kernel
theorem dX9_drop_5 : decode cX9_drop 5 = .ok (.iconst 1, 1) := by decide +kernel
theorem dX9_drop_6 : decode cX9_drop 6 = .ok (.goto 4, 3) := by decide +kernel
theorem dX9_drop_9 : decode cX9_drop 9 = .ok (.iconst 0, 1) := by decide +kernel
theorem dX9_drop_10 : decode cX9_drop 10 = .ok (.putfield 84, 3) := by decide +kernel
theorem dX9_drop_13 : decode cX9_drop 13 = .ok (.aload_n 0, 1) := by decide +kernel
theorem dX9_drop_14 : decode cX9_drop 14 = .ok (.getfield 84, 3) := by decide +kernel
theorem dX9_drop_17 : decode cX9_drop 17 = .ok (.ifCond .eq 5, 3) := by decide +kernel
theorem dX9_drop_20 : decode cX9_drop 20 = .ok (.iconst 0, 1) := by decide +kernel
theorem dX9_drop_21 : decode cX9_drop 21 = .ok (.ireturn, 1) := by decide +kernel
theorem dX9_drop_22 : decode cX9_drop 22 = .ok (.iload_n 1, 1) := by decide +kernel
theorem dX9_drop_23 : decode cX9_drop 23 = .ok (.aload_n 0, 1) := by decide +kernel
theorem dX9_drop_24 : decode cX9_drop 24 = .ok (.getfield 143, 3) := by decide +kernel
theorem dX9_drop_27 : decode cX9_drop 27 = .ok (.if_icmp .ge 7, 3) := by decide +kernel
theorem dX9_drop_30 : decode cX9_drop 30 = .ok (.iload_n 1, 1) := by decide +kernel
theorem dX9_drop_31 : decode cX9_drop 31 = .ok (.goto 7, 3) := by decide +kernel
theorem dX9_drop_34 : decode cX9_drop 34 = .ok (.aload_n 0, 1) := by decide +kernel
theorem dX9_drop_35 : decode cX9_drop 35 = .ok (.getfield 143, 3) := by decide +kernel
theorem dX9_drop_38 : decode cX9_drop 38 = .ok (.istore_n 2, 1) := by decide +kernel
theorem dX9_drop_39 : decode cX9_drop 39 = .ok (.aload_n 0, 1) := by decide +kernel
theorem dX9_drop_40 : decode cX9_drop 40 = .ok (.dup, 1) := by decide +kernel
theorem dX9_drop_41 : decode cX9_drop 41 = .ok (.getfield 143, 3) := by decide +kernel
theorem dX9_drop_44 : decode cX9_drop 44 = .ok (.iload_n 2, 1) := by decide +kernel
theorem dX9_drop_45 : decode cX9_drop 45 = .ok (.isub, 1) := by decide +kernel
theorem dX9_drop_46 : decode cX9_drop 46 = .ok (.putfield 143, 3) := by decide +kernel
theorem dX9_drop_49 : decode cX9_drop 49 = .ok (.iload_n 2, 1) := by decide +kernel
theorem dX9_drop_50 : decode cX9_drop 50 = .ok (.ireturn, 1) := by decide +kernel
theorem dX9_give_0 : decode cX9_give 0 = .ok (.aload_n 0, 1) := by decide +kernel
theorem dX9_give_1 : decode cX9_give 1 = .ok (.getfield 19, 3) := by decide +kernel
theorem dX9_give_4 : decode cX9_give 4 = .ok (.aload_n 0, 1) := by decide +kernel
theorem dX9_give_5 : decode cX9_give 5 = .ok (.getfield 146, 3) := by decide +kernel
theorem dX9_give_8 : decode cX9_give 8 = .ok (.iload_n 1, 1) := by decide +kernel
theorem dX9_give_9 : decode cX9_give 9 = .ok (.iastore, 1) := by decide +kernel
theorem dX9_give_10 : decode cX9_give 10 = .ok (.aload_n 0, 1) := by decide +kernel
theorem dX9_give_11 : decode cX9_give 11 = .ok (.dup, 1) := by decide +kernel
theorem dX9_give_12 : decode cX9_give 12 = .ok (.getfield 146, 3) := by decide +kernel
theorem dX9_give_15 : decode cX9_give 15 = .ok (.iconst 1, 1) := by decide +kernel
theorem dX9_give_16 : decode cX9_give 16 = .ok (.iadd, 1) := by decide +kernel
theorem dX9_give_17 : decode cX9_give 17 = .ok (.putfield 146, 3) := by decide +kernel
theorem dX9_give_20 : decode cX9_give 20 = .ok (.return_, 1) := by decide +kernel
set_option maxRecDepth 20000 in
theorem ggX9_giveSize_X9_give : GoodIn wsX9_giveSize wsX9_give := goodIn_r _ [5, 6, 7, 8, 9, 10, 11, 12, 13, 14, 15, 16, 17, 18, 19, 20, 21, 22, 23, 24, 25, 26, 27, 28, 29, 30, 31, 32, 33, 34, 35, 36, 37, 38, 39, 40, 41, 42, 43] (by decide +kernel) (by decide +kernel)
set_option maxRecDepth 20000 in
theorem gX9_giveSize_X9_give : GoodIn wsX9_giveSize (wsV RX9 226 RX9 yX9_give wsX9_give) := goodIn_app (goodIn_of _ (by decide +kernel)) ggX9_giveSize_X9_give
theorem dX9_giveSize_0 : decode cX9_giveSize 0 = .ok (.iload_n 1, 1) := by decide +kernel
theorem dX9_giveSize_1 : decode cX9_giveSize 1 = .ok (.ifCond .eq 15, 3) := by decide +kernel
theorem dX9_giveSize_4 : decode cX9_giveSize 4 = .ok (.iload_n 1, 1) := by decide +kernel
theorem dX9_giveSize_5 : decode cX9_giveSize 5 = .ok (.sipush 1024, 3) := by decide +kernel
theorem dX9_giveSize_8 : decode cX9_giveSize 8 = .ok (.irem, 1) := by decide +kernel
theorem dX9_giveSize_9 : decode cX9_giveSize 9 = .ok (.ifCond .ne 7, 3) := by decide +kernel
theorem dX9_giveSize_12 : decode cX9_giveSize 12 = .ok (.iconst 1, 1) := by decide +kernel
theorem dX9_giveSize_13 : decode cX9_giveSize 13 = .ok (.goto 4, 3) := by decide +kernel
theorem dX9_giveSize_16 : decode cX9_giveSize 16 = .ok (.iconst 0, 1) := by decide +kernel
theorem dX9_giveSize_17 : decode cX9_giveSize 17 = .ok (.istore_n 2, 1) := by decide +kernel
theorem dX9_giveSize_18 : decode cX9_giveSize 18 = .ok (.aload_n 0, 1) := by decide +kernel
theorem dX9_giveSize_19 : decode cX9_giveSize 19 = .ok (.iload_n 2, 1) := by decide +kernel
theorem dX9_giveSize_20 : decode cX9_giveSize 20 = .ok (.ifCond .eq 11, 3) := by decide +kernel
theorem dX9_giveSize_23 : decode cX9_giveSize 23 = .ok (.iload_n 1, 1) := by decide +kernel
theorem dX9_giveSize_24 : decode cX9_giveSize 24 = .ok (.sipush 1024, 3) := by decide +kernel
theorem dX9_giveSize_27 : decode cX9_giveSize 27 = .ok (.idiv, 1) := by decide +kernel
theorem dX9_giveSize_28 : decode cX9_giveSize 28 = .ok (.goto 4, 3) := by decide +kernel
theorem dX9_giveSize_31 : decode cX9_giveSize 31 = .ok (.iload_n 1, 1) := by decide +kernel
theorem dX9_giveSize_32 : decode cX9_giveSize 32 = .ok (.invokevirtual 226, 3) := by decide +kernel
theorem dX9_giveSize_35 : decode cX9_giveSize 35 = .ok (.aload_n 0, 1) := by decide +kernel
theorem dX9_giveSize_36 : decode cX9_giveSize 36 = .ok (.iload_n 2, 1) := by decide +kernel
theorem dX9_giveSize_37 : decode cX9_giveSize 37 = .ok (.ifCond .eq 7, 3) := by decide +kernel
theorem dX9_giveSize_40 : decode cX9_giveSize 40 = .ok (.iconst 1, 1) := by decide +kernel
theorem dX9_giveSize_41 : decode cX9_giveSize 41 = .ok (.goto 4, 3) := by decide +kernel
theorem dX9_giveSize_44 : decode cX9_giveSize 44 = .ok (.iconst 0, 1) := by decide +kernel
theorem dX9_giveSize_45 : decode cX9_giveSize 45 = .ok (.invokevirtual 226, 3) := by decide +kernel
theorem dX9_giveSize_48 : decode cX9_giveSize 48 = .ok (.return_, 1) := by decide +kernel
set_option maxRecDepth 20000 in
theorem ggX9_giveParts_X9_give : GoodIn wsX9_giveParts wsX9_give := goodIn_r _ [5, 6, 7, 8, 9, 10, 11, 12, 13, 14, 15, 16, 17, 18, 19, 20, 21, 22, 23, 24, 25, 26, 27, 28, 29, 30, 31, 32, 33, 34, 35, 36, 37, 38, 39, 40, 41, 42, 43] (by decide +kernel) (by decide +kernel)
set_option maxRecDepth 20000 in
theorem gX9_giveParts_X9_give : GoodIn wsX9_giveParts (wsV RX9 226 RX9 yX9_give wsX9_give) := goodIn_app (goodIn_of _ (by decide +kernel)) ggX9_giveParts_X9_give
theorem dX9_giveParts_0 : decode cX9_giveParts 0 = .ok (.aload_n 0, 1) := by decide +kernel
theorem dX9_giveParts_1 : decode cX9_giveParts 1 = .ok (.iload_n 1, 1) := by decide +kernel
theorem dX9_giveParts_2 : decode cX9_giveParts 2 = .ok (.sipush 1000, 3) := by decide +kernel
theorem dX9_giveParts_5 : decode cX9_giveParts 5 = .ok (.idiv, 1) := by decide +kernel
theorem dX9_giveParts_6 : decode cX9_giveParts 6 = .ok (.invokevirtual 226, 3) := by decide +kernel
theorem dX9_giveParts_9 : decode cX9_giveParts 9 = .ok (.aload_n 0, 1) := by decide +kernel
theorem dX9_giveParts_10 : decode cX9_giveParts 10 = .ok (.iload_n 1, 1) := by decide +kernel
theorem dX9_giveParts_11 : decode cX9_giveParts 11 = .ok (.sipush 1000, 3) := by decide +kernel
theorem dX9_giveParts_14 : decode cX9_giveParts 14 = .ok (.irem, 1) := by decide +kernel
theorem dX9_giveParts_15 : decode cX9_giveParts 15 = .ok (.invokevirtual 226, 3) := by decide +kernel
theorem dX9_giveParts_18 : decode cX9_giveParts 18 = .ok (.return_, 1) := by decide +kernel
theorem dX9_put_0 : decode cX9_put 0 = .ok (.aload_n 0, 1) := by decide +kernel
theorem dX9_put_1 : decode cX9_put 1 = .ok (.getfield 16, 3) := by decide +kernel
theorem dX9_put_4 : decode cX9_put 4 = .ok (.aload_n 0, 1) := by decide +kernel
theorem dX9_put_5 : decode cX9_put 5 = .ok (.getfield 229, 3) := by decide +kernel
theorem dX9_put_8 : decode cX9_put 8 = .ok (.iload_n 1, 1) := by decide +kernel
theorem dX9_put_9 : decode cX9_put 9 = .ok (.iastore, 1) := by decide +kernel
theorem dX9_put_10 : decode cX9_put 10 = .ok (.aload_n 0, 1) := by decide +kernel
theorem dX9_put_11 : decode cX9_put 11 = .ok (.dup, 1) := by decide +kernel
theorem dX9_put_12 : decode cX9_put 12 = .ok (.getfield 229, 3) := by decide +kernel
theorem dX9_put_15 : decode cX9_put 15 = .ok (.iconst 1, 1) := by decide +kernel
theorem dX9_put_16 : decode cX9_put 16 = .ok (.iadd, 1) := by decide +kernel
theorem dX9_put_17 : decode cX9_put 17 = .ok (.putfield 229, 3) := by decide +kernel
theorem dX9_put_20 : decode cX9_put 20 = .ok (.return_, 1) := by decide +kernel
set_option maxRecDepth 20000 in
theorem ggX9_putDigits_X9_put : GoodIn wsX9_putDigits wsX9_put := goodIn_r _ [5, 6, 7, 8, 9, 10, 11, 12, 13, 14, 15, 16, 17, 18, 19, 20, 21, 22, 23, 24, 25, 26, 27, 28, 29, 30, 31, 32, 33, 34, 35, 36, 37, 38, 39, 40, 41, 42, 43] (by decide +kernel) (by decide +kernel)
set_option maxRecDepth 20000 in
theorem gX9_putDigits_X9_put : GoodIn wsX9_putDigits (wsV RX9 232 RX9 yX9_put wsX9_put) := goodIn_app (goodIn_of _ (by decide +kernel)) ggX9_putDigits_X9_put
theorem dX9_putDigits_0 : decode cX9_putDigits 0 = .ok (.iconst 1, 1) := by decide +kernel
theorem dX9_putDigits_1 : decode cX9_putDigits 1 = .ok (.istore_n 3, 1) := by decide +kernel
theorem dX9_putDigits_2 : decode cX9_putDigits 2 = .ok (.iconst 1, 1) := by decide +kernel
theorem dX9_putDigits_3 : decode cX9_putDigits 3 = .ok (.istore 4, 2) := by decide +kernel
theorem dX9_putDigits_5 : decode cX9_putDigits 5 = .ok (.iload 4, 2) := by decide +kernel
theorem dX9_putDigits_7 : decode cX9_putDigits 7 = .ok (.iload_n 2, 1) := by decide +kernel
theorem dX9_putDigits_8 : decode cX9_putDigits 8 = .ok (.if_icmp .lt 11, 3) := by decide +kernel
theorem dX9_putDigits_11 : decode cX9_putDigits 11 = .ok (.iload_n 1, 1) := by decide +kernel
theorem dX9_putDigits_12 : decode cX9_putDigits 12 = .ok (.iload_n 3, 1) := by decide +kernel
theorem dX9_putDigits_13 : decode cX9_putDigits 13 = .ok (.idiv, 1) := by decide +kernel
theorem dX9_putDigits_14 : decode cX9_putDigits 14 = .ok (.bipush 10, 2) := by decide +kernel
theorem dX9_putDigits_16 : decode cX9_putDigits 16 = .ok (.if_icmp .lt 14, 3) := by decide +kernel
theorem dX9_putDigits_19 : decode cX9_putDigits 19 = .ok (.iload_n 3, 1) := by decide +kernel
theorem dX9_putDigits_20 : decode cX9_putDigits 20 = .ok (.bipush 10, 2) := by decide +kernel
theorem dX9_putDigits_22 : decode cX9_putDigits 22 = .ok (.imul, 1) := by decide +kernel
theorem dX9_putDigits_23 : decode cX9_putDigits 23 = .ok (.istore_n 3, 1) := by decide +kernel
theorem dX9_putDigits_24 : decode cX9_putDigits 24 = .ok (.iinc 4 1, 3) := by decide +kernel
theorem dX9_putDigits_27 : decode cX9_putDigits 27 = .ok (.goto (-22), 3) := by decide +kernel
theorem dX9_putDigits_30 : decode cX9_putDigits 30 = .ok (.iload_n 3, 1) := by decide +kernel
theorem dX9_putDigits_31 : decode cX9_putDigits 31 = .ok (.ifCond .le 24, 3) := by decide +kernel
theorem dX9_putDigits_34 : decode cX9_putDigits 34 = .ok (.aload_n 0, 1) := by decide +kernel
theorem dX9_putDigits_35 : decode cX9_putDigits 35 = .ok (.bipush 48, 2) := by decide +kernel
theorem dX9_putDigits_37 : decode cX9_putDigits 37 = .ok (.iload_n 1, 1) := by decide +kernel
theorem dX9_putDigits_38 : decode cX9_putDigits 38 = .ok (.iload_n 3, 1) := by decide +kernel
theorem dX9_putDigits_39 : decode cX9_putDigits 39 = .ok (.idiv, 1) := by decide +kernel
theorem dX9_putDigits_40 : decode cX9_putDigits 40 = .ok (.bipush 10, 2) := by decide +kernel
theorem dX9_putDigits_42 : decode cX9_putDigits 42 = .ok (.irem, 1) := by decide +kernel
theorem dX9_putDigits_43 : decode cX9_putDigits 43 = .ok (.iadd, 1) := by decide +kernel
theorem dX9_putDigits_44 : decode cX9_putDigits 44 = .ok (.invokevirtual 232, 3) := by decide +kernel
theorem dX9_putDigits_47 : decode cX9_putDigits 47 = .ok (.iload_n 3, 1) := by decide +kernel
theorem dX9_putDigits_48 : decode cX9_putDigits 48 = .ok (.bipush 10, 2) := by decide +kernel
theorem dX9_putDigits_50 : decode cX9_putDigits 50 = .ok (.idiv, 1) := by decide +kernel
theorem dX9_putDigits_51 : decode cX9_putDigits 51 = .ok (.istore_n 3, 1) := by decide +kernel
theorem dX9_putDigits_52 : decode cX9_putDigits 52 = .ok (.goto (-22), 3) := by decide +kernel
theorem dX9_putDigits_55 : decode cX9_putDigits 55 = .ok (.return_, 1) := by decide +kernel
set_option maxRecDepth 20000 in
theorem ggX9_pour_X9_put : GoodIn wsX9_pour wsX9_put := goodIn_r _ [9, 10, 1, 15, 16, 17, 18, 19, 20, 21, 22, 23, 24, 25, 26, 27, 28, 29, 30, 31, 32, 33, 34, 35, 36, 37, 38, 39, 40, 41, 42, 43, 44, 45, 46, 47, 48, 49, 50] (by decide +kernel) (by decide +kernel)
set_option maxRecDepth 20000 in
theorem gX9_pour_X9_put : GoodIn wsX9_pour (wsV RX9 232 RX9 yX9_put wsX9_put) := goodIn_app (goodIn_of _ (by decide +kernel)) ggX9_pour_X9_put
set_option maxRecDepth 20000 in
theorem ggX9_pour_X9_putDigits : GoodIn wsX9_pour wsX9_putDigits := goodIn_r _ [14, 5, 6, 7, 8, 9, 10, 1, 15, 16, 17, 18, 19, 20, 21, 22, 23, 24, 25, 26, 27, 28, 29, 30, 31, 32, 33, 34, 35, 36, 37, 38, 39, 40, 41, 42, 43, 44, 45, 46, 47, 48, 49, 50] (by decide +kernel) (by decide +kernel)
set_option maxRecDepth 20000 in
theorem gX9_pour_X9_putDigits : GoodIn wsX9_pour (wsV RX9 235 RX9 yX9_putDigits wsX9_putDigits) := goodIn_app (goodIn_of _ (by decide +kernel)) ggX9_pour_X9_putDigits
theorem dX9_pour_0 : decode cX9_pour 0 = .ok (.aload_n 0, 1) := by decide +kernel
theorem dX9_pour_1 : decode cX9_pour 1 = .ok (.iconst 0, 1) := by decide +kernel
theorem dX9_pour_2 : decode cX9_pour 2 = .ok (.putfield 229, 3) := by decide +kernel
theorem dX9_pour_5 : decode cX9_pour 5 = .ok (.iconst 0, 1) := by decide +kernel
theorem dX9_pour_6 : decode cX9_pour 6 = .ok (.istore_n 1, 1) := by decide +kernel
theorem dX9_pour_7 : decode cX9_pour 7 = .ok (.iconst 0, 1) := by decide +kernel
theorem dX9_pour_8 : decode cX9_pour 8 = .ok (.istore_n 2, 1) := by decide +kernel
theorem dX9_pour_9 : decode cX9_pour 9 = .ok (.iload_n 2, 1) := by decide +kernel
theorem dX9_pour_10 : decode cX9_pour 10 = .ok (.aload_n 0, 1) := by decide +kernel
theorem dX9_pour_11 : decode cX9_pour 11 = .ok (.getfield 87, 3) := by decide +kernel
theorem dX9_pour_14 : decode cX9_pour 14 = .ok (.if_icmp .ge 87, 3) := by decide +kernel
theorem dX9_pour_17 : decode cX9_pour 17 = .ok (.aload_n 0, 1) := by decide +kernel
theorem dX9_pour_18 : decode cX9_pour 18 = .ok (.getfield 13, 3) := by decide +kernel
theorem dX9_pour_21 : decode cX9_pour 21 = .ok (.iload_n 2, 1) := by decide +kernel
theorem dX9_pour_22 : decode cX9_pour 22 = .ok (.iaload, 1) := by decide +kernel
theorem dX9_pour_23 : decode cX9_pour 23 = .ok (.istore_n 3, 1) := by decide +kernel
theorem dX9_pour_24 : decode cX9_pour 24 = .ok (.iload_n 3, 1) := by decide +kernel
theorem dX9_pour_25 : decode cX9_pour 25 = .ok (.sipush 200, 3) := by decide +kernel
theorem dX9_pour_28 : decode cX9_pour 28 = .ok (.if_icmp .ge 11, 3) := by decide +kernel
theorem dX9_pour_31 : decode cX9_pour 31 = .ok (.aload_n 0, 1) := by decide +kernel
theorem dX9_pour_32 : decode cX9_pour 32 = .ok (.iload_n 3, 1) := by decide +kernel
theorem dX9_pour_33 : decode cX9_pour 33 = .ok (.invokevirtual 232, 3) := by decide +kernel
theorem dX9_pour_36 : decode cX9_pour 36 = .ok (.goto 59, 3) := by decide +kernel
theorem dX9_pour_39 : decode cX9_pour 39 = .ok (.iload_n 3, 1) := by decide +kernel
theorem dX9_pour_40 : decode cX9_pour 40 = .ok (.sipush 400, 3) := by decide +kernel
theorem dX9_pour_43 : decode cX9_pour 43 = .ok (.if_icmp .ne 27, 3) := by decide +kernel
theorem dX9_pour_46 : decode cX9_pour 46 = .ok (.aload_n 0, 1) := by decide +kernel
theorem dX9_pour_47 : decode cX9_pour 47 = .ok (.aload_n 0, 1) := by decide +kernel
theorem dX9_pour_48 : decode cX9_pour 48 = .ok (.getfield 19, 3) := by decide +kernel
theorem dX9_pour_51 : decode cX9_pour 51 = .ok (.iload_n 1, 1) := by decide +kernel
theorem dX9_pour_52 : decode cX9_pour 52 = .ok (.iaload, 1) := by decide +kernel
theorem dX9_pour_53 : decode cX9_pour 53 = .ok (.iconst 1, 1) := by decide +kernel
theorem dX9_pour_54 : decode cX9_pour 54 = .ok (.if_icmp .ne 8, 3) := by decide +kernel
theorem dX9_pour_57 : decode cX9_pour 57 = .ok (.bipush 77, 2) := by decide +kernel
theorem dX9_pour_59 : decode cX9_pour 59 = .ok (.goto 5, 3) := by decide +kernel
theorem dX9_pour_62 : decode cX9_pour 62 = .ok (.bipush 75, 2) := by decide +kernel
theorem dX9_pour_64 : decode cX9_pour 64 = .ok (.invokevirtual 232, 3) := by decide +kernel
theorem dX9_pour_67 : decode cX9_pour 67 = .ok (.goto 25, 3) := by decide +kernel
theorem dX9_pour_70 : decode cX9_pour 70 = .ok (.aload_n 0, 1) := by decide +kernel
theorem dX9_pour_71 : decode cX9_pour 71 = .ok (.aload_n 0, 1) := by decide +kernel
theorem dX9_pour_72 : decode cX9_pour 72 = .ok (.getfield 19, 3) := by decide +kernel
theorem dX9_pour_75 : decode cX9_pour 75 = .ok (.iload_n 1, 1) := by decide +kernel
theorem dX9_pour_76 : decode cX9_pour 76 = .ok (.iaload, 1) := by decide +kernel
theorem dX9_pour_77 : decode cX9_pour 77 = .ok (.iload_n 3, 1) := by decide +kernel
theorem dX9_pour_78 : decode cX9_pour 78 = .ok (.sipush 300, 3) := by decide +kernel
theorem dX9_pour_81 : decode cX9_pour 81 = .ok (.if_icmp .ne 7, 3) := by decide +kernel
theorem dX9_pour_84 : decode cX9_pour 84 = .ok (.iconst 3, 1) := by decide +kernel
theorem dX9_pour_85 : decode cX9_pour 85 = .ok (.goto 4, 3) := by decide +kernel
theorem dX9_pour_88 : decode cX9_pour 88 = .ok (.iconst 1, 1) := by decide +kernel
theorem dX9_pour_89 : decode cX9_pour 89 = .ok (.invokevirtual 235, 3) := by decide +kernel
theorem dX9_pour_92 : decode cX9_pour 92 = .ok (.iinc 1 1, 3) := by decide +kernel
theorem dX9_pour_95 : decode cX9_pour 95 = .ok (.iinc 2 1, 3) := by decide +kernel
theorem dX9_pour_98 : decode cX9_pour 98 = .ok (.goto (-89), 3) := by decide +kernel
theorem dX9_pour_101 : decode cX9_pour 101 = .ok (.return_, 1) := by decide +kernel
theorem dX9_tells_0 : decode cX9_tells 0 = .ok (.iload_n 0, 1) := by decide +kernel
theorem dX9_tells_1 : decode cX9_tells 1 = .ok (.ifCond .lt 12, 3) := by decide +kernel
theorem dX9_tells_4 : decode cX9_tells 4 = .ok (.iload_n 0, 1) := by decide +kernel
theorem dX9_tells_5 : decode cX9_tells 5 = .ok (.iload_n 1, 1) := by decide +kernel
theorem dX9_tells_6 : decode cX9_tells 6 = .ok (.if_icmp .gt 7, 3) := by decide +kernel
theorem dX9_tells_9 : decode cX9_tells 9 = .ok (.iconst 1, 1) := by decide +kernel
theorem dX9_tells_10 : decode cX9_tells 10 = .ok (.goto 4, 3) := by decide +kernel
theorem dX9_tells_13 : decode cX9_tells 13 = .ok (.iconst 0, 1) := by decide +kernel
theorem dX9_tells_14 : decode cX9_tells 14 = .ok (.ireturn, 1) := by decide +kernel
theorem dX9_sizeTells_0 : decode cX9_sizeTells 0 = .ok (.iload_n 0, 1) := by decide +kernel
theorem dX9_sizeTells_1 : decode cX9_sizeTells 1 = .ok (.ifCond .lt 33, 3) := by decide +kernel
theorem dX9_sizeTells_4 : decode cX9_sizeTells 4 = .ok (.iload_n 0, 1) := by decide +kernel
theorem dX9_sizeTells_5 : decode cX9_sizeTells 5 = .ok (.sipush 9999, 3) := by decide +kernel
theorem dX9_sizeTells_8 : decode cX9_sizeTells 8 = .ok (.if_icmp .le 22, 3) := by decide +kernel
theorem dX9_sizeTells_11 : decode cX9_sizeTells 11 = .ok (.iload_n 0, 1) := by decide +kernel
theorem dX9_sizeTells_12 : decode cX9_sizeTells 12 = .ok (.sipush 1024, 3) := by decide +kernel
theorem dX9_sizeTells_15 : decode cX9_sizeTells 15 = .ok (.irem, 1) := by decide +kernel
theorem dX9_sizeTells_16 : decode cX9_sizeTells 16 = .ok (.ifCond .ne 18, 3) := by decide +kernel
theorem dX9_sizeTells_19 : decode cX9_sizeTells 19 = .ok (.iload_n 0, 1) := by decide +kernel
theorem dX9_sizeTells_20 : decode cX9_sizeTells 20 = .ok (.sipush 1024, 3) := by decide +kernel
theorem dX9_sizeTells_23 : decode cX9_sizeTells 23 = .ok (.idiv, 1) := by decide +kernel
theorem dX9_sizeTells_24 : decode cX9_sizeTells 24 = .ok (.sipush 9999, 3) := by decide +kernel
theorem dX9_sizeTells_27 : decode cX9_sizeTells 27 = .ok (.if_icmp .gt 7, 3) := by decide +kernel
theorem dX9_sizeTells_30 : decode cX9_sizeTells 30 = .ok (.iconst 1, 1) := by decide +kernel
theorem dX9_sizeTells_31 : decode cX9_sizeTells 31 = .ok (.goto 4, 3) := by decide +kernel
theorem dX9_sizeTells_34 : decode cX9_sizeTells 34 = .ok (.iconst 0, 1) := by decide +kernel
theorem dX9_sizeTells_35 : decode cX9_sizeTells 35 = .ok (.ireturn, 1) := by decide +kernel
set_option maxRecDepth 20000 in
theorem ggX9_write_X9_tells : GoodIn wsX9_write wsX9_tells := goodIn_r _ [11] (by decide +kernel) (by decide +kernel)
set_option maxRecDepth 20000 in
theorem gX9_write_X9_tells : GoodIn wsX9_write (va_wsS RX9 238 yX9_tells wsX9_tells) := goodIn_app (goodIn_of _ (by decide +kernel)) ggX9_write_X9_tells
set_option maxRecDepth 20000 in
theorem ggX9_write_X9_sizesOf : GoodIn wsX9_write wsX9_sizesOf := goodIn_r _ [14] (by decide +kernel) (by decide +kernel)
set_option maxRecDepth 20000 in
theorem gX9_write_X9_sizesOf : GoodIn wsX9_write (va_wsS RX9 178 yX9_sizesOf wsX9_sizesOf) := goodIn_app (goodIn_of _ (by decide +kernel)) ggX9_write_X9_sizesOf
set_option maxRecDepth 20000 in
theorem ggX9_write_X9_sizeTells : GoodIn wsX9_write wsX9_sizeTells := goodIn_r _ [17] (by decide +kernel) (by decide +kernel)
set_option maxRecDepth 20000 in
theorem gX9_write_X9_sizeTells : GoodIn wsX9_write (va_wsS RX9 242 yX9_sizeTells wsX9_sizeTells) := goodIn_app (goodIn_of _ (by decide +kernel)) ggX9_write_X9_sizeTells
set_option maxRecDepth 20000 in
theorem ggX9_write_X9_makeMould : GoodIn wsX9_write wsX9_makeMould := goodIn_r _ [21, 22, 23, 24, 25, 26, 27, 28, 29, 30, 31, 10, 32, 33, 34, 35, 36, 37, 38, 39, 40, 41, 42, 43, 44, 45, 46, 47, 48, 49, 50, 51, 52, 53, 54, 55, 56, 57, 58, 59, 60, 61, 62, 63, 94, 95, 96, 97, 98, 99, 100, 101, 102, 103, 104, 105, 106, 107, 108, 109, 110, 111, 112, 113, 114, 115, 116, 117, 118, 119, 120, 121, 122, 123, 124, 125, 126, 127, 128, 129] (by decide +kernel) (by decide +kernel)
set_option maxRecDepth 20000 in
theorem gX9_write_X9_makeMould : GoodIn wsX9_write (wsV RX9 164 RX9 yX9_makeMould wsX9_makeMould) := goodIn_app (goodIn_of _ (by decide +kernel)) ggX9_write_X9_makeMould
set_option maxRecDepth 20000 in
theorem ggX9_write_X9_pourNumbers : GoodIn wsX9_write wsX9_pourNumbers := goodIn_r _ [67, 68, 69, 70, 71, 10, 72, 73, 74, 75, 76, 77, 12, 13, 14, 78, 79, 80, 81, 82, 83, 84, 85, 4, 22, 33, 86, 87, 88, 89, 6, 90, 91, 92, 93, 94, 95, 96, 97, 98, 99, 100, 101, 102, 103, 104, 105, 106, 107, 108, 109, 110, 111, 112, 113, 114, 115, 116, 117, 118, 119, 120, 121, 122, 123, 124, 125, 126, 127, 128, 129] (by decide +kernel) (by decide +kernel)
set_option maxRecDepth 20000 in
theorem gX9_write_X9_pourNumbers : GoodIn wsX9_write (wsV RX9 246 RX9 yX9_pourNumbers wsX9_pourNumbers) := goodIn_app (goodIn_of _ (by decide +kernel)) ggX9_write_X9_pourNumbers
theorem dX9_write_0 : decode cX9_write 0 = .ok (.iload_n 1, 1) := by decide +kernel
theorem dX9_write_1 : decode cX9_write 1 = .ok (.sipush 221, 3) := by decide +kernel
theorem dX9_write_4 : decode cX9_write 4 = .ok (.invokestatic 238, 3) := by decide +kernel
theorem dX9_write_7 : decode cX9_write 7 = .ok (.ifCond .eq 18, 3) := by decide +kernel
theorem dX9_write_10 : decode cX9_write 10 = .ok (.iload_n 1, 1) := by decide +kernel
theorem dX9_write_11 : decode cX9_write 11 = .ok (.bipush 10, 2) := by decide +kernel
theorem dX9_write_13 : decode cX9_write 13 = .ok (.irem, 1) := by decide +kernel
theorem dX9_write_14 : decode cX9_write 14 = .ok (.iconst 1, 1) := by decide +kernel
theorem dX9_write_15 : decode cX9_write 15 = .ok (.if_icmp .gt 10, 3) := by decide +kernel
theorem dX9_write_18 : decode cX9_write 18 = .ok (.iload_n 1, 1) := by decide +kernel
theorem dX9_write_19 : decode cX9_write 19 = .ok (.bipush 10, 2) := by decide +kernel
theorem dX9_write_21 : decode cX9_write 21 = .ok (.irem, 1) := by decide +kernel
theorem dX9_write_22 : decode cX9_write 22 = .ok (.goto 4, 3) := by decide +kernel
theorem dX9_write_25 : decode cX9_write 25 = .ok (.iload_n 1, 1) := by decide +kernel
theorem dX9_write_26 : decode cX9_write 26 = .ok (.istore 8, 2) := by decide +kernel
theorem dX9_write_28 : decode cX9_write 28 = .ok (.iload 8, 2) := by decide +kernel
theorem dX9_write_30 : decode cX9_write 30 = .ok (.iconst 1, 1) := by decide +kernel
theorem dX9_write_31 : decode cX9_write 31 = .ok (.if_icmp .gt 28, 3) := by decide +kernel
theorem dX9_write_34 : decode cX9_write 34 = .ok (.iload_n 1, 1) := by decide +kernel
theorem dX9_write_35 : decode cX9_write 35 = .ok (.sipush 221, 3) := by decide +kernel
theorem dX9_write_38 : decode cX9_write 38 = .ok (.invokestatic 238, 3) := by decide +kernel
theorem dX9_write_41 : decode cX9_write 41 = .ok (.ifCond .eq 18, 3) := by decide +kernel
theorem dX9_write_44 : decode cX9_write 44 = .ok (.iload_n 1, 1) := by decide +kernel
theorem dX9_write_45 : decode cX9_write 45 = .ok (.bipush 10, 2) := by decide +kernel
theorem dX9_write_47 : decode cX9_write 47 = .ok (.idiv, 1) := by decide +kernel
theorem dX9_write_48 : decode cX9_write 48 = .ok (.bipush 10, 2) := by decide +kernel
theorem dX9_write_50 : decode cX9_write 50 = .ok (.irem, 1) := by decide +kernel
theorem dX9_write_51 : decode cX9_write 51 = .ok (.iconst 2, 1) := by decide +kernel
theorem dX9_write_52 : decode cX9_write 52 = .ok (.if_icmp .gt 7, 3) := by decide +kernel
theorem dX9_write_55 : decode cX9_write 55 = .ok (.iconst 1, 1) := by decide +kernel

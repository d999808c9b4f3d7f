theorem dX9_write_56 : decode cX9_write 56 = .ok (.goto 4, 3) := by decide +kernel
theorem dX9_write_59 : decode cX9_write 59 = .ok (.iconst 0, 1) := by decide +kernel
theorem dX9_write_60 : decode cX9_write 60 = .ok (.istore 9, 2) := by decide +kernel
theorem dX9_write_62 : decode cX9_write 62 = .ok (.iload 8, 2) := by decide +kernel
theorem dX9_write_64 : decode cX9_write 64 = .ok (.invokestatic 178, 3) := by decide +kernel
theorem dX9_write_67 : decode cX9_write 67 = .ok (.istore 10, 2) := by decide +kernel
theorem dX9_write_69 : decode cX9_write 69 = .ok (.iload 9, 2) := by decide +kernel
theorem dX9_write_71 : decode cX9_write 71 = .ok (.ifCond .ne 18, 3) := by decide +kernel
theorem dX9_write_74 : decode cX9_write 74 = .ok (.iload_n 1, 1) := by decide +kernel
theorem dX9_write_75 : decode cX9_write 75 = .ok (.bipush 6, 2) := by decide +kernel
theorem dX9_write_77 : decode cX9_write 77 = .ok (.invokestatic 238, 3) := by decide +kernel
theorem dX9_write_80 : decode cX9_write 80 = .ok (.ifCond .eq 32, 3) := by decide +kernel
theorem dX9_write_83 : decode cX9_write 83 = .ok (.iload 8, 2) := by decide +kernel
theorem dX9_write_85 : decode cX9_write 85 = .ok (.iconst 2, 1) := by decide +kernel
theorem dX9_write_86 : decode cX9_write 86 = .ok (.if_icmp .lt 26, 3) := by decide +kernel
theorem dX9_write_89 : decode cX9_write 89 = .ok (.iload_n 2, 1) := by decide +kernel
theorem dX9_write_90 : decode cX9_write 90 = .ok (.sipush 999, 3) := by decide +kernel
theorem dX9_write_93 : decode cX9_write 93 = .ok (.invokestatic 238, 3) := by decide +kernel
theorem dX9_write_96 : decode cX9_write 96 = .ok (.ifCond .eq 16, 3) := by decide +kernel
theorem dX9_write_99 : decode cX9_write 99 = .ok (.iload_n 3, 1) := by decide +kernel
theorem dX9_write_100 : decode cX9_write 100 = .ok (.ldc 241, 2) := by decide +kernel
theorem dX9_write_102 : decode cX9_write 102 = .ok (.invokestatic 238, 3) := by decide +kernel
theorem dX9_write_105 : decode cX9_write 105 = .ok (.ifCond .eq 7, 3) := by decide +kernel
theorem dX9_write_108 : decode cX9_write 108 = .ok (.iconst 1, 1) := by decide +kernel
theorem dX9_write_109 : decode cX9_write 109 = .ok (.goto 4, 3) := by decide +kernel
theorem dX9_write_112 : decode cX9_write 112 = .ok (.iconst 0, 1) := by decide +kernel
theorem dX9_write_113 : decode cX9_write 113 = .ok (.istore 11, 2) := by decide +kernel
theorem dX9_write_115 : decode cX9_write 115 = .ok (.iload 10, 2) := by decide +kernel
theorem dX9_write_117 : decode cX9_write 117 = .ok (.iconst 2, 1) := by decide +kernel
theorem dX9_write_118 : decode cX9_write 118 = .ok (.if_icmp .lt 22, 3) := by decide +kernel
theorem dX9_write_121 : decode cX9_write 121 = .ok (.iload 4, 2) := by decide +kernel
theorem dX9_write_123 : decode cX9_write 123 = .ok (.invokestatic 242, 3) := by decide +kernel
theorem dX9_write_126 : decode cX9_write 126 = .ok (.ifCond .eq 11, 3) := by decide +kernel
theorem dX9_write_129 : decode cX9_write 129 = .ok (.iload 5, 2) := by decide +kernel
theorem dX9_write_131 : decode cX9_write 131 = .ok (.invokestatic 242, 3) := by decide +kernel
theorem dX9_write_134 : decode cX9_write 134 = .ok (.ifCond .ne 6, 3) := by decide +kernel
theorem dX9_write_137 : decode cX9_write 137 = .ok (.iconst 0, 1) := by decide +kernel
theorem dX9_write_138 : decode cX9_write 138 = .ok (.istore 11, 2) := by decide +kernel
theorem dX9_write_140 : decode cX9_write 140 = .ok (.iload 10, 2) := by decide +kernel
theorem dX9_write_142 : decode cX9_write 142 = .ok (.iconst 3, 1) := by decide +kernel
theorem dX9_write_143 : decode cX9_write 143 = .ok (.if_icmp .ne 14, 3) := by decide +kernel
theorem dX9_write_146 : decode cX9_write 146 = .ok (.iload 6, 2) := by decide +kernel
theorem dX9_write_148 : decode cX9_write 148 = .ok (.invokestatic 242, 3) := by decide +kernel
theorem dX9_write_151 : decode cX9_write 151 = .ok (.ifCond .ne 6, 3) := by decide +kernel
theorem dX9_write_154 : decode cX9_write 154 = .ok (.iconst 0, 1) := by decide +kernel
theorem dX9_write_155 : decode cX9_write 155 = .ok (.istore 11, 2) := by decide +kernel
theorem dX9_write_157 : decode cX9_write 157 = .ok (.iload 8, 2) := by decide +kernel
theorem dX9_write_159 : decode cX9_write 159 = .ok (.iconst 1, 1) := by decide +kernel
theorem dX9_write_160 : decode cX9_write 160 = .ok (.if_icmp .eq 9, 3) := by decide +kernel
theorem dX9_write_163 : decode cX9_write 163 = .ok (.iload 8, 2) := by decide +kernel
theorem dX9_write_165 : decode cX9_write 165 = .ok (.iconst 5, 1) := by decide +kernel
theorem dX9_write_166 : decode cX9_write 166 = .ok (.if_icmp .ne 16, 3) := by decide +kernel
theorem dX9_write_169 : decode cX9_write 169 = .ok (.iload 7, 2) := by decide +kernel
theorem dX9_write_171 : decode cX9_write 171 = .ok (.ldc 245, 2) := by decide +kernel
theorem dX9_write_173 : decode cX9_write 173 = .ok (.invokestatic 238, 3) := by decide +kernel
theorem dX9_write_176 : decode cX9_write 176 = .ok (.ifCond .ne 6, 3) := by decide +kernel
theorem dX9_write_179 : decode cX9_write 179 = .ok (.iconst 0, 1) := by decide +kernel
theorem dX9_write_180 : decode cX9_write 180 = .ok (.istore 11, 2) := by decide +kernel
theorem dX9_write_182 : decode cX9_write 182 = .ok (.aload_n 0, 1) := by decide +kernel
theorem dX9_write_183 : decode cX9_write 183 = .ok (.iload 11, 2) := by decide +kernel
theorem dX9_write_185 : decode cX9_write 185 = .ok (.ifCond .eq 7, 3) := by decide +kernel
theorem dX9_write_188 : decode cX9_write 188 = .ok (.iconst 0, 1) := by decide +kernel
theorem dX9_write_189 : decode cX9_write 189 = .ok (.goto 4, 3) := by decide +kernel
theorem dX9_write_192 : decode cX9_write 192 = .ok (.iconst 1, 1) := by decide +kernel
theorem dX9_write_193 : decode cX9_write 193 = .ok (.putfield 84, 3) := by decide +kernel
theorem dX9_write_196 : decode cX9_write 196 = .ok (.iload 11, 2) := by decide +kernel
theorem dX9_write_198 : decode cX9_write 198 = .ok (.ifCond .ne 5, 3) := by decide +kernel
theorem dX9_write_201 : decode cX9_write 201 = .ok (.iconst 0, 1) := by decide +kernel
theorem dX9_write_202 : decode cX9_write 202 = .ok (.ireturn, 1) := by decide +kernel
theorem dX9_write_203 : decode cX9_write 203 = .ok (.aload_n 0, 1) := by decide +kernel
theorem dX9_write_204 : decode cX9_write 204 = .ok (.iload 8, 2) := by decide +kernel
theorem dX9_write_206 : decode cX9_write 206 = .ok (.iload 9, 2) := by decide +kernel
theorem dX9_write_208 : decode cX9_write 208 = .ok (.ifCond .eq 13, 3) := by decide +kernel
theorem dX9_write_211 : decode cX9_write 211 = .ok (.iload_n 1, 1) := by decide +kernel
theorem dX9_write_212 : decode cX9_write 212 = .ok (.bipush 10, 2) := by decide +kernel
theorem dX9_write_214 : decode cX9_write 214 = .ok (.idiv, 1) := by decide +kernel
theorem dX9_write_215 : decode cX9_write 215 = .ok (.bipush 10, 2) := by decide +kernel
theorem dX9_write_217 : decode cX9_write 217 = .ok (.irem, 1) := by decide +kernel
theorem dX9_write_218 : decode cX9_write 218 = .ok (.goto 4, 3) := by decide +kernel
theorem dX9_write_221 : decode cX9_write 221 = .ok (.iconst 0, 1) := by decide +kernel
theorem dX9_write_222 : decode cX9_write 222 = .ok (.iload 9, 2) := by decide +kernel
theorem dX9_write_224 : decode cX9_write 224 = .ok (.ifCond .eq 10, 3) := by decide +kernel
theorem dX9_write_227 : decode cX9_write 227 = .ok (.iload_n 1, 1) := by decide +kernel
theorem dX9_write_228 : decode cX9_write 228 = .ok (.bipush 100, 2) := by decide +kernel
theorem dX9_write_230 : decode cX9_write 230 = .ok (.idiv, 1) := by decide +kernel
theorem dX9_write_231 : decode cX9_write 231 = .ok (.goto 4, 3) := by decide +kernel
theorem dX9_write_234 : decode cX9_write 234 = .ok (.iconst 0, 1) := by decide +kernel
theorem dX9_write_235 : decode cX9_write 235 = .ok (.invokevirtual 164, 3) := by decide +kernel
theorem dX9_write_238 : decode cX9_write 238 = .ok (.aload_n 0, 1) := by decide +kernel
theorem dX9_write_239 : decode cX9_write 239 = .ok (.iload 8, 2) := by decide +kernel
theorem dX9_write_241 : decode cX9_write 241 = .ok (.iload_n 2, 1) := by decide +kernel
theorem dX9_write_242 : decode cX9_write 242 = .ok (.iload_n 3, 1) := by decide +kernel
theorem dX9_write_243 : decode cX9_write 243 = .ok (.iload 4, 2) := by decide +kernel
theorem dX9_write_245 : decode cX9_write 245 = .ok (.iload 5, 2) := by decide +kernel
theorem dX9_write_247 : decode cX9_write 247 = .ok (.iload 6, 2) := by decide +kernel
theorem dX9_write_249 : decode cX9_write 249 = .ok (.iload 7, 2) := by decide +kernel
theorem dX9_write_251 : decode cX9_write 251 = .ok (.invokevirtual 246, 3) := by decide +kernel
theorem dX9_write_254 : decode cX9_write 254 = .ok (.iconst 0, 1) := by decide +kernel
theorem dX9_write_255 : decode cX9_write 255 = .ok (.istore 12, 2) := by decide +kernel
theorem dX9_write_257 : decode cX9_write 257 = .ok (.iload 12, 2) := by decide +kernel
theorem dX9_write_259 : decode cX9_write 259 = .ok (.aload_n 0, 1) := by decide +kernel
theorem dX9_write_260 : decode cX9_write 260 = .ok (.getfield 229, 3) := by decide +kernel
theorem dX9_write_263 : decode cX9_write 263 = .ok (.if_icmp .ge 23, 3) := by decide +kernel
theorem dX9_write_266 : decode cX9_write 266 = .ok (.aload_n 0, 1) := by decide +kernel
theorem dX9_write_267 : decode cX9_write 267 = .ok (.getfield 7, 3) := by decide +kernel
theorem dX9_write_270 : decode cX9_write 270 = .ok (.iload 12, 2) := by decide +kernel
theorem dX9_write_272 : decode cX9_write 272 = .ok (.aload_n 0, 1) := by decide +kernel
theorem dX9_write_273 : decode cX9_write 273 = .ok (.getfield 16, 3) := by decide +kernel
theorem dX9_write_276 : decode cX9_write 276 = .ok (.iload 12, 2) := by decide +kernel
theorem dX9_write_278 : decode cX9_write 278 = .ok (.iaload, 1) := by decide +kernel
theorem dX9_write_279 : decode cX9_write 279 = .ok (.iastore, 1) := by decide +kernel
theorem dX9_write_280 : decode cX9_write 280 = .ok (.iinc 12 1, 3) := by decide +kernel
theorem dX9_write_283 : decode cX9_write 283 = .ok (.goto (-26), 3) := by decide +kernel
theorem dX9_write_286 : decode cX9_write 286 = .ok (.aload_n 0, 1) := by decide +kernel
theorem dX9_write_287 : decode cX9_write 287 = .ok (.aload_n 0, 1) := by decide +kernel
theorem dX9_write_288 : decode cX9_write 288 = .ok (.getfield 229, 3) := by decide +kernel
theorem dX9_write_291 : decode cX9_write 291 = .ok (.putfield 143, 3) := by decide +kernel
theorem dX9_write_294 : decode cX9_write 294 = .ok (.aload_n 0, 1) := by decide +kernel
theorem dX9_write_295 : decode cX9_write 295 = .ok (.getfield 143, 3) := by decide +kernel
theorem dX9_write_298 : decode cX9_write 298 = .ok (.ireturn, 1) := by decide +kernel
set_option maxRecDepth 20000 in
theorem ggX9_pourNumbers_X9_giveParts : GoodIn wsX9_pourNumbers wsX9_giveParts := goodIn_r _ [6, 7, 8, 9, 5, 10, 11, 1, 35, 36, 37, 38, 39, 40, 41, 42, 43, 44, 45, 46, 47, 48, 49, 50, 51, 52, 53, 54, 55, 56, 57, 58, 59, 60, 61, 62, 63, 64, 65, 66, 67, 68, 69, 70] (by decide +kernel) (by decide +kernel)
set_option maxRecDepth 20000 in
theorem gX9_pourNumbers_X9_giveParts : GoodIn wsX9_pourNumbers (wsV RX9 250 RX9 yX9_giveParts wsX9_giveParts) := goodIn_app (goodIn_of _ (by decide +kernel)) ggX9_pourNumbers_X9_giveParts
set_option maxRecDepth 20000 in
theorem ggX9_pourNumbers_X9_give : GoodIn wsX9_pourNumbers wsX9_give := goodIn_r _ [10, 11, 1, 35, 36, 37, 38, 39, 40, 41, 42, 43, 44, 45, 46, 47, 48, 49, 50, 51, 52, 53, 54, 55, 56, 57, 58, 59, 60, 61, 62, 63, 64, 65, 66, 67, 68, 69, 70] (by decide +kernel) (by decide +kernel)
set_option maxRecDepth 20000 in
theorem gX9_pourNumbers_X9_give : GoodIn wsX9_pourNumbers (wsV RX9 226 RX9 yX9_give wsX9_give) := goodIn_app (goodIn_of _ (by decide +kernel)) ggX9_pourNumbers_X9_give
set_option maxRecDepth 20000 in
theorem ggX9_pourNumbers_X9_sizesOf : GoodIn wsX9_pourNumbers wsX9_sizesOf := goodIn_r _ [14] (by decide +kernel) (by decide +kernel)
set_option maxRecDepth 20000 in
theorem gX9_pourNumbers_X9_sizesOf : GoodIn wsX9_pourNumbers (va_wsS RX9 178 yX9_sizesOf wsX9_sizesOf) := goodIn_app (goodIn_of _ (by decide +kernel)) ggX9_pourNumbers_X9_sizesOf
set_option maxRecDepth 20000 in
theorem ggX9_pourNumbers_X9_giveSize : GoodIn wsX9_pourNumbers wsX9_giveSize := goodIn_r _ [18, 7, 8, 9, 5, 10, 11, 1, 35, 36, 37, 38, 39, 40, 41, 42, 43, 44, 45, 46, 47, 48, 49, 50, 51, 52, 53, 54, 55, 56, 57, 58, 59, 60, 61, 62, 63, 64, 65, 66, 67, 68, 69, 70] (by decide +kernel) (by decide +kernel)
set_option maxRecDepth 20000 in
theorem gX9_pourNumbers_X9_giveSize : GoodIn wsX9_pourNumbers (wsV RX9 253 RX9 yX9_giveSize wsX9_giveSize) := goodIn_app (goodIn_of _ (by decide +kernel)) ggX9_pourNumbers_X9_giveSize
set_option maxRecDepth 20000 in
theorem ggX9_pourNumbers_X9_pour : GoodIn wsX9_pourNumbers wsX9_pour := goodIn_r _ [22, 23, 24, 25, 11, 26, 27, 28, 5, 29, 30, 31, 32, 33, 34, 35, 36, 37, 38, 39, 40, 41, 42, 43, 44, 45, 46, 47, 48, 49, 50, 51, 52, 53, 54, 55, 56, 57, 58, 59, 60, 61, 62, 63, 64, 65, 66, 67, 68, 69, 70] (by decide +kernel) (by decide +kernel)
set_option maxRecDepth 20000 in
theorem gX9_pourNumbers_X9_pour : GoodIn wsX9_pourNumbers (wsV RX9 256 RX9 yX9_pour wsX9_pour) := goodIn_app (goodIn_of _ (by decide +kernel)) ggX9_pourNumbers_X9_pour
theorem dX9_pourNumbers_0 : decode cX9_pourNumbers 0 = .ok (.aload_n 0, 1) := by decide +kernel
theorem dX9_pourNumbers_1 : decode cX9_pourNumbers 1 = .ok (.iconst 0, 1) := by decide +kernel
theorem dX9_pourNumbers_2 : decode cX9_pourNumbers 2 = .ok (.putfield 146, 3) := by decide +kernel
theorem dX9_pourNumbers_5 : decode cX9_pourNumbers 5 = .ok (.aload_n 0, 1) := by decide +kernel
theorem dX9_pourNumbers_6 : decode cX9_pourNumbers 6 = .ok (.iload_n 3, 1) := by decide +kernel
theorem dX9_pourNumbers_7 : decode cX9_pourNumbers 7 = .ok (.invokevirtual 250, 3) := by decide +kernel
theorem dX9_pourNumbers_10 : decode cX9_pourNumbers 10 = .ok (.aload_n 0, 1) := by decide +kernel
theorem dX9_pourNumbers_11 : decode cX9_pourNumbers 11 = .ok (.iload_n 2, 1) := by decide +kernel
theorem dX9_pourNumbers_12 : decode cX9_pourNumbers 12 = .ok (.invokevirtual 226, 3) := by decide +kernel
theorem dX9_pourNumbers_15 : decode cX9_pourNumbers 15 = .ok (.iload_n 1, 1) := by decide +kernel
theorem dX9_pourNumbers_16 : decode cX9_pourNumbers 16 = .ok (.invokestatic 178, 3) := by decide +kernel
theorem dX9_pourNumbers_19 : decode cX9_pourNumbers 19 = .ok (.istore 8, 2) := by decide +kernel
theorem dX9_pourNumbers_21 : decode cX9_pourNumbers 21 = .ok (.iload 8, 2) := by decide +kernel
theorem dX9_pourNumbers_23 : decode cX9_pourNumbers 23 = .ok (.iconst 2, 1) := by decide +kernel
theorem dX9_pourNumbers_24 : decode cX9_pourNumbers 24 = .ok (.if_icmp .lt 15, 3) := by decide +kernel
theorem dX9_pourNumbers_27 : decode cX9_pourNumbers 27 = .ok (.aload_n 0, 1) := by decide +kernel
theorem dX9_pourNumbers_28 : decode cX9_pourNumbers 28 = .ok (.iload 4, 2) := by decide +kernel
theorem dX9_pourNumbers_30 : decode cX9_pourNumbers 30 = .ok (.invokevirtual 253, 3) := by decide +kernel
theorem dX9_pourNumbers_33 : decode cX9_pourNumbers 33 = .ok (.aload_n 0, 1) := by decide +kernel
theorem dX9_pourNumbers_34 : decode cX9_pourNumbers 34 = .ok (.iload 5, 2) := by decide +kernel
theorem dX9_pourNumbers_36 : decode cX9_pourNumbers 36 = .ok (.invokevirtual 253, 3) := by decide +kernel
theorem dX9_pourNumbers_39 : decode cX9_pourNumbers 39 = .ok (.iload 8, 2) := by decide +kernel
theorem dX9_pourNumbers_41 : decode cX9_pourNumbers 41 = .ok (.iconst 3, 1) := by decide +kernel
theorem dX9_pourNumbers_42 : decode cX9_pourNumbers 42 = .ok (.if_icmp .ne 9, 3) := by decide +kernel
theorem dX9_pourNumbers_45 : decode cX9_pourNumbers 45 = .ok (.aload_n 0, 1) := by decide +kernel
theorem dX9_pourNumbers_46 : decode cX9_pourNumbers 46 = .ok (.iload 6, 2) := by decide +kernel
theorem dX9_pourNumbers_48 : decode cX9_pourNumbers 48 = .ok (.invokevirtual 253, 3) := by decide +kernel
theorem dX9_pourNumbers_51 : decode cX9_pourNumbers 51 = .ok (.iload_n 1, 1) := by decide +kernel
theorem dX9_pourNumbers_52 : decode cX9_pourNumbers 52 = .ok (.iconst 1, 1) := by decide +kernel
theorem dX9_pourNumbers_53 : decode cX9_pourNumbers 53 = .ok (.if_icmp .eq 8, 3) := by decide +kernel
theorem dX9_pourNumbers_56 : decode cX9_pourNumbers 56 = .ok (.iload_n 1, 1) := by decide +kernel
theorem dX9_pourNumbers_57 : decode cX9_pourNumbers 57 = .ok (.iconst 5, 1) := by decide +kernel
theorem dX9_pourNumbers_58 : decode cX9_pourNumbers 58 = .ok (.if_icmp .ne 9, 3) := by decide +kernel
theorem dX9_pourNumbers_61 : decode cX9_pourNumbers 61 = .ok (.aload_n 0, 1) := by decide +kernel
theorem dX9_pourNumbers_62 : decode cX9_pourNumbers 62 = .ok (.iload 7, 2) := by decide +kernel
theorem dX9_pourNumbers_64 : decode cX9_pourNumbers 64 = .ok (.invokevirtual 250, 3) := by decide +kernel
theorem dX9_pourNumbers_67 : decode cX9_pourNumbers 67 = .ok (.aload_n 0, 1) := by decide +kernel
theorem dX9_pourNumbers_68 : decode cX9_pourNumbers 68 = .ok (.invokevirtual 256, 3) := by decide +kernel
theorem dX9_pourNumbers_71 : decode cX9_pourNumbers 71 = .ok (.return_, 1) := by decide +kernel
theorem dX9_isPause_0 : decode cX9_isPause 0 = .ok (.aload_n 0, 1) := by decide +kernel
theorem dX9_isPause_1 : decode cX9_isPause 1 = .ok (.getfield 35, 3) := by decide +kernel
theorem dX9_isPause_4 : decode cX9_isPause 4 = .ok (.aload_n 0, 1) := by decide +kernel
theorem dX9_isPause_5 : decode cX9_isPause 5 = .ok (.getfield 59, 3) := by decide +kernel
theorem dX9_isPause_8 : decode cX9_isPause 8 = .ok (.iload_n 1, 1) := by decide +kernel
theorem dX9_isPause_9 : decode cX9_isPause 9 = .ok (.iaload, 1) := by decide +kernel
theorem dX9_isPause_10 : decode cX9_isPause 10 = .ok (.iaload, 1) := by decide +kernel
theorem dX9_isPause_11 : decode cX9_isPause 11 = .ok (.iconst 1, 1) := by decide +kernel
theorem dX9_isPause_12 : decode cX9_isPause 12 = .ok (.if_icmp .ne 7, 3) := by decide +kernel
theorem dX9_isPause_15 : decode cX9_isPause 15 = .ok (.iconst 1, 1) := by decide +kernel
theorem dX9_isPause_16 : decode cX9_isPause 16 = .ok (.goto 4, 3) := by decide +kernel
theorem dX9_isPause_19 : decode cX9_isPause 19 = .ok (.iconst 0, 1) := by decide +kernel
theorem dX9_isPause_20 : decode cX9_isPause 20 = .ok (.ireturn, 1) := by decide +kernel
set_option maxRecDepth 20000 in
theorem ggX9_eventKind_X9_isPause : GoodIn wsX9_eventKind wsX9_isPause := goodIn_r _ [9, 3, 4, 10, 11, 12, 13, 14, 15, 16, 17, 18, 19, 20, 21, 22, 23, 24, 25, 26, 27, 28, 29, 30, 31, 32, 33, 34, 35, 36, 37, 38, 39, 40, 41, 42, 43, 44, 45] (by decide +kernel) (by decide +kernel)
set_option maxRecDepth 20000 in
theorem gX9_eventKind_X9_isPause : GoodIn wsX9_eventKind (wsV RX9 259 RX9 yX9_isPause wsX9_isPause) := goodIn_app (goodIn_of _ (by decide +kernel)) ggX9_eventKind_X9_isPause
theorem dX9_eventKind_0 : decode cX9_eventKind 0 = .ok (.aload_n 0, 1) := by decide +kernel
theorem dX9_eventKind_1 : decode cX9_eventKind 1 = .ok (.iload_n 1, 1) := by decide +kernel
theorem dX9_eventKind_2 : decode cX9_eventKind 2 = .ok (.invokevirtual 259, 3) := by decide +kernel
theorem dX9_eventKind_5 : decode cX9_eventKind 5 = .ok (.ifCond .eq 17, 3) := by decide +kernel
theorem dX9_eventKind_8 : decode cX9_eventKind 8 = .ok (.aload_n 0, 1) := by decide +kernel
theorem dX9_eventKind_9 : decode cX9_eventKind 9 = .ok (.getfield 38, 3) := by decide +kernel
theorem dX9_eventKind_12 : decode cX9_eventKind 12 = .ok (.aload_n 0, 1) := by decide +kernel
theorem dX9_eventKind_13 : decode cX9_eventKind 13 = .ok (.getfield 56, 3) := by decide +kernel
theorem dX9_eventKind_16 : decode cX9_eventKind 16 = .ok (.iload_n 1, 1) := by decide +kernel
theorem dX9_eventKind_17 : decode cX9_eventKind 17 = .ok (.iaload, 1) := by decide +kernel
theorem dX9_eventKind_18 : decode cX9_eventKind 18 = .ok (.iaload, 1) := by decide +kernel
theorem dX9_eventKind_19 : decode cX9_eventKind 19 = .ok (.goto 23, 3) := by decide +kernel
theorem dX9_eventKind_22 : decode cX9_eventKind 22 = .ok (.aload_n 0, 1) := by decide +kernel
theorem dX9_eventKind_23 : decode cX9_eventKind 23 = .ok (.getfield 35, 3) := by decide +kernel
theorem dX9_eventKind_26 : decode cX9_eventKind 26 = .ok (.aload_n 0, 1) := by decide +kernel
theorem dX9_eventKind_27 : decode cX9_eventKind 27 = .ok (.getfield 59, 3) := by decide +kernel
theorem dX9_eventKind_30 : decode cX9_eventKind 30 = .ok (.iload_n 1, 1) := by decide +kernel
theorem dX9_eventKind_31 : decode cX9_eventKind 31 = .ok (.iaload, 1) := by decide +kernel
theorem dX9_eventKind_32 : decode cX9_eventKind 32 = .ok (.iaload, 1) := by decide +kernel
theorem dX9_eventKind_33 : decode cX9_eventKind 33 = .ok (.iconst 5, 1) := by decide +kernel
theorem dX9_eventKind_34 : decode cX9_eventKind 34 = .ok (.if_icmp .ne 7, 3) := by decide +kernel
theorem dX9_eventKind_37 : decode cX9_eventKind 37 = .ok (.iconst 3, 1) := by decide +kernel
theorem dX9_eventKind_38 : decode cX9_eventKind 38 = .ok (.goto 4, 3) := by decide +kernel
theorem dX9_eventKind_41 : decode cX9_eventKind 41 = .ok (.iconst 4, 1) := by decide +kernel
theorem dX9_eventKind_42 : decode cX9_eventKind 42 = .ok (.ireturn, 1) := by decide +kernel
theorem dX9_tookOf_0 : decode cX9_tookOf 0 = .ok (.aload_n 0, 1) := by decide +kernel
theorem dX9_tookOf_1 : decode cX9_tookOf 1 = .ok (.getfield 59, 3) := by decide +kernel
theorem dX9_tookOf_4 : decode cX9_tookOf 4 = .ok (.iload_n 1, 1) := by decide +kernel
theorem dX9_tookOf_5 : decode cX9_tookOf 5 = .ok (.iaload, 1) := by decide +kernel
theorem dX9_tookOf_6 : decode cX9_tookOf 6 = .ok (.istore_n 2, 1) := by decide +kernel
theorem dX9_tookOf_7 : decode cX9_tookOf 7 = .ok (.aload_n 0, 1) := by decide +kernel
theorem dX9_tookOf_8 : decode cX9_tookOf 8 = .ok (.getfield 35, 3) := by decide +kernel
theorem dX9_tookOf_11 : decode cX9_tookOf 11 = .ok (.iload_n 2, 1) := by decide +kernel
theorem dX9_tookOf_12 : decode cX9_tookOf 12 = .ok (.iaload, 1) := by decide +kernel
theorem dX9_tookOf_13 : decode cX9_tookOf 13 = .ok (.bipush 6, 2) := by decide +kernel
theorem dX9_tookOf_15 : decode cX9_tookOf 15 = .ok (.if_icmp .eq 10, 3) := by decide +kernel
theorem dX9_tookOf_18 : decode cX9_tookOf 18 = .ok (.aload_n 0, 1) := by decide +kernel
theorem dX9_tookOf_19 : decode cX9_tookOf 19 = .ok (.getfield 53, 3) := by decide +kernel
theorem dX9_tookOf_22 : decode cX9_tookOf 22 = .ok (.iload_n 2, 1) := by decide +kernel
theorem dX9_tookOf_23 : decode cX9_tookOf 23 = .ok (.iaload, 1) := by decide +kernel
theorem dX9_tookOf_24 : decode cX9_tookOf 24 = .ok (.ireturn, 1) := by decide +kernel
theorem dX9_tookOf_25 : decode cX9_tookOf 25 = .ok (.ldc2_w 185, 3) := by decide +kernel
theorem dX9_tookOf_28 : decode cX9_tookOf 28 = .ok (.aload_n 0, 1) := by decide +kernel
theorem dX9_tookOf_29 : decode cX9_tookOf 29 = .ok (.getfield 44, 3) := by decide +kernel
theorem dX9_tookOf_32 : decode cX9_tookOf 32 = .ok (.iload_n 2, 1) := by decide +kernel
theorem dX9_tookOf_33 : decode cX9_tookOf 33 = .ok (.iaload, 1) := by decide +kernel
theorem dX9_tookOf_34 : decode cX9_tookOf 34 = .ok (.aload_n 0, 1) := by decide +kernel
theorem dX9_tookOf_35 : decode cX9_tookOf 35 = .ok (.getfield 44, 3) := by decide +kernel
theorem dX9_tookOf_38 : decode cX9_tookOf 38 = .ok (.aload_n 0, 1) := by decide +kernel
theorem dX9_tookOf_39 : decode cX9_tookOf 39 = .ok (.getfield 56, 3) := by decide +kernel
theorem dX9_tookOf_42 : decode cX9_tookOf 42 = .ok (.iload_n 1, 1) := by decide +kernel
theorem dX9_tookOf_43 : decode cX9_tookOf 43 = .ok (.iaload, 1) := by decide +kernel
theorem dX9_tookOf_44 : decode cX9_tookOf 44 = .ok (.iaload, 1) := by decide +kernel
theorem dX9_tookOf_45 : decode cX9_tookOf 45 = .ok (.isub, 1) := by decide +kernel
theorem dX9_tookOf_46 : decode cX9_tookOf 46 = .ok (.i2l, 1) := by decide +kernel
theorem dX9_tookOf_47 : decode cX9_tookOf 47 = .ok (.lmul, 1) := by decide +kernel
theorem dX9_tookOf_48 : decode cX9_tookOf 48 = .ok (.lstore_n 3, 1) := by decide +kernel
theorem dX9_tookOf_49 : decode cX9_tookOf 49 = .ok (.lload_n 3, 1) := by decide +kernel
theorem dX9_tookOf_50 : decode cX9_tookOf 50 = .ok (.ldc2_w 262, 3) := by decide +kernel
theorem dX9_tookOf_53 : decode cX9_tookOf 53 = .ok (.lcmp, 1) := by decide +kernel
theorem dX9_tookOf_54 : decode cX9_tookOf 54 = .ok (.ifCond .le 9, 3) := by decide +kernel
theorem dX9_tookOf_57 : decode cX9_tookOf 57 = .ok (.ldc_w 264, 3) := by decide +kernel
theorem dX9_tookOf_60 : decode cX9_tookOf 60 = .ok (.goto 5, 3) := by decide +kernel
theorem dX9_tookOf_63 : decode cX9_tookOf 63 = .ok (.lload_n 3, 1) := by decide +kernel
theorem dX9_tookOf_64 : decode cX9_tookOf 64 = .ok (.l2i, 1) := by decide +kernel
theorem dX9_tookOf_65 : decode cX9_tookOf 65 = .ok (.ireturn, 1) := by decide +kernel
theorem dX9_sizeOf_0 : decode cX9_sizeOf 0 = .ok (.iload_n 1, 1) := by decide +kernel
theorem dX9_sizeOf_1 : decode cX9_sizeOf 1 = .ok (.iconst (-1), 1) := by decide +kernel
theorem dX9_sizeOf_2 : decode cX9_sizeOf 2 = .ok (.if_icmp .ne 7, 3) := by decide +kernel
theorem dX9_sizeOf_5 : decode cX9_sizeOf 5 = .ok (.iconst (-1), 1) := by decide +kernel
theorem dX9_sizeOf_6 : decode cX9_sizeOf 6 = .ok (.goto 13, 3) := by decide +kernel
theorem dX9_sizeOf_9 : decode cX9_sizeOf 9 = .ok (.aload_n 0, 1) := by decide +kernel
theorem dX9_sizeOf_10 : decode cX9_sizeOf 10 = .ok (.getfield 50, 3) := by decide +kernel
theorem dX9_sizeOf_13 : decode cX9_sizeOf 13 = .ok (.iconst 3, 1) := by decide +kernel
theorem dX9_sizeOf_14 : decode cX9_sizeOf 14 = .ok (.iload_n 1, 1) := by decide +kernel
theorem dX9_sizeOf_15 : decode cX9_sizeOf 15 = .ok (.imul, 1) := by decide +kernel
theorem dX9_sizeOf_16 : decode cX9_sizeOf 16 = .ok (.iload_n 2, 1) := by decide +kernel
theorem dX9_sizeOf_17 : decode cX9_sizeOf 17 = .ok (.iadd, 1) := by decide +kernel
theorem dX9_sizeOf_18 : decode cX9_sizeOf 18 = .ok (.iaload, 1) := by decide +kernel
theorem dX9_sizeOf_19 : decode cX9_sizeOf 19 = .ok (.ireturn, 1) := by decide +kernel
theorem dX9_linesOf_0 : decode cX9_linesOf 0 = .ok (.iconst 2, 1) := by decide +kernel
theorem dX9_linesOf_1 : decode cX9_linesOf 1 = .ok (.aload_n 0, 1) := by decide +kernel
theorem dX9_linesOf_2 : decode cX9_linesOf 2 = .ok (.getfield 62, 3) := by decide +kernel
theorem dX9_linesOf_5 : decode cX9_linesOf 5 = .ok (.iload_n 1, 1) := by decide +kernel
theorem dX9_linesOf_6 : decode cX9_linesOf 6 = .ok (.iaload, 1) := by decide +kernel
theorem dX9_linesOf_7 : decode cX9_linesOf 7 = .ok (.iconst (-1), 1) := by decide +kernel
theorem dX9_linesOf_8 : decode cX9_linesOf 8 = .ok (.if_icmp .ne 7, 3) := by decide +kernel
theorem dX9_linesOf_11 : decode cX9_linesOf 11 = .ok (.iconst 0, 1) := by decide +kernel
theorem dX9_linesOf_12 : decode cX9_linesOf 12 = .ok (.goto 4, 3) := by decide +kernel
theorem dX9_linesOf_15 : decode cX9_linesOf 15 = .ok (.iconst 1, 1) := by decide +kernel
theorem dX9_linesOf_16 : decode cX9_linesOf 16 = .ok (.iadd, 1) := by decide +kernel
theorem dX9_linesOf_17 : decode cX9_linesOf 17 = .ok (.aload_n 0, 1) := by decide +kernel
theorem dX9_linesOf_18 : decode cX9_linesOf 18 = .ok (.getfield 65, 3) := by decide +kernel
theorem dX9_linesOf_21 : decode cX9_linesOf 21 = .ok (.iload_n 1, 1) := by decide +kernel
theorem dX9_linesOf_22 : decode cX9_linesOf 22 = .ok (.iaload, 1) := by decide +kernel
theorem dX9_linesOf_23 : decode cX9_linesOf 23 = .ok (.iconst (-1), 1) := by decide +kernel
theorem dX9_linesOf_24 : decode cX9_linesOf 24 = .ok (.if_icmp .ne 7, 3) := by decide +kernel
theorem dX9_linesOf_27 : decode cX9_linesOf 27 = .ok (.iconst 0, 1) := by decide +kernel
theorem dX9_linesOf_28 : decode cX9_linesOf 28 = .ok (.goto 4, 3) := by decide +kernel
theorem dX9_linesOf_31 : decode cX9_linesOf 31 = .ok (.iconst 1, 1) := by decide +kernel
theorem dX9_linesOf_32 : decode cX9_linesOf 32 = .ok (.iadd, 1) := by decide +kernel
theorem dX9_linesOf_33 : decode cX9_linesOf 33 = .ok (.ireturn, 1) := by decide +kernel
theorem dX9_isEvent_0 : decode cX9_isEvent 0 = .ok (.iload_n 1, 1) := by decide +kernel
theorem dX9_isEvent_1 : decode cX9_isEvent 1 = .ok (.ifCond .lt 15, 3) := by decide +kernel
theorem dX9_isEvent_4 : decode cX9_isEvent 4 = .ok (.iload_n 1, 1) := by decide +kernel
theorem dX9_isEvent_5 : decode cX9_isEvent 5 = .ok (.aload_n 0, 1) := by decide +kernel
theorem dX9_isEvent_6 : decode cX9_isEvent 6 = .ok (.getfield 205, 3) := by decide +kernel
theorem dX9_isEvent_9 : decode cX9_isEvent 9 = .ok (.if_icmp .ge 7, 3) := by decide +kernel
theorem dX9_isEvent_12 : decode cX9_isEvent 12 = .ok (.iconst 1, 1) := by decide +kernel
theorem dX9_isEvent_13 : decode cX9_isEvent 13 = .ok (.goto 4, 3) := by decide +kernel
theorem dX9_isEvent_16 : decode cX9_isEvent 16 = .ok (.iconst 0, 1) := by decide +kernel
theorem dX9_isEvent_17 : decode cX9_isEvent 17 = .ok (.ireturn, 1) := by decide +kernel
set_option maxRecDepth 20000 in
theorem ggX9_event_X9_isEvent : GoodIn wsX9_event wsX9_isEvent := goodIn_r _ [13, 14, 45, 46, 47, 48, 49, 50, 51, 52, 53, 54, 55, 56, 57, 58, 59, 60, 61, 62, 63, 64, 65, 66, 67, 68, 69, 70, 71, 72, 73, 74, 75, 76, 77, 78, 79, 80] (by decide +kernel) (by decide +kernel)
set_option maxRecDepth 20000 in
theorem gX9_event_X9_isEvent : GoodIn wsX9_event (wsV RX9 265 RX9 yX9_isEvent wsX9_isEvent) := goodIn_app (goodIn_of _ (by decide +kernel)) ggX9_event_X9_isEvent
set_option maxRecDepth 20000 in
theorem ggX9_event_X9_tells : GoodIn wsX9_event wsX9_tells := goodIn_r _ [17] (by decide +kernel) (by decide +kernel)
set_option maxRecDepth 20000 in
theorem gX9_event_X9_tells : GoodIn wsX9_event (va_wsS RX9 238 yX9_tells wsX9_tells) := goodIn_app (goodIn_of _ (by decide +kernel)) ggX9_event_X9_tells
set_option maxRecDepth 20000 in
theorem ggX9_event_X9_isPause : GoodIn wsX9_event wsX9_isPause := goodIn_r _ [21, 22, 2, 45, 46, 47, 48, 49, 50, 51, 52, 53, 54, 55, 56, 57, 58, 59, 60, 61, 62, 63, 64, 65, 66, 67, 68, 69, 70, 71, 72, 73, 74, 75, 76, 77, 78, 79, 80] (by decide +kernel) (by decide +kernel)
set_option maxRecDepth 20000 in
theorem gX9_event_X9_isPause : GoodIn wsX9_event (wsV RX9 259 RX9 yX9_isPause wsX9_isPause) := goodIn_app (goodIn_of _ (by decide +kernel)) ggX9_event_X9_isPause
set_option maxRecDepth 20000 in
theorem ggX9_event_X9_eventKind : GoodIn wsX9_event wsX9_eventKind := goodIn_r _ [26, 27, 4, 22, 2, 18, 19, 20, 12, 21, 45, 46, 47, 48, 49, 50, 51, 52, 53, 54, 55, 56, 57, 58, 59, 60, 61, 62, 63, 64, 65, 66, 67, 68, 69, 70, 71, 72, 73, 74, 75, 76, 77, 78, 79, 80] (by decide +kernel) (by decide +kernel)
set_option maxRecDepth 20000 in
theorem gX9_event_X9_eventKind : GoodIn wsX9_event (wsV RX9 268 RX9 yX9_eventKind wsX9_eventKind) := goodIn_app (goodIn_of _ (by decide +kernel)) ggX9_event_X9_eventKind
set_option maxRecDepth 20000 in
theorem ggX9_event_X9_sizeOf : GoodIn wsX9_event wsX9_sizeOf := goodIn_r _ [31, 32, 45, 46, 47, 48, 49, 50, 51, 52, 53, 54, 55, 56, 57, 58, 59, 60, 61, 62, 63, 64, 65, 66, 67, 68, 69, 70, 71, 72, 73, 74, 75, 76, 77, 78, 79, 80] (by decide +kernel) (by decide +kernel)
set_option maxRecDepth 20000 in
theorem gX9_event_X9_sizeOf : GoodIn wsX9_event (wsV RX9 271 RX9 yX9_sizeOf wsX9_sizeOf) := goodIn_app (goodIn_of _ (by decide +kernel)) ggX9_event_X9_sizeOf
set_option maxRecDepth 20000 in
theorem ggX9_event_X9_tookOf : GoodIn wsX9_event wsX9_tookOf := goodIn_r _ [36, 2, 22, 37, 38, 5, 4, 39, 40, 45, 46, 47, 48, 49, 50, 51, 52, 53, 54, 55, 56, 57, 58, 59, 60, 61, 62, 63, 64, 65, 66, 67, 68, 69, 70, 71, 72, 73, 74, 75, 76, 77, 78, 79, 80] (by decide +kernel) (by decide +kernel)
set_option maxRecDepth 20000 in
theorem gX9_event_X9_tookOf : GoodIn wsX9_event (wsV RX9 274 RX9 yX9_tookOf wsX9_tookOf) := goodIn_app (goodIn_of _ (by decide +kernel)) ggX9_event_X9_tookOf
set_option maxRecDepth 20000 in
theorem ggX9_event_X9_linesOf : GoodIn wsX9_event wsX9_linesOf := goodIn_r _ [44, 7, 8, 45, 46, 47, 48, 49, 50, 51, 52, 53, 54, 55, 56, 57, 58, 59, 60, 61, 62, 63, 64, 65, 66, 67, 68, 69, 70, 71, 72, 73, 74, 75, 76, 77, 78, 79, 80] (by decide +kernel) (by decide +kernel)
set_option maxRecDepth 20000 in
theorem gX9_event_X9_linesOf : GoodIn wsX9_event (wsV RX9 277 RX9 yX9_linesOf wsX9_linesOf) := goodIn_app (goodIn_of _ (by decide +kernel)) ggX9_event_X9_linesOf
theorem dX9_event_0 : decode cX9_event 0 = .ok (.aload_n 0, 1) := by decide +kernel
theorem dX9_event_1 : decode cX9_event 1 = .ok (.aload_n 0, 1) := by decide +kernel
theorem dX9_event_2 : decode cX9_event 2 = .ok (.iload_n 1, 1) := by decide +kernel
theorem dX9_event_3 : decode cX9_event 3 = .ok (.invokevirtual 265, 3) := by decide +kernel
theorem dX9_event_6 : decode cX9_event 6 = .ok (.ifCond .eq 16, 3) := by decide +kernel
theorem dX9_event_9 : decode cX9_event 9 = .ok (.iload_n 2, 1) := by decide +kernel
theorem dX9_event_10 : decode cX9_event 10 = .ok (.bipush 13, 2) := by decide +kernel
theorem dX9_event_12 : decode cX9_event 12 = .ok (.invokestatic 238, 3) := by decide +kernel
theorem dX9_event_15 : decode cX9_event 15 = .ok (.ifCond .eq 7, 3) := by decide +kernel
theorem dX9_event_18 : decode cX9_event 18 = .ok (.iconst 0, 1) := by decide +kernel
theorem dX9_event_19 : decode cX9_event 19 = .ok (.goto 4, 3) := by decide +kernel
theorem dX9_event_22 : decode cX9_event 22 = .ok (.iconst 1, 1) := by decide +kernel
theorem dX9_event_23 : decode cX9_event 23 = .ok (.putfield 84, 3) := by decide +kernel
theorem dX9_event_26 : decode cX9_event 26 = .ok (.aload_n 0, 1) := by decide +kernel
theorem dX9_event_27 : decode cX9_event 27 = .ok (.getfield 84, 3) := by decide +kernel
theorem dX9_event_30 : decode cX9_event 30 = .ok (.ifCond .eq 5, 3) := by decide +kernel
theorem dX9_event_33 : decode cX9_event 33 = .ok (.iconst 0, 1) := by decide +kernel
theorem dX9_event_34 : decode cX9_event 34 = .ok (.ireturn, 1) := by decide +kernel
theorem dX9_event_35 : decode cX9_event 35 = .ok (.aload_n 0, 1) := by decide +kernel
theorem dX9_event_36 : decode cX9_event 36 = .ok (.iload_n 1, 1) := by decide +kernel
theorem dX9_event_37 : decode cX9_event 37 = .ok (.invokevirtual 259, 3) := by decide +kernel
theorem dX9_event_40 : decode cX9_event 40 = .ok (.ifCond .eq 12, 3) := by decide +kernel
theorem dX9_event_43 : decode cX9_event 43 = .ok (.aload_n 0, 1) := by decide +kernel
theorem dX9_event_44 : decode cX9_event 44 = .ok (.getfield 59, 3) := by decide +kernel
theorem dX9_event_47 : decode cX9_event 47 = .ok (.iload_n 1, 1) := by decide +kernel
theorem dX9_event_48 : decode cX9_event 48 = .ok (.iaload, 1) := by decide +kernel
theorem dX9_event_49 : decode cX9_event 49 = .ok (.goto 4, 3) := by decide +kernel
theorem dX9_event_52 : decode cX9_event 52 = .ok (.iconst (-1), 1) := by decide +kernel
theorem dX9_event_53 : decode cX9_event 53 = .ok (.istore_n 3, 1) := by decide +kernel
theorem dX9_event_54 : decode cX9_event 54 = .ok (.iload_n 2, 1) := by decide +kernel
theorem dX9_event_55 : decode cX9_event 55 = .ok (.tableswitch 206 0 12 #[65, 71, 83, 95, 107, 131, 138, 145, 152, 158, 170, 182, 194], 65) := by decide +kernel
theorem dX9_event_120 : decode cX9_event 120 = .ok (.aload_n 0, 1) := by decide +kernel
theorem dX9_event_121 : decode cX9_event 121 = .ok (.iload_n 1, 1) := by decide +kernel
theorem dX9_event_122 : decode cX9_event 122 = .ok (.invokevirtual 268, 3) := by decide +kernel
theorem dX9_event_125 : decode cX9_event 125 = .ok (.ireturn, 1) := by decide +kernel
theorem dX9_event_126 : decode cX9_event 126 = .ok (.aload_n 0, 1) := by decide +kernel
theorem dX9_event_127 : decode cX9_event 127 = .ok (.getfield 47, 3) := by decide +kernel
theorem dX9_event_130 : decode cX9_event 130 = .ok (.aload_n 0, 1) := by decide +kernel
theorem dX9_event_131 : decode cX9_event 131 = .ok (.getfield 56, 3) := by decide +kernel
theorem dX9_event_134 : decode cX9_event 134 = .ok (.iload_n 1, 1) := by decide +kernel
theorem dX9_event_135 : decode cX9_event 135 = .ok (.iaload, 1) := by decide +kernel
theorem dX9_event_136 : decode cX9_event 136 = .ok (.iaload, 1) := by decide +kernel
theorem dX9_event_137 : decode cX9_event 137 = .ok (.ireturn, 1) := by decide +kernel
theorem dX9_event_138 : decode cX9_event 138 = .ok (.aload_n 0, 1) := by decide +kernel
theorem dX9_event_139 : decode cX9_event 139 = .ok (.getfield 44, 3) := by decide +kernel
theorem dX9_event_142 : decode cX9_event 142 = .ok (.aload_n 0, 1) := by decide +kernel
theorem dX9_event_143 : decode cX9_event 143 = .ok (.getfield 56, 3) := by decide +kernel
theorem dX9_event_146 : decode cX9_event 146 = .ok (.iload_n 1, 1) := by decide +kernel
theorem dX9_event_147 : decode cX9_event 147 = .ok (.iaload, 1) := by decide +kernel
theorem dX9_event_148 : decode cX9_event 148 = .ok (.iaload, 1) := by decide +kernel
theorem dX9_event_149 : decode cX9_event 149 = .ok (.ireturn, 1) := by decide +kernel
theorem dX9_event_150 : decode cX9_event 150 = .ok (.aload_n 0, 1) := by decide +kernel
theorem dX9_event_151 : decode cX9_event 151 = .ok (.getfield 44, 3) := by decide +kernel
theorem dX9_event_154 : decode cX9_event 154 = .ok (.aload_n 0, 1) := by decide +kernel
theorem dX9_event_155 : decode cX9_event 155 = .ok (.getfield 59, 3) := by decide +kernel
theorem dX9_event_158 : decode cX9_event 158 = .ok (.iload_n 1, 1) := by decide +kernel
theorem dX9_event_159 : decode cX9_event 159 = .ok (.iaload, 1) := by decide +kernel
theorem dX9_event_160 : decode cX9_event 160 = .ok (.iaload, 1) := by decide +kernel
theorem dX9_event_161 : decode cX9_event 161 = .ok (.ireturn, 1) := by decide +kernel
theorem dX9_event_162 : decode cX9_event 162 = .ok (.aload_n 0, 1) := by decide +kernel
theorem dX9_event_163 : decode cX9_event 163 = .ok (.iload_n 1, 1) := by decide +kernel
theorem dX9_event_164 : decode cX9_event 164 = .ok (.invokevirtual 259, 3) := by decide +kernel
theorem dX9_event_167 : decode cX9_event 167 = .ok (.ifCond .eq 17, 3) := by decide +kernel
theorem dX9_event_170 : decode cX9_event 170 = .ok (.aload_n 0, 1) := by decide +kernel
theorem dX9_event_171 : decode cX9_event 171 = .ok (.getfield 41, 3) := by decide +kernel
theorem dX9_event_174 : decode cX9_event 174 = .ok (.aload_n 0, 1) := by decide +kernel
theorem dX9_event_175 : decode cX9_event 175 = .ok (.getfield 56, 3) := by decide +kernel
theorem dX9_event_178 : decode cX9_event 178 = .ok (.iload_n 1, 1) := by decide +kernel
theorem dX9_event_179 : decode cX9_event 179 = .ok (.iaload, 1) := by decide +kernel
theorem dX9_event_180 : decode cX9_event 180 = .ok (.iaload, 1) := by decide +kernel
theorem dX9_event_181 : decode cX9_event 181 = .ok (.goto 4, 3) := by decide +kernel
theorem dX9_event_184 : decode cX9_event 184 = .ok (.iconst (-1), 1) := by decide +kernel
theorem dX9_event_185 : decode cX9_event 185 = .ok (.ireturn, 1) := by decide +kernel
theorem dX9_event_186 : decode cX9_event 186 = .ok (.aload_n 0, 1) := by decide +kernel
theorem dX9_event_187 : decode cX9_event 187 = .ok (.iload_n 3, 1) := by decide +kernel
theorem dX9_event_188 : decode cX9_event 188 = .ok (.iconst 0, 1) := by decide +kernel
theorem dX9_event_189 : decode cX9_event 189 = .ok (.invokevirtual 271, 3) := by decide +kernel
theorem dX9_event_192 : decode cX9_event 192 = .ok (.ireturn, 1) := by decide +kernel
theorem dX9_event_193 : decode cX9_event 193 = .ok (.aload_n 0, 1) := by decide +kernel
theorem dX9_event_194 : decode cX9_event 194 = .ok (.iload_n 3, 1) := by decide +kernel
theorem dX9_event_195 : decode cX9_event 195 = .ok (.iconst 1, 1) := by decide +kernel
theorem dX9_event_196 : decode cX9_event 196 = .ok (.invokevirtual 271, 3) := by decide +kernel
theorem dX9_event_199 : decode cX9_event 199 = .ok (.ireturn, 1) := by decide +kernel
theorem dX9_event_200 : decode cX9_event 200 = .ok (.aload_n 0, 1) := by decide +kernel
theorem dX9_event_201 : decode cX9_event 201 = .ok (.iload_n 3, 1) := by decide +kernel
theorem dX9_event_202 : decode cX9_event 202 = .ok (.iconst 2, 1) := by decide +kernel
theorem dX9_event_203 : decode cX9_event 203 = .ok (.invokevirtual 271, 3) := by decide +kernel
theorem dX9_event_206 : decode cX9_event 206 = .ok (.ireturn, 1) := by decide +kernel
theorem dX9_event_207 : decode cX9_event 207 = .ok (.aload_n 0, 1) := by decide +kernel
theorem dX9_event_208 : decode cX9_event 208 = .ok (.iload_n 1, 1) := by decide +kernel
theorem dX9_event_209 : decode cX9_event 209 = .ok (.invokevirtual 274, 3) := by decide +kernel
theorem dX9_event_212 : decode cX9_event 212 = .ok (.ireturn, 1) := by decide +kernel
theorem dX9_event_213 : decode cX9_event 213 = .ok (.aload_n 0, 1) := by decide +kernel
theorem dX9_event_214 : decode cX9_event 214 = .ok (.aload_n 0, 1) := by decide +kernel
theorem dX9_event_215 : decode cX9_event 215 = .ok (.getfield 62, 3) := by decide +kernel
theorem dX9_event_218 : decode cX9_event 218 = .ok (.iload_n 1, 1) := by decide +kernel
theorem dX9_event_219 : decode cX9_event 219 = .ok (.iaload, 1) := by decide +kernel
theorem dX9_event_220 : decode cX9_event 220 = .ok (.iconst 0, 1) := by decide +kernel
theorem dX9_event_221 : decode cX9_event 221 = .ok (.invokevirtual 271, 3) := by decide +kernel
theorem dX9_event_224 : decode cX9_event 224 = .ok (.ireturn, 1) := by decide +kernel
theorem dX9_event_225 : decode cX9_event 225 = .ok (.aload_n 0, 1) := by decide +kernel
theorem dX9_event_226 : decode cX9_event 226 = .ok (.aload_n 0, 1) := by decide +kernel
theorem dX9_event_227 : decode cX9_event 227 = .ok (.getfield 62, 3) := by decide +kernel
theorem dX9_event_230 : decode cX9_event 230 = .ok (.iload_n 1, 1) := by decide +kernel
theorem dX9_event_231 : decode cX9_event 231 = .ok (.iaload, 1) := by decide +kernel
theorem dX9_event_232 : decode cX9_event 232 = .ok (.iconst 1, 1) := by decide +kernel
theorem dX9_event_233 : decode cX9_event 233 = .ok (.invokevirtual 271, 3) := by decide +kernel
theorem dX9_event_236 : decode cX9_event 236 = .ok (.ireturn, 1) := by decide +kernel
theorem dX9_event_237 : decode cX9_event 237 = .ok (.aload_n 0, 1) := by decide +kernel
theorem dX9_event_238 : decode cX9_event 238 = .ok (.aload_n 0, 1) := by decide +kernel
theorem dX9_event_239 : decode cX9_event 239 = .ok (.getfield 65, 3) := by decide +kernel
theorem dX9_event_242 : decode cX9_event 242 = .ok (.iload_n 1, 1) := by decide +kernel
theorem dX9_event_243 : decode cX9_event 243 = .ok (.iaload, 1) := by decide +kernel
theorem dX9_event_244 : decode cX9_event 244 = .ok (.iconst 0, 1) := by decide +kernel
theorem dX9_event_245 : decode cX9_event 245 = .ok (.invokevirtual 271, 3) := by decide +kernel
theorem dX9_event_248 : decode cX9_event 248 = .ok (.ireturn, 1) := by decide +kernel
theorem dX9_event_249 : decode cX9_event 249 = .ok (.aload_n 0, 1) := by decide +kernel
theorem dX9_event_250 : decode cX9_event 250 = .ok (.aload_n 0, 1) := by decide +kernel
theorem dX9_event_251 : decode cX9_event 251 = .ok (.getfield 65, 3) := by decide +kernel
theorem dX9_event_254 : decode cX9_event 254 = .ok (.iload_n 1, 1) := by decide +kernel
theorem dX9_event_255 : decode cX9_event 255 = .ok (.iaload, 1) := by decide +kernel
theorem dX9_event_256 : decode cX9_event 256 = .ok (.iconst 1, 1) := by decide +kernel
theorem dX9_event_257 : decode cX9_event 257 = .ok (.invokevirtual 271, 3) := by decide +kernel
theorem dX9_event_260 : decode cX9_event 260 = .ok (.ireturn, 1) := by decide +kernel
theorem dX9_event_261 : decode cX9_event 261 = .ok (.aload_n 0, 1) := by decide +kernel
theorem dX9_event_262 : decode cX9_event 262 = .ok (.iload_n 1, 1) := by decide +kernel
theorem dX9_event_263 : decode cX9_event 263 = .ok (.invokevirtual 277, 3) := by decide +kernel
theorem dX9_event_266 : decode cX9_event 266 = .ok (.ireturn, 1) := by decide +kernel
set_option maxRecDepth 20000 in
theorem ggX9_lineOf_X9_linesOf : GoodIn wsX9_lineOf wsX9_linesOf := goodIn_r _ [9, 3, 4, 10, 11, 12, 13, 14, 15, 16, 17, 18, 19, 20, 21, 22, 23, 24, 25, 26, 27, 28, 29, 30, 31, 32, 33, 34, 35, 36, 37, 38, 39, 40, 41, 42, 43, 44, 45] (by decide +kernel) (by decide +kernel)
set_option maxRecDepth 20000 in
theorem gX9_lineOf_X9_linesOf : GoodIn wsX9_lineOf (wsV RX9 277 RX9 yX9_linesOf wsX9_linesOf) := goodIn_app (goodIn_of _ (by decide +kernel)) ggX9_lineOf_X9_linesOf
theorem dX9_lineOf_0 : decode cX9_lineOf 0 = .ok (.iload_n 2, 1) := by decide +kernel
theorem dX9_lineOf_1 : decode cX9_lineOf 1 = .ok (.ifCond .ne 10, 3) := by decide +kernel
theorem dX9_lineOf_4 : decode cX9_lineOf 4 = .ok (.aload_n 0, 1) := by decide +kernel
theorem dX9_lineOf_5 : decode cX9_lineOf 5 = .ok (.getfield 56, 3) := by decide +kernel
theorem dX9_lineOf_8 : decode cX9_lineOf 8 = .ok (.iload_n 1, 1) := by decide +kernel
theorem dX9_lineOf_9 : decode cX9_lineOf 9 = .ok (.iaload, 1) := by decide +kernel
theorem dX9_lineOf_10 : decode cX9_lineOf 10 = .ok (.ireturn, 1) := by decide +kernel
theorem dX9_lineOf_11 : decode cX9_lineOf 11 = .ok (.iload_n 2, 1) := by decide +kernel
theorem dX9_lineOf_12 : decode cX9_lineOf 12 = .ok (.aload_n 0, 1) := by decide +kernel
theorem dX9_lineOf_13 : decode cX9_lineOf 13 = .ok (.iload_n 1, 1) := by decide +kernel
theorem dX9_lineOf_14 : decode cX9_lineOf 14 = .ok (.invokevirtual 277, 3) := by decide +kernel
theorem dX9_lineOf_17 : decode cX9_lineOf 17 = .ok (.iconst 1, 1) := by decide +kernel
theorem dX9_lineOf_18 : decode cX9_lineOf 18 = .ok (.isub, 1) := by decide +kernel
theorem dX9_lineOf_19 : decode cX9_lineOf 19 = .ok (.if_icmp .ne 10, 3) := by decide +kernel
theorem dX9_lineOf_22 : decode cX9_lineOf 22 = .ok (.aload_n 0, 1) := by decide +kernel
theorem dX9_lineOf_23 : decode cX9_lineOf 23 = .ok (.getfield 59, 3) := by decide +kernel
theorem dX9_lineOf_26 : decode cX9_lineOf 26 = .ok (.iload_n 1, 1) := by decide +kernel
theorem dX9_lineOf_27 : decode cX9_lineOf 27 = .ok (.iaload, 1) := by decide +kernel
theorem dX9_lineOf_28 : decode cX9_lineOf 28 = .ok (.ireturn, 1) := by decide +kernel
theorem dX9_lineOf_29 : decode cX9_lineOf 29 = .ok (.iload_n 2, 1) := by decide +kernel
theorem dX9_lineOf_30 : decode cX9_lineOf 30 = .ok (.iconst 1, 1) := by decide +kernel
theorem dX9_lineOf_31 : decode cX9_lineOf 31 = .ok (.if_icmp .ne 22, 3) := by decide +kernel
theorem dX9_lineOf_34 : decode cX9_lineOf 34 = .ok (.aload_n 0, 1) := by decide +kernel
theorem dX9_lineOf_35 : decode cX9_lineOf 35 = .ok (.getfield 62, 3) := by decide +kernel
theorem dX9_lineOf_38 : decode cX9_lineOf 38 = .ok (.iload_n 1, 1) := by decide +kernel
theorem dX9_lineOf_39 : decode cX9_lineOf 39 = .ok (.iaload, 1) := by decide +kernel
theorem dX9_lineOf_40 : decode cX9_lineOf 40 = .ok (.iconst (-1), 1) := by decide +kernel
theorem dX9_lineOf_41 : decode cX9_lineOf 41 = .ok (.if_icmp .eq 12, 3) := by decide +kernel
theorem dX9_lineOf_44 : decode cX9_lineOf 44 = .ok (.aload_n 0, 1) := by decide +kernel
theorem dX9_lineOf_45 : decode cX9_lineOf 45 = .ok (.getfield 62, 3) := by decide +kernel
theorem dX9_lineOf_48 : decode cX9_lineOf 48 = .ok (.iload_n 1, 1) := by decide +kernel
theorem dX9_lineOf_49 : decode cX9_lineOf 49 = .ok (.iaload, 1) := by decide +kernel
theorem dX9_lineOf_50 : decode cX9_lineOf 50 = .ok (.goto 9, 3) := by decide +kernel
theorem dX9_lineOf_53 : decode cX9_lineOf 53 = .ok (.aload_n 0, 1) := by decide +kernel
theorem dX9_lineOf_54 : decode cX9_lineOf 54 = .ok (.getfield 65, 3) := by decide +kernel
theorem dX9_lineOf_57 : decode cX9_lineOf 57 = .ok (.iload_n 1, 1) := by decide +kernel
theorem dX9_lineOf_58 : decode cX9_lineOf 58 = .ok (.iaload, 1) := by decide +kernel
theorem dX9_lineOf_59 : decode cX9_lineOf 59 = .ok (.ireturn, 1) := by decide +kernel
set_option maxRecDepth 20000 in
theorem ggX9_shown_X9_isEvent : GoodIn wsX9_shown wsX9_isEvent := goodIn_r _ [17, 18, 108, 109, 110, 111, 112, 113, 114, 115, 116, 117, 118, 119, 120, 121, 122, 123, 124, 125, 126, 127, 128, 129, 130, 131, 132, 133, 134, 135, 136, 137, 138, 139, 140, 141, 142, 143] (by decide +kernel) (by decide +kernel)
set_option maxRecDepth 20000 in
theorem gX9_shown_X9_isEvent : GoodIn wsX9_shown (wsV RX9 265 RX9 yX9_isEvent wsX9_isEvent) := goodIn_app (goodIn_of _ (by decide +kernel)) ggX9_shown_X9_isEvent
set_option maxRecDepth 20000 in
theorem ggX9_shown_X9_linesOf : GoodIn wsX9_shown wsX9_linesOf := goodIn_r _ [22, 23, 24, 108, 109, 110, 111, 112, 113, 114, 115, 116, 117, 118, 119, 120, 121, 122, 123, 124, 125, 126, 127, 128, 129, 130, 131, 132, 133, 134, 135, 136, 137, 138, 139, 140, 141, 142, 143] (by decide +kernel) (by decide +kernel)
set_option maxRecDepth 20000 in
theorem gX9_shown_X9_linesOf : GoodIn wsX9_shown (wsV RX9 277 RX9 yX9_linesOf wsX9_linesOf) := goodIn_app (goodIn_of _ (by decide +kernel)) ggX9_shown_X9_linesOf
set_option maxRecDepth 20000 in
theorem ggX9_shown_X9_lineOf : GoodIn wsX9_shown wsX9_lineOf := goodIn_r _ [28, 7, 5, 23, 24, 19, 20, 21, 16, 22, 108, 109, 110, 111, 112, 113, 114, 115, 116, 117, 118, 119, 120, 121, 122, 123, 124, 125, 126, 127, 128, 129, 130, 131, 132, 133, 134, 135, 136, 137, 138, 139, 140, 141, 142, 143] (by decide +kernel) (by decide +kernel)
set_option maxRecDepth 20000 in
theorem gX9_shown_X9_lineOf : GoodIn wsX9_shown (wsV RX9 280 RX9 yX9_lineOf wsX9_lineOf) := goodIn_app (goodIn_of _ (by decide +kernel)) ggX9_shown_X9_lineOf
set_option maxRecDepth 20000 in
theorem ggX9_shown_X9_makeMould : GoodIn wsX9_shown wsX9_makeMould := goodIn_r _ [32, 33, 34, 35, 36, 37, 38, 39, 40, 41, 42, 16, 43, 44, 45, 46, 47, 48, 49, 50, 51, 52, 53, 54, 55, 56, 57, 58, 59, 60, 61, 62, 63, 64, 65, 66, 67, 68, 69, 70, 71, 72, 73, 74, 108, 109, 110, 111, 112, 113, 114, 115, 116, 117, 118, 119, 120, 121, 122, 123, 124, 125, 126, 127, 128, 129, 130, 131, 132, 133, 134, 135, 136, 137, 138, 139, 140, 141, 142, 143] (by decide +kernel) (by decide +kernel)
set_option maxRecDepth 20000 in
theorem gX9_shown_X9_makeMould : GoodIn wsX9_shown (wsV RX9 164 RX9 yX9_makeMould wsX9_makeMould) := goodIn_app (goodIn_of _ (by decide +kernel)) ggX9_shown_X9_makeMould
set_option maxRecDepth 20000 in
theorem ggX9_shown_X9_pourNumbers : GoodIn wsX9_shown wsX9_pourNumbers := goodIn_r _ [78, 79, 80, 81, 82, 16, 83, 84, 85, 86, 87, 88, 89, 90, 91, 92, 93, 94, 95, 96, 97, 98, 99, 11, 33, 44, 100, 101, 102, 103, 12, 104, 105, 106, 107, 108, 109, 110, 111, 112, 113, 114, 115, 116, 117, 118, 119, 120, 121, 122, 123, 124, 125, 126, 127, 128, 129, 130, 131, 132, 133, 134, 135, 136, 137, 138, 139, 140, 141, 142, 143] (by decide +kernel) (by decide +kernel)
set_option maxRecDepth 20000 in
theorem gX9_shown_X9_pourNumbers : GoodIn wsX9_shown (wsV RX9 246 RX9 yX9_pourNumbers wsX9_pourNumbers) := goodIn_app (goodIn_of _ (by decide +kernel)) ggX9_shown_X9_pourNumbers
theorem dX9_shown_0 : decode cX9_shown 0 = .ok (.aload_n 0, 1) := by decide +kernel
theorem dX9_shown_1 : decode cX9_shown 1 = .ok (.aload_n 0, 1) := by decide +kernel
theorem dX9_shown_2 : decode cX9_shown 2 = .ok (.iload_n 1, 1) := by decide +kernel
theorem dX9_shown_3 : decode cX9_shown 3 = .ok (.invokevirtual 265, 3) := by decide +kernel
theorem dX9_shown_6 : decode cX9_shown 6 = .ok (.ifCond .eq 24, 3) := by decide +kernel
theorem dX9_shown_9 : decode cX9_shown 9 = .ok (.iload_n 2, 1) := by decide +kernel
theorem dX9_shown_10 : decode cX9_shown 10 = .ok (.ifCond .lt 20, 3) := by decide +kernel
theorem dX9_shown_13 : decode cX9_shown 13 = .ok (.iload_n 2, 1) := by decide +kernel
theorem dX9_shown_14 : decode cX9_shown 14 = .ok (.aload_n 0, 1) := by decide +kernel
theorem dX9_shown_15 : decode cX9_shown 15 = .ok (.iload_n 1, 1) := by decide +kernel
theorem dX9_shown_16 : decode cX9_shown 16 = .ok (.invokevirtual 277, 3) := by decide +kernel
theorem dX9_shown_19 : decode cX9_shown 19 = .ok (.if_icmp .ge 11, 3) := by decide +kernel
theorem dX9_shown_22 : decode cX9_shown 22 = .ok (.iload_n 3, 1) := by decide +kernel
theorem dX9_shown_23 : decode cX9_shown 23 = .ok (.ifCond .lt 7, 3) := by decide +kernel
theorem dX9_shown_26 : decode cX9_shown 26 = .ok (.iconst 0, 1) := by decide +kernel
theorem dX9_shown_27 : decode cX9_shown 27 = .ok (.goto 4, 3) := by decide +kernel
theorem dX9_shown_30 : decode cX9_shown 30 = .ok (.iconst 1, 1) := by decide +kernel
theorem dX9_shown_31 : decode cX9_shown 31 = .ok (.putfield 84, 3) := by decide +kernel
theorem dX9_shown_34 : decode cX9_shown 34 = .ok (.aload_n 0, 1) := by decide +kernel
theorem dX9_shown_35 : decode cX9_shown 35 = .ok (.getfield 84, 3) := by decide +kernel
theorem dX9_shown_38 : decode cX9_shown 38 = .ok (.ifCond .eq 5, 3) := by decide +kernel
theorem dX9_shown_41 : decode cX9_shown 41 = .ok (.iconst 0, 1) := by decide +kernel
theorem dX9_shown_42 : decode cX9_shown 42 = .ok (.ireturn, 1) := by decide +kernel
theorem dX9_shown_43 : decode cX9_shown 43 = .ok (.aload_n 0, 1) := by decide +kernel
theorem dX9_shown_44 : decode cX9_shown 44 = .ok (.iload_n 1, 1) := by decide +kernel
theorem dX9_shown_45 : decode cX9_shown 45 = .ok (.iload_n 2, 1) := by decide +kernel
theorem dX9_shown_46 : decode cX9_shown 46 = .ok (.invokevirtual 280, 3) := by decide +kernel
theorem dX9_shown_49 : decode cX9_shown 49 = .ok (.istore 4, 2) := by decide +kernel
theorem dX9_shown_51 : decode cX9_shown 51 = .ok (.aload_n 0, 1) := by decide +kernel
theorem dX9_shown_52 : decode cX9_shown 52 = .ok (.aload_n 0, 1) := by decide +kernel
theorem dX9_shown_53 : decode cX9_shown 53 = .ok (.getfield 35, 3) := by decide +kernel
theorem dX9_shown_56 : decode cX9_shown 56 = .ok (.iload 4, 2) := by decide +kernel
theorem dX9_shown_58 : decode cX9_shown 58 = .ok (.iaload, 1) := by decide +kernel
theorem dX9_shown_59 : decode cX9_shown 59 = .ok (.aload_n 0, 1) := by decide +kernel
theorem dX9_shown_60 : decode cX9_shown 60 = .ok (.getfield 38, 3) := by decide +kernel
theorem dX9_shown_63 : decode cX9_shown 63 = .ok (.iload 4, 2) := by decide +kernel
theorem dX9_shown_65 : decode cX9_shown 65 = .ok (.iaload, 1) := by decide +kernel
theorem dX9_shown_66 : decode cX9_shown 66 = .ok (.aload_n 0, 1) := by decide +kernel
theorem dX9_shown_67 : decode cX9_shown 67 = .ok (.getfield 41, 3) := by decide +kernel
theorem dX9_shown_70 : decode cX9_shown 70 = .ok (.iload 4, 2) := by decide +kernel
theorem dX9_shown_72 : decode cX9_shown 72 = .ok (.iaload, 1) := by decide +kernel
theorem dX9_shown_73 : decode cX9_shown 73 = .ok (.invokevirtual 164, 3) := by decide +kernel
theorem dX9_shown_76 : decode cX9_shown 76 = .ok (.iload 4, 2) := by decide +kernel
theorem dX9_shown_78 : decode cX9_shown 78 = .ok (.aload_n 0, 1) := by decide +kernel
theorem dX9_shown_79 : decode cX9_shown 79 = .ok (.getfield 59, 3) := by decide +kernel
theorem dX9_shown_82 : decode cX9_shown 82 = .ok (.iload_n 1, 1) := by decide +kernel
theorem dX9_shown_83 : decode cX9_shown 83 = .ok (.iaload, 1) := by decide +kernel
theorem dX9_shown_84 : decode cX9_shown 84 = .ok (.if_icmp .ne 13, 3) := by decide +kernel
theorem dX9_shown_87 : decode cX9_shown 87 = .ok (.aload_n 0, 1) := by decide +kernel
theorem dX9_shown_88 : decode cX9_shown 88 = .ok (.getfield 44, 3) := by decide +kernel
theorem dX9_shown_91 : decode cX9_shown 91 = .ok (.iload 4, 2) := by decide +kernel
theorem dX9_shown_93 : decode cX9_shown 93 = .ok (.iaload, 1) := by decide +kernel
theorem dX9_shown_94 : decode cX9_shown 94 = .ok (.goto 14, 3) := by decide +kernel
theorem dX9_shown_97 : decode cX9_shown 97 = .ok (.aload_n 0, 1) := by decide +kernel
theorem dX9_shown_98 : decode cX9_shown 98 = .ok (.getfield 44, 3) := by decide +kernel
theorem dX9_shown_101 : decode cX9_shown 101 = .ok (.aload_n 0, 1) := by decide +kernel
theorem dX9_shown_102 : decode cX9_shown 102 = .ok (.getfield 56, 3) := by decide +kernel
theorem dX9_shown_105 : decode cX9_shown 105 = .ok (.iload_n 1, 1) := by decide +kernel
theorem dX9_shown_106 : decode cX9_shown 106 = .ok (.iaload, 1) := by decide +kernel
theorem dX9_shown_107 : decode cX9_shown 107 = .ok (.iaload, 1) := by decide +kernel
theorem dX9_shown_108 : decode cX9_shown 108 = .ok (.istore 5, 2) := by decide +kernel
theorem dX9_shown_110 : decode cX9_shown 110 = .ok (.aload_n 0, 1) := by decide +kernel
theorem dX9_shown_111 : decode cX9_shown 111 = .ok (.aload_n 0, 1) := by decide +kernel
theorem dX9_shown_112 : decode cX9_shown 112 = .ok (.getfield 35, 3) := by decide +kernel
theorem dX9_shown_115 : decode cX9_shown 115 = .ok (.iload 4, 2) := by decide +kernel
theorem dX9_shown_117 : decode cX9_shown 117 = .ok (.iaload, 1) := by decide +kernel
theorem dX9_shown_118 : decode cX9_shown 118 = .ok (.aload_n 0, 1) := by decide +kernel
theorem dX9_shown_119 : decode cX9_shown 119 = .ok (.getfield 47, 3) := by decide +kernel
theorem dX9_shown_122 : decode cX9_shown 122 = .ok (.iload 4, 2) := by decide +kernel
theorem dX9_shown_124 : decode cX9_shown 124 = .ok (.iaload, 1) := by decide +kernel
theorem dX9_shown_125 : decode cX9_shown 125 = .ok (.iload 5, 2) := by decide +kernel
theorem dX9_shown_127 : decode cX9_shown 127 = .ok (.aload_n 0, 1) := by decide +kernel
theorem dX9_shown_128 : decode cX9_shown 128 = .ok (.getfield 50, 3) := by decide +kernel
theorem dX9_shown_131 : decode cX9_shown 131 = .ok (.iconst 3, 1) := by decide +kernel
theorem dX9_shown_132 : decode cX9_shown 132 = .ok (.iload 4, 2) := by decide +kernel
theorem dX9_shown_134 : decode cX9_shown 134 = .ok (.imul, 1) := by decide +kernel
theorem dX9_shown_135 : decode cX9_shown 135 = .ok (.iaload, 1) := by decide +kernel
theorem dX9_shown_136 : decode cX9_shown 136 = .ok (.aload_n 0, 1) := by decide +kernel
theorem dX9_shown_137 : decode cX9_shown 137 = .ok (.getfield 50, 3) := by decide +kernel
theorem dX9_shown_140 : decode cX9_shown 140 = .ok (.iconst 3, 1) := by decide +kernel
theorem dX9_shown_141 : decode cX9_shown 141 = .ok (.iload 4, 2) := by decide +kernel
theorem dX9_shown_143 : decode cX9_shown 143 = .ok (.imul, 1) := by decide +kernel
theorem dX9_shown_144 : decode cX9_shown 144 = .ok (.iconst 1, 1) := by decide +kernel
theorem dX9_shown_145 : decode cX9_shown 145 = .ok (.iadd, 1) := by decide +kernel
theorem dX9_shown_146 : decode cX9_shown 146 = .ok (.iaload, 1) := by decide +kernel
theorem dX9_shown_147 : decode cX9_shown 147 = .ok (.aload_n 0, 1) := by decide +kernel
theorem dX9_shown_148 : decode cX9_shown 148 = .ok (.getfield 50, 3) := by decide +kernel
theorem dX9_shown_151 : decode cX9_shown 151 = .ok (.iconst 3, 1) := by decide +kernel
theorem dX9_shown_152 : decode cX9_shown 152 = .ok (.iload 4, 2) := by decide +kernel
theorem dX9_shown_154 : decode cX9_shown 154 = .ok (.imul, 1) := by decide +kernel
theorem dX9_shown_155 : decode cX9_shown 155 = .ok (.iconst 2, 1) := by decide +kernel
theorem dX9_shown_156 : decode cX9_shown 156 = .ok (.iadd, 1) := by decide +kernel
theorem dX9_shown_157 : decode cX9_shown 157 = .ok (.iaload, 1) := by decide +kernel
theorem dX9_shown_158 : decode cX9_shown 158 = .ok (.aload_n 0, 1) := by decide +kernel
theorem dX9_shown_159 : decode cX9_shown 159 = .ok (.getfield 53, 3) := by decide +kernel
theorem dX9_shown_162 : decode cX9_shown 162 = .ok (.iload 4, 2) := by decide +kernel
theorem dX9_shown_164 : decode cX9_shown 164 = .ok (.iaload, 1) := by decide +kernel
theorem dX9_shown_165 : decode cX9_shown 165 = .ok (.invokevirtual 246, 3) := by decide +kernel
theorem dX9_shown_168 : decode cX9_shown 168 = .ok (.iload_n 3, 1) := by decide +kernel
theorem dX9_shown_169 : decode cX9_shown 169 = .ok (.aload_n 0, 1) := by decide +kernel
theorem dX9_shown_170 : decode cX9_shown 170 = .ok (.getfield 229, 3) := by decide +kernel
theorem dX9_shown_173 : decode cX9_shown 173 = .ok (.if_icmp .ge 12, 3) := by decide +kernel
theorem dX9_shown_176 : decode cX9_shown 176 = .ok (.aload_n 0, 1) := by decide +kernel
theorem dX9_shown_177 : decode cX9_shown 177 = .ok (.getfield 16, 3) := by decide +kernel
theorem dX9_shown_180 : decode cX9_shown 180 = .ok (.iload_n 3, 1) := by decide +kernel
theorem dX9_shown_181 : decode cX9_shown 181 = .ok (.iaload, 1) := by decide +kernel
theorem dX9_shown_182 : decode cX9_shown 182 = .ok (.goto 4, 3) := by decide +kernel
theorem dX9_shown_185 : decode cX9_shown 185 = .ok (.iconst (-1), 1) := by decide +kernel
theorem dX9_shown_186 : decode cX9_shown 186 = .ok (.ireturn, 1) := by decide +kernel
set_option maxRecDepth 20000 in
theorem ggX9_diagnostic_X9_tells : GoodIn wsX9_diagnostic wsX9_tells := goodIn_r _ [9] (by decide +kernel) (by decide +kernel)
set_option maxRecDepth 20000 in
theorem gX9_diagnostic_X9_tells : GoodIn wsX9_diagnostic (va_wsS RX9 238 yX9_tells wsX9_tells) := goodIn_app (goodIn_of _ (by decide +kernel)) ggX9_diagnostic_X9_tells
theorem dX9_diagnostic_0 : decode cX9_diagnostic 0 = .ok (.aload_n 0, 1) := by decide +kernel
theorem dX9_diagnostic_1 : decode cX9_diagnostic 1 = .ok (.iload_n 1, 1) := by decide +kernel
theorem dX9_diagnostic_2 : decode cX9_diagnostic 2 = .ok (.ifCond .lt 29, 3) := by decide +kernel
theorem dX9_diagnostic_5 : decode cX9_diagnostic 5 = .ok (.iload_n 1, 1) := by decide +kernel
theorem dX9_diagnostic_6 : decode cX9_diagnostic 6 = .ok (.bipush 12, 2) := by decide +kernel
theorem dX9_diagnostic_8 : decode cX9_diagnostic 8 = .ok (.if_icmp .ge 23, 3) := by decide +kernel
theorem dX9_diagnostic_11 : decode cX9_diagnostic 11 = .ok (.iload_n 1, 1) := by decide +kernel
theorem dX9_diagnostic_12 : decode cX9_diagnostic 12 = .ok (.aload_n 0, 1) := by decide +kernel
theorem dX9_diagnostic_13 : decode cX9_diagnostic 13 = .ok (.getfield 208, 3) := by decide +kernel
theorem dX9_diagnostic_16 : decode cX9_diagnostic 16 = .ok (.if_icmp .ge 15, 3) := by decide +kernel
theorem dX9_diagnostic_19 : decode cX9_diagnostic 19 = .ok (.iload_n 2, 1) := by decide +kernel
theorem dX9_diagnostic_20 : decode cX9_diagnostic 20 = .ok (.iconst 2, 1) := by decide +kernel
theorem dX9_diagnostic_21 : decode cX9_diagnostic 21 = .ok (.invokestatic 238, 3) := by decide +kernel
theorem dX9_diagnostic_24 : decode cX9_diagnostic 24 = .ok (.ifCond .eq 7, 3) := by decide +kernel
theorem dX9_diagnostic_27 : decode cX9_diagnostic 27 = .ok (.iconst 0, 1) := by decide +kernel
theorem dX9_diagnostic_28 : decode cX9_diagnostic 28 = .ok (.goto 4, 3) := by decide +kernel
theorem dX9_diagnostic_31 : decode cX9_diagnostic 31 = .ok (.iconst 1, 1) := by decide +kernel
theorem dX9_diagnostic_32 : decode cX9_diagnostic 32 = .ok (.putfield 84, 3) := by decide +kernel
theorem dX9_diagnostic_35 : decode cX9_diagnostic 35 = .ok (.aload_n 0, 1) := by decide +kernel
theorem dX9_diagnostic_36 : decode cX9_diagnostic 36 = .ok (.getfield 84, 3) := by decide +kernel
theorem dX9_diagnostic_39 : decode cX9_diagnostic 39 = .ok (.ifCond .eq 5, 3) := by decide +kernel
theorem dX9_diagnostic_42 : decode cX9_diagnostic 42 = .ok (.iconst 0, 1) := by decide +kernel
theorem dX9_diagnostic_43 : decode cX9_diagnostic 43 = .ok (.ireturn, 1) := by decide +kernel
theorem dX9_diagnostic_44 : decode cX9_diagnostic 44 = .ok (.aload_n 0, 1) := by decide +kernel
theorem dX9_diagnostic_45 : decode cX9_diagnostic 45 = .ok (.getfield 208, 3) := by decide +kernel
theorem dX9_diagnostic_48 : decode cX9_diagnostic 48 = .ok (.iconst 1, 1) := by decide +kernel
theorem dX9_diagnostic_49 : decode cX9_diagnostic 49 = .ok (.isub, 1) := by decide +kernel
theorem dX9_diagnostic_50 : decode cX9_diagnostic 50 = .ok (.iload_n 1, 1) := by decide +kernel
theorem dX9_diagnostic_51 : decode cX9_diagnostic 51 = .ok (.isub, 1) := by decide +kernel
theorem dX9_diagnostic_52 : decode cX9_diagnostic 52 = .ok (.istore_n 3, 1) := by decide +kernel
theorem dX9_diagnostic_53 : decode cX9_diagnostic 53 = .ok (.iload_n 2, 1) := by decide +kernel
theorem dX9_diagnostic_54 : decode cX9_diagnostic 54 = .ok (.ifCond .ne 12, 3) := by decide +kernel
theorem dX9_diagnostic_57 : decode cX9_diagnostic 57 = .ok (.aload_n 0, 1) := by decide +kernel
theorem dX9_diagnostic_58 : decode cX9_diagnostic 58 = .ok (.getfield 68, 3) := by decide +kernel
theorem dX9_diagnostic_61 : decode cX9_diagnostic 61 = .ok (.iload_n 3, 1) := by decide +kernel
theorem dX9_diagnostic_62 : decode cX9_diagnostic 62 = .ok (.iaload, 1) := by decide +kernel
theorem dX9_diagnostic_63 : decode cX9_diagnostic 63 = .ok (.goto 25, 3) := by decide +kernel
theorem dX9_diagnostic_66 : decode cX9_diagnostic 66 = .ok (.iload_n 2, 1) := by decide +kernel
theorem dX9_diagnostic_67 : decode cX9_diagnostic 67 = .ok (.iconst 1, 1) := by decide +kernel
theorem dX9_diagnostic_68 : decode cX9_diagnostic 68 = .ok (.if_icmp .ne 14, 3) := by decide +kernel
theorem dX9_diagnostic_71 : decode cX9_diagnostic 71 = .ok (.aload_n 0, 1) := by decide +kernel
theorem dX9_diagnostic_72 : decode cX9_diagnostic 72 = .ok (.getfield 71, 3) := by decide +kernel
theorem dX9_diagnostic_75 : decode cX9_diagnostic 75 = .ok (.iload_n 3, 1) := by decide +kernel
theorem dX9_diagnostic_76 : decode cX9_diagnostic 76 = .ok (.iaload, 1) := by decide +kernel
theorem dX9_diagnostic_77 : decode cX9_diagnostic 77 = .ok (.iconst 1, 1) := by decide +kernel
theorem dX9_diagnostic_78 : decode cX9_diagnostic 78 = .ok (.iadd, 1) := by decide +kernel
theorem dX9_diagnostic_79 : decode cX9_diagnostic 79 = .ok (.goto 9, 3) := by decide +kernel
theorem dX9_diagnostic_82 : decode cX9_diagnostic 82 = .ok (.aload_n 0, 1) := by decide +kernel
theorem dX9_diagnostic_83 : decode cX9_diagnostic 83 = .ok (.getfield 74, 3) := by decide +kernel
theorem dX9_diagnostic_86 : decode cX9_diagnostic 86 = .ok (.iload_n 3, 1) := by decide +kernel
theorem dX9_diagnostic_87 : decode cX9_diagnostic 87 = .ok (.iaload, 1) := by decide +kernel
theorem dX9_diagnostic_88 : decode cX9_diagnostic 88 = .ok (.ireturn, 1) := by decide +kernel
theorem dX9_span_0 : decode cX9_span 0 = .ok (.lconst 0, 1) := by decide +kernel
theorem dX9_span_1 : decode cX9_span 1 = .ok (.lstore_n 1, 1) := by decide +kernel
theorem dX9_span_2 : decode cX9_span 2 = .ok (.iconst (-1), 1) := by decide +kernel
theorem dX9_span_3 : decode cX9_span 3 = .ok (.istore_n 3, 1) := by decide +kernel
theorem dX9_span_4 : decode cX9_span 4 = .ok (.iconst 0, 1) := by decide +kernel
theorem dX9_span_5 : decode cX9_span 5 = .ok (.istore 4, 2) := by decide +kernel
theorem dX9_span_7 : decode cX9_span 7 = .ok (.iload 4, 2) := by decide +kernel
theorem dX9_span_9 : decode cX9_span 9 = .ok (.aload_n 0, 1) := by decide +kernel
theorem dX9_span_10 : decode cX9_span 10 = .ok (.getfield 175, 3) := by decide +kernel
theorem dX9_span_13 : decode cX9_span 13 = .ok (.if_icmp .ge 61, 3) := by decide +kernel
theorem dX9_span_16 : decode cX9_span 16 = .ok (.aload_n 0, 1) := by decide +kernel
theorem dX9_span_17 : decode cX9_span 17 = .ok (.getfield 25, 3) := by decide +kernel
theorem dX9_span_20 : decode cX9_span 20 = .ok (.iload 4, 2) := by decide +kernel
theorem dX9_span_22 : decode cX9_span 22 = .ok (.baload, 1) := by decide +kernel
theorem dX9_span_23 : decode cX9_span 23 = .ok (.ifCond .eq 45, 3) := by decide +kernel
theorem dX9_span_26 : decode cX9_span 26 = .ok (.iload_n 3, 1) := by decide +kernel
theorem dX9_span_27 : decode cX9_span 27 = .ok (.iconst (-1), 1) := by decide +kernel
theorem dX9_span_28 : decode cX9_span 28 = .ok (.if_icmp .eq 37, 3) := by decide +kernel
theorem dX9_span_31 : decode cX9_span 31 = .ok (.aload_n 0, 1) := by decide +kernel
theorem dX9_span_32 : decode cX9_span 32 = .ok (.getfield 22, 3) := by decide +kernel
theorem dX9_span_35 : decode cX9_span 35 = .ok (.iload_n 3, 1) := by decide +kernel
theorem dX9_span_36 : decode cX9_span 36 = .ok (.iaload, 1) := by decide +kernel
theorem dX9_span_37 : decode cX9_span 37 = .ok (.aload_n 0, 1) := by decide +kernel
theorem dX9_span_38 : decode cX9_span 38 = .ok (.getfield 22, 3) := by decide +kernel
theorem dX9_span_41 : decode cX9_span 41 = .ok (.iload 4, 2) := by decide +kernel
theorem dX9_span_43 : decode cX9_span 43 = .ok (.iaload, 1) := by decide +kernel
theorem dX9_span_44 : decode cX9_span 44 = .ok (.if_icmp .ne 21, 3) := by decide +kernel
theorem dX9_span_47 : decode cX9_span 47 = .ok (.lload_n 1, 1) := by decide +kernel
theorem dX9_span_48 : decode cX9_span 48 = .ok (.aload_n 0, 1) := by decide +kernel
theorem dX9_span_49 : decode cX9_span 49 = .ok (.getfield 44, 3) := by decide +kernel
theorem dX9_span_52 : decode cX9_span 52 = .ok (.iload 4, 2) := by decide +kernel
theorem dX9_span_54 : decode cX9_span 54 = .ok (.iaload, 1) := by decide +kernel
theorem dX9_span_55 : decode cX9_span 55 = .ok (.aload_n 0, 1) := by decide +kernel
theorem dX9_span_56 : decode cX9_span 56 = .ok (.getfield 44, 3) := by decide +kernel
theorem dX9_span_59 : decode cX9_span 59 = .ok (.iload_n 3, 1) := by decide +kernel
theorem dX9_span_60 : decode cX9_span 60 = .ok (.iaload, 1) := by decide +kernel
theorem dX9_span_61 : decode cX9_span 61 = .ok (.isub, 1) := by decide +kernel
theorem dX9_span_62 : decode cX9_span 62 = .ok (.i2l, 1) := by decide +kernel
theorem dX9_span_63 : decode cX9_span 63 = .ok (.ladd, 1) := by decide +kernel
theorem dX9_span_64 : decode cX9_span 64 = .ok (.lstore_n 1, 1) := by decide +kernel
theorem dX9_span_65 : decode cX9_span 65 = .ok (.iload 4, 2) := by decide +kernel
theorem dX9_span_67 : decode cX9_span 67 = .ok (.istore_n 3, 1) := by decide +kernel
theorem dX9_span_68 : decode cX9_span 68 = .ok (.iinc 4 1, 3) := by decide +kernel
theorem dX9_span_71 : decode cX9_span 71 = .ok (.goto (-64), 3) := by decide +kernel
theorem dX9_span_74 : decode cX9_span 74 = .ok (.lload_n 1, 1) := by decide +kernel
theorem dX9_span_75 : decode cX9_span 75 = .ok (.lreturn, 1) := by decide +kernel
set_option maxRecDepth 20000 in
theorem ggX9_pauses_X9_isPause : GoodIn wsX9_pauses wsX9_isPause := goodIn_r _ [6, 7, 8, 9, 10, 11, 12, 13, 14, 15, 16, 17, 18, 19, 20, 21, 22, 23, 24, 25, 26, 27, 28, 29, 30, 31, 32, 33, 34, 35, 36, 37, 38, 39, 40, 41, 42, 43, 44] (by decide +kernel) (by decide +kernel)
set_option maxRecDepth 20000 in
theorem gX9_pauses_X9_isPause : GoodIn wsX9_pauses (wsV RX9 259 RX9 yX9_isPause wsX9_isPause) := goodIn_app (goodIn_of _ (by decide +kernel)) ggX9_pauses_X9_isPause
theorem dX9_pauses_0 : decode cX9_pauses 0 = .ok (.iconst 0, 1) := by decide +kernel
theorem dX9_pauses_1 : decode cX9_pauses 1 = .ok (.istore_n 1, 1) := by decide +kernel
theorem dX9_pauses_2 : decode cX9_pauses 2 = .ok (.iconst 0, 1) := by decide +kernel
theorem dX9_pauses_3 : decode cX9_pauses 3 = .ok (.istore_n 2, 1) := by decide +kernel
theorem dX9_pauses_4 : decode cX9_pauses 4 = .ok (.iload_n 2, 1) := by decide +kernel
theorem dX9_pauses_5 : decode cX9_pauses 5 = .ok (.aload_n 0, 1) := by decide +kernel
theorem dX9_pauses_6 : decode cX9_pauses 6 = .ok (.getfield 205, 3) := by decide +kernel
theorem dX9_pauses_9 : decode cX9_pauses 9 = .ok (.if_icmp .ge 20, 3) := by decide +kernel
theorem dX9_pauses_12 : decode cX9_pauses 12 = .ok (.aload_n 0, 1) := by decide +kernel
theorem dX9_pauses_13 : decode cX9_pauses 13 = .ok (.iload_n 2, 1) := by decide +kernel
theorem dX9_pauses_14 : decode cX9_pauses 14 = .ok (.invokevirtual 259, 3) := by decide +kernel
theorem dX9_pauses_17 : decode cX9_pauses 17 = .ok (.ifCond .eq 6, 3) := by decide +kernel
theorem dX9_pauses_20 : decode cX9_pauses 20 = .ok (.iinc 1 1, 3) := by decide +kernel
theorem dX9_pauses_23 : decode cX9_pauses 23 = .ok (.iinc 2 1, 3) := by decide +kernel
theorem dX9_pauses_26 : decode cX9_pauses 26 = .ok (.goto (-22), 3) := by decide +kernel
theorem dX9_pauses_29 : decode cX9_pauses 29 = .ok (.iload_n 1, 1) := by decide +kernel
theorem dX9_pauses_30 : decode cX9_pauses 30 = .ok (.ireturn, 1) := by decide +kernel
set_option maxRecDepth 20000 in
theorem ggX9_throughput_X9_span : GoodIn wsX9_throughput wsX9_span := goodIn_r _ [8, 9, 10, 11, 12, 27, 28, 29, 30, 31, 32, 33, 34, 35, 36, 37, 38, 39, 40, 41, 42, 43, 44, 45, 46, 47, 48, 49, 50, 51, 52, 53, 54, 55, 56, 57, 58, 59, 60, 61, 62] (by decide +kernel) (by decide +kernel)
set_option maxRecDepth 20000 in
theorem gX9_throughput_X9_span : GoodIn wsX9_throughput (wsV RX9 283 RX9 yX9_span wsX9_span) := goodIn_app (goodIn_of _ (by decide +kernel)) ggX9_throughput_X9_span
set_option maxRecDepth 20000 in
theorem ggX9_throughput_X9_isPause : GoodIn wsX9_throughput wsX9_isPause := goodIn_r _ [16, 17, 18, 27, 28, 29, 30, 31, 32, 33, 34, 35, 36, 37, 38, 39, 40, 41, 42, 43, 44, 45, 46, 47, 48, 49, 50, 51, 52, 53, 54, 55, 56, 57, 58, 59, 60, 61, 62] (by decide +kernel) (by decide +kernel)
set_option maxRecDepth 20000 in
theorem gX9_throughput_X9_isPause : GoodIn wsX9_throughput (wsV RX9 259 RX9 yX9_isPause wsX9_isPause) := goodIn_app (goodIn_of _ (by decide +kernel)) ggX9_throughput_X9_isPause
set_option maxRecDepth 20000 in
theorem ggX9_throughput_X9_tookOf : GoodIn wsX9_throughput wsX9_tookOf := goodIn_r _ [22, 18, 17, 23, 3, 12, 24, 25, 26, 27, 28, 29, 30, 31, 32, 33, 34, 35, 36, 37, 38, 39, 40, 41, 42, 43, 44, 45, 46, 47, 48, 49, 50, 51, 52, 53, 54, 55, 56, 57, 58, 59, 60, 61, 62] (by decide +kernel) (by decide +kernel)
set_option maxRecDepth 20000 in
theorem gX9_throughput_X9_tookOf : GoodIn wsX9_throughput (wsV RX9 274 RX9 yX9_tookOf wsX9_tookOf) := goodIn_app (goodIn_of _ (by decide +kernel)) ggX9_throughput_X9_tookOf
theorem dX9_throughput_0 : decode cX9_throughput 0 = .ok (.aload_n 0, 1) := by decide +kernel
theorem dX9_throughput_1 : decode cX9_throughput 1 = .ok (.invokevirtual 283, 3) := by decide +kernel
theorem dX9_throughput_4 : decode cX9_throughput 4 = .ok (.lstore_n 1, 1) := by decide +kernel
theorem dX9_throughput_5 : decode cX9_throughput 5 = .ok (.aload_n 0, 1) := by decide +kernel
theorem dX9_throughput_6 : decode cX9_throughput 6 = .ok (.lload_n 1, 1) := by decide +kernel
theorem dX9_throughput_7 : decode cX9_throughput 7 = .ok (.lconst 0, 1) := by decide +kernel
theorem dX9_throughput_8 : decode cX9_throughput 8 = .ok (.lcmp, 1) := by decide +kernel
theorem dX9_throughput_9 : decode cX9_throughput 9 = .ok (.ifCond .ne 7, 3) := by decide +kernel
theorem dX9_throughput_12 : decode cX9_throughput 12 = .ok (.iconst 1, 1) := by decide +kernel
theorem dX9_throughput_13 : decode cX9_throughput 13 = .ok (.goto 4, 3) := by decide +kernel
theorem dX9_throughput_16 : decode cX9_throughput 16 = .ok (.iconst 0, 1) := by decide +kernel
theorem dX9_throughput_17 : decode cX9_throughput 17 = .ok (.putfield 84, 3) := by decide +kernel
theorem dX9_throughput_20 : decode cX9_throughput 20 = .ok (.aload_n 0, 1) := by decide +kernel
theorem dX9_throughput_21 : decode cX9_throughput 21 = .ok (.getfield 84, 3) := by decide +kernel
theorem dX9_throughput_24 : decode cX9_throughput 24 = .ok (.ifCond .eq 5, 3) := by decide +kernel
theorem dX9_throughput_27 : decode cX9_throughput 27 = .ok (.dconst 0, 1) := by decide +kernel
theorem dX9_throughput_28 : decode cX9_throughput 28 = .ok (.dreturn, 1) := by decide +kernel
theorem dX9_throughput_29 : decode cX9_throughput 29 = .ok (.lconst 0, 1) := by decide +kernel
theorem dX9_throughput_30 : decode cX9_throughput 30 = .ok (.lstore_n 3, 1) := by decide +kernel
theorem dX9_throughput_31 : decode cX9_throughput 31 = .ok (.iconst 0, 1) := by decide +kernel
theorem dX9_throughput_32 : decode cX9_throughput 32 = .ok (.istore 5, 2) := by decide +kernel
theorem dX9_throughput_34 : decode cX9_throughput 34 = .ok (.iload 5, 2) := by decide +kernel
theorem dX9_throughput_36 : decode cX9_throughput 36 = .ok (.aload_n 0, 1) := by decide +kernel
theorem dX9_throughput_37 : decode cX9_throughput 37 = .ok (.getfield 205, 3) := by decide +kernel
theorem dX9_throughput_40 : decode cX9_throughput 40 = .ok (.if_icmp .ge 28, 3) := by decide +kernel
theorem dX9_throughput_43 : decode cX9_throughput 43 = .ok (.aload_n 0, 1) := by decide +kernel
theorem dX9_throughput_44 : decode cX9_throughput 44 = .ok (.iload 5, 2) := by decide +kernel
theorem dX9_throughput_46 : decode cX9_throughput 46 = .ok (.invokevirtual 259, 3) := by decide +kernel
theorem dX9_throughput_49 : decode cX9_throughput 49 = .ok (.ifCond .eq 13, 3) := by decide +kernel
theorem dX9_throughput_52 : decode cX9_throughput 52 = .ok (.lload_n 3, 1) := by decide +kernel
theorem dX9_throughput_53 : decode cX9_throughput 53 = .ok (.aload_n 0, 1) := by decide +kernel
theorem dX9_throughput_54 : decode cX9_throughput 54 = .ok (.iload 5, 2) := by decide +kernel
theorem dX9_throughput_56 : decode cX9_throughput 56 = .ok (.invokevirtual 274, 3) := by decide +kernel
theorem dX9_throughput_59 : decode cX9_throughput 59 = .ok (.i2l, 1) := by decide +kernel
theorem dX9_throughput_60 : decode cX9_throughput 60 = .ok (.ladd, 1) := by decide +kernel
theorem dX9_throughput_61 : decode cX9_throughput 61 = .ok (.lstore_n 3, 1) := by decide +kernel
theorem dX9_throughput_62 : decode cX9_throughput 62 = .ok (.iinc 5 1, 3) := by decide +kernel
theorem dX9_throughput_65 : decode cX9_throughput 65 = .ok (.goto (-31), 3) := by decide +kernel
theorem dX9_throughput_68 : decode cX9_throughput 68 = .ok (.dconst 1, 1) := by decide +kernel
theorem dX9_throughput_69 : decode cX9_throughput 69 = .ok (.lload_n 3, 1) := by decide +kernel
theorem dX9_throughput_70 : decode cX9_throughput 70 = .ok (.l2d, 1) := by decide +kernel
theorem dX9_throughput_71 : decode cX9_throughput 71 = .ok (.ldc2_w 185, 3) := by decide +kernel
theorem dX9_throughput_74 : decode cX9_throughput 74 = .ok (.lload_n 1, 1) := by decide +kernel
theorem dX9_throughput_75 : decode cX9_throughput 75 = .ok (.lmul, 1) := by decide +kernel
theorem dX9_throughput_76 : decode cX9_throughput 76 = .ok (.l2d, 1) := by decide +kernel
theorem dX9_throughput_77 : decode cX9_throughput 77 = .ok (.ddiv, 1) := by decide +kernel
theorem dX9_throughput_78 : decode cX9_throughput 78 = .ok (.dsub, 1) := by decide +kernel
theorem dX9_throughput_79 : decode cX9_throughput 79 = .ok (.dreturn, 1) := by decide +kernel
set_option maxRecDepth 20000 in
theorem ggX9_ahead_X9_isPause : GoodIn wsX9_ahead wsX9_isPause := goodIn_r _ [7, 8, 2, 9, 10, 11, 12, 13, 14, 15, 16, 17, 18, 19, 20, 21, 22, 23, 24, 25, 26, 27, 28, 29, 30, 31, 32, 33, 34, 35, 36, 37, 38, 39, 40, 41, 42, 43, 44] (by decide +kernel) (by decide +kernel)
set_option maxRecDepth 20000 in
theorem gX9_ahead_X9_isPause : GoodIn wsX9_ahead (wsV RX9 259 RX9 yX9_isPause wsX9_isPause) := goodIn_app (goodIn_of _ (by decide +kernel)) ggX9_ahead_X9_isPause
theorem dX9_ahead_0 : decode cX9_ahead 0 = .ok (.iload_n 1, 1) := by decide +kernel
theorem dX9_ahead_1 : decode cX9_ahead 1 = .ok (.iconst 1, 1) := by decide +kernel
theorem dX9_ahead_2 : decode cX9_ahead 2 = .ok (.isub, 1) := by decide +kernel
theorem dX9_ahead_3 : decode cX9_ahead 3 = .ok (.istore_n 2, 1) := by decide +kernel
theorem dX9_ahead_4 : decode cX9_ahead 4 = .ok (.iload_n 2, 1) := by decide +kernel
theorem dX9_ahead_5 : decode cX9_ahead 5 = .ok (.ifCond .lt 48, 3) := by decide +kernel
theorem dX9_ahead_8 : decode cX9_ahead 8 = .ok (.aload_n 0, 1) := by decide +kernel
theorem dX9_ahead_9 : decode cX9_ahead 9 = .ok (.iload_n 2, 1) := by decide +kernel
theorem dX9_ahead_10 : decode cX9_ahead 10 = .ok (.invokevirtual 259, 3) := by decide +kernel
theorem dX9_ahead_13 : decode cX9_ahead 13 = .ok (.ifCond .eq 34, 3) := by decide +kernel
theorem dX9_ahead_16 : decode cX9_ahead 16 = .ok (.aload_n 0, 1) := by decide +kernel
theorem dX9_ahead_17 : decode cX9_ahead 17 = .ok (.getfield 22, 3) := by decide +kernel
theorem dX9_ahead_20 : decode cX9_ahead 20 = .ok (.aload_n 0, 1) := by decide +kernel
theorem dX9_ahead_21 : decode cX9_ahead 21 = .ok (.getfield 59, 3) := by decide +kernel
theorem dX9_ahead_24 : decode cX9_ahead 24 = .ok (.iload_n 2, 1) := by decide +kernel
theorem dX9_ahead_25 : decode cX9_ahead 25 = .ok (.iaload, 1) := by decide +kernel
theorem dX9_ahead_26 : decode cX9_ahead 26 = .ok (.iaload, 1) := by decide +kernel
theorem dX9_ahead_27 : decode cX9_ahead 27 = .ok (.aload_n 0, 1) := by decide +kernel
theorem dX9_ahead_28 : decode cX9_ahead 28 = .ok (.getfield 22, 3) := by decide +kernel
theorem dX9_ahead_31 : decode cX9_ahead 31 = .ok (.aload_n 0, 1) := by decide +kernel
theorem dX9_ahead_32 : decode cX9_ahead 32 = .ok (.getfield 59, 3) := by decide +kernel
theorem dX9_ahead_35 : decode cX9_ahead 35 = .ok (.iload_n 1, 1) := by decide +kernel
theorem dX9_ahead_36 : decode cX9_ahead 36 = .ok (.iaload, 1) := by decide +kernel
theorem dX9_ahead_37 : decode cX9_ahead 37 = .ok (.iaload, 1) := by decide +kernel
theorem dX9_ahead_38 : decode cX9_ahead 38 = .ok (.if_icmp .ne 7, 3) := by decide +kernel
theorem dX9_ahead_41 : decode cX9_ahead 41 = .ok (.iload_n 2, 1) := by decide +kernel
theorem dX9_ahead_42 : decode cX9_ahead 42 = .ok (.goto 4, 3) := by decide +kernel
theorem dX9_ahead_45 : decode cX9_ahead 45 = .ok (.iconst (-1), 1) := by decide +kernel
theorem dX9_ahead_46 : decode cX9_ahead 46 = .ok (.ireturn, 1) := by decide +kernel
theorem dX9_ahead_47 : decode cX9_ahead 47 = .ok (.iinc 2 (-1), 3) := by decide +kernel
theorem dX9_ahead_50 : decode cX9_ahead 50 = .ok (.goto (-46), 3) := by decide +kernel
theorem dX9_ahead_53 : decode cX9_ahead 53 = .ok (.iconst (-1), 1) := by decide +kernel
theorem dX9_ahead_54 : decode cX9_ahead 54 = .ok (.ireturn, 1) := by decide +kernel
set_option maxRecDepth 20000 in
theorem ggX9_allocated_X9_isPause : GoodIn wsX9_allocated wsX9_isPause := goodIn_r _ [12, 13, 4, 19, 20, 21, 22, 23, 24, 25, 26, 27, 28, 29, 30, 31, 32, 33, 34, 35, 36, 37, 38, 39, 40, 41, 42, 43, 44, 45, 46, 47, 48, 49, 50, 51, 52, 53, 54] (by decide +kernel) (by decide +kernel)
set_option maxRecDepth 20000 in
theorem gX9_allocated_X9_isPause : GoodIn wsX9_allocated (wsV RX9 259 RX9 yX9_isPause wsX9_isPause) := goodIn_app (goodIn_of _ (by decide +kernel)) ggX9_allocated_X9_isPause
set_option maxRecDepth 20000 in
theorem ggX9_allocated_X9_ahead : GoodIn wsX9_allocated wsX9_ahead := goodIn_r _ [17, 18, 4, 8, 9, 10, 11, 12, 13, 19, 20, 21, 22, 23, 24, 25, 26, 27, 28, 29, 30, 31, 32, 33, 34, 35, 36, 37, 38, 39, 40, 41, 42, 43, 44, 45, 46, 47, 48, 49, 50, 51, 52, 53, 54] (by decide +kernel) (by decide +kernel)
set_option maxRecDepth 20000 in
theorem gX9_allocated_X9_ahead : GoodIn wsX9_allocated (wsV RX9 287 RX9 yX9_ahead wsX9_ahead) := goodIn_app (goodIn_of _ (by decide +kernel)) ggX9_allocated_X9_ahead
theorem dX9_allocated_0 : decode cX9_allocated 0 = .ok (.iconst 0, 1) := by decide +kernel
theorem dX9_allocated_1 : decode cX9_allocated 1 = .ok (.istore_n 1, 1) := by decide +kernel
theorem dX9_allocated_2 : decode cX9_allocated 2 = .ok (.iload_n 1, 1) := by decide +kernel
theorem dX9_allocated_3 : decode cX9_allocated 3 = .ok (.aload_n 0, 1) := by decide +kernel
theorem dX9_allocated_4 : decode cX9_allocated 4 = .ok (.getfield 205, 3) := by decide +kernel
theorem dX9_allocated_7 : decode cX9_allocated 7 = .ok (.if_icmp .ge 104, 3) := by decide +kernel
theorem dX9_allocated_10 : decode cX9_allocated 10 = .ok (.aload_n 0, 1) := by decide +kernel
theorem dX9_allocated_11 : decode cX9_allocated 11 = .ok (.iload_n 1, 1) := by decide +kernel
theorem dX9_allocated_12 : decode cX9_allocated 12 = .ok (.invokevirtual 259, 3) := by decide +kernel
theorem dX9_allocated_15 : decode cX9_allocated 15 = .ok (.ifCond .eq 11, 3) := by decide +kernel
theorem dX9_allocated_18 : decode cX9_allocated 18 = .ok (.aload_n 0, 1) := by decide +kernel
theorem dX9_allocated_19 : decode cX9_allocated 19 = .ok (.iload_n 1, 1) := by decide +kernel
theorem dX9_allocated_20 : decode cX9_allocated 20 = .ok (.invokevirtual 287, 3) := by decide +kernel
theorem dX9_allocated_23 : decode cX9_allocated 23 = .ok (.goto 4, 3) := by decide +kernel
theorem dX9_allocated_26 : decode cX9_allocated 26 = .ok (.iconst (-1), 1) := by decide +kernel
theorem dX9_allocated_27 : decode cX9_allocated 27 = .ok (.istore_n 2, 1) := by decide +kernel
theorem dX9_allocated_28 : decode cX9_allocated 28 = .ok (.iload_n 2, 1) := by decide +kernel
theorem dX9_allocated_29 : decode cX9_allocated 29 = .ok (.iconst (-1), 1) := by decide +kernel
theorem dX9_allocated_30 : decode cX9_allocated 30 = .ok (.if_icmp .eq 75, 3) := by decide +kernel
theorem dX9_allocated_33 : decode cX9_allocated 33 = .ok (.aload_n 0, 1) := by decide +kernel
theorem dX9_allocated_34 : decode cX9_allocated 34 = .ok (.dup, 1) := by decide +kernel
theorem dX9_allocated_35 : decode cX9_allocated 35 = .ok (.getfield 290, 3) := by decide +kernel
theorem dX9_allocated_38 : decode cX9_allocated 38 = .ok (.aload_n 0, 1) := by decide +kernel
theorem dX9_allocated_39 : decode cX9_allocated 39 = .ok (.getfield 50, 3) := by decide +kernel
theorem dX9_allocated_42 : decode cX9_allocated 42 = .ok (.iconst 3, 1) := by decide +kernel
theorem dX9_allocated_43 : decode cX9_allocated 43 = .ok (.aload_n 0, 1) := by decide +kernel
theorem dX9_allocated_44 : decode cX9_allocated 44 = .ok (.getfield 59, 3) := by decide +kernel
theorem dX9_allocated_47 : decode cX9_allocated 47 = .ok (.iload_n 1, 1) := by decide +kernel
theorem dX9_allocated_48 : decode cX9_allocated 48 = .ok (.iaload, 1) := by decide +kernel
theorem dX9_allocated_49 : decode cX9_allocated 49 = .ok (.imul, 1) := by decide +kernel
theorem dX9_allocated_50 : decode cX9_allocated 50 = .ok (.iaload, 1) := by decide +kernel
theorem dX9_allocated_51 : decode cX9_allocated 51 = .ok (.aload_n 0, 1) := by decide +kernel
theorem dX9_allocated_52 : decode cX9_allocated 52 = .ok (.getfield 50, 3) := by decide +kernel
theorem dX9_allocated_55 : decode cX9_allocated 55 = .ok (.iconst 3, 1) := by decide +kernel
theorem dX9_allocated_56 : decode cX9_allocated 56 = .ok (.aload_n 0, 1) := by decide +kernel
theorem dX9_allocated_57 : decode cX9_allocated 57 = .ok (.getfield 59, 3) := by decide +kernel
theorem dX9_allocated_60 : decode cX9_allocated 60 = .ok (.iload_n 2, 1) := by decide +kernel

theorem wl_in {big : List Cond} (ws : List Cond) (ps : List Nat) (hp : ws = ps.filterMap (fun i => big[i]?)) : ∀ w ∈ ws, w ∈ big := by
  intro w hw
  rw [hp] at hw
  obtain ⟨i, -, hi⟩ := List.mem_filterMap.mp hw
  exact List.mem_of_getElem? hi
theorem gi_c {big b : List Cond} {c : Cond} (hc : GoodIn big [c]) (hb : GoodIn big b) : GoodIn big (c :: b) := fun w h => (List.mem_cons.mp h).elim (fun e => hc w (by rw [e]; exact List.mem_singleton.mpr rfl)) (hb w)
theorem gi_f {big ws : List Cond} (hm : ∀ w ∈ ws.filter goodWord, w ∈ big) : GoodIn big (ws.filter goodWord) := fun w hw => ⟨hm w hw, good_of_word (List.mem_filter.mp hw).2⟩
set_option maxRecDepth 100000 in
theorem gi_wsX80 : GoodIn lw_tbl wsX80 := goodIn_r _ [269, 271, 273, 275, 277, 279, 281, 283, 285, 287, 289, 291] (by decide +kernel) (by decide +kernel)
set_option maxRecDepth 100000 in
theorem gi_wsX90 : GoodIn lw_tbl wsX90 := goodIn_r _ [988, 990, 992, 994, 996, 998, 1000, 1002, 1004, 1006, 1008, 1010, 1012, 1014, 1016, 1018, 1020, 1022, 1024, 1026, 1028, 1030, 1032, 1034, 1036, 1038, 1040, 1042, 1044, 1046, 1048, 1050, 1052, 1054, 1056, 1058] (by decide +kernel) (by decide +kernel)
set_option maxRecDepth 100000 in
theorem gi_wsX60 : GoodIn lw_tbl wsX60 := goodIn_r _ [105, 107] (by decide +kernel) (by decide +kernel)
set_option maxRecDepth 100000 in
theorem gi_wsX10 : GoodIn lw_tbl wsX10 := goodIn_r _ [151, 153, 155, 157, 159, 161, 163, 165, 167] (by decide +kernel) (by decide +kernel)
set_option maxRecDepth 100000 in
theorem gi_wsX30 : GoodIn lw_tbl wsX30 := goodIn_r _ [181, 183] (by decide +kernel) (by decide +kernel)
set_option maxRecDepth 100000 in
theorem gi_wsX00 : GoodIn lw_tbl wsX00 := goodIn_r _ [199, 201, 203, 205, 207] (by decide +kernel) (by decide +kernel)
set_option maxRecDepth 100000 in
theorem gi_wsX70 : GoodIn lw_tbl wsX70 := goodIn_r _ [220, 222, 224] (by decide +kernel) (by decide +kernel)
set_option maxRecDepth 100000 in
theorem gi_wsX50 : GoodIn lw_tbl wsX50 := goodIn_r _ [244, 246, 248, 250, 252, 254] (by decide +kernel) (by decide +kernel)
set_option maxRecDepth 100000 in
theorem gi_wsX40 : GoodIn lw_tbl wsX40 := goodIn_r _ [316, 318, 320] (by decide +kernel) (by decide +kernel)
set_option maxRecDepth 100000 in
theorem gi_wsX20 : GoodIn lw_tbl wsX20 := goodIn_r _ [517, 519, 521, 523, 525, 527, 529, 531, 533, 535, 537, 539, 541, 543, 545] (by decide +kernel) (by decide +kernel)
theorem wsL_law_x0 : ∀ w ∈ (vx_atS RX8 66 "java/lang/IllegalArgumentException" ["java/lang/RuntimeException", "java/lang/Exception"]).filter goodWord, w ∈ lw_tbl := by decide +kernel
theorem gi_x0 : GoodIn lw_tbl ((vx_atS RX8 66 "java/lang/IllegalArgumentException" ["java/lang/RuntimeException", "java/lang/Exception"]).filter goodWord) := gi_f wsL_law_x0
theorem wsL_law_x1 : ∀ w ∈ (vx_atS RX8 163 "java/lang/IndexOutOfBoundsException" ["java/lang/RuntimeException", "java/lang/Exception"]).filter goodWord, w ∈ lw_tbl := by decide +kernel
theorem gi_x1 : GoodIn lw_tbl ((vx_atS RX8 163 "java/lang/IndexOutOfBoundsException" ["java/lang/RuntimeException", "java/lang/Exception"]).filter goodWord) := gi_f wsL_law_x1
theorem wsL_law_x2 : ∀ w ∈ (vx_atS RX8 194 "java/lang/IllegalStateException" ["java/lang/RuntimeException", "java/lang/Exception"]).filter goodWord, w ∈ lw_tbl := by decide +kernel
theorem gi_x2 : GoodIn lw_tbl ((vx_atS RX8 194 "java/lang/IllegalStateException" ["java/lang/RuntimeException", "java/lang/Exception"]).filter goodWord) := gi_f wsL_law_x2
set_option maxRecDepth 100000 in
theorem gi_k0 : GoodIn lw_tbl [.code yX8_init cX8_init 1 none] := goodIn_r _ [91] (by decide +kernel) (by decide +kernel)
set_option maxRecDepth 100000 in
theorem gi_wsX8_init_r1 : GoodIn lw_tbl wsX8_init_r1 := goodIn_r _ [92, 93, 94, 95, 96, 67, 257, 258, 111, 112, 68, 259, 170, 171, 69, 260, 186, 187, 70, 261, 211, 212, 71, 262] (by decide +kernel) (by decide +kernel)
set_option maxRecDepth 100000 in
theorem gi_wsX8_init_r2 : GoodIn lw_tbl wsX8_init_r2 := goodIn_r _ [227, 228, 72, 263, 266, 97, 98, 99, 100, 110, 101, 114, 115, 116, 172, 173, 174, 175, 176, 178, 188, 189, 190, 191] (by decide +kernel) (by decide +kernel)
set_option maxRecDepth 100000 in
theorem gi_wsX8_init_r3 : GoodIn lw_tbl wsX8_init_r3 := goodIn_r _ [210, 192, 193, 194, 213, 214, 215, 216, 218, 219, 230, 231, 232] (by decide +kernel) (by decide +kernel)
theorem gi_wsX8_init : GoodIn lw_tbl wsX8_init := (gi_c gi_k0 (goodIn_app (goodIn_app (goodIn_app (goodIn_app (goodIn_app (goodIn_app (goodIn_app (goodIn_app gi_wsX8_init_r1 (goodIn_app gi_wsX8_init_r2 gi_wsX8_init_r3)) gi_wsX60) gi_wsX80) gi_wsX10) gi_wsX30) gi_wsX00) gi_wsX70) gi_wsX50))
theorem gL_law_X8_init : GoodIn lw_tbl wsX8_init := gi_wsX8_init
set_option maxRecDepth 100000 in
theorem gi_k1 : GoodIn lw_tbl [.code yX9_init cX9_init 1 none] := goodIn_r _ [950] (by decide +kernel) (by decide +kernel)
set_option maxRecDepth 100000 in
theorem gi_wsX9_init_r1 : GoodIn lw_tbl wsX9_init_r1 := goodIn_r _ [951, 93, 94, 210, 952, 954, 956, 958, 960, 1061, 961, 962, 963, 964, 965, 966, 967, 968, 969, 970, 973, 974, 975, 976] (by decide +kernel) (by decide +kernel)
set_option maxRecDepth 100000 in
theorem gi_wsX9_init_r2 : GoodIn lw_tbl wsX9_init_r2 := goodIn_r _ [978, 979, 980, 982, 983] (by decide +kernel) (by decide +kernel)
theorem gi_wsX9_init : GoodIn lw_tbl wsX9_init := (gi_c gi_k1 (goodIn_app (goodIn_app gi_wsX9_init_r1 gi_wsX9_init_r2) gi_wsX90))
theorem gL_law_X9_init : GoodIn lw_tbl wsX9_init := gi_wsX9_init
set_option maxRecDepth 100000 in
theorem gi_k2 : GoodIn lw_tbl [.code yX8_type cX8_type 2 (some .boolean)] := goodIn_r _ [297] (by decide +kernel) (by decide +kernel)
set_option maxRecDepth 100000 in
theorem gi_k3 : GoodIn lw_tbl ([.fieldLink RX8 10 "PauseLog" "pad" "LPauseLog$Text;", .methodLink RX8 58 yX6_add, .instanceMethod yX6_add, .selects RX6 yX6_add yX6_add, .initialized RX6, .code yX6_add cX6_add 2 (some .boolean), .fieldLink RX6 15 "PauseLog$Text" "length" "I", .fieldLink RX6 9 "PauseLog$Text" "row" "[C"] : List Cond) := goodIn_r _ [257, 298, 299, 300, 67, 301, 102, 101] (by decide +kernel) (by decide +kernel)
theorem gi_wsX8_type : GoodIn lw_tbl wsX8_type := (gi_c gi_k2 (goodIn_app (goodIn_app gi_k3 gi_wsX80) gi_wsX60))
set_option maxRecDepth 100000 in
theorem gi_k4 : GoodIn lw_tbl ([Cond.methodLink RL 59 yX8_type, Cond.instanceMethod yX8_type, Cond.selects RX8 yX8_type yX8_type, Cond.initialized RX8] : List Cond) := goodIn_r _ [294, 295, 296, 66] (by decide +kernel) (by decide +kernel)
theorem gL_law_X8_type : GoodIn lw_tbl (wsV RL 59 RX8 yX8_type wsX8_type) := goodIn_app gi_k4 gi_wsX8_type
set_option maxRecDepth 100000 in
theorem gi_k5 : GoodIn lw_tbl [.code yX9_type cX9_type 2 (some .boolean)] := goodIn_r _ [1186] (by decide +kernel) (by decide +kernel)
set_option maxRecDepth 100000 in
theorem gi_k6 : GoodIn lw_tbl ([.fieldLink RX9 84 "PauseLogModel" "thrown" "I", .fieldLink RX9 143 "PauseLogModel" "padLong" "I", .fieldLink RX9 7 "PauseLogModel" "pad" "[I"] : List Cond) := goodIn_r _ [984, 953, 952] (by decide +kernel) (by decide +kernel)
theorem gi_wsX9_type : GoodIn lw_tbl wsX9_type := (gi_c gi_k5 (goodIn_app gi_k6 gi_wsX90))
set_option maxRecDepth 100000 in
theorem gi_k7 : GoodIn lw_tbl ([Cond.methodLink RL 63 yX9_type, Cond.instanceMethod yX9_type, Cond.selects RX9 yX9_type yX9_type, Cond.initialized RX9] : List Cond) := goodIn_r _ [1183, 1184, 1185, 73] (by decide +kernel) (by decide +kernel)
theorem gL_law_X9_type : GoodIn lw_tbl (wsV RL 63 RX9 yX9_type wsX9_type) := goodIn_app gi_k7 gi_wsX9_type
set_option maxRecDepth 100000 in
theorem gi_k8 : GoodIn lw_tbl [.codeWith yL_drop cL_drop 4 (some .int) [(0, 9, 12, 13)]] := goodIn_r _ [638] (by decide +kernel) (by decide +kernel)
set_option maxRecDepth 100000 in
theorem gi_k9 : GoodIn lw_tbl ([.classLink RL 13 "java/lang/IllegalArgumentException", .methodLink RL 7 yX8_drop, .instanceMethod yX8_drop, .selects RX8 yX8_drop yX8_drop, .initialized RX8, .code yX8_drop cX8_drop 2 (some .int), .classLink RX8 62 "java/lang/IllegalArgumentException", .initialized "java/lang/IllegalArgumentException", .fieldLink RX8 10 "PauseLog" "pad" "LPauseLog$Text;", .methodLink RX8 69 yX6_cut, .instanceMethod yX6_cut, .selects RX6 yX6_cut yX6_cut, .initialized RX6, .code yX6_cut cX6_cut 3 (some .int), .fieldLink RX6 15 "PauseLog$Text" "length" "I", .methodLink RX6 19 Lib.Math.min.name, .static Lib.Math.min.name, .initialized "java/lang/Math", .code Lib.Math.min.name Lib.Math.min.code 2 (some .int)] : List Cond) := goodIn_r _ [639, 640, 641, 642, 66, 643, 644, 77, 257, 711, 712, 713, 67, 714, 102, 715, 716, 78, 717] (by decide +kernel) (by decide +kernel)

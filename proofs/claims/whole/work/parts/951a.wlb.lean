theorem wl_in {big : List Cond} (ws : List Cond) (ps : List Nat) (hp : ws = ps.filterMap (fun i => big[i]?)) : ∀ w ∈ ws, w ∈ big := by
  intro w hw
  rw [hp] at hw
  obtain ⟨i, -, hi⟩ := List.mem_filterMap.mp hw
  exact List.mem_of_getElem? hi
set_option maxRecDepth 100000 in
theorem wl_wsL_law0_r1 : ∀ w ∈ wsL_law0_r1, w ∈ lw_tbl := wl_in wsL_law0_r1 [87, 88, 66, 946, 947, 73, 1317, 1318, 89, 90, 91, 92, 93, 94, 95, 96, 67, 257, 258, 111, 112, 68, 259, 170] (by decide +kernel)
set_option maxRecDepth 100000 in
theorem wl_wsL_law0_r2 : ∀ w ∈ wsL_law0_r2, w ∈ lw_tbl := wl_in wsL_law0_r2 [171, 69, 260, 186, 187, 70, 261, 211, 212, 71, 262, 227, 228, 72, 263, 266, 97, 98, 99, 100, 110, 101, 114, 115] (by decide +kernel)
set_option maxRecDepth 100000 in
theorem wl_wsL_law0_r3 : ∀ w ∈ wsL_law0_r3, w ∈ lw_tbl := wl_in wsL_law0_r3 [116, 172, 173, 174, 175, 176, 178, 188, 189, 190, 191, 210, 192, 193, 194, 213, 214, 215, 216, 218, 219, 230, 231, 232] (by decide +kernel)
set_option maxRecDepth 100000 in
theorem wl_wsL_law0_r4 : ∀ w ∈ wsL_law0_r4, w ∈ lw_tbl := wl_in wsL_law0_r4 [948, 949, 950, 951, 952, 954, 956, 958, 960, 1061, 961, 962, 963, 964, 965, 966, 967, 968, 969, 970, 973, 974, 975, 976] (by decide +kernel)
set_option maxRecDepth 100000 in
theorem wl_wsL_law0_r5 : ∀ w ∈ wsL_law0_r5, w ∈ lw_tbl := wl_in wsL_law0_r5 [978, 979, 980, 982, 983, 294, 295, 296, 297, 298, 299, 300, 301, 102, 1183, 1184, 1185, 1186, 984, 953, 636, 637, 65, 638] (by decide +kernel)
set_option maxRecDepth 100000 in
theorem wl_wsL_law0_r6 : ∀ w ∈ wsL_law0_r6, w ∈ lw_tbl := wl_in wsL_law0_r6 [639, 640, 641, 642, 643, 644, 77, 711, 712, 713, 714, 715, 716, 78, 717, 1187, 1188, 1189, 1190, 1062, 1063, 1064, 1065, 718] (by decide +kernel)
set_option maxRecDepth 100000 in
theorem wl_wsL_law0_r7 : ∀ w ∈ wsL_law0_r7, w ∈ lw_tbl := wl_in wsL_law0_r7 [719, 720, 721, 722, 723, 724, 130, 134, 137, 141, 144, 149, 103, 725, 726, 727, 728, 118, 122, 125, 730, 731, 732, 733] (by decide +kernel)
set_option maxRecDepth 100000 in
theorem wl_wsL_law0_r8 : ∀ w ∈ wsL_law0_r8, w ∈ lw_tbl := wl_in wsL_law0_r8 [129, 133, 734, 136, 140, 143, 147, 738, 735, 736, 737, 740, 741, 742, 743, 744, 464, 465, 466, 746, 747, 748, 749, 750] (by decide +kernel)
set_option maxRecDepth 100000 in
theorem wl_wsL_law0_r9 : ∀ w ∈ wsL_law0_r9, w ∈ lw_tbl := wl_in wsL_law0_r9 [333, 334, 79, 335, 1320, 336, 337, 338, 339, 340, 1321, 751, 347, 348, 349, 350, 351, 352, 353, 354, 355, 80, 356, 357] (by decide +kernel)
set_option maxRecDepth 100000 in
theorem wl_wsL_law0_r10 : ∀ w ∈ wsL_law0_r10, w ∈ lw_tbl := wl_in wsL_law0_r10 [358, 359, 360, 362, 363, 81, 364, 365, 366, 82, 367, 368, 369, 370, 371, 372, 373, 374, 375, 376, 377, 378, 380, 382] (by decide +kernel)

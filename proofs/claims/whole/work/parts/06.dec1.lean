theorem dX3_add_12 : decode cX3_add 12 = .ok (.getfield 11, 3) := by decide +kernel
theorem dX3_add_15 : decode cX3_add 15 = .ok (.arraylength, 1) := by decide +kernel
theorem dX3_add_16 : decode cX3_add 16 = .ok (.if_icmp .ge 23, 3) := by decide +kernel
theorem dX3_add_19 : decode cX3_add 19 = .ok (.aload_n 0, 1) := by decide +kernel
theorem dX3_add_20 : decode cX3_add 20 = .ok (.getfield 11, 3) := by decide +kernel
theorem dX3_add_23 : decode cX3_add 23 = .ok (.aload_n 0, 1) := by decide +kernel
theorem dX3_add_24 : decode cX3_add 24 = .ok (.getfield 17, 3) := by decide +kernel
theorem dX3_add_27 : decode cX3_add 27 = .ok (.aload_n 1, 1) := by decide +kernel
theorem dX3_add_28 : decode cX3_add 28 = .ok (.aastore, 1) := by decide +kernel
theorem dX3_add_29 : decode cX3_add 29 = .ok (.aload_n 0, 1) := by decide +kernel
theorem dX3_add_30 : decode cX3_add 30 = .ok (.dup, 1) := by decide +kernel
theorem dX3_add_31 : decode cX3_add 31 = .ok (.getfield 17, 3) := by decide +kernel
theorem dX3_add_34 : decode cX3_add 34 = .ok (.iconst 1, 1) := by decide +kernel
theorem dX3_add_35 : decode cX3_add 35 = .ok (.iadd, 1) := by decide +kernel
theorem dX3_add_36 : decode cX3_add 36 = .ok (.putfield 17, 3) := by decide +kernel
theorem dX3_add_39 : decode cX3_add 39 = .ok (.return_, 1) := by decide +kernel
theorem dX3_get_0 : decode cX3_get 0 = .ok (.iload_n 1, 1) := by decide +kernel
theorem dX3_get_1 : decode cX3_get 1 = .ok (.ifCond .lt 29, 3) := by decide +kernel
theorem dX3_get_4 : decode cX3_get 4 = .ok (.iload_n 1, 1) := by decide +kernel
theorem dX3_get_5 : decode cX3_get 5 = .ok (.aload_n 0, 1) := by decide +kernel
theorem dX3_get_6 : decode cX3_get 6 = .ok (.getfield 17, 3) := by decide +kernel
theorem dX3_get_9 : decode cX3_get 9 = .ok (.if_icmp .ge 21, 3) := by decide +kernel
theorem dX3_get_12 : decode cX3_get 12 = .ok (.iload_n 1, 1) := by decide +kernel
theorem dX3_get_13 : decode cX3_get 13 = .ok (.aload_n 0, 1) := by decide +kernel
theorem dX3_get_14 : decode cX3_get 14 = .ok (.getfield 11, 3) := by decide +kernel
theorem dX3_get_17 : decode cX3_get 17 = .ok (.arraylength, 1) := by decide +kernel
theorem dX3_get_18 : decode cX3_get 18 = .ok (.if_icmp .ge 12, 3) := by decide +kernel
theorem dX3_get_21 : decode cX3_get 21 = .ok (.aload_n 0, 1) := by decide +kernel
theorem dX3_get_22 : decode cX3_get 22 = .ok (.getfield 11, 3) := by decide +kernel
theorem dX3_get_25 : decode cX3_get 25 = .ok (.iload_n 1, 1) := by decide +kernel
theorem dX3_get_26 : decode cX3_get 26 = .ok (.aaload, 1) := by decide +kernel
theorem dX3_get_27 : decode cX3_get 27 = .ok (.goto 4, 3) := by decide +kernel
theorem dX3_get_30 : decode cX3_get 30 = .ok (.aconst_null, 1) := by decide +kernel
theorem dX3_get_31 : decode cX3_get 31 = .ok (.areturn, 1) := by decide +kernel
set_option maxRecDepth 20000 in
theorem ggX3_pausesThatTook_X3_get : GoodIn wsX3_pausesThatTook wsX3_get := goodIn_r _ [7, 1, 8, 15, 16] (by decide +kernel) (by decide +kernel)
set_option maxRecDepth 20000 in
theorem gX3_pausesThatTook_X3_get : GoodIn wsX3_pausesThatTook (wsV RX3 21 RX3 yX3_get wsX3_get) := goodIn_app (goodIn_of _ (by decide +kernel)) ggX3_pausesThatTook_X3_get
set_option maxRecDepth 20000 in
theorem ggX3_pausesThatTook_X2_isPause : GoodIn wsX3_pausesThatTook wsX2_isPause := goodIn_r _ [13, 14, 17, 18, 19, 20, 21, 22, 23, 24, 25, 26, 27, 28, 29, 30, 31] (by decide +kernel) (by decide +kernel)
set_option maxRecDepth 20000 in
theorem gX3_pausesThatTook_X2_isPause : GoodIn wsX3_pausesThatTook (wsV RX3 25 RX2 yX2_isPause wsX2_isPause) := goodIn_app (goodIn_of _ (by decide +kernel)) ggX3_pausesThatTook_X2_isPause
theorem dX3_pausesThatTook_0 : decode cX3_pausesThatTook 0 = .ok (.iconst 0, 1) := by decide +kernel
theorem dX3_pausesThatTook_1 : decode cX3_pausesThatTook 1 = .ok (.istore_n 3, 1) := by decide +kernel
theorem dX3_pausesThatTook_2 : decode cX3_pausesThatTook 2 = .ok (.iconst 0, 1) := by decide +kernel
theorem dX3_pausesThatTook_3 : decode cX3_pausesThatTook 3 = .ok (.istore 4, 2) := by decide +kernel
theorem dX3_pausesThatTook_5 : decode cX3_pausesThatTook 5 = .ok (.iload 4, 2) := by decide +kernel
theorem dX3_pausesThatTook_7 : decode cX3_pausesThatTook 7 = .ok (.aload_n 0, 1) := by decide +kernel
theorem dX3_pausesThatTook_8 : decode cX3_pausesThatTook 8 = .ok (.getfield 17, 3) := by decide +kernel
theorem dX3_pausesThatTook_11 : decode cX3_pausesThatTook 11 = .ok (.if_icmp .ge 51, 3) := by decide +kernel
theorem dX3_pausesThatTook_14 : decode cX3_pausesThatTook 14 = .ok (.aload_n 0, 1) := by decide +kernel
theorem dX3_pausesThatTook_15 : decode cX3_pausesThatTook 15 = .ok (.iload 4, 2) := by decide +kernel
theorem dX3_pausesThatTook_17 : decode cX3_pausesThatTook 17 = .ok (.invokevirtual 21, 3) := by decide +kernel
theorem dX3_pausesThatTook_20 : decode cX3_pausesThatTook 20 = .ok (.astore 5, 2) := by decide +kernel
theorem dX3_pausesThatTook_22 : decode cX3_pausesThatTook 22 = .ok (.aload 5, 2) := by decide +kernel
theorem dX3_pausesThatTook_24 : decode cX3_pausesThatTook 24 = .ok (.ifnull 32, 3) := by decide +kernel
theorem dX3_pausesThatTook_27 : decode cX3_pausesThatTook 27 = .ok (.aload 5, 2) := by decide +kernel
theorem dX3_pausesThatTook_29 : decode cX3_pausesThatTook 29 = .ok (.invokevirtual 25, 3) := by decide +kernel
theorem dX3_pausesThatTook_32 : decode cX3_pausesThatTook 32 = .ok (.ifCond .eq 24, 3) := by decide +kernel
theorem dX3_pausesThatTook_35 : decode cX3_pausesThatTook 35 = .ok (.aload 5, 2) := by decide +kernel
theorem dX3_pausesThatTook_37 : decode cX3_pausesThatTook 37 = .ok (.getfield 29, 3) := by decide +kernel
theorem dX3_pausesThatTook_40 : decode cX3_pausesThatTook 40 = .ok (.iload_n 1, 1) := by decide +kernel
theorem dX3_pausesThatTook_41 : decode cX3_pausesThatTook 41 = .ok (.if_icmp .lt 15, 3) := by decide +kernel
theorem dX3_pausesThatTook_44 : decode cX3_pausesThatTook 44 = .ok (.aload 5, 2) := by decide +kernel
theorem dX3_pausesThatTook_46 : decode cX3_pausesThatTook 46 = .ok (.getfield 29, 3) := by decide +kernel
theorem dX3_pausesThatTook_49 : decode cX3_pausesThatTook 49 = .ok (.iload_n 2, 1) := by decide +kernel
theorem dX3_pausesThatTook_50 : decode cX3_pausesThatTook 50 = .ok (.if_icmp .gt 6, 3) := by decide +kernel
theorem dX3_pausesThatTook_53 : decode cX3_pausesThatTook 53 = .ok (.iinc 3 1, 3) := by decide +kernel
theorem dX3_pausesThatTook_56 : decode cX3_pausesThatTook 56 = .ok (.iinc 4 1, 3) := by decide +kernel
theorem dX3_pausesThatTook_59 : decode cX3_pausesThatTook 59 = .ok (.goto (-54), 3) := by decide +kernel
theorem dX3_pausesThatTook_62 : decode cX3_pausesThatTook 62 = .ok (.iload_n 3, 1) := by decide +kernel
theorem dX3_pausesThatTook_63 : decode cX3_pausesThatTook 63 = .ok (.ireturn, 1) := by decide +kernel
theorem dX4_init_0 : decode cX4_init 0 = .ok (.aload_n 0, 1) := by decide +kernel
theorem dX4_init_1 : decode cX4_init 1 = .ok (.invokespecial 3, 3) := by decide +kernel
theorem dX4_init_4 : decode cX4_init 4 = .ok (.aload_n 0, 1) := by decide +kernel
theorem dX4_init_5 : decode cX4_init 5 = .ok (.aload_n 1, 1) := by decide +kernel
theorem dX4_init_6 : decode cX4_init 6 = .ok (.putfield 9, 3) := by decide +kernel
theorem dX4_init_9 : decode cX4_init 9 = .ok (.return_, 1) := by decide +kernel
set_option maxRecDepth 20000 in
theorem ggX4_readHead_X4_pass : GoodIn wsX4_readHead wsX4_pass := goodIn_r _ [7, 8, 9, 10, 11, 12, 13, 14, 15, 16, 17, 18, 19, 20, 21, 22, 23, 24, 25, 26, 27, 28, 29, 30, 31, 32, 33, 34, 35, 36, 37, 38, 39, 40, 41, 42, 43, 44, 45, 46, 47, 48, 49, 50, 51, 52, 53, 54, 55, 56, 57, 58, 59, 60, 61, 62, 63, 64, 65, 66, 88, 89, 90, 91, 92] (by decide +kernel) (by decide +kernel)
set_option maxRecDepth 20000 in
theorem gX4_readHead_X4_pass : GoodIn wsX4_readHead (wsV RX4 17 RX4 yX4_pass wsX4_pass) := goodIn_app (goodIn_of _ (by decide +kernel)) ggX4_readHead_X4_pass
set_option maxRecDepth 20000 in
theorem ggX4_readHead_X4_decimal : GoodIn wsX4_readHead wsX4_decimal := goodIn_r _ [70, 71, 72, 73, 6, 74, 8, 9, 10, 75, 76, 77, 78, 23, 24, 25, 26, 27, 28, 29, 3, 4, 5, 7, 11, 12, 13, 14, 15, 16, 17, 18, 19, 20, 21, 22, 30, 31, 32, 33, 34, 35, 36, 37, 38, 39, 40, 41, 42, 43, 44, 45, 46, 47, 48, 49, 50, 51, 52, 53, 54, 55, 56, 57, 58, 59, 60, 61, 62, 63, 64, 65, 66, 88, 89, 90, 91, 92] (by decide +kernel) (by decide +kernel)
set_option maxRecDepth 20000 in
theorem gX4_readHead_X4_decimal : GoodIn wsX4_readHead (wsV RX4 21 RX4 yX4_decimal wsX4_decimal) := goodIn_app (goodIn_of _ (by decide +kernel)) ggX4_readHead_X4_decimal
set_option maxRecDepth 20000 in
theorem ggX4_readHead_X4_number : GoodIn wsX4_readHead wsX4_number := goodIn_r _ [74, 8, 9, 10, 75, 76, 77, 78, 23, 24, 25, 26, 27, 28, 29, 88, 89, 90, 91, 92] (by decide +kernel) (by decide +kernel)
set_option maxRecDepth 20000 in
theorem gX4_readHead_X4_number : GoodIn wsX4_readHead (wsV RX4 33 RX4 yX4_number wsX4_number) := goodIn_app (goodIn_of _ (by decide +kernel)) ggX4_readHead_X4_number
theorem dX4_readHead_0 : decode cX4_readHead 0 = .ok (.aload_n 0, 1) := by decide +kernel
theorem dX4_readHead_1 : decode cX4_readHead 1 = .ok (.ldc 15, 2) := by decide +kernel
theorem dX4_readHead_3 : decode cX4_readHead 3 = .ok (.invokevirtual 17, 3) := by decide +kernel
theorem dX4_readHead_6 : decode cX4_readHead 6 = .ok (.aload_n 1, 1) := by decide +kernel
theorem dX4_readHead_7 : decode cX4_readHead 7 = .ok (.aload_n 0, 1) := by decide +kernel
theorem dX4_readHead_8 : decode cX4_readHead 8 = .ok (.iconst 5, 1) := by decide +kernel
theorem dX4_readHead_9 : decode cX4_readHead 9 = .ok (.invokevirtual 21, 3) := by decide +kernel
theorem dX4_readHead_12 : decode cX4_readHead 12 = .ok (.putfield 25, 3) := by decide +kernel
theorem dX4_readHead_15 : decode cX4_readHead 15 = .ok (.aload_n 0, 1) := by decide +kernel
theorem dX4_readHead_16 : decode cX4_readHead 16 = .ok (.ldc 31, 2) := by decide +kernel
theorem dX4_readHead_18 : decode cX4_readHead 18 = .ok (.invokevirtual 17, 3) := by decide +kernel
theorem dX4_readHead_21 : decode cX4_readHead 21 = .ok (.aload_n 1, 1) := by decide +kernel
theorem dX4_readHead_22 : decode cX4_readHead 22 = .ok (.aload_n 0, 1) := by decide +kernel
theorem dX4_readHead_23 : decode cX4_readHead 23 = .ok (.iconst 3, 1) := by decide +kernel
theorem dX4_readHead_24 : decode cX4_readHead 24 = .ok (.invokevirtual 33, 3) := by decide +kernel
theorem dX4_readHead_27 : decode cX4_readHead 27 = .ok (.putfield 36, 3) := by decide +kernel
theorem dX4_readHead_30 : decode cX4_readHead 30 = .ok (.aload_n 0, 1) := by decide +kernel
theorem dX4_readHead_31 : decode cX4_readHead 31 = .ok (.ldc 39, 2) := by decide +kernel
theorem dX4_readHead_33 : decode cX4_readHead 33 = .ok (.invokevirtual 17, 3) := by decide +kernel
theorem dX4_readHead_36 : decode cX4_readHead 36 = .ok (.return_, 1) := by decide +kernel
set_option maxRecDepth 20000 in
theorem ggX4_readMessage_X6_get : GoodIn wsX4_readMessage wsX6_get := goodIn_r _ [10, 11, 12, 134, 135] (by decide +kernel) (by decide +kernel)
set_option maxRecDepth 20000 in
theorem gX4_readMessage_X6_get : GoodIn wsX4_readMessage (wsV RX4 44 RX6 yX6_get wsX6_get) := goodIn_app (goodIn_of _ (by decide +kernel)) ggX4_readMessage_X6_get
set_option maxRecDepth 20000 in
theorem ggX4_readMessage_X4_pass : GoodIn wsX4_readMessage wsX4_pass := goodIn_r _ [17, 18, 1, 2, 19, 20, 21, 22, 23, 24, 25, 26, 27, 28, 29, 30, 6, 7, 8, 9, 10, 11, 12, 31, 32, 33, 34, 35, 36, 37, 38, 39, 40, 41, 42, 43, 44, 45, 46, 47, 48, 49, 50, 51, 52, 53, 54, 55, 56, 57, 58, 59, 60, 61, 62, 63, 64, 65, 66, 67, 122, 123, 124, 134, 135] (by decide +kernel) (by decide +kernel)
set_option maxRecDepth 20000 in
theorem gX4_readMessage_X4_pass : GoodIn wsX4_readMessage (wsV RX4 17 RX4 yX4_pass wsX4_pass) := goodIn_app (goodIn_of _ (by decide +kernel)) ggX4_readMessage_X4_pass
set_option maxRecDepth 20000 in
theorem ggX4_readMessage_X4_readSizes : GoodIn wsX4_readMessage wsX4_readSizes := goodIn_r _ [71, 72, 73, 74, 75, 76, 16, 77, 1, 2, 78, 79, 80, 81, 18, 82, 83, 84, 85, 6, 7, 8, 9, 10, 11, 12, 13, 14, 15, 17, 19, 20, 21, 22, 23, 24, 25, 26, 27, 28, 29, 30, 31, 32, 33, 34, 35, 36, 37, 38, 39, 40, 41, 42, 43, 44, 45, 46, 47, 48, 49, 50, 51, 52, 53, 54, 55, 56, 57, 58, 59, 60, 61, 62, 63, 64, 65, 66, 67, 125, 126, 127, 128, 129, 130, 131, 132, 133, 122, 123, 124, 134, 135] (by decide +kernel) (by decide +kernel)
set_option maxRecDepth 20000 in
theorem gX4_readMessage_X4_readSizes : GoodIn wsX4_readMessage (wsV RX4 54 RX4 yX4_readSizes wsX4_readSizes) := goodIn_app (goodIn_of _ (by decide +kernel)) ggX4_readMessage_X4_readSizes
set_option maxRecDepth 20000 in
theorem ggX4_readMessage_X4_readRestOfMark : GoodIn wsX4_readMessage wsX4_readRestOfMark := goodIn_r _ [89, 3, 1, 2, 90, 91, 92, 93, 16, 94, 95, 13, 14, 15, 17, 18, 19, 20, 21, 22, 23, 24, 25, 26, 27, 28, 29, 30, 6, 7, 8, 9, 10, 11, 12, 31, 32, 33, 34, 35, 36, 37, 38, 39, 40, 41, 42, 43, 44, 45, 46, 47, 48, 49, 50, 51, 52, 53, 54, 55, 56, 57, 58, 59, 60, 61, 62, 63, 64, 65, 66, 67, 96, 97, 98, 99, 100, 101, 102, 103, 78, 79, 80, 81, 82, 83, 84, 85, 125, 126, 127, 128, 129, 130, 131, 132, 133, 122, 123, 124, 134, 135] (by decide +kernel) (by decide +kernel)
set_option maxRecDepth 20000 in
theorem gX4_readMessage_X4_readRestOfMark : GoodIn wsX4_readMessage (wsV RX4 62 RX4 yX4_readRestOfMark wsX4_readRestOfMark) := goodIn_app (goodIn_of _ (by decide +kernel)) ggX4_readMessage_X4_readRestOfMark
set_option maxRecDepth 20000 in
theorem ggX4_readMessage_X4_kind : GoodIn wsX4_readMessage wsX4_kind := goodIn_r _ [107, 1, 2, 6, 7, 8, 9, 10, 11, 12, 108, 109, 110, 13, 14, 15, 16, 17, 18, 19, 20, 21, 22, 23, 24, 25, 26, 27, 28, 29, 30, 31, 32, 33, 34, 35, 36, 37, 38, 39, 40, 41, 42, 43, 44, 45, 46, 47, 48, 49, 50, 51, 52, 53, 54, 55, 56, 57, 58, 59, 60, 61, 62, 63, 64, 65, 66, 67, 122, 123, 124, 134, 135] (by decide +kernel) (by decide +kernel)
set_option maxRecDepth 20000 in
theorem gX4_readMessage_X4_kind : GoodIn wsX4_readMessage (wsV RX4 67 RX4 yX4_kind wsX4_kind) := goodIn_app (goodIn_of _ (by decide +kernel)) ggX4_readMessage_X4_kind
set_option maxRecDepth 20000 in
theorem ggX4_readMessage_X4_cause : GoodIn wsX4_readMessage wsX4_cause := goodIn_r _ [114, 1, 2, 6, 7, 8, 9, 10, 11, 12, 115, 109, 116, 13, 14, 15, 16, 17, 18, 19, 20, 21, 22, 23, 24, 25, 26, 27, 28, 29, 30, 31, 32, 33, 34, 35, 36, 37, 38, 39, 40, 41, 42, 43, 44, 45, 46, 47, 48, 49, 50, 51, 52, 53, 54, 55, 56, 57, 58, 59, 60, 61, 62, 63, 64, 65, 66, 67, 122, 123, 124, 134, 135] (by decide +kernel) (by decide +kernel)
set_option maxRecDepth 20000 in
theorem gX4_readMessage_X4_cause : GoodIn wsX4_readMessage (wsV RX4 75 RX4 yX4_cause wsX4_cause) := goodIn_app (goodIn_of _ (by decide +kernel)) ggX4_readMessage_X4_cause
set_option maxRecDepth 20000 in
theorem ggX4_readMessage_X4_readRestOfPause : GoodIn wsX4_readMessage wsX4_readRestOfPause := goodIn_r _ [120, 3, 121, 90, 91, 92, 93, 16, 94, 2, 1, 95, 13, 14, 15, 17, 18, 19, 20, 21, 22, 23, 24, 25, 26, 27, 28, 29, 30, 6, 7, 8, 9, 10, 11, 12, 31, 32, 33, 34, 35, 36, 37, 38, 39, 40, 41, 42, 43, 44, 45, 46, 47, 48, 49, 50, 51, 52, 53, 54, 55, 56, 57, 58, 59, 60, 61, 62, 63, 64, 65, 66, 67, 68, 69, 70, 71, 72, 73, 74, 75, 76, 77, 78, 79, 80, 81, 82, 83, 84, 85, 96, 97, 98, 99, 100, 101, 102, 103, 125, 126, 127, 128, 129, 130, 131, 132, 133, 122, 123, 124, 134, 135] (by decide +kernel) (by decide +kernel)
set_option maxRecDepth 20000 in
theorem gX4_readMessage_X4_readRestOfPause : GoodIn wsX4_readMessage (wsV RX4 82 RX4 yX4_readRestOfPause wsX4_readRestOfPause) := goodIn_app (goodIn_of _ (by decide +kernel)) ggX4_readMessage_X4_readRestOfPause
theorem dX4_readMessage_0 : decode cX4_readMessage 0 = .ok (.aload_n 0, 1) := by decide +kernel
theorem dX4_readMessage_1 : decode cX4_readMessage 1 = .ok (.getfield 9, 3) := by decide +kernel
theorem dX4_readMessage_4 : decode cX4_readMessage 4 = .ok (.aload_n 0, 1) := by decide +kernel
theorem dX4_readMessage_5 : decode cX4_readMessage 5 = .ok (.getfield 41, 3) := by decide +kernel
theorem dX4_readMessage_8 : decode cX4_readMessage 8 = .ok (.invokevirtual 44, 3) := by decide +kernel
theorem dX4_readMessage_11 : decode cX4_readMessage 11 = .ok (.lookupswitch 85 #[(69, 33), (77, 71), (79, 52)], 33) := by decide +kernel
theorem dX4_readMessage_44 : decode cX4_readMessage 44 = .ok (.aload_n 0, 1) := by decide +kernel
theorem dX4_readMessage_45 : decode cX4_readMessage 45 = .ok (.ldc 49, 2) := by decide +kernel
theorem dX4_readMessage_47 : decode cX4_readMessage 47 = .ok (.invokevirtual 17, 3) := by decide +kernel
theorem dX4_readMessage_50 : decode cX4_readMessage 50 = .ok (.aload_n 1, 1) := by decide +kernel
theorem dX4_readMessage_51 : decode cX4_readMessage 51 = .ok (.iconst 2, 1) := by decide +kernel
theorem dX4_readMessage_52 : decode cX4_readMessage 52 = .ok (.putfield 51, 3) := by decide +kernel
theorem dX4_readMessage_55 : decode cX4_readMessage 55 = .ok (.aload_n 0, 1) := by decide +kernel
theorem dX4_readMessage_56 : decode cX4_readMessage 56 = .ok (.aload_n 1, 1) := by decide +kernel
theorem dX4_readMessage_57 : decode cX4_readMessage 57 = .ok (.invokevirtual 54, 3) := by decide +kernel
theorem dX4_readMessage_60 : decode cX4_readMessage 60 = .ok (.goto 75, 3) := by decide +kernel
theorem dX4_readMessage_63 : decode cX4_readMessage 63 = .ok (.aload_n 0, 1) := by decide +kernel
theorem dX4_readMessage_64 : decode cX4_readMessage 64 = .ok (.ldc 58, 2) := by decide +kernel
theorem dX4_readMessage_66 : decode cX4_readMessage 66 = .ok (.invokevirtual 17, 3) := by decide +kernel
theorem dX4_readMessage_69 : decode cX4_readMessage 69 = .ok (.aload_n 1, 1) := by decide +kernel
theorem dX4_readMessage_70 : decode cX4_readMessage 70 = .ok (.iconst 3, 1) := by decide +kernel
theorem dX4_readMessage_71 : decode cX4_readMessage 71 = .ok (.putfield 51, 3) := by decide +kernel
theorem dX4_readMessage_74 : decode cX4_readMessage 74 = .ok (.aload_n 0, 1) := by decide +kernel
theorem dX4_readMessage_75 : decode cX4_readMessage 75 = .ok (.aload_n 1, 1) := by decide +kernel
theorem dX4_readMessage_76 : decode cX4_readMessage 76 = .ok (.invokevirtual 54, 3) := by decide +kernel
theorem dX4_readMessage_79 : decode cX4_readMessage 79 = .ok (.goto 56, 3) := by decide +kernel
theorem dX4_readMessage_82 : decode cX4_readMessage 82 = .ok (.aload_n 0, 1) := by decide +kernel
theorem dX4_readMessage_83 : decode cX4_readMessage 83 = .ok (.ldc 60, 2) := by decide +kernel
theorem dX4_readMessage_85 : decode cX4_readMessage 85 = .ok (.invokevirtual 17, 3) := by decide +kernel
theorem dX4_readMessage_88 : decode cX4_readMessage 88 = .ok (.aload_n 0, 1) := by decide +kernel
theorem dX4_readMessage_89 : decode cX4_readMessage 89 = .ok (.aload_n 1, 1) := by decide +kernel
theorem dX4_readMessage_90 : decode cX4_readMessage 90 = .ok (.invokevirtual 62, 3) := by decide +kernel
theorem dX4_readMessage_93 : decode cX4_readMessage 93 = .ok (.goto 42, 3) := by decide +kernel
theorem dX4_readMessage_96 : decode cX4_readMessage 96 = .ok (.aload_n 0, 1) := by decide +kernel
theorem dX4_readMessage_97 : decode cX4_readMessage 97 = .ok (.ldc 65, 2) := by decide +kernel
theorem dX4_readMessage_99 : decode cX4_readMessage 99 = .ok (.invokevirtual 17, 3) := by decide +kernel
theorem dX4_readMessage_102 : decode cX4_readMessage 102 = .ok (.aload_n 1, 1) := by decide +kernel
theorem dX4_readMessage_103 : decode cX4_readMessage 103 = .ok (.aload_n 0, 1) := by decide +kernel
theorem dX4_readMessage_104 : decode cX4_readMessage 104 = .ok (.invokevirtual 67, 3) := by decide +kernel
theorem dX4_readMessage_107 : decode cX4_readMessage 107 = .ok (.putfield 71, 3) := by decide +kernel
theorem dX4_readMessage_110 : decode cX4_readMessage 110 = .ok (.aload_n 0, 1) := by decide +kernel
theorem dX4_readMessage_111 : decode cX4_readMessage 111 = .ok (.ldc 73, 2) := by decide +kernel
theorem dX4_readMessage_113 : decode cX4_readMessage 113 = .ok (.invokevirtual 17, 3) := by decide +kernel
theorem dX4_readMessage_116 : decode cX4_readMessage 116 = .ok (.aload_n 1, 1) := by decide +kernel
theorem dX4_readMessage_117 : decode cX4_readMessage 117 = .ok (.aload_n 0, 1) := by decide +kernel
theorem dX4_readMessage_118 : decode cX4_readMessage 118 = .ok (.invokevirtual 75, 3) := by decide +kernel
theorem dX4_readMessage_121 : decode cX4_readMessage 121 = .ok (.putfield 78, 3) := by decide +kernel
theorem dX4_readMessage_124 : decode cX4_readMessage 124 = .ok (.aload_n 0, 1) := by decide +kernel
theorem dX4_readMessage_125 : decode cX4_readMessage 125 = .ok (.ldc 80, 2) := by decide +kernel
theorem dX4_readMessage_127 : decode cX4_readMessage 127 = .ok (.invokevirtual 17, 3) := by decide +kernel
theorem dX4_readMessage_130 : decode cX4_readMessage 130 = .ok (.aload_n 0, 1) := by decide +kernel
theorem dX4_readMessage_131 : decode cX4_readMessage 131 = .ok (.aload_n 1, 1) := by decide +kernel
theorem dX4_readMessage_132 : decode cX4_readMessage 132 = .ok (.invokevirtual 82, 3) := by decide +kernel
theorem dX4_readMessage_135 : decode cX4_readMessage 135 = .ok (.return_, 1) := by decide +kernel
set_option maxRecDepth 20000 in
theorem ggX4_readRestOfMark_X4_isAtEnd : GoodIn wsX4_readRestOfMark wsX4_isAtEnd := goodIn_r _ [9, 3, 2, 10, 97, 98, 99, 100, 101] (by decide +kernel) (by decide +kernel)
set_option maxRecDepth 20000 in
theorem gX4_readRestOfMark_X4_isAtEnd : GoodIn wsX4_readRestOfMark (wsV RX4 85 RX4 yX4_isAtEnd wsX4_isAtEnd) := goodIn_app (goodIn_of _ (by decide +kernel)) ggX4_readRestOfMark_X4_isAtEnd
set_option maxRecDepth 20000 in
theorem ggX4_readRestOfMark_X4_pass : GoodIn wsX4_readRestOfMark wsX4_pass := goodIn_r _ [14, 15, 2, 3, 16, 17, 18, 19, 20, 21, 22, 23, 24, 25, 26, 27, 28, 29, 30, 31, 32, 33, 34, 35, 36, 37, 38, 39, 40, 41, 42, 43, 44, 45, 46, 47, 48, 49, 50, 51, 52, 53, 54, 55, 56, 57, 58, 59, 60, 61, 62, 63, 64, 65, 66, 67, 68, 69, 70, 71, 97, 98, 99, 100, 101] (by decide +kernel) (by decide +kernel)
set_option maxRecDepth 20000 in
theorem gX4_readRestOfMark_X4_pass : GoodIn wsX4_readRestOfMark (wsV RX4 17 RX4 yX4_pass wsX4_pass) := goodIn_app (goodIn_of _ (by decide +kernel)) ggX4_readRestOfMark_X4_pass
set_option maxRecDepth 20000 in
theorem ggX4_readRestOfMark_X6_get : GoodIn wsX4_readRestOfMark wsX6_get := goodIn_r _ [32, 33, 34, 100, 101] (by decide +kernel) (by decide +kernel)
set_option maxRecDepth 20000 in
theorem gX4_readRestOfMark_X6_get : GoodIn wsX4_readRestOfMark (wsV RX4 44 RX6 yX6_get wsX6_get) := goodIn_app (goodIn_of _ (by decide +kernel)) ggX4_readRestOfMark_X6_get
set_option maxRecDepth 20000 in
theorem ggX4_readRestOfMark_X4_took : GoodIn wsX4_readRestOfMark wsX4_took := goodIn_r _ [75, 76, 77, 78, 8, 79, 80, 81, 82, 83, 15, 2, 3, 84, 85, 86, 87, 28, 29, 30, 31, 32, 33, 34, 11, 12, 13, 14, 16, 17, 18, 19, 20, 21, 22, 23, 24, 25, 26, 27, 35, 36, 37, 38, 39, 40, 41, 42, 43, 44, 45, 46, 47, 48, 49, 50, 51, 52, 53, 54, 55, 56, 57, 58, 59, 60, 61, 62, 63, 64, 65, 66, 67, 68, 69, 70, 71, 97, 98, 99, 100, 101] (by decide +kernel) (by decide +kernel)
set_option maxRecDepth 20000 in
theorem gX4_readRestOfMark_X4_took : GoodIn wsX4_readRestOfMark (wsV RX4 93 RX4 yX4_took wsX4_took) := goodIn_app (goodIn_of _ (by decide +kernel)) ggX4_readRestOfMark_X4_took
theorem dX4_readRestOfMark_0 : decode cX4_readRestOfMark 0 = .ok (.aload_n 0, 1) := by decide +kernel
theorem dX4_readRestOfMark_1 : decode cX4_readRestOfMark 1 = .ok (.invokevirtual 85, 3) := by decide +kernel
theorem dX4_readRestOfMark_4 : decode cX4_readRestOfMark 4 = .ok (.ifCond .eq 9, 3) := by decide +kernel
theorem dX4_readRestOfMark_7 : decode cX4_readRestOfMark 7 = .ok (.aload_n 1, 1) := by decide +kernel
theorem dX4_readRestOfMark_8 : decode cX4_readRestOfMark 8 = .ok (.iconst 4, 1) := by decide +kernel
theorem dX4_readRestOfMark_9 : decode cX4_readRestOfMark 9 = .ok (.putfield 51, 3) := by decide +kernel
theorem dX4_readRestOfMark_12 : decode cX4_readRestOfMark 12 = .ok (.return_, 1) := by decide +kernel
theorem dX4_readRestOfMark_13 : decode cX4_readRestOfMark 13 = .ok (.aload_n 0, 1) := by decide +kernel
theorem dX4_readRestOfMark_14 : decode cX4_readRestOfMark 14 = .ok (.ldc 89, 2) := by decide +kernel
theorem dX4_readRestOfMark_16 : decode cX4_readRestOfMark 16 = .ok (.invokevirtual 17, 3) := by decide +kernel
theorem dX4_readRestOfMark_19 : decode cX4_readRestOfMark 19 = .ok (.aload_n 0, 1) := by decide +kernel
theorem dX4_readRestOfMark_20 : decode cX4_readRestOfMark 20 = .ok (.getfield 9, 3) := by decide +kernel
theorem dX4_readRestOfMark_23 : decode cX4_readRestOfMark 23 = .ok (.aload_n 0, 1) := by decide +kernel
theorem dX4_readRestOfMark_24 : decode cX4_readRestOfMark 24 = .ok (.getfield 41, 3) := by decide +kernel
theorem dX4_readRestOfMark_27 : decode cX4_readRestOfMark 27 = .ok (.invokevirtual 44, 3) := by decide +kernel
theorem dX4_readRestOfMark_30 : decode cX4_readRestOfMark 30 = .ok (.bipush 65, 2) := by decide +kernel
theorem dX4_readRestOfMark_32 : decode cX4_readRestOfMark 32 = .ok (.if_icmp .ne 16, 3) := by decide +kernel
theorem dX4_readRestOfMark_35 : decode cX4_readRestOfMark 35 = .ok (.aload_n 0, 1) := by decide +kernel
theorem dX4_readRestOfMark_36 : decode cX4_readRestOfMark 36 = .ok (.ldc 91, 2) := by decide +kernel
theorem dX4_readRestOfMark_38 : decode cX4_readRestOfMark 38 = .ok (.invokevirtual 17, 3) := by decide +kernel
theorem dX4_readRestOfMark_41 : decode cX4_readRestOfMark 41 = .ok (.aload_n 1, 1) := by decide +kernel
theorem dX4_readRestOfMark_42 : decode cX4_readRestOfMark 42 = .ok (.bipush 6, 2) := by decide +kernel
theorem dX4_readRestOfMark_44 : decode cX4_readRestOfMark 44 = .ok (.putfield 51, 3) := by decide +kernel
theorem dX4_readRestOfMark_47 : decode cX4_readRestOfMark 47 = .ok (.return_, 1) := by decide +kernel
theorem dX4_readRestOfMark_48 : decode cX4_readRestOfMark 48 = .ok (.aload_n 1, 1) := by decide +kernel
theorem dX4_readRestOfMark_49 : decode cX4_readRestOfMark 49 = .ok (.iconst 5, 1) := by decide +kernel
theorem dX4_readRestOfMark_50 : decode cX4_readRestOfMark 50 = .ok (.putfield 51, 3) := by decide +kernel
theorem dX4_readRestOfMark_53 : decode cX4_readRestOfMark 53 = .ok (.aload_n 1, 1) := by decide +kernel
theorem dX4_readRestOfMark_54 : decode cX4_readRestOfMark 54 = .ok (.aload_n 0, 1) := by decide +kernel
theorem dX4_readRestOfMark_55 : decode cX4_readRestOfMark 55 = .ok (.invokevirtual 93, 3) := by decide +kernel
theorem dX4_readRestOfMark_58 : decode cX4_readRestOfMark 58 = .ok (.putfield 96, 3) := by decide +kernel
theorem dX4_readRestOfMark_61 : decode cX4_readRestOfMark 61 = .ok (.return_, 1) := by decide +kernel
set_option maxRecDepth 20000 in
theorem ggX4_readRestOfPause_X4_isAtEnd : GoodIn wsX4_readRestOfPause wsX4_isAtEnd := goodIn_r _ [8, 9, 10, 11, 108, 109, 110, 111, 112] (by decide +kernel) (by decide +kernel)
set_option maxRecDepth 20000 in
theorem gX4_readRestOfPause_X4_isAtEnd : GoodIn wsX4_readRestOfPause (wsV RX4 85 RX4 yX4_isAtEnd wsX4_isAtEnd) := goodIn_app (goodIn_of _ (by decide +kernel)) ggX4_readRestOfPause_X4_isAtEnd
set_option maxRecDepth 20000 in
theorem ggX4_readRestOfPause_X4_pass : GoodIn wsX4_readRestOfPause wsX4_pass := goodIn_r _ [15, 16, 10, 9, 17, 18, 19, 20, 21, 22, 23, 24, 25, 26, 27, 28, 29, 30, 31, 32, 33, 34, 35, 36, 37, 38, 39, 40, 41, 42, 43, 44, 45, 46, 47, 48, 49, 50, 51, 52, 53, 54, 55, 56, 57, 58, 59, 60, 61, 62, 63, 64, 65, 66, 67, 68, 69, 70, 71, 72, 108, 109, 110, 111, 112] (by decide +kernel) (by decide +kernel)
set_option maxRecDepth 20000 in
theorem gX4_readRestOfPause_X4_pass : GoodIn wsX4_readRestOfPause (wsV RX4 17 RX4 yX4_pass wsX4_pass) := goodIn_app (goodIn_of _ (by decide +kernel)) ggX4_readRestOfPause_X4_pass
set_option maxRecDepth 20000 in
theorem ggX4_readRestOfPause_X4_readSizes : GoodIn wsX4_readRestOfPause wsX4_readSizes := goodIn_r _ [76, 77, 78, 79, 80, 81, 7, 82, 10, 9, 83, 84, 85, 86, 16, 87, 88, 89, 90, 29, 30, 31, 32, 33, 34, 35, 12, 13, 14, 15, 17, 18, 19, 20, 21, 22, 23, 24, 25, 26, 27, 28, 36, 37, 38, 39, 40, 41, 42, 43, 44, 45, 46, 47, 48, 49, 50, 51, 52, 53, 54, 55, 56, 57, 58, 59, 60, 61, 62, 63, 64, 65, 66, 67, 68, 69, 70, 71, 72, 99, 100, 101, 102, 103, 104, 105, 106, 107, 108, 109, 110, 111, 112] (by decide +kernel) (by decide +kernel)
set_option maxRecDepth 20000 in
theorem gX4_readRestOfPause_X4_readSizes : GoodIn wsX4_readRestOfPause (wsV RX4 54 RX4 yX4_readSizes wsX4_readSizes) := goodIn_app (goodIn_of _ (by decide +kernel)) ggX4_readRestOfPause_X4_readSizes
set_option maxRecDepth 20000 in
theorem ggX4_readRestOfPause_X4_size : GoodIn wsX4_readRestOfPause wsX4_size := goodIn_r _ [82, 10, 9, 83, 84, 85, 7, 86, 16, 87, 88, 89, 90, 29, 30, 31, 32, 33, 34, 35, 12, 13, 14, 15, 17, 18, 19, 20, 21, 22, 23, 24, 25, 26, 27, 28, 36, 37, 38, 39, 40, 41, 42, 43, 44, 45, 46, 47, 48, 49, 50, 51, 52, 53, 54, 55, 56, 57, 58, 59, 60, 61, 62, 63, 64, 65, 66, 67, 68, 69, 70, 71, 72, 108, 109, 110, 111, 112] (by decide +kernel) (by decide +kernel)
set_option maxRecDepth 20000 in
theorem gX4_readRestOfPause_X4_size : GoodIn wsX4_readRestOfPause (wsV RX4 100 RX4 yX4_size wsX4_size) := goodIn_app (goodIn_of _ (by decide +kernel)) ggX4_readRestOfPause_X4_size
set_option maxRecDepth 20000 in
theorem ggX4_readRestOfPause_X4_took : GoodIn wsX4_readRestOfPause wsX4_took := goodIn_r _ [94, 95, 96, 97, 7, 98, 83, 84, 85, 86, 16, 10, 9, 87, 88, 89, 90, 29, 30, 31, 32, 33, 34, 35, 12, 13, 14, 15, 17, 18, 19, 20, 21, 22, 23, 24, 25, 26, 27, 28, 36, 37, 38, 39, 40, 41, 42, 43, 44, 45, 46, 47, 48, 49, 50, 51, 52, 53, 54, 55, 56, 57, 58, 59, 60, 61, 62, 63, 64, 65, 66, 67, 68, 69, 70, 71, 72, 108, 109, 110, 111, 112] (by decide +kernel) (by decide +kernel)
set_option maxRecDepth 20000 in
theorem gX4_readRestOfPause_X4_took : GoodIn wsX4_readRestOfPause (wsV RX4 93 RX4 yX4_took wsX4_took) := goodIn_app (goodIn_of _ (by decide +kernel)) ggX4_readRestOfPause_X4_took
theorem dX4_readRestOfPause_0 : decode cX4_readRestOfPause 0 = .ok (.aload_n 0, 1) := by decide +kernel
theorem dX4_readRestOfPause_1 : decode cX4_readRestOfPause 1 = .ok (.invokevirtual 85, 3) := by decide +kernel
theorem dX4_readRestOfPause_4 : decode cX4_readRestOfPause 4 = .ok (.ifCond .eq 9, 3) := by decide +kernel
theorem dX4_readRestOfPause_7 : decode cX4_readRestOfPause 7 = .ok (.aload_n 1, 1) := by decide +kernel
theorem dX4_readRestOfPause_8 : decode cX4_readRestOfPause 8 = .ok (.iconst 0, 1) := by decide +kernel
theorem dX4_readRestOfPause_9 : decode cX4_readRestOfPause 9 = .ok (.putfield 51, 3) := by decide +kernel
theorem dX4_readRestOfPause_12 : decode cX4_readRestOfPause 12 = .ok (.return_, 1) := by decide +kernel
theorem dX4_readRestOfPause_13 : decode cX4_readRestOfPause 13 = .ok (.aload_n 1, 1) := by decide +kernel
theorem dX4_readRestOfPause_14 : decode cX4_readRestOfPause 14 = .ok (.iconst 1, 1) := by decide +kernel
theorem dX4_readRestOfPause_15 : decode cX4_readRestOfPause 15 = .ok (.putfield 51, 3) := by decide +kernel
theorem dX4_readRestOfPause_18 : decode cX4_readRestOfPause 18 = .ok (.aload_n 0, 1) := by decide +kernel
theorem dX4_readRestOfPause_19 : decode cX4_readRestOfPause 19 = .ok (.ldc 89, 2) := by decide +kernel
theorem dX4_readRestOfPause_21 : decode cX4_readRestOfPause 21 = .ok (.invokevirtual 17, 3) := by decide +kernel
theorem dX4_readRestOfPause_24 : decode cX4_readRestOfPause 24 = .ok (.aload_n 0, 1) := by decide +kernel
theorem dX4_readRestOfPause_25 : decode cX4_readRestOfPause 25 = .ok (.aload_n 1, 1) := by decide +kernel
theorem dX4_readRestOfPause_26 : decode cX4_readRestOfPause 26 = .ok (.invokevirtual 54, 3) := by decide +kernel
theorem dX4_readRestOfPause_29 : decode cX4_readRestOfPause 29 = .ok (.aload_n 0, 1) := by decide +kernel
theorem dX4_readRestOfPause_30 : decode cX4_readRestOfPause 30 = .ok (.ldc 98, 2) := by decide +kernel
theorem dX4_readRestOfPause_32 : decode cX4_readRestOfPause 32 = .ok (.invokevirtual 17, 3) := by decide +kernel
theorem dX4_readRestOfPause_35 : decode cX4_readRestOfPause 35 = .ok (.aload_n 1, 1) := by decide +kernel
theorem dX4_readRestOfPause_36 : decode cX4_readRestOfPause 36 = .ok (.aload_n 0, 1) := by decide +kernel
theorem dX4_readRestOfPause_37 : decode cX4_readRestOfPause 37 = .ok (.invokevirtual 100, 3) := by decide +kernel
theorem dX4_readRestOfPause_40 : decode cX4_readRestOfPause 40 = .ok (.putfield 103, 3) := by decide +kernel
theorem dX4_readRestOfPause_43 : decode cX4_readRestOfPause 43 = .ok (.aload_n 0, 1) := by decide +kernel
theorem dX4_readRestOfPause_44 : decode cX4_readRestOfPause 44 = .ok (.ldc 39, 2) := by decide +kernel
theorem dX4_readRestOfPause_46 : decode cX4_readRestOfPause 46 = .ok (.invokevirtual 17, 3) := by decide +kernel
theorem dX4_readRestOfPause_49 : decode cX4_readRestOfPause 49 = .ok (.aload_n 1, 1) := by decide +kernel
theorem dX4_readRestOfPause_50 : decode cX4_readRestOfPause 50 = .ok (.aload_n 0, 1) := by decide +kernel
theorem dX4_readRestOfPause_51 : decode cX4_readRestOfPause 51 = .ok (.invokevirtual 93, 3) := by decide +kernel
theorem dX4_readRestOfPause_54 : decode cX4_readRestOfPause 54 = .ok (.putfield 96, 3) := by decide +kernel
theorem dX4_readRestOfPause_57 : decode cX4_readRestOfPause 57 = .ok (.return_, 1) := by decide +kernel
set_option maxRecDepth 20000 in
theorem ggX4_readSizes_X4_size : GoodIn wsX4_readSizes wsX4_size := goodIn_r _ [7, 8, 9, 10, 11, 12, 6, 13, 14, 15, 16, 17, 18, 19, 20, 21, 22, 23, 24, 25, 26, 27, 28, 29, 30, 31, 32, 33, 34, 35, 36, 37, 38, 39, 40, 41, 42, 43, 44, 45, 46, 47, 48, 49, 50, 51, 52, 53, 54, 55, 56, 57, 58, 59, 60, 61, 62, 63, 64, 65, 66, 67, 68, 69, 70, 71, 72, 73, 74, 75, 76, 77, 78, 88, 89, 90, 91, 92] (by decide +kernel) (by decide +kernel)
set_option maxRecDepth 20000 in
theorem gX4_readSizes_X4_size : GoodIn wsX4_readSizes (wsV RX4 100 RX4 yX4_size wsX4_size) := goodIn_app (goodIn_of _ (by decide +kernel)) ggX4_readSizes_X4_size
set_option maxRecDepth 20000 in
theorem ggX4_readSizes_X4_pass : GoodIn wsX4_readSizes wsX4_pass := goodIn_r _ [29, 14, 8, 9, 30, 31, 32, 33, 34, 35, 36, 37, 38, 39, 40, 41, 19, 20, 21, 22, 23, 24, 25, 42, 43, 44, 45, 46, 47, 48, 49, 50, 51, 52, 53, 54, 55, 56, 57, 58, 59, 60, 61, 62, 63, 64, 65, 66, 67, 68, 69, 70, 71, 72, 73, 74, 75, 76, 77, 78, 88, 89, 90, 91, 92] (by decide +kernel) (by decide +kernel)
set_option maxRecDepth 20000 in
theorem gX4_readSizes_X4_pass : GoodIn wsX4_readSizes (wsV RX4 17 RX4 yX4_pass wsX4_pass) := goodIn_app (goodIn_of _ (by decide +kernel)) ggX4_readSizes_X4_pass
theorem dX4_readSizes_0 : decode cX4_readSizes 0 = .ok (.aload_n 1, 1) := by decide +kernel
theorem dX4_readSizes_1 : decode cX4_readSizes 1 = .ok (.aload_n 0, 1) := by decide +kernel
theorem dX4_readSizes_2 : decode cX4_readSizes 2 = .ok (.invokevirtual 100, 3) := by decide +kernel
theorem dX4_readSizes_5 : decode cX4_readSizes 5 = .ok (.putfield 106, 3) := by decide +kernel
theorem dX4_readSizes_8 : decode cX4_readSizes 8 = .ok (.aload_n 0, 1) := by decide +kernel
theorem dX4_readSizes_9 : decode cX4_readSizes 9 = .ok (.ldc 109, 2) := by decide +kernel
theorem dX4_readSizes_11 : decode cX4_readSizes 11 = .ok (.invokevirtual 17, 3) := by decide +kernel
theorem dX4_readSizes_14 : decode cX4_readSizes 14 = .ok (.aload_n 1, 1) := by decide +kernel
theorem dX4_readSizes_15 : decode cX4_readSizes 15 = .ok (.aload_n 0, 1) := by decide +kernel
theorem dX4_readSizes_16 : decode cX4_readSizes 16 = .ok (.invokevirtual 100, 3) := by decide +kernel
theorem dX4_readSizes_19 : decode cX4_readSizes 19 = .ok (.putfield 111, 3) := by decide +kernel
theorem dX4_readSizes_22 : decode cX4_readSizes 22 = .ok (.return_, 1) := by decide +kernel
set_option maxRecDepth 20000 in
theorem ggX4_kind_X6_get : GoodIn wsX4_kind wsX6_get := goodIn_r _ [7, 8, 9, 71, 72] (by decide +kernel) (by decide +kernel)
set_option maxRecDepth 20000 in
theorem gX4_kind_X6_get : GoodIn wsX4_kind (wsV RX4 44 RX6 yX6_get wsX6_get) := goodIn_app (goodIn_of _ (by decide +kernel)) ggX4_kind_X6_get
set_option maxRecDepth 20000 in
theorem ggX4_kind_X8_kindWord : GoodIn wsX4_kind wsX8_kindWord := goodIn_r _ [12] (by decide +kernel) (by decide +kernel)
set_option maxRecDepth 20000 in
theorem gX4_kind_X8_kindWord_n114 : GoodIn wsX4_kind (wsX8_kindWord) := ggX4_kind_X8_kindWord
set_option maxRecDepth 20000 in
theorem ggX4_kind_X4_pass : GoodIn wsX4_kind wsX4_pass := goodIn_r _ [17, 18, 1, 2, 19, 20, 21, 22, 23, 24, 25, 26, 27, 28, 29, 30, 3, 4, 5, 6, 7, 8, 9, 31, 32, 33, 34, 35, 36, 37, 38, 39, 40, 41, 42, 43, 44, 45, 46, 47, 48, 49, 50, 51, 52, 53, 54, 55, 56, 57, 58, 59, 60, 61, 62, 63, 64, 65, 66, 67, 68, 69, 70, 71, 72] (by decide +kernel) (by decide +kernel)
set_option maxRecDepth 20000 in
theorem gX4_kind_X4_pass : GoodIn wsX4_kind (wsV RX4 17 RX4 yX4_pass wsX4_pass) := goodIn_app (goodIn_of _ (by decide +kernel)) ggX4_kind_X4_pass
theorem dX4_kind_0 : decode cX4_kind 0 = .ok (.aload_n 0, 1) := by decide +kernel
theorem dX4_kind_1 : decode cX4_kind 1 = .ok (.getfield 9, 3) := by decide +kernel
theorem dX4_kind_4 : decode cX4_kind 4 = .ok (.aload_n 0, 1) := by decide +kernel
theorem dX4_kind_5 : decode cX4_kind 5 = .ok (.getfield 41, 3) := by decide +kernel
theorem dX4_kind_8 : decode cX4_kind 8 = .ok (.invokevirtual 44, 3) := by decide +kernel
theorem dX4_kind_11 : decode cX4_kind 11 = .ok (.istore_n 1, 1) := by decide +kernel
theorem dX4_kind_12 : decode cX4_kind 12 = .ok (.iload_n 1, 1) := by decide +kernel
theorem dX4_kind_13 : decode cX4_kind 13 = .ok (.bipush 77, 2) := by decide +kernel
theorem dX4_kind_15 : decode cX4_kind 15 = .ok (.if_icmp .ne 7, 3) := by decide +kernel
theorem dX4_kind_18 : decode cX4_kind 18 = .ok (.iconst 1, 1) := by decide +kernel
theorem dX4_kind_19 : decode cX4_kind 19 = .ok (.goto 14, 3) := by decide +kernel
theorem dX4_kind_22 : decode cX4_kind 22 = .ok (.iload_n 1, 1) := by decide +kernel
theorem dX4_kind_23 : decode cX4_kind 23 = .ok (.bipush 70, 2) := by decide +kernel
theorem dX4_kind_25 : decode cX4_kind 25 = .ok (.if_icmp .ne 7, 3) := by decide +kernel
theorem dX4_kind_28 : decode cX4_kind 28 = .ok (.iconst 2, 1) := by decide +kernel
theorem dX4_kind_29 : decode cX4_kind 29 = .ok (.goto 4, 3) := by decide +kernel
theorem dX4_kind_32 : decode cX4_kind 32 = .ok (.iconst 0, 1) := by decide +kernel
theorem dX4_kind_33 : decode cX4_kind 33 = .ok (.istore_n 2, 1) := by decide +kernel
theorem dX4_kind_34 : decode cX4_kind 34 = .ok (.aload_n 0, 1) := by decide +kernel
theorem dX4_kind_35 : decode cX4_kind 35 = .ok (.iload_n 2, 1) := by decide +kernel
theorem dX4_kind_36 : decode cX4_kind 36 = .ok (.invokestatic 114, 3) := by decide +kernel
theorem dX4_kind_39 : decode cX4_kind 39 = .ok (.invokevirtual 17, 3) := by decide +kernel
theorem dX4_kind_42 : decode cX4_kind 42 = .ok (.iload_n 2, 1) := by decide +kernel
theorem dX4_kind_43 : decode cX4_kind 43 = .ok (.ireturn, 1) := by decide +kernel
set_option maxRecDepth 20000 in
theorem ggX4_cause_X6_get : GoodIn wsX4_cause wsX6_get := goodIn_r _ [7, 8, 9, 71, 72] (by decide +kernel) (by decide +kernel)
set_option maxRecDepth 20000 in
theorem gX4_cause_X6_get : GoodIn wsX4_cause (wsV RX4 44 RX6 yX6_get wsX6_get) := goodIn_app (goodIn_of _ (by decide +kernel)) ggX4_cause_X6_get
set_option maxRecDepth 20000 in
theorem ggX4_cause_X8_causeWord : GoodIn wsX4_cause wsX8_causeWord := goodIn_r _ [12] (by decide +kernel) (by decide +kernel)
set_option maxRecDepth 20000 in
theorem gX4_cause_X8_causeWord_n118 : GoodIn wsX4_cause (wsX8_causeWord) := ggX4_cause_X8_causeWord
set_option maxRecDepth 20000 in
theorem ggX4_cause_X4_pass : GoodIn wsX4_cause wsX4_pass := goodIn_r _ [17, 18, 1, 2, 19, 20, 21, 22, 23, 24, 25, 26, 27, 28, 29, 30, 3, 4, 5, 6, 7, 8, 9, 31, 32, 33, 34, 35, 36, 37, 38, 39, 40, 41, 42, 43, 44, 45, 46, 47, 48, 49, 50, 51, 52, 53, 54, 55, 56, 57, 58, 59, 60, 61, 62, 63, 64, 65, 66, 67, 68, 69, 70, 71, 72] (by decide +kernel) (by decide +kernel)
set_option maxRecDepth 20000 in
theorem gX4_cause_X4_pass : GoodIn wsX4_cause (wsV RX4 17 RX4 yX4_pass wsX4_pass) := goodIn_app (goodIn_of _ (by decide +kernel)) ggX4_cause_X4_pass
theorem dX4_cause_0 : decode cX4_cause 0 = .ok (.aload_n 0, 1) := by decide +kernel
theorem dX4_cause_1 : decode cX4_cause 1 = .ok (.getfield 9, 3) := by decide +kernel
theorem dX4_cause_4 : decode cX4_cause 4 = .ok (.aload_n 0, 1) := by decide +kernel
theorem dX4_cause_5 : decode cX4_cause 5 = .ok (.getfield 41, 3) := by decide +kernel
theorem dX4_cause_8 : decode cX4_cause 8 = .ok (.invokevirtual 44, 3) := by decide +kernel
theorem dX4_cause_11 : decode cX4_cause 11 = .ok (.istore_n 1, 1) := by decide +kernel
theorem dX4_cause_12 : decode cX4_cause 12 = .ok (.iload_n 1, 1) := by decide +kernel
theorem dX4_cause_13 : decode cX4_cause 13 = .ok (.bipush 77, 2) := by decide +kernel
theorem dX4_cause_15 : decode cX4_cause 15 = .ok (.if_icmp .ne 7, 3) := by decide +kernel
theorem dX4_cause_18 : decode cX4_cause 18 = .ok (.iconst 1, 1) := by decide +kernel
theorem dX4_cause_19 : decode cX4_cause 19 = .ok (.goto 14, 3) := by decide +kernel
theorem dX4_cause_22 : decode cX4_cause 22 = .ok (.iload_n 1, 1) := by decide +kernel
theorem dX4_cause_23 : decode cX4_cause 23 = .ok (.bipush 85, 2) := by decide +kernel
theorem dX4_cause_25 : decode cX4_cause 25 = .ok (.if_icmp .ne 7, 3) := by decide +kernel
theorem dX4_cause_28 : decode cX4_cause 28 = .ok (.iconst 2, 1) := by decide +kernel
theorem dX4_cause_29 : decode cX4_cause 29 = .ok (.goto 4, 3) := by decide +kernel
theorem dX4_cause_32 : decode cX4_cause 32 = .ok (.iconst 0, 1) := by decide +kernel
theorem dX4_cause_33 : decode cX4_cause 33 = .ok (.istore_n 2, 1) := by decide +kernel
theorem dX4_cause_34 : decode cX4_cause 34 = .ok (.aload_n 0, 1) := by decide +kernel
theorem dX4_cause_35 : decode cX4_cause 35 = .ok (.iload_n 2, 1) := by decide +kernel
theorem dX4_cause_36 : decode cX4_cause 36 = .ok (.invokestatic 118, 3) := by decide +kernel
theorem dX4_cause_39 : decode cX4_cause 39 = .ok (.invokevirtual 17, 3) := by decide +kernel
theorem dX4_cause_42 : decode cX4_cause 42 = .ok (.iload_n 2, 1) := by decide +kernel
theorem dX4_cause_43 : decode cX4_cause 43 = .ok (.ireturn, 1) := by decide +kernel
set_option maxRecDepth 20000 in
theorem ggX4_size_X4_number : GoodIn wsX4_size wsX4_number := goodIn_r _ [7, 8, 1, 2, 9, 10, 11, 12, 13, 14, 15, 16, 17, 18, 19, 73, 74, 75, 76, 77] (by decide +kernel) (by decide +kernel)
set_option maxRecDepth 20000 in
theorem gX4_size_X4_number : GoodIn wsX4_size (wsV RX4 33 RX4 yX4_number wsX4_number) := goodIn_app (goodIn_of _ (by decide +kernel)) ggX4_size_X4_number
set_option maxRecDepth 20000 in
theorem ggX4_size_X6_get : GoodIn wsX4_size wsX6_get := goodIn_r _ [17, 18, 19, 76, 77] (by decide +kernel) (by decide +kernel)
set_option maxRecDepth 20000 in
theorem gX4_size_X6_get : GoodIn wsX4_size (wsV RX4 44 RX6 yX6_get wsX6_get) := goodIn_app (goodIn_of _ (by decide +kernel)) ggX4_size_X6_get
set_option maxRecDepth 20000 in
theorem ggX4_size_X4_pass : GoodIn wsX4_size wsX4_pass := goodIn_r _ [23, 8, 1, 2, 24, 25, 26, 27, 28, 29, 30, 31, 32, 33, 34, 35, 13, 14, 15, 16, 17, 18, 19, 36, 37, 38, 39, 40, 41, 42, 43, 44, 45, 46, 47, 48, 49, 50, 51, 52, 53, 54, 55, 56, 57, 58, 59, 60, 61, 62, 63, 64, 65, 66, 67, 68, 69, 70, 71, 72, 73, 74, 75, 76, 77] (by decide +kernel) (by decide +kernel)
set_option maxRecDepth 20000 in
theorem gX4_size_X4_pass : GoodIn wsX4_size (wsV RX4 17 RX4 yX4_pass wsX4_pass) := goodIn_app (goodIn_of _ (by decide +kernel)) ggX4_size_X4_pass
theorem dX4_size_0 : decode cX4_size 0 = .ok (.aload_n 0, 1) := by decide +kernel
theorem dX4_size_1 : decode cX4_size 1 = .ok (.iconst 4, 1) := by decide +kernel
theorem dX4_size_2 : decode cX4_size 2 = .ok (.invokevirtual 33, 3) := by decide +kernel
theorem dX4_size_5 : decode cX4_size 5 = .ok (.istore_n 1, 1) := by decide +kernel
theorem dX4_size_6 : decode cX4_size 6 = .ok (.aload_n 0, 1) := by decide +kernel
theorem dX4_size_7 : decode cX4_size 7 = .ok (.getfield 9, 3) := by decide +kernel
theorem dX4_size_10 : decode cX4_size 10 = .ok (.aload_n 0, 1) := by decide +kernel
theorem dX4_size_11 : decode cX4_size 11 = .ok (.getfield 41, 3) := by decide +kernel
theorem dX4_size_14 : decode cX4_size 14 = .ok (.invokevirtual 44, 3) := by decide +kernel
theorem dX4_size_17 : decode cX4_size 17 = .ok (.bipush 77, 2) := by decide +kernel
theorem dX4_size_19 : decode cX4_size 19 = .ok (.if_icmp .ne 7, 3) := by decide +kernel
theorem dX4_size_22 : decode cX4_size 22 = .ok (.iconst 1, 1) := by decide +kernel
theorem dX4_size_23 : decode cX4_size 23 = .ok (.goto 4, 3) := by decide +kernel
theorem dX4_size_26 : decode cX4_size 26 = .ok (.iconst 0, 1) := by decide +kernel
theorem dX4_size_27 : decode cX4_size 27 = .ok (.istore_n 2, 1) := by decide +kernel
theorem dX4_size_28 : decode cX4_size 28 = .ok (.aload_n 0, 1) := by decide +kernel
theorem dX4_size_29 : decode cX4_size 29 = .ok (.iload_n 2, 1) := by decide +kernel
theorem dX4_size_30 : decode cX4_size 30 = .ok (.ifCond .eq 8, 3) := by decide +kernel
theorem dX4_size_33 : decode cX4_size 33 = .ok (.ldc 121, 2) := by decide +kernel
theorem dX4_size_35 : decode cX4_size 35 = .ok (.goto 5, 3) := by decide +kernel
theorem dX4_size_38 : decode cX4_size 38 = .ok (.ldc 123, 2) := by decide +kernel
theorem dX4_size_40 : decode cX4_size 40 = .ok (.invokevirtual 17, 3) := by decide +kernel
theorem dX4_size_43 : decode cX4_size 43 = .ok (.iload_n 2, 1) := by decide +kernel
theorem dX4_size_44 : decode cX4_size 44 = .ok (.ifCond .eq 11, 3) := by decide +kernel
theorem dX4_size_47 : decode cX4_size 47 = .ok (.iload_n 1, 1) := by decide +kernel
theorem dX4_size_48 : decode cX4_size 48 = .ok (.sipush 1024, 3) := by decide +kernel
theorem dX4_size_51 : decode cX4_size 51 = .ok (.imul, 1) := by decide +kernel
theorem dX4_size_52 : decode cX4_size 52 = .ok (.goto 4, 3) := by decide +kernel
theorem dX4_size_55 : decode cX4_size 55 = .ok (.iload_n 1, 1) := by decide +kernel
theorem dX4_size_56 : decode cX4_size 56 = .ok (.ireturn, 1) := by decide +kernel
set_option maxRecDepth 20000 in
theorem ggX4_took_X4_decimal : GoodIn wsX4_took wsX4_decimal := goodIn_r _ [5, 6, 7, 8, 4, 9, 10, 11, 12, 13, 14, 15, 16, 17, 18, 19, 20, 21, 22, 23, 24, 25, 26, 27, 28, 29, 30, 31, 32, 33, 34, 35, 36, 37, 38, 39, 40, 41, 42, 43, 44, 45, 46, 47, 48, 49, 50, 51, 52, 53, 54, 55, 56, 57, 58, 59, 60, 61, 62, 63, 64, 65, 66, 67, 68, 69, 70, 71, 72, 73, 74, 75, 76, 77, 78, 79, 80, 81] (by decide +kernel) (by decide +kernel)
set_option maxRecDepth 20000 in
theorem gX4_took_X4_decimal : GoodIn wsX4_took (wsV RX4 21 RX4 yX4_decimal wsX4_decimal) := goodIn_app (goodIn_of _ (by decide +kernel)) ggX4_took_X4_decimal
set_option maxRecDepth 20000 in
theorem ggX4_took_X4_pass : GoodIn wsX4_took wsX4_pass := goodIn_r _ [27, 10, 11, 12, 28, 29, 30, 31, 32, 33, 34, 35, 36, 37, 38, 39, 17, 18, 19, 20, 21, 22, 23, 40, 41, 42, 43, 44, 45, 46, 47, 48, 49, 50, 51, 52, 53, 54, 55, 56, 57, 58, 59, 60, 61, 62, 63, 64, 65, 66, 67, 68, 69, 70, 71, 72, 73, 74, 75, 76, 77, 78, 79, 80, 81] (by decide +kernel) (by decide +kernel)
set_option maxRecDepth 20000 in
theorem gX4_took_X4_pass : GoodIn wsX4_took (wsV RX4 17 RX4 yX4_pass wsX4_pass) := goodIn_app (goodIn_of _ (by decide +kernel)) ggX4_took_X4_pass
theorem dX4_took_0 : decode cX4_took 0 = .ok (.aload_n 0, 1) := by decide +kernel
theorem dX4_took_1 : decode cX4_took 1 = .ok (.iconst 4, 1) := by decide +kernel
theorem dX4_took_2 : decode cX4_took 2 = .ok (.invokevirtual 21, 3) := by decide +kernel
theorem dX4_took_5 : decode cX4_took 5 = .ok (.istore_n 1, 1) := by decide +kernel
theorem dX4_took_6 : decode cX4_took 6 = .ok (.aload_n 0, 1) := by decide +kernel
theorem dX4_took_7 : decode cX4_took 7 = .ok (.ldc 125, 2) := by decide +kernel
theorem dX4_took_9 : decode cX4_took 9 = .ok (.invokevirtual 17, 3) := by decide +kernel
theorem dX4_took_12 : decode cX4_took 12 = .ok (.iload_n 1, 1) := by decide +kernel
theorem dX4_took_13 : decode cX4_took 13 = .ok (.ireturn, 1) := by decide +kernel
set_option maxRecDepth 20000 in
theorem ggX4_decimal_X4_number : GoodIn wsX4_decimal wsX4_number := goodIn_r _ [5, 6, 7, 8, 9, 10, 11, 12, 13, 14, 15, 16, 17, 18, 19, 73, 74, 75, 76, 77] (by decide +kernel) (by decide +kernel)
set_option maxRecDepth 20000 in
theorem gX4_decimal_X4_number : GoodIn wsX4_decimal (wsV RX4 33 RX4 yX4_number wsX4_number) := goodIn_app (goodIn_of _ (by decide +kernel)) ggX4_decimal_X4_number
set_option maxRecDepth 20000 in
theorem ggX4_decimal_X4_pass : GoodIn wsX4_decimal wsX4_pass := goodIn_r _ [23, 6, 7, 8, 24, 25, 26, 27, 28, 29, 30, 31, 32, 33, 34, 35, 13, 14, 15, 16, 17, 18, 19, 36, 37, 38, 39, 40, 41, 42, 43, 44, 45, 46, 47, 48, 49, 50, 51, 52, 53, 54, 55, 56, 57, 58, 59, 60, 61, 62, 63, 64, 65, 66, 67, 68, 69, 70, 71, 72, 73, 74, 75, 76, 77] (by decide +kernel) (by decide +kernel)
set_option maxRecDepth 20000 in
theorem gX4_decimal_X4_pass : GoodIn wsX4_decimal (wsV RX4 17 RX4 yX4_pass wsX4_pass) := goodIn_app (goodIn_of _ (by decide +kernel)) ggX4_decimal_X4_pass
theorem dX4_decimal_0 : decode cX4_decimal 0 = .ok (.aload_n 0, 1) := by decide +kernel
theorem dX4_decimal_1 : decode cX4_decimal 1 = .ok (.iload_n 1, 1) := by decide +kernel
theorem dX4_decimal_2 : decode cX4_decimal 2 = .ok (.invokevirtual 33, 3) := by decide +kernel
theorem dX4_decimal_5 : decode cX4_decimal 5 = .ok (.istore_n 2, 1) := by decide +kernel
theorem dX4_decimal_6 : decode cX4_decimal 6 = .ok (.aload_n 0, 1) := by decide +kernel
theorem dX4_decimal_7 : decode cX4_decimal 7 = .ok (.ldc 127, 2) := by decide +kernel
theorem dX4_decimal_9 : decode cX4_decimal 9 = .ok (.invokevirtual 17, 3) := by decide +kernel
theorem dX4_decimal_12 : decode cX4_decimal 12 = .ok (.iconst 0, 1) := by decide +kernel
theorem dX4_decimal_13 : decode cX4_decimal 13 = .ok (.istore_n 3, 1) := by decide +kernel
theorem dX4_decimal_14 : decode cX4_decimal 14 = .ok (.iload_n 3, 1) := by decide +kernel
theorem dX4_decimal_15 : decode cX4_decimal 15 = .ok (.iconst 3, 1) := by decide +kernel
theorem dX4_decimal_16 : decode cX4_decimal 16 = .ok (.if_icmp .ge 20, 3) := by decide +kernel
theorem dX4_decimal_19 : decode cX4_decimal 19 = .ok (.iload_n 2, 1) := by decide +kernel
theorem dX4_decimal_20 : decode cX4_decimal 20 = .ok (.bipush 10, 2) := by decide +kernel
theorem dX4_decimal_22 : decode cX4_decimal 22 = .ok (.imul, 1) := by decide +kernel
theorem dX4_decimal_23 : decode cX4_decimal 23 = .ok (.aload_n 0, 1) := by decide +kernel
theorem dX4_decimal_24 : decode cX4_decimal 24 = .ok (.iconst 1, 1) := by decide +kernel
theorem dX4_decimal_25 : decode cX4_decimal 25 = .ok (.invokevirtual 33, 3) := by decide +kernel
theorem dX4_decimal_28 : decode cX4_decimal 28 = .ok (.iadd, 1) := by decide +kernel
theorem dX4_decimal_29 : decode cX4_decimal 29 = .ok (.istore_n 2, 1) := by decide +kernel
theorem dX4_decimal_30 : decode cX4_decimal 30 = .ok (.iinc 3 1, 3) := by decide +kernel
theorem dX4_decimal_33 : decode cX4_decimal 33 = .ok (.goto (-19), 3) := by decide +kernel
theorem dX4_decimal_36 : decode cX4_decimal 36 = .ok (.iload_n 2, 1) := by decide +kernel
theorem dX4_decimal_37 : decode cX4_decimal 37 = .ok (.ireturn, 1) := by decide +kernel
set_option maxRecDepth 20000 in
theorem ggX4_number_X6_get : GoodIn wsX4_number wsX6_get := goodIn_r _ [12, 13, 14, 18, 19] (by decide +kernel) (by decide +kernel)
set_option maxRecDepth 20000 in
theorem gX4_number_X6_get : GoodIn wsX4_number (wsV RX4 44 RX6 yX6_get wsX6_get) := goodIn_app (goodIn_of _ (by decide +kernel)) ggX4_number_X6_get
theorem dX4_number_0 : decode cX4_number 0 = .ok (.iconst (-1), 1) := by decide +kernel
theorem dX4_number_1 : decode cX4_number 1 = .ok (.istore_n 2, 1) := by decide +kernel
theorem dX4_number_2 : decode cX4_number 2 = .ok (.iconst 0, 1) := by decide +kernel
theorem dX4_number_3 : decode cX4_number 3 = .ok (.istore_n 3, 1) := by decide +kernel
theorem dX4_number_4 : decode cX4_number 4 = .ok (.iload_n 3, 1) := by decide +kernel
theorem dX4_number_5 : decode cX4_number 5 = .ok (.iload_n 1, 1) := by decide +kernel
theorem dX4_number_6 : decode cX4_number 6 = .ok (.if_icmp .ge 75, 3) := by decide +kernel
theorem dX4_number_9 : decode cX4_number 9 = .ok (.iload_n 2, 1) := by decide +kernel
theorem dX4_number_10 : decode cX4_number 10 = .ok (.ifCond .eq 71, 3) := by decide +kernel
theorem dX4_number_13 : decode cX4_number 13 = .ok (.aload_n 0, 1) := by decide +kernel
theorem dX4_number_14 : decode cX4_number 14 = .ok (.getfield 129, 3) := by decide +kernel
theorem dX4_number_17 : decode cX4_number 17 = .ok (.ifCond .ne 64, 3) := by decide +kernel
theorem dX4_number_20 : decode cX4_number 20 = .ok (.aload_n 0, 1) := by decide +kernel
theorem dX4_number_21 : decode cX4_number 21 = .ok (.getfield 9, 3) := by decide +kernel
theorem dX4_number_24 : decode cX4_number 24 = .ok (.aload_n 0, 1) := by decide +kernel
theorem dX4_number_25 : decode cX4_number 25 = .ok (.getfield 41, 3) := by decide +kernel
theorem dX4_number_28 : decode cX4_number 28 = .ok (.invokevirtual 44, 3) := by decide +kernel
theorem dX4_number_31 : decode cX4_number 31 = .ok (.istore 4, 2) := by decide +kernel
theorem dX4_number_33 : decode cX4_number 33 = .ok (.iload 4, 2) := by decide +kernel
theorem dX4_number_35 : decode cX4_number 35 = .ok (.bipush 48, 2) := by decide +kernel
theorem dX4_number_37 : decode cX4_number 37 = .ok (.if_icmp .lt 44, 3) := by decide +kernel
theorem dX4_number_40 : decode cX4_number 40 = .ok (.iload 4, 2) := by decide +kernel
theorem dX4_number_42 : decode cX4_number 42 = .ok (.bipush 57, 2) := by decide +kernel
theorem dX4_number_44 : decode cX4_number 44 = .ok (.if_icmp .le 6, 3) := by decide +kernel
theorem dX4_number_47 : decode cX4_number 47 = .ok (.goto 34, 3) := by decide +kernel
theorem dX4_number_50 : decode cX4_number 50 = .ok (.iload_n 2, 1) := by decide +kernel
theorem dX4_number_51 : decode cX4_number 51 = .ok (.iconst 0, 1) := by decide +kernel
theorem dX4_number_52 : decode cX4_number 52 = .ok (.invokestatic 133, 3) := by decide +kernel
theorem dX4_number_55 : decode cX4_number 55 = .ok (.bipush 10, 2) := by decide +kernel
theorem dX4_number_57 : decode cX4_number 57 = .ok (.imul, 1) := by decide +kernel
theorem dX4_number_58 : decode cX4_number 58 = .ok (.iload 4, 2) := by decide +kernel
theorem dX4_number_60 : decode cX4_number 60 = .ok (.iadd, 1) := by decide +kernel
theorem dX4_number_61 : decode cX4_number 61 = .ok (.bipush 48, 2) := by decide +kernel
theorem dX4_number_63 : decode cX4_number 63 = .ok (.isub, 1) := by decide +kernel
theorem dX4_number_64 : decode cX4_number 64 = .ok (.istore_n 2, 1) := by decide +kernel
theorem dX4_number_65 : decode cX4_number 65 = .ok (.aload_n 0, 1) := by decide +kernel
theorem dX4_number_66 : decode cX4_number 66 = .ok (.dup, 1) := by decide +kernel
theorem dX4_number_67 : decode cX4_number 67 = .ok (.getfield 41, 3) := by decide +kernel
theorem dX4_number_70 : decode cX4_number 70 = .ok (.iconst 1, 1) := by decide +kernel
theorem dX4_number_71 : decode cX4_number 71 = .ok (.iadd, 1) := by decide +kernel
theorem dX4_number_72 : decode cX4_number 72 = .ok (.putfield 41, 3) := by decide +kernel
theorem dX4_number_75 : decode cX4_number 75 = .ok (.iinc 3 1, 3) := by decide +kernel
theorem dX4_number_78 : decode cX4_number 78 = .ok (.goto (-74), 3) := by decide +kernel
theorem dX4_number_81 : decode cX4_number 81 = .ok (.aload_n 0, 1) := by decide +kernel
theorem dX4_number_82 : decode cX4_number 82 = .ok (.aload_n 0, 1) := by decide +kernel
theorem dX4_number_83 : decode cX4_number 83 = .ok (.getfield 129, 3) := by decide +kernel
theorem dX4_number_86 : decode cX4_number 86 = .ok (.ifCond .ne 8, 3) := by decide +kernel
theorem dX4_number_89 : decode cX4_number 89 = .ok (.iload_n 2, 1) := by decide +kernel
theorem dX4_number_90 : decode cX4_number 90 = .ok (.iconst (-1), 1) := by decide +kernel
theorem dX4_number_91 : decode cX4_number 91 = .ok (.if_icmp .ne 7, 3) := by decide +kernel
theorem dX4_number_94 : decode cX4_number 94 = .ok (.iconst 1, 1) := by decide +kernel
theorem dX4_number_95 : decode cX4_number 95 = .ok (.goto 4, 3) := by decide +kernel
theorem dX4_number_98 : decode cX4_number 98 = .ok (.iconst 0, 1) := by decide +kernel
theorem dX4_number_99 : decode cX4_number 99 = .ok (.putfield 129, 3) := by decide +kernel
theorem dX4_number_102 : decode cX4_number 102 = .ok (.iload_n 2, 1) := by decide +kernel
theorem dX4_number_103 : decode cX4_number 103 = .ok (.ireturn, 1) := by decide +kernel
set_option maxRecDepth 20000 in
theorem ggX4_pass_J0_length_8abf5 : GoodIn wsX4_pass wsJ0_length_8abf5 := goodIn_r _ [8, 9, 10, 11, 12, 7, 13, 14, 15] (by decide +kernel) (by decide +kernel)
set_option maxRecDepth 20000 in
theorem gX4_pass_J0_length_8abf5 : GoodIn wsX4_pass (wsV RX4 139 RJ0 yJ0_length_8abf5 wsJ0_length_8abf5) := goodIn_app (goodIn_of _ (by decide +kernel)) ggX4_pass_J0_length_8abf5
set_option maxRecDepth 20000 in
theorem ggX4_pass_X6_get : GoodIn wsX4_pass wsX6_get := goodIn_r _ [20, 21, 22, 63, 64] (by decide +kernel) (by decide +kernel)
set_option maxRecDepth 20000 in
theorem gX4_pass_X6_get : GoodIn wsX4_pass (wsV RX4 44 RX6 yX6_get wsX6_get) := goodIn_app (goodIn_of _ (by decide +kernel)) ggX4_pass_X6_get
set_option maxRecDepth 20000 in
theorem ggX4_pass_J0_charAt_5068e : GoodIn wsX4_pass wsJ0_charAt_5068e := goodIn_r _ [26, 9, 27, 28, 29, 7, 30, 14, 15, 31, 32, 33, 34, 35, 36, 37, 38, 39, 40, 41, 42, 43, 44, 45, 46, 47, 48, 49, 50, 51, 52, 53, 54, 55, 56, 57, 58, 59] (by decide +kernel) (by decide +kernel)
set_option maxRecDepth 20000 in
theorem gX4_pass_J0_charAt_5068e : GoodIn wsX4_pass (wsV RX4 144 RJ0 yJ0_charAt_5068e wsJ0_charAt_5068e) := goodIn_app (goodIn_of _ (by decide +kernel)) ggX4_pass_J0_charAt_5068e
theorem dX4_pass_0 : decode cX4_pass 0 = .ok (.iconst 0, 1) := by decide +kernel
theorem dX4_pass_1 : decode cX4_pass 1 = .ok (.istore_n 2, 1) := by decide +kernel
theorem dX4_pass_2 : decode cX4_pass 2 = .ok (.iload_n 2, 1) := by decide +kernel
theorem dX4_pass_3 : decode cX4_pass 3 = .ok (.aload_n 1, 1) := by decide +kernel
theorem dX4_pass_4 : decode cX4_pass 4 = .ok (.invokevirtual 139, 3) := by decide +kernel
theorem dX4_pass_7 : decode cX4_pass 7 = .ok (.if_icmp .ge 53, 3) := by decide +kernel
theorem dX4_pass_10 : decode cX4_pass 10 = .ok (.aload_n 0, 1) := by decide +kernel
theorem dX4_pass_11 : decode cX4_pass 11 = .ok (.getfield 129, 3) := by decide +kernel
theorem dX4_pass_14 : decode cX4_pass 14 = .ok (.ifCond .ne 46, 3) := by decide +kernel
theorem dX4_pass_17 : decode cX4_pass 17 = .ok (.aload_n 0, 1) := by decide +kernel
theorem dX4_pass_18 : decode cX4_pass 18 = .ok (.getfield 9, 3) := by decide +kernel
theorem dX4_pass_21 : decode cX4_pass 21 = .ok (.aload_n 0, 1) := by decide +kernel
theorem dX4_pass_22 : decode cX4_pass 22 = .ok (.getfield 41, 3) := by decide +kernel
theorem dX4_pass_25 : decode cX4_pass 25 = .ok (.invokevirtual 44, 3) := by decide +kernel
theorem dX4_pass_28 : decode cX4_pass 28 = .ok (.aload_n 1, 1) := by decide +kernel
theorem dX4_pass_29 : decode cX4_pass 29 = .ok (.iload_n 2, 1) := by decide +kernel
theorem dX4_pass_30 : decode cX4_pass 30 = .ok (.invokevirtual 144, 3) := by decide +kernel
theorem dX4_pass_33 : decode cX4_pass 33 = .ok (.if_icmp .ne 16, 3) := by decide +kernel
theorem dX4_pass_36 : decode cX4_pass 36 = .ok (.aload_n 0, 1) := by decide +kernel
theorem dX4_pass_37 : decode cX4_pass 37 = .ok (.dup, 1) := by decide +kernel
theorem dX4_pass_38 : decode cX4_pass 38 = .ok (.getfield 41, 3) := by decide +kernel
theorem dX4_pass_41 : decode cX4_pass 41 = .ok (.iconst 1, 1) := by decide +kernel
theorem dX4_pass_42 : decode cX4_pass 42 = .ok (.iadd, 1) := by decide +kernel
theorem dX4_pass_43 : decode cX4_pass 43 = .ok (.putfield 41, 3) := by decide +kernel
theorem dX4_pass_46 : decode cX4_pass 46 = .ok (.goto 8, 3) := by decide +kernel
theorem dX4_pass_49 : decode cX4_pass 49 = .ok (.aload_n 0, 1) := by decide +kernel
theorem dX4_pass_50 : decode cX4_pass 50 = .ok (.iconst 1, 1) := by decide +kernel
theorem dX4_pass_51 : decode cX4_pass 51 = .ok (.putfield 129, 3) := by decide +kernel
theorem dX4_pass_54 : decode cX4_pass 54 = .ok (.iinc 2 1, 3) := by decide +kernel
theorem dX4_pass_57 : decode cX4_pass 57 = .ok (.goto (-55), 3) := by decide +kernel
theorem dX4_pass_60 : decode cX4_pass 60 = .ok (.return_, 1) := by decide +kernel
theorem dX4_isAtEnd_0 : decode cX4_isAtEnd 0 = .ok (.aload_n 0, 1) := by decide +kernel
theorem dX4_isAtEnd_1 : decode cX4_isAtEnd 1 = .ok (.getfield 41, 3) := by decide +kernel
theorem dX4_isAtEnd_4 : decode cX4_isAtEnd 4 = .ok (.aload_n 0, 1) := by decide +kernel
theorem dX4_isAtEnd_5 : decode cX4_isAtEnd 5 = .ok (.getfield 9, 3) := by decide +kernel
theorem dX4_isAtEnd_8 : decode cX4_isAtEnd 8 = .ok (.getfield 148, 3) := by decide +kernel
theorem dX4_isAtEnd_11 : decode cX4_isAtEnd 11 = .ok (.if_icmp .ne 7, 3) := by decide +kernel
theorem dX4_isAtEnd_14 : decode cX4_isAtEnd 14 = .ok (.iconst 1, 1) := by decide +kernel
theorem dX4_isAtEnd_15 : decode cX4_isAtEnd 15 = .ok (.goto 4, 3) := by decide +kernel
theorem dX4_isAtEnd_18 : decode cX4_isAtEnd 18 = .ok (.iconst 0, 1) := by decide +kernel
theorem dX4_isAtEnd_19 : decode cX4_isAtEnd 19 = .ok (.ireturn, 1) := by decide +kernel
set_option maxRecDepth 20000 in
theorem ggX4_hasReadAll_X4_isAtEnd : GoodIn wsX4_hasReadAll wsX4_isAtEnd := goodIn_r _ [6, 7, 8, 9, 10, 11, 12, 13, 14] (by decide +kernel) (by decide +kernel)
set_option maxRecDepth 20000 in
theorem gX4_hasReadAll_X4_isAtEnd : GoodIn wsX4_hasReadAll (wsV RX4 85 RX4 yX4_isAtEnd wsX4_isAtEnd) := goodIn_app (goodIn_of _ (by decide +kernel)) ggX4_hasReadAll_X4_isAtEnd
theorem dX4_hasReadAll_0 : decode cX4_hasReadAll 0 = .ok (.aload_n 0, 1) := by decide +kernel
theorem dX4_hasReadAll_1 : decode cX4_hasReadAll 1 = .ok (.getfield 129, 3) := by decide +kernel
theorem dX4_hasReadAll_4 : decode cX4_hasReadAll 4 = .ok (.ifCond .ne 14, 3) := by decide +kernel
theorem dX4_hasReadAll_7 : decode cX4_hasReadAll 7 = .ok (.aload_n 0, 1) := by decide +kernel
theorem dX4_hasReadAll_8 : decode cX4_hasReadAll 8 = .ok (.invokevirtual 85, 3) := by decide +kernel
theorem dX4_hasReadAll_11 : decode cX4_hasReadAll 11 = .ok (.ifCond .eq 7, 3) := by decide +kernel
theorem dX4_hasReadAll_14 : decode cX4_hasReadAll 14 = .ok (.iconst 1, 1) := by decide +kernel
theorem dX4_hasReadAll_15 : decode cX4_hasReadAll 15 = .ok (.goto 4, 3) := by decide +kernel
theorem dX4_hasReadAll_18 : decode cX4_hasReadAll 18 = .ok (.iconst 0, 1) := by decide +kernel
theorem dX4_hasReadAll_19 : decode cX4_hasReadAll 19 = .ok (.ireturn, 1) := by decide +kernel
theorem dX5_init_0 : decode cX5_init 0 = .ok (.aload_n 0, 1) := by decide +kernel
theorem dX5_init_1 : decode cX5_init 1 = .ok (.invokespecial 3, 3) := by decide +kernel
theorem dX5_init_4 : decode cX5_init 4 = .ok (.return_, 1) := by decide +kernel
theorem dX5_addPause_0 : decode cX5_addPause 0 = .ok (.aload_n 0, 1) := by decide +kernel
theorem dX5_addPause_1 : decode cX5_addPause 1 = .ok (.dup, 1) := by decide +kernel
theorem dX5_addPause_2 : decode cX5_addPause 2 = .ok (.getfield 9, 3) := by decide +kernel
theorem dX5_addPause_5 : decode cX5_addPause 5 = .ok (.iconst 1, 1) := by decide +kernel
theorem dX5_addPause_6 : decode cX5_addPause 6 = .ok (.iadd, 1) := by decide +kernel
theorem dX5_addPause_7 : decode cX5_addPause 7 = .ok (.putfield 9, 3) := by decide +kernel
theorem dX5_addPause_10 : decode cX5_addPause 10 = .ok (.aload_n 0, 1) := by decide +kernel
theorem dX5_addPause_11 : decode cX5_addPause 11 = .ok (.dup, 1) := by decide +kernel
theorem dX5_addPause_12 : decode cX5_addPause 12 = .ok (.getfield 15, 3) := by decide +kernel
theorem dX5_addPause_15 : decode cX5_addPause 15 = .ok (.aload_n 1, 1) := by decide +kernel
theorem dX5_addPause_16 : decode cX5_addPause 16 = .ok (.getfield 19, 3) := by decide +kernel
theorem dX5_addPause_19 : decode cX5_addPause 19 = .ok (.i2l, 1) := by decide +kernel
theorem dX5_addPause_20 : decode cX5_addPause 20 = .ok (.ladd, 1) := by decide +kernel
theorem dX5_addPause_21 : decode cX5_addPause 21 = .ok (.putfield 15, 3) := by decide +kernel
theorem dX5_addPause_24 : decode cX5_addPause 24 = .ok (.aload_n 1, 1) := by decide +kernel
theorem dX5_addPause_25 : decode cX5_addPause 25 = .ok (.getfield 23, 3) := by decide +kernel
theorem dX5_addPause_28 : decode cX5_addPause 28 = .ok (.iconst (-1), 1) := by decide +kernel
theorem dX5_addPause_29 : decode cX5_addPause 29 = .ok (.if_icmp .eq 22, 3) := by decide +kernel
theorem dX5_addPause_32 : decode cX5_addPause 32 = .ok (.aload_n 0, 1) := by decide +kernel
theorem dX5_addPause_33 : decode cX5_addPause 33 = .ok (.dup, 1) := by decide +kernel
theorem dX5_addPause_34 : decode cX5_addPause 34 = .ok (.getfield 26, 3) := by decide +kernel
theorem dX5_addPause_37 : decode cX5_addPause 37 = .ok (.aload_n 1, 1) := by decide +kernel
theorem dX5_addPause_38 : decode cX5_addPause 38 = .ok (.getfield 29, 3) := by decide +kernel
theorem dX5_addPause_41 : decode cX5_addPause 41 = .ok (.aload_n 1, 1) := by decide +kernel
theorem dX5_addPause_42 : decode cX5_addPause 42 = .ok (.getfield 23, 3) := by decide +kernel
theorem dX5_addPause_45 : decode cX5_addPause 45 = .ok (.isub, 1) := by decide +kernel
theorem dX5_addPause_46 : decode cX5_addPause 46 = .ok (.i2l, 1) := by decide +kernel
theorem dX5_addPause_47 : decode cX5_addPause 47 = .ok (.ladd, 1) := by decide +kernel
theorem dX5_addPause_48 : decode cX5_addPause 48 = .ok (.putfield 26, 3) := by decide +kernel
theorem dX5_addPause_51 : decode cX5_addPause 51 = .ok (.aload_n 0, 1) := by decide +kernel
theorem dX5_addPause_52 : decode cX5_addPause 52 = .ok (.getfield 32, 3) := by decide +kernel
theorem dX5_addPause_55 : decode cX5_addPause 55 = .ok (.ifnull 47, 3) := by decide +kernel
theorem dX5_addPause_58 : decode cX5_addPause 58 = .ok (.aload_n 0, 1) := by decide +kernel
theorem dX5_addPause_59 : decode cX5_addPause 59 = .ok (.dup, 1) := by decide +kernel
theorem dX5_addPause_60 : decode cX5_addPause 60 = .ok (.getfield 36, 3) := by decide +kernel
theorem dX5_addPause_63 : decode cX5_addPause 63 = .ok (.aload_n 1, 1) := by decide +kernel
theorem dX5_addPause_64 : decode cX5_addPause 64 = .ok (.getfield 39, 3) := by decide +kernel
theorem dX5_addPause_67 : decode cX5_addPause 67 = .ok (.aload_n 0, 1) := by decide +kernel
theorem dX5_addPause_68 : decode cX5_addPause 68 = .ok (.getfield 32, 3) := by decide +kernel
theorem dX5_addPause_71 : decode cX5_addPause 71 = .ok (.getfield 42, 3) := by decide +kernel
theorem dX5_addPause_74 : decode cX5_addPause 74 = .ok (.isub, 1) := by decide +kernel
theorem dX5_addPause_75 : decode cX5_addPause 75 = .ok (.i2l, 1) := by decide +kernel
theorem dX5_addPause_76 : decode cX5_addPause 76 = .ok (.ladd, 1) := by decide +kernel
theorem dX5_addPause_77 : decode cX5_addPause 77 = .ok (.putfield 36, 3) := by decide +kernel
theorem dX5_addPause_80 : decode cX5_addPause 80 = .ok (.aload_n 0, 1) := by decide +kernel
theorem dX5_addPause_81 : decode cX5_addPause 81 = .ok (.dup, 1) := by decide +kernel
theorem dX5_addPause_82 : decode cX5_addPause 82 = .ok (.getfield 45, 3) := by decide +kernel
theorem dX5_addPause_85 : decode cX5_addPause 85 = .ok (.aload_n 1, 1) := by decide +kernel
theorem dX5_addPause_86 : decode cX5_addPause 86 = .ok (.getfield 48, 3) := by decide +kernel
theorem dX5_addPause_89 : decode cX5_addPause 89 = .ok (.aload_n 0, 1) := by decide +kernel
theorem dX5_addPause_90 : decode cX5_addPause 90 = .ok (.getfield 32, 3) := by decide +kernel
theorem dX5_addPause_93 : decode cX5_addPause 93 = .ok (.getfield 51, 3) := by decide +kernel
theorem dX5_addPause_96 : decode cX5_addPause 96 = .ok (.isub, 1) := by decide +kernel
theorem dX5_addPause_97 : decode cX5_addPause 97 = .ok (.i2l, 1) := by decide +kernel
theorem dX5_addPause_98 : decode cX5_addPause 98 = .ok (.ladd, 1) := by decide +kernel
theorem dX5_addPause_99 : decode cX5_addPause 99 = .ok (.putfield 45, 3) := by decide +kernel
theorem dX5_addPause_102 : decode cX5_addPause 102 = .ok (.aload_n 0, 1) := by decide +kernel
theorem dX5_addPause_103 : decode cX5_addPause 103 = .ok (.aload_n 1, 1) := by decide +kernel
theorem dX5_addPause_104 : decode cX5_addPause 104 = .ok (.putfield 32, 3) := by decide +kernel
theorem dX5_addPause_107 : decode cX5_addPause 107 = .ok (.return_, 1) := by decide +kernel
theorem dX5_endLog_0 : decode cX5_endLog 0 = .ok (.aload_n 0, 1) := by decide +kernel
theorem dX5_endLog_1 : decode cX5_endLog 1 = .ok (.aconst_null, 1) := by decide +kernel
theorem dX5_endLog_2 : decode cX5_endLog 2 = .ok (.putfield 32, 3) := by decide +kernel
theorem dX5_endLog_5 : decode cX5_endLog 5 = .ok (.return_, 1) := by decide +kernel
theorem dX6_init_0 : decode cX6_init 0 = .ok (.aload_n 0, 1) := by decide +kernel
theorem dX6_init_1 : decode cX6_init 1 = .ok (.invokespecial 3, 3) := by decide +kernel
theorem dX6_init_4 : decode cX6_init 4 = .ok (.aload_n 0, 1) := by decide +kernel
theorem dX6_init_5 : decode cX6_init 5 = .ok (.bipush 72, 2) := by decide +kernel
theorem dX6_init_7 : decode cX6_init 7 = .ok (.newarray .char, 2) := by decide +kernel
theorem dX6_init_9 : decode cX6_init 9 = .ok (.putfield 9, 3) := by decide +kernel
theorem dX6_init_12 : decode cX6_init 12 = .ok (.return_, 1) := by decide +kernel
theorem dX6_clear_0 : decode cX6_clear 0 = .ok (.aload_n 0, 1) := by decide +kernel
theorem dX6_clear_1 : decode cX6_clear 1 = .ok (.iconst 0, 1) := by decide +kernel
theorem dX6_clear_2 : decode cX6_clear 2 = .ok (.putfield 15, 3) := by decide +kernel
theorem dX6_clear_5 : decode cX6_clear 5 = .ok (.return_, 1) := by decide +kernel
theorem dX6_add_0 : decode cX6_add 0 = .ok (.aload_n 0, 1) := by decide +kernel
theorem dX6_add_1 : decode cX6_add 1 = .ok (.getfield 15, 3) := by decide +kernel
theorem dX6_add_4 : decode cX6_add 4 = .ok (.ifCond .lt 15, 3) := by decide +kernel
theorem dX6_add_7 : decode cX6_add 7 = .ok (.aload_n 0, 1) := by decide +kernel
theorem dX6_add_8 : decode cX6_add 8 = .ok (.getfield 15, 3) := by decide +kernel
theorem dX6_add_11 : decode cX6_add 11 = .ok (.aload_n 0, 1) := by decide +kernel
theorem dX6_add_12 : decode cX6_add 12 = .ok (.getfield 9, 3) := by decide +kernel
theorem dX6_add_15 : decode cX6_add 15 = .ok (.arraylength, 1) := by decide +kernel
theorem dX6_add_16 : decode cX6_add 16 = .ok (.if_icmp .lt 5, 3) := by decide +kernel
theorem dX6_add_19 : decode cX6_add 19 = .ok (.iconst 0, 1) := by decide +kernel
theorem dX6_add_20 : decode cX6_add 20 = .ok (.ireturn, 1) := by decide +kernel
theorem dX6_add_21 : decode cX6_add 21 = .ok (.aload_n 0, 1) := by decide +kernel
theorem dX6_add_22 : decode cX6_add 22 = .ok (.getfield 9, 3) := by decide +kernel
theorem dX6_add_25 : decode cX6_add 25 = .ok (.aload_n 0, 1) := by decide +kernel
theorem dX6_add_26 : decode cX6_add 26 = .ok (.getfield 15, 3) := by decide +kernel
theorem dX6_add_29 : decode cX6_add 29 = .ok (.iload_n 1, 1) := by decide +kernel
theorem dX6_add_30 : decode cX6_add 30 = .ok (.castore, 1) := by decide +kernel
theorem dX6_add_31 : decode cX6_add 31 = .ok (.aload_n 0, 1) := by decide +kernel
theorem dX6_add_32 : decode cX6_add 32 = .ok (.dup, 1) := by decide +kernel
theorem dX6_add_33 : decode cX6_add 33 = .ok (.getfield 15, 3) := by decide +kernel
theorem dX6_add_36 : decode cX6_add 36 = .ok (.iconst 1, 1) := by decide +kernel
theorem dX6_add_37 : decode cX6_add 37 = .ok (.iadd, 1) := by decide +kernel
theorem dX6_add_38 : decode cX6_add 38 = .ok (.putfield 15, 3) := by decide +kernel
theorem dX6_add_41 : decode cX6_add 41 = .ok (.iconst 1, 1) := by decide +kernel
theorem dX6_add_42 : decode cX6_add 42 = .ok (.ireturn, 1) := by decide +kernel
theorem dX6_cut_0 : decode cX6_cut 0 = .ok (.iload_n 1, 1) := by decide +kernel
theorem dX6_cut_1 : decode cX6_cut 1 = .ok (.aload_n 0, 1) := by decide +kernel
theorem dX6_cut_2 : decode cX6_cut 2 = .ok (.getfield 15, 3) := by decide +kernel
theorem dX6_cut_5 : decode cX6_cut 5 = .ok (.invokestatic 19, 3) := by decide +kernel
theorem dX6_cut_8 : decode cX6_cut 8 = .ok (.istore_n 2, 1) := by decide +kernel
theorem dX6_cut_9 : decode cX6_cut 9 = .ok (.aload_n 0, 1) := by decide +kernel
theorem dX6_cut_10 : decode cX6_cut 10 = .ok (.dup, 1) := by decide +kernel
theorem dX6_cut_11 : decode cX6_cut 11 = .ok (.getfield 15, 3) := by decide +kernel
theorem dX6_cut_14 : decode cX6_cut 14 = .ok (.iload_n 2, 1) := by decide +kernel
theorem dX6_cut_15 : decode cX6_cut 15 = .ok (.isub, 1) := by decide +kernel
theorem dX6_cut_16 : decode cX6_cut 16 = .ok (.putfield 15, 3) := by decide +kernel
theorem dX6_cut_19 : decode cX6_cut 19 = .ok (.iload_n 2, 1) := by decide +kernel
theorem dX6_cut_20 : decode cX6_cut 20 = .ok (.ireturn, 1) := by decide +kernel
theorem dX6_get_0 : decode cX6_get 0 = .ok (.iload_n 1, 1) := by decide +kernel
theorem dX6_get_1 : decode cX6_get 1 = .ok (.ifCond .lt 20, 3) := by decide +kernel
theorem dX6_get_4 : decode cX6_get 4 = .ok (.iload_n 1, 1) := by decide +kernel
theorem dX6_get_5 : decode cX6_get 5 = .ok (.aload_n 0, 1) := by decide +kernel
theorem dX6_get_6 : decode cX6_get 6 = .ok (.getfield 15, 3) := by decide +kernel
theorem dX6_get_9 : decode cX6_get 9 = .ok (.if_icmp .ge 12, 3) := by decide +kernel
theorem dX6_get_12 : decode cX6_get 12 = .ok (.iload_n 1, 1) := by decide +kernel
theorem dX6_get_13 : decode cX6_get 13 = .ok (.aload_n 0, 1) := by decide +kernel
theorem dX6_get_14 : decode cX6_get 14 = .ok (.getfield 9, 3) := by decide +kernel
theorem dX6_get_17 : decode cX6_get 17 = .ok (.arraylength, 1) := by decide +kernel
theorem dX6_get_18 : decode cX6_get 18 = .ok (.if_icmp .lt 5, 3) := by decide +kernel
theorem dX6_get_21 : decode cX6_get 21 = .ok (.iconst (-1), 1) := by decide +kernel
theorem dX6_get_22 : decode cX6_get 22 = .ok (.ireturn, 1) := by decide +kernel
theorem dX6_get_23 : decode cX6_get 23 = .ok (.aload_n 0, 1) := by decide +kernel
theorem dX6_get_24 : decode cX6_get 24 = .ok (.getfield 9, 3) := by decide +kernel
theorem dX6_get_27 : decode cX6_get 27 = .ok (.iload_n 1, 1) := by decide +kernel
theorem dX6_get_28 : decode cX6_get 28 = .ok (.caload, 1) := by decide +kernel
theorem dX6_get_29 : decode cX6_get 29 = .ok (.ireturn, 1) := by decide +kernel
set_option maxRecDepth 20000 in
theorem ggX6_addWord_J0_length_8abf5 : GoodIn wsX6_addWord wsJ0_length_8abf5 := goodIn_r _ [5, 6, 7, 8, 9, 4, 10, 11, 12] (by decide +kernel) (by decide +kernel)
set_option maxRecDepth 20000 in
theorem gX6_addWord_J0_length_8abf5 : GoodIn wsX6_addWord (wsV RX6 25 RJ0 yJ0_length_8abf5 wsJ0_length_8abf5) := goodIn_app (goodIn_of _ (by decide +kernel)) ggX6_addWord_J0_length_8abf5
set_option maxRecDepth 20000 in
theorem ggX6_addWord_J0_charAt_5068e : GoodIn wsX6_addWord wsJ0_charAt_5068e := goodIn_r _ [16, 6, 17, 18, 19, 4, 20, 11, 12, 21, 22, 23, 24, 25, 26, 27, 28, 29, 30, 31, 32, 33, 34, 35, 36, 37, 38, 39, 40, 41, 42, 43, 44, 45, 46, 47, 48, 49] (by decide +kernel) (by decide +kernel)
set_option maxRecDepth 20000 in
theorem gX6_addWord_J0_charAt_5068e : GoodIn wsX6_addWord (wsV RX6 30 RJ0 yJ0_charAt_5068e wsJ0_charAt_5068e) := goodIn_app (goodIn_of _ (by decide +kernel)) ggX6_addWord_J0_charAt_5068e
set_option maxRecDepth 20000 in
theorem ggX6_addWord_X6_add : GoodIn wsX6_addWord wsX6_add := goodIn_r _ [54, 55, 56, 57, 58] (by decide +kernel) (by decide +kernel)
set_option maxRecDepth 20000 in
theorem gX6_addWord_X6_add : GoodIn wsX6_addWord (wsV RX6 34 RX6 yX6_add wsX6_add) := goodIn_app (goodIn_of _ (by decide +kernel)) ggX6_addWord_X6_add
theorem dX6_addWord_0 : decode cX6_addWord 0 = .ok (.iconst 0, 1) := by decide +kernel
theorem dX6_addWord_1 : decode cX6_addWord 1 = .ok (.istore_n 2, 1) := by decide +kernel
theorem dX6_addWord_2 : decode cX6_addWord 2 = .ok (.iload_n 2, 1) := by decide +kernel
theorem dX6_addWord_3 : decode cX6_addWord 3 = .ok (.aload_n 1, 1) := by decide +kernel
theorem dX6_addWord_4 : decode cX6_addWord 4 = .ok (.invokevirtual 25, 3) := by decide +kernel
theorem dX6_addWord_7 : decode cX6_addWord 7 = .ok (.if_icmp .ge 19, 3) := by decide +kernel
theorem dX6_addWord_10 : decode cX6_addWord 10 = .ok (.aload_n 0, 1) := by decide +kernel
theorem dX6_addWord_11 : decode cX6_addWord 11 = .ok (.aload_n 1, 1) := by decide +kernel
theorem dX6_addWord_12 : decode cX6_addWord 12 = .ok (.iload_n 2, 1) := by decide +kernel
theorem dX6_addWord_13 : decode cX6_addWord 13 = .ok (.invokevirtual 30, 3) := by decide +kernel
theorem dX6_addWord_16 : decode cX6_addWord 16 = .ok (.invokevirtual 34, 3) := by decide +kernel
theorem dX6_addWord_19 : decode cX6_addWord 19 = .ok (.pop, 1) := by decide +kernel
theorem dX6_addWord_20 : decode cX6_addWord 20 = .ok (.iinc 2 1, 3) := by decide +kernel
theorem dX6_addWord_23 : decode cX6_addWord 23 = .ok (.goto (-21), 3) := by decide +kernel
theorem dX6_addWord_26 : decode cX6_addWord 26 = .ok (.return_, 1) := by decide +kernel
set_option maxRecDepth 20000 in
theorem ggX6_addNumber_X6_add : GoodIn wsX6_addNumber wsX6_add := goodIn_r _ [5, 6, 7, 8, 9] (by decide +kernel) (by decide +kernel)
set_option maxRecDepth 20000 in
theorem gX6_addNumber_X6_add : GoodIn wsX6_addNumber (wsV RX6 34 RX6 yX6_add wsX6_add) := goodIn_app (goodIn_of _ (by decide +kernel)) ggX6_addNumber_X6_add
theorem dX6_addNumber_0 : decode cX6_addNumber 0 = .ok (.sipush 10000, 3) := by decide +kernel
theorem dX6_addNumber_3 : decode cX6_addNumber 3 = .ok (.istore_n 2, 1) := by decide +kernel
theorem dX6_addNumber_4 : decode cX6_addNumber 4 = .ok (.iload_n 2, 1) := by decide +kernel
theorem dX6_addNumber_5 : decode cX6_addNumber 5 = .ok (.ifCond .le 36, 3) := by decide +kernel
theorem dX6_addNumber_8 : decode cX6_addNumber 8 = .ok (.iload_n 1, 1) := by decide +kernel
theorem dX6_addNumber_9 : decode cX6_addNumber 9 = .ok (.iload_n 2, 1) := by decide +kernel
theorem dX6_addNumber_10 : decode cX6_addNumber 10 = .ok (.if_icmp .ge 8, 3) := by decide +kernel
theorem dX6_addNumber_13 : decode cX6_addNumber 13 = .ok (.iload_n 2, 1) := by decide +kernel
theorem dX6_addNumber_14 : decode cX6_addNumber 14 = .ok (.iconst 1, 1) := by decide +kernel
theorem dX6_addNumber_15 : decode cX6_addNumber 15 = .ok (.if_icmp .ne 18, 3) := by decide +kernel
theorem dX6_addNumber_18 : decode cX6_addNumber 18 = .ok (.aload_n 0, 1) := by decide +kernel
theorem dX6_addNumber_19 : decode cX6_addNumber 19 = .ok (.bipush 48, 2) := by decide +kernel
theorem dX6_addNumber_21 : decode cX6_addNumber 21 = .ok (.iload_n 1, 1) := by decide +kernel
theorem dX6_addNumber_22 : decode cX6_addNumber 22 = .ok (.iload_n 2, 1) := by decide +kernel
theorem dX6_addNumber_23 : decode cX6_addNumber 23 = .ok (.idiv, 1) := by decide +kernel
theorem dX6_addNumber_24 : decode cX6_addNumber 24 = .ok (.bipush 10, 2) := by decide +kernel
theorem dX6_addNumber_26 : decode cX6_addNumber 26 = .ok (.irem, 1) := by decide +kernel
theorem dX6_addNumber_27 : decode cX6_addNumber 27 = .ok (.iadd, 1) := by decide +kernel
theorem dX6_addNumber_28 : decode cX6_addNumber 28 = .ok (.i2c, 1) := by decide +kernel
theorem dX6_addNumber_29 : decode cX6_addNumber 29 = .ok (.invokevirtual 34, 3) := by decide +kernel
theorem dX6_addNumber_32 : decode cX6_addNumber 32 = .ok (.pop, 1) := by decide +kernel
theorem dX6_addNumber_33 : decode cX6_addNumber 33 = .ok (.iload_n 2, 1) := by decide +kernel
theorem dX6_addNumber_34 : decode cX6_addNumber 34 = .ok (.bipush 10, 2) := by decide +kernel
theorem dX6_addNumber_36 : decode cX6_addNumber 36 = .ok (.idiv, 1) := by decide +kernel
theorem dX6_addNumber_37 : decode cX6_addNumber 37 = .ok (.istore_n 2, 1) := by decide +kernel
theorem dX6_addNumber_38 : decode cX6_addNumber 38 = .ok (.goto (-34), 3) := by decide +kernel
theorem dX6_addNumber_41 : decode cX6_addNumber 41 = .ok (.return_, 1) := by decide +kernel
set_option maxRecDepth 20000 in
theorem ggX6_addDecimal_X6_addNumber : GoodIn wsX6_addDecimal wsX6_addNumber := goodIn_r _ [5, 6, 7, 8, 4, 9, 10, 11, 12, 13] (by decide +kernel) (by decide +kernel)
set_option maxRecDepth 20000 in
theorem gX6_addDecimal_X6_addNumber : GoodIn wsX6_addDecimal (wsV RX6 38 RX6 yX6_addNumber wsX6_addNumber) := goodIn_app (goodIn_of _ (by decide +kernel)) ggX6_addDecimal_X6_addNumber
set_option maxRecDepth 20000 in
theorem ggX6_addDecimal_X6_add : GoodIn wsX6_addDecimal wsX6_add := goodIn_r _ [9, 10, 11, 12, 13] (by decide +kernel) (by decide +kernel)
set_option maxRecDepth 20000 in
theorem gX6_addDecimal_X6_add : GoodIn wsX6_addDecimal (wsV RX6 34 RX6 yX6_add wsX6_add) := goodIn_app (goodIn_of _ (by decide +kernel)) ggX6_addDecimal_X6_add
theorem dX6_addDecimal_0 : decode cX6_addDecimal 0 = .ok (.aload_n 0, 1) := by decide +kernel
theorem dX6_addDecimal_1 : decode cX6_addDecimal 1 = .ok (.iload_n 1, 1) := by decide +kernel
theorem dX6_addDecimal_2 : decode cX6_addDecimal 2 = .ok (.sipush 1000, 3) := by decide +kernel
theorem dX6_addDecimal_5 : decode cX6_addDecimal 5 = .ok (.idiv, 1) := by decide +kernel
theorem dX6_addDecimal_6 : decode cX6_addDecimal 6 = .ok (.invokevirtual 38, 3) := by decide +kernel
theorem dX6_addDecimal_9 : decode cX6_addDecimal 9 = .ok (.aload_n 0, 1) := by decide +kernel
theorem dX6_addDecimal_10 : decode cX6_addDecimal 10 = .ok (.bipush 46, 2) := by decide +kernel
theorem dX6_addDecimal_12 : decode cX6_addDecimal 12 = .ok (.invokevirtual 34, 3) := by decide +kernel
theorem dX6_addDecimal_15 : decode cX6_addDecimal 15 = .ok (.pop, 1) := by decide +kernel
theorem dX6_addDecimal_16 : decode cX6_addDecimal 16 = .ok (.aload_n 0, 1) := by decide +kernel
theorem dX6_addDecimal_17 : decode cX6_addDecimal 17 = .ok (.bipush 48, 2) := by decide +kernel
theorem dX6_addDecimal_19 : decode cX6_addDecimal 19 = .ok (.iload_n 1, 1) := by decide +kernel
theorem dX6_addDecimal_20 : decode cX6_addDecimal 20 = .ok (.bipush 100, 2) := by decide +kernel
theorem dX6_addDecimal_22 : decode cX6_addDecimal 22 = .ok (.idiv, 1) := by decide +kernel
theorem dX6_addDecimal_23 : decode cX6_addDecimal 23 = .ok (.bipush 10, 2) := by decide +kernel
theorem dX6_addDecimal_25 : decode cX6_addDecimal 25 = .ok (.irem, 1) := by decide +kernel
theorem dX6_addDecimal_26 : decode cX6_addDecimal 26 = .ok (.iadd, 1) := by decide +kernel
theorem dX6_addDecimal_27 : decode cX6_addDecimal 27 = .ok (.i2c, 1) := by decide +kernel
theorem dX6_addDecimal_28 : decode cX6_addDecimal 28 = .ok (.invokevirtual 34, 3) := by decide +kernel
theorem dX6_addDecimal_31 : decode cX6_addDecimal 31 = .ok (.pop, 1) := by decide +kernel
theorem dX6_addDecimal_32 : decode cX6_addDecimal 32 = .ok (.aload_n 0, 1) := by decide +kernel
theorem dX6_addDecimal_33 : decode cX6_addDecimal 33 = .ok (.bipush 48, 2) := by decide +kernel
theorem dX6_addDecimal_35 : decode cX6_addDecimal 35 = .ok (.iload_n 1, 1) := by decide +kernel
theorem dX6_addDecimal_36 : decode cX6_addDecimal 36 = .ok (.bipush 10, 2) := by decide +kernel
theorem dX6_addDecimal_38 : decode cX6_addDecimal 38 = .ok (.idiv, 1) := by decide +kernel
theorem dX6_addDecimal_39 : decode cX6_addDecimal 39 = .ok (.bipush 10, 2) := by decide +kernel
theorem dX6_addDecimal_41 : decode cX6_addDecimal 41 = .ok (.irem, 1) := by decide +kernel
theorem dX6_addDecimal_42 : decode cX6_addDecimal 42 = .ok (.iadd, 1) := by decide +kernel
theorem dX6_addDecimal_43 : decode cX6_addDecimal 43 = .ok (.i2c, 1) := by decide +kernel
theorem dX6_addDecimal_44 : decode cX6_addDecimal 44 = .ok (.invokevirtual 34, 3) := by decide +kernel
theorem dX6_addDecimal_47 : decode cX6_addDecimal 47 = .ok (.pop, 1) := by decide +kernel
theorem dX6_addDecimal_48 : decode cX6_addDecimal 48 = .ok (.aload_n 0, 1) := by decide +kernel
theorem dX6_addDecimal_49 : decode cX6_addDecimal 49 = .ok (.bipush 48, 2) := by decide +kernel
theorem dX6_addDecimal_51 : decode cX6_addDecimal 51 = .ok (.iload_n 1, 1) := by decide +kernel
theorem dX6_addDecimal_52 : decode cX6_addDecimal 52 = .ok (.bipush 10, 2) := by decide +kernel
theorem dX6_addDecimal_54 : decode cX6_addDecimal 54 = .ok (.irem, 1) := by decide +kernel
theorem dX6_addDecimal_55 : decode cX6_addDecimal 55 = .ok (.iadd, 1) := by decide +kernel
theorem dX6_addDecimal_56 : decode cX6_addDecimal 56 = .ok (.i2c, 1) := by decide +kernel
theorem dX6_addDecimal_57 : decode cX6_addDecimal 57 = .ok (.invokevirtual 34, 3) := by decide +kernel
theorem dX6_addDecimal_60 : decode cX6_addDecimal 60 = .ok (.pop, 1) := by decide +kernel
theorem dX6_addDecimal_61 : decode cX6_addDecimal 61 = .ok (.return_, 1) := by decide +kernel
set_option maxRecDepth 20000 in
theorem ggX6_addSize_X6_addNumber : GoodIn wsX6_addSize wsX6_addNumber := goodIn_r _ [5, 6, 7, 8, 4, 9, 10, 11, 12, 13] (by decide +kernel) (by decide +kernel)
set_option maxRecDepth 20000 in
theorem gX6_addSize_X6_addNumber : GoodIn wsX6_addSize (wsV RX6 38 RX6 yX6_addNumber wsX6_addNumber) := goodIn_app (goodIn_of _ (by decide +kernel)) ggX6_addSize_X6_addNumber
set_option maxRecDepth 20000 in
theorem ggX6_addSize_X6_add : GoodIn wsX6_addSize wsX6_add := goodIn_r _ [9, 10, 11, 12, 13] (by decide +kernel) (by decide +kernel)
set_option maxRecDepth 20000 in
theorem gX6_addSize_X6_add : GoodIn wsX6_addSize (wsV RX6 34 RX6 yX6_add wsX6_add) := goodIn_app (goodIn_of _ (by decide +kernel)) ggX6_addSize_X6_add
theorem dX6_addSize_0 : decode cX6_addSize 0 = .ok (.iload_n 1, 1) := by decide +kernel
theorem dX6_addSize_1 : decode cX6_addSize 1 = .ok (.ifCond .eq 15, 3) := by decide +kernel
theorem dX6_addSize_4 : decode cX6_addSize 4 = .ok (.iload_n 1, 1) := by decide +kernel
theorem dX6_addSize_5 : decode cX6_addSize 5 = .ok (.sipush 1024, 3) := by decide +kernel
theorem dX6_addSize_8 : decode cX6_addSize 8 = .ok (.irem, 1) := by decide +kernel
theorem dX6_addSize_9 : decode cX6_addSize 9 = .ok (.ifCond .ne 7, 3) := by decide +kernel
theorem dX6_addSize_12 : decode cX6_addSize 12 = .ok (.iconst 1, 1) := by decide +kernel
theorem dX6_addSize_13 : decode cX6_addSize 13 = .ok (.goto 4, 3) := by decide +kernel
theorem dX6_addSize_16 : decode cX6_addSize 16 = .ok (.iconst 0, 1) := by decide +kernel
theorem dX6_addSize_17 : decode cX6_addSize 17 = .ok (.istore_n 2, 1) := by decide +kernel
theorem dX6_addSize_18 : decode cX6_addSize 18 = .ok (.aload_n 0, 1) := by decide +kernel
theorem dX6_addSize_19 : decode cX6_addSize 19 = .ok (.iload_n 2, 1) := by decide +kernel
theorem dX6_addSize_20 : decode cX6_addSize 20 = .ok (.ifCond .eq 11, 3) := by decide +kernel
theorem dX6_addSize_23 : decode cX6_addSize 23 = .ok (.iload_n 1, 1) := by decide +kernel
theorem dX6_addSize_24 : decode cX6_addSize 24 = .ok (.sipush 1024, 3) := by decide +kernel
theorem dX6_addSize_27 : decode cX6_addSize 27 = .ok (.idiv, 1) := by decide +kernel
theorem dX6_addSize_28 : decode cX6_addSize 28 = .ok (.goto 4, 3) := by decide +kernel
theorem dX6_addSize_31 : decode cX6_addSize 31 = .ok (.iload_n 1, 1) := by decide +kernel
theorem dX6_addSize_32 : decode cX6_addSize 32 = .ok (.invokevirtual 38, 3) := by decide +kernel
theorem dX6_addSize_35 : decode cX6_addSize 35 = .ok (.aload_n 0, 1) := by decide +kernel
theorem dX6_addSize_36 : decode cX6_addSize 36 = .ok (.iload_n 2, 1) := by decide +kernel
theorem dX6_addSize_37 : decode cX6_addSize 37 = .ok (.ifCond .eq 8, 3) := by decide +kernel
theorem dX6_addSize_40 : decode cX6_addSize 40 = .ok (.bipush 77, 2) := by decide +kernel
theorem dX6_addSize_42 : decode cX6_addSize 42 = .ok (.goto 5, 3) := by decide +kernel
theorem dX6_addSize_45 : decode cX6_addSize 45 = .ok (.bipush 75, 2) := by decide +kernel
theorem dX6_addSize_47 : decode cX6_addSize 47 = .ok (.invokevirtual 34, 3) := by decide +kernel
theorem dX6_addSize_50 : decode cX6_addSize 50 = .ok (.pop, 1) := by decide +kernel
theorem dX6_addSize_51 : decode cX6_addSize 51 = .ok (.return_, 1) := by decide +kernel
theorem dX7_init_0 : decode cX7_init 0 = .ok (.aload_n 0, 1) := by decide +kernel
theorem dX7_init_1 : decode cX7_init 1 = .ok (.invokespecial 3, 3) := by decide +kernel
theorem dX7_init_4 : decode cX7_init 4 = .ok (.aload_n 0, 1) := by decide +kernel
theorem dX7_init_5 : decode cX7_init 5 = .ok (.iconst (-1), 1) := by decide +kernel
theorem dX7_init_6 : decode cX7_init 6 = .ok (.putfield 9, 3) := by decide +kernel
theorem dX7_init_9 : decode cX7_init 9 = .ok (.aload_n 0, 1) := by decide +kernel
theorem dX7_init_10 : decode cX7_init 10 = .ok (.iconst (-1), 1) := by decide +kernel
theorem dX7_init_11 : decode cX7_init 11 = .ok (.putfield 15, 3) := by decide +kernel
theorem dX7_init_14 : decode cX7_init 14 = .ok (.return_, 1) := by decide +kernel
theorem dX7_isBack_0 : decode cX7_isBack 0 = .ok (.iload_n 1, 1) := by decide +kernel
theorem dX7_isBack_1 : decode cX7_isBack 1 = .ok (.aload_n 0, 1) := by decide +kernel
theorem dX7_isBack_2 : decode cX7_isBack 2 = .ok (.getfield 15, 3) := by decide +kernel
theorem dX7_isBack_5 : decode cX7_isBack 5 = .ok (.if_icmp .ge 7, 3) := by decide +kernel
theorem dX7_isBack_8 : decode cX7_isBack 8 = .ok (.iconst 1, 1) := by decide +kernel
theorem dX7_isBack_9 : decode cX7_isBack 9 = .ok (.goto 4, 3) := by decide +kernel
theorem dX7_isBack_12 : decode cX7_isBack 12 = .ok (.iconst 0, 1) := by decide +kernel
theorem dX7_isBack_13 : decode cX7_isBack 13 = .ok (.ireturn, 1) := by decide +kernel
theorem dX7_see_0 : decode cX7_see 0 = .ok (.aload_n 0, 1) := by decide +kernel
theorem dX7_see_1 : decode cX7_see 1 = .ok (.getfield 9, 3) := by decide +kernel
theorem dX7_see_4 : decode cX7_see 4 = .ok (.iconst (-1), 1) := by decide +kernel
theorem dX7_see_5 : decode cX7_see 5 = .ok (.if_icmp .ne 8, 3) := by decide +kernel
theorem dX7_see_8 : decode cX7_see 8 = .ok (.aload_n 0, 1) := by decide +kernel

theorem dX0_init_0 : decode cX0_init 0 = .ok (.aload_n 0, 1) := by decide +kernel
theorem dX0_init_1 : decode cX0_init 1 = .ok (.invokespecial 3, 3) := by decide +kernel
theorem dX0_init_4 : decode cX0_init 4 = .ok (.aload_n 0, 1) := by decide +kernel
theorem dX0_init_5 : decode cX0_init 5 = .ok (.bipush 12, 2) := by decide +kernel
theorem dX0_init_7 : decode cX0_init 7 = .ok (.newarray .int, 2) := by decide +kernel
theorem dX0_init_9 : decode cX0_init 9 = .ok (.putfield 9, 3) := by decide +kernel
theorem dX0_init_12 : decode cX0_init 12 = .ok (.aload_n 0, 1) := by decide +kernel
theorem dX0_init_13 : decode cX0_init 13 = .ok (.bipush 12, 2) := by decide +kernel
theorem dX0_init_15 : decode cX0_init 15 = .ok (.newarray .int, 2) := by decide +kernel
theorem dX0_init_17 : decode cX0_init 17 = .ok (.putfield 15, 3) := by decide +kernel
theorem dX0_init_20 : decode cX0_init 20 = .ok (.aload_n 0, 1) := by decide +kernel
theorem dX0_init_21 : decode cX0_init 21 = .ok (.bipush 12, 2) := by decide +kernel
theorem dX0_init_23 : decode cX0_init 23 = .ok (.newarray .int, 2) := by decide +kernel
theorem dX0_init_25 : decode cX0_init 25 = .ok (.putfield 18, 3) := by decide +kernel
theorem dX0_init_28 : decode cX0_init 28 = .ok (.return_, 1) := by decide +kernel
theorem dX0_add_0 : decode cX0_add 0 = .ok (.bipush 11, 2) := by decide +kernel
theorem dX0_add_2 : decode cX0_add 2 = .ok (.istore 5, 2) := by decide +kernel
theorem dX0_add_4 : decode cX0_add 4 = .ok (.iload 5, 2) := by decide +kernel
theorem dX0_add_6 : decode cX0_add 6 = .ok (.ifCond .le 57, 3) := by decide +kernel
theorem dX0_add_9 : decode cX0_add 9 = .ok (.aload_n 0, 1) := by decide +kernel
theorem dX0_add_10 : decode cX0_add 10 = .ok (.getfield 9, 3) := by decide +kernel
theorem dX0_add_13 : decode cX0_add 13 = .ok (.iload 5, 2) := by decide +kernel
theorem dX0_add_15 : decode cX0_add 15 = .ok (.aload_n 0, 1) := by decide +kernel
theorem dX0_add_16 : decode cX0_add 16 = .ok (.getfield 9, 3) := by decide +kernel
theorem dX0_add_19 : decode cX0_add 19 = .ok (.iload 5, 2) := by decide +kernel
theorem dX0_add_21 : decode cX0_add 21 = .ok (.iconst 1, 1) := by decide +kernel
theorem dX0_add_22 : decode cX0_add 22 = .ok (.isub, 1) := by decide +kernel
theorem dX0_add_23 : decode cX0_add 23 = .ok (.iaload, 1) := by decide +kernel
theorem dX0_add_24 : decode cX0_add 24 = .ok (.iastore, 1) := by decide +kernel
theorem dX0_add_25 : decode cX0_add 25 = .ok (.aload_n 0, 1) := by decide +kernel
theorem dX0_add_26 : decode cX0_add 26 = .ok (.getfield 15, 3) := by decide +kernel
theorem dX0_add_29 : decode cX0_add 29 = .ok (.iload 5, 2) := by decide +kernel
theorem dX0_add_31 : decode cX0_add 31 = .ok (.aload_n 0, 1) := by decide +kernel
theorem dX0_add_32 : decode cX0_add 32 = .ok (.getfield 15, 3) := by decide +kernel
theorem dX0_add_35 : decode cX0_add 35 = .ok (.iload 5, 2) := by decide +kernel
theorem dX0_add_37 : decode cX0_add 37 = .ok (.iconst 1, 1) := by decide +kernel
theorem dX0_add_38 : decode cX0_add 38 = .ok (.isub, 1) := by decide +kernel
theorem dX0_add_39 : decode cX0_add 39 = .ok (.iaload, 1) := by decide +kernel
theorem dX0_add_40 : decode cX0_add 40 = .ok (.iastore, 1) := by decide +kernel
theorem dX0_add_41 : decode cX0_add 41 = .ok (.aload_n 0, 1) := by decide +kernel
theorem dX0_add_42 : decode cX0_add 42 = .ok (.getfield 18, 3) := by decide +kernel
theorem dX0_add_45 : decode cX0_add 45 = .ok (.iload 5, 2) := by decide +kernel
theorem dX0_add_47 : decode cX0_add 47 = .ok (.aload_n 0, 1) := by decide +kernel
theorem dX0_add_48 : decode cX0_add 48 = .ok (.getfield 18, 3) := by decide +kernel
theorem dX0_add_51 : decode cX0_add 51 = .ok (.iload 5, 2) := by decide +kernel
theorem dX0_add_53 : decode cX0_add 53 = .ok (.iconst 1, 1) := by decide +kernel
theorem dX0_add_54 : decode cX0_add 54 = .ok (.isub, 1) := by decide +kernel
theorem dX0_add_55 : decode cX0_add 55 = .ok (.iaload, 1) := by decide +kernel
theorem dX0_add_56 : decode cX0_add 56 = .ok (.iastore, 1) := by decide +kernel
theorem dX0_add_57 : decode cX0_add 57 = .ok (.iinc 5 (-1), 3) := by decide +kernel
theorem dX0_add_60 : decode cX0_add 60 = .ok (.goto (-56), 3) := by decide +kernel
theorem dX0_add_63 : decode cX0_add 63 = .ok (.aload_n 0, 1) := by decide +kernel
theorem dX0_add_64 : decode cX0_add 64 = .ok (.getfield 9, 3) := by decide +kernel
theorem dX0_add_67 : decode cX0_add 67 = .ok (.iconst 0, 1) := by decide +kernel
theorem dX0_add_68 : decode cX0_add 68 = .ok (.iload_n 1, 1) := by decide +kernel
theorem dX0_add_69 : decode cX0_add 69 = .ok (.iastore, 1) := by decide +kernel
theorem dX0_add_70 : decode cX0_add 70 = .ok (.aload_n 0, 1) := by decide +kernel
theorem dX0_add_71 : decode cX0_add 71 = .ok (.getfield 15, 3) := by decide +kernel
theorem dX0_add_74 : decode cX0_add 74 = .ok (.iconst 0, 1) := by decide +kernel
theorem dX0_add_75 : decode cX0_add 75 = .ok (.iload_n 2, 1) := by decide +kernel
theorem dX0_add_76 : decode cX0_add 76 = .ok (.iastore, 1) := by decide +kernel
theorem dX0_add_77 : decode cX0_add 77 = .ok (.aload_n 0, 1) := by decide +kernel
theorem dX0_add_78 : decode cX0_add 78 = .ok (.getfield 18, 3) := by decide +kernel
theorem dX0_add_81 : decode cX0_add 81 = .ok (.iconst 0, 1) := by decide +kernel
theorem dX0_add_82 : decode cX0_add 82 = .ok (.iload_n 3, 1) := by decide +kernel
theorem dX0_add_83 : decode cX0_add 83 = .ok (.iastore, 1) := by decide +kernel
theorem dX0_add_84 : decode cX0_add 84 = .ok (.aload_n 0, 1) := by decide +kernel
theorem dX0_add_85 : decode cX0_add 85 = .ok (.dup, 1) := by decide +kernel
theorem dX0_add_86 : decode cX0_add 86 = .ok (.getfield 21, 3) := by decide +kernel
theorem dX0_add_89 : decode cX0_add 89 = .ok (.iconst 1, 1) := by decide +kernel
theorem dX0_add_90 : decode cX0_add 90 = .ok (.iadd, 1) := by decide +kernel
theorem dX0_add_91 : decode cX0_add 91 = .ok (.putfield 21, 3) := by decide +kernel
theorem dX0_add_94 : decode cX0_add 94 = .ok (.aload_n 0, 1) := by decide +kernel
theorem dX0_add_95 : decode cX0_add 95 = .ok (.dup, 1) := by decide +kernel
theorem dX0_add_96 : decode cX0_add 96 = .ok (.getfield 25, 3) := by decide +kernel
theorem dX0_add_99 : decode cX0_add 99 = .ok (.iload 4, 2) := by decide +kernel
theorem dX0_add_101 : decode cX0_add 101 = .ok (.iadd, 1) := by decide +kernel
theorem dX0_add_102 : decode cX0_add 102 = .ok (.putfield 25, 3) := by decide +kernel
theorem dX0_add_105 : decode cX0_add 105 = .ok (.return_, 1) := by decide +kernel
theorem dX0_has_0 : decode cX0_has 0 = .ok (.iload_n 1, 1) := by decide +kernel
theorem dX0_has_1 : decode cX0_has 1 = .ok (.ifCond .lt 21, 3) := by decide +kernel
theorem dX0_has_4 : decode cX0_has 4 = .ok (.iload_n 1, 1) := by decide +kernel
theorem dX0_has_5 : decode cX0_has 5 = .ok (.aload_n 0, 1) := by decide +kernel
theorem dX0_has_6 : decode cX0_has 6 = .ok (.getfield 21, 3) := by decide +kernel
theorem dX0_has_9 : decode cX0_has 9 = .ok (.if_icmp .ge 13, 3) := by decide +kernel
theorem dX0_has_12 : decode cX0_has 12 = .ok (.iload_n 1, 1) := by decide +kernel
theorem dX0_has_13 : decode cX0_has 13 = .ok (.bipush 12, 2) := by decide +kernel
theorem dX0_has_15 : decode cX0_has 15 = .ok (.if_icmp .ge 7, 3) := by decide +kernel
theorem dX0_has_18 : decode cX0_has 18 = .ok (.iconst 1, 1) := by decide +kernel
theorem dX0_has_19 : decode cX0_has 19 = .ok (.goto 4, 3) := by decide +kernel
theorem dX0_has_22 : decode cX0_has 22 = .ok (.iconst 0, 1) := by decide +kernel
theorem dX0_has_23 : decode cX0_has 23 = .ok (.ireturn, 1) := by decide +kernel
set_option maxRecDepth 20000 in
theorem ggX0_fact_X0_has : GoodIn wsX0_fact wsX0_has := goodIn_r _ [8, 9, 10, 11, 12, 13, 14] (by decide +kernel) (by decide +kernel)
set_option maxRecDepth 20000 in
theorem gX0_fact_X0_has : GoodIn wsX0_fact (wsV RX0 28 RX0 yX0_has wsX0_has) := goodIn_app (goodIn_of _ (by decide +kernel)) ggX0_fact_X0_has
theorem dX0_fact_0 : decode cX0_fact 0 = .ok (.aload_n 0, 1) := by decide +kernel
theorem dX0_fact_1 : decode cX0_fact 1 = .ok (.iload_n 1, 1) := by decide +kernel
theorem dX0_fact_2 : decode cX0_fact 2 = .ok (.invokevirtual 28, 3) := by decide +kernel
theorem dX0_fact_5 : decode cX0_fact 5 = .ok (.ifCond .ne 5, 3) := by decide +kernel
theorem dX0_fact_8 : decode cX0_fact 8 = .ok (.iconst (-1), 1) := by decide +kernel
theorem dX0_fact_9 : decode cX0_fact 9 = .ok (.ireturn, 1) := by decide +kernel
theorem dX0_fact_10 : decode cX0_fact 10 = .ok (.iload_n 2, 1) := by decide +kernel
theorem dX0_fact_11 : decode cX0_fact 11 = .ok (.ifCond .ne 12, 3) := by decide +kernel
theorem dX0_fact_14 : decode cX0_fact 14 = .ok (.aload_n 0, 1) := by decide +kernel
theorem dX0_fact_15 : decode cX0_fact 15 = .ok (.getfield 9, 3) := by decide +kernel
theorem dX0_fact_18 : decode cX0_fact 18 = .ok (.iload_n 1, 1) := by decide +kernel
theorem dX0_fact_19 : decode cX0_fact 19 = .ok (.iaload, 1) := by decide +kernel
theorem dX0_fact_20 : decode cX0_fact 20 = .ok (.goto 23, 3) := by decide +kernel
theorem dX0_fact_23 : decode cX0_fact 23 = .ok (.iload_n 2, 1) := by decide +kernel
theorem dX0_fact_24 : decode cX0_fact 24 = .ok (.iconst 1, 1) := by decide +kernel
theorem dX0_fact_25 : decode cX0_fact 25 = .ok (.if_icmp .ne 12, 3) := by decide +kernel
theorem dX0_fact_28 : decode cX0_fact 28 = .ok (.aload_n 0, 1) := by decide +kernel
theorem dX0_fact_29 : decode cX0_fact 29 = .ok (.getfield 15, 3) := by decide +kernel
theorem dX0_fact_32 : decode cX0_fact 32 = .ok (.iload_n 1, 1) := by decide +kernel
theorem dX0_fact_33 : decode cX0_fact 33 = .ok (.iaload, 1) := by decide +kernel
theorem dX0_fact_34 : decode cX0_fact 34 = .ok (.goto 9, 3) := by decide +kernel
theorem dX0_fact_37 : decode cX0_fact 37 = .ok (.aload_n 0, 1) := by decide +kernel
theorem dX0_fact_38 : decode cX0_fact 38 = .ok (.getfield 18, 3) := by decide +kernel
theorem dX0_fact_41 : decode cX0_fact 41 = .ok (.iload_n 1, 1) := by decide +kernel
theorem dX0_fact_42 : decode cX0_fact 42 = .ok (.iaload, 1) := by decide +kernel
theorem dX0_fact_43 : decode cX0_fact 43 = .ok (.ireturn, 1) := by decide +kernel
theorem dX1_init_0 : decode cX1_init 0 = .ok (.aload_n 0, 1) := by decide +kernel
theorem dX1_init_1 : decode cX1_init 1 = .ok (.invokespecial 3, 3) := by decide +kernel
theorem dX1_init_4 : decode cX1_init 4 = .ok (.return_, 1) := by decide +kernel
theorem dX1_setShape_0 : decode cX1_setShape 0 = .ok (.iload_n 1, 1) := by decide +kernel
theorem dX1_setShape_1 : decode cX1_setShape 1 = .ok (.ifCond .ge 5, 3) := by decide +kernel
theorem dX1_setShape_4 : decode cX1_setShape 4 = .ok (.iconst 0, 1) := by decide +kernel
theorem dX1_setShape_5 : decode cX1_setShape 5 = .ok (.ireturn, 1) := by decide +kernel
theorem dX1_setShape_6 : decode cX1_setShape 6 = .ok (.aload_n 0, 1) := by decide +kernel
theorem dX1_setShape_7 : decode cX1_setShape 7 = .ok (.iload_n 1, 1) := by decide +kernel
theorem dX1_setShape_8 : decode cX1_setShape 8 = .ok (.bipush 10, 2) := by decide +kernel
theorem dX1_setShape_10 : decode cX1_setShape 10 = .ok (.irem, 1) := by decide +kernel
theorem dX1_setShape_11 : decode cX1_setShape 11 = .ok (.putfield 9, 3) := by decide +kernel
theorem dX1_setShape_14 : decode cX1_setShape 14 = .ok (.aload_n 0, 1) := by decide +kernel
theorem dX1_setShape_15 : decode cX1_setShape 15 = .ok (.iload_n 1, 1) := by decide +kernel
theorem dX1_setShape_16 : decode cX1_setShape 16 = .ok (.bipush 10, 2) := by decide +kernel
theorem dX1_setShape_18 : decode cX1_setShape 18 = .ok (.idiv, 1) := by decide +kernel
theorem dX1_setShape_19 : decode cX1_setShape 19 = .ok (.bipush 10, 2) := by decide +kernel
theorem dX1_setShape_21 : decode cX1_setShape 21 = .ok (.irem, 1) := by decide +kernel
theorem dX1_setShape_22 : decode cX1_setShape 22 = .ok (.putfield 15, 3) := by decide +kernel
theorem dX1_setShape_25 : decode cX1_setShape 25 = .ok (.aload_n 0, 1) := by decide +kernel
theorem dX1_setShape_26 : decode cX1_setShape 26 = .ok (.iload_n 1, 1) := by decide +kernel
theorem dX1_setShape_27 : decode cX1_setShape 27 = .ok (.bipush 100, 2) := by decide +kernel
theorem dX1_setShape_29 : decode cX1_setShape 29 = .ok (.idiv, 1) := by decide +kernel
theorem dX1_setShape_30 : decode cX1_setShape 30 = .ok (.putfield 18, 3) := by decide +kernel
theorem dX1_setShape_33 : decode cX1_setShape 33 = .ok (.aload_n 0, 1) := by decide +kernel
theorem dX1_setShape_34 : decode cX1_setShape 34 = .ok (.getfield 9, 3) := by decide +kernel
theorem dX1_setShape_37 : decode cX1_setShape 37 = .ok (.ifCond .eq 11, 3) := by decide +kernel
theorem dX1_setShape_40 : decode cX1_setShape 40 = .ok (.aload_n 0, 1) := by decide +kernel
theorem dX1_setShape_41 : decode cX1_setShape 41 = .ok (.getfield 9, 3) := by decide +kernel
theorem dX1_setShape_44 : decode cX1_setShape 44 = .ok (.iconst 1, 1) := by decide +kernel
theorem dX1_setShape_45 : decode cX1_setShape 45 = .ok (.if_icmp .ne 25, 3) := by decide +kernel
theorem dX1_setShape_48 : decode cX1_setShape 48 = .ok (.aload_n 0, 1) := by decide +kernel
theorem dX1_setShape_49 : decode cX1_setShape 49 = .ok (.getfield 15, 3) := by decide +kernel
theorem dX1_setShape_52 : decode cX1_setShape 52 = .ok (.iconst 2, 1) := by decide +kernel
theorem dX1_setShape_53 : decode cX1_setShape 53 = .ok (.if_icmp .gt 15, 3) := by decide +kernel
theorem dX1_setShape_56 : decode cX1_setShape 56 = .ok (.aload_n 0, 1) := by decide +kernel
theorem dX1_setShape_57 : decode cX1_setShape 57 = .ok (.getfield 18, 3) := by decide +kernel
theorem dX1_setShape_60 : decode cX1_setShape 60 = .ok (.iconst 2, 1) := by decide +kernel
theorem dX1_setShape_61 : decode cX1_setShape 61 = .ok (.if_icmp .gt 7, 3) := by decide +kernel
theorem dX1_setShape_64 : decode cX1_setShape 64 = .ok (.iconst 1, 1) := by decide +kernel
theorem dX1_setShape_65 : decode cX1_setShape 65 = .ok (.goto 4, 3) := by decide +kernel
theorem dX1_setShape_68 : decode cX1_setShape 68 = .ok (.iconst 0, 1) := by decide +kernel
theorem dX1_setShape_69 : decode cX1_setShape 69 = .ok (.ireturn, 1) := by decide +kernel
theorem dX1_setShape_70 : decode cX1_setShape 70 = .ok (.iload_n 1, 1) := by decide +kernel
theorem dX1_setShape_71 : decode cX1_setShape 71 = .ok (.bipush 6, 2) := by decide +kernel
theorem dX1_setShape_73 : decode cX1_setShape 73 = .ok (.if_icmp .gt 7, 3) := by decide +kernel
theorem dX1_setShape_76 : decode cX1_setShape 76 = .ok (.iconst 1, 1) := by decide +kernel
theorem dX1_setShape_77 : decode cX1_setShape 77 = .ok (.goto 4, 3) := by decide +kernel
theorem dX1_setShape_80 : decode cX1_setShape 80 = .ok (.iconst 0, 1) := by decide +kernel
theorem dX1_setShape_81 : decode cX1_setShape 81 = .ok (.ireturn, 1) := by decide +kernel
set_option maxRecDepth 20000 in
theorem ggX1_hasText_X1_isSize : GoodIn wsX1_hasText wsX1_isSize := goodIn_r _ [13] (by decide +kernel) (by decide +kernel)
set_option maxRecDepth 20000 in
theorem gX1_hasText_X1_isSize : GoodIn wsX1_hasText (va_wsS RX1 31 yX1_isSize wsX1_isSize) := goodIn_app (goodIn_of _ (by decide +kernel)) ggX1_hasText_X1_isSize
theorem dX1_hasText_0 : decode cX1_hasText 0 = .ok (.aload_n 0, 1) := by decide +kernel
theorem dX1_hasText_1 : decode cX1_hasText 1 = .ok (.getfield 9, 3) := by decide +kernel
theorem dX1_hasText_4 : decode cX1_hasText 4 = .ok (.iconst 1, 1) := by decide +kernel
theorem dX1_hasText_5 : decode cX1_hasText 5 = .ok (.if_icmp .eq 19, 3) := by decide +kernel
theorem dX1_hasText_8 : decode cX1_hasText 8 = .ok (.aload_n 0, 1) := by decide +kernel
theorem dX1_hasText_9 : decode cX1_hasText 9 = .ok (.getfield 9, 3) := by decide +kernel
theorem dX1_hasText_12 : decode cX1_hasText 12 = .ok (.iconst 2, 1) := by decide +kernel
theorem dX1_hasText_13 : decode cX1_hasText 13 = .ok (.if_icmp .eq 11, 3) := by decide +kernel
theorem dX1_hasText_16 : decode cX1_hasText 16 = .ok (.aload_n 0, 1) := by decide +kernel
theorem dX1_hasText_17 : decode cX1_hasText 17 = .ok (.getfield 9, 3) := by decide +kernel
theorem dX1_hasText_20 : decode cX1_hasText 20 = .ok (.iconst 3, 1) := by decide +kernel
theorem dX1_hasText_21 : decode cX1_hasText 21 = .ok (.if_icmp .ne 7, 3) := by decide +kernel
theorem dX1_hasText_24 : decode cX1_hasText 24 = .ok (.iconst 1, 1) := by decide +kernel
theorem dX1_hasText_25 : decode cX1_hasText 25 = .ok (.goto 4, 3) := by decide +kernel
theorem dX1_hasText_28 : decode cX1_hasText 28 = .ok (.iconst 0, 1) := by decide +kernel
theorem dX1_hasText_29 : decode cX1_hasText 29 = .ok (.istore_n 1, 1) := by decide +kernel
theorem dX1_hasText_30 : decode cX1_hasText 30 = .ok (.aload_n 0, 1) := by decide +kernel
theorem dX1_hasText_31 : decode cX1_hasText 31 = .ok (.getfield 9, 3) := by decide +kernel
theorem dX1_hasText_34 : decode cX1_hasText 34 = .ok (.iconst 1, 1) := by decide +kernel
theorem dX1_hasText_35 : decode cX1_hasText 35 = .ok (.if_icmp .eq 11, 3) := by decide +kernel
theorem dX1_hasText_38 : decode cX1_hasText 38 = .ok (.aload_n 0, 1) := by decide +kernel
theorem dX1_hasText_39 : decode cX1_hasText 39 = .ok (.getfield 9, 3) := by decide +kernel
theorem dX1_hasText_42 : decode cX1_hasText 42 = .ok (.iconst 5, 1) := by decide +kernel
theorem dX1_hasText_43 : decode cX1_hasText 43 = .ok (.if_icmp .ne 7, 3) := by decide +kernel
theorem dX1_hasText_46 : decode cX1_hasText 46 = .ok (.iconst 1, 1) := by decide +kernel
theorem dX1_hasText_47 : decode cX1_hasText 47 = .ok (.goto 4, 3) := by decide +kernel
theorem dX1_hasText_50 : decode cX1_hasText 50 = .ok (.iconst 0, 1) := by decide +kernel
theorem dX1_hasText_51 : decode cX1_hasText 51 = .ok (.istore_n 2, 1) := by decide +kernel
theorem dX1_hasText_52 : decode cX1_hasText 52 = .ok (.aload_n 0, 1) := by decide +kernel
theorem dX1_hasText_53 : decode cX1_hasText 53 = .ok (.getfield 21, 3) := by decide +kernel
theorem dX1_hasText_56 : decode cX1_hasText 56 = .ok (.ifCond .lt 95, 3) := by decide +kernel
theorem dX1_hasText_59 : decode cX1_hasText 59 = .ok (.aload_n 0, 1) := by decide +kernel
theorem dX1_hasText_60 : decode cX1_hasText 60 = .ok (.getfield 21, 3) := by decide +kernel
theorem dX1_hasText_63 : decode cX1_hasText 63 = .ok (.sipush 999, 3) := by decide +kernel
theorem dX1_hasText_66 : decode cX1_hasText 66 = .ok (.if_icmp .gt 85, 3) := by decide +kernel
theorem dX1_hasText_69 : decode cX1_hasText 69 = .ok (.aload_n 0, 1) := by decide +kernel
theorem dX1_hasText_70 : decode cX1_hasText 70 = .ok (.getfield 24, 3) := by decide +kernel
theorem dX1_hasText_73 : decode cX1_hasText 73 = .ok (.ifCond .lt 78, 3) := by decide +kernel
theorem dX1_hasText_76 : decode cX1_hasText 76 = .ok (.aload_n 0, 1) := by decide +kernel
theorem dX1_hasText_77 : decode cX1_hasText 77 = .ok (.getfield 24, 3) := by decide +kernel
theorem dX1_hasText_80 : decode cX1_hasText 80 = .ok (.ldc 27, 2) := by decide +kernel
theorem dX1_hasText_82 : decode cX1_hasText 82 = .ok (.if_icmp .gt 69, 3) := by decide +kernel
theorem dX1_hasText_85 : decode cX1_hasText 85 = .ok (.iload_n 1, 1) := by decide +kernel
theorem dX1_hasText_86 : decode cX1_hasText 86 = .ok (.ifCond .eq 23, 3) := by decide +kernel
theorem dX1_hasText_89 : decode cX1_hasText 89 = .ok (.aload_n 0, 1) := by decide +kernel
theorem dX1_hasText_90 : decode cX1_hasText 90 = .ok (.getfield 28, 3) := by decide +kernel
theorem dX1_hasText_93 : decode cX1_hasText 93 = .ok (.invokestatic 31, 3) := by decide +kernel
theorem dX1_hasText_96 : decode cX1_hasText 96 = .ok (.ifCond .eq 55, 3) := by decide +kernel
theorem dX1_hasText_99 : decode cX1_hasText 99 = .ok (.aload_n 0, 1) := by decide +kernel
theorem dX1_hasText_100 : decode cX1_hasText 100 = .ok (.getfield 35, 3) := by decide +kernel
theorem dX1_hasText_103 : decode cX1_hasText 103 = .ok (.invokestatic 31, 3) := by decide +kernel
theorem dX1_hasText_106 : decode cX1_hasText 106 = .ok (.ifCond .eq 45, 3) := by decide +kernel
theorem dX1_hasText_109 : decode cX1_hasText 109 = .ok (.aload_n 0, 1) := by decide +kernel
theorem dX1_hasText_110 : decode cX1_hasText 110 = .ok (.getfield 9, 3) := by decide +kernel
theorem dX1_hasText_113 : decode cX1_hasText 113 = .ok (.iconst 1, 1) := by decide +kernel
theorem dX1_hasText_114 : decode cX1_hasText 114 = .ok (.if_icmp .ne 13, 3) := by decide +kernel
theorem dX1_hasText_117 : decode cX1_hasText 117 = .ok (.aload_n 0, 1) := by decide +kernel
theorem dX1_hasText_118 : decode cX1_hasText 118 = .ok (.getfield 38, 3) := by decide +kernel
theorem dX1_hasText_121 : decode cX1_hasText 121 = .ok (.invokestatic 31, 3) := by decide +kernel
theorem dX1_hasText_124 : decode cX1_hasText 124 = .ok (.ifCond .eq 27, 3) := by decide +kernel
theorem dX1_hasText_127 : decode cX1_hasText 127 = .ok (.iload_n 2, 1) := by decide +kernel
theorem dX1_hasText_128 : decode cX1_hasText 128 = .ok (.ifCond .eq 19, 3) := by decide +kernel
theorem dX1_hasText_131 : decode cX1_hasText 131 = .ok (.aload_n 0, 1) := by decide +kernel
theorem dX1_hasText_132 : decode cX1_hasText 132 = .ok (.getfield 41, 3) := by decide +kernel
theorem dX1_hasText_135 : decode cX1_hasText 135 = .ok (.ifCond .lt 16, 3) := by decide +kernel
theorem dX1_hasText_138 : decode cX1_hasText 138 = .ok (.aload_n 0, 1) := by decide +kernel
theorem dX1_hasText_139 : decode cX1_hasText 139 = .ok (.getfield 41, 3) := by decide +kernel
theorem dX1_hasText_142 : decode cX1_hasText 142 = .ok (.ldc 44, 2) := by decide +kernel
theorem dX1_hasText_144 : decode cX1_hasText 144 = .ok (.if_icmp .gt 7, 3) := by decide +kernel
theorem dX1_hasText_147 : decode cX1_hasText 147 = .ok (.iconst 1, 1) := by decide +kernel
theorem dX1_hasText_148 : decode cX1_hasText 148 = .ok (.goto 4, 3) := by decide +kernel
theorem dX1_hasText_151 : decode cX1_hasText 151 = .ok (.iconst 0, 1) := by decide +kernel
theorem dX1_hasText_152 : decode cX1_hasText 152 = .ok (.ireturn, 1) := by decide +kernel
theorem dX1_isSize_0 : decode cX1_isSize 0 = .ok (.iload_n 0, 1) := by decide +kernel
theorem dX1_isSize_1 : decode cX1_isSize 1 = .ok (.ifCond .lt 33, 3) := by decide +kernel
theorem dX1_isSize_4 : decode cX1_isSize 4 = .ok (.iload_n 0, 1) := by decide +kernel
theorem dX1_isSize_5 : decode cX1_isSize 5 = .ok (.sipush 9999, 3) := by decide +kernel
theorem dX1_isSize_8 : decode cX1_isSize 8 = .ok (.if_icmp .le 22, 3) := by decide +kernel
theorem dX1_isSize_11 : decode cX1_isSize 11 = .ok (.iload_n 0, 1) := by decide +kernel
theorem dX1_isSize_12 : decode cX1_isSize 12 = .ok (.sipush 1024, 3) := by decide +kernel
theorem dX1_isSize_15 : decode cX1_isSize 15 = .ok (.irem, 1) := by decide +kernel
theorem dX1_isSize_16 : decode cX1_isSize 16 = .ok (.ifCond .ne 18, 3) := by decide +kernel
theorem dX1_isSize_19 : decode cX1_isSize 19 = .ok (.iload_n 0, 1) := by decide +kernel
theorem dX1_isSize_20 : decode cX1_isSize 20 = .ok (.sipush 1024, 3) := by decide +kernel
theorem dX1_isSize_23 : decode cX1_isSize 23 = .ok (.idiv, 1) := by decide +kernel
theorem dX1_isSize_24 : decode cX1_isSize 24 = .ok (.sipush 9999, 3) := by decide +kernel
theorem dX1_isSize_27 : decode cX1_isSize 27 = .ok (.if_icmp .gt 7, 3) := by decide +kernel
theorem dX1_isSize_30 : decode cX1_isSize 30 = .ok (.iconst 1, 1) := by decide +kernel
theorem dX1_isSize_31 : decode cX1_isSize 31 = .ok (.goto 4, 3) := by decide +kernel
theorem dX1_isSize_34 : decode cX1_isSize 34 = .ok (.iconst 0, 1) := by decide +kernel
theorem dX1_isSize_35 : decode cX1_isSize 35 = .ok (.ireturn, 1) := by decide +kernel
set_option maxRecDepth 20000 in
theorem ggX1_putOn_X6_clear : GoodIn wsX1_putOn wsX6_clear := goodIn_r _ [8, 9, 114, 115] (by decide +kernel) (by decide +kernel)
set_option maxRecDepth 20000 in
theorem gX1_putOn_X6_clear : GoodIn wsX1_putOn (wsV RX1 45 RX6 yX6_clear wsX6_clear) := goodIn_app (goodIn_of _ (by decide +kernel)) ggX1_putOn_X6_clear
set_option maxRecDepth 20000 in
theorem ggX1_putOn_X6_addWord : GoodIn wsX1_putOn wsX6_addWord := goodIn_r _ [13, 14, 15, 16, 17, 18, 19, 20, 21, 22, 23, 24, 25, 26, 27, 28, 29, 30, 31, 32, 33, 34, 35, 36, 37, 38, 39, 40, 41, 42, 43, 44, 45, 46, 47, 48, 49, 50, 51, 52, 53, 54, 55, 56, 57, 58, 59, 60, 61, 62, 63, 64, 65, 7, 66, 9, 67, 114, 115] (by decide +kernel) (by decide +kernel)
set_option maxRecDepth 20000 in
theorem gX1_putOn_X6_addWord : GoodIn wsX1_putOn (wsV RX1 52 RX6 yX6_addWord wsX6_addWord) := goodIn_app (goodIn_of _ (by decide +kernel)) ggX1_putOn_X6_addWord
set_option maxRecDepth 20000 in
theorem ggX1_putOn_X6_addDecimal : GoodIn wsX1_putOn wsX6_addDecimal := goodIn_r _ [71, 72, 73, 74, 7, 75, 63, 64, 65, 66, 9, 67, 114, 115] (by decide +kernel) (by decide +kernel)
set_option maxRecDepth 20000 in
theorem gX1_putOn_X6_addDecimal : GoodIn wsX1_putOn (wsV RX1 56 RX6 yX6_addDecimal wsX6_addDecimal) := goodIn_app (goodIn_of _ (by decide +kernel)) ggX1_putOn_X6_addDecimal
set_option maxRecDepth 20000 in
theorem ggX1_putOn_X6_addNumber : GoodIn wsX1_putOn wsX6_addNumber := goodIn_r _ [75, 63, 64, 65, 7, 66, 9, 67, 114, 115] (by decide +kernel) (by decide +kernel)
set_option maxRecDepth 20000 in
theorem gX1_putOn_X6_addNumber : GoodIn wsX1_putOn (wsV RX1 62 RX6 yX6_addNumber wsX6_addNumber) := goodIn_app (goodIn_of _ (by decide +kernel)) ggX1_putOn_X6_addNumber
set_option maxRecDepth 20000 in
theorem ggX1_putOn_X1_putSizes : GoodIn wsX1_putOn wsX1_putSizes := goodIn_r _ [81, 82, 83, 84, 85, 86, 7, 87, 72, 73, 74, 75, 63, 64, 65, 66, 9, 67, 10, 11, 12, 13, 14, 15, 16, 17, 18, 19, 20, 21, 22, 23, 24, 25, 26, 27, 28, 29, 30, 31, 32, 33, 34, 35, 36, 37, 38, 39, 40, 41, 42, 43, 44, 45, 46, 47, 48, 49, 50, 51, 52, 53, 54, 55, 56, 57, 58, 59, 60, 61, 62, 105, 106, 107, 108, 109, 110, 111, 112, 113, 114, 115] (by decide +kernel) (by decide +kernel)
set_option maxRecDepth 20000 in
theorem gX1_putOn_X1_putSizes : GoodIn wsX1_putOn (wsV RX1 69 RX1 yX1_putSizes wsX1_putSizes) := goodIn_app (goodIn_of _ (by decide +kernel)) ggX1_putOn_X1_putSizes
set_option maxRecDepth 20000 in
theorem ggX1_putOn_X1_putTook : GoodIn wsX1_putOn wsX1_putTook := goodIn_r _ [91, 92, 68, 69, 70, 7, 71, 72, 73, 74, 75, 63, 64, 65, 66, 9, 67, 10, 11, 12, 13, 14, 15, 16, 17, 18, 19, 20, 21, 22, 23, 24, 25, 26, 27, 28, 29, 30, 31, 32, 33, 34, 35, 36, 37, 38, 39, 40, 41, 42, 43, 44, 45, 46, 47, 48, 49, 50, 51, 52, 53, 54, 55, 56, 57, 58, 59, 60, 61, 62, 105, 106, 107, 108, 109, 110, 111, 112, 113, 114, 115] (by decide +kernel) (by decide +kernel)
set_option maxRecDepth 20000 in
theorem gX1_putOn_X1_putTook : GoodIn wsX1_putOn (wsV RX1 79 RX1 yX1_putTook wsX1_putTook) := goodIn_app (goodIn_of _ (by decide +kernel)) ggX1_putOn_X1_putTook
set_option maxRecDepth 20000 in
theorem ggX1_putOn_X1_putPause : GoodIn wsX1_putOn wsX1_putPause := goodIn_r _ [96, 97, 98, 3, 99, 10, 11, 12, 7, 13, 14, 15, 16, 17, 18, 19, 20, 21, 22, 23, 24, 25, 26, 27, 28, 29, 30, 31, 32, 33, 34, 35, 36, 37, 38, 39, 40, 41, 42, 43, 44, 45, 46, 47, 48, 49, 50, 51, 52, 53, 54, 55, 56, 57, 58, 59, 60, 61, 62, 63, 64, 65, 66, 9, 67, 100, 101, 102, 103, 104, 77, 78, 79, 80, 81, 82, 83, 84, 85, 86, 87, 72, 73, 74, 75, 88, 89, 90, 91, 92, 68, 69, 70, 71, 105, 106, 107, 108, 109, 110, 111, 112, 113, 114, 115] (by decide +kernel) (by decide +kernel)
set_option maxRecDepth 20000 in
theorem gX1_putOn_X1_putPause : GoodIn wsX1_putOn (wsV RX1 84 RX1 yX1_putPause wsX1_putPause) := goodIn_app (goodIn_of _ (by decide +kernel)) ggX1_putOn_X1_putPause
theorem dX1_putOn_0 : decode cX1_putOn 0 = .ok (.aload_n 1, 1) := by decide +kernel
theorem dX1_putOn_1 : decode cX1_putOn 1 = .ok (.invokevirtual 45, 3) := by decide +kernel
theorem dX1_putOn_4 : decode cX1_putOn 4 = .ok (.aload_n 1, 1) := by decide +kernel
theorem dX1_putOn_5 : decode cX1_putOn 5 = .ok (.ldc 50, 2) := by decide +kernel
theorem dX1_putOn_7 : decode cX1_putOn 7 = .ok (.invokevirtual 52, 3) := by decide +kernel
theorem dX1_putOn_10 : decode cX1_putOn 10 = .ok (.aload_n 1, 1) := by decide +kernel
theorem dX1_putOn_11 : decode cX1_putOn 11 = .ok (.aload_n 0, 1) := by decide +kernel
theorem dX1_putOn_12 : decode cX1_putOn 12 = .ok (.getfield 24, 3) := by decide +kernel
theorem dX1_putOn_15 : decode cX1_putOn 15 = .ok (.invokevirtual 56, 3) := by decide +kernel
theorem dX1_putOn_18 : decode cX1_putOn 18 = .ok (.aload_n 1, 1) := by decide +kernel
theorem dX1_putOn_19 : decode cX1_putOn 19 = .ok (.ldc 60, 2) := by decide +kernel
theorem dX1_putOn_21 : decode cX1_putOn 21 = .ok (.invokevirtual 52, 3) := by decide +kernel
theorem dX1_putOn_24 : decode cX1_putOn 24 = .ok (.aload_n 1, 1) := by decide +kernel
theorem dX1_putOn_25 : decode cX1_putOn 25 = .ok (.aload_n 0, 1) := by decide +kernel
theorem dX1_putOn_26 : decode cX1_putOn 26 = .ok (.getfield 21, 3) := by decide +kernel
theorem dX1_putOn_29 : decode cX1_putOn 29 = .ok (.invokevirtual 62, 3) := by decide +kernel
theorem dX1_putOn_32 : decode cX1_putOn 32 = .ok (.aload_n 1, 1) := by decide +kernel
theorem dX1_putOn_33 : decode cX1_putOn 33 = .ok (.ldc 65, 2) := by decide +kernel
theorem dX1_putOn_35 : decode cX1_putOn 35 = .ok (.invokevirtual 52, 3) := by decide +kernel
theorem dX1_putOn_38 : decode cX1_putOn 38 = .ok (.aload_n 0, 1) := by decide +kernel
theorem dX1_putOn_39 : decode cX1_putOn 39 = .ok (.getfield 9, 3) := by decide +kernel
theorem dX1_putOn_42 : decode cX1_putOn 42 = .ok (.tableswitch 94 2 6 #[34, 48, 62, 71, 85], 34) := by decide +kernel
theorem dX1_putOn_76 : decode cX1_putOn 76 = .ok (.aload_n 1, 1) := by decide +kernel
theorem dX1_putOn_77 : decode cX1_putOn 77 = .ok (.ldc 67, 2) := by decide +kernel
theorem dX1_putOn_79 : decode cX1_putOn 79 = .ok (.invokevirtual 52, 3) := by decide +kernel
theorem dX1_putOn_82 : decode cX1_putOn 82 = .ok (.aload_n 0, 1) := by decide +kernel
theorem dX1_putOn_83 : decode cX1_putOn 83 = .ok (.aload_n 1, 1) := by decide +kernel
theorem dX1_putOn_84 : decode cX1_putOn 84 = .ok (.invokevirtual 69, 3) := by decide +kernel
theorem dX1_putOn_87 : decode cX1_putOn 87 = .ok (.goto 54, 3) := by decide +kernel
theorem dX1_putOn_90 : decode cX1_putOn 90 = .ok (.aload_n 1, 1) := by decide +kernel
theorem dX1_putOn_91 : decode cX1_putOn 91 = .ok (.ldc 73, 2) := by decide +kernel
theorem dX1_putOn_93 : decode cX1_putOn 93 = .ok (.invokevirtual 52, 3) := by decide +kernel
theorem dX1_putOn_96 : decode cX1_putOn 96 = .ok (.aload_n 0, 1) := by decide +kernel
theorem dX1_putOn_97 : decode cX1_putOn 97 = .ok (.aload_n 1, 1) := by decide +kernel
theorem dX1_putOn_98 : decode cX1_putOn 98 = .ok (.invokevirtual 69, 3) := by decide +kernel
theorem dX1_putOn_101 : decode cX1_putOn 101 = .ok (.goto 40, 3) := by decide +kernel
theorem dX1_putOn_104 : decode cX1_putOn 104 = .ok (.aload_n 1, 1) := by decide +kernel
theorem dX1_putOn_105 : decode cX1_putOn 105 = .ok (.ldc 75, 2) := by decide +kernel
theorem dX1_putOn_107 : decode cX1_putOn 107 = .ok (.invokevirtual 52, 3) := by decide +kernel
theorem dX1_putOn_110 : decode cX1_putOn 110 = .ok (.goto 31, 3) := by decide +kernel
theorem dX1_putOn_113 : decode cX1_putOn 113 = .ok (.aload_n 1, 1) := by decide +kernel
theorem dX1_putOn_114 : decode cX1_putOn 114 = .ok (.ldc 77, 2) := by decide +kernel
theorem dX1_putOn_116 : decode cX1_putOn 116 = .ok (.invokevirtual 52, 3) := by decide +kernel
theorem dX1_putOn_119 : decode cX1_putOn 119 = .ok (.aload_n 0, 1) := by decide +kernel
theorem dX1_putOn_120 : decode cX1_putOn 120 = .ok (.aload_n 1, 1) := by decide +kernel
theorem dX1_putOn_121 : decode cX1_putOn 121 = .ok (.invokevirtual 79, 3) := by decide +kernel
theorem dX1_putOn_124 : decode cX1_putOn 124 = .ok (.goto 17, 3) := by decide +kernel
theorem dX1_putOn_127 : decode cX1_putOn 127 = .ok (.aload_n 1, 1) := by decide +kernel
theorem dX1_putOn_128 : decode cX1_putOn 128 = .ok (.ldc 82, 2) := by decide +kernel
theorem dX1_putOn_130 : decode cX1_putOn 130 = .ok (.invokevirtual 52, 3) := by decide +kernel
theorem dX1_putOn_133 : decode cX1_putOn 133 = .ok (.goto 8, 3) := by decide +kernel
theorem dX1_putOn_136 : decode cX1_putOn 136 = .ok (.aload_n 0, 1) := by decide +kernel
theorem dX1_putOn_137 : decode cX1_putOn 137 = .ok (.aload_n 1, 1) := by decide +kernel
theorem dX1_putOn_138 : decode cX1_putOn 138 = .ok (.invokevirtual 84, 3) := by decide +kernel
theorem dX1_putOn_141 : decode cX1_putOn 141 = .ok (.return_, 1) := by decide +kernel
set_option maxRecDepth 20000 in
theorem ggX1_putPause_X6_addWord : GoodIn wsX1_putPause wsX6_addWord := goodIn_r _ [9, 10, 11, 12, 13, 14, 15, 16, 17, 18, 19, 20, 21, 22, 23, 24, 25, 26, 27, 28, 29, 30, 31, 32, 33, 34, 35, 36, 37, 38, 39, 40, 41, 42, 43, 44, 45, 46, 47, 48, 49, 50, 51, 52, 53, 54, 55, 56, 57, 58, 59, 60, 61, 8, 62, 63, 64, 103, 104] (by decide +kernel) (by decide +kernel)
set_option maxRecDepth 20000 in
theorem gX1_putPause_X6_addWord : GoodIn wsX1_putPause (wsV RX1 52 RX6 yX6_addWord wsX6_addWord) := goodIn_app (goodIn_of _ (by decide +kernel)) ggX1_putPause_X6_addWord
set_option maxRecDepth 20000 in
theorem ggX1_putPause_X8_kindWord : GoodIn wsX1_putPause wsX8_kindWord := goodIn_r _ [67] (by decide +kernel) (by decide +kernel)
set_option maxRecDepth 20000 in
theorem gX1_putPause_X8_kindWord_n89 : GoodIn wsX1_putPause (wsX8_kindWord) := ggX1_putPause_X8_kindWord
set_option maxRecDepth 20000 in
theorem ggX1_putPause_X8_causeWord : GoodIn wsX1_putPause wsX8_causeWord := goodIn_r _ [69] (by decide +kernel) (by decide +kernel)
set_option maxRecDepth 20000 in
theorem gX1_putPause_X8_causeWord_n95 : GoodIn wsX1_putPause (wsX8_causeWord) := ggX1_putPause_X8_causeWord
set_option maxRecDepth 20000 in
theorem ggX1_putPause_X1_putSizes : GoodIn wsX1_putPause wsX1_putSizes := goodIn_r _ [74, 75, 76, 77, 78, 79, 8, 80, 81, 82, 83, 84, 59, 60, 61, 62, 63, 64, 5, 6, 7, 9, 10, 11, 12, 13, 14, 15, 16, 17, 18, 19, 20, 21, 22, 23, 24, 25, 26, 27, 28, 29, 30, 31, 32, 33, 34, 35, 36, 37, 38, 39, 40, 41, 42, 43, 44, 45, 46, 47, 48, 49, 50, 51, 52, 53, 54, 55, 56, 57, 58, 94, 95, 96, 97, 98, 99, 100, 101, 102, 103, 104] (by decide +kernel) (by decide +kernel)
set_option maxRecDepth 20000 in
theorem gX1_putPause_X1_putSizes : GoodIn wsX1_putPause (wsV RX1 69 RX1 yX1_putSizes wsX1_putSizes) := goodIn_app (goodIn_of _ (by decide +kernel)) ggX1_putPause_X1_putSizes
set_option maxRecDepth 20000 in
theorem ggX1_putPause_X6_addSize : GoodIn wsX1_putPause wsX6_addSize := goodIn_r _ [80, 81, 82, 83, 8, 84, 59, 60, 61, 62, 63, 64, 103, 104] (by decide +kernel) (by decide +kernel)
set_option maxRecDepth 20000 in
theorem gX1_putPause_X6_addSize : GoodIn wsX1_putPause (wsV RX1 104 RX6 yX6_addSize wsX6_addSize) := goodIn_app (goodIn_of _ (by decide +kernel)) ggX1_putPause_X6_addSize
set_option maxRecDepth 20000 in
theorem ggX1_putPause_X1_putTook : GoodIn wsX1_putPause wsX1_putTook := goodIn_r _ [88, 89, 90, 91, 92, 8, 93, 81, 82, 83, 84, 59, 60, 61, 62, 63, 64, 5, 6, 7, 9, 10, 11, 12, 13, 14, 15, 16, 17, 18, 19, 20, 21, 22, 23, 24, 25, 26, 27, 28, 29, 30, 31, 32, 33, 34, 35, 36, 37, 38, 39, 40, 41, 42, 43, 44, 45, 46, 47, 48, 49, 50, 51, 52, 53, 54, 55, 56, 57, 58, 94, 95, 96, 97, 98, 99, 100, 101, 102, 103, 104] (by decide +kernel) (by decide +kernel)
set_option maxRecDepth 20000 in
theorem gX1_putPause_X1_putTook : GoodIn wsX1_putPause (wsV RX1 79 RX1 yX1_putTook wsX1_putTook) := goodIn_app (goodIn_of _ (by decide +kernel)) ggX1_putPause_X1_putTook
theorem dX1_putPause_0 : decode cX1_putPause 0 = .ok (.aload_n 1, 1) := by decide +kernel
theorem dX1_putPause_1 : decode cX1_putPause 1 = .ok (.ldc 87, 2) := by decide +kernel
theorem dX1_putPause_3 : decode cX1_putPause 3 = .ok (.invokevirtual 52, 3) := by decide +kernel
theorem dX1_putPause_6 : decode cX1_putPause 6 = .ok (.aload_n 1, 1) := by decide +kernel
theorem dX1_putPause_7 : decode cX1_putPause 7 = .ok (.aload_n 0, 1) := by decide +kernel
theorem dX1_putPause_8 : decode cX1_putPause 8 = .ok (.getfield 15, 3) := by decide +kernel
theorem dX1_putPause_11 : decode cX1_putPause 11 = .ok (.invokestatic 89, 3) := by decide +kernel
theorem dX1_putPause_14 : decode cX1_putPause 14 = .ok (.invokevirtual 52, 3) := by decide +kernel
theorem dX1_putPause_17 : decode cX1_putPause 17 = .ok (.aload_n 1, 1) := by decide +kernel
theorem dX1_putPause_18 : decode cX1_putPause 18 = .ok (.ldc 93, 2) := by decide +kernel
theorem dX1_putPause_20 : decode cX1_putPause 20 = .ok (.invokevirtual 52, 3) := by decide +kernel
theorem dX1_putPause_23 : decode cX1_putPause 23 = .ok (.aload_n 1, 1) := by decide +kernel
theorem dX1_putPause_24 : decode cX1_putPause 24 = .ok (.aload_n 0, 1) := by decide +kernel
theorem dX1_putPause_25 : decode cX1_putPause 25 = .ok (.getfield 18, 3) := by decide +kernel
theorem dX1_putPause_28 : decode cX1_putPause 28 = .ok (.invokestatic 95, 3) := by decide +kernel
theorem dX1_putPause_31 : decode cX1_putPause 31 = .ok (.invokevirtual 52, 3) := by decide +kernel
theorem dX1_putPause_34 : decode cX1_putPause 34 = .ok (.aload_n 1, 1) := by decide +kernel
theorem dX1_putPause_35 : decode cX1_putPause 35 = .ok (.ldc 98, 2) := by decide +kernel
theorem dX1_putPause_37 : decode cX1_putPause 37 = .ok (.invokevirtual 52, 3) := by decide +kernel
theorem dX1_putPause_40 : decode cX1_putPause 40 = .ok (.aload_n 0, 1) := by decide +kernel
theorem dX1_putPause_41 : decode cX1_putPause 41 = .ok (.getfield 9, 3) := by decide +kernel
theorem dX1_putPause_44 : decode cX1_putPause 44 = .ok (.iconst 1, 1) := by decide +kernel
theorem dX1_putPause_45 : decode cX1_putPause 45 = .ok (.if_icmp .ne 39, 3) := by decide +kernel
theorem dX1_putPause_48 : decode cX1_putPause 48 = .ok (.aload_n 1, 1) := by decide +kernel
theorem dX1_putPause_49 : decode cX1_putPause 49 = .ok (.ldc 100, 2) := by decide +kernel
theorem dX1_putPause_51 : decode cX1_putPause 51 = .ok (.invokevirtual 52, 3) := by decide +kernel
theorem dX1_putPause_54 : decode cX1_putPause 54 = .ok (.aload_n 0, 1) := by decide +kernel
theorem dX1_putPause_55 : decode cX1_putPause 55 = .ok (.aload_n 1, 1) := by decide +kernel
theorem dX1_putPause_56 : decode cX1_putPause 56 = .ok (.invokevirtual 69, 3) := by decide +kernel
theorem dX1_putPause_59 : decode cX1_putPause 59 = .ok (.aload_n 1, 1) := by decide +kernel
theorem dX1_putPause_60 : decode cX1_putPause 60 = .ok (.ldc 102, 2) := by decide +kernel
theorem dX1_putPause_62 : decode cX1_putPause 62 = .ok (.invokevirtual 52, 3) := by decide +kernel
theorem dX1_putPause_65 : decode cX1_putPause 65 = .ok (.aload_n 1, 1) := by decide +kernel
theorem dX1_putPause_66 : decode cX1_putPause 66 = .ok (.aload_n 0, 1) := by decide +kernel
theorem dX1_putPause_67 : decode cX1_putPause 67 = .ok (.getfield 38, 3) := by decide +kernel
theorem dX1_putPause_70 : decode cX1_putPause 70 = .ok (.invokevirtual 104, 3) := by decide +kernel
theorem dX1_putPause_73 : decode cX1_putPause 73 = .ok (.aload_n 1, 1) := by decide +kernel
theorem dX1_putPause_74 : decode cX1_putPause 74 = .ok (.ldc 65, 2) := by decide +kernel
theorem dX1_putPause_76 : decode cX1_putPause 76 = .ok (.invokevirtual 52, 3) := by decide +kernel
theorem dX1_putPause_79 : decode cX1_putPause 79 = .ok (.aload_n 0, 1) := by decide +kernel
theorem dX1_putPause_80 : decode cX1_putPause 80 = .ok (.aload_n 1, 1) := by decide +kernel
theorem dX1_putPause_81 : decode cX1_putPause 81 = .ok (.invokevirtual 79, 3) := by decide +kernel
theorem dX1_putPause_84 : decode cX1_putPause 84 = .ok (.return_, 1) := by decide +kernel
set_option maxRecDepth 20000 in
theorem ggX1_putSizes_X6_addSize : GoodIn wsX1_putSizes wsX6_addSize := goodIn_r _ [7, 8, 9, 10, 6, 11, 12, 13, 14, 15, 16, 17, 80, 81] (by decide +kernel) (by decide +kernel)
set_option maxRecDepth 20000 in
theorem gX1_putSizes_X6_addSize : GoodIn wsX1_putSizes (wsV RX1 104 RX6 yX6_addSize wsX6_addSize) := goodIn_app (goodIn_of _ (by decide +kernel)) ggX1_putSizes_X6_addSize
set_option maxRecDepth 20000 in
theorem ggX1_putSizes_X6_addWord : GoodIn wsX1_putSizes wsX6_addWord := goodIn_r _ [21, 22, 23, 24, 25, 26, 27, 28, 29, 30, 31, 32, 33, 34, 35, 36, 37, 38, 39, 40, 41, 42, 43, 44, 45, 46, 47, 48, 49, 50, 51, 52, 53, 54, 55, 56, 57, 58, 59, 60, 61, 62, 63, 64, 65, 66, 67, 68, 69, 70, 12, 13, 14, 6, 15, 16, 17, 80, 81] (by decide +kernel) (by decide +kernel)
set_option maxRecDepth 20000 in
theorem gX1_putSizes_X6_addWord : GoodIn wsX1_putSizes (wsV RX1 52 RX6 yX6_addWord wsX6_addWord) := goodIn_app (goodIn_of _ (by decide +kernel)) ggX1_putSizes_X6_addWord
theorem dX1_putSizes_0 : decode cX1_putSizes 0 = .ok (.aload_n 1, 1) := by decide +kernel
theorem dX1_putSizes_1 : decode cX1_putSizes 1 = .ok (.aload_n 0, 1) := by decide +kernel
theorem dX1_putSizes_2 : decode cX1_putSizes 2 = .ok (.getfield 28, 3) := by decide +kernel
theorem dX1_putSizes_5 : decode cX1_putSizes 5 = .ok (.invokevirtual 104, 3) := by decide +kernel
theorem dX1_putSizes_8 : decode cX1_putSizes 8 = .ok (.aload_n 1, 1) := by decide +kernel
theorem dX1_putSizes_9 : decode cX1_putSizes 9 = .ok (.ldc 107, 2) := by decide +kernel
theorem dX1_putSizes_11 : decode cX1_putSizes 11 = .ok (.invokevirtual 52, 3) := by decide +kernel
theorem dX1_putSizes_14 : decode cX1_putSizes 14 = .ok (.aload_n 1, 1) := by decide +kernel
theorem dX1_putSizes_15 : decode cX1_putSizes 15 = .ok (.aload_n 0, 1) := by decide +kernel
theorem dX1_putSizes_16 : decode cX1_putSizes 16 = .ok (.getfield 35, 3) := by decide +kernel
theorem dX1_putSizes_19 : decode cX1_putSizes 19 = .ok (.invokevirtual 104, 3) := by decide +kernel
theorem dX1_putSizes_22 : decode cX1_putSizes 22 = .ok (.return_, 1) := by decide +kernel
set_option maxRecDepth 20000 in
theorem ggX1_putTook_X6_addDecimal : GoodIn wsX1_putTook wsX6_addDecimal := goodIn_r _ [6, 7, 8, 9, 5, 10, 11, 12, 13, 14, 15, 16, 79, 80] (by decide +kernel) (by decide +kernel)
set_option maxRecDepth 20000 in
theorem gX1_putTook_X6_addDecimal : GoodIn wsX1_putTook (wsV RX1 56 RX6 yX6_addDecimal wsX6_addDecimal) := goodIn_app (goodIn_of _ (by decide +kernel)) ggX1_putTook_X6_addDecimal
set_option maxRecDepth 20000 in
theorem ggX1_putTook_X6_addWord : GoodIn wsX1_putTook wsX6_addWord := goodIn_r _ [20, 21, 22, 23, 24, 25, 26, 27, 28, 29, 30, 31, 32, 33, 34, 35, 36, 37, 38, 39, 40, 41, 42, 43, 44, 45, 46, 47, 48, 49, 50, 51, 52, 53, 54, 55, 56, 57, 58, 59, 60, 61, 62, 63, 64, 65, 66, 67, 68, 69, 11, 12, 13, 5, 14, 15, 16, 79, 80] (by decide +kernel) (by decide +kernel)
set_option maxRecDepth 20000 in
theorem gX1_putTook_X6_addWord : GoodIn wsX1_putTook (wsV RX1 52 RX6 yX6_addWord wsX6_addWord) := goodIn_app (goodIn_of _ (by decide +kernel)) ggX1_putTook_X6_addWord
theorem dX1_putTook_0 : decode cX1_putTook 0 = .ok (.aload_n 1, 1) := by decide +kernel
theorem dX1_putTook_1 : decode cX1_putTook 1 = .ok (.aload_n 0, 1) := by decide +kernel
theorem dX1_putTook_2 : decode cX1_putTook 2 = .ok (.getfield 41, 3) := by decide +kernel
theorem dX1_putTook_5 : decode cX1_putTook 5 = .ok (.invokevirtual 56, 3) := by decide +kernel
theorem dX1_putTook_8 : decode cX1_putTook 8 = .ok (.aload_n 1, 1) := by decide +kernel
theorem dX1_putTook_9 : decode cX1_putTook 9 = .ok (.ldc 109, 2) := by decide +kernel
theorem dX1_putTook_11 : decode cX1_putTook 11 = .ok (.invokevirtual 52, 3) := by decide +kernel
theorem dX1_putTook_14 : decode cX1_putTook 14 = .ok (.return_, 1) := by decide +kernel
theorem dX2_init_0 : decode cX2_init 0 = .ok (.aload_n 0, 1) := by decide +kernel
theorem dX2_init_1 : decode cX2_init 1 = .ok (.invokespecial 3, 3) := by decide +kernel
theorem dX2_init_4 : decode cX2_init 4 = .ok (.aload_n 1, 1) := by decide +kernel
theorem dX2_init_5 : decode cX2_init 5 = .ok (.getfield 9, 3) := by decide +kernel
theorem dX2_init_8 : decode cX2_init 8 = .ok (.iconst 4, 1) := by decide +kernel
theorem dX2_init_9 : decode cX2_init 9 = .ok (.if_icmp .ne 7, 3) := by decide +kernel
theorem dX2_init_12 : decode cX2_init 12 = .ok (.iconst 1, 1) := by decide +kernel
theorem dX2_init_13 : decode cX2_init 13 = .ok (.goto 4, 3) := by decide +kernel
theorem dX2_init_16 : decode cX2_init 16 = .ok (.iconst 0, 1) := by decide +kernel
theorem dX2_init_17 : decode cX2_init 17 = .ok (.istore_n 3, 1) := by decide +kernel
theorem dX2_init_18 : decode cX2_init 18 = .ok (.aload_n 0, 1) := by decide +kernel
theorem dX2_init_19 : decode cX2_init 19 = .ok (.iload_n 2, 1) := by decide +kernel
theorem dX2_init_20 : decode cX2_init 20 = .ok (.putfield 15, 3) := by decide +kernel
theorem dX2_init_23 : decode cX2_init 23 = .ok (.aload_n 0, 1) := by decide +kernel
theorem dX2_init_24 : decode cX2_init 24 = .ok (.aload_n 1, 1) := by decide +kernel
theorem dX2_init_25 : decode cX2_init 25 = .ok (.getfield 20, 3) := by decide +kernel
theorem dX2_init_28 : decode cX2_init 28 = .ok (.putfield 23, 3) := by decide +kernel
theorem dX2_init_31 : decode cX2_init 31 = .ok (.aload_n 0, 1) := by decide +kernel
theorem dX2_init_32 : decode cX2_init 32 = .ok (.iload_n 3, 1) := by decide +kernel
theorem dX2_init_33 : decode cX2_init 33 = .ok (.ifCond .eq 7, 3) := by decide +kernel
theorem dX2_init_36 : decode cX2_init 36 = .ok (.iconst (-1), 1) := by decide +kernel
theorem dX2_init_37 : decode cX2_init 37 = .ok (.goto 7, 3) := by decide +kernel
theorem dX2_init_40 : decode cX2_init 40 = .ok (.aload_n 1, 1) := by decide +kernel
theorem dX2_init_41 : decode cX2_init 41 = .ok (.getfield 24, 3) := by decide +kernel
theorem dX2_init_44 : decode cX2_init 44 = .ok (.putfield 27, 3) := by decide +kernel
theorem dX2_init_47 : decode cX2_init 47 = .ok (.aload_n 0, 1) := by decide +kernel
theorem dX2_init_48 : decode cX2_init 48 = .ok (.aload_n 1, 1) := by decide +kernel
theorem dX2_init_49 : decode cX2_init 49 = .ok (.getfield 28, 3) := by decide +kernel
theorem dX2_init_52 : decode cX2_init 52 = .ok (.putfield 31, 3) := by decide +kernel
theorem dX2_init_55 : decode cX2_init 55 = .ok (.aload_n 0, 1) := by decide +kernel
theorem dX2_init_56 : decode cX2_init 56 = .ok (.iload_n 3, 1) := by decide +kernel
theorem dX2_init_57 : decode cX2_init 57 = .ok (.ifCond .eq 7, 3) := by decide +kernel
theorem dX2_init_60 : decode cX2_init 60 = .ok (.iconst 3, 1) := by decide +kernel
theorem dX2_init_61 : decode cX2_init 61 = .ok (.goto 7, 3) := by decide +kernel
theorem dX2_init_64 : decode cX2_init 64 = .ok (.aload_n 1, 1) := by decide +kernel
theorem dX2_init_65 : decode cX2_init 65 = .ok (.getfield 34, 3) := by decide +kernel
theorem dX2_init_68 : decode cX2_init 68 = .ok (.putfield 37, 3) := by decide +kernel
theorem dX2_init_71 : decode cX2_init 71 = .ok (.aload_n 0, 1) := by decide +kernel
theorem dX2_init_72 : decode cX2_init 72 = .ok (.iconst (-1), 1) := by decide +kernel
theorem dX2_init_73 : decode cX2_init 73 = .ok (.putfield 38, 3) := by decide +kernel
theorem dX2_init_76 : decode cX2_init 76 = .ok (.aload_n 0, 1) := by decide +kernel
theorem dX2_init_77 : decode cX2_init 77 = .ok (.iconst (-1), 1) := by decide +kernel
theorem dX2_init_78 : decode cX2_init 78 = .ok (.putfield 41, 3) := by decide +kernel
theorem dX2_init_81 : decode cX2_init 81 = .ok (.aload_n 0, 1) := by decide +kernel
theorem dX2_init_82 : decode cX2_init 82 = .ok (.iconst (-1), 1) := by decide +kernel
theorem dX2_init_83 : decode cX2_init 83 = .ok (.putfield 44, 3) := by decide +kernel
theorem dX2_init_86 : decode cX2_init 86 = .ok (.aload_n 0, 1) := by decide +kernel
theorem dX2_init_87 : decode cX2_init 87 = .ok (.iconst (-1), 1) := by decide +kernel
theorem dX2_init_88 : decode cX2_init 88 = .ok (.putfield 47, 3) := by decide +kernel
theorem dX2_init_91 : decode cX2_init 91 = .ok (.aload_n 0, 1) := by decide +kernel
theorem dX2_init_92 : decode cX2_init 92 = .ok (.iconst (-1), 1) := by decide +kernel
theorem dX2_init_93 : decode cX2_init 93 = .ok (.putfield 50, 3) := by decide +kernel
theorem dX2_init_96 : decode cX2_init 96 = .ok (.aload_n 0, 1) := by decide +kernel
theorem dX2_init_97 : decode cX2_init 97 = .ok (.iconst (-1), 1) := by decide +kernel
theorem dX2_init_98 : decode cX2_init 98 = .ok (.putfield 53, 3) := by decide +kernel
theorem dX2_init_101 : decode cX2_init 101 = .ok (.aload_n 0, 1) := by decide +kernel
theorem dX2_init_102 : decode cX2_init 102 = .ok (.iconst (-1), 1) := by decide +kernel
theorem dX2_init_103 : decode cX2_init 103 = .ok (.putfield 56, 3) := by decide +kernel
theorem dX2_init_106 : decode cX2_init 106 = .ok (.aload_n 0, 1) := by decide +kernel
theorem dX2_init_107 : decode cX2_init 107 = .ok (.iconst 1, 1) := by decide +kernel
theorem dX2_init_108 : decode cX2_init 108 = .ok (.putfield 59, 3) := by decide +kernel
theorem dX2_init_111 : decode cX2_init 111 = .ok (.return_, 1) := by decide +kernel
theorem dX2_isPause_0 : decode cX2_isPause 0 = .ok (.aload_n 0, 1) := by decide +kernel
theorem dX2_isPause_1 : decode cX2_isPause 1 = .ok (.getfield 37, 3) := by decide +kernel
theorem dX2_isPause_4 : decode cX2_isPause 4 = .ok (.iconst 2, 1) := by decide +kernel
theorem dX2_isPause_5 : decode cX2_isPause 5 = .ok (.if_icmp .gt 7, 3) := by decide +kernel
theorem dX2_isPause_8 : decode cX2_isPause 8 = .ok (.iconst 1, 1) := by decide +kernel
theorem dX2_isPause_9 : decode cX2_isPause 9 = .ok (.goto 4, 3) := by decide +kernel
theorem dX2_isPause_12 : decode cX2_isPause 12 = .ok (.iconst 0, 1) := by decide +kernel
theorem dX2_isPause_13 : decode cX2_isPause 13 = .ok (.ireturn, 1) := by decide +kernel
theorem dX2_addPart_0 : decode cX2_addPart 0 = .ok (.aload_n 1, 1) := by decide +kernel
theorem dX2_addPart_1 : decode cX2_addPart 1 = .ok (.getfield 9, 3) := by decide +kernel
theorem dX2_addPart_4 : decode cX2_addPart 4 = .ok (.iconst 2, 1) := by decide +kernel
theorem dX2_addPart_5 : decode cX2_addPart 5 = .ok (.if_icmp .ne 7, 3) := by decide +kernel
theorem dX2_addPart_8 : decode cX2_addPart 8 = .ok (.iconst 1, 1) := by decide +kernel
theorem dX2_addPart_9 : decode cX2_addPart 9 = .ok (.goto 4, 3) := by decide +kernel
theorem dX2_addPart_12 : decode cX2_addPart 12 = .ok (.iconst 0, 1) := by decide +kernel
theorem dX2_addPart_13 : decode cX2_addPart 13 = .ok (.istore_n 2, 1) := by decide +kernel
theorem dX2_addPart_14 : decode cX2_addPart 14 = .ok (.iload_n 2, 1) := by decide +kernel
theorem dX2_addPart_15 : decode cX2_addPart 15 = .ok (.ifCond .eq 10, 3) := by decide +kernel
theorem dX2_addPart_18 : decode cX2_addPart 18 = .ok (.aload_n 0, 1) := by decide +kernel
theorem dX2_addPart_19 : decode cX2_addPart 19 = .ok (.getfield 47, 3) := by decide +kernel
theorem dX2_addPart_22 : decode cX2_addPart 22 = .ok (.goto 7, 3) := by decide +kernel
theorem dX2_addPart_25 : decode cX2_addPart 25 = .ok (.aload_n 0, 1) := by decide +kernel
theorem dX2_addPart_26 : decode cX2_addPart 26 = .ok (.getfield 53, 3) := by decide +kernel
theorem dX2_addPart_29 : decode cX2_addPart 29 = .ok (.iconst (-1), 1) := by decide +kernel
theorem dX2_addPart_30 : decode cX2_addPart 30 = .ok (.if_icmp .eq 5, 3) := by decide +kernel
theorem dX2_addPart_33 : decode cX2_addPart 33 = .ok (.iconst 0, 1) := by decide +kernel
theorem dX2_addPart_34 : decode cX2_addPart 34 = .ok (.ireturn, 1) := by decide +kernel
theorem dX2_addPart_35 : decode cX2_addPart 35 = .ok (.iload_n 2, 1) := by decide +kernel
theorem dX2_addPart_36 : decode cX2_addPart 36 = .ok (.ifCond .eq 22, 3) := by decide +kernel
theorem dX2_addPart_39 : decode cX2_addPart 39 = .ok (.aload_n 0, 1) := by decide +kernel
theorem dX2_addPart_40 : decode cX2_addPart 40 = .ok (.aload_n 1, 1) := by decide +kernel
theorem dX2_addPart_41 : decode cX2_addPart 41 = .ok (.getfield 62, 3) := by decide +kernel
theorem dX2_addPart_44 : decode cX2_addPart 44 = .ok (.putfield 47, 3) := by decide +kernel
theorem dX2_addPart_47 : decode cX2_addPart 47 = .ok (.aload_n 0, 1) := by decide +kernel
theorem dX2_addPart_48 : decode cX2_addPart 48 = .ok (.aload_n 1, 1) := by decide +kernel
theorem dX2_addPart_49 : decode cX2_addPart 49 = .ok (.getfield 63, 3) := by decide +kernel
theorem dX2_addPart_52 : decode cX2_addPart 52 = .ok (.putfield 50, 3) := by decide +kernel
theorem dX2_addPart_55 : decode cX2_addPart 55 = .ok (.goto 19, 3) := by decide +kernel
theorem dX2_addPart_58 : decode cX2_addPart 58 = .ok (.aload_n 0, 1) := by decide +kernel
theorem dX2_addPart_59 : decode cX2_addPart 59 = .ok (.aload_n 1, 1) := by decide +kernel
theorem dX2_addPart_60 : decode cX2_addPart 60 = .ok (.getfield 62, 3) := by decide +kernel
theorem dX2_addPart_63 : decode cX2_addPart 63 = .ok (.putfield 53, 3) := by decide +kernel
theorem dX2_addPart_66 : decode cX2_addPart 66 = .ok (.aload_n 0, 1) := by decide +kernel
theorem dX2_addPart_67 : decode cX2_addPart 67 = .ok (.aload_n 1, 1) := by decide +kernel
theorem dX2_addPart_68 : decode cX2_addPart 68 = .ok (.getfield 63, 3) := by decide +kernel
theorem dX2_addPart_71 : decode cX2_addPart 71 = .ok (.putfield 56, 3) := by decide +kernel
theorem dX2_addPart_74 : decode cX2_addPart 74 = .ok (.aload_n 0, 1) := by decide +kernel
theorem dX2_addPart_75 : decode cX2_addPart 75 = .ok (.dup, 1) := by decide +kernel
theorem dX2_addPart_76 : decode cX2_addPart 76 = .ok (.getfield 59, 3) := by decide +kernel
theorem dX2_addPart_79 : decode cX2_addPart 79 = .ok (.iconst 1, 1) := by decide +kernel
theorem dX2_addPart_80 : decode cX2_addPart 80 = .ok (.iadd, 1) := by decide +kernel
theorem dX2_addPart_81 : decode cX2_addPart 81 = .ok (.putfield 59, 3) := by decide +kernel
theorem dX2_addPart_84 : decode cX2_addPart 84 = .ok (.iconst 1, 1) := by decide +kernel
theorem dX2_addPart_85 : decode cX2_addPart 85 = .ok (.ireturn, 1) := by decide +kernel
theorem dX2_isAnotherPauseThan_0 : decode cX2_isAnotherPauseThan 0 = .ok (.aload_n 1, 1) := by decide +kernel
theorem dX2_isAnotherPauseThan_1 : decode cX2_isAnotherPauseThan 1 = .ok (.getfield 34, 3) := by decide +kernel
theorem dX2_isAnotherPauseThan_4 : decode cX2_isAnotherPauseThan 4 = .ok (.aload_n 0, 1) := by decide +kernel
theorem dX2_isAnotherPauseThan_5 : decode cX2_isAnotherPauseThan 5 = .ok (.getfield 37, 3) := by decide +kernel
theorem dX2_isAnotherPauseThan_8 : decode cX2_isAnotherPauseThan 8 = .ok (.if_icmp .ne 14, 3) := by decide +kernel
theorem dX2_isAnotherPauseThan_11 : decode cX2_isAnotherPauseThan 11 = .ok (.aload_n 1, 1) := by decide +kernel
theorem dX2_isAnotherPauseThan_12 : decode cX2_isAnotherPauseThan 12 = .ok (.getfield 24, 3) := by decide +kernel
theorem dX2_isAnotherPauseThan_15 : decode cX2_isAnotherPauseThan 15 = .ok (.aload_n 0, 1) := by decide +kernel
theorem dX2_isAnotherPauseThan_16 : decode cX2_isAnotherPauseThan 16 = .ok (.getfield 27, 3) := by decide +kernel
theorem dX2_isAnotherPauseThan_19 : decode cX2_isAnotherPauseThan 19 = .ok (.if_icmp .eq 7, 3) := by decide +kernel
theorem dX2_isAnotherPauseThan_22 : decode cX2_isAnotherPauseThan 22 = .ok (.iconst 1, 1) := by decide +kernel
theorem dX2_isAnotherPauseThan_23 : decode cX2_isAnotherPauseThan 23 = .ok (.goto 4, 3) := by decide +kernel
theorem dX2_isAnotherPauseThan_26 : decode cX2_isAnotherPauseThan 26 = .ok (.iconst 0, 1) := by decide +kernel
theorem dX2_isAnotherPauseThan_27 : decode cX2_isAnotherPauseThan 27 = .ok (.ireturn, 1) := by decide +kernel
theorem dX2_hasNoRoomIn_0 : decode cX2_hasNoRoomIn 0 = .ok (.aload_n 1, 1) := by decide +kernel
theorem dX2_hasNoRoomIn_1 : decode cX2_hasNoRoomIn 1 = .ok (.getfield 62, 3) := by decide +kernel
theorem dX2_hasNoRoomIn_4 : decode cX2_hasNoRoomIn 4 = .ok (.aload_n 1, 1) := by decide +kernel
theorem dX2_hasNoRoomIn_5 : decode cX2_hasNoRoomIn 5 = .ok (.getfield 64, 3) := by decide +kernel
theorem dX2_hasNoRoomIn_8 : decode cX2_hasNoRoomIn 8 = .ok (.if_icmp .gt 62, 3) := by decide +kernel
theorem dX2_hasNoRoomIn_11 : decode cX2_hasNoRoomIn 11 = .ok (.aload_n 1, 1) := by decide +kernel
theorem dX2_hasNoRoomIn_12 : decode cX2_hasNoRoomIn 12 = .ok (.getfield 63, 3) := by decide +kernel
theorem dX2_hasNoRoomIn_15 : decode cX2_hasNoRoomIn 15 = .ok (.aload_n 1, 1) := by decide +kernel
theorem dX2_hasNoRoomIn_16 : decode cX2_hasNoRoomIn 16 = .ok (.getfield 64, 3) := by decide +kernel
theorem dX2_hasNoRoomIn_19 : decode cX2_hasNoRoomIn 19 = .ok (.if_icmp .gt 51, 3) := by decide +kernel
theorem dX2_hasNoRoomIn_22 : decode cX2_hasNoRoomIn 22 = .ok (.aload_n 1, 1) := by decide +kernel
theorem dX2_hasNoRoomIn_23 : decode cX2_hasNoRoomIn 23 = .ok (.getfield 62, 3) := by decide +kernel
theorem dX2_hasNoRoomIn_26 : decode cX2_hasNoRoomIn 26 = .ok (.aload_n 0, 1) := by decide +kernel
theorem dX2_hasNoRoomIn_27 : decode cX2_hasNoRoomIn 27 = .ok (.getfield 47, 3) := by decide +kernel
theorem dX2_hasNoRoomIn_30 : decode cX2_hasNoRoomIn 30 = .ok (.iconst 0, 1) := by decide +kernel
theorem dX2_hasNoRoomIn_31 : decode cX2_hasNoRoomIn 31 = .ok (.invokestatic 65, 3) := by decide +kernel
theorem dX2_hasNoRoomIn_34 : decode cX2_hasNoRoomIn 34 = .ok (.aload_n 0, 1) := by decide +kernel
theorem dX2_hasNoRoomIn_35 : decode cX2_hasNoRoomIn 35 = .ok (.getfield 53, 3) := by decide +kernel
theorem dX2_hasNoRoomIn_38 : decode cX2_hasNoRoomIn 38 = .ok (.iconst 0, 1) := by decide +kernel
theorem dX2_hasNoRoomIn_39 : decode cX2_hasNoRoomIn 39 = .ok (.invokestatic 65, 3) := by decide +kernel
theorem dX2_hasNoRoomIn_42 : decode cX2_hasNoRoomIn 42 = .ok (.iadd, 1) := by decide +kernel
theorem dX2_hasNoRoomIn_43 : decode cX2_hasNoRoomIn 43 = .ok (.if_icmp .lt 27, 3) := by decide +kernel
theorem dX2_hasNoRoomIn_46 : decode cX2_hasNoRoomIn 46 = .ok (.aload_n 1, 1) := by decide +kernel
theorem dX2_hasNoRoomIn_47 : decode cX2_hasNoRoomIn 47 = .ok (.getfield 63, 3) := by decide +kernel
theorem dX2_hasNoRoomIn_50 : decode cX2_hasNoRoomIn 50 = .ok (.aload_n 0, 1) := by decide +kernel
theorem dX2_hasNoRoomIn_51 : decode cX2_hasNoRoomIn 51 = .ok (.getfield 50, 3) := by decide +kernel
theorem dX2_hasNoRoomIn_54 : decode cX2_hasNoRoomIn 54 = .ok (.iconst 0, 1) := by decide +kernel
theorem dX2_hasNoRoomIn_55 : decode cX2_hasNoRoomIn 55 = .ok (.invokestatic 65, 3) := by decide +kernel
theorem dX2_hasNoRoomIn_58 : decode cX2_hasNoRoomIn 58 = .ok (.aload_n 0, 1) := by decide +kernel
theorem dX2_hasNoRoomIn_59 : decode cX2_hasNoRoomIn 59 = .ok (.getfield 56, 3) := by decide +kernel
theorem dX2_hasNoRoomIn_62 : decode cX2_hasNoRoomIn 62 = .ok (.iconst 0, 1) := by decide +kernel
theorem dX2_hasNoRoomIn_63 : decode cX2_hasNoRoomIn 63 = .ok (.invokestatic 65, 3) := by decide +kernel
theorem dX2_hasNoRoomIn_66 : decode cX2_hasNoRoomIn 66 = .ok (.iadd, 1) := by decide +kernel
theorem dX2_hasNoRoomIn_67 : decode cX2_hasNoRoomIn 67 = .ok (.if_icmp .ge 7, 3) := by decide +kernel
theorem dX2_hasNoRoomIn_70 : decode cX2_hasNoRoomIn 70 = .ok (.iconst 1, 1) := by decide +kernel
theorem dX2_hasNoRoomIn_71 : decode cX2_hasNoRoomIn 71 = .ok (.goto 4, 3) := by decide +kernel
theorem dX2_hasNoRoomIn_74 : decode cX2_hasNoRoomIn 74 = .ok (.iconst 0, 1) := by decide +kernel
theorem dX2_hasNoRoomIn_75 : decode cX2_hasNoRoomIn 75 = .ok (.ireturn, 1) := by decide +kernel
set_option maxRecDepth 20000 in
theorem ggX2_isTooShortFor_X2_microsecondsUntil : GoodIn wsX2_isTooShortFor wsX2_microsecondsUntil := goodIn_r _ [7, 8, 9, 10, 11, 12, 13, 14, 15, 16, 17, 18, 19, 20, 21, 22, 23, 24, 25, 26, 27, 28, 29, 30, 31, 32, 33, 34] (by decide +kernel) (by decide +kernel)
set_option maxRecDepth 20000 in
theorem gX2_isTooShortFor_X2_microsecondsUntil : GoodIn wsX2_isTooShortFor (wsV RX2 74 RX2 yX2_microsecondsUntil wsX2_microsecondsUntil) := goodIn_app (goodIn_of _ (by decide +kernel)) ggX2_isTooShortFor_X2_microsecondsUntil
theorem dX2_isTooShortFor_0 : decode cX2_isTooShortFor 0 = .ok (.aload_n 1, 1) := by decide +kernel
theorem dX2_isTooShortFor_1 : decode cX2_isTooShortFor 1 = .ok (.getfield 71, 3) := by decide +kernel
theorem dX2_isTooShortFor_4 : decode cX2_isTooShortFor 4 = .ok (.i2l, 1) := by decide +kernel
theorem dX2_isTooShortFor_5 : decode cX2_isTooShortFor 5 = .ok (.aload_n 0, 1) := by decide +kernel
theorem dX2_isTooShortFor_6 : decode cX2_isTooShortFor 6 = .ok (.aload_n 1, 1) := by decide +kernel
theorem dX2_isTooShortFor_7 : decode cX2_isTooShortFor 7 = .ok (.invokevirtual 74, 3) := by decide +kernel
theorem dX2_isTooShortFor_10 : decode cX2_isTooShortFor 10 = .ok (.ldc2_w 78, 3) := by decide +kernel
theorem dX2_isTooShortFor_13 : decode cX2_isTooShortFor 13 = .ok (.ladd, 1) := by decide +kernel
theorem dX2_isTooShortFor_14 : decode cX2_isTooShortFor 14 = .ok (.lcmp, 1) := by decide +kernel
theorem dX2_isTooShortFor_15 : decode cX2_isTooShortFor 15 = .ok (.ifCond .le 7, 3) := by decide +kernel
theorem dX2_isTooShortFor_18 : decode cX2_isTooShortFor 18 = .ok (.iconst 1, 1) := by decide +kernel
theorem dX2_isTooShortFor_19 : decode cX2_isTooShortFor 19 = .ok (.goto 4, 3) := by decide +kernel
theorem dX2_isTooShortFor_22 : decode cX2_isTooShortFor 22 = .ok (.iconst 0, 1) := by decide +kernel
theorem dX2_isTooShortFor_23 : decode cX2_isTooShortFor 23 = .ok (.ireturn, 1) := by decide +kernel
theorem dX2_microsecondsUntil_0 : decode cX2_microsecondsUntil 0 = .ok (.ldc2_w 80, 3) := by decide +kernel
theorem dX2_microsecondsUntil_3 : decode cX2_microsecondsUntil 3 = .ok (.aload_n 1, 1) := by decide +kernel
theorem dX2_microsecondsUntil_4 : decode cX2_microsecondsUntil 4 = .ok (.getfield 28, 3) := by decide +kernel
theorem dX2_microsecondsUntil_7 : decode cX2_microsecondsUntil 7 = .ok (.aload_n 0, 1) := by decide +kernel
theorem dX2_microsecondsUntil_8 : decode cX2_microsecondsUntil 8 = .ok (.getfield 31, 3) := by decide +kernel
theorem dX2_microsecondsUntil_11 : decode cX2_microsecondsUntil 11 = .ok (.isub, 1) := by decide +kernel
theorem dX2_microsecondsUntil_12 : decode cX2_microsecondsUntil 12 = .ok (.i2l, 1) := by decide +kernel
theorem dX2_microsecondsUntil_13 : decode cX2_microsecondsUntil 13 = .ok (.lmul, 1) := by decide +kernel
theorem dX2_microsecondsUntil_14 : decode cX2_microsecondsUntil 14 = .ok (.lreturn, 1) := by decide +kernel
theorem dX2_endAsPause_0 : decode cX2_endAsPause 0 = .ok (.aload_n 0, 1) := by decide +kernel
theorem dX2_endAsPause_1 : decode cX2_endAsPause 1 = .ok (.aload_n 1, 1) := by decide +kernel
theorem dX2_endAsPause_2 : decode cX2_endAsPause 2 = .ok (.getfield 28, 3) := by decide +kernel
theorem dX2_endAsPause_5 : decode cX2_endAsPause 5 = .ok (.putfield 82, 3) := by decide +kernel
theorem dX2_endAsPause_8 : decode cX2_endAsPause 8 = .ok (.aload_n 0, 1) := by decide +kernel
theorem dX2_endAsPause_9 : decode cX2_endAsPause 9 = .ok (.aload_n 1, 1) := by decide +kernel
theorem dX2_endAsPause_10 : decode cX2_endAsPause 10 = .ok (.getfield 62, 3) := by decide +kernel
theorem dX2_endAsPause_13 : decode cX2_endAsPause 13 = .ok (.putfield 38, 3) := by decide +kernel
theorem dX2_endAsPause_16 : decode cX2_endAsPause 16 = .ok (.aload_n 0, 1) := by decide +kernel
theorem dX2_endAsPause_17 : decode cX2_endAsPause 17 = .ok (.aload_n 1, 1) := by decide +kernel
theorem dX2_endAsPause_18 : decode cX2_endAsPause 18 = .ok (.getfield 63, 3) := by decide +kernel
theorem dX2_endAsPause_21 : decode cX2_endAsPause 21 = .ok (.putfield 41, 3) := by decide +kernel
theorem dX2_endAsPause_24 : decode cX2_endAsPause 24 = .ok (.aload_n 0, 1) := by decide +kernel
theorem dX2_endAsPause_25 : decode cX2_endAsPause 25 = .ok (.aload_n 1, 1) := by decide +kernel
theorem dX2_endAsPause_26 : decode cX2_endAsPause 26 = .ok (.getfield 64, 3) := by decide +kernel
theorem dX2_endAsPause_29 : decode cX2_endAsPause 29 = .ok (.putfield 44, 3) := by decide +kernel
theorem dX2_endAsPause_32 : decode cX2_endAsPause 32 = .ok (.aload_n 0, 1) := by decide +kernel
theorem dX2_endAsPause_33 : decode cX2_endAsPause 33 = .ok (.aload_n 1, 1) := by decide +kernel
theorem dX2_endAsPause_34 : decode cX2_endAsPause 34 = .ok (.getfield 71, 3) := by decide +kernel
theorem dX2_endAsPause_37 : decode cX2_endAsPause 37 = .ok (.putfield 85, 3) := by decide +kernel
theorem dX2_endAsPause_40 : decode cX2_endAsPause 40 = .ok (.aload_n 0, 1) := by decide +kernel
theorem dX2_endAsPause_41 : decode cX2_endAsPause 41 = .ok (.dup, 1) := by decide +kernel
theorem dX2_endAsPause_42 : decode cX2_endAsPause 42 = .ok (.getfield 59, 3) := by decide +kernel
theorem dX2_endAsPause_45 : decode cX2_endAsPause 45 = .ok (.iconst 1, 1) := by decide +kernel
theorem dX2_endAsPause_46 : decode cX2_endAsPause 46 = .ok (.iadd, 1) := by decide +kernel
theorem dX2_endAsPause_47 : decode cX2_endAsPause 47 = .ok (.putfield 59, 3) := by decide +kernel
theorem dX2_endAsPause_50 : decode cX2_endAsPause 50 = .ok (.return_, 1) := by decide +kernel
set_option maxRecDepth 20000 in
theorem ggX2_endAsMark_X2_microsecondsUntil : GoodIn wsX2_endAsMark wsX2_microsecondsUntil := goodIn_r _ [17, 18, 2, 19, 20, 21, 22, 23, 24, 25, 26, 27, 28, 29, 30, 31, 32, 33, 34, 35, 36, 37, 38, 39, 40, 41, 42, 43] (by decide +kernel) (by decide +kernel)
set_option maxRecDepth 20000 in
theorem gX2_endAsMark_X2_microsecondsUntil : GoodIn wsX2_endAsMark (wsV RX2 74 RX2 yX2_microsecondsUntil wsX2_microsecondsUntil) := goodIn_app (goodIn_of _ (by decide +kernel)) ggX2_endAsMark_X2_microsecondsUntil
theorem dX2_endAsMark_0 : decode cX2_endAsMark 0 = .ok (.aload_n 1, 1) := by decide +kernel
theorem dX2_endAsMark_1 : decode cX2_endAsMark 1 = .ok (.getfield 9, 3) := by decide +kernel
theorem dX2_endAsMark_4 : decode cX2_endAsMark 4 = .ok (.bipush 6, 2) := by decide +kernel
theorem dX2_endAsMark_6 : decode cX2_endAsMark 6 = .ok (.if_icmp .ne 7, 3) := by decide +kernel
theorem dX2_endAsMark_9 : decode cX2_endAsMark 9 = .ok (.iconst 1, 1) := by decide +kernel
theorem dX2_endAsMark_10 : decode cX2_endAsMark 10 = .ok (.goto 4, 3) := by decide +kernel
theorem dX2_endAsMark_13 : decode cX2_endAsMark 13 = .ok (.iconst 0, 1) := by decide +kernel
theorem dX2_endAsMark_14 : decode cX2_endAsMark 14 = .ok (.istore_n 2, 1) := by decide +kernel
theorem dX2_endAsMark_15 : decode cX2_endAsMark 15 = .ok (.aload_n 0, 1) := by decide +kernel
theorem dX2_endAsMark_16 : decode cX2_endAsMark 16 = .ok (.aload_n 1, 1) := by decide +kernel
theorem dX2_endAsMark_17 : decode cX2_endAsMark 17 = .ok (.getfield 28, 3) := by decide +kernel
theorem dX2_endAsMark_20 : decode cX2_endAsMark 20 = .ok (.putfield 82, 3) := by decide +kernel
theorem dX2_endAsMark_23 : decode cX2_endAsMark 23 = .ok (.aload_n 0, 1) := by decide +kernel
theorem dX2_endAsMark_24 : decode cX2_endAsMark 24 = .ok (.iload_n 2, 1) := by decide +kernel
theorem dX2_endAsMark_25 : decode cX2_endAsMark 25 = .ok (.ifCond .eq 7, 3) := by decide +kernel
theorem dX2_endAsMark_28 : decode cX2_endAsMark 28 = .ok (.iconst 4, 1) := by decide +kernel
theorem dX2_endAsMark_29 : decode cX2_endAsMark 29 = .ok (.goto 4, 3) := by decide +kernel
theorem dX2_endAsMark_32 : decode cX2_endAsMark 32 = .ok (.iconst 3, 1) := by decide +kernel
theorem dX2_endAsMark_33 : decode cX2_endAsMark 33 = .ok (.putfield 37, 3) := by decide +kernel
theorem dX2_endAsMark_36 : decode cX2_endAsMark 36 = .ok (.aload_n 0, 1) := by decide +kernel
theorem dX2_endAsMark_37 : decode cX2_endAsMark 37 = .ok (.iload_n 2, 1) := by decide +kernel
theorem dX2_endAsMark_38 : decode cX2_endAsMark 38 = .ok (.ifCond .eq 18, 3) := by decide +kernel
theorem dX2_endAsMark_41 : decode cX2_endAsMark 41 = .ok (.aload_n 0, 1) := by decide +kernel
theorem dX2_endAsMark_42 : decode cX2_endAsMark 42 = .ok (.aload_n 1, 1) := by decide +kernel
theorem dX2_endAsMark_43 : decode cX2_endAsMark 43 = .ok (.invokevirtual 74, 3) := by decide +kernel
theorem dX2_endAsMark_46 : decode cX2_endAsMark 46 = .ok (.ldc2_w 86, 3) := by decide +kernel
theorem dX2_endAsMark_49 : decode cX2_endAsMark 49 = .ok (.invokestatic 88, 3) := by decide +kernel
theorem dX2_endAsMark_52 : decode cX2_endAsMark 52 = .ok (.l2i, 1) := by decide +kernel
theorem dX2_endAsMark_53 : decode cX2_endAsMark 53 = .ok (.goto 7, 3) := by decide +kernel
theorem dX2_endAsMark_56 : decode cX2_endAsMark 56 = .ok (.aload_n 1, 1) := by decide +kernel
theorem dX2_endAsMark_57 : decode cX2_endAsMark 57 = .ok (.getfield 71, 3) := by decide +kernel
theorem dX2_endAsMark_60 : decode cX2_endAsMark 60 = .ok (.putfield 85, 3) := by decide +kernel
theorem dX2_endAsMark_63 : decode cX2_endAsMark 63 = .ok (.aload_n 0, 1) := by decide +kernel
theorem dX2_endAsMark_64 : decode cX2_endAsMark 64 = .ok (.dup, 1) := by decide +kernel
theorem dX2_endAsMark_65 : decode cX2_endAsMark 65 = .ok (.getfield 59, 3) := by decide +kernel
theorem dX2_endAsMark_68 : decode cX2_endAsMark 68 = .ok (.iconst 1, 1) := by decide +kernel
theorem dX2_endAsMark_69 : decode cX2_endAsMark 69 = .ok (.iadd, 1) := by decide +kernel
theorem dX2_endAsMark_70 : decode cX2_endAsMark 70 = .ok (.putfield 59, 3) := by decide +kernel
theorem dX2_endAsMark_73 : decode cX2_endAsMark 73 = .ok (.return_, 1) := by decide +kernel
theorem dX2_fact_0 : decode cX2_fact 0 = .ok (.iload_n 1, 1) := by decide +kernel
theorem dX2_fact_1 : decode cX2_fact 1 = .ok (.tableswitch 132 0 12 #[67, 72, 77, 82, 87, 92, 97, 102, 107, 112, 117, 122, 127], 67) := by decide +kernel
theorem dX2_fact_68 : decode cX2_fact 68 = .ok (.aload_n 0, 1) := by decide +kernel
theorem dX2_fact_69 : decode cX2_fact 69 = .ok (.getfield 37, 3) := by decide +kernel
theorem dX2_fact_72 : decode cX2_fact 72 = .ok (.ireturn, 1) := by decide +kernel
theorem dX2_fact_73 : decode cX2_fact 73 = .ok (.aload_n 0, 1) := by decide +kernel
theorem dX2_fact_74 : decode cX2_fact 74 = .ok (.getfield 23, 3) := by decide +kernel
theorem dX2_fact_77 : decode cX2_fact 77 = .ok (.ireturn, 1) := by decide +kernel
theorem dX2_fact_78 : decode cX2_fact 78 = .ok (.aload_n 0, 1) := by decide +kernel
theorem dX2_fact_79 : decode cX2_fact 79 = .ok (.getfield 31, 3) := by decide +kernel
theorem dX2_fact_82 : decode cX2_fact 82 = .ok (.ireturn, 1) := by decide +kernel
theorem dX2_fact_83 : decode cX2_fact 83 = .ok (.aload_n 0, 1) := by decide +kernel
theorem dX2_fact_84 : decode cX2_fact 84 = .ok (.getfield 82, 3) := by decide +kernel
theorem dX2_fact_87 : decode cX2_fact 87 = .ok (.ireturn, 1) := by decide +kernel
theorem dX2_fact_88 : decode cX2_fact 88 = .ok (.aload_n 0, 1) := by decide +kernel
theorem dX2_fact_89 : decode cX2_fact 89 = .ok (.getfield 27, 3) := by decide +kernel
theorem dX2_fact_92 : decode cX2_fact 92 = .ok (.ireturn, 1) := by decide +kernel
theorem dX2_fact_93 : decode cX2_fact 93 = .ok (.aload_n 0, 1) := by decide +kernel
theorem dX2_fact_94 : decode cX2_fact 94 = .ok (.getfield 38, 3) := by decide +kernel
theorem dX2_fact_97 : decode cX2_fact 97 = .ok (.ireturn, 1) := by decide +kernel
theorem dX2_fact_98 : decode cX2_fact 98 = .ok (.aload_n 0, 1) := by decide +kernel
theorem dX2_fact_99 : decode cX2_fact 99 = .ok (.getfield 41, 3) := by decide +kernel
theorem dX2_fact_102 : decode cX2_fact 102 = .ok (.ireturn, 1) := by decide +kernel
theorem dX2_fact_103 : decode cX2_fact 103 = .ok (.aload_n 0, 1) := by decide +kernel
theorem dX2_fact_104 : decode cX2_fact 104 = .ok (.getfield 44, 3) := by decide +kernel
theorem dX2_fact_107 : decode cX2_fact 107 = .ok (.ireturn, 1) := by decide +kernel
theorem dX2_fact_108 : decode cX2_fact 108 = .ok (.aload_n 0, 1) := by decide +kernel
theorem dX2_fact_109 : decode cX2_fact 109 = .ok (.getfield 85, 3) := by decide +kernel
theorem dX2_fact_112 : decode cX2_fact 112 = .ok (.ireturn, 1) := by decide +kernel
theorem dX2_fact_113 : decode cX2_fact 113 = .ok (.aload_n 0, 1) := by decide +kernel
theorem dX2_fact_114 : decode cX2_fact 114 = .ok (.getfield 47, 3) := by decide +kernel
theorem dX2_fact_117 : decode cX2_fact 117 = .ok (.ireturn, 1) := by decide +kernel
theorem dX2_fact_118 : decode cX2_fact 118 = .ok (.aload_n 0, 1) := by decide +kernel
theorem dX2_fact_119 : decode cX2_fact 119 = .ok (.getfield 50, 3) := by decide +kernel
theorem dX2_fact_122 : decode cX2_fact 122 = .ok (.ireturn, 1) := by decide +kernel
theorem dX2_fact_123 : decode cX2_fact 123 = .ok (.aload_n 0, 1) := by decide +kernel
theorem dX2_fact_124 : decode cX2_fact 124 = .ok (.getfield 53, 3) := by decide +kernel
theorem dX2_fact_127 : decode cX2_fact 127 = .ok (.ireturn, 1) := by decide +kernel
theorem dX2_fact_128 : decode cX2_fact 128 = .ok (.aload_n 0, 1) := by decide +kernel
theorem dX2_fact_129 : decode cX2_fact 129 = .ok (.getfield 56, 3) := by decide +kernel
theorem dX2_fact_132 : decode cX2_fact 132 = .ok (.ireturn, 1) := by decide +kernel
theorem dX2_fact_133 : decode cX2_fact 133 = .ok (.aload_n 0, 1) := by decide +kernel
theorem dX2_fact_134 : decode cX2_fact 134 = .ok (.getfield 59, 3) := by decide +kernel
theorem dX2_fact_137 : decode cX2_fact 137 = .ok (.ireturn, 1) := by decide +kernel
set_option maxRecDepth 20000 in
theorem ggX2_tell_X2_isPause : GoodIn wsX2_tell wsX2_isPause := goodIn_r _ [21, 5, 33, 34, 35, 36, 37, 38, 39, 40, 41, 42, 43, 44, 45, 46, 47] (by decide +kernel) (by decide +kernel)
set_option maxRecDepth 20000 in
theorem gX2_tell_X2_isPause : GoodIn wsX2_tell (wsV RX2 92 RX2 yX2_isPause wsX2_isPause) := goodIn_app (goodIn_of _ (by decide +kernel)) ggX2_tell_X2_isPause
set_option maxRecDepth 20000 in
theorem ggX2_tell_X2_tellEnd : GoodIn wsX2_tell wsX2_tellEnd := goodIn_r _ [25, 5, 9, 26, 4, 27, 12, 28, 14, 29, 30, 31, 32, 17, 18, 19, 20, 21, 33, 34, 35, 36, 37, 38, 39, 40, 41, 42, 43, 44, 45, 46, 47, 48, 49, 50, 51, 52, 53, 54, 55, 56] (by decide +kernel) (by decide +kernel)
set_option maxRecDepth 20000 in
theorem gX2_tell_X2_tellEnd : GoodIn wsX2_tell (wsV RX2 96 RX2 yX2_tellEnd wsX2_tellEnd) := goodIn_app (goodIn_of _ (by decide +kernel)) ggX2_tell_X2_tellEnd
theorem dX2_tell_0 : decode cX2_tell 0 = .ok (.aload_n 2, 1) := by decide +kernel
theorem dX2_tell_1 : decode cX2_tell 1 = .ok (.aload_n 0, 1) := by decide +kernel
theorem dX2_tell_2 : decode cX2_tell 2 = .ok (.getfield 23, 3) := by decide +kernel
theorem dX2_tell_5 : decode cX2_tell 5 = .ok (.putfield 20, 3) := by decide +kernel
theorem dX2_tell_8 : decode cX2_tell 8 = .ok (.aload_n 2, 1) := by decide +kernel
theorem dX2_tell_9 : decode cX2_tell 9 = .ok (.aload_n 0, 1) := by decide +kernel
theorem dX2_tell_10 : decode cX2_tell 10 = .ok (.getfield 31, 3) := by decide +kernel
theorem dX2_tell_13 : decode cX2_tell 13 = .ok (.putfield 28, 3) := by decide +kernel
theorem dX2_tell_16 : decode cX2_tell 16 = .ok (.aload_n 2, 1) := by decide +kernel
theorem dX2_tell_17 : decode cX2_tell 17 = .ok (.aload_n 0, 1) := by decide +kernel
theorem dX2_tell_18 : decode cX2_tell 18 = .ok (.getfield 37, 3) := by decide +kernel
theorem dX2_tell_21 : decode cX2_tell 21 = .ok (.putfield 34, 3) := by decide +kernel
theorem dX2_tell_24 : decode cX2_tell 24 = .ok (.aload_n 2, 1) := by decide +kernel
theorem dX2_tell_25 : decode cX2_tell 25 = .ok (.aload_n 0, 1) := by decide +kernel
theorem dX2_tell_26 : decode cX2_tell 26 = .ok (.getfield 27, 3) := by decide +kernel
theorem dX2_tell_29 : decode cX2_tell 29 = .ok (.putfield 24, 3) := by decide +kernel
theorem dX2_tell_32 : decode cX2_tell 32 = .ok (.iload_n 1, 1) := by decide +kernel
theorem dX2_tell_33 : decode cX2_tell 33 = .ok (.ifCond .ne 22, 3) := by decide +kernel
theorem dX2_tell_36 : decode cX2_tell 36 = .ok (.aload_n 2, 1) := by decide +kernel
theorem dX2_tell_37 : decode cX2_tell 37 = .ok (.aload_n 0, 1) := by decide +kernel
theorem dX2_tell_38 : decode cX2_tell 38 = .ok (.invokevirtual 92, 3) := by decide +kernel
theorem dX2_tell_41 : decode cX2_tell 41 = .ok (.ifCond .eq 7, 3) := by decide +kernel
theorem dX2_tell_44 : decode cX2_tell 44 = .ok (.iconst 0, 1) := by decide +kernel
theorem dX2_tell_45 : decode cX2_tell 45 = .ok (.goto 4, 3) := by decide +kernel
theorem dX2_tell_48 : decode cX2_tell 48 = .ok (.iconst 4, 1) := by decide +kernel
theorem dX2_tell_49 : decode cX2_tell 49 = .ok (.putfield 9, 3) := by decide +kernel
theorem dX2_tell_52 : decode cX2_tell 52 = .ok (.goto 79, 3) := by decide +kernel
theorem dX2_tell_55 : decode cX2_tell 55 = .ok (.iload_n 1, 1) := by decide +kernel
theorem dX2_tell_56 : decode cX2_tell 56 = .ok (.aload_n 0, 1) := by decide +kernel
theorem dX2_tell_57 : decode cX2_tell 57 = .ok (.getfield 59, 3) := by decide +kernel
theorem dX2_tell_60 : decode cX2_tell 60 = .ok (.iconst 1, 1) := by decide +kernel
theorem dX2_tell_61 : decode cX2_tell 61 = .ok (.isub, 1) := by decide +kernel
theorem dX2_tell_62 : decode cX2_tell 62 = .ok (.if_icmp .ne 11, 3) := by decide +kernel
theorem dX2_tell_65 : decode cX2_tell 65 = .ok (.aload_n 0, 1) := by decide +kernel
theorem dX2_tell_66 : decode cX2_tell 66 = .ok (.aload_n 2, 1) := by decide +kernel
theorem dX2_tell_67 : decode cX2_tell 67 = .ok (.invokevirtual 96, 3) := by decide +kernel
theorem dX2_tell_70 : decode cX2_tell 70 = .ok (.goto 61, 3) := by decide +kernel
theorem dX2_tell_73 : decode cX2_tell 73 = .ok (.iload_n 1, 1) := by decide +kernel
theorem dX2_tell_74 : decode cX2_tell 74 = .ok (.iconst 1, 1) := by decide +kernel
theorem dX2_tell_75 : decode cX2_tell 75 = .ok (.if_icmp .ne 35, 3) := by decide +kernel
theorem dX2_tell_78 : decode cX2_tell 78 = .ok (.aload_n 0, 1) := by decide +kernel
theorem dX2_tell_79 : decode cX2_tell 79 = .ok (.getfield 47, 3) := by decide +kernel
theorem dX2_tell_82 : decode cX2_tell 82 = .ok (.iconst (-1), 1) := by decide +kernel
theorem dX2_tell_83 : decode cX2_tell 83 = .ok (.if_icmp .eq 27, 3) := by decide +kernel
theorem dX2_tell_86 : decode cX2_tell 86 = .ok (.aload_n 2, 1) := by decide +kernel
theorem dX2_tell_87 : decode cX2_tell 87 = .ok (.iconst 2, 1) := by decide +kernel
theorem dX2_tell_88 : decode cX2_tell 88 = .ok (.putfield 9, 3) := by decide +kernel
theorem dX2_tell_91 : decode cX2_tell 91 = .ok (.aload_n 2, 1) := by decide +kernel
theorem dX2_tell_92 : decode cX2_tell 92 = .ok (.aload_n 0, 1) := by decide +kernel
theorem dX2_tell_93 : decode cX2_tell 93 = .ok (.getfield 47, 3) := by decide +kernel
theorem dX2_tell_96 : decode cX2_tell 96 = .ok (.putfield 62, 3) := by decide +kernel
theorem dX2_tell_99 : decode cX2_tell 99 = .ok (.aload_n 2, 1) := by decide +kernel
theorem dX2_tell_100 : decode cX2_tell 100 = .ok (.aload_n 0, 1) := by decide +kernel
theorem dX2_tell_101 : decode cX2_tell 101 = .ok (.getfield 50, 3) := by decide +kernel
theorem dX2_tell_104 : decode cX2_tell 104 = .ok (.putfield 63, 3) := by decide +kernel
theorem dX2_tell_107 : decode cX2_tell 107 = .ok (.goto 24, 3) := by decide +kernel
theorem dX2_tell_110 : decode cX2_tell 110 = .ok (.aload_n 2, 1) := by decide +kernel
theorem dX2_tell_111 : decode cX2_tell 111 = .ok (.iconst 3, 1) := by decide +kernel
theorem dX2_tell_112 : decode cX2_tell 112 = .ok (.putfield 9, 3) := by decide +kernel
theorem dX2_tell_115 : decode cX2_tell 115 = .ok (.aload_n 2, 1) := by decide +kernel
theorem dX2_tell_116 : decode cX2_tell 116 = .ok (.aload_n 0, 1) := by decide +kernel
theorem dX2_tell_117 : decode cX2_tell 117 = .ok (.getfield 53, 3) := by decide +kernel
theorem dX2_tell_120 : decode cX2_tell 120 = .ok (.putfield 62, 3) := by decide +kernel
theorem dX2_tell_123 : decode cX2_tell 123 = .ok (.aload_n 2, 1) := by decide +kernel
theorem dX2_tell_124 : decode cX2_tell 124 = .ok (.aload_n 0, 1) := by decide +kernel
theorem dX2_tell_125 : decode cX2_tell 125 = .ok (.getfield 56, 3) := by decide +kernel
theorem dX2_tell_128 : decode cX2_tell 128 = .ok (.putfield 63, 3) := by decide +kernel
theorem dX2_tell_131 : decode cX2_tell 131 = .ok (.return_, 1) := by decide +kernel
set_option maxRecDepth 20000 in
theorem ggX2_tellEnd_X2_isPause : GoodIn wsX2_tellEnd wsX2_isPause := goodIn_r _ [17, 1, 18, 19, 20, 21, 22, 23, 24, 25, 26, 27, 28, 29, 30, 31, 32] (by decide +kernel) (by decide +kernel)
set_option maxRecDepth 20000 in
theorem gX2_tellEnd_X2_isPause : GoodIn wsX2_tellEnd (wsV RX2 92 RX2 yX2_isPause wsX2_isPause) := goodIn_app (goodIn_of _ (by decide +kernel)) ggX2_tellEnd_X2_isPause
theorem dX2_tellEnd_0 : decode cX2_tellEnd 0 = .ok (.aload_n 1, 1) := by decide +kernel
theorem dX2_tellEnd_1 : decode cX2_tellEnd 1 = .ok (.aload_n 0, 1) := by decide +kernel
theorem dX2_tellEnd_2 : decode cX2_tellEnd 2 = .ok (.invokevirtual 92, 3) := by decide +kernel
theorem dX2_tellEnd_5 : decode cX2_tellEnd 5 = .ok (.ifCond .eq 7, 3) := by decide +kernel
theorem dX2_tellEnd_8 : decode cX2_tellEnd 8 = .ok (.iconst 1, 1) := by decide +kernel
theorem dX2_tellEnd_9 : decode cX2_tellEnd 9 = .ok (.goto 17, 3) := by decide +kernel
theorem dX2_tellEnd_12 : decode cX2_tellEnd 12 = .ok (.aload_n 0, 1) := by decide +kernel
theorem dX2_tellEnd_13 : decode cX2_tellEnd 13 = .ok (.getfield 37, 3) := by decide +kernel
theorem dX2_tellEnd_16 : decode cX2_tellEnd 16 = .ok (.iconst 3, 1) := by decide +kernel
theorem dX2_tellEnd_17 : decode cX2_tellEnd 17 = .ok (.if_icmp .ne 7, 3) := by decide +kernel
theorem dX2_tellEnd_20 : decode cX2_tellEnd 20 = .ok (.iconst 5, 1) := by decide +kernel
theorem dX2_tellEnd_21 : decode cX2_tellEnd 21 = .ok (.goto 5, 3) := by decide +kernel
theorem dX2_tellEnd_24 : decode cX2_tellEnd 24 = .ok (.bipush 6, 2) := by decide +kernel
theorem dX2_tellEnd_26 : decode cX2_tellEnd 26 = .ok (.putfield 9, 3) := by decide +kernel
theorem dX2_tellEnd_29 : decode cX2_tellEnd 29 = .ok (.aload_n 1, 1) := by decide +kernel
theorem dX2_tellEnd_30 : decode cX2_tellEnd 30 = .ok (.aload_n 0, 1) := by decide +kernel
theorem dX2_tellEnd_31 : decode cX2_tellEnd 31 = .ok (.getfield 82, 3) := by decide +kernel
theorem dX2_tellEnd_34 : decode cX2_tellEnd 34 = .ok (.putfield 28, 3) := by decide +kernel
theorem dX2_tellEnd_37 : decode cX2_tellEnd 37 = .ok (.aload_n 1, 1) := by decide +kernel
theorem dX2_tellEnd_38 : decode cX2_tellEnd 38 = .ok (.aload_n 0, 1) := by decide +kernel
theorem dX2_tellEnd_39 : decode cX2_tellEnd 39 = .ok (.getfield 38, 3) := by decide +kernel
theorem dX2_tellEnd_42 : decode cX2_tellEnd 42 = .ok (.putfield 62, 3) := by decide +kernel
theorem dX2_tellEnd_45 : decode cX2_tellEnd 45 = .ok (.aload_n 1, 1) := by decide +kernel
theorem dX2_tellEnd_46 : decode cX2_tellEnd 46 = .ok (.aload_n 0, 1) := by decide +kernel
theorem dX2_tellEnd_47 : decode cX2_tellEnd 47 = .ok (.getfield 41, 3) := by decide +kernel
theorem dX2_tellEnd_50 : decode cX2_tellEnd 50 = .ok (.putfield 63, 3) := by decide +kernel
theorem dX2_tellEnd_53 : decode cX2_tellEnd 53 = .ok (.aload_n 1, 1) := by decide +kernel
theorem dX2_tellEnd_54 : decode cX2_tellEnd 54 = .ok (.aload_n 0, 1) := by decide +kernel
theorem dX2_tellEnd_55 : decode cX2_tellEnd 55 = .ok (.getfield 44, 3) := by decide +kernel
theorem dX2_tellEnd_58 : decode cX2_tellEnd 58 = .ok (.putfield 64, 3) := by decide +kernel
theorem dX2_tellEnd_61 : decode cX2_tellEnd 61 = .ok (.aload_n 1, 1) := by decide +kernel
theorem dX2_tellEnd_62 : decode cX2_tellEnd 62 = .ok (.aload_n 0, 1) := by decide +kernel
theorem dX2_tellEnd_63 : decode cX2_tellEnd 63 = .ok (.getfield 85, 3) := by decide +kernel
theorem dX2_tellEnd_66 : decode cX2_tellEnd 66 = .ok (.putfield 71, 3) := by decide +kernel
theorem dX2_tellEnd_69 : decode cX2_tellEnd 69 = .ok (.return_, 1) := by decide +kernel
theorem dX3_init_0 : decode cX3_init 0 = .ok (.aload_n 0, 1) := by decide +kernel
theorem dX3_init_1 : decode cX3_init 1 = .ok (.invokespecial 3, 3) := by decide +kernel
theorem dX3_init_4 : decode cX3_init 4 = .ok (.aload_n 0, 1) := by decide +kernel
theorem dX3_init_5 : decode cX3_init 5 = .ok (.bipush 40, 2) := by decide +kernel
theorem dX3_init_7 : decode cX3_init 7 = .ok (.anewarray 9, 3) := by decide +kernel
theorem dX3_init_10 : decode cX3_init 10 = .ok (.putfield 11, 3) := by decide +kernel
theorem dX3_init_13 : decode cX3_init 13 = .ok (.return_, 1) := by decide +kernel
theorem dX3_isFull_0 : decode cX3_isFull 0 = .ok (.aload_n 0, 1) := by decide +kernel
theorem dX3_isFull_1 : decode cX3_isFull 1 = .ok (.getfield 17, 3) := by decide +kernel
theorem dX3_isFull_4 : decode cX3_isFull 4 = .ok (.aload_n 0, 1) := by decide +kernel
theorem dX3_isFull_5 : decode cX3_isFull 5 = .ok (.getfield 11, 3) := by decide +kernel
theorem dX3_isFull_8 : decode cX3_isFull 8 = .ok (.arraylength, 1) := by decide +kernel
theorem dX3_isFull_9 : decode cX3_isFull 9 = .ok (.if_icmp .lt 7, 3) := by decide +kernel
theorem dX3_isFull_12 : decode cX3_isFull 12 = .ok (.iconst 1, 1) := by decide +kernel
theorem dX3_isFull_13 : decode cX3_isFull 13 = .ok (.goto 4, 3) := by decide +kernel
theorem dX3_isFull_16 : decode cX3_isFull 16 = .ok (.iconst 0, 1) := by decide +kernel
theorem dX3_isFull_17 : decode cX3_isFull 17 = .ok (.ireturn, 1) := by decide +kernel
theorem dX3_add_0 : decode cX3_add 0 = .ok (.aload_n 0, 1) := by decide +kernel
theorem dX3_add_1 : decode cX3_add 1 = .ok (.getfield 17, 3) := by decide +kernel
theorem dX3_add_4 : decode cX3_add 4 = .ok (.ifCond .lt 35, 3) := by decide +kernel
theorem dX3_add_7 : decode cX3_add 7 = .ok (.aload_n 0, 1) := by decide +kernel
theorem dX3_add_8 : decode cX3_add 8 = .ok (.getfield 17, 3) := by decide +kernel
theorem dX3_add_11 : decode cX3_add 11 = .ok (.aload_n 0, 1) := by decide +kernel

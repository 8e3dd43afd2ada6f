theorem dX0_init_0 : decode cX0_init 0 = .ok (.aload_n 0, 1) := by decide +kernel
theorem dX0_init_1 : decode cX0_init 1 = .ok (.invokespecial 3, 3) := by decide +kernel
theorem dX0_init_4 : decode cX0_init 4 = .ok (.aload_n 0, 1) := by decide +kernel
theorem dX0_init_5 : decode cX0_init 5 = .ok (.bipush 100, 2) := by decide +kernel
theorem dX0_init_7 : decode cX0_init 7 = .ok (.newarray .int, 2) := by decide +kernel
theorem dX0_init_9 : decode cX0_init 9 = .ok (.putfield 11, 3) := by decide +kernel
theorem dX0_init_12 : decode cX0_init 12 = .ok (.aload_n 0, 1) := by decide +kernel
theorem dX0_init_13 : decode cX0_init 13 = .ok (.bipush 100, 2) := by decide +kernel
theorem dX0_init_15 : decode cX0_init 15 = .ok (.newarray .int, 2) := by decide +kernel
theorem dX0_init_17 : decode cX0_init 17 = .ok (.putfield 15, 3) := by decide +kernel
theorem dX0_init_20 : decode cX0_init 20 = .ok (.aload_n 0, 1) := by decide +kernel
theorem dX0_init_21 : decode cX0_init 21 = .ok (.bipush 100, 2) := by decide +kernel
theorem dX0_init_23 : decode cX0_init 23 = .ok (.newarray .int, 2) := by decide +kernel
theorem dX0_init_25 : decode cX0_init 25 = .ok (.putfield 18, 3) := by decide +kernel
theorem dX0_init_28 : decode cX0_init 28 = .ok (.aload_n 0, 1) := by decide +kernel
theorem dX0_init_29 : decode cX0_init 29 = .ok (.bipush 100, 2) := by decide +kernel
theorem dX0_init_31 : decode cX0_init 31 = .ok (.newarray .boolean, 2) := by decide +kernel
theorem dX0_init_33 : decode cX0_init 33 = .ok (.putfield 21, 3) := by decide +kernel
theorem dX0_init_36 : decode cX0_init 36 = .ok (.return_, 1) := by decide +kernel
theorem dX0_add_0 : decode cX0_add 0 = .ok (.aload_n 0, 1) := by decide +kernel
theorem dX0_add_1 : decode cX0_add 1 = .ok (.getfield 25, 3) := by decide +kernel
theorem dX0_add_4 : decode cX0_add 4 = .ok (.bipush 100, 2) := by decide +kernel
theorem dX0_add_6 : decode cX0_add 6 = .ok (.if_icmp .lt 5, 3) := by decide +kernel
theorem dX0_add_9 : decode cX0_add 9 = .ok (.iconst (-1), 1) := by decide +kernel
theorem dX0_add_10 : decode cX0_add 10 = .ok (.ireturn, 1) := by decide +kernel
theorem dX0_add_11 : decode cX0_add 11 = .ok (.aload_n 0, 1) := by decide +kernel
theorem dX0_add_12 : decode cX0_add 12 = .ok (.getfield 11, 3) := by decide +kernel
theorem dX0_add_15 : decode cX0_add 15 = .ok (.aload_n 0, 1) := by decide +kernel
theorem dX0_add_16 : decode cX0_add 16 = .ok (.getfield 25, 3) := by decide +kernel
theorem dX0_add_19 : decode cX0_add 19 = .ok (.iload_n 1, 1) := by decide +kernel
theorem dX0_add_20 : decode cX0_add 20 = .ok (.iastore, 1) := by decide +kernel
theorem dX0_add_21 : decode cX0_add 21 = .ok (.aload_n 0, 1) := by decide +kernel
theorem dX0_add_22 : decode cX0_add 22 = .ok (.getfield 15, 3) := by decide +kernel
theorem dX0_add_25 : decode cX0_add 25 = .ok (.aload_n 0, 1) := by decide +kernel
theorem dX0_add_26 : decode cX0_add 26 = .ok (.getfield 25, 3) := by decide +kernel
theorem dX0_add_29 : decode cX0_add 29 = .ok (.iload_n 2, 1) := by decide +kernel
theorem dX0_add_30 : decode cX0_add 30 = .ok (.iastore, 1) := by decide +kernel
theorem dX0_add_31 : decode cX0_add 31 = .ok (.aload_n 0, 1) := by decide +kernel
theorem dX0_add_32 : decode cX0_add 32 = .ok (.getfield 18, 3) := by decide +kernel
theorem dX0_add_35 : decode cX0_add 35 = .ok (.aload_n 0, 1) := by decide +kernel
theorem dX0_add_36 : decode cX0_add 36 = .ok (.getfield 25, 3) := by decide +kernel
theorem dX0_add_39 : decode cX0_add 39 = .ok (.iload 4, 2) := by decide +kernel
theorem dX0_add_41 : decode cX0_add 41 = .ok (.iastore, 1) := by decide +kernel
theorem dX0_add_42 : decode cX0_add 42 = .ok (.aload_n 0, 1) := by decide +kernel
theorem dX0_add_43 : decode cX0_add 43 = .ok (.getfield 21, 3) := by decide +kernel
theorem dX0_add_46 : decode cX0_add 46 = .ok (.aload_n 0, 1) := by decide +kernel
theorem dX0_add_47 : decode cX0_add 47 = .ok (.getfield 25, 3) := by decide +kernel
theorem dX0_add_50 : decode cX0_add 50 = .ok (.iload_n 3, 1) := by decide +kernel
theorem dX0_add_51 : decode cX0_add 51 = .ok (.bastore, 1) := by decide +kernel
theorem dX0_add_52 : decode cX0_add 52 = .ok (.aload_n 0, 1) := by decide +kernel
theorem dX0_add_53 : decode cX0_add 53 = .ok (.dup, 1) := by decide +kernel
theorem dX0_add_54 : decode cX0_add 54 = .ok (.getfield 25, 3) := by decide +kernel
theorem dX0_add_57 : decode cX0_add 57 = .ok (.iconst 1, 1) := by decide +kernel
theorem dX0_add_58 : decode cX0_add 58 = .ok (.iadd, 1) := by decide +kernel
theorem dX0_add_59 : decode cX0_add 59 = .ok (.putfield 25, 3) := by decide +kernel
theorem dX0_add_62 : decode cX0_add 62 = .ok (.aload_n 0, 1) := by decide +kernel
theorem dX0_add_63 : decode cX0_add 63 = .ok (.getfield 25, 3) := by decide +kernel
theorem dX0_add_66 : decode cX0_add 66 = .ok (.ireturn, 1) := by decide +kernel
set_option maxRecDepth 20000 in
theorem ggX0_allSayYes_X9_isAmong : GoodIn wsX0_allSayYes wsX9_isAmong := goodIn_r _ [3] (by decide +kernel) (by decide +kernel)
set_option maxRecDepth 20000 in
theorem gX0_allSayYes_X9_isAmong_n29 : GoodIn wsX0_allSayYes (wsX9_isAmong) := ggX0_allSayYes_X9_isAmong
set_option maxRecDepth 20000 in
theorem ggX0_allSayYes_X0_saysYes : GoodIn wsX0_allSayYes wsX0_saysYes := goodIn_r _ [8, 9, 10, 11, 12, 13, 14, 15, 16, 17, 18, 19, 20, 21, 22, 23, 24, 25, 26, 27, 7, 28, 29, 30, 31, 32, 33, 34, 35] (by decide +kernel) (by decide +kernel)
set_option maxRecDepth 20000 in
theorem gX0_allSayYes_X0_saysYes : GoodIn wsX0_allSayYes (wsV RX0 33 RX0 yX0_saysYes wsX0_saysYes) := goodIn_app (goodIn_of _ (by decide +kernel)) ggX0_allSayYes_X0_saysYes
theorem dX0_allSayYes_0 : decode cX0_allSayYes 0 = .ok (.iconst 0, 1) := by decide +kernel
theorem dX0_allSayYes_1 : decode cX0_allSayYes 1 = .ok (.istore 5, 2) := by decide +kernel
theorem dX0_allSayYes_3 : decode cX0_allSayYes 3 = .ok (.iload 5, 2) := by decide +kernel
theorem dX0_allSayYes_5 : decode cX0_allSayYes 5 = .ok (.bipush 16, 2) := by decide +kernel
theorem dX0_allSayYes_7 : decode cX0_allSayYes 7 = .ok (.if_icmp .ge 33, 3) := by decide +kernel
theorem dX0_allSayYes_10 : decode cX0_allSayYes 10 = .ok (.iload_n 1, 1) := by decide +kernel
theorem dX0_allSayYes_11 : decode cX0_allSayYes 11 = .ok (.iload 5, 2) := by decide +kernel
theorem dX0_allSayYes_13 : decode cX0_allSayYes 13 = .ok (.invokestatic 29, 3) := by decide +kernel
theorem dX0_allSayYes_16 : decode cX0_allSayYes 16 = .ok (.ifCond .eq 18, 3) := by decide +kernel
theorem dX0_allSayYes_19 : decode cX0_allSayYes 19 = .ok (.aload_n 0, 1) := by decide +kernel
theorem dX0_allSayYes_20 : decode cX0_allSayYes 20 = .ok (.iload 5, 2) := by decide +kernel
theorem dX0_allSayYes_22 : decode cX0_allSayYes 22 = .ok (.iload_n 2, 1) := by decide +kernel
theorem dX0_allSayYes_23 : decode cX0_allSayYes 23 = .ok (.iload_n 3, 1) := by decide +kernel
theorem dX0_allSayYes_24 : decode cX0_allSayYes 24 = .ok (.aload 4, 2) := by decide +kernel
theorem dX0_allSayYes_26 : decode cX0_allSayYes 26 = .ok (.invokevirtual 33, 3) := by decide +kernel
theorem dX0_allSayYes_29 : decode cX0_allSayYes 29 = .ok (.ifCond .ne 5, 3) := by decide +kernel
theorem dX0_allSayYes_32 : decode cX0_allSayYes 32 = .ok (.iconst 0, 1) := by decide +kernel
theorem dX0_allSayYes_33 : decode cX0_allSayYes 33 = .ok (.ireturn, 1) := by decide +kernel
theorem dX0_allSayYes_34 : decode cX0_allSayYes 34 = .ok (.iinc 5 1, 3) := by decide +kernel
theorem dX0_allSayYes_37 : decode cX0_allSayYes 37 = .ok (.goto (-34), 3) := by decide +kernel
theorem dX0_allSayYes_40 : decode cX0_allSayYes 40 = .ok (.iconst 1, 1) := by decide +kernel
theorem dX0_allSayYes_41 : decode cX0_allSayYes 41 = .ok (.ireturn, 1) := by decide +kernel
set_option maxRecDepth 20000 in
theorem ggX0_saysYes_X8_isAtOrAbove : GoodIn wsX0_saysYes wsX8_isAtOrAbove := goodIn_r _ [10, 11, 12, 13, 14, 9, 15, 16, 27, 28] (by decide +kernel) (by decide +kernel)
set_option maxRecDepth 20000 in
theorem gX0_saysYes_X8_isAtOrAbove : GoodIn wsX0_saysYes (wsV RX0 37 RX8 yX8_isAtOrAbove wsX8_isAtOrAbove) := goodIn_app (goodIn_of _ (by decide +kernel)) ggX0_saysYes_X8_isAtOrAbove
set_option maxRecDepth 20000 in
theorem ggX0_saysYes_X0_outranks : GoodIn wsX0_saysYes wsX0_outranks := goodIn_r _ [21, 4, 3, 22, 23, 24, 25, 26] (by decide +kernel) (by decide +kernel)
set_option maxRecDepth 20000 in
theorem gX0_saysYes_X0_outranks : GoodIn wsX0_saysYes (wsV RX0 42 RX0 yX0_outranks wsX0_outranks) := goodIn_app (goodIn_of _ (by decide +kernel)) ggX0_saysYes_X0_outranks
theorem dX0_saysYes_0 : decode cX0_saysYes 0 = .ok (.iconst (-1), 1) := by decide +kernel
theorem dX0_saysYes_1 : decode cX0_saysYes 1 = .ok (.istore 5, 2) := by decide +kernel
theorem dX0_saysYes_3 : decode cX0_saysYes 3 = .ok (.iconst 0, 1) := by decide +kernel
theorem dX0_saysYes_4 : decode cX0_saysYes 4 = .ok (.istore 6, 2) := by decide +kernel
theorem dX0_saysYes_6 : decode cX0_saysYes 6 = .ok (.iload 6, 2) := by decide +kernel
theorem dX0_saysYes_8 : decode cX0_saysYes 8 = .ok (.aload_n 0, 1) := by decide +kernel
theorem dX0_saysYes_9 : decode cX0_saysYes 9 = .ok (.getfield 25, 3) := by decide +kernel
theorem dX0_saysYes_12 : decode cX0_saysYes 12 = .ok (.if_icmp .ge 80, 3) := by decide +kernel
theorem dX0_saysYes_15 : decode cX0_saysYes 15 = .ok (.aload_n 0, 1) := by decide +kernel
theorem dX0_saysYes_16 : decode cX0_saysYes 16 = .ok (.getfield 11, 3) := by decide +kernel
theorem dX0_saysYes_19 : decode cX0_saysYes 19 = .ok (.iload 6, 2) := by decide +kernel
theorem dX0_saysYes_21 : decode cX0_saysYes 21 = .ok (.iaload, 1) := by decide +kernel
theorem dX0_saysYes_22 : decode cX0_saysYes 22 = .ok (.iload_n 1, 1) := by decide +kernel
theorem dX0_saysYes_23 : decode cX0_saysYes 23 = .ok (.if_icmp .ne 34, 3) := by decide +kernel
theorem dX0_saysYes_26 : decode cX0_saysYes 26 = .ok (.aload_n 0, 1) := by decide +kernel
theorem dX0_saysYes_27 : decode cX0_saysYes 27 = .ok (.getfield 18, 3) := by decide +kernel
theorem dX0_saysYes_30 : decode cX0_saysYes 30 = .ok (.iload 6, 2) := by decide +kernel
theorem dX0_saysYes_32 : decode cX0_saysYes 32 = .ok (.iaload, 1) := by decide +kernel
theorem dX0_saysYes_33 : decode cX0_saysYes 33 = .ok (.iload_n 3, 1) := by decide +kernel
theorem dX0_saysYes_34 : decode cX0_saysYes 34 = .ok (.if_icmp .gt 23, 3) := by decide +kernel
theorem dX0_saysYes_37 : decode cX0_saysYes 37 = .ok (.aload 4, 2) := by decide +kernel
theorem dX0_saysYes_39 : decode cX0_saysYes 39 = .ok (.aload_n 0, 1) := by decide +kernel
theorem dX0_saysYes_40 : decode cX0_saysYes 40 = .ok (.getfield 15, 3) := by decide +kernel
theorem dX0_saysYes_43 : decode cX0_saysYes 43 = .ok (.iload 6, 2) := by decide +kernel
theorem dX0_saysYes_45 : decode cX0_saysYes 45 = .ok (.iaload, 1) := by decide +kernel
theorem dX0_saysYes_46 : decode cX0_saysYes 46 = .ok (.iload_n 2, 1) := by decide +kernel
theorem dX0_saysYes_47 : decode cX0_saysYes 47 = .ok (.invokevirtual 37, 3) := by decide +kernel
theorem dX0_saysYes_50 : decode cX0_saysYes 50 = .ok (.ifCond .eq 7, 3) := by decide +kernel
theorem dX0_saysYes_53 : decode cX0_saysYes 53 = .ok (.iconst 1, 1) := by decide +kernel
theorem dX0_saysYes_54 : decode cX0_saysYes 54 = .ok (.goto 4, 3) := by decide +kernel
theorem dX0_saysYes_57 : decode cX0_saysYes 57 = .ok (.iconst 0, 1) := by decide +kernel
theorem dX0_saysYes_58 : decode cX0_saysYes 58 = .ok (.istore 7, 2) := by decide +kernel
theorem dX0_saysYes_60 : decode cX0_saysYes 60 = .ok (.iload 7, 2) := by decide +kernel
theorem dX0_saysYes_62 : decode cX0_saysYes 62 = .ok (.ifCond .eq 24, 3) := by decide +kernel
theorem dX0_saysYes_65 : decode cX0_saysYes 65 = .ok (.iload 5, 2) := by decide +kernel
theorem dX0_saysYes_67 : decode cX0_saysYes 67 = .ok (.iconst (-1), 1) := by decide +kernel
theorem dX0_saysYes_68 : decode cX0_saysYes 68 = .ok (.if_icmp .eq 14, 3) := by decide +kernel
theorem dX0_saysYes_71 : decode cX0_saysYes 71 = .ok (.aload_n 0, 1) := by decide +kernel
theorem dX0_saysYes_72 : decode cX0_saysYes 72 = .ok (.iload 6, 2) := by decide +kernel
theorem dX0_saysYes_74 : decode cX0_saysYes 74 = .ok (.iload 5, 2) := by decide +kernel
theorem dX0_saysYes_76 : decode cX0_saysYes 76 = .ok (.invokevirtual 42, 3) := by decide +kernel
theorem dX0_saysYes_79 : decode cX0_saysYes 79 = .ok (.ifCond .eq 7, 3) := by decide +kernel
theorem dX0_saysYes_82 : decode cX0_saysYes 82 = .ok (.iload 6, 2) := by decide +kernel
theorem dX0_saysYes_84 : decode cX0_saysYes 84 = .ok (.istore 5, 2) := by decide +kernel
theorem dX0_saysYes_86 : decode cX0_saysYes 86 = .ok (.iinc 6 1, 3) := by decide +kernel
theorem dX0_saysYes_89 : decode cX0_saysYes 89 = .ok (.goto (-83), 3) := by decide +kernel
theorem dX0_saysYes_92 : decode cX0_saysYes 92 = .ok (.iload 5, 2) := by decide +kernel
theorem dX0_saysYes_94 : decode cX0_saysYes 94 = .ok (.iconst (-1), 1) := by decide +kernel
theorem dX0_saysYes_95 : decode cX0_saysYes 95 = .ok (.if_icmp .eq 17, 3) := by decide +kernel
theorem dX0_saysYes_98 : decode cX0_saysYes 98 = .ok (.aload_n 0, 1) := by decide +kernel
theorem dX0_saysYes_99 : decode cX0_saysYes 99 = .ok (.getfield 21, 3) := by decide +kernel
theorem dX0_saysYes_102 : decode cX0_saysYes 102 = .ok (.iload 5, 2) := by decide +kernel
theorem dX0_saysYes_104 : decode cX0_saysYes 104 = .ok (.baload, 1) := by decide +kernel
theorem dX0_saysYes_105 : decode cX0_saysYes 105 = .ok (.ifCond .eq 7, 3) := by decide +kernel
theorem dX0_saysYes_108 : decode cX0_saysYes 108 = .ok (.iconst 1, 1) := by decide +kernel
theorem dX0_saysYes_109 : decode cX0_saysYes 109 = .ok (.goto 4, 3) := by decide +kernel
theorem dX0_saysYes_112 : decode cX0_saysYes 112 = .ok (.iconst 0, 1) := by decide +kernel
theorem dX0_saysYes_113 : decode cX0_saysYes 113 = .ok (.ireturn, 1) := by decide +kernel
theorem dX0_outranks_0 : decode cX0_outranks 0 = .ok (.aload_n 0, 1) := by decide +kernel
theorem dX0_outranks_1 : decode cX0_outranks 1 = .ok (.getfield 15, 3) := by decide +kernel
theorem dX0_outranks_4 : decode cX0_outranks 4 = .ok (.iload_n 1, 1) := by decide +kernel
theorem dX0_outranks_5 : decode cX0_outranks 5 = .ok (.iaload, 1) := by decide +kernel
theorem dX0_outranks_6 : decode cX0_outranks 6 = .ok (.aload_n 0, 1) := by decide +kernel
theorem dX0_outranks_7 : decode cX0_outranks 7 = .ok (.getfield 15, 3) := by decide +kernel
theorem dX0_outranks_10 : decode cX0_outranks 10 = .ok (.iload_n 2, 1) := by decide +kernel
theorem dX0_outranks_11 : decode cX0_outranks 11 = .ok (.iaload, 1) := by decide +kernel
theorem dX0_outranks_12 : decode cX0_outranks 12 = .ok (.if_icmp .eq 24, 3) := by decide +kernel
theorem dX0_outranks_15 : decode cX0_outranks 15 = .ok (.aload_n 0, 1) := by decide +kernel
theorem dX0_outranks_16 : decode cX0_outranks 16 = .ok (.getfield 15, 3) := by decide +kernel
theorem dX0_outranks_19 : decode cX0_outranks 19 = .ok (.iload_n 1, 1) := by decide +kernel
theorem dX0_outranks_20 : decode cX0_outranks 20 = .ok (.iaload, 1) := by decide +kernel
theorem dX0_outranks_21 : decode cX0_outranks 21 = .ok (.aload_n 0, 1) := by decide +kernel
theorem dX0_outranks_22 : decode cX0_outranks 22 = .ok (.getfield 15, 3) := by decide +kernel
theorem dX0_outranks_25 : decode cX0_outranks 25 = .ok (.iload_n 2, 1) := by decide +kernel
theorem dX0_outranks_26 : decode cX0_outranks 26 = .ok (.iaload, 1) := by decide +kernel
theorem dX0_outranks_27 : decode cX0_outranks 27 = .ok (.if_icmp .le 7, 3) := by decide +kernel
theorem dX0_outranks_30 : decode cX0_outranks 30 = .ok (.iconst 1, 1) := by decide +kernel
theorem dX0_outranks_31 : decode cX0_outranks 31 = .ok (.goto 4, 3) := by decide +kernel
theorem dX0_outranks_34 : decode cX0_outranks 34 = .ok (.iconst 0, 1) := by decide +kernel
theorem dX0_outranks_35 : decode cX0_outranks 35 = .ok (.ireturn, 1) := by decide +kernel
theorem dX0_outranks_36 : decode cX0_outranks 36 = .ok (.aload_n 0, 1) := by decide +kernel
theorem dX0_outranks_37 : decode cX0_outranks 37 = .ok (.getfield 18, 3) := by decide +kernel
theorem dX0_outranks_40 : decode cX0_outranks 40 = .ok (.iload_n 1, 1) := by decide +kernel
theorem dX0_outranks_41 : decode cX0_outranks 41 = .ok (.iaload, 1) := by decide +kernel
theorem dX0_outranks_42 : decode cX0_outranks 42 = .ok (.aload_n 0, 1) := by decide +kernel
theorem dX0_outranks_43 : decode cX0_outranks 43 = .ok (.getfield 18, 3) := by decide +kernel
theorem dX0_outranks_46 : decode cX0_outranks 46 = .ok (.iload_n 2, 1) := by decide +kernel
theorem dX0_outranks_47 : decode cX0_outranks 47 = .ok (.iaload, 1) := by decide +kernel
theorem dX0_outranks_48 : decode cX0_outranks 48 = .ok (.if_icmp .lt 7, 3) := by decide +kernel
theorem dX0_outranks_51 : decode cX0_outranks 51 = .ok (.iconst 1, 1) := by decide +kernel
theorem dX0_outranks_52 : decode cX0_outranks 52 = .ok (.goto 4, 3) := by decide +kernel
theorem dX0_outranks_55 : decode cX0_outranks 55 = .ok (.iconst 0, 1) := by decide +kernel
theorem dX0_outranks_56 : decode cX0_outranks 56 = .ok (.ireturn, 1) := by decide +kernel
theorem dX1_init_0 : decode cX1_init 0 = .ok (.aload_n 0, 1) := by decide +kernel
theorem dX1_init_1 : decode cX1_init 1 = .ok (.invokespecial 3, 3) := by decide +kernel
theorem dX1_init_4 : decode cX1_init 4 = .ok (.aload_n 0, 1) := by decide +kernel
theorem dX1_init_5 : decode cX1_init 5 = .ok (.bipush 40, 2) := by decide +kernel
theorem dX1_init_7 : decode cX1_init 7 = .ok (.newarray .int, 2) := by decide +kernel
theorem dX1_init_9 : decode cX1_init 9 = .ok (.putfield 11, 3) := by decide +kernel
theorem dX1_init_12 : decode cX1_init 12 = .ok (.aload_n 0, 1) := by decide +kernel
theorem dX1_init_13 : decode cX1_init 13 = .ok (.bipush 40, 2) := by decide +kernel
theorem dX1_init_15 : decode cX1_init 15 = .ok (.newarray .int, 2) := by decide +kernel
theorem dX1_init_17 : decode cX1_init 17 = .ok (.putfield 15, 3) := by decide +kernel
theorem dX1_init_20 : decode cX1_init 20 = .ok (.aload_n 0, 1) := by decide +kernel
theorem dX1_init_21 : decode cX1_init 21 = .ok (.bipush 40, 2) := by decide +kernel
theorem dX1_init_23 : decode cX1_init 23 = .ok (.newarray .int, 2) := by decide +kernel
theorem dX1_init_25 : decode cX1_init 25 = .ok (.putfield 18, 3) := by decide +kernel
theorem dX1_init_28 : decode cX1_init 28 = .ok (.aload_n 0, 1) := by decide +kernel
theorem dX1_init_29 : decode cX1_init 29 = .ok (.bipush 40, 2) := by decide +kernel
theorem dX1_init_31 : decode cX1_init 31 = .ok (.newarray .int, 2) := by decide +kernel
theorem dX1_init_33 : decode cX1_init 33 = .ok (.putfield 21, 3) := by decide +kernel
theorem dX1_init_36 : decode cX1_init 36 = .ok (.return_, 1) := by decide +kernel
theorem dX1_add_0 : decode cX1_add 0 = .ok (.aload_n 0, 1) := by decide +kernel
theorem dX1_add_1 : decode cX1_add 1 = .ok (.getfield 24, 3) := by decide +kernel
theorem dX1_add_4 : decode cX1_add 4 = .ok (.bipush 40, 2) := by decide +kernel
theorem dX1_add_6 : decode cX1_add 6 = .ok (.if_icmp .lt 5, 3) := by decide +kernel
theorem dX1_add_9 : decode cX1_add 9 = .ok (.iconst (-1), 1) := by decide +kernel
theorem dX1_add_10 : decode cX1_add 10 = .ok (.ireturn, 1) := by decide +kernel
theorem dX1_add_11 : decode cX1_add 11 = .ok (.aload_n 0, 1) := by decide +kernel
theorem dX1_add_12 : decode cX1_add 12 = .ok (.getfield 11, 3) := by decide +kernel
theorem dX1_add_15 : decode cX1_add 15 = .ok (.aload_n 0, 1) := by decide +kernel
theorem dX1_add_16 : decode cX1_add 16 = .ok (.getfield 24, 3) := by decide +kernel
theorem dX1_add_19 : decode cX1_add 19 = .ok (.iload_n 1, 1) := by decide +kernel
theorem dX1_add_20 : decode cX1_add 20 = .ok (.iastore, 1) := by decide +kernel
theorem dX1_add_21 : decode cX1_add 21 = .ok (.aload_n 0, 1) := by decide +kernel
theorem dX1_add_22 : decode cX1_add 22 = .ok (.getfield 15, 3) := by decide +kernel
theorem dX1_add_25 : decode cX1_add 25 = .ok (.aload_n 0, 1) := by decide +kernel
theorem dX1_add_26 : decode cX1_add 26 = .ok (.getfield 24, 3) := by decide +kernel
theorem dX1_add_29 : decode cX1_add 29 = .ok (.iload_n 2, 1) := by decide +kernel
theorem dX1_add_30 : decode cX1_add 30 = .ok (.iastore, 1) := by decide +kernel
theorem dX1_add_31 : decode cX1_add 31 = .ok (.aload_n 0, 1) := by decide +kernel
theorem dX1_add_32 : decode cX1_add 32 = .ok (.getfield 18, 3) := by decide +kernel
theorem dX1_add_35 : decode cX1_add 35 = .ok (.aload_n 0, 1) := by decide +kernel
theorem dX1_add_36 : decode cX1_add 36 = .ok (.getfield 24, 3) := by decide +kernel
theorem dX1_add_39 : decode cX1_add 39 = .ok (.iload_n 3, 1) := by decide +kernel
theorem dX1_add_40 : decode cX1_add 40 = .ok (.iastore, 1) := by decide +kernel
theorem dX1_add_41 : decode cX1_add 41 = .ok (.aload_n 0, 1) := by decide +kernel
theorem dX1_add_42 : decode cX1_add 42 = .ok (.getfield 21, 3) := by decide +kernel
theorem dX1_add_45 : decode cX1_add 45 = .ok (.aload_n 0, 1) := by decide +kernel
theorem dX1_add_46 : decode cX1_add 46 = .ok (.getfield 24, 3) := by decide +kernel
theorem dX1_add_49 : decode cX1_add 49 = .ok (.iload 4, 2) := by decide +kernel
theorem dX1_add_51 : decode cX1_add 51 = .ok (.iastore, 1) := by decide +kernel
theorem dX1_add_52 : decode cX1_add 52 = .ok (.aload_n 0, 1) := by decide +kernel
theorem dX1_add_53 : decode cX1_add 53 = .ok (.dup, 1) := by decide +kernel
theorem dX1_add_54 : decode cX1_add 54 = .ok (.getfield 24, 3) := by decide +kernel
theorem dX1_add_57 : decode cX1_add 57 = .ok (.iconst 1, 1) := by decide +kernel
theorem dX1_add_58 : decode cX1_add 58 = .ok (.iadd, 1) := by decide +kernel
theorem dX1_add_59 : decode cX1_add 59 = .ok (.putfield 24, 3) := by decide +kernel
theorem dX1_add_62 : decode cX1_add 62 = .ok (.aload_n 0, 1) := by decide +kernel
theorem dX1_add_63 : decode cX1_add 63 = .ok (.getfield 24, 3) := by decide +kernel
theorem dX1_add_66 : decode cX1_add 66 = .ok (.ireturn, 1) := by decide +kernel
set_option maxRecDepth 20000 in
theorem ggX1_allow_X9_isAmong : GoodIn wsX1_allow wsX9_isAmong := goodIn_r _ [8] (by decide +kernel) (by decide +kernel)
set_option maxRecDepth 20000 in
theorem gX1_allow_X9_isAmong_n28 : GoodIn wsX1_allow (wsX9_isAmong) := ggX1_allow_X9_isAmong
set_option maxRecDepth 20000 in
theorem ggX1_allow_X8_isAtOrAbove : GoodIn wsX1_allow wsX8_isAtOrAbove := goodIn_r _ [13, 14, 15, 16, 17, 12, 18, 19, 25, 26] (by decide +kernel) (by decide +kernel)
set_option maxRecDepth 20000 in
theorem gX1_allow_X8_isAtOrAbove : GoodIn wsX1_allow (wsV RX1 32 RX8 yX8_isAtOrAbove wsX8_isAtOrAbove) := goodIn_app (goodIn_of _ (by decide +kernel)) ggX1_allow_X8_isAtOrAbove
theorem dX1_allow_0 : decode cX1_allow 0 = .ok (.iconst 0, 1) := by decide +kernel
theorem dX1_allow_1 : decode cX1_allow 1 = .ok (.istore 5, 2) := by decide +kernel
theorem dX1_allow_3 : decode cX1_allow 3 = .ok (.iload 5, 2) := by decide +kernel
theorem dX1_allow_5 : decode cX1_allow 5 = .ok (.aload_n 0, 1) := by decide +kernel
theorem dX1_allow_6 : decode cX1_allow 6 = .ok (.getfield 24, 3) := by decide +kernel
theorem dX1_allow_9 : decode cX1_allow 9 = .ok (.if_icmp .ge 63, 3) := by decide +kernel
theorem dX1_allow_12 : decode cX1_allow 12 = .ok (.iload_n 1, 1) := by decide +kernel
theorem dX1_allow_13 : decode cX1_allow 13 = .ok (.aload_n 0, 1) := by decide +kernel
theorem dX1_allow_14 : decode cX1_allow 14 = .ok (.getfield 11, 3) := by decide +kernel
theorem dX1_allow_17 : decode cX1_allow 17 = .ok (.iload 5, 2) := by decide +kernel
theorem dX1_allow_19 : decode cX1_allow 19 = .ok (.iaload, 1) := by decide +kernel
theorem dX1_allow_20 : decode cX1_allow 20 = .ok (.invokestatic 28, 3) := by decide +kernel
theorem dX1_allow_23 : decode cX1_allow 23 = .ok (.ifCond .eq 43, 3) := by decide +kernel
theorem dX1_allow_26 : decode cX1_allow 26 = .ok (.aload_n 0, 1) := by decide +kernel
theorem dX1_allow_27 : decode cX1_allow 27 = .ok (.getfield 18, 3) := by decide +kernel
theorem dX1_allow_30 : decode cX1_allow 30 = .ok (.iload 5, 2) := by decide +kernel
theorem dX1_allow_32 : decode cX1_allow 32 = .ok (.iaload, 1) := by decide +kernel
theorem dX1_allow_33 : decode cX1_allow 33 = .ok (.iload_n 3, 1) := by decide +kernel
theorem dX1_allow_34 : decode cX1_allow 34 = .ok (.if_icmp .gt 32, 3) := by decide +kernel
theorem dX1_allow_37 : decode cX1_allow 37 = .ok (.iload_n 3, 1) := by decide +kernel
theorem dX1_allow_38 : decode cX1_allow 38 = .ok (.aload_n 0, 1) := by decide +kernel
theorem dX1_allow_39 : decode cX1_allow 39 = .ok (.getfield 21, 3) := by decide +kernel
theorem dX1_allow_42 : decode cX1_allow 42 = .ok (.iload 5, 2) := by decide +kernel
theorem dX1_allow_44 : decode cX1_allow 44 = .ok (.iaload, 1) := by decide +kernel
theorem dX1_allow_45 : decode cX1_allow 45 = .ok (.if_icmp .gt 21, 3) := by decide +kernel
theorem dX1_allow_48 : decode cX1_allow 48 = .ok (.aload 4, 2) := by decide +kernel
theorem dX1_allow_50 : decode cX1_allow 50 = .ok (.aload_n 0, 1) := by decide +kernel
theorem dX1_allow_51 : decode cX1_allow 51 = .ok (.getfield 15, 3) := by decide +kernel
theorem dX1_allow_54 : decode cX1_allow 54 = .ok (.iload 5, 2) := by decide +kernel
theorem dX1_allow_56 : decode cX1_allow 56 = .ok (.iaload, 1) := by decide +kernel
theorem dX1_allow_57 : decode cX1_allow 57 = .ok (.iload_n 2, 1) := by decide +kernel
theorem dX1_allow_58 : decode cX1_allow 58 = .ok (.invokevirtual 32, 3) := by decide +kernel
theorem dX1_allow_61 : decode cX1_allow 61 = .ok (.ifCond .eq 5, 3) := by decide +kernel
theorem dX1_allow_64 : decode cX1_allow 64 = .ok (.iconst 1, 1) := by decide +kernel
theorem dX1_allow_65 : decode cX1_allow 65 = .ok (.ireturn, 1) := by decide +kernel
theorem dX1_allow_66 : decode cX1_allow 66 = .ok (.iinc 5 1, 3) := by decide +kernel
theorem dX1_allow_69 : decode cX1_allow 69 = .ok (.goto (-66), 3) := by decide +kernel
theorem dX1_allow_72 : decode cX1_allow 72 = .ok (.iconst 0, 1) := by decide +kernel
theorem dX1_allow_73 : decode cX1_allow 73 = .ok (.ireturn, 1) := by decide +kernel
theorem dX2_init_0 : decode cX2_init 0 = .ok (.aload_n 0, 1) := by decide +kernel
theorem dX2_init_1 : decode cX2_init 1 = .ok (.invokespecial 3, 3) := by decide +kernel
theorem dX2_init_4 : decode cX2_init 4 = .ok (.aload_n 0, 1) := by decide +kernel
theorem dX2_init_5 : decode cX2_init 5 = .ok (.bipush 20, 2) := by decide +kernel
theorem dX2_init_7 : decode cX2_init 7 = .ok (.newarray .int, 2) := by decide +kernel
theorem dX2_init_9 : decode cX2_init 9 = .ok (.putfield 11, 3) := by decide +kernel
theorem dX2_init_12 : decode cX2_init 12 = .ok (.aload_n 0, 1) := by decide +kernel
theorem dX2_init_13 : decode cX2_init 13 = .ok (.bipush 20, 2) := by decide +kernel
theorem dX2_init_15 : decode cX2_init 15 = .ok (.newarray .int, 2) := by decide +kernel
theorem dX2_init_17 : decode cX2_init 17 = .ok (.putfield 15, 3) := by decide +kernel
theorem dX2_init_20 : decode cX2_init 20 = .ok (.aload_n 0, 1) := by decide +kernel
theorem dX2_init_21 : decode cX2_init 21 = .ok (.bipush 20, 2) := by decide +kernel
theorem dX2_init_23 : decode cX2_init 23 = .ok (.newarray .int, 2) := by decide +kernel
theorem dX2_init_25 : decode cX2_init 25 = .ok (.putfield 18, 3) := by decide +kernel
theorem dX2_init_28 : decode cX2_init 28 = .ok (.return_, 1) := by decide +kernel
theorem dX2_add_0 : decode cX2_add 0 = .ok (.aload_n 0, 1) := by decide +kernel
theorem dX2_add_1 : decode cX2_add 1 = .ok (.getfield 21, 3) := by decide +kernel
theorem dX2_add_4 : decode cX2_add 4 = .ok (.bipush 20, 2) := by decide +kernel
theorem dX2_add_6 : decode cX2_add 6 = .ok (.if_icmp .lt 5, 3) := by decide +kernel
theorem dX2_add_9 : decode cX2_add 9 = .ok (.iconst (-1), 1) := by decide +kernel
theorem dX2_add_10 : decode cX2_add 10 = .ok (.ireturn, 1) := by decide +kernel
theorem dX2_add_11 : decode cX2_add 11 = .ok (.aload_n 0, 1) := by decide +kernel
theorem dX2_add_12 : decode cX2_add 12 = .ok (.getfield 11, 3) := by decide +kernel
theorem dX2_add_15 : decode cX2_add 15 = .ok (.aload_n 0, 1) := by decide +kernel
theorem dX2_add_16 : decode cX2_add 16 = .ok (.getfield 21, 3) := by decide +kernel
theorem dX2_add_19 : decode cX2_add 19 = .ok (.iload_n 1, 1) := by decide +kernel
theorem dX2_add_20 : decode cX2_add 20 = .ok (.iastore, 1) := by decide +kernel
theorem dX2_add_21 : decode cX2_add 21 = .ok (.aload_n 0, 1) := by decide +kernel
theorem dX2_add_22 : decode cX2_add 22 = .ok (.getfield 15, 3) := by decide +kernel
theorem dX2_add_25 : decode cX2_add 25 = .ok (.aload_n 0, 1) := by decide +kernel
theorem dX2_add_26 : decode cX2_add 26 = .ok (.getfield 21, 3) := by decide +kernel
theorem dX2_add_29 : decode cX2_add 29 = .ok (.iload_n 2, 1) := by decide +kernel
theorem dX2_add_30 : decode cX2_add 30 = .ok (.iastore, 1) := by decide +kernel
theorem dX2_add_31 : decode cX2_add 31 = .ok (.aload_n 0, 1) := by decide +kernel
theorem dX2_add_32 : decode cX2_add 32 = .ok (.getfield 18, 3) := by decide +kernel
theorem dX2_add_35 : decode cX2_add 35 = .ok (.aload_n 0, 1) := by decide +kernel
theorem dX2_add_36 : decode cX2_add 36 = .ok (.getfield 21, 3) := by decide +kernel
theorem dX2_add_39 : decode cX2_add 39 = .ok (.iload_n 3, 1) := by decide +kernel
theorem dX2_add_40 : decode cX2_add 40 = .ok (.iastore, 1) := by decide +kernel
theorem dX2_add_41 : decode cX2_add 41 = .ok (.aload_n 0, 1) := by decide +kernel
theorem dX2_add_42 : decode cX2_add 42 = .ok (.dup, 1) := by decide +kernel
theorem dX2_add_43 : decode cX2_add 43 = .ok (.getfield 21, 3) := by decide +kernel
theorem dX2_add_46 : decode cX2_add 46 = .ok (.iconst 1, 1) := by decide +kernel
theorem dX2_add_47 : decode cX2_add 47 = .ok (.iadd, 1) := by decide +kernel
theorem dX2_add_48 : decode cX2_add 48 = .ok (.putfield 21, 3) := by decide +kernel
theorem dX2_add_51 : decode cX2_add 51 = .ok (.aload_n 0, 1) := by decide +kernel
theorem dX2_add_52 : decode cX2_add 52 = .ok (.getfield 21, 3) := by decide +kernel
theorem dX2_add_55 : decode cX2_add 55 = .ok (.ireturn, 1) := by decide +kernel
set_option maxRecDepth 20000 in
theorem ggX2_allow_X2_covers : GoodIn wsX2_allow wsX2_covers := goodIn_r _ [7, 8, 9, 10, 11, 12, 13] (by decide +kernel) (by decide +kernel)
set_option maxRecDepth 20000 in
theorem gX2_allow_X2_covers : GoodIn wsX2_allow (wsV RX2 25 RX2 yX2_covers wsX2_covers) := goodIn_app (goodIn_of _ (by decide +kernel)) ggX2_allow_X2_covers
theorem dX2_allow_0 : decode cX2_allow 0 = .ok (.iconst 0, 1) := by decide +kernel
theorem dX2_allow_1 : decode cX2_allow 1 = .ok (.istore 5, 2) := by decide +kernel
theorem dX2_allow_3 : decode cX2_allow 3 = .ok (.iload 5, 2) := by decide +kernel
theorem dX2_allow_5 : decode cX2_allow 5 = .ok (.aload_n 0, 1) := by decide +kernel
theorem dX2_allow_6 : decode cX2_allow 6 = .ok (.getfield 21, 3) := by decide +kernel
theorem dX2_allow_9 : decode cX2_allow 9 = .ok (.if_icmp .ge 35, 3) := by decide +kernel
theorem dX2_allow_12 : decode cX2_allow 12 = .ok (.aload_n 0, 1) := by decide +kernel
theorem dX2_allow_13 : decode cX2_allow 13 = .ok (.getfield 15, 3) := by decide +kernel
theorem dX2_allow_16 : decode cX2_allow 16 = .ok (.iload 5, 2) := by decide +kernel
theorem dX2_allow_18 : decode cX2_allow 18 = .ok (.iaload, 1) := by decide +kernel
theorem dX2_allow_19 : decode cX2_allow 19 = .ok (.iload_n 2, 1) := by decide +kernel
theorem dX2_allow_20 : decode cX2_allow 20 = .ok (.if_icmp .ne 18, 3) := by decide +kernel
theorem dX2_allow_23 : decode cX2_allow 23 = .ok (.aload_n 0, 1) := by decide +kernel
theorem dX2_allow_24 : decode cX2_allow 24 = .ok (.iload 5, 2) := by decide +kernel
theorem dX2_allow_26 : decode cX2_allow 26 = .ok (.iload_n 1, 1) := by decide +kernel
theorem dX2_allow_27 : decode cX2_allow 27 = .ok (.iload_n 3, 1) := by decide +kernel
theorem dX2_allow_28 : decode cX2_allow 28 = .ok (.iload 4, 2) := by decide +kernel
theorem dX2_allow_30 : decode cX2_allow 30 = .ok (.invokevirtual 25, 3) := by decide +kernel
theorem dX2_allow_33 : decode cX2_allow 33 = .ok (.ifCond .eq 5, 3) := by decide +kernel
theorem dX2_allow_36 : decode cX2_allow 36 = .ok (.iconst 1, 1) := by decide +kernel
theorem dX2_allow_37 : decode cX2_allow 37 = .ok (.ireturn, 1) := by decide +kernel
theorem dX2_allow_38 : decode cX2_allow 38 = .ok (.iinc 5 1, 3) := by decide +kernel
theorem dX2_allow_41 : decode cX2_allow 41 = .ok (.goto (-38), 3) := by decide +kernel
theorem dX2_allow_44 : decode cX2_allow 44 = .ok (.iconst 0, 1) := by decide +kernel
theorem dX2_allow_45 : decode cX2_allow 45 = .ok (.ireturn, 1) := by decide +kernel
set_option maxRecDepth 20000 in
theorem ggX2_cover_X2_covers : GoodIn wsX2_cover wsX2_covers := goodIn_r _ [6, 7, 8, 9, 10, 11, 12] (by decide +kernel) (by decide +kernel)
set_option maxRecDepth 20000 in
theorem gX2_cover_X2_covers : GoodIn wsX2_cover (wsV RX2 25 RX2 yX2_covers wsX2_covers) := goodIn_app (goodIn_of _ (by decide +kernel)) ggX2_cover_X2_covers
theorem dX2_cover_0 : decode cX2_cover 0 = .ok (.iconst 0, 1) := by decide +kernel
theorem dX2_cover_1 : decode cX2_cover 1 = .ok (.istore 4, 2) := by decide +kernel
theorem dX2_cover_3 : decode cX2_cover 3 = .ok (.iload 4, 2) := by decide +kernel
theorem dX2_cover_5 : decode cX2_cover 5 = .ok (.aload_n 0, 1) := by decide +kernel
theorem dX2_cover_6 : decode cX2_cover 6 = .ok (.getfield 21, 3) := by decide +kernel
theorem dX2_cover_9 : decode cX2_cover 9 = .ok (.if_icmp .ge 23, 3) := by decide +kernel
theorem dX2_cover_12 : decode cX2_cover 12 = .ok (.aload_n 0, 1) := by decide +kernel
theorem dX2_cover_13 : decode cX2_cover 13 = .ok (.iload 4, 2) := by decide +kernel
theorem dX2_cover_15 : decode cX2_cover 15 = .ok (.iload_n 1, 1) := by decide +kernel
theorem dX2_cover_16 : decode cX2_cover 16 = .ok (.iload_n 2, 1) := by decide +kernel
theorem dX2_cover_17 : decode cX2_cover 17 = .ok (.iload_n 3, 1) := by decide +kernel
theorem dX2_cover_18 : decode cX2_cover 18 = .ok (.invokevirtual 25, 3) := by decide +kernel
theorem dX2_cover_21 : decode cX2_cover 21 = .ok (.ifCond .eq 5, 3) := by decide +kernel
theorem dX2_cover_24 : decode cX2_cover 24 = .ok (.iconst 1, 1) := by decide +kernel
theorem dX2_cover_25 : decode cX2_cover 25 = .ok (.ireturn, 1) := by decide +kernel
theorem dX2_cover_26 : decode cX2_cover 26 = .ok (.iinc 4 1, 3) := by decide +kernel
theorem dX2_cover_29 : decode cX2_cover 29 = .ok (.goto (-26), 3) := by decide +kernel
theorem dX2_cover_32 : decode cX2_cover 32 = .ok (.iconst 0, 1) := by decide +kernel
theorem dX2_cover_33 : decode cX2_cover 33 = .ok (.ireturn, 1) := by decide +kernel
theorem dX2_covers_0 : decode cX2_covers 0 = .ok (.aload_n 0, 1) := by decide +kernel
theorem dX2_covers_1 : decode cX2_covers 1 = .ok (.getfield 11, 3) := by decide +kernel
theorem dX2_covers_4 : decode cX2_covers 4 = .ok (.iload_n 1, 1) := by decide +kernel
theorem dX2_covers_5 : decode cX2_covers 5 = .ok (.iaload, 1) := by decide +kernel
theorem dX2_covers_6 : decode cX2_covers 6 = .ok (.iload_n 2, 1) := by decide +kernel
theorem dX2_covers_7 : decode cX2_covers 7 = .ok (.if_icmp .ne 26, 3) := by decide +kernel
theorem dX2_covers_10 : decode cX2_covers 10 = .ok (.iload_n 3, 1) := by decide +kernel
theorem dX2_covers_11 : decode cX2_covers 11 = .ok (.iload 4, 2) := by decide +kernel
theorem dX2_covers_13 : decode cX2_covers 13 = .ok (.if_icmp .gt 20, 3) := by decide +kernel
theorem dX2_covers_16 : decode cX2_covers 16 = .ok (.iload 4, 2) := by decide +kernel
theorem dX2_covers_18 : decode cX2_covers 18 = .ok (.iload_n 3, 1) := by decide +kernel
theorem dX2_covers_19 : decode cX2_covers 19 = .ok (.aload_n 0, 1) := by decide +kernel
theorem dX2_covers_20 : decode cX2_covers 20 = .ok (.getfield 18, 3) := by decide +kernel
theorem dX2_covers_23 : decode cX2_covers 23 = .ok (.iload_n 1, 1) := by decide +kernel
theorem dX2_covers_24 : decode cX2_covers 24 = .ok (.iaload, 1) := by decide +kernel
theorem dX2_covers_25 : decode cX2_covers 25 = .ok (.iadd, 1) := by decide +kernel
theorem dX2_covers_26 : decode cX2_covers 26 = .ok (.if_icmp .ge 7, 3) := by decide +kernel
theorem dX2_covers_29 : decode cX2_covers 29 = .ok (.iconst 1, 1) := by decide +kernel
theorem dX2_covers_30 : decode cX2_covers 30 = .ok (.goto 4, 3) := by decide +kernel
theorem dX2_covers_33 : decode cX2_covers 33 = .ok (.iconst 0, 1) := by decide +kernel
theorem dX2_covers_34 : decode cX2_covers 34 = .ok (.ireturn, 1) := by decide +kernel
theorem dX3_init_0 : decode cX3_init 0 = .ok (.aload_n 0, 1) := by decide +kernel
theorem dX3_init_1 : decode cX3_init 1 = .ok (.invokespecial 3, 3) := by decide +kernel
theorem dX3_init_4 : decode cX3_init 4 = .ok (.aload_n 0, 1) := by decide +kernel
theorem dX3_init_5 : decode cX3_init 5 = .ok (.bipush 60, 2) := by decide +kernel
theorem dX3_init_7 : decode cX3_init 7 = .ok (.newarray .int, 2) := by decide +kernel
theorem dX3_init_9 : decode cX3_init 9 = .ok (.putfield 11, 3) := by decide +kernel
theorem dX3_init_12 : decode cX3_init 12 = .ok (.aload_n 0, 1) := by decide +kernel
theorem dX3_init_13 : decode cX3_init 13 = .ok (.bipush 60, 2) := by decide +kernel
theorem dX3_init_15 : decode cX3_init 15 = .ok (.newarray .int, 2) := by decide +kernel
theorem dX3_init_17 : decode cX3_init 17 = .ok (.putfield 15, 3) := by decide +kernel
theorem dX3_init_20 : decode cX3_init 20 = .ok (.aload_n 0, 1) := by decide +kernel
theorem dX3_init_21 : decode cX3_init 21 = .ok (.bipush 60, 2) := by decide +kernel
theorem dX3_init_23 : decode cX3_init 23 = .ok (.newarray .int, 2) := by decide +kernel
theorem dX3_init_25 : decode cX3_init 25 = .ok (.putfield 18, 3) := by decide +kernel
theorem dX3_init_28 : decode cX3_init 28 = .ok (.return_, 1) := by decide +kernel
theorem dX3_add_0 : decode cX3_add 0 = .ok (.aload_n 0, 1) := by decide +kernel
theorem dX3_add_1 : decode cX3_add 1 = .ok (.getfield 21, 3) := by decide +kernel
theorem dX3_add_4 : decode cX3_add 4 = .ok (.bipush 60, 2) := by decide +kernel
theorem dX3_add_6 : decode cX3_add 6 = .ok (.if_icmp .lt 5, 3) := by decide +kernel
theorem dX3_add_9 : decode cX3_add 9 = .ok (.iconst (-1), 1) := by decide +kernel
theorem dX3_add_10 : decode cX3_add 10 = .ok (.ireturn, 1) := by decide +kernel
theorem dX3_add_11 : decode cX3_add 11 = .ok (.aload_n 0, 1) := by decide +kernel
theorem dX3_add_12 : decode cX3_add 12 = .ok (.getfield 11, 3) := by decide +kernel
theorem dX3_add_15 : decode cX3_add 15 = .ok (.aload_n 0, 1) := by decide +kernel
theorem dX3_add_16 : decode cX3_add 16 = .ok (.getfield 21, 3) := by decide +kernel
theorem dX3_add_19 : decode cX3_add 19 = .ok (.iload_n 1, 1) := by decide +kernel
theorem dX3_add_20 : decode cX3_add 20 = .ok (.iastore, 1) := by decide +kernel
theorem dX3_add_21 : decode cX3_add 21 = .ok (.aload_n 0, 1) := by decide +kernel
theorem dX3_add_22 : decode cX3_add 22 = .ok (.getfield 15, 3) := by decide +kernel
theorem dX3_add_25 : decode cX3_add 25 = .ok (.aload_n 0, 1) := by decide +kernel
theorem dX3_add_26 : decode cX3_add 26 = .ok (.getfield 21, 3) := by decide +kernel
theorem dX3_add_29 : decode cX3_add 29 = .ok (.iload_n 2, 1) := by decide +kernel
theorem dX3_add_30 : decode cX3_add 30 = .ok (.iastore, 1) := by decide +kernel
theorem dX3_add_31 : decode cX3_add 31 = .ok (.aload_n 0, 1) := by decide +kernel
theorem dX3_add_32 : decode cX3_add 32 = .ok (.getfield 18, 3) := by decide +kernel
theorem dX3_add_35 : decode cX3_add 35 = .ok (.aload_n 0, 1) := by decide +kernel
theorem dX3_add_36 : decode cX3_add 36 = .ok (.getfield 21, 3) := by decide +kernel
theorem dX3_add_39 : decode cX3_add 39 = .ok (.iload_n 3, 1) := by decide +kernel
theorem dX3_add_40 : decode cX3_add 40 = .ok (.iastore, 1) := by decide +kernel
theorem dX3_add_41 : decode cX3_add 41 = .ok (.aload_n 0, 1) := by decide +kernel
theorem dX3_add_42 : decode cX3_add 42 = .ok (.dup, 1) := by decide +kernel
theorem dX3_add_43 : decode cX3_add 43 = .ok (.getfield 21, 3) := by decide +kernel
theorem dX3_add_46 : decode cX3_add 46 = .ok (.iconst 1, 1) := by decide +kernel
theorem dX3_add_47 : decode cX3_add 47 = .ok (.iadd, 1) := by decide +kernel
theorem dX3_add_48 : decode cX3_add 48 = .ok (.putfield 21, 3) := by decide +kernel
theorem dX3_add_51 : decode cX3_add 51 = .ok (.aload_n 0, 1) := by decide +kernel
theorem dX3_add_52 : decode cX3_add 52 = .ok (.getfield 21, 3) := by decide +kernel
theorem dX3_add_55 : decode cX3_add 55 = .ok (.ireturn, 1) := by decide +kernel
set_option maxRecDepth 20000 in
theorem ggX3_latestDay_X9_isAmong : GoodIn wsX3_latestDay wsX9_isAmong := goodIn_r _ [11] (by decide +kernel) (by decide +kernel)
set_option maxRecDepth 20000 in
theorem gX3_latestDay_X9_isAmong_n25 : GoodIn wsX3_latestDay (wsX9_isAmong) := ggX3_latestDay_X9_isAmong
theorem dX3_latestDay_0 : decode cX3_latestDay 0 = .ok (.iconst (-1), 1) := by decide +kernel
theorem dX3_latestDay_1 : decode cX3_latestDay 1 = .ok (.istore_n 3, 1) := by decide +kernel
theorem dX3_latestDay_2 : decode cX3_latestDay 2 = .ok (.iconst 0, 1) := by decide +kernel
theorem dX3_latestDay_3 : decode cX3_latestDay 3 = .ok (.istore 4, 2) := by decide +kernel
theorem dX3_latestDay_5 : decode cX3_latestDay 5 = .ok (.iload 4, 2) := by decide +kernel
theorem dX3_latestDay_7 : decode cX3_latestDay 7 = .ok (.aload_n 0, 1) := by decide +kernel
theorem dX3_latestDay_8 : decode cX3_latestDay 8 = .ok (.getfield 21, 3) := by decide +kernel
theorem dX3_latestDay_11 : decode cX3_latestDay 11 = .ok (.if_icmp .ge 46, 3) := by decide +kernel
theorem dX3_latestDay_14 : decode cX3_latestDay 14 = .ok (.iload_n 1, 1) := by decide +kernel
theorem dX3_latestDay_15 : decode cX3_latestDay 15 = .ok (.aload_n 0, 1) := by decide +kernel
theorem dX3_latestDay_16 : decode cX3_latestDay 16 = .ok (.getfield 11, 3) := by decide +kernel
theorem dX3_latestDay_19 : decode cX3_latestDay 19 = .ok (.iload 4, 2) := by decide +kernel
theorem dX3_latestDay_21 : decode cX3_latestDay 21 = .ok (.iaload, 1) := by decide +kernel
theorem dX3_latestDay_22 : decode cX3_latestDay 22 = .ok (.invokestatic 25, 3) := by decide +kernel
theorem dX3_latestDay_25 : decode cX3_latestDay 25 = .ok (.ifCond .eq 26, 3) := by decide +kernel
theorem dX3_latestDay_28 : decode cX3_latestDay 28 = .ok (.aload_n 0, 1) := by decide +kernel
theorem dX3_latestDay_29 : decode cX3_latestDay 29 = .ok (.getfield 15, 3) := by decide +kernel
theorem dX3_latestDay_32 : decode cX3_latestDay 32 = .ok (.iload 4, 2) := by decide +kernel
theorem dX3_latestDay_34 : decode cX3_latestDay 34 = .ok (.iaload, 1) := by decide +kernel
theorem dX3_latestDay_35 : decode cX3_latestDay 35 = .ok (.iload_n 2, 1) := by decide +kernel
theorem dX3_latestDay_36 : decode cX3_latestDay 36 = .ok (.if_icmp .ne 15, 3) := by decide +kernel
theorem dX3_latestDay_39 : decode cX3_latestDay 39 = .ok (.iload_n 3, 1) := by decide +kernel
theorem dX3_latestDay_40 : decode cX3_latestDay 40 = .ok (.aload_n 0, 1) := by decide +kernel
theorem dX3_latestDay_41 : decode cX3_latestDay 41 = .ok (.getfield 18, 3) := by decide +kernel
theorem dX3_latestDay_44 : decode cX3_latestDay 44 = .ok (.iload 4, 2) := by decide +kernel
theorem dX3_latestDay_46 : decode cX3_latestDay 46 = .ok (.iaload, 1) := by decide +kernel
theorem dX3_latestDay_47 : decode cX3_latestDay 47 = .ok (.invokestatic 29, 3) := by decide +kernel
theorem dX3_latestDay_50 : decode cX3_latestDay 50 = .ok (.istore_n 3, 1) := by decide +kernel
theorem dX3_latestDay_51 : decode cX3_latestDay 51 = .ok (.iinc 4 1, 3) := by decide +kernel
theorem dX3_latestDay_54 : decode cX3_latestDay 54 = .ok (.goto (-49), 3) := by decide +kernel
theorem dX3_latestDay_57 : decode cX3_latestDay 57 = .ok (.iload_n 3, 1) := by decide +kernel
theorem dX3_latestDay_58 : decode cX3_latestDay 58 = .ok (.ireturn, 1) := by decide +kernel
theorem dX4_init_0 : decode cX4_init 0 = .ok (.aload_n 0, 1) := by decide +kernel
theorem dX4_init_1 : decode cX4_init 1 = .ok (.invokespecial 3, 3) := by decide +kernel
theorem dX4_init_4 : decode cX4_init 4 = .ok (.aload_n 0, 1) := by decide +kernel
theorem dX4_init_5 : decode cX4_init 5 = .ok (.bipush 30, 2) := by decide +kernel
theorem dX4_init_7 : decode cX4_init 7 = .ok (.newarray .int, 2) := by decide +kernel
theorem dX4_init_9 : decode cX4_init 9 = .ok (.putfield 11, 3) := by decide +kernel
theorem dX4_init_12 : decode cX4_init 12 = .ok (.aload_n 0, 1) := by decide +kernel
theorem dX4_init_13 : decode cX4_init 13 = .ok (.bipush 30, 2) := by decide +kernel
theorem dX4_init_15 : decode cX4_init 15 = .ok (.newarray .int, 2) := by decide +kernel
theorem dX4_init_17 : decode cX4_init 17 = .ok (.putfield 15, 3) := by decide +kernel
theorem dX4_init_20 : decode cX4_init 20 = .ok (.aload_n 0, 1) := by decide +kernel
theorem dX4_init_21 : decode cX4_init 21 = .ok (.bipush 30, 2) := by decide +kernel
theorem dX4_init_23 : decode cX4_init 23 = .ok (.newarray .int, 2) := by decide +kernel
theorem dX4_init_25 : decode cX4_init 25 = .ok (.putfield 18, 3) := by decide +kernel
theorem dX4_init_28 : decode cX4_init 28 = .ok (.aload_n 0, 1) := by decide +kernel
theorem dX4_init_29 : decode cX4_init 29 = .ok (.bipush 30, 2) := by decide +kernel
theorem dX4_init_31 : decode cX4_init 31 = .ok (.newarray .int, 2) := by decide +kernel
theorem dX4_init_33 : decode cX4_init 33 = .ok (.putfield 21, 3) := by decide +kernel
theorem dX4_init_36 : decode cX4_init 36 = .ok (.return_, 1) := by decide +kernel
theorem dX4_total_0 : decode cX4_total 0 = .ok (.aload_n 0, 1) := by decide +kernel
theorem dX4_total_1 : decode cX4_total 1 = .ok (.getfield 24, 3) := by decide +kernel
theorem dX4_total_4 : decode cX4_total 4 = .ok (.ireturn, 1) := by decide +kernel
theorem dX4_has_0 : decode cX4_has 0 = .ok (.iload_n 1, 1) := by decide +kernel
theorem dX4_has_1 : decode cX4_has 1 = .ok (.ifCond .lt 15, 3) := by decide +kernel
theorem dX4_has_4 : decode cX4_has 4 = .ok (.iload_n 1, 1) := by decide +kernel
theorem dX4_has_5 : decode cX4_has 5 = .ok (.aload_n 0, 1) := by decide +kernel
theorem dX4_has_6 : decode cX4_has 6 = .ok (.getfield 24, 3) := by decide +kernel
theorem dX4_has_9 : decode cX4_has 9 = .ok (.if_icmp .ge 7, 3) := by decide +kernel
theorem dX4_has_12 : decode cX4_has 12 = .ok (.iconst 1, 1) := by decide +kernel
theorem dX4_has_13 : decode cX4_has 13 = .ok (.goto 4, 3) := by decide +kernel
theorem dX4_has_16 : decode cX4_has 16 = .ok (.iconst 0, 1) := by decide +kernel
theorem dX4_has_17 : decode cX4_has 17 = .ok (.ireturn, 1) := by decide +kernel
theorem dX4_add_0 : decode cX4_add 0 = .ok (.aload_n 0, 1) := by decide +kernel
theorem dX4_add_1 : decode cX4_add 1 = .ok (.getfield 24, 3) := by decide +kernel
theorem dX4_add_4 : decode cX4_add 4 = .ok (.bipush 30, 2) := by decide +kernel
theorem dX4_add_6 : decode cX4_add 6 = .ok (.if_icmp .lt 5, 3) := by decide +kernel
theorem dX4_add_9 : decode cX4_add 9 = .ok (.iconst (-1), 1) := by decide +kernel
theorem dX4_add_10 : decode cX4_add 10 = .ok (.ireturn, 1) := by decide +kernel
theorem dX4_add_11 : decode cX4_add 11 = .ok (.aload_n 0, 1) := by decide +kernel
theorem dX4_add_12 : decode cX4_add 12 = .ok (.getfield 11, 3) := by decide +kernel
theorem dX4_add_15 : decode cX4_add 15 = .ok (.aload_n 0, 1) := by decide +kernel
theorem dX4_add_16 : decode cX4_add 16 = .ok (.getfield 24, 3) := by decide +kernel
theorem dX4_add_19 : decode cX4_add 19 = .ok (.iload_n 1, 1) := by decide +kernel
theorem dX4_add_20 : decode cX4_add 20 = .ok (.iastore, 1) := by decide +kernel
theorem dX4_add_21 : decode cX4_add 21 = .ok (.aload_n 0, 1) := by decide +kernel
theorem dX4_add_22 : decode cX4_add 22 = .ok (.getfield 15, 3) := by decide +kernel
theorem dX4_add_25 : decode cX4_add 25 = .ok (.aload_n 0, 1) := by decide +kernel
theorem dX4_add_26 : decode cX4_add 26 = .ok (.getfield 24, 3) := by decide +kernel
theorem dX4_add_29 : decode cX4_add 29 = .ok (.iload_n 2, 1) := by decide +kernel
theorem dX4_add_30 : decode cX4_add 30 = .ok (.iastore, 1) := by decide +kernel
theorem dX4_add_31 : decode cX4_add 31 = .ok (.aload_n 0, 1) := by decide +kernel
theorem dX4_add_32 : decode cX4_add 32 = .ok (.getfield 18, 3) := by decide +kernel
theorem dX4_add_35 : decode cX4_add 35 = .ok (.aload_n 0, 1) := by decide +kernel
theorem dX4_add_36 : decode cX4_add 36 = .ok (.getfield 24, 3) := by decide +kernel
theorem dX4_add_39 : decode cX4_add 39 = .ok (.iload_n 3, 1) := by decide +kernel
theorem dX4_add_40 : decode cX4_add 40 = .ok (.iastore, 1) := by decide +kernel
theorem dX4_add_41 : decode cX4_add 41 = .ok (.aload_n 0, 1) := by decide +kernel
theorem dX4_add_42 : decode cX4_add 42 = .ok (.getfield 21, 3) := by decide +kernel
theorem dX4_add_45 : decode cX4_add 45 = .ok (.aload_n 0, 1) := by decide +kernel
theorem dX4_add_46 : decode cX4_add 46 = .ok (.getfield 24, 3) := by decide +kernel
theorem dX4_add_49 : decode cX4_add 49 = .ok (.sipush 6945, 3) := by decide +kernel
theorem dX4_add_52 : decode cX4_add 52 = .ok (.iastore, 1) := by decide +kernel
theorem dX4_add_53 : decode cX4_add 53 = .ok (.aload_n 0, 1) := by decide +kernel
theorem dX4_add_54 : decode cX4_add 54 = .ok (.dup, 1) := by decide +kernel
theorem dX4_add_55 : decode cX4_add 55 = .ok (.getfield 24, 3) := by decide +kernel
theorem dX4_add_58 : decode cX4_add 58 = .ok (.iconst 1, 1) := by decide +kernel
theorem dX4_add_59 : decode cX4_add 59 = .ok (.iadd, 1) := by decide +kernel
theorem dX4_add_60 : decode cX4_add 60 = .ok (.putfield 24, 3) := by decide +kernel
theorem dX4_add_63 : decode cX4_add 63 = .ok (.aload_n 0, 1) := by decide +kernel
theorem dX4_add_64 : decode cX4_add 64 = .ok (.getfield 24, 3) := by decide +kernel
theorem dX4_add_67 : decode cX4_add 67 = .ok (.iconst 1, 1) := by decide +kernel
theorem dX4_add_68 : decode cX4_add 68 = .ok (.isub, 1) := by decide +kernel
theorem dX4_add_69 : decode cX4_add 69 = .ok (.ireturn, 1) := by decide +kernel
set_option maxRecDepth 20000 in
theorem ggX4_firstDayOf_X4_has : GoodIn wsX4_firstDayOf wsX4_has := goodIn_r _ [6, 7, 8, 9, 10, 11, 12] (by decide +kernel) (by decide +kernel)
set_option maxRecDepth 20000 in
theorem gX4_firstDayOf_X4_has : GoodIn wsX4_firstDayOf (wsV RX4 28 RX4 yX4_has wsX4_has) := goodIn_app (goodIn_of _ (by decide +kernel)) ggX4_firstDayOf_X4_has
theorem dX4_firstDayOf_0 : decode cX4_firstDayOf 0 = .ok (.aload_n 0, 1) := by decide +kernel
theorem dX4_firstDayOf_1 : decode cX4_firstDayOf 1 = .ok (.iload_n 1, 1) := by decide +kernel
theorem dX4_firstDayOf_2 : decode cX4_firstDayOf 2 = .ok (.invokevirtual 28, 3) := by decide +kernel
theorem dX4_firstDayOf_5 : decode cX4_firstDayOf 5 = .ok (.ifCond .eq 12, 3) := by decide +kernel
theorem dX4_firstDayOf_8 : decode cX4_firstDayOf 8 = .ok (.aload_n 0, 1) := by decide +kernel
theorem dX4_firstDayOf_9 : decode cX4_firstDayOf 9 = .ok (.getfield 18, 3) := by decide +kernel
theorem dX4_firstDayOf_12 : decode cX4_firstDayOf 12 = .ok (.iload_n 1, 1) := by decide +kernel
theorem dX4_firstDayOf_13 : decode cX4_firstDayOf 13 = .ok (.iaload, 1) := by decide +kernel
theorem dX4_firstDayOf_14 : decode cX4_firstDayOf 14 = .ok (.goto 6, 3) := by decide +kernel
theorem dX4_firstDayOf_17 : decode cX4_firstDayOf 17 = .ok (.sipush 6945, 3) := by decide +kernel
theorem dX4_firstDayOf_20 : decode cX4_firstDayOf 20 = .ok (.ireturn, 1) := by decide +kernel
set_option maxRecDepth 20000 in
theorem ggX4_isLifted_X4_has : GoodIn wsX4_isLifted wsX4_has := goodIn_r _ [6, 7, 8, 9, 10, 11, 12] (by decide +kernel) (by decide +kernel)
set_option maxRecDepth 20000 in
theorem gX4_isLifted_X4_has : GoodIn wsX4_isLifted (wsV RX4 28 RX4 yX4_has wsX4_has) := goodIn_app (goodIn_of _ (by decide +kernel)) ggX4_isLifted_X4_has
theorem dX4_isLifted_0 : decode cX4_isLifted 0 = .ok (.aload_n 0, 1) := by decide +kernel
theorem dX4_isLifted_1 : decode cX4_isLifted 1 = .ok (.iload_n 1, 1) := by decide +kernel
theorem dX4_isLifted_2 : decode cX4_isLifted 2 = .ok (.invokevirtual 28, 3) := by decide +kernel
theorem dX4_isLifted_5 : decode cX4_isLifted 5 = .ok (.ifCond .eq 19, 3) := by decide +kernel
theorem dX4_isLifted_8 : decode cX4_isLifted 8 = .ok (.aload_n 0, 1) := by decide +kernel
theorem dX4_isLifted_9 : decode cX4_isLifted 9 = .ok (.getfield 21, 3) := by decide +kernel
theorem dX4_isLifted_12 : decode cX4_isLifted 12 = .ok (.iload_n 1, 1) := by decide +kernel
theorem dX4_isLifted_13 : decode cX4_isLifted 13 = .ok (.iaload, 1) := by decide +kernel
theorem dX4_isLifted_14 : decode cX4_isLifted 14 = .ok (.sipush 6945, 3) := by decide +kernel
theorem dX4_isLifted_17 : decode cX4_isLifted 17 = .ok (.if_icmp .eq 7, 3) := by decide +kernel
theorem dX4_isLifted_20 : decode cX4_isLifted 20 = .ok (.iconst 1, 1) := by decide +kernel
theorem dX4_isLifted_21 : decode cX4_isLifted 21 = .ok (.goto 4, 3) := by decide +kernel
theorem dX4_isLifted_24 : decode cX4_isLifted 24 = .ok (.iconst 0, 1) := by decide +kernel
theorem dX4_isLifted_25 : decode cX4_isLifted 25 = .ok (.ireturn, 1) := by decide +kernel
set_option maxRecDepth 20000 in
theorem ggX4_endOn_X4_has : GoodIn wsX4_endOn wsX4_has := goodIn_r _ [6, 7, 8, 9, 10, 11, 12] (by decide +kernel) (by decide +kernel)
set_option maxRecDepth 20000 in
theorem gX4_endOn_X4_has : GoodIn wsX4_endOn (wsV RX4 28 RX4 yX4_has wsX4_has) := goodIn_app (goodIn_of _ (by decide +kernel)) ggX4_endOn_X4_has
theorem dX4_endOn_0 : decode cX4_endOn 0 = .ok (.aload_n 0, 1) := by decide +kernel
theorem dX4_endOn_1 : decode cX4_endOn 1 = .ok (.iload_n 1, 1) := by decide +kernel
theorem dX4_endOn_2 : decode cX4_endOn 2 = .ok (.invokevirtual 28, 3) := by decide +kernel
theorem dX4_endOn_5 : decode cX4_endOn 5 = .ok (.ifCond .eq 10, 3) := by decide +kernel
theorem dX4_endOn_8 : decode cX4_endOn 8 = .ok (.aload_n 0, 1) := by decide +kernel
theorem dX4_endOn_9 : decode cX4_endOn 9 = .ok (.getfield 21, 3) := by decide +kernel
theorem dX4_endOn_12 : decode cX4_endOn 12 = .ok (.iload_n 1, 1) := by decide +kernel
theorem dX4_endOn_13 : decode cX4_endOn 13 = .ok (.iload_n 2, 1) := by decide +kernel
theorem dX4_endOn_14 : decode cX4_endOn 14 = .ok (.iastore, 1) := by decide +kernel
theorem dX4_endOn_15 : decode cX4_endOn 15 = .ok (.return_, 1) := by decide +kernel
set_option maxRecDepth 20000 in
theorem ggX4_allow_X4_covers : GoodIn wsX4_allow wsX4_covers := goodIn_r _ [7, 8, 9, 10, 11, 6, 12, 13, 14, 15, 16, 17, 18, 19, 20, 21, 22, 23, 24, 25, 26, 27, 28] (by decide +kernel) (by decide +kernel)
set_option maxRecDepth 20000 in
theorem gX4_allow_X4_covers : GoodIn wsX4_allow (wsV RX4 32 RX4 yX4_covers wsX4_covers) := goodIn_app (goodIn_of _ (by decide +kernel)) ggX4_allow_X4_covers
theorem dX4_allow_0 : decode cX4_allow 0 = .ok (.iconst 0, 1) := by decide +kernel
theorem dX4_allow_1 : decode cX4_allow 1 = .ok (.istore 5, 2) := by decide +kernel
theorem dX4_allow_3 : decode cX4_allow 3 = .ok (.iload 5, 2) := by decide +kernel
theorem dX4_allow_5 : decode cX4_allow 5 = .ok (.aload_n 0, 1) := by decide +kernel
theorem dX4_allow_6 : decode cX4_allow 6 = .ok (.getfield 24, 3) := by decide +kernel
theorem dX4_allow_9 : decode cX4_allow 9 = .ok (.if_icmp .ge 35, 3) := by decide +kernel
theorem dX4_allow_12 : decode cX4_allow 12 = .ok (.aload_n 0, 1) := by decide +kernel
theorem dX4_allow_13 : decode cX4_allow 13 = .ok (.getfield 15, 3) := by decide +kernel
theorem dX4_allow_16 : decode cX4_allow 16 = .ok (.iload 5, 2) := by decide +kernel
theorem dX4_allow_18 : decode cX4_allow 18 = .ok (.iaload, 1) := by decide +kernel
theorem dX4_allow_19 : decode cX4_allow 19 = .ok (.iload_n 3, 1) := by decide +kernel
theorem dX4_allow_20 : decode cX4_allow 20 = .ok (.if_icmp .ne 18, 3) := by decide +kernel
theorem dX4_allow_23 : decode cX4_allow 23 = .ok (.aload_n 0, 1) := by decide +kernel
theorem dX4_allow_24 : decode cX4_allow 24 = .ok (.iload 5, 2) := by decide +kernel
theorem dX4_allow_26 : decode cX4_allow 26 = .ok (.iload_n 1, 1) := by decide +kernel
theorem dX4_allow_27 : decode cX4_allow 27 = .ok (.iload_n 2, 1) := by decide +kernel
theorem dX4_allow_28 : decode cX4_allow 28 = .ok (.iload 4, 2) := by decide +kernel
theorem dX4_allow_30 : decode cX4_allow 30 = .ok (.invokevirtual 32, 3) := by decide +kernel
theorem dX4_allow_33 : decode cX4_allow 33 = .ok (.ifCond .eq 5, 3) := by decide +kernel
theorem dX4_allow_36 : decode cX4_allow 36 = .ok (.iconst 1, 1) := by decide +kernel
theorem dX4_allow_37 : decode cX4_allow 37 = .ok (.ireturn, 1) := by decide +kernel
theorem dX4_allow_38 : decode cX4_allow 38 = .ok (.iinc 5 1, 3) := by decide +kernel
theorem dX4_allow_41 : decode cX4_allow 41 = .ok (.goto (-38), 3) := by decide +kernel
theorem dX4_allow_44 : decode cX4_allow 44 = .ok (.iconst 0, 1) := by decide +kernel
theorem dX4_allow_45 : decode cX4_allow 45 = .ok (.ireturn, 1) := by decide +kernel
set_option maxRecDepth 20000 in
theorem ggX4_cover_X4_covers : GoodIn wsX4_cover wsX4_covers := goodIn_r _ [6, 7, 8, 9, 10, 5, 11, 12, 13, 14, 15, 16, 17, 18, 19, 20, 21, 22, 23, 24, 25, 26, 27] (by decide +kernel) (by decide +kernel)
set_option maxRecDepth 20000 in
theorem gX4_cover_X4_covers : GoodIn wsX4_cover (wsV RX4 32 RX4 yX4_covers wsX4_covers) := goodIn_app (goodIn_of _ (by decide +kernel)) ggX4_cover_X4_covers
theorem dX4_cover_0 : decode cX4_cover 0 = .ok (.iconst 0, 1) := by decide +kernel
theorem dX4_cover_1 : decode cX4_cover 1 = .ok (.istore 4, 2) := by decide +kernel
theorem dX4_cover_3 : decode cX4_cover 3 = .ok (.iload 4, 2) := by decide +kernel
theorem dX4_cover_5 : decode cX4_cover 5 = .ok (.aload_n 0, 1) := by decide +kernel
theorem dX4_cover_6 : decode cX4_cover 6 = .ok (.getfield 24, 3) := by decide +kernel
theorem dX4_cover_9 : decode cX4_cover 9 = .ok (.if_icmp .ge 23, 3) := by decide +kernel
theorem dX4_cover_12 : decode cX4_cover 12 = .ok (.aload_n 0, 1) := by decide +kernel
theorem dX4_cover_13 : decode cX4_cover 13 = .ok (.iload 4, 2) := by decide +kernel
theorem dX4_cover_15 : decode cX4_cover 15 = .ok (.iload_n 1, 1) := by decide +kernel
theorem dX4_cover_16 : decode cX4_cover 16 = .ok (.iload_n 2, 1) := by decide +kernel
theorem dX4_cover_17 : decode cX4_cover 17 = .ok (.iload_n 3, 1) := by decide +kernel
theorem dX4_cover_18 : decode cX4_cover 18 = .ok (.invokevirtual 32, 3) := by decide +kernel
theorem dX4_cover_21 : decode cX4_cover 21 = .ok (.ifCond .eq 5, 3) := by decide +kernel
theorem dX4_cover_24 : decode cX4_cover 24 = .ok (.iconst 1, 1) := by decide +kernel
theorem dX4_cover_25 : decode cX4_cover 25 = .ok (.ireturn, 1) := by decide +kernel
theorem dX4_cover_26 : decode cX4_cover 26 = .ok (.iinc 4 1, 3) := by decide +kernel
theorem dX4_cover_29 : decode cX4_cover 29 = .ok (.goto (-26), 3) := by decide +kernel
theorem dX4_cover_32 : decode cX4_cover 32 = .ok (.iconst 0, 1) := by decide +kernel
theorem dX4_cover_33 : decode cX4_cover 33 = .ok (.ireturn, 1) := by decide +kernel
set_option maxRecDepth 20000 in
theorem ggX4_coverPersons_X4_isOfPersons : GoodIn wsX4_coverPersons wsX4_isOfPersons := goodIn_r _ [6, 7, 8, 9, 10, 11, 12, 19, 20, 21, 22, 23] (by decide +kernel) (by decide +kernel)
set_option maxRecDepth 20000 in
theorem gX4_coverPersons_X4_isOfPersons : GoodIn wsX4_coverPersons (wsV RX4 36 RX4 yX4_isOfPersons wsX4_isOfPersons) := goodIn_app (goodIn_of _ (by decide +kernel)) ggX4_coverPersons_X4_isOfPersons
set_option maxRecDepth 20000 in
theorem ggX4_coverPersons_X4_runsOn : GoodIn wsX4_coverPersons wsX4_runsOn := goodIn_r _ [16, 17, 18, 19, 20, 21, 22, 23] (by decide +kernel) (by decide +kernel)
set_option maxRecDepth 20000 in
theorem gX4_coverPersons_X4_runsOn : GoodIn wsX4_coverPersons (wsV RX4 40 RX4 yX4_runsOn wsX4_runsOn) := goodIn_app (goodIn_of _ (by decide +kernel)) ggX4_coverPersons_X4_runsOn
theorem dX4_coverPersons_0 : decode cX4_coverPersons 0 = .ok (.iconst 0, 1) := by decide +kernel
theorem dX4_coverPersons_1 : decode cX4_coverPersons 1 = .ok (.istore_n 3, 1) := by decide +kernel
theorem dX4_coverPersons_2 : decode cX4_coverPersons 2 = .ok (.iload_n 3, 1) := by decide +kernel
theorem dX4_coverPersons_3 : decode cX4_coverPersons 3 = .ok (.aload_n 0, 1) := by decide +kernel
theorem dX4_coverPersons_4 : decode cX4_coverPersons 4 = .ok (.getfield 24, 3) := by decide +kernel
theorem dX4_coverPersons_7 : decode cX4_coverPersons 7 = .ok (.if_icmp .ge 29, 3) := by decide +kernel
theorem dX4_coverPersons_10 : decode cX4_coverPersons 10 = .ok (.aload_n 0, 1) := by decide +kernel
theorem dX4_coverPersons_11 : decode cX4_coverPersons 11 = .ok (.iload_n 3, 1) := by decide +kernel
theorem dX4_coverPersons_12 : decode cX4_coverPersons 12 = .ok (.iload_n 1, 1) := by decide +kernel
theorem dX4_coverPersons_13 : decode cX4_coverPersons 13 = .ok (.invokevirtual 36, 3) := by decide +kernel
theorem dX4_coverPersons_16 : decode cX4_coverPersons 16 = .ok (.ifCond .eq 14, 3) := by decide +kernel
theorem dX4_coverPersons_19 : decode cX4_coverPersons 19 = .ok (.aload_n 0, 1) := by decide +kernel
theorem dX4_coverPersons_20 : decode cX4_coverPersons 20 = .ok (.iload_n 3, 1) := by decide +kernel
theorem dX4_coverPersons_21 : decode cX4_coverPersons 21 = .ok (.iload_n 2, 1) := by decide +kernel
theorem dX4_coverPersons_22 : decode cX4_coverPersons 22 = .ok (.invokevirtual 40, 3) := by decide +kernel
theorem dX4_coverPersons_25 : decode cX4_coverPersons 25 = .ok (.ifCond .eq 5, 3) := by decide +kernel
theorem dX4_coverPersons_28 : decode cX4_coverPersons 28 = .ok (.iconst 1, 1) := by decide +kernel
theorem dX4_coverPersons_29 : decode cX4_coverPersons 29 = .ok (.ireturn, 1) := by decide +kernel
theorem dX4_coverPersons_30 : decode cX4_coverPersons 30 = .ok (.iinc 3 1, 3) := by decide +kernel
theorem dX4_coverPersons_33 : decode cX4_coverPersons 33 = .ok (.goto (-31), 3) := by decide +kernel
theorem dX4_coverPersons_36 : decode cX4_coverPersons 36 = .ok (.iconst 0, 1) := by decide +kernel
theorem dX4_coverPersons_37 : decode cX4_coverPersons 37 = .ok (.ireturn, 1) := by decide +kernel
set_option maxRecDepth 20000 in
theorem ggX4_covers_X4_runsOn : GoodIn wsX4_covers wsX4_runsOn := goodIn_r _ [6, 7, 8, 18, 19, 20, 21, 22] (by decide +kernel) (by decide +kernel)
set_option maxRecDepth 20000 in
theorem gX4_covers_X4_runsOn : GoodIn wsX4_covers (wsV RX4 40 RX4 yX4_runsOn wsX4_runsOn) := goodIn_app (goodIn_of _ (by decide +kernel)) ggX4_covers_X4_runsOn
set_option maxRecDepth 20000 in
theorem ggX4_covers_X4_isOfPersons : GoodIn wsX4_covers wsX4_isOfPersons := goodIn_r _ [12, 1, 13, 14, 15, 16, 17, 18, 19, 20, 21, 22] (by decide +kernel) (by decide +kernel)
set_option maxRecDepth 20000 in
theorem gX4_covers_X4_isOfPersons : GoodIn wsX4_covers (wsV RX4 36 RX4 yX4_isOfPersons wsX4_isOfPersons) := goodIn_app (goodIn_of _ (by decide +kernel)) ggX4_covers_X4_isOfPersons
theorem dX4_covers_0 : decode cX4_covers 0 = .ok (.aload_n 0, 1) := by decide +kernel
theorem dX4_covers_1 : decode cX4_covers 1 = .ok (.iload_n 1, 1) := by decide +kernel
theorem dX4_covers_2 : decode cX4_covers 2 = .ok (.iload 4, 2) := by decide +kernel
theorem dX4_covers_4 : decode cX4_covers 4 = .ok (.invokevirtual 40, 3) := by decide +kernel
theorem dX4_covers_7 : decode cX4_covers 7 = .ok (.ifCond .eq 29, 3) := by decide +kernel
theorem dX4_covers_10 : decode cX4_covers 10 = .ok (.aload_n 0, 1) := by decide +kernel
theorem dX4_covers_11 : decode cX4_covers 11 = .ok (.iload_n 1, 1) := by decide +kernel
theorem dX4_covers_12 : decode cX4_covers 12 = .ok (.iload_n 2, 1) := by decide +kernel
theorem dX4_covers_13 : decode cX4_covers 13 = .ok (.invokevirtual 36, 3) := by decide +kernel
theorem dX4_covers_16 : decode cX4_covers 16 = .ok (.ifCond .ne 16, 3) := by decide +kernel
theorem dX4_covers_19 : decode cX4_covers 19 = .ok (.aload_n 0, 1) := by decide +kernel
theorem dX4_covers_20 : decode cX4_covers 20 = .ok (.getfield 11, 3) := by decide +kernel
theorem dX4_covers_23 : decode cX4_covers 23 = .ok (.iload_n 1, 1) := by decide +kernel
theorem dX4_covers_24 : decode cX4_covers 24 = .ok (.iaload, 1) := by decide +kernel
theorem dX4_covers_25 : decode cX4_covers 25 = .ok (.bipush 100, 2) := by decide +kernel
theorem dX4_covers_27 : decode cX4_covers 27 = .ok (.iload_n 3, 1) := by decide +kernel
theorem dX4_covers_28 : decode cX4_covers 28 = .ok (.iadd, 1) := by decide +kernel
theorem dX4_covers_29 : decode cX4_covers 29 = .ok (.if_icmp .ne 7, 3) := by decide +kernel
theorem dX4_covers_32 : decode cX4_covers 32 = .ok (.iconst 1, 1) := by decide +kernel
theorem dX4_covers_33 : decode cX4_covers 33 = .ok (.goto 4, 3) := by decide +kernel
theorem dX4_covers_36 : decode cX4_covers 36 = .ok (.iconst 0, 1) := by decide +kernel
theorem dX4_covers_37 : decode cX4_covers 37 = .ok (.ireturn, 1) := by decide +kernel
theorem dX4_runsOn_0 : decode cX4_runsOn 0 = .ok (.aload_n 0, 1) := by decide +kernel
theorem dX4_runsOn_1 : decode cX4_runsOn 1 = .ok (.getfield 18, 3) := by decide +kernel
theorem dX4_runsOn_4 : decode cX4_runsOn 4 = .ok (.iload_n 1, 1) := by decide +kernel
theorem dX4_runsOn_5 : decode cX4_runsOn 5 = .ok (.iaload, 1) := by decide +kernel
theorem dX4_runsOn_6 : decode cX4_runsOn 6 = .ok (.iload_n 2, 1) := by decide +kernel
theorem dX4_runsOn_7 : decode cX4_runsOn 7 = .ok (.if_icmp .gt 17, 3) := by decide +kernel
theorem dX4_runsOn_10 : decode cX4_runsOn 10 = .ok (.iload_n 2, 1) := by decide +kernel
theorem dX4_runsOn_11 : decode cX4_runsOn 11 = .ok (.aload_n 0, 1) := by decide +kernel
theorem dX4_runsOn_12 : decode cX4_runsOn 12 = .ok (.getfield 21, 3) := by decide +kernel
theorem dX4_runsOn_15 : decode cX4_runsOn 15 = .ok (.iload_n 1, 1) := by decide +kernel
theorem dX4_runsOn_16 : decode cX4_runsOn 16 = .ok (.iaload, 1) := by decide +kernel
theorem dX4_runsOn_17 : decode cX4_runsOn 17 = .ok (.if_icmp .ge 7, 3) := by decide +kernel
theorem dX4_runsOn_20 : decode cX4_runsOn 20 = .ok (.iconst 1, 1) := by decide +kernel
theorem dX4_runsOn_21 : decode cX4_runsOn 21 = .ok (.goto 4, 3) := by decide +kernel
theorem dX4_runsOn_24 : decode cX4_runsOn 24 = .ok (.iconst 0, 1) := by decide +kernel
theorem dX4_runsOn_25 : decode cX4_runsOn 25 = .ok (.ireturn, 1) := by decide +kernel
set_option maxRecDepth 20000 in
theorem ggX4_isOfPersons_X9_isPerson : GoodIn wsX4_isOfPersons wsX9_isPerson := goodIn_r _ [4] (by decide +kernel) (by decide +kernel)
set_option maxRecDepth 20000 in
theorem gX4_isOfPersons_X9_isPerson_n43 : GoodIn wsX4_isOfPersons (wsX9_isPerson) := ggX4_isOfPersons_X9_isPerson
set_option maxRecDepth 20000 in
theorem ggX4_isOfPersons_X9_isAmong : GoodIn wsX4_isOfPersons wsX9_isAmong := goodIn_r _ [6] (by decide +kernel) (by decide +kernel)
set_option maxRecDepth 20000 in
theorem gX4_isOfPersons_X9_isAmong_n46 : GoodIn wsX4_isOfPersons (wsX9_isAmong) := ggX4_isOfPersons_X9_isAmong
theorem dX4_isOfPersons_0 : decode cX4_isOfPersons 0 = .ok (.aload_n 0, 1) := by decide +kernel
theorem dX4_isOfPersons_1 : decode cX4_isOfPersons 1 = .ok (.getfield 11, 3) := by decide +kernel
theorem dX4_isOfPersons_4 : decode cX4_isOfPersons 4 = .ok (.iload_n 1, 1) := by decide +kernel
theorem dX4_isOfPersons_5 : decode cX4_isOfPersons 5 = .ok (.iaload, 1) := by decide +kernel
theorem dX4_isOfPersons_6 : decode cX4_isOfPersons 6 = .ok (.invokestatic 43, 3) := by decide +kernel
theorem dX4_isOfPersons_9 : decode cX4_isOfPersons 9 = .ok (.ifCond .eq 20, 3) := by decide +kernel
theorem dX4_isOfPersons_12 : decode cX4_isOfPersons 12 = .ok (.iload_n 2, 1) := by decide +kernel
theorem dX4_isOfPersons_13 : decode cX4_isOfPersons 13 = .ok (.aload_n 0, 1) := by decide +kernel
theorem dX4_isOfPersons_14 : decode cX4_isOfPersons 14 = .ok (.getfield 11, 3) := by decide +kernel
theorem dX4_isOfPersons_17 : decode cX4_isOfPersons 17 = .ok (.iload_n 1, 1) := by decide +kernel
theorem dX4_isOfPersons_18 : decode cX4_isOfPersons 18 = .ok (.iaload, 1) := by decide +kernel
theorem dX4_isOfPersons_19 : decode cX4_isOfPersons 19 = .ok (.invokestatic 46, 3) := by decide +kernel
theorem dX4_isOfPersons_22 : decode cX4_isOfPersons 22 = .ok (.ifCond .eq 7, 3) := by decide +kernel
theorem dX4_isOfPersons_25 : decode cX4_isOfPersons 25 = .ok (.iconst 1, 1) := by decide +kernel
theorem dX4_isOfPersons_26 : decode cX4_isOfPersons 26 = .ok (.goto 4, 3) := by decide +kernel
theorem dX4_isOfPersons_29 : decode cX4_isOfPersons 29 = .ok (.iconst 0, 1) := by decide +kernel
theorem dX4_isOfPersons_30 : decode cX4_isOfPersons 30 = .ok (.ireturn, 1) := by decide +kernel
theorem dX5_init_0 : decode cX5_init 0 = .ok (.aload_n 0, 1) := by decide +kernel
theorem dX5_init_1 : decode cX5_init 1 = .ok (.invokespecial 3, 3) := by decide +kernel
theorem dX5_init_4 : decode cX5_init 4 = .ok (.aload_n 0, 1) := by decide +kernel
theorem dX5_init_5 : decode cX5_init 5 = .ok (.bipush 100, 2) := by decide +kernel
theorem dX5_init_7 : decode cX5_init 7 = .ok (.newarray .int, 2) := by decide +kernel
theorem dX5_init_9 : decode cX5_init 9 = .ok (.putfield 11, 3) := by decide +kernel
theorem dX5_init_12 : decode cX5_init 12 = .ok (.aload_n 0, 1) := by decide +kernel
theorem dX5_init_13 : decode cX5_init 13 = .ok (.bipush 100, 2) := by decide +kernel
theorem dX5_init_15 : decode cX5_init 15 = .ok (.newarray .int, 2) := by decide +kernel
theorem dX5_init_17 : decode cX5_init 17 = .ok (.putfield 15, 3) := by decide +kernel
theorem dX5_init_20 : decode cX5_init 20 = .ok (.aload_n 0, 1) := by decide +kernel
theorem dX5_init_21 : decode cX5_init 21 = .ok (.bipush 100, 2) := by decide +kernel
theorem dX5_init_23 : decode cX5_init 23 = .ok (.newarray .int, 2) := by decide +kernel
theorem dX5_init_25 : decode cX5_init 25 = .ok (.putfield 18, 3) := by decide +kernel
theorem dX5_init_28 : decode cX5_init 28 = .ok (.aload_n 0, 1) := by decide +kernel
theorem dX5_init_29 : decode cX5_init 29 = .ok (.bipush 100, 2) := by decide +kernel
theorem dX5_init_31 : decode cX5_init 31 = .ok (.newarray .int, 2) := by decide +kernel
theorem dX5_init_33 : decode cX5_init 33 = .ok (.putfield 21, 3) := by decide +kernel
theorem dX5_init_36 : decode cX5_init 36 = .ok (.aload_n 0, 1) := by decide +kernel
theorem dX5_init_37 : decode cX5_init 37 = .ok (.bipush 100, 2) := by decide +kernel
theorem dX5_init_39 : decode cX5_init 39 = .ok (.newarray .int, 2) := by decide +kernel
theorem dX5_init_41 : decode cX5_init 41 = .ok (.putfield 24, 3) := by decide +kernel
theorem dX5_init_44 : decode cX5_init 44 = .ok (.aload_n 0, 1) := by decide +kernel
theorem dX5_init_45 : decode cX5_init 45 = .ok (.bipush 100, 2) := by decide +kernel
theorem dX5_init_47 : decode cX5_init 47 = .ok (.newarray .int, 2) := by decide +kernel
theorem dX5_init_49 : decode cX5_init 49 = .ok (.putfield 27, 3) := by decide +kernel
theorem dX5_init_52 : decode cX5_init 52 = .ok (.aload_n 0, 1) := by decide +kernel
theorem dX5_init_53 : decode cX5_init 53 = .ok (.bipush 100, 2) := by decide +kernel
theorem dX5_init_55 : decode cX5_init 55 = .ok (.newarray .long, 2) := by decide +kernel
theorem dX5_init_57 : decode cX5_init 57 = .ok (.putfield 30, 3) := by decide +kernel
theorem dX5_init_60 : decode cX5_init 60 = .ok (.aload_n 0, 1) := by decide +kernel
theorem dX5_init_61 : decode cX5_init 61 = .ok (.bipush 100, 2) := by decide +kernel
theorem dX5_init_63 : decode cX5_init 63 = .ok (.newarray .boolean, 2) := by decide +kernel
theorem dX5_init_65 : decode cX5_init 65 = .ok (.putfield 34, 3) := by decide +kernel
theorem dX5_init_68 : decode cX5_init 68 = .ok (.aload_n 0, 1) := by decide +kernel
theorem dX5_init_69 : decode cX5_init 69 = .ok (.bipush 100, 2) := by decide +kernel
theorem dX5_init_71 : decode cX5_init 71 = .ok (.newarray .boolean, 2) := by decide +kernel
theorem dX5_init_73 : decode cX5_init 73 = .ok (.putfield 38, 3) := by decide +kernel
theorem dX5_init_76 : decode cX5_init 76 = .ok (.return_, 1) := by decide +kernel
theorem dX5_total_0 : decode cX5_total 0 = .ok (.aload_n 0, 1) := by decide +kernel
theorem dX5_total_1 : decode cX5_total 1 = .ok (.getfield 41, 3) := by decide +kernel
theorem dX5_total_4 : decode cX5_total 4 = .ok (.ireturn, 1) := by decide +kernel
theorem dX5_living_0 : decode cX5_living 0 = .ok (.aload_n 0, 1) := by decide +kernel
theorem dX5_living_1 : decode cX5_living 1 = .ok (.getfield 45, 3) := by decide +kernel
theorem dX5_living_4 : decode cX5_living 4 = .ok (.ireturn, 1) := by decide +kernel
theorem dX5_has_0 : decode cX5_has 0 = .ok (.iload_n 1, 1) := by decide +kernel
theorem dX5_has_1 : decode cX5_has 1 = .ok (.ifCond .lt 15, 3) := by decide +kernel
theorem dX5_has_4 : decode cX5_has 4 = .ok (.iload_n 1, 1) := by decide +kernel
theorem dX5_has_5 : decode cX5_has 5 = .ok (.aload_n 0, 1) := by decide +kernel
theorem dX5_has_6 : decode cX5_has 6 = .ok (.getfield 41, 3) := by decide +kernel
theorem dX5_has_9 : decode cX5_has 9 = .ok (.if_icmp .ge 7, 3) := by decide +kernel
theorem dX5_has_12 : decode cX5_has 12 = .ok (.iconst 1, 1) := by decide +kernel
theorem dX5_has_13 : decode cX5_has 13 = .ok (.goto 4, 3) := by decide +kernel
theorem dX5_has_16 : decode cX5_has 16 = .ok (.iconst 0, 1) := by decide +kernel
theorem dX5_has_17 : decode cX5_has 17 = .ok (.ireturn, 1) := by decide +kernel
set_option maxRecDepth 20000 in
theorem ggX5_lives_X5_has : GoodIn wsX5_lives wsX5_has := goodIn_r _ [6, 7, 8, 9, 10, 11, 12, 13, 14, 15, 16, 17, 18] (by decide +kernel) (by decide +kernel)
set_option maxRecDepth 20000 in
theorem gX5_lives_X5_has : GoodIn wsX5_lives (wsV RX5 48 RX5 yX5_has wsX5_has) := goodIn_app (goodIn_of _ (by decide +kernel)) ggX5_lives_X5_has
theorem dX5_lives_0 : decode cX5_lives 0 = .ok (.aload_n 0, 1) := by decide +kernel
theorem dX5_lives_1 : decode cX5_lives 1 = .ok (.iload_n 1, 1) := by decide +kernel
theorem dX5_lives_2 : decode cX5_lives 2 = .ok (.invokevirtual 48, 3) := by decide +kernel
theorem dX5_lives_5 : decode cX5_lives 5 = .ok (.ifCond .eq 16, 3) := by decide +kernel
theorem dX5_lives_8 : decode cX5_lives 8 = .ok (.aload_n 0, 1) := by decide +kernel
theorem dX5_lives_9 : decode cX5_lives 9 = .ok (.getfield 34, 3) := by decide +kernel
theorem dX5_lives_12 : decode cX5_lives 12 = .ok (.iload_n 1, 1) := by decide +kernel
theorem dX5_lives_13 : decode cX5_lives 13 = .ok (.baload, 1) := by decide +kernel
theorem dX5_lives_14 : decode cX5_lives 14 = .ok (.ifCond .eq 7, 3) := by decide +kernel
theorem dX5_lives_17 : decode cX5_lives 17 = .ok (.iconst 1, 1) := by decide +kernel
theorem dX5_lives_18 : decode cX5_lives 18 = .ok (.goto 4, 3) := by decide +kernel
theorem dX5_lives_21 : decode cX5_lives 21 = .ok (.iconst 0, 1) := by decide +kernel
theorem dX5_lives_22 : decode cX5_lives 22 = .ok (.ireturn, 1) := by decide +kernel
set_option maxRecDepth 20000 in
theorem ggX5_isPut_X5_has : GoodIn wsX5_isPut wsX5_has := goodIn_r _ [6, 7, 8, 9, 10, 11, 12, 13, 14, 15, 16, 17, 18] (by decide +kernel) (by decide +kernel)
set_option maxRecDepth 20000 in
theorem gX5_isPut_X5_has : GoodIn wsX5_isPut (wsV RX5 48 RX5 yX5_has wsX5_has) := goodIn_app (goodIn_of _ (by decide +kernel)) ggX5_isPut_X5_has
theorem dX5_isPut_0 : decode cX5_isPut 0 = .ok (.aload_n 0, 1) := by decide +kernel
theorem dX5_isPut_1 : decode cX5_isPut 1 = .ok (.iload_n 1, 1) := by decide +kernel
theorem dX5_isPut_2 : decode cX5_isPut 2 = .ok (.invokevirtual 48, 3) := by decide +kernel
theorem dX5_isPut_5 : decode cX5_isPut 5 = .ok (.ifCond .eq 17, 3) := by decide +kernel
theorem dX5_isPut_8 : decode cX5_isPut 8 = .ok (.aload_n 0, 1) := by decide +kernel
theorem dX5_isPut_9 : decode cX5_isPut 9 = .ok (.getfield 21, 3) := by decide +kernel
theorem dX5_isPut_12 : decode cX5_isPut 12 = .ok (.iload_n 1, 1) := by decide +kernel
theorem dX5_isPut_13 : decode cX5_isPut 13 = .ok (.iaload, 1) := by decide +kernel
theorem dX5_isPut_14 : decode cX5_isPut 14 = .ok (.iconst (-1), 1) := by decide +kernel
theorem dX5_isPut_15 : decode cX5_isPut 15 = .ok (.if_icmp .ne 7, 3) := by decide +kernel
theorem dX5_isPut_18 : decode cX5_isPut 18 = .ok (.iconst 1, 1) := by decide +kernel
theorem dX5_isPut_19 : decode cX5_isPut 19 = .ok (.goto 4, 3) := by decide +kernel
theorem dX5_isPut_22 : decode cX5_isPut 22 = .ok (.iconst 0, 1) := by decide +kernel
theorem dX5_isPut_23 : decode cX5_isPut 23 = .ok (.ireturn, 1) := by decide +kernel
set_option maxRecDepth 20000 in
theorem ggX5_isAbout_X5_has : GoodIn wsX5_isAbout wsX5_has := goodIn_r _ [6, 7, 11, 12, 13, 14, 15, 16, 17, 18, 19, 20, 21] (by decide +kernel) (by decide +kernel)
set_option maxRecDepth 20000 in
theorem gX5_isAbout_X5_has : GoodIn wsX5_isAbout (wsV RX5 48 RX5 yX5_has wsX5_has) := goodIn_app (goodIn_of _ (by decide +kernel)) ggX5_isAbout_X5_has
set_option maxRecDepth 20000 in
theorem ggX5_isAbout_X9_isAmong : GoodIn wsX5_isAbout wsX9_isAmong := goodIn_r _ [10] (by decide +kernel) (by decide +kernel)
set_option maxRecDepth 20000 in
theorem gX5_isAbout_X9_isAmong_n52 : GoodIn wsX5_isAbout (wsX9_isAmong) := ggX5_isAbout_X9_isAmong
theorem dX5_isAbout_0 : decode cX5_isAbout 0 = .ok (.aload_n 0, 1) := by decide +kernel
theorem dX5_isAbout_1 : decode cX5_isAbout 1 = .ok (.iload_n 1, 1) := by decide +kernel
theorem dX5_isAbout_2 : decode cX5_isAbout 2 = .ok (.invokevirtual 48, 3) := by decide +kernel
theorem dX5_isAbout_5 : decode cX5_isAbout 5 = .ok (.ifCond .eq 20, 3) := by decide +kernel
theorem dX5_isAbout_8 : decode cX5_isAbout 8 = .ok (.aload_n 0, 1) := by decide +kernel
theorem dX5_isAbout_9 : decode cX5_isAbout 9 = .ok (.getfield 18, 3) := by decide +kernel
theorem dX5_isAbout_12 : decode cX5_isAbout 12 = .ok (.iload_n 1, 1) := by decide +kernel
theorem dX5_isAbout_13 : decode cX5_isAbout 13 = .ok (.iaload, 1) := by decide +kernel
theorem dX5_isAbout_14 : decode cX5_isAbout 14 = .ok (.iload_n 2, 1) := by decide +kernel
theorem dX5_isAbout_15 : decode cX5_isAbout 15 = .ok (.invokestatic 52, 3) := by decide +kernel
theorem dX5_isAbout_18 : decode cX5_isAbout 18 = .ok (.ifCond .eq 7, 3) := by decide +kernel
theorem dX5_isAbout_21 : decode cX5_isAbout 21 = .ok (.iconst 1, 1) := by decide +kernel
theorem dX5_isAbout_22 : decode cX5_isAbout 22 = .ok (.goto 4, 3) := by decide +kernel
theorem dX5_isAbout_25 : decode cX5_isAbout 25 = .ok (.iconst 0, 1) := by decide +kernel
theorem dX5_isAbout_26 : decode cX5_isAbout 26 = .ok (.ireturn, 1) := by decide +kernel
set_option maxRecDepth 20000 in
theorem ggX5_isKept_X5_has : GoodIn wsX5_isKept wsX5_has := goodIn_r _ [6, 7, 8, 9, 10, 11, 12, 13, 14, 15, 16, 17, 18] (by decide +kernel) (by decide +kernel)
set_option maxRecDepth 20000 in
theorem gX5_isKept_X5_has : GoodIn wsX5_isKept (wsV RX5 48 RX5 yX5_has wsX5_has) := goodIn_app (goodIn_of _ (by decide +kernel)) ggX5_isKept_X5_has
theorem dX5_isKept_0 : decode cX5_isKept 0 = .ok (.aload_n 0, 1) := by decide +kernel
theorem dX5_isKept_1 : decode cX5_isKept 1 = .ok (.iload_n 1, 1) := by decide +kernel
theorem dX5_isKept_2 : decode cX5_isKept 2 = .ok (.invokevirtual 48, 3) := by decide +kernel
theorem dX5_isKept_5 : decode cX5_isKept 5 = .ok (.ifCond .eq 16, 3) := by decide +kernel
theorem dX5_isKept_8 : decode cX5_isKept 8 = .ok (.aload_n 0, 1) := by decide +kernel
theorem dX5_isKept_9 : decode cX5_isKept 9 = .ok (.getfield 38, 3) := by decide +kernel
theorem dX5_isKept_12 : decode cX5_isKept 12 = .ok (.iload_n 1, 1) := by decide +kernel
theorem dX5_isKept_13 : decode cX5_isKept 13 = .ok (.baload, 1) := by decide +kernel
theorem dX5_isKept_14 : decode cX5_isKept 14 = .ok (.ifCond .eq 7, 3) := by decide +kernel
theorem dX5_isKept_17 : decode cX5_isKept 17 = .ok (.iconst 1, 1) := by decide +kernel
theorem dX5_isKept_18 : decode cX5_isKept 18 = .ok (.goto 4, 3) := by decide +kernel
theorem dX5_isKept_21 : decode cX5_isKept 21 = .ok (.iconst 0, 1) := by decide +kernel
theorem dX5_isKept_22 : decode cX5_isKept 22 = .ok (.ireturn, 1) := by decide +kernel
set_option maxRecDepth 20000 in
theorem ggX5_kindOf_X5_lives : GoodIn wsX5_kindOf wsX5_lives := goodIn_r _ [6, 7, 8, 9, 10, 5, 11, 12, 13, 14, 15, 16, 17, 18, 19, 20, 21, 22, 23] (by decide +kernel) (by decide +kernel)
set_option maxRecDepth 20000 in
theorem gX5_kindOf_X5_lives : GoodIn wsX5_kindOf (wsV RX5 56 RX5 yX5_lives wsX5_lives) := goodIn_app (goodIn_of _ (by decide +kernel)) ggX5_kindOf_X5_lives
theorem dX5_kindOf_0 : decode cX5_kindOf 0 = .ok (.aload_n 0, 1) := by decide +kernel
theorem dX5_kindOf_1 : decode cX5_kindOf 1 = .ok (.iload_n 1, 1) := by decide +kernel
theorem dX5_kindOf_2 : decode cX5_kindOf 2 = .ok (.invokevirtual 56, 3) := by decide +kernel
theorem dX5_kindOf_5 : decode cX5_kindOf 5 = .ok (.ifCond .eq 12, 3) := by decide +kernel
theorem dX5_kindOf_8 : decode cX5_kindOf 8 = .ok (.aload_n 0, 1) := by decide +kernel
theorem dX5_kindOf_9 : decode cX5_kindOf 9 = .ok (.getfield 11, 3) := by decide +kernel
theorem dX5_kindOf_12 : decode cX5_kindOf 12 = .ok (.iload_n 1, 1) := by decide +kernel
theorem dX5_kindOf_13 : decode cX5_kindOf 13 = .ok (.iaload, 1) := by decide +kernel
theorem dX5_kindOf_14 : decode cX5_kindOf 14 = .ok (.goto 4, 3) := by decide +kernel
theorem dX5_kindOf_17 : decode cX5_kindOf 17 = .ok (.iconst (-1), 1) := by decide +kernel
theorem dX5_kindOf_18 : decode cX5_kindOf 18 = .ok (.ireturn, 1) := by decide +kernel
set_option maxRecDepth 20000 in
theorem ggX5_dayOf_X5_lives : GoodIn wsX5_dayOf wsX5_lives := goodIn_r _ [6, 7, 8, 9, 10, 5, 11, 12, 13, 14, 15, 16, 17, 18, 19, 20, 21, 22, 23] (by decide +kernel) (by decide +kernel)
set_option maxRecDepth 20000 in
theorem gX5_dayOf_X5_lives : GoodIn wsX5_dayOf (wsV RX5 56 RX5 yX5_lives wsX5_lives) := goodIn_app (goodIn_of _ (by decide +kernel)) ggX5_dayOf_X5_lives
theorem dX5_dayOf_0 : decode cX5_dayOf 0 = .ok (.aload_n 0, 1) := by decide +kernel
theorem dX5_dayOf_1 : decode cX5_dayOf 1 = .ok (.iload_n 1, 1) := by decide +kernel
theorem dX5_dayOf_2 : decode cX5_dayOf 2 = .ok (.invokevirtual 56, 3) := by decide +kernel
theorem dX5_dayOf_5 : decode cX5_dayOf 5 = .ok (.ifCond .eq 12, 3) := by decide +kernel
theorem dX5_dayOf_8 : decode cX5_dayOf 8 = .ok (.aload_n 0, 1) := by decide +kernel
theorem dX5_dayOf_9 : decode cX5_dayOf 9 = .ok (.getfield 15, 3) := by decide +kernel
theorem dX5_dayOf_12 : decode cX5_dayOf 12 = .ok (.iload_n 1, 1) := by decide +kernel
theorem dX5_dayOf_13 : decode cX5_dayOf 13 = .ok (.iaload, 1) := by decide +kernel
theorem dX5_dayOf_14 : decode cX5_dayOf 14 = .ok (.goto 4, 3) := by decide +kernel
theorem dX5_dayOf_17 : decode cX5_dayOf 17 = .ok (.iconst (-1), 1) := by decide +kernel
theorem dX5_dayOf_18 : decode cX5_dayOf 18 = .ok (.ireturn, 1) := by decide +kernel
set_option maxRecDepth 20000 in
theorem ggX5_personsOf_X5_lives : GoodIn wsX5_personsOf wsX5_lives := goodIn_r _ [6, 7, 8, 9, 10, 5, 11, 12, 13, 14, 15, 16, 17, 18, 19, 20, 21, 22, 23] (by decide +kernel) (by decide +kernel)
set_option maxRecDepth 20000 in
theorem gX5_personsOf_X5_lives : GoodIn wsX5_personsOf (wsV RX5 56 RX5 yX5_lives wsX5_lives) := goodIn_app (goodIn_of _ (by decide +kernel)) ggX5_personsOf_X5_lives
theorem dX5_personsOf_0 : decode cX5_personsOf 0 = .ok (.aload_n 0, 1) := by decide +kernel
theorem dX5_personsOf_1 : decode cX5_personsOf 1 = .ok (.iload_n 1, 1) := by decide +kernel
theorem dX5_personsOf_2 : decode cX5_personsOf 2 = .ok (.invokevirtual 56, 3) := by decide +kernel
theorem dX5_personsOf_5 : decode cX5_personsOf 5 = .ok (.ifCond .eq 12, 3) := by decide +kernel
theorem dX5_personsOf_8 : decode cX5_personsOf 8 = .ok (.aload_n 0, 1) := by decide +kernel
theorem dX5_personsOf_9 : decode cX5_personsOf 9 = .ok (.getfield 18, 3) := by decide +kernel
theorem dX5_personsOf_12 : decode cX5_personsOf 12 = .ok (.iload_n 1, 1) := by decide +kernel
theorem dX5_personsOf_13 : decode cX5_personsOf 13 = .ok (.iaload, 1) := by decide +kernel
theorem dX5_personsOf_14 : decode cX5_personsOf 14 = .ok (.goto 4, 3) := by decide +kernel
theorem dX5_personsOf_17 : decode cX5_personsOf 17 = .ok (.iconst 0, 1) := by decide +kernel
theorem dX5_personsOf_18 : decode cX5_personsOf 18 = .ok (.ireturn, 1) := by decide +kernel
set_option maxRecDepth 20000 in
theorem ggX5_valueOf_X5_lives : GoodIn wsX5_valueOf wsX5_lives := goodIn_r _ [6, 7, 8, 9, 10, 5, 11, 12, 13, 14, 15, 16, 17, 18, 19, 20, 21, 22, 23] (by decide +kernel) (by decide +kernel)
set_option maxRecDepth 20000 in
theorem gX5_valueOf_X5_lives : GoodIn wsX5_valueOf (wsV RX5 56 RX5 yX5_lives wsX5_lives) := goodIn_app (goodIn_of _ (by decide +kernel)) ggX5_valueOf_X5_lives
theorem dX5_valueOf_0 : decode cX5_valueOf 0 = .ok (.aload_n 0, 1) := by decide +kernel
theorem dX5_valueOf_1 : decode cX5_valueOf 1 = .ok (.iload_n 1, 1) := by decide +kernel
theorem dX5_valueOf_2 : decode cX5_valueOf 2 = .ok (.invokevirtual 56, 3) := by decide +kernel
theorem dX5_valueOf_5 : decode cX5_valueOf 5 = .ok (.ifCond .eq 12, 3) := by decide +kernel
theorem dX5_valueOf_8 : decode cX5_valueOf 8 = .ok (.aload_n 0, 1) := by decide +kernel
theorem dX5_valueOf_9 : decode cX5_valueOf 9 = .ok (.getfield 30, 3) := by decide +kernel
theorem dX5_valueOf_12 : decode cX5_valueOf 12 = .ok (.iload_n 1, 1) := by decide +kernel
theorem dX5_valueOf_13 : decode cX5_valueOf 13 = .ok (.laload, 1) := by decide +kernel
theorem dX5_valueOf_14 : decode cX5_valueOf 14 = .ok (.goto 4, 3) := by decide +kernel
theorem dX5_valueOf_17 : decode cX5_valueOf 17 = .ok (.lconst 0, 1) := by decide +kernel
theorem dX5_valueOf_18 : decode cX5_valueOf 18 = .ok (.lreturn, 1) := by decide +kernel
set_option maxRecDepth 20000 in
theorem ggX5_addPut_X5_begin : GoodIn wsX5_addPut wsX5_begin := goodIn_r _ [7, 8, 9, 10, 11, 12, 13, 18, 19, 20, 21, 22, 23, 24, 25, 26, 27, 28] (by decide +kernel) (by decide +kernel)
set_option maxRecDepth 20000 in
theorem gX5_addPut_X5_begin : GoodIn wsX5_addPut (wsV RX5 59 RX5 yX5_begin wsX5_begin) := goodIn_app (goodIn_of _ (by decide +kernel)) ggX5_addPut_X5_begin
set_option maxRecDepth 20000 in
theorem ggX5_addPut_X5_has : GoodIn wsX5_addPut wsX5_has := goodIn_r _ [17, 8, 18, 19, 20, 21, 22, 23, 24, 25, 26, 27, 28] (by decide +kernel) (by decide +kernel)
set_option maxRecDepth 20000 in
theorem gX5_addPut_X5_has : GoodIn wsX5_addPut (wsV RX5 48 RX5 yX5_has wsX5_has) := goodIn_app (goodIn_of _ (by decide +kernel)) ggX5_addPut_X5_has
theorem dX5_addPut_0 : decode cX5_addPut 0 = .ok (.aload_n 0, 1) := by decide +kernel
theorem dX5_addPut_1 : decode cX5_addPut 1 = .ok (.iload_n 2, 1) := by decide +kernel
theorem dX5_addPut_2 : decode cX5_addPut 2 = .ok (.iload 4, 2) := by decide +kernel
theorem dX5_addPut_4 : decode cX5_addPut 4 = .ok (.iconst 1, 1) := by decide +kernel
theorem dX5_addPut_5 : decode cX5_addPut 5 = .ok (.iload_n 1, 1) := by decide +kernel
theorem dX5_addPut_6 : decode cX5_addPut 6 = .ok (.ishl, 1) := by decide +kernel
theorem dX5_addPut_7 : decode cX5_addPut 7 = .ok (.invokevirtual 59, 3) := by decide +kernel
theorem dX5_addPut_10 : decode cX5_addPut 10 = .ok (.istore 5, 2) := by decide +kernel
theorem dX5_addPut_12 : decode cX5_addPut 12 = .ok (.aload_n 0, 1) := by decide +kernel
theorem dX5_addPut_13 : decode cX5_addPut 13 = .ok (.iload 5, 2) := by decide +kernel
theorem dX5_addPut_15 : decode cX5_addPut 15 = .ok (.invokevirtual 48, 3) := by decide +kernel
theorem dX5_addPut_18 : decode cX5_addPut 18 = .ok (.ifCond .eq 20, 3) := by decide +kernel
theorem dX5_addPut_21 : decode cX5_addPut 21 = .ok (.aload_n 0, 1) := by decide +kernel
theorem dX5_addPut_22 : decode cX5_addPut 22 = .ok (.getfield 21, 3) := by decide +kernel
theorem dX5_addPut_25 : decode cX5_addPut 25 = .ok (.iload 5, 2) := by decide +kernel
theorem dX5_addPut_27 : decode cX5_addPut 27 = .ok (.iconst (-1), 1) := by decide +kernel
theorem dX5_addPut_28 : decode cX5_addPut 28 = .ok (.iastore, 1) := by decide +kernel
theorem dX5_addPut_29 : decode cX5_addPut 29 = .ok (.aload_n 0, 1) := by decide +kernel
theorem dX5_addPut_30 : decode cX5_addPut 30 = .ok (.getfield 30, 3) := by decide +kernel
theorem dX5_addPut_33 : decode cX5_addPut 33 = .ok (.iload 5, 2) := by decide +kernel
theorem dX5_addPut_35 : decode cX5_addPut 35 = .ok (.iload_n 3, 1) := by decide +kernel
theorem dX5_addPut_36 : decode cX5_addPut 36 = .ok (.i2l, 1) := by decide +kernel
theorem dX5_addPut_37 : decode cX5_addPut 37 = .ok (.lastore, 1) := by decide +kernel
theorem dX5_addPut_38 : decode cX5_addPut 38 = .ok (.iload 5, 2) := by decide +kernel
theorem dX5_addPut_40 : decode cX5_addPut 40 = .ok (.ireturn, 1) := by decide +kernel
set_option maxRecDepth 20000 in
theorem ggX5_addDerived_X5_kindOf : GoodIn wsX5_addDerived wsX5_kindOf := goodIn_r _ [13, 14, 15, 16, 17, 12, 18, 19, 20, 21, 22, 23, 24, 48, 49, 50, 51, 52, 53, 54, 55, 56, 57, 58] (by decide +kernel) (by decide +kernel)
set_option maxRecDepth 20000 in
theorem gX5_addDerived_X5_kindOf : GoodIn wsX5_addDerived (wsV RX5 63 RX5 yX5_kindOf wsX5_kindOf) := goodIn_app (goodIn_of _ (by decide +kernel)) ggX5_addDerived_X5_kindOf
set_option maxRecDepth 20000 in
theorem ggX5_addDerived_X5_dayOf : GoodIn wsX5_addDerived wsX5_dayOf := goodIn_r _ [28, 29, 15, 16, 17, 12, 18, 19, 20, 21, 22, 23, 24, 48, 49, 50, 51, 52, 53, 54, 55, 56, 57, 58] (by decide +kernel) (by decide +kernel)
set_option maxRecDepth 20000 in
theorem gX5_addDerived_X5_dayOf : GoodIn wsX5_addDerived (wsV RX5 67 RX5 yX5_dayOf wsX5_dayOf) := goodIn_app (goodIn_of _ (by decide +kernel)) ggX5_addDerived_X5_dayOf
set_option maxRecDepth 20000 in
theorem ggX5_addDerived_X5_personsOf : GoodIn wsX5_addDerived wsX5_personsOf := goodIn_r _ [33, 34, 15, 16, 17, 12, 18, 19, 20, 21, 22, 23, 24, 48, 49, 50, 51, 52, 53, 54, 55, 56, 57, 58] (by decide +kernel) (by decide +kernel)
set_option maxRecDepth 20000 in
theorem gX5_addDerived_X5_personsOf : GoodIn wsX5_addDerived (wsV RX5 76 RX5 yX5_personsOf wsX5_personsOf) := goodIn_app (goodIn_of _ (by decide +kernel)) ggX5_addDerived_X5_personsOf
set_option maxRecDepth 20000 in
theorem ggX5_addDerived_X5_begin : GoodIn wsX5_addDerived wsX5_begin := goodIn_r _ [38, 24, 14, 29, 34, 19, 39, 48, 49, 50, 51, 52, 53, 54, 55, 56, 57, 58] (by decide +kernel) (by decide +kernel)
set_option maxRecDepth 20000 in
theorem gX5_addDerived_X5_begin : GoodIn wsX5_addDerived (wsV RX5 59 RX5 yX5_begin wsX5_begin) := goodIn_app (goodIn_of _ (by decide +kernel)) ggX5_addDerived_X5_begin
set_option maxRecDepth 20000 in
theorem ggX5_addDerived_X5_has : GoodIn wsX5_addDerived wsX5_has := goodIn_r _ [23, 24, 48, 49, 50, 51, 52, 53, 54, 55, 56, 57, 58] (by decide +kernel) (by decide +kernel)
set_option maxRecDepth 20000 in
theorem gX5_addDerived_X5_has : GoodIn wsX5_addDerived (wsV RX5 48 RX5 yX5_has wsX5_has) := goodIn_app (goodIn_of _ (by decide +kernel)) ggX5_addDerived_X5_has
set_option maxRecDepth 20000 in
theorem ggX5_addDerived_X5_derivedValue : GoodIn wsX5_addDerived wsX5_derivedValue := goodIn_r _ [43, 6, 7, 5, 44, 45, 46, 12, 47, 8, 15, 16, 17, 18, 19, 20, 21, 22, 23, 24, 48, 49, 50, 51, 52, 53, 54, 55, 56, 57, 58] (by decide +kernel) (by decide +kernel)
set_option maxRecDepth 20000 in
theorem gX5_addDerived_X5_derivedValue : GoodIn wsX5_addDerived (wsV RX5 79 RX5 yX5_derivedValue wsX5_derivedValue) := goodIn_app (goodIn_of _ (by decide +kernel)) ggX5_addDerived_X5_derivedValue
theorem dX5_addDerived_0 : decode cX5_addDerived 0 = .ok (.aload_n 0, 1) := by decide +kernel
theorem dX5_addDerived_1 : decode cX5_addDerived 1 = .ok (.aload_n 0, 1) := by decide +kernel
theorem dX5_addDerived_2 : decode cX5_addDerived 2 = .ok (.iload_n 2, 1) := by decide +kernel
theorem dX5_addDerived_3 : decode cX5_addDerived 3 = .ok (.invokevirtual 63, 3) := by decide +kernel
theorem dX5_addDerived_6 : decode cX5_addDerived 6 = .ok (.aload_n 0, 1) := by decide +kernel
theorem dX5_addDerived_7 : decode cX5_addDerived 7 = .ok (.iload_n 2, 1) := by decide +kernel
theorem dX5_addDerived_8 : decode cX5_addDerived 8 = .ok (.invokevirtual 67, 3) := by decide +kernel
theorem dX5_addDerived_11 : decode cX5_addDerived 11 = .ok (.aload_n 0, 1) := by decide +kernel
theorem dX5_addDerived_12 : decode cX5_addDerived 12 = .ok (.iload_n 3, 1) := by decide +kernel
theorem dX5_addDerived_13 : decode cX5_addDerived 13 = .ok (.invokevirtual 67, 3) := by decide +kernel
theorem dX5_addDerived_16 : decode cX5_addDerived 16 = .ok (.invokestatic 70, 3) := by decide +kernel
theorem dX5_addDerived_19 : decode cX5_addDerived 19 = .ok (.aload_n 0, 1) := by decide +kernel
theorem dX5_addDerived_20 : decode cX5_addDerived 20 = .ok (.iload_n 2, 1) := by decide +kernel
theorem dX5_addDerived_21 : decode cX5_addDerived 21 = .ok (.invokevirtual 76, 3) := by decide +kernel
theorem dX5_addDerived_24 : decode cX5_addDerived 24 = .ok (.aload_n 0, 1) := by decide +kernel
theorem dX5_addDerived_25 : decode cX5_addDerived 25 = .ok (.iload_n 3, 1) := by decide +kernel
theorem dX5_addDerived_26 : decode cX5_addDerived 26 = .ok (.invokevirtual 76, 3) := by decide +kernel
theorem dX5_addDerived_29 : decode cX5_addDerived 29 = .ok (.ior, 1) := by decide +kernel
theorem dX5_addDerived_30 : decode cX5_addDerived 30 = .ok (.invokevirtual 59, 3) := by decide +kernel
theorem dX5_addDerived_33 : decode cX5_addDerived 33 = .ok (.istore 4, 2) := by decide +kernel
theorem dX5_addDerived_35 : decode cX5_addDerived 35 = .ok (.aload_n 0, 1) := by decide +kernel
theorem dX5_addDerived_36 : decode cX5_addDerived 36 = .ok (.iload 4, 2) := by decide +kernel
theorem dX5_addDerived_38 : decode cX5_addDerived 38 = .ok (.invokevirtual 48, 3) := by decide +kernel
theorem dX5_addDerived_41 : decode cX5_addDerived 41 = .ok (.ifCond .eq 40, 3) := by decide +kernel
theorem dX5_addDerived_44 : decode cX5_addDerived 44 = .ok (.aload_n 0, 1) := by decide +kernel
theorem dX5_addDerived_45 : decode cX5_addDerived 45 = .ok (.getfield 21, 3) := by decide +kernel
theorem dX5_addDerived_48 : decode cX5_addDerived 48 = .ok (.iload 4, 2) := by decide +kernel
theorem dX5_addDerived_50 : decode cX5_addDerived 50 = .ok (.iload_n 1, 1) := by decide +kernel
theorem dX5_addDerived_51 : decode cX5_addDerived 51 = .ok (.iastore, 1) := by decide +kernel
theorem dX5_addDerived_52 : decode cX5_addDerived 52 = .ok (.aload_n 0, 1) := by decide +kernel
theorem dX5_addDerived_53 : decode cX5_addDerived 53 = .ok (.getfield 24, 3) := by decide +kernel
theorem dX5_addDerived_56 : decode cX5_addDerived 56 = .ok (.iload 4, 2) := by decide +kernel
theorem dX5_addDerived_58 : decode cX5_addDerived 58 = .ok (.iload_n 2, 1) := by decide +kernel
theorem dX5_addDerived_59 : decode cX5_addDerived 59 = .ok (.iastore, 1) := by decide +kernel
theorem dX5_addDerived_60 : decode cX5_addDerived 60 = .ok (.aload_n 0, 1) := by decide +kernel
theorem dX5_addDerived_61 : decode cX5_addDerived 61 = .ok (.getfield 27, 3) := by decide +kernel
theorem dX5_addDerived_64 : decode cX5_addDerived 64 = .ok (.iload 4, 2) := by decide +kernel
theorem dX5_addDerived_66 : decode cX5_addDerived 66 = .ok (.iload_n 3, 1) := by decide +kernel
theorem dX5_addDerived_67 : decode cX5_addDerived 67 = .ok (.iastore, 1) := by decide +kernel
theorem dX5_addDerived_68 : decode cX5_addDerived 68 = .ok (.aload_n 0, 1) := by decide +kernel
theorem dX5_addDerived_69 : decode cX5_addDerived 69 = .ok (.getfield 30, 3) := by decide +kernel
theorem dX5_addDerived_72 : decode cX5_addDerived 72 = .ok (.iload 4, 2) := by decide +kernel
theorem dX5_addDerived_74 : decode cX5_addDerived 74 = .ok (.aload_n 0, 1) := by decide +kernel
theorem dX5_addDerived_75 : decode cX5_addDerived 75 = .ok (.iload 4, 2) := by decide +kernel
theorem dX5_addDerived_77 : decode cX5_addDerived 77 = .ok (.invokevirtual 79, 3) := by decide +kernel
theorem dX5_addDerived_80 : decode cX5_addDerived 80 = .ok (.lastore, 1) := by decide +kernel
theorem dX5_addDerived_81 : decode cX5_addDerived 81 = .ok (.iload 4, 2) := by decide +kernel
theorem dX5_addDerived_83 : decode cX5_addDerived 83 = .ok (.ireturn, 1) := by decide +kernel
theorem dX5_begin_0 : decode cX5_begin 0 = .ok (.aload_n 0, 1) := by decide +kernel
theorem dX5_begin_1 : decode cX5_begin 1 = .ok (.getfield 41, 3) := by decide +kernel
theorem dX5_begin_4 : decode cX5_begin 4 = .ok (.bipush 100, 2) := by decide +kernel
theorem dX5_begin_6 : decode cX5_begin 6 = .ok (.if_icmp .lt 5, 3) := by decide +kernel
theorem dX5_begin_9 : decode cX5_begin 9 = .ok (.iconst (-1), 1) := by decide +kernel
theorem dX5_begin_10 : decode cX5_begin 10 = .ok (.ireturn, 1) := by decide +kernel
theorem dX5_begin_11 : decode cX5_begin 11 = .ok (.aload_n 0, 1) := by decide +kernel
theorem dX5_begin_12 : decode cX5_begin 12 = .ok (.getfield 11, 3) := by decide +kernel
theorem dX5_begin_15 : decode cX5_begin 15 = .ok (.aload_n 0, 1) := by decide +kernel
theorem dX5_begin_16 : decode cX5_begin 16 = .ok (.getfield 41, 3) := by decide +kernel
theorem dX5_begin_19 : decode cX5_begin 19 = .ok (.iload_n 1, 1) := by decide +kernel
theorem dX5_begin_20 : decode cX5_begin 20 = .ok (.iastore, 1) := by decide +kernel
theorem dX5_begin_21 : decode cX5_begin 21 = .ok (.aload_n 0, 1) := by decide +kernel
theorem dX5_begin_22 : decode cX5_begin 22 = .ok (.getfield 15, 3) := by decide +kernel
theorem dX5_begin_25 : decode cX5_begin 25 = .ok (.aload_n 0, 1) := by decide +kernel
theorem dX5_begin_26 : decode cX5_begin 26 = .ok (.getfield 41, 3) := by decide +kernel
theorem dX5_begin_29 : decode cX5_begin 29 = .ok (.iload_n 2, 1) := by decide +kernel
theorem dX5_begin_30 : decode cX5_begin 30 = .ok (.iastore, 1) := by decide +kernel
theorem dX5_begin_31 : decode cX5_begin 31 = .ok (.aload_n 0, 1) := by decide +kernel
theorem dX5_begin_32 : decode cX5_begin 32 = .ok (.getfield 18, 3) := by decide +kernel
theorem dX5_begin_35 : decode cX5_begin 35 = .ok (.aload_n 0, 1) := by decide +kernel
theorem dX5_begin_36 : decode cX5_begin 36 = .ok (.getfield 41, 3) := by decide +kernel
theorem dX5_begin_39 : decode cX5_begin 39 = .ok (.iload_n 3, 1) := by decide +kernel
theorem dX5_begin_40 : decode cX5_begin 40 = .ok (.iastore, 1) := by decide +kernel
theorem dX5_begin_41 : decode cX5_begin 41 = .ok (.aload_n 0, 1) := by decide +kernel
theorem dX5_begin_42 : decode cX5_begin 42 = .ok (.getfield 34, 3) := by decide +kernel
theorem dX5_begin_45 : decode cX5_begin 45 = .ok (.aload_n 0, 1) := by decide +kernel
theorem dX5_begin_46 : decode cX5_begin 46 = .ok (.getfield 41, 3) := by decide +kernel
theorem dX5_begin_49 : decode cX5_begin 49 = .ok (.iconst 1, 1) := by decide +kernel
theorem dX5_begin_50 : decode cX5_begin 50 = .ok (.bastore, 1) := by decide +kernel
theorem dX5_begin_51 : decode cX5_begin 51 = .ok (.aload_n 0, 1) := by decide +kernel
theorem dX5_begin_52 : decode cX5_begin 52 = .ok (.dup, 1) := by decide +kernel
theorem dX5_begin_53 : decode cX5_begin 53 = .ok (.getfield 45, 3) := by decide +kernel
theorem dX5_begin_56 : decode cX5_begin 56 = .ok (.iconst 1, 1) := by decide +kernel
theorem dX5_begin_57 : decode cX5_begin 57 = .ok (.iadd, 1) := by decide +kernel
theorem dX5_begin_58 : decode cX5_begin 58 = .ok (.putfield 45, 3) := by decide +kernel
theorem dX5_begin_61 : decode cX5_begin 61 = .ok (.aload_n 0, 1) := by decide +kernel
theorem dX5_begin_62 : decode cX5_begin 62 = .ok (.dup, 1) := by decide +kernel
theorem dX5_begin_63 : decode cX5_begin 63 = .ok (.getfield 41, 3) := by decide +kernel
theorem dX5_begin_66 : decode cX5_begin 66 = .ok (.iconst 1, 1) := by decide +kernel
theorem dX5_begin_67 : decode cX5_begin 67 = .ok (.iadd, 1) := by decide +kernel
theorem dX5_begin_68 : decode cX5_begin 68 = .ok (.putfield 41, 3) := by decide +kernel
theorem dX5_begin_71 : decode cX5_begin 71 = .ok (.aload_n 0, 1) := by decide +kernel
theorem dX5_begin_72 : decode cX5_begin 72 = .ok (.getfield 41, 3) := by decide +kernel
theorem dX5_begin_75 : decode cX5_begin 75 = .ok (.iconst 1, 1) := by decide +kernel
theorem dX5_begin_76 : decode cX5_begin 76 = .ok (.isub, 1) := by decide +kernel
theorem dX5_begin_77 : decode cX5_begin 77 = .ok (.ireturn, 1) := by decide +kernel
set_option maxRecDepth 20000 in
theorem ggX5_derivedValue_X5_valueOf : GoodIn wsX5_derivedValue wsX5_valueOf := goodIn_r _ [8, 9, 10, 11, 12, 7, 13, 14, 15, 16, 17, 18, 19, 20, 21, 22, 23, 24, 25, 26, 27, 28, 29, 30] (by decide +kernel) (by decide +kernel)
set_option maxRecDepth 20000 in
theorem gX5_derivedValue_X5_valueOf : GoodIn wsX5_derivedValue (wsV RX5 83 RX5 yX5_valueOf wsX5_valueOf) := goodIn_app (goodIn_of _ (by decide +kernel)) ggX5_derivedValue_X5_valueOf
theorem dX5_derivedValue_0 : decode cX5_derivedValue 0 = .ok (.aload_n 0, 1) := by decide +kernel
theorem dX5_derivedValue_1 : decode cX5_derivedValue 1 = .ok (.aload_n 0, 1) := by decide +kernel
theorem dX5_derivedValue_2 : decode cX5_derivedValue 2 = .ok (.getfield 24, 3) := by decide +kernel
theorem dX5_derivedValue_5 : decode cX5_derivedValue 5 = .ok (.iload_n 1, 1) := by decide +kernel
theorem dX5_derivedValue_6 : decode cX5_derivedValue 6 = .ok (.iaload, 1) := by decide +kernel
theorem dX5_derivedValue_7 : decode cX5_derivedValue 7 = .ok (.invokevirtual 83, 3) := by decide +kernel
theorem dX5_derivedValue_10 : decode cX5_derivedValue 10 = .ok (.lstore_n 2, 1) := by decide +kernel
theorem dX5_derivedValue_11 : decode cX5_derivedValue 11 = .ok (.aload_n 0, 1) := by decide +kernel
theorem dX5_derivedValue_12 : decode cX5_derivedValue 12 = .ok (.aload_n 0, 1) := by decide +kernel
theorem dX5_derivedValue_13 : decode cX5_derivedValue 13 = .ok (.getfield 27, 3) := by decide +kernel
theorem dX5_derivedValue_16 : decode cX5_derivedValue 16 = .ok (.iload_n 1, 1) := by decide +kernel
theorem dX5_derivedValue_17 : decode cX5_derivedValue 17 = .ok (.iaload, 1) := by decide +kernel
theorem dX5_derivedValue_18 : decode cX5_derivedValue 18 = .ok (.invokevirtual 83, 3) := by decide +kernel
theorem dX5_derivedValue_21 : decode cX5_derivedValue 21 = .ok (.lstore 4, 2) := by decide +kernel
theorem dX5_derivedValue_23 : decode cX5_derivedValue 23 = .ok (.aload_n 0, 1) := by decide +kernel
theorem dX5_derivedValue_24 : decode cX5_derivedValue 24 = .ok (.getfield 21, 3) := by decide +kernel
theorem dX5_derivedValue_27 : decode cX5_derivedValue 27 = .ok (.iload_n 1, 1) := by decide +kernel
theorem dX5_derivedValue_28 : decode cX5_derivedValue 28 = .ok (.iaload, 1) := by decide +kernel
theorem dX5_derivedValue_29 : decode cX5_derivedValue 29 = .ok (.lookupswitch 45 #[(1, 27), (2, 32)], 27) := by decide +kernel
theorem dX5_derivedValue_56 : decode cX5_derivedValue 56 = .ok (.lload_n 2, 1) := by decide +kernel
theorem dX5_derivedValue_57 : decode cX5_derivedValue 57 = .ok (.lload 4, 2) := by decide +kernel
theorem dX5_derivedValue_59 : decode cX5_derivedValue 59 = .ok (.ladd, 1) := by decide +kernel
theorem dX5_derivedValue_60 : decode cX5_derivedValue 60 = .ok (.lreturn, 1) := by decide +kernel
theorem dX5_derivedValue_61 : decode cX5_derivedValue 61 = .ok (.lload_n 2, 1) := by decide +kernel
theorem dX5_derivedValue_62 : decode cX5_derivedValue 62 = .ok (.lload 4, 2) := by decide +kernel
theorem dX5_derivedValue_64 : decode cX5_derivedValue 64 = .ok (.lcmp, 1) := by decide +kernel
theorem dX5_derivedValue_65 : decode cX5_derivedValue 65 = .ok (.ifCond .le 7, 3) := by decide +kernel
theorem dX5_derivedValue_68 : decode cX5_derivedValue 68 = .ok (.lconst 1, 1) := by decide +kernel
theorem dX5_derivedValue_69 : decode cX5_derivedValue 69 = .ok (.goto 4, 3) := by decide +kernel
theorem dX5_derivedValue_72 : decode cX5_derivedValue 72 = .ok (.lconst 0, 1) := by decide +kernel
theorem dX5_derivedValue_73 : decode cX5_derivedValue 73 = .ok (.lreturn, 1) := by decide +kernel
theorem dX5_derivedValue_74 : decode cX5_derivedValue 74 = .ok (.lload_n 2, 1) := by decide +kernel
theorem dX5_derivedValue_75 : decode cX5_derivedValue 75 = .ok (.lreturn, 1) := by decide +kernel
theorem dX5_derivedFrom_0 : decode cX5_derivedFrom 0 = .ok (.iconst 0, 1) := by decide +kernel
theorem dX5_derivedFrom_1 : decode cX5_derivedFrom 1 = .ok (.istore_n 2, 1) := by decide +kernel
theorem dX5_derivedFrom_2 : decode cX5_derivedFrom 2 = .ok (.iconst 0, 1) := by decide +kernel
theorem dX5_derivedFrom_3 : decode cX5_derivedFrom 3 = .ok (.istore_n 3, 1) := by decide +kernel
theorem dX5_derivedFrom_4 : decode cX5_derivedFrom 4 = .ok (.iload_n 3, 1) := by decide +kernel
theorem dX5_derivedFrom_5 : decode cX5_derivedFrom 5 = .ok (.aload_n 0, 1) := by decide +kernel
theorem dX5_derivedFrom_6 : decode cX5_derivedFrom 6 = .ok (.getfield 41, 3) := by decide +kernel
theorem dX5_derivedFrom_9 : decode cX5_derivedFrom 9 = .ok (.if_icmp .ge 51, 3) := by decide +kernel
theorem dX5_derivedFrom_12 : decode cX5_derivedFrom 12 = .ok (.aload_n 0, 1) := by decide +kernel
theorem dX5_derivedFrom_13 : decode cX5_derivedFrom 13 = .ok (.getfield 34, 3) := by decide +kernel
theorem dX5_derivedFrom_16 : decode cX5_derivedFrom 16 = .ok (.iload_n 3, 1) := by decide +kernel
theorem dX5_derivedFrom_17 : decode cX5_derivedFrom 17 = .ok (.baload, 1) := by decide +kernel
theorem dX5_derivedFrom_18 : decode cX5_derivedFrom 18 = .ok (.ifCond .eq 36, 3) := by decide +kernel
theorem dX5_derivedFrom_21 : decode cX5_derivedFrom 21 = .ok (.aload_n 0, 1) := by decide +kernel
theorem dX5_derivedFrom_22 : decode cX5_derivedFrom 22 = .ok (.getfield 21, 3) := by decide +kernel
theorem dX5_derivedFrom_25 : decode cX5_derivedFrom 25 = .ok (.iload_n 3, 1) := by decide +kernel
theorem dX5_derivedFrom_26 : decode cX5_derivedFrom 26 = .ok (.iaload, 1) := by decide +kernel
theorem dX5_derivedFrom_27 : decode cX5_derivedFrom 27 = .ok (.iconst (-1), 1) := by decide +kernel
theorem dX5_derivedFrom_28 : decode cX5_derivedFrom 28 = .ok (.if_icmp .eq 26, 3) := by decide +kernel
theorem dX5_derivedFrom_31 : decode cX5_derivedFrom 31 = .ok (.aload_n 0, 1) := by decide +kernel
theorem dX5_derivedFrom_32 : decode cX5_derivedFrom 32 = .ok (.getfield 24, 3) := by decide +kernel
theorem dX5_derivedFrom_35 : decode cX5_derivedFrom 35 = .ok (.iload_n 3, 1) := by decide +kernel
theorem dX5_derivedFrom_36 : decode cX5_derivedFrom 36 = .ok (.iaload, 1) := by decide +kernel
theorem dX5_derivedFrom_37 : decode cX5_derivedFrom 37 = .ok (.iload_n 1, 1) := by decide +kernel
theorem dX5_derivedFrom_38 : decode cX5_derivedFrom 38 = .ok (.if_icmp .eq 13, 3) := by decide +kernel
theorem dX5_derivedFrom_41 : decode cX5_derivedFrom 41 = .ok (.aload_n 0, 1) := by decide +kernel
theorem dX5_derivedFrom_42 : decode cX5_derivedFrom 42 = .ok (.getfield 27, 3) := by decide +kernel
theorem dX5_derivedFrom_45 : decode cX5_derivedFrom 45 = .ok (.iload_n 3, 1) := by decide +kernel
theorem dX5_derivedFrom_46 : decode cX5_derivedFrom 46 = .ok (.iaload, 1) := by decide +kernel
theorem dX5_derivedFrom_47 : decode cX5_derivedFrom 47 = .ok (.iload_n 1, 1) := by decide +kernel
theorem dX5_derivedFrom_48 : decode cX5_derivedFrom 48 = .ok (.if_icmp .ne 6, 3) := by decide +kernel
theorem dX5_derivedFrom_51 : decode cX5_derivedFrom 51 = .ok (.iinc 2 1, 3) := by decide +kernel
theorem dX5_derivedFrom_54 : decode cX5_derivedFrom 54 = .ok (.iinc 3 1, 3) := by decide +kernel
theorem dX5_derivedFrom_57 : decode cX5_derivedFrom 57 = .ok (.goto (-53), 3) := by decide +kernel
theorem dX5_derivedFrom_60 : decode cX5_derivedFrom 60 = .ok (.iload_n 2, 1) := by decide +kernel
theorem dX5_derivedFrom_61 : decode cX5_derivedFrom 61 = .ok (.ireturn, 1) := by decide +kernel
theorem dX5_unmarkAll_0 : decode cX5_unmarkAll 0 = .ok (.iconst 0, 1) := by decide +kernel
theorem dX5_unmarkAll_1 : decode cX5_unmarkAll 1 = .ok (.istore_n 1, 1) := by decide +kernel
theorem dX5_unmarkAll_2 : decode cX5_unmarkAll 2 = .ok (.iload_n 1, 1) := by decide +kernel
theorem dX5_unmarkAll_3 : decode cX5_unmarkAll 3 = .ok (.aload_n 0, 1) := by decide +kernel
theorem dX5_unmarkAll_4 : decode cX5_unmarkAll 4 = .ok (.getfield 41, 3) := by decide +kernel
theorem dX5_unmarkAll_7 : decode cX5_unmarkAll 7 = .ok (.if_icmp .ge 16, 3) := by decide +kernel
theorem dX5_unmarkAll_10 : decode cX5_unmarkAll 10 = .ok (.aload_n 0, 1) := by decide +kernel
theorem dX5_unmarkAll_11 : decode cX5_unmarkAll 11 = .ok (.getfield 38, 3) := by decide +kernel
theorem dX5_unmarkAll_14 : decode cX5_unmarkAll 14 = .ok (.iload_n 1, 1) := by decide +kernel
theorem dX5_unmarkAll_15 : decode cX5_unmarkAll 15 = .ok (.iconst 0, 1) := by decide +kernel
theorem dX5_unmarkAll_16 : decode cX5_unmarkAll 16 = .ok (.bastore, 1) := by decide +kernel
theorem dX5_unmarkAll_17 : decode cX5_unmarkAll 17 = .ok (.iinc 1 1, 3) := by decide +kernel
theorem dX5_unmarkAll_20 : decode cX5_unmarkAll 20 = .ok (.goto (-18), 3) := by decide +kernel
theorem dX5_unmarkAll_23 : decode cX5_unmarkAll 23 = .ok (.return_, 1) := by decide +kernel
set_option maxRecDepth 20000 in
theorem ggX5_keepWithInputs_X5_keep : GoodIn wsX5_keepWithInputs wsX5_keep := goodIn_r _ [8, 9, 10, 11, 12, 7, 13, 14, 15, 16, 17, 18, 19, 20, 21, 22, 23, 24, 25] (by decide +kernel) (by decide +kernel)
set_option maxRecDepth 20000 in
theorem gX5_keepWithInputs_X5_keep : GoodIn wsX5_keepWithInputs (wsV RX5 86 RX5 yX5_keep wsX5_keep) := goodIn_app (goodIn_of _ (by decide +kernel)) ggX5_keepWithInputs_X5_keep
set_option maxRecDepth 20000 in
theorem ggX5_keepWithInputs_X5_has : GoodIn wsX5_keepWithInputs wsX5_has := goodIn_r _ [13, 14, 15, 16, 17, 18, 19, 20, 21, 22, 23, 24, 25] (by decide +kernel) (by decide +kernel)
set_option maxRecDepth 20000 in
theorem gX5_keepWithInputs_X5_has : GoodIn wsX5_keepWithInputs (wsV RX5 48 RX5 yX5_has wsX5_has) := goodIn_app (goodIn_of _ (by decide +kernel)) ggX5_keepWithInputs_X5_has
theorem dX5_keepWithInputs_0 : decode cX5_keepWithInputs 0 = .ok (.aload_n 0, 1) := by decide +kernel
theorem dX5_keepWithInputs_1 : decode cX5_keepWithInputs 1 = .ok (.iload_n 1, 1) := by decide +kernel
theorem dX5_keepWithInputs_2 : decode cX5_keepWithInputs 2 = .ok (.invokevirtual 86, 3) := by decide +kernel
theorem dX5_keepWithInputs_5 : decode cX5_keepWithInputs 5 = .ok (.aload_n 0, 1) := by decide +kernel
theorem dX5_keepWithInputs_6 : decode cX5_keepWithInputs 6 = .ok (.iload_n 1, 1) := by decide +kernel
theorem dX5_keepWithInputs_7 : decode cX5_keepWithInputs 7 = .ok (.invokevirtual 48, 3) := by decide +kernel
theorem dX5_keepWithInputs_10 : decode cX5_keepWithInputs 10 = .ok (.ifCond .eq 33, 3) := by decide +kernel
theorem dX5_keepWithInputs_13 : decode cX5_keepWithInputs 13 = .ok (.aload_n 0, 1) := by decide +kernel
theorem dX5_keepWithInputs_14 : decode cX5_keepWithInputs 14 = .ok (.getfield 21, 3) := by decide +kernel
theorem dX5_keepWithInputs_17 : decode cX5_keepWithInputs 17 = .ok (.iload_n 1, 1) := by decide +kernel
theorem dX5_keepWithInputs_18 : decode cX5_keepWithInputs 18 = .ok (.iaload, 1) := by decide +kernel
theorem dX5_keepWithInputs_19 : decode cX5_keepWithInputs 19 = .ok (.iconst (-1), 1) := by decide +kernel
theorem dX5_keepWithInputs_20 : decode cX5_keepWithInputs 20 = .ok (.if_icmp .eq 23, 3) := by decide +kernel
theorem dX5_keepWithInputs_23 : decode cX5_keepWithInputs 23 = .ok (.aload_n 0, 1) := by decide +kernel
theorem dX5_keepWithInputs_24 : decode cX5_keepWithInputs 24 = .ok (.aload_n 0, 1) := by decide +kernel
theorem dX5_keepWithInputs_25 : decode cX5_keepWithInputs 25 = .ok (.getfield 24, 3) := by decide +kernel
theorem dX5_keepWithInputs_28 : decode cX5_keepWithInputs 28 = .ok (.iload_n 1, 1) := by decide +kernel
theorem dX5_keepWithInputs_29 : decode cX5_keepWithInputs 29 = .ok (.iaload, 1) := by decide +kernel
theorem dX5_keepWithInputs_30 : decode cX5_keepWithInputs 30 = .ok (.invokevirtual 86, 3) := by decide +kernel
theorem dX5_keepWithInputs_33 : decode cX5_keepWithInputs 33 = .ok (.aload_n 0, 1) := by decide +kernel
theorem dX5_keepWithInputs_34 : decode cX5_keepWithInputs 34 = .ok (.aload_n 0, 1) := by decide +kernel
theorem dX5_keepWithInputs_35 : decode cX5_keepWithInputs 35 = .ok (.getfield 27, 3) := by decide +kernel
theorem dX5_keepWithInputs_38 : decode cX5_keepWithInputs 38 = .ok (.iload_n 1, 1) := by decide +kernel
theorem dX5_keepWithInputs_39 : decode cX5_keepWithInputs 39 = .ok (.iaload, 1) := by decide +kernel
theorem dX5_keepWithInputs_40 : decode cX5_keepWithInputs 40 = .ok (.invokevirtual 86, 3) := by decide +kernel
theorem dX5_keepWithInputs_43 : decode cX5_keepWithInputs 43 = .ok (.return_, 1) := by decide +kernel
set_option maxRecDepth 20000 in
theorem ggX5_keep_X5_has : GoodIn wsX5_keep wsX5_has := goodIn_r _ [6, 7, 8, 9, 10, 11, 12, 13, 14, 15, 16, 17, 18] (by decide +kernel) (by decide +kernel)
set_option maxRecDepth 20000 in
theorem gX5_keep_X5_has : GoodIn wsX5_keep (wsV RX5 48 RX5 yX5_has wsX5_has) := goodIn_app (goodIn_of _ (by decide +kernel)) ggX5_keep_X5_has
theorem dX5_keep_0 : decode cX5_keep 0 = .ok (.aload_n 0, 1) := by decide +kernel
theorem dX5_keep_1 : decode cX5_keep 1 = .ok (.iload_n 1, 1) := by decide +kernel
theorem dX5_keep_2 : decode cX5_keep 2 = .ok (.invokevirtual 48, 3) := by decide +kernel
theorem dX5_keep_5 : decode cX5_keep 5 = .ok (.ifCond .eq 10, 3) := by decide +kernel
theorem dX5_keep_8 : decode cX5_keep 8 = .ok (.aload_n 0, 1) := by decide +kernel
theorem dX5_keep_9 : decode cX5_keep 9 = .ok (.getfield 38, 3) := by decide +kernel
theorem dX5_keep_12 : decode cX5_keep 12 = .ok (.iload_n 1, 1) := by decide +kernel
theorem dX5_keep_13 : decode cX5_keep 13 = .ok (.iconst 1, 1) := by decide +kernel
theorem dX5_keep_14 : decode cX5_keep 14 = .ok (.bastore, 1) := by decide +kernel
theorem dX5_keep_15 : decode cX5_keep 15 = .ok (.return_, 1) := by decide +kernel
set_option maxRecDepth 20000 in
theorem ggX5_endUnlessKept_X5_isKept : GoodIn wsX5_endUnlessKept wsX5_isKept := goodIn_r _ [5, 6, 7, 8, 9, 4, 10, 11, 23, 24, 25, 26, 27, 28, 29, 30, 31, 32, 33] (by decide +kernel) (by decide +kernel)
set_option maxRecDepth 20000 in
theorem gX5_endUnlessKept_X5_isKept : GoodIn wsX5_endUnlessKept (wsV RX5 90 RX5 yX5_isKept wsX5_isKept) := goodIn_app (goodIn_of _ (by decide +kernel)) ggX5_endUnlessKept_X5_isKept
set_option maxRecDepth 20000 in
theorem ggX5_endUnlessKept_X5_end : GoodIn wsX5_endUnlessKept wsX5_end := goodIn_r _ [15, 16, 17, 18, 19, 20, 21, 4, 22, 7, 8, 9, 10, 11, 23, 24, 25, 26, 27, 28, 29, 30, 31, 32, 33] (by decide +kernel) (by decide +kernel)
set_option maxRecDepth 20000 in
theorem gX5_endUnlessKept_X5_end : GoodIn wsX5_endUnlessKept (wsV RX5 93 RX5 yX5_end wsX5_end) := goodIn_app (goodIn_of _ (by decide +kernel)) ggX5_endUnlessKept_X5_end
theorem dX5_endUnlessKept_0 : decode cX5_endUnlessKept 0 = .ok (.aload_n 0, 1) := by decide +kernel
theorem dX5_endUnlessKept_1 : decode cX5_endUnlessKept 1 = .ok (.iload_n 1, 1) := by decide +kernel
theorem dX5_endUnlessKept_2 : decode cX5_endUnlessKept 2 = .ok (.invokevirtual 90, 3) := by decide +kernel
theorem dX5_endUnlessKept_5 : decode cX5_endUnlessKept 5 = .ok (.ifCond .ne 8, 3) := by decide +kernel
theorem dX5_endUnlessKept_8 : decode cX5_endUnlessKept 8 = .ok (.aload_n 0, 1) := by decide +kernel
theorem dX5_endUnlessKept_9 : decode cX5_endUnlessKept 9 = .ok (.iload_n 1, 1) := by decide +kernel
theorem dX5_endUnlessKept_10 : decode cX5_endUnlessKept 10 = .ok (.invokevirtual 93, 3) := by decide +kernel
theorem dX5_endUnlessKept_13 : decode cX5_endUnlessKept 13 = .ok (.return_, 1) := by decide +kernel
set_option maxRecDepth 20000 in
theorem ggX5_end_X5_lives : GoodIn wsX5_end wsX5_lives := goodIn_r _ [8, 1, 9, 10, 11, 7, 12, 13, 14, 15, 16, 17, 18, 19, 20, 21, 22, 23, 24] (by decide +kernel) (by decide +kernel)
set_option maxRecDepth 20000 in
theorem gX5_end_X5_lives : GoodIn wsX5_end (wsV RX5 56 RX5 yX5_lives wsX5_lives) := goodIn_app (goodIn_of _ (by decide +kernel)) ggX5_end_X5_lives
theorem dX5_end_0 : decode cX5_end 0 = .ok (.aload_n 0, 1) := by decide +kernel
theorem dX5_end_1 : decode cX5_end 1 = .ok (.iload_n 1, 1) := by decide +kernel
theorem dX5_end_2 : decode cX5_end 2 = .ok (.invokevirtual 56, 3) := by decide +kernel
theorem dX5_end_5 : decode cX5_end 5 = .ok (.ifCond .eq 27, 3) := by decide +kernel
theorem dX5_end_8 : decode cX5_end 8 = .ok (.aload_n 0, 1) := by decide +kernel
theorem dX5_end_9 : decode cX5_end 9 = .ok (.getfield 34, 3) := by decide +kernel
theorem dX5_end_12 : decode cX5_end 12 = .ok (.iload_n 1, 1) := by decide +kernel
theorem dX5_end_13 : decode cX5_end 13 = .ok (.iconst 0, 1) := by decide +kernel
theorem dX5_end_14 : decode cX5_end 14 = .ok (.bastore, 1) := by decide +kernel
theorem dX5_end_15 : decode cX5_end 15 = .ok (.aload_n 0, 1) := by decide +kernel
theorem dX5_end_16 : decode cX5_end 16 = .ok (.getfield 30, 3) := by decide +kernel
theorem dX5_end_19 : decode cX5_end 19 = .ok (.iload_n 1, 1) := by decide +kernel
theorem dX5_end_20 : decode cX5_end 20 = .ok (.lconst 0, 1) := by decide +kernel
theorem dX5_end_21 : decode cX5_end 21 = .ok (.lastore, 1) := by decide +kernel
theorem dX5_end_22 : decode cX5_end 22 = .ok (.aload_n 0, 1) := by decide +kernel
theorem dX5_end_23 : decode cX5_end 23 = .ok (.dup, 1) := by decide +kernel
theorem dX5_end_24 : decode cX5_end 24 = .ok (.getfield 45, 3) := by decide +kernel
theorem dX5_end_27 : decode cX5_end 27 = .ok (.iconst 1, 1) := by decide +kernel
theorem dX5_end_28 : decode cX5_end 28 = .ok (.isub, 1) := by decide +kernel
theorem dX5_end_29 : decode cX5_end 29 = .ok (.putfield 45, 3) := by decide +kernel
theorem dX5_end_32 : decode cX5_end 32 = .ok (.return_, 1) := by decide +kernel
set_option maxRecDepth 20000 in
theorem ggX5_followInputs_X5_hasLostInputs : GoodIn wsX5_followInputs wsX5_hasLostInputs := goodIn_r _ [9, 10, 11, 3, 12, 13, 14, 8, 15, 2, 16, 17, 18, 19, 1, 33, 34, 35, 36, 37, 38, 39, 40, 41, 42, 43] (by decide +kernel) (by decide +kernel)
set_option maxRecDepth 20000 in
theorem gX5_followInputs_X5_hasLostInputs : GoodIn wsX5_followInputs (wsV RX5 96 RX5 yX5_hasLostInputs wsX5_hasLostInputs) := goodIn_app (goodIn_of _ (by decide +kernel)) ggX5_followInputs_X5_hasLostInputs
set_option maxRecDepth 20000 in
theorem ggX5_followInputs_X5_end : GoodIn wsX5_followInputs wsX5_end := goodIn_r _ [23, 2, 4, 24, 12, 13, 14, 8, 15, 16, 17, 18, 19, 1, 33, 34, 35, 36, 37, 38, 39, 40, 41, 42, 43] (by decide +kernel) (by decide +kernel)
set_option maxRecDepth 20000 in
theorem gX5_followInputs_X5_end : GoodIn wsX5_followInputs (wsV RX5 93 RX5 yX5_end wsX5_end) := goodIn_app (goodIn_of _ (by decide +kernel)) ggX5_followInputs_X5_end
set_option maxRecDepth 20000 in
theorem ggX5_followInputs_X5_derivedValue : GoodIn wsX5_followInputs wsX5_derivedValue := goodIn_r _ [28, 10, 11, 3, 29, 30, 31, 8, 32, 4, 12, 13, 14, 15, 2, 16, 17, 18, 19, 1, 33, 34, 35, 36, 37, 38, 39, 40, 41, 42, 43] (by decide +kernel) (by decide +kernel)
set_option maxRecDepth 20000 in
theorem gX5_followInputs_X5_derivedValue : GoodIn wsX5_followInputs (wsV RX5 79 RX5 yX5_derivedValue wsX5_derivedValue) := goodIn_app (goodIn_of _ (by decide +kernel)) ggX5_followInputs_X5_derivedValue
theorem dX5_followInputs_0 : decode cX5_followInputs 0 = .ok (.iconst 0, 1) := by decide +kernel
theorem dX5_followInputs_1 : decode cX5_followInputs 1 = .ok (.istore_n 1, 1) := by decide +kernel
theorem dX5_followInputs_2 : decode cX5_followInputs 2 = .ok (.iload_n 1, 1) := by decide +kernel
theorem dX5_followInputs_3 : decode cX5_followInputs 3 = .ok (.aload_n 0, 1) := by decide +kernel
theorem dX5_followInputs_4 : decode cX5_followInputs 4 = .ok (.getfield 41, 3) := by decide +kernel
theorem dX5_followInputs_7 : decode cX5_followInputs 7 = .ok (.if_icmp .ge 55, 3) := by decide +kernel
theorem dX5_followInputs_10 : decode cX5_followInputs 10 = .ok (.aload_n 0, 1) := by decide +kernel
theorem dX5_followInputs_11 : decode cX5_followInputs 11 = .ok (.getfield 34, 3) := by decide +kernel
theorem dX5_followInputs_14 : decode cX5_followInputs 14 = .ok (.iload_n 1, 1) := by decide +kernel
theorem dX5_followInputs_15 : decode cX5_followInputs 15 = .ok (.baload, 1) := by decide +kernel
theorem dX5_followInputs_16 : decode cX5_followInputs 16 = .ok (.ifCond .eq 40, 3) := by decide +kernel
theorem dX5_followInputs_19 : decode cX5_followInputs 19 = .ok (.aload_n 0, 1) := by decide +kernel
theorem dX5_followInputs_20 : decode cX5_followInputs 20 = .ok (.getfield 21, 3) := by decide +kernel
theorem dX5_followInputs_23 : decode cX5_followInputs 23 = .ok (.iload_n 1, 1) := by decide +kernel
theorem dX5_followInputs_24 : decode cX5_followInputs 24 = .ok (.iaload, 1) := by decide +kernel
theorem dX5_followInputs_25 : decode cX5_followInputs 25 = .ok (.iconst (-1), 1) := by decide +kernel
theorem dX5_followInputs_26 : decode cX5_followInputs 26 = .ok (.if_icmp .eq 30, 3) := by decide +kernel
theorem dX5_followInputs_29 : decode cX5_followInputs 29 = .ok (.aload_n 0, 1) := by decide +kernel
theorem dX5_followInputs_30 : decode cX5_followInputs 30 = .ok (.iload_n 1, 1) := by decide +kernel
theorem dX5_followInputs_31 : decode cX5_followInputs 31 = .ok (.invokevirtual 96, 3) := by decide +kernel
theorem dX5_followInputs_34 : decode cX5_followInputs 34 = .ok (.ifCond .eq 11, 3) := by decide +kernel
theorem dX5_followInputs_37 : decode cX5_followInputs 37 = .ok (.aload_n 0, 1) := by decide +kernel
theorem dX5_followInputs_38 : decode cX5_followInputs 38 = .ok (.iload_n 1, 1) := by decide +kernel
theorem dX5_followInputs_39 : decode cX5_followInputs 39 = .ok (.invokevirtual 93, 3) := by decide +kernel
theorem dX5_followInputs_42 : decode cX5_followInputs 42 = .ok (.goto 14, 3) := by decide +kernel
theorem dX5_followInputs_45 : decode cX5_followInputs 45 = .ok (.aload_n 0, 1) := by decide +kernel
theorem dX5_followInputs_46 : decode cX5_followInputs 46 = .ok (.getfield 30, 3) := by decide +kernel
theorem dX5_followInputs_49 : decode cX5_followInputs 49 = .ok (.iload_n 1, 1) := by decide +kernel
theorem dX5_followInputs_50 : decode cX5_followInputs 50 = .ok (.aload_n 0, 1) := by decide +kernel
theorem dX5_followInputs_51 : decode cX5_followInputs 51 = .ok (.iload_n 1, 1) := by decide +kernel
theorem dX5_followInputs_52 : decode cX5_followInputs 52 = .ok (.invokevirtual 79, 3) := by decide +kernel
theorem dX5_followInputs_55 : decode cX5_followInputs 55 = .ok (.lastore, 1) := by decide +kernel
theorem dX5_followInputs_56 : decode cX5_followInputs 56 = .ok (.iinc 1 1, 3) := by decide +kernel
theorem dX5_followInputs_59 : decode cX5_followInputs 59 = .ok (.goto (-57), 3) := by decide +kernel
theorem dX5_followInputs_62 : decode cX5_followInputs 62 = .ok (.return_, 1) := by decide +kernel
set_option maxRecDepth 20000 in
theorem ggX5_hasLostInputs_X5_lives : GoodIn wsX5_hasLostInputs wsX5_lives := goodIn_r _ [8, 9, 10, 11, 12, 7, 13, 14, 15, 16, 17, 18, 19, 20, 21, 22, 23, 24, 25] (by decide +kernel) (by decide +kernel)
set_option maxRecDepth 20000 in
theorem gX5_hasLostInputs_X5_lives : GoodIn wsX5_hasLostInputs (wsV RX5 56 RX5 yX5_lives wsX5_lives) := goodIn_app (goodIn_of _ (by decide +kernel)) ggX5_hasLostInputs_X5_lives
theorem dX5_hasLostInputs_0 : decode cX5_hasLostInputs 0 = .ok (.aload_n 0, 1) := by decide +kernel
theorem dX5_hasLostInputs_1 : decode cX5_hasLostInputs 1 = .ok (.aload_n 0, 1) := by decide +kernel
theorem dX5_hasLostInputs_2 : decode cX5_hasLostInputs 2 = .ok (.getfield 24, 3) := by decide +kernel
theorem dX5_hasLostInputs_5 : decode cX5_hasLostInputs 5 = .ok (.iload_n 1, 1) := by decide +kernel
theorem dX5_hasLostInputs_6 : decode cX5_hasLostInputs 6 = .ok (.iaload, 1) := by decide +kernel
theorem dX5_hasLostInputs_7 : decode cX5_hasLostInputs 7 = .ok (.invokevirtual 56, 3) := by decide +kernel
theorem dX5_hasLostInputs_10 : decode cX5_hasLostInputs 10 = .ok (.istore_n 2, 1) := by decide +kernel
theorem dX5_hasLostInputs_11 : decode cX5_hasLostInputs 11 = .ok (.aload_n 0, 1) := by decide +kernel
theorem dX5_hasLostInputs_12 : decode cX5_hasLostInputs 12 = .ok (.aload_n 0, 1) := by decide +kernel
theorem dX5_hasLostInputs_13 : decode cX5_hasLostInputs 13 = .ok (.getfield 27, 3) := by decide +kernel
theorem dX5_hasLostInputs_16 : decode cX5_hasLostInputs 16 = .ok (.iload_n 1, 1) := by decide +kernel
theorem dX5_hasLostInputs_17 : decode cX5_hasLostInputs 17 = .ok (.iaload, 1) := by decide +kernel
theorem dX5_hasLostInputs_18 : decode cX5_hasLostInputs 18 = .ok (.invokevirtual 56, 3) := by decide +kernel
theorem dX5_hasLostInputs_21 : decode cX5_hasLostInputs 21 = .ok (.istore_n 3, 1) := by decide +kernel
theorem dX5_hasLostInputs_22 : decode cX5_hasLostInputs 22 = .ok (.aload_n 0, 1) := by decide +kernel
theorem dX5_hasLostInputs_23 : decode cX5_hasLostInputs 23 = .ok (.getfield 21, 3) := by decide +kernel
theorem dX5_hasLostInputs_26 : decode cX5_hasLostInputs 26 = .ok (.iload_n 1, 1) := by decide +kernel
theorem dX5_hasLostInputs_27 : decode cX5_hasLostInputs 27 = .ok (.iaload, 1) := by decide +kernel
theorem dX5_hasLostInputs_28 : decode cX5_hasLostInputs 28 = .ok (.iconst 1, 1) := by decide +kernel
theorem dX5_hasLostInputs_29 : decode cX5_hasLostInputs 29 = .ok (.if_icmp .ne 19, 3) := by decide +kernel
theorem dX5_hasLostInputs_32 : decode cX5_hasLostInputs 32 = .ok (.iload_n 2, 1) := by decide +kernel
theorem dX5_hasLostInputs_33 : decode cX5_hasLostInputs 33 = .ok (.ifCond .ne 11, 3) := by decide +kernel
theorem dX5_hasLostInputs_36 : decode cX5_hasLostInputs 36 = .ok (.iload_n 3, 1) := by decide +kernel
theorem dX5_hasLostInputs_37 : decode cX5_hasLostInputs 37 = .ok (.ifCond .ne 7, 3) := by decide +kernel
theorem dX5_hasLostInputs_40 : decode cX5_hasLostInputs 40 = .ok (.iconst 1, 1) := by decide +kernel
theorem dX5_hasLostInputs_41 : decode cX5_hasLostInputs 41 = .ok (.goto 20, 3) := by decide +kernel
theorem dX5_hasLostInputs_44 : decode cX5_hasLostInputs 44 = .ok (.iconst 0, 1) := by decide +kernel
theorem dX5_hasLostInputs_45 : decode cX5_hasLostInputs 45 = .ok (.goto 16, 3) := by decide +kernel
theorem dX5_hasLostInputs_48 : decode cX5_hasLostInputs 48 = .ok (.iload_n 2, 1) := by decide +kernel
theorem dX5_hasLostInputs_49 : decode cX5_hasLostInputs 49 = .ok (.ifCond .eq 7, 3) := by decide +kernel
theorem dX5_hasLostInputs_52 : decode cX5_hasLostInputs 52 = .ok (.iload_n 3, 1) := by decide +kernel
theorem dX5_hasLostInputs_53 : decode cX5_hasLostInputs 53 = .ok (.ifCond .ne 7, 3) := by decide +kernel
theorem dX5_hasLostInputs_56 : decode cX5_hasLostInputs 56 = .ok (.iconst 1, 1) := by decide +kernel
theorem dX5_hasLostInputs_57 : decode cX5_hasLostInputs 57 = .ok (.goto 4, 3) := by decide +kernel
theorem dX5_hasLostInputs_60 : decode cX5_hasLostInputs 60 = .ok (.iconst 0, 1) := by decide +kernel
theorem dX5_hasLostInputs_61 : decode cX5_hasLostInputs 61 = .ok (.ireturn, 1) := by decide +kernel
theorem dX6_init_0 : decode cX6_init 0 = .ok (.aload_n 0, 1) := by decide +kernel
theorem dX6_init_1 : decode cX6_init 1 = .ok (.invokespecial 3, 3) := by decide +kernel
theorem dX6_init_4 : decode cX6_init 4 = .ok (.aload_n 0, 1) := by decide +kernel
theorem dX6_init_5 : decode cX6_init 5 = .ok (.bipush 8, 2) := by decide +kernel
theorem dX6_init_7 : decode cX6_init 7 = .ok (.newarray .int, 2) := by decide +kernel
theorem dX6_init_9 : decode cX6_init 9 = .ok (.putfield 11, 3) := by decide +kernel
theorem dX6_init_12 : decode cX6_init 12 = .ok (.return_, 1) := by decide +kernel
theorem dX6_total_0 : decode cX6_total 0 = .ok (.aload_n 0, 1) := by decide +kernel
theorem dX6_total_1 : decode cX6_total 1 = .ok (.getfield 15, 3) := by decide +kernel
theorem dX6_total_4 : decode cX6_total 4 = .ok (.ireturn, 1) := by decide +kernel
theorem dX6_has_0 : decode cX6_has 0 = .ok (.iload_n 1, 1) := by decide +kernel
theorem dX6_has_1 : decode cX6_has 1 = .ok (.ifCond .lt 15, 3) := by decide +kernel
theorem dX6_has_4 : decode cX6_has 4 = .ok (.iload_n 1, 1) := by decide +kernel
theorem dX6_has_5 : decode cX6_has 5 = .ok (.aload_n 0, 1) := by decide +kernel
theorem dX6_has_6 : decode cX6_has 6 = .ok (.getfield 15, 3) := by decide +kernel
theorem dX6_has_9 : decode cX6_has 9 = .ok (.if_icmp .ge 7, 3) := by decide +kernel
theorem dX6_has_12 : decode cX6_has 12 = .ok (.iconst 1, 1) := by decide +kernel
theorem dX6_has_13 : decode cX6_has 13 = .ok (.goto 4, 3) := by decide +kernel
theorem dX6_has_16 : decode cX6_has 16 = .ok (.iconst 0, 1) := by decide +kernel
theorem dX6_has_17 : decode cX6_has 17 = .ok (.ireturn, 1) := by decide +kernel
theorem dX6_add_0 : decode cX6_add 0 = .ok (.aload_n 0, 1) := by decide +kernel
theorem dX6_add_1 : decode cX6_add 1 = .ok (.getfield 15, 3) := by decide +kernel
theorem dX6_add_4 : decode cX6_add 4 = .ok (.bipush 8, 2) := by decide +kernel
theorem dX6_add_6 : decode cX6_add 6 = .ok (.if_icmp .lt 5, 3) := by decide +kernel
theorem dX6_add_9 : decode cX6_add 9 = .ok (.iconst (-1), 1) := by decide +kernel
theorem dX6_add_10 : decode cX6_add 10 = .ok (.ireturn, 1) := by decide +kernel
theorem dX6_add_11 : decode cX6_add 11 = .ok (.aload_n 0, 1) := by decide +kernel
theorem dX6_add_12 : decode cX6_add 12 = .ok (.getfield 11, 3) := by decide +kernel
theorem dX6_add_15 : decode cX6_add 15 = .ok (.aload_n 0, 1) := by decide +kernel
theorem dX6_add_16 : decode cX6_add 16 = .ok (.getfield 15, 3) := by decide +kernel
theorem dX6_add_19 : decode cX6_add 19 = .ok (.iload_n 1, 1) := by decide +kernel
theorem dX6_add_20 : decode cX6_add 20 = .ok (.iastore, 1) := by decide +kernel
theorem dX6_add_21 : decode cX6_add 21 = .ok (.aload_n 0, 1) := by decide +kernel
theorem dX6_add_22 : decode cX6_add 22 = .ok (.dup, 1) := by decide +kernel
theorem dX6_add_23 : decode cX6_add 23 = .ok (.getfield 15, 3) := by decide +kernel
theorem dX6_add_26 : decode cX6_add 26 = .ok (.iconst 1, 1) := by decide +kernel
theorem dX6_add_27 : decode cX6_add 27 = .ok (.iadd, 1) := by decide +kernel
theorem dX6_add_28 : decode cX6_add 28 = .ok (.putfield 15, 3) := by decide +kernel
theorem dX6_add_31 : decode cX6_add 31 = .ok (.aload_n 0, 1) := by decide +kernel
theorem dX6_add_32 : decode cX6_add 32 = .ok (.getfield 15, 3) := by decide +kernel
theorem dX6_add_35 : decode cX6_add 35 = .ok (.iconst 1, 1) := by decide +kernel
theorem dX6_add_36 : decode cX6_add 36 = .ok (.isub, 1) := by decide +kernel
theorem dX6_add_37 : decode cX6_add 37 = .ok (.ireturn, 1) := by decide +kernel
set_option maxRecDepth 20000 in
theorem ggX6_retentionOf_X6_has : GoodIn wsX6_retentionOf wsX6_has := goodIn_r _ [6, 7, 8, 9] (by decide +kernel) (by decide +kernel)
set_option maxRecDepth 20000 in
theorem gX6_retentionOf_X6_has : GoodIn wsX6_retentionOf (wsV RX6 19 RX6 yX6_has wsX6_has) := goodIn_app (goodIn_of _ (by decide +kernel)) ggX6_retentionOf_X6_has
theorem dX6_retentionOf_0 : decode cX6_retentionOf 0 = .ok (.aload_n 0, 1) := by decide +kernel
theorem dX6_retentionOf_1 : decode cX6_retentionOf 1 = .ok (.iload_n 1, 1) := by decide +kernel
theorem dX6_retentionOf_2 : decode cX6_retentionOf 2 = .ok (.invokevirtual 19, 3) := by decide +kernel
theorem dX6_retentionOf_5 : decode cX6_retentionOf 5 = .ok (.ifCond .eq 12, 3) := by decide +kernel
theorem dX6_retentionOf_8 : decode cX6_retentionOf 8 = .ok (.aload_n 0, 1) := by decide +kernel
theorem dX6_retentionOf_9 : decode cX6_retentionOf 9 = .ok (.getfield 11, 3) := by decide +kernel
theorem dX6_retentionOf_12 : decode cX6_retentionOf 12 = .ok (.iload_n 1, 1) := by decide +kernel
theorem dX6_retentionOf_13 : decode cX6_retentionOf 13 = .ok (.iaload, 1) := by decide +kernel
theorem dX6_retentionOf_14 : decode cX6_retentionOf 14 = .ok (.goto 4, 3) := by decide +kernel
theorem dX6_retentionOf_17 : decode cX6_retentionOf 17 = .ok (.iconst 0, 1) := by decide +kernel
theorem dX6_retentionOf_18 : decode cX6_retentionOf 18 = .ok (.ireturn, 1) := by decide +kernel
theorem dX7_init_0 : decode cX7_init 0 = .ok (.aload_n 0, 1) := by decide +kernel
theorem dX7_init_1 : decode cX7_init 1 = .ok (.invokespecial 3, 3) := by decide +kernel
theorem dX7_init_4 : decode cX7_init 4 = .ok (.aload_n 0, 1) := by decide +kernel
theorem dX7_init_5 : decode cX7_init 5 = .ok (.sipush 200, 3) := by decide +kernel
theorem dX7_init_8 : decode cX7_init 8 = .ok (.newarray .int, 2) := by decide +kernel
theorem dX7_init_10 : decode cX7_init 10 = .ok (.putfield 11, 3) := by decide +kernel
theorem dX7_init_13 : decode cX7_init 13 = .ok (.aload_n 0, 1) := by decide +kernel
theorem dX7_init_14 : decode cX7_init 14 = .ok (.sipush 200, 3) := by decide +kernel
theorem dX7_init_17 : decode cX7_init 17 = .ok (.newarray .int, 2) := by decide +kernel
theorem dX7_init_19 : decode cX7_init 19 = .ok (.putfield 15, 3) := by decide +kernel
theorem dX7_init_22 : decode cX7_init 22 = .ok (.aload_n 0, 1) := by decide +kernel
theorem dX7_init_23 : decode cX7_init 23 = .ok (.sipush 200, 3) := by decide +kernel
theorem dX7_init_26 : decode cX7_init 26 = .ok (.newarray .int, 2) := by decide +kernel
theorem dX7_init_28 : decode cX7_init 28 = .ok (.putfield 18, 3) := by decide +kernel
theorem dX7_init_31 : decode cX7_init 31 = .ok (.aload_n 0, 1) := by decide +kernel
theorem dX7_init_32 : decode cX7_init 32 = .ok (.sipush 200, 3) := by decide +kernel
theorem dX7_init_35 : decode cX7_init 35 = .ok (.newarray .int, 2) := by decide +kernel
theorem dX7_init_37 : decode cX7_init 37 = .ok (.putfield 21, 3) := by decide +kernel
theorem dX7_init_40 : decode cX7_init 40 = .ok (.return_, 1) := by decide +kernel
theorem dX7_total_0 : decode cX7_total 0 = .ok (.aload_n 0, 1) := by decide +kernel
theorem dX7_total_1 : decode cX7_total 1 = .ok (.getfield 24, 3) := by decide +kernel
theorem dX7_total_4 : decode cX7_total 4 = .ok (.ireturn, 1) := by decide +kernel
theorem dX7_add_0 : decode cX7_add 0 = .ok (.aload_n 0, 1) := by decide +kernel
theorem dX7_add_1 : decode cX7_add 1 = .ok (.getfield 24, 3) := by decide +kernel
theorem dX7_add_4 : decode cX7_add 4 = .ok (.sipush 200, 3) := by decide +kernel
theorem dX7_add_7 : decode cX7_add 7 = .ok (.if_icmp .lt 4, 3) := by decide +kernel
theorem dX7_add_10 : decode cX7_add 10 = .ok (.return_, 1) := by decide +kernel
theorem dX7_add_11 : decode cX7_add 11 = .ok (.aload_n 0, 1) := by decide +kernel
theorem dX7_add_12 : decode cX7_add 12 = .ok (.getfield 11, 3) := by decide +kernel
theorem dX7_add_15 : decode cX7_add 15 = .ok (.aload_n 0, 1) := by decide +kernel
theorem dX7_add_16 : decode cX7_add 16 = .ok (.getfield 24, 3) := by decide +kernel
theorem dX7_add_19 : decode cX7_add 19 = .ok (.iload_n 1, 1) := by decide +kernel
theorem dX7_add_20 : decode cX7_add 20 = .ok (.iastore, 1) := by decide +kernel
theorem dX7_add_21 : decode cX7_add 21 = .ok (.aload_n 0, 1) := by decide +kernel
theorem dX7_add_22 : decode cX7_add 22 = .ok (.getfield 15, 3) := by decide +kernel
theorem dX7_add_25 : decode cX7_add 25 = .ok (.aload_n 0, 1) := by decide +kernel
theorem dX7_add_26 : decode cX7_add 26 = .ok (.getfield 24, 3) := by decide +kernel
theorem dX7_add_29 : decode cX7_add 29 = .ok (.iload_n 2, 1) := by decide +kernel
theorem dX7_add_30 : decode cX7_add 30 = .ok (.iastore, 1) := by decide +kernel
theorem dX7_add_31 : decode cX7_add 31 = .ok (.aload_n 0, 1) := by decide +kernel
theorem dX7_add_32 : decode cX7_add 32 = .ok (.getfield 18, 3) := by decide +kernel
theorem dX7_add_35 : decode cX7_add 35 = .ok (.aload_n 0, 1) := by decide +kernel
theorem dX7_add_36 : decode cX7_add 36 = .ok (.getfield 24, 3) := by decide +kernel
theorem dX7_add_39 : decode cX7_add 39 = .ok (.iload_n 3, 1) := by decide +kernel
theorem dX7_add_40 : decode cX7_add 40 = .ok (.iastore, 1) := by decide +kernel
theorem dX7_add_41 : decode cX7_add 41 = .ok (.aload_n 0, 1) := by decide +kernel
theorem dX7_add_42 : decode cX7_add 42 = .ok (.getfield 21, 3) := by decide +kernel
theorem dX7_add_45 : decode cX7_add 45 = .ok (.aload_n 0, 1) := by decide +kernel
theorem dX7_add_46 : decode cX7_add 46 = .ok (.getfield 24, 3) := by decide +kernel
theorem dX7_add_49 : decode cX7_add 49 = .ok (.iload 4, 2) := by decide +kernel
theorem dX7_add_51 : decode cX7_add 51 = .ok (.iastore, 1) := by decide +kernel
theorem dX7_add_52 : decode cX7_add 52 = .ok (.aload_n 0, 1) := by decide +kernel
theorem dX7_add_53 : decode cX7_add 53 = .ok (.dup, 1) := by decide +kernel
theorem dX7_add_54 : decode cX7_add 54 = .ok (.getfield 24, 3) := by decide +kernel
theorem dX7_add_57 : decode cX7_add 57 = .ok (.iconst 1, 1) := by decide +kernel
theorem dX7_add_58 : decode cX7_add 58 = .ok (.iadd, 1) := by decide +kernel
theorem dX7_add_59 : decode cX7_add 59 = .ok (.putfield 24, 3) := by decide +kernel
theorem dX7_add_62 : decode cX7_add 62 = .ok (.return_, 1) := by decide +kernel
theorem dX7_read_0 : decode cX7_read 0 = .ok (.iload_n 1, 1) := by decide +kernel
theorem dX7_read_1 : decode cX7_read 1 = .ok (.ifCond .lt 11, 3) := by decide +kernel
theorem dX7_read_4 : decode cX7_read 4 = .ok (.iload_n 1, 1) := by decide +kernel
theorem dX7_read_5 : decode cX7_read 5 = .ok (.aload_n 0, 1) := by decide +kernel
theorem dX7_read_6 : decode cX7_read 6 = .ok (.getfield 24, 3) := by decide +kernel
theorem dX7_read_9 : decode cX7_read 9 = .ok (.if_icmp .lt 5, 3) := by decide +kernel
theorem dX7_read_12 : decode cX7_read 12 = .ok (.iconst (-1), 1) := by decide +kernel
theorem dX7_read_13 : decode cX7_read 13 = .ok (.ireturn, 1) := by decide +kernel
theorem dX7_read_14 : decode cX7_read 14 = .ok (.iload_n 2, 1) := by decide +kernel
theorem dX7_read_15 : decode cX7_read 15 = .ok (.tableswitch 57 0 3 #[29, 36, 43, 50], 29) := by decide +kernel
theorem dX7_read_44 : decode cX7_read 44 = .ok (.aload_n 0, 1) := by decide +kernel
theorem dX7_read_45 : decode cX7_read 45 = .ok (.getfield 11, 3) := by decide +kernel
theorem dX7_read_48 : decode cX7_read 48 = .ok (.iload_n 1, 1) := by decide +kernel
theorem dX7_read_49 : decode cX7_read 49 = .ok (.iaload, 1) := by decide +kernel
theorem dX7_read_50 : decode cX7_read 50 = .ok (.ireturn, 1) := by decide +kernel
theorem dX7_read_51 : decode cX7_read 51 = .ok (.aload_n 0, 1) := by decide +kernel
theorem dX7_read_52 : decode cX7_read 52 = .ok (.getfield 15, 3) := by decide +kernel
theorem dX7_read_55 : decode cX7_read 55 = .ok (.iload_n 1, 1) := by decide +kernel
theorem dX7_read_56 : decode cX7_read 56 = .ok (.iaload, 1) := by decide +kernel
theorem dX7_read_57 : decode cX7_read 57 = .ok (.ireturn, 1) := by decide +kernel
theorem dX7_read_58 : decode cX7_read 58 = .ok (.aload_n 0, 1) := by decide +kernel
theorem dX7_read_59 : decode cX7_read 59 = .ok (.getfield 18, 3) := by decide +kernel
theorem dX7_read_62 : decode cX7_read 62 = .ok (.iload_n 1, 1) := by decide +kernel
theorem dX7_read_63 : decode cX7_read 63 = .ok (.iaload, 1) := by decide +kernel
theorem dX7_read_64 : decode cX7_read 64 = .ok (.ireturn, 1) := by decide +kernel
theorem dX7_read_65 : decode cX7_read 65 = .ok (.aload_n 0, 1) := by decide +kernel
theorem dX7_read_66 : decode cX7_read 66 = .ok (.getfield 21, 3) := by decide +kernel
theorem dX7_read_69 : decode cX7_read 69 = .ok (.iload_n 1, 1) := by decide +kernel
theorem dX7_read_70 : decode cX7_read 70 = .ok (.iaload, 1) := by decide +kernel
theorem dX7_read_71 : decode cX7_read 71 = .ok (.ireturn, 1) := by decide +kernel
theorem dX7_read_72 : decode cX7_read 72 = .ok (.iconst (-1), 1) := by decide +kernel
theorem dX7_read_73 : decode cX7_read 73 = .ok (.ireturn, 1) := by decide +kernel
theorem dX8_init_0 : decode cX8_init 0 = .ok (.aload_n 0, 1) := by decide +kernel
theorem dX8_init_1 : decode cX8_init 1 = .ok (.invokespecial 3, 3) := by decide +kernel
theorem dX8_init_4 : decode cX8_init 4 = .ok (.aload_n 0, 1) := by decide +kernel
theorem dX8_init_5 : decode cX8_init 5 = .ok (.bipush 16, 2) := by decide +kernel
theorem dX8_init_7 : decode cX8_init 7 = .ok (.newarray .int, 2) := by decide +kernel
theorem dX8_init_9 : decode cX8_init 9 = .ok (.putfield 11, 3) := by decide +kernel
theorem dX8_init_12 : decode cX8_init 12 = .ok (.aload_n 0, 1) := by decide +kernel
theorem dX8_init_13 : decode cX8_init 13 = .ok (.getfield 11, 3) := by decide +kernel
theorem dX8_init_16 : decode cX8_init 16 = .ok (.iconst 0, 1) := by decide +kernel
theorem dX8_init_17 : decode cX8_init 17 = .ok (.iconst 1, 1) := by decide +kernel
theorem dX8_init_18 : decode cX8_init 18 = .ok (.iastore, 1) := by decide +kernel
theorem dX8_init_19 : decode cX8_init 19 = .ok (.aload_n 0, 1) := by decide +kernel
theorem dX8_init_20 : decode cX8_init 20 = .ok (.iconst 1, 1) := by decide +kernel
theorem dX8_init_21 : decode cX8_init 21 = .ok (.putfield 15, 3) := by decide +kernel
theorem dX8_init_24 : decode cX8_init 24 = .ok (.return_, 1) := by decide +kernel
theorem dX8_total_0 : decode cX8_total 0 = .ok (.aload_n 0, 1) := by decide +kernel
theorem dX8_total_1 : decode cX8_total 1 = .ok (.getfield 15, 3) := by decide +kernel
theorem dX8_total_4 : decode cX8_total 4 = .ok (.ireturn, 1) := by decide +kernel
theorem dX8_has_0 : decode cX8_has 0 = .ok (.iload_n 1, 1) := by decide +kernel
theorem dX8_has_1 : decode cX8_has 1 = .ok (.ifCond .lt 15, 3) := by decide +kernel
theorem dX8_has_4 : decode cX8_has 4 = .ok (.iload_n 1, 1) := by decide +kernel
theorem dX8_has_5 : decode cX8_has 5 = .ok (.aload_n 0, 1) := by decide +kernel
theorem dX8_has_6 : decode cX8_has 6 = .ok (.getfield 15, 3) := by decide +kernel
theorem dX8_has_9 : decode cX8_has 9 = .ok (.if_icmp .ge 7, 3) := by decide +kernel
theorem dX8_has_12 : decode cX8_has 12 = .ok (.iconst 1, 1) := by decide +kernel
theorem dX8_has_13 : decode cX8_has 13 = .ok (.goto 4, 3) := by decide +kernel
theorem dX8_has_16 : decode cX8_has 16 = .ok (.iconst 0, 1) := by decide +kernel
theorem dX8_has_17 : decode cX8_has 17 = .ok (.ireturn, 1) := by decide +kernel
set_option maxRecDepth 20000 in
theorem ggX8_add_X8_has : GoodIn wsX8_add wsX8_has := goodIn_r _ [7, 1, 8, 9] (by decide +kernel) (by decide +kernel)
set_option maxRecDepth 20000 in
theorem gX8_add_X8_has : GoodIn wsX8_add (wsV RX8 19 RX8 yX8_has wsX8_has) := goodIn_app (goodIn_of _ (by decide +kernel)) ggX8_add_X8_has
theorem dX8_add_0 : decode cX8_add 0 = .ok (.aload_n 0, 1) := by decide +kernel
theorem dX8_add_1 : decode cX8_add 1 = .ok (.getfield 15, 3) := by decide +kernel
theorem dX8_add_4 : decode cX8_add 4 = .ok (.bipush 16, 2) := by decide +kernel
theorem dX8_add_6 : decode cX8_add 6 = .ok (.if_icmp .ge 11, 3) := by decide +kernel
theorem dX8_add_9 : decode cX8_add 9 = .ok (.aload_n 0, 1) := by decide +kernel
theorem dX8_add_10 : decode cX8_add 10 = .ok (.iload_n 1, 1) := by decide +kernel
theorem dX8_add_11 : decode cX8_add 11 = .ok (.invokevirtual 19, 3) := by decide +kernel
theorem dX8_add_14 : decode cX8_add 14 = .ok (.ifCond .ne 5, 3) := by decide +kernel
theorem dX8_add_17 : decode cX8_add 17 = .ok (.iconst (-1), 1) := by decide +kernel
theorem dX8_add_18 : decode cX8_add 18 = .ok (.ireturn, 1) := by decide +kernel
theorem dX8_add_19 : decode cX8_add 19 = .ok (.aload_n 0, 1) := by decide +kernel
theorem dX8_add_20 : decode cX8_add 20 = .ok (.getfield 11, 3) := by decide +kernel
theorem dX8_add_23 : decode cX8_add 23 = .ok (.aload_n 0, 1) := by decide +kernel
theorem dX8_add_24 : decode cX8_add 24 = .ok (.getfield 15, 3) := by decide +kernel
theorem dX8_add_27 : decode cX8_add 27 = .ok (.aload_n 0, 1) := by decide +kernel
theorem dX8_add_28 : decode cX8_add 28 = .ok (.getfield 11, 3) := by decide +kernel
theorem dX8_add_31 : decode cX8_add 31 = .ok (.iload_n 1, 1) := by decide +kernel
theorem dX8_add_32 : decode cX8_add 32 = .ok (.iaload, 1) := by decide +kernel
theorem dX8_add_33 : decode cX8_add 33 = .ok (.iconst 1, 1) := by decide +kernel
theorem dX8_add_34 : decode cX8_add 34 = .ok (.aload_n 0, 1) := by decide +kernel
theorem dX8_add_35 : decode cX8_add 35 = .ok (.getfield 15, 3) := by decide +kernel
theorem dX8_add_38 : decode cX8_add 38 = .ok (.ishl, 1) := by decide +kernel
theorem dX8_add_39 : decode cX8_add 39 = .ok (.ior, 1) := by decide +kernel
theorem dX8_add_40 : decode cX8_add 40 = .ok (.iastore, 1) := by decide +kernel
theorem dX8_add_41 : decode cX8_add 41 = .ok (.aload_n 0, 1) := by decide +kernel
theorem dX8_add_42 : decode cX8_add 42 = .ok (.dup, 1) := by decide +kernel
theorem dX8_add_43 : decode cX8_add 43 = .ok (.getfield 15, 3) := by decide +kernel
theorem dX8_add_46 : decode cX8_add 46 = .ok (.iconst 1, 1) := by decide +kernel
theorem dX8_add_47 : decode cX8_add 47 = .ok (.iadd, 1) := by decide +kernel
theorem dX8_add_48 : decode cX8_add 48 = .ok (.putfield 15, 3) := by decide +kernel
theorem dX8_add_51 : decode cX8_add 51 = .ok (.aload_n 0, 1) := by decide +kernel
theorem dX8_add_52 : decode cX8_add 52 = .ok (.getfield 15, 3) := by decide +kernel
theorem dX8_add_55 : decode cX8_add 55 = .ok (.iconst 1, 1) := by decide +kernel
theorem dX8_add_56 : decode cX8_add 56 = .ok (.isub, 1) := by decide +kernel
theorem dX8_add_57 : decode cX8_add 57 = .ok (.ireturn, 1) := by decide +kernel
set_option maxRecDepth 20000 in
theorem ggX8_isAtOrAbove_X8_has : GoodIn wsX8_isAtOrAbove wsX8_has := goodIn_r _ [6, 7, 8, 9] (by decide +kernel) (by decide +kernel)
set_option maxRecDepth 20000 in
theorem gX8_isAtOrAbove_X8_has : GoodIn wsX8_isAtOrAbove (wsV RX8 19 RX8 yX8_has wsX8_has) := goodIn_app (goodIn_of _ (by decide +kernel)) ggX8_isAtOrAbove_X8_has
theorem dX8_isAtOrAbove_0 : decode cX8_isAtOrAbove 0 = .ok (.aload_n 0, 1) := by decide +kernel
theorem dX8_isAtOrAbove_1 : decode cX8_isAtOrAbove 1 = .ok (.iload_n 1, 1) := by decide +kernel
theorem dX8_isAtOrAbove_2 : decode cX8_isAtOrAbove 2 = .ok (.invokevirtual 19, 3) := by decide +kernel
theorem dX8_isAtOrAbove_5 : decode cX8_isAtOrAbove 5 = .ok (.ifCond .eq 29, 3) := by decide +kernel
theorem dX8_isAtOrAbove_8 : decode cX8_isAtOrAbove 8 = .ok (.aload_n 0, 1) := by decide +kernel
theorem dX8_isAtOrAbove_9 : decode cX8_isAtOrAbove 9 = .ok (.iload_n 2, 1) := by decide +kernel
theorem dX8_isAtOrAbove_10 : decode cX8_isAtOrAbove 10 = .ok (.invokevirtual 19, 3) := by decide +kernel
theorem dX8_isAtOrAbove_13 : decode cX8_isAtOrAbove 13 = .ok (.ifCond .eq 21, 3) := by decide +kernel
theorem dX8_isAtOrAbove_16 : decode cX8_isAtOrAbove 16 = .ok (.aload_n 0, 1) := by decide +kernel
theorem dX8_isAtOrAbove_17 : decode cX8_isAtOrAbove 17 = .ok (.getfield 11, 3) := by decide +kernel
theorem dX8_isAtOrAbove_20 : decode cX8_isAtOrAbove 20 = .ok (.iload_n 2, 1) := by decide +kernel
theorem dX8_isAtOrAbove_21 : decode cX8_isAtOrAbove 21 = .ok (.iaload, 1) := by decide +kernel
theorem dX8_isAtOrAbove_22 : decode cX8_isAtOrAbove 22 = .ok (.iload_n 1, 1) := by decide +kernel
theorem dX8_isAtOrAbove_23 : decode cX8_isAtOrAbove 23 = .ok (.ishr, 1) := by decide +kernel
theorem dX8_isAtOrAbove_24 : decode cX8_isAtOrAbove 24 = .ok (.iconst 1, 1) := by decide +kernel
theorem dX8_isAtOrAbove_25 : decode cX8_isAtOrAbove 25 = .ok (.iand, 1) := by decide +kernel
theorem dX8_isAtOrAbove_26 : decode cX8_isAtOrAbove 26 = .ok (.iconst 1, 1) := by decide +kernel
theorem dX8_isAtOrAbove_27 : decode cX8_isAtOrAbove 27 = .ok (.if_icmp .ne 7, 3) := by decide +kernel
theorem dX8_isAtOrAbove_30 : decode cX8_isAtOrAbove 30 = .ok (.iconst 1, 1) := by decide +kernel
theorem dX8_isAtOrAbove_31 : decode cX8_isAtOrAbove 31 = .ok (.goto 4, 3) := by decide +kernel
theorem dX8_isAtOrAbove_34 : decode cX8_isAtOrAbove 34 = .ok (.iconst 0, 1) := by decide +kernel
theorem dX8_isAtOrAbove_35 : decode cX8_isAtOrAbove 35 = .ok (.ireturn, 1) := by decide +kernel
set_option maxRecDepth 20000 in
theorem ggX9_init_X8_init : GoodIn wsX9_init wsX8_init := goodIn_r _ [43, 44, 2, 3, 45, 46, 47, 106, 107] (by decide +kernel) (by decide +kernel)
set_option maxRecDepth 20000 in
theorem gX9_init_X8_init : GoodIn wsX9_init (wsX8_init) := ggX9_init_X8_init
set_option maxRecDepth 20000 in
theorem ggX9_init_X6_init : GoodIn wsX9_init wsX6_init := goodIn_r _ [49, 50, 2, 3, 45, 51, 118, 119] (by decide +kernel) (by decide +kernel)
set_option maxRecDepth 20000 in
theorem gX9_init_X6_init_n18 : GoodIn wsX9_init (wsX6_init) := ggX9_init_X6_init
set_option maxRecDepth 20000 in
theorem ggX9_init_X0_init : GoodIn wsX9_init wsX0_init := goodIn_r _ [53, 54, 2, 3, 45, 55, 56, 57, 58, 59, 120, 121, 122, 123, 124] (by decide +kernel) (by decide +kernel)
set_option maxRecDepth 20000 in
theorem gX9_init_X0_init_n25 : GoodIn wsX9_init (wsX0_init) := ggX9_init_X0_init
set_option maxRecDepth 20000 in
theorem ggX9_init_X1_init : GoodIn wsX9_init wsX1_init := goodIn_r _ [61, 62, 2, 3, 45, 63, 64, 65, 66, 125, 126, 127, 128, 129] (by decide +kernel) (by decide +kernel)
set_option maxRecDepth 20000 in
theorem gX9_init_X1_init_n32 : GoodIn wsX9_init (wsX1_init) := ggX9_init_X1_init
set_option maxRecDepth 20000 in
theorem ggX9_init_X2_init : GoodIn wsX9_init wsX2_init := goodIn_r _ [68, 69, 2, 3, 45, 70, 71, 72, 130, 131, 132, 133] (by decide +kernel) (by decide +kernel)
set_option maxRecDepth 20000 in
theorem gX9_init_X2_init_n39 : GoodIn wsX9_init (wsX2_init) := ggX9_init_X2_init
set_option maxRecDepth 20000 in
theorem ggX9_init_X3_init : GoodIn wsX9_init wsX3_init := goodIn_r _ [74, 75, 2, 3, 45, 76, 77, 78, 134, 135, 136, 137] (by decide +kernel) (by decide +kernel)
set_option maxRecDepth 20000 in
theorem gX9_init_X3_init_n46 : GoodIn wsX9_init (wsX3_init) := ggX9_init_X3_init
set_option maxRecDepth 20000 in
theorem ggX9_init_X4_init : GoodIn wsX9_init wsX4_init := goodIn_r _ [80, 81, 2, 3, 45, 82, 83, 84, 85, 138, 139, 140, 141, 142] (by decide +kernel) (by decide +kernel)
set_option maxRecDepth 20000 in
theorem gX9_init_X4_init_n53 : GoodIn wsX9_init (wsX4_init) := ggX9_init_X4_init
set_option maxRecDepth 20000 in
theorem ggX9_init_X5_init : GoodIn wsX9_init wsX5_init := goodIn_r _ [87, 88, 2, 3, 45, 89, 90, 91, 92, 93, 94, 95, 96, 58, 97, 98, 143, 144, 145, 146, 147, 148, 149, 150, 151, 152, 153] (by decide +kernel) (by decide +kernel)
set_option maxRecDepth 20000 in
theorem gX9_init_X5_init_n60 : GoodIn wsX9_init (wsX5_init) := ggX9_init_X5_init
set_option maxRecDepth 20000 in
theorem ggX9_init_X7_init : GoodIn wsX9_init wsX7_init := goodIn_r _ [100, 101, 2, 3, 45, 102, 103, 104, 105, 154, 155, 156, 157, 158] (by decide +kernel) (by decide +kernel)
set_option maxRecDepth 20000 in
theorem gX9_init_X7_init_n67 : GoodIn wsX9_init (wsX7_init) := ggX9_init_X7_init

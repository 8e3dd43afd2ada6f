theorem dX10_consent_16 : decode cX10_consent 16 = .ok (.iload 4, 2) := by decide +kernel
theorem dX10_consent_18 : decode cX10_consent 18 = .ok (.invokestatic 142, 3) := by decide +kernel
theorem dX10_consent_21 : decode cX10_consent 21 = .ok (.ifCond .ne 7, 3) := by decide +kernel
theorem dX10_consent_24 : decode cX10_consent 24 = .ok (.iconst 1, 1) := by decide +kernel
theorem dX10_consent_25 : decode cX10_consent 25 = .ok (.goto 17, 3) := by decide +kernel
theorem dX10_consent_28 : decode cX10_consent 28 = .ok (.aload_n 0, 1) := by decide +kernel
theorem dX10_consent_29 : decode cX10_consent 29 = .ok (.getfield 145, 3) := by decide +kernel
theorem dX10_consent_32 : decode cX10_consent 32 = .ok (.bipush 100, 2) := by decide +kernel
theorem dX10_consent_34 : decode cX10_consent 34 = .ok (.if_icmp .ne 7, 3) := by decide +kernel
theorem dX10_consent_37 : decode cX10_consent 37 = .ok (.iconst 2, 1) := by decide +kernel
theorem dX10_consent_38 : decode cX10_consent 38 = .ok (.goto 4, 3) := by decide +kernel
theorem dX10_consent_41 : decode cX10_consent 41 = .ok (.iconst 0, 1) := by decide +kernel
theorem dX10_consent_42 : decode cX10_consent 42 = .ok (.invokevirtual 136, 3) := by decide +kernel
theorem dX10_consent_45 : decode cX10_consent 45 = .ok (.ifCond .ne 5, 3) := by decide +kernel
theorem dX10_consent_48 : decode cX10_consent 48 = .ok (.iconst 0, 1) := by decide +kernel
theorem dX10_consent_49 : decode cX10_consent 49 = .ok (.ireturn, 1) := by decide +kernel
theorem dX10_consent_50 : decode cX10_consent 50 = .ok (.aload_n 0, 1) := by decide +kernel
theorem dX10_consent_51 : decode cX10_consent 51 = .ok (.getfield 20, 3) := by decide +kernel
theorem dX10_consent_54 : decode cX10_consent 54 = .ok (.aload_n 0, 1) := by decide +kernel
theorem dX10_consent_55 : decode cX10_consent 55 = .ok (.getfield 145, 3) := by decide +kernel
theorem dX10_consent_58 : decode cX10_consent 58 = .ok (.iload_n 1, 1) := by decide +kernel
theorem dX10_consent_59 : decode cX10_consent 59 = .ok (.iastore, 1) := by decide +kernel
theorem dX10_consent_60 : decode cX10_consent 60 = .ok (.aload_n 0, 1) := by decide +kernel
theorem dX10_consent_61 : decode cX10_consent 61 = .ok (.getfield 23, 3) := by decide +kernel
theorem dX10_consent_64 : decode cX10_consent 64 = .ok (.aload_n 0, 1) := by decide +kernel
theorem dX10_consent_65 : decode cX10_consent 65 = .ok (.getfield 145, 3) := by decide +kernel
theorem dX10_consent_68 : decode cX10_consent 68 = .ok (.iload_n 2, 1) := by decide +kernel
theorem dX10_consent_69 : decode cX10_consent 69 = .ok (.iastore, 1) := by decide +kernel
theorem dX10_consent_70 : decode cX10_consent 70 = .ok (.aload_n 0, 1) := by decide +kernel
theorem dX10_consent_71 : decode cX10_consent 71 = .ok (.getfield 26, 3) := by decide +kernel
theorem dX10_consent_74 : decode cX10_consent 74 = .ok (.aload_n 0, 1) := by decide +kernel
theorem dX10_consent_75 : decode cX10_consent 75 = .ok (.getfield 145, 3) := by decide +kernel
theorem dX10_consent_78 : decode cX10_consent 78 = .ok (.iload 4, 2) := by decide +kernel
theorem dX10_consent_80 : decode cX10_consent 80 = .ok (.iastore, 1) := by decide +kernel
theorem dX10_consent_81 : decode cX10_consent 81 = .ok (.aload_n 0, 1) := by decide +kernel
theorem dX10_consent_82 : decode cX10_consent 82 = .ok (.getfield 29, 3) := by decide +kernel
theorem dX10_consent_85 : decode cX10_consent 85 = .ok (.aload_n 0, 1) := by decide +kernel
theorem dX10_consent_86 : decode cX10_consent 86 = .ok (.getfield 145, 3) := by decide +kernel
theorem dX10_consent_89 : decode cX10_consent 89 = .ok (.iload_n 3, 1) := by decide +kernel
theorem dX10_consent_90 : decode cX10_consent 90 = .ok (.bastore, 1) := by decide +kernel
theorem dX10_consent_91 : decode cX10_consent 91 = .ok (.aload_n 0, 1) := by decide +kernel
theorem dX10_consent_92 : decode cX10_consent 92 = .ok (.dup, 1) := by decide +kernel
theorem dX10_consent_93 : decode cX10_consent 93 = .ok (.getfield 145, 3) := by decide +kernel
theorem dX10_consent_96 : decode cX10_consent 96 = .ok (.iconst 1, 1) := by decide +kernel
theorem dX10_consent_97 : decode cX10_consent 97 = .ok (.iadd, 1) := by decide +kernel
theorem dX10_consent_98 : decode cX10_consent 98 = .ok (.putfield 145, 3) := by decide +kernel
theorem dX10_consent_101 : decode cX10_consent 101 = .ok (.aload_n 0, 1) := by decide +kernel
theorem dX10_consent_102 : decode cX10_consent 102 = .ok (.getfield 145, 3) := by decide +kernel
theorem dX10_consent_105 : decode cX10_consent 105 = .ok (.ireturn, 1) := by decide +kernel
set_option maxRecDepth 20000 in
theorem ggX10_contract_X10_isPerson : GoodIn wsX10_contract wsX10_isPerson := goodIn_r _ [9, 10, 11, 8, 12] (by decide +kernel) (by decide +kernel)
set_option maxRecDepth 20000 in
theorem gX10_contract_X10_isPerson : GoodIn wsX10_contract (va_wsS RX10 139 yX10_isPerson wsX10_isPerson) := goodIn_app (goodIn_of _ (by decide +kernel)) ggX10_contract_X10_isPerson
set_option maxRecDepth 20000 in
theorem ggX10_contract_X10_isPurpose : GoodIn wsX10_contract wsX10_isPurpose := goodIn_r _ [16, 17, 10, 11, 8, 12, 27, 28, 29, 30, 31, 32, 33, 34, 35, 36, 37, 38, 39, 40, 41, 42, 43, 44, 45, 46, 47, 48, 49, 50, 51, 52, 53, 54, 55, 56, 57, 58, 59, 60, 61, 62, 63, 64, 65, 66, 67, 68, 69, 70, 71] (by decide +kernel) (by decide +kernel)
set_option maxRecDepth 20000 in
theorem gX10_contract_X10_isPurpose : GoodIn wsX10_contract (wsV RX10 132 RX10 yX10_isPurpose wsX10_isPurpose) := goodIn_app (goodIn_of _ (by decide +kernel)) ggX10_contract_X10_isPurpose
set_option maxRecDepth 20000 in
theorem ggX10_contract_X10_isMinute : GoodIn wsX10_contract wsX10_isMinute := goodIn_r _ [20, 21, 10, 11, 8, 12] (by decide +kernel) (by decide +kernel)
set_option maxRecDepth 20000 in
theorem gX10_contract_X10_isMinute : GoodIn wsX10_contract (va_wsS RX10 142 yX10_isMinute wsX10_isMinute) := goodIn_app (goodIn_of _ (by decide +kernel)) ggX10_contract_X10_isMinute
set_option maxRecDepth 20000 in
theorem ggX10_contract_X10_says : GoodIn wsX10_contract wsX10_says := goodIn_r _ [25, 26, 27, 28, 29, 30, 31, 32, 33, 34, 35, 36, 37, 38, 39, 40, 41, 42, 43, 44, 45, 46, 47, 48, 49, 50, 51, 52, 53, 54, 55, 56, 57, 58, 59, 60, 61, 62, 63, 64, 65, 66, 67, 68, 69, 70, 71] (by decide +kernel) (by decide +kernel)
set_option maxRecDepth 20000 in
theorem gX10_contract_X10_says : GoodIn wsX10_contract (wsV RX10 136 RX10 yX10_says wsX10_says) := goodIn_app (goodIn_of _ (by decide +kernel)) ggX10_contract_X10_says
theorem dX10_contract_0 : decode cX10_contract 0 = .ok (.aload_n 0, 1) := by decide +kernel
theorem dX10_contract_1 : decode cX10_contract 1 = .ok (.iload_n 1, 1) := by decide +kernel
theorem dX10_contract_2 : decode cX10_contract 2 = .ok (.invokestatic 139, 3) := by decide +kernel
theorem dX10_contract_5 : decode cX10_contract 5 = .ok (.ifCond .eq 32, 3) := by decide +kernel
theorem dX10_contract_8 : decode cX10_contract 8 = .ok (.aload_n 0, 1) := by decide +kernel
theorem dX10_contract_9 : decode cX10_contract 9 = .ok (.iload_n 2, 1) := by decide +kernel
theorem dX10_contract_10 : decode cX10_contract 10 = .ok (.invokevirtual 132, 3) := by decide +kernel
theorem dX10_contract_13 : decode cX10_contract 13 = .ok (.ifCond .eq 24, 3) := by decide +kernel
theorem dX10_contract_16 : decode cX10_contract 16 = .ok (.iload_n 3, 1) := by decide +kernel
theorem dX10_contract_17 : decode cX10_contract 17 = .ok (.invokestatic 142, 3) := by decide +kernel
theorem dX10_contract_20 : decode cX10_contract 20 = .ok (.ifCond .eq 17, 3) := by decide +kernel
theorem dX10_contract_23 : decode cX10_contract 23 = .ok (.iload 4, 2) := by decide +kernel
theorem dX10_contract_25 : decode cX10_contract 25 = .ok (.invokestatic 142, 3) := by decide +kernel
theorem dX10_contract_28 : decode cX10_contract 28 = .ok (.ifCond .eq 9, 3) := by decide +kernel
theorem dX10_contract_31 : decode cX10_contract 31 = .ok (.iload_n 3, 1) := by decide +kernel
theorem dX10_contract_32 : decode cX10_contract 32 = .ok (.iload 4, 2) := by decide +kernel
theorem dX10_contract_34 : decode cX10_contract 34 = .ok (.if_icmp .le 7, 3) := by decide +kernel
theorem dX10_contract_37 : decode cX10_contract 37 = .ok (.iconst 1, 1) := by decide +kernel
theorem dX10_contract_38 : decode cX10_contract 38 = .ok (.goto 17, 3) := by decide +kernel
theorem dX10_contract_41 : decode cX10_contract 41 = .ok (.aload_n 0, 1) := by decide +kernel
theorem dX10_contract_42 : decode cX10_contract 42 = .ok (.getfield 148, 3) := by decide +kernel
theorem dX10_contract_45 : decode cX10_contract 45 = .ok (.bipush 40, 2) := by decide +kernel
theorem dX10_contract_47 : decode cX10_contract 47 = .ok (.if_icmp .ne 7, 3) := by decide +kernel
theorem dX10_contract_50 : decode cX10_contract 50 = .ok (.iconst 2, 1) := by decide +kernel
theorem dX10_contract_51 : decode cX10_contract 51 = .ok (.goto 4, 3) := by decide +kernel
theorem dX10_contract_54 : decode cX10_contract 54 = .ok (.iconst 0, 1) := by decide +kernel
theorem dX10_contract_55 : decode cX10_contract 55 = .ok (.invokevirtual 136, 3) := by decide +kernel
theorem dX10_contract_58 : decode cX10_contract 58 = .ok (.ifCond .ne 5, 3) := by decide +kernel
theorem dX10_contract_61 : decode cX10_contract 61 = .ok (.iconst 0, 1) := by decide +kernel
theorem dX10_contract_62 : decode cX10_contract 62 = .ok (.ireturn, 1) := by decide +kernel
theorem dX10_contract_63 : decode cX10_contract 63 = .ok (.aload_n 0, 1) := by decide +kernel
theorem dX10_contract_64 : decode cX10_contract 64 = .ok (.getfield 33, 3) := by decide +kernel
theorem dX10_contract_67 : decode cX10_contract 67 = .ok (.aload_n 0, 1) := by decide +kernel
theorem dX10_contract_68 : decode cX10_contract 68 = .ok (.getfield 148, 3) := by decide +kernel
theorem dX10_contract_71 : decode cX10_contract 71 = .ok (.iload_n 1, 1) := by decide +kernel
theorem dX10_contract_72 : decode cX10_contract 72 = .ok (.iastore, 1) := by decide +kernel
theorem dX10_contract_73 : decode cX10_contract 73 = .ok (.aload_n 0, 1) := by decide +kernel
theorem dX10_contract_74 : decode cX10_contract 74 = .ok (.getfield 36, 3) := by decide +kernel
theorem dX10_contract_77 : decode cX10_contract 77 = .ok (.aload_n 0, 1) := by decide +kernel
theorem dX10_contract_78 : decode cX10_contract 78 = .ok (.getfield 148, 3) := by decide +kernel
theorem dX10_contract_81 : decode cX10_contract 81 = .ok (.iload_n 2, 1) := by decide +kernel
theorem dX10_contract_82 : decode cX10_contract 82 = .ok (.iastore, 1) := by decide +kernel
theorem dX10_contract_83 : decode cX10_contract 83 = .ok (.aload_n 0, 1) := by decide +kernel
theorem dX10_contract_84 : decode cX10_contract 84 = .ok (.getfield 39, 3) := by decide +kernel
theorem dX10_contract_87 : decode cX10_contract 87 = .ok (.aload_n 0, 1) := by decide +kernel
theorem dX10_contract_88 : decode cX10_contract 88 = .ok (.getfield 148, 3) := by decide +kernel
theorem dX10_contract_91 : decode cX10_contract 91 = .ok (.iload_n 3, 1) := by decide +kernel
theorem dX10_contract_92 : decode cX10_contract 92 = .ok (.iastore, 1) := by decide +kernel
theorem dX10_contract_93 : decode cX10_contract 93 = .ok (.aload_n 0, 1) := by decide +kernel
theorem dX10_contract_94 : decode cX10_contract 94 = .ok (.getfield 42, 3) := by decide +kernel
theorem dX10_contract_97 : decode cX10_contract 97 = .ok (.aload_n 0, 1) := by decide +kernel
theorem dX10_contract_98 : decode cX10_contract 98 = .ok (.getfield 148, 3) := by decide +kernel
theorem dX10_contract_101 : decode cX10_contract 101 = .ok (.iload 4, 2) := by decide +kernel
theorem dX10_contract_103 : decode cX10_contract 103 = .ok (.iastore, 1) := by decide +kernel
theorem dX10_contract_104 : decode cX10_contract 104 = .ok (.aload_n 0, 1) := by decide +kernel
theorem dX10_contract_105 : decode cX10_contract 105 = .ok (.dup, 1) := by decide +kernel
theorem dX10_contract_106 : decode cX10_contract 106 = .ok (.getfield 148, 3) := by decide +kernel
theorem dX10_contract_109 : decode cX10_contract 109 = .ok (.iconst 1, 1) := by decide +kernel
theorem dX10_contract_110 : decode cX10_contract 110 = .ok (.iadd, 1) := by decide +kernel
theorem dX10_contract_111 : decode cX10_contract 111 = .ok (.putfield 148, 3) := by decide +kernel
theorem dX10_contract_114 : decode cX10_contract 114 = .ok (.aload_n 0, 1) := by decide +kernel
theorem dX10_contract_115 : decode cX10_contract 115 = .ok (.getfield 148, 3) := by decide +kernel
theorem dX10_contract_118 : decode cX10_contract 118 = .ok (.ireturn, 1) := by decide +kernel
set_option maxRecDepth 20000 in
theorem ggX10_duty_X10_isKind : GoodIn wsX10_duty wsX10_isKind := goodIn_r _ [9, 10, 11, 12, 8, 13, 24, 25, 26, 27, 28, 29, 30, 31, 32, 33, 34, 35, 36, 37, 38, 39, 40, 41, 42, 43, 44, 45, 46, 47, 48, 49, 50, 51, 52, 53, 54, 55, 56, 57, 58, 59, 60, 61, 62, 63, 64, 65, 66, 67, 68] (by decide +kernel) (by decide +kernel)
set_option maxRecDepth 20000 in
theorem gX10_duty_X10_isKind : GoodIn wsX10_duty (wsV RX10 151 RX10 yX10_isKind wsX10_isKind) := goodIn_app (goodIn_of _ (by decide +kernel)) ggX10_duty_X10_isKind
set_option maxRecDepth 20000 in
theorem ggX10_duty_X10_isPurpose : GoodIn wsX10_duty wsX10_isPurpose := goodIn_r _ [17, 18, 11, 12, 8, 13, 24, 25, 26, 27, 28, 29, 30, 31, 32, 33, 34, 35, 36, 37, 38, 39, 40, 41, 42, 43, 44, 45, 46, 47, 48, 49, 50, 51, 52, 53, 54, 55, 56, 57, 58, 59, 60, 61, 62, 63, 64, 65, 66, 67, 68] (by decide +kernel) (by decide +kernel)
set_option maxRecDepth 20000 in
theorem gX10_duty_X10_isPurpose : GoodIn wsX10_duty (wsV RX10 132 RX10 yX10_isPurpose wsX10_isPurpose) := goodIn_app (goodIn_of _ (by decide +kernel)) ggX10_duty_X10_isPurpose
set_option maxRecDepth 20000 in
theorem ggX10_duty_X10_in : GoodIn wsX10_duty wsX10_in := goodIn_r _ [13] (by decide +kernel) (by decide +kernel)
set_option maxRecDepth 20000 in
theorem gX10_duty_X10_in : GoodIn wsX10_duty (va_wsS RX10 124 yX10_in wsX10_in) := goodIn_app (goodIn_of _ (by decide +kernel)) ggX10_duty_X10_in
set_option maxRecDepth 20000 in
theorem ggX10_duty_X10_says : GoodIn wsX10_duty wsX10_says := goodIn_r _ [22, 23, 24, 25, 26, 27, 28, 29, 30, 31, 32, 33, 34, 35, 36, 37, 38, 39, 40, 41, 42, 43, 44, 45, 46, 47, 48, 49, 50, 51, 52, 53, 54, 55, 56, 57, 58, 59, 60, 61, 62, 63, 64, 65, 66, 67, 68] (by decide +kernel) (by decide +kernel)
set_option maxRecDepth 20000 in
theorem gX10_duty_X10_says : GoodIn wsX10_duty (wsV RX10 136 RX10 yX10_says wsX10_says) := goodIn_app (goodIn_of _ (by decide +kernel)) ggX10_duty_X10_says
theorem dX10_duty_0 : decode cX10_duty 0 = .ok (.aload_n 0, 1) := by decide +kernel
theorem dX10_duty_1 : decode cX10_duty 1 = .ok (.aload_n 0, 1) := by decide +kernel
theorem dX10_duty_2 : decode cX10_duty 2 = .ok (.iload_n 1, 1) := by decide +kernel
theorem dX10_duty_3 : decode cX10_duty 3 = .ok (.invokevirtual 151, 3) := by decide +kernel
theorem dX10_duty_6 : decode cX10_duty 6 = .ok (.ifCond .eq 22, 3) := by decide +kernel
theorem dX10_duty_9 : decode cX10_duty 9 = .ok (.aload_n 0, 1) := by decide +kernel
theorem dX10_duty_10 : decode cX10_duty 10 = .ok (.iload_n 2, 1) := by decide +kernel
theorem dX10_duty_11 : decode cX10_duty 11 = .ok (.invokevirtual 132, 3) := by decide +kernel
theorem dX10_duty_14 : decode cX10_duty 14 = .ok (.ifCond .eq 14, 3) := by decide +kernel
theorem dX10_duty_17 : decode cX10_duty 17 = .ok (.iload_n 3, 1) := by decide +kernel
theorem dX10_duty_18 : decode cX10_duty 18 = .ok (.iconst 1, 1) := by decide +kernel
theorem dX10_duty_19 : decode cX10_duty 19 = .ok (.sipush 5000, 3) := by decide +kernel
theorem dX10_duty_22 : decode cX10_duty 22 = .ok (.invokestatic 124, 3) := by decide +kernel
theorem dX10_duty_25 : decode cX10_duty 25 = .ok (.ifCond .ne 7, 3) := by decide +kernel
theorem dX10_duty_28 : decode cX10_duty 28 = .ok (.iconst 1, 1) := by decide +kernel
theorem dX10_duty_29 : decode cX10_duty 29 = .ok (.goto 17, 3) := by decide +kernel
theorem dX10_duty_32 : decode cX10_duty 32 = .ok (.aload_n 0, 1) := by decide +kernel
theorem dX10_duty_33 : decode cX10_duty 33 = .ok (.getfield 154, 3) := by decide +kernel
theorem dX10_duty_36 : decode cX10_duty 36 = .ok (.bipush 20, 2) := by decide +kernel
theorem dX10_duty_38 : decode cX10_duty 38 = .ok (.if_icmp .ne 7, 3) := by decide +kernel
theorem dX10_duty_41 : decode cX10_duty 41 = .ok (.iconst 2, 1) := by decide +kernel
theorem dX10_duty_42 : decode cX10_duty 42 = .ok (.goto 4, 3) := by decide +kernel
theorem dX10_duty_45 : decode cX10_duty 45 = .ok (.iconst 0, 1) := by decide +kernel
theorem dX10_duty_46 : decode cX10_duty 46 = .ok (.invokevirtual 136, 3) := by decide +kernel
theorem dX10_duty_49 : decode cX10_duty 49 = .ok (.ifCond .ne 5, 3) := by decide +kernel
theorem dX10_duty_52 : decode cX10_duty 52 = .ok (.iconst 0, 1) := by decide +kernel
theorem dX10_duty_53 : decode cX10_duty 53 = .ok (.ireturn, 1) := by decide +kernel
theorem dX10_duty_54 : decode cX10_duty 54 = .ok (.aload_n 0, 1) := by decide +kernel
theorem dX10_duty_55 : decode cX10_duty 55 = .ok (.getfield 45, 3) := by decide +kernel
theorem dX10_duty_58 : decode cX10_duty 58 = .ok (.aload_n 0, 1) := by decide +kernel
theorem dX10_duty_59 : decode cX10_duty 59 = .ok (.getfield 154, 3) := by decide +kernel
theorem dX10_duty_62 : decode cX10_duty 62 = .ok (.iload_n 1, 1) := by decide +kernel
theorem dX10_duty_63 : decode cX10_duty 63 = .ok (.iastore, 1) := by decide +kernel
theorem dX10_duty_64 : decode cX10_duty 64 = .ok (.aload_n 0, 1) := by decide +kernel
theorem dX10_duty_65 : decode cX10_duty 65 = .ok (.getfield 48, 3) := by decide +kernel
theorem dX10_duty_68 : decode cX10_duty 68 = .ok (.aload_n 0, 1) := by decide +kernel
theorem dX10_duty_69 : decode cX10_duty 69 = .ok (.getfield 154, 3) := by decide +kernel
theorem dX10_duty_72 : decode cX10_duty 72 = .ok (.iload_n 2, 1) := by decide +kernel
theorem dX10_duty_73 : decode cX10_duty 73 = .ok (.iastore, 1) := by decide +kernel
theorem dX10_duty_74 : decode cX10_duty 74 = .ok (.aload_n 0, 1) := by decide +kernel
theorem dX10_duty_75 : decode cX10_duty 75 = .ok (.getfield 51, 3) := by decide +kernel
theorem dX10_duty_78 : decode cX10_duty 78 = .ok (.aload_n 0, 1) := by decide +kernel
theorem dX10_duty_79 : decode cX10_duty 79 = .ok (.getfield 154, 3) := by decide +kernel
theorem dX10_duty_82 : decode cX10_duty 82 = .ok (.iload_n 3, 1) := by decide +kernel
theorem dX10_duty_83 : decode cX10_duty 83 = .ok (.iastore, 1) := by decide +kernel
theorem dX10_duty_84 : decode cX10_duty 84 = .ok (.aload_n 0, 1) := by decide +kernel
theorem dX10_duty_85 : decode cX10_duty 85 = .ok (.dup, 1) := by decide +kernel
theorem dX10_duty_86 : decode cX10_duty 86 = .ok (.getfield 154, 3) := by decide +kernel
theorem dX10_duty_89 : decode cX10_duty 89 = .ok (.iconst 1, 1) := by decide +kernel
theorem dX10_duty_90 : decode cX10_duty 90 = .ok (.iadd, 1) := by decide +kernel
theorem dX10_duty_91 : decode cX10_duty 91 = .ok (.putfield 154, 3) := by decide +kernel
theorem dX10_duty_94 : decode cX10_duty 94 = .ok (.aload_n 0, 1) := by decide +kernel
theorem dX10_duty_95 : decode cX10_duty 95 = .ok (.getfield 154, 3) := by decide +kernel
theorem dX10_duty_98 : decode cX10_duty 98 = .ok (.ireturn, 1) := by decide +kernel
theorem dX10_add_0 : decode cX10_add 0 = .ok (.aload_n 0, 1) := by decide +kernel
theorem dX10_add_1 : decode cX10_add 1 = .ok (.getfield 54, 3) := by decide +kernel
theorem dX10_add_4 : decode cX10_add 4 = .ok (.aload_n 0, 1) := by decide +kernel
theorem dX10_add_5 : decode cX10_add 5 = .ok (.getfield 157, 3) := by decide +kernel
theorem dX10_add_8 : decode cX10_add 8 = .ok (.iload_n 1, 1) := by decide +kernel
theorem dX10_add_9 : decode cX10_add 9 = .ok (.iastore, 1) := by decide +kernel
theorem dX10_add_10 : decode cX10_add 10 = .ok (.aload_n 0, 1) := by decide +kernel
theorem dX10_add_11 : decode cX10_add 11 = .ok (.getfield 57, 3) := by decide +kernel
theorem dX10_add_14 : decode cX10_add 14 = .ok (.aload_n 0, 1) := by decide +kernel
theorem dX10_add_15 : decode cX10_add 15 = .ok (.getfield 157, 3) := by decide +kernel
theorem dX10_add_18 : decode cX10_add 18 = .ok (.iload_n 2, 1) := by decide +kernel
theorem dX10_add_19 : decode cX10_add 19 = .ok (.iastore, 1) := by decide +kernel
theorem dX10_add_20 : decode cX10_add 20 = .ok (.aload_n 0, 1) := by decide +kernel
theorem dX10_add_21 : decode cX10_add 21 = .ok (.getfield 60, 3) := by decide +kernel
theorem dX10_add_24 : decode cX10_add 24 = .ok (.aload_n 0, 1) := by decide +kernel
theorem dX10_add_25 : decode cX10_add 25 = .ok (.getfield 157, 3) := by decide +kernel
theorem dX10_add_28 : decode cX10_add 28 = .ok (.iload_n 3, 1) := by decide +kernel
theorem dX10_add_29 : decode cX10_add 29 = .ok (.iastore, 1) := by decide +kernel
theorem dX10_add_30 : decode cX10_add 30 = .ok (.aload_n 0, 1) := by decide +kernel
theorem dX10_add_31 : decode cX10_add 31 = .ok (.getfield 63, 3) := by decide +kernel
theorem dX10_add_34 : decode cX10_add 34 = .ok (.aload_n 0, 1) := by decide +kernel
theorem dX10_add_35 : decode cX10_add 35 = .ok (.getfield 157, 3) := by decide +kernel
theorem dX10_add_38 : decode cX10_add 38 = .ok (.iload 4, 2) := by decide +kernel
theorem dX10_add_40 : decode cX10_add 40 = .ok (.iastore, 1) := by decide +kernel
theorem dX10_add_41 : decode cX10_add 41 = .ok (.aload_n 0, 1) := by decide +kernel
theorem dX10_add_42 : decode cX10_add 42 = .ok (.getfield 75, 3) := by decide +kernel
theorem dX10_add_45 : decode cX10_add 45 = .ok (.aload_n 0, 1) := by decide +kernel
theorem dX10_add_46 : decode cX10_add 46 = .ok (.getfield 157, 3) := by decide +kernel
theorem dX10_add_49 : decode cX10_add 49 = .ok (.iconst 1, 1) := by decide +kernel
theorem dX10_add_50 : decode cX10_add 50 = .ok (.bastore, 1) := by decide +kernel
theorem dX10_add_51 : decode cX10_add 51 = .ok (.aload_n 0, 1) := by decide +kernel
theorem dX10_add_52 : decode cX10_add 52 = .ok (.dup, 1) := by decide +kernel
theorem dX10_add_53 : decode cX10_add 53 = .ok (.getfield 157, 3) := by decide +kernel
theorem dX10_add_56 : decode cX10_add 56 = .ok (.iconst 1, 1) := by decide +kernel
theorem dX10_add_57 : decode cX10_add 57 = .ok (.iadd, 1) := by decide +kernel
theorem dX10_add_58 : decode cX10_add 58 = .ok (.putfield 157, 3) := by decide +kernel
theorem dX10_add_61 : decode cX10_add 61 = .ok (.aload_n 0, 1) := by decide +kernel
theorem dX10_add_62 : decode cX10_add 62 = .ok (.getfield 157, 3) := by decide +kernel
theorem dX10_add_65 : decode cX10_add 65 = .ok (.iconst 1, 1) := by decide +kernel
theorem dX10_add_66 : decode cX10_add 66 = .ok (.isub, 1) := by decide +kernel
theorem dX10_add_67 : decode cX10_add 67 = .ok (.ireturn, 1) := by decide +kernel
set_option maxRecDepth 20000 in
theorem ggX10_put_X10_isPerson : GoodIn wsX10_put wsX10_isPerson := goodIn_r _ [6, 7, 8, 5, 9] (by decide +kernel) (by decide +kernel)
set_option maxRecDepth 20000 in
theorem gX10_put_X10_isPerson : GoodIn wsX10_put (va_wsS RX10 139 yX10_isPerson wsX10_isPerson) := goodIn_app (goodIn_of _ (by decide +kernel)) ggX10_put_X10_isPerson
set_option maxRecDepth 20000 in
theorem ggX10_put_X10_isKind : GoodIn wsX10_put wsX10_isKind := goodIn_r _ [13, 14, 7, 8, 5, 9, 29, 30, 31, 32, 33, 34, 35, 36, 37, 38, 39, 40, 41, 42, 43, 44, 45, 46, 47, 48, 49, 50, 51, 52, 53, 54, 55, 56, 57, 58, 59, 60, 61, 62, 63, 64, 65, 66, 67, 68, 69, 70, 71, 72, 73] (by decide +kernel) (by decide +kernel)
set_option maxRecDepth 20000 in
theorem gX10_put_X10_isKind : GoodIn wsX10_put (wsV RX10 151 RX10 yX10_isKind wsX10_isKind) := goodIn_app (goodIn_of _ (by decide +kernel)) ggX10_put_X10_isKind
set_option maxRecDepth 20000 in
theorem ggX10_put_X10_in : GoodIn wsX10_put wsX10_in := goodIn_r _ [9] (by decide +kernel) (by decide +kernel)
set_option maxRecDepth 20000 in
theorem gX10_put_X10_in : GoodIn wsX10_put (va_wsS RX10 124 yX10_in wsX10_in) := goodIn_app (goodIn_of _ (by decide +kernel)) ggX10_put_X10_in
set_option maxRecDepth 20000 in
theorem ggX10_put_X10_says : GoodIn wsX10_put wsX10_says := goodIn_r _ [18, 19, 29, 30, 31, 32, 33, 34, 35, 36, 37, 38, 39, 40, 41, 42, 43, 44, 45, 46, 47, 48, 49, 50, 51, 52, 53, 54, 55, 56, 57, 58, 59, 60, 61, 62, 63, 64, 65, 66, 67, 68, 69, 70, 71, 72, 73] (by decide +kernel) (by decide +kernel)
set_option maxRecDepth 20000 in
theorem gX10_put_X10_says : GoodIn wsX10_put (wsV RX10 136 RX10 yX10_says wsX10_says) := goodIn_app (goodIn_of _ (by decide +kernel)) ggX10_put_X10_says
set_option maxRecDepth 20000 in
theorem ggX10_put_X10_add : GoodIn wsX10_put wsX10_add := goodIn_r _ [23, 24, 1, 25, 26, 27, 28, 29, 30, 31, 32, 33, 34, 35, 36, 37, 38, 39, 40, 41, 42, 43, 44, 45, 46, 47, 48, 49, 50, 51, 52, 53, 54, 55, 56, 57, 58, 59, 60, 61, 62, 63, 64, 65, 66, 67, 68, 69, 70, 71, 72, 73] (by decide +kernel) (by decide +kernel)
set_option maxRecDepth 20000 in
theorem gX10_put_X10_add : GoodIn wsX10_put (wsV RX10 160 RX10 yX10_add wsX10_add) := goodIn_app (goodIn_of _ (by decide +kernel)) ggX10_put_X10_add
theorem dX10_put_0 : decode cX10_put 0 = .ok (.aload_n 0, 1) := by decide +kernel
theorem dX10_put_1 : decode cX10_put 1 = .ok (.iload_n 1, 1) := by decide +kernel
theorem dX10_put_2 : decode cX10_put 2 = .ok (.invokestatic 139, 3) := by decide +kernel
theorem dX10_put_5 : decode cX10_put 5 = .ok (.ifCond .eq 23, 3) := by decide +kernel
theorem dX10_put_8 : decode cX10_put 8 = .ok (.aload_n 0, 1) := by decide +kernel
theorem dX10_put_9 : decode cX10_put 9 = .ok (.iload_n 2, 1) := by decide +kernel
theorem dX10_put_10 : decode cX10_put 10 = .ok (.invokevirtual 151, 3) := by decide +kernel
theorem dX10_put_13 : decode cX10_put 13 = .ok (.ifCond .eq 15, 3) := by decide +kernel
theorem dX10_put_16 : decode cX10_put 16 = .ok (.iload 4, 2) := by decide +kernel
theorem dX10_put_18 : decode cX10_put 18 = .ok (.iconst 0, 1) := by decide +kernel
theorem dX10_put_19 : decode cX10_put 19 = .ok (.sipush 6944, 3) := by decide +kernel
theorem dX10_put_22 : decode cX10_put 22 = .ok (.invokestatic 124, 3) := by decide +kernel
theorem dX10_put_25 : decode cX10_put 25 = .ok (.ifCond .ne 7, 3) := by decide +kernel
theorem dX10_put_28 : decode cX10_put 28 = .ok (.iconst 1, 1) := by decide +kernel
theorem dX10_put_29 : decode cX10_put 29 = .ok (.goto 17, 3) := by decide +kernel
theorem dX10_put_32 : decode cX10_put 32 = .ok (.aload_n 0, 1) := by decide +kernel
theorem dX10_put_33 : decode cX10_put 33 = .ok (.getfield 157, 3) := by decide +kernel
theorem dX10_put_36 : decode cX10_put 36 = .ok (.bipush 100, 2) := by decide +kernel
theorem dX10_put_38 : decode cX10_put 38 = .ok (.if_icmp .ne 7, 3) := by decide +kernel
theorem dX10_put_41 : decode cX10_put 41 = .ok (.iconst 2, 1) := by decide +kernel
theorem dX10_put_42 : decode cX10_put 42 = .ok (.goto 4, 3) := by decide +kernel
theorem dX10_put_45 : decode cX10_put 45 = .ok (.iconst 0, 1) := by decide +kernel
theorem dX10_put_46 : decode cX10_put 46 = .ok (.invokevirtual 136, 3) := by decide +kernel
theorem dX10_put_49 : decode cX10_put 49 = .ok (.ifCond .ne 5, 3) := by decide +kernel
theorem dX10_put_52 : decode cX10_put 52 = .ok (.iconst 0, 1) := by decide +kernel
theorem dX10_put_53 : decode cX10_put 53 = .ok (.ireturn, 1) := by decide +kernel
theorem dX10_put_54 : decode cX10_put 54 = .ok (.aload_n 0, 1) := by decide +kernel
theorem dX10_put_55 : decode cX10_put 55 = .ok (.getfield 72, 3) := by decide +kernel
theorem dX10_put_58 : decode cX10_put 58 = .ok (.aload_n 0, 1) := by decide +kernel
theorem dX10_put_59 : decode cX10_put 59 = .ok (.getfield 157, 3) := by decide +kernel
theorem dX10_put_62 : decode cX10_put 62 = .ok (.iload_n 3, 1) := by decide +kernel
theorem dX10_put_63 : decode cX10_put 63 = .ok (.iastore, 1) := by decide +kernel
theorem dX10_put_64 : decode cX10_put 64 = .ok (.aload_n 0, 1) := by decide +kernel
theorem dX10_put_65 : decode cX10_put 65 = .ok (.iconst (-1), 1) := by decide +kernel
theorem dX10_put_66 : decode cX10_put 66 = .ok (.iload_n 2, 1) := by decide +kernel
theorem dX10_put_67 : decode cX10_put 67 = .ok (.iload 4, 2) := by decide +kernel
theorem dX10_put_69 : decode cX10_put 69 = .ok (.iconst 1, 1) := by decide +kernel
theorem dX10_put_70 : decode cX10_put 70 = .ok (.iload_n 1, 1) := by decide +kernel
theorem dX10_put_71 : decode cX10_put 71 = .ok (.ishl, 1) := by decide +kernel
theorem dX10_put_72 : decode cX10_put 72 = .ok (.invokevirtual 160, 3) := by decide +kernel
theorem dX10_put_75 : decode cX10_put 75 = .ok (.ireturn, 1) := by decide +kernel
set_option maxRecDepth 20000 in
theorem ggX10_isLiving_X10_in : GoodIn wsX10_isLiving wsX10_in := goodIn_r _ [6] (by decide +kernel) (by decide +kernel)
set_option maxRecDepth 20000 in
theorem gX10_isLiving_X10_in : GoodIn wsX10_isLiving (va_wsS RX10 124 yX10_in wsX10_in) := goodIn_app (goodIn_of _ (by decide +kernel)) ggX10_isLiving_X10_in
theorem dX10_isLiving_0 : decode cX10_isLiving 0 = .ok (.iload_n 1, 1) := by decide +kernel
theorem dX10_isLiving_1 : decode cX10_isLiving 1 = .ok (.iconst 0, 1) := by decide +kernel
theorem dX10_isLiving_2 : decode cX10_isLiving 2 = .ok (.aload_n 0, 1) := by decide +kernel
theorem dX10_isLiving_3 : decode cX10_isLiving 3 = .ok (.getfield 157, 3) := by decide +kernel
theorem dX10_isLiving_6 : decode cX10_isLiving 6 = .ok (.iconst 1, 1) := by decide +kernel
theorem dX10_isLiving_7 : decode cX10_isLiving 7 = .ok (.isub, 1) := by decide +kernel
theorem dX10_isLiving_8 : decode cX10_isLiving 8 = .ok (.invokestatic 124, 3) := by decide +kernel
theorem dX10_isLiving_11 : decode cX10_isLiving 11 = .ok (.ifCond .eq 16, 3) := by decide +kernel
theorem dX10_isLiving_14 : decode cX10_isLiving 14 = .ok (.aload_n 0, 1) := by decide +kernel
theorem dX10_isLiving_15 : decode cX10_isLiving 15 = .ok (.getfield 75, 3) := by decide +kernel
theorem dX10_isLiving_18 : decode cX10_isLiving 18 = .ok (.iload_n 1, 1) := by decide +kernel
theorem dX10_isLiving_19 : decode cX10_isLiving 19 = .ok (.baload, 1) := by decide +kernel
theorem dX10_isLiving_20 : decode cX10_isLiving 20 = .ok (.ifCond .eq 7, 3) := by decide +kernel
theorem dX10_isLiving_23 : decode cX10_isLiving 23 = .ok (.iconst 1, 1) := by decide +kernel
theorem dX10_isLiving_24 : decode cX10_isLiving 24 = .ok (.goto 4, 3) := by decide +kernel
theorem dX10_isLiving_27 : decode cX10_isLiving 27 = .ok (.iconst 0, 1) := by decide +kernel
theorem dX10_isLiving_28 : decode cX10_isLiving 28 = .ok (.ireturn, 1) := by decide +kernel
set_option maxRecDepth 20000 in
theorem ggX10_derive_X10_in : GoodIn wsX10_derive wsX10_in := goodIn_r _ [10] (by decide +kernel) (by decide +kernel)
set_option maxRecDepth 20000 in
theorem gX10_derive_X10_in : GoodIn wsX10_derive (va_wsS RX10 124 yX10_in wsX10_in) := goodIn_app (goodIn_of _ (by decide +kernel)) ggX10_derive_X10_in
set_option maxRecDepth 20000 in
theorem ggX10_derive_X10_isLiving : GoodIn wsX10_derive wsX10_isLiving := goodIn_r _ [14, 1, 15, 7, 8, 9, 10, 26, 27, 28, 29, 30, 31, 32, 33, 34, 35, 36, 37, 38, 39, 40, 41, 42, 43, 44, 45, 46, 47, 48, 49, 50, 51, 52, 53, 54, 55, 56, 57, 58, 59, 60, 61, 62, 63, 64, 65, 66, 67, 68, 69, 70] (by decide +kernel) (by decide +kernel)
set_option maxRecDepth 20000 in
theorem gX10_derive_X10_isLiving : GoodIn wsX10_derive (wsV RX10 164 RX10 yX10_isLiving wsX10_isLiving) := goodIn_app (goodIn_of _ (by decide +kernel)) ggX10_derive_X10_isLiving
set_option maxRecDepth 20000 in
theorem ggX10_derive_X10_says : GoodIn wsX10_derive wsX10_says := goodIn_r _ [19, 20, 26, 27, 28, 29, 30, 31, 32, 33, 34, 35, 36, 37, 38, 39, 40, 41, 42, 43, 44, 45, 46, 47, 48, 49, 50, 51, 52, 53, 54, 55, 56, 57, 58, 59, 60, 61, 62, 63, 64, 65, 66, 67, 68, 69, 70] (by decide +kernel) (by decide +kernel)
set_option maxRecDepth 20000 in
theorem gX10_derive_X10_says : GoodIn wsX10_derive (wsV RX10 136 RX10 yX10_says wsX10_says) := goodIn_app (goodIn_of _ (by decide +kernel)) ggX10_derive_X10_says
set_option maxRecDepth 20000 in
theorem ggX10_derive_X10_add : GoodIn wsX10_derive wsX10_add := goodIn_r _ [24, 25, 1, 5, 4, 6, 15, 26, 27, 28, 29, 30, 31, 32, 33, 34, 35, 36, 37, 38, 39, 40, 41, 42, 43, 44, 45, 46, 47, 48, 49, 50, 51, 52, 53, 54, 55, 56, 57, 58, 59, 60, 61, 62, 63, 64, 65, 66, 67, 68, 69, 70] (by decide +kernel) (by decide +kernel)
set_option maxRecDepth 20000 in
theorem gX10_derive_X10_add : GoodIn wsX10_derive (wsV RX10 160 RX10 yX10_add wsX10_add) := goodIn_app (goodIn_of _ (by decide +kernel)) ggX10_derive_X10_add
theorem dX10_derive_0 : decode cX10_derive 0 = .ok (.iload_n 1, 1) := by decide +kernel
theorem dX10_derive_1 : decode cX10_derive 1 = .ok (.ifCond .ne 7, 3) := by decide +kernel
theorem dX10_derive_4 : decode cX10_derive 4 = .ok (.iconst 1, 1) := by decide +kernel
theorem dX10_derive_5 : decode cX10_derive 5 = .ok (.goto 4, 3) := by decide +kernel
theorem dX10_derive_8 : decode cX10_derive 8 = .ok (.iconst 0, 1) := by decide +kernel
theorem dX10_derive_9 : decode cX10_derive 9 = .ok (.istore 4, 2) := by decide +kernel
theorem dX10_derive_11 : decode cX10_derive 11 = .ok (.iload 4, 2) := by decide +kernel
theorem dX10_derive_13 : decode cX10_derive 13 = .ok (.ifCond .eq 7, 3) := by decide +kernel
theorem dX10_derive_16 : decode cX10_derive 16 = .ok (.iload_n 2, 1) := by decide +kernel
theorem dX10_derive_17 : decode cX10_derive 17 = .ok (.goto 4, 3) := by decide +kernel
theorem dX10_derive_20 : decode cX10_derive 20 = .ok (.iload_n 3, 1) := by decide +kernel
theorem dX10_derive_21 : decode cX10_derive 21 = .ok (.istore 5, 2) := by decide +kernel
theorem dX10_derive_23 : decode cX10_derive 23 = .ok (.iload_n 1, 1) := by decide +kernel
theorem dX10_derive_24 : decode cX10_derive 24 = .ok (.iconst 0, 1) := by decide +kernel
theorem dX10_derive_25 : decode cX10_derive 25 = .ok (.iconst 2, 1) := by decide +kernel
theorem dX10_derive_26 : decode cX10_derive 26 = .ok (.invokestatic 124, 3) := by decide +kernel
theorem dX10_derive_29 : decode cX10_derive 29 = .ok (.ifCond .eq 13, 3) := by decide +kernel
theorem dX10_derive_32 : decode cX10_derive 32 = .ok (.iload 4, 2) := by decide +kernel
theorem dX10_derive_34 : decode cX10_derive 34 = .ok (.ifCond .ne 12, 3) := by decide +kernel
theorem dX10_derive_37 : decode cX10_derive 37 = .ok (.iload_n 2, 1) := by decide +kernel
theorem dX10_derive_38 : decode cX10_derive 38 = .ok (.iload_n 3, 1) := by decide +kernel
theorem dX10_derive_39 : decode cX10_derive 39 = .ok (.if_icmp .ne 7, 3) := by decide +kernel
theorem dX10_derive_42 : decode cX10_derive 42 = .ok (.iconst 1, 1) := by decide +kernel
theorem dX10_derive_43 : decode cX10_derive 43 = .ok (.goto 4, 3) := by decide +kernel
theorem dX10_derive_46 : decode cX10_derive 46 = .ok (.iconst 0, 1) := by decide +kernel
theorem dX10_derive_47 : decode cX10_derive 47 = .ok (.istore 6, 2) := by decide +kernel
theorem dX10_derive_49 : decode cX10_derive 49 = .ok (.aload_n 0, 1) := by decide +kernel
theorem dX10_derive_50 : decode cX10_derive 50 = .ok (.iload 6, 2) := by decide +kernel
theorem dX10_derive_52 : decode cX10_derive 52 = .ok (.ifCond .eq 7, 3) := by decide +kernel
theorem dX10_derive_55 : decode cX10_derive 55 = .ok (.iconst 2, 1) := by decide +kernel
theorem dX10_derive_56 : decode cX10_derive 56 = .ok (.goto 38, 3) := by decide +kernel
theorem dX10_derive_59 : decode cX10_derive 59 = .ok (.aload_n 0, 1) := by decide +kernel
theorem dX10_derive_60 : decode cX10_derive 60 = .ok (.iload_n 2, 1) := by decide +kernel
theorem dX10_derive_61 : decode cX10_derive 61 = .ok (.invokevirtual 164, 3) := by decide +kernel
theorem dX10_derive_64 : decode cX10_derive 64 = .ok (.ifCond .eq 12, 3) := by decide +kernel
theorem dX10_derive_67 : decode cX10_derive 67 = .ok (.aload_n 0, 1) := by decide +kernel
theorem dX10_derive_68 : decode cX10_derive 68 = .ok (.iload 5, 2) := by decide +kernel
theorem dX10_derive_70 : decode cX10_derive 70 = .ok (.invokevirtual 164, 3) := by decide +kernel
theorem dX10_derive_73 : decode cX10_derive 73 = .ok (.ifCond .ne 7, 3) := by decide +kernel
theorem dX10_derive_76 : decode cX10_derive 76 = .ok (.iconst 1, 1) := by decide +kernel
theorem dX10_derive_77 : decode cX10_derive 77 = .ok (.goto 17, 3) := by decide +kernel
theorem dX10_derive_80 : decode cX10_derive 80 = .ok (.aload_n 0, 1) := by decide +kernel
theorem dX10_derive_81 : decode cX10_derive 81 = .ok (.getfield 157, 3) := by decide +kernel
theorem dX10_derive_84 : decode cX10_derive 84 = .ok (.bipush 100, 2) := by decide +kernel
theorem dX10_derive_86 : decode cX10_derive 86 = .ok (.if_icmp .ne 7, 3) := by decide +kernel
theorem dX10_derive_89 : decode cX10_derive 89 = .ok (.iconst 3, 1) := by decide +kernel
theorem dX10_derive_90 : decode cX10_derive 90 = .ok (.goto 4, 3) := by decide +kernel
theorem dX10_derive_93 : decode cX10_derive 93 = .ok (.iconst 0, 1) := by decide +kernel
theorem dX10_derive_94 : decode cX10_derive 94 = .ok (.invokevirtual 136, 3) := by decide +kernel
theorem dX10_derive_97 : decode cX10_derive 97 = .ok (.ifCond .ne 5, 3) := by decide +kernel
theorem dX10_derive_100 : decode cX10_derive 100 = .ok (.iconst 0, 1) := by decide +kernel
theorem dX10_derive_101 : decode cX10_derive 101 = .ok (.ireturn, 1) := by decide +kernel
theorem dX10_derive_102 : decode cX10_derive 102 = .ok (.aload_n 0, 1) := by decide +kernel
theorem dX10_derive_103 : decode cX10_derive 103 = .ok (.getfield 66, 3) := by decide +kernel
theorem dX10_derive_106 : decode cX10_derive 106 = .ok (.aload_n 0, 1) := by decide +kernel
theorem dX10_derive_107 : decode cX10_derive 107 = .ok (.getfield 157, 3) := by decide +kernel
theorem dX10_derive_110 : decode cX10_derive 110 = .ok (.iload_n 2, 1) := by decide +kernel
theorem dX10_derive_111 : decode cX10_derive 111 = .ok (.iastore, 1) := by decide +kernel
theorem dX10_derive_112 : decode cX10_derive 112 = .ok (.aload_n 0, 1) := by decide +kernel
theorem dX10_derive_113 : decode cX10_derive 113 = .ok (.getfield 69, 3) := by decide +kernel
theorem dX10_derive_116 : decode cX10_derive 116 = .ok (.aload_n 0, 1) := by decide +kernel
theorem dX10_derive_117 : decode cX10_derive 117 = .ok (.getfield 157, 3) := by decide +kernel
theorem dX10_derive_120 : decode cX10_derive 120 = .ok (.iload 5, 2) := by decide +kernel
theorem dX10_derive_122 : decode cX10_derive 122 = .ok (.iastore, 1) := by decide +kernel
theorem dX10_derive_123 : decode cX10_derive 123 = .ok (.aload_n 0, 1) := by decide +kernel
theorem dX10_derive_124 : decode cX10_derive 124 = .ok (.getfield 60, 3) := by decide +kernel
theorem dX10_derive_127 : decode cX10_derive 127 = .ok (.iload_n 2, 1) := by decide +kernel
theorem dX10_derive_128 : decode cX10_derive 128 = .ok (.iaload, 1) := by decide +kernel
theorem dX10_derive_129 : decode cX10_derive 129 = .ok (.aload_n 0, 1) := by decide +kernel
theorem dX10_derive_130 : decode cX10_derive 130 = .ok (.getfield 60, 3) := by decide +kernel
theorem dX10_derive_133 : decode cX10_derive 133 = .ok (.iload 5, 2) := by decide +kernel
theorem dX10_derive_135 : decode cX10_derive 135 = .ok (.iaload, 1) := by decide +kernel
theorem dX10_derive_136 : decode cX10_derive 136 = .ok (.if_icmp .le 12, 3) := by decide +kernel
theorem dX10_derive_139 : decode cX10_derive 139 = .ok (.aload_n 0, 1) := by decide +kernel
theorem dX10_derive_140 : decode cX10_derive 140 = .ok (.getfield 60, 3) := by decide +kernel
theorem dX10_derive_143 : decode cX10_derive 143 = .ok (.iload_n 2, 1) := by decide +kernel
theorem dX10_derive_144 : decode cX10_derive 144 = .ok (.iaload, 1) := by decide +kernel
theorem dX10_derive_145 : decode cX10_derive 145 = .ok (.goto 10, 3) := by decide +kernel
theorem dX10_derive_148 : decode cX10_derive 148 = .ok (.aload_n 0, 1) := by decide +kernel
theorem dX10_derive_149 : decode cX10_derive 149 = .ok (.getfield 60, 3) := by decide +kernel
theorem dX10_derive_152 : decode cX10_derive 152 = .ok (.iload 5, 2) := by decide +kernel
theorem dX10_derive_154 : decode cX10_derive 154 = .ok (.iaload, 1) := by decide +kernel
theorem dX10_derive_155 : decode cX10_derive 155 = .ok (.istore 7, 2) := by decide +kernel
theorem dX10_derive_157 : decode cX10_derive 157 = .ok (.aload_n 0, 1) := by decide +kernel
theorem dX10_derive_158 : decode cX10_derive 158 = .ok (.iload_n 1, 1) := by decide +kernel
theorem dX10_derive_159 : decode cX10_derive 159 = .ok (.aload_n 0, 1) := by decide +kernel
theorem dX10_derive_160 : decode cX10_derive 160 = .ok (.getfield 57, 3) := by decide +kernel
theorem dX10_derive_163 : decode cX10_derive 163 = .ok (.iload_n 2, 1) := by decide +kernel
theorem dX10_derive_164 : decode cX10_derive 164 = .ok (.iaload, 1) := by decide +kernel
theorem dX10_derive_165 : decode cX10_derive 165 = .ok (.iload 7, 2) := by decide +kernel
theorem dX10_derive_167 : decode cX10_derive 167 = .ok (.aload_n 0, 1) := by decide +kernel
theorem dX10_derive_168 : decode cX10_derive 168 = .ok (.getfield 63, 3) := by decide +kernel
theorem dX10_derive_171 : decode cX10_derive 171 = .ok (.iload_n 2, 1) := by decide +kernel
theorem dX10_derive_172 : decode cX10_derive 172 = .ok (.iaload, 1) := by decide +kernel
theorem dX10_derive_173 : decode cX10_derive 173 = .ok (.aload_n 0, 1) := by decide +kernel
theorem dX10_derive_174 : decode cX10_derive 174 = .ok (.getfield 63, 3) := by decide +kernel
theorem dX10_derive_177 : decode cX10_derive 177 = .ok (.iload 5, 2) := by decide +kernel
theorem dX10_derive_179 : decode cX10_derive 179 = .ok (.iaload, 1) := by decide +kernel
theorem dX10_derive_180 : decode cX10_derive 180 = .ok (.ior, 1) := by decide +kernel
theorem dX10_derive_181 : decode cX10_derive 181 = .ok (.invokevirtual 160, 3) := by decide +kernel
theorem dX10_derive_184 : decode cX10_derive 184 = .ok (.ireturn, 1) := by decide +kernel
set_option maxRecDepth 20000 in
theorem ggX10_event_X10_isPerson : GoodIn wsX10_event wsX10_isPerson := goodIn_r _ [8, 9, 10, 7, 11] (by decide +kernel) (by decide +kernel)
set_option maxRecDepth 20000 in
theorem gX10_event_X10_isPerson : GoodIn wsX10_event (va_wsS RX10 139 yX10_isPerson wsX10_isPerson) := goodIn_app (goodIn_of _ (by decide +kernel)) ggX10_event_X10_isPerson
set_option maxRecDepth 20000 in
theorem ggX10_event_X10_isKind : GoodIn wsX10_event wsX10_isKind := goodIn_r _ [15, 16, 9, 10, 7, 11, 22, 23, 24, 25, 26, 27, 28, 29, 30, 31, 32, 33, 34, 35, 36, 37, 38, 39, 40, 41, 42, 43, 44, 45, 46, 47, 48, 49, 50, 51, 52, 53, 54, 55, 56, 57, 58, 59, 60, 61, 62, 63, 64, 65, 66] (by decide +kernel) (by decide +kernel)
set_option maxRecDepth 20000 in
theorem gX10_event_X10_isKind : GoodIn wsX10_event (wsV RX10 151 RX10 yX10_isKind wsX10_isKind) := goodIn_app (goodIn_of _ (by decide +kernel)) ggX10_event_X10_isKind
set_option maxRecDepth 20000 in
theorem ggX10_event_X10_in : GoodIn wsX10_event wsX10_in := goodIn_r _ [11] (by decide +kernel) (by decide +kernel)
set_option maxRecDepth 20000 in
theorem gX10_event_X10_in : GoodIn wsX10_event (va_wsS RX10 124 yX10_in wsX10_in) := goodIn_app (goodIn_of _ (by decide +kernel)) ggX10_event_X10_in
set_option maxRecDepth 20000 in
theorem ggX10_event_X10_says : GoodIn wsX10_event wsX10_says := goodIn_r _ [20, 21, 22, 23, 24, 25, 26, 27, 28, 29, 30, 31, 32, 33, 34, 35, 36, 37, 38, 39, 40, 41, 42, 43, 44, 45, 46, 47, 48, 49, 50, 51, 52, 53, 54, 55, 56, 57, 58, 59, 60, 61, 62, 63, 64, 65, 66] (by decide +kernel) (by decide +kernel)
set_option maxRecDepth 20000 in
theorem gX10_event_X10_says : GoodIn wsX10_event (wsV RX10 136 RX10 yX10_says wsX10_says) := goodIn_app (goodIn_of _ (by decide +kernel)) ggX10_event_X10_says
theorem dX10_event_0 : decode cX10_event 0 = .ok (.aload_n 0, 1) := by decide +kernel
theorem dX10_event_1 : decode cX10_event 1 = .ok (.iload_n 1, 1) := by decide +kernel
theorem dX10_event_2 : decode cX10_event 2 = .ok (.invokestatic 139, 3) := by decide +kernel
theorem dX10_event_5 : decode cX10_event 5 = .ok (.ifCond .eq 22, 3) := by decide +kernel
theorem dX10_event_8 : decode cX10_event 8 = .ok (.aload_n 0, 1) := by decide +kernel
theorem dX10_event_9 : decode cX10_event 9 = .ok (.iload_n 2, 1) := by decide +kernel
theorem dX10_event_10 : decode cX10_event 10 = .ok (.invokevirtual 151, 3) := by decide +kernel
theorem dX10_event_13 : decode cX10_event 13 = .ok (.ifCond .eq 14, 3) := by decide +kernel
theorem dX10_event_16 : decode cX10_event 16 = .ok (.iload_n 3, 1) := by decide +kernel
theorem dX10_event_17 : decode cX10_event 17 = .ok (.iconst 0, 1) := by decide +kernel
theorem dX10_event_18 : decode cX10_event 18 = .ok (.sipush 6944, 3) := by decide +kernel
theorem dX10_event_21 : decode cX10_event 21 = .ok (.invokestatic 124, 3) := by decide +kernel
theorem dX10_event_24 : decode cX10_event 24 = .ok (.ifCond .ne 7, 3) := by decide +kernel
theorem dX10_event_27 : decode cX10_event 27 = .ok (.iconst 1, 1) := by decide +kernel
theorem dX10_event_28 : decode cX10_event 28 = .ok (.goto 17, 3) := by decide +kernel
theorem dX10_event_31 : decode cX10_event 31 = .ok (.aload_n 0, 1) := by decide +kernel
theorem dX10_event_32 : decode cX10_event 32 = .ok (.getfield 167, 3) := by decide +kernel
theorem dX10_event_35 : decode cX10_event 35 = .ok (.bipush 60, 2) := by decide +kernel
theorem dX10_event_37 : decode cX10_event 37 = .ok (.if_icmp .ne 7, 3) := by decide +kernel
theorem dX10_event_40 : decode cX10_event 40 = .ok (.iconst 2, 1) := by decide +kernel
theorem dX10_event_41 : decode cX10_event 41 = .ok (.goto 4, 3) := by decide +kernel
theorem dX10_event_44 : decode cX10_event 44 = .ok (.iconst 0, 1) := by decide +kernel
theorem dX10_event_45 : decode cX10_event 45 = .ok (.invokevirtual 136, 3) := by decide +kernel
theorem dX10_event_48 : decode cX10_event 48 = .ok (.ifCond .ne 5, 3) := by decide +kernel
theorem dX10_event_51 : decode cX10_event 51 = .ok (.iconst 0, 1) := by decide +kernel
theorem dX10_event_52 : decode cX10_event 52 = .ok (.ireturn, 1) := by decide +kernel
theorem dX10_event_53 : decode cX10_event 53 = .ok (.aload_n 0, 1) := by decide +kernel
theorem dX10_event_54 : decode cX10_event 54 = .ok (.getfield 85, 3) := by decide +kernel
theorem dX10_event_57 : decode cX10_event 57 = .ok (.aload_n 0, 1) := by decide +kernel
theorem dX10_event_58 : decode cX10_event 58 = .ok (.getfield 167, 3) := by decide +kernel
theorem dX10_event_61 : decode cX10_event 61 = .ok (.iload_n 1, 1) := by decide +kernel
theorem dX10_event_62 : decode cX10_event 62 = .ok (.iastore, 1) := by decide +kernel
theorem dX10_event_63 : decode cX10_event 63 = .ok (.aload_n 0, 1) := by decide +kernel
theorem dX10_event_64 : decode cX10_event 64 = .ok (.getfield 88, 3) := by decide +kernel
theorem dX10_event_67 : decode cX10_event 67 = .ok (.aload_n 0, 1) := by decide +kernel
theorem dX10_event_68 : decode cX10_event 68 = .ok (.getfield 167, 3) := by decide +kernel
theorem dX10_event_71 : decode cX10_event 71 = .ok (.iload_n 2, 1) := by decide +kernel
theorem dX10_event_72 : decode cX10_event 72 = .ok (.iastore, 1) := by decide +kernel
theorem dX10_event_73 : decode cX10_event 73 = .ok (.aload_n 0, 1) := by decide +kernel
theorem dX10_event_74 : decode cX10_event 74 = .ok (.getfield 91, 3) := by decide +kernel
theorem dX10_event_77 : decode cX10_event 77 = .ok (.aload_n 0, 1) := by decide +kernel
theorem dX10_event_78 : decode cX10_event 78 = .ok (.getfield 167, 3) := by decide +kernel
theorem dX10_event_81 : decode cX10_event 81 = .ok (.iload_n 3, 1) := by decide +kernel
theorem dX10_event_82 : decode cX10_event 82 = .ok (.iastore, 1) := by decide +kernel
theorem dX10_event_83 : decode cX10_event 83 = .ok (.aload_n 0, 1) := by decide +kernel
theorem dX10_event_84 : decode cX10_event 84 = .ok (.dup, 1) := by decide +kernel
theorem dX10_event_85 : decode cX10_event 85 = .ok (.getfield 167, 3) := by decide +kernel
theorem dX10_event_88 : decode cX10_event 88 = .ok (.iconst 1, 1) := by decide +kernel
theorem dX10_event_89 : decode cX10_event 89 = .ok (.iadd, 1) := by decide +kernel
theorem dX10_event_90 : decode cX10_event 90 = .ok (.putfield 167, 3) := by decide +kernel
theorem dX10_event_93 : decode cX10_event 93 = .ok (.aload_n 0, 1) := by decide +kernel
theorem dX10_event_94 : decode cX10_event 94 = .ok (.getfield 167, 3) := by decide +kernel
theorem dX10_event_97 : decode cX10_event 97 = .ok (.ireturn, 1) := by decide +kernel
set_option maxRecDepth 20000 in
theorem ggX10_hold_X10_isPerson : GoodIn wsX10_hold wsX10_isPerson := goodIn_r _ [9, 10, 11, 8, 12] (by decide +kernel) (by decide +kernel)
set_option maxRecDepth 20000 in
theorem gX10_hold_X10_isPerson : GoodIn wsX10_hold (va_wsS RX10 139 yX10_isPerson wsX10_isPerson) := goodIn_app (goodIn_of _ (by decide +kernel)) ggX10_hold_X10_isPerson
set_option maxRecDepth 20000 in
theorem ggX10_hold_X10_isKind : GoodIn wsX10_hold wsX10_isKind := goodIn_r _ [16, 17, 10, 11, 8, 12, 28, 29, 30, 31, 32, 33, 34, 35, 36, 37, 38, 39, 40, 41, 42, 43, 44, 45, 46, 47, 48, 49, 50, 51, 52, 53, 54, 55, 56, 57, 58, 59, 60, 61, 62, 63, 64, 65, 66, 67, 68, 69, 70, 71, 72] (by decide +kernel) (by decide +kernel)
set_option maxRecDepth 20000 in
theorem gX10_hold_X10_isKind : GoodIn wsX10_hold (wsV RX10 151 RX10 yX10_isKind wsX10_isKind) := goodIn_app (goodIn_of _ (by decide +kernel)) ggX10_hold_X10_isKind
set_option maxRecDepth 20000 in
theorem ggX10_hold_X10_isPurpose : GoodIn wsX10_hold wsX10_isPurpose := goodIn_r _ [21, 22, 10, 11, 8, 12, 28, 29, 30, 31, 32, 33, 34, 35, 36, 37, 38, 39, 40, 41, 42, 43, 44, 45, 46, 47, 48, 49, 50, 51, 52, 53, 54, 55, 56, 57, 58, 59, 60, 61, 62, 63, 64, 65, 66, 67, 68, 69, 70, 71, 72] (by decide +kernel) (by decide +kernel)
set_option maxRecDepth 20000 in
theorem gX10_hold_X10_isPurpose : GoodIn wsX10_hold (wsV RX10 132 RX10 yX10_isPurpose wsX10_isPurpose) := goodIn_app (goodIn_of _ (by decide +kernel)) ggX10_hold_X10_isPurpose
set_option maxRecDepth 20000 in
theorem ggX10_hold_X10_in : GoodIn wsX10_hold wsX10_in := goodIn_r _ [12] (by decide +kernel) (by decide +kernel)
set_option maxRecDepth 20000 in
theorem gX10_hold_X10_in : GoodIn wsX10_hold (va_wsS RX10 124 yX10_in wsX10_in) := goodIn_app (goodIn_of _ (by decide +kernel)) ggX10_hold_X10_in
set_option maxRecDepth 20000 in
theorem ggX10_hold_X10_says : GoodIn wsX10_hold wsX10_says := goodIn_r _ [26, 27, 28, 29, 30, 31, 32, 33, 34, 35, 36, 37, 38, 39, 40, 41, 42, 43, 44, 45, 46, 47, 48, 49, 50, 51, 52, 53, 54, 55, 56, 57, 58, 59, 60, 61, 62, 63, 64, 65, 66, 67, 68, 69, 70, 71, 72] (by decide +kernel) (by decide +kernel)
set_option maxRecDepth 20000 in
theorem gX10_hold_X10_says : GoodIn wsX10_hold (wsV RX10 136 RX10 yX10_says wsX10_says) := goodIn_app (goodIn_of _ (by decide +kernel)) ggX10_hold_X10_says
theorem dX10_hold_0 : decode cX10_hold 0 = .ok (.iload_n 1, 1) := by decide +kernel
theorem dX10_hold_1 : decode cX10_hold 1 = .ok (.invokestatic 139, 3) := by decide +kernel
theorem dX10_hold_4 : decode cX10_hold 4 = .ok (.ifCond .ne 20, 3) := by decide +kernel
theorem dX10_hold_7 : decode cX10_hold 7 = .ok (.iload_n 1, 1) := by decide +kernel
theorem dX10_hold_8 : decode cX10_hold 8 = .ok (.bipush 100, 2) := by decide +kernel
theorem dX10_hold_10 : decode cX10_hold 10 = .ok (.if_icmp .lt 37, 3) := by decide +kernel
theorem dX10_hold_13 : decode cX10_hold 13 = .ok (.aload_n 0, 1) := by decide +kernel
theorem dX10_hold_14 : decode cX10_hold 14 = .ok (.iload_n 1, 1) := by decide +kernel
theorem dX10_hold_15 : decode cX10_hold 15 = .ok (.bipush 100, 2) := by decide +kernel
theorem dX10_hold_17 : decode cX10_hold 17 = .ok (.isub, 1) := by decide +kernel
theorem dX10_hold_18 : decode cX10_hold 18 = .ok (.invokevirtual 151, 3) := by decide +kernel
theorem dX10_hold_21 : decode cX10_hold 21 = .ok (.ifCond .eq 26, 3) := by decide +kernel
theorem dX10_hold_24 : decode cX10_hold 24 = .ok (.aload_n 0, 1) := by decide +kernel
theorem dX10_hold_25 : decode cX10_hold 25 = .ok (.iload_n 2, 1) := by decide +kernel
theorem dX10_hold_26 : decode cX10_hold 26 = .ok (.invokevirtual 132, 3) := by decide +kernel
theorem dX10_hold_29 : decode cX10_hold 29 = .ok (.ifCond .eq 18, 3) := by decide +kernel
theorem dX10_hold_32 : decode cX10_hold 32 = .ok (.iload_n 3, 1) := by decide +kernel
theorem dX10_hold_33 : decode cX10_hold 33 = .ok (.iconst 0, 1) := by decide +kernel
theorem dX10_hold_34 : decode cX10_hold 34 = .ok (.sipush 6944, 3) := by decide +kernel
theorem dX10_hold_37 : decode cX10_hold 37 = .ok (.invokestatic 124, 3) := by decide +kernel
theorem dX10_hold_40 : decode cX10_hold 40 = .ok (.ifCond .eq 7, 3) := by decide +kernel
theorem dX10_hold_43 : decode cX10_hold 43 = .ok (.iconst 1, 1) := by decide +kernel
theorem dX10_hold_44 : decode cX10_hold 44 = .ok (.goto 4, 3) := by decide +kernel
theorem dX10_hold_47 : decode cX10_hold 47 = .ok (.iconst 0, 1) := by decide +kernel
theorem dX10_hold_48 : decode cX10_hold 48 = .ok (.istore 4, 2) := by decide +kernel
theorem dX10_hold_50 : decode cX10_hold 50 = .ok (.aload_n 0, 1) := by decide +kernel
theorem dX10_hold_51 : decode cX10_hold 51 = .ok (.iload 4, 2) := by decide +kernel
theorem dX10_hold_53 : decode cX10_hold 53 = .ok (.ifCond .ne 7, 3) := by decide +kernel
theorem dX10_hold_56 : decode cX10_hold 56 = .ok (.iconst 1, 1) := by decide +kernel
theorem dX10_hold_57 : decode cX10_hold 57 = .ok (.goto 17, 3) := by decide +kernel
theorem dX10_hold_60 : decode cX10_hold 60 = .ok (.aload_n 0, 1) := by decide +kernel
theorem dX10_hold_61 : decode cX10_hold 61 = .ok (.getfield 170, 3) := by decide +kernel
theorem dX10_hold_64 : decode cX10_hold 64 = .ok (.bipush 30, 2) := by decide +kernel
theorem dX10_hold_66 : decode cX10_hold 66 = .ok (.if_icmp .ne 7, 3) := by decide +kernel
theorem dX10_hold_69 : decode cX10_hold 69 = .ok (.iconst 2, 1) := by decide +kernel
theorem dX10_hold_70 : decode cX10_hold 70 = .ok (.goto 4, 3) := by decide +kernel
theorem dX10_hold_73 : decode cX10_hold 73 = .ok (.iconst 0, 1) := by decide +kernel
theorem dX10_hold_74 : decode cX10_hold 74 = .ok (.invokevirtual 136, 3) := by decide +kernel
theorem dX10_hold_77 : decode cX10_hold 77 = .ok (.ifCond .ne 5, 3) := by decide +kernel
theorem dX10_hold_80 : decode cX10_hold 80 = .ok (.iconst 0, 1) := by decide +kernel
theorem dX10_hold_81 : decode cX10_hold 81 = .ok (.ireturn, 1) := by decide +kernel
theorem dX10_hold_82 : decode cX10_hold 82 = .ok (.aload_n 0, 1) := by decide +kernel
theorem dX10_hold_83 : decode cX10_hold 83 = .ok (.getfield 94, 3) := by decide +kernel
theorem dX10_hold_86 : decode cX10_hold 86 = .ok (.aload_n 0, 1) := by decide +kernel
theorem dX10_hold_87 : decode cX10_hold 87 = .ok (.getfield 170, 3) := by decide +kernel
theorem dX10_hold_90 : decode cX10_hold 90 = .ok (.iload_n 1, 1) := by decide +kernel
theorem dX10_hold_91 : decode cX10_hold 91 = .ok (.iastore, 1) := by decide +kernel
theorem dX10_hold_92 : decode cX10_hold 92 = .ok (.aload_n 0, 1) := by decide +kernel
theorem dX10_hold_93 : decode cX10_hold 93 = .ok (.getfield 97, 3) := by decide +kernel
theorem dX10_hold_96 : decode cX10_hold 96 = .ok (.aload_n 0, 1) := by decide +kernel
theorem dX10_hold_97 : decode cX10_hold 97 = .ok (.getfield 170, 3) := by decide +kernel
theorem dX10_hold_100 : decode cX10_hold 100 = .ok (.iload_n 2, 1) := by decide +kernel
theorem dX10_hold_101 : decode cX10_hold 101 = .ok (.iastore, 1) := by decide +kernel
theorem dX10_hold_102 : decode cX10_hold 102 = .ok (.aload_n 0, 1) := by decide +kernel
theorem dX10_hold_103 : decode cX10_hold 103 = .ok (.getfield 100, 3) := by decide +kernel
theorem dX10_hold_106 : decode cX10_hold 106 = .ok (.aload_n 0, 1) := by decide +kernel
theorem dX10_hold_107 : decode cX10_hold 107 = .ok (.getfield 170, 3) := by decide +kernel
theorem dX10_hold_110 : decode cX10_hold 110 = .ok (.iload_n 3, 1) := by decide +kernel
theorem dX10_hold_111 : decode cX10_hold 111 = .ok (.iastore, 1) := by decide +kernel
theorem dX10_hold_112 : decode cX10_hold 112 = .ok (.aload_n 0, 1) := by decide +kernel
theorem dX10_hold_113 : decode cX10_hold 113 = .ok (.getfield 103, 3) := by decide +kernel
theorem dX10_hold_116 : decode cX10_hold 116 = .ok (.aload_n 0, 1) := by decide +kernel
theorem dX10_hold_117 : decode cX10_hold 117 = .ok (.getfield 170, 3) := by decide +kernel
theorem dX10_hold_120 : decode cX10_hold 120 = .ok (.iconst (-1), 1) := by decide +kernel
theorem dX10_hold_121 : decode cX10_hold 121 = .ok (.iastore, 1) := by decide +kernel
theorem dX10_hold_122 : decode cX10_hold 122 = .ok (.aload_n 0, 1) := by decide +kernel
theorem dX10_hold_123 : decode cX10_hold 123 = .ok (.dup, 1) := by decide +kernel
theorem dX10_hold_124 : decode cX10_hold 124 = .ok (.getfield 170, 3) := by decide +kernel
theorem dX10_hold_127 : decode cX10_hold 127 = .ok (.iconst 1, 1) := by decide +kernel
theorem dX10_hold_128 : decode cX10_hold 128 = .ok (.iadd, 1) := by decide +kernel
theorem dX10_hold_129 : decode cX10_hold 129 = .ok (.putfield 170, 3) := by decide +kernel
theorem dX10_hold_132 : decode cX10_hold 132 = .ok (.aload_n 0, 1) := by decide +kernel
theorem dX10_hold_133 : decode cX10_hold 133 = .ok (.getfield 170, 3) := by decide +kernel
theorem dX10_hold_136 : decode cX10_hold 136 = .ok (.iconst 1, 1) := by decide +kernel
theorem dX10_hold_137 : decode cX10_hold 137 = .ok (.isub, 1) := by decide +kernel
theorem dX10_hold_138 : decode cX10_hold 138 = .ok (.ireturn, 1) := by decide +kernel
set_option maxRecDepth 20000 in
theorem ggX10_lift_X10_in : GoodIn wsX10_lift wsX10_in := goodIn_r _ [7] (by decide +kernel) (by decide +kernel)
set_option maxRecDepth 20000 in
theorem gX10_lift_X10_in : GoodIn wsX10_lift (va_wsS RX10 124 yX10_in wsX10_in) := goodIn_app (goodIn_of _ (by decide +kernel)) ggX10_lift_X10_in
set_option maxRecDepth 20000 in
theorem ggX10_lift_X10_says : GoodIn wsX10_lift wsX10_says := goodIn_r _ [11, 12, 13, 14, 15, 16, 17, 18, 19, 20, 21, 22, 23, 24, 25, 26, 27, 28, 29, 30, 31, 32, 33, 34, 35, 36, 37, 38, 39, 40, 41, 42, 43, 44, 45, 46, 47, 48, 49, 50, 51, 52, 53, 54, 55, 56, 57] (by decide +kernel) (by decide +kernel)
set_option maxRecDepth 20000 in
theorem gX10_lift_X10_says : GoodIn wsX10_lift (wsV RX10 136 RX10 yX10_says wsX10_says) := goodIn_app (goodIn_of _ (by decide +kernel)) ggX10_lift_X10_says
theorem dX10_lift_0 : decode cX10_lift 0 = .ok (.iload_n 1, 1) := by decide +kernel
theorem dX10_lift_1 : decode cX10_lift 1 = .ok (.iconst 0, 1) := by decide +kernel
theorem dX10_lift_2 : decode cX10_lift 2 = .ok (.aload_n 0, 1) := by decide +kernel
theorem dX10_lift_3 : decode cX10_lift 3 = .ok (.getfield 170, 3) := by decide +kernel
theorem dX10_lift_6 : decode cX10_lift 6 = .ok (.iconst 1, 1) := by decide +kernel
theorem dX10_lift_7 : decode cX10_lift 7 = .ok (.isub, 1) := by decide +kernel
theorem dX10_lift_8 : decode cX10_lift 8 = .ok (.invokestatic 124, 3) := by decide +kernel
theorem dX10_lift_11 : decode cX10_lift 11 = .ok (.ifCond .eq 38, 3) := by decide +kernel
theorem dX10_lift_14 : decode cX10_lift 14 = .ok (.iload_n 2, 1) := by decide +kernel
theorem dX10_lift_15 : decode cX10_lift 15 = .ok (.sipush 6944, 3) := by decide +kernel
theorem dX10_lift_18 : decode cX10_lift 18 = .ok (.if_icmp .gt 31, 3) := by decide +kernel
theorem dX10_lift_21 : decode cX10_lift 21 = .ok (.iload_n 2, 1) := by decide +kernel
theorem dX10_lift_22 : decode cX10_lift 22 = .ok (.aload_n 0, 1) := by decide +kernel
theorem dX10_lift_23 : decode cX10_lift 23 = .ok (.getfield 100, 3) := by decide +kernel
theorem dX10_lift_26 : decode cX10_lift 26 = .ok (.iload_n 1, 1) := by decide +kernel
theorem dX10_lift_27 : decode cX10_lift 27 = .ok (.iconst 0, 1) := by decide +kernel
theorem dX10_lift_28 : decode cX10_lift 28 = .ok (.bipush 29, 2) := by decide +kernel
theorem dX10_lift_30 : decode cX10_lift 30 = .ok (.invokestatic 124, 3) := by decide +kernel
theorem dX10_lift_33 : decode cX10_lift 33 = .ok (.ifCond .eq 7, 3) := by decide +kernel
theorem dX10_lift_36 : decode cX10_lift 36 = .ok (.iload_n 1, 1) := by decide +kernel
theorem dX10_lift_37 : decode cX10_lift 37 = .ok (.goto 4, 3) := by decide +kernel
theorem dX10_lift_40 : decode cX10_lift 40 = .ok (.iconst 0, 1) := by decide +kernel
theorem dX10_lift_41 : decode cX10_lift 41 = .ok (.iaload, 1) := by decide +kernel
theorem dX10_lift_42 : decode cX10_lift 42 = .ok (.if_icmp .lt 7, 3) := by decide +kernel
theorem dX10_lift_45 : decode cX10_lift 45 = .ok (.iconst 1, 1) := by decide +kernel
theorem dX10_lift_46 : decode cX10_lift 46 = .ok (.goto 4, 3) := by decide +kernel
theorem dX10_lift_49 : decode cX10_lift 49 = .ok (.iconst 0, 1) := by decide +kernel
theorem dX10_lift_50 : decode cX10_lift 50 = .ok (.istore_n 3, 1) := by decide +kernel
theorem dX10_lift_51 : decode cX10_lift 51 = .ok (.aload_n 0, 1) := by decide +kernel
theorem dX10_lift_52 : decode cX10_lift 52 = .ok (.iload_n 3, 1) := by decide +kernel
theorem dX10_lift_53 : decode cX10_lift 53 = .ok (.ifCond .ne 7, 3) := by decide +kernel
theorem dX10_lift_56 : decode cX10_lift 56 = .ok (.iconst 1, 1) := by decide +kernel
theorem dX10_lift_57 : decode cX10_lift 57 = .ok (.goto 17, 3) := by decide +kernel
theorem dX10_lift_60 : decode cX10_lift 60 = .ok (.aload_n 0, 1) := by decide +kernel
theorem dX10_lift_61 : decode cX10_lift 61 = .ok (.getfield 103, 3) := by decide +kernel
theorem dX10_lift_64 : decode cX10_lift 64 = .ok (.iload_n 1, 1) := by decide +kernel
theorem dX10_lift_65 : decode cX10_lift 65 = .ok (.iaload, 1) := by decide +kernel
theorem dX10_lift_66 : decode cX10_lift 66 = .ok (.ifCond .lt 7, 3) := by decide +kernel
theorem dX10_lift_69 : decode cX10_lift 69 = .ok (.iconst 2, 1) := by decide +kernel
theorem dX10_lift_70 : decode cX10_lift 70 = .ok (.goto 4, 3) := by decide +kernel
theorem dX10_lift_73 : decode cX10_lift 73 = .ok (.iconst 0, 1) := by decide +kernel
theorem dX10_lift_74 : decode cX10_lift 74 = .ok (.invokevirtual 136, 3) := by decide +kernel
theorem dX10_lift_77 : decode cX10_lift 77 = .ok (.ifCond .eq 10, 3) := by decide +kernel
theorem dX10_lift_80 : decode cX10_lift 80 = .ok (.aload_n 0, 1) := by decide +kernel
theorem dX10_lift_81 : decode cX10_lift 81 = .ok (.getfield 103, 3) := by decide +kernel
theorem dX10_lift_84 : decode cX10_lift 84 = .ok (.iload_n 1, 1) := by decide +kernel
theorem dX10_lift_85 : decode cX10_lift 85 = .ok (.iload_n 2, 1) := by decide +kernel
theorem dX10_lift_86 : decode cX10_lift 86 = .ok (.iastore, 1) := by decide +kernel
theorem dX10_lift_87 : decode cX10_lift 87 = .ok (.return_, 1) := by decide +kernel
theorem dX10_holdCovers_0 : decode cX10_holdCovers 0 = .ok (.aload_n 0, 1) := by decide +kernel
theorem dX10_holdCovers_1 : decode cX10_holdCovers 1 = .ok (.getfield 94, 3) := by decide +kernel
theorem dX10_holdCovers_4 : decode cX10_holdCovers 4 = .ok (.iload_n 1, 1) := by decide +kernel
theorem dX10_holdCovers_5 : decode cX10_holdCovers 5 = .ok (.iaload, 1) := by decide +kernel
theorem dX10_holdCovers_6 : decode cX10_holdCovers 6 = .ok (.bipush 100, 2) := by decide +kernel
theorem dX10_holdCovers_8 : decode cX10_holdCovers 8 = .ok (.if_icmp .ge 30, 3) := by decide +kernel
theorem dX10_holdCovers_11 : decode cX10_holdCovers 11 = .ok (.aload_n 0, 1) := by decide +kernel
theorem dX10_holdCovers_12 : decode cX10_holdCovers 12 = .ok (.getfield 63, 3) := by decide +kernel
theorem dX10_holdCovers_15 : decode cX10_holdCovers 15 = .ok (.iload_n 2, 1) := by decide +kernel
theorem dX10_holdCovers_16 : decode cX10_holdCovers 16 = .ok (.iaload, 1) := by decide +kernel
theorem dX10_holdCovers_17 : decode cX10_holdCovers 17 = .ok (.aload_n 0, 1) := by decide +kernel
theorem dX10_holdCovers_18 : decode cX10_holdCovers 18 = .ok (.getfield 94, 3) := by decide +kernel
theorem dX10_holdCovers_21 : decode cX10_holdCovers 21 = .ok (.iload_n 1, 1) := by decide +kernel
theorem dX10_holdCovers_22 : decode cX10_holdCovers 22 = .ok (.iaload, 1) := by decide +kernel
theorem dX10_holdCovers_23 : decode cX10_holdCovers 23 = .ok (.ishr, 1) := by decide +kernel
theorem dX10_holdCovers_24 : decode cX10_holdCovers 24 = .ok (.iconst 1, 1) := by decide +kernel
theorem dX10_holdCovers_25 : decode cX10_holdCovers 25 = .ok (.iand, 1) := by decide +kernel
theorem dX10_holdCovers_26 : decode cX10_holdCovers 26 = .ok (.iconst 1, 1) := by decide +kernel
theorem dX10_holdCovers_27 : decode cX10_holdCovers 27 = .ok (.if_icmp .ne 7, 3) := by decide +kernel
theorem dX10_holdCovers_30 : decode cX10_holdCovers 30 = .ok (.iconst 1, 1) := by decide +kernel
theorem dX10_holdCovers_31 : decode cX10_holdCovers 31 = .ok (.goto 30, 3) := by decide +kernel
theorem dX10_holdCovers_34 : decode cX10_holdCovers 34 = .ok (.iconst 0, 1) := by decide +kernel
theorem dX10_holdCovers_35 : decode cX10_holdCovers 35 = .ok (.goto 26, 3) := by decide +kernel
theorem dX10_holdCovers_38 : decode cX10_holdCovers 38 = .ok (.aload_n 0, 1) := by decide +kernel
theorem dX10_holdCovers_39 : decode cX10_holdCovers 39 = .ok (.getfield 57, 3) := by decide +kernel
theorem dX10_holdCovers_42 : decode cX10_holdCovers 42 = .ok (.iload_n 2, 1) := by decide +kernel
theorem dX10_holdCovers_43 : decode cX10_holdCovers 43 = .ok (.iaload, 1) := by decide +kernel
theorem dX10_holdCovers_44 : decode cX10_holdCovers 44 = .ok (.aload_n 0, 1) := by decide +kernel
theorem dX10_holdCovers_45 : decode cX10_holdCovers 45 = .ok (.getfield 94, 3) := by decide +kernel
theorem dX10_holdCovers_48 : decode cX10_holdCovers 48 = .ok (.iload_n 1, 1) := by decide +kernel
theorem dX10_holdCovers_49 : decode cX10_holdCovers 49 = .ok (.iaload, 1) := by decide +kernel
theorem dX10_holdCovers_50 : decode cX10_holdCovers 50 = .ok (.bipush 100, 2) := by decide +kernel
theorem dX10_holdCovers_52 : decode cX10_holdCovers 52 = .ok (.isub, 1) := by decide +kernel
theorem dX10_holdCovers_53 : decode cX10_holdCovers 53 = .ok (.if_icmp .ne 7, 3) := by decide +kernel
theorem dX10_holdCovers_56 : decode cX10_holdCovers 56 = .ok (.iconst 1, 1) := by decide +kernel
theorem dX10_holdCovers_57 : decode cX10_holdCovers 57 = .ok (.goto 4, 3) := by decide +kernel
theorem dX10_holdCovers_60 : decode cX10_holdCovers 60 = .ok (.iconst 0, 1) := by decide +kernel
theorem dX10_holdCovers_61 : decode cX10_holdCovers 61 = .ok (.istore 4, 2) := by decide +kernel
theorem dX10_holdCovers_63 : decode cX10_holdCovers 63 = .ok (.iload 4, 2) := by decide +kernel
theorem dX10_holdCovers_65 : decode cX10_holdCovers 65 = .ok (.ifCond .eq 36, 3) := by decide +kernel
theorem dX10_holdCovers_68 : decode cX10_holdCovers 68 = .ok (.iload_n 3, 1) := by decide +kernel
theorem dX10_holdCovers_69 : decode cX10_holdCovers 69 = .ok (.aload_n 0, 1) := by decide +kernel
theorem dX10_holdCovers_70 : decode cX10_holdCovers 70 = .ok (.getfield 100, 3) := by decide +kernel
theorem dX10_holdCovers_73 : decode cX10_holdCovers 73 = .ok (.iload_n 1, 1) := by decide +kernel
theorem dX10_holdCovers_74 : decode cX10_holdCovers 74 = .ok (.iaload, 1) := by decide +kernel
theorem dX10_holdCovers_75 : decode cX10_holdCovers 75 = .ok (.if_icmp .lt 26, 3) := by decide +kernel
theorem dX10_holdCovers_78 : decode cX10_holdCovers 78 = .ok (.aload_n 0, 1) := by decide +kernel
theorem dX10_holdCovers_79 : decode cX10_holdCovers 79 = .ok (.getfield 103, 3) := by decide +kernel
theorem dX10_holdCovers_82 : decode cX10_holdCovers 82 = .ok (.iload_n 1, 1) := by decide +kernel
theorem dX10_holdCovers_83 : decode cX10_holdCovers 83 = .ok (.iaload, 1) := by decide +kernel
theorem dX10_holdCovers_84 : decode cX10_holdCovers 84 = .ok (.ifCond .lt 13, 3) := by decide +kernel
theorem dX10_holdCovers_87 : decode cX10_holdCovers 87 = .ok (.iload_n 3, 1) := by decide +kernel
theorem dX10_holdCovers_88 : decode cX10_holdCovers 88 = .ok (.aload_n 0, 1) := by decide +kernel
theorem dX10_holdCovers_89 : decode cX10_holdCovers 89 = .ok (.getfield 103, 3) := by decide +kernel
theorem dX10_holdCovers_92 : decode cX10_holdCovers 92 = .ok (.iload_n 1, 1) := by decide +kernel
theorem dX10_holdCovers_93 : decode cX10_holdCovers 93 = .ok (.iaload, 1) := by decide +kernel
theorem dX10_holdCovers_94 : decode cX10_holdCovers 94 = .ok (.if_icmp .ge 7, 3) := by decide +kernel
theorem dX10_holdCovers_97 : decode cX10_holdCovers 97 = .ok (.iconst 1, 1) := by decide +kernel
theorem dX10_holdCovers_98 : decode cX10_holdCovers 98 = .ok (.goto 4, 3) := by decide +kernel
theorem dX10_holdCovers_101 : decode cX10_holdCovers 101 = .ok (.iconst 0, 1) := by decide +kernel
theorem dX10_holdCovers_102 : decode cX10_holdCovers 102 = .ok (.ireturn, 1) := by decide +kernel
theorem dX10_dutyCovers_0 : decode cX10_dutyCovers 0 = .ok (.aload_n 0, 1) := by decide +kernel
theorem dX10_dutyCovers_1 : decode cX10_dutyCovers 1 = .ok (.getfield 45, 3) := by decide +kernel
theorem dX10_dutyCovers_4 : decode cX10_dutyCovers 4 = .ok (.iload_n 1, 1) := by decide +kernel
theorem dX10_dutyCovers_5 : decode cX10_dutyCovers 5 = .ok (.iaload, 1) := by decide +kernel
theorem dX10_dutyCovers_6 : decode cX10_dutyCovers 6 = .ok (.aload_n 0, 1) := by decide +kernel
theorem dX10_dutyCovers_7 : decode cX10_dutyCovers 7 = .ok (.getfield 57, 3) := by decide +kernel
theorem dX10_dutyCovers_10 : decode cX10_dutyCovers 10 = .ok (.iload_n 2, 1) := by decide +kernel
theorem dX10_dutyCovers_11 : decode cX10_dutyCovers 11 = .ok (.iaload, 1) := by decide +kernel
theorem dX10_dutyCovers_12 : decode cX10_dutyCovers 12 = .ok (.if_icmp .ne 34, 3) := by decide +kernel
theorem dX10_dutyCovers_15 : decode cX10_dutyCovers 15 = .ok (.iload_n 3, 1) := by decide +kernel
theorem dX10_dutyCovers_16 : decode cX10_dutyCovers 16 = .ok (.aload_n 0, 1) := by decide +kernel
theorem dX10_dutyCovers_17 : decode cX10_dutyCovers 17 = .ok (.getfield 60, 3) := by decide +kernel
theorem dX10_dutyCovers_20 : decode cX10_dutyCovers 20 = .ok (.iload_n 2, 1) := by decide +kernel
theorem dX10_dutyCovers_21 : decode cX10_dutyCovers 21 = .ok (.iaload, 1) := by decide +kernel
theorem dX10_dutyCovers_22 : decode cX10_dutyCovers 22 = .ok (.if_icmp .lt 24, 3) := by decide +kernel
theorem dX10_dutyCovers_25 : decode cX10_dutyCovers 25 = .ok (.iload_n 3, 1) := by decide +kernel
theorem dX10_dutyCovers_26 : decode cX10_dutyCovers 26 = .ok (.aload_n 0, 1) := by decide +kernel
theorem dX10_dutyCovers_27 : decode cX10_dutyCovers 27 = .ok (.getfield 60, 3) := by decide +kernel
theorem dX10_dutyCovers_30 : decode cX10_dutyCovers 30 = .ok (.iload_n 2, 1) := by decide +kernel
theorem dX10_dutyCovers_31 : decode cX10_dutyCovers 31 = .ok (.iaload, 1) := by decide +kernel
theorem dX10_dutyCovers_32 : decode cX10_dutyCovers 32 = .ok (.aload_n 0, 1) := by decide +kernel
theorem dX10_dutyCovers_33 : decode cX10_dutyCovers 33 = .ok (.getfield 51, 3) := by decide +kernel
theorem dX10_dutyCovers_36 : decode cX10_dutyCovers 36 = .ok (.iload_n 1, 1) := by decide +kernel
theorem dX10_dutyCovers_37 : decode cX10_dutyCovers 37 = .ok (.iaload, 1) := by decide +kernel
theorem dX10_dutyCovers_38 : decode cX10_dutyCovers 38 = .ok (.iadd, 1) := by decide +kernel
theorem dX10_dutyCovers_39 : decode cX10_dutyCovers 39 = .ok (.if_icmp .ge 7, 3) := by decide +kernel
theorem dX10_dutyCovers_42 : decode cX10_dutyCovers 42 = .ok (.iconst 1, 1) := by decide +kernel
theorem dX10_dutyCovers_43 : decode cX10_dutyCovers 43 = .ok (.goto 4, 3) := by decide +kernel
theorem dX10_dutyCovers_46 : decode cX10_dutyCovers 46 = .ok (.iconst 0, 1) := by decide +kernel
theorem dX10_dutyCovers_47 : decode cX10_dutyCovers 47 = .ok (.ireturn, 1) := by decide +kernel
theorem dX10_isAtOrAbove_0 : decode cX10_isAtOrAbove 0 = .ok (.iload_n 2, 1) := by decide +kernel
theorem dX10_isAtOrAbove_1 : decode cX10_isAtOrAbove 1 = .ok (.istore_n 3, 1) := by decide +kernel
theorem dX10_isAtOrAbove_2 : decode cX10_isAtOrAbove 2 = .ok (.iload_n 3, 1) := by decide +kernel
theorem dX10_isAtOrAbove_3 : decode cX10_isAtOrAbove 3 = .ok (.ifCond .lt 18, 3) := by decide +kernel
theorem dX10_isAtOrAbove_6 : decode cX10_isAtOrAbove 6 = .ok (.iload_n 3, 1) := by decide +kernel
theorem dX10_isAtOrAbove_7 : decode cX10_isAtOrAbove 7 = .ok (.iload_n 1, 1) := by decide +kernel
theorem dX10_isAtOrAbove_8 : decode cX10_isAtOrAbove 8 = .ok (.if_icmp .eq 13, 3) := by decide +kernel
theorem dX10_isAtOrAbove_11 : decode cX10_isAtOrAbove 11 = .ok (.aload_n 0, 1) := by decide +kernel
theorem dX10_isAtOrAbove_12 : decode cX10_isAtOrAbove 12 = .ok (.getfield 13, 3) := by decide +kernel
theorem dX10_isAtOrAbove_15 : decode cX10_isAtOrAbove 15 = .ok (.iload_n 3, 1) := by decide +kernel
theorem dX10_isAtOrAbove_16 : decode cX10_isAtOrAbove 16 = .ok (.iaload, 1) := by decide +kernel
theorem dX10_isAtOrAbove_17 : decode cX10_isAtOrAbove 17 = .ok (.istore_n 3, 1) := by decide +kernel
theorem dX10_isAtOrAbove_18 : decode cX10_isAtOrAbove 18 = .ok (.goto (-16), 3) := by decide +kernel
theorem dX10_isAtOrAbove_21 : decode cX10_isAtOrAbove 21 = .ok (.iload_n 3, 1) := by decide +kernel
theorem dX10_isAtOrAbove_22 : decode cX10_isAtOrAbove 22 = .ok (.iload_n 1, 1) := by decide +kernel
theorem dX10_isAtOrAbove_23 : decode cX10_isAtOrAbove 23 = .ok (.if_icmp .ne 7, 3) := by decide +kernel
theorem dX10_isAtOrAbove_26 : decode cX10_isAtOrAbove 26 = .ok (.iconst 1, 1) := by decide +kernel
theorem dX10_isAtOrAbove_27 : decode cX10_isAtOrAbove 27 = .ok (.goto 4, 3) := by decide +kernel
theorem dX10_isAtOrAbove_30 : decode cX10_isAtOrAbove 30 = .ok (.iconst 0, 1) := by decide +kernel
theorem dX10_isAtOrAbove_31 : decode cX10_isAtOrAbove 31 = .ok (.ireturn, 1) := by decide +kernel
theorem dX10_saysYes_0 : decode cX10_saysYes 0 = .ok (.iload_n 2, 1) := by decide +kernel
theorem dX10_saysYes_1 : decode cX10_saysYes 1 = .ok (.istore 4, 2) := by decide +kernel
theorem dX10_saysYes_3 : decode cX10_saysYes 3 = .ok (.iload 4, 2) := by decide +kernel
theorem dX10_saysYes_5 : decode cX10_saysYes 5 = .ok (.ifCond .lt 121, 3) := by decide +kernel
theorem dX10_saysYes_8 : decode cX10_saysYes 8 = .ok (.iconst (-1), 1) := by decide +kernel
theorem dX10_saysYes_9 : decode cX10_saysYes 9 = .ok (.istore 5, 2) := by decide +kernel
theorem dX10_saysYes_11 : decode cX10_saysYes 11 = .ok (.iconst 0, 1) := by decide +kernel
theorem dX10_saysYes_12 : decode cX10_saysYes 12 = .ok (.istore 6, 2) := by decide +kernel
theorem dX10_saysYes_14 : decode cX10_saysYes 14 = .ok (.iload 6, 2) := by decide +kernel
theorem dX10_saysYes_16 : decode cX10_saysYes 16 = .ok (.aload_n 0, 1) := by decide +kernel
theorem dX10_saysYes_17 : decode cX10_saysYes 17 = .ok (.getfield 145, 3) := by decide +kernel
theorem dX10_saysYes_20 : decode cX10_saysYes 20 = .ok (.if_icmp .ge 81, 3) := by decide +kernel
theorem dX10_saysYes_23 : decode cX10_saysYes 23 = .ok (.aload_n 0, 1) := by decide +kernel
theorem dX10_saysYes_24 : decode cX10_saysYes 24 = .ok (.getfield 20, 3) := by decide +kernel
theorem dX10_saysYes_27 : decode cX10_saysYes 27 = .ok (.iload 6, 2) := by decide +kernel
theorem dX10_saysYes_29 : decode cX10_saysYes 29 = .ok (.iaload, 1) := by decide +kernel
theorem dX10_saysYes_30 : decode cX10_saysYes 30 = .ok (.iload_n 1, 1) := by decide +kernel
theorem dX10_saysYes_31 : decode cX10_saysYes 31 = .ok (.if_icmp .ne 30, 3) := by decide +kernel
theorem dX10_saysYes_34 : decode cX10_saysYes 34 = .ok (.aload_n 0, 1) := by decide +kernel
theorem dX10_saysYes_35 : decode cX10_saysYes 35 = .ok (.getfield 23, 3) := by decide +kernel
theorem dX10_saysYes_38 : decode cX10_saysYes 38 = .ok (.iload 6, 2) := by decide +kernel
theorem dX10_saysYes_40 : decode cX10_saysYes 40 = .ok (.iaload, 1) := by decide +kernel
theorem dX10_saysYes_41 : decode cX10_saysYes 41 = .ok (.iload 4, 2) := by decide +kernel
theorem dX10_saysYes_43 : decode cX10_saysYes 43 = .ok (.if_icmp .ne 18, 3) := by decide +kernel
theorem dX10_saysYes_46 : decode cX10_saysYes 46 = .ok (.aload_n 0, 1) := by decide +kernel
theorem dX10_saysYes_47 : decode cX10_saysYes 47 = .ok (.getfield 26, 3) := by decide +kernel
theorem dX10_saysYes_50 : decode cX10_saysYes 50 = .ok (.iload 6, 2) := by decide +kernel
theorem dX10_saysYes_52 : decode cX10_saysYes 52 = .ok (.iaload, 1) := by decide +kernel
theorem dX10_saysYes_53 : decode cX10_saysYes 53 = .ok (.iload_n 3, 1) := by decide +kernel
theorem dX10_saysYes_54 : decode cX10_saysYes 54 = .ok (.if_icmp .gt 7, 3) := by decide +kernel
theorem dX10_saysYes_57 : decode cX10_saysYes 57 = .ok (.iconst 1, 1) := by decide +kernel
theorem dX10_saysYes_58 : decode cX10_saysYes 58 = .ok (.goto 4, 3) := by decide +kernel
theorem dX10_saysYes_61 : decode cX10_saysYes 61 = .ok (.iconst 0, 1) := by decide +kernel
theorem dX10_saysYes_62 : decode cX10_saysYes 62 = .ok (.istore 7, 2) := by decide +kernel
theorem dX10_saysYes_64 : decode cX10_saysYes 64 = .ok (.iload 7, 2) := by decide +kernel
theorem dX10_saysYes_66 : decode cX10_saysYes 66 = .ok (.ifCond .eq 29, 3) := by decide +kernel
theorem dX10_saysYes_69 : decode cX10_saysYes 69 = .ok (.iload 5, 2) := by decide +kernel
theorem dX10_saysYes_71 : decode cX10_saysYes 71 = .ok (.ifCond .lt 20, 3) := by decide +kernel
theorem dX10_saysYes_74 : decode cX10_saysYes 74 = .ok (.aload_n 0, 1) := by decide +kernel
theorem dX10_saysYes_75 : decode cX10_saysYes 75 = .ok (.getfield 26, 3) := by decide +kernel
theorem dX10_saysYes_78 : decode cX10_saysYes 78 = .ok (.iload 6, 2) := by decide +kernel
theorem dX10_saysYes_80 : decode cX10_saysYes 80 = .ok (.iaload, 1) := by decide +kernel
theorem dX10_saysYes_81 : decode cX10_saysYes 81 = .ok (.aload_n 0, 1) := by decide +kernel
theorem dX10_saysYes_82 : decode cX10_saysYes 82 = .ok (.getfield 26, 3) := by decide +kernel
theorem dX10_saysYes_85 : decode cX10_saysYes 85 = .ok (.iload 5, 2) := by decide +kernel
theorem dX10_saysYes_87 : decode cX10_saysYes 87 = .ok (.iaload, 1) := by decide +kernel
theorem dX10_saysYes_88 : decode cX10_saysYes 88 = .ok (.if_icmp .lt 7, 3) := by decide +kernel
theorem dX10_saysYes_91 : decode cX10_saysYes 91 = .ok (.iload 6, 2) := by decide +kernel
theorem dX10_saysYes_93 : decode cX10_saysYes 93 = .ok (.istore 5, 2) := by decide +kernel
theorem dX10_saysYes_95 : decode cX10_saysYes 95 = .ok (.iinc 6 1, 3) := by decide +kernel
theorem dX10_saysYes_98 : decode cX10_saysYes 98 = .ok (.goto (-84), 3) := by decide +kernel
theorem dX10_saysYes_101 : decode cX10_saysYes 101 = .ok (.iload 5, 2) := by decide +kernel
theorem dX10_saysYes_103 : decode cX10_saysYes 103 = .ok (.ifCond .lt 11, 3) := by decide +kernel
theorem dX10_saysYes_106 : decode cX10_saysYes 106 = .ok (.aload_n 0, 1) := by decide +kernel
theorem dX10_saysYes_107 : decode cX10_saysYes 107 = .ok (.getfield 29, 3) := by decide +kernel
theorem dX10_saysYes_110 : decode cX10_saysYes 110 = .ok (.iload 5, 2) := by decide +kernel
theorem dX10_saysYes_112 : decode cX10_saysYes 112 = .ok (.baload, 1) := by decide +kernel
theorem dX10_saysYes_113 : decode cX10_saysYes 113 = .ok (.ireturn, 1) := by decide +kernel
theorem dX10_saysYes_114 : decode cX10_saysYes 114 = .ok (.aload_n 0, 1) := by decide +kernel
theorem dX10_saysYes_115 : decode cX10_saysYes 115 = .ok (.getfield 13, 3) := by decide +kernel
theorem dX10_saysYes_118 : decode cX10_saysYes 118 = .ok (.iload 4, 2) := by decide +kernel
theorem dX10_saysYes_120 : decode cX10_saysYes 120 = .ok (.iaload, 1) := by decide +kernel
theorem dX10_saysYes_121 : decode cX10_saysYes 121 = .ok (.istore 4, 2) := by decide +kernel
theorem dX10_saysYes_123 : decode cX10_saysYes 123 = .ok (.goto (-120), 3) := by decide +kernel
theorem dX10_saysYes_126 : decode cX10_saysYes 126 = .ok (.iconst 0, 1) := by decide +kernel
theorem dX10_saysYes_127 : decode cX10_saysYes 127 = .ok (.ireturn, 1) := by decide +kernel
set_option maxRecDepth 20000 in
theorem ggX10_allSayYes_X10_saysYes : GoodIn wsX10_allSayYes wsX10_saysYes := goodIn_r _ [6, 7, 8, 9, 10, 11, 12, 13, 14, 15, 16, 17, 18, 19, 20, 21, 22, 23, 24, 25, 26, 27, 28, 29, 30, 31, 32, 33, 34, 35, 36, 37, 38, 39, 40, 41, 42, 43, 44, 45, 46, 47, 48, 49, 50, 51, 52, 53, 54, 55, 56, 57] (by decide +kernel) (by decide +kernel)
set_option maxRecDepth 20000 in
theorem gX10_allSayYes_X10_saysYes : GoodIn wsX10_allSayYes (wsV RX10 173 RX10 yX10_saysYes wsX10_saysYes) := goodIn_app (goodIn_of _ (by decide +kernel)) ggX10_allSayYes_X10_saysYes
theorem dX10_allSayYes_0 : decode cX10_allSayYes 0 = .ok (.iconst 0, 1) := by decide +kernel
theorem dX10_allSayYes_1 : decode cX10_allSayYes 1 = .ok (.istore 4, 2) := by decide +kernel
theorem dX10_allSayYes_3 : decode cX10_allSayYes 3 = .ok (.iload 4, 2) := by decide +kernel
theorem dX10_allSayYes_5 : decode cX10_allSayYes 5 = .ok (.bipush 16, 2) := by decide +kernel
theorem dX10_allSayYes_7 : decode cX10_allSayYes 7 = .ok (.if_icmp .ge 37, 3) := by decide +kernel
theorem dX10_allSayYes_10 : decode cX10_allSayYes 10 = .ok (.aload_n 0, 1) := by decide +kernel
theorem dX10_allSayYes_11 : decode cX10_allSayYes 11 = .ok (.getfield 63, 3) := by decide +kernel
theorem dX10_allSayYes_14 : decode cX10_allSayYes 14 = .ok (.iload_n 1, 1) := by decide +kernel
theorem dX10_allSayYes_15 : decode cX10_allSayYes 15 = .ok (.iaload, 1) := by decide +kernel
theorem dX10_allSayYes_16 : decode cX10_allSayYes 16 = .ok (.iload 4, 2) := by decide +kernel
theorem dX10_allSayYes_18 : decode cX10_allSayYes 18 = .ok (.ishr, 1) := by decide +kernel
theorem dX10_allSayYes_19 : decode cX10_allSayYes 19 = .ok (.iconst 1, 1) := by decide +kernel
theorem dX10_allSayYes_20 : decode cX10_allSayYes 20 = .ok (.iand, 1) := by decide +kernel
theorem dX10_allSayYes_21 : decode cX10_allSayYes 21 = .ok (.iconst 1, 1) := by decide +kernel
theorem dX10_allSayYes_22 : decode cX10_allSayYes 22 = .ok (.if_icmp .ne 16, 3) := by decide +kernel
theorem dX10_allSayYes_25 : decode cX10_allSayYes 25 = .ok (.aload_n 0, 1) := by decide +kernel
theorem dX10_allSayYes_26 : decode cX10_allSayYes 26 = .ok (.iload 4, 2) := by decide +kernel
theorem dX10_allSayYes_28 : decode cX10_allSayYes 28 = .ok (.iload_n 2, 1) := by decide +kernel
theorem dX10_allSayYes_29 : decode cX10_allSayYes 29 = .ok (.iload_n 3, 1) := by decide +kernel
theorem dX10_allSayYes_30 : decode cX10_allSayYes 30 = .ok (.invokevirtual 173, 3) := by decide +kernel
theorem dX10_allSayYes_33 : decode cX10_allSayYes 33 = .ok (.ifCond .ne 5, 3) := by decide +kernel
theorem dX10_allSayYes_36 : decode cX10_allSayYes 36 = .ok (.iconst 0, 1) := by decide +kernel
theorem dX10_allSayYes_37 : decode cX10_allSayYes 37 = .ok (.ireturn, 1) := by decide +kernel
theorem dX10_allSayYes_38 : decode cX10_allSayYes 38 = .ok (.iinc 4 1, 3) := by decide +kernel
theorem dX10_allSayYes_41 : decode cX10_allSayYes 41 = .ok (.goto (-38), 3) := by decide +kernel
theorem dX10_allSayYes_44 : decode cX10_allSayYes 44 = .ok (.iconst 1, 1) := by decide +kernel
theorem dX10_allSayYes_45 : decode cX10_allSayYes 45 = .ok (.ireturn, 1) := by decide +kernel
set_option maxRecDepth 20000 in
theorem ggX10_hasContract_X10_isAtOrAbove : GoodIn wsX10_hasContract wsX10_isAtOrAbove := goodIn_r _ [11, 12, 13, 14, 15, 16, 17, 18, 19, 20, 21, 22, 23, 24, 25, 26, 27, 28, 29, 30, 31, 32, 33, 34, 35, 36, 37, 38, 39, 40, 41, 42, 43, 44, 45, 46, 47, 48, 49, 50, 51, 52, 53, 54, 55, 56, 57] (by decide +kernel) (by decide +kernel)
set_option maxRecDepth 20000 in
theorem gX10_hasContract_X10_isAtOrAbove : GoodIn wsX10_hasContract (wsV RX10 176 RX10 yX10_isAtOrAbove wsX10_isAtOrAbove) := goodIn_app (goodIn_of _ (by decide +kernel)) ggX10_hasContract_X10_isAtOrAbove
theorem dX10_hasContract_0 : decode cX10_hasContract 0 = .ok (.iconst 0, 1) := by decide +kernel
theorem dX10_hasContract_1 : decode cX10_hasContract 1 = .ok (.istore 4, 2) := by decide +kernel
theorem dX10_hasContract_3 : decode cX10_hasContract 3 = .ok (.iload 4, 2) := by decide +kernel
theorem dX10_hasContract_5 : decode cX10_hasContract 5 = .ok (.aload_n 0, 1) := by decide +kernel
theorem dX10_hasContract_6 : decode cX10_hasContract 6 = .ok (.getfield 148, 3) := by decide +kernel
theorem dX10_hasContract_9 : decode cX10_hasContract 9 = .ok (.if_icmp .ge 68, 3) := by decide +kernel
theorem dX10_hasContract_12 : decode cX10_hasContract 12 = .ok (.aload_n 0, 1) := by decide +kernel
theorem dX10_hasContract_13 : decode cX10_hasContract 13 = .ok (.getfield 63, 3) := by decide +kernel
theorem dX10_hasContract_16 : decode cX10_hasContract 16 = .ok (.iload_n 1, 1) := by decide +kernel
theorem dX10_hasContract_17 : decode cX10_hasContract 17 = .ok (.iaload, 1) := by decide +kernel
theorem dX10_hasContract_18 : decode cX10_hasContract 18 = .ok (.aload_n 0, 1) := by decide +kernel
theorem dX10_hasContract_19 : decode cX10_hasContract 19 = .ok (.getfield 33, 3) := by decide +kernel
theorem dX10_hasContract_22 : decode cX10_hasContract 22 = .ok (.iload 4, 2) := by decide +kernel
theorem dX10_hasContract_24 : decode cX10_hasContract 24 = .ok (.iaload, 1) := by decide +kernel
theorem dX10_hasContract_25 : decode cX10_hasContract 25 = .ok (.ishr, 1) := by decide +kernel
theorem dX10_hasContract_26 : decode cX10_hasContract 26 = .ok (.iconst 1, 1) := by decide +kernel
theorem dX10_hasContract_27 : decode cX10_hasContract 27 = .ok (.iand, 1) := by decide +kernel
theorem dX10_hasContract_28 : decode cX10_hasContract 28 = .ok (.iconst 1, 1) := by decide +kernel
theorem dX10_hasContract_29 : decode cX10_hasContract 29 = .ok (.if_icmp .ne 42, 3) := by decide +kernel
theorem dX10_hasContract_32 : decode cX10_hasContract 32 = .ok (.aload_n 0, 1) := by decide +kernel
theorem dX10_hasContract_33 : decode cX10_hasContract 33 = .ok (.aload_n 0, 1) := by decide +kernel
theorem dX10_hasContract_34 : decode cX10_hasContract 34 = .ok (.getfield 36, 3) := by decide +kernel
theorem dX10_hasContract_37 : decode cX10_hasContract 37 = .ok (.iload 4, 2) := by decide +kernel
theorem dX10_hasContract_39 : decode cX10_hasContract 39 = .ok (.iaload, 1) := by decide +kernel
theorem dX10_hasContract_40 : decode cX10_hasContract 40 = .ok (.iload_n 2, 1) := by decide +kernel
theorem dX10_hasContract_41 : decode cX10_hasContract 41 = .ok (.invokevirtual 176, 3) := by decide +kernel
theorem dX10_hasContract_44 : decode cX10_hasContract 44 = .ok (.ifCond .eq 27, 3) := by decide +kernel
theorem dX10_hasContract_47 : decode cX10_hasContract 47 = .ok (.aload_n 0, 1) := by decide +kernel
theorem dX10_hasContract_48 : decode cX10_hasContract 48 = .ok (.getfield 39, 3) := by decide +kernel
theorem dX10_hasContract_51 : decode cX10_hasContract 51 = .ok (.iload 4, 2) := by decide +kernel
theorem dX10_hasContract_53 : decode cX10_hasContract 53 = .ok (.iaload, 1) := by decide +kernel
theorem dX10_hasContract_54 : decode cX10_hasContract 54 = .ok (.iload_n 3, 1) := by decide +kernel
theorem dX10_hasContract_55 : decode cX10_hasContract 55 = .ok (.if_icmp .gt 16, 3) := by decide +kernel
theorem dX10_hasContract_58 : decode cX10_hasContract 58 = .ok (.iload_n 3, 1) := by decide +kernel
theorem dX10_hasContract_59 : decode cX10_hasContract 59 = .ok (.aload_n 0, 1) := by decide +kernel
theorem dX10_hasContract_60 : decode cX10_hasContract 60 = .ok (.getfield 42, 3) := by decide +kernel
theorem dX10_hasContract_63 : decode cX10_hasContract 63 = .ok (.iload 4, 2) := by decide +kernel
theorem dX10_hasContract_65 : decode cX10_hasContract 65 = .ok (.iaload, 1) := by decide +kernel
theorem dX10_hasContract_66 : decode cX10_hasContract 66 = .ok (.if_icmp .gt 5, 3) := by decide +kernel
theorem dX10_hasContract_69 : decode cX10_hasContract 69 = .ok (.iconst 1, 1) := by decide +kernel
theorem dX10_hasContract_70 : decode cX10_hasContract 70 = .ok (.ireturn, 1) := by decide +kernel
theorem dX10_hasContract_71 : decode cX10_hasContract 71 = .ok (.iinc 4 1, 3) := by decide +kernel
theorem dX10_hasContract_74 : decode cX10_hasContract 74 = .ok (.goto (-71), 3) := by decide +kernel
theorem dX10_hasContract_77 : decode cX10_hasContract 77 = .ok (.iconst 0, 1) := by decide +kernel
theorem dX10_hasContract_78 : decode cX10_hasContract 78 = .ok (.ireturn, 1) := by decide +kernel
set_option maxRecDepth 20000 in
theorem ggX10_hasDuty_X10_dutyCovers : GoodIn wsX10_hasDuty wsX10_dutyCovers := goodIn_r _ [7, 8, 9, 10, 11, 12, 13, 14, 15, 16, 17, 18, 19, 20, 21, 22, 23, 24, 25, 26, 27, 28, 29, 30, 31, 32, 33, 34, 35, 36, 37, 38, 39, 40, 41, 42, 43, 44, 45, 46, 47, 48, 49, 50, 51, 52, 53, 54, 55, 56] (by decide +kernel) (by decide +kernel)
set_option maxRecDepth 20000 in
theorem gX10_hasDuty_X10_dutyCovers : GoodIn wsX10_hasDuty (wsV RX10 180 RX10 yX10_dutyCovers wsX10_dutyCovers) := goodIn_app (goodIn_of _ (by decide +kernel)) ggX10_hasDuty_X10_dutyCovers
theorem dX10_hasDuty_0 : decode cX10_hasDuty 0 = .ok (.iconst 0, 1) := by decide +kernel
theorem dX10_hasDuty_1 : decode cX10_hasDuty 1 = .ok (.istore 4, 2) := by decide +kernel
theorem dX10_hasDuty_3 : decode cX10_hasDuty 3 = .ok (.iload 4, 2) := by decide +kernel
theorem dX10_hasDuty_5 : decode cX10_hasDuty 5 = .ok (.aload_n 0, 1) := by decide +kernel
theorem dX10_hasDuty_6 : decode cX10_hasDuty 6 = .ok (.getfield 154, 3) := by decide +kernel
theorem dX10_hasDuty_9 : decode cX10_hasDuty 9 = .ok (.if_icmp .ge 33, 3) := by decide +kernel
theorem dX10_hasDuty_12 : decode cX10_hasDuty 12 = .ok (.aload_n 0, 1) := by decide +kernel
theorem dX10_hasDuty_13 : decode cX10_hasDuty 13 = .ok (.getfield 48, 3) := by decide +kernel
theorem dX10_hasDuty_16 : decode cX10_hasDuty 16 = .ok (.iload 4, 2) := by decide +kernel
theorem dX10_hasDuty_18 : decode cX10_hasDuty 18 = .ok (.iaload, 1) := by decide +kernel
theorem dX10_hasDuty_19 : decode cX10_hasDuty 19 = .ok (.iload_n 2, 1) := by decide +kernel
theorem dX10_hasDuty_20 : decode cX10_hasDuty 20 = .ok (.if_icmp .ne 16, 3) := by decide +kernel
theorem dX10_hasDuty_23 : decode cX10_hasDuty 23 = .ok (.aload_n 0, 1) := by decide +kernel
theorem dX10_hasDuty_24 : decode cX10_hasDuty 24 = .ok (.iload 4, 2) := by decide +kernel
theorem dX10_hasDuty_26 : decode cX10_hasDuty 26 = .ok (.iload_n 1, 1) := by decide +kernel
theorem dX10_hasDuty_27 : decode cX10_hasDuty 27 = .ok (.iload_n 3, 1) := by decide +kernel
theorem dX10_hasDuty_28 : decode cX10_hasDuty 28 = .ok (.invokevirtual 180, 3) := by decide +kernel
theorem dX10_hasDuty_31 : decode cX10_hasDuty 31 = .ok (.ifCond .eq 5, 3) := by decide +kernel
theorem dX10_hasDuty_34 : decode cX10_hasDuty 34 = .ok (.iconst 1, 1) := by decide +kernel
theorem dX10_hasDuty_35 : decode cX10_hasDuty 35 = .ok (.ireturn, 1) := by decide +kernel
theorem dX10_hasDuty_36 : decode cX10_hasDuty 36 = .ok (.iinc 4 1, 3) := by decide +kernel
theorem dX10_hasDuty_39 : decode cX10_hasDuty 39 = .ok (.goto (-36), 3) := by decide +kernel
theorem dX10_hasDuty_42 : decode cX10_hasDuty 42 = .ok (.iconst 0, 1) := by decide +kernel
theorem dX10_hasDuty_43 : decode cX10_hasDuty 43 = .ok (.ireturn, 1) := by decide +kernel
set_option maxRecDepth 20000 in
theorem ggX10_groundOf_X10_holdCovers : GoodIn wsX10_groundOf wsX10_holdCovers := goodIn_r _ [8, 2, 9, 10, 11, 12, 53, 54, 55, 56, 57, 58, 59, 60, 61, 62, 63, 64, 65, 66, 67, 68, 69, 70, 71, 72, 73, 74, 75, 76, 77, 78, 79, 80, 81, 82, 83, 84, 85, 86, 87, 88, 89, 90, 91, 92, 93, 94, 95, 96, 97] (by decide +kernel) (by decide +kernel)
set_option maxRecDepth 20000 in
theorem gX10_groundOf_X10_holdCovers : GoodIn wsX10_groundOf (wsV RX10 183 RX10 yX10_holdCovers wsX10_holdCovers) := goodIn_app (goodIn_of _ (by decide +kernel)) ggX10_groundOf_X10_holdCovers
set_option maxRecDepth 20000 in
theorem ggX10_groundOf_X10_allSayYes : GoodIn wsX10_groundOf wsX10_allSayYes := goodIn_r _ [16, 9, 17, 18, 19, 7, 20, 21, 22, 23, 24, 25, 26, 53, 54, 55, 56, 57, 58, 59, 60, 61, 62, 63, 64, 65, 66, 67, 68, 69, 70, 71, 72, 73, 74, 75, 76, 77, 78, 79, 80, 81, 82, 83, 84, 85, 86, 87, 88, 89, 90, 91, 92, 93, 94, 95, 96, 97] (by decide +kernel) (by decide +kernel)
set_option maxRecDepth 20000 in
theorem gX10_groundOf_X10_allSayYes : GoodIn wsX10_groundOf (wsV RX10 186 RX10 yX10_allSayYes wsX10_allSayYes) := goodIn_app (goodIn_of _ (by decide +kernel)) ggX10_groundOf_X10_allSayYes
set_option maxRecDepth 20000 in
theorem ggX10_groundOf_X10_hasContract : GoodIn wsX10_groundOf wsX10_hasContract := goodIn_r _ [30, 31, 9, 32, 33, 34, 35, 36, 37, 38, 7, 39, 26, 53, 54, 55, 56, 57, 58, 59, 60, 61, 62, 63, 64, 65, 66, 67, 68, 69, 70, 71, 72, 73, 74, 75, 76, 77, 78, 79, 80, 81, 82, 83, 84, 85, 86, 87, 88, 89, 90, 91, 92, 93, 94, 95, 96, 97] (by decide +kernel) (by decide +kernel)
set_option maxRecDepth 20000 in
theorem gX10_groundOf_X10_hasContract : GoodIn wsX10_groundOf (wsV RX10 189 RX10 yX10_hasContract wsX10_hasContract) := goodIn_app (goodIn_of _ (by decide +kernel)) ggX10_groundOf_X10_hasContract
set_option maxRecDepth 20000 in
theorem ggX10_groundOf_X10_hasDuty : GoodIn wsX10_groundOf wsX10_hasDuty := goodIn_r _ [43, 44, 45, 46, 47, 48, 7, 49, 50, 10, 51, 52, 53, 54, 55, 56, 57, 58, 59, 60, 61, 62, 63, 64, 65, 66, 67, 68, 69, 70, 71, 72, 73, 74, 75, 76, 77, 78, 79, 80, 81, 82, 83, 84, 85, 86, 87, 88, 89, 90, 91, 92, 93, 94, 95, 96, 97] (by decide +kernel) (by decide +kernel)
set_option maxRecDepth 20000 in
theorem gX10_groundOf_X10_hasDuty : GoodIn wsX10_groundOf (wsV RX10 192 RX10 yX10_hasDuty wsX10_hasDuty) := goodIn_app (goodIn_of _ (by decide +kernel)) ggX10_groundOf_X10_hasDuty
theorem dX10_groundOf_0 : decode cX10_groundOf 0 = .ok (.iload_n 3, 1) := by decide +kernel
theorem dX10_groundOf_1 : decode cX10_groundOf 1 = .ok (.sipush 1440, 3) := by decide +kernel
theorem dX10_groundOf_4 : decode cX10_groundOf 4 = .ok (.idiv, 1) := by decide +kernel
theorem dX10_groundOf_5 : decode cX10_groundOf 5 = .ok (.istore 4, 2) := by decide +kernel
theorem dX10_groundOf_7 : decode cX10_groundOf 7 = .ok (.iconst 0, 1) := by decide +kernel
theorem dX10_groundOf_8 : decode cX10_groundOf 8 = .ok (.istore 5, 2) := by decide +kernel
theorem dX10_groundOf_10 : decode cX10_groundOf 10 = .ok (.iconst 0, 1) := by decide +kernel
theorem dX10_groundOf_11 : decode cX10_groundOf 11 = .ok (.istore 6, 2) := by decide +kernel
theorem dX10_groundOf_13 : decode cX10_groundOf 13 = .ok (.iconst 0, 1) := by decide +kernel
theorem dX10_groundOf_14 : decode cX10_groundOf 14 = .ok (.istore 7, 2) := by decide +kernel
theorem dX10_groundOf_16 : decode cX10_groundOf 16 = .ok (.iload 7, 2) := by decide +kernel
theorem dX10_groundOf_18 : decode cX10_groundOf 18 = .ok (.aload_n 0, 1) := by decide +kernel
theorem dX10_groundOf_19 : decode cX10_groundOf 19 = .ok (.getfield 170, 3) := by decide +kernel
theorem dX10_groundOf_22 : decode cX10_groundOf 22 = .ok (.if_icmp .ge 71, 3) := by decide +kernel
theorem dX10_groundOf_25 : decode cX10_groundOf 25 = .ok (.aload_n 0, 1) := by decide +kernel
theorem dX10_groundOf_26 : decode cX10_groundOf 26 = .ok (.iload 7, 2) := by decide +kernel
theorem dX10_groundOf_28 : decode cX10_groundOf 28 = .ok (.iload_n 1, 1) := by decide +kernel
theorem dX10_groundOf_29 : decode cX10_groundOf 29 = .ok (.iload 4, 2) := by decide +kernel
theorem dX10_groundOf_31 : decode cX10_groundOf 31 = .ok (.invokevirtual 183, 3) := by decide +kernel
theorem dX10_groundOf_34 : decode cX10_groundOf 34 = .ok (.ifCond .ne 6, 3) := by decide +kernel
theorem dX10_groundOf_37 : decode cX10_groundOf 37 = .ok (.goto 50, 3) := by decide +kernel
theorem dX10_groundOf_40 : decode cX10_groundOf 40 = .ok (.iload 5, 2) := by decide +kernel
theorem dX10_groundOf_42 : decode cX10_groundOf 42 = .ok (.ifCond .ne 15, 3) := by decide +kernel
theorem dX10_groundOf_45 : decode cX10_groundOf 45 = .ok (.aload_n 0, 1) := by decide +kernel
theorem dX10_groundOf_46 : decode cX10_groundOf 46 = .ok (.getfield 94, 3) := by decide +kernel
theorem dX10_groundOf_49 : decode cX10_groundOf 49 = .ok (.iload 7, 2) := by decide +kernel
theorem dX10_groundOf_51 : decode cX10_groundOf 51 = .ok (.iaload, 1) := by decide +kernel
theorem dX10_groundOf_52 : decode cX10_groundOf 52 = .ok (.bipush 100, 2) := by decide +kernel
theorem dX10_groundOf_54 : decode cX10_groundOf 54 = .ok (.if_icmp .ge 7, 3) := by decide +kernel
theorem dX10_groundOf_57 : decode cX10_groundOf 57 = .ok (.iconst 1, 1) := by decide +kernel
theorem dX10_groundOf_58 : decode cX10_groundOf 58 = .ok (.goto 4, 3) := by decide +kernel
theorem dX10_groundOf_61 : decode cX10_groundOf 61 = .ok (.iconst 0, 1) := by decide +kernel
theorem dX10_groundOf_62 : decode cX10_groundOf 62 = .ok (.istore 5, 2) := by decide +kernel
theorem dX10_groundOf_64 : decode cX10_groundOf 64 = .ok (.iload 6, 2) := by decide +kernel
theorem dX10_groundOf_66 : decode cX10_groundOf 66 = .ok (.ifCond .ne 14, 3) := by decide +kernel
theorem dX10_groundOf_69 : decode cX10_groundOf 69 = .ok (.aload_n 0, 1) := by decide +kernel
theorem dX10_groundOf_70 : decode cX10_groundOf 70 = .ok (.getfield 97, 3) := by decide +kernel
theorem dX10_groundOf_73 : decode cX10_groundOf 73 = .ok (.iload 7, 2) := by decide +kernel
theorem dX10_groundOf_75 : decode cX10_groundOf 75 = .ok (.iaload, 1) := by decide +kernel
theorem dX10_groundOf_76 : decode cX10_groundOf 76 = .ok (.iload_n 2, 1) := by decide +kernel
theorem dX10_groundOf_77 : decode cX10_groundOf 77 = .ok (.if_icmp .ne 7, 3) := by decide +kernel
theorem dX10_groundOf_80 : decode cX10_groundOf 80 = .ok (.iconst 1, 1) := by decide +kernel
theorem dX10_groundOf_81 : decode cX10_groundOf 81 = .ok (.goto 4, 3) := by decide +kernel
theorem dX10_groundOf_84 : decode cX10_groundOf 84 = .ok (.iconst 0, 1) := by decide +kernel
theorem dX10_groundOf_85 : decode cX10_groundOf 85 = .ok (.istore 6, 2) := by decide +kernel
theorem dX10_groundOf_87 : decode cX10_groundOf 87 = .ok (.iinc 7 1, 3) := by decide +kernel
theorem dX10_groundOf_90 : decode cX10_groundOf 90 = .ok (.goto (-74), 3) := by decide +kernel
theorem dX10_groundOf_93 : decode cX10_groundOf 93 = .ok (.iload 5, 2) := by decide +kernel
theorem dX10_groundOf_95 : decode cX10_groundOf 95 = .ok (.ifCond .ne 15, 3) := by decide +kernel
theorem dX10_groundOf_98 : decode cX10_groundOf 98 = .ok (.aload_n 0, 1) := by decide +kernel
theorem dX10_groundOf_99 : decode cX10_groundOf 99 = .ok (.iload_n 1, 1) := by decide +kernel
theorem dX10_groundOf_100 : decode cX10_groundOf 100 = .ok (.iload_n 2, 1) := by decide +kernel
theorem dX10_groundOf_101 : decode cX10_groundOf 101 = .ok (.iload_n 3, 1) := by decide +kernel
theorem dX10_groundOf_102 : decode cX10_groundOf 102 = .ok (.invokevirtual 186, 3) := by decide +kernel
theorem dX10_groundOf_105 : decode cX10_groundOf 105 = .ok (.ifCond .eq 5, 3) := by decide +kernel
theorem dX10_groundOf_108 : decode cX10_groundOf 108 = .ok (.iconst 1, 1) := by decide +kernel
theorem dX10_groundOf_109 : decode cX10_groundOf 109 = .ok (.ireturn, 1) := by decide +kernel
theorem dX10_groundOf_110 : decode cX10_groundOf 110 = .ok (.iload 5, 2) := by decide +kernel
theorem dX10_groundOf_112 : decode cX10_groundOf 112 = .ok (.ifCond .ne 15, 3) := by decide +kernel
theorem dX10_groundOf_115 : decode cX10_groundOf 115 = .ok (.aload_n 0, 1) := by decide +kernel
theorem dX10_groundOf_116 : decode cX10_groundOf 116 = .ok (.iload_n 1, 1) := by decide +kernel
theorem dX10_groundOf_117 : decode cX10_groundOf 117 = .ok (.iload_n 2, 1) := by decide +kernel
theorem dX10_groundOf_118 : decode cX10_groundOf 118 = .ok (.iload_n 3, 1) := by decide +kernel
theorem dX10_groundOf_119 : decode cX10_groundOf 119 = .ok (.invokevirtual 189, 3) := by decide +kernel
theorem dX10_groundOf_122 : decode cX10_groundOf 122 = .ok (.ifCond .eq 5, 3) := by decide +kernel
theorem dX10_groundOf_125 : decode cX10_groundOf 125 = .ok (.iconst 2, 1) := by decide +kernel
theorem dX10_groundOf_126 : decode cX10_groundOf 126 = .ok (.ireturn, 1) := by decide +kernel
theorem dX10_groundOf_127 : decode cX10_groundOf 127 = .ok (.iload 5, 2) := by decide +kernel
theorem dX10_groundOf_129 : decode cX10_groundOf 129 = .ok (.ifCond .ne 16, 3) := by decide +kernel
theorem dX10_groundOf_132 : decode cX10_groundOf 132 = .ok (.aload_n 0, 1) := by decide +kernel
theorem dX10_groundOf_133 : decode cX10_groundOf 133 = .ok (.iload_n 1, 1) := by decide +kernel
theorem dX10_groundOf_134 : decode cX10_groundOf 134 = .ok (.iload_n 2, 1) := by decide +kernel
theorem dX10_groundOf_135 : decode cX10_groundOf 135 = .ok (.iload 4, 2) := by decide +kernel
theorem dX10_groundOf_137 : decode cX10_groundOf 137 = .ok (.invokevirtual 192, 3) := by decide +kernel
theorem dX10_groundOf_140 : decode cX10_groundOf 140 = .ok (.ifCond .eq 5, 3) := by decide +kernel
theorem dX10_groundOf_143 : decode cX10_groundOf 143 = .ok (.iconst 3, 1) := by decide +kernel
theorem dX10_groundOf_144 : decode cX10_groundOf 144 = .ok (.ireturn, 1) := by decide +kernel
theorem dX10_groundOf_145 : decode cX10_groundOf 145 = .ok (.iload 6, 2) := by decide +kernel
theorem dX10_groundOf_147 : decode cX10_groundOf 147 = .ok (.ifCond .eq 7, 3) := by decide +kernel
theorem dX10_groundOf_150 : decode cX10_groundOf 150 = .ok (.iconst 4, 1) := by decide +kernel
theorem dX10_groundOf_151 : decode cX10_groundOf 151 = .ok (.goto 4, 3) := by decide +kernel
theorem dX10_groundOf_154 : decode cX10_groundOf 154 = .ok (.iconst 0, 1) := by decide +kernel
theorem dX10_groundOf_155 : decode cX10_groundOf 155 = .ok (.ireturn, 1) := by decide +kernel
theorem dX10_reckon_0 : decode cX10_reckon 0 = .ok (.iconst 0, 1) := by decide +kernel
theorem dX10_reckon_1 : decode cX10_reckon 1 = .ok (.istore_n 1, 1) := by decide +kernel
theorem dX10_reckon_2 : decode cX10_reckon 2 = .ok (.iload_n 1, 1) := by decide +kernel
theorem dX10_reckon_3 : decode cX10_reckon 3 = .ok (.aload_n 0, 1) := by decide +kernel
theorem dX10_reckon_4 : decode cX10_reckon 4 = .ok (.getfield 157, 3) := by decide +kernel
theorem dX10_reckon_7 : decode cX10_reckon 7 = .ok (.if_icmp .ge 171, 3) := by decide +kernel
theorem dX10_reckon_10 : decode cX10_reckon 10 = .ok (.aload_n 0, 1) := by decide +kernel
theorem dX10_reckon_11 : decode cX10_reckon 11 = .ok (.getfield 54, 3) := by decide +kernel
theorem dX10_reckon_14 : decode cX10_reckon 14 = .ok (.iload_n 1, 1) := by decide +kernel
theorem dX10_reckon_15 : decode cX10_reckon 15 = .ok (.iaload, 1) := by decide +kernel
theorem dX10_reckon_16 : decode cX10_reckon 16 = .ok (.iconst (-1), 1) := by decide +kernel
theorem dX10_reckon_17 : decode cX10_reckon 17 = .ok (.if_icmp .eq 17, 3) := by decide +kernel
theorem dX10_reckon_20 : decode cX10_reckon 20 = .ok (.aload_n 0, 1) := by decide +kernel
theorem dX10_reckon_21 : decode cX10_reckon 21 = .ok (.getfield 75, 3) := by decide +kernel
theorem dX10_reckon_24 : decode cX10_reckon 24 = .ok (.aload_n 0, 1) := by decide +kernel
theorem dX10_reckon_25 : decode cX10_reckon 25 = .ok (.getfield 66, 3) := by decide +kernel
theorem dX10_reckon_28 : decode cX10_reckon 28 = .ok (.iload_n 1, 1) := by decide +kernel
theorem dX10_reckon_29 : decode cX10_reckon 29 = .ok (.iaload, 1) := by decide +kernel
theorem dX10_reckon_30 : decode cX10_reckon 30 = .ok (.baload, 1) := by decide +kernel
theorem dX10_reckon_31 : decode cX10_reckon 31 = .ok (.ifCond .ne 7, 3) := by decide +kernel
theorem dX10_reckon_34 : decode cX10_reckon 34 = .ok (.lconst 0, 1) := by decide +kernel
theorem dX10_reckon_35 : decode cX10_reckon 35 = .ok (.goto 14, 3) := by decide +kernel
theorem dX10_reckon_38 : decode cX10_reckon 38 = .ok (.aload_n 0, 1) := by decide +kernel
theorem dX10_reckon_39 : decode cX10_reckon 39 = .ok (.getfield 78, 3) := by decide +kernel
theorem dX10_reckon_42 : decode cX10_reckon 42 = .ok (.aload_n 0, 1) := by decide +kernel
theorem dX10_reckon_43 : decode cX10_reckon 43 = .ok (.getfield 66, 3) := by decide +kernel
theorem dX10_reckon_46 : decode cX10_reckon 46 = .ok (.iload_n 1, 1) := by decide +kernel
theorem dX10_reckon_47 : decode cX10_reckon 47 = .ok (.iaload, 1) := by decide +kernel
theorem dX10_reckon_48 : decode cX10_reckon 48 = .ok (.laload, 1) := by decide +kernel
theorem dX10_reckon_49 : decode cX10_reckon 49 = .ok (.lstore_n 2, 1) := by decide +kernel
theorem dX10_reckon_50 : decode cX10_reckon 50 = .ok (.aload_n 0, 1) := by decide +kernel
theorem dX10_reckon_51 : decode cX10_reckon 51 = .ok (.getfield 54, 3) := by decide +kernel
theorem dX10_reckon_54 : decode cX10_reckon 54 = .ok (.iload_n 1, 1) := by decide +kernel
theorem dX10_reckon_55 : decode cX10_reckon 55 = .ok (.iaload, 1) := by decide +kernel
theorem dX10_reckon_56 : decode cX10_reckon 56 = .ok (.iconst (-1), 1) := by decide +kernel
theorem dX10_reckon_57 : decode cX10_reckon 57 = .ok (.if_icmp .eq 17, 3) := by decide +kernel
theorem dX10_reckon_60 : decode cX10_reckon 60 = .ok (.aload_n 0, 1) := by decide +kernel
theorem dX10_reckon_61 : decode cX10_reckon 61 = .ok (.getfield 75, 3) := by decide +kernel
theorem dX10_reckon_64 : decode cX10_reckon 64 = .ok (.aload_n 0, 1) := by decide +kernel
theorem dX10_reckon_65 : decode cX10_reckon 65 = .ok (.getfield 69, 3) := by decide +kernel
theorem dX10_reckon_68 : decode cX10_reckon 68 = .ok (.iload_n 1, 1) := by decide +kernel
theorem dX10_reckon_69 : decode cX10_reckon 69 = .ok (.iaload, 1) := by decide +kernel
theorem dX10_reckon_70 : decode cX10_reckon 70 = .ok (.baload, 1) := by decide +kernel
theorem dX10_reckon_71 : decode cX10_reckon 71 = .ok (.ifCond .ne 7, 3) := by decide +kernel
theorem dX10_reckon_74 : decode cX10_reckon 74 = .ok (.lconst 0, 1) := by decide +kernel
theorem dX10_reckon_75 : decode cX10_reckon 75 = .ok (.goto 14, 3) := by decide +kernel
theorem dX10_reckon_78 : decode cX10_reckon 78 = .ok (.aload_n 0, 1) := by decide +kernel
theorem dX10_reckon_79 : decode cX10_reckon 79 = .ok (.getfield 78, 3) := by decide +kernel
theorem dX10_reckon_82 : decode cX10_reckon 82 = .ok (.aload_n 0, 1) := by decide +kernel
theorem dX10_reckon_83 : decode cX10_reckon 83 = .ok (.getfield 69, 3) := by decide +kernel
theorem dX10_reckon_86 : decode cX10_reckon 86 = .ok (.iload_n 1, 1) := by decide +kernel
theorem dX10_reckon_87 : decode cX10_reckon 87 = .ok (.iaload, 1) := by decide +kernel
theorem dX10_reckon_88 : decode cX10_reckon 88 = .ok (.laload, 1) := by decide +kernel
theorem dX10_reckon_89 : decode cX10_reckon 89 = .ok (.lstore 4, 2) := by decide +kernel
theorem dX10_reckon_91 : decode cX10_reckon 91 = .ok (.aload_n 0, 1) := by decide +kernel
theorem dX10_reckon_92 : decode cX10_reckon 92 = .ok (.getfield 78, 3) := by decide +kernel
theorem dX10_reckon_95 : decode cX10_reckon 95 = .ok (.iload_n 1, 1) := by decide +kernel
theorem dX10_reckon_96 : decode cX10_reckon 96 = .ok (.aload_n 0, 1) := by decide +kernel
theorem dX10_reckon_97 : decode cX10_reckon 97 = .ok (.getfield 75, 3) := by decide +kernel
theorem dX10_reckon_100 : decode cX10_reckon 100 = .ok (.iload_n 1, 1) := by decide +kernel
theorem dX10_reckon_101 : decode cX10_reckon 101 = .ok (.baload, 1) := by decide +kernel
theorem dX10_reckon_102 : decode cX10_reckon 102 = .ok (.ifCond .ne 7, 3) := by decide +kernel
theorem dX10_reckon_105 : decode cX10_reckon 105 = .ok (.lconst 0, 1) := by decide +kernel
theorem dX10_reckon_106 : decode cX10_reckon 106 = .ok (.goto 65, 3) := by decide +kernel
theorem dX10_reckon_109 : decode cX10_reckon 109 = .ok (.aload_n 0, 1) := by decide +kernel
theorem dX10_reckon_110 : decode cX10_reckon 110 = .ok (.getfield 54, 3) := by decide +kernel
theorem dX10_reckon_113 : decode cX10_reckon 113 = .ok (.iload_n 1, 1) := by decide +kernel
theorem dX10_reckon_114 : decode cX10_reckon 114 = .ok (.iaload, 1) := by decide +kernel
theorem dX10_reckon_115 : decode cX10_reckon 115 = .ok (.iconst (-1), 1) := by decide +kernel
theorem dX10_reckon_116 : decode cX10_reckon 116 = .ok (.if_icmp .ne 13, 3) := by decide +kernel
theorem dX10_reckon_119 : decode cX10_reckon 119 = .ok (.aload_n 0, 1) := by decide +kernel
theorem dX10_reckon_120 : decode cX10_reckon 120 = .ok (.getfield 72, 3) := by decide +kernel
theorem dX10_reckon_123 : decode cX10_reckon 123 = .ok (.iload_n 1, 1) := by decide +kernel
theorem dX10_reckon_124 : decode cX10_reckon 124 = .ok (.iaload, 1) := by decide +kernel
theorem dX10_reckon_125 : decode cX10_reckon 125 = .ok (.i2l, 1) := by decide +kernel
theorem dX10_reckon_126 : decode cX10_reckon 126 = .ok (.goto 45, 3) := by decide +kernel
theorem dX10_reckon_129 : decode cX10_reckon 129 = .ok (.aload_n 0, 1) := by decide +kernel
theorem dX10_reckon_130 : decode cX10_reckon 130 = .ok (.getfield 54, 3) := by decide +kernel
theorem dX10_reckon_133 : decode cX10_reckon 133 = .ok (.iload_n 1, 1) := by decide +kernel
theorem dX10_reckon_134 : decode cX10_reckon 134 = .ok (.iaload, 1) := by decide +kernel
theorem dX10_reckon_135 : decode cX10_reckon 135 = .ok (.ifCond .ne 7, 3) := by decide +kernel
theorem dX10_reckon_138 : decode cX10_reckon 138 = .ok (.lload_n 2, 1) := by decide +kernel
theorem dX10_reckon_139 : decode cX10_reckon 139 = .ok (.goto 32, 3) := by decide +kernel
theorem dX10_reckon_142 : decode cX10_reckon 142 = .ok (.aload_n 0, 1) := by decide +kernel
theorem dX10_reckon_143 : decode cX10_reckon 143 = .ok (.getfield 54, 3) := by decide +kernel
theorem dX10_reckon_146 : decode cX10_reckon 146 = .ok (.iload_n 1, 1) := by decide +kernel
theorem dX10_reckon_147 : decode cX10_reckon 147 = .ok (.iaload, 1) := by decide +kernel
theorem dX10_reckon_148 : decode cX10_reckon 148 = .ok (.iconst 1, 1) := by decide +kernel
theorem dX10_reckon_149 : decode cX10_reckon 149 = .ok (.if_icmp .ne 10, 3) := by decide +kernel
theorem dX10_reckon_152 : decode cX10_reckon 152 = .ok (.lload_n 2, 1) := by decide +kernel
theorem dX10_reckon_153 : decode cX10_reckon 153 = .ok (.lload 4, 2) := by decide +kernel
theorem dX10_reckon_155 : decode cX10_reckon 155 = .ok (.ladd, 1) := by decide +kernel
theorem dX10_reckon_156 : decode cX10_reckon 156 = .ok (.goto 15, 3) := by decide +kernel
theorem dX10_reckon_159 : decode cX10_reckon 159 = .ok (.lload_n 2, 1) := by decide +kernel
theorem dX10_reckon_160 : decode cX10_reckon 160 = .ok (.lload 4, 2) := by decide +kernel
theorem dX10_reckon_162 : decode cX10_reckon 162 = .ok (.lcmp, 1) := by decide +kernel
theorem dX10_reckon_163 : decode cX10_reckon 163 = .ok (.ifCond .le 7, 3) := by decide +kernel
theorem dX10_reckon_166 : decode cX10_reckon 166 = .ok (.lconst 1, 1) := by decide +kernel
theorem dX10_reckon_167 : decode cX10_reckon 167 = .ok (.goto 4, 3) := by decide +kernel
theorem dX10_reckon_170 : decode cX10_reckon 170 = .ok (.lconst 0, 1) := by decide +kernel
theorem dX10_reckon_171 : decode cX10_reckon 171 = .ok (.lastore, 1) := by decide +kernel
theorem dX10_reckon_172 : decode cX10_reckon 172 = .ok (.iinc 1 1, 3) := by decide +kernel
theorem dX10_reckon_175 : decode cX10_reckon 175 = .ok (.goto (-173), 3) := by decide +kernel
theorem dX10_reckon_178 : decode cX10_reckon 178 = .ok (.return_, 1) := by decide +kernel
set_option maxRecDepth 20000 in
theorem ggX10_peek_X10_reckon : GoodIn wsX10_peek wsX10_reckon := goodIn_r _ [7, 8, 9, 10, 11, 2, 12, 13, 21, 22, 23, 24, 25, 26, 27, 28, 29, 30, 31, 32, 33, 34, 35, 36, 37, 38, 39, 40, 41, 42, 43, 44, 45, 46, 47, 48, 49, 50, 51, 52, 53, 54, 55, 56, 57, 58, 59, 60, 61, 62, 63, 64, 65] (by decide +kernel) (by decide +kernel)
set_option maxRecDepth 20000 in
theorem gX10_peek_X10_reckon : GoodIn wsX10_peek (wsV RX10 195 RX10 yX10_reckon wsX10_reckon) := goodIn_app (goodIn_of _ (by decide +kernel)) ggX10_peek_X10_reckon
set_option maxRecDepth 20000 in
theorem ggX10_peek_X10_isLiving : GoodIn wsX10_peek wsX10_isLiving := goodIn_r _ [17, 8, 10, 18, 19, 6, 20, 21, 22, 23, 24, 25, 26, 27, 28, 29, 30, 31, 32, 33, 34, 35, 36, 37, 38, 39, 40, 41, 42, 43, 44, 45, 46, 47, 48, 49, 50, 51, 52, 53, 54, 55, 56, 57, 58, 59, 60, 61, 62, 63, 64, 65] (by decide +kernel) (by decide +kernel)
set_option maxRecDepth 20000 in
theorem gX10_peek_X10_isLiving : GoodIn wsX10_peek (wsV RX10 164 RX10 yX10_isLiving wsX10_isLiving) := goodIn_app (goodIn_of _ (by decide +kernel)) ggX10_peek_X10_isLiving
theorem dX10_peek_0 : decode cX10_peek 0 = .ok (.aload_n 0, 1) := by decide +kernel
theorem dX10_peek_1 : decode cX10_peek 1 = .ok (.iconst 0, 1) := by decide +kernel
theorem dX10_peek_2 : decode cX10_peek 2 = .ok (.putfield 121, 3) := by decide +kernel
theorem dX10_peek_5 : decode cX10_peek 5 = .ok (.aload_n 0, 1) := by decide +kernel
theorem dX10_peek_6 : decode cX10_peek 6 = .ok (.invokevirtual 195, 3) := by decide +kernel
theorem dX10_peek_9 : decode cX10_peek 9 = .ok (.aload_n 0, 1) := by decide +kernel
theorem dX10_peek_10 : decode cX10_peek 10 = .ok (.iload_n 1, 1) := by decide +kernel
theorem dX10_peek_11 : decode cX10_peek 11 = .ok (.invokevirtual 164, 3) := by decide +kernel
theorem dX10_peek_14 : decode cX10_peek 14 = .ok (.ifCond .eq 12, 3) := by decide +kernel
theorem dX10_peek_17 : decode cX10_peek 17 = .ok (.aload_n 0, 1) := by decide +kernel
theorem dX10_peek_18 : decode cX10_peek 18 = .ok (.getfield 78, 3) := by decide +kernel
theorem dX10_peek_21 : decode cX10_peek 21 = .ok (.iload_n 1, 1) := by decide +kernel
theorem dX10_peek_22 : decode cX10_peek 22 = .ok (.laload, 1) := by decide +kernel
theorem dX10_peek_23 : decode cX10_peek 23 = .ok (.goto 4, 3) := by decide +kernel
theorem dX10_peek_26 : decode cX10_peek 26 = .ok (.lconst 0, 1) := by decide +kernel
theorem dX10_peek_27 : decode cX10_peek 27 = .ok (.lreturn, 1) := by decide +kernel
set_option maxRecDepth 20000 in
theorem ggX10_use_X10_isPurpose : GoodIn wsX10_use wsX10_isPurpose := goodIn_r _ [13, 14, 15, 16, 12, 17, 95, 96, 97, 98, 99, 100, 101, 102, 103, 104, 105, 106, 107, 108, 109, 110, 111, 112, 113, 114, 115, 116, 117, 118, 119, 120, 121, 122, 123, 124, 125, 126, 127, 128, 129, 130, 131, 132, 133, 134, 135, 136, 137, 138, 139] (by decide +kernel) (by decide +kernel)
set_option maxRecDepth 20000 in
theorem gX10_use_X10_isPurpose : GoodIn wsX10_use (wsV RX10 132 RX10 yX10_isPurpose wsX10_isPurpose) := goodIn_app (goodIn_of _ (by decide +kernel)) ggX10_use_X10_isPurpose
set_option maxRecDepth 20000 in
theorem ggX10_use_X10_isMinute : GoodIn wsX10_use wsX10_isMinute := goodIn_r _ [20, 21, 15, 16, 12, 17] (by decide +kernel) (by decide +kernel)
set_option maxRecDepth 20000 in
theorem gX10_use_X10_isMinute : GoodIn wsX10_use (va_wsS RX10 142 yX10_isMinute wsX10_isMinute) := goodIn_app (goodIn_of _ (by decide +kernel)) ggX10_use_X10_isMinute
set_option maxRecDepth 20000 in
theorem ggX10_use_X10_isLiving : GoodIn wsX10_use wsX10_isLiving := goodIn_r _ [25, 26, 27, 15, 16, 12, 17, 95, 96, 97, 98, 99, 100, 101, 102, 103, 104, 105, 106, 107, 108, 109, 110, 111, 112, 113, 114, 115, 116, 117, 118, 119, 120, 121, 122, 123, 124, 125, 126, 127, 128, 129, 130, 131, 132, 133, 134, 135, 136, 137, 138, 139] (by decide +kernel) (by decide +kernel)
set_option maxRecDepth 20000 in
theorem gX10_use_X10_isLiving : GoodIn wsX10_use (wsV RX10 164 RX10 yX10_isLiving wsX10_isLiving) := goodIn_app (goodIn_of _ (by decide +kernel)) ggX10_use_X10_isLiving
set_option maxRecDepth 20000 in
theorem ggX10_use_X10_says : GoodIn wsX10_use wsX10_says := goodIn_r _ [31, 7, 95, 96, 97, 98, 99, 100, 101, 102, 103, 104, 105, 106, 107, 108, 109, 110, 111, 112, 113, 114, 115, 116, 117, 118, 119, 120, 121, 122, 123, 124, 125, 126, 127, 128, 129, 130, 131, 132, 133, 134, 135, 136, 137, 138, 139] (by decide +kernel) (by decide +kernel)
set_option maxRecDepth 20000 in
theorem gX10_use_X10_says : GoodIn wsX10_use (wsV RX10 136 RX10 yX10_says wsX10_says) := goodIn_app (goodIn_of _ (by decide +kernel)) ggX10_use_X10_says
set_option maxRecDepth 20000 in
theorem ggX10_use_X10_groundOf : GoodIn wsX10_use wsX10_groundOf := goodIn_r _ [35, 36, 37, 38, 39, 40, 41, 12, 42, 43, 44, 45, 46, 47, 48, 49, 50, 51, 52, 53, 54, 55, 56, 57, 58, 59, 60, 61, 62, 63, 64, 65, 66, 67, 68, 69, 70, 71, 72, 73, 74, 75, 76, 77, 78, 79, 80, 81, 82, 83, 84, 85, 86, 95, 96, 97, 98, 99, 100, 101, 102, 103, 104, 105, 106, 107, 108, 109, 110, 111, 112, 113, 114, 115, 116, 117, 118, 119, 120, 121, 122, 123, 124, 125, 126, 127, 128, 129, 130, 131, 132, 133, 134, 135, 136, 137, 138, 139] (by decide +kernel) (by decide +kernel)
set_option maxRecDepth 20000 in
theorem gX10_use_X10_groundOf : GoodIn wsX10_use (wsV RX10 198 RX10 yX10_groundOf wsX10_groundOf) := goodIn_app (goodIn_of _ (by decide +kernel)) ggX10_use_X10_groundOf
set_option maxRecDepth 20000 in
theorem ggX10_use_X10_reckon : GoodIn wsX10_use wsX10_reckon := goodIn_r _ [90, 26, 91, 27, 92, 8, 93, 94, 95, 96, 97, 98, 99, 100, 101, 102, 103, 104, 105, 106, 107, 108, 109, 110, 111, 112, 113, 114, 115, 116, 117, 118, 119, 120, 121, 122, 123, 124, 125, 126, 127, 128, 129, 130, 131, 132, 133, 134, 135, 136, 137, 138, 139] (by decide +kernel) (by decide +kernel)
set_option maxRecDepth 20000 in
theorem gX10_use_X10_reckon : GoodIn wsX10_use (wsV RX10 195 RX10 yX10_reckon wsX10_reckon) := goodIn_app (goodIn_of _ (by decide +kernel)) ggX10_use_X10_reckon
theorem dX10_use_0 : decode cX10_use 0 = .ok (.aload_n 0, 1) := by decide +kernel
theorem dX10_use_1 : decode cX10_use 1 = .ok (.aload_n 0, 1) := by decide +kernel
theorem dX10_use_2 : decode cX10_use 2 = .ok (.iload_n 2, 1) := by decide +kernel
theorem dX10_use_3 : decode cX10_use 3 = .ok (.invokevirtual 132, 3) := by decide +kernel
theorem dX10_use_6 : decode cX10_use 6 = .ok (.ifCond .eq 10, 3) := by decide +kernel
theorem dX10_use_9 : decode cX10_use 9 = .ok (.iload_n 3, 1) := by decide +kernel
theorem dX10_use_10 : decode cX10_use 10 = .ok (.invokestatic 142, 3) := by decide +kernel
theorem dX10_use_13 : decode cX10_use 13 = .ok (.ifCond .ne 7, 3) := by decide +kernel
theorem dX10_use_16 : decode cX10_use 16 = .ok (.iconst 2, 1) := by decide +kernel
theorem dX10_use_17 : decode cX10_use 17 = .ok (.goto 16, 3) := by decide +kernel
theorem dX10_use_20 : decode cX10_use 20 = .ok (.aload_n 0, 1) := by decide +kernel
theorem dX10_use_21 : decode cX10_use 21 = .ok (.iload_n 1, 1) := by decide +kernel
theorem dX10_use_22 : decode cX10_use 22 = .ok (.invokevirtual 164, 3) := by decide +kernel
theorem dX10_use_25 : decode cX10_use 25 = .ok (.ifCond .ne 7, 3) := by decide +kernel
theorem dX10_use_28 : decode cX10_use 28 = .ok (.iconst 1, 1) := by decide +kernel
theorem dX10_use_29 : decode cX10_use 29 = .ok (.goto 4, 3) := by decide +kernel
theorem dX10_use_32 : decode cX10_use 32 = .ok (.iconst 0, 1) := by decide +kernel
theorem dX10_use_33 : decode cX10_use 33 = .ok (.invokevirtual 136, 3) := by decide +kernel
theorem dX10_use_36 : decode cX10_use 36 = .ok (.ifCond .ne 5, 3) := by decide +kernel
theorem dX10_use_39 : decode cX10_use 39 = .ok (.lconst 0, 1) := by decide +kernel
theorem dX10_use_40 : decode cX10_use 40 = .ok (.lreturn, 1) := by decide +kernel
theorem dX10_use_41 : decode cX10_use 41 = .ok (.aload_n 0, 1) := by decide +kernel
theorem dX10_use_42 : decode cX10_use 42 = .ok (.iload_n 1, 1) := by decide +kernel
theorem dX10_use_43 : decode cX10_use 43 = .ok (.iload_n 2, 1) := by decide +kernel
theorem dX10_use_44 : decode cX10_use 44 = .ok (.iload_n 3, 1) := by decide +kernel
theorem dX10_use_45 : decode cX10_use 45 = .ok (.invokevirtual 198, 3) := by decide +kernel
theorem dX10_use_48 : decode cX10_use 48 = .ok (.istore 4, 2) := by decide +kernel
theorem dX10_use_50 : decode cX10_use 50 = .ok (.aload_n 0, 1) := by decide +kernel
theorem dX10_use_51 : decode cX10_use 51 = .ok (.iload 4, 2) := by decide +kernel
theorem dX10_use_53 : decode cX10_use 53 = .ok (.putfield 118, 3) := by decide +kernel
theorem dX10_use_56 : decode cX10_use 56 = .ok (.aload_n 0, 1) := by decide +kernel
theorem dX10_use_57 : decode cX10_use 57 = .ok (.getfield 202, 3) := by decide +kernel
theorem dX10_use_60 : decode cX10_use 60 = .ok (.sipush 200, 3) := by decide +kernel
theorem dX10_use_63 : decode cX10_use 63 = .ok (.if_icmp .ge 54, 3) := by decide +kernel
theorem dX10_use_66 : decode cX10_use 66 = .ok (.aload_n 0, 1) := by decide +kernel
theorem dX10_use_67 : decode cX10_use 67 = .ok (.getfield 106, 3) := by decide +kernel
theorem dX10_use_70 : decode cX10_use 70 = .ok (.aload_n 0, 1) := by decide +kernel
theorem dX10_use_71 : decode cX10_use 71 = .ok (.getfield 202, 3) := by decide +kernel
theorem dX10_use_74 : decode cX10_use 74 = .ok (.iload_n 1, 1) := by decide +kernel
theorem dX10_use_75 : decode cX10_use 75 = .ok (.iastore, 1) := by decide +kernel
theorem dX10_use_76 : decode cX10_use 76 = .ok (.aload_n 0, 1) := by decide +kernel
theorem dX10_use_77 : decode cX10_use 77 = .ok (.getfield 109, 3) := by decide +kernel
theorem dX10_use_80 : decode cX10_use 80 = .ok (.aload_n 0, 1) := by decide +kernel
theorem dX10_use_81 : decode cX10_use 81 = .ok (.getfield 202, 3) := by decide +kernel
theorem dX10_use_84 : decode cX10_use 84 = .ok (.iload_n 2, 1) := by decide +kernel
theorem dX10_use_85 : decode cX10_use 85 = .ok (.iastore, 1) := by decide +kernel
theorem dX10_use_86 : decode cX10_use 86 = .ok (.aload_n 0, 1) := by decide +kernel
theorem dX10_use_87 : decode cX10_use 87 = .ok (.getfield 112, 3) := by decide +kernel
theorem dX10_use_90 : decode cX10_use 90 = .ok (.aload_n 0, 1) := by decide +kernel
theorem dX10_use_91 : decode cX10_use 91 = .ok (.getfield 202, 3) := by decide +kernel
theorem dX10_use_94 : decode cX10_use 94 = .ok (.iload_n 3, 1) := by decide +kernel
theorem dX10_use_95 : decode cX10_use 95 = .ok (.iastore, 1) := by decide +kernel
theorem dX10_use_96 : decode cX10_use 96 = .ok (.aload_n 0, 1) := by decide +kernel
theorem dX10_use_97 : decode cX10_use 97 = .ok (.getfield 115, 3) := by decide +kernel
theorem dX10_use_100 : decode cX10_use 100 = .ok (.aload_n 0, 1) := by decide +kernel
theorem dX10_use_101 : decode cX10_use 101 = .ok (.getfield 202, 3) := by decide +kernel
theorem dX10_use_104 : decode cX10_use 104 = .ok (.iload 4, 2) := by decide +kernel
theorem dX10_use_106 : decode cX10_use 106 = .ok (.iastore, 1) := by decide +kernel
theorem dX10_use_107 : decode cX10_use 107 = .ok (.aload_n 0, 1) := by decide +kernel
theorem dX10_use_108 : decode cX10_use 108 = .ok (.dup, 1) := by decide +kernel
theorem dX10_use_109 : decode cX10_use 109 = .ok (.getfield 202, 3) := by decide +kernel
theorem dX10_use_112 : decode cX10_use 112 = .ok (.iconst 1, 1) := by decide +kernel
theorem dX10_use_113 : decode cX10_use 113 = .ok (.iadd, 1) := by decide +kernel
theorem dX10_use_114 : decode cX10_use 114 = .ok (.putfield 202, 3) := by decide +kernel
theorem dX10_use_117 : decode cX10_use 117 = .ok (.aload_n 0, 1) := by decide +kernel
theorem dX10_use_118 : decode cX10_use 118 = .ok (.iload 4, 2) := by decide +kernel
theorem dX10_use_120 : decode cX10_use 120 = .ok (.ifCond .ne 7, 3) := by decide +kernel
theorem dX10_use_123 : decode cX10_use 123 = .ok (.iconst 3, 1) := by decide +kernel
theorem dX10_use_124 : decode cX10_use 124 = .ok (.goto 4, 3) := by decide +kernel
theorem dX10_use_127 : decode cX10_use 127 = .ok (.iconst 0, 1) := by decide +kernel
theorem dX10_use_128 : decode cX10_use 128 = .ok (.putfield 121, 3) := by decide +kernel
theorem dX10_use_131 : decode cX10_use 131 = .ok (.aload_n 0, 1) := by decide +kernel
theorem dX10_use_132 : decode cX10_use 132 = .ok (.invokevirtual 195, 3) := by decide +kernel
theorem dX10_use_135 : decode cX10_use 135 = .ok (.iload 4, 2) := by decide +kernel
theorem dX10_use_137 : decode cX10_use 137 = .ok (.ifCond .ne 7, 3) := by decide +kernel
theorem dX10_use_140 : decode cX10_use 140 = .ok (.lconst 0, 1) := by decide +kernel
theorem dX10_use_141 : decode cX10_use 141 = .ok (.goto 9, 3) := by decide +kernel
theorem dX10_use_144 : decode cX10_use 144 = .ok (.aload_n 0, 1) := by decide +kernel
theorem dX10_use_145 : decode cX10_use 145 = .ok (.getfield 78, 3) := by decide +kernel
theorem dX10_use_148 : decode cX10_use 148 = .ok (.iload_n 1, 1) := by decide +kernel
theorem dX10_use_149 : decode cX10_use 149 = .ok (.laload, 1) := by decide +kernel
theorem dX10_use_150 : decode cX10_use 150 = .ok (.lreturn, 1) := by decide +kernel
theorem dX10_why_0 : decode cX10_why 0 = .ok (.aload_n 0, 1) := by decide +kernel
theorem dX10_why_1 : decode cX10_why 1 = .ok (.iconst 0, 1) := by decide +kernel
theorem dX10_why_2 : decode cX10_why 2 = .ok (.putfield 121, 3) := by decide +kernel
theorem dX10_why_5 : decode cX10_why 5 = .ok (.aload_n 0, 1) := by decide +kernel
theorem dX10_why_6 : decode cX10_why 6 = .ok (.getfield 118, 3) := by decide +kernel
theorem dX10_why_9 : decode cX10_why 9 = .ok (.ireturn, 1) := by decide +kernel
set_option maxRecDepth 20000 in
theorem ggX10_isCovered_X10_holdCovers : GoodIn wsX10_isCovered wsX10_holdCovers := goodIn_r _ [7, 8, 9, 10, 11, 12, 20, 21, 22, 23, 24, 25, 26, 27, 28, 29, 30, 31, 32, 33, 34, 35, 36, 37, 38, 39, 40, 41, 42, 43, 44, 45, 46, 47, 48, 49, 50, 51, 52, 53, 54, 55, 56, 57, 58, 59, 60, 61, 62, 63, 64] (by decide +kernel) (by decide +kernel)
set_option maxRecDepth 20000 in
theorem gX10_isCovered_X10_holdCovers : GoodIn wsX10_isCovered (wsV RX10 183 RX10 yX10_holdCovers wsX10_holdCovers) := goodIn_app (goodIn_of _ (by decide +kernel)) ggX10_isCovered_X10_holdCovers
set_option maxRecDepth 20000 in
theorem ggX10_isCovered_X10_dutyCovers : GoodIn wsX10_isCovered wsX10_dutyCovers := goodIn_r _ [16, 17, 10, 18, 19, 20, 21, 22, 23, 24, 25, 26, 27, 28, 29, 30, 31, 32, 33, 34, 35, 36, 37, 38, 39, 40, 41, 42, 43, 44, 45, 46, 47, 48, 49, 50, 51, 52, 53, 54, 55, 56, 57, 58, 59, 60, 61, 62, 63, 64] (by decide +kernel) (by decide +kernel)
set_option maxRecDepth 20000 in
theorem gX10_isCovered_X10_dutyCovers : GoodIn wsX10_isCovered (wsV RX10 180 RX10 yX10_dutyCovers wsX10_dutyCovers) := goodIn_app (goodIn_of _ (by decide +kernel)) ggX10_isCovered_X10_dutyCovers
theorem dX10_isCovered_0 : decode cX10_isCovered 0 = .ok (.iconst 0, 1) := by decide +kernel
theorem dX10_isCovered_1 : decode cX10_isCovered 1 = .ok (.istore_n 3, 1) := by decide +kernel
theorem dX10_isCovered_2 : decode cX10_isCovered 2 = .ok (.iload_n 3, 1) := by decide +kernel
theorem dX10_isCovered_3 : decode cX10_isCovered 3 = .ok (.aload_n 0, 1) := by decide +kernel
theorem dX10_isCovered_4 : decode cX10_isCovered 4 = .ok (.getfield 170, 3) := by decide +kernel
theorem dX10_isCovered_7 : decode cX10_isCovered 7 = .ok (.if_icmp .ge 21, 3) := by decide +kernel
theorem dX10_isCovered_10 : decode cX10_isCovered 10 = .ok (.aload_n 0, 1) := by decide +kernel
theorem dX10_isCovered_11 : decode cX10_isCovered 11 = .ok (.iload_n 3, 1) := by decide +kernel
theorem dX10_isCovered_12 : decode cX10_isCovered 12 = .ok (.iload_n 1, 1) := by decide +kernel
theorem dX10_isCovered_13 : decode cX10_isCovered 13 = .ok (.iload_n 2, 1) := by decide +kernel
theorem dX10_isCovered_14 : decode cX10_isCovered 14 = .ok (.invokevirtual 183, 3) := by decide +kernel
theorem dX10_isCovered_17 : decode cX10_isCovered 17 = .ok (.ifCond .eq 5, 3) := by decide +kernel
theorem dX10_isCovered_20 : decode cX10_isCovered 20 = .ok (.iconst 1, 1) := by decide +kernel
theorem dX10_isCovered_21 : decode cX10_isCovered 21 = .ok (.ireturn, 1) := by decide +kernel
theorem dX10_isCovered_22 : decode cX10_isCovered 22 = .ok (.iinc 3 1, 3) := by decide +kernel
theorem dX10_isCovered_25 : decode cX10_isCovered 25 = .ok (.goto (-23), 3) := by decide +kernel
theorem dX10_isCovered_28 : decode cX10_isCovered 28 = .ok (.iconst 0, 1) := by decide +kernel
theorem dX10_isCovered_29 : decode cX10_isCovered 29 = .ok (.istore_n 3, 1) := by decide +kernel
theorem dX10_isCovered_30 : decode cX10_isCovered 30 = .ok (.iload_n 3, 1) := by decide +kernel
theorem dX10_isCovered_31 : decode cX10_isCovered 31 = .ok (.aload_n 0, 1) := by decide +kernel
theorem dX10_isCovered_32 : decode cX10_isCovered 32 = .ok (.getfield 154, 3) := by decide +kernel
theorem dX10_isCovered_35 : decode cX10_isCovered 35 = .ok (.if_icmp .ge 21, 3) := by decide +kernel
theorem dX10_isCovered_38 : decode cX10_isCovered 38 = .ok (.aload_n 0, 1) := by decide +kernel
theorem dX10_isCovered_39 : decode cX10_isCovered 39 = .ok (.iload_n 3, 1) := by decide +kernel
theorem dX10_isCovered_40 : decode cX10_isCovered 40 = .ok (.iload_n 1, 1) := by decide +kernel
theorem dX10_isCovered_41 : decode cX10_isCovered 41 = .ok (.iload_n 2, 1) := by decide +kernel
theorem dX10_isCovered_42 : decode cX10_isCovered 42 = .ok (.invokevirtual 180, 3) := by decide +kernel
theorem dX10_isCovered_45 : decode cX10_isCovered 45 = .ok (.ifCond .eq 5, 3) := by decide +kernel
theorem dX10_isCovered_48 : decode cX10_isCovered 48 = .ok (.iconst 1, 1) := by decide +kernel
theorem dX10_isCovered_49 : decode cX10_isCovered 49 = .ok (.ireturn, 1) := by decide +kernel
theorem dX10_isCovered_50 : decode cX10_isCovered 50 = .ok (.iinc 3 1, 3) := by decide +kernel
theorem dX10_isCovered_53 : decode cX10_isCovered 53 = .ok (.goto (-23), 3) := by decide +kernel
theorem dX10_isCovered_56 : decode cX10_isCovered 56 = .ok (.iconst 0, 1) := by decide +kernel
theorem dX10_isCovered_57 : decode cX10_isCovered 57 = .ok (.ireturn, 1) := by decide +kernel
set_option maxRecDepth 20000 in
theorem ggX10_keep_X10_isCovered : GoodIn wsX10_keep wsX10_isCovered := goodIn_r _ [11, 12, 13, 14, 15, 16, 10, 17, 18, 19, 20, 21, 22, 23, 24, 25, 26, 27, 28, 29, 30, 31, 32, 33, 34, 35, 36, 37, 38, 39, 40, 41, 42, 43, 44, 45, 46, 47, 48, 49, 50, 51, 52, 53, 54, 55, 56, 57, 58, 59, 60, 61, 62, 63, 64, 65, 66, 67, 68, 69, 70, 71, 72, 73, 74] (by decide +kernel) (by decide +kernel)
set_option maxRecDepth 20000 in
theorem gX10_keep_X10_isCovered : GoodIn wsX10_keep (wsV RX10 205 RX10 yX10_isCovered wsX10_isCovered) := goodIn_app (goodIn_of _ (by decide +kernel)) ggX10_keep_X10_isCovered
theorem dX10_keep_0 : decode cX10_keep 0 = .ok (.iconst 0, 1) := by decide +kernel
theorem dX10_keep_1 : decode cX10_keep 1 = .ok (.istore_n 2, 1) := by decide +kernel
theorem dX10_keep_2 : decode cX10_keep 2 = .ok (.iload_n 2, 1) := by decide +kernel
theorem dX10_keep_3 : decode cX10_keep 3 = .ok (.aload_n 0, 1) := by decide +kernel
theorem dX10_keep_4 : decode cX10_keep 4 = .ok (.getfield 157, 3) := by decide +kernel
theorem dX10_keep_7 : decode cX10_keep 7 = .ok (.if_icmp .ge 38, 3) := by decide +kernel
theorem dX10_keep_10 : decode cX10_keep 10 = .ok (.aload_n 0, 1) := by decide +kernel
theorem dX10_keep_11 : decode cX10_keep 11 = .ok (.getfield 82, 3) := by decide +kernel
theorem dX10_keep_14 : decode cX10_keep 14 = .ok (.iload_n 2, 1) := by decide +kernel
theorem dX10_keep_15 : decode cX10_keep 15 = .ok (.aload_n 0, 1) := by decide +kernel
theorem dX10_keep_16 : decode cX10_keep 16 = .ok (.getfield 75, 3) := by decide +kernel
theorem dX10_keep_19 : decode cX10_keep 19 = .ok (.iload_n 2, 1) := by decide +kernel
theorem dX10_keep_20 : decode cX10_keep 20 = .ok (.baload, 1) := by decide +kernel
theorem dX10_keep_21 : decode cX10_keep 21 = .ok (.ifCond .eq 16, 3) := by decide +kernel
theorem dX10_keep_24 : decode cX10_keep 24 = .ok (.aload_n 0, 1) := by decide +kernel
theorem dX10_keep_25 : decode cX10_keep 25 = .ok (.iload_n 2, 1) := by decide +kernel
theorem dX10_keep_26 : decode cX10_keep 26 = .ok (.iload_n 1, 1) := by decide +kernel
theorem dX10_keep_27 : decode cX10_keep 27 = .ok (.invokevirtual 205, 3) := by decide +kernel
theorem dX10_keep_30 : decode cX10_keep 30 = .ok (.ifCond .eq 7, 3) := by decide +kernel
theorem dX10_keep_33 : decode cX10_keep 33 = .ok (.iconst 1, 1) := by decide +kernel
theorem dX10_keep_34 : decode cX10_keep 34 = .ok (.goto 4, 3) := by decide +kernel
theorem dX10_keep_37 : decode cX10_keep 37 = .ok (.iconst 0, 1) := by decide +kernel
theorem dX10_keep_38 : decode cX10_keep 38 = .ok (.bastore, 1) := by decide +kernel
theorem dX10_keep_39 : decode cX10_keep 39 = .ok (.iinc 2 1, 3) := by decide +kernel
theorem dX10_keep_42 : decode cX10_keep 42 = .ok (.goto (-40), 3) := by decide +kernel
theorem dX10_keep_45 : decode cX10_keep 45 = .ok (.aload_n 0, 1) := by decide +kernel
theorem dX10_keep_46 : decode cX10_keep 46 = .ok (.getfield 157, 3) := by decide +kernel
theorem dX10_keep_49 : decode cX10_keep 49 = .ok (.iconst 1, 1) := by decide +kernel
theorem dX10_keep_50 : decode cX10_keep 50 = .ok (.isub, 1) := by decide +kernel
theorem dX10_keep_51 : decode cX10_keep 51 = .ok (.istore_n 2, 1) := by decide +kernel
theorem dX10_keep_52 : decode cX10_keep 52 = .ok (.iload_n 2, 1) := by decide +kernel
theorem dX10_keep_53 : decode cX10_keep 53 = .ok (.ifCond .lt 75, 3) := by decide +kernel
theorem dX10_keep_56 : decode cX10_keep 56 = .ok (.aload_n 0, 1) := by decide +kernel
theorem dX10_keep_57 : decode cX10_keep 57 = .ok (.getfield 82, 3) := by decide +kernel
theorem dX10_keep_60 : decode cX10_keep 60 = .ok (.iload_n 2, 1) := by decide +kernel
theorem dX10_keep_61 : decode cX10_keep 61 = .ok (.baload, 1) := by decide +kernel
theorem dX10_keep_62 : decode cX10_keep 62 = .ok (.ifCond .eq 60, 3) := by decide +kernel
theorem dX10_keep_65 : decode cX10_keep 65 = .ok (.aload_n 0, 1) := by decide +kernel
theorem dX10_keep_66 : decode cX10_keep 66 = .ok (.getfield 54, 3) := by decide +kernel
theorem dX10_keep_69 : decode cX10_keep 69 = .ok (.iload_n 2, 1) := by decide +kernel
theorem dX10_keep_70 : decode cX10_keep 70 = .ok (.iaload, 1) := by decide +kernel
theorem dX10_keep_71 : decode cX10_keep 71 = .ok (.iconst (-1), 1) := by decide +kernel
theorem dX10_keep_72 : decode cX10_keep 72 = .ok (.if_icmp .ne 6, 3) := by decide +kernel
theorem dX10_keep_75 : decode cX10_keep 75 = .ok (.goto 47, 3) := by decide +kernel
theorem dX10_keep_78 : decode cX10_keep 78 = .ok (.aload_n 0, 1) := by decide +kernel
theorem dX10_keep_79 : decode cX10_keep 79 = .ok (.getfield 82, 3) := by decide +kernel
theorem dX10_keep_82 : decode cX10_keep 82 = .ok (.aload_n 0, 1) := by decide +kernel
theorem dX10_keep_83 : decode cX10_keep 83 = .ok (.getfield 66, 3) := by decide +kernel
theorem dX10_keep_86 : decode cX10_keep 86 = .ok (.iload_n 2, 1) := by decide +kernel
theorem dX10_keep_87 : decode cX10_keep 87 = .ok (.iaload, 1) := by decide +kernel
theorem dX10_keep_88 : decode cX10_keep 88 = .ok (.aload_n 0, 1) := by decide +kernel
theorem dX10_keep_89 : decode cX10_keep 89 = .ok (.getfield 75, 3) := by decide +kernel
theorem dX10_keep_92 : decode cX10_keep 92 = .ok (.aload_n 0, 1) := by decide +kernel
theorem dX10_keep_93 : decode cX10_keep 93 = .ok (.getfield 66, 3) := by decide +kernel
theorem dX10_keep_96 : decode cX10_keep 96 = .ok (.iload_n 2, 1) := by decide +kernel
theorem dX10_keep_97 : decode cX10_keep 97 = .ok (.iaload, 1) := by decide +kernel
theorem dX10_keep_98 : decode cX10_keep 98 = .ok (.baload, 1) := by decide +kernel
theorem dX10_keep_99 : decode cX10_keep 99 = .ok (.bastore, 1) := by decide +kernel
theorem dX10_keep_100 : decode cX10_keep 100 = .ok (.aload_n 0, 1) := by decide +kernel
theorem dX10_keep_101 : decode cX10_keep 101 = .ok (.getfield 82, 3) := by decide +kernel
theorem dX10_keep_104 : decode cX10_keep 104 = .ok (.aload_n 0, 1) := by decide +kernel
theorem dX10_keep_105 : decode cX10_keep 105 = .ok (.getfield 69, 3) := by decide +kernel
theorem dX10_keep_108 : decode cX10_keep 108 = .ok (.iload_n 2, 1) := by decide +kernel
theorem dX10_keep_109 : decode cX10_keep 109 = .ok (.iaload, 1) := by decide +kernel
theorem dX10_keep_110 : decode cX10_keep 110 = .ok (.aload_n 0, 1) := by decide +kernel
theorem dX10_keep_111 : decode cX10_keep 111 = .ok (.getfield 75, 3) := by decide +kernel
theorem dX10_keep_114 : decode cX10_keep 114 = .ok (.aload_n 0, 1) := by decide +kernel
theorem dX10_keep_115 : decode cX10_keep 115 = .ok (.getfield 69, 3) := by decide +kernel
theorem dX10_keep_118 : decode cX10_keep 118 = .ok (.iload_n 2, 1) := by decide +kernel
theorem dX10_keep_119 : decode cX10_keep 119 = .ok (.iaload, 1) := by decide +kernel
theorem dX10_keep_120 : decode cX10_keep 120 = .ok (.baload, 1) := by decide +kernel
theorem dX10_keep_121 : decode cX10_keep 121 = .ok (.bastore, 1) := by decide +kernel
theorem dX10_keep_122 : decode cX10_keep 122 = .ok (.iinc 2 (-1), 3) := by decide +kernel
theorem dX10_keep_125 : decode cX10_keep 125 = .ok (.goto (-73), 3) := by decide +kernel
theorem dX10_keep_128 : decode cX10_keep 128 = .ok (.return_, 1) := by decide +kernel
theorem dX10_falls_0 : decode cX10_falls 0 = .ok (.aload_n 0, 1) := by decide +kernel
theorem dX10_falls_1 : decode cX10_falls 1 = .ok (.getfield 75, 3) := by decide +kernel
theorem dX10_falls_4 : decode cX10_falls 4 = .ok (.aload_n 0, 1) := by decide +kernel
theorem dX10_falls_5 : decode cX10_falls 5 = .ok (.getfield 66, 3) := by decide +kernel
theorem dX10_falls_8 : decode cX10_falls 8 = .ok (.iload_n 1, 1) := by decide +kernel
theorem dX10_falls_9 : decode cX10_falls 9 = .ok (.iaload, 1) := by decide +kernel
theorem dX10_falls_10 : decode cX10_falls 10 = .ok (.baload, 1) := by decide +kernel
theorem dX10_falls_11 : decode cX10_falls 11 = .ok (.istore_n 2, 1) := by decide +kernel
theorem dX10_falls_12 : decode cX10_falls 12 = .ok (.aload_n 0, 1) := by decide +kernel
theorem dX10_falls_13 : decode cX10_falls 13 = .ok (.getfield 75, 3) := by decide +kernel
theorem dX10_falls_16 : decode cX10_falls 16 = .ok (.aload_n 0, 1) := by decide +kernel
theorem dX10_falls_17 : decode cX10_falls 17 = .ok (.getfield 69, 3) := by decide +kernel
theorem dX10_falls_20 : decode cX10_falls 20 = .ok (.iload_n 1, 1) := by decide +kernel
theorem dX10_falls_21 : decode cX10_falls 21 = .ok (.iaload, 1) := by decide +kernel
theorem dX10_falls_22 : decode cX10_falls 22 = .ok (.baload, 1) := by decide +kernel
theorem dX10_falls_23 : decode cX10_falls 23 = .ok (.istore_n 3, 1) := by decide +kernel
theorem dX10_falls_24 : decode cX10_falls 24 = .ok (.aload_n 0, 1) := by decide +kernel
theorem dX10_falls_25 : decode cX10_falls 25 = .ok (.getfield 54, 3) := by decide +kernel
theorem dX10_falls_28 : decode cX10_falls 28 = .ok (.iload_n 1, 1) := by decide +kernel
theorem dX10_falls_29 : decode cX10_falls 29 = .ok (.iaload, 1) := by decide +kernel
theorem dX10_falls_30 : decode cX10_falls 30 = .ok (.iconst 1, 1) := by decide +kernel
theorem dX10_falls_31 : decode cX10_falls 31 = .ok (.if_icmp .ne 19, 3) := by decide +kernel
theorem dX10_falls_34 : decode cX10_falls 34 = .ok (.iload_n 2, 1) := by decide +kernel
theorem dX10_falls_35 : decode cX10_falls 35 = .ok (.ifCond .ne 11, 3) := by decide +kernel
theorem dX10_falls_38 : decode cX10_falls 38 = .ok (.iload_n 3, 1) := by decide +kernel
theorem dX10_falls_39 : decode cX10_falls 39 = .ok (.ifCond .ne 7, 3) := by decide +kernel
theorem dX10_falls_42 : decode cX10_falls 42 = .ok (.iconst 1, 1) := by decide +kernel
theorem dX10_falls_43 : decode cX10_falls 43 = .ok (.goto 20, 3) := by decide +kernel
theorem dX10_falls_46 : decode cX10_falls 46 = .ok (.iconst 0, 1) := by decide +kernel
theorem dX10_falls_47 : decode cX10_falls 47 = .ok (.goto 16, 3) := by decide +kernel
theorem dX10_falls_50 : decode cX10_falls 50 = .ok (.iload_n 2, 1) := by decide +kernel
theorem dX10_falls_51 : decode cX10_falls 51 = .ok (.ifCond .eq 7, 3) := by decide +kernel
theorem dX10_falls_54 : decode cX10_falls 54 = .ok (.iload_n 3, 1) := by decide +kernel
theorem dX10_falls_55 : decode cX10_falls 55 = .ok (.ifCond .ne 7, 3) := by decide +kernel
theorem dX10_falls_58 : decode cX10_falls 58 = .ok (.iconst 1, 1) := by decide +kernel
theorem dX10_falls_59 : decode cX10_falls 59 = .ok (.goto 4, 3) := by decide +kernel
theorem dX10_falls_62 : decode cX10_falls 62 = .ok (.iconst 0, 1) := by decide +kernel
theorem dX10_falls_63 : decode cX10_falls 63 = .ok (.ireturn, 1) := by decide +kernel
set_option maxRecDepth 20000 in
theorem ggX10_cascade_X10_falls : GoodIn wsX10_cascade wsX10_falls := goodIn_r _ [8, 2, 9, 10, 3, 11, 12, 13, 14, 15, 16, 17, 18, 19, 20, 21, 22, 23, 24, 25, 26, 27, 28, 29, 30, 31, 32, 33, 34, 35, 36, 37, 38, 39, 40, 41, 42, 43, 44, 45, 46, 47, 48, 49, 50, 51, 52, 53, 54, 55] (by decide +kernel) (by decide +kernel)
set_option maxRecDepth 20000 in
theorem gX10_cascade_X10_falls : GoodIn wsX10_cascade (wsV RX10 208 RX10 yX10_falls wsX10_falls) := goodIn_app (goodIn_of _ (by decide +kernel)) ggX10_cascade_X10_falls
theorem dX10_cascade_0 : decode cX10_cascade 0 = .ok (.iconst 0, 1) := by decide +kernel
theorem dX10_cascade_1 : decode cX10_cascade 1 = .ok (.istore_n 1, 1) := by decide +kernel
theorem dX10_cascade_2 : decode cX10_cascade 2 = .ok (.iconst 0, 1) := by decide +kernel
theorem dX10_cascade_3 : decode cX10_cascade 3 = .ok (.istore_n 2, 1) := by decide +kernel
theorem dX10_cascade_4 : decode cX10_cascade 4 = .ok (.iload_n 2, 1) := by decide +kernel
theorem dX10_cascade_5 : decode cX10_cascade 5 = .ok (.aload_n 0, 1) := by decide +kernel
theorem dX10_cascade_6 : decode cX10_cascade 6 = .ok (.getfield 157, 3) := by decide +kernel
theorem dX10_cascade_9 : decode cX10_cascade 9 = .ok (.if_icmp .ge 49, 3) := by decide +kernel
theorem dX10_cascade_12 : decode cX10_cascade 12 = .ok (.aload_n 0, 1) := by decide +kernel
theorem dX10_cascade_13 : decode cX10_cascade 13 = .ok (.getfield 75, 3) := by decide +kernel
theorem dX10_cascade_16 : decode cX10_cascade 16 = .ok (.iload_n 2, 1) := by decide +kernel
theorem dX10_cascade_17 : decode cX10_cascade 17 = .ok (.baload, 1) := by decide +kernel
theorem dX10_cascade_18 : decode cX10_cascade 18 = .ok (.ifCond .eq 34, 3) := by decide +kernel
theorem dX10_cascade_21 : decode cX10_cascade 21 = .ok (.aload_n 0, 1) := by decide +kernel
theorem dX10_cascade_22 : decode cX10_cascade 22 = .ok (.getfield 54, 3) := by decide +kernel
theorem dX10_cascade_25 : decode cX10_cascade 25 = .ok (.iload_n 2, 1) := by decide +kernel
theorem dX10_cascade_26 : decode cX10_cascade 26 = .ok (.iaload, 1) := by decide +kernel
theorem dX10_cascade_27 : decode cX10_cascade 27 = .ok (.iconst (-1), 1) := by decide +kernel
theorem dX10_cascade_28 : decode cX10_cascade 28 = .ok (.if_icmp .eq 24, 3) := by decide +kernel
theorem dX10_cascade_31 : decode cX10_cascade 31 = .ok (.aload_n 0, 1) := by decide +kernel
theorem dX10_cascade_32 : decode cX10_cascade 32 = .ok (.iload_n 2, 1) := by decide +kernel
theorem dX10_cascade_33 : decode cX10_cascade 33 = .ok (.invokevirtual 208, 3) := by decide +kernel
theorem dX10_cascade_36 : decode cX10_cascade 36 = .ok (.ifCond .ne 6, 3) := by decide +kernel
theorem dX10_cascade_39 : decode cX10_cascade 39 = .ok (.goto 13, 3) := by decide +kernel
theorem dX10_cascade_42 : decode cX10_cascade 42 = .ok (.aload_n 0, 1) := by decide +kernel
theorem dX10_cascade_43 : decode cX10_cascade 43 = .ok (.getfield 75, 3) := by decide +kernel
theorem dX10_cascade_46 : decode cX10_cascade 46 = .ok (.iload_n 2, 1) := by decide +kernel
theorem dX10_cascade_47 : decode cX10_cascade 47 = .ok (.iconst 0, 1) := by decide +kernel
theorem dX10_cascade_48 : decode cX10_cascade 48 = .ok (.bastore, 1) := by decide +kernel
theorem dX10_cascade_49 : decode cX10_cascade 49 = .ok (.iinc 1 1, 3) := by decide +kernel
theorem dX10_cascade_52 : decode cX10_cascade 52 = .ok (.iinc 2 1, 3) := by decide +kernel
theorem dX10_cascade_55 : decode cX10_cascade 55 = .ok (.goto (-51), 3) := by decide +kernel
theorem dX10_cascade_58 : decode cX10_cascade 58 = .ok (.iload_n 1, 1) := by decide +kernel
theorem dX10_cascade_59 : decode cX10_cascade 59 = .ok (.ireturn, 1) := by decide +kernel
theorem dX10_due_0 : decode cX10_due 0 = .ok (.iconst (-1), 1) := by decide +kernel
theorem dX10_due_1 : decode cX10_due 1 = .ok (.istore_n 2, 1) := by decide +kernel
theorem dX10_due_2 : decode cX10_due 2 = .ok (.iconst 0, 1) := by decide +kernel
theorem dX10_due_3 : decode cX10_due 3 = .ok (.istore_n 3, 1) := by decide +kernel
theorem dX10_due_4 : decode cX10_due 4 = .ok (.iload_n 3, 1) := by decide +kernel
theorem dX10_due_5 : decode cX10_due 5 = .ok (.aload_n 0, 1) := by decide +kernel
theorem dX10_due_6 : decode cX10_due 6 = .ok (.getfield 167, 3) := by decide +kernel
theorem dX10_due_9 : decode cX10_due 9 = .ok (.if_icmp .ge 97, 3) := by decide +kernel
theorem dX10_due_12 : decode cX10_due 12 = .ok (.aload_n 0, 1) := by decide +kernel
theorem dX10_due_13 : decode cX10_due 13 = .ok (.getfield 54, 3) := by decide +kernel
theorem dX10_due_16 : decode cX10_due 16 = .ok (.iload_n 1, 1) := by decide +kernel
theorem dX10_due_17 : decode cX10_due 17 = .ok (.iaload, 1) := by decide +kernel
theorem dX10_due_18 : decode cX10_due 18 = .ok (.iconst (-1), 1) := by decide +kernel
theorem dX10_due_19 : decode cX10_due 19 = .ok (.if_icmp .ne 56, 3) := by decide +kernel
theorem dX10_due_22 : decode cX10_due 22 = .ok (.aload_n 0, 1) := by decide +kernel
theorem dX10_due_23 : decode cX10_due 23 = .ok (.getfield 63, 3) := by decide +kernel
theorem dX10_due_26 : decode cX10_due 26 = .ok (.iload_n 1, 1) := by decide +kernel
theorem dX10_due_27 : decode cX10_due 27 = .ok (.iaload, 1) := by decide +kernel
theorem dX10_due_28 : decode cX10_due 28 = .ok (.aload_n 0, 1) := by decide +kernel
theorem dX10_due_29 : decode cX10_due 29 = .ok (.getfield 85, 3) := by decide +kernel
theorem dX10_due_32 : decode cX10_due 32 = .ok (.iload_n 3, 1) := by decide +kernel
theorem dX10_due_33 : decode cX10_due 33 = .ok (.iaload, 1) := by decide +kernel
theorem dX10_due_34 : decode cX10_due 34 = .ok (.ishr, 1) := by decide +kernel
theorem dX10_due_35 : decode cX10_due 35 = .ok (.iconst 1, 1) := by decide +kernel
theorem dX10_due_36 : decode cX10_due 36 = .ok (.iand, 1) := by decide +kernel
theorem dX10_due_37 : decode cX10_due 37 = .ok (.iconst 1, 1) := by decide +kernel
theorem dX10_due_38 : decode cX10_due 38 = .ok (.if_icmp .ne 37, 3) := by decide +kernel
theorem dX10_due_41 : decode cX10_due 41 = .ok (.aload_n 0, 1) := by decide +kernel
theorem dX10_due_42 : decode cX10_due 42 = .ok (.getfield 88, 3) := by decide +kernel
theorem dX10_due_45 : decode cX10_due 45 = .ok (.iload_n 3, 1) := by decide +kernel
theorem dX10_due_46 : decode cX10_due 46 = .ok (.iaload, 1) := by decide +kernel
theorem dX10_due_47 : decode cX10_due 47 = .ok (.aload_n 0, 1) := by decide +kernel
theorem dX10_due_48 : decode cX10_due 48 = .ok (.getfield 57, 3) := by decide +kernel
theorem dX10_due_51 : decode cX10_due 51 = .ok (.iload_n 1, 1) := by decide +kernel
theorem dX10_due_52 : decode cX10_due 52 = .ok (.iaload, 1) := by decide +kernel
theorem dX10_due_53 : decode cX10_due 53 = .ok (.if_icmp .ne 22, 3) := by decide +kernel
theorem dX10_due_56 : decode cX10_due 56 = .ok (.aload_n 0, 1) := by decide +kernel
theorem dX10_due_57 : decode cX10_due 57 = .ok (.getfield 91, 3) := by decide +kernel
theorem dX10_due_60 : decode cX10_due 60 = .ok (.iload_n 3, 1) := by decide +kernel
theorem dX10_due_61 : decode cX10_due 61 = .ok (.iaload, 1) := by decide +kernel
theorem dX10_due_62 : decode cX10_due 62 = .ok (.aload_n 0, 1) := by decide +kernel
theorem dX10_due_63 : decode cX10_due 63 = .ok (.getfield 60, 3) := by decide +kernel
theorem dX10_due_66 : decode cX10_due 66 = .ok (.iload_n 1, 1) := by decide +kernel
theorem dX10_due_67 : decode cX10_due 67 = .ok (.iaload, 1) := by decide +kernel
theorem dX10_due_68 : decode cX10_due 68 = .ok (.if_icmp .lt 7, 3) := by decide +kernel
theorem dX10_due_71 : decode cX10_due 71 = .ok (.iconst 1, 1) := by decide +kernel
theorem dX10_due_72 : decode cX10_due 72 = .ok (.goto 4, 3) := by decide +kernel
theorem dX10_due_75 : decode cX10_due 75 = .ok (.iconst 0, 1) := by decide +kernel
theorem dX10_due_76 : decode cX10_due 76 = .ok (.istore 4, 2) := by decide +kernel
theorem dX10_due_78 : decode cX10_due 78 = .ok (.iload 4, 2) := by decide +kernel
theorem dX10_due_80 : decode cX10_due 80 = .ok (.ifCond .eq 20, 3) := by decide +kernel
theorem dX10_due_83 : decode cX10_due 83 = .ok (.aload_n 0, 1) := by decide +kernel
theorem dX10_due_84 : decode cX10_due 84 = .ok (.getfield 91, 3) := by decide +kernel
theorem dX10_due_87 : decode cX10_due 87 = .ok (.iload_n 3, 1) := by decide +kernel
theorem dX10_due_88 : decode cX10_due 88 = .ok (.iaload, 1) := by decide +kernel
theorem dX10_due_89 : decode cX10_due 89 = .ok (.iload_n 2, 1) := by decide +kernel
theorem dX10_due_90 : decode cX10_due 90 = .ok (.if_icmp .le 10, 3) := by decide +kernel
theorem dX10_due_93 : decode cX10_due 93 = .ok (.aload_n 0, 1) := by decide +kernel
theorem dX10_due_94 : decode cX10_due 94 = .ok (.getfield 91, 3) := by decide +kernel
theorem dX10_due_97 : decode cX10_due 97 = .ok (.iload_n 3, 1) := by decide +kernel
theorem dX10_due_98 : decode cX10_due 98 = .ok (.iaload, 1) := by decide +kernel
theorem dX10_due_99 : decode cX10_due 99 = .ok (.istore_n 2, 1) := by decide +kernel
theorem dX10_due_100 : decode cX10_due 100 = .ok (.iinc 3 1, 3) := by decide +kernel
theorem dX10_due_103 : decode cX10_due 103 = .ok (.goto (-99), 3) := by decide +kernel
theorem dX10_due_106 : decode cX10_due 106 = .ok (.iload_n 2, 1) := by decide +kernel
theorem dX10_due_107 : decode cX10_due 107 = .ok (.ifCond .ge 7, 3) := by decide +kernel
theorem dX10_due_110 : decode cX10_due 110 = .ok (.iconst (-1), 1) := by decide +kernel
theorem dX10_due_111 : decode cX10_due 111 = .ok (.goto 16, 3) := by decide +kernel
theorem dX10_due_114 : decode cX10_due 114 = .ok (.iload_n 2, 1) := by decide +kernel
theorem dX10_due_115 : decode cX10_due 115 = .ok (.aload_n 0, 1) := by decide +kernel
theorem dX10_due_116 : decode cX10_due 116 = .ok (.getfield 17, 3) := by decide +kernel
theorem dX10_due_119 : decode cX10_due 119 = .ok (.aload_n 0, 1) := by decide +kernel
theorem dX10_due_120 : decode cX10_due 120 = .ok (.getfield 57, 3) := by decide +kernel
theorem dX10_due_123 : decode cX10_due 123 = .ok (.iload_n 1, 1) := by decide +kernel
theorem dX10_due_124 : decode cX10_due 124 = .ok (.iaload, 1) := by decide +kernel
theorem dX10_due_125 : decode cX10_due 125 = .ok (.iaload, 1) := by decide +kernel
theorem dX10_due_126 : decode cX10_due 126 = .ok (.iadd, 1) := by decide +kernel
theorem dX10_due_127 : decode cX10_due 127 = .ok (.ireturn, 1) := by decide +kernel
set_option maxRecDepth 20000 in
theorem ggX10_eraseOf_X10_keep : GoodIn wsX10_eraseOf wsX10_keep := goodIn_r _ [10, 1, 5, 2, 3, 11, 12, 13, 14, 15, 9, 16, 17, 18, 19, 20, 21, 22, 23, 4, 24, 25, 26, 27, 28, 29, 30, 31, 32, 33, 51, 52, 53, 54, 55, 56, 57, 58, 59, 60, 61, 62, 63, 64, 65, 66, 67, 68, 69, 70, 71, 72, 73, 74, 75, 76, 77, 78, 79, 80, 81, 82, 83, 84, 85, 86, 87, 88, 89, 90, 91, 92, 93, 94, 95] (by decide +kernel) (by decide +kernel)
set_option maxRecDepth 20000 in
theorem gX10_eraseOf_X10_keep : GoodIn wsX10_eraseOf (wsV RX10 211 RX10 yX10_keep wsX10_keep) := goodIn_app (goodIn_of _ (by decide +kernel)) ggX10_eraseOf_X10_keep
set_option maxRecDepth 20000 in
theorem ggX10_eraseOf_X10_due : GoodIn wsX10_eraseOf wsX10_due := goodIn_r _ [37, 38, 3, 4, 39, 40, 24, 41, 32, 42, 51, 52, 53, 54, 55, 56, 57, 58, 59, 60, 61, 62, 63, 64, 65, 66, 67, 68, 69, 70, 71, 72, 73, 74, 75, 76, 77, 78, 79, 80, 81, 82, 83, 84, 85, 86, 87, 88, 89, 90, 91, 92, 93, 94, 95] (by decide +kernel) (by decide +kernel)
set_option maxRecDepth 20000 in
theorem gX10_eraseOf_X10_due : GoodIn wsX10_eraseOf (wsV RX10 215 RX10 yX10_due wsX10_due) := goodIn_app (goodIn_of _ (by decide +kernel)) ggX10_eraseOf_X10_due
set_option maxRecDepth 20000 in
theorem ggX10_eraseOf_X10_cascade : GoodIn wsX10_eraseOf wsX10_cascade := goodIn_r _ [46, 1, 2, 3, 47, 48, 49, 9, 50, 11, 12, 51, 52, 53, 54, 55, 56, 57, 58, 59, 60, 61, 62, 63, 64, 65, 66, 67, 68, 69, 70, 71, 72, 73, 74, 75, 76, 77, 78, 79, 80, 81, 82, 83, 84, 85, 86, 87, 88, 89, 90, 91, 92, 93, 94, 95] (by decide +kernel) (by decide +kernel)
set_option maxRecDepth 20000 in
theorem gX10_eraseOf_X10_cascade : GoodIn wsX10_eraseOf (wsV RX10 219 RX10 yX10_cascade wsX10_cascade) := goodIn_app (goodIn_of _ (by decide +kernel)) ggX10_eraseOf_X10_cascade
theorem dX10_eraseOf_0 : decode cX10_eraseOf 0 = .ok (.aload_n 0, 1) := by decide +kernel
theorem dX10_eraseOf_1 : decode cX10_eraseOf 1 = .ok (.iload_n 2, 1) := by decide +kernel
theorem dX10_eraseOf_2 : decode cX10_eraseOf 2 = .ok (.invokevirtual 211, 3) := by decide +kernel
theorem dX10_eraseOf_5 : decode cX10_eraseOf 5 = .ok (.iconst 0, 1) := by decide +kernel
theorem dX10_eraseOf_6 : decode cX10_eraseOf 6 = .ok (.istore_n 3, 1) := by decide +kernel
theorem dX10_eraseOf_7 : decode cX10_eraseOf 7 = .ok (.iconst 0, 1) := by decide +kernel
theorem dX10_eraseOf_8 : decode cX10_eraseOf 8 = .ok (.istore 4, 2) := by decide +kernel
theorem dX10_eraseOf_10 : decode cX10_eraseOf 10 = .ok (.iload 4, 2) := by decide +kernel
theorem dX10_eraseOf_12 : decode cX10_eraseOf 12 = .ok (.aload_n 0, 1) := by decide +kernel
theorem dX10_eraseOf_13 : decode cX10_eraseOf 13 = .ok (.getfield 157, 3) := by decide +kernel
theorem dX10_eraseOf_16 : decode cX10_eraseOf 16 = .ok (.if_icmp .ge 105, 3) := by decide +kernel
theorem dX10_eraseOf_19 : decode cX10_eraseOf 19 = .ok (.aload_n 0, 1) := by decide +kernel
theorem dX10_eraseOf_20 : decode cX10_eraseOf 20 = .ok (.getfield 75, 3) := by decide +kernel
theorem dX10_eraseOf_23 : decode cX10_eraseOf 23 = .ok (.iload 4, 2) := by decide +kernel
theorem dX10_eraseOf_25 : decode cX10_eraseOf 25 = .ok (.baload, 1) := by decide +kernel
theorem dX10_eraseOf_26 : decode cX10_eraseOf 26 = .ok (.ifCond .eq 57, 3) := by decide +kernel
theorem dX10_eraseOf_29 : decode cX10_eraseOf 29 = .ok (.aload_n 0, 1) := by decide +kernel
theorem dX10_eraseOf_30 : decode cX10_eraseOf 30 = .ok (.getfield 54, 3) := by decide +kernel
theorem dX10_eraseOf_33 : decode cX10_eraseOf 33 = .ok (.iload 4, 2) := by decide +kernel
theorem dX10_eraseOf_35 : decode cX10_eraseOf 35 = .ok (.iaload, 1) := by decide +kernel
theorem dX10_eraseOf_36 : decode cX10_eraseOf 36 = .ok (.iconst (-1), 1) := by decide +kernel
theorem dX10_eraseOf_37 : decode cX10_eraseOf 37 = .ok (.if_icmp .ne 46, 3) := by decide +kernel
theorem dX10_eraseOf_40 : decode cX10_eraseOf 40 = .ok (.iload_n 1, 1) := by decide +kernel
theorem dX10_eraseOf_41 : decode cX10_eraseOf 41 = .ok (.ifCond .lt 19, 3) := by decide +kernel
theorem dX10_eraseOf_44 : decode cX10_eraseOf 44 = .ok (.aload_n 0, 1) := by decide +kernel
theorem dX10_eraseOf_45 : decode cX10_eraseOf 45 = .ok (.getfield 63, 3) := by decide +kernel
theorem dX10_eraseOf_48 : decode cX10_eraseOf 48 = .ok (.iload 4, 2) := by decide +kernel
theorem dX10_eraseOf_50 : decode cX10_eraseOf 50 = .ok (.iaload, 1) := by decide +kernel
theorem dX10_eraseOf_51 : decode cX10_eraseOf 51 = .ok (.iconst 1, 1) := by decide +kernel
theorem dX10_eraseOf_52 : decode cX10_eraseOf 52 = .ok (.iload_n 1, 1) := by decide +kernel
theorem dX10_eraseOf_53 : decode cX10_eraseOf 53 = .ok (.ishl, 1) := by decide +kernel
theorem dX10_eraseOf_54 : decode cX10_eraseOf 54 = .ok (.if_icmp .ne 29, 3) := by decide +kernel
theorem dX10_eraseOf_57 : decode cX10_eraseOf 57 = .ok (.goto 22, 3) := by decide +kernel
theorem dX10_eraseOf_60 : decode cX10_eraseOf 60 = .ok (.aload_n 0, 1) := by decide +kernel
theorem dX10_eraseOf_61 : decode cX10_eraseOf 61 = .ok (.iload 4, 2) := by decide +kernel
theorem dX10_eraseOf_63 : decode cX10_eraseOf 63 = .ok (.invokevirtual 215, 3) := by decide +kernel
theorem dX10_eraseOf_66 : decode cX10_eraseOf 66 = .ok (.ifCond .lt 17, 3) := by decide +kernel
theorem dX10_eraseOf_69 : decode cX10_eraseOf 69 = .ok (.aload_n 0, 1) := by decide +kernel
theorem dX10_eraseOf_70 : decode cX10_eraseOf 70 = .ok (.iload 4, 2) := by decide +kernel
theorem dX10_eraseOf_72 : decode cX10_eraseOf 72 = .ok (.invokevirtual 215, 3) := by decide +kernel
theorem dX10_eraseOf_75 : decode cX10_eraseOf 75 = .ok (.iload_n 2, 1) := by decide +kernel
theorem dX10_eraseOf_76 : decode cX10_eraseOf 76 = .ok (.if_icmp .gt 7, 3) := by decide +kernel
theorem dX10_eraseOf_79 : decode cX10_eraseOf 79 = .ok (.iconst 1, 1) := by decide +kernel
theorem dX10_eraseOf_80 : decode cX10_eraseOf 80 = .ok (.goto 4, 3) := by decide +kernel
theorem dX10_eraseOf_83 : decode cX10_eraseOf 83 = .ok (.iconst 0, 1) := by decide +kernel
theorem dX10_eraseOf_84 : decode cX10_eraseOf 84 = .ok (.istore 5, 2) := by decide +kernel
theorem dX10_eraseOf_86 : decode cX10_eraseOf 86 = .ok (.iload 5, 2) := by decide +kernel
theorem dX10_eraseOf_88 : decode cX10_eraseOf 88 = .ok (.ifCond .eq 27, 3) := by decide +kernel
theorem dX10_eraseOf_91 : decode cX10_eraseOf 91 = .ok (.aload_n 0, 1) := by decide +kernel
theorem dX10_eraseOf_92 : decode cX10_eraseOf 92 = .ok (.getfield 82, 3) := by decide +kernel
theorem dX10_eraseOf_95 : decode cX10_eraseOf 95 = .ok (.iload 4, 2) := by decide +kernel
theorem dX10_eraseOf_97 : decode cX10_eraseOf 97 = .ok (.baload, 1) := by decide +kernel
theorem dX10_eraseOf_98 : decode cX10_eraseOf 98 = .ok (.ifCond .eq 6, 3) := by decide +kernel
theorem dX10_eraseOf_101 : decode cX10_eraseOf 101 = .ok (.goto 14, 3) := by decide +kernel
theorem dX10_eraseOf_104 : decode cX10_eraseOf 104 = .ok (.aload_n 0, 1) := by decide +kernel
theorem dX10_eraseOf_105 : decode cX10_eraseOf 105 = .ok (.getfield 75, 3) := by decide +kernel
theorem dX10_eraseOf_108 : decode cX10_eraseOf 108 = .ok (.iload 4, 2) := by decide +kernel
theorem dX10_eraseOf_110 : decode cX10_eraseOf 110 = .ok (.iconst 0, 1) := by decide +kernel
theorem dX10_eraseOf_111 : decode cX10_eraseOf 111 = .ok (.bastore, 1) := by decide +kernel
theorem dX10_eraseOf_112 : decode cX10_eraseOf 112 = .ok (.iinc 3 1, 3) := by decide +kernel
theorem dX10_eraseOf_115 : decode cX10_eraseOf 115 = .ok (.iinc 4 1, 3) := by decide +kernel
theorem dX10_eraseOf_118 : decode cX10_eraseOf 118 = .ok (.goto (-108), 3) := by decide +kernel
theorem dX10_eraseOf_121 : decode cX10_eraseOf 121 = .ok (.iload_n 3, 1) := by decide +kernel
theorem dX10_eraseOf_122 : decode cX10_eraseOf 122 = .ok (.aload_n 0, 1) := by decide +kernel
theorem dX10_eraseOf_123 : decode cX10_eraseOf 123 = .ok (.invokevirtual 219, 3) := by decide +kernel
theorem dX10_eraseOf_126 : decode cX10_eraseOf 126 = .ok (.iadd, 1) := by decide +kernel
theorem dX10_eraseOf_127 : decode cX10_eraseOf 127 = .ok (.ireturn, 1) := by decide +kernel
set_option maxRecDepth 20000 in
theorem ggX10_erase_X10_isPerson : GoodIn wsX10_erase wsX10_isPerson := goodIn_r _ [4, 5, 6, 3, 7] (by decide +kernel) (by decide +kernel)
set_option maxRecDepth 20000 in
theorem gX10_erase_X10_isPerson : GoodIn wsX10_erase (va_wsS RX10 139 yX10_isPerson wsX10_isPerson) := goodIn_app (goodIn_of _ (by decide +kernel)) ggX10_erase_X10_isPerson
set_option maxRecDepth 20000 in
theorem ggX10_erase_X10_isMinute : GoodIn wsX10_erase wsX10_isMinute := goodIn_r _ [10, 11, 5, 6, 3, 7] (by decide +kernel) (by decide +kernel)
set_option maxRecDepth 20000 in
theorem gX10_erase_X10_isMinute : GoodIn wsX10_erase (va_wsS RX10 142 yX10_isMinute wsX10_isMinute) := goodIn_app (goodIn_of _ (by decide +kernel)) ggX10_erase_X10_isMinute
set_option maxRecDepth 20000 in
theorem ggX10_erase_X10_says : GoodIn wsX10_erase wsX10_says := goodIn_r _ [15, 16, 70, 71, 72, 73, 74, 75, 76, 77, 78, 79, 80, 81, 82, 83, 84, 85, 86, 87, 88, 89, 90, 91, 92, 93, 94, 95, 96, 97, 98, 99, 100, 101, 102, 103, 104, 105, 106, 107, 108, 109, 110, 111, 112, 113, 114] (by decide +kernel) (by decide +kernel)
set_option maxRecDepth 20000 in
theorem gX10_erase_X10_says : GoodIn wsX10_erase (wsV RX10 136 RX10 yX10_says wsX10_says) := goodIn_app (goodIn_of _ (by decide +kernel)) ggX10_erase_X10_says
set_option maxRecDepth 20000 in
theorem ggX10_erase_X10_eraseOf : GoodIn wsX10_erase wsX10_eraseOf := goodIn_r _ [20, 21, 22, 23, 24, 25, 26, 27, 28, 3, 29, 30, 31, 32, 33, 34, 35, 36, 37, 38, 39, 40, 41, 42, 43, 44, 45, 46, 47, 48, 49, 50, 51, 52, 53, 54, 55, 56, 57, 58, 59, 60, 61, 62, 63, 64, 65, 66, 67, 68, 69, 70, 71, 72, 73, 74, 75, 76, 77, 78, 79, 80, 81, 82, 83, 84, 85, 86, 87, 88, 89, 90, 91, 92, 93, 94, 95, 96, 97, 98, 99, 100, 101, 102, 103, 104, 105, 106, 107, 108, 109, 110, 111, 112, 113, 114] (by decide +kernel) (by decide +kernel)
set_option maxRecDepth 20000 in
theorem gX10_erase_X10_eraseOf : GoodIn wsX10_erase (wsV RX10 223 RX10 yX10_eraseOf wsX10_eraseOf) := goodIn_app (goodIn_of _ (by decide +kernel)) ggX10_erase_X10_eraseOf

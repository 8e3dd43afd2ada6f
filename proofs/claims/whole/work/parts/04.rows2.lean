theorem dX9_init_0 : decode cX9_init 0 = .ok (.aload_n 0, 1) := by decide +kernel
theorem dX9_init_1 : decode cX9_init 1 = .ok (.invokespecial 1, 3) := by decide +kernel
theorem dX9_init_4 : decode cX9_init 4 = .ok (.aload_n 0, 1) := by decide +kernel
theorem dX9_init_5 : decode cX9_init 5 = .ok (.new 7, 3) := by decide +kernel
theorem dX9_init_8 : decode cX9_init 8 = .ok (.dup, 1) := by decide +kernel
theorem dX9_init_9 : decode cX9_init 9 = .ok (.invokespecial 9, 3) := by decide +kernel
theorem dX9_init_12 : decode cX9_init 12 = .ok (.putfield 10, 3) := by decide +kernel
theorem dX9_init_15 : decode cX9_init 15 = .ok (.aload_n 0, 1) := by decide +kernel
theorem dX9_init_16 : decode cX9_init 16 = .ok (.new 16, 3) := by decide +kernel
theorem dX9_init_19 : decode cX9_init 19 = .ok (.dup, 1) := by decide +kernel
theorem dX9_init_20 : decode cX9_init 20 = .ok (.invokespecial 18, 3) := by decide +kernel
theorem dX9_init_23 : decode cX9_init 23 = .ok (.putfield 19, 3) := by decide +kernel
theorem dX9_init_26 : decode cX9_init 26 = .ok (.aload_n 0, 1) := by decide +kernel
theorem dX9_init_27 : decode cX9_init 27 = .ok (.new 23, 3) := by decide +kernel
theorem dX9_init_30 : decode cX9_init 30 = .ok (.dup, 1) := by decide +kernel
theorem dX9_init_31 : decode cX9_init 31 = .ok (.invokespecial 25, 3) := by decide +kernel
theorem dX9_init_34 : decode cX9_init 34 = .ok (.putfield 26, 3) := by decide +kernel
theorem dX9_init_37 : decode cX9_init 37 = .ok (.aload_n 0, 1) := by decide +kernel
theorem dX9_init_38 : decode cX9_init 38 = .ok (.new 30, 3) := by decide +kernel
theorem dX9_init_41 : decode cX9_init 41 = .ok (.dup, 1) := by decide +kernel
theorem dX9_init_42 : decode cX9_init 42 = .ok (.invokespecial 32, 3) := by decide +kernel
theorem dX9_init_45 : decode cX9_init 45 = .ok (.putfield 33, 3) := by decide +kernel
theorem dX9_init_48 : decode cX9_init 48 = .ok (.aload_n 0, 1) := by decide +kernel
theorem dX9_init_49 : decode cX9_init 49 = .ok (.new 37, 3) := by decide +kernel
theorem dX9_init_52 : decode cX9_init 52 = .ok (.dup, 1) := by decide +kernel
theorem dX9_init_53 : decode cX9_init 53 = .ok (.invokespecial 39, 3) := by decide +kernel
theorem dX9_init_56 : decode cX9_init 56 = .ok (.putfield 40, 3) := by decide +kernel
theorem dX9_init_59 : decode cX9_init 59 = .ok (.aload_n 0, 1) := by decide +kernel
theorem dX9_init_60 : decode cX9_init 60 = .ok (.new 44, 3) := by decide +kernel
theorem dX9_init_63 : decode cX9_init 63 = .ok (.dup, 1) := by decide +kernel
theorem dX9_init_64 : decode cX9_init 64 = .ok (.invokespecial 46, 3) := by decide +kernel
theorem dX9_init_67 : decode cX9_init 67 = .ok (.putfield 47, 3) := by decide +kernel
theorem dX9_init_70 : decode cX9_init 70 = .ok (.aload_n 0, 1) := by decide +kernel
theorem dX9_init_71 : decode cX9_init 71 = .ok (.new 51, 3) := by decide +kernel
theorem dX9_init_74 : decode cX9_init 74 = .ok (.dup, 1) := by decide +kernel
theorem dX9_init_75 : decode cX9_init 75 = .ok (.invokespecial 53, 3) := by decide +kernel
theorem dX9_init_78 : decode cX9_init 78 = .ok (.putfield 54, 3) := by decide +kernel
theorem dX9_init_81 : decode cX9_init 81 = .ok (.aload_n 0, 1) := by decide +kernel
theorem dX9_init_82 : decode cX9_init 82 = .ok (.new 58, 3) := by decide +kernel
theorem dX9_init_85 : decode cX9_init 85 = .ok (.dup, 1) := by decide +kernel
theorem dX9_init_86 : decode cX9_init 86 = .ok (.invokespecial 60, 3) := by decide +kernel
theorem dX9_init_89 : decode cX9_init 89 = .ok (.putfield 61, 3) := by decide +kernel
theorem dX9_init_92 : decode cX9_init 92 = .ok (.aload_n 0, 1) := by decide +kernel
theorem dX9_init_93 : decode cX9_init 93 = .ok (.new 65, 3) := by decide +kernel
theorem dX9_init_96 : decode cX9_init 96 = .ok (.dup, 1) := by decide +kernel
theorem dX9_init_97 : decode cX9_init 97 = .ok (.invokespecial 67, 3) := by decide +kernel
theorem dX9_init_100 : decode cX9_init 100 = .ok (.putfield 68, 3) := by decide +kernel
theorem dX9_init_103 : decode cX9_init 103 = .ok (.aload_n 0, 1) := by decide +kernel
theorem dX9_init_104 : decode cX9_init 104 = .ok (.iconst (-1), 1) := by decide +kernel
theorem dX9_init_105 : decode cX9_init 105 = .ok (.putfield 72, 3) := by decide +kernel
theorem dX9_init_108 : decode cX9_init 108 = .ok (.return_, 1) := by decide +kernel
set_option maxRecDepth 20000 in
theorem ggX9_purpose_X8_has : GoodIn wsX9_purpose wsX8_has := goodIn_r _ [10, 11, 28, 29] (by decide +kernel) (by decide +kernel)
set_option maxRecDepth 20000 in
theorem gX9_purpose_X8_has : GoodIn wsX9_purpose (wsV RX9 76 RX8 yX8_has wsX8_has) := goodIn_app (goodIn_of _ (by decide +kernel)) ggX9_purpose_X8_has
set_option maxRecDepth 20000 in
theorem ggX9_purpose_X8_add : GoodIn wsX9_purpose wsX8_add := goodIn_r _ [15, 11, 16, 17, 7, 8, 9, 10, 28, 29] (by decide +kernel) (by decide +kernel)
set_option maxRecDepth 20000 in
theorem gX9_purpose_X8_add : GoodIn wsX9_purpose (wsV RX9 87 RX8 yX8_add wsX8_add) := goodIn_app (goodIn_of _ (by decide +kernel)) ggX9_purpose_X8_add
theorem dX9_purpose_0 : decode cX9_purpose 0 = .ok (.aload_n 0, 1) := by decide +kernel
theorem dX9_purpose_1 : decode cX9_purpose 1 = .ok (.getfield 10, 3) := by decide +kernel
theorem dX9_purpose_4 : decode cX9_purpose 4 = .ok (.iload_n 1, 1) := by decide +kernel
theorem dX9_purpose_5 : decode cX9_purpose 5 = .ok (.invokevirtual 76, 3) := by decide +kernel
theorem dX9_purpose_8 : decode cX9_purpose 8 = .ok (.ifCond .ne 13, 3) := by decide +kernel
theorem dX9_purpose_11 : decode cX9_purpose 11 = .ok (.new 80, 3) := by decide +kernel
theorem dX9_purpose_14 : decode cX9_purpose 14 = .ok (.dup, 1) := by decide +kernel
theorem dX9_purpose_15 : decode cX9_purpose 15 = .ok (.ldc 82, 2) := by decide +kernel
theorem dX9_purpose_17 : decode cX9_purpose 17 = .ok (.invokespecial 84, 3) := by decide +kernel
theorem dX9_purpose_20 : decode cX9_purpose 20 = .ok (.athrow, 1) := by decide +kernel
theorem dX9_purpose_21 : decode cX9_purpose 21 = .ok (.aload_n 0, 1) := by decide +kernel
theorem dX9_purpose_22 : decode cX9_purpose 22 = .ok (.getfield 10, 3) := by decide +kernel
theorem dX9_purpose_25 : decode cX9_purpose 25 = .ok (.iload_n 1, 1) := by decide +kernel
theorem dX9_purpose_26 : decode cX9_purpose 26 = .ok (.invokevirtual 87, 3) := by decide +kernel
theorem dX9_purpose_29 : decode cX9_purpose 29 = .ok (.istore_n 2, 1) := by decide +kernel
theorem dX9_purpose_30 : decode cX9_purpose 30 = .ok (.iload_n 2, 1) := by decide +kernel
theorem dX9_purpose_31 : decode cX9_purpose 31 = .ok (.ifCond .ge 13, 3) := by decide +kernel
theorem dX9_purpose_34 : decode cX9_purpose 34 = .ok (.new 91, 3) := by decide +kernel
theorem dX9_purpose_37 : decode cX9_purpose 37 = .ok (.dup, 1) := by decide +kernel
theorem dX9_purpose_38 : decode cX9_purpose 38 = .ok (.ldc 93, 2) := by decide +kernel
theorem dX9_purpose_40 : decode cX9_purpose 40 = .ok (.invokespecial 95, 3) := by decide +kernel
theorem dX9_purpose_43 : decode cX9_purpose 43 = .ok (.athrow, 1) := by decide +kernel
theorem dX9_purpose_44 : decode cX9_purpose 44 = .ok (.iload_n 2, 1) := by decide +kernel
theorem dX9_purpose_45 : decode cX9_purpose 45 = .ok (.ireturn, 1) := by decide +kernel
set_option maxRecDepth 20000 in
theorem ggX9_kind_X9_isSpanOfDays : GoodIn wsX9_kind wsX9_isSpanOfDays := goodIn_r _ [9] (by decide +kernel) (by decide +kernel)
set_option maxRecDepth 20000 in
theorem gX9_kind_X9_isSpanOfDays : GoodIn wsX9_kind (va_wsS RX9 96 yX9_isSpanOfDays wsX9_isSpanOfDays) := goodIn_app (goodIn_of _ (by decide +kernel)) ggX9_kind_X9_isSpanOfDays
set_option maxRecDepth 20000 in
theorem ggX9_kind_X6_add : GoodIn wsX9_kind wsX6_add := goodIn_r _ [14, 15, 16, 27, 28] (by decide +kernel) (by decide +kernel)
set_option maxRecDepth 20000 in
theorem gX9_kind_X6_add : GoodIn wsX9_kind (wsV RX9 101 RX6 yX6_add wsX6_add) := goodIn_app (goodIn_of _ (by decide +kernel)) ggX9_kind_X6_add
theorem dX9_kind_0 : decode cX9_kind 0 = .ok (.iload_n 1, 1) := by decide +kernel
theorem dX9_kind_1 : decode cX9_kind 1 = .ok (.invokestatic 96, 3) := by decide +kernel
theorem dX9_kind_4 : decode cX9_kind 4 = .ok (.ifCond .ne 13, 3) := by decide +kernel
theorem dX9_kind_7 : decode cX9_kind 7 = .ok (.new 80, 3) := by decide +kernel
theorem dX9_kind_10 : decode cX9_kind 10 = .ok (.dup, 1) := by decide +kernel
theorem dX9_kind_11 : decode cX9_kind 11 = .ok (.ldc 99, 2) := by decide +kernel
theorem dX9_kind_13 : decode cX9_kind 13 = .ok (.invokespecial 84, 3) := by decide +kernel
theorem dX9_kind_16 : decode cX9_kind 16 = .ok (.athrow, 1) := by decide +kernel
theorem dX9_kind_17 : decode cX9_kind 17 = .ok (.aload_n 0, 1) := by decide +kernel
theorem dX9_kind_18 : decode cX9_kind 18 = .ok (.getfield 19, 3) := by decide +kernel
theorem dX9_kind_21 : decode cX9_kind 21 = .ok (.iload_n 1, 1) := by decide +kernel
theorem dX9_kind_22 : decode cX9_kind 22 = .ok (.invokevirtual 101, 3) := by decide +kernel
theorem dX9_kind_25 : decode cX9_kind 25 = .ok (.istore_n 2, 1) := by decide +kernel
theorem dX9_kind_26 : decode cX9_kind 26 = .ok (.iload_n 2, 1) := by decide +kernel
theorem dX9_kind_27 : decode cX9_kind 27 = .ok (.ifCond .ge 13, 3) := by decide +kernel
theorem dX9_kind_30 : decode cX9_kind 30 = .ok (.new 91, 3) := by decide +kernel
theorem dX9_kind_33 : decode cX9_kind 33 = .ok (.dup, 1) := by decide +kernel
theorem dX9_kind_34 : decode cX9_kind 34 = .ok (.ldc 102, 2) := by decide +kernel
theorem dX9_kind_36 : decode cX9_kind 36 = .ok (.invokespecial 95, 3) := by decide +kernel
theorem dX9_kind_39 : decode cX9_kind 39 = .ok (.athrow, 1) := by decide +kernel
theorem dX9_kind_40 : decode cX9_kind 40 = .ok (.iload_n 2, 1) := by decide +kernel
theorem dX9_kind_41 : decode cX9_kind 41 = .ok (.ireturn, 1) := by decide +kernel
set_option maxRecDepth 20000 in
theorem ggX9_consent_X9_isPerson : GoodIn wsX9_consent wsX9_isPerson := goodIn_r _ [10] (by decide +kernel) (by decide +kernel)
set_option maxRecDepth 20000 in
theorem gX9_consent_X9_isPerson : GoodIn wsX9_consent (va_wsS RX9 104 yX9_isPerson wsX9_isPerson) := goodIn_app (goodIn_of _ (by decide +kernel)) ggX9_consent_X9_isPerson
set_option maxRecDepth 20000 in
theorem ggX9_consent_X8_has : GoodIn wsX9_consent wsX8_has := goodIn_r _ [15, 16, 41, 42] (by decide +kernel) (by decide +kernel)
set_option maxRecDepth 20000 in
theorem gX9_consent_X8_has : GoodIn wsX9_consent (wsV RX9 76 RX8 yX8_has wsX8_has) := goodIn_app (goodIn_of _ (by decide +kernel)) ggX9_consent_X8_has
set_option maxRecDepth 20000 in
theorem ggX9_consent_X9_isMinute : GoodIn wsX9_consent wsX9_isMinute := goodIn_r _ [19, 20] (by decide +kernel) (by decide +kernel)
set_option maxRecDepth 20000 in
theorem gX9_consent_X9_isMinute : GoodIn wsX9_consent (va_wsS RX9 107 yX9_isMinute wsX9_isMinute) := goodIn_app (goodIn_of _ (by decide +kernel)) ggX9_consent_X9_isMinute
set_option maxRecDepth 20000 in
theorem ggX9_consent_X0_add : GoodIn wsX9_consent wsX0_add := goodIn_r _ [25, 26, 27, 28, 29, 30, 43, 44, 45, 46, 47] (by decide +kernel) (by decide +kernel)
set_option maxRecDepth 20000 in
theorem gX9_consent_X0_add : GoodIn wsX9_consent (wsV RX9 112 RX0 yX0_add wsX0_add) := goodIn_app (goodIn_of _ (by decide +kernel)) ggX9_consent_X0_add
theorem dX9_consent_0 : decode cX9_consent 0 = .ok (.iload_n 1, 1) := by decide +kernel
theorem dX9_consent_1 : decode cX9_consent 1 = .ok (.invokestatic 104, 3) := by decide +kernel
theorem dX9_consent_4 : decode cX9_consent 4 = .ok (.ifCond .eq 22, 3) := by decide +kernel
theorem dX9_consent_7 : decode cX9_consent 7 = .ok (.aload_n 0, 1) := by decide +kernel
theorem dX9_consent_8 : decode cX9_consent 8 = .ok (.getfield 10, 3) := by decide +kernel
theorem dX9_consent_11 : decode cX9_consent 11 = .ok (.iload_n 2, 1) := by decide +kernel
theorem dX9_consent_12 : decode cX9_consent 12 = .ok (.invokevirtual 76, 3) := by decide +kernel
theorem dX9_consent_15 : decode cX9_consent 15 = .ok (.ifCond .eq 11, 3) := by decide +kernel
theorem dX9_consent_18 : decode cX9_consent 18 = .ok (.iload 4, 2) := by decide +kernel
theorem dX9_consent_20 : decode cX9_consent 20 = .ok (.invokestatic 107, 3) := by decide +kernel
theorem dX9_consent_23 : decode cX9_consent 23 = .ok (.ifCond .ne 13, 3) := by decide +kernel
theorem dX9_consent_26 : decode cX9_consent 26 = .ok (.new 80, 3) := by decide +kernel
theorem dX9_consent_29 : decode cX9_consent 29 = .ok (.dup, 1) := by decide +kernel
theorem dX9_consent_30 : decode cX9_consent 30 = .ok (.ldc 110, 2) := by decide +kernel
theorem dX9_consent_32 : decode cX9_consent 32 = .ok (.invokespecial 84, 3) := by decide +kernel
theorem dX9_consent_35 : decode cX9_consent 35 = .ok (.athrow, 1) := by decide +kernel
theorem dX9_consent_36 : decode cX9_consent 36 = .ok (.aload_n 0, 1) := by decide +kernel
theorem dX9_consent_37 : decode cX9_consent 37 = .ok (.getfield 26, 3) := by decide +kernel
theorem dX9_consent_40 : decode cX9_consent 40 = .ok (.iload_n 1, 1) := by decide +kernel
theorem dX9_consent_41 : decode cX9_consent 41 = .ok (.iload_n 2, 1) := by decide +kernel
theorem dX9_consent_42 : decode cX9_consent 42 = .ok (.iload_n 3, 1) := by decide +kernel
theorem dX9_consent_43 : decode cX9_consent 43 = .ok (.iload 4, 2) := by decide +kernel
theorem dX9_consent_45 : decode cX9_consent 45 = .ok (.invokevirtual 112, 3) := by decide +kernel
theorem dX9_consent_48 : decode cX9_consent 48 = .ok (.istore 5, 2) := by decide +kernel
theorem dX9_consent_50 : decode cX9_consent 50 = .ok (.iload 5, 2) := by decide +kernel
theorem dX9_consent_52 : decode cX9_consent 52 = .ok (.ifCond .ge 13, 3) := by decide +kernel
theorem dX9_consent_55 : decode cX9_consent 55 = .ok (.new 91, 3) := by decide +kernel
theorem dX9_consent_58 : decode cX9_consent 58 = .ok (.dup, 1) := by decide +kernel
theorem dX9_consent_59 : decode cX9_consent 59 = .ok (.ldc 115, 2) := by decide +kernel
theorem dX9_consent_61 : decode cX9_consent 61 = .ok (.invokespecial 95, 3) := by decide +kernel
theorem dX9_consent_64 : decode cX9_consent 64 = .ok (.athrow, 1) := by decide +kernel
theorem dX9_consent_65 : decode cX9_consent 65 = .ok (.iload 5, 2) := by decide +kernel
theorem dX9_consent_67 : decode cX9_consent 67 = .ok (.ireturn, 1) := by decide +kernel
set_option maxRecDepth 20000 in
theorem ggX9_contract_X9_isPerson : GoodIn wsX9_contract wsX9_isPerson := goodIn_r _ [10] (by decide +kernel) (by decide +kernel)
set_option maxRecDepth 20000 in
theorem gX9_contract_X9_isPerson : GoodIn wsX9_contract (va_wsS RX9 104 yX9_isPerson wsX9_isPerson) := goodIn_app (goodIn_of _ (by decide +kernel)) ggX9_contract_X9_isPerson
set_option maxRecDepth 20000 in
theorem ggX9_contract_X8_has : GoodIn wsX9_contract wsX8_has := goodIn_r _ [15, 16, 41, 42] (by decide +kernel) (by decide +kernel)
set_option maxRecDepth 20000 in
theorem gX9_contract_X8_has : GoodIn wsX9_contract (wsV RX9 76 RX8 yX8_has wsX8_has) := goodIn_app (goodIn_of _ (by decide +kernel)) ggX9_contract_X8_has
set_option maxRecDepth 20000 in
theorem ggX9_contract_X9_isMinute : GoodIn wsX9_contract wsX9_isMinute := goodIn_r _ [19, 20] (by decide +kernel) (by decide +kernel)
set_option maxRecDepth 20000 in
theorem gX9_contract_X9_isMinute : GoodIn wsX9_contract (va_wsS RX9 107 yX9_isMinute wsX9_isMinute) := goodIn_app (goodIn_of _ (by decide +kernel)) ggX9_contract_X9_isMinute
set_option maxRecDepth 20000 in
theorem ggX9_contract_X1_add : GoodIn wsX9_contract wsX1_add := goodIn_r _ [25, 26, 27, 28, 29, 30, 43, 44, 45, 46, 47] (by decide +kernel) (by decide +kernel)
set_option maxRecDepth 20000 in
theorem gX9_contract_X1_add : GoodIn wsX9_contract (wsV RX9 121 RX1 yX1_add wsX1_add) := goodIn_app (goodIn_of _ (by decide +kernel)) ggX9_contract_X1_add
theorem dX9_contract_0 : decode cX9_contract 0 = .ok (.iload_n 1, 1) := by decide +kernel
theorem dX9_contract_1 : decode cX9_contract 1 = .ok (.invokestatic 104, 3) := by decide +kernel
theorem dX9_contract_4 : decode cX9_contract 4 = .ok (.ifCond .eq 14, 3) := by decide +kernel
theorem dX9_contract_7 : decode cX9_contract 7 = .ok (.aload_n 0, 1) := by decide +kernel
theorem dX9_contract_8 : decode cX9_contract 8 = .ok (.getfield 10, 3) := by decide +kernel
theorem dX9_contract_11 : decode cX9_contract 11 = .ok (.iload_n 2, 1) := by decide +kernel
theorem dX9_contract_12 : decode cX9_contract 12 = .ok (.invokevirtual 76, 3) := by decide +kernel
theorem dX9_contract_15 : decode cX9_contract 15 = .ok (.ifCond .ne 13, 3) := by decide +kernel
theorem dX9_contract_18 : decode cX9_contract 18 = .ok (.new 80, 3) := by decide +kernel
theorem dX9_contract_21 : decode cX9_contract 21 = .ok (.dup, 1) := by decide +kernel
theorem dX9_contract_22 : decode cX9_contract 22 = .ok (.ldc 117, 2) := by decide +kernel
theorem dX9_contract_24 : decode cX9_contract 24 = .ok (.invokespecial 84, 3) := by decide +kernel
theorem dX9_contract_27 : decode cX9_contract 27 = .ok (.athrow, 1) := by decide +kernel
theorem dX9_contract_28 : decode cX9_contract 28 = .ok (.iload_n 3, 1) := by decide +kernel
theorem dX9_contract_29 : decode cX9_contract 29 = .ok (.invokestatic 107, 3) := by decide +kernel
theorem dX9_contract_32 : decode cX9_contract 32 = .ok (.ifCond .eq 17, 3) := by decide +kernel
theorem dX9_contract_35 : decode cX9_contract 35 = .ok (.iload 4, 2) := by decide +kernel
theorem dX9_contract_37 : decode cX9_contract 37 = .ok (.invokestatic 107, 3) := by decide +kernel
theorem dX9_contract_40 : decode cX9_contract 40 = .ok (.ifCond .eq 9, 3) := by decide +kernel
theorem dX9_contract_43 : decode cX9_contract 43 = .ok (.iload_n 3, 1) := by decide +kernel
theorem dX9_contract_44 : decode cX9_contract 44 = .ok (.iload 4, 2) := by decide +kernel
theorem dX9_contract_46 : decode cX9_contract 46 = .ok (.if_icmp .le 13, 3) := by decide +kernel
theorem dX9_contract_49 : decode cX9_contract 49 = .ok (.new 80, 3) := by decide +kernel
theorem dX9_contract_52 : decode cX9_contract 52 = .ok (.dup, 1) := by decide +kernel
theorem dX9_contract_53 : decode cX9_contract 53 = .ok (.ldc 119, 2) := by decide +kernel
theorem dX9_contract_55 : decode cX9_contract 55 = .ok (.invokespecial 84, 3) := by decide +kernel
theorem dX9_contract_58 : decode cX9_contract 58 = .ok (.athrow, 1) := by decide +kernel
theorem dX9_contract_59 : decode cX9_contract 59 = .ok (.aload_n 0, 1) := by decide +kernel
theorem dX9_contract_60 : decode cX9_contract 60 = .ok (.getfield 33, 3) := by decide +kernel
theorem dX9_contract_63 : decode cX9_contract 63 = .ok (.iload_n 1, 1) := by decide +kernel
theorem dX9_contract_64 : decode cX9_contract 64 = .ok (.iload_n 2, 1) := by decide +kernel
theorem dX9_contract_65 : decode cX9_contract 65 = .ok (.iload_n 3, 1) := by decide +kernel
theorem dX9_contract_66 : decode cX9_contract 66 = .ok (.iload 4, 2) := by decide +kernel
theorem dX9_contract_68 : decode cX9_contract 68 = .ok (.invokevirtual 121, 3) := by decide +kernel
theorem dX9_contract_71 : decode cX9_contract 71 = .ok (.istore 5, 2) := by decide +kernel
theorem dX9_contract_73 : decode cX9_contract 73 = .ok (.iload 5, 2) := by decide +kernel
theorem dX9_contract_75 : decode cX9_contract 75 = .ok (.ifCond .ge 13, 3) := by decide +kernel
theorem dX9_contract_78 : decode cX9_contract 78 = .ok (.new 91, 3) := by decide +kernel
theorem dX9_contract_81 : decode cX9_contract 81 = .ok (.dup, 1) := by decide +kernel
theorem dX9_contract_82 : decode cX9_contract 82 = .ok (.ldc 124, 2) := by decide +kernel
theorem dX9_contract_84 : decode cX9_contract 84 = .ok (.invokespecial 95, 3) := by decide +kernel
theorem dX9_contract_87 : decode cX9_contract 87 = .ok (.athrow, 1) := by decide +kernel
theorem dX9_contract_88 : decode cX9_contract 88 = .ok (.iload 5, 2) := by decide +kernel
theorem dX9_contract_90 : decode cX9_contract 90 = .ok (.ireturn, 1) := by decide +kernel
set_option maxRecDepth 20000 in
theorem ggX9_duty_X6_has : GoodIn wsX9_duty wsX6_has := goodIn_r _ [12, 13, 43, 44] (by decide +kernel) (by decide +kernel)
set_option maxRecDepth 20000 in
theorem gX9_duty_X6_has : GoodIn wsX9_duty (wsV RX9 126 RX6 yX6_has wsX6_has) := goodIn_app (goodIn_of _ (by decide +kernel)) ggX9_duty_X6_has
set_option maxRecDepth 20000 in
theorem ggX9_duty_X8_has : GoodIn wsX9_duty wsX8_has := goodIn_r _ [18, 19, 45, 46] (by decide +kernel) (by decide +kernel)
set_option maxRecDepth 20000 in
theorem gX9_duty_X8_has : GoodIn wsX9_duty (wsV RX9 76 RX8 yX8_has wsX8_has) := goodIn_app (goodIn_of _ (by decide +kernel)) ggX9_duty_X8_has
set_option maxRecDepth 20000 in
theorem ggX9_duty_X9_isSpanOfDays : GoodIn wsX9_duty wsX9_isSpanOfDays := goodIn_r _ [23] (by decide +kernel) (by decide +kernel)
set_option maxRecDepth 20000 in
theorem gX9_duty_X9_isSpanOfDays : GoodIn wsX9_duty (va_wsS RX9 96 yX9_isSpanOfDays wsX9_isSpanOfDays) := goodIn_app (goodIn_of _ (by decide +kernel)) ggX9_duty_X9_isSpanOfDays
set_option maxRecDepth 20000 in
theorem ggX9_duty_X2_add : GoodIn wsX9_duty wsX2_add := goodIn_r _ [28, 29, 30, 31, 32, 47, 48, 49, 50] (by decide +kernel) (by decide +kernel)
set_option maxRecDepth 20000 in
theorem gX9_duty_X2_add : GoodIn wsX9_duty (wsV RX9 129 RX2 yX2_add wsX2_add) := goodIn_app (goodIn_of _ (by decide +kernel)) ggX9_duty_X2_add
theorem dX9_duty_0 : decode cX9_duty 0 = .ok (.aload_n 0, 1) := by decide +kernel
theorem dX9_duty_1 : decode cX9_duty 1 = .ok (.getfield 19, 3) := by decide +kernel
theorem dX9_duty_4 : decode cX9_duty 4 = .ok (.iload_n 1, 1) := by decide +kernel
theorem dX9_duty_5 : decode cX9_duty 5 = .ok (.invokevirtual 126, 3) := by decide +kernel
theorem dX9_duty_8 : decode cX9_duty 8 = .ok (.ifCond .eq 21, 3) := by decide +kernel
theorem dX9_duty_11 : decode cX9_duty 11 = .ok (.aload_n 0, 1) := by decide +kernel
theorem dX9_duty_12 : decode cX9_duty 12 = .ok (.getfield 10, 3) := by decide +kernel
theorem dX9_duty_15 : decode cX9_duty 15 = .ok (.iload_n 2, 1) := by decide +kernel
theorem dX9_duty_16 : decode cX9_duty 16 = .ok (.invokevirtual 76, 3) := by decide +kernel
theorem dX9_duty_19 : decode cX9_duty 19 = .ok (.ifCond .eq 10, 3) := by decide +kernel
theorem dX9_duty_22 : decode cX9_duty 22 = .ok (.iload_n 3, 1) := by decide +kernel
theorem dX9_duty_23 : decode cX9_duty 23 = .ok (.invokestatic 96, 3) := by decide +kernel
theorem dX9_duty_26 : decode cX9_duty 26 = .ok (.ifCond .ne 13, 3) := by decide +kernel
theorem dX9_duty_29 : decode cX9_duty 29 = .ok (.new 80, 3) := by decide +kernel
theorem dX9_duty_32 : decode cX9_duty 32 = .ok (.dup, 1) := by decide +kernel
theorem dX9_duty_33 : decode cX9_duty 33 = .ok (.ldc 127, 2) := by decide +kernel
theorem dX9_duty_35 : decode cX9_duty 35 = .ok (.invokespecial 84, 3) := by decide +kernel
theorem dX9_duty_38 : decode cX9_duty 38 = .ok (.athrow, 1) := by decide +kernel
theorem dX9_duty_39 : decode cX9_duty 39 = .ok (.aload_n 0, 1) := by decide +kernel
theorem dX9_duty_40 : decode cX9_duty 40 = .ok (.getfield 40, 3) := by decide +kernel
theorem dX9_duty_43 : decode cX9_duty 43 = .ok (.iload_n 1, 1) := by decide +kernel
theorem dX9_duty_44 : decode cX9_duty 44 = .ok (.iload_n 2, 1) := by decide +kernel
theorem dX9_duty_45 : decode cX9_duty 45 = .ok (.iload_n 3, 1) := by decide +kernel
theorem dX9_duty_46 : decode cX9_duty 46 = .ok (.invokevirtual 129, 3) := by decide +kernel
theorem dX9_duty_49 : decode cX9_duty 49 = .ok (.istore 4, 2) := by decide +kernel
theorem dX9_duty_51 : decode cX9_duty 51 = .ok (.iload 4, 2) := by decide +kernel
theorem dX9_duty_53 : decode cX9_duty 53 = .ok (.ifCond .ge 13, 3) := by decide +kernel
theorem dX9_duty_56 : decode cX9_duty 56 = .ok (.new 91, 3) := by decide +kernel
theorem dX9_duty_59 : decode cX9_duty 59 = .ok (.dup, 1) := by decide +kernel
theorem dX9_duty_60 : decode cX9_duty 60 = .ok (.ldc 132, 2) := by decide +kernel
theorem dX9_duty_62 : decode cX9_duty 62 = .ok (.invokespecial 95, 3) := by decide +kernel
theorem dX9_duty_65 : decode cX9_duty 65 = .ok (.athrow, 1) := by decide +kernel
theorem dX9_duty_66 : decode cX9_duty 66 = .ok (.iload 4, 2) := by decide +kernel
theorem dX9_duty_68 : decode cX9_duty 68 = .ok (.ireturn, 1) := by decide +kernel
set_option maxRecDepth 20000 in
theorem ggX9_put_X9_isPerson : GoodIn wsX9_put wsX9_isPerson := goodIn_r _ [10] (by decide +kernel) (by decide +kernel)
set_option maxRecDepth 20000 in
theorem gX9_put_X9_isPerson : GoodIn wsX9_put (va_wsS RX9 104 yX9_isPerson wsX9_isPerson) := goodIn_app (goodIn_of _ (by decide +kernel)) ggX9_put_X9_isPerson
set_option maxRecDepth 20000 in
theorem ggX9_put_X6_has : GoodIn wsX9_put wsX6_has := goodIn_r _ [15, 16, 51, 52] (by decide +kernel) (by decide +kernel)
set_option maxRecDepth 20000 in
theorem gX9_put_X6_has : GoodIn wsX9_put (wsV RX9 126 RX6 yX6_has wsX6_has) := goodIn_app (goodIn_of _ (by decide +kernel)) ggX9_put_X6_has
set_option maxRecDepth 20000 in
theorem ggX9_put_X9_isDay : GoodIn wsX9_put wsX9_isDay := goodIn_r _ [19] (by decide +kernel) (by decide +kernel)
set_option maxRecDepth 20000 in
theorem gX9_put_X9_isDay : GoodIn wsX9_put (va_wsS RX9 134 yX9_isDay wsX9_isDay) := goodIn_app (goodIn_of _ (by decide +kernel)) ggX9_put_X9_isDay
set_option maxRecDepth 20000 in
theorem ggX9_put_X5_addPut : GoodIn wsX9_put wsX5_addPut := goodIn_r _ [24, 25, 26, 27, 28, 29, 23, 30, 31, 32, 33, 34, 35, 36, 37, 38, 39, 40, 53, 54, 55, 56, 57, 58, 59, 60, 61, 62, 63] (by decide +kernel) (by decide +kernel)
set_option maxRecDepth 20000 in
theorem gX9_put_X5_addPut : GoodIn wsX9_put (wsV RX9 139 RX5 yX5_addPut wsX5_addPut) := goodIn_app (goodIn_of _ (by decide +kernel)) ggX9_put_X5_addPut
theorem dX9_put_0 : decode cX9_put 0 = .ok (.iload_n 1, 1) := by decide +kernel
theorem dX9_put_1 : decode cX9_put 1 = .ok (.invokestatic 104, 3) := by decide +kernel
theorem dX9_put_4 : decode cX9_put 4 = .ok (.ifCond .eq 22, 3) := by decide +kernel
theorem dX9_put_7 : decode cX9_put 7 = .ok (.aload_n 0, 1) := by decide +kernel
theorem dX9_put_8 : decode cX9_put 8 = .ok (.getfield 19, 3) := by decide +kernel
theorem dX9_put_11 : decode cX9_put 11 = .ok (.iload_n 2, 1) := by decide +kernel
theorem dX9_put_12 : decode cX9_put 12 = .ok (.invokevirtual 126, 3) := by decide +kernel
theorem dX9_put_15 : decode cX9_put 15 = .ok (.ifCond .eq 11, 3) := by decide +kernel
theorem dX9_put_18 : decode cX9_put 18 = .ok (.iload 4, 2) := by decide +kernel
theorem dX9_put_20 : decode cX9_put 20 = .ok (.invokestatic 134, 3) := by decide +kernel
theorem dX9_put_23 : decode cX9_put 23 = .ok (.ifCond .ne 13, 3) := by decide +kernel
theorem dX9_put_26 : decode cX9_put 26 = .ok (.new 80, 3) := by decide +kernel
theorem dX9_put_29 : decode cX9_put 29 = .ok (.dup, 1) := by decide +kernel
theorem dX9_put_30 : decode cX9_put 30 = .ok (.ldc 137, 2) := by decide +kernel
theorem dX9_put_32 : decode cX9_put 32 = .ok (.invokespecial 84, 3) := by decide +kernel
theorem dX9_put_35 : decode cX9_put 35 = .ok (.athrow, 1) := by decide +kernel
theorem dX9_put_36 : decode cX9_put 36 = .ok (.aload_n 0, 1) := by decide +kernel
theorem dX9_put_37 : decode cX9_put 37 = .ok (.getfield 61, 3) := by decide +kernel
theorem dX9_put_40 : decode cX9_put 40 = .ok (.iload_n 1, 1) := by decide +kernel
theorem dX9_put_41 : decode cX9_put 41 = .ok (.iload_n 2, 1) := by decide +kernel
theorem dX9_put_42 : decode cX9_put 42 = .ok (.iload_n 3, 1) := by decide +kernel
theorem dX9_put_43 : decode cX9_put 43 = .ok (.iload 4, 2) := by decide +kernel
theorem dX9_put_45 : decode cX9_put 45 = .ok (.invokevirtual 139, 3) := by decide +kernel
theorem dX9_put_48 : decode cX9_put 48 = .ok (.istore 5, 2) := by decide +kernel
theorem dX9_put_50 : decode cX9_put 50 = .ok (.iload 5, 2) := by decide +kernel
theorem dX9_put_52 : decode cX9_put 52 = .ok (.ifCond .ge 13, 3) := by decide +kernel
theorem dX9_put_55 : decode cX9_put 55 = .ok (.new 91, 3) := by decide +kernel
theorem dX9_put_58 : decode cX9_put 58 = .ok (.dup, 1) := by decide +kernel
theorem dX9_put_59 : decode cX9_put 59 = .ok (.ldc 142, 2) := by decide +kernel
theorem dX9_put_61 : decode cX9_put 61 = .ok (.invokespecial 95, 3) := by decide +kernel
theorem dX9_put_64 : decode cX9_put 64 = .ok (.athrow, 1) := by decide +kernel
theorem dX9_put_65 : decode cX9_put 65 = .ok (.iload 5, 2) := by decide +kernel
theorem dX9_put_67 : decode cX9_put 67 = .ok (.ireturn, 1) := by decide +kernel
set_option maxRecDepth 20000 in
theorem ggX9_derive_X5_lives : GoodIn wsX9_derive wsX5_lives := goodIn_r _ [12, 13, 14, 15, 16, 11, 17, 18, 70, 71, 72, 73, 74, 75, 76, 77, 78, 79, 80] (by decide +kernel) (by decide +kernel)
set_option maxRecDepth 20000 in
theorem gX9_derive_X5_lives : GoodIn wsX9_derive (wsV RX9 148 RX5 yX5_lives wsX5_lives) := goodIn_app (goodIn_of _ (by decide +kernel)) ggX9_derive_X5_lives
set_option maxRecDepth 20000 in
theorem ggX9_derive_X5_addDerived : GoodIn wsX9_derive wsX5_addDerived := goodIn_r _ [22, 23, 24, 25, 26, 27, 28, 29, 30, 31, 32, 33, 11, 34, 35, 36, 9, 10, 12, 13, 14, 15, 16, 17, 18, 37, 38, 39, 40, 41, 42, 43, 44, 45, 46, 47, 48, 49, 50, 51, 52, 53, 54, 55, 56, 57, 58, 59, 70, 71, 72, 73, 74, 75, 76, 77, 78, 79, 80] (by decide +kernel) (by decide +kernel)
set_option maxRecDepth 20000 in
theorem gX9_derive_X5_addDerived : GoodIn wsX9_derive (wsV RX9 156 RX5 yX5_addDerived wsX5_addDerived) := goodIn_app (goodIn_of _ (by decide +kernel)) ggX9_derive_X5_addDerived
theorem dX9_derive_0 : decode cX9_derive 0 = .ok (.iload_n 1, 1) := by decide +kernel
theorem dX9_derive_1 : decode cX9_derive 1 = .ok (.ifCond .eq 23, 3) := by decide +kernel
theorem dX9_derive_4 : decode cX9_derive 4 = .ok (.iload_n 1, 1) := by decide +kernel
theorem dX9_derive_5 : decode cX9_derive 5 = .ok (.iconst 1, 1) := by decide +kernel
theorem dX9_derive_6 : decode cX9_derive 6 = .ok (.if_icmp .eq 18, 3) := by decide +kernel
theorem dX9_derive_9 : decode cX9_derive 9 = .ok (.iload_n 1, 1) := by decide +kernel
theorem dX9_derive_10 : decode cX9_derive 10 = .ok (.iconst 2, 1) := by decide +kernel
theorem dX9_derive_11 : decode cX9_derive 11 = .ok (.if_icmp .eq 13, 3) := by decide +kernel
theorem dX9_derive_14 : decode cX9_derive 14 = .ok (.new 80, 3) := by decide +kernel
theorem dX9_derive_17 : decode cX9_derive 17 = .ok (.dup, 1) := by decide +kernel
theorem dX9_derive_18 : decode cX9_derive 18 = .ok (.ldc 144, 2) := by decide +kernel
theorem dX9_derive_20 : decode cX9_derive 20 = .ok (.invokespecial 84, 3) := by decide +kernel
theorem dX9_derive_23 : decode cX9_derive 23 = .ok (.athrow, 1) := by decide +kernel
theorem dX9_derive_24 : decode cX9_derive 24 = .ok (.iload_n 1, 1) := by decide +kernel
theorem dX9_derive_25 : decode cX9_derive 25 = .ok (.ifCond .eq 18, 3) := by decide +kernel
theorem dX9_derive_28 : decode cX9_derive 28 = .ok (.iload_n 2, 1) := by decide +kernel
theorem dX9_derive_29 : decode cX9_derive 29 = .ok (.iload_n 3, 1) := by decide +kernel
theorem dX9_derive_30 : decode cX9_derive 30 = .ok (.if_icmp .ne 13, 3) := by decide +kernel
theorem dX9_derive_33 : decode cX9_derive 33 = .ok (.new 80, 3) := by decide +kernel
theorem dX9_derive_36 : decode cX9_derive 36 = .ok (.dup, 1) := by decide +kernel
theorem dX9_derive_37 : decode cX9_derive 37 = .ok (.ldc 146, 2) := by decide +kernel
theorem dX9_derive_39 : decode cX9_derive 39 = .ok (.invokespecial 84, 3) := by decide +kernel
theorem dX9_derive_42 : decode cX9_derive 42 = .ok (.athrow, 1) := by decide +kernel
theorem dX9_derive_43 : decode cX9_derive 43 = .ok (.iload_n 1, 1) := by decide +kernel
theorem dX9_derive_44 : decode cX9_derive 44 = .ok (.ifCond .ne 7, 3) := by decide +kernel
theorem dX9_derive_47 : decode cX9_derive 47 = .ok (.iload_n 2, 1) := by decide +kernel
theorem dX9_derive_48 : decode cX9_derive 48 = .ok (.goto 4, 3) := by decide +kernel
theorem dX9_derive_51 : decode cX9_derive 51 = .ok (.iload_n 3, 1) := by decide +kernel
theorem dX9_derive_52 : decode cX9_derive 52 = .ok (.istore 4, 2) := by decide +kernel
theorem dX9_derive_54 : decode cX9_derive 54 = .ok (.aload_n 0, 1) := by decide +kernel
theorem dX9_derive_55 : decode cX9_derive 55 = .ok (.getfield 61, 3) := by decide +kernel
theorem dX9_derive_58 : decode cX9_derive 58 = .ok (.iload_n 2, 1) := by decide +kernel
theorem dX9_derive_59 : decode cX9_derive 59 = .ok (.invokevirtual 148, 3) := by decide +kernel
theorem dX9_derive_62 : decode cX9_derive 62 = .ok (.ifCond .eq 15, 3) := by decide +kernel
theorem dX9_derive_65 : decode cX9_derive 65 = .ok (.aload_n 0, 1) := by decide +kernel
theorem dX9_derive_66 : decode cX9_derive 66 = .ok (.getfield 61, 3) := by decide +kernel
theorem dX9_derive_69 : decode cX9_derive 69 = .ok (.iload 4, 2) := by decide +kernel
theorem dX9_derive_71 : decode cX9_derive 71 = .ok (.invokevirtual 148, 3) := by decide +kernel
theorem dX9_derive_74 : decode cX9_derive 74 = .ok (.ifCond .ne 13, 3) := by decide +kernel
theorem dX9_derive_77 : decode cX9_derive 77 = .ok (.new 151, 3) := by decide +kernel
theorem dX9_derive_80 : decode cX9_derive 80 = .ok (.dup, 1) := by decide +kernel
theorem dX9_derive_81 : decode cX9_derive 81 = .ok (.ldc 153, 2) := by decide +kernel
theorem dX9_derive_83 : decode cX9_derive 83 = .ok (.invokespecial 155, 3) := by decide +kernel
theorem dX9_derive_86 : decode cX9_derive 86 = .ok (.athrow, 1) := by decide +kernel
theorem dX9_derive_87 : decode cX9_derive 87 = .ok (.aload_n 0, 1) := by decide +kernel
theorem dX9_derive_88 : decode cX9_derive 88 = .ok (.getfield 61, 3) := by decide +kernel
theorem dX9_derive_91 : decode cX9_derive 91 = .ok (.iload_n 1, 1) := by decide +kernel
theorem dX9_derive_92 : decode cX9_derive 92 = .ok (.iload_n 2, 1) := by decide +kernel
theorem dX9_derive_93 : decode cX9_derive 93 = .ok (.iload 4, 2) := by decide +kernel
theorem dX9_derive_95 : decode cX9_derive 95 = .ok (.invokevirtual 156, 3) := by decide +kernel
theorem dX9_derive_98 : decode cX9_derive 98 = .ok (.istore 5, 2) := by decide +kernel
theorem dX9_derive_100 : decode cX9_derive 100 = .ok (.iload 5, 2) := by decide +kernel
theorem dX9_derive_102 : decode cX9_derive 102 = .ok (.ifCond .ge 13, 3) := by decide +kernel
theorem dX9_derive_105 : decode cX9_derive 105 = .ok (.new 91, 3) := by decide +kernel
theorem dX9_derive_108 : decode cX9_derive 108 = .ok (.dup, 1) := by decide +kernel
theorem dX9_derive_109 : decode cX9_derive 109 = .ok (.ldc 142, 2) := by decide +kernel
theorem dX9_derive_111 : decode cX9_derive 111 = .ok (.invokespecial 95, 3) := by decide +kernel
theorem dX9_derive_114 : decode cX9_derive 114 = .ok (.athrow, 1) := by decide +kernel
theorem dX9_derive_115 : decode cX9_derive 115 = .ok (.iload 5, 2) := by decide +kernel
theorem dX9_derive_117 : decode cX9_derive 117 = .ok (.ireturn, 1) := by decide +kernel
set_option maxRecDepth 20000 in
theorem ggX9_event_X9_isPerson : GoodIn wsX9_event wsX9_isPerson := goodIn_r _ [10] (by decide +kernel) (by decide +kernel)
set_option maxRecDepth 20000 in
theorem gX9_event_X9_isPerson : GoodIn wsX9_event (va_wsS RX9 104 yX9_isPerson wsX9_isPerson) := goodIn_app (goodIn_of _ (by decide +kernel)) ggX9_event_X9_isPerson
set_option maxRecDepth 20000 in
theorem ggX9_event_X6_has : GoodIn wsX9_event wsX6_has := goodIn_r _ [15, 16, 39, 40] (by decide +kernel) (by decide +kernel)
set_option maxRecDepth 20000 in
theorem gX9_event_X6_has : GoodIn wsX9_event (wsV RX9 126 RX6 yX6_has wsX6_has) := goodIn_app (goodIn_of _ (by decide +kernel)) ggX9_event_X6_has
set_option maxRecDepth 20000 in
theorem ggX9_event_X9_isDay : GoodIn wsX9_event wsX9_isDay := goodIn_r _ [19] (by decide +kernel) (by decide +kernel)
set_option maxRecDepth 20000 in
theorem gX9_event_X9_isDay : GoodIn wsX9_event (va_wsS RX9 134 yX9_isDay wsX9_isDay) := goodIn_app (goodIn_of _ (by decide +kernel)) ggX9_event_X9_isDay
set_option maxRecDepth 20000 in
theorem ggX9_event_X3_add : GoodIn wsX9_event wsX3_add := goodIn_r _ [24, 25, 26, 27, 28, 41, 42, 43, 44] (by decide +kernel) (by decide +kernel)
set_option maxRecDepth 20000 in
theorem gX9_event_X3_add : GoodIn wsX9_event (wsV RX9 159 RX3 yX3_add wsX3_add) := goodIn_app (goodIn_of _ (by decide +kernel)) ggX9_event_X3_add
theorem dX9_event_0 : decode cX9_event 0 = .ok (.iload_n 1, 1) := by decide +kernel
theorem dX9_event_1 : decode cX9_event 1 = .ok (.invokestatic 104, 3) := by decide +kernel
theorem dX9_event_4 : decode cX9_event 4 = .ok (.ifCond .eq 21, 3) := by decide +kernel
theorem dX9_event_7 : decode cX9_event 7 = .ok (.aload_n 0, 1) := by decide +kernel
theorem dX9_event_8 : decode cX9_event 8 = .ok (.getfield 19, 3) := by decide +kernel
theorem dX9_event_11 : decode cX9_event 11 = .ok (.iload_n 2, 1) := by decide +kernel
theorem dX9_event_12 : decode cX9_event 12 = .ok (.invokevirtual 126, 3) := by decide +kernel
theorem dX9_event_15 : decode cX9_event 15 = .ok (.ifCond .eq 10, 3) := by decide +kernel
theorem dX9_event_18 : decode cX9_event 18 = .ok (.iload_n 3, 1) := by decide +kernel
theorem dX9_event_19 : decode cX9_event 19 = .ok (.invokestatic 134, 3) := by decide +kernel
theorem dX9_event_22 : decode cX9_event 22 = .ok (.ifCond .ne 13, 3) := by decide +kernel
theorem dX9_event_25 : decode cX9_event 25 = .ok (.new 80, 3) := by decide +kernel
theorem dX9_event_28 : decode cX9_event 28 = .ok (.dup, 1) := by decide +kernel
theorem dX9_event_29 : decode cX9_event 29 = .ok (.ldc 137, 2) := by decide +kernel
theorem dX9_event_31 : decode cX9_event 31 = .ok (.invokespecial 84, 3) := by decide +kernel
theorem dX9_event_34 : decode cX9_event 34 = .ok (.athrow, 1) := by decide +kernel
theorem dX9_event_35 : decode cX9_event 35 = .ok (.aload_n 0, 1) := by decide +kernel
theorem dX9_event_36 : decode cX9_event 36 = .ok (.getfield 47, 3) := by decide +kernel
theorem dX9_event_39 : decode cX9_event 39 = .ok (.iload_n 1, 1) := by decide +kernel
theorem dX9_event_40 : decode cX9_event 40 = .ok (.iload_n 2, 1) := by decide +kernel
theorem dX9_event_41 : decode cX9_event 41 = .ok (.iload_n 3, 1) := by decide +kernel
theorem dX9_event_42 : decode cX9_event 42 = .ok (.invokevirtual 159, 3) := by decide +kernel
theorem dX9_event_45 : decode cX9_event 45 = .ok (.istore 4, 2) := by decide +kernel
theorem dX9_event_47 : decode cX9_event 47 = .ok (.iload 4, 2) := by decide +kernel
theorem dX9_event_49 : decode cX9_event 49 = .ok (.ifCond .ge 13, 3) := by decide +kernel
theorem dX9_event_52 : decode cX9_event 52 = .ok (.new 91, 3) := by decide +kernel
theorem dX9_event_55 : decode cX9_event 55 = .ok (.dup, 1) := by decide +kernel
theorem dX9_event_56 : decode cX9_event 56 = .ok (.ldc 160, 2) := by decide +kernel
theorem dX9_event_58 : decode cX9_event 58 = .ok (.invokespecial 95, 3) := by decide +kernel
theorem dX9_event_61 : decode cX9_event 61 = .ok (.athrow, 1) := by decide +kernel
theorem dX9_event_62 : decode cX9_event 62 = .ok (.iload 4, 2) := by decide +kernel
theorem dX9_event_64 : decode cX9_event 64 = .ok (.ireturn, 1) := by decide +kernel
set_option maxRecDepth 20000 in
theorem ggX9_hold_X9_isPerson : GoodIn wsX9_hold wsX9_isPerson := goodIn_r _ [10] (by decide +kernel) (by decide +kernel)
set_option maxRecDepth 20000 in
theorem gX9_hold_X9_isPerson : GoodIn wsX9_hold (va_wsS RX9 104 yX9_isPerson wsX9_isPerson) := goodIn_app (goodIn_of _ (by decide +kernel)) ggX9_hold_X9_isPerson
set_option maxRecDepth 20000 in
theorem ggX9_hold_X9_isMarkedKind : GoodIn wsX9_hold wsX9_isMarkedKind := goodIn_r _ [14, 15, 16, 17, 18, 19, 20, 21, 41, 42, 43, 44, 45, 46, 47, 48, 49, 50, 51, 52] (by decide +kernel) (by decide +kernel)
set_option maxRecDepth 20000 in
theorem gX9_hold_X9_isMarkedKind : GoodIn wsX9_hold (wsV RX9 162 RX9 yX9_isMarkedKind wsX9_isMarkedKind) := goodIn_app (goodIn_of _ (by decide +kernel)) ggX9_hold_X9_isMarkedKind
set_option maxRecDepth 20000 in
theorem ggX9_hold_X8_has : GoodIn wsX9_hold wsX8_has := goodIn_r _ [26, 27, 53, 54] (by decide +kernel) (by decide +kernel)
set_option maxRecDepth 20000 in
theorem gX9_hold_X8_has : GoodIn wsX9_hold (wsV RX9 76 RX8 yX8_has wsX8_has) := goodIn_app (goodIn_of _ (by decide +kernel)) ggX9_hold_X8_has
set_option maxRecDepth 20000 in
theorem ggX9_hold_X9_isDay : GoodIn wsX9_hold wsX9_isDay := goodIn_r _ [30] (by decide +kernel) (by decide +kernel)
set_option maxRecDepth 20000 in
theorem gX9_hold_X9_isDay : GoodIn wsX9_hold (va_wsS RX9 134 yX9_isDay wsX9_isDay) := goodIn_app (goodIn_of _ (by decide +kernel)) ggX9_hold_X9_isDay
set_option maxRecDepth 20000 in
theorem ggX9_hold_X4_add : GoodIn wsX9_hold wsX4_add := goodIn_r _ [35, 36, 37, 38, 39, 40, 55, 56, 57, 58, 59] (by decide +kernel) (by decide +kernel)
set_option maxRecDepth 20000 in
theorem gX9_hold_X4_add : GoodIn wsX9_hold (wsV RX9 169 RX4 yX4_add wsX4_add) := goodIn_app (goodIn_of _ (by decide +kernel)) ggX9_hold_X4_add
theorem dX9_hold_0 : decode cX9_hold 0 = .ok (.iload_n 1, 1) := by decide +kernel
theorem dX9_hold_1 : decode cX9_hold 1 = .ok (.invokestatic 104, 3) := by decide +kernel
theorem dX9_hold_4 : decode cX9_hold 4 = .ok (.ifCond .ne 21, 3) := by decide +kernel
theorem dX9_hold_7 : decode cX9_hold 7 = .ok (.aload_n 0, 1) := by decide +kernel
theorem dX9_hold_8 : decode cX9_hold 8 = .ok (.iload_n 1, 1) := by decide +kernel
theorem dX9_hold_9 : decode cX9_hold 9 = .ok (.invokevirtual 162, 3) := by decide +kernel
theorem dX9_hold_12 : decode cX9_hold 12 = .ok (.ifCond .ne 13, 3) := by decide +kernel
theorem dX9_hold_15 : decode cX9_hold 15 = .ok (.new 80, 3) := by decide +kernel
theorem dX9_hold_18 : decode cX9_hold 18 = .ok (.dup, 1) := by decide +kernel
theorem dX9_hold_19 : decode cX9_hold 19 = .ok (.ldc 165, 2) := by decide +kernel
theorem dX9_hold_21 : decode cX9_hold 21 = .ok (.invokespecial 84, 3) := by decide +kernel
theorem dX9_hold_24 : decode cX9_hold 24 = .ok (.athrow, 1) := by decide +kernel
theorem dX9_hold_25 : decode cX9_hold 25 = .ok (.aload_n 0, 1) := by decide +kernel
theorem dX9_hold_26 : decode cX9_hold 26 = .ok (.getfield 10, 3) := by decide +kernel
theorem dX9_hold_29 : decode cX9_hold 29 = .ok (.iload_n 2, 1) := by decide +kernel
theorem dX9_hold_30 : decode cX9_hold 30 = .ok (.invokevirtual 76, 3) := by decide +kernel
theorem dX9_hold_33 : decode cX9_hold 33 = .ok (.ifCond .eq 10, 3) := by decide +kernel
theorem dX9_hold_36 : decode cX9_hold 36 = .ok (.iload_n 3, 1) := by decide +kernel
theorem dX9_hold_37 : decode cX9_hold 37 = .ok (.invokestatic 134, 3) := by decide +kernel
theorem dX9_hold_40 : decode cX9_hold 40 = .ok (.ifCond .ne 13, 3) := by decide +kernel
theorem dX9_hold_43 : decode cX9_hold 43 = .ok (.new 80, 3) := by decide +kernel
theorem dX9_hold_46 : decode cX9_hold 46 = .ok (.dup, 1) := by decide +kernel
theorem dX9_hold_47 : decode cX9_hold 47 = .ok (.ldc 167, 2) := by decide +kernel
theorem dX9_hold_49 : decode cX9_hold 49 = .ok (.invokespecial 84, 3) := by decide +kernel
theorem dX9_hold_52 : decode cX9_hold 52 = .ok (.athrow, 1) := by decide +kernel
theorem dX9_hold_53 : decode cX9_hold 53 = .ok (.aload_n 0, 1) := by decide +kernel
theorem dX9_hold_54 : decode cX9_hold 54 = .ok (.getfield 54, 3) := by decide +kernel
theorem dX9_hold_57 : decode cX9_hold 57 = .ok (.iload_n 1, 1) := by decide +kernel
theorem dX9_hold_58 : decode cX9_hold 58 = .ok (.iload_n 2, 1) := by decide +kernel
theorem dX9_hold_59 : decode cX9_hold 59 = .ok (.iload_n 3, 1) := by decide +kernel
theorem dX9_hold_60 : decode cX9_hold 60 = .ok (.invokevirtual 169, 3) := by decide +kernel
theorem dX9_hold_63 : decode cX9_hold 63 = .ok (.istore 4, 2) := by decide +kernel
theorem dX9_hold_65 : decode cX9_hold 65 = .ok (.iload 4, 2) := by decide +kernel
theorem dX9_hold_67 : decode cX9_hold 67 = .ok (.ifCond .ge 13, 3) := by decide +kernel
theorem dX9_hold_70 : decode cX9_hold 70 = .ok (.new 91, 3) := by decide +kernel
theorem dX9_hold_73 : decode cX9_hold 73 = .ok (.dup, 1) := by decide +kernel
theorem dX9_hold_74 : decode cX9_hold 74 = .ok (.ldc 170, 2) := by decide +kernel
theorem dX9_hold_76 : decode cX9_hold 76 = .ok (.invokespecial 95, 3) := by decide +kernel
theorem dX9_hold_79 : decode cX9_hold 79 = .ok (.athrow, 1) := by decide +kernel
theorem dX9_hold_80 : decode cX9_hold 80 = .ok (.iload 4, 2) := by decide +kernel
theorem dX9_hold_82 : decode cX9_hold 82 = .ok (.ireturn, 1) := by decide +kernel
set_option maxRecDepth 20000 in
theorem ggX9_lift_X4_has : GoodIn wsX9_lift wsX4_has := goodIn_r _ [10, 11, 37, 38, 39, 40, 41] (by decide +kernel) (by decide +kernel)
set_option maxRecDepth 20000 in
theorem gX9_lift_X4_has : GoodIn wsX9_lift (wsV RX9 172 RX4 yX4_has wsX4_has) := goodIn_app (goodIn_of _ (by decide +kernel)) ggX9_lift_X4_has
set_option maxRecDepth 20000 in
theorem ggX9_lift_X4_firstDayOf : GoodIn wsX9_lift wsX4_firstDayOf := goodIn_r _ [15, 16, 17, 7, 8, 9, 10, 11, 37, 38, 39, 40, 41] (by decide +kernel) (by decide +kernel)
set_option maxRecDepth 20000 in
theorem gX9_lift_X4_firstDayOf : GoodIn wsX9_lift (wsV RX9 173 RX4 yX4_firstDayOf wsX4_firstDayOf) := goodIn_app (goodIn_of _ (by decide +kernel)) ggX9_lift_X4_firstDayOf
set_option maxRecDepth 20000 in
theorem ggX9_lift_X4_isLifted : GoodIn wsX9_lift wsX4_isLifted := goodIn_r _ [21, 22, 17, 7, 8, 9, 10, 11, 37, 38, 39, 40, 41] (by decide +kernel) (by decide +kernel)
set_option maxRecDepth 20000 in
theorem gX9_lift_X4_isLifted : GoodIn wsX9_lift (wsV RX9 178 RX4 yX4_isLifted wsX4_isLifted) := goodIn_app (goodIn_of _ (by decide +kernel)) ggX9_lift_X4_isLifted
set_option maxRecDepth 20000 in
theorem ggX9_lift_X4_endOn : GoodIn wsX9_lift wsX4_endOn := goodIn_r _ [26, 22, 17, 7, 8, 9, 10, 11, 37, 38, 39, 40, 41] (by decide +kernel) (by decide +kernel)
set_option maxRecDepth 20000 in
theorem gX9_lift_X4_endOn : GoodIn wsX9_lift (wsV RX9 183 RX4 yX4_endOn wsX4_endOn) := goodIn_app (goodIn_of _ (by decide +kernel)) ggX9_lift_X4_endOn
theorem dX9_lift_0 : decode cX9_lift 0 = .ok (.aload_n 0, 1) := by decide +kernel
theorem dX9_lift_1 : decode cX9_lift 1 = .ok (.getfield 54, 3) := by decide +kernel
theorem dX9_lift_4 : decode cX9_lift 4 = .ok (.iload_n 1, 1) := by decide +kernel
theorem dX9_lift_5 : decode cX9_lift 5 = .ok (.invokevirtual 172, 3) := by decide +kernel
theorem dX9_lift_8 : decode cX9_lift 8 = .ok (.ifCond .eq 22, 3) := by decide +kernel
theorem dX9_lift_11 : decode cX9_lift 11 = .ok (.iload_n 2, 1) := by decide +kernel
theorem dX9_lift_12 : decode cX9_lift 12 = .ok (.aload_n 0, 1) := by decide +kernel
theorem dX9_lift_13 : decode cX9_lift 13 = .ok (.getfield 54, 3) := by decide +kernel
theorem dX9_lift_16 : decode cX9_lift 16 = .ok (.iload_n 1, 1) := by decide +kernel
theorem dX9_lift_17 : decode cX9_lift 17 = .ok (.invokevirtual 173, 3) := by decide +kernel
theorem dX9_lift_20 : decode cX9_lift 20 = .ok (.if_icmp .lt 10, 3) := by decide +kernel
theorem dX9_lift_23 : decode cX9_lift 23 = .ok (.iload_n 2, 1) := by decide +kernel
theorem dX9_lift_24 : decode cX9_lift 24 = .ok (.sipush 6944, 3) := by decide +kernel
theorem dX9_lift_27 : decode cX9_lift 27 = .ok (.if_icmp .le 13, 3) := by decide +kernel
theorem dX9_lift_30 : decode cX9_lift 30 = .ok (.new 80, 3) := by decide +kernel
theorem dX9_lift_33 : decode cX9_lift 33 = .ok (.dup, 1) := by decide +kernel
theorem dX9_lift_34 : decode cX9_lift 34 = .ok (.ldc 176, 2) := by decide +kernel
theorem dX9_lift_36 : decode cX9_lift 36 = .ok (.invokespecial 84, 3) := by decide +kernel
theorem dX9_lift_39 : decode cX9_lift 39 = .ok (.athrow, 1) := by decide +kernel
theorem dX9_lift_40 : decode cX9_lift 40 = .ok (.aload_n 0, 1) := by decide +kernel
theorem dX9_lift_41 : decode cX9_lift 41 = .ok (.getfield 54, 3) := by decide +kernel
theorem dX9_lift_44 : decode cX9_lift 44 = .ok (.iload_n 1, 1) := by decide +kernel
theorem dX9_lift_45 : decode cX9_lift 45 = .ok (.invokevirtual 178, 3) := by decide +kernel
theorem dX9_lift_48 : decode cX9_lift 48 = .ok (.ifCond .eq 13, 3) := by decide +kernel
theorem dX9_lift_51 : decode cX9_lift 51 = .ok (.new 91, 3) := by decide +kernel
theorem dX9_lift_54 : decode cX9_lift 54 = .ok (.dup, 1) := by decide +kernel
theorem dX9_lift_55 : decode cX9_lift 55 = .ok (.ldc 181, 2) := by decide +kernel
theorem dX9_lift_57 : decode cX9_lift 57 = .ok (.invokespecial 95, 3) := by decide +kernel
theorem dX9_lift_60 : decode cX9_lift 60 = .ok (.athrow, 1) := by decide +kernel
theorem dX9_lift_61 : decode cX9_lift 61 = .ok (.aload_n 0, 1) := by decide +kernel
theorem dX9_lift_62 : decode cX9_lift 62 = .ok (.getfield 54, 3) := by decide +kernel
theorem dX9_lift_65 : decode cX9_lift 65 = .ok (.iload_n 1, 1) := by decide +kernel
theorem dX9_lift_66 : decode cX9_lift 66 = .ok (.iload_n 2, 1) := by decide +kernel
theorem dX9_lift_67 : decode cX9_lift 67 = .ok (.invokevirtual 183, 3) := by decide +kernel
theorem dX9_lift_70 : decode cX9_lift 70 = .ok (.return_, 1) := by decide +kernel
set_option maxRecDepth 20000 in
theorem ggX9_use_X8_has : GoodIn wsX9_use wsX8_has := goodIn_r _ [15, 16, 163, 164] (by decide +kernel) (by decide +kernel)
set_option maxRecDepth 20000 in
theorem gX9_use_X8_has : GoodIn wsX9_use (wsV RX9 76 RX8 yX8_has wsX8_has) := goodIn_app (goodIn_of _ (by decide +kernel)) ggX9_use_X8_has
set_option maxRecDepth 20000 in
theorem ggX9_use_X9_isMinute : GoodIn wsX9_use wsX9_isMinute := goodIn_r _ [20, 21] (by decide +kernel) (by decide +kernel)
set_option maxRecDepth 20000 in
theorem gX9_use_X9_isMinute : GoodIn wsX9_use (va_wsS RX9 107 yX9_isMinute wsX9_isMinute) := goodIn_app (goodIn_of _ (by decide +kernel)) ggX9_use_X9_isMinute
set_option maxRecDepth 20000 in
theorem ggX9_use_X5_lives : GoodIn wsX9_use wsX5_lives := goodIn_r _ [26, 27, 28, 29, 30, 25, 31, 32, 165, 166, 167, 168, 169, 170, 171, 172, 173, 174, 175] (by decide +kernel) (by decide +kernel)
set_option maxRecDepth 20000 in
theorem gX9_use_X5_lives : GoodIn wsX9_use (wsV RX9 148 RX5 yX5_lives wsX5_lives) := goodIn_app (goodIn_of _ (by decide +kernel)) ggX9_use_X5_lives
set_option maxRecDepth 20000 in
theorem ggX9_use_X9_groundOf : GoodIn wsX9_use wsX9_groundOf := goodIn_r _ [36, 8, 37, 38, 7, 39, 40, 41, 42, 43, 25, 44, 45, 46, 23, 24, 26, 27, 28, 29, 30, 31, 32, 47, 48, 49, 50, 51, 52, 53, 19, 54, 55, 56, 57, 58, 59, 60, 61, 62, 63, 64, 65, 66, 67, 68, 69, 70, 71, 72, 73, 74, 75, 76, 77, 78, 79, 80, 81, 82, 83, 84, 85, 86, 87, 88, 89, 90, 91, 92, 14, 93, 94, 95, 12, 13, 15, 16, 96, 97, 98, 99, 100, 101, 102, 103, 104, 105, 106, 107, 108, 109, 110, 111, 112, 113, 114, 115, 116, 117, 118, 119, 120, 121, 122, 123, 124, 125, 126, 127, 128, 129, 130, 131, 132, 133, 134, 135, 136, 137, 153, 154, 155, 156, 157, 158, 159, 160, 161, 162, 165, 166, 167, 168, 169, 170, 171, 172, 173, 174, 175, 176, 177, 178, 179, 180, 181, 182, 183, 184, 185, 163, 164, 186, 187, 188, 189, 190, 191, 192, 193, 194] (by decide +kernel) (by decide +kernel)
set_option maxRecDepth 20000 in
theorem gX9_use_X9_groundOf : GoodIn wsX9_use (wsV RX9 191 RX9 yX9_groundOf wsX9_groundOf) := goodIn_app (goodIn_of _ (by decide +kernel)) ggX9_use_X9_groundOf
set_option maxRecDepth 20000 in
theorem ggX9_use_X7_add : GoodIn wsX9_use wsX7_add := goodIn_r _ [142, 143, 144, 145, 146, 147, 195, 196, 197, 198, 199] (by decide +kernel) (by decide +kernel)
set_option maxRecDepth 20000 in
theorem gX9_use_X7_add : GoodIn wsX9_use (wsV RX9 194 RX7 yX7_add wsX7_add) := goodIn_app (goodIn_of _ (by decide +kernel)) ggX9_use_X7_add
set_option maxRecDepth 20000 in
theorem ggX9_use_X5_valueOf : GoodIn wsX9_use wsX5_valueOf := goodIn_r _ [151, 152, 46, 23, 24, 25, 26, 27, 28, 29, 30, 31, 32, 165, 166, 167, 168, 169, 170, 171, 172, 173, 174, 175] (by decide +kernel) (by decide +kernel)
set_option maxRecDepth 20000 in
theorem gX9_use_X5_valueOf : GoodIn wsX9_use (wsV RX9 199 RX5 yX5_valueOf wsX5_valueOf) := goodIn_app (goodIn_of _ (by decide +kernel)) ggX9_use_X5_valueOf
theorem dX9_use_0 : decode cX9_use 0 = .ok (.aload_n 0, 1) := by decide +kernel
theorem dX9_use_1 : decode cX9_use 1 = .ok (.getfield 10, 3) := by decide +kernel
theorem dX9_use_4 : decode cX9_use 4 = .ok (.iload_n 2, 1) := by decide +kernel
theorem dX9_use_5 : decode cX9_use 5 = .ok (.invokevirtual 76, 3) := by decide +kernel
theorem dX9_use_8 : decode cX9_use 8 = .ok (.ifCond .eq 10, 3) := by decide +kernel
theorem dX9_use_11 : decode cX9_use 11 = .ok (.iload_n 3, 1) := by decide +kernel
theorem dX9_use_12 : decode cX9_use 12 = .ok (.invokestatic 107, 3) := by decide +kernel
theorem dX9_use_15 : decode cX9_use 15 = .ok (.ifCond .ne 13, 3) := by decide +kernel
theorem dX9_use_18 : decode cX9_use 18 = .ok (.new 80, 3) := by decide +kernel
theorem dX9_use_21 : decode cX9_use 21 = .ok (.dup, 1) := by decide +kernel
theorem dX9_use_22 : decode cX9_use 22 = .ok (.ldc 187, 2) := by decide +kernel
theorem dX9_use_24 : decode cX9_use 24 = .ok (.invokespecial 84, 3) := by decide +kernel
theorem dX9_use_27 : decode cX9_use 27 = .ok (.athrow, 1) := by decide +kernel
theorem dX9_use_28 : decode cX9_use 28 = .ok (.aload_n 0, 1) := by decide +kernel
theorem dX9_use_29 : decode cX9_use 29 = .ok (.getfield 61, 3) := by decide +kernel
theorem dX9_use_32 : decode cX9_use 32 = .ok (.iload_n 1, 1) := by decide +kernel
theorem dX9_use_33 : decode cX9_use 33 = .ok (.invokevirtual 148, 3) := by decide +kernel
theorem dX9_use_36 : decode cX9_use 36 = .ok (.ifCond .ne 13, 3) := by decide +kernel
theorem dX9_use_39 : decode cX9_use 39 = .ok (.new 151, 3) := by decide +kernel
theorem dX9_use_42 : decode cX9_use 42 = .ok (.dup, 1) := by decide +kernel
theorem dX9_use_43 : decode cX9_use 43 = .ok (.ldc 189, 2) := by decide +kernel
theorem dX9_use_45 : decode cX9_use 45 = .ok (.invokespecial 155, 3) := by decide +kernel
theorem dX9_use_48 : decode cX9_use 48 = .ok (.athrow, 1) := by decide +kernel
theorem dX9_use_49 : decode cX9_use 49 = .ok (.aload_n 0, 1) := by decide +kernel
theorem dX9_use_50 : decode cX9_use 50 = .ok (.aload_n 0, 1) := by decide +kernel
theorem dX9_use_51 : decode cX9_use 51 = .ok (.iload_n 1, 1) := by decide +kernel
theorem dX9_use_52 : decode cX9_use 52 = .ok (.iload_n 2, 1) := by decide +kernel
theorem dX9_use_53 : decode cX9_use 53 = .ok (.iload_n 3, 1) := by decide +kernel
theorem dX9_use_54 : decode cX9_use 54 = .ok (.invokevirtual 191, 3) := by decide +kernel
theorem dX9_use_57 : decode cX9_use 57 = .ok (.putfield 72, 3) := by decide +kernel
theorem dX9_use_60 : decode cX9_use 60 = .ok (.aload_n 0, 1) := by decide +kernel
theorem dX9_use_61 : decode cX9_use 61 = .ok (.getfield 68, 3) := by decide +kernel
theorem dX9_use_64 : decode cX9_use 64 = .ok (.iload_n 1, 1) := by decide +kernel
theorem dX9_use_65 : decode cX9_use 65 = .ok (.iload_n 2, 1) := by decide +kernel
theorem dX9_use_66 : decode cX9_use 66 = .ok (.iload_n 3, 1) := by decide +kernel
theorem dX9_use_67 : decode cX9_use 67 = .ok (.aload_n 0, 1) := by decide +kernel
theorem dX9_use_68 : decode cX9_use 68 = .ok (.getfield 72, 3) := by decide +kernel
theorem dX9_use_71 : decode cX9_use 71 = .ok (.invokevirtual 194, 3) := by decide +kernel
theorem dX9_use_74 : decode cX9_use 74 = .ok (.aload_n 0, 1) := by decide +kernel
theorem dX9_use_75 : decode cX9_use 75 = .ok (.getfield 72, 3) := by decide +kernel
theorem dX9_use_78 : decode cX9_use 78 = .ok (.ifCond .ne 13, 3) := by decide +kernel
theorem dX9_use_81 : decode cX9_use 81 = .ok (.new 91, 3) := by decide +kernel
theorem dX9_use_84 : decode cX9_use 84 = .ok (.dup, 1) := by decide +kernel
theorem dX9_use_85 : decode cX9_use 85 = .ok (.ldc 197, 2) := by decide +kernel
theorem dX9_use_87 : decode cX9_use 87 = .ok (.invokespecial 95, 3) := by decide +kernel
theorem dX9_use_90 : decode cX9_use 90 = .ok (.athrow, 1) := by decide +kernel
theorem dX9_use_91 : decode cX9_use 91 = .ok (.aload_n 0, 1) := by decide +kernel
theorem dX9_use_92 : decode cX9_use 92 = .ok (.getfield 61, 3) := by decide +kernel
theorem dX9_use_95 : decode cX9_use 95 = .ok (.iload_n 1, 1) := by decide +kernel
theorem dX9_use_96 : decode cX9_use 96 = .ok (.invokevirtual 199, 3) := by decide +kernel
theorem dX9_use_99 : decode cX9_use 99 = .ok (.lreturn, 1) := by decide +kernel
theorem dX9_why_0 : decode cX9_why 0 = .ok (.aload_n 0, 1) := by decide +kernel
theorem dX9_why_1 : decode cX9_why 1 = .ok (.getfield 72, 3) := by decide +kernel
theorem dX9_why_4 : decode cX9_why 4 = .ok (.ireturn, 1) := by decide +kernel
set_option maxRecDepth 20000 in
theorem ggX9_erase_X9_isPerson : GoodIn wsX9_erase wsX9_isPerson := goodIn_r _ [7] (by decide +kernel) (by decide +kernel)
set_option maxRecDepth 20000 in
theorem gX9_erase_X9_isPerson : GoodIn wsX9_erase (va_wsS RX9 104 yX9_isPerson wsX9_isPerson) := goodIn_app (goodIn_of _ (by decide +kernel)) ggX9_erase_X9_isPerson
set_option maxRecDepth 20000 in
theorem ggX9_erase_X9_isMinute : GoodIn wsX9_erase wsX9_isMinute := goodIn_r _ [10, 11] (by decide +kernel) (by decide +kernel)
set_option maxRecDepth 20000 in
theorem gX9_erase_X9_isMinute : GoodIn wsX9_erase (va_wsS RX9 107 yX9_isMinute wsX9_isMinute) := goodIn_app (goodIn_of _ (by decide +kernel)) ggX9_erase_X9_isMinute
set_option maxRecDepth 20000 in
theorem ggX9_erase_X5_living : GoodIn wsX9_erase wsX5_living := goodIn_r _ [16, 17, 160, 161, 162, 163, 164, 165, 166, 167, 168, 169, 170] (by decide +kernel) (by decide +kernel)
set_option maxRecDepth 20000 in
theorem gX9_erase_X5_living : GoodIn wsX9_erase (wsV RX9 205 RX5 yX5_living wsX5_living) := goodIn_app (goodIn_of _ (by decide +kernel)) ggX9_erase_X5_living
set_option maxRecDepth 20000 in
theorem ggX9_erase_X9_dayOfMinute : GoodIn wsX9_erase wsX9_dayOfMinute := goodIn_r _ [20] (by decide +kernel) (by decide +kernel)
set_option maxRecDepth 20000 in
theorem gX9_erase_X9_dayOfMinute : GoodIn wsX9_erase (va_wsS RX9 209 yX9_dayOfMinute wsX9_dayOfMinute) := goodIn_app (goodIn_of _ (by decide +kernel)) ggX9_erase_X9_dayOfMinute
set_option maxRecDepth 20000 in
theorem ggX9_erase_X9_markKept : GoodIn wsX9_erase wsX9_markKept := goodIn_r _ [24, 3, 25, 26, 27, 15, 28, 29, 30, 31, 32, 33, 34, 35, 36, 37, 38, 39, 40, 41, 42, 43, 44, 45, 46, 47, 48, 49, 50, 6, 51, 52, 53, 54, 55, 56, 57, 58, 59, 60, 61, 62, 63, 64, 65, 66, 67, 68, 69, 70, 71, 72, 73, 74, 75, 76, 77, 78, 79, 80, 81, 82, 83, 84, 85, 5, 7, 86, 87, 88, 89, 90, 91, 92, 93, 94, 95, 96, 97, 98, 99, 100, 101, 102, 103, 104, 105, 106, 107, 108, 109, 110, 111, 112, 113, 114, 115, 150, 151, 152, 153, 154, 155, 156, 157, 158, 159, 160, 161, 162, 163, 164, 165, 166, 167, 168, 169, 170, 171, 172, 173, 174, 175, 176, 177, 178, 179] (by decide +kernel) (by decide +kernel)
set_option maxRecDepth 20000 in
theorem gX9_erase_X9_markKept : GoodIn wsX9_erase (wsV RX9 212 RX9 yX9_markKept wsX9_markKept) := goodIn_app (goodIn_of _ (by decide +kernel)) ggX9_erase_X9_markKept
set_option maxRecDepth 20000 in
theorem ggX9_erase_X5_total : GoodIn wsX9_erase wsX5_total := goodIn_r _ [34, 29, 160, 161, 162, 163, 164, 165, 166, 167, 168, 169, 170] (by decide +kernel) (by decide +kernel)
set_option maxRecDepth 20000 in
theorem gX9_erase_X5_total : GoodIn wsX9_erase (wsV RX9 216 RX5 yX5_total wsX5_total) := goodIn_app (goodIn_of _ (by decide +kernel)) ggX9_erase_X5_total
set_option maxRecDepth 20000 in
theorem ggX9_erase_X5_isPut : GoodIn wsX9_erase wsX5_isPut := goodIn_r _ [119, 109, 40, 41, 42, 15, 43, 29, 160, 161, 162, 163, 164, 165, 166, 167, 168, 169, 170] (by decide +kernel) (by decide +kernel)
set_option maxRecDepth 20000 in
theorem gX9_erase_X5_isPut : GoodIn wsX9_erase (wsV RX9 219 RX5 yX5_isPut wsX5_isPut) := goodIn_app (goodIn_of _ (by decide +kernel)) ggX9_erase_X5_isPut
set_option maxRecDepth 20000 in
theorem ggX9_erase_X5_isAbout : GoodIn wsX9_erase wsX5_isAbout := goodIn_r _ [123, 64, 40, 41, 42, 15, 43, 29, 86, 6, 87, 160, 161, 162, 163, 164, 165, 166, 167, 168, 169, 170] (by decide +kernel) (by decide +kernel)
set_option maxRecDepth 20000 in
theorem gX9_erase_X5_isAbout : GoodIn wsX9_erase (wsV RX9 222 RX5 yX5_isAbout wsX5_isAbout) := goodIn_app (goodIn_of _ (by decide +kernel)) ggX9_erase_X5_isAbout
set_option maxRecDepth 20000 in
theorem ggX9_erase_X5_endUnlessKept : GoodIn wsX9_erase wsX5_endUnlessKept := goodIn_r _ [127, 128, 45, 46, 15, 47, 30, 40, 41, 42, 43, 29, 129, 130, 131, 132, 39, 133, 17, 59, 36, 37, 38, 160, 161, 162, 163, 164, 165, 166, 167, 168, 169, 170] (by decide +kernel) (by decide +kernel)
set_option maxRecDepth 20000 in
theorem gX9_erase_X5_endUnlessKept : GoodIn wsX9_erase (wsV RX9 226 RX5 yX5_endUnlessKept wsX5_endUnlessKept) := goodIn_app (goodIn_of _ (by decide +kernel)) ggX9_erase_X5_endUnlessKept
set_option maxRecDepth 20000 in
theorem ggX9_erase_X5_followInputs : GoodIn wsX9_erase wsX5_followInputs := goodIn_r _ [137, 29, 39, 109, 133, 138, 139, 140, 15, 141, 110, 111, 59, 36, 37, 38, 40, 41, 42, 43, 129, 130, 131, 132, 17, 142, 143, 144, 145, 146, 147, 148, 149, 160, 161, 162, 163, 164, 165, 166, 167, 168, 169, 170] (by decide +kernel) (by decide +kernel)
set_option maxRecDepth 20000 in
theorem gX9_erase_X5_followInputs : GoodIn wsX9_erase (wsV RX9 229 RX5 yX5_followInputs wsX5_followInputs) := goodIn_app (goodIn_of _ (by decide +kernel)) ggX9_erase_X5_followInputs
theorem dX9_erase_0 : decode cX9_erase 0 = .ok (.iload_n 1, 1) := by decide +kernel
theorem dX9_erase_1 : decode cX9_erase 1 = .ok (.invokestatic 104, 3) := by decide +kernel
theorem dX9_erase_4 : decode cX9_erase 4 = .ok (.ifCond .eq 10, 3) := by decide +kernel
theorem dX9_erase_7 : decode cX9_erase 7 = .ok (.iload_n 2, 1) := by decide +kernel
theorem dX9_erase_8 : decode cX9_erase 8 = .ok (.invokestatic 107, 3) := by decide +kernel
theorem dX9_erase_11 : decode cX9_erase 11 = .ok (.ifCond .ne 13, 3) := by decide +kernel
theorem dX9_erase_14 : decode cX9_erase 14 = .ok (.new 80, 3) := by decide +kernel
theorem dX9_erase_17 : decode cX9_erase 17 = .ok (.dup, 1) := by decide +kernel
theorem dX9_erase_18 : decode cX9_erase 18 = .ok (.ldc 203, 2) := by decide +kernel
theorem dX9_erase_20 : decode cX9_erase 20 = .ok (.invokespecial 84, 3) := by decide +kernel
theorem dX9_erase_23 : decode cX9_erase 23 = .ok (.athrow, 1) := by decide +kernel
theorem dX9_erase_24 : decode cX9_erase 24 = .ok (.aload_n 0, 1) := by decide +kernel
theorem dX9_erase_25 : decode cX9_erase 25 = .ok (.getfield 61, 3) := by decide +kernel
theorem dX9_erase_28 : decode cX9_erase 28 = .ok (.invokevirtual 205, 3) := by decide +kernel
theorem dX9_erase_31 : decode cX9_erase 31 = .ok (.istore_n 3, 1) := by decide +kernel
theorem dX9_erase_32 : decode cX9_erase 32 = .ok (.aload_n 0, 1) := by decide +kernel
theorem dX9_erase_33 : decode cX9_erase 33 = .ok (.iload_n 2, 1) := by decide +kernel
theorem dX9_erase_34 : decode cX9_erase 34 = .ok (.invokestatic 209, 3) := by decide +kernel
theorem dX9_erase_37 : decode cX9_erase 37 = .ok (.invokevirtual 212, 3) := by decide +kernel
theorem dX9_erase_40 : decode cX9_erase 40 = .ok (.iconst 0, 1) := by decide +kernel
theorem dX9_erase_41 : decode cX9_erase 41 = .ok (.istore 4, 2) := by decide +kernel
theorem dX9_erase_43 : decode cX9_erase 43 = .ok (.iload 4, 2) := by decide +kernel
theorem dX9_erase_45 : decode cX9_erase 45 = .ok (.aload_n 0, 1) := by decide +kernel
theorem dX9_erase_46 : decode cX9_erase 46 = .ok (.getfield 61, 3) := by decide +kernel
theorem dX9_erase_49 : decode cX9_erase 49 = .ok (.invokevirtual 216, 3) := by decide +kernel
theorem dX9_erase_52 : decode cX9_erase 52 = .ok (.if_icmp .ge 43, 3) := by decide +kernel
theorem dX9_erase_55 : decode cX9_erase 55 = .ok (.aload_n 0, 1) := by decide +kernel
theorem dX9_erase_56 : decode cX9_erase 56 = .ok (.getfield 61, 3) := by decide +kernel
theorem dX9_erase_59 : decode cX9_erase 59 = .ok (.iload 4, 2) := by decide +kernel
theorem dX9_erase_61 : decode cX9_erase 61 = .ok (.invokevirtual 219, 3) := by decide +kernel
theorem dX9_erase_64 : decode cX9_erase 64 = .ok (.ifCond .eq 25, 3) := by decide +kernel
theorem dX9_erase_67 : decode cX9_erase 67 = .ok (.aload_n 0, 1) := by decide +kernel
theorem dX9_erase_68 : decode cX9_erase 68 = .ok (.getfield 61, 3) := by decide +kernel
theorem dX9_erase_71 : decode cX9_erase 71 = .ok (.iload 4, 2) := by decide +kernel
theorem dX9_erase_73 : decode cX9_erase 73 = .ok (.iload_n 1, 1) := by decide +kernel
theorem dX9_erase_74 : decode cX9_erase 74 = .ok (.invokevirtual 222, 3) := by decide +kernel
theorem dX9_erase_77 : decode cX9_erase 77 = .ok (.ifCond .eq 12, 3) := by decide +kernel
theorem dX9_erase_80 : decode cX9_erase 80 = .ok (.aload_n 0, 1) := by decide +kernel
theorem dX9_erase_81 : decode cX9_erase 81 = .ok (.getfield 61, 3) := by decide +kernel
theorem dX9_erase_84 : decode cX9_erase 84 = .ok (.iload 4, 2) := by decide +kernel
theorem dX9_erase_86 : decode cX9_erase 86 = .ok (.invokevirtual 226, 3) := by decide +kernel
theorem dX9_erase_89 : decode cX9_erase 89 = .ok (.iinc 4 1, 3) := by decide +kernel
theorem dX9_erase_92 : decode cX9_erase 92 = .ok (.goto (-49), 3) := by decide +kernel
theorem dX9_erase_95 : decode cX9_erase 95 = .ok (.aload_n 0, 1) := by decide +kernel
theorem dX9_erase_96 : decode cX9_erase 96 = .ok (.getfield 61, 3) := by decide +kernel
theorem dX9_erase_99 : decode cX9_erase 99 = .ok (.invokevirtual 229, 3) := by decide +kernel
theorem dX9_erase_102 : decode cX9_erase 102 = .ok (.iload_n 3, 1) := by decide +kernel
theorem dX9_erase_103 : decode cX9_erase 103 = .ok (.aload_n 0, 1) := by decide +kernel
theorem dX9_erase_104 : decode cX9_erase 104 = .ok (.getfield 61, 3) := by decide +kernel
theorem dX9_erase_107 : decode cX9_erase 107 = .ok (.invokevirtual 205, 3) := by decide +kernel
theorem dX9_erase_110 : decode cX9_erase 110 = .ok (.isub, 1) := by decide +kernel
theorem dX9_erase_111 : decode cX9_erase 111 = .ok (.ireturn, 1) := by decide +kernel
set_option maxRecDepth 20000 in
theorem ggX9_sweep_X9_isDay : GoodIn wsX9_sweep wsX9_isDay := goodIn_r _ [7] (by decide +kernel) (by decide +kernel)
set_option maxRecDepth 20000 in
theorem gX9_sweep_X9_isDay : GoodIn wsX9_sweep (va_wsS RX9 134 yX9_isDay wsX9_isDay) := goodIn_app (goodIn_of _ (by decide +kernel)) ggX9_sweep_X9_isDay
set_option maxRecDepth 20000 in
theorem ggX9_sweep_X5_living : GoodIn wsX9_sweep wsX5_living := goodIn_r _ [12, 13, 181, 182, 183, 184, 185, 186, 187, 188, 189, 190, 191] (by decide +kernel) (by decide +kernel)
set_option maxRecDepth 20000 in
theorem gX9_sweep_X5_living : GoodIn wsX9_sweep (wsV RX9 205 RX5 yX5_living wsX5_living) := goodIn_app (goodIn_of _ (by decide +kernel)) ggX9_sweep_X5_living
set_option maxRecDepth 20000 in
theorem ggX9_sweep_X9_markKept : GoodIn wsX9_sweep wsX9_markKept := goodIn_r _ [17, 3, 18, 19, 20, 11, 21, 22, 23, 24, 25, 26, 27, 28, 29, 30, 31, 32, 33, 34, 35, 36, 37, 38, 39, 40, 41, 42, 43, 6, 44, 45, 46, 47, 48, 49, 50, 51, 52, 53, 54, 55, 56, 57, 58, 59, 60, 61, 62, 63, 64, 65, 66, 67, 68, 69, 70, 71, 72, 73, 74, 75, 76, 77, 78, 79, 80, 81, 82, 83, 84, 85, 86, 87, 88, 89, 90, 91, 92, 93, 94, 95, 96, 97, 98, 99, 100, 101, 102, 103, 104, 105, 106, 107, 108, 109, 110, 171, 172, 173, 174, 175, 176, 177, 178, 179, 180, 181, 182, 183, 184, 185, 186, 187, 188, 189, 190, 191, 192, 193, 194, 195, 196, 197, 198, 199, 200] (by decide +kernel) (by decide +kernel)
set_option maxRecDepth 20000 in
theorem gX9_sweep_X9_markKept : GoodIn wsX9_sweep (wsV RX9 212 RX9 yX9_markKept wsX9_markKept) := goodIn_app (goodIn_of _ (by decide +kernel)) ggX9_sweep_X9_markKept
set_option maxRecDepth 20000 in
theorem ggX9_sweep_X5_total : GoodIn wsX9_sweep wsX5_total := goodIn_r _ [27, 22, 181, 182, 183, 184, 185, 186, 187, 188, 189, 190, 191] (by decide +kernel) (by decide +kernel)
set_option maxRecDepth 20000 in
theorem gX9_sweep_X5_total : GoodIn wsX9_sweep (wsV RX9 216 RX5 yX5_total wsX5_total) := goodIn_app (goodIn_of _ (by decide +kernel)) ggX9_sweep_X5_total
set_option maxRecDepth 20000 in
theorem ggX9_sweep_X9_firstDueDay : GoodIn wsX9_sweep wsX9_firstDueDay := goodIn_r _ [114, 3, 115, 116, 28, 29, 30, 11, 31, 32, 33, 34, 35, 36, 22, 117, 118, 119, 120, 104, 47, 48, 49, 50, 51, 52, 53, 54, 55, 56, 57, 121, 122, 123, 124, 125, 126, 127, 128, 129, 130, 131, 132, 133, 81, 6, 82, 83, 84, 85, 86, 87, 134, 135, 136, 137, 138, 139, 140, 141, 142, 143, 144, 171, 172, 173, 174, 175, 176, 177, 178, 179, 180, 181, 182, 183, 184, 185, 186, 187, 188, 189, 190, 191, 201, 202, 203, 204, 205, 206] (by decide +kernel) (by decide +kernel)
set_option maxRecDepth 20000 in
theorem gX9_sweep_X9_firstDueDay : GoodIn wsX9_sweep (wsV RX9 234 RX9 yX9_firstDueDay wsX9_firstDueDay) := goodIn_app (goodIn_of _ (by decide +kernel)) ggX9_sweep_X9_firstDueDay
set_option maxRecDepth 20000 in
theorem ggX9_sweep_X5_endUnlessKept : GoodIn wsX9_sweep wsX5_endUnlessKept := goodIn_r _ [148, 149, 38, 39, 11, 40, 23, 33, 34, 35, 36, 22, 150, 151, 152, 153, 32, 154, 13, 52, 29, 30, 31, 181, 182, 183, 184, 185, 186, 187, 188, 189, 190, 191] (by decide +kernel) (by decide +kernel)
set_option maxRecDepth 20000 in
theorem gX9_sweep_X5_endUnlessKept : GoodIn wsX9_sweep (wsV RX9 226 RX5 yX5_endUnlessKept wsX5_endUnlessKept) := goodIn_app (goodIn_of _ (by decide +kernel)) ggX9_sweep_X5_endUnlessKept
set_option maxRecDepth 20000 in
theorem ggX9_sweep_X5_followInputs : GoodIn wsX9_sweep wsX5_followInputs := goodIn_r _ [158, 22, 32, 104, 154, 159, 160, 161, 11, 162, 105, 106, 52, 29, 30, 31, 33, 34, 35, 36, 150, 151, 152, 153, 13, 163, 164, 165, 166, 167, 168, 169, 170, 181, 182, 183, 184, 185, 186, 187, 188, 189, 190, 191] (by decide +kernel) (by decide +kernel)
set_option maxRecDepth 20000 in
theorem gX9_sweep_X5_followInputs : GoodIn wsX9_sweep (wsV RX9 229 RX5 yX5_followInputs wsX5_followInputs) := goodIn_app (goodIn_of _ (by decide +kernel)) ggX9_sweep_X5_followInputs
theorem dX9_sweep_0 : decode cX9_sweep 0 = .ok (.iload_n 1, 1) := by decide +kernel
theorem dX9_sweep_1 : decode cX9_sweep 1 = .ok (.invokestatic 134, 3) := by decide +kernel
theorem dX9_sweep_4 : decode cX9_sweep 4 = .ok (.ifCond .ne 13, 3) := by decide +kernel
theorem dX9_sweep_7 : decode cX9_sweep 7 = .ok (.new 80, 3) := by decide +kernel
theorem dX9_sweep_10 : decode cX9_sweep 10 = .ok (.dup, 1) := by decide +kernel
theorem dX9_sweep_11 : decode cX9_sweep 11 = .ok (.ldc 232, 2) := by decide +kernel
theorem dX9_sweep_13 : decode cX9_sweep 13 = .ok (.invokespecial 84, 3) := by decide +kernel
theorem dX9_sweep_16 : decode cX9_sweep 16 = .ok (.athrow, 1) := by decide +kernel
theorem dX9_sweep_17 : decode cX9_sweep 17 = .ok (.aload_n 0, 1) := by decide +kernel
theorem dX9_sweep_18 : decode cX9_sweep 18 = .ok (.getfield 61, 3) := by decide +kernel
theorem dX9_sweep_21 : decode cX9_sweep 21 = .ok (.invokevirtual 205, 3) := by decide +kernel
theorem dX9_sweep_24 : decode cX9_sweep 24 = .ok (.istore_n 2, 1) := by decide +kernel
theorem dX9_sweep_25 : decode cX9_sweep 25 = .ok (.aload_n 0, 1) := by decide +kernel
theorem dX9_sweep_26 : decode cX9_sweep 26 = .ok (.iload_n 1, 1) := by decide +kernel
theorem dX9_sweep_27 : decode cX9_sweep 27 = .ok (.invokevirtual 212, 3) := by decide +kernel
theorem dX9_sweep_30 : decode cX9_sweep 30 = .ok (.iconst 0, 1) := by decide +kernel
theorem dX9_sweep_31 : decode cX9_sweep 31 = .ok (.istore_n 3, 1) := by decide +kernel
theorem dX9_sweep_32 : decode cX9_sweep 32 = .ok (.iload_n 3, 1) := by decide +kernel
theorem dX9_sweep_33 : decode cX9_sweep 33 = .ok (.aload_n 0, 1) := by decide +kernel
theorem dX9_sweep_34 : decode cX9_sweep 34 = .ok (.getfield 61, 3) := by decide +kernel
theorem dX9_sweep_37 : decode cX9_sweep 37 = .ok (.invokevirtual 216, 3) := by decide +kernel
theorem dX9_sweep_40 : decode cX9_sweep 40 = .ok (.if_icmp .ge 36, 3) := by decide +kernel
theorem dX9_sweep_43 : decode cX9_sweep 43 = .ok (.aload_n 0, 1) := by decide +kernel
theorem dX9_sweep_44 : decode cX9_sweep 44 = .ok (.iload_n 3, 1) := by decide +kernel
theorem dX9_sweep_45 : decode cX9_sweep 45 = .ok (.invokevirtual 234, 3) := by decide +kernel
theorem dX9_sweep_48 : decode cX9_sweep 48 = .ok (.istore 4, 2) := by decide +kernel
theorem dX9_sweep_50 : decode cX9_sweep 50 = .ok (.iload 4, 2) := by decide +kernel
theorem dX9_sweep_52 : decode cX9_sweep 52 = .ok (.iconst (-1), 1) := by decide +kernel
theorem dX9_sweep_53 : decode cX9_sweep 53 = .ok (.if_icmp .eq 17, 3) := by decide +kernel
theorem dX9_sweep_56 : decode cX9_sweep 56 = .ok (.iload 4, 2) := by decide +kernel
theorem dX9_sweep_58 : decode cX9_sweep 58 = .ok (.iload_n 1, 1) := by decide +kernel
theorem dX9_sweep_59 : decode cX9_sweep 59 = .ok (.if_icmp .gt 11, 3) := by decide +kernel
theorem dX9_sweep_62 : decode cX9_sweep 62 = .ok (.aload_n 0, 1) := by decide +kernel
theorem dX9_sweep_63 : decode cX9_sweep 63 = .ok (.getfield 61, 3) := by decide +kernel
theorem dX9_sweep_66 : decode cX9_sweep 66 = .ok (.iload_n 3, 1) := by decide +kernel
theorem dX9_sweep_67 : decode cX9_sweep 67 = .ok (.invokevirtual 226, 3) := by decide +kernel
theorem dX9_sweep_70 : decode cX9_sweep 70 = .ok (.iinc 3 1, 3) := by decide +kernel
theorem dX9_sweep_73 : decode cX9_sweep 73 = .ok (.goto (-41), 3) := by decide +kernel
theorem dX9_sweep_76 : decode cX9_sweep 76 = .ok (.aload_n 0, 1) := by decide +kernel
theorem dX9_sweep_77 : decode cX9_sweep 77 = .ok (.getfield 61, 3) := by decide +kernel
theorem dX9_sweep_80 : decode cX9_sweep 80 = .ok (.invokevirtual 229, 3) := by decide +kernel
theorem dX9_sweep_83 : decode cX9_sweep 83 = .ok (.iload_n 2, 1) := by decide +kernel
theorem dX9_sweep_84 : decode cX9_sweep 84 = .ok (.aload_n 0, 1) := by decide +kernel
theorem dX9_sweep_85 : decode cX9_sweep 85 = .ok (.getfield 61, 3) := by decide +kernel
theorem dX9_sweep_88 : decode cX9_sweep 88 = .ok (.invokevirtual 205, 3) := by decide +kernel
theorem dX9_sweep_91 : decode cX9_sweep 91 = .ok (.isub, 1) := by decide +kernel
theorem dX9_sweep_92 : decode cX9_sweep 92 = .ok (.ireturn, 1) := by decide +kernel
set_option maxRecDepth 20000 in
theorem ggX9_held_X9_isPerson : GoodIn wsX9_held wsX9_isPerson := goodIn_r _ [5] (by decide +kernel) (by decide +kernel)
set_option maxRecDepth 20000 in
theorem gX9_held_X9_isPerson : GoodIn wsX9_held (va_wsS RX9 104 yX9_isPerson wsX9_isPerson) := goodIn_app (goodIn_of _ (by decide +kernel)) ggX9_held_X9_isPerson
set_option maxRecDepth 20000 in
theorem ggX9_held_X5_total : GoodIn wsX9_held wsX5_total := goodIn_r _ [10, 11, 38, 39, 40, 41, 42, 43, 44, 45, 46, 47, 48] (by decide +kernel) (by decide +kernel)
set_option maxRecDepth 20000 in
theorem gX9_held_X5_total : GoodIn wsX9_held (wsV RX9 216 RX5 yX5_total wsX5_total) := goodIn_app (goodIn_of _ (by decide +kernel)) ggX9_held_X5_total
set_option maxRecDepth 20000 in
theorem ggX9_held_X5_lives : GoodIn wsX9_held wsX5_lives := goodIn_r _ [15, 16, 17, 18, 19, 9, 20, 11, 38, 39, 40, 41, 42, 43, 44, 45, 46, 47, 48] (by decide +kernel) (by decide +kernel)
set_option maxRecDepth 20000 in
theorem gX9_held_X5_lives : GoodIn wsX9_held (wsV RX9 148 RX5 yX5_lives wsX5_lives) := goodIn_app (goodIn_of _ (by decide +kernel)) ggX9_held_X5_lives
set_option maxRecDepth 20000 in
theorem ggX9_held_X5_isAbout : GoodIn wsX9_held wsX5_isAbout := goodIn_r _ [24, 25, 17, 18, 19, 9, 20, 11, 26, 4, 27, 38, 39, 40, 41, 42, 43, 44, 45, 46, 47, 48] (by decide +kernel) (by decide +kernel)
set_option maxRecDepth 20000 in
theorem gX9_held_X5_isAbout : GoodIn wsX9_held (wsV RX9 222 RX5 yX5_isAbout wsX5_isAbout) := goodIn_app (goodIn_of _ (by decide +kernel)) ggX9_held_X5_isAbout
theorem dX9_held_0 : decode cX9_held 0 = .ok (.iload_n 1, 1) := by decide +kernel
theorem dX9_held_1 : decode cX9_held 1 = .ok (.invokestatic 104, 3) := by decide +kernel
theorem dX9_held_4 : decode cX9_held 4 = .ok (.ifCond .ne 5, 3) := by decide +kernel
theorem dX9_held_7 : decode cX9_held 7 = .ok (.iconst (-1), 1) := by decide +kernel
theorem dX9_held_8 : decode cX9_held 8 = .ok (.ireturn, 1) := by decide +kernel
theorem dX9_held_9 : decode cX9_held 9 = .ok (.iconst 0, 1) := by decide +kernel
theorem dX9_held_10 : decode cX9_held 10 = .ok (.istore_n 3, 1) := by decide +kernel
theorem dX9_held_11 : decode cX9_held 11 = .ok (.iconst 0, 1) := by decide +kernel
theorem dX9_held_12 : decode cX9_held 12 = .ok (.istore 4, 2) := by decide +kernel
theorem dX9_held_14 : decode cX9_held 14 = .ok (.iload 4, 2) := by decide +kernel
theorem dX9_held_16 : decode cX9_held 16 = .ok (.aload_n 0, 1) := by decide +kernel
theorem dX9_held_17 : decode cX9_held 17 = .ok (.getfield 61, 3) := by decide +kernel
theorem dX9_held_20 : decode cX9_held 20 = .ok (.invokevirtual 216, 3) := by decide +kernel
theorem dX9_held_23 : decode cX9_held 23 = .ok (.if_icmp .ge 45, 3) := by decide +kernel
theorem dX9_held_26 : decode cX9_held 26 = .ok (.aload_n 0, 1) := by decide +kernel
theorem dX9_held_27 : decode cX9_held 27 = .ok (.getfield 61, 3) := by decide +kernel
theorem dX9_held_30 : decode cX9_held 30 = .ok (.iload 4, 2) := by decide +kernel
theorem dX9_held_32 : decode cX9_held 32 = .ok (.invokevirtual 148, 3) := by decide +kernel
theorem dX9_held_35 : decode cX9_held 35 = .ok (.ifCond .eq 27, 3) := by decide +kernel
theorem dX9_held_38 : decode cX9_held 38 = .ok (.aload_n 0, 1) := by decide +kernel
theorem dX9_held_39 : decode cX9_held 39 = .ok (.getfield 61, 3) := by decide +kernel
theorem dX9_held_42 : decode cX9_held 42 = .ok (.iload 4, 2) := by decide +kernel
theorem dX9_held_44 : decode cX9_held 44 = .ok (.iload_n 1, 1) := by decide +kernel
theorem dX9_held_45 : decode cX9_held 45 = .ok (.invokevirtual 222, 3) := by decide +kernel
theorem dX9_held_48 : decode cX9_held 48 = .ok (.ifCond .eq 14, 3) := by decide +kernel
theorem dX9_held_51 : decode cX9_held 51 = .ok (.iload_n 3, 1) := by decide +kernel
theorem dX9_held_52 : decode cX9_held 52 = .ok (.iload_n 2, 1) := by decide +kernel
theorem dX9_held_53 : decode cX9_held 53 = .ok (.if_icmp .ne 6, 3) := by decide +kernel
theorem dX9_held_56 : decode cX9_held 56 = .ok (.iload 4, 2) := by decide +kernel
theorem dX9_held_58 : decode cX9_held 58 = .ok (.ireturn, 1) := by decide +kernel
theorem dX9_held_59 : decode cX9_held 59 = .ok (.iinc 3 1, 3) := by decide +kernel
theorem dX9_held_62 : decode cX9_held 62 = .ok (.iinc 4 1, 3) := by decide +kernel
theorem dX9_held_65 : decode cX9_held 65 = .ok (.goto (-51), 3) := by decide +kernel
theorem dX9_held_68 : decode cX9_held 68 = .ok (.iconst (-1), 1) := by decide +kernel
theorem dX9_held_69 : decode cX9_held 69 = .ok (.ireturn, 1) := by decide +kernel
set_option maxRecDepth 20000 in
theorem ggX9_logged_X7_read : GoodIn wsX9_logged wsX7_read := goodIn_r _ [6, 7, 8, 9, 10, 11, 22, 23, 24, 25, 26] (by decide +kernel) (by decide +kernel)
set_option maxRecDepth 20000 in
theorem gX9_logged_X7_read : GoodIn wsX9_logged (wsV RX9 237 RX7 yX7_read wsX7_read) := goodIn_app (goodIn_of _ (by decide +kernel)) ggX9_logged_X7_read
theorem dX9_logged_0 : decode cX9_logged 0 = .ok (.aload_n 0, 1) := by decide +kernel
theorem dX9_logged_1 : decode cX9_logged 1 = .ok (.getfield 68, 3) := by decide +kernel
theorem dX9_logged_4 : decode cX9_logged 4 = .ok (.iload_n 1, 1) := by decide +kernel
theorem dX9_logged_5 : decode cX9_logged 5 = .ok (.iload_n 2, 1) := by decide +kernel
theorem dX9_logged_6 : decode cX9_logged 6 = .ok (.invokevirtual 237, 3) := by decide +kernel
theorem dX9_logged_9 : decode cX9_logged 9 = .ok (.ireturn, 1) := by decide +kernel
set_option maxRecDepth 20000 in
theorem ggX9_peek_X5_valueOf : GoodIn wsX9_peek wsX5_valueOf := goodIn_r _ [6, 7, 8, 9, 10, 5, 11, 12, 13, 14, 15, 16, 17, 28, 29, 30, 31, 32, 33, 34, 35, 36, 37, 38] (by decide +kernel) (by decide +kernel)
set_option maxRecDepth 20000 in
theorem gX9_peek_X5_valueOf : GoodIn wsX9_peek (wsV RX9 199 RX5 yX5_valueOf wsX5_valueOf) := goodIn_app (goodIn_of _ (by decide +kernel)) ggX9_peek_X5_valueOf
theorem dX9_peek_0 : decode cX9_peek 0 = .ok (.aload_n 0, 1) := by decide +kernel
theorem dX9_peek_1 : decode cX9_peek 1 = .ok (.getfield 61, 3) := by decide +kernel
theorem dX9_peek_4 : decode cX9_peek 4 = .ok (.iload_n 1, 1) := by decide +kernel
theorem dX9_peek_5 : decode cX9_peek 5 = .ok (.invokevirtual 199, 3) := by decide +kernel
theorem dX9_peek_8 : decode cX9_peek 8 = .ok (.lreturn, 1) := by decide +kernel
set_option maxRecDepth 20000 in
theorem ggX9_look_X5_lives : GoodIn wsX9_look wsX5_lives := goodIn_r _ [6, 7, 8, 9, 10, 5, 11, 12, 83, 84, 85, 86, 87, 88, 89, 90, 91, 92, 93] (by decide +kernel) (by decide +kernel)
set_option maxRecDepth 20000 in
theorem gX9_look_X5_lives : GoodIn wsX9_look (wsV RX9 148 RX5 yX5_lives wsX5_lives) := goodIn_app (goodIn_of _ (by decide +kernel)) ggX9_look_X5_lives
set_option maxRecDepth 20000 in
theorem ggX9_look_X5_kindOf : GoodIn wsX9_look wsX5_kindOf := goodIn_r _ [16, 17, 18, 3, 4, 5, 6, 7, 8, 9, 10, 11, 12, 83, 84, 85, 86, 87, 88, 89, 90, 91, 92, 93] (by decide +kernel) (by decide +kernel)
set_option maxRecDepth 20000 in
theorem gX9_look_X5_kindOf : GoodIn wsX9_look (wsV RX9 241 RX5 yX5_kindOf wsX5_kindOf) := goodIn_app (goodIn_of _ (by decide +kernel)) ggX9_look_X5_kindOf
set_option maxRecDepth 20000 in
theorem ggX9_look_X5_dayOf : GoodIn wsX9_look wsX5_dayOf := goodIn_r _ [22, 23, 18, 3, 4, 5, 6, 7, 8, 9, 10, 11, 12, 83, 84, 85, 86, 87, 88, 89, 90, 91, 92, 93] (by decide +kernel) (by decide +kernel)
set_option maxRecDepth 20000 in
theorem gX9_look_X5_dayOf : GoodIn wsX9_look (wsV RX9 244 RX5 yX5_dayOf wsX5_dayOf) := goodIn_app (goodIn_of _ (by decide +kernel)) ggX9_look_X5_dayOf
set_option maxRecDepth 20000 in
theorem ggX9_look_X5_personsOf : GoodIn wsX9_look wsX5_personsOf := goodIn_r _ [27, 28, 18, 3, 4, 5, 6, 7, 8, 9, 10, 11, 12, 83, 84, 85, 86, 87, 88, 89, 90, 91, 92, 93] (by decide +kernel) (by decide +kernel)
set_option maxRecDepth 20000 in
theorem gX9_look_X5_personsOf : GoodIn wsX9_look (wsV RX9 247 RX5 yX5_personsOf wsX5_personsOf) := goodIn_app (goodIn_of _ (by decide +kernel)) ggX9_look_X5_personsOf
set_option maxRecDepth 20000 in
theorem ggX9_look_X9_firstDueDay : GoodIn wsX9_look wsX9_firstDueDay := goodIn_r _ [33, 1, 34, 35, 2, 3, 4, 5, 6, 7, 8, 9, 10, 11, 12, 36, 37, 38, 39, 40, 13, 14, 15, 16, 17, 18, 24, 25, 26, 27, 28, 41, 42, 43, 44, 45, 46, 47, 48, 49, 50, 51, 52, 53, 54, 32, 55, 19, 20, 21, 22, 23, 56, 57, 58, 59, 60, 61, 62, 63, 64, 65, 66, 73, 74, 75, 76, 77, 78, 79, 80, 81, 82, 83, 84, 85, 86, 87, 88, 89, 90, 91, 92, 93, 94, 95, 96, 97, 98, 99] (by decide +kernel) (by decide +kernel)
set_option maxRecDepth 20000 in
theorem gX9_look_X9_firstDueDay : GoodIn wsX9_look (wsV RX9 234 RX9 yX9_firstDueDay wsX9_firstDueDay) := goodIn_app (goodIn_of _ (by decide +kernel)) ggX9_look_X9_firstDueDay
set_option maxRecDepth 20000 in
theorem ggX9_look_X5_derivedFrom : GoodIn wsX9_look wsX5_derivedFrom := goodIn_r _ [70, 12, 7, 40, 71, 72, 83, 84, 85, 86, 87, 88, 89, 90, 91, 92, 93] (by decide +kernel) (by decide +kernel)
set_option maxRecDepth 20000 in
theorem gX9_look_X5_derivedFrom : GoodIn wsX9_look (wsV RX9 250 RX5 yX5_derivedFrom wsX5_derivedFrom) := goodIn_app (goodIn_of _ (by decide +kernel)) ggX9_look_X5_derivedFrom
theorem dX9_look_0 : decode cX9_look 0 = .ok (.aload_n 0, 1) := by decide +kernel
theorem dX9_look_1 : decode cX9_look 1 = .ok (.getfield 61, 3) := by decide +kernel
theorem dX9_look_4 : decode cX9_look 4 = .ok (.iload_n 1, 1) := by decide +kernel
theorem dX9_look_5 : decode cX9_look 5 = .ok (.invokevirtual 148, 3) := by decide +kernel
theorem dX9_look_8 : decode cX9_look 8 = .ok (.ifCond .ne 5, 3) := by decide +kernel
theorem dX9_look_11 : decode cX9_look 11 = .ok (.iconst (-1), 1) := by decide +kernel
theorem dX9_look_12 : decode cX9_look 12 = .ok (.ireturn, 1) := by decide +kernel
theorem dX9_look_13 : decode cX9_look 13 = .ok (.iload_n 2, 1) := by decide +kernel
theorem dX9_look_14 : decode cX9_look 14 = .ok (.tableswitch 76 0 4 #[34, 43, 52, 61, 67], 34) := by decide +kernel
theorem dX9_look_48 : decode cX9_look 48 = .ok (.aload_n 0, 1) := by decide +kernel
theorem dX9_look_49 : decode cX9_look 49 = .ok (.getfield 61, 3) := by decide +kernel
theorem dX9_look_52 : decode cX9_look 52 = .ok (.iload_n 1, 1) := by decide +kernel
theorem dX9_look_53 : decode cX9_look 53 = .ok (.invokevirtual 241, 3) := by decide +kernel
theorem dX9_look_56 : decode cX9_look 56 = .ok (.ireturn, 1) := by decide +kernel
theorem dX9_look_57 : decode cX9_look 57 = .ok (.aload_n 0, 1) := by decide +kernel
theorem dX9_look_58 : decode cX9_look 58 = .ok (.getfield 61, 3) := by decide +kernel
theorem dX9_look_61 : decode cX9_look 61 = .ok (.iload_n 1, 1) := by decide +kernel
theorem dX9_look_62 : decode cX9_look 62 = .ok (.invokevirtual 244, 3) := by decide +kernel
theorem dX9_look_65 : decode cX9_look 65 = .ok (.ireturn, 1) := by decide +kernel
theorem dX9_look_66 : decode cX9_look 66 = .ok (.aload_n 0, 1) := by decide +kernel
theorem dX9_look_67 : decode cX9_look 67 = .ok (.getfield 61, 3) := by decide +kernel
theorem dX9_look_70 : decode cX9_look 70 = .ok (.iload_n 1, 1) := by decide +kernel
theorem dX9_look_71 : decode cX9_look 71 = .ok (.invokevirtual 247, 3) := by decide +kernel
theorem dX9_look_74 : decode cX9_look 74 = .ok (.ireturn, 1) := by decide +kernel
theorem dX9_look_75 : decode cX9_look 75 = .ok (.aload_n 0, 1) := by decide +kernel
theorem dX9_look_76 : decode cX9_look 76 = .ok (.iload_n 1, 1) := by decide +kernel
theorem dX9_look_77 : decode cX9_look 77 = .ok (.invokevirtual 234, 3) := by decide +kernel
theorem dX9_look_80 : decode cX9_look 80 = .ok (.ireturn, 1) := by decide +kernel
theorem dX9_look_81 : decode cX9_look 81 = .ok (.aload_n 0, 1) := by decide +kernel
theorem dX9_look_82 : decode cX9_look 82 = .ok (.getfield 61, 3) := by decide +kernel
theorem dX9_look_85 : decode cX9_look 85 = .ok (.iload_n 1, 1) := by decide +kernel
theorem dX9_look_86 : decode cX9_look 86 = .ok (.invokevirtual 250, 3) := by decide +kernel
theorem dX9_look_89 : decode cX9_look 89 = .ok (.ireturn, 1) := by decide +kernel
theorem dX9_look_90 : decode cX9_look 90 = .ok (.iconst (-1), 1) := by decide +kernel
theorem dX9_look_91 : decode cX9_look 91 = .ok (.ireturn, 1) := by decide +kernel
set_option maxRecDepth 20000 in
theorem ggX9_state_X8_total : GoodIn wsX9_state wsX8_total := goodIn_r _ [10, 11, 51, 52] (by decide +kernel) (by decide +kernel)
set_option maxRecDepth 20000 in
theorem gX9_state_X8_total : GoodIn wsX9_state (wsV RX9 253 RX8 yX8_total wsX8_total) := goodIn_app (goodIn_of _ (by decide +kernel)) ggX9_state_X8_total
set_option maxRecDepth 20000 in
theorem ggX9_state_X6_total : GoodIn wsX9_state wsX6_total := goodIn_r _ [16, 17, 53, 54] (by decide +kernel) (by decide +kernel)
set_option maxRecDepth 20000 in
theorem gX9_state_X6_total : GoodIn wsX9_state (wsV RX9 254 RX6 yX6_total wsX6_total) := goodIn_app (goodIn_of _ (by decide +kernel)) ggX9_state_X6_total
set_option maxRecDepth 20000 in
theorem ggX9_state_X5_total : GoodIn wsX9_state wsX5_total := goodIn_r _ [22, 23, 55, 56, 57, 58, 59, 60, 61, 62, 63, 64, 65] (by decide +kernel) (by decide +kernel)
set_option maxRecDepth 20000 in
theorem gX9_state_X5_total : GoodIn wsX9_state (wsV RX9 216 RX5 yX5_total wsX5_total) := goodIn_app (goodIn_of _ (by decide +kernel)) ggX9_state_X5_total
set_option maxRecDepth 20000 in
theorem ggX9_state_X5_living : GoodIn wsX9_state wsX5_living := goodIn_r _ [27, 28, 55, 56, 57, 58, 59, 60, 61, 62, 63, 64, 65] (by decide +kernel) (by decide +kernel)
set_option maxRecDepth 20000 in
theorem gX9_state_X5_living : GoodIn wsX9_state (wsV RX9 205 RX5 yX5_living wsX5_living) := goodIn_app (goodIn_of _ (by decide +kernel)) ggX9_state_X5_living
set_option maxRecDepth 20000 in
theorem ggX9_state_X7_total : GoodIn wsX9_state wsX7_total := goodIn_r _ [33, 34, 66, 67, 68, 69, 70] (by decide +kernel) (by decide +kernel)
set_option maxRecDepth 20000 in
theorem gX9_state_X7_total : GoodIn wsX9_state (wsV RX9 255 RX7 yX7_total wsX7_total) := goodIn_app (goodIn_of _ (by decide +kernel)) ggX9_state_X7_total
set_option maxRecDepth 20000 in
theorem ggX9_state_X4_total : GoodIn wsX9_state wsX4_total := goodIn_r _ [39, 40, 71, 72, 73, 74, 75] (by decide +kernel) (by decide +kernel)
set_option maxRecDepth 20000 in
theorem gX9_state_X4_total : GoodIn wsX9_state (wsV RX9 256 RX4 yX4_total wsX4_total) := goodIn_app (goodIn_of _ (by decide +kernel)) ggX9_state_X4_total
theorem dX9_state_0 : decode cX9_state 0 = .ok (.iload_n 1, 1) := by decide +kernel
theorem dX9_state_1 : decode cX9_state 1 = .ok (.tableswitch 87 0 5 #[39, 47, 55, 63, 71, 79], 39) := by decide +kernel
theorem dX9_state_40 : decode cX9_state 40 = .ok (.aload_n 0, 1) := by decide +kernel
theorem dX9_state_41 : decode cX9_state 41 = .ok (.getfield 10, 3) := by decide +kernel
theorem dX9_state_44 : decode cX9_state 44 = .ok (.invokevirtual 253, 3) := by decide +kernel
theorem dX9_state_47 : decode cX9_state 47 = .ok (.ireturn, 1) := by decide +kernel
theorem dX9_state_48 : decode cX9_state 48 = .ok (.aload_n 0, 1) := by decide +kernel
theorem dX9_state_49 : decode cX9_state 49 = .ok (.getfield 19, 3) := by decide +kernel
theorem dX9_state_52 : decode cX9_state 52 = .ok (.invokevirtual 254, 3) := by decide +kernel
theorem dX9_state_55 : decode cX9_state 55 = .ok (.ireturn, 1) := by decide +kernel
theorem dX9_state_56 : decode cX9_state 56 = .ok (.aload_n 0, 1) := by decide +kernel
theorem dX9_state_57 : decode cX9_state 57 = .ok (.getfield 61, 3) := by decide +kernel
theorem dX9_state_60 : decode cX9_state 60 = .ok (.invokevirtual 216, 3) := by decide +kernel
theorem dX9_state_63 : decode cX9_state 63 = .ok (.ireturn, 1) := by decide +kernel
theorem dX9_state_64 : decode cX9_state 64 = .ok (.aload_n 0, 1) := by decide +kernel
theorem dX9_state_65 : decode cX9_state 65 = .ok (.getfield 61, 3) := by decide +kernel
theorem dX9_state_68 : decode cX9_state 68 = .ok (.invokevirtual 205, 3) := by decide +kernel
theorem dX9_state_71 : decode cX9_state 71 = .ok (.ireturn, 1) := by decide +kernel
theorem dX9_state_72 : decode cX9_state 72 = .ok (.aload_n 0, 1) := by decide +kernel
theorem dX9_state_73 : decode cX9_state 73 = .ok (.getfield 68, 3) := by decide +kernel
theorem dX9_state_76 : decode cX9_state 76 = .ok (.invokevirtual 255, 3) := by decide +kernel
theorem dX9_state_79 : decode cX9_state 79 = .ok (.ireturn, 1) := by decide +kernel
theorem dX9_state_80 : decode cX9_state 80 = .ok (.aload_n 0, 1) := by decide +kernel
theorem dX9_state_81 : decode cX9_state 81 = .ok (.getfield 54, 3) := by decide +kernel
theorem dX9_state_84 : decode cX9_state 84 = .ok (.invokevirtual 256, 3) := by decide +kernel
theorem dX9_state_87 : decode cX9_state 87 = .ok (.ireturn, 1) := by decide +kernel
theorem dX9_state_88 : decode cX9_state 88 = .ok (.iconst (-1), 1) := by decide +kernel
theorem dX9_state_89 : decode cX9_state 89 = .ok (.ireturn, 1) := by decide +kernel
theorem dX9_isPerson_0 : decode cX9_isPerson 0 = .ok (.iload_n 0, 1) := by decide +kernel
theorem dX9_isPerson_1 : decode cX9_isPerson 1 = .ok (.ifCond .lt 13, 3) := by decide +kernel
theorem dX9_isPerson_4 : decode cX9_isPerson 4 = .ok (.iload_n 0, 1) := by decide +kernel
theorem dX9_isPerson_5 : decode cX9_isPerson 5 = .ok (.bipush 16, 2) := by decide +kernel
theorem dX9_isPerson_7 : decode cX9_isPerson 7 = .ok (.if_icmp .ge 7, 3) := by decide +kernel
theorem dX9_isPerson_10 : decode cX9_isPerson 10 = .ok (.iconst 1, 1) := by decide +kernel
theorem dX9_isPerson_11 : decode cX9_isPerson 11 = .ok (.goto 4, 3) := by decide +kernel
theorem dX9_isPerson_14 : decode cX9_isPerson 14 = .ok (.iconst 0, 1) := by decide +kernel
theorem dX9_isPerson_15 : decode cX9_isPerson 15 = .ok (.ireturn, 1) := by decide +kernel
theorem dX9_isMinute_0 : decode cX9_isMinute 0 = .ok (.iload_n 0, 1) := by decide +kernel
theorem dX9_isMinute_1 : decode cX9_isMinute 1 = .ok (.ifCond .lt 14, 3) := by decide +kernel
theorem dX9_isMinute_4 : decode cX9_isMinute 4 = .ok (.iload_n 0, 1) := by decide +kernel
theorem dX9_isMinute_5 : decode cX9_isMinute 5 = .ok (.ldc_w 257, 3) := by decide +kernel
theorem dX9_isMinute_8 : decode cX9_isMinute 8 = .ok (.if_icmp .gt 7, 3) := by decide +kernel
theorem dX9_isMinute_11 : decode cX9_isMinute 11 = .ok (.iconst 1, 1) := by decide +kernel
theorem dX9_isMinute_12 : decode cX9_isMinute 12 = .ok (.goto 4, 3) := by decide +kernel
theorem dX9_isMinute_15 : decode cX9_isMinute 15 = .ok (.iconst 0, 1) := by decide +kernel
theorem dX9_isMinute_16 : decode cX9_isMinute 16 = .ok (.ireturn, 1) := by decide +kernel
theorem dX9_isDay_0 : decode cX9_isDay 0 = .ok (.iload_n 0, 1) := by decide +kernel
theorem dX9_isDay_1 : decode cX9_isDay 1 = .ok (.ifCond .lt 14, 3) := by decide +kernel
theorem dX9_isDay_4 : decode cX9_isDay 4 = .ok (.iload_n 0, 1) := by decide +kernel
theorem dX9_isDay_5 : decode cX9_isDay 5 = .ok (.sipush 6944, 3) := by decide +kernel
theorem dX9_isDay_8 : decode cX9_isDay 8 = .ok (.if_icmp .gt 7, 3) := by decide +kernel
theorem dX9_isDay_11 : decode cX9_isDay 11 = .ok (.iconst 1, 1) := by decide +kernel
theorem dX9_isDay_12 : decode cX9_isDay 12 = .ok (.goto 4, 3) := by decide +kernel
theorem dX9_isDay_15 : decode cX9_isDay 15 = .ok (.iconst 0, 1) := by decide +kernel
theorem dX9_isDay_16 : decode cX9_isDay 16 = .ok (.ireturn, 1) := by decide +kernel
theorem dX9_isSpanOfDays_0 : decode cX9_isSpanOfDays 0 = .ok (.iload_n 0, 1) := by decide +kernel
theorem dX9_isSpanOfDays_1 : decode cX9_isSpanOfDays 1 = .ok (.iconst 1, 1) := by decide +kernel
theorem dX9_isSpanOfDays_2 : decode cX9_isSpanOfDays 2 = .ok (.if_icmp .lt 14, 3) := by decide +kernel
theorem dX9_isSpanOfDays_5 : decode cX9_isSpanOfDays 5 = .ok (.iload_n 0, 1) := by decide +kernel
theorem dX9_isSpanOfDays_6 : decode cX9_isSpanOfDays 6 = .ok (.sipush 5000, 3) := by decide +kernel
theorem dX9_isSpanOfDays_9 : decode cX9_isSpanOfDays 9 = .ok (.if_icmp .gt 7, 3) := by decide +kernel
theorem dX9_isSpanOfDays_12 : decode cX9_isSpanOfDays 12 = .ok (.iconst 1, 1) := by decide +kernel
theorem dX9_isSpanOfDays_13 : decode cX9_isSpanOfDays 13 = .ok (.goto 4, 3) := by decide +kernel
theorem dX9_isSpanOfDays_16 : decode cX9_isSpanOfDays 16 = .ok (.iconst 0, 1) := by decide +kernel
theorem dX9_isSpanOfDays_17 : decode cX9_isSpanOfDays 17 = .ok (.ireturn, 1) := by decide +kernel
set_option maxRecDepth 20000 in
theorem ggX9_isMarkedKind_X6_has : GoodIn wsX9_isMarkedKind wsX6_has := goodIn_r _ [6, 7, 18, 19] (by decide +kernel) (by decide +kernel)
set_option maxRecDepth 20000 in
theorem gX9_isMarkedKind_X6_has : GoodIn wsX9_isMarkedKind (wsV RX9 126 RX6 yX6_has wsX6_has) := goodIn_app (goodIn_of _ (by decide +kernel)) ggX9_isMarkedKind_X6_has
theorem dX9_isMarkedKind_0 : decode cX9_isMarkedKind 0 = .ok (.iload_n 1, 1) := by decide +kernel
theorem dX9_isMarkedKind_1 : decode cX9_isMarkedKind 1 = .ok (.bipush 100, 2) := by decide +kernel
theorem dX9_isMarkedKind_3 : decode cX9_isMarkedKind 3 = .ok (.if_icmp .lt 21, 3) := by decide +kernel
theorem dX9_isMarkedKind_6 : decode cX9_isMarkedKind 6 = .ok (.aload_n 0, 1) := by decide +kernel
theorem dX9_isMarkedKind_7 : decode cX9_isMarkedKind 7 = .ok (.getfield 19, 3) := by decide +kernel
theorem dX9_isMarkedKind_10 : decode cX9_isMarkedKind 10 = .ok (.iload_n 1, 1) := by decide +kernel
theorem dX9_isMarkedKind_11 : decode cX9_isMarkedKind 11 = .ok (.bipush 100, 2) := by decide +kernel
theorem dX9_isMarkedKind_13 : decode cX9_isMarkedKind 13 = .ok (.isub, 1) := by decide +kernel
theorem dX9_isMarkedKind_14 : decode cX9_isMarkedKind 14 = .ok (.invokevirtual 126, 3) := by decide +kernel
theorem dX9_isMarkedKind_17 : decode cX9_isMarkedKind 17 = .ok (.ifCond .eq 7, 3) := by decide +kernel
theorem dX9_isMarkedKind_20 : decode cX9_isMarkedKind 20 = .ok (.iconst 1, 1) := by decide +kernel
theorem dX9_isMarkedKind_21 : decode cX9_isMarkedKind 21 = .ok (.goto 4, 3) := by decide +kernel
theorem dX9_isMarkedKind_24 : decode cX9_isMarkedKind 24 = .ok (.iconst 0, 1) := by decide +kernel
theorem dX9_isMarkedKind_25 : decode cX9_isMarkedKind 25 = .ok (.ireturn, 1) := by decide +kernel
theorem dX9_dayOfMinute_0 : decode cX9_dayOfMinute 0 = .ok (.iload_n 0, 1) := by decide +kernel
theorem dX9_dayOfMinute_1 : decode cX9_dayOfMinute 1 = .ok (.sipush 1440, 3) := by decide +kernel
theorem dX9_dayOfMinute_4 : decode cX9_dayOfMinute 4 = .ok (.idiv, 1) := by decide +kernel
theorem dX9_dayOfMinute_5 : decode cX9_dayOfMinute 5 = .ok (.ireturn, 1) := by decide +kernel
theorem dX9_isAmong_0 : decode cX9_isAmong 0 = .ok (.iload_n 0, 1) := by decide +kernel
theorem dX9_isAmong_1 : decode cX9_isAmong 1 = .ok (.iload_n 1, 1) := by decide +kernel
theorem dX9_isAmong_2 : decode cX9_isAmong 2 = .ok (.ishr, 1) := by decide +kernel
theorem dX9_isAmong_3 : decode cX9_isAmong 3 = .ok (.iconst 1, 1) := by decide +kernel
theorem dX9_isAmong_4 : decode cX9_isAmong 4 = .ok (.iand, 1) := by decide +kernel
theorem dX9_isAmong_5 : decode cX9_isAmong 5 = .ok (.iconst 1, 1) := by decide +kernel
theorem dX9_isAmong_6 : decode cX9_isAmong 6 = .ok (.if_icmp .ne 7, 3) := by decide +kernel
theorem dX9_isAmong_9 : decode cX9_isAmong 9 = .ok (.iconst 1, 1) := by decide +kernel
theorem dX9_isAmong_10 : decode cX9_isAmong 10 = .ok (.goto 4, 3) := by decide +kernel
theorem dX9_isAmong_13 : decode cX9_isAmong 13 = .ok (.iconst 0, 1) := by decide +kernel
theorem dX9_isAmong_14 : decode cX9_isAmong 14 = .ok (.ireturn, 1) := by decide +kernel
set_option maxRecDepth 20000 in
theorem ggX9_groundOf_X5_personsOf : GoodIn wsX9_groundOf wsX5_personsOf := goodIn_r _ [11, 12, 13, 14, 15, 10, 16, 17, 18, 19, 20, 21, 22, 130, 131, 132, 133, 134, 135, 136, 137, 138, 139, 140] (by decide +kernel) (by decide +kernel)
set_option maxRecDepth 20000 in
theorem gX9_groundOf_X5_personsOf : GoodIn wsX9_groundOf (wsV RX9 247 RX5 yX5_personsOf wsX5_personsOf) := goodIn_app (goodIn_of _ (by decide +kernel)) ggX9_groundOf_X5_personsOf
set_option maxRecDepth 20000 in
theorem ggX9_groundOf_X5_kindOf : GoodIn wsX9_groundOf wsX5_kindOf := goodIn_r _ [26, 27, 13, 14, 15, 10, 16, 17, 18, 19, 20, 21, 22, 130, 131, 132, 133, 134, 135, 136, 137, 138, 139, 140] (by decide +kernel) (by decide +kernel)
set_option maxRecDepth 20000 in
theorem gX9_groundOf_X5_kindOf : GoodIn wsX9_groundOf (wsV RX9 241 RX5 yX5_kindOf wsX5_kindOf) := goodIn_app (goodIn_of _ (by decide +kernel)) ggX9_groundOf_X5_kindOf
set_option maxRecDepth 20000 in
theorem ggX9_groundOf_X9_dayOfMinute : GoodIn wsX9_groundOf wsX9_dayOfMinute := goodIn_r _ [31] (by decide +kernel) (by decide +kernel)
set_option maxRecDepth 20000 in
theorem gX9_groundOf_X9_dayOfMinute : GoodIn wsX9_groundOf (va_wsS RX9 209 yX9_dayOfMinute wsX9_dayOfMinute) := goodIn_app (goodIn_of _ (by decide +kernel)) ggX9_groundOf_X9_dayOfMinute
set_option maxRecDepth 20000 in
theorem ggX9_groundOf_X4_coverPersons : GoodIn wsX9_groundOf wsX4_coverPersons := goodIn_r _ [36, 37, 38, 39, 40, 35, 41, 42, 43, 30, 44, 45, 46, 47, 48, 49, 50, 51, 52, 141, 142, 143, 144, 145] (by decide +kernel) (by decide +kernel)
set_option maxRecDepth 20000 in
theorem gX9_groundOf_X4_coverPersons : GoodIn wsX9_groundOf (wsV RX9 258 RX4 yX4_coverPersons wsX4_coverPersons) := goodIn_app (goodIn_of _ (by decide +kernel)) ggX9_groundOf_X4_coverPersons
set_option maxRecDepth 20000 in
theorem ggX9_groundOf_X0_allSayYes : GoodIn wsX9_groundOf wsX0_allSayYes := goodIn_r _ [57, 45, 30, 46, 58, 59, 60, 56, 61, 62, 63, 64, 65, 66, 67, 68, 69, 70, 71, 72, 73, 74, 75, 76, 77, 78, 79, 80, 81, 146, 147, 148, 149, 150, 151, 152] (by decide +kernel) (by decide +kernel)
set_option maxRecDepth 20000 in
theorem gX9_groundOf_X0_allSayYes : GoodIn wsX9_groundOf (wsV RX9 261 RX0 yX0_allSayYes wsX0_allSayYes) := goodIn_app (goodIn_of _ (by decide +kernel)) ggX9_groundOf_X0_allSayYes
set_option maxRecDepth 20000 in
theorem ggX9_groundOf_X1_allow : GoodIn wsX9_groundOf wsX1_allow := goodIn_r _ [86, 87, 88, 89, 90, 91, 45, 30, 46, 92, 68, 69, 70, 71, 72, 73, 74, 75, 76, 77, 153, 154, 155, 156, 157, 151, 152] (by decide +kernel) (by decide +kernel)
set_option maxRecDepth 20000 in
theorem gX9_groundOf_X1_allow : GoodIn wsX9_groundOf (wsV RX9 265 RX1 yX1_allow wsX1_allow) := goodIn_app (goodIn_of _ (by decide +kernel)) ggX9_groundOf_X1_allow
set_option maxRecDepth 20000 in
theorem ggX9_groundOf_X5_dayOf : GoodIn wsX9_groundOf wsX5_dayOf := goodIn_r _ [96, 97, 13, 14, 15, 10, 16, 17, 18, 19, 20, 21, 22, 130, 131, 132, 133, 134, 135, 136, 137, 138, 139, 140] (by decide +kernel) (by decide +kernel)
set_option maxRecDepth 20000 in
theorem gX9_groundOf_X5_dayOf : GoodIn wsX9_groundOf (wsV RX9 244 RX5 yX5_dayOf wsX5_dayOf) := goodIn_app (goodIn_of _ (by decide +kernel)) ggX9_groundOf_X5_dayOf
set_option maxRecDepth 20000 in
theorem ggX9_groundOf_X2_allow : GoodIn wsX9_groundOf wsX2_allow := goodIn_r _ [102, 103, 104, 105, 106, 107, 101, 108, 109, 110, 158, 159, 160, 161] (by decide +kernel) (by decide +kernel)
set_option maxRecDepth 20000 in
theorem gX9_groundOf_X2_allow : GoodIn wsX9_groundOf (wsV RX9 268 RX2 yX2_allow wsX2_allow) := goodIn_app (goodIn_of _ (by decide +kernel)) ggX9_groundOf_X2_allow
set_option maxRecDepth 20000 in
theorem ggX9_groundOf_X4_allow : GoodIn wsX9_groundOf wsX4_allow := goodIn_r _ [114, 37, 115, 116, 117, 118, 35, 119, 42, 47, 48, 49, 50, 51, 52, 38, 39, 40, 41, 43, 30, 44, 45, 46, 141, 142, 143, 144, 145] (by decide +kernel) (by decide +kernel)
set_option maxRecDepth 20000 in
theorem gX9_groundOf_X4_allow : GoodIn wsX9_groundOf (wsV RX9 271 RX4 yX4_allow wsX4_allow) := goodIn_app (goodIn_of _ (by decide +kernel)) ggX9_groundOf_X4_allow
theorem dX9_groundOf_0 : decode cX9_groundOf 0 = .ok (.aload_n 0, 1) := by decide +kernel
theorem dX9_groundOf_1 : decode cX9_groundOf 1 = .ok (.getfield 61, 3) := by decide +kernel
theorem dX9_groundOf_4 : decode cX9_groundOf 4 = .ok (.iload_n 1, 1) := by decide +kernel
theorem dX9_groundOf_5 : decode cX9_groundOf 5 = .ok (.invokevirtual 247, 3) := by decide +kernel
theorem dX9_groundOf_8 : decode cX9_groundOf 8 = .ok (.istore 4, 2) := by decide +kernel
theorem dX9_groundOf_10 : decode cX9_groundOf 10 = .ok (.aload_n 0, 1) := by decide +kernel
theorem dX9_groundOf_11 : decode cX9_groundOf 11 = .ok (.getfield 61, 3) := by decide +kernel
theorem dX9_groundOf_14 : decode cX9_groundOf 14 = .ok (.iload_n 1, 1) := by decide +kernel
theorem dX9_groundOf_15 : decode cX9_groundOf 15 = .ok (.invokevirtual 241, 3) := by decide +kernel
theorem dX9_groundOf_18 : decode cX9_groundOf 18 = .ok (.istore 5, 2) := by decide +kernel
theorem dX9_groundOf_20 : decode cX9_groundOf 20 = .ok (.iload_n 3, 1) := by decide +kernel
theorem dX9_groundOf_21 : decode cX9_groundOf 21 = .ok (.invokestatic 209, 3) := by decide +kernel
theorem dX9_groundOf_24 : decode cX9_groundOf 24 = .ok (.istore 6, 2) := by decide +kernel
theorem dX9_groundOf_26 : decode cX9_groundOf 26 = .ok (.aload_n 0, 1) := by decide +kernel
theorem dX9_groundOf_27 : decode cX9_groundOf 27 = .ok (.getfield 54, 3) := by decide +kernel
theorem dX9_groundOf_30 : decode cX9_groundOf 30 = .ok (.iload 4, 2) := by decide +kernel
theorem dX9_groundOf_32 : decode cX9_groundOf 32 = .ok (.iload 6, 2) := by decide +kernel
theorem dX9_groundOf_34 : decode cX9_groundOf 34 = .ok (.invokevirtual 258, 3) := by decide +kernel
theorem dX9_groundOf_37 : decode cX9_groundOf 37 = .ok (.ifCond .ne 68, 3) := by decide +kernel
theorem dX9_groundOf_40 : decode cX9_groundOf 40 = .ok (.aload_n 0, 1) := by decide +kernel
theorem dX9_groundOf_41 : decode cX9_groundOf 41 = .ok (.getfield 26, 3) := by decide +kernel
theorem dX9_groundOf_44 : decode cX9_groundOf 44 = .ok (.iload 4, 2) := by decide +kernel
theorem dX9_groundOf_46 : decode cX9_groundOf 46 = .ok (.iload_n 2, 1) := by decide +kernel
theorem dX9_groundOf_47 : decode cX9_groundOf 47 = .ok (.iload_n 3, 1) := by decide +kernel
theorem dX9_groundOf_48 : decode cX9_groundOf 48 = .ok (.aload_n 0, 1) := by decide +kernel
theorem dX9_groundOf_49 : decode cX9_groundOf 49 = .ok (.getfield 10, 3) := by decide +kernel
theorem dX9_groundOf_52 : decode cX9_groundOf 52 = .ok (.invokevirtual 261, 3) := by decide +kernel
theorem dX9_groundOf_55 : decode cX9_groundOf 55 = .ok (.ifCond .eq 5, 3) := by decide +kernel
theorem dX9_groundOf_58 : decode cX9_groundOf 58 = .ok (.iconst 1, 1) := by decide +kernel
theorem dX9_groundOf_59 : decode cX9_groundOf 59 = .ok (.ireturn, 1) := by decide +kernel
theorem dX9_groundOf_60 : decode cX9_groundOf 60 = .ok (.aload_n 0, 1) := by decide +kernel
theorem dX9_groundOf_61 : decode cX9_groundOf 61 = .ok (.getfield 33, 3) := by decide +kernel
theorem dX9_groundOf_64 : decode cX9_groundOf 64 = .ok (.iload 4, 2) := by decide +kernel
theorem dX9_groundOf_66 : decode cX9_groundOf 66 = .ok (.iload_n 2, 1) := by decide +kernel
theorem dX9_groundOf_67 : decode cX9_groundOf 67 = .ok (.iload_n 3, 1) := by decide +kernel
theorem dX9_groundOf_68 : decode cX9_groundOf 68 = .ok (.aload_n 0, 1) := by decide +kernel
theorem dX9_groundOf_69 : decode cX9_groundOf 69 = .ok (.getfield 10, 3) := by decide +kernel
theorem dX9_groundOf_72 : decode cX9_groundOf 72 = .ok (.invokevirtual 265, 3) := by decide +kernel
theorem dX9_groundOf_75 : decode cX9_groundOf 75 = .ok (.ifCond .eq 5, 3) := by decide +kernel
theorem dX9_groundOf_78 : decode cX9_groundOf 78 = .ok (.iconst 2, 1) := by decide +kernel
theorem dX9_groundOf_79 : decode cX9_groundOf 79 = .ok (.ireturn, 1) := by decide +kernel
theorem dX9_groundOf_80 : decode cX9_groundOf 80 = .ok (.aload_n 0, 1) := by decide +kernel
theorem dX9_groundOf_81 : decode cX9_groundOf 81 = .ok (.getfield 40, 3) := by decide +kernel
theorem dX9_groundOf_84 : decode cX9_groundOf 84 = .ok (.iload 5, 2) := by decide +kernel
theorem dX9_groundOf_86 : decode cX9_groundOf 86 = .ok (.iload_n 2, 1) := by decide +kernel
theorem dX9_groundOf_87 : decode cX9_groundOf 87 = .ok (.aload_n 0, 1) := by decide +kernel
theorem dX9_groundOf_88 : decode cX9_groundOf 88 = .ok (.getfield 61, 3) := by decide +kernel
theorem dX9_groundOf_91 : decode cX9_groundOf 91 = .ok (.iload_n 1, 1) := by decide +kernel
theorem dX9_groundOf_92 : decode cX9_groundOf 92 = .ok (.invokevirtual 244, 3) := by decide +kernel
theorem dX9_groundOf_95 : decode cX9_groundOf 95 = .ok (.iload 6, 2) := by decide +kernel
theorem dX9_groundOf_97 : decode cX9_groundOf 97 = .ok (.invokevirtual 268, 3) := by decide +kernel
theorem dX9_groundOf_100 : decode cX9_groundOf 100 = .ok (.ifCond .eq 5, 3) := by decide +kernel
theorem dX9_groundOf_103 : decode cX9_groundOf 103 = .ok (.iconst 3, 1) := by decide +kernel
theorem dX9_groundOf_104 : decode cX9_groundOf 104 = .ok (.ireturn, 1) := by decide +kernel
theorem dX9_groundOf_105 : decode cX9_groundOf 105 = .ok (.aload_n 0, 1) := by decide +kernel
theorem dX9_groundOf_106 : decode cX9_groundOf 106 = .ok (.getfield 54, 3) := by decide +kernel
theorem dX9_groundOf_109 : decode cX9_groundOf 109 = .ok (.iload 4, 2) := by decide +kernel
theorem dX9_groundOf_111 : decode cX9_groundOf 111 = .ok (.iload 5, 2) := by decide +kernel
theorem dX9_groundOf_113 : decode cX9_groundOf 113 = .ok (.iload_n 2, 1) := by decide +kernel
theorem dX9_groundOf_114 : decode cX9_groundOf 114 = .ok (.iload 6, 2) := by decide +kernel
theorem dX9_groundOf_116 : decode cX9_groundOf 116 = .ok (.invokevirtual 271, 3) := by decide +kernel
theorem dX9_groundOf_119 : decode cX9_groundOf 119 = .ok (.ifCond .eq 7, 3) := by decide +kernel
theorem dX9_groundOf_122 : decode cX9_groundOf 122 = .ok (.iconst 4, 1) := by decide +kernel
theorem dX9_groundOf_123 : decode cX9_groundOf 123 = .ok (.goto 4, 3) := by decide +kernel
theorem dX9_groundOf_126 : decode cX9_groundOf 126 = .ok (.iconst 0, 1) := by decide +kernel
theorem dX9_groundOf_127 : decode cX9_groundOf 127 = .ok (.ireturn, 1) := by decide +kernel
set_option maxRecDepth 20000 in
theorem ggX9_markKept_X5_unmarkAll : GoodIn wsX9_markKept wsX5_unmarkAll := goodIn_r _ [6, 7, 8, 107, 108, 109, 110, 111, 112, 113, 114, 115, 116, 117] (by decide +kernel) (by decide +kernel)
set_option maxRecDepth 20000 in
theorem gX9_markKept_X5_unmarkAll : GoodIn wsX9_markKept (wsV RX9 272 RX5 yX5_unmarkAll wsX5_unmarkAll) := goodIn_app (goodIn_of _ (by decide +kernel)) ggX9_markKept_X5_unmarkAll
set_option maxRecDepth 20000 in
theorem ggX9_markKept_X5_total : GoodIn wsX9_markKept wsX5_total := goodIn_r _ [12, 7, 107, 108, 109, 110, 111, 112, 113, 114, 115, 116, 117] (by decide +kernel) (by decide +kernel)
set_option maxRecDepth 20000 in
theorem gX9_markKept_X5_total : GoodIn wsX9_markKept (wsV RX9 216 RX5 yX5_total wsX5_total) := goodIn_app (goodIn_of _ (by decide +kernel)) ggX9_markKept_X5_total
set_option maxRecDepth 20000 in
theorem ggX9_markKept_X5_lives : GoodIn wsX9_markKept wsX5_lives := goodIn_r _ [16, 17, 18, 19, 20, 5, 21, 7, 107, 108, 109, 110, 111, 112, 113, 114, 115, 116, 117] (by decide +kernel) (by decide +kernel)
set_option maxRecDepth 20000 in
theorem gX9_markKept_X5_lives : GoodIn wsX9_markKept (wsV RX9 148 RX5 yX5_lives wsX5_lives) := goodIn_app (goodIn_of _ (by decide +kernel)) ggX9_markKept_X5_lives
set_option maxRecDepth 20000 in
theorem ggX9_markKept_X5_isKept : GoodIn wsX9_markKept wsX5_isKept := goodIn_r _ [25, 8, 18, 19, 20, 5, 21, 7, 107, 108, 109, 110, 111, 112, 113, 114, 115, 116, 117] (by decide +kernel) (by decide +kernel)
set_option maxRecDepth 20000 in
theorem gX9_markKept_X5_isKept : GoodIn wsX9_markKept (wsV RX9 275 RX5 yX5_isKept wsX5_isKept) := goodIn_app (goodIn_of _ (by decide +kernel)) ggX9_markKept_X5_isKept
set_option maxRecDepth 20000 in
theorem ggX9_markKept_X9_isCovered : GoodIn wsX9_markKept wsX9_isCovered := goodIn_r _ [30, 1, 31, 32, 33, 34, 35, 5, 36, 37, 38, 14, 15, 16, 17, 18, 19, 20, 21, 7, 39, 40, 41, 42, 43, 44, 45, 46, 47, 48, 49, 50, 51, 52, 53, 54, 55, 56, 57, 58, 59, 60, 61, 62, 63, 64, 65, 29, 66, 67, 68, 69, 70, 71, 72, 73, 74, 75, 76, 77, 78, 79, 80, 81, 82, 83, 84, 85, 97, 98, 99, 100, 101, 102, 103, 104, 105, 106, 107, 108, 109, 110, 111, 112, 113, 114, 115, 116, 117, 118, 119, 120, 121, 122, 123, 124, 125, 126] (by decide +kernel) (by decide +kernel)
set_option maxRecDepth 20000 in
theorem gX9_markKept_X9_isCovered : GoodIn wsX9_markKept (wsV RX9 278 RX9 yX9_isCovered wsX9_isCovered) := goodIn_app (goodIn_of _ (by decide +kernel)) ggX9_markKept_X9_isCovered
set_option maxRecDepth 20000 in
theorem ggX9_markKept_X5_keepWithInputs : GoodIn wsX9_markKept wsX5_keepWithInputs := goodIn_r _ [89, 90, 91, 92, 93, 94, 95, 5, 96, 8, 18, 19, 20, 21, 7, 107, 108, 109, 110, 111, 112, 113, 114, 115, 116, 117] (by decide +kernel) (by decide +kernel)
set_option maxRecDepth 20000 in
theorem gX9_markKept_X5_keepWithInputs : GoodIn wsX9_markKept (wsV RX9 281 RX5 yX5_keepWithInputs wsX5_keepWithInputs) := goodIn_app (goodIn_of _ (by decide +kernel)) ggX9_markKept_X5_keepWithInputs
theorem dX9_markKept_0 : decode cX9_markKept 0 = .ok (.aload_n 0, 1) := by decide +kernel
theorem dX9_markKept_1 : decode cX9_markKept 1 = .ok (.getfield 61, 3) := by decide +kernel
theorem dX9_markKept_4 : decode cX9_markKept 4 = .ok (.invokevirtual 272, 3) := by decide +kernel
theorem dX9_markKept_7 : decode cX9_markKept 7 = .ok (.aload_n 0, 1) := by decide +kernel
theorem dX9_markKept_8 : decode cX9_markKept 8 = .ok (.getfield 61, 3) := by decide +kernel
theorem dX9_markKept_11 : decode cX9_markKept 11 = .ok (.invokevirtual 216, 3) := by decide +kernel
theorem dX9_markKept_14 : decode cX9_markKept 14 = .ok (.iconst 1, 1) := by decide +kernel
theorem dX9_markKept_15 : decode cX9_markKept 15 = .ok (.isub, 1) := by decide +kernel
theorem dX9_markKept_16 : decode cX9_markKept 16 = .ok (.istore_n 2, 1) := by decide +kernel
theorem dX9_markKept_17 : decode cX9_markKept 17 = .ok (.iload_n 2, 1) := by decide +kernel
theorem dX9_markKept_18 : decode cX9_markKept 18 = .ok (.ifCond .lt 48, 3) := by decide +kernel
theorem dX9_markKept_21 : decode cX9_markKept 21 = .ok (.aload_n 0, 1) := by decide +kernel
theorem dX9_markKept_22 : decode cX9_markKept 22 = .ok (.getfield 61, 3) := by decide +kernel
theorem dX9_markKept_25 : decode cX9_markKept 25 = .ok (.iload_n 2, 1) := by decide +kernel
theorem dX9_markKept_26 : decode cX9_markKept 26 = .ok (.invokevirtual 148, 3) := by decide +kernel
theorem dX9_markKept_29 : decode cX9_markKept 29 = .ok (.ifCond .eq 31, 3) := by decide +kernel
theorem dX9_markKept_32 : decode cX9_markKept 32 = .ok (.aload_n 0, 1) := by decide +kernel
theorem dX9_markKept_33 : decode cX9_markKept 33 = .ok (.getfield 61, 3) := by decide +kernel
theorem dX9_markKept_36 : decode cX9_markKept 36 = .ok (.iload_n 2, 1) := by decide +kernel
theorem dX9_markKept_37 : decode cX9_markKept 37 = .ok (.invokevirtual 275, 3) := by decide +kernel
theorem dX9_markKept_40 : decode cX9_markKept 40 = .ok (.ifCond .ne 12, 3) := by decide +kernel
theorem dX9_markKept_43 : decode cX9_markKept 43 = .ok (.aload_n 0, 1) := by decide +kernel
theorem dX9_markKept_44 : decode cX9_markKept 44 = .ok (.iload_n 2, 1) := by decide +kernel
theorem dX9_markKept_45 : decode cX9_markKept 45 = .ok (.iload_n 1, 1) := by decide +kernel
theorem dX9_markKept_46 : decode cX9_markKept 46 = .ok (.invokevirtual 278, 3) := by decide +kernel
theorem dX9_markKept_49 : decode cX9_markKept 49 = .ok (.ifCond .eq 11, 3) := by decide +kernel
theorem dX9_markKept_52 : decode cX9_markKept 52 = .ok (.aload_n 0, 1) := by decide +kernel
theorem dX9_markKept_53 : decode cX9_markKept 53 = .ok (.getfield 61, 3) := by decide +kernel
theorem dX9_markKept_56 : decode cX9_markKept 56 = .ok (.iload_n 2, 1) := by decide +kernel
theorem dX9_markKept_57 : decode cX9_markKept 57 = .ok (.invokevirtual 281, 3) := by decide +kernel
theorem dX9_markKept_60 : decode cX9_markKept 60 = .ok (.iinc 2 (-1), 3) := by decide +kernel
theorem dX9_markKept_63 : decode cX9_markKept 63 = .ok (.goto (-46), 3) := by decide +kernel
theorem dX9_markKept_66 : decode cX9_markKept 66 = .ok (.return_, 1) := by decide +kernel
set_option maxRecDepth 20000 in
theorem ggX9_isCovered_X5_kindOf : GoodIn wsX9_isCovered wsX5_kindOf := goodIn_r _ [8, 9, 10, 11, 12, 7, 13, 14, 15, 16, 17, 18, 19, 78, 79, 80, 81, 82, 83, 84, 85, 86, 87, 88] (by decide +kernel) (by decide +kernel)
set_option maxRecDepth 20000 in
theorem gX9_isCovered_X5_kindOf : GoodIn wsX9_isCovered (wsV RX9 241 RX5 yX5_kindOf wsX5_kindOf) := goodIn_app (goodIn_of _ (by decide +kernel)) ggX9_isCovered_X5_kindOf
set_option maxRecDepth 20000 in
theorem ggX9_isCovered_X5_personsOf : GoodIn wsX9_isCovered wsX5_personsOf := goodIn_r _ [23, 24, 10, 11, 12, 7, 13, 14, 15, 16, 17, 18, 19, 78, 79, 80, 81, 82, 83, 84, 85, 86, 87, 88] (by decide +kernel) (by decide +kernel)
set_option maxRecDepth 20000 in
theorem gX9_isCovered_X5_personsOf : GoodIn wsX9_isCovered (wsV RX9 247 RX5 yX5_personsOf wsX5_personsOf) := goodIn_app (goodIn_of _ (by decide +kernel)) ggX9_isCovered_X5_personsOf
set_option maxRecDepth 20000 in
theorem ggX9_isCovered_X4_cover : GoodIn wsX9_isCovered wsX4_cover := goodIn_r _ [29, 30, 31, 32, 33, 28, 34, 35, 36, 37, 38, 39, 40, 41, 42, 43, 44, 45, 46, 47, 48, 49, 50, 89, 90, 91, 92, 93] (by decide +kernel) (by decide +kernel)
set_option maxRecDepth 20000 in
theorem gX9_isCovered_X4_cover : GoodIn wsX9_isCovered (wsV RX9 284 RX4 yX4_cover wsX4_cover) := goodIn_app (goodIn_of _ (by decide +kernel)) ggX9_isCovered_X4_cover
set_option maxRecDepth 20000 in
theorem ggX9_isCovered_X5_dayOf : GoodIn wsX9_isCovered wsX5_dayOf := goodIn_r _ [54, 55, 10, 11, 12, 7, 13, 14, 15, 16, 17, 18, 19, 78, 79, 80, 81, 82, 83, 84, 85, 86, 87, 88] (by decide +kernel) (by decide +kernel)
set_option maxRecDepth 20000 in
theorem gX9_isCovered_X5_dayOf : GoodIn wsX9_isCovered (wsV RX9 244 RX5 yX5_dayOf wsX5_dayOf) := goodIn_app (goodIn_of _ (by decide +kernel)) ggX9_isCovered_X5_dayOf
set_option maxRecDepth 20000 in
theorem ggX9_isCovered_X2_cover : GoodIn wsX9_isCovered wsX2_cover := goodIn_r _ [60, 61, 62, 63, 64, 59, 65, 66, 67, 94, 95, 96, 97] (by decide +kernel) (by decide +kernel)
set_option maxRecDepth 20000 in
theorem gX9_isCovered_X2_cover : GoodIn wsX9_isCovered (wsV RX9 288 RX2 yX2_cover wsX2_cover) := goodIn_app (goodIn_of _ (by decide +kernel)) ggX9_isCovered_X2_cover
theorem dX9_isCovered_0 : decode cX9_isCovered 0 = .ok (.aload_n 0, 1) := by decide +kernel
theorem dX9_isCovered_1 : decode cX9_isCovered 1 = .ok (.getfield 61, 3) := by decide +kernel
theorem dX9_isCovered_4 : decode cX9_isCovered 4 = .ok (.iload_n 1, 1) := by decide +kernel
theorem dX9_isCovered_5 : decode cX9_isCovered 5 = .ok (.invokevirtual 241, 3) := by decide +kernel
theorem dX9_isCovered_8 : decode cX9_isCovered 8 = .ok (.istore_n 3, 1) := by decide +kernel
theorem dX9_isCovered_9 : decode cX9_isCovered 9 = .ok (.aload_n 0, 1) := by decide +kernel
theorem dX9_isCovered_10 : decode cX9_isCovered 10 = .ok (.getfield 54, 3) := by decide +kernel
theorem dX9_isCovered_13 : decode cX9_isCovered 13 = .ok (.aload_n 0, 1) := by decide +kernel
theorem dX9_isCovered_14 : decode cX9_isCovered 14 = .ok (.getfield 61, 3) := by decide +kernel
theorem dX9_isCovered_17 : decode cX9_isCovered 17 = .ok (.iload_n 1, 1) := by decide +kernel
theorem dX9_isCovered_18 : decode cX9_isCovered 18 = .ok (.invokevirtual 247, 3) := by decide +kernel
theorem dX9_isCovered_21 : decode cX9_isCovered 21 = .ok (.iload_n 3, 1) := by decide +kernel
theorem dX9_isCovered_22 : decode cX9_isCovered 22 = .ok (.iload_n 2, 1) := by decide +kernel
theorem dX9_isCovered_23 : decode cX9_isCovered 23 = .ok (.invokevirtual 284, 3) := by decide +kernel
theorem dX9_isCovered_26 : decode cX9_isCovered 26 = .ok (.ifCond .ne 23, 3) := by decide +kernel
theorem dX9_isCovered_29 : decode cX9_isCovered 29 = .ok (.aload_n 0, 1) := by decide +kernel
theorem dX9_isCovered_30 : decode cX9_isCovered 30 = .ok (.getfield 40, 3) := by decide +kernel
theorem dX9_isCovered_33 : decode cX9_isCovered 33 = .ok (.iload_n 3, 1) := by decide +kernel
theorem dX9_isCovered_34 : decode cX9_isCovered 34 = .ok (.aload_n 0, 1) := by decide +kernel
theorem dX9_isCovered_35 : decode cX9_isCovered 35 = .ok (.getfield 61, 3) := by decide +kernel
theorem dX9_isCovered_38 : decode cX9_isCovered 38 = .ok (.iload_n 1, 1) := by decide +kernel
theorem dX9_isCovered_39 : decode cX9_isCovered 39 = .ok (.invokevirtual 244, 3) := by decide +kernel
theorem dX9_isCovered_42 : decode cX9_isCovered 42 = .ok (.iload_n 2, 1) := by decide +kernel
theorem dX9_isCovered_43 : decode cX9_isCovered 43 = .ok (.invokevirtual 288, 3) := by decide +kernel
theorem dX9_isCovered_46 : decode cX9_isCovered 46 = .ok (.ifCond .eq 7, 3) := by decide +kernel
theorem dX9_isCovered_49 : decode cX9_isCovered 49 = .ok (.iconst 1, 1) := by decide +kernel
theorem dX9_isCovered_50 : decode cX9_isCovered 50 = .ok (.goto 4, 3) := by decide +kernel
theorem dX9_isCovered_53 : decode cX9_isCovered 53 = .ok (.iconst 0, 1) := by decide +kernel
theorem dX9_isCovered_54 : decode cX9_isCovered 54 = .ok (.ireturn, 1) := by decide +kernel
set_option maxRecDepth 20000 in
theorem ggX9_firstDueDay_X5_lives : GoodIn wsX9_firstDueDay wsX5_lives := goodIn_r _ [8, 9, 10, 11, 12, 7, 13, 14, 73, 74, 75, 76, 77, 78, 79, 80, 81, 82, 83] (by decide +kernel) (by decide +kernel)
set_option maxRecDepth 20000 in
theorem gX9_firstDueDay_X5_lives : GoodIn wsX9_firstDueDay (wsV RX9 148 RX5 yX5_lives wsX5_lives) := goodIn_app (goodIn_of _ (by decide +kernel)) ggX9_firstDueDay_X5_lives
set_option maxRecDepth 20000 in
theorem ggX9_firstDueDay_X5_isPut : GoodIn wsX9_firstDueDay wsX5_isPut := goodIn_r _ [18, 19, 10, 11, 12, 7, 13, 14, 73, 74, 75, 76, 77, 78, 79, 80, 81, 82, 83] (by decide +kernel) (by decide +kernel)
set_option maxRecDepth 20000 in
theorem gX9_firstDueDay_X5_isPut : GoodIn wsX9_firstDueDay (wsV RX9 219 RX5 yX5_isPut wsX5_isPut) := goodIn_app (goodIn_of _ (by decide +kernel)) ggX9_firstDueDay_X5_isPut
set_option maxRecDepth 20000 in
theorem ggX9_firstDueDay_X5_kindOf : GoodIn wsX9_firstDueDay wsX5_kindOf := goodIn_r _ [23, 24, 25, 5, 6, 7, 8, 9, 10, 11, 12, 13, 14, 73, 74, 75, 76, 77, 78, 79, 80, 81, 82, 83] (by decide +kernel) (by decide +kernel)
set_option maxRecDepth 20000 in
theorem gX9_firstDueDay_X5_kindOf : GoodIn wsX9_firstDueDay (wsV RX9 241 RX5 yX5_kindOf wsX5_kindOf) := goodIn_app (goodIn_of _ (by decide +kernel)) ggX9_firstDueDay_X5_kindOf
set_option maxRecDepth 20000 in
theorem ggX9_firstDueDay_X5_personsOf : GoodIn wsX9_firstDueDay wsX5_personsOf := goodIn_r _ [29, 30, 25, 5, 6, 7, 8, 9, 10, 11, 12, 13, 14, 73, 74, 75, 76, 77, 78, 79, 80, 81, 82, 83] (by decide +kernel) (by decide +kernel)
set_option maxRecDepth 20000 in
theorem gX9_firstDueDay_X5_personsOf : GoodIn wsX9_firstDueDay (wsV RX9 247 RX5 yX5_personsOf wsX5_personsOf) := goodIn_app (goodIn_of _ (by decide +kernel)) ggX9_firstDueDay_X5_personsOf
set_option maxRecDepth 20000 in
theorem ggX9_firstDueDay_X3_latestDay : GoodIn wsX9_firstDueDay wsX3_latestDay := goodIn_r _ [35, 36, 37, 38, 39, 40, 41, 42, 43, 44, 45, 46, 84, 85, 86, 87] (by decide +kernel) (by decide +kernel)
set_option maxRecDepth 20000 in
theorem gX9_firstDueDay_X3_latestDay : GoodIn wsX9_firstDueDay (wsV RX9 289 RX3 yX3_latestDay wsX3_latestDay) := goodIn_app (goodIn_of _ (by decide +kernel)) ggX9_firstDueDay_X3_latestDay
set_option maxRecDepth 20000 in
theorem ggX9_firstDueDay_X5_dayOf : GoodIn wsX9_firstDueDay wsX5_dayOf := goodIn_r _ [50, 51, 25, 5, 6, 7, 8, 9, 10, 11, 12, 13, 14, 73, 74, 75, 76, 77, 78, 79, 80, 81, 82, 83] (by decide +kernel) (by decide +kernel)
set_option maxRecDepth 20000 in
theorem gX9_firstDueDay_X5_dayOf : GoodIn wsX9_firstDueDay (wsV RX9 244 RX5 yX5_dayOf wsX5_dayOf) := goodIn_app (goodIn_of _ (by decide +kernel)) ggX9_firstDueDay_X5_dayOf
set_option maxRecDepth 20000 in
theorem ggX9_firstDueDay_X6_retentionOf : GoodIn wsX9_firstDueDay wsX6_retentionOf := goodIn_r _ [56, 57, 58, 59, 60, 55, 61, 62, 88, 89] (by decide +kernel) (by decide +kernel)
set_option maxRecDepth 20000 in
theorem gX9_firstDueDay_X6_retentionOf : GoodIn wsX9_firstDueDay (wsV RX9 292 RX6 yX6_retentionOf wsX6_retentionOf) := goodIn_app (goodIn_of _ (by decide +kernel)) ggX9_firstDueDay_X6_retentionOf
theorem dX9_firstDueDay_0 : decode cX9_firstDueDay 0 = .ok (.aload_n 0, 1) := by decide +kernel
theorem dX9_firstDueDay_1 : decode cX9_firstDueDay 1 = .ok (.getfield 61, 3) := by decide +kernel
theorem dX9_firstDueDay_4 : decode cX9_firstDueDay 4 = .ok (.iload_n 1, 1) := by decide +kernel
theorem dX9_firstDueDay_5 : decode cX9_firstDueDay 5 = .ok (.invokevirtual 148, 3) := by decide +kernel
theorem dX9_firstDueDay_8 : decode cX9_firstDueDay 8 = .ok (.ifCond .eq 14, 3) := by decide +kernel
theorem dX9_firstDueDay_11 : decode cX9_firstDueDay 11 = .ok (.aload_n 0, 1) := by decide +kernel
theorem dX9_firstDueDay_12 : decode cX9_firstDueDay 12 = .ok (.getfield 61, 3) := by decide +kernel
theorem dX9_firstDueDay_15 : decode cX9_firstDueDay 15 = .ok (.iload_n 1, 1) := by decide +kernel
theorem dX9_firstDueDay_16 : decode cX9_firstDueDay 16 = .ok (.invokevirtual 219, 3) := by decide +kernel
theorem dX9_firstDueDay_19 : decode cX9_firstDueDay 19 = .ok (.ifCond .ne 5, 3) := by decide +kernel
theorem dX9_firstDueDay_22 : decode cX9_firstDueDay 22 = .ok (.iconst (-1), 1) := by decide +kernel
theorem dX9_firstDueDay_23 : decode cX9_firstDueDay 23 = .ok (.ireturn, 1) := by decide +kernel
theorem dX9_firstDueDay_24 : decode cX9_firstDueDay 24 = .ok (.aload_n 0, 1) := by decide +kernel
theorem dX9_firstDueDay_25 : decode cX9_firstDueDay 25 = .ok (.getfield 61, 3) := by decide +kernel
theorem dX9_firstDueDay_28 : decode cX9_firstDueDay 28 = .ok (.iload_n 1, 1) := by decide +kernel
theorem dX9_firstDueDay_29 : decode cX9_firstDueDay 29 = .ok (.invokevirtual 241, 3) := by decide +kernel
theorem dX9_firstDueDay_32 : decode cX9_firstDueDay 32 = .ok (.istore_n 2, 1) := by decide +kernel
theorem dX9_firstDueDay_33 : decode cX9_firstDueDay 33 = .ok (.aload_n 0, 1) := by decide +kernel
theorem dX9_firstDueDay_34 : decode cX9_firstDueDay 34 = .ok (.getfield 47, 3) := by decide +kernel
theorem dX9_firstDueDay_37 : decode cX9_firstDueDay 37 = .ok (.aload_n 0, 1) := by decide +kernel
theorem dX9_firstDueDay_38 : decode cX9_firstDueDay 38 = .ok (.getfield 61, 3) := by decide +kernel
theorem dX9_firstDueDay_41 : decode cX9_firstDueDay 41 = .ok (.iload_n 1, 1) := by decide +kernel
theorem dX9_firstDueDay_42 : decode cX9_firstDueDay 42 = .ok (.invokevirtual 247, 3) := by decide +kernel
theorem dX9_firstDueDay_45 : decode cX9_firstDueDay 45 = .ok (.iload_n 2, 1) := by decide +kernel
theorem dX9_firstDueDay_46 : decode cX9_firstDueDay 46 = .ok (.invokevirtual 289, 3) := by decide +kernel
theorem dX9_firstDueDay_49 : decode cX9_firstDueDay 49 = .ok (.istore_n 3, 1) := by decide +kernel
theorem dX9_firstDueDay_50 : decode cX9_firstDueDay 50 = .ok (.iload_n 3, 1) := by decide +kernel
theorem dX9_firstDueDay_51 : decode cX9_firstDueDay 51 = .ok (.iconst (-1), 1) := by decide +kernel
theorem dX9_firstDueDay_52 : decode cX9_firstDueDay 52 = .ok (.if_icmp .eq 15, 3) := by decide +kernel
theorem dX9_firstDueDay_55 : decode cX9_firstDueDay 55 = .ok (.iload_n 3, 1) := by decide +kernel
theorem dX9_firstDueDay_56 : decode cX9_firstDueDay 56 = .ok (.aload_n 0, 1) := by decide +kernel
theorem dX9_firstDueDay_57 : decode cX9_firstDueDay 57 = .ok (.getfield 61, 3) := by decide +kernel
theorem dX9_firstDueDay_60 : decode cX9_firstDueDay 60 = .ok (.iload_n 1, 1) := by decide +kernel
theorem dX9_firstDueDay_61 : decode cX9_firstDueDay 61 = .ok (.invokevirtual 244, 3) := by decide +kernel
theorem dX9_firstDueDay_64 : decode cX9_firstDueDay 64 = .ok (.if_icmp .ge 5, 3) := by decide +kernel
theorem dX9_firstDueDay_67 : decode cX9_firstDueDay 67 = .ok (.iconst (-1), 1) := by decide +kernel
theorem dX9_firstDueDay_68 : decode cX9_firstDueDay 68 = .ok (.ireturn, 1) := by decide +kernel
theorem dX9_firstDueDay_69 : decode cX9_firstDueDay 69 = .ok (.iload_n 3, 1) := by decide +kernel
theorem dX9_firstDueDay_70 : decode cX9_firstDueDay 70 = .ok (.aload_n 0, 1) := by decide +kernel
theorem dX9_firstDueDay_71 : decode cX9_firstDueDay 71 = .ok (.getfield 19, 3) := by decide +kernel
theorem dX9_firstDueDay_74 : decode cX9_firstDueDay 74 = .ok (.iload_n 2, 1) := by decide +kernel
theorem dX9_firstDueDay_75 : decode cX9_firstDueDay 75 = .ok (.invokevirtual 292, 3) := by decide +kernel
theorem dX9_firstDueDay_78 : decode cX9_firstDueDay 78 = .ok (.iadd, 1) := by decide +kernel
theorem dX9_firstDueDay_79 : decode cX9_firstDueDay 79 = .ok (.ireturn, 1) := by decide +kernel
theorem dX10_init_0 : decode cX10_init 0 = .ok (.aload_n 0, 1) := by decide +kernel
theorem dX10_init_1 : decode cX10_init 1 = .ok (.invokespecial 1, 3) := by decide +kernel
theorem dX10_init_4 : decode cX10_init 4 = .ok (.aload_n 0, 1) := by decide +kernel
theorem dX10_init_5 : decode cX10_init 5 = .ok (.iconst 1, 1) := by decide +kernel
theorem dX10_init_6 : decode cX10_init 6 = .ok (.putfield 7, 3) := by decide +kernel
theorem dX10_init_9 : decode cX10_init 9 = .ok (.aload_n 0, 1) := by decide +kernel
theorem dX10_init_10 : decode cX10_init 10 = .ok (.bipush 16, 2) := by decide +kernel
theorem dX10_init_12 : decode cX10_init 12 = .ok (.newarray .int, 2) := by decide +kernel
theorem dX10_init_14 : decode cX10_init 14 = .ok (.putfield 13, 3) := by decide +kernel
theorem dX10_init_17 : decode cX10_init 17 = .ok (.aload_n 0, 1) := by decide +kernel
theorem dX10_init_18 : decode cX10_init 18 = .ok (.bipush 8, 2) := by decide +kernel
theorem dX10_init_20 : decode cX10_init 20 = .ok (.newarray .int, 2) := by decide +kernel
theorem dX10_init_22 : decode cX10_init 22 = .ok (.putfield 17, 3) := by decide +kernel
theorem dX10_init_25 : decode cX10_init 25 = .ok (.aload_n 0, 1) := by decide +kernel
theorem dX10_init_26 : decode cX10_init 26 = .ok (.bipush 100, 2) := by decide +kernel
theorem dX10_init_28 : decode cX10_init 28 = .ok (.newarray .int, 2) := by decide +kernel
theorem dX10_init_30 : decode cX10_init 30 = .ok (.putfield 20, 3) := by decide +kernel
theorem dX10_init_33 : decode cX10_init 33 = .ok (.aload_n 0, 1) := by decide +kernel
theorem dX10_init_34 : decode cX10_init 34 = .ok (.bipush 100, 2) := by decide +kernel
theorem dX10_init_36 : decode cX10_init 36 = .ok (.newarray .int, 2) := by decide +kernel
theorem dX10_init_38 : decode cX10_init 38 = .ok (.putfield 23, 3) := by decide +kernel
theorem dX10_init_41 : decode cX10_init 41 = .ok (.aload_n 0, 1) := by decide +kernel
theorem dX10_init_42 : decode cX10_init 42 = .ok (.bipush 100, 2) := by decide +kernel
theorem dX10_init_44 : decode cX10_init 44 = .ok (.newarray .int, 2) := by decide +kernel
theorem dX10_init_46 : decode cX10_init 46 = .ok (.putfield 26, 3) := by decide +kernel
theorem dX10_init_49 : decode cX10_init 49 = .ok (.aload_n 0, 1) := by decide +kernel
theorem dX10_init_50 : decode cX10_init 50 = .ok (.bipush 100, 2) := by decide +kernel
theorem dX10_init_52 : decode cX10_init 52 = .ok (.newarray .boolean, 2) := by decide +kernel
theorem dX10_init_54 : decode cX10_init 54 = .ok (.putfield 29, 3) := by decide +kernel
theorem dX10_init_57 : decode cX10_init 57 = .ok (.aload_n 0, 1) := by decide +kernel
theorem dX10_init_58 : decode cX10_init 58 = .ok (.bipush 40, 2) := by decide +kernel
theorem dX10_init_60 : decode cX10_init 60 = .ok (.newarray .int, 2) := by decide +kernel
theorem dX10_init_62 : decode cX10_init 62 = .ok (.putfield 33, 3) := by decide +kernel
theorem dX10_init_65 : decode cX10_init 65 = .ok (.aload_n 0, 1) := by decide +kernel
theorem dX10_init_66 : decode cX10_init 66 = .ok (.bipush 40, 2) := by decide +kernel
theorem dX10_init_68 : decode cX10_init 68 = .ok (.newarray .int, 2) := by decide +kernel
theorem dX10_init_70 : decode cX10_init 70 = .ok (.putfield 36, 3) := by decide +kernel
theorem dX10_init_73 : decode cX10_init 73 = .ok (.aload_n 0, 1) := by decide +kernel
theorem dX10_init_74 : decode cX10_init 74 = .ok (.bipush 40, 2) := by decide +kernel
theorem dX10_init_76 : decode cX10_init 76 = .ok (.newarray .int, 2) := by decide +kernel
theorem dX10_init_78 : decode cX10_init 78 = .ok (.putfield 39, 3) := by decide +kernel
theorem dX10_init_81 : decode cX10_init 81 = .ok (.aload_n 0, 1) := by decide +kernel
theorem dX10_init_82 : decode cX10_init 82 = .ok (.bipush 40, 2) := by decide +kernel
theorem dX10_init_84 : decode cX10_init 84 = .ok (.newarray .int, 2) := by decide +kernel
theorem dX10_init_86 : decode cX10_init 86 = .ok (.putfield 42, 3) := by decide +kernel
theorem dX10_init_89 : decode cX10_init 89 = .ok (.aload_n 0, 1) := by decide +kernel
theorem dX10_init_90 : decode cX10_init 90 = .ok (.bipush 20, 2) := by decide +kernel
theorem dX10_init_92 : decode cX10_init 92 = .ok (.newarray .int, 2) := by decide +kernel
theorem dX10_init_94 : decode cX10_init 94 = .ok (.putfield 45, 3) := by decide +kernel
theorem dX10_init_97 : decode cX10_init 97 = .ok (.aload_n 0, 1) := by decide +kernel
theorem dX10_init_98 : decode cX10_init 98 = .ok (.bipush 20, 2) := by decide +kernel
theorem dX10_init_100 : decode cX10_init 100 = .ok (.newarray .int, 2) := by decide +kernel
theorem dX10_init_102 : decode cX10_init 102 = .ok (.putfield 48, 3) := by decide +kernel
theorem dX10_init_105 : decode cX10_init 105 = .ok (.aload_n 0, 1) := by decide +kernel
theorem dX10_init_106 : decode cX10_init 106 = .ok (.bipush 20, 2) := by decide +kernel
theorem dX10_init_108 : decode cX10_init 108 = .ok (.newarray .int, 2) := by decide +kernel
theorem dX10_init_110 : decode cX10_init 110 = .ok (.putfield 51, 3) := by decide +kernel
theorem dX10_init_113 : decode cX10_init 113 = .ok (.aload_n 0, 1) := by decide +kernel
theorem dX10_init_114 : decode cX10_init 114 = .ok (.bipush 100, 2) := by decide +kernel
theorem dX10_init_116 : decode cX10_init 116 = .ok (.newarray .int, 2) := by decide +kernel
theorem dX10_init_118 : decode cX10_init 118 = .ok (.putfield 54, 3) := by decide +kernel
theorem dX10_init_121 : decode cX10_init 121 = .ok (.aload_n 0, 1) := by decide +kernel
theorem dX10_init_122 : decode cX10_init 122 = .ok (.bipush 100, 2) := by decide +kernel
theorem dX10_init_124 : decode cX10_init 124 = .ok (.newarray .int, 2) := by decide +kernel
theorem dX10_init_126 : decode cX10_init 126 = .ok (.putfield 57, 3) := by decide +kernel
theorem dX10_init_129 : decode cX10_init 129 = .ok (.aload_n 0, 1) := by decide +kernel
theorem dX10_init_130 : decode cX10_init 130 = .ok (.bipush 100, 2) := by decide +kernel
theorem dX10_init_132 : decode cX10_init 132 = .ok (.newarray .int, 2) := by decide +kernel
theorem dX10_init_134 : decode cX10_init 134 = .ok (.putfield 60, 3) := by decide +kernel
theorem dX10_init_137 : decode cX10_init 137 = .ok (.aload_n 0, 1) := by decide +kernel
theorem dX10_init_138 : decode cX10_init 138 = .ok (.bipush 100, 2) := by decide +kernel
theorem dX10_init_140 : decode cX10_init 140 = .ok (.newarray .int, 2) := by decide +kernel
theorem dX10_init_142 : decode cX10_init 142 = .ok (.putfield 63, 3) := by decide +kernel
theorem dX10_init_145 : decode cX10_init 145 = .ok (.aload_n 0, 1) := by decide +kernel
theorem dX10_init_146 : decode cX10_init 146 = .ok (.bipush 100, 2) := by decide +kernel
theorem dX10_init_148 : decode cX10_init 148 = .ok (.newarray .int, 2) := by decide +kernel
theorem dX10_init_150 : decode cX10_init 150 = .ok (.putfield 66, 3) := by decide +kernel
theorem dX10_init_153 : decode cX10_init 153 = .ok (.aload_n 0, 1) := by decide +kernel
theorem dX10_init_154 : decode cX10_init 154 = .ok (.bipush 100, 2) := by decide +kernel
theorem dX10_init_156 : decode cX10_init 156 = .ok (.newarray .int, 2) := by decide +kernel
theorem dX10_init_158 : decode cX10_init 158 = .ok (.putfield 69, 3) := by decide +kernel
theorem dX10_init_161 : decode cX10_init 161 = .ok (.aload_n 0, 1) := by decide +kernel
theorem dX10_init_162 : decode cX10_init 162 = .ok (.bipush 100, 2) := by decide +kernel
theorem dX10_init_164 : decode cX10_init 164 = .ok (.newarray .int, 2) := by decide +kernel
theorem dX10_init_166 : decode cX10_init 166 = .ok (.putfield 72, 3) := by decide +kernel
theorem dX10_init_169 : decode cX10_init 169 = .ok (.aload_n 0, 1) := by decide +kernel
theorem dX10_init_170 : decode cX10_init 170 = .ok (.bipush 100, 2) := by decide +kernel
theorem dX10_init_172 : decode cX10_init 172 = .ok (.newarray .boolean, 2) := by decide +kernel
theorem dX10_init_174 : decode cX10_init 174 = .ok (.putfield 75, 3) := by decide +kernel
theorem dX10_init_177 : decode cX10_init 177 = .ok (.aload_n 0, 1) := by decide +kernel
theorem dX10_init_178 : decode cX10_init 178 = .ok (.bipush 100, 2) := by decide +kernel
theorem dX10_init_180 : decode cX10_init 180 = .ok (.newarray .long, 2) := by decide +kernel
theorem dX10_init_182 : decode cX10_init 182 = .ok (.putfield 78, 3) := by decide +kernel
theorem dX10_init_185 : decode cX10_init 185 = .ok (.aload_n 0, 1) := by decide +kernel
theorem dX10_init_186 : decode cX10_init 186 = .ok (.bipush 100, 2) := by decide +kernel
theorem dX10_init_188 : decode cX10_init 188 = .ok (.newarray .boolean, 2) := by decide +kernel
theorem dX10_init_190 : decode cX10_init 190 = .ok (.putfield 82, 3) := by decide +kernel
theorem dX10_init_193 : decode cX10_init 193 = .ok (.aload_n 0, 1) := by decide +kernel
theorem dX10_init_194 : decode cX10_init 194 = .ok (.bipush 60, 2) := by decide +kernel
theorem dX10_init_196 : decode cX10_init 196 = .ok (.newarray .int, 2) := by decide +kernel
theorem dX10_init_198 : decode cX10_init 198 = .ok (.putfield 85, 3) := by decide +kernel
theorem dX10_init_201 : decode cX10_init 201 = .ok (.aload_n 0, 1) := by decide +kernel
theorem dX10_init_202 : decode cX10_init 202 = .ok (.bipush 60, 2) := by decide +kernel
theorem dX10_init_204 : decode cX10_init 204 = .ok (.newarray .int, 2) := by decide +kernel
theorem dX10_init_206 : decode cX10_init 206 = .ok (.putfield 88, 3) := by decide +kernel
theorem dX10_init_209 : decode cX10_init 209 = .ok (.aload_n 0, 1) := by decide +kernel
theorem dX10_init_210 : decode cX10_init 210 = .ok (.bipush 60, 2) := by decide +kernel
theorem dX10_init_212 : decode cX10_init 212 = .ok (.newarray .int, 2) := by decide +kernel
theorem dX10_init_214 : decode cX10_init 214 = .ok (.putfield 91, 3) := by decide +kernel
theorem dX10_init_217 : decode cX10_init 217 = .ok (.aload_n 0, 1) := by decide +kernel
theorem dX10_init_218 : decode cX10_init 218 = .ok (.bipush 30, 2) := by decide +kernel
theorem dX10_init_220 : decode cX10_init 220 = .ok (.newarray .int, 2) := by decide +kernel
theorem dX10_init_222 : decode cX10_init 222 = .ok (.putfield 94, 3) := by decide +kernel
theorem dX10_init_225 : decode cX10_init 225 = .ok (.aload_n 0, 1) := by decide +kernel
theorem dX10_init_226 : decode cX10_init 226 = .ok (.bipush 30, 2) := by decide +kernel
theorem dX10_init_228 : decode cX10_init 228 = .ok (.newarray .int, 2) := by decide +kernel
theorem dX10_init_230 : decode cX10_init 230 = .ok (.putfield 97, 3) := by decide +kernel
theorem dX10_init_233 : decode cX10_init 233 = .ok (.aload_n 0, 1) := by decide +kernel
theorem dX10_init_234 : decode cX10_init 234 = .ok (.bipush 30, 2) := by decide +kernel
theorem dX10_init_236 : decode cX10_init 236 = .ok (.newarray .int, 2) := by decide +kernel
theorem dX10_init_238 : decode cX10_init 238 = .ok (.putfield 100, 3) := by decide +kernel
theorem dX10_init_241 : decode cX10_init 241 = .ok (.aload_n 0, 1) := by decide +kernel
theorem dX10_init_242 : decode cX10_init 242 = .ok (.bipush 30, 2) := by decide +kernel
theorem dX10_init_244 : decode cX10_init 244 = .ok (.newarray .int, 2) := by decide +kernel
theorem dX10_init_246 : decode cX10_init 246 = .ok (.putfield 103, 3) := by decide +kernel
theorem dX10_init_249 : decode cX10_init 249 = .ok (.aload_n 0, 1) := by decide +kernel
theorem dX10_init_250 : decode cX10_init 250 = .ok (.sipush 200, 3) := by decide +kernel
theorem dX10_init_253 : decode cX10_init 253 = .ok (.newarray .int, 2) := by decide +kernel
theorem dX10_init_255 : decode cX10_init 255 = .ok (.putfield 106, 3) := by decide +kernel
theorem dX10_init_258 : decode cX10_init 258 = .ok (.aload_n 0, 1) := by decide +kernel
theorem dX10_init_259 : decode cX10_init 259 = .ok (.sipush 200, 3) := by decide +kernel
theorem dX10_init_262 : decode cX10_init 262 = .ok (.newarray .int, 2) := by decide +kernel
theorem dX10_init_264 : decode cX10_init 264 = .ok (.putfield 109, 3) := by decide +kernel
theorem dX10_init_267 : decode cX10_init 267 = .ok (.aload_n 0, 1) := by decide +kernel
theorem dX10_init_268 : decode cX10_init 268 = .ok (.sipush 200, 3) := by decide +kernel
theorem dX10_init_271 : decode cX10_init 271 = .ok (.newarray .int, 2) := by decide +kernel
theorem dX10_init_273 : decode cX10_init 273 = .ok (.putfield 112, 3) := by decide +kernel
theorem dX10_init_276 : decode cX10_init 276 = .ok (.aload_n 0, 1) := by decide +kernel
theorem dX10_init_277 : decode cX10_init 277 = .ok (.sipush 200, 3) := by decide +kernel
theorem dX10_init_280 : decode cX10_init 280 = .ok (.newarray .int, 2) := by decide +kernel
theorem dX10_init_282 : decode cX10_init 282 = .ok (.putfield 115, 3) := by decide +kernel
theorem dX10_init_285 : decode cX10_init 285 = .ok (.aload_n 0, 1) := by decide +kernel
theorem dX10_init_286 : decode cX10_init 286 = .ok (.iconst (-1), 1) := by decide +kernel
theorem dX10_init_287 : decode cX10_init 287 = .ok (.putfield 118, 3) := by decide +kernel
theorem dX10_init_290 : decode cX10_init 290 = .ok (.aload_n 0, 1) := by decide +kernel
theorem dX10_init_291 : decode cX10_init 291 = .ok (.getfield 13, 3) := by decide +kernel
theorem dX10_init_294 : decode cX10_init 294 = .ok (.iconst 0, 1) := by decide +kernel
theorem dX10_init_295 : decode cX10_init 295 = .ok (.iconst (-1), 1) := by decide +kernel
theorem dX10_init_296 : decode cX10_init 296 = .ok (.iastore, 1) := by decide +kernel
theorem dX10_init_297 : decode cX10_init 297 = .ok (.return_, 1) := by decide +kernel
theorem dX10_thrown_0 : decode cX10_thrown 0 = .ok (.aload_n 0, 1) := by decide +kernel
theorem dX10_thrown_1 : decode cX10_thrown 1 = .ok (.getfield 121, 3) := by decide +kernel
theorem dX10_thrown_4 : decode cX10_thrown 4 = .ok (.ireturn, 1) := by decide +kernel
theorem dX10_says_0 : decode cX10_says 0 = .ok (.aload_n 0, 1) := by decide +kernel
theorem dX10_says_1 : decode cX10_says 1 = .ok (.iload_n 1, 1) := by decide +kernel
theorem dX10_says_2 : decode cX10_says 2 = .ok (.putfield 121, 3) := by decide +kernel
theorem dX10_says_5 : decode cX10_says 5 = .ok (.iload_n 1, 1) := by decide +kernel
theorem dX10_says_6 : decode cX10_says 6 = .ok (.ifCond .ne 7, 3) := by decide +kernel
theorem dX10_says_9 : decode cX10_says 9 = .ok (.iconst 1, 1) := by decide +kernel
theorem dX10_says_10 : decode cX10_says 10 = .ok (.goto 4, 3) := by decide +kernel
theorem dX10_says_13 : decode cX10_says 13 = .ok (.iconst 0, 1) := by decide +kernel
theorem dX10_says_14 : decode cX10_says 14 = .ok (.ireturn, 1) := by decide +kernel
theorem dX10_in_0 : decode cX10_in 0 = .ok (.iload_n 0, 1) := by decide +kernel
theorem dX10_in_1 : decode cX10_in 1 = .ok (.iload_n 1, 1) := by decide +kernel
theorem dX10_in_2 : decode cX10_in 2 = .ok (.if_icmp .lt 12, 3) := by decide +kernel
theorem dX10_in_5 : decode cX10_in 5 = .ok (.iload_n 0, 1) := by decide +kernel
theorem dX10_in_6 : decode cX10_in 6 = .ok (.iload_n 2, 1) := by decide +kernel
theorem dX10_in_7 : decode cX10_in 7 = .ok (.if_icmp .gt 7, 3) := by decide +kernel
theorem dX10_in_10 : decode cX10_in 10 = .ok (.iconst 1, 1) := by decide +kernel
theorem dX10_in_11 : decode cX10_in 11 = .ok (.goto 4, 3) := by decide +kernel
theorem dX10_in_14 : decode cX10_in 14 = .ok (.iconst 0, 1) := by decide +kernel
theorem dX10_in_15 : decode cX10_in 15 = .ok (.ireturn, 1) := by decide +kernel
set_option maxRecDepth 20000 in
theorem ggX10_isPurpose_X10_in : GoodIn wsX10_isPurpose wsX10_in := goodIn_r _ [5] (by decide +kernel) (by decide +kernel)
set_option maxRecDepth 20000 in
theorem gX10_isPurpose_X10_in : GoodIn wsX10_isPurpose (va_wsS RX10 124 yX10_in wsX10_in) := goodIn_app (goodIn_of _ (by decide +kernel)) ggX10_isPurpose_X10_in
theorem dX10_isPurpose_0 : decode cX10_isPurpose 0 = .ok (.iload_n 1, 1) := by decide +kernel
theorem dX10_isPurpose_1 : decode cX10_isPurpose 1 = .ok (.iconst 0, 1) := by decide +kernel
theorem dX10_isPurpose_2 : decode cX10_isPurpose 2 = .ok (.aload_n 0, 1) := by decide +kernel
theorem dX10_isPurpose_3 : decode cX10_isPurpose 3 = .ok (.getfield 7, 3) := by decide +kernel
theorem dX10_isPurpose_6 : decode cX10_isPurpose 6 = .ok (.iconst 1, 1) := by decide +kernel
theorem dX10_isPurpose_7 : decode cX10_isPurpose 7 = .ok (.isub, 1) := by decide +kernel
theorem dX10_isPurpose_8 : decode cX10_isPurpose 8 = .ok (.invokestatic 124, 3) := by decide +kernel
theorem dX10_isPurpose_11 : decode cX10_isPurpose 11 = .ok (.ireturn, 1) := by decide +kernel
set_option maxRecDepth 20000 in
theorem ggX10_isKind_X10_in : GoodIn wsX10_isKind wsX10_in := goodIn_r _ [5] (by decide +kernel) (by decide +kernel)
set_option maxRecDepth 20000 in
theorem gX10_isKind_X10_in : GoodIn wsX10_isKind (va_wsS RX10 124 yX10_in wsX10_in) := goodIn_app (goodIn_of _ (by decide +kernel)) ggX10_isKind_X10_in
theorem dX10_isKind_0 : decode cX10_isKind 0 = .ok (.iload_n 1, 1) := by decide +kernel
theorem dX10_isKind_1 : decode cX10_isKind 1 = .ok (.iconst 0, 1) := by decide +kernel
theorem dX10_isKind_2 : decode cX10_isKind 2 = .ok (.aload_n 0, 1) := by decide +kernel
theorem dX10_isKind_3 : decode cX10_isKind 3 = .ok (.getfield 128, 3) := by decide +kernel
theorem dX10_isKind_6 : decode cX10_isKind 6 = .ok (.iconst 1, 1) := by decide +kernel
theorem dX10_isKind_7 : decode cX10_isKind 7 = .ok (.isub, 1) := by decide +kernel
theorem dX10_isKind_8 : decode cX10_isKind 8 = .ok (.invokestatic 124, 3) := by decide +kernel
theorem dX10_isKind_11 : decode cX10_isKind 11 = .ok (.ireturn, 1) := by decide +kernel
set_option maxRecDepth 20000 in
theorem ggX10_isPerson_X10_in : GoodIn wsX10_isPerson wsX10_in := goodIn_r _ [4] (by decide +kernel) (by decide +kernel)
set_option maxRecDepth 20000 in
theorem gX10_isPerson_X10_in : GoodIn wsX10_isPerson (va_wsS RX10 124 yX10_in wsX10_in) := goodIn_app (goodIn_of _ (by decide +kernel)) ggX10_isPerson_X10_in
theorem dX10_isPerson_0 : decode cX10_isPerson 0 = .ok (.iload_n 0, 1) := by decide +kernel
theorem dX10_isPerson_1 : decode cX10_isPerson 1 = .ok (.iconst 0, 1) := by decide +kernel
theorem dX10_isPerson_2 : decode cX10_isPerson 2 = .ok (.bipush 15, 2) := by decide +kernel
theorem dX10_isPerson_4 : decode cX10_isPerson 4 = .ok (.invokestatic 124, 3) := by decide +kernel
theorem dX10_isPerson_7 : decode cX10_isPerson 7 = .ok (.ireturn, 1) := by decide +kernel
set_option maxRecDepth 20000 in
theorem ggX10_isMinute_X10_in : GoodIn wsX10_isMinute wsX10_in := goodIn_r _ [5] (by decide +kernel) (by decide +kernel)
set_option maxRecDepth 20000 in
theorem gX10_isMinute_X10_in : GoodIn wsX10_isMinute (va_wsS RX10 124 yX10_in wsX10_in) := goodIn_app (goodIn_of _ (by decide +kernel)) ggX10_isMinute_X10_in
theorem dX10_isMinute_0 : decode cX10_isMinute 0 = .ok (.iload_n 0, 1) := by decide +kernel
theorem dX10_isMinute_1 : decode cX10_isMinute 1 = .ok (.iconst 0, 1) := by decide +kernel
theorem dX10_isMinute_2 : decode cX10_isMinute 2 = .ok (.ldc 131, 2) := by decide +kernel
theorem dX10_isMinute_4 : decode cX10_isMinute 4 = .ok (.invokestatic 124, 3) := by decide +kernel
theorem dX10_isMinute_7 : decode cX10_isMinute 7 = .ok (.ireturn, 1) := by decide +kernel
set_option maxRecDepth 20000 in
theorem ggX10_purpose_X10_isPurpose : GoodIn wsX10_purpose wsX10_isPurpose := goodIn_r _ [7, 1, 8, 9, 6, 10, 16, 17, 18, 19, 20, 21, 22, 23, 24, 25, 26, 27, 28, 29, 30, 31, 32, 33, 34, 35, 36, 37, 38, 39, 40, 41, 42, 43, 44, 45, 46, 47, 48, 49, 50, 51, 52, 53, 54, 55, 56, 57, 58, 59, 60] (by decide +kernel) (by decide +kernel)
set_option maxRecDepth 20000 in
theorem gX10_purpose_X10_isPurpose : GoodIn wsX10_purpose (wsV RX10 132 RX10 yX10_isPurpose wsX10_isPurpose) := goodIn_app (goodIn_of _ (by decide +kernel)) ggX10_purpose_X10_isPurpose
set_option maxRecDepth 20000 in
theorem ggX10_purpose_X10_says : GoodIn wsX10_purpose wsX10_says := goodIn_r _ [14, 15, 16, 17, 18, 19, 20, 21, 22, 23, 24, 25, 26, 27, 28, 29, 30, 31, 32, 33, 34, 35, 36, 37, 38, 39, 40, 41, 42, 43, 44, 45, 46, 47, 48, 49, 50, 51, 52, 53, 54, 55, 56, 57, 58, 59, 60] (by decide +kernel) (by decide +kernel)
set_option maxRecDepth 20000 in
theorem gX10_purpose_X10_says : GoodIn wsX10_purpose (wsV RX10 136 RX10 yX10_says wsX10_says) := goodIn_app (goodIn_of _ (by decide +kernel)) ggX10_purpose_X10_says
theorem dX10_purpose_0 : decode cX10_purpose 0 = .ok (.aload_n 0, 1) := by decide +kernel
theorem dX10_purpose_1 : decode cX10_purpose 1 = .ok (.aload_n 0, 1) := by decide +kernel
theorem dX10_purpose_2 : decode cX10_purpose 2 = .ok (.iload_n 1, 1) := by decide +kernel
theorem dX10_purpose_3 : decode cX10_purpose 3 = .ok (.invokevirtual 132, 3) := by decide +kernel
theorem dX10_purpose_6 : decode cX10_purpose 6 = .ok (.ifCond .ne 7, 3) := by decide +kernel
theorem dX10_purpose_9 : decode cX10_purpose 9 = .ok (.iconst 1, 1) := by decide +kernel
theorem dX10_purpose_10 : decode cX10_purpose 10 = .ok (.goto 17, 3) := by decide +kernel
theorem dX10_purpose_13 : decode cX10_purpose 13 = .ok (.aload_n 0, 1) := by decide +kernel
theorem dX10_purpose_14 : decode cX10_purpose 14 = .ok (.getfield 7, 3) := by decide +kernel
theorem dX10_purpose_17 : decode cX10_purpose 17 = .ok (.bipush 16, 2) := by decide +kernel
theorem dX10_purpose_19 : decode cX10_purpose 19 = .ok (.if_icmp .ne 7, 3) := by decide +kernel
theorem dX10_purpose_22 : decode cX10_purpose 22 = .ok (.iconst 2, 1) := by decide +kernel
theorem dX10_purpose_23 : decode cX10_purpose 23 = .ok (.goto 4, 3) := by decide +kernel
theorem dX10_purpose_26 : decode cX10_purpose 26 = .ok (.iconst 0, 1) := by decide +kernel
theorem dX10_purpose_27 : decode cX10_purpose 27 = .ok (.invokevirtual 136, 3) := by decide +kernel
theorem dX10_purpose_30 : decode cX10_purpose 30 = .ok (.ifCond .ne 5, 3) := by decide +kernel
theorem dX10_purpose_33 : decode cX10_purpose 33 = .ok (.iconst 0, 1) := by decide +kernel
theorem dX10_purpose_34 : decode cX10_purpose 34 = .ok (.ireturn, 1) := by decide +kernel
theorem dX10_purpose_35 : decode cX10_purpose 35 = .ok (.aload_n 0, 1) := by decide +kernel
theorem dX10_purpose_36 : decode cX10_purpose 36 = .ok (.getfield 13, 3) := by decide +kernel
theorem dX10_purpose_39 : decode cX10_purpose 39 = .ok (.aload_n 0, 1) := by decide +kernel
theorem dX10_purpose_40 : decode cX10_purpose 40 = .ok (.getfield 7, 3) := by decide +kernel
theorem dX10_purpose_43 : decode cX10_purpose 43 = .ok (.iload_n 1, 1) := by decide +kernel
theorem dX10_purpose_44 : decode cX10_purpose 44 = .ok (.iastore, 1) := by decide +kernel
theorem dX10_purpose_45 : decode cX10_purpose 45 = .ok (.aload_n 0, 1) := by decide +kernel
theorem dX10_purpose_46 : decode cX10_purpose 46 = .ok (.dup, 1) := by decide +kernel
theorem dX10_purpose_47 : decode cX10_purpose 47 = .ok (.getfield 7, 3) := by decide +kernel
theorem dX10_purpose_50 : decode cX10_purpose 50 = .ok (.iconst 1, 1) := by decide +kernel
theorem dX10_purpose_51 : decode cX10_purpose 51 = .ok (.iadd, 1) := by decide +kernel
theorem dX10_purpose_52 : decode cX10_purpose 52 = .ok (.putfield 7, 3) := by decide +kernel
theorem dX10_purpose_55 : decode cX10_purpose 55 = .ok (.aload_n 0, 1) := by decide +kernel
theorem dX10_purpose_56 : decode cX10_purpose 56 = .ok (.getfield 7, 3) := by decide +kernel
theorem dX10_purpose_59 : decode cX10_purpose 59 = .ok (.iconst 1, 1) := by decide +kernel
theorem dX10_purpose_60 : decode cX10_purpose 60 = .ok (.isub, 1) := by decide +kernel
theorem dX10_purpose_61 : decode cX10_purpose 61 = .ok (.ireturn, 1) := by decide +kernel
set_option maxRecDepth 20000 in
theorem ggX10_kind_X10_in : GoodIn wsX10_kind wsX10_in := goodIn_r _ [6] (by decide +kernel) (by decide +kernel)
set_option maxRecDepth 20000 in
theorem gX10_kind_X10_in : GoodIn wsX10_kind (va_wsS RX10 124 yX10_in wsX10_in) := goodIn_app (goodIn_of _ (by decide +kernel)) ggX10_kind_X10_in
set_option maxRecDepth 20000 in
theorem ggX10_kind_X10_says : GoodIn wsX10_kind wsX10_says := goodIn_r _ [10, 11, 12, 13, 14, 15, 16, 17, 18, 19, 20, 21, 22, 23, 24, 25, 26, 27, 28, 29, 30, 31, 32, 33, 34, 35, 36, 37, 38, 39, 40, 41, 42, 43, 44, 45, 46, 47, 48, 49, 50, 51, 52, 53, 54, 55, 56] (by decide +kernel) (by decide +kernel)
set_option maxRecDepth 20000 in
theorem gX10_kind_X10_says : GoodIn wsX10_kind (wsV RX10 136 RX10 yX10_says wsX10_says) := goodIn_app (goodIn_of _ (by decide +kernel)) ggX10_kind_X10_says
theorem dX10_kind_0 : decode cX10_kind 0 = .ok (.aload_n 0, 1) := by decide +kernel
theorem dX10_kind_1 : decode cX10_kind 1 = .ok (.iload_n 1, 1) := by decide +kernel
theorem dX10_kind_2 : decode cX10_kind 2 = .ok (.iconst 1, 1) := by decide +kernel
theorem dX10_kind_3 : decode cX10_kind 3 = .ok (.sipush 5000, 3) := by decide +kernel
theorem dX10_kind_6 : decode cX10_kind 6 = .ok (.invokestatic 124, 3) := by decide +kernel
theorem dX10_kind_9 : decode cX10_kind 9 = .ok (.ifCond .ne 7, 3) := by decide +kernel
theorem dX10_kind_12 : decode cX10_kind 12 = .ok (.iconst 1, 1) := by decide +kernel
theorem dX10_kind_13 : decode cX10_kind 13 = .ok (.goto 17, 3) := by decide +kernel
theorem dX10_kind_16 : decode cX10_kind 16 = .ok (.aload_n 0, 1) := by decide +kernel
theorem dX10_kind_17 : decode cX10_kind 17 = .ok (.getfield 128, 3) := by decide +kernel
theorem dX10_kind_20 : decode cX10_kind 20 = .ok (.bipush 8, 2) := by decide +kernel
theorem dX10_kind_22 : decode cX10_kind 22 = .ok (.if_icmp .ne 7, 3) := by decide +kernel
theorem dX10_kind_25 : decode cX10_kind 25 = .ok (.iconst 2, 1) := by decide +kernel
theorem dX10_kind_26 : decode cX10_kind 26 = .ok (.goto 4, 3) := by decide +kernel
theorem dX10_kind_29 : decode cX10_kind 29 = .ok (.iconst 0, 1) := by decide +kernel
theorem dX10_kind_30 : decode cX10_kind 30 = .ok (.invokevirtual 136, 3) := by decide +kernel
theorem dX10_kind_33 : decode cX10_kind 33 = .ok (.ifCond .ne 5, 3) := by decide +kernel
theorem dX10_kind_36 : decode cX10_kind 36 = .ok (.iconst 0, 1) := by decide +kernel
theorem dX10_kind_37 : decode cX10_kind 37 = .ok (.ireturn, 1) := by decide +kernel
theorem dX10_kind_38 : decode cX10_kind 38 = .ok (.aload_n 0, 1) := by decide +kernel
theorem dX10_kind_39 : decode cX10_kind 39 = .ok (.getfield 17, 3) := by decide +kernel
theorem dX10_kind_42 : decode cX10_kind 42 = .ok (.aload_n 0, 1) := by decide +kernel
theorem dX10_kind_43 : decode cX10_kind 43 = .ok (.getfield 128, 3) := by decide +kernel
theorem dX10_kind_46 : decode cX10_kind 46 = .ok (.iload_n 1, 1) := by decide +kernel
theorem dX10_kind_47 : decode cX10_kind 47 = .ok (.iastore, 1) := by decide +kernel
theorem dX10_kind_48 : decode cX10_kind 48 = .ok (.aload_n 0, 1) := by decide +kernel
theorem dX10_kind_49 : decode cX10_kind 49 = .ok (.dup, 1) := by decide +kernel
theorem dX10_kind_50 : decode cX10_kind 50 = .ok (.getfield 128, 3) := by decide +kernel
theorem dX10_kind_53 : decode cX10_kind 53 = .ok (.iconst 1, 1) := by decide +kernel
theorem dX10_kind_54 : decode cX10_kind 54 = .ok (.iadd, 1) := by decide +kernel
theorem dX10_kind_55 : decode cX10_kind 55 = .ok (.putfield 128, 3) := by decide +kernel
theorem dX10_kind_58 : decode cX10_kind 58 = .ok (.aload_n 0, 1) := by decide +kernel
theorem dX10_kind_59 : decode cX10_kind 59 = .ok (.getfield 128, 3) := by decide +kernel
theorem dX10_kind_62 : decode cX10_kind 62 = .ok (.iconst 1, 1) := by decide +kernel
theorem dX10_kind_63 : decode cX10_kind 63 = .ok (.isub, 1) := by decide +kernel
theorem dX10_kind_64 : decode cX10_kind 64 = .ok (.ireturn, 1) := by decide +kernel
set_option maxRecDepth 20000 in
theorem ggX10_consent_X10_isPerson : GoodIn wsX10_consent wsX10_isPerson := goodIn_r _ [9, 10, 11, 8, 12] (by decide +kernel) (by decide +kernel)
set_option maxRecDepth 20000 in
theorem gX10_consent_X10_isPerson : GoodIn wsX10_consent (va_wsS RX10 139 yX10_isPerson wsX10_isPerson) := goodIn_app (goodIn_of _ (by decide +kernel)) ggX10_consent_X10_isPerson
set_option maxRecDepth 20000 in
theorem ggX10_consent_X10_isPurpose : GoodIn wsX10_consent wsX10_isPurpose := goodIn_r _ [16, 17, 10, 11, 8, 12, 27, 28, 29, 30, 31, 32, 33, 34, 35, 36, 37, 38, 39, 40, 41, 42, 43, 44, 45, 46, 47, 48, 49, 50, 51, 52, 53, 54, 55, 56, 57, 58, 59, 60, 61, 62, 63, 64, 65, 66, 67, 68, 69, 70, 71] (by decide +kernel) (by decide +kernel)
set_option maxRecDepth 20000 in
theorem gX10_consent_X10_isPurpose : GoodIn wsX10_consent (wsV RX10 132 RX10 yX10_isPurpose wsX10_isPurpose) := goodIn_app (goodIn_of _ (by decide +kernel)) ggX10_consent_X10_isPurpose
set_option maxRecDepth 20000 in
theorem ggX10_consent_X10_isMinute : GoodIn wsX10_consent wsX10_isMinute := goodIn_r _ [20, 21, 10, 11, 8, 12] (by decide +kernel) (by decide +kernel)
set_option maxRecDepth 20000 in
theorem gX10_consent_X10_isMinute : GoodIn wsX10_consent (va_wsS RX10 142 yX10_isMinute wsX10_isMinute) := goodIn_app (goodIn_of _ (by decide +kernel)) ggX10_consent_X10_isMinute
set_option maxRecDepth 20000 in
theorem ggX10_consent_X10_says : GoodIn wsX10_consent wsX10_says := goodIn_r _ [25, 26, 27, 28, 29, 30, 31, 32, 33, 34, 35, 36, 37, 38, 39, 40, 41, 42, 43, 44, 45, 46, 47, 48, 49, 50, 51, 52, 53, 54, 55, 56, 57, 58, 59, 60, 61, 62, 63, 64, 65, 66, 67, 68, 69, 70, 71] (by decide +kernel) (by decide +kernel)
set_option maxRecDepth 20000 in
theorem gX10_consent_X10_says : GoodIn wsX10_consent (wsV RX10 136 RX10 yX10_says wsX10_says) := goodIn_app (goodIn_of _ (by decide +kernel)) ggX10_consent_X10_says
theorem dX10_consent_0 : decode cX10_consent 0 = .ok (.aload_n 0, 1) := by decide +kernel
theorem dX10_consent_1 : decode cX10_consent 1 = .ok (.iload_n 1, 1) := by decide +kernel
theorem dX10_consent_2 : decode cX10_consent 2 = .ok (.invokestatic 139, 3) := by decide +kernel
theorem dX10_consent_5 : decode cX10_consent 5 = .ok (.ifCond .eq 19, 3) := by decide +kernel
theorem dX10_consent_8 : decode cX10_consent 8 = .ok (.aload_n 0, 1) := by decide +kernel
theorem dX10_consent_9 : decode cX10_consent 9 = .ok (.iload_n 2, 1) := by decide +kernel
theorem dX10_consent_10 : decode cX10_consent 10 = .ok (.invokevirtual 132, 3) := by decide +kernel
theorem dX10_consent_13 : decode cX10_consent 13 = .ok (.ifCond .eq 11, 3) := by decide +kernel

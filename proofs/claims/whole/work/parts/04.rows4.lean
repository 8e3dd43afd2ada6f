theorem dX10_erase_0 : decode cX10_erase 0 = .ok (.aload_n 0, 1) := by decide +kernel
theorem dX10_erase_1 : decode cX10_erase 1 = .ok (.iload_n 1, 1) := by decide +kernel
theorem dX10_erase_2 : decode cX10_erase 2 = .ok (.invokestatic 139, 3) := by decide +kernel
theorem dX10_erase_5 : decode cX10_erase 5 = .ok (.ifCond .eq 10, 3) := by decide +kernel
theorem dX10_erase_8 : decode cX10_erase 8 = .ok (.iload_n 2, 1) := by decide +kernel
theorem dX10_erase_9 : decode cX10_erase 9 = .ok (.invokestatic 142, 3) := by decide +kernel
theorem dX10_erase_12 : decode cX10_erase 12 = .ok (.ifCond .ne 7, 3) := by decide +kernel
theorem dX10_erase_15 : decode cX10_erase 15 = .ok (.iconst 1, 1) := by decide +kernel
theorem dX10_erase_16 : decode cX10_erase 16 = .ok (.goto 4, 3) := by decide +kernel
theorem dX10_erase_19 : decode cX10_erase 19 = .ok (.iconst 0, 1) := by decide +kernel
theorem dX10_erase_20 : decode cX10_erase 20 = .ok (.invokevirtual 136, 3) := by decide +kernel
theorem dX10_erase_23 : decode cX10_erase 23 = .ok (.ifCond .ne 5, 3) := by decide +kernel
theorem dX10_erase_26 : decode cX10_erase 26 = .ok (.iconst 0, 1) := by decide +kernel
theorem dX10_erase_27 : decode cX10_erase 27 = .ok (.ireturn, 1) := by decide +kernel
theorem dX10_erase_28 : decode cX10_erase 28 = .ok (.aload_n 0, 1) := by decide +kernel
theorem dX10_erase_29 : decode cX10_erase 29 = .ok (.iload_n 1, 1) := by decide +kernel
theorem dX10_erase_30 : decode cX10_erase 30 = .ok (.iload_n 2, 1) := by decide +kernel
theorem dX10_erase_31 : decode cX10_erase 31 = .ok (.sipush 1440, 3) := by decide +kernel
theorem dX10_erase_34 : decode cX10_erase 34 = .ok (.idiv, 1) := by decide +kernel
theorem dX10_erase_35 : decode cX10_erase 35 = .ok (.invokevirtual 223, 3) := by decide +kernel
theorem dX10_erase_38 : decode cX10_erase 38 = .ok (.ireturn, 1) := by decide +kernel
set_option maxRecDepth 20000 in
theorem ggX10_sweep_X10_in : GoodIn wsX10_sweep wsX10_in := goodIn_r _ [4] (by decide +kernel) (by decide +kernel)
set_option maxRecDepth 20000 in
theorem gX10_sweep_X10_in : GoodIn wsX10_sweep (va_wsS RX10 124 yX10_in wsX10_in) := goodIn_app (goodIn_of _ (by decide +kernel)) ggX10_sweep_X10_in
set_option maxRecDepth 20000 in
theorem ggX10_sweep_X10_says : GoodIn wsX10_sweep wsX10_says := goodIn_r _ [8, 9, 63, 64, 65, 66, 67, 68, 69, 70, 71, 72, 73, 74, 75, 76, 77, 78, 79, 80, 81, 82, 83, 84, 85, 86, 87, 88, 89, 90, 91, 92, 93, 94, 95, 96, 97, 98, 99, 100, 101, 102, 103, 104, 105, 106, 107] (by decide +kernel) (by decide +kernel)
set_option maxRecDepth 20000 in
theorem gX10_sweep_X10_says : GoodIn wsX10_sweep (wsV RX10 136 RX10 yX10_says wsX10_says) := goodIn_app (goodIn_of _ (by decide +kernel)) ggX10_sweep_X10_says
set_option maxRecDepth 20000 in
theorem ggX10_sweep_X10_eraseOf : GoodIn wsX10_sweep wsX10_eraseOf := goodIn_r _ [13, 14, 15, 16, 17, 18, 19, 20, 21, 3, 22, 23, 24, 25, 26, 27, 28, 29, 30, 31, 32, 33, 34, 35, 36, 37, 38, 39, 40, 41, 42, 43, 44, 45, 46, 47, 48, 49, 50, 51, 52, 53, 54, 55, 56, 57, 58, 59, 60, 61, 62, 63, 64, 65, 66, 67, 68, 69, 70, 71, 72, 73, 74, 75, 76, 77, 78, 79, 80, 81, 82, 83, 84, 85, 86, 87, 88, 89, 90, 91, 92, 93, 94, 95, 96, 97, 98, 99, 100, 101, 102, 103, 104, 105, 106, 107] (by decide +kernel) (by decide +kernel)
set_option maxRecDepth 20000 in
theorem gX10_sweep_X10_eraseOf : GoodIn wsX10_sweep (wsV RX10 223 RX10 yX10_eraseOf wsX10_eraseOf) := goodIn_app (goodIn_of _ (by decide +kernel)) ggX10_sweep_X10_eraseOf
theorem dX10_sweep_0 : decode cX10_sweep 0 = .ok (.aload_n 0, 1) := by decide +kernel
theorem dX10_sweep_1 : decode cX10_sweep 1 = .ok (.iload_n 1, 1) := by decide +kernel
theorem dX10_sweep_2 : decode cX10_sweep 2 = .ok (.iconst 0, 1) := by decide +kernel
theorem dX10_sweep_3 : decode cX10_sweep 3 = .ok (.sipush 6944, 3) := by decide +kernel
theorem dX10_sweep_6 : decode cX10_sweep 6 = .ok (.invokestatic 124, 3) := by decide +kernel
theorem dX10_sweep_9 : decode cX10_sweep 9 = .ok (.ifCond .ne 7, 3) := by decide +kernel
theorem dX10_sweep_12 : decode cX10_sweep 12 = .ok (.iconst 1, 1) := by decide +kernel
theorem dX10_sweep_13 : decode cX10_sweep 13 = .ok (.goto 4, 3) := by decide +kernel
theorem dX10_sweep_16 : decode cX10_sweep 16 = .ok (.iconst 0, 1) := by decide +kernel
theorem dX10_sweep_17 : decode cX10_sweep 17 = .ok (.invokevirtual 136, 3) := by decide +kernel
theorem dX10_sweep_20 : decode cX10_sweep 20 = .ok (.ifCond .ne 5, 3) := by decide +kernel
theorem dX10_sweep_23 : decode cX10_sweep 23 = .ok (.iconst 0, 1) := by decide +kernel
theorem dX10_sweep_24 : decode cX10_sweep 24 = .ok (.ireturn, 1) := by decide +kernel
theorem dX10_sweep_25 : decode cX10_sweep 25 = .ok (.aload_n 0, 1) := by decide +kernel
theorem dX10_sweep_26 : decode cX10_sweep 26 = .ok (.iconst (-1), 1) := by decide +kernel
theorem dX10_sweep_27 : decode cX10_sweep 27 = .ok (.iload_n 1, 1) := by decide +kernel
theorem dX10_sweep_28 : decode cX10_sweep 28 = .ok (.invokevirtual 223, 3) := by decide +kernel
theorem dX10_sweep_31 : decode cX10_sweep 31 = .ok (.ireturn, 1) := by decide +kernel
set_option maxRecDepth 20000 in
theorem ggX10_held_X10_isPerson : GoodIn wsX10_held wsX10_isPerson := goodIn_r _ [8, 9, 10, 7, 11] (by decide +kernel) (by decide +kernel)
set_option maxRecDepth 20000 in
theorem gX10_held_X10_isPerson : GoodIn wsX10_held (va_wsS RX10 139 yX10_isPerson wsX10_isPerson) := goodIn_app (goodIn_of _ (by decide +kernel)) ggX10_held_X10_isPerson
theorem dX10_held_0 : decode cX10_held 0 = .ok (.aload_n 0, 1) := by decide +kernel
theorem dX10_held_1 : decode cX10_held 1 = .ok (.iconst 0, 1) := by decide +kernel
theorem dX10_held_2 : decode cX10_held 2 = .ok (.putfield 121, 3) := by decide +kernel
theorem dX10_held_5 : decode cX10_held 5 = .ok (.iconst 0, 1) := by decide +kernel
theorem dX10_held_6 : decode cX10_held 6 = .ok (.istore_n 3, 1) := by decide +kernel
theorem dX10_held_7 : decode cX10_held 7 = .ok (.iconst 0, 1) := by decide +kernel
theorem dX10_held_8 : decode cX10_held 8 = .ok (.istore 4, 2) := by decide +kernel
theorem dX10_held_10 : decode cX10_held 10 = .ok (.iload 4, 2) := by decide +kernel
theorem dX10_held_12 : decode cX10_held 12 = .ok (.aload_n 0, 1) := by decide +kernel
theorem dX10_held_13 : decode cX10_held 13 = .ok (.getfield 157, 3) := by decide +kernel
theorem dX10_held_16 : decode cX10_held 16 = .ok (.if_icmp .ge 54, 3) := by decide +kernel
theorem dX10_held_19 : decode cX10_held 19 = .ok (.iload_n 1, 1) := by decide +kernel
theorem dX10_held_20 : decode cX10_held 20 = .ok (.invokestatic 139, 3) := by decide +kernel
theorem dX10_held_23 : decode cX10_held 23 = .ok (.ifCond .eq 47, 3) := by decide +kernel
theorem dX10_held_26 : decode cX10_held 26 = .ok (.aload_n 0, 1) := by decide +kernel
theorem dX10_held_27 : decode cX10_held 27 = .ok (.getfield 75, 3) := by decide +kernel
theorem dX10_held_30 : decode cX10_held 30 = .ok (.iload 4, 2) := by decide +kernel
theorem dX10_held_32 : decode cX10_held 32 = .ok (.baload, 1) := by decide +kernel
theorem dX10_held_33 : decode cX10_held 33 = .ok (.ifCond .eq 31, 3) := by decide +kernel
theorem dX10_held_36 : decode cX10_held 36 = .ok (.aload_n 0, 1) := by decide +kernel
theorem dX10_held_37 : decode cX10_held 37 = .ok (.getfield 63, 3) := by decide +kernel
theorem dX10_held_40 : decode cX10_held 40 = .ok (.iload 4, 2) := by decide +kernel
theorem dX10_held_42 : decode cX10_held 42 = .ok (.iaload, 1) := by decide +kernel
theorem dX10_held_43 : decode cX10_held 43 = .ok (.iload_n 1, 1) := by decide +kernel
theorem dX10_held_44 : decode cX10_held 44 = .ok (.ishr, 1) := by decide +kernel
theorem dX10_held_45 : decode cX10_held 45 = .ok (.iconst 1, 1) := by decide +kernel
theorem dX10_held_46 : decode cX10_held 46 = .ok (.iand, 1) := by decide +kernel
theorem dX10_held_47 : decode cX10_held 47 = .ok (.ifCond .ne 6, 3) := by decide +kernel
theorem dX10_held_50 : decode cX10_held 50 = .ok (.goto 14, 3) := by decide +kernel
theorem dX10_held_53 : decode cX10_held 53 = .ok (.iload_n 3, 1) := by decide +kernel
theorem dX10_held_54 : decode cX10_held 54 = .ok (.iload_n 2, 1) := by decide +kernel
theorem dX10_held_55 : decode cX10_held 55 = .ok (.if_icmp .ne 6, 3) := by decide +kernel
theorem dX10_held_58 : decode cX10_held 58 = .ok (.iload 4, 2) := by decide +kernel
theorem dX10_held_60 : decode cX10_held 60 = .ok (.ireturn, 1) := by decide +kernel
theorem dX10_held_61 : decode cX10_held 61 = .ok (.iinc 3 1, 3) := by decide +kernel
theorem dX10_held_64 : decode cX10_held 64 = .ok (.iinc 4 1, 3) := by decide +kernel
theorem dX10_held_67 : decode cX10_held 67 = .ok (.goto (-57), 3) := by decide +kernel
theorem dX10_held_70 : decode cX10_held 70 = .ok (.iconst (-1), 1) := by decide +kernel
theorem dX10_held_71 : decode cX10_held 71 = .ok (.ireturn, 1) := by decide +kernel
set_option maxRecDepth 20000 in
theorem ggX10_logged_X10_in : GoodIn wsX10_logged wsX10_in := goodIn_r _ [10] (by decide +kernel) (by decide +kernel)
set_option maxRecDepth 20000 in
theorem gX10_logged_X10_in : GoodIn wsX10_logged (va_wsS RX10 124 yX10_in wsX10_in) := goodIn_app (goodIn_of _ (by decide +kernel)) ggX10_logged_X10_in
theorem dX10_logged_0 : decode cX10_logged 0 = .ok (.aload_n 0, 1) := by decide +kernel
theorem dX10_logged_1 : decode cX10_logged 1 = .ok (.iconst 0, 1) := by decide +kernel
theorem dX10_logged_2 : decode cX10_logged 2 = .ok (.putfield 121, 3) := by decide +kernel
theorem dX10_logged_5 : decode cX10_logged 5 = .ok (.iload_n 1, 1) := by decide +kernel
theorem dX10_logged_6 : decode cX10_logged 6 = .ok (.iconst 0, 1) := by decide +kernel
theorem dX10_logged_7 : decode cX10_logged 7 = .ok (.aload_n 0, 1) := by decide +kernel
theorem dX10_logged_8 : decode cX10_logged 8 = .ok (.getfield 202, 3) := by decide +kernel
theorem dX10_logged_11 : decode cX10_logged 11 = .ok (.iconst 1, 1) := by decide +kernel
theorem dX10_logged_12 : decode cX10_logged 12 = .ok (.isub, 1) := by decide +kernel
theorem dX10_logged_13 : decode cX10_logged 13 = .ok (.invokestatic 124, 3) := by decide +kernel
theorem dX10_logged_16 : decode cX10_logged 16 = .ok (.ifCond .ne 5, 3) := by decide +kernel
theorem dX10_logged_19 : decode cX10_logged 19 = .ok (.iconst (-1), 1) := by decide +kernel
theorem dX10_logged_20 : decode cX10_logged 20 = .ok (.ireturn, 1) := by decide +kernel
theorem dX10_logged_21 : decode cX10_logged 21 = .ok (.iload_n 2, 1) := by decide +kernel
theorem dX10_logged_22 : decode cX10_logged 22 = .ok (.tableswitch 58 0 3 #[30, 37, 44, 51], 30) := by decide +kernel
theorem dX10_logged_52 : decode cX10_logged 52 = .ok (.aload_n 0, 1) := by decide +kernel
theorem dX10_logged_53 : decode cX10_logged 53 = .ok (.getfield 106, 3) := by decide +kernel
theorem dX10_logged_56 : decode cX10_logged 56 = .ok (.iload_n 1, 1) := by decide +kernel
theorem dX10_logged_57 : decode cX10_logged 57 = .ok (.iaload, 1) := by decide +kernel
theorem dX10_logged_58 : decode cX10_logged 58 = .ok (.ireturn, 1) := by decide +kernel
theorem dX10_logged_59 : decode cX10_logged 59 = .ok (.aload_n 0, 1) := by decide +kernel
theorem dX10_logged_60 : decode cX10_logged 60 = .ok (.getfield 109, 3) := by decide +kernel
theorem dX10_logged_63 : decode cX10_logged 63 = .ok (.iload_n 1, 1) := by decide +kernel
theorem dX10_logged_64 : decode cX10_logged 64 = .ok (.iaload, 1) := by decide +kernel
theorem dX10_logged_65 : decode cX10_logged 65 = .ok (.ireturn, 1) := by decide +kernel
theorem dX10_logged_66 : decode cX10_logged 66 = .ok (.aload_n 0, 1) := by decide +kernel
theorem dX10_logged_67 : decode cX10_logged 67 = .ok (.getfield 112, 3) := by decide +kernel
theorem dX10_logged_70 : decode cX10_logged 70 = .ok (.iload_n 1, 1) := by decide +kernel
theorem dX10_logged_71 : decode cX10_logged 71 = .ok (.iaload, 1) := by decide +kernel
theorem dX10_logged_72 : decode cX10_logged 72 = .ok (.ireturn, 1) := by decide +kernel
theorem dX10_logged_73 : decode cX10_logged 73 = .ok (.aload_n 0, 1) := by decide +kernel
theorem dX10_logged_74 : decode cX10_logged 74 = .ok (.getfield 115, 3) := by decide +kernel
theorem dX10_logged_77 : decode cX10_logged 77 = .ok (.iload_n 1, 1) := by decide +kernel
theorem dX10_logged_78 : decode cX10_logged 78 = .ok (.iaload, 1) := by decide +kernel
theorem dX10_logged_79 : decode cX10_logged 79 = .ok (.ireturn, 1) := by decide +kernel
theorem dX10_logged_80 : decode cX10_logged 80 = .ok (.iconst (-1), 1) := by decide +kernel
theorem dX10_logged_81 : decode cX10_logged 81 = .ok (.ireturn, 1) := by decide +kernel
theorem dX10_derivedFrom_0 : decode cX10_derivedFrom 0 = .ok (.iconst 0, 1) := by decide +kernel
theorem dX10_derivedFrom_1 : decode cX10_derivedFrom 1 = .ok (.istore_n 2, 1) := by decide +kernel
theorem dX10_derivedFrom_2 : decode cX10_derivedFrom 2 = .ok (.iconst 0, 1) := by decide +kernel
theorem dX10_derivedFrom_3 : decode cX10_derivedFrom 3 = .ok (.istore_n 3, 1) := by decide +kernel
theorem dX10_derivedFrom_4 : decode cX10_derivedFrom 4 = .ok (.iload_n 3, 1) := by decide +kernel
theorem dX10_derivedFrom_5 : decode cX10_derivedFrom 5 = .ok (.aload_n 0, 1) := by decide +kernel
theorem dX10_derivedFrom_6 : decode cX10_derivedFrom 6 = .ok (.getfield 157, 3) := by decide +kernel
theorem dX10_derivedFrom_9 : decode cX10_derivedFrom 9 = .ok (.if_icmp .ge 56, 3) := by decide +kernel
theorem dX10_derivedFrom_12 : decode cX10_derivedFrom 12 = .ok (.iload_n 2, 1) := by decide +kernel
theorem dX10_derivedFrom_13 : decode cX10_derivedFrom 13 = .ok (.aload_n 0, 1) := by decide +kernel
theorem dX10_derivedFrom_14 : decode cX10_derivedFrom 14 = .ok (.getfield 75, 3) := by decide +kernel
theorem dX10_derivedFrom_17 : decode cX10_derivedFrom 17 = .ok (.iload_n 3, 1) := by decide +kernel
theorem dX10_derivedFrom_18 : decode cX10_derivedFrom 18 = .ok (.baload, 1) := by decide +kernel
theorem dX10_derivedFrom_19 : decode cX10_derivedFrom 19 = .ok (.ifCond .eq 37, 3) := by decide +kernel
theorem dX10_derivedFrom_22 : decode cX10_derivedFrom 22 = .ok (.aload_n 0, 1) := by decide +kernel
theorem dX10_derivedFrom_23 : decode cX10_derivedFrom 23 = .ok (.getfield 54, 3) := by decide +kernel
theorem dX10_derivedFrom_26 : decode cX10_derivedFrom 26 = .ok (.iload_n 3, 1) := by decide +kernel
theorem dX10_derivedFrom_27 : decode cX10_derivedFrom 27 = .ok (.iaload, 1) := by decide +kernel
theorem dX10_derivedFrom_28 : decode cX10_derivedFrom 28 = .ok (.iconst (-1), 1) := by decide +kernel
theorem dX10_derivedFrom_29 : decode cX10_derivedFrom 29 = .ok (.if_icmp .eq 27, 3) := by decide +kernel
theorem dX10_derivedFrom_32 : decode cX10_derivedFrom 32 = .ok (.aload_n 0, 1) := by decide +kernel
theorem dX10_derivedFrom_33 : decode cX10_derivedFrom 33 = .ok (.getfield 66, 3) := by decide +kernel
theorem dX10_derivedFrom_36 : decode cX10_derivedFrom 36 = .ok (.iload_n 3, 1) := by decide +kernel
theorem dX10_derivedFrom_37 : decode cX10_derivedFrom 37 = .ok (.iaload, 1) := by decide +kernel
theorem dX10_derivedFrom_38 : decode cX10_derivedFrom 38 = .ok (.iload_n 1, 1) := by decide +kernel
theorem dX10_derivedFrom_39 : decode cX10_derivedFrom 39 = .ok (.if_icmp .eq 13, 3) := by decide +kernel
theorem dX10_derivedFrom_42 : decode cX10_derivedFrom 42 = .ok (.aload_n 0, 1) := by decide +kernel
theorem dX10_derivedFrom_43 : decode cX10_derivedFrom 43 = .ok (.getfield 69, 3) := by decide +kernel
theorem dX10_derivedFrom_46 : decode cX10_derivedFrom 46 = .ok (.iload_n 3, 1) := by decide +kernel
theorem dX10_derivedFrom_47 : decode cX10_derivedFrom 47 = .ok (.iaload, 1) := by decide +kernel
theorem dX10_derivedFrom_48 : decode cX10_derivedFrom 48 = .ok (.iload_n 1, 1) := by decide +kernel
theorem dX10_derivedFrom_49 : decode cX10_derivedFrom 49 = .ok (.if_icmp .ne 7, 3) := by decide +kernel
theorem dX10_derivedFrom_52 : decode cX10_derivedFrom 52 = .ok (.iconst 1, 1) := by decide +kernel
theorem dX10_derivedFrom_53 : decode cX10_derivedFrom 53 = .ok (.goto 4, 3) := by decide +kernel
theorem dX10_derivedFrom_56 : decode cX10_derivedFrom 56 = .ok (.iconst 0, 1) := by decide +kernel
theorem dX10_derivedFrom_57 : decode cX10_derivedFrom 57 = .ok (.iadd, 1) := by decide +kernel
theorem dX10_derivedFrom_58 : decode cX10_derivedFrom 58 = .ok (.istore_n 2, 1) := by decide +kernel
theorem dX10_derivedFrom_59 : decode cX10_derivedFrom 59 = .ok (.iinc 3 1, 3) := by decide +kernel
theorem dX10_derivedFrom_62 : decode cX10_derivedFrom 62 = .ok (.goto (-58), 3) := by decide +kernel
theorem dX10_derivedFrom_65 : decode cX10_derivedFrom 65 = .ok (.iload_n 2, 1) := by decide +kernel
theorem dX10_derivedFrom_66 : decode cX10_derivedFrom 66 = .ok (.ireturn, 1) := by decide +kernel
set_option maxRecDepth 20000 in
theorem ggX10_look_X10_isLiving : GoodIn wsX10_look wsX10_isLiving := goodIn_r _ [9, 10, 11, 12, 13, 8, 14, 31, 32, 33, 34, 35, 36, 37, 38, 39, 40, 41, 42, 43, 44, 45, 46, 47, 48, 49, 50, 51, 52, 53, 54, 55, 56, 57, 58, 59, 60, 61, 62, 63, 64, 65, 66, 67, 68, 69, 70, 71, 72, 73, 74, 75] (by decide +kernel) (by decide +kernel)
set_option maxRecDepth 20000 in
theorem gX10_look_X10_isLiving : GoodIn wsX10_look (wsV RX10 164 RX10 yX10_isLiving wsX10_isLiving) := goodIn_app (goodIn_of _ (by decide +kernel)) ggX10_look_X10_isLiving
set_option maxRecDepth 20000 in
theorem ggX10_look_X10_due : GoodIn wsX10_look wsX10_due := goodIn_r _ [18, 19, 20, 4, 21, 22, 2, 23, 3, 24, 31, 32, 33, 34, 35, 36, 37, 38, 39, 40, 41, 42, 43, 44, 45, 46, 47, 48, 49, 50, 51, 52, 53, 54, 55, 56, 57, 58, 59, 60, 61, 62, 63, 64, 65, 66, 67, 68, 69, 70, 71, 72, 73, 74, 75] (by decide +kernel) (by decide +kernel)
set_option maxRecDepth 20000 in
theorem gX10_look_X10_due : GoodIn wsX10_look (wsV RX10 215 RX10 yX10_due wsX10_due) := goodIn_app (goodIn_of _ (by decide +kernel)) ggX10_look_X10_due
set_option maxRecDepth 20000 in
theorem ggX10_look_X10_derivedFrom : GoodIn wsX10_look wsX10_derivedFrom := goodIn_r _ [28, 10, 11, 20, 29, 30, 31, 32, 33, 34, 35, 36, 37, 38, 39, 40, 41, 42, 43, 44, 45, 46, 47, 48, 49, 50, 51, 52, 53, 54, 55, 56, 57, 58, 59, 60, 61, 62, 63, 64, 65, 66, 67, 68, 69, 70, 71, 72, 73, 74, 75] (by decide +kernel) (by decide +kernel)
set_option maxRecDepth 20000 in
theorem gX10_look_X10_derivedFrom : GoodIn wsX10_look (wsV RX10 227 RX10 yX10_derivedFrom wsX10_derivedFrom) := goodIn_app (goodIn_of _ (by decide +kernel)) ggX10_look_X10_derivedFrom
theorem dX10_look_0 : decode cX10_look 0 = .ok (.aload_n 0, 1) := by decide +kernel
theorem dX10_look_1 : decode cX10_look 1 = .ok (.iconst 0, 1) := by decide +kernel
theorem dX10_look_2 : decode cX10_look 2 = .ok (.putfield 121, 3) := by decide +kernel
theorem dX10_look_5 : decode cX10_look 5 = .ok (.aload_n 0, 1) := by decide +kernel
theorem dX10_look_6 : decode cX10_look 6 = .ok (.iload_n 1, 1) := by decide +kernel
theorem dX10_look_7 : decode cX10_look 7 = .ok (.invokevirtual 164, 3) := by decide +kernel
theorem dX10_look_10 : decode cX10_look 10 = .ok (.ifCond .ne 5, 3) := by decide +kernel
theorem dX10_look_13 : decode cX10_look 13 = .ok (.iconst (-1), 1) := by decide +kernel
theorem dX10_look_14 : decode cX10_look 14 = .ok (.ireturn, 1) := by decide +kernel
theorem dX10_look_15 : decode cX10_look 15 = .ok (.iload_n 2, 1) := by decide +kernel
theorem dX10_look_16 : decode cX10_look 16 = .ok (.tableswitch 69 0 4 #[36, 43, 50, 57, 63], 36) := by decide +kernel
theorem dX10_look_52 : decode cX10_look 52 = .ok (.aload_n 0, 1) := by decide +kernel
theorem dX10_look_53 : decode cX10_look 53 = .ok (.getfield 57, 3) := by decide +kernel
theorem dX10_look_56 : decode cX10_look 56 = .ok (.iload_n 1, 1) := by decide +kernel
theorem dX10_look_57 : decode cX10_look 57 = .ok (.iaload, 1) := by decide +kernel
theorem dX10_look_58 : decode cX10_look 58 = .ok (.ireturn, 1) := by decide +kernel
theorem dX10_look_59 : decode cX10_look 59 = .ok (.aload_n 0, 1) := by decide +kernel
theorem dX10_look_60 : decode cX10_look 60 = .ok (.getfield 60, 3) := by decide +kernel
theorem dX10_look_63 : decode cX10_look 63 = .ok (.iload_n 1, 1) := by decide +kernel
theorem dX10_look_64 : decode cX10_look 64 = .ok (.iaload, 1) := by decide +kernel
theorem dX10_look_65 : decode cX10_look 65 = .ok (.ireturn, 1) := by decide +kernel
theorem dX10_look_66 : decode cX10_look 66 = .ok (.aload_n 0, 1) := by decide +kernel
theorem dX10_look_67 : decode cX10_look 67 = .ok (.getfield 63, 3) := by decide +kernel
theorem dX10_look_70 : decode cX10_look 70 = .ok (.iload_n 1, 1) := by decide +kernel
theorem dX10_look_71 : decode cX10_look 71 = .ok (.iaload, 1) := by decide +kernel
theorem dX10_look_72 : decode cX10_look 72 = .ok (.ireturn, 1) := by decide +kernel
theorem dX10_look_73 : decode cX10_look 73 = .ok (.aload_n 0, 1) := by decide +kernel
theorem dX10_look_74 : decode cX10_look 74 = .ok (.iload_n 1, 1) := by decide +kernel
theorem dX10_look_75 : decode cX10_look 75 = .ok (.invokevirtual 215, 3) := by decide +kernel
theorem dX10_look_78 : decode cX10_look 78 = .ok (.ireturn, 1) := by decide +kernel
theorem dX10_look_79 : decode cX10_look 79 = .ok (.aload_n 0, 1) := by decide +kernel
theorem dX10_look_80 : decode cX10_look 80 = .ok (.iload_n 1, 1) := by decide +kernel
theorem dX10_look_81 : decode cX10_look 81 = .ok (.invokevirtual 227, 3) := by decide +kernel
theorem dX10_look_84 : decode cX10_look 84 = .ok (.ireturn, 1) := by decide +kernel
theorem dX10_look_85 : decode cX10_look 85 = .ok (.iconst (-1), 1) := by decide +kernel
theorem dX10_look_86 : decode cX10_look 86 = .ok (.ireturn, 1) := by decide +kernel
theorem dX10_state_0 : decode cX10_state 0 = .ok (.aload_n 0, 1) := by decide +kernel
theorem dX10_state_1 : decode cX10_state 1 = .ok (.iconst 0, 1) := by decide +kernel
theorem dX10_state_2 : decode cX10_state 2 = .ok (.putfield 121, 3) := by decide +kernel
theorem dX10_state_5 : decode cX10_state 5 = .ok (.iconst 0, 1) := by decide +kernel
theorem dX10_state_6 : decode cX10_state 6 = .ok (.istore_n 2, 1) := by decide +kernel
theorem dX10_state_7 : decode cX10_state 7 = .ok (.iconst 0, 1) := by decide +kernel
theorem dX10_state_8 : decode cX10_state 8 = .ok (.istore_n 3, 1) := by decide +kernel
theorem dX10_state_9 : decode cX10_state 9 = .ok (.iload_n 3, 1) := by decide +kernel
theorem dX10_state_10 : decode cX10_state 10 = .ok (.aload_n 0, 1) := by decide +kernel
theorem dX10_state_11 : decode cX10_state 11 = .ok (.getfield 157, 3) := by decide +kernel
theorem dX10_state_14 : decode cX10_state 14 = .ok (.if_icmp .ge 26, 3) := by decide +kernel
theorem dX10_state_17 : decode cX10_state 17 = .ok (.iload_n 2, 1) := by decide +kernel
theorem dX10_state_18 : decode cX10_state 18 = .ok (.aload_n 0, 1) := by decide +kernel
theorem dX10_state_19 : decode cX10_state 19 = .ok (.getfield 75, 3) := by decide +kernel
theorem dX10_state_22 : decode cX10_state 22 = .ok (.iload_n 3, 1) := by decide +kernel
theorem dX10_state_23 : decode cX10_state 23 = .ok (.baload, 1) := by decide +kernel
theorem dX10_state_24 : decode cX10_state 24 = .ok (.ifCond .eq 7, 3) := by decide +kernel
theorem dX10_state_27 : decode cX10_state 27 = .ok (.iconst 1, 1) := by decide +kernel
theorem dX10_state_28 : decode cX10_state 28 = .ok (.goto 4, 3) := by decide +kernel
theorem dX10_state_31 : decode cX10_state 31 = .ok (.iconst 0, 1) := by decide +kernel
theorem dX10_state_32 : decode cX10_state 32 = .ok (.iadd, 1) := by decide +kernel
theorem dX10_state_33 : decode cX10_state 33 = .ok (.istore_n 2, 1) := by decide +kernel
theorem dX10_state_34 : decode cX10_state 34 = .ok (.iinc 3 1, 3) := by decide +kernel
theorem dX10_state_37 : decode cX10_state 37 = .ok (.goto (-28), 3) := by decide +kernel
theorem dX10_state_40 : decode cX10_state 40 = .ok (.iload_n 1, 1) := by decide +kernel
theorem dX10_state_41 : decode cX10_state 41 = .ok (.tableswitch 66 0 5 #[39, 44, 49, 54, 56, 61], 39) := by decide +kernel
theorem dX10_state_80 : decode cX10_state 80 = .ok (.aload_n 0, 1) := by decide +kernel
theorem dX10_state_81 : decode cX10_state 81 = .ok (.getfield 7, 3) := by decide +kernel
theorem dX10_state_84 : decode cX10_state 84 = .ok (.ireturn, 1) := by decide +kernel
theorem dX10_state_85 : decode cX10_state 85 = .ok (.aload_n 0, 1) := by decide +kernel
theorem dX10_state_86 : decode cX10_state 86 = .ok (.getfield 128, 3) := by decide +kernel
theorem dX10_state_89 : decode cX10_state 89 = .ok (.ireturn, 1) := by decide +kernel
theorem dX10_state_90 : decode cX10_state 90 = .ok (.aload_n 0, 1) := by decide +kernel
theorem dX10_state_91 : decode cX10_state 91 = .ok (.getfield 157, 3) := by decide +kernel
theorem dX10_state_94 : decode cX10_state 94 = .ok (.ireturn, 1) := by decide +kernel
theorem dX10_state_95 : decode cX10_state 95 = .ok (.iload_n 2, 1) := by decide +kernel
theorem dX10_state_96 : decode cX10_state 96 = .ok (.ireturn, 1) := by decide +kernel
theorem dX10_state_97 : decode cX10_state 97 = .ok (.aload_n 0, 1) := by decide +kernel
theorem dX10_state_98 : decode cX10_state 98 = .ok (.getfield 202, 3) := by decide +kernel
theorem dX10_state_101 : decode cX10_state 101 = .ok (.ireturn, 1) := by decide +kernel
theorem dX10_state_102 : decode cX10_state 102 = .ok (.aload_n 0, 1) := by decide +kernel
theorem dX10_state_103 : decode cX10_state 103 = .ok (.getfield 170, 3) := by decide +kernel
theorem dX10_state_106 : decode cX10_state 106 = .ok (.ireturn, 1) := by decide +kernel
theorem dX10_state_107 : decode cX10_state 107 = .ok (.iconst (-1), 1) := by decide +kernel
theorem dX10_state_108 : decode cX10_state 108 = .ok (.ireturn, 1) := by decide +kernel
theorem dJ9_max_7cf53_0 : decode cJ9_max_7cf53 0 = .ok (.iload_n 0, 1) := by decide +kernel
theorem dJ9_max_7cf53_1 : decode cJ9_max_7cf53 1 = .ok (.iload_n 1, 1) := by decide +kernel
theorem dJ9_max_7cf53_2 : decode cJ9_max_7cf53 2 = .ok (.if_icmp .lt 7, 3) := by decide +kernel
theorem dJ9_max_7cf53_5 : decode cJ9_max_7cf53 5 = .ok (.iload_n 0, 1) := by decide +kernel
theorem dJ9_max_7cf53_6 : decode cJ9_max_7cf53 6 = .ok (.goto 4, 3) := by decide +kernel
theorem dJ9_max_7cf53_9 : decode cJ9_max_7cf53 9 = .ok (.iload_n 1, 1) := by decide +kernel
theorem dJ9_max_7cf53_10 : decode cJ9_max_7cf53 10 = .ok (.ireturn, 1) := by decide +kernel

theorem ob_X9_use_71_4 (st : St) (a1 : Int32) (a2 : Int32) (a3 : Int32) (hok : okC st) (h8_1 : ¬ (sp_X8_has st a2) = 0) (h15_2 : ¬ (sp_X9_isMinute a3) = 0) (h36_3 : ¬ (sp_X5_lives st a1) = 0) : okC (sI st 9 (sp_X9_groundOf st a1 a2 a3)) := by
  exact hok
theorem ob_X9_use_96_6 (st : St) (a1 : Int32) (a2 : Int32) (a3 : Int32) (hok : okC st) (h8_1 : ¬ (sp_X8_has st a2) = 0) (h15_2 : ¬ (sp_X9_isMinute a3) = 0) (h36_3 : ¬ (sp_X5_lives st a1) = 0) (h78_5 : ¬ (sp_X7_add (sI st 9 (sp_X9_groundOf st a1 a2 a3)) a1 a2 a3 (sp_X9_groundOf st a1 a2 a3)).1 9 = 0) : okC (sp_X7_add (sI st 9 (sp_X9_groundOf st a1 a2 a3)) a1 a2 a3 (sp_X9_groundOf st a1 a2 a3)) := by
  exact (ok_X7_add (sI st 9 (sp_X9_groundOf st a1 a2 a3)) a1 a2 a3 (sp_X9_groundOf st a1 a2 a3) hok)
theorem ob_X9_erase_43_zero (st : St) (a1 : Int32) (a2 : Int32) (st_43 : St) (x4_43 : Int32) (hok : okC st) (h4_1 : ¬ (sp_X9_isPerson a1) = 0) (h11_2 : ¬ (sp_X9_isMinute a2) = 0) (hi0_43 : 0 ≤ x4_43.toInt) (hi1_43 : x4_43.toInt ≤ (st.1 7).toInt) (hi2_43 : (st.1 7).toInt < x4_43.toInt + 0) (hi3_43 : okC st_43) (hi4_43 : (st_43.1 7).toInt = (st.1 7).toInt) : False := by
  have z1 := okC_7 hok
  have z2 := okC_7 hi3_43
  have z3 := (by decide : (0 : Int32).toInt = 0)
  have z4 := (by decide : (7 : Int32).toInt = 7)
  clear h4_1 h11_2 hok hi3_43
  try simp only [sA_1, sL_1, sI_1, vp_in_iff, Int32.le_iff_toInt_le, Int32.lt_iff_toInt_lt, ← Int32.toInt_inj, reduceIte, Nat.reduceEqDiff] at *
  all_goals omega
theorem ob_X9_erase_43_inv0_5 (st : St) (a1 : Int32) (a2 : Int32) (n_43 : Nat) (st_43 : St) (x4_43 : Int32) (hok : okC st) (h4_1 : ¬ (sp_X9_isPerson a1) = 0) (h11_2 : ¬ (sp_X9_isMinute a2) = 0) (hi0_43 : 0 ≤ x4_43.toInt) (hi1_43 : x4_43.toInt ≤ (st.1 7).toInt) (hi2_43 : (st.1 7).toInt < x4_43.toInt + (n_43 + 1)) (hi3_43 : okC st_43) (hi4_43 : (st_43.1 7).toInt = (st.1 7).toInt) (h52_3 : ¬ (sp_X5_total st_43) ≤ x4_43) (h64_4 : (sp_X5_isPut st_43 x4_43) = 0) : 0 ≤ (x4_43 + 1).toInt := by
  have z1 := okC_7 hok
  have z2 := okC_7 hi3_43
  have z3 := (by decide : (0 : Int32).toInt = 0)
  have z4 := (by decide : (1 : Int32).toInt = 1)
  have z5 := (by decide : (7 : Int32).toInt = 7)
  have z6 := inc_I x4_43
  clear h4_1 h11_2 hi4_43 h64_4 hok hi3_43
  try simp only [sA_1, sL_1, sI_1, vp_in_iff, Int32.le_iff_toInt_le, Int32.lt_iff_toInt_lt, ← Int32.toInt_inj, reduceIte, Nat.reduceEqDiff, sp_X5_total] at *
  all_goals omega
theorem ob_X9_erase_43_inv1_6 (st : St) (a1 : Int32) (a2 : Int32) (n_43 : Nat) (st_43 : St) (x4_43 : Int32) (hok : okC st) (h4_1 : ¬ (sp_X9_isPerson a1) = 0) (h11_2 : ¬ (sp_X9_isMinute a2) = 0) (hi0_43 : 0 ≤ x4_43.toInt) (hi1_43 : x4_43.toInt ≤ (st.1 7).toInt) (hi2_43 : (st.1 7).toInt < x4_43.toInt + (n_43 + 1)) (hi3_43 : okC st_43) (hi4_43 : (st_43.1 7).toInt = (st.1 7).toInt) (h52_3 : ¬ (sp_X5_total st_43) ≤ x4_43) (h64_4 : (sp_X5_isPut st_43 x4_43) = 0) : (x4_43 + 1).toInt ≤ (st.1 7).toInt := by
  have z1 := okC_7 hok
  have z2 := okC_7 hi3_43
  have z3 := (by decide : (0 : Int32).toInt = 0)
  have z4 := (by decide : (1 : Int32).toInt = 1)
  have z5 := (by decide : (7 : Int32).toInt = 7)
  have z6 := inc_I x4_43
  clear h4_1 h11_2 h64_4 hok hi3_43
  try simp only [sA_1, sL_1, sI_1, vp_in_iff, Int32.le_iff_toInt_le, Int32.lt_iff_toInt_lt, ← Int32.toInt_inj, reduceIte, Nat.reduceEqDiff, sp_X5_total] at *
  all_goals omega
theorem ob_X9_erase_43_inv2_7 (st : St) (a1 : Int32) (a2 : Int32) (n_43 : Nat) (st_43 : St) (x4_43 : Int32) (hok : okC st) (h4_1 : ¬ (sp_X9_isPerson a1) = 0) (h11_2 : ¬ (sp_X9_isMinute a2) = 0) (hi0_43 : 0 ≤ x4_43.toInt) (hi1_43 : x4_43.toInt ≤ (st.1 7).toInt) (hi2_43 : (st.1 7).toInt < x4_43.toInt + (n_43 + 1)) (hi3_43 : okC st_43) (hi4_43 : (st_43.1 7).toInt = (st.1 7).toInt) (h52_3 : ¬ (sp_X5_total st_43) ≤ x4_43) (h64_4 : (sp_X5_isPut st_43 x4_43) = 0) : (st.1 7).toInt < (x4_43 + 1).toInt + n_43 := by
  have z1 := okC_7 hok
  have z2 := okC_7 hi3_43
  have z3 := (by decide : (0 : Int32).toInt = 0)
  have z4 := (by decide : (1 : Int32).toInt = 1)
  have z5 := (by decide : (7 : Int32).toInt = 7)
  have z6 := inc_I x4_43
  clear h4_1 h11_2 h64_4 hok hi3_43
  try simp only [sA_1, sL_1, sI_1, vp_in_iff, Int32.le_iff_toInt_le, Int32.lt_iff_toInt_lt, ← Int32.toInt_inj, reduceIte, Nat.reduceEqDiff, sp_X5_total] at *
  all_goals omega
theorem ob_X9_erase_43_inv3_8 (st : St) (a1 : Int32) (a2 : Int32) (n_43 : Nat) (st_43 : St) (x4_43 : Int32) (hok : okC st) (h4_1 : ¬ (sp_X9_isPerson a1) = 0) (h11_2 : ¬ (sp_X9_isMinute a2) = 0) (hi0_43 : 0 ≤ x4_43.toInt) (hi1_43 : x4_43.toInt ≤ (st.1 7).toInt) (hi2_43 : (st.1 7).toInt < x4_43.toInt + (n_43 + 1)) (hi3_43 : okC st_43) (hi4_43 : (st_43.1 7).toInt = (st.1 7).toInt) (h52_3 : ¬ (sp_X5_total st_43) ≤ x4_43) (h64_4 : (sp_X5_isPut st_43 x4_43) = 0) : okC st_43 := by
  exact hi3_43
theorem ob_X9_erase_43_inv4_9 (st : St) (a1 : Int32) (a2 : Int32) (n_43 : Nat) (st_43 : St) (x4_43 : Int32) (hok : okC st) (h4_1 : ¬ (sp_X9_isPerson a1) = 0) (h11_2 : ¬ (sp_X9_isMinute a2) = 0) (hi0_43 : 0 ≤ x4_43.toInt) (hi1_43 : x4_43.toInt ≤ (st.1 7).toInt) (hi2_43 : (st.1 7).toInt < x4_43.toInt + (n_43 + 1)) (hi3_43 : okC st_43) (hi4_43 : (st_43.1 7).toInt = (st.1 7).toInt) (h52_3 : ¬ (sp_X5_total st_43) ≤ x4_43) (h64_4 : (sp_X5_isPut st_43 x4_43) = 0) : (st_43.1 7).toInt = (st.1 7).toInt := by
  have z1 := okC_7 hok
  have z2 := okC_7 hi3_43
  have z3 := (by decide : (1 : Int32).toInt = 1)
  have z4 := (by decide : (7 : Int32).toInt = 7)
  clear h4_1 h11_2 hi0_43 h52_3 h64_4 hok hi3_43
  try simp only [sA_1, sL_1, sI_1, vp_in_iff, Int32.le_iff_toInt_le, Int32.lt_iff_toInt_lt, ← Int32.toInt_inj, reduceIte, Nat.reduceEqDiff] at *
  all_goals omega
theorem ob_X9_erase_43_inv0_11 (st : St) (a1 : Int32) (a2 : Int32) (n_43 : Nat) (st_43 : St) (x4_43 : Int32) (hok : okC st) (h4_1 : ¬ (sp_X9_isPerson a1) = 0) (h11_2 : ¬ (sp_X9_isMinute a2) = 0) (hi0_43 : 0 ≤ x4_43.toInt) (hi1_43 : x4_43.toInt ≤ (st.1 7).toInt) (hi2_43 : (st.1 7).toInt < x4_43.toInt + (n_43 + 1)) (hi3_43 : okC st_43) (hi4_43 : (st_43.1 7).toInt = (st.1 7).toInt) (h52_3 : ¬ (sp_X5_total st_43) ≤ x4_43) (h64_4 : ¬ (sp_X5_isPut st_43 x4_43) = 0) (h77_10 : (sp_X5_isAbout st_43 x4_43 a1) = 0) : 0 ≤ (x4_43 + 1).toInt := by
  have z1 := okC_7 hok
  have z2 := okC_7 hi3_43
  have z3 := (by decide : (0 : Int32).toInt = 0)
  have z4 := (by decide : (1 : Int32).toInt = 1)
  have z5 := (by decide : (7 : Int32).toInt = 7)
  have z6 := inc_I x4_43
  clear h4_1 h11_2 hi4_43 h64_4 h77_10 hok hi3_43
  try simp only [sA_1, sL_1, sI_1, vp_in_iff, Int32.le_iff_toInt_le, Int32.lt_iff_toInt_lt, ← Int32.toInt_inj, reduceIte, Nat.reduceEqDiff, sp_X5_total] at *
  all_goals omega
theorem ob_X9_erase_43_inv1_12 (st : St) (a1 : Int32) (a2 : Int32) (n_43 : Nat) (st_43 : St) (x4_43 : Int32) (hok : okC st) (h4_1 : ¬ (sp_X9_isPerson a1) = 0) (h11_2 : ¬ (sp_X9_isMinute a2) = 0) (hi0_43 : 0 ≤ x4_43.toInt) (hi1_43 : x4_43.toInt ≤ (st.1 7).toInt) (hi2_43 : (st.1 7).toInt < x4_43.toInt + (n_43 + 1)) (hi3_43 : okC st_43) (hi4_43 : (st_43.1 7).toInt = (st.1 7).toInt) (h52_3 : ¬ (sp_X5_total st_43) ≤ x4_43) (h64_4 : ¬ (sp_X5_isPut st_43 x4_43) = 0) (h77_10 : (sp_X5_isAbout st_43 x4_43 a1) = 0) : (x4_43 + 1).toInt ≤ (st.1 7).toInt := by
  have z1 := okC_7 hok
  have z2 := okC_7 hi3_43
  have z3 := (by decide : (0 : Int32).toInt = 0)
  have z4 := (by decide : (1 : Int32).toInt = 1)
  have z5 := (by decide : (7 : Int32).toInt = 7)
  have z6 := inc_I x4_43
  clear h4_1 h11_2 h64_4 h77_10 hok hi3_43
  try simp only [sA_1, sL_1, sI_1, vp_in_iff, Int32.le_iff_toInt_le, Int32.lt_iff_toInt_lt, ← Int32.toInt_inj, reduceIte, Nat.reduceEqDiff, sp_X5_total] at *
  all_goals omega
theorem ob_X9_erase_43_inv2_13 (st : St) (a1 : Int32) (a2 : Int32) (n_43 : Nat) (st_43 : St) (x4_43 : Int32) (hok : okC st) (h4_1 : ¬ (sp_X9_isPerson a1) = 0) (h11_2 : ¬ (sp_X9_isMinute a2) = 0) (hi0_43 : 0 ≤ x4_43.toInt) (hi1_43 : x4_43.toInt ≤ (st.1 7).toInt) (hi2_43 : (st.1 7).toInt < x4_43.toInt + (n_43 + 1)) (hi3_43 : okC st_43) (hi4_43 : (st_43.1 7).toInt = (st.1 7).toInt) (h52_3 : ¬ (sp_X5_total st_43) ≤ x4_43) (h64_4 : ¬ (sp_X5_isPut st_43 x4_43) = 0) (h77_10 : (sp_X5_isAbout st_43 x4_43 a1) = 0) : (st.1 7).toInt < (x4_43 + 1).toInt + n_43 := by
  have z1 := okC_7 hok
  have z2 := okC_7 hi3_43
  have z3 := (by decide : (0 : Int32).toInt = 0)
  have z4 := (by decide : (1 : Int32).toInt = 1)
  have z5 := (by decide : (7 : Int32).toInt = 7)
  have z6 := inc_I x4_43
  clear h4_1 h11_2 h64_4 h77_10 hok hi3_43
  try simp only [sA_1, sL_1, sI_1, vp_in_iff, Int32.le_iff_toInt_le, Int32.lt_iff_toInt_lt, ← Int32.toInt_inj, reduceIte, Nat.reduceEqDiff, sp_X5_total] at *
  all_goals omega
theorem ob_X9_erase_43_inv3_14 (st : St) (a1 : Int32) (a2 : Int32) (n_43 : Nat) (st_43 : St) (x4_43 : Int32) (hok : okC st) (h4_1 : ¬ (sp_X9_isPerson a1) = 0) (h11_2 : ¬ (sp_X9_isMinute a2) = 0) (hi0_43 : 0 ≤ x4_43.toInt) (hi1_43 : x4_43.toInt ≤ (st.1 7).toInt) (hi2_43 : (st.1 7).toInt < x4_43.toInt + (n_43 + 1)) (hi3_43 : okC st_43) (hi4_43 : (st_43.1 7).toInt = (st.1 7).toInt) (h52_3 : ¬ (sp_X5_total st_43) ≤ x4_43) (h64_4 : ¬ (sp_X5_isPut st_43 x4_43) = 0) (h77_10 : (sp_X5_isAbout st_43 x4_43 a1) = 0) : okC st_43 := by
  exact hi3_43
theorem ob_X9_erase_43_inv4_15 (st : St) (a1 : Int32) (a2 : Int32) (n_43 : Nat) (st_43 : St) (x4_43 : Int32) (hok : okC st) (h4_1 : ¬ (sp_X9_isPerson a1) = 0) (h11_2 : ¬ (sp_X9_isMinute a2) = 0) (hi0_43 : 0 ≤ x4_43.toInt) (hi1_43 : x4_43.toInt ≤ (st.1 7).toInt) (hi2_43 : (st.1 7).toInt < x4_43.toInt + (n_43 + 1)) (hi3_43 : okC st_43) (hi4_43 : (st_43.1 7).toInt = (st.1 7).toInt) (h52_3 : ¬ (sp_X5_total st_43) ≤ x4_43) (h64_4 : ¬ (sp_X5_isPut st_43 x4_43) = 0) (h77_10 : (sp_X5_isAbout st_43 x4_43 a1) = 0) : (st_43.1 7).toInt = (st.1 7).toInt := by
  have z1 := okC_7 hok
  have z2 := okC_7 hi3_43
  have z3 := (by decide : (1 : Int32).toInt = 1)
  have z4 := (by decide : (7 : Int32).toInt = 7)
  clear h4_1 h11_2 hi0_43 h52_3 h64_4 h77_10 hok hi3_43
  try simp only [sA_1, sL_1, sI_1, vp_in_iff, Int32.le_iff_toInt_le, Int32.lt_iff_toInt_lt, ← Int32.toInt_inj, reduceIte, Nat.reduceEqDiff] at *
  all_goals omega
theorem ob_X9_erase_43_inv0_16 (st : St) (a1 : Int32) (a2 : Int32) (n_43 : Nat) (st_43 : St) (x4_43 : Int32) (hok : okC st) (h4_1 : ¬ (sp_X9_isPerson a1) = 0) (h11_2 : ¬ (sp_X9_isMinute a2) = 0) (hi0_43 : 0 ≤ x4_43.toInt) (hi1_43 : x4_43.toInt ≤ (st.1 7).toInt) (hi2_43 : (st.1 7).toInt < x4_43.toInt + (n_43 + 1)) (hi3_43 : okC st_43) (hi4_43 : (st_43.1 7).toInt = (st.1 7).toInt) (h52_3 : ¬ (sp_X5_total st_43) ≤ x4_43) (h64_4 : ¬ (sp_X5_isPut st_43 x4_43) = 0) (h77_10 : ¬ (sp_X5_isAbout st_43 x4_43 a1) = 0) : 0 ≤ (x4_43 + 1).toInt := by
  have z1 := okC_7 hok
  have z2 := okC_7 hi3_43
  have z3 := (by decide : (0 : Int32).toInt = 0)
  have z4 := (by decide : (1 : Int32).toInt = 1)
  have z5 := (by decide : (7 : Int32).toInt = 7)
  have z6 := inc_I x4_43
  clear h4_1 h11_2 hi4_43 h64_4 h77_10 hok hi3_43
  try simp only [sA_1, sL_1, sI_1, vp_in_iff, Int32.le_iff_toInt_le, Int32.lt_iff_toInt_lt, ← Int32.toInt_inj, reduceIte, Nat.reduceEqDiff, sp_X5_total] at *
  all_goals omega
theorem ob_X9_erase_43_inv1_17 (st : St) (a1 : Int32) (a2 : Int32) (n_43 : Nat) (st_43 : St) (x4_43 : Int32) (hok : okC st) (h4_1 : ¬ (sp_X9_isPerson a1) = 0) (h11_2 : ¬ (sp_X9_isMinute a2) = 0) (hi0_43 : 0 ≤ x4_43.toInt) (hi1_43 : x4_43.toInt ≤ (st.1 7).toInt) (hi2_43 : (st.1 7).toInt < x4_43.toInt + (n_43 + 1)) (hi3_43 : okC st_43) (hi4_43 : (st_43.1 7).toInt = (st.1 7).toInt) (h52_3 : ¬ (sp_X5_total st_43) ≤ x4_43) (h64_4 : ¬ (sp_X5_isPut st_43 x4_43) = 0) (h77_10 : ¬ (sp_X5_isAbout st_43 x4_43 a1) = 0) : (x4_43 + 1).toInt ≤ (st.1 7).toInt := by
  have z1 := okC_7 hok
  have z2 := okC_7 hi3_43
  have z3 := (by decide : (0 : Int32).toInt = 0)
  have z4 := (by decide : (1 : Int32).toInt = 1)
  have z5 := (by decide : (7 : Int32).toInt = 7)
  have z6 := inc_I x4_43
  clear h4_1 h11_2 h64_4 h77_10 hok hi3_43
  try simp only [sA_1, sL_1, sI_1, vp_in_iff, Int32.le_iff_toInt_le, Int32.lt_iff_toInt_lt, ← Int32.toInt_inj, reduceIte, Nat.reduceEqDiff, sp_X5_total] at *
  all_goals omega
theorem ob_X9_erase_43_inv2_18 (st : St) (a1 : Int32) (a2 : Int32) (n_43 : Nat) (st_43 : St) (x4_43 : Int32) (hok : okC st) (h4_1 : ¬ (sp_X9_isPerson a1) = 0) (h11_2 : ¬ (sp_X9_isMinute a2) = 0) (hi0_43 : 0 ≤ x4_43.toInt) (hi1_43 : x4_43.toInt ≤ (st.1 7).toInt) (hi2_43 : (st.1 7).toInt < x4_43.toInt + (n_43 + 1)) (hi3_43 : okC st_43) (hi4_43 : (st_43.1 7).toInt = (st.1 7).toInt) (h52_3 : ¬ (sp_X5_total st_43) ≤ x4_43) (h64_4 : ¬ (sp_X5_isPut st_43 x4_43) = 0) (h77_10 : ¬ (sp_X5_isAbout st_43 x4_43 a1) = 0) : (st.1 7).toInt < (x4_43 + 1).toInt + n_43 := by
  have z1 := okC_7 hok
  have z2 := okC_7 hi3_43
  have z3 := (by decide : (0 : Int32).toInt = 0)
  have z4 := (by decide : (1 : Int32).toInt = 1)
  have z5 := (by decide : (7 : Int32).toInt = 7)
  have z6 := inc_I x4_43
  clear h4_1 h11_2 h64_4 h77_10 hok hi3_43
  try simp only [sA_1, sL_1, sI_1, vp_in_iff, Int32.le_iff_toInt_le, Int32.lt_iff_toInt_lt, ← Int32.toInt_inj, reduceIte, Nat.reduceEqDiff, sp_X5_total] at *
  all_goals omega
theorem ob_X9_erase_43_inv3_19 (st : St) (a1 : Int32) (a2 : Int32) (n_43 : Nat) (st_43 : St) (x4_43 : Int32) (hok : okC st) (h4_1 : ¬ (sp_X9_isPerson a1) = 0) (h11_2 : ¬ (sp_X9_isMinute a2) = 0) (hi0_43 : 0 ≤ x4_43.toInt) (hi1_43 : x4_43.toInt ≤ (st.1 7).toInt) (hi2_43 : (st.1 7).toInt < x4_43.toInt + (n_43 + 1)) (hi3_43 : okC st_43) (hi4_43 : (st_43.1 7).toInt = (st.1 7).toInt) (h52_3 : ¬ (sp_X5_total st_43) ≤ x4_43) (h64_4 : ¬ (sp_X5_isPut st_43 x4_43) = 0) (h77_10 : ¬ (sp_X5_isAbout st_43 x4_43 a1) = 0) : okC (sp_X5_endUnlessKept st_43 x4_43) := by
  exact (ok_X5_endUnlessKept st_43 x4_43 hi3_43)
theorem ob_X9_erase_43_inv4_20 (st : St) (a1 : Int32) (a2 : Int32) (n_43 : Nat) (st_43 : St) (x4_43 : Int32) (hok : okC st) (h4_1 : ¬ (sp_X9_isPerson a1) = 0) (h11_2 : ¬ (sp_X9_isMinute a2) = 0) (hi0_43 : 0 ≤ x4_43.toInt) (hi1_43 : x4_43.toInt ≤ (st.1 7).toInt) (hi2_43 : (st.1 7).toInt < x4_43.toInt + (n_43 + 1)) (hi3_43 : okC st_43) (hi4_43 : (st_43.1 7).toInt = (st.1 7).toInt) (h52_3 : ¬ (sp_X5_total st_43) ≤ x4_43) (h64_4 : ¬ (sp_X5_isPut st_43 x4_43) = 0) (h77_10 : ¬ (sp_X5_isAbout st_43 x4_43 a1) = 0) : ((sp_X5_endUnlessKept st_43 x4_43).1 7).toInt = (st.1 7).toInt := by
  have z1 := okC_7 hok
  have z2 := okC_7 hi3_43
  have z3 := (by decide : (0 : Int32).toInt = 0)
  have z4 := (by decide : (1 : Int32).toInt = 1)
  have z5 := (by decide : (7 : Int32).toInt = 7)
  clear h4_1 h11_2 h64_4 h77_10 hok hi3_43
  try simp only [sA_1, sL_1, sI_1, vp_in_iff, Int32.le_iff_toInt_le, Int32.lt_iff_toInt_lt, ← Int32.toInt_inj, reduceIte, Nat.reduceEqDiff, sp_X5_total, I_X5_endUnlessKept_7] at *
  all_goals omega
theorem ob_X9_erase_43_inv0_21 (st : St) (a1 : Int32) (a2 : Int32) (hok : okC st) (h4_1 : ¬ (sp_X9_isPerson a1) = 0) (h11_2 : ¬ (sp_X9_isMinute a2) = 0) : 0 ≤ (0 : Int32).toInt := by
  have z1 := (by decide : (0 : Int32).toInt = 0)
  clear h4_1 h11_2 hok
  try simp only [sA_1, sL_1, sI_1, vp_in_iff, Int32.le_iff_toInt_le, Int32.lt_iff_toInt_lt, ← Int32.toInt_inj, reduceIte, Nat.reduceEqDiff] at *
  all_goals omega
theorem ob_X9_erase_43_inv1_22 (st : St) (a1 : Int32) (a2 : Int32) (hok : okC st) (h4_1 : ¬ (sp_X9_isPerson a1) = 0) (h11_2 : ¬ (sp_X9_isMinute a2) = 0) : (0 : Int32).toInt ≤ (st.1 7).toInt := by
  have z1 := okC_7 hok
  have z2 := (by decide : (0 : Int32).toInt = 0)
  have z3 := (by decide : (7 : Int32).toInt = 7)
  clear h4_1 h11_2 hok
  try simp only [sA_1, sL_1, sI_1, vp_in_iff, Int32.le_iff_toInt_le, Int32.lt_iff_toInt_lt, ← Int32.toInt_inj, reduceIte, Nat.reduceEqDiff] at *
  all_goals omega
theorem ob_X9_erase_43_inv2_23 (st : St) (a1 : Int32) (a2 : Int32) (hok : okC st) (h4_1 : ¬ (sp_X9_isPerson a1) = 0) (h11_2 : ¬ (sp_X9_isMinute a2) = 0) : (st.1 7).toInt < (0 : Int32).toInt + ((st.1 7).toInt.toNat + 1) := by
  have z1 := okC_7 hok
  have z2 := (by decide : (0 : Int32).toInt = 0)
  have z3 := (by decide : (1 : Int32).toInt = 1)
  have z4 := (by decide : (7 : Int32).toInt = 7)
  clear h4_1 h11_2 hok
  try simp only [sA_1, sL_1, sI_1, vp_in_iff, Int32.le_iff_toInt_le, Int32.lt_iff_toInt_lt, ← Int32.toInt_inj, reduceIte, Nat.reduceEqDiff] at *
  all_goals omega
theorem ob_X9_erase_43_inv3_24 (st : St) (a1 : Int32) (a2 : Int32) (hok : okC st) (h4_1 : ¬ (sp_X9_isPerson a1) = 0) (h11_2 : ¬ (sp_X9_isMinute a2) = 0) : okC (sp_X9_markKept st (sp_X9_dayOfMinute a2)) := by
  exact (ok_X9_markKept st (sp_X9_dayOfMinute a2) hok)
theorem ob_X9_erase_43_inv4_25 (st : St) (a1 : Int32) (a2 : Int32) (hok : okC st) (h4_1 : ¬ (sp_X9_isPerson a1) = 0) (h11_2 : ¬ (sp_X9_isMinute a2) = 0) : ((sp_X9_markKept st (sp_X9_dayOfMinute a2)).1 7).toInt = (st.1 7).toInt := by
  have z1 := okC_7 hok
  have z2 := (by decide : (7 : Int32).toInt = 7)
  clear h4_1 h11_2 hok
  try simp only [sA_1, sL_1, sI_1, vp_in_iff, Int32.le_iff_toInt_le, Int32.lt_iff_toInt_lt, ← Int32.toInt_inj, reduceIte, Nat.reduceEqDiff, I_X9_markKept_7] at *
  all_goals omega
theorem ob_X9_sweep_32_zero (st : St) (a1 : Int32) (st_32 : St) (x3_32 : Int32) (hok : okC st) (h4_1 : ¬ (sp_X9_isDay a1) = 0) (hi0_32 : 0 ≤ x3_32.toInt) (hi1_32 : x3_32.toInt ≤ (st.1 7).toInt) (hi2_32 : (st.1 7).toInt < x3_32.toInt + 0) (hi3_32 : okC st_32) (hi4_32 : (st_32.1 7).toInt = (st.1 7).toInt) : False := by
  have z1 := okC_7 hok
  have z2 := okC_7 hi3_32
  have z3 := (by decide : (0 : Int32).toInt = 0)
  have z4 := (by decide : (7 : Int32).toInt = 7)
  clear h4_1 hok hi3_32
  try simp only [sA_1, sL_1, sI_1, vp_in_iff, Int32.le_iff_toInt_le, Int32.lt_iff_toInt_lt, ← Int32.toInt_inj, reduceIte, Nat.reduceEqDiff] at *
  all_goals omega
theorem ob_X9_sweep_32_inv0_4 (st : St) (a1 : Int32) (n_32 : Nat) (st_32 : St) (x3_32 : Int32) (hok : okC st) (h4_1 : ¬ (sp_X9_isDay a1) = 0) (hi0_32 : 0 ≤ x3_32.toInt) (hi1_32 : x3_32.toInt ≤ (st.1 7).toInt) (hi2_32 : (st.1 7).toInt < x3_32.toInt + (n_32 + 1)) (hi3_32 : okC st_32) (hi4_32 : (st_32.1 7).toInt = (st.1 7).toInt) (h40_2 : ¬ (sp_X5_total st_32) ≤ x3_32) (h53_3 : (sp_X9_firstDueDay st_32 x3_32) = (-1)) : 0 ≤ (x3_32 + 1).toInt := by
  have z1 := okC_7 hok
  have z2 := okC_7 hi3_32
  have z3 := (by decide : (0 : Int32).toInt = 0)
  have z4 := (by decide : (1 : Int32).toInt = 1)
  have z5 := (by decide : (7 : Int32).toInt = 7)
  have z6 := inc_I x3_32
  clear h4_1 hi4_32 h53_3 hok hi3_32
  try simp only [sA_1, sL_1, sI_1, vp_in_iff, Int32.le_iff_toInt_le, Int32.lt_iff_toInt_lt, ← Int32.toInt_inj, reduceIte, Nat.reduceEqDiff, sp_X5_total] at *
  all_goals omega
theorem ob_X9_sweep_32_inv1_5 (st : St) (a1 : Int32) (n_32 : Nat) (st_32 : St) (x3_32 : Int32) (hok : okC st) (h4_1 : ¬ (sp_X9_isDay a1) = 0) (hi0_32 : 0 ≤ x3_32.toInt) (hi1_32 : x3_32.toInt ≤ (st.1 7).toInt) (hi2_32 : (st.1 7).toInt < x3_32.toInt + (n_32 + 1)) (hi3_32 : okC st_32) (hi4_32 : (st_32.1 7).toInt = (st.1 7).toInt) (h40_2 : ¬ (sp_X5_total st_32) ≤ x3_32) (h53_3 : (sp_X9_firstDueDay st_32 x3_32) = (-1)) : (x3_32 + 1).toInt ≤ (st.1 7).toInt := by
  have z1 := okC_7 hok
  have z2 := okC_7 hi3_32
  have z3 := (by decide : (0 : Int32).toInt = 0)
  have z4 := (by decide : (1 : Int32).toInt = 1)
  have z5 := (by decide : (7 : Int32).toInt = 7)
  have z6 := inc_I x3_32
  clear h4_1 h53_3 hok hi3_32
  try simp only [sA_1, sL_1, sI_1, vp_in_iff, Int32.le_iff_toInt_le, Int32.lt_iff_toInt_lt, ← Int32.toInt_inj, reduceIte, Nat.reduceEqDiff, sp_X5_total] at *
  all_goals omega
theorem ob_X9_sweep_32_inv2_6 (st : St) (a1 : Int32) (n_32 : Nat) (st_32 : St) (x3_32 : Int32) (hok : okC st) (h4_1 : ¬ (sp_X9_isDay a1) = 0) (hi0_32 : 0 ≤ x3_32.toInt) (hi1_32 : x3_32.toInt ≤ (st.1 7).toInt) (hi2_32 : (st.1 7).toInt < x3_32.toInt + (n_32 + 1)) (hi3_32 : okC st_32) (hi4_32 : (st_32.1 7).toInt = (st.1 7).toInt) (h40_2 : ¬ (sp_X5_total st_32) ≤ x3_32) (h53_3 : (sp_X9_firstDueDay st_32 x3_32) = (-1)) : (st.1 7).toInt < (x3_32 + 1).toInt + n_32 := by
  have z1 := okC_7 hok
  have z2 := okC_7 hi3_32
  have z3 := (by decide : (0 : Int32).toInt = 0)
  have z4 := (by decide : (1 : Int32).toInt = 1)
  have z5 := (by decide : (7 : Int32).toInt = 7)
  have z6 := inc_I x3_32
  clear h4_1 h53_3 hok hi3_32
  try simp only [sA_1, sL_1, sI_1, vp_in_iff, Int32.le_iff_toInt_le, Int32.lt_iff_toInt_lt, ← Int32.toInt_inj, reduceIte, Nat.reduceEqDiff, sp_X5_total] at *
  all_goals omega
theorem ob_X9_sweep_32_inv3_7 (st : St) (a1 : Int32) (n_32 : Nat) (st_32 : St) (x3_32 : Int32) (hok : okC st) (h4_1 : ¬ (sp_X9_isDay a1) = 0) (hi0_32 : 0 ≤ x3_32.toInt) (hi1_32 : x3_32.toInt ≤ (st.1 7).toInt) (hi2_32 : (st.1 7).toInt < x3_32.toInt + (n_32 + 1)) (hi3_32 : okC st_32) (hi4_32 : (st_32.1 7).toInt = (st.1 7).toInt) (h40_2 : ¬ (sp_X5_total st_32) ≤ x3_32) (h53_3 : (sp_X9_firstDueDay st_32 x3_32) = (-1)) : okC st_32 := by
  exact hi3_32
theorem ob_X9_sweep_32_inv4_8 (st : St) (a1 : Int32) (n_32 : Nat) (st_32 : St) (x3_32 : Int32) (hok : okC st) (h4_1 : ¬ (sp_X9_isDay a1) = 0) (hi0_32 : 0 ≤ x3_32.toInt) (hi1_32 : x3_32.toInt ≤ (st.1 7).toInt) (hi2_32 : (st.1 7).toInt < x3_32.toInt + (n_32 + 1)) (hi3_32 : okC st_32) (hi4_32 : (st_32.1 7).toInt = (st.1 7).toInt) (h40_2 : ¬ (sp_X5_total st_32) ≤ x3_32) (h53_3 : (sp_X9_firstDueDay st_32 x3_32) = (-1)) : (st_32.1 7).toInt = (st.1 7).toInt := by
  have z1 := okC_7 hok
  have z2 := okC_7 hi3_32
  have z3 := (by decide : (1 : Int32).toInt = 1)
  have z4 := (by decide : (7 : Int32).toInt = 7)
  clear h4_1 hi0_32 h40_2 h53_3 hok hi3_32
  try simp only [sA_1, sL_1, sI_1, vp_in_iff, Int32.le_iff_toInt_le, Int32.lt_iff_toInt_lt, ← Int32.toInt_inj, reduceIte, Nat.reduceEqDiff] at *
  all_goals omega
theorem ob_X9_sweep_32_inv0_10 (st : St) (a1 : Int32) (n_32 : Nat) (st_32 : St) (x3_32 : Int32) (hok : okC st) (h4_1 : ¬ (sp_X9_isDay a1) = 0) (hi0_32 : 0 ≤ x3_32.toInt) (hi1_32 : x3_32.toInt ≤ (st.1 7).toInt) (hi2_32 : (st.1 7).toInt < x3_32.toInt + (n_32 + 1)) (hi3_32 : okC st_32) (hi4_32 : (st_32.1 7).toInt = (st.1 7).toInt) (h40_2 : ¬ (sp_X5_total st_32) ≤ x3_32) (h53_3 : ¬ (sp_X9_firstDueDay st_32 x3_32) = (-1)) (h59_9 : a1 < (sp_X9_firstDueDay st_32 x3_32)) : 0 ≤ (x3_32 + 1).toInt := by
  have z1 := okC_7 hok
  have z2 := okC_7 hi3_32
  have z3 := (by decide : (0 : Int32).toInt = 0)
  have z4 := (by decide : (1 : Int32).toInt = 1)
  have z5 := (by decide : (7 : Int32).toInt = 7)
  have z6 := inc_I x3_32
  clear h4_1 hi4_32 h53_3 h59_9 hok hi3_32
  try simp only [sA_1, sL_1, sI_1, vp_in_iff, Int32.le_iff_toInt_le, Int32.lt_iff_toInt_lt, ← Int32.toInt_inj, reduceIte, Nat.reduceEqDiff, sp_X5_total] at *
  all_goals omega
theorem ob_X9_sweep_32_inv1_11 (st : St) (a1 : Int32) (n_32 : Nat) (st_32 : St) (x3_32 : Int32) (hok : okC st) (h4_1 : ¬ (sp_X9_isDay a1) = 0) (hi0_32 : 0 ≤ x3_32.toInt) (hi1_32 : x3_32.toInt ≤ (st.1 7).toInt) (hi2_32 : (st.1 7).toInt < x3_32.toInt + (n_32 + 1)) (hi3_32 : okC st_32) (hi4_32 : (st_32.1 7).toInt = (st.1 7).toInt) (h40_2 : ¬ (sp_X5_total st_32) ≤ x3_32) (h53_3 : ¬ (sp_X9_firstDueDay st_32 x3_32) = (-1)) (h59_9 : a1 < (sp_X9_firstDueDay st_32 x3_32)) : (x3_32 + 1).toInt ≤ (st.1 7).toInt := by
  have z1 := okC_7 hok
  have z2 := okC_7 hi3_32
  have z3 := (by decide : (0 : Int32).toInt = 0)
  have z4 := (by decide : (1 : Int32).toInt = 1)
  have z5 := (by decide : (7 : Int32).toInt = 7)
  have z6 := inc_I x3_32
  clear h4_1 h53_3 h59_9 hok hi3_32
  try simp only [sA_1, sL_1, sI_1, vp_in_iff, Int32.le_iff_toInt_le, Int32.lt_iff_toInt_lt, ← Int32.toInt_inj, reduceIte, Nat.reduceEqDiff, sp_X5_total] at *
  all_goals omega
theorem ob_X9_sweep_32_inv2_12 (st : St) (a1 : Int32) (n_32 : Nat) (st_32 : St) (x3_32 : Int32) (hok : okC st) (h4_1 : ¬ (sp_X9_isDay a1) = 0) (hi0_32 : 0 ≤ x3_32.toInt) (hi1_32 : x3_32.toInt ≤ (st.1 7).toInt) (hi2_32 : (st.1 7).toInt < x3_32.toInt + (n_32 + 1)) (hi3_32 : okC st_32) (hi4_32 : (st_32.1 7).toInt = (st.1 7).toInt) (h40_2 : ¬ (sp_X5_total st_32) ≤ x3_32) (h53_3 : ¬ (sp_X9_firstDueDay st_32 x3_32) = (-1)) (h59_9 : a1 < (sp_X9_firstDueDay st_32 x3_32)) : (st.1 7).toInt < (x3_32 + 1).toInt + n_32 := by
  have z1 := okC_7 hok
  have z2 := okC_7 hi3_32
  have z3 := (by decide : (0 : Int32).toInt = 0)
  have z4 := (by decide : (1 : Int32).toInt = 1)
  have z5 := (by decide : (7 : Int32).toInt = 7)
  have z6 := inc_I x3_32
  clear h4_1 h53_3 h59_9 hok hi3_32
  try simp only [sA_1, sL_1, sI_1, vp_in_iff, Int32.le_iff_toInt_le, Int32.lt_iff_toInt_lt, ← Int32.toInt_inj, reduceIte, Nat.reduceEqDiff, sp_X5_total] at *
  all_goals omega
theorem ob_X9_sweep_32_inv3_13 (st : St) (a1 : Int32) (n_32 : Nat) (st_32 : St) (x3_32 : Int32) (hok : okC st) (h4_1 : ¬ (sp_X9_isDay a1) = 0) (hi0_32 : 0 ≤ x3_32.toInt) (hi1_32 : x3_32.toInt ≤ (st.1 7).toInt) (hi2_32 : (st.1 7).toInt < x3_32.toInt + (n_32 + 1)) (hi3_32 : okC st_32) (hi4_32 : (st_32.1 7).toInt = (st.1 7).toInt) (h40_2 : ¬ (sp_X5_total st_32) ≤ x3_32) (h53_3 : ¬ (sp_X9_firstDueDay st_32 x3_32) = (-1)) (h59_9 : a1 < (sp_X9_firstDueDay st_32 x3_32)) : okC st_32 := by
  exact hi3_32
theorem ob_X9_sweep_32_inv4_14 (st : St) (a1 : Int32) (n_32 : Nat) (st_32 : St) (x3_32 : Int32) (hok : okC st) (h4_1 : ¬ (sp_X9_isDay a1) = 0) (hi0_32 : 0 ≤ x3_32.toInt) (hi1_32 : x3_32.toInt ≤ (st.1 7).toInt) (hi2_32 : (st.1 7).toInt < x3_32.toInt + (n_32 + 1)) (hi3_32 : okC st_32) (hi4_32 : (st_32.1 7).toInt = (st.1 7).toInt) (h40_2 : ¬ (sp_X5_total st_32) ≤ x3_32) (h53_3 : ¬ (sp_X9_firstDueDay st_32 x3_32) = (-1)) (h59_9 : a1 < (sp_X9_firstDueDay st_32 x3_32)) : (st_32.1 7).toInt = (st.1 7).toInt := by
  have z1 := okC_7 hok
  have z2 := okC_7 hi3_32
  have z3 := (by decide : (1 : Int32).toInt = 1)
  have z4 := (by decide : (7 : Int32).toInt = 7)
  clear h4_1 hi0_32 h40_2 h53_3 h59_9 hok hi3_32
  try simp only [sA_1, sL_1, sI_1, vp_in_iff, Int32.le_iff_toInt_le, Int32.lt_iff_toInt_lt, ← Int32.toInt_inj, reduceIte, Nat.reduceEqDiff] at *
  all_goals omega
theorem ob_X9_sweep_32_inv0_15 (st : St) (a1 : Int32) (n_32 : Nat) (st_32 : St) (x3_32 : Int32) (hok : okC st) (h4_1 : ¬ (sp_X9_isDay a1) = 0) (hi0_32 : 0 ≤ x3_32.toInt) (hi1_32 : x3_32.toInt ≤ (st.1 7).toInt) (hi2_32 : (st.1 7).toInt < x3_32.toInt + (n_32 + 1)) (hi3_32 : okC st_32) (hi4_32 : (st_32.1 7).toInt = (st.1 7).toInt) (h40_2 : ¬ (sp_X5_total st_32) ≤ x3_32) (h53_3 : ¬ (sp_X9_firstDueDay st_32 x3_32) = (-1)) (h59_9 : ¬ a1 < (sp_X9_firstDueDay st_32 x3_32)) : 0 ≤ (x3_32 + 1).toInt := by
  have z1 := okC_7 hok
  have z2 := okC_7 hi3_32
  have z3 := (by decide : (0 : Int32).toInt = 0)
  have z4 := (by decide : (1 : Int32).toInt = 1)
  have z5 := (by decide : (7 : Int32).toInt = 7)
  have z6 := inc_I x3_32
  clear h4_1 hi4_32 h53_3 h59_9 hok hi3_32
  try simp only [sA_1, sL_1, sI_1, vp_in_iff, Int32.le_iff_toInt_le, Int32.lt_iff_toInt_lt, ← Int32.toInt_inj, reduceIte, Nat.reduceEqDiff, sp_X5_total] at *
  all_goals omega
theorem ob_X9_sweep_32_inv1_16 (st : St) (a1 : Int32) (n_32 : Nat) (st_32 : St) (x3_32 : Int32) (hok : okC st) (h4_1 : ¬ (sp_X9_isDay a1) = 0) (hi0_32 : 0 ≤ x3_32.toInt) (hi1_32 : x3_32.toInt ≤ (st.1 7).toInt) (hi2_32 : (st.1 7).toInt < x3_32.toInt + (n_32 + 1)) (hi3_32 : okC st_32) (hi4_32 : (st_32.1 7).toInt = (st.1 7).toInt) (h40_2 : ¬ (sp_X5_total st_32) ≤ x3_32) (h53_3 : ¬ (sp_X9_firstDueDay st_32 x3_32) = (-1)) (h59_9 : ¬ a1 < (sp_X9_firstDueDay st_32 x3_32)) : (x3_32 + 1).toInt ≤ (st.1 7).toInt := by
  have z1 := okC_7 hok
  have z2 := okC_7 hi3_32
  have z3 := (by decide : (0 : Int32).toInt = 0)
  have z4 := (by decide : (1 : Int32).toInt = 1)
  have z5 := (by decide : (7 : Int32).toInt = 7)
  have z6 := inc_I x3_32
  clear h4_1 h53_3 h59_9 hok hi3_32
  try simp only [sA_1, sL_1, sI_1, vp_in_iff, Int32.le_iff_toInt_le, Int32.lt_iff_toInt_lt, ← Int32.toInt_inj, reduceIte, Nat.reduceEqDiff, sp_X5_total] at *
  all_goals omega
theorem ob_X9_sweep_32_inv2_17 (st : St) (a1 : Int32) (n_32 : Nat) (st_32 : St) (x3_32 : Int32) (hok : okC st) (h4_1 : ¬ (sp_X9_isDay a1) = 0) (hi0_32 : 0 ≤ x3_32.toInt) (hi1_32 : x3_32.toInt ≤ (st.1 7).toInt) (hi2_32 : (st.1 7).toInt < x3_32.toInt + (n_32 + 1)) (hi3_32 : okC st_32) (hi4_32 : (st_32.1 7).toInt = (st.1 7).toInt) (h40_2 : ¬ (sp_X5_total st_32) ≤ x3_32) (h53_3 : ¬ (sp_X9_firstDueDay st_32 x3_32) = (-1)) (h59_9 : ¬ a1 < (sp_X9_firstDueDay st_32 x3_32)) : (st.1 7).toInt < (x3_32 + 1).toInt + n_32 := by
  have z1 := okC_7 hok
  have z2 := okC_7 hi3_32
  have z3 := (by decide : (0 : Int32).toInt = 0)
  have z4 := (by decide : (1 : Int32).toInt = 1)
  have z5 := (by decide : (7 : Int32).toInt = 7)
  have z6 := inc_I x3_32
  clear h4_1 h53_3 h59_9 hok hi3_32
  try simp only [sA_1, sL_1, sI_1, vp_in_iff, Int32.le_iff_toInt_le, Int32.lt_iff_toInt_lt, ← Int32.toInt_inj, reduceIte, Nat.reduceEqDiff, sp_X5_total] at *
  all_goals omega
theorem ob_X9_sweep_32_inv3_18 (st : St) (a1 : Int32) (n_32 : Nat) (st_32 : St) (x3_32 : Int32) (hok : okC st) (h4_1 : ¬ (sp_X9_isDay a1) = 0) (hi0_32 : 0 ≤ x3_32.toInt) (hi1_32 : x3_32.toInt ≤ (st.1 7).toInt) (hi2_32 : (st.1 7).toInt < x3_32.toInt + (n_32 + 1)) (hi3_32 : okC st_32) (hi4_32 : (st_32.1 7).toInt = (st.1 7).toInt) (h40_2 : ¬ (sp_X5_total st_32) ≤ x3_32) (h53_3 : ¬ (sp_X9_firstDueDay st_32 x3_32) = (-1)) (h59_9 : ¬ a1 < (sp_X9_firstDueDay st_32 x3_32)) : okC (sp_X5_endUnlessKept st_32 x3_32) := by
  exact (ok_X5_endUnlessKept st_32 x3_32 hi3_32)
theorem ob_X9_sweep_32_inv4_19 (st : St) (a1 : Int32) (n_32 : Nat) (st_32 : St) (x3_32 : Int32) (hok : okC st) (h4_1 : ¬ (sp_X9_isDay a1) = 0) (hi0_32 : 0 ≤ x3_32.toInt) (hi1_32 : x3_32.toInt ≤ (st.1 7).toInt) (hi2_32 : (st.1 7).toInt < x3_32.toInt + (n_32 + 1)) (hi3_32 : okC st_32) (hi4_32 : (st_32.1 7).toInt = (st.1 7).toInt) (h40_2 : ¬ (sp_X5_total st_32) ≤ x3_32) (h53_3 : ¬ (sp_X9_firstDueDay st_32 x3_32) = (-1)) (h59_9 : ¬ a1 < (sp_X9_firstDueDay st_32 x3_32)) : ((sp_X5_endUnlessKept st_32 x3_32).1 7).toInt = (st.1 7).toInt := by
  have z1 := okC_7 hok
  have z2 := okC_7 hi3_32
  have z3 := (by decide : (0 : Int32).toInt = 0)
  have z4 := (by decide : (1 : Int32).toInt = 1)
  have z5 := (by decide : (7 : Int32).toInt = 7)
  clear h4_1 h53_3 h59_9 hok hi3_32
  try simp only [sA_1, sL_1, sI_1, vp_in_iff, Int32.le_iff_toInt_le, Int32.lt_iff_toInt_lt, ← Int32.toInt_inj, reduceIte, Nat.reduceEqDiff, sp_X5_total, I_X5_endUnlessKept_7] at *
  all_goals omega
theorem ob_X9_sweep_32_inv0_20 (st : St) (a1 : Int32) (hok : okC st) (h4_1 : ¬ (sp_X9_isDay a1) = 0) : 0 ≤ (0 : Int32).toInt := by
  have z1 := (by decide : (0 : Int32).toInt = 0)
  clear h4_1 hok
  try simp only [sA_1, sL_1, sI_1, vp_in_iff, Int32.le_iff_toInt_le, Int32.lt_iff_toInt_lt, ← Int32.toInt_inj, reduceIte, Nat.reduceEqDiff] at *
  all_goals omega
theorem ob_X9_sweep_32_inv1_21 (st : St) (a1 : Int32) (hok : okC st) (h4_1 : ¬ (sp_X9_isDay a1) = 0) : (0 : Int32).toInt ≤ (st.1 7).toInt := by
  have z1 := okC_7 hok
  have z2 := (by decide : (0 : Int32).toInt = 0)
  have z3 := (by decide : (7 : Int32).toInt = 7)
  clear h4_1 hok
  try simp only [sA_1, sL_1, sI_1, vp_in_iff, Int32.le_iff_toInt_le, Int32.lt_iff_toInt_lt, ← Int32.toInt_inj, reduceIte, Nat.reduceEqDiff] at *
  all_goals omega
theorem ob_X9_sweep_32_inv2_22 (st : St) (a1 : Int32) (hok : okC st) (h4_1 : ¬ (sp_X9_isDay a1) = 0) : (st.1 7).toInt < (0 : Int32).toInt + ((st.1 7).toInt.toNat + 1) := by
  have z1 := okC_7 hok
  have z2 := (by decide : (0 : Int32).toInt = 0)
  have z3 := (by decide : (1 : Int32).toInt = 1)
  have z4 := (by decide : (7 : Int32).toInt = 7)
  clear h4_1 hok
  try simp only [sA_1, sL_1, sI_1, vp_in_iff, Int32.le_iff_toInt_le, Int32.lt_iff_toInt_lt, ← Int32.toInt_inj, reduceIte, Nat.reduceEqDiff] at *
  all_goals omega
theorem ob_X9_sweep_32_inv3_23 (st : St) (a1 : Int32) (hok : okC st) (h4_1 : ¬ (sp_X9_isDay a1) = 0) : okC (sp_X9_markKept st a1) := by
  exact (ok_X9_markKept st a1 hok)
theorem ob_X9_sweep_32_inv4_24 (st : St) (a1 : Int32) (hok : okC st) (h4_1 : ¬ (sp_X9_isDay a1) = 0) : ((sp_X9_markKept st a1).1 7).toInt = (st.1 7).toInt := by
  have z1 := okC_7 hok
  have z2 := (by decide : (7 : Int32).toInt = 7)
  clear h4_1 hok
  try simp only [sA_1, sL_1, sI_1, vp_in_iff, Int32.le_iff_toInt_le, Int32.lt_iff_toInt_lt, ← Int32.toInt_inj, reduceIte, Nat.reduceEqDiff, I_X9_markKept_7] at *
  all_goals omega

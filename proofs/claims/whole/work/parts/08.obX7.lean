theorem ob_X7_add_20_2 (st : St) (a1 : Int32) (a2 : Int32) (a3 : Int32) (a4 : Int32) (hok : okC st) (h7_1 : st.1 8 < 200) : vp_in (st.1 8) 200 := by
  have z1 := okC_8 hok
  have z2 := (by decide : (8 : Int32).toInt = 8)
  have z3 := (by decide : (200 : Int32).toInt = 200)
  clear hok
  try simp only [sA_1, sL_1, sI_1, vp_in_iff, Int32.le_iff_toInt_le, Int32.lt_iff_toInt_lt, ← Int32.toInt_inj, reduceIte, Nat.reduceEqDiff] at *
  all_goals omega
theorem ob_X7_add_30_3 (st : St) (a1 : Int32) (a2 : Int32) (a3 : Int32) (a4 : Int32) (hok : okC st) (h7_1 : st.1 8 < 200) : vp_in (st.1 8) 200 := by
  have z1 := okC_8 hok
  have z2 := (by decide : (8 : Int32).toInt = 8)
  have z3 := (by decide : (200 : Int32).toInt = 200)
  clear hok
  try simp only [sA_1, sL_1, sI_1, vp_in_iff, Int32.le_iff_toInt_le, Int32.lt_iff_toInt_lt, ← Int32.toInt_inj, reduceIte, Nat.reduceEqDiff] at *
  all_goals omega
theorem ob_X7_add_40_4 (st : St) (a1 : Int32) (a2 : Int32) (a3 : Int32) (a4 : Int32) (hok : okC st) (h7_1 : st.1 8 < 200) : vp_in (st.1 8) 200 := by
  have z1 := okC_8 hok
  have z2 := (by decide : (8 : Int32).toInt = 8)
  have z3 := (by decide : (200 : Int32).toInt = 200)
  clear hok
  try simp only [sA_1, sL_1, sI_1, vp_in_iff, Int32.le_iff_toInt_le, Int32.lt_iff_toInt_lt, ← Int32.toInt_inj, reduceIte, Nat.reduceEqDiff] at *
  all_goals omega
theorem ob_X7_add_51_5 (st : St) (a1 : Int32) (a2 : Int32) (a3 : Int32) (a4 : Int32) (hok : okC st) (h7_1 : st.1 8 < 200) : vp_in (st.1 8) 200 := by
  have z1 := okC_8 hok
  have z2 := (by decide : (8 : Int32).toInt = 8)
  have z3 := (by decide : (200 : Int32).toInt = 200)
  clear hok
  try simp only [sA_1, sL_1, sI_1, vp_in_iff, Int32.le_iff_toInt_le, Int32.lt_iff_toInt_lt, ← Int32.toInt_inj, reduceIte, Nat.reduceEqDiff] at *
  all_goals omega
theorem ob_X7_read_49_4 (st : St) (a1 : Int32) (a2 : Int32) (hok : okC st) (h1_1 : ¬ a1 < 0) (h9_2 : a1 < st.1 8) (h15_3 : a2 = 0) : vp_in a1 200 := by
  have z1 := okC_8 hok
  have z2 := (by decide : (0 : Int32).toInt = 0)
  have z3 := (by decide : (8 : Int32).toInt = 8)
  have z4 := (by decide : (200 : Int32).toInt = 200)
  clear h15_3 hok
  try simp only [sA_1, sL_1, sI_1, vp_in_iff, Int32.le_iff_toInt_le, Int32.lt_iff_toInt_lt, ← Int32.toInt_inj, reduceIte, Nat.reduceEqDiff] at *
  all_goals omega
theorem ob_X7_read_56_6 (st : St) (a1 : Int32) (a2 : Int32) (hok : okC st) (h1_1 : ¬ a1 < 0) (h9_2 : a1 < st.1 8) (h15_3 : ¬ a2 = 0) (h15_5 : a2 = 1) : vp_in a1 200 := by
  have z1 := okC_8 hok
  have z2 := (by decide : (0 : Int32).toInt = 0)
  have z3 := (by decide : (8 : Int32).toInt = 8)
  have z4 := (by decide : (200 : Int32).toInt = 200)
  clear h15_3 h15_5 hok
  try simp only [sA_1, sL_1, sI_1, vp_in_iff, Int32.le_iff_toInt_le, Int32.lt_iff_toInt_lt, ← Int32.toInt_inj, reduceIte, Nat.reduceEqDiff] at *
  all_goals omega
theorem ob_X7_read_63_8 (st : St) (a1 : Int32) (a2 : Int32) (hok : okC st) (h1_1 : ¬ a1 < 0) (h9_2 : a1 < st.1 8) (h15_3 : ¬ a2 = 0) (h15_5 : ¬ a2 = 1) (h15_7 : a2 = 2) : vp_in a1 200 := by
  have z1 := okC_8 hok
  have z2 := (by decide : (0 : Int32).toInt = 0)
  have z3 := (by decide : (8 : Int32).toInt = 8)
  have z4 := (by decide : (200 : Int32).toInt = 200)
  clear h15_3 h15_5 h15_7 hok
  try simp only [sA_1, sL_1, sI_1, vp_in_iff, Int32.le_iff_toInt_le, Int32.lt_iff_toInt_lt, ← Int32.toInt_inj, reduceIte, Nat.reduceEqDiff] at *
  all_goals omega
theorem ob_X7_read_70_10 (st : St) (a1 : Int32) (a2 : Int32) (hok : okC st) (h1_1 : ¬ a1 < 0) (h9_2 : a1 < st.1 8) (h15_3 : ¬ a2 = 0) (h15_5 : ¬ a2 = 1) (h15_7 : ¬ a2 = 2) (h15_9 : a2 = 3) : vp_in a1 200 := by
  have z1 := okC_8 hok
  have z2 := (by decide : (0 : Int32).toInt = 0)
  have z3 := (by decide : (8 : Int32).toInt = 8)
  have z4 := (by decide : (200 : Int32).toInt = 200)
  clear h15_3 h15_5 h15_7 h15_9 hok
  try simp only [sA_1, sL_1, sI_1, vp_in_iff, Int32.le_iff_toInt_le, Int32.lt_iff_toInt_lt, ← Int32.toInt_inj, reduceIte, Nat.reduceEqDiff] at *
  all_goals omega

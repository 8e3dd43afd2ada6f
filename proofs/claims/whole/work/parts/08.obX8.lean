theorem ob_X8_add_32_3 (st : St) (a1 : Int32) (hok : okC st) (h6_1 : ¬ 16 ≤ st.1 0) (h14_2 : ¬ (sp_X8_has st a1) = 0) : vp_in a1 16 := by
  have z1 := okC_0 hok
  have z2 := (by decide : (0 : Int32).toInt = 0)
  have z3 := (by decide : (16 : Int32).toInt = 16)
  have z4 := f_X8_has st a1
  clear h6_1 hok
  try simp only [sA_1, sL_1, sI_1, vp_in_iff, Int32.le_iff_toInt_le, Int32.lt_iff_toInt_lt, ← Int32.toInt_inj, reduceIte, Nat.reduceEqDiff] at *
  all_goals omega
theorem ob_X8_add_40_4 (st : St) (a1 : Int32) (hok : okC st) (h6_1 : ¬ 16 ≤ st.1 0) (h14_2 : ¬ (sp_X8_has st a1) = 0) : vp_in (st.1 0) 16 := by
  have z1 := okC_0 hok
  have z2 := (by decide : (0 : Int32).toInt = 0)
  have z3 := (by decide : (16 : Int32).toInt = 16)
  clear h14_2 hok
  try simp only [sA_1, sL_1, sI_1, vp_in_iff, Int32.le_iff_toInt_le, Int32.lt_iff_toInt_lt, ← Int32.toInt_inj, reduceIte, Nat.reduceEqDiff] at *
  all_goals omega
theorem ob_X8_isAtOrAbove_21_3 (st : St) (a1 : Int32) (a2 : Int32) (hok : okC st) (h5_1 : ¬ (sp_X8_has st a1) = 0) (h13_2 : ¬ (sp_X8_has st a2) = 0) : vp_in a2 16 := by
  have z1 := okC_0 hok
  have z2 := (by decide : (0 : Int32).toInt = 0)
  have z3 := (by decide : (16 : Int32).toInt = 16)
  have z4 := f_X8_has st a2
  clear h5_1 hok
  try simp only [sA_1, sL_1, sI_1, vp_in_iff, Int32.le_iff_toInt_le, Int32.lt_iff_toInt_lt, ← Int32.toInt_inj, reduceIte, Nat.reduceEqDiff] at *
  all_goals omega

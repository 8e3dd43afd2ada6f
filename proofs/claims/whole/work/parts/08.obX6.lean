theorem ob_X6_add_20_2 (st : St) (a1 : Int32) (hok : okC st) (h6_1 : st.1 1 < 8) : vp_in (st.1 1) 8 := by
  have z1 := okC_1 hok
  have z2 := (by decide : (1 : Int32).toInt = 1)
  have z3 := (by decide : (8 : Int32).toInt = 8)
  clear hok
  try simp only [sA_1, sL_1, sI_1, vp_in_iff, Int32.le_iff_toInt_le, Int32.lt_iff_toInt_lt, ← Int32.toInt_inj, reduceIte, Nat.reduceEqDiff] at *
  all_goals omega
theorem ob_X6_retentionOf_13_2 (st : St) (a1 : Int32) (hok : okC st) (h5_1 : ¬ (sp_X6_has st a1) = 0) : vp_in a1 8 := by
  have z1 := okC_1 hok
  have z2 := (by decide : (0 : Int32).toInt = 0)
  have z3 := (by decide : (8 : Int32).toInt = 8)
  have z4 := f_X6_has st a1
  clear hok
  try simp only [sA_1, sL_1, sI_1, vp_in_iff, Int32.le_iff_toInt_le, Int32.lt_iff_toInt_lt, ← Int32.toInt_inj, reduceIte, Nat.reduceEqDiff] at *
  all_goals omega

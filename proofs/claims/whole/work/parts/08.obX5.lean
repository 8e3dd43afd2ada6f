theorem ob_X5_lives_13_2 (st : St) (a1 : Int32) (hok : okC st) (h5_1 : ¬ (sp_X5_has st a1) = 0) : vp_in a1 100 := by
  have z1 := okC_7 hok
  have z2 := (by decide : (0 : Int32).toInt = 0)
  have z3 := (by decide : (100 : Int32).toInt = 100)
  have z4 := f_X5_has st a1
  clear hok
  try simp only [sA_1, sL_1, sI_1, vp_in_iff, Int32.le_iff_toInt_le, Int32.lt_iff_toInt_lt, ← Int32.toInt_inj, reduceIte, Nat.reduceEqDiff] at *
  all_goals omega
theorem ob_X5_isPut_13_2 (st : St) (a1 : Int32) (hok : okC st) (h5_1 : ¬ (sp_X5_has st a1) = 0) : vp_in a1 100 := by
  have z1 := okC_7 hok
  have z2 := (by decide : (0 : Int32).toInt = 0)
  have z3 := (by decide : (100 : Int32).toInt = 100)
  have z4 := f_X5_has st a1
  clear hok
  try simp only [sA_1, sL_1, sI_1, vp_in_iff, Int32.le_iff_toInt_le, Int32.lt_iff_toInt_lt, ← Int32.toInt_inj, reduceIte, Nat.reduceEqDiff] at *
  all_goals omega
theorem ob_X5_isAbout_13_2 (st : St) (a1 : Int32) (a2 : Int32) (hok : okC st) (h5_1 : ¬ (sp_X5_has st a1) = 0) : vp_in a1 100 := by
  have z1 := okC_7 hok
  have z2 := (by decide : (0 : Int32).toInt = 0)
  have z3 := (by decide : (100 : Int32).toInt = 100)
  have z4 := f_X5_has st a1
  clear hok
  try simp only [sA_1, sL_1, sI_1, vp_in_iff, Int32.le_iff_toInt_le, Int32.lt_iff_toInt_lt, ← Int32.toInt_inj, reduceIte, Nat.reduceEqDiff] at *
  all_goals omega
theorem ob_X5_isKept_13_2 (st : St) (a1 : Int32) (hok : okC st) (h5_1 : ¬ (sp_X5_has st a1) = 0) : vp_in a1 100 := by
  have z1 := okC_7 hok
  have z2 := (by decide : (0 : Int32).toInt = 0)
  have z3 := (by decide : (100 : Int32).toInt = 100)
  have z4 := f_X5_has st a1
  clear hok
  try simp only [sA_1, sL_1, sI_1, vp_in_iff, Int32.le_iff_toInt_le, Int32.lt_iff_toInt_lt, ← Int32.toInt_inj, reduceIte, Nat.reduceEqDiff] at *
  all_goals omega
theorem ob_X5_kindOf_13_2 (st : St) (a1 : Int32) (hok : okC st) (h5_1 : ¬ (sp_X5_lives st a1) = 0) : vp_in a1 100 := by
  have z1 := okC_7 hok
  have z2 := (by decide : (0 : Int32).toInt = 0)
  have z3 := (by decide : (100 : Int32).toInt = 100)
  have z4 := f_X5_lives st a1
  clear hok
  try simp only [sA_1, sL_1, sI_1, vp_in_iff, Int32.le_iff_toInt_le, Int32.lt_iff_toInt_lt, ← Int32.toInt_inj, reduceIte, Nat.reduceEqDiff] at *
  all_goals omega
theorem ob_X5_dayOf_13_2 (st : St) (a1 : Int32) (hok : okC st) (h5_1 : ¬ (sp_X5_lives st a1) = 0) : vp_in a1 100 := by
  have z1 := okC_7 hok
  have z2 := (by decide : (0 : Int32).toInt = 0)
  have z3 := (by decide : (100 : Int32).toInt = 100)
  have z4 := f_X5_lives st a1
  clear hok
  try simp only [sA_1, sL_1, sI_1, vp_in_iff, Int32.le_iff_toInt_le, Int32.lt_iff_toInt_lt, ← Int32.toInt_inj, reduceIte, Nat.reduceEqDiff] at *
  all_goals omega
theorem ob_X5_personsOf_13_2 (st : St) (a1 : Int32) (hok : okC st) (h5_1 : ¬ (sp_X5_lives st a1) = 0) : vp_in a1 100 := by
  have z1 := okC_7 hok
  have z2 := (by decide : (0 : Int32).toInt = 0)
  have z3 := (by decide : (100 : Int32).toInt = 100)
  have z4 := f_X5_lives st a1
  clear hok
  try simp only [sA_1, sL_1, sI_1, vp_in_iff, Int32.le_iff_toInt_le, Int32.lt_iff_toInt_lt, ← Int32.toInt_inj, reduceIte, Nat.reduceEqDiff] at *
  all_goals omega
theorem ob_X5_valueOf_13_2 (st : St) (a1 : Int32) (hok : okC st) (h5_1 : ¬ (sp_X5_lives st a1) = 0) : vp_in a1 100 := by
  have z1 := okC_7 hok
  have z2 := (by decide : (0 : Int32).toInt = 0)
  have z3 := (by decide : (100 : Int32).toInt = 100)
  have z4 := f_X5_lives st a1
  clear hok
  try simp only [sA_1, sL_1, sI_1, vp_in_iff, Int32.le_iff_toInt_le, Int32.lt_iff_toInt_lt, ← Int32.toInt_inj, reduceIte, Nat.reduceEqDiff] at *
  all_goals omega
theorem ob_X5_derivedValue_6_1 (st : St) (a1 : Int32) (hok : okC st) (hva1 : vp_in a1 100) : vp_in a1 100 := by
  have z1 := (by decide : (100 : Int32).toInt = 100)
  clear hok
  try simp only [sA_1, sL_1, sI_1, vp_in_iff, Int32.le_iff_toInt_le, Int32.lt_iff_toInt_lt, ← Int32.toInt_inj, reduceIte, Nat.reduceEqDiff] at *
  all_goals omega
theorem ob_X5_derivedValue_17_2 (st : St) (a1 : Int32) (hok : okC st) (hva1 : vp_in a1 100) : vp_in a1 100 := by
  have z1 := (by decide : (100 : Int32).toInt = 100)
  clear hok
  try simp only [sA_1, sL_1, sI_1, vp_in_iff, Int32.le_iff_toInt_le, Int32.lt_iff_toInt_lt, ← Int32.toInt_inj, reduceIte, Nat.reduceEqDiff] at *
  all_goals omega
theorem ob_X5_derivedValue_28_3 (st : St) (a1 : Int32) (hok : okC st) (hva1 : vp_in a1 100) : vp_in a1 100 := by
  have z1 := (by decide : (100 : Int32).toInt = 100)
  clear hok
  try simp only [sA_1, sL_1, sI_1, vp_in_iff, Int32.le_iff_toInt_le, Int32.lt_iff_toInt_lt, ← Int32.toInt_inj, reduceIte, Nat.reduceEqDiff] at *
  all_goals omega
theorem ob_X5_hasLostInputs_6_1 (st : St) (a1 : Int32) (hok : okC st) (hva1 : vp_in a1 100) : vp_in a1 100 := by
  have z1 := (by decide : (100 : Int32).toInt = 100)
  clear hok
  try simp only [sA_1, sL_1, sI_1, vp_in_iff, Int32.le_iff_toInt_le, Int32.lt_iff_toInt_lt, ← Int32.toInt_inj, reduceIte, Nat.reduceEqDiff] at *
  all_goals omega
theorem ob_X5_hasLostInputs_17_2 (st : St) (a1 : Int32) (hok : okC st) (hva1 : vp_in a1 100) : vp_in a1 100 := by
  have z1 := (by decide : (100 : Int32).toInt = 100)
  clear hok
  try simp only [sA_1, sL_1, sI_1, vp_in_iff, Int32.le_iff_toInt_le, Int32.lt_iff_toInt_lt, ← Int32.toInt_inj, reduceIte, Nat.reduceEqDiff] at *
  all_goals omega
theorem ob_X5_hasLostInputs_27_3 (st : St) (a1 : Int32) (hok : okC st) (hva1 : vp_in a1 100) : vp_in a1 100 := by
  have z1 := (by decide : (100 : Int32).toInt = 100)
  clear hok
  try simp only [sA_1, sL_1, sI_1, vp_in_iff, Int32.le_iff_toInt_le, Int32.lt_iff_toInt_lt, ← Int32.toInt_inj, reduceIte, Nat.reduceEqDiff] at *
  all_goals omega
theorem ob_X5_begin_20_2 (st : St) (a1 : Int32) (a2 : Int32) (a3 : Int32) (hok : okC st) (h6_1 : st.1 7 < 100) : vp_in (st.1 7) 100 := by
  have z1 := okC_7 hok
  have z2 := (by decide : (7 : Int32).toInt = 7)
  have z3 := (by decide : (100 : Int32).toInt = 100)
  clear hok
  try simp only [sA_1, sL_1, sI_1, vp_in_iff, Int32.le_iff_toInt_le, Int32.lt_iff_toInt_lt, ← Int32.toInt_inj, reduceIte, Nat.reduceEqDiff] at *
  all_goals omega
theorem ob_X5_begin_30_3 (st : St) (a1 : Int32) (a2 : Int32) (a3 : Int32) (hok : okC st) (h6_1 : st.1 7 < 100) : vp_in (st.1 7) 100 := by
  have z1 := okC_7 hok
  have z2 := (by decide : (7 : Int32).toInt = 7)
  have z3 := (by decide : (100 : Int32).toInt = 100)
  clear hok
  try simp only [sA_1, sL_1, sI_1, vp_in_iff, Int32.le_iff_toInt_le, Int32.lt_iff_toInt_lt, ← Int32.toInt_inj, reduceIte, Nat.reduceEqDiff] at *
  all_goals omega
theorem ob_X5_begin_40_4 (st : St) (a1 : Int32) (a2 : Int32) (a3 : Int32) (hok : okC st) (h6_1 : st.1 7 < 100) : vp_in (st.1 7) 100 := by
  have z1 := okC_7 hok
  have z2 := (by decide : (7 : Int32).toInt = 7)
  have z3 := (by decide : (100 : Int32).toInt = 100)
  clear hok
  try simp only [sA_1, sL_1, sI_1, vp_in_iff, Int32.le_iff_toInt_le, Int32.lt_iff_toInt_lt, ← Int32.toInt_inj, reduceIte, Nat.reduceEqDiff] at *
  all_goals omega
theorem ob_X5_begin_50_5 (st : St) (a1 : Int32) (a2 : Int32) (a3 : Int32) (hok : okC st) (h6_1 : st.1 7 < 100) : vp_in (st.1 7) 100 := by
  have z1 := okC_7 hok
  have z2 := (by decide : (7 : Int32).toInt = 7)
  have z3 := (by decide : (100 : Int32).toInt = 100)
  clear hok
  try simp only [sA_1, sL_1, sI_1, vp_in_iff, Int32.le_iff_toInt_le, Int32.lt_iff_toInt_lt, ← Int32.toInt_inj, reduceIte, Nat.reduceEqDiff] at *
  all_goals omega
theorem ob_X5_keep_14_2 (st : St) (a1 : Int32) (hok : okC st) (h5_1 : ¬ (sp_X5_has st a1) = 0) : vp_in a1 100 := by
  have z1 := okC_7 hok
  have z2 := (by decide : (0 : Int32).toInt = 0)
  have z3 := (by decide : (100 : Int32).toInt = 100)
  have z4 := f_X5_has st a1
  clear hok
  try simp only [sA_1, sL_1, sI_1, vp_in_iff, Int32.le_iff_toInt_le, Int32.lt_iff_toInt_lt, ← Int32.toInt_inj, reduceIte, Nat.reduceEqDiff] at *
  all_goals omega
theorem ob_X5_end_14_2 (st : St) (a1 : Int32) (hok : okC st) (h5_1 : ¬ (sp_X5_lives st a1) = 0) : vp_in a1 100 := by
  have z1 := okC_7 hok
  have z2 := (by decide : (0 : Int32).toInt = 0)
  have z3 := (by decide : (100 : Int32).toInt = 100)
  have z4 := f_X5_lives st a1
  clear hok
  try simp only [sA_1, sL_1, sI_1, vp_in_iff, Int32.le_iff_toInt_le, Int32.lt_iff_toInt_lt, ← Int32.toInt_inj, reduceIte, Nat.reduceEqDiff] at *
  all_goals omega
theorem ob_X5_end_21_3 (st : St) (a1 : Int32) (hok : okC st) (h5_1 : ¬ (sp_X5_lives st a1) = 0) : vp_in a1 100 := by
  have z1 := okC_7 hok
  have z2 := (by decide : (0 : Int32).toInt = 0)
  have z3 := (by decide : (100 : Int32).toInt = 100)
  have z4 := f_X5_lives st a1
  clear hok
  try simp only [sA_1, sL_1, sI_1, vp_in_iff, Int32.le_iff_toInt_le, Int32.lt_iff_toInt_lt, ← Int32.toInt_inj, reduceIte, Nat.reduceEqDiff] at *
  all_goals omega
theorem ob_X5_keepWithInputs_18_2 (st : St) (a1 : Int32) (hok : okC st) (h10_1 : ¬ (sp_X5_has (sp_X5_keep st a1) a1) = 0) : vp_in a1 100 := by
  have z1 := okC_7 hok
  have z2 := (by decide : (0 : Int32).toInt = 0)
  have z3 := (by decide : (100 : Int32).toInt = 100)
  have z4 := f_X5_has (sp_X5_keep st a1) a1
  clear hok
  try simp only [sA_1, sL_1, sI_1, vp_in_iff, Int32.le_iff_toInt_le, Int32.lt_iff_toInt_lt, ← Int32.toInt_inj, reduceIte, Nat.reduceEqDiff, I_X5_keep_7] at *
  all_goals omega
theorem ob_X5_keepWithInputs_29_4 (st : St) (a1 : Int32) (hok : okC st) (h10_1 : ¬ (sp_X5_has (sp_X5_keep st a1) a1) = 0) (h20_3 : ¬ (sp_X5_keep st a1).2.1 23 a1.toNatClampNeg = (-1)) : vp_in a1 100 := by
  have z1 := okC_7 hok
  have z2 := (by decide : (0 : Int32).toInt = 0)
  have z3 := (by decide : (1 : Int32).toInt = 1)
  have z4 := (by decide : (23 : Int32).toInt = 23)
  have z5 := (by decide : (100 : Int32).toInt = 100)
  have z6 := (by decide : (-1 : Int32).toInt = -1)
  have z7 := f_X5_has (sp_X5_keep st a1) a1
  clear hok
  try simp only [sA_1, sL_1, sI_1, vp_in_iff, Int32.le_iff_toInt_le, Int32.lt_iff_toInt_lt, ← Int32.toInt_inj, reduceIte, Nat.reduceEqDiff, I_X5_keep_7] at *
  all_goals omega
theorem ob_X5_keepWithInputs_30_5 (st : St) (a1 : Int32) (hok : okC st) (h10_1 : ¬ (sp_X5_has (sp_X5_keep st a1) a1) = 0) (h20_3 : ¬ (sp_X5_keep st a1).2.1 23 a1.toNatClampNeg = (-1)) : okC (sp_X5_keep st a1) := by
  exact (ok_X5_keep st a1 hok)
theorem ob_X5_keepWithInputs_39_6 (st : St) (a1 : Int32) (hok : okC st) (h10_1 : ¬ (sp_X5_has (sp_X5_keep st a1) a1) = 0) (h20_3 : ¬ (sp_X5_keep st a1).2.1 23 a1.toNatClampNeg = (-1)) : vp_in a1 100 := by
  have z1 := okC_7 hok
  have z2 := (by decide : (0 : Int32).toInt = 0)
  have z3 := (by decide : (1 : Int32).toInt = 1)
  have z4 := (by decide : (23 : Int32).toInt = 23)
  have z5 := (by decide : (100 : Int32).toInt = 100)
  have z6 := (by decide : (-1 : Int32).toInt = -1)
  have z7 := f_X5_has (sp_X5_keep st a1) a1
  clear hok
  try simp only [sA_1, sL_1, sI_1, vp_in_iff, Int32.le_iff_toInt_le, Int32.lt_iff_toInt_lt, ← Int32.toInt_inj, reduceIte, Nat.reduceEqDiff, I_X5_keep_7] at *
  all_goals omega
theorem ob_X5_keepWithInputs_40_7 (st : St) (a1 : Int32) (hok : okC st) (h10_1 : ¬ (sp_X5_has (sp_X5_keep st a1) a1) = 0) (h20_3 : ¬ (sp_X5_keep st a1).2.1 23 a1.toNatClampNeg = (-1)) : okC (sp_X5_keep (sp_X5_keep st a1) ((sp_X5_keep st a1).2.1 24 a1.toNatClampNeg)) := by
  exact (ok_X5_keep (sp_X5_keep st a1) ((sp_X5_keep st a1).2.1 24 a1.toNatClampNeg) (ok_X5_keep st a1 hok))
theorem ob_X5_addPut_28_2 (st : St) (a1 : Int32) (a2 : Int32) (a3 : Int32) (a4 : Int32) (hok : okC st) (h18_1 : ¬ (sp_X5_has ((sp_X5_begin st a2 a4 (1 <<< (a1 &&& 31))).2) ((sp_X5_begin st a2 a4 (1 <<< (a1 &&& 31))).1)) = 0) : vp_in ((sp_X5_begin st a2 a4 (1 <<< (a1 &&& 31))).1) 100 := by
  have z1 := okC_7 hok
  have z2 := (by decide : (0 : Int32).toInt = 0)
  have z3 := (by decide : (1 : Int32).toInt = 1)
  have z4 := (by decide : (31 : Int32).toInt = 31)
  have z5 := (by decide : (100 : Int32).toInt = 100)
  have z6 := f_X5_has ((sp_X5_begin st a2 a4 (1 <<< (a1 &&& 31))).2) ((sp_X5_begin st a2 a4 (1 <<< (a1 &&& 31))).1)
  have z7 := okC_7 (f_X5_begin st a2 a4 (1 <<< (a1 &&& 31)) hok)
  clear hok
  try simp only [sA_1, sL_1, sI_1, vp_in_iff, Int32.le_iff_toInt_le, Int32.lt_iff_toInt_lt, ← Int32.toInt_inj, reduceIte, Nat.reduceEqDiff] at *
  all_goals omega
theorem ob_X5_addPut_37_3 (st : St) (a1 : Int32) (a2 : Int32) (a3 : Int32) (a4 : Int32) (hok : okC st) (h18_1 : ¬ (sp_X5_has ((sp_X5_begin st a2 a4 (1 <<< (a1 &&& 31))).2) ((sp_X5_begin st a2 a4 (1 <<< (a1 &&& 31))).1)) = 0) : vp_in ((sp_X5_begin st a2 a4 (1 <<< (a1 &&& 31))).1) 100 := by
  have z1 := okC_7 hok
  have z2 := (by decide : (0 : Int32).toInt = 0)
  have z3 := (by decide : (1 : Int32).toInt = 1)
  have z4 := (by decide : (31 : Int32).toInt = 31)
  have z5 := (by decide : (100 : Int32).toInt = 100)
  have z6 := f_X5_has ((sp_X5_begin st a2 a4 (1 <<< (a1 &&& 31))).2) ((sp_X5_begin st a2 a4 (1 <<< (a1 &&& 31))).1)
  have z7 := okC_7 (f_X5_begin st a2 a4 (1 <<< (a1 &&& 31)) hok)
  clear hok
  try simp only [sA_1, sL_1, sI_1, vp_in_iff, Int32.le_iff_toInt_le, Int32.lt_iff_toInt_lt, ← Int32.toInt_inj, reduceIte, Nat.reduceEqDiff] at *
  all_goals omega
theorem ob_X5_addDerived_51_2 (st : St) (a1 : Int32) (a2 : Int32) (a3 : Int32) (hok : okC st) (h41_1 : ¬ (sp_X5_has ((sp_X5_begin st (sp_X5_kindOf st a2) (if (sp_X5_dayOf st a2) < (sp_X5_dayOf st a3) then (sp_X5_dayOf st a3) else (sp_X5_dayOf st a2)) ((sp_X5_personsOf st a2) ||| (sp_X5_personsOf st a3))).2) ((sp_X5_begin st (sp_X5_kindOf st a2) (if (sp_X5_dayOf st a2) < (sp_X5_dayOf st a3) then (sp_X5_dayOf st a3) else (sp_X5_dayOf st a2)) ((sp_X5_personsOf st a2) ||| (sp_X5_personsOf st a3))).1)) = 0) : vp_in ((sp_X5_begin st (sp_X5_kindOf st a2) (if (sp_X5_dayOf st a2) < (sp_X5_dayOf st a3) then (sp_X5_dayOf st a3) else (sp_X5_dayOf st a2)) ((sp_X5_personsOf st a2) ||| (sp_X5_personsOf st a3))).1) 100 := by
  have z1 := okC_7 hok
  have z2 := (by decide : (0 : Int32).toInt = 0)
  have z3 := (by decide : (100 : Int32).toInt = 100)
  have z4 := f_X5_has ((sp_X5_begin st (sp_X5_kindOf st a2) (if (sp_X5_dayOf st a2) < (sp_X5_dayOf st a3) then (sp_X5_dayOf st a3) else (sp_X5_dayOf st a2)) ((sp_X5_personsOf st a2) ||| (sp_X5_personsOf st a3))).2) ((sp_X5_begin st (sp_X5_kindOf st a2) (if (sp_X5_dayOf st a2) < (sp_X5_dayOf st a3) then (sp_X5_dayOf st a3) else (sp_X5_dayOf st a2)) ((sp_X5_personsOf st a2) ||| (sp_X5_personsOf st a3))).1)
  have z5 := okC_7 (f_X5_begin st (sp_X5_kindOf st a2) (if (sp_X5_dayOf st a2) < (sp_X5_dayOf st a3) then (sp_X5_dayOf st a3) else (sp_X5_dayOf st a2)) ((sp_X5_personsOf st a2) ||| (sp_X5_personsOf st a3)) hok)
  clear hok
  try simp only [sA_1, sL_1, sI_1, vp_in_iff, Int32.le_iff_toInt_le, Int32.lt_iff_toInt_lt, ← Int32.toInt_inj, reduceIte, Nat.reduceEqDiff] at *
  all_goals omega
theorem ob_X5_addDerived_59_3 (st : St) (a1 : Int32) (a2 : Int32) (a3 : Int32) (hok : okC st) (h41_1 : ¬ (sp_X5_has ((sp_X5_begin st (sp_X5_kindOf st a2) (if (sp_X5_dayOf st a2) < (sp_X5_dayOf st a3) then (sp_X5_dayOf st a3) else (sp_X5_dayOf st a2)) ((sp_X5_personsOf st a2) ||| (sp_X5_personsOf st a3))).2) ((sp_X5_begin st (sp_X5_kindOf st a2) (if (sp_X5_dayOf st a2) < (sp_X5_dayOf st a3) then (sp_X5_dayOf st a3) else (sp_X5_dayOf st a2)) ((sp_X5_personsOf st a2) ||| (sp_X5_personsOf st a3))).1)) = 0) : vp_in ((sp_X5_begin st (sp_X5_kindOf st a2) (if (sp_X5_dayOf st a2) < (sp_X5_dayOf st a3) then (sp_X5_dayOf st a3) else (sp_X5_dayOf st a2)) ((sp_X5_personsOf st a2) ||| (sp_X5_personsOf st a3))).1) 100 := by
  have z1 := okC_7 hok
  have z2 := (by decide : (0 : Int32).toInt = 0)
  have z3 := (by decide : (100 : Int32).toInt = 100)
  have z4 := f_X5_has ((sp_X5_begin st (sp_X5_kindOf st a2) (if (sp_X5_dayOf st a2) < (sp_X5_dayOf st a3) then (sp_X5_dayOf st a3) else (sp_X5_dayOf st a2)) ((sp_X5_personsOf st a2) ||| (sp_X5_personsOf st a3))).2) ((sp_X5_begin st (sp_X5_kindOf st a2) (if (sp_X5_dayOf st a2) < (sp_X5_dayOf st a3) then (sp_X5_dayOf st a3) else (sp_X5_dayOf st a2)) ((sp_X5_personsOf st a2) ||| (sp_X5_personsOf st a3))).1)
  have z5 := okC_7 (f_X5_begin st (sp_X5_kindOf st a2) (if (sp_X5_dayOf st a2) < (sp_X5_dayOf st a3) then (sp_X5_dayOf st a3) else (sp_X5_dayOf st a2)) ((sp_X5_personsOf st a2) ||| (sp_X5_personsOf st a3)) hok)
  clear hok
  try simp only [sA_1, sL_1, sI_1, vp_in_iff, Int32.le_iff_toInt_le, Int32.lt_iff_toInt_lt, ← Int32.toInt_inj, reduceIte, Nat.reduceEqDiff] at *
  all_goals omega
theorem ob_X5_addDerived_67_4 (st : St) (a1 : Int32) (a2 : Int32) (a3 : Int32) (hok : okC st) (h41_1 : ¬ (sp_X5_has ((sp_X5_begin st (sp_X5_kindOf st a2) (if (sp_X5_dayOf st a2) < (sp_X5_dayOf st a3) then (sp_X5_dayOf st a3) else (sp_X5_dayOf st a2)) ((sp_X5_personsOf st a2) ||| (sp_X5_personsOf st a3))).2) ((sp_X5_begin st (sp_X5_kindOf st a2) (if (sp_X5_dayOf st a2) < (sp_X5_dayOf st a3) then (sp_X5_dayOf st a3) else (sp_X5_dayOf st a2)) ((sp_X5_personsOf st a2) ||| (sp_X5_personsOf st a3))).1)) = 0) : vp_in ((sp_X5_begin st (sp_X5_kindOf st a2) (if (sp_X5_dayOf st a2) < (sp_X5_dayOf st a3) then (sp_X5_dayOf st a3) else (sp_X5_dayOf st a2)) ((sp_X5_personsOf st a2) ||| (sp_X5_personsOf st a3))).1) 100 := by
  have z1 := okC_7 hok
  have z2 := (by decide : (0 : Int32).toInt = 0)
  have z3 := (by decide : (100 : Int32).toInt = 100)
  have z4 := f_X5_has ((sp_X5_begin st (sp_X5_kindOf st a2) (if (sp_X5_dayOf st a2) < (sp_X5_dayOf st a3) then (sp_X5_dayOf st a3) else (sp_X5_dayOf st a2)) ((sp_X5_personsOf st a2) ||| (sp_X5_personsOf st a3))).2) ((sp_X5_begin st (sp_X5_kindOf st a2) (if (sp_X5_dayOf st a2) < (sp_X5_dayOf st a3) then (sp_X5_dayOf st a3) else (sp_X5_dayOf st a2)) ((sp_X5_personsOf st a2) ||| (sp_X5_personsOf st a3))).1)
  have z5 := okC_7 (f_X5_begin st (sp_X5_kindOf st a2) (if (sp_X5_dayOf st a2) < (sp_X5_dayOf st a3) then (sp_X5_dayOf st a3) else (sp_X5_dayOf st a2)) ((sp_X5_personsOf st a2) ||| (sp_X5_personsOf st a3)) hok)
  clear hok
  try simp only [sA_1, sL_1, sI_1, vp_in_iff, Int32.le_iff_toInt_le, Int32.lt_iff_toInt_lt, ← Int32.toInt_inj, reduceIte, Nat.reduceEqDiff] at *
  all_goals omega
theorem ob_X5_addDerived_77_5 (st : St) (a1 : Int32) (a2 : Int32) (a3 : Int32) (hok : okC st) (h41_1 : ¬ (sp_X5_has ((sp_X5_begin st (sp_X5_kindOf st a2) (if (sp_X5_dayOf st a2) < (sp_X5_dayOf st a3) then (sp_X5_dayOf st a3) else (sp_X5_dayOf st a2)) ((sp_X5_personsOf st a2) ||| (sp_X5_personsOf st a3))).2) ((sp_X5_begin st (sp_X5_kindOf st a2) (if (sp_X5_dayOf st a2) < (sp_X5_dayOf st a3) then (sp_X5_dayOf st a3) else (sp_X5_dayOf st a2)) ((sp_X5_personsOf st a2) ||| (sp_X5_personsOf st a3))).1)) = 0) : okC (sA (sA (sA ((sp_X5_begin st (sp_X5_kindOf st a2) (if (sp_X5_dayOf st a2) < (sp_X5_dayOf st a3) then (sp_X5_dayOf st a3) else (sp_X5_dayOf st a2)) ((sp_X5_personsOf st a2) ||| (sp_X5_personsOf st a3))).2) 23 (((sp_X5_begin st (sp_X5_kindOf st a2) (if (sp_X5_dayOf st a2) < (sp_X5_dayOf st a3) then (sp_X5_dayOf st a3) else (sp_X5_dayOf st a2)) ((sp_X5_personsOf st a2) ||| (sp_X5_personsOf st a3))).1).toNatClampNeg) a1) 24 (((sp_X5_begin st (sp_X5_kindOf st a2) (if (sp_X5_dayOf st a2) < (sp_X5_dayOf st a3) then (sp_X5_dayOf st a3) else (sp_X5_dayOf st a2)) ((sp_X5_personsOf st a2) ||| (sp_X5_personsOf st a3))).1).toNatClampNeg) a2) 25 (((sp_X5_begin st (sp_X5_kindOf st a2) (if (sp_X5_dayOf st a2) < (sp_X5_dayOf st a3) then (sp_X5_dayOf st a3) else (sp_X5_dayOf st a2)) ((sp_X5_personsOf st a2) ||| (sp_X5_personsOf st a3))).1).toNatClampNeg) a3) := by
  exact (f_X5_begin st (sp_X5_kindOf st a2) (if (sp_X5_dayOf st a2) < (sp_X5_dayOf st a3) then (sp_X5_dayOf st a3) else (sp_X5_dayOf st a2)) ((sp_X5_personsOf st a2) ||| (sp_X5_personsOf st a3)) hok)
theorem ob_X5_addDerived_77_6 (st : St) (a1 : Int32) (a2 : Int32) (a3 : Int32) (hok : okC st) (h41_1 : ¬ (sp_X5_has ((sp_X5_begin st (sp_X5_kindOf st a2) (if (sp_X5_dayOf st a2) < (sp_X5_dayOf st a3) then (sp_X5_dayOf st a3) else (sp_X5_dayOf st a2)) ((sp_X5_personsOf st a2) ||| (sp_X5_personsOf st a3))).2) ((sp_X5_begin st (sp_X5_kindOf st a2) (if (sp_X5_dayOf st a2) < (sp_X5_dayOf st a3) then (sp_X5_dayOf st a3) else (sp_X5_dayOf st a2)) ((sp_X5_personsOf st a2) ||| (sp_X5_personsOf st a3))).1)) = 0) : vp_in ((sp_X5_begin st (sp_X5_kindOf st a2) (if (sp_X5_dayOf st a2) < (sp_X5_dayOf st a3) then (sp_X5_dayOf st a3) else (sp_X5_dayOf st a2)) ((sp_X5_personsOf st a2) ||| (sp_X5_personsOf st a3))).1) 100 := by
  have z1 := okC_7 hok
  have z2 := (by decide : (0 : Int32).toInt = 0)
  have z3 := (by decide : (100 : Int32).toInt = 100)
  have z4 := f_X5_has ((sp_X5_begin st (sp_X5_kindOf st a2) (if (sp_X5_dayOf st a2) < (sp_X5_dayOf st a3) then (sp_X5_dayOf st a3) else (sp_X5_dayOf st a2)) ((sp_X5_personsOf st a2) ||| (sp_X5_personsOf st a3))).2) ((sp_X5_begin st (sp_X5_kindOf st a2) (if (sp_X5_dayOf st a2) < (sp_X5_dayOf st a3) then (sp_X5_dayOf st a3) else (sp_X5_dayOf st a2)) ((sp_X5_personsOf st a2) ||| (sp_X5_personsOf st a3))).1)
  have z5 := okC_7 (f_X5_begin st (sp_X5_kindOf st a2) (if (sp_X5_dayOf st a2) < (sp_X5_dayOf st a3) then (sp_X5_dayOf st a3) else (sp_X5_dayOf st a2)) ((sp_X5_personsOf st a2) ||| (sp_X5_personsOf st a3)) hok)
  clear hok
  try simp only [sA_1, sL_1, sI_1, vp_in_iff, Int32.le_iff_toInt_le, Int32.lt_iff_toInt_lt, ← Int32.toInt_inj, reduceIte, Nat.reduceEqDiff] at *
  all_goals omega
theorem ob_X5_addDerived_80_7 (st : St) (a1 : Int32) (a2 : Int32) (a3 : Int32) (hok : okC st) (h41_1 : ¬ (sp_X5_has ((sp_X5_begin st (sp_X5_kindOf st a2) (if (sp_X5_dayOf st a2) < (sp_X5_dayOf st a3) then (sp_X5_dayOf st a3) else (sp_X5_dayOf st a2)) ((sp_X5_personsOf st a2) ||| (sp_X5_personsOf st a3))).2) ((sp_X5_begin st (sp_X5_kindOf st a2) (if (sp_X5_dayOf st a2) < (sp_X5_dayOf st a3) then (sp_X5_dayOf st a3) else (sp_X5_dayOf st a2)) ((sp_X5_personsOf st a2) ||| (sp_X5_personsOf st a3))).1)) = 0) : vp_in ((sp_X5_begin st (sp_X5_kindOf st a2) (if (sp_X5_dayOf st a2) < (sp_X5_dayOf st a3) then (sp_X5_dayOf st a3) else (sp_X5_dayOf st a2)) ((sp_X5_personsOf st a2) ||| (sp_X5_personsOf st a3))).1) 100 := by
  have z1 := okC_7 hok
  have z2 := (by decide : (0 : Int32).toInt = 0)
  have z3 := (by decide : (100 : Int32).toInt = 100)
  have z4 := f_X5_has ((sp_X5_begin st (sp_X5_kindOf st a2) (if (sp_X5_dayOf st a2) < (sp_X5_dayOf st a3) then (sp_X5_dayOf st a3) else (sp_X5_dayOf st a2)) ((sp_X5_personsOf st a2) ||| (sp_X5_personsOf st a3))).2) ((sp_X5_begin st (sp_X5_kindOf st a2) (if (sp_X5_dayOf st a2) < (sp_X5_dayOf st a3) then (sp_X5_dayOf st a3) else (sp_X5_dayOf st a2)) ((sp_X5_personsOf st a2) ||| (sp_X5_personsOf st a3))).1)
  have z5 := okC_7 (f_X5_begin st (sp_X5_kindOf st a2) (if (sp_X5_dayOf st a2) < (sp_X5_dayOf st a3) then (sp_X5_dayOf st a3) else (sp_X5_dayOf st a2)) ((sp_X5_personsOf st a2) ||| (sp_X5_personsOf st a3)) hok)
  clear hok
  try simp only [sA_1, sL_1, sI_1, vp_in_iff, Int32.le_iff_toInt_le, Int32.lt_iff_toInt_lt, ← Int32.toInt_inj, reduceIte, Nat.reduceEqDiff] at *
  all_goals omega
theorem ob_X5_derivedFrom_4_zero (st : St) (a1 : Int32) (x3_4 : Int32) (x2_4 : Int32) (hok : okC st) (hi0_4 : 0 ≤ x3_4.toInt) (hi1_4 : x3_4.toInt ≤ (st.1 7).toInt) (hi2_4 : (st.1 7).toInt < x3_4.toInt + 0) : False := by
  have z1 := okC_7 hok
  have z2 := (by decide : (0 : Int32).toInt = 0)
  have z3 := (by decide : (7 : Int32).toInt = 7)
  clear hok
  try simp only [sA_1, sL_1, sI_1, vp_in_iff, Int32.le_iff_toInt_le, Int32.lt_iff_toInt_lt, ← Int32.toInt_inj, reduceIte, Nat.reduceEqDiff] at *
  all_goals omega
theorem ob_X5_derivedFrom_17_2 (st : St) (a1 : Int32) (n_4 : Nat) (x3_4 : Int32) (x2_4 : Int32) (hok : okC st) (hi0_4 : 0 ≤ x3_4.toInt) (hi1_4 : x3_4.toInt ≤ (st.1 7).toInt) (hi2_4 : (st.1 7).toInt < x3_4.toInt + (n_4 + 1)) (h9_1 : ¬ st.1 7 ≤ x3_4) : vp_in x3_4 100 := by
  have z1 := okC_7 hok
  have z2 := (by decide : (0 : Int32).toInt = 0)
  have z3 := (by decide : (1 : Int32).toInt = 1)
  have z4 := (by decide : (7 : Int32).toInt = 7)
  have z5 := (by decide : (100 : Int32).toInt = 100)
  clear hok
  try simp only [sA_1, sL_1, sI_1, vp_in_iff, Int32.le_iff_toInt_le, Int32.lt_iff_toInt_lt, ← Int32.toInt_inj, reduceIte, Nat.reduceEqDiff] at *
  all_goals omega
theorem ob_X5_derivedFrom_4_inv0_4 (st : St) (a1 : Int32) (n_4 : Nat) (x3_4 : Int32) (x2_4 : Int32) (hok : okC st) (hi0_4 : 0 ≤ x3_4.toInt) (hi1_4 : x3_4.toInt ≤ (st.1 7).toInt) (hi2_4 : (st.1 7).toInt < x3_4.toInt + (n_4 + 1)) (h9_1 : ¬ st.1 7 ≤ x3_4) (h18_3 : st.2.1 26 x3_4.toNatClampNeg = 0) : 0 ≤ (x3_4 + 1).toInt := by
  have z1 := okC_7 hok
  have z2 := (by decide : (0 : Int32).toInt = 0)
  have z3 := (by decide : (1 : Int32).toInt = 1)
  have z4 := (by decide : (7 : Int32).toInt = 7)
  have z5 := (by decide : (26 : Int32).toInt = 26)
  have z6 := inc_I x3_4
  clear hok
  try simp only [sA_1, sL_1, sI_1, vp_in_iff, Int32.le_iff_toInt_le, Int32.lt_iff_toInt_lt, ← Int32.toInt_inj, reduceIte, Nat.reduceEqDiff] at *
  all_goals omega
theorem ob_X5_derivedFrom_4_inv1_5 (st : St) (a1 : Int32) (n_4 : Nat) (x3_4 : Int32) (x2_4 : Int32) (hok : okC st) (hi0_4 : 0 ≤ x3_4.toInt) (hi1_4 : x3_4.toInt ≤ (st.1 7).toInt) (hi2_4 : (st.1 7).toInt < x3_4.toInt + (n_4 + 1)) (h9_1 : ¬ st.1 7 ≤ x3_4) (h18_3 : st.2.1 26 x3_4.toNatClampNeg = 0) : (x3_4 + 1).toInt ≤ (st.1 7).toInt := by
  have z1 := okC_7 hok
  have z2 := (by decide : (0 : Int32).toInt = 0)
  have z3 := (by decide : (1 : Int32).toInt = 1)
  have z4 := (by decide : (7 : Int32).toInt = 7)
  have z5 := (by decide : (26 : Int32).toInt = 26)
  have z6 := inc_I x3_4
  clear hok
  try simp only [sA_1, sL_1, sI_1, vp_in_iff, Int32.le_iff_toInt_le, Int32.lt_iff_toInt_lt, ← Int32.toInt_inj, reduceIte, Nat.reduceEqDiff] at *
  all_goals omega
theorem ob_X5_derivedFrom_4_inv2_6 (st : St) (a1 : Int32) (n_4 : Nat) (x3_4 : Int32) (x2_4 : Int32) (hok : okC st) (hi0_4 : 0 ≤ x3_4.toInt) (hi1_4 : x3_4.toInt ≤ (st.1 7).toInt) (hi2_4 : (st.1 7).toInt < x3_4.toInt + (n_4 + 1)) (h9_1 : ¬ st.1 7 ≤ x3_4) (h18_3 : st.2.1 26 x3_4.toNatClampNeg = 0) : (st.1 7).toInt < (x3_4 + 1).toInt + n_4 := by
  have z1 := okC_7 hok
  have z2 := (by decide : (0 : Int32).toInt = 0)
  have z3 := (by decide : (1 : Int32).toInt = 1)
  have z4 := (by decide : (7 : Int32).toInt = 7)
  have z5 := (by decide : (26 : Int32).toInt = 26)
  have z6 := inc_I x3_4
  clear hok
  try simp only [sA_1, sL_1, sI_1, vp_in_iff, Int32.le_iff_toInt_le, Int32.lt_iff_toInt_lt, ← Int32.toInt_inj, reduceIte, Nat.reduceEqDiff] at *
  all_goals omega
theorem ob_X5_derivedFrom_26_7 (st : St) (a1 : Int32) (n_4 : Nat) (x3_4 : Int32) (x2_4 : Int32) (hok : okC st) (hi0_4 : 0 ≤ x3_4.toInt) (hi1_4 : x3_4.toInt ≤ (st.1 7).toInt) (hi2_4 : (st.1 7).toInt < x3_4.toInt + (n_4 + 1)) (h9_1 : ¬ st.1 7 ≤ x3_4) (h18_3 : ¬ st.2.1 26 x3_4.toNatClampNeg = 0) : vp_in x3_4 100 := by
  have z1 := okC_7 hok
  have z2 := (by decide : (0 : Int32).toInt = 0)
  have z3 := (by decide : (1 : Int32).toInt = 1)
  have z4 := (by decide : (7 : Int32).toInt = 7)
  have z5 := (by decide : (26 : Int32).toInt = 26)
  have z6 := (by decide : (100 : Int32).toInt = 100)
  clear hok
  try simp only [sA_1, sL_1, sI_1, vp_in_iff, Int32.le_iff_toInt_le, Int32.lt_iff_toInt_lt, ← Int32.toInt_inj, reduceIte, Nat.reduceEqDiff] at *
  all_goals omega
theorem ob_X5_derivedFrom_4_inv0_9 (st : St) (a1 : Int32) (n_4 : Nat) (x3_4 : Int32) (x2_4 : Int32) (hok : okC st) (hi0_4 : 0 ≤ x3_4.toInt) (hi1_4 : x3_4.toInt ≤ (st.1 7).toInt) (hi2_4 : (st.1 7).toInt < x3_4.toInt + (n_4 + 1)) (h9_1 : ¬ st.1 7 ≤ x3_4) (h18_3 : ¬ st.2.1 26 x3_4.toNatClampNeg = 0) (h28_8 : st.2.1 23 x3_4.toNatClampNeg = (-1)) : 0 ≤ (x3_4 + 1).toInt := by
  have z1 := okC_7 hok
  have z2 := (by decide : (0 : Int32).toInt = 0)
  have z3 := (by decide : (1 : Int32).toInt = 1)
  have z4 := (by decide : (7 : Int32).toInt = 7)
  have z5 := (by decide : (23 : Int32).toInt = 23)
  have z6 := (by decide : (26 : Int32).toInt = 26)
  have z7 := (by decide : (-1 : Int32).toInt = -1)
  have z8 := inc_I x3_4
  clear hok
  try simp only [sA_1, sL_1, sI_1, vp_in_iff, Int32.le_iff_toInt_le, Int32.lt_iff_toInt_lt, ← Int32.toInt_inj, reduceIte, Nat.reduceEqDiff] at *
  all_goals omega
theorem ob_X5_derivedFrom_4_inv1_10 (st : St) (a1 : Int32) (n_4 : Nat) (x3_4 : Int32) (x2_4 : Int32) (hok : okC st) (hi0_4 : 0 ≤ x3_4.toInt) (hi1_4 : x3_4.toInt ≤ (st.1 7).toInt) (hi2_4 : (st.1 7).toInt < x3_4.toInt + (n_4 + 1)) (h9_1 : ¬ st.1 7 ≤ x3_4) (h18_3 : ¬ st.2.1 26 x3_4.toNatClampNeg = 0) (h28_8 : st.2.1 23 x3_4.toNatClampNeg = (-1)) : (x3_4 + 1).toInt ≤ (st.1 7).toInt := by
  have z1 := okC_7 hok
  have z2 := (by decide : (0 : Int32).toInt = 0)
  have z3 := (by decide : (1 : Int32).toInt = 1)
  have z4 := (by decide : (7 : Int32).toInt = 7)
  have z5 := (by decide : (23 : Int32).toInt = 23)
  have z6 := (by decide : (26 : Int32).toInt = 26)
  have z7 := (by decide : (-1 : Int32).toInt = -1)
  have z8 := inc_I x3_4
  clear hok
  try simp only [sA_1, sL_1, sI_1, vp_in_iff, Int32.le_iff_toInt_le, Int32.lt_iff_toInt_lt, ← Int32.toInt_inj, reduceIte, Nat.reduceEqDiff] at *
  all_goals omega
theorem ob_X5_derivedFrom_4_inv2_11 (st : St) (a1 : Int32) (n_4 : Nat) (x3_4 : Int32) (x2_4 : Int32) (hok : okC st) (hi0_4 : 0 ≤ x3_4.toInt) (hi1_4 : x3_4.toInt ≤ (st.1 7).toInt) (hi2_4 : (st.1 7).toInt < x3_4.toInt + (n_4 + 1)) (h9_1 : ¬ st.1 7 ≤ x3_4) (h18_3 : ¬ st.2.1 26 x3_4.toNatClampNeg = 0) (h28_8 : st.2.1 23 x3_4.toNatClampNeg = (-1)) : (st.1 7).toInt < (x3_4 + 1).toInt + n_4 := by
  have z1 := okC_7 hok
  have z2 := (by decide : (0 : Int32).toInt = 0)
  have z3 := (by decide : (1 : Int32).toInt = 1)
  have z4 := (by decide : (7 : Int32).toInt = 7)
  have z5 := (by decide : (23 : Int32).toInt = 23)
  have z6 := (by decide : (26 : Int32).toInt = 26)
  have z7 := (by decide : (-1 : Int32).toInt = -1)
  have z8 := inc_I x3_4
  clear hok
  try simp only [sA_1, sL_1, sI_1, vp_in_iff, Int32.le_iff_toInt_le, Int32.lt_iff_toInt_lt, ← Int32.toInt_inj, reduceIte, Nat.reduceEqDiff] at *
  all_goals omega
theorem ob_X5_derivedFrom_36_12 (st : St) (a1 : Int32) (n_4 : Nat) (x3_4 : Int32) (x2_4 : Int32) (hok : okC st) (hi0_4 : 0 ≤ x3_4.toInt) (hi1_4 : x3_4.toInt ≤ (st.1 7).toInt) (hi2_4 : (st.1 7).toInt < x3_4.toInt + (n_4 + 1)) (h9_1 : ¬ st.1 7 ≤ x3_4) (h18_3 : ¬ st.2.1 26 x3_4.toNatClampNeg = 0) (h28_8 : ¬ st.2.1 23 x3_4.toNatClampNeg = (-1)) : vp_in x3_4 100 := by
  have z1 := okC_7 hok
  have z2 := (by decide : (0 : Int32).toInt = 0)
  have z3 := (by decide : (1 : Int32).toInt = 1)
  have z4 := (by decide : (7 : Int32).toInt = 7)
  have z5 := (by decide : (23 : Int32).toInt = 23)
  have z6 := (by decide : (26 : Int32).toInt = 26)
  have z7 := (by decide : (100 : Int32).toInt = 100)
  have z8 := (by decide : (-1 : Int32).toInt = -1)
  clear hok
  try simp only [sA_1, sL_1, sI_1, vp_in_iff, Int32.le_iff_toInt_le, Int32.lt_iff_toInt_lt, ← Int32.toInt_inj, reduceIte, Nat.reduceEqDiff] at *
  all_goals omega
theorem ob_X5_derivedFrom_4_inv0_14 (st : St) (a1 : Int32) (n_4 : Nat) (x3_4 : Int32) (x2_4 : Int32) (hok : okC st) (hi0_4 : 0 ≤ x3_4.toInt) (hi1_4 : x3_4.toInt ≤ (st.1 7).toInt) (hi2_4 : (st.1 7).toInt < x3_4.toInt + (n_4 + 1)) (h9_1 : ¬ st.1 7 ≤ x3_4) (h18_3 : ¬ st.2.1 26 x3_4.toNatClampNeg = 0) (h28_8 : ¬ st.2.1 23 x3_4.toNatClampNeg = (-1)) (h38_13 : st.2.1 24 x3_4.toNatClampNeg = a1) : 0 ≤ (x3_4 + 1).toInt := by
  have z1 := okC_7 hok
  have z2 := (by decide : (0 : Int32).toInt = 0)
  have z3 := (by decide : (1 : Int32).toInt = 1)
  have z4 := (by decide : (7 : Int32).toInt = 7)
  have z5 := (by decide : (23 : Int32).toInt = 23)
  have z6 := (by decide : (24 : Int32).toInt = 24)
  have z7 := (by decide : (26 : Int32).toInt = 26)
  have z8 := (by decide : (-1 : Int32).toInt = -1)
  have z9 := inc_I x3_4
  clear hok
  try simp only [sA_1, sL_1, sI_1, vp_in_iff, Int32.le_iff_toInt_le, Int32.lt_iff_toInt_lt, ← Int32.toInt_inj, reduceIte, Nat.reduceEqDiff] at *
  all_goals omega
theorem ob_X5_derivedFrom_4_inv1_15 (st : St) (a1 : Int32) (n_4 : Nat) (x3_4 : Int32) (x2_4 : Int32) (hok : okC st) (hi0_4 : 0 ≤ x3_4.toInt) (hi1_4 : x3_4.toInt ≤ (st.1 7).toInt) (hi2_4 : (st.1 7).toInt < x3_4.toInt + (n_4 + 1)) (h9_1 : ¬ st.1 7 ≤ x3_4) (h18_3 : ¬ st.2.1 26 x3_4.toNatClampNeg = 0) (h28_8 : ¬ st.2.1 23 x3_4.toNatClampNeg = (-1)) (h38_13 : st.2.1 24 x3_4.toNatClampNeg = a1) : (x3_4 + 1).toInt ≤ (st.1 7).toInt := by
  have z1 := okC_7 hok
  have z2 := (by decide : (0 : Int32).toInt = 0)
  have z3 := (by decide : (1 : Int32).toInt = 1)
  have z4 := (by decide : (7 : Int32).toInt = 7)
  have z5 := (by decide : (23 : Int32).toInt = 23)
  have z6 := (by decide : (24 : Int32).toInt = 24)
  have z7 := (by decide : (26 : Int32).toInt = 26)
  have z8 := (by decide : (-1 : Int32).toInt = -1)
  have z9 := inc_I x3_4
  clear hok
  try simp only [sA_1, sL_1, sI_1, vp_in_iff, Int32.le_iff_toInt_le, Int32.lt_iff_toInt_lt, ← Int32.toInt_inj, reduceIte, Nat.reduceEqDiff] at *
  all_goals omega
theorem ob_X5_derivedFrom_4_inv2_16 (st : St) (a1 : Int32) (n_4 : Nat) (x3_4 : Int32) (x2_4 : Int32) (hok : okC st) (hi0_4 : 0 ≤ x3_4.toInt) (hi1_4 : x3_4.toInt ≤ (st.1 7).toInt) (hi2_4 : (st.1 7).toInt < x3_4.toInt + (n_4 + 1)) (h9_1 : ¬ st.1 7 ≤ x3_4) (h18_3 : ¬ st.2.1 26 x3_4.toNatClampNeg = 0) (h28_8 : ¬ st.2.1 23 x3_4.toNatClampNeg = (-1)) (h38_13 : st.2.1 24 x3_4.toNatClampNeg = a1) : (st.1 7).toInt < (x3_4 + 1).toInt + n_4 := by
  have z1 := okC_7 hok
  have z2 := (by decide : (0 : Int32).toInt = 0)
  have z3 := (by decide : (1 : Int32).toInt = 1)
  have z4 := (by decide : (7 : Int32).toInt = 7)
  have z5 := (by decide : (23 : Int32).toInt = 23)
  have z6 := (by decide : (24 : Int32).toInt = 24)
  have z7 := (by decide : (26 : Int32).toInt = 26)
  have z8 := (by decide : (-1 : Int32).toInt = -1)
  have z9 := inc_I x3_4
  clear hok
  try simp only [sA_1, sL_1, sI_1, vp_in_iff, Int32.le_iff_toInt_le, Int32.lt_iff_toInt_lt, ← Int32.toInt_inj, reduceIte, Nat.reduceEqDiff] at *
  all_goals omega
theorem ob_X5_derivedFrom_46_17 (st : St) (a1 : Int32) (n_4 : Nat) (x3_4 : Int32) (x2_4 : Int32) (hok : okC st) (hi0_4 : 0 ≤ x3_4.toInt) (hi1_4 : x3_4.toInt ≤ (st.1 7).toInt) (hi2_4 : (st.1 7).toInt < x3_4.toInt + (n_4 + 1)) (h9_1 : ¬ st.1 7 ≤ x3_4) (h18_3 : ¬ st.2.1 26 x3_4.toNatClampNeg = 0) (h28_8 : ¬ st.2.1 23 x3_4.toNatClampNeg = (-1)) (h38_13 : ¬ st.2.1 24 x3_4.toNatClampNeg = a1) : vp_in x3_4 100 := by
  have z1 := okC_7 hok
  have z2 := (by decide : (0 : Int32).toInt = 0)
  have z3 := (by decide : (1 : Int32).toInt = 1)
  have z4 := (by decide : (7 : Int32).toInt = 7)
  have z5 := (by decide : (23 : Int32).toInt = 23)
  have z6 := (by decide : (24 : Int32).toInt = 24)
  have z7 := (by decide : (26 : Int32).toInt = 26)
  have z8 := (by decide : (100 : Int32).toInt = 100)
  have z9 := (by decide : (-1 : Int32).toInt = -1)
  clear hok
  try simp only [sA_1, sL_1, sI_1, vp_in_iff, Int32.le_iff_toInt_le, Int32.lt_iff_toInt_lt, ← Int32.toInt_inj, reduceIte, Nat.reduceEqDiff] at *
  all_goals omega
theorem ob_X5_derivedFrom_4_inv0_19 (st : St) (a1 : Int32) (n_4 : Nat) (x3_4 : Int32) (x2_4 : Int32) (hok : okC st) (hi0_4 : 0 ≤ x3_4.toInt) (hi1_4 : x3_4.toInt ≤ (st.1 7).toInt) (hi2_4 : (st.1 7).toInt < x3_4.toInt + (n_4 + 1)) (h9_1 : ¬ st.1 7 ≤ x3_4) (h18_3 : ¬ st.2.1 26 x3_4.toNatClampNeg = 0) (h28_8 : ¬ st.2.1 23 x3_4.toNatClampNeg = (-1)) (h38_13 : ¬ st.2.1 24 x3_4.toNatClampNeg = a1) (h48_18 : ¬ st.2.1 25 x3_4.toNatClampNeg = a1) : 0 ≤ (x3_4 + 1).toInt := by
  have z1 := okC_7 hok
  have z2 := (by decide : (0 : Int32).toInt = 0)
  have z3 := (by decide : (1 : Int32).toInt = 1)
  have z4 := (by decide : (7 : Int32).toInt = 7)
  have z5 := (by decide : (23 : Int32).toInt = 23)
  have z6 := (by decide : (24 : Int32).toInt = 24)
  have z7 := (by decide : (25 : Int32).toInt = 25)
  have z8 := (by decide : (26 : Int32).toInt = 26)
  have z9 := (by decide : (-1 : Int32).toInt = -1)
  have z10 := inc_I x3_4
  clear hok
  try simp only [sA_1, sL_1, sI_1, vp_in_iff, Int32.le_iff_toInt_le, Int32.lt_iff_toInt_lt, ← Int32.toInt_inj, reduceIte, Nat.reduceEqDiff] at *
  all_goals omega
theorem ob_X5_derivedFrom_4_inv1_20 (st : St) (a1 : Int32) (n_4 : Nat) (x3_4 : Int32) (x2_4 : Int32) (hok : okC st) (hi0_4 : 0 ≤ x3_4.toInt) (hi1_4 : x3_4.toInt ≤ (st.1 7).toInt) (hi2_4 : (st.1 7).toInt < x3_4.toInt + (n_4 + 1)) (h9_1 : ¬ st.1 7 ≤ x3_4) (h18_3 : ¬ st.2.1 26 x3_4.toNatClampNeg = 0) (h28_8 : ¬ st.2.1 23 x3_4.toNatClampNeg = (-1)) (h38_13 : ¬ st.2.1 24 x3_4.toNatClampNeg = a1) (h48_18 : ¬ st.2.1 25 x3_4.toNatClampNeg = a1) : (x3_4 + 1).toInt ≤ (st.1 7).toInt := by
  have z1 := okC_7 hok
  have z2 := (by decide : (0 : Int32).toInt = 0)
  have z3 := (by decide : (1 : Int32).toInt = 1)
  have z4 := (by decide : (7 : Int32).toInt = 7)
  have z5 := (by decide : (23 : Int32).toInt = 23)
  have z6 := (by decide : (24 : Int32).toInt = 24)
  have z7 := (by decide : (25 : Int32).toInt = 25)
  have z8 := (by decide : (26 : Int32).toInt = 26)
  have z9 := (by decide : (-1 : Int32).toInt = -1)
  have z10 := inc_I x3_4
  clear hok
  try simp only [sA_1, sL_1, sI_1, vp_in_iff, Int32.le_iff_toInt_le, Int32.lt_iff_toInt_lt, ← Int32.toInt_inj, reduceIte, Nat.reduceEqDiff] at *
  all_goals omega
theorem ob_X5_derivedFrom_4_inv2_21 (st : St) (a1 : Int32) (n_4 : Nat) (x3_4 : Int32) (x2_4 : Int32) (hok : okC st) (hi0_4 : 0 ≤ x3_4.toInt) (hi1_4 : x3_4.toInt ≤ (st.1 7).toInt) (hi2_4 : (st.1 7).toInt < x3_4.toInt + (n_4 + 1)) (h9_1 : ¬ st.1 7 ≤ x3_4) (h18_3 : ¬ st.2.1 26 x3_4.toNatClampNeg = 0) (h28_8 : ¬ st.2.1 23 x3_4.toNatClampNeg = (-1)) (h38_13 : ¬ st.2.1 24 x3_4.toNatClampNeg = a1) (h48_18 : ¬ st.2.1 25 x3_4.toNatClampNeg = a1) : (st.1 7).toInt < (x3_4 + 1).toInt + n_4 := by
  have z1 := okC_7 hok
  have z2 := (by decide : (0 : Int32).toInt = 0)
  have z3 := (by decide : (1 : Int32).toInt = 1)
  have z4 := (by decide : (7 : Int32).toInt = 7)
  have z5 := (by decide : (23 : Int32).toInt = 23)
  have z6 := (by decide : (24 : Int32).toInt = 24)
  have z7 := (by decide : (25 : Int32).toInt = 25)
  have z8 := (by decide : (26 : Int32).toInt = 26)
  have z9 := (by decide : (-1 : Int32).toInt = -1)
  have z10 := inc_I x3_4
  clear hok
  try simp only [sA_1, sL_1, sI_1, vp_in_iff, Int32.le_iff_toInt_le, Int32.lt_iff_toInt_lt, ← Int32.toInt_inj, reduceIte, Nat.reduceEqDiff] at *
  all_goals omega
theorem ob_X5_derivedFrom_4_inv0_22 (st : St) (a1 : Int32) (n_4 : Nat) (x3_4 : Int32) (x2_4 : Int32) (hok : okC st) (hi0_4 : 0 ≤ x3_4.toInt) (hi1_4 : x3_4.toInt ≤ (st.1 7).toInt) (hi2_4 : (st.1 7).toInt < x3_4.toInt + (n_4 + 1)) (h9_1 : ¬ st.1 7 ≤ x3_4) (h18_3 : ¬ st.2.1 26 x3_4.toNatClampNeg = 0) (h28_8 : ¬ st.2.1 23 x3_4.toNatClampNeg = (-1)) (h38_13 : ¬ st.2.1 24 x3_4.toNatClampNeg = a1) (h48_18 : st.2.1 25 x3_4.toNatClampNeg = a1) : 0 ≤ (x3_4 + 1).toInt := by
  have z1 := okC_7 hok
  have z2 := (by decide : (0 : Int32).toInt = 0)
  have z3 := (by decide : (1 : Int32).toInt = 1)
  have z4 := (by decide : (7 : Int32).toInt = 7)
  have z5 := (by decide : (23 : Int32).toInt = 23)
  have z6 := (by decide : (24 : Int32).toInt = 24)
  have z7 := (by decide : (25 : Int32).toInt = 25)
  have z8 := (by decide : (26 : Int32).toInt = 26)
  have z9 := (by decide : (-1 : Int32).toInt = -1)
  have z10 := inc_I x3_4
  clear hok
  try simp only [sA_1, sL_1, sI_1, vp_in_iff, Int32.le_iff_toInt_le, Int32.lt_iff_toInt_lt, ← Int32.toInt_inj, reduceIte, Nat.reduceEqDiff] at *
  all_goals omega
theorem ob_X5_derivedFrom_4_inv1_23 (st : St) (a1 : Int32) (n_4 : Nat) (x3_4 : Int32) (x2_4 : Int32) (hok : okC st) (hi0_4 : 0 ≤ x3_4.toInt) (hi1_4 : x3_4.toInt ≤ (st.1 7).toInt) (hi2_4 : (st.1 7).toInt < x3_4.toInt + (n_4 + 1)) (h9_1 : ¬ st.1 7 ≤ x3_4) (h18_3 : ¬ st.2.1 26 x3_4.toNatClampNeg = 0) (h28_8 : ¬ st.2.1 23 x3_4.toNatClampNeg = (-1)) (h38_13 : ¬ st.2.1 24 x3_4.toNatClampNeg = a1) (h48_18 : st.2.1 25 x3_4.toNatClampNeg = a1) : (x3_4 + 1).toInt ≤ (st.1 7).toInt := by
  have z1 := okC_7 hok
  have z2 := (by decide : (0 : Int32).toInt = 0)
  have z3 := (by decide : (1 : Int32).toInt = 1)
  have z4 := (by decide : (7 : Int32).toInt = 7)
  have z5 := (by decide : (23 : Int32).toInt = 23)
  have z6 := (by decide : (24 : Int32).toInt = 24)
  have z7 := (by decide : (25 : Int32).toInt = 25)
  have z8 := (by decide : (26 : Int32).toInt = 26)
  have z9 := (by decide : (-1 : Int32).toInt = -1)
  have z10 := inc_I x3_4
  clear hok
  try simp only [sA_1, sL_1, sI_1, vp_in_iff, Int32.le_iff_toInt_le, Int32.lt_iff_toInt_lt, ← Int32.toInt_inj, reduceIte, Nat.reduceEqDiff] at *
  all_goals omega
theorem ob_X5_derivedFrom_4_inv2_24 (st : St) (a1 : Int32) (n_4 : Nat) (x3_4 : Int32) (x2_4 : Int32) (hok : okC st) (hi0_4 : 0 ≤ x3_4.toInt) (hi1_4 : x3_4.toInt ≤ (st.1 7).toInt) (hi2_4 : (st.1 7).toInt < x3_4.toInt + (n_4 + 1)) (h9_1 : ¬ st.1 7 ≤ x3_4) (h18_3 : ¬ st.2.1 26 x3_4.toNatClampNeg = 0) (h28_8 : ¬ st.2.1 23 x3_4.toNatClampNeg = (-1)) (h38_13 : ¬ st.2.1 24 x3_4.toNatClampNeg = a1) (h48_18 : st.2.1 25 x3_4.toNatClampNeg = a1) : (st.1 7).toInt < (x3_4 + 1).toInt + n_4 := by
  have z1 := okC_7 hok
  have z2 := (by decide : (0 : Int32).toInt = 0)
  have z3 := (by decide : (1 : Int32).toInt = 1)
  have z4 := (by decide : (7 : Int32).toInt = 7)
  have z5 := (by decide : (23 : Int32).toInt = 23)
  have z6 := (by decide : (24 : Int32).toInt = 24)
  have z7 := (by decide : (25 : Int32).toInt = 25)
  have z8 := (by decide : (26 : Int32).toInt = 26)
  have z9 := (by decide : (-1 : Int32).toInt = -1)
  have z10 := inc_I x3_4
  clear hok
  try simp only [sA_1, sL_1, sI_1, vp_in_iff, Int32.le_iff_toInt_le, Int32.lt_iff_toInt_lt, ← Int32.toInt_inj, reduceIte, Nat.reduceEqDiff] at *
  all_goals omega
theorem ob_X5_derivedFrom_4_inv0_25 (st : St) (a1 : Int32) (hok : okC st) : 0 ≤ (0 : Int32).toInt := by
  have z1 := (by decide : (0 : Int32).toInt = 0)
  clear hok
  try simp only [sA_1, sL_1, sI_1, vp_in_iff, Int32.le_iff_toInt_le, Int32.lt_iff_toInt_lt, ← Int32.toInt_inj, reduceIte, Nat.reduceEqDiff] at *
  all_goals omega
theorem ob_X5_derivedFrom_4_inv1_26 (st : St) (a1 : Int32) (hok : okC st) : (0 : Int32).toInt ≤ (st.1 7).toInt := by
  have z1 := okC_7 hok
  have z2 := (by decide : (0 : Int32).toInt = 0)
  have z3 := (by decide : (7 : Int32).toInt = 7)
  clear hok
  try simp only [sA_1, sL_1, sI_1, vp_in_iff, Int32.le_iff_toInt_le, Int32.lt_iff_toInt_lt, ← Int32.toInt_inj, reduceIte, Nat.reduceEqDiff] at *
  all_goals omega
theorem ob_X5_derivedFrom_4_inv2_27 (st : St) (a1 : Int32) (hok : okC st) : (st.1 7).toInt < (0 : Int32).toInt + ((st.1 7).toInt.toNat + 1) := by
  have z1 := okC_7 hok
  have z2 := (by decide : (0 : Int32).toInt = 0)
  have z3 := (by decide : (1 : Int32).toInt = 1)
  have z4 := (by decide : (7 : Int32).toInt = 7)
  clear hok
  try simp only [sA_1, sL_1, sI_1, vp_in_iff, Int32.le_iff_toInt_le, Int32.lt_iff_toInt_lt, ← Int32.toInt_inj, reduceIte, Nat.reduceEqDiff] at *
  all_goals omega
theorem ob_X5_unmarkAll_2_zero (st : St) (st_2 : St) (x1_2 : Int32) (hok : okC st) (hi0_2 : 0 ≤ x1_2.toInt) (hi1_2 : x1_2.toInt ≤ (st.1 7).toInt) (hi2_2 : (st.1 7).toInt < x1_2.toInt + 0) (hi3_2 : okC st_2) (hi4_2 : (st_2.1 7).toInt = (st.1 7).toInt) : False := by
  have z1 := okC_7 hok
  have z2 := okC_7 hi3_2
  have z3 := (by decide : (0 : Int32).toInt = 0)
  have z4 := (by decide : (7 : Int32).toInt = 7)
  clear hok hi3_2
  try simp only [sA_1, sL_1, sI_1, vp_in_iff, Int32.le_iff_toInt_le, Int32.lt_iff_toInt_lt, ← Int32.toInt_inj, reduceIte, Nat.reduceEqDiff] at *
  all_goals omega
theorem ob_X5_unmarkAll_16_2 (st : St) (n_2 : Nat) (st_2 : St) (x1_2 : Int32) (hok : okC st) (hi0_2 : 0 ≤ x1_2.toInt) (hi1_2 : x1_2.toInt ≤ (st.1 7).toInt) (hi2_2 : (st.1 7).toInt < x1_2.toInt + (n_2 + 1)) (hi3_2 : okC st_2) (hi4_2 : (st_2.1 7).toInt = (st.1 7).toInt) (h7_1 : ¬ st_2.1 7 ≤ x1_2) : vp_in x1_2 100 := by
  have z1 := okC_7 hok
  have z2 := okC_7 hi3_2
  have z3 := (by decide : (0 : Int32).toInt = 0)
  have z4 := (by decide : (1 : Int32).toInt = 1)
  have z5 := (by decide : (7 : Int32).toInt = 7)
  have z6 := (by decide : (100 : Int32).toInt = 100)
  clear hi4_2 hok hi3_2
  try simp only [sA_1, sL_1, sI_1, vp_in_iff, Int32.le_iff_toInt_le, Int32.lt_iff_toInt_lt, ← Int32.toInt_inj, reduceIte, Nat.reduceEqDiff] at *
  all_goals omega
theorem ob_X5_unmarkAll_2_inv0_3 (st : St) (n_2 : Nat) (st_2 : St) (x1_2 : Int32) (hok : okC st) (hi0_2 : 0 ≤ x1_2.toInt) (hi1_2 : x1_2.toInt ≤ (st.1 7).toInt) (hi2_2 : (st.1 7).toInt < x1_2.toInt + (n_2 + 1)) (hi3_2 : okC st_2) (hi4_2 : (st_2.1 7).toInt = (st.1 7).toInt) (h7_1 : ¬ st_2.1 7 ≤ x1_2) : 0 ≤ (x1_2 + 1).toInt := by
  have z1 := okC_7 hok
  have z2 := okC_7 hi3_2
  have z3 := (by decide : (0 : Int32).toInt = 0)
  have z4 := (by decide : (1 : Int32).toInt = 1)
  have z5 := (by decide : (7 : Int32).toInt = 7)
  have z6 := inc_I x1_2
  clear hi4_2 hok hi3_2
  try simp only [sA_1, sL_1, sI_1, vp_in_iff, Int32.le_iff_toInt_le, Int32.lt_iff_toInt_lt, ← Int32.toInt_inj, reduceIte, Nat.reduceEqDiff] at *
  all_goals omega
theorem ob_X5_unmarkAll_2_inv1_4 (st : St) (n_2 : Nat) (st_2 : St) (x1_2 : Int32) (hok : okC st) (hi0_2 : 0 ≤ x1_2.toInt) (hi1_2 : x1_2.toInt ≤ (st.1 7).toInt) (hi2_2 : (st.1 7).toInt < x1_2.toInt + (n_2 + 1)) (hi3_2 : okC st_2) (hi4_2 : (st_2.1 7).toInt = (st.1 7).toInt) (h7_1 : ¬ st_2.1 7 ≤ x1_2) : (x1_2 + 1).toInt ≤ (st.1 7).toInt := by
  have z1 := okC_7 hok
  have z2 := okC_7 hi3_2
  have z3 := (by decide : (0 : Int32).toInt = 0)
  have z4 := (by decide : (1 : Int32).toInt = 1)
  have z5 := (by decide : (7 : Int32).toInt = 7)
  have z6 := inc_I x1_2
  clear hok hi3_2
  try simp only [sA_1, sL_1, sI_1, vp_in_iff, Int32.le_iff_toInt_le, Int32.lt_iff_toInt_lt, ← Int32.toInt_inj, reduceIte, Nat.reduceEqDiff] at *
  all_goals omega
theorem ob_X5_unmarkAll_2_inv2_5 (st : St) (n_2 : Nat) (st_2 : St) (x1_2 : Int32) (hok : okC st) (hi0_2 : 0 ≤ x1_2.toInt) (hi1_2 : x1_2.toInt ≤ (st.1 7).toInt) (hi2_2 : (st.1 7).toInt < x1_2.toInt + (n_2 + 1)) (hi3_2 : okC st_2) (hi4_2 : (st_2.1 7).toInt = (st.1 7).toInt) (h7_1 : ¬ st_2.1 7 ≤ x1_2) : (st.1 7).toInt < (x1_2 + 1).toInt + n_2 := by
  have z1 := okC_7 hok
  have z2 := okC_7 hi3_2
  have z3 := (by decide : (0 : Int32).toInt = 0)
  have z4 := (by decide : (1 : Int32).toInt = 1)
  have z5 := (by decide : (7 : Int32).toInt = 7)
  have z6 := inc_I x1_2
  clear hok hi3_2
  try simp only [sA_1, sL_1, sI_1, vp_in_iff, Int32.le_iff_toInt_le, Int32.lt_iff_toInt_lt, ← Int32.toInt_inj, reduceIte, Nat.reduceEqDiff] at *
  all_goals omega
theorem ob_X5_unmarkAll_2_inv3_6 (st : St) (n_2 : Nat) (st_2 : St) (x1_2 : Int32) (hok : okC st) (hi0_2 : 0 ≤ x1_2.toInt) (hi1_2 : x1_2.toInt ≤ (st.1 7).toInt) (hi2_2 : (st.1 7).toInt < x1_2.toInt + (n_2 + 1)) (hi3_2 : okC st_2) (hi4_2 : (st_2.1 7).toInt = (st.1 7).toInt) (h7_1 : ¬ st_2.1 7 ≤ x1_2) : okC (sA st_2 27 x1_2.toNatClampNeg 0) := by
  exact hi3_2
theorem ob_X5_unmarkAll_2_inv4_7 (st : St) (n_2 : Nat) (st_2 : St) (x1_2 : Int32) (hok : okC st) (hi0_2 : 0 ≤ x1_2.toInt) (hi1_2 : x1_2.toInt ≤ (st.1 7).toInt) (hi2_2 : (st.1 7).toInt < x1_2.toInt + (n_2 + 1)) (hi3_2 : okC st_2) (hi4_2 : (st_2.1 7).toInt = (st.1 7).toInt) (h7_1 : ¬ st_2.1 7 ≤ x1_2) : ((sA st_2 27 x1_2.toNatClampNeg 0).1 7).toInt = (st.1 7).toInt := by
  have z1 := okC_7 hok
  have z2 := okC_7 hi3_2
  have z3 := (by decide : (0 : Int32).toInt = 0)
  have z4 := (by decide : (1 : Int32).toInt = 1)
  have z5 := (by decide : (7 : Int32).toInt = 7)
  have z6 := (by decide : (27 : Int32).toInt = 27)
  clear hok hi3_2
  try simp only [sA_1, sL_1, sI_1, vp_in_iff, Int32.le_iff_toInt_le, Int32.lt_iff_toInt_lt, ← Int32.toInt_inj, reduceIte, Nat.reduceEqDiff] at *
  all_goals omega
theorem ob_X5_unmarkAll_2_inv0_8 (st : St) (hok : okC st) : 0 ≤ (0 : Int32).toInt := by
  have z1 := (by decide : (0 : Int32).toInt = 0)
  clear hok
  try simp only [sA_1, sL_1, sI_1, vp_in_iff, Int32.le_iff_toInt_le, Int32.lt_iff_toInt_lt, ← Int32.toInt_inj, reduceIte, Nat.reduceEqDiff] at *
  all_goals omega
theorem ob_X5_unmarkAll_2_inv1_9 (st : St) (hok : okC st) : (0 : Int32).toInt ≤ (st.1 7).toInt := by
  have z1 := okC_7 hok
  have z2 := (by decide : (0 : Int32).toInt = 0)
  have z3 := (by decide : (7 : Int32).toInt = 7)
  clear hok
  try simp only [sA_1, sL_1, sI_1, vp_in_iff, Int32.le_iff_toInt_le, Int32.lt_iff_toInt_lt, ← Int32.toInt_inj, reduceIte, Nat.reduceEqDiff] at *
  all_goals omega
theorem ob_X5_unmarkAll_2_inv2_10 (st : St) (hok : okC st) : (st.1 7).toInt < (0 : Int32).toInt + ((st.1 7).toInt.toNat + 1) := by
  have z1 := okC_7 hok
  have z2 := (by decide : (0 : Int32).toInt = 0)
  have z3 := (by decide : (1 : Int32).toInt = 1)
  have z4 := (by decide : (7 : Int32).toInt = 7)
  clear hok
  try simp only [sA_1, sL_1, sI_1, vp_in_iff, Int32.le_iff_toInt_le, Int32.lt_iff_toInt_lt, ← Int32.toInt_inj, reduceIte, Nat.reduceEqDiff] at *
  all_goals omega
theorem ob_X5_unmarkAll_2_inv3_11 (st : St) (hok : okC st) : okC st := by
  exact hok
theorem ob_X5_unmarkAll_2_inv4_12 (st : St) (hok : okC st) : (st.1 7).toInt = (st.1 7).toInt := by
  have z1 := okC_7 hok
  have z2 := (by decide : (7 : Int32).toInt = 7)
  clear hok
  try simp only [sA_1, sL_1, sI_1, vp_in_iff, Int32.le_iff_toInt_le, Int32.lt_iff_toInt_lt, ← Int32.toInt_inj, reduceIte, Nat.reduceEqDiff] at *
  all_goals omega
theorem ob_X5_followInputs_2_zero (st : St) (st_2 : St) (x1_2 : Int32) (hok : okC st) (hi0_2 : 0 ≤ x1_2.toInt) (hi1_2 : x1_2.toInt ≤ (st.1 7).toInt) (hi2_2 : (st.1 7).toInt < x1_2.toInt + 0) (hi3_2 : okC st_2) (hi4_2 : (st_2.1 7).toInt = (st.1 7).toInt) : False := by
  have z1 := okC_7 hok
  have z2 := okC_7 hi3_2
  have z3 := (by decide : (0 : Int32).toInt = 0)
  have z4 := (by decide : (7 : Int32).toInt = 7)
  clear hok hi3_2
  try simp only [sA_1, sL_1, sI_1, vp_in_iff, Int32.le_iff_toInt_le, Int32.lt_iff_toInt_lt, ← Int32.toInt_inj, reduceIte, Nat.reduceEqDiff] at *
  all_goals omega
theorem ob_X5_followInputs_15_2 (st : St) (n_2 : Nat) (st_2 : St) (x1_2 : Int32) (hok : okC st) (hi0_2 : 0 ≤ x1_2.toInt) (hi1_2 : x1_2.toInt ≤ (st.1 7).toInt) (hi2_2 : (st.1 7).toInt < x1_2.toInt + (n_2 + 1)) (hi3_2 : okC st_2) (hi4_2 : (st_2.1 7).toInt = (st.1 7).toInt) (h7_1 : ¬ st_2.1 7 ≤ x1_2) : vp_in x1_2 100 := by
  have z1 := okC_7 hok
  have z2 := okC_7 hi3_2
  have z3 := (by decide : (0 : Int32).toInt = 0)
  have z4 := (by decide : (1 : Int32).toInt = 1)
  have z5 := (by decide : (7 : Int32).toInt = 7)
  have z6 := (by decide : (100 : Int32).toInt = 100)
  clear hi4_2 hok hi3_2
  try simp only [sA_1, sL_1, sI_1, vp_in_iff, Int32.le_iff_toInt_le, Int32.lt_iff_toInt_lt, ← Int32.toInt_inj, reduceIte, Nat.reduceEqDiff] at *
  all_goals omega
theorem ob_X5_followInputs_2_inv0_4 (st : St) (n_2 : Nat) (st_2 : St) (x1_2 : Int32) (hok : okC st) (hi0_2 : 0 ≤ x1_2.toInt) (hi1_2 : x1_2.toInt ≤ (st.1 7).toInt) (hi2_2 : (st.1 7).toInt < x1_2.toInt + (n_2 + 1)) (hi3_2 : okC st_2) (hi4_2 : (st_2.1 7).toInt = (st.1 7).toInt) (h7_1 : ¬ st_2.1 7 ≤ x1_2) (h16_3 : st_2.2.1 26 x1_2.toNatClampNeg = 0) : 0 ≤ (x1_2 + 1).toInt := by
  have z1 := okC_7 hok
  have z2 := okC_7 hi3_2
  have z3 := (by decide : (0 : Int32).toInt = 0)
  have z4 := (by decide : (1 : Int32).toInt = 1)
  have z5 := (by decide : (7 : Int32).toInt = 7)
  have z6 := (by decide : (26 : Int32).toInt = 26)
  have z7 := inc_I x1_2
  clear hi4_2 hok hi3_2
  try simp only [sA_1, sL_1, sI_1, vp_in_iff, Int32.le_iff_toInt_le, Int32.lt_iff_toInt_lt, ← Int32.toInt_inj, reduceIte, Nat.reduceEqDiff] at *
  all_goals omega
theorem ob_X5_followInputs_2_inv1_5 (st : St) (n_2 : Nat) (st_2 : St) (x1_2 : Int32) (hok : okC st) (hi0_2 : 0 ≤ x1_2.toInt) (hi1_2 : x1_2.toInt ≤ (st.1 7).toInt) (hi2_2 : (st.1 7).toInt < x1_2.toInt + (n_2 + 1)) (hi3_2 : okC st_2) (hi4_2 : (st_2.1 7).toInt = (st.1 7).toInt) (h7_1 : ¬ st_2.1 7 ≤ x1_2) (h16_3 : st_2.2.1 26 x1_2.toNatClampNeg = 0) : (x1_2 + 1).toInt ≤ (st.1 7).toInt := by
  have z1 := okC_7 hok
  have z2 := okC_7 hi3_2
  have z3 := (by decide : (0 : Int32).toInt = 0)
  have z4 := (by decide : (1 : Int32).toInt = 1)
  have z5 := (by decide : (7 : Int32).toInt = 7)
  have z6 := (by decide : (26 : Int32).toInt = 26)
  have z7 := inc_I x1_2
  clear hok hi3_2
  try simp only [sA_1, sL_1, sI_1, vp_in_iff, Int32.le_iff_toInt_le, Int32.lt_iff_toInt_lt, ← Int32.toInt_inj, reduceIte, Nat.reduceEqDiff] at *
  all_goals omega
theorem ob_X5_followInputs_2_inv2_6 (st : St) (n_2 : Nat) (st_2 : St) (x1_2 : Int32) (hok : okC st) (hi0_2 : 0 ≤ x1_2.toInt) (hi1_2 : x1_2.toInt ≤ (st.1 7).toInt) (hi2_2 : (st.1 7).toInt < x1_2.toInt + (n_2 + 1)) (hi3_2 : okC st_2) (hi4_2 : (st_2.1 7).toInt = (st.1 7).toInt) (h7_1 : ¬ st_2.1 7 ≤ x1_2) (h16_3 : st_2.2.1 26 x1_2.toNatClampNeg = 0) : (st.1 7).toInt < (x1_2 + 1).toInt + n_2 := by
  have z1 := okC_7 hok
  have z2 := okC_7 hi3_2
  have z3 := (by decide : (0 : Int32).toInt = 0)
  have z4 := (by decide : (1 : Int32).toInt = 1)
  have z5 := (by decide : (7 : Int32).toInt = 7)
  have z6 := (by decide : (26 : Int32).toInt = 26)
  have z7 := inc_I x1_2
  clear hok hi3_2
  try simp only [sA_1, sL_1, sI_1, vp_in_iff, Int32.le_iff_toInt_le, Int32.lt_iff_toInt_lt, ← Int32.toInt_inj, reduceIte, Nat.reduceEqDiff] at *
  all_goals omega
theorem ob_X5_followInputs_2_inv3_7 (st : St) (n_2 : Nat) (st_2 : St) (x1_2 : Int32) (hok : okC st) (hi0_2 : 0 ≤ x1_2.toInt) (hi1_2 : x1_2.toInt ≤ (st.1 7).toInt) (hi2_2 : (st.1 7).toInt < x1_2.toInt + (n_2 + 1)) (hi3_2 : okC st_2) (hi4_2 : (st_2.1 7).toInt = (st.1 7).toInt) (h7_1 : ¬ st_2.1 7 ≤ x1_2) (h16_3 : st_2.2.1 26 x1_2.toNatClampNeg = 0) : okC st_2 := by
  exact hi3_2
theorem ob_X5_followInputs_2_inv4_8 (st : St) (n_2 : Nat) (st_2 : St) (x1_2 : Int32) (hok : okC st) (hi0_2 : 0 ≤ x1_2.toInt) (hi1_2 : x1_2.toInt ≤ (st.1 7).toInt) (hi2_2 : (st.1 7).toInt < x1_2.toInt + (n_2 + 1)) (hi3_2 : okC st_2) (hi4_2 : (st_2.1 7).toInt = (st.1 7).toInt) (h7_1 : ¬ st_2.1 7 ≤ x1_2) (h16_3 : st_2.2.1 26 x1_2.toNatClampNeg = 0) : (st_2.1 7).toInt = (st.1 7).toInt := by
  have z1 := okC_7 hok
  have z2 := okC_7 hi3_2
  have z3 := (by decide : (1 : Int32).toInt = 1)
  have z4 := (by decide : (7 : Int32).toInt = 7)
  clear hi0_2 h16_3 hok hi3_2
  try simp only [sA_1, sL_1, sI_1, vp_in_iff, Int32.le_iff_toInt_le, Int32.lt_iff_toInt_lt, ← Int32.toInt_inj, reduceIte, Nat.reduceEqDiff] at *
  all_goals omega
theorem ob_X5_followInputs_24_9 (st : St) (n_2 : Nat) (st_2 : St) (x1_2 : Int32) (hok : okC st) (hi0_2 : 0 ≤ x1_2.toInt) (hi1_2 : x1_2.toInt ≤ (st.1 7).toInt) (hi2_2 : (st.1 7).toInt < x1_2.toInt + (n_2 + 1)) (hi3_2 : okC st_2) (hi4_2 : (st_2.1 7).toInt = (st.1 7).toInt) (h7_1 : ¬ st_2.1 7 ≤ x1_2) (h16_3 : ¬ st_2.2.1 26 x1_2.toNatClampNeg = 0) : vp_in x1_2 100 := by
  have z1 := okC_7 hok
  have z2 := okC_7 hi3_2
  have z3 := (by decide : (0 : Int32).toInt = 0)
  have z4 := (by decide : (1 : Int32).toInt = 1)
  have z5 := (by decide : (7 : Int32).toInt = 7)
  have z6 := (by decide : (26 : Int32).toInt = 26)
  have z7 := (by decide : (100 : Int32).toInt = 100)
  clear hi4_2 hok hi3_2
  try simp only [sA_1, sL_1, sI_1, vp_in_iff, Int32.le_iff_toInt_le, Int32.lt_iff_toInt_lt, ← Int32.toInt_inj, reduceIte, Nat.reduceEqDiff] at *
  all_goals omega
theorem ob_X5_followInputs_2_inv0_11 (st : St) (n_2 : Nat) (st_2 : St) (x1_2 : Int32) (hok : okC st) (hi0_2 : 0 ≤ x1_2.toInt) (hi1_2 : x1_2.toInt ≤ (st.1 7).toInt) (hi2_2 : (st.1 7).toInt < x1_2.toInt + (n_2 + 1)) (hi3_2 : okC st_2) (hi4_2 : (st_2.1 7).toInt = (st.1 7).toInt) (h7_1 : ¬ st_2.1 7 ≤ x1_2) (h16_3 : ¬ st_2.2.1 26 x1_2.toNatClampNeg = 0) (h26_10 : st_2.2.1 23 x1_2.toNatClampNeg = (-1)) : 0 ≤ (x1_2 + 1).toInt := by
  have z1 := okC_7 hok
  have z2 := okC_7 hi3_2
  have z3 := (by decide : (0 : Int32).toInt = 0)
  have z4 := (by decide : (1 : Int32).toInt = 1)
  have z5 := (by decide : (7 : Int32).toInt = 7)
  have z6 := (by decide : (23 : Int32).toInt = 23)
  have z7 := (by decide : (26 : Int32).toInt = 26)
  have z8 := (by decide : (-1 : Int32).toInt = -1)
  have z9 := inc_I x1_2
  clear hi4_2 hok hi3_2
  try simp only [sA_1, sL_1, sI_1, vp_in_iff, Int32.le_iff_toInt_le, Int32.lt_iff_toInt_lt, ← Int32.toInt_inj, reduceIte, Nat.reduceEqDiff] at *
  all_goals omega
theorem ob_X5_followInputs_2_inv1_12 (st : St) (n_2 : Nat) (st_2 : St) (x1_2 : Int32) (hok : okC st) (hi0_2 : 0 ≤ x1_2.toInt) (hi1_2 : x1_2.toInt ≤ (st.1 7).toInt) (hi2_2 : (st.1 7).toInt < x1_2.toInt + (n_2 + 1)) (hi3_2 : okC st_2) (hi4_2 : (st_2.1 7).toInt = (st.1 7).toInt) (h7_1 : ¬ st_2.1 7 ≤ x1_2) (h16_3 : ¬ st_2.2.1 26 x1_2.toNatClampNeg = 0) (h26_10 : st_2.2.1 23 x1_2.toNatClampNeg = (-1)) : (x1_2 + 1).toInt ≤ (st.1 7).toInt := by
  have z1 := okC_7 hok
  have z2 := okC_7 hi3_2
  have z3 := (by decide : (0 : Int32).toInt = 0)
  have z4 := (by decide : (1 : Int32).toInt = 1)
  have z5 := (by decide : (7 : Int32).toInt = 7)
  have z6 := (by decide : (23 : Int32).toInt = 23)
  have z7 := (by decide : (26 : Int32).toInt = 26)
  have z8 := (by decide : (-1 : Int32).toInt = -1)
  have z9 := inc_I x1_2
  clear hok hi3_2
  try simp only [sA_1, sL_1, sI_1, vp_in_iff, Int32.le_iff_toInt_le, Int32.lt_iff_toInt_lt, ← Int32.toInt_inj, reduceIte, Nat.reduceEqDiff] at *
  all_goals omega
theorem ob_X5_followInputs_2_inv2_13 (st : St) (n_2 : Nat) (st_2 : St) (x1_2 : Int32) (hok : okC st) (hi0_2 : 0 ≤ x1_2.toInt) (hi1_2 : x1_2.toInt ≤ (st.1 7).toInt) (hi2_2 : (st.1 7).toInt < x1_2.toInt + (n_2 + 1)) (hi3_2 : okC st_2) (hi4_2 : (st_2.1 7).toInt = (st.1 7).toInt) (h7_1 : ¬ st_2.1 7 ≤ x1_2) (h16_3 : ¬ st_2.2.1 26 x1_2.toNatClampNeg = 0) (h26_10 : st_2.2.1 23 x1_2.toNatClampNeg = (-1)) : (st.1 7).toInt < (x1_2 + 1).toInt + n_2 := by
  have z1 := okC_7 hok
  have z2 := okC_7 hi3_2
  have z3 := (by decide : (0 : Int32).toInt = 0)
  have z4 := (by decide : (1 : Int32).toInt = 1)
  have z5 := (by decide : (7 : Int32).toInt = 7)
  have z6 := (by decide : (23 : Int32).toInt = 23)
  have z7 := (by decide : (26 : Int32).toInt = 26)
  have z8 := (by decide : (-1 : Int32).toInt = -1)
  have z9 := inc_I x1_2
  clear hok hi3_2
  try simp only [sA_1, sL_1, sI_1, vp_in_iff, Int32.le_iff_toInt_le, Int32.lt_iff_toInt_lt, ← Int32.toInt_inj, reduceIte, Nat.reduceEqDiff] at *
  all_goals omega
theorem ob_X5_followInputs_2_inv3_14 (st : St) (n_2 : Nat) (st_2 : St) (x1_2 : Int32) (hok : okC st) (hi0_2 : 0 ≤ x1_2.toInt) (hi1_2 : x1_2.toInt ≤ (st.1 7).toInt) (hi2_2 : (st.1 7).toInt < x1_2.toInt + (n_2 + 1)) (hi3_2 : okC st_2) (hi4_2 : (st_2.1 7).toInt = (st.1 7).toInt) (h7_1 : ¬ st_2.1 7 ≤ x1_2) (h16_3 : ¬ st_2.2.1 26 x1_2.toNatClampNeg = 0) (h26_10 : st_2.2.1 23 x1_2.toNatClampNeg = (-1)) : okC st_2 := by
  exact hi3_2
theorem ob_X5_followInputs_2_inv4_15 (st : St) (n_2 : Nat) (st_2 : St) (x1_2 : Int32) (hok : okC st) (hi0_2 : 0 ≤ x1_2.toInt) (hi1_2 : x1_2.toInt ≤ (st.1 7).toInt) (hi2_2 : (st.1 7).toInt < x1_2.toInt + (n_2 + 1)) (hi3_2 : okC st_2) (hi4_2 : (st_2.1 7).toInt = (st.1 7).toInt) (h7_1 : ¬ st_2.1 7 ≤ x1_2) (h16_3 : ¬ st_2.2.1 26 x1_2.toNatClampNeg = 0) (h26_10 : st_2.2.1 23 x1_2.toNatClampNeg = (-1)) : (st_2.1 7).toInt = (st.1 7).toInt := by
  have z1 := okC_7 hok
  have z2 := okC_7 hi3_2
  have z3 := (by decide : (1 : Int32).toInt = 1)
  have z4 := (by decide : (7 : Int32).toInt = 7)
  clear hi0_2 h16_3 h26_10 hok hi3_2
  try simp only [sA_1, sL_1, sI_1, vp_in_iff, Int32.le_iff_toInt_le, Int32.lt_iff_toInt_lt, ← Int32.toInt_inj, reduceIte, Nat.reduceEqDiff] at *
  all_goals omega
theorem ob_X5_followInputs_31_16 (st : St) (n_2 : Nat) (st_2 : St) (x1_2 : Int32) (hok : okC st) (hi0_2 : 0 ≤ x1_2.toInt) (hi1_2 : x1_2.toInt ≤ (st.1 7).toInt) (hi2_2 : (st.1 7).toInt < x1_2.toInt + (n_2 + 1)) (hi3_2 : okC st_2) (hi4_2 : (st_2.1 7).toInt = (st.1 7).toInt) (h7_1 : ¬ st_2.1 7 ≤ x1_2) (h16_3 : ¬ st_2.2.1 26 x1_2.toNatClampNeg = 0) (h26_10 : ¬ st_2.2.1 23 x1_2.toNatClampNeg = (-1)) : vp_in x1_2 100 := by
  have z1 := okC_7 hok
  have z2 := okC_7 hi3_2
  have z3 := (by decide : (0 : Int32).toInt = 0)
  have z4 := (by decide : (1 : Int32).toInt = 1)
  have z5 := (by decide : (7 : Int32).toInt = 7)
  have z6 := (by decide : (23 : Int32).toInt = 23)
  have z7 := (by decide : (26 : Int32).toInt = 26)
  have z8 := (by decide : (100 : Int32).toInt = 100)
  have z9 := (by decide : (-1 : Int32).toInt = -1)
  clear hi4_2 hok hi3_2
  try simp only [sA_1, sL_1, sI_1, vp_in_iff, Int32.le_iff_toInt_le, Int32.lt_iff_toInt_lt, ← Int32.toInt_inj, reduceIte, Nat.reduceEqDiff] at *
  all_goals omega
theorem ob_X5_followInputs_52_18 (st : St) (n_2 : Nat) (st_2 : St) (x1_2 : Int32) (hok : okC st) (hi0_2 : 0 ≤ x1_2.toInt) (hi1_2 : x1_2.toInt ≤ (st.1 7).toInt) (hi2_2 : (st.1 7).toInt < x1_2.toInt + (n_2 + 1)) (hi3_2 : okC st_2) (hi4_2 : (st_2.1 7).toInt = (st.1 7).toInt) (h7_1 : ¬ st_2.1 7 ≤ x1_2) (h16_3 : ¬ st_2.2.1 26 x1_2.toNatClampNeg = 0) (h26_10 : ¬ st_2.2.1 23 x1_2.toNatClampNeg = (-1)) (h34_17 : (sp_X5_hasLostInputs st_2 x1_2) = 0) : vp_in x1_2 100 := by
  have z1 := okC_7 hok
  have z2 := okC_7 hi3_2
  have z3 := (by decide : (0 : Int32).toInt = 0)
  have z4 := (by decide : (1 : Int32).toInt = 1)
  have z5 := (by decide : (7 : Int32).toInt = 7)
  have z6 := (by decide : (23 : Int32).toInt = 23)
  have z7 := (by decide : (26 : Int32).toInt = 26)
  have z8 := (by decide : (100 : Int32).toInt = 100)
  have z9 := (by decide : (-1 : Int32).toInt = -1)
  clear hi4_2 h34_17 hok hi3_2
  try simp only [sA_1, sL_1, sI_1, vp_in_iff, Int32.le_iff_toInt_le, Int32.lt_iff_toInt_lt, ← Int32.toInt_inj, reduceIte, Nat.reduceEqDiff] at *
  all_goals omega
theorem ob_X5_followInputs_55_19 (st : St) (n_2 : Nat) (st_2 : St) (x1_2 : Int32) (hok : okC st) (hi0_2 : 0 ≤ x1_2.toInt) (hi1_2 : x1_2.toInt ≤ (st.1 7).toInt) (hi2_2 : (st.1 7).toInt < x1_2.toInt + (n_2 + 1)) (hi3_2 : okC st_2) (hi4_2 : (st_2.1 7).toInt = (st.1 7).toInt) (h7_1 : ¬ st_2.1 7 ≤ x1_2) (h16_3 : ¬ st_2.2.1 26 x1_2.toNatClampNeg = 0) (h26_10 : ¬ st_2.2.1 23 x1_2.toNatClampNeg = (-1)) (h34_17 : (sp_X5_hasLostInputs st_2 x1_2) = 0) : vp_in x1_2 100 := by
  have z1 := okC_7 hok
  have z2 := okC_7 hi3_2
  have z3 := (by decide : (0 : Int32).toInt = 0)
  have z4 := (by decide : (1 : Int32).toInt = 1)
  have z5 := (by decide : (7 : Int32).toInt = 7)
  have z6 := (by decide : (23 : Int32).toInt = 23)
  have z7 := (by decide : (26 : Int32).toInt = 26)
  have z8 := (by decide : (100 : Int32).toInt = 100)
  have z9 := (by decide : (-1 : Int32).toInt = -1)
  clear hi4_2 h34_17 hok hi3_2
  try simp only [sA_1, sL_1, sI_1, vp_in_iff, Int32.le_iff_toInt_le, Int32.lt_iff_toInt_lt, ← Int32.toInt_inj, reduceIte, Nat.reduceEqDiff] at *
  all_goals omega
theorem ob_X5_followInputs_2_inv0_20 (st : St) (n_2 : Nat) (st_2 : St) (x1_2 : Int32) (hok : okC st) (hi0_2 : 0 ≤ x1_2.toInt) (hi1_2 : x1_2.toInt ≤ (st.1 7).toInt) (hi2_2 : (st.1 7).toInt < x1_2.toInt + (n_2 + 1)) (hi3_2 : okC st_2) (hi4_2 : (st_2.1 7).toInt = (st.1 7).toInt) (h7_1 : ¬ st_2.1 7 ≤ x1_2) (h16_3 : ¬ st_2.2.1 26 x1_2.toNatClampNeg = 0) (h26_10 : ¬ st_2.2.1 23 x1_2.toNatClampNeg = (-1)) (h34_17 : (sp_X5_hasLostInputs st_2 x1_2) = 0) : 0 ≤ (x1_2 + 1).toInt := by
  have z1 := okC_7 hok
  have z2 := okC_7 hi3_2
  have z3 := (by decide : (0 : Int32).toInt = 0)
  have z4 := (by decide : (1 : Int32).toInt = 1)
  have z5 := (by decide : (7 : Int32).toInt = 7)
  have z6 := (by decide : (23 : Int32).toInt = 23)
  have z7 := (by decide : (26 : Int32).toInt = 26)
  have z8 := (by decide : (-1 : Int32).toInt = -1)
  have z9 := inc_I x1_2
  clear hi4_2 h34_17 hok hi3_2
  try simp only [sA_1, sL_1, sI_1, vp_in_iff, Int32.le_iff_toInt_le, Int32.lt_iff_toInt_lt, ← Int32.toInt_inj, reduceIte, Nat.reduceEqDiff] at *
  all_goals omega
theorem ob_X5_followInputs_2_inv1_21 (st : St) (n_2 : Nat) (st_2 : St) (x1_2 : Int32) (hok : okC st) (hi0_2 : 0 ≤ x1_2.toInt) (hi1_2 : x1_2.toInt ≤ (st.1 7).toInt) (hi2_2 : (st.1 7).toInt < x1_2.toInt + (n_2 + 1)) (hi3_2 : okC st_2) (hi4_2 : (st_2.1 7).toInt = (st.1 7).toInt) (h7_1 : ¬ st_2.1 7 ≤ x1_2) (h16_3 : ¬ st_2.2.1 26 x1_2.toNatClampNeg = 0) (h26_10 : ¬ st_2.2.1 23 x1_2.toNatClampNeg = (-1)) (h34_17 : (sp_X5_hasLostInputs st_2 x1_2) = 0) : (x1_2 + 1).toInt ≤ (st.1 7).toInt := by
  have z1 := okC_7 hok
  have z2 := okC_7 hi3_2
  have z3 := (by decide : (0 : Int32).toInt = 0)
  have z4 := (by decide : (1 : Int32).toInt = 1)
  have z5 := (by decide : (7 : Int32).toInt = 7)
  have z6 := (by decide : (23 : Int32).toInt = 23)
  have z7 := (by decide : (26 : Int32).toInt = 26)
  have z8 := (by decide : (-1 : Int32).toInt = -1)
  have z9 := inc_I x1_2
  clear h34_17 hok hi3_2
  try simp only [sA_1, sL_1, sI_1, vp_in_iff, Int32.le_iff_toInt_le, Int32.lt_iff_toInt_lt, ← Int32.toInt_inj, reduceIte, Nat.reduceEqDiff] at *
  all_goals omega
theorem ob_X5_followInputs_2_inv2_22 (st : St) (n_2 : Nat) (st_2 : St) (x1_2 : Int32) (hok : okC st) (hi0_2 : 0 ≤ x1_2.toInt) (hi1_2 : x1_2.toInt ≤ (st.1 7).toInt) (hi2_2 : (st.1 7).toInt < x1_2.toInt + (n_2 + 1)) (hi3_2 : okC st_2) (hi4_2 : (st_2.1 7).toInt = (st.1 7).toInt) (h7_1 : ¬ st_2.1 7 ≤ x1_2) (h16_3 : ¬ st_2.2.1 26 x1_2.toNatClampNeg = 0) (h26_10 : ¬ st_2.2.1 23 x1_2.toNatClampNeg = (-1)) (h34_17 : (sp_X5_hasLostInputs st_2 x1_2) = 0) : (st.1 7).toInt < (x1_2 + 1).toInt + n_2 := by
  have z1 := okC_7 hok
  have z2 := okC_7 hi3_2
  have z3 := (by decide : (0 : Int32).toInt = 0)
  have z4 := (by decide : (1 : Int32).toInt = 1)
  have z5 := (by decide : (7 : Int32).toInt = 7)
  have z6 := (by decide : (23 : Int32).toInt = 23)
  have z7 := (by decide : (26 : Int32).toInt = 26)
  have z8 := (by decide : (-1 : Int32).toInt = -1)
  have z9 := inc_I x1_2
  clear h34_17 hok hi3_2
  try simp only [sA_1, sL_1, sI_1, vp_in_iff, Int32.le_iff_toInt_le, Int32.lt_iff_toInt_lt, ← Int32.toInt_inj, reduceIte, Nat.reduceEqDiff] at *
  all_goals omega
theorem ob_X5_followInputs_2_inv3_23 (st : St) (n_2 : Nat) (st_2 : St) (x1_2 : Int32) (hok : okC st) (hi0_2 : 0 ≤ x1_2.toInt) (hi1_2 : x1_2.toInt ≤ (st.1 7).toInt) (hi2_2 : (st.1 7).toInt < x1_2.toInt + (n_2 + 1)) (hi3_2 : okC st_2) (hi4_2 : (st_2.1 7).toInt = (st.1 7).toInt) (h7_1 : ¬ st_2.1 7 ≤ x1_2) (h16_3 : ¬ st_2.2.1 26 x1_2.toNatClampNeg = 0) (h26_10 : ¬ st_2.2.1 23 x1_2.toNatClampNeg = (-1)) (h34_17 : (sp_X5_hasLostInputs st_2 x1_2) = 0) : okC (sL st_2 x1_2.toNatClampNeg (sp_X5_derivedValue st_2 x1_2)) := by
  exact hi3_2
theorem ob_X5_followInputs_2_inv4_24 (st : St) (n_2 : Nat) (st_2 : St) (x1_2 : Int32) (hok : okC st) (hi0_2 : 0 ≤ x1_2.toInt) (hi1_2 : x1_2.toInt ≤ (st.1 7).toInt) (hi2_2 : (st.1 7).toInt < x1_2.toInt + (n_2 + 1)) (hi3_2 : okC st_2) (hi4_2 : (st_2.1 7).toInt = (st.1 7).toInt) (h7_1 : ¬ st_2.1 7 ≤ x1_2) (h16_3 : ¬ st_2.2.1 26 x1_2.toNatClampNeg = 0) (h26_10 : ¬ st_2.2.1 23 x1_2.toNatClampNeg = (-1)) (h34_17 : (sp_X5_hasLostInputs st_2 x1_2) = 0) : ((sL st_2 x1_2.toNatClampNeg (sp_X5_derivedValue st_2 x1_2)).1 7).toInt = (st.1 7).toInt := by
  have z1 := okC_7 hok
  have z2 := okC_7 hi3_2
  have z3 := (by decide : (0 : Int32).toInt = 0)
  have z4 := (by decide : (1 : Int32).toInt = 1)
  have z5 := (by decide : (7 : Int32).toInt = 7)
  have z6 := (by decide : (23 : Int32).toInt = 23)
  have z7 := (by decide : (26 : Int32).toInt = 26)
  have z8 := (by decide : (-1 : Int32).toInt = -1)
  clear h34_17 hok hi3_2
  try simp only [sA_1, sL_1, sI_1, vp_in_iff, Int32.le_iff_toInt_le, Int32.lt_iff_toInt_lt, ← Int32.toInt_inj, reduceIte, Nat.reduceEqDiff] at *
  all_goals omega
theorem ob_X5_followInputs_2_inv0_25 (st : St) (n_2 : Nat) (st_2 : St) (x1_2 : Int32) (hok : okC st) (hi0_2 : 0 ≤ x1_2.toInt) (hi1_2 : x1_2.toInt ≤ (st.1 7).toInt) (hi2_2 : (st.1 7).toInt < x1_2.toInt + (n_2 + 1)) (hi3_2 : okC st_2) (hi4_2 : (st_2.1 7).toInt = (st.1 7).toInt) (h7_1 : ¬ st_2.1 7 ≤ x1_2) (h16_3 : ¬ st_2.2.1 26 x1_2.toNatClampNeg = 0) (h26_10 : ¬ st_2.2.1 23 x1_2.toNatClampNeg = (-1)) (h34_17 : ¬ (sp_X5_hasLostInputs st_2 x1_2) = 0) : 0 ≤ (x1_2 + 1).toInt := by
  have z1 := okC_7 hok
  have z2 := okC_7 hi3_2
  have z3 := (by decide : (0 : Int32).toInt = 0)
  have z4 := (by decide : (1 : Int32).toInt = 1)
  have z5 := (by decide : (7 : Int32).toInt = 7)
  have z6 := (by decide : (23 : Int32).toInt = 23)
  have z7 := (by decide : (26 : Int32).toInt = 26)
  have z8 := (by decide : (-1 : Int32).toInt = -1)
  have z9 := inc_I x1_2
  clear hi4_2 h34_17 hok hi3_2
  try simp only [sA_1, sL_1, sI_1, vp_in_iff, Int32.le_iff_toInt_le, Int32.lt_iff_toInt_lt, ← Int32.toInt_inj, reduceIte, Nat.reduceEqDiff] at *
  all_goals omega
theorem ob_X5_followInputs_2_inv1_26 (st : St) (n_2 : Nat) (st_2 : St) (x1_2 : Int32) (hok : okC st) (hi0_2 : 0 ≤ x1_2.toInt) (hi1_2 : x1_2.toInt ≤ (st.1 7).toInt) (hi2_2 : (st.1 7).toInt < x1_2.toInt + (n_2 + 1)) (hi3_2 : okC st_2) (hi4_2 : (st_2.1 7).toInt = (st.1 7).toInt) (h7_1 : ¬ st_2.1 7 ≤ x1_2) (h16_3 : ¬ st_2.2.1 26 x1_2.toNatClampNeg = 0) (h26_10 : ¬ st_2.2.1 23 x1_2.toNatClampNeg = (-1)) (h34_17 : ¬ (sp_X5_hasLostInputs st_2 x1_2) = 0) : (x1_2 + 1).toInt ≤ (st.1 7).toInt := by
  have z1 := okC_7 hok
  have z2 := okC_7 hi3_2
  have z3 := (by decide : (0 : Int32).toInt = 0)
  have z4 := (by decide : (1 : Int32).toInt = 1)
  have z5 := (by decide : (7 : Int32).toInt = 7)
  have z6 := (by decide : (23 : Int32).toInt = 23)
  have z7 := (by decide : (26 : Int32).toInt = 26)
  have z8 := (by decide : (-1 : Int32).toInt = -1)
  have z9 := inc_I x1_2
  clear h34_17 hok hi3_2
  try simp only [sA_1, sL_1, sI_1, vp_in_iff, Int32.le_iff_toInt_le, Int32.lt_iff_toInt_lt, ← Int32.toInt_inj, reduceIte, Nat.reduceEqDiff] at *
  all_goals omega
theorem ob_X5_followInputs_2_inv2_27 (st : St) (n_2 : Nat) (st_2 : St) (x1_2 : Int32) (hok : okC st) (hi0_2 : 0 ≤ x1_2.toInt) (hi1_2 : x1_2.toInt ≤ (st.1 7).toInt) (hi2_2 : (st.1 7).toInt < x1_2.toInt + (n_2 + 1)) (hi3_2 : okC st_2) (hi4_2 : (st_2.1 7).toInt = (st.1 7).toInt) (h7_1 : ¬ st_2.1 7 ≤ x1_2) (h16_3 : ¬ st_2.2.1 26 x1_2.toNatClampNeg = 0) (h26_10 : ¬ st_2.2.1 23 x1_2.toNatClampNeg = (-1)) (h34_17 : ¬ (sp_X5_hasLostInputs st_2 x1_2) = 0) : (st.1 7).toInt < (x1_2 + 1).toInt + n_2 := by
  have z1 := okC_7 hok
  have z2 := okC_7 hi3_2
  have z3 := (by decide : (0 : Int32).toInt = 0)
  have z4 := (by decide : (1 : Int32).toInt = 1)
  have z5 := (by decide : (7 : Int32).toInt = 7)
  have z6 := (by decide : (23 : Int32).toInt = 23)
  have z7 := (by decide : (26 : Int32).toInt = 26)
  have z8 := (by decide : (-1 : Int32).toInt = -1)
  have z9 := inc_I x1_2
  clear h34_17 hok hi3_2
  try simp only [sA_1, sL_1, sI_1, vp_in_iff, Int32.le_iff_toInt_le, Int32.lt_iff_toInt_lt, ← Int32.toInt_inj, reduceIte, Nat.reduceEqDiff] at *
  all_goals omega
theorem ob_X5_followInputs_2_inv3_28 (st : St) (n_2 : Nat) (st_2 : St) (x1_2 : Int32) (hok : okC st) (hi0_2 : 0 ≤ x1_2.toInt) (hi1_2 : x1_2.toInt ≤ (st.1 7).toInt) (hi2_2 : (st.1 7).toInt < x1_2.toInt + (n_2 + 1)) (hi3_2 : okC st_2) (hi4_2 : (st_2.1 7).toInt = (st.1 7).toInt) (h7_1 : ¬ st_2.1 7 ≤ x1_2) (h16_3 : ¬ st_2.2.1 26 x1_2.toNatClampNeg = 0) (h26_10 : ¬ st_2.2.1 23 x1_2.toNatClampNeg = (-1)) (h34_17 : ¬ (sp_X5_hasLostInputs st_2 x1_2) = 0) : okC (sp_X5_end st_2 x1_2) := by
  exact (ok_X5_end st_2 x1_2 hi3_2)
theorem ob_X5_followInputs_2_inv4_29 (st : St) (n_2 : Nat) (st_2 : St) (x1_2 : Int32) (hok : okC st) (hi0_2 : 0 ≤ x1_2.toInt) (hi1_2 : x1_2.toInt ≤ (st.1 7).toInt) (hi2_2 : (st.1 7).toInt < x1_2.toInt + (n_2 + 1)) (hi3_2 : okC st_2) (hi4_2 : (st_2.1 7).toInt = (st.1 7).toInt) (h7_1 : ¬ st_2.1 7 ≤ x1_2) (h16_3 : ¬ st_2.2.1 26 x1_2.toNatClampNeg = 0) (h26_10 : ¬ st_2.2.1 23 x1_2.toNatClampNeg = (-1)) (h34_17 : ¬ (sp_X5_hasLostInputs st_2 x1_2) = 0) : ((sp_X5_end st_2 x1_2).1 7).toInt = (st.1 7).toInt := by
  have z1 := okC_7 hok
  have z2 := okC_7 hi3_2
  have z3 := (by decide : (0 : Int32).toInt = 0)
  have z4 := (by decide : (1 : Int32).toInt = 1)
  have z5 := (by decide : (7 : Int32).toInt = 7)
  have z6 := (by decide : (23 : Int32).toInt = 23)
  have z7 := (by decide : (26 : Int32).toInt = 26)
  have z8 := (by decide : (-1 : Int32).toInt = -1)
  clear h34_17 hok hi3_2
  try simp only [sA_1, sL_1, sI_1, vp_in_iff, Int32.le_iff_toInt_le, Int32.lt_iff_toInt_lt, ← Int32.toInt_inj, reduceIte, Nat.reduceEqDiff, I_X5_end_7] at *
  all_goals omega
theorem ob_X5_followInputs_2_inv0_30 (st : St) (hok : okC st) : 0 ≤ (0 : Int32).toInt := by
  have z1 := (by decide : (0 : Int32).toInt = 0)
  clear hok
  try simp only [sA_1, sL_1, sI_1, vp_in_iff, Int32.le_iff_toInt_le, Int32.lt_iff_toInt_lt, ← Int32.toInt_inj, reduceIte, Nat.reduceEqDiff] at *
  all_goals omega
theorem ob_X5_followInputs_2_inv1_31 (st : St) (hok : okC st) : (0 : Int32).toInt ≤ (st.1 7).toInt := by
  have z1 := okC_7 hok
  have z2 := (by decide : (0 : Int32).toInt = 0)
  have z3 := (by decide : (7 : Int32).toInt = 7)
  clear hok
  try simp only [sA_1, sL_1, sI_1, vp_in_iff, Int32.le_iff_toInt_le, Int32.lt_iff_toInt_lt, ← Int32.toInt_inj, reduceIte, Nat.reduceEqDiff] at *
  all_goals omega
theorem ob_X5_followInputs_2_inv2_32 (st : St) (hok : okC st) : (st.1 7).toInt < (0 : Int32).toInt + ((st.1 7).toInt.toNat + 1) := by
  have z1 := okC_7 hok
  have z2 := (by decide : (0 : Int32).toInt = 0)
  have z3 := (by decide : (1 : Int32).toInt = 1)
  have z4 := (by decide : (7 : Int32).toInt = 7)
  clear hok
  try simp only [sA_1, sL_1, sI_1, vp_in_iff, Int32.le_iff_toInt_le, Int32.lt_iff_toInt_lt, ← Int32.toInt_inj, reduceIte, Nat.reduceEqDiff] at *
  all_goals omega
theorem ob_X5_followInputs_2_inv3_33 (st : St) (hok : okC st) : okC st := by
  exact hok
theorem ob_X5_followInputs_2_inv4_34 (st : St) (hok : okC st) : (st.1 7).toInt = (st.1 7).toInt := by
  have z1 := okC_7 hok
  have z2 := (by decide : (7 : Int32).toInt = 7)
  clear hok
  try simp only [sA_1, sL_1, sI_1, vp_in_iff, Int32.le_iff_toInt_le, Int32.lt_iff_toInt_lt, ← Int32.toInt_inj, reduceIte, Nat.reduceEqDiff] at *
  all_goals omega

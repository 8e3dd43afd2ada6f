theorem ob_X9_markKept_17_zero (st : St) (a1 : Int32) (st_17 : St) (x2_17 : Int32) (hok : okC st) (hi0_17 : -1 ≤ x2_17.toInt) (hi1_17 : x2_17.toInt < 100) (hi2_17 : x2_17.toInt + 1 < 0) (hi3_17 : okC st_17) : False := by
  have z1 := (by decide : (0 : Int32).toInt = 0)
  have z2 := (by decide : (1 : Int32).toInt = 1)
  have z3 := (by decide : (100 : Int32).toInt = 100)
  have z4 := (by decide : (-1 : Int32).toInt = -1)
  clear hok hi3_17
  try simp only [sA_1, sL_1, sI_1, vp_in_iff, Int32.le_iff_toInt_le, Int32.lt_iff_toInt_lt, ← Int32.toInt_inj, reduceIte, Nat.reduceEqDiff] at *
  all_goals omega
theorem ob_X9_markKept_17_inv0_3 (st : St) (a1 : Int32) (n_17 : Nat) (st_17 : St) (x2_17 : Int32) (hok : okC st) (hi0_17 : -1 ≤ x2_17.toInt) (hi1_17 : x2_17.toInt < 100) (hi2_17 : x2_17.toInt + 1 < (n_17 + 1)) (hi3_17 : okC st_17) (h18_1 : ¬ x2_17 < 0) (h29_2 : (sp_X5_lives st_17 x2_17) = 0) : -1 ≤ (x2_17 + (-1)).toInt := by
  have z1 := okC_7 hok
  have z2 := okC_7 hi3_17
  have z3 := (by decide : (0 : Int32).toInt = 0)
  have z4 := (by decide : (1 : Int32).toInt = 1)
  have z5 := (by decide : (100 : Int32).toInt = 100)
  have z6 := (by decide : (-1 : Int32).toInt = -1)
  have z7 := f_X5_lives st_17 x2_17
  have z8 := dec_I x2_17
  clear hok hi3_17
  try simp only [sA_1, sL_1, sI_1, vp_in_iff, Int32.le_iff_toInt_le, Int32.lt_iff_toInt_lt, ← Int32.toInt_inj, reduceIte, Nat.reduceEqDiff] at *
  all_goals omega
theorem ob_X9_markKept_17_inv1_4 (st : St) (a1 : Int32) (n_17 : Nat) (st_17 : St) (x2_17 : Int32) (hok : okC st) (hi0_17 : -1 ≤ x2_17.toInt) (hi1_17 : x2_17.toInt < 100) (hi2_17 : x2_17.toInt + 1 < (n_17 + 1)) (hi3_17 : okC st_17) (h18_1 : ¬ x2_17 < 0) (h29_2 : (sp_X5_lives st_17 x2_17) = 0) : (x2_17 + (-1)).toInt < 100 := by
  have z1 := okC_7 hok
  have z2 := okC_7 hi3_17
  have z3 := (by decide : (0 : Int32).toInt = 0)
  have z4 := (by decide : (1 : Int32).toInt = 1)
  have z5 := (by decide : (100 : Int32).toInt = 100)
  have z6 := (by decide : (-1 : Int32).toInt = -1)
  have z7 := f_X5_lives st_17 x2_17
  have z8 := dec_I x2_17
  clear hok hi3_17
  try simp only [sA_1, sL_1, sI_1, vp_in_iff, Int32.le_iff_toInt_le, Int32.lt_iff_toInt_lt, ← Int32.toInt_inj, reduceIte, Nat.reduceEqDiff] at *
  all_goals omega
theorem ob_X9_markKept_17_inv2_5 (st : St) (a1 : Int32) (n_17 : Nat) (st_17 : St) (x2_17 : Int32) (hok : okC st) (hi0_17 : -1 ≤ x2_17.toInt) (hi1_17 : x2_17.toInt < 100) (hi2_17 : x2_17.toInt + 1 < (n_17 + 1)) (hi3_17 : okC st_17) (h18_1 : ¬ x2_17 < 0) (h29_2 : (sp_X5_lives st_17 x2_17) = 0) : (x2_17 + (-1)).toInt + 1 < n_17 := by
  have z1 := okC_7 hok
  have z2 := okC_7 hi3_17
  have z3 := (by decide : (0 : Int32).toInt = 0)
  have z4 := (by decide : (1 : Int32).toInt = 1)
  have z5 := (by decide : (100 : Int32).toInt = 100)
  have z6 := (by decide : (-1 : Int32).toInt = -1)
  have z7 := f_X5_lives st_17 x2_17
  have z8 := dec_I x2_17
  clear hok hi3_17
  try simp only [sA_1, sL_1, sI_1, vp_in_iff, Int32.le_iff_toInt_le, Int32.lt_iff_toInt_lt, ← Int32.toInt_inj, reduceIte, Nat.reduceEqDiff] at *
  all_goals omega
theorem ob_X9_markKept_17_inv3_6 (st : St) (a1 : Int32) (n_17 : Nat) (st_17 : St) (x2_17 : Int32) (hok : okC st) (hi0_17 : -1 ≤ x2_17.toInt) (hi1_17 : x2_17.toInt < 100) (hi2_17 : x2_17.toInt + 1 < (n_17 + 1)) (hi3_17 : okC st_17) (h18_1 : ¬ x2_17 < 0) (h29_2 : (sp_X5_lives st_17 x2_17) = 0) : okC st_17 := by
  exact hi3_17
theorem ob_X9_markKept_17_inv0_8 (st : St) (a1 : Int32) (n_17 : Nat) (st_17 : St) (x2_17 : Int32) (hok : okC st) (hi0_17 : -1 ≤ x2_17.toInt) (hi1_17 : x2_17.toInt < 100) (hi2_17 : x2_17.toInt + 1 < (n_17 + 1)) (hi3_17 : okC st_17) (h18_1 : ¬ x2_17 < 0) (h29_2 : ¬ (sp_X5_lives st_17 x2_17) = 0) (h40_7 : ¬ (sp_X5_isKept st_17 x2_17) = 0) : -1 ≤ (x2_17 + (-1)).toInt := by
  have z1 := okC_7 hok
  have z2 := okC_7 hi3_17
  have z3 := (by decide : (0 : Int32).toInt = 0)
  have z4 := (by decide : (1 : Int32).toInt = 1)
  have z5 := (by decide : (100 : Int32).toInt = 100)
  have z6 := (by decide : (-1 : Int32).toInt = -1)
  have z7 := f_X5_lives st_17 x2_17
  have z8 := dec_I x2_17
  clear h40_7 hok hi3_17
  try simp only [sA_1, sL_1, sI_1, vp_in_iff, Int32.le_iff_toInt_le, Int32.lt_iff_toInt_lt, ← Int32.toInt_inj, reduceIte, Nat.reduceEqDiff] at *
  all_goals omega
theorem ob_X9_markKept_17_inv1_9 (st : St) (a1 : Int32) (n_17 : Nat) (st_17 : St) (x2_17 : Int32) (hok : okC st) (hi0_17 : -1 ≤ x2_17.toInt) (hi1_17 : x2_17.toInt < 100) (hi2_17 : x2_17.toInt + 1 < (n_17 + 1)) (hi3_17 : okC st_17) (h18_1 : ¬ x2_17 < 0) (h29_2 : ¬ (sp_X5_lives st_17 x2_17) = 0) (h40_7 : ¬ (sp_X5_isKept st_17 x2_17) = 0) : (x2_17 + (-1)).toInt < 100 := by
  have z1 := okC_7 hok
  have z2 := okC_7 hi3_17
  have z3 := (by decide : (0 : Int32).toInt = 0)
  have z4 := (by decide : (1 : Int32).toInt = 1)
  have z5 := (by decide : (100 : Int32).toInt = 100)
  have z6 := (by decide : (-1 : Int32).toInt = -1)
  have z7 := f_X5_lives st_17 x2_17
  have z8 := dec_I x2_17
  clear h40_7 hok hi3_17
  try simp only [sA_1, sL_1, sI_1, vp_in_iff, Int32.le_iff_toInt_le, Int32.lt_iff_toInt_lt, ← Int32.toInt_inj, reduceIte, Nat.reduceEqDiff] at *
  all_goals omega
theorem ob_X9_markKept_17_inv2_10 (st : St) (a1 : Int32) (n_17 : Nat) (st_17 : St) (x2_17 : Int32) (hok : okC st) (hi0_17 : -1 ≤ x2_17.toInt) (hi1_17 : x2_17.toInt < 100) (hi2_17 : x2_17.toInt + 1 < (n_17 + 1)) (hi3_17 : okC st_17) (h18_1 : ¬ x2_17 < 0) (h29_2 : ¬ (sp_X5_lives st_17 x2_17) = 0) (h40_7 : ¬ (sp_X5_isKept st_17 x2_17) = 0) : (x2_17 + (-1)).toInt + 1 < n_17 := by
  have z1 := okC_7 hok
  have z2 := okC_7 hi3_17
  have z3 := (by decide : (0 : Int32).toInt = 0)
  have z4 := (by decide : (1 : Int32).toInt = 1)
  have z5 := (by decide : (100 : Int32).toInt = 100)
  have z6 := (by decide : (-1 : Int32).toInt = -1)
  have z7 := f_X5_lives st_17 x2_17
  have z8 := dec_I x2_17
  clear h40_7 hok hi3_17
  try simp only [sA_1, sL_1, sI_1, vp_in_iff, Int32.le_iff_toInt_le, Int32.lt_iff_toInt_lt, ← Int32.toInt_inj, reduceIte, Nat.reduceEqDiff] at *
  all_goals omega
theorem ob_X9_markKept_17_inv3_11 (st : St) (a1 : Int32) (n_17 : Nat) (st_17 : St) (x2_17 : Int32) (hok : okC st) (hi0_17 : -1 ≤ x2_17.toInt) (hi1_17 : x2_17.toInt < 100) (hi2_17 : x2_17.toInt + 1 < (n_17 + 1)) (hi3_17 : okC st_17) (h18_1 : ¬ x2_17 < 0) (h29_2 : ¬ (sp_X5_lives st_17 x2_17) = 0) (h40_7 : ¬ (sp_X5_isKept st_17 x2_17) = 0) : okC (sp_X5_keepWithInputs st_17 x2_17) := by
  exact (ok_X5_keepWithInputs st_17 x2_17 hi3_17)
theorem ob_X9_markKept_17_inv0_13 (st : St) (a1 : Int32) (n_17 : Nat) (st_17 : St) (x2_17 : Int32) (hok : okC st) (hi0_17 : -1 ≤ x2_17.toInt) (hi1_17 : x2_17.toInt < 100) (hi2_17 : x2_17.toInt + 1 < (n_17 + 1)) (hi3_17 : okC st_17) (h18_1 : ¬ x2_17 < 0) (h29_2 : ¬ (sp_X5_lives st_17 x2_17) = 0) (h40_7 : (sp_X5_isKept st_17 x2_17) = 0) (h49_12 : (sp_X9_isCovered st_17 x2_17 a1) = 0) : -1 ≤ (x2_17 + (-1)).toInt := by
  have z1 := okC_7 hok
  have z2 := okC_7 hi3_17
  have z3 := (by decide : (0 : Int32).toInt = 0)
  have z4 := (by decide : (1 : Int32).toInt = 1)
  have z5 := (by decide : (100 : Int32).toInt = 100)
  have z6 := (by decide : (-1 : Int32).toInt = -1)
  have z7 := f_X5_lives st_17 x2_17
  have z8 := dec_I x2_17
  clear h40_7 h49_12 hok hi3_17
  try simp only [sA_1, sL_1, sI_1, vp_in_iff, Int32.le_iff_toInt_le, Int32.lt_iff_toInt_lt, ← Int32.toInt_inj, reduceIte, Nat.reduceEqDiff] at *
  all_goals omega
theorem ob_X9_markKept_17_inv1_14 (st : St) (a1 : Int32) (n_17 : Nat) (st_17 : St) (x2_17 : Int32) (hok : okC st) (hi0_17 : -1 ≤ x2_17.toInt) (hi1_17 : x2_17.toInt < 100) (hi2_17 : x2_17.toInt + 1 < (n_17 + 1)) (hi3_17 : okC st_17) (h18_1 : ¬ x2_17 < 0) (h29_2 : ¬ (sp_X5_lives st_17 x2_17) = 0) (h40_7 : (sp_X5_isKept st_17 x2_17) = 0) (h49_12 : (sp_X9_isCovered st_17 x2_17 a1) = 0) : (x2_17 + (-1)).toInt < 100 := by
  have z1 := okC_7 hok
  have z2 := okC_7 hi3_17
  have z3 := (by decide : (0 : Int32).toInt = 0)
  have z4 := (by decide : (1 : Int32).toInt = 1)
  have z5 := (by decide : (100 : Int32).toInt = 100)
  have z6 := (by decide : (-1 : Int32).toInt = -1)
  have z7 := f_X5_lives st_17 x2_17
  have z8 := dec_I x2_17
  clear h40_7 h49_12 hok hi3_17
  try simp only [sA_1, sL_1, sI_1, vp_in_iff, Int32.le_iff_toInt_le, Int32.lt_iff_toInt_lt, ← Int32.toInt_inj, reduceIte, Nat.reduceEqDiff] at *
  all_goals omega
theorem ob_X9_markKept_17_inv2_15 (st : St) (a1 : Int32) (n_17 : Nat) (st_17 : St) (x2_17 : Int32) (hok : okC st) (hi0_17 : -1 ≤ x2_17.toInt) (hi1_17 : x2_17.toInt < 100) (hi2_17 : x2_17.toInt + 1 < (n_17 + 1)) (hi3_17 : okC st_17) (h18_1 : ¬ x2_17 < 0) (h29_2 : ¬ (sp_X5_lives st_17 x2_17) = 0) (h40_7 : (sp_X5_isKept st_17 x2_17) = 0) (h49_12 : (sp_X9_isCovered st_17 x2_17 a1) = 0) : (x2_17 + (-1)).toInt + 1 < n_17 := by
  have z1 := okC_7 hok
  have z2 := okC_7 hi3_17
  have z3 := (by decide : (0 : Int32).toInt = 0)
  have z4 := (by decide : (1 : Int32).toInt = 1)
  have z5 := (by decide : (100 : Int32).toInt = 100)
  have z6 := (by decide : (-1 : Int32).toInt = -1)
  have z7 := f_X5_lives st_17 x2_17
  have z8 := dec_I x2_17
  clear h40_7 h49_12 hok hi3_17
  try simp only [sA_1, sL_1, sI_1, vp_in_iff, Int32.le_iff_toInt_le, Int32.lt_iff_toInt_lt, ← Int32.toInt_inj, reduceIte, Nat.reduceEqDiff] at *
  all_goals omega
theorem ob_X9_markKept_17_inv3_16 (st : St) (a1 : Int32) (n_17 : Nat) (st_17 : St) (x2_17 : Int32) (hok : okC st) (hi0_17 : -1 ≤ x2_17.toInt) (hi1_17 : x2_17.toInt < 100) (hi2_17 : x2_17.toInt + 1 < (n_17 + 1)) (hi3_17 : okC st_17) (h18_1 : ¬ x2_17 < 0) (h29_2 : ¬ (sp_X5_lives st_17 x2_17) = 0) (h40_7 : (sp_X5_isKept st_17 x2_17) = 0) (h49_12 : (sp_X9_isCovered st_17 x2_17 a1) = 0) : okC st_17 := by
  exact hi3_17
theorem ob_X9_markKept_17_inv0_17 (st : St) (a1 : Int32) (n_17 : Nat) (st_17 : St) (x2_17 : Int32) (hok : okC st) (hi0_17 : -1 ≤ x2_17.toInt) (hi1_17 : x2_17.toInt < 100) (hi2_17 : x2_17.toInt + 1 < (n_17 + 1)) (hi3_17 : okC st_17) (h18_1 : ¬ x2_17 < 0) (h29_2 : ¬ (sp_X5_lives st_17 x2_17) = 0) (h40_7 : (sp_X5_isKept st_17 x2_17) = 0) (h49_12 : ¬ (sp_X9_isCovered st_17 x2_17 a1) = 0) : -1 ≤ (x2_17 + (-1)).toInt := by
  have z1 := okC_7 hok
  have z2 := okC_7 hi3_17
  have z3 := (by decide : (0 : Int32).toInt = 0)
  have z4 := (by decide : (1 : Int32).toInt = 1)
  have z5 := (by decide : (100 : Int32).toInt = 100)
  have z6 := (by decide : (-1 : Int32).toInt = -1)
  have z7 := f_X5_lives st_17 x2_17
  have z8 := dec_I x2_17
  clear h40_7 h49_12 hok hi3_17
  try simp only [sA_1, sL_1, sI_1, vp_in_iff, Int32.le_iff_toInt_le, Int32.lt_iff_toInt_lt, ← Int32.toInt_inj, reduceIte, Nat.reduceEqDiff] at *
  all_goals omega
theorem ob_X9_markKept_17_inv1_18 (st : St) (a1 : Int32) (n_17 : Nat) (st_17 : St) (x2_17 : Int32) (hok : okC st) (hi0_17 : -1 ≤ x2_17.toInt) (hi1_17 : x2_17.toInt < 100) (hi2_17 : x2_17.toInt + 1 < (n_17 + 1)) (hi3_17 : okC st_17) (h18_1 : ¬ x2_17 < 0) (h29_2 : ¬ (sp_X5_lives st_17 x2_17) = 0) (h40_7 : (sp_X5_isKept st_17 x2_17) = 0) (h49_12 : ¬ (sp_X9_isCovered st_17 x2_17 a1) = 0) : (x2_17 + (-1)).toInt < 100 := by
  have z1 := okC_7 hok
  have z2 := okC_7 hi3_17
  have z3 := (by decide : (0 : Int32).toInt = 0)
  have z4 := (by decide : (1 : Int32).toInt = 1)
  have z5 := (by decide : (100 : Int32).toInt = 100)
  have z6 := (by decide : (-1 : Int32).toInt = -1)
  have z7 := f_X5_lives st_17 x2_17
  have z8 := dec_I x2_17
  clear h40_7 h49_12 hok hi3_17
  try simp only [sA_1, sL_1, sI_1, vp_in_iff, Int32.le_iff_toInt_le, Int32.lt_iff_toInt_lt, ← Int32.toInt_inj, reduceIte, Nat.reduceEqDiff] at *
  all_goals omega
theorem ob_X9_markKept_17_inv2_19 (st : St) (a1 : Int32) (n_17 : Nat) (st_17 : St) (x2_17 : Int32) (hok : okC st) (hi0_17 : -1 ≤ x2_17.toInt) (hi1_17 : x2_17.toInt < 100) (hi2_17 : x2_17.toInt + 1 < (n_17 + 1)) (hi3_17 : okC st_17) (h18_1 : ¬ x2_17 < 0) (h29_2 : ¬ (sp_X5_lives st_17 x2_17) = 0) (h40_7 : (sp_X5_isKept st_17 x2_17) = 0) (h49_12 : ¬ (sp_X9_isCovered st_17 x2_17 a1) = 0) : (x2_17 + (-1)).toInt + 1 < n_17 := by
  have z1 := okC_7 hok
  have z2 := okC_7 hi3_17
  have z3 := (by decide : (0 : Int32).toInt = 0)
  have z4 := (by decide : (1 : Int32).toInt = 1)
  have z5 := (by decide : (100 : Int32).toInt = 100)
  have z6 := (by decide : (-1 : Int32).toInt = -1)
  have z7 := f_X5_lives st_17 x2_17
  have z8 := dec_I x2_17
  clear h40_7 h49_12 hok hi3_17
  try simp only [sA_1, sL_1, sI_1, vp_in_iff, Int32.le_iff_toInt_le, Int32.lt_iff_toInt_lt, ← Int32.toInt_inj, reduceIte, Nat.reduceEqDiff] at *
  all_goals omega
theorem ob_X9_markKept_17_inv3_20 (st : St) (a1 : Int32) (n_17 : Nat) (st_17 : St) (x2_17 : Int32) (hok : okC st) (hi0_17 : -1 ≤ x2_17.toInt) (hi1_17 : x2_17.toInt < 100) (hi2_17 : x2_17.toInt + 1 < (n_17 + 1)) (hi3_17 : okC st_17) (h18_1 : ¬ x2_17 < 0) (h29_2 : ¬ (sp_X5_lives st_17 x2_17) = 0) (h40_7 : (sp_X5_isKept st_17 x2_17) = 0) (h49_12 : ¬ (sp_X9_isCovered st_17 x2_17 a1) = 0) : okC (sp_X5_keepWithInputs st_17 x2_17) := by
  exact (ok_X5_keepWithInputs st_17 x2_17 hi3_17)
theorem ob_X9_markKept_17_inv0_21 (st : St) (a1 : Int32) (hok : okC st) : -1 ≤ ((sp_X5_total (sp_X5_unmarkAll st)) - 1).toInt := by
  have z1 := okC_7 hok
  have z2 := (by decide : (1 : Int32).toInt = 1)
  have z3 := (by decide : (-1 : Int32).toInt = -1)
  have z4 := sub_I (sp_X5_total (sp_X5_unmarkAll st))
  clear hok
  try simp only [sA_1, sL_1, sI_1, vp_in_iff, Int32.le_iff_toInt_le, Int32.lt_iff_toInt_lt, ← Int32.toInt_inj, reduceIte, Nat.reduceEqDiff, sp_X5_total, I_X5_unmarkAll_7] at *
  all_goals omega
theorem ob_X9_markKept_17_inv1_22 (st : St) (a1 : Int32) (hok : okC st) : ((sp_X5_total (sp_X5_unmarkAll st)) - 1).toInt < 100 := by
  have z1 := okC_7 hok
  have z2 := (by decide : (1 : Int32).toInt = 1)
  have z3 := (by decide : (100 : Int32).toInt = 100)
  have z4 := sub_I (sp_X5_total (sp_X5_unmarkAll st))
  clear hok
  try simp only [sA_1, sL_1, sI_1, vp_in_iff, Int32.le_iff_toInt_le, Int32.lt_iff_toInt_lt, ← Int32.toInt_inj, reduceIte, Nat.reduceEqDiff, sp_X5_total, I_X5_unmarkAll_7] at *
  all_goals omega
theorem ob_X9_markKept_17_inv2_23 (st : St) (a1 : Int32) (hok : okC st) : ((sp_X5_total (sp_X5_unmarkAll st)) - 1).toInt + 1 < ((st.1 7).toInt.toNat + 1) := by
  have z1 := okC_7 hok
  have z2 := (by decide : (1 : Int32).toInt = 1)
  have z3 := (by decide : (7 : Int32).toInt = 7)
  have z4 := sub_I (sp_X5_total (sp_X5_unmarkAll st))
  clear hok
  try simp only [sA_1, sL_1, sI_1, vp_in_iff, Int32.le_iff_toInt_le, Int32.lt_iff_toInt_lt, ← Int32.toInt_inj, reduceIte, Nat.reduceEqDiff, sp_X5_total, I_X5_unmarkAll_7] at *
  all_goals omega
theorem ob_X9_markKept_17_inv3_24 (st : St) (a1 : Int32) (hok : okC st) : okC (sp_X5_unmarkAll st) := by
  exact (ok_X5_unmarkAll st hok)
theorem ob_X9_held_14_zero (st : St) (a1 : Int32) (a2 : Int32) (x4_14 : Int32) (x3_14 : Int32) (hok : okC st) (h4_1 : ¬ (sp_X9_isPerson a1) = 0) (hi0_14 : 0 ≤ x4_14.toInt) (hi1_14 : x4_14.toInt ≤ (st.1 7).toInt) (hi2_14 : (st.1 7).toInt < x4_14.toInt + 0) : False := by
  have z1 := okC_7 hok
  have z2 := (by decide : (0 : Int32).toInt = 0)
  have z3 := (by decide : (7 : Int32).toInt = 7)
  clear h4_1 hok
  try simp only [sA_1, sL_1, sI_1, vp_in_iff, Int32.le_iff_toInt_le, Int32.lt_iff_toInt_lt, ← Int32.toInt_inj, reduceIte, Nat.reduceEqDiff] at *
  all_goals omega
theorem ob_X9_held_14_inv0_4 (st : St) (a1 : Int32) (a2 : Int32) (n_14 : Nat) (x4_14 : Int32) (x3_14 : Int32) (hok : okC st) (h4_1 : ¬ (sp_X9_isPerson a1) = 0) (hi0_14 : 0 ≤ x4_14.toInt) (hi1_14 : x4_14.toInt ≤ (st.1 7).toInt) (hi2_14 : (st.1 7).toInt < x4_14.toInt + (n_14 + 1)) (h23_2 : ¬ (sp_X5_total st) ≤ x4_14) (h35_3 : (sp_X5_lives st x4_14) = 0) : 0 ≤ (x4_14 + 1).toInt := by
  have z1 := okC_7 hok
  have z2 := (by decide : (0 : Int32).toInt = 0)
  have z3 := (by decide : (1 : Int32).toInt = 1)
  have z4 := (by decide : (7 : Int32).toInt = 7)
  have z5 := f_X5_lives st x4_14
  have z6 := inc_I x4_14
  clear h4_1 hok
  try simp only [sA_1, sL_1, sI_1, vp_in_iff, Int32.le_iff_toInt_le, Int32.lt_iff_toInt_lt, ← Int32.toInt_inj, reduceIte, Nat.reduceEqDiff, sp_X5_total] at *
  all_goals omega
theorem ob_X9_held_14_inv1_5 (st : St) (a1 : Int32) (a2 : Int32) (n_14 : Nat) (x4_14 : Int32) (x3_14 : Int32) (hok : okC st) (h4_1 : ¬ (sp_X9_isPerson a1) = 0) (hi0_14 : 0 ≤ x4_14.toInt) (hi1_14 : x4_14.toInt ≤ (st.1 7).toInt) (hi2_14 : (st.1 7).toInt < x4_14.toInt + (n_14 + 1)) (h23_2 : ¬ (sp_X5_total st) ≤ x4_14) (h35_3 : (sp_X5_lives st x4_14) = 0) : (x4_14 + 1).toInt ≤ (st.1 7).toInt := by
  have z1 := okC_7 hok
  have z2 := (by decide : (0 : Int32).toInt = 0)
  have z3 := (by decide : (1 : Int32).toInt = 1)
  have z4 := (by decide : (7 : Int32).toInt = 7)
  have z5 := f_X5_lives st x4_14
  have z6 := inc_I x4_14
  clear h4_1 hok
  try simp only [sA_1, sL_1, sI_1, vp_in_iff, Int32.le_iff_toInt_le, Int32.lt_iff_toInt_lt, ← Int32.toInt_inj, reduceIte, Nat.reduceEqDiff, sp_X5_total] at *
  all_goals omega
theorem ob_X9_held_14_inv2_6 (st : St) (a1 : Int32) (a2 : Int32) (n_14 : Nat) (x4_14 : Int32) (x3_14 : Int32) (hok : okC st) (h4_1 : ¬ (sp_X9_isPerson a1) = 0) (hi0_14 : 0 ≤ x4_14.toInt) (hi1_14 : x4_14.toInt ≤ (st.1 7).toInt) (hi2_14 : (st.1 7).toInt < x4_14.toInt + (n_14 + 1)) (h23_2 : ¬ (sp_X5_total st) ≤ x4_14) (h35_3 : (sp_X5_lives st x4_14) = 0) : (st.1 7).toInt < (x4_14 + 1).toInt + n_14 := by
  have z1 := okC_7 hok
  have z2 := (by decide : (0 : Int32).toInt = 0)
  have z3 := (by decide : (1 : Int32).toInt = 1)
  have z4 := (by decide : (7 : Int32).toInt = 7)
  have z5 := f_X5_lives st x4_14
  have z6 := inc_I x4_14
  clear h4_1 hok
  try simp only [sA_1, sL_1, sI_1, vp_in_iff, Int32.le_iff_toInt_le, Int32.lt_iff_toInt_lt, ← Int32.toInt_inj, reduceIte, Nat.reduceEqDiff, sp_X5_total] at *
  all_goals omega
theorem ob_X9_held_14_inv0_8 (st : St) (a1 : Int32) (a2 : Int32) (n_14 : Nat) (x4_14 : Int32) (x3_14 : Int32) (hok : okC st) (h4_1 : ¬ (sp_X9_isPerson a1) = 0) (hi0_14 : 0 ≤ x4_14.toInt) (hi1_14 : x4_14.toInt ≤ (st.1 7).toInt) (hi2_14 : (st.1 7).toInt < x4_14.toInt + (n_14 + 1)) (h23_2 : ¬ (sp_X5_total st) ≤ x4_14) (h35_3 : ¬ (sp_X5_lives st x4_14) = 0) (h48_7 : (sp_X5_isAbout st x4_14 a1) = 0) : 0 ≤ (x4_14 + 1).toInt := by
  have z1 := okC_7 hok
  have z2 := (by decide : (0 : Int32).toInt = 0)
  have z3 := (by decide : (1 : Int32).toInt = 1)
  have z4 := (by decide : (7 : Int32).toInt = 7)
  have z5 := f_X5_lives st x4_14
  have z6 := inc_I x4_14
  clear h4_1 h48_7 hok
  try simp only [sA_1, sL_1, sI_1, vp_in_iff, Int32.le_iff_toInt_le, Int32.lt_iff_toInt_lt, ← Int32.toInt_inj, reduceIte, Nat.reduceEqDiff, sp_X5_total] at *
  all_goals omega
theorem ob_X9_held_14_inv1_9 (st : St) (a1 : Int32) (a2 : Int32) (n_14 : Nat) (x4_14 : Int32) (x3_14 : Int32) (hok : okC st) (h4_1 : ¬ (sp_X9_isPerson a1) = 0) (hi0_14 : 0 ≤ x4_14.toInt) (hi1_14 : x4_14.toInt ≤ (st.1 7).toInt) (hi2_14 : (st.1 7).toInt < x4_14.toInt + (n_14 + 1)) (h23_2 : ¬ (sp_X5_total st) ≤ x4_14) (h35_3 : ¬ (sp_X5_lives st x4_14) = 0) (h48_7 : (sp_X5_isAbout st x4_14 a1) = 0) : (x4_14 + 1).toInt ≤ (st.1 7).toInt := by
  have z1 := okC_7 hok
  have z2 := (by decide : (0 : Int32).toInt = 0)
  have z3 := (by decide : (1 : Int32).toInt = 1)
  have z4 := (by decide : (7 : Int32).toInt = 7)
  have z5 := f_X5_lives st x4_14
  have z6 := inc_I x4_14
  clear h4_1 h48_7 hok
  try simp only [sA_1, sL_1, sI_1, vp_in_iff, Int32.le_iff_toInt_le, Int32.lt_iff_toInt_lt, ← Int32.toInt_inj, reduceIte, Nat.reduceEqDiff, sp_X5_total] at *
  all_goals omega
theorem ob_X9_held_14_inv2_10 (st : St) (a1 : Int32) (a2 : Int32) (n_14 : Nat) (x4_14 : Int32) (x3_14 : Int32) (hok : okC st) (h4_1 : ¬ (sp_X9_isPerson a1) = 0) (hi0_14 : 0 ≤ x4_14.toInt) (hi1_14 : x4_14.toInt ≤ (st.1 7).toInt) (hi2_14 : (st.1 7).toInt < x4_14.toInt + (n_14 + 1)) (h23_2 : ¬ (sp_X5_total st) ≤ x4_14) (h35_3 : ¬ (sp_X5_lives st x4_14) = 0) (h48_7 : (sp_X5_isAbout st x4_14 a1) = 0) : (st.1 7).toInt < (x4_14 + 1).toInt + n_14 := by
  have z1 := okC_7 hok
  have z2 := (by decide : (0 : Int32).toInt = 0)
  have z3 := (by decide : (1 : Int32).toInt = 1)
  have z4 := (by decide : (7 : Int32).toInt = 7)
  have z5 := f_X5_lives st x4_14
  have z6 := inc_I x4_14
  clear h4_1 h48_7 hok
  try simp only [sA_1, sL_1, sI_1, vp_in_iff, Int32.le_iff_toInt_le, Int32.lt_iff_toInt_lt, ← Int32.toInt_inj, reduceIte, Nat.reduceEqDiff, sp_X5_total] at *
  all_goals omega
theorem ob_X9_held_14_inv0_12 (st : St) (a1 : Int32) (a2 : Int32) (n_14 : Nat) (x4_14 : Int32) (x3_14 : Int32) (hok : okC st) (h4_1 : ¬ (sp_X9_isPerson a1) = 0) (hi0_14 : 0 ≤ x4_14.toInt) (hi1_14 : x4_14.toInt ≤ (st.1 7).toInt) (hi2_14 : (st.1 7).toInt < x4_14.toInt + (n_14 + 1)) (h23_2 : ¬ (sp_X5_total st) ≤ x4_14) (h35_3 : ¬ (sp_X5_lives st x4_14) = 0) (h48_7 : ¬ (sp_X5_isAbout st x4_14 a1) = 0) (h53_11 : ¬ x3_14 = a2) : 0 ≤ (x4_14 + 1).toInt := by
  have z1 := okC_7 hok
  have z2 := (by decide : (0 : Int32).toInt = 0)
  have z3 := (by decide : (1 : Int32).toInt = 1)
  have z4 := (by decide : (7 : Int32).toInt = 7)
  have z5 := f_X5_lives st x4_14
  have z6 := inc_I x4_14
  clear h4_1 h48_7 h53_11 hok
  try simp only [sA_1, sL_1, sI_1, vp_in_iff, Int32.le_iff_toInt_le, Int32.lt_iff_toInt_lt, ← Int32.toInt_inj, reduceIte, Nat.reduceEqDiff, sp_X5_total] at *
  all_goals omega
theorem ob_X9_held_14_inv1_13 (st : St) (a1 : Int32) (a2 : Int32) (n_14 : Nat) (x4_14 : Int32) (x3_14 : Int32) (hok : okC st) (h4_1 : ¬ (sp_X9_isPerson a1) = 0) (hi0_14 : 0 ≤ x4_14.toInt) (hi1_14 : x4_14.toInt ≤ (st.1 7).toInt) (hi2_14 : (st.1 7).toInt < x4_14.toInt + (n_14 + 1)) (h23_2 : ¬ (sp_X5_total st) ≤ x4_14) (h35_3 : ¬ (sp_X5_lives st x4_14) = 0) (h48_7 : ¬ (sp_X5_isAbout st x4_14 a1) = 0) (h53_11 : ¬ x3_14 = a2) : (x4_14 + 1).toInt ≤ (st.1 7).toInt := by
  have z1 := okC_7 hok
  have z2 := (by decide : (0 : Int32).toInt = 0)
  have z3 := (by decide : (1 : Int32).toInt = 1)
  have z4 := (by decide : (7 : Int32).toInt = 7)
  have z5 := f_X5_lives st x4_14
  have z6 := inc_I x4_14
  clear h4_1 h48_7 h53_11 hok
  try simp only [sA_1, sL_1, sI_1, vp_in_iff, Int32.le_iff_toInt_le, Int32.lt_iff_toInt_lt, ← Int32.toInt_inj, reduceIte, Nat.reduceEqDiff, sp_X5_total] at *
  all_goals omega
theorem ob_X9_held_14_inv2_14 (st : St) (a1 : Int32) (a2 : Int32) (n_14 : Nat) (x4_14 : Int32) (x3_14 : Int32) (hok : okC st) (h4_1 : ¬ (sp_X9_isPerson a1) = 0) (hi0_14 : 0 ≤ x4_14.toInt) (hi1_14 : x4_14.toInt ≤ (st.1 7).toInt) (hi2_14 : (st.1 7).toInt < x4_14.toInt + (n_14 + 1)) (h23_2 : ¬ (sp_X5_total st) ≤ x4_14) (h35_3 : ¬ (sp_X5_lives st x4_14) = 0) (h48_7 : ¬ (sp_X5_isAbout st x4_14 a1) = 0) (h53_11 : ¬ x3_14 = a2) : (st.1 7).toInt < (x4_14 + 1).toInt + n_14 := by
  have z1 := okC_7 hok
  have z2 := (by decide : (0 : Int32).toInt = 0)
  have z3 := (by decide : (1 : Int32).toInt = 1)
  have z4 := (by decide : (7 : Int32).toInt = 7)
  have z5 := f_X5_lives st x4_14
  have z6 := inc_I x4_14
  clear h4_1 h48_7 h53_11 hok
  try simp only [sA_1, sL_1, sI_1, vp_in_iff, Int32.le_iff_toInt_le, Int32.lt_iff_toInt_lt, ← Int32.toInt_inj, reduceIte, Nat.reduceEqDiff, sp_X5_total] at *
  all_goals omega
theorem ob_X9_held_14_inv0_15 (st : St) (a1 : Int32) (a2 : Int32) (hok : okC st) (h4_1 : ¬ (sp_X9_isPerson a1) = 0) : 0 ≤ (0 : Int32).toInt := by
  have z1 := (by decide : (0 : Int32).toInt = 0)
  clear h4_1 hok
  try simp only [sA_1, sL_1, sI_1, vp_in_iff, Int32.le_iff_toInt_le, Int32.lt_iff_toInt_lt, ← Int32.toInt_inj, reduceIte, Nat.reduceEqDiff] at *
  all_goals omega
theorem ob_X9_held_14_inv1_16 (st : St) (a1 : Int32) (a2 : Int32) (hok : okC st) (h4_1 : ¬ (sp_X9_isPerson a1) = 0) : (0 : Int32).toInt ≤ (st.1 7).toInt := by
  have z1 := okC_7 hok
  have z2 := (by decide : (0 : Int32).toInt = 0)
  have z3 := (by decide : (7 : Int32).toInt = 7)
  clear h4_1 hok
  try simp only [sA_1, sL_1, sI_1, vp_in_iff, Int32.le_iff_toInt_le, Int32.lt_iff_toInt_lt, ← Int32.toInt_inj, reduceIte, Nat.reduceEqDiff] at *
  all_goals omega
theorem ob_X9_held_14_inv2_17 (st : St) (a1 : Int32) (a2 : Int32) (hok : okC st) (h4_1 : ¬ (sp_X9_isPerson a1) = 0) : (st.1 7).toInt < (0 : Int32).toInt + ((st.1 7).toInt.toNat + 1) := by
  have z1 := okC_7 hok
  have z2 := (by decide : (0 : Int32).toInt = 0)
  have z3 := (by decide : (1 : Int32).toInt = 1)
  have z4 := (by decide : (7 : Int32).toInt = 7)
  clear h4_1 hok
  try simp only [sA_1, sL_1, sI_1, vp_in_iff, Int32.le_iff_toInt_le, Int32.lt_iff_toInt_lt, ← Int32.toInt_inj, reduceIte, Nat.reduceEqDiff] at *
  all_goals omega

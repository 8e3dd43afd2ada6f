theorem ob_X4_add_20_2 (st : St) (a1 : Int32) (a2 : Int32) (a3 : Int32) (hok : okC st) (h6_1 : st.1 6 < 30) : vp_in (st.1 6) 30 := by
  have z1 := okC_6 hok
  have z2 := (by decide : (6 : Int32).toInt = 6)
  have z3 := (by decide : (30 : Int32).toInt = 30)
  clear hok
  try simp only [sA_1, sL_1, sI_1, vp_in_iff, Int32.le_iff_toInt_le, Int32.lt_iff_toInt_lt, ← Int32.toInt_inj, reduceIte, Nat.reduceEqDiff] at *
  all_goals omega
theorem ob_X4_add_30_3 (st : St) (a1 : Int32) (a2 : Int32) (a3 : Int32) (hok : okC st) (h6_1 : st.1 6 < 30) : vp_in (st.1 6) 30 := by
  have z1 := okC_6 hok
  have z2 := (by decide : (6 : Int32).toInt = 6)
  have z3 := (by decide : (30 : Int32).toInt = 30)
  clear hok
  try simp only [sA_1, sL_1, sI_1, vp_in_iff, Int32.le_iff_toInt_le, Int32.lt_iff_toInt_lt, ← Int32.toInt_inj, reduceIte, Nat.reduceEqDiff] at *
  all_goals omega
theorem ob_X4_add_40_4 (st : St) (a1 : Int32) (a2 : Int32) (a3 : Int32) (hok : okC st) (h6_1 : st.1 6 < 30) : vp_in (st.1 6) 30 := by
  have z1 := okC_6 hok
  have z2 := (by decide : (6 : Int32).toInt = 6)
  have z3 := (by decide : (30 : Int32).toInt = 30)
  clear hok
  try simp only [sA_1, sL_1, sI_1, vp_in_iff, Int32.le_iff_toInt_le, Int32.lt_iff_toInt_lt, ← Int32.toInt_inj, reduceIte, Nat.reduceEqDiff] at *
  all_goals omega
theorem ob_X4_add_52_5 (st : St) (a1 : Int32) (a2 : Int32) (a3 : Int32) (hok : okC st) (h6_1 : st.1 6 < 30) : vp_in (st.1 6) 30 := by
  have z1 := okC_6 hok
  have z2 := (by decide : (6 : Int32).toInt = 6)
  have z3 := (by decide : (30 : Int32).toInt = 30)
  clear hok
  try simp only [sA_1, sL_1, sI_1, vp_in_iff, Int32.le_iff_toInt_le, Int32.lt_iff_toInt_lt, ← Int32.toInt_inj, reduceIte, Nat.reduceEqDiff] at *
  all_goals omega
theorem ob_X4_firstDayOf_13_2 (st : St) (a1 : Int32) (hok : okC st) (h5_1 : ¬ (sp_X4_has st a1) = 0) : vp_in a1 30 := by
  have z1 := okC_6 hok
  have z2 := (by decide : (0 : Int32).toInt = 0)
  have z3 := (by decide : (30 : Int32).toInt = 30)
  have z4 := f_X4_has st a1
  clear hok
  try simp only [sA_1, sL_1, sI_1, vp_in_iff, Int32.le_iff_toInt_le, Int32.lt_iff_toInt_lt, ← Int32.toInt_inj, reduceIte, Nat.reduceEqDiff] at *
  all_goals omega
theorem ob_X4_isLifted_13_2 (st : St) (a1 : Int32) (hok : okC st) (h5_1 : ¬ (sp_X4_has st a1) = 0) : vp_in a1 30 := by
  have z1 := okC_6 hok
  have z2 := (by decide : (0 : Int32).toInt = 0)
  have z3 := (by decide : (30 : Int32).toInt = 30)
  have z4 := f_X4_has st a1
  clear hok
  try simp only [sA_1, sL_1, sI_1, vp_in_iff, Int32.le_iff_toInt_le, Int32.lt_iff_toInt_lt, ← Int32.toInt_inj, reduceIte, Nat.reduceEqDiff] at *
  all_goals omega
theorem ob_X4_endOn_14_2 (st : St) (a1 : Int32) (a2 : Int32) (hok : okC st) (h5_1 : ¬ (sp_X4_has st a1) = 0) : vp_in a1 30 := by
  have z1 := okC_6 hok
  have z2 := (by decide : (0 : Int32).toInt = 0)
  have z3 := (by decide : (30 : Int32).toInt = 30)
  have z4 := f_X4_has st a1
  clear hok
  try simp only [sA_1, sL_1, sI_1, vp_in_iff, Int32.le_iff_toInt_le, Int32.lt_iff_toInt_lt, ← Int32.toInt_inj, reduceIte, Nat.reduceEqDiff] at *
  all_goals omega
theorem ob_X4_runsOn_5_1 (st : St) (a1 : Int32) (a2 : Int32) (hva1 : vp_in a1 30) : vp_in a1 30 := by
  have z1 := (by decide : (30 : Int32).toInt = 30)
  try simp only [sA_1, sL_1, sI_1, vp_in_iff, Int32.le_iff_toInt_le, Int32.lt_iff_toInt_lt, ← Int32.toInt_inj, reduceIte, Nat.reduceEqDiff] at *
  all_goals omega
theorem ob_X4_runsOn_16_3 (st : St) (a1 : Int32) (a2 : Int32) (hva1 : vp_in a1 30) (h7_2 : ¬ a2 < st.2.1 18 a1.toNatClampNeg) : vp_in a1 30 := by
  have z1 := (by decide : (18 : Int32).toInt = 18)
  have z2 := (by decide : (30 : Int32).toInt = 30)
  try simp only [sA_1, sL_1, sI_1, vp_in_iff, Int32.le_iff_toInt_le, Int32.lt_iff_toInt_lt, ← Int32.toInt_inj, reduceIte, Nat.reduceEqDiff] at *
  all_goals omega
theorem ob_X4_isOfPersons_5_1 (st : St) (a1 : Int32) (a2 : Int32) (hva1 : vp_in a1 30) : vp_in a1 30 := by
  have z1 := (by decide : (30 : Int32).toInt = 30)
  try simp only [sA_1, sL_1, sI_1, vp_in_iff, Int32.le_iff_toInt_le, Int32.lt_iff_toInt_lt, ← Int32.toInt_inj, reduceIte, Nat.reduceEqDiff] at *
  all_goals omega
theorem ob_X4_isOfPersons_18_3 (st : St) (a1 : Int32) (a2 : Int32) (hva1 : vp_in a1 30) (h9_2 : ¬ (sp_X9_isPerson (st.2.1 16 a1.toNatClampNeg)) = 0) : vp_in a1 30 := by
  have z1 := (by decide : (30 : Int32).toInt = 30)
  clear h9_2
  try simp only [sA_1, sL_1, sI_1, vp_in_iff, Int32.le_iff_toInt_le, Int32.lt_iff_toInt_lt, ← Int32.toInt_inj, reduceIte, Nat.reduceEqDiff] at *
  all_goals omega
theorem ob_X4_covers_24_3 (st : St) (a1 : Int32) (a2 : Int32) (a3 : Int32) (a4 : Int32) (hva1 : vp_in a1 30) (h7_1 : ¬ (sp_X4_runsOn st a1 a4) = 0) (h16_2 : (sp_X4_isOfPersons st a1 a2) = 0) : vp_in a1 30 := by
  have z1 := (by decide : (30 : Int32).toInt = 30)
  clear h7_1 h16_2
  try simp only [sA_1, sL_1, sI_1, vp_in_iff, Int32.le_iff_toInt_le, Int32.lt_iff_toInt_lt, ← Int32.toInt_inj, reduceIte, Nat.reduceEqDiff] at *
  all_goals omega
theorem ob_X4_allow_3_zero (st : St) (a1 : Int32) (a2 : Int32) (a3 : Int32) (a4 : Int32) (x5_3 : Int32) (hok : okC st) (hi0_3 : 0 ≤ x5_3.toInt) (hi1_3 : x5_3.toInt ≤ (st.1 6).toInt) (hi2_3 : (st.1 6).toInt < x5_3.toInt + 0) : False := by
  have z1 := okC_6 hok
  have z2 := (by decide : (0 : Int32).toInt = 0)
  have z3 := (by decide : (6 : Int32).toInt = 6)
  clear hok
  try simp only [sA_1, sL_1, sI_1, vp_in_iff, Int32.le_iff_toInt_le, Int32.lt_iff_toInt_lt, ← Int32.toInt_inj, reduceIte, Nat.reduceEqDiff] at *
  all_goals omega
theorem ob_X4_allow_18_2 (st : St) (a1 : Int32) (a2 : Int32) (a3 : Int32) (a4 : Int32) (n_3 : Nat) (x5_3 : Int32) (hok : okC st) (hi0_3 : 0 ≤ x5_3.toInt) (hi1_3 : x5_3.toInt ≤ (st.1 6).toInt) (hi2_3 : (st.1 6).toInt < x5_3.toInt + (n_3 + 1)) (h9_1 : ¬ st.1 6 ≤ x5_3) : vp_in x5_3 30 := by
  have z1 := okC_6 hok
  have z2 := (by decide : (0 : Int32).toInt = 0)
  have z3 := (by decide : (1 : Int32).toInt = 1)
  have z4 := (by decide : (6 : Int32).toInt = 6)
  have z5 := (by decide : (30 : Int32).toInt = 30)
  clear hok
  try simp only [sA_1, sL_1, sI_1, vp_in_iff, Int32.le_iff_toInt_le, Int32.lt_iff_toInt_lt, ← Int32.toInt_inj, reduceIte, Nat.reduceEqDiff] at *
  all_goals omega
theorem ob_X4_allow_3_inv0_4 (st : St) (a1 : Int32) (a2 : Int32) (a3 : Int32) (a4 : Int32) (n_3 : Nat) (x5_3 : Int32) (hok : okC st) (hi0_3 : 0 ≤ x5_3.toInt) (hi1_3 : x5_3.toInt ≤ (st.1 6).toInt) (hi2_3 : (st.1 6).toInt < x5_3.toInt + (n_3 + 1)) (h9_1 : ¬ st.1 6 ≤ x5_3) (h20_3 : ¬ st.2.1 17 x5_3.toNatClampNeg = a3) : 0 ≤ (x5_3 + 1).toInt := by
  have z1 := okC_6 hok
  have z2 := (by decide : (0 : Int32).toInt = 0)
  have z3 := (by decide : (1 : Int32).toInt = 1)
  have z4 := (by decide : (6 : Int32).toInt = 6)
  have z5 := (by decide : (17 : Int32).toInt = 17)
  have z6 := inc_I x5_3
  clear hok
  try simp only [sA_1, sL_1, sI_1, vp_in_iff, Int32.le_iff_toInt_le, Int32.lt_iff_toInt_lt, ← Int32.toInt_inj, reduceIte, Nat.reduceEqDiff] at *
  all_goals omega
theorem ob_X4_allow_3_inv1_5 (st : St) (a1 : Int32) (a2 : Int32) (a3 : Int32) (a4 : Int32) (n_3 : Nat) (x5_3 : Int32) (hok : okC st) (hi0_3 : 0 ≤ x5_3.toInt) (hi1_3 : x5_3.toInt ≤ (st.1 6).toInt) (hi2_3 : (st.1 6).toInt < x5_3.toInt + (n_3 + 1)) (h9_1 : ¬ st.1 6 ≤ x5_3) (h20_3 : ¬ st.2.1 17 x5_3.toNatClampNeg = a3) : (x5_3 + 1).toInt ≤ (st.1 6).toInt := by
  have z1 := okC_6 hok
  have z2 := (by decide : (0 : Int32).toInt = 0)
  have z3 := (by decide : (1 : Int32).toInt = 1)
  have z4 := (by decide : (6 : Int32).toInt = 6)
  have z5 := (by decide : (17 : Int32).toInt = 17)
  have z6 := inc_I x5_3
  clear hok
  try simp only [sA_1, sL_1, sI_1, vp_in_iff, Int32.le_iff_toInt_le, Int32.lt_iff_toInt_lt, ← Int32.toInt_inj, reduceIte, Nat.reduceEqDiff] at *
  all_goals omega
theorem ob_X4_allow_3_inv2_6 (st : St) (a1 : Int32) (a2 : Int32) (a3 : Int32) (a4 : Int32) (n_3 : Nat) (x5_3 : Int32) (hok : okC st) (hi0_3 : 0 ≤ x5_3.toInt) (hi1_3 : x5_3.toInt ≤ (st.1 6).toInt) (hi2_3 : (st.1 6).toInt < x5_3.toInt + (n_3 + 1)) (h9_1 : ¬ st.1 6 ≤ x5_3) (h20_3 : ¬ st.2.1 17 x5_3.toNatClampNeg = a3) : (st.1 6).toInt < (x5_3 + 1).toInt + n_3 := by
  have z1 := okC_6 hok
  have z2 := (by decide : (0 : Int32).toInt = 0)
  have z3 := (by decide : (1 : Int32).toInt = 1)
  have z4 := (by decide : (6 : Int32).toInt = 6)
  have z5 := (by decide : (17 : Int32).toInt = 17)
  have z6 := inc_I x5_3
  clear hok
  try simp only [sA_1, sL_1, sI_1, vp_in_iff, Int32.le_iff_toInt_le, Int32.lt_iff_toInt_lt, ← Int32.toInt_inj, reduceIte, Nat.reduceEqDiff] at *
  all_goals omega
theorem ob_X4_allow_30_7 (st : St) (a1 : Int32) (a2 : Int32) (a3 : Int32) (a4 : Int32) (n_3 : Nat) (x5_3 : Int32) (hok : okC st) (hi0_3 : 0 ≤ x5_3.toInt) (hi1_3 : x5_3.toInt ≤ (st.1 6).toInt) (hi2_3 : (st.1 6).toInt < x5_3.toInt + (n_3 + 1)) (h9_1 : ¬ st.1 6 ≤ x5_3) (h20_3 : st.2.1 17 x5_3.toNatClampNeg = a3) : vp_in x5_3 30 := by
  have z1 := okC_6 hok
  have z2 := (by decide : (0 : Int32).toInt = 0)
  have z3 := (by decide : (1 : Int32).toInt = 1)
  have z4 := (by decide : (6 : Int32).toInt = 6)
  have z5 := (by decide : (17 : Int32).toInt = 17)
  have z6 := (by decide : (30 : Int32).toInt = 30)
  clear hok
  try simp only [sA_1, sL_1, sI_1, vp_in_iff, Int32.le_iff_toInt_le, Int32.lt_iff_toInt_lt, ← Int32.toInt_inj, reduceIte, Nat.reduceEqDiff] at *
  all_goals omega
theorem ob_X4_allow_3_inv0_9 (st : St) (a1 : Int32) (a2 : Int32) (a3 : Int32) (a4 : Int32) (n_3 : Nat) (x5_3 : Int32) (hok : okC st) (hi0_3 : 0 ≤ x5_3.toInt) (hi1_3 : x5_3.toInt ≤ (st.1 6).toInt) (hi2_3 : (st.1 6).toInt < x5_3.toInt + (n_3 + 1)) (h9_1 : ¬ st.1 6 ≤ x5_3) (h20_3 : st.2.1 17 x5_3.toNatClampNeg = a3) (h33_8 : (sp_X4_covers st x5_3 a1 a2 a4) = 0) : 0 ≤ (x5_3 + 1).toInt := by
  have z1 := okC_6 hok
  have z2 := (by decide : (0 : Int32).toInt = 0)
  have z3 := (by decide : (1 : Int32).toInt = 1)
  have z4 := (by decide : (6 : Int32).toInt = 6)
  have z5 := (by decide : (17 : Int32).toInt = 17)
  have z6 := inc_I x5_3
  clear h33_8 hok
  try simp only [sA_1, sL_1, sI_1, vp_in_iff, Int32.le_iff_toInt_le, Int32.lt_iff_toInt_lt, ← Int32.toInt_inj, reduceIte, Nat.reduceEqDiff] at *
  all_goals omega
theorem ob_X4_allow_3_inv1_10 (st : St) (a1 : Int32) (a2 : Int32) (a3 : Int32) (a4 : Int32) (n_3 : Nat) (x5_3 : Int32) (hok : okC st) (hi0_3 : 0 ≤ x5_3.toInt) (hi1_3 : x5_3.toInt ≤ (st.1 6).toInt) (hi2_3 : (st.1 6).toInt < x5_3.toInt + (n_3 + 1)) (h9_1 : ¬ st.1 6 ≤ x5_3) (h20_3 : st.2.1 17 x5_3.toNatClampNeg = a3) (h33_8 : (sp_X4_covers st x5_3 a1 a2 a4) = 0) : (x5_3 + 1).toInt ≤ (st.1 6).toInt := by
  have z1 := okC_6 hok
  have z2 := (by decide : (0 : Int32).toInt = 0)
  have z3 := (by decide : (1 : Int32).toInt = 1)
  have z4 := (by decide : (6 : Int32).toInt = 6)
  have z5 := (by decide : (17 : Int32).toInt = 17)
  have z6 := inc_I x5_3
  clear h33_8 hok
  try simp only [sA_1, sL_1, sI_1, vp_in_iff, Int32.le_iff_toInt_le, Int32.lt_iff_toInt_lt, ← Int32.toInt_inj, reduceIte, Nat.reduceEqDiff] at *
  all_goals omega
theorem ob_X4_allow_3_inv2_11 (st : St) (a1 : Int32) (a2 : Int32) (a3 : Int32) (a4 : Int32) (n_3 : Nat) (x5_3 : Int32) (hok : okC st) (hi0_3 : 0 ≤ x5_3.toInt) (hi1_3 : x5_3.toInt ≤ (st.1 6).toInt) (hi2_3 : (st.1 6).toInt < x5_3.toInt + (n_3 + 1)) (h9_1 : ¬ st.1 6 ≤ x5_3) (h20_3 : st.2.1 17 x5_3.toNatClampNeg = a3) (h33_8 : (sp_X4_covers st x5_3 a1 a2 a4) = 0) : (st.1 6).toInt < (x5_3 + 1).toInt + n_3 := by
  have z1 := okC_6 hok
  have z2 := (by decide : (0 : Int32).toInt = 0)
  have z3 := (by decide : (1 : Int32).toInt = 1)
  have z4 := (by decide : (6 : Int32).toInt = 6)
  have z5 := (by decide : (17 : Int32).toInt = 17)
  have z6 := inc_I x5_3
  clear h33_8 hok
  try simp only [sA_1, sL_1, sI_1, vp_in_iff, Int32.le_iff_toInt_le, Int32.lt_iff_toInt_lt, ← Int32.toInt_inj, reduceIte, Nat.reduceEqDiff] at *
  all_goals omega
theorem ob_X4_allow_3_inv0_12 (st : St) (a1 : Int32) (a2 : Int32) (a3 : Int32) (a4 : Int32) (hok : okC st) : 0 ≤ (0 : Int32).toInt := by
  have z1 := (by decide : (0 : Int32).toInt = 0)
  clear hok
  try simp only [sA_1, sL_1, sI_1, vp_in_iff, Int32.le_iff_toInt_le, Int32.lt_iff_toInt_lt, ← Int32.toInt_inj, reduceIte, Nat.reduceEqDiff] at *
  all_goals omega
theorem ob_X4_allow_3_inv1_13 (st : St) (a1 : Int32) (a2 : Int32) (a3 : Int32) (a4 : Int32) (hok : okC st) : (0 : Int32).toInt ≤ (st.1 6).toInt := by
  have z1 := okC_6 hok
  have z2 := (by decide : (0 : Int32).toInt = 0)
  have z3 := (by decide : (6 : Int32).toInt = 6)
  clear hok
  try simp only [sA_1, sL_1, sI_1, vp_in_iff, Int32.le_iff_toInt_le, Int32.lt_iff_toInt_lt, ← Int32.toInt_inj, reduceIte, Nat.reduceEqDiff] at *
  all_goals omega
theorem ob_X4_allow_3_inv2_14 (st : St) (a1 : Int32) (a2 : Int32) (a3 : Int32) (a4 : Int32) (hok : okC st) : (st.1 6).toInt < (0 : Int32).toInt + ((st.1 6).toInt.toNat + 1) := by
  have z1 := okC_6 hok
  have z2 := (by decide : (0 : Int32).toInt = 0)
  have z3 := (by decide : (1 : Int32).toInt = 1)
  have z4 := (by decide : (6 : Int32).toInt = 6)
  clear hok
  try simp only [sA_1, sL_1, sI_1, vp_in_iff, Int32.le_iff_toInt_le, Int32.lt_iff_toInt_lt, ← Int32.toInt_inj, reduceIte, Nat.reduceEqDiff] at *
  all_goals omega
theorem ob_X4_cover_3_zero (st : St) (a1 : Int32) (a2 : Int32) (a3 : Int32) (x4_3 : Int32) (hok : okC st) (hi0_3 : 0 ≤ x4_3.toInt) (hi1_3 : x4_3.toInt ≤ (st.1 6).toInt) (hi2_3 : (st.1 6).toInt < x4_3.toInt + 0) : False := by
  have z1 := okC_6 hok
  have z2 := (by decide : (0 : Int32).toInt = 0)
  have z3 := (by decide : (6 : Int32).toInt = 6)
  clear hok
  try simp only [sA_1, sL_1, sI_1, vp_in_iff, Int32.le_iff_toInt_le, Int32.lt_iff_toInt_lt, ← Int32.toInt_inj, reduceIte, Nat.reduceEqDiff] at *
  all_goals omega
theorem ob_X4_cover_18_2 (st : St) (a1 : Int32) (a2 : Int32) (a3 : Int32) (n_3 : Nat) (x4_3 : Int32) (hok : okC st) (hi0_3 : 0 ≤ x4_3.toInt) (hi1_3 : x4_3.toInt ≤ (st.1 6).toInt) (hi2_3 : (st.1 6).toInt < x4_3.toInt + (n_3 + 1)) (h9_1 : ¬ st.1 6 ≤ x4_3) : vp_in x4_3 30 := by
  have z1 := okC_6 hok
  have z2 := (by decide : (0 : Int32).toInt = 0)
  have z3 := (by decide : (1 : Int32).toInt = 1)
  have z4 := (by decide : (6 : Int32).toInt = 6)
  have z5 := (by decide : (30 : Int32).toInt = 30)
  clear hok
  try simp only [sA_1, sL_1, sI_1, vp_in_iff, Int32.le_iff_toInt_le, Int32.lt_iff_toInt_lt, ← Int32.toInt_inj, reduceIte, Nat.reduceEqDiff] at *
  all_goals omega
theorem ob_X4_cover_3_inv0_4 (st : St) (a1 : Int32) (a2 : Int32) (a3 : Int32) (n_3 : Nat) (x4_3 : Int32) (hok : okC st) (hi0_3 : 0 ≤ x4_3.toInt) (hi1_3 : x4_3.toInt ≤ (st.1 6).toInt) (hi2_3 : (st.1 6).toInt < x4_3.toInt + (n_3 + 1)) (h9_1 : ¬ st.1 6 ≤ x4_3) (h21_3 : (sp_X4_covers st x4_3 a1 a2 a3) = 0) : 0 ≤ (x4_3 + 1).toInt := by
  have z1 := okC_6 hok
  have z2 := (by decide : (0 : Int32).toInt = 0)
  have z3 := (by decide : (1 : Int32).toInt = 1)
  have z4 := (by decide : (6 : Int32).toInt = 6)
  have z5 := inc_I x4_3
  clear h21_3 hok
  try simp only [sA_1, sL_1, sI_1, vp_in_iff, Int32.le_iff_toInt_le, Int32.lt_iff_toInt_lt, ← Int32.toInt_inj, reduceIte, Nat.reduceEqDiff] at *
  all_goals omega
theorem ob_X4_cover_3_inv1_5 (st : St) (a1 : Int32) (a2 : Int32) (a3 : Int32) (n_3 : Nat) (x4_3 : Int32) (hok : okC st) (hi0_3 : 0 ≤ x4_3.toInt) (hi1_3 : x4_3.toInt ≤ (st.1 6).toInt) (hi2_3 : (st.1 6).toInt < x4_3.toInt + (n_3 + 1)) (h9_1 : ¬ st.1 6 ≤ x4_3) (h21_3 : (sp_X4_covers st x4_3 a1 a2 a3) = 0) : (x4_3 + 1).toInt ≤ (st.1 6).toInt := by
  have z1 := okC_6 hok
  have z2 := (by decide : (0 : Int32).toInt = 0)
  have z3 := (by decide : (1 : Int32).toInt = 1)
  have z4 := (by decide : (6 : Int32).toInt = 6)
  have z5 := inc_I x4_3
  clear h21_3 hok
  try simp only [sA_1, sL_1, sI_1, vp_in_iff, Int32.le_iff_toInt_le, Int32.lt_iff_toInt_lt, ← Int32.toInt_inj, reduceIte, Nat.reduceEqDiff] at *
  all_goals omega
theorem ob_X4_cover_3_inv2_6 (st : St) (a1 : Int32) (a2 : Int32) (a3 : Int32) (n_3 : Nat) (x4_3 : Int32) (hok : okC st) (hi0_3 : 0 ≤ x4_3.toInt) (hi1_3 : x4_3.toInt ≤ (st.1 6).toInt) (hi2_3 : (st.1 6).toInt < x4_3.toInt + (n_3 + 1)) (h9_1 : ¬ st.1 6 ≤ x4_3) (h21_3 : (sp_X4_covers st x4_3 a1 a2 a3) = 0) : (st.1 6).toInt < (x4_3 + 1).toInt + n_3 := by
  have z1 := okC_6 hok
  have z2 := (by decide : (0 : Int32).toInt = 0)
  have z3 := (by decide : (1 : Int32).toInt = 1)
  have z4 := (by decide : (6 : Int32).toInt = 6)
  have z5 := inc_I x4_3
  clear h21_3 hok
  try simp only [sA_1, sL_1, sI_1, vp_in_iff, Int32.le_iff_toInt_le, Int32.lt_iff_toInt_lt, ← Int32.toInt_inj, reduceIte, Nat.reduceEqDiff] at *
  all_goals omega
theorem ob_X4_cover_3_inv0_7 (st : St) (a1 : Int32) (a2 : Int32) (a3 : Int32) (hok : okC st) : 0 ≤ (0 : Int32).toInt := by
  have z1 := (by decide : (0 : Int32).toInt = 0)
  clear hok
  try simp only [sA_1, sL_1, sI_1, vp_in_iff, Int32.le_iff_toInt_le, Int32.lt_iff_toInt_lt, ← Int32.toInt_inj, reduceIte, Nat.reduceEqDiff] at *
  all_goals omega
theorem ob_X4_cover_3_inv1_8 (st : St) (a1 : Int32) (a2 : Int32) (a3 : Int32) (hok : okC st) : (0 : Int32).toInt ≤ (st.1 6).toInt := by
  have z1 := okC_6 hok
  have z2 := (by decide : (0 : Int32).toInt = 0)
  have z3 := (by decide : (6 : Int32).toInt = 6)
  clear hok
  try simp only [sA_1, sL_1, sI_1, vp_in_iff, Int32.le_iff_toInt_le, Int32.lt_iff_toInt_lt, ← Int32.toInt_inj, reduceIte, Nat.reduceEqDiff] at *
  all_goals omega
theorem ob_X4_cover_3_inv2_9 (st : St) (a1 : Int32) (a2 : Int32) (a3 : Int32) (hok : okC st) : (st.1 6).toInt < (0 : Int32).toInt + ((st.1 6).toInt.toNat + 1) := by
  have z1 := okC_6 hok
  have z2 := (by decide : (0 : Int32).toInt = 0)
  have z3 := (by decide : (1 : Int32).toInt = 1)
  have z4 := (by decide : (6 : Int32).toInt = 6)
  clear hok
  try simp only [sA_1, sL_1, sI_1, vp_in_iff, Int32.le_iff_toInt_le, Int32.lt_iff_toInt_lt, ← Int32.toInt_inj, reduceIte, Nat.reduceEqDiff] at *
  all_goals omega
theorem ob_X4_coverPersons_2_zero (st : St) (a1 : Int32) (a2 : Int32) (x3_2 : Int32) (hok : okC st) (hi0_2 : 0 ≤ x3_2.toInt) (hi1_2 : x3_2.toInt ≤ (st.1 6).toInt) (hi2_2 : (st.1 6).toInt < x3_2.toInt + 0) : False := by
  have z1 := okC_6 hok
  have z2 := (by decide : (0 : Int32).toInt = 0)
  have z3 := (by decide : (6 : Int32).toInt = 6)
  clear hok
  try simp only [sA_1, sL_1, sI_1, vp_in_iff, Int32.le_iff_toInt_le, Int32.lt_iff_toInt_lt, ← Int32.toInt_inj, reduceIte, Nat.reduceEqDiff] at *
  all_goals omega
theorem ob_X4_coverPersons_13_2 (st : St) (a1 : Int32) (a2 : Int32) (n_2 : Nat) (x3_2 : Int32) (hok : okC st) (hi0_2 : 0 ≤ x3_2.toInt) (hi1_2 : x3_2.toInt ≤ (st.1 6).toInt) (hi2_2 : (st.1 6).toInt < x3_2.toInt + (n_2 + 1)) (h7_1 : ¬ st.1 6 ≤ x3_2) : vp_in x3_2 30 := by
  have z1 := okC_6 hok
  have z2 := (by decide : (0 : Int32).toInt = 0)
  have z3 := (by decide : (1 : Int32).toInt = 1)
  have z4 := (by decide : (6 : Int32).toInt = 6)
  have z5 := (by decide : (30 : Int32).toInt = 30)
  clear hok
  try simp only [sA_1, sL_1, sI_1, vp_in_iff, Int32.le_iff_toInt_le, Int32.lt_iff_toInt_lt, ← Int32.toInt_inj, reduceIte, Nat.reduceEqDiff] at *
  all_goals omega
theorem ob_X4_coverPersons_2_inv0_4 (st : St) (a1 : Int32) (a2 : Int32) (n_2 : Nat) (x3_2 : Int32) (hok : okC st) (hi0_2 : 0 ≤ x3_2.toInt) (hi1_2 : x3_2.toInt ≤ (st.1 6).toInt) (hi2_2 : (st.1 6).toInt < x3_2.toInt + (n_2 + 1)) (h7_1 : ¬ st.1 6 ≤ x3_2) (h16_3 : (sp_X4_isOfPersons st x3_2 a1) = 0) : 0 ≤ (x3_2 + 1).toInt := by
  have z1 := okC_6 hok
  have z2 := (by decide : (0 : Int32).toInt = 0)
  have z3 := (by decide : (1 : Int32).toInt = 1)
  have z4 := (by decide : (6 : Int32).toInt = 6)
  have z5 := inc_I x3_2
  clear h16_3 hok
  try simp only [sA_1, sL_1, sI_1, vp_in_iff, Int32.le_iff_toInt_le, Int32.lt_iff_toInt_lt, ← Int32.toInt_inj, reduceIte, Nat.reduceEqDiff] at *
  all_goals omega
theorem ob_X4_coverPersons_2_inv1_5 (st : St) (a1 : Int32) (a2 : Int32) (n_2 : Nat) (x3_2 : Int32) (hok : okC st) (hi0_2 : 0 ≤ x3_2.toInt) (hi1_2 : x3_2.toInt ≤ (st.1 6).toInt) (hi2_2 : (st.1 6).toInt < x3_2.toInt + (n_2 + 1)) (h7_1 : ¬ st.1 6 ≤ x3_2) (h16_3 : (sp_X4_isOfPersons st x3_2 a1) = 0) : (x3_2 + 1).toInt ≤ (st.1 6).toInt := by
  have z1 := okC_6 hok
  have z2 := (by decide : (0 : Int32).toInt = 0)
  have z3 := (by decide : (1 : Int32).toInt = 1)
  have z4 := (by decide : (6 : Int32).toInt = 6)
  have z5 := inc_I x3_2
  clear h16_3 hok
  try simp only [sA_1, sL_1, sI_1, vp_in_iff, Int32.le_iff_toInt_le, Int32.lt_iff_toInt_lt, ← Int32.toInt_inj, reduceIte, Nat.reduceEqDiff] at *
  all_goals omega
theorem ob_X4_coverPersons_2_inv2_6 (st : St) (a1 : Int32) (a2 : Int32) (n_2 : Nat) (x3_2 : Int32) (hok : okC st) (hi0_2 : 0 ≤ x3_2.toInt) (hi1_2 : x3_2.toInt ≤ (st.1 6).toInt) (hi2_2 : (st.1 6).toInt < x3_2.toInt + (n_2 + 1)) (h7_1 : ¬ st.1 6 ≤ x3_2) (h16_3 : (sp_X4_isOfPersons st x3_2 a1) = 0) : (st.1 6).toInt < (x3_2 + 1).toInt + n_2 := by
  have z1 := okC_6 hok
  have z2 := (by decide : (0 : Int32).toInt = 0)
  have z3 := (by decide : (1 : Int32).toInt = 1)
  have z4 := (by decide : (6 : Int32).toInt = 6)
  have z5 := inc_I x3_2
  clear h16_3 hok
  try simp only [sA_1, sL_1, sI_1, vp_in_iff, Int32.le_iff_toInt_le, Int32.lt_iff_toInt_lt, ← Int32.toInt_inj, reduceIte, Nat.reduceEqDiff] at *
  all_goals omega
theorem ob_X4_coverPersons_22_7 (st : St) (a1 : Int32) (a2 : Int32) (n_2 : Nat) (x3_2 : Int32) (hok : okC st) (hi0_2 : 0 ≤ x3_2.toInt) (hi1_2 : x3_2.toInt ≤ (st.1 6).toInt) (hi2_2 : (st.1 6).toInt < x3_2.toInt + (n_2 + 1)) (h7_1 : ¬ st.1 6 ≤ x3_2) (h16_3 : ¬ (sp_X4_isOfPersons st x3_2 a1) = 0) : vp_in x3_2 30 := by
  have z1 := okC_6 hok
  have z2 := (by decide : (0 : Int32).toInt = 0)
  have z3 := (by decide : (1 : Int32).toInt = 1)
  have z4 := (by decide : (6 : Int32).toInt = 6)
  have z5 := (by decide : (30 : Int32).toInt = 30)
  clear h16_3 hok
  try simp only [sA_1, sL_1, sI_1, vp_in_iff, Int32.le_iff_toInt_le, Int32.lt_iff_toInt_lt, ← Int32.toInt_inj, reduceIte, Nat.reduceEqDiff] at *
  all_goals omega
theorem ob_X4_coverPersons_2_inv0_9 (st : St) (a1 : Int32) (a2 : Int32) (n_2 : Nat) (x3_2 : Int32) (hok : okC st) (hi0_2 : 0 ≤ x3_2.toInt) (hi1_2 : x3_2.toInt ≤ (st.1 6).toInt) (hi2_2 : (st.1 6).toInt < x3_2.toInt + (n_2 + 1)) (h7_1 : ¬ st.1 6 ≤ x3_2) (h16_3 : ¬ (sp_X4_isOfPersons st x3_2 a1) = 0) (h25_8 : (sp_X4_runsOn st x3_2 a2) = 0) : 0 ≤ (x3_2 + 1).toInt := by
  have z1 := okC_6 hok
  have z2 := (by decide : (0 : Int32).toInt = 0)
  have z3 := (by decide : (1 : Int32).toInt = 1)
  have z4 := (by decide : (6 : Int32).toInt = 6)
  have z5 := inc_I x3_2
  clear h16_3 h25_8 hok
  try simp only [sA_1, sL_1, sI_1, vp_in_iff, Int32.le_iff_toInt_le, Int32.lt_iff_toInt_lt, ← Int32.toInt_inj, reduceIte, Nat.reduceEqDiff] at *
  all_goals omega
theorem ob_X4_coverPersons_2_inv1_10 (st : St) (a1 : Int32) (a2 : Int32) (n_2 : Nat) (x3_2 : Int32) (hok : okC st) (hi0_2 : 0 ≤ x3_2.toInt) (hi1_2 : x3_2.toInt ≤ (st.1 6).toInt) (hi2_2 : (st.1 6).toInt < x3_2.toInt + (n_2 + 1)) (h7_1 : ¬ st.1 6 ≤ x3_2) (h16_3 : ¬ (sp_X4_isOfPersons st x3_2 a1) = 0) (h25_8 : (sp_X4_runsOn st x3_2 a2) = 0) : (x3_2 + 1).toInt ≤ (st.1 6).toInt := by
  have z1 := okC_6 hok
  have z2 := (by decide : (0 : Int32).toInt = 0)
  have z3 := (by decide : (1 : Int32).toInt = 1)
  have z4 := (by decide : (6 : Int32).toInt = 6)
  have z5 := inc_I x3_2
  clear h16_3 h25_8 hok
  try simp only [sA_1, sL_1, sI_1, vp_in_iff, Int32.le_iff_toInt_le, Int32.lt_iff_toInt_lt, ← Int32.toInt_inj, reduceIte, Nat.reduceEqDiff] at *
  all_goals omega
theorem ob_X4_coverPersons_2_inv2_11 (st : St) (a1 : Int32) (a2 : Int32) (n_2 : Nat) (x3_2 : Int32) (hok : okC st) (hi0_2 : 0 ≤ x3_2.toInt) (hi1_2 : x3_2.toInt ≤ (st.1 6).toInt) (hi2_2 : (st.1 6).toInt < x3_2.toInt + (n_2 + 1)) (h7_1 : ¬ st.1 6 ≤ x3_2) (h16_3 : ¬ (sp_X4_isOfPersons st x3_2 a1) = 0) (h25_8 : (sp_X4_runsOn st x3_2 a2) = 0) : (st.1 6).toInt < (x3_2 + 1).toInt + n_2 := by
  have z1 := okC_6 hok
  have z2 := (by decide : (0 : Int32).toInt = 0)
  have z3 := (by decide : (1 : Int32).toInt = 1)
  have z4 := (by decide : (6 : Int32).toInt = 6)
  have z5 := inc_I x3_2
  clear h16_3 h25_8 hok
  try simp only [sA_1, sL_1, sI_1, vp_in_iff, Int32.le_iff_toInt_le, Int32.lt_iff_toInt_lt, ← Int32.toInt_inj, reduceIte, Nat.reduceEqDiff] at *
  all_goals omega
theorem ob_X4_coverPersons_2_inv0_12 (st : St) (a1 : Int32) (a2 : Int32) (hok : okC st) : 0 ≤ (0 : Int32).toInt := by
  have z1 := (by decide : (0 : Int32).toInt = 0)
  clear hok
  try simp only [sA_1, sL_1, sI_1, vp_in_iff, Int32.le_iff_toInt_le, Int32.lt_iff_toInt_lt, ← Int32.toInt_inj, reduceIte, Nat.reduceEqDiff] at *
  all_goals omega
theorem ob_X4_coverPersons_2_inv1_13 (st : St) (a1 : Int32) (a2 : Int32) (hok : okC st) : (0 : Int32).toInt ≤ (st.1 6).toInt := by
  have z1 := okC_6 hok
  have z2 := (by decide : (0 : Int32).toInt = 0)
  have z3 := (by decide : (6 : Int32).toInt = 6)
  clear hok
  try simp only [sA_1, sL_1, sI_1, vp_in_iff, Int32.le_iff_toInt_le, Int32.lt_iff_toInt_lt, ← Int32.toInt_inj, reduceIte, Nat.reduceEqDiff] at *
  all_goals omega
theorem ob_X4_coverPersons_2_inv2_14 (st : St) (a1 : Int32) (a2 : Int32) (hok : okC st) : (st.1 6).toInt < (0 : Int32).toInt + ((st.1 6).toInt.toNat + 1) := by
  have z1 := okC_6 hok
  have z2 := (by decide : (0 : Int32).toInt = 0)
  have z3 := (by decide : (1 : Int32).toInt = 1)
  have z4 := (by decide : (6 : Int32).toInt = 6)
  clear hok
  try simp only [sA_1, sL_1, sI_1, vp_in_iff, Int32.le_iff_toInt_le, Int32.lt_iff_toInt_lt, ← Int32.toInt_inj, reduceIte, Nat.reduceEqDiff] at *
  all_goals omega

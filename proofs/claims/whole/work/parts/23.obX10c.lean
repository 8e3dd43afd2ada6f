theorem ob_X10_isCovered_30_zero (st : St) (a1 : Int32) (a2 : Int32) (x3_30 : Int32) (hok : okM st) (hva1 : vp_in a1 100) (hi0_30 : 0 ≤ x3_30.toInt) (hi1_30 : x3_30.toInt ≤ (st.1 4).toInt) (hi2_30 : (st.1 4).toInt < x3_30.toInt + 0) : False := by
  have z1 := okM_4 hok
  have z2 := (by decide : (0 : Int32).toInt = 0)
  have z3 := (by decide : (4 : Int32).toInt = 4)
  have z4 := (by decide : (100 : Int32).toInt = 100)
  clear hok
  try simp only [sA_1, sL_1, sI_1, vp_in_iff, Int32.le_iff_toInt_le, Int32.lt_iff_toInt_lt, ← Int32.toInt_inj, reduceIte, Nat.reduceEqDiff] at *
  all_goals omega
theorem ob_X10_isCovered_42_2 (st : St) (a1 : Int32) (a2 : Int32) (n_30 : Nat) (x3_30 : Int32) (hok : okM st) (hva1 : vp_in a1 100) (hi0_30 : 0 ≤ x3_30.toInt) (hi1_30 : x3_30.toInt ≤ (st.1 4).toInt) (hi2_30 : (st.1 4).toInt < x3_30.toInt + (n_30 + 1)) (h35_1 : ¬ st.1 4 ≤ x3_30) : vp_in x3_30 20 := by
  have z1 := okM_4 hok
  have z2 := (by decide : (0 : Int32).toInt = 0)
  have z3 := (by decide : (1 : Int32).toInt = 1)
  have z4 := (by decide : (4 : Int32).toInt = 4)
  have z5 := (by decide : (20 : Int32).toInt = 20)
  clear hva1 hok
  try simp only [sA_1, sL_1, sI_1, vp_in_iff, Int32.le_iff_toInt_le, Int32.lt_iff_toInt_lt, ← Int32.toInt_inj, reduceIte, Nat.reduceEqDiff] at *
  all_goals omega
theorem ob_X10_isCovered_30_inv0_4 (st : St) (a1 : Int32) (a2 : Int32) (n_30 : Nat) (x3_30 : Int32) (hok : okM st) (hva1 : vp_in a1 100) (hi0_30 : 0 ≤ x3_30.toInt) (hi1_30 : x3_30.toInt ≤ (st.1 4).toInt) (hi2_30 : (st.1 4).toInt < x3_30.toInt + (n_30 + 1)) (h35_1 : ¬ st.1 4 ≤ x3_30) (h45_3 : (sp_X10_dutyCovers st x3_30 a1 a2) = 0) : 0 ≤ (x3_30 + 1).toInt := by
  have z1 := okM_4 hok
  have z2 := (by decide : (0 : Int32).toInt = 0)
  have z3 := (by decide : (1 : Int32).toInt = 1)
  have z4 := (by decide : (4 : Int32).toInt = 4)
  have z5 := inc_I x3_30
  clear hva1 h45_3 hok
  try simp only [sA_1, sL_1, sI_1, vp_in_iff, Int32.le_iff_toInt_le, Int32.lt_iff_toInt_lt, ← Int32.toInt_inj, reduceIte, Nat.reduceEqDiff] at *
  all_goals omega
theorem ob_X10_isCovered_30_inv1_5 (st : St) (a1 : Int32) (a2 : Int32) (n_30 : Nat) (x3_30 : Int32) (hok : okM st) (hva1 : vp_in a1 100) (hi0_30 : 0 ≤ x3_30.toInt) (hi1_30 : x3_30.toInt ≤ (st.1 4).toInt) (hi2_30 : (st.1 4).toInt < x3_30.toInt + (n_30 + 1)) (h35_1 : ¬ st.1 4 ≤ x3_30) (h45_3 : (sp_X10_dutyCovers st x3_30 a1 a2) = 0) : (x3_30 + 1).toInt ≤ (st.1 4).toInt := by
  have z1 := okM_4 hok
  have z2 := (by decide : (0 : Int32).toInt = 0)
  have z3 := (by decide : (1 : Int32).toInt = 1)
  have z4 := (by decide : (4 : Int32).toInt = 4)
  have z5 := inc_I x3_30
  clear hva1 h45_3 hok
  try simp only [sA_1, sL_1, sI_1, vp_in_iff, Int32.le_iff_toInt_le, Int32.lt_iff_toInt_lt, ← Int32.toInt_inj, reduceIte, Nat.reduceEqDiff] at *
  all_goals omega
theorem ob_X10_isCovered_30_inv2_6 (st : St) (a1 : Int32) (a2 : Int32) (n_30 : Nat) (x3_30 : Int32) (hok : okM st) (hva1 : vp_in a1 100) (hi0_30 : 0 ≤ x3_30.toInt) (hi1_30 : x3_30.toInt ≤ (st.1 4).toInt) (hi2_30 : (st.1 4).toInt < x3_30.toInt + (n_30 + 1)) (h35_1 : ¬ st.1 4 ≤ x3_30) (h45_3 : (sp_X10_dutyCovers st x3_30 a1 a2) = 0) : (st.1 4).toInt < (x3_30 + 1).toInt + n_30 := by
  have z1 := okM_4 hok
  have z2 := (by decide : (0 : Int32).toInt = 0)
  have z3 := (by decide : (1 : Int32).toInt = 1)
  have z4 := (by decide : (4 : Int32).toInt = 4)
  have z5 := inc_I x3_30
  clear hva1 h45_3 hok
  try simp only [sA_1, sL_1, sI_1, vp_in_iff, Int32.le_iff_toInt_le, Int32.lt_iff_toInt_lt, ← Int32.toInt_inj, reduceIte, Nat.reduceEqDiff] at *
  all_goals omega
theorem ob_X10_isCovered_2_zero (st : St) (a1 : Int32) (a2 : Int32) (x3_2 : Int32) (hok : okM st) (hva1 : vp_in a1 100) (hi0_2 : 0 ≤ x3_2.toInt) (hi1_2 : x3_2.toInt ≤ (st.1 6).toInt) (hi2_2 : (st.1 6).toInt < x3_2.toInt + 0) : False := by
  have z1 := okM_6 hok
  have z2 := (by decide : (0 : Int32).toInt = 0)
  have z3 := (by decide : (6 : Int32).toInt = 6)
  have z4 := (by decide : (100 : Int32).toInt = 100)
  clear hok
  try simp only [sA_1, sL_1, sI_1, vp_in_iff, Int32.le_iff_toInt_le, Int32.lt_iff_toInt_lt, ← Int32.toInt_inj, reduceIte, Nat.reduceEqDiff] at *
  all_goals omega
theorem ob_X10_isCovered_30_inv0_8 (st : St) (a1 : Int32) (a2 : Int32) (n_2 : Nat) (x3_2 : Int32) (hok : okM st) (hva1 : vp_in a1 100) (hi0_2 : 0 ≤ x3_2.toInt) (hi1_2 : x3_2.toInt ≤ (st.1 6).toInt) (hi2_2 : (st.1 6).toInt < x3_2.toInt + (n_2 + 1)) (h7_7 : st.1 6 ≤ x3_2) : 0 ≤ (0 : Int32).toInt := by
  have z1 := (by decide : (0 : Int32).toInt = 0)
  clear hva1 hi0_2 hi1_2 hi2_2 h7_7 hok
  try simp only [sA_1, sL_1, sI_1, vp_in_iff, Int32.le_iff_toInt_le, Int32.lt_iff_toInt_lt, ← Int32.toInt_inj, reduceIte, Nat.reduceEqDiff] at *
  all_goals omega
theorem ob_X10_isCovered_30_inv1_9 (st : St) (a1 : Int32) (a2 : Int32) (n_2 : Nat) (x3_2 : Int32) (hok : okM st) (hva1 : vp_in a1 100) (hi0_2 : 0 ≤ x3_2.toInt) (hi1_2 : x3_2.toInt ≤ (st.1 6).toInt) (hi2_2 : (st.1 6).toInt < x3_2.toInt + (n_2 + 1)) (h7_7 : st.1 6 ≤ x3_2) : (0 : Int32).toInt ≤ (st.1 4).toInt := by
  have z1 := okM_4 hok
  have z2 := (by decide : (0 : Int32).toInt = 0)
  have z3 := (by decide : (4 : Int32).toInt = 4)
  clear hva1 hi0_2 hi1_2 hi2_2 h7_7 hok
  try simp only [sA_1, sL_1, sI_1, vp_in_iff, Int32.le_iff_toInt_le, Int32.lt_iff_toInt_lt, ← Int32.toInt_inj, reduceIte, Nat.reduceEqDiff] at *
  all_goals omega
theorem ob_X10_isCovered_30_inv2_10 (st : St) (a1 : Int32) (a2 : Int32) (n_2 : Nat) (x3_2 : Int32) (hok : okM st) (hva1 : vp_in a1 100) (hi0_2 : 0 ≤ x3_2.toInt) (hi1_2 : x3_2.toInt ≤ (st.1 6).toInt) (hi2_2 : (st.1 6).toInt < x3_2.toInt + (n_2 + 1)) (h7_7 : st.1 6 ≤ x3_2) : (st.1 4).toInt < (0 : Int32).toInt + ((st.1 4).toInt.toNat + 1) := by
  have z1 := okM_4 hok
  have z2 := (by decide : (0 : Int32).toInt = 0)
  have z3 := (by decide : (1 : Int32).toInt = 1)
  have z4 := (by decide : (4 : Int32).toInt = 4)
  clear hva1 hi0_2 hi1_2 hi2_2 h7_7 hok
  try simp only [sA_1, sL_1, sI_1, vp_in_iff, Int32.le_iff_toInt_le, Int32.lt_iff_toInt_lt, ← Int32.toInt_inj, reduceIte, Nat.reduceEqDiff] at *
  all_goals omega
theorem ob_X10_isCovered_14_11 (st : St) (a1 : Int32) (a2 : Int32) (n_2 : Nat) (x3_2 : Int32) (hok : okM st) (hva1 : vp_in a1 100) (hi0_2 : 0 ≤ x3_2.toInt) (hi1_2 : x3_2.toInt ≤ (st.1 6).toInt) (hi2_2 : (st.1 6).toInt < x3_2.toInt + (n_2 + 1)) (h7_7 : ¬ st.1 6 ≤ x3_2) : vp_in x3_2 30 := by
  have z1 := okM_6 hok
  have z2 := (by decide : (0 : Int32).toInt = 0)
  have z3 := (by decide : (1 : Int32).toInt = 1)
  have z4 := (by decide : (6 : Int32).toInt = 6)
  have z5 := (by decide : (30 : Int32).toInt = 30)
  clear hva1 hok
  try simp only [sA_1, sL_1, sI_1, vp_in_iff, Int32.le_iff_toInt_le, Int32.lt_iff_toInt_lt, ← Int32.toInt_inj, reduceIte, Nat.reduceEqDiff] at *
  all_goals omega
theorem ob_X10_isCovered_2_inv0_13 (st : St) (a1 : Int32) (a2 : Int32) (n_2 : Nat) (x3_2 : Int32) (hok : okM st) (hva1 : vp_in a1 100) (hi0_2 : 0 ≤ x3_2.toInt) (hi1_2 : x3_2.toInt ≤ (st.1 6).toInt) (hi2_2 : (st.1 6).toInt < x3_2.toInt + (n_2 + 1)) (h7_7 : ¬ st.1 6 ≤ x3_2) (h17_12 : (sp_X10_holdCovers st x3_2 a1 a2) = 0) : 0 ≤ (x3_2 + 1).toInt := by
  have z1 := okM_6 hok
  have z2 := (by decide : (0 : Int32).toInt = 0)
  have z3 := (by decide : (1 : Int32).toInt = 1)
  have z4 := (by decide : (6 : Int32).toInt = 6)
  have z5 := inc_I x3_2
  clear hva1 h17_12 hok
  try simp only [sA_1, sL_1, sI_1, vp_in_iff, Int32.le_iff_toInt_le, Int32.lt_iff_toInt_lt, ← Int32.toInt_inj, reduceIte, Nat.reduceEqDiff] at *
  all_goals omega
theorem ob_X10_isCovered_2_inv1_14 (st : St) (a1 : Int32) (a2 : Int32) (n_2 : Nat) (x3_2 : Int32) (hok : okM st) (hva1 : vp_in a1 100) (hi0_2 : 0 ≤ x3_2.toInt) (hi1_2 : x3_2.toInt ≤ (st.1 6).toInt) (hi2_2 : (st.1 6).toInt < x3_2.toInt + (n_2 + 1)) (h7_7 : ¬ st.1 6 ≤ x3_2) (h17_12 : (sp_X10_holdCovers st x3_2 a1 a2) = 0) : (x3_2 + 1).toInt ≤ (st.1 6).toInt := by
  have z1 := okM_6 hok
  have z2 := (by decide : (0 : Int32).toInt = 0)
  have z3 := (by decide : (1 : Int32).toInt = 1)
  have z4 := (by decide : (6 : Int32).toInt = 6)
  have z5 := inc_I x3_2
  clear hva1 h17_12 hok
  try simp only [sA_1, sL_1, sI_1, vp_in_iff, Int32.le_iff_toInt_le, Int32.lt_iff_toInt_lt, ← Int32.toInt_inj, reduceIte, Nat.reduceEqDiff] at *
  all_goals omega
theorem ob_X10_isCovered_2_inv2_15 (st : St) (a1 : Int32) (a2 : Int32) (n_2 : Nat) (x3_2 : Int32) (hok : okM st) (hva1 : vp_in a1 100) (hi0_2 : 0 ≤ x3_2.toInt) (hi1_2 : x3_2.toInt ≤ (st.1 6).toInt) (hi2_2 : (st.1 6).toInt < x3_2.toInt + (n_2 + 1)) (h7_7 : ¬ st.1 6 ≤ x3_2) (h17_12 : (sp_X10_holdCovers st x3_2 a1 a2) = 0) : (st.1 6).toInt < (x3_2 + 1).toInt + n_2 := by
  have z1 := okM_6 hok
  have z2 := (by decide : (0 : Int32).toInt = 0)
  have z3 := (by decide : (1 : Int32).toInt = 1)
  have z4 := (by decide : (6 : Int32).toInt = 6)
  have z5 := inc_I x3_2
  clear hva1 h17_12 hok
  try simp only [sA_1, sL_1, sI_1, vp_in_iff, Int32.le_iff_toInt_le, Int32.lt_iff_toInt_lt, ← Int32.toInt_inj, reduceIte, Nat.reduceEqDiff] at *
  all_goals omega
theorem ob_X10_isCovered_2_inv0_16 (st : St) (a1 : Int32) (a2 : Int32) (hok : okM st) (hva1 : vp_in a1 100) : 0 ≤ (0 : Int32).toInt := by
  have z1 := (by decide : (0 : Int32).toInt = 0)
  clear hva1 hok
  try simp only [sA_1, sL_1, sI_1, vp_in_iff, Int32.le_iff_toInt_le, Int32.lt_iff_toInt_lt, ← Int32.toInt_inj, reduceIte, Nat.reduceEqDiff] at *
  all_goals omega
theorem ob_X10_isCovered_2_inv1_17 (st : St) (a1 : Int32) (a2 : Int32) (hok : okM st) (hva1 : vp_in a1 100) : (0 : Int32).toInt ≤ (st.1 6).toInt := by
  have z1 := okM_6 hok
  have z2 := (by decide : (0 : Int32).toInt = 0)
  have z3 := (by decide : (6 : Int32).toInt = 6)
  clear hva1 hok
  try simp only [sA_1, sL_1, sI_1, vp_in_iff, Int32.le_iff_toInt_le, Int32.lt_iff_toInt_lt, ← Int32.toInt_inj, reduceIte, Nat.reduceEqDiff] at *
  all_goals omega
theorem ob_X10_isCovered_2_inv2_18 (st : St) (a1 : Int32) (a2 : Int32) (hok : okM st) (hva1 : vp_in a1 100) : (st.1 6).toInt < (0 : Int32).toInt + ((st.1 6).toInt.toNat + 1) := by
  have z1 := okM_6 hok
  have z2 := (by decide : (0 : Int32).toInt = 0)
  have z3 := (by decide : (1 : Int32).toInt = 1)
  have z4 := (by decide : (6 : Int32).toInt = 6)
  clear hva1 hok
  try simp only [sA_1, sL_1, sI_1, vp_in_iff, Int32.le_iff_toInt_le, Int32.lt_iff_toInt_lt, ← Int32.toInt_inj, reduceIte, Nat.reduceEqDiff] at *
  all_goals omega
theorem ob_X10_keep_52_zero (st : St) (a1 : Int32) (st_52 : St) (x2_52 : Int32) (hok : okM st) (hi0_52 : -1 ≤ x2_52.toInt) (hi1_52 : x2_52.toInt < 100) (hi2_52 : x2_52.toInt + 1 < 0) (hi3_52 : okM st_52) : False := by
  have z1 := (by decide : (0 : Int32).toInt = 0)
  have z2 := (by decide : (1 : Int32).toInt = 1)
  have z3 := (by decide : (100 : Int32).toInt = 100)
  have z4 := (by decide : (-1 : Int32).toInt = -1)
  clear hok hi3_52
  try simp only [sA_1, sL_1, sI_1, vp_in_iff, Int32.le_iff_toInt_le, Int32.lt_iff_toInt_lt, ← Int32.toInt_inj, reduceIte, Nat.reduceEqDiff] at *
  all_goals omega
theorem ob_X10_keep_61_2 (st : St) (a1 : Int32) (n_52 : Nat) (st_52 : St) (x2_52 : Int32) (hok : okM st) (hi0_52 : -1 ≤ x2_52.toInt) (hi1_52 : x2_52.toInt < 100) (hi2_52 : x2_52.toInt + 1 < (n_52 + 1)) (hi3_52 : okM st_52) (h53_1 : ¬ x2_52 < 0) : vp_in x2_52 100 := by
  have z1 := (by decide : (0 : Int32).toInt = 0)
  have z2 := (by decide : (1 : Int32).toInt = 1)
  have z3 := (by decide : (100 : Int32).toInt = 100)
  have z4 := (by decide : (-1 : Int32).toInt = -1)
  clear hok hi3_52
  try simp only [sA_1, sL_1, sI_1, vp_in_iff, Int32.le_iff_toInt_le, Int32.lt_iff_toInt_lt, ← Int32.toInt_inj, reduceIte, Nat.reduceEqDiff] at *
  all_goals omega
theorem ob_X10_keep_52_inv0_4 (st : St) (a1 : Int32) (n_52 : Nat) (st_52 : St) (x2_52 : Int32) (hok : okM st) (hi0_52 : -1 ≤ x2_52.toInt) (hi1_52 : x2_52.toInt < 100) (hi2_52 : x2_52.toInt + 1 < (n_52 + 1)) (hi3_52 : okM st_52) (h53_1 : ¬ x2_52 < 0) (h62_3 : st_52.2.1 27 x2_52.toNatClampNeg = 0) : -1 ≤ (x2_52 + (-1)).toInt := by
  have z1 := (by decide : (0 : Int32).toInt = 0)
  have z2 := (by decide : (1 : Int32).toInt = 1)
  have z3 := (by decide : (27 : Int32).toInt = 27)
  have z4 := (by decide : (100 : Int32).toInt = 100)
  have z5 := (by decide : (-1 : Int32).toInt = -1)
  have z6 := dec_I x2_52
  clear hok hi3_52
  try simp only [sA_1, sL_1, sI_1, vp_in_iff, Int32.le_iff_toInt_le, Int32.lt_iff_toInt_lt, ← Int32.toInt_inj, reduceIte, Nat.reduceEqDiff] at *
  all_goals omega
theorem ob_X10_keep_52_inv1_5 (st : St) (a1 : Int32) (n_52 : Nat) (st_52 : St) (x2_52 : Int32) (hok : okM st) (hi0_52 : -1 ≤ x2_52.toInt) (hi1_52 : x2_52.toInt < 100) (hi2_52 : x2_52.toInt + 1 < (n_52 + 1)) (hi3_52 : okM st_52) (h53_1 : ¬ x2_52 < 0) (h62_3 : st_52.2.1 27 x2_52.toNatClampNeg = 0) : (x2_52 + (-1)).toInt < 100 := by
  have z1 := (by decide : (0 : Int32).toInt = 0)
  have z2 := (by decide : (1 : Int32).toInt = 1)
  have z3 := (by decide : (27 : Int32).toInt = 27)
  have z4 := (by decide : (100 : Int32).toInt = 100)
  have z5 := (by decide : (-1 : Int32).toInt = -1)
  have z6 := dec_I x2_52
  clear hok hi3_52
  try simp only [sA_1, sL_1, sI_1, vp_in_iff, Int32.le_iff_toInt_le, Int32.lt_iff_toInt_lt, ← Int32.toInt_inj, reduceIte, Nat.reduceEqDiff] at *
  all_goals omega
theorem ob_X10_keep_52_inv2_6 (st : St) (a1 : Int32) (n_52 : Nat) (st_52 : St) (x2_52 : Int32) (hok : okM st) (hi0_52 : -1 ≤ x2_52.toInt) (hi1_52 : x2_52.toInt < 100) (hi2_52 : x2_52.toInt + 1 < (n_52 + 1)) (hi3_52 : okM st_52) (h53_1 : ¬ x2_52 < 0) (h62_3 : st_52.2.1 27 x2_52.toNatClampNeg = 0) : (x2_52 + (-1)).toInt + 1 < n_52 := by
  have z1 := (by decide : (0 : Int32).toInt = 0)
  have z2 := (by decide : (1 : Int32).toInt = 1)
  have z3 := (by decide : (27 : Int32).toInt = 27)
  have z4 := (by decide : (100 : Int32).toInt = 100)
  have z5 := (by decide : (-1 : Int32).toInt = -1)
  have z6 := dec_I x2_52
  clear hok hi3_52
  try simp only [sA_1, sL_1, sI_1, vp_in_iff, Int32.le_iff_toInt_le, Int32.lt_iff_toInt_lt, ← Int32.toInt_inj, reduceIte, Nat.reduceEqDiff] at *
  all_goals omega
theorem ob_X10_keep_52_inv3_7 (st : St) (a1 : Int32) (n_52 : Nat) (st_52 : St) (x2_52 : Int32) (hok : okM st) (hi0_52 : -1 ≤ x2_52.toInt) (hi1_52 : x2_52.toInt < 100) (hi2_52 : x2_52.toInt + 1 < (n_52 + 1)) (hi3_52 : okM st_52) (h53_1 : ¬ x2_52 < 0) (h62_3 : st_52.2.1 27 x2_52.toNatClampNeg = 0) : okM st_52 := by
  exact hi3_52
theorem ob_X10_keep_70_8 (st : St) (a1 : Int32) (n_52 : Nat) (st_52 : St) (x2_52 : Int32) (hok : okM st) (hi0_52 : -1 ≤ x2_52.toInt) (hi1_52 : x2_52.toInt < 100) (hi2_52 : x2_52.toInt + 1 < (n_52 + 1)) (hi3_52 : okM st_52) (h53_1 : ¬ x2_52 < 0) (h62_3 : ¬ st_52.2.1 27 x2_52.toNatClampNeg = 0) : vp_in x2_52 100 := by
  have z1 := (by decide : (0 : Int32).toInt = 0)
  have z2 := (by decide : (1 : Int32).toInt = 1)
  have z3 := (by decide : (27 : Int32).toInt = 27)
  have z4 := (by decide : (100 : Int32).toInt = 100)
  have z5 := (by decide : (-1 : Int32).toInt = -1)
  clear hok hi3_52
  try simp only [sA_1, sL_1, sI_1, vp_in_iff, Int32.le_iff_toInt_le, Int32.lt_iff_toInt_lt, ← Int32.toInt_inj, reduceIte, Nat.reduceEqDiff] at *
  all_goals omega
theorem ob_X10_keep_87_10 (st : St) (a1 : Int32) (n_52 : Nat) (st_52 : St) (x2_52 : Int32) (hok : okM st) (hi0_52 : -1 ≤ x2_52.toInt) (hi1_52 : x2_52.toInt < 100) (hi2_52 : x2_52.toInt + 1 < (n_52 + 1)) (hi3_52 : okM st_52) (h53_1 : ¬ x2_52 < 0) (h62_3 : ¬ st_52.2.1 27 x2_52.toNatClampNeg = 0) (h72_9 : ¬ st_52.2.1 23 x2_52.toNatClampNeg = (-1)) : vp_in x2_52 100 := by
  have z1 := (by decide : (0 : Int32).toInt = 0)
  have z2 := (by decide : (1 : Int32).toInt = 1)
  have z3 := (by decide : (23 : Int32).toInt = 23)
  have z4 := (by decide : (27 : Int32).toInt = 27)
  have z5 := (by decide : (100 : Int32).toInt = 100)
  have z6 := (by decide : (-1 : Int32).toInt = -1)
  clear hok hi3_52
  try simp only [sA_1, sL_1, sI_1, vp_in_iff, Int32.le_iff_toInt_le, Int32.lt_iff_toInt_lt, ← Int32.toInt_inj, reduceIte, Nat.reduceEqDiff] at *
  all_goals omega
theorem ob_X10_keep_97_11 (st : St) (a1 : Int32) (n_52 : Nat) (st_52 : St) (x2_52 : Int32) (hok : okM st) (hi0_52 : -1 ≤ x2_52.toInt) (hi1_52 : x2_52.toInt < 100) (hi2_52 : x2_52.toInt + 1 < (n_52 + 1)) (hi3_52 : okM st_52) (h53_1 : ¬ x2_52 < 0) (h62_3 : ¬ st_52.2.1 27 x2_52.toNatClampNeg = 0) (h72_9 : ¬ st_52.2.1 23 x2_52.toNatClampNeg = (-1)) : vp_in x2_52 100 := by
  have z1 := (by decide : (0 : Int32).toInt = 0)
  have z2 := (by decide : (1 : Int32).toInt = 1)
  have z3 := (by decide : (23 : Int32).toInt = 23)
  have z4 := (by decide : (27 : Int32).toInt = 27)
  have z5 := (by decide : (100 : Int32).toInt = 100)
  have z6 := (by decide : (-1 : Int32).toInt = -1)
  clear hok hi3_52
  try simp only [sA_1, sL_1, sI_1, vp_in_iff, Int32.le_iff_toInt_le, Int32.lt_iff_toInt_lt, ← Int32.toInt_inj, reduceIte, Nat.reduceEqDiff] at *
  all_goals omega
theorem ob_X10_keep_98_12 (st : St) (a1 : Int32) (n_52 : Nat) (st_52 : St) (x2_52 : Int32) (hok : okM st) (hi0_52 : -1 ≤ x2_52.toInt) (hi1_52 : x2_52.toInt < 100) (hi2_52 : x2_52.toInt + 1 < (n_52 + 1)) (hi3_52 : okM st_52) (h53_1 : ¬ x2_52 < 0) (h62_3 : ¬ st_52.2.1 27 x2_52.toNatClampNeg = 0) (h72_9 : ¬ st_52.2.1 23 x2_52.toNatClampNeg = (-1)) : vp_in (st_52.2.1 24 x2_52.toNatClampNeg) 100 := by
  exact okM_fst hi3_52 _
theorem ob_X10_keep_99_13 (st : St) (a1 : Int32) (n_52 : Nat) (st_52 : St) (x2_52 : Int32) (hok : okM st) (hi0_52 : -1 ≤ x2_52.toInt) (hi1_52 : x2_52.toInt < 100) (hi2_52 : x2_52.toInt + 1 < (n_52 + 1)) (hi3_52 : okM st_52) (h53_1 : ¬ x2_52 < 0) (h62_3 : ¬ st_52.2.1 27 x2_52.toNatClampNeg = 0) (h72_9 : ¬ st_52.2.1 23 x2_52.toNatClampNeg = (-1)) : vp_in (st_52.2.1 24 x2_52.toNatClampNeg) 100 := by
  exact okM_fst hi3_52 _
theorem ob_X10_keep_109_14 (st : St) (a1 : Int32) (n_52 : Nat) (st_52 : St) (x2_52 : Int32) (hok : okM st) (hi0_52 : -1 ≤ x2_52.toInt) (hi1_52 : x2_52.toInt < 100) (hi2_52 : x2_52.toInt + 1 < (n_52 + 1)) (hi3_52 : okM st_52) (h53_1 : ¬ x2_52 < 0) (h62_3 : ¬ st_52.2.1 27 x2_52.toNatClampNeg = 0) (h72_9 : ¬ st_52.2.1 23 x2_52.toNatClampNeg = (-1)) : vp_in x2_52 100 := by
  have z1 := (by decide : (0 : Int32).toInt = 0)
  have z2 := (by decide : (1 : Int32).toInt = 1)
  have z3 := (by decide : (23 : Int32).toInt = 23)
  have z4 := (by decide : (27 : Int32).toInt = 27)
  have z5 := (by decide : (100 : Int32).toInt = 100)
  have z6 := (by decide : (-1 : Int32).toInt = -1)
  clear hok hi3_52
  try simp only [sA_1, sL_1, sI_1, vp_in_iff, Int32.le_iff_toInt_le, Int32.lt_iff_toInt_lt, ← Int32.toInt_inj, reduceIte, Nat.reduceEqDiff] at *
  all_goals omega
theorem ob_X10_keep_119_15 (st : St) (a1 : Int32) (n_52 : Nat) (st_52 : St) (x2_52 : Int32) (hok : okM st) (hi0_52 : -1 ≤ x2_52.toInt) (hi1_52 : x2_52.toInt < 100) (hi2_52 : x2_52.toInt + 1 < (n_52 + 1)) (hi3_52 : okM st_52) (h53_1 : ¬ x2_52 < 0) (h62_3 : ¬ st_52.2.1 27 x2_52.toNatClampNeg = 0) (h72_9 : ¬ st_52.2.1 23 x2_52.toNatClampNeg = (-1)) : vp_in x2_52 100 := by
  have z1 := (by decide : (0 : Int32).toInt = 0)
  have z2 := (by decide : (1 : Int32).toInt = 1)
  have z3 := (by decide : (23 : Int32).toInt = 23)
  have z4 := (by decide : (27 : Int32).toInt = 27)
  have z5 := (by decide : (100 : Int32).toInt = 100)
  have z6 := (by decide : (-1 : Int32).toInt = -1)
  clear hok hi3_52
  try simp only [sA_1, sL_1, sI_1, vp_in_iff, Int32.le_iff_toInt_le, Int32.lt_iff_toInt_lt, ← Int32.toInt_inj, reduceIte, Nat.reduceEqDiff] at *
  all_goals omega
theorem ob_X10_keep_120_16 (st : St) (a1 : Int32) (n_52 : Nat) (st_52 : St) (x2_52 : Int32) (hok : okM st) (hi0_52 : -1 ≤ x2_52.toInt) (hi1_52 : x2_52.toInt < 100) (hi2_52 : x2_52.toInt + 1 < (n_52 + 1)) (hi3_52 : okM st_52) (h53_1 : ¬ x2_52 < 0) (h62_3 : ¬ st_52.2.1 27 x2_52.toNatClampNeg = 0) (h72_9 : ¬ st_52.2.1 23 x2_52.toNatClampNeg = (-1)) : vp_in (st_52.2.1 25 x2_52.toNatClampNeg) 100 := by
  exact okM_snd hi3_52 _
theorem ob_X10_keep_121_17 (st : St) (a1 : Int32) (n_52 : Nat) (st_52 : St) (x2_52 : Int32) (hok : okM st) (hi0_52 : -1 ≤ x2_52.toInt) (hi1_52 : x2_52.toInt < 100) (hi2_52 : x2_52.toInt + 1 < (n_52 + 1)) (hi3_52 : okM st_52) (h53_1 : ¬ x2_52 < 0) (h62_3 : ¬ st_52.2.1 27 x2_52.toNatClampNeg = 0) (h72_9 : ¬ st_52.2.1 23 x2_52.toNatClampNeg = (-1)) : vp_in (st_52.2.1 25 x2_52.toNatClampNeg) 100 := by
  exact okM_snd hi3_52 _
theorem ob_X10_keep_52_inv0_18 (st : St) (a1 : Int32) (n_52 : Nat) (st_52 : St) (x2_52 : Int32) (hok : okM st) (hi0_52 : -1 ≤ x2_52.toInt) (hi1_52 : x2_52.toInt < 100) (hi2_52 : x2_52.toInt + 1 < (n_52 + 1)) (hi3_52 : okM st_52) (h53_1 : ¬ x2_52 < 0) (h62_3 : ¬ st_52.2.1 27 x2_52.toNatClampNeg = 0) (h72_9 : ¬ st_52.2.1 23 x2_52.toNatClampNeg = (-1)) : -1 ≤ (x2_52 + (-1)).toInt := by
  have z1 := (by decide : (0 : Int32).toInt = 0)
  have z2 := (by decide : (1 : Int32).toInt = 1)
  have z3 := (by decide : (23 : Int32).toInt = 23)
  have z4 := (by decide : (27 : Int32).toInt = 27)
  have z5 := (by decide : (100 : Int32).toInt = 100)
  have z6 := (by decide : (-1 : Int32).toInt = -1)
  have z7 := dec_I x2_52
  clear hok hi3_52
  try simp only [sA_1, sL_1, sI_1, vp_in_iff, Int32.le_iff_toInt_le, Int32.lt_iff_toInt_lt, ← Int32.toInt_inj, reduceIte, Nat.reduceEqDiff] at *
  all_goals omega
theorem ob_X10_keep_52_inv1_19 (st : St) (a1 : Int32) (n_52 : Nat) (st_52 : St) (x2_52 : Int32) (hok : okM st) (hi0_52 : -1 ≤ x2_52.toInt) (hi1_52 : x2_52.toInt < 100) (hi2_52 : x2_52.toInt + 1 < (n_52 + 1)) (hi3_52 : okM st_52) (h53_1 : ¬ x2_52 < 0) (h62_3 : ¬ st_52.2.1 27 x2_52.toNatClampNeg = 0) (h72_9 : ¬ st_52.2.1 23 x2_52.toNatClampNeg = (-1)) : (x2_52 + (-1)).toInt < 100 := by
  have z1 := (by decide : (0 : Int32).toInt = 0)
  have z2 := (by decide : (1 : Int32).toInt = 1)
  have z3 := (by decide : (23 : Int32).toInt = 23)
  have z4 := (by decide : (27 : Int32).toInt = 27)
  have z5 := (by decide : (100 : Int32).toInt = 100)
  have z6 := (by decide : (-1 : Int32).toInt = -1)
  have z7 := dec_I x2_52
  clear hok hi3_52
  try simp only [sA_1, sL_1, sI_1, vp_in_iff, Int32.le_iff_toInt_le, Int32.lt_iff_toInt_lt, ← Int32.toInt_inj, reduceIte, Nat.reduceEqDiff] at *
  all_goals omega
theorem ob_X10_keep_52_inv2_20 (st : St) (a1 : Int32) (n_52 : Nat) (st_52 : St) (x2_52 : Int32) (hok : okM st) (hi0_52 : -1 ≤ x2_52.toInt) (hi1_52 : x2_52.toInt < 100) (hi2_52 : x2_52.toInt + 1 < (n_52 + 1)) (hi3_52 : okM st_52) (h53_1 : ¬ x2_52 < 0) (h62_3 : ¬ st_52.2.1 27 x2_52.toNatClampNeg = 0) (h72_9 : ¬ st_52.2.1 23 x2_52.toNatClampNeg = (-1)) : (x2_52 + (-1)).toInt + 1 < n_52 := by
  have z1 := (by decide : (0 : Int32).toInt = 0)
  have z2 := (by decide : (1 : Int32).toInt = 1)
  have z3 := (by decide : (23 : Int32).toInt = 23)
  have z4 := (by decide : (27 : Int32).toInt = 27)
  have z5 := (by decide : (100 : Int32).toInt = 100)
  have z6 := (by decide : (-1 : Int32).toInt = -1)
  have z7 := dec_I x2_52
  clear hok hi3_52
  try simp only [sA_1, sL_1, sI_1, vp_in_iff, Int32.le_iff_toInt_le, Int32.lt_iff_toInt_lt, ← Int32.toInt_inj, reduceIte, Nat.reduceEqDiff] at *
  all_goals omega
theorem ob_X10_keep_52_inv3_21 (st : St) (a1 : Int32) (n_52 : Nat) (st_52 : St) (x2_52 : Int32) (hok : okM st) (hi0_52 : -1 ≤ x2_52.toInt) (hi1_52 : x2_52.toInt < 100) (hi2_52 : x2_52.toInt + 1 < (n_52 + 1)) (hi3_52 : okM st_52) (h53_1 : ¬ x2_52 < 0) (h62_3 : ¬ st_52.2.1 27 x2_52.toNatClampNeg = 0) (h72_9 : ¬ st_52.2.1 23 x2_52.toNatClampNeg = (-1)) : okM (sA (sA st_52 27 ((st_52.2.1 24 x2_52.toNatClampNeg).toNatClampNeg) (vp_nar .boolean (st_52.2.1 26 (st_52.2.1 24 x2_52.toNatClampNeg).toNatClampNeg))) 27 ((st_52.2.1 25 x2_52.toNatClampNeg).toNatClampNeg) (vp_nar .boolean (st_52.2.1 26 (st_52.2.1 25 x2_52.toNatClampNeg).toNatClampNeg))) := by
  exact hi3_52
theorem ob_X10_keep_52_inv0_22 (st : St) (a1 : Int32) (n_52 : Nat) (st_52 : St) (x2_52 : Int32) (hok : okM st) (hi0_52 : -1 ≤ x2_52.toInt) (hi1_52 : x2_52.toInt < 100) (hi2_52 : x2_52.toInt + 1 < (n_52 + 1)) (hi3_52 : okM st_52) (h53_1 : ¬ x2_52 < 0) (h62_3 : ¬ st_52.2.1 27 x2_52.toNatClampNeg = 0) (h72_9 : st_52.2.1 23 x2_52.toNatClampNeg = (-1)) : -1 ≤ (x2_52 + (-1)).toInt := by
  have z1 := (by decide : (0 : Int32).toInt = 0)
  have z2 := (by decide : (1 : Int32).toInt = 1)
  have z3 := (by decide : (23 : Int32).toInt = 23)
  have z4 := (by decide : (27 : Int32).toInt = 27)
  have z5 := (by decide : (100 : Int32).toInt = 100)
  have z6 := (by decide : (-1 : Int32).toInt = -1)
  have z7 := dec_I x2_52
  clear hok hi3_52
  try simp only [sA_1, sL_1, sI_1, vp_in_iff, Int32.le_iff_toInt_le, Int32.lt_iff_toInt_lt, ← Int32.toInt_inj, reduceIte, Nat.reduceEqDiff] at *
  all_goals omega
theorem ob_X10_keep_52_inv1_23 (st : St) (a1 : Int32) (n_52 : Nat) (st_52 : St) (x2_52 : Int32) (hok : okM st) (hi0_52 : -1 ≤ x2_52.toInt) (hi1_52 : x2_52.toInt < 100) (hi2_52 : x2_52.toInt + 1 < (n_52 + 1)) (hi3_52 : okM st_52) (h53_1 : ¬ x2_52 < 0) (h62_3 : ¬ st_52.2.1 27 x2_52.toNatClampNeg = 0) (h72_9 : st_52.2.1 23 x2_52.toNatClampNeg = (-1)) : (x2_52 + (-1)).toInt < 100 := by
  have z1 := (by decide : (0 : Int32).toInt = 0)
  have z2 := (by decide : (1 : Int32).toInt = 1)
  have z3 := (by decide : (23 : Int32).toInt = 23)
  have z4 := (by decide : (27 : Int32).toInt = 27)
  have z5 := (by decide : (100 : Int32).toInt = 100)
  have z6 := (by decide : (-1 : Int32).toInt = -1)
  have z7 := dec_I x2_52
  clear hok hi3_52
  try simp only [sA_1, sL_1, sI_1, vp_in_iff, Int32.le_iff_toInt_le, Int32.lt_iff_toInt_lt, ← Int32.toInt_inj, reduceIte, Nat.reduceEqDiff] at *
  all_goals omega
theorem ob_X10_keep_52_inv2_24 (st : St) (a1 : Int32) (n_52 : Nat) (st_52 : St) (x2_52 : Int32) (hok : okM st) (hi0_52 : -1 ≤ x2_52.toInt) (hi1_52 : x2_52.toInt < 100) (hi2_52 : x2_52.toInt + 1 < (n_52 + 1)) (hi3_52 : okM st_52) (h53_1 : ¬ x2_52 < 0) (h62_3 : ¬ st_52.2.1 27 x2_52.toNatClampNeg = 0) (h72_9 : st_52.2.1 23 x2_52.toNatClampNeg = (-1)) : (x2_52 + (-1)).toInt + 1 < n_52 := by
  have z1 := (by decide : (0 : Int32).toInt = 0)
  have z2 := (by decide : (1 : Int32).toInt = 1)
  have z3 := (by decide : (23 : Int32).toInt = 23)
  have z4 := (by decide : (27 : Int32).toInt = 27)
  have z5 := (by decide : (100 : Int32).toInt = 100)
  have z6 := (by decide : (-1 : Int32).toInt = -1)
  have z7 := dec_I x2_52
  clear hok hi3_52
  try simp only [sA_1, sL_1, sI_1, vp_in_iff, Int32.le_iff_toInt_le, Int32.lt_iff_toInt_lt, ← Int32.toInt_inj, reduceIte, Nat.reduceEqDiff] at *
  all_goals omega
theorem ob_X10_keep_52_inv3_25 (st : St) (a1 : Int32) (n_52 : Nat) (st_52 : St) (x2_52 : Int32) (hok : okM st) (hi0_52 : -1 ≤ x2_52.toInt) (hi1_52 : x2_52.toInt < 100) (hi2_52 : x2_52.toInt + 1 < (n_52 + 1)) (hi3_52 : okM st_52) (h53_1 : ¬ x2_52 < 0) (h62_3 : ¬ st_52.2.1 27 x2_52.toNatClampNeg = 0) (h72_9 : st_52.2.1 23 x2_52.toNatClampNeg = (-1)) : okM st_52 := by
  exact hi3_52
theorem ob_X10_keep_2_zero (st : St) (a1 : Int32) (st_2 : St) (x2_2 : Int32) (hok : okM st) (hi0_2 : 0 ≤ x2_2.toInt) (hi1_2 : x2_2.toInt ≤ (st.1 7).toInt) (hi2_2 : (st.1 7).toInt < x2_2.toInt + 0) (hi3_2 : okM st_2) (hi4_2 : (st_2.1 7).toInt = (st.1 7).toInt) : False := by
  have z1 := okM_7 hok
  have z2 := okM_7 hi3_2
  have z3 := (by decide : (0 : Int32).toInt = 0)
  have z4 := (by decide : (7 : Int32).toInt = 7)
  clear hok hi3_2
  try simp only [sA_1, sL_1, sI_1, vp_in_iff, Int32.le_iff_toInt_le, Int32.lt_iff_toInt_lt, ← Int32.toInt_inj, reduceIte, Nat.reduceEqDiff] at *
  all_goals omega
theorem ob_X10_keep_52_inv0_27 (st : St) (a1 : Int32) (n_2 : Nat) (st_2 : St) (x2_2 : Int32) (hok : okM st) (hi0_2 : 0 ≤ x2_2.toInt) (hi1_2 : x2_2.toInt ≤ (st.1 7).toInt) (hi2_2 : (st.1 7).toInt < x2_2.toInt + (n_2 + 1)) (hi3_2 : okM st_2) (hi4_2 : (st_2.1 7).toInt = (st.1 7).toInt) (h7_26 : st_2.1 7 ≤ x2_2) : -1 ≤ ((st_2.1 7) - 1).toInt := by
  have z1 := okM_7 hok
  have z2 := okM_7 hi3_2
  have z3 := (by decide : (1 : Int32).toInt = 1)
  have z4 := (by decide : (7 : Int32).toInt = 7)
  have z5 := (by decide : (-1 : Int32).toInt = -1)
  have z6 := sub_I (st_2.1 7)
  clear hi0_2 hok hi3_2
  try simp only [sA_1, sL_1, sI_1, vp_in_iff, Int32.le_iff_toInt_le, Int32.lt_iff_toInt_lt, ← Int32.toInt_inj, reduceIte, Nat.reduceEqDiff] at *
  all_goals omega
theorem ob_X10_keep_52_inv1_28 (st : St) (a1 : Int32) (n_2 : Nat) (st_2 : St) (x2_2 : Int32) (hok : okM st) (hi0_2 : 0 ≤ x2_2.toInt) (hi1_2 : x2_2.toInt ≤ (st.1 7).toInt) (hi2_2 : (st.1 7).toInt < x2_2.toInt + (n_2 + 1)) (hi3_2 : okM st_2) (hi4_2 : (st_2.1 7).toInt = (st.1 7).toInt) (h7_26 : st_2.1 7 ≤ x2_2) : ((st_2.1 7) - 1).toInt < 100 := by
  have z1 := okM_7 hok
  have z2 := okM_7 hi3_2
  have z3 := (by decide : (1 : Int32).toInt = 1)
  have z4 := (by decide : (7 : Int32).toInt = 7)
  have z5 := (by decide : (100 : Int32).toInt = 100)
  have z6 := sub_I (st_2.1 7)
  clear hi0_2 hok hi3_2
  try simp only [sA_1, sL_1, sI_1, vp_in_iff, Int32.le_iff_toInt_le, Int32.lt_iff_toInt_lt, ← Int32.toInt_inj, reduceIte, Nat.reduceEqDiff] at *
  all_goals omega
theorem ob_X10_keep_52_inv2_29 (st : St) (a1 : Int32) (n_2 : Nat) (st_2 : St) (x2_2 : Int32) (hok : okM st) (hi0_2 : 0 ≤ x2_2.toInt) (hi1_2 : x2_2.toInt ≤ (st.1 7).toInt) (hi2_2 : (st.1 7).toInt < x2_2.toInt + (n_2 + 1)) (hi3_2 : okM st_2) (hi4_2 : (st_2.1 7).toInt = (st.1 7).toInt) (h7_26 : st_2.1 7 ≤ x2_2) : ((st_2.1 7) - 1).toInt + 1 < ((st.1 7).toInt.toNat + 1) := by
  have z1 := okM_7 hok
  have z2 := okM_7 hi3_2
  have z3 := (by decide : (1 : Int32).toInt = 1)
  have z4 := (by decide : (7 : Int32).toInt = 7)
  have z5 := sub_I (st_2.1 7)
  clear hi0_2 hok hi3_2
  try simp only [sA_1, sL_1, sI_1, vp_in_iff, Int32.le_iff_toInt_le, Int32.lt_iff_toInt_lt, ← Int32.toInt_inj, reduceIte, Nat.reduceEqDiff] at *
  all_goals omega
theorem ob_X10_keep_52_inv3_30 (st : St) (a1 : Int32) (n_2 : Nat) (st_2 : St) (x2_2 : Int32) (hok : okM st) (hi0_2 : 0 ≤ x2_2.toInt) (hi1_2 : x2_2.toInt ≤ (st.1 7).toInt) (hi2_2 : (st.1 7).toInt < x2_2.toInt + (n_2 + 1)) (hi3_2 : okM st_2) (hi4_2 : (st_2.1 7).toInt = (st.1 7).toInt) (h7_26 : st_2.1 7 ≤ x2_2) : okM st_2 := by
  exact hi3_2
theorem ob_X10_keep_20_31 (st : St) (a1 : Int32) (n_2 : Nat) (st_2 : St) (x2_2 : Int32) (hok : okM st) (hi0_2 : 0 ≤ x2_2.toInt) (hi1_2 : x2_2.toInt ≤ (st.1 7).toInt) (hi2_2 : (st.1 7).toInt < x2_2.toInt + (n_2 + 1)) (hi3_2 : okM st_2) (hi4_2 : (st_2.1 7).toInt = (st.1 7).toInt) (h7_26 : ¬ st_2.1 7 ≤ x2_2) : vp_in x2_2 100 := by
  have z1 := okM_7 hok
  have z2 := okM_7 hi3_2
  have z3 := (by decide : (0 : Int32).toInt = 0)
  have z4 := (by decide : (1 : Int32).toInt = 1)
  have z5 := (by decide : (7 : Int32).toInt = 7)
  have z6 := (by decide : (100 : Int32).toInt = 100)
  clear hi4_2 hok hi3_2
  try simp only [sA_1, sL_1, sI_1, vp_in_iff, Int32.le_iff_toInt_le, Int32.lt_iff_toInt_lt, ← Int32.toInt_inj, reduceIte, Nat.reduceEqDiff] at *
  all_goals omega
theorem ob_X10_keep_38_33 (st : St) (a1 : Int32) (n_2 : Nat) (st_2 : St) (x2_2 : Int32) (hok : okM st) (hi0_2 : 0 ≤ x2_2.toInt) (hi1_2 : x2_2.toInt ≤ (st.1 7).toInt) (hi2_2 : (st.1 7).toInt < x2_2.toInt + (n_2 + 1)) (hi3_2 : okM st_2) (hi4_2 : (st_2.1 7).toInt = (st.1 7).toInt) (h7_26 : ¬ st_2.1 7 ≤ x2_2) (h21_32 : st_2.2.1 26 x2_2.toNatClampNeg = 0) : vp_in x2_2 100 := by
  have z1 := okM_7 hok
  have z2 := okM_7 hi3_2
  have z3 := (by decide : (0 : Int32).toInt = 0)
  have z4 := (by decide : (1 : Int32).toInt = 1)
  have z5 := (by decide : (7 : Int32).toInt = 7)
  have z6 := (by decide : (26 : Int32).toInt = 26)
  have z7 := (by decide : (100 : Int32).toInt = 100)
  clear hi4_2 hok hi3_2
  try simp only [sA_1, sL_1, sI_1, vp_in_iff, Int32.le_iff_toInt_le, Int32.lt_iff_toInt_lt, ← Int32.toInt_inj, reduceIte, Nat.reduceEqDiff] at *
  all_goals omega
theorem ob_X10_keep_2_inv0_34 (st : St) (a1 : Int32) (n_2 : Nat) (st_2 : St) (x2_2 : Int32) (hok : okM st) (hi0_2 : 0 ≤ x2_2.toInt) (hi1_2 : x2_2.toInt ≤ (st.1 7).toInt) (hi2_2 : (st.1 7).toInt < x2_2.toInt + (n_2 + 1)) (hi3_2 : okM st_2) (hi4_2 : (st_2.1 7).toInt = (st.1 7).toInt) (h7_26 : ¬ st_2.1 7 ≤ x2_2) (h21_32 : st_2.2.1 26 x2_2.toNatClampNeg = 0) : 0 ≤ (x2_2 + 1).toInt := by
  have z1 := okM_7 hok
  have z2 := okM_7 hi3_2
  have z3 := (by decide : (0 : Int32).toInt = 0)
  have z4 := (by decide : (1 : Int32).toInt = 1)
  have z5 := (by decide : (7 : Int32).toInt = 7)
  have z6 := (by decide : (26 : Int32).toInt = 26)
  have z7 := inc_I x2_2
  clear hi4_2 hok hi3_2
  try simp only [sA_1, sL_1, sI_1, vp_in_iff, Int32.le_iff_toInt_le, Int32.lt_iff_toInt_lt, ← Int32.toInt_inj, reduceIte, Nat.reduceEqDiff] at *
  all_goals omega
theorem ob_X10_keep_2_inv1_35 (st : St) (a1 : Int32) (n_2 : Nat) (st_2 : St) (x2_2 : Int32) (hok : okM st) (hi0_2 : 0 ≤ x2_2.toInt) (hi1_2 : x2_2.toInt ≤ (st.1 7).toInt) (hi2_2 : (st.1 7).toInt < x2_2.toInt + (n_2 + 1)) (hi3_2 : okM st_2) (hi4_2 : (st_2.1 7).toInt = (st.1 7).toInt) (h7_26 : ¬ st_2.1 7 ≤ x2_2) (h21_32 : st_2.2.1 26 x2_2.toNatClampNeg = 0) : (x2_2 + 1).toInt ≤ (st.1 7).toInt := by
  have z1 := okM_7 hok
  have z2 := okM_7 hi3_2
  have z3 := (by decide : (0 : Int32).toInt = 0)
  have z4 := (by decide : (1 : Int32).toInt = 1)
  have z5 := (by decide : (7 : Int32).toInt = 7)
  have z6 := (by decide : (26 : Int32).toInt = 26)
  have z7 := inc_I x2_2
  clear hok hi3_2
  try simp only [sA_1, sL_1, sI_1, vp_in_iff, Int32.le_iff_toInt_le, Int32.lt_iff_toInt_lt, ← Int32.toInt_inj, reduceIte, Nat.reduceEqDiff] at *
  all_goals omega
theorem ob_X10_keep_2_inv2_36 (st : St) (a1 : Int32) (n_2 : Nat) (st_2 : St) (x2_2 : Int32) (hok : okM st) (hi0_2 : 0 ≤ x2_2.toInt) (hi1_2 : x2_2.toInt ≤ (st.1 7).toInt) (hi2_2 : (st.1 7).toInt < x2_2.toInt + (n_2 + 1)) (hi3_2 : okM st_2) (hi4_2 : (st_2.1 7).toInt = (st.1 7).toInt) (h7_26 : ¬ st_2.1 7 ≤ x2_2) (h21_32 : st_2.2.1 26 x2_2.toNatClampNeg = 0) : (st.1 7).toInt < (x2_2 + 1).toInt + n_2 := by
  have z1 := okM_7 hok
  have z2 := okM_7 hi3_2
  have z3 := (by decide : (0 : Int32).toInt = 0)
  have z4 := (by decide : (1 : Int32).toInt = 1)
  have z5 := (by decide : (7 : Int32).toInt = 7)
  have z6 := (by decide : (26 : Int32).toInt = 26)
  have z7 := inc_I x2_2
  clear hok hi3_2
  try simp only [sA_1, sL_1, sI_1, vp_in_iff, Int32.le_iff_toInt_le, Int32.lt_iff_toInt_lt, ← Int32.toInt_inj, reduceIte, Nat.reduceEqDiff] at *
  all_goals omega
theorem ob_X10_keep_2_inv3_37 (st : St) (a1 : Int32) (n_2 : Nat) (st_2 : St) (x2_2 : Int32) (hok : okM st) (hi0_2 : 0 ≤ x2_2.toInt) (hi1_2 : x2_2.toInt ≤ (st.1 7).toInt) (hi2_2 : (st.1 7).toInt < x2_2.toInt + (n_2 + 1)) (hi3_2 : okM st_2) (hi4_2 : (st_2.1 7).toInt = (st.1 7).toInt) (h7_26 : ¬ st_2.1 7 ≤ x2_2) (h21_32 : st_2.2.1 26 x2_2.toNatClampNeg = 0) : okM (sA st_2 27 x2_2.toNatClampNeg 0) := by
  exact hi3_2
theorem ob_X10_keep_2_inv4_38 (st : St) (a1 : Int32) (n_2 : Nat) (st_2 : St) (x2_2 : Int32) (hok : okM st) (hi0_2 : 0 ≤ x2_2.toInt) (hi1_2 : x2_2.toInt ≤ (st.1 7).toInt) (hi2_2 : (st.1 7).toInt < x2_2.toInt + (n_2 + 1)) (hi3_2 : okM st_2) (hi4_2 : (st_2.1 7).toInt = (st.1 7).toInt) (h7_26 : ¬ st_2.1 7 ≤ x2_2) (h21_32 : st_2.2.1 26 x2_2.toNatClampNeg = 0) : ((sA st_2 27 x2_2.toNatClampNeg 0).1 7).toInt = (st.1 7).toInt := by
  have z1 := okM_7 hok
  have z2 := okM_7 hi3_2
  have z3 := (by decide : (0 : Int32).toInt = 0)
  have z4 := (by decide : (1 : Int32).toInt = 1)
  have z5 := (by decide : (7 : Int32).toInt = 7)
  have z6 := (by decide : (26 : Int32).toInt = 26)
  have z7 := (by decide : (27 : Int32).toInt = 27)
  clear hok hi3_2
  try simp only [sA_1, sL_1, sI_1, vp_in_iff, Int32.le_iff_toInt_le, Int32.lt_iff_toInt_lt, ← Int32.toInt_inj, reduceIte, Nat.reduceEqDiff] at *
  all_goals omega
theorem ob_X10_keep_27_39 (st : St) (a1 : Int32) (n_2 : Nat) (st_2 : St) (x2_2 : Int32) (hok : okM st) (hi0_2 : 0 ≤ x2_2.toInt) (hi1_2 : x2_2.toInt ≤ (st.1 7).toInt) (hi2_2 : (st.1 7).toInt < x2_2.toInt + (n_2 + 1)) (hi3_2 : okM st_2) (hi4_2 : (st_2.1 7).toInt = (st.1 7).toInt) (h7_26 : ¬ st_2.1 7 ≤ x2_2) (h21_32 : ¬ st_2.2.1 26 x2_2.toNatClampNeg = 0) : vp_in x2_2 100 := by
  have z1 := okM_7 hok
  have z2 := okM_7 hi3_2
  have z3 := (by decide : (0 : Int32).toInt = 0)
  have z4 := (by decide : (1 : Int32).toInt = 1)
  have z5 := (by decide : (7 : Int32).toInt = 7)
  have z6 := (by decide : (26 : Int32).toInt = 26)
  have z7 := (by decide : (100 : Int32).toInt = 100)
  clear hi4_2 hok hi3_2
  try simp only [sA_1, sL_1, sI_1, vp_in_iff, Int32.le_iff_toInt_le, Int32.lt_iff_toInt_lt, ← Int32.toInt_inj, reduceIte, Nat.reduceEqDiff] at *
  all_goals omega
theorem ob_X10_keep_38_41 (st : St) (a1 : Int32) (n_2 : Nat) (st_2 : St) (x2_2 : Int32) (hok : okM st) (hi0_2 : 0 ≤ x2_2.toInt) (hi1_2 : x2_2.toInt ≤ (st.1 7).toInt) (hi2_2 : (st.1 7).toInt < x2_2.toInt + (n_2 + 1)) (hi3_2 : okM st_2) (hi4_2 : (st_2.1 7).toInt = (st.1 7).toInt) (h7_26 : ¬ st_2.1 7 ≤ x2_2) (h21_32 : ¬ st_2.2.1 26 x2_2.toNatClampNeg = 0) (h30_40 : (sp_X10_isCovered st_2 x2_2 a1) = 0) : vp_in x2_2 100 := by
  have z1 := okM_7 hok
  have z2 := okM_7 hi3_2
  have z3 := (by decide : (0 : Int32).toInt = 0)
  have z4 := (by decide : (1 : Int32).toInt = 1)
  have z5 := (by decide : (7 : Int32).toInt = 7)
  have z6 := (by decide : (26 : Int32).toInt = 26)
  have z7 := (by decide : (100 : Int32).toInt = 100)
  clear hi4_2 h30_40 hok hi3_2
  try simp only [sA_1, sL_1, sI_1, vp_in_iff, Int32.le_iff_toInt_le, Int32.lt_iff_toInt_lt, ← Int32.toInt_inj, reduceIte, Nat.reduceEqDiff] at *
  all_goals omega
theorem ob_X10_keep_2_inv0_42 (st : St) (a1 : Int32) (n_2 : Nat) (st_2 : St) (x2_2 : Int32) (hok : okM st) (hi0_2 : 0 ≤ x2_2.toInt) (hi1_2 : x2_2.toInt ≤ (st.1 7).toInt) (hi2_2 : (st.1 7).toInt < x2_2.toInt + (n_2 + 1)) (hi3_2 : okM st_2) (hi4_2 : (st_2.1 7).toInt = (st.1 7).toInt) (h7_26 : ¬ st_2.1 7 ≤ x2_2) (h21_32 : ¬ st_2.2.1 26 x2_2.toNatClampNeg = 0) (h30_40 : (sp_X10_isCovered st_2 x2_2 a1) = 0) : 0 ≤ (x2_2 + 1).toInt := by
  have z1 := okM_7 hok
  have z2 := okM_7 hi3_2
  have z3 := (by decide : (0 : Int32).toInt = 0)
  have z4 := (by decide : (1 : Int32).toInt = 1)
  have z5 := (by decide : (7 : Int32).toInt = 7)
  have z6 := (by decide : (26 : Int32).toInt = 26)
  have z7 := inc_I x2_2
  clear hi4_2 h30_40 hok hi3_2
  try simp only [sA_1, sL_1, sI_1, vp_in_iff, Int32.le_iff_toInt_le, Int32.lt_iff_toInt_lt, ← Int32.toInt_inj, reduceIte, Nat.reduceEqDiff] at *
  all_goals omega
theorem ob_X10_keep_2_inv1_43 (st : St) (a1 : Int32) (n_2 : Nat) (st_2 : St) (x2_2 : Int32) (hok : okM st) (hi0_2 : 0 ≤ x2_2.toInt) (hi1_2 : x2_2.toInt ≤ (st.1 7).toInt) (hi2_2 : (st.1 7).toInt < x2_2.toInt + (n_2 + 1)) (hi3_2 : okM st_2) (hi4_2 : (st_2.1 7).toInt = (st.1 7).toInt) (h7_26 : ¬ st_2.1 7 ≤ x2_2) (h21_32 : ¬ st_2.2.1 26 x2_2.toNatClampNeg = 0) (h30_40 : (sp_X10_isCovered st_2 x2_2 a1) = 0) : (x2_2 + 1).toInt ≤ (st.1 7).toInt := by
  have z1 := okM_7 hok
  have z2 := okM_7 hi3_2
  have z3 := (by decide : (0 : Int32).toInt = 0)
  have z4 := (by decide : (1 : Int32).toInt = 1)
  have z5 := (by decide : (7 : Int32).toInt = 7)
  have z6 := (by decide : (26 : Int32).toInt = 26)
  have z7 := inc_I x2_2
  clear h30_40 hok hi3_2
  try simp only [sA_1, sL_1, sI_1, vp_in_iff, Int32.le_iff_toInt_le, Int32.lt_iff_toInt_lt, ← Int32.toInt_inj, reduceIte, Nat.reduceEqDiff] at *
  all_goals omega
theorem ob_X10_keep_2_inv2_44 (st : St) (a1 : Int32) (n_2 : Nat) (st_2 : St) (x2_2 : Int32) (hok : okM st) (hi0_2 : 0 ≤ x2_2.toInt) (hi1_2 : x2_2.toInt ≤ (st.1 7).toInt) (hi2_2 : (st.1 7).toInt < x2_2.toInt + (n_2 + 1)) (hi3_2 : okM st_2) (hi4_2 : (st_2.1 7).toInt = (st.1 7).toInt) (h7_26 : ¬ st_2.1 7 ≤ x2_2) (h21_32 : ¬ st_2.2.1 26 x2_2.toNatClampNeg = 0) (h30_40 : (sp_X10_isCovered st_2 x2_2 a1) = 0) : (st.1 7).toInt < (x2_2 + 1).toInt + n_2 := by
  have z1 := okM_7 hok
  have z2 := okM_7 hi3_2
  have z3 := (by decide : (0 : Int32).toInt = 0)
  have z4 := (by decide : (1 : Int32).toInt = 1)
  have z5 := (by decide : (7 : Int32).toInt = 7)
  have z6 := (by decide : (26 : Int32).toInt = 26)
  have z7 := inc_I x2_2
  clear h30_40 hok hi3_2
  try simp only [sA_1, sL_1, sI_1, vp_in_iff, Int32.le_iff_toInt_le, Int32.lt_iff_toInt_lt, ← Int32.toInt_inj, reduceIte, Nat.reduceEqDiff] at *
  all_goals omega
theorem ob_X10_keep_2_inv3_45 (st : St) (a1 : Int32) (n_2 : Nat) (st_2 : St) (x2_2 : Int32) (hok : okM st) (hi0_2 : 0 ≤ x2_2.toInt) (hi1_2 : x2_2.toInt ≤ (st.1 7).toInt) (hi2_2 : (st.1 7).toInt < x2_2.toInt + (n_2 + 1)) (hi3_2 : okM st_2) (hi4_2 : (st_2.1 7).toInt = (st.1 7).toInt) (h7_26 : ¬ st_2.1 7 ≤ x2_2) (h21_32 : ¬ st_2.2.1 26 x2_2.toNatClampNeg = 0) (h30_40 : (sp_X10_isCovered st_2 x2_2 a1) = 0) : okM (sA st_2 27 x2_2.toNatClampNeg 0) := by
  exact hi3_2
theorem ob_X10_keep_2_inv4_46 (st : St) (a1 : Int32) (n_2 : Nat) (st_2 : St) (x2_2 : Int32) (hok : okM st) (hi0_2 : 0 ≤ x2_2.toInt) (hi1_2 : x2_2.toInt ≤ (st.1 7).toInt) (hi2_2 : (st.1 7).toInt < x2_2.toInt + (n_2 + 1)) (hi3_2 : okM st_2) (hi4_2 : (st_2.1 7).toInt = (st.1 7).toInt) (h7_26 : ¬ st_2.1 7 ≤ x2_2) (h21_32 : ¬ st_2.2.1 26 x2_2.toNatClampNeg = 0) (h30_40 : (sp_X10_isCovered st_2 x2_2 a1) = 0) : ((sA st_2 27 x2_2.toNatClampNeg 0).1 7).toInt = (st.1 7).toInt := by
  have z1 := okM_7 hok
  have z2 := okM_7 hi3_2
  have z3 := (by decide : (0 : Int32).toInt = 0)
  have z4 := (by decide : (1 : Int32).toInt = 1)
  have z5 := (by decide : (7 : Int32).toInt = 7)
  have z6 := (by decide : (26 : Int32).toInt = 26)
  have z7 := (by decide : (27 : Int32).toInt = 27)
  clear h30_40 hok hi3_2
  try simp only [sA_1, sL_1, sI_1, vp_in_iff, Int32.le_iff_toInt_le, Int32.lt_iff_toInt_lt, ← Int32.toInt_inj, reduceIte, Nat.reduceEqDiff] at *
  all_goals omega
theorem ob_X10_keep_38_47 (st : St) (a1 : Int32) (n_2 : Nat) (st_2 : St) (x2_2 : Int32) (hok : okM st) (hi0_2 : 0 ≤ x2_2.toInt) (hi1_2 : x2_2.toInt ≤ (st.1 7).toInt) (hi2_2 : (st.1 7).toInt < x2_2.toInt + (n_2 + 1)) (hi3_2 : okM st_2) (hi4_2 : (st_2.1 7).toInt = (st.1 7).toInt) (h7_26 : ¬ st_2.1 7 ≤ x2_2) (h21_32 : ¬ st_2.2.1 26 x2_2.toNatClampNeg = 0) (h30_40 : ¬ (sp_X10_isCovered st_2 x2_2 a1) = 0) : vp_in x2_2 100 := by
  have z1 := okM_7 hok
  have z2 := okM_7 hi3_2
  have z3 := (by decide : (0 : Int32).toInt = 0)
  have z4 := (by decide : (1 : Int32).toInt = 1)
  have z5 := (by decide : (7 : Int32).toInt = 7)
  have z6 := (by decide : (26 : Int32).toInt = 26)
  have z7 := (by decide : (100 : Int32).toInt = 100)
  clear hi4_2 h30_40 hok hi3_2
  try simp only [sA_1, sL_1, sI_1, vp_in_iff, Int32.le_iff_toInt_le, Int32.lt_iff_toInt_lt, ← Int32.toInt_inj, reduceIte, Nat.reduceEqDiff] at *
  all_goals omega
theorem ob_X10_keep_2_inv0_48 (st : St) (a1 : Int32) (n_2 : Nat) (st_2 : St) (x2_2 : Int32) (hok : okM st) (hi0_2 : 0 ≤ x2_2.toInt) (hi1_2 : x2_2.toInt ≤ (st.1 7).toInt) (hi2_2 : (st.1 7).toInt < x2_2.toInt + (n_2 + 1)) (hi3_2 : okM st_2) (hi4_2 : (st_2.1 7).toInt = (st.1 7).toInt) (h7_26 : ¬ st_2.1 7 ≤ x2_2) (h21_32 : ¬ st_2.2.1 26 x2_2.toNatClampNeg = 0) (h30_40 : ¬ (sp_X10_isCovered st_2 x2_2 a1) = 0) : 0 ≤ (x2_2 + 1).toInt := by
  have z1 := okM_7 hok
  have z2 := okM_7 hi3_2
  have z3 := (by decide : (0 : Int32).toInt = 0)
  have z4 := (by decide : (1 : Int32).toInt = 1)
  have z5 := (by decide : (7 : Int32).toInt = 7)
  have z6 := (by decide : (26 : Int32).toInt = 26)
  have z7 := inc_I x2_2
  clear hi4_2 h30_40 hok hi3_2
  try simp only [sA_1, sL_1, sI_1, vp_in_iff, Int32.le_iff_toInt_le, Int32.lt_iff_toInt_lt, ← Int32.toInt_inj, reduceIte, Nat.reduceEqDiff] at *
  all_goals omega
theorem ob_X10_keep_2_inv1_49 (st : St) (a1 : Int32) (n_2 : Nat) (st_2 : St) (x2_2 : Int32) (hok : okM st) (hi0_2 : 0 ≤ x2_2.toInt) (hi1_2 : x2_2.toInt ≤ (st.1 7).toInt) (hi2_2 : (st.1 7).toInt < x2_2.toInt + (n_2 + 1)) (hi3_2 : okM st_2) (hi4_2 : (st_2.1 7).toInt = (st.1 7).toInt) (h7_26 : ¬ st_2.1 7 ≤ x2_2) (h21_32 : ¬ st_2.2.1 26 x2_2.toNatClampNeg = 0) (h30_40 : ¬ (sp_X10_isCovered st_2 x2_2 a1) = 0) : (x2_2 + 1).toInt ≤ (st.1 7).toInt := by
  have z1 := okM_7 hok
  have z2 := okM_7 hi3_2
  have z3 := (by decide : (0 : Int32).toInt = 0)
  have z4 := (by decide : (1 : Int32).toInt = 1)
  have z5 := (by decide : (7 : Int32).toInt = 7)
  have z6 := (by decide : (26 : Int32).toInt = 26)
  have z7 := inc_I x2_2
  clear h30_40 hok hi3_2
  try simp only [sA_1, sL_1, sI_1, vp_in_iff, Int32.le_iff_toInt_le, Int32.lt_iff_toInt_lt, ← Int32.toInt_inj, reduceIte, Nat.reduceEqDiff] at *
  all_goals omega
theorem ob_X10_keep_2_inv2_50 (st : St) (a1 : Int32) (n_2 : Nat) (st_2 : St) (x2_2 : Int32) (hok : okM st) (hi0_2 : 0 ≤ x2_2.toInt) (hi1_2 : x2_2.toInt ≤ (st.1 7).toInt) (hi2_2 : (st.1 7).toInt < x2_2.toInt + (n_2 + 1)) (hi3_2 : okM st_2) (hi4_2 : (st_2.1 7).toInt = (st.1 7).toInt) (h7_26 : ¬ st_2.1 7 ≤ x2_2) (h21_32 : ¬ st_2.2.1 26 x2_2.toNatClampNeg = 0) (h30_40 : ¬ (sp_X10_isCovered st_2 x2_2 a1) = 0) : (st.1 7).toInt < (x2_2 + 1).toInt + n_2 := by
  have z1 := okM_7 hok
  have z2 := okM_7 hi3_2
  have z3 := (by decide : (0 : Int32).toInt = 0)
  have z4 := (by decide : (1 : Int32).toInt = 1)
  have z5 := (by decide : (7 : Int32).toInt = 7)
  have z6 := (by decide : (26 : Int32).toInt = 26)
  have z7 := inc_I x2_2
  clear h30_40 hok hi3_2
  try simp only [sA_1, sL_1, sI_1, vp_in_iff, Int32.le_iff_toInt_le, Int32.lt_iff_toInt_lt, ← Int32.toInt_inj, reduceIte, Nat.reduceEqDiff] at *
  all_goals omega
theorem ob_X10_keep_2_inv3_51 (st : St) (a1 : Int32) (n_2 : Nat) (st_2 : St) (x2_2 : Int32) (hok : okM st) (hi0_2 : 0 ≤ x2_2.toInt) (hi1_2 : x2_2.toInt ≤ (st.1 7).toInt) (hi2_2 : (st.1 7).toInt < x2_2.toInt + (n_2 + 1)) (hi3_2 : okM st_2) (hi4_2 : (st_2.1 7).toInt = (st.1 7).toInt) (h7_26 : ¬ st_2.1 7 ≤ x2_2) (h21_32 : ¬ st_2.2.1 26 x2_2.toNatClampNeg = 0) (h30_40 : ¬ (sp_X10_isCovered st_2 x2_2 a1) = 0) : okM (sA st_2 27 x2_2.toNatClampNeg 1) := by
  exact hi3_2
theorem ob_X10_keep_2_inv4_52 (st : St) (a1 : Int32) (n_2 : Nat) (st_2 : St) (x2_2 : Int32) (hok : okM st) (hi0_2 : 0 ≤ x2_2.toInt) (hi1_2 : x2_2.toInt ≤ (st.1 7).toInt) (hi2_2 : (st.1 7).toInt < x2_2.toInt + (n_2 + 1)) (hi3_2 : okM st_2) (hi4_2 : (st_2.1 7).toInt = (st.1 7).toInt) (h7_26 : ¬ st_2.1 7 ≤ x2_2) (h21_32 : ¬ st_2.2.1 26 x2_2.toNatClampNeg = 0) (h30_40 : ¬ (sp_X10_isCovered st_2 x2_2 a1) = 0) : ((sA st_2 27 x2_2.toNatClampNeg 1).1 7).toInt = (st.1 7).toInt := by
  have z1 := okM_7 hok
  have z2 := okM_7 hi3_2
  have z3 := (by decide : (0 : Int32).toInt = 0)
  have z4 := (by decide : (1 : Int32).toInt = 1)
  have z5 := (by decide : (7 : Int32).toInt = 7)
  have z6 := (by decide : (26 : Int32).toInt = 26)
  have z7 := (by decide : (27 : Int32).toInt = 27)
  clear h30_40 hok hi3_2
  try simp only [sA_1, sL_1, sI_1, vp_in_iff, Int32.le_iff_toInt_le, Int32.lt_iff_toInt_lt, ← Int32.toInt_inj, reduceIte, Nat.reduceEqDiff] at *
  all_goals omega
theorem ob_X10_keep_2_inv0_53 (st : St) (a1 : Int32) (hok : okM st) : 0 ≤ (0 : Int32).toInt := by
  have z1 := (by decide : (0 : Int32).toInt = 0)
  clear hok
  try simp only [sA_1, sL_1, sI_1, vp_in_iff, Int32.le_iff_toInt_le, Int32.lt_iff_toInt_lt, ← Int32.toInt_inj, reduceIte, Nat.reduceEqDiff] at *
  all_goals omega
theorem ob_X10_keep_2_inv1_54 (st : St) (a1 : Int32) (hok : okM st) : (0 : Int32).toInt ≤ (st.1 7).toInt := by
  have z1 := okM_7 hok
  have z2 := (by decide : (0 : Int32).toInt = 0)
  have z3 := (by decide : (7 : Int32).toInt = 7)
  clear hok
  try simp only [sA_1, sL_1, sI_1, vp_in_iff, Int32.le_iff_toInt_le, Int32.lt_iff_toInt_lt, ← Int32.toInt_inj, reduceIte, Nat.reduceEqDiff] at *
  all_goals omega
theorem ob_X10_keep_2_inv2_55 (st : St) (a1 : Int32) (hok : okM st) : (st.1 7).toInt < (0 : Int32).toInt + ((st.1 7).toInt.toNat + 1) := by
  have z1 := okM_7 hok
  have z2 := (by decide : (0 : Int32).toInt = 0)
  have z3 := (by decide : (1 : Int32).toInt = 1)
  have z4 := (by decide : (7 : Int32).toInt = 7)
  clear hok
  try simp only [sA_1, sL_1, sI_1, vp_in_iff, Int32.le_iff_toInt_le, Int32.lt_iff_toInt_lt, ← Int32.toInt_inj, reduceIte, Nat.reduceEqDiff] at *
  all_goals omega
theorem ob_X10_keep_2_inv3_56 (st : St) (a1 : Int32) (hok : okM st) : okM st := by
  exact hok
theorem ob_X10_keep_2_inv4_57 (st : St) (a1 : Int32) (hok : okM st) : (st.1 7).toInt = (st.1 7).toInt := by
  have z1 := okM_7 hok
  have z2 := (by decide : (7 : Int32).toInt = 7)
  clear hok
  try simp only [sA_1, sL_1, sI_1, vp_in_iff, Int32.le_iff_toInt_le, Int32.lt_iff_toInt_lt, ← Int32.toInt_inj, reduceIte, Nat.reduceEqDiff] at *
  all_goals omega
theorem ob_X10_falls_9_1 (st : St) (a1 : Int32) (hit : okIt st) (hva1 : vp_in a1 100) : vp_in a1 100 := by
  have z1 := (by decide : (100 : Int32).toInt = 100)
  clear hit
  try simp only [sA_1, sL_1, sI_1, vp_in_iff, Int32.le_iff_toInt_le, Int32.lt_iff_toInt_lt, ← Int32.toInt_inj, reduceIte, Nat.reduceEqDiff] at *
  all_goals omega
theorem ob_X10_falls_10_2 (st : St) (a1 : Int32) (hit : okIt st) (hva1 : vp_in a1 100) : vp_in (st.2.1 24 a1.toNatClampNeg) 100 := by
  exact okIt_fst hit _
theorem ob_X10_falls_21_3 (st : St) (a1 : Int32) (hit : okIt st) (hva1 : vp_in a1 100) : vp_in a1 100 := by
  have z1 := (by decide : (100 : Int32).toInt = 100)
  clear hit
  try simp only [sA_1, sL_1, sI_1, vp_in_iff, Int32.le_iff_toInt_le, Int32.lt_iff_toInt_lt, ← Int32.toInt_inj, reduceIte, Nat.reduceEqDiff] at *
  all_goals omega
theorem ob_X10_falls_22_4 (st : St) (a1 : Int32) (hit : okIt st) (hva1 : vp_in a1 100) : vp_in (st.2.1 25 a1.toNatClampNeg) 100 := by
  exact okIt_snd hit _
theorem ob_X10_falls_29_5 (st : St) (a1 : Int32) (hit : okIt st) (hva1 : vp_in a1 100) : vp_in a1 100 := by
  have z1 := (by decide : (100 : Int32).toInt = 100)
  clear hit
  try simp only [sA_1, sL_1, sI_1, vp_in_iff, Int32.le_iff_toInt_le, Int32.lt_iff_toInt_lt, ← Int32.toInt_inj, reduceIte, Nat.reduceEqDiff] at *
  all_goals omega
theorem ob_X10_cascade_4_zero (st : St) (st_4 : St) (x2_4 : Int32) (x1_4 : Int32) (hit : okIt st) (hi0_4 : 0 ≤ x2_4.toInt) (hi1_4 : x2_4.toInt ≤ (st.1 7).toInt) (hi2_4 : (st.1 7).toInt < x2_4.toInt + 0) (hi3_4 : okIt st_4) (hi4_4 : (st_4.1 7).toInt = (st.1 7).toInt) : False := by
  have z1 := okIt_7 hit
  have z2 := okIt_7 hi3_4
  have z3 := (by decide : (0 : Int32).toInt = 0)
  have z4 := (by decide : (7 : Int32).toInt = 7)
  clear hit hi3_4
  try simp only [sA_1, sL_1, sI_1, vp_in_iff, Int32.le_iff_toInt_le, Int32.lt_iff_toInt_lt, ← Int32.toInt_inj, reduceIte, Nat.reduceEqDiff] at *
  all_goals omega
theorem ob_X10_cascade_17_2 (st : St) (n_4 : Nat) (st_4 : St) (x2_4 : Int32) (x1_4 : Int32) (hit : okIt st) (hi0_4 : 0 ≤ x2_4.toInt) (hi1_4 : x2_4.toInt ≤ (st.1 7).toInt) (hi2_4 : (st.1 7).toInt < x2_4.toInt + (n_4 + 1)) (hi3_4 : okIt st_4) (hi4_4 : (st_4.1 7).toInt = (st.1 7).toInt) (h9_1 : ¬ st_4.1 7 ≤ x2_4) : vp_in x2_4 100 := by
  have z1 := okIt_7 hit
  have z2 := okIt_7 hi3_4
  have z3 := (by decide : (0 : Int32).toInt = 0)
  have z4 := (by decide : (1 : Int32).toInt = 1)
  have z5 := (by decide : (7 : Int32).toInt = 7)
  have z6 := (by decide : (100 : Int32).toInt = 100)
  clear hi4_4 hit hi3_4
  try simp only [sA_1, sL_1, sI_1, vp_in_iff, Int32.le_iff_toInt_le, Int32.lt_iff_toInt_lt, ← Int32.toInt_inj, reduceIte, Nat.reduceEqDiff] at *
  all_goals omega
theorem ob_X10_cascade_4_inv0_4 (st : St) (n_4 : Nat) (st_4 : St) (x2_4 : Int32) (x1_4 : Int32) (hit : okIt st) (hi0_4 : 0 ≤ x2_4.toInt) (hi1_4 : x2_4.toInt ≤ (st.1 7).toInt) (hi2_4 : (st.1 7).toInt < x2_4.toInt + (n_4 + 1)) (hi3_4 : okIt st_4) (hi4_4 : (st_4.1 7).toInt = (st.1 7).toInt) (h9_1 : ¬ st_4.1 7 ≤ x2_4) (h18_3 : st_4.2.1 26 x2_4.toNatClampNeg = 0) : 0 ≤ (x2_4 + 1).toInt := by
  have z1 := okIt_7 hit
  have z2 := okIt_7 hi3_4
  have z3 := (by decide : (0 : Int32).toInt = 0)
  have z4 := (by decide : (1 : Int32).toInt = 1)
  have z5 := (by decide : (7 : Int32).toInt = 7)
  have z6 := (by decide : (26 : Int32).toInt = 26)
  have z7 := inc_I x2_4
  clear hi4_4 hit hi3_4
  try simp only [sA_1, sL_1, sI_1, vp_in_iff, Int32.le_iff_toInt_le, Int32.lt_iff_toInt_lt, ← Int32.toInt_inj, reduceIte, Nat.reduceEqDiff] at *
  all_goals omega
theorem ob_X10_cascade_4_inv1_5 (st : St) (n_4 : Nat) (st_4 : St) (x2_4 : Int32) (x1_4 : Int32) (hit : okIt st) (hi0_4 : 0 ≤ x2_4.toInt) (hi1_4 : x2_4.toInt ≤ (st.1 7).toInt) (hi2_4 : (st.1 7).toInt < x2_4.toInt + (n_4 + 1)) (hi3_4 : okIt st_4) (hi4_4 : (st_4.1 7).toInt = (st.1 7).toInt) (h9_1 : ¬ st_4.1 7 ≤ x2_4) (h18_3 : st_4.2.1 26 x2_4.toNatClampNeg = 0) : (x2_4 + 1).toInt ≤ (st.1 7).toInt := by
  have z1 := okIt_7 hit
  have z2 := okIt_7 hi3_4
  have z3 := (by decide : (0 : Int32).toInt = 0)
  have z4 := (by decide : (1 : Int32).toInt = 1)
  have z5 := (by decide : (7 : Int32).toInt = 7)
  have z6 := (by decide : (26 : Int32).toInt = 26)
  have z7 := inc_I x2_4
  clear hit hi3_4
  try simp only [sA_1, sL_1, sI_1, vp_in_iff, Int32.le_iff_toInt_le, Int32.lt_iff_toInt_lt, ← Int32.toInt_inj, reduceIte, Nat.reduceEqDiff] at *
  all_goals omega
theorem ob_X10_cascade_4_inv2_6 (st : St) (n_4 : Nat) (st_4 : St) (x2_4 : Int32) (x1_4 : Int32) (hit : okIt st) (hi0_4 : 0 ≤ x2_4.toInt) (hi1_4 : x2_4.toInt ≤ (st.1 7).toInt) (hi2_4 : (st.1 7).toInt < x2_4.toInt + (n_4 + 1)) (hi3_4 : okIt st_4) (hi4_4 : (st_4.1 7).toInt = (st.1 7).toInt) (h9_1 : ¬ st_4.1 7 ≤ x2_4) (h18_3 : st_4.2.1 26 x2_4.toNatClampNeg = 0) : (st.1 7).toInt < (x2_4 + 1).toInt + n_4 := by
  have z1 := okIt_7 hit
  have z2 := okIt_7 hi3_4
  have z3 := (by decide : (0 : Int32).toInt = 0)
  have z4 := (by decide : (1 : Int32).toInt = 1)
  have z5 := (by decide : (7 : Int32).toInt = 7)
  have z6 := (by decide : (26 : Int32).toInt = 26)
  have z7 := inc_I x2_4
  clear hit hi3_4
  try simp only [sA_1, sL_1, sI_1, vp_in_iff, Int32.le_iff_toInt_le, Int32.lt_iff_toInt_lt, ← Int32.toInt_inj, reduceIte, Nat.reduceEqDiff] at *
  all_goals omega
theorem ob_X10_cascade_4_inv3_7 (st : St) (n_4 : Nat) (st_4 : St) (x2_4 : Int32) (x1_4 : Int32) (hit : okIt st) (hi0_4 : 0 ≤ x2_4.toInt) (hi1_4 : x2_4.toInt ≤ (st.1 7).toInt) (hi2_4 : (st.1 7).toInt < x2_4.toInt + (n_4 + 1)) (hi3_4 : okIt st_4) (hi4_4 : (st_4.1 7).toInt = (st.1 7).toInt) (h9_1 : ¬ st_4.1 7 ≤ x2_4) (h18_3 : st_4.2.1 26 x2_4.toNatClampNeg = 0) : okIt st_4 := by
  exact hi3_4
theorem ob_X10_cascade_4_inv4_8 (st : St) (n_4 : Nat) (st_4 : St) (x2_4 : Int32) (x1_4 : Int32) (hit : okIt st) (hi0_4 : 0 ≤ x2_4.toInt) (hi1_4 : x2_4.toInt ≤ (st.1 7).toInt) (hi2_4 : (st.1 7).toInt < x2_4.toInt + (n_4 + 1)) (hi3_4 : okIt st_4) (hi4_4 : (st_4.1 7).toInt = (st.1 7).toInt) (h9_1 : ¬ st_4.1 7 ≤ x2_4) (h18_3 : st_4.2.1 26 x2_4.toNatClampNeg = 0) : (st_4.1 7).toInt = (st.1 7).toInt := by
  have z1 := okIt_7 hit
  have z2 := okIt_7 hi3_4
  have z3 := (by decide : (1 : Int32).toInt = 1)
  have z4 := (by decide : (7 : Int32).toInt = 7)
  clear hi0_4 h18_3 hit hi3_4
  try simp only [sA_1, sL_1, sI_1, vp_in_iff, Int32.le_iff_toInt_le, Int32.lt_iff_toInt_lt, ← Int32.toInt_inj, reduceIte, Nat.reduceEqDiff] at *
  all_goals omega
theorem ob_X10_cascade_26_9 (st : St) (n_4 : Nat) (st_4 : St) (x2_4 : Int32) (x1_4 : Int32) (hit : okIt st) (hi0_4 : 0 ≤ x2_4.toInt) (hi1_4 : x2_4.toInt ≤ (st.1 7).toInt) (hi2_4 : (st.1 7).toInt < x2_4.toInt + (n_4 + 1)) (hi3_4 : okIt st_4) (hi4_4 : (st_4.1 7).toInt = (st.1 7).toInt) (h9_1 : ¬ st_4.1 7 ≤ x2_4) (h18_3 : ¬ st_4.2.1 26 x2_4.toNatClampNeg = 0) : vp_in x2_4 100 := by
  have z1 := okIt_7 hit
  have z2 := okIt_7 hi3_4
  have z3 := (by decide : (0 : Int32).toInt = 0)
  have z4 := (by decide : (1 : Int32).toInt = 1)
  have z5 := (by decide : (7 : Int32).toInt = 7)
  have z6 := (by decide : (26 : Int32).toInt = 26)
  have z7 := (by decide : (100 : Int32).toInt = 100)
  clear hi4_4 hit hi3_4
  try simp only [sA_1, sL_1, sI_1, vp_in_iff, Int32.le_iff_toInt_le, Int32.lt_iff_toInt_lt, ← Int32.toInt_inj, reduceIte, Nat.reduceEqDiff] at *
  all_goals omega
theorem ob_X10_cascade_4_inv0_11 (st : St) (n_4 : Nat) (st_4 : St) (x2_4 : Int32) (x1_4 : Int32) (hit : okIt st) (hi0_4 : 0 ≤ x2_4.toInt) (hi1_4 : x2_4.toInt ≤ (st.1 7).toInt) (hi2_4 : (st.1 7).toInt < x2_4.toInt + (n_4 + 1)) (hi3_4 : okIt st_4) (hi4_4 : (st_4.1 7).toInt = (st.1 7).toInt) (h9_1 : ¬ st_4.1 7 ≤ x2_4) (h18_3 : ¬ st_4.2.1 26 x2_4.toNatClampNeg = 0) (h28_10 : st_4.2.1 23 x2_4.toNatClampNeg = (-1)) : 0 ≤ (x2_4 + 1).toInt := by
  have z1 := okIt_7 hit
  have z2 := okIt_7 hi3_4
  have z3 := (by decide : (0 : Int32).toInt = 0)
  have z4 := (by decide : (1 : Int32).toInt = 1)
  have z5 := (by decide : (7 : Int32).toInt = 7)
  have z6 := (by decide : (23 : Int32).toInt = 23)
  have z7 := (by decide : (26 : Int32).toInt = 26)
  have z8 := (by decide : (-1 : Int32).toInt = -1)
  have z9 := inc_I x2_4
  clear hi4_4 hit hi3_4
  try simp only [sA_1, sL_1, sI_1, vp_in_iff, Int32.le_iff_toInt_le, Int32.lt_iff_toInt_lt, ← Int32.toInt_inj, reduceIte, Nat.reduceEqDiff] at *
  all_goals omega
theorem ob_X10_cascade_4_inv1_12 (st : St) (n_4 : Nat) (st_4 : St) (x2_4 : Int32) (x1_4 : Int32) (hit : okIt st) (hi0_4 : 0 ≤ x2_4.toInt) (hi1_4 : x2_4.toInt ≤ (st.1 7).toInt) (hi2_4 : (st.1 7).toInt < x2_4.toInt + (n_4 + 1)) (hi3_4 : okIt st_4) (hi4_4 : (st_4.1 7).toInt = (st.1 7).toInt) (h9_1 : ¬ st_4.1 7 ≤ x2_4) (h18_3 : ¬ st_4.2.1 26 x2_4.toNatClampNeg = 0) (h28_10 : st_4.2.1 23 x2_4.toNatClampNeg = (-1)) : (x2_4 + 1).toInt ≤ (st.1 7).toInt := by
  have z1 := okIt_7 hit
  have z2 := okIt_7 hi3_4
  have z3 := (by decide : (0 : Int32).toInt = 0)
  have z4 := (by decide : (1 : Int32).toInt = 1)
  have z5 := (by decide : (7 : Int32).toInt = 7)
  have z6 := (by decide : (23 : Int32).toInt = 23)
  have z7 := (by decide : (26 : Int32).toInt = 26)
  have z8 := (by decide : (-1 : Int32).toInt = -1)
  have z9 := inc_I x2_4
  clear hit hi3_4
  try simp only [sA_1, sL_1, sI_1, vp_in_iff, Int32.le_iff_toInt_le, Int32.lt_iff_toInt_lt, ← Int32.toInt_inj, reduceIte, Nat.reduceEqDiff] at *
  all_goals omega
theorem ob_X10_cascade_4_inv2_13 (st : St) (n_4 : Nat) (st_4 : St) (x2_4 : Int32) (x1_4 : Int32) (hit : okIt st) (hi0_4 : 0 ≤ x2_4.toInt) (hi1_4 : x2_4.toInt ≤ (st.1 7).toInt) (hi2_4 : (st.1 7).toInt < x2_4.toInt + (n_4 + 1)) (hi3_4 : okIt st_4) (hi4_4 : (st_4.1 7).toInt = (st.1 7).toInt) (h9_1 : ¬ st_4.1 7 ≤ x2_4) (h18_3 : ¬ st_4.2.1 26 x2_4.toNatClampNeg = 0) (h28_10 : st_4.2.1 23 x2_4.toNatClampNeg = (-1)) : (st.1 7).toInt < (x2_4 + 1).toInt + n_4 := by
  have z1 := okIt_7 hit
  have z2 := okIt_7 hi3_4
  have z3 := (by decide : (0 : Int32).toInt = 0)
  have z4 := (by decide : (1 : Int32).toInt = 1)
  have z5 := (by decide : (7 : Int32).toInt = 7)
  have z6 := (by decide : (23 : Int32).toInt = 23)
  have z7 := (by decide : (26 : Int32).toInt = 26)
  have z8 := (by decide : (-1 : Int32).toInt = -1)
  have z9 := inc_I x2_4
  clear hit hi3_4
  try simp only [sA_1, sL_1, sI_1, vp_in_iff, Int32.le_iff_toInt_le, Int32.lt_iff_toInt_lt, ← Int32.toInt_inj, reduceIte, Nat.reduceEqDiff] at *
  all_goals omega
theorem ob_X10_cascade_4_inv3_14 (st : St) (n_4 : Nat) (st_4 : St) (x2_4 : Int32) (x1_4 : Int32) (hit : okIt st) (hi0_4 : 0 ≤ x2_4.toInt) (hi1_4 : x2_4.toInt ≤ (st.1 7).toInt) (hi2_4 : (st.1 7).toInt < x2_4.toInt + (n_4 + 1)) (hi3_4 : okIt st_4) (hi4_4 : (st_4.1 7).toInt = (st.1 7).toInt) (h9_1 : ¬ st_4.1 7 ≤ x2_4) (h18_3 : ¬ st_4.2.1 26 x2_4.toNatClampNeg = 0) (h28_10 : st_4.2.1 23 x2_4.toNatClampNeg = (-1)) : okIt st_4 := by
  exact hi3_4
theorem ob_X10_cascade_4_inv4_15 (st : St) (n_4 : Nat) (st_4 : St) (x2_4 : Int32) (x1_4 : Int32) (hit : okIt st) (hi0_4 : 0 ≤ x2_4.toInt) (hi1_4 : x2_4.toInt ≤ (st.1 7).toInt) (hi2_4 : (st.1 7).toInt < x2_4.toInt + (n_4 + 1)) (hi3_4 : okIt st_4) (hi4_4 : (st_4.1 7).toInt = (st.1 7).toInt) (h9_1 : ¬ st_4.1 7 ≤ x2_4) (h18_3 : ¬ st_4.2.1 26 x2_4.toNatClampNeg = 0) (h28_10 : st_4.2.1 23 x2_4.toNatClampNeg = (-1)) : (st_4.1 7).toInt = (st.1 7).toInt := by
  have z1 := okIt_7 hit
  have z2 := okIt_7 hi3_4
  have z3 := (by decide : (1 : Int32).toInt = 1)
  have z4 := (by decide : (7 : Int32).toInt = 7)
  clear hi0_4 h18_3 h28_10 hit hi3_4
  try simp only [sA_1, sL_1, sI_1, vp_in_iff, Int32.le_iff_toInt_le, Int32.lt_iff_toInt_lt, ← Int32.toInt_inj, reduceIte, Nat.reduceEqDiff] at *
  all_goals omega
theorem ob_X10_cascade_33_16 (st : St) (n_4 : Nat) (st_4 : St) (x2_4 : Int32) (x1_4 : Int32) (hit : okIt st) (hi0_4 : 0 ≤ x2_4.toInt) (hi1_4 : x2_4.toInt ≤ (st.1 7).toInt) (hi2_4 : (st.1 7).toInt < x2_4.toInt + (n_4 + 1)) (hi3_4 : okIt st_4) (hi4_4 : (st_4.1 7).toInt = (st.1 7).toInt) (h9_1 : ¬ st_4.1 7 ≤ x2_4) (h18_3 : ¬ st_4.2.1 26 x2_4.toNatClampNeg = 0) (h28_10 : ¬ st_4.2.1 23 x2_4.toNatClampNeg = (-1)) : vp_in x2_4 100 := by
  have z1 := okIt_7 hit
  have z2 := okIt_7 hi3_4
  have z3 := (by decide : (0 : Int32).toInt = 0)
  have z4 := (by decide : (1 : Int32).toInt = 1)
  have z5 := (by decide : (7 : Int32).toInt = 7)
  have z6 := (by decide : (23 : Int32).toInt = 23)
  have z7 := (by decide : (26 : Int32).toInt = 26)
  have z8 := (by decide : (100 : Int32).toInt = 100)
  have z9 := (by decide : (-1 : Int32).toInt = -1)
  clear hi4_4 hit hi3_4
  try simp only [sA_1, sL_1, sI_1, vp_in_iff, Int32.le_iff_toInt_le, Int32.lt_iff_toInt_lt, ← Int32.toInt_inj, reduceIte, Nat.reduceEqDiff] at *
  all_goals omega
theorem ob_X10_cascade_48_18 (st : St) (n_4 : Nat) (st_4 : St) (x2_4 : Int32) (x1_4 : Int32) (hit : okIt st) (hi0_4 : 0 ≤ x2_4.toInt) (hi1_4 : x2_4.toInt ≤ (st.1 7).toInt) (hi2_4 : (st.1 7).toInt < x2_4.toInt + (n_4 + 1)) (hi3_4 : okIt st_4) (hi4_4 : (st_4.1 7).toInt = (st.1 7).toInt) (h9_1 : ¬ st_4.1 7 ≤ x2_4) (h18_3 : ¬ st_4.2.1 26 x2_4.toNatClampNeg = 0) (h28_10 : ¬ st_4.2.1 23 x2_4.toNatClampNeg = (-1)) (h36_17 : ¬ (sp_X10_falls st_4 x2_4) = 0) : vp_in x2_4 100 := by
  have z1 := okIt_7 hit
  have z2 := okIt_7 hi3_4
  have z3 := (by decide : (0 : Int32).toInt = 0)
  have z4 := (by decide : (1 : Int32).toInt = 1)
  have z5 := (by decide : (7 : Int32).toInt = 7)
  have z6 := (by decide : (23 : Int32).toInt = 23)
  have z7 := (by decide : (26 : Int32).toInt = 26)
  have z8 := (by decide : (100 : Int32).toInt = 100)
  have z9 := (by decide : (-1 : Int32).toInt = -1)
  clear hi4_4 h36_17 hit hi3_4
  try simp only [sA_1, sL_1, sI_1, vp_in_iff, Int32.le_iff_toInt_le, Int32.lt_iff_toInt_lt, ← Int32.toInt_inj, reduceIte, Nat.reduceEqDiff] at *
  all_goals omega
theorem ob_X10_cascade_4_inv0_19 (st : St) (n_4 : Nat) (st_4 : St) (x2_4 : Int32) (x1_4 : Int32) (hit : okIt st) (hi0_4 : 0 ≤ x2_4.toInt) (hi1_4 : x2_4.toInt ≤ (st.1 7).toInt) (hi2_4 : (st.1 7).toInt < x2_4.toInt + (n_4 + 1)) (hi3_4 : okIt st_4) (hi4_4 : (st_4.1 7).toInt = (st.1 7).toInt) (h9_1 : ¬ st_4.1 7 ≤ x2_4) (h18_3 : ¬ st_4.2.1 26 x2_4.toNatClampNeg = 0) (h28_10 : ¬ st_4.2.1 23 x2_4.toNatClampNeg = (-1)) (h36_17 : ¬ (sp_X10_falls st_4 x2_4) = 0) : 0 ≤ (x2_4 + 1).toInt := by
  have z1 := okIt_7 hit
  have z2 := okIt_7 hi3_4
  have z3 := (by decide : (0 : Int32).toInt = 0)
  have z4 := (by decide : (1 : Int32).toInt = 1)
  have z5 := (by decide : (7 : Int32).toInt = 7)
  have z6 := (by decide : (23 : Int32).toInt = 23)
  have z7 := (by decide : (26 : Int32).toInt = 26)
  have z8 := (by decide : (-1 : Int32).toInt = -1)
  have z9 := inc_I x2_4
  clear hi4_4 h36_17 hit hi3_4
  try simp only [sA_1, sL_1, sI_1, vp_in_iff, Int32.le_iff_toInt_le, Int32.lt_iff_toInt_lt, ← Int32.toInt_inj, reduceIte, Nat.reduceEqDiff] at *
  all_goals omega
theorem ob_X10_cascade_4_inv1_20 (st : St) (n_4 : Nat) (st_4 : St) (x2_4 : Int32) (x1_4 : Int32) (hit : okIt st) (hi0_4 : 0 ≤ x2_4.toInt) (hi1_4 : x2_4.toInt ≤ (st.1 7).toInt) (hi2_4 : (st.1 7).toInt < x2_4.toInt + (n_4 + 1)) (hi3_4 : okIt st_4) (hi4_4 : (st_4.1 7).toInt = (st.1 7).toInt) (h9_1 : ¬ st_4.1 7 ≤ x2_4) (h18_3 : ¬ st_4.2.1 26 x2_4.toNatClampNeg = 0) (h28_10 : ¬ st_4.2.1 23 x2_4.toNatClampNeg = (-1)) (h36_17 : ¬ (sp_X10_falls st_4 x2_4) = 0) : (x2_4 + 1).toInt ≤ (st.1 7).toInt := by
  have z1 := okIt_7 hit
  have z2 := okIt_7 hi3_4
  have z3 := (by decide : (0 : Int32).toInt = 0)
  have z4 := (by decide : (1 : Int32).toInt = 1)
  have z5 := (by decide : (7 : Int32).toInt = 7)
  have z6 := (by decide : (23 : Int32).toInt = 23)
  have z7 := (by decide : (26 : Int32).toInt = 26)
  have z8 := (by decide : (-1 : Int32).toInt = -1)
  have z9 := inc_I x2_4
  clear h36_17 hit hi3_4
  try simp only [sA_1, sL_1, sI_1, vp_in_iff, Int32.le_iff_toInt_le, Int32.lt_iff_toInt_lt, ← Int32.toInt_inj, reduceIte, Nat.reduceEqDiff] at *
  all_goals omega
theorem ob_X10_cascade_4_inv2_21 (st : St) (n_4 : Nat) (st_4 : St) (x2_4 : Int32) (x1_4 : Int32) (hit : okIt st) (hi0_4 : 0 ≤ x2_4.toInt) (hi1_4 : x2_4.toInt ≤ (st.1 7).toInt) (hi2_4 : (st.1 7).toInt < x2_4.toInt + (n_4 + 1)) (hi3_4 : okIt st_4) (hi4_4 : (st_4.1 7).toInt = (st.1 7).toInt) (h9_1 : ¬ st_4.1 7 ≤ x2_4) (h18_3 : ¬ st_4.2.1 26 x2_4.toNatClampNeg = 0) (h28_10 : ¬ st_4.2.1 23 x2_4.toNatClampNeg = (-1)) (h36_17 : ¬ (sp_X10_falls st_4 x2_4) = 0) : (st.1 7).toInt < (x2_4 + 1).toInt + n_4 := by
  have z1 := okIt_7 hit
  have z2 := okIt_7 hi3_4
  have z3 := (by decide : (0 : Int32).toInt = 0)
  have z4 := (by decide : (1 : Int32).toInt = 1)
  have z5 := (by decide : (7 : Int32).toInt = 7)
  have z6 := (by decide : (23 : Int32).toInt = 23)
  have z7 := (by decide : (26 : Int32).toInt = 26)
  have z8 := (by decide : (-1 : Int32).toInt = -1)
  have z9 := inc_I x2_4
  clear h36_17 hit hi3_4
  try simp only [sA_1, sL_1, sI_1, vp_in_iff, Int32.le_iff_toInt_le, Int32.lt_iff_toInt_lt, ← Int32.toInt_inj, reduceIte, Nat.reduceEqDiff] at *
  all_goals omega
theorem ob_X10_cascade_4_inv3_22 (st : St) (n_4 : Nat) (st_4 : St) (x2_4 : Int32) (x1_4 : Int32) (hit : okIt st) (hi0_4 : 0 ≤ x2_4.toInt) (hi1_4 : x2_4.toInt ≤ (st.1 7).toInt) (hi2_4 : (st.1 7).toInt < x2_4.toInt + (n_4 + 1)) (hi3_4 : okIt st_4) (hi4_4 : (st_4.1 7).toInt = (st.1 7).toInt) (h9_1 : ¬ st_4.1 7 ≤ x2_4) (h18_3 : ¬ st_4.2.1 26 x2_4.toNatClampNeg = 0) (h28_10 : ¬ st_4.2.1 23 x2_4.toNatClampNeg = (-1)) (h36_17 : ¬ (sp_X10_falls st_4 x2_4) = 0) : okIt (sA st_4 26 x2_4.toNatClampNeg 0) := by
  exact hi3_4
theorem ob_X10_cascade_4_inv4_23 (st : St) (n_4 : Nat) (st_4 : St) (x2_4 : Int32) (x1_4 : Int32) (hit : okIt st) (hi0_4 : 0 ≤ x2_4.toInt) (hi1_4 : x2_4.toInt ≤ (st.1 7).toInt) (hi2_4 : (st.1 7).toInt < x2_4.toInt + (n_4 + 1)) (hi3_4 : okIt st_4) (hi4_4 : (st_4.1 7).toInt = (st.1 7).toInt) (h9_1 : ¬ st_4.1 7 ≤ x2_4) (h18_3 : ¬ st_4.2.1 26 x2_4.toNatClampNeg = 0) (h28_10 : ¬ st_4.2.1 23 x2_4.toNatClampNeg = (-1)) (h36_17 : ¬ (sp_X10_falls st_4 x2_4) = 0) : ((sA st_4 26 x2_4.toNatClampNeg 0).1 7).toInt = (st.1 7).toInt := by
  have z1 := okIt_7 hit
  have z2 := okIt_7 hi3_4
  have z3 := (by decide : (0 : Int32).toInt = 0)
  have z4 := (by decide : (1 : Int32).toInt = 1)
  have z5 := (by decide : (7 : Int32).toInt = 7)
  have z6 := (by decide : (23 : Int32).toInt = 23)
  have z7 := (by decide : (26 : Int32).toInt = 26)
  have z8 := (by decide : (-1 : Int32).toInt = -1)
  clear h36_17 hit hi3_4
  try simp only [sA_1, sL_1, sI_1, vp_in_iff, Int32.le_iff_toInt_le, Int32.lt_iff_toInt_lt, ← Int32.toInt_inj, reduceIte, Nat.reduceEqDiff] at *
  all_goals omega
theorem ob_X10_cascade_4_inv0_24 (st : St) (n_4 : Nat) (st_4 : St) (x2_4 : Int32) (x1_4 : Int32) (hit : okIt st) (hi0_4 : 0 ≤ x2_4.toInt) (hi1_4 : x2_4.toInt ≤ (st.1 7).toInt) (hi2_4 : (st.1 7).toInt < x2_4.toInt + (n_4 + 1)) (hi3_4 : okIt st_4) (hi4_4 : (st_4.1 7).toInt = (st.1 7).toInt) (h9_1 : ¬ st_4.1 7 ≤ x2_4) (h18_3 : ¬ st_4.2.1 26 x2_4.toNatClampNeg = 0) (h28_10 : ¬ st_4.2.1 23 x2_4.toNatClampNeg = (-1)) (h36_17 : (sp_X10_falls st_4 x2_4) = 0) : 0 ≤ (x2_4 + 1).toInt := by
  have z1 := okIt_7 hit
  have z2 := okIt_7 hi3_4
  have z3 := (by decide : (0 : Int32).toInt = 0)
  have z4 := (by decide : (1 : Int32).toInt = 1)
  have z5 := (by decide : (7 : Int32).toInt = 7)
  have z6 := (by decide : (23 : Int32).toInt = 23)
  have z7 := (by decide : (26 : Int32).toInt = 26)
  have z8 := (by decide : (-1 : Int32).toInt = -1)
  have z9 := inc_I x2_4
  clear hi4_4 h36_17 hit hi3_4
  try simp only [sA_1, sL_1, sI_1, vp_in_iff, Int32.le_iff_toInt_le, Int32.lt_iff_toInt_lt, ← Int32.toInt_inj, reduceIte, Nat.reduceEqDiff] at *
  all_goals omega
theorem ob_X10_cascade_4_inv1_25 (st : St) (n_4 : Nat) (st_4 : St) (x2_4 : Int32) (x1_4 : Int32) (hit : okIt st) (hi0_4 : 0 ≤ x2_4.toInt) (hi1_4 : x2_4.toInt ≤ (st.1 7).toInt) (hi2_4 : (st.1 7).toInt < x2_4.toInt + (n_4 + 1)) (hi3_4 : okIt st_4) (hi4_4 : (st_4.1 7).toInt = (st.1 7).toInt) (h9_1 : ¬ st_4.1 7 ≤ x2_4) (h18_3 : ¬ st_4.2.1 26 x2_4.toNatClampNeg = 0) (h28_10 : ¬ st_4.2.1 23 x2_4.toNatClampNeg = (-1)) (h36_17 : (sp_X10_falls st_4 x2_4) = 0) : (x2_4 + 1).toInt ≤ (st.1 7).toInt := by
  have z1 := okIt_7 hit
  have z2 := okIt_7 hi3_4
  have z3 := (by decide : (0 : Int32).toInt = 0)
  have z4 := (by decide : (1 : Int32).toInt = 1)
  have z5 := (by decide : (7 : Int32).toInt = 7)
  have z6 := (by decide : (23 : Int32).toInt = 23)
  have z7 := (by decide : (26 : Int32).toInt = 26)
  have z8 := (by decide : (-1 : Int32).toInt = -1)
  have z9 := inc_I x2_4
  clear h36_17 hit hi3_4
  try simp only [sA_1, sL_1, sI_1, vp_in_iff, Int32.le_iff_toInt_le, Int32.lt_iff_toInt_lt, ← Int32.toInt_inj, reduceIte, Nat.reduceEqDiff] at *
  all_goals omega
theorem ob_X10_cascade_4_inv2_26 (st : St) (n_4 : Nat) (st_4 : St) (x2_4 : Int32) (x1_4 : Int32) (hit : okIt st) (hi0_4 : 0 ≤ x2_4.toInt) (hi1_4 : x2_4.toInt ≤ (st.1 7).toInt) (hi2_4 : (st.1 7).toInt < x2_4.toInt + (n_4 + 1)) (hi3_4 : okIt st_4) (hi4_4 : (st_4.1 7).toInt = (st.1 7).toInt) (h9_1 : ¬ st_4.1 7 ≤ x2_4) (h18_3 : ¬ st_4.2.1 26 x2_4.toNatClampNeg = 0) (h28_10 : ¬ st_4.2.1 23 x2_4.toNatClampNeg = (-1)) (h36_17 : (sp_X10_falls st_4 x2_4) = 0) : (st.1 7).toInt < (x2_4 + 1).toInt + n_4 := by
  have z1 := okIt_7 hit
  have z2 := okIt_7 hi3_4
  have z3 := (by decide : (0 : Int32).toInt = 0)
  have z4 := (by decide : (1 : Int32).toInt = 1)
  have z5 := (by decide : (7 : Int32).toInt = 7)
  have z6 := (by decide : (23 : Int32).toInt = 23)
  have z7 := (by decide : (26 : Int32).toInt = 26)
  have z8 := (by decide : (-1 : Int32).toInt = -1)
  have z9 := inc_I x2_4
  clear h36_17 hit hi3_4
  try simp only [sA_1, sL_1, sI_1, vp_in_iff, Int32.le_iff_toInt_le, Int32.lt_iff_toInt_lt, ← Int32.toInt_inj, reduceIte, Nat.reduceEqDiff] at *
  all_goals omega
theorem ob_X10_cascade_4_inv3_27 (st : St) (n_4 : Nat) (st_4 : St) (x2_4 : Int32) (x1_4 : Int32) (hit : okIt st) (hi0_4 : 0 ≤ x2_4.toInt) (hi1_4 : x2_4.toInt ≤ (st.1 7).toInt) (hi2_4 : (st.1 7).toInt < x2_4.toInt + (n_4 + 1)) (hi3_4 : okIt st_4) (hi4_4 : (st_4.1 7).toInt = (st.1 7).toInt) (h9_1 : ¬ st_4.1 7 ≤ x2_4) (h18_3 : ¬ st_4.2.1 26 x2_4.toNatClampNeg = 0) (h28_10 : ¬ st_4.2.1 23 x2_4.toNatClampNeg = (-1)) (h36_17 : (sp_X10_falls st_4 x2_4) = 0) : okIt st_4 := by
  exact hi3_4
theorem ob_X10_cascade_4_inv4_28 (st : St) (n_4 : Nat) (st_4 : St) (x2_4 : Int32) (x1_4 : Int32) (hit : okIt st) (hi0_4 : 0 ≤ x2_4.toInt) (hi1_4 : x2_4.toInt ≤ (st.1 7).toInt) (hi2_4 : (st.1 7).toInt < x2_4.toInt + (n_4 + 1)) (hi3_4 : okIt st_4) (hi4_4 : (st_4.1 7).toInt = (st.1 7).toInt) (h9_1 : ¬ st_4.1 7 ≤ x2_4) (h18_3 : ¬ st_4.2.1 26 x2_4.toNatClampNeg = 0) (h28_10 : ¬ st_4.2.1 23 x2_4.toNatClampNeg = (-1)) (h36_17 : (sp_X10_falls st_4 x2_4) = 0) : (st_4.1 7).toInt = (st.1 7).toInt := by
  have z1 := okIt_7 hit
  have z2 := okIt_7 hi3_4
  have z3 := (by decide : (1 : Int32).toInt = 1)
  have z4 := (by decide : (7 : Int32).toInt = 7)
  clear hi0_4 h18_3 h28_10 h36_17 hit hi3_4
  try simp only [sA_1, sL_1, sI_1, vp_in_iff, Int32.le_iff_toInt_le, Int32.lt_iff_toInt_lt, ← Int32.toInt_inj, reduceIte, Nat.reduceEqDiff] at *
  all_goals omega
theorem ob_X10_cascade_4_inv0_29 (st : St) (hit : okIt st) : 0 ≤ (0 : Int32).toInt := by
  have z1 := (by decide : (0 : Int32).toInt = 0)
  clear hit
  try simp only [sA_1, sL_1, sI_1, vp_in_iff, Int32.le_iff_toInt_le, Int32.lt_iff_toInt_lt, ← Int32.toInt_inj, reduceIte, Nat.reduceEqDiff] at *
  all_goals omega
theorem ob_X10_cascade_4_inv1_30 (st : St) (hit : okIt st) : (0 : Int32).toInt ≤ (st.1 7).toInt := by
  have z1 := okIt_7 hit
  have z2 := (by decide : (0 : Int32).toInt = 0)
  have z3 := (by decide : (7 : Int32).toInt = 7)
  clear hit
  try simp only [sA_1, sL_1, sI_1, vp_in_iff, Int32.le_iff_toInt_le, Int32.lt_iff_toInt_lt, ← Int32.toInt_inj, reduceIte, Nat.reduceEqDiff] at *
  all_goals omega
theorem ob_X10_cascade_4_inv2_31 (st : St) (hit : okIt st) : (st.1 7).toInt < (0 : Int32).toInt + ((st.1 7).toInt.toNat + 1) := by
  have z1 := okIt_7 hit
  have z2 := (by decide : (0 : Int32).toInt = 0)
  have z3 := (by decide : (1 : Int32).toInt = 1)
  have z4 := (by decide : (7 : Int32).toInt = 7)
  clear hit
  try simp only [sA_1, sL_1, sI_1, vp_in_iff, Int32.le_iff_toInt_le, Int32.lt_iff_toInt_lt, ← Int32.toInt_inj, reduceIte, Nat.reduceEqDiff] at *
  all_goals omega
theorem ob_X10_cascade_4_inv3_32 (st : St) (hit : okIt st) : okIt st := by
  exact hit
theorem ob_X10_cascade_4_inv4_33 (st : St) (hit : okIt st) : (st.1 7).toInt = (st.1 7).toInt := by
  have z1 := okIt_7 hit
  have z2 := (by decide : (7 : Int32).toInt = 7)
  clear hit
  try simp only [sA_1, sL_1, sI_1, vp_in_iff, Int32.le_iff_toInt_le, Int32.lt_iff_toInt_lt, ← Int32.toInt_inj, reduceIte, Nat.reduceEqDiff] at *
  all_goals omega
theorem ob_X10_due_4_zero (st : St) (a1 : Int32) (x3_4 : Int32) (x2_4 : Int32) (hok : okM st) (hva1 : vp_in a1 100) (hi0_4 : 0 ≤ x3_4.toInt) (hi1_4 : x3_4.toInt ≤ (st.1 5).toInt) (hi2_4 : (st.1 5).toInt < x3_4.toInt + 0) : False := by
  have z1 := okM_5 hok
  have z2 := (by decide : (0 : Int32).toInt = 0)
  have z3 := (by decide : (5 : Int32).toInt = 5)
  have z4 := (by decide : (100 : Int32).toInt = 100)
  clear hok
  try simp only [sA_1, sL_1, sI_1, vp_in_iff, Int32.le_iff_toInt_le, Int32.lt_iff_toInt_lt, ← Int32.toInt_inj, reduceIte, Nat.reduceEqDiff] at *
  all_goals omega
theorem ob_X10_due_124_3 (st : St) (a1 : Int32) (n_4 : Nat) (x3_4 : Int32) (x2_4 : Int32) (hok : okM st) (hva1 : vp_in a1 100) (hi0_4 : 0 ≤ x3_4.toInt) (hi1_4 : x3_4.toInt ≤ (st.1 5).toInt) (hi2_4 : (st.1 5).toInt < x3_4.toInt + (n_4 + 1)) (h9_1 : st.1 5 ≤ x3_4) (h107_2 : 0 ≤ x2_4) : vp_in a1 100 := by
  have z1 := (by decide : (100 : Int32).toInt = 100)
  clear hi0_4 hi1_4 hi2_4 h9_1 h107_2 hok
  try simp only [sA_1, sL_1, sI_1, vp_in_iff, Int32.le_iff_toInt_le, Int32.lt_iff_toInt_lt, ← Int32.toInt_inj, reduceIte, Nat.reduceEqDiff] at *
  all_goals omega
theorem ob_X10_due_125_4 (st : St) (a1 : Int32) (n_4 : Nat) (x3_4 : Int32) (x2_4 : Int32) (hok : okM st) (hva1 : vp_in a1 100) (hi0_4 : 0 ≤ x3_4.toInt) (hi1_4 : x3_4.toInt ≤ (st.1 5).toInt) (hi2_4 : (st.1 5).toInt < x3_4.toInt + (n_4 + 1)) (h9_1 : st.1 5 ≤ x3_4) (h107_2 : 0 ≤ x2_4) : vp_in (st.2.1 20 a1.toNatClampNeg) 8 := by
  exact okM_kind hok _
theorem ob_X10_due_17_5 (st : St) (a1 : Int32) (n_4 : Nat) (x3_4 : Int32) (x2_4 : Int32) (hok : okM st) (hva1 : vp_in a1 100) (hi0_4 : 0 ≤ x3_4.toInt) (hi1_4 : x3_4.toInt ≤ (st.1 5).toInt) (hi2_4 : (st.1 5).toInt < x3_4.toInt + (n_4 + 1)) (h9_1 : ¬ st.1 5 ≤ x3_4) : vp_in a1 100 := by
  have z1 := (by decide : (100 : Int32).toInt = 100)
  clear hi0_4 hi1_4 hi2_4 h9_1 hok
  try simp only [sA_1, sL_1, sI_1, vp_in_iff, Int32.le_iff_toInt_le, Int32.lt_iff_toInt_lt, ← Int32.toInt_inj, reduceIte, Nat.reduceEqDiff] at *
  all_goals omega
theorem ob_X10_due_4_inv0_7 (st : St) (a1 : Int32) (n_4 : Nat) (x3_4 : Int32) (x2_4 : Int32) (hok : okM st) (hva1 : vp_in a1 100) (hi0_4 : 0 ≤ x3_4.toInt) (hi1_4 : x3_4.toInt ≤ (st.1 5).toInt) (hi2_4 : (st.1 5).toInt < x3_4.toInt + (n_4 + 1)) (h9_1 : ¬ st.1 5 ≤ x3_4) (h19_6 : ¬ st.2.1 23 a1.toNatClampNeg = (-1)) : 0 ≤ (x3_4 + 1).toInt := by
  have z1 := okM_5 hok
  have z2 := (by decide : (0 : Int32).toInt = 0)
  have z3 := (by decide : (1 : Int32).toInt = 1)
  have z4 := (by decide : (5 : Int32).toInt = 5)
  have z5 := inc_I x3_4
  clear hva1 h19_6 hok
  try simp only [sA_1, sL_1, sI_1, vp_in_iff, Int32.le_iff_toInt_le, Int32.lt_iff_toInt_lt, ← Int32.toInt_inj, reduceIte, Nat.reduceEqDiff] at *
  all_goals omega
theorem ob_X10_due_4_inv1_8 (st : St) (a1 : Int32) (n_4 : Nat) (x3_4 : Int32) (x2_4 : Int32) (hok : okM st) (hva1 : vp_in a1 100) (hi0_4 : 0 ≤ x3_4.toInt) (hi1_4 : x3_4.toInt ≤ (st.1 5).toInt) (hi2_4 : (st.1 5).toInt < x3_4.toInt + (n_4 + 1)) (h9_1 : ¬ st.1 5 ≤ x3_4) (h19_6 : ¬ st.2.1 23 a1.toNatClampNeg = (-1)) : (x3_4 + 1).toInt ≤ (st.1 5).toInt := by
  have z1 := okM_5 hok
  have z2 := (by decide : (0 : Int32).toInt = 0)
  have z3 := (by decide : (1 : Int32).toInt = 1)
  have z4 := (by decide : (5 : Int32).toInt = 5)
  have z5 := inc_I x3_4
  clear hva1 h19_6 hok
  try simp only [sA_1, sL_1, sI_1, vp_in_iff, Int32.le_iff_toInt_le, Int32.lt_iff_toInt_lt, ← Int32.toInt_inj, reduceIte, Nat.reduceEqDiff] at *
  all_goals omega
theorem ob_X10_due_4_inv2_9 (st : St) (a1 : Int32) (n_4 : Nat) (x3_4 : Int32) (x2_4 : Int32) (hok : okM st) (hva1 : vp_in a1 100) (hi0_4 : 0 ≤ x3_4.toInt) (hi1_4 : x3_4.toInt ≤ (st.1 5).toInt) (hi2_4 : (st.1 5).toInt < x3_4.toInt + (n_4 + 1)) (h9_1 : ¬ st.1 5 ≤ x3_4) (h19_6 : ¬ st.2.1 23 a1.toNatClampNeg = (-1)) : (st.1 5).toInt < (x3_4 + 1).toInt + n_4 := by
  have z1 := okM_5 hok
  have z2 := (by decide : (0 : Int32).toInt = 0)
  have z3 := (by decide : (1 : Int32).toInt = 1)
  have z4 := (by decide : (5 : Int32).toInt = 5)
  have z5 := inc_I x3_4
  clear hva1 h19_6 hok
  try simp only [sA_1, sL_1, sI_1, vp_in_iff, Int32.le_iff_toInt_le, Int32.lt_iff_toInt_lt, ← Int32.toInt_inj, reduceIte, Nat.reduceEqDiff] at *
  all_goals omega
theorem ob_X10_due_27_10 (st : St) (a1 : Int32) (n_4 : Nat) (x3_4 : Int32) (x2_4 : Int32) (hok : okM st) (hva1 : vp_in a1 100) (hi0_4 : 0 ≤ x3_4.toInt) (hi1_4 : x3_4.toInt ≤ (st.1 5).toInt) (hi2_4 : (st.1 5).toInt < x3_4.toInt + (n_4 + 1)) (h9_1 : ¬ st.1 5 ≤ x3_4) (h19_6 : st.2.1 23 a1.toNatClampNeg = (-1)) : vp_in a1 100 := by
  have z1 := (by decide : (1 : Int32).toInt = 1)
  have z2 := (by decide : (23 : Int32).toInt = 23)
  have z3 := (by decide : (100 : Int32).toInt = 100)
  have z4 := (by decide : (-1 : Int32).toInt = -1)
  clear hi0_4 hi1_4 hi2_4 h9_1 hok
  try simp only [sA_1, sL_1, sI_1, vp_in_iff, Int32.le_iff_toInt_le, Int32.lt_iff_toInt_lt, ← Int32.toInt_inj, reduceIte, Nat.reduceEqDiff] at *
  all_goals omega
theorem ob_X10_due_33_11 (st : St) (a1 : Int32) (n_4 : Nat) (x3_4 : Int32) (x2_4 : Int32) (hok : okM st) (hva1 : vp_in a1 100) (hi0_4 : 0 ≤ x3_4.toInt) (hi1_4 : x3_4.toInt ≤ (st.1 5).toInt) (hi2_4 : (st.1 5).toInt < x3_4.toInt + (n_4 + 1)) (h9_1 : ¬ st.1 5 ≤ x3_4) (h19_6 : st.2.1 23 a1.toNatClampNeg = (-1)) : vp_in x3_4 60 := by
  have z1 := okM_5 hok
  have z2 := (by decide : (0 : Int32).toInt = 0)
  have z3 := (by decide : (1 : Int32).toInt = 1)
  have z4 := (by decide : (5 : Int32).toInt = 5)
  have z5 := (by decide : (60 : Int32).toInt = 60)
  clear hva1 h19_6 hok
  try simp only [sA_1, sL_1, sI_1, vp_in_iff, Int32.le_iff_toInt_le, Int32.lt_iff_toInt_lt, ← Int32.toInt_inj, reduceIte, Nat.reduceEqDiff] at *
  all_goals omega
theorem ob_X10_due_4_inv0_13 (st : St) (a1 : Int32) (n_4 : Nat) (x3_4 : Int32) (x2_4 : Int32) (hok : okM st) (hva1 : vp_in a1 100) (hi0_4 : 0 ≤ x3_4.toInt) (hi1_4 : x3_4.toInt ≤ (st.1 5).toInt) (hi2_4 : (st.1 5).toInt < x3_4.toInt + (n_4 + 1)) (h9_1 : ¬ st.1 5 ≤ x3_4) (h19_6 : st.2.1 23 a1.toNatClampNeg = (-1)) (h38_12 : ¬ ((st.2.1 22 a1.toNatClampNeg) >>> ((st.2.1 13 x3_4.toNatClampNeg) &&& 31)) &&& 1 = 1) : 0 ≤ (x3_4 + 1).toInt := by
  have z1 := okM_5 hok
  have z2 := (by decide : (0 : Int32).toInt = 0)
  have z3 := (by decide : (1 : Int32).toInt = 1)
  have z4 := (by decide : (5 : Int32).toInt = 5)
  have z5 := (by decide : (13 : Int32).toInt = 13)
  have z6 := (by decide : (22 : Int32).toInt = 22)
  have z7 := (by decide : (31 : Int32).toInt = 31)
  have z8 := inc_I x3_4
  clear hva1 h19_6 hok
  try simp only [sA_1, sL_1, sI_1, vp_in_iff, Int32.le_iff_toInt_le, Int32.lt_iff_toInt_lt, ← Int32.toInt_inj, reduceIte, Nat.reduceEqDiff] at *
  all_goals omega
theorem ob_X10_due_4_inv1_14 (st : St) (a1 : Int32) (n_4 : Nat) (x3_4 : Int32) (x2_4 : Int32) (hok : okM st) (hva1 : vp_in a1 100) (hi0_4 : 0 ≤ x3_4.toInt) (hi1_4 : x3_4.toInt ≤ (st.1 5).toInt) (hi2_4 : (st.1 5).toInt < x3_4.toInt + (n_4 + 1)) (h9_1 : ¬ st.1 5 ≤ x3_4) (h19_6 : st.2.1 23 a1.toNatClampNeg = (-1)) (h38_12 : ¬ ((st.2.1 22 a1.toNatClampNeg) >>> ((st.2.1 13 x3_4.toNatClampNeg) &&& 31)) &&& 1 = 1) : (x3_4 + 1).toInt ≤ (st.1 5).toInt := by
  have z1 := okM_5 hok
  have z2 := (by decide : (0 : Int32).toInt = 0)
  have z3 := (by decide : (1 : Int32).toInt = 1)
  have z4 := (by decide : (5 : Int32).toInt = 5)
  have z5 := (by decide : (13 : Int32).toInt = 13)
  have z6 := (by decide : (22 : Int32).toInt = 22)
  have z7 := (by decide : (31 : Int32).toInt = 31)
  have z8 := inc_I x3_4
  clear hva1 h19_6 hok
  try simp only [sA_1, sL_1, sI_1, vp_in_iff, Int32.le_iff_toInt_le, Int32.lt_iff_toInt_lt, ← Int32.toInt_inj, reduceIte, Nat.reduceEqDiff] at *
  all_goals omega
theorem ob_X10_due_4_inv2_15 (st : St) (a1 : Int32) (n_4 : Nat) (x3_4 : Int32) (x2_4 : Int32) (hok : okM st) (hva1 : vp_in a1 100) (hi0_4 : 0 ≤ x3_4.toInt) (hi1_4 : x3_4.toInt ≤ (st.1 5).toInt) (hi2_4 : (st.1 5).toInt < x3_4.toInt + (n_4 + 1)) (h9_1 : ¬ st.1 5 ≤ x3_4) (h19_6 : st.2.1 23 a1.toNatClampNeg = (-1)) (h38_12 : ¬ ((st.2.1 22 a1.toNatClampNeg) >>> ((st.2.1 13 x3_4.toNatClampNeg) &&& 31)) &&& 1 = 1) : (st.1 5).toInt < (x3_4 + 1).toInt + n_4 := by
  have z1 := okM_5 hok
  have z2 := (by decide : (0 : Int32).toInt = 0)
  have z3 := (by decide : (1 : Int32).toInt = 1)
  have z4 := (by decide : (5 : Int32).toInt = 5)
  have z5 := (by decide : (13 : Int32).toInt = 13)
  have z6 := (by decide : (22 : Int32).toInt = 22)
  have z7 := (by decide : (31 : Int32).toInt = 31)
  have z8 := inc_I x3_4
  clear hva1 h19_6 hok
  try simp only [sA_1, sL_1, sI_1, vp_in_iff, Int32.le_iff_toInt_le, Int32.lt_iff_toInt_lt, ← Int32.toInt_inj, reduceIte, Nat.reduceEqDiff] at *
  all_goals omega
theorem ob_X10_due_46_16 (st : St) (a1 : Int32) (n_4 : Nat) (x3_4 : Int32) (x2_4 : Int32) (hok : okM st) (hva1 : vp_in a1 100) (hi0_4 : 0 ≤ x3_4.toInt) (hi1_4 : x3_4.toInt ≤ (st.1 5).toInt) (hi2_4 : (st.1 5).toInt < x3_4.toInt + (n_4 + 1)) (h9_1 : ¬ st.1 5 ≤ x3_4) (h19_6 : st.2.1 23 a1.toNatClampNeg = (-1)) (h38_12 : ((st.2.1 22 a1.toNatClampNeg) >>> ((st.2.1 13 x3_4.toNatClampNeg) &&& 31)) &&& 1 = 1) : vp_in x3_4 60 := by
  have z1 := okM_5 hok
  have z2 := (by decide : (0 : Int32).toInt = 0)
  have z3 := (by decide : (1 : Int32).toInt = 1)
  have z4 := (by decide : (5 : Int32).toInt = 5)
  have z5 := (by decide : (13 : Int32).toInt = 13)
  have z6 := (by decide : (22 : Int32).toInt = 22)
  have z7 := (by decide : (31 : Int32).toInt = 31)
  have z8 := (by decide : (60 : Int32).toInt = 60)
  clear hva1 h19_6 hok
  try simp only [sA_1, sL_1, sI_1, vp_in_iff, Int32.le_iff_toInt_le, Int32.lt_iff_toInt_lt, ← Int32.toInt_inj, reduceIte, Nat.reduceEqDiff] at *
  all_goals omega
theorem ob_X10_due_52_17 (st : St) (a1 : Int32) (n_4 : Nat) (x3_4 : Int32) (x2_4 : Int32) (hok : okM st) (hva1 : vp_in a1 100) (hi0_4 : 0 ≤ x3_4.toInt) (hi1_4 : x3_4.toInt ≤ (st.1 5).toInt) (hi2_4 : (st.1 5).toInt < x3_4.toInt + (n_4 + 1)) (h9_1 : ¬ st.1 5 ≤ x3_4) (h19_6 : st.2.1 23 a1.toNatClampNeg = (-1)) (h38_12 : ((st.2.1 22 a1.toNatClampNeg) >>> ((st.2.1 13 x3_4.toNatClampNeg) &&& 31)) &&& 1 = 1) : vp_in a1 100 := by
  have z1 := (by decide : (1 : Int32).toInt = 1)
  have z2 := (by decide : (13 : Int32).toInt = 13)
  have z3 := (by decide : (22 : Int32).toInt = 22)
  have z4 := (by decide : (23 : Int32).toInt = 23)
  have z5 := (by decide : (31 : Int32).toInt = 31)
  have z6 := (by decide : (100 : Int32).toInt = 100)
  have z7 := (by decide : (-1 : Int32).toInt = -1)
  clear hi0_4 hi1_4 hi2_4 h9_1 hok
  try simp only [sA_1, sL_1, sI_1, vp_in_iff, Int32.le_iff_toInt_le, Int32.lt_iff_toInt_lt, ← Int32.toInt_inj, reduceIte, Nat.reduceEqDiff] at *
  all_goals omega
theorem ob_X10_due_4_inv0_19 (st : St) (a1 : Int32) (n_4 : Nat) (x3_4 : Int32) (x2_4 : Int32) (hok : okM st) (hva1 : vp_in a1 100) (hi0_4 : 0 ≤ x3_4.toInt) (hi1_4 : x3_4.toInt ≤ (st.1 5).toInt) (hi2_4 : (st.1 5).toInt < x3_4.toInt + (n_4 + 1)) (h9_1 : ¬ st.1 5 ≤ x3_4) (h19_6 : st.2.1 23 a1.toNatClampNeg = (-1)) (h38_12 : ((st.2.1 22 a1.toNatClampNeg) >>> ((st.2.1 13 x3_4.toNatClampNeg) &&& 31)) &&& 1 = 1) (h53_18 : ¬ st.2.1 14 x3_4.toNatClampNeg = st.2.1 20 a1.toNatClampNeg) : 0 ≤ (x3_4 + 1).toInt := by
  have z1 := okM_5 hok
  have z2 := (by decide : (0 : Int32).toInt = 0)
  have z3 := (by decide : (1 : Int32).toInt = 1)
  have z4 := (by decide : (5 : Int32).toInt = 5)
  have z5 := (by decide : (13 : Int32).toInt = 13)
  have z6 := (by decide : (14 : Int32).toInt = 14)
  have z7 := (by decide : (20 : Int32).toInt = 20)
  have z8 := (by decide : (22 : Int32).toInt = 22)
  have z9 := (by decide : (31 : Int32).toInt = 31)
  have z10 := inc_I x3_4
  clear hva1 h19_6 hok
  try simp only [sA_1, sL_1, sI_1, vp_in_iff, Int32.le_iff_toInt_le, Int32.lt_iff_toInt_lt, ← Int32.toInt_inj, reduceIte, Nat.reduceEqDiff] at *
  all_goals omega
theorem ob_X10_due_4_inv1_20 (st : St) (a1 : Int32) (n_4 : Nat) (x3_4 : Int32) (x2_4 : Int32) (hok : okM st) (hva1 : vp_in a1 100) (hi0_4 : 0 ≤ x3_4.toInt) (hi1_4 : x3_4.toInt ≤ (st.1 5).toInt) (hi2_4 : (st.1 5).toInt < x3_4.toInt + (n_4 + 1)) (h9_1 : ¬ st.1 5 ≤ x3_4) (h19_6 : st.2.1 23 a1.toNatClampNeg = (-1)) (h38_12 : ((st.2.1 22 a1.toNatClampNeg) >>> ((st.2.1 13 x3_4.toNatClampNeg) &&& 31)) &&& 1 = 1) (h53_18 : ¬ st.2.1 14 x3_4.toNatClampNeg = st.2.1 20 a1.toNatClampNeg) : (x3_4 + 1).toInt ≤ (st.1 5).toInt := by
  have z1 := okM_5 hok
  have z2 := (by decide : (0 : Int32).toInt = 0)
  have z3 := (by decide : (1 : Int32).toInt = 1)
  have z4 := (by decide : (5 : Int32).toInt = 5)
  have z5 := (by decide : (13 : Int32).toInt = 13)
  have z6 := (by decide : (14 : Int32).toInt = 14)
  have z7 := (by decide : (20 : Int32).toInt = 20)
  have z8 := (by decide : (22 : Int32).toInt = 22)
  have z9 := (by decide : (31 : Int32).toInt = 31)
  have z10 := inc_I x3_4
  clear hva1 h19_6 hok
  try simp only [sA_1, sL_1, sI_1, vp_in_iff, Int32.le_iff_toInt_le, Int32.lt_iff_toInt_lt, ← Int32.toInt_inj, reduceIte, Nat.reduceEqDiff] at *
  all_goals omega
theorem ob_X10_due_4_inv2_21 (st : St) (a1 : Int32) (n_4 : Nat) (x3_4 : Int32) (x2_4 : Int32) (hok : okM st) (hva1 : vp_in a1 100) (hi0_4 : 0 ≤ x3_4.toInt) (hi1_4 : x3_4.toInt ≤ (st.1 5).toInt) (hi2_4 : (st.1 5).toInt < x3_4.toInt + (n_4 + 1)) (h9_1 : ¬ st.1 5 ≤ x3_4) (h19_6 : st.2.1 23 a1.toNatClampNeg = (-1)) (h38_12 : ((st.2.1 22 a1.toNatClampNeg) >>> ((st.2.1 13 x3_4.toNatClampNeg) &&& 31)) &&& 1 = 1) (h53_18 : ¬ st.2.1 14 x3_4.toNatClampNeg = st.2.1 20 a1.toNatClampNeg) : (st.1 5).toInt < (x3_4 + 1).toInt + n_4 := by
  have z1 := okM_5 hok
  have z2 := (by decide : (0 : Int32).toInt = 0)
  have z3 := (by decide : (1 : Int32).toInt = 1)
  have z4 := (by decide : (5 : Int32).toInt = 5)
  have z5 := (by decide : (13 : Int32).toInt = 13)
  have z6 := (by decide : (14 : Int32).toInt = 14)
  have z7 := (by decide : (20 : Int32).toInt = 20)
  have z8 := (by decide : (22 : Int32).toInt = 22)
  have z9 := (by decide : (31 : Int32).toInt = 31)
  have z10 := inc_I x3_4
  clear hva1 h19_6 hok
  try simp only [sA_1, sL_1, sI_1, vp_in_iff, Int32.le_iff_toInt_le, Int32.lt_iff_toInt_lt, ← Int32.toInt_inj, reduceIte, Nat.reduceEqDiff] at *
  all_goals omega
theorem ob_X10_due_61_22 (st : St) (a1 : Int32) (n_4 : Nat) (x3_4 : Int32) (x2_4 : Int32) (hok : okM st) (hva1 : vp_in a1 100) (hi0_4 : 0 ≤ x3_4.toInt) (hi1_4 : x3_4.toInt ≤ (st.1 5).toInt) (hi2_4 : (st.1 5).toInt < x3_4.toInt + (n_4 + 1)) (h9_1 : ¬ st.1 5 ≤ x3_4) (h19_6 : st.2.1 23 a1.toNatClampNeg = (-1)) (h38_12 : ((st.2.1 22 a1.toNatClampNeg) >>> ((st.2.1 13 x3_4.toNatClampNeg) &&& 31)) &&& 1 = 1) (h53_18 : st.2.1 14 x3_4.toNatClampNeg = st.2.1 20 a1.toNatClampNeg) : vp_in x3_4 60 := by
  have z1 := okM_5 hok
  have z2 := (by decide : (0 : Int32).toInt = 0)
  have z3 := (by decide : (1 : Int32).toInt = 1)
  have z4 := (by decide : (5 : Int32).toInt = 5)
  have z5 := (by decide : (13 : Int32).toInt = 13)
  have z6 := (by decide : (14 : Int32).toInt = 14)
  have z7 := (by decide : (20 : Int32).toInt = 20)
  have z8 := (by decide : (22 : Int32).toInt = 22)
  have z9 := (by decide : (31 : Int32).toInt = 31)
  have z10 := (by decide : (60 : Int32).toInt = 60)
  clear hva1 h19_6 hok
  try simp only [sA_1, sL_1, sI_1, vp_in_iff, Int32.le_iff_toInt_le, Int32.lt_iff_toInt_lt, ← Int32.toInt_inj, reduceIte, Nat.reduceEqDiff] at *
  all_goals omega
theorem ob_X10_due_67_23 (st : St) (a1 : Int32) (n_4 : Nat) (x3_4 : Int32) (x2_4 : Int32) (hok : okM st) (hva1 : vp_in a1 100) (hi0_4 : 0 ≤ x3_4.toInt) (hi1_4 : x3_4.toInt ≤ (st.1 5).toInt) (hi2_4 : (st.1 5).toInt < x3_4.toInt + (n_4 + 1)) (h9_1 : ¬ st.1 5 ≤ x3_4) (h19_6 : st.2.1 23 a1.toNatClampNeg = (-1)) (h38_12 : ((st.2.1 22 a1.toNatClampNeg) >>> ((st.2.1 13 x3_4.toNatClampNeg) &&& 31)) &&& 1 = 1) (h53_18 : st.2.1 14 x3_4.toNatClampNeg = st.2.1 20 a1.toNatClampNeg) : vp_in a1 100 := by
  have z1 := (by decide : (1 : Int32).toInt = 1)
  have z2 := (by decide : (13 : Int32).toInt = 13)
  have z3 := (by decide : (14 : Int32).toInt = 14)
  have z4 := (by decide : (20 : Int32).toInt = 20)
  have z5 := (by decide : (22 : Int32).toInt = 22)
  have z6 := (by decide : (23 : Int32).toInt = 23)
  have z7 := (by decide : (31 : Int32).toInt = 31)
  have z8 := (by decide : (100 : Int32).toInt = 100)
  have z9 := (by decide : (-1 : Int32).toInt = -1)
  clear hi0_4 hi1_4 hi2_4 h9_1 hok
  try simp only [sA_1, sL_1, sI_1, vp_in_iff, Int32.le_iff_toInt_le, Int32.lt_iff_toInt_lt, ← Int32.toInt_inj, reduceIte, Nat.reduceEqDiff] at *
  all_goals omega
theorem ob_X10_due_4_inv0_25 (st : St) (a1 : Int32) (n_4 : Nat) (x3_4 : Int32) (x2_4 : Int32) (hok : okM st) (hva1 : vp_in a1 100) (hi0_4 : 0 ≤ x3_4.toInt) (hi1_4 : x3_4.toInt ≤ (st.1 5).toInt) (hi2_4 : (st.1 5).toInt < x3_4.toInt + (n_4 + 1)) (h9_1 : ¬ st.1 5 ≤ x3_4) (h19_6 : st.2.1 23 a1.toNatClampNeg = (-1)) (h38_12 : ((st.2.1 22 a1.toNatClampNeg) >>> ((st.2.1 13 x3_4.toNatClampNeg) &&& 31)) &&& 1 = 1) (h53_18 : st.2.1 14 x3_4.toNatClampNeg = st.2.1 20 a1.toNatClampNeg) (h68_24 : st.2.1 15 x3_4.toNatClampNeg < st.2.1 21 a1.toNatClampNeg) : 0 ≤ (x3_4 + 1).toInt := by
  have z1 := okM_5 hok
  have z2 := (by decide : (0 : Int32).toInt = 0)
  have z3 := (by decide : (1 : Int32).toInt = 1)
  have z4 := (by decide : (5 : Int32).toInt = 5)
  have z5 := (by decide : (13 : Int32).toInt = 13)
  have z6 := (by decide : (14 : Int32).toInt = 14)
  have z7 := (by decide : (15 : Int32).toInt = 15)
  have z8 := (by decide : (20 : Int32).toInt = 20)
  have z9 := (by decide : (21 : Int32).toInt = 21)
  have z10 := (by decide : (22 : Int32).toInt = 22)
  have z11 := (by decide : (31 : Int32).toInt = 31)
  have z12 := inc_I x3_4
  clear hva1 h19_6 hok
  try simp only [sA_1, sL_1, sI_1, vp_in_iff, Int32.le_iff_toInt_le, Int32.lt_iff_toInt_lt, ← Int32.toInt_inj, reduceIte, Nat.reduceEqDiff] at *
  all_goals omega
theorem ob_X10_due_4_inv1_26 (st : St) (a1 : Int32) (n_4 : Nat) (x3_4 : Int32) (x2_4 : Int32) (hok : okM st) (hva1 : vp_in a1 100) (hi0_4 : 0 ≤ x3_4.toInt) (hi1_4 : x3_4.toInt ≤ (st.1 5).toInt) (hi2_4 : (st.1 5).toInt < x3_4.toInt + (n_4 + 1)) (h9_1 : ¬ st.1 5 ≤ x3_4) (h19_6 : st.2.1 23 a1.toNatClampNeg = (-1)) (h38_12 : ((st.2.1 22 a1.toNatClampNeg) >>> ((st.2.1 13 x3_4.toNatClampNeg) &&& 31)) &&& 1 = 1) (h53_18 : st.2.1 14 x3_4.toNatClampNeg = st.2.1 20 a1.toNatClampNeg) (h68_24 : st.2.1 15 x3_4.toNatClampNeg < st.2.1 21 a1.toNatClampNeg) : (x3_4 + 1).toInt ≤ (st.1 5).toInt := by
  have z1 := okM_5 hok
  have z2 := (by decide : (0 : Int32).toInt = 0)
  have z3 := (by decide : (1 : Int32).toInt = 1)
  have z4 := (by decide : (5 : Int32).toInt = 5)
  have z5 := (by decide : (13 : Int32).toInt = 13)
  have z6 := (by decide : (14 : Int32).toInt = 14)
  have z7 := (by decide : (15 : Int32).toInt = 15)
  have z8 := (by decide : (20 : Int32).toInt = 20)
  have z9 := (by decide : (21 : Int32).toInt = 21)
  have z10 := (by decide : (22 : Int32).toInt = 22)
  have z11 := (by decide : (31 : Int32).toInt = 31)
  have z12 := inc_I x3_4
  clear hva1 h19_6 hok
  try simp only [sA_1, sL_1, sI_1, vp_in_iff, Int32.le_iff_toInt_le, Int32.lt_iff_toInt_lt, ← Int32.toInt_inj, reduceIte, Nat.reduceEqDiff] at *
  all_goals omega
theorem ob_X10_due_4_inv2_27 (st : St) (a1 : Int32) (n_4 : Nat) (x3_4 : Int32) (x2_4 : Int32) (hok : okM st) (hva1 : vp_in a1 100) (hi0_4 : 0 ≤ x3_4.toInt) (hi1_4 : x3_4.toInt ≤ (st.1 5).toInt) (hi2_4 : (st.1 5).toInt < x3_4.toInt + (n_4 + 1)) (h9_1 : ¬ st.1 5 ≤ x3_4) (h19_6 : st.2.1 23 a1.toNatClampNeg = (-1)) (h38_12 : ((st.2.1 22 a1.toNatClampNeg) >>> ((st.2.1 13 x3_4.toNatClampNeg) &&& 31)) &&& 1 = 1) (h53_18 : st.2.1 14 x3_4.toNatClampNeg = st.2.1 20 a1.toNatClampNeg) (h68_24 : st.2.1 15 x3_4.toNatClampNeg < st.2.1 21 a1.toNatClampNeg) : (st.1 5).toInt < (x3_4 + 1).toInt + n_4 := by
  have z1 := okM_5 hok
  have z2 := (by decide : (0 : Int32).toInt = 0)
  have z3 := (by decide : (1 : Int32).toInt = 1)
  have z4 := (by decide : (5 : Int32).toInt = 5)
  have z5 := (by decide : (13 : Int32).toInt = 13)
  have z6 := (by decide : (14 : Int32).toInt = 14)
  have z7 := (by decide : (15 : Int32).toInt = 15)
  have z8 := (by decide : (20 : Int32).toInt = 20)
  have z9 := (by decide : (21 : Int32).toInt = 21)
  have z10 := (by decide : (22 : Int32).toInt = 22)
  have z11 := (by decide : (31 : Int32).toInt = 31)
  have z12 := inc_I x3_4
  clear hva1 h19_6 hok
  try simp only [sA_1, sL_1, sI_1, vp_in_iff, Int32.le_iff_toInt_le, Int32.lt_iff_toInt_lt, ← Int32.toInt_inj, reduceIte, Nat.reduceEqDiff] at *
  all_goals omega
theorem ob_X10_due_88_28 (st : St) (a1 : Int32) (n_4 : Nat) (x3_4 : Int32) (x2_4 : Int32) (hok : okM st) (hva1 : vp_in a1 100) (hi0_4 : 0 ≤ x3_4.toInt) (hi1_4 : x3_4.toInt ≤ (st.1 5).toInt) (hi2_4 : (st.1 5).toInt < x3_4.toInt + (n_4 + 1)) (h9_1 : ¬ st.1 5 ≤ x3_4) (h19_6 : st.2.1 23 a1.toNatClampNeg = (-1)) (h38_12 : ((st.2.1 22 a1.toNatClampNeg) >>> ((st.2.1 13 x3_4.toNatClampNeg) &&& 31)) &&& 1 = 1) (h53_18 : st.2.1 14 x3_4.toNatClampNeg = st.2.1 20 a1.toNatClampNeg) (h68_24 : ¬ st.2.1 15 x3_4.toNatClampNeg < st.2.1 21 a1.toNatClampNeg) : vp_in x3_4 60 := by
  have z1 := okM_5 hok
  have z2 := (by decide : (0 : Int32).toInt = 0)
  have z3 := (by decide : (1 : Int32).toInt = 1)
  have z4 := (by decide : (5 : Int32).toInt = 5)
  have z5 := (by decide : (13 : Int32).toInt = 13)
  have z6 := (by decide : (14 : Int32).toInt = 14)
  have z7 := (by decide : (15 : Int32).toInt = 15)
  have z8 := (by decide : (20 : Int32).toInt = 20)
  have z9 := (by decide : (21 : Int32).toInt = 21)
  have z10 := (by decide : (22 : Int32).toInt = 22)
  have z11 := (by decide : (31 : Int32).toInt = 31)
  have z12 := (by decide : (60 : Int32).toInt = 60)
  clear hva1 h19_6 hok
  try simp only [sA_1, sL_1, sI_1, vp_in_iff, Int32.le_iff_toInt_le, Int32.lt_iff_toInt_lt, ← Int32.toInt_inj, reduceIte, Nat.reduceEqDiff] at *
  all_goals omega
theorem ob_X10_due_4_inv0_30 (st : St) (a1 : Int32) (n_4 : Nat) (x3_4 : Int32) (x2_4 : Int32) (hok : okM st) (hva1 : vp_in a1 100) (hi0_4 : 0 ≤ x3_4.toInt) (hi1_4 : x3_4.toInt ≤ (st.1 5).toInt) (hi2_4 : (st.1 5).toInt < x3_4.toInt + (n_4 + 1)) (h9_1 : ¬ st.1 5 ≤ x3_4) (h19_6 : st.2.1 23 a1.toNatClampNeg = (-1)) (h38_12 : ((st.2.1 22 a1.toNatClampNeg) >>> ((st.2.1 13 x3_4.toNatClampNeg) &&& 31)) &&& 1 = 1) (h53_18 : st.2.1 14 x3_4.toNatClampNeg = st.2.1 20 a1.toNatClampNeg) (h68_24 : ¬ st.2.1 15 x3_4.toNatClampNeg < st.2.1 21 a1.toNatClampNeg) (h90_29 : st.2.1 15 x3_4.toNatClampNeg ≤ x2_4) : 0 ≤ (x3_4 + 1).toInt := by
  have z1 := okM_5 hok
  have z2 := (by decide : (0 : Int32).toInt = 0)
  have z3 := (by decide : (1 : Int32).toInt = 1)
  have z4 := (by decide : (5 : Int32).toInt = 5)
  have z5 := (by decide : (13 : Int32).toInt = 13)
  have z6 := (by decide : (14 : Int32).toInt = 14)
  have z7 := (by decide : (15 : Int32).toInt = 15)
  have z8 := (by decide : (20 : Int32).toInt = 20)
  have z9 := (by decide : (21 : Int32).toInt = 21)
  have z10 := (by decide : (22 : Int32).toInt = 22)
  have z11 := (by decide : (31 : Int32).toInt = 31)
  have z12 := inc_I x3_4
  clear hva1 h19_6 hok
  try simp only [sA_1, sL_1, sI_1, vp_in_iff, Int32.le_iff_toInt_le, Int32.lt_iff_toInt_lt, ← Int32.toInt_inj, reduceIte, Nat.reduceEqDiff] at *
  all_goals omega
theorem ob_X10_due_4_inv1_31 (st : St) (a1 : Int32) (n_4 : Nat) (x3_4 : Int32) (x2_4 : Int32) (hok : okM st) (hva1 : vp_in a1 100) (hi0_4 : 0 ≤ x3_4.toInt) (hi1_4 : x3_4.toInt ≤ (st.1 5).toInt) (hi2_4 : (st.1 5).toInt < x3_4.toInt + (n_4 + 1)) (h9_1 : ¬ st.1 5 ≤ x3_4) (h19_6 : st.2.1 23 a1.toNatClampNeg = (-1)) (h38_12 : ((st.2.1 22 a1.toNatClampNeg) >>> ((st.2.1 13 x3_4.toNatClampNeg) &&& 31)) &&& 1 = 1) (h53_18 : st.2.1 14 x3_4.toNatClampNeg = st.2.1 20 a1.toNatClampNeg) (h68_24 : ¬ st.2.1 15 x3_4.toNatClampNeg < st.2.1 21 a1.toNatClampNeg) (h90_29 : st.2.1 15 x3_4.toNatClampNeg ≤ x2_4) : (x3_4 + 1).toInt ≤ (st.1 5).toInt := by
  have z1 := okM_5 hok
  have z2 := (by decide : (0 : Int32).toInt = 0)
  have z3 := (by decide : (1 : Int32).toInt = 1)
  have z4 := (by decide : (5 : Int32).toInt = 5)
  have z5 := (by decide : (13 : Int32).toInt = 13)
  have z6 := (by decide : (14 : Int32).toInt = 14)
  have z7 := (by decide : (15 : Int32).toInt = 15)
  have z8 := (by decide : (20 : Int32).toInt = 20)
  have z9 := (by decide : (21 : Int32).toInt = 21)
  have z10 := (by decide : (22 : Int32).toInt = 22)
  have z11 := (by decide : (31 : Int32).toInt = 31)
  have z12 := inc_I x3_4
  clear hva1 h19_6 hok
  try simp only [sA_1, sL_1, sI_1, vp_in_iff, Int32.le_iff_toInt_le, Int32.lt_iff_toInt_lt, ← Int32.toInt_inj, reduceIte, Nat.reduceEqDiff] at *
  all_goals omega
theorem ob_X10_due_4_inv2_32 (st : St) (a1 : Int32) (n_4 : Nat) (x3_4 : Int32) (x2_4 : Int32) (hok : okM st) (hva1 : vp_in a1 100) (hi0_4 : 0 ≤ x3_4.toInt) (hi1_4 : x3_4.toInt ≤ (st.1 5).toInt) (hi2_4 : (st.1 5).toInt < x3_4.toInt + (n_4 + 1)) (h9_1 : ¬ st.1 5 ≤ x3_4) (h19_6 : st.2.1 23 a1.toNatClampNeg = (-1)) (h38_12 : ((st.2.1 22 a1.toNatClampNeg) >>> ((st.2.1 13 x3_4.toNatClampNeg) &&& 31)) &&& 1 = 1) (h53_18 : st.2.1 14 x3_4.toNatClampNeg = st.2.1 20 a1.toNatClampNeg) (h68_24 : ¬ st.2.1 15 x3_4.toNatClampNeg < st.2.1 21 a1.toNatClampNeg) (h90_29 : st.2.1 15 x3_4.toNatClampNeg ≤ x2_4) : (st.1 5).toInt < (x3_4 + 1).toInt + n_4 := by
  have z1 := okM_5 hok
  have z2 := (by decide : (0 : Int32).toInt = 0)
  have z3 := (by decide : (1 : Int32).toInt = 1)
  have z4 := (by decide : (5 : Int32).toInt = 5)
  have z5 := (by decide : (13 : Int32).toInt = 13)
  have z6 := (by decide : (14 : Int32).toInt = 14)
  have z7 := (by decide : (15 : Int32).toInt = 15)
  have z8 := (by decide : (20 : Int32).toInt = 20)
  have z9 := (by decide : (21 : Int32).toInt = 21)
  have z10 := (by decide : (22 : Int32).toInt = 22)
  have z11 := (by decide : (31 : Int32).toInt = 31)
  have z12 := inc_I x3_4
  clear hva1 h19_6 hok
  try simp only [sA_1, sL_1, sI_1, vp_in_iff, Int32.le_iff_toInt_le, Int32.lt_iff_toInt_lt, ← Int32.toInt_inj, reduceIte, Nat.reduceEqDiff] at *
  all_goals omega
theorem ob_X10_due_98_33 (st : St) (a1 : Int32) (n_4 : Nat) (x3_4 : Int32) (x2_4 : Int32) (hok : okM st) (hva1 : vp_in a1 100) (hi0_4 : 0 ≤ x3_4.toInt) (hi1_4 : x3_4.toInt ≤ (st.1 5).toInt) (hi2_4 : (st.1 5).toInt < x3_4.toInt + (n_4 + 1)) (h9_1 : ¬ st.1 5 ≤ x3_4) (h19_6 : st.2.1 23 a1.toNatClampNeg = (-1)) (h38_12 : ((st.2.1 22 a1.toNatClampNeg) >>> ((st.2.1 13 x3_4.toNatClampNeg) &&& 31)) &&& 1 = 1) (h53_18 : st.2.1 14 x3_4.toNatClampNeg = st.2.1 20 a1.toNatClampNeg) (h68_24 : ¬ st.2.1 15 x3_4.toNatClampNeg < st.2.1 21 a1.toNatClampNeg) (h90_29 : ¬ st.2.1 15 x3_4.toNatClampNeg ≤ x2_4) : vp_in x3_4 60 := by
  have z1 := okM_5 hok
  have z2 := (by decide : (0 : Int32).toInt = 0)
  have z3 := (by decide : (1 : Int32).toInt = 1)
  have z4 := (by decide : (5 : Int32).toInt = 5)
  have z5 := (by decide : (13 : Int32).toInt = 13)
  have z6 := (by decide : (14 : Int32).toInt = 14)
  have z7 := (by decide : (15 : Int32).toInt = 15)
  have z8 := (by decide : (20 : Int32).toInt = 20)
  have z9 := (by decide : (21 : Int32).toInt = 21)
  have z10 := (by decide : (22 : Int32).toInt = 22)
  have z11 := (by decide : (31 : Int32).toInt = 31)
  have z12 := (by decide : (60 : Int32).toInt = 60)
  clear hva1 h19_6 hok
  try simp only [sA_1, sL_1, sI_1, vp_in_iff, Int32.le_iff_toInt_le, Int32.lt_iff_toInt_lt, ← Int32.toInt_inj, reduceIte, Nat.reduceEqDiff] at *
  all_goals omega
theorem ob_X10_due_4_inv0_34 (st : St) (a1 : Int32) (n_4 : Nat) (x3_4 : Int32) (x2_4 : Int32) (hok : okM st) (hva1 : vp_in a1 100) (hi0_4 : 0 ≤ x3_4.toInt) (hi1_4 : x3_4.toInt ≤ (st.1 5).toInt) (hi2_4 : (st.1 5).toInt < x3_4.toInt + (n_4 + 1)) (h9_1 : ¬ st.1 5 ≤ x3_4) (h19_6 : st.2.1 23 a1.toNatClampNeg = (-1)) (h38_12 : ((st.2.1 22 a1.toNatClampNeg) >>> ((st.2.1 13 x3_4.toNatClampNeg) &&& 31)) &&& 1 = 1) (h53_18 : st.2.1 14 x3_4.toNatClampNeg = st.2.1 20 a1.toNatClampNeg) (h68_24 : ¬ st.2.1 15 x3_4.toNatClampNeg < st.2.1 21 a1.toNatClampNeg) (h90_29 : ¬ st.2.1 15 x3_4.toNatClampNeg ≤ x2_4) : 0 ≤ (x3_4 + 1).toInt := by
  have z1 := okM_5 hok
  have z2 := (by decide : (0 : Int32).toInt = 0)
  have z3 := (by decide : (1 : Int32).toInt = 1)
  have z4 := (by decide : (5 : Int32).toInt = 5)
  have z5 := (by decide : (13 : Int32).toInt = 13)
  have z6 := (by decide : (14 : Int32).toInt = 14)
  have z7 := (by decide : (15 : Int32).toInt = 15)
  have z8 := (by decide : (20 : Int32).toInt = 20)
  have z9 := (by decide : (21 : Int32).toInt = 21)
  have z10 := (by decide : (22 : Int32).toInt = 22)
  have z11 := (by decide : (31 : Int32).toInt = 31)
  have z12 := inc_I x3_4
  clear hva1 h19_6 hok
  try simp only [sA_1, sL_1, sI_1, vp_in_iff, Int32.le_iff_toInt_le, Int32.lt_iff_toInt_lt, ← Int32.toInt_inj, reduceIte, Nat.reduceEqDiff] at *
  all_goals omega
theorem ob_X10_due_4_inv1_35 (st : St) (a1 : Int32) (n_4 : Nat) (x3_4 : Int32) (x2_4 : Int32) (hok : okM st) (hva1 : vp_in a1 100) (hi0_4 : 0 ≤ x3_4.toInt) (hi1_4 : x3_4.toInt ≤ (st.1 5).toInt) (hi2_4 : (st.1 5).toInt < x3_4.toInt + (n_4 + 1)) (h9_1 : ¬ st.1 5 ≤ x3_4) (h19_6 : st.2.1 23 a1.toNatClampNeg = (-1)) (h38_12 : ((st.2.1 22 a1.toNatClampNeg) >>> ((st.2.1 13 x3_4.toNatClampNeg) &&& 31)) &&& 1 = 1) (h53_18 : st.2.1 14 x3_4.toNatClampNeg = st.2.1 20 a1.toNatClampNeg) (h68_24 : ¬ st.2.1 15 x3_4.toNatClampNeg < st.2.1 21 a1.toNatClampNeg) (h90_29 : ¬ st.2.1 15 x3_4.toNatClampNeg ≤ x2_4) : (x3_4 + 1).toInt ≤ (st.1 5).toInt := by
  have z1 := okM_5 hok
  have z2 := (by decide : (0 : Int32).toInt = 0)
  have z3 := (by decide : (1 : Int32).toInt = 1)
  have z4 := (by decide : (5 : Int32).toInt = 5)
  have z5 := (by decide : (13 : Int32).toInt = 13)
  have z6 := (by decide : (14 : Int32).toInt = 14)
  have z7 := (by decide : (15 : Int32).toInt = 15)
  have z8 := (by decide : (20 : Int32).toInt = 20)
  have z9 := (by decide : (21 : Int32).toInt = 21)
  have z10 := (by decide : (22 : Int32).toInt = 22)
  have z11 := (by decide : (31 : Int32).toInt = 31)
  have z12 := inc_I x3_4
  clear hva1 h19_6 hok
  try simp only [sA_1, sL_1, sI_1, vp_in_iff, Int32.le_iff_toInt_le, Int32.lt_iff_toInt_lt, ← Int32.toInt_inj, reduceIte, Nat.reduceEqDiff] at *
  all_goals omega
theorem ob_X10_due_4_inv2_36 (st : St) (a1 : Int32) (n_4 : Nat) (x3_4 : Int32) (x2_4 : Int32) (hok : okM st) (hva1 : vp_in a1 100) (hi0_4 : 0 ≤ x3_4.toInt) (hi1_4 : x3_4.toInt ≤ (st.1 5).toInt) (hi2_4 : (st.1 5).toInt < x3_4.toInt + (n_4 + 1)) (h9_1 : ¬ st.1 5 ≤ x3_4) (h19_6 : st.2.1 23 a1.toNatClampNeg = (-1)) (h38_12 : ((st.2.1 22 a1.toNatClampNeg) >>> ((st.2.1 13 x3_4.toNatClampNeg) &&& 31)) &&& 1 = 1) (h53_18 : st.2.1 14 x3_4.toNatClampNeg = st.2.1 20 a1.toNatClampNeg) (h68_24 : ¬ st.2.1 15 x3_4.toNatClampNeg < st.2.1 21 a1.toNatClampNeg) (h90_29 : ¬ st.2.1 15 x3_4.toNatClampNeg ≤ x2_4) : (st.1 5).toInt < (x3_4 + 1).toInt + n_4 := by
  have z1 := okM_5 hok
  have z2 := (by decide : (0 : Int32).toInt = 0)
  have z3 := (by decide : (1 : Int32).toInt = 1)
  have z4 := (by decide : (5 : Int32).toInt = 5)
  have z5 := (by decide : (13 : Int32).toInt = 13)
  have z6 := (by decide : (14 : Int32).toInt = 14)
  have z7 := (by decide : (15 : Int32).toInt = 15)
  have z8 := (by decide : (20 : Int32).toInt = 20)
  have z9 := (by decide : (21 : Int32).toInt = 21)
  have z10 := (by decide : (22 : Int32).toInt = 22)
  have z11 := (by decide : (31 : Int32).toInt = 31)
  have z12 := inc_I x3_4
  clear hva1 h19_6 hok
  try simp only [sA_1, sL_1, sI_1, vp_in_iff, Int32.le_iff_toInt_le, Int32.lt_iff_toInt_lt, ← Int32.toInt_inj, reduceIte, Nat.reduceEqDiff] at *
  all_goals omega
theorem ob_X10_due_4_inv0_37 (st : St) (a1 : Int32) (hok : okM st) (hva1 : vp_in a1 100) : 0 ≤ (0 : Int32).toInt := by
  have z1 := (by decide : (0 : Int32).toInt = 0)
  clear hva1 hok
  try simp only [sA_1, sL_1, sI_1, vp_in_iff, Int32.le_iff_toInt_le, Int32.lt_iff_toInt_lt, ← Int32.toInt_inj, reduceIte, Nat.reduceEqDiff] at *
  all_goals omega
theorem ob_X10_due_4_inv1_38 (st : St) (a1 : Int32) (hok : okM st) (hva1 : vp_in a1 100) : (0 : Int32).toInt ≤ (st.1 5).toInt := by
  have z1 := okM_5 hok
  have z2 := (by decide : (0 : Int32).toInt = 0)
  have z3 := (by decide : (5 : Int32).toInt = 5)
  clear hva1 hok
  try simp only [sA_1, sL_1, sI_1, vp_in_iff, Int32.le_iff_toInt_le, Int32.lt_iff_toInt_lt, ← Int32.toInt_inj, reduceIte, Nat.reduceEqDiff] at *
  all_goals omega
theorem ob_X10_due_4_inv2_39 (st : St) (a1 : Int32) (hok : okM st) (hva1 : vp_in a1 100) : (st.1 5).toInt < (0 : Int32).toInt + ((st.1 5).toInt.toNat + 1) := by
  have z1 := okM_5 hok
  have z2 := (by decide : (0 : Int32).toInt = 0)
  have z3 := (by decide : (1 : Int32).toInt = 1)
  have z4 := (by decide : (5 : Int32).toInt = 5)
  clear hva1 hok
  try simp only [sA_1, sL_1, sI_1, vp_in_iff, Int32.le_iff_toInt_le, Int32.lt_iff_toInt_lt, ← Int32.toInt_inj, reduceIte, Nat.reduceEqDiff] at *
  all_goals omega
theorem ob_X10_eraseOf_10_zero (st : St) (a1 : Int32) (a2 : Int32) (st_10 : St) (x4_10 : Int32) (x3_10 : Int32) (hok : okM st) (hi0_10 : 0 ≤ x4_10.toInt) (hi1_10 : x4_10.toInt ≤ (st.1 7).toInt) (hi2_10 : (st.1 7).toInt < x4_10.toInt + 0) (hi3_10 : okM st_10) (hi4_10 : (st_10.1 7).toInt = (st.1 7).toInt) : False := by
  have z1 := okM_7 hok
  have z2 := okM_7 hi3_10
  have z3 := (by decide : (0 : Int32).toInt = 0)
  have z4 := (by decide : (7 : Int32).toInt = 7)
  clear hok hi3_10
  try simp only [sA_1, sL_1, sI_1, vp_in_iff, Int32.le_iff_toInt_le, Int32.lt_iff_toInt_lt, ← Int32.toInt_inj, reduceIte, Nat.reduceEqDiff] at *
  all_goals omega
theorem ob_X10_eraseOf_123_2 (st : St) (a1 : Int32) (a2 : Int32) (n_10 : Nat) (st_10 : St) (x4_10 : Int32) (x3_10 : Int32) (hok : okM st) (hi0_10 : 0 ≤ x4_10.toInt) (hi1_10 : x4_10.toInt ≤ (st.1 7).toInt) (hi2_10 : (st.1 7).toInt < x4_10.toInt + (n_10 + 1)) (hi3_10 : okM st_10) (hi4_10 : (st_10.1 7).toInt = (st.1 7).toInt) (h16_1 : st_10.1 7 ≤ x4_10) : okIt st_10 := by
  exact hi3_10.2.1
theorem ob_X10_eraseOf_25_3 (st : St) (a1 : Int32) (a2 : Int32) (n_10 : Nat) (st_10 : St) (x4_10 : Int32) (x3_10 : Int32) (hok : okM st) (hi0_10 : 0 ≤ x4_10.toInt) (hi1_10 : x4_10.toInt ≤ (st.1 7).toInt) (hi2_10 : (st.1 7).toInt < x4_10.toInt + (n_10 + 1)) (hi3_10 : okM st_10) (hi4_10 : (st_10.1 7).toInt = (st.1 7).toInt) (h16_1 : ¬ st_10.1 7 ≤ x4_10) : vp_in x4_10 100 := by
  have z1 := okM_7 hok
  have z2 := okM_7 hi3_10
  have z3 := (by decide : (0 : Int32).toInt = 0)
  have z4 := (by decide : (1 : Int32).toInt = 1)
  have z5 := (by decide : (7 : Int32).toInt = 7)
  have z6 := (by decide : (100 : Int32).toInt = 100)
  clear hi4_10 hok hi3_10
  try simp only [sA_1, sL_1, sI_1, vp_in_iff, Int32.le_iff_toInt_le, Int32.lt_iff_toInt_lt, ← Int32.toInt_inj, reduceIte, Nat.reduceEqDiff] at *
  all_goals omega
theorem ob_X10_eraseOf_10_inv0_5 (st : St) (a1 : Int32) (a2 : Int32) (n_10 : Nat) (st_10 : St) (x4_10 : Int32) (x3_10 : Int32) (hok : okM st) (hi0_10 : 0 ≤ x4_10.toInt) (hi1_10 : x4_10.toInt ≤ (st.1 7).toInt) (hi2_10 : (st.1 7).toInt < x4_10.toInt + (n_10 + 1)) (hi3_10 : okM st_10) (hi4_10 : (st_10.1 7).toInt = (st.1 7).toInt) (h16_1 : ¬ st_10.1 7 ≤ x4_10) (h26_4 : st_10.2.1 26 x4_10.toNatClampNeg = 0) : 0 ≤ (x4_10 + 1).toInt := by
  have z1 := okM_7 hok
  have z2 := okM_7 hi3_10
  have z3 := (by decide : (0 : Int32).toInt = 0)
  have z4 := (by decide : (1 : Int32).toInt = 1)
  have z5 := (by decide : (7 : Int32).toInt = 7)
  have z6 := (by decide : (26 : Int32).toInt = 26)
  have z7 := inc_I x4_10
  clear hi4_10 hok hi3_10
  try simp only [sA_1, sL_1, sI_1, vp_in_iff, Int32.le_iff_toInt_le, Int32.lt_iff_toInt_lt, ← Int32.toInt_inj, reduceIte, Nat.reduceEqDiff] at *
  all_goals omega
theorem ob_X10_eraseOf_10_inv1_6 (st : St) (a1 : Int32) (a2 : Int32) (n_10 : Nat) (st_10 : St) (x4_10 : Int32) (x3_10 : Int32) (hok : okM st) (hi0_10 : 0 ≤ x4_10.toInt) (hi1_10 : x4_10.toInt ≤ (st.1 7).toInt) (hi2_10 : (st.1 7).toInt < x4_10.toInt + (n_10 + 1)) (hi3_10 : okM st_10) (hi4_10 : (st_10.1 7).toInt = (st.1 7).toInt) (h16_1 : ¬ st_10.1 7 ≤ x4_10) (h26_4 : st_10.2.1 26 x4_10.toNatClampNeg = 0) : (x4_10 + 1).toInt ≤ (st.1 7).toInt := by
  have z1 := okM_7 hok
  have z2 := okM_7 hi3_10
  have z3 := (by decide : (0 : Int32).toInt = 0)
  have z4 := (by decide : (1 : Int32).toInt = 1)
  have z5 := (by decide : (7 : Int32).toInt = 7)
  have z6 := (by decide : (26 : Int32).toInt = 26)
  have z7 := inc_I x4_10
  clear hok hi3_10
  try simp only [sA_1, sL_1, sI_1, vp_in_iff, Int32.le_iff_toInt_le, Int32.lt_iff_toInt_lt, ← Int32.toInt_inj, reduceIte, Nat.reduceEqDiff] at *
  all_goals omega
theorem ob_X10_eraseOf_10_inv2_7 (st : St) (a1 : Int32) (a2 : Int32) (n_10 : Nat) (st_10 : St) (x4_10 : Int32) (x3_10 : Int32) (hok : okM st) (hi0_10 : 0 ≤ x4_10.toInt) (hi1_10 : x4_10.toInt ≤ (st.1 7).toInt) (hi2_10 : (st.1 7).toInt < x4_10.toInt + (n_10 + 1)) (hi3_10 : okM st_10) (hi4_10 : (st_10.1 7).toInt = (st.1 7).toInt) (h16_1 : ¬ st_10.1 7 ≤ x4_10) (h26_4 : st_10.2.1 26 x4_10.toNatClampNeg = 0) : (st.1 7).toInt < (x4_10 + 1).toInt + n_10 := by
  have z1 := okM_7 hok
  have z2 := okM_7 hi3_10
  have z3 := (by decide : (0 : Int32).toInt = 0)
  have z4 := (by decide : (1 : Int32).toInt = 1)
  have z5 := (by decide : (7 : Int32).toInt = 7)
  have z6 := (by decide : (26 : Int32).toInt = 26)
  have z7 := inc_I x4_10
  clear hok hi3_10
  try simp only [sA_1, sL_1, sI_1, vp_in_iff, Int32.le_iff_toInt_le, Int32.lt_iff_toInt_lt, ← Int32.toInt_inj, reduceIte, Nat.reduceEqDiff] at *
  all_goals omega
theorem ob_X10_eraseOf_10_inv3_8 (st : St) (a1 : Int32) (a2 : Int32) (n_10 : Nat) (st_10 : St) (x4_10 : Int32) (x3_10 : Int32) (hok : okM st) (hi0_10 : 0 ≤ x4_10.toInt) (hi1_10 : x4_10.toInt ≤ (st.1 7).toInt) (hi2_10 : (st.1 7).toInt < x4_10.toInt + (n_10 + 1)) (hi3_10 : okM st_10) (hi4_10 : (st_10.1 7).toInt = (st.1 7).toInt) (h16_1 : ¬ st_10.1 7 ≤ x4_10) (h26_4 : st_10.2.1 26 x4_10.toNatClampNeg = 0) : okM st_10 := by
  exact hi3_10
theorem ob_X10_eraseOf_10_inv4_9 (st : St) (a1 : Int32) (a2 : Int32) (n_10 : Nat) (st_10 : St) (x4_10 : Int32) (x3_10 : Int32) (hok : okM st) (hi0_10 : 0 ≤ x4_10.toInt) (hi1_10 : x4_10.toInt ≤ (st.1 7).toInt) (hi2_10 : (st.1 7).toInt < x4_10.toInt + (n_10 + 1)) (hi3_10 : okM st_10) (hi4_10 : (st_10.1 7).toInt = (st.1 7).toInt) (h16_1 : ¬ st_10.1 7 ≤ x4_10) (h26_4 : st_10.2.1 26 x4_10.toNatClampNeg = 0) : (st_10.1 7).toInt = (st.1 7).toInt := by
  have z1 := okM_7 hok
  have z2 := okM_7 hi3_10
  have z3 := (by decide : (1 : Int32).toInt = 1)
  have z4 := (by decide : (7 : Int32).toInt = 7)
  clear hi0_10 h26_4 hok hi3_10
  try simp only [sA_1, sL_1, sI_1, vp_in_iff, Int32.le_iff_toInt_le, Int32.lt_iff_toInt_lt, ← Int32.toInt_inj, reduceIte, Nat.reduceEqDiff] at *
  all_goals omega
theorem ob_X10_eraseOf_35_10 (st : St) (a1 : Int32) (a2 : Int32) (n_10 : Nat) (st_10 : St) (x4_10 : Int32) (x3_10 : Int32) (hok : okM st) (hi0_10 : 0 ≤ x4_10.toInt) (hi1_10 : x4_10.toInt ≤ (st.1 7).toInt) (hi2_10 : (st.1 7).toInt < x4_10.toInt + (n_10 + 1)) (hi3_10 : okM st_10) (hi4_10 : (st_10.1 7).toInt = (st.1 7).toInt) (h16_1 : ¬ st_10.1 7 ≤ x4_10) (h26_4 : ¬ st_10.2.1 26 x4_10.toNatClampNeg = 0) : vp_in x4_10 100 := by
  have z1 := okM_7 hok
  have z2 := okM_7 hi3_10
  have z3 := (by decide : (0 : Int32).toInt = 0)
  have z4 := (by decide : (1 : Int32).toInt = 1)
  have z5 := (by decide : (7 : Int32).toInt = 7)
  have z6 := (by decide : (26 : Int32).toInt = 26)
  have z7 := (by decide : (100 : Int32).toInt = 100)
  clear hi4_10 hok hi3_10
  try simp only [sA_1, sL_1, sI_1, vp_in_iff, Int32.le_iff_toInt_le, Int32.lt_iff_toInt_lt, ← Int32.toInt_inj, reduceIte, Nat.reduceEqDiff] at *
  all_goals omega
theorem ob_X10_eraseOf_10_inv0_12 (st : St) (a1 : Int32) (a2 : Int32) (n_10 : Nat) (st_10 : St) (x4_10 : Int32) (x3_10 : Int32) (hok : okM st) (hi0_10 : 0 ≤ x4_10.toInt) (hi1_10 : x4_10.toInt ≤ (st.1 7).toInt) (hi2_10 : (st.1 7).toInt < x4_10.toInt + (n_10 + 1)) (hi3_10 : okM st_10) (hi4_10 : (st_10.1 7).toInt = (st.1 7).toInt) (h16_1 : ¬ st_10.1 7 ≤ x4_10) (h26_4 : ¬ st_10.2.1 26 x4_10.toNatClampNeg = 0) (h37_11 : ¬ st_10.2.1 23 x4_10.toNatClampNeg = (-1)) : 0 ≤ (x4_10 + 1).toInt := by
  have z1 := okM_7 hok
  have z2 := okM_7 hi3_10
  have z3 := (by decide : (0 : Int32).toInt = 0)
  have z4 := (by decide : (1 : Int32).toInt = 1)
  have z5 := (by decide : (7 : Int32).toInt = 7)
  have z6 := (by decide : (23 : Int32).toInt = 23)
  have z7 := (by decide : (26 : Int32).toInt = 26)
  have z8 := (by decide : (-1 : Int32).toInt = -1)
  have z9 := inc_I x4_10
  clear hi4_10 hok hi3_10
  try simp only [sA_1, sL_1, sI_1, vp_in_iff, Int32.le_iff_toInt_le, Int32.lt_iff_toInt_lt, ← Int32.toInt_inj, reduceIte, Nat.reduceEqDiff] at *
  all_goals omega
theorem ob_X10_eraseOf_10_inv1_13 (st : St) (a1 : Int32) (a2 : Int32) (n_10 : Nat) (st_10 : St) (x4_10 : Int32) (x3_10 : Int32) (hok : okM st) (hi0_10 : 0 ≤ x4_10.toInt) (hi1_10 : x4_10.toInt ≤ (st.1 7).toInt) (hi2_10 : (st.1 7).toInt < x4_10.toInt + (n_10 + 1)) (hi3_10 : okM st_10) (hi4_10 : (st_10.1 7).toInt = (st.1 7).toInt) (h16_1 : ¬ st_10.1 7 ≤ x4_10) (h26_4 : ¬ st_10.2.1 26 x4_10.toNatClampNeg = 0) (h37_11 : ¬ st_10.2.1 23 x4_10.toNatClampNeg = (-1)) : (x4_10 + 1).toInt ≤ (st.1 7).toInt := by
  have z1 := okM_7 hok
  have z2 := okM_7 hi3_10
  have z3 := (by decide : (0 : Int32).toInt = 0)
  have z4 := (by decide : (1 : Int32).toInt = 1)
  have z5 := (by decide : (7 : Int32).toInt = 7)
  have z6 := (by decide : (23 : Int32).toInt = 23)
  have z7 := (by decide : (26 : Int32).toInt = 26)
  have z8 := (by decide : (-1 : Int32).toInt = -1)
  have z9 := inc_I x4_10
  clear hok hi3_10
  try simp only [sA_1, sL_1, sI_1, vp_in_iff, Int32.le_iff_toInt_le, Int32.lt_iff_toInt_lt, ← Int32.toInt_inj, reduceIte, Nat.reduceEqDiff] at *
  all_goals omega
theorem ob_X10_eraseOf_10_inv2_14 (st : St) (a1 : Int32) (a2 : Int32) (n_10 : Nat) (st_10 : St) (x4_10 : Int32) (x3_10 : Int32) (hok : okM st) (hi0_10 : 0 ≤ x4_10.toInt) (hi1_10 : x4_10.toInt ≤ (st.1 7).toInt) (hi2_10 : (st.1 7).toInt < x4_10.toInt + (n_10 + 1)) (hi3_10 : okM st_10) (hi4_10 : (st_10.1 7).toInt = (st.1 7).toInt) (h16_1 : ¬ st_10.1 7 ≤ x4_10) (h26_4 : ¬ st_10.2.1 26 x4_10.toNatClampNeg = 0) (h37_11 : ¬ st_10.2.1 23 x4_10.toNatClampNeg = (-1)) : (st.1 7).toInt < (x4_10 + 1).toInt + n_10 := by
  have z1 := okM_7 hok
  have z2 := okM_7 hi3_10
  have z3 := (by decide : (0 : Int32).toInt = 0)
  have z4 := (by decide : (1 : Int32).toInt = 1)
  have z5 := (by decide : (7 : Int32).toInt = 7)
  have z6 := (by decide : (23 : Int32).toInt = 23)
  have z7 := (by decide : (26 : Int32).toInt = 26)
  have z8 := (by decide : (-1 : Int32).toInt = -1)
  have z9 := inc_I x4_10
  clear hok hi3_10
  try simp only [sA_1, sL_1, sI_1, vp_in_iff, Int32.le_iff_toInt_le, Int32.lt_iff_toInt_lt, ← Int32.toInt_inj, reduceIte, Nat.reduceEqDiff] at *
  all_goals omega
theorem ob_X10_eraseOf_10_inv3_15 (st : St) (a1 : Int32) (a2 : Int32) (n_10 : Nat) (st_10 : St) (x4_10 : Int32) (x3_10 : Int32) (hok : okM st) (hi0_10 : 0 ≤ x4_10.toInt) (hi1_10 : x4_10.toInt ≤ (st.1 7).toInt) (hi2_10 : (st.1 7).toInt < x4_10.toInt + (n_10 + 1)) (hi3_10 : okM st_10) (hi4_10 : (st_10.1 7).toInt = (st.1 7).toInt) (h16_1 : ¬ st_10.1 7 ≤ x4_10) (h26_4 : ¬ st_10.2.1 26 x4_10.toNatClampNeg = 0) (h37_11 : ¬ st_10.2.1 23 x4_10.toNatClampNeg = (-1)) : okM st_10 := by
  exact hi3_10
theorem ob_X10_eraseOf_10_inv4_16 (st : St) (a1 : Int32) (a2 : Int32) (n_10 : Nat) (st_10 : St) (x4_10 : Int32) (x3_10 : Int32) (hok : okM st) (hi0_10 : 0 ≤ x4_10.toInt) (hi1_10 : x4_10.toInt ≤ (st.1 7).toInt) (hi2_10 : (st.1 7).toInt < x4_10.toInt + (n_10 + 1)) (hi3_10 : okM st_10) (hi4_10 : (st_10.1 7).toInt = (st.1 7).toInt) (h16_1 : ¬ st_10.1 7 ≤ x4_10) (h26_4 : ¬ st_10.2.1 26 x4_10.toNatClampNeg = 0) (h37_11 : ¬ st_10.2.1 23 x4_10.toNatClampNeg = (-1)) : (st_10.1 7).toInt = (st.1 7).toInt := by
  have z1 := okM_7 hok
  have z2 := okM_7 hi3_10
  have z3 := (by decide : (1 : Int32).toInt = 1)
  have z4 := (by decide : (7 : Int32).toInt = 7)
  clear hi0_10 h26_4 h37_11 hok hi3_10
  try simp only [sA_1, sL_1, sI_1, vp_in_iff, Int32.le_iff_toInt_le, Int32.lt_iff_toInt_lt, ← Int32.toInt_inj, reduceIte, Nat.reduceEqDiff] at *
  all_goals omega
theorem ob_X10_eraseOf_63_18 (st : St) (a1 : Int32) (a2 : Int32) (n_10 : Nat) (st_10 : St) (x4_10 : Int32) (x3_10 : Int32) (hok : okM st) (hi0_10 : 0 ≤ x4_10.toInt) (hi1_10 : x4_10.toInt ≤ (st.1 7).toInt) (hi2_10 : (st.1 7).toInt < x4_10.toInt + (n_10 + 1)) (hi3_10 : okM st_10) (hi4_10 : (st_10.1 7).toInt = (st.1 7).toInt) (h16_1 : ¬ st_10.1 7 ≤ x4_10) (h26_4 : ¬ st_10.2.1 26 x4_10.toNatClampNeg = 0) (h37_11 : st_10.2.1 23 x4_10.toNatClampNeg = (-1)) (h41_17 : a1 < 0) : vp_in x4_10 100 := by
  have z1 := okM_7 hok
  have z2 := okM_7 hi3_10
  have z3 := (by decide : (0 : Int32).toInt = 0)
  have z4 := (by decide : (1 : Int32).toInt = 1)
  have z5 := (by decide : (7 : Int32).toInt = 7)
  have z6 := (by decide : (23 : Int32).toInt = 23)
  have z7 := (by decide : (26 : Int32).toInt = 26)
  have z8 := (by decide : (100 : Int32).toInt = 100)
  have z9 := (by decide : (-1 : Int32).toInt = -1)
  clear hi4_10 h41_17 hok hi3_10
  try simp only [sA_1, sL_1, sI_1, vp_in_iff, Int32.le_iff_toInt_le, Int32.lt_iff_toInt_lt, ← Int32.toInt_inj, reduceIte, Nat.reduceEqDiff] at *
  all_goals omega
theorem ob_X10_eraseOf_10_inv0_20 (st : St) (a1 : Int32) (a2 : Int32) (n_10 : Nat) (st_10 : St) (x4_10 : Int32) (x3_10 : Int32) (hok : okM st) (hi0_10 : 0 ≤ x4_10.toInt) (hi1_10 : x4_10.toInt ≤ (st.1 7).toInt) (hi2_10 : (st.1 7).toInt < x4_10.toInt + (n_10 + 1)) (hi3_10 : okM st_10) (hi4_10 : (st_10.1 7).toInt = (st.1 7).toInt) (h16_1 : ¬ st_10.1 7 ≤ x4_10) (h26_4 : ¬ st_10.2.1 26 x4_10.toNatClampNeg = 0) (h37_11 : st_10.2.1 23 x4_10.toNatClampNeg = (-1)) (h41_17 : a1 < 0) (h66_19 : (sp_X10_due st_10 x4_10) < 0) : 0 ≤ (x4_10 + 1).toInt := by
  have z1 := okM_7 hok
  have z2 := okM_7 hi3_10
  have z3 := (by decide : (0 : Int32).toInt = 0)
  have z4 := (by decide : (1 : Int32).toInt = 1)
  have z5 := (by decide : (7 : Int32).toInt = 7)
  have z6 := (by decide : (23 : Int32).toInt = 23)
  have z7 := (by decide : (26 : Int32).toInt = 26)
  have z8 := (by decide : (-1 : Int32).toInt = -1)
  have z9 := inc_I x4_10
  clear hi4_10 h41_17 h66_19 hok hi3_10
  try simp only [sA_1, sL_1, sI_1, vp_in_iff, Int32.le_iff_toInt_le, Int32.lt_iff_toInt_lt, ← Int32.toInt_inj, reduceIte, Nat.reduceEqDiff] at *
  all_goals omega
theorem ob_X10_eraseOf_10_inv1_21 (st : St) (a1 : Int32) (a2 : Int32) (n_10 : Nat) (st_10 : St) (x4_10 : Int32) (x3_10 : Int32) (hok : okM st) (hi0_10 : 0 ≤ x4_10.toInt) (hi1_10 : x4_10.toInt ≤ (st.1 7).toInt) (hi2_10 : (st.1 7).toInt < x4_10.toInt + (n_10 + 1)) (hi3_10 : okM st_10) (hi4_10 : (st_10.1 7).toInt = (st.1 7).toInt) (h16_1 : ¬ st_10.1 7 ≤ x4_10) (h26_4 : ¬ st_10.2.1 26 x4_10.toNatClampNeg = 0) (h37_11 : st_10.2.1 23 x4_10.toNatClampNeg = (-1)) (h41_17 : a1 < 0) (h66_19 : (sp_X10_due st_10 x4_10) < 0) : (x4_10 + 1).toInt ≤ (st.1 7).toInt := by
  have z1 := okM_7 hok
  have z2 := okM_7 hi3_10
  have z3 := (by decide : (0 : Int32).toInt = 0)
  have z4 := (by decide : (1 : Int32).toInt = 1)
  have z5 := (by decide : (7 : Int32).toInt = 7)
  have z6 := (by decide : (23 : Int32).toInt = 23)
  have z7 := (by decide : (26 : Int32).toInt = 26)
  have z8 := (by decide : (-1 : Int32).toInt = -1)
  have z9 := inc_I x4_10
  clear h41_17 h66_19 hok hi3_10
  try simp only [sA_1, sL_1, sI_1, vp_in_iff, Int32.le_iff_toInt_le, Int32.lt_iff_toInt_lt, ← Int32.toInt_inj, reduceIte, Nat.reduceEqDiff] at *
  all_goals omega
theorem ob_X10_eraseOf_10_inv2_22 (st : St) (a1 : Int32) (a2 : Int32) (n_10 : Nat) (st_10 : St) (x4_10 : Int32) (x3_10 : Int32) (hok : okM st) (hi0_10 : 0 ≤ x4_10.toInt) (hi1_10 : x4_10.toInt ≤ (st.1 7).toInt) (hi2_10 : (st.1 7).toInt < x4_10.toInt + (n_10 + 1)) (hi3_10 : okM st_10) (hi4_10 : (st_10.1 7).toInt = (st.1 7).toInt) (h16_1 : ¬ st_10.1 7 ≤ x4_10) (h26_4 : ¬ st_10.2.1 26 x4_10.toNatClampNeg = 0) (h37_11 : st_10.2.1 23 x4_10.toNatClampNeg = (-1)) (h41_17 : a1 < 0) (h66_19 : (sp_X10_due st_10 x4_10) < 0) : (st.1 7).toInt < (x4_10 + 1).toInt + n_10 := by
  have z1 := okM_7 hok
  have z2 := okM_7 hi3_10
  have z3 := (by decide : (0 : Int32).toInt = 0)
  have z4 := (by decide : (1 : Int32).toInt = 1)
  have z5 := (by decide : (7 : Int32).toInt = 7)
  have z6 := (by decide : (23 : Int32).toInt = 23)
  have z7 := (by decide : (26 : Int32).toInt = 26)
  have z8 := (by decide : (-1 : Int32).toInt = -1)
  have z9 := inc_I x4_10
  clear h41_17 h66_19 hok hi3_10
  try simp only [sA_1, sL_1, sI_1, vp_in_iff, Int32.le_iff_toInt_le, Int32.lt_iff_toInt_lt, ← Int32.toInt_inj, reduceIte, Nat.reduceEqDiff] at *
  all_goals omega
theorem ob_X10_eraseOf_10_inv3_23 (st : St) (a1 : Int32) (a2 : Int32) (n_10 : Nat) (st_10 : St) (x4_10 : Int32) (x3_10 : Int32) (hok : okM st) (hi0_10 : 0 ≤ x4_10.toInt) (hi1_10 : x4_10.toInt ≤ (st.1 7).toInt) (hi2_10 : (st.1 7).toInt < x4_10.toInt + (n_10 + 1)) (hi3_10 : okM st_10) (hi4_10 : (st_10.1 7).toInt = (st.1 7).toInt) (h16_1 : ¬ st_10.1 7 ≤ x4_10) (h26_4 : ¬ st_10.2.1 26 x4_10.toNatClampNeg = 0) (h37_11 : st_10.2.1 23 x4_10.toNatClampNeg = (-1)) (h41_17 : a1 < 0) (h66_19 : (sp_X10_due st_10 x4_10) < 0) : okM st_10 := by
  exact hi3_10
theorem ob_X10_eraseOf_10_inv4_24 (st : St) (a1 : Int32) (a2 : Int32) (n_10 : Nat) (st_10 : St) (x4_10 : Int32) (x3_10 : Int32) (hok : okM st) (hi0_10 : 0 ≤ x4_10.toInt) (hi1_10 : x4_10.toInt ≤ (st.1 7).toInt) (hi2_10 : (st.1 7).toInt < x4_10.toInt + (n_10 + 1)) (hi3_10 : okM st_10) (hi4_10 : (st_10.1 7).toInt = (st.1 7).toInt) (h16_1 : ¬ st_10.1 7 ≤ x4_10) (h26_4 : ¬ st_10.2.1 26 x4_10.toNatClampNeg = 0) (h37_11 : st_10.2.1 23 x4_10.toNatClampNeg = (-1)) (h41_17 : a1 < 0) (h66_19 : (sp_X10_due st_10 x4_10) < 0) : (st_10.1 7).toInt = (st.1 7).toInt := by
  have z1 := okM_7 hok
  have z2 := okM_7 hi3_10
  have z3 := (by decide : (1 : Int32).toInt = 1)
  have z4 := (by decide : (7 : Int32).toInt = 7)
  clear hi0_10 h26_4 h37_11 h41_17 h66_19 hok hi3_10
  try simp only [sA_1, sL_1, sI_1, vp_in_iff, Int32.le_iff_toInt_le, Int32.lt_iff_toInt_lt, ← Int32.toInt_inj, reduceIte, Nat.reduceEqDiff] at *
  all_goals omega
theorem ob_X10_eraseOf_72_25 (st : St) (a1 : Int32) (a2 : Int32) (n_10 : Nat) (st_10 : St) (x4_10 : Int32) (x3_10 : Int32) (hok : okM st) (hi0_10 : 0 ≤ x4_10.toInt) (hi1_10 : x4_10.toInt ≤ (st.1 7).toInt) (hi2_10 : (st.1 7).toInt < x4_10.toInt + (n_10 + 1)) (hi3_10 : okM st_10) (hi4_10 : (st_10.1 7).toInt = (st.1 7).toInt) (h16_1 : ¬ st_10.1 7 ≤ x4_10) (h26_4 : ¬ st_10.2.1 26 x4_10.toNatClampNeg = 0) (h37_11 : st_10.2.1 23 x4_10.toNatClampNeg = (-1)) (h41_17 : a1 < 0) (h66_19 : ¬ (sp_X10_due st_10 x4_10) < 0) : vp_in x4_10 100 := by
  have z1 := okM_7 hok
  have z2 := okM_7 hi3_10
  have z3 := (by decide : (0 : Int32).toInt = 0)
  have z4 := (by decide : (1 : Int32).toInt = 1)
  have z5 := (by decide : (7 : Int32).toInt = 7)
  have z6 := (by decide : (23 : Int32).toInt = 23)
  have z7 := (by decide : (26 : Int32).toInt = 26)
  have z8 := (by decide : (100 : Int32).toInt = 100)
  have z9 := (by decide : (-1 : Int32).toInt = -1)
  clear hi4_10 h41_17 h66_19 hok hi3_10
  try simp only [sA_1, sL_1, sI_1, vp_in_iff, Int32.le_iff_toInt_le, Int32.lt_iff_toInt_lt, ← Int32.toInt_inj, reduceIte, Nat.reduceEqDiff] at *
  all_goals omega
theorem ob_X10_eraseOf_10_inv0_27 (st : St) (a1 : Int32) (a2 : Int32) (n_10 : Nat) (st_10 : St) (x4_10 : Int32) (x3_10 : Int32) (hok : okM st) (hi0_10 : 0 ≤ x4_10.toInt) (hi1_10 : x4_10.toInt ≤ (st.1 7).toInt) (hi2_10 : (st.1 7).toInt < x4_10.toInt + (n_10 + 1)) (hi3_10 : okM st_10) (hi4_10 : (st_10.1 7).toInt = (st.1 7).toInt) (h16_1 : ¬ st_10.1 7 ≤ x4_10) (h26_4 : ¬ st_10.2.1 26 x4_10.toNatClampNeg = 0) (h37_11 : st_10.2.1 23 x4_10.toNatClampNeg = (-1)) (h41_17 : a1 < 0) (h66_19 : ¬ (sp_X10_due st_10 x4_10) < 0) (h76_26 : a2 < (sp_X10_due st_10 x4_10)) : 0 ≤ (x4_10 + 1).toInt := by
  have z1 := okM_7 hok
  have z2 := okM_7 hi3_10
  have z3 := (by decide : (0 : Int32).toInt = 0)
  have z4 := (by decide : (1 : Int32).toInt = 1)
  have z5 := (by decide : (7 : Int32).toInt = 7)
  have z6 := (by decide : (23 : Int32).toInt = 23)
  have z7 := (by decide : (26 : Int32).toInt = 26)
  have z8 := (by decide : (-1 : Int32).toInt = -1)
  have z9 := inc_I x4_10
  clear hi4_10 h41_17 h66_19 h76_26 hok hi3_10
  try simp only [sA_1, sL_1, sI_1, vp_in_iff, Int32.le_iff_toInt_le, Int32.lt_iff_toInt_lt, ← Int32.toInt_inj, reduceIte, Nat.reduceEqDiff] at *
  all_goals omega
theorem ob_X10_eraseOf_10_inv1_28 (st : St) (a1 : Int32) (a2 : Int32) (n_10 : Nat) (st_10 : St) (x4_10 : Int32) (x3_10 : Int32) (hok : okM st) (hi0_10 : 0 ≤ x4_10.toInt) (hi1_10 : x4_10.toInt ≤ (st.1 7).toInt) (hi2_10 : (st.1 7).toInt < x4_10.toInt + (n_10 + 1)) (hi3_10 : okM st_10) (hi4_10 : (st_10.1 7).toInt = (st.1 7).toInt) (h16_1 : ¬ st_10.1 7 ≤ x4_10) (h26_4 : ¬ st_10.2.1 26 x4_10.toNatClampNeg = 0) (h37_11 : st_10.2.1 23 x4_10.toNatClampNeg = (-1)) (h41_17 : a1 < 0) (h66_19 : ¬ (sp_X10_due st_10 x4_10) < 0) (h76_26 : a2 < (sp_X10_due st_10 x4_10)) : (x4_10 + 1).toInt ≤ (st.1 7).toInt := by
  have z1 := okM_7 hok
  have z2 := okM_7 hi3_10
  have z3 := (by decide : (0 : Int32).toInt = 0)
  have z4 := (by decide : (1 : Int32).toInt = 1)
  have z5 := (by decide : (7 : Int32).toInt = 7)
  have z6 := (by decide : (23 : Int32).toInt = 23)
  have z7 := (by decide : (26 : Int32).toInt = 26)
  have z8 := (by decide : (-1 : Int32).toInt = -1)
  have z9 := inc_I x4_10
  clear h41_17 h66_19 h76_26 hok hi3_10
  try simp only [sA_1, sL_1, sI_1, vp_in_iff, Int32.le_iff_toInt_le, Int32.lt_iff_toInt_lt, ← Int32.toInt_inj, reduceIte, Nat.reduceEqDiff] at *
  all_goals omega
theorem ob_X10_eraseOf_10_inv2_29 (st : St) (a1 : Int32) (a2 : Int32) (n_10 : Nat) (st_10 : St) (x4_10 : Int32) (x3_10 : Int32) (hok : okM st) (hi0_10 : 0 ≤ x4_10.toInt) (hi1_10 : x4_10.toInt ≤ (st.1 7).toInt) (hi2_10 : (st.1 7).toInt < x4_10.toInt + (n_10 + 1)) (hi3_10 : okM st_10) (hi4_10 : (st_10.1 7).toInt = (st.1 7).toInt) (h16_1 : ¬ st_10.1 7 ≤ x4_10) (h26_4 : ¬ st_10.2.1 26 x4_10.toNatClampNeg = 0) (h37_11 : st_10.2.1 23 x4_10.toNatClampNeg = (-1)) (h41_17 : a1 < 0) (h66_19 : ¬ (sp_X10_due st_10 x4_10) < 0) (h76_26 : a2 < (sp_X10_due st_10 x4_10)) : (st.1 7).toInt < (x4_10 + 1).toInt + n_10 := by
  have z1 := okM_7 hok
  have z2 := okM_7 hi3_10
  have z3 := (by decide : (0 : Int32).toInt = 0)
  have z4 := (by decide : (1 : Int32).toInt = 1)
  have z5 := (by decide : (7 : Int32).toInt = 7)
  have z6 := (by decide : (23 : Int32).toInt = 23)
  have z7 := (by decide : (26 : Int32).toInt = 26)
  have z8 := (by decide : (-1 : Int32).toInt = -1)
  have z9 := inc_I x4_10
  clear h41_17 h66_19 h76_26 hok hi3_10
  try simp only [sA_1, sL_1, sI_1, vp_in_iff, Int32.le_iff_toInt_le, Int32.lt_iff_toInt_lt, ← Int32.toInt_inj, reduceIte, Nat.reduceEqDiff] at *
  all_goals omega
theorem ob_X10_eraseOf_10_inv3_30 (st : St) (a1 : Int32) (a2 : Int32) (n_10 : Nat) (st_10 : St) (x4_10 : Int32) (x3_10 : Int32) (hok : okM st) (hi0_10 : 0 ≤ x4_10.toInt) (hi1_10 : x4_10.toInt ≤ (st.1 7).toInt) (hi2_10 : (st.1 7).toInt < x4_10.toInt + (n_10 + 1)) (hi3_10 : okM st_10) (hi4_10 : (st_10.1 7).toInt = (st.1 7).toInt) (h16_1 : ¬ st_10.1 7 ≤ x4_10) (h26_4 : ¬ st_10.2.1 26 x4_10.toNatClampNeg = 0) (h37_11 : st_10.2.1 23 x4_10.toNatClampNeg = (-1)) (h41_17 : a1 < 0) (h66_19 : ¬ (sp_X10_due st_10 x4_10) < 0) (h76_26 : a2 < (sp_X10_due st_10 x4_10)) : okM st_10 := by
  exact hi3_10
theorem ob_X10_eraseOf_10_inv4_31 (st : St) (a1 : Int32) (a2 : Int32) (n_10 : Nat) (st_10 : St) (x4_10 : Int32) (x3_10 : Int32) (hok : okM st) (hi0_10 : 0 ≤ x4_10.toInt) (hi1_10 : x4_10.toInt ≤ (st.1 7).toInt) (hi2_10 : (st.1 7).toInt < x4_10.toInt + (n_10 + 1)) (hi3_10 : okM st_10) (hi4_10 : (st_10.1 7).toInt = (st.1 7).toInt) (h16_1 : ¬ st_10.1 7 ≤ x4_10) (h26_4 : ¬ st_10.2.1 26 x4_10.toNatClampNeg = 0) (h37_11 : st_10.2.1 23 x4_10.toNatClampNeg = (-1)) (h41_17 : a1 < 0) (h66_19 : ¬ (sp_X10_due st_10 x4_10) < 0) (h76_26 : a2 < (sp_X10_due st_10 x4_10)) : (st_10.1 7).toInt = (st.1 7).toInt := by
  have z1 := okM_7 hok
  have z2 := okM_7 hi3_10
  have z3 := (by decide : (1 : Int32).toInt = 1)
  have z4 := (by decide : (7 : Int32).toInt = 7)
  clear hi0_10 h26_4 h37_11 h41_17 h66_19 h76_26 hok hi3_10
  try simp only [sA_1, sL_1, sI_1, vp_in_iff, Int32.le_iff_toInt_le, Int32.lt_iff_toInt_lt, ← Int32.toInt_inj, reduceIte, Nat.reduceEqDiff] at *
  all_goals omega
theorem ob_X10_eraseOf_97_32 (st : St) (a1 : Int32) (a2 : Int32) (n_10 : Nat) (st_10 : St) (x4_10 : Int32) (x3_10 : Int32) (hok : okM st) (hi0_10 : 0 ≤ x4_10.toInt) (hi1_10 : x4_10.toInt ≤ (st.1 7).toInt) (hi2_10 : (st.1 7).toInt < x4_10.toInt + (n_10 + 1)) (hi3_10 : okM st_10) (hi4_10 : (st_10.1 7).toInt = (st.1 7).toInt) (h16_1 : ¬ st_10.1 7 ≤ x4_10) (h26_4 : ¬ st_10.2.1 26 x4_10.toNatClampNeg = 0) (h37_11 : st_10.2.1 23 x4_10.toNatClampNeg = (-1)) (h41_17 : a1 < 0) (h66_19 : ¬ (sp_X10_due st_10 x4_10) < 0) (h76_26 : ¬ a2 < (sp_X10_due st_10 x4_10)) : vp_in x4_10 100 := by
  have z1 := okM_7 hok
  have z2 := okM_7 hi3_10
  have z3 := (by decide : (0 : Int32).toInt = 0)
  have z4 := (by decide : (1 : Int32).toInt = 1)
  have z5 := (by decide : (7 : Int32).toInt = 7)
  have z6 := (by decide : (23 : Int32).toInt = 23)
  have z7 := (by decide : (26 : Int32).toInt = 26)
  have z8 := (by decide : (100 : Int32).toInt = 100)
  have z9 := (by decide : (-1 : Int32).toInt = -1)
  clear hi4_10 h41_17 h66_19 h76_26 hok hi3_10
  try simp only [sA_1, sL_1, sI_1, vp_in_iff, Int32.le_iff_toInt_le, Int32.lt_iff_toInt_lt, ← Int32.toInt_inj, reduceIte, Nat.reduceEqDiff] at *
  all_goals omega
theorem ob_X10_eraseOf_111_34 (st : St) (a1 : Int32) (a2 : Int32) (n_10 : Nat) (st_10 : St) (x4_10 : Int32) (x3_10 : Int32) (hok : okM st) (hi0_10 : 0 ≤ x4_10.toInt) (hi1_10 : x4_10.toInt ≤ (st.1 7).toInt) (hi2_10 : (st.1 7).toInt < x4_10.toInt + (n_10 + 1)) (hi3_10 : okM st_10) (hi4_10 : (st_10.1 7).toInt = (st.1 7).toInt) (h16_1 : ¬ st_10.1 7 ≤ x4_10) (h26_4 : ¬ st_10.2.1 26 x4_10.toNatClampNeg = 0) (h37_11 : st_10.2.1 23 x4_10.toNatClampNeg = (-1)) (h41_17 : a1 < 0) (h66_19 : ¬ (sp_X10_due st_10 x4_10) < 0) (h76_26 : ¬ a2 < (sp_X10_due st_10 x4_10)) (h98_33 : st_10.2.1 27 x4_10.toNatClampNeg = 0) : vp_in x4_10 100 := by
  have z1 := okM_7 hok
  have z2 := okM_7 hi3_10
  have z3 := (by decide : (0 : Int32).toInt = 0)
  have z4 := (by decide : (1 : Int32).toInt = 1)
  have z5 := (by decide : (7 : Int32).toInt = 7)
  have z6 := (by decide : (23 : Int32).toInt = 23)
  have z7 := (by decide : (26 : Int32).toInt = 26)
  have z8 := (by decide : (27 : Int32).toInt = 27)
  have z9 := (by decide : (100 : Int32).toInt = 100)
  have z10 := (by decide : (-1 : Int32).toInt = -1)
  clear hi4_10 h41_17 h66_19 h76_26 hok hi3_10
  try simp only [sA_1, sL_1, sI_1, vp_in_iff, Int32.le_iff_toInt_le, Int32.lt_iff_toInt_lt, ← Int32.toInt_inj, reduceIte, Nat.reduceEqDiff] at *
  all_goals omega
theorem ob_X10_eraseOf_10_inv0_35 (st : St) (a1 : Int32) (a2 : Int32) (n_10 : Nat) (st_10 : St) (x4_10 : Int32) (x3_10 : Int32) (hok : okM st) (hi0_10 : 0 ≤ x4_10.toInt) (hi1_10 : x4_10.toInt ≤ (st.1 7).toInt) (hi2_10 : (st.1 7).toInt < x4_10.toInt + (n_10 + 1)) (hi3_10 : okM st_10) (hi4_10 : (st_10.1 7).toInt = (st.1 7).toInt) (h16_1 : ¬ st_10.1 7 ≤ x4_10) (h26_4 : ¬ st_10.2.1 26 x4_10.toNatClampNeg = 0) (h37_11 : st_10.2.1 23 x4_10.toNatClampNeg = (-1)) (h41_17 : a1 < 0) (h66_19 : ¬ (sp_X10_due st_10 x4_10) < 0) (h76_26 : ¬ a2 < (sp_X10_due st_10 x4_10)) (h98_33 : st_10.2.1 27 x4_10.toNatClampNeg = 0) : 0 ≤ (x4_10 + 1).toInt := by
  have z1 := okM_7 hok
  have z2 := okM_7 hi3_10
  have z3 := (by decide : (0 : Int32).toInt = 0)
  have z4 := (by decide : (1 : Int32).toInt = 1)
  have z5 := (by decide : (7 : Int32).toInt = 7)
  have z6 := (by decide : (23 : Int32).toInt = 23)
  have z7 := (by decide : (26 : Int32).toInt = 26)
  have z8 := (by decide : (27 : Int32).toInt = 27)
  have z9 := (by decide : (-1 : Int32).toInt = -1)
  have z10 := inc_I x4_10
  clear hi4_10 h41_17 h66_19 h76_26 hok hi3_10
  try simp only [sA_1, sL_1, sI_1, vp_in_iff, Int32.le_iff_toInt_le, Int32.lt_iff_toInt_lt, ← Int32.toInt_inj, reduceIte, Nat.reduceEqDiff] at *
  all_goals omega
theorem ob_X10_eraseOf_10_inv1_36 (st : St) (a1 : Int32) (a2 : Int32) (n_10 : Nat) (st_10 : St) (x4_10 : Int32) (x3_10 : Int32) (hok : okM st) (hi0_10 : 0 ≤ x4_10.toInt) (hi1_10 : x4_10.toInt ≤ (st.1 7).toInt) (hi2_10 : (st.1 7).toInt < x4_10.toInt + (n_10 + 1)) (hi3_10 : okM st_10) (hi4_10 : (st_10.1 7).toInt = (st.1 7).toInt) (h16_1 : ¬ st_10.1 7 ≤ x4_10) (h26_4 : ¬ st_10.2.1 26 x4_10.toNatClampNeg = 0) (h37_11 : st_10.2.1 23 x4_10.toNatClampNeg = (-1)) (h41_17 : a1 < 0) (h66_19 : ¬ (sp_X10_due st_10 x4_10) < 0) (h76_26 : ¬ a2 < (sp_X10_due st_10 x4_10)) (h98_33 : st_10.2.1 27 x4_10.toNatClampNeg = 0) : (x4_10 + 1).toInt ≤ (st.1 7).toInt := by
  have z1 := okM_7 hok
  have z2 := okM_7 hi3_10
  have z3 := (by decide : (0 : Int32).toInt = 0)
  have z4 := (by decide : (1 : Int32).toInt = 1)
  have z5 := (by decide : (7 : Int32).toInt = 7)
  have z6 := (by decide : (23 : Int32).toInt = 23)
  have z7 := (by decide : (26 : Int32).toInt = 26)
  have z8 := (by decide : (27 : Int32).toInt = 27)
  have z9 := (by decide : (-1 : Int32).toInt = -1)
  have z10 := inc_I x4_10
  clear h41_17 h66_19 h76_26 hok hi3_10
  try simp only [sA_1, sL_1, sI_1, vp_in_iff, Int32.le_iff_toInt_le, Int32.lt_iff_toInt_lt, ← Int32.toInt_inj, reduceIte, Nat.reduceEqDiff] at *
  all_goals omega
theorem ob_X10_eraseOf_10_inv2_37 (st : St) (a1 : Int32) (a2 : Int32) (n_10 : Nat) (st_10 : St) (x4_10 : Int32) (x3_10 : Int32) (hok : okM st) (hi0_10 : 0 ≤ x4_10.toInt) (hi1_10 : x4_10.toInt ≤ (st.1 7).toInt) (hi2_10 : (st.1 7).toInt < x4_10.toInt + (n_10 + 1)) (hi3_10 : okM st_10) (hi4_10 : (st_10.1 7).toInt = (st.1 7).toInt) (h16_1 : ¬ st_10.1 7 ≤ x4_10) (h26_4 : ¬ st_10.2.1 26 x4_10.toNatClampNeg = 0) (h37_11 : st_10.2.1 23 x4_10.toNatClampNeg = (-1)) (h41_17 : a1 < 0) (h66_19 : ¬ (sp_X10_due st_10 x4_10) < 0) (h76_26 : ¬ a2 < (sp_X10_due st_10 x4_10)) (h98_33 : st_10.2.1 27 x4_10.toNatClampNeg = 0) : (st.1 7).toInt < (x4_10 + 1).toInt + n_10 := by
  have z1 := okM_7 hok
  have z2 := okM_7 hi3_10
  have z3 := (by decide : (0 : Int32).toInt = 0)
  have z4 := (by decide : (1 : Int32).toInt = 1)
  have z5 := (by decide : (7 : Int32).toInt = 7)
  have z6 := (by decide : (23 : Int32).toInt = 23)
  have z7 := (by decide : (26 : Int32).toInt = 26)
  have z8 := (by decide : (27 : Int32).toInt = 27)
  have z9 := (by decide : (-1 : Int32).toInt = -1)
  have z10 := inc_I x4_10
  clear h41_17 h66_19 h76_26 hok hi3_10
  try simp only [sA_1, sL_1, sI_1, vp_in_iff, Int32.le_iff_toInt_le, Int32.lt_iff_toInt_lt, ← Int32.toInt_inj, reduceIte, Nat.reduceEqDiff] at *
  all_goals omega
theorem ob_X10_eraseOf_10_inv3_38 (st : St) (a1 : Int32) (a2 : Int32) (n_10 : Nat) (st_10 : St) (x4_10 : Int32) (x3_10 : Int32) (hok : okM st) (hi0_10 : 0 ≤ x4_10.toInt) (hi1_10 : x4_10.toInt ≤ (st.1 7).toInt) (hi2_10 : (st.1 7).toInt < x4_10.toInt + (n_10 + 1)) (hi3_10 : okM st_10) (hi4_10 : (st_10.1 7).toInt = (st.1 7).toInt) (h16_1 : ¬ st_10.1 7 ≤ x4_10) (h26_4 : ¬ st_10.2.1 26 x4_10.toNatClampNeg = 0) (h37_11 : st_10.2.1 23 x4_10.toNatClampNeg = (-1)) (h41_17 : a1 < 0) (h66_19 : ¬ (sp_X10_due st_10 x4_10) < 0) (h76_26 : ¬ a2 < (sp_X10_due st_10 x4_10)) (h98_33 : st_10.2.1 27 x4_10.toNatClampNeg = 0) : okM (sA st_10 26 x4_10.toNatClampNeg 0) := by
  exact hi3_10
theorem ob_X10_eraseOf_10_inv4_39 (st : St) (a1 : Int32) (a2 : Int32) (n_10 : Nat) (st_10 : St) (x4_10 : Int32) (x3_10 : Int32) (hok : okM st) (hi0_10 : 0 ≤ x4_10.toInt) (hi1_10 : x4_10.toInt ≤ (st.1 7).toInt) (hi2_10 : (st.1 7).toInt < x4_10.toInt + (n_10 + 1)) (hi3_10 : okM st_10) (hi4_10 : (st_10.1 7).toInt = (st.1 7).toInt) (h16_1 : ¬ st_10.1 7 ≤ x4_10) (h26_4 : ¬ st_10.2.1 26 x4_10.toNatClampNeg = 0) (h37_11 : st_10.2.1 23 x4_10.toNatClampNeg = (-1)) (h41_17 : a1 < 0) (h66_19 : ¬ (sp_X10_due st_10 x4_10) < 0) (h76_26 : ¬ a2 < (sp_X10_due st_10 x4_10)) (h98_33 : st_10.2.1 27 x4_10.toNatClampNeg = 0) : ((sA st_10 26 x4_10.toNatClampNeg 0).1 7).toInt = (st.1 7).toInt := by
  have z1 := okM_7 hok
  have z2 := okM_7 hi3_10
  have z3 := (by decide : (0 : Int32).toInt = 0)
  have z4 := (by decide : (1 : Int32).toInt = 1)
  have z5 := (by decide : (7 : Int32).toInt = 7)
  have z6 := (by decide : (23 : Int32).toInt = 23)
  have z7 := (by decide : (26 : Int32).toInt = 26)
  have z8 := (by decide : (27 : Int32).toInt = 27)
  have z9 := (by decide : (-1 : Int32).toInt = -1)
  clear h41_17 h66_19 h76_26 hok hi3_10
  try simp only [sA_1, sL_1, sI_1, vp_in_iff, Int32.le_iff_toInt_le, Int32.lt_iff_toInt_lt, ← Int32.toInt_inj, reduceIte, Nat.reduceEqDiff] at *
  all_goals omega
theorem ob_X10_eraseOf_10_inv0_40 (st : St) (a1 : Int32) (a2 : Int32) (n_10 : Nat) (st_10 : St) (x4_10 : Int32) (x3_10 : Int32) (hok : okM st) (hi0_10 : 0 ≤ x4_10.toInt) (hi1_10 : x4_10.toInt ≤ (st.1 7).toInt) (hi2_10 : (st.1 7).toInt < x4_10.toInt + (n_10 + 1)) (hi3_10 : okM st_10) (hi4_10 : (st_10.1 7).toInt = (st.1 7).toInt) (h16_1 : ¬ st_10.1 7 ≤ x4_10) (h26_4 : ¬ st_10.2.1 26 x4_10.toNatClampNeg = 0) (h37_11 : st_10.2.1 23 x4_10.toNatClampNeg = (-1)) (h41_17 : a1 < 0) (h66_19 : ¬ (sp_X10_due st_10 x4_10) < 0) (h76_26 : ¬ a2 < (sp_X10_due st_10 x4_10)) (h98_33 : ¬ st_10.2.1 27 x4_10.toNatClampNeg = 0) : 0 ≤ (x4_10 + 1).toInt := by
  have z1 := okM_7 hok
  have z2 := okM_7 hi3_10
  have z3 := (by decide : (0 : Int32).toInt = 0)
  have z4 := (by decide : (1 : Int32).toInt = 1)
  have z5 := (by decide : (7 : Int32).toInt = 7)
  have z6 := (by decide : (23 : Int32).toInt = 23)
  have z7 := (by decide : (26 : Int32).toInt = 26)
  have z8 := (by decide : (27 : Int32).toInt = 27)
  have z9 := (by decide : (-1 : Int32).toInt = -1)
  have z10 := inc_I x4_10
  clear hi4_10 h41_17 h66_19 h76_26 hok hi3_10
  try simp only [sA_1, sL_1, sI_1, vp_in_iff, Int32.le_iff_toInt_le, Int32.lt_iff_toInt_lt, ← Int32.toInt_inj, reduceIte, Nat.reduceEqDiff] at *
  all_goals omega
theorem ob_X10_eraseOf_10_inv1_41 (st : St) (a1 : Int32) (a2 : Int32) (n_10 : Nat) (st_10 : St) (x4_10 : Int32) (x3_10 : Int32) (hok : okM st) (hi0_10 : 0 ≤ x4_10.toInt) (hi1_10 : x4_10.toInt ≤ (st.1 7).toInt) (hi2_10 : (st.1 7).toInt < x4_10.toInt + (n_10 + 1)) (hi3_10 : okM st_10) (hi4_10 : (st_10.1 7).toInt = (st.1 7).toInt) (h16_1 : ¬ st_10.1 7 ≤ x4_10) (h26_4 : ¬ st_10.2.1 26 x4_10.toNatClampNeg = 0) (h37_11 : st_10.2.1 23 x4_10.toNatClampNeg = (-1)) (h41_17 : a1 < 0) (h66_19 : ¬ (sp_X10_due st_10 x4_10) < 0) (h76_26 : ¬ a2 < (sp_X10_due st_10 x4_10)) (h98_33 : ¬ st_10.2.1 27 x4_10.toNatClampNeg = 0) : (x4_10 + 1).toInt ≤ (st.1 7).toInt := by
  have z1 := okM_7 hok
  have z2 := okM_7 hi3_10
  have z3 := (by decide : (0 : Int32).toInt = 0)
  have z4 := (by decide : (1 : Int32).toInt = 1)
  have z5 := (by decide : (7 : Int32).toInt = 7)
  have z6 := (by decide : (23 : Int32).toInt = 23)
  have z7 := (by decide : (26 : Int32).toInt = 26)
  have z8 := (by decide : (27 : Int32).toInt = 27)
  have z9 := (by decide : (-1 : Int32).toInt = -1)
  have z10 := inc_I x4_10
  clear h41_17 h66_19 h76_26 hok hi3_10
  try simp only [sA_1, sL_1, sI_1, vp_in_iff, Int32.le_iff_toInt_le, Int32.lt_iff_toInt_lt, ← Int32.toInt_inj, reduceIte, Nat.reduceEqDiff] at *
  all_goals omega
theorem ob_X10_eraseOf_10_inv2_42 (st : St) (a1 : Int32) (a2 : Int32) (n_10 : Nat) (st_10 : St) (x4_10 : Int32) (x3_10 : Int32) (hok : okM st) (hi0_10 : 0 ≤ x4_10.toInt) (hi1_10 : x4_10.toInt ≤ (st.1 7).toInt) (hi2_10 : (st.1 7).toInt < x4_10.toInt + (n_10 + 1)) (hi3_10 : okM st_10) (hi4_10 : (st_10.1 7).toInt = (st.1 7).toInt) (h16_1 : ¬ st_10.1 7 ≤ x4_10) (h26_4 : ¬ st_10.2.1 26 x4_10.toNatClampNeg = 0) (h37_11 : st_10.2.1 23 x4_10.toNatClampNeg = (-1)) (h41_17 : a1 < 0) (h66_19 : ¬ (sp_X10_due st_10 x4_10) < 0) (h76_26 : ¬ a2 < (sp_X10_due st_10 x4_10)) (h98_33 : ¬ st_10.2.1 27 x4_10.toNatClampNeg = 0) : (st.1 7).toInt < (x4_10 + 1).toInt + n_10 := by
  have z1 := okM_7 hok
  have z2 := okM_7 hi3_10
  have z3 := (by decide : (0 : Int32).toInt = 0)
  have z4 := (by decide : (1 : Int32).toInt = 1)
  have z5 := (by decide : (7 : Int32).toInt = 7)
  have z6 := (by decide : (23 : Int32).toInt = 23)
  have z7 := (by decide : (26 : Int32).toInt = 26)
  have z8 := (by decide : (27 : Int32).toInt = 27)
  have z9 := (by decide : (-1 : Int32).toInt = -1)
  have z10 := inc_I x4_10
  clear h41_17 h66_19 h76_26 hok hi3_10
  try simp only [sA_1, sL_1, sI_1, vp_in_iff, Int32.le_iff_toInt_le, Int32.lt_iff_toInt_lt, ← Int32.toInt_inj, reduceIte, Nat.reduceEqDiff] at *
  all_goals omega
theorem ob_X10_eraseOf_10_inv3_43 (st : St) (a1 : Int32) (a2 : Int32) (n_10 : Nat) (st_10 : St) (x4_10 : Int32) (x3_10 : Int32) (hok : okM st) (hi0_10 : 0 ≤ x4_10.toInt) (hi1_10 : x4_10.toInt ≤ (st.1 7).toInt) (hi2_10 : (st.1 7).toInt < x4_10.toInt + (n_10 + 1)) (hi3_10 : okM st_10) (hi4_10 : (st_10.1 7).toInt = (st.1 7).toInt) (h16_1 : ¬ st_10.1 7 ≤ x4_10) (h26_4 : ¬ st_10.2.1 26 x4_10.toNatClampNeg = 0) (h37_11 : st_10.2.1 23 x4_10.toNatClampNeg = (-1)) (h41_17 : a1 < 0) (h66_19 : ¬ (sp_X10_due st_10 x4_10) < 0) (h76_26 : ¬ a2 < (sp_X10_due st_10 x4_10)) (h98_33 : ¬ st_10.2.1 27 x4_10.toNatClampNeg = 0) : okM st_10 := by
  exact hi3_10
theorem ob_X10_eraseOf_10_inv4_44 (st : St) (a1 : Int32) (a2 : Int32) (n_10 : Nat) (st_10 : St) (x4_10 : Int32) (x3_10 : Int32) (hok : okM st) (hi0_10 : 0 ≤ x4_10.toInt) (hi1_10 : x4_10.toInt ≤ (st.1 7).toInt) (hi2_10 : (st.1 7).toInt < x4_10.toInt + (n_10 + 1)) (hi3_10 : okM st_10) (hi4_10 : (st_10.1 7).toInt = (st.1 7).toInt) (h16_1 : ¬ st_10.1 7 ≤ x4_10) (h26_4 : ¬ st_10.2.1 26 x4_10.toNatClampNeg = 0) (h37_11 : st_10.2.1 23 x4_10.toNatClampNeg = (-1)) (h41_17 : a1 < 0) (h66_19 : ¬ (sp_X10_due st_10 x4_10) < 0) (h76_26 : ¬ a2 < (sp_X10_due st_10 x4_10)) (h98_33 : ¬ st_10.2.1 27 x4_10.toNatClampNeg = 0) : (st_10.1 7).toInt = (st.1 7).toInt := by
  have z1 := okM_7 hok
  have z2 := okM_7 hi3_10
  have z3 := (by decide : (1 : Int32).toInt = 1)
  have z4 := (by decide : (7 : Int32).toInt = 7)
  clear hi0_10 h26_4 h37_11 h41_17 h66_19 h76_26 h98_33 hok hi3_10
  try simp only [sA_1, sL_1, sI_1, vp_in_iff, Int32.le_iff_toInt_le, Int32.lt_iff_toInt_lt, ← Int32.toInt_inj, reduceIte, Nat.reduceEqDiff] at *
  all_goals omega
theorem ob_X10_eraseOf_50_45 (st : St) (a1 : Int32) (a2 : Int32) (n_10 : Nat) (st_10 : St) (x4_10 : Int32) (x3_10 : Int32) (hok : okM st) (hi0_10 : 0 ≤ x4_10.toInt) (hi1_10 : x4_10.toInt ≤ (st.1 7).toInt) (hi2_10 : (st.1 7).toInt < x4_10.toInt + (n_10 + 1)) (hi3_10 : okM st_10) (hi4_10 : (st_10.1 7).toInt = (st.1 7).toInt) (h16_1 : ¬ st_10.1 7 ≤ x4_10) (h26_4 : ¬ st_10.2.1 26 x4_10.toNatClampNeg = 0) (h37_11 : st_10.2.1 23 x4_10.toNatClampNeg = (-1)) (h41_17 : ¬ a1 < 0) : vp_in x4_10 100 := by
  have z1 := okM_7 hok
  have z2 := okM_7 hi3_10
  have z3 := (by decide : (0 : Int32).toInt = 0)
  have z4 := (by decide : (1 : Int32).toInt = 1)
  have z5 := (by decide : (7 : Int32).toInt = 7)
  have z6 := (by decide : (23 : Int32).toInt = 23)
  have z7 := (by decide : (26 : Int32).toInt = 26)
  have z8 := (by decide : (100 : Int32).toInt = 100)
  have z9 := (by decide : (-1 : Int32).toInt = -1)
  clear hi4_10 h41_17 hok hi3_10
  try simp only [sA_1, sL_1, sI_1, vp_in_iff, Int32.le_iff_toInt_le, Int32.lt_iff_toInt_lt, ← Int32.toInt_inj, reduceIte, Nat.reduceEqDiff] at *
  all_goals omega
theorem ob_X10_eraseOf_10_inv0_47 (st : St) (a1 : Int32) (a2 : Int32) (n_10 : Nat) (st_10 : St) (x4_10 : Int32) (x3_10 : Int32) (hok : okM st) (hi0_10 : 0 ≤ x4_10.toInt) (hi1_10 : x4_10.toInt ≤ (st.1 7).toInt) (hi2_10 : (st.1 7).toInt < x4_10.toInt + (n_10 + 1)) (hi3_10 : okM st_10) (hi4_10 : (st_10.1 7).toInt = (st.1 7).toInt) (h16_1 : ¬ st_10.1 7 ≤ x4_10) (h26_4 : ¬ st_10.2.1 26 x4_10.toNatClampNeg = 0) (h37_11 : st_10.2.1 23 x4_10.toNatClampNeg = (-1)) (h41_17 : ¬ a1 < 0) (h54_46 : ¬ st_10.2.1 22 x4_10.toNatClampNeg = 1 <<< (a1 &&& 31)) : 0 ≤ (x4_10 + 1).toInt := by
  have z1 := okM_7 hok
  have z2 := okM_7 hi3_10
  have z3 := (by decide : (0 : Int32).toInt = 0)
  have z4 := (by decide : (1 : Int32).toInt = 1)
  have z5 := (by decide : (7 : Int32).toInt = 7)
  have z6 := (by decide : (22 : Int32).toInt = 22)
  have z7 := (by decide : (23 : Int32).toInt = 23)
  have z8 := (by decide : (26 : Int32).toInt = 26)
  have z9 := (by decide : (31 : Int32).toInt = 31)
  have z10 := (by decide : (-1 : Int32).toInt = -1)
  have z11 := inc_I x4_10
  clear hi4_10 h41_17 hok hi3_10
  try simp only [sA_1, sL_1, sI_1, vp_in_iff, Int32.le_iff_toInt_le, Int32.lt_iff_toInt_lt, ← Int32.toInt_inj, reduceIte, Nat.reduceEqDiff] at *
  all_goals omega
theorem ob_X10_eraseOf_10_inv1_48 (st : St) (a1 : Int32) (a2 : Int32) (n_10 : Nat) (st_10 : St) (x4_10 : Int32) (x3_10 : Int32) (hok : okM st) (hi0_10 : 0 ≤ x4_10.toInt) (hi1_10 : x4_10.toInt ≤ (st.1 7).toInt) (hi2_10 : (st.1 7).toInt < x4_10.toInt + (n_10 + 1)) (hi3_10 : okM st_10) (hi4_10 : (st_10.1 7).toInt = (st.1 7).toInt) (h16_1 : ¬ st_10.1 7 ≤ x4_10) (h26_4 : ¬ st_10.2.1 26 x4_10.toNatClampNeg = 0) (h37_11 : st_10.2.1 23 x4_10.toNatClampNeg = (-1)) (h41_17 : ¬ a1 < 0) (h54_46 : ¬ st_10.2.1 22 x4_10.toNatClampNeg = 1 <<< (a1 &&& 31)) : (x4_10 + 1).toInt ≤ (st.1 7).toInt := by
  have z1 := okM_7 hok
  have z2 := okM_7 hi3_10
  have z3 := (by decide : (0 : Int32).toInt = 0)
  have z4 := (by decide : (1 : Int32).toInt = 1)
  have z5 := (by decide : (7 : Int32).toInt = 7)
  have z6 := (by decide : (22 : Int32).toInt = 22)
  have z7 := (by decide : (23 : Int32).toInt = 23)
  have z8 := (by decide : (26 : Int32).toInt = 26)
  have z9 := (by decide : (31 : Int32).toInt = 31)
  have z10 := (by decide : (-1 : Int32).toInt = -1)
  have z11 := inc_I x4_10
  clear h41_17 hok hi3_10
  try simp only [sA_1, sL_1, sI_1, vp_in_iff, Int32.le_iff_toInt_le, Int32.lt_iff_toInt_lt, ← Int32.toInt_inj, reduceIte, Nat.reduceEqDiff] at *
  all_goals omega
theorem ob_X10_eraseOf_10_inv2_49 (st : St) (a1 : Int32) (a2 : Int32) (n_10 : Nat) (st_10 : St) (x4_10 : Int32) (x3_10 : Int32) (hok : okM st) (hi0_10 : 0 ≤ x4_10.toInt) (hi1_10 : x4_10.toInt ≤ (st.1 7).toInt) (hi2_10 : (st.1 7).toInt < x4_10.toInt + (n_10 + 1)) (hi3_10 : okM st_10) (hi4_10 : (st_10.1 7).toInt = (st.1 7).toInt) (h16_1 : ¬ st_10.1 7 ≤ x4_10) (h26_4 : ¬ st_10.2.1 26 x4_10.toNatClampNeg = 0) (h37_11 : st_10.2.1 23 x4_10.toNatClampNeg = (-1)) (h41_17 : ¬ a1 < 0) (h54_46 : ¬ st_10.2.1 22 x4_10.toNatClampNeg = 1 <<< (a1 &&& 31)) : (st.1 7).toInt < (x4_10 + 1).toInt + n_10 := by
  have z1 := okM_7 hok
  have z2 := okM_7 hi3_10
  have z3 := (by decide : (0 : Int32).toInt = 0)
  have z4 := (by decide : (1 : Int32).toInt = 1)
  have z5 := (by decide : (7 : Int32).toInt = 7)
  have z6 := (by decide : (22 : Int32).toInt = 22)
  have z7 := (by decide : (23 : Int32).toInt = 23)
  have z8 := (by decide : (26 : Int32).toInt = 26)
  have z9 := (by decide : (31 : Int32).toInt = 31)
  have z10 := (by decide : (-1 : Int32).toInt = -1)
  have z11 := inc_I x4_10
  clear h41_17 hok hi3_10
  try simp only [sA_1, sL_1, sI_1, vp_in_iff, Int32.le_iff_toInt_le, Int32.lt_iff_toInt_lt, ← Int32.toInt_inj, reduceIte, Nat.reduceEqDiff] at *
  all_goals omega
theorem ob_X10_eraseOf_10_inv3_50 (st : St) (a1 : Int32) (a2 : Int32) (n_10 : Nat) (st_10 : St) (x4_10 : Int32) (x3_10 : Int32) (hok : okM st) (hi0_10 : 0 ≤ x4_10.toInt) (hi1_10 : x4_10.toInt ≤ (st.1 7).toInt) (hi2_10 : (st.1 7).toInt < x4_10.toInt + (n_10 + 1)) (hi3_10 : okM st_10) (hi4_10 : (st_10.1 7).toInt = (st.1 7).toInt) (h16_1 : ¬ st_10.1 7 ≤ x4_10) (h26_4 : ¬ st_10.2.1 26 x4_10.toNatClampNeg = 0) (h37_11 : st_10.2.1 23 x4_10.toNatClampNeg = (-1)) (h41_17 : ¬ a1 < 0) (h54_46 : ¬ st_10.2.1 22 x4_10.toNatClampNeg = 1 <<< (a1 &&& 31)) : okM st_10 := by
  exact hi3_10
theorem ob_X10_eraseOf_10_inv4_51 (st : St) (a1 : Int32) (a2 : Int32) (n_10 : Nat) (st_10 : St) (x4_10 : Int32) (x3_10 : Int32) (hok : okM st) (hi0_10 : 0 ≤ x4_10.toInt) (hi1_10 : x4_10.toInt ≤ (st.1 7).toInt) (hi2_10 : (st.1 7).toInt < x4_10.toInt + (n_10 + 1)) (hi3_10 : okM st_10) (hi4_10 : (st_10.1 7).toInt = (st.1 7).toInt) (h16_1 : ¬ st_10.1 7 ≤ x4_10) (h26_4 : ¬ st_10.2.1 26 x4_10.toNatClampNeg = 0) (h37_11 : st_10.2.1 23 x4_10.toNatClampNeg = (-1)) (h41_17 : ¬ a1 < 0) (h54_46 : ¬ st_10.2.1 22 x4_10.toNatClampNeg = 1 <<< (a1 &&& 31)) : (st_10.1 7).toInt = (st.1 7).toInt := by
  have z1 := okM_7 hok
  have z2 := okM_7 hi3_10
  have z3 := (by decide : (1 : Int32).toInt = 1)
  have z4 := (by decide : (7 : Int32).toInt = 7)
  clear hi0_10 h26_4 h37_11 h41_17 h54_46 hok hi3_10
  try simp only [sA_1, sL_1, sI_1, vp_in_iff, Int32.le_iff_toInt_le, Int32.lt_iff_toInt_lt, ← Int32.toInt_inj, reduceIte, Nat.reduceEqDiff] at *
  all_goals omega
theorem ob_X10_eraseOf_97_52 (st : St) (a1 : Int32) (a2 : Int32) (n_10 : Nat) (st_10 : St) (x4_10 : Int32) (x3_10 : Int32) (hok : okM st) (hi0_10 : 0 ≤ x4_10.toInt) (hi1_10 : x4_10.toInt ≤ (st.1 7).toInt) (hi2_10 : (st.1 7).toInt < x4_10.toInt + (n_10 + 1)) (hi3_10 : okM st_10) (hi4_10 : (st_10.1 7).toInt = (st.1 7).toInt) (h16_1 : ¬ st_10.1 7 ≤ x4_10) (h26_4 : ¬ st_10.2.1 26 x4_10.toNatClampNeg = 0) (h37_11 : st_10.2.1 23 x4_10.toNatClampNeg = (-1)) (h41_17 : ¬ a1 < 0) (h54_46 : st_10.2.1 22 x4_10.toNatClampNeg = 1 <<< (a1 &&& 31)) : vp_in x4_10 100 := by
  have z1 := okM_7 hok
  have z2 := okM_7 hi3_10
  have z3 := (by decide : (0 : Int32).toInt = 0)
  have z4 := (by decide : (1 : Int32).toInt = 1)
  have z5 := (by decide : (7 : Int32).toInt = 7)
  have z6 := (by decide : (22 : Int32).toInt = 22)
  have z7 := (by decide : (23 : Int32).toInt = 23)
  have z8 := (by decide : (26 : Int32).toInt = 26)
  have z9 := (by decide : (31 : Int32).toInt = 31)
  have z10 := (by decide : (100 : Int32).toInt = 100)
  have z11 := (by decide : (-1 : Int32).toInt = -1)
  clear hi4_10 h41_17 hok hi3_10
  try simp only [sA_1, sL_1, sI_1, vp_in_iff, Int32.le_iff_toInt_le, Int32.lt_iff_toInt_lt, ← Int32.toInt_inj, reduceIte, Nat.reduceEqDiff] at *
  all_goals omega
theorem ob_X10_eraseOf_111_54 (st : St) (a1 : Int32) (a2 : Int32) (n_10 : Nat) (st_10 : St) (x4_10 : Int32) (x3_10 : Int32) (hok : okM st) (hi0_10 : 0 ≤ x4_10.toInt) (hi1_10 : x4_10.toInt ≤ (st.1 7).toInt) (hi2_10 : (st.1 7).toInt < x4_10.toInt + (n_10 + 1)) (hi3_10 : okM st_10) (hi4_10 : (st_10.1 7).toInt = (st.1 7).toInt) (h16_1 : ¬ st_10.1 7 ≤ x4_10) (h26_4 : ¬ st_10.2.1 26 x4_10.toNatClampNeg = 0) (h37_11 : st_10.2.1 23 x4_10.toNatClampNeg = (-1)) (h41_17 : ¬ a1 < 0) (h54_46 : st_10.2.1 22 x4_10.toNatClampNeg = 1 <<< (a1 &&& 31)) (h98_53 : st_10.2.1 27 x4_10.toNatClampNeg = 0) : vp_in x4_10 100 := by
  have z1 := okM_7 hok
  have z2 := okM_7 hi3_10
  have z3 := (by decide : (0 : Int32).toInt = 0)
  have z4 := (by decide : (1 : Int32).toInt = 1)
  have z5 := (by decide : (7 : Int32).toInt = 7)
  have z6 := (by decide : (22 : Int32).toInt = 22)
  have z7 := (by decide : (23 : Int32).toInt = 23)
  have z8 := (by decide : (26 : Int32).toInt = 26)
  have z9 := (by decide : (27 : Int32).toInt = 27)
  have z10 := (by decide : (31 : Int32).toInt = 31)
  have z11 := (by decide : (100 : Int32).toInt = 100)
  have z12 := (by decide : (-1 : Int32).toInt = -1)
  clear hi4_10 h41_17 hok hi3_10
  try simp only [sA_1, sL_1, sI_1, vp_in_iff, Int32.le_iff_toInt_le, Int32.lt_iff_toInt_lt, ← Int32.toInt_inj, reduceIte, Nat.reduceEqDiff] at *
  all_goals omega
theorem ob_X10_eraseOf_10_inv0_55 (st : St) (a1 : Int32) (a2 : Int32) (n_10 : Nat) (st_10 : St) (x4_10 : Int32) (x3_10 : Int32) (hok : okM st) (hi0_10 : 0 ≤ x4_10.toInt) (hi1_10 : x4_10.toInt ≤ (st.1 7).toInt) (hi2_10 : (st.1 7).toInt < x4_10.toInt + (n_10 + 1)) (hi3_10 : okM st_10) (hi4_10 : (st_10.1 7).toInt = (st.1 7).toInt) (h16_1 : ¬ st_10.1 7 ≤ x4_10) (h26_4 : ¬ st_10.2.1 26 x4_10.toNatClampNeg = 0) (h37_11 : st_10.2.1 23 x4_10.toNatClampNeg = (-1)) (h41_17 : ¬ a1 < 0) (h54_46 : st_10.2.1 22 x4_10.toNatClampNeg = 1 <<< (a1 &&& 31)) (h98_53 : st_10.2.1 27 x4_10.toNatClampNeg = 0) : 0 ≤ (x4_10 + 1).toInt := by
  have z1 := okM_7 hok
  have z2 := okM_7 hi3_10
  have z3 := (by decide : (0 : Int32).toInt = 0)
  have z4 := (by decide : (1 : Int32).toInt = 1)
  have z5 := (by decide : (7 : Int32).toInt = 7)
  have z6 := (by decide : (22 : Int32).toInt = 22)
  have z7 := (by decide : (23 : Int32).toInt = 23)
  have z8 := (by decide : (26 : Int32).toInt = 26)
  have z9 := (by decide : (27 : Int32).toInt = 27)
  have z10 := (by decide : (31 : Int32).toInt = 31)
  have z11 := (by decide : (-1 : Int32).toInt = -1)
  have z12 := inc_I x4_10
  clear hi4_10 h41_17 hok hi3_10
  try simp only [sA_1, sL_1, sI_1, vp_in_iff, Int32.le_iff_toInt_le, Int32.lt_iff_toInt_lt, ← Int32.toInt_inj, reduceIte, Nat.reduceEqDiff] at *
  all_goals omega
theorem ob_X10_eraseOf_10_inv1_56 (st : St) (a1 : Int32) (a2 : Int32) (n_10 : Nat) (st_10 : St) (x4_10 : Int32) (x3_10 : Int32) (hok : okM st) (hi0_10 : 0 ≤ x4_10.toInt) (hi1_10 : x4_10.toInt ≤ (st.1 7).toInt) (hi2_10 : (st.1 7).toInt < x4_10.toInt + (n_10 + 1)) (hi3_10 : okM st_10) (hi4_10 : (st_10.1 7).toInt = (st.1 7).toInt) (h16_1 : ¬ st_10.1 7 ≤ x4_10) (h26_4 : ¬ st_10.2.1 26 x4_10.toNatClampNeg = 0) (h37_11 : st_10.2.1 23 x4_10.toNatClampNeg = (-1)) (h41_17 : ¬ a1 < 0) (h54_46 : st_10.2.1 22 x4_10.toNatClampNeg = 1 <<< (a1 &&& 31)) (h98_53 : st_10.2.1 27 x4_10.toNatClampNeg = 0) : (x4_10 + 1).toInt ≤ (st.1 7).toInt := by
  have z1 := okM_7 hok
  have z2 := okM_7 hi3_10
  have z3 := (by decide : (0 : Int32).toInt = 0)
  have z4 := (by decide : (1 : Int32).toInt = 1)
  have z5 := (by decide : (7 : Int32).toInt = 7)
  have z6 := (by decide : (22 : Int32).toInt = 22)
  have z7 := (by decide : (23 : Int32).toInt = 23)
  have z8 := (by decide : (26 : Int32).toInt = 26)
  have z9 := (by decide : (27 : Int32).toInt = 27)
  have z10 := (by decide : (31 : Int32).toInt = 31)
  have z11 := (by decide : (-1 : Int32).toInt = -1)
  have z12 := inc_I x4_10
  clear h41_17 hok hi3_10
  try simp only [sA_1, sL_1, sI_1, vp_in_iff, Int32.le_iff_toInt_le, Int32.lt_iff_toInt_lt, ← Int32.toInt_inj, reduceIte, Nat.reduceEqDiff] at *
  all_goals omega
theorem ob_X10_eraseOf_10_inv2_57 (st : St) (a1 : Int32) (a2 : Int32) (n_10 : Nat) (st_10 : St) (x4_10 : Int32) (x3_10 : Int32) (hok : okM st) (hi0_10 : 0 ≤ x4_10.toInt) (hi1_10 : x4_10.toInt ≤ (st.1 7).toInt) (hi2_10 : (st.1 7).toInt < x4_10.toInt + (n_10 + 1)) (hi3_10 : okM st_10) (hi4_10 : (st_10.1 7).toInt = (st.1 7).toInt) (h16_1 : ¬ st_10.1 7 ≤ x4_10) (h26_4 : ¬ st_10.2.1 26 x4_10.toNatClampNeg = 0) (h37_11 : st_10.2.1 23 x4_10.toNatClampNeg = (-1)) (h41_17 : ¬ a1 < 0) (h54_46 : st_10.2.1 22 x4_10.toNatClampNeg = 1 <<< (a1 &&& 31)) (h98_53 : st_10.2.1 27 x4_10.toNatClampNeg = 0) : (st.1 7).toInt < (x4_10 + 1).toInt + n_10 := by
  have z1 := okM_7 hok
  have z2 := okM_7 hi3_10
  have z3 := (by decide : (0 : Int32).toInt = 0)
  have z4 := (by decide : (1 : Int32).toInt = 1)
  have z5 := (by decide : (7 : Int32).toInt = 7)
  have z6 := (by decide : (22 : Int32).toInt = 22)
  have z7 := (by decide : (23 : Int32).toInt = 23)
  have z8 := (by decide : (26 : Int32).toInt = 26)
  have z9 := (by decide : (27 : Int32).toInt = 27)
  have z10 := (by decide : (31 : Int32).toInt = 31)
  have z11 := (by decide : (-1 : Int32).toInt = -1)
  have z12 := inc_I x4_10
  clear h41_17 hok hi3_10
  try simp only [sA_1, sL_1, sI_1, vp_in_iff, Int32.le_iff_toInt_le, Int32.lt_iff_toInt_lt, ← Int32.toInt_inj, reduceIte, Nat.reduceEqDiff] at *
  all_goals omega
theorem ob_X10_eraseOf_10_inv3_58 (st : St) (a1 : Int32) (a2 : Int32) (n_10 : Nat) (st_10 : St) (x4_10 : Int32) (x3_10 : Int32) (hok : okM st) (hi0_10 : 0 ≤ x4_10.toInt) (hi1_10 : x4_10.toInt ≤ (st.1 7).toInt) (hi2_10 : (st.1 7).toInt < x4_10.toInt + (n_10 + 1)) (hi3_10 : okM st_10) (hi4_10 : (st_10.1 7).toInt = (st.1 7).toInt) (h16_1 : ¬ st_10.1 7 ≤ x4_10) (h26_4 : ¬ st_10.2.1 26 x4_10.toNatClampNeg = 0) (h37_11 : st_10.2.1 23 x4_10.toNatClampNeg = (-1)) (h41_17 : ¬ a1 < 0) (h54_46 : st_10.2.1 22 x4_10.toNatClampNeg = 1 <<< (a1 &&& 31)) (h98_53 : st_10.2.1 27 x4_10.toNatClampNeg = 0) : okM (sA st_10 26 x4_10.toNatClampNeg 0) := by
  exact hi3_10
theorem ob_X10_eraseOf_10_inv4_59 (st : St) (a1 : Int32) (a2 : Int32) (n_10 : Nat) (st_10 : St) (x4_10 : Int32) (x3_10 : Int32) (hok : okM st) (hi0_10 : 0 ≤ x4_10.toInt) (hi1_10 : x4_10.toInt ≤ (st.1 7).toInt) (hi2_10 : (st.1 7).toInt < x4_10.toInt + (n_10 + 1)) (hi3_10 : okM st_10) (hi4_10 : (st_10.1 7).toInt = (st.1 7).toInt) (h16_1 : ¬ st_10.1 7 ≤ x4_10) (h26_4 : ¬ st_10.2.1 26 x4_10.toNatClampNeg = 0) (h37_11 : st_10.2.1 23 x4_10.toNatClampNeg = (-1)) (h41_17 : ¬ a1 < 0) (h54_46 : st_10.2.1 22 x4_10.toNatClampNeg = 1 <<< (a1 &&& 31)) (h98_53 : st_10.2.1 27 x4_10.toNatClampNeg = 0) : ((sA st_10 26 x4_10.toNatClampNeg 0).1 7).toInt = (st.1 7).toInt := by
  have z1 := okM_7 hok
  have z2 := okM_7 hi3_10
  have z3 := (by decide : (0 : Int32).toInt = 0)
  have z4 := (by decide : (1 : Int32).toInt = 1)
  have z5 := (by decide : (7 : Int32).toInt = 7)
  have z6 := (by decide : (22 : Int32).toInt = 22)
  have z7 := (by decide : (23 : Int32).toInt = 23)
  have z8 := (by decide : (26 : Int32).toInt = 26)
  have z9 := (by decide : (27 : Int32).toInt = 27)
  have z10 := (by decide : (31 : Int32).toInt = 31)
  have z11 := (by decide : (-1 : Int32).toInt = -1)
  clear h41_17 hok hi3_10
  try simp only [sA_1, sL_1, sI_1, vp_in_iff, Int32.le_iff_toInt_le, Int32.lt_iff_toInt_lt, ← Int32.toInt_inj, reduceIte, Nat.reduceEqDiff] at *
  all_goals omega
theorem ob_X10_eraseOf_10_inv0_60 (st : St) (a1 : Int32) (a2 : Int32) (n_10 : Nat) (st_10 : St) (x4_10 : Int32) (x3_10 : Int32) (hok : okM st) (hi0_10 : 0 ≤ x4_10.toInt) (hi1_10 : x4_10.toInt ≤ (st.1 7).toInt) (hi2_10 : (st.1 7).toInt < x4_10.toInt + (n_10 + 1)) (hi3_10 : okM st_10) (hi4_10 : (st_10.1 7).toInt = (st.1 7).toInt) (h16_1 : ¬ st_10.1 7 ≤ x4_10) (h26_4 : ¬ st_10.2.1 26 x4_10.toNatClampNeg = 0) (h37_11 : st_10.2.1 23 x4_10.toNatClampNeg = (-1)) (h41_17 : ¬ a1 < 0) (h54_46 : st_10.2.1 22 x4_10.toNatClampNeg = 1 <<< (a1 &&& 31)) (h98_53 : ¬ st_10.2.1 27 x4_10.toNatClampNeg = 0) : 0 ≤ (x4_10 + 1).toInt := by
  have z1 := okM_7 hok
  have z2 := okM_7 hi3_10
  have z3 := (by decide : (0 : Int32).toInt = 0)
  have z4 := (by decide : (1 : Int32).toInt = 1)
  have z5 := (by decide : (7 : Int32).toInt = 7)
  have z6 := (by decide : (22 : Int32).toInt = 22)
  have z7 := (by decide : (23 : Int32).toInt = 23)
  have z8 := (by decide : (26 : Int32).toInt = 26)
  have z9 := (by decide : (27 : Int32).toInt = 27)
  have z10 := (by decide : (31 : Int32).toInt = 31)
  have z11 := (by decide : (-1 : Int32).toInt = -1)
  have z12 := inc_I x4_10
  clear hi4_10 h41_17 hok hi3_10
  try simp only [sA_1, sL_1, sI_1, vp_in_iff, Int32.le_iff_toInt_le, Int32.lt_iff_toInt_lt, ← Int32.toInt_inj, reduceIte, Nat.reduceEqDiff] at *
  all_goals omega
theorem ob_X10_eraseOf_10_inv1_61 (st : St) (a1 : Int32) (a2 : Int32) (n_10 : Nat) (st_10 : St) (x4_10 : Int32) (x3_10 : Int32) (hok : okM st) (hi0_10 : 0 ≤ x4_10.toInt) (hi1_10 : x4_10.toInt ≤ (st.1 7).toInt) (hi2_10 : (st.1 7).toInt < x4_10.toInt + (n_10 + 1)) (hi3_10 : okM st_10) (hi4_10 : (st_10.1 7).toInt = (st.1 7).toInt) (h16_1 : ¬ st_10.1 7 ≤ x4_10) (h26_4 : ¬ st_10.2.1 26 x4_10.toNatClampNeg = 0) (h37_11 : st_10.2.1 23 x4_10.toNatClampNeg = (-1)) (h41_17 : ¬ a1 < 0) (h54_46 : st_10.2.1 22 x4_10.toNatClampNeg = 1 <<< (a1 &&& 31)) (h98_53 : ¬ st_10.2.1 27 x4_10.toNatClampNeg = 0) : (x4_10 + 1).toInt ≤ (st.1 7).toInt := by
  have z1 := okM_7 hok
  have z2 := okM_7 hi3_10
  have z3 := (by decide : (0 : Int32).toInt = 0)
  have z4 := (by decide : (1 : Int32).toInt = 1)
  have z5 := (by decide : (7 : Int32).toInt = 7)
  have z6 := (by decide : (22 : Int32).toInt = 22)
  have z7 := (by decide : (23 : Int32).toInt = 23)
  have z8 := (by decide : (26 : Int32).toInt = 26)
  have z9 := (by decide : (27 : Int32).toInt = 27)
  have z10 := (by decide : (31 : Int32).toInt = 31)
  have z11 := (by decide : (-1 : Int32).toInt = -1)
  have z12 := inc_I x4_10
  clear h41_17 hok hi3_10
  try simp only [sA_1, sL_1, sI_1, vp_in_iff, Int32.le_iff_toInt_le, Int32.lt_iff_toInt_lt, ← Int32.toInt_inj, reduceIte, Nat.reduceEqDiff] at *
  all_goals omega
theorem ob_X10_eraseOf_10_inv2_62 (st : St) (a1 : Int32) (a2 : Int32) (n_10 : Nat) (st_10 : St) (x4_10 : Int32) (x3_10 : Int32) (hok : okM st) (hi0_10 : 0 ≤ x4_10.toInt) (hi1_10 : x4_10.toInt ≤ (st.1 7).toInt) (hi2_10 : (st.1 7).toInt < x4_10.toInt + (n_10 + 1)) (hi3_10 : okM st_10) (hi4_10 : (st_10.1 7).toInt = (st.1 7).toInt) (h16_1 : ¬ st_10.1 7 ≤ x4_10) (h26_4 : ¬ st_10.2.1 26 x4_10.toNatClampNeg = 0) (h37_11 : st_10.2.1 23 x4_10.toNatClampNeg = (-1)) (h41_17 : ¬ a1 < 0) (h54_46 : st_10.2.1 22 x4_10.toNatClampNeg = 1 <<< (a1 &&& 31)) (h98_53 : ¬ st_10.2.1 27 x4_10.toNatClampNeg = 0) : (st.1 7).toInt < (x4_10 + 1).toInt + n_10 := by
  have z1 := okM_7 hok
  have z2 := okM_7 hi3_10
  have z3 := (by decide : (0 : Int32).toInt = 0)
  have z4 := (by decide : (1 : Int32).toInt = 1)
  have z5 := (by decide : (7 : Int32).toInt = 7)
  have z6 := (by decide : (22 : Int32).toInt = 22)
  have z7 := (by decide : (23 : Int32).toInt = 23)
  have z8 := (by decide : (26 : Int32).toInt = 26)
  have z9 := (by decide : (27 : Int32).toInt = 27)
  have z10 := (by decide : (31 : Int32).toInt = 31)
  have z11 := (by decide : (-1 : Int32).toInt = -1)
  have z12 := inc_I x4_10
  clear h41_17 hok hi3_10
  try simp only [sA_1, sL_1, sI_1, vp_in_iff, Int32.le_iff_toInt_le, Int32.lt_iff_toInt_lt, ← Int32.toInt_inj, reduceIte, Nat.reduceEqDiff] at *
  all_goals omega
theorem ob_X10_eraseOf_10_inv3_63 (st : St) (a1 : Int32) (a2 : Int32) (n_10 : Nat) (st_10 : St) (x4_10 : Int32) (x3_10 : Int32) (hok : okM st) (hi0_10 : 0 ≤ x4_10.toInt) (hi1_10 : x4_10.toInt ≤ (st.1 7).toInt) (hi2_10 : (st.1 7).toInt < x4_10.toInt + (n_10 + 1)) (hi3_10 : okM st_10) (hi4_10 : (st_10.1 7).toInt = (st.1 7).toInt) (h16_1 : ¬ st_10.1 7 ≤ x4_10) (h26_4 : ¬ st_10.2.1 26 x4_10.toNatClampNeg = 0) (h37_11 : st_10.2.1 23 x4_10.toNatClampNeg = (-1)) (h41_17 : ¬ a1 < 0) (h54_46 : st_10.2.1 22 x4_10.toNatClampNeg = 1 <<< (a1 &&& 31)) (h98_53 : ¬ st_10.2.1 27 x4_10.toNatClampNeg = 0) : okM st_10 := by
  exact hi3_10
theorem ob_X10_eraseOf_10_inv4_64 (st : St) (a1 : Int32) (a2 : Int32) (n_10 : Nat) (st_10 : St) (x4_10 : Int32) (x3_10 : Int32) (hok : okM st) (hi0_10 : 0 ≤ x4_10.toInt) (hi1_10 : x4_10.toInt ≤ (st.1 7).toInt) (hi2_10 : (st.1 7).toInt < x4_10.toInt + (n_10 + 1)) (hi3_10 : okM st_10) (hi4_10 : (st_10.1 7).toInt = (st.1 7).toInt) (h16_1 : ¬ st_10.1 7 ≤ x4_10) (h26_4 : ¬ st_10.2.1 26 x4_10.toNatClampNeg = 0) (h37_11 : st_10.2.1 23 x4_10.toNatClampNeg = (-1)) (h41_17 : ¬ a1 < 0) (h54_46 : st_10.2.1 22 x4_10.toNatClampNeg = 1 <<< (a1 &&& 31)) (h98_53 : ¬ st_10.2.1 27 x4_10.toNatClampNeg = 0) : (st_10.1 7).toInt = (st.1 7).toInt := by
  have z1 := okM_7 hok
  have z2 := okM_7 hi3_10
  have z3 := (by decide : (1 : Int32).toInt = 1)
  have z4 := (by decide : (7 : Int32).toInt = 7)
  clear hi0_10 h26_4 h37_11 h41_17 h54_46 h98_53 hok hi3_10
  try simp only [sA_1, sL_1, sI_1, vp_in_iff, Int32.le_iff_toInt_le, Int32.lt_iff_toInt_lt, ← Int32.toInt_inj, reduceIte, Nat.reduceEqDiff] at *
  all_goals omega
theorem ob_X10_eraseOf_10_inv0_65 (st : St) (a1 : Int32) (a2 : Int32) (hok : okM st) : 0 ≤ (0 : Int32).toInt := by
  have z1 := (by decide : (0 : Int32).toInt = 0)
  clear hok
  try simp only [sA_1, sL_1, sI_1, vp_in_iff, Int32.le_iff_toInt_le, Int32.lt_iff_toInt_lt, ← Int32.toInt_inj, reduceIte, Nat.reduceEqDiff] at *
  all_goals omega
theorem ob_X10_eraseOf_10_inv1_66 (st : St) (a1 : Int32) (a2 : Int32) (hok : okM st) : (0 : Int32).toInt ≤ (st.1 7).toInt := by
  have z1 := okM_7 hok
  have z2 := (by decide : (0 : Int32).toInt = 0)
  have z3 := (by decide : (7 : Int32).toInt = 7)
  clear hok
  try simp only [sA_1, sL_1, sI_1, vp_in_iff, Int32.le_iff_toInt_le, Int32.lt_iff_toInt_lt, ← Int32.toInt_inj, reduceIte, Nat.reduceEqDiff] at *
  all_goals omega
theorem ob_X10_eraseOf_10_inv2_67 (st : St) (a1 : Int32) (a2 : Int32) (hok : okM st) : (st.1 7).toInt < (0 : Int32).toInt + ((st.1 7).toInt.toNat + 1) := by
  have z1 := okM_7 hok
  have z2 := (by decide : (0 : Int32).toInt = 0)
  have z3 := (by decide : (1 : Int32).toInt = 1)
  have z4 := (by decide : (7 : Int32).toInt = 7)
  clear hok
  try simp only [sA_1, sL_1, sI_1, vp_in_iff, Int32.le_iff_toInt_le, Int32.lt_iff_toInt_lt, ← Int32.toInt_inj, reduceIte, Nat.reduceEqDiff] at *
  all_goals omega
theorem ob_X10_eraseOf_10_inv3_68 (st : St) (a1 : Int32) (a2 : Int32) (hok : okM st) : okM (sp_X10_keep st a2) := by
  exact (okM_X10_keep st a2 hok)
theorem ob_X10_eraseOf_10_inv4_69 (st : St) (a1 : Int32) (a2 : Int32) (hok : okM st) : ((sp_X10_keep st a2).1 7).toInt = (st.1 7).toInt := by
  have z1 := okM_7 hok
  have z2 := (by decide : (7 : Int32).toInt = 7)
  clear hok
  try simp only [sA_1, sL_1, sI_1, vp_in_iff, Int32.le_iff_toInt_le, Int32.lt_iff_toInt_lt, ← Int32.toInt_inj, reduceIte, Nat.reduceEqDiff, I_X10_keep_7] at *
  all_goals omega
theorem ob_X10_erase_35_3 (st : St) (a1 : Int32) (a2 : Int32) (hok : okM st) (h5_1 : ¬ (sp_X10_isPerson a1) = 0) (h12_2 : ¬ (sp_X10_isMinute a2) = 0) : okM (sI st 10 0) := by
  exact hok
theorem ob_X10_sweep_28_2 (st : St) (a1 : Int32) (hok : okM st) (h9_1 : ¬ (sp_X10_in a1 0 6944) = 0) : okM (sI st 10 0) := by
  exact hok
theorem ob_X10_held_10_zero (st : St) (a1 : Int32) (a2 : Int32) (x4_10 : Int32) (x3_10 : Int32) (hit : okIt st) (hi0_10 : 0 ≤ x4_10.toInt) (hi1_10 : x4_10.toInt ≤ (st.1 7).toInt) (hi2_10 : (st.1 7).toInt < x4_10.toInt + 0) : False := by
  have z1 := okIt_7 hit
  have z2 := (by decide : (0 : Int32).toInt = 0)
  have z3 := (by decide : (7 : Int32).toInt = 7)
  clear hit
  try simp only [sA_1, sL_1, sI_1, vp_in_iff, Int32.le_iff_toInt_le, Int32.lt_iff_toInt_lt, ← Int32.toInt_inj, reduceIte, Nat.reduceEqDiff] at *
  all_goals omega
theorem ob_X10_held_32_3 (st : St) (a1 : Int32) (a2 : Int32) (n_10 : Nat) (x4_10 : Int32) (x3_10 : Int32) (hit : okIt st) (hi0_10 : 0 ≤ x4_10.toInt) (hi1_10 : x4_10.toInt ≤ (st.1 7).toInt) (hi2_10 : (st.1 7).toInt < x4_10.toInt + (n_10 + 1)) (h16_1 : ¬ st.1 7 ≤ x4_10) (h23_2 : ¬ (sp_X10_isPerson a1) = 0) : vp_in x4_10 100 := by
  have z1 := okIt_7 hit
  have z2 := (by decide : (0 : Int32).toInt = 0)
  have z3 := (by decide : (1 : Int32).toInt = 1)
  have z4 := (by decide : (7 : Int32).toInt = 7)
  have z5 := (by decide : (100 : Int32).toInt = 100)
  clear h23_2 hit
  try simp only [sA_1, sL_1, sI_1, vp_in_iff, Int32.le_iff_toInt_le, Int32.lt_iff_toInt_lt, ← Int32.toInt_inj, reduceIte, Nat.reduceEqDiff] at *
  all_goals omega
theorem ob_X10_held_10_inv0_5 (st : St) (a1 : Int32) (a2 : Int32) (n_10 : Nat) (x4_10 : Int32) (x3_10 : Int32) (hit : okIt st) (hi0_10 : 0 ≤ x4_10.toInt) (hi1_10 : x4_10.toInt ≤ (st.1 7).toInt) (hi2_10 : (st.1 7).toInt < x4_10.toInt + (n_10 + 1)) (h16_1 : ¬ st.1 7 ≤ x4_10) (h23_2 : ¬ (sp_X10_isPerson a1) = 0) (h33_4 : st.2.1 26 x4_10.toNatClampNeg = 0) : 0 ≤ (x4_10 + 1).toInt := by
  have z1 := okIt_7 hit
  have z2 := (by decide : (0 : Int32).toInt = 0)
  have z3 := (by decide : (1 : Int32).toInt = 1)
  have z4 := (by decide : (7 : Int32).toInt = 7)
  have z5 := (by decide : (26 : Int32).toInt = 26)
  have z6 := inc_I x4_10
  clear h23_2 hit
  try simp only [sA_1, sL_1, sI_1, vp_in_iff, Int32.le_iff_toInt_le, Int32.lt_iff_toInt_lt, ← Int32.toInt_inj, reduceIte, Nat.reduceEqDiff] at *
  all_goals omega
theorem ob_X10_held_10_inv1_6 (st : St) (a1 : Int32) (a2 : Int32) (n_10 : Nat) (x4_10 : Int32) (x3_10 : Int32) (hit : okIt st) (hi0_10 : 0 ≤ x4_10.toInt) (hi1_10 : x4_10.toInt ≤ (st.1 7).toInt) (hi2_10 : (st.1 7).toInt < x4_10.toInt + (n_10 + 1)) (h16_1 : ¬ st.1 7 ≤ x4_10) (h23_2 : ¬ (sp_X10_isPerson a1) = 0) (h33_4 : st.2.1 26 x4_10.toNatClampNeg = 0) : (x4_10 + 1).toInt ≤ (st.1 7).toInt := by
  have z1 := okIt_7 hit
  have z2 := (by decide : (0 : Int32).toInt = 0)
  have z3 := (by decide : (1 : Int32).toInt = 1)
  have z4 := (by decide : (7 : Int32).toInt = 7)
  have z5 := (by decide : (26 : Int32).toInt = 26)
  have z6 := inc_I x4_10
  clear h23_2 hit
  try simp only [sA_1, sL_1, sI_1, vp_in_iff, Int32.le_iff_toInt_le, Int32.lt_iff_toInt_lt, ← Int32.toInt_inj, reduceIte, Nat.reduceEqDiff] at *
  all_goals omega
theorem ob_X10_held_10_inv2_7 (st : St) (a1 : Int32) (a2 : Int32) (n_10 : Nat) (x4_10 : Int32) (x3_10 : Int32) (hit : okIt st) (hi0_10 : 0 ≤ x4_10.toInt) (hi1_10 : x4_10.toInt ≤ (st.1 7).toInt) (hi2_10 : (st.1 7).toInt < x4_10.toInt + (n_10 + 1)) (h16_1 : ¬ st.1 7 ≤ x4_10) (h23_2 : ¬ (sp_X10_isPerson a1) = 0) (h33_4 : st.2.1 26 x4_10.toNatClampNeg = 0) : (st.1 7).toInt < (x4_10 + 1).toInt + n_10 := by
  have z1 := okIt_7 hit
  have z2 := (by decide : (0 : Int32).toInt = 0)
  have z3 := (by decide : (1 : Int32).toInt = 1)
  have z4 := (by decide : (7 : Int32).toInt = 7)
  have z5 := (by decide : (26 : Int32).toInt = 26)
  have z6 := inc_I x4_10
  clear h23_2 hit
  try simp only [sA_1, sL_1, sI_1, vp_in_iff, Int32.le_iff_toInt_le, Int32.lt_iff_toInt_lt, ← Int32.toInt_inj, reduceIte, Nat.reduceEqDiff] at *
  all_goals omega
theorem ob_X10_held_42_8 (st : St) (a1 : Int32) (a2 : Int32) (n_10 : Nat) (x4_10 : Int32) (x3_10 : Int32) (hit : okIt st) (hi0_10 : 0 ≤ x4_10.toInt) (hi1_10 : x4_10.toInt ≤ (st.1 7).toInt) (hi2_10 : (st.1 7).toInt < x4_10.toInt + (n_10 + 1)) (h16_1 : ¬ st.1 7 ≤ x4_10) (h23_2 : ¬ (sp_X10_isPerson a1) = 0) (h33_4 : ¬ st.2.1 26 x4_10.toNatClampNeg = 0) : vp_in x4_10 100 := by
  have z1 := okIt_7 hit
  have z2 := (by decide : (0 : Int32).toInt = 0)
  have z3 := (by decide : (1 : Int32).toInt = 1)
  have z4 := (by decide : (7 : Int32).toInt = 7)
  have z5 := (by decide : (26 : Int32).toInt = 26)
  have z6 := (by decide : (100 : Int32).toInt = 100)
  clear h23_2 hit
  try simp only [sA_1, sL_1, sI_1, vp_in_iff, Int32.le_iff_toInt_le, Int32.lt_iff_toInt_lt, ← Int32.toInt_inj, reduceIte, Nat.reduceEqDiff] at *
  all_goals omega
theorem ob_X10_held_10_inv0_11 (st : St) (a1 : Int32) (a2 : Int32) (n_10 : Nat) (x4_10 : Int32) (x3_10 : Int32) (hit : okIt st) (hi0_10 : 0 ≤ x4_10.toInt) (hi1_10 : x4_10.toInt ≤ (st.1 7).toInt) (hi2_10 : (st.1 7).toInt < x4_10.toInt + (n_10 + 1)) (h16_1 : ¬ st.1 7 ≤ x4_10) (h23_2 : ¬ (sp_X10_isPerson a1) = 0) (h33_4 : ¬ st.2.1 26 x4_10.toNatClampNeg = 0) (h47_9 : ¬ ((st.2.1 22 x4_10.toNatClampNeg) >>> (a1 &&& 31)) &&& 1 = 0) (h55_10 : ¬ x3_10 = a2) : 0 ≤ (x4_10 + 1).toInt := by
  have z1 := okIt_7 hit
  have z2 := (by decide : (0 : Int32).toInt = 0)
  have z3 := (by decide : (1 : Int32).toInt = 1)
  have z4 := (by decide : (7 : Int32).toInt = 7)
  have z5 := (by decide : (22 : Int32).toInt = 22)
  have z6 := (by decide : (26 : Int32).toInt = 26)
  have z7 := (by decide : (31 : Int32).toInt = 31)
  have z8 := inc_I x4_10
  clear h23_2 h55_10 hit
  try simp only [sA_1, sL_1, sI_1, vp_in_iff, Int32.le_iff_toInt_le, Int32.lt_iff_toInt_lt, ← Int32.toInt_inj, reduceIte, Nat.reduceEqDiff] at *
  all_goals omega
theorem ob_X10_held_10_inv1_12 (st : St) (a1 : Int32) (a2 : Int32) (n_10 : Nat) (x4_10 : Int32) (x3_10 : Int32) (hit : okIt st) (hi0_10 : 0 ≤ x4_10.toInt) (hi1_10 : x4_10.toInt ≤ (st.1 7).toInt) (hi2_10 : (st.1 7).toInt < x4_10.toInt + (n_10 + 1)) (h16_1 : ¬ st.1 7 ≤ x4_10) (h23_2 : ¬ (sp_X10_isPerson a1) = 0) (h33_4 : ¬ st.2.1 26 x4_10.toNatClampNeg = 0) (h47_9 : ¬ ((st.2.1 22 x4_10.toNatClampNeg) >>> (a1 &&& 31)) &&& 1 = 0) (h55_10 : ¬ x3_10 = a2) : (x4_10 + 1).toInt ≤ (st.1 7).toInt := by
  have z1 := okIt_7 hit
  have z2 := (by decide : (0 : Int32).toInt = 0)
  have z3 := (by decide : (1 : Int32).toInt = 1)
  have z4 := (by decide : (7 : Int32).toInt = 7)
  have z5 := (by decide : (22 : Int32).toInt = 22)
  have z6 := (by decide : (26 : Int32).toInt = 26)
  have z7 := (by decide : (31 : Int32).toInt = 31)
  have z8 := inc_I x4_10
  clear h23_2 h55_10 hit
  try simp only [sA_1, sL_1, sI_1, vp_in_iff, Int32.le_iff_toInt_le, Int32.lt_iff_toInt_lt, ← Int32.toInt_inj, reduceIte, Nat.reduceEqDiff] at *
  all_goals omega
theorem ob_X10_held_10_inv2_13 (st : St) (a1 : Int32) (a2 : Int32) (n_10 : Nat) (x4_10 : Int32) (x3_10 : Int32) (hit : okIt st) (hi0_10 : 0 ≤ x4_10.toInt) (hi1_10 : x4_10.toInt ≤ (st.1 7).toInt) (hi2_10 : (st.1 7).toInt < x4_10.toInt + (n_10 + 1)) (h16_1 : ¬ st.1 7 ≤ x4_10) (h23_2 : ¬ (sp_X10_isPerson a1) = 0) (h33_4 : ¬ st.2.1 26 x4_10.toNatClampNeg = 0) (h47_9 : ¬ ((st.2.1 22 x4_10.toNatClampNeg) >>> (a1 &&& 31)) &&& 1 = 0) (h55_10 : ¬ x3_10 = a2) : (st.1 7).toInt < (x4_10 + 1).toInt + n_10 := by
  have z1 := okIt_7 hit
  have z2 := (by decide : (0 : Int32).toInt = 0)
  have z3 := (by decide : (1 : Int32).toInt = 1)
  have z4 := (by decide : (7 : Int32).toInt = 7)
  have z5 := (by decide : (22 : Int32).toInt = 22)
  have z6 := (by decide : (26 : Int32).toInt = 26)
  have z7 := (by decide : (31 : Int32).toInt = 31)
  have z8 := inc_I x4_10
  clear h23_2 h55_10 hit
  try simp only [sA_1, sL_1, sI_1, vp_in_iff, Int32.le_iff_toInt_le, Int32.lt_iff_toInt_lt, ← Int32.toInt_inj, reduceIte, Nat.reduceEqDiff] at *
  all_goals omega
theorem ob_X10_held_10_inv0_14 (st : St) (a1 : Int32) (a2 : Int32) (n_10 : Nat) (x4_10 : Int32) (x3_10 : Int32) (hit : okIt st) (hi0_10 : 0 ≤ x4_10.toInt) (hi1_10 : x4_10.toInt ≤ (st.1 7).toInt) (hi2_10 : (st.1 7).toInt < x4_10.toInt + (n_10 + 1)) (h16_1 : ¬ st.1 7 ≤ x4_10) (h23_2 : ¬ (sp_X10_isPerson a1) = 0) (h33_4 : ¬ st.2.1 26 x4_10.toNatClampNeg = 0) (h47_9 : ((st.2.1 22 x4_10.toNatClampNeg) >>> (a1 &&& 31)) &&& 1 = 0) : 0 ≤ (x4_10 + 1).toInt := by
  have z1 := okIt_7 hit
  have z2 := (by decide : (0 : Int32).toInt = 0)
  have z3 := (by decide : (1 : Int32).toInt = 1)
  have z4 := (by decide : (7 : Int32).toInt = 7)
  have z5 := (by decide : (22 : Int32).toInt = 22)
  have z6 := (by decide : (26 : Int32).toInt = 26)
  have z7 := (by decide : (31 : Int32).toInt = 31)
  have z8 := inc_I x4_10
  clear h23_2 hit
  try simp only [sA_1, sL_1, sI_1, vp_in_iff, Int32.le_iff_toInt_le, Int32.lt_iff_toInt_lt, ← Int32.toInt_inj, reduceIte, Nat.reduceEqDiff] at *
  all_goals omega
theorem ob_X10_held_10_inv1_15 (st : St) (a1 : Int32) (a2 : Int32) (n_10 : Nat) (x4_10 : Int32) (x3_10 : Int32) (hit : okIt st) (hi0_10 : 0 ≤ x4_10.toInt) (hi1_10 : x4_10.toInt ≤ (st.1 7).toInt) (hi2_10 : (st.1 7).toInt < x4_10.toInt + (n_10 + 1)) (h16_1 : ¬ st.1 7 ≤ x4_10) (h23_2 : ¬ (sp_X10_isPerson a1) = 0) (h33_4 : ¬ st.2.1 26 x4_10.toNatClampNeg = 0) (h47_9 : ((st.2.1 22 x4_10.toNatClampNeg) >>> (a1 &&& 31)) &&& 1 = 0) : (x4_10 + 1).toInt ≤ (st.1 7).toInt := by
  have z1 := okIt_7 hit
  have z2 := (by decide : (0 : Int32).toInt = 0)
  have z3 := (by decide : (1 : Int32).toInt = 1)
  have z4 := (by decide : (7 : Int32).toInt = 7)
  have z5 := (by decide : (22 : Int32).toInt = 22)
  have z6 := (by decide : (26 : Int32).toInt = 26)
  have z7 := (by decide : (31 : Int32).toInt = 31)
  have z8 := inc_I x4_10
  clear h23_2 hit
  try simp only [sA_1, sL_1, sI_1, vp_in_iff, Int32.le_iff_toInt_le, Int32.lt_iff_toInt_lt, ← Int32.toInt_inj, reduceIte, Nat.reduceEqDiff] at *
  all_goals omega
theorem ob_X10_held_10_inv2_16 (st : St) (a1 : Int32) (a2 : Int32) (n_10 : Nat) (x4_10 : Int32) (x3_10 : Int32) (hit : okIt st) (hi0_10 : 0 ≤ x4_10.toInt) (hi1_10 : x4_10.toInt ≤ (st.1 7).toInt) (hi2_10 : (st.1 7).toInt < x4_10.toInt + (n_10 + 1)) (h16_1 : ¬ st.1 7 ≤ x4_10) (h23_2 : ¬ (sp_X10_isPerson a1) = 0) (h33_4 : ¬ st.2.1 26 x4_10.toNatClampNeg = 0) (h47_9 : ((st.2.1 22 x4_10.toNatClampNeg) >>> (a1 &&& 31)) &&& 1 = 0) : (st.1 7).toInt < (x4_10 + 1).toInt + n_10 := by
  have z1 := okIt_7 hit
  have z2 := (by decide : (0 : Int32).toInt = 0)
  have z3 := (by decide : (1 : Int32).toInt = 1)
  have z4 := (by decide : (7 : Int32).toInt = 7)
  have z5 := (by decide : (22 : Int32).toInt = 22)
  have z6 := (by decide : (26 : Int32).toInt = 26)
  have z7 := (by decide : (31 : Int32).toInt = 31)
  have z8 := inc_I x4_10
  clear h23_2 hit
  try simp only [sA_1, sL_1, sI_1, vp_in_iff, Int32.le_iff_toInt_le, Int32.lt_iff_toInt_lt, ← Int32.toInt_inj, reduceIte, Nat.reduceEqDiff] at *
  all_goals omega
theorem ob_X10_held_10_inv0_17 (st : St) (a1 : Int32) (a2 : Int32) (hit : okIt st) : 0 ≤ (0 : Int32).toInt := by
  have z1 := (by decide : (0 : Int32).toInt = 0)
  clear hit
  try simp only [sA_1, sL_1, sI_1, vp_in_iff, Int32.le_iff_toInt_le, Int32.lt_iff_toInt_lt, ← Int32.toInt_inj, reduceIte, Nat.reduceEqDiff] at *
  all_goals omega
theorem ob_X10_held_10_inv1_18 (st : St) (a1 : Int32) (a2 : Int32) (hit : okIt st) : (0 : Int32).toInt ≤ (st.1 7).toInt := by
  have z1 := okIt_7 hit
  have z2 := (by decide : (0 : Int32).toInt = 0)
  have z3 := (by decide : (7 : Int32).toInt = 7)
  clear hit
  try simp only [sA_1, sL_1, sI_1, vp_in_iff, Int32.le_iff_toInt_le, Int32.lt_iff_toInt_lt, ← Int32.toInt_inj, reduceIte, Nat.reduceEqDiff] at *
  all_goals omega
theorem ob_X10_held_10_inv2_19 (st : St) (a1 : Int32) (a2 : Int32) (hit : okIt st) : (st.1 7).toInt < (0 : Int32).toInt + ((st.1 7).toInt.toNat + 1) := by
  have z1 := okIt_7 hit
  have z2 := (by decide : (0 : Int32).toInt = 0)
  have z3 := (by decide : (1 : Int32).toInt = 1)
  have z4 := (by decide : (7 : Int32).toInt = 7)
  clear hit
  try simp only [sA_1, sL_1, sI_1, vp_in_iff, Int32.le_iff_toInt_le, Int32.lt_iff_toInt_lt, ← Int32.toInt_inj, reduceIte, Nat.reduceEqDiff] at *
  all_goals omega
theorem ob_X10_logged_57_3 (st : St) (a1 : Int32) (a2 : Int32) (hok : okM st) (h16_1 : ¬ (sp_X10_in a1 0 ((st.1 8) - 1)) = 0) (h22_2 : a2 = 0) : vp_in a1 200 := by
  have z1 := okM_8 hok
  have z2 := f_X10_in a1 0 ((st.1 8) - 1)
  have z3 := sub_I (st.1 8)
  have z4 := (by decide : (0 : Int32).toInt = 0)
  have z5 := (by decide : (1 : Int32).toInt = 1)
  have z6 := (by decide : (8 : Int32).toInt = 8)
  have z7 := (by decide : (200 : Int32).toInt = 200)
  clear h22_2 hok
  try simp only [sA_1, sL_1, sI_1, vp_in_iff, Int32.le_iff_toInt_le, Int32.lt_iff_toInt_lt, ← Int32.toInt_inj, reduceIte, Nat.reduceEqDiff] at *
  all_goals omega
theorem ob_X10_logged_64_5 (st : St) (a1 : Int32) (a2 : Int32) (hok : okM st) (h16_1 : ¬ (sp_X10_in a1 0 ((st.1 8) - 1)) = 0) (h22_2 : ¬ a2 = 0) (h22_4 : a2 = 1) : vp_in a1 200 := by
  have z1 := okM_8 hok
  have z2 := f_X10_in a1 0 ((st.1 8) - 1)
  have z3 := sub_I (st.1 8)
  have z4 := (by decide : (0 : Int32).toInt = 0)
  have z5 := (by decide : (1 : Int32).toInt = 1)
  have z6 := (by decide : (8 : Int32).toInt = 8)
  have z7 := (by decide : (200 : Int32).toInt = 200)
  clear h22_2 h22_4 hok
  try simp only [sA_1, sL_1, sI_1, vp_in_iff, Int32.le_iff_toInt_le, Int32.lt_iff_toInt_lt, ← Int32.toInt_inj, reduceIte, Nat.reduceEqDiff] at *
  all_goals omega
theorem ob_X10_logged_71_7 (st : St) (a1 : Int32) (a2 : Int32) (hok : okM st) (h16_1 : ¬ (sp_X10_in a1 0 ((st.1 8) - 1)) = 0) (h22_2 : ¬ a2 = 0) (h22_4 : ¬ a2 = 1) (h22_6 : a2 = 2) : vp_in a1 200 := by
  have z1 := okM_8 hok
  have z2 := f_X10_in a1 0 ((st.1 8) - 1)
  have z3 := sub_I (st.1 8)
  have z4 := (by decide : (0 : Int32).toInt = 0)
  have z5 := (by decide : (1 : Int32).toInt = 1)
  have z6 := (by decide : (8 : Int32).toInt = 8)
  have z7 := (by decide : (200 : Int32).toInt = 200)
  clear h22_2 h22_4 h22_6 hok
  try simp only [sA_1, sL_1, sI_1, vp_in_iff, Int32.le_iff_toInt_le, Int32.lt_iff_toInt_lt, ← Int32.toInt_inj, reduceIte, Nat.reduceEqDiff] at *
  all_goals omega
theorem ob_X10_logged_78_9 (st : St) (a1 : Int32) (a2 : Int32) (hok : okM st) (h16_1 : ¬ (sp_X10_in a1 0 ((st.1 8) - 1)) = 0) (h22_2 : ¬ a2 = 0) (h22_4 : ¬ a2 = 1) (h22_6 : ¬ a2 = 2) (h22_8 : a2 = 3) : vp_in a1 200 := by
  have z1 := okM_8 hok
  have z2 := f_X10_in a1 0 ((st.1 8) - 1)
  have z3 := sub_I (st.1 8)
  have z4 := (by decide : (0 : Int32).toInt = 0)
  have z5 := (by decide : (1 : Int32).toInt = 1)
  have z6 := (by decide : (8 : Int32).toInt = 8)
  have z7 := (by decide : (200 : Int32).toInt = 200)
  clear h22_2 h22_4 h22_6 h22_8 hok
  try simp only [sA_1, sL_1, sI_1, vp_in_iff, Int32.le_iff_toInt_le, Int32.lt_iff_toInt_lt, ← Int32.toInt_inj, reduceIte, Nat.reduceEqDiff] at *
  all_goals omega
theorem ob_X10_derivedFrom_4_zero (st : St) (a1 : Int32) (x3_4 : Int32) (x2_4 : Int32) (hit : okIt st) (hi0_4 : 0 ≤ x3_4.toInt) (hi1_4 : x3_4.toInt ≤ (st.1 7).toInt) (hi2_4 : (st.1 7).toInt < x3_4.toInt + 0) : False := by
  have z1 := okIt_7 hit
  have z2 := (by decide : (0 : Int32).toInt = 0)
  have z3 := (by decide : (7 : Int32).toInt = 7)
  clear hit
  try simp only [sA_1, sL_1, sI_1, vp_in_iff, Int32.le_iff_toInt_le, Int32.lt_iff_toInt_lt, ← Int32.toInt_inj, reduceIte, Nat.reduceEqDiff] at *
  all_goals omega
theorem ob_X10_derivedFrom_18_2 (st : St) (a1 : Int32) (n_4 : Nat) (x3_4 : Int32) (x2_4 : Int32) (hit : okIt st) (hi0_4 : 0 ≤ x3_4.toInt) (hi1_4 : x3_4.toInt ≤ (st.1 7).toInt) (hi2_4 : (st.1 7).toInt < x3_4.toInt + (n_4 + 1)) (h9_1 : ¬ st.1 7 ≤ x3_4) : vp_in x3_4 100 := by
  have z1 := okIt_7 hit
  have z2 := (by decide : (0 : Int32).toInt = 0)
  have z3 := (by decide : (1 : Int32).toInt = 1)
  have z4 := (by decide : (7 : Int32).toInt = 7)
  have z5 := (by decide : (100 : Int32).toInt = 100)
  clear hit
  try simp only [sA_1, sL_1, sI_1, vp_in_iff, Int32.le_iff_toInt_le, Int32.lt_iff_toInt_lt, ← Int32.toInt_inj, reduceIte, Nat.reduceEqDiff] at *
  all_goals omega
theorem ob_X10_derivedFrom_4_inv0_4 (st : St) (a1 : Int32) (n_4 : Nat) (x3_4 : Int32) (x2_4 : Int32) (hit : okIt st) (hi0_4 : 0 ≤ x3_4.toInt) (hi1_4 : x3_4.toInt ≤ (st.1 7).toInt) (hi2_4 : (st.1 7).toInt < x3_4.toInt + (n_4 + 1)) (h9_1 : ¬ st.1 7 ≤ x3_4) (h19_3 : st.2.1 26 x3_4.toNatClampNeg = 0) : 0 ≤ (x3_4 + 1).toInt := by
  have z1 := okIt_7 hit
  have z2 := (by decide : (0 : Int32).toInt = 0)
  have z3 := (by decide : (1 : Int32).toInt = 1)
  have z4 := (by decide : (7 : Int32).toInt = 7)
  have z5 := (by decide : (26 : Int32).toInt = 26)
  have z6 := inc_I x3_4
  clear hit
  try simp only [sA_1, sL_1, sI_1, vp_in_iff, Int32.le_iff_toInt_le, Int32.lt_iff_toInt_lt, ← Int32.toInt_inj, reduceIte, Nat.reduceEqDiff] at *
  all_goals omega
theorem ob_X10_derivedFrom_4_inv1_5 (st : St) (a1 : Int32) (n_4 : Nat) (x3_4 : Int32) (x2_4 : Int32) (hit : okIt st) (hi0_4 : 0 ≤ x3_4.toInt) (hi1_4 : x3_4.toInt ≤ (st.1 7).toInt) (hi2_4 : (st.1 7).toInt < x3_4.toInt + (n_4 + 1)) (h9_1 : ¬ st.1 7 ≤ x3_4) (h19_3 : st.2.1 26 x3_4.toNatClampNeg = 0) : (x3_4 + 1).toInt ≤ (st.1 7).toInt := by
  have z1 := okIt_7 hit
  have z2 := (by decide : (0 : Int32).toInt = 0)
  have z3 := (by decide : (1 : Int32).toInt = 1)
  have z4 := (by decide : (7 : Int32).toInt = 7)
  have z5 := (by decide : (26 : Int32).toInt = 26)
  have z6 := inc_I x3_4
  clear hit
  try simp only [sA_1, sL_1, sI_1, vp_in_iff, Int32.le_iff_toInt_le, Int32.lt_iff_toInt_lt, ← Int32.toInt_inj, reduceIte, Nat.reduceEqDiff] at *
  all_goals omega
theorem ob_X10_derivedFrom_4_inv2_6 (st : St) (a1 : Int32) (n_4 : Nat) (x3_4 : Int32) (x2_4 : Int32) (hit : okIt st) (hi0_4 : 0 ≤ x3_4.toInt) (hi1_4 : x3_4.toInt ≤ (st.1 7).toInt) (hi2_4 : (st.1 7).toInt < x3_4.toInt + (n_4 + 1)) (h9_1 : ¬ st.1 7 ≤ x3_4) (h19_3 : st.2.1 26 x3_4.toNatClampNeg = 0) : (st.1 7).toInt < (x3_4 + 1).toInt + n_4 := by
  have z1 := okIt_7 hit
  have z2 := (by decide : (0 : Int32).toInt = 0)
  have z3 := (by decide : (1 : Int32).toInt = 1)
  have z4 := (by decide : (7 : Int32).toInt = 7)
  have z5 := (by decide : (26 : Int32).toInt = 26)
  have z6 := inc_I x3_4
  clear hit
  try simp only [sA_1, sL_1, sI_1, vp_in_iff, Int32.le_iff_toInt_le, Int32.lt_iff_toInt_lt, ← Int32.toInt_inj, reduceIte, Nat.reduceEqDiff] at *
  all_goals omega
theorem ob_X10_derivedFrom_27_7 (st : St) (a1 : Int32) (n_4 : Nat) (x3_4 : Int32) (x2_4 : Int32) (hit : okIt st) (hi0_4 : 0 ≤ x3_4.toInt) (hi1_4 : x3_4.toInt ≤ (st.1 7).toInt) (hi2_4 : (st.1 7).toInt < x3_4.toInt + (n_4 + 1)) (h9_1 : ¬ st.1 7 ≤ x3_4) (h19_3 : ¬ st.2.1 26 x3_4.toNatClampNeg = 0) : vp_in x3_4 100 := by
  have z1 := okIt_7 hit
  have z2 := (by decide : (0 : Int32).toInt = 0)
  have z3 := (by decide : (1 : Int32).toInt = 1)
  have z4 := (by decide : (7 : Int32).toInt = 7)
  have z5 := (by decide : (26 : Int32).toInt = 26)
  have z6 := (by decide : (100 : Int32).toInt = 100)
  clear hit
  try simp only [sA_1, sL_1, sI_1, vp_in_iff, Int32.le_iff_toInt_le, Int32.lt_iff_toInt_lt, ← Int32.toInt_inj, reduceIte, Nat.reduceEqDiff] at *
  all_goals omega
theorem ob_X10_derivedFrom_4_inv0_9 (st : St) (a1 : Int32) (n_4 : Nat) (x3_4 : Int32) (x2_4 : Int32) (hit : okIt st) (hi0_4 : 0 ≤ x3_4.toInt) (hi1_4 : x3_4.toInt ≤ (st.1 7).toInt) (hi2_4 : (st.1 7).toInt < x3_4.toInt + (n_4 + 1)) (h9_1 : ¬ st.1 7 ≤ x3_4) (h19_3 : ¬ st.2.1 26 x3_4.toNatClampNeg = 0) (h29_8 : st.2.1 23 x3_4.toNatClampNeg = (-1)) : 0 ≤ (x3_4 + 1).toInt := by
  have z1 := okIt_7 hit
  have z2 := (by decide : (0 : Int32).toInt = 0)
  have z3 := (by decide : (1 : Int32).toInt = 1)
  have z4 := (by decide : (7 : Int32).toInt = 7)
  have z5 := (by decide : (23 : Int32).toInt = 23)
  have z6 := (by decide : (26 : Int32).toInt = 26)
  have z7 := (by decide : (-1 : Int32).toInt = -1)
  have z8 := inc_I x3_4
  clear hit
  try simp only [sA_1, sL_1, sI_1, vp_in_iff, Int32.le_iff_toInt_le, Int32.lt_iff_toInt_lt, ← Int32.toInt_inj, reduceIte, Nat.reduceEqDiff] at *
  all_goals omega
theorem ob_X10_derivedFrom_4_inv1_10 (st : St) (a1 : Int32) (n_4 : Nat) (x3_4 : Int32) (x2_4 : Int32) (hit : okIt st) (hi0_4 : 0 ≤ x3_4.toInt) (hi1_4 : x3_4.toInt ≤ (st.1 7).toInt) (hi2_4 : (st.1 7).toInt < x3_4.toInt + (n_4 + 1)) (h9_1 : ¬ st.1 7 ≤ x3_4) (h19_3 : ¬ st.2.1 26 x3_4.toNatClampNeg = 0) (h29_8 : st.2.1 23 x3_4.toNatClampNeg = (-1)) : (x3_4 + 1).toInt ≤ (st.1 7).toInt := by
  have z1 := okIt_7 hit
  have z2 := (by decide : (0 : Int32).toInt = 0)
  have z3 := (by decide : (1 : Int32).toInt = 1)
  have z4 := (by decide : (7 : Int32).toInt = 7)
  have z5 := (by decide : (23 : Int32).toInt = 23)
  have z6 := (by decide : (26 : Int32).toInt = 26)
  have z7 := (by decide : (-1 : Int32).toInt = -1)
  have z8 := inc_I x3_4
  clear hit
  try simp only [sA_1, sL_1, sI_1, vp_in_iff, Int32.le_iff_toInt_le, Int32.lt_iff_toInt_lt, ← Int32.toInt_inj, reduceIte, Nat.reduceEqDiff] at *
  all_goals omega
theorem ob_X10_derivedFrom_4_inv2_11 (st : St) (a1 : Int32) (n_4 : Nat) (x3_4 : Int32) (x2_4 : Int32) (hit : okIt st) (hi0_4 : 0 ≤ x3_4.toInt) (hi1_4 : x3_4.toInt ≤ (st.1 7).toInt) (hi2_4 : (st.1 7).toInt < x3_4.toInt + (n_4 + 1)) (h9_1 : ¬ st.1 7 ≤ x3_4) (h19_3 : ¬ st.2.1 26 x3_4.toNatClampNeg = 0) (h29_8 : st.2.1 23 x3_4.toNatClampNeg = (-1)) : (st.1 7).toInt < (x3_4 + 1).toInt + n_4 := by
  have z1 := okIt_7 hit
  have z2 := (by decide : (0 : Int32).toInt = 0)
  have z3 := (by decide : (1 : Int32).toInt = 1)
  have z4 := (by decide : (7 : Int32).toInt = 7)
  have z5 := (by decide : (23 : Int32).toInt = 23)
  have z6 := (by decide : (26 : Int32).toInt = 26)
  have z7 := (by decide : (-1 : Int32).toInt = -1)
  have z8 := inc_I x3_4
  clear hit
  try simp only [sA_1, sL_1, sI_1, vp_in_iff, Int32.le_iff_toInt_le, Int32.lt_iff_toInt_lt, ← Int32.toInt_inj, reduceIte, Nat.reduceEqDiff] at *
  all_goals omega
theorem ob_X10_derivedFrom_37_12 (st : St) (a1 : Int32) (n_4 : Nat) (x3_4 : Int32) (x2_4 : Int32) (hit : okIt st) (hi0_4 : 0 ≤ x3_4.toInt) (hi1_4 : x3_4.toInt ≤ (st.1 7).toInt) (hi2_4 : (st.1 7).toInt < x3_4.toInt + (n_4 + 1)) (h9_1 : ¬ st.1 7 ≤ x3_4) (h19_3 : ¬ st.2.1 26 x3_4.toNatClampNeg = 0) (h29_8 : ¬ st.2.1 23 x3_4.toNatClampNeg = (-1)) : vp_in x3_4 100 := by
  have z1 := okIt_7 hit
  have z2 := (by decide : (0 : Int32).toInt = 0)
  have z3 := (by decide : (1 : Int32).toInt = 1)
  have z4 := (by decide : (7 : Int32).toInt = 7)
  have z5 := (by decide : (23 : Int32).toInt = 23)
  have z6 := (by decide : (26 : Int32).toInt = 26)
  have z7 := (by decide : (100 : Int32).toInt = 100)
  have z8 := (by decide : (-1 : Int32).toInt = -1)
  clear hit
  try simp only [sA_1, sL_1, sI_1, vp_in_iff, Int32.le_iff_toInt_le, Int32.lt_iff_toInt_lt, ← Int32.toInt_inj, reduceIte, Nat.reduceEqDiff] at *
  all_goals omega
theorem ob_X10_derivedFrom_4_inv0_14 (st : St) (a1 : Int32) (n_4 : Nat) (x3_4 : Int32) (x2_4 : Int32) (hit : okIt st) (hi0_4 : 0 ≤ x3_4.toInt) (hi1_4 : x3_4.toInt ≤ (st.1 7).toInt) (hi2_4 : (st.1 7).toInt < x3_4.toInt + (n_4 + 1)) (h9_1 : ¬ st.1 7 ≤ x3_4) (h19_3 : ¬ st.2.1 26 x3_4.toNatClampNeg = 0) (h29_8 : ¬ st.2.1 23 x3_4.toNatClampNeg = (-1)) (h39_13 : st.2.1 24 x3_4.toNatClampNeg = a1) : 0 ≤ (x3_4 + 1).toInt := by
  have z1 := okIt_7 hit
  have z2 := (by decide : (0 : Int32).toInt = 0)
  have z3 := (by decide : (1 : Int32).toInt = 1)
  have z4 := (by decide : (7 : Int32).toInt = 7)
  have z5 := (by decide : (23 : Int32).toInt = 23)
  have z6 := (by decide : (24 : Int32).toInt = 24)
  have z7 := (by decide : (26 : Int32).toInt = 26)
  have z8 := (by decide : (-1 : Int32).toInt = -1)
  have z9 := inc_I x3_4
  clear hit
  try simp only [sA_1, sL_1, sI_1, vp_in_iff, Int32.le_iff_toInt_le, Int32.lt_iff_toInt_lt, ← Int32.toInt_inj, reduceIte, Nat.reduceEqDiff] at *
  all_goals omega
theorem ob_X10_derivedFrom_4_inv1_15 (st : St) (a1 : Int32) (n_4 : Nat) (x3_4 : Int32) (x2_4 : Int32) (hit : okIt st) (hi0_4 : 0 ≤ x3_4.toInt) (hi1_4 : x3_4.toInt ≤ (st.1 7).toInt) (hi2_4 : (st.1 7).toInt < x3_4.toInt + (n_4 + 1)) (h9_1 : ¬ st.1 7 ≤ x3_4) (h19_3 : ¬ st.2.1 26 x3_4.toNatClampNeg = 0) (h29_8 : ¬ st.2.1 23 x3_4.toNatClampNeg = (-1)) (h39_13 : st.2.1 24 x3_4.toNatClampNeg = a1) : (x3_4 + 1).toInt ≤ (st.1 7).toInt := by
  have z1 := okIt_7 hit
  have z2 := (by decide : (0 : Int32).toInt = 0)
  have z3 := (by decide : (1 : Int32).toInt = 1)
  have z4 := (by decide : (7 : Int32).toInt = 7)
  have z5 := (by decide : (23 : Int32).toInt = 23)
  have z6 := (by decide : (24 : Int32).toInt = 24)
  have z7 := (by decide : (26 : Int32).toInt = 26)
  have z8 := (by decide : (-1 : Int32).toInt = -1)
  have z9 := inc_I x3_4
  clear hit
  try simp only [sA_1, sL_1, sI_1, vp_in_iff, Int32.le_iff_toInt_le, Int32.lt_iff_toInt_lt, ← Int32.toInt_inj, reduceIte, Nat.reduceEqDiff] at *
  all_goals omega
theorem ob_X10_derivedFrom_4_inv2_16 (st : St) (a1 : Int32) (n_4 : Nat) (x3_4 : Int32) (x2_4 : Int32) (hit : okIt st) (hi0_4 : 0 ≤ x3_4.toInt) (hi1_4 : x3_4.toInt ≤ (st.1 7).toInt) (hi2_4 : (st.1 7).toInt < x3_4.toInt + (n_4 + 1)) (h9_1 : ¬ st.1 7 ≤ x3_4) (h19_3 : ¬ st.2.1 26 x3_4.toNatClampNeg = 0) (h29_8 : ¬ st.2.1 23 x3_4.toNatClampNeg = (-1)) (h39_13 : st.2.1 24 x3_4.toNatClampNeg = a1) : (st.1 7).toInt < (x3_4 + 1).toInt + n_4 := by
  have z1 := okIt_7 hit
  have z2 := (by decide : (0 : Int32).toInt = 0)
  have z3 := (by decide : (1 : Int32).toInt = 1)
  have z4 := (by decide : (7 : Int32).toInt = 7)
  have z5 := (by decide : (23 : Int32).toInt = 23)
  have z6 := (by decide : (24 : Int32).toInt = 24)
  have z7 := (by decide : (26 : Int32).toInt = 26)
  have z8 := (by decide : (-1 : Int32).toInt = -1)
  have z9 := inc_I x3_4
  clear hit
  try simp only [sA_1, sL_1, sI_1, vp_in_iff, Int32.le_iff_toInt_le, Int32.lt_iff_toInt_lt, ← Int32.toInt_inj, reduceIte, Nat.reduceEqDiff] at *
  all_goals omega
theorem ob_X10_derivedFrom_47_17 (st : St) (a1 : Int32) (n_4 : Nat) (x3_4 : Int32) (x2_4 : Int32) (hit : okIt st) (hi0_4 : 0 ≤ x3_4.toInt) (hi1_4 : x3_4.toInt ≤ (st.1 7).toInt) (hi2_4 : (st.1 7).toInt < x3_4.toInt + (n_4 + 1)) (h9_1 : ¬ st.1 7 ≤ x3_4) (h19_3 : ¬ st.2.1 26 x3_4.toNatClampNeg = 0) (h29_8 : ¬ st.2.1 23 x3_4.toNatClampNeg = (-1)) (h39_13 : ¬ st.2.1 24 x3_4.toNatClampNeg = a1) : vp_in x3_4 100 := by
  have z1 := okIt_7 hit
  have z2 := (by decide : (0 : Int32).toInt = 0)
  have z3 := (by decide : (1 : Int32).toInt = 1)
  have z4 := (by decide : (7 : Int32).toInt = 7)
  have z5 := (by decide : (23 : Int32).toInt = 23)
  have z6 := (by decide : (24 : Int32).toInt = 24)
  have z7 := (by decide : (26 : Int32).toInt = 26)
  have z8 := (by decide : (100 : Int32).toInt = 100)
  have z9 := (by decide : (-1 : Int32).toInt = -1)
  clear hit
  try simp only [sA_1, sL_1, sI_1, vp_in_iff, Int32.le_iff_toInt_le, Int32.lt_iff_toInt_lt, ← Int32.toInt_inj, reduceIte, Nat.reduceEqDiff] at *
  all_goals omega
theorem ob_X10_derivedFrom_4_inv0_19 (st : St) (a1 : Int32) (n_4 : Nat) (x3_4 : Int32) (x2_4 : Int32) (hit : okIt st) (hi0_4 : 0 ≤ x3_4.toInt) (hi1_4 : x3_4.toInt ≤ (st.1 7).toInt) (hi2_4 : (st.1 7).toInt < x3_4.toInt + (n_4 + 1)) (h9_1 : ¬ st.1 7 ≤ x3_4) (h19_3 : ¬ st.2.1 26 x3_4.toNatClampNeg = 0) (h29_8 : ¬ st.2.1 23 x3_4.toNatClampNeg = (-1)) (h39_13 : ¬ st.2.1 24 x3_4.toNatClampNeg = a1) (h49_18 : ¬ st.2.1 25 x3_4.toNatClampNeg = a1) : 0 ≤ (x3_4 + 1).toInt := by
  have z1 := okIt_7 hit
  have z2 := (by decide : (0 : Int32).toInt = 0)
  have z3 := (by decide : (1 : Int32).toInt = 1)
  have z4 := (by decide : (7 : Int32).toInt = 7)
  have z5 := (by decide : (23 : Int32).toInt = 23)
  have z6 := (by decide : (24 : Int32).toInt = 24)
  have z7 := (by decide : (25 : Int32).toInt = 25)
  have z8 := (by decide : (26 : Int32).toInt = 26)
  have z9 := (by decide : (-1 : Int32).toInt = -1)
  have z10 := inc_I x3_4
  clear hit
  try simp only [sA_1, sL_1, sI_1, vp_in_iff, Int32.le_iff_toInt_le, Int32.lt_iff_toInt_lt, ← Int32.toInt_inj, reduceIte, Nat.reduceEqDiff] at *
  all_goals omega
theorem ob_X10_derivedFrom_4_inv1_20 (st : St) (a1 : Int32) (n_4 : Nat) (x3_4 : Int32) (x2_4 : Int32) (hit : okIt st) (hi0_4 : 0 ≤ x3_4.toInt) (hi1_4 : x3_4.toInt ≤ (st.1 7).toInt) (hi2_4 : (st.1 7).toInt < x3_4.toInt + (n_4 + 1)) (h9_1 : ¬ st.1 7 ≤ x3_4) (h19_3 : ¬ st.2.1 26 x3_4.toNatClampNeg = 0) (h29_8 : ¬ st.2.1 23 x3_4.toNatClampNeg = (-1)) (h39_13 : ¬ st.2.1 24 x3_4.toNatClampNeg = a1) (h49_18 : ¬ st.2.1 25 x3_4.toNatClampNeg = a1) : (x3_4 + 1).toInt ≤ (st.1 7).toInt := by
  have z1 := okIt_7 hit
  have z2 := (by decide : (0 : Int32).toInt = 0)
  have z3 := (by decide : (1 : Int32).toInt = 1)
  have z4 := (by decide : (7 : Int32).toInt = 7)
  have z5 := (by decide : (23 : Int32).toInt = 23)
  have z6 := (by decide : (24 : Int32).toInt = 24)
  have z7 := (by decide : (25 : Int32).toInt = 25)
  have z8 := (by decide : (26 : Int32).toInt = 26)
  have z9 := (by decide : (-1 : Int32).toInt = -1)
  have z10 := inc_I x3_4
  clear hit
  try simp only [sA_1, sL_1, sI_1, vp_in_iff, Int32.le_iff_toInt_le, Int32.lt_iff_toInt_lt, ← Int32.toInt_inj, reduceIte, Nat.reduceEqDiff] at *
  all_goals omega
theorem ob_X10_derivedFrom_4_inv2_21 (st : St) (a1 : Int32) (n_4 : Nat) (x3_4 : Int32) (x2_4 : Int32) (hit : okIt st) (hi0_4 : 0 ≤ x3_4.toInt) (hi1_4 : x3_4.toInt ≤ (st.1 7).toInt) (hi2_4 : (st.1 7).toInt < x3_4.toInt + (n_4 + 1)) (h9_1 : ¬ st.1 7 ≤ x3_4) (h19_3 : ¬ st.2.1 26 x3_4.toNatClampNeg = 0) (h29_8 : ¬ st.2.1 23 x3_4.toNatClampNeg = (-1)) (h39_13 : ¬ st.2.1 24 x3_4.toNatClampNeg = a1) (h49_18 : ¬ st.2.1 25 x3_4.toNatClampNeg = a1) : (st.1 7).toInt < (x3_4 + 1).toInt + n_4 := by
  have z1 := okIt_7 hit
  have z2 := (by decide : (0 : Int32).toInt = 0)
  have z3 := (by decide : (1 : Int32).toInt = 1)
  have z4 := (by decide : (7 : Int32).toInt = 7)
  have z5 := (by decide : (23 : Int32).toInt = 23)
  have z6 := (by decide : (24 : Int32).toInt = 24)
  have z7 := (by decide : (25 : Int32).toInt = 25)
  have z8 := (by decide : (26 : Int32).toInt = 26)
  have z9 := (by decide : (-1 : Int32).toInt = -1)
  have z10 := inc_I x3_4
  clear hit
  try simp only [sA_1, sL_1, sI_1, vp_in_iff, Int32.le_iff_toInt_le, Int32.lt_iff_toInt_lt, ← Int32.toInt_inj, reduceIte, Nat.reduceEqDiff] at *
  all_goals omega
theorem ob_X10_derivedFrom_4_inv0_22 (st : St) (a1 : Int32) (n_4 : Nat) (x3_4 : Int32) (x2_4 : Int32) (hit : okIt st) (hi0_4 : 0 ≤ x3_4.toInt) (hi1_4 : x3_4.toInt ≤ (st.1 7).toInt) (hi2_4 : (st.1 7).toInt < x3_4.toInt + (n_4 + 1)) (h9_1 : ¬ st.1 7 ≤ x3_4) (h19_3 : ¬ st.2.1 26 x3_4.toNatClampNeg = 0) (h29_8 : ¬ st.2.1 23 x3_4.toNatClampNeg = (-1)) (h39_13 : ¬ st.2.1 24 x3_4.toNatClampNeg = a1) (h49_18 : st.2.1 25 x3_4.toNatClampNeg = a1) : 0 ≤ (x3_4 + 1).toInt := by
  have z1 := okIt_7 hit
  have z2 := (by decide : (0 : Int32).toInt = 0)
  have z3 := (by decide : (1 : Int32).toInt = 1)
  have z4 := (by decide : (7 : Int32).toInt = 7)
  have z5 := (by decide : (23 : Int32).toInt = 23)
  have z6 := (by decide : (24 : Int32).toInt = 24)
  have z7 := (by decide : (25 : Int32).toInt = 25)
  have z8 := (by decide : (26 : Int32).toInt = 26)
  have z9 := (by decide : (-1 : Int32).toInt = -1)
  have z10 := inc_I x3_4
  clear hit
  try simp only [sA_1, sL_1, sI_1, vp_in_iff, Int32.le_iff_toInt_le, Int32.lt_iff_toInt_lt, ← Int32.toInt_inj, reduceIte, Nat.reduceEqDiff] at *
  all_goals omega
theorem ob_X10_derivedFrom_4_inv1_23 (st : St) (a1 : Int32) (n_4 : Nat) (x3_4 : Int32) (x2_4 : Int32) (hit : okIt st) (hi0_4 : 0 ≤ x3_4.toInt) (hi1_4 : x3_4.toInt ≤ (st.1 7).toInt) (hi2_4 : (st.1 7).toInt < x3_4.toInt + (n_4 + 1)) (h9_1 : ¬ st.1 7 ≤ x3_4) (h19_3 : ¬ st.2.1 26 x3_4.toNatClampNeg = 0) (h29_8 : ¬ st.2.1 23 x3_4.toNatClampNeg = (-1)) (h39_13 : ¬ st.2.1 24 x3_4.toNatClampNeg = a1) (h49_18 : st.2.1 25 x3_4.toNatClampNeg = a1) : (x3_4 + 1).toInt ≤ (st.1 7).toInt := by
  have z1 := okIt_7 hit
  have z2 := (by decide : (0 : Int32).toInt = 0)
  have z3 := (by decide : (1 : Int32).toInt = 1)
  have z4 := (by decide : (7 : Int32).toInt = 7)
  have z5 := (by decide : (23 : Int32).toInt = 23)
  have z6 := (by decide : (24 : Int32).toInt = 24)
  have z7 := (by decide : (25 : Int32).toInt = 25)
  have z8 := (by decide : (26 : Int32).toInt = 26)
  have z9 := (by decide : (-1 : Int32).toInt = -1)
  have z10 := inc_I x3_4
  clear hit
  try simp only [sA_1, sL_1, sI_1, vp_in_iff, Int32.le_iff_toInt_le, Int32.lt_iff_toInt_lt, ← Int32.toInt_inj, reduceIte, Nat.reduceEqDiff] at *
  all_goals omega
theorem ob_X10_derivedFrom_4_inv2_24 (st : St) (a1 : Int32) (n_4 : Nat) (x3_4 : Int32) (x2_4 : Int32) (hit : okIt st) (hi0_4 : 0 ≤ x3_4.toInt) (hi1_4 : x3_4.toInt ≤ (st.1 7).toInt) (hi2_4 : (st.1 7).toInt < x3_4.toInt + (n_4 + 1)) (h9_1 : ¬ st.1 7 ≤ x3_4) (h19_3 : ¬ st.2.1 26 x3_4.toNatClampNeg = 0) (h29_8 : ¬ st.2.1 23 x3_4.toNatClampNeg = (-1)) (h39_13 : ¬ st.2.1 24 x3_4.toNatClampNeg = a1) (h49_18 : st.2.1 25 x3_4.toNatClampNeg = a1) : (st.1 7).toInt < (x3_4 + 1).toInt + n_4 := by
  have z1 := okIt_7 hit
  have z2 := (by decide : (0 : Int32).toInt = 0)
  have z3 := (by decide : (1 : Int32).toInt = 1)
  have z4 := (by decide : (7 : Int32).toInt = 7)
  have z5 := (by decide : (23 : Int32).toInt = 23)
  have z6 := (by decide : (24 : Int32).toInt = 24)
  have z7 := (by decide : (25 : Int32).toInt = 25)
  have z8 := (by decide : (26 : Int32).toInt = 26)
  have z9 := (by decide : (-1 : Int32).toInt = -1)
  have z10 := inc_I x3_4
  clear hit
  try simp only [sA_1, sL_1, sI_1, vp_in_iff, Int32.le_iff_toInt_le, Int32.lt_iff_toInt_lt, ← Int32.toInt_inj, reduceIte, Nat.reduceEqDiff] at *
  all_goals omega
theorem ob_X10_derivedFrom_4_inv0_25 (st : St) (a1 : Int32) (hit : okIt st) : 0 ≤ (0 : Int32).toInt := by
  have z1 := (by decide : (0 : Int32).toInt = 0)
  clear hit
  try simp only [sA_1, sL_1, sI_1, vp_in_iff, Int32.le_iff_toInt_le, Int32.lt_iff_toInt_lt, ← Int32.toInt_inj, reduceIte, Nat.reduceEqDiff] at *
  all_goals omega
theorem ob_X10_derivedFrom_4_inv1_26 (st : St) (a1 : Int32) (hit : okIt st) : (0 : Int32).toInt ≤ (st.1 7).toInt := by
  have z1 := okIt_7 hit
  have z2 := (by decide : (0 : Int32).toInt = 0)
  have z3 := (by decide : (7 : Int32).toInt = 7)
  clear hit
  try simp only [sA_1, sL_1, sI_1, vp_in_iff, Int32.le_iff_toInt_le, Int32.lt_iff_toInt_lt, ← Int32.toInt_inj, reduceIte, Nat.reduceEqDiff] at *
  all_goals omega
theorem ob_X10_derivedFrom_4_inv2_27 (st : St) (a1 : Int32) (hit : okIt st) : (st.1 7).toInt < (0 : Int32).toInt + ((st.1 7).toInt.toNat + 1) := by
  have z1 := okIt_7 hit
  have z2 := (by decide : (0 : Int32).toInt = 0)
  have z3 := (by decide : (1 : Int32).toInt = 1)
  have z4 := (by decide : (7 : Int32).toInt = 7)
  clear hit
  try simp only [sA_1, sL_1, sI_1, vp_in_iff, Int32.le_iff_toInt_le, Int32.lt_iff_toInt_lt, ← Int32.toInt_inj, reduceIte, Nat.reduceEqDiff] at *
  all_goals omega
theorem ob_X10_look_7_1 (st : St) (a1 : Int32) (a2 : Int32) (hok : okM st) : okIt (sI st 10 0) := by
  exact hok.2.1
theorem ob_X10_look_57_4 (st : St) (a1 : Int32) (a2 : Int32) (hok : okM st) (h10_2 : ¬ (sp_X10_isLiving (sI st 10 0) a1) = 0) (h16_3 : a2 = 0) : vp_in a1 100 := by
  have z1 := okM_7 hok
  have z2 := f_X10_isLiving (sI st 10 0) a1 hok.2.1
  have z3 := (by decide : (0 : Int32).toInt = 0)
  have z4 := (by decide : (10 : Int32).toInt = 10)
  have z5 := (by decide : (100 : Int32).toInt = 100)
  clear h16_3 hok
  try simp only [sA_1, sL_1, sI_1, vp_in_iff, Int32.le_iff_toInt_le, Int32.lt_iff_toInt_lt, ← Int32.toInt_inj, reduceIte, Nat.reduceEqDiff] at *
  all_goals omega
theorem ob_X10_look_64_6 (st : St) (a1 : Int32) (a2 : Int32) (hok : okM st) (h10_2 : ¬ (sp_X10_isLiving (sI st 10 0) a1) = 0) (h16_3 : ¬ a2 = 0) (h16_5 : a2 = 1) : vp_in a1 100 := by
  have z1 := okM_7 hok
  have z2 := f_X10_isLiving (sI st 10 0) a1 hok.2.1
  have z3 := (by decide : (0 : Int32).toInt = 0)
  have z4 := (by decide : (10 : Int32).toInt = 10)
  have z5 := (by decide : (100 : Int32).toInt = 100)
  clear h16_3 h16_5 hok
  try simp only [sA_1, sL_1, sI_1, vp_in_iff, Int32.le_iff_toInt_le, Int32.lt_iff_toInt_lt, ← Int32.toInt_inj, reduceIte, Nat.reduceEqDiff] at *
  all_goals omega
theorem ob_X10_look_71_8 (st : St) (a1 : Int32) (a2 : Int32) (hok : okM st) (h10_2 : ¬ (sp_X10_isLiving (sI st 10 0) a1) = 0) (h16_3 : ¬ a2 = 0) (h16_5 : ¬ a2 = 1) (h16_7 : a2 = 2) : vp_in a1 100 := by
  have z1 := okM_7 hok
  have z2 := f_X10_isLiving (sI st 10 0) a1 hok.2.1
  have z3 := (by decide : (0 : Int32).toInt = 0)
  have z4 := (by decide : (10 : Int32).toInt = 10)
  have z5 := (by decide : (100 : Int32).toInt = 100)
  clear h16_3 h16_5 h16_7 hok
  try simp only [sA_1, sL_1, sI_1, vp_in_iff, Int32.le_iff_toInt_le, Int32.lt_iff_toInt_lt, ← Int32.toInt_inj, reduceIte, Nat.reduceEqDiff] at *
  all_goals omega
theorem ob_X10_look_75_10 (st : St) (a1 : Int32) (a2 : Int32) (hok : okM st) (h10_2 : ¬ (sp_X10_isLiving (sI st 10 0) a1) = 0) (h16_3 : ¬ a2 = 0) (h16_5 : ¬ a2 = 1) (h16_7 : ¬ a2 = 2) (h16_9 : a2 = 3) : okM (sI st 10 0) := by
  exact hok
theorem ob_X10_look_75_11 (st : St) (a1 : Int32) (a2 : Int32) (hok : okM st) (h10_2 : ¬ (sp_X10_isLiving (sI st 10 0) a1) = 0) (h16_3 : ¬ a2 = 0) (h16_5 : ¬ a2 = 1) (h16_7 : ¬ a2 = 2) (h16_9 : a2 = 3) : vp_in a1 100 := by
  have z1 := okM_7 hok
  have z2 := f_X10_isLiving (sI st 10 0) a1 hok.2.1
  have z3 := (by decide : (0 : Int32).toInt = 0)
  have z4 := (by decide : (10 : Int32).toInt = 10)
  have z5 := (by decide : (100 : Int32).toInt = 100)
  clear h16_3 h16_5 h16_7 h16_9 hok
  try simp only [sA_1, sL_1, sI_1, vp_in_iff, Int32.le_iff_toInt_le, Int32.lt_iff_toInt_lt, ← Int32.toInt_inj, reduceIte, Nat.reduceEqDiff] at *
  all_goals omega
theorem ob_X10_look_81_13 (st : St) (a1 : Int32) (a2 : Int32) (hok : okM st) (h10_2 : ¬ (sp_X10_isLiving (sI st 10 0) a1) = 0) (h16_3 : ¬ a2 = 0) (h16_5 : ¬ a2 = 1) (h16_7 : ¬ a2 = 2) (h16_9 : ¬ a2 = 3) (h16_12 : a2 = 4) : okIt (sI st 10 0) := by
  exact hok.2.1
theorem ob_X10_state_9_zero (st : St) (a1 : Int32) (x3_9 : Int32) (x2_9 : Int32) (hit : okIt st) (hi0_9 : 0 ≤ x3_9.toInt) (hi1_9 : x3_9.toInt ≤ (st.1 7).toInt) (hi2_9 : (st.1 7).toInt < x3_9.toInt + 0) : False := by
  have z1 := okIt_7 hit
  have z2 := (by decide : (0 : Int32).toInt = 0)
  have z3 := (by decide : (7 : Int32).toInt = 7)
  clear hit
  try simp only [sA_1, sL_1, sI_1, vp_in_iff, Int32.le_iff_toInt_le, Int32.lt_iff_toInt_lt, ← Int32.toInt_inj, reduceIte, Nat.reduceEqDiff] at *
  all_goals omega
theorem ob_X10_state_23_8 (st : St) (a1 : Int32) (n_9 : Nat) (x3_9 : Int32) (x2_9 : Int32) (hit : okIt st) (hi0_9 : 0 ≤ x3_9.toInt) (hi1_9 : x3_9.toInt ≤ (st.1 7).toInt) (hi2_9 : (st.1 7).toInt < x3_9.toInt + (n_9 + 1)) (h14_1 : ¬ st.1 7 ≤ x3_9) : vp_in x3_9 100 := by
  have z1 := okIt_7 hit
  have z2 := (by decide : (0 : Int32).toInt = 0)
  have z3 := (by decide : (1 : Int32).toInt = 1)
  have z4 := (by decide : (7 : Int32).toInt = 7)
  have z5 := (by decide : (100 : Int32).toInt = 100)
  clear hit
  try simp only [sA_1, sL_1, sI_1, vp_in_iff, Int32.le_iff_toInt_le, Int32.lt_iff_toInt_lt, ← Int32.toInt_inj, reduceIte, Nat.reduceEqDiff] at *
  all_goals omega
theorem ob_X10_state_9_inv0_10 (st : St) (a1 : Int32) (n_9 : Nat) (x3_9 : Int32) (x2_9 : Int32) (hit : okIt st) (hi0_9 : 0 ≤ x3_9.toInt) (hi1_9 : x3_9.toInt ≤ (st.1 7).toInt) (hi2_9 : (st.1 7).toInt < x3_9.toInt + (n_9 + 1)) (h14_1 : ¬ st.1 7 ≤ x3_9) (h24_9 : st.2.1 26 x3_9.toNatClampNeg = 0) : 0 ≤ (x3_9 + 1).toInt := by
  have z1 := okIt_7 hit
  have z2 := (by decide : (0 : Int32).toInt = 0)
  have z3 := (by decide : (1 : Int32).toInt = 1)
  have z4 := (by decide : (7 : Int32).toInt = 7)
  have z5 := (by decide : (26 : Int32).toInt = 26)
  have z6 := inc_I x3_9
  clear hit
  try simp only [sA_1, sL_1, sI_1, vp_in_iff, Int32.le_iff_toInt_le, Int32.lt_iff_toInt_lt, ← Int32.toInt_inj, reduceIte, Nat.reduceEqDiff] at *
  all_goals omega
theorem ob_X10_state_9_inv1_11 (st : St) (a1 : Int32) (n_9 : Nat) (x3_9 : Int32) (x2_9 : Int32) (hit : okIt st) (hi0_9 : 0 ≤ x3_9.toInt) (hi1_9 : x3_9.toInt ≤ (st.1 7).toInt) (hi2_9 : (st.1 7).toInt < x3_9.toInt + (n_9 + 1)) (h14_1 : ¬ st.1 7 ≤ x3_9) (h24_9 : st.2.1 26 x3_9.toNatClampNeg = 0) : (x3_9 + 1).toInt ≤ (st.1 7).toInt := by
  have z1 := okIt_7 hit
  have z2 := (by decide : (0 : Int32).toInt = 0)
  have z3 := (by decide : (1 : Int32).toInt = 1)
  have z4 := (by decide : (7 : Int32).toInt = 7)
  have z5 := (by decide : (26 : Int32).toInt = 26)
  have z6 := inc_I x3_9
  clear hit
  try simp only [sA_1, sL_1, sI_1, vp_in_iff, Int32.le_iff_toInt_le, Int32.lt_iff_toInt_lt, ← Int32.toInt_inj, reduceIte, Nat.reduceEqDiff] at *
  all_goals omega
theorem ob_X10_state_9_inv2_12 (st : St) (a1 : Int32) (n_9 : Nat) (x3_9 : Int32) (x2_9 : Int32) (hit : okIt st) (hi0_9 : 0 ≤ x3_9.toInt) (hi1_9 : x3_9.toInt ≤ (st.1 7).toInt) (hi2_9 : (st.1 7).toInt < x3_9.toInt + (n_9 + 1)) (h14_1 : ¬ st.1 7 ≤ x3_9) (h24_9 : st.2.1 26 x3_9.toNatClampNeg = 0) : (st.1 7).toInt < (x3_9 + 1).toInt + n_9 := by
  have z1 := okIt_7 hit
  have z2 := (by decide : (0 : Int32).toInt = 0)
  have z3 := (by decide : (1 : Int32).toInt = 1)
  have z4 := (by decide : (7 : Int32).toInt = 7)
  have z5 := (by decide : (26 : Int32).toInt = 26)
  have z6 := inc_I x3_9
  clear hit
  try simp only [sA_1, sL_1, sI_1, vp_in_iff, Int32.le_iff_toInt_le, Int32.lt_iff_toInt_lt, ← Int32.toInt_inj, reduceIte, Nat.reduceEqDiff] at *
  all_goals omega
theorem ob_X10_state_9_inv0_13 (st : St) (a1 : Int32) (n_9 : Nat) (x3_9 : Int32) (x2_9 : Int32) (hit : okIt st) (hi0_9 : 0 ≤ x3_9.toInt) (hi1_9 : x3_9.toInt ≤ (st.1 7).toInt) (hi2_9 : (st.1 7).toInt < x3_9.toInt + (n_9 + 1)) (h14_1 : ¬ st.1 7 ≤ x3_9) (h24_9 : ¬ st.2.1 26 x3_9.toNatClampNeg = 0) : 0 ≤ (x3_9 + 1).toInt := by
  have z1 := okIt_7 hit
  have z2 := (by decide : (0 : Int32).toInt = 0)
  have z3 := (by decide : (1 : Int32).toInt = 1)
  have z4 := (by decide : (7 : Int32).toInt = 7)
  have z5 := (by decide : (26 : Int32).toInt = 26)
  have z6 := inc_I x3_9
  clear hit
  try simp only [sA_1, sL_1, sI_1, vp_in_iff, Int32.le_iff_toInt_le, Int32.lt_iff_toInt_lt, ← Int32.toInt_inj, reduceIte, Nat.reduceEqDiff] at *
  all_goals omega
theorem ob_X10_state_9_inv1_14 (st : St) (a1 : Int32) (n_9 : Nat) (x3_9 : Int32) (x2_9 : Int32) (hit : okIt st) (hi0_9 : 0 ≤ x3_9.toInt) (hi1_9 : x3_9.toInt ≤ (st.1 7).toInt) (hi2_9 : (st.1 7).toInt < x3_9.toInt + (n_9 + 1)) (h14_1 : ¬ st.1 7 ≤ x3_9) (h24_9 : ¬ st.2.1 26 x3_9.toNatClampNeg = 0) : (x3_9 + 1).toInt ≤ (st.1 7).toInt := by
  have z1 := okIt_7 hit
  have z2 := (by decide : (0 : Int32).toInt = 0)
  have z3 := (by decide : (1 : Int32).toInt = 1)
  have z4 := (by decide : (7 : Int32).toInt = 7)
  have z5 := (by decide : (26 : Int32).toInt = 26)
  have z6 := inc_I x3_9
  clear hit
  try simp only [sA_1, sL_1, sI_1, vp_in_iff, Int32.le_iff_toInt_le, Int32.lt_iff_toInt_lt, ← Int32.toInt_inj, reduceIte, Nat.reduceEqDiff] at *
  all_goals omega
theorem ob_X10_state_9_inv2_15 (st : St) (a1 : Int32) (n_9 : Nat) (x3_9 : Int32) (x2_9 : Int32) (hit : okIt st) (hi0_9 : 0 ≤ x3_9.toInt) (hi1_9 : x3_9.toInt ≤ (st.1 7).toInt) (hi2_9 : (st.1 7).toInt < x3_9.toInt + (n_9 + 1)) (h14_1 : ¬ st.1 7 ≤ x3_9) (h24_9 : ¬ st.2.1 26 x3_9.toNatClampNeg = 0) : (st.1 7).toInt < (x3_9 + 1).toInt + n_9 := by
  have z1 := okIt_7 hit
  have z2 := (by decide : (0 : Int32).toInt = 0)
  have z3 := (by decide : (1 : Int32).toInt = 1)
  have z4 := (by decide : (7 : Int32).toInt = 7)
  have z5 := (by decide : (26 : Int32).toInt = 26)
  have z6 := inc_I x3_9
  clear hit
  try simp only [sA_1, sL_1, sI_1, vp_in_iff, Int32.le_iff_toInt_le, Int32.lt_iff_toInt_lt, ← Int32.toInt_inj, reduceIte, Nat.reduceEqDiff] at *
  all_goals omega
theorem ob_X10_state_9_inv0_16 (st : St) (a1 : Int32) (hit : okIt st) : 0 ≤ (0 : Int32).toInt := by
  have z1 := (by decide : (0 : Int32).toInt = 0)
  clear hit
  try simp only [sA_1, sL_1, sI_1, vp_in_iff, Int32.le_iff_toInt_le, Int32.lt_iff_toInt_lt, ← Int32.toInt_inj, reduceIte, Nat.reduceEqDiff] at *
  all_goals omega
theorem ob_X10_state_9_inv1_17 (st : St) (a1 : Int32) (hit : okIt st) : (0 : Int32).toInt ≤ (st.1 7).toInt := by
  have z1 := okIt_7 hit
  have z2 := (by decide : (0 : Int32).toInt = 0)
  have z3 := (by decide : (7 : Int32).toInt = 7)
  clear hit
  try simp only [sA_1, sL_1, sI_1, vp_in_iff, Int32.le_iff_toInt_le, Int32.lt_iff_toInt_lt, ← Int32.toInt_inj, reduceIte, Nat.reduceEqDiff] at *
  all_goals omega
theorem ob_X10_state_9_inv2_18 (st : St) (a1 : Int32) (hit : okIt st) : (st.1 7).toInt < (0 : Int32).toInt + ((st.1 7).toInt.toNat + 1) := by
  have z1 := okIt_7 hit
  have z2 := (by decide : (0 : Int32).toInt = 0)
  have z3 := (by decide : (1 : Int32).toInt = 1)
  have z4 := (by decide : (7 : Int32).toInt = 7)
  clear hit
  try simp only [sA_1, sL_1, sI_1, vp_in_iff, Int32.le_iff_toInt_le, Int32.lt_iff_toInt_lt, ← Int32.toInt_inj, reduceIte, Nat.reduceEqDiff] at *
  all_goals omega

theorem ob_X1_add_20_2 (st : St) (a1 : Int32) (a2 : Int32) (a3 : Int32) (a4 : Int32) (hok : okC st) (h6_1 : st.1 3 < 40) : vp_in (st.1 3) 40 := by
  have z1 := okC_3 hok
  have z2 := (by decide : (3 : Int32).toInt = 3)
  have z3 := (by decide : (40 : Int32).toInt = 40)
  clear hok
  try simp only [sA_1, sL_1, sI_1, vp_in_iff, Int32.le_iff_toInt_le, Int32.lt_iff_toInt_lt, ← Int32.toInt_inj, reduceIte, Nat.reduceEqDiff] at *
  all_goals omega
theorem ob_X1_add_30_3 (st : St) (a1 : Int32) (a2 : Int32) (a3 : Int32) (a4 : Int32) (hok : okC st) (h6_1 : st.1 3 < 40) : vp_in (st.1 3) 40 := by
  have z1 := okC_3 hok
  have z2 := (by decide : (3 : Int32).toInt = 3)
  have z3 := (by decide : (40 : Int32).toInt = 40)
  clear hok
  try simp only [sA_1, sL_1, sI_1, vp_in_iff, Int32.le_iff_toInt_le, Int32.lt_iff_toInt_lt, ← Int32.toInt_inj, reduceIte, Nat.reduceEqDiff] at *
  all_goals omega
theorem ob_X1_add_40_4 (st : St) (a1 : Int32) (a2 : Int32) (a3 : Int32) (a4 : Int32) (hok : okC st) (h6_1 : st.1 3 < 40) : vp_in (st.1 3) 40 := by
  have z1 := okC_3 hok
  have z2 := (by decide : (3 : Int32).toInt = 3)
  have z3 := (by decide : (40 : Int32).toInt = 40)
  clear hok
  try simp only [sA_1, sL_1, sI_1, vp_in_iff, Int32.le_iff_toInt_le, Int32.lt_iff_toInt_lt, ← Int32.toInt_inj, reduceIte, Nat.reduceEqDiff] at *
  all_goals omega
theorem ob_X1_add_51_5 (st : St) (a1 : Int32) (a2 : Int32) (a3 : Int32) (a4 : Int32) (hok : okC st) (h6_1 : st.1 3 < 40) : vp_in (st.1 3) 40 := by
  have z1 := okC_3 hok
  have z2 := (by decide : (3 : Int32).toInt = 3)
  have z3 := (by decide : (40 : Int32).toInt = 40)
  clear hok
  try simp only [sA_1, sL_1, sI_1, vp_in_iff, Int32.le_iff_toInt_le, Int32.lt_iff_toInt_lt, ← Int32.toInt_inj, reduceIte, Nat.reduceEqDiff] at *
  all_goals omega
theorem ob_X1_allow_3_zero (st : St) (a1 : Int32) (a2 : Int32) (a3 : Int32) (x5_3 : Int32) (hok : okC st) (hi0_3 : 0 ≤ x5_3.toInt) (hi1_3 : x5_3.toInt ≤ (st.1 3).toInt) (hi2_3 : (st.1 3).toInt < x5_3.toInt + 0) : False := by
  have z1 := okC_3 hok
  have z2 := (by decide : (0 : Int32).toInt = 0)
  have z3 := (by decide : (3 : Int32).toInt = 3)
  clear hok
  try simp only [sA_1, sL_1, sI_1, vp_in_iff, Int32.le_iff_toInt_le, Int32.lt_iff_toInt_lt, ← Int32.toInt_inj, reduceIte, Nat.reduceEqDiff] at *
  all_goals omega
theorem ob_X1_allow_19_2 (st : St) (a1 : Int32) (a2 : Int32) (a3 : Int32) (n_3 : Nat) (x5_3 : Int32) (hok : okC st) (hi0_3 : 0 ≤ x5_3.toInt) (hi1_3 : x5_3.toInt ≤ (st.1 3).toInt) (hi2_3 : (st.1 3).toInt < x5_3.toInt + (n_3 + 1)) (h9_1 : ¬ st.1 3 ≤ x5_3) : vp_in x5_3 40 := by
  have z1 := okC_3 hok
  have z2 := (by decide : (0 : Int32).toInt = 0)
  have z3 := (by decide : (1 : Int32).toInt = 1)
  have z4 := (by decide : (3 : Int32).toInt = 3)
  have z5 := (by decide : (40 : Int32).toInt = 40)
  clear hok
  try simp only [sA_1, sL_1, sI_1, vp_in_iff, Int32.le_iff_toInt_le, Int32.lt_iff_toInt_lt, ← Int32.toInt_inj, reduceIte, Nat.reduceEqDiff] at *
  all_goals omega
theorem ob_X1_allow_3_inv0_4 (st : St) (a1 : Int32) (a2 : Int32) (a3 : Int32) (n_3 : Nat) (x5_3 : Int32) (hok : okC st) (hi0_3 : 0 ≤ x5_3.toInt) (hi1_3 : x5_3.toInt ≤ (st.1 3).toInt) (hi2_3 : (st.1 3).toInt < x5_3.toInt + (n_3 + 1)) (h9_1 : ¬ st.1 3 ≤ x5_3) (h23_3 : (sp_X9_isAmong a1 (st.2.1 6 x5_3.toNatClampNeg)) = 0) : 0 ≤ (x5_3 + 1).toInt := by
  have z1 := okC_3 hok
  have z2 := (by decide : (0 : Int32).toInt = 0)
  have z3 := (by decide : (1 : Int32).toInt = 1)
  have z4 := (by decide : (3 : Int32).toInt = 3)
  have z5 := inc_I x5_3
  clear h23_3 hok
  try simp only [sA_1, sL_1, sI_1, vp_in_iff, Int32.le_iff_toInt_le, Int32.lt_iff_toInt_lt, ← Int32.toInt_inj, reduceIte, Nat.reduceEqDiff] at *
  all_goals omega
theorem ob_X1_allow_3_inv1_5 (st : St) (a1 : Int32) (a2 : Int32) (a3 : Int32) (n_3 : Nat) (x5_3 : Int32) (hok : okC st) (hi0_3 : 0 ≤ x5_3.toInt) (hi1_3 : x5_3.toInt ≤ (st.1 3).toInt) (hi2_3 : (st.1 3).toInt < x5_3.toInt + (n_3 + 1)) (h9_1 : ¬ st.1 3 ≤ x5_3) (h23_3 : (sp_X9_isAmong a1 (st.2.1 6 x5_3.toNatClampNeg)) = 0) : (x5_3 + 1).toInt ≤ (st.1 3).toInt := by
  have z1 := okC_3 hok
  have z2 := (by decide : (0 : Int32).toInt = 0)
  have z3 := (by decide : (1 : Int32).toInt = 1)
  have z4 := (by decide : (3 : Int32).toInt = 3)
  have z5 := inc_I x5_3
  clear h23_3 hok
  try simp only [sA_1, sL_1, sI_1, vp_in_iff, Int32.le_iff_toInt_le, Int32.lt_iff_toInt_lt, ← Int32.toInt_inj, reduceIte, Nat.reduceEqDiff] at *
  all_goals omega
theorem ob_X1_allow_3_inv2_6 (st : St) (a1 : Int32) (a2 : Int32) (a3 : Int32) (n_3 : Nat) (x5_3 : Int32) (hok : okC st) (hi0_3 : 0 ≤ x5_3.toInt) (hi1_3 : x5_3.toInt ≤ (st.1 3).toInt) (hi2_3 : (st.1 3).toInt < x5_3.toInt + (n_3 + 1)) (h9_1 : ¬ st.1 3 ≤ x5_3) (h23_3 : (sp_X9_isAmong a1 (st.2.1 6 x5_3.toNatClampNeg)) = 0) : (st.1 3).toInt < (x5_3 + 1).toInt + n_3 := by
  have z1 := okC_3 hok
  have z2 := (by decide : (0 : Int32).toInt = 0)
  have z3 := (by decide : (1 : Int32).toInt = 1)
  have z4 := (by decide : (3 : Int32).toInt = 3)
  have z5 := inc_I x5_3
  clear h23_3 hok
  try simp only [sA_1, sL_1, sI_1, vp_in_iff, Int32.le_iff_toInt_le, Int32.lt_iff_toInt_lt, ← Int32.toInt_inj, reduceIte, Nat.reduceEqDiff] at *
  all_goals omega
theorem ob_X1_allow_32_7 (st : St) (a1 : Int32) (a2 : Int32) (a3 : Int32) (n_3 : Nat) (x5_3 : Int32) (hok : okC st) (hi0_3 : 0 ≤ x5_3.toInt) (hi1_3 : x5_3.toInt ≤ (st.1 3).toInt) (hi2_3 : (st.1 3).toInt < x5_3.toInt + (n_3 + 1)) (h9_1 : ¬ st.1 3 ≤ x5_3) (h23_3 : ¬ (sp_X9_isAmong a1 (st.2.1 6 x5_3.toNatClampNeg)) = 0) : vp_in x5_3 40 := by
  have z1 := okC_3 hok
  have z2 := (by decide : (0 : Int32).toInt = 0)
  have z3 := (by decide : (1 : Int32).toInt = 1)
  have z4 := (by decide : (3 : Int32).toInt = 3)
  have z5 := (by decide : (40 : Int32).toInt = 40)
  clear h23_3 hok
  try simp only [sA_1, sL_1, sI_1, vp_in_iff, Int32.le_iff_toInt_le, Int32.lt_iff_toInt_lt, ← Int32.toInt_inj, reduceIte, Nat.reduceEqDiff] at *
  all_goals omega
theorem ob_X1_allow_3_inv0_9 (st : St) (a1 : Int32) (a2 : Int32) (a3 : Int32) (n_3 : Nat) (x5_3 : Int32) (hok : okC st) (hi0_3 : 0 ≤ x5_3.toInt) (hi1_3 : x5_3.toInt ≤ (st.1 3).toInt) (hi2_3 : (st.1 3).toInt < x5_3.toInt + (n_3 + 1)) (h9_1 : ¬ st.1 3 ≤ x5_3) (h23_3 : ¬ (sp_X9_isAmong a1 (st.2.1 6 x5_3.toNatClampNeg)) = 0) (h34_8 : a3 < st.2.1 8 x5_3.toNatClampNeg) : 0 ≤ (x5_3 + 1).toInt := by
  have z1 := okC_3 hok
  have z2 := okC_8 hok
  have z3 := (by decide : (0 : Int32).toInt = 0)
  have z4 := (by decide : (1 : Int32).toInt = 1)
  have z5 := (by decide : (3 : Int32).toInt = 3)
  have z6 := (by decide : (8 : Int32).toInt = 8)
  have z7 := inc_I x5_3
  clear h23_3 hok
  try simp only [sA_1, sL_1, sI_1, vp_in_iff, Int32.le_iff_toInt_le, Int32.lt_iff_toInt_lt, ← Int32.toInt_inj, reduceIte, Nat.reduceEqDiff] at *
  all_goals omega
theorem ob_X1_allow_3_inv1_10 (st : St) (a1 : Int32) (a2 : Int32) (a3 : Int32) (n_3 : Nat) (x5_3 : Int32) (hok : okC st) (hi0_3 : 0 ≤ x5_3.toInt) (hi1_3 : x5_3.toInt ≤ (st.1 3).toInt) (hi2_3 : (st.1 3).toInt < x5_3.toInt + (n_3 + 1)) (h9_1 : ¬ st.1 3 ≤ x5_3) (h23_3 : ¬ (sp_X9_isAmong a1 (st.2.1 6 x5_3.toNatClampNeg)) = 0) (h34_8 : a3 < st.2.1 8 x5_3.toNatClampNeg) : (x5_3 + 1).toInt ≤ (st.1 3).toInt := by
  have z1 := okC_3 hok
  have z2 := okC_8 hok
  have z3 := (by decide : (0 : Int32).toInt = 0)
  have z4 := (by decide : (1 : Int32).toInt = 1)
  have z5 := (by decide : (3 : Int32).toInt = 3)
  have z6 := (by decide : (8 : Int32).toInt = 8)
  have z7 := inc_I x5_3
  clear h23_3 hok
  try simp only [sA_1, sL_1, sI_1, vp_in_iff, Int32.le_iff_toInt_le, Int32.lt_iff_toInt_lt, ← Int32.toInt_inj, reduceIte, Nat.reduceEqDiff] at *
  all_goals omega
theorem ob_X1_allow_3_inv2_11 (st : St) (a1 : Int32) (a2 : Int32) (a3 : Int32) (n_3 : Nat) (x5_3 : Int32) (hok : okC st) (hi0_3 : 0 ≤ x5_3.toInt) (hi1_3 : x5_3.toInt ≤ (st.1 3).toInt) (hi2_3 : (st.1 3).toInt < x5_3.toInt + (n_3 + 1)) (h9_1 : ¬ st.1 3 ≤ x5_3) (h23_3 : ¬ (sp_X9_isAmong a1 (st.2.1 6 x5_3.toNatClampNeg)) = 0) (h34_8 : a3 < st.2.1 8 x5_3.toNatClampNeg) : (st.1 3).toInt < (x5_3 + 1).toInt + n_3 := by
  have z1 := okC_3 hok
  have z2 := okC_8 hok
  have z3 := (by decide : (0 : Int32).toInt = 0)
  have z4 := (by decide : (1 : Int32).toInt = 1)
  have z5 := (by decide : (3 : Int32).toInt = 3)
  have z6 := (by decide : (8 : Int32).toInt = 8)
  have z7 := inc_I x5_3
  clear h23_3 hok
  try simp only [sA_1, sL_1, sI_1, vp_in_iff, Int32.le_iff_toInt_le, Int32.lt_iff_toInt_lt, ← Int32.toInt_inj, reduceIte, Nat.reduceEqDiff] at *
  all_goals omega
theorem ob_X1_allow_44_12 (st : St) (a1 : Int32) (a2 : Int32) (a3 : Int32) (n_3 : Nat) (x5_3 : Int32) (hok : okC st) (hi0_3 : 0 ≤ x5_3.toInt) (hi1_3 : x5_3.toInt ≤ (st.1 3).toInt) (hi2_3 : (st.1 3).toInt < x5_3.toInt + (n_3 + 1)) (h9_1 : ¬ st.1 3 ≤ x5_3) (h23_3 : ¬ (sp_X9_isAmong a1 (st.2.1 6 x5_3.toNatClampNeg)) = 0) (h34_8 : ¬ a3 < st.2.1 8 x5_3.toNatClampNeg) : vp_in x5_3 40 := by
  have z1 := okC_3 hok
  have z2 := okC_8 hok
  have z3 := (by decide : (0 : Int32).toInt = 0)
  have z4 := (by decide : (1 : Int32).toInt = 1)
  have z5 := (by decide : (3 : Int32).toInt = 3)
  have z6 := (by decide : (8 : Int32).toInt = 8)
  have z7 := (by decide : (40 : Int32).toInt = 40)
  clear h23_3 hok
  try simp only [sA_1, sL_1, sI_1, vp_in_iff, Int32.le_iff_toInt_le, Int32.lt_iff_toInt_lt, ← Int32.toInt_inj, reduceIte, Nat.reduceEqDiff] at *
  all_goals omega
theorem ob_X1_allow_3_inv0_14 (st : St) (a1 : Int32) (a2 : Int32) (a3 : Int32) (n_3 : Nat) (x5_3 : Int32) (hok : okC st) (hi0_3 : 0 ≤ x5_3.toInt) (hi1_3 : x5_3.toInt ≤ (st.1 3).toInt) (hi2_3 : (st.1 3).toInt < x5_3.toInt + (n_3 + 1)) (h9_1 : ¬ st.1 3 ≤ x5_3) (h23_3 : ¬ (sp_X9_isAmong a1 (st.2.1 6 x5_3.toNatClampNeg)) = 0) (h34_8 : ¬ a3 < st.2.1 8 x5_3.toNatClampNeg) (h45_13 : st.2.1 9 x5_3.toNatClampNeg < a3) : 0 ≤ (x5_3 + 1).toInt := by
  have z1 := okC_3 hok
  have z2 := okC_8 hok
  have z3 := (by decide : (0 : Int32).toInt = 0)
  have z4 := (by decide : (1 : Int32).toInt = 1)
  have z5 := (by decide : (3 : Int32).toInt = 3)
  have z6 := (by decide : (8 : Int32).toInt = 8)
  have z7 := (by decide : (9 : Int32).toInt = 9)
  have z8 := inc_I x5_3
  clear h23_3 hok
  try simp only [sA_1, sL_1, sI_1, vp_in_iff, Int32.le_iff_toInt_le, Int32.lt_iff_toInt_lt, ← Int32.toInt_inj, reduceIte, Nat.reduceEqDiff] at *
  all_goals omega
theorem ob_X1_allow_3_inv1_15 (st : St) (a1 : Int32) (a2 : Int32) (a3 : Int32) (n_3 : Nat) (x5_3 : Int32) (hok : okC st) (hi0_3 : 0 ≤ x5_3.toInt) (hi1_3 : x5_3.toInt ≤ (st.1 3).toInt) (hi2_3 : (st.1 3).toInt < x5_3.toInt + (n_3 + 1)) (h9_1 : ¬ st.1 3 ≤ x5_3) (h23_3 : ¬ (sp_X9_isAmong a1 (st.2.1 6 x5_3.toNatClampNeg)) = 0) (h34_8 : ¬ a3 < st.2.1 8 x5_3.toNatClampNeg) (h45_13 : st.2.1 9 x5_3.toNatClampNeg < a3) : (x5_3 + 1).toInt ≤ (st.1 3).toInt := by
  have z1 := okC_3 hok
  have z2 := okC_8 hok
  have z3 := (by decide : (0 : Int32).toInt = 0)
  have z4 := (by decide : (1 : Int32).toInt = 1)
  have z5 := (by decide : (3 : Int32).toInt = 3)
  have z6 := (by decide : (8 : Int32).toInt = 8)
  have z7 := (by decide : (9 : Int32).toInt = 9)
  have z8 := inc_I x5_3
  clear h23_3 hok
  try simp only [sA_1, sL_1, sI_1, vp_in_iff, Int32.le_iff_toInt_le, Int32.lt_iff_toInt_lt, ← Int32.toInt_inj, reduceIte, Nat.reduceEqDiff] at *
  all_goals omega
theorem ob_X1_allow_3_inv2_16 (st : St) (a1 : Int32) (a2 : Int32) (a3 : Int32) (n_3 : Nat) (x5_3 : Int32) (hok : okC st) (hi0_3 : 0 ≤ x5_3.toInt) (hi1_3 : x5_3.toInt ≤ (st.1 3).toInt) (hi2_3 : (st.1 3).toInt < x5_3.toInt + (n_3 + 1)) (h9_1 : ¬ st.1 3 ≤ x5_3) (h23_3 : ¬ (sp_X9_isAmong a1 (st.2.1 6 x5_3.toNatClampNeg)) = 0) (h34_8 : ¬ a3 < st.2.1 8 x5_3.toNatClampNeg) (h45_13 : st.2.1 9 x5_3.toNatClampNeg < a3) : (st.1 3).toInt < (x5_3 + 1).toInt + n_3 := by
  have z1 := okC_3 hok
  have z2 := okC_8 hok
  have z3 := (by decide : (0 : Int32).toInt = 0)
  have z4 := (by decide : (1 : Int32).toInt = 1)
  have z5 := (by decide : (3 : Int32).toInt = 3)
  have z6 := (by decide : (8 : Int32).toInt = 8)
  have z7 := (by decide : (9 : Int32).toInt = 9)
  have z8 := inc_I x5_3
  clear h23_3 hok
  try simp only [sA_1, sL_1, sI_1, vp_in_iff, Int32.le_iff_toInt_le, Int32.lt_iff_toInt_lt, ← Int32.toInt_inj, reduceIte, Nat.reduceEqDiff] at *
  all_goals omega
theorem ob_X1_allow_56_17 (st : St) (a1 : Int32) (a2 : Int32) (a3 : Int32) (n_3 : Nat) (x5_3 : Int32) (hok : okC st) (hi0_3 : 0 ≤ x5_3.toInt) (hi1_3 : x5_3.toInt ≤ (st.1 3).toInt) (hi2_3 : (st.1 3).toInt < x5_3.toInt + (n_3 + 1)) (h9_1 : ¬ st.1 3 ≤ x5_3) (h23_3 : ¬ (sp_X9_isAmong a1 (st.2.1 6 x5_3.toNatClampNeg)) = 0) (h34_8 : ¬ a3 < st.2.1 8 x5_3.toNatClampNeg) (h45_13 : ¬ st.2.1 9 x5_3.toNatClampNeg < a3) : vp_in x5_3 40 := by
  have z1 := okC_3 hok
  have z2 := okC_8 hok
  have z3 := (by decide : (0 : Int32).toInt = 0)
  have z4 := (by decide : (1 : Int32).toInt = 1)
  have z5 := (by decide : (3 : Int32).toInt = 3)
  have z6 := (by decide : (8 : Int32).toInt = 8)
  have z7 := (by decide : (9 : Int32).toInt = 9)
  have z8 := (by decide : (40 : Int32).toInt = 40)
  clear h23_3 hok
  try simp only [sA_1, sL_1, sI_1, vp_in_iff, Int32.le_iff_toInt_le, Int32.lt_iff_toInt_lt, ← Int32.toInt_inj, reduceIte, Nat.reduceEqDiff] at *
  all_goals omega
theorem ob_X1_allow_3_inv0_19 (st : St) (a1 : Int32) (a2 : Int32) (a3 : Int32) (n_3 : Nat) (x5_3 : Int32) (hok : okC st) (hi0_3 : 0 ≤ x5_3.toInt) (hi1_3 : x5_3.toInt ≤ (st.1 3).toInt) (hi2_3 : (st.1 3).toInt < x5_3.toInt + (n_3 + 1)) (h9_1 : ¬ st.1 3 ≤ x5_3) (h23_3 : ¬ (sp_X9_isAmong a1 (st.2.1 6 x5_3.toNatClampNeg)) = 0) (h34_8 : ¬ a3 < st.2.1 8 x5_3.toNatClampNeg) (h45_13 : ¬ st.2.1 9 x5_3.toNatClampNeg < a3) (h61_18 : (sp_X8_isAtOrAbove st (st.2.1 7 x5_3.toNatClampNeg) a2) = 0) : 0 ≤ (x5_3 + 1).toInt := by
  have z1 := okC_3 hok
  have z2 := okC_8 hok
  have z3 := (by decide : (0 : Int32).toInt = 0)
  have z4 := (by decide : (1 : Int32).toInt = 1)
  have z5 := (by decide : (3 : Int32).toInt = 3)
  have z6 := (by decide : (8 : Int32).toInt = 8)
  have z7 := (by decide : (9 : Int32).toInt = 9)
  have z8 := inc_I x5_3
  clear h23_3 h61_18 hok
  try simp only [sA_1, sL_1, sI_1, vp_in_iff, Int32.le_iff_toInt_le, Int32.lt_iff_toInt_lt, ← Int32.toInt_inj, reduceIte, Nat.reduceEqDiff] at *
  all_goals omega
theorem ob_X1_allow_3_inv1_20 (st : St) (a1 : Int32) (a2 : Int32) (a3 : Int32) (n_3 : Nat) (x5_3 : Int32) (hok : okC st) (hi0_3 : 0 ≤ x5_3.toInt) (hi1_3 : x5_3.toInt ≤ (st.1 3).toInt) (hi2_3 : (st.1 3).toInt < x5_3.toInt + (n_3 + 1)) (h9_1 : ¬ st.1 3 ≤ x5_3) (h23_3 : ¬ (sp_X9_isAmong a1 (st.2.1 6 x5_3.toNatClampNeg)) = 0) (h34_8 : ¬ a3 < st.2.1 8 x5_3.toNatClampNeg) (h45_13 : ¬ st.2.1 9 x5_3.toNatClampNeg < a3) (h61_18 : (sp_X8_isAtOrAbove st (st.2.1 7 x5_3.toNatClampNeg) a2) = 0) : (x5_3 + 1).toInt ≤ (st.1 3).toInt := by
  have z1 := okC_3 hok
  have z2 := okC_8 hok
  have z3 := (by decide : (0 : Int32).toInt = 0)
  have z4 := (by decide : (1 : Int32).toInt = 1)
  have z5 := (by decide : (3 : Int32).toInt = 3)
  have z6 := (by decide : (8 : Int32).toInt = 8)
  have z7 := (by decide : (9 : Int32).toInt = 9)
  have z8 := inc_I x5_3
  clear h23_3 h61_18 hok
  try simp only [sA_1, sL_1, sI_1, vp_in_iff, Int32.le_iff_toInt_le, Int32.lt_iff_toInt_lt, ← Int32.toInt_inj, reduceIte, Nat.reduceEqDiff] at *
  all_goals omega
theorem ob_X1_allow_3_inv2_21 (st : St) (a1 : Int32) (a2 : Int32) (a3 : Int32) (n_3 : Nat) (x5_3 : Int32) (hok : okC st) (hi0_3 : 0 ≤ x5_3.toInt) (hi1_3 : x5_3.toInt ≤ (st.1 3).toInt) (hi2_3 : (st.1 3).toInt < x5_3.toInt + (n_3 + 1)) (h9_1 : ¬ st.1 3 ≤ x5_3) (h23_3 : ¬ (sp_X9_isAmong a1 (st.2.1 6 x5_3.toNatClampNeg)) = 0) (h34_8 : ¬ a3 < st.2.1 8 x5_3.toNatClampNeg) (h45_13 : ¬ st.2.1 9 x5_3.toNatClampNeg < a3) (h61_18 : (sp_X8_isAtOrAbove st (st.2.1 7 x5_3.toNatClampNeg) a2) = 0) : (st.1 3).toInt < (x5_3 + 1).toInt + n_3 := by
  have z1 := okC_3 hok
  have z2 := okC_8 hok
  have z3 := (by decide : (0 : Int32).toInt = 0)
  have z4 := (by decide : (1 : Int32).toInt = 1)
  have z5 := (by decide : (3 : Int32).toInt = 3)
  have z6 := (by decide : (8 : Int32).toInt = 8)
  have z7 := (by decide : (9 : Int32).toInt = 9)
  have z8 := inc_I x5_3
  clear h23_3 h61_18 hok
  try simp only [sA_1, sL_1, sI_1, vp_in_iff, Int32.le_iff_toInt_le, Int32.lt_iff_toInt_lt, ← Int32.toInt_inj, reduceIte, Nat.reduceEqDiff] at *
  all_goals omega
theorem ob_X1_allow_3_inv0_22 (st : St) (a1 : Int32) (a2 : Int32) (a3 : Int32) (hok : okC st) : 0 ≤ (0 : Int32).toInt := by
  have z1 := (by decide : (0 : Int32).toInt = 0)
  clear hok
  try simp only [sA_1, sL_1, sI_1, vp_in_iff, Int32.le_iff_toInt_le, Int32.lt_iff_toInt_lt, ← Int32.toInt_inj, reduceIte, Nat.reduceEqDiff] at *
  all_goals omega
theorem ob_X1_allow_3_inv1_23 (st : St) (a1 : Int32) (a2 : Int32) (a3 : Int32) (hok : okC st) : (0 : Int32).toInt ≤ (st.1 3).toInt := by
  have z1 := okC_3 hok
  have z2 := (by decide : (0 : Int32).toInt = 0)
  have z3 := (by decide : (3 : Int32).toInt = 3)
  clear hok
  try simp only [sA_1, sL_1, sI_1, vp_in_iff, Int32.le_iff_toInt_le, Int32.lt_iff_toInt_lt, ← Int32.toInt_inj, reduceIte, Nat.reduceEqDiff] at *
  all_goals omega
theorem ob_X1_allow_3_inv2_24 (st : St) (a1 : Int32) (a2 : Int32) (a3 : Int32) (hok : okC st) : (st.1 3).toInt < (0 : Int32).toInt + ((st.1 3).toInt.toNat + 1) := by
  have z1 := okC_3 hok
  have z2 := (by decide : (0 : Int32).toInt = 0)
  have z3 := (by decide : (1 : Int32).toInt = 1)
  have z4 := (by decide : (3 : Int32).toInt = 3)
  clear hok
  try simp only [sA_1, sL_1, sI_1, vp_in_iff, Int32.le_iff_toInt_le, Int32.lt_iff_toInt_lt, ← Int32.toInt_inj, reduceIte, Nat.reduceEqDiff] at *
  all_goals omega

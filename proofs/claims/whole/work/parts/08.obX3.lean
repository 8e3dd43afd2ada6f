theorem ob_X3_add_20_2 (st : St) (a1 : Int32) (a2 : Int32) (a3 : Int32) (hok : okC st) (h6_1 : st.1 5 < 60) : vp_in (st.1 5) 60 := by
  have z1 := okC_5 hok
  have z2 := (by decide : (5 : Int32).toInt = 5)
  have z3 := (by decide : (60 : Int32).toInt = 60)
  clear hok
  try simp only [sA_1, sL_1, sI_1, vp_in_iff, Int32.le_iff_toInt_le, Int32.lt_iff_toInt_lt, ← Int32.toInt_inj, reduceIte, Nat.reduceEqDiff] at *
  all_goals omega
theorem ob_X3_add_30_3 (st : St) (a1 : Int32) (a2 : Int32) (a3 : Int32) (hok : okC st) (h6_1 : st.1 5 < 60) : vp_in (st.1 5) 60 := by
  have z1 := okC_5 hok
  have z2 := (by decide : (5 : Int32).toInt = 5)
  have z3 := (by decide : (60 : Int32).toInt = 60)
  clear hok
  try simp only [sA_1, sL_1, sI_1, vp_in_iff, Int32.le_iff_toInt_le, Int32.lt_iff_toInt_lt, ← Int32.toInt_inj, reduceIte, Nat.reduceEqDiff] at *
  all_goals omega
theorem ob_X3_add_40_4 (st : St) (a1 : Int32) (a2 : Int32) (a3 : Int32) (hok : okC st) (h6_1 : st.1 5 < 60) : vp_in (st.1 5) 60 := by
  have z1 := okC_5 hok
  have z2 := (by decide : (5 : Int32).toInt = 5)
  have z3 := (by decide : (60 : Int32).toInt = 60)
  clear hok
  try simp only [sA_1, sL_1, sI_1, vp_in_iff, Int32.le_iff_toInt_le, Int32.lt_iff_toInt_lt, ← Int32.toInt_inj, reduceIte, Nat.reduceEqDiff] at *
  all_goals omega
theorem ob_X3_latestDay_5_zero (st : St) (a1 : Int32) (a2 : Int32) (x4_5 : Int32) (x3_5 : Int32) (hok : okC st) (hi0_5 : 0 ≤ x4_5.toInt) (hi1_5 : x4_5.toInt ≤ (st.1 5).toInt) (hi2_5 : (st.1 5).toInt < x4_5.toInt + 0) : False := by
  have z1 := okC_5 hok
  have z2 := (by decide : (0 : Int32).toInt = 0)
  have z3 := (by decide : (5 : Int32).toInt = 5)
  clear hok
  try simp only [sA_1, sL_1, sI_1, vp_in_iff, Int32.le_iff_toInt_le, Int32.lt_iff_toInt_lt, ← Int32.toInt_inj, reduceIte, Nat.reduceEqDiff] at *
  all_goals omega
theorem ob_X3_latestDay_21_2 (st : St) (a1 : Int32) (a2 : Int32) (n_5 : Nat) (x4_5 : Int32) (x3_5 : Int32) (hok : okC st) (hi0_5 : 0 ≤ x4_5.toInt) (hi1_5 : x4_5.toInt ≤ (st.1 5).toInt) (hi2_5 : (st.1 5).toInt < x4_5.toInt + (n_5 + 1)) (h11_1 : ¬ st.1 5 ≤ x4_5) : vp_in x4_5 60 := by
  have z1 := okC_5 hok
  have z2 := (by decide : (0 : Int32).toInt = 0)
  have z3 := (by decide : (1 : Int32).toInt = 1)
  have z4 := (by decide : (5 : Int32).toInt = 5)
  have z5 := (by decide : (60 : Int32).toInt = 60)
  clear hok
  try simp only [sA_1, sL_1, sI_1, vp_in_iff, Int32.le_iff_toInt_le, Int32.lt_iff_toInt_lt, ← Int32.toInt_inj, reduceIte, Nat.reduceEqDiff] at *
  all_goals omega
theorem ob_X3_latestDay_5_inv0_4 (st : St) (a1 : Int32) (a2 : Int32) (n_5 : Nat) (x4_5 : Int32) (x3_5 : Int32) (hok : okC st) (hi0_5 : 0 ≤ x4_5.toInt) (hi1_5 : x4_5.toInt ≤ (st.1 5).toInt) (hi2_5 : (st.1 5).toInt < x4_5.toInt + (n_5 + 1)) (h11_1 : ¬ st.1 5 ≤ x4_5) (h25_3 : (sp_X9_isAmong a1 (st.2.1 13 x4_5.toNatClampNeg)) = 0) : 0 ≤ (x4_5 + 1).toInt := by
  have z1 := okC_5 hok
  have z2 := (by decide : (0 : Int32).toInt = 0)
  have z3 := (by decide : (1 : Int32).toInt = 1)
  have z4 := (by decide : (5 : Int32).toInt = 5)
  have z5 := inc_I x4_5
  clear h25_3 hok
  try simp only [sA_1, sL_1, sI_1, vp_in_iff, Int32.le_iff_toInt_le, Int32.lt_iff_toInt_lt, ← Int32.toInt_inj, reduceIte, Nat.reduceEqDiff] at *
  all_goals omega
theorem ob_X3_latestDay_5_inv1_5 (st : St) (a1 : Int32) (a2 : Int32) (n_5 : Nat) (x4_5 : Int32) (x3_5 : Int32) (hok : okC st) (hi0_5 : 0 ≤ x4_5.toInt) (hi1_5 : x4_5.toInt ≤ (st.1 5).toInt) (hi2_5 : (st.1 5).toInt < x4_5.toInt + (n_5 + 1)) (h11_1 : ¬ st.1 5 ≤ x4_5) (h25_3 : (sp_X9_isAmong a1 (st.2.1 13 x4_5.toNatClampNeg)) = 0) : (x4_5 + 1).toInt ≤ (st.1 5).toInt := by
  have z1 := okC_5 hok
  have z2 := (by decide : (0 : Int32).toInt = 0)
  have z3 := (by decide : (1 : Int32).toInt = 1)
  have z4 := (by decide : (5 : Int32).toInt = 5)
  have z5 := inc_I x4_5
  clear h25_3 hok
  try simp only [sA_1, sL_1, sI_1, vp_in_iff, Int32.le_iff_toInt_le, Int32.lt_iff_toInt_lt, ← Int32.toInt_inj, reduceIte, Nat.reduceEqDiff] at *
  all_goals omega
theorem ob_X3_latestDay_5_inv2_6 (st : St) (a1 : Int32) (a2 : Int32) (n_5 : Nat) (x4_5 : Int32) (x3_5 : Int32) (hok : okC st) (hi0_5 : 0 ≤ x4_5.toInt) (hi1_5 : x4_5.toInt ≤ (st.1 5).toInt) (hi2_5 : (st.1 5).toInt < x4_5.toInt + (n_5 + 1)) (h11_1 : ¬ st.1 5 ≤ x4_5) (h25_3 : (sp_X9_isAmong a1 (st.2.1 13 x4_5.toNatClampNeg)) = 0) : (st.1 5).toInt < (x4_5 + 1).toInt + n_5 := by
  have z1 := okC_5 hok
  have z2 := (by decide : (0 : Int32).toInt = 0)
  have z3 := (by decide : (1 : Int32).toInt = 1)
  have z4 := (by decide : (5 : Int32).toInt = 5)
  have z5 := inc_I x4_5
  clear h25_3 hok
  try simp only [sA_1, sL_1, sI_1, vp_in_iff, Int32.le_iff_toInt_le, Int32.lt_iff_toInt_lt, ← Int32.toInt_inj, reduceIte, Nat.reduceEqDiff] at *
  all_goals omega
theorem ob_X3_latestDay_34_7 (st : St) (a1 : Int32) (a2 : Int32) (n_5 : Nat) (x4_5 : Int32) (x3_5 : Int32) (hok : okC st) (hi0_5 : 0 ≤ x4_5.toInt) (hi1_5 : x4_5.toInt ≤ (st.1 5).toInt) (hi2_5 : (st.1 5).toInt < x4_5.toInt + (n_5 + 1)) (h11_1 : ¬ st.1 5 ≤ x4_5) (h25_3 : ¬ (sp_X9_isAmong a1 (st.2.1 13 x4_5.toNatClampNeg)) = 0) : vp_in x4_5 60 := by
  have z1 := okC_5 hok
  have z2 := (by decide : (0 : Int32).toInt = 0)
  have z3 := (by decide : (1 : Int32).toInt = 1)
  have z4 := (by decide : (5 : Int32).toInt = 5)
  have z5 := (by decide : (60 : Int32).toInt = 60)
  clear h25_3 hok
  try simp only [sA_1, sL_1, sI_1, vp_in_iff, Int32.le_iff_toInt_le, Int32.lt_iff_toInt_lt, ← Int32.toInt_inj, reduceIte, Nat.reduceEqDiff] at *
  all_goals omega
theorem ob_X3_latestDay_5_inv0_9 (st : St) (a1 : Int32) (a2 : Int32) (n_5 : Nat) (x4_5 : Int32) (x3_5 : Int32) (hok : okC st) (hi0_5 : 0 ≤ x4_5.toInt) (hi1_5 : x4_5.toInt ≤ (st.1 5).toInt) (hi2_5 : (st.1 5).toInt < x4_5.toInt + (n_5 + 1)) (h11_1 : ¬ st.1 5 ≤ x4_5) (h25_3 : ¬ (sp_X9_isAmong a1 (st.2.1 13 x4_5.toNatClampNeg)) = 0) (h36_8 : ¬ st.2.1 14 x4_5.toNatClampNeg = a2) : 0 ≤ (x4_5 + 1).toInt := by
  have z1 := okC_5 hok
  have z2 := (by decide : (0 : Int32).toInt = 0)
  have z3 := (by decide : (1 : Int32).toInt = 1)
  have z4 := (by decide : (5 : Int32).toInt = 5)
  have z5 := (by decide : (14 : Int32).toInt = 14)
  have z6 := inc_I x4_5
  clear h25_3 hok
  try simp only [sA_1, sL_1, sI_1, vp_in_iff, Int32.le_iff_toInt_le, Int32.lt_iff_toInt_lt, ← Int32.toInt_inj, reduceIte, Nat.reduceEqDiff] at *
  all_goals omega
theorem ob_X3_latestDay_5_inv1_10 (st : St) (a1 : Int32) (a2 : Int32) (n_5 : Nat) (x4_5 : Int32) (x3_5 : Int32) (hok : okC st) (hi0_5 : 0 ≤ x4_5.toInt) (hi1_5 : x4_5.toInt ≤ (st.1 5).toInt) (hi2_5 : (st.1 5).toInt < x4_5.toInt + (n_5 + 1)) (h11_1 : ¬ st.1 5 ≤ x4_5) (h25_3 : ¬ (sp_X9_isAmong a1 (st.2.1 13 x4_5.toNatClampNeg)) = 0) (h36_8 : ¬ st.2.1 14 x4_5.toNatClampNeg = a2) : (x4_5 + 1).toInt ≤ (st.1 5).toInt := by
  have z1 := okC_5 hok
  have z2 := (by decide : (0 : Int32).toInt = 0)
  have z3 := (by decide : (1 : Int32).toInt = 1)
  have z4 := (by decide : (5 : Int32).toInt = 5)
  have z5 := (by decide : (14 : Int32).toInt = 14)
  have z6 := inc_I x4_5
  clear h25_3 hok
  try simp only [sA_1, sL_1, sI_1, vp_in_iff, Int32.le_iff_toInt_le, Int32.lt_iff_toInt_lt, ← Int32.toInt_inj, reduceIte, Nat.reduceEqDiff] at *
  all_goals omega
theorem ob_X3_latestDay_5_inv2_11 (st : St) (a1 : Int32) (a2 : Int32) (n_5 : Nat) (x4_5 : Int32) (x3_5 : Int32) (hok : okC st) (hi0_5 : 0 ≤ x4_5.toInt) (hi1_5 : x4_5.toInt ≤ (st.1 5).toInt) (hi2_5 : (st.1 5).toInt < x4_5.toInt + (n_5 + 1)) (h11_1 : ¬ st.1 5 ≤ x4_5) (h25_3 : ¬ (sp_X9_isAmong a1 (st.2.1 13 x4_5.toNatClampNeg)) = 0) (h36_8 : ¬ st.2.1 14 x4_5.toNatClampNeg = a2) : (st.1 5).toInt < (x4_5 + 1).toInt + n_5 := by
  have z1 := okC_5 hok
  have z2 := (by decide : (0 : Int32).toInt = 0)
  have z3 := (by decide : (1 : Int32).toInt = 1)
  have z4 := (by decide : (5 : Int32).toInt = 5)
  have z5 := (by decide : (14 : Int32).toInt = 14)
  have z6 := inc_I x4_5
  clear h25_3 hok
  try simp only [sA_1, sL_1, sI_1, vp_in_iff, Int32.le_iff_toInt_le, Int32.lt_iff_toInt_lt, ← Int32.toInt_inj, reduceIte, Nat.reduceEqDiff] at *
  all_goals omega
theorem ob_X3_latestDay_46_12 (st : St) (a1 : Int32) (a2 : Int32) (n_5 : Nat) (x4_5 : Int32) (x3_5 : Int32) (hok : okC st) (hi0_5 : 0 ≤ x4_5.toInt) (hi1_5 : x4_5.toInt ≤ (st.1 5).toInt) (hi2_5 : (st.1 5).toInt < x4_5.toInt + (n_5 + 1)) (h11_1 : ¬ st.1 5 ≤ x4_5) (h25_3 : ¬ (sp_X9_isAmong a1 (st.2.1 13 x4_5.toNatClampNeg)) = 0) (h36_8 : st.2.1 14 x4_5.toNatClampNeg = a2) : vp_in x4_5 60 := by
  have z1 := okC_5 hok
  have z2 := (by decide : (0 : Int32).toInt = 0)
  have z3 := (by decide : (1 : Int32).toInt = 1)
  have z4 := (by decide : (5 : Int32).toInt = 5)
  have z5 := (by decide : (14 : Int32).toInt = 14)
  have z6 := (by decide : (60 : Int32).toInt = 60)
  clear h25_3 hok
  try simp only [sA_1, sL_1, sI_1, vp_in_iff, Int32.le_iff_toInt_le, Int32.lt_iff_toInt_lt, ← Int32.toInt_inj, reduceIte, Nat.reduceEqDiff] at *
  all_goals omega
theorem ob_X3_latestDay_5_inv0_13 (st : St) (a1 : Int32) (a2 : Int32) (n_5 : Nat) (x4_5 : Int32) (x3_5 : Int32) (hok : okC st) (hi0_5 : 0 ≤ x4_5.toInt) (hi1_5 : x4_5.toInt ≤ (st.1 5).toInt) (hi2_5 : (st.1 5).toInt < x4_5.toInt + (n_5 + 1)) (h11_1 : ¬ st.1 5 ≤ x4_5) (h25_3 : ¬ (sp_X9_isAmong a1 (st.2.1 13 x4_5.toNatClampNeg)) = 0) (h36_8 : st.2.1 14 x4_5.toNatClampNeg = a2) : 0 ≤ (x4_5 + 1).toInt := by
  have z1 := okC_5 hok
  have z2 := (by decide : (0 : Int32).toInt = 0)
  have z3 := (by decide : (1 : Int32).toInt = 1)
  have z4 := (by decide : (5 : Int32).toInt = 5)
  have z5 := (by decide : (14 : Int32).toInt = 14)
  have z6 := inc_I x4_5
  clear h25_3 hok
  try simp only [sA_1, sL_1, sI_1, vp_in_iff, Int32.le_iff_toInt_le, Int32.lt_iff_toInt_lt, ← Int32.toInt_inj, reduceIte, Nat.reduceEqDiff] at *
  all_goals omega
theorem ob_X3_latestDay_5_inv1_14 (st : St) (a1 : Int32) (a2 : Int32) (n_5 : Nat) (x4_5 : Int32) (x3_5 : Int32) (hok : okC st) (hi0_5 : 0 ≤ x4_5.toInt) (hi1_5 : x4_5.toInt ≤ (st.1 5).toInt) (hi2_5 : (st.1 5).toInt < x4_5.toInt + (n_5 + 1)) (h11_1 : ¬ st.1 5 ≤ x4_5) (h25_3 : ¬ (sp_X9_isAmong a1 (st.2.1 13 x4_5.toNatClampNeg)) = 0) (h36_8 : st.2.1 14 x4_5.toNatClampNeg = a2) : (x4_5 + 1).toInt ≤ (st.1 5).toInt := by
  have z1 := okC_5 hok
  have z2 := (by decide : (0 : Int32).toInt = 0)
  have z3 := (by decide : (1 : Int32).toInt = 1)
  have z4 := (by decide : (5 : Int32).toInt = 5)
  have z5 := (by decide : (14 : Int32).toInt = 14)
  have z6 := inc_I x4_5
  clear h25_3 hok
  try simp only [sA_1, sL_1, sI_1, vp_in_iff, Int32.le_iff_toInt_le, Int32.lt_iff_toInt_lt, ← Int32.toInt_inj, reduceIte, Nat.reduceEqDiff] at *
  all_goals omega
theorem ob_X3_latestDay_5_inv2_15 (st : St) (a1 : Int32) (a2 : Int32) (n_5 : Nat) (x4_5 : Int32) (x3_5 : Int32) (hok : okC st) (hi0_5 : 0 ≤ x4_5.toInt) (hi1_5 : x4_5.toInt ≤ (st.1 5).toInt) (hi2_5 : (st.1 5).toInt < x4_5.toInt + (n_5 + 1)) (h11_1 : ¬ st.1 5 ≤ x4_5) (h25_3 : ¬ (sp_X9_isAmong a1 (st.2.1 13 x4_5.toNatClampNeg)) = 0) (h36_8 : st.2.1 14 x4_5.toNatClampNeg = a2) : (st.1 5).toInt < (x4_5 + 1).toInt + n_5 := by
  have z1 := okC_5 hok
  have z2 := (by decide : (0 : Int32).toInt = 0)
  have z3 := (by decide : (1 : Int32).toInt = 1)
  have z4 := (by decide : (5 : Int32).toInt = 5)
  have z5 := (by decide : (14 : Int32).toInt = 14)
  have z6 := inc_I x4_5
  clear h25_3 hok
  try simp only [sA_1, sL_1, sI_1, vp_in_iff, Int32.le_iff_toInt_le, Int32.lt_iff_toInt_lt, ← Int32.toInt_inj, reduceIte, Nat.reduceEqDiff] at *
  all_goals omega
theorem ob_X3_latestDay_5_inv0_16 (st : St) (a1 : Int32) (a2 : Int32) (hok : okC st) : 0 ≤ (0 : Int32).toInt := by
  have z1 := (by decide : (0 : Int32).toInt = 0)
  clear hok
  try simp only [sA_1, sL_1, sI_1, vp_in_iff, Int32.le_iff_toInt_le, Int32.lt_iff_toInt_lt, ← Int32.toInt_inj, reduceIte, Nat.reduceEqDiff] at *
  all_goals omega
theorem ob_X3_latestDay_5_inv1_17 (st : St) (a1 : Int32) (a2 : Int32) (hok : okC st) : (0 : Int32).toInt ≤ (st.1 5).toInt := by
  have z1 := okC_5 hok
  have z2 := (by decide : (0 : Int32).toInt = 0)
  have z3 := (by decide : (5 : Int32).toInt = 5)
  clear hok
  try simp only [sA_1, sL_1, sI_1, vp_in_iff, Int32.le_iff_toInt_le, Int32.lt_iff_toInt_lt, ← Int32.toInt_inj, reduceIte, Nat.reduceEqDiff] at *
  all_goals omega
theorem ob_X3_latestDay_5_inv2_18 (st : St) (a1 : Int32) (a2 : Int32) (hok : okC st) : (st.1 5).toInt < (0 : Int32).toInt + ((st.1 5).toInt.toNat + 1) := by
  have z1 := okC_5 hok
  have z2 := (by decide : (0 : Int32).toInt = 0)
  have z3 := (by decide : (1 : Int32).toInt = 1)
  have z4 := (by decide : (5 : Int32).toInt = 5)
  clear hok
  try simp only [sA_1, sL_1, sI_1, vp_in_iff, Int32.le_iff_toInt_le, Int32.lt_iff_toInt_lt, ← Int32.toInt_inj, reduceIte, Nat.reduceEqDiff] at *
  all_goals omega

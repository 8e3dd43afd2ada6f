theorem ob_X2_add_20_2 (st : St) (a1 : Int32) (a2 : Int32) (a3 : Int32) (hok : okC st) (h6_1 : st.1 4 < 20) : vp_in (st.1 4) 20 := by
  have z1 := okC_4 hok
  have z2 := (by decide : (4 : Int32).toInt = 4)
  have z3 := (by decide : (20 : Int32).toInt = 20)
  clear hok
  try simp only [sA_1, sL_1, sI_1, vp_in_iff, Int32.le_iff_toInt_le, Int32.lt_iff_toInt_lt, ← Int32.toInt_inj, reduceIte, Nat.reduceEqDiff] at *
  all_goals omega
theorem ob_X2_add_30_3 (st : St) (a1 : Int32) (a2 : Int32) (a3 : Int32) (hok : okC st) (h6_1 : st.1 4 < 20) : vp_in (st.1 4) 20 := by
  have z1 := okC_4 hok
  have z2 := (by decide : (4 : Int32).toInt = 4)
  have z3 := (by decide : (20 : Int32).toInt = 20)
  clear hok
  try simp only [sA_1, sL_1, sI_1, vp_in_iff, Int32.le_iff_toInt_le, Int32.lt_iff_toInt_lt, ← Int32.toInt_inj, reduceIte, Nat.reduceEqDiff] at *
  all_goals omega
theorem ob_X2_add_40_4 (st : St) (a1 : Int32) (a2 : Int32) (a3 : Int32) (hok : okC st) (h6_1 : st.1 4 < 20) : vp_in (st.1 4) 20 := by
  have z1 := okC_4 hok
  have z2 := (by decide : (4 : Int32).toInt = 4)
  have z3 := (by decide : (20 : Int32).toInt = 20)
  clear hok
  try simp only [sA_1, sL_1, sI_1, vp_in_iff, Int32.le_iff_toInt_le, Int32.lt_iff_toInt_lt, ← Int32.toInt_inj, reduceIte, Nat.reduceEqDiff] at *
  all_goals omega
theorem ob_X2_covers_5_1 (st : St) (a1 : Int32) (a2 : Int32) (a3 : Int32) (a4 : Int32) (hva1 : vp_in a1 20) : vp_in a1 20 := by
  have z1 := (by decide : (20 : Int32).toInt = 20)
  try simp only [sA_1, sL_1, sI_1, vp_in_iff, Int32.le_iff_toInt_le, Int32.lt_iff_toInt_lt, ← Int32.toInt_inj, reduceIte, Nat.reduceEqDiff] at *
  all_goals omega
theorem ob_X2_covers_24_4 (st : St) (a1 : Int32) (a2 : Int32) (a3 : Int32) (a4 : Int32) (hva1 : vp_in a1 20) (h7_2 : st.2.1 10 a1.toNatClampNeg = a2) (h13_3 : ¬ a4 < a3) : vp_in a1 20 := by
  have z1 := (by decide : (10 : Int32).toInt = 10)
  have z2 := (by decide : (20 : Int32).toInt = 20)
  clear h13_3
  try simp only [sA_1, sL_1, sI_1, vp_in_iff, Int32.le_iff_toInt_le, Int32.lt_iff_toInt_lt, ← Int32.toInt_inj, reduceIte, Nat.reduceEqDiff] at *
  all_goals omega
theorem ob_X2_allow_3_zero (st : St) (a1 : Int32) (a2 : Int32) (a3 : Int32) (a4 : Int32) (x5_3 : Int32) (hok : okC st) (hi0_3 : 0 ≤ x5_3.toInt) (hi1_3 : x5_3.toInt ≤ (st.1 4).toInt) (hi2_3 : (st.1 4).toInt < x5_3.toInt + 0) : False := by
  have z1 := okC_4 hok
  have z2 := (by decide : (0 : Int32).toInt = 0)
  have z3 := (by decide : (4 : Int32).toInt = 4)
  clear hok
  try simp only [sA_1, sL_1, sI_1, vp_in_iff, Int32.le_iff_toInt_le, Int32.lt_iff_toInt_lt, ← Int32.toInt_inj, reduceIte, Nat.reduceEqDiff] at *
  all_goals omega
theorem ob_X2_allow_18_2 (st : St) (a1 : Int32) (a2 : Int32) (a3 : Int32) (a4 : Int32) (n_3 : Nat) (x5_3 : Int32) (hok : okC st) (hi0_3 : 0 ≤ x5_3.toInt) (hi1_3 : x5_3.toInt ≤ (st.1 4).toInt) (hi2_3 : (st.1 4).toInt < x5_3.toInt + (n_3 + 1)) (h9_1 : ¬ st.1 4 ≤ x5_3) : vp_in x5_3 20 := by
  have z1 := okC_4 hok
  have z2 := (by decide : (0 : Int32).toInt = 0)
  have z3 := (by decide : (1 : Int32).toInt = 1)
  have z4 := (by decide : (4 : Int32).toInt = 4)
  have z5 := (by decide : (20 : Int32).toInt = 20)
  clear hok
  try simp only [sA_1, sL_1, sI_1, vp_in_iff, Int32.le_iff_toInt_le, Int32.lt_iff_toInt_lt, ← Int32.toInt_inj, reduceIte, Nat.reduceEqDiff] at *
  all_goals omega
theorem ob_X2_allow_3_inv0_4 (st : St) (a1 : Int32) (a2 : Int32) (a3 : Int32) (a4 : Int32) (n_3 : Nat) (x5_3 : Int32) (hok : okC st) (hi0_3 : 0 ≤ x5_3.toInt) (hi1_3 : x5_3.toInt ≤ (st.1 4).toInt) (hi2_3 : (st.1 4).toInt < x5_3.toInt + (n_3 + 1)) (h9_1 : ¬ st.1 4 ≤ x5_3) (h20_3 : ¬ st.2.1 11 x5_3.toNatClampNeg = a2) : 0 ≤ (x5_3 + 1).toInt := by
  have z1 := okC_4 hok
  have z2 := (by decide : (0 : Int32).toInt = 0)
  have z3 := (by decide : (1 : Int32).toInt = 1)
  have z4 := (by decide : (4 : Int32).toInt = 4)
  have z5 := (by decide : (11 : Int32).toInt = 11)
  have z6 := inc_I x5_3
  clear hok
  try simp only [sA_1, sL_1, sI_1, vp_in_iff, Int32.le_iff_toInt_le, Int32.lt_iff_toInt_lt, ← Int32.toInt_inj, reduceIte, Nat.reduceEqDiff] at *
  all_goals omega
theorem ob_X2_allow_3_inv1_5 (st : St) (a1 : Int32) (a2 : Int32) (a3 : Int32) (a4 : Int32) (n_3 : Nat) (x5_3 : Int32) (hok : okC st) (hi0_3 : 0 ≤ x5_3.toInt) (hi1_3 : x5_3.toInt ≤ (st.1 4).toInt) (hi2_3 : (st.1 4).toInt < x5_3.toInt + (n_3 + 1)) (h9_1 : ¬ st.1 4 ≤ x5_3) (h20_3 : ¬ st.2.1 11 x5_3.toNatClampNeg = a2) : (x5_3 + 1).toInt ≤ (st.1 4).toInt := by
  have z1 := okC_4 hok
  have z2 := (by decide : (0 : Int32).toInt = 0)
  have z3 := (by decide : (1 : Int32).toInt = 1)
  have z4 := (by decide : (4 : Int32).toInt = 4)
  have z5 := (by decide : (11 : Int32).toInt = 11)
  have z6 := inc_I x5_3
  clear hok
  try simp only [sA_1, sL_1, sI_1, vp_in_iff, Int32.le_iff_toInt_le, Int32.lt_iff_toInt_lt, ← Int32.toInt_inj, reduceIte, Nat.reduceEqDiff] at *
  all_goals omega
theorem ob_X2_allow_3_inv2_6 (st : St) (a1 : Int32) (a2 : Int32) (a3 : Int32) (a4 : Int32) (n_3 : Nat) (x5_3 : Int32) (hok : okC st) (hi0_3 : 0 ≤ x5_3.toInt) (hi1_3 : x5_3.toInt ≤ (st.1 4).toInt) (hi2_3 : (st.1 4).toInt < x5_3.toInt + (n_3 + 1)) (h9_1 : ¬ st.1 4 ≤ x5_3) (h20_3 : ¬ st.2.1 11 x5_3.toNatClampNeg = a2) : (st.1 4).toInt < (x5_3 + 1).toInt + n_3 := by
  have z1 := okC_4 hok
  have z2 := (by decide : (0 : Int32).toInt = 0)
  have z3 := (by decide : (1 : Int32).toInt = 1)
  have z4 := (by decide : (4 : Int32).toInt = 4)
  have z5 := (by decide : (11 : Int32).toInt = 11)
  have z6 := inc_I x5_3
  clear hok
  try simp only [sA_1, sL_1, sI_1, vp_in_iff, Int32.le_iff_toInt_le, Int32.lt_iff_toInt_lt, ← Int32.toInt_inj, reduceIte, Nat.reduceEqDiff] at *
  all_goals omega
theorem ob_X2_allow_30_7 (st : St) (a1 : Int32) (a2 : Int32) (a3 : Int32) (a4 : Int32) (n_3 : Nat) (x5_3 : Int32) (hok : okC st) (hi0_3 : 0 ≤ x5_3.toInt) (hi1_3 : x5_3.toInt ≤ (st.1 4).toInt) (hi2_3 : (st.1 4).toInt < x5_3.toInt + (n_3 + 1)) (h9_1 : ¬ st.1 4 ≤ x5_3) (h20_3 : st.2.1 11 x5_3.toNatClampNeg = a2) : vp_in x5_3 20 := by
  have z1 := okC_4 hok
  have z2 := (by decide : (0 : Int32).toInt = 0)
  have z3 := (by decide : (1 : Int32).toInt = 1)
  have z4 := (by decide : (4 : Int32).toInt = 4)
  have z5 := (by decide : (11 : Int32).toInt = 11)
  have z6 := (by decide : (20 : Int32).toInt = 20)
  clear hok
  try simp only [sA_1, sL_1, sI_1, vp_in_iff, Int32.le_iff_toInt_le, Int32.lt_iff_toInt_lt, ← Int32.toInt_inj, reduceIte, Nat.reduceEqDiff] at *
  all_goals omega
theorem ob_X2_allow_3_inv0_9 (st : St) (a1 : Int32) (a2 : Int32) (a3 : Int32) (a4 : Int32) (n_3 : Nat) (x5_3 : Int32) (hok : okC st) (hi0_3 : 0 ≤ x5_3.toInt) (hi1_3 : x5_3.toInt ≤ (st.1 4).toInt) (hi2_3 : (st.1 4).toInt < x5_3.toInt + (n_3 + 1)) (h9_1 : ¬ st.1 4 ≤ x5_3) (h20_3 : st.2.1 11 x5_3.toNatClampNeg = a2) (h33_8 : (sp_X2_covers st x5_3 a1 a3 a4) = 0) : 0 ≤ (x5_3 + 1).toInt := by
  have z1 := okC_4 hok
  have z2 := (by decide : (0 : Int32).toInt = 0)
  have z3 := (by decide : (1 : Int32).toInt = 1)
  have z4 := (by decide : (4 : Int32).toInt = 4)
  have z5 := (by decide : (11 : Int32).toInt = 11)
  have z6 := inc_I x5_3
  clear h33_8 hok
  try simp only [sA_1, sL_1, sI_1, vp_in_iff, Int32.le_iff_toInt_le, Int32.lt_iff_toInt_lt, ← Int32.toInt_inj, reduceIte, Nat.reduceEqDiff] at *
  all_goals omega
theorem ob_X2_allow_3_inv1_10 (st : St) (a1 : Int32) (a2 : Int32) (a3 : Int32) (a4 : Int32) (n_3 : Nat) (x5_3 : Int32) (hok : okC st) (hi0_3 : 0 ≤ x5_3.toInt) (hi1_3 : x5_3.toInt ≤ (st.1 4).toInt) (hi2_3 : (st.1 4).toInt < x5_3.toInt + (n_3 + 1)) (h9_1 : ¬ st.1 4 ≤ x5_3) (h20_3 : st.2.1 11 x5_3.toNatClampNeg = a2) (h33_8 : (sp_X2_covers st x5_3 a1 a3 a4) = 0) : (x5_3 + 1).toInt ≤ (st.1 4).toInt := by
  have z1 := okC_4 hok
  have z2 := (by decide : (0 : Int32).toInt = 0)
  have z3 := (by decide : (1 : Int32).toInt = 1)
  have z4 := (by decide : (4 : Int32).toInt = 4)
  have z5 := (by decide : (11 : Int32).toInt = 11)
  have z6 := inc_I x5_3
  clear h33_8 hok
  try simp only [sA_1, sL_1, sI_1, vp_in_iff, Int32.le_iff_toInt_le, Int32.lt_iff_toInt_lt, ← Int32.toInt_inj, reduceIte, Nat.reduceEqDiff] at *
  all_goals omega
theorem ob_X2_allow_3_inv2_11 (st : St) (a1 : Int32) (a2 : Int32) (a3 : Int32) (a4 : Int32) (n_3 : Nat) (x5_3 : Int32) (hok : okC st) (hi0_3 : 0 ≤ x5_3.toInt) (hi1_3 : x5_3.toInt ≤ (st.1 4).toInt) (hi2_3 : (st.1 4).toInt < x5_3.toInt + (n_3 + 1)) (h9_1 : ¬ st.1 4 ≤ x5_3) (h20_3 : st.2.1 11 x5_3.toNatClampNeg = a2) (h33_8 : (sp_X2_covers st x5_3 a1 a3 a4) = 0) : (st.1 4).toInt < (x5_3 + 1).toInt + n_3 := by
  have z1 := okC_4 hok
  have z2 := (by decide : (0 : Int32).toInt = 0)
  have z3 := (by decide : (1 : Int32).toInt = 1)
  have z4 := (by decide : (4 : Int32).toInt = 4)
  have z5 := (by decide : (11 : Int32).toInt = 11)
  have z6 := inc_I x5_3
  clear h33_8 hok
  try simp only [sA_1, sL_1, sI_1, vp_in_iff, Int32.le_iff_toInt_le, Int32.lt_iff_toInt_lt, ← Int32.toInt_inj, reduceIte, Nat.reduceEqDiff] at *
  all_goals omega
theorem ob_X2_allow_3_inv0_12 (st : St) (a1 : Int32) (a2 : Int32) (a3 : Int32) (a4 : Int32) (hok : okC st) : 0 ≤ (0 : Int32).toInt := by
  have z1 := (by decide : (0 : Int32).toInt = 0)
  clear hok
  try simp only [sA_1, sL_1, sI_1, vp_in_iff, Int32.le_iff_toInt_le, Int32.lt_iff_toInt_lt, ← Int32.toInt_inj, reduceIte, Nat.reduceEqDiff] at *
  all_goals omega
theorem ob_X2_allow_3_inv1_13 (st : St) (a1 : Int32) (a2 : Int32) (a3 : Int32) (a4 : Int32) (hok : okC st) : (0 : Int32).toInt ≤ (st.1 4).toInt := by
  have z1 := okC_4 hok
  have z2 := (by decide : (0 : Int32).toInt = 0)
  have z3 := (by decide : (4 : Int32).toInt = 4)
  clear hok
  try simp only [sA_1, sL_1, sI_1, vp_in_iff, Int32.le_iff_toInt_le, Int32.lt_iff_toInt_lt, ← Int32.toInt_inj, reduceIte, Nat.reduceEqDiff] at *
  all_goals omega
theorem ob_X2_allow_3_inv2_14 (st : St) (a1 : Int32) (a2 : Int32) (a3 : Int32) (a4 : Int32) (hok : okC st) : (st.1 4).toInt < (0 : Int32).toInt + ((st.1 4).toInt.toNat + 1) := by
  have z1 := okC_4 hok
  have z2 := (by decide : (0 : Int32).toInt = 0)
  have z3 := (by decide : (1 : Int32).toInt = 1)
  have z4 := (by decide : (4 : Int32).toInt = 4)
  clear hok
  try simp only [sA_1, sL_1, sI_1, vp_in_iff, Int32.le_iff_toInt_le, Int32.lt_iff_toInt_lt, ← Int32.toInt_inj, reduceIte, Nat.reduceEqDiff] at *
  all_goals omega
theorem ob_X2_cover_3_zero (st : St) (a1 : Int32) (a2 : Int32) (a3 : Int32) (x4_3 : Int32) (hok : okC st) (hi0_3 : 0 ≤ x4_3.toInt) (hi1_3 : x4_3.toInt ≤ (st.1 4).toInt) (hi2_3 : (st.1 4).toInt < x4_3.toInt + 0) : False := by
  have z1 := okC_4 hok
  have z2 := (by decide : (0 : Int32).toInt = 0)
  have z3 := (by decide : (4 : Int32).toInt = 4)
  clear hok
  try simp only [sA_1, sL_1, sI_1, vp_in_iff, Int32.le_iff_toInt_le, Int32.lt_iff_toInt_lt, ← Int32.toInt_inj, reduceIte, Nat.reduceEqDiff] at *
  all_goals omega
theorem ob_X2_cover_18_2 (st : St) (a1 : Int32) (a2 : Int32) (a3 : Int32) (n_3 : Nat) (x4_3 : Int32) (hok : okC st) (hi0_3 : 0 ≤ x4_3.toInt) (hi1_3 : x4_3.toInt ≤ (st.1 4).toInt) (hi2_3 : (st.1 4).toInt < x4_3.toInt + (n_3 + 1)) (h9_1 : ¬ st.1 4 ≤ x4_3) : vp_in x4_3 20 := by
  have z1 := okC_4 hok
  have z2 := (by decide : (0 : Int32).toInt = 0)
  have z3 := (by decide : (1 : Int32).toInt = 1)
  have z4 := (by decide : (4 : Int32).toInt = 4)
  have z5 := (by decide : (20 : Int32).toInt = 20)
  clear hok
  try simp only [sA_1, sL_1, sI_1, vp_in_iff, Int32.le_iff_toInt_le, Int32.lt_iff_toInt_lt, ← Int32.toInt_inj, reduceIte, Nat.reduceEqDiff] at *
  all_goals omega
theorem ob_X2_cover_3_inv0_4 (st : St) (a1 : Int32) (a2 : Int32) (a3 : Int32) (n_3 : Nat) (x4_3 : Int32) (hok : okC st) (hi0_3 : 0 ≤ x4_3.toInt) (hi1_3 : x4_3.toInt ≤ (st.1 4).toInt) (hi2_3 : (st.1 4).toInt < x4_3.toInt + (n_3 + 1)) (h9_1 : ¬ st.1 4 ≤ x4_3) (h21_3 : (sp_X2_covers st x4_3 a1 a2 a3) = 0) : 0 ≤ (x4_3 + 1).toInt := by
  have z1 := okC_4 hok
  have z2 := (by decide : (0 : Int32).toInt = 0)
  have z3 := (by decide : (1 : Int32).toInt = 1)
  have z4 := (by decide : (4 : Int32).toInt = 4)
  have z5 := inc_I x4_3
  clear h21_3 hok
  try simp only [sA_1, sL_1, sI_1, vp_in_iff, Int32.le_iff_toInt_le, Int32.lt_iff_toInt_lt, ← Int32.toInt_inj, reduceIte, Nat.reduceEqDiff] at *
  all_goals omega
theorem ob_X2_cover_3_inv1_5 (st : St) (a1 : Int32) (a2 : Int32) (a3 : Int32) (n_3 : Nat) (x4_3 : Int32) (hok : okC st) (hi0_3 : 0 ≤ x4_3.toInt) (hi1_3 : x4_3.toInt ≤ (st.1 4).toInt) (hi2_3 : (st.1 4).toInt < x4_3.toInt + (n_3 + 1)) (h9_1 : ¬ st.1 4 ≤ x4_3) (h21_3 : (sp_X2_covers st x4_3 a1 a2 a3) = 0) : (x4_3 + 1).toInt ≤ (st.1 4).toInt := by
  have z1 := okC_4 hok
  have z2 := (by decide : (0 : Int32).toInt = 0)
  have z3 := (by decide : (1 : Int32).toInt = 1)
  have z4 := (by decide : (4 : Int32).toInt = 4)
  have z5 := inc_I x4_3
  clear h21_3 hok
  try simp only [sA_1, sL_1, sI_1, vp_in_iff, Int32.le_iff_toInt_le, Int32.lt_iff_toInt_lt, ← Int32.toInt_inj, reduceIte, Nat.reduceEqDiff] at *
  all_goals omega
theorem ob_X2_cover_3_inv2_6 (st : St) (a1 : Int32) (a2 : Int32) (a3 : Int32) (n_3 : Nat) (x4_3 : Int32) (hok : okC st) (hi0_3 : 0 ≤ x4_3.toInt) (hi1_3 : x4_3.toInt ≤ (st.1 4).toInt) (hi2_3 : (st.1 4).toInt < x4_3.toInt + (n_3 + 1)) (h9_1 : ¬ st.1 4 ≤ x4_3) (h21_3 : (sp_X2_covers st x4_3 a1 a2 a3) = 0) : (st.1 4).toInt < (x4_3 + 1).toInt + n_3 := by
  have z1 := okC_4 hok
  have z2 := (by decide : (0 : Int32).toInt = 0)
  have z3 := (by decide : (1 : Int32).toInt = 1)
  have z4 := (by decide : (4 : Int32).toInt = 4)
  have z5 := inc_I x4_3
  clear h21_3 hok
  try simp only [sA_1, sL_1, sI_1, vp_in_iff, Int32.le_iff_toInt_le, Int32.lt_iff_toInt_lt, ← Int32.toInt_inj, reduceIte, Nat.reduceEqDiff] at *
  all_goals omega
theorem ob_X2_cover_3_inv0_7 (st : St) (a1 : Int32) (a2 : Int32) (a3 : Int32) (hok : okC st) : 0 ≤ (0 : Int32).toInt := by
  have z1 := (by decide : (0 : Int32).toInt = 0)
  clear hok
  try simp only [sA_1, sL_1, sI_1, vp_in_iff, Int32.le_iff_toInt_le, Int32.lt_iff_toInt_lt, ← Int32.toInt_inj, reduceIte, Nat.reduceEqDiff] at *
  all_goals omega
theorem ob_X2_cover_3_inv1_8 (st : St) (a1 : Int32) (a2 : Int32) (a3 : Int32) (hok : okC st) : (0 : Int32).toInt ≤ (st.1 4).toInt := by
  have z1 := okC_4 hok
  have z2 := (by decide : (0 : Int32).toInt = 0)
  have z3 := (by decide : (4 : Int32).toInt = 4)
  clear hok
  try simp only [sA_1, sL_1, sI_1, vp_in_iff, Int32.le_iff_toInt_le, Int32.lt_iff_toInt_lt, ← Int32.toInt_inj, reduceIte, Nat.reduceEqDiff] at *
  all_goals omega
theorem ob_X2_cover_3_inv2_9 (st : St) (a1 : Int32) (a2 : Int32) (a3 : Int32) (hok : okC st) : (st.1 4).toInt < (0 : Int32).toInt + ((st.1 4).toInt.toNat + 1) := by
  have z1 := okC_4 hok
  have z2 := (by decide : (0 : Int32).toInt = 0)
  have z3 := (by decide : (1 : Int32).toInt = 1)
  have z4 := (by decide : (4 : Int32).toInt = 4)
  clear hok
  try simp only [sA_1, sL_1, sI_1, vp_in_iff, Int32.le_iff_toInt_le, Int32.lt_iff_toInt_lt, ← Int32.toInt_inj, reduceIte, Nat.reduceEqDiff] at *
  all_goals omega

theorem ob_X10_holdCovers_5_1 (st : St) (a1 : Int32) (a2 : Int32) (a3 : Int32) (hva1 : vp_in a1 30) (hva2 : vp_in a2 100) : vp_in a1 30 := by
  have z1 := (by decide : (30 : Int32).toInt = 30)
  clear hva2
  try simp only [sA_1, sL_1, sI_1, vp_in_iff, Int32.le_iff_toInt_le, Int32.lt_iff_toInt_lt, ← Int32.toInt_inj, reduceIte, Nat.reduceEqDiff] at *
  all_goals omega
theorem ob_X10_holdCovers_43_3 (st : St) (a1 : Int32) (a2 : Int32) (a3 : Int32) (hva1 : vp_in a1 30) (hva2 : vp_in a2 100) (h8_2 : 100 ≤ st.2.1 16 a1.toNatClampNeg) : vp_in a2 100 := by
  have z1 := (by decide : (100 : Int32).toInt = 100)
  clear hva1 h8_2
  try simp only [sA_1, sL_1, sI_1, vp_in_iff, Int32.le_iff_toInt_le, Int32.lt_iff_toInt_lt, ← Int32.toInt_inj, reduceIte, Nat.reduceEqDiff] at *
  all_goals omega
theorem ob_X10_holdCovers_49_4 (st : St) (a1 : Int32) (a2 : Int32) (a3 : Int32) (hva1 : vp_in a1 30) (hva2 : vp_in a2 100) (h8_2 : 100 ≤ st.2.1 16 a1.toNatClampNeg) : vp_in a1 30 := by
  have z1 := (by decide : (16 : Int32).toInt = 16)
  have z2 := (by decide : (30 : Int32).toInt = 30)
  have z3 := (by decide : (100 : Int32).toInt = 100)
  clear hva2
  try simp only [sA_1, sL_1, sI_1, vp_in_iff, Int32.le_iff_toInt_le, Int32.lt_iff_toInt_lt, ← Int32.toInt_inj, reduceIte, Nat.reduceEqDiff] at *
  all_goals omega
theorem ob_X10_holdCovers_74_6 (st : St) (a1 : Int32) (a2 : Int32) (a3 : Int32) (hva1 : vp_in a1 30) (hva2 : vp_in a2 100) (h8_2 : 100 ≤ st.2.1 16 a1.toNatClampNeg) (h53_5 : st.2.1 20 a2.toNatClampNeg = (st.2.1 16 a1.toNatClampNeg) - 100) : vp_in a1 30 := by
  have z1 := (by decide : (16 : Int32).toInt = 16)
  have z2 := (by decide : (20 : Int32).toInt = 20)
  have z3 := (by decide : (30 : Int32).toInt = 30)
  have z4 := (by decide : (100 : Int32).toInt = 100)
  clear hva2
  try simp only [sA_1, sL_1, sI_1, vp_in_iff, Int32.le_iff_toInt_le, Int32.lt_iff_toInt_lt, ← Int32.toInt_inj, reduceIte, Nat.reduceEqDiff] at *
  all_goals omega
theorem ob_X10_holdCovers_83_8 (st : St) (a1 : Int32) (a2 : Int32) (a3 : Int32) (hva1 : vp_in a1 30) (hva2 : vp_in a2 100) (h8_2 : 100 ≤ st.2.1 16 a1.toNatClampNeg) (h53_5 : st.2.1 20 a2.toNatClampNeg = (st.2.1 16 a1.toNatClampNeg) - 100) (h75_7 : ¬ a3 < st.2.1 18 a1.toNatClampNeg) : vp_in a1 30 := by
  have z1 := (by decide : (16 : Int32).toInt = 16)
  have z2 := (by decide : (18 : Int32).toInt = 18)
  have z3 := (by decide : (20 : Int32).toInt = 20)
  have z4 := (by decide : (30 : Int32).toInt = 30)
  have z5 := (by decide : (100 : Int32).toInt = 100)
  clear hva2
  try simp only [sA_1, sL_1, sI_1, vp_in_iff, Int32.le_iff_toInt_le, Int32.lt_iff_toInt_lt, ← Int32.toInt_inj, reduceIte, Nat.reduceEqDiff] at *
  all_goals omega
theorem ob_X10_holdCovers_93_10 (st : St) (a1 : Int32) (a2 : Int32) (a3 : Int32) (hva1 : vp_in a1 30) (hva2 : vp_in a2 100) (h8_2 : 100 ≤ st.2.1 16 a1.toNatClampNeg) (h53_5 : st.2.1 20 a2.toNatClampNeg = (st.2.1 16 a1.toNatClampNeg) - 100) (h75_7 : ¬ a3 < st.2.1 18 a1.toNatClampNeg) (h84_9 : ¬ st.2.1 19 a1.toNatClampNeg < 0) : vp_in a1 30 := by
  have z1 := (by decide : (0 : Int32).toInt = 0)
  have z2 := (by decide : (16 : Int32).toInt = 16)
  have z3 := (by decide : (18 : Int32).toInt = 18)
  have z4 := (by decide : (19 : Int32).toInt = 19)
  have z5 := (by decide : (20 : Int32).toInt = 20)
  have z6 := (by decide : (30 : Int32).toInt = 30)
  have z7 := (by decide : (100 : Int32).toInt = 100)
  clear hva2
  try simp only [sA_1, sL_1, sI_1, vp_in_iff, Int32.le_iff_toInt_le, Int32.lt_iff_toInt_lt, ← Int32.toInt_inj, reduceIte, Nat.reduceEqDiff] at *
  all_goals omega
theorem ob_X10_holdCovers_16_12 (st : St) (a1 : Int32) (a2 : Int32) (a3 : Int32) (hva1 : vp_in a1 30) (hva2 : vp_in a2 100) (h8_2 : ¬ 100 ≤ st.2.1 16 a1.toNatClampNeg) : vp_in a2 100 := by
  have z1 := (by decide : (100 : Int32).toInt = 100)
  clear hva1 h8_2
  try simp only [sA_1, sL_1, sI_1, vp_in_iff, Int32.le_iff_toInt_le, Int32.lt_iff_toInt_lt, ← Int32.toInt_inj, reduceIte, Nat.reduceEqDiff] at *
  all_goals omega
theorem ob_X10_holdCovers_22_13 (st : St) (a1 : Int32) (a2 : Int32) (a3 : Int32) (hva1 : vp_in a1 30) (hva2 : vp_in a2 100) (h8_2 : ¬ 100 ≤ st.2.1 16 a1.toNatClampNeg) : vp_in a1 30 := by
  have z1 := (by decide : (16 : Int32).toInt = 16)
  have z2 := (by decide : (30 : Int32).toInt = 30)
  have z3 := (by decide : (100 : Int32).toInt = 100)
  clear hva2
  try simp only [sA_1, sL_1, sI_1, vp_in_iff, Int32.le_iff_toInt_le, Int32.lt_iff_toInt_lt, ← Int32.toInt_inj, reduceIte, Nat.reduceEqDiff] at *
  all_goals omega
theorem ob_X10_holdCovers_74_15 (st : St) (a1 : Int32) (a2 : Int32) (a3 : Int32) (hva1 : vp_in a1 30) (hva2 : vp_in a2 100) (h8_2 : ¬ 100 ≤ st.2.1 16 a1.toNatClampNeg) (h27_14 : ((st.2.1 22 a2.toNatClampNeg) >>> ((st.2.1 16 a1.toNatClampNeg) &&& 31)) &&& 1 = 1) : vp_in a1 30 := by
  have z1 := (by decide : (1 : Int32).toInt = 1)
  have z2 := (by decide : (16 : Int32).toInt = 16)
  have z3 := (by decide : (22 : Int32).toInt = 22)
  have z4 := (by decide : (30 : Int32).toInt = 30)
  have z5 := (by decide : (31 : Int32).toInt = 31)
  have z6 := (by decide : (100 : Int32).toInt = 100)
  clear hva2
  try simp only [sA_1, sL_1, sI_1, vp_in_iff, Int32.le_iff_toInt_le, Int32.lt_iff_toInt_lt, ← Int32.toInt_inj, reduceIte, Nat.reduceEqDiff] at *
  all_goals omega
theorem ob_X10_holdCovers_83_17 (st : St) (a1 : Int32) (a2 : Int32) (a3 : Int32) (hva1 : vp_in a1 30) (hva2 : vp_in a2 100) (h8_2 : ¬ 100 ≤ st.2.1 16 a1.toNatClampNeg) (h27_14 : ((st.2.1 22 a2.toNatClampNeg) >>> ((st.2.1 16 a1.toNatClampNeg) &&& 31)) &&& 1 = 1) (h75_16 : ¬ a3 < st.2.1 18 a1.toNatClampNeg) : vp_in a1 30 := by
  have z1 := (by decide : (1 : Int32).toInt = 1)
  have z2 := (by decide : (16 : Int32).toInt = 16)
  have z3 := (by decide : (18 : Int32).toInt = 18)
  have z4 := (by decide : (22 : Int32).toInt = 22)
  have z5 := (by decide : (30 : Int32).toInt = 30)
  have z6 := (by decide : (31 : Int32).toInt = 31)
  have z7 := (by decide : (100 : Int32).toInt = 100)
  clear hva2
  try simp only [sA_1, sL_1, sI_1, vp_in_iff, Int32.le_iff_toInt_le, Int32.lt_iff_toInt_lt, ← Int32.toInt_inj, reduceIte, Nat.reduceEqDiff] at *
  all_goals omega
theorem ob_X10_holdCovers_93_19 (st : St) (a1 : Int32) (a2 : Int32) (a3 : Int32) (hva1 : vp_in a1 30) (hva2 : vp_in a2 100) (h8_2 : ¬ 100 ≤ st.2.1 16 a1.toNatClampNeg) (h27_14 : ((st.2.1 22 a2.toNatClampNeg) >>> ((st.2.1 16 a1.toNatClampNeg) &&& 31)) &&& 1 = 1) (h75_16 : ¬ a3 < st.2.1 18 a1.toNatClampNeg) (h84_18 : ¬ st.2.1 19 a1.toNatClampNeg < 0) : vp_in a1 30 := by
  have z1 := (by decide : (0 : Int32).toInt = 0)
  have z2 := (by decide : (1 : Int32).toInt = 1)
  have z3 := (by decide : (16 : Int32).toInt = 16)
  have z4 := (by decide : (18 : Int32).toInt = 18)
  have z5 := (by decide : (19 : Int32).toInt = 19)
  have z6 := (by decide : (22 : Int32).toInt = 22)
  have z7 := (by decide : (30 : Int32).toInt = 30)
  have z8 := (by decide : (31 : Int32).toInt = 31)
  have z9 := (by decide : (100 : Int32).toInt = 100)
  clear hva2
  try simp only [sA_1, sL_1, sI_1, vp_in_iff, Int32.le_iff_toInt_le, Int32.lt_iff_toInt_lt, ← Int32.toInt_inj, reduceIte, Nat.reduceEqDiff] at *
  all_goals omega
theorem ob_X10_dutyCovers_5_1 (st : St) (a1 : Int32) (a2 : Int32) (a3 : Int32) (hva1 : vp_in a1 20) (hva2 : vp_in a2 100) : vp_in a1 20 := by
  have z1 := (by decide : (20 : Int32).toInt = 20)
  clear hva2
  try simp only [sA_1, sL_1, sI_1, vp_in_iff, Int32.le_iff_toInt_le, Int32.lt_iff_toInt_lt, ← Int32.toInt_inj, reduceIte, Nat.reduceEqDiff] at *
  all_goals omega
theorem ob_X10_dutyCovers_11_2 (st : St) (a1 : Int32) (a2 : Int32) (a3 : Int32) (hva1 : vp_in a1 20) (hva2 : vp_in a2 100) : vp_in a2 100 := by
  have z1 := (by decide : (100 : Int32).toInt = 100)
  clear hva1
  try simp only [sA_1, sL_1, sI_1, vp_in_iff, Int32.le_iff_toInt_le, Int32.lt_iff_toInt_lt, ← Int32.toInt_inj, reduceIte, Nat.reduceEqDiff] at *
  all_goals omega
theorem ob_X10_dutyCovers_21_4 (st : St) (a1 : Int32) (a2 : Int32) (a3 : Int32) (hva1 : vp_in a1 20) (hva2 : vp_in a2 100) (h12_3 : st.2.1 10 a1.toNatClampNeg = st.2.1 20 a2.toNatClampNeg) : vp_in a2 100 := by
  have z1 := (by decide : (10 : Int32).toInt = 10)
  have z2 := (by decide : (20 : Int32).toInt = 20)
  have z3 := (by decide : (100 : Int32).toInt = 100)
  clear hva1
  try simp only [sA_1, sL_1, sI_1, vp_in_iff, Int32.le_iff_toInt_le, Int32.lt_iff_toInt_lt, ← Int32.toInt_inj, reduceIte, Nat.reduceEqDiff] at *
  all_goals omega
theorem ob_X10_dutyCovers_31_6 (st : St) (a1 : Int32) (a2 : Int32) (a3 : Int32) (hva1 : vp_in a1 20) (hva2 : vp_in a2 100) (h12_3 : st.2.1 10 a1.toNatClampNeg = st.2.1 20 a2.toNatClampNeg) (h22_5 : ¬ a3 < st.2.1 21 a2.toNatClampNeg) : vp_in a2 100 := by
  have z1 := (by decide : (10 : Int32).toInt = 10)
  have z2 := (by decide : (20 : Int32).toInt = 20)
  have z3 := (by decide : (21 : Int32).toInt = 21)
  have z4 := (by decide : (100 : Int32).toInt = 100)
  clear hva1
  try simp only [sA_1, sL_1, sI_1, vp_in_iff, Int32.le_iff_toInt_le, Int32.lt_iff_toInt_lt, ← Int32.toInt_inj, reduceIte, Nat.reduceEqDiff] at *
  all_goals omega
theorem ob_X10_dutyCovers_37_7 (st : St) (a1 : Int32) (a2 : Int32) (a3 : Int32) (hva1 : vp_in a1 20) (hva2 : vp_in a2 100) (h12_3 : st.2.1 10 a1.toNatClampNeg = st.2.1 20 a2.toNatClampNeg) (h22_5 : ¬ a3 < st.2.1 21 a2.toNatClampNeg) : vp_in a1 20 := by
  have z1 := (by decide : (10 : Int32).toInt = 10)
  have z2 := (by decide : (20 : Int32).toInt = 20)
  clear hva2 h22_5
  try simp only [sA_1, sL_1, sI_1, vp_in_iff, Int32.le_iff_toInt_le, Int32.lt_iff_toInt_lt, ← Int32.toInt_inj, reduceIte, Nat.reduceEqDiff] at *
  all_goals omega
theorem ob_X10_isAtOrAbove_2_zero (st : St) (a1 : Int32) (a2 : Int32) (x3_2 : Int32) (hok : okM st) (hpa : 0 ≤ a2.toInt) (hpb : a2.toInt < 16) (hi0_2 : -1 ≤ x3_2.toInt) (hi1_2 : x3_2.toInt < 16) (hi2_2 : x3_2.toInt + 1 < 0) : False := by
  have z1 := (by decide : (0 : Int32).toInt = 0)
  have z2 := (by decide : (1 : Int32).toInt = 1)
  have z3 := (by decide : (16 : Int32).toInt = 16)
  have z4 := (by decide : (-1 : Int32).toInt = -1)
  clear hok
  try simp only [sA_1, sL_1, sI_1, vp_in_iff, Int32.le_iff_toInt_le, Int32.lt_iff_toInt_lt, ← Int32.toInt_inj, reduceIte, Nat.reduceEqDiff] at *
  all_goals omega
theorem ob_X10_isAtOrAbove_16_5 (st : St) (a1 : Int32) (a2 : Int32) (n_2 : Nat) (x3_2 : Int32) (hok : okM st) (hpa : 0 ≤ a2.toInt) (hpb : a2.toInt < 16) (hi0_2 : -1 ≤ x3_2.toInt) (hi1_2 : x3_2.toInt < 16) (hi2_2 : x3_2.toInt + 1 < (n_2 + 1)) (h3_1 : ¬ x3_2 < 0) (h8_3 : ¬ x3_2 = a1) : vp_in x3_2 16 := by
  have z1 := (by decide : (0 : Int32).toInt = 0)
  have z2 := (by decide : (1 : Int32).toInt = 1)
  have z3 := (by decide : (16 : Int32).toInt = 16)
  have z4 := (by decide : (-1 : Int32).toInt = -1)
  clear hpa hpb hok
  try simp only [sA_1, sL_1, sI_1, vp_in_iff, Int32.le_iff_toInt_le, Int32.lt_iff_toInt_lt, ← Int32.toInt_inj, reduceIte, Nat.reduceEqDiff] at *
  all_goals omega
theorem ob_X10_isAtOrAbove_2_inv0_6 (st : St) (a1 : Int32) (a2 : Int32) (n_2 : Nat) (x3_2 : Int32) (hok : okM st) (hpa : 0 ≤ a2.toInt) (hpb : a2.toInt < 16) (hi0_2 : -1 ≤ x3_2.toInt) (hi1_2 : x3_2.toInt < 16) (hi2_2 : x3_2.toInt + 1 < (n_2 + 1)) (h3_1 : ¬ x3_2 < 0) (h8_3 : ¬ x3_2 = a1) : -1 ≤ (st.2.1 0 x3_2.toNatClampNeg).toInt := by
  have z1 := okM_0 hok
  have z2 := okM_par hok x3_2.toNatClampNeg
  have z3 := clamp_I x3_2
  have z4 := (by decide : (0 : Int32).toInt = 0)
  have z5 := (by decide : (1 : Int32).toInt = 1)
  have z6 := (by decide : (16 : Int32).toInt = 16)
  have z7 := (by decide : (-1 : Int32).toInt = -1)
  clear hpa hpb hok
  try simp only [sA_1, sL_1, sI_1, vp_in_iff, Int32.le_iff_toInt_le, Int32.lt_iff_toInt_lt, ← Int32.toInt_inj, reduceIte, Nat.reduceEqDiff] at *
  all_goals omega
theorem ob_X10_isAtOrAbove_2_inv1_7 (st : St) (a1 : Int32) (a2 : Int32) (n_2 : Nat) (x3_2 : Int32) (hok : okM st) (hpa : 0 ≤ a2.toInt) (hpb : a2.toInt < 16) (hi0_2 : -1 ≤ x3_2.toInt) (hi1_2 : x3_2.toInt < 16) (hi2_2 : x3_2.toInt + 1 < (n_2 + 1)) (h3_1 : ¬ x3_2 < 0) (h8_3 : ¬ x3_2 = a1) : (st.2.1 0 x3_2.toNatClampNeg).toInt < 16 := by
  have z1 := okM_0 hok
  have z2 := okM_par hok x3_2.toNatClampNeg
  have z3 := clamp_I x3_2
  have z4 := (by decide : (0 : Int32).toInt = 0)
  have z5 := (by decide : (1 : Int32).toInt = 1)
  have z6 := (by decide : (16 : Int32).toInt = 16)
  have z7 := (by decide : (-1 : Int32).toInt = -1)
  clear hpa hpb hok
  try simp only [sA_1, sL_1, sI_1, vp_in_iff, Int32.le_iff_toInt_le, Int32.lt_iff_toInt_lt, ← Int32.toInt_inj, reduceIte, Nat.reduceEqDiff] at *
  all_goals omega
theorem ob_X10_isAtOrAbove_2_inv2_8 (st : St) (a1 : Int32) (a2 : Int32) (n_2 : Nat) (x3_2 : Int32) (hok : okM st) (hpa : 0 ≤ a2.toInt) (hpb : a2.toInt < 16) (hi0_2 : -1 ≤ x3_2.toInt) (hi1_2 : x3_2.toInt < 16) (hi2_2 : x3_2.toInt + 1 < (n_2 + 1)) (h3_1 : ¬ x3_2 < 0) (h8_3 : ¬ x3_2 = a1) : (st.2.1 0 x3_2.toNatClampNeg).toInt + 1 < n_2 := by
  have z1 := okM_0 hok
  have z2 := okM_par hok x3_2.toNatClampNeg
  have z3 := clamp_I x3_2
  have z4 := (by decide : (0 : Int32).toInt = 0)
  have z5 := (by decide : (1 : Int32).toInt = 1)
  have z6 := (by decide : (16 : Int32).toInt = 16)
  have z7 := (by decide : (-1 : Int32).toInt = -1)
  clear hpa hpb hok
  try simp only [sA_1, sL_1, sI_1, vp_in_iff, Int32.le_iff_toInt_le, Int32.lt_iff_toInt_lt, ← Int32.toInt_inj, reduceIte, Nat.reduceEqDiff] at *
  all_goals omega
theorem ob_X10_isAtOrAbove_2_inv0_9 (st : St) (a1 : Int32) (a2 : Int32) (hok : okM st) (hpa : 0 ≤ a2.toInt) (hpb : a2.toInt < 16) : -1 ≤ a2.toInt := by
  have z1 := (by decide : (0 : Int32).toInt = 0)
  have z2 := (by decide : (1 : Int32).toInt = 1)
  have z3 := (by decide : (16 : Int32).toInt = 16)
  have z4 := (by decide : (-1 : Int32).toInt = -1)
  clear hok
  try simp only [sA_1, sL_1, sI_1, vp_in_iff, Int32.le_iff_toInt_le, Int32.lt_iff_toInt_lt, ← Int32.toInt_inj, reduceIte, Nat.reduceEqDiff] at *
  all_goals omega
theorem ob_X10_isAtOrAbove_2_inv1_10 (st : St) (a1 : Int32) (a2 : Int32) (hok : okM st) (hpa : 0 ≤ a2.toInt) (hpb : a2.toInt < 16) : a2.toInt < 16 := by
  have z1 := (by decide : (0 : Int32).toInt = 0)
  have z2 := (by decide : (16 : Int32).toInt = 16)
  clear hok
  try simp only [sA_1, sL_1, sI_1, vp_in_iff, Int32.le_iff_toInt_le, Int32.lt_iff_toInt_lt, ← Int32.toInt_inj, reduceIte, Nat.reduceEqDiff] at *
  all_goals omega
theorem ob_X10_isAtOrAbove_2_inv2_11 (st : St) (a1 : Int32) (a2 : Int32) (hok : okM st) (hpa : 0 ≤ a2.toInt) (hpb : a2.toInt < 16) : a2.toInt + 1 < 18 := by
  have z1 := (by decide : (0 : Int32).toInt = 0)
  have z2 := (by decide : (1 : Int32).toInt = 1)
  have z3 := (by decide : (16 : Int32).toInt = 16)
  have z4 := (by decide : (18 : Int32).toInt = 18)
  clear hok
  try simp only [sA_1, sL_1, sI_1, vp_in_iff, Int32.le_iff_toInt_le, Int32.lt_iff_toInt_lt, ← Int32.toInt_inj, reduceIte, Nat.reduceEqDiff] at *
  all_goals omega
theorem ob_X10_saysYes_3_zero (st : St) (a1 : Int32) (a2 : Int32) (a3 : Int32) (x4_3 : Int32) (hok : okM st) (hpa : 0 ≤ a2.toInt) (hpb : a2.toInt < 16) (hi0_3 : -1 ≤ x4_3.toInt) (hi1_3 : x4_3.toInt < 16) (hi2_3 : x4_3.toInt + 1 < 0) : False := by
  have z1 := (by decide : (0 : Int32).toInt = 0)
  have z2 := (by decide : (1 : Int32).toInt = 1)
  have z3 := (by decide : (16 : Int32).toInt = 16)
  have z4 := (by decide : (-1 : Int32).toInt = -1)
  clear hok
  try simp only [sA_1, sL_1, sI_1, vp_in_iff, Int32.le_iff_toInt_le, Int32.lt_iff_toInt_lt, ← Int32.toInt_inj, reduceIte, Nat.reduceEqDiff] at *
  all_goals omega
theorem ob_X10_saysYes_14_zero (st : St) (a1 : Int32) (a2 : Int32) (a3 : Int32) (n_3 : Nat) (x4_3 : Int32) (x6_14 : Int32) (x5_14 : Int32) (hok : okM st) (hpa : 0 ≤ a2.toInt) (hpb : a2.toInt < 16) (hi0_3 : -1 ≤ x4_3.toInt) (hi1_3 : x4_3.toInt < 16) (hi2_3 : x4_3.toInt + 1 < (n_3 + 1)) (h5_1 : ¬ x4_3 < 0) (hi0_14 : 0 ≤ x6_14.toInt) (hi1_14 : x6_14.toInt ≤ (st.1 2).toInt) (hi2_14 : (st.1 2).toInt < x6_14.toInt + 0) (hi3_14 : -1 ≤ x5_14.toInt) (hi4_14 : x5_14.toInt < (st.1 2).toInt) : False := by
  have z1 := okM_2 hok
  have z2 := (by decide : (0 : Int32).toInt = 0)
  have z3 := (by decide : (1 : Int32).toInt = 1)
  have z4 := (by decide : (2 : Int32).toInt = 2)
  have z5 := (by decide : (16 : Int32).toInt = 16)
  have z6 := (by decide : (-1 : Int32).toInt = -1)
  clear hok
  try simp only [sA_1, sL_1, sI_1, vp_in_iff, Int32.le_iff_toInt_le, Int32.lt_iff_toInt_lt, ← Int32.toInt_inj, reduceIte, Nat.reduceEqDiff] at *
  all_goals omega
theorem ob_X10_saysYes_120_4 (st : St) (a1 : Int32) (a2 : Int32) (a3 : Int32) (n_3 : Nat) (x4_3 : Int32) (n_14 : Nat) (x6_14 : Int32) (x5_14 : Int32) (hok : okM st) (hpa : 0 ≤ a2.toInt) (hpb : a2.toInt < 16) (hi0_3 : -1 ≤ x4_3.toInt) (hi1_3 : x4_3.toInt < 16) (hi2_3 : x4_3.toInt + 1 < (n_3 + 1)) (h5_1 : ¬ x4_3 < 0) (hi0_14 : 0 ≤ x6_14.toInt) (hi1_14 : x6_14.toInt ≤ (st.1 2).toInt) (hi2_14 : (st.1 2).toInt < x6_14.toInt + (n_14 + 1)) (hi3_14 : -1 ≤ x5_14.toInt) (hi4_14 : x5_14.toInt < (st.1 2).toInt) (h20_2 : st.1 2 ≤ x6_14) (h103_3 : x5_14 < 0) : vp_in x4_3 16 := by
  have z1 := (by decide : (0 : Int32).toInt = 0)
  have z2 := (by decide : (1 : Int32).toInt = 1)
  have z3 := (by decide : (16 : Int32).toInt = 16)
  have z4 := (by decide : (-1 : Int32).toInt = -1)
  clear hpa hpb hi0_14 hi1_14 hi2_14 hi3_14 hi4_14 h20_2 h103_3 hok
  try simp only [sA_1, sL_1, sI_1, vp_in_iff, Int32.le_iff_toInt_le, Int32.lt_iff_toInt_lt, ← Int32.toInt_inj, reduceIte, Nat.reduceEqDiff] at *
  all_goals omega
theorem ob_X10_saysYes_3_inv0_5 (st : St) (a1 : Int32) (a2 : Int32) (a3 : Int32) (n_3 : Nat) (x4_3 : Int32) (n_14 : Nat) (x6_14 : Int32) (x5_14 : Int32) (hok : okM st) (hpa : 0 ≤ a2.toInt) (hpb : a2.toInt < 16) (hi0_3 : -1 ≤ x4_3.toInt) (hi1_3 : x4_3.toInt < 16) (hi2_3 : x4_3.toInt + 1 < (n_3 + 1)) (h5_1 : ¬ x4_3 < 0) (hi0_14 : 0 ≤ x6_14.toInt) (hi1_14 : x6_14.toInt ≤ (st.1 2).toInt) (hi2_14 : (st.1 2).toInt < x6_14.toInt + (n_14 + 1)) (hi3_14 : -1 ≤ x5_14.toInt) (hi4_14 : x5_14.toInt < (st.1 2).toInt) (h20_2 : st.1 2 ≤ x6_14) (h103_3 : x5_14 < 0) : -1 ≤ (st.2.1 0 x4_3.toNatClampNeg).toInt := by
  have z1 := okM_0 hok
  have z2 := okM_par hok x4_3.toNatClampNeg
  have z3 := clamp_I x4_3
  have z4 := (by decide : (0 : Int32).toInt = 0)
  have z5 := (by decide : (1 : Int32).toInt = 1)
  have z6 := (by decide : (16 : Int32).toInt = 16)
  have z7 := (by decide : (-1 : Int32).toInt = -1)
  clear hpa hpb hi0_14 hi1_14 hi2_14 hi3_14 hi4_14 h20_2 h103_3 hok
  try simp only [sA_1, sL_1, sI_1, vp_in_iff, Int32.le_iff_toInt_le, Int32.lt_iff_toInt_lt, ← Int32.toInt_inj, reduceIte, Nat.reduceEqDiff] at *
  all_goals omega
theorem ob_X10_saysYes_3_inv1_6 (st : St) (a1 : Int32) (a2 : Int32) (a3 : Int32) (n_3 : Nat) (x4_3 : Int32) (n_14 : Nat) (x6_14 : Int32) (x5_14 : Int32) (hok : okM st) (hpa : 0 ≤ a2.toInt) (hpb : a2.toInt < 16) (hi0_3 : -1 ≤ x4_3.toInt) (hi1_3 : x4_3.toInt < 16) (hi2_3 : x4_3.toInt + 1 < (n_3 + 1)) (h5_1 : ¬ x4_3 < 0) (hi0_14 : 0 ≤ x6_14.toInt) (hi1_14 : x6_14.toInt ≤ (st.1 2).toInt) (hi2_14 : (st.1 2).toInt < x6_14.toInt + (n_14 + 1)) (hi3_14 : -1 ≤ x5_14.toInt) (hi4_14 : x5_14.toInt < (st.1 2).toInt) (h20_2 : st.1 2 ≤ x6_14) (h103_3 : x5_14 < 0) : (st.2.1 0 x4_3.toNatClampNeg).toInt < 16 := by
  have z1 := okM_0 hok
  have z2 := okM_par hok x4_3.toNatClampNeg
  have z3 := clamp_I x4_3
  have z4 := (by decide : (0 : Int32).toInt = 0)
  have z5 := (by decide : (1 : Int32).toInt = 1)
  have z6 := (by decide : (16 : Int32).toInt = 16)
  have z7 := (by decide : (-1 : Int32).toInt = -1)
  clear hpa hpb hi0_14 hi1_14 hi2_14 hi3_14 hi4_14 h20_2 h103_3 hok
  try simp only [sA_1, sL_1, sI_1, vp_in_iff, Int32.le_iff_toInt_le, Int32.lt_iff_toInt_lt, ← Int32.toInt_inj, reduceIte, Nat.reduceEqDiff] at *
  all_goals omega
theorem ob_X10_saysYes_3_inv2_7 (st : St) (a1 : Int32) (a2 : Int32) (a3 : Int32) (n_3 : Nat) (x4_3 : Int32) (n_14 : Nat) (x6_14 : Int32) (x5_14 : Int32) (hok : okM st) (hpa : 0 ≤ a2.toInt) (hpb : a2.toInt < 16) (hi0_3 : -1 ≤ x4_3.toInt) (hi1_3 : x4_3.toInt < 16) (hi2_3 : x4_3.toInt + 1 < (n_3 + 1)) (h5_1 : ¬ x4_3 < 0) (hi0_14 : 0 ≤ x6_14.toInt) (hi1_14 : x6_14.toInt ≤ (st.1 2).toInt) (hi2_14 : (st.1 2).toInt < x6_14.toInt + (n_14 + 1)) (hi3_14 : -1 ≤ x5_14.toInt) (hi4_14 : x5_14.toInt < (st.1 2).toInt) (h20_2 : st.1 2 ≤ x6_14) (h103_3 : x5_14 < 0) : (st.2.1 0 x4_3.toNatClampNeg).toInt + 1 < n_3 := by
  have z1 := okM_0 hok
  have z2 := okM_par hok x4_3.toNatClampNeg
  have z3 := clamp_I x4_3
  have z4 := (by decide : (0 : Int32).toInt = 0)
  have z5 := (by decide : (1 : Int32).toInt = 1)
  have z6 := (by decide : (16 : Int32).toInt = 16)
  have z7 := (by decide : (-1 : Int32).toInt = -1)
  clear hpa hpb hi0_14 hi1_14 hi2_14 hi3_14 hi4_14 h20_2 h103_3 hok
  try simp only [sA_1, sL_1, sI_1, vp_in_iff, Int32.le_iff_toInt_le, Int32.lt_iff_toInt_lt, ← Int32.toInt_inj, reduceIte, Nat.reduceEqDiff] at *
  all_goals omega
theorem ob_X10_saysYes_112_8 (st : St) (a1 : Int32) (a2 : Int32) (a3 : Int32) (n_3 : Nat) (x4_3 : Int32) (n_14 : Nat) (x6_14 : Int32) (x5_14 : Int32) (hok : okM st) (hpa : 0 ≤ a2.toInt) (hpb : a2.toInt < 16) (hi0_3 : -1 ≤ x4_3.toInt) (hi1_3 : x4_3.toInt < 16) (hi2_3 : x4_3.toInt + 1 < (n_3 + 1)) (h5_1 : ¬ x4_3 < 0) (hi0_14 : 0 ≤ x6_14.toInt) (hi1_14 : x6_14.toInt ≤ (st.1 2).toInt) (hi2_14 : (st.1 2).toInt < x6_14.toInt + (n_14 + 1)) (hi3_14 : -1 ≤ x5_14.toInt) (hi4_14 : x5_14.toInt < (st.1 2).toInt) (h20_2 : st.1 2 ≤ x6_14) (h103_3 : ¬ x5_14 < 0) : vp_in x5_14 100 := by
  have z1 := okM_2 hok
  have z2 := (by decide : (0 : Int32).toInt = 0)
  have z3 := (by decide : (1 : Int32).toInt = 1)
  have z4 := (by decide : (2 : Int32).toInt = 2)
  have z5 := (by decide : (100 : Int32).toInt = 100)
  have z6 := (by decide : (-1 : Int32).toInt = -1)
  clear hpa hpb hi0_3 hi1_3 hi2_3 h5_1 hi0_14 hi1_14 hi2_14 h20_2 hok
  try simp only [sA_1, sL_1, sI_1, vp_in_iff, Int32.le_iff_toInt_le, Int32.lt_iff_toInt_lt, ← Int32.toInt_inj, reduceIte, Nat.reduceEqDiff] at *
  all_goals omega
theorem ob_X10_saysYes_29_9 (st : St) (a1 : Int32) (a2 : Int32) (a3 : Int32) (n_3 : Nat) (x4_3 : Int32) (n_14 : Nat) (x6_14 : Int32) (x5_14 : Int32) (hok : okM st) (hpa : 0 ≤ a2.toInt) (hpb : a2.toInt < 16) (hi0_3 : -1 ≤ x4_3.toInt) (hi1_3 : x4_3.toInt < 16) (hi2_3 : x4_3.toInt + 1 < (n_3 + 1)) (h5_1 : ¬ x4_3 < 0) (hi0_14 : 0 ≤ x6_14.toInt) (hi1_14 : x6_14.toInt ≤ (st.1 2).toInt) (hi2_14 : (st.1 2).toInt < x6_14.toInt + (n_14 + 1)) (hi3_14 : -1 ≤ x5_14.toInt) (hi4_14 : x5_14.toInt < (st.1 2).toInt) (h20_2 : ¬ st.1 2 ≤ x6_14) : vp_in x6_14 100 := by
  have z1 := okM_2 hok
  have z2 := (by decide : (0 : Int32).toInt = 0)
  have z3 := (by decide : (1 : Int32).toInt = 1)
  have z4 := (by decide : (2 : Int32).toInt = 2)
  have z5 := (by decide : (100 : Int32).toInt = 100)
  clear hpa hpb hi0_3 hi1_3 hi2_3 h5_1 hi3_14 hi4_14 hok
  try simp only [sA_1, sL_1, sI_1, vp_in_iff, Int32.le_iff_toInt_le, Int32.lt_iff_toInt_lt, ← Int32.toInt_inj, reduceIte, Nat.reduceEqDiff] at *
  all_goals omega
theorem ob_X10_saysYes_14_inv0_11 (st : St) (a1 : Int32) (a2 : Int32) (a3 : Int32) (n_3 : Nat) (x4_3 : Int32) (n_14 : Nat) (x6_14 : Int32) (x5_14 : Int32) (hok : okM st) (hpa : 0 ≤ a2.toInt) (hpb : a2.toInt < 16) (hi0_3 : -1 ≤ x4_3.toInt) (hi1_3 : x4_3.toInt < 16) (hi2_3 : x4_3.toInt + 1 < (n_3 + 1)) (h5_1 : ¬ x4_3 < 0) (hi0_14 : 0 ≤ x6_14.toInt) (hi1_14 : x6_14.toInt ≤ (st.1 2).toInt) (hi2_14 : (st.1 2).toInt < x6_14.toInt + (n_14 + 1)) (hi3_14 : -1 ≤ x5_14.toInt) (hi4_14 : x5_14.toInt < (st.1 2).toInt) (h20_2 : ¬ st.1 2 ≤ x6_14) (h31_10 : ¬ st.2.1 2 x6_14.toNatClampNeg = a1) : 0 ≤ (x6_14 + 1).toInt := by
  have z1 := okM_2 hok
  have z2 := (by decide : (0 : Int32).toInt = 0)
  have z3 := (by decide : (1 : Int32).toInt = 1)
  have z4 := (by decide : (2 : Int32).toInt = 2)
  have z5 := inc_I x6_14
  clear hpa hpb hi0_3 hi1_3 hi2_3 h5_1 hi3_14 hi4_14 hok
  try simp only [sA_1, sL_1, sI_1, vp_in_iff, Int32.le_iff_toInt_le, Int32.lt_iff_toInt_lt, ← Int32.toInt_inj, reduceIte, Nat.reduceEqDiff] at *
  all_goals omega
theorem ob_X10_saysYes_14_inv1_12 (st : St) (a1 : Int32) (a2 : Int32) (a3 : Int32) (n_3 : Nat) (x4_3 : Int32) (n_14 : Nat) (x6_14 : Int32) (x5_14 : Int32) (hok : okM st) (hpa : 0 ≤ a2.toInt) (hpb : a2.toInt < 16) (hi0_3 : -1 ≤ x4_3.toInt) (hi1_3 : x4_3.toInt < 16) (hi2_3 : x4_3.toInt + 1 < (n_3 + 1)) (h5_1 : ¬ x4_3 < 0) (hi0_14 : 0 ≤ x6_14.toInt) (hi1_14 : x6_14.toInt ≤ (st.1 2).toInt) (hi2_14 : (st.1 2).toInt < x6_14.toInt + (n_14 + 1)) (hi3_14 : -1 ≤ x5_14.toInt) (hi4_14 : x5_14.toInt < (st.1 2).toInt) (h20_2 : ¬ st.1 2 ≤ x6_14) (h31_10 : ¬ st.2.1 2 x6_14.toNatClampNeg = a1) : (x6_14 + 1).toInt ≤ (st.1 2).toInt := by
  have z1 := okM_2 hok
  have z2 := (by decide : (0 : Int32).toInt = 0)
  have z3 := (by decide : (1 : Int32).toInt = 1)
  have z4 := (by decide : (2 : Int32).toInt = 2)
  have z5 := inc_I x6_14
  clear hpa hpb hi0_3 hi1_3 hi2_3 h5_1 hi3_14 hok
  try simp only [sA_1, sL_1, sI_1, vp_in_iff, Int32.le_iff_toInt_le, Int32.lt_iff_toInt_lt, ← Int32.toInt_inj, reduceIte, Nat.reduceEqDiff] at *
  all_goals omega
theorem ob_X10_saysYes_14_inv2_13 (st : St) (a1 : Int32) (a2 : Int32) (a3 : Int32) (n_3 : Nat) (x4_3 : Int32) (n_14 : Nat) (x6_14 : Int32) (x5_14 : Int32) (hok : okM st) (hpa : 0 ≤ a2.toInt) (hpb : a2.toInt < 16) (hi0_3 : -1 ≤ x4_3.toInt) (hi1_3 : x4_3.toInt < 16) (hi2_3 : x4_3.toInt + 1 < (n_3 + 1)) (h5_1 : ¬ x4_3 < 0) (hi0_14 : 0 ≤ x6_14.toInt) (hi1_14 : x6_14.toInt ≤ (st.1 2).toInt) (hi2_14 : (st.1 2).toInt < x6_14.toInt + (n_14 + 1)) (hi3_14 : -1 ≤ x5_14.toInt) (hi4_14 : x5_14.toInt < (st.1 2).toInt) (h20_2 : ¬ st.1 2 ≤ x6_14) (h31_10 : ¬ st.2.1 2 x6_14.toNatClampNeg = a1) : (st.1 2).toInt < (x6_14 + 1).toInt + n_14 := by
  have z1 := okM_2 hok
  have z2 := (by decide : (0 : Int32).toInt = 0)
  have z3 := (by decide : (1 : Int32).toInt = 1)
  have z4 := (by decide : (2 : Int32).toInt = 2)
  have z5 := inc_I x6_14
  clear hpa hpb hi0_3 hi1_3 hi2_3 h5_1 hi3_14 hok
  try simp only [sA_1, sL_1, sI_1, vp_in_iff, Int32.le_iff_toInt_le, Int32.lt_iff_toInt_lt, ← Int32.toInt_inj, reduceIte, Nat.reduceEqDiff] at *
  all_goals omega
theorem ob_X10_saysYes_14_inv3_14 (st : St) (a1 : Int32) (a2 : Int32) (a3 : Int32) (n_3 : Nat) (x4_3 : Int32) (n_14 : Nat) (x6_14 : Int32) (x5_14 : Int32) (hok : okM st) (hpa : 0 ≤ a2.toInt) (hpb : a2.toInt < 16) (hi0_3 : -1 ≤ x4_3.toInt) (hi1_3 : x4_3.toInt < 16) (hi2_3 : x4_3.toInt + 1 < (n_3 + 1)) (h5_1 : ¬ x4_3 < 0) (hi0_14 : 0 ≤ x6_14.toInt) (hi1_14 : x6_14.toInt ≤ (st.1 2).toInt) (hi2_14 : (st.1 2).toInt < x6_14.toInt + (n_14 + 1)) (hi3_14 : -1 ≤ x5_14.toInt) (hi4_14 : x5_14.toInt < (st.1 2).toInt) (h20_2 : ¬ st.1 2 ≤ x6_14) (h31_10 : ¬ st.2.1 2 x6_14.toNatClampNeg = a1) : -1 ≤ x5_14.toInt := by
  have z1 := okM_2 hok
  have z2 := (by decide : (1 : Int32).toInt = 1)
  have z3 := (by decide : (2 : Int32).toInt = 2)
  have z4 := (by decide : (-1 : Int32).toInt = -1)
  clear hpa hpb hi0_3 hi1_3 hi2_3 h5_1 hi0_14 hi1_14 hi2_14 h20_2 h31_10 hok
  try simp only [sA_1, sL_1, sI_1, vp_in_iff, Int32.le_iff_toInt_le, Int32.lt_iff_toInt_lt, ← Int32.toInt_inj, reduceIte, Nat.reduceEqDiff] at *
  all_goals omega
theorem ob_X10_saysYes_14_inv4_15 (st : St) (a1 : Int32) (a2 : Int32) (a3 : Int32) (n_3 : Nat) (x4_3 : Int32) (n_14 : Nat) (x6_14 : Int32) (x5_14 : Int32) (hok : okM st) (hpa : 0 ≤ a2.toInt) (hpb : a2.toInt < 16) (hi0_3 : -1 ≤ x4_3.toInt) (hi1_3 : x4_3.toInt < 16) (hi2_3 : x4_3.toInt + 1 < (n_3 + 1)) (h5_1 : ¬ x4_3 < 0) (hi0_14 : 0 ≤ x6_14.toInt) (hi1_14 : x6_14.toInt ≤ (st.1 2).toInt) (hi2_14 : (st.1 2).toInt < x6_14.toInt + (n_14 + 1)) (hi3_14 : -1 ≤ x5_14.toInt) (hi4_14 : x5_14.toInt < (st.1 2).toInt) (h20_2 : ¬ st.1 2 ≤ x6_14) (h31_10 : ¬ st.2.1 2 x6_14.toNatClampNeg = a1) : x5_14.toInt < (st.1 2).toInt := by
  have z1 := okM_2 hok
  have z2 := (by decide : (1 : Int32).toInt = 1)
  have z3 := (by decide : (2 : Int32).toInt = 2)
  have z4 := (by decide : (-1 : Int32).toInt = -1)
  clear hpa hpb hi0_3 hi1_3 hi2_3 h5_1 hi0_14 hok
  try simp only [sA_1, sL_1, sI_1, vp_in_iff, Int32.le_iff_toInt_le, Int32.lt_iff_toInt_lt, ← Int32.toInt_inj, reduceIte, Nat.reduceEqDiff] at *
  all_goals omega
theorem ob_X10_saysYes_40_16 (st : St) (a1 : Int32) (a2 : Int32) (a3 : Int32) (n_3 : Nat) (x4_3 : Int32) (n_14 : Nat) (x6_14 : Int32) (x5_14 : Int32) (hok : okM st) (hpa : 0 ≤ a2.toInt) (hpb : a2.toInt < 16) (hi0_3 : -1 ≤ x4_3.toInt) (hi1_3 : x4_3.toInt < 16) (hi2_3 : x4_3.toInt + 1 < (n_3 + 1)) (h5_1 : ¬ x4_3 < 0) (hi0_14 : 0 ≤ x6_14.toInt) (hi1_14 : x6_14.toInt ≤ (st.1 2).toInt) (hi2_14 : (st.1 2).toInt < x6_14.toInt + (n_14 + 1)) (hi3_14 : -1 ≤ x5_14.toInt) (hi4_14 : x5_14.toInt < (st.1 2).toInt) (h20_2 : ¬ st.1 2 ≤ x6_14) (h31_10 : st.2.1 2 x6_14.toNatClampNeg = a1) : vp_in x6_14 100 := by
  have z1 := okM_2 hok
  have z2 := (by decide : (0 : Int32).toInt = 0)
  have z3 := (by decide : (1 : Int32).toInt = 1)
  have z4 := (by decide : (2 : Int32).toInt = 2)
  have z5 := (by decide : (100 : Int32).toInt = 100)
  clear hpa hpb hi0_3 hi1_3 hi2_3 h5_1 hi3_14 hi4_14 hok
  try simp only [sA_1, sL_1, sI_1, vp_in_iff, Int32.le_iff_toInt_le, Int32.lt_iff_toInt_lt, ← Int32.toInt_inj, reduceIte, Nat.reduceEqDiff] at *
  all_goals omega
theorem ob_X10_saysYes_14_inv0_18 (st : St) (a1 : Int32) (a2 : Int32) (a3 : Int32) (n_3 : Nat) (x4_3 : Int32) (n_14 : Nat) (x6_14 : Int32) (x5_14 : Int32) (hok : okM st) (hpa : 0 ≤ a2.toInt) (hpb : a2.toInt < 16) (hi0_3 : -1 ≤ x4_3.toInt) (hi1_3 : x4_3.toInt < 16) (hi2_3 : x4_3.toInt + 1 < (n_3 + 1)) (h5_1 : ¬ x4_3 < 0) (hi0_14 : 0 ≤ x6_14.toInt) (hi1_14 : x6_14.toInt ≤ (st.1 2).toInt) (hi2_14 : (st.1 2).toInt < x6_14.toInt + (n_14 + 1)) (hi3_14 : -1 ≤ x5_14.toInt) (hi4_14 : x5_14.toInt < (st.1 2).toInt) (h20_2 : ¬ st.1 2 ≤ x6_14) (h31_10 : st.2.1 2 x6_14.toNatClampNeg = a1) (h43_17 : ¬ st.2.1 3 x6_14.toNatClampNeg = x4_3) : 0 ≤ (x6_14 + 1).toInt := by
  have z1 := okM_2 hok
  have z2 := okM_3 hok
  have z3 := (by decide : (0 : Int32).toInt = 0)
  have z4 := (by decide : (1 : Int32).toInt = 1)
  have z5 := (by decide : (2 : Int32).toInt = 2)
  have z6 := (by decide : (3 : Int32).toInt = 3)
  have z7 := inc_I x6_14
  clear hpa hpb hi0_3 hi1_3 hi2_3 h5_1 hi3_14 hi4_14 hok
  try simp only [sA_1, sL_1, sI_1, vp_in_iff, Int32.le_iff_toInt_le, Int32.lt_iff_toInt_lt, ← Int32.toInt_inj, reduceIte, Nat.reduceEqDiff] at *
  all_goals omega
theorem ob_X10_saysYes_14_inv1_19 (st : St) (a1 : Int32) (a2 : Int32) (a3 : Int32) (n_3 : Nat) (x4_3 : Int32) (n_14 : Nat) (x6_14 : Int32) (x5_14 : Int32) (hok : okM st) (hpa : 0 ≤ a2.toInt) (hpb : a2.toInt < 16) (hi0_3 : -1 ≤ x4_3.toInt) (hi1_3 : x4_3.toInt < 16) (hi2_3 : x4_3.toInt + 1 < (n_3 + 1)) (h5_1 : ¬ x4_3 < 0) (hi0_14 : 0 ≤ x6_14.toInt) (hi1_14 : x6_14.toInt ≤ (st.1 2).toInt) (hi2_14 : (st.1 2).toInt < x6_14.toInt + (n_14 + 1)) (hi3_14 : -1 ≤ x5_14.toInt) (hi4_14 : x5_14.toInt < (st.1 2).toInt) (h20_2 : ¬ st.1 2 ≤ x6_14) (h31_10 : st.2.1 2 x6_14.toNatClampNeg = a1) (h43_17 : ¬ st.2.1 3 x6_14.toNatClampNeg = x4_3) : (x6_14 + 1).toInt ≤ (st.1 2).toInt := by
  have z1 := okM_2 hok
  have z2 := okM_3 hok
  have z3 := (by decide : (0 : Int32).toInt = 0)
  have z4 := (by decide : (1 : Int32).toInt = 1)
  have z5 := (by decide : (2 : Int32).toInt = 2)
  have z6 := (by decide : (3 : Int32).toInt = 3)
  have z7 := inc_I x6_14
  clear hpa hpb hi0_3 hi1_3 hi2_3 h5_1 hi3_14 hok
  try simp only [sA_1, sL_1, sI_1, vp_in_iff, Int32.le_iff_toInt_le, Int32.lt_iff_toInt_lt, ← Int32.toInt_inj, reduceIte, Nat.reduceEqDiff] at *
  all_goals omega
theorem ob_X10_saysYes_14_inv2_20 (st : St) (a1 : Int32) (a2 : Int32) (a3 : Int32) (n_3 : Nat) (x4_3 : Int32) (n_14 : Nat) (x6_14 : Int32) (x5_14 : Int32) (hok : okM st) (hpa : 0 ≤ a2.toInt) (hpb : a2.toInt < 16) (hi0_3 : -1 ≤ x4_3.toInt) (hi1_3 : x4_3.toInt < 16) (hi2_3 : x4_3.toInt + 1 < (n_3 + 1)) (h5_1 : ¬ x4_3 < 0) (hi0_14 : 0 ≤ x6_14.toInt) (hi1_14 : x6_14.toInt ≤ (st.1 2).toInt) (hi2_14 : (st.1 2).toInt < x6_14.toInt + (n_14 + 1)) (hi3_14 : -1 ≤ x5_14.toInt) (hi4_14 : x5_14.toInt < (st.1 2).toInt) (h20_2 : ¬ st.1 2 ≤ x6_14) (h31_10 : st.2.1 2 x6_14.toNatClampNeg = a1) (h43_17 : ¬ st.2.1 3 x6_14.toNatClampNeg = x4_3) : (st.1 2).toInt < (x6_14 + 1).toInt + n_14 := by
  have z1 := okM_2 hok
  have z2 := okM_3 hok
  have z3 := (by decide : (0 : Int32).toInt = 0)
  have z4 := (by decide : (1 : Int32).toInt = 1)
  have z5 := (by decide : (2 : Int32).toInt = 2)
  have z6 := (by decide : (3 : Int32).toInt = 3)
  have z7 := inc_I x6_14
  clear hpa hpb hi0_3 hi1_3 hi2_3 h5_1 hi3_14 hok
  try simp only [sA_1, sL_1, sI_1, vp_in_iff, Int32.le_iff_toInt_le, Int32.lt_iff_toInt_lt, ← Int32.toInt_inj, reduceIte, Nat.reduceEqDiff] at *
  all_goals omega
theorem ob_X10_saysYes_14_inv3_21 (st : St) (a1 : Int32) (a2 : Int32) (a3 : Int32) (n_3 : Nat) (x4_3 : Int32) (n_14 : Nat) (x6_14 : Int32) (x5_14 : Int32) (hok : okM st) (hpa : 0 ≤ a2.toInt) (hpb : a2.toInt < 16) (hi0_3 : -1 ≤ x4_3.toInt) (hi1_3 : x4_3.toInt < 16) (hi2_3 : x4_3.toInt + 1 < (n_3 + 1)) (h5_1 : ¬ x4_3 < 0) (hi0_14 : 0 ≤ x6_14.toInt) (hi1_14 : x6_14.toInt ≤ (st.1 2).toInt) (hi2_14 : (st.1 2).toInt < x6_14.toInt + (n_14 + 1)) (hi3_14 : -1 ≤ x5_14.toInt) (hi4_14 : x5_14.toInt < (st.1 2).toInt) (h20_2 : ¬ st.1 2 ≤ x6_14) (h31_10 : st.2.1 2 x6_14.toNatClampNeg = a1) (h43_17 : ¬ st.2.1 3 x6_14.toNatClampNeg = x4_3) : -1 ≤ x5_14.toInt := by
  have z1 := okM_2 hok
  have z2 := (by decide : (1 : Int32).toInt = 1)
  have z3 := (by decide : (2 : Int32).toInt = 2)
  have z4 := (by decide : (-1 : Int32).toInt = -1)
  clear hpa hpb hi0_3 hi1_3 hi2_3 h5_1 hi0_14 hi1_14 hi2_14 h20_2 h31_10 h43_17 hok
  try simp only [sA_1, sL_1, sI_1, vp_in_iff, Int32.le_iff_toInt_le, Int32.lt_iff_toInt_lt, ← Int32.toInt_inj, reduceIte, Nat.reduceEqDiff] at *
  all_goals omega
theorem ob_X10_saysYes_14_inv4_22 (st : St) (a1 : Int32) (a2 : Int32) (a3 : Int32) (n_3 : Nat) (x4_3 : Int32) (n_14 : Nat) (x6_14 : Int32) (x5_14 : Int32) (hok : okM st) (hpa : 0 ≤ a2.toInt) (hpb : a2.toInt < 16) (hi0_3 : -1 ≤ x4_3.toInt) (hi1_3 : x4_3.toInt < 16) (hi2_3 : x4_3.toInt + 1 < (n_3 + 1)) (h5_1 : ¬ x4_3 < 0) (hi0_14 : 0 ≤ x6_14.toInt) (hi1_14 : x6_14.toInt ≤ (st.1 2).toInt) (hi2_14 : (st.1 2).toInt < x6_14.toInt + (n_14 + 1)) (hi3_14 : -1 ≤ x5_14.toInt) (hi4_14 : x5_14.toInt < (st.1 2).toInt) (h20_2 : ¬ st.1 2 ≤ x6_14) (h31_10 : st.2.1 2 x6_14.toNatClampNeg = a1) (h43_17 : ¬ st.2.1 3 x6_14.toNatClampNeg = x4_3) : x5_14.toInt < (st.1 2).toInt := by
  have z1 := okM_2 hok
  have z2 := (by decide : (1 : Int32).toInt = 1)
  have z3 := (by decide : (2 : Int32).toInt = 2)
  have z4 := (by decide : (-1 : Int32).toInt = -1)
  clear hpa hpb hi0_3 hi1_3 hi2_3 h5_1 hi0_14 h43_17 hok
  try simp only [sA_1, sL_1, sI_1, vp_in_iff, Int32.le_iff_toInt_le, Int32.lt_iff_toInt_lt, ← Int32.toInt_inj, reduceIte, Nat.reduceEqDiff] at *
  all_goals omega
theorem ob_X10_saysYes_52_23 (st : St) (a1 : Int32) (a2 : Int32) (a3 : Int32) (n_3 : Nat) (x4_3 : Int32) (n_14 : Nat) (x6_14 : Int32) (x5_14 : Int32) (hok : okM st) (hpa : 0 ≤ a2.toInt) (hpb : a2.toInt < 16) (hi0_3 : -1 ≤ x4_3.toInt) (hi1_3 : x4_3.toInt < 16) (hi2_3 : x4_3.toInt + 1 < (n_3 + 1)) (h5_1 : ¬ x4_3 < 0) (hi0_14 : 0 ≤ x6_14.toInt) (hi1_14 : x6_14.toInt ≤ (st.1 2).toInt) (hi2_14 : (st.1 2).toInt < x6_14.toInt + (n_14 + 1)) (hi3_14 : -1 ≤ x5_14.toInt) (hi4_14 : x5_14.toInt < (st.1 2).toInt) (h20_2 : ¬ st.1 2 ≤ x6_14) (h31_10 : st.2.1 2 x6_14.toNatClampNeg = a1) (h43_17 : st.2.1 3 x6_14.toNatClampNeg = x4_3) : vp_in x6_14 100 := by
  have z1 := okM_2 hok
  have z2 := okM_3 hok
  have z3 := (by decide : (0 : Int32).toInt = 0)
  have z4 := (by decide : (1 : Int32).toInt = 1)
  have z5 := (by decide : (2 : Int32).toInt = 2)
  have z6 := (by decide : (3 : Int32).toInt = 3)
  have z7 := (by decide : (100 : Int32).toInt = 100)
  clear hpa hpb hi0_3 hi1_3 hi2_3 h5_1 hi3_14 hi4_14 hok
  try simp only [sA_1, sL_1, sI_1, vp_in_iff, Int32.le_iff_toInt_le, Int32.lt_iff_toInt_lt, ← Int32.toInt_inj, reduceIte, Nat.reduceEqDiff] at *
  all_goals omega
theorem ob_X10_saysYes_14_inv0_25 (st : St) (a1 : Int32) (a2 : Int32) (a3 : Int32) (n_3 : Nat) (x4_3 : Int32) (n_14 : Nat) (x6_14 : Int32) (x5_14 : Int32) (hok : okM st) (hpa : 0 ≤ a2.toInt) (hpb : a2.toInt < 16) (hi0_3 : -1 ≤ x4_3.toInt) (hi1_3 : x4_3.toInt < 16) (hi2_3 : x4_3.toInt + 1 < (n_3 + 1)) (h5_1 : ¬ x4_3 < 0) (hi0_14 : 0 ≤ x6_14.toInt) (hi1_14 : x6_14.toInt ≤ (st.1 2).toInt) (hi2_14 : (st.1 2).toInt < x6_14.toInt + (n_14 + 1)) (hi3_14 : -1 ≤ x5_14.toInt) (hi4_14 : x5_14.toInt < (st.1 2).toInt) (h20_2 : ¬ st.1 2 ≤ x6_14) (h31_10 : st.2.1 2 x6_14.toNatClampNeg = a1) (h43_17 : st.2.1 3 x6_14.toNatClampNeg = x4_3) (h54_24 : a3 < st.2.1 4 x6_14.toNatClampNeg) : 0 ≤ (x6_14 + 1).toInt := by
  have z1 := okM_2 hok
  have z2 := okM_3 hok
  have z3 := okM_4 hok
  have z4 := (by decide : (0 : Int32).toInt = 0)
  have z5 := (by decide : (1 : Int32).toInt = 1)
  have z6 := (by decide : (2 : Int32).toInt = 2)
  have z7 := (by decide : (3 : Int32).toInt = 3)
  have z8 := (by decide : (4 : Int32).toInt = 4)
  have z9 := inc_I x6_14
  clear hpa hpb hi0_3 hi1_3 hi2_3 h5_1 hi3_14 hi4_14 hok
  try simp only [sA_1, sL_1, sI_1, vp_in_iff, Int32.le_iff_toInt_le, Int32.lt_iff_toInt_lt, ← Int32.toInt_inj, reduceIte, Nat.reduceEqDiff] at *
  all_goals omega
theorem ob_X10_saysYes_14_inv1_26 (st : St) (a1 : Int32) (a2 : Int32) (a3 : Int32) (n_3 : Nat) (x4_3 : Int32) (n_14 : Nat) (x6_14 : Int32) (x5_14 : Int32) (hok : okM st) (hpa : 0 ≤ a2.toInt) (hpb : a2.toInt < 16) (hi0_3 : -1 ≤ x4_3.toInt) (hi1_3 : x4_3.toInt < 16) (hi2_3 : x4_3.toInt + 1 < (n_3 + 1)) (h5_1 : ¬ x4_3 < 0) (hi0_14 : 0 ≤ x6_14.toInt) (hi1_14 : x6_14.toInt ≤ (st.1 2).toInt) (hi2_14 : (st.1 2).toInt < x6_14.toInt + (n_14 + 1)) (hi3_14 : -1 ≤ x5_14.toInt) (hi4_14 : x5_14.toInt < (st.1 2).toInt) (h20_2 : ¬ st.1 2 ≤ x6_14) (h31_10 : st.2.1 2 x6_14.toNatClampNeg = a1) (h43_17 : st.2.1 3 x6_14.toNatClampNeg = x4_3) (h54_24 : a3 < st.2.1 4 x6_14.toNatClampNeg) : (x6_14 + 1).toInt ≤ (st.1 2).toInt := by
  have z1 := okM_2 hok
  have z2 := okM_3 hok
  have z3 := okM_4 hok
  have z4 := (by decide : (0 : Int32).toInt = 0)
  have z5 := (by decide : (1 : Int32).toInt = 1)
  have z6 := (by decide : (2 : Int32).toInt = 2)
  have z7 := (by decide : (3 : Int32).toInt = 3)
  have z8 := (by decide : (4 : Int32).toInt = 4)
  have z9 := inc_I x6_14
  clear hpa hpb hi0_3 hi1_3 hi2_3 h5_1 hi3_14 hok
  try simp only [sA_1, sL_1, sI_1, vp_in_iff, Int32.le_iff_toInt_le, Int32.lt_iff_toInt_lt, ← Int32.toInt_inj, reduceIte, Nat.reduceEqDiff] at *
  all_goals omega
theorem ob_X10_saysYes_14_inv2_27 (st : St) (a1 : Int32) (a2 : Int32) (a3 : Int32) (n_3 : Nat) (x4_3 : Int32) (n_14 : Nat) (x6_14 : Int32) (x5_14 : Int32) (hok : okM st) (hpa : 0 ≤ a2.toInt) (hpb : a2.toInt < 16) (hi0_3 : -1 ≤ x4_3.toInt) (hi1_3 : x4_3.toInt < 16) (hi2_3 : x4_3.toInt + 1 < (n_3 + 1)) (h5_1 : ¬ x4_3 < 0) (hi0_14 : 0 ≤ x6_14.toInt) (hi1_14 : x6_14.toInt ≤ (st.1 2).toInt) (hi2_14 : (st.1 2).toInt < x6_14.toInt + (n_14 + 1)) (hi3_14 : -1 ≤ x5_14.toInt) (hi4_14 : x5_14.toInt < (st.1 2).toInt) (h20_2 : ¬ st.1 2 ≤ x6_14) (h31_10 : st.2.1 2 x6_14.toNatClampNeg = a1) (h43_17 : st.2.1 3 x6_14.toNatClampNeg = x4_3) (h54_24 : a3 < st.2.1 4 x6_14.toNatClampNeg) : (st.1 2).toInt < (x6_14 + 1).toInt + n_14 := by
  have z1 := okM_2 hok
  have z2 := okM_3 hok
  have z3 := okM_4 hok
  have z4 := (by decide : (0 : Int32).toInt = 0)
  have z5 := (by decide : (1 : Int32).toInt = 1)
  have z6 := (by decide : (2 : Int32).toInt = 2)
  have z7 := (by decide : (3 : Int32).toInt = 3)
  have z8 := (by decide : (4 : Int32).toInt = 4)
  have z9 := inc_I x6_14
  clear hpa hpb hi0_3 hi1_3 hi2_3 h5_1 hi3_14 hok
  try simp only [sA_1, sL_1, sI_1, vp_in_iff, Int32.le_iff_toInt_le, Int32.lt_iff_toInt_lt, ← Int32.toInt_inj, reduceIte, Nat.reduceEqDiff] at *
  all_goals omega
theorem ob_X10_saysYes_14_inv3_28 (st : St) (a1 : Int32) (a2 : Int32) (a3 : Int32) (n_3 : Nat) (x4_3 : Int32) (n_14 : Nat) (x6_14 : Int32) (x5_14 : Int32) (hok : okM st) (hpa : 0 ≤ a2.toInt) (hpb : a2.toInt < 16) (hi0_3 : -1 ≤ x4_3.toInt) (hi1_3 : x4_3.toInt < 16) (hi2_3 : x4_3.toInt + 1 < (n_3 + 1)) (h5_1 : ¬ x4_3 < 0) (hi0_14 : 0 ≤ x6_14.toInt) (hi1_14 : x6_14.toInt ≤ (st.1 2).toInt) (hi2_14 : (st.1 2).toInt < x6_14.toInt + (n_14 + 1)) (hi3_14 : -1 ≤ x5_14.toInt) (hi4_14 : x5_14.toInt < (st.1 2).toInt) (h20_2 : ¬ st.1 2 ≤ x6_14) (h31_10 : st.2.1 2 x6_14.toNatClampNeg = a1) (h43_17 : st.2.1 3 x6_14.toNatClampNeg = x4_3) (h54_24 : a3 < st.2.1 4 x6_14.toNatClampNeg) : -1 ≤ x5_14.toInt := by
  have z1 := okM_2 hok
  have z2 := (by decide : (1 : Int32).toInt = 1)
  have z3 := (by decide : (2 : Int32).toInt = 2)
  have z4 := (by decide : (-1 : Int32).toInt = -1)
  clear hpa hpb hi0_3 hi1_3 hi2_3 h5_1 hi0_14 hi1_14 hi2_14 h20_2 h31_10 h43_17 h54_24 hok
  try simp only [sA_1, sL_1, sI_1, vp_in_iff, Int32.le_iff_toInt_le, Int32.lt_iff_toInt_lt, ← Int32.toInt_inj, reduceIte, Nat.reduceEqDiff] at *
  all_goals omega
theorem ob_X10_saysYes_14_inv4_29 (st : St) (a1 : Int32) (a2 : Int32) (a3 : Int32) (n_3 : Nat) (x4_3 : Int32) (n_14 : Nat) (x6_14 : Int32) (x5_14 : Int32) (hok : okM st) (hpa : 0 ≤ a2.toInt) (hpb : a2.toInt < 16) (hi0_3 : -1 ≤ x4_3.toInt) (hi1_3 : x4_3.toInt < 16) (hi2_3 : x4_3.toInt + 1 < (n_3 + 1)) (h5_1 : ¬ x4_3 < 0) (hi0_14 : 0 ≤ x6_14.toInt) (hi1_14 : x6_14.toInt ≤ (st.1 2).toInt) (hi2_14 : (st.1 2).toInt < x6_14.toInt + (n_14 + 1)) (hi3_14 : -1 ≤ x5_14.toInt) (hi4_14 : x5_14.toInt < (st.1 2).toInt) (h20_2 : ¬ st.1 2 ≤ x6_14) (h31_10 : st.2.1 2 x6_14.toNatClampNeg = a1) (h43_17 : st.2.1 3 x6_14.toNatClampNeg = x4_3) (h54_24 : a3 < st.2.1 4 x6_14.toNatClampNeg) : x5_14.toInt < (st.1 2).toInt := by
  have z1 := okM_2 hok
  have z2 := (by decide : (1 : Int32).toInt = 1)
  have z3 := (by decide : (2 : Int32).toInt = 2)
  have z4 := (by decide : (-1 : Int32).toInt = -1)
  clear hpa hpb hi0_3 hi1_3 hi2_3 h5_1 hi0_14 h43_17 h54_24 hok
  try simp only [sA_1, sL_1, sI_1, vp_in_iff, Int32.le_iff_toInt_le, Int32.lt_iff_toInt_lt, ← Int32.toInt_inj, reduceIte, Nat.reduceEqDiff] at *
  all_goals omega
theorem ob_X10_saysYes_14_inv0_31 (st : St) (a1 : Int32) (a2 : Int32) (a3 : Int32) (n_3 : Nat) (x4_3 : Int32) (n_14 : Nat) (x6_14 : Int32) (x5_14 : Int32) (hok : okM st) (hpa : 0 ≤ a2.toInt) (hpb : a2.toInt < 16) (hi0_3 : -1 ≤ x4_3.toInt) (hi1_3 : x4_3.toInt < 16) (hi2_3 : x4_3.toInt + 1 < (n_3 + 1)) (h5_1 : ¬ x4_3 < 0) (hi0_14 : 0 ≤ x6_14.toInt) (hi1_14 : x6_14.toInt ≤ (st.1 2).toInt) (hi2_14 : (st.1 2).toInt < x6_14.toInt + (n_14 + 1)) (hi3_14 : -1 ≤ x5_14.toInt) (hi4_14 : x5_14.toInt < (st.1 2).toInt) (h20_2 : ¬ st.1 2 ≤ x6_14) (h31_10 : st.2.1 2 x6_14.toNatClampNeg = a1) (h43_17 : st.2.1 3 x6_14.toNatClampNeg = x4_3) (h54_24 : ¬ a3 < st.2.1 4 x6_14.toNatClampNeg) (h71_30 : x5_14 < 0) : 0 ≤ (x6_14 + 1).toInt := by
  have z1 := okM_2 hok
  have z2 := okM_3 hok
  have z3 := okM_4 hok
  have z4 := (by decide : (0 : Int32).toInt = 0)
  have z5 := (by decide : (1 : Int32).toInt = 1)
  have z6 := (by decide : (2 : Int32).toInt = 2)
  have z7 := (by decide : (3 : Int32).toInt = 3)
  have z8 := (by decide : (4 : Int32).toInt = 4)
  have z9 := inc_I x6_14
  clear hpa hpb hi0_3 hi1_3 hi2_3 h5_1 hi3_14 hi4_14 h71_30 hok
  try simp only [sA_1, sL_1, sI_1, vp_in_iff, Int32.le_iff_toInt_le, Int32.lt_iff_toInt_lt, ← Int32.toInt_inj, reduceIte, Nat.reduceEqDiff] at *
  all_goals omega
theorem ob_X10_saysYes_14_inv1_32 (st : St) (a1 : Int32) (a2 : Int32) (a3 : Int32) (n_3 : Nat) (x4_3 : Int32) (n_14 : Nat) (x6_14 : Int32) (x5_14 : Int32) (hok : okM st) (hpa : 0 ≤ a2.toInt) (hpb : a2.toInt < 16) (hi0_3 : -1 ≤ x4_3.toInt) (hi1_3 : x4_3.toInt < 16) (hi2_3 : x4_3.toInt + 1 < (n_3 + 1)) (h5_1 : ¬ x4_3 < 0) (hi0_14 : 0 ≤ x6_14.toInt) (hi1_14 : x6_14.toInt ≤ (st.1 2).toInt) (hi2_14 : (st.1 2).toInt < x6_14.toInt + (n_14 + 1)) (hi3_14 : -1 ≤ x5_14.toInt) (hi4_14 : x5_14.toInt < (st.1 2).toInt) (h20_2 : ¬ st.1 2 ≤ x6_14) (h31_10 : st.2.1 2 x6_14.toNatClampNeg = a1) (h43_17 : st.2.1 3 x6_14.toNatClampNeg = x4_3) (h54_24 : ¬ a3 < st.2.1 4 x6_14.toNatClampNeg) (h71_30 : x5_14 < 0) : (x6_14 + 1).toInt ≤ (st.1 2).toInt := by
  have z1 := okM_2 hok
  have z2 := okM_3 hok
  have z3 := okM_4 hok
  have z4 := (by decide : (0 : Int32).toInt = 0)
  have z5 := (by decide : (1 : Int32).toInt = 1)
  have z6 := (by decide : (2 : Int32).toInt = 2)
  have z7 := (by decide : (3 : Int32).toInt = 3)
  have z8 := (by decide : (4 : Int32).toInt = 4)
  have z9 := inc_I x6_14
  clear hpa hpb hi0_3 hi1_3 hi2_3 h5_1 hi3_14 h71_30 hok
  try simp only [sA_1, sL_1, sI_1, vp_in_iff, Int32.le_iff_toInt_le, Int32.lt_iff_toInt_lt, ← Int32.toInt_inj, reduceIte, Nat.reduceEqDiff] at *
  all_goals omega
theorem ob_X10_saysYes_14_inv2_33 (st : St) (a1 : Int32) (a2 : Int32) (a3 : Int32) (n_3 : Nat) (x4_3 : Int32) (n_14 : Nat) (x6_14 : Int32) (x5_14 : Int32) (hok : okM st) (hpa : 0 ≤ a2.toInt) (hpb : a2.toInt < 16) (hi0_3 : -1 ≤ x4_3.toInt) (hi1_3 : x4_3.toInt < 16) (hi2_3 : x4_3.toInt + 1 < (n_3 + 1)) (h5_1 : ¬ x4_3 < 0) (hi0_14 : 0 ≤ x6_14.toInt) (hi1_14 : x6_14.toInt ≤ (st.1 2).toInt) (hi2_14 : (st.1 2).toInt < x6_14.toInt + (n_14 + 1)) (hi3_14 : -1 ≤ x5_14.toInt) (hi4_14 : x5_14.toInt < (st.1 2).toInt) (h20_2 : ¬ st.1 2 ≤ x6_14) (h31_10 : st.2.1 2 x6_14.toNatClampNeg = a1) (h43_17 : st.2.1 3 x6_14.toNatClampNeg = x4_3) (h54_24 : ¬ a3 < st.2.1 4 x6_14.toNatClampNeg) (h71_30 : x5_14 < 0) : (st.1 2).toInt < (x6_14 + 1).toInt + n_14 := by
  have z1 := okM_2 hok
  have z2 := okM_3 hok
  have z3 := okM_4 hok
  have z4 := (by decide : (0 : Int32).toInt = 0)
  have z5 := (by decide : (1 : Int32).toInt = 1)
  have z6 := (by decide : (2 : Int32).toInt = 2)
  have z7 := (by decide : (3 : Int32).toInt = 3)
  have z8 := (by decide : (4 : Int32).toInt = 4)
  have z9 := inc_I x6_14
  clear hpa hpb hi0_3 hi1_3 hi2_3 h5_1 hi3_14 h71_30 hok
  try simp only [sA_1, sL_1, sI_1, vp_in_iff, Int32.le_iff_toInt_le, Int32.lt_iff_toInt_lt, ← Int32.toInt_inj, reduceIte, Nat.reduceEqDiff] at *
  all_goals omega
theorem ob_X10_saysYes_14_inv3_34 (st : St) (a1 : Int32) (a2 : Int32) (a3 : Int32) (n_3 : Nat) (x4_3 : Int32) (n_14 : Nat) (x6_14 : Int32) (x5_14 : Int32) (hok : okM st) (hpa : 0 ≤ a2.toInt) (hpb : a2.toInt < 16) (hi0_3 : -1 ≤ x4_3.toInt) (hi1_3 : x4_3.toInt < 16) (hi2_3 : x4_3.toInt + 1 < (n_3 + 1)) (h5_1 : ¬ x4_3 < 0) (hi0_14 : 0 ≤ x6_14.toInt) (hi1_14 : x6_14.toInt ≤ (st.1 2).toInt) (hi2_14 : (st.1 2).toInt < x6_14.toInt + (n_14 + 1)) (hi3_14 : -1 ≤ x5_14.toInt) (hi4_14 : x5_14.toInt < (st.1 2).toInt) (h20_2 : ¬ st.1 2 ≤ x6_14) (h31_10 : st.2.1 2 x6_14.toNatClampNeg = a1) (h43_17 : st.2.1 3 x6_14.toNatClampNeg = x4_3) (h54_24 : ¬ a3 < st.2.1 4 x6_14.toNatClampNeg) (h71_30 : x5_14 < 0) : -1 ≤ x6_14.toInt := by
  have z1 := okM_2 hok
  have z2 := okM_3 hok
  have z3 := okM_4 hok
  have z4 := (by decide : (0 : Int32).toInt = 0)
  have z5 := (by decide : (1 : Int32).toInt = 1)
  have z6 := (by decide : (2 : Int32).toInt = 2)
  have z7 := (by decide : (3 : Int32).toInt = 3)
  have z8 := (by decide : (4 : Int32).toInt = 4)
  have z9 := (by decide : (-1 : Int32).toInt = -1)
  clear hpa hpb hi0_3 hi1_3 hi2_3 h5_1 hi3_14 hi4_14 h71_30 hok
  try simp only [sA_1, sL_1, sI_1, vp_in_iff, Int32.le_iff_toInt_le, Int32.lt_iff_toInt_lt, ← Int32.toInt_inj, reduceIte, Nat.reduceEqDiff] at *
  all_goals omega
theorem ob_X10_saysYes_14_inv4_35 (st : St) (a1 : Int32) (a2 : Int32) (a3 : Int32) (n_3 : Nat) (x4_3 : Int32) (n_14 : Nat) (x6_14 : Int32) (x5_14 : Int32) (hok : okM st) (hpa : 0 ≤ a2.toInt) (hpb : a2.toInt < 16) (hi0_3 : -1 ≤ x4_3.toInt) (hi1_3 : x4_3.toInt < 16) (hi2_3 : x4_3.toInt + 1 < (n_3 + 1)) (h5_1 : ¬ x4_3 < 0) (hi0_14 : 0 ≤ x6_14.toInt) (hi1_14 : x6_14.toInt ≤ (st.1 2).toInt) (hi2_14 : (st.1 2).toInt < x6_14.toInt + (n_14 + 1)) (hi3_14 : -1 ≤ x5_14.toInt) (hi4_14 : x5_14.toInt < (st.1 2).toInt) (h20_2 : ¬ st.1 2 ≤ x6_14) (h31_10 : st.2.1 2 x6_14.toNatClampNeg = a1) (h43_17 : st.2.1 3 x6_14.toNatClampNeg = x4_3) (h54_24 : ¬ a3 < st.2.1 4 x6_14.toNatClampNeg) (h71_30 : x5_14 < 0) : x6_14.toInt < (st.1 2).toInt := by
  have z1 := okM_2 hok
  have z2 := okM_3 hok
  have z3 := okM_4 hok
  have z4 := (by decide : (0 : Int32).toInt = 0)
  have z5 := (by decide : (1 : Int32).toInt = 1)
  have z6 := (by decide : (2 : Int32).toInt = 2)
  have z7 := (by decide : (3 : Int32).toInt = 3)
  have z8 := (by decide : (4 : Int32).toInt = 4)
  clear hpa hpb hi0_3 hi1_3 hi2_3 h5_1 hi3_14 h71_30 hok
  try simp only [sA_1, sL_1, sI_1, vp_in_iff, Int32.le_iff_toInt_le, Int32.lt_iff_toInt_lt, ← Int32.toInt_inj, reduceIte, Nat.reduceEqDiff] at *
  all_goals omega
theorem ob_X10_saysYes_80_36 (st : St) (a1 : Int32) (a2 : Int32) (a3 : Int32) (n_3 : Nat) (x4_3 : Int32) (n_14 : Nat) (x6_14 : Int32) (x5_14 : Int32) (hok : okM st) (hpa : 0 ≤ a2.toInt) (hpb : a2.toInt < 16) (hi0_3 : -1 ≤ x4_3.toInt) (hi1_3 : x4_3.toInt < 16) (hi2_3 : x4_3.toInt + 1 < (n_3 + 1)) (h5_1 : ¬ x4_3 < 0) (hi0_14 : 0 ≤ x6_14.toInt) (hi1_14 : x6_14.toInt ≤ (st.1 2).toInt) (hi2_14 : (st.1 2).toInt < x6_14.toInt + (n_14 + 1)) (hi3_14 : -1 ≤ x5_14.toInt) (hi4_14 : x5_14.toInt < (st.1 2).toInt) (h20_2 : ¬ st.1 2 ≤ x6_14) (h31_10 : st.2.1 2 x6_14.toNatClampNeg = a1) (h43_17 : st.2.1 3 x6_14.toNatClampNeg = x4_3) (h54_24 : ¬ a3 < st.2.1 4 x6_14.toNatClampNeg) (h71_30 : ¬ x5_14 < 0) : vp_in x6_14 100 := by
  have z1 := okM_2 hok
  have z2 := okM_3 hok
  have z3 := okM_4 hok
  have z4 := (by decide : (0 : Int32).toInt = 0)
  have z5 := (by decide : (1 : Int32).toInt = 1)
  have z6 := (by decide : (2 : Int32).toInt = 2)
  have z7 := (by decide : (3 : Int32).toInt = 3)
  have z8 := (by decide : (4 : Int32).toInt = 4)
  have z9 := (by decide : (100 : Int32).toInt = 100)
  clear hpa hpb hi0_3 hi1_3 hi2_3 h5_1 hi3_14 hi4_14 h71_30 hok
  try simp only [sA_1, sL_1, sI_1, vp_in_iff, Int32.le_iff_toInt_le, Int32.lt_iff_toInt_lt, ← Int32.toInt_inj, reduceIte, Nat.reduceEqDiff] at *
  all_goals omega
theorem ob_X10_saysYes_87_37 (st : St) (a1 : Int32) (a2 : Int32) (a3 : Int32) (n_3 : Nat) (x4_3 : Int32) (n_14 : Nat) (x6_14 : Int32) (x5_14 : Int32) (hok : okM st) (hpa : 0 ≤ a2.toInt) (hpb : a2.toInt < 16) (hi0_3 : -1 ≤ x4_3.toInt) (hi1_3 : x4_3.toInt < 16) (hi2_3 : x4_3.toInt + 1 < (n_3 + 1)) (h5_1 : ¬ x4_3 < 0) (hi0_14 : 0 ≤ x6_14.toInt) (hi1_14 : x6_14.toInt ≤ (st.1 2).toInt) (hi2_14 : (st.1 2).toInt < x6_14.toInt + (n_14 + 1)) (hi3_14 : -1 ≤ x5_14.toInt) (hi4_14 : x5_14.toInt < (st.1 2).toInt) (h20_2 : ¬ st.1 2 ≤ x6_14) (h31_10 : st.2.1 2 x6_14.toNatClampNeg = a1) (h43_17 : st.2.1 3 x6_14.toNatClampNeg = x4_3) (h54_24 : ¬ a3 < st.2.1 4 x6_14.toNatClampNeg) (h71_30 : ¬ x5_14 < 0) : vp_in x5_14 100 := by
  have z1 := okM_2 hok
  have z2 := (by decide : (0 : Int32).toInt = 0)
  have z3 := (by decide : (1 : Int32).toInt = 1)
  have z4 := (by decide : (2 : Int32).toInt = 2)
  have z5 := (by decide : (100 : Int32).toInt = 100)
  have z6 := (by decide : (-1 : Int32).toInt = -1)
  clear hpa hpb hi0_3 hi1_3 hi2_3 h5_1 hi0_14 hi1_14 hi2_14 h20_2 h31_10 h43_17 h54_24 hok
  try simp only [sA_1, sL_1, sI_1, vp_in_iff, Int32.le_iff_toInt_le, Int32.lt_iff_toInt_lt, ← Int32.toInt_inj, reduceIte, Nat.reduceEqDiff] at *
  all_goals omega
theorem ob_X10_saysYes_14_inv0_39 (st : St) (a1 : Int32) (a2 : Int32) (a3 : Int32) (n_3 : Nat) (x4_3 : Int32) (n_14 : Nat) (x6_14 : Int32) (x5_14 : Int32) (hok : okM st) (hpa : 0 ≤ a2.toInt) (hpb : a2.toInt < 16) (hi0_3 : -1 ≤ x4_3.toInt) (hi1_3 : x4_3.toInt < 16) (hi2_3 : x4_3.toInt + 1 < (n_3 + 1)) (h5_1 : ¬ x4_3 < 0) (hi0_14 : 0 ≤ x6_14.toInt) (hi1_14 : x6_14.toInt ≤ (st.1 2).toInt) (hi2_14 : (st.1 2).toInt < x6_14.toInt + (n_14 + 1)) (hi3_14 : -1 ≤ x5_14.toInt) (hi4_14 : x5_14.toInt < (st.1 2).toInt) (h20_2 : ¬ st.1 2 ≤ x6_14) (h31_10 : st.2.1 2 x6_14.toNatClampNeg = a1) (h43_17 : st.2.1 3 x6_14.toNatClampNeg = x4_3) (h54_24 : ¬ a3 < st.2.1 4 x6_14.toNatClampNeg) (h71_30 : ¬ x5_14 < 0) (h88_38 : st.2.1 4 x6_14.toNatClampNeg < st.2.1 4 x5_14.toNatClampNeg) : 0 ≤ (x6_14 + 1).toInt := by
  have z1 := okM_2 hok
  have z2 := okM_3 hok
  have z3 := okM_4 hok
  have z4 := (by decide : (0 : Int32).toInt = 0)
  have z5 := (by decide : (1 : Int32).toInt = 1)
  have z6 := (by decide : (2 : Int32).toInt = 2)
  have z7 := (by decide : (3 : Int32).toInt = 3)
  have z8 := (by decide : (4 : Int32).toInt = 4)
  have z9 := inc_I x6_14
  clear hpa hpb hi0_3 hi1_3 hi2_3 h5_1 hi3_14 hi4_14 h71_30 hok
  try simp only [sA_1, sL_1, sI_1, vp_in_iff, Int32.le_iff_toInt_le, Int32.lt_iff_toInt_lt, ← Int32.toInt_inj, reduceIte, Nat.reduceEqDiff] at *
  all_goals omega
theorem ob_X10_saysYes_14_inv1_40 (st : St) (a1 : Int32) (a2 : Int32) (a3 : Int32) (n_3 : Nat) (x4_3 : Int32) (n_14 : Nat) (x6_14 : Int32) (x5_14 : Int32) (hok : okM st) (hpa : 0 ≤ a2.toInt) (hpb : a2.toInt < 16) (hi0_3 : -1 ≤ x4_3.toInt) (hi1_3 : x4_3.toInt < 16) (hi2_3 : x4_3.toInt + 1 < (n_3 + 1)) (h5_1 : ¬ x4_3 < 0) (hi0_14 : 0 ≤ x6_14.toInt) (hi1_14 : x6_14.toInt ≤ (st.1 2).toInt) (hi2_14 : (st.1 2).toInt < x6_14.toInt + (n_14 + 1)) (hi3_14 : -1 ≤ x5_14.toInt) (hi4_14 : x5_14.toInt < (st.1 2).toInt) (h20_2 : ¬ st.1 2 ≤ x6_14) (h31_10 : st.2.1 2 x6_14.toNatClampNeg = a1) (h43_17 : st.2.1 3 x6_14.toNatClampNeg = x4_3) (h54_24 : ¬ a3 < st.2.1 4 x6_14.toNatClampNeg) (h71_30 : ¬ x5_14 < 0) (h88_38 : st.2.1 4 x6_14.toNatClampNeg < st.2.1 4 x5_14.toNatClampNeg) : (x6_14 + 1).toInt ≤ (st.1 2).toInt := by
  have z1 := okM_2 hok
  have z2 := okM_3 hok
  have z3 := okM_4 hok
  have z4 := (by decide : (0 : Int32).toInt = 0)
  have z5 := (by decide : (1 : Int32).toInt = 1)
  have z6 := (by decide : (2 : Int32).toInt = 2)
  have z7 := (by decide : (3 : Int32).toInt = 3)
  have z8 := (by decide : (4 : Int32).toInt = 4)
  have z9 := inc_I x6_14
  clear hpa hpb hi0_3 hi1_3 hi2_3 h5_1 hi3_14 h71_30 hok
  try simp only [sA_1, sL_1, sI_1, vp_in_iff, Int32.le_iff_toInt_le, Int32.lt_iff_toInt_lt, ← Int32.toInt_inj, reduceIte, Nat.reduceEqDiff] at *
  all_goals omega
theorem ob_X10_saysYes_14_inv2_41 (st : St) (a1 : Int32) (a2 : Int32) (a3 : Int32) (n_3 : Nat) (x4_3 : Int32) (n_14 : Nat) (x6_14 : Int32) (x5_14 : Int32) (hok : okM st) (hpa : 0 ≤ a2.toInt) (hpb : a2.toInt < 16) (hi0_3 : -1 ≤ x4_3.toInt) (hi1_3 : x4_3.toInt < 16) (hi2_3 : x4_3.toInt + 1 < (n_3 + 1)) (h5_1 : ¬ x4_3 < 0) (hi0_14 : 0 ≤ x6_14.toInt) (hi1_14 : x6_14.toInt ≤ (st.1 2).toInt) (hi2_14 : (st.1 2).toInt < x6_14.toInt + (n_14 + 1)) (hi3_14 : -1 ≤ x5_14.toInt) (hi4_14 : x5_14.toInt < (st.1 2).toInt) (h20_2 : ¬ st.1 2 ≤ x6_14) (h31_10 : st.2.1 2 x6_14.toNatClampNeg = a1) (h43_17 : st.2.1 3 x6_14.toNatClampNeg = x4_3) (h54_24 : ¬ a3 < st.2.1 4 x6_14.toNatClampNeg) (h71_30 : ¬ x5_14 < 0) (h88_38 : st.2.1 4 x6_14.toNatClampNeg < st.2.1 4 x5_14.toNatClampNeg) : (st.1 2).toInt < (x6_14 + 1).toInt + n_14 := by
  have z1 := okM_2 hok
  have z2 := okM_3 hok
  have z3 := okM_4 hok
  have z4 := (by decide : (0 : Int32).toInt = 0)
  have z5 := (by decide : (1 : Int32).toInt = 1)
  have z6 := (by decide : (2 : Int32).toInt = 2)
  have z7 := (by decide : (3 : Int32).toInt = 3)
  have z8 := (by decide : (4 : Int32).toInt = 4)
  have z9 := inc_I x6_14
  clear hpa hpb hi0_3 hi1_3 hi2_3 h5_1 hi3_14 h71_30 hok
  try simp only [sA_1, sL_1, sI_1, vp_in_iff, Int32.le_iff_toInt_le, Int32.lt_iff_toInt_lt, ← Int32.toInt_inj, reduceIte, Nat.reduceEqDiff] at *
  all_goals omega
theorem ob_X10_saysYes_14_inv3_42 (st : St) (a1 : Int32) (a2 : Int32) (a3 : Int32) (n_3 : Nat) (x4_3 : Int32) (n_14 : Nat) (x6_14 : Int32) (x5_14 : Int32) (hok : okM st) (hpa : 0 ≤ a2.toInt) (hpb : a2.toInt < 16) (hi0_3 : -1 ≤ x4_3.toInt) (hi1_3 : x4_3.toInt < 16) (hi2_3 : x4_3.toInt + 1 < (n_3 + 1)) (h5_1 : ¬ x4_3 < 0) (hi0_14 : 0 ≤ x6_14.toInt) (hi1_14 : x6_14.toInt ≤ (st.1 2).toInt) (hi2_14 : (st.1 2).toInt < x6_14.toInt + (n_14 + 1)) (hi3_14 : -1 ≤ x5_14.toInt) (hi4_14 : x5_14.toInt < (st.1 2).toInt) (h20_2 : ¬ st.1 2 ≤ x6_14) (h31_10 : st.2.1 2 x6_14.toNatClampNeg = a1) (h43_17 : st.2.1 3 x6_14.toNatClampNeg = x4_3) (h54_24 : ¬ a3 < st.2.1 4 x6_14.toNatClampNeg) (h71_30 : ¬ x5_14 < 0) (h88_38 : st.2.1 4 x6_14.toNatClampNeg < st.2.1 4 x5_14.toNatClampNeg) : -1 ≤ x5_14.toInt := by
  have z1 := okM_2 hok
  have z2 := okM_4 hok
  have z3 := (by decide : (0 : Int32).toInt = 0)
  have z4 := (by decide : (1 : Int32).toInt = 1)
  have z5 := (by decide : (2 : Int32).toInt = 2)
  have z6 := (by decide : (4 : Int32).toInt = 4)
  have z7 := (by decide : (-1 : Int32).toInt = -1)
  clear hpa hpb hi0_3 hi1_3 hi2_3 h5_1 hi0_14 hi1_14 hi2_14 h20_2 h31_10 h43_17 h54_24 hok
  try simp only [sA_1, sL_1, sI_1, vp_in_iff, Int32.le_iff_toInt_le, Int32.lt_iff_toInt_lt, ← Int32.toInt_inj, reduceIte, Nat.reduceEqDiff] at *
  all_goals omega
theorem ob_X10_saysYes_14_inv4_43 (st : St) (a1 : Int32) (a2 : Int32) (a3 : Int32) (n_3 : Nat) (x4_3 : Int32) (n_14 : Nat) (x6_14 : Int32) (x5_14 : Int32) (hok : okM st) (hpa : 0 ≤ a2.toInt) (hpb : a2.toInt < 16) (hi0_3 : -1 ≤ x4_3.toInt) (hi1_3 : x4_3.toInt < 16) (hi2_3 : x4_3.toInt + 1 < (n_3 + 1)) (h5_1 : ¬ x4_3 < 0) (hi0_14 : 0 ≤ x6_14.toInt) (hi1_14 : x6_14.toInt ≤ (st.1 2).toInt) (hi2_14 : (st.1 2).toInt < x6_14.toInt + (n_14 + 1)) (hi3_14 : -1 ≤ x5_14.toInt) (hi4_14 : x5_14.toInt < (st.1 2).toInt) (h20_2 : ¬ st.1 2 ≤ x6_14) (h31_10 : st.2.1 2 x6_14.toNatClampNeg = a1) (h43_17 : st.2.1 3 x6_14.toNatClampNeg = x4_3) (h54_24 : ¬ a3 < st.2.1 4 x6_14.toNatClampNeg) (h71_30 : ¬ x5_14 < 0) (h88_38 : st.2.1 4 x6_14.toNatClampNeg < st.2.1 4 x5_14.toNatClampNeg) : x5_14.toInt < (st.1 2).toInt := by
  have z1 := okM_2 hok
  have z2 := okM_4 hok
  have z3 := (by decide : (0 : Int32).toInt = 0)
  have z4 := (by decide : (1 : Int32).toInt = 1)
  have z5 := (by decide : (2 : Int32).toInt = 2)
  have z6 := (by decide : (4 : Int32).toInt = 4)
  have z7 := (by decide : (-1 : Int32).toInt = -1)
  clear hpa hpb hi0_3 hi1_3 hi2_3 h5_1 hi0_14 h43_17 h54_24 hok
  try simp only [sA_1, sL_1, sI_1, vp_in_iff, Int32.le_iff_toInt_le, Int32.lt_iff_toInt_lt, ← Int32.toInt_inj, reduceIte, Nat.reduceEqDiff] at *
  all_goals omega
theorem ob_X10_saysYes_14_inv0_44 (st : St) (a1 : Int32) (a2 : Int32) (a3 : Int32) (n_3 : Nat) (x4_3 : Int32) (n_14 : Nat) (x6_14 : Int32) (x5_14 : Int32) (hok : okM st) (hpa : 0 ≤ a2.toInt) (hpb : a2.toInt < 16) (hi0_3 : -1 ≤ x4_3.toInt) (hi1_3 : x4_3.toInt < 16) (hi2_3 : x4_3.toInt + 1 < (n_3 + 1)) (h5_1 : ¬ x4_3 < 0) (hi0_14 : 0 ≤ x6_14.toInt) (hi1_14 : x6_14.toInt ≤ (st.1 2).toInt) (hi2_14 : (st.1 2).toInt < x6_14.toInt + (n_14 + 1)) (hi3_14 : -1 ≤ x5_14.toInt) (hi4_14 : x5_14.toInt < (st.1 2).toInt) (h20_2 : ¬ st.1 2 ≤ x6_14) (h31_10 : st.2.1 2 x6_14.toNatClampNeg = a1) (h43_17 : st.2.1 3 x6_14.toNatClampNeg = x4_3) (h54_24 : ¬ a3 < st.2.1 4 x6_14.toNatClampNeg) (h71_30 : ¬ x5_14 < 0) (h88_38 : ¬ st.2.1 4 x6_14.toNatClampNeg < st.2.1 4 x5_14.toNatClampNeg) : 0 ≤ (x6_14 + 1).toInt := by
  have z1 := okM_2 hok
  have z2 := okM_3 hok
  have z3 := okM_4 hok
  have z4 := (by decide : (0 : Int32).toInt = 0)
  have z5 := (by decide : (1 : Int32).toInt = 1)
  have z6 := (by decide : (2 : Int32).toInt = 2)
  have z7 := (by decide : (3 : Int32).toInt = 3)
  have z8 := (by decide : (4 : Int32).toInt = 4)
  have z9 := inc_I x6_14
  clear hpa hpb hi0_3 hi1_3 hi2_3 h5_1 hi3_14 hi4_14 h71_30 hok
  try simp only [sA_1, sL_1, sI_1, vp_in_iff, Int32.le_iff_toInt_le, Int32.lt_iff_toInt_lt, ← Int32.toInt_inj, reduceIte, Nat.reduceEqDiff] at *
  all_goals omega
theorem ob_X10_saysYes_14_inv1_45 (st : St) (a1 : Int32) (a2 : Int32) (a3 : Int32) (n_3 : Nat) (x4_3 : Int32) (n_14 : Nat) (x6_14 : Int32) (x5_14 : Int32) (hok : okM st) (hpa : 0 ≤ a2.toInt) (hpb : a2.toInt < 16) (hi0_3 : -1 ≤ x4_3.toInt) (hi1_3 : x4_3.toInt < 16) (hi2_3 : x4_3.toInt + 1 < (n_3 + 1)) (h5_1 : ¬ x4_3 < 0) (hi0_14 : 0 ≤ x6_14.toInt) (hi1_14 : x6_14.toInt ≤ (st.1 2).toInt) (hi2_14 : (st.1 2).toInt < x6_14.toInt + (n_14 + 1)) (hi3_14 : -1 ≤ x5_14.toInt) (hi4_14 : x5_14.toInt < (st.1 2).toInt) (h20_2 : ¬ st.1 2 ≤ x6_14) (h31_10 : st.2.1 2 x6_14.toNatClampNeg = a1) (h43_17 : st.2.1 3 x6_14.toNatClampNeg = x4_3) (h54_24 : ¬ a3 < st.2.1 4 x6_14.toNatClampNeg) (h71_30 : ¬ x5_14 < 0) (h88_38 : ¬ st.2.1 4 x6_14.toNatClampNeg < st.2.1 4 x5_14.toNatClampNeg) : (x6_14 + 1).toInt ≤ (st.1 2).toInt := by
  have z1 := okM_2 hok
  have z2 := okM_3 hok
  have z3 := okM_4 hok
  have z4 := (by decide : (0 : Int32).toInt = 0)
  have z5 := (by decide : (1 : Int32).toInt = 1)
  have z6 := (by decide : (2 : Int32).toInt = 2)
  have z7 := (by decide : (3 : Int32).toInt = 3)
  have z8 := (by decide : (4 : Int32).toInt = 4)
  have z9 := inc_I x6_14
  clear hpa hpb hi0_3 hi1_3 hi2_3 h5_1 hi3_14 h71_30 hok
  try simp only [sA_1, sL_1, sI_1, vp_in_iff, Int32.le_iff_toInt_le, Int32.lt_iff_toInt_lt, ← Int32.toInt_inj, reduceIte, Nat.reduceEqDiff] at *
  all_goals omega
theorem ob_X10_saysYes_14_inv2_46 (st : St) (a1 : Int32) (a2 : Int32) (a3 : Int32) (n_3 : Nat) (x4_3 : Int32) (n_14 : Nat) (x6_14 : Int32) (x5_14 : Int32) (hok : okM st) (hpa : 0 ≤ a2.toInt) (hpb : a2.toInt < 16) (hi0_3 : -1 ≤ x4_3.toInt) (hi1_3 : x4_3.toInt < 16) (hi2_3 : x4_3.toInt + 1 < (n_3 + 1)) (h5_1 : ¬ x4_3 < 0) (hi0_14 : 0 ≤ x6_14.toInt) (hi1_14 : x6_14.toInt ≤ (st.1 2).toInt) (hi2_14 : (st.1 2).toInt < x6_14.toInt + (n_14 + 1)) (hi3_14 : -1 ≤ x5_14.toInt) (hi4_14 : x5_14.toInt < (st.1 2).toInt) (h20_2 : ¬ st.1 2 ≤ x6_14) (h31_10 : st.2.1 2 x6_14.toNatClampNeg = a1) (h43_17 : st.2.1 3 x6_14.toNatClampNeg = x4_3) (h54_24 : ¬ a3 < st.2.1 4 x6_14.toNatClampNeg) (h71_30 : ¬ x5_14 < 0) (h88_38 : ¬ st.2.1 4 x6_14.toNatClampNeg < st.2.1 4 x5_14.toNatClampNeg) : (st.1 2).toInt < (x6_14 + 1).toInt + n_14 := by
  have z1 := okM_2 hok
  have z2 := okM_3 hok
  have z3 := okM_4 hok
  have z4 := (by decide : (0 : Int32).toInt = 0)
  have z5 := (by decide : (1 : Int32).toInt = 1)
  have z6 := (by decide : (2 : Int32).toInt = 2)
  have z7 := (by decide : (3 : Int32).toInt = 3)
  have z8 := (by decide : (4 : Int32).toInt = 4)
  have z9 := inc_I x6_14
  clear hpa hpb hi0_3 hi1_3 hi2_3 h5_1 hi3_14 h71_30 hok
  try simp only [sA_1, sL_1, sI_1, vp_in_iff, Int32.le_iff_toInt_le, Int32.lt_iff_toInt_lt, ← Int32.toInt_inj, reduceIte, Nat.reduceEqDiff] at *
  all_goals omega
theorem ob_X10_saysYes_14_inv3_47 (st : St) (a1 : Int32) (a2 : Int32) (a3 : Int32) (n_3 : Nat) (x4_3 : Int32) (n_14 : Nat) (x6_14 : Int32) (x5_14 : Int32) (hok : okM st) (hpa : 0 ≤ a2.toInt) (hpb : a2.toInt < 16) (hi0_3 : -1 ≤ x4_3.toInt) (hi1_3 : x4_3.toInt < 16) (hi2_3 : x4_3.toInt + 1 < (n_3 + 1)) (h5_1 : ¬ x4_3 < 0) (hi0_14 : 0 ≤ x6_14.toInt) (hi1_14 : x6_14.toInt ≤ (st.1 2).toInt) (hi2_14 : (st.1 2).toInt < x6_14.toInt + (n_14 + 1)) (hi3_14 : -1 ≤ x5_14.toInt) (hi4_14 : x5_14.toInt < (st.1 2).toInt) (h20_2 : ¬ st.1 2 ≤ x6_14) (h31_10 : st.2.1 2 x6_14.toNatClampNeg = a1) (h43_17 : st.2.1 3 x6_14.toNatClampNeg = x4_3) (h54_24 : ¬ a3 < st.2.1 4 x6_14.toNatClampNeg) (h71_30 : ¬ x5_14 < 0) (h88_38 : ¬ st.2.1 4 x6_14.toNatClampNeg < st.2.1 4 x5_14.toNatClampNeg) : -1 ≤ x6_14.toInt := by
  have z1 := okM_2 hok
  have z2 := okM_3 hok
  have z3 := okM_4 hok
  have z4 := (by decide : (0 : Int32).toInt = 0)
  have z5 := (by decide : (1 : Int32).toInt = 1)
  have z6 := (by decide : (2 : Int32).toInt = 2)
  have z7 := (by decide : (3 : Int32).toInt = 3)
  have z8 := (by decide : (4 : Int32).toInt = 4)
  have z9 := (by decide : (-1 : Int32).toInt = -1)
  clear hpa hpb hi0_3 hi1_3 hi2_3 h5_1 hi3_14 hi4_14 h71_30 hok
  try simp only [sA_1, sL_1, sI_1, vp_in_iff, Int32.le_iff_toInt_le, Int32.lt_iff_toInt_lt, ← Int32.toInt_inj, reduceIte, Nat.reduceEqDiff] at *
  all_goals omega
theorem ob_X10_saysYes_14_inv4_48 (st : St) (a1 : Int32) (a2 : Int32) (a3 : Int32) (n_3 : Nat) (x4_3 : Int32) (n_14 : Nat) (x6_14 : Int32) (x5_14 : Int32) (hok : okM st) (hpa : 0 ≤ a2.toInt) (hpb : a2.toInt < 16) (hi0_3 : -1 ≤ x4_3.toInt) (hi1_3 : x4_3.toInt < 16) (hi2_3 : x4_3.toInt + 1 < (n_3 + 1)) (h5_1 : ¬ x4_3 < 0) (hi0_14 : 0 ≤ x6_14.toInt) (hi1_14 : x6_14.toInt ≤ (st.1 2).toInt) (hi2_14 : (st.1 2).toInt < x6_14.toInt + (n_14 + 1)) (hi3_14 : -1 ≤ x5_14.toInt) (hi4_14 : x5_14.toInt < (st.1 2).toInt) (h20_2 : ¬ st.1 2 ≤ x6_14) (h31_10 : st.2.1 2 x6_14.toNatClampNeg = a1) (h43_17 : st.2.1 3 x6_14.toNatClampNeg = x4_3) (h54_24 : ¬ a3 < st.2.1 4 x6_14.toNatClampNeg) (h71_30 : ¬ x5_14 < 0) (h88_38 : ¬ st.2.1 4 x6_14.toNatClampNeg < st.2.1 4 x5_14.toNatClampNeg) : x6_14.toInt < (st.1 2).toInt := by
  have z1 := okM_2 hok
  have z2 := okM_3 hok
  have z3 := okM_4 hok
  have z4 := (by decide : (0 : Int32).toInt = 0)
  have z5 := (by decide : (1 : Int32).toInt = 1)
  have z6 := (by decide : (2 : Int32).toInt = 2)
  have z7 := (by decide : (3 : Int32).toInt = 3)
  have z8 := (by decide : (4 : Int32).toInt = 4)
  clear hpa hpb hi0_3 hi1_3 hi2_3 h5_1 hi3_14 h71_30 hok
  try simp only [sA_1, sL_1, sI_1, vp_in_iff, Int32.le_iff_toInt_le, Int32.lt_iff_toInt_lt, ← Int32.toInt_inj, reduceIte, Nat.reduceEqDiff] at *
  all_goals omega
theorem ob_X10_saysYes_14_inv0_49 (st : St) (a1 : Int32) (a2 : Int32) (a3 : Int32) (n_3 : Nat) (x4_3 : Int32) (hok : okM st) (hpa : 0 ≤ a2.toInt) (hpb : a2.toInt < 16) (hi0_3 : -1 ≤ x4_3.toInt) (hi1_3 : x4_3.toInt < 16) (hi2_3 : x4_3.toInt + 1 < (n_3 + 1)) (h5_1 : ¬ x4_3 < 0) : 0 ≤ (0 : Int32).toInt := by
  have z1 := (by decide : (0 : Int32).toInt = 0)
  clear hpa hpb hi0_3 hi1_3 hi2_3 h5_1 hok
  try simp only [sA_1, sL_1, sI_1, vp_in_iff, Int32.le_iff_toInt_le, Int32.lt_iff_toInt_lt, ← Int32.toInt_inj, reduceIte, Nat.reduceEqDiff] at *
  all_goals omega
theorem ob_X10_saysYes_14_inv1_50 (st : St) (a1 : Int32) (a2 : Int32) (a3 : Int32) (n_3 : Nat) (x4_3 : Int32) (hok : okM st) (hpa : 0 ≤ a2.toInt) (hpb : a2.toInt < 16) (hi0_3 : -1 ≤ x4_3.toInt) (hi1_3 : x4_3.toInt < 16) (hi2_3 : x4_3.toInt + 1 < (n_3 + 1)) (h5_1 : ¬ x4_3 < 0) : (0 : Int32).toInt ≤ (st.1 2).toInt := by
  have z1 := okM_2 hok
  have z2 := (by decide : (0 : Int32).toInt = 0)
  have z3 := (by decide : (2 : Int32).toInt = 2)
  clear hpa hpb hi0_3 hi1_3 hi2_3 h5_1 hok
  try simp only [sA_1, sL_1, sI_1, vp_in_iff, Int32.le_iff_toInt_le, Int32.lt_iff_toInt_lt, ← Int32.toInt_inj, reduceIte, Nat.reduceEqDiff] at *
  all_goals omega
theorem ob_X10_saysYes_14_inv2_51 (st : St) (a1 : Int32) (a2 : Int32) (a3 : Int32) (n_3 : Nat) (x4_3 : Int32) (hok : okM st) (hpa : 0 ≤ a2.toInt) (hpb : a2.toInt < 16) (hi0_3 : -1 ≤ x4_3.toInt) (hi1_3 : x4_3.toInt < 16) (hi2_3 : x4_3.toInt + 1 < (n_3 + 1)) (h5_1 : ¬ x4_3 < 0) : (st.1 2).toInt < (0 : Int32).toInt + ((st.1 2).toInt.toNat + 1) := by
  have z1 := okM_2 hok
  have z2 := (by decide : (0 : Int32).toInt = 0)
  have z3 := (by decide : (1 : Int32).toInt = 1)
  have z4 := (by decide : (2 : Int32).toInt = 2)
  clear hpa hpb hi0_3 hi1_3 hi2_3 h5_1 hok
  try simp only [sA_1, sL_1, sI_1, vp_in_iff, Int32.le_iff_toInt_le, Int32.lt_iff_toInt_lt, ← Int32.toInt_inj, reduceIte, Nat.reduceEqDiff] at *
  all_goals omega
theorem ob_X10_saysYes_14_inv3_52 (st : St) (a1 : Int32) (a2 : Int32) (a3 : Int32) (n_3 : Nat) (x4_3 : Int32) (hok : okM st) (hpa : 0 ≤ a2.toInt) (hpb : a2.toInt < 16) (hi0_3 : -1 ≤ x4_3.toInt) (hi1_3 : x4_3.toInt < 16) (hi2_3 : x4_3.toInt + 1 < (n_3 + 1)) (h5_1 : ¬ x4_3 < 0) : -1 ≤ ((-1) : Int32).toInt := by
  have z1 := (by decide : (1 : Int32).toInt = 1)
  have z2 := (by decide : (-1 : Int32).toInt = -1)
  clear hpa hpb hi0_3 hi1_3 hi2_3 h5_1 hok
  try simp only [sA_1, sL_1, sI_1, vp_in_iff, Int32.le_iff_toInt_le, Int32.lt_iff_toInt_lt, ← Int32.toInt_inj, reduceIte, Nat.reduceEqDiff] at *
  all_goals omega
theorem ob_X10_saysYes_14_inv4_53 (st : St) (a1 : Int32) (a2 : Int32) (a3 : Int32) (n_3 : Nat) (x4_3 : Int32) (hok : okM st) (hpa : 0 ≤ a2.toInt) (hpb : a2.toInt < 16) (hi0_3 : -1 ≤ x4_3.toInt) (hi1_3 : x4_3.toInt < 16) (hi2_3 : x4_3.toInt + 1 < (n_3 + 1)) (h5_1 : ¬ x4_3 < 0) : ((-1) : Int32).toInt < (st.1 2).toInt := by
  have z1 := okM_2 hok
  have z2 := (by decide : (1 : Int32).toInt = 1)
  have z3 := (by decide : (2 : Int32).toInt = 2)
  have z4 := (by decide : (-1 : Int32).toInt = -1)
  clear hpa hpb hi0_3 hi1_3 hi2_3 h5_1 hok
  try simp only [sA_1, sL_1, sI_1, vp_in_iff, Int32.le_iff_toInt_le, Int32.lt_iff_toInt_lt, ← Int32.toInt_inj, reduceIte, Nat.reduceEqDiff] at *
  all_goals omega
theorem ob_X10_saysYes_3_inv0_54 (st : St) (a1 : Int32) (a2 : Int32) (a3 : Int32) (hok : okM st) (hpa : 0 ≤ a2.toInt) (hpb : a2.toInt < 16) : -1 ≤ a2.toInt := by
  have z1 := (by decide : (0 : Int32).toInt = 0)
  have z2 := (by decide : (1 : Int32).toInt = 1)
  have z3 := (by decide : (16 : Int32).toInt = 16)
  have z4 := (by decide : (-1 : Int32).toInt = -1)
  clear hok
  try simp only [sA_1, sL_1, sI_1, vp_in_iff, Int32.le_iff_toInt_le, Int32.lt_iff_toInt_lt, ← Int32.toInt_inj, reduceIte, Nat.reduceEqDiff] at *
  all_goals omega
theorem ob_X10_saysYes_3_inv1_55 (st : St) (a1 : Int32) (a2 : Int32) (a3 : Int32) (hok : okM st) (hpa : 0 ≤ a2.toInt) (hpb : a2.toInt < 16) : a2.toInt < 16 := by
  have z1 := (by decide : (0 : Int32).toInt = 0)
  have z2 := (by decide : (16 : Int32).toInt = 16)
  clear hok
  try simp only [sA_1, sL_1, sI_1, vp_in_iff, Int32.le_iff_toInt_le, Int32.lt_iff_toInt_lt, ← Int32.toInt_inj, reduceIte, Nat.reduceEqDiff] at *
  all_goals omega
theorem ob_X10_saysYes_3_inv2_56 (st : St) (a1 : Int32) (a2 : Int32) (a3 : Int32) (hok : okM st) (hpa : 0 ≤ a2.toInt) (hpb : a2.toInt < 16) : a2.toInt + 1 < 18 := by
  have z1 := (by decide : (0 : Int32).toInt = 0)
  have z2 := (by decide : (1 : Int32).toInt = 1)
  have z3 := (by decide : (16 : Int32).toInt = 16)
  have z4 := (by decide : (18 : Int32).toInt = 18)
  clear hok
  try simp only [sA_1, sL_1, sI_1, vp_in_iff, Int32.le_iff_toInt_le, Int32.lt_iff_toInt_lt, ← Int32.toInt_inj, reduceIte, Nat.reduceEqDiff] at *
  all_goals omega
theorem ob_X10_allSayYes_3_zero (st : St) (a1 : Int32) (a2 : Int32) (a3 : Int32) (x4_3 : Int32) (hok : okM st) (hva1 : vp_in a1 100) (hpa : 0 ≤ a2.toInt) (hpb : a2.toInt < 16) (hi0_3 : 0 ≤ x4_3.toInt) (hi1_3 : x4_3.toInt ≤ ((16 : Int32)).toInt) (hi2_3 : ((16 : Int32)).toInt < x4_3.toInt + 0) : False := by
  have z1 := (by decide : (0 : Int32).toInt = 0)
  have z2 := (by decide : (16 : Int32).toInt = 16)
  have z3 := (by decide : (100 : Int32).toInt = 100)
  clear hok
  try simp only [sA_1, sL_1, sI_1, vp_in_iff, Int32.le_iff_toInt_le, Int32.lt_iff_toInt_lt, ← Int32.toInt_inj, reduceIte, Nat.reduceEqDiff] at *
  all_goals omega
theorem ob_X10_allSayYes_15_2 (st : St) (a1 : Int32) (a2 : Int32) (a3 : Int32) (n_3 : Nat) (x4_3 : Int32) (hok : okM st) (hva1 : vp_in a1 100) (hpa : 0 ≤ a2.toInt) (hpb : a2.toInt < 16) (hi0_3 : 0 ≤ x4_3.toInt) (hi1_3 : x4_3.toInt ≤ ((16 : Int32)).toInt) (hi2_3 : ((16 : Int32)).toInt < x4_3.toInt + (n_3 + 1)) (h7_1 : ¬ 16 ≤ x4_3) : vp_in a1 100 := by
  have z1 := (by decide : (100 : Int32).toInt = 100)
  clear hpa hpb hi0_3 hi1_3 hi2_3 h7_1 hok
  try simp only [sA_1, sL_1, sI_1, vp_in_iff, Int32.le_iff_toInt_le, Int32.lt_iff_toInt_lt, ← Int32.toInt_inj, reduceIte, Nat.reduceEqDiff] at *
  all_goals omega
theorem ob_X10_allSayYes_3_inv0_4 (st : St) (a1 : Int32) (a2 : Int32) (a3 : Int32) (n_3 : Nat) (x4_3 : Int32) (hok : okM st) (hva1 : vp_in a1 100) (hpa : 0 ≤ a2.toInt) (hpb : a2.toInt < 16) (hi0_3 : 0 ≤ x4_3.toInt) (hi1_3 : x4_3.toInt ≤ ((16 : Int32)).toInt) (hi2_3 : ((16 : Int32)).toInt < x4_3.toInt + (n_3 + 1)) (h7_1 : ¬ 16 ≤ x4_3) (h22_3 : ¬ ((st.2.1 22 a1.toNatClampNeg) >>> (x4_3 &&& 31)) &&& 1 = 1) : 0 ≤ (x4_3 + 1).toInt := by
  have z1 := (by decide : (0 : Int32).toInt = 0)
  have z2 := (by decide : (1 : Int32).toInt = 1)
  have z3 := (by decide : (16 : Int32).toInt = 16)
  have z4 := (by decide : (22 : Int32).toInt = 22)
  have z5 := (by decide : (31 : Int32).toInt = 31)
  have z6 := inc_I x4_3
  clear hva1 hpa hpb hok
  try simp only [sA_1, sL_1, sI_1, vp_in_iff, Int32.le_iff_toInt_le, Int32.lt_iff_toInt_lt, ← Int32.toInt_inj, reduceIte, Nat.reduceEqDiff] at *
  all_goals omega
theorem ob_X10_allSayYes_3_inv1_5 (st : St) (a1 : Int32) (a2 : Int32) (a3 : Int32) (n_3 : Nat) (x4_3 : Int32) (hok : okM st) (hva1 : vp_in a1 100) (hpa : 0 ≤ a2.toInt) (hpb : a2.toInt < 16) (hi0_3 : 0 ≤ x4_3.toInt) (hi1_3 : x4_3.toInt ≤ ((16 : Int32)).toInt) (hi2_3 : ((16 : Int32)).toInt < x4_3.toInt + (n_3 + 1)) (h7_1 : ¬ 16 ≤ x4_3) (h22_3 : ¬ ((st.2.1 22 a1.toNatClampNeg) >>> (x4_3 &&& 31)) &&& 1 = 1) : (x4_3 + 1).toInt ≤ ((16 : Int32)).toInt := by
  have z1 := (by decide : (0 : Int32).toInt = 0)
  have z2 := (by decide : (1 : Int32).toInt = 1)
  have z3 := (by decide : (16 : Int32).toInt = 16)
  have z4 := (by decide : (22 : Int32).toInt = 22)
  have z5 := (by decide : (31 : Int32).toInt = 31)
  have z6 := inc_I x4_3
  clear hva1 hpa hpb hok
  try simp only [sA_1, sL_1, sI_1, vp_in_iff, Int32.le_iff_toInt_le, Int32.lt_iff_toInt_lt, ← Int32.toInt_inj, reduceIte, Nat.reduceEqDiff] at *
  all_goals omega
theorem ob_X10_allSayYes_3_inv2_6 (st : St) (a1 : Int32) (a2 : Int32) (a3 : Int32) (n_3 : Nat) (x4_3 : Int32) (hok : okM st) (hva1 : vp_in a1 100) (hpa : 0 ≤ a2.toInt) (hpb : a2.toInt < 16) (hi0_3 : 0 ≤ x4_3.toInt) (hi1_3 : x4_3.toInt ≤ ((16 : Int32)).toInt) (hi2_3 : ((16 : Int32)).toInt < x4_3.toInt + (n_3 + 1)) (h7_1 : ¬ 16 ≤ x4_3) (h22_3 : ¬ ((st.2.1 22 a1.toNatClampNeg) >>> (x4_3 &&& 31)) &&& 1 = 1) : ((16 : Int32)).toInt < (x4_3 + 1).toInt + n_3 := by
  have z1 := (by decide : (0 : Int32).toInt = 0)
  have z2 := (by decide : (1 : Int32).toInt = 1)
  have z3 := (by decide : (16 : Int32).toInt = 16)
  have z4 := (by decide : (22 : Int32).toInt = 22)
  have z5 := (by decide : (31 : Int32).toInt = 31)
  have z6 := inc_I x4_3
  clear hva1 hpa hpb hok
  try simp only [sA_1, sL_1, sI_1, vp_in_iff, Int32.le_iff_toInt_le, Int32.lt_iff_toInt_lt, ← Int32.toInt_inj, reduceIte, Nat.reduceEqDiff] at *
  all_goals omega
theorem ob_X10_allSayYes_3_inv0_8 (st : St) (a1 : Int32) (a2 : Int32) (a3 : Int32) (n_3 : Nat) (x4_3 : Int32) (hok : okM st) (hva1 : vp_in a1 100) (hpa : 0 ≤ a2.toInt) (hpb : a2.toInt < 16) (hi0_3 : 0 ≤ x4_3.toInt) (hi1_3 : x4_3.toInt ≤ ((16 : Int32)).toInt) (hi2_3 : ((16 : Int32)).toInt < x4_3.toInt + (n_3 + 1)) (h7_1 : ¬ 16 ≤ x4_3) (h22_3 : ((st.2.1 22 a1.toNatClampNeg) >>> (x4_3 &&& 31)) &&& 1 = 1) (h33_7 : ¬ (sp_X10_saysYes st x4_3 a2 a3) = 0) : 0 ≤ (x4_3 + 1).toInt := by
  have z1 := (by decide : (0 : Int32).toInt = 0)
  have z2 := (by decide : (1 : Int32).toInt = 1)
  have z3 := (by decide : (16 : Int32).toInt = 16)
  have z4 := (by decide : (22 : Int32).toInt = 22)
  have z5 := (by decide : (31 : Int32).toInt = 31)
  have z6 := inc_I x4_3
  clear hva1 hpa hpb h33_7 hok
  try simp only [sA_1, sL_1, sI_1, vp_in_iff, Int32.le_iff_toInt_le, Int32.lt_iff_toInt_lt, ← Int32.toInt_inj, reduceIte, Nat.reduceEqDiff] at *
  all_goals omega
theorem ob_X10_allSayYes_3_inv1_9 (st : St) (a1 : Int32) (a2 : Int32) (a3 : Int32) (n_3 : Nat) (x4_3 : Int32) (hok : okM st) (hva1 : vp_in a1 100) (hpa : 0 ≤ a2.toInt) (hpb : a2.toInt < 16) (hi0_3 : 0 ≤ x4_3.toInt) (hi1_3 : x4_3.toInt ≤ ((16 : Int32)).toInt) (hi2_3 : ((16 : Int32)).toInt < x4_3.toInt + (n_3 + 1)) (h7_1 : ¬ 16 ≤ x4_3) (h22_3 : ((st.2.1 22 a1.toNatClampNeg) >>> (x4_3 &&& 31)) &&& 1 = 1) (h33_7 : ¬ (sp_X10_saysYes st x4_3 a2 a3) = 0) : (x4_3 + 1).toInt ≤ ((16 : Int32)).toInt := by
  have z1 := (by decide : (0 : Int32).toInt = 0)
  have z2 := (by decide : (1 : Int32).toInt = 1)
  have z3 := (by decide : (16 : Int32).toInt = 16)
  have z4 := (by decide : (22 : Int32).toInt = 22)
  have z5 := (by decide : (31 : Int32).toInt = 31)
  have z6 := inc_I x4_3
  clear hva1 hpa hpb h33_7 hok
  try simp only [sA_1, sL_1, sI_1, vp_in_iff, Int32.le_iff_toInt_le, Int32.lt_iff_toInt_lt, ← Int32.toInt_inj, reduceIte, Nat.reduceEqDiff] at *
  all_goals omega
theorem ob_X10_allSayYes_3_inv2_10 (st : St) (a1 : Int32) (a2 : Int32) (a3 : Int32) (n_3 : Nat) (x4_3 : Int32) (hok : okM st) (hva1 : vp_in a1 100) (hpa : 0 ≤ a2.toInt) (hpb : a2.toInt < 16) (hi0_3 : 0 ≤ x4_3.toInt) (hi1_3 : x4_3.toInt ≤ ((16 : Int32)).toInt) (hi2_3 : ((16 : Int32)).toInt < x4_3.toInt + (n_3 + 1)) (h7_1 : ¬ 16 ≤ x4_3) (h22_3 : ((st.2.1 22 a1.toNatClampNeg) >>> (x4_3 &&& 31)) &&& 1 = 1) (h33_7 : ¬ (sp_X10_saysYes st x4_3 a2 a3) = 0) : ((16 : Int32)).toInt < (x4_3 + 1).toInt + n_3 := by
  have z1 := (by decide : (0 : Int32).toInt = 0)
  have z2 := (by decide : (1 : Int32).toInt = 1)
  have z3 := (by decide : (16 : Int32).toInt = 16)
  have z4 := (by decide : (22 : Int32).toInt = 22)
  have z5 := (by decide : (31 : Int32).toInt = 31)
  have z6 := inc_I x4_3
  clear hva1 hpa hpb h33_7 hok
  try simp only [sA_1, sL_1, sI_1, vp_in_iff, Int32.le_iff_toInt_le, Int32.lt_iff_toInt_lt, ← Int32.toInt_inj, reduceIte, Nat.reduceEqDiff] at *
  all_goals omega
theorem ob_X10_allSayYes_3_inv0_11 (st : St) (a1 : Int32) (a2 : Int32) (a3 : Int32) (hok : okM st) (hva1 : vp_in a1 100) (hpa : 0 ≤ a2.toInt) (hpb : a2.toInt < 16) : 0 ≤ (0 : Int32).toInt := by
  have z1 := (by decide : (0 : Int32).toInt = 0)
  clear hva1 hpa hpb hok
  try simp only [sA_1, sL_1, sI_1, vp_in_iff, Int32.le_iff_toInt_le, Int32.lt_iff_toInt_lt, ← Int32.toInt_inj, reduceIte, Nat.reduceEqDiff] at *
  all_goals omega
theorem ob_X10_allSayYes_3_inv1_12 (st : St) (a1 : Int32) (a2 : Int32) (a3 : Int32) (hok : okM st) (hva1 : vp_in a1 100) (hpa : 0 ≤ a2.toInt) (hpb : a2.toInt < 16) : (0 : Int32).toInt ≤ ((16 : Int32)).toInt := by
  have z1 := (by decide : (0 : Int32).toInt = 0)
  have z2 := (by decide : (16 : Int32).toInt = 16)
  clear hva1 hpa hpb hok
  try simp only [sA_1, sL_1, sI_1, vp_in_iff, Int32.le_iff_toInt_le, Int32.lt_iff_toInt_lt, ← Int32.toInt_inj, reduceIte, Nat.reduceEqDiff] at *
  all_goals omega
theorem ob_X10_allSayYes_3_inv2_13 (st : St) (a1 : Int32) (a2 : Int32) (a3 : Int32) (hok : okM st) (hva1 : vp_in a1 100) (hpa : 0 ≤ a2.toInt) (hpb : a2.toInt < 16) : ((16 : Int32)).toInt < (0 : Int32).toInt + (((16 : Int32)).toInt.toNat + 1) := by
  have z1 := (by decide : (0 : Int32).toInt = 0)
  have z2 := (by decide : (1 : Int32).toInt = 1)
  have z3 := (by decide : (16 : Int32).toInt = 16)
  clear hva1 hpa hpb hok
  try simp only [sA_1, sL_1, sI_1, vp_in_iff, Int32.le_iff_toInt_le, Int32.lt_iff_toInt_lt, ← Int32.toInt_inj, reduceIte, Nat.reduceEqDiff] at *
  all_goals omega
theorem ob_X10_hasContract_3_zero (st : St) (a1 : Int32) (a2 : Int32) (a3 : Int32) (x4_3 : Int32) (hok : okM st) (hva1 : vp_in a1 100) (hpa : 0 ≤ a2.toInt) (hpb : a2.toInt < 16) (hi0_3 : 0 ≤ x4_3.toInt) (hi1_3 : x4_3.toInt ≤ (st.1 3).toInt) (hi2_3 : (st.1 3).toInt < x4_3.toInt + 0) : False := by
  have z1 := okM_3 hok
  have z2 := (by decide : (0 : Int32).toInt = 0)
  have z3 := (by decide : (3 : Int32).toInt = 3)
  have z4 := (by decide : (16 : Int32).toInt = 16)
  have z5 := (by decide : (100 : Int32).toInt = 100)
  clear hok
  try simp only [sA_1, sL_1, sI_1, vp_in_iff, Int32.le_iff_toInt_le, Int32.lt_iff_toInt_lt, ← Int32.toInt_inj, reduceIte, Nat.reduceEqDiff] at *
  all_goals omega
theorem ob_X10_hasContract_17_2 (st : St) (a1 : Int32) (a2 : Int32) (a3 : Int32) (n_3 : Nat) (x4_3 : Int32) (hok : okM st) (hva1 : vp_in a1 100) (hpa : 0 ≤ a2.toInt) (hpb : a2.toInt < 16) (hi0_3 : 0 ≤ x4_3.toInt) (hi1_3 : x4_3.toInt ≤ (st.1 3).toInt) (hi2_3 : (st.1 3).toInt < x4_3.toInt + (n_3 + 1)) (h9_1 : ¬ st.1 3 ≤ x4_3) : vp_in a1 100 := by
  have z1 := (by decide : (100 : Int32).toInt = 100)
  clear hpa hpb hi0_3 hi1_3 hi2_3 h9_1 hok
  try simp only [sA_1, sL_1, sI_1, vp_in_iff, Int32.le_iff_toInt_le, Int32.lt_iff_toInt_lt, ← Int32.toInt_inj, reduceIte, Nat.reduceEqDiff] at *
  all_goals omega
theorem ob_X10_hasContract_24_3 (st : St) (a1 : Int32) (a2 : Int32) (a3 : Int32) (n_3 : Nat) (x4_3 : Int32) (hok : okM st) (hva1 : vp_in a1 100) (hpa : 0 ≤ a2.toInt) (hpb : a2.toInt < 16) (hi0_3 : 0 ≤ x4_3.toInt) (hi1_3 : x4_3.toInt ≤ (st.1 3).toInt) (hi2_3 : (st.1 3).toInt < x4_3.toInt + (n_3 + 1)) (h9_1 : ¬ st.1 3 ≤ x4_3) : vp_in x4_3 40 := by
  have z1 := okM_3 hok
  have z2 := (by decide : (0 : Int32).toInt = 0)
  have z3 := (by decide : (1 : Int32).toInt = 1)
  have z4 := (by decide : (3 : Int32).toInt = 3)
  have z5 := (by decide : (40 : Int32).toInt = 40)
  clear hva1 hpa hpb hok
  try simp only [sA_1, sL_1, sI_1, vp_in_iff, Int32.le_iff_toInt_le, Int32.lt_iff_toInt_lt, ← Int32.toInt_inj, reduceIte, Nat.reduceEqDiff] at *
  all_goals omega
theorem ob_X10_hasContract_3_inv0_5 (st : St) (a1 : Int32) (a2 : Int32) (a3 : Int32) (n_3 : Nat) (x4_3 : Int32) (hok : okM st) (hva1 : vp_in a1 100) (hpa : 0 ≤ a2.toInt) (hpb : a2.toInt < 16) (hi0_3 : 0 ≤ x4_3.toInt) (hi1_3 : x4_3.toInt ≤ (st.1 3).toInt) (hi2_3 : (st.1 3).toInt < x4_3.toInt + (n_3 + 1)) (h9_1 : ¬ st.1 3 ≤ x4_3) (h29_4 : ¬ ((st.2.1 22 a1.toNatClampNeg) >>> ((st.2.1 6 x4_3.toNatClampNeg) &&& 31)) &&& 1 = 1) : 0 ≤ (x4_3 + 1).toInt := by
  have z1 := okM_3 hok
  have z2 := okM_6 hok
  have z3 := (by decide : (0 : Int32).toInt = 0)
  have z4 := (by decide : (1 : Int32).toInt = 1)
  have z5 := (by decide : (3 : Int32).toInt = 3)
  have z6 := (by decide : (6 : Int32).toInt = 6)
  have z7 := (by decide : (22 : Int32).toInt = 22)
  have z8 := (by decide : (31 : Int32).toInt = 31)
  have z9 := inc_I x4_3
  clear hva1 hpa hpb hok
  try simp only [sA_1, sL_1, sI_1, vp_in_iff, Int32.le_iff_toInt_le, Int32.lt_iff_toInt_lt, ← Int32.toInt_inj, reduceIte, Nat.reduceEqDiff] at *
  all_goals omega
theorem ob_X10_hasContract_3_inv1_6 (st : St) (a1 : Int32) (a2 : Int32) (a3 : Int32) (n_3 : Nat) (x4_3 : Int32) (hok : okM st) (hva1 : vp_in a1 100) (hpa : 0 ≤ a2.toInt) (hpb : a2.toInt < 16) (hi0_3 : 0 ≤ x4_3.toInt) (hi1_3 : x4_3.toInt ≤ (st.1 3).toInt) (hi2_3 : (st.1 3).toInt < x4_3.toInt + (n_3 + 1)) (h9_1 : ¬ st.1 3 ≤ x4_3) (h29_4 : ¬ ((st.2.1 22 a1.toNatClampNeg) >>> ((st.2.1 6 x4_3.toNatClampNeg) &&& 31)) &&& 1 = 1) : (x4_3 + 1).toInt ≤ (st.1 3).toInt := by
  have z1 := okM_3 hok
  have z2 := okM_6 hok
  have z3 := (by decide : (0 : Int32).toInt = 0)
  have z4 := (by decide : (1 : Int32).toInt = 1)
  have z5 := (by decide : (3 : Int32).toInt = 3)
  have z6 := (by decide : (6 : Int32).toInt = 6)
  have z7 := (by decide : (22 : Int32).toInt = 22)
  have z8 := (by decide : (31 : Int32).toInt = 31)
  have z9 := inc_I x4_3
  clear hva1 hpa hpb hok
  try simp only [sA_1, sL_1, sI_1, vp_in_iff, Int32.le_iff_toInt_le, Int32.lt_iff_toInt_lt, ← Int32.toInt_inj, reduceIte, Nat.reduceEqDiff] at *
  all_goals omega
theorem ob_X10_hasContract_3_inv2_7 (st : St) (a1 : Int32) (a2 : Int32) (a3 : Int32) (n_3 : Nat) (x4_3 : Int32) (hok : okM st) (hva1 : vp_in a1 100) (hpa : 0 ≤ a2.toInt) (hpb : a2.toInt < 16) (hi0_3 : 0 ≤ x4_3.toInt) (hi1_3 : x4_3.toInt ≤ (st.1 3).toInt) (hi2_3 : (st.1 3).toInt < x4_3.toInt + (n_3 + 1)) (h9_1 : ¬ st.1 3 ≤ x4_3) (h29_4 : ¬ ((st.2.1 22 a1.toNatClampNeg) >>> ((st.2.1 6 x4_3.toNatClampNeg) &&& 31)) &&& 1 = 1) : (st.1 3).toInt < (x4_3 + 1).toInt + n_3 := by
  have z1 := okM_3 hok
  have z2 := okM_6 hok
  have z3 := (by decide : (0 : Int32).toInt = 0)
  have z4 := (by decide : (1 : Int32).toInt = 1)
  have z5 := (by decide : (3 : Int32).toInt = 3)
  have z6 := (by decide : (6 : Int32).toInt = 6)
  have z7 := (by decide : (22 : Int32).toInt = 22)
  have z8 := (by decide : (31 : Int32).toInt = 31)
  have z9 := inc_I x4_3
  clear hva1 hpa hpb hok
  try simp only [sA_1, sL_1, sI_1, vp_in_iff, Int32.le_iff_toInt_le, Int32.lt_iff_toInt_lt, ← Int32.toInt_inj, reduceIte, Nat.reduceEqDiff] at *
  all_goals omega
theorem ob_X10_hasContract_39_8 (st : St) (a1 : Int32) (a2 : Int32) (a3 : Int32) (n_3 : Nat) (x4_3 : Int32) (hok : okM st) (hva1 : vp_in a1 100) (hpa : 0 ≤ a2.toInt) (hpb : a2.toInt < 16) (hi0_3 : 0 ≤ x4_3.toInt) (hi1_3 : x4_3.toInt ≤ (st.1 3).toInt) (hi2_3 : (st.1 3).toInt < x4_3.toInt + (n_3 + 1)) (h9_1 : ¬ st.1 3 ≤ x4_3) (h29_4 : ((st.2.1 22 a1.toNatClampNeg) >>> ((st.2.1 6 x4_3.toNatClampNeg) &&& 31)) &&& 1 = 1) : vp_in x4_3 40 := by
  have z1 := okM_3 hok
  have z2 := okM_6 hok
  have z3 := (by decide : (0 : Int32).toInt = 0)
  have z4 := (by decide : (1 : Int32).toInt = 1)
  have z5 := (by decide : (3 : Int32).toInt = 3)
  have z6 := (by decide : (6 : Int32).toInt = 6)
  have z7 := (by decide : (22 : Int32).toInt = 22)
  have z8 := (by decide : (31 : Int32).toInt = 31)
  have z9 := (by decide : (40 : Int32).toInt = 40)
  clear hva1 hpa hpb hok
  try simp only [sA_1, sL_1, sI_1, vp_in_iff, Int32.le_iff_toInt_le, Int32.lt_iff_toInt_lt, ← Int32.toInt_inj, reduceIte, Nat.reduceEqDiff] at *
  all_goals omega
theorem ob_X10_hasContract_3_inv0_10 (st : St) (a1 : Int32) (a2 : Int32) (a3 : Int32) (n_3 : Nat) (x4_3 : Int32) (hok : okM st) (hva1 : vp_in a1 100) (hpa : 0 ≤ a2.toInt) (hpb : a2.toInt < 16) (hi0_3 : 0 ≤ x4_3.toInt) (hi1_3 : x4_3.toInt ≤ (st.1 3).toInt) (hi2_3 : (st.1 3).toInt < x4_3.toInt + (n_3 + 1)) (h9_1 : ¬ st.1 3 ≤ x4_3) (h29_4 : ((st.2.1 22 a1.toNatClampNeg) >>> ((st.2.1 6 x4_3.toNatClampNeg) &&& 31)) &&& 1 = 1) (h44_9 : (sp_X10_isAtOrAbove st (st.2.1 7 x4_3.toNatClampNeg) a2) = 0) : 0 ≤ (x4_3 + 1).toInt := by
  have z1 := okM_3 hok
  have z2 := okM_6 hok
  have z3 := (by decide : (0 : Int32).toInt = 0)
  have z4 := (by decide : (1 : Int32).toInt = 1)
  have z5 := (by decide : (3 : Int32).toInt = 3)
  have z6 := (by decide : (6 : Int32).toInt = 6)
  have z7 := (by decide : (22 : Int32).toInt = 22)
  have z8 := (by decide : (31 : Int32).toInt = 31)
  have z9 := inc_I x4_3
  clear hva1 hpa hpb h44_9 hok
  try simp only [sA_1, sL_1, sI_1, vp_in_iff, Int32.le_iff_toInt_le, Int32.lt_iff_toInt_lt, ← Int32.toInt_inj, reduceIte, Nat.reduceEqDiff] at *
  all_goals omega
theorem ob_X10_hasContract_3_inv1_11 (st : St) (a1 : Int32) (a2 : Int32) (a3 : Int32) (n_3 : Nat) (x4_3 : Int32) (hok : okM st) (hva1 : vp_in a1 100) (hpa : 0 ≤ a2.toInt) (hpb : a2.toInt < 16) (hi0_3 : 0 ≤ x4_3.toInt) (hi1_3 : x4_3.toInt ≤ (st.1 3).toInt) (hi2_3 : (st.1 3).toInt < x4_3.toInt + (n_3 + 1)) (h9_1 : ¬ st.1 3 ≤ x4_3) (h29_4 : ((st.2.1 22 a1.toNatClampNeg) >>> ((st.2.1 6 x4_3.toNatClampNeg) &&& 31)) &&& 1 = 1) (h44_9 : (sp_X10_isAtOrAbove st (st.2.1 7 x4_3.toNatClampNeg) a2) = 0) : (x4_3 + 1).toInt ≤ (st.1 3).toInt := by
  have z1 := okM_3 hok
  have z2 := okM_6 hok
  have z3 := (by decide : (0 : Int32).toInt = 0)
  have z4 := (by decide : (1 : Int32).toInt = 1)
  have z5 := (by decide : (3 : Int32).toInt = 3)
  have z6 := (by decide : (6 : Int32).toInt = 6)
  have z7 := (by decide : (22 : Int32).toInt = 22)
  have z8 := (by decide : (31 : Int32).toInt = 31)
  have z9 := inc_I x4_3
  clear hva1 hpa hpb h44_9 hok
  try simp only [sA_1, sL_1, sI_1, vp_in_iff, Int32.le_iff_toInt_le, Int32.lt_iff_toInt_lt, ← Int32.toInt_inj, reduceIte, Nat.reduceEqDiff] at *
  all_goals omega
theorem ob_X10_hasContract_3_inv2_12 (st : St) (a1 : Int32) (a2 : Int32) (a3 : Int32) (n_3 : Nat) (x4_3 : Int32) (hok : okM st) (hva1 : vp_in a1 100) (hpa : 0 ≤ a2.toInt) (hpb : a2.toInt < 16) (hi0_3 : 0 ≤ x4_3.toInt) (hi1_3 : x4_3.toInt ≤ (st.1 3).toInt) (hi2_3 : (st.1 3).toInt < x4_3.toInt + (n_3 + 1)) (h9_1 : ¬ st.1 3 ≤ x4_3) (h29_4 : ((st.2.1 22 a1.toNatClampNeg) >>> ((st.2.1 6 x4_3.toNatClampNeg) &&& 31)) &&& 1 = 1) (h44_9 : (sp_X10_isAtOrAbove st (st.2.1 7 x4_3.toNatClampNeg) a2) = 0) : (st.1 3).toInt < (x4_3 + 1).toInt + n_3 := by
  have z1 := okM_3 hok
  have z2 := okM_6 hok
  have z3 := (by decide : (0 : Int32).toInt = 0)
  have z4 := (by decide : (1 : Int32).toInt = 1)
  have z5 := (by decide : (3 : Int32).toInt = 3)
  have z6 := (by decide : (6 : Int32).toInt = 6)
  have z7 := (by decide : (22 : Int32).toInt = 22)
  have z8 := (by decide : (31 : Int32).toInt = 31)
  have z9 := inc_I x4_3
  clear hva1 hpa hpb h44_9 hok
  try simp only [sA_1, sL_1, sI_1, vp_in_iff, Int32.le_iff_toInt_le, Int32.lt_iff_toInt_lt, ← Int32.toInt_inj, reduceIte, Nat.reduceEqDiff] at *
  all_goals omega
theorem ob_X10_hasContract_53_13 (st : St) (a1 : Int32) (a2 : Int32) (a3 : Int32) (n_3 : Nat) (x4_3 : Int32) (hok : okM st) (hva1 : vp_in a1 100) (hpa : 0 ≤ a2.toInt) (hpb : a2.toInt < 16) (hi0_3 : 0 ≤ x4_3.toInt) (hi1_3 : x4_3.toInt ≤ (st.1 3).toInt) (hi2_3 : (st.1 3).toInt < x4_3.toInt + (n_3 + 1)) (h9_1 : ¬ st.1 3 ≤ x4_3) (h29_4 : ((st.2.1 22 a1.toNatClampNeg) >>> ((st.2.1 6 x4_3.toNatClampNeg) &&& 31)) &&& 1 = 1) (h44_9 : ¬ (sp_X10_isAtOrAbove st (st.2.1 7 x4_3.toNatClampNeg) a2) = 0) : vp_in x4_3 40 := by
  have z1 := okM_3 hok
  have z2 := okM_6 hok
  have z3 := (by decide : (0 : Int32).toInt = 0)
  have z4 := (by decide : (1 : Int32).toInt = 1)
  have z5 := (by decide : (3 : Int32).toInt = 3)
  have z6 := (by decide : (6 : Int32).toInt = 6)
  have z7 := (by decide : (22 : Int32).toInt = 22)
  have z8 := (by decide : (31 : Int32).toInt = 31)
  have z9 := (by decide : (40 : Int32).toInt = 40)
  clear hva1 hpa hpb h44_9 hok
  try simp only [sA_1, sL_1, sI_1, vp_in_iff, Int32.le_iff_toInt_le, Int32.lt_iff_toInt_lt, ← Int32.toInt_inj, reduceIte, Nat.reduceEqDiff] at *
  all_goals omega
theorem ob_X10_hasContract_3_inv0_15 (st : St) (a1 : Int32) (a2 : Int32) (a3 : Int32) (n_3 : Nat) (x4_3 : Int32) (hok : okM st) (hva1 : vp_in a1 100) (hpa : 0 ≤ a2.toInt) (hpb : a2.toInt < 16) (hi0_3 : 0 ≤ x4_3.toInt) (hi1_3 : x4_3.toInt ≤ (st.1 3).toInt) (hi2_3 : (st.1 3).toInt < x4_3.toInt + (n_3 + 1)) (h9_1 : ¬ st.1 3 ≤ x4_3) (h29_4 : ((st.2.1 22 a1.toNatClampNeg) >>> ((st.2.1 6 x4_3.toNatClampNeg) &&& 31)) &&& 1 = 1) (h44_9 : ¬ (sp_X10_isAtOrAbove st (st.2.1 7 x4_3.toNatClampNeg) a2) = 0) (h55_14 : a3 < st.2.1 8 x4_3.toNatClampNeg) : 0 ≤ (x4_3 + 1).toInt := by
  have z1 := okM_3 hok
  have z2 := okM_6 hok
  have z3 := okM_8 hok
  have z4 := (by decide : (0 : Int32).toInt = 0)
  have z5 := (by decide : (1 : Int32).toInt = 1)
  have z6 := (by decide : (3 : Int32).toInt = 3)
  have z7 := (by decide : (6 : Int32).toInt = 6)
  have z8 := (by decide : (8 : Int32).toInt = 8)
  have z9 := (by decide : (22 : Int32).toInt = 22)
  have z10 := (by decide : (31 : Int32).toInt = 31)
  have z11 := inc_I x4_3
  clear hva1 hpa hpb h44_9 hok
  try simp only [sA_1, sL_1, sI_1, vp_in_iff, Int32.le_iff_toInt_le, Int32.lt_iff_toInt_lt, ← Int32.toInt_inj, reduceIte, Nat.reduceEqDiff] at *
  all_goals omega
theorem ob_X10_hasContract_3_inv1_16 (st : St) (a1 : Int32) (a2 : Int32) (a3 : Int32) (n_3 : Nat) (x4_3 : Int32) (hok : okM st) (hva1 : vp_in a1 100) (hpa : 0 ≤ a2.toInt) (hpb : a2.toInt < 16) (hi0_3 : 0 ≤ x4_3.toInt) (hi1_3 : x4_3.toInt ≤ (st.1 3).toInt) (hi2_3 : (st.1 3).toInt < x4_3.toInt + (n_3 + 1)) (h9_1 : ¬ st.1 3 ≤ x4_3) (h29_4 : ((st.2.1 22 a1.toNatClampNeg) >>> ((st.2.1 6 x4_3.toNatClampNeg) &&& 31)) &&& 1 = 1) (h44_9 : ¬ (sp_X10_isAtOrAbove st (st.2.1 7 x4_3.toNatClampNeg) a2) = 0) (h55_14 : a3 < st.2.1 8 x4_3.toNatClampNeg) : (x4_3 + 1).toInt ≤ (st.1 3).toInt := by
  have z1 := okM_3 hok
  have z2 := okM_6 hok
  have z3 := okM_8 hok
  have z4 := (by decide : (0 : Int32).toInt = 0)
  have z5 := (by decide : (1 : Int32).toInt = 1)
  have z6 := (by decide : (3 : Int32).toInt = 3)
  have z7 := (by decide : (6 : Int32).toInt = 6)
  have z8 := (by decide : (8 : Int32).toInt = 8)
  have z9 := (by decide : (22 : Int32).toInt = 22)
  have z10 := (by decide : (31 : Int32).toInt = 31)
  have z11 := inc_I x4_3
  clear hva1 hpa hpb h44_9 hok
  try simp only [sA_1, sL_1, sI_1, vp_in_iff, Int32.le_iff_toInt_le, Int32.lt_iff_toInt_lt, ← Int32.toInt_inj, reduceIte, Nat.reduceEqDiff] at *
  all_goals omega
theorem ob_X10_hasContract_3_inv2_17 (st : St) (a1 : Int32) (a2 : Int32) (a3 : Int32) (n_3 : Nat) (x4_3 : Int32) (hok : okM st) (hva1 : vp_in a1 100) (hpa : 0 ≤ a2.toInt) (hpb : a2.toInt < 16) (hi0_3 : 0 ≤ x4_3.toInt) (hi1_3 : x4_3.toInt ≤ (st.1 3).toInt) (hi2_3 : (st.1 3).toInt < x4_3.toInt + (n_3 + 1)) (h9_1 : ¬ st.1 3 ≤ x4_3) (h29_4 : ((st.2.1 22 a1.toNatClampNeg) >>> ((st.2.1 6 x4_3.toNatClampNeg) &&& 31)) &&& 1 = 1) (h44_9 : ¬ (sp_X10_isAtOrAbove st (st.2.1 7 x4_3.toNatClampNeg) a2) = 0) (h55_14 : a3 < st.2.1 8 x4_3.toNatClampNeg) : (st.1 3).toInt < (x4_3 + 1).toInt + n_3 := by
  have z1 := okM_3 hok
  have z2 := okM_6 hok
  have z3 := okM_8 hok
  have z4 := (by decide : (0 : Int32).toInt = 0)
  have z5 := (by decide : (1 : Int32).toInt = 1)
  have z6 := (by decide : (3 : Int32).toInt = 3)
  have z7 := (by decide : (6 : Int32).toInt = 6)
  have z8 := (by decide : (8 : Int32).toInt = 8)
  have z9 := (by decide : (22 : Int32).toInt = 22)
  have z10 := (by decide : (31 : Int32).toInt = 31)
  have z11 := inc_I x4_3
  clear hva1 hpa hpb h44_9 hok
  try simp only [sA_1, sL_1, sI_1, vp_in_iff, Int32.le_iff_toInt_le, Int32.lt_iff_toInt_lt, ← Int32.toInt_inj, reduceIte, Nat.reduceEqDiff] at *
  all_goals omega
theorem ob_X10_hasContract_65_18 (st : St) (a1 : Int32) (a2 : Int32) (a3 : Int32) (n_3 : Nat) (x4_3 : Int32) (hok : okM st) (hva1 : vp_in a1 100) (hpa : 0 ≤ a2.toInt) (hpb : a2.toInt < 16) (hi0_3 : 0 ≤ x4_3.toInt) (hi1_3 : x4_3.toInt ≤ (st.1 3).toInt) (hi2_3 : (st.1 3).toInt < x4_3.toInt + (n_3 + 1)) (h9_1 : ¬ st.1 3 ≤ x4_3) (h29_4 : ((st.2.1 22 a1.toNatClampNeg) >>> ((st.2.1 6 x4_3.toNatClampNeg) &&& 31)) &&& 1 = 1) (h44_9 : ¬ (sp_X10_isAtOrAbove st (st.2.1 7 x4_3.toNatClampNeg) a2) = 0) (h55_14 : ¬ a3 < st.2.1 8 x4_3.toNatClampNeg) : vp_in x4_3 40 := by
  have z1 := okM_3 hok
  have z2 := okM_6 hok
  have z3 := okM_8 hok
  have z4 := (by decide : (0 : Int32).toInt = 0)
  have z5 := (by decide : (1 : Int32).toInt = 1)
  have z6 := (by decide : (3 : Int32).toInt = 3)
  have z7 := (by decide : (6 : Int32).toInt = 6)
  have z8 := (by decide : (8 : Int32).toInt = 8)
  have z9 := (by decide : (22 : Int32).toInt = 22)
  have z10 := (by decide : (31 : Int32).toInt = 31)
  have z11 := (by decide : (40 : Int32).toInt = 40)
  clear hva1 hpa hpb h44_9 hok
  try simp only [sA_1, sL_1, sI_1, vp_in_iff, Int32.le_iff_toInt_le, Int32.lt_iff_toInt_lt, ← Int32.toInt_inj, reduceIte, Nat.reduceEqDiff] at *
  all_goals omega
theorem ob_X10_hasContract_3_inv0_20 (st : St) (a1 : Int32) (a2 : Int32) (a3 : Int32) (n_3 : Nat) (x4_3 : Int32) (hok : okM st) (hva1 : vp_in a1 100) (hpa : 0 ≤ a2.toInt) (hpb : a2.toInt < 16) (hi0_3 : 0 ≤ x4_3.toInt) (hi1_3 : x4_3.toInt ≤ (st.1 3).toInt) (hi2_3 : (st.1 3).toInt < x4_3.toInt + (n_3 + 1)) (h9_1 : ¬ st.1 3 ≤ x4_3) (h29_4 : ((st.2.1 22 a1.toNatClampNeg) >>> ((st.2.1 6 x4_3.toNatClampNeg) &&& 31)) &&& 1 = 1) (h44_9 : ¬ (sp_X10_isAtOrAbove st (st.2.1 7 x4_3.toNatClampNeg) a2) = 0) (h55_14 : ¬ a3 < st.2.1 8 x4_3.toNatClampNeg) (h66_19 : st.2.1 9 x4_3.toNatClampNeg < a3) : 0 ≤ (x4_3 + 1).toInt := by
  have z1 := okM_3 hok
  have z2 := okM_6 hok
  have z3 := okM_8 hok
  have z4 := (by decide : (0 : Int32).toInt = 0)
  have z5 := (by decide : (1 : Int32).toInt = 1)
  have z6 := (by decide : (3 : Int32).toInt = 3)
  have z7 := (by decide : (6 : Int32).toInt = 6)
  have z8 := (by decide : (8 : Int32).toInt = 8)
  have z9 := (by decide : (9 : Int32).toInt = 9)
  have z10 := (by decide : (22 : Int32).toInt = 22)
  have z11 := (by decide : (31 : Int32).toInt = 31)
  have z12 := inc_I x4_3
  clear hva1 hpa hpb h44_9 hok
  try simp only [sA_1, sL_1, sI_1, vp_in_iff, Int32.le_iff_toInt_le, Int32.lt_iff_toInt_lt, ← Int32.toInt_inj, reduceIte, Nat.reduceEqDiff] at *
  all_goals omega
theorem ob_X10_hasContract_3_inv1_21 (st : St) (a1 : Int32) (a2 : Int32) (a3 : Int32) (n_3 : Nat) (x4_3 : Int32) (hok : okM st) (hva1 : vp_in a1 100) (hpa : 0 ≤ a2.toInt) (hpb : a2.toInt < 16) (hi0_3 : 0 ≤ x4_3.toInt) (hi1_3 : x4_3.toInt ≤ (st.1 3).toInt) (hi2_3 : (st.1 3).toInt < x4_3.toInt + (n_3 + 1)) (h9_1 : ¬ st.1 3 ≤ x4_3) (h29_4 : ((st.2.1 22 a1.toNatClampNeg) >>> ((st.2.1 6 x4_3.toNatClampNeg) &&& 31)) &&& 1 = 1) (h44_9 : ¬ (sp_X10_isAtOrAbove st (st.2.1 7 x4_3.toNatClampNeg) a2) = 0) (h55_14 : ¬ a3 < st.2.1 8 x4_3.toNatClampNeg) (h66_19 : st.2.1 9 x4_3.toNatClampNeg < a3) : (x4_3 + 1).toInt ≤ (st.1 3).toInt := by
  have z1 := okM_3 hok
  have z2 := okM_6 hok
  have z3 := okM_8 hok
  have z4 := (by decide : (0 : Int32).toInt = 0)
  have z5 := (by decide : (1 : Int32).toInt = 1)
  have z6 := (by decide : (3 : Int32).toInt = 3)
  have z7 := (by decide : (6 : Int32).toInt = 6)
  have z8 := (by decide : (8 : Int32).toInt = 8)
  have z9 := (by decide : (9 : Int32).toInt = 9)
  have z10 := (by decide : (22 : Int32).toInt = 22)
  have z11 := (by decide : (31 : Int32).toInt = 31)
  have z12 := inc_I x4_3
  clear hva1 hpa hpb h44_9 hok
  try simp only [sA_1, sL_1, sI_1, vp_in_iff, Int32.le_iff_toInt_le, Int32.lt_iff_toInt_lt, ← Int32.toInt_inj, reduceIte, Nat.reduceEqDiff] at *
  all_goals omega
theorem ob_X10_hasContract_3_inv2_22 (st : St) (a1 : Int32) (a2 : Int32) (a3 : Int32) (n_3 : Nat) (x4_3 : Int32) (hok : okM st) (hva1 : vp_in a1 100) (hpa : 0 ≤ a2.toInt) (hpb : a2.toInt < 16) (hi0_3 : 0 ≤ x4_3.toInt) (hi1_3 : x4_3.toInt ≤ (st.1 3).toInt) (hi2_3 : (st.1 3).toInt < x4_3.toInt + (n_3 + 1)) (h9_1 : ¬ st.1 3 ≤ x4_3) (h29_4 : ((st.2.1 22 a1.toNatClampNeg) >>> ((st.2.1 6 x4_3.toNatClampNeg) &&& 31)) &&& 1 = 1) (h44_9 : ¬ (sp_X10_isAtOrAbove st (st.2.1 7 x4_3.toNatClampNeg) a2) = 0) (h55_14 : ¬ a3 < st.2.1 8 x4_3.toNatClampNeg) (h66_19 : st.2.1 9 x4_3.toNatClampNeg < a3) : (st.1 3).toInt < (x4_3 + 1).toInt + n_3 := by
  have z1 := okM_3 hok
  have z2 := okM_6 hok
  have z3 := okM_8 hok
  have z4 := (by decide : (0 : Int32).toInt = 0)
  have z5 := (by decide : (1 : Int32).toInt = 1)
  have z6 := (by decide : (3 : Int32).toInt = 3)
  have z7 := (by decide : (6 : Int32).toInt = 6)
  have z8 := (by decide : (8 : Int32).toInt = 8)
  have z9 := (by decide : (9 : Int32).toInt = 9)
  have z10 := (by decide : (22 : Int32).toInt = 22)
  have z11 := (by decide : (31 : Int32).toInt = 31)
  have z12 := inc_I x4_3
  clear hva1 hpa hpb h44_9 hok
  try simp only [sA_1, sL_1, sI_1, vp_in_iff, Int32.le_iff_toInt_le, Int32.lt_iff_toInt_lt, ← Int32.toInt_inj, reduceIte, Nat.reduceEqDiff] at *
  all_goals omega
theorem ob_X10_hasContract_3_inv0_23 (st : St) (a1 : Int32) (a2 : Int32) (a3 : Int32) (hok : okM st) (hva1 : vp_in a1 100) (hpa : 0 ≤ a2.toInt) (hpb : a2.toInt < 16) : 0 ≤ (0 : Int32).toInt := by
  have z1 := (by decide : (0 : Int32).toInt = 0)
  clear hva1 hpa hpb hok
  try simp only [sA_1, sL_1, sI_1, vp_in_iff, Int32.le_iff_toInt_le, Int32.lt_iff_toInt_lt, ← Int32.toInt_inj, reduceIte, Nat.reduceEqDiff] at *
  all_goals omega
theorem ob_X10_hasContract_3_inv1_24 (st : St) (a1 : Int32) (a2 : Int32) (a3 : Int32) (hok : okM st) (hva1 : vp_in a1 100) (hpa : 0 ≤ a2.toInt) (hpb : a2.toInt < 16) : (0 : Int32).toInt ≤ (st.1 3).toInt := by
  have z1 := okM_3 hok
  have z2 := (by decide : (0 : Int32).toInt = 0)
  have z3 := (by decide : (3 : Int32).toInt = 3)
  clear hva1 hpa hpb hok
  try simp only [sA_1, sL_1, sI_1, vp_in_iff, Int32.le_iff_toInt_le, Int32.lt_iff_toInt_lt, ← Int32.toInt_inj, reduceIte, Nat.reduceEqDiff] at *
  all_goals omega
theorem ob_X10_hasContract_3_inv2_25 (st : St) (a1 : Int32) (a2 : Int32) (a3 : Int32) (hok : okM st) (hva1 : vp_in a1 100) (hpa : 0 ≤ a2.toInt) (hpb : a2.toInt < 16) : (st.1 3).toInt < (0 : Int32).toInt + ((st.1 3).toInt.toNat + 1) := by
  have z1 := okM_3 hok
  have z2 := (by decide : (0 : Int32).toInt = 0)
  have z3 := (by decide : (1 : Int32).toInt = 1)
  have z4 := (by decide : (3 : Int32).toInt = 3)
  clear hva1 hpa hpb hok
  try simp only [sA_1, sL_1, sI_1, vp_in_iff, Int32.le_iff_toInt_le, Int32.lt_iff_toInt_lt, ← Int32.toInt_inj, reduceIte, Nat.reduceEqDiff] at *
  all_goals omega
theorem ob_X10_hasDuty_3_zero (st : St) (a1 : Int32) (a2 : Int32) (a3 : Int32) (x4_3 : Int32) (hok : okM st) (hva1 : vp_in a1 100) (hi0_3 : 0 ≤ x4_3.toInt) (hi1_3 : x4_3.toInt ≤ (st.1 4).toInt) (hi2_3 : (st.1 4).toInt < x4_3.toInt + 0) : False := by
  have z1 := okM_4 hok
  have z2 := (by decide : (0 : Int32).toInt = 0)
  have z3 := (by decide : (4 : Int32).toInt = 4)
  have z4 := (by decide : (100 : Int32).toInt = 100)
  clear hok
  try simp only [sA_1, sL_1, sI_1, vp_in_iff, Int32.le_iff_toInt_le, Int32.lt_iff_toInt_lt, ← Int32.toInt_inj, reduceIte, Nat.reduceEqDiff] at *
  all_goals omega
theorem ob_X10_hasDuty_18_2 (st : St) (a1 : Int32) (a2 : Int32) (a3 : Int32) (n_3 : Nat) (x4_3 : Int32) (hok : okM st) (hva1 : vp_in a1 100) (hi0_3 : 0 ≤ x4_3.toInt) (hi1_3 : x4_3.toInt ≤ (st.1 4).toInt) (hi2_3 : (st.1 4).toInt < x4_3.toInt + (n_3 + 1)) (h9_1 : ¬ st.1 4 ≤ x4_3) : vp_in x4_3 20 := by
  have z1 := okM_4 hok
  have z2 := (by decide : (0 : Int32).toInt = 0)
  have z3 := (by decide : (1 : Int32).toInt = 1)
  have z4 := (by decide : (4 : Int32).toInt = 4)
  have z5 := (by decide : (20 : Int32).toInt = 20)
  clear hva1 hok
  try simp only [sA_1, sL_1, sI_1, vp_in_iff, Int32.le_iff_toInt_le, Int32.lt_iff_toInt_lt, ← Int32.toInt_inj, reduceIte, Nat.reduceEqDiff] at *
  all_goals omega
theorem ob_X10_hasDuty_3_inv0_4 (st : St) (a1 : Int32) (a2 : Int32) (a3 : Int32) (n_3 : Nat) (x4_3 : Int32) (hok : okM st) (hva1 : vp_in a1 100) (hi0_3 : 0 ≤ x4_3.toInt) (hi1_3 : x4_3.toInt ≤ (st.1 4).toInt) (hi2_3 : (st.1 4).toInt < x4_3.toInt + (n_3 + 1)) (h9_1 : ¬ st.1 4 ≤ x4_3) (h20_3 : ¬ st.2.1 11 x4_3.toNatClampNeg = a2) : 0 ≤ (x4_3 + 1).toInt := by
  have z1 := okM_4 hok
  have z2 := (by decide : (0 : Int32).toInt = 0)
  have z3 := (by decide : (1 : Int32).toInt = 1)
  have z4 := (by decide : (4 : Int32).toInt = 4)
  have z5 := (by decide : (11 : Int32).toInt = 11)
  have z6 := inc_I x4_3
  clear hva1 hok
  try simp only [sA_1, sL_1, sI_1, vp_in_iff, Int32.le_iff_toInt_le, Int32.lt_iff_toInt_lt, ← Int32.toInt_inj, reduceIte, Nat.reduceEqDiff] at *
  all_goals omega
theorem ob_X10_hasDuty_3_inv1_5 (st : St) (a1 : Int32) (a2 : Int32) (a3 : Int32) (n_3 : Nat) (x4_3 : Int32) (hok : okM st) (hva1 : vp_in a1 100) (hi0_3 : 0 ≤ x4_3.toInt) (hi1_3 : x4_3.toInt ≤ (st.1 4).toInt) (hi2_3 : (st.1 4).toInt < x4_3.toInt + (n_3 + 1)) (h9_1 : ¬ st.1 4 ≤ x4_3) (h20_3 : ¬ st.2.1 11 x4_3.toNatClampNeg = a2) : (x4_3 + 1).toInt ≤ (st.1 4).toInt := by
  have z1 := okM_4 hok
  have z2 := (by decide : (0 : Int32).toInt = 0)
  have z3 := (by decide : (1 : Int32).toInt = 1)
  have z4 := (by decide : (4 : Int32).toInt = 4)
  have z5 := (by decide : (11 : Int32).toInt = 11)
  have z6 := inc_I x4_3
  clear hva1 hok
  try simp only [sA_1, sL_1, sI_1, vp_in_iff, Int32.le_iff_toInt_le, Int32.lt_iff_toInt_lt, ← Int32.toInt_inj, reduceIte, Nat.reduceEqDiff] at *
  all_goals omega
theorem ob_X10_hasDuty_3_inv2_6 (st : St) (a1 : Int32) (a2 : Int32) (a3 : Int32) (n_3 : Nat) (x4_3 : Int32) (hok : okM st) (hva1 : vp_in a1 100) (hi0_3 : 0 ≤ x4_3.toInt) (hi1_3 : x4_3.toInt ≤ (st.1 4).toInt) (hi2_3 : (st.1 4).toInt < x4_3.toInt + (n_3 + 1)) (h9_1 : ¬ st.1 4 ≤ x4_3) (h20_3 : ¬ st.2.1 11 x4_3.toNatClampNeg = a2) : (st.1 4).toInt < (x4_3 + 1).toInt + n_3 := by
  have z1 := okM_4 hok
  have z2 := (by decide : (0 : Int32).toInt = 0)
  have z3 := (by decide : (1 : Int32).toInt = 1)
  have z4 := (by decide : (4 : Int32).toInt = 4)
  have z5 := (by decide : (11 : Int32).toInt = 11)
  have z6 := inc_I x4_3
  clear hva1 hok
  try simp only [sA_1, sL_1, sI_1, vp_in_iff, Int32.le_iff_toInt_le, Int32.lt_iff_toInt_lt, ← Int32.toInt_inj, reduceIte, Nat.reduceEqDiff] at *
  all_goals omega
theorem ob_X10_hasDuty_28_7 (st : St) (a1 : Int32) (a2 : Int32) (a3 : Int32) (n_3 : Nat) (x4_3 : Int32) (hok : okM st) (hva1 : vp_in a1 100) (hi0_3 : 0 ≤ x4_3.toInt) (hi1_3 : x4_3.toInt ≤ (st.1 4).toInt) (hi2_3 : (st.1 4).toInt < x4_3.toInt + (n_3 + 1)) (h9_1 : ¬ st.1 4 ≤ x4_3) (h20_3 : st.2.1 11 x4_3.toNatClampNeg = a2) : vp_in x4_3 20 := by
  have z1 := okM_4 hok
  have z2 := (by decide : (0 : Int32).toInt = 0)
  have z3 := (by decide : (1 : Int32).toInt = 1)
  have z4 := (by decide : (4 : Int32).toInt = 4)
  have z5 := (by decide : (11 : Int32).toInt = 11)
  have z6 := (by decide : (20 : Int32).toInt = 20)
  clear hva1 hok
  try simp only [sA_1, sL_1, sI_1, vp_in_iff, Int32.le_iff_toInt_le, Int32.lt_iff_toInt_lt, ← Int32.toInt_inj, reduceIte, Nat.reduceEqDiff] at *
  all_goals omega
theorem ob_X10_hasDuty_3_inv0_9 (st : St) (a1 : Int32) (a2 : Int32) (a3 : Int32) (n_3 : Nat) (x4_3 : Int32) (hok : okM st) (hva1 : vp_in a1 100) (hi0_3 : 0 ≤ x4_3.toInt) (hi1_3 : x4_3.toInt ≤ (st.1 4).toInt) (hi2_3 : (st.1 4).toInt < x4_3.toInt + (n_3 + 1)) (h9_1 : ¬ st.1 4 ≤ x4_3) (h20_3 : st.2.1 11 x4_3.toNatClampNeg = a2) (h31_8 : (sp_X10_dutyCovers st x4_3 a1 a3) = 0) : 0 ≤ (x4_3 + 1).toInt := by
  have z1 := okM_4 hok
  have z2 := (by decide : (0 : Int32).toInt = 0)
  have z3 := (by decide : (1 : Int32).toInt = 1)
  have z4 := (by decide : (4 : Int32).toInt = 4)
  have z5 := (by decide : (11 : Int32).toInt = 11)
  have z6 := inc_I x4_3
  clear hva1 h31_8 hok
  try simp only [sA_1, sL_1, sI_1, vp_in_iff, Int32.le_iff_toInt_le, Int32.lt_iff_toInt_lt, ← Int32.toInt_inj, reduceIte, Nat.reduceEqDiff] at *
  all_goals omega
theorem ob_X10_hasDuty_3_inv1_10 (st : St) (a1 : Int32) (a2 : Int32) (a3 : Int32) (n_3 : Nat) (x4_3 : Int32) (hok : okM st) (hva1 : vp_in a1 100) (hi0_3 : 0 ≤ x4_3.toInt) (hi1_3 : x4_3.toInt ≤ (st.1 4).toInt) (hi2_3 : (st.1 4).toInt < x4_3.toInt + (n_3 + 1)) (h9_1 : ¬ st.1 4 ≤ x4_3) (h20_3 : st.2.1 11 x4_3.toNatClampNeg = a2) (h31_8 : (sp_X10_dutyCovers st x4_3 a1 a3) = 0) : (x4_3 + 1).toInt ≤ (st.1 4).toInt := by
  have z1 := okM_4 hok
  have z2 := (by decide : (0 : Int32).toInt = 0)
  have z3 := (by decide : (1 : Int32).toInt = 1)
  have z4 := (by decide : (4 : Int32).toInt = 4)
  have z5 := (by decide : (11 : Int32).toInt = 11)
  have z6 := inc_I x4_3
  clear hva1 h31_8 hok
  try simp only [sA_1, sL_1, sI_1, vp_in_iff, Int32.le_iff_toInt_le, Int32.lt_iff_toInt_lt, ← Int32.toInt_inj, reduceIte, Nat.reduceEqDiff] at *
  all_goals omega
theorem ob_X10_hasDuty_3_inv2_11 (st : St) (a1 : Int32) (a2 : Int32) (a3 : Int32) (n_3 : Nat) (x4_3 : Int32) (hok : okM st) (hva1 : vp_in a1 100) (hi0_3 : 0 ≤ x4_3.toInt) (hi1_3 : x4_3.toInt ≤ (st.1 4).toInt) (hi2_3 : (st.1 4).toInt < x4_3.toInt + (n_3 + 1)) (h9_1 : ¬ st.1 4 ≤ x4_3) (h20_3 : st.2.1 11 x4_3.toNatClampNeg = a2) (h31_8 : (sp_X10_dutyCovers st x4_3 a1 a3) = 0) : (st.1 4).toInt < (x4_3 + 1).toInt + n_3 := by
  have z1 := okM_4 hok
  have z2 := (by decide : (0 : Int32).toInt = 0)
  have z3 := (by decide : (1 : Int32).toInt = 1)
  have z4 := (by decide : (4 : Int32).toInt = 4)
  have z5 := (by decide : (11 : Int32).toInt = 11)
  have z6 := inc_I x4_3
  clear hva1 h31_8 hok
  try simp only [sA_1, sL_1, sI_1, vp_in_iff, Int32.le_iff_toInt_le, Int32.lt_iff_toInt_lt, ← Int32.toInt_inj, reduceIte, Nat.reduceEqDiff] at *
  all_goals omega
theorem ob_X10_hasDuty_3_inv0_12 (st : St) (a1 : Int32) (a2 : Int32) (a3 : Int32) (hok : okM st) (hva1 : vp_in a1 100) : 0 ≤ (0 : Int32).toInt := by
  have z1 := (by decide : (0 : Int32).toInt = 0)
  clear hva1 hok
  try simp only [sA_1, sL_1, sI_1, vp_in_iff, Int32.le_iff_toInt_le, Int32.lt_iff_toInt_lt, ← Int32.toInt_inj, reduceIte, Nat.reduceEqDiff] at *
  all_goals omega
theorem ob_X10_hasDuty_3_inv1_13 (st : St) (a1 : Int32) (a2 : Int32) (a3 : Int32) (hok : okM st) (hva1 : vp_in a1 100) : (0 : Int32).toInt ≤ (st.1 4).toInt := by
  have z1 := okM_4 hok
  have z2 := (by decide : (0 : Int32).toInt = 0)
  have z3 := (by decide : (4 : Int32).toInt = 4)
  clear hva1 hok
  try simp only [sA_1, sL_1, sI_1, vp_in_iff, Int32.le_iff_toInt_le, Int32.lt_iff_toInt_lt, ← Int32.toInt_inj, reduceIte, Nat.reduceEqDiff] at *
  all_goals omega
theorem ob_X10_hasDuty_3_inv2_14 (st : St) (a1 : Int32) (a2 : Int32) (a3 : Int32) (hok : okM st) (hva1 : vp_in a1 100) : (st.1 4).toInt < (0 : Int32).toInt + ((st.1 4).toInt.toNat + 1) := by
  have z1 := okM_4 hok
  have z2 := (by decide : (0 : Int32).toInt = 0)
  have z3 := (by decide : (1 : Int32).toInt = 1)
  have z4 := (by decide : (4 : Int32).toInt = 4)
  clear hva1 hok
  try simp only [sA_1, sL_1, sI_1, vp_in_iff, Int32.le_iff_toInt_le, Int32.lt_iff_toInt_lt, ← Int32.toInt_inj, reduceIte, Nat.reduceEqDiff] at *
  all_goals omega
theorem ob_X10_groundOf_16_zero (st : St) (a1 : Int32) (a2 : Int32) (a3 : Int32) (x7_16 : Int32) (x5_16 : Int32) (x6_16 : Int32) (hok : okM st) (hva1 : vp_in a1 100) (hpa : 0 ≤ a2.toInt) (hpb : a2.toInt < 16) (hi0_16 : 0 ≤ x7_16.toInt) (hi1_16 : x7_16.toInt ≤ (st.1 6).toInt) (hi2_16 : (st.1 6).toInt < x7_16.toInt + 0) : False := by
  have z1 := okM_6 hok
  have z2 := (by decide : (0 : Int32).toInt = 0)
  have z3 := (by decide : (6 : Int32).toInt = 6)
  have z4 := (by decide : (16 : Int32).toInt = 16)
  have z5 := (by decide : (100 : Int32).toInt = 100)
  clear hok
  try simp only [sA_1, sL_1, sI_1, vp_in_iff, Int32.le_iff_toInt_le, Int32.lt_iff_toInt_lt, ← Int32.toInt_inj, reduceIte, Nat.reduceEqDiff] at *
  all_goals omega
theorem ob_X10_groundOf_31_24 (st : St) (a1 : Int32) (a2 : Int32) (a3 : Int32) (n_16 : Nat) (x7_16 : Int32) (x5_16 : Int32) (x6_16 : Int32) (hok : okM st) (hva1 : vp_in a1 100) (hpa : 0 ≤ a2.toInt) (hpb : a2.toInt < 16) (hi0_16 : 0 ≤ x7_16.toInt) (hi1_16 : x7_16.toInt ≤ (st.1 6).toInt) (hi2_16 : (st.1 6).toInt < x7_16.toInt + (n_16 + 1)) (h22_1 : ¬ st.1 6 ≤ x7_16) : vp_in x7_16 30 := by
  have z1 := okM_6 hok
  have z2 := (by decide : (0 : Int32).toInt = 0)
  have z3 := (by decide : (1 : Int32).toInt = 1)
  have z4 := (by decide : (6 : Int32).toInt = 6)
  have z5 := (by decide : (30 : Int32).toInt = 30)
  clear hva1 hpa hpb hok
  try simp only [sA_1, sL_1, sI_1, vp_in_iff, Int32.le_iff_toInt_le, Int32.lt_iff_toInt_lt, ← Int32.toInt_inj, reduceIte, Nat.reduceEqDiff] at *
  all_goals omega
theorem ob_X10_groundOf_16_inv0_28 (st : St) (a1 : Int32) (a2 : Int32) (a3 : Int32) (n_16 : Nat) (x7_16 : Int32) (x5_16 : Int32) (x6_16 : Int32) (hok : okM st) (hva1 : vp_in a1 100) (hpa : 0 ≤ a2.toInt) (hpb : a2.toInt < 16) (hi0_16 : 0 ≤ x7_16.toInt) (hi1_16 : x7_16.toInt ≤ (st.1 6).toInt) (hi2_16 : (st.1 6).toInt < x7_16.toInt + (n_16 + 1)) (h22_1 : ¬ st.1 6 ≤ x7_16) (h34_25 : ¬ (sp_X10_holdCovers st x7_16 a1 (a3 / 1440)) = 0) (h42_26 : ¬ x5_16 = 0) (h66_27 : ¬ x6_16 = 0) : 0 ≤ (x7_16 + 1).toInt := by
  have z1 := okM_6 hok
  have z2 := (by decide : (0 : Int32).toInt = 0)
  have z3 := (by decide : (1 : Int32).toInt = 1)
  have z4 := (by decide : (6 : Int32).toInt = 6)
  have z5 := inc_I x7_16
  clear hva1 hpa hpb h34_25 h42_26 h66_27 hok
  try simp only [sA_1, sL_1, sI_1, vp_in_iff, Int32.le_iff_toInt_le, Int32.lt_iff_toInt_lt, ← Int32.toInt_inj, reduceIte, Nat.reduceEqDiff] at *
  all_goals omega
theorem ob_X10_groundOf_16_inv1_29 (st : St) (a1 : Int32) (a2 : Int32) (a3 : Int32) (n_16 : Nat) (x7_16 : Int32) (x5_16 : Int32) (x6_16 : Int32) (hok : okM st) (hva1 : vp_in a1 100) (hpa : 0 ≤ a2.toInt) (hpb : a2.toInt < 16) (hi0_16 : 0 ≤ x7_16.toInt) (hi1_16 : x7_16.toInt ≤ (st.1 6).toInt) (hi2_16 : (st.1 6).toInt < x7_16.toInt + (n_16 + 1)) (h22_1 : ¬ st.1 6 ≤ x7_16) (h34_25 : ¬ (sp_X10_holdCovers st x7_16 a1 (a3 / 1440)) = 0) (h42_26 : ¬ x5_16 = 0) (h66_27 : ¬ x6_16 = 0) : (x7_16 + 1).toInt ≤ (st.1 6).toInt := by
  have z1 := okM_6 hok
  have z2 := (by decide : (0 : Int32).toInt = 0)
  have z3 := (by decide : (1 : Int32).toInt = 1)
  have z4 := (by decide : (6 : Int32).toInt = 6)
  have z5 := inc_I x7_16
  clear hva1 hpa hpb h34_25 h42_26 h66_27 hok
  try simp only [sA_1, sL_1, sI_1, vp_in_iff, Int32.le_iff_toInt_le, Int32.lt_iff_toInt_lt, ← Int32.toInt_inj, reduceIte, Nat.reduceEqDiff] at *
  all_goals omega
theorem ob_X10_groundOf_16_inv2_30 (st : St) (a1 : Int32) (a2 : Int32) (a3 : Int32) (n_16 : Nat) (x7_16 : Int32) (x5_16 : Int32) (x6_16 : Int32) (hok : okM st) (hva1 : vp_in a1 100) (hpa : 0 ≤ a2.toInt) (hpb : a2.toInt < 16) (hi0_16 : 0 ≤ x7_16.toInt) (hi1_16 : x7_16.toInt ≤ (st.1 6).toInt) (hi2_16 : (st.1 6).toInt < x7_16.toInt + (n_16 + 1)) (h22_1 : ¬ st.1 6 ≤ x7_16) (h34_25 : ¬ (sp_X10_holdCovers st x7_16 a1 (a3 / 1440)) = 0) (h42_26 : ¬ x5_16 = 0) (h66_27 : ¬ x6_16 = 0) : (st.1 6).toInt < (x7_16 + 1).toInt + n_16 := by
  have z1 := okM_6 hok
  have z2 := (by decide : (0 : Int32).toInt = 0)
  have z3 := (by decide : (1 : Int32).toInt = 1)
  have z4 := (by decide : (6 : Int32).toInt = 6)
  have z5 := inc_I x7_16
  clear hva1 hpa hpb h34_25 h42_26 h66_27 hok
  try simp only [sA_1, sL_1, sI_1, vp_in_iff, Int32.le_iff_toInt_le, Int32.lt_iff_toInt_lt, ← Int32.toInt_inj, reduceIte, Nat.reduceEqDiff] at *
  all_goals omega
theorem ob_X10_groundOf_75_31 (st : St) (a1 : Int32) (a2 : Int32) (a3 : Int32) (n_16 : Nat) (x7_16 : Int32) (x5_16 : Int32) (x6_16 : Int32) (hok : okM st) (hva1 : vp_in a1 100) (hpa : 0 ≤ a2.toInt) (hpb : a2.toInt < 16) (hi0_16 : 0 ≤ x7_16.toInt) (hi1_16 : x7_16.toInt ≤ (st.1 6).toInt) (hi2_16 : (st.1 6).toInt < x7_16.toInt + (n_16 + 1)) (h22_1 : ¬ st.1 6 ≤ x7_16) (h34_25 : ¬ (sp_X10_holdCovers st x7_16 a1 (a3 / 1440)) = 0) (h42_26 : ¬ x5_16 = 0) (h66_27 : x6_16 = 0) : vp_in x7_16 30 := by
  have z1 := okM_6 hok
  have z2 := (by decide : (0 : Int32).toInt = 0)
  have z3 := (by decide : (1 : Int32).toInt = 1)
  have z4 := (by decide : (6 : Int32).toInt = 6)
  have z5 := (by decide : (30 : Int32).toInt = 30)
  clear hva1 hpa hpb h34_25 h42_26 h66_27 hok
  try simp only [sA_1, sL_1, sI_1, vp_in_iff, Int32.le_iff_toInt_le, Int32.lt_iff_toInt_lt, ← Int32.toInt_inj, reduceIte, Nat.reduceEqDiff] at *
  all_goals omega
theorem ob_X10_groundOf_16_inv0_33 (st : St) (a1 : Int32) (a2 : Int32) (a3 : Int32) (n_16 : Nat) (x7_16 : Int32) (x5_16 : Int32) (x6_16 : Int32) (hok : okM st) (hva1 : vp_in a1 100) (hpa : 0 ≤ a2.toInt) (hpb : a2.toInt < 16) (hi0_16 : 0 ≤ x7_16.toInt) (hi1_16 : x7_16.toInt ≤ (st.1 6).toInt) (hi2_16 : (st.1 6).toInt < x7_16.toInt + (n_16 + 1)) (h22_1 : ¬ st.1 6 ≤ x7_16) (h34_25 : ¬ (sp_X10_holdCovers st x7_16 a1 (a3 / 1440)) = 0) (h42_26 : ¬ x5_16 = 0) (h66_27 : x6_16 = 0) (h77_32 : ¬ st.2.1 17 x7_16.toNatClampNeg = a2) : 0 ≤ (x7_16 + 1).toInt := by
  have z1 := okM_6 hok
  have z2 := (by decide : (0 : Int32).toInt = 0)
  have z3 := (by decide : (1 : Int32).toInt = 1)
  have z4 := (by decide : (6 : Int32).toInt = 6)
  have z5 := (by decide : (17 : Int32).toInt = 17)
  have z6 := inc_I x7_16
  clear hva1 hpa hpb h34_25 h42_26 h66_27 hok
  try simp only [sA_1, sL_1, sI_1, vp_in_iff, Int32.le_iff_toInt_le, Int32.lt_iff_toInt_lt, ← Int32.toInt_inj, reduceIte, Nat.reduceEqDiff] at *
  all_goals omega
theorem ob_X10_groundOf_16_inv1_34 (st : St) (a1 : Int32) (a2 : Int32) (a3 : Int32) (n_16 : Nat) (x7_16 : Int32) (x5_16 : Int32) (x6_16 : Int32) (hok : okM st) (hva1 : vp_in a1 100) (hpa : 0 ≤ a2.toInt) (hpb : a2.toInt < 16) (hi0_16 : 0 ≤ x7_16.toInt) (hi1_16 : x7_16.toInt ≤ (st.1 6).toInt) (hi2_16 : (st.1 6).toInt < x7_16.toInt + (n_16 + 1)) (h22_1 : ¬ st.1 6 ≤ x7_16) (h34_25 : ¬ (sp_X10_holdCovers st x7_16 a1 (a3 / 1440)) = 0) (h42_26 : ¬ x5_16 = 0) (h66_27 : x6_16 = 0) (h77_32 : ¬ st.2.1 17 x7_16.toNatClampNeg = a2) : (x7_16 + 1).toInt ≤ (st.1 6).toInt := by
  have z1 := okM_6 hok
  have z2 := (by decide : (0 : Int32).toInt = 0)
  have z3 := (by decide : (1 : Int32).toInt = 1)
  have z4 := (by decide : (6 : Int32).toInt = 6)
  have z5 := (by decide : (17 : Int32).toInt = 17)
  have z6 := inc_I x7_16
  clear hva1 hpa hpb h34_25 h42_26 h66_27 hok
  try simp only [sA_1, sL_1, sI_1, vp_in_iff, Int32.le_iff_toInt_le, Int32.lt_iff_toInt_lt, ← Int32.toInt_inj, reduceIte, Nat.reduceEqDiff] at *
  all_goals omega
theorem ob_X10_groundOf_16_inv2_35 (st : St) (a1 : Int32) (a2 : Int32) (a3 : Int32) (n_16 : Nat) (x7_16 : Int32) (x5_16 : Int32) (x6_16 : Int32) (hok : okM st) (hva1 : vp_in a1 100) (hpa : 0 ≤ a2.toInt) (hpb : a2.toInt < 16) (hi0_16 : 0 ≤ x7_16.toInt) (hi1_16 : x7_16.toInt ≤ (st.1 6).toInt) (hi2_16 : (st.1 6).toInt < x7_16.toInt + (n_16 + 1)) (h22_1 : ¬ st.1 6 ≤ x7_16) (h34_25 : ¬ (sp_X10_holdCovers st x7_16 a1 (a3 / 1440)) = 0) (h42_26 : ¬ x5_16 = 0) (h66_27 : x6_16 = 0) (h77_32 : ¬ st.2.1 17 x7_16.toNatClampNeg = a2) : (st.1 6).toInt < (x7_16 + 1).toInt + n_16 := by
  have z1 := okM_6 hok
  have z2 := (by decide : (0 : Int32).toInt = 0)
  have z3 := (by decide : (1 : Int32).toInt = 1)
  have z4 := (by decide : (6 : Int32).toInt = 6)
  have z5 := (by decide : (17 : Int32).toInt = 17)
  have z6 := inc_I x7_16
  clear hva1 hpa hpb h34_25 h42_26 h66_27 hok
  try simp only [sA_1, sL_1, sI_1, vp_in_iff, Int32.le_iff_toInt_le, Int32.lt_iff_toInt_lt, ← Int32.toInt_inj, reduceIte, Nat.reduceEqDiff] at *
  all_goals omega
theorem ob_X10_groundOf_16_inv0_36 (st : St) (a1 : Int32) (a2 : Int32) (a3 : Int32) (n_16 : Nat) (x7_16 : Int32) (x5_16 : Int32) (x6_16 : Int32) (hok : okM st) (hva1 : vp_in a1 100) (hpa : 0 ≤ a2.toInt) (hpb : a2.toInt < 16) (hi0_16 : 0 ≤ x7_16.toInt) (hi1_16 : x7_16.toInt ≤ (st.1 6).toInt) (hi2_16 : (st.1 6).toInt < x7_16.toInt + (n_16 + 1)) (h22_1 : ¬ st.1 6 ≤ x7_16) (h34_25 : ¬ (sp_X10_holdCovers st x7_16 a1 (a3 / 1440)) = 0) (h42_26 : ¬ x5_16 = 0) (h66_27 : x6_16 = 0) (h77_32 : st.2.1 17 x7_16.toNatClampNeg = a2) : 0 ≤ (x7_16 + 1).toInt := by
  have z1 := okM_6 hok
  have z2 := (by decide : (0 : Int32).toInt = 0)
  have z3 := (by decide : (1 : Int32).toInt = 1)
  have z4 := (by decide : (6 : Int32).toInt = 6)
  have z5 := (by decide : (17 : Int32).toInt = 17)
  have z6 := inc_I x7_16
  clear hva1 hpa hpb h34_25 h42_26 h66_27 hok
  try simp only [sA_1, sL_1, sI_1, vp_in_iff, Int32.le_iff_toInt_le, Int32.lt_iff_toInt_lt, ← Int32.toInt_inj, reduceIte, Nat.reduceEqDiff] at *
  all_goals omega
theorem ob_X10_groundOf_16_inv1_37 (st : St) (a1 : Int32) (a2 : Int32) (a3 : Int32) (n_16 : Nat) (x7_16 : Int32) (x5_16 : Int32) (x6_16 : Int32) (hok : okM st) (hva1 : vp_in a1 100) (hpa : 0 ≤ a2.toInt) (hpb : a2.toInt < 16) (hi0_16 : 0 ≤ x7_16.toInt) (hi1_16 : x7_16.toInt ≤ (st.1 6).toInt) (hi2_16 : (st.1 6).toInt < x7_16.toInt + (n_16 + 1)) (h22_1 : ¬ st.1 6 ≤ x7_16) (h34_25 : ¬ (sp_X10_holdCovers st x7_16 a1 (a3 / 1440)) = 0) (h42_26 : ¬ x5_16 = 0) (h66_27 : x6_16 = 0) (h77_32 : st.2.1 17 x7_16.toNatClampNeg = a2) : (x7_16 + 1).toInt ≤ (st.1 6).toInt := by
  have z1 := okM_6 hok
  have z2 := (by decide : (0 : Int32).toInt = 0)
  have z3 := (by decide : (1 : Int32).toInt = 1)
  have z4 := (by decide : (6 : Int32).toInt = 6)
  have z5 := (by decide : (17 : Int32).toInt = 17)
  have z6 := inc_I x7_16
  clear hva1 hpa hpb h34_25 h42_26 h66_27 hok
  try simp only [sA_1, sL_1, sI_1, vp_in_iff, Int32.le_iff_toInt_le, Int32.lt_iff_toInt_lt, ← Int32.toInt_inj, reduceIte, Nat.reduceEqDiff] at *
  all_goals omega
theorem ob_X10_groundOf_16_inv2_38 (st : St) (a1 : Int32) (a2 : Int32) (a3 : Int32) (n_16 : Nat) (x7_16 : Int32) (x5_16 : Int32) (x6_16 : Int32) (hok : okM st) (hva1 : vp_in a1 100) (hpa : 0 ≤ a2.toInt) (hpb : a2.toInt < 16) (hi0_16 : 0 ≤ x7_16.toInt) (hi1_16 : x7_16.toInt ≤ (st.1 6).toInt) (hi2_16 : (st.1 6).toInt < x7_16.toInt + (n_16 + 1)) (h22_1 : ¬ st.1 6 ≤ x7_16) (h34_25 : ¬ (sp_X10_holdCovers st x7_16 a1 (a3 / 1440)) = 0) (h42_26 : ¬ x5_16 = 0) (h66_27 : x6_16 = 0) (h77_32 : st.2.1 17 x7_16.toNatClampNeg = a2) : (st.1 6).toInt < (x7_16 + 1).toInt + n_16 := by
  have z1 := okM_6 hok
  have z2 := (by decide : (0 : Int32).toInt = 0)
  have z3 := (by decide : (1 : Int32).toInt = 1)
  have z4 := (by decide : (6 : Int32).toInt = 6)
  have z5 := (by decide : (17 : Int32).toInt = 17)
  have z6 := inc_I x7_16
  clear hva1 hpa hpb h34_25 h42_26 h66_27 hok
  try simp only [sA_1, sL_1, sI_1, vp_in_iff, Int32.le_iff_toInt_le, Int32.lt_iff_toInt_lt, ← Int32.toInt_inj, reduceIte, Nat.reduceEqDiff] at *
  all_goals omega
theorem ob_X10_groundOf_51_39 (st : St) (a1 : Int32) (a2 : Int32) (a3 : Int32) (n_16 : Nat) (x7_16 : Int32) (x5_16 : Int32) (x6_16 : Int32) (hok : okM st) (hva1 : vp_in a1 100) (hpa : 0 ≤ a2.toInt) (hpb : a2.toInt < 16) (hi0_16 : 0 ≤ x7_16.toInt) (hi1_16 : x7_16.toInt ≤ (st.1 6).toInt) (hi2_16 : (st.1 6).toInt < x7_16.toInt + (n_16 + 1)) (h22_1 : ¬ st.1 6 ≤ x7_16) (h34_25 : ¬ (sp_X10_holdCovers st x7_16 a1 (a3 / 1440)) = 0) (h42_26 : x5_16 = 0) : vp_in x7_16 30 := by
  have z1 := okM_6 hok
  have z2 := (by decide : (0 : Int32).toInt = 0)
  have z3 := (by decide : (1 : Int32).toInt = 1)
  have z4 := (by decide : (6 : Int32).toInt = 6)
  have z5 := (by decide : (30 : Int32).toInt = 30)
  clear hva1 hpa hpb h34_25 h42_26 hok
  try simp only [sA_1, sL_1, sI_1, vp_in_iff, Int32.le_iff_toInt_le, Int32.lt_iff_toInt_lt, ← Int32.toInt_inj, reduceIte, Nat.reduceEqDiff] at *
  all_goals omega
theorem ob_X10_groundOf_16_inv0_42 (st : St) (a1 : Int32) (a2 : Int32) (a3 : Int32) (n_16 : Nat) (x7_16 : Int32) (x5_16 : Int32) (x6_16 : Int32) (hok : okM st) (hva1 : vp_in a1 100) (hpa : 0 ≤ a2.toInt) (hpb : a2.toInt < 16) (hi0_16 : 0 ≤ x7_16.toInt) (hi1_16 : x7_16.toInt ≤ (st.1 6).toInt) (hi2_16 : (st.1 6).toInt < x7_16.toInt + (n_16 + 1)) (h22_1 : ¬ st.1 6 ≤ x7_16) (h34_25 : ¬ (sp_X10_holdCovers st x7_16 a1 (a3 / 1440)) = 0) (h42_26 : x5_16 = 0) (h54_40 : 100 ≤ st.2.1 16 x7_16.toNatClampNeg) (h66_41 : ¬ x6_16 = 0) : 0 ≤ (x7_16 + 1).toInt := by
  have z1 := okM_6 hok
  have z2 := (by decide : (0 : Int32).toInt = 0)
  have z3 := (by decide : (1 : Int32).toInt = 1)
  have z4 := (by decide : (6 : Int32).toInt = 6)
  have z5 := (by decide : (16 : Int32).toInt = 16)
  have z6 := (by decide : (100 : Int32).toInt = 100)
  have z7 := inc_I x7_16
  clear hva1 hpa hpb h34_25 h42_26 h66_41 hok
  try simp only [sA_1, sL_1, sI_1, vp_in_iff, Int32.le_iff_toInt_le, Int32.lt_iff_toInt_lt, ← Int32.toInt_inj, reduceIte, Nat.reduceEqDiff] at *
  all_goals omega
theorem ob_X10_groundOf_16_inv1_43 (st : St) (a1 : Int32) (a2 : Int32) (a3 : Int32) (n_16 : Nat) (x7_16 : Int32) (x5_16 : Int32) (x6_16 : Int32) (hok : okM st) (hva1 : vp_in a1 100) (hpa : 0 ≤ a2.toInt) (hpb : a2.toInt < 16) (hi0_16 : 0 ≤ x7_16.toInt) (hi1_16 : x7_16.toInt ≤ (st.1 6).toInt) (hi2_16 : (st.1 6).toInt < x7_16.toInt + (n_16 + 1)) (h22_1 : ¬ st.1 6 ≤ x7_16) (h34_25 : ¬ (sp_X10_holdCovers st x7_16 a1 (a3 / 1440)) = 0) (h42_26 : x5_16 = 0) (h54_40 : 100 ≤ st.2.1 16 x7_16.toNatClampNeg) (h66_41 : ¬ x6_16 = 0) : (x7_16 + 1).toInt ≤ (st.1 6).toInt := by
  have z1 := okM_6 hok
  have z2 := (by decide : (0 : Int32).toInt = 0)
  have z3 := (by decide : (1 : Int32).toInt = 1)
  have z4 := (by decide : (6 : Int32).toInt = 6)
  have z5 := (by decide : (16 : Int32).toInt = 16)
  have z6 := (by decide : (100 : Int32).toInt = 100)
  have z7 := inc_I x7_16
  clear hva1 hpa hpb h34_25 h42_26 h66_41 hok
  try simp only [sA_1, sL_1, sI_1, vp_in_iff, Int32.le_iff_toInt_le, Int32.lt_iff_toInt_lt, ← Int32.toInt_inj, reduceIte, Nat.reduceEqDiff] at *
  all_goals omega
theorem ob_X10_groundOf_16_inv2_44 (st : St) (a1 : Int32) (a2 : Int32) (a3 : Int32) (n_16 : Nat) (x7_16 : Int32) (x5_16 : Int32) (x6_16 : Int32) (hok : okM st) (hva1 : vp_in a1 100) (hpa : 0 ≤ a2.toInt) (hpb : a2.toInt < 16) (hi0_16 : 0 ≤ x7_16.toInt) (hi1_16 : x7_16.toInt ≤ (st.1 6).toInt) (hi2_16 : (st.1 6).toInt < x7_16.toInt + (n_16 + 1)) (h22_1 : ¬ st.1 6 ≤ x7_16) (h34_25 : ¬ (sp_X10_holdCovers st x7_16 a1 (a3 / 1440)) = 0) (h42_26 : x5_16 = 0) (h54_40 : 100 ≤ st.2.1 16 x7_16.toNatClampNeg) (h66_41 : ¬ x6_16 = 0) : (st.1 6).toInt < (x7_16 + 1).toInt + n_16 := by
  have z1 := okM_6 hok
  have z2 := (by decide : (0 : Int32).toInt = 0)
  have z3 := (by decide : (1 : Int32).toInt = 1)
  have z4 := (by decide : (6 : Int32).toInt = 6)
  have z5 := (by decide : (16 : Int32).toInt = 16)
  have z6 := (by decide : (100 : Int32).toInt = 100)
  have z7 := inc_I x7_16
  clear hva1 hpa hpb h34_25 h42_26 h66_41 hok
  try simp only [sA_1, sL_1, sI_1, vp_in_iff, Int32.le_iff_toInt_le, Int32.lt_iff_toInt_lt, ← Int32.toInt_inj, reduceIte, Nat.reduceEqDiff] at *
  all_goals omega
theorem ob_X10_groundOf_75_45 (st : St) (a1 : Int32) (a2 : Int32) (a3 : Int32) (n_16 : Nat) (x7_16 : Int32) (x5_16 : Int32) (x6_16 : Int32) (hok : okM st) (hva1 : vp_in a1 100) (hpa : 0 ≤ a2.toInt) (hpb : a2.toInt < 16) (hi0_16 : 0 ≤ x7_16.toInt) (hi1_16 : x7_16.toInt ≤ (st.1 6).toInt) (hi2_16 : (st.1 6).toInt < x7_16.toInt + (n_16 + 1)) (h22_1 : ¬ st.1 6 ≤ x7_16) (h34_25 : ¬ (sp_X10_holdCovers st x7_16 a1 (a3 / 1440)) = 0) (h42_26 : x5_16 = 0) (h54_40 : 100 ≤ st.2.1 16 x7_16.toNatClampNeg) (h66_41 : x6_16 = 0) : vp_in x7_16 30 := by
  have z1 := okM_6 hok
  have z2 := (by decide : (0 : Int32).toInt = 0)
  have z3 := (by decide : (1 : Int32).toInt = 1)
  have z4 := (by decide : (6 : Int32).toInt = 6)
  have z5 := (by decide : (16 : Int32).toInt = 16)
  have z6 := (by decide : (30 : Int32).toInt = 30)
  have z7 := (by decide : (100 : Int32).toInt = 100)
  clear hva1 hpa hpb h34_25 h42_26 h66_41 hok
  try simp only [sA_1, sL_1, sI_1, vp_in_iff, Int32.le_iff_toInt_le, Int32.lt_iff_toInt_lt, ← Int32.toInt_inj, reduceIte, Nat.reduceEqDiff] at *
  all_goals omega
theorem ob_X10_groundOf_16_inv0_47 (st : St) (a1 : Int32) (a2 : Int32) (a3 : Int32) (n_16 : Nat) (x7_16 : Int32) (x5_16 : Int32) (x6_16 : Int32) (hok : okM st) (hva1 : vp_in a1 100) (hpa : 0 ≤ a2.toInt) (hpb : a2.toInt < 16) (hi0_16 : 0 ≤ x7_16.toInt) (hi1_16 : x7_16.toInt ≤ (st.1 6).toInt) (hi2_16 : (st.1 6).toInt < x7_16.toInt + (n_16 + 1)) (h22_1 : ¬ st.1 6 ≤ x7_16) (h34_25 : ¬ (sp_X10_holdCovers st x7_16 a1 (a3 / 1440)) = 0) (h42_26 : x5_16 = 0) (h54_40 : 100 ≤ st.2.1 16 x7_16.toNatClampNeg) (h66_41 : x6_16 = 0) (h77_46 : ¬ st.2.1 17 x7_16.toNatClampNeg = a2) : 0 ≤ (x7_16 + 1).toInt := by
  have z1 := okM_6 hok
  have z2 := (by decide : (0 : Int32).toInt = 0)
  have z3 := (by decide : (1 : Int32).toInt = 1)
  have z4 := (by decide : (6 : Int32).toInt = 6)
  have z5 := (by decide : (16 : Int32).toInt = 16)
  have z6 := (by decide : (17 : Int32).toInt = 17)
  have z7 := (by decide : (100 : Int32).toInt = 100)
  have z8 := inc_I x7_16
  clear hva1 hpa hpb h34_25 h42_26 h66_41 hok
  try simp only [sA_1, sL_1, sI_1, vp_in_iff, Int32.le_iff_toInt_le, Int32.lt_iff_toInt_lt, ← Int32.toInt_inj, reduceIte, Nat.reduceEqDiff] at *
  all_goals omega
theorem ob_X10_groundOf_16_inv1_48 (st : St) (a1 : Int32) (a2 : Int32) (a3 : Int32) (n_16 : Nat) (x7_16 : Int32) (x5_16 : Int32) (x6_16 : Int32) (hok : okM st) (hva1 : vp_in a1 100) (hpa : 0 ≤ a2.toInt) (hpb : a2.toInt < 16) (hi0_16 : 0 ≤ x7_16.toInt) (hi1_16 : x7_16.toInt ≤ (st.1 6).toInt) (hi2_16 : (st.1 6).toInt < x7_16.toInt + (n_16 + 1)) (h22_1 : ¬ st.1 6 ≤ x7_16) (h34_25 : ¬ (sp_X10_holdCovers st x7_16 a1 (a3 / 1440)) = 0) (h42_26 : x5_16 = 0) (h54_40 : 100 ≤ st.2.1 16 x7_16.toNatClampNeg) (h66_41 : x6_16 = 0) (h77_46 : ¬ st.2.1 17 x7_16.toNatClampNeg = a2) : (x7_16 + 1).toInt ≤ (st.1 6).toInt := by
  have z1 := okM_6 hok
  have z2 := (by decide : (0 : Int32).toInt = 0)
  have z3 := (by decide : (1 : Int32).toInt = 1)
  have z4 := (by decide : (6 : Int32).toInt = 6)
  have z5 := (by decide : (16 : Int32).toInt = 16)
  have z6 := (by decide : (17 : Int32).toInt = 17)
  have z7 := (by decide : (100 : Int32).toInt = 100)
  have z8 := inc_I x7_16
  clear hva1 hpa hpb h34_25 h42_26 h66_41 hok
  try simp only [sA_1, sL_1, sI_1, vp_in_iff, Int32.le_iff_toInt_le, Int32.lt_iff_toInt_lt, ← Int32.toInt_inj, reduceIte, Nat.reduceEqDiff] at *
  all_goals omega
theorem ob_X10_groundOf_16_inv2_49 (st : St) (a1 : Int32) (a2 : Int32) (a3 : Int32) (n_16 : Nat) (x7_16 : Int32) (x5_16 : Int32) (x6_16 : Int32) (hok : okM st) (hva1 : vp_in a1 100) (hpa : 0 ≤ a2.toInt) (hpb : a2.toInt < 16) (hi0_16 : 0 ≤ x7_16.toInt) (hi1_16 : x7_16.toInt ≤ (st.1 6).toInt) (hi2_16 : (st.1 6).toInt < x7_16.toInt + (n_16 + 1)) (h22_1 : ¬ st.1 6 ≤ x7_16) (h34_25 : ¬ (sp_X10_holdCovers st x7_16 a1 (a3 / 1440)) = 0) (h42_26 : x5_16 = 0) (h54_40 : 100 ≤ st.2.1 16 x7_16.toNatClampNeg) (h66_41 : x6_16 = 0) (h77_46 : ¬ st.2.1 17 x7_16.toNatClampNeg = a2) : (st.1 6).toInt < (x7_16 + 1).toInt + n_16 := by
  have z1 := okM_6 hok
  have z2 := (by decide : (0 : Int32).toInt = 0)
  have z3 := (by decide : (1 : Int32).toInt = 1)
  have z4 := (by decide : (6 : Int32).toInt = 6)
  have z5 := (by decide : (16 : Int32).toInt = 16)
  have z6 := (by decide : (17 : Int32).toInt = 17)
  have z7 := (by decide : (100 : Int32).toInt = 100)
  have z8 := inc_I x7_16
  clear hva1 hpa hpb h34_25 h42_26 h66_41 hok
  try simp only [sA_1, sL_1, sI_1, vp_in_iff, Int32.le_iff_toInt_le, Int32.lt_iff_toInt_lt, ← Int32.toInt_inj, reduceIte, Nat.reduceEqDiff] at *
  all_goals omega
theorem ob_X10_groundOf_16_inv0_50 (st : St) (a1 : Int32) (a2 : Int32) (a3 : Int32) (n_16 : Nat) (x7_16 : Int32) (x5_16 : Int32) (x6_16 : Int32) (hok : okM st) (hva1 : vp_in a1 100) (hpa : 0 ≤ a2.toInt) (hpb : a2.toInt < 16) (hi0_16 : 0 ≤ x7_16.toInt) (hi1_16 : x7_16.toInt ≤ (st.1 6).toInt) (hi2_16 : (st.1 6).toInt < x7_16.toInt + (n_16 + 1)) (h22_1 : ¬ st.1 6 ≤ x7_16) (h34_25 : ¬ (sp_X10_holdCovers st x7_16 a1 (a3 / 1440)) = 0) (h42_26 : x5_16 = 0) (h54_40 : 100 ≤ st.2.1 16 x7_16.toNatClampNeg) (h66_41 : x6_16 = 0) (h77_46 : st.2.1 17 x7_16.toNatClampNeg = a2) : 0 ≤ (x7_16 + 1).toInt := by
  have z1 := okM_6 hok
  have z2 := (by decide : (0 : Int32).toInt = 0)
  have z3 := (by decide : (1 : Int32).toInt = 1)
  have z4 := (by decide : (6 : Int32).toInt = 6)
  have z5 := (by decide : (16 : Int32).toInt = 16)
  have z6 := (by decide : (17 : Int32).toInt = 17)
  have z7 := (by decide : (100 : Int32).toInt = 100)
  have z8 := inc_I x7_16
  clear hva1 hpa hpb h34_25 h42_26 h66_41 hok
  try simp only [sA_1, sL_1, sI_1, vp_in_iff, Int32.le_iff_toInt_le, Int32.lt_iff_toInt_lt, ← Int32.toInt_inj, reduceIte, Nat.reduceEqDiff] at *
  all_goals omega
theorem ob_X10_groundOf_16_inv1_51 (st : St) (a1 : Int32) (a2 : Int32) (a3 : Int32) (n_16 : Nat) (x7_16 : Int32) (x5_16 : Int32) (x6_16 : Int32) (hok : okM st) (hva1 : vp_in a1 100) (hpa : 0 ≤ a2.toInt) (hpb : a2.toInt < 16) (hi0_16 : 0 ≤ x7_16.toInt) (hi1_16 : x7_16.toInt ≤ (st.1 6).toInt) (hi2_16 : (st.1 6).toInt < x7_16.toInt + (n_16 + 1)) (h22_1 : ¬ st.1 6 ≤ x7_16) (h34_25 : ¬ (sp_X10_holdCovers st x7_16 a1 (a3 / 1440)) = 0) (h42_26 : x5_16 = 0) (h54_40 : 100 ≤ st.2.1 16 x7_16.toNatClampNeg) (h66_41 : x6_16 = 0) (h77_46 : st.2.1 17 x7_16.toNatClampNeg = a2) : (x7_16 + 1).toInt ≤ (st.1 6).toInt := by
  have z1 := okM_6 hok
  have z2 := (by decide : (0 : Int32).toInt = 0)
  have z3 := (by decide : (1 : Int32).toInt = 1)
  have z4 := (by decide : (6 : Int32).toInt = 6)
  have z5 := (by decide : (16 : Int32).toInt = 16)
  have z6 := (by decide : (17 : Int32).toInt = 17)
  have z7 := (by decide : (100 : Int32).toInt = 100)
  have z8 := inc_I x7_16
  clear hva1 hpa hpb h34_25 h42_26 h66_41 hok
  try simp only [sA_1, sL_1, sI_1, vp_in_iff, Int32.le_iff_toInt_le, Int32.lt_iff_toInt_lt, ← Int32.toInt_inj, reduceIte, Nat.reduceEqDiff] at *
  all_goals omega
theorem ob_X10_groundOf_16_inv2_52 (st : St) (a1 : Int32) (a2 : Int32) (a3 : Int32) (n_16 : Nat) (x7_16 : Int32) (x5_16 : Int32) (x6_16 : Int32) (hok : okM st) (hva1 : vp_in a1 100) (hpa : 0 ≤ a2.toInt) (hpb : a2.toInt < 16) (hi0_16 : 0 ≤ x7_16.toInt) (hi1_16 : x7_16.toInt ≤ (st.1 6).toInt) (hi2_16 : (st.1 6).toInt < x7_16.toInt + (n_16 + 1)) (h22_1 : ¬ st.1 6 ≤ x7_16) (h34_25 : ¬ (sp_X10_holdCovers st x7_16 a1 (a3 / 1440)) = 0) (h42_26 : x5_16 = 0) (h54_40 : 100 ≤ st.2.1 16 x7_16.toNatClampNeg) (h66_41 : x6_16 = 0) (h77_46 : st.2.1 17 x7_16.toNatClampNeg = a2) : (st.1 6).toInt < (x7_16 + 1).toInt + n_16 := by
  have z1 := okM_6 hok
  have z2 := (by decide : (0 : Int32).toInt = 0)
  have z3 := (by decide : (1 : Int32).toInt = 1)
  have z4 := (by decide : (6 : Int32).toInt = 6)
  have z5 := (by decide : (16 : Int32).toInt = 16)
  have z6 := (by decide : (17 : Int32).toInt = 17)
  have z7 := (by decide : (100 : Int32).toInt = 100)
  have z8 := inc_I x7_16
  clear hva1 hpa hpb h34_25 h42_26 h66_41 hok
  try simp only [sA_1, sL_1, sI_1, vp_in_iff, Int32.le_iff_toInt_le, Int32.lt_iff_toInt_lt, ← Int32.toInt_inj, reduceIte, Nat.reduceEqDiff] at *
  all_goals omega
theorem ob_X10_groundOf_16_inv0_54 (st : St) (a1 : Int32) (a2 : Int32) (a3 : Int32) (n_16 : Nat) (x7_16 : Int32) (x5_16 : Int32) (x6_16 : Int32) (hok : okM st) (hva1 : vp_in a1 100) (hpa : 0 ≤ a2.toInt) (hpb : a2.toInt < 16) (hi0_16 : 0 ≤ x7_16.toInt) (hi1_16 : x7_16.toInt ≤ (st.1 6).toInt) (hi2_16 : (st.1 6).toInt < x7_16.toInt + (n_16 + 1)) (h22_1 : ¬ st.1 6 ≤ x7_16) (h34_25 : ¬ (sp_X10_holdCovers st x7_16 a1 (a3 / 1440)) = 0) (h42_26 : x5_16 = 0) (h54_40 : ¬ 100 ≤ st.2.1 16 x7_16.toNatClampNeg) (h66_53 : ¬ x6_16 = 0) : 0 ≤ (x7_16 + 1).toInt := by
  have z1 := okM_6 hok
  have z2 := (by decide : (0 : Int32).toInt = 0)
  have z3 := (by decide : (1 : Int32).toInt = 1)
  have z4 := (by decide : (6 : Int32).toInt = 6)
  have z5 := (by decide : (16 : Int32).toInt = 16)
  have z6 := (by decide : (100 : Int32).toInt = 100)
  have z7 := inc_I x7_16
  clear hva1 hpa hpb h34_25 h42_26 h66_53 hok
  try simp only [sA_1, sL_1, sI_1, vp_in_iff, Int32.le_iff_toInt_le, Int32.lt_iff_toInt_lt, ← Int32.toInt_inj, reduceIte, Nat.reduceEqDiff] at *
  all_goals omega
theorem ob_X10_groundOf_16_inv1_55 (st : St) (a1 : Int32) (a2 : Int32) (a3 : Int32) (n_16 : Nat) (x7_16 : Int32) (x5_16 : Int32) (x6_16 : Int32) (hok : okM st) (hva1 : vp_in a1 100) (hpa : 0 ≤ a2.toInt) (hpb : a2.toInt < 16) (hi0_16 : 0 ≤ x7_16.toInt) (hi1_16 : x7_16.toInt ≤ (st.1 6).toInt) (hi2_16 : (st.1 6).toInt < x7_16.toInt + (n_16 + 1)) (h22_1 : ¬ st.1 6 ≤ x7_16) (h34_25 : ¬ (sp_X10_holdCovers st x7_16 a1 (a3 / 1440)) = 0) (h42_26 : x5_16 = 0) (h54_40 : ¬ 100 ≤ st.2.1 16 x7_16.toNatClampNeg) (h66_53 : ¬ x6_16 = 0) : (x7_16 + 1).toInt ≤ (st.1 6).toInt := by
  have z1 := okM_6 hok
  have z2 := (by decide : (0 : Int32).toInt = 0)
  have z3 := (by decide : (1 : Int32).toInt = 1)
  have z4 := (by decide : (6 : Int32).toInt = 6)
  have z5 := (by decide : (16 : Int32).toInt = 16)
  have z6 := (by decide : (100 : Int32).toInt = 100)
  have z7 := inc_I x7_16
  clear hva1 hpa hpb h34_25 h42_26 h66_53 hok
  try simp only [sA_1, sL_1, sI_1, vp_in_iff, Int32.le_iff_toInt_le, Int32.lt_iff_toInt_lt, ← Int32.toInt_inj, reduceIte, Nat.reduceEqDiff] at *
  all_goals omega
theorem ob_X10_groundOf_16_inv2_56 (st : St) (a1 : Int32) (a2 : Int32) (a3 : Int32) (n_16 : Nat) (x7_16 : Int32) (x5_16 : Int32) (x6_16 : Int32) (hok : okM st) (hva1 : vp_in a1 100) (hpa : 0 ≤ a2.toInt) (hpb : a2.toInt < 16) (hi0_16 : 0 ≤ x7_16.toInt) (hi1_16 : x7_16.toInt ≤ (st.1 6).toInt) (hi2_16 : (st.1 6).toInt < x7_16.toInt + (n_16 + 1)) (h22_1 : ¬ st.1 6 ≤ x7_16) (h34_25 : ¬ (sp_X10_holdCovers st x7_16 a1 (a3 / 1440)) = 0) (h42_26 : x5_16 = 0) (h54_40 : ¬ 100 ≤ st.2.1 16 x7_16.toNatClampNeg) (h66_53 : ¬ x6_16 = 0) : (st.1 6).toInt < (x7_16 + 1).toInt + n_16 := by
  have z1 := okM_6 hok
  have z2 := (by decide : (0 : Int32).toInt = 0)
  have z3 := (by decide : (1 : Int32).toInt = 1)
  have z4 := (by decide : (6 : Int32).toInt = 6)
  have z5 := (by decide : (16 : Int32).toInt = 16)
  have z6 := (by decide : (100 : Int32).toInt = 100)
  have z7 := inc_I x7_16
  clear hva1 hpa hpb h34_25 h42_26 h66_53 hok
  try simp only [sA_1, sL_1, sI_1, vp_in_iff, Int32.le_iff_toInt_le, Int32.lt_iff_toInt_lt, ← Int32.toInt_inj, reduceIte, Nat.reduceEqDiff] at *
  all_goals omega
theorem ob_X10_groundOf_75_57 (st : St) (a1 : Int32) (a2 : Int32) (a3 : Int32) (n_16 : Nat) (x7_16 : Int32) (x5_16 : Int32) (x6_16 : Int32) (hok : okM st) (hva1 : vp_in a1 100) (hpa : 0 ≤ a2.toInt) (hpb : a2.toInt < 16) (hi0_16 : 0 ≤ x7_16.toInt) (hi1_16 : x7_16.toInt ≤ (st.1 6).toInt) (hi2_16 : (st.1 6).toInt < x7_16.toInt + (n_16 + 1)) (h22_1 : ¬ st.1 6 ≤ x7_16) (h34_25 : ¬ (sp_X10_holdCovers st x7_16 a1 (a3 / 1440)) = 0) (h42_26 : x5_16 = 0) (h54_40 : ¬ 100 ≤ st.2.1 16 x7_16.toNatClampNeg) (h66_53 : x6_16 = 0) : vp_in x7_16 30 := by
  have z1 := okM_6 hok
  have z2 := (by decide : (0 : Int32).toInt = 0)
  have z3 := (by decide : (1 : Int32).toInt = 1)
  have z4 := (by decide : (6 : Int32).toInt = 6)
  have z5 := (by decide : (16 : Int32).toInt = 16)
  have z6 := (by decide : (30 : Int32).toInt = 30)
  have z7 := (by decide : (100 : Int32).toInt = 100)
  clear hva1 hpa hpb h34_25 h42_26 h66_53 hok
  try simp only [sA_1, sL_1, sI_1, vp_in_iff, Int32.le_iff_toInt_le, Int32.lt_iff_toInt_lt, ← Int32.toInt_inj, reduceIte, Nat.reduceEqDiff] at *
  all_goals omega
theorem ob_X10_groundOf_16_inv0_59 (st : St) (a1 : Int32) (a2 : Int32) (a3 : Int32) (n_16 : Nat) (x7_16 : Int32) (x5_16 : Int32) (x6_16 : Int32) (hok : okM st) (hva1 : vp_in a1 100) (hpa : 0 ≤ a2.toInt) (hpb : a2.toInt < 16) (hi0_16 : 0 ≤ x7_16.toInt) (hi1_16 : x7_16.toInt ≤ (st.1 6).toInt) (hi2_16 : (st.1 6).toInt < x7_16.toInt + (n_16 + 1)) (h22_1 : ¬ st.1 6 ≤ x7_16) (h34_25 : ¬ (sp_X10_holdCovers st x7_16 a1 (a3 / 1440)) = 0) (h42_26 : x5_16 = 0) (h54_40 : ¬ 100 ≤ st.2.1 16 x7_16.toNatClampNeg) (h66_53 : x6_16 = 0) (h77_58 : ¬ st.2.1 17 x7_16.toNatClampNeg = a2) : 0 ≤ (x7_16 + 1).toInt := by
  have z1 := okM_6 hok
  have z2 := (by decide : (0 : Int32).toInt = 0)
  have z3 := (by decide : (1 : Int32).toInt = 1)
  have z4 := (by decide : (6 : Int32).toInt = 6)
  have z5 := (by decide : (16 : Int32).toInt = 16)
  have z6 := (by decide : (17 : Int32).toInt = 17)
  have z7 := (by decide : (100 : Int32).toInt = 100)
  have z8 := inc_I x7_16
  clear hva1 hpa hpb h34_25 h42_26 h66_53 hok
  try simp only [sA_1, sL_1, sI_1, vp_in_iff, Int32.le_iff_toInt_le, Int32.lt_iff_toInt_lt, ← Int32.toInt_inj, reduceIte, Nat.reduceEqDiff] at *
  all_goals omega
theorem ob_X10_groundOf_16_inv1_60 (st : St) (a1 : Int32) (a2 : Int32) (a3 : Int32) (n_16 : Nat) (x7_16 : Int32) (x5_16 : Int32) (x6_16 : Int32) (hok : okM st) (hva1 : vp_in a1 100) (hpa : 0 ≤ a2.toInt) (hpb : a2.toInt < 16) (hi0_16 : 0 ≤ x7_16.toInt) (hi1_16 : x7_16.toInt ≤ (st.1 6).toInt) (hi2_16 : (st.1 6).toInt < x7_16.toInt + (n_16 + 1)) (h22_1 : ¬ st.1 6 ≤ x7_16) (h34_25 : ¬ (sp_X10_holdCovers st x7_16 a1 (a3 / 1440)) = 0) (h42_26 : x5_16 = 0) (h54_40 : ¬ 100 ≤ st.2.1 16 x7_16.toNatClampNeg) (h66_53 : x6_16 = 0) (h77_58 : ¬ st.2.1 17 x7_16.toNatClampNeg = a2) : (x7_16 + 1).toInt ≤ (st.1 6).toInt := by
  have z1 := okM_6 hok
  have z2 := (by decide : (0 : Int32).toInt = 0)
  have z3 := (by decide : (1 : Int32).toInt = 1)
  have z4 := (by decide : (6 : Int32).toInt = 6)
  have z5 := (by decide : (16 : Int32).toInt = 16)
  have z6 := (by decide : (17 : Int32).toInt = 17)
  have z7 := (by decide : (100 : Int32).toInt = 100)
  have z8 := inc_I x7_16
  clear hva1 hpa hpb h34_25 h42_26 h66_53 hok
  try simp only [sA_1, sL_1, sI_1, vp_in_iff, Int32.le_iff_toInt_le, Int32.lt_iff_toInt_lt, ← Int32.toInt_inj, reduceIte, Nat.reduceEqDiff] at *
  all_goals omega
theorem ob_X10_groundOf_16_inv2_61 (st : St) (a1 : Int32) (a2 : Int32) (a3 : Int32) (n_16 : Nat) (x7_16 : Int32) (x5_16 : Int32) (x6_16 : Int32) (hok : okM st) (hva1 : vp_in a1 100) (hpa : 0 ≤ a2.toInt) (hpb : a2.toInt < 16) (hi0_16 : 0 ≤ x7_16.toInt) (hi1_16 : x7_16.toInt ≤ (st.1 6).toInt) (hi2_16 : (st.1 6).toInt < x7_16.toInt + (n_16 + 1)) (h22_1 : ¬ st.1 6 ≤ x7_16) (h34_25 : ¬ (sp_X10_holdCovers st x7_16 a1 (a3 / 1440)) = 0) (h42_26 : x5_16 = 0) (h54_40 : ¬ 100 ≤ st.2.1 16 x7_16.toNatClampNeg) (h66_53 : x6_16 = 0) (h77_58 : ¬ st.2.1 17 x7_16.toNatClampNeg = a2) : (st.1 6).toInt < (x7_16 + 1).toInt + n_16 := by
  have z1 := okM_6 hok
  have z2 := (by decide : (0 : Int32).toInt = 0)
  have z3 := (by decide : (1 : Int32).toInt = 1)
  have z4 := (by decide : (6 : Int32).toInt = 6)
  have z5 := (by decide : (16 : Int32).toInt = 16)
  have z6 := (by decide : (17 : Int32).toInt = 17)
  have z7 := (by decide : (100 : Int32).toInt = 100)
  have z8 := inc_I x7_16
  clear hva1 hpa hpb h34_25 h42_26 h66_53 hok
  try simp only [sA_1, sL_1, sI_1, vp_in_iff, Int32.le_iff_toInt_le, Int32.lt_iff_toInt_lt, ← Int32.toInt_inj, reduceIte, Nat.reduceEqDiff] at *
  all_goals omega
theorem ob_X10_groundOf_16_inv0_62 (st : St) (a1 : Int32) (a2 : Int32) (a3 : Int32) (n_16 : Nat) (x7_16 : Int32) (x5_16 : Int32) (x6_16 : Int32) (hok : okM st) (hva1 : vp_in a1 100) (hpa : 0 ≤ a2.toInt) (hpb : a2.toInt < 16) (hi0_16 : 0 ≤ x7_16.toInt) (hi1_16 : x7_16.toInt ≤ (st.1 6).toInt) (hi2_16 : (st.1 6).toInt < x7_16.toInt + (n_16 + 1)) (h22_1 : ¬ st.1 6 ≤ x7_16) (h34_25 : ¬ (sp_X10_holdCovers st x7_16 a1 (a3 / 1440)) = 0) (h42_26 : x5_16 = 0) (h54_40 : ¬ 100 ≤ st.2.1 16 x7_16.toNatClampNeg) (h66_53 : x6_16 = 0) (h77_58 : st.2.1 17 x7_16.toNatClampNeg = a2) : 0 ≤ (x7_16 + 1).toInt := by
  have z1 := okM_6 hok
  have z2 := (by decide : (0 : Int32).toInt = 0)
  have z3 := (by decide : (1 : Int32).toInt = 1)
  have z4 := (by decide : (6 : Int32).toInt = 6)
  have z5 := (by decide : (16 : Int32).toInt = 16)
  have z6 := (by decide : (17 : Int32).toInt = 17)
  have z7 := (by decide : (100 : Int32).toInt = 100)
  have z8 := inc_I x7_16
  clear hva1 hpa hpb h34_25 h42_26 h66_53 hok
  try simp only [sA_1, sL_1, sI_1, vp_in_iff, Int32.le_iff_toInt_le, Int32.lt_iff_toInt_lt, ← Int32.toInt_inj, reduceIte, Nat.reduceEqDiff] at *
  all_goals omega
theorem ob_X10_groundOf_16_inv1_63 (st : St) (a1 : Int32) (a2 : Int32) (a3 : Int32) (n_16 : Nat) (x7_16 : Int32) (x5_16 : Int32) (x6_16 : Int32) (hok : okM st) (hva1 : vp_in a1 100) (hpa : 0 ≤ a2.toInt) (hpb : a2.toInt < 16) (hi0_16 : 0 ≤ x7_16.toInt) (hi1_16 : x7_16.toInt ≤ (st.1 6).toInt) (hi2_16 : (st.1 6).toInt < x7_16.toInt + (n_16 + 1)) (h22_1 : ¬ st.1 6 ≤ x7_16) (h34_25 : ¬ (sp_X10_holdCovers st x7_16 a1 (a3 / 1440)) = 0) (h42_26 : x5_16 = 0) (h54_40 : ¬ 100 ≤ st.2.1 16 x7_16.toNatClampNeg) (h66_53 : x6_16 = 0) (h77_58 : st.2.1 17 x7_16.toNatClampNeg = a2) : (x7_16 + 1).toInt ≤ (st.1 6).toInt := by
  have z1 := okM_6 hok
  have z2 := (by decide : (0 : Int32).toInt = 0)
  have z3 := (by decide : (1 : Int32).toInt = 1)
  have z4 := (by decide : (6 : Int32).toInt = 6)
  have z5 := (by decide : (16 : Int32).toInt = 16)
  have z6 := (by decide : (17 : Int32).toInt = 17)
  have z7 := (by decide : (100 : Int32).toInt = 100)
  have z8 := inc_I x7_16
  clear hva1 hpa hpb h34_25 h42_26 h66_53 hok
  try simp only [sA_1, sL_1, sI_1, vp_in_iff, Int32.le_iff_toInt_le, Int32.lt_iff_toInt_lt, ← Int32.toInt_inj, reduceIte, Nat.reduceEqDiff] at *
  all_goals omega
theorem ob_X10_groundOf_16_inv2_64 (st : St) (a1 : Int32) (a2 : Int32) (a3 : Int32) (n_16 : Nat) (x7_16 : Int32) (x5_16 : Int32) (x6_16 : Int32) (hok : okM st) (hva1 : vp_in a1 100) (hpa : 0 ≤ a2.toInt) (hpb : a2.toInt < 16) (hi0_16 : 0 ≤ x7_16.toInt) (hi1_16 : x7_16.toInt ≤ (st.1 6).toInt) (hi2_16 : (st.1 6).toInt < x7_16.toInt + (n_16 + 1)) (h22_1 : ¬ st.1 6 ≤ x7_16) (h34_25 : ¬ (sp_X10_holdCovers st x7_16 a1 (a3 / 1440)) = 0) (h42_26 : x5_16 = 0) (h54_40 : ¬ 100 ≤ st.2.1 16 x7_16.toNatClampNeg) (h66_53 : x6_16 = 0) (h77_58 : st.2.1 17 x7_16.toNatClampNeg = a2) : (st.1 6).toInt < (x7_16 + 1).toInt + n_16 := by
  have z1 := okM_6 hok
  have z2 := (by decide : (0 : Int32).toInt = 0)
  have z3 := (by decide : (1 : Int32).toInt = 1)
  have z4 := (by decide : (6 : Int32).toInt = 6)
  have z5 := (by decide : (16 : Int32).toInt = 16)
  have z6 := (by decide : (17 : Int32).toInt = 17)
  have z7 := (by decide : (100 : Int32).toInt = 100)
  have z8 := inc_I x7_16
  clear hva1 hpa hpb h34_25 h42_26 h66_53 hok
  try simp only [sA_1, sL_1, sI_1, vp_in_iff, Int32.le_iff_toInt_le, Int32.lt_iff_toInt_lt, ← Int32.toInt_inj, reduceIte, Nat.reduceEqDiff] at *
  all_goals omega
theorem ob_X10_groundOf_16_inv0_65 (st : St) (a1 : Int32) (a2 : Int32) (a3 : Int32) (n_16 : Nat) (x7_16 : Int32) (x5_16 : Int32) (x6_16 : Int32) (hok : okM st) (hva1 : vp_in a1 100) (hpa : 0 ≤ a2.toInt) (hpb : a2.toInt < 16) (hi0_16 : 0 ≤ x7_16.toInt) (hi1_16 : x7_16.toInt ≤ (st.1 6).toInt) (hi2_16 : (st.1 6).toInt < x7_16.toInt + (n_16 + 1)) (h22_1 : ¬ st.1 6 ≤ x7_16) (h34_25 : (sp_X10_holdCovers st x7_16 a1 (a3 / 1440)) = 0) : 0 ≤ (x7_16 + 1).toInt := by
  have z1 := okM_6 hok
  have z2 := (by decide : (0 : Int32).toInt = 0)
  have z3 := (by decide : (1 : Int32).toInt = 1)
  have z4 := (by decide : (6 : Int32).toInt = 6)
  have z5 := inc_I x7_16
  clear hva1 hpa hpb h34_25 hok
  try simp only [sA_1, sL_1, sI_1, vp_in_iff, Int32.le_iff_toInt_le, Int32.lt_iff_toInt_lt, ← Int32.toInt_inj, reduceIte, Nat.reduceEqDiff] at *
  all_goals omega
theorem ob_X10_groundOf_16_inv1_66 (st : St) (a1 : Int32) (a2 : Int32) (a3 : Int32) (n_16 : Nat) (x7_16 : Int32) (x5_16 : Int32) (x6_16 : Int32) (hok : okM st) (hva1 : vp_in a1 100) (hpa : 0 ≤ a2.toInt) (hpb : a2.toInt < 16) (hi0_16 : 0 ≤ x7_16.toInt) (hi1_16 : x7_16.toInt ≤ (st.1 6).toInt) (hi2_16 : (st.1 6).toInt < x7_16.toInt + (n_16 + 1)) (h22_1 : ¬ st.1 6 ≤ x7_16) (h34_25 : (sp_X10_holdCovers st x7_16 a1 (a3 / 1440)) = 0) : (x7_16 + 1).toInt ≤ (st.1 6).toInt := by
  have z1 := okM_6 hok
  have z2 := (by decide : (0 : Int32).toInt = 0)
  have z3 := (by decide : (1 : Int32).toInt = 1)
  have z4 := (by decide : (6 : Int32).toInt = 6)
  have z5 := inc_I x7_16
  clear hva1 hpa hpb h34_25 hok
  try simp only [sA_1, sL_1, sI_1, vp_in_iff, Int32.le_iff_toInt_le, Int32.lt_iff_toInt_lt, ← Int32.toInt_inj, reduceIte, Nat.reduceEqDiff] at *
  all_goals omega
theorem ob_X10_groundOf_16_inv2_67 (st : St) (a1 : Int32) (a2 : Int32) (a3 : Int32) (n_16 : Nat) (x7_16 : Int32) (x5_16 : Int32) (x6_16 : Int32) (hok : okM st) (hva1 : vp_in a1 100) (hpa : 0 ≤ a2.toInt) (hpb : a2.toInt < 16) (hi0_16 : 0 ≤ x7_16.toInt) (hi1_16 : x7_16.toInt ≤ (st.1 6).toInt) (hi2_16 : (st.1 6).toInt < x7_16.toInt + (n_16 + 1)) (h22_1 : ¬ st.1 6 ≤ x7_16) (h34_25 : (sp_X10_holdCovers st x7_16 a1 (a3 / 1440)) = 0) : (st.1 6).toInt < (x7_16 + 1).toInt + n_16 := by
  have z1 := okM_6 hok
  have z2 := (by decide : (0 : Int32).toInt = 0)
  have z3 := (by decide : (1 : Int32).toInt = 1)
  have z4 := (by decide : (6 : Int32).toInt = 6)
  have z5 := inc_I x7_16
  clear hva1 hpa hpb h34_25 hok
  try simp only [sA_1, sL_1, sI_1, vp_in_iff, Int32.le_iff_toInt_le, Int32.lt_iff_toInt_lt, ← Int32.toInt_inj, reduceIte, Nat.reduceEqDiff] at *
  all_goals omega
theorem ob_X10_groundOf_16_inv0_68 (st : St) (a1 : Int32) (a2 : Int32) (a3 : Int32) (hok : okM st) (hva1 : vp_in a1 100) (hpa : 0 ≤ a2.toInt) (hpb : a2.toInt < 16) : 0 ≤ (0 : Int32).toInt := by
  have z1 := (by decide : (0 : Int32).toInt = 0)
  clear hva1 hpa hpb hok
  try simp only [sA_1, sL_1, sI_1, vp_in_iff, Int32.le_iff_toInt_le, Int32.lt_iff_toInt_lt, ← Int32.toInt_inj, reduceIte, Nat.reduceEqDiff] at *
  all_goals omega
theorem ob_X10_groundOf_16_inv1_69 (st : St) (a1 : Int32) (a2 : Int32) (a3 : Int32) (hok : okM st) (hva1 : vp_in a1 100) (hpa : 0 ≤ a2.toInt) (hpb : a2.toInt < 16) : (0 : Int32).toInt ≤ (st.1 6).toInt := by
  have z1 := okM_6 hok
  have z2 := (by decide : (0 : Int32).toInt = 0)
  have z3 := (by decide : (6 : Int32).toInt = 6)
  clear hva1 hpa hpb hok
  try simp only [sA_1, sL_1, sI_1, vp_in_iff, Int32.le_iff_toInt_le, Int32.lt_iff_toInt_lt, ← Int32.toInt_inj, reduceIte, Nat.reduceEqDiff] at *
  all_goals omega
theorem ob_X10_groundOf_16_inv2_70 (st : St) (a1 : Int32) (a2 : Int32) (a3 : Int32) (hok : okM st) (hva1 : vp_in a1 100) (hpa : 0 ≤ a2.toInt) (hpb : a2.toInt < 16) : (st.1 6).toInt < (0 : Int32).toInt + ((st.1 6).toInt.toNat + 1) := by
  have z1 := okM_6 hok
  have z2 := (by decide : (0 : Int32).toInt = 0)
  have z3 := (by decide : (1 : Int32).toInt = 1)
  have z4 := (by decide : (6 : Int32).toInt = 6)
  clear hva1 hpa hpb hok
  try simp only [sA_1, sL_1, sI_1, vp_in_iff, Int32.le_iff_toInt_le, Int32.lt_iff_toInt_lt, ← Int32.toInt_inj, reduceIte, Nat.reduceEqDiff] at *
  all_goals omega
theorem ob_X10_reckon_2_zero (st : St) (st_2 : St) (x1_2 : Int32) (hit : okIt st) (hi0_2 : 0 ≤ x1_2.toInt) (hi1_2 : x1_2.toInt ≤ (st.1 7).toInt) (hi2_2 : (st.1 7).toInt < x1_2.toInt + 0) (hi3_2 : okIt st_2) (hi4_2 : (st_2.1 7).toInt = (st.1 7).toInt) : False := by
  have z1 := okIt_7 hit
  have z2 := okIt_7 hi3_2
  have z3 := (by decide : (0 : Int32).toInt = 0)
  have z4 := (by decide : (7 : Int32).toInt = 7)
  clear hit hi3_2
  try simp only [sA_1, sL_1, sI_1, vp_in_iff, Int32.le_iff_toInt_le, Int32.lt_iff_toInt_lt, ← Int32.toInt_inj, reduceIte, Nat.reduceEqDiff] at *
  all_goals omega
theorem ob_X10_reckon_171_2 (st : St) (n_2 : Nat) (st_2 : St) (x1_2 : Int32) (v0_49 : Int64) (v0_89 : Int64) (v0_171 : Int64) (hit : okIt st) (hi0_2 : 0 ≤ x1_2.toInt) (hi1_2 : x1_2.toInt ≤ (st.1 7).toInt) (hi2_2 : (st.1 7).toInt < x1_2.toInt + (n_2 + 1)) (hi3_2 : okIt st_2) (hi4_2 : (st_2.1 7).toInt = (st.1 7).toInt) (h7_1 : ¬ st_2.1 7 ≤ x1_2) : vp_in x1_2 100 := by
  have z1 := okIt_7 hit
  have z2 := okIt_7 hi3_2
  have z3 := (by decide : (0 : Int32).toInt = 0)
  have z4 := (by decide : (1 : Int32).toInt = 1)
  have z5 := (by decide : (7 : Int32).toInt = 7)
  have z6 := (by decide : (100 : Int32).toInt = 100)
  clear hi4_2 hit hi3_2
  try simp only [sA_1, sL_1, sI_1, vp_in_iff, Int32.le_iff_toInt_le, Int32.lt_iff_toInt_lt, ← Int32.toInt_inj, reduceIte, Nat.reduceEqDiff] at *
  all_goals omega
theorem ob_X10_reckon_2_inv0_3 (st : St) (n_2 : Nat) (st_2 : St) (x1_2 : Int32) (v0_49 : Int64) (v0_89 : Int64) (v0_171 : Int64) (hit : okIt st) (hi0_2 : 0 ≤ x1_2.toInt) (hi1_2 : x1_2.toInt ≤ (st.1 7).toInt) (hi2_2 : (st.1 7).toInt < x1_2.toInt + (n_2 + 1)) (hi3_2 : okIt st_2) (hi4_2 : (st_2.1 7).toInt = (st.1 7).toInt) (h7_1 : ¬ st_2.1 7 ≤ x1_2) : 0 ≤ (x1_2 + 1).toInt := by
  have z1 := okIt_7 hit
  have z2 := okIt_7 hi3_2
  have z3 := (by decide : (0 : Int32).toInt = 0)
  have z4 := (by decide : (1 : Int32).toInt = 1)
  have z5 := (by decide : (7 : Int32).toInt = 7)
  have z6 := inc_I x1_2
  clear hi4_2 hit hi3_2
  try simp only [sA_1, sL_1, sI_1, vp_in_iff, Int32.le_iff_toInt_le, Int32.lt_iff_toInt_lt, ← Int32.toInt_inj, reduceIte, Nat.reduceEqDiff] at *
  all_goals omega
theorem ob_X10_reckon_2_inv1_4 (st : St) (n_2 : Nat) (st_2 : St) (x1_2 : Int32) (v0_49 : Int64) (v0_89 : Int64) (v0_171 : Int64) (hit : okIt st) (hi0_2 : 0 ≤ x1_2.toInt) (hi1_2 : x1_2.toInt ≤ (st.1 7).toInt) (hi2_2 : (st.1 7).toInt < x1_2.toInt + (n_2 + 1)) (hi3_2 : okIt st_2) (hi4_2 : (st_2.1 7).toInt = (st.1 7).toInt) (h7_1 : ¬ st_2.1 7 ≤ x1_2) : (x1_2 + 1).toInt ≤ (st.1 7).toInt := by
  have z1 := okIt_7 hit
  have z2 := okIt_7 hi3_2
  have z3 := (by decide : (0 : Int32).toInt = 0)
  have z4 := (by decide : (1 : Int32).toInt = 1)
  have z5 := (by decide : (7 : Int32).toInt = 7)
  have z6 := inc_I x1_2
  clear hit hi3_2
  try simp only [sA_1, sL_1, sI_1, vp_in_iff, Int32.le_iff_toInt_le, Int32.lt_iff_toInt_lt, ← Int32.toInt_inj, reduceIte, Nat.reduceEqDiff] at *
  all_goals omega
theorem ob_X10_reckon_2_inv2_5 (st : St) (n_2 : Nat) (st_2 : St) (x1_2 : Int32) (v0_49 : Int64) (v0_89 : Int64) (v0_171 : Int64) (hit : okIt st) (hi0_2 : 0 ≤ x1_2.toInt) (hi1_2 : x1_2.toInt ≤ (st.1 7).toInt) (hi2_2 : (st.1 7).toInt < x1_2.toInt + (n_2 + 1)) (hi3_2 : okIt st_2) (hi4_2 : (st_2.1 7).toInt = (st.1 7).toInt) (h7_1 : ¬ st_2.1 7 ≤ x1_2) : (st.1 7).toInt < (x1_2 + 1).toInt + n_2 := by
  have z1 := okIt_7 hit
  have z2 := okIt_7 hi3_2
  have z3 := (by decide : (0 : Int32).toInt = 0)
  have z4 := (by decide : (1 : Int32).toInt = 1)
  have z5 := (by decide : (7 : Int32).toInt = 7)
  have z6 := inc_I x1_2
  clear hit hi3_2
  try simp only [sA_1, sL_1, sI_1, vp_in_iff, Int32.le_iff_toInt_le, Int32.lt_iff_toInt_lt, ← Int32.toInt_inj, reduceIte, Nat.reduceEqDiff] at *
  all_goals omega
theorem ob_X10_reckon_2_inv3_6 (st : St) (n_2 : Nat) (st_2 : St) (x1_2 : Int32) (v0_49 : Int64) (v0_89 : Int64) (v0_171 : Int64) (hit : okIt st) (hi0_2 : 0 ≤ x1_2.toInt) (hi1_2 : x1_2.toInt ≤ (st.1 7).toInt) (hi2_2 : (st.1 7).toInt < x1_2.toInt + (n_2 + 1)) (hi3_2 : okIt st_2) (hi4_2 : (st_2.1 7).toInt = (st.1 7).toInt) (h7_1 : ¬ st_2.1 7 ≤ x1_2) : okIt (sL st_2 x1_2.toNatClampNeg v0_171) := by
  exact hi3_2
theorem ob_X10_reckon_2_inv4_7 (st : St) (n_2 : Nat) (st_2 : St) (x1_2 : Int32) (v0_49 : Int64) (v0_89 : Int64) (v0_171 : Int64) (hit : okIt st) (hi0_2 : 0 ≤ x1_2.toInt) (hi1_2 : x1_2.toInt ≤ (st.1 7).toInt) (hi2_2 : (st.1 7).toInt < x1_2.toInt + (n_2 + 1)) (hi3_2 : okIt st_2) (hi4_2 : (st_2.1 7).toInt = (st.1 7).toInt) (h7_1 : ¬ st_2.1 7 ≤ x1_2) : ((sL st_2 x1_2.toNatClampNeg v0_171).1 7).toInt = (st.1 7).toInt := by
  have z1 := okIt_7 hit
  have z2 := okIt_7 hi3_2
  have z3 := (by decide : (0 : Int32).toInt = 0)
  have z4 := (by decide : (1 : Int32).toInt = 1)
  have z5 := (by decide : (7 : Int32).toInt = 7)
  clear hit hi3_2
  try simp only [sA_1, sL_1, sI_1, vp_in_iff, Int32.le_iff_toInt_le, Int32.lt_iff_toInt_lt, ← Int32.toInt_inj, reduceIte, Nat.reduceEqDiff] at *
  all_goals omega
theorem ob_X10_reckon_101_8 (st : St) (n_2 : Nat) (st_2 : St) (x1_2 : Int32) (v0_49 : Int64) (v0_89 : Int64) (hit : okIt st) (hi0_2 : 0 ≤ x1_2.toInt) (hi1_2 : x1_2.toInt ≤ (st.1 7).toInt) (hi2_2 : (st.1 7).toInt < x1_2.toInt + (n_2 + 1)) (hi3_2 : okIt st_2) (hi4_2 : (st_2.1 7).toInt = (st.1 7).toInt) (h7_1 : ¬ st_2.1 7 ≤ x1_2) : vp_in x1_2 100 := by
  have z1 := okIt_7 hit
  have z2 := okIt_7 hi3_2
  have z3 := (by decide : (0 : Int32).toInt = 0)
  have z4 := (by decide : (1 : Int32).toInt = 1)
  have z5 := (by decide : (7 : Int32).toInt = 7)
  have z6 := (by decide : (100 : Int32).toInt = 100)
  clear hi4_2 hit hi3_2
  try simp only [sA_1, sL_1, sI_1, vp_in_iff, Int32.le_iff_toInt_le, Int32.lt_iff_toInt_lt, ← Int32.toInt_inj, reduceIte, Nat.reduceEqDiff] at *
  all_goals omega
theorem ob_X10_reckon_114_10 (st : St) (n_2 : Nat) (st_2 : St) (x1_2 : Int32) (v0_49 : Int64) (v0_89 : Int64) (hit : okIt st) (hi0_2 : 0 ≤ x1_2.toInt) (hi1_2 : x1_2.toInt ≤ (st.1 7).toInt) (hi2_2 : (st.1 7).toInt < x1_2.toInt + (n_2 + 1)) (hi3_2 : okIt st_2) (hi4_2 : (st_2.1 7).toInt = (st.1 7).toInt) (h7_1 : ¬ st_2.1 7 ≤ x1_2) (h102_9 : ¬ st_2.2.1 26 x1_2.toNatClampNeg = 0) : vp_in x1_2 100 := by
  have z1 := okIt_7 hit
  have z2 := okIt_7 hi3_2
  have z3 := (by decide : (0 : Int32).toInt = 0)
  have z4 := (by decide : (1 : Int32).toInt = 1)
  have z5 := (by decide : (7 : Int32).toInt = 7)
  have z6 := (by decide : (26 : Int32).toInt = 26)
  have z7 := (by decide : (100 : Int32).toInt = 100)
  clear hi4_2 hit hi3_2
  try simp only [sA_1, sL_1, sI_1, vp_in_iff, Int32.le_iff_toInt_le, Int32.lt_iff_toInt_lt, ← Int32.toInt_inj, reduceIte, Nat.reduceEqDiff] at *
  all_goals omega
theorem ob_X10_reckon_134_12 (st : St) (n_2 : Nat) (st_2 : St) (x1_2 : Int32) (v0_49 : Int64) (v0_89 : Int64) (hit : okIt st) (hi0_2 : 0 ≤ x1_2.toInt) (hi1_2 : x1_2.toInt ≤ (st.1 7).toInt) (hi2_2 : (st.1 7).toInt < x1_2.toInt + (n_2 + 1)) (hi3_2 : okIt st_2) (hi4_2 : (st_2.1 7).toInt = (st.1 7).toInt) (h7_1 : ¬ st_2.1 7 ≤ x1_2) (h102_9 : ¬ st_2.2.1 26 x1_2.toNatClampNeg = 0) (h116_11 : ¬ st_2.2.1 23 x1_2.toNatClampNeg = (-1)) : vp_in x1_2 100 := by
  have z1 := okIt_7 hit
  have z2 := okIt_7 hi3_2
  have z3 := (by decide : (0 : Int32).toInt = 0)
  have z4 := (by decide : (1 : Int32).toInt = 1)
  have z5 := (by decide : (7 : Int32).toInt = 7)
  have z6 := (by decide : (23 : Int32).toInt = 23)
  have z7 := (by decide : (26 : Int32).toInt = 26)
  have z8 := (by decide : (100 : Int32).toInt = 100)
  have z9 := (by decide : (-1 : Int32).toInt = -1)
  clear hi4_2 hit hi3_2
  try simp only [sA_1, sL_1, sI_1, vp_in_iff, Int32.le_iff_toInt_le, Int32.lt_iff_toInt_lt, ← Int32.toInt_inj, reduceIte, Nat.reduceEqDiff] at *
  all_goals omega
theorem ob_X10_reckon_147_14 (st : St) (n_2 : Nat) (st_2 : St) (x1_2 : Int32) (v0_49 : Int64) (v0_89 : Int64) (hit : okIt st) (hi0_2 : 0 ≤ x1_2.toInt) (hi1_2 : x1_2.toInt ≤ (st.1 7).toInt) (hi2_2 : (st.1 7).toInt < x1_2.toInt + (n_2 + 1)) (hi3_2 : okIt st_2) (hi4_2 : (st_2.1 7).toInt = (st.1 7).toInt) (h7_1 : ¬ st_2.1 7 ≤ x1_2) (h102_9 : ¬ st_2.2.1 26 x1_2.toNatClampNeg = 0) (h116_11 : ¬ st_2.2.1 23 x1_2.toNatClampNeg = (-1)) (h135_13 : ¬ st_2.2.1 23 x1_2.toNatClampNeg = 0) : vp_in x1_2 100 := by
  have z1 := okIt_7 hit
  have z2 := okIt_7 hi3_2
  have z3 := (by decide : (0 : Int32).toInt = 0)
  have z4 := (by decide : (1 : Int32).toInt = 1)
  have z5 := (by decide : (7 : Int32).toInt = 7)
  have z6 := (by decide : (23 : Int32).toInt = 23)
  have z7 := (by decide : (26 : Int32).toInt = 26)
  have z8 := (by decide : (100 : Int32).toInt = 100)
  have z9 := (by decide : (-1 : Int32).toInt = -1)
  clear hi4_2 hit hi3_2
  try simp only [sA_1, sL_1, sI_1, vp_in_iff, Int32.le_iff_toInt_le, Int32.lt_iff_toInt_lt, ← Int32.toInt_inj, reduceIte, Nat.reduceEqDiff] at *
  all_goals omega
theorem ob_X10_reckon_124_17 (st : St) (n_2 : Nat) (st_2 : St) (x1_2 : Int32) (v0_49 : Int64) (v0_89 : Int64) (hit : okIt st) (hi0_2 : 0 ≤ x1_2.toInt) (hi1_2 : x1_2.toInt ≤ (st.1 7).toInt) (hi2_2 : (st.1 7).toInt < x1_2.toInt + (n_2 + 1)) (hi3_2 : okIt st_2) (hi4_2 : (st_2.1 7).toInt = (st.1 7).toInt) (h7_1 : ¬ st_2.1 7 ≤ x1_2) (h102_9 : ¬ st_2.2.1 26 x1_2.toNatClampNeg = 0) (h116_11 : st_2.2.1 23 x1_2.toNatClampNeg = (-1)) : vp_in x1_2 100 := by
  have z1 := okIt_7 hit
  have z2 := okIt_7 hi3_2
  have z3 := (by decide : (0 : Int32).toInt = 0)
  have z4 := (by decide : (1 : Int32).toInt = 1)
  have z5 := (by decide : (7 : Int32).toInt = 7)
  have z6 := (by decide : (23 : Int32).toInt = 23)
  have z7 := (by decide : (26 : Int32).toInt = 26)
  have z8 := (by decide : (100 : Int32).toInt = 100)
  have z9 := (by decide : (-1 : Int32).toInt = -1)
  clear hi4_2 hit hi3_2
  try simp only [sA_1, sL_1, sI_1, vp_in_iff, Int32.le_iff_toInt_le, Int32.lt_iff_toInt_lt, ← Int32.toInt_inj, reduceIte, Nat.reduceEqDiff] at *
  all_goals omega
theorem ob_X10_reckon_55_18 (st : St) (n_2 : Nat) (st_2 : St) (x1_2 : Int32) (v0_49 : Int64) (hit : okIt st) (hi0_2 : 0 ≤ x1_2.toInt) (hi1_2 : x1_2.toInt ≤ (st.1 7).toInt) (hi2_2 : (st.1 7).toInt < x1_2.toInt + (n_2 + 1)) (hi3_2 : okIt st_2) (hi4_2 : (st_2.1 7).toInt = (st.1 7).toInt) (h7_1 : ¬ st_2.1 7 ≤ x1_2) : vp_in x1_2 100 := by
  have z1 := okIt_7 hit
  have z2 := okIt_7 hi3_2
  have z3 := (by decide : (0 : Int32).toInt = 0)
  have z4 := (by decide : (1 : Int32).toInt = 1)
  have z5 := (by decide : (7 : Int32).toInt = 7)
  have z6 := (by decide : (100 : Int32).toInt = 100)
  clear hi4_2 hit hi3_2
  try simp only [sA_1, sL_1, sI_1, vp_in_iff, Int32.le_iff_toInt_le, Int32.lt_iff_toInt_lt, ← Int32.toInt_inj, reduceIte, Nat.reduceEqDiff] at *
  all_goals omega
theorem ob_X10_reckon_69_20 (st : St) (n_2 : Nat) (st_2 : St) (x1_2 : Int32) (v0_49 : Int64) (hit : okIt st) (hi0_2 : 0 ≤ x1_2.toInt) (hi1_2 : x1_2.toInt ≤ (st.1 7).toInt) (hi2_2 : (st.1 7).toInt < x1_2.toInt + (n_2 + 1)) (hi3_2 : okIt st_2) (hi4_2 : (st_2.1 7).toInt = (st.1 7).toInt) (h7_1 : ¬ st_2.1 7 ≤ x1_2) (h57_19 : ¬ st_2.2.1 23 x1_2.toNatClampNeg = (-1)) : vp_in x1_2 100 := by
  have z1 := okIt_7 hit
  have z2 := okIt_7 hi3_2
  have z3 := (by decide : (0 : Int32).toInt = 0)
  have z4 := (by decide : (1 : Int32).toInt = 1)
  have z5 := (by decide : (7 : Int32).toInt = 7)
  have z6 := (by decide : (23 : Int32).toInt = 23)
  have z7 := (by decide : (100 : Int32).toInt = 100)
  have z8 := (by decide : (-1 : Int32).toInt = -1)
  clear hi4_2 hit hi3_2
  try simp only [sA_1, sL_1, sI_1, vp_in_iff, Int32.le_iff_toInt_le, Int32.lt_iff_toInt_lt, ← Int32.toInt_inj, reduceIte, Nat.reduceEqDiff] at *
  all_goals omega
theorem ob_X10_reckon_70_21 (st : St) (n_2 : Nat) (st_2 : St) (x1_2 : Int32) (v0_49 : Int64) (hit : okIt st) (hi0_2 : 0 ≤ x1_2.toInt) (hi1_2 : x1_2.toInt ≤ (st.1 7).toInt) (hi2_2 : (st.1 7).toInt < x1_2.toInt + (n_2 + 1)) (hi3_2 : okIt st_2) (hi4_2 : (st_2.1 7).toInt = (st.1 7).toInt) (h7_1 : ¬ st_2.1 7 ≤ x1_2) (h57_19 : ¬ st_2.2.1 23 x1_2.toNatClampNeg = (-1)) : vp_in (st_2.2.1 25 x1_2.toNatClampNeg) 100 := by
  exact okIt_snd hi3_2 _
theorem ob_X10_reckon_87_23 (st : St) (n_2 : Nat) (st_2 : St) (x1_2 : Int32) (v0_49 : Int64) (hit : okIt st) (hi0_2 : 0 ≤ x1_2.toInt) (hi1_2 : x1_2.toInt ≤ (st.1 7).toInt) (hi2_2 : (st.1 7).toInt < x1_2.toInt + (n_2 + 1)) (hi3_2 : okIt st_2) (hi4_2 : (st_2.1 7).toInt = (st.1 7).toInt) (h7_1 : ¬ st_2.1 7 ≤ x1_2) (h57_19 : ¬ st_2.2.1 23 x1_2.toNatClampNeg = (-1)) (h71_22 : ¬ st_2.2.1 26 (st_2.2.1 25 x1_2.toNatClampNeg).toNatClampNeg = 0) : vp_in x1_2 100 := by
  have z1 := okIt_7 hit
  have z2 := okIt_7 hi3_2
  have z3 := (by decide : (0 : Int32).toInt = 0)
  have z4 := (by decide : (1 : Int32).toInt = 1)
  have z5 := (by decide : (7 : Int32).toInt = 7)
  have z6 := (by decide : (23 : Int32).toInt = 23)
  have z7 := (by decide : (25 : Int32).toInt = 25)
  have z8 := (by decide : (26 : Int32).toInt = 26)
  have z9 := (by decide : (100 : Int32).toInt = 100)
  have z10 := (by decide : (-1 : Int32).toInt = -1)
  clear hi4_2 hit hi3_2
  try simp only [sA_1, sL_1, sI_1, vp_in_iff, Int32.le_iff_toInt_le, Int32.lt_iff_toInt_lt, ← Int32.toInt_inj, reduceIte, Nat.reduceEqDiff] at *
  all_goals omega
theorem ob_X10_reckon_88_24 (st : St) (n_2 : Nat) (st_2 : St) (x1_2 : Int32) (v0_49 : Int64) (hit : okIt st) (hi0_2 : 0 ≤ x1_2.toInt) (hi1_2 : x1_2.toInt ≤ (st.1 7).toInt) (hi2_2 : (st.1 7).toInt < x1_2.toInt + (n_2 + 1)) (hi3_2 : okIt st_2) (hi4_2 : (st_2.1 7).toInt = (st.1 7).toInt) (h7_1 : ¬ st_2.1 7 ≤ x1_2) (h57_19 : ¬ st_2.2.1 23 x1_2.toNatClampNeg = (-1)) (h71_22 : ¬ st_2.2.1 26 (st_2.2.1 25 x1_2.toNatClampNeg).toNatClampNeg = 0) : vp_in (st_2.2.1 25 x1_2.toNatClampNeg) 100 := by
  exact okIt_snd hi3_2 _
theorem ob_X10_reckon_15_25 (st : St) (n_2 : Nat) (st_2 : St) (x1_2 : Int32) (hit : okIt st) (hi0_2 : 0 ≤ x1_2.toInt) (hi1_2 : x1_2.toInt ≤ (st.1 7).toInt) (hi2_2 : (st.1 7).toInt < x1_2.toInt + (n_2 + 1)) (hi3_2 : okIt st_2) (hi4_2 : (st_2.1 7).toInt = (st.1 7).toInt) (h7_1 : ¬ st_2.1 7 ≤ x1_2) : vp_in x1_2 100 := by
  have z1 := okIt_7 hit
  have z2 := okIt_7 hi3_2
  have z3 := (by decide : (0 : Int32).toInt = 0)
  have z4 := (by decide : (1 : Int32).toInt = 1)
  have z5 := (by decide : (7 : Int32).toInt = 7)
  have z6 := (by decide : (100 : Int32).toInt = 100)
  clear hi4_2 hit hi3_2
  try simp only [sA_1, sL_1, sI_1, vp_in_iff, Int32.le_iff_toInt_le, Int32.lt_iff_toInt_lt, ← Int32.toInt_inj, reduceIte, Nat.reduceEqDiff] at *
  all_goals omega
theorem ob_X10_reckon_29_27 (st : St) (n_2 : Nat) (st_2 : St) (x1_2 : Int32) (hit : okIt st) (hi0_2 : 0 ≤ x1_2.toInt) (hi1_2 : x1_2.toInt ≤ (st.1 7).toInt) (hi2_2 : (st.1 7).toInt < x1_2.toInt + (n_2 + 1)) (hi3_2 : okIt st_2) (hi4_2 : (st_2.1 7).toInt = (st.1 7).toInt) (h7_1 : ¬ st_2.1 7 ≤ x1_2) (h17_26 : ¬ st_2.2.1 23 x1_2.toNatClampNeg = (-1)) : vp_in x1_2 100 := by
  have z1 := okIt_7 hit
  have z2 := okIt_7 hi3_2
  have z3 := (by decide : (0 : Int32).toInt = 0)
  have z4 := (by decide : (1 : Int32).toInt = 1)
  have z5 := (by decide : (7 : Int32).toInt = 7)
  have z6 := (by decide : (23 : Int32).toInt = 23)
  have z7 := (by decide : (100 : Int32).toInt = 100)
  have z8 := (by decide : (-1 : Int32).toInt = -1)
  clear hi4_2 hit hi3_2
  try simp only [sA_1, sL_1, sI_1, vp_in_iff, Int32.le_iff_toInt_le, Int32.lt_iff_toInt_lt, ← Int32.toInt_inj, reduceIte, Nat.reduceEqDiff] at *
  all_goals omega
theorem ob_X10_reckon_30_28 (st : St) (n_2 : Nat) (st_2 : St) (x1_2 : Int32) (hit : okIt st) (hi0_2 : 0 ≤ x1_2.toInt) (hi1_2 : x1_2.toInt ≤ (st.1 7).toInt) (hi2_2 : (st.1 7).toInt < x1_2.toInt + (n_2 + 1)) (hi3_2 : okIt st_2) (hi4_2 : (st_2.1 7).toInt = (st.1 7).toInt) (h7_1 : ¬ st_2.1 7 ≤ x1_2) (h17_26 : ¬ st_2.2.1 23 x1_2.toNatClampNeg = (-1)) : vp_in (st_2.2.1 24 x1_2.toNatClampNeg) 100 := by
  exact okIt_fst hi3_2 _
theorem ob_X10_reckon_47_30 (st : St) (n_2 : Nat) (st_2 : St) (x1_2 : Int32) (hit : okIt st) (hi0_2 : 0 ≤ x1_2.toInt) (hi1_2 : x1_2.toInt ≤ (st.1 7).toInt) (hi2_2 : (st.1 7).toInt < x1_2.toInt + (n_2 + 1)) (hi3_2 : okIt st_2) (hi4_2 : (st_2.1 7).toInt = (st.1 7).toInt) (h7_1 : ¬ st_2.1 7 ≤ x1_2) (h17_26 : ¬ st_2.2.1 23 x1_2.toNatClampNeg = (-1)) (h31_29 : ¬ st_2.2.1 26 (st_2.2.1 24 x1_2.toNatClampNeg).toNatClampNeg = 0) : vp_in x1_2 100 := by
  have z1 := okIt_7 hit
  have z2 := okIt_7 hi3_2
  have z3 := (by decide : (0 : Int32).toInt = 0)
  have z4 := (by decide : (1 : Int32).toInt = 1)
  have z5 := (by decide : (7 : Int32).toInt = 7)
  have z6 := (by decide : (23 : Int32).toInt = 23)
  have z7 := (by decide : (24 : Int32).toInt = 24)
  have z8 := (by decide : (26 : Int32).toInt = 26)
  have z9 := (by decide : (100 : Int32).toInt = 100)
  have z10 := (by decide : (-1 : Int32).toInt = -1)
  clear hi4_2 hit hi3_2
  try simp only [sA_1, sL_1, sI_1, vp_in_iff, Int32.le_iff_toInt_le, Int32.lt_iff_toInt_lt, ← Int32.toInt_inj, reduceIte, Nat.reduceEqDiff] at *
  all_goals omega
theorem ob_X10_reckon_48_31 (st : St) (n_2 : Nat) (st_2 : St) (x1_2 : Int32) (hit : okIt st) (hi0_2 : 0 ≤ x1_2.toInt) (hi1_2 : x1_2.toInt ≤ (st.1 7).toInt) (hi2_2 : (st.1 7).toInt < x1_2.toInt + (n_2 + 1)) (hi3_2 : okIt st_2) (hi4_2 : (st_2.1 7).toInt = (st.1 7).toInt) (h7_1 : ¬ st_2.1 7 ≤ x1_2) (h17_26 : ¬ st_2.2.1 23 x1_2.toNatClampNeg = (-1)) (h31_29 : ¬ st_2.2.1 26 (st_2.2.1 24 x1_2.toNatClampNeg).toNatClampNeg = 0) : vp_in (st_2.2.1 24 x1_2.toNatClampNeg) 100 := by
  exact okIt_fst hi3_2 _
theorem ob_X10_reckon_2_inv0_32 (st : St) (hit : okIt st) : 0 ≤ (0 : Int32).toInt := by
  have z1 := (by decide : (0 : Int32).toInt = 0)
  clear hit
  try simp only [sA_1, sL_1, sI_1, vp_in_iff, Int32.le_iff_toInt_le, Int32.lt_iff_toInt_lt, ← Int32.toInt_inj, reduceIte, Nat.reduceEqDiff] at *
  all_goals omega
theorem ob_X10_reckon_2_inv1_33 (st : St) (hit : okIt st) : (0 : Int32).toInt ≤ (st.1 7).toInt := by
  have z1 := okIt_7 hit
  have z2 := (by decide : (0 : Int32).toInt = 0)
  have z3 := (by decide : (7 : Int32).toInt = 7)
  clear hit
  try simp only [sA_1, sL_1, sI_1, vp_in_iff, Int32.le_iff_toInt_le, Int32.lt_iff_toInt_lt, ← Int32.toInt_inj, reduceIte, Nat.reduceEqDiff] at *
  all_goals omega
theorem ob_X10_reckon_2_inv2_34 (st : St) (hit : okIt st) : (st.1 7).toInt < (0 : Int32).toInt + ((st.1 7).toInt.toNat + 1) := by
  have z1 := okIt_7 hit
  have z2 := (by decide : (0 : Int32).toInt = 0)
  have z3 := (by decide : (1 : Int32).toInt = 1)
  have z4 := (by decide : (7 : Int32).toInt = 7)
  clear hit
  try simp only [sA_1, sL_1, sI_1, vp_in_iff, Int32.le_iff_toInt_le, Int32.lt_iff_toInt_lt, ← Int32.toInt_inj, reduceIte, Nat.reduceEqDiff] at *
  all_goals omega
theorem ob_X10_reckon_2_inv3_35 (st : St) (hit : okIt st) : okIt st := by
  exact hit
theorem ob_X10_reckon_2_inv4_36 (st : St) (hit : okIt st) : (st.1 7).toInt = (st.1 7).toInt := by
  have z1 := okIt_7 hit
  have z2 := (by decide : (7 : Int32).toInt = 7)
  clear hit
  try simp only [sA_1, sL_1, sI_1, vp_in_iff, Int32.le_iff_toInt_le, Int32.lt_iff_toInt_lt, ← Int32.toInt_inj, reduceIte, Nat.reduceEqDiff] at *
  all_goals omega
theorem ob_X10_peek_6_1 (st : St) (a1 : Int32) (hit : okIt st) : okIt (sI st 10 0) := by
  exact hit
theorem ob_X10_peek_11_2 (st : St) (a1 : Int32) (hit : okIt st) : okIt (sp_X10_reckon (sI st 10 0)) := by
  exact (okIt_X10_reckon (sI st 10 0) hit)
theorem ob_X10_peek_22_4 (st : St) (a1 : Int32) (hit : okIt st) (h14_3 : ¬ (sp_X10_isLiving (sp_X10_reckon (sI st 10 0)) a1) = 0) : vp_in a1 100 := by
  have z1 := okIt_7 hit
  have z2 := f_X10_isLiving (sp_X10_reckon (sI st 10 0)) a1 (okIt_X10_reckon (sI st 10 0) hit)
  have z3 := (by decide : (0 : Int32).toInt = 0)
  have z4 := (by decide : (10 : Int32).toInt = 10)
  have z5 := (by decide : (100 : Int32).toInt = 100)
  clear hit
  try simp only [sA_1, sL_1, sI_1, vp_in_iff, Int32.le_iff_toInt_le, Int32.lt_iff_toInt_lt, ← Int32.toInt_inj, reduceIte, Nat.reduceEqDiff, I_X10_reckon_7] at *
  all_goals omega
theorem ob_X10_use_22_3 (st : St) (a1 : Int32) (a2 : Int32) (a3 : Int32) (hok : okM st) (h6_1 : ¬ (sp_X10_isPurpose st a2) = 0) (h13_2 : ¬ (sp_X10_isMinute a3) = 0) : okIt st := by
  exact hok.2.1
theorem ob_X10_use_45_5 (st : St) (a1 : Int32) (a2 : Int32) (a3 : Int32) (hok : okM st) (h6_1 : ¬ (sp_X10_isPurpose st a2) = 0) (h13_2 : ¬ (sp_X10_isMinute a3) = 0) (h25_4 : ¬ (sp_X10_isLiving st a1) = 0) : okM (sI st 10 0) := by
  exact hok
theorem ob_X10_use_45_6 (st : St) (a1 : Int32) (a2 : Int32) (a3 : Int32) (hok : okM st) (h6_1 : ¬ (sp_X10_isPurpose st a2) = 0) (h13_2 : ¬ (sp_X10_isMinute a3) = 0) (h25_4 : ¬ (sp_X10_isLiving st a1) = 0) : vp_in a1 100 := by
  have z1 := okM_7 hok
  have z2 := f_X10_isLiving st a1 hok.2.1
  have z3 := (by decide : (0 : Int32).toInt = 0)
  have z4 := (by decide : (100 : Int32).toInt = 100)
  clear h6_1 h13_2 hok
  try simp only [sA_1, sL_1, sI_1, vp_in_iff, Int32.le_iff_toInt_le, Int32.lt_iff_toInt_lt, ← Int32.toInt_inj, reduceIte, Nat.reduceEqDiff] at *
  all_goals omega
theorem ob_X10_use_45_7 (st : St) (a1 : Int32) (a2 : Int32) (a3 : Int32) (hok : okM st) (h6_1 : ¬ (sp_X10_isPurpose st a2) = 0) (h13_2 : ¬ (sp_X10_isMinute a3) = 0) (h25_4 : ¬ (sp_X10_isLiving st a1) = 0) : 0 ≤ a2.toInt := by
  have z1 := okM_0 hok
  have z2 := f_X10_isPurpose st a2 hok
  have z3 := (by decide : (0 : Int32).toInt = 0)
  clear h13_2 h25_4 hok
  try simp only [sA_1, sL_1, sI_1, vp_in_iff, Int32.le_iff_toInt_le, Int32.lt_iff_toInt_lt, ← Int32.toInt_inj, reduceIte, Nat.reduceEqDiff] at *
  all_goals omega
theorem ob_X10_use_45_8 (st : St) (a1 : Int32) (a2 : Int32) (a3 : Int32) (hok : okM st) (h6_1 : ¬ (sp_X10_isPurpose st a2) = 0) (h13_2 : ¬ (sp_X10_isMinute a3) = 0) (h25_4 : ¬ (sp_X10_isLiving st a1) = 0) : a2.toInt < 16 := by
  have z1 := okM_0 hok
  have z2 := f_X10_isPurpose st a2 hok
  have z3 := (by decide : (0 : Int32).toInt = 0)
  have z4 := (by decide : (16 : Int32).toInt = 16)
  clear h13_2 h25_4 hok
  try simp only [sA_1, sL_1, sI_1, vp_in_iff, Int32.le_iff_toInt_le, Int32.lt_iff_toInt_lt, ← Int32.toInt_inj, reduceIte, Nat.reduceEqDiff] at *
  all_goals omega
theorem ob_X10_use_132_11 (st : St) (a1 : Int32) (a2 : Int32) (a3 : Int32) (hok : okM st) (h6_1 : ¬ (sp_X10_isPurpose st a2) = 0) (h13_2 : ¬ (sp_X10_isMinute a3) = 0) (h25_4 : ¬ (sp_X10_isLiving st a1) = 0) (h63_9 : 200 ≤ st.1 8) (h120_10 : ¬ (sp_X10_groundOf (sI st 10 0) a1 a2 a3) = 0) : okIt (sI (sI (sI st 10 0) 9 (sp_X10_groundOf (sI st 10 0) a1 a2 a3)) 10 0) := by
  exact hok.2.1
theorem ob_X10_use_149_13 (st : St) (a1 : Int32) (a2 : Int32) (a3 : Int32) (hok : okM st) (h6_1 : ¬ (sp_X10_isPurpose st a2) = 0) (h13_2 : ¬ (sp_X10_isMinute a3) = 0) (h25_4 : ¬ (sp_X10_isLiving st a1) = 0) (h63_9 : 200 ≤ st.1 8) (h120_10 : ¬ (sp_X10_groundOf (sI st 10 0) a1 a2 a3) = 0) (h137_12 : ¬ (sp_X10_groundOf (sI st 10 0) a1 a2 a3) = 0) : vp_in a1 100 := by
  have z1 := okM_7 hok
  have z2 := f_X10_isLiving st a1 hok.2.1
  have z3 := (by decide : (0 : Int32).toInt = 0)
  have z4 := (by decide : (100 : Int32).toInt = 100)
  clear h6_1 h13_2 h63_9 h120_10 h137_12 hok
  try simp only [sA_1, sL_1, sI_1, vp_in_iff, Int32.le_iff_toInt_le, Int32.lt_iff_toInt_lt, ← Int32.toInt_inj, reduceIte, Nat.reduceEqDiff] at *
  all_goals omega
theorem ob_X10_use_132_14 (st : St) (a1 : Int32) (a2 : Int32) (a3 : Int32) (hok : okM st) (h6_1 : ¬ (sp_X10_isPurpose st a2) = 0) (h13_2 : ¬ (sp_X10_isMinute a3) = 0) (h25_4 : ¬ (sp_X10_isLiving st a1) = 0) (h63_9 : 200 ≤ st.1 8) (h120_10 : (sp_X10_groundOf (sI st 10 0) a1 a2 a3) = 0) : okIt (sI (sI (sI st 10 0) 9 (sp_X10_groundOf (sI st 10 0) a1 a2 a3)) 10 3) := by
  exact hok.2.1
theorem ob_X10_use_149_16 (st : St) (a1 : Int32) (a2 : Int32) (a3 : Int32) (hok : okM st) (h6_1 : ¬ (sp_X10_isPurpose st a2) = 0) (h13_2 : ¬ (sp_X10_isMinute a3) = 0) (h25_4 : ¬ (sp_X10_isLiving st a1) = 0) (h63_9 : 200 ≤ st.1 8) (h120_10 : (sp_X10_groundOf (sI st 10 0) a1 a2 a3) = 0) (h137_15 : ¬ (sp_X10_groundOf (sI st 10 0) a1 a2 a3) = 0) : vp_in a1 100 := by
  have z1 := okM_7 hok
  have z2 := f_X10_isLiving st a1 hok.2.1
  have z3 := (by decide : (0 : Int32).toInt = 0)
  have z4 := (by decide : (100 : Int32).toInt = 100)
  clear h6_1 h13_2 h63_9 h120_10 h137_15 hok
  try simp only [sA_1, sL_1, sI_1, vp_in_iff, Int32.le_iff_toInt_le, Int32.lt_iff_toInt_lt, ← Int32.toInt_inj, reduceIte, Nat.reduceEqDiff] at *
  all_goals omega
theorem ob_X10_use_75_17 (st : St) (a1 : Int32) (a2 : Int32) (a3 : Int32) (hok : okM st) (h6_1 : ¬ (sp_X10_isPurpose st a2) = 0) (h13_2 : ¬ (sp_X10_isMinute a3) = 0) (h25_4 : ¬ (sp_X10_isLiving st a1) = 0) (h63_9 : ¬ 200 ≤ st.1 8) : vp_in (st.1 8) 200 := by
  have z1 := okM_8 hok
  have z2 := (by decide : (8 : Int32).toInt = 8)
  have z3 := (by decide : (200 : Int32).toInt = 200)
  clear h6_1 h13_2 h25_4 hok
  try simp only [sA_1, sL_1, sI_1, vp_in_iff, Int32.le_iff_toInt_le, Int32.lt_iff_toInt_lt, ← Int32.toInt_inj, reduceIte, Nat.reduceEqDiff] at *
  all_goals omega
theorem ob_X10_use_85_18 (st : St) (a1 : Int32) (a2 : Int32) (a3 : Int32) (hok : okM st) (h6_1 : ¬ (sp_X10_isPurpose st a2) = 0) (h13_2 : ¬ (sp_X10_isMinute a3) = 0) (h25_4 : ¬ (sp_X10_isLiving st a1) = 0) (h63_9 : ¬ 200 ≤ st.1 8) : vp_in (st.1 8) 200 := by
  have z1 := okM_8 hok
  have z2 := (by decide : (8 : Int32).toInt = 8)
  have z3 := (by decide : (200 : Int32).toInt = 200)
  clear h6_1 h13_2 h25_4 hok
  try simp only [sA_1, sL_1, sI_1, vp_in_iff, Int32.le_iff_toInt_le, Int32.lt_iff_toInt_lt, ← Int32.toInt_inj, reduceIte, Nat.reduceEqDiff] at *
  all_goals omega
theorem ob_X10_use_95_19 (st : St) (a1 : Int32) (a2 : Int32) (a3 : Int32) (hok : okM st) (h6_1 : ¬ (sp_X10_isPurpose st a2) = 0) (h13_2 : ¬ (sp_X10_isMinute a3) = 0) (h25_4 : ¬ (sp_X10_isLiving st a1) = 0) (h63_9 : ¬ 200 ≤ st.1 8) : vp_in (st.1 8) 200 := by
  have z1 := okM_8 hok
  have z2 := (by decide : (8 : Int32).toInt = 8)
  have z3 := (by decide : (200 : Int32).toInt = 200)
  clear h6_1 h13_2 h25_4 hok
  try simp only [sA_1, sL_1, sI_1, vp_in_iff, Int32.le_iff_toInt_le, Int32.lt_iff_toInt_lt, ← Int32.toInt_inj, reduceIte, Nat.reduceEqDiff] at *
  all_goals omega
theorem ob_X10_use_106_20 (st : St) (a1 : Int32) (a2 : Int32) (a3 : Int32) (hok : okM st) (h6_1 : ¬ (sp_X10_isPurpose st a2) = 0) (h13_2 : ¬ (sp_X10_isMinute a3) = 0) (h25_4 : ¬ (sp_X10_isLiving st a1) = 0) (h63_9 : ¬ 200 ≤ st.1 8) : vp_in (st.1 8) 200 := by
  have z1 := okM_8 hok
  have z2 := (by decide : (8 : Int32).toInt = 8)
  have z3 := (by decide : (200 : Int32).toInt = 200)
  clear h6_1 h13_2 h25_4 hok
  try simp only [sA_1, sL_1, sI_1, vp_in_iff, Int32.le_iff_toInt_le, Int32.lt_iff_toInt_lt, ← Int32.toInt_inj, reduceIte, Nat.reduceEqDiff] at *
  all_goals omega
theorem ob_X10_use_132_22 (st : St) (a1 : Int32) (a2 : Int32) (a3 : Int32) (hok : okM st) (h6_1 : ¬ (sp_X10_isPurpose st a2) = 0) (h13_2 : ¬ (sp_X10_isMinute a3) = 0) (h25_4 : ¬ (sp_X10_isLiving st a1) = 0) (h63_9 : ¬ 200 ≤ st.1 8) (h120_21 : ¬ (sp_X10_groundOf (sI st 10 0) a1 a2 a3) = 0) : okIt (sI (sI (sA (sA (sA (sA (sI (sI st 10 0) 9 (sp_X10_groundOf (sI st 10 0) a1 a2 a3)) 29 ((st.1 8).toNatClampNeg) a1) 30 ((st.1 8).toNatClampNeg) a2) 31 ((st.1 8).toNatClampNeg) a3) 32 ((st.1 8).toNatClampNeg) (sp_X10_groundOf (sI st 10 0) a1 a2 a3)) 8 ((st.1 8) + 1)) 10 0) := by
  exact hok.2.1
theorem ob_X10_use_149_24 (st : St) (a1 : Int32) (a2 : Int32) (a3 : Int32) (hok : okM st) (h6_1 : ¬ (sp_X10_isPurpose st a2) = 0) (h13_2 : ¬ (sp_X10_isMinute a3) = 0) (h25_4 : ¬ (sp_X10_isLiving st a1) = 0) (h63_9 : ¬ 200 ≤ st.1 8) (h120_21 : ¬ (sp_X10_groundOf (sI st 10 0) a1 a2 a3) = 0) (h137_23 : ¬ (sp_X10_groundOf (sI st 10 0) a1 a2 a3) = 0) : vp_in a1 100 := by
  have z1 := okM_7 hok
  have z2 := f_X10_isLiving st a1 hok.2.1
  have z3 := (by decide : (0 : Int32).toInt = 0)
  have z4 := (by decide : (100 : Int32).toInt = 100)
  clear h6_1 h13_2 h63_9 h120_21 h137_23 hok
  try simp only [sA_1, sL_1, sI_1, vp_in_iff, Int32.le_iff_toInt_le, Int32.lt_iff_toInt_lt, ← Int32.toInt_inj, reduceIte, Nat.reduceEqDiff] at *
  all_goals omega
theorem ob_X10_use_132_25 (st : St) (a1 : Int32) (a2 : Int32) (a3 : Int32) (hok : okM st) (h6_1 : ¬ (sp_X10_isPurpose st a2) = 0) (h13_2 : ¬ (sp_X10_isMinute a3) = 0) (h25_4 : ¬ (sp_X10_isLiving st a1) = 0) (h63_9 : ¬ 200 ≤ st.1 8) (h120_21 : (sp_X10_groundOf (sI st 10 0) a1 a2 a3) = 0) : okIt (sI (sI (sA (sA (sA (sA (sI (sI st 10 0) 9 (sp_X10_groundOf (sI st 10 0) a1 a2 a3)) 29 ((st.1 8).toNatClampNeg) a1) 30 ((st.1 8).toNatClampNeg) a2) 31 ((st.1 8).toNatClampNeg) a3) 32 ((st.1 8).toNatClampNeg) (sp_X10_groundOf (sI st 10 0) a1 a2 a3)) 8 ((st.1 8) + 1)) 10 3) := by
  exact hok.2.1
theorem ob_X10_use_149_27 (st : St) (a1 : Int32) (a2 : Int32) (a3 : Int32) (hok : okM st) (h6_1 : ¬ (sp_X10_isPurpose st a2) = 0) (h13_2 : ¬ (sp_X10_isMinute a3) = 0) (h25_4 : ¬ (sp_X10_isLiving st a1) = 0) (h63_9 : ¬ 200 ≤ st.1 8) (h120_21 : (sp_X10_groundOf (sI st 10 0) a1 a2 a3) = 0) (h137_26 : ¬ (sp_X10_groundOf (sI st 10 0) a1 a2 a3) = 0) : vp_in a1 100 := by
  have z1 := okM_7 hok
  have z2 := f_X10_isLiving st a1 hok.2.1
  have z3 := (by decide : (0 : Int32).toInt = 0)
  have z4 := (by decide : (100 : Int32).toInt = 100)
  clear h6_1 h13_2 h63_9 h120_21 h137_26 hok
  try simp only [sA_1, sL_1, sI_1, vp_in_iff, Int32.le_iff_toInt_le, Int32.lt_iff_toInt_lt, ← Int32.toInt_inj, reduceIte, Nat.reduceEqDiff] at *
  all_goals omega

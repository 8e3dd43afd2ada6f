theorem ob_X0_add_20_2 (st : St) (a1 : Int32) (a2 : Int32) (a3 : Int32) (a4 : Int32) (hok : okC st) (h6_1 : st.1 2 < 100) : vp_in (st.1 2) 100 := by
  have z1 := okC_2 hok
  have z2 := (by decide : (2 : Int32).toInt = 2)
  have z3 := (by decide : (100 : Int32).toInt = 100)
  clear hok
  try simp only [sA_1, sL_1, sI_1, vp_in_iff, Int32.le_iff_toInt_le, Int32.lt_iff_toInt_lt, ← Int32.toInt_inj, reduceIte, Nat.reduceEqDiff] at *
  all_goals omega
theorem ob_X0_add_30_3 (st : St) (a1 : Int32) (a2 : Int32) (a3 : Int32) (a4 : Int32) (hok : okC st) (h6_1 : st.1 2 < 100) : vp_in (st.1 2) 100 := by
  have z1 := okC_2 hok
  have z2 := (by decide : (2 : Int32).toInt = 2)
  have z3 := (by decide : (100 : Int32).toInt = 100)
  clear hok
  try simp only [sA_1, sL_1, sI_1, vp_in_iff, Int32.le_iff_toInt_le, Int32.lt_iff_toInt_lt, ← Int32.toInt_inj, reduceIte, Nat.reduceEqDiff] at *
  all_goals omega
theorem ob_X0_add_41_4 (st : St) (a1 : Int32) (a2 : Int32) (a3 : Int32) (a4 : Int32) (hok : okC st) (h6_1 : st.1 2 < 100) : vp_in (st.1 2) 100 := by
  have z1 := okC_2 hok
  have z2 := (by decide : (2 : Int32).toInt = 2)
  have z3 := (by decide : (100 : Int32).toInt = 100)
  clear hok
  try simp only [sA_1, sL_1, sI_1, vp_in_iff, Int32.le_iff_toInt_le, Int32.lt_iff_toInt_lt, ← Int32.toInt_inj, reduceIte, Nat.reduceEqDiff] at *
  all_goals omega
theorem ob_X0_add_51_5 (st : St) (a1 : Int32) (a2 : Int32) (a3 : Int32) (a4 : Int32) (hok : okC st) (h6_1 : st.1 2 < 100) : vp_in (st.1 2) 100 := by
  have z1 := okC_2 hok
  have z2 := (by decide : (2 : Int32).toInt = 2)
  have z3 := (by decide : (100 : Int32).toInt = 100)
  clear hok
  try simp only [sA_1, sL_1, sI_1, vp_in_iff, Int32.le_iff_toInt_le, Int32.lt_iff_toInt_lt, ← Int32.toInt_inj, reduceIte, Nat.reduceEqDiff] at *
  all_goals omega
theorem ob_X0_outranks_5_1 (st : St) (a1 : Int32) (a2 : Int32) (hok : okC st) (hva1 : vp_in a1 100) (hva2 : vp_in a2 100) : vp_in a1 100 := by
  have z1 := (by decide : (100 : Int32).toInt = 100)
  clear hva2 hok
  try simp only [sA_1, sL_1, sI_1, vp_in_iff, Int32.le_iff_toInt_le, Int32.lt_iff_toInt_lt, ← Int32.toInt_inj, reduceIte, Nat.reduceEqDiff] at *
  all_goals omega
theorem ob_X0_outranks_11_2 (st : St) (a1 : Int32) (a2 : Int32) (hok : okC st) (hva1 : vp_in a1 100) (hva2 : vp_in a2 100) : vp_in a2 100 := by
  have z1 := (by decide : (100 : Int32).toInt = 100)
  clear hva1 hok
  try simp only [sA_1, sL_1, sI_1, vp_in_iff, Int32.le_iff_toInt_le, Int32.lt_iff_toInt_lt, ← Int32.toInt_inj, reduceIte, Nat.reduceEqDiff] at *
  all_goals omega
theorem ob_X0_outranks_41_4 (st : St) (a1 : Int32) (a2 : Int32) (hok : okC st) (hva1 : vp_in a1 100) (hva2 : vp_in a2 100) (h12_3 : st.2.1 3 a1.toNatClampNeg = st.2.1 3 a2.toNatClampNeg) : vp_in a1 100 := by
  have z1 := okC_3 hok
  have z2 := (by decide : (3 : Int32).toInt = 3)
  have z3 := (by decide : (100 : Int32).toInt = 100)
  clear hva2 hok
  try simp only [sA_1, sL_1, sI_1, vp_in_iff, Int32.le_iff_toInt_le, Int32.lt_iff_toInt_lt, ← Int32.toInt_inj, reduceIte, Nat.reduceEqDiff] at *
  all_goals omega
theorem ob_X0_outranks_47_5 (st : St) (a1 : Int32) (a2 : Int32) (hok : okC st) (hva1 : vp_in a1 100) (hva2 : vp_in a2 100) (h12_3 : st.2.1 3 a1.toNatClampNeg = st.2.1 3 a2.toNatClampNeg) : vp_in a2 100 := by
  have z1 := okC_3 hok
  have z2 := (by decide : (3 : Int32).toInt = 3)
  have z3 := (by decide : (100 : Int32).toInt = 100)
  clear hva1 hok
  try simp only [sA_1, sL_1, sI_1, vp_in_iff, Int32.le_iff_toInt_le, Int32.lt_iff_toInt_lt, ← Int32.toInt_inj, reduceIte, Nat.reduceEqDiff] at *
  all_goals omega
theorem ob_X0_outranks_20_7 (st : St) (a1 : Int32) (a2 : Int32) (hok : okC st) (hva1 : vp_in a1 100) (hva2 : vp_in a2 100) (h12_3 : ¬ st.2.1 3 a1.toNatClampNeg = st.2.1 3 a2.toNatClampNeg) : vp_in a1 100 := by
  have z1 := okC_3 hok
  have z2 := (by decide : (3 : Int32).toInt = 3)
  have z3 := (by decide : (100 : Int32).toInt = 100)
  clear hva2 hok
  try simp only [sA_1, sL_1, sI_1, vp_in_iff, Int32.le_iff_toInt_le, Int32.lt_iff_toInt_lt, ← Int32.toInt_inj, reduceIte, Nat.reduceEqDiff] at *
  all_goals omega
theorem ob_X0_outranks_26_8 (st : St) (a1 : Int32) (a2 : Int32) (hok : okC st) (hva1 : vp_in a1 100) (hva2 : vp_in a2 100) (h12_3 : ¬ st.2.1 3 a1.toNatClampNeg = st.2.1 3 a2.toNatClampNeg) : vp_in a2 100 := by
  have z1 := okC_3 hok
  have z2 := (by decide : (3 : Int32).toInt = 3)
  have z3 := (by decide : (100 : Int32).toInt = 100)
  clear hva1 hok
  try simp only [sA_1, sL_1, sI_1, vp_in_iff, Int32.le_iff_toInt_le, Int32.lt_iff_toInt_lt, ← Int32.toInt_inj, reduceIte, Nat.reduceEqDiff] at *
  all_goals omega
theorem ob_X0_saysYes_6_zero (st : St) (a1 : Int32) (a2 : Int32) (a3 : Int32) (x6_6 : Int32) (x5_6 : Int32) (hok : okC st) (hi0_6 : 0 ≤ x6_6.toInt) (hi1_6 : x6_6.toInt ≤ (st.1 2).toInt) (hi2_6 : (st.1 2).toInt < x6_6.toInt + 0) (hi3_6 : -1 ≤ x5_6.toInt) (hi4_6 : x5_6.toInt < (st.1 2).toInt) : False := by
  have z1 := okC_2 hok
  have z2 := (by decide : (0 : Int32).toInt = 0)
  have z3 := (by decide : (1 : Int32).toInt = 1)
  have z4 := (by decide : (2 : Int32).toInt = 2)
  have z5 := (by decide : (-1 : Int32).toInt = -1)
  clear hok
  try simp only [sA_1, sL_1, sI_1, vp_in_iff, Int32.le_iff_toInt_le, Int32.lt_iff_toInt_lt, ← Int32.toInt_inj, reduceIte, Nat.reduceEqDiff] at *
  all_goals omega
theorem ob_X0_saysYes_104_3 (st : St) (a1 : Int32) (a2 : Int32) (a3 : Int32) (n_6 : Nat) (x6_6 : Int32) (x5_6 : Int32) (hok : okC st) (hi0_6 : 0 ≤ x6_6.toInt) (hi1_6 : x6_6.toInt ≤ (st.1 2).toInt) (hi2_6 : (st.1 2).toInt < x6_6.toInt + (n_6 + 1)) (hi3_6 : -1 ≤ x5_6.toInt) (hi4_6 : x5_6.toInt < (st.1 2).toInt) (h12_1 : st.1 2 ≤ x6_6) (h95_2 : ¬ x5_6 = (-1)) : vp_in x5_6 100 := by
  have z1 := okC_2 hok
  have z2 := (by decide : (1 : Int32).toInt = 1)
  have z3 := (by decide : (2 : Int32).toInt = 2)
  have z4 := (by decide : (100 : Int32).toInt = 100)
  have z5 := (by decide : (-1 : Int32).toInt = -1)
  clear hi0_6 hi1_6 hi2_6 h12_1 hok
  try simp only [sA_1, sL_1, sI_1, vp_in_iff, Int32.le_iff_toInt_le, Int32.lt_iff_toInt_lt, ← Int32.toInt_inj, reduceIte, Nat.reduceEqDiff] at *
  all_goals omega
theorem ob_X0_saysYes_21_5 (st : St) (a1 : Int32) (a2 : Int32) (a3 : Int32) (n_6 : Nat) (x6_6 : Int32) (x5_6 : Int32) (hok : okC st) (hi0_6 : 0 ≤ x6_6.toInt) (hi1_6 : x6_6.toInt ≤ (st.1 2).toInt) (hi2_6 : (st.1 2).toInt < x6_6.toInt + (n_6 + 1)) (hi3_6 : -1 ≤ x5_6.toInt) (hi4_6 : x5_6.toInt < (st.1 2).toInt) (h12_1 : ¬ st.1 2 ≤ x6_6) : vp_in x6_6 100 := by
  have z1 := okC_2 hok
  have z2 := (by decide : (0 : Int32).toInt = 0)
  have z3 := (by decide : (1 : Int32).toInt = 1)
  have z4 := (by decide : (2 : Int32).toInt = 2)
  have z5 := (by decide : (100 : Int32).toInt = 100)
  clear hi3_6 hi4_6 hok
  try simp only [sA_1, sL_1, sI_1, vp_in_iff, Int32.le_iff_toInt_le, Int32.lt_iff_toInt_lt, ← Int32.toInt_inj, reduceIte, Nat.reduceEqDiff] at *
  all_goals omega
theorem ob_X0_saysYes_6_inv0_7 (st : St) (a1 : Int32) (a2 : Int32) (a3 : Int32) (n_6 : Nat) (x6_6 : Int32) (x5_6 : Int32) (hok : okC st) (hi0_6 : 0 ≤ x6_6.toInt) (hi1_6 : x6_6.toInt ≤ (st.1 2).toInt) (hi2_6 : (st.1 2).toInt < x6_6.toInt + (n_6 + 1)) (hi3_6 : -1 ≤ x5_6.toInt) (hi4_6 : x5_6.toInt < (st.1 2).toInt) (h12_1 : ¬ st.1 2 ≤ x6_6) (h23_6 : ¬ st.2.1 2 x6_6.toNatClampNeg = a1) : 0 ≤ (x6_6 + 1).toInt := by
  have z1 := okC_2 hok
  have z2 := (by decide : (0 : Int32).toInt = 0)
  have z3 := (by decide : (1 : Int32).toInt = 1)
  have z4 := (by decide : (2 : Int32).toInt = 2)
  have z5 := inc_I x6_6
  clear hi3_6 hi4_6 hok
  try simp only [sA_1, sL_1, sI_1, vp_in_iff, Int32.le_iff_toInt_le, Int32.lt_iff_toInt_lt, ← Int32.toInt_inj, reduceIte, Nat.reduceEqDiff] at *
  all_goals omega
theorem ob_X0_saysYes_6_inv1_8 (st : St) (a1 : Int32) (a2 : Int32) (a3 : Int32) (n_6 : Nat) (x6_6 : Int32) (x5_6 : Int32) (hok : okC st) (hi0_6 : 0 ≤ x6_6.toInt) (hi1_6 : x6_6.toInt ≤ (st.1 2).toInt) (hi2_6 : (st.1 2).toInt < x6_6.toInt + (n_6 + 1)) (hi3_6 : -1 ≤ x5_6.toInt) (hi4_6 : x5_6.toInt < (st.1 2).toInt) (h12_1 : ¬ st.1 2 ≤ x6_6) (h23_6 : ¬ st.2.1 2 x6_6.toNatClampNeg = a1) : (x6_6 + 1).toInt ≤ (st.1 2).toInt := by
  have z1 := okC_2 hok
  have z2 := (by decide : (0 : Int32).toInt = 0)
  have z3 := (by decide : (1 : Int32).toInt = 1)
  have z4 := (by decide : (2 : Int32).toInt = 2)
  have z5 := inc_I x6_6
  clear hi3_6 hok
  try simp only [sA_1, sL_1, sI_1, vp_in_iff, Int32.le_iff_toInt_le, Int32.lt_iff_toInt_lt, ← Int32.toInt_inj, reduceIte, Nat.reduceEqDiff] at *
  all_goals omega
theorem ob_X0_saysYes_6_inv2_9 (st : St) (a1 : Int32) (a2 : Int32) (a3 : Int32) (n_6 : Nat) (x6_6 : Int32) (x5_6 : Int32) (hok : okC st) (hi0_6 : 0 ≤ x6_6.toInt) (hi1_6 : x6_6.toInt ≤ (st.1 2).toInt) (hi2_6 : (st.1 2).toInt < x6_6.toInt + (n_6 + 1)) (hi3_6 : -1 ≤ x5_6.toInt) (hi4_6 : x5_6.toInt < (st.1 2).toInt) (h12_1 : ¬ st.1 2 ≤ x6_6) (h23_6 : ¬ st.2.1 2 x6_6.toNatClampNeg = a1) : (st.1 2).toInt < (x6_6 + 1).toInt + n_6 := by
  have z1 := okC_2 hok
  have z2 := (by decide : (0 : Int32).toInt = 0)
  have z3 := (by decide : (1 : Int32).toInt = 1)
  have z4 := (by decide : (2 : Int32).toInt = 2)
  have z5 := inc_I x6_6
  clear hi3_6 hok
  try simp only [sA_1, sL_1, sI_1, vp_in_iff, Int32.le_iff_toInt_le, Int32.lt_iff_toInt_lt, ← Int32.toInt_inj, reduceIte, Nat.reduceEqDiff] at *
  all_goals omega
theorem ob_X0_saysYes_6_inv3_10 (st : St) (a1 : Int32) (a2 : Int32) (a3 : Int32) (n_6 : Nat) (x6_6 : Int32) (x5_6 : Int32) (hok : okC st) (hi0_6 : 0 ≤ x6_6.toInt) (hi1_6 : x6_6.toInt ≤ (st.1 2).toInt) (hi2_6 : (st.1 2).toInt < x6_6.toInt + (n_6 + 1)) (hi3_6 : -1 ≤ x5_6.toInt) (hi4_6 : x5_6.toInt < (st.1 2).toInt) (h12_1 : ¬ st.1 2 ≤ x6_6) (h23_6 : ¬ st.2.1 2 x6_6.toNatClampNeg = a1) : -1 ≤ x5_6.toInt := by
  have z1 := okC_2 hok
  have z2 := (by decide : (1 : Int32).toInt = 1)
  have z3 := (by decide : (2 : Int32).toInt = 2)
  have z4 := (by decide : (-1 : Int32).toInt = -1)
  clear hi0_6 hi1_6 hi2_6 h12_1 h23_6 hok
  try simp only [sA_1, sL_1, sI_1, vp_in_iff, Int32.le_iff_toInt_le, Int32.lt_iff_toInt_lt, ← Int32.toInt_inj, reduceIte, Nat.reduceEqDiff] at *
  all_goals omega
theorem ob_X0_saysYes_6_inv4_11 (st : St) (a1 : Int32) (a2 : Int32) (a3 : Int32) (n_6 : Nat) (x6_6 : Int32) (x5_6 : Int32) (hok : okC st) (hi0_6 : 0 ≤ x6_6.toInt) (hi1_6 : x6_6.toInt ≤ (st.1 2).toInt) (hi2_6 : (st.1 2).toInt < x6_6.toInt + (n_6 + 1)) (hi3_6 : -1 ≤ x5_6.toInt) (hi4_6 : x5_6.toInt < (st.1 2).toInt) (h12_1 : ¬ st.1 2 ≤ x6_6) (h23_6 : ¬ st.2.1 2 x6_6.toNatClampNeg = a1) : x5_6.toInt < (st.1 2).toInt := by
  have z1 := okC_2 hok
  have z2 := (by decide : (1 : Int32).toInt = 1)
  have z3 := (by decide : (2 : Int32).toInt = 2)
  have z4 := (by decide : (-1 : Int32).toInt = -1)
  clear hi0_6 hok
  try simp only [sA_1, sL_1, sI_1, vp_in_iff, Int32.le_iff_toInt_le, Int32.lt_iff_toInt_lt, ← Int32.toInt_inj, reduceIte, Nat.reduceEqDiff] at *
  all_goals omega
theorem ob_X0_saysYes_32_12 (st : St) (a1 : Int32) (a2 : Int32) (a3 : Int32) (n_6 : Nat) (x6_6 : Int32) (x5_6 : Int32) (hok : okC st) (hi0_6 : 0 ≤ x6_6.toInt) (hi1_6 : x6_6.toInt ≤ (st.1 2).toInt) (hi2_6 : (st.1 2).toInt < x6_6.toInt + (n_6 + 1)) (hi3_6 : -1 ≤ x5_6.toInt) (hi4_6 : x5_6.toInt < (st.1 2).toInt) (h12_1 : ¬ st.1 2 ≤ x6_6) (h23_6 : st.2.1 2 x6_6.toNatClampNeg = a1) : vp_in x6_6 100 := by
  have z1 := okC_2 hok
  have z2 := (by decide : (0 : Int32).toInt = 0)
  have z3 := (by decide : (1 : Int32).toInt = 1)
  have z4 := (by decide : (2 : Int32).toInt = 2)
  have z5 := (by decide : (100 : Int32).toInt = 100)
  clear hi3_6 hi4_6 hok
  try simp only [sA_1, sL_1, sI_1, vp_in_iff, Int32.le_iff_toInt_le, Int32.lt_iff_toInt_lt, ← Int32.toInt_inj, reduceIte, Nat.reduceEqDiff] at *
  all_goals omega
theorem ob_X0_saysYes_6_inv0_14 (st : St) (a1 : Int32) (a2 : Int32) (a3 : Int32) (n_6 : Nat) (x6_6 : Int32) (x5_6 : Int32) (hok : okC st) (hi0_6 : 0 ≤ x6_6.toInt) (hi1_6 : x6_6.toInt ≤ (st.1 2).toInt) (hi2_6 : (st.1 2).toInt < x6_6.toInt + (n_6 + 1)) (hi3_6 : -1 ≤ x5_6.toInt) (hi4_6 : x5_6.toInt < (st.1 2).toInt) (h12_1 : ¬ st.1 2 ≤ x6_6) (h23_6 : st.2.1 2 x6_6.toNatClampNeg = a1) (h34_13 : a3 < st.2.1 4 x6_6.toNatClampNeg) : 0 ≤ (x6_6 + 1).toInt := by
  have z1 := okC_2 hok
  have z2 := okC_4 hok
  have z3 := (by decide : (0 : Int32).toInt = 0)
  have z4 := (by decide : (1 : Int32).toInt = 1)
  have z5 := (by decide : (2 : Int32).toInt = 2)
  have z6 := (by decide : (4 : Int32).toInt = 4)
  have z7 := inc_I x6_6
  clear hi3_6 hi4_6 hok
  try simp only [sA_1, sL_1, sI_1, vp_in_iff, Int32.le_iff_toInt_le, Int32.lt_iff_toInt_lt, ← Int32.toInt_inj, reduceIte, Nat.reduceEqDiff] at *
  all_goals omega
theorem ob_X0_saysYes_6_inv1_15 (st : St) (a1 : Int32) (a2 : Int32) (a3 : Int32) (n_6 : Nat) (x6_6 : Int32) (x5_6 : Int32) (hok : okC st) (hi0_6 : 0 ≤ x6_6.toInt) (hi1_6 : x6_6.toInt ≤ (st.1 2).toInt) (hi2_6 : (st.1 2).toInt < x6_6.toInt + (n_6 + 1)) (hi3_6 : -1 ≤ x5_6.toInt) (hi4_6 : x5_6.toInt < (st.1 2).toInt) (h12_1 : ¬ st.1 2 ≤ x6_6) (h23_6 : st.2.1 2 x6_6.toNatClampNeg = a1) (h34_13 : a3 < st.2.1 4 x6_6.toNatClampNeg) : (x6_6 + 1).toInt ≤ (st.1 2).toInt := by
  have z1 := okC_2 hok
  have z2 := okC_4 hok
  have z3 := (by decide : (0 : Int32).toInt = 0)
  have z4 := (by decide : (1 : Int32).toInt = 1)
  have z5 := (by decide : (2 : Int32).toInt = 2)
  have z6 := (by decide : (4 : Int32).toInt = 4)
  have z7 := inc_I x6_6
  clear hi3_6 hok
  try simp only [sA_1, sL_1, sI_1, vp_in_iff, Int32.le_iff_toInt_le, Int32.lt_iff_toInt_lt, ← Int32.toInt_inj, reduceIte, Nat.reduceEqDiff] at *
  all_goals omega
theorem ob_X0_saysYes_6_inv2_16 (st : St) (a1 : Int32) (a2 : Int32) (a3 : Int32) (n_6 : Nat) (x6_6 : Int32) (x5_6 : Int32) (hok : okC st) (hi0_6 : 0 ≤ x6_6.toInt) (hi1_6 : x6_6.toInt ≤ (st.1 2).toInt) (hi2_6 : (st.1 2).toInt < x6_6.toInt + (n_6 + 1)) (hi3_6 : -1 ≤ x5_6.toInt) (hi4_6 : x5_6.toInt < (st.1 2).toInt) (h12_1 : ¬ st.1 2 ≤ x6_6) (h23_6 : st.2.1 2 x6_6.toNatClampNeg = a1) (h34_13 : a3 < st.2.1 4 x6_6.toNatClampNeg) : (st.1 2).toInt < (x6_6 + 1).toInt + n_6 := by
  have z1 := okC_2 hok
  have z2 := okC_4 hok
  have z3 := (by decide : (0 : Int32).toInt = 0)
  have z4 := (by decide : (1 : Int32).toInt = 1)
  have z5 := (by decide : (2 : Int32).toInt = 2)
  have z6 := (by decide : (4 : Int32).toInt = 4)
  have z7 := inc_I x6_6
  clear hi3_6 hok
  try simp only [sA_1, sL_1, sI_1, vp_in_iff, Int32.le_iff_toInt_le, Int32.lt_iff_toInt_lt, ← Int32.toInt_inj, reduceIte, Nat.reduceEqDiff] at *
  all_goals omega
theorem ob_X0_saysYes_6_inv3_17 (st : St) (a1 : Int32) (a2 : Int32) (a3 : Int32) (n_6 : Nat) (x6_6 : Int32) (x5_6 : Int32) (hok : okC st) (hi0_6 : 0 ≤ x6_6.toInt) (hi1_6 : x6_6.toInt ≤ (st.1 2).toInt) (hi2_6 : (st.1 2).toInt < x6_6.toInt + (n_6 + 1)) (hi3_6 : -1 ≤ x5_6.toInt) (hi4_6 : x5_6.toInt < (st.1 2).toInt) (h12_1 : ¬ st.1 2 ≤ x6_6) (h23_6 : st.2.1 2 x6_6.toNatClampNeg = a1) (h34_13 : a3 < st.2.1 4 x6_6.toNatClampNeg) : -1 ≤ x5_6.toInt := by
  have z1 := okC_2 hok
  have z2 := (by decide : (1 : Int32).toInt = 1)
  have z3 := (by decide : (2 : Int32).toInt = 2)
  have z4 := (by decide : (-1 : Int32).toInt = -1)
  clear hi0_6 hi1_6 hi2_6 h12_1 h23_6 h34_13 hok
  try simp only [sA_1, sL_1, sI_1, vp_in_iff, Int32.le_iff_toInt_le, Int32.lt_iff_toInt_lt, ← Int32.toInt_inj, reduceIte, Nat.reduceEqDiff] at *
  all_goals omega
theorem ob_X0_saysYes_6_inv4_18 (st : St) (a1 : Int32) (a2 : Int32) (a3 : Int32) (n_6 : Nat) (x6_6 : Int32) (x5_6 : Int32) (hok : okC st) (hi0_6 : 0 ≤ x6_6.toInt) (hi1_6 : x6_6.toInt ≤ (st.1 2).toInt) (hi2_6 : (st.1 2).toInt < x6_6.toInt + (n_6 + 1)) (hi3_6 : -1 ≤ x5_6.toInt) (hi4_6 : x5_6.toInt < (st.1 2).toInt) (h12_1 : ¬ st.1 2 ≤ x6_6) (h23_6 : st.2.1 2 x6_6.toNatClampNeg = a1) (h34_13 : a3 < st.2.1 4 x6_6.toNatClampNeg) : x5_6.toInt < (st.1 2).toInt := by
  have z1 := okC_2 hok
  have z2 := (by decide : (1 : Int32).toInt = 1)
  have z3 := (by decide : (2 : Int32).toInt = 2)
  have z4 := (by decide : (-1 : Int32).toInt = -1)
  clear hi0_6 h34_13 hok
  try simp only [sA_1, sL_1, sI_1, vp_in_iff, Int32.le_iff_toInt_le, Int32.lt_iff_toInt_lt, ← Int32.toInt_inj, reduceIte, Nat.reduceEqDiff] at *
  all_goals omega
theorem ob_X0_saysYes_45_19 (st : St) (a1 : Int32) (a2 : Int32) (a3 : Int32) (n_6 : Nat) (x6_6 : Int32) (x5_6 : Int32) (hok : okC st) (hi0_6 : 0 ≤ x6_6.toInt) (hi1_6 : x6_6.toInt ≤ (st.1 2).toInt) (hi2_6 : (st.1 2).toInt < x6_6.toInt + (n_6 + 1)) (hi3_6 : -1 ≤ x5_6.toInt) (hi4_6 : x5_6.toInt < (st.1 2).toInt) (h12_1 : ¬ st.1 2 ≤ x6_6) (h23_6 : st.2.1 2 x6_6.toNatClampNeg = a1) (h34_13 : ¬ a3 < st.2.1 4 x6_6.toNatClampNeg) : vp_in x6_6 100 := by
  have z1 := okC_2 hok
  have z2 := okC_4 hok
  have z3 := (by decide : (0 : Int32).toInt = 0)
  have z4 := (by decide : (1 : Int32).toInt = 1)
  have z5 := (by decide : (2 : Int32).toInt = 2)
  have z6 := (by decide : (4 : Int32).toInt = 4)
  have z7 := (by decide : (100 : Int32).toInt = 100)
  clear hi3_6 hi4_6 hok
  try simp only [sA_1, sL_1, sI_1, vp_in_iff, Int32.le_iff_toInt_le, Int32.lt_iff_toInt_lt, ← Int32.toInt_inj, reduceIte, Nat.reduceEqDiff] at *
  all_goals omega
theorem ob_X0_saysYes_6_inv0_21 (st : St) (a1 : Int32) (a2 : Int32) (a3 : Int32) (n_6 : Nat) (x6_6 : Int32) (x5_6 : Int32) (hok : okC st) (hi0_6 : 0 ≤ x6_6.toInt) (hi1_6 : x6_6.toInt ≤ (st.1 2).toInt) (hi2_6 : (st.1 2).toInt < x6_6.toInt + (n_6 + 1)) (hi3_6 : -1 ≤ x5_6.toInt) (hi4_6 : x5_6.toInt < (st.1 2).toInt) (h12_1 : ¬ st.1 2 ≤ x6_6) (h23_6 : st.2.1 2 x6_6.toNatClampNeg = a1) (h34_13 : ¬ a3 < st.2.1 4 x6_6.toNatClampNeg) (h50_20 : (sp_X8_isAtOrAbove st (st.2.1 3 x6_6.toNatClampNeg) a2) = 0) : 0 ≤ (x6_6 + 1).toInt := by
  have z1 := okC_2 hok
  have z2 := okC_4 hok
  have z3 := (by decide : (0 : Int32).toInt = 0)
  have z4 := (by decide : (1 : Int32).toInt = 1)
  have z5 := (by decide : (2 : Int32).toInt = 2)
  have z6 := (by decide : (4 : Int32).toInt = 4)
  have z7 := inc_I x6_6
  clear hi3_6 hi4_6 h50_20 hok
  try simp only [sA_1, sL_1, sI_1, vp_in_iff, Int32.le_iff_toInt_le, Int32.lt_iff_toInt_lt, ← Int32.toInt_inj, reduceIte, Nat.reduceEqDiff] at *
  all_goals omega
theorem ob_X0_saysYes_6_inv1_22 (st : St) (a1 : Int32) (a2 : Int32) (a3 : Int32) (n_6 : Nat) (x6_6 : Int32) (x5_6 : Int32) (hok : okC st) (hi0_6 : 0 ≤ x6_6.toInt) (hi1_6 : x6_6.toInt ≤ (st.1 2).toInt) (hi2_6 : (st.1 2).toInt < x6_6.toInt + (n_6 + 1)) (hi3_6 : -1 ≤ x5_6.toInt) (hi4_6 : x5_6.toInt < (st.1 2).toInt) (h12_1 : ¬ st.1 2 ≤ x6_6) (h23_6 : st.2.1 2 x6_6.toNatClampNeg = a1) (h34_13 : ¬ a3 < st.2.1 4 x6_6.toNatClampNeg) (h50_20 : (sp_X8_isAtOrAbove st (st.2.1 3 x6_6.toNatClampNeg) a2) = 0) : (x6_6 + 1).toInt ≤ (st.1 2).toInt := by
  have z1 := okC_2 hok
  have z2 := okC_4 hok
  have z3 := (by decide : (0 : Int32).toInt = 0)
  have z4 := (by decide : (1 : Int32).toInt = 1)
  have z5 := (by decide : (2 : Int32).toInt = 2)
  have z6 := (by decide : (4 : Int32).toInt = 4)
  have z7 := inc_I x6_6
  clear hi3_6 h50_20 hok
  try simp only [sA_1, sL_1, sI_1, vp_in_iff, Int32.le_iff_toInt_le, Int32.lt_iff_toInt_lt, ← Int32.toInt_inj, reduceIte, Nat.reduceEqDiff] at *
  all_goals omega
theorem ob_X0_saysYes_6_inv2_23 (st : St) (a1 : Int32) (a2 : Int32) (a3 : Int32) (n_6 : Nat) (x6_6 : Int32) (x5_6 : Int32) (hok : okC st) (hi0_6 : 0 ≤ x6_6.toInt) (hi1_6 : x6_6.toInt ≤ (st.1 2).toInt) (hi2_6 : (st.1 2).toInt < x6_6.toInt + (n_6 + 1)) (hi3_6 : -1 ≤ x5_6.toInt) (hi4_6 : x5_6.toInt < (st.1 2).toInt) (h12_1 : ¬ st.1 2 ≤ x6_6) (h23_6 : st.2.1 2 x6_6.toNatClampNeg = a1) (h34_13 : ¬ a3 < st.2.1 4 x6_6.toNatClampNeg) (h50_20 : (sp_X8_isAtOrAbove st (st.2.1 3 x6_6.toNatClampNeg) a2) = 0) : (st.1 2).toInt < (x6_6 + 1).toInt + n_6 := by
  have z1 := okC_2 hok
  have z2 := okC_4 hok
  have z3 := (by decide : (0 : Int32).toInt = 0)
  have z4 := (by decide : (1 : Int32).toInt = 1)
  have z5 := (by decide : (2 : Int32).toInt = 2)
  have z6 := (by decide : (4 : Int32).toInt = 4)
  have z7 := inc_I x6_6
  clear hi3_6 h50_20 hok
  try simp only [sA_1, sL_1, sI_1, vp_in_iff, Int32.le_iff_toInt_le, Int32.lt_iff_toInt_lt, ← Int32.toInt_inj, reduceIte, Nat.reduceEqDiff] at *
  all_goals omega
theorem ob_X0_saysYes_6_inv3_24 (st : St) (a1 : Int32) (a2 : Int32) (a3 : Int32) (n_6 : Nat) (x6_6 : Int32) (x5_6 : Int32) (hok : okC st) (hi0_6 : 0 ≤ x6_6.toInt) (hi1_6 : x6_6.toInt ≤ (st.1 2).toInt) (hi2_6 : (st.1 2).toInt < x6_6.toInt + (n_6 + 1)) (hi3_6 : -1 ≤ x5_6.toInt) (hi4_6 : x5_6.toInt < (st.1 2).toInt) (h12_1 : ¬ st.1 2 ≤ x6_6) (h23_6 : st.2.1 2 x6_6.toNatClampNeg = a1) (h34_13 : ¬ a3 < st.2.1 4 x6_6.toNatClampNeg) (h50_20 : (sp_X8_isAtOrAbove st (st.2.1 3 x6_6.toNatClampNeg) a2) = 0) : -1 ≤ x5_6.toInt := by
  have z1 := okC_2 hok
  have z2 := (by decide : (1 : Int32).toInt = 1)
  have z3 := (by decide : (2 : Int32).toInt = 2)
  have z4 := (by decide : (-1 : Int32).toInt = -1)
  clear hi0_6 hi1_6 hi2_6 h12_1 h23_6 h34_13 h50_20 hok
  try simp only [sA_1, sL_1, sI_1, vp_in_iff, Int32.le_iff_toInt_le, Int32.lt_iff_toInt_lt, ← Int32.toInt_inj, reduceIte, Nat.reduceEqDiff] at *
  all_goals omega
theorem ob_X0_saysYes_6_inv4_25 (st : St) (a1 : Int32) (a2 : Int32) (a3 : Int32) (n_6 : Nat) (x6_6 : Int32) (x5_6 : Int32) (hok : okC st) (hi0_6 : 0 ≤ x6_6.toInt) (hi1_6 : x6_6.toInt ≤ (st.1 2).toInt) (hi2_6 : (st.1 2).toInt < x6_6.toInt + (n_6 + 1)) (hi3_6 : -1 ≤ x5_6.toInt) (hi4_6 : x5_6.toInt < (st.1 2).toInt) (h12_1 : ¬ st.1 2 ≤ x6_6) (h23_6 : st.2.1 2 x6_6.toNatClampNeg = a1) (h34_13 : ¬ a3 < st.2.1 4 x6_6.toNatClampNeg) (h50_20 : (sp_X8_isAtOrAbove st (st.2.1 3 x6_6.toNatClampNeg) a2) = 0) : x5_6.toInt < (st.1 2).toInt := by
  have z1 := okC_2 hok
  have z2 := (by decide : (1 : Int32).toInt = 1)
  have z3 := (by decide : (2 : Int32).toInt = 2)
  have z4 := (by decide : (-1 : Int32).toInt = -1)
  clear hi0_6 h34_13 h50_20 hok
  try simp only [sA_1, sL_1, sI_1, vp_in_iff, Int32.le_iff_toInt_le, Int32.lt_iff_toInt_lt, ← Int32.toInt_inj, reduceIte, Nat.reduceEqDiff] at *
  all_goals omega
theorem ob_X0_saysYes_6_inv0_27 (st : St) (a1 : Int32) (a2 : Int32) (a3 : Int32) (n_6 : Nat) (x6_6 : Int32) (x5_6 : Int32) (hok : okC st) (hi0_6 : 0 ≤ x6_6.toInt) (hi1_6 : x6_6.toInt ≤ (st.1 2).toInt) (hi2_6 : (st.1 2).toInt < x6_6.toInt + (n_6 + 1)) (hi3_6 : -1 ≤ x5_6.toInt) (hi4_6 : x5_6.toInt < (st.1 2).toInt) (h12_1 : ¬ st.1 2 ≤ x6_6) (h23_6 : st.2.1 2 x6_6.toNatClampNeg = a1) (h34_13 : ¬ a3 < st.2.1 4 x6_6.toNatClampNeg) (h50_20 : ¬ (sp_X8_isAtOrAbove st (st.2.1 3 x6_6.toNatClampNeg) a2) = 0) (h68_26 : x5_6 = (-1)) : 0 ≤ (x6_6 + 1).toInt := by
  have z1 := okC_2 hok
  have z2 := okC_4 hok
  have z3 := (by decide : (0 : Int32).toInt = 0)
  have z4 := (by decide : (1 : Int32).toInt = 1)
  have z5 := (by decide : (2 : Int32).toInt = 2)
  have z6 := (by decide : (4 : Int32).toInt = 4)
  have z7 := inc_I x6_6
  clear hi3_6 hi4_6 h50_20 h68_26 hok
  try simp only [sA_1, sL_1, sI_1, vp_in_iff, Int32.le_iff_toInt_le, Int32.lt_iff_toInt_lt, ← Int32.toInt_inj, reduceIte, Nat.reduceEqDiff] at *
  all_goals omega
theorem ob_X0_saysYes_6_inv1_28 (st : St) (a1 : Int32) (a2 : Int32) (a3 : Int32) (n_6 : Nat) (x6_6 : Int32) (x5_6 : Int32) (hok : okC st) (hi0_6 : 0 ≤ x6_6.toInt) (hi1_6 : x6_6.toInt ≤ (st.1 2).toInt) (hi2_6 : (st.1 2).toInt < x6_6.toInt + (n_6 + 1)) (hi3_6 : -1 ≤ x5_6.toInt) (hi4_6 : x5_6.toInt < (st.1 2).toInt) (h12_1 : ¬ st.1 2 ≤ x6_6) (h23_6 : st.2.1 2 x6_6.toNatClampNeg = a1) (h34_13 : ¬ a3 < st.2.1 4 x6_6.toNatClampNeg) (h50_20 : ¬ (sp_X8_isAtOrAbove st (st.2.1 3 x6_6.toNatClampNeg) a2) = 0) (h68_26 : x5_6 = (-1)) : (x6_6 + 1).toInt ≤ (st.1 2).toInt := by
  have z1 := okC_2 hok
  have z2 := okC_4 hok
  have z3 := (by decide : (0 : Int32).toInt = 0)
  have z4 := (by decide : (1 : Int32).toInt = 1)
  have z5 := (by decide : (2 : Int32).toInt = 2)
  have z6 := (by decide : (4 : Int32).toInt = 4)
  have z7 := inc_I x6_6
  clear hi3_6 h50_20 h68_26 hok
  try simp only [sA_1, sL_1, sI_1, vp_in_iff, Int32.le_iff_toInt_le, Int32.lt_iff_toInt_lt, ← Int32.toInt_inj, reduceIte, Nat.reduceEqDiff] at *
  all_goals omega
theorem ob_X0_saysYes_6_inv2_29 (st : St) (a1 : Int32) (a2 : Int32) (a3 : Int32) (n_6 : Nat) (x6_6 : Int32) (x5_6 : Int32) (hok : okC st) (hi0_6 : 0 ≤ x6_6.toInt) (hi1_6 : x6_6.toInt ≤ (st.1 2).toInt) (hi2_6 : (st.1 2).toInt < x6_6.toInt + (n_6 + 1)) (hi3_6 : -1 ≤ x5_6.toInt) (hi4_6 : x5_6.toInt < (st.1 2).toInt) (h12_1 : ¬ st.1 2 ≤ x6_6) (h23_6 : st.2.1 2 x6_6.toNatClampNeg = a1) (h34_13 : ¬ a3 < st.2.1 4 x6_6.toNatClampNeg) (h50_20 : ¬ (sp_X8_isAtOrAbove st (st.2.1 3 x6_6.toNatClampNeg) a2) = 0) (h68_26 : x5_6 = (-1)) : (st.1 2).toInt < (x6_6 + 1).toInt + n_6 := by
  have z1 := okC_2 hok
  have z2 := okC_4 hok
  have z3 := (by decide : (0 : Int32).toInt = 0)
  have z4 := (by decide : (1 : Int32).toInt = 1)
  have z5 := (by decide : (2 : Int32).toInt = 2)
  have z6 := (by decide : (4 : Int32).toInt = 4)
  have z7 := inc_I x6_6
  clear hi3_6 h50_20 h68_26 hok
  try simp only [sA_1, sL_1, sI_1, vp_in_iff, Int32.le_iff_toInt_le, Int32.lt_iff_toInt_lt, ← Int32.toInt_inj, reduceIte, Nat.reduceEqDiff] at *
  all_goals omega
theorem ob_X0_saysYes_6_inv3_30 (st : St) (a1 : Int32) (a2 : Int32) (a3 : Int32) (n_6 : Nat) (x6_6 : Int32) (x5_6 : Int32) (hok : okC st) (hi0_6 : 0 ≤ x6_6.toInt) (hi1_6 : x6_6.toInt ≤ (st.1 2).toInt) (hi2_6 : (st.1 2).toInt < x6_6.toInt + (n_6 + 1)) (hi3_6 : -1 ≤ x5_6.toInt) (hi4_6 : x5_6.toInt < (st.1 2).toInt) (h12_1 : ¬ st.1 2 ≤ x6_6) (h23_6 : st.2.1 2 x6_6.toNatClampNeg = a1) (h34_13 : ¬ a3 < st.2.1 4 x6_6.toNatClampNeg) (h50_20 : ¬ (sp_X8_isAtOrAbove st (st.2.1 3 x6_6.toNatClampNeg) a2) = 0) (h68_26 : x5_6 = (-1)) : -1 ≤ x6_6.toInt := by
  have z1 := okC_2 hok
  have z2 := okC_4 hok
  have z3 := (by decide : (0 : Int32).toInt = 0)
  have z4 := (by decide : (1 : Int32).toInt = 1)
  have z5 := (by decide : (2 : Int32).toInt = 2)
  have z6 := (by decide : (4 : Int32).toInt = 4)
  have z7 := (by decide : (-1 : Int32).toInt = -1)
  clear hi3_6 hi4_6 h50_20 h68_26 hok
  try simp only [sA_1, sL_1, sI_1, vp_in_iff, Int32.le_iff_toInt_le, Int32.lt_iff_toInt_lt, ← Int32.toInt_inj, reduceIte, Nat.reduceEqDiff] at *
  all_goals omega
theorem ob_X0_saysYes_6_inv4_31 (st : St) (a1 : Int32) (a2 : Int32) (a3 : Int32) (n_6 : Nat) (x6_6 : Int32) (x5_6 : Int32) (hok : okC st) (hi0_6 : 0 ≤ x6_6.toInt) (hi1_6 : x6_6.toInt ≤ (st.1 2).toInt) (hi2_6 : (st.1 2).toInt < x6_6.toInt + (n_6 + 1)) (hi3_6 : -1 ≤ x5_6.toInt) (hi4_6 : x5_6.toInt < (st.1 2).toInt) (h12_1 : ¬ st.1 2 ≤ x6_6) (h23_6 : st.2.1 2 x6_6.toNatClampNeg = a1) (h34_13 : ¬ a3 < st.2.1 4 x6_6.toNatClampNeg) (h50_20 : ¬ (sp_X8_isAtOrAbove st (st.2.1 3 x6_6.toNatClampNeg) a2) = 0) (h68_26 : x5_6 = (-1)) : x6_6.toInt < (st.1 2).toInt := by
  have z1 := okC_2 hok
  have z2 := okC_4 hok
  have z3 := (by decide : (0 : Int32).toInt = 0)
  have z4 := (by decide : (1 : Int32).toInt = 1)
  have z5 := (by decide : (2 : Int32).toInt = 2)
  have z6 := (by decide : (4 : Int32).toInt = 4)
  clear hi3_6 h50_20 h68_26 hok
  try simp only [sA_1, sL_1, sI_1, vp_in_iff, Int32.le_iff_toInt_le, Int32.lt_iff_toInt_lt, ← Int32.toInt_inj, reduceIte, Nat.reduceEqDiff] at *
  all_goals omega
theorem ob_X0_saysYes_76_32 (st : St) (a1 : Int32) (a2 : Int32) (a3 : Int32) (n_6 : Nat) (x6_6 : Int32) (x5_6 : Int32) (hok : okC st) (hi0_6 : 0 ≤ x6_6.toInt) (hi1_6 : x6_6.toInt ≤ (st.1 2).toInt) (hi2_6 : (st.1 2).toInt < x6_6.toInt + (n_6 + 1)) (hi3_6 : -1 ≤ x5_6.toInt) (hi4_6 : x5_6.toInt < (st.1 2).toInt) (h12_1 : ¬ st.1 2 ≤ x6_6) (h23_6 : st.2.1 2 x6_6.toNatClampNeg = a1) (h34_13 : ¬ a3 < st.2.1 4 x6_6.toNatClampNeg) (h50_20 : ¬ (sp_X8_isAtOrAbove st (st.2.1 3 x6_6.toNatClampNeg) a2) = 0) (h68_26 : ¬ x5_6 = (-1)) : vp_in x6_6 100 := by
  have z1 := okC_2 hok
  have z2 := okC_4 hok
  have z3 := (by decide : (0 : Int32).toInt = 0)
  have z4 := (by decide : (1 : Int32).toInt = 1)
  have z5 := (by decide : (2 : Int32).toInt = 2)
  have z6 := (by decide : (4 : Int32).toInt = 4)
  have z7 := (by decide : (100 : Int32).toInt = 100)
  clear hi3_6 hi4_6 h50_20 h68_26 hok
  try simp only [sA_1, sL_1, sI_1, vp_in_iff, Int32.le_iff_toInt_le, Int32.lt_iff_toInt_lt, ← Int32.toInt_inj, reduceIte, Nat.reduceEqDiff] at *
  all_goals omega
theorem ob_X0_saysYes_76_33 (st : St) (a1 : Int32) (a2 : Int32) (a3 : Int32) (n_6 : Nat) (x6_6 : Int32) (x5_6 : Int32) (hok : okC st) (hi0_6 : 0 ≤ x6_6.toInt) (hi1_6 : x6_6.toInt ≤ (st.1 2).toInt) (hi2_6 : (st.1 2).toInt < x6_6.toInt + (n_6 + 1)) (hi3_6 : -1 ≤ x5_6.toInt) (hi4_6 : x5_6.toInt < (st.1 2).toInt) (h12_1 : ¬ st.1 2 ≤ x6_6) (h23_6 : st.2.1 2 x6_6.toNatClampNeg = a1) (h34_13 : ¬ a3 < st.2.1 4 x6_6.toNatClampNeg) (h50_20 : ¬ (sp_X8_isAtOrAbove st (st.2.1 3 x6_6.toNatClampNeg) a2) = 0) (h68_26 : ¬ x5_6 = (-1)) : vp_in x5_6 100 := by
  have z1 := okC_2 hok
  have z2 := (by decide : (1 : Int32).toInt = 1)
  have z3 := (by decide : (2 : Int32).toInt = 2)
  have z4 := (by decide : (100 : Int32).toInt = 100)
  have z5 := (by decide : (-1 : Int32).toInt = -1)
  clear hi0_6 hi1_6 hi2_6 h12_1 h23_6 h34_13 h50_20 hok
  try simp only [sA_1, sL_1, sI_1, vp_in_iff, Int32.le_iff_toInt_le, Int32.lt_iff_toInt_lt, ← Int32.toInt_inj, reduceIte, Nat.reduceEqDiff] at *
  all_goals omega
theorem ob_X0_saysYes_6_inv0_35 (st : St) (a1 : Int32) (a2 : Int32) (a3 : Int32) (n_6 : Nat) (x6_6 : Int32) (x5_6 : Int32) (hok : okC st) (hi0_6 : 0 ≤ x6_6.toInt) (hi1_6 : x6_6.toInt ≤ (st.1 2).toInt) (hi2_6 : (st.1 2).toInt < x6_6.toInt + (n_6 + 1)) (hi3_6 : -1 ≤ x5_6.toInt) (hi4_6 : x5_6.toInt < (st.1 2).toInt) (h12_1 : ¬ st.1 2 ≤ x6_6) (h23_6 : st.2.1 2 x6_6.toNatClampNeg = a1) (h34_13 : ¬ a3 < st.2.1 4 x6_6.toNatClampNeg) (h50_20 : ¬ (sp_X8_isAtOrAbove st (st.2.1 3 x6_6.toNatClampNeg) a2) = 0) (h68_26 : ¬ x5_6 = (-1)) (h79_34 : (sp_X0_outranks st x6_6 x5_6) = 0) : 0 ≤ (x6_6 + 1).toInt := by
  have z1 := okC_2 hok
  have z2 := okC_4 hok
  have z3 := (by decide : (0 : Int32).toInt = 0)
  have z4 := (by decide : (1 : Int32).toInt = 1)
  have z5 := (by decide : (2 : Int32).toInt = 2)
  have z6 := (by decide : (4 : Int32).toInt = 4)
  have z7 := inc_I x6_6
  clear hi3_6 hi4_6 h50_20 h68_26 h79_34 hok
  try simp only [sA_1, sL_1, sI_1, vp_in_iff, Int32.le_iff_toInt_le, Int32.lt_iff_toInt_lt, ← Int32.toInt_inj, reduceIte, Nat.reduceEqDiff] at *
  all_goals omega
theorem ob_X0_saysYes_6_inv1_36 (st : St) (a1 : Int32) (a2 : Int32) (a3 : Int32) (n_6 : Nat) (x6_6 : Int32) (x5_6 : Int32) (hok : okC st) (hi0_6 : 0 ≤ x6_6.toInt) (hi1_6 : x6_6.toInt ≤ (st.1 2).toInt) (hi2_6 : (st.1 2).toInt < x6_6.toInt + (n_6 + 1)) (hi3_6 : -1 ≤ x5_6.toInt) (hi4_6 : x5_6.toInt < (st.1 2).toInt) (h12_1 : ¬ st.1 2 ≤ x6_6) (h23_6 : st.2.1 2 x6_6.toNatClampNeg = a1) (h34_13 : ¬ a3 < st.2.1 4 x6_6.toNatClampNeg) (h50_20 : ¬ (sp_X8_isAtOrAbove st (st.2.1 3 x6_6.toNatClampNeg) a2) = 0) (h68_26 : ¬ x5_6 = (-1)) (h79_34 : (sp_X0_outranks st x6_6 x5_6) = 0) : (x6_6 + 1).toInt ≤ (st.1 2).toInt := by
  have z1 := okC_2 hok
  have z2 := okC_4 hok
  have z3 := (by decide : (0 : Int32).toInt = 0)
  have z4 := (by decide : (1 : Int32).toInt = 1)
  have z5 := (by decide : (2 : Int32).toInt = 2)
  have z6 := (by decide : (4 : Int32).toInt = 4)
  have z7 := inc_I x6_6
  clear hi3_6 h50_20 h68_26 h79_34 hok
  try simp only [sA_1, sL_1, sI_1, vp_in_iff, Int32.le_iff_toInt_le, Int32.lt_iff_toInt_lt, ← Int32.toInt_inj, reduceIte, Nat.reduceEqDiff] at *
  all_goals omega
theorem ob_X0_saysYes_6_inv2_37 (st : St) (a1 : Int32) (a2 : Int32) (a3 : Int32) (n_6 : Nat) (x6_6 : Int32) (x5_6 : Int32) (hok : okC st) (hi0_6 : 0 ≤ x6_6.toInt) (hi1_6 : x6_6.toInt ≤ (st.1 2).toInt) (hi2_6 : (st.1 2).toInt < x6_6.toInt + (n_6 + 1)) (hi3_6 : -1 ≤ x5_6.toInt) (hi4_6 : x5_6.toInt < (st.1 2).toInt) (h12_1 : ¬ st.1 2 ≤ x6_6) (h23_6 : st.2.1 2 x6_6.toNatClampNeg = a1) (h34_13 : ¬ a3 < st.2.1 4 x6_6.toNatClampNeg) (h50_20 : ¬ (sp_X8_isAtOrAbove st (st.2.1 3 x6_6.toNatClampNeg) a2) = 0) (h68_26 : ¬ x5_6 = (-1)) (h79_34 : (sp_X0_outranks st x6_6 x5_6) = 0) : (st.1 2).toInt < (x6_6 + 1).toInt + n_6 := by
  have z1 := okC_2 hok
  have z2 := okC_4 hok
  have z3 := (by decide : (0 : Int32).toInt = 0)
  have z4 := (by decide : (1 : Int32).toInt = 1)
  have z5 := (by decide : (2 : Int32).toInt = 2)
  have z6 := (by decide : (4 : Int32).toInt = 4)
  have z7 := inc_I x6_6
  clear hi3_6 h50_20 h68_26 h79_34 hok
  try simp only [sA_1, sL_1, sI_1, vp_in_iff, Int32.le_iff_toInt_le, Int32.lt_iff_toInt_lt, ← Int32.toInt_inj, reduceIte, Nat.reduceEqDiff] at *
  all_goals omega
theorem ob_X0_saysYes_6_inv3_38 (st : St) (a1 : Int32) (a2 : Int32) (a3 : Int32) (n_6 : Nat) (x6_6 : Int32) (x5_6 : Int32) (hok : okC st) (hi0_6 : 0 ≤ x6_6.toInt) (hi1_6 : x6_6.toInt ≤ (st.1 2).toInt) (hi2_6 : (st.1 2).toInt < x6_6.toInt + (n_6 + 1)) (hi3_6 : -1 ≤ x5_6.toInt) (hi4_6 : x5_6.toInt < (st.1 2).toInt) (h12_1 : ¬ st.1 2 ≤ x6_6) (h23_6 : st.2.1 2 x6_6.toNatClampNeg = a1) (h34_13 : ¬ a3 < st.2.1 4 x6_6.toNatClampNeg) (h50_20 : ¬ (sp_X8_isAtOrAbove st (st.2.1 3 x6_6.toNatClampNeg) a2) = 0) (h68_26 : ¬ x5_6 = (-1)) (h79_34 : (sp_X0_outranks st x6_6 x5_6) = 0) : -1 ≤ x5_6.toInt := by
  have z1 := okC_2 hok
  have z2 := (by decide : (1 : Int32).toInt = 1)
  have z3 := (by decide : (2 : Int32).toInt = 2)
  have z4 := (by decide : (-1 : Int32).toInt = -1)
  clear hi0_6 hi1_6 hi2_6 h12_1 h23_6 h34_13 h50_20 h79_34 hok
  try simp only [sA_1, sL_1, sI_1, vp_in_iff, Int32.le_iff_toInt_le, Int32.lt_iff_toInt_lt, ← Int32.toInt_inj, reduceIte, Nat.reduceEqDiff] at *
  all_goals omega
theorem ob_X0_saysYes_6_inv4_39 (st : St) (a1 : Int32) (a2 : Int32) (a3 : Int32) (n_6 : Nat) (x6_6 : Int32) (x5_6 : Int32) (hok : okC st) (hi0_6 : 0 ≤ x6_6.toInt) (hi1_6 : x6_6.toInt ≤ (st.1 2).toInt) (hi2_6 : (st.1 2).toInt < x6_6.toInt + (n_6 + 1)) (hi3_6 : -1 ≤ x5_6.toInt) (hi4_6 : x5_6.toInt < (st.1 2).toInt) (h12_1 : ¬ st.1 2 ≤ x6_6) (h23_6 : st.2.1 2 x6_6.toNatClampNeg = a1) (h34_13 : ¬ a3 < st.2.1 4 x6_6.toNatClampNeg) (h50_20 : ¬ (sp_X8_isAtOrAbove st (st.2.1 3 x6_6.toNatClampNeg) a2) = 0) (h68_26 : ¬ x5_6 = (-1)) (h79_34 : (sp_X0_outranks st x6_6 x5_6) = 0) : x5_6.toInt < (st.1 2).toInt := by
  have z1 := okC_2 hok
  have z2 := (by decide : (1 : Int32).toInt = 1)
  have z3 := (by decide : (2 : Int32).toInt = 2)
  have z4 := (by decide : (-1 : Int32).toInt = -1)
  clear hi0_6 h34_13 h50_20 h79_34 hok
  try simp only [sA_1, sL_1, sI_1, vp_in_iff, Int32.le_iff_toInt_le, Int32.lt_iff_toInt_lt, ← Int32.toInt_inj, reduceIte, Nat.reduceEqDiff] at *
  all_goals omega
theorem ob_X0_saysYes_6_inv0_40 (st : St) (a1 : Int32) (a2 : Int32) (a3 : Int32) (n_6 : Nat) (x6_6 : Int32) (x5_6 : Int32) (hok : okC st) (hi0_6 : 0 ≤ x6_6.toInt) (hi1_6 : x6_6.toInt ≤ (st.1 2).toInt) (hi2_6 : (st.1 2).toInt < x6_6.toInt + (n_6 + 1)) (hi3_6 : -1 ≤ x5_6.toInt) (hi4_6 : x5_6.toInt < (st.1 2).toInt) (h12_1 : ¬ st.1 2 ≤ x6_6) (h23_6 : st.2.1 2 x6_6.toNatClampNeg = a1) (h34_13 : ¬ a3 < st.2.1 4 x6_6.toNatClampNeg) (h50_20 : ¬ (sp_X8_isAtOrAbove st (st.2.1 3 x6_6.toNatClampNeg) a2) = 0) (h68_26 : ¬ x5_6 = (-1)) (h79_34 : ¬ (sp_X0_outranks st x6_6 x5_6) = 0) : 0 ≤ (x6_6 + 1).toInt := by
  have z1 := okC_2 hok
  have z2 := okC_4 hok
  have z3 := (by decide : (0 : Int32).toInt = 0)
  have z4 := (by decide : (1 : Int32).toInt = 1)
  have z5 := (by decide : (2 : Int32).toInt = 2)
  have z6 := (by decide : (4 : Int32).toInt = 4)
  have z7 := inc_I x6_6
  clear hi3_6 hi4_6 h50_20 h68_26 h79_34 hok
  try simp only [sA_1, sL_1, sI_1, vp_in_iff, Int32.le_iff_toInt_le, Int32.lt_iff_toInt_lt, ← Int32.toInt_inj, reduceIte, Nat.reduceEqDiff] at *
  all_goals omega
theorem ob_X0_saysYes_6_inv1_41 (st : St) (a1 : Int32) (a2 : Int32) (a3 : Int32) (n_6 : Nat) (x6_6 : Int32) (x5_6 : Int32) (hok : okC st) (hi0_6 : 0 ≤ x6_6.toInt) (hi1_6 : x6_6.toInt ≤ (st.1 2).toInt) (hi2_6 : (st.1 2).toInt < x6_6.toInt + (n_6 + 1)) (hi3_6 : -1 ≤ x5_6.toInt) (hi4_6 : x5_6.toInt < (st.1 2).toInt) (h12_1 : ¬ st.1 2 ≤ x6_6) (h23_6 : st.2.1 2 x6_6.toNatClampNeg = a1) (h34_13 : ¬ a3 < st.2.1 4 x6_6.toNatClampNeg) (h50_20 : ¬ (sp_X8_isAtOrAbove st (st.2.1 3 x6_6.toNatClampNeg) a2) = 0) (h68_26 : ¬ x5_6 = (-1)) (h79_34 : ¬ (sp_X0_outranks st x6_6 x5_6) = 0) : (x6_6 + 1).toInt ≤ (st.1 2).toInt := by
  have z1 := okC_2 hok
  have z2 := okC_4 hok
  have z3 := (by decide : (0 : Int32).toInt = 0)
  have z4 := (by decide : (1 : Int32).toInt = 1)
  have z5 := (by decide : (2 : Int32).toInt = 2)
  have z6 := (by decide : (4 : Int32).toInt = 4)
  have z7 := inc_I x6_6
  clear hi3_6 h50_20 h68_26 h79_34 hok
  try simp only [sA_1, sL_1, sI_1, vp_in_iff, Int32.le_iff_toInt_le, Int32.lt_iff_toInt_lt, ← Int32.toInt_inj, reduceIte, Nat.reduceEqDiff] at *
  all_goals omega
theorem ob_X0_saysYes_6_inv2_42 (st : St) (a1 : Int32) (a2 : Int32) (a3 : Int32) (n_6 : Nat) (x6_6 : Int32) (x5_6 : Int32) (hok : okC st) (hi0_6 : 0 ≤ x6_6.toInt) (hi1_6 : x6_6.toInt ≤ (st.1 2).toInt) (hi2_6 : (st.1 2).toInt < x6_6.toInt + (n_6 + 1)) (hi3_6 : -1 ≤ x5_6.toInt) (hi4_6 : x5_6.toInt < (st.1 2).toInt) (h12_1 : ¬ st.1 2 ≤ x6_6) (h23_6 : st.2.1 2 x6_6.toNatClampNeg = a1) (h34_13 : ¬ a3 < st.2.1 4 x6_6.toNatClampNeg) (h50_20 : ¬ (sp_X8_isAtOrAbove st (st.2.1 3 x6_6.toNatClampNeg) a2) = 0) (h68_26 : ¬ x5_6 = (-1)) (h79_34 : ¬ (sp_X0_outranks st x6_6 x5_6) = 0) : (st.1 2).toInt < (x6_6 + 1).toInt + n_6 := by
  have z1 := okC_2 hok
  have z2 := okC_4 hok
  have z3 := (by decide : (0 : Int32).toInt = 0)
  have z4 := (by decide : (1 : Int32).toInt = 1)
  have z5 := (by decide : (2 : Int32).toInt = 2)
  have z6 := (by decide : (4 : Int32).toInt = 4)
  have z7 := inc_I x6_6
  clear hi3_6 h50_20 h68_26 h79_34 hok
  try simp only [sA_1, sL_1, sI_1, vp_in_iff, Int32.le_iff_toInt_le, Int32.lt_iff_toInt_lt, ← Int32.toInt_inj, reduceIte, Nat.reduceEqDiff] at *
  all_goals omega
theorem ob_X0_saysYes_6_inv3_43 (st : St) (a1 : Int32) (a2 : Int32) (a3 : Int32) (n_6 : Nat) (x6_6 : Int32) (x5_6 : Int32) (hok : okC st) (hi0_6 : 0 ≤ x6_6.toInt) (hi1_6 : x6_6.toInt ≤ (st.1 2).toInt) (hi2_6 : (st.1 2).toInt < x6_6.toInt + (n_6 + 1)) (hi3_6 : -1 ≤ x5_6.toInt) (hi4_6 : x5_6.toInt < (st.1 2).toInt) (h12_1 : ¬ st.1 2 ≤ x6_6) (h23_6 : st.2.1 2 x6_6.toNatClampNeg = a1) (h34_13 : ¬ a3 < st.2.1 4 x6_6.toNatClampNeg) (h50_20 : ¬ (sp_X8_isAtOrAbove st (st.2.1 3 x6_6.toNatClampNeg) a2) = 0) (h68_26 : ¬ x5_6 = (-1)) (h79_34 : ¬ (sp_X0_outranks st x6_6 x5_6) = 0) : -1 ≤ x6_6.toInt := by
  have z1 := okC_2 hok
  have z2 := okC_4 hok
  have z3 := (by decide : (0 : Int32).toInt = 0)
  have z4 := (by decide : (1 : Int32).toInt = 1)
  have z5 := (by decide : (2 : Int32).toInt = 2)
  have z6 := (by decide : (4 : Int32).toInt = 4)
  have z7 := (by decide : (-1 : Int32).toInt = -1)
  clear hi3_6 hi4_6 h50_20 h68_26 h79_34 hok
  try simp only [sA_1, sL_1, sI_1, vp_in_iff, Int32.le_iff_toInt_le, Int32.lt_iff_toInt_lt, ← Int32.toInt_inj, reduceIte, Nat.reduceEqDiff] at *
  all_goals omega
theorem ob_X0_saysYes_6_inv4_44 (st : St) (a1 : Int32) (a2 : Int32) (a3 : Int32) (n_6 : Nat) (x6_6 : Int32) (x5_6 : Int32) (hok : okC st) (hi0_6 : 0 ≤ x6_6.toInt) (hi1_6 : x6_6.toInt ≤ (st.1 2).toInt) (hi2_6 : (st.1 2).toInt < x6_6.toInt + (n_6 + 1)) (hi3_6 : -1 ≤ x5_6.toInt) (hi4_6 : x5_6.toInt < (st.1 2).toInt) (h12_1 : ¬ st.1 2 ≤ x6_6) (h23_6 : st.2.1 2 x6_6.toNatClampNeg = a1) (h34_13 : ¬ a3 < st.2.1 4 x6_6.toNatClampNeg) (h50_20 : ¬ (sp_X8_isAtOrAbove st (st.2.1 3 x6_6.toNatClampNeg) a2) = 0) (h68_26 : ¬ x5_6 = (-1)) (h79_34 : ¬ (sp_X0_outranks st x6_6 x5_6) = 0) : x6_6.toInt < (st.1 2).toInt := by
  have z1 := okC_2 hok
  have z2 := okC_4 hok
  have z3 := (by decide : (0 : Int32).toInt = 0)
  have z4 := (by decide : (1 : Int32).toInt = 1)
  have z5 := (by decide : (2 : Int32).toInt = 2)
  have z6 := (by decide : (4 : Int32).toInt = 4)
  clear hi3_6 h50_20 h68_26 h79_34 hok
  try simp only [sA_1, sL_1, sI_1, vp_in_iff, Int32.le_iff_toInt_le, Int32.lt_iff_toInt_lt, ← Int32.toInt_inj, reduceIte, Nat.reduceEqDiff] at *
  all_goals omega
theorem ob_X0_saysYes_6_inv0_45 (st : St) (a1 : Int32) (a2 : Int32) (a3 : Int32) (hok : okC st) : 0 ≤ (0 : Int32).toInt := by
  have z1 := (by decide : (0 : Int32).toInt = 0)
  clear hok
  try simp only [sA_1, sL_1, sI_1, vp_in_iff, Int32.le_iff_toInt_le, Int32.lt_iff_toInt_lt, ← Int32.toInt_inj, reduceIte, Nat.reduceEqDiff] at *
  all_goals omega
theorem ob_X0_saysYes_6_inv1_46 (st : St) (a1 : Int32) (a2 : Int32) (a3 : Int32) (hok : okC st) : (0 : Int32).toInt ≤ (st.1 2).toInt := by
  have z1 := okC_2 hok
  have z2 := (by decide : (0 : Int32).toInt = 0)
  have z3 := (by decide : (2 : Int32).toInt = 2)
  clear hok
  try simp only [sA_1, sL_1, sI_1, vp_in_iff, Int32.le_iff_toInt_le, Int32.lt_iff_toInt_lt, ← Int32.toInt_inj, reduceIte, Nat.reduceEqDiff] at *
  all_goals omega
theorem ob_X0_saysYes_6_inv2_47 (st : St) (a1 : Int32) (a2 : Int32) (a3 : Int32) (hok : okC st) : (st.1 2).toInt < (0 : Int32).toInt + ((st.1 2).toInt.toNat + 1) := by
  have z1 := okC_2 hok
  have z2 := (by decide : (0 : Int32).toInt = 0)
  have z3 := (by decide : (1 : Int32).toInt = 1)
  have z4 := (by decide : (2 : Int32).toInt = 2)
  clear hok
  try simp only [sA_1, sL_1, sI_1, vp_in_iff, Int32.le_iff_toInt_le, Int32.lt_iff_toInt_lt, ← Int32.toInt_inj, reduceIte, Nat.reduceEqDiff] at *
  all_goals omega
theorem ob_X0_saysYes_6_inv3_48 (st : St) (a1 : Int32) (a2 : Int32) (a3 : Int32) (hok : okC st) : -1 ≤ ((-1) : Int32).toInt := by
  have z1 := (by decide : (1 : Int32).toInt = 1)
  have z2 := (by decide : (-1 : Int32).toInt = -1)
  clear hok
  try simp only [sA_1, sL_1, sI_1, vp_in_iff, Int32.le_iff_toInt_le, Int32.lt_iff_toInt_lt, ← Int32.toInt_inj, reduceIte, Nat.reduceEqDiff] at *
  all_goals omega
theorem ob_X0_saysYes_6_inv4_49 (st : St) (a1 : Int32) (a2 : Int32) (a3 : Int32) (hok : okC st) : ((-1) : Int32).toInt < (st.1 2).toInt := by
  have z1 := okC_2 hok
  have z2 := (by decide : (1 : Int32).toInt = 1)
  have z3 := (by decide : (2 : Int32).toInt = 2)
  have z4 := (by decide : (-1 : Int32).toInt = -1)
  clear hok
  try simp only [sA_1, sL_1, sI_1, vp_in_iff, Int32.le_iff_toInt_le, Int32.lt_iff_toInt_lt, ← Int32.toInt_inj, reduceIte, Nat.reduceEqDiff] at *
  all_goals omega
theorem ob_X0_allSayYes_3_zero (st : St) (a1 : Int32) (a2 : Int32) (a3 : Int32) (x5_3 : Int32) (hok : okC st) (hi0_3 : 0 ≤ x5_3.toInt) (hi1_3 : x5_3.toInt ≤ ((16 : Int32)).toInt) (hi2_3 : ((16 : Int32)).toInt < x5_3.toInt + 0) : False := by
  have z1 := (by decide : (0 : Int32).toInt = 0)
  have z2 := (by decide : (16 : Int32).toInt = 16)
  clear hok
  try simp only [sA_1, sL_1, sI_1, vp_in_iff, Int32.le_iff_toInt_le, Int32.lt_iff_toInt_lt, ← Int32.toInt_inj, reduceIte, Nat.reduceEqDiff] at *
  all_goals omega
theorem ob_X0_allSayYes_3_inv0_3 (st : St) (a1 : Int32) (a2 : Int32) (a3 : Int32) (n_3 : Nat) (x5_3 : Int32) (hok : okC st) (hi0_3 : 0 ≤ x5_3.toInt) (hi1_3 : x5_3.toInt ≤ ((16 : Int32)).toInt) (hi2_3 : ((16 : Int32)).toInt < x5_3.toInt + (n_3 + 1)) (h7_1 : ¬ 16 ≤ x5_3) (h16_2 : (sp_X9_isAmong a1 x5_3) = 0) : 0 ≤ (x5_3 + 1).toInt := by
  have z1 := (by decide : (0 : Int32).toInt = 0)
  have z2 := (by decide : (1 : Int32).toInt = 1)
  have z3 := (by decide : (16 : Int32).toInt = 16)
  have z4 := inc_I x5_3
  clear h16_2 hok
  try simp only [sA_1, sL_1, sI_1, vp_in_iff, Int32.le_iff_toInt_le, Int32.lt_iff_toInt_lt, ← Int32.toInt_inj, reduceIte, Nat.reduceEqDiff] at *
  all_goals omega
theorem ob_X0_allSayYes_3_inv1_4 (st : St) (a1 : Int32) (a2 : Int32) (a3 : Int32) (n_3 : Nat) (x5_3 : Int32) (hok : okC st) (hi0_3 : 0 ≤ x5_3.toInt) (hi1_3 : x5_3.toInt ≤ ((16 : Int32)).toInt) (hi2_3 : ((16 : Int32)).toInt < x5_3.toInt + (n_3 + 1)) (h7_1 : ¬ 16 ≤ x5_3) (h16_2 : (sp_X9_isAmong a1 x5_3) = 0) : (x5_3 + 1).toInt ≤ ((16 : Int32)).toInt := by
  have z1 := (by decide : (0 : Int32).toInt = 0)
  have z2 := (by decide : (1 : Int32).toInt = 1)
  have z3 := (by decide : (16 : Int32).toInt = 16)
  have z4 := inc_I x5_3
  clear h16_2 hok
  try simp only [sA_1, sL_1, sI_1, vp_in_iff, Int32.le_iff_toInt_le, Int32.lt_iff_toInt_lt, ← Int32.toInt_inj, reduceIte, Nat.reduceEqDiff] at *
  all_goals omega
theorem ob_X0_allSayYes_3_inv2_5 (st : St) (a1 : Int32) (a2 : Int32) (a3 : Int32) (n_3 : Nat) (x5_3 : Int32) (hok : okC st) (hi0_3 : 0 ≤ x5_3.toInt) (hi1_3 : x5_3.toInt ≤ ((16 : Int32)).toInt) (hi2_3 : ((16 : Int32)).toInt < x5_3.toInt + (n_3 + 1)) (h7_1 : ¬ 16 ≤ x5_3) (h16_2 : (sp_X9_isAmong a1 x5_3) = 0) : ((16 : Int32)).toInt < (x5_3 + 1).toInt + n_3 := by
  have z1 := (by decide : (0 : Int32).toInt = 0)
  have z2 := (by decide : (1 : Int32).toInt = 1)
  have z3 := (by decide : (16 : Int32).toInt = 16)
  have z4 := inc_I x5_3
  clear h16_2 hok
  try simp only [sA_1, sL_1, sI_1, vp_in_iff, Int32.le_iff_toInt_le, Int32.lt_iff_toInt_lt, ← Int32.toInt_inj, reduceIte, Nat.reduceEqDiff] at *
  all_goals omega
theorem ob_X0_allSayYes_3_inv0_7 (st : St) (a1 : Int32) (a2 : Int32) (a3 : Int32) (n_3 : Nat) (x5_3 : Int32) (hok : okC st) (hi0_3 : 0 ≤ x5_3.toInt) (hi1_3 : x5_3.toInt ≤ ((16 : Int32)).toInt) (hi2_3 : ((16 : Int32)).toInt < x5_3.toInt + (n_3 + 1)) (h7_1 : ¬ 16 ≤ x5_3) (h16_2 : ¬ (sp_X9_isAmong a1 x5_3) = 0) (h29_6 : ¬ (sp_X0_saysYes st x5_3 a2 a3) = 0) : 0 ≤ (x5_3 + 1).toInt := by
  have z1 := (by decide : (0 : Int32).toInt = 0)
  have z2 := (by decide : (1 : Int32).toInt = 1)
  have z3 := (by decide : (16 : Int32).toInt = 16)
  have z4 := inc_I x5_3
  clear h16_2 h29_6 hok
  try simp only [sA_1, sL_1, sI_1, vp_in_iff, Int32.le_iff_toInt_le, Int32.lt_iff_toInt_lt, ← Int32.toInt_inj, reduceIte, Nat.reduceEqDiff] at *
  all_goals omega
theorem ob_X0_allSayYes_3_inv1_8 (st : St) (a1 : Int32) (a2 : Int32) (a3 : Int32) (n_3 : Nat) (x5_3 : Int32) (hok : okC st) (hi0_3 : 0 ≤ x5_3.toInt) (hi1_3 : x5_3.toInt ≤ ((16 : Int32)).toInt) (hi2_3 : ((16 : Int32)).toInt < x5_3.toInt + (n_3 + 1)) (h7_1 : ¬ 16 ≤ x5_3) (h16_2 : ¬ (sp_X9_isAmong a1 x5_3) = 0) (h29_6 : ¬ (sp_X0_saysYes st x5_3 a2 a3) = 0) : (x5_3 + 1).toInt ≤ ((16 : Int32)).toInt := by
  have z1 := (by decide : (0 : Int32).toInt = 0)
  have z2 := (by decide : (1 : Int32).toInt = 1)
  have z3 := (by decide : (16 : Int32).toInt = 16)
  have z4 := inc_I x5_3
  clear h16_2 h29_6 hok
  try simp only [sA_1, sL_1, sI_1, vp_in_iff, Int32.le_iff_toInt_le, Int32.lt_iff_toInt_lt, ← Int32.toInt_inj, reduceIte, Nat.reduceEqDiff] at *
  all_goals omega
theorem ob_X0_allSayYes_3_inv2_9 (st : St) (a1 : Int32) (a2 : Int32) (a3 : Int32) (n_3 : Nat) (x5_3 : Int32) (hok : okC st) (hi0_3 : 0 ≤ x5_3.toInt) (hi1_3 : x5_3.toInt ≤ ((16 : Int32)).toInt) (hi2_3 : ((16 : Int32)).toInt < x5_3.toInt + (n_3 + 1)) (h7_1 : ¬ 16 ≤ x5_3) (h16_2 : ¬ (sp_X9_isAmong a1 x5_3) = 0) (h29_6 : ¬ (sp_X0_saysYes st x5_3 a2 a3) = 0) : ((16 : Int32)).toInt < (x5_3 + 1).toInt + n_3 := by
  have z1 := (by decide : (0 : Int32).toInt = 0)
  have z2 := (by decide : (1 : Int32).toInt = 1)
  have z3 := (by decide : (16 : Int32).toInt = 16)
  have z4 := inc_I x5_3
  clear h16_2 h29_6 hok
  try simp only [sA_1, sL_1, sI_1, vp_in_iff, Int32.le_iff_toInt_le, Int32.lt_iff_toInt_lt, ← Int32.toInt_inj, reduceIte, Nat.reduceEqDiff] at *
  all_goals omega
theorem ob_X0_allSayYes_3_inv0_10 (st : St) (a1 : Int32) (a2 : Int32) (a3 : Int32) (hok : okC st) : 0 ≤ (0 : Int32).toInt := by
  have z1 := (by decide : (0 : Int32).toInt = 0)
  clear hok
  try simp only [sA_1, sL_1, sI_1, vp_in_iff, Int32.le_iff_toInt_le, Int32.lt_iff_toInt_lt, ← Int32.toInt_inj, reduceIte, Nat.reduceEqDiff] at *
  all_goals omega
theorem ob_X0_allSayYes_3_inv1_11 (st : St) (a1 : Int32) (a2 : Int32) (a3 : Int32) (hok : okC st) : (0 : Int32).toInt ≤ ((16 : Int32)).toInt := by
  have z1 := (by decide : (0 : Int32).toInt = 0)
  have z2 := (by decide : (16 : Int32).toInt = 16)
  clear hok
  try simp only [sA_1, sL_1, sI_1, vp_in_iff, Int32.le_iff_toInt_le, Int32.lt_iff_toInt_lt, ← Int32.toInt_inj, reduceIte, Nat.reduceEqDiff] at *
  all_goals omega
theorem ob_X0_allSayYes_3_inv2_12 (st : St) (a1 : Int32) (a2 : Int32) (a3 : Int32) (hok : okC st) : ((16 : Int32)).toInt < (0 : Int32).toInt + (((16 : Int32)).toInt.toNat + 1) := by
  have z1 := (by decide : (0 : Int32).toInt = 0)
  have z2 := (by decide : (1 : Int32).toInt = 1)
  have z3 := (by decide : (16 : Int32).toInt = 16)
  clear hok
  try simp only [sA_1, sL_1, sI_1, vp_in_iff, Int32.le_iff_toInt_le, Int32.lt_iff_toInt_lt, ← Int32.toInt_inj, reduceIte, Nat.reduceEqDiff] at *
  all_goals omega

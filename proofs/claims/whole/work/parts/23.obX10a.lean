theorem ob_X10_purpose_44_3 (st : St) (a1 : Int32) (hok : okM st) (h6_1 : ¬ (sp_X10_isPurpose st a1) = 0) (h19_2 : ¬ st.1 0 = 16) : vp_in (st.1 0) 16 := by
  have z1 := okM_0 hok
  have z2 := (by decide : (0 : Int32).toInt = 0)
  have z3 := (by decide : (16 : Int32).toInt = 16)
  clear h6_1 hok
  try simp only [sA_1, sL_1, sI_1, vp_in_iff, Int32.le_iff_toInt_le, Int32.lt_iff_toInt_lt, ← Int32.toInt_inj, reduceIte, Nat.reduceEqDiff] at *
  all_goals omega
theorem ob_X10_kind_47_3 (st : St) (a1 : Int32) (hok : okM st) (h9_1 : ¬ (sp_X10_in a1 1 5000) = 0) (h22_2 : ¬ st.1 1 = 8) : vp_in (st.1 1) 8 := by
  have z1 := okM_1 hok
  have z2 := (by decide : (1 : Int32).toInt = 1)
  have z3 := (by decide : (8 : Int32).toInt = 8)
  clear h9_1 hok
  try simp only [sA_1, sL_1, sI_1, vp_in_iff, Int32.le_iff_toInt_le, Int32.lt_iff_toInt_lt, ← Int32.toInt_inj, reduceIte, Nat.reduceEqDiff] at *
  all_goals omega
theorem ob_X10_consent_59_5 (st : St) (a1 : Int32) (a2 : Int32) (a3 : Int32) (a4 : Int32) (hok : okM st) (h5_1 : ¬ (sp_X10_isPerson a1) = 0) (h13_2 : ¬ (sp_X10_isPurpose st a2) = 0) (h21_3 : ¬ (sp_X10_isMinute a4) = 0) (h34_4 : ¬ st.1 2 = 100) : vp_in (st.1 2) 100 := by
  have z1 := okM_2 hok
  have z2 := (by decide : (2 : Int32).toInt = 2)
  have z3 := (by decide : (100 : Int32).toInt = 100)
  clear h5_1 h13_2 h21_3 hok
  try simp only [sA_1, sL_1, sI_1, vp_in_iff, Int32.le_iff_toInt_le, Int32.lt_iff_toInt_lt, ← Int32.toInt_inj, reduceIte, Nat.reduceEqDiff] at *
  all_goals omega
theorem ob_X10_consent_69_6 (st : St) (a1 : Int32) (a2 : Int32) (a3 : Int32) (a4 : Int32) (hok : okM st) (h5_1 : ¬ (sp_X10_isPerson a1) = 0) (h13_2 : ¬ (sp_X10_isPurpose st a2) = 0) (h21_3 : ¬ (sp_X10_isMinute a4) = 0) (h34_4 : ¬ st.1 2 = 100) : vp_in (st.1 2) 100 := by
  have z1 := okM_2 hok
  have z2 := (by decide : (2 : Int32).toInt = 2)
  have z3 := (by decide : (100 : Int32).toInt = 100)
  clear h5_1 h13_2 h21_3 hok
  try simp only [sA_1, sL_1, sI_1, vp_in_iff, Int32.le_iff_toInt_le, Int32.lt_iff_toInt_lt, ← Int32.toInt_inj, reduceIte, Nat.reduceEqDiff] at *
  all_goals omega
theorem ob_X10_consent_80_7 (st : St) (a1 : Int32) (a2 : Int32) (a3 : Int32) (a4 : Int32) (hok : okM st) (h5_1 : ¬ (sp_X10_isPerson a1) = 0) (h13_2 : ¬ (sp_X10_isPurpose st a2) = 0) (h21_3 : ¬ (sp_X10_isMinute a4) = 0) (h34_4 : ¬ st.1 2 = 100) : vp_in (st.1 2) 100 := by
  have z1 := okM_2 hok
  have z2 := (by decide : (2 : Int32).toInt = 2)
  have z3 := (by decide : (100 : Int32).toInt = 100)
  clear h5_1 h13_2 h21_3 hok
  try simp only [sA_1, sL_1, sI_1, vp_in_iff, Int32.le_iff_toInt_le, Int32.lt_iff_toInt_lt, ← Int32.toInt_inj, reduceIte, Nat.reduceEqDiff] at *
  all_goals omega
theorem ob_X10_consent_90_8 (st : St) (a1 : Int32) (a2 : Int32) (a3 : Int32) (a4 : Int32) (hok : okM st) (h5_1 : ¬ (sp_X10_isPerson a1) = 0) (h13_2 : ¬ (sp_X10_isPurpose st a2) = 0) (h21_3 : ¬ (sp_X10_isMinute a4) = 0) (h34_4 : ¬ st.1 2 = 100) : vp_in (st.1 2) 100 := by
  have z1 := okM_2 hok
  have z2 := (by decide : (2 : Int32).toInt = 2)
  have z3 := (by decide : (100 : Int32).toInt = 100)
  clear h5_1 h13_2 h21_3 hok
  try simp only [sA_1, sL_1, sI_1, vp_in_iff, Int32.le_iff_toInt_le, Int32.lt_iff_toInt_lt, ← Int32.toInt_inj, reduceIte, Nat.reduceEqDiff] at *
  all_goals omega
theorem ob_X10_contract_72_7 (st : St) (a1 : Int32) (a2 : Int32) (a3 : Int32) (a4 : Int32) (hok : okM st) (h5_1 : ¬ (sp_X10_isPerson a1) = 0) (h13_2 : ¬ (sp_X10_isPurpose st a2) = 0) (h20_3 : ¬ (sp_X10_isMinute a3) = 0) (h28_4 : ¬ (sp_X10_isMinute a4) = 0) (h34_5 : a3 ≤ a4) (h47_6 : ¬ st.1 3 = 40) : vp_in (st.1 3) 40 := by
  have z1 := okM_3 hok
  have z2 := (by decide : (3 : Int32).toInt = 3)
  have z3 := (by decide : (40 : Int32).toInt = 40)
  clear h5_1 h13_2 h20_3 h28_4 h34_5 hok
  try simp only [sA_1, sL_1, sI_1, vp_in_iff, Int32.le_iff_toInt_le, Int32.lt_iff_toInt_lt, ← Int32.toInt_inj, reduceIte, Nat.reduceEqDiff] at *
  all_goals omega
theorem ob_X10_contract_82_8 (st : St) (a1 : Int32) (a2 : Int32) (a3 : Int32) (a4 : Int32) (hok : okM st) (h5_1 : ¬ (sp_X10_isPerson a1) = 0) (h13_2 : ¬ (sp_X10_isPurpose st a2) = 0) (h20_3 : ¬ (sp_X10_isMinute a3) = 0) (h28_4 : ¬ (sp_X10_isMinute a4) = 0) (h34_5 : a3 ≤ a4) (h47_6 : ¬ st.1 3 = 40) : vp_in (st.1 3) 40 := by
  have z1 := okM_3 hok
  have z2 := (by decide : (3 : Int32).toInt = 3)
  have z3 := (by decide : (40 : Int32).toInt = 40)
  clear h5_1 h13_2 h20_3 h28_4 h34_5 hok
  try simp only [sA_1, sL_1, sI_1, vp_in_iff, Int32.le_iff_toInt_le, Int32.lt_iff_toInt_lt, ← Int32.toInt_inj, reduceIte, Nat.reduceEqDiff] at *
  all_goals omega
theorem ob_X10_contract_92_9 (st : St) (a1 : Int32) (a2 : Int32) (a3 : Int32) (a4 : Int32) (hok : okM st) (h5_1 : ¬ (sp_X10_isPerson a1) = 0) (h13_2 : ¬ (sp_X10_isPurpose st a2) = 0) (h20_3 : ¬ (sp_X10_isMinute a3) = 0) (h28_4 : ¬ (sp_X10_isMinute a4) = 0) (h34_5 : a3 ≤ a4) (h47_6 : ¬ st.1 3 = 40) : vp_in (st.1 3) 40 := by
  have z1 := okM_3 hok
  have z2 := (by decide : (3 : Int32).toInt = 3)
  have z3 := (by decide : (40 : Int32).toInt = 40)
  clear h5_1 h13_2 h20_3 h28_4 h34_5 hok
  try simp only [sA_1, sL_1, sI_1, vp_in_iff, Int32.le_iff_toInt_le, Int32.lt_iff_toInt_lt, ← Int32.toInt_inj, reduceIte, Nat.reduceEqDiff] at *
  all_goals omega
theorem ob_X10_contract_103_10 (st : St) (a1 : Int32) (a2 : Int32) (a3 : Int32) (a4 : Int32) (hok : okM st) (h5_1 : ¬ (sp_X10_isPerson a1) = 0) (h13_2 : ¬ (sp_X10_isPurpose st a2) = 0) (h20_3 : ¬ (sp_X10_isMinute a3) = 0) (h28_4 : ¬ (sp_X10_isMinute a4) = 0) (h34_5 : a3 ≤ a4) (h47_6 : ¬ st.1 3 = 40) : vp_in (st.1 3) 40 := by
  have z1 := okM_3 hok
  have z2 := (by decide : (3 : Int32).toInt = 3)
  have z3 := (by decide : (40 : Int32).toInt = 40)
  clear h5_1 h13_2 h20_3 h28_4 h34_5 hok
  try simp only [sA_1, sL_1, sI_1, vp_in_iff, Int32.le_iff_toInt_le, Int32.lt_iff_toInt_lt, ← Int32.toInt_inj, reduceIte, Nat.reduceEqDiff] at *
  all_goals omega
theorem ob_X10_duty_63_5 (st : St) (a1 : Int32) (a2 : Int32) (a3 : Int32) (hok : okM st) (h6_1 : ¬ (sp_X10_isKind st a1) = 0) (h14_2 : ¬ (sp_X10_isPurpose st a2) = 0) (h25_3 : ¬ (sp_X10_in a3 1 5000) = 0) (h38_4 : ¬ st.1 4 = 20) : vp_in (st.1 4) 20 := by
  have z1 := okM_4 hok
  have z2 := (by decide : (4 : Int32).toInt = 4)
  have z3 := (by decide : (20 : Int32).toInt = 20)
  clear h6_1 h14_2 h25_3 hok
  try simp only [sA_1, sL_1, sI_1, vp_in_iff, Int32.le_iff_toInt_le, Int32.lt_iff_toInt_lt, ← Int32.toInt_inj, reduceIte, Nat.reduceEqDiff] at *
  all_goals omega
theorem ob_X10_duty_73_6 (st : St) (a1 : Int32) (a2 : Int32) (a3 : Int32) (hok : okM st) (h6_1 : ¬ (sp_X10_isKind st a1) = 0) (h14_2 : ¬ (sp_X10_isPurpose st a2) = 0) (h25_3 : ¬ (sp_X10_in a3 1 5000) = 0) (h38_4 : ¬ st.1 4 = 20) : vp_in (st.1 4) 20 := by
  have z1 := okM_4 hok
  have z2 := (by decide : (4 : Int32).toInt = 4)
  have z3 := (by decide : (20 : Int32).toInt = 20)
  clear h6_1 h14_2 h25_3 hok
  try simp only [sA_1, sL_1, sI_1, vp_in_iff, Int32.le_iff_toInt_le, Int32.lt_iff_toInt_lt, ← Int32.toInt_inj, reduceIte, Nat.reduceEqDiff] at *
  all_goals omega
theorem ob_X10_duty_83_7 (st : St) (a1 : Int32) (a2 : Int32) (a3 : Int32) (hok : okM st) (h6_1 : ¬ (sp_X10_isKind st a1) = 0) (h14_2 : ¬ (sp_X10_isPurpose st a2) = 0) (h25_3 : ¬ (sp_X10_in a3 1 5000) = 0) (h38_4 : ¬ st.1 4 = 20) : vp_in (st.1 4) 20 := by
  have z1 := okM_4 hok
  have z2 := (by decide : (4 : Int32).toInt = 4)
  have z3 := (by decide : (20 : Int32).toInt = 20)
  clear h6_1 h14_2 h25_3 hok
  try simp only [sA_1, sL_1, sI_1, vp_in_iff, Int32.le_iff_toInt_le, Int32.lt_iff_toInt_lt, ← Int32.toInt_inj, reduceIte, Nat.reduceEqDiff] at *
  all_goals omega
theorem ob_X10_add_9_1 (st : St) (a1 : Int32) (a2 : Int32) (a3 : Int32) (a4 : Int32) (hv7 : vp_in (st.1 7) 100) : vp_in (st.1 7) 100 := by
  have z1 := (by decide : (7 : Int32).toInt = 7)
  have z2 := (by decide : (100 : Int32).toInt = 100)
  try simp only [sA_1, sL_1, sI_1, vp_in_iff, Int32.le_iff_toInt_le, Int32.lt_iff_toInt_lt, ← Int32.toInt_inj, reduceIte, Nat.reduceEqDiff] at *
  all_goals omega
theorem ob_X10_add_19_2 (st : St) (a1 : Int32) (a2 : Int32) (a3 : Int32) (a4 : Int32) (hv7 : vp_in (st.1 7) 100) : vp_in (st.1 7) 100 := by
  have z1 := (by decide : (7 : Int32).toInt = 7)
  have z2 := (by decide : (100 : Int32).toInt = 100)
  try simp only [sA_1, sL_1, sI_1, vp_in_iff, Int32.le_iff_toInt_le, Int32.lt_iff_toInt_lt, ← Int32.toInt_inj, reduceIte, Nat.reduceEqDiff] at *
  all_goals omega
theorem ob_X10_add_29_3 (st : St) (a1 : Int32) (a2 : Int32) (a3 : Int32) (a4 : Int32) (hv7 : vp_in (st.1 7) 100) : vp_in (st.1 7) 100 := by
  have z1 := (by decide : (7 : Int32).toInt = 7)
  have z2 := (by decide : (100 : Int32).toInt = 100)
  try simp only [sA_1, sL_1, sI_1, vp_in_iff, Int32.le_iff_toInt_le, Int32.lt_iff_toInt_lt, ← Int32.toInt_inj, reduceIte, Nat.reduceEqDiff] at *
  all_goals omega
theorem ob_X10_add_40_4 (st : St) (a1 : Int32) (a2 : Int32) (a3 : Int32) (a4 : Int32) (hv7 : vp_in (st.1 7) 100) : vp_in (st.1 7) 100 := by
  have z1 := (by decide : (7 : Int32).toInt = 7)
  have z2 := (by decide : (100 : Int32).toInt = 100)
  try simp only [sA_1, sL_1, sI_1, vp_in_iff, Int32.le_iff_toInt_le, Int32.lt_iff_toInt_lt, ← Int32.toInt_inj, reduceIte, Nat.reduceEqDiff] at *
  all_goals omega
theorem ob_X10_add_50_5 (st : St) (a1 : Int32) (a2 : Int32) (a3 : Int32) (a4 : Int32) (hv7 : vp_in (st.1 7) 100) : vp_in (st.1 7) 100 := by
  have z1 := (by decide : (7 : Int32).toInt = 7)
  have z2 := (by decide : (100 : Int32).toInt = 100)
  try simp only [sA_1, sL_1, sI_1, vp_in_iff, Int32.le_iff_toInt_le, Int32.lt_iff_toInt_lt, ← Int32.toInt_inj, reduceIte, Nat.reduceEqDiff] at *
  all_goals omega
theorem ob_X10_put_63_5 (st : St) (a1 : Int32) (a2 : Int32) (a3 : Int32) (a4 : Int32) (hok : okM st) (h5_1 : ¬ (sp_X10_isPerson a1) = 0) (h13_2 : ¬ (sp_X10_isKind st a2) = 0) (h25_3 : ¬ (sp_X10_in a4 0 6944) = 0) (h38_4 : ¬ st.1 7 = 100) : vp_in (st.1 7) 100 := by
  have z1 := okM_7 hok
  have z2 := (by decide : (7 : Int32).toInt = 7)
  have z3 := (by decide : (100 : Int32).toInt = 100)
  clear h5_1 h13_2 h25_3 hok
  try simp only [sA_1, sL_1, sI_1, vp_in_iff, Int32.le_iff_toInt_le, Int32.lt_iff_toInt_lt, ← Int32.toInt_inj, reduceIte, Nat.reduceEqDiff] at *
  all_goals omega
theorem ob_X10_put_72_6 (st : St) (a1 : Int32) (a2 : Int32) (a3 : Int32) (a4 : Int32) (hok : okM st) (h5_1 : ¬ (sp_X10_isPerson a1) = 0) (h13_2 : ¬ (sp_X10_isKind st a2) = 0) (h25_3 : ¬ (sp_X10_in a4 0 6944) = 0) (h38_4 : ¬ st.1 7 = 100) : vp_in ((sA (sI st 10 0) 28 ((st.1 7).toNatClampNeg) a3).1 7) 100 := by
  have z1 := okM_7 hok
  have z2 := (by decide : (0 : Int32).toInt = 0)
  have z3 := (by decide : (7 : Int32).toInt = 7)
  have z4 := (by decide : (10 : Int32).toInt = 10)
  have z5 := (by decide : (28 : Int32).toInt = 28)
  have z6 := (by decide : (100 : Int32).toInt = 100)
  clear h5_1 h13_2 h25_3 hok
  try simp only [sA_1, sL_1, sI_1, vp_in_iff, Int32.le_iff_toInt_le, Int32.lt_iff_toInt_lt, ← Int32.toInt_inj, reduceIte, Nat.reduceEqDiff] at *
  all_goals omega
theorem ob_X10_isLiving_19_2 (st : St) (a1 : Int32) (hit : okIt st) (h11_1 : ¬ (sp_X10_in a1 0 ((st.1 7) - 1)) = 0) : vp_in a1 100 := by
  have z1 := okIt_7 hit
  have z2 := f_X10_in a1 0 ((st.1 7) - 1)
  have z3 := sub_I (st.1 7)
  have z4 := (by decide : (0 : Int32).toInt = 0)
  have z5 := (by decide : (1 : Int32).toInt = 1)
  have z6 := (by decide : (7 : Int32).toInt = 7)
  have z7 := (by decide : (100 : Int32).toInt = 100)
  clear hit
  try simp only [sA_1, sL_1, sI_1, vp_in_iff, Int32.le_iff_toInt_le, Int32.lt_iff_toInt_lt, ← Int32.toInt_inj, reduceIte, Nat.reduceEqDiff] at *
  all_goals omega
theorem ob_X10_derive_61_4 (st : St) (a1 : Int32) (a2 : Int32) (a3 : Int32) (hok : okM st) (h1_1 : ¬ a1 = 0) (h29_2 : ¬ (sp_X10_in a1 0 2) = 0) (h39_3 : ¬ a2 = a3) : okIt st := by
  exact hok.2.1
theorem ob_X10_derive_70_6 (st : St) (a1 : Int32) (a2 : Int32) (a3 : Int32) (hok : okM st) (h1_1 : ¬ a1 = 0) (h29_2 : ¬ (sp_X10_in a1 0 2) = 0) (h39_3 : ¬ a2 = a3) (h64_5 : ¬ (sp_X10_isLiving st a2) = 0) : okIt st := by
  exact hok.2.1
theorem ob_X10_derive_111_9 (st : St) (a1 : Int32) (a2 : Int32) (a3 : Int32) (hok : okM st) (h1_1 : ¬ a1 = 0) (h29_2 : ¬ (sp_X10_in a1 0 2) = 0) (h39_3 : ¬ a2 = a3) (h64_5 : ¬ (sp_X10_isLiving st a2) = 0) (h73_7 : ¬ (sp_X10_isLiving st a3) = 0) (h86_8 : ¬ st.1 7 = 100) : vp_in (st.1 7) 100 := by
  have z1 := okM_7 hok
  have z2 := (by decide : (7 : Int32).toInt = 7)
  have z3 := (by decide : (100 : Int32).toInt = 100)
  clear h1_1 h29_2 h39_3 h64_5 h73_7 hok
  try simp only [sA_1, sL_1, sI_1, vp_in_iff, Int32.le_iff_toInt_le, Int32.lt_iff_toInt_lt, ← Int32.toInt_inj, reduceIte, Nat.reduceEqDiff] at *
  all_goals omega
theorem ob_X10_derive_122_10 (st : St) (a1 : Int32) (a2 : Int32) (a3 : Int32) (hok : okM st) (h1_1 : ¬ a1 = 0) (h29_2 : ¬ (sp_X10_in a1 0 2) = 0) (h39_3 : ¬ a2 = a3) (h64_5 : ¬ (sp_X10_isLiving st a2) = 0) (h73_7 : ¬ (sp_X10_isLiving st a3) = 0) (h86_8 : ¬ st.1 7 = 100) : vp_in (st.1 7) 100 := by
  have z1 := okM_7 hok
  have z2 := (by decide : (7 : Int32).toInt = 7)
  have z3 := (by decide : (100 : Int32).toInt = 100)
  clear h1_1 h29_2 h39_3 h64_5 h73_7 hok
  try simp only [sA_1, sL_1, sI_1, vp_in_iff, Int32.le_iff_toInt_le, Int32.lt_iff_toInt_lt, ← Int32.toInt_inj, reduceIte, Nat.reduceEqDiff] at *
  all_goals omega
theorem ob_X10_derive_128_11 (st : St) (a1 : Int32) (a2 : Int32) (a3 : Int32) (hok : okM st) (h1_1 : ¬ a1 = 0) (h29_2 : ¬ (sp_X10_in a1 0 2) = 0) (h39_3 : ¬ a2 = a3) (h64_5 : ¬ (sp_X10_isLiving st a2) = 0) (h73_7 : ¬ (sp_X10_isLiving st a3) = 0) (h86_8 : ¬ st.1 7 = 100) : vp_in a2 100 := by
  have z1 := okM_7 hok
  have z2 := f_X10_isLiving st a2 hok.2.1
  have z3 := (by decide : (0 : Int32).toInt = 0)
  have z4 := (by decide : (100 : Int32).toInt = 100)
  clear h1_1 h29_2 h73_7 h86_8 hok
  try simp only [sA_1, sL_1, sI_1, vp_in_iff, Int32.le_iff_toInt_le, Int32.lt_iff_toInt_lt, ← Int32.toInt_inj, reduceIte, Nat.reduceEqDiff] at *
  all_goals omega
theorem ob_X10_derive_135_12 (st : St) (a1 : Int32) (a2 : Int32) (a3 : Int32) (hok : okM st) (h1_1 : ¬ a1 = 0) (h29_2 : ¬ (sp_X10_in a1 0 2) = 0) (h39_3 : ¬ a2 = a3) (h64_5 : ¬ (sp_X10_isLiving st a2) = 0) (h73_7 : ¬ (sp_X10_isLiving st a3) = 0) (h86_8 : ¬ st.1 7 = 100) : vp_in a3 100 := by
  have z1 := okM_7 hok
  have z2 := f_X10_isLiving st a3 hok.2.1
  have z3 := (by decide : (0 : Int32).toInt = 0)
  have z4 := (by decide : (100 : Int32).toInt = 100)
  clear h1_1 h29_2 h64_5 h86_8 hok
  try simp only [sA_1, sL_1, sI_1, vp_in_iff, Int32.le_iff_toInt_le, Int32.lt_iff_toInt_lt, ← Int32.toInt_inj, reduceIte, Nat.reduceEqDiff] at *
  all_goals omega
theorem ob_X10_derive_154_14 (st : St) (a1 : Int32) (a2 : Int32) (a3 : Int32) (hok : okM st) (h1_1 : ¬ a1 = 0) (h29_2 : ¬ (sp_X10_in a1 0 2) = 0) (h39_3 : ¬ a2 = a3) (h64_5 : ¬ (sp_X10_isLiving st a2) = 0) (h73_7 : ¬ (sp_X10_isLiving st a3) = 0) (h86_8 : ¬ st.1 7 = 100) (h136_13 : st.2.1 21 a2.toNatClampNeg ≤ st.2.1 21 a3.toNatClampNeg) : vp_in a3 100 := by
  have z1 := okM_7 hok
  have z2 := f_X10_isLiving st a3 hok.2.1
  have z3 := (by decide : (0 : Int32).toInt = 0)
  have z4 := (by decide : (21 : Int32).toInt = 21)
  have z5 := (by decide : (100 : Int32).toInt = 100)
  clear h1_1 h29_2 h64_5 h86_8 hok
  try simp only [sA_1, sL_1, sI_1, vp_in_iff, Int32.le_iff_toInt_le, Int32.lt_iff_toInt_lt, ← Int32.toInt_inj, reduceIte, Nat.reduceEqDiff] at *
  all_goals omega
theorem ob_X10_derive_164_15 (st : St) (a1 : Int32) (a2 : Int32) (a3 : Int32) (hok : okM st) (h1_1 : ¬ a1 = 0) (h29_2 : ¬ (sp_X10_in a1 0 2) = 0) (h39_3 : ¬ a2 = a3) (h64_5 : ¬ (sp_X10_isLiving st a2) = 0) (h73_7 : ¬ (sp_X10_isLiving st a3) = 0) (h86_8 : ¬ st.1 7 = 100) (h136_13 : st.2.1 21 a2.toNatClampNeg ≤ st.2.1 21 a3.toNatClampNeg) : vp_in a2 100 := by
  have z1 := okM_7 hok
  have z2 := f_X10_isLiving st a2 hok.2.1
  have z3 := (by decide : (0 : Int32).toInt = 0)
  have z4 := (by decide : (21 : Int32).toInt = 21)
  have z5 := (by decide : (100 : Int32).toInt = 100)
  clear h1_1 h29_2 h73_7 h86_8 hok
  try simp only [sA_1, sL_1, sI_1, vp_in_iff, Int32.le_iff_toInt_le, Int32.lt_iff_toInt_lt, ← Int32.toInt_inj, reduceIte, Nat.reduceEqDiff] at *
  all_goals omega
theorem ob_X10_derive_172_16 (st : St) (a1 : Int32) (a2 : Int32) (a3 : Int32) (hok : okM st) (h1_1 : ¬ a1 = 0) (h29_2 : ¬ (sp_X10_in a1 0 2) = 0) (h39_3 : ¬ a2 = a3) (h64_5 : ¬ (sp_X10_isLiving st a2) = 0) (h73_7 : ¬ (sp_X10_isLiving st a3) = 0) (h86_8 : ¬ st.1 7 = 100) (h136_13 : st.2.1 21 a2.toNatClampNeg ≤ st.2.1 21 a3.toNatClampNeg) : vp_in a2 100 := by
  have z1 := okM_7 hok
  have z2 := f_X10_isLiving st a2 hok.2.1
  have z3 := (by decide : (0 : Int32).toInt = 0)
  have z4 := (by decide : (21 : Int32).toInt = 21)
  have z5 := (by decide : (100 : Int32).toInt = 100)
  clear h1_1 h29_2 h73_7 h86_8 hok
  try simp only [sA_1, sL_1, sI_1, vp_in_iff, Int32.le_iff_toInt_le, Int32.lt_iff_toInt_lt, ← Int32.toInt_inj, reduceIte, Nat.reduceEqDiff] at *
  all_goals omega
theorem ob_X10_derive_179_17 (st : St) (a1 : Int32) (a2 : Int32) (a3 : Int32) (hok : okM st) (h1_1 : ¬ a1 = 0) (h29_2 : ¬ (sp_X10_in a1 0 2) = 0) (h39_3 : ¬ a2 = a3) (h64_5 : ¬ (sp_X10_isLiving st a2) = 0) (h73_7 : ¬ (sp_X10_isLiving st a3) = 0) (h86_8 : ¬ st.1 7 = 100) (h136_13 : st.2.1 21 a2.toNatClampNeg ≤ st.2.1 21 a3.toNatClampNeg) : vp_in a3 100 := by
  have z1 := okM_7 hok
  have z2 := f_X10_isLiving st a3 hok.2.1
  have z3 := (by decide : (0 : Int32).toInt = 0)
  have z4 := (by decide : (21 : Int32).toInt = 21)
  have z5 := (by decide : (100 : Int32).toInt = 100)
  clear h1_1 h29_2 h64_5 h86_8 hok
  try simp only [sA_1, sL_1, sI_1, vp_in_iff, Int32.le_iff_toInt_le, Int32.lt_iff_toInt_lt, ← Int32.toInt_inj, reduceIte, Nat.reduceEqDiff] at *
  all_goals omega
theorem ob_X10_derive_181_18 (st : St) (a1 : Int32) (a2 : Int32) (a3 : Int32) (hok : okM st) (h1_1 : ¬ a1 = 0) (h29_2 : ¬ (sp_X10_in a1 0 2) = 0) (h39_3 : ¬ a2 = a3) (h64_5 : ¬ (sp_X10_isLiving st a2) = 0) (h73_7 : ¬ (sp_X10_isLiving st a3) = 0) (h86_8 : ¬ st.1 7 = 100) (h136_13 : st.2.1 21 a2.toNatClampNeg ≤ st.2.1 21 a3.toNatClampNeg) : vp_in ((sA (sA (sI st 10 0) 24 ((st.1 7).toNatClampNeg) a2) 25 ((st.1 7).toNatClampNeg) a3).1 7) 100 := by
  have z1 := okM_7 hok
  have z2 := f_X10_isLiving st a2 hok.2.1
  have z3 := f_X10_isLiving st a3 hok.2.1
  have z4 := (by decide : (0 : Int32).toInt = 0)
  have z5 := (by decide : (7 : Int32).toInt = 7)
  have z6 := (by decide : (10 : Int32).toInt = 10)
  have z7 := (by decide : (21 : Int32).toInt = 21)
  have z8 := (by decide : (24 : Int32).toInt = 24)
  have z9 := (by decide : (25 : Int32).toInt = 25)
  have z10 := (by decide : (100 : Int32).toInt = 100)
  clear h1_1 h29_2 hok
  try simp only [sA_1, sL_1, sI_1, vp_in_iff, Int32.le_iff_toInt_le, Int32.lt_iff_toInt_lt, ← Int32.toInt_inj, reduceIte, Nat.reduceEqDiff] at *
  all_goals omega
theorem ob_X10_derive_144_19 (st : St) (a1 : Int32) (a2 : Int32) (a3 : Int32) (hok : okM st) (h1_1 : ¬ a1 = 0) (h29_2 : ¬ (sp_X10_in a1 0 2) = 0) (h39_3 : ¬ a2 = a3) (h64_5 : ¬ (sp_X10_isLiving st a2) = 0) (h73_7 : ¬ (sp_X10_isLiving st a3) = 0) (h86_8 : ¬ st.1 7 = 100) (h136_13 : ¬ st.2.1 21 a2.toNatClampNeg ≤ st.2.1 21 a3.toNatClampNeg) : vp_in a2 100 := by
  have z1 := okM_7 hok
  have z2 := f_X10_isLiving st a2 hok.2.1
  have z3 := (by decide : (0 : Int32).toInt = 0)
  have z4 := (by decide : (21 : Int32).toInt = 21)
  have z5 := (by decide : (100 : Int32).toInt = 100)
  clear h1_1 h29_2 h73_7 h86_8 hok
  try simp only [sA_1, sL_1, sI_1, vp_in_iff, Int32.le_iff_toInt_le, Int32.lt_iff_toInt_lt, ← Int32.toInt_inj, reduceIte, Nat.reduceEqDiff] at *
  all_goals omega
theorem ob_X10_derive_164_20 (st : St) (a1 : Int32) (a2 : Int32) (a3 : Int32) (hok : okM st) (h1_1 : ¬ a1 = 0) (h29_2 : ¬ (sp_X10_in a1 0 2) = 0) (h39_3 : ¬ a2 = a3) (h64_5 : ¬ (sp_X10_isLiving st a2) = 0) (h73_7 : ¬ (sp_X10_isLiving st a3) = 0) (h86_8 : ¬ st.1 7 = 100) (h136_13 : ¬ st.2.1 21 a2.toNatClampNeg ≤ st.2.1 21 a3.toNatClampNeg) : vp_in a2 100 := by
  have z1 := okM_7 hok
  have z2 := f_X10_isLiving st a2 hok.2.1
  have z3 := (by decide : (0 : Int32).toInt = 0)
  have z4 := (by decide : (21 : Int32).toInt = 21)
  have z5 := (by decide : (100 : Int32).toInt = 100)
  clear h1_1 h29_2 h73_7 h86_8 hok
  try simp only [sA_1, sL_1, sI_1, vp_in_iff, Int32.le_iff_toInt_le, Int32.lt_iff_toInt_lt, ← Int32.toInt_inj, reduceIte, Nat.reduceEqDiff] at *
  all_goals omega
theorem ob_X10_derive_172_21 (st : St) (a1 : Int32) (a2 : Int32) (a3 : Int32) (hok : okM st) (h1_1 : ¬ a1 = 0) (h29_2 : ¬ (sp_X10_in a1 0 2) = 0) (h39_3 : ¬ a2 = a3) (h64_5 : ¬ (sp_X10_isLiving st a2) = 0) (h73_7 : ¬ (sp_X10_isLiving st a3) = 0) (h86_8 : ¬ st.1 7 = 100) (h136_13 : ¬ st.2.1 21 a2.toNatClampNeg ≤ st.2.1 21 a3.toNatClampNeg) : vp_in a2 100 := by
  have z1 := okM_7 hok
  have z2 := f_X10_isLiving st a2 hok.2.1
  have z3 := (by decide : (0 : Int32).toInt = 0)
  have z4 := (by decide : (21 : Int32).toInt = 21)
  have z5 := (by decide : (100 : Int32).toInt = 100)
  clear h1_1 h29_2 h73_7 h86_8 hok
  try simp only [sA_1, sL_1, sI_1, vp_in_iff, Int32.le_iff_toInt_le, Int32.lt_iff_toInt_lt, ← Int32.toInt_inj, reduceIte, Nat.reduceEqDiff] at *
  all_goals omega
theorem ob_X10_derive_179_22 (st : St) (a1 : Int32) (a2 : Int32) (a3 : Int32) (hok : okM st) (h1_1 : ¬ a1 = 0) (h29_2 : ¬ (sp_X10_in a1 0 2) = 0) (h39_3 : ¬ a2 = a3) (h64_5 : ¬ (sp_X10_isLiving st a2) = 0) (h73_7 : ¬ (sp_X10_isLiving st a3) = 0) (h86_8 : ¬ st.1 7 = 100) (h136_13 : ¬ st.2.1 21 a2.toNatClampNeg ≤ st.2.1 21 a3.toNatClampNeg) : vp_in a3 100 := by
  have z1 := okM_7 hok
  have z2 := f_X10_isLiving st a3 hok.2.1
  have z3 := (by decide : (0 : Int32).toInt = 0)
  have z4 := (by decide : (21 : Int32).toInt = 21)
  have z5 := (by decide : (100 : Int32).toInt = 100)
  clear h1_1 h29_2 h64_5 h86_8 hok
  try simp only [sA_1, sL_1, sI_1, vp_in_iff, Int32.le_iff_toInt_le, Int32.lt_iff_toInt_lt, ← Int32.toInt_inj, reduceIte, Nat.reduceEqDiff] at *
  all_goals omega
theorem ob_X10_derive_181_23 (st : St) (a1 : Int32) (a2 : Int32) (a3 : Int32) (hok : okM st) (h1_1 : ¬ a1 = 0) (h29_2 : ¬ (sp_X10_in a1 0 2) = 0) (h39_3 : ¬ a2 = a3) (h64_5 : ¬ (sp_X10_isLiving st a2) = 0) (h73_7 : ¬ (sp_X10_isLiving st a3) = 0) (h86_8 : ¬ st.1 7 = 100) (h136_13 : ¬ st.2.1 21 a2.toNatClampNeg ≤ st.2.1 21 a3.toNatClampNeg) : vp_in ((sA (sA (sI st 10 0) 24 ((st.1 7).toNatClampNeg) a2) 25 ((st.1 7).toNatClampNeg) a3).1 7) 100 := by
  have z1 := okM_7 hok
  have z2 := f_X10_isLiving st a2 hok.2.1
  have z3 := f_X10_isLiving st a3 hok.2.1
  have z4 := (by decide : (0 : Int32).toInt = 0)
  have z5 := (by decide : (7 : Int32).toInt = 7)
  have z6 := (by decide : (10 : Int32).toInt = 10)
  have z7 := (by decide : (21 : Int32).toInt = 21)
  have z8 := (by decide : (24 : Int32).toInt = 24)
  have z9 := (by decide : (25 : Int32).toInt = 25)
  have z10 := (by decide : (100 : Int32).toInt = 100)
  clear h1_1 h29_2 hok
  try simp only [sA_1, sL_1, sI_1, vp_in_iff, Int32.le_iff_toInt_le, Int32.lt_iff_toInt_lt, ← Int32.toInt_inj, reduceIte, Nat.reduceEqDiff] at *
  all_goals omega
theorem ob_X10_derive_61_25 (st : St) (a1 : Int32) (a2 : Int32) (a3 : Int32) (hok : okM st) (h1_1 : a1 = 0) (h29_24 : ¬ (sp_X10_in a1 0 2) = 0) : okIt st := by
  exact hok.2.1
theorem ob_X10_derive_70_27 (st : St) (a1 : Int32) (a2 : Int32) (a3 : Int32) (hok : okM st) (h1_1 : a1 = 0) (h29_24 : ¬ (sp_X10_in a1 0 2) = 0) (h64_26 : ¬ (sp_X10_isLiving st a2) = 0) : okIt st := by
  exact hok.2.1
theorem ob_X10_derive_111_30 (st : St) (a1 : Int32) (a2 : Int32) (a3 : Int32) (hok : okM st) (h1_1 : a1 = 0) (h29_24 : ¬ (sp_X10_in a1 0 2) = 0) (h64_26 : ¬ (sp_X10_isLiving st a2) = 0) (h73_28 : ¬ (sp_X10_isLiving st a2) = 0) (h86_29 : ¬ st.1 7 = 100) : vp_in (st.1 7) 100 := by
  have z1 := okM_7 hok
  have z2 := (by decide : (7 : Int32).toInt = 7)
  have z3 := (by decide : (100 : Int32).toInt = 100)
  clear h1_1 h29_24 h64_26 h73_28 hok
  try simp only [sA_1, sL_1, sI_1, vp_in_iff, Int32.le_iff_toInt_le, Int32.lt_iff_toInt_lt, ← Int32.toInt_inj, reduceIte, Nat.reduceEqDiff] at *
  all_goals omega
theorem ob_X10_derive_122_31 (st : St) (a1 : Int32) (a2 : Int32) (a3 : Int32) (hok : okM st) (h1_1 : a1 = 0) (h29_24 : ¬ (sp_X10_in a1 0 2) = 0) (h64_26 : ¬ (sp_X10_isLiving st a2) = 0) (h73_28 : ¬ (sp_X10_isLiving st a2) = 0) (h86_29 : ¬ st.1 7 = 100) : vp_in (st.1 7) 100 := by
  have z1 := okM_7 hok
  have z2 := (by decide : (7 : Int32).toInt = 7)
  have z3 := (by decide : (100 : Int32).toInt = 100)
  clear h1_1 h29_24 h64_26 h73_28 hok
  try simp only [sA_1, sL_1, sI_1, vp_in_iff, Int32.le_iff_toInt_le, Int32.lt_iff_toInt_lt, ← Int32.toInt_inj, reduceIte, Nat.reduceEqDiff] at *
  all_goals omega
theorem ob_X10_derive_128_32 (st : St) (a1 : Int32) (a2 : Int32) (a3 : Int32) (hok : okM st) (h1_1 : a1 = 0) (h29_24 : ¬ (sp_X10_in a1 0 2) = 0) (h64_26 : ¬ (sp_X10_isLiving st a2) = 0) (h73_28 : ¬ (sp_X10_isLiving st a2) = 0) (h86_29 : ¬ st.1 7 = 100) : vp_in a2 100 := by
  have z1 := okM_7 hok
  have z2 := f_X10_isLiving st a2 hok.2.1
  have z3 := (by decide : (0 : Int32).toInt = 0)
  have z4 := (by decide : (100 : Int32).toInt = 100)
  clear h1_1 h29_24 h86_29 hok
  try simp only [sA_1, sL_1, sI_1, vp_in_iff, Int32.le_iff_toInt_le, Int32.lt_iff_toInt_lt, ← Int32.toInt_inj, reduceIte, Nat.reduceEqDiff] at *
  all_goals omega
theorem ob_X10_derive_135_33 (st : St) (a1 : Int32) (a2 : Int32) (a3 : Int32) (hok : okM st) (h1_1 : a1 = 0) (h29_24 : ¬ (sp_X10_in a1 0 2) = 0) (h64_26 : ¬ (sp_X10_isLiving st a2) = 0) (h73_28 : ¬ (sp_X10_isLiving st a2) = 0) (h86_29 : ¬ st.1 7 = 100) : vp_in a2 100 := by
  have z1 := okM_7 hok
  have z2 := f_X10_isLiving st a2 hok.2.1
  have z3 := (by decide : (0 : Int32).toInt = 0)
  have z4 := (by decide : (100 : Int32).toInt = 100)
  clear h1_1 h29_24 h86_29 hok
  try simp only [sA_1, sL_1, sI_1, vp_in_iff, Int32.le_iff_toInt_le, Int32.lt_iff_toInt_lt, ← Int32.toInt_inj, reduceIte, Nat.reduceEqDiff] at *
  all_goals omega
theorem ob_X10_derive_154_35 (st : St) (a1 : Int32) (a2 : Int32) (a3 : Int32) (hok : okM st) (h1_1 : a1 = 0) (h29_24 : ¬ (sp_X10_in a1 0 2) = 0) (h64_26 : ¬ (sp_X10_isLiving st a2) = 0) (h73_28 : ¬ (sp_X10_isLiving st a2) = 0) (h86_29 : ¬ st.1 7 = 100) (h136_34 : st.2.1 21 a2.toNatClampNeg ≤ st.2.1 21 a2.toNatClampNeg) : vp_in a2 100 := by
  have z1 := okM_7 hok
  have z2 := f_X10_isLiving st a2 hok.2.1
  have z3 := (by decide : (0 : Int32).toInt = 0)
  have z4 := (by decide : (21 : Int32).toInt = 21)
  have z5 := (by decide : (100 : Int32).toInt = 100)
  clear h1_1 h29_24 h86_29 hok
  try simp only [sA_1, sL_1, sI_1, vp_in_iff, Int32.le_iff_toInt_le, Int32.lt_iff_toInt_lt, ← Int32.toInt_inj, reduceIte, Nat.reduceEqDiff] at *
  all_goals omega
theorem ob_X10_derive_164_36 (st : St) (a1 : Int32) (a2 : Int32) (a3 : Int32) (hok : okM st) (h1_1 : a1 = 0) (h29_24 : ¬ (sp_X10_in a1 0 2) = 0) (h64_26 : ¬ (sp_X10_isLiving st a2) = 0) (h73_28 : ¬ (sp_X10_isLiving st a2) = 0) (h86_29 : ¬ st.1 7 = 100) (h136_34 : st.2.1 21 a2.toNatClampNeg ≤ st.2.1 21 a2.toNatClampNeg) : vp_in a2 100 := by
  have z1 := okM_7 hok
  have z2 := f_X10_isLiving st a2 hok.2.1
  have z3 := (by decide : (0 : Int32).toInt = 0)
  have z4 := (by decide : (21 : Int32).toInt = 21)
  have z5 := (by decide : (100 : Int32).toInt = 100)
  clear h1_1 h29_24 h86_29 hok
  try simp only [sA_1, sL_1, sI_1, vp_in_iff, Int32.le_iff_toInt_le, Int32.lt_iff_toInt_lt, ← Int32.toInt_inj, reduceIte, Nat.reduceEqDiff] at *
  all_goals omega
theorem ob_X10_derive_172_37 (st : St) (a1 : Int32) (a2 : Int32) (a3 : Int32) (hok : okM st) (h1_1 : a1 = 0) (h29_24 : ¬ (sp_X10_in a1 0 2) = 0) (h64_26 : ¬ (sp_X10_isLiving st a2) = 0) (h73_28 : ¬ (sp_X10_isLiving st a2) = 0) (h86_29 : ¬ st.1 7 = 100) (h136_34 : st.2.1 21 a2.toNatClampNeg ≤ st.2.1 21 a2.toNatClampNeg) : vp_in a2 100 := by
  have z1 := okM_7 hok
  have z2 := f_X10_isLiving st a2 hok.2.1
  have z3 := (by decide : (0 : Int32).toInt = 0)
  have z4 := (by decide : (21 : Int32).toInt = 21)
  have z5 := (by decide : (100 : Int32).toInt = 100)
  clear h1_1 h29_24 h86_29 hok
  try simp only [sA_1, sL_1, sI_1, vp_in_iff, Int32.le_iff_toInt_le, Int32.lt_iff_toInt_lt, ← Int32.toInt_inj, reduceIte, Nat.reduceEqDiff] at *
  all_goals omega
theorem ob_X10_derive_179_38 (st : St) (a1 : Int32) (a2 : Int32) (a3 : Int32) (hok : okM st) (h1_1 : a1 = 0) (h29_24 : ¬ (sp_X10_in a1 0 2) = 0) (h64_26 : ¬ (sp_X10_isLiving st a2) = 0) (h73_28 : ¬ (sp_X10_isLiving st a2) = 0) (h86_29 : ¬ st.1 7 = 100) (h136_34 : st.2.1 21 a2.toNatClampNeg ≤ st.2.1 21 a2.toNatClampNeg) : vp_in a2 100 := by
  have z1 := okM_7 hok
  have z2 := f_X10_isLiving st a2 hok.2.1
  have z3 := (by decide : (0 : Int32).toInt = 0)
  have z4 := (by decide : (21 : Int32).toInt = 21)
  have z5 := (by decide : (100 : Int32).toInt = 100)
  clear h1_1 h29_24 h86_29 hok
  try simp only [sA_1, sL_1, sI_1, vp_in_iff, Int32.le_iff_toInt_le, Int32.lt_iff_toInt_lt, ← Int32.toInt_inj, reduceIte, Nat.reduceEqDiff] at *
  all_goals omega
theorem ob_X10_derive_181_39 (st : St) (a1 : Int32) (a2 : Int32) (a3 : Int32) (hok : okM st) (h1_1 : a1 = 0) (h29_24 : ¬ (sp_X10_in a1 0 2) = 0) (h64_26 : ¬ (sp_X10_isLiving st a2) = 0) (h73_28 : ¬ (sp_X10_isLiving st a2) = 0) (h86_29 : ¬ st.1 7 = 100) (h136_34 : st.2.1 21 a2.toNatClampNeg ≤ st.2.1 21 a2.toNatClampNeg) : vp_in ((sA (sA (sI st 10 0) 24 ((st.1 7).toNatClampNeg) a2) 25 ((st.1 7).toNatClampNeg) a2).1 7) 100 := by
  have z1 := okM_7 hok
  have z2 := f_X10_isLiving st a2 hok.2.1
  have z3 := (by decide : (0 : Int32).toInt = 0)
  have z4 := (by decide : (7 : Int32).toInt = 7)
  have z5 := (by decide : (10 : Int32).toInt = 10)
  have z6 := (by decide : (21 : Int32).toInt = 21)
  have z7 := (by decide : (24 : Int32).toInt = 24)
  have z8 := (by decide : (25 : Int32).toInt = 25)
  have z9 := (by decide : (100 : Int32).toInt = 100)
  clear h1_1 h29_24 hok
  try simp only [sA_1, sL_1, sI_1, vp_in_iff, Int32.le_iff_toInt_le, Int32.lt_iff_toInt_lt, ← Int32.toInt_inj, reduceIte, Nat.reduceEqDiff] at *
  all_goals omega
theorem ob_X10_derive_144_40 (st : St) (a1 : Int32) (a2 : Int32) (a3 : Int32) (hok : okM st) (h1_1 : a1 = 0) (h29_24 : ¬ (sp_X10_in a1 0 2) = 0) (h64_26 : ¬ (sp_X10_isLiving st a2) = 0) (h73_28 : ¬ (sp_X10_isLiving st a2) = 0) (h86_29 : ¬ st.1 7 = 100) (h136_34 : ¬ st.2.1 21 a2.toNatClampNeg ≤ st.2.1 21 a2.toNatClampNeg) : vp_in a2 100 := by
  have z1 := okM_7 hok
  have z2 := f_X10_isLiving st a2 hok.2.1
  have z3 := (by decide : (0 : Int32).toInt = 0)
  have z4 := (by decide : (21 : Int32).toInt = 21)
  have z5 := (by decide : (100 : Int32).toInt = 100)
  clear h1_1 h29_24 h86_29 hok
  try simp only [sA_1, sL_1, sI_1, vp_in_iff, Int32.le_iff_toInt_le, Int32.lt_iff_toInt_lt, ← Int32.toInt_inj, reduceIte, Nat.reduceEqDiff] at *
  all_goals omega
theorem ob_X10_derive_164_41 (st : St) (a1 : Int32) (a2 : Int32) (a3 : Int32) (hok : okM st) (h1_1 : a1 = 0) (h29_24 : ¬ (sp_X10_in a1 0 2) = 0) (h64_26 : ¬ (sp_X10_isLiving st a2) = 0) (h73_28 : ¬ (sp_X10_isLiving st a2) = 0) (h86_29 : ¬ st.1 7 = 100) (h136_34 : ¬ st.2.1 21 a2.toNatClampNeg ≤ st.2.1 21 a2.toNatClampNeg) : vp_in a2 100 := by
  have z1 := okM_7 hok
  have z2 := f_X10_isLiving st a2 hok.2.1
  have z3 := (by decide : (0 : Int32).toInt = 0)
  have z4 := (by decide : (21 : Int32).toInt = 21)
  have z5 := (by decide : (100 : Int32).toInt = 100)
  clear h1_1 h29_24 h86_29 hok
  try simp only [sA_1, sL_1, sI_1, vp_in_iff, Int32.le_iff_toInt_le, Int32.lt_iff_toInt_lt, ← Int32.toInt_inj, reduceIte, Nat.reduceEqDiff] at *
  all_goals omega
theorem ob_X10_derive_172_42 (st : St) (a1 : Int32) (a2 : Int32) (a3 : Int32) (hok : okM st) (h1_1 : a1 = 0) (h29_24 : ¬ (sp_X10_in a1 0 2) = 0) (h64_26 : ¬ (sp_X10_isLiving st a2) = 0) (h73_28 : ¬ (sp_X10_isLiving st a2) = 0) (h86_29 : ¬ st.1 7 = 100) (h136_34 : ¬ st.2.1 21 a2.toNatClampNeg ≤ st.2.1 21 a2.toNatClampNeg) : vp_in a2 100 := by
  have z1 := okM_7 hok
  have z2 := f_X10_isLiving st a2 hok.2.1
  have z3 := (by decide : (0 : Int32).toInt = 0)
  have z4 := (by decide : (21 : Int32).toInt = 21)
  have z5 := (by decide : (100 : Int32).toInt = 100)
  clear h1_1 h29_24 h86_29 hok
  try simp only [sA_1, sL_1, sI_1, vp_in_iff, Int32.le_iff_toInt_le, Int32.lt_iff_toInt_lt, ← Int32.toInt_inj, reduceIte, Nat.reduceEqDiff] at *
  all_goals omega
theorem ob_X10_derive_179_43 (st : St) (a1 : Int32) (a2 : Int32) (a3 : Int32) (hok : okM st) (h1_1 : a1 = 0) (h29_24 : ¬ (sp_X10_in a1 0 2) = 0) (h64_26 : ¬ (sp_X10_isLiving st a2) = 0) (h73_28 : ¬ (sp_X10_isLiving st a2) = 0) (h86_29 : ¬ st.1 7 = 100) (h136_34 : ¬ st.2.1 21 a2.toNatClampNeg ≤ st.2.1 21 a2.toNatClampNeg) : vp_in a2 100 := by
  have z1 := okM_7 hok
  have z2 := f_X10_isLiving st a2 hok.2.1
  have z3 := (by decide : (0 : Int32).toInt = 0)
  have z4 := (by decide : (21 : Int32).toInt = 21)
  have z5 := (by decide : (100 : Int32).toInt = 100)
  clear h1_1 h29_24 h86_29 hok
  try simp only [sA_1, sL_1, sI_1, vp_in_iff, Int32.le_iff_toInt_le, Int32.lt_iff_toInt_lt, ← Int32.toInt_inj, reduceIte, Nat.reduceEqDiff] at *
  all_goals omega
theorem ob_X10_derive_181_44 (st : St) (a1 : Int32) (a2 : Int32) (a3 : Int32) (hok : okM st) (h1_1 : a1 = 0) (h29_24 : ¬ (sp_X10_in a1 0 2) = 0) (h64_26 : ¬ (sp_X10_isLiving st a2) = 0) (h73_28 : ¬ (sp_X10_isLiving st a2) = 0) (h86_29 : ¬ st.1 7 = 100) (h136_34 : ¬ st.2.1 21 a2.toNatClampNeg ≤ st.2.1 21 a2.toNatClampNeg) : vp_in ((sA (sA (sI st 10 0) 24 ((st.1 7).toNatClampNeg) a2) 25 ((st.1 7).toNatClampNeg) a2).1 7) 100 := by
  have z1 := okM_7 hok
  have z2 := f_X10_isLiving st a2 hok.2.1
  have z3 := (by decide : (0 : Int32).toInt = 0)
  have z4 := (by decide : (7 : Int32).toInt = 7)
  have z5 := (by decide : (10 : Int32).toInt = 10)
  have z6 := (by decide : (21 : Int32).toInt = 21)
  have z7 := (by decide : (24 : Int32).toInt = 24)
  have z8 := (by decide : (25 : Int32).toInt = 25)
  have z9 := (by decide : (100 : Int32).toInt = 100)
  clear h1_1 h29_24 hok
  try simp only [sA_1, sL_1, sI_1, vp_in_iff, Int32.le_iff_toInt_le, Int32.lt_iff_toInt_lt, ← Int32.toInt_inj, reduceIte, Nat.reduceEqDiff] at *
  all_goals omega
theorem ob_X10_event_62_5 (st : St) (a1 : Int32) (a2 : Int32) (a3 : Int32) (hok : okM st) (h5_1 : ¬ (sp_X10_isPerson a1) = 0) (h13_2 : ¬ (sp_X10_isKind st a2) = 0) (h24_3 : ¬ (sp_X10_in a3 0 6944) = 0) (h37_4 : ¬ st.1 5 = 60) : vp_in (st.1 5) 60 := by
  have z1 := okM_5 hok
  have z2 := (by decide : (5 : Int32).toInt = 5)
  have z3 := (by decide : (60 : Int32).toInt = 60)
  clear h5_1 h13_2 h24_3 hok
  try simp only [sA_1, sL_1, sI_1, vp_in_iff, Int32.le_iff_toInt_le, Int32.lt_iff_toInt_lt, ← Int32.toInt_inj, reduceIte, Nat.reduceEqDiff] at *
  all_goals omega
theorem ob_X10_event_72_6 (st : St) (a1 : Int32) (a2 : Int32) (a3 : Int32) (hok : okM st) (h5_1 : ¬ (sp_X10_isPerson a1) = 0) (h13_2 : ¬ (sp_X10_isKind st a2) = 0) (h24_3 : ¬ (sp_X10_in a3 0 6944) = 0) (h37_4 : ¬ st.1 5 = 60) : vp_in (st.1 5) 60 := by
  have z1 := okM_5 hok
  have z2 := (by decide : (5 : Int32).toInt = 5)
  have z3 := (by decide : (60 : Int32).toInt = 60)
  clear h5_1 h13_2 h24_3 hok
  try simp only [sA_1, sL_1, sI_1, vp_in_iff, Int32.le_iff_toInt_le, Int32.lt_iff_toInt_lt, ← Int32.toInt_inj, reduceIte, Nat.reduceEqDiff] at *
  all_goals omega
theorem ob_X10_event_82_7 (st : St) (a1 : Int32) (a2 : Int32) (a3 : Int32) (hok : okM st) (h5_1 : ¬ (sp_X10_isPerson a1) = 0) (h13_2 : ¬ (sp_X10_isKind st a2) = 0) (h24_3 : ¬ (sp_X10_in a3 0 6944) = 0) (h37_4 : ¬ st.1 5 = 60) : vp_in (st.1 5) 60 := by
  have z1 := okM_5 hok
  have z2 := (by decide : (5 : Int32).toInt = 5)
  have z3 := (by decide : (60 : Int32).toInt = 60)
  clear h5_1 h13_2 h24_3 hok
  try simp only [sA_1, sL_1, sI_1, vp_in_iff, Int32.le_iff_toInt_le, Int32.lt_iff_toInt_lt, ← Int32.toInt_inj, reduceIte, Nat.reduceEqDiff] at *
  all_goals omega
theorem ob_X10_hold_91_5 (st : St) (a1 : Int32) (a2 : Int32) (a3 : Int32) (hok : okM st) (h4_1 : ¬ (sp_X10_isPerson a1) = 0) (h29_2 : ¬ (sp_X10_isPurpose st a2) = 0) (h40_3 : ¬ (sp_X10_in a3 0 6944) = 0) (h66_4 : ¬ st.1 6 = 30) : vp_in (st.1 6) 30 := by
  have z1 := okM_6 hok
  have z2 := (by decide : (6 : Int32).toInt = 6)
  have z3 := (by decide : (30 : Int32).toInt = 30)
  clear h4_1 h29_2 h40_3 hok
  try simp only [sA_1, sL_1, sI_1, vp_in_iff, Int32.le_iff_toInt_le, Int32.lt_iff_toInt_lt, ← Int32.toInt_inj, reduceIte, Nat.reduceEqDiff] at *
  all_goals omega
theorem ob_X10_hold_101_6 (st : St) (a1 : Int32) (a2 : Int32) (a3 : Int32) (hok : okM st) (h4_1 : ¬ (sp_X10_isPerson a1) = 0) (h29_2 : ¬ (sp_X10_isPurpose st a2) = 0) (h40_3 : ¬ (sp_X10_in a3 0 6944) = 0) (h66_4 : ¬ st.1 6 = 30) : vp_in (st.1 6) 30 := by
  have z1 := okM_6 hok
  have z2 := (by decide : (6 : Int32).toInt = 6)
  have z3 := (by decide : (30 : Int32).toInt = 30)
  clear h4_1 h29_2 h40_3 hok
  try simp only [sA_1, sL_1, sI_1, vp_in_iff, Int32.le_iff_toInt_le, Int32.lt_iff_toInt_lt, ← Int32.toInt_inj, reduceIte, Nat.reduceEqDiff] at *
  all_goals omega
theorem ob_X10_hold_111_7 (st : St) (a1 : Int32) (a2 : Int32) (a3 : Int32) (hok : okM st) (h4_1 : ¬ (sp_X10_isPerson a1) = 0) (h29_2 : ¬ (sp_X10_isPurpose st a2) = 0) (h40_3 : ¬ (sp_X10_in a3 0 6944) = 0) (h66_4 : ¬ st.1 6 = 30) : vp_in (st.1 6) 30 := by
  have z1 := okM_6 hok
  have z2 := (by decide : (6 : Int32).toInt = 6)
  have z3 := (by decide : (30 : Int32).toInt = 30)
  clear h4_1 h29_2 h40_3 hok
  try simp only [sA_1, sL_1, sI_1, vp_in_iff, Int32.le_iff_toInt_le, Int32.lt_iff_toInt_lt, ← Int32.toInt_inj, reduceIte, Nat.reduceEqDiff] at *
  all_goals omega
theorem ob_X10_hold_121_8 (st : St) (a1 : Int32) (a2 : Int32) (a3 : Int32) (hok : okM st) (h4_1 : ¬ (sp_X10_isPerson a1) = 0) (h29_2 : ¬ (sp_X10_isPurpose st a2) = 0) (h40_3 : ¬ (sp_X10_in a3 0 6944) = 0) (h66_4 : ¬ st.1 6 = 30) : vp_in (st.1 6) 30 := by
  have z1 := okM_6 hok
  have z2 := (by decide : (6 : Int32).toInt = 6)
  have z3 := (by decide : (30 : Int32).toInt = 30)
  clear h4_1 h29_2 h40_3 hok
  try simp only [sA_1, sL_1, sI_1, vp_in_iff, Int32.le_iff_toInt_le, Int32.lt_iff_toInt_lt, ← Int32.toInt_inj, reduceIte, Nat.reduceEqDiff] at *
  all_goals omega
theorem ob_X10_hold_91_14 (st : St) (a1 : Int32) (a2 : Int32) (a3 : Int32) (hok : okM st) (h4_1 : (sp_X10_isPerson a1) = 0) (h10_9 : ¬ a1 < 100) (h21_10 : ¬ (sp_X10_isKind st (a1 - 100)) = 0) (h29_11 : ¬ (sp_X10_isPurpose st a2) = 0) (h40_12 : ¬ (sp_X10_in a3 0 6944) = 0) (h66_13 : ¬ st.1 6 = 30) : vp_in (st.1 6) 30 := by
  have z1 := okM_6 hok
  have z2 := (by decide : (6 : Int32).toInt = 6)
  have z3 := (by decide : (30 : Int32).toInt = 30)
  clear h4_1 h10_9 h21_10 h29_11 h40_12 hok
  try simp only [sA_1, sL_1, sI_1, vp_in_iff, Int32.le_iff_toInt_le, Int32.lt_iff_toInt_lt, ← Int32.toInt_inj, reduceIte, Nat.reduceEqDiff] at *
  all_goals omega
theorem ob_X10_hold_101_15 (st : St) (a1 : Int32) (a2 : Int32) (a3 : Int32) (hok : okM st) (h4_1 : (sp_X10_isPerson a1) = 0) (h10_9 : ¬ a1 < 100) (h21_10 : ¬ (sp_X10_isKind st (a1 - 100)) = 0) (h29_11 : ¬ (sp_X10_isPurpose st a2) = 0) (h40_12 : ¬ (sp_X10_in a3 0 6944) = 0) (h66_13 : ¬ st.1 6 = 30) : vp_in (st.1 6) 30 := by
  have z1 := okM_6 hok
  have z2 := (by decide : (6 : Int32).toInt = 6)
  have z3 := (by decide : (30 : Int32).toInt = 30)
  clear h4_1 h10_9 h21_10 h29_11 h40_12 hok
  try simp only [sA_1, sL_1, sI_1, vp_in_iff, Int32.le_iff_toInt_le, Int32.lt_iff_toInt_lt, ← Int32.toInt_inj, reduceIte, Nat.reduceEqDiff] at *
  all_goals omega
theorem ob_X10_hold_111_16 (st : St) (a1 : Int32) (a2 : Int32) (a3 : Int32) (hok : okM st) (h4_1 : (sp_X10_isPerson a1) = 0) (h10_9 : ¬ a1 < 100) (h21_10 : ¬ (sp_X10_isKind st (a1 - 100)) = 0) (h29_11 : ¬ (sp_X10_isPurpose st a2) = 0) (h40_12 : ¬ (sp_X10_in a3 0 6944) = 0) (h66_13 : ¬ st.1 6 = 30) : vp_in (st.1 6) 30 := by
  have z1 := okM_6 hok
  have z2 := (by decide : (6 : Int32).toInt = 6)
  have z3 := (by decide : (30 : Int32).toInt = 30)
  clear h4_1 h10_9 h21_10 h29_11 h40_12 hok
  try simp only [sA_1, sL_1, sI_1, vp_in_iff, Int32.le_iff_toInt_le, Int32.lt_iff_toInt_lt, ← Int32.toInt_inj, reduceIte, Nat.reduceEqDiff] at *
  all_goals omega
theorem ob_X10_hold_121_17 (st : St) (a1 : Int32) (a2 : Int32) (a3 : Int32) (hok : okM st) (h4_1 : (sp_X10_isPerson a1) = 0) (h10_9 : ¬ a1 < 100) (h21_10 : ¬ (sp_X10_isKind st (a1 - 100)) = 0) (h29_11 : ¬ (sp_X10_isPurpose st a2) = 0) (h40_12 : ¬ (sp_X10_in a3 0 6944) = 0) (h66_13 : ¬ st.1 6 = 30) : vp_in (st.1 6) 30 := by
  have z1 := okM_6 hok
  have z2 := (by decide : (6 : Int32).toInt = 6)
  have z3 := (by decide : (30 : Int32).toInt = 30)
  clear h4_1 h10_9 h21_10 h29_11 h40_12 hok
  try simp only [sA_1, sL_1, sI_1, vp_in_iff, Int32.le_iff_toInt_le, Int32.lt_iff_toInt_lt, ← Int32.toInt_inj, reduceIte, Nat.reduceEqDiff] at *
  all_goals omega
theorem ob_X10_lift_41_4 (st : St) (a1 : Int32) (a2 : Int32) (hok : okM st) (h11_1 : ¬ (sp_X10_in a1 0 ((st.1 6) - 1)) = 0) (h18_2 : ¬ 6944 < a2) (h33_3 : (sp_X10_in a1 0 29) = 0) : vp_in 0 30 := by
  have z1 := (by decide : (0 : Int32).toInt = 0)
  have z2 := (by decide : (30 : Int32).toInt = 30)
  clear h11_1 h18_2 h33_3 hok
  try simp only [sA_1, sL_1, sI_1, vp_in_iff, Int32.le_iff_toInt_le, Int32.lt_iff_toInt_lt, ← Int32.toInt_inj, reduceIte, Nat.reduceEqDiff] at *
  all_goals omega
theorem ob_X10_lift_65_6 (st : St) (a1 : Int32) (a2 : Int32) (hok : okM st) (h11_1 : ¬ (sp_X10_in a1 0 ((st.1 6) - 1)) = 0) (h18_2 : ¬ 6944 < a2) (h33_3 : (sp_X10_in a1 0 29) = 0) (h42_5 : ¬ a2 < st.2.1 18 (0 : Int32).toNatClampNeg) : vp_in a1 30 := by
  have z1 := okM_6 hok
  have z2 := f_X10_in a1 0 ((st.1 6) - 1)
  have z3 := sub_I (st.1 6)
  have z4 := f_X10_in a1 0 29
  have z5 := (by decide : (0 : Int32).toInt = 0)
  have z6 := (by decide : (1 : Int32).toInt = 1)
  have z7 := (by decide : (6 : Int32).toInt = 6)
  have z8 := (by decide : (29 : Int32).toInt = 29)
  have z9 := (by decide : (30 : Int32).toInt = 30)
  clear h18_2 h42_5 hok
  try simp only [sA_1, sL_1, sI_1, vp_in_iff, Int32.le_iff_toInt_le, Int32.lt_iff_toInt_lt, ← Int32.toInt_inj, reduceIte, Nat.reduceEqDiff] at *
  all_goals omega
theorem ob_X10_lift_86_8 (st : St) (a1 : Int32) (a2 : Int32) (hok : okM st) (h11_1 : ¬ (sp_X10_in a1 0 ((st.1 6) - 1)) = 0) (h18_2 : ¬ 6944 < a2) (h33_3 : (sp_X10_in a1 0 29) = 0) (h42_5 : ¬ a2 < st.2.1 18 (0 : Int32).toNatClampNeg) (h66_7 : st.2.1 19 a1.toNatClampNeg < 0) : vp_in a1 30 := by
  have z1 := okM_6 hok
  have z2 := f_X10_in a1 0 ((st.1 6) - 1)
  have z3 := sub_I (st.1 6)
  have z4 := f_X10_in a1 0 29
  have z5 := (by decide : (0 : Int32).toInt = 0)
  have z6 := (by decide : (1 : Int32).toInt = 1)
  have z7 := (by decide : (6 : Int32).toInt = 6)
  have z8 := (by decide : (19 : Int32).toInt = 19)
  have z9 := (by decide : (29 : Int32).toInt = 29)
  have z10 := (by decide : (30 : Int32).toInt = 30)
  clear h18_2 h42_5 hok
  try simp only [sA_1, sL_1, sI_1, vp_in_iff, Int32.le_iff_toInt_le, Int32.lt_iff_toInt_lt, ← Int32.toInt_inj, reduceIte, Nat.reduceEqDiff] at *
  all_goals omega
theorem ob_X10_lift_41_9 (st : St) (a1 : Int32) (a2 : Int32) (hok : okM st) (h11_1 : ¬ (sp_X10_in a1 0 ((st.1 6) - 1)) = 0) (h18_2 : ¬ 6944 < a2) (h33_3 : ¬ (sp_X10_in a1 0 29) = 0) : vp_in a1 30 := by
  have z1 := okM_6 hok
  have z2 := f_X10_in a1 0 ((st.1 6) - 1)
  have z3 := sub_I (st.1 6)
  have z4 := f_X10_in a1 0 29
  have z5 := (by decide : (0 : Int32).toInt = 0)
  have z6 := (by decide : (1 : Int32).toInt = 1)
  have z7 := (by decide : (6 : Int32).toInt = 6)
  have z8 := (by decide : (29 : Int32).toInt = 29)
  have z9 := (by decide : (30 : Int32).toInt = 30)
  clear h18_2 hok
  try simp only [sA_1, sL_1, sI_1, vp_in_iff, Int32.le_iff_toInt_le, Int32.lt_iff_toInt_lt, ← Int32.toInt_inj, reduceIte, Nat.reduceEqDiff] at *
  all_goals omega
theorem ob_X10_lift_65_11 (st : St) (a1 : Int32) (a2 : Int32) (hok : okM st) (h11_1 : ¬ (sp_X10_in a1 0 ((st.1 6) - 1)) = 0) (h18_2 : ¬ 6944 < a2) (h33_3 : ¬ (sp_X10_in a1 0 29) = 0) (h42_10 : ¬ a2 < st.2.1 18 a1.toNatClampNeg) : vp_in a1 30 := by
  have z1 := okM_6 hok
  have z2 := f_X10_in a1 0 ((st.1 6) - 1)
  have z3 := sub_I (st.1 6)
  have z4 := f_X10_in a1 0 29
  have z5 := (by decide : (0 : Int32).toInt = 0)
  have z6 := (by decide : (1 : Int32).toInt = 1)
  have z7 := (by decide : (6 : Int32).toInt = 6)
  have z8 := (by decide : (18 : Int32).toInt = 18)
  have z9 := (by decide : (29 : Int32).toInt = 29)
  have z10 := (by decide : (30 : Int32).toInt = 30)
  clear h18_2 hok
  try simp only [sA_1, sL_1, sI_1, vp_in_iff, Int32.le_iff_toInt_le, Int32.lt_iff_toInt_lt, ← Int32.toInt_inj, reduceIte, Nat.reduceEqDiff] at *
  all_goals omega
theorem ob_X10_lift_86_13 (st : St) (a1 : Int32) (a2 : Int32) (hok : okM st) (h11_1 : ¬ (sp_X10_in a1 0 ((st.1 6) - 1)) = 0) (h18_2 : ¬ 6944 < a2) (h33_3 : ¬ (sp_X10_in a1 0 29) = 0) (h42_10 : ¬ a2 < st.2.1 18 a1.toNatClampNeg) (h66_12 : st.2.1 19 a1.toNatClampNeg < 0) : vp_in a1 30 := by
  have z1 := okM_6 hok
  have z2 := f_X10_in a1 0 ((st.1 6) - 1)
  have z3 := sub_I (st.1 6)
  have z4 := f_X10_in a1 0 29
  have z5 := (by decide : (0 : Int32).toInt = 0)
  have z6 := (by decide : (1 : Int32).toInt = 1)
  have z7 := (by decide : (6 : Int32).toInt = 6)
  have z8 := (by decide : (18 : Int32).toInt = 18)
  have z9 := (by decide : (19 : Int32).toInt = 19)
  have z10 := (by decide : (29 : Int32).toInt = 29)
  have z11 := (by decide : (30 : Int32).toInt = 30)
  clear h18_2 hok
  try simp only [sA_1, sL_1, sI_1, vp_in_iff, Int32.le_iff_toInt_le, Int32.lt_iff_toInt_lt, ← Int32.toInt_inj, reduceIte, Nat.reduceEqDiff] at *
  all_goals omega

theorem f_X8_has (st : St) (a : Int32) : sp_X8_has st a = 0 ∨ (0 ≤ a.toInt ∧ a.toInt < (st.1 0).toInt) := by
  unfold sp_X8_has
  by_cases h : a < 0
  · left; rw [if_pos h]
  · by_cases h2 : st.1 0 ≤ a
    · left; rw [if_neg h, if_pos h2]
    · right
      have z0 : (0 : Int32).toInt = 0 := by decide
      simp only [Int32.le_iff_toInt_le, Int32.lt_iff_toInt_lt] at h h2
      omega
theorem f_X6_has (st : St) (a : Int32) : sp_X6_has st a = 0 ∨ (0 ≤ a.toInt ∧ a.toInt < (st.1 1).toInt) := by
  unfold sp_X6_has
  by_cases h : a < 0
  · left; rw [if_pos h]
  · by_cases h2 : st.1 1 ≤ a
    · left; rw [if_neg h, if_pos h2]
    · right
      have z0 : (0 : Int32).toInt = 0 := by decide
      simp only [Int32.le_iff_toInt_le, Int32.lt_iff_toInt_lt] at h h2
      omega
theorem f_X4_has (st : St) (a : Int32) : sp_X4_has st a = 0 ∨ (0 ≤ a.toInt ∧ a.toInt < (st.1 6).toInt) := by
  unfold sp_X4_has
  by_cases h : a < 0
  · left; rw [if_pos h]
  · by_cases h2 : st.1 6 ≤ a
    · left; rw [if_neg h, if_pos h2]
    · right
      have z0 : (0 : Int32).toInt = 0 := by decide
      simp only [Int32.le_iff_toInt_le, Int32.lt_iff_toInt_lt] at h h2
      omega
theorem f_X5_has (st : St) (a : Int32) : sp_X5_has st a = 0 ∨ (0 ≤ a.toInt ∧ a.toInt < (st.1 7).toInt) := by
  unfold sp_X5_has
  by_cases h : a < 0
  · left; rw [if_pos h]
  · by_cases h2 : st.1 7 ≤ a
    · left; rw [if_neg h, if_pos h2]
    · right
      have z0 : (0 : Int32).toInt = 0 := by decide
      simp only [Int32.le_iff_toInt_le, Int32.lt_iff_toInt_lt] at h h2
      omega
theorem f_X5_lives (st : St) (a : Int32) : sp_X5_lives st a = 0 ∨ (0 ≤ a.toInt ∧ a.toInt < (st.1 7).toInt) := by
  unfold sp_X5_lives
  rcases f_X5_has st a with h | h
  · left; rw [if_pos h]
  · right; exact h
theorem I_X5_keep (st : St) (a : Int32) : (sp_X5_keep st a).1 = st.1 := by
  unfold sp_X5_keep
  split <;> rfl
theorem I_X5_keepWithInputs (st : St) (a : Int32) : (sp_X5_keepWithInputs st a).1 = st.1 := by
  unfold sp_X5_keepWithInputs
  repeat' split
  all_goals simp only [I_X5_keep]
theorem I_X5_end (st : St) (a : Int32) (i : Nat) (hi : i ≠ 10) : (sp_X5_end st a).1 i = st.1 i := by
  unfold sp_X5_end
  split
  · rfl
  · rw [sI_1, if_neg hi]; rfl
theorem I_X5_endUnlessKept (st : St) (a : Int32) (i : Nat) (hi : i ≠ 10) : (sp_X5_endUnlessKept st a).1 i = st.1 i := by
  unfold sp_X5_endUnlessKept
  split
  · exact I_X5_end st a i hi
  · rfl
theorem I_unmark_lp (st : St) : ∀ (n : Nat) (s : St) (x : Int32), (lp_X5_unmarkAll_2 st n s x).1 = s.1 := by
  intro n
  induction n with
  | zero => intro s x; rfl
  | succ n ih =>
    intro s x
    rw [lp_X5_unmarkAll_2]
    split
    · rfl
    · rw [ih]; rfl
theorem I_X5_unmarkAll (st : St) : (sp_X5_unmarkAll st).1 = st.1 := I_unmark_lp st _ _ _
theorem I_follow_lp (st : St) (i : Nat) (hi : i ≠ 10) : ∀ (n : Nat) (s : St) (x : Int32), (lp_X5_followInputs_2 st n s x).1 i = s.1 i := by
  intro n
  induction n with
  | zero => intro s x; rfl
  | succ n ih =>
    intro s x
    rw [lp_X5_followInputs_2]
    repeat' split
    all_goals first | rfl | (rw [ih]; done) | (rw [ih]; first | rfl | exact I_X5_end _ _ _ hi)
theorem I_X5_followInputs (st : St) (i : Nat) (hi : i ≠ 10) : (sp_X5_followInputs st).1 i = st.1 i := I_follow_lp st i hi _ _ _
theorem I_mark_lp (st : St) (a : Int32) : ∀ (n : Nat) (s : St) (x : Int32), (lp_X9_markKept_17 st a n s x).1 = s.1 := by
  intro n
  induction n with
  | zero => intro s x; rfl
  | succ n ih =>
    intro s x
    rw [lp_X9_markKept_17]
    repeat' split
    all_goals first | rfl | (rw [ih]; done) | (rw [ih, I_X5_keepWithInputs])
theorem I_X9_markKept (st : St) (a : Int32) : (sp_X9_markKept st a).1 = st.1 := by
  unfold sp_X9_markKept
  rw [I_mark_lp, I_X5_unmarkAll]
theorem I_X5_keep_0 (st : St) (a : Int32) : (sp_X5_keep st a).1 0 = st.1 0 := congrFun (I_X5_keep st a) 0
theorem I_X5_keep_1 (st : St) (a : Int32) : (sp_X5_keep st a).1 1 = st.1 1 := congrFun (I_X5_keep st a) 1
theorem I_X5_keep_2 (st : St) (a : Int32) : (sp_X5_keep st a).1 2 = st.1 2 := congrFun (I_X5_keep st a) 2
theorem I_X5_keep_3 (st : St) (a : Int32) : (sp_X5_keep st a).1 3 = st.1 3 := congrFun (I_X5_keep st a) 3
theorem I_X5_keep_4 (st : St) (a : Int32) : (sp_X5_keep st a).1 4 = st.1 4 := congrFun (I_X5_keep st a) 4
theorem I_X5_keep_5 (st : St) (a : Int32) : (sp_X5_keep st a).1 5 = st.1 5 := congrFun (I_X5_keep st a) 5
theorem I_X5_keep_6 (st : St) (a : Int32) : (sp_X5_keep st a).1 6 = st.1 6 := congrFun (I_X5_keep st a) 6
theorem I_X5_keep_7 (st : St) (a : Int32) : (sp_X5_keep st a).1 7 = st.1 7 := congrFun (I_X5_keep st a) 7
theorem I_X5_keep_8 (st : St) (a : Int32) : (sp_X5_keep st a).1 8 = st.1 8 := congrFun (I_X5_keep st a) 8
theorem I_X5_keepWithInputs_0 (st : St) (a : Int32) : (sp_X5_keepWithInputs st a).1 0 = st.1 0 := congrFun (I_X5_keepWithInputs st a) 0
theorem I_X5_keepWithInputs_1 (st : St) (a : Int32) : (sp_X5_keepWithInputs st a).1 1 = st.1 1 := congrFun (I_X5_keepWithInputs st a) 1
theorem I_X5_keepWithInputs_2 (st : St) (a : Int32) : (sp_X5_keepWithInputs st a).1 2 = st.1 2 := congrFun (I_X5_keepWithInputs st a) 2
theorem I_X5_keepWithInputs_3 (st : St) (a : Int32) : (sp_X5_keepWithInputs st a).1 3 = st.1 3 := congrFun (I_X5_keepWithInputs st a) 3
theorem I_X5_keepWithInputs_4 (st : St) (a : Int32) : (sp_X5_keepWithInputs st a).1 4 = st.1 4 := congrFun (I_X5_keepWithInputs st a) 4
theorem I_X5_keepWithInputs_5 (st : St) (a : Int32) : (sp_X5_keepWithInputs st a).1 5 = st.1 5 := congrFun (I_X5_keepWithInputs st a) 5
theorem I_X5_keepWithInputs_6 (st : St) (a : Int32) : (sp_X5_keepWithInputs st a).1 6 = st.1 6 := congrFun (I_X5_keepWithInputs st a) 6
theorem I_X5_keepWithInputs_7 (st : St) (a : Int32) : (sp_X5_keepWithInputs st a).1 7 = st.1 7 := congrFun (I_X5_keepWithInputs st a) 7
theorem I_X5_keepWithInputs_8 (st : St) (a : Int32) : (sp_X5_keepWithInputs st a).1 8 = st.1 8 := congrFun (I_X5_keepWithInputs st a) 8
theorem I_X5_end_0 (st : St) (a : Int32) : (sp_X5_end st a).1 0 = st.1 0 := I_X5_end st a 0 (by decide)
theorem I_X5_end_1 (st : St) (a : Int32) : (sp_X5_end st a).1 1 = st.1 1 := I_X5_end st a 1 (by decide)
theorem I_X5_end_2 (st : St) (a : Int32) : (sp_X5_end st a).1 2 = st.1 2 := I_X5_end st a 2 (by decide)
theorem I_X5_end_3 (st : St) (a : Int32) : (sp_X5_end st a).1 3 = st.1 3 := I_X5_end st a 3 (by decide)
theorem I_X5_end_4 (st : St) (a : Int32) : (sp_X5_end st a).1 4 = st.1 4 := I_X5_end st a 4 (by decide)
theorem I_X5_end_5 (st : St) (a : Int32) : (sp_X5_end st a).1 5 = st.1 5 := I_X5_end st a 5 (by decide)
theorem I_X5_end_6 (st : St) (a : Int32) : (sp_X5_end st a).1 6 = st.1 6 := I_X5_end st a 6 (by decide)
theorem I_X5_end_7 (st : St) (a : Int32) : (sp_X5_end st a).1 7 = st.1 7 := I_X5_end st a 7 (by decide)
theorem I_X5_end_8 (st : St) (a : Int32) : (sp_X5_end st a).1 8 = st.1 8 := I_X5_end st a 8 (by decide)
theorem I_X5_endUnlessKept_0 (st : St) (a : Int32) : (sp_X5_endUnlessKept st a).1 0 = st.1 0 := I_X5_endUnlessKept st a 0 (by decide)
theorem I_X5_endUnlessKept_1 (st : St) (a : Int32) : (sp_X5_endUnlessKept st a).1 1 = st.1 1 := I_X5_endUnlessKept st a 1 (by decide)
theorem I_X5_endUnlessKept_2 (st : St) (a : Int32) : (sp_X5_endUnlessKept st a).1 2 = st.1 2 := I_X5_endUnlessKept st a 2 (by decide)
theorem I_X5_endUnlessKept_3 (st : St) (a : Int32) : (sp_X5_endUnlessKept st a).1 3 = st.1 3 := I_X5_endUnlessKept st a 3 (by decide)
theorem I_X5_endUnlessKept_4 (st : St) (a : Int32) : (sp_X5_endUnlessKept st a).1 4 = st.1 4 := I_X5_endUnlessKept st a 4 (by decide)
theorem I_X5_endUnlessKept_5 (st : St) (a : Int32) : (sp_X5_endUnlessKept st a).1 5 = st.1 5 := I_X5_endUnlessKept st a 5 (by decide)
theorem I_X5_endUnlessKept_6 (st : St) (a : Int32) : (sp_X5_endUnlessKept st a).1 6 = st.1 6 := I_X5_endUnlessKept st a 6 (by decide)
theorem I_X5_endUnlessKept_7 (st : St) (a : Int32) : (sp_X5_endUnlessKept st a).1 7 = st.1 7 := I_X5_endUnlessKept st a 7 (by decide)
theorem I_X5_endUnlessKept_8 (st : St) (a : Int32) : (sp_X5_endUnlessKept st a).1 8 = st.1 8 := I_X5_endUnlessKept st a 8 (by decide)
theorem I_X5_unmarkAll_0 (st : St) : (sp_X5_unmarkAll st ).1 0 = st.1 0 := congrFun (I_X5_unmarkAll st ) 0
theorem I_X5_unmarkAll_1 (st : St) : (sp_X5_unmarkAll st ).1 1 = st.1 1 := congrFun (I_X5_unmarkAll st ) 1
theorem I_X5_unmarkAll_2 (st : St) : (sp_X5_unmarkAll st ).1 2 = st.1 2 := congrFun (I_X5_unmarkAll st ) 2
theorem I_X5_unmarkAll_3 (st : St) : (sp_X5_unmarkAll st ).1 3 = st.1 3 := congrFun (I_X5_unmarkAll st ) 3
theorem I_X5_unmarkAll_4 (st : St) : (sp_X5_unmarkAll st ).1 4 = st.1 4 := congrFun (I_X5_unmarkAll st ) 4
theorem I_X5_unmarkAll_5 (st : St) : (sp_X5_unmarkAll st ).1 5 = st.1 5 := congrFun (I_X5_unmarkAll st ) 5
theorem I_X5_unmarkAll_6 (st : St) : (sp_X5_unmarkAll st ).1 6 = st.1 6 := congrFun (I_X5_unmarkAll st ) 6
theorem I_X5_unmarkAll_7 (st : St) : (sp_X5_unmarkAll st ).1 7 = st.1 7 := congrFun (I_X5_unmarkAll st ) 7
theorem I_X5_unmarkAll_8 (st : St) : (sp_X5_unmarkAll st ).1 8 = st.1 8 := congrFun (I_X5_unmarkAll st ) 8
theorem I_X5_followInputs_0 (st : St) : (sp_X5_followInputs st ).1 0 = st.1 0 := I_X5_followInputs st  0 (by decide)
theorem I_X5_followInputs_1 (st : St) : (sp_X5_followInputs st ).1 1 = st.1 1 := I_X5_followInputs st  1 (by decide)
theorem I_X5_followInputs_2 (st : St) : (sp_X5_followInputs st ).1 2 = st.1 2 := I_X5_followInputs st  2 (by decide)
theorem I_X5_followInputs_3 (st : St) : (sp_X5_followInputs st ).1 3 = st.1 3 := I_X5_followInputs st  3 (by decide)
theorem I_X5_followInputs_4 (st : St) : (sp_X5_followInputs st ).1 4 = st.1 4 := I_X5_followInputs st  4 (by decide)
theorem I_X5_followInputs_5 (st : St) : (sp_X5_followInputs st ).1 5 = st.1 5 := I_X5_followInputs st  5 (by decide)
theorem I_X5_followInputs_6 (st : St) : (sp_X5_followInputs st ).1 6 = st.1 6 := I_X5_followInputs st  6 (by decide)
theorem I_X5_followInputs_7 (st : St) : (sp_X5_followInputs st ).1 7 = st.1 7 := I_X5_followInputs st  7 (by decide)
theorem I_X5_followInputs_8 (st : St) : (sp_X5_followInputs st ).1 8 = st.1 8 := I_X5_followInputs st  8 (by decide)
theorem I_X9_markKept_0 (st : St) (a : Int32) : (sp_X9_markKept st a).1 0 = st.1 0 := congrFun (I_X9_markKept st a) 0
theorem I_X9_markKept_1 (st : St) (a : Int32) : (sp_X9_markKept st a).1 1 = st.1 1 := congrFun (I_X9_markKept st a) 1
theorem I_X9_markKept_2 (st : St) (a : Int32) : (sp_X9_markKept st a).1 2 = st.1 2 := congrFun (I_X9_markKept st a) 2
theorem I_X9_markKept_3 (st : St) (a : Int32) : (sp_X9_markKept st a).1 3 = st.1 3 := congrFun (I_X9_markKept st a) 3
theorem I_X9_markKept_4 (st : St) (a : Int32) : (sp_X9_markKept st a).1 4 = st.1 4 := congrFun (I_X9_markKept st a) 4
theorem I_X9_markKept_5 (st : St) (a : Int32) : (sp_X9_markKept st a).1 5 = st.1 5 := congrFun (I_X9_markKept st a) 5
theorem I_X9_markKept_6 (st : St) (a : Int32) : (sp_X9_markKept st a).1 6 = st.1 6 := congrFun (I_X9_markKept st a) 6
theorem I_X9_markKept_7 (st : St) (a : Int32) : (sp_X9_markKept st a).1 7 = st.1 7 := congrFun (I_X9_markKept st a) 7
theorem I_X9_markKept_8 (st : St) (a : Int32) : (sp_X9_markKept st a).1 8 = st.1 8 := congrFun (I_X9_markKept st a) 8
theorem f_X5_begin (st : St) (a b c : Int32) (hok : okC st) : okC (sp_X5_begin st a b c).2 := by
  unfold sp_X5_begin
  split
  · rename_i h
    have z := inc_I (st.1 7)
    have z1 : (100 : Int32).toInt = 100 := by decide
    simp only [okC, sA_1, sL_1, sI_1, Int32.le_iff_toInt_le, Int32.lt_iff_toInt_lt, reduceIte, Nat.reduceEqDiff] at *
    omega
  · exact hok
theorem okC_cong {s t : St} (h : ∀ j, j < 9 → t.1 j = s.1 j) (hk : okC s) : okC t := by
  unfold okC at *
  rw [h 0 (by decide), h 1 (by decide), h 2 (by decide), h 3 (by decide), h 4 (by decide), h 5 (by decide), h 6 (by decide), h 7 (by decide), h 8 (by decide)]
  exact hk
theorem ok_X5_keep (st : St) (a : Int32) (h : okC st) : okC (sp_X5_keep st a) := okC_cong (fun j _ => congrFun (I_X5_keep st a) j) h
theorem ok_X5_keepWithInputs (st : St) (a : Int32) (h : okC st) : okC (sp_X5_keepWithInputs st a) := okC_cong (fun j _ => congrFun (I_X5_keepWithInputs st a) j) h
theorem ok_X5_end (st : St) (a : Int32) (h : okC st) : okC (sp_X5_end st a) := okC_cong (fun j hj => I_X5_end st a j (by omega)) h
theorem ok_X5_endUnlessKept (st : St) (a : Int32) (h : okC st) : okC (sp_X5_endUnlessKept st a) := okC_cong (fun j hj => I_X5_endUnlessKept st a j (by omega)) h
theorem ok_X5_unmarkAll (st : St) (h : okC st) : okC (sp_X5_unmarkAll st ) := okC_cong (fun j _ => congrFun (I_X5_unmarkAll st ) j) h
theorem ok_X5_followInputs (st : St) (h : okC st) : okC (sp_X5_followInputs st ) := okC_cong (fun j hj => I_X5_followInputs st  j (by omega)) h
theorem ok_X9_markKept (st : St) (a : Int32) (h : okC st) : okC (sp_X9_markKept st a) := okC_cong (fun j _ => congrFun (I_X9_markKept st a) j) h
theorem ok_X7_add (st : St) (a b c d : Int32) (hok : okC st) : okC (sp_X7_add st a b c d) := by
  unfold sp_X7_add
  split
  · rename_i h
    have z := inc_I (st.1 8)
    have z1 : (200 : Int32).toInt = 200 := by decide
    simp only [okC, sA_1, sL_1, sI_1, Int32.le_iff_toInt_le, Int32.lt_iff_toInt_lt, reduceIte, Nat.reduceEqDiff] at *
    omega
  · exact hok

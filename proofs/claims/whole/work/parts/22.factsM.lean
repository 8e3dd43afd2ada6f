theorem says_2 (st : St) (c : Int32) : (sp_X10_says st c).2 = sI st 10 c := by
  unfold sp_X10_says
  split <;> rfl
theorem saysV_0 (st : St) : (sp_X10_says st 0).1 = 1 := by
  unfold sp_X10_says
  rw [if_pos rfl]
theorem saysV_1 (st : St) : (sp_X10_says st 1).1 = 0 := by
  unfold sp_X10_says
  rw [if_neg (by decide)]
theorem f_X10_in (v lo hi : Int32) : sp_X10_in v lo hi = 0 ∨ (lo.toInt ≤ v.toInt ∧ v.toInt ≤ hi.toInt) := by
  unfold sp_X10_in
  by_cases h : v < lo
  · left; rw [if_pos h]
  · by_cases h2 : hi < v
    · left; rw [if_neg h, if_pos h2]
    · right
      simp only [Int32.lt_iff_toInt_lt] at h h2
      omega
theorem f_X10_isPurpose (st : St) (a : Int32) (h : okM st) : sp_X10_isPurpose st a = 0 ∨ (0 ≤ a.toInt ∧ a.toInt < (st.1 0).toInt) := by
  unfold sp_X10_isPurpose
  have z0 : (0 : Int32).toInt = 0 := by decide
  have z1 := sub_I (st.1 0)
  have z2 := okM_0 h
  rcases f_X10_in a 0 (st.1 0 - 1) with e | e
  · exact Or.inl e
  · right; omega
theorem f_X10_isKind (st : St) (a : Int32) (h : okM st) : sp_X10_isKind st a = 0 ∨ (0 ≤ a.toInt ∧ a.toInt < (st.1 1).toInt) := by
  unfold sp_X10_isKind
  have z0 : (0 : Int32).toInt = 0 := by decide
  have z1 := sub_I (st.1 1)
  have z2 := okM_1 h
  rcases f_X10_in a 0 (st.1 1 - 1) with e | e
  · exact Or.inl e
  · right; omega
theorem f_X10_isLiving (st : St) (a : Int32) (h : okIt st) : sp_X10_isLiving st a = 0 ∨ (0 ≤ a.toInt ∧ a.toInt < (st.1 7).toInt) := by
  unfold sp_X10_isLiving
  have z0 : (0 : Int32).toInt = 0 := by decide
  have z1 := sub_I (st.1 7)
  have z2 := okIt_7 h
  rcases f_X10_in a 0 (st.1 7 - 1) with e | e
  · left; rw [if_pos e]
  · right; omega
theorem saysV_2 (st : St) : (sp_X10_says st 2).1 = 0 := by
  unfold sp_X10_says
  rw [if_neg (by decide)]
theorem saysV_3 (st : St) : (sp_X10_says st 3).1 = 0 := by
  unfold sp_X10_says
  rw [if_neg (by decide)]
theorem okM_cong {s t : St} (h1 : t.1 = s.1) (h2 : ∀ b, b ≠ 27 → t.2.1 b = s.2.1 b) (hk : okM s) : okM t := by
  unfold okM okIt okC at *
  rw [h1, h2 0 (by decide), h2 5 (by decide), h2 20 (by decide), h2 24 (by decide), h2 25 (by decide)]
  exact hk
theorem A_keep52 (st : St) (a : Int32) : ∀ (n : Nat) (s : St) (x : Int32), (lp_X10_keep_52 st a n s x).1 = s.1 ∧ ∀ b, b ≠ 27 → (lp_X10_keep_52 st a n s x).2.1 b = s.2.1 b := by
  intro n
  induction n with
  | zero => intro s x; exact ⟨rfl, fun _ _ => rfl⟩
  | succ n ih =>
    intro s x
    rw [lp_X10_keep_52]
    repeat' split
    all_goals first
      | exact ⟨rfl, fun _ _ => rfl⟩
      | exact ih _ _
      | exact ⟨(ih _ _).1.trans rfl, fun b hb => ((ih _ _).2 b hb).trans (by simp only [sA, if_neg hb])⟩
theorem A_keep2 (st : St) (a : Int32) : ∀ (n : Nat) (s : St) (x : Int32), (lp_X10_keep_2 st a n s x).1 = s.1 ∧ ∀ b, b ≠ 27 → (lp_X10_keep_2 st a n s x).2.1 b = s.2.1 b := by
  intro n
  induction n with
  | zero => intro s x; exact ⟨rfl, fun _ _ => rfl⟩
  | succ n ih =>
    intro s x
    rw [lp_X10_keep_2]
    repeat' split
    all_goals first
      | exact A_keep52 _ _ _ _ _
      | exact ⟨(ih _ _).1.trans rfl, fun b hb => ((ih _ _).2 b hb).trans (by simp only [sA, if_neg hb])⟩
theorem okM_X10_keep (st : St) (a : Int32) (h : okM st) : okM (sp_X10_keep st a) := okM_cong (A_keep2 st a _ _ _).1 (A_keep2 st a _ _ _).2 h
theorem okIt_X10_keep (st : St) (a : Int32) (h : okM st) : okIt (sp_X10_keep st a) := (okM_X10_keep st a h).2.1
theorem I_X10_keep_7 (st : St) (a : Int32) : (sp_X10_keep st a).1 7 = st.1 7 := congrFun (A_keep2 st a _ _ _).1 7
theorem A_reckon49 (st s : St) (x : Int32) (K : St → Int32 → St) (v : Int64) (hK : ∀ s x, (K s x).1 = s.1 ∧ (K s x).2.1 = s.2.1) : (jn_X10_reckon_49 st s x K v).1 = s.1 ∧ (jn_X10_reckon_49 st s x K v).2.1 = s.2.1 := by
  unfold jn_X10_reckon_49 jn_X10_reckon_89 jn_X10_reckon_171
  repeat' split
  all_goals exact hK _ _
theorem A_reckon2 (st : St) : ∀ (n : Nat) (s : St) (x : Int32), (lp_X10_reckon_2 st n s x).1 = s.1 ∧ (lp_X10_reckon_2 st n s x).2.1 = s.2.1 := by
  intro n
  induction n with
  | zero => intro s x; exact ⟨rfl, rfl⟩
  | succ n ih =>
    intro s x
    rw [lp_X10_reckon_2]
    repeat' split
    all_goals first
      | exact ⟨rfl, rfl⟩
      | exact A_reckon49 _ _ _ _ _ ih
theorem okM_X10_reckon (st : St) (h : okM st) : okM (sp_X10_reckon st) := okM_cong (A_reckon2 st _ _ _).1 (fun b _ => congrFun (A_reckon2 st _ _ _).2 b) h
theorem okIt_X10_reckon (st : St) (h : okIt st) : okIt (sp_X10_reckon st) := by
  have e1 : (sp_X10_reckon st).1 = st.1 := (A_reckon2 st _ _ _).1
  have e2 : (sp_X10_reckon st).2.1 = st.2.1 := (A_reckon2 st _ _ _).2
  unfold okIt at *
  rw [e1, e2]
  exact h
theorem I_X10_reckon_7 (st : St) : (sp_X10_reckon st).1 7 = st.1 7 := congrFun (A_reckon2 st _ _ _).1 7
theorem b_X10_in (v lo hi : Int32) : sp_X10_in v lo hi = 0 ∨ sp_X10_in v lo hi = 1 := by
  unfold sp_X10_in
  repeat' split
  all_goals first | exact Or.inl rfl | exact Or.inr rfl

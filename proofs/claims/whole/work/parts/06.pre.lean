theorem inc_I (x : Int32) : 0 ≤ x.toInt → x.toInt < 1000000 → (x + 1).toInt = x.toInt + 1 := by
  intro h0 h1
  rw [Int32.toInt_add, show (1 : Int32).toInt = 1 from by decide]
  exact Int.bmod_eq_of_le (by omega) (by omega)
theorem dec_I (x : Int32) : -1000000 ≤ x.toInt → x.toInt < 1000000 → (x + (-1)).toInt = x.toInt - 1 := by
  intro h0 h1
  rw [Int32.toInt_add, show (-1 : Int32).toInt = -1 from by decide]
  exact Int.bmod_eq_of_le (by omega) (by omega)
/-- the counts of the class are in their bounds -/
def okC (st : St) : Prop := (0 ≤ (st.1 0).toInt ∧ (st.1 0).toInt ≤ 16) ∧ (0 ≤ (st.1 1).toInt ∧ (st.1 1).toInt ≤ 8) ∧ (0 ≤ (st.1 2).toInt ∧ (st.1 2).toInt ≤ 100) ∧ (0 ≤ (st.1 3).toInt ∧ (st.1 3).toInt ≤ 40) ∧ (0 ≤ (st.1 4).toInt ∧ (st.1 4).toInt ≤ 20) ∧ (0 ≤ (st.1 5).toInt ∧ (st.1 5).toInt ≤ 60) ∧ (0 ≤ (st.1 6).toInt ∧ (st.1 6).toInt ≤ 30) ∧ (0 ≤ (st.1 7).toInt ∧ (st.1 7).toInt ≤ 100) ∧ (0 ≤ (st.1 8).toInt ∧ (st.1 8).toInt ≤ 200)
theorem sA_1 (s : St) (a i : Nat) (v : Int32) : (sA s a i v).1 = s.1 := rfl
theorem sL_1 (s : St) (i : Nat) (v : Int64) : (sL s i v).1 = s.1 := rfl
theorem sI_1 (s : St) (i j : Nat) (v : Int32) : (sI s i v).1 j = if j = i then v else s.1 j := rfl
theorem sub_I (x : Int32) : -1000000 ≤ x.toInt → x.toInt < 1000000 → (x - 1).toInt = x.toInt - 1 := by
  intro h0 h1
  rw [Int32.toInt_sub, show (1 : Int32).toInt = 1 from by decide]
  exact Int.bmod_eq_of_le (by omega) (by omega)
theorem okC_0 {st : St} (h : okC st) : 0 ≤ (st.1 0).toInt ∧ (st.1 0).toInt ≤ 16 := h.1
theorem okC_1 {st : St} (h : okC st) : 0 ≤ (st.1 1).toInt ∧ (st.1 1).toInt ≤ 8 := h.2.1
theorem okC_2 {st : St} (h : okC st) : 0 ≤ (st.1 2).toInt ∧ (st.1 2).toInt ≤ 100 := h.2.2.1
theorem okC_3 {st : St} (h : okC st) : 0 ≤ (st.1 3).toInt ∧ (st.1 3).toInt ≤ 40 := h.2.2.2.1
theorem okC_4 {st : St} (h : okC st) : 0 ≤ (st.1 4).toInt ∧ (st.1 4).toInt ≤ 20 := h.2.2.2.2.1
theorem okC_5 {st : St} (h : okC st) : 0 ≤ (st.1 5).toInt ∧ (st.1 5).toInt ≤ 60 := h.2.2.2.2.2.1
theorem okC_6 {st : St} (h : okC st) : 0 ≤ (st.1 6).toInt ∧ (st.1 6).toInt ≤ 30 := h.2.2.2.2.2.2.1
theorem okC_7 {st : St} (h : okC st) : 0 ≤ (st.1 7).toInt ∧ (st.1 7).toInt ≤ 100 := h.2.2.2.2.2.2.2.1
theorem okC_8 {st : St} (h : okC st) : 0 ≤ (st.1 8).toInt ∧ (st.1 8).toInt ≤ 200 := h.2.2.2.2.2.2.2.2

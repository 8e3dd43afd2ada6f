/-- the reference's items: their count, kinds, inputs in range -/
def okIt (st : St) : Prop := (0 ≤ (st.1 7).toInt ∧ (st.1 7).toInt ≤ 100) ∧ (∀ j, vp_in (st.2.1 20 j) 8) ∧ (∀ j, vp_in (st.2.1 24 j) 100) ∧ ∀ j, vp_in (st.2.1 25 j) 100
/-- the reference's counts, and what its arrays hold -/
def okM (st : St) : Prop := okC st ∧ okIt st ∧ (∀ j : Nat, -1 ≤ (st.2.1 0 j).toInt ∧ (st.2.1 0 j).toInt < j) ∧ ∀ j, st.2.1 5 j = 0 ∨ st.2.1 5 j = 1
theorem okM_kind {st : St} (h : okM st) (j : Nat) : vp_in (st.2.1 20 j) 8 := h.2.1.2.1 j
theorem okM_fst {st : St} (h : okM st) (j : Nat) : vp_in (st.2.1 24 j) 100 := h.2.1.2.2.1 j
theorem okM_snd {st : St} (h : okM st) (j : Nat) : vp_in (st.2.1 25 j) 100 := h.2.1.2.2.2 j
theorem okIt_kind {st : St} (h : okIt st) (j : Nat) : vp_in (st.2.1 20 j) 8 := h.2.1 j
theorem okIt_fst {st : St} (h : okIt st) (j : Nat) : vp_in (st.2.1 24 j) 100 := h.2.2.1 j
theorem okIt_snd {st : St} (h : okIt st) (j : Nat) : vp_in (st.2.1 25 j) 100 := h.2.2.2 j
theorem okM_par {st : St} (h : okM st) (j : Nat) : -1 ≤ (st.2.1 0 j).toInt ∧ (st.2.1 0 j).toInt < j := h.2.2.1 j
theorem okM_says {st : St} (h : okM st) (j : Nat) : st.2.1 5 j = 0 ∨ st.2.1 5 j = 1 := h.2.2.2 j
theorem nar_bool {v : Int32} (h : v = 0 ∨ v = 1) : narrow .boolean (.int v) = .int v := by
  rcases h with h | h <;> rw [h] <;> rfl
theorem okIt_7 {st : St} (h : okIt st) : 0 ≤ (st.1 7).toInt ∧ (st.1 7).toInt ≤ 100 := h.1
theorem clamp_I (x : Int32) : 0 ≤ x.toInt → (x.toNatClampNeg : Int) = x.toInt := by
  intro h
  have e : x.toNatClampNeg = x.toInt.toNat := rfl
  rw [e]
  omega

theorem okM_0 {st : St} (h : okM st) : 0 ≤ (st.1 0).toInt ∧ (st.1 0).toInt ≤ 16 := okC_0 h.1
theorem okM_1 {st : St} (h : okM st) : 0 ≤ (st.1 1).toInt ∧ (st.1 1).toInt ≤ 8 := okC_1 h.1
theorem okM_2 {st : St} (h : okM st) : 0 ≤ (st.1 2).toInt ∧ (st.1 2).toInt ≤ 100 := okC_2 h.1
theorem okM_3 {st : St} (h : okM st) : 0 ≤ (st.1 3).toInt ∧ (st.1 3).toInt ≤ 40 := okC_3 h.1
theorem okM_4 {st : St} (h : okM st) : 0 ≤ (st.1 4).toInt ∧ (st.1 4).toInt ≤ 20 := okC_4 h.1
theorem okM_5 {st : St} (h : okM st) : 0 ≤ (st.1 5).toInt ∧ (st.1 5).toInt ≤ 60 := okC_5 h.1
theorem okM_6 {st : St} (h : okM st) : 0 ≤ (st.1 6).toInt ∧ (st.1 6).toInt ≤ 30 := okC_6 h.1
theorem okM_7 {st : St} (h : okM st) : 0 ≤ (st.1 7).toInt ∧ (st.1 7).toInt ≤ 100 := okC_7 h.1
theorem okM_8 {st : St} (h : okM st) : 0 ≤ (st.1 8).toInt ∧ (st.1 8).toInt ≤ 200 := okC_8 h.1

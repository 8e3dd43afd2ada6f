/-! calls that add a row -/
def capN (i : Nat) : Int := if i = 0 then 16 else if i = 1 then 8 else if i = 2 then 100 else if i = 3 then 40 else if i = 4 then 20 else if i = 5 then 60 else if i = 6 then 30 else if i = 7 then 100 else 200
theorem okC_put {s t : St} (h : okC s) (i : Nat) (hj : ∀ j, j < 9 → j ≠ i → t.1 j = s.1 j) (hb : 0 ≤ (t.1 i).toInt ∧ (t.1 i).toInt ≤ capN i) : okC t := by
  have key : ∀ j, j < 9 → (0 ≤ (s.1 j).toInt ∧ (s.1 j).toInt ≤ capN j) → (0 ≤ (t.1 j).toInt ∧ (t.1 j).toInt ≤ capN j) := by
    intro j hj9 hs
    by_cases e : j = i
    · rw [e]; exact hb
    · rw [hj j hj9 e]; exact hs
  obtain ⟨q0, q1, q2, q3, q4, q5, q6, q7, q8⟩ := h
  exact ⟨key 0 (by decide) q0, key 1 (by decide) q1, key 2 (by decide) q2, key 3 (by decide) q3, key 4 (by decide) q4, key 5 (by decide) q5, key 6 (by decide) q6, key 7 (by decide) q7, key 8 (by decide) q8⟩
theorem fail_ref {c m : St} (h : Rel c m) (k : Int32) (hk : k ≠ 0) (v : Int32) : ((v, sI m 10 k) : Int32 × St).2.1 10 = ((k, 0, c) : Int32 × Int32 × St).1 ∧ (((k, 0, c) : Int32 × Int32 × St).1 = 0 → ((k, 0, c) : Int32 × Int32 × St).2.1 = ((v, sI m 10 k) : Int32 × St).1) ∧ Rel ((k, 0, c) : Int32 × Int32 × St).2.2 ((v, sI m 10 k) : Int32 × St).2 := ⟨rfl, fun e => absurd e hk, h.thr k⟩
theorem push_ref {c m st2 m2 : St} {cnt cnt2 N val val2 : Int32} (F : Int32 × St) (hF : F = if cnt < N then (val, st2) else (-1, c)) (h : Rel c m) (e : cnt = cnt2) (hN : cnt.toInt ≤ N.toInt)
    (hv : cnt < N → 0 ≤ val ∧ val = val2 ∧ m2.1 10 = 0 ∧ Rel st2 m2) :
    (if cnt2 = N then ((0 : Int32), sI m 10 2) else (val2, m2)).2.1 10 = (if 0 ≤ F.1 then ((0 : Int32), F.1, F.2) else (2, 0, F.2)).1 ∧
    ((if 0 ≤ F.1 then ((0 : Int32), F.1, F.2) else (2, 0, F.2)).1 = 0 → (if 0 ≤ F.1 then ((0 : Int32), F.1, F.2) else (2, 0, F.2)).2.1 = (if cnt2 = N then ((0 : Int32), sI m 10 2) else (val2, m2)).1) ∧
    Rel (if 0 ≤ F.1 then ((0 : Int32), F.1, F.2) else (2, 0, F.2)).2.2 (if cnt2 = N then ((0 : Int32), sI m 10 2) else (val2, m2)).2 := by
  by_cases hl : cnt < N
  · obtain ⟨v1, v2, v3, v4⟩ := hv hl
    have hne : ¬ cnt2 = N := fun q => by rw [← e] at q; rw [q, z_lt] at hl; omega
    rw [if_pos hl] at hF
    subst hF
    simp only [if_pos v1, if_neg hne]
    exact ⟨v3, fun _ => v2, v4⟩
  · have hne : cnt2 = N := by rw [← e, z_eq]; rw [z_lt] at hl; omega
    rw [if_neg hl] at hF
    subst hF
    have v1 : ¬ (0 : Int32) ≤ -1 := by decide
    simp only [if_neg v1, if_pos hne]
    exact ⟨rfl, fun q => absurd q (by decide), h.thr 2⟩
theorem upd_eq (f : Nat → Int32) (i j : Nat) (v : Int32) : upd f i v j = if j = i then v else f j := rfl
/-- a count below its bound: its number, and what follows it -/
theorem cnt_lt {x N : Int32} {B : Nat} (h : 0 ≤ x.toInt ∧ x.toInt ≤ B) (hN : N.toInt = B) (hB : B ≤ 1000) (hl : x < N) : ∃ n : Nat, n < B ∧ x = nI n ∧ x.toNatClampNeg = n ∧ x + 1 = nI (n + 1) ∧ x + 1 - 1 = nI n ∧ (x + 1).toInt = n + 1 := by
  rw [z_lt] at hl
  refine ⟨x.toInt.toNat, by omega, ?_⟩
  have e : x = nI x.toInt.toNat := by rw [z_eq, nI_toInt (by omega)]; omega
  have e1 : x + 1 = nI (x.toInt.toNat + 1) := by rw [nI_succ, ← e]
  exact ⟨e, rfl, e1, by rw [e1, nI_pred], by rw [e1, nI_toInt (by omega)]; omega⟩
theorem ref_kind {c m : St} (h : Rel c m) (a1 : Int32) : (sp_X10_kind m a1).2.1 10 = (sp_X9_kind c a1).1 ∧ ((sp_X9_kind c a1).1 = 0 → (sp_X9_kind c a1).2.1 = (sp_X10_kind m a1).1) ∧ Rel (sp_X9_kind c a1).2.2 (sp_X10_kind m a1).2 := by
  have e := h.1.i 1
  have b := okC_1 h.1.okC
  unfold sp_X9_kind sp_X10_kind
  rw [span_in]
  by_cases g1 : sp_X10_in a1 1 5000 = 0
  · simp only [if_pos g1]; exact ⟨rfl, fun e => absurd e (by decide), h.thr 1⟩
  · simp only [if_neg g1]
    have hin := (f_X10_in a1 1 5000).resolve_left g1
    rw [z1, z5000] at hin
    refine push_ref (sp_X6_add c a1) rfl h e (by rw [show (8 : Int32).toInt = 8 from by decide]; omega) (fun hl => ?_)
    obtain ⟨n, hn, en, ec, e1, e2, e3⟩ := cnt_lt (B := 8) b (by decide) (by decide) hl
    refine ⟨by rw [e2]; exact nI_pos' (by omega), by rw [e], rfl, ?_⟩
    obtain ⟨⟨h1, h2, h3, h4, h5, h6, h7, h8, h9, h10, h11⟩, hv⟩ := h
    rw [e] at e3 ec
    have eM : (m.1 1).toInt = n := by rw [← e, en, nI_toInt (by omega)]
    have tC : (m.1 1 + 1).toInt = (n : Int) + 1 := e3
    refine ⟨⟨okC_put h1 1 (fun j _ hj => ?_) ?_, ⟨okC_put h2.1 1 (fun j h9 hj => ?_) ?_, h2.2⟩, h3, ?_, ?_, h6, h7, ?_, h9, h10, ?_⟩, hv⟩
    · show (if j = 1 then _ else c.1 j) = c.1 j
      rw [if_neg hj]
    · show 0 ≤ (c.1 1 + 1).toInt ∧ (c.1 1 + 1).toInt ≤ 8
      rw [e]; omega
    · show (if j = 1 then _ else (if j = 10 then _ else m.1 j)) = m.1 j
      rw [if_neg hj, if_neg (by omega)]
    · show 0 ≤ (m.1 1 + 1).toInt ∧ (m.1 1 + 1).toInt ≤ 8
      omega
    · rw [e]; exact (CR.thr (h4.left rfl) 0).put 1 _
    · rw [e]; exact (h5.right (m2 := sI m 10 0) rfl).put 1 (by unfold shA; decide) _ _
    · intro i hi
      obtain ⟨q1, q2, q3, q4, q5, q6⟩ := h8 i hi
      refine ⟨q1, q2, q3, q4, ?_, q6⟩
      show (m.2.1 20 i).toInt < (m.1 1 + 1).toInt
      omega
    · obtain ⟨t1, t2, t3, t4⟩ := h11
      refine ⟨t1, t2, t3, fun i hi => ?_⟩
      have hi2 : (i : Int) < (m.1 1 + 1).toInt := hi
      show 1 ≤ (upd (m.2.1 1) (m.1 1).toNatClampNeg a1 i).toInt ∧ (upd (m.2.1 1) (m.1 1).toNatClampNeg a1 i).toInt ≤ 5000
      rw [upd_eq, ec]
      by_cases q : i = n
      · rw [if_pos q]; omega
      · rw [if_neg q]
        exact t4 i (by omega)
theorem ref_consent {c m : St} (h : Rel c m) (a1 a2 a3 a4 : Int32) (hy : a3 = 0 ∨ a3 = 1) : (sp_X10_consent m a1 a2 a3 a4).2.1 10 = (sp_X9_consent c a1 a2 a3 a4).1 ∧ ((sp_X9_consent c a1 a2 a3 a4).1 = 0 → (sp_X9_consent c a1 a2 a3 a4).2.1 = (sp_X10_consent m a1 a2 a3 a4).1) ∧ Rel (sp_X9_consent c a1 a2 a3 a4).2.2 (sp_X10_consent m a1 a2 a3 a4).2 := by
  have e := h.1.i 2
  have b := okC_2 h.1.okC
  unfold sp_X9_consent sp_X10_consent
  rw [per_in, has8 h.1, min_in]
  by_cases g1 : sp_X10_isPerson a1 = 0
  · simp only [if_pos g1]; exact ⟨rfl, fun e => absurd e (by decide), h.thr 1⟩
  by_cases g2 : sp_X10_isPurpose m a2 = 0
  · simp only [if_neg g1, if_pos g2]; exact ⟨rfl, fun e => absurd e (by decide), h.thr 1⟩
  by_cases g3 : sp_X10_isMinute a4 = 0
  · simp only [if_neg g1, if_neg g2, if_pos g3]; exact ⟨rfl, fun e => absurd e (by decide), h.thr 1⟩
  simp only [if_neg g1, if_neg g2, if_neg g3]
  have hin := (f_X10_isPurpose m a2 h.1.okM).resolve_left g2
  refine push_ref (sp_X0_add c a1 a2 a3 a4) rfl h e (by rw [z100]; omega) (fun hl => ?_)
  obtain ⟨n, hn, en, ec, e1, e2, e3⟩ := cnt_lt (B := 100) b (by decide) (by decide) hl
  refine ⟨by rw [e1]; exact nI_pos' (by omega), by rw [e], rfl, ?_⟩
  obtain ⟨⟨h1, h2, h3, h4, h5, h6, h7, h8, h9, h10, h11⟩, hv⟩ := h
  rw [e] at e3 ec
  have eM : (m.1 2).toInt = n := by rw [← e, en, nI_toInt (by omega)]
  have nb : vp_nar .boolean a3 = a3 := by unfold vp_nar; rw [nar_bool hy]
  refine ⟨⟨okC_put h1 2 (fun j _ hj => ?_) ?_, ⟨okC_put h2.1 2 (fun j h9 hj => ?_) ?_, h2.2.1, h2.2.2.1, fun j => ?_⟩, h3, ?_, ?_, h6, h7, h8, h9, h10, ?_⟩, hv⟩
  · show (if j = 2 then _ else c.1 j) = c.1 j
    rw [if_neg hj]
  · show 0 ≤ (c.1 2 + 1).toInt ∧ (c.1 2 + 1).toInt ≤ 100
    rw [e]; omega
  · show (if j = 2 then _ else (if j = 10 then _ else m.1 j)) = m.1 j
    rw [if_neg hj, if_neg (by omega)]
  · show 0 ≤ (m.1 2 + 1).toInt ∧ (m.1 2 + 1).toInt ≤ 100
    omega
  · show upd (m.2.1 5) (m.1 2).toNatClampNeg (vp_nar .boolean a3) j = 0 ∨ upd (m.2.1 5) (m.1 2).toNatClampNeg (vp_nar .boolean a3) j = 1
    rw [upd_eq]
    by_cases q : j = (m.1 2).toNatClampNeg
    · rw [if_pos q, nb]; exact hy
    · rw [if_neg q]; exact h2.2.2.2 j
  · rw [e]; exact (CR.thr (h4.left rfl) 0).put 2 _
  · rw [e]; exact ((((h5.right (m2 := sI m 10 0) rfl).put 2 (by unfold shA; decide) _ _).put 3 (by unfold shA; decide) _ _).put 4 (by unfold shA; decide) _ _).put 5 (by unfold shA; decide) _ _
  · obtain ⟨t1, t2, t3, t4⟩ := h11
    refine ⟨fun i hi => ?_, t2, t3, t4⟩
    have hi2 : (i : Int) < (m.1 2 + 1).toInt := hi
    show 0 ≤ (upd (m.2.1 3) (m.1 2).toNatClampNeg a2 i).toInt ∧ (upd (m.2.1 3) (m.1 2).toNatClampNeg a2 i).toInt < (m.1 0).toInt
    rw [upd_eq, ec]
    by_cases q : i = n
    · rw [if_pos q]; omega
    · rw [if_neg q]
      exact t1 i (by omega)
theorem ref_contract {c m : St} (h : Rel c m) (a1 a2 a3 a4 : Int32) : (sp_X10_contract m a1 a2 a3 a4).2.1 10 = (sp_X9_contract c a1 a2 a3 a4).1 ∧ ((sp_X9_contract c a1 a2 a3 a4).1 = 0 → (sp_X9_contract c a1 a2 a3 a4).2.1 = (sp_X10_contract m a1 a2 a3 a4).1) ∧ Rel (sp_X9_contract c a1 a2 a3 a4).2.2 (sp_X10_contract m a1 a2 a3 a4).2 := by
  have e := h.1.i 3
  have b := okC_3 h.1.okC
  unfold sp_X9_contract sp_X10_contract
  rw [per_in, has8 h.1, min_in, min_in]
  by_cases g1 : sp_X10_isPerson a1 = 0
  · simp only [if_pos g1]; exact ⟨rfl, fun e => absurd e (by decide), h.thr 1⟩
  by_cases g2 : sp_X10_isPurpose m a2 = 0
  · simp only [if_neg g1, if_pos g2]; exact ⟨rfl, fun e => absurd e (by decide), h.thr 1⟩
  by_cases g3 : sp_X10_isMinute a3 = 0
  · simp only [if_neg g1, if_neg g2, if_pos g3]; exact ⟨rfl, fun e => absurd e (by decide), h.thr 1⟩
  by_cases g4 : sp_X10_isMinute a4 = 0
  · simp only [if_neg g1, if_neg g2, if_neg g3, if_pos g4]; exact ⟨rfl, fun e => absurd e (by decide), h.thr 1⟩
  by_cases g5 : a3 ≤ a4
  case neg => simp only [if_neg g1, if_neg g2, if_neg g3, if_neg g4, if_neg g5]; exact ⟨rfl, fun e => absurd e (by decide), h.thr 1⟩
  simp only [if_neg g1, if_neg g2, if_neg g3, if_neg g4, if_pos g5]
  have hin := (f_X10_isPurpose m a2 h.1.okM).resolve_left g2
  refine push_ref (sp_X1_add c a1 a2 a3 a4) rfl h e (by rw [show (40 : Int32).toInt = 40 from by decide]; omega) (fun hl => ?_)
  obtain ⟨n, hn, en, ec, e1, e2, e3⟩ := cnt_lt (B := 40) b (by decide) (by decide) hl
  refine ⟨by rw [e1]; exact nI_pos' (by omega), by rw [e], rfl, ?_⟩
  obtain ⟨⟨h1, h2, h3, h4, h5, h6, h7, h8, h9, h10, h11⟩, hv⟩ := h
  rw [e] at e3 ec
  have eM : (m.1 3).toInt = n := by rw [← e, en, nI_toInt (by omega)]
  refine ⟨⟨okC_put h1 3 (fun j _ hj => ?_) ?_, ⟨okC_put h2.1 3 (fun j h9 hj => ?_) ?_, h2.2⟩, h3, ?_, ?_, h6, h7, h8, h9, h10, ?_⟩, hv⟩
  · show (if j = 3 then _ else c.1 j) = c.1 j
    rw [if_neg hj]
  · show 0 ≤ (c.1 3 + 1).toInt ∧ (c.1 3 + 1).toInt ≤ 40
    rw [e]; omega
  · show (if j = 3 then _ else (if j = 10 then _ else m.1 j)) = m.1 j
    rw [if_neg hj, if_neg (by omega)]
  · show 0 ≤ (m.1 3 + 1).toInt ∧ (m.1 3 + 1).toInt ≤ 40
    omega
  · rw [e]; exact (CR.thr (h4.left rfl) 0).put 3 _
  · rw [e]; exact ((((h5.right (m2 := sI m 10 0) rfl).put 6 (by unfold shA; decide) _ _).put 7 (by unfold shA; decide) _ _).put 8 (by unfold shA; decide) _ _).put 9 (by unfold shA; decide) _ _
  · obtain ⟨t1, t2, t3, t4⟩ := h11
    refine ⟨t1, fun i hi => ?_, t3, t4⟩
    have hi2 : (i : Int) < (m.1 3 + 1).toInt := hi
    show 0 ≤ (upd (m.2.1 7) (m.1 3).toNatClampNeg a2 i).toInt ∧ (upd (m.2.1 7) (m.1 3).toNatClampNeg a2 i).toInt < (m.1 0).toInt
    rw [upd_eq, ec]
    by_cases q : i = n
    · rw [if_pos q]; omega
    · rw [if_neg q]
      exact t2 i (by omega)
theorem ref_duty {c m : St} (h : Rel c m) (a1 a2 a3 : Int32) : (sp_X10_duty m a1 a2 a3).2.1 10 = (sp_X9_duty c a1 a2 a3).1 ∧ ((sp_X9_duty c a1 a2 a3).1 = 0 → (sp_X9_duty c a1 a2 a3).2.1 = (sp_X10_duty m a1 a2 a3).1) ∧ Rel (sp_X9_duty c a1 a2 a3).2.2 (sp_X10_duty m a1 a2 a3).2 := by
  have e := h.1.i 4
  have b := okC_4 h.1.okC
  unfold sp_X9_duty sp_X10_duty
  rw [has6 h.1, has8 h.1, span_in]
  by_cases g1 : sp_X10_isKind m a1 = 0
  · simp only [if_pos g1]; exact ⟨rfl, fun e => absurd e (by decide), h.thr 1⟩
  by_cases g2 : sp_X10_isPurpose m a2 = 0
  · simp only [if_neg g1, if_pos g2]; exact ⟨rfl, fun e => absurd e (by decide), h.thr 1⟩
  by_cases g3 : sp_X10_in a3 1 5000 = 0
  · simp only [if_neg g1, if_neg g2, if_pos g3]; exact ⟨rfl, fun e => absurd e (by decide), h.thr 1⟩
  simp only [if_neg g1, if_neg g2, if_neg g3]
  refine push_ref (sp_X2_add c a1 a2 a3) rfl h e (by rw [show (20 : Int32).toInt = 20 from by decide]; omega) (fun hl => ?_)
  obtain ⟨n, hn, en, ec, e1, e2, e3⟩ := cnt_lt (B := 20) b (by decide) (by decide) hl
  refine ⟨by rw [e1]; exact nI_pos' (by omega), by rw [e], rfl, ?_⟩
  obtain ⟨⟨h1, h2, h3, h4, h5, h6, h7, h8, h9, h10, h11⟩, hv⟩ := h
  rw [e] at e3 ec
  have eM : (m.1 4).toInt = n := by rw [← e, en, nI_toInt (by omega)]
  refine ⟨⟨okC_put h1 4 (fun j _ hj => ?_) ?_, ⟨okC_put h2.1 4 (fun j h9 hj => ?_) ?_, h2.2⟩, h3, ?_, ?_, h6, h7, h8, h9, h10, h11⟩, hv⟩
  · show (if j = 4 then _ else c.1 j) = c.1 j
    rw [if_neg hj]
  · show 0 ≤ (c.1 4 + 1).toInt ∧ (c.1 4 + 1).toInt ≤ 20
    rw [e]; omega
  · show (if j = 4 then _ else (if j = 10 then _ else m.1 j)) = m.1 j
    rw [if_neg hj, if_neg (by omega)]
  · show 0 ≤ (m.1 4 + 1).toInt ∧ (m.1 4 + 1).toInt ≤ 20
    omega
  · rw [e]; exact (CR.thr (h4.left rfl) 0).put 4 _
  · rw [e]; exact (((h5.right (m2 := sI m 10 0) rfl).put 10 (by unfold shA; decide) _ _).put 11 (by unfold shA; decide) _ _).put 12 (by unfold shA; decide) _ _
theorem ref_event {c m : St} (h : Rel c m) (a1 a2 a3 : Int32) : (sp_X10_event m a1 a2 a3).2.1 10 = (sp_X9_event c a1 a2 a3).1 ∧ ((sp_X9_event c a1 a2 a3).1 = 0 → (sp_X9_event c a1 a2 a3).2.1 = (sp_X10_event m a1 a2 a3).1) ∧ Rel (sp_X9_event c a1 a2 a3).2.2 (sp_X10_event m a1 a2 a3).2 := by
  have e := h.1.i 5
  have b := okC_5 h.1.okC
  unfold sp_X9_event sp_X10_event
  rw [per_in, has6 h.1, day_in]
  by_cases g1 : sp_X10_isPerson a1 = 0
  · simp only [if_pos g1]; exact ⟨rfl, fun e => absurd e (by decide), h.thr 1⟩
  by_cases g2 : sp_X10_isKind m a2 = 0
  · simp only [if_neg g1, if_pos g2]; exact ⟨rfl, fun e => absurd e (by decide), h.thr 1⟩
  by_cases g3 : sp_X10_in a3 0 6944 = 0
  · simp only [if_neg g1, if_neg g2, if_pos g3]; exact ⟨rfl, fun e => absurd e (by decide), h.thr 1⟩
  simp only [if_neg g1, if_neg g2, if_neg g3]
  have hin := (f_X10_in a3 0 6944).resolve_left g3
  rw [z0, z6944] at hin
  refine push_ref (sp_X3_add c a1 a2 a3) rfl h e (by rw [show (60 : Int32).toInt = 60 from by decide]; omega) (fun hl => ?_)
  obtain ⟨n, hn, en, ec, e1, e2, e3⟩ := cnt_lt (B := 60) b (by decide) (by decide) hl
  refine ⟨by rw [e1]; exact nI_pos' (by omega), by rw [e], rfl, ?_⟩
  obtain ⟨⟨h1, h2, h3, h4, h5, h6, h7, h8, h9, h10, h11⟩, hv⟩ := h
  rw [e] at e3 ec
  have eM : (m.1 5).toInt = n := by rw [← e, en, nI_toInt (by omega)]
  refine ⟨⟨okC_put h1 5 (fun j _ hj => ?_) ?_, ⟨okC_put h2.1 5 (fun j h9 hj => ?_) ?_, h2.2⟩, h3, ?_, ?_, h6, h7, h8, h9, h10, ?_⟩, hv⟩
  · show (if j = 5 then _ else c.1 j) = c.1 j
    rw [if_neg hj]
  · show 0 ≤ (c.1 5 + 1).toInt ∧ (c.1 5 + 1).toInt ≤ 60
    rw [e]; omega
  · show (if j = 5 then _ else (if j = 10 then _ else m.1 j)) = m.1 j
    rw [if_neg hj, if_neg (by omega)]
  · show 0 ≤ (m.1 5 + 1).toInt ∧ (m.1 5 + 1).toInt ≤ 60
    omega
  · rw [e]; exact (CR.thr (h4.left rfl) 0).put 5 _
  · rw [e]; exact (((h5.right (m2 := sI m 10 0) rfl).put 13 (by unfold shA; decide) _ _).put 14 (by unfold shA; decide) _ _).put 15 (by unfold shA; decide) _ _
  · obtain ⟨t1, t2, t3, t4⟩ := h11
    refine ⟨t1, t2, fun i hi => ?_, t4⟩
    have hi2 : (i : Int) < (m.1 5 + 1).toInt := hi
    show 0 ≤ (upd (m.2.1 15) (m.1 5).toNatClampNeg a3 i).toInt ∧ (upd (m.2.1 15) (m.1 5).toNatClampNeg a3 i).toInt ≤ 6944
    rw [upd_eq, ec]
    by_cases q : i = n
    · rw [if_pos q]; omega
    · rw [if_neg q]
      exact t3 i (by omega)

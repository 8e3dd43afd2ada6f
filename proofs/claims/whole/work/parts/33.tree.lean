/-! the tree of purposes; holds; plain questions -/
theorem i32_lt (x : Int32) : x.toInt < 2147483648 := by have := Int32.toInt_lt x; omega
theorem i32_ge (x : Int32) : -2147483648 ≤ x.toInt := by have := Int32.le_toInt x; omega
theorem sub100 (a : Int32) (h : 100 ≤ a.toInt) : (a - 100).toInt = a.toInt - 100 := by
  rw [Int32.toInt_sub, z100]
  have := i32_lt a
  exact Int.bmod_eq_of_le (by omega) (by omega)
theorem tnc (x : Int32) : x.toNatClampNeg = x.toInt.toNat := rfl
theorem anc_s (par : Nat → Int32) (u : Int32) (n : Nat) (x : Int32) : anc par u (n + 1) x = if x < 0 then false else if x = u then true else anc par u n (par x.toNatClampNeg) := rfl
theorem anc_le {par : Nat → Int32} (hp : ∀ j : Nat, (par j).toInt < j) (u : Int32) : ∀ (n : Nat) (x : Int32), anc par u n x = true → 0 ≤ u.toInt ∧ u.toInt ≤ x.toInt := by
  intro n
  induction n with
  | zero => intro x h; exact absurd h (by simp [anc])
  | succ n ih =>
    intro x h
    rw [anc] at h
    by_cases h1 : x < 0
    · rw [if_pos h1] at h; exact absurd h (by decide)
    · rw [if_neg h1] at h
      rw [z_lt, z0] at h1
      by_cases h2 : x = u
      · rw [← h2]; omega
      · rw [if_neg h2] at h
        have h3 := ih _ h
        have h4 := hp x.toNatClampNeg
        rw [tnc] at h3 h4
        omega
theorem anc_cong {par par' : Nat → Int32} {u : Int32} (k : Nat) (hp : ∀ j : Nat, (par j).toInt < j) (h : ∀ j, j < k → par' j = par j) : ∀ (n : Nat) (x : Int32), x.toInt < k → anc par' u n x = anc par u n x := by
  intro n
  induction n with
  | zero => intro x _; rfl
  | succ n ih =>
    intro x hx
    rw [anc, anc]
    by_cases h1 : x < 0
    · rw [if_pos h1, if_pos h1]
    · rw [if_neg h1, if_neg h1]
      rw [z_lt, z0] at h1
      by_cases h2 : x = u
      · rw [if_pos h2, if_pos h2]
      · rw [if_neg h2, if_neg h2]
        have h5 : x.toNatClampNeg < k := by rw [tnc]; omega
        rw [h _ h5]
        have h4 := hp x.toNatClampNeg
        exact ih _ (by omega)
theorem anc_fuel {par : Nat → Int32} {u : Int32} (hp : ∀ j : Nat, (par j).toInt < j) : ∀ (n : Nat) (x : Int32), x.toInt < n → anc par u (n + 1) x = anc par u n x := by
  intro n
  induction n with
  | zero =>
    intro x hx
    have h0 : x < 0 := by rw [z_lt, z0]; omega
    show anc par u 1 x = false
    rw [anc_s par u 0 x, if_pos h0]
  | succ n ih =>
    intro x hx
    rw [anc_s par u (n + 1) x, anc_s par u n x]
    by_cases h1 : x < 0
    · rw [if_pos h1, if_pos h1]
    · rw [if_neg h1, if_neg h1]
      rw [z_lt, z0] at h1
      by_cases h2 : x = u
      · rw [if_pos h2, if_pos h2]
      · rw [if_neg h2, if_neg h2]
        have h4 := hp x.toNatClampNeg
        rw [tnc] at h4 ⊢
        exact ih _ (by omega)
theorem tree_new {up par : Nat → Int32} {x a : Int32} {n : Nat} (h : Tree up par x) (ex : x = nI n) (hn : n < 16) (hp : ∀ j : Nat, (par j).toInt < j) (ha : 0 ≤ a.toInt ∧ a.toInt < n) :
    Tree (upd up n (up a.toNatClampNeg ||| (1 <<< (x &&& 31)))) (upd par n a) (x + 1) := by
  intro u p hu hpn
  have e1 : (x + 1).toInt = n + 1 := by rw [ex, ← nI_succ, nI_toInt (by omega)]; omega
  have e0 : x.toInt = n := by rw [ex, nI_toInt (by omega)]
  rw [e1] at hpn
  have hc : ∀ j, j < n → upd par n a j = par j := fun j hj => by rw [upd_eq, if_neg (by omega)]
  by_cases q : p = n
  · subst q
    have t := h u a.toNatClampNeg hu (by rw [e0, tnc]; omega)
    have ea : nI a.toNatClampNeg = a := by rw [z_eq, nI_toInt (by rw [tnc]; omega), tnc]; omega
    rw [ea] at t
    rw [upd_eq, if_pos rfl, ex, bit_or _ (by omega) (by omega), t, anc_s (upd par p a) (nI u) 17 (nI p), if_neg (nI_pos (by omega)), nI_clamp (by omega), upd_eq, if_pos rfl]
    rw [anc_cong p hp hc 17 a ha.2, ← anc_fuel hp 17 a (by omega)]
    by_cases w : u = p
    · subst w
      rw [if_pos rfl]
      exact ⟨fun _ => rfl, fun _ => Or.inl rfl⟩
    · rw [if_neg (fun z => w ((nI_eq (by omega) (by omega)).mp z).symm)]
      exact ⟨fun z => z.resolve_left w, Or.inr⟩
  · rw [upd_eq, if_neg q, anc_cong n hp hc 18 (nI p) (by rw [nI_toInt (by omega)]; omega)]
    exact h u p hu (by rw [e0]; omega)
theorem ref_purpose {c m : St} (h : Rel c m) (a1 : Int32) : (sp_X10_purpose m a1).2.1 10 = (sp_X9_purpose c a1).1 ∧ ((sp_X9_purpose c a1).1 = 0 → (sp_X9_purpose c a1).2.1 = (sp_X10_purpose m a1).1) ∧ Rel (sp_X9_purpose c a1).2.2 (sp_X10_purpose m a1).2 := by
  have e := h.1.i 0
  have b := okC_0 h.1.okC
  have e8 := has8 h.1 a1
  unfold sp_X9_purpose sp_X10_purpose
  rw [e8]
  by_cases g1 : sp_X10_isPurpose m a1 = 0
  · simp only [if_pos g1]; exact ⟨rfl, fun e => absurd e (by decide), h.thr 1⟩
  simp only [if_neg g1]
  have hin := (f_X10_isPurpose m a1 h.1.okM).resolve_left g1
  refine push_ref (cnt := c.1 0) (N := 16) (val := c.1 0 + 1 - 1) (st2 := sI (sA c 0 ((c.1 0).toNatClampNeg) ((c.2.1 0 a1.toNatClampNeg) ||| (1 <<< ((c.1 0) &&& 31)))) 0 ((c.1 0) + 1)) (sp_X8_add c a1) ?_ h e (by rw [z16]; omega) (fun hl => ?_)
  · unfold sp_X8_add
    rw [e8, if_neg g1]
    by_cases q : (16 : Int32) ≤ c.1 0
    · rw [if_pos q, if_neg (by rw [z_lt]; rw [z_le] at q; omega)]
    · rw [if_neg q, if_pos (by rw [z_lt]; rw [z_le] at q; omega)]
  obtain ⟨n, hn, en, ec, e1, e2, e3⟩ := cnt_lt (B := 16) b (by decide) (by decide) hl
  refine ⟨by rw [e2]; exact nI_pos' (by omega), by rw [e], rfl, ?_⟩
  obtain ⟨⟨h1, h2, h3, h4, h5, h6, h7, h8, h9, h10, h11⟩, hv⟩ := h
  rw [e] at e3 ec
  have eM : (m.1 0).toInt = n := by rw [← e, en, nI_toInt (by omega)]
  refine ⟨⟨okC_put h1 0 (fun j _ hj => ?_) ?_, ⟨okC_put h2.1 0 (fun j h9 hj => ?_) ?_, h2.2.1, fun j => ?_, h2.2.2.2⟩, ?_, ?_, ?_, ?_, h7, h8, h9, h10, ?_⟩, hv⟩
  · show (if j = 0 then _ else c.1 j) = c.1 j
    rw [if_neg hj]
  · show 0 ≤ (c.1 0 + 1).toInt ∧ (c.1 0 + 1).toInt ≤ 16
    rw [e]; omega
  · show (if j = 0 then _ else (if j = 10 then _ else m.1 j)) = m.1 j
    rw [if_neg hj, if_neg (by omega)]
  · show 0 ≤ (m.1 0 + 1).toInt ∧ (m.1 0 + 1).toInt ≤ 16
    omega
  · show -1 ≤ (upd (m.2.1 0) (m.1 0).toNatClampNeg a1 j).toInt ∧ (upd (m.2.1 0) (m.1 0).toNatClampNeg a1 j).toInt < j
    rw [upd_eq, ec]
    by_cases q : j = n
    · rw [if_pos q]; omega
    · rw [if_neg q]; exact h2.2.2.1 j
  · show 1 ≤ (m.1 0 + 1).toInt
    omega
  · rw [e]; exact (CR.thr (h4.left rfl) 0).put 0 _
  · exact ((h5.right (m2 := sI m 10 0) rfl).putL 0 (fun z => absurd z.1 (by decide)) _ _).putR 0 (fun z => absurd z.1 (by decide)) _ _
  · show Tree (upd (c.2.1 0) (c.1 0).toNatClampNeg (c.2.1 0 a1.toNatClampNeg ||| (1 <<< (c.1 0 &&& 31)))) (upd (m.2.1 0) (m.1 0).toNatClampNeg a1) (m.1 0 + 1)
    rw [e, ec]
    exact tree_new h6 (by rw [← e]; exact en) hn (fun j => (h2.2.2.1 j).2) (by omega)
  · obtain ⟨t1, t2, t3, t4⟩ := h11
    refine ⟨fun i hi => ?_, fun i hi => ?_, t3, t4⟩
    · have t := t1 i hi
      show 0 ≤ (m.2.1 3 i).toInt ∧ (m.2.1 3 i).toInt < (m.1 0 + 1).toInt
      omega
    · have t := t2 i hi
      show 0 ≤ (m.2.1 7 i).toInt ∧ (m.2.1 7 i).toInt < (m.1 0 + 1).toInt
      omega
theorem hold_tail {c m : St} (h : Rel c m) (a1 a2 a3 : Int32) (ha : (0 ≤ a1.toInt ∧ a1.toInt < 16) ∨ (100 ≤ a1.toInt ∧ a1.toInt ≤ 107)) (hd : 0 ≤ a3.toInt) :
    (if m.1 6 = 30 then ((0 : Int32), sI m 10 2) else (((m.1 6) + 1) - 1, sI (sA (sA (sA (sA (sI m 10 0) 16 ((m.1 6).toNatClampNeg) a1) 17 ((m.1 6).toNatClampNeg) a2) 18 ((m.1 6).toNatClampNeg) a3) 19 ((m.1 6).toNatClampNeg) (-1)) 6 ((m.1 6) + 1))).2.1 10 = (if 0 ≤ (sp_X4_add c a1 a2 a3).1 then ((0 : Int32), (sp_X4_add c a1 a2 a3).1, (sp_X4_add c a1 a2 a3).2) else (2, 0, (sp_X4_add c a1 a2 a3).2)).1 ∧
    ((if 0 ≤ (sp_X4_add c a1 a2 a3).1 then ((0 : Int32), (sp_X4_add c a1 a2 a3).1, (sp_X4_add c a1 a2 a3).2) else (2, 0, (sp_X4_add c a1 a2 a3).2)).1 = 0 → (if 0 ≤ (sp_X4_add c a1 a2 a3).1 then ((0 : Int32), (sp_X4_add c a1 a2 a3).1, (sp_X4_add c a1 a2 a3).2) else (2, 0, (sp_X4_add c a1 a2 a3).2)).2.1 = (if m.1 6 = 30 then ((0 : Int32), sI m 10 2) else (((m.1 6) + 1) - 1, sI (sA (sA (sA (sA (sI m 10 0) 16 ((m.1 6).toNatClampNeg) a1) 17 ((m.1 6).toNatClampNeg) a2) 18 ((m.1 6).toNatClampNeg) a3) 19 ((m.1 6).toNatClampNeg) (-1)) 6 ((m.1 6) + 1))).1) ∧
    Rel (if 0 ≤ (sp_X4_add c a1 a2 a3).1 then ((0 : Int32), (sp_X4_add c a1 a2 a3).1, (sp_X4_add c a1 a2 a3).2) else (2, 0, (sp_X4_add c a1 a2 a3).2)).2.2 (if m.1 6 = 30 then ((0 : Int32), sI m 10 2) else (((m.1 6) + 1) - 1, sI (sA (sA (sA (sA (sI m 10 0) 16 ((m.1 6).toNatClampNeg) a1) 17 ((m.1 6).toNatClampNeg) a2) 18 ((m.1 6).toNatClampNeg) a3) 19 ((m.1 6).toNatClampNeg) (-1)) 6 ((m.1 6) + 1))).2 := by
  have e := h.1.i 6
  have b := okC_6 h.1.okC
  refine push_ref (sp_X4_add c a1 a2 a3) rfl h e (by rw [show (30 : Int32).toInt = 30 from by decide]; omega) (fun hl => ?_)
  obtain ⟨n, hn, en, ec, e1, e2, e3⟩ := cnt_lt (B := 30) b (by decide) (by decide) hl
  refine ⟨by rw [e2]; exact nI_pos' (by omega), by rw [e], rfl, ?_⟩
  obtain ⟨⟨h1, h2, h3, h4, h5, h6, h7, h8, h9, h10, h11⟩, hv⟩ := h
  rw [e] at e3 ec
  have eM : (m.1 6).toInt = n := by rw [← e, en, nI_toInt (by omega)]
  refine ⟨⟨okC_put h1 6 (fun j _ hj => ?_) ?_, ⟨okC_put h2.1 6 (fun j h9 hj => ?_) ?_, h2.2⟩, h3, ?_, ?_, h6, ?_, h8, h9, h10, h11⟩, hv⟩
  · show (if j = 6 then _ else c.1 j) = c.1 j
    rw [if_neg hj]
  · show 0 ≤ (c.1 6 + 1).toInt ∧ (c.1 6 + 1).toInt ≤ 30
    rw [e]; omega
  · show (if j = 6 then _ else (if j = 10 then _ else m.1 j)) = m.1 j
    rw [if_neg hj, if_neg (by omega)]
  · show 0 ≤ (m.1 6 + 1).toInt ∧ (m.1 6 + 1).toInt ≤ 30
    omega
  · rw [e]; exact (CR.thr (h4.left rfl) 0).put 6 _
  · rw [e]; exact (((((h5.right (m2 := sI m 10 0) rfl).put 16 (by unfold shA; decide) _ _).put 17 (by unfold shA; decide) _ _).put 18 (by unfold shA; decide) _ _).putL 19 (fun z => z.2.2.1 rfl) _ _).putR 19 (fun z => z.2.2.1 rfl) _ _
  · intro j hj
    have hj2 : (j : Int) < (m.1 6 + 1).toInt := hj
    show EndOK (upd (c.2.1 19) (c.1 6).toNatClampNeg 6945 j) (upd (m.2.1 19) (m.1 6).toNatClampNeg (-1) j) ∧ ((0 ≤ (upd (m.2.1 16) (m.1 6).toNatClampNeg a1 j).toInt ∧ (upd (m.2.1 16) (m.1 6).toNatClampNeg a1 j).toInt < 16) ∨ (100 ≤ (upd (m.2.1 16) (m.1 6).toNatClampNeg a1 j).toInt ∧ (upd (m.2.1 16) (m.1 6).toNatClampNeg a1 j).toInt ≤ 107)) ∧ 0 ≤ (upd (m.2.1 18) (m.1 6).toNatClampNeg a3 j).toInt
    rw [e, ec, upd_eq, upd_eq, upd_eq, upd_eq]
    by_cases q : j = n
    · rw [if_pos q, if_pos q, if_pos q, if_pos q]
      exact ⟨Or.inl ⟨by rw [zm1]; omega, rfl⟩, ha, hd⟩
    · rw [if_neg q, if_neg q, if_neg q, if_neg q]
      exact h7 j (by omega)
theorem ref_hold {c m : St} (h : Rel c m) (a1 a2 a3 : Int32) : (sp_X10_hold m a1 a2 a3).2.1 10 = (sp_X9_hold c a1 a2 a3).1 ∧ ((sp_X9_hold c a1 a2 a3).1 = 0 → (sp_X9_hold c a1 a2 a3).2.1 = (sp_X10_hold m a1 a2 a3).1) ∧ Rel (sp_X9_hold c a1 a2 a3).2.2 (sp_X10_hold m a1 a2 a3).2 := by
  unfold sp_X9_hold sp_X10_hold sp_X9_isMarkedKind
  rw [per_in, has8 h.1, day_in, has6 h.1]
  by_cases g1 : sp_X10_isPerson a1 = 0
  · simp only [if_pos g1]
    by_cases g4 : a1 < 100
    · simp only [if_pos g4, if_true]; exact ⟨rfl, fun e => absurd e (by decide), h.thr 1⟩
    simp only [if_neg g4]
    by_cases g5 : sp_X10_isKind m (a1 - 100) = 0
    · simp only [if_pos g5, if_true]; exact ⟨rfl, fun e => absurd e (by decide), h.thr 1⟩
    have w1 : ¬ (1 : Int32) = 0 := by decide
    simp only [if_neg g5, if_neg w1]
    by_cases g2 : sp_X10_isPurpose m a2 = 0
    · simp only [if_pos g2]; exact ⟨rfl, fun e => absurd e (by decide), h.thr 1⟩
    by_cases g3 : sp_X10_in a3 0 6944 = 0
    · simp only [if_neg g2, if_pos g3]; exact ⟨rfl, fun e => absurd e (by decide), h.thr 1⟩
    simp only [if_neg g2, if_neg g3]
    have hin := (f_X10_in a3 0 6944).resolve_left g3
    have hk := (f_X10_isKind m (a1 - 100) h.1.okM).resolve_left g5
    have bk := okM_1 h.1.okM
    rw [z_lt, z100] at g4
    rw [sub100 a1 (by omega)] at hk
    exact hold_tail h a1 a2 a3 (Or.inr (by omega)) (by rw [z0] at hin; omega)
  · simp only [if_neg g1]
    by_cases g2 : sp_X10_isPurpose m a2 = 0
    · simp only [if_pos g2]; exact ⟨rfl, fun e => absurd e (by decide), h.thr 1⟩
    by_cases g3 : sp_X10_in a3 0 6944 = 0
    · simp only [if_neg g2, if_pos g3]; exact ⟨rfl, fun e => absurd e (by decide), h.thr 1⟩
    simp only [if_neg g2, if_neg g3]
    have hin := (f_X10_in a3 0 6944).resolve_left g3
    have hp := (f_X10_in a1 0 15).resolve_left g1
    rw [z0, show (15 : Int32).toInt = 15 from by decide] at hp
    exact hold_tail h a1 a2 a3 (Or.inl (by omega)) (by rw [z0] at hin; omega)
theorem ref_lift {c m : St} (h : Rel c m) (a1 a2 : Int32) : (sp_X10_lift m a1 a2).1 10 = (sp_X9_lift c a1 a2).1 ∧ Rel (sp_X9_lift c a1 a2).2 (sp_X10_lift m a1 a2) := by
  have e := h.1.i 6
  have b := okM_6 h.1.okM
  unfold sp_X9_lift sp_X10_lift
  rw [has4 h.1]
  by_cases g1 : sp_X10_in a1 0 (m.1 6 - 1) = 0
  · simp only [if_pos g1]; exact ⟨rfl, h.thr 1⟩
  have hin := (f_X10_in a1 0 (m.1 6 - 1)).resolve_left g1
  have zz := sub_I (m.1 6) (by omega) (by omega)
  rw [z0, zz] at hin
  have g29 : ¬ sp_X10_in a1 0 29 = 0 := by
    unfold sp_X10_in
    rw [if_neg (by rw [z_lt, z0]; omega), if_neg (by rw [z_lt, show (29 : Int32).toInt = 29 from by decide]; omega)]
    decide
  have e4 : sp_X4_firstDayOf c a1 = m.2.1 18 a1.toNatClampNeg := by
    unfold sp_X4_firstDayOf
    rw [has4 h.1, if_neg g1, h.1.a 18]
  obtain ⟨hE, hO, hS⟩ := h.1.holds a1.toNatClampNeg (by rw [tnc]; omega)
  have e5 : (sp_X4_isLifted c a1 = 0) ↔ m.2.1 19 a1.toNatClampNeg < 0 := by
    unfold sp_X4_isLifted
    rw [has4 h.1, if_neg g1, if10, z_lt, z0]
    rcases hE with ⟨w1, w2⟩ | ⟨w1, w2, w3⟩
    · exact ⟨fun _ => w1, fun _ => w2⟩
    · rw [w3, z_eq, z6945]; omega
  have e6 : sp_X4_endOn c a1 a2 = sA c 19 a1.toNatClampNeg a2 := by
    unfold sp_X4_endOn
    rw [has4 h.1, if_neg g1]
  rw [e4, e6]
  simp only [if_neg g1, if_neg g29]
  by_cases g2 : a2 ≤ 6944
  · have g2' : ¬ (6944 : Int32) < a2 := by rw [z_lt]; rw [z_le] at g2; omega
    simp only [if_pos g2, if_neg g2']
    by_cases g3 : a2 < m.2.1 18 a1.toNatClampNeg
    · simp only [if_pos g3]; exact ⟨rfl, h.thr 1⟩
    simp only [if_neg g3]
    by_cases g4 : m.2.1 19 a1.toNatClampNeg < 0
    · simp only [if_pos g4, if_pos (e5.mpr g4)]
      refine ⟨rfl, ?_⟩
      obtain ⟨⟨h1, h2, h3, h4, h5, h6, h7, h8, h9, h10, h11⟩, hv⟩ := h
      refine ⟨⟨h1, h2, h3, h4.thr 0, ((h5.right (m2 := sI m 10 0) rfl).putL 19 (fun z => z.2.2.1 rfl) _ _).putR 19 (fun z => z.2.2.1 rfl) _ _, h6, ?_, h8, h9, h10, h11⟩, hv⟩
      intro j hj
      have t := h7 j hj
      show EndOK (upd (c.2.1 19) a1.toNatClampNeg a2 j) (upd (m.2.1 19) a1.toNatClampNeg a2 j) ∧ ((0 ≤ (m.2.1 16 j).toInt ∧ (m.2.1 16 j).toInt < 16) ∨ (100 ≤ (m.2.1 16 j).toInt ∧ (m.2.1 16 j).toInt ≤ 107)) ∧ 0 ≤ (m.2.1 18 j).toInt
      refine ⟨?_, t.2⟩
      rw [upd_eq, upd_eq]
      by_cases q : j = a1.toNatClampNeg
      · rw [if_pos q, if_pos q]
        rw [z_le, z6944] at g2
        rw [z_lt] at g3
        exact Or.inr ⟨by omega, g2, rfl⟩
      · rw [if_neg q, if_neg q]; exact t.1
    · simp only [if_neg g4, if_neg (fun z => g4 (e5.mp z))]
      exact ⟨rfl, h.thr 2⟩
  · have g2' : (6944 : Int32) < a2 := by rw [z_lt]; rw [z_le] at g2; omega
    simp only [if_neg g2, if_pos g2']
    by_cases g3 : a2 < m.2.1 18 a1.toNatClampNeg
    · simp only [if_pos g3]; exact ⟨rfl, h.thr 1⟩
    · simp only [if_neg g3]; exact ⟨rfl, h.thr 1⟩
theorem ref_why {c m : St} (h : Rel c m) : sp_X9_why c = (sp_X10_why m).1 ∧ Rel c (sp_X10_why m).2 := ⟨h.1.i 9, h.thr 0⟩
theorem ref_logged {c m : St} (h : Rel c m) (a1 a2 : Int32) : sp_X9_logged c a1 a2 = (sp_X10_logged m a1 a2).1 ∧ Rel c (sp_X10_logged m a1 a2).2 := by
  have b := okM_8 h.1.okM
  have hi := has_in (a := a1) (n := m.1 8) (by omega) (by omega)
  unfold sp_X9_logged sp_X7_read sp_X10_logged
  rw [← hi, h.1.i 8, h.1.a 29, h.1.a 30, h.1.a 31, h.1.a 32]
  by_cases g1 : a1 < 0
  · simp only [if_pos g1]; exact ⟨by trivial, h.thr 0⟩
  simp only [if_neg g1]
  by_cases g2 : a1 < m.1 8
  · have g3 : ¬ m.1 8 ≤ a1 := by rw [z_le]; rw [z_lt] at g2; omega
    have w1 : ¬ (1 : Int32) = 0 := by decide
    simp only [if_pos g2, if_neg g3, if_neg w1]
    by_cases k0 : a2 = 0
    · simp only [if_pos k0]; exact ⟨by trivial, h.thr 0⟩
    by_cases k1 : a2 = 1
    · simp only [if_neg k0, if_pos k1]; exact ⟨by trivial, h.thr 0⟩
    by_cases k2 : a2 = 2
    · simp only [if_neg k0, if_neg k1, if_pos k2]; exact ⟨by trivial, h.thr 0⟩
    by_cases k3 : a2 = 3
    · simp only [if_neg k0, if_neg k1, if_neg k2, if_pos k3]; exact ⟨by trivial, h.thr 0⟩
    · simp only [if_neg k0, if_neg k1, if_neg k2, if_neg k3]; exact ⟨by trivial, h.thr 0⟩
  · have g3 : m.1 8 ≤ a1 := by rw [z_le]; rw [z_lt] at g2; omega
    simp only [if_neg g2, if_pos g3]; exact ⟨by trivial, h.thr 0⟩

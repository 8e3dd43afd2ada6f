/-! values, questions about items, uses -/
theorem stepV_cong {how f s al al' w : Nat → Int32} {v v' : Nat → Int64} {i : Nat} (h0 : al i = al' i) (h1 : how i ≠ -1 → (al (f i).toNatClampNeg = al' (f i).toNatClampNeg ∧ (al (f i).toNatClampNeg ≠ 0 → v (f i).toNatClampNeg = v' (f i).toNatClampNeg)) ∧ (al (s i).toNatClampNeg = al' (s i).toNatClampNeg ∧ (al (s i).toNatClampNeg ≠ 0 → v (s i).toNatClampNeg = v' (s i).toNatClampNeg))) :
    stepV how f s al w v i = stepV how f s al' w v' i := by
  unfold stepV
  rw [h0]
  by_cases g0 : al' i = 0
  · rw [if_pos g0, if_pos g0]
  · rw [if_neg g0, if_neg g0]
    by_cases g1 : how i = -1
    · rw [if_pos g1, if_pos g1]
    · rw [if_neg g1, if_neg g1]
      obtain ⟨⟨a1, a2⟩, b1, b2⟩ := h1 g1
      have ea : (if al (f i).toNatClampNeg = 0 then 0 else v (f i).toNatClampNeg) = (if al' (f i).toNatClampNeg = 0 then 0 else v' (f i).toNatClampNeg) := by
        rw [← a1]
        by_cases q : al (f i).toNatClampNeg = 0
        · rw [if_pos q, if_pos q]
        · rw [if_neg q, if_neg q, a2 q]
      have eb : (if al (s i).toNatClampNeg = 0 then 0 else v (s i).toNatClampNeg) = (if al' (s i).toNatClampNeg = 0 then 0 else v' (s i).toNatClampNeg) := by
        rw [← b1]
        by_cases q : al (s i).toNatClampNeg = 0
        · rw [if_pos q, if_pos q]
        · rw [if_neg q, if_neg q, b2 q]
      rw [ea, eb]
/-- inputs come first -/
theorem inp_lt {m : St} (hk : okM m) (hi : ItemOK (m.1 7) (m.1 1) (m.2.1 23) (m.2.1 24) (m.2.1 25) (m.2.1 22) (m.2.1 21) (m.2.1 20) (m.2.1 26)) {i : Nat} (h : (i : Int) < (m.1 7).toInt) (hw : m.2.1 23 i ≠ -1) : (m.2.1 24 i).toNatClampNeg < i ∧ (m.2.1 25 i).toNatClampNeg < i := by
  have h1 := (hi i h).2.1 hw
  have h2 := vp_in_iff.mp (okM_fst hk i)
  have h3 := vp_in_iff.mp (okM_snd hk i)
  rw [tnc, tnc]
  omega
def ItemM (m : St) : Prop := ItemOK (m.1 7) (m.1 1) (m.2.1 23) (m.2.1 24) (m.2.1 25) (m.2.1 22) (m.2.1 21) (m.2.1 20) (m.2.1 26)
def stM (m : St) (v : Nat → Int64) (i : Nat) : Int64 := stepV (m.2.1 23) (m.2.1 24) (m.2.1 25) (m.2.1 26) (m.2.1 28) v i
theorem reckon_step (st s : St) (n k : Nat) (hk : k < 1000) (hN : ¬ s.1 7 ≤ nI k) (hw : s.2.1 23 k = -1 ∨ s.2.1 23 k = 0 ∨ s.2.1 23 k = 1 ∨ s.2.1 23 k = 2) : lp_X10_reckon_2 st (n + 1) s (nI k) = lp_X10_reckon_2 st n (sL s k (stM s s.2.2 k)) (nI (k + 1)) := by
  rw [lp_X10_reckon_2, if_neg hN, nI_succ]
  unfold jn_X10_reckon_49 jn_X10_reckon_89 jn_X10_reckon_171 stM stepV
  rw [nI_clamp (by omega)]
  have n0 : ¬ (0 : Int32) = -1 := by decide
  have n1 : ¬ (1 : Int32) = -1 := by decide
  have n2 : ¬ (2 : Int32) = -1 := by decide
  have n3 : ¬ (1 : Int32) = 0 := by decide
  have n4 : ¬ (2 : Int32) = 0 := by decide
  have n5 : ¬ (2 : Int32) = 1 := by decide
  rcases hw with hw | hw | hw | hw
  · by_cases a0 : s.2.1 26 k = 0
    · simp only [hw, a0, if_true]
    · simp only [hw, a0, if_true, if_false]
  · simp only [hw, n0, if_false, if_true]
    by_cases a0 : s.2.1 26 k = 0 <;> by_cases f0 : s.2.1 26 (s.2.1 24 k).toNatClampNeg = 0 <;> by_cases s0 : s.2.1 26 (s.2.1 25 k).toNatClampNeg = 0 <;> simp only [a0, f0, s0, if_true, if_false]
  · simp only [hw, n1, n3, if_false, if_true]
    by_cases a0 : s.2.1 26 k = 0 <;> by_cases f0 : s.2.1 26 (s.2.1 24 k).toNatClampNeg = 0 <;> by_cases s0 : s.2.1 26 (s.2.1 25 k).toNatClampNeg = 0 <;> simp only [a0, f0, s0, if_true, if_false]
  · simp only [hw, n2, n4, n5, if_false, if_true]
    by_cases a0 : s.2.1 26 k = 0 <;> by_cases f0 : s.2.1 26 (s.2.1 24 k).toNatClampNeg = 0 <;> by_cases s0 : s.2.1 26 (s.2.1 25 k).toNatClampNeg = 0 <;> simp only [a0, f0, s0, if_true, if_false] <;> split <;> rfl
theorem reckon_lp (m : St) (hk : okM m) (hi : ItemM m) {N : Nat} (hN : m.1 7 = nI N) (hN2 : N ≤ 100) : ∀ (n k : Nat) (s : St), k ≤ N → N < k + n → s.1 = m.1 → s.2.1 = m.2.1 → (∀ i, i < k → s.2.2 i = stM m s.2.2 i) →
    ∀ i, i < N → (lp_X10_reckon_2 m n s (nI k)).2.2 i = stM m (lp_X10_reckon_2 m n s (nI k)).2.2 i := by
  intro n
  induction n with
  | zero => intro k s h1 h2; exact absurd h2 (by omega)
  | succ n ih =>
    intro k s h1 h2 e1 e2 hv
    by_cases g : k = N
    · have q : s.1 7 ≤ nI k := by rw [e1, hN, g]; exact nI_le (Nat.le_refl _) (by omega)
      rw [lp_X10_reckon_2, if_pos q]
      subst g
      exact hv
    · have q : ¬ s.1 7 ≤ nI k := by rw [e1, hN]; exact nI_ge (by omega) (by omega)
      have hkI : (k : Int) < (m.1 7).toInt := by rw [hN, nI_toInt (by omega)]; omega
      rw [reckon_step m s n k (by omega) q (by rw [e2]; exact (hi k hkI).1)]
      refine ih (k + 1) _ (by omega) (by omega) e1 e2 (fun i hi2 => ?_)
      have es : stM s s.2.2 k = stM m s.2.2 k := by unfold stM; rw [e2]
      rw [es]
      show vp_updL s.2.2 k (stM m s.2.2 k) i = stM m (vp_updL s.2.2 k (stM m s.2.2 k)) i
      have hcong : stM m (vp_updL s.2.2 k (stM m s.2.2 k)) i = stM m s.2.2 i := by
        refine stepV_cong rfl (fun hw => ?_)
        have hl := inp_lt hk hi (i := i) (by omega) hw
        exact ⟨⟨rfl, fun _ => pk_uLn (by omega)⟩, rfl, fun _ => pk_uLn (by omega)⟩
      rw [hcong]
      by_cases w : i = k
      · subst w; exact pk_uLs
      · rw [pk_uLn w]; exact hv i (by omega)
theorem val_ref {c m : St} (h : Rel c m) : ∀ i : Nat, (i : Int) < (m.1 7).toInt → m.2.1 26 i ≠ 0 → (sp_X10_reckon m).2.2 i = c.2.2 i := by
  obtain ⟨N, hN2, hN⟩ := cnt_of (N := 100) (okM_7 h.1.okM) (by omega)
  have r := reckon_lp m h.1.okM h.1.item hN hN2 (N + 1) 0 m (by omega) (by omega) rfl rfl (fun i hi => absurd hi (by omega))
  have e : sp_X10_reckon m = lp_X10_reckon_2 m (N + 1) m (nI 0) := by unfold sp_X10_reckon; rw [hN, nI_tn (by omega), nI_0]
  rw [← e] at r
  have tN : (m.1 7).toInt = N := by rw [hN, nI_toInt (by omega)]
  intro i
  induction i using Nat.strongRecOn with
  | _ i ih =>
    intro hi ha
    rw [r i (by omega), h.2 i hi ha]
    refine stepV_cong rfl (fun hw => ?_)
    have hl := inp_lt h.1.okM h.1.item hi hw
    exact ⟨⟨rfl, fun q => ih _ hl.1 (by omega) q⟩, rfl, fun q => ih _ hl.2 (by omega) q⟩
theorem reckon_I (m : St) : (sp_X10_reckon m).1 = m.1 ∧ (sp_X10_reckon m).2.1 = m.2.1 := A_reckon2 m _ _ _
theorem ref_peek {c m : St} (h : Rel c m) (a1 : Int32) : sp_X9_peek c a1 = (sp_X10_peek m a1).1 ∧ Rel c (sp_X10_peek m a1).2 := by
  have h0 := h.thr 0
  have hr : Rel c (sp_X10_reckon (sI m 10 0)) := h0.mv (reckon_I _).1 (reckon_I _).2
  unfold sp_X9_peek sp_X10_peek
  by_cases g : sp_X10_isLiving (sp_X10_reckon (sI m 10 0)) a1 = 0
  · rw [if_pos g]
    refine ⟨?_, hr⟩
    unfold sp_X5_valueOf
    rw [lives5 hr.1, if_pos g]
  · rw [if_neg g]
    refine ⟨?_, hr⟩
    obtain ⟨k, e0, e1, e2, e3, e4, e5, e6, e7⟩ := living_facts hr.1 g
    rw [e7]
    show c.2.2 k = (sp_X10_reckon (sI m 10 0)).2.2 a1.toNatClampNeg
    rw [e2]
    rw [(reckon_I _).1] at e1
    rw [(reckon_I _).2] at e3
    exact (val_ref h0 k e1 e3).symm
theorem use_log {c m : St} (h : Rel c m) (a1 a2 a3 g code : Int32) : Rel (sp_X7_add (sI c 9 g) a1 a2 a3 g) (if 200 ≤ m.1 8 then sI (sI (sI m 10 0) 9 g) 10 code else sI (sI (sA (sA (sA (sA (sI (sI m 10 0) 9 g) 29 ((m.1 8).toNatClampNeg) a1) 30 ((m.1 8).toNatClampNeg) a2) 31 ((m.1 8).toNatClampNeg) a3) 32 ((m.1 8).toNatClampNeg) g) 8 ((m.1 8) + 1)) 10 code) := by
  have e := h.1.i 8
  have b := okC_8 h.1.okC
  have b2 := okM_8 h.1.okM
  unfold sp_X7_add
  have e9 : (sI c 9 g).1 8 = m.1 8 := e
  rw [e9]
  obtain ⟨⟨h1, h2, h3, h4, h5, h6, h7, h8, h9, h10, h11⟩, hv⟩ := h
  by_cases w : (200 : Int32) ≤ m.1 8
  · have w2 : ¬ m.1 8 < 200 := by rw [z_lt]; rw [z_le] at w; omega
    rw [if_pos w, if_neg w2]
    refine ⟨⟨okC_cong (fun j hj => ?_) h1, ⟨okC_cong (fun j hj => ?_) h2.1, h2.2⟩, h3, ?_, h5, h6, h7, h8, h9, h10, h11⟩, hv⟩
    · show (if j = 9 then g else c.1 j) = c.1 j
      rw [if_neg (by omega)]
    · show (if j = 10 then _ else (if j = 9 then _ else (if j = 10 then _ else m.1 j))) = m.1 j
      rw [if_neg (by omega), if_neg (by omega), if_neg (by omega)]
    · exact CR.thr ((CR.thr h4 0).put 9 g) code
  · have w2 : m.1 8 < 200 := by rw [z_lt]; rw [z_le] at w; omega
    rw [if_neg w, if_pos w2]
    obtain ⟨n, hn, en, ec, e1, e2, e3⟩ := cnt_lt (B := 200) b2 (by decide) (by decide) w2
    refine ⟨⟨okC_put h1 8 (fun j hj hj2 => ?_) ?_, ⟨okC_put h2.1 8 (fun j hj hj2 => ?_) ?_, h2.2⟩, h3, ?_, ?_, h6, h7, h8, h9, h10, h11⟩, hv⟩
    · show (if j = 8 then _ else (if j = 9 then g else c.1 j)) = c.1 j
      rw [if_neg hj2, if_neg (by omega)]
    · show 0 ≤ (m.1 8 + 1).toInt ∧ (m.1 8 + 1).toInt ≤ 200
      omega
    · show (if j = 10 then _ else (if j = 8 then _ else (if j = 9 then _ else (if j = 10 then _ else m.1 j)))) = m.1 j
      rw [if_neg (by omega), if_neg hj2, if_neg (by omega), if_neg (by omega)]
    · show 0 ≤ (m.1 8 + 1).toInt ∧ (m.1 8 + 1).toInt ≤ 200
      omega
    · exact CR.thr (((CR.thr h4 0).put 9 g).put 8 _) code
    · exact ((((h5.right (m2 := sI m 10 0) rfl).put 29 (by unfold shA; decide) _ _).put 30 (by unfold shA; decide) _ _).put 31 (by unfold shA; decide) _ _).put 32 (by unfold shA; decide) _ _
theorem add7_9 (c : St) (a1 a2 a3 g : Int32) : (sp_X7_add (sI c 9 g) a1 a2 a3 g).1 9 = g := by
  unfold sp_X7_add
  split <;> rfl
theorem ref_use {c m : St} (h : Rel c m) (a1 a2 a3 : Int32) : (sp_X10_use m a1 a2 a3).2.1 10 = cL (sp_X9_use c a1 a2 a3).1 ∧ ((sp_X9_use c a1 a2 a3).1 = 0 → (sp_X9_use c a1 a2 a3).2.1 = (sp_X10_use m a1 a2 a3).1) ∧ Rel (sp_X9_use c a1 a2 a3).2.2 (sp_X10_use m a1 a2 a3).2 := by
  unfold sp_X9_use sp_X10_use
  rw [has8 h.1, min_in, lives5 h.1]
  by_cases g1 : sp_X10_isPurpose m a2 = 0
  · simp only [if_pos g1]; exact ⟨by show (2 : Int32) = cL 1; decide, fun e => absurd e (by decide), h.thr 2⟩
  by_cases g2 : sp_X10_isMinute a3 = 0
  · simp only [if_neg g1, if_pos g2]; exact ⟨by show (2 : Int32) = cL 1; decide, fun e => absurd e (by decide), h.thr 2⟩
  by_cases g3 : sp_X10_isLiving m a1 = 0
  · simp only [if_neg g1, if_neg g2, if_pos g3]; exact ⟨by show (1 : Int32) = cL 3; decide, fun e => absurd e (by decide), h.thr 1⟩
  have hin := (f_X10_isPurpose m a2 h.1.okM).resolve_left g1
  have hmi := (f_X10_in a3 0 10000000).resolve_left g2
  rw [z0, show (10000000 : Int32).toInt = 10000000 from by decide] at hmi
  have eg : sp_X9_groundOf c a1 a2 a3 = sp_X10_groundOf (sI m 10 0) a1 a2 a3 := ground_ref (h.1.thr 0) g3 hin hmi
  rw [eg, add7_9]
  simp only [if_neg g1, if_neg g2, if_neg g3]
  generalize hg : sp_X10_groundOf (sI m 10 0) a1 a2 a3 = g
  obtain ⟨k, e0, e1, e2, e3, e4, e5, e6, e7⟩ := living_facts h.1 g3
  have key : ∀ code : Int32, ∀ S : St, S = (if 200 ≤ m.1 8 then sI (sI (sI m 10 0) 9 g) 10 code else sI (sI (sA (sA (sA (sA (sI (sI m 10 0) 9 g) 29 ((m.1 8).toNatClampNeg) a1) 30 ((m.1 8).toNatClampNeg) a2) 31 ((m.1 8).toNatClampNeg) a3) 32 ((m.1 8).toNatClampNeg) g) 8 ((m.1 8) + 1)) 10 code) → (sp_X10_reckon S).1 10 = code ∧ sp_X5_valueOf (sp_X7_add (sI c 9 g) a1 a2 a3 g) a1 = (sp_X10_reckon S).2.2 a1.toNatClampNeg ∧ Rel (sp_X7_add (sI c 9 g) a1 a2 a3 g) (sp_X10_reckon S) := by
    intro code S hS
    have hR := use_log h a1 a2 a3 g code
    rw [← hS] at hR
    have s7 : S.1 7 = m.1 7 := by rw [hS]; split <;> rfl
    have s26 : S.2.1 26 = m.2.1 26 := by rw [hS]; split <;> rfl
    have s10 : S.1 10 = code := by rw [hS]; split <;> rfl
    have gl : ¬ sp_X10_isLiving S a1 = 0 := by
      unfold sp_X10_isLiving
      rw [s7, s26]
      exact g3
    obtain ⟨k2, f0, f1, f2, f3, f4, f5, f6, f7⟩ := living_facts hR.1 gl
    refine ⟨by rw [(reckon_I S).1]; exact s10, ?_, hR.mv (reckon_I S).1 (reckon_I S).2⟩
    rw [f7, f2]
    exact (val_ref hR k2 f1 f3).symm
  by_cases w : (200 : Int32) ≤ m.1 8
  · simp only [if_pos w] at key ⊢
    by_cases g0 : g = 0
    · simp only [if_pos g0]
      have k3 := key 3 _ rfl
      exact ⟨k3.1.trans (by decide), fun e => absurd e (by decide), k3.2.2⟩
    · simp only [if_neg g0]
      have k0 := key 0 _ rfl
      exact ⟨k0.1, fun _ => k0.2.1, k0.2.2⟩
  · simp only [if_neg w] at key ⊢
    by_cases g0 : g = 0
    · simp only [if_pos g0]
      have k3 := key 3 _ rfl
      exact ⟨k3.1.trans (by decide), fun e => absurd e (by decide), k3.2.2⟩
    · simp only [if_neg g0]
      have k0 := key 0 _ rfl
      exact ⟨k0.1, fun _ => k0.2.1, k0.2.2⟩
/-- the day an item falls due -/
theorem due_lp {c m : St} (h : RelW c m) {N : Nat} (hN : m.1 5 = nI N) (hN2 : N ≤ 60) {it : Int32} (hw : m.2.1 23 it.toNatClampNeg = -1) (hday : 0 ≤ (m.2.1 21 it.toNatClampNeg).toInt) : ∀ (n k : Nat) (L : Int32), k ≤ N → N < k + n → -1 ≤ L.toInt → L.toInt ≤ 6944 →
    ∃ L' : Int32, -1 ≤ L'.toInt ∧ L'.toInt ≤ 6944 ∧ lp_X3_latestDay_5 c (m.2.1 22 it.toNatClampNeg) (m.2.1 20 it.toNatClampNeg) n (nI k) L = L' ∧ lp_X10_due_4 m it n (nI k) (if L < m.2.1 21 it.toNatClampNeg then -1 else L) = if L' < m.2.1 21 it.toNatClampNeg then -1 else L' + m.2.1 1 (m.2.1 20 it.toNatClampNeg).toNatClampNeg := by
  intro n
  induction n with
  | zero => intro k L h1 h2; exact absurd h2 (by omega)
  | succ n ih =>
    intro k L h1 h2 hL hL2
    rw [lp_X3_latestDay_5, lp_X10_due_4, h.i 5, hN]
    by_cases g : k = N
    · have q : nI N ≤ nI k := by rw [g]; exact nI_le (Nat.le_refl _) (by omega)
      rw [if_pos q, if_pos q]
      refine ⟨L, hL, hL2, rfl, ?_⟩
      by_cases w : L < m.2.1 21 it.toNatClampNeg
      · rw [if_pos w, if_neg (by decide), if_pos w]
      · rw [if_neg w, if_neg w, if_pos]
        rw [z_lt] at w
        rw [z_le, z0]; omega
    · have q : ¬ nI N ≤ nI k := nI_ge (by omega) (by omega)
      rw [if_neg q, if_neg q, if_pos hw, ← nI_succ, nI_clamp (by omega), h.a 13, h.a 14, h.a 15]
      have hev := h.ent.2.2.1 k (by rw [hN, nI_toInt (by omega)]; omega)
      unfold sp_X9_isAmong
      by_cases w1 : (m.2.1 22 it.toNatClampNeg >>> (m.2.1 13 k &&& 31)) &&& 1 = 1
      · have d1 : ¬ (1 : Int32) = 0 := by decide
        rw [if_pos w1, if_neg d1, if_pos w1]
        by_cases w2 : m.2.1 14 k = m.2.1 20 it.toNatClampNeg
        · rw [if_pos w2, if_pos w2]
          have z := ih (k + 1) (if L < m.2.1 15 k then m.2.1 15 k else L) (by omega) (by omega) (by split <;> omega) (by split <;> omega)
          obtain ⟨L', q1, q2, q3, q4⟩ := z
          refine ⟨L', q1, q2, q3, ?_⟩
          rw [← q4]
          by_cases a : m.2.1 15 k < m.2.1 21 it.toNatClampNeg
          · rw [if_pos a]
            by_cases b : L < m.2.1 15 k
            · have b2 : L < m.2.1 21 it.toNatClampNeg := by rw [z_lt] at *; omega
              rw [if_pos b, if_pos a, if_pos b2]
            · rw [if_neg b]
          · rw [if_neg a]
            by_cases b2 : L < m.2.1 21 it.toNatClampNeg
            · have b : L < m.2.1 15 k := by rw [z_lt] at *; omega
              have b3 : ¬ m.2.1 15 k ≤ -1 := by rw [z_le, zm1]; omega
              rw [if_pos b2, if_neg b3, if_pos b, if_neg a]
            · rw [if_neg b2]
              by_cases b : L < m.2.1 15 k
              · have b3 : ¬ m.2.1 15 k ≤ L := by rw [z_le]; rw [z_lt] at b; omega
                rw [if_neg b3, if_pos b, if_neg a]
              · have b3 : m.2.1 15 k ≤ L := by rw [z_le]; rw [z_lt] at b; omega
                rw [if_pos b3, if_neg b, if_neg b2]
        · rw [if_neg w2, if_neg w2]
          exact ih (k + 1) L (by omega) (by omega) hL hL2
      · rw [if_neg w1, if_pos rfl, if_neg w1]
        exact ih (k + 1) L (by omega) (by omega) hL hL2
theorem due_no {m : St} {N : Nat} (hN : m.1 5 = nI N) (hN2 : N ≤ 60) {it : Int32} (hw : ¬ m.2.1 23 it.toNatClampNeg = -1) : ∀ (n k : Nat), k ≤ N → N < k + n → lp_X10_due_4 m it n (nI k) (-1) = -1 := by
  intro n
  induction n with
  | zero => intro k h1 h2; exact absurd h2 (by omega)
  | succ n ih =>
    intro k h1 h2
    rw [lp_X10_due_4, hN]
    by_cases g : k = N
    · have q : nI N ≤ nI k := by rw [g]; exact nI_le (Nat.le_refl _) (by omega)
      rw [if_pos q, if_neg (by decide)]
    · have q : ¬ nI N ≤ nI k := nI_ge (by omega) (by omega)
      rw [if_neg q, if_neg hw, ← nI_succ]
      exact ih (k + 1) (by omega) (by omega)
theorem due_ref {c m : St} (h : RelW c m) {it : Int32} (hl : ¬ sp_X10_isLiving m it = 0) : sp_X9_firstDueDay c it = sp_X10_due m it ∧ (sp_X10_due m it = -1 ∨ 0 ≤ (sp_X10_due m it).toInt) := by
  obtain ⟨k, e0, e1, e2, e3, e4, e5, e6, e7⟩ := living_facts h hl
  obtain ⟨N, hN2, hN⟩ := cnt_of (N := 60) (okM_5 h.okM) (by omega)
  have hc : ¬ sp_X5_lives c it = 0 := by rw [lives5 h]; exact hl
  have b7 := okM_7 h.okM
  have hit := h.item k e1
  have eh : sp_X5_has c it ≠ 0 := by
    intro z; apply hc; unfold sp_X5_lives; rw [if_pos z]
  have ep : (sp_X5_isPut c it = 0) ↔ ¬ m.2.1 23 it.toNatClampNeg = -1 := by
    unfold sp_X5_isPut
    rw [if_neg eh, h.a 23, if01]
  unfold sp_X9_firstDueDay
  rw [if_neg hc]
  unfold sp_X10_due
  rw [hN, nI_tn (by omega)]
  by_cases g : m.2.1 23 it.toNatClampNeg = -1
  · rw [if_neg (fun z => ep.mp z g), e4, e5, e6, ← e2]
    obtain ⟨L', q1, q2, q3, q4⟩ := due_lp h hN hN2 g (by rw [e2]; exact hit.2.2.2.1.1) (N + 1) 0 (-1) (by omega) (by omega) (by rw [zm1]; omega) (by rw [zm1]; omega)
    have s0 : (if (-1 : Int32) < m.2.1 21 it.toNatClampNeg then (-1 : Int32) else -1) = -1 := by split <;> rfl
    rw [s0, nI_0] at q4
    rw [nI_0] at q3
    have e9 : sp_X3_latestDay c (m.2.1 22 it.toNatClampNeg) (m.2.1 20 it.toNatClampNeg) = L' := by
      unfold sp_X3_latestDay
      rw [h.i 5, hN, nI_tn (by omega)]; exact q3
    rw [e9, q4]
    have hk8 := vp_in_iff.mp (okM_kind h.okM it.toNatClampNeg)
    have hkk : (m.2.1 20 it.toNatClampNeg).toInt < (m.1 1).toInt := by rw [e2]; exact hit.2.2.2.2.1
    have hret := h.ent.2.2.2 (m.2.1 20 it.toNatClampNeg).toNatClampNeg (by rw [tnc]; omega)
    have er : sp_X6_retentionOf c (m.2.1 20 it.toNatClampNeg) = m.2.1 1 (m.2.1 20 it.toNatClampNeg).toNatClampNeg := by
      unfold sp_X6_retentionOf sp_X6_has
      rw [if_neg (c := (m.2.1 20 it.toNatClampNeg) < 0) (by rw [z_lt, z0]; omega), h.i 1, if_neg (c := m.1 1 ≤ m.2.1 20 it.toNatClampNeg) (by rw [z_le]; omega), if_neg (by decide), h.a 1]
    rw [er]
    have hday : 0 ≤ (m.2.1 21 it.toNatClampNeg).toInt := by rw [e2]; exact hit.2.2.2.1.1
    by_cases w : L' < m.2.1 21 it.toNatClampNeg
    · rw [if_pos w]
      refine ⟨?_, Or.inl rfl⟩
      by_cases w2 : L' = -1
      · rw [if_pos w2]
      · rw [if_neg w2, if_neg]
        rw [z_le]; rw [z_lt] at w; omega
    · rw [if_neg w]
      have w2 : ¬ L' = -1 := by rw [z_eq, zm1]; rw [z_lt] at w; omega
      have w3 : m.2.1 21 it.toNatClampNeg ≤ L' := by rw [z_le]; rw [z_lt] at w; omega
      rw [if_neg w2, if_pos w3]
      refine ⟨rfl, Or.inr ?_⟩
      rw [z_lt] at w
      rw [add_I _ _ (by omega) (by omega)]; omega
  · rw [if_pos (ep.mpr g)]
    have := due_no hN hN2 g (N + 1) 0 (by omega) (by omega)
    rw [nI_0] at this
    rw [this]
    exact ⟨rfl, Or.inl rfl⟩
theorem df_lp {c m : St} (h : RelW c m) (a : Int32) : ∀ (n : Nat) (x y : Int32), lp_X5_derivedFrom_4 c a n x y = lp_X10_derivedFrom_4 m a n x y := by
  intro n
  induction n with
  | zero => intro x y; rfl
  | succ n ih =>
    intro x y
    have e0 : y + 0 = y := Int32.add_zero y
    rw [lp_X5_derivedFrom_4, lp_X10_derivedFrom_4, e0, h.i 7, h.a 26, h.a 23, h.a 24, h.a 25, ih, ih]
theorem ref_look {c m : St} (h : Rel c m) (a1 a2 : Int32) : sp_X9_look c a1 a2 = (sp_X10_look m a1 a2).1 ∧ Rel c (sp_X10_look m a1 a2).2 := by
  have h0 := h.thr 0
  unfold sp_X9_look sp_X10_look
  rw [lives5 h0.1]
  by_cases g : sp_X10_isLiving (sI m 10 0) a1 = 0
  · simp only [if_pos g]; exact ⟨by trivial, h0⟩
  obtain ⟨k, e0, e1, e2, e3, e4, e5, e6, e7⟩ := living_facts h0.1 g
  have ed := (due_ref h0.1 g).1
  have ef : sp_X5_derivedFrom c a1 = sp_X10_derivedFrom (sI m 10 0) a1 := by
    unfold sp_X5_derivedFrom sp_X10_derivedFrom
    rw [df_lp h0.1, h0.1.i 7]
  rw [e4, e5, e6, ed, ef, e2]
  simp only [if_neg g]
  by_cases k0 : a2 = 0
  · simp only [if_pos k0]; exact ⟨by trivial, h0⟩
  by_cases k1 : a2 = 1
  · simp only [if_neg k0, if_pos k1]; exact ⟨by trivial, h0⟩
  by_cases k2 : a2 = 2
  · simp only [if_neg k0, if_neg k1, if_pos k2]; exact ⟨by trivial, h0⟩
  by_cases k3 : a2 = 3
  · simp only [if_neg k0, if_neg k1, if_neg k2, if_pos k3]; exact ⟨by trivial, h0⟩
  by_cases k4 : a2 = 4
  · simp only [if_neg k0, if_neg k1, if_neg k2, if_neg k3, if_pos k4]; exact ⟨by trivial, h0⟩
  · simp only [if_neg k0, if_neg k1, if_neg k2, if_neg k3, if_neg k4]; exact ⟨by trivial, h0⟩
theorem state_lp {m : St} {N : Nat} (hN : m.1 7 = nI N) (hN2 : N ≤ 100) (a : Int32) : ∀ (n k : Nat), k ≤ N → N < k + n →
    lp_X10_state_9 m a n (nI k) (nI (aliveN (m.2.1 26) k)) = (if a = 0 then m.1 0 else (if a = 1 then m.1 1 else (if a = 2 then m.1 7 else (if a = 3 then nI (aliveN (m.2.1 26) N) else (if a = 4 then m.1 8 else (if a = 5 then m.1 6 else -1))))), sI m 10 0) := by
  intro n
  induction n with
  | zero => intro k h1 h2; exact absurd h2 (by omega)
  | succ n ih =>
    intro k h1 h2
    rw [lp_X10_state_9]
    by_cases g : k = N
    · have q : m.1 7 ≤ nI k := by rw [hN, g]; exact nI_le (Nat.le_refl _) (by omega)
      rw [if_pos q, g]
      repeat' split
      all_goals rfl
    · have q : ¬ m.1 7 ≤ nI k := by rw [hN]; exact nI_ge (by omega) (by omega)
      rw [if_neg q, ← nI_succ, nI_clamp (by omega)]
      have e := ih (k + 1) (by omega) (by omega)
      by_cases w : m.2.1 26 k = 0
      · rw [if_pos w, Int32.add_zero]
        have ea : aliveN (m.2.1 26) (k + 1) = aliveN (m.2.1 26) k := by rw [aliveN, if_pos w]; rfl
        rw [ea] at e; exact e
      · rw [if_neg w, ← nI_succ]
        have ea : aliveN (m.2.1 26) (k + 1) = aliveN (m.2.1 26) k + 1 := by rw [aliveN, if_neg w]
        rw [ea] at e; exact e
theorem ref_state {c m : St} (h : Rel c m) (a1 : Int32) : sp_X9_state c a1 = (sp_X10_state m a1).1 ∧ Rel c (sp_X10_state m a1).2 := by
  obtain ⟨N, hN2, hN⟩ := cnt_of (N := 100) (okM_7 h.1.okM) (by omega)
  have e := state_lp hN hN2 a1 (N + 1) 0 (by omega) (by omega)
  have e' : sp_X10_state m a1 = lp_X10_state_9 m a1 (N + 1) (nI 0) (nI (aliveN (m.2.1 26) 0)) := by
    unfold sp_X10_state; rw [hN, nI_tn (by omega)]; rfl
  rw [e', e]
  refine ⟨?_, h.thr 0⟩
  have hv := h.1.live
  unfold LiveOK at hv
  rw [hN, nI_tn (by omega)] at hv
  unfold sp_X9_state sp_X8_total sp_X6_total sp_X5_total sp_X5_living sp_X7_total sp_X4_total
  rw [h.1.i 0, h.1.i 1, h.1.i 7, h.1.i 8, h.1.i 6, hv]
theorem held_lp {c m : St} (h : RelW c m) {N : Nat} (hN : m.1 7 = nI N) (hN2 : N ≤ 100) (a1 a2 : Int32) (hp : ¬ sp_X10_isPerson a1 = 0) : ∀ (n k : Nat) (y : Int32), k ≤ N → (lp_X10_held_10 m a1 a2 n (nI k) y).1 = lp_X9_held_14 c a1 a2 n (nI k) y ∧ ((lp_X10_held_10 m a1 a2 n (nI k) y).2 = m ∨ (lp_X10_held_10 m a1 a2 n (nI k) y).2 = sI m 10 0) := by
  intro n
  induction n with
  | zero => intro k y _; exact ⟨rfl, Or.inl rfl⟩
  | succ n ih =>
    intro k y hk
    rw [lp_X10_held_10, lp_X9_held_14]
    have et : sp_X5_total c = nI N := by unfold sp_X5_total; rw [h.i 7, hN]
    rw [et, hN]
    by_cases g : k = N
    · have q : nI N ≤ nI k := by rw [g]; exact nI_le (Nat.le_refl _) (by omega)
      rw [if_pos q, if_pos q]; exact ⟨rfl, Or.inr rfl⟩
    · have q : ¬ nI N ≤ nI k := nI_ge (by omega) (by omega)
      have ec : c.1 7 = nI N := by rw [h.i 7, hN]
      rw [if_neg q, if_neg q, if_neg hp, lives5_nI ec (by omega) (by omega), about5_nI ec (by omega) (by omega), nI_clamp (by omega), h.a 26, h.a 22, ← nI_succ]
      by_cases w1 : m.2.1 26 k = 0
      · simp only [if_pos w1, if_true]
        exact ih (k + 1) y (by omega)
      · have d1 : ¬ (1 : Int32) = 0 := by decide
        simp only [if_neg w1, if_neg d1]
        by_cases w2 : (m.2.1 22 k >>> (a1 &&& 31)) &&& 1 = 1
        · have w3 : ¬ (m.2.1 22 k >>> (a1 &&& 31)) &&& 1 = 0 := fun z => (y_and0 _).mp z w2
          simp only [if_pos w2, if_neg w3, if_neg d1]
          by_cases w4 : y = a2
          · simp only [if_pos w4]; exact ⟨by trivial, Or.inr (by trivial)⟩
          · simp only [if_neg w4]
            exact ih (k + 1) (y + 1) (by omega)
        · have w3 : (m.2.1 22 k >>> (a1 &&& 31)) &&& 1 = 0 := (y_and0 _).mpr w2
          simp only [if_neg w2, if_pos w3, if_true]
          exact ih (k + 1) y (by omega)
theorem ref_held {c m : St} (h : Rel c m) (a1 a2 : Int32) : sp_X9_held c a1 a2 = (sp_X10_held m a1 a2).1 ∧ Rel c (sp_X10_held m a1 a2).2 := by
  obtain ⟨N, hN2, hN⟩ := cnt_of (N := 100) (okM_7 h.1.okM) (by omega)
  unfold sp_X9_held sp_X10_held
  rw [per_in]
  by_cases g : sp_X10_isPerson a1 = 0
  · rw [if_pos g, lp_X10_held_10]
    split
    · exact ⟨rfl, h.thr 0⟩
    · exact ⟨rfl, h.thr 0⟩
  · rw [if_neg g]
    have e := held_lp h.1 hN hN2 a1 a2 g ((m.1 7).toInt.toNat + 1) 0 0 (by omega)
    rw [nI_0] at e
    rw [h.1.i 7]
    refine ⟨e.1.symm, ?_⟩
    rcases e.2 with q | q
    · rw [q]; exact h
    · rw [q]; exact h.thr 0

/-! calls that make an item: put, derive -/
theorem stepV_cg {how how' f f' s s' al al' w w' : Nat → Int32} {v v' : Nat → Int64} {i : Nat} (e1 : how i = how' i) (e2 : f i = f' i) (e3 : s i = s' i) (e4 : w i = w' i) (h0 : al i = al' i) (h1 : how i ≠ -1 → (al (f i).toNatClampNeg = al' (f i).toNatClampNeg ∧ v (f i).toNatClampNeg = v' (f i).toNatClampNeg) ∧ (al (s i).toNatClampNeg = al' (s i).toNatClampNeg ∧ v (s i).toNatClampNeg = v' (s i).toNatClampNeg)) :
    stepV how f s al w v i = stepV how' f' s' al' w' v' i := by
  unfold stepV
  rw [← e1, ← e2, ← e3, ← e4, ← h0]
  by_cases g1 : how i = -1
  · simp only [if_pos g1]
  · obtain ⟨⟨a1, a2⟩, b1, b2⟩ := h1 g1
    rw [← a1, ← a2, ← b1, ← b2]
theorem aliveN_cong {f g : Nat → Int32} : ∀ n : Nat, (∀ j, j < n → f j = g j) → aliveN f n = aliveN g n := by
  intro n
  induction n with
  | zero => intro _; rfl
  | succ n ih =>
    intro h
    rw [aliveN, aliveN, ih (fun j hj => h j (by omega)), h n (by omega)]
theorem sA_off {s : St} {b i a j : Nat} {v : Int32} (h : j ≠ i) : (sA s b i v).2.1 a j = s.2.1 a j := by
  rw [sA_2]
  by_cases q : a = b
  · rw [if_pos q, q]; exact pk_un h
  · rw [if_neg q]
theorem sA_arr {s : St} {b i a : Nat} {v : Int32} (h : a ≠ b) : (sA s b i v).2.1 a = s.2.1 a := by rw [sA_2, if_neg h]
def itemAt (m : St) (kn : Int32) (i : Nat) : Prop :=
  (m.2.1 23 i = -1 ∨ m.2.1 23 i = 0 ∨ m.2.1 23 i = 1 ∨ m.2.1 23 i = 2) ∧ (m.2.1 23 i ≠ -1 → (m.2.1 24 i).toInt < i ∧ (m.2.1 25 i).toInt < i) ∧ (m.2.1 23 i = -1 → ∃ p : Nat, p < 16 ∧ m.2.1 22 i = 1 <<< (nI p &&& 31)) ∧
  (0 ≤ (m.2.1 21 i).toInt ∧ (m.2.1 21 i).toInt ≤ 6944) ∧ (m.2.1 20 i).toInt < kn.toInt ∧ (m.2.1 26 i = 0 ∨ m.2.1 26 i = 1)
theorem item_new {c m c2 m2 : St} (h : Rel c m) {n : Nat} (hn : n < 100) (e7 : m.1 7 = nI n)
    (hc7 : c2.1 7 = nI (n + 1)) (hm7 : m2.1 7 = nI (n + 1)) (hc10 : c2.1 10 = c.1 10 + 1)
    (hci : ∀ i, i < 10 → i ≠ 7 → c2.1 i = c.1 i) (hmi : ∀ i, i < 10 → i ≠ 7 → m2.1 i = m.1 i)
    (hc0 : c2.2.1 0 = c.2.1 0) (hc19 : c2.2.1 19 = c.2.1 19) (hma : ∀ a, a < 20 → m2.2.1 a = m.2.1 a)
    (hmo : ∀ a j, j ≠ n → m2.2.1 a j = m.2.1 a j) (hcv : ∀ j, j ≠ n → c2.2.2 j = c.2.2 j) (har : AR c2 m2)
    (hf : vp_in (m2.2.1 24 n) 100) (hs : vp_in (m2.2.1 25 n) 100) (hk : vp_in (m2.2.1 20 n) 8) (hit : itemAt m2 (m.1 1) n) (hal : m2.2.1 26 n = 1)
    (hval : c2.2.2 n = stepV (m2.2.1 23) (m2.2.1 24) (m2.2.1 25) (m2.2.1 26) (m2.2.1 28) c2.2.2 n) : Rel c2 m2 := by
  have hinp := fun (i : Nat) (hi : (i : Int) < (m.1 7).toInt) (hw : m.2.1 23 i ≠ -1) => inp_lt h.1.okM h.1.item hi hw
  obtain ⟨⟨h1, h2, h3, h4, h5, h6, h7, h8, h9, h10, h11⟩, hv⟩ := h
  have t7 : (m.1 7).toInt = n := by rw [e7, nI_toInt (by omega)]
  have t27 : (m2.1 7).toInt = (n : Int) + 1 := by rw [hm7, nI_toInt (by omega)]; omega
  have tc7 : (c2.1 7).toInt = (n : Int) + 1 := by rw [hc7, nI_toInt (by omega)]; omega
  have n1 : ¬ (1 : Int32) = 0 := by decide
  refine ⟨⟨okC_put h1 7 (fun j hj hj7 => hci j (by omega) hj7) ?_, ⟨okC_put h2.1 7 (fun j hj hj7 => hmi j (by omega) hj7) ?_, ⟨?_, fun j => ?_, fun j => ?_, fun j => ?_⟩, ?_, ?_⟩, ?_, ?_, har, ?_, ?_, ?_, ?_, ?_, ?_⟩, ?_⟩
  · show 0 ≤ (c2.1 7).toInt ∧ (c2.1 7).toInt ≤ 100
    omega
  · show 0 ≤ (m2.1 7).toInt ∧ (m2.1 7).toInt ≤ 100
    omega
  · omega
  · by_cases q : j = n
    · rw [q]; exact hk
    · rw [hmo 20 j q]; exact h2.2.1.2.1 j
  · by_cases q : j = n
    · rw [q]; exact hf
    · rw [hmo 24 j q]; exact h2.2.1.2.2.1 j
  · by_cases q : j = n
    · rw [q]; exact hs
    · rw [hmo 25 j q]; exact h2.2.1.2.2.2 j
  · rw [hma 0 (by decide)]; exact h2.2.2.1
  · rw [hma 5 (by decide)]; exact h2.2.2.2
  · rw [hmi 0 (by decide) (by decide)]; exact h3
  · intro i hi
    by_cases q : i = 7
    · rw [q, hc7, hm7]
    · rw [hci i hi q, hmi i hi q]; exact h4 i hi
  · rw [hc0, hma 0 (by decide), hmi 0 (by decide) (by decide)]; exact h6
  · rw [hc19, hma 19 (by decide), hma 16 (by decide), hma 18 (by decide), hmi 6 (by decide) (by decide)]; exact h7
  · intro i hi
    by_cases q : i = n
    · rw [q, hmi 1 (by decide) (by decide)]; exact hit
    · rw [hmo 23 i q, hmo 24 i q, hmo 25 i q, hmo 22 i q, hmo 21 i q, hmo 20 i q, hmo 26 i q, hmi 1 (by decide) (by decide)]
      exact h8 i (by omega)
  · intro i hi ha hw
    by_cases q : i = n
    · rw [q] at hw ⊢
      rw [hval]
      unfold stepV
      rw [hal, if_neg n1, if_pos hw]
    · rw [hmo 28 i q, hcv i q]
      rw [hmo 26 i q] at ha
      rw [hmo 23 i q] at hw
      exact h9 i (by omega) ha hw
  · unfold LiveOK at h10 ⊢
    rw [hm7, nI_tn (by omega), hc10, h10, e7, nI_tn (by omega), aliveN, hal, if_neg n1, nI_succ]
    rw [aliveN_cong n (fun j hj => hmo 26 j (by omega))]
  · obtain ⟨t1, t2, t3, t4⟩ := h11
    unfold EntOK
    rw [hmi 2 (by decide) (by decide), hmi 0 (by decide) (by decide), hmi 3 (by decide) (by decide), hmi 5 (by decide) (by decide), hmi 1 (by decide) (by decide), hma 3 (by decide), hma 7 (by decide), hma 15 (by decide), hma 1 (by decide)]
    exact ⟨t1, t2, t3, t4⟩
  · intro i hi ha
    by_cases q : i = n
    · rw [q]; exact hval
    · have hi2 : (i : Int) < (m.1 7).toInt := by omega
      rw [hmo 26 i q] at ha
      rw [hcv i q, hv i hi2 ha]
      refine stepV_cg (hmo 23 i q).symm (hmo 24 i q).symm (hmo 25 i q).symm (hmo 28 i q).symm (hmo 26 i q).symm (fun hw => ?_)
      have hl := hinp i hi2 hw
      exact ⟨⟨(hmo 26 _ (by omega)).symm, (hcv _ (by omega)).symm⟩, (hmo 26 _ (by omega)).symm, (hcv _ (by omega)).symm⟩
/-- what is made of a put item -/
def putC (c : St) (n : Nat) (k d p : Int32) (v : Int64) : St := sL (sA (sI (sI (sA (sA (sA (sA c 20 n k) 21 n d) 22 n p) 26 n 1) 10 (c.1 10 + 1)) 7 (c.1 7 + 1)) 23 n (-1)) n v
theorem begin_lt {c : St} (a1 a2 a3 : Int32) (hl : c.1 7 < 100) : sp_X5_begin c a1 a2 a3 = (c.1 7 + 1 - 1, sI (sI (sA (sA (sA (sA c 20 ((c.1 7).toNatClampNeg) a1) 21 ((c.1 7).toNatClampNeg) a2) 22 ((c.1 7).toNatClampNeg) a3) 26 ((c.1 7).toNatClampNeg) 1) 10 (c.1 10 + 1)) 7 (c.1 7 + 1)) := by
  unfold sp_X5_begin
  rw [if_pos hl]
theorem begin_ge {c : St} (a1 a2 a3 : Int32) (hl : ¬ c.1 7 < 100) : sp_X5_begin c a1 a2 a3 = (-1, c) := by
  unfold sp_X5_begin
  rw [if_neg hl]
theorem has_m1 (c : St) : sp_X5_has c (-1) = 0 := by
  unfold sp_X5_has
  rw [if_pos (by decide)]
theorem addPut_eq {c : St} (hk : okC c) (a1 a2 a3 a4 : Int32) : sp_X5_addPut c a1 a2 a3 a4 = if c.1 7 < 100 then (c.1 7 + 1 - 1, putC c (c.1 7).toNatClampNeg a2 a4 (1 <<< (a1 &&& 31)) a3.toInt64) else (-1, c) := by
  unfold sp_X5_addPut
  by_cases hl : c.1 7 < 100
  · rw [if_pos hl, begin_lt _ _ _ hl]
    obtain ⟨n, hn, en, ec, e1, e2, e3⟩ := cnt_lt (B := 100) (okC_7 hk) (by decide) (by decide) hl
    have hh : ∀ S : St, S.1 7 = c.1 7 + 1 → sp_X5_has S (c.1 7 + 1 - 1) = 1 := by
      intro S hS
      rw [e2]
      exact has5_nI (n := n + 1) (by rw [hS, e1]) (by omega) (by omega)
    show (if sp_X5_has _ (c.1 7 + 1 - 1) = 0 then _ else _) = _
    rw [hh _ rfl, if_neg (by decide)]
    have e4 : (c.1 7 + 1 - 1).toNatClampNeg = (c.1 7).toNatClampNeg := by rw [e2, nI_clamp (by omega), ec]
    unfold putC
    rw [← e4]
  · rw [if_neg hl, begin_ge _ _ _ hl]
    show (if sp_X5_has c (-1) = 0 then _ else _) = _
    rw [has_m1, if_pos rfl]
theorem ref_put {c m : St} (h : Rel c m) (a1 a2 a3 a4 : Int32) : (sp_X10_put m a1 a2 a3 a4).2.1 10 = (sp_X9_put c a1 a2 a3 a4).1 ∧ ((sp_X9_put c a1 a2 a3 a4).1 = 0 → (sp_X9_put c a1 a2 a3 a4).2.1 = (sp_X10_put m a1 a2 a3 a4).1) ∧ Rel (sp_X9_put c a1 a2 a3 a4).2.2 (sp_X10_put m a1 a2 a3 a4).2 := by
  have e := h.1.i 7
  have b := okC_7 h.1.okC
  unfold sp_X9_put sp_X10_put
  rw [per_in, has6 h.1, day_in]
  by_cases g1 : sp_X10_isPerson a1 = 0
  · simp only [if_pos g1]; exact ⟨rfl, fun e => absurd e (by decide), h.thr 1⟩
  by_cases g2 : sp_X10_isKind m a2 = 0
  · simp only [if_neg g1, if_pos g2]; exact ⟨rfl, fun e => absurd e (by decide), h.thr 1⟩
  by_cases g3 : sp_X10_in a4 0 6944 = 0
  · simp only [if_neg g1, if_neg g2, if_pos g3]; exact ⟨rfl, fun e => absurd e (by decide), h.thr 1⟩
  simp only [if_neg g1, if_neg g2, if_neg g3]
  have hin1 := (f_X10_in a1 0 15).resolve_left g1
  have hin2 := (f_X10_isKind m a2 h.1.okM).resolve_left g2
  have hin := (f_X10_in a4 0 6944).resolve_left g3
  rw [z0, z6944] at hin
  rw [z0, show (15 : Int32).toInt = 15 from by decide] at hin1
  have b1 := okM_1 h.1.okM
  refine push_ref (sp_X5_addPut c a1 a2 a3 a4) (addPut_eq h.1.okC a1 a2 a3 a4) h e (by rw [z100]; omega) (fun hl => ?_)
  obtain ⟨n, hn, en, ec, e1, e2, e3⟩ := cnt_lt (B := 100) b (by decide) (by decide) hl
  refine ⟨by rw [e2]; exact nI_pos' (by omega), by rw [e]; rfl, rfl, ?_⟩
  have em : m.1 7 = nI n := by rw [← e]; exact en
  have ecm : (m.1 7).toNatClampNeg = n := by rw [← e]; exact ec
  have em1 : m.1 7 + 1 = nI (n + 1) := by rw [← e]; exact e1
  have hp : a1 = nI a1.toInt.toNat := by rw [z_eq, nI_toInt (by omega)]; omega
  unfold sp_X10_add putC
  show Rel _ (sI (sA (sA (sA (sA (sA (sA (sI m 10 0) 28 ((m.1 7).toNatClampNeg) a3) 23 ((m.1 7).toNatClampNeg) (-1)) 20 ((m.1 7).toNatClampNeg) a2) 21 ((m.1 7).toNatClampNeg) a4) 22 ((m.1 7).toNatClampNeg) (1 <<< (a1 &&& 31))) 26 ((m.1 7).toNatClampNeg) 1) 7 (m.1 7 + 1))
  rw [ecm, ec, e1, em1]
  have h5 := h.1.ar
  have nn : ∀ (x : Int32) (f : Nat → Int32), upd f n x n = x := fun x f => if_pos rfl
  refine item_new h hn em rfl rfl rfl (fun i hi hi7 => ?_) (fun i hi hi7 => ?_) rfl rfl (fun a ha => ?_) (fun a j hj => ?_) (fun j hj => ?_) ?_ (h.1.okM.2.1.2.2.1 n) (h.1.okM.2.1.2.2.2 n) ?_ ?_ ?_ ?_
  · show (if i = 7 then _ else (if i = 10 then _ else c.1 i)) = c.1 i
    rw [if_neg hi7, if_neg (by omega)]
  · show (if i = 7 then _ else (if i = 10 then _ else m.1 i)) = m.1 i
    rw [if_neg hi7, if_neg (by omega)]
  · simp only [sI_2, sA_arr (show a ≠ 26 by omega), sA_arr (show a ≠ 22 by omega), sA_arr (show a ≠ 21 by omega), sA_arr (show a ≠ 20 by omega), sA_arr (show a ≠ 23 by omega), sA_arr (show a ≠ 28 by omega)]
  · simp only [sI_2, sA_off hj]
  · show vp_updL c.2.2 n _ j = c.2.2 j
    exact pk_uLn hj
  · intro a ha
    by_cases q23 : a = 23
    · subst q23
      show upd (c.2.1 23) n (-1) = upd (m.2.1 23) n (-1)
      rw [h5 23 (by unfold shA; decide)]
    by_cases q20 : a = 20
    · subst q20
      show upd (c.2.1 20) n a2 = upd (m.2.1 20) n a2
      rw [h5 20 (by unfold shA; decide)]
    by_cases q21 : a = 21
    · subst q21
      show upd (c.2.1 21) n a4 = upd (m.2.1 21) n a4
      rw [h5 21 (by unfold shA; decide)]
    by_cases q22 : a = 22
    · subst q22
      show upd (c.2.1 22) n (1 <<< (a1 &&& 31)) = upd (m.2.1 22) n (1 <<< (a1 &&& 31))
      rw [h5 22 (by unfold shA; decide)]
    by_cases q26 : a = 26
    · subst q26
      show upd (c.2.1 26) n 1 = upd (m.2.1 26) n 1
      rw [h5 26 (by unfold shA; decide)]
    have q28 : ¬ a = 28 := ha.2.2.2.2
    simp only [sI_2, sL_2, sA_arr q23, sA_arr q20, sA_arr q21, sA_arr q22, sA_arr q26, sA_arr q28]
    exact h5 a ha
  · exact vp_in_iff.mpr (by show 0 ≤ (upd _ n a2 n).toInt ∧ (upd _ n a2 n).toInt < (8 : Nat); rw [nn]; omega)
  · refine ⟨Or.inl (nn _ _), fun q => absurd (nn _ _) q, fun _ => ⟨a1.toInt.toNat, by omega, ?_⟩, ?_, ?_, Or.inr (nn _ _)⟩
    · show upd _ n (1 <<< (a1 &&& 31)) n = _
      rw [nn, ← hp]
    · show 0 ≤ (upd _ n a4 n).toInt ∧ (upd _ n a4 n).toInt ≤ 6944
      rw [nn]; exact hin
    · show (upd _ n a2 n).toInt < (m.1 1).toInt
      rw [nn]; exact hin2.2
  · exact nn _ _
  · have v1 : (vp_updL c.2.2 n a3.toInt64) n = a3.toInt64 := pk_uLs
    refine v1.trans ?_
    unfold stepV
    have w1 : (sI (sA (sA (sA (sA (sA (sA (sI m 10 0) 28 n a3) 23 n (-1)) 20 n a2) 21 n a4) 22 n (1 <<< (a1 &&& 31))) 26 n 1) 7 (nI (n + 1))).2.1 26 n = 1 := nn _ _
    have w2 : (sI (sA (sA (sA (sA (sA (sA (sI m 10 0) 28 n a3) 23 n (-1)) 20 n a2) 21 n a4) 22 n (1 <<< (a1 &&& 31))) 26 n 1) 7 (nI (n + 1))).2.1 23 n = -1 := nn _ _
    have w3 : (sI (sA (sA (sA (sA (sA (sA (sI m 10 0) 28 n a3) 23 n (-1)) 20 n a2) 21 n a4) 22 n (1 <<< (a1 &&& 31))) 26 n 1) 7 (nI (n + 1))).2.1 28 n = a3 := nn _ _
    rw [w1, w2, w3, if_neg (by decide), if_pos rfl]
/-- a derived item -/
def derC (c : St) (n : Nat) (how a b k d p : Int32) : St := sA (sA (sA (sI (sI (sA (sA (sA (sA c 20 n k) 21 n d) 22 n p) 26 n 1) 10 (c.1 10 + 1)) 7 (c.1 7 + 1)) 23 n how) 24 n a) 25 n b
theorem addDer_eq {c : St} (hk : okC c) (how a b : Int32) : sp_X5_addDerived c how a b = if c.1 7 < 100 then (c.1 7 + 1 - 1, sL (derC c (c.1 7).toNatClampNeg how a b (sp_X5_kindOf c a) (if (sp_X5_dayOf c a) < (sp_X5_dayOf c b) then (sp_X5_dayOf c b) else (sp_X5_dayOf c a)) ((sp_X5_personsOf c a) ||| (sp_X5_personsOf c b))) (c.1 7).toNatClampNeg (sp_X5_derivedValue (derC c (c.1 7).toNatClampNeg how a b (sp_X5_kindOf c a) (if (sp_X5_dayOf c a) < (sp_X5_dayOf c b) then (sp_X5_dayOf c b) else (sp_X5_dayOf c a)) ((sp_X5_personsOf c a) ||| (sp_X5_personsOf c b))) (c.1 7))) else (-1, c) := by
  unfold sp_X5_addDerived
  generalize (if (sp_X5_dayOf c a) < (sp_X5_dayOf c b) then (sp_X5_dayOf c b) else (sp_X5_dayOf c a)) = D
  generalize ((sp_X5_personsOf c a) ||| (sp_X5_personsOf c b)) = P
  generalize sp_X5_kindOf c a = K
  by_cases hl : c.1 7 < 100
  · rw [if_pos hl, begin_lt _ _ _ hl]
    obtain ⟨n, hn, en, ec, e1, e2, e3⟩ := cnt_lt (B := 100) (okC_7 hk) (by decide) (by decide) hl
    have hh : ∀ S : St, S.1 7 = c.1 7 + 1 → sp_X5_has S (c.1 7 + 1 - 1) = 1 := by
      intro S hS
      rw [e2]
      exact has5_nI (n := n + 1) (by rw [hS, e1]) (by omega) (by omega)
    show (if sp_X5_has _ (c.1 7 + 1 - 1) = 0 then _ else _) = _
    rw [hh _ rfl, if_neg (by decide)]
    have e4 : c.1 7 + 1 - 1 = c.1 7 := by rw [e2, en]
    unfold derC
    show (c.1 7 + 1 - 1, _) = _
    simp only [e4]
  · rw [if_neg hl, begin_ge _ _ _ hl]
    show (if sp_X5_has c (-1) = 0 then _ else _) = _
    rw [has_m1, if_pos rfl]
theorem push_refL {c m st2 m2 : St} {cnt cnt2 N val val2 : Int32} (F : Int32 × St) (hF : F = if cnt < N then (val, st2) else (-1, c)) (h : Rel c m) (e : cnt = cnt2) (hN : cnt.toInt ≤ N.toInt)
    (hv : cnt < N → 0 ≤ val ∧ val = val2 ∧ m2.1 10 = 0 ∧ Rel st2 m2) :
    (if cnt2 = N then ((0 : Int32), sI m 10 3) else (val2, m2)).2.1 10 = cL (if 0 ≤ F.1 then ((0 : Int32), F.1, F.2) else (2, 0, F.2)).1 ∧
    ((if 0 ≤ F.1 then ((0 : Int32), F.1, F.2) else (2, 0, F.2)).1 = 0 → (if 0 ≤ F.1 then ((0 : Int32), F.1, F.2) else (2, 0, F.2)).2.1 = (if cnt2 = N then ((0 : Int32), sI m 10 3) else (val2, m2)).1) ∧
    Rel (if 0 ≤ F.1 then ((0 : Int32), F.1, F.2) else (2, 0, F.2)).2.2 (if cnt2 = N then ((0 : Int32), sI m 10 3) else (val2, m2)).2 := by
  by_cases hl : cnt < N
  · obtain ⟨v1, v2, v3, v4⟩ := hv hl
    have hne : ¬ cnt2 = N := fun q => by rw [← e] at q; rw [q, z_lt] at hl; omega
    rw [if_pos hl] at hF
    subst hF
    simp only [if_pos v1, if_neg hne]
    exact ⟨v3, fun _ => v2, v4⟩
  · have hne : cnt2 = N := by rw [← e, z_eq]; rw [z_lt] at hl; omega
    rw [if_neg hl] at hF
    subst hF
    have v1 : ¬ (0 : Int32) ≤ -1 := by decide
    simp only [if_neg v1, if_pos hne]
    exact ⟨by show (3 : Int32) = cL 2; decide, fun q => absurd q (by decide), h.thr 3⟩
def derM (m : St) (n : Nat) (how a b k d p : Int32) : St := sI (sA (sA (sA (sA (sA (sA (sA (sI m 10 0) 24 n a) 25 n b) 23 n how) 20 n k) 21 n d) 22 n p) 26 n 1) 7 (m.1 7 + 1)
theorem der_rel {c m : St} (h : Rel c m) {n ka kb : Nat} {how : Int32} (hn : n < 100) (em : m.1 7 = nI n) (hw : how = 0 ∨ how = 1 ∨ how = 2) (hka : ka < n) (hkb : kb < n) (la : m.2.1 26 ka ≠ 0) (lb : m.2.1 26 kb ≠ 0) {d : Int32} (hd : 0 ≤ d.toInt ∧ d.toInt ≤ 6944) (P : Int32) :
    Rel (sL (derC c n how (nI ka) (nI kb) (m.2.1 20 ka) d P) n (sp_X5_derivedValue (derC c n how (nI ka) (nI kb) (m.2.1 20 ka) d P) (nI n))) (derM m n how (nI ka) (nI kb) (m.2.1 20 ka) d P) := by
  have e := h.1.i 7
  have h5 := h.1.ar
  have ec : c.1 7 = nI n := by rw [e]; exact em
  have e26 := h.1.a 26
  have hitk := h.1.item ka (by rw [em, nI_toInt (by omega)]; omega)
  have nn : ∀ (x : Int32) (f : Nat → Int32), upd f n x n = x := fun x f => if_pos rfl
  have dn : ¬ how = -1 := by rcases hw with q | q | q <;> rw [q] <;> decide
  have val : ∀ j : Nat, j < n → m.2.1 26 j ≠ 0 → sp_X5_valueOf (derC c n how (nI ka) (nI kb) (m.2.1 20 ka) d P) (nI j) = c.2.2 j := by
    intro j hj hlj
    have z : sp_X5_lives (derC c n how (nI ka) (nI kb) (m.2.1 20 ka) d P) (nI j) = 1 := by
      have s7 : (derC c n how (nI ka) (nI kb) (m.2.1 20 ka) d P).1 7 = nI (n + 1) := by
        show c.1 7 + 1 = _
        rw [ec, nI_succ]
      have s26 : (derC c n how (nI ka) (nI kb) (m.2.1 20 ka) d P).2.1 26 j = m.2.1 26 j := by
        show upd (c.2.1 26) n 1 j = _
        rw [pk_un (by omega), e26]
      rw [lives5_nI s7 (by omega) (by omega), s26, if_neg hlj]
    unfold sp_X5_valueOf
    rw [z, if_neg (by decide), nI_clamp (by omega)]
    rfl
  have w23 : (derC c n how (nI ka) (nI kb) (m.2.1 20 ka) d P).2.1 23 n = how := nn _ _
  have w24 : (derC c n how (nI ka) (nI kb) (m.2.1 20 ka) d P).2.1 24 n = nI ka := nn _ _
  have w25 : (derC c n how (nI ka) (nI kb) (m.2.1 20 ka) d P).2.1 25 n = nI kb := nn _ _
  have hdv : sp_X5_derivedValue (derC c n how (nI ka) (nI kb) (m.2.1 20 ka) d P) (nI n) = (if how = 1 then c.2.2 ka + c.2.2 kb else (if how = 2 then (if lg_cmp (c.2.2 ka) (c.2.2 kb) ≤ 0 then 0 else 1) else c.2.2 ka)) := by
    unfold sp_X5_derivedValue
    rw [nI_clamp (by omega), w23, w24, w25, val ka hka la, val kb hkb lb]
  rw [hdv]
  refine item_new h hn em ?_ ?_ rfl (fun i hi hi7 => ?_) (fun i hi hi7 => ?_) rfl rfl (fun a ha => ?_) (fun a j hj => ?_) (fun j hj => ?_) ?_ ?_ ?_ ?_ ?_ ?_ ?_
  · show c.1 7 + 1 = _
    rw [ec, nI_succ]
  · show m.1 7 + 1 = _
    rw [em, nI_succ]
  · show (if i = 7 then _ else (if i = 10 then _ else c.1 i)) = c.1 i
    rw [if_neg hi7, if_neg (by omega)]
  · show (if i = 7 then _ else (if i = 10 then _ else m.1 i)) = m.1 i
    rw [if_neg hi7, if_neg (by omega)]
  · simp only [derM, sI_2, sA_arr (show a ≠ 26 by omega), sA_arr (show a ≠ 22 by omega), sA_arr (show a ≠ 21 by omega), sA_arr (show a ≠ 20 by omega), sA_arr (show a ≠ 23 by omega), sA_arr (show a ≠ 25 by omega), sA_arr (show a ≠ 24 by omega)]
  · simp only [derM, sI_2, sA_off hj]
  · show vp_updL c.2.2 n _ j = c.2.2 j
    exact pk_uLn hj
  · intro a ha
    by_cases q23 : a = 23
    · subst q23
      show upd (c.2.1 23) n how = upd (m.2.1 23) n how
      rw [h5 23 (by unfold shA; decide)]
    by_cases q24 : a = 24
    · subst q24
      show upd (c.2.1 24) n (nI ka) = upd (m.2.1 24) n (nI ka)
      rw [h5 24 (by unfold shA; decide)]
    by_cases q25 : a = 25
    · subst q25
      show upd (c.2.1 25) n (nI kb) = upd (m.2.1 25) n (nI kb)
      rw [h5 25 (by unfold shA; decide)]
    by_cases q20 : a = 20
    · subst q20
      show upd (c.2.1 20) n (m.2.1 20 ka) = upd (m.2.1 20) n (m.2.1 20 ka)
      rw [h5 20 (by unfold shA; decide)]
    by_cases q21 : a = 21
    · subst q21
      show upd (c.2.1 21) n d = upd (m.2.1 21) n d
      rw [h5 21 (by unfold shA; decide)]
    by_cases q22 : a = 22
    · subst q22
      show upd (c.2.1 22) n P = upd (m.2.1 22) n P
      rw [h5 22 (by unfold shA; decide)]
    by_cases q26 : a = 26
    · subst q26
      show upd (c.2.1 26) n 1 = upd (m.2.1 26) n 1
      rw [h5 26 (by unfold shA; decide)]
    simp only [derC, derM, sI_2, sL_2, sA_arr q23, sA_arr q24, sA_arr q25, sA_arr q20, sA_arr q21, sA_arr q22, sA_arr q26]
    exact h5 a ha
  · exact vp_in_iff.mpr (by show 0 ≤ (upd _ n (nI ka) n).toInt ∧ (upd _ n (nI ka) n).toInt < (100 : Nat); rw [nn, nI_toInt (by omega)]; omega)
  · exact vp_in_iff.mpr (by show 0 ≤ (upd _ n (nI kb) n).toInt ∧ (upd _ n (nI kb) n).toInt < (100 : Nat); rw [nn, nI_toInt (by omega)]; omega)
  · show vp_in (upd _ n (m.2.1 20 ka) n) 8
    rw [nn]; exact h.1.okM.2.1.2.1 ka
  · refine ⟨?_, fun _ => ⟨?_, ?_⟩, fun q => ?_, ?_, ?_, Or.inr (nn _ _)⟩
    · show upd _ n how n = -1 ∨ upd _ n how n = 0 ∨ upd _ n how n = 1 ∨ upd _ n how n = 2
      rw [nn]; exact Or.inr hw
    · show (upd _ n (nI ka) n).toInt < n
      rw [nn, nI_toInt (by omega)]; omega
    · show (upd _ n (nI kb) n).toInt < n
      rw [nn, nI_toInt (by omega)]; omega
    · have q2 : upd ((sA (sA (sI m 10 0) 24 n (nI ka)) 25 n (nI kb)).2.1 23) n how n = -1 := q
      rw [nn] at q2
      exact absurd q2 dn
    · show 0 ≤ (upd _ n d n).toInt ∧ (upd _ n d n).toInt ≤ 6944
      rw [nn]; exact hd
    · show (upd _ n (m.2.1 20 ka) n).toInt < (m.1 1).toInt
      rw [nn]; exact hitk.2.2.2.2.1
  · exact nn _ _
  · refine pk_uLs.trans ?_
    have v26 : (derM m n how (nI ka) (nI kb) (m.2.1 20 ka) d P).2.1 26 n = 1 := nn _ _
    have v23 : (derM m n how (nI ka) (nI kb) (m.2.1 20 ka) d P).2.1 23 n = how := nn _ _
    have v24 : (derM m n how (nI ka) (nI kb) (m.2.1 20 ka) d P).2.1 24 n = nI ka := nn _ _
    have v25 : (derM m n how (nI ka) (nI kb) (m.2.1 20 ka) d P).2.1 25 n = nI kb := nn _ _
    have va : (derM m n how (nI ka) (nI kb) (m.2.1 20 ka) d P).2.1 26 ka = m.2.1 26 ka := pk_un (by omega)
    have vb : (derM m n how (nI ka) (nI kb) (m.2.1 20 ka) d P).2.1 26 kb = m.2.1 26 kb := pk_un (by omega)
    unfold stepV
    rw [v26, v23, v24, v25, nI_clamp (by omega), nI_clamp (by omega), va, vb, if_neg (show ¬ (1 : Int32) = 0 by decide), if_neg dn, if_neg la, if_neg lb]
    show _ = (if how = 0 then (vp_updL c.2.2 n _) ka else if how = 1 then (vp_updL c.2.2 n _) ka + (vp_updL c.2.2 n _) kb else if lg_cmp ((vp_updL c.2.2 n _) ka) ((vp_updL c.2.2 n _) kb) ≤ 0 then 0 else 1)
    rw [pk_uLn (by omega), pk_uLn (by omega)]
    rcases hw with q | q | q
    · rw [q, if_neg (show ¬ (0 : Int32) = 1 by decide), if_neg (show ¬ (0 : Int32) = 2 by decide), if_pos rfl]
    · rw [q, if_pos rfl, if_neg (show ¬ (1 : Int32) = 0 by decide), if_pos rfl]
    · rw [q, if_neg (show ¬ (2 : Int32) = 1 by decide), if_pos rfl, if_neg (show ¬ (2 : Int32) = 0 by decide), if_neg (show ¬ (2 : Int32) = 1 by decide)]
theorem day_max (x y : Int32) : (if x < y then y else x) = (if x ≤ y then y else x) := by
  by_cases g : x < y
  · rw [if_pos g, if_pos]; rw [z_lt] at g; rw [z_le]; omega
  · rw [if_neg g]
    by_cases g2 : x ≤ y
    · rw [if_pos g2, z_eq]; rw [z_lt] at g; rw [z_le] at g2; omega
    · rw [if_neg g2]
theorem der_tail {c m : St} (h : Rel c m) (how a b : Int32) (hw : how = 0 ∨ how = 1 ∨ how = 2) (ga : ¬ sp_X10_isLiving m a = 0) (gb : ¬ sp_X10_isLiving m b = 0) :
    (if m.1 7 = 100 then ((0 : Int32), sI m 10 3) else (if m.2.1 21 a.toNatClampNeg ≤ m.2.1 21 b.toNatClampNeg then ((sp_X10_add (sA (sA (sI m 10 0) 24 ((m.1 7).toNatClampNeg) a) 25 ((m.1 7).toNatClampNeg) b) how (m.2.1 20 a.toNatClampNeg) (m.2.1 21 b.toNatClampNeg) ((m.2.1 22 a.toNatClampNeg) ||| (m.2.1 22 b.toNatClampNeg))).1, (sp_X10_add (sA (sA (sI m 10 0) 24 ((m.1 7).toNatClampNeg) a) 25 ((m.1 7).toNatClampNeg) b) how (m.2.1 20 a.toNatClampNeg) (m.2.1 21 b.toNatClampNeg) ((m.2.1 22 a.toNatClampNeg) ||| (m.2.1 22 b.toNatClampNeg))).2) else ((sp_X10_add (sA (sA (sI m 10 0) 24 ((m.1 7).toNatClampNeg) a) 25 ((m.1 7).toNatClampNeg) b) how (m.2.1 20 a.toNatClampNeg) (m.2.1 21 a.toNatClampNeg) ((m.2.1 22 a.toNatClampNeg) ||| (m.2.1 22 b.toNatClampNeg))).1, (sp_X10_add (sA (sA (sI m 10 0) 24 ((m.1 7).toNatClampNeg) a) 25 ((m.1 7).toNatClampNeg) b) how (m.2.1 20 a.toNatClampNeg) (m.2.1 21 a.toNatClampNeg) ((m.2.1 22 a.toNatClampNeg) ||| (m.2.1 22 b.toNatClampNeg))).2))).2.1 10 = cL (if 0 ≤ (sp_X5_addDerived c how a b).1 then ((0 : Int32), (sp_X5_addDerived c how a b).1, (sp_X5_addDerived c how a b).2) else (2, 0, (sp_X5_addDerived c how a b).2)).1 ∧
    ((if 0 ≤ (sp_X5_addDerived c how a b).1 then ((0 : Int32), (sp_X5_addDerived c how a b).1, (sp_X5_addDerived c how a b).2) else (2, 0, (sp_X5_addDerived c how a b).2)).1 = 0 → (if 0 ≤ (sp_X5_addDerived c how a b).1 then ((0 : Int32), (sp_X5_addDerived c how a b).1, (sp_X5_addDerived c how a b).2) else (2, 0, (sp_X5_addDerived c how a b).2)).2.1 = (if m.1 7 = 100 then ((0 : Int32), sI m 10 3) else (if m.2.1 21 a.toNatClampNeg ≤ m.2.1 21 b.toNatClampNeg then ((sp_X10_add (sA (sA (sI m 10 0) 24 ((m.1 7).toNatClampNeg) a) 25 ((m.1 7).toNatClampNeg) b) how (m.2.1 20 a.toNatClampNeg) (m.2.1 21 b.toNatClampNeg) ((m.2.1 22 a.toNatClampNeg) ||| (m.2.1 22 b.toNatClampNeg))).1, (sp_X10_add (sA (sA (sI m 10 0) 24 ((m.1 7).toNatClampNeg) a) 25 ((m.1 7).toNatClampNeg) b) how (m.2.1 20 a.toNatClampNeg) (m.2.1 21 b.toNatClampNeg) ((m.2.1 22 a.toNatClampNeg) ||| (m.2.1 22 b.toNatClampNeg))).2) else ((sp_X10_add (sA (sA (sI m 10 0) 24 ((m.1 7).toNatClampNeg) a) 25 ((m.1 7).toNatClampNeg) b) how (m.2.1 20 a.toNatClampNeg) (m.2.1 21 a.toNatClampNeg) ((m.2.1 22 a.toNatClampNeg) ||| (m.2.1 22 b.toNatClampNeg))).1, (sp_X10_add (sA (sA (sI m 10 0) 24 ((m.1 7).toNatClampNeg) a) 25 ((m.1 7).toNatClampNeg) b) how (m.2.1 20 a.toNatClampNeg) (m.2.1 21 a.toNatClampNeg) ((m.2.1 22 a.toNatClampNeg) ||| (m.2.1 22 b.toNatClampNeg))).2))).1) ∧
    Rel (if 0 ≤ (sp_X5_addDerived c how a b).1 then ((0 : Int32), (sp_X5_addDerived c how a b).1, (sp_X5_addDerived c how a b).2) else (2, 0, (sp_X5_addDerived c how a b).2)).2.2 (if m.1 7 = 100 then ((0 : Int32), sI m 10 3) else (if m.2.1 21 a.toNatClampNeg ≤ m.2.1 21 b.toNatClampNeg then ((sp_X10_add (sA (sA (sI m 10 0) 24 ((m.1 7).toNatClampNeg) a) 25 ((m.1 7).toNatClampNeg) b) how (m.2.1 20 a.toNatClampNeg) (m.2.1 21 b.toNatClampNeg) ((m.2.1 22 a.toNatClampNeg) ||| (m.2.1 22 b.toNatClampNeg))).1, (sp_X10_add (sA (sA (sI m 10 0) 24 ((m.1 7).toNatClampNeg) a) 25 ((m.1 7).toNatClampNeg) b) how (m.2.1 20 a.toNatClampNeg) (m.2.1 21 b.toNatClampNeg) ((m.2.1 22 a.toNatClampNeg) ||| (m.2.1 22 b.toNatClampNeg))).2) else ((sp_X10_add (sA (sA (sI m 10 0) 24 ((m.1 7).toNatClampNeg) a) 25 ((m.1 7).toNatClampNeg) b) how (m.2.1 20 a.toNatClampNeg) (m.2.1 21 a.toNatClampNeg) ((m.2.1 22 a.toNatClampNeg) ||| (m.2.1 22 b.toNatClampNeg))).1, (sp_X10_add (sA (sA (sI m 10 0) 24 ((m.1 7).toNatClampNeg) a) 25 ((m.1 7).toNatClampNeg) b) how (m.2.1 20 a.toNatClampNeg) (m.2.1 21 a.toNatClampNeg) ((m.2.1 22 a.toNatClampNeg) ||| (m.2.1 22 b.toNatClampNeg))).2))).2 := by
  have e := h.1.i 7
  have bb := okC_7 h.1.okC
  obtain ⟨ka, a0, a1, a2, a3, a4, a5, a6, a7⟩ := living_facts h.1 ga
  obtain ⟨kb, b0, b1, b2, b3, b4, b5, b6, b7⟩ := living_facts h.1 gb
  have hia := h.1.item ka a1
  have hib := h.1.item kb b1
  have eM : ∀ S : St, S.1 7 = m.1 7 → (if m.2.1 21 a.toNatClampNeg ≤ m.2.1 21 b.toNatClampNeg then ((sp_X10_add S how (m.2.1 20 a.toNatClampNeg) (m.2.1 21 b.toNatClampNeg) ((m.2.1 22 a.toNatClampNeg) ||| (m.2.1 22 b.toNatClampNeg))).1, (sp_X10_add S how (m.2.1 20 a.toNatClampNeg) (m.2.1 21 b.toNatClampNeg) ((m.2.1 22 a.toNatClampNeg) ||| (m.2.1 22 b.toNatClampNeg))).2) else ((sp_X10_add S how (m.2.1 20 a.toNatClampNeg) (m.2.1 21 a.toNatClampNeg) ((m.2.1 22 a.toNatClampNeg) ||| (m.2.1 22 b.toNatClampNeg))).1, (sp_X10_add S how (m.2.1 20 a.toNatClampNeg) (m.2.1 21 a.toNatClampNeg) ((m.2.1 22 a.toNatClampNeg) ||| (m.2.1 22 b.toNatClampNeg))).2)) = (m.1 7 + 1 - 1, (sp_X10_add S how (m.2.1 20 ka) (if m.2.1 21 ka < m.2.1 21 kb then m.2.1 21 kb else m.2.1 21 ka) ((m.2.1 22 ka) ||| (m.2.1 22 kb))).2) := by
    intro S hS
    rw [a2, b2, day_max]
    by_cases q : m.2.1 21 ka ≤ m.2.1 21 kb
    · simp only [if_pos q]; unfold sp_X10_add; rw [hS]
    · simp only [if_neg q]; unfold sp_X10_add; rw [hS]
  rw [eM (sA (sA (sI m 10 0) 24 ((m.1 7).toNatClampNeg) a) 25 ((m.1 7).toNatClampNeg) b) rfl]
  refine push_refL (sp_X5_addDerived c how a b) (addDer_eq h.1.okC how a b) h e (by rw [z100]; omega) (fun hl => ?_)
  obtain ⟨n, hn, en, ec, e1, e2, e3⟩ := cnt_lt (B := 100) bb (by decide) (by decide) hl
  refine ⟨by rw [e2]; exact nI_pos' (by omega), by rw [e], rfl, ?_⟩
  have em : m.1 7 = nI n := by rw [← e]; exact en
  have t7 : (m.1 7).toInt = n := by rw [em, nI_toInt (by omega)]
  have ecm : (m.1 7).toNatClampNeg = n := by rw [← e]; exact ec
  rw [a4, a5, b5, a6, b6, ec, ecm, a0, b0, en]
  have hD : 0 ≤ (if m.2.1 21 ka < m.2.1 21 kb then m.2.1 21 kb else m.2.1 21 ka).toInt ∧ (if m.2.1 21 ka < m.2.1 21 kb then m.2.1 21 kb else m.2.1 21 ka).toInt ≤ 6944 := by
    by_cases q : m.2.1 21 ka < m.2.1 21 kb
    · rw [if_pos q]; exact hib.2.2.2.1
    · rw [if_neg q]; exact hia.2.2.2.1
  have eA : ∀ a b K D P : Int32, (sp_X10_add (sA (sA (sI m 10 0) 24 n a) 25 n b) how K D P).2 = derM m n how a b K D P := by
    intro a b K D P
    have e9 : (sA (sA (sI m 10 0) 24 n a) 25 n b).1 7 = m.1 7 := rfl
    unfold sp_X10_add derM
    simp only [e9, ecm]
  rw [eA]
  exact der_rel h hn em hw (by omega) (by omega) a3 b3 hD _
theorem ref_derive {c m : St} (h : Rel c m) (a1 a2 a3 : Int32) : (sp_X10_derive m a1 a2 a3).2.1 10 = cL (sp_X9_derive c a1 a2 a3).1 ∧ ((sp_X9_derive c a1 a2 a3).1 = 0 → (sp_X9_derive c a1 a2 a3).2.1 = (sp_X10_derive m a1 a2 a3).1) ∧ Rel (sp_X9_derive c a1 a2 a3).2.2 (sp_X10_derive m a1 a2 a3).2 := by
  unfold sp_X9_derive sp_X10_derive
  rw [lives5 h.1, lives5 h.1]
  by_cases k0 : a1 = 0
  · have i0 : ¬ sp_X10_in a1 0 2 = 0 := by rw [k0]; decide
    simp only [if_pos k0, if_neg i0]
    by_cases ga : sp_X10_isLiving m a2 = 0
    · simp only [if_pos ga]; exact ⟨by show (1 : Int32) = cL 3; decide, fun e => absurd e (by decide), h.thr 1⟩
    · simp only [if_neg ga]
      exact der_tail h a1 a2 a2 (Or.inl k0) ga ga
  · simp only [if_neg k0]
    have kk : (a1 = 1 ∨ a1 = 2) ∨ sp_X10_in a1 0 2 = 0 := by
      rcases f_X10_in a1 0 2 with q | q
      · exact Or.inr q
      · refine Or.inl ?_
        rw [z_eq, z0] at k0
        rw [z0, show (2 : Int32).toInt = 2 from by decide] at q
        rcases (show a1.toInt = 1 ∨ a1.toInt = 2 by omega) with q1 | q1
        · exact Or.inl ((z_eq _ _).mpr q1)
        · exact Or.inr ((z_eq _ _).mpr q1)
    have tail : (a1 = 1 ∨ a1 = 2) → ∀ (X : Int32 × Int32 × St), X = (if a2 = a3 then (1, 0, c) else (if sp_X10_isLiving m a2 = 0 then (3, 0, c) else (if sp_X10_isLiving m a3 = 0 then (3, 0, c) else (if 0 ≤ (sp_X5_addDerived c a1 a2 a3).1 then (0, (sp_X5_addDerived c a1 a2 a3).1, (sp_X5_addDerived c a1 a2 a3).2) else (2, 0, (sp_X5_addDerived c a1 a2 a3).2))))) → ∀ Y : Int32 × St, Y = (if a2 = a3 then (0, sI m 10 2) else (if (sp_X10_isLiving m a2) = 0 then (0, sI m 10 1) else (if (sp_X10_isLiving m a3) = 0 then (0, sI m 10 1) else (if m.1 7 = 100 then ((0 : Int32), sI m 10 3) else (if m.2.1 21 a2.toNatClampNeg ≤ m.2.1 21 a3.toNatClampNeg then ((sp_X10_add (sA (sA (sI m 10 0) 24 ((m.1 7).toNatClampNeg) a2) 25 ((m.1 7).toNatClampNeg) a3) a1 (m.2.1 20 a2.toNatClampNeg) (m.2.1 21 a3.toNatClampNeg) ((m.2.1 22 a2.toNatClampNeg) ||| (m.2.1 22 a3.toNatClampNeg))).1, (sp_X10_add (sA (sA (sI m 10 0) 24 ((m.1 7).toNatClampNeg) a2) 25 ((m.1 7).toNatClampNeg) a3) a1 (m.2.1 20 a2.toNatClampNeg) (m.2.1 21 a3.toNatClampNeg) ((m.2.1 22 a2.toNatClampNeg) ||| (m.2.1 22 a3.toNatClampNeg))).2) else ((sp_X10_add (sA (sA (sI m 10 0) 24 ((m.1 7).toNatClampNeg) a2) 25 ((m.1 7).toNatClampNeg) a3) a1 (m.2.1 20 a2.toNatClampNeg) (m.2.1 21 a2.toNatClampNeg) ((m.2.1 22 a2.toNatClampNeg) ||| (m.2.1 22 a3.toNatClampNeg))).1, (sp_X10_add (sA (sA (sI m 10 0) 24 ((m.1 7).toNatClampNeg) a2) 25 ((m.1 7).toNatClampNeg) a3) a1 (m.2.1 20 a2.toNatClampNeg) (m.2.1 21 a2.toNatClampNeg) ((m.2.1 22 a2.toNatClampNeg) ||| (m.2.1 22 a3.toNatClampNeg))).2)))))) → Y.2.1 10 = cL X.1 ∧ (X.1 = 0 → X.2.1 = Y.1) ∧ Rel X.2.2 Y.2 := by
      intro hw X hX Y hY
      subst hX
      subst hY
      by_cases ge : a2 = a3
      · simp only [if_pos ge]; exact ⟨by show (2 : Int32) = cL 1; decide, fun e => absurd e (by decide), h.thr 2⟩
      simp only [if_neg ge]
      by_cases ga : sp_X10_isLiving m a2 = 0
      · simp only [if_pos ga]; exact ⟨by show (1 : Int32) = cL 3; decide, fun e => absurd e (by decide), h.thr 1⟩
      by_cases gb : sp_X10_isLiving m a3 = 0
      · simp only [if_neg ga, if_pos gb]; exact ⟨by show (1 : Int32) = cL 3; decide, fun e => absurd e (by decide), h.thr 1⟩
      simp only [if_neg ga, if_neg gb]
      exact der_tail h a1 a2 a3 (Or.inr hw) ga gb
    rcases kk with (k1 | k2) | kn
    · have i0 : ¬ sp_X10_in a1 0 2 = 0 := by rw [k1]; decide
      simp only [if_pos k1, if_neg i0]
      exact tail (Or.inl k1) _ rfl _ rfl
    · have i0 : ¬ sp_X10_in a1 0 2 = 0 := by rw [k2]; decide
      have i1 : ¬ a1 = 1 := by rw [k2]; decide
      simp only [if_neg i1, if_pos k2, if_neg i0]
      exact tail (Or.inr k2) _ rfl _ rfl
    · have i1 : ¬ a1 = 1 := fun q => by rw [q] at kn; exact absurd kn (by decide)
      have i2 : ¬ a1 = 2 := fun q => by rw [q] at kn; exact absurd kn (by decide)
      simp only [if_neg i1, if_neg i2, if_pos kn]
      exact ⟨by show (2 : Int32) = cL 1; decide, fun e => absurd e (by decide), h.thr 2⟩

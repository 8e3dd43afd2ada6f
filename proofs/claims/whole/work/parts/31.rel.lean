/-! PURE: the class's state and the reference's -/
theorem sA_2 (s : St) (a i b : Nat) (v : Int32) : (sA s a i v).2.1 b = if b = a then upd (s.2.1 a) i v else s.2.1 b := rfl
theorem sI_2 (s : St) (i : Nat) (v : Int32) : (sI s i v).2 = s.2 := rfl
theorem sL_2 (s : St) (i : Nat) (v : Int64) : (sL s i v).2.1 = s.2.1 := rfl
theorem z_lt (a b : Int32) : a < b ↔ a.toInt < b.toInt := Int32.lt_iff_toInt_lt
theorem z_le (a b : Int32) : a ≤ b ↔ a.toInt ≤ b.toInt := Int32.le_iff_toInt_le
theorem z_eq (a b : Int32) : a = b ↔ a.toInt = b.toInt := Int32.toInt_inj.symm
theorem z0 : (0 : Int32).toInt = 0 := by decide
theorem z1 : (1 : Int32).toInt = 1 := by decide
theorem zm1 : (-1 : Int32).toInt = -1 := by decide
theorem z100 : (100 : Int32).toInt = 100 := by decide
theorem z16 : (16 : Int32).toInt = 16 := by decide
theorem z6944 : (6944 : Int32).toInt = 6944 := by decide
theorem z6945 : (6945 : Int32).toInt = 6945 := by decide
theorem z5000 : (5000 : Int32).toInt = 5000 := by decide
theorem add_I (a b : Int32) (h1 : -1000000 ≤ a.toInt + b.toInt) (h2 : a.toInt + b.toInt ≤ 1000000) : (a + b).toInt = a.toInt + b.toInt := by
  rw [Int32.toInt_add]
  exact Int.bmod_eq_of_le (by omega) (by omega)
theorem subb_I (a b : Int32) (h1 : -1000000 ≤ a.toInt - b.toInt) (h2 : a.toInt - b.toInt ≤ 1000000) : (a - b).toInt = a.toInt - b.toInt := by
  rw [Int32.toInt_sub]
  exact Int.bmod_eq_of_le (by omega) (by omega)
theorem cnt_of {x : Int32} {N : Nat} (h : 0 ≤ x.toInt ∧ x.toInt ≤ N) (hN : N ≤ 1000) : ∃ n : Nat, n ≤ N ∧ x = nI n := ⟨x.toInt.toNat, by omega, by rw [z_eq, nI_toInt (by omega)]; omega⟩
theorem nI_tn {n : Nat} (h : n ≤ 1000) : (nI n).toInt.toNat = n := by rw [nI_toInt (by omega)]; omega
/-- arrays that both hold alike -/
def shA (a : Nat) : Prop := 0 < a ∧ a < 33 ∧ a ≠ 19 ∧ a ≠ 27 ∧ a ≠ 28
theorem shA_d (a : Nat) (h : 0 < a ∧ a < 33 ∧ a ≠ 19 ∧ a ≠ 27 ∧ a ≠ 28) : shA a := h
def AR (c m : St) : Prop := ∀ a, shA a → c.2.1 a = m.2.1 a
def CR (c m : St) : Prop := ∀ i, i < 10 → c.1 i = m.1 i
theorem AR.put {c m : St} (h : AR c m) (b : Nat) (hb : shA b) (i : Nat) (v : Int32) : AR (sA c b i v) (sA m b i v) := by
  intro a ha
  rw [sA_2, sA_2]
  by_cases e : a = b
  · rw [if_pos e, if_pos e, h b hb]
  · rw [if_neg e, if_neg e, h a ha]
theorem AR.putL {c m : St} (h : AR c m) (b : Nat) (hb : ¬ shA b) (i : Nat) (v : Int32) : AR (sA c b i v) m := by
  intro a ha
  have e : ¬ a = b := fun e => hb (e ▸ ha)
  rw [sA_2, if_neg e, h a ha]
theorem AR.putR {c m : St} (h : AR c m) (b : Nat) (hb : ¬ shA b) (i : Nat) (v : Int32) : AR c (sA m b i v) := by
  intro a ha
  have e : ¬ a = b := fun e => hb (e ▸ ha)
  rw [sA_2, if_neg e, h a ha]
theorem AR.left {c c2 m : St} (h : AR c m) (e : c2.2.1 = c.2.1) : AR c2 m := fun a ha => by rw [e]; exact h a ha
theorem AR.right {c m m2 : St} (h : AR c m) (e : m2.2.1 = m.2.1) : AR c m2 := fun a ha => by rw [e]; exact h a ha
theorem CR.put {c m : St} (h : CR c m) (i : Nat) (v : Int32) : CR (sI c i v) (sI m i v) := by
  intro j hj
  rw [sI_1, sI_1]
  by_cases e : j = i
  · rw [if_pos e, if_pos e]
  · rw [if_neg e, if_neg e, h j hj]
theorem CR.thr {c m : St} (h : CR c m) (v : Int32) : CR c (sI m 10 v) := by
  intro j hj
  rw [sI_1, if_neg (by omega)]
  exact h j hj
theorem CR.liv {c m : St} (h : CR c m) (v : Int32) : CR (sI c 10 v) m := by
  intro j hj
  rw [sI_1, if_neg (by omega)]
  exact h j hj
theorem CR.left {c c2 m : St} (h : CR c m) (e : c2.1 = c.1) : CR c2 m := fun a ha => by rw [e]; exact h a ha
theorem CR.right {c m m2 : St} (h : CR c m) (e : m2.1 = m.1) : CR c m2 := fun a ha => by rw [e]; exact h a ha
/-- at or above, by the parents -/
def anc (par : Nat → Int32) (u : Int32) : Nat → Int32 → Bool
  | 0, _ => false
  | n + 1, x => if x < 0 then false else if x = u then true else anc par u n (par x.toNatClampNeg)
def Tree (up par : Nat → Int32) (n : Int32) : Prop := ∀ u p : Nat, u < 16 → (p : Int) < n.toInt → ((up p >>> (nI u &&& 31)) &&& 1 = 1 ↔ anc par (nI u) 18 (nI p) = true)
def EndOK (x y : Int32) : Prop := (y.toInt < 0 ∧ x = 6945) ∨ (0 ≤ y.toInt ∧ y.toInt ≤ 6944 ∧ x = y)
def HoldsOK (n : Int32) (of st e1 e2 : Nat → Int32) : Prop := ∀ j : Nat, (j : Int) < n.toInt → EndOK (e1 j) (e2 j) ∧ ((0 ≤ (of j).toInt ∧ (of j).toInt < 16) ∨ (100 ≤ (of j).toInt ∧ (of j).toInt ≤ 107)) ∧ 0 ≤ (st j).toInt
def ItemOK (n kn : Int32) (how f s per day kind alive : Nat → Int32) : Prop := ∀ i : Nat, (i : Int) < n.toInt →
  (how i = -1 ∨ how i = 0 ∨ how i = 1 ∨ how i = 2) ∧ (how i ≠ -1 → (f i).toInt < i ∧ (s i).toInt < i) ∧ (how i = -1 → ∃ p : Nat, p < 16 ∧ per i = 1 <<< (nI p &&& 31)) ∧
  (0 ≤ (day i).toInt ∧ (day i).toInt ≤ 6944) ∧ (kind i).toInt < kn.toInt ∧ (alive i = 0 ∨ alive i = 1)
/-- a value out of its inputs' -/
def stepV (how f s alive word : Nat → Int32) (v : Nat → Int64) (i : Nat) : Int64 :=
  if alive i = 0 then 0 else if how i = -1 then (word i).toInt64 else
    if how i = 0 then (if alive (f i).toNatClampNeg = 0 then 0 else v (f i).toNatClampNeg)
    else if how i = 1 then (if alive (f i).toNatClampNeg = 0 then 0 else v (f i).toNatClampNeg) + (if alive (s i).toNatClampNeg = 0 then 0 else v (s i).toNatClampNeg)
    else if lg_cmp (if alive (f i).toNatClampNeg = 0 then 0 else v (f i).toNatClampNeg) (if alive (s i).toNatClampNeg = 0 then 0 else v (s i).toNatClampNeg) ≤ 0 then 0 else 1
def ValOK (n : Int32) (how f s alive word : Nat → Int32) (cv : Nat → Int64) : Prop := ∀ i : Nat, (i : Int) < n.toInt → alive i ≠ 0 → cv i = stepV how f s alive word cv i
def PutOK (n : Int32) (how alive word : Nat → Int32) (cv : Nat → Int64) : Prop := ∀ i : Nat, (i : Int) < n.toInt → alive i ≠ 0 → how i = -1 → cv i = (word i).toInt64
def aliveN (f : Nat → Int32) : Nat → Nat
  | 0 => 0
  | n + 1 => aliveN f n + (if f n = 0 then 0 else 1)
def LiveOK (n : Int32) (alive : Nat → Int32) (k : Int32) : Prop := k = nI (aliveN alive n.toInt.toNat)
def EntOK (m : St) : Prop := (∀ i : Nat, (i : Int) < (m.1 2).toInt → 0 ≤ (m.2.1 3 i).toInt ∧ (m.2.1 3 i).toInt < (m.1 0).toInt) ∧ (∀ i : Nat, (i : Int) < (m.1 3).toInt → 0 ≤ (m.2.1 7 i).toInt ∧ (m.2.1 7 i).toInt < (m.1 0).toInt) ∧ (∀ i : Nat, (i : Int) < (m.1 5).toInt → 0 ≤ (m.2.1 15 i).toInt ∧ (m.2.1 15 i).toInt ≤ 6944) ∧ ∀ i : Nat, (i : Int) < (m.1 1).toInt → 1 ≤ (m.2.1 1 i).toInt ∧ (m.2.1 1 i).toInt ≤ 5000
def RelW (c m : St) : Prop := okC c ∧ okM m ∧ 1 ≤ (m.1 0).toInt ∧ CR c m ∧ AR c m ∧ Tree (c.2.1 0) (m.2.1 0) (m.1 0) ∧ HoldsOK (m.1 6) (m.2.1 16) (m.2.1 18) (c.2.1 19) (m.2.1 19) ∧ ItemOK (m.1 7) (m.1 1) (m.2.1 23) (m.2.1 24) (m.2.1 25) (m.2.1 22) (m.2.1 21) (m.2.1 20) (m.2.1 26) ∧ PutOK (m.1 7) (m.2.1 23) (m.2.1 26) (m.2.1 28) c.2.2 ∧ LiveOK (m.1 7) (m.2.1 26) (c.1 10) ∧ EntOK m
def Rel (c m : St) : Prop := RelW c m ∧ ValOK (m.1 7) (m.2.1 23) (m.2.1 24) (m.2.1 25) (m.2.1 26) (m.2.1 28) c.2.2
theorem RelW.okC {c m : St} (h : RelW c m) : okC c := h.1
theorem RelW.okM {c m : St} (h : RelW c m) : okM m := h.2.1
theorem RelW.p1 {c m : St} (h : RelW c m) : 1 ≤ (m.1 0).toInt := h.2.2.1
theorem RelW.cr {c m : St} (h : RelW c m) : CR c m := h.2.2.2.1
theorem RelW.ar {c m : St} (h : RelW c m) : AR c m := h.2.2.2.2.1
theorem RelW.tree {c m : St} (h : RelW c m) : Tree (c.2.1 0) (m.2.1 0) (m.1 0) := h.2.2.2.2.2.1
theorem RelW.holds {c m : St} (h : RelW c m) : HoldsOK (m.1 6) (m.2.1 16) (m.2.1 18) (c.2.1 19) (m.2.1 19) := h.2.2.2.2.2.2.1
theorem RelW.item {c m : St} (h : RelW c m) : ItemOK (m.1 7) (m.1 1) (m.2.1 23) (m.2.1 24) (m.2.1 25) (m.2.1 22) (m.2.1 21) (m.2.1 20) (m.2.1 26) := h.2.2.2.2.2.2.2.1
theorem RelW.put {c m : St} (h : RelW c m) : PutOK (m.1 7) (m.2.1 23) (m.2.1 26) (m.2.1 28) c.2.2 := h.2.2.2.2.2.2.2.2.1
theorem RelW.live {c m : St} (h : RelW c m) : LiveOK (m.1 7) (m.2.1 26) (c.1 10) := h.2.2.2.2.2.2.2.2.2.1
theorem RelW.ent {c m : St} (h : RelW c m) : EntOK m := h.2.2.2.2.2.2.2.2.2.2
/-- arrays by number -/
theorem RelW.a {c m : St} (h : RelW c m) (a : Nat) (ha : 0 < a ∧ a < 33 ∧ a ≠ 19 ∧ a ≠ 27 ∧ a ≠ 28 := by decide) : c.2.1 a = m.2.1 a := h.ar a ha
theorem RelW.i {c m : St} (h : RelW c m) (i : Nat) (hi : i < 10 := by decide) : c.1 i = m.1 i := h.cr i hi
theorem okM_thr {m : St} (h : okM m) (v : Int32) : okM (sI m 10 v) := h
theorem RelW.thr {c m : St} (h : RelW c m) (v : Int32) : RelW c (sI m 10 v) := ⟨h.1, h.2.1, h.2.2.1, h.cr.thr v, h.2.2.2.2.1, h.2.2.2.2.2⟩
theorem Rel.thr {c m : St} (h : Rel c m) (v : Int32) : Rel c (sI m 10 v) := ⟨h.1.thr v, h.2⟩
/-- the reference's own values don't count -/
theorem Rel.mv {c m m2 : St} (h : Rel c m) (e1 : m2.1 = m.1) (e2 : m2.2.1 = m.2.1) : Rel c m2 := by
  obtain ⟨i, a, v⟩ := m
  obtain ⟨i2, a2, v2⟩ := m2
  have q1 : i2 = i := e1
  have q2 : a2 = a := e2
  subst q1; subst q2
  exact h
/-- nor do the marks -/
theorem RelW.k27 {c m c2 m2 : St} (h : RelW c m) (e1 : c2.1 = c.1) (e2 : c2.2.2 = c.2.2) (e3 : ∀ b, b ≠ 27 → c2.2.1 b = c.2.1 b) (f1 : m2.1 = m.1) (f3 : ∀ b, b ≠ 27 → m2.2.1 b = m.2.1 b) : RelW c2 m2 := by
  obtain ⟨h1, h2, h3, h4, h5, h6, h7, h8, h9, h10, h11⟩ := h
  refine ⟨?_, okM_cong f1 f3 h2, ?_, ?_, ?_, ?_, ?_, ?_, ?_, ?_, ?_⟩
  · exact okC_cong (fun j _ => by rw [e1]) h1
  · rw [f1]; exact h3
  · intro i hi; rw [e1, f1]; exact h4 i hi
  · intro a ha; rw [e3 a ha.2.2.2.1, f3 a ha.2.2.2.1]; exact h5 a ha
  · rw [e3 0 (by decide), f3 0 (by decide), f1]; exact h6
  · rw [e3 19 (by decide), f3 19 (by decide), f3 16 (by decide), f3 18 (by decide), f1]; exact h7
  · rw [f3 23 (by decide), f3 24 (by decide), f3 25 (by decide), f3 22 (by decide), f3 21 (by decide), f3 20 (by decide), f3 26 (by decide), f1]; exact h8
  · rw [f3 23 (by decide), f3 26 (by decide), f3 28 (by decide), f1, e2]; exact h9
  · rw [f3 26 (by decide), f1, e1]; exact h10
  · obtain ⟨t1, t2, t3, t4⟩ := h11
    unfold EntOK
    rw [f1, f3 3 (by decide), f3 7 (by decide), f3 15 (by decide), f3 1 (by decide)]
    exact ⟨t1, t2, t3, t4⟩
theorem span_in (a : Int32) : sp_X9_isSpanOfDays a = sp_X10_in a 1 5000 := rfl
theorem day_in (a : Int32) : sp_X9_isDay a = sp_X10_in a 0 6944 := rfl
theorem min_in (a : Int32) : sp_X9_isMinute a = sp_X10_isMinute a := rfl
theorem per_in (a : Int32) : sp_X9_isPerson a = sp_X10_isPerson a := by
  unfold sp_X9_isPerson sp_X10_isPerson sp_X10_in
  by_cases h : a < 0
  · rw [if_pos h, if_pos h]
  · rw [if_neg h, if_neg h]
    have y2 : (15 : Int32).toInt = 15 := by decide
    have y1 := z16
    by_cases h2 : (16 : Int32) ≤ a
    · rw [if_pos h2, if_pos]
      rw [z_le] at h2; rw [z_lt]
      omega
    · rw [if_neg h2, if_neg]
      rw [z_le] at h2; rw [z_lt]
      omega
/-- 'in 0 .. n - 1' and 'has' -/
theorem has_in {a n : Int32} (h0 : 0 ≤ n.toInt) (h1 : n.toInt ≤ 1000) : (if a < 0 then (0 : Int32) else if n ≤ a then 0 else 1) = sp_X10_in a 0 (n - 1) := by
  unfold sp_X10_in
  by_cases h : a < 0
  · rw [if_pos h, if_pos h]
  · rw [if_neg h, if_neg h]
    have z := sub_I n (by omega) (by omega)
    by_cases h2 : n ≤ a
    · rw [if_pos h2, if_pos]
      rw [z_le] at h2; rw [z_lt]
      omega
    · rw [if_neg h2, if_neg]
      rw [z_le] at h2; rw [z_lt]
      omega
theorem has8 {c m : St} (h : RelW c m) (a : Int32) : sp_X8_has c a = sp_X10_isPurpose m a := by
  have e := h.i 0
  have b := okC_0 h.okC
  unfold sp_X8_has sp_X10_isPurpose
  rw [has_in (by omega) (by omega), e]
theorem has6 {c m : St} (h : RelW c m) (a : Int32) : sp_X6_has c a = sp_X10_isKind m a := by
  have e := h.i 1
  have b := okC_1 h.okC
  unfold sp_X6_has sp_X10_isKind
  rw [has_in (by omega) (by omega), e]
theorem has4 {c m : St} (h : RelW c m) (a : Int32) : sp_X4_has c a = sp_X10_in a 0 (m.1 6 - 1) := by
  have e := h.i 6
  have b := okC_6 h.okC
  unfold sp_X4_has
  rw [has_in (by omega) (by omega), e]
theorem has5 {c m : St} (h : RelW c m) (a : Int32) : sp_X5_has c a = sp_X10_in a 0 (m.1 7 - 1) := by
  have e := h.i 7
  have b := okC_7 h.okC
  unfold sp_X5_has
  rw [has_in (by omega) (by omega), e]
theorem lives5 {c m : St} (h : RelW c m) (a : Int32) : sp_X5_lives c a = sp_X10_isLiving m a := by
  unfold sp_X5_lives sp_X10_isLiving
  rw [has5 h, h.a 26]
/-- an item's number in range -/
theorem has5_nI {c : St} {n k : Nat} (e : c.1 7 = nI n) (hn : n ≤ 1000) (hk : k < n) : sp_X5_has c (nI k) = 1 := by
  unfold sp_X5_has
  rw [if_neg (nI_pos (by omega)), e, if_neg (nI_ge hk (by omega))]
theorem lives5_nI {c : St} {n k : Nat} (e : c.1 7 = nI n) (hn : n ≤ 1000) (hk : k < n) : sp_X5_lives c (nI k) = if c.2.1 26 k = 0 then 0 else 1 := by
  unfold sp_X5_lives
  rw [has5_nI e hn hk, if_neg (by decide), nI_clamp (by omega)]
theorem put5_nI {c : St} {n k : Nat} (e : c.1 7 = nI n) (hn : n ≤ 1000) (hk : k < n) : sp_X5_isPut c (nI k) = if c.2.1 23 k = -1 then 1 else 0 := by
  unfold sp_X5_isPut
  rw [has5_nI e hn hk, if_neg (by decide), nI_clamp (by omega)]
theorem kept5_nI {c : St} {n k : Nat} (e : c.1 7 = nI n) (hn : n ≤ 1000) (hk : k < n) : sp_X5_isKept c (nI k) = if c.2.1 27 k = 0 then 0 else 1 := by
  unfold sp_X5_isKept
  rw [has5_nI e hn hk, if_neg (by decide), nI_clamp (by omega)]
theorem about5_nI {c : St} {n k : Nat} (e : c.1 7 = nI n) (hn : n ≤ 1000) (hk : k < n) (a : Int32) : sp_X5_isAbout c (nI k) a = if (c.2.1 22 k >>> (a &&& 31)) &&& 1 = 1 then 1 else 0 := by
  unfold sp_X5_isAbout sp_X9_isAmong
  rw [has5_nI e hn hk, if_neg (by decide), nI_clamp (by omega)]
  by_cases q : (c.2.1 22 k >>> (a &&& 31)) &&& 1 = 1
  · rw [if_pos q]; rfl
  · rw [if_neg q]; rfl
theorem if10 {p : Prop} [Decidable p] : ((if p then (0 : Int32) else 1) = 0) ↔ p := by
  by_cases h : p
  · simp [h]
  · simp [h]
theorem if01 {p : Prop} [Decidable p] : ((if p then (1 : Int32) else 0) = 0) ↔ ¬ p := by
  by_cases h : p
  · simp [h]
  · simp [h]

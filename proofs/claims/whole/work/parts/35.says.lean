/-! consents: the nearest purpose's latest entry -/
def candS (m : St) (a1 a3 : Int32) (i : Nat) : Prop := m.2.1 2 i = a1 ∧ ¬ a3 < m.2.1 4 i
def keyLe (m : St) (i b : Nat) : Prop := (m.2.1 3 i).toInt < (m.2.1 3 b).toInt ∨ ((m.2.1 3 i).toInt = (m.2.1 3 b).toInt ∧ ((m.2.1 4 i).toInt < (m.2.1 4 b).toInt ∨ ((m.2.1 4 i).toInt = (m.2.1 4 b).toInt ∧ i ≤ b)))
theorem keyLe.rf (m : St) (i : Nat) : keyLe m i i := Or.inr ⟨rfl, Or.inr ⟨rfl, Nat.le_refl _⟩⟩
theorem keyLe.tr {m : St} {i j k : Nat} (h1 : keyLe m i j) (h2 : keyLe m j k) : keyLe m i k := by
  unfold keyLe at *; omega
theorem keyLe.as {m : St} {i j : Nat} (h1 : keyLe m i j) (h2 : keyLe m j i) : i = j := by
  unfold keyLe at *; omega
def isBest (m : St) (Pr : Nat → Prop) (x : Nat) (b : Int32) : Prop := (b = -1 ∧ ∀ i, i < x → ¬ Pr i) ∨ ∃ j : Nat, j < x ∧ b = nI j ∧ Pr j ∧ ∀ i, i < x → Pr i → keyLe m i j
theorem isBest.uniq {m : St} {Pr : Nat → Prop} {x : Nat} {b b' : Int32} (h1 : isBest m Pr x b) (h2 : isBest m Pr x b') : b = b' := by
  rcases h1 with ⟨e1, n1⟩ | ⟨j, l1, e1, p1, k1⟩
  · rcases h2 with ⟨e2, n2⟩ | ⟨j2, l2, e2, p2, k2⟩
    · rw [e1, e2]
    · exact absurd p2 (n1 j2 l2)
  · rcases h2 with ⟨e2, n2⟩ | ⟨j2, l2, e2, p2, k2⟩
    · exact absurd p1 (n2 j l1)
    · rw [e1, e2, keyLe.as (k2 j l1 p1) (k1 j2 l2 p2)]
theorem isBest.cong {m : St} {Pr Pr' : Nat → Prop} {x : Nat} {b : Int32} (h : ∀ i, i < x → (Pr i ↔ Pr' i)) (hb : isBest m Pr x b) : isBest m Pr' x b := by
  rcases hb with ⟨e1, n1⟩ | ⟨j, l1, e1, p1, k1⟩
  · exact Or.inl ⟨e1, fun i hi z => n1 i hi ((h i hi).mpr z)⟩
  · exact Or.inr ⟨j, l1, e1, (h j l1).mp p1, fun i hi z => k1 i hi ((h i hi).mpr z)⟩
theorem isBest.no {m : St} {Pr : Nat → Prop} {x : Nat} {b : Int32} (hb : isBest m Pr x b) (h : ¬ Pr x) : isBest m Pr (x + 1) b := by
  rcases hb with ⟨e1, n1⟩ | ⟨j, l1, e1, p1, k1⟩
  · refine Or.inl ⟨e1, fun i hi z => ?_⟩
    by_cases q : i = x
    · exact h (q ▸ z)
    · exact n1 i (by omega) z
  · refine Or.inr ⟨j, by omega, e1, p1, fun i hi z => ?_⟩
    by_cases q : i = x
    · exact absurd (q ▸ z) h
    · exact k1 i (by omega) z
theorem isBest.fst {m : St} {Pr : Nat → Prop} {x : Nat} (hb : isBest m Pr x (-1)) (hx : x < 1000) (h : Pr x) : isBest m Pr (x + 1) (nI x) := by
  rcases hb with ⟨e1, n1⟩ | ⟨j, l1, e1, p1, k1⟩
  · refine Or.inr ⟨x, by omega, rfl, h, fun i hi z => ?_⟩
    by_cases q : i = x
    · rw [q]; exact keyLe.rf m x
    · exact absurd z (n1 i (by omega))
  · exact absurd e1 (fun z => by rw [z_eq, zm1, nI_toInt (by omega)] at z; omega)
theorem isBest.old {m : St} {Pr : Nat → Prop} {x j : Nat} (hb : isBest m Pr x (nI j)) (hj : j < 1000) (hx : x < 1000) (h : keyLe m x j) : isBest m Pr (x + 1) (nI j) := by
  rcases hb with ⟨e1, n1⟩ | ⟨i1, l1, e1, p1, k1⟩
  · exact absurd e1 (fun z => by rw [z_eq, zm1, nI_toInt (by omega)] at z; omega)
  · have e2 : j = i1 := (nI_eq (by omega) (by omega)).mp e1
    subst e2
    refine Or.inr ⟨j, by omega, rfl, p1, fun i hi z => ?_⟩
    by_cases q : i = x
    · rw [q]; exact h
    · exact k1 i (by omega) z
theorem isBest.new {m : St} {Pr : Nat → Prop} {x j : Nat} (hb : isBest m Pr x (nI j)) (hj : j < 1000) (hx : x < 1000) (hp : Pr x) (h : keyLe m j x) : isBest m Pr (x + 1) (nI x) := by
  rcases hb with ⟨e1, n1⟩ | ⟨i1, l1, e1, p1, k1⟩
  · exact absurd e1 (fun z => by rw [z_eq, zm1, nI_toInt (by omega)] at z; omega)
  · have e2 : j = i1 := (nI_eq (by omega) (by omega)).mp e1
    subst e2
    refine Or.inr ⟨x, by omega, rfl, hp, fun i hi z => ?_⟩
    by_cases q : i = x
    · rw [q]; exact keyLe.rf m x
    · exact (k1 i (by omega) z).tr h
theorem outr_ref {c m : St} (h : RelW c m) {k j : Nat} (hk : k < 1000) (hj : j < k) : (sp_X0_outranks c (nI k) (nI j) = 0 → keyLe m k j) ∧ (¬ sp_X0_outranks c (nI k) (nI j) = 0 → keyLe m j k) := by
  unfold sp_X0_outranks keyLe
  rw [nI_clamp (by omega), nI_clamp (by omega), h.a 3, h.a 4]
  by_cases g1 : m.2.1 3 k = m.2.1 3 j
  · rw [if_pos g1, if10]
    rw [z_eq] at g1
    rw [z_lt]
    exact ⟨fun z => by omega, fun z => by omega⟩
  · rw [if_neg g1, if10]
    rw [z_eq] at g1
    rw [z_le]
    exact ⟨fun z => by omega, fun z => by omega⟩
def PrA (m : St) (a1 a3 : Int32) (n : Nat) (p : Int32) (i : Nat) : Prop := candS m a1 a3 i ∧ anc (m.2.1 0) (m.2.1 3 i) n p = true
def PrP (m : St) (a1 a3 p : Int32) (i : Nat) : Prop := candS m a1 a3 i ∧ m.2.1 3 i = p
theorem isBest.cases {m : St} {Pr : Nat → Prop} {x : Nat} {b : Int32} (hb : isBest m Pr x b) : b = -1 ∨ ∃ j : Nat, j < x ∧ b = nI j ∧ Pr j := by
  rcases hb with ⟨e1, n1⟩ | ⟨j, l1, e1, p1, k1⟩
  · exact Or.inl e1
  · exact Or.inr ⟨j, l1, e1, p1⟩
theorem saysC_lp {c m : St} (h : RelW c m) {N : Nat} (hN : m.1 2 = nI N) (hN2 : N ≤ 100) (a1 a2 a3 : Int32) (ha : 0 ≤ a2.toInt ∧ a2.toInt < (m.1 0).toInt) : ∀ (n k : Nat) (b : Int32), k ≤ N → N < k + n → isBest m (PrA m a1 a3 18 a2) k b →
    ∃ b', isBest m (PrA m a1 a3 18 a2) N b' ∧ lp_X0_saysYes_6 c a1 a2 a3 n (nI k) b = if b' = -1 then 0 else (if m.2.1 5 b'.toNatClampNeg = 0 then 0 else 1) := by
  intro n
  induction n with
  | zero => intro k b h1 h2; exact absurd h2 (by omega)
  | succ n ih =>
    intro k b h1 h2 hb
    rw [lp_X0_saysYes_6, h.i 2, hN]
    by_cases g : k = N
    · have q : nI N ≤ nI k := by rw [g]; exact nI_le (Nat.le_refl _) (by omega)
      rw [if_pos q, h.a 5]
      exact ⟨b, g ▸ hb, rfl⟩
    · have q : ¬ nI N ≤ nI k := nI_ge (by omega) (by omega)
      rw [if_neg q, ← nI_succ, nI_clamp (by omega), h.a 2, h.a 3, h.a 4]
      have hent := h.ent.1 k (by rw [hN, nI_toInt (by omega)]; omega)
      rw [above_ref h hent ha]
      by_cases w1 : m.2.1 2 k = a1
      · rw [if_pos w1]
        by_cases w2 : a3 < m.2.1 4 k
        · rw [if_pos w2]
          exact ih (k + 1) b (by omega) (by omega) (hb.no (fun z => z.1.2 w2))
        · rw [if_neg w2]
          by_cases w3 : anc (m.2.1 0) (m.2.1 3 k) 18 a2 = true
          · have hp : PrA m a1 a3 18 a2 k := ⟨⟨w1, w2⟩, w3⟩
            have d1 : ¬ (1 : Int32) = 0 := by decide
            rw [if_pos w3, if_neg d1]
            rcases hb.cases with e | ⟨j, hj, e, -⟩
            · subst e
              rw [if_pos rfl]
              exact ih (k + 1) _ (by omega) (by omega) (hb.fst (by omega) hp)
            · subst e
              have ne : ¬ nI j = -1 := fun z => by rw [z_eq, zm1, nI_toInt (by omega)] at z; omega
              rw [if_neg ne]
              have ho := outr_ref h (k := k) (j := j) (by omega) hj
              by_cases w4 : sp_X0_outranks c (nI k) (nI j) = 0
              · rw [if_pos w4]
                exact ih (k + 1) _ (by omega) (by omega) (hb.old (by omega) (by omega) (ho.1 w4))
              · rw [if_neg w4]
                exact ih (k + 1) _ (by omega) (by omega) (hb.new (by omega) (by omega) hp (ho.2 w4))
          · rw [if_neg w3, if_pos rfl]
            exact ih (k + 1) b (by omega) (by omega) (hb.no (fun z => w3 z.2))
      · rw [if_neg w1]
        exact ih (k + 1) b (by omega) (by omega) (hb.no (fun z => w1 z.1.1))
theorem saysM_in {m : St} {N : Nat} (hN : m.1 2 = nI N) (hN2 : N ≤ 100) (a1 a2 a3 p : Int32) (K : Int32 → Int32) : ∀ (n k : Nat) (b : Int32), k ≤ N → N < k + n → isBest m (PrP m a1 a3 p) k b →
    ∃ b', isBest m (PrP m a1 a3 p) N b' ∧ lp_X10_saysYes_14 m a1 a2 a3 p K n (nI k) b = if b' < 0 then K (m.2.1 0 p.toNatClampNeg) else m.2.1 5 b'.toNatClampNeg := by
  intro n
  induction n with
  | zero => intro k b h1 h2; exact absurd h2 (by omega)
  | succ n ih =>
    intro k b h1 h2 hb
    rw [lp_X10_saysYes_14, hN]
    by_cases g : k = N
    · have q : nI N ≤ nI k := by rw [g]; exact nI_le (Nat.le_refl _) (by omega)
      rw [if_pos q]
      exact ⟨b, g ▸ hb, rfl⟩
    · have q : ¬ nI N ≤ nI k := nI_ge (by omega) (by omega)
      rw [if_neg q, ← nI_succ, nI_clamp (by omega)]
      by_cases w1 : m.2.1 2 k = a1
      · rw [if_pos w1]
        by_cases w3 : m.2.1 3 k = p
        · rw [if_pos w3]
          by_cases w2 : a3 < m.2.1 4 k
          · rw [if_pos w2]
            exact ih (k + 1) b (by omega) (by omega) (hb.no (fun z => z.1.2 w2))
          · have hp : PrP m a1 a3 p k := ⟨⟨w1, w2⟩, w3⟩
            rw [if_neg w2]
            rcases hb.cases with e | ⟨j, hj, e, hpj⟩
            · subst e
              rw [if_pos (by decide)]
              exact ih (k + 1) _ (by omega) (by omega) (hb.fst (by omega) hp)
            · subst e
              rw [if_neg (nI_pos (by omega)), nI_clamp (by omega)]
              have ep : (m.2.1 3 k).toInt = (m.2.1 3 j).toInt := by rw [w3, hpj.2]
              by_cases w4 : m.2.1 4 k < m.2.1 4 j
              · rw [if_pos w4]
                rw [z_lt] at w4
                exact ih (k + 1) _ (by omega) (by omega) (hb.old (by omega) (by omega) (by unfold keyLe; omega))
              · rw [if_neg w4]
                rw [z_lt] at w4
                exact ih (k + 1) _ (by omega) (by omega) (hb.new (by omega) (by omega) hp (by unfold keyLe; omega))
        · rw [if_neg w3]
          exact ih (k + 1) b (by omega) (by omega) (hb.no (fun z => w3 z.2))
      · rw [if_neg w1]
        exact ih (k + 1) b (by omega) (by omega) (hb.no (fun z => w1 z.1.1))
theorem saysM_out {m : St} (hk : okM m) {N : Nat} (hN : m.1 2 = nI N) (hN2 : N ≤ 100) (a1 a2 a3 : Int32) : ∀ (n : Nat) (p : Int32),
    ∃ b', isBest m (PrA m a1 a3 n p) N b' ∧ lp_X10_saysYes_3 m a1 a2 a3 n p = if b' = -1 then 0 else m.2.1 5 b'.toNatClampNeg := by
  intro n
  induction n with
  | zero => intro p; exact ⟨-1, Or.inl ⟨rfl, fun i _ z => absurd z.2 (by simp [anc])⟩, by rw [if_pos rfl]; rfl⟩
  | succ n ih =>
    intro p
    rw [lp_X10_saysYes_3]
    by_cases g : p < 0
    · rw [if_pos g]
      exact ⟨-1, Or.inl ⟨rfl, fun i _ z => absurd z.2 (by rw [anc, if_pos g]; decide)⟩, by rw [if_pos rfl]⟩
    · rw [if_neg g, hN, nI_tn (by omega)]
      obtain ⟨b1, hb1, e1⟩ := saysM_in hN hN2 a1 a2 a3 p (lp_X10_saysYes_3 m a1 a2 a3 n) (N + 1) 0 (-1) (by omega) (by omega) (Or.inl ⟨rfl, fun i hi => absurd hi (by omega)⟩)
      rw [nI_0] at e1
      rw [e1]
      rcases hb1 with ⟨eb, nb⟩ | ⟨j, hj, eb, pj, kj⟩
      · subst eb
        rw [if_pos (by decide)]
        obtain ⟨b2, hb2, e2⟩ := ih (m.2.1 0 p.toNatClampNeg)
        refine ⟨b2, hb2.cong (fun i hi => ?_), e2⟩
        unfold PrA
        rw [anc, if_neg g]
        constructor
        · intro z
          refine ⟨z.1, ?_⟩
          split
          · rfl
          · exact z.2
        · intro z
          refine ⟨z.1, ?_⟩
          have z2 := z.2
          by_cases q : p = m.2.1 3 i
          · exact absurd ⟨z.1, q.symm⟩ (nb i hi)
          · rw [if_neg q] at z2; exact z2
      · subst eb
        rw [if_neg (nI_pos (by omega))]
        refine ⟨nI j, Or.inr ⟨j, hj, rfl, ⟨pj.1, by rw [anc, if_neg g, if_pos pj.2.symm]⟩, fun i hi z => ?_⟩, ?_⟩
        · have z2 := z.2
          rw [anc, if_neg g] at z2
          by_cases q : p = m.2.1 3 i
          · exact kj i hi ⟨z.1, q.symm⟩
          · rw [if_neg q] at z2
            have a1 := anc_le (fun j => (okM_par hk j).2) _ _ _ z2
            have a2 := (okM_par hk p.toNatClampNeg).2
            rw [tnc] at a1 a2
            rw [z_lt, z0] at g
            left
            rw [pj.2]
            omega
        · rw [if_neg (fun z => by rw [z_eq, zm1, nI_toInt (by omega)] at z; omega)]
theorem says_ref {c m : St} (h : RelW c m) (a1 a2 a3 : Int32) (ha : 0 ≤ a2.toInt ∧ a2.toInt < (m.1 0).toInt) : sp_X0_saysYes c a1 a2 a3 = sp_X10_saysYes m a1 a2 a3 := by
  obtain ⟨N, hN2, hN⟩ := cnt_of (N := 100) (okM_2 h.okM) (by omega)
  unfold sp_X0_saysYes sp_X10_saysYes
  obtain ⟨b1, hb1, e1⟩ := saysC_lp h hN hN2 a1 a2 a3 ha (N + 1) 0 (-1) (by omega) (by omega) (Or.inl ⟨rfl, fun i hi => absurd hi (by omega)⟩)
  obtain ⟨b2, hb2, e2⟩ := saysM_out h.okM hN hN2 a1 a2 a3 18 a2
  rw [nI_0] at e1
  rw [h.i 2, hN, nI_tn (by omega), e1, e2, hb1.uniq hb2]
  by_cases q : b2 = -1
  · rw [if_pos q, if_pos q]
  · rw [if_neg q, if_neg q]
    rcases okM_says h.okM b2.toNatClampNeg with w | w
    · rw [w, if_pos rfl]
    · rw [w, if_neg (by decide)]
theorem all_lp {c m : St} (h : RelW c m) (it a2 a3 : Int32) (ha : 0 ≤ a2.toInt ∧ a2.toInt < (m.1 0).toInt) : ∀ (n : Nat) (x : Int32), lp_X0_allSayYes_3 c (m.2.1 22 it.toNatClampNeg) a2 a3 n x = lp_X10_allSayYes_3 m it a2 a3 n x := by
  intro n
  induction n with
  | zero => intro x; rfl
  | succ n ih =>
    intro x
    rw [lp_X0_allSayYes_3, lp_X10_allSayYes_3, ih, says_ref h x a2 a3 ha]
    unfold sp_X9_isAmong
    by_cases w : (m.2.1 22 it.toNatClampNeg >>> (x &&& 31)) &&& 1 = 1
    · have d1 : ¬ (1 : Int32) = 0 := by decide
      simp only [if_pos w, if_neg d1]
    · simp only [if_neg w, if_true]
/-- the ground, once the holds are read -/
def gF (m : St) (it a2 a3 hh aa : Int32) : Int32 := if hh = 0 then (if sp_X10_allSayYes m it a2 a3 = 0 then (if sp_X10_hasContract m it a2 a3 = 0 then (if sp_X10_hasDuty m it a2 (a3 / 1440) = 0 then (if aa = 0 then 0 else 4) else 3) else 2) else 1) else (if aa = 0 then 0 else 4)
theorem ground_lp {c m : St} (h : RelW c m) {N : Nat} (hN : m.1 6 = nI N) (hN2 : N ≤ 30) (it a2 a3 : Int32) (hd : (a3 / 1440).toInt ≤ 6944) : ∀ (n k : Nat) (hh aa : Int32), k ≤ N → N < k + n → (hh = 0 ∨ hh = 1) → (aa = 0 ∨ aa = 1) →
    lp_X10_groundOf_16 m it a2 a3 n (nI k) hh aa = gF m it a2 a3 (if hh = 0 then lp_X4_coverPersons_2 c (m.2.1 22 it.toNatClampNeg) (a3 / 1440) n (nI k) else 1) (if aa = 0 then lp_X4_allow_3 c (m.2.1 22 it.toNatClampNeg) (m.2.1 20 it.toNatClampNeg) a2 (a3 / 1440) n (nI k) else 1) := by
  have d1 : ¬ (1 : Int32) = 0 := by decide
  intro n
  induction n with
  | zero => intro k hh aa h1 h2; exact absurd h2 (by omega)
  | succ n ih =>
    intro k hh aa h1 h2 hh1 aa1
    rw [lp_X10_groundOf_16, lp_X4_coverPersons_2, lp_X4_allow_3, h.i 6, hN]
    by_cases g : k = N
    · have q : nI N ≤ nI k := by rw [g]; exact nI_le (Nat.le_refl _) (by omega)
      simp only [if_pos q]
      unfold gF
      rcases hh1 with rfl | rfl <;> rcases aa1 with rfl | rfl <;> simp only [d1, if_true, if_false]
    · have q : ¬ nI N ≤ nI k := nI_ge (by omega) (by omega)
      simp only [if_neg q]
      rw [← nI_succ, nI_clamp (by omega), h.a 17]
      have hj : (k : Int) < (m.1 6).toInt := by rw [hN, nI_toInt (by omega)]; omega
      have i00 := ih (k + 1) 0 0 (by omega) (by omega) (Or.inl rfl) (Or.inl rfl)
      have i01 := ih (k + 1) 0 1 (by omega) (by omega) (Or.inl rfl) (Or.inr rfl)
      have i10 := ih (k + 1) 1 0 (by omega) (by omega) (Or.inr rfl) (Or.inl rfl)
      have i11 := ih (k + 1) 1 1 (by omega) (by omega) (Or.inr rfl) (Or.inr rfl)
      simp only [d1, if_true, if_false] at i00 i01 i10 i11
      have rr := runs_ref h hj hd
      have rp := ofp_ref h hj (m.2.1 22 it.toNatClampNeg)
      have rc := hcov h hj (it := it) hd
      have rm := hcovM (m := m) (j := k) (by omega) it (a3 / 1440)
      by_cases w : sp_X10_holdCovers m (nI k) it (a3 / 1440) = 0
      · have w2 := rc.mpr w
        have w3 := rm.mp w
        simp only [if_pos w, if_pos w2]
        have cp : (if sp_X4_isOfPersons c (nI k) (m.2.1 22 it.toNatClampNeg) = 0 then lp_X4_coverPersons_2 c (m.2.1 22 it.toNatClampNeg) (a3 / 1440) n (nI (k + 1)) else if sp_X4_runsOn c (nI k) (a3 / 1440) = 0 then lp_X4_coverPersons_2 c (m.2.1 22 it.toNatClampNeg) (a3 / 1440) n (nI (k + 1)) else 1) = lp_X4_coverPersons_2 c (m.2.1 22 it.toNatClampNeg) (a3 / 1440) n (nI (k + 1)) := by
          by_cases y : sp_X4_isOfPersons c (nI k) (m.2.1 22 it.toNatClampNeg) = 0
          · rw [if_pos y]
          · rw [if_neg y]
            have y2 : perM m k (m.2.1 22 it.toNatClampNeg) := Classical.not_not.mp (fun z => y (rp.mpr z))
            rw [if_pos (rr.mpr (fun z => w3 ⟨z, Or.inl y2⟩))]
        rw [cp]
        have al : ∀ v : Int32, (if m.2.1 17 k = a2 then v else v) = v := fun v => by split <;> rfl
        rw [al]
        rcases hh1 with rfl | rfl <;> rcases aa1 with rfl | rfl <;> simp only [d1, if_true, if_false, i00, i01, i10, i11]
      · have w2 : ¬ sp_X4_covers c (nI k) (m.2.1 22 it.toNatClampNeg) (m.2.1 20 it.toNatClampNeg) (a3 / 1440) = 0 := fun z => w (rc.mp z)
        have w3 : runsM m k (a3 / 1440) ∧ (perM m k (m.2.1 22 it.toNatClampNeg) ∨ kndM m k (m.2.1 20 it.toNatClampNeg)) := Classical.not_not.mp (fun z => w (rm.mpr z))
        simp only [if_neg w, if_neg w2]
        by_cases y : (100 : Int32) ≤ m.2.1 16 k
        · have y2 : sp_X4_isOfPersons c (nI k) (m.2.1 22 it.toNatClampNeg) = 0 := rp.mpr (fun z => z.1 y)
          simp only [if_pos y, if_pos y2]
          by_cases v : m.2.1 17 k = a2
          · simp only [if_pos v]
            rcases hh1 with rfl | rfl <;> rcases aa1 with rfl | rfl <;> simp only [d1, if_true, if_false, i00, i01, i10, i11]
          · simp only [if_neg v]
            rcases hh1 with rfl | rfl <;> rcases aa1 with rfl | rfl <;> simp only [d1, if_true, if_false, i00, i01, i10, i11]
        · have y1 : perM m k (m.2.1 22 it.toNatClampNeg) := w3.2.elim id (fun z => absurd z.1 y)
          have y2 : ¬ sp_X4_isOfPersons c (nI k) (m.2.1 22 it.toNatClampNeg) = 0 := fun z => rp.mp z y1
          have y3 : ¬ sp_X4_runsOn c (nI k) (a3 / 1440) = 0 := fun z => rr.mp z w3.1
          simp only [if_neg y, if_neg y2, if_neg y3]
          by_cases v : m.2.1 17 k = a2
          · simp only [if_pos v]
            rcases hh1 with rfl | rfl <;> rcases aa1 with rfl | rfl <;> simp only [d1, if_true, if_false, i00, i01, i10, i11]
          · simp only [if_neg v]
            rcases hh1 with rfl | rfl <;> rcases aa1 with rfl | rfl <;> simp only [d1, if_true, if_false, i00, i01, i10, i11]
theorem day_of (a : Int32) (h0 : 0 ≤ a.toInt) (h1 : a.toInt ≤ 10000000) : 0 ≤ (a / 1440).toInt ∧ (a / 1440).toInt ≤ 6944 := by
  have e : (1440 : Int32).toInt = 1440 := by decide
  rw [Int32.toInt_div, e, Int.tdiv_eq_ediv_of_nonneg h0, Int.bmod_eq_of_le (by omega) (by omega)]
  omega
theorem ground_ref {c m : St} (h : RelW c m) {it a2 a3 : Int32} (hl : ¬ sp_X10_isLiving m it = 0) (ha : 0 ≤ a2.toInt ∧ a2.toInt < (m.1 0).toInt) (h3 : 0 ≤ a3.toInt ∧ a3.toInt ≤ 10000000) : sp_X9_groundOf c it a2 a3 = sp_X10_groundOf m it a2 a3 := by
  obtain ⟨k, e0, e1, e2, e3, e4, e5, e6, e7⟩ := living_facts h hl
  obtain ⟨N, hN2, hN⟩ := cnt_of (N := 30) (okM_6 h.okM) (by omega)
  obtain ⟨N3, hN32, hN3⟩ := cnt_of (N := 40) (okM_3 h.okM) (by omega)
  have dd := day_of a3 h3.1 h3.2
  have g := ground_lp h hN hN2 it a2 a3 dd.2 (N + 1) 0 0 0 (by omega) (by omega) (Or.inl rfl) (Or.inl rfl)
  simp only [if_true, nI_0] at g
  have q1 : sp_X0_allSayYes c (m.2.1 22 it.toNatClampNeg) a2 a3 = sp_X10_allSayYes m it a2 a3 := all_lp h it a2 a3 ha _ _
  have q2 : sp_X1_allow c (m.2.1 22 it.toNatClampNeg) a2 a3 = sp_X10_hasContract m it a2 a3 := by
    unfold sp_X1_allow sp_X10_hasContract
    have := contract_lp h hN3 hN32 it a2 a3 ha ((m.1 3).toInt.toNat + 1) 0 (by omega)
    rw [nI_0] at this
    rw [h.i 3]; exact this
  have q3 : sp_X2_allow c (m.2.1 20 it.toNatClampNeg) a2 (m.2.1 21 it.toNatClampNeg) (a3 / 1440) = sp_X10_hasDuty m it a2 (a3 / 1440) := by
    unfold sp_X2_allow sp_X10_hasDuty
    rw [h.i 4]; exact duty_lp h it a2 (a3 / 1440) _ _
  unfold sp_X9_groundOf sp_X10_groundOf sp_X9_dayOfMinute
  rw [hN, nI_tn (by omega), g, e4, e5, e6, ← e2, q1, q2, q3]
  unfold gF sp_X4_coverPersons sp_X4_allow
  rw [h.i 6, hN, nI_tn (by omega)]

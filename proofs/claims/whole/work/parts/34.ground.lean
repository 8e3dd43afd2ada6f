/-! grounds -/
theorem dutyCov {c m : St} (h : RelW c m) (x it d : Int32) : sp_X2_covers c x (m.2.1 20 it.toNatClampNeg) (m.2.1 21 it.toNatClampNeg) d = sp_X10_dutyCovers m x it d := by
  unfold sp_X2_covers sp_X10_dutyCovers
  rw [h.a 10, h.a 12]
theorem duty_lp {c m : St} (h : RelW c m) (it a2 d : Int32) : ∀ (n : Nat) (x : Int32), lp_X2_allow_3 c (m.2.1 20 it.toNatClampNeg) a2 (m.2.1 21 it.toNatClampNeg) d n x = lp_X10_hasDuty_3 m it a2 d n x := by
  intro n
  induction n with
  | zero => intro x; rfl
  | succ n ih =>
    intro x
    rw [lp_X2_allow_3, lp_X10_hasDuty_3, dutyCov h, h.i 4, h.a 11, ih]
theorem cover_lp {c m : St} (h : RelW c m) (it d : Int32) : ∀ (n : Nat) (x : Int32), lp_X2_cover_3 c (m.2.1 20 it.toNatClampNeg) (m.2.1 21 it.toNatClampNeg) d n x = lp_X10_isCovered_30 m it d n x := by
  intro n
  induction n with
  | zero => intro x; rfl
  | succ n ih =>
    intro x
    rw [lp_X2_cover_3, lp_X10_isCovered_30, dutyCov h, h.i 4, ih]
/-- whether a hold runs on a day -/
def runsM (m : St) (j : Nat) (d : Int32) : Prop := ¬ d < m.2.1 18 j ∧ (m.2.1 19 j < 0 ∨ ¬ m.2.1 19 j ≤ d)
theorem runs_ref {c m : St} (h : RelW c m) {j : Nat} (hj : (j : Int) < (m.1 6).toInt) {d : Int32} (hd : d.toInt ≤ 6944) : (sp_X4_runsOn c (nI j) d = 0) ↔ ¬ runsM m j d := by
  have b := okM_6 h.okM
  unfold sp_X4_runsOn runsM
  rw [nI_clamp (by omega), h.a 18]
  obtain ⟨hE, -, -⟩ := h.holds j hj
  by_cases g1 : d < m.2.1 18 j
  · rw [if_pos g1]; exact ⟨fun _ z => z.1 g1, fun _ => rfl⟩
  rw [if_neg g1, if10]
  rcases hE with ⟨w1, w2⟩ | ⟨w1, w2, w3⟩
  · rw [w2, z_le, z6945]
    refine ⟨fun z => absurd z (by omega), fun z => absurd ⟨g1, Or.inl ?_⟩ z⟩
    rw [z_lt, z0]; exact w1
  · rw [w3]
    refine ⟨fun z y => ?_, fun z => ?_⟩
    · rcases y.2 with y | y
      · rw [z_lt, z0] at y; omega
      · exact y z
    · by_cases q : m.2.1 19 j ≤ d
      · exact q
      · exact absurd ⟨g1, Or.inr q⟩ z
def perM (m : St) (j : Nat) (P : Int32) : Prop := ¬ (100 : Int32) ≤ m.2.1 16 j ∧ (P >>> (m.2.1 16 j &&& 31)) &&& 1 = 1
theorem ofp_ref {c m : St} (h : RelW c m) {j : Nat} (hj : (j : Int) < (m.1 6).toInt) (P : Int32) : (sp_X4_isOfPersons c (nI j) P = 0) ↔ ¬ perM m j P := by
  have b := okM_6 h.okM
  unfold sp_X4_isOfPersons perM sp_X9_isPerson sp_X9_isAmong
  rw [nI_clamp (by omega), h.a 16]
  obtain ⟨-, hO, -⟩ := h.holds j hj
  rcases hO with hO | hO
  · have q1 : ¬ m.2.1 16 j < 0 := by rw [z_lt, z0]; omega
    have q2 : ¬ (16 : Int32) ≤ m.2.1 16 j := by rw [z_le, z16]; omega
    have q3 : ¬ (100 : Int32) ≤ m.2.1 16 j := by rw [z_le, z100]; omega
    have w1 : ¬ (1 : Int32) = 0 := by decide
    rw [if_neg q1, if_neg q2, if_neg w1, if10, if01]
    exact ⟨fun z y => z y.2, fun z y => z ⟨q3, y⟩⟩
  · have q1 : ¬ m.2.1 16 j < 0 := by rw [z_lt, z0]; omega
    have q2 : (16 : Int32) ≤ m.2.1 16 j := by rw [z_le, z16]; omega
    have q3 : (100 : Int32) ≤ m.2.1 16 j := by rw [z_le, z100]; omega
    rw [if_neg q1, if_pos q2, if_pos rfl]
    exact ⟨fun _ y => y.1 q3, fun _ => rfl⟩
def kndM (m : St) (j : Nat) (k : Int32) : Prop := (100 : Int32) ≤ m.2.1 16 j ∧ k = m.2.1 16 j - 100
theorem knd_ref {c m : St} (h : RelW c m) {j : Nat} (hj : (j : Int) < (m.1 6).toInt) {k : Int32} (hk : 0 ≤ k.toInt ∧ k.toInt < 8) : c.2.1 16 (nI j).toNatClampNeg = 100 + k ↔ kndM m j k := by
  have b := okM_6 h.okM
  unfold kndM
  rw [nI_clamp (by omega), h.a 16]
  obtain ⟨-, hO, -⟩ := h.holds j hj
  have e1 : (100 + k).toInt = 100 + k.toInt := by rw [add_I _ _ (by rw [z100]; omega) (by rw [z100]; omega), z100]
  rcases hO with hO | hO
  · rw [z_eq, e1, z_le, z100]; omega
  · have e2 := sub100 (m.2.1 16 j) hO.1
    rw [z_eq, e1, z_le, z100, z_eq k, e2]; omega
theorem hcov_ref {c m : St} (h : RelW c m) {j : Nat} (hj : (j : Int) < (m.1 6).toInt) {it d : Int32} (hd : d.toInt ≤ 6944) : (sp_X4_covers c (nI j) (m.2.1 22 it.toNatClampNeg) (m.2.1 20 it.toNatClampNeg) d = 0) ↔ ¬ (runsM m j d ∧ (perM m j (m.2.1 22 it.toNatClampNeg) ∨ kndM m j (m.2.1 20 it.toNatClampNeg))) := by
  have hk := vp_in_iff.mp (okM_kind h.okM it.toNatClampNeg)
  unfold sp_X4_covers
  by_cases g1 : sp_X4_runsOn c (nI j) d = 0
  · rw [if_pos g1]
    have := (runs_ref h hj hd).mp g1
    exact ⟨fun _ z => this z.1, fun _ => rfl⟩
  · rw [if_neg g1]
    have r1 : runsM m j d := Classical.not_not.mp (fun z => g1 ((runs_ref h hj hd).mpr z))
    by_cases g2 : sp_X4_isOfPersons c (nI j) (m.2.1 22 it.toNatClampNeg) = 0
    · rw [if_pos g2, if01, knd_ref h hj (by omega)]
      have := (ofp_ref h hj _).mp g2
      exact ⟨fun z y => y.2.elim this z, fun z y => z ⟨r1, Or.inr y⟩⟩
    · rw [if_neg g2]
      have p1 : perM m j (m.2.1 22 it.toNatClampNeg) := Classical.not_not.mp (fun z => g2 ((ofp_ref h hj _).mpr z))
      exact ⟨fun z => absurd z (by decide), fun z => absurd ⟨r1, Or.inl p1⟩ z⟩
theorem hcovM {m : St} {j : Nat} (hj : j < 1000) (it d : Int32) : (sp_X10_holdCovers m (nI j) it d = 0) ↔ ¬ (runsM m j d ∧ (perM m j (m.2.1 22 it.toNatClampNeg) ∨ kndM m j (m.2.1 20 it.toNatClampNeg))) := by
  unfold sp_X10_holdCovers runsM perM kndM
  rw [nI_clamp (by omega)]
  by_cases g1 : (100 : Int32) ≤ m.2.1 16 j
  · rw [if_pos g1]
    by_cases g2 : m.2.1 20 it.toNatClampNeg = m.2.1 16 j - 100
    · rw [if_pos g2]
      by_cases g3 : d < m.2.1 18 j
      · rw [if_pos g3]; exact ⟨fun _ z => z.1.1 g3, fun _ => rfl⟩
      · rw [if_neg g3]
        by_cases g4 : m.2.1 19 j < 0
        · rw [if_pos g4]; exact ⟨fun z => absurd z (by decide), fun z => absurd ⟨⟨g3, Or.inl g4⟩, Or.inr ⟨g1, g2⟩⟩ z⟩
        · rw [if_neg g4, if10]
          exact ⟨fun z y => y.1.2.elim g4 (fun w => w z), fun z => Classical.not_not.mp (fun w => z ⟨⟨g3, Or.inr w⟩, Or.inr ⟨g1, g2⟩⟩)⟩
    · rw [if_neg g2]; exact ⟨fun _ z => z.2.elim (fun w => w.1 g1) (fun w => g2 w.2), fun _ => rfl⟩
  · rw [if_neg g1]
    by_cases g2 : (m.2.1 22 it.toNatClampNeg >>> (m.2.1 16 j &&& 31)) &&& 1 = 1
    · rw [if_pos g2]
      by_cases g3 : d < m.2.1 18 j
      · rw [if_pos g3]; exact ⟨fun _ z => z.1.1 g3, fun _ => rfl⟩
      · rw [if_neg g3]
        by_cases g4 : m.2.1 19 j < 0
        · rw [if_pos g4]; exact ⟨fun z => absurd z (by decide), fun z => absurd ⟨⟨g3, Or.inl g4⟩, Or.inl ⟨g1, g2⟩⟩ z⟩
        · rw [if_neg g4, if10]
          exact ⟨fun z y => y.1.2.elim g4 (fun w => w z), fun z => Classical.not_not.mp (fun w => z ⟨⟨g3, Or.inr w⟩, Or.inl ⟨g1, g2⟩⟩)⟩
    · rw [if_neg g2]; exact ⟨fun _ z => z.2.elim (fun w => g2 w.2) (fun w => g1 w.1), fun _ => rfl⟩
theorem hcov {c m : St} (h : RelW c m) {j : Nat} (hj : (j : Int) < (m.1 6).toInt) {it d : Int32} (hd : d.toInt ≤ 6944) : (sp_X4_covers c (nI j) (m.2.1 22 it.toNatClampNeg) (m.2.1 20 it.toNatClampNeg) d = 0) ↔ (sp_X10_holdCovers m (nI j) it d = 0) := by
  have b := okM_6 h.okM
  rw [hcov_ref h hj hd, hcovM (by omega)]
theorem if_eqv {α : Type} {p q : Prop} [Decidable p] [Decidable q] {a b a' b' : α} (h : p ↔ q) (ha : p → a = a') (hb : ¬ p → b = b') : (if p then a else b) = (if q then a' else b') := by
  by_cases hp : p
  · rw [if_pos hp, if_pos (h.mp hp)]; exact ha hp
  · rw [if_neg hp, if_neg (fun z => hp (h.mpr z))]; exact hb hp
/-- is an item covered on a day -/
theorem cov_lp {c m : St} (h : RelW c m) {N : Nat} (hN : m.1 6 = nI N) (hN2 : N ≤ 30) (it d : Int32) (hd : d.toInt ≤ 6944) : ∀ (n k : Nat), k ≤ N → N < k + n → (if (lp_X4_cover_3 c (m.2.1 22 it.toNatClampNeg) (m.2.1 20 it.toNatClampNeg) d n (nI k)) = 0 then (if (sp_X2_cover c (m.2.1 20 it.toNatClampNeg) (m.2.1 21 it.toNatClampNeg) d) = 0 then (0 : Int32) else 1) else 1) = lp_X10_isCovered_2 m it d n (nI k) := by
  intro n
  induction n with
  | zero => intro k h1 h2; exact absurd h2 (by omega)
  | succ n ih =>
    intro k h1 h2
    rw [lp_X4_cover_3, lp_X10_isCovered_2, h.i 6, hN]
    by_cases g : k = N
    · have q : nI N ≤ nI k := by rw [g]; exact nI_le (Nat.le_refl _) (by omega)
      rw [if_pos q, if_pos q, if_pos rfl]
      unfold sp_X2_cover
      rw [cover_lp h, h.i 4]
      have : ∀ n x, lp_X10_isCovered_30 m it d n x = 0 ∨ lp_X10_isCovered_30 m it d n x = 1 := by
        intro n
        induction n with
        | zero => intro x; exact Or.inl rfl
        | succ n ih2 =>
          intro x
          rw [lp_X10_isCovered_30]
          split
          · exact Or.inl rfl
          · split
            · exact ih2 _
            · exact Or.inr rfl
      rcases this ((m.1 4).toInt.toNat + 1) 0 with w | w
      · rw [w, if_pos rfl]
      · rw [w, if_neg (by decide)]
    · have q : ¬ nI N ≤ nI k := nI_ge (by omega) (by omega)
      rw [if_neg q, if_neg q, ← nI_succ]
      have hj : (k : Int) < (m.1 6).toInt := by rw [hN, nI_toInt (by omega)]; omega
      by_cases w : sp_X10_holdCovers m (nI k) it d = 0
      · rw [if_pos w, if_pos ((hcov h hj hd).mpr w)]
        exact ih (k + 1) (by omega) (by omega)
      · rw [if_neg w, if_neg (fun z => w ((hcov h hj hd).mp z))]
        rw [if_neg (by decide)]
theorem living_facts {c m : St} (h : RelW c m) {a : Int32} (hl : ¬ sp_X10_isLiving m a = 0) : ∃ k : Nat, a = nI k ∧ (k : Int) < (m.1 7).toInt ∧ a.toNatClampNeg = k ∧ m.2.1 26 k ≠ 0 ∧ sp_X5_kindOf c a = m.2.1 20 k ∧ sp_X5_dayOf c a = m.2.1 21 k ∧ sp_X5_personsOf c a = m.2.1 22 k ∧ sp_X5_valueOf c a = c.2.2 k := by
  have b := okM_7 h.okM
  have hr := (f_X10_isLiving m a h.okM.2.1).resolve_left hl
  have hc : ¬ sp_X5_lives c a = 0 := by rw [lives5 h]; exact hl
  refine ⟨a.toInt.toNat, ?_, by omega, rfl, ?_, ?_, ?_, ?_, ?_⟩
  · rw [z_eq, nI_toInt (by omega)]; omega
  · intro z
    apply hl
    unfold sp_X10_isLiving
    have z' : m.2.1 26 a.toNatClampNeg = 0 := z
    rw [z', if_pos rfl]
    split <;> rfl
  · unfold sp_X5_kindOf; rw [if_neg hc, h.a 20]; rfl
  · unfold sp_X5_dayOf; rw [if_neg hc, h.a 21]; rfl
  · unfold sp_X5_personsOf; rw [if_neg hc, h.a 22]; rfl
  · unfold sp_X5_valueOf; rw [if_neg hc]; rfl
theorem cov_ref {c m : St} (h : RelW c m) {it d : Int32} (hl : ¬ sp_X10_isLiving m it = 0) (hd : d.toInt ≤ 6944) : sp_X9_isCovered c it d = sp_X10_isCovered m it d := by
  obtain ⟨k, e0, e1, e2, e3, e4, e5, e6, e7⟩ := living_facts h hl
  obtain ⟨N, hN2, hN⟩ := cnt_of (N := 30) (okM_6 h.okM) (by omega)
  unfold sp_X9_isCovered sp_X10_isCovered sp_X4_cover
  rw [e4, e5, e6, h.i 6, hN, nI_tn (by omega), ← e2]
  have := cov_lp h hN hN2 it d hd (N + 1) 0 (by omega) (by omega)
  rw [nI_0] at this
  exact this
/-- at or above -/
theorem aboveM {m : St} {u a2 : Int32} (hu : 0 ≤ u.toInt) : ∀ (n : Nat) (x : Int32), lp_X10_isAtOrAbove_2 m u a2 n x = if anc (m.2.1 0) u n x = true then 1 else 0 := by
  intro n
  induction n with
  | zero => intro x; rfl
  | succ n ih =>
    intro x
    rw [lp_X10_isAtOrAbove_2, anc]
    by_cases h1 : x < 0
    · have h2 : ¬ x = u := by
        intro z; rw [z, z_lt, z0] at h1; omega
      simp only [if_pos h1, if_neg h2]
      rfl
    · by_cases h2 : x = u
      · simp only [if_neg h1, if_pos h2, if_true]
      · simp only [if_neg h1, if_neg h2]
        exact ih _
theorem above_ref {c m : St} (h : RelW c m) {u p : Int32} (hu : 0 ≤ u.toInt ∧ u.toInt < (m.1 0).toInt) (hp : 0 ≤ p.toInt ∧ p.toInt < (m.1 0).toInt) : sp_X8_isAtOrAbove c u p = if anc (m.2.1 0) u 18 p = true then 1 else 0 := by
  have b := okM_0 h.okM
  unfold sp_X8_isAtOrAbove
  have hh : ∀ v : Int32, 0 ≤ v.toInt ∧ v.toInt < (m.1 0).toInt → ¬ sp_X8_has c v = 0 := by
    intro v hv
    unfold sp_X8_has
    rw [if_neg (by rw [z_lt, z0]; omega), h.i 0, if_neg (by rw [z_le]; omega)]
    decide
  rw [if_neg (hh u hu), if_neg (hh p hp)]
  have eu : nI u.toInt.toNat = u := by rw [z_eq, nI_toInt (by omega)]; omega
  have ep : nI p.toInt.toNat = p := by rw [z_eq, nI_toInt (by omega)]; omega
  have t := h.tree u.toInt.toNat p.toInt.toNat (by omega) (by omega)
  rw [eu, ep] at t
  exact if_eqv t (fun _ => rfl) (fun _ => rfl)
theorem contract_lp {c m : St} (h : RelW c m) {N : Nat} (hN : m.1 3 = nI N) (hN2 : N ≤ 40) (it a2 a3 : Int32) (ha : 0 ≤ a2.toInt ∧ a2.toInt < (m.1 0).toInt) : ∀ (n k : Nat), k ≤ N → lp_X1_allow_3 c (m.2.1 22 it.toNatClampNeg) a2 a3 n (nI k) = lp_X10_hasContract_3 m it a2 a3 n (nI k) := by
  intro n
  induction n with
  | zero => intro k _; rfl
  | succ n ih =>
    intro k hk
    rw [lp_X1_allow_3, lp_X10_hasContract_3, h.i 3, hN]
    by_cases g : k = N
    · have q : nI N ≤ nI k := by rw [g]; exact nI_le (Nat.le_refl _) (by omega)
      rw [if_pos q, if_pos q]
    · have q : ¬ nI N ≤ nI k := nI_ge (by omega) (by omega)
      rw [if_neg q, if_neg q, ← nI_succ, ih (k + 1) (by omega), nI_clamp (by omega), h.a 6, h.a 7, h.a 8, h.a 9]
      have hent := h.ent.2.1 k (by rw [hN, nI_toInt (by omega)]; omega)
      rw [above_ref h hent ha]
      unfold sp_X10_isAtOrAbove sp_X9_isAmong
      rw [aboveM hent.1]
      by_cases w1 : (m.2.1 22 it.toNatClampNeg >>> (m.2.1 6 k &&& 31)) &&& 1 = 1
      · rw [if_pos w1, if_neg (by decide), if_pos w1]
        by_cases w2 : (if anc (m.2.1 0) (m.2.1 7 k) 18 a2 = true then (1 : Int32) else 0) = 0
        · simp only [if_pos w2]
          split
          · rfl
          · split <;> rfl
        · simp only [if_neg w2]
      · rw [if_neg w1, if_pos rfl, if_neg w1]

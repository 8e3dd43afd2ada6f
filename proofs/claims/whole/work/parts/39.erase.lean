/-! items are erased: erase, sweep -/
theorem aliveN_end {f : Nat → Int32} {i : Nat} (ha : f i ≠ 0) : ∀ n, i < n → aliveN f n = aliveN (upd f i 0) n + 1 := by
  intro n
  induction n with
  | zero => intro h; exact absurd h (by omega)
  | succ n ih =>
    intro h
    rw [aliveN, aliveN]
    by_cases w : i = n
    · subst w
      have e : aliveN (upd f i 0) i = aliveN f i := aliveN_cong i (fun j hj => pk_un (by omega))
      rw [if_neg ha, pk_us, if_pos rfl, Nat.add_zero, e]
    · rw [ih (by omega), pk_un (fun z => w z.symm)]
      exact Nat.add_right_comm _ _ _
def killC (c : St) (i : Nat) : St := sI (sL (sA c 26 i 0) i 0) 10 (c.1 10 - 1)
theorem kill_al {m : St} {i j : Nat} (q : (sA m 26 i 0).2.1 26 j ≠ 0) : j ≠ i ∧ m.2.1 26 j ≠ 0 := by
  have q2 : upd (m.2.1 26) i 0 j ≠ 0 := q
  by_cases w : j = i
  · rw [w, pk_us] at q2; exact absurd rfl q2
  · rw [pk_un w] at q2; exact ⟨w, q2⟩
theorem end_eq {c : St} {N i : Nat} (ec : c.1 7 = nI N) (hN2 : N ≤ 100) (hi : i < N) : sp_X5_end c (nI i) = if c.2.1 26 i = 0 then c else killC c i := by
  unfold sp_X5_end
  rw [lives5_nI ec (by omega) hi, nI_clamp (by omega)]
  by_cases a : c.2.1 26 i = 0
  · rw [if_pos (if10.mpr a), if_pos a]
  · rw [if_neg (fun z => a (if10.mp z)), if_neg a]; rfl
theorem end_rel {c m : St} (h : RelW c m) {N i : Nat} (hN : m.1 7 = nI N) (hN2 : N ≤ 100) (hi : i < N) (ha : m.2.1 26 i ≠ 0) : RelW (killC c i) (sA m 26 i 0) := by
  obtain ⟨h1, h2, h3, h4, h5, h6, h7, h8, h9, h10, h11⟩ := h
  refine ⟨okC_cong (fun j hj => ?_) h1, ⟨h2.1, h2.2.1, h2.2.2.1, h2.2.2.2⟩, h3, ?_, ?_, h6, h7, fun j hj => ?_, fun j hj hj2 hw => ?_, ?_, h11⟩
  · show (if j = 10 then _ else c.1 j) = c.1 j
    rw [if_neg (by omega)]
  · exact CR.liv (c := sL (sA c 26 i 0) i 0) (m := sA m 26 i 0) h4 _
  · exact AR.left (c := sA c 26 i 0) (h5.put 26 (by unfold shA; decide) i 0) rfl
  · obtain ⟨q1, q2, q3, q4, q5, q6⟩ := h8 j hj
    refine ⟨q1, q2, q3, q4, q5, ?_⟩
    show upd (m.2.1 26) i 0 j = 0 ∨ upd (m.2.1 26) i 0 j = 1
    by_cases w : j = i
    · rw [w, pk_us]; exact Or.inl rfl
    · rw [pk_un w]; exact q6
  · obtain ⟨w, a2⟩ := kill_al hj2
    show vp_updL c.2.2 i 0 j = _
    rw [pk_uLn w]
    exact h9 j hj a2 hw
  · have h10' : c.1 10 = nI (aliveN (m.2.1 26) (m.1 7).toInt.toNat) := h10
    show c.1 10 - 1 = nI (aliveN (upd (m.2.1 26) i 0) (m.1 7).toInt.toNat)
    rw [h10', hN, nI_tn (by omega), aliveN_end ha N hi, nI_pred]
def KA (N : Nat) (c m : St) : Prop := ∀ j, j < N → m.2.1 26 j ≠ 0 → (c.2.1 27 j = 0 ↔ m.2.1 27 j = 0)
/-- the states while items are erased: so many are gone -/
def ES (N : Nat) (L0 : Int32) (I : Nat → Int32) (c m : St) (x : Int32) : Prop := RelW c m ∧ KA N c m ∧ x = L0 - c.1 10 ∧ m.1 = I
theorem cnt_dec (L0 L : Int32) : L0 - L + 1 = L0 - (L - 1) := by
  rw [Int32.sub_eq_add_neg, Int32.sub_eq_add_neg, Int32.sub_eq_add_neg, Int32.neg_add, Int32.sub_eq_add_neg, Int32.neg_neg, Int32.add_assoc]
theorem cnt_sum (a b d : Int32) : (a - b) + (b - d) = a - d := by
  rw [Int32.sub_eq_add_neg, Int32.sub_eq_add_neg, Int32.sub_eq_add_neg, Int32.add_assoc, ← Int32.add_assoc (-b), Int32.add_left_neg, Int32.zero_add]
theorem ES.kill {N : Nat} {L0 : Int32} {I : Nat → Int32} {c m : St} {x : Int32} (h : ES N L0 I c m x) (hN2 : N ≤ 100) (hI : I 7 = nI N) {i : Nat} (hi : i < N) (ha : m.2.1 26 i ≠ 0) : ES N L0 I (killC c i) (sA m 26 i 0) (x + 1) := by
  obtain ⟨h1, h2, h3, h4⟩ := h
  refine ⟨end_rel h1 (by rw [h4]; exact hI) hN2 hi ha, fun j hj hj2 => ?_, ?_, h4⟩
  · exact h2 j hj (kill_al hj2).2
  · show x + 1 = L0 - (c.1 10 - 1)
    rw [h3, cnt_dec]
theorem eu_kill {c m : St} {N i : Nat} (h : RelW c m) (hk : KA N c m) (hN : m.1 7 = nI N) (hN2 : N ≤ 100) (hi : i < N) (ha : m.2.1 26 i ≠ 0) (hq : m.2.1 27 i = 0) : sp_X5_endUnlessKept c (nI i) = killC c i := by
  have ec : c.1 7 = nI N := by rw [h.i 7]; exact hN
  unfold sp_X5_endUnlessKept
  rw [kept5_nI ec (by omega) hi, if_pos (if10.mpr ((hk i hi ha).mpr hq)), end_eq ec hN2 hi, h.a 26, if_neg ha]
theorem eu_kept {c m : St} {N i : Nat} (h : RelW c m) (hk : KA N c m) (hN : m.1 7 = nI N) (hN2 : N ≤ 100) (hi : i < N) (ha : m.2.1 26 i ≠ 0) (hq : ¬ m.2.1 27 i = 0) : sp_X5_endUnlessKept c (nI i) = c := by
  have ec : c.1 7 = nI N := by rw [h.i 7]; exact hN
  unfold sp_X5_endUnlessKept
  rw [kept5_nI ec (by omega) hi, if_neg (fun z => hq ((hk i hi ha).mp (if10.mp z)))]
theorem eu_dead {c m : St} {N i : Nat} (h : RelW c m) (hN : m.1 7 = nI N) (hN2 : N ≤ 100) (hi : i < N) (ha : m.2.1 26 i = 0) : sp_X5_endUnlessKept c (nI i) = c := by
  have ec : c.1 7 = nI N := by rw [h.i 7]; exact hN
  unfold sp_X5_endUnlessKept
  rw [end_eq ec hN2 hi, h.a 26, if_pos ha]
  split <;> rfl
theorem erase_lp {c0 m0 : St} {N : Nat} (hN2 : N ≤ 100) {I : Nat → Int32} (hI : I 7 = nI N) {a1 a2 dd : Int32} {q : Nat} (hq : q < 16) (ea : a1 = nI q) : ∀ (n k : Nat) (c m : St) (x : Int32), k ≤ N → N < k + n → ES N (c0.1 10) I c m x →
    ∃ (c' m' : St) (x' : Int32), ES N (c0.1 10) I c' m' x' ∧ lp_X9_erase_43 c0 a1 a2 n c (nI k) = (0, (c0.1 10) - (sp_X5_followInputs c').1 10, sp_X5_followInputs c') ∧ lp_X10_eraseOf_10 m0 a1 dd n m (nI k) x = (x' + (sp_X10_cascade m').1, (sp_X10_cascade m').2) := by
  intro n
  induction n with
  | zero => intro k c m x h1 h2; exact absurd h2 (by omega)
  | succ n ih =>
    intro k c m x h1 h2 hE
    have hE' := hE
    obtain ⟨h, hk, hx, hm⟩ := hE'
    have em : m.1 7 = nI N := by rw [hm]; exact hI
    have ec : c.1 7 = nI N := by rw [h.i 7]; exact em
    have et : sp_X5_total c = nI N := ec
    rw [lp_X9_erase_43, lp_X10_eraseOf_10, et, em]
    by_cases g : k = N
    · have w : nI N ≤ nI k := by rw [g]; exact nI_le (Nat.le_refl _) (by omega)
      rw [if_pos w, if_pos w]
      exact ⟨c, m, x, hE, rfl, rfl⟩
    · have w : ¬ nI N ≤ nI k := nI_ge (by omega) (by omega)
      have hkN : k < N := by omega
      have hkI : (k : Int) < (m.1 7).toInt := by rw [em, nI_toInt (by omega)]; omega
      have skip := ih (k + 1) c m x (by omega) (by omega) hE
      rw [if_neg w, if_neg w, ← nI_succ, put5_nI ec (by omega) hkN, about5_nI ec (by omega) hkN, nI_clamp (by omega), h.a 23, h.a 22]
      have na : ¬ a1 < 0 := by rw [ea]; exact nI_pos (by omega)
      by_cases w23 : m.2.1 23 k = -1
      · obtain ⟨p, hp, ep⟩ := (h.item k hkI).2.2.1 w23
        rw [if_neg (fun z => if01.mp z w23)]
        by_cases wb : (m.2.1 22 k >>> (a1 &&& 31)) &&& 1 = 1
        · have eq1 : m.2.1 22 k = 1 <<< (a1 &&& 31) := by
            rw [ea, ep] at wb
            rw [ep, ea, bit_one p hp q hq wb]
          rw [if_neg (fun z => if01.mp z wb)]
          by_cases w26 : m.2.1 26 k = 0
          · rw [if_pos w26, eu_dead h em hN2 hkN w26]; exact skip
          · rw [if_neg w26, if_pos w23, if_neg na, if_pos eq1]
            by_cases w27 : m.2.1 27 k = 0
            · rw [if_pos w27, eu_kill h hk em hN2 hkN w26 w27]
              exact ih (k + 1) _ _ _ (by omega) (by omega) (hE.kill hN2 hI hkN w26)
            · rw [if_neg w27, eu_kept h hk em hN2 hkN w26 w27]; exact skip
        · have eq1 : ¬ m.2.1 22 k = 1 <<< (a1 &&& 31) := fun z => wb (by rw [z, ea]; exact bit_one' q hq)
          rw [if_pos (if01.mpr wb)]
          by_cases w26 : m.2.1 26 k = 0
          · rw [if_pos w26]; exact skip
          · rw [if_neg w26, if_pos w23, if_neg na, if_neg eq1]; exact skip
      · rw [if_pos (if01.mpr w23)]
        by_cases w26 : m.2.1 26 k = 0
        · rw [if_pos w26]; exact skip
        · rw [if_neg w26, if_neg w23]; exact skip
theorem sweep_lp {c0 m0 : St} {N : Nat} (hN2 : N ≤ 100) {I : Nat → Int32} (hI : I 7 = nI N) {dd : Int32} : ∀ (n k : Nat) (c m : St) (x : Int32), k ≤ N → N < k + n → ES N (c0.1 10) I c m x →
    ∃ (c' m' : St) (x' : Int32), ES N (c0.1 10) I c' m' x' ∧ lp_X9_sweep_32 c0 dd n c (nI k) = (0, (c0.1 10) - (sp_X5_followInputs c').1 10, sp_X5_followInputs c') ∧ lp_X10_eraseOf_10 m0 (-1) dd n m (nI k) x = (x' + (sp_X10_cascade m').1, (sp_X10_cascade m').2) := by
  intro n
  induction n with
  | zero => intro k c m x h1 h2; exact absurd h2 (by omega)
  | succ n ih =>
    intro k c m x h1 h2 hE
    have hE' := hE
    obtain ⟨h, hk, hx, hm⟩ := hE'
    have em : m.1 7 = nI N := by rw [hm]; exact hI
    have ec : c.1 7 = nI N := by rw [h.i 7]; exact em
    have et : sp_X5_total c = nI N := ec
    rw [lp_X9_sweep_32, lp_X10_eraseOf_10, et, em]
    by_cases g : k = N
    · have w : nI N ≤ nI k := by rw [g]; exact nI_le (Nat.le_refl _) (by omega)
      rw [if_pos w, if_pos w]
      exact ⟨c, m, x, hE, rfl, rfl⟩
    · have w : ¬ nI N ≤ nI k := nI_ge (by omega) (by omega)
      have hkN : k < N := by omega
      have skip := ih (k + 1) c m x (by omega) (by omega) hE
      have na : (-1 : Int32) < 0 := by decide
      rw [if_neg w, if_neg w, ← nI_succ, nI_clamp (by omega)]
      by_cases w26 : m.2.1 26 k = 0
      · have fd : sp_X9_firstDueDay c (nI k) = -1 := by
          unfold sp_X9_firstDueDay
          rw [lives5_nI ec (by omega) hkN, h.a 26, if_pos (if10.mpr w26)]
        rw [if_pos fd, if_pos w26]; exact skip
      · obtain ⟨ed, eb⟩ := due_ref h (liv_nI em hN2 hkN w26)
        rw [ed, if_neg w26]
        by_cases w23 : m.2.1 23 k = -1
        · rw [if_pos w23, if_pos na]
          by_cases wd : sp_X10_due m (nI k) = -1
          · have wn : sp_X10_due m (nI k) < 0 := by rw [wd]; decide
            rw [if_pos wd, if_pos wn]; exact skip
          · have wn : ¬ sp_X10_due m (nI k) < 0 := by
              have := eb.resolve_left wd
              rw [z_lt, z0]; omega
            rw [if_neg wd, if_neg wn]
            by_cases wl : dd < sp_X10_due m (nI k)
            · rw [if_pos wl, if_pos wl]; exact skip
            · rw [if_neg wl, if_neg wl]
              by_cases w27 : m.2.1 27 k = 0
              · rw [if_pos w27, eu_kill h hk em hN2 hkN w26 w27]
                exact ih (k + 1) _ _ _ (by omega) (by omega) (hE.kill hN2 hI hkN w26)
              · rw [if_neg w27, eu_kept h hk em hN2 hkN w26 w27]; exact skip
        · have fd : sp_X9_firstDueDay c (nI k) = -1 := by
            unfold sp_X9_firstDueDay
            rw [put5_nI ec (by omega) hkN, h.a 23, if_pos (if01.mpr w23)]
            split <;> rfl
          have wd : sp_X10_due m (nI k) = -1 := by rw [← ed]; exact fd
          rw [if_pos wd, if_neg w23]; exact skip
/-- what is derived goes with its inputs, and its value follows theirs -/
theorem inp_lives {c m : St} (h : RelW c m) {N : Nat} (hN : m.1 7 = nI N) (hN2 : N ≤ 100) {y : Int32} (hy : 0 ≤ y.toInt ∧ y.toInt < N) : sp_X5_lives c y = if m.2.1 26 y.toNatClampNeg = 0 then 0 else 1 := by
  have ec : c.1 7 = nI N := by rw [h.i 7]; exact hN
  have ey : y = nI y.toInt.toNat := by rw [z_eq, nI_toInt (by omega)]; omega
  have hF : y.toInt.toNat < N := by omega
  have e := lives5_nI ec (by omega) hF
  rw [← ey] at e
  rw [e, h.a 26]
  rfl
theorem inp_val {c m : St} (h : RelW c m) {N : Nat} (hN : m.1 7 = nI N) (hN2 : N ≤ 100) {y : Int32} (hy : 0 ≤ y.toInt ∧ y.toInt < N) : sp_X5_valueOf c y = if m.2.1 26 y.toNatClampNeg = 0 then 0 else c.2.2 y.toNatClampNeg := by
  unfold sp_X5_valueOf
  rw [inp_lives h hN hN2 hy]
  by_cases a : m.2.1 26 y.toNatClampNeg = 0
  · rw [if_pos (if10.mpr a), if_pos a]
  · rw [if_neg (fun z => a (if10.mp z)), if_neg a]
theorem inp_in {c m : St} (h : RelW c m) {N k : Nat} (hN : m.1 7 = nI N) (hN2 : N ≤ 100) (hk : k < N) (hw : m.2.1 23 k ≠ -1) : (0 ≤ (m.2.1 24 k).toInt ∧ (m.2.1 24 k).toInt < N) ∧ 0 ≤ (m.2.1 25 k).toInt ∧ (m.2.1 25 k).toInt < N := by
  have hkI : (k : Int) < (m.1 7).toInt := by rw [hN, nI_toInt (by omega)]; omega
  have r1 := vp_in_iff.mp (okM_fst h.okM k)
  have r2 := vp_in_iff.mp (okM_snd h.okM k)
  have r3 := (h.item k hkI).2.1 hw
  omega
theorem lost_ref {c m : St} (h : RelW c m) {N k : Nat} (hN : m.1 7 = nI N) (hN2 : N ≤ 100) (hk : k < N) (hw : m.2.1 23 k ≠ -1) : sp_X5_hasLostInputs c (nI k) = sp_X10_falls m (nI k) := by
  obtain ⟨r1, r2⟩ := inp_in h hN hN2 hk hw
  unfold sp_X5_hasLostInputs sp_X10_falls
  rw [nI_clamp (by omega), h.a 23, h.a 24, h.a 25, inp_lives h hN hN2 r1, inp_lives h hN hN2 r2]
  simp only [if10]
theorem dv_ref {c m : St} (h : RelW c m) {N k : Nat} (hN : m.1 7 = nI N) (hN2 : N ≤ 100) (hk : k < N) (ha : m.2.1 26 k ≠ 0) (hw : m.2.1 23 k ≠ -1) : sp_X5_derivedValue c (nI k) = stM m c.2.2 k := by
  obtain ⟨r1, r2⟩ := inp_in h hN hN2 hk hw
  have hkI : (k : Int) < (m.1 7).toInt := by rw [hN, nI_toInt (by omega)]; omega
  have hh := (h.item k hkI).1
  unfold sp_X5_derivedValue stM stepV
  rw [nI_clamp (by omega), h.a 23, h.a 24, h.a 25, inp_val h hN hN2 r1, inp_val h hN hN2 r2, if_neg ha, if_neg hw]
  rcases hh with q | q | q | q
  · exact absurd q hw
  · rw [q, if_neg (show ¬ (0 : Int32) = 1 by decide), if_neg (show ¬ (0 : Int32) = 2 by decide), if_pos rfl]
  · rw [q, if_pos rfl, if_neg (show ¬ (1 : Int32) = 0 by decide), if_pos rfl]
  · rw [q, if_neg (show ¬ (2 : Int32) = 1 by decide), if_pos rfl, if_neg (show ¬ (2 : Int32) = 0 by decide), if_neg (show ¬ (2 : Int32) = 1 by decide)]
def FS (L1 : Int32) (I : Nat → Int32) (k : Nat) (c m : St) (x : Int32) : Prop := RelW c m ∧ (∀ i, i < k → m.2.1 26 i ≠ 0 → c.2.2 i = stM m c.2.2 i) ∧ x = L1 - c.1 10 ∧ m.1 = I
theorem setV_rel {c m : St} (h : RelW c m) {k : Nat} (hw : m.2.1 23 k ≠ -1) (v : Int64) : RelW (sL c k v) m := by
  obtain ⟨h1, h2, h3, h4, h5, h6, h7, h8, h9, h10, h11⟩ := h
  refine ⟨h1, h2, h3, h4, h5, h6, h7, h8, fun j hj ha hw2 => ?_, h10, h11⟩
  have w : j ≠ k := fun z => by rw [z] at hw2; exact hw hw2
  show vp_updL c.2.2 k v j = _
  rw [pk_uLn w]
  exact h9 j hj ha hw2
theorem follow_lp {c0 m0 : St} {N : Nat} (hN2 : N ≤ 100) {I : Nat → Int32} (hI : I 7 = nI N) {L1 : Int32} : ∀ (n k : Nat) (c m : St) (x : Int32), k ≤ N → N < k + n → FS L1 I k c m x →
    ∃ (m' : St) (x' : Int32), FS L1 I N (lp_X5_followInputs_2 c0 n c (nI k)) m' x' ∧ lp_X10_cascade_4 m0 n m (nI k) x = (x', m') := by
  intro n
  induction n with
  | zero => intro k c m x h1 h2; exact absurd h2 (by omega)
  | succ n ih =>
    intro k c m x h1 h2 hE
    obtain ⟨h, hv, hx, hm⟩ := hE
    have em : m.1 7 = nI N := by rw [hm]; exact hI
    have ec : c.1 7 = nI N := by rw [h.i 7]; exact em
    rw [lp_X5_followInputs_2, lp_X10_cascade_4, ec, em]
    by_cases g : k = N
    · have w : nI N ≤ nI k := by rw [g]; exact nI_le (Nat.le_refl _) (by omega)
      rw [if_pos w, if_pos w]
      subst g
      exact ⟨m, x, ⟨h, hv, hx, hm⟩, rfl⟩
    · have w : ¬ nI N ≤ nI k := nI_ge (by omega) (by omega)
      have hkN : k < N := by omega
      have t7 : (m.1 7).toInt = N := by rw [em, nI_toInt (by omega)]
      have hkI : (k : Int) < (m.1 7).toInt := by omega
      rw [if_neg w, if_neg w, ← nI_succ, nI_clamp (by omega), h.a 26, h.a 23]
      by_cases w26 : m.2.1 26 k = 0
      · rw [if_pos w26, if_pos w26]
        refine ih (k + 1) c m x (by omega) (by omega) ⟨h, fun i hi ha => ?_, hx, hm⟩
        by_cases e : i = k
        · rw [e] at ha; exact absurd w26 ha
        · exact hv i (by omega) ha
      · rw [if_neg w26, if_neg w26]
        by_cases w23 : m.2.1 23 k = -1
        · rw [if_pos w23, if_pos w23]
          refine ih (k + 1) c m x (by omega) (by omega) ⟨h, fun i hi ha => ?_, hx, hm⟩
          by_cases e : i = k
          · rw [e, h.put k hkI w26 w23]
            unfold stM stepV
            rw [if_neg w26, if_pos w23]
          · exact hv i (by omega) ha
        · rw [if_neg w23, if_neg w23, lost_ref h em hN2 hkN w23, dv_ref h em hN2 hkN w26 w23]
          by_cases wf : sp_X10_falls m (nI k) = 0
          · rw [if_pos wf, if_pos wf]
            refine ih (k + 1) _ m x (by omega) (by omega) ⟨setV_rel h w23 _, fun i hi ha => ?_, hx, hm⟩
            show vp_updL c.2.2 k (stM m c.2.2 k) i = stM m (vp_updL c.2.2 k (stM m c.2.2 k)) i
            have hcong : stM m (vp_updL c.2.2 k (stM m c.2.2 k)) i = stM m c.2.2 i := by
              refine stepV_cong rfl (fun hw => ?_)
              have hl := inp_lt h.okM h.item (i := i) (by omega) hw
              exact ⟨⟨rfl, fun _ => pk_uLn (by omega)⟩, rfl, fun _ => pk_uLn (by omega)⟩
            rw [hcong]
            by_cases e : i = k
            · rw [e]; exact pk_uLs
            · rw [pk_uLn e]; exact hv i (by omega) ha
          · rw [if_neg wf, if_neg wf, end_eq ec hN2 hkN, h.a 26, if_neg w26]
            refine ih (k + 1) _ _ _ (by omega) (by omega) ⟨end_rel h em hN2 hkN w26, fun i hi ha => ?_, ?_, hm⟩
            · obtain ⟨e, a2⟩ := kill_al ha
              show vp_updL c.2.2 k 0 i = stepV (m.2.1 23) (m.2.1 24) (m.2.1 25) (upd (m.2.1 26) k 0) (m.2.1 28) (vp_updL c.2.2 k 0) i
              rw [pk_uLn e, hv i (by omega) a2]
              refine stepV_cg rfl rfl rfl rfl (pk_un e).symm (fun hw => ?_)
              have hl := inp_lt h.okM h.item (i := i) (by omega) hw
              exact ⟨⟨(pk_un (by omega)).symm, (pk_uLn (by omega)).symm⟩, (pk_un (by omega)).symm, (pk_uLn (by omega)).symm⟩
            · show x + 1 = L1 - (c.1 10 - 1)
              rw [hx, cnt_dec]
/-- the end of both calls -/
theorem erase_end {c m c' m' : St} {N : Nat} (hN2 : N ≤ 100) (hI : m.1 7 = nI N) {x' : Int32} (hE : ES N (c.1 10) m.1 c' m' x') : (sp_X10_cascade m').2.1 = m.1 ∧ c.1 10 - (sp_X5_followInputs c').1 10 = x' + (sp_X10_cascade m').1 ∧ Rel (sp_X5_followInputs c') (sp_X10_cascade m').2 := by
  obtain ⟨h, hk, hx, hm⟩ := hE
  have em : m'.1 7 = nI N := by rw [hm]; exact hI
  have ec : c'.1 7 = nI N := by rw [h.i 7]; exact em
  have e1 : sp_X5_followInputs c' = lp_X5_followInputs_2 c' (N + 1) c' (nI 0) := by unfold sp_X5_followInputs; rw [ec, nI_tn (by omega), nI_0]
  have e2 : sp_X10_cascade m' = lp_X10_cascade_4 m' (N + 1) m' (nI 0) 0 := by unfold sp_X10_cascade; rw [em, nI_tn (by omega), nI_0]
  obtain ⟨m2, x2, f1, f2⟩ := follow_lp (c0 := c') (m0 := m') hN2 hI (L1 := c'.1 10) (N + 1) 0 c' m' 0 (by omega) (by omega) ⟨h, fun i hi => absurd hi (by omega), (Int32.sub_self _).symm, hm⟩
  rw [e2, f2, e1]
  obtain ⟨g1, g2, g3, g4⟩ := f1
  refine ⟨g4, ?_, g1, fun i hi ha => ?_⟩
  · show _ = x' + x2
    rw [hx, g3, cnt_sum]
  · refine g2 i ?_ ha
    rw [g4, hI, nI_toInt (by omega)] at hi
    omega
theorem ES.start {c m : St} (h : RelW c m) {N : Nat} (hN : m.1 7 = nI N) (hN2 : N ≤ 100) {d : Int32} (hd : d.toInt ≤ 6944) : ES N (c.1 10) m.1 (sp_X9_markKept c d) (sp_X10_keep m d) 0 := by
  obtain ⟨k1, k2, k3⟩ := kept_ref h hN hN2 hd
  refine ⟨K27.rel h k1 k2, fun j hj ha => ?_, ?_, k2.1⟩
  · rw [k2.2.2 26 (by decide)] at ha
    exact k3 j hj ha
  · rw [k1.1, Int32.sub_self]
theorem ref_erase {c m : St} (h : Rel c m) (a1 a2 : Int32) : (sp_X10_erase m a1 a2).2.1 10 = (sp_X9_erase c a1 a2).1 ∧ ((sp_X9_erase c a1 a2).1 = 0 → (sp_X9_erase c a1 a2).2.1 = (sp_X10_erase m a1 a2).1) ∧ Rel (sp_X9_erase c a1 a2).2.2 (sp_X10_erase m a1 a2).2 := by
  unfold sp_X9_erase sp_X10_erase
  rw [per_in, min_in]
  by_cases g1 : sp_X10_isPerson a1 = 0
  · simp only [if_pos g1]; exact ⟨rfl, fun e => absurd e (by decide), h.thr 1⟩
  by_cases g2 : sp_X10_isMinute a2 = 0
  · simp only [if_neg g1, if_pos g2]; exact ⟨rfl, fun e => absurd e (by decide), h.thr 1⟩
  simp only [if_neg g1, if_neg g2]
  have hin1 := (f_X10_in a1 0 15).resolve_left g1
  rw [z0, show (15 : Int32).toInt = 15 from by decide] at hin1
  have hmi := (f_X10_in a2 0 10000000).resolve_left g2
  rw [z0, show (10000000 : Int32).toInt = 10000000 from by decide] at hmi
  have hd := day_of a2 hmi.1 hmi.2
  have h0 := h.1.thr 0
  obtain ⟨N, hN2, hN⟩ := cnt_of (N := 100) (okM_7 h0.okM) (by omega)
  have ec : c.1 7 = nI N := by rw [h0.i 7]; exact hN
  have hE := ES.start h0 hN hN2 hd.2
  obtain ⟨c', m', x', r1, r2, r3⟩ := erase_lp (c0 := c) (m0 := sI m 10 0) (a1 := a1) (a2 := a2) (dd := a2 / 1440) (q := a1.toInt.toNat) hN2 hN (by omega) (by rw [z_eq, nI_toInt (by omega)]; omega) (N + 1) 0 _ _ 0 (by omega) (by omega) hE
  have e1 : lp_X9_erase_43 c a1 a2 ((c.1 7).toInt.toNat + 1) (sp_X9_markKept c (sp_X9_dayOfMinute a2)) 0 = (0, (c.1 10) - (sp_X5_followInputs c').1 10, sp_X5_followInputs c') := by
    rw [ec, nI_tn (by omega)]; rw [nI_0] at r2; exact r2
  have e2 : sp_X10_eraseOf (sI m 10 0) a1 (a2 / 1440) = (x' + (sp_X10_cascade m').1, (sp_X10_cascade m').2) := by
    unfold sp_X10_eraseOf
    rw [hN, nI_tn (by omega)]; rw [nI_0] at r3; exact r3
  rw [e1, e2]
  obtain ⟨t1, t2, t3⟩ := erase_end hN2 hN r1
  refine ⟨?_, fun _ => t2, t3⟩
  show (sp_X10_cascade m').2.1 10 = 0
  rw [t1]; rfl
theorem ref_sweep {c m : St} (h : Rel c m) (a1 : Int32) : (sp_X10_sweep m a1).2.1 10 = (sp_X9_sweep c a1).1 ∧ ((sp_X9_sweep c a1).1 = 0 → (sp_X9_sweep c a1).2.1 = (sp_X10_sweep m a1).1) ∧ Rel (sp_X9_sweep c a1).2.2 (sp_X10_sweep m a1).2 := by
  unfold sp_X9_sweep sp_X10_sweep
  rw [day_in]
  by_cases g1 : sp_X10_in a1 0 6944 = 0
  · simp only [if_pos g1]; exact ⟨rfl, fun e => absurd e (by decide), h.thr 1⟩
  simp only [if_neg g1]
  have hin1 := (f_X10_in a1 0 6944).resolve_left g1
  rw [z0, z6944] at hin1
  have h0 := h.1.thr 0
  obtain ⟨N, hN2, hN⟩ := cnt_of (N := 100) (okM_7 h0.okM) (by omega)
  have ec : c.1 7 = nI N := by rw [h0.i 7]; exact hN
  have hE := ES.start h0 hN hN2 hin1.2
  obtain ⟨c', m', x', r1, r2, r3⟩ := sweep_lp (c0 := c) (m0 := sI m 10 0) (dd := a1) hN2 hN (N + 1) 0 _ _ 0 (by omega) (by omega) hE
  have e1 : lp_X9_sweep_32 c a1 ((c.1 7).toInt.toNat + 1) (sp_X9_markKept c a1) 0 = (0, (c.1 10) - (sp_X5_followInputs c').1 10, sp_X5_followInputs c') := by
    rw [ec, nI_tn (by omega)]; rw [nI_0] at r2; exact r2
  have e2 : sp_X10_eraseOf (sI m 10 0) (-1) a1 = (x' + (sp_X10_cascade m').1, (sp_X10_cascade m').2) := by
    unfold sp_X10_eraseOf
    rw [hN, nI_tn (by omega)]; rw [nI_0] at r3; exact r3
  rw [e1, e2]
  obtain ⟨t1, t2, t3⟩ := erase_end hN2 hN r1
  refine ⟨?_, fun _ => t2, t3⟩
  show (sp_X10_cascade m').2.1 10 = 0
  rw [t1]; rfl

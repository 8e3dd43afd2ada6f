/-! what is kept on a day -/
def K27 (s t : St) : Prop := t.1 = s.1 ∧ t.2.2 = s.2.2 ∧ ∀ b, b ≠ 27 → t.2.1 b = s.2.1 b
theorem K27.rf (s : St) : K27 s s := ⟨rfl, rfl, fun _ _ => rfl⟩
theorem K27.put {s t : St} (h : K27 s t) (i : Nat) (v : Int32) : K27 s (sA t 27 i v) := ⟨h.1, h.2.1, fun b hb => by rw [sA_2, if_neg hb]; exact h.2.2 b hb⟩
theorem K27.rel {c m c2 m2 : St} (h : RelW c m) (hc : K27 c c2) (hm : K27 m m2) : RelW c2 m2 := h.k27 hc.1 hc.2.1 hc.2.2 hm.1 hm.2.2
theorem unmark_lp2 (c : St) {N : Nat} (hN2 : N ≤ 100) : ∀ (n k : Nat) (s : St), k ≤ N → N < k + n → s.1 7 = nI N → (∀ j, j < k → s.2.1 27 j = 0) → K27 c s →
    K27 c (lp_X5_unmarkAll_2 c n s (nI k)) ∧ ∀ j, j < N → (lp_X5_unmarkAll_2 c n s (nI k)).2.1 27 j = 0 := by
  intro n
  induction n with
  | zero => intro k s h1 h2; exact absurd h2 (by omega)
  | succ n ih =>
    intro k s h1 h2 e hv hK
    rw [lp_X5_unmarkAll_2, e]
    by_cases g : k = N
    · have q : nI N ≤ nI k := by rw [g]; exact nI_le (Nat.le_refl _) (by omega)
      rw [if_pos q]
      subst g
      exact ⟨hK, hv⟩
    · have q : ¬ nI N ≤ nI k := nI_ge (by omega) (by omega)
      rw [if_neg q, ← nI_succ, nI_clamp (by omega)]
      refine ih (k + 1) _ (by omega) (by omega) e (fun j hj => ?_) (hK.put k 0)
      show upd (s.2.1 27) k 0 j = 0
      rw [upd_eq]
      by_cases w : j = k
      · rw [if_pos w]
      · rw [if_neg w]; exact hv j (by omega)
theorem unmark_ref {c : St} {N : Nat} (hN : c.1 7 = nI N) (hN2 : N ≤ 100) : K27 c (sp_X5_unmarkAll c) ∧ ∀ j, j < N → (sp_X5_unmarkAll c).2.1 27 j = 0 := by
  have e : sp_X5_unmarkAll c = lp_X5_unmarkAll_2 c (N + 1) c (nI 0) := by unfold sp_X5_unmarkAll; rw [hN, nI_tn (by omega), nI_0]
  rw [e]
  exact unmark_lp2 c hN2 (N + 1) 0 c (by omega) (by omega) hN (fun j hj => absurd hj (by omega)) (K27.rf c)
theorem liv_nI {m : St} {N j : Nat} (hN : m.1 7 = nI N) (hN2 : N ≤ 100) (hj : j < N) (ha : m.2.1 26 j ≠ 0) : ¬ sp_X10_isLiving m (nI j) = 0 := by
  have t := nI_toInt (n := N) (by omega)
  have e : sp_X10_in (nI j) 0 (m.1 7 - 1) = 1 := by
    rw [hN, ← has_in (by omega) (by omega), if_neg (nI_pos (by omega)), if_neg (nI_ge hj (by omega))]
  unfold sp_X10_isLiving
  rw [e, if_neg (by decide), nI_clamp (by omega), if_neg ha]
  decide
/-- the mark of an item behind the reference's first loop -/
def MK (m : St) (d : Int32) (j : Nat) (v : Int32) : Prop := (m.2.1 26 j = 0 → v = 0) ∧ (m.2.1 26 j ≠ 0 → (v ≠ 0 ↔ ¬ sp_X10_isCovered m (nI j) d = 0))
theorem cov_27 {c m s : St} (h : RelW c m) {N j : Nat} (hN : m.1 7 = nI N) (hN2 : N ≤ 100) (hj : j < N) (ha : m.2.1 26 j ≠ 0) {d : Int32} (hd : d.toInt ≤ 6944) (hK : K27 m s) : sp_X10_isCovered s (nI j) d = sp_X10_isCovered m (nI j) d := by
  have r1 := cov_ref h (it := nI j) (d := d) (liv_nI hN hN2 hj ha) hd
  have e7 : s.1 7 = nI N := by rw [hK.1]; exact hN
  have r2 := cov_ref (K27.rel h (K27.rf c) hK) (it := nI j) (d := d) (liv_nI e7 hN2 hj (by rw [hK.2.2 26 (by decide)]; exact ha)) hd
  exact r2.symm.trans r1
theorem keep2_lp {c m : St} (h : RelW c m) {N : Nat} (hN : m.1 7 = nI N) (hN2 : N ≤ 100) {d : Int32} (hd : d.toInt ≤ 6944) : ∀ (n k : Nat) (s : St), k ≤ N → N < k + n → K27 m s → (∀ j, j < k → MK m d j (s.2.1 27 j)) →
    ∃ s', K27 m s' ∧ (∀ j, j < N → MK m d j (s'.2.1 27 j)) ∧ lp_X10_keep_2 m d n s (nI k) = lp_X10_keep_52 m d (N + 1) s' (nI N - 1) := by
  intro n
  induction n with
  | zero => intro k s h1 h2; exact absurd h2 (by omega)
  | succ n ih =>
    intro k s h1 h2 hK hv
    have e7 : s.1 7 = nI N := by rw [hK.1]; exact hN
    rw [lp_X10_keep_2, e7]
    by_cases g : k = N
    · have q : nI N ≤ nI k := by rw [g]; exact nI_le (Nat.le_refl _) (by omega)
      rw [if_pos q, hN, nI_tn (by omega)]
      subst g
      exact ⟨s, hK, hv, rfl⟩
    · have q : ¬ nI N ≤ nI k := nI_ge (by omega) (by omega)
      rw [if_neg q, ← nI_succ, nI_clamp (by omega), hK.2.2 26 (by decide)]
      have step : ∀ v, MK m d k v → ∃ s', K27 m s' ∧ (∀ j, j < N → MK m d j (s'.2.1 27 j)) ∧ lp_X10_keep_2 m d n (sA s 27 k v) (nI (k + 1)) = lp_X10_keep_52 m d (N + 1) s' (nI N - 1) := fun v hm => by
        refine ih (k + 1) _ (by omega) (by omega) (hK.put k v) (fun j hj => ?_)
        show MK m d j (upd (s.2.1 27) k v j)
        rw [upd_eq]
        by_cases w : j = k
        · rw [if_pos w, w]; exact hm
        · rw [if_neg w]; exact hv j (by omega)
      by_cases a : m.2.1 26 k = 0
      · rw [if_pos a]
        exact step 0 ⟨fun _ => rfl, fun z => absurd a z⟩
      · rw [if_neg a, cov_27 h hN hN2 (by omega) a hd hK]
        by_cases w : sp_X10_isCovered m (nI k) d = 0
        · rw [if_pos w]; exact step 0 ⟨fun _ => rfl, fun _ => ⟨fun z => absurd rfl z, fun z => absurd w z⟩⟩
        · rw [if_neg w]; exact step 1 ⟨fun z => absurd z a, fun _ => ⟨fun _ => w, fun _ => by decide⟩⟩
theorem dec_eq (x : Int32) : x + (-1) = x - 1 := by rw [Int32.sub_eq_add_neg]
theorem keep_eq {c : St} {N i : Nat} (ec : c.1 7 = nI N) (hN2 : N ≤ 100) (hi : i < N) : sp_X5_keep c (nI i) = sA c 27 i 1 := by
  unfold sp_X5_keep
  rw [has5_nI ec (by omega) hi, if_neg (by decide), nI_clamp (by omega)]
theorem kwi_put {c : St} {N i : Nat} (ec : c.1 7 = nI N) (hN2 : N ≤ 100) (hi : i < N) (hw : c.2.1 23 i = -1) : sp_X5_keepWithInputs c (nI i) = sA c 27 i 1 := by
  unfold sp_X5_keepWithInputs
  rw [keep_eq ec hN2 hi, has5_nI (c := sA c 27 i 1) ec (by omega) hi, if_neg (by decide), nI_clamp (by omega)]
  rw [if_pos (show (sA c 27 i 1).2.1 23 i = -1 from hw)]
theorem kwi_der {c : St} {N i F S : Nat} (ec : c.1 7 = nI N) (hN2 : N ≤ 100) (hi : i < N) (hw : ¬ c.2.1 23 i = -1) (hF : F < N) (hS : S < N) (e1 : c.2.1 24 i = nI F) (e2 : c.2.1 25 i = nI S) : sp_X5_keepWithInputs c (nI i) = sA (sA (sA c 27 i 1) 27 F 1) 27 S 1 := by
  unfold sp_X5_keepWithInputs
  rw [keep_eq ec hN2 hi, has5_nI (c := sA c 27 i 1) ec (by omega) hi, if_neg (by decide), nI_clamp (by omega)]
  have w1 : (sA c 27 i 1).2.1 24 i = nI F := e1
  rw [if_neg (show ¬ (sA c 27 i 1).2.1 23 i = -1 from hw), w1, keep_eq (c := sA c 27 i 1) ec hN2 hF]
  have w2 : (sA (sA c 27 i 1) 27 F 1).2.1 25 i = nI S := e2
  rw [w2, keep_eq (c := sA (sA c 27 i 1) 27 F 1) ec hN2 hS]
theorem nar_al {v : Int32} (h : v = 0 ∨ v = 1) : vp_nar .boolean v = v := by unfold vp_nar; rw [nar_bool h]
theorem mark_lp {c m : St} (h : RelW c m) {N : Nat} (hN : m.1 7 = nI N) (hN2 : N ≤ 100) {d : Int32} (hd : d.toInt ≤ 6944) : ∀ (n k : Nat) (sc sm : St), k ≤ N → k < n → K27 c sc → K27 m sm →
    (∀ j, j < N → m.2.1 26 j = 0 → sm.2.1 27 j = 0) →
    (∀ j, k ≤ j → j < N → m.2.1 26 j ≠ 0 → (sc.2.1 27 j = 0 ↔ sm.2.1 27 j = 0)) →
    (∀ j, j < k → m.2.1 26 j ≠ 0 → (sm.2.1 27 j = 0 ↔ sc.2.1 27 j = 0 ∧ sp_X10_isCovered m (nI j) d = 0)) →
    K27 c (lp_X9_markKept_17 c d n sc (nI k - 1)) ∧ K27 m (lp_X10_keep_52 m d n sm (nI k - 1)) ∧ ∀ j, j < N → m.2.1 26 j ≠ 0 → ((lp_X9_markKept_17 c d n sc (nI k - 1)).2.1 27 j = 0 ↔ (lp_X10_keep_52 m d n sm (nI k - 1)).2.1 27 j = 0) := by
  intro n
  induction n with
  | zero => intro k sc sm h1 h2; exact absurd h2 (by omega)
  | succ n ih =>
    intro k sc sm h1 h2 hKc hKm i1 i2 i3
    cases k with
    | zero =>
      have q : nI 0 - 1 < 0 := by decide +kernel
      rw [lp_X9_markKept_17, lp_X10_keep_52, if_pos q, if_pos q]
      exact ⟨hKc, hKm, fun j hj ha => i2 j (by omega) hj ha⟩
    | succ i =>
      have q : ¬ nI i < 0 := nI_pos (by omega)
      have ec : sc.1 7 = nI N := by rw [hKc.1, h.i 7]; exact hN
      have a26 : sc.2.1 26 = m.2.1 26 := by rw [hKc.2.2 26 (by decide), h.a 26]
      have a23 : sc.2.1 23 = m.2.1 23 := by rw [hKc.2.2 23 (by decide), h.a 23]
      have a24 : sc.2.1 24 = m.2.1 24 := by rw [hKc.2.2 24 (by decide), h.a 24]
      have a25 : sc.2.1 25 = m.2.1 25 := by rw [hKc.2.2 25 (by decide), h.a 25]
      have hiI : (i : Int) < (m.1 7).toInt := by rw [hN, nI_toInt (by omega)]; omega
      rw [nI_pred, lp_X9_markKept_17, lp_X10_keep_52, if_neg q, if_neg q, dec_eq, lives5_nI ec (by omega) (by omega), kept5_nI ec (by omega) (by omega), nI_clamp (by omega), a26, hKm.2.2 23 (by decide), hKm.2.2 24 (by decide), hKm.2.2 25 (by decide), hKm.2.2 26 (by decide)]
      by_cases a : m.2.1 26 i = 0
      · have w0 : sm.2.1 27 i = 0 := i1 i (by omega) a
        rw [if_pos (if10.mpr a), if_pos w0]
        refine ih i sc sm (by omega) (by omega) hKc hKm i1 (fun j hj hj2 ha => ?_) (fun j hj ha => i3 j (by omega) ha)
        by_cases w : j = i
        · rw [w] at ha; exact absurd a ha
        · exact i2 j (by omega) hj2 ha
      · rw [if_neg (fun z => a (if10.mp z))]
        have ecov : sp_X9_isCovered sc (nI i) d = sp_X10_isCovered m (nI i) d := cov_ref (K27.rel h hKc (K27.rf m)) (liv_nI hN hN2 (by omega) a) hd
        rw [ecov]
        by_cases w0 : sm.2.1 27 i = 0
        · obtain ⟨w1, w2⟩ := (i3 i (by omega) a).mp w0
          rw [if_pos (if10.mpr w1), if_pos w2, if_pos w0]
          refine ih i sc sm (by omega) (by omega) hKc hKm i1 (fun j hj hj2 ha => ?_) (fun j hj ha => i3 j (by omega) ha)
          by_cases w : j = i
          · rw [w, w1, w0]
          · exact i2 j (by omega) hj2 ha
        · have eC : (if (if sc.2.1 27 i = 0 then (0 : Int32) else 1) = 0 then (if sp_X10_isCovered m (nI i) d = 0 then lp_X9_markKept_17 c d n sc (nI i - 1) else lp_X9_markKept_17 c d n (sp_X5_keepWithInputs sc (nI i)) (nI i - 1)) else lp_X9_markKept_17 c d n (sp_X5_keepWithInputs sc (nI i)) (nI i - 1)) = lp_X9_markKept_17 c d n (sp_X5_keepWithInputs sc (nI i)) (nI i - 1) := by
            by_cases w1 : sc.2.1 27 i = 0
            · have w2 : ¬ sp_X10_isCovered m (nI i) d = 0 := fun z => w0 ((i3 i (by omega) a).mpr ⟨w1, z⟩)
              rw [if_pos (if10.mpr w1), if_neg w2]
            · rw [if_neg (fun z => w1 (if10.mp z))]
          rw [eC, if_neg w0]
          by_cases wp : m.2.1 23 i = -1
          · rw [if_pos wp, kwi_put ec hN2 (by omega) (by rw [a23]; exact wp)]
            refine ih i (sA sc 27 i 1) sm (by omega) (by omega) (hKc.put i 1) hKm i1 (fun j hj hj2 ha => ?_) (fun j hj ha => ?_)
            · show upd (sc.2.1 27) i 1 j = 0 ↔ _
              by_cases w : j = i
              · rw [w, pk_us]; exact ⟨fun z => absurd z (by decide), fun z => absurd z w0⟩
              · rw [pk_un w]; exact i2 j (by omega) hj2 ha
            · show _ ↔ upd (sc.2.1 27) i 1 j = 0 ∧ _
              rw [pk_un (by omega)]; exact i3 j (by omega) ha
          · have hl := inp_lt h.okM h.item hiI wp
            have r1 := vp_in_iff.mp (okM_fst h.okM i)
            have r2 := vp_in_iff.mp (okM_snd h.okM i)
            have f1 : m.2.1 24 i = nI (m.2.1 24 i).toNatClampNeg := by rw [z_eq, nI_toInt (by omega), tnc]; omega
            have f2 : m.2.1 25 i = nI (m.2.1 25 i).toNatClampNeg := by rw [z_eq, nI_toInt (by omega), tnc]; omega
            generalize (m.2.1 24 i).toNatClampNeg = F at f1 hl ⊢
            generalize (m.2.1 25 i).toNatClampNeg = S at f2 hl ⊢
            have bF := (h.item F (by omega)).2.2.2.2.2
            have bS := (h.item S (by omega)).2.2.2.2.2
            rw [if_neg wp, kwi_der ec hN2 (by omega) (by rw [a23]; exact wp) (F := F) (S := S) (by omega) (by omega) (by rw [a24]; exact f1) (by rw [a25]; exact f2), nar_al bF, nar_al bS]
            refine ih i _ _ (by omega) (by omega) (((hKc.put i 1).put F 1).put S 1) ((hKm.put F _).put S _) (fun j hj ha => ?_) (fun j hj hj2 ha => ?_) (fun j hj ha => ?_)
            · show upd (upd (sm.2.1 27) F (m.2.1 26 F)) S (m.2.1 26 S) j = 0
              by_cases w : j = S
              · rw [← w, pk_us]; exact ha
              · rw [pk_un w]
                by_cases w2 : j = F
                · rw [← w2, pk_us]; exact ha
                · rw [pk_un w2]; exact i1 j hj ha
            · show upd (upd (upd (sc.2.1 27) i 1) F 1) S 1 j = 0 ↔ upd (upd (sm.2.1 27) F (m.2.1 26 F)) S (m.2.1 26 S) j = 0
              rw [pk_un (by omega), pk_un (by omega), pk_un (show j ≠ S by omega), pk_un (show j ≠ F by omega)]
              by_cases w : j = i
              · rw [w, pk_us]; exact ⟨fun z => absurd z (by decide), fun z => absurd z w0⟩
              · rw [pk_un w]; exact i2 j (by omega) hj2 ha
            · show upd (upd (sm.2.1 27) F (m.2.1 26 F)) S (m.2.1 26 S) j = 0 ↔ upd (upd (upd (sc.2.1 27) i 1) F 1) S 1 j = 0 ∧ sp_X10_isCovered m (nI j) d = 0
              by_cases w : j = S
              · subst w
                rw [pk_us, pk_us]
                exact ⟨fun z => absurd z ha, fun z => absurd z.1 (by decide)⟩
              · rw [pk_un w, pk_un w]
                by_cases w2 : j = F
                · subst w2
                  rw [pk_us, pk_us]
                  exact ⟨fun z => absurd z ha, fun z => absurd z.1 (by decide)⟩
                · rw [pk_un w2, pk_un w2, pk_un (by omega)]; exact i3 j (by omega) ha
theorem kept_ref {c m : St} (h : RelW c m) {N : Nat} (hN : m.1 7 = nI N) (hN2 : N ≤ 100) {d : Int32} (hd : d.toInt ≤ 6944) : K27 c (sp_X9_markKept c d) ∧ K27 m (sp_X10_keep m d) ∧ ∀ j, j < N → m.2.1 26 j ≠ 0 → ((sp_X9_markKept c d).2.1 27 j = 0 ↔ (sp_X10_keep m d).2.1 27 j = 0) := by
  have ec : c.1 7 = nI N := by rw [h.i 7]; exact hN
  obtain ⟨u1, u2⟩ := unmark_ref ec hN2
  have e1 : sp_X9_markKept c d = lp_X9_markKept_17 c d (N + 1) (sp_X5_unmarkAll c) (nI N - 1) := by
    unfold sp_X9_markKept sp_X5_total
    rw [u1.1, ec, nI_tn (by omega)]
  obtain ⟨s', k1, k2, k3⟩ := keep2_lp h hN hN2 hd (N + 1) 0 m (by omega) (by omega) (K27.rf m) (fun j hj => absurd hj (by omega))
  have e2 : sp_X10_keep m d = lp_X10_keep_52 m d (N + 1) s' (nI N - 1) := by
    unfold sp_X10_keep
    rw [← k3, hN, nI_tn (by omega), nI_0]
  rw [e1, e2]
  refine mark_lp h hN hN2 hd (N + 1) N _ s' (Nat.le_refl _) (by omega) u1 k1 (fun j hj ha => (k2 j hj).1 ha) (fun j hj hj2 _ => absurd hj (by omega)) (fun j hj ha => ⟨fun z => ⟨u2 j hj, ?_⟩, fun z => ?_⟩)
  · exact Decidable.byContradiction (fun q => ((k2 j hj).2 ha).mpr q z)
  · exact Decidable.byContradiction (fun q => ((k2 j hj).2 ha).mp q z.2)

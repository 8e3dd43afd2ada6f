set_option maxHeartbeats 4000000 in
set_option maxRecDepth 100000 in
theorem c_X6_total (l : Launch) (dC : Nat → ClassId) (dI : Nat → Nat → Nat) (q : Nat → Nat) (k : Nat → ClassId) (st : St)  (res : Int32) (hres : sp_X6_total st = res) : Met l yX6_total wsX6_total ({ frames := 0, cells := 0, slots := 0, locals := 0 } : Room) (va_Pc [.ref (q 2)] (fun U => va_P (dC, dI) vwCl (wC q k st) U.heap ∧ KC (dC, dI) k U)) (vp_Si (fun r => r = res)) 0 0 (fun _ => False) := by
  refine Met.ofW (cc := cX6_total) (maxL := 1) (ret := (some .int)) (by decide) rfl ?_
  intro p e s m args below meth c s₁ B hml hv
  obtain ⟨rfl, hP, hK⟩ := hv
  have hx := B.exec
  have hb := B.bytes
  have hr := B.returns
  have hts := atoms_spec (ws := wsX6_total) B.pre
  have hown : s.vm.findClass RX6 = some m.cls := findClass_of_methodNamed B.named
  have hlocks := B.notSynchronized
  have hi6 : ∀ w ∈ wsX60, w ∈ wsX6_total := by decide +kernel
  have hf15 := hts (.fieldLink RX6 15 "ConsentRegister$Kinds" "count" "I") (by decide +kernel)
  have hl := lv_entry ([.ref (q 2)]) (n := 1) (Nat.le_of_ble_eq_true rfl)
  rw [lg_entry_eq]
  generalize (lg_sl ([.ref (q 2)]) ++ List.replicate (1 - (lg_sl ([.ref (q 2)])).length) Slot.unset).toArray = ls at hl ⊢
  have hl : lv_has ls 1 [(0, .ref (q 2))] := hl
  have he := hres
  unfold sp_X6_total at he
  refine lv_aload_n hx hb dX6_total_0 rfl (lv_at hl 0 rfl) ?_
  refine va_get (D := (dC, dI)) (ci := 6) (v := .int (st.1 1)) (C := RX6) (T := TX6) (N := 2) hx hb hts hi6 hown hK.1 hP 2 rfl rfl 1 (by decide) hf15 (fun _ h9 => h9) rfl dX6_total_1 ?_
  exact W.iret (v := st.1 1) hx hb hr (fun t ht hW => ⟨_, rfl, he, ht⟩) (fun _ h => nomatch h) dX6_total_4
set_option maxHeartbeats 4000000 in
set_option maxRecDepth 100000 in
theorem c_X6_has (l : Launch) (dC : Nat → ClassId) (dI : Nat → Nat → Nat) (q : Nat → Nat) (k : Nat → ClassId) (st : St) (a1 : Int32)  (res : Int32) (hres : sp_X6_has st a1 = res) : Met l yX6_has wsX6_has ({ frames := 0, cells := 0, slots := 0, locals := 0 } : Room) (va_Pc [.ref (q 2), .int a1] (fun U => va_P (dC, dI) vwCl (wC q k st) U.heap ∧ KC (dC, dI) k U)) (vp_Si (fun r => r = res)) 0 0 (fun _ => False) := by
  refine Met.ofW (cc := cX6_has) (maxL := 2) (ret := (some .boolean)) (by decide) rfl ?_
  intro p e s m args below meth c s₁ B hml hv
  obtain ⟨rfl, hP, hK⟩ := hv
  have hx := B.exec
  have hb := B.bytes
  have hr := B.returns
  have hts := atoms_spec (ws := wsX6_has) B.pre
  have hown : s.vm.findClass RX6 = some m.cls := findClass_of_methodNamed B.named
  have hlocks := B.notSynchronized
  have hi6 : ∀ w ∈ wsX60, w ∈ wsX6_has := by decide +kernel
  have hf15 := hts (.fieldLink RX6 15 "ConsentRegister$Kinds" "count" "I") (by decide +kernel)
  have hl := lv_entry ([.ref (q 2), .int a1]) (n := 2) (Nat.le_of_ble_eq_true rfl)
  rw [lg_entry_eq]
  generalize (lg_sl ([.ref (q 2), .int a1]) ++ List.replicate (2 - (lg_sl ([.ref (q 2), .int a1])).length) Slot.unset).toArray = ls at hl ⊢
  have hl : lv_has ls 2 [(0, .ref (q 2)), (1, .int a1)] := hl
  have he := hres
  unfold sp_X6_has at he
  refine lv_iload_n hx hb dX6_has_0 rfl (lv_at hl 1 rfl) ?_
  refine lv_if_lt (tgt := 16) hx hb dX6_has_1 (by decide) (fun h1_1 => ?_) (fun h1_1 => ?_)
  · have he := (if_pos h1_1).symm.trans he
    refine lv_iconst (v := 0) hx hb dX6_has_16 (by decide) ?_
    exact W.zret (v := 0) hx hb hr rfl (fun t ht hW => ⟨_, rfl, he, ht⟩) (fun _ h => nomatch h) dX6_has_17
  · have he := (if_neg h1_1).symm.trans he
    refine lv_iload_n hx hb dX6_has_4 rfl (lv_at hl 1 rfl) ?_
    refine lv_aload_n hx hb dX6_has_5 rfl (lv_at hl 0 rfl) ?_
    refine va_get (D := (dC, dI)) (ci := 6) (v := .int (st.1 1)) (C := RX6) (T := TX6) (N := 2) hx hb hts hi6 hown hK.1 hP 2 rfl rfl 1 (by decide) hf15 (fun _ h9 => h9) rfl dX6_has_6 ?_
    refine lv_icmp_ge (tgt := 16) hx hb dX6_has_9 (by decide) (fun h9_2 => ?_) (fun h9_2 => ?_)
    · have he := (if_pos h9_2).symm.trans he
      refine lv_iconst (v := 0) hx hb dX6_has_16 (by decide) ?_
      exact W.zret (v := 0) hx hb hr rfl (fun t ht hW => ⟨_, rfl, he, ht⟩) (fun _ h => nomatch h) dX6_has_17
    · have he := (if_neg h9_2).symm.trans he
      refine lv_iconst (v := 1) hx hb dX6_has_12 (by decide) ?_
      refine lv_goto (tgt := 17) hx hb dX6_has_13 (by decide) ?_
      exact W.zret (v := 1) hx hb hr rfl (fun t ht hW => ⟨_, rfl, he, ht⟩) (fun _ h => nomatch h) dX6_has_17
set_option maxHeartbeats 4000000 in
set_option maxRecDepth 100000 in
theorem c_X6_add (l : Launch) (dC : Nat → ClassId) (dI : Nat → Nat → Nat) (q : Nat → Nat) (k : Nat → ClassId) (st : St) (a1 : Int32) (hq : ∀ i j, i < 43 → j < 43 → q i = q j → i = j) (hok : okC st) (res : Int32 × St) (hres : sp_X6_add st a1 = res) : Met l yX6_add wsX6_add ({ frames := 0, cells := 0, slots := 0, locals := 0 } : Room) (va_Pc [.ref (q 2), .int a1] (fun U => va_P (dC, dI) vwCl (wC q k st) U.heap ∧ KC (dC, dI) k U)) (va_Qi (fun r (_ : Unit) => r = res.1) (fun _ t => va_P (dC, dI) vwCl (wC q k res.2) t.heap) (aC q)) 0 0 (aC q) := by
  refine Met.ofW (cc := cX6_add) (maxL := 2) (ret := (some .int)) (by decide) rfl ?_
  intro p e s m args below meth c s₁ B hml hv
  obtain ⟨rfl, hP, hK⟩ := hv
  have hx := B.exec
  have hb := B.bytes
  have hr := B.returns
  have hts := atoms_spec (ws := wsX6_add) B.pre
  have hown : s.vm.findClass RX6 = some m.cls := findClass_of_methodNamed B.named
  have hlocks := B.notSynchronized
  have hS : va_S (aC q) s.heap s.heap [] := va_S.rf
  have hi6 : ∀ w ∈ wsX60, w ∈ wsX6_add := by decide +kernel
  have hf11 := hts (.fieldLink RX6 11 "ConsentRegister$Kinds" "retentions" "[I") (by decide +kernel)
  have hf15 := hts (.fieldLink RX6 15 "ConsentRegister$Kinds" "count" "I") (by decide +kernel)
  have hl := lv_entry ([.ref (q 2), .int a1]) (n := 2) (Nat.le_of_ble_eq_true rfl)
  rw [lg_entry_eq]
  generalize (lg_sl ([.ref (q 2), .int a1]) ++ List.replicate (2 - (lg_sl ([.ref (q 2), .int a1])).length) Slot.unset).toArray = ls at hl ⊢
  have hl : lv_has ls 2 [(0, .ref (q 2)), (1, .int a1)] := hl
  have he := hres
  unfold sp_X6_add at he
  refine lv_aload_n hx hb dX6_add_0 rfl (lv_at hl 0 rfl) ?_
  refine va_get (D := (dC, dI)) (ci := 6) (v := .int (st.1 1)) (C := RX6) (T := TX6) (N := 2) hx hb hts hi6 hown hK.1 hP 2 rfl rfl 1 (by decide) hf15 (fun _ h9 => h9) rfl dX6_add_1 ?_
  refine lv_bipush (v := 8) hx hb dX6_add_4 (by decide) ?_
  refine lv_icmp_lt (tgt := 11) hx hb dX6_add_6 (by decide) (fun h6_1 => ?_) (fun h6_1 => ?_)
  · have he := (if_pos h6_1).symm.trans he
    refine lv_aload_n hx hb dX6_add_11 rfl (lv_at hl 0 rfl) ?_
    refine va_get (D := (dC, dI)) (ci := 6) (v := .ref (q 11)) (C := RX6) (T := TX6) (N := 2) hx hb hts hi6 hown hK.1 hP 2 rfl rfl 0 (by decide) hf11 (fun _ h9 => h9) rfl dX6_add_12 ?_
    refine lv_aload_n hx hb dX6_add_15 rfl (lv_at hl 0 rfl) ?_
    refine va_get (D := (dC, dI)) (ci := 6) (v := .int (st.1 1)) (C := RX6) (T := TX6) (N := 2) hx hb hts hi6 hown hK.1 hP 2 rfl rfl 1 (by decide) hf15 (fun _ h9 => h9) rfl dX6_add_16 ?_
    refine lv_iload_n hx hb dX6_add_19 rfl (lv_at hl 1 rfl) ?_
    refine va_iast hx hb hK.1 hP (dC_of hq) hS 11 1 (f := st.2.1 1) (n := 8) (cA := k 1) rfl rfl (i := st.1 1) (x := a1) (ob_X6_add_20_2 st a1 hok h6_1) dX6_add_20 (fun H locs hP _ hS => ?_)
    have hP : va_P (dC, dI) vwCl (wC q k (sA st 1 ((st.1 1).toNatClampNeg) a1)) H := hP
    refine lv_aload_n hx hb dX6_add_21 rfl (lv_at hl 0 rfl) ?_
    refine lv_dup hx hb dX6_add_22 rfl ?_
    refine va_get (D := (dC, dI)) (ci := 6) (v := .int (st.1 1)) (C := RX6) (T := TX6) (N := 2) hx hb hts hi6 hown hK.1 hP 2 rfl rfl 1 (by decide) hf15 (fun _ h9 => h9) rfl dX6_add_23 ?_
    refine lv_iconst (v := 1) hx hb dX6_add_26 (by decide) ?_
    refine lv_iadd hx hb dX6_add_27 ?_
    refine va_put (D := (dC, dI)) (ci := 6) (v := .int ((st.1 1) + 1)) (ty := .int) (C := RX6) (T := TX6) (N := 2) hx hb hts hi6 tyX6 tyX6_ok nmX6 hown hK.1 hP (dC_of hq) hS 2 rfl rfl 1 (by decide) hf15 (fun _ h9 => h9) rfl (by decide +kernel) rfl rfl (Nat.le_of_ble_eq_true rfl) dX6_add_28 (fun H locs hP _ hS => ?_)
    have hP : va_P (dC, dI) vwCl (wC q k (sI (sA st 1 ((st.1 1).toNatClampNeg) a1) 1 ((st.1 1) + 1))) H := hP
    refine lv_aload_n hx hb dX6_add_31 rfl (lv_at hl 0 rfl) ?_
    refine va_get (D := (dC, dI)) (ci := 6) (v := .int ((st.1 1) + 1)) (C := RX6) (T := TX6) (N := 2) hx hb hts hi6 hown hK.1 hP 2 rfl rfl 1 (by decide) hf15 (fun _ h9 => h9) rfl dX6_add_32 ?_
    refine lv_iconst (v := 1) hx hb dX6_add_35 (by decide) ?_
    refine lv_isub hx hb dX6_add_36 ?_
    exact W.iret (v := ((st.1 1) + 1) - 1) hx hb hr (fun t ht hW => ⟨⟨_, (), rfl, by show _ = Prod.fst _; rw [← he], by show va_P _ _ _ t.heap; rw [ht, ← he]; exact hP⟩, hS.F ht⟩) hS.2.2 dX6_add_37
  · have he := (if_neg h6_1).symm.trans he
    refine lv_iconst (v := (-1)) hx hb dX6_add_9 (by decide) ?_
    exact W.iret (v := (-1)) hx hb hr (fun t ht hW => ⟨⟨_, (), rfl, by show _ = Prod.fst _; rw [← he], by show va_P _ _ _ t.heap; rw [ht, ← he]; exact hP⟩, hS.F ht⟩) hS.2.2 dX6_add_10
set_option maxHeartbeats 4000000 in
set_option maxRecDepth 100000 in
theorem c_X6_retentionOf (l : Launch) (dC : Nat → ClassId) (dI : Nat → Nat → Nat) (q : Nat → Nat) (k : Nat → ClassId) (st : St) (a1 : Int32) (hok : okC st) (res : Int32) (hres : sp_X6_retentionOf st a1 = res) : Met l yX6_retentionOf wsX6_retentionOf ({ frames := 1, cells := 0, slots := 0, locals := 21 } : Room) (va_Pc [.ref (q 2), .int a1] (fun U => va_P (dC, dI) vwCl (wC q k st) U.heap ∧ KC (dC, dI) k U)) (vp_Si (fun r => r = res)) 0 0 (fun _ => False) := by
  refine Met.ofW (cc := cX6_retentionOf) (maxL := 2) (ret := (some .int)) (by decide) rfl ?_
  intro p e s m args below meth c s₁ B hml hv
  obtain ⟨rfl, hP, hK⟩ := hv
  have hx := B.exec
  have hb := B.bytes
  have hr := B.returns
  have hts := atoms_spec (ws := wsX6_retentionOf) B.pre
  have hown : s.vm.findClass RX6 = some m.cls := findClass_of_methodNamed B.named
  have hlocks := B.notSynchronized
  have hi6 : ∀ w ∈ wsX60, w ∈ wsX6_retentionOf := by decide +kernel
  have hf11 := hts (.fieldLink RX6 11 "ConsentRegister$Kinds" "retentions" "[I") (by decide +kernel)
  have hl := lv_entry ([.ref (q 2), .int a1]) (n := 2) (Nat.le_of_ble_eq_true rfl)
  rw [lg_entry_eq]
  generalize (lg_sl ([.ref (q 2), .int a1]) ++ List.replicate (2 - (lg_sl ([.ref (q 2), .int a1])).length) Slot.unset).toArray = ls at hl ⊢
  have hl : lv_has ls 2 [(0, .ref (q 2)), (1, .int a1)] := hl
  have he := hres
  unfold sp_X6_retentionOf at he
  refine lv_aload_n hx hb dX6_retentionOf_0 rfl (lv_at hl 0 rfl) ?_
  refine lv_iload_n hx hb dX6_retentionOf_1 rfl (lv_at hl 1 rfl) ?_
  refine vp_callSi (va_Run.run (va_runV (As := [.int a1]) (rest := []) ⟨hx, hb, hml, hown, hts⟩ (c_X6_has l dC dI q k st a1 _ rfl) (cwV 1 hts gX6_retentionOf_X6_has rfl rfl rfl (by decide +kernel) ⟨Nat.le_of_ble_eq_true rfl, Nat.le_of_ble_eq_true rfl⟩) ⟨fb_C, va_recv hK.1 hP (ci := 6) (q0 := 2) rfl rfl, fun U hU hW => ⟨rfl, by rw [hU]; exact hP, hK.warm hW⟩⟩ rfl rfl hl.1 rfl (lv_room (Nat.le_of_ble_eq_true rfl)) dX6_retentionOf_2 ⟨Nat.le_of_ble_eq_true rfl, Nat.le_of_ble_eq_true rfl⟩)) (fun r9 e9 => ?_)
  subst e9
  refine lv_if_eq (tgt := 17) hx hb dX6_retentionOf_5 (by decide) (fun h5_1 => ?_) (fun h5_1 => ?_)
  · have he := (if_pos h5_1).symm.trans he
    refine lv_iconst (v := 0) hx hb dX6_retentionOf_17 (by decide) ?_
    exact W.iret (v := 0) hx hb hr (fun t ht hW => ⟨_, rfl, he, ht⟩) (fun _ h => nomatch h) dX6_retentionOf_18
  · have he := (if_neg h5_1).symm.trans he
    refine lv_aload_n hx hb dX6_retentionOf_8 rfl (lv_at hl 0 rfl) ?_
    refine va_get (D := (dC, dI)) (ci := 6) (v := .ref (q 11)) (C := RX6) (T := TX6) (N := 2) hx hb hts hi6 hown hK.1 hP 2 rfl rfl 0 (by decide) hf11 (fun _ h9 => h9) rfl dX6_retentionOf_9 ?_
    refine lv_iload_n hx hb dX6_retentionOf_12 rfl (lv_at hl 1 rfl) ?_
    refine va_iald hx hb hK.1 hP 11 1 (f := st.2.1 1) (n := 8) (cA := k 1) rfl rfl (i := a1) (ob_X6_retentionOf_13_2 st a1 hok h5_1) dX6_retentionOf_13 ?_
    refine lv_goto (tgt := 18) hx hb dX6_retentionOf_14 (by decide) ?_
    exact W.iret (v := st.2.1 1 a1.toNatClampNeg) hx hb hr (fun t ht hW => ⟨_, rfl, he, ht⟩) (fun _ h => nomatch h) dX6_retentionOf_18

set_option maxHeartbeats 4000000 in
set_option maxRecDepth 100000 in
theorem c_X8_total (l : Launch) (dC : Nat → ClassId) (dI : Nat → Nat → Nat) (q : Nat → Nat) (k : Nat → ClassId) (st : St)  (res : Int32) (hres : sp_X8_total st = res) : Met l yX8_total wsX8_total ({ frames := 0, cells := 0, slots := 0, locals := 0 } : Room) (va_Pc [.ref (q 1)] (fun U => va_P (dC, dI) vwCl (wC q k st) U.heap ∧ KC (dC, dI) k U)) (vp_Si (fun r => r = res)) 0 0 (fun _ => False) := by
  refine Met.ofW (cc := cX8_total) (maxL := 1) (ret := (some .int)) (by decide) rfl ?_
  intro p e s m args below meth c s₁ B hml hv
  obtain ⟨rfl, hP, hK⟩ := hv
  have hx := B.exec
  have hb := B.bytes
  have hr := B.returns
  have hts := atoms_spec (ws := wsX8_total) B.pre
  have hown : s.vm.findClass RX8 = some m.cls := findClass_of_methodNamed B.named
  have hlocks := B.notSynchronized
  have hi8 : ∀ w ∈ wsX80, w ∈ wsX8_total := by decide +kernel
  have hf15 := hts (.fieldLink RX8 15 "ConsentRegister$Purposes" "count" "I") (by decide +kernel)
  have hl := lv_entry ([.ref (q 1)]) (n := 1) (Nat.le_of_ble_eq_true rfl)
  rw [lg_entry_eq]
  generalize (lg_sl ([.ref (q 1)]) ++ List.replicate (1 - (lg_sl ([.ref (q 1)])).length) Slot.unset).toArray = ls at hl ⊢
  have hl : lv_has ls 1 [(0, .ref (q 1))] := hl
  have he := hres
  unfold sp_X8_total at he
  refine lv_aload_n hx hb dX8_total_0 rfl (lv_at hl 0 rfl) ?_
  refine va_get (D := (dC, dI)) (ci := 8) (v := .int (st.1 0)) (C := RX8) (T := TX8) (N := 2) hx hb hts hi8 hown hK.1 hP 1 rfl rfl 1 (by decide) hf15 (fun _ h9 => h9) rfl dX8_total_1 ?_
  exact W.iret (v := st.1 0) hx hb hr (fun t ht hW => ⟨_, rfl, he, ht⟩) (fun _ h => nomatch h) dX8_total_4
set_option maxHeartbeats 4000000 in
set_option maxRecDepth 100000 in
theorem c_X8_has (l : Launch) (dC : Nat → ClassId) (dI : Nat → Nat → Nat) (q : Nat → Nat) (k : Nat → ClassId) (st : St) (a1 : Int32)  (res : Int32) (hres : sp_X8_has st a1 = res) : Met l yX8_has wsX8_has ({ frames := 0, cells := 0, slots := 0, locals := 0 } : Room) (va_Pc [.ref (q 1), .int a1] (fun U => va_P (dC, dI) vwCl (wC q k st) U.heap ∧ KC (dC, dI) k U)) (vp_Si (fun r => r = res)) 0 0 (fun _ => False) := by
  refine Met.ofW (cc := cX8_has) (maxL := 2) (ret := (some .boolean)) (by decide) rfl ?_
  intro p e s m args below meth c s₁ B hml hv
  obtain ⟨rfl, hP, hK⟩ := hv
  have hx := B.exec
  have hb := B.bytes
  have hr := B.returns
  have hts := atoms_spec (ws := wsX8_has) B.pre
  have hown : s.vm.findClass RX8 = some m.cls := findClass_of_methodNamed B.named
  have hlocks := B.notSynchronized
  have hi8 : ∀ w ∈ wsX80, w ∈ wsX8_has := by decide +kernel
  have hf15 := hts (.fieldLink RX8 15 "ConsentRegister$Purposes" "count" "I") (by decide +kernel)
  have hl := lv_entry ([.ref (q 1), .int a1]) (n := 2) (Nat.le_of_ble_eq_true rfl)
  rw [lg_entry_eq]
  generalize (lg_sl ([.ref (q 1), .int a1]) ++ List.replicate (2 - (lg_sl ([.ref (q 1), .int a1])).length) Slot.unset).toArray = ls at hl ⊢
  have hl : lv_has ls 2 [(0, .ref (q 1)), (1, .int a1)] := hl
  have he := hres
  unfold sp_X8_has at he
  refine lv_iload_n hx hb dX8_has_0 rfl (lv_at hl 1 rfl) ?_
  refine lv_if_lt (tgt := 16) hx hb dX8_has_1 (by decide) (fun h1_1 => ?_) (fun h1_1 => ?_)
  · have he := (if_pos h1_1).symm.trans he
    refine lv_iconst (v := 0) hx hb dX8_has_16 (by decide) ?_
    exact W.zret (v := 0) hx hb hr rfl (fun t ht hW => ⟨_, rfl, he, ht⟩) (fun _ h => nomatch h) dX8_has_17
  · have he := (if_neg h1_1).symm.trans he
    refine lv_iload_n hx hb dX8_has_4 rfl (lv_at hl 1 rfl) ?_
    refine lv_aload_n hx hb dX8_has_5 rfl (lv_at hl 0 rfl) ?_
    refine va_get (D := (dC, dI)) (ci := 8) (v := .int (st.1 0)) (C := RX8) (T := TX8) (N := 2) hx hb hts hi8 hown hK.1 hP 1 rfl rfl 1 (by decide) hf15 (fun _ h9 => h9) rfl dX8_has_6 ?_
    refine lv_icmp_ge (tgt := 16) hx hb dX8_has_9 (by decide) (fun h9_2 => ?_) (fun h9_2 => ?_)
    · have he := (if_pos h9_2).symm.trans he
      refine lv_iconst (v := 0) hx hb dX8_has_16 (by decide) ?_
      exact W.zret (v := 0) hx hb hr rfl (fun t ht hW => ⟨_, rfl, he, ht⟩) (fun _ h => nomatch h) dX8_has_17
    · have he := (if_neg h9_2).symm.trans he
      refine lv_iconst (v := 1) hx hb dX8_has_12 (by decide) ?_
      refine lv_goto (tgt := 17) hx hb dX8_has_13 (by decide) ?_
      exact W.zret (v := 1) hx hb hr rfl (fun t ht hW => ⟨_, rfl, he, ht⟩) (fun _ h => nomatch h) dX8_has_17
set_option maxHeartbeats 4000000 in
set_option maxRecDepth 100000 in
theorem c_X8_add (l : Launch) (dC : Nat → ClassId) (dI : Nat → Nat → Nat) (q : Nat → Nat) (k : Nat → ClassId) (st : St) (a1 : Int32) (hq : ∀ i j, i < 43 → j < 43 → q i = q j → i = j) (hok : okC st) (res : Int32 × St) (hres : sp_X8_add st a1 = res) : Met l yX8_add wsX8_add ({ frames := 1, cells := 0, slots := 0, locals := 21 } : Room) (va_Pc [.ref (q 1), .int a1] (fun U => va_P (dC, dI) vwCl (wC q k st) U.heap ∧ KC (dC, dI) k U)) (va_Qi (fun r (_ : Unit) => r = res.1) (fun _ t => va_P (dC, dI) vwCl (wC q k res.2) t.heap) (aC q)) 0 0 (aC q) := by
  refine Met.ofW (cc := cX8_add) (maxL := 2) (ret := (some .int)) (by decide) rfl ?_
  intro p e s m args below meth c s₁ B hml hv
  obtain ⟨rfl, hP, hK⟩ := hv
  have hx := B.exec
  have hb := B.bytes
  have hr := B.returns
  have hts := atoms_spec (ws := wsX8_add) B.pre
  have hown : s.vm.findClass RX8 = some m.cls := findClass_of_methodNamed B.named
  have hlocks := B.notSynchronized
  have hS : va_S (aC q) s.heap s.heap [] := va_S.rf
  have hi8 : ∀ w ∈ wsX80, w ∈ wsX8_add := by decide +kernel
  have hf11 := hts (.fieldLink RX8 11 "ConsentRegister$Purposes" "upward" "[I") (by decide +kernel)
  have hf15 := hts (.fieldLink RX8 15 "ConsentRegister$Purposes" "count" "I") (by decide +kernel)
  have hl := lv_entry ([.ref (q 1), .int a1]) (n := 2) (Nat.le_of_ble_eq_true rfl)
  rw [lg_entry_eq]
  generalize (lg_sl ([.ref (q 1), .int a1]) ++ List.replicate (2 - (lg_sl ([.ref (q 1), .int a1])).length) Slot.unset).toArray = ls at hl ⊢
  have hl : lv_has ls 2 [(0, .ref (q 1)), (1, .int a1)] := hl
  have he := hres
  unfold sp_X8_add at he
  refine lv_aload_n hx hb dX8_add_0 rfl (lv_at hl 0 rfl) ?_
  refine va_get (D := (dC, dI)) (ci := 8) (v := .int (st.1 0)) (C := RX8) (T := TX8) (N := 2) hx hb hts hi8 hown hK.1 hP 1 rfl rfl 1 (by decide) hf15 (fun _ h9 => h9) rfl dX8_add_1 ?_
  refine lv_bipush (v := 16) hx hb dX8_add_4 (by decide) ?_
  refine lv_icmp_ge (tgt := 17) hx hb dX8_add_6 (by decide) (fun h6_1 => ?_) (fun h6_1 => ?_)
  · have he := (if_pos h6_1).symm.trans he
    refine lv_iconst (v := (-1)) hx hb dX8_add_17 (by decide) ?_
    exact W.iret (v := (-1)) hx hb hr (fun t ht hW => ⟨⟨_, (), rfl, by show _ = Prod.fst _; rw [← he], by show va_P _ _ _ t.heap; rw [ht, ← he]; exact hP⟩, hS.F ht⟩) hS.2.2 dX8_add_18
  · have he := (if_neg h6_1).symm.trans he
    refine lv_aload_n hx hb dX8_add_9 rfl (lv_at hl 0 rfl) ?_
    refine lv_iload_n hx hb dX8_add_10 rfl (lv_at hl 1 rfl) ?_
    refine vp_callSi (va_Run.run (va_runV (As := [.int a1]) (rest := []) ⟨hx, hb, hml, hown, hts⟩ (c_X8_has l dC dI q k st a1 _ rfl) (cwV 1 hts gX8_add_X8_has rfl rfl rfl (by decide +kernel) ⟨Nat.le_of_ble_eq_true rfl, Nat.le_of_ble_eq_true rfl⟩) ⟨fb_C, va_recv hK.1 hP (ci := 8) (q0 := 1) rfl rfl, fun U hU hW => ⟨rfl, by rw [hU]; exact hP, hK.warm hW⟩⟩ rfl rfl hl.1 rfl (lv_room (Nat.le_of_ble_eq_true rfl)) dX8_add_11 ⟨Nat.le_of_ble_eq_true rfl, Nat.le_of_ble_eq_true rfl⟩)) (fun r9 e9 => ?_)
    subst e9
    refine lv_if_ne (tgt := 19) hx hb dX8_add_14 (by decide) (fun h14_2 => ?_) (fun h14_2 => ?_)
    · have he := (if_neg h14_2).symm.trans he
      refine lv_aload_n hx hb dX8_add_19 rfl (lv_at hl 0 rfl) ?_
      refine va_get (D := (dC, dI)) (ci := 8) (v := .ref (q 10)) (C := RX8) (T := TX8) (N := 2) hx hb hts hi8 hown hK.1 hP 1 rfl rfl 0 (by decide) hf11 (fun _ h9 => h9) rfl dX8_add_20 ?_
      refine lv_aload_n hx hb dX8_add_23 rfl (lv_at hl 0 rfl) ?_
      refine va_get (D := (dC, dI)) (ci := 8) (v := .int (st.1 0)) (C := RX8) (T := TX8) (N := 2) hx hb hts hi8 hown hK.1 hP 1 rfl rfl 1 (by decide) hf15 (fun _ h9 => h9) rfl dX8_add_24 ?_
      refine lv_aload_n hx hb dX8_add_27 rfl (lv_at hl 0 rfl) ?_
      refine va_get (D := (dC, dI)) (ci := 8) (v := .ref (q 10)) (C := RX8) (T := TX8) (N := 2) hx hb hts hi8 hown hK.1 hP 1 rfl rfl 0 (by decide) hf11 (fun _ h9 => h9) rfl dX8_add_28 ?_
      refine lv_iload_n hx hb dX8_add_31 rfl (lv_at hl 1 rfl) ?_
      refine va_iald hx hb hK.1 hP 10 0 (f := st.2.1 0) (n := 16) (cA := k 0) rfl rfl (i := a1) (ob_X8_add_32_3 st a1 hok h6_1 h14_2) dX8_add_32 ?_
      refine lv_iconst (v := 1) hx hb dX8_add_33 (by decide) ?_
      refine lv_aload_n hx hb dX8_add_34 rfl (lv_at hl 0 rfl) ?_
      refine va_get (D := (dC, dI)) (ci := 8) (v := .int (st.1 0)) (C := RX8) (T := TX8) (N := 2) hx hb hts hi8 hown hK.1 hP 1 rfl rfl 1 (by decide) hf15 (fun _ h9 => h9) rfl dX8_add_35 ?_
      refine lv_ishl hx hb dX8_add_38 ?_
      refine lv_ior hx hb dX8_add_39 ?_
      refine va_iast hx hb hK.1 hP (dC_of hq) hS 10 0 (f := st.2.1 0) (n := 16) (cA := k 0) rfl rfl (i := st.1 0) (x := (st.2.1 0 a1.toNatClampNeg) ||| (1 <<< ((st.1 0) &&& 31))) (ob_X8_add_40_4 st a1 hok h6_1 h14_2) dX8_add_40 (fun H locs hP _ hS => ?_)
      have hP : va_P (dC, dI) vwCl (wC q k (sA st 0 ((st.1 0).toNatClampNeg) ((st.2.1 0 a1.toNatClampNeg) ||| (1 <<< ((st.1 0) &&& 31))))) H := hP
      refine lv_aload_n hx hb dX8_add_41 rfl (lv_at hl 0 rfl) ?_
      refine lv_dup hx hb dX8_add_42 rfl ?_
      refine va_get (D := (dC, dI)) (ci := 8) (v := .int (st.1 0)) (C := RX8) (T := TX8) (N := 2) hx hb hts hi8 hown hK.1 hP 1 rfl rfl 1 (by decide) hf15 (fun _ h9 => h9) rfl dX8_add_43 ?_
      refine lv_iconst (v := 1) hx hb dX8_add_46 (by decide) ?_
      refine lv_iadd hx hb dX8_add_47 ?_
      refine va_put (D := (dC, dI)) (ci := 8) (v := .int ((st.1 0) + 1)) (ty := .int) (C := RX8) (T := TX8) (N := 2) hx hb hts hi8 tyX8 tyX8_ok nmX8 hown hK.1 hP (dC_of hq) hS 1 rfl rfl 1 (by decide) hf15 (fun _ h9 => h9) rfl (by decide +kernel) rfl rfl (Nat.le_of_ble_eq_true rfl) dX8_add_48 (fun H locs hP _ hS => ?_)
      have hP : va_P (dC, dI) vwCl (wC q k (sI (sA st 0 ((st.1 0).toNatClampNeg) ((st.2.1 0 a1.toNatClampNeg) ||| (1 <<< ((st.1 0) &&& 31)))) 0 ((st.1 0) + 1))) H := hP
      refine lv_aload_n hx hb dX8_add_51 rfl (lv_at hl 0 rfl) ?_
      refine va_get (D := (dC, dI)) (ci := 8) (v := .int ((st.1 0) + 1)) (C := RX8) (T := TX8) (N := 2) hx hb hts hi8 hown hK.1 hP 1 rfl rfl 1 (by decide) hf15 (fun _ h9 => h9) rfl dX8_add_52 ?_
      refine lv_iconst (v := 1) hx hb dX8_add_55 (by decide) ?_
      refine lv_isub hx hb dX8_add_56 ?_
      exact W.iret (v := ((st.1 0) + 1) - 1) hx hb hr (fun t ht hW => ⟨⟨_, (), rfl, by show _ = Prod.fst _; rw [← he], by show va_P _ _ _ t.heap; rw [ht, ← he]; exact hP⟩, hS.F ht⟩) hS.2.2 dX8_add_57
    · have he := (if_pos h14_2).symm.trans he
      refine lv_iconst (v := (-1)) hx hb dX8_add_17 (by decide) ?_
      exact W.iret (v := (-1)) hx hb hr (fun t ht hW => ⟨⟨_, (), rfl, by show _ = Prod.fst _; rw [← he], by show va_P _ _ _ t.heap; rw [ht, ← he]; exact hP⟩, hS.F ht⟩) hS.2.2 dX8_add_18
set_option maxHeartbeats 4000000 in
set_option maxRecDepth 100000 in
theorem c_X8_isAtOrAbove (l : Launch) (dC : Nat → ClassId) (dI : Nat → Nat → Nat) (q : Nat → Nat) (k : Nat → ClassId) (st : St) (a1 : Int32) (a2 : Int32) (hok : okC st) (res : Int32) (hres : sp_X8_isAtOrAbove st a1 a2 = res) : Met l yX8_isAtOrAbove wsX8_isAtOrAbove ({ frames := 1, cells := 0, slots := 0, locals := 21 } : Room) (va_Pc [.ref (q 1), .int a1, .int a2] (fun U => va_P (dC, dI) vwCl (wC q k st) U.heap ∧ KC (dC, dI) k U)) (vp_Si (fun r => r = res)) 0 0 (fun _ => False) := by
  refine Met.ofW (cc := cX8_isAtOrAbove) (maxL := 3) (ret := (some .boolean)) (by decide) rfl ?_
  intro p e s m args below meth c s₁ B hml hv
  obtain ⟨rfl, hP, hK⟩ := hv
  have hx := B.exec
  have hb := B.bytes
  have hr := B.returns
  have hts := atoms_spec (ws := wsX8_isAtOrAbove) B.pre
  have hown : s.vm.findClass RX8 = some m.cls := findClass_of_methodNamed B.named
  have hlocks := B.notSynchronized
  have hi8 : ∀ w ∈ wsX80, w ∈ wsX8_isAtOrAbove := by decide +kernel
  have hf11 := hts (.fieldLink RX8 11 "ConsentRegister$Purposes" "upward" "[I") (by decide +kernel)
  have hl := lv_entry ([.ref (q 1), .int a1, .int a2]) (n := 3) (Nat.le_of_ble_eq_true rfl)
  rw [lg_entry_eq]
  generalize (lg_sl ([.ref (q 1), .int a1, .int a2]) ++ List.replicate (3 - (lg_sl ([.ref (q 1), .int a1, .int a2])).length) Slot.unset).toArray = ls at hl ⊢
  have hl : lv_has ls 3 [(0, .ref (q 1)), (1, .int a1), (2, .int a2)] := hl
  have he := hres
  unfold sp_X8_isAtOrAbove at he
  refine lv_aload_n hx hb dX8_isAtOrAbove_0 rfl (lv_at hl 0 rfl) ?_
  refine lv_iload_n hx hb dX8_isAtOrAbove_1 rfl (lv_at hl 1 rfl) ?_
  refine vp_callSi (va_Run.run (va_runV (As := [.int a1]) (rest := []) ⟨hx, hb, hml, hown, hts⟩ (c_X8_has l dC dI q k st a1 _ rfl) (cwV 1 hts gX8_isAtOrAbove_X8_has rfl rfl rfl (by decide +kernel) ⟨Nat.le_of_ble_eq_true rfl, Nat.le_of_ble_eq_true rfl⟩) ⟨fb_C, va_recv hK.1 hP (ci := 8) (q0 := 1) rfl rfl, fun U hU hW => ⟨rfl, by rw [hU]; exact hP, hK.warm hW⟩⟩ rfl rfl hl.1 rfl (lv_room (Nat.le_of_ble_eq_true rfl)) dX8_isAtOrAbove_2 ⟨Nat.le_of_ble_eq_true rfl, Nat.le_of_ble_eq_true rfl⟩)) (fun r9 e9 => ?_)
  subst e9
  refine lv_if_eq (tgt := 34) hx hb dX8_isAtOrAbove_5 (by decide) (fun h5_1 => ?_) (fun h5_1 => ?_)
  · have he := (if_pos h5_1).symm.trans he
    refine lv_iconst (v := 0) hx hb dX8_isAtOrAbove_34 (by decide) ?_
    exact W.zret (v := 0) hx hb hr rfl (fun t ht hW => ⟨_, rfl, he, ht⟩) (fun _ h => nomatch h) dX8_isAtOrAbove_35
  · have he := (if_neg h5_1).symm.trans he
    refine lv_aload_n hx hb dX8_isAtOrAbove_8 rfl (lv_at hl 0 rfl) ?_
    refine lv_iload_n hx hb dX8_isAtOrAbove_9 rfl (lv_at hl 2 rfl) ?_
    refine vp_callSi (va_Run.run (va_runV (As := [.int a2]) (rest := []) ⟨hx, hb, hml, hown, hts⟩ (c_X8_has l dC dI q k st a2 _ rfl) (cwV 1 hts gX8_isAtOrAbove_X8_has rfl rfl rfl (by decide +kernel) ⟨Nat.le_of_ble_eq_true rfl, Nat.le_of_ble_eq_true rfl⟩) ⟨fb_C, va_recv hK.1 hP (ci := 8) (q0 := 1) rfl rfl, fun U hU hW => ⟨rfl, by rw [hU]; exact hP, hK.warm hW⟩⟩ rfl rfl hl.1 rfl (lv_room (Nat.le_of_ble_eq_true rfl)) dX8_isAtOrAbove_10 ⟨Nat.le_of_ble_eq_true rfl, Nat.le_of_ble_eq_true rfl⟩)) (fun r9 e9 => ?_)
    subst e9
    refine lv_if_eq (tgt := 34) hx hb dX8_isAtOrAbove_13 (by decide) (fun h13_2 => ?_) (fun h13_2 => ?_)
    · have he := (if_pos h13_2).symm.trans he
      refine lv_iconst (v := 0) hx hb dX8_isAtOrAbove_34 (by decide) ?_
      exact W.zret (v := 0) hx hb hr rfl (fun t ht hW => ⟨_, rfl, he, ht⟩) (fun _ h => nomatch h) dX8_isAtOrAbove_35
    · have he := (if_neg h13_2).symm.trans he
      refine lv_aload_n hx hb dX8_isAtOrAbove_16 rfl (lv_at hl 0 rfl) ?_
      refine va_get (D := (dC, dI)) (ci := 8) (v := .ref (q 10)) (C := RX8) (T := TX8) (N := 2) hx hb hts hi8 hown hK.1 hP 1 rfl rfl 0 (by decide) hf11 (fun _ h9 => h9) rfl dX8_isAtOrAbove_17 ?_
      refine lv_iload_n hx hb dX8_isAtOrAbove_20 rfl (lv_at hl 2 rfl) ?_
      refine va_iald hx hb hK.1 hP 10 0 (f := st.2.1 0) (n := 16) (cA := k 0) rfl rfl (i := a2) (ob_X8_isAtOrAbove_21_3 st a1 a2 hok h5_1 h13_2) dX8_isAtOrAbove_21 ?_
      refine lv_iload_n hx hb dX8_isAtOrAbove_22 rfl (lv_at hl 1 rfl) ?_
      refine lv_ishr hx hb dX8_isAtOrAbove_23 ?_
      refine lv_iconst (v := 1) hx hb dX8_isAtOrAbove_24 (by decide) ?_
      refine lv_iand hx hb dX8_isAtOrAbove_25 ?_
      refine lv_iconst (v := 1) hx hb dX8_isAtOrAbove_26 (by decide) ?_
      refine lv_icmp_ne (tgt := 34) hx hb dX8_isAtOrAbove_27 (by decide) (fun h27_4 => ?_) (fun h27_4 => ?_)
      · have he := (if_neg h27_4).symm.trans he
        refine lv_iconst (v := 0) hx hb dX8_isAtOrAbove_34 (by decide) ?_
        exact W.zret (v := 0) hx hb hr rfl (fun t ht hW => ⟨_, rfl, he, ht⟩) (fun _ h => nomatch h) dX8_isAtOrAbove_35
      · have he := (if_pos h27_4).symm.trans he
        refine lv_iconst (v := 1) hx hb dX8_isAtOrAbove_30 (by decide) ?_
        refine lv_goto (tgt := 35) hx hb dX8_isAtOrAbove_31 (by decide) ?_
        exact W.zret (v := 1) hx hb hr rfl (fun t ht hW => ⟨_, rfl, he, ht⟩) (fun _ h => nomatch h) dX8_isAtOrAbove_35

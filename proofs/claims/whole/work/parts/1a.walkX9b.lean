set_option maxHeartbeats 4000000 in
set_option maxRecDepth 100000 in
theorem c_X9_isMarkedKind (l : Launch) (dC : Nat → ClassId) (dI : Nat → Nat → Nat) (q : Nat → Nat) (k : Nat → ClassId) (st : St) (a1 : Int32)  (res : Int32) (hres : sp_X9_isMarkedKind st a1 = res) : Met l yX9_isMarkedKind wsX9_isMarkedKind ({ frames := 1, cells := 0, slots := 0, locals := 21 } : Room) (va_Pc [.ref (q 0), .int a1] (fun U => va_P (dC, dI) vwCl (wC q k st) U.heap ∧ KC (dC, dI) k U)) (vp_Si (fun r => r = res)) 0 0 (fun _ => False) := by
  refine Met.ofW (cc := cX9_isMarkedKind) (maxL := 2) (ret := (some .boolean)) (by decide) rfl ?_
  intro p e s m args below meth c s₁ B hml hv
  obtain ⟨rfl, hP, hK⟩ := hv
  have hx := B.exec
  have hb := B.bytes
  have hr := B.returns
  have hts := atoms_spec (ws := wsX9_isMarkedKind) B.pre
  have hown : s.vm.findClass RX9 = some m.cls := findClass_of_methodNamed B.named
  have hlocks := B.notSynchronized
  have hi9 : ∀ w ∈ wsX90, w ∈ wsX9_isMarkedKind := by decide +kernel
  have hf19 := hts (.fieldLink RX9 19 "ConsentRegister" "kinds" "LConsentRegister$Kinds;") (by decide +kernel)
  have hl := lv_entry ([.ref (q 0), .int a1]) (n := 2) (Nat.le_of_ble_eq_true rfl)
  rw [lg_entry_eq]
  generalize (lg_sl ([.ref (q 0), .int a1]) ++ List.replicate (2 - (lg_sl ([.ref (q 0), .int a1])).length) Slot.unset).toArray = ls at hl ⊢
  have hl : lv_has ls 2 [(0, .ref (q 0)), (1, .int a1)] := hl
  have he := hres
  unfold sp_X9_isMarkedKind at he
  refine lv_iload_n hx hb dX9_isMarkedKind_0 rfl (lv_at hl 1 rfl) ?_
  refine lv_bipush (v := 100) hx hb dX9_isMarkedKind_1 (by decide) ?_
  refine lv_icmp_lt (tgt := 24) hx hb dX9_isMarkedKind_3 (by decide) (fun h3_1 => ?_) (fun h3_1 => ?_)
  · have he := (if_pos h3_1).symm.trans he
    refine lv_iconst (v := 0) hx hb dX9_isMarkedKind_24 (by decide) ?_
    exact W.zret (v := 0) hx hb hr rfl (fun t ht hW => ⟨_, rfl, he, ht⟩) (fun _ h => nomatch h) dX9_isMarkedKind_25
  · have he := (if_neg h3_1).symm.trans he
    refine lv_aload_n hx hb dX9_isMarkedKind_6 rfl (lv_at hl 0 rfl) ?_
    refine va_get (D := (dC, dI)) (ci := 9) (v := .ref (q 2)) (C := RX9) (T := TX9) (N := 10) hx hb hts hi9 hown hK.1 hP 0 rfl rfl 1 (by decide) hf19 (fun _ h9 => h9) rfl dX9_isMarkedKind_7 ?_
    refine lv_iload_n hx hb dX9_isMarkedKind_10 rfl (lv_at hl 1 rfl) ?_
    refine lv_bipush (v := 100) hx hb dX9_isMarkedKind_11 (by decide) ?_
    refine lv_isub hx hb dX9_isMarkedKind_13 ?_
    refine vp_callSi (va_Run.run (va_runV (As := [.int (a1 - 100)]) (rest := []) ⟨hx, hb, hml, hown, hts⟩ (c_X6_has l dC dI q k st (a1 - 100) _ rfl) (cwV 1 hts gX9_isMarkedKind_X6_has rfl rfl rfl (by decide +kernel) ⟨Nat.le_of_ble_eq_true rfl, Nat.le_of_ble_eq_true rfl⟩) ⟨fb_C, va_recv hK.1 hP (ci := 6) (q0 := 2) rfl rfl, fun U hU hW => ⟨rfl, by rw [hU]; exact hP, hK.warm hW⟩⟩ rfl rfl hl.1 rfl (lv_room (Nat.le_of_ble_eq_true rfl)) dX9_isMarkedKind_14 ⟨Nat.le_of_ble_eq_true rfl, Nat.le_of_ble_eq_true rfl⟩)) (fun r9 e9 => ?_)
    subst e9
    refine lv_if_eq (tgt := 24) hx hb dX9_isMarkedKind_17 (by decide) (fun h17_2 => ?_) (fun h17_2 => ?_)
    · have he := (if_pos h17_2).symm.trans he
      refine lv_iconst (v := 0) hx hb dX9_isMarkedKind_24 (by decide) ?_
      exact W.zret (v := 0) hx hb hr rfl (fun t ht hW => ⟨_, rfl, he, ht⟩) (fun _ h => nomatch h) dX9_isMarkedKind_25
    · have he := (if_neg h17_2).symm.trans he
      refine lv_iconst (v := 1) hx hb dX9_isMarkedKind_20 (by decide) ?_
      refine lv_goto (tgt := 25) hx hb dX9_isMarkedKind_21 (by decide) ?_
      exact W.zret (v := 1) hx hb hr rfl (fun t ht hW => ⟨_, rfl, he, ht⟩) (fun _ h => nomatch h) dX9_isMarkedKind_25
set_option maxHeartbeats 4000000 in
set_option maxRecDepth 100000 in
theorem c_X9_isCovered (l : Launch) (dC : Nat → ClassId) (dI : Nat → Nat → Nat) (q : Nat → Nat) (k : Nat → ClassId) (st : St) (a1 : Int32) (a2 : Int32) (hok : okC st) (res : Int32) (hres : sp_X9_isCovered st a1 a2 = res) : Met l yX9_isCovered wsX9_isCovered ({ frames := 4, cells := 0, slots := 0, locals := 91 } : Room) (va_Pc [.ref (q 0), .int a1, .int a2] (fun U => va_P (dC, dI) vwCl (wC q k st) U.heap ∧ KC (dC, dI) k U)) (vp_Si (fun r => r = res)) 0 0 (fun _ => False) := by
  refine Met.ofW (cc := cX9_isCovered) (maxL := 4) (ret := (some .boolean)) (by decide) rfl ?_
  intro p e s m args below meth c s₁ B hml hv
  obtain ⟨rfl, hP, hK⟩ := hv
  have hx := B.exec
  have hb := B.bytes
  have hr := B.returns
  have hts := atoms_spec (ws := wsX9_isCovered) B.pre
  have hown : s.vm.findClass RX9 = some m.cls := findClass_of_methodNamed B.named
  have hlocks := B.notSynchronized
  have hi9 : ∀ w ∈ wsX90, w ∈ wsX9_isCovered := by decide +kernel
  have hf40 := hts (.fieldLink RX9 40 "ConsentRegister" "duties" "LConsentRegister$Duties;") (by decide +kernel)
  have hf54 := hts (.fieldLink RX9 54 "ConsentRegister" "holds" "LConsentRegister$Holds;") (by decide +kernel)
  have hf61 := hts (.fieldLink RX9 61 "ConsentRegister" "items" "LConsentRegister$Items;") (by decide +kernel)
  have hl := lv_entry ([.ref (q 0), .int a1, .int a2]) (n := 4) (Nat.le_of_ble_eq_true rfl)
  rw [lg_entry_eq]
  generalize (lg_sl ([.ref (q 0), .int a1, .int a2]) ++ List.replicate (4 - (lg_sl ([.ref (q 0), .int a1, .int a2])).length) Slot.unset).toArray = ls at hl ⊢
  have hl : lv_has ls 4 [(0, .ref (q 0)), (1, .int a1), (2, .int a2)] := hl
  have he := hres
  unfold sp_X9_isCovered at he
  refine lv_aload_n hx hb dX9_isCovered_0 rfl (lv_at hl 0 rfl) ?_
  refine va_get (D := (dC, dI)) (ci := 9) (v := .ref (q 8)) (C := RX9) (T := TX9) (N := 10) hx hb hts hi9 hown hK.1 hP 0 rfl rfl 7 (by decide) hf61 (fun _ h9 => h9) rfl dX9_isCovered_1 ?_
  refine lv_iload_n hx hb dX9_isCovered_4 rfl (lv_at hl 1 rfl) ?_
  refine vp_callSi (va_Run.run (va_runV (As := [.int a1]) (rest := []) ⟨hx, hb, hml, hown, hts⟩ (c_X5_kindOf l dC dI q k st a1 hok _ rfl) (cwV 1 hts gX9_isCovered_X5_kindOf rfl rfl rfl (by decide +kernel) ⟨Nat.le_of_ble_eq_true rfl, Nat.le_of_ble_eq_true rfl⟩) ⟨fb_C, va_recv hK.1 hP (ci := 5) (q0 := 8) rfl rfl, fun U hU hW => ⟨rfl, by rw [hU]; exact hP, hK.warm hW⟩⟩ rfl rfl hl.1 rfl (lv_room (Nat.le_of_ble_eq_true rfl)) dX9_isCovered_5 ⟨Nat.le_of_ble_eq_true rfl, Nat.le_of_ble_eq_true rfl⟩)) (fun r9 e9 => ?_)
  subst e9
  refine lv_istore_n (lv' := [(3, .int (sp_X5_kindOf st a1)), (0, .ref (q 0)), (1, .int a1), (2, .int a2)]) hx hb dX9_isCovered_8 rfl hl (by decide) rfl (fun ls hl => ?_)
  refine lv_aload_n hx hb dX9_isCovered_9 rfl (lv_at hl 1 rfl) ?_
  refine va_get (D := (dC, dI)) (ci := 9) (v := .ref (q 7)) (C := RX9) (T := TX9) (N := 10) hx hb hts hi9 hown hK.1 hP 0 rfl rfl 6 (by decide) hf54 (fun _ h9 => h9) rfl dX9_isCovered_10 ?_
  refine lv_aload_n hx hb dX9_isCovered_13 rfl (lv_at hl 1 rfl) ?_
  refine va_get (D := (dC, dI)) (ci := 9) (v := .ref (q 8)) (C := RX9) (T := TX9) (N := 10) hx hb hts hi9 hown hK.1 hP 0 rfl rfl 7 (by decide) hf61 (fun _ h9 => h9) rfl dX9_isCovered_14 ?_
  refine lv_iload_n hx hb dX9_isCovered_17 rfl (lv_at hl 2 rfl) ?_
  refine vp_callSi (va_Run.run (va_runV (As := [.int a1]) (rest := [.ref (q 7)]) ⟨hx, hb, hml, hown, hts⟩ (c_X5_personsOf l dC dI q k st a1 hok _ rfl) (cwV 1 hts gX9_isCovered_X5_personsOf rfl rfl rfl (by decide +kernel) ⟨Nat.le_of_ble_eq_true rfl, Nat.le_of_ble_eq_true rfl⟩) ⟨fb_C, va_recv hK.1 hP (ci := 5) (q0 := 8) rfl rfl, fun U hU hW => ⟨rfl, by rw [hU]; exact hP, hK.warm hW⟩⟩ rfl rfl hl.1 rfl (lv_room (Nat.le_of_ble_eq_true rfl)) dX9_isCovered_18 ⟨Nat.le_of_ble_eq_true rfl, Nat.le_of_ble_eq_true rfl⟩)) (fun r9 e9 => ?_)
  subst e9
  refine lv_iload_n hx hb dX9_isCovered_21 rfl (lv_at hl 0 rfl) ?_
  refine lv_iload_n hx hb dX9_isCovered_22 rfl (lv_at hl 3 rfl) ?_
  refine vp_callSi (va_Run.run (va_runV (As := [.int (sp_X5_personsOf st a1), .int (sp_X5_kindOf st a1), .int a2]) (rest := []) ⟨hx, hb, hml, hown, hts⟩ (c_X4_cover l dC dI q k st (sp_X5_personsOf st a1) (sp_X5_kindOf st a1) a2 hok _ rfl) (cwV 3 hts gX9_isCovered_X4_cover rfl rfl rfl (by decide +kernel) ⟨Nat.le_of_ble_eq_true rfl, Nat.le_of_ble_eq_true rfl⟩) ⟨fb_C, va_recv hK.1 hP (ci := 4) (q0 := 7) rfl rfl, fun U hU hW => ⟨rfl, by rw [hU]; exact hP, hK.warm hW⟩⟩ rfl rfl hl.1 rfl (lv_room (Nat.le_of_ble_eq_true rfl)) dX9_isCovered_23 ⟨Nat.le_of_ble_eq_true rfl, Nat.le_of_ble_eq_true rfl⟩)) (fun r9 e9 => ?_)
  subst e9
  refine lv_if_ne (tgt := 49) hx hb dX9_isCovered_26 (by decide) (fun h26_1 => ?_) (fun h26_1 => ?_)
  · have he := (if_neg h26_1).symm.trans he
    refine lv_iconst (v := 1) hx hb dX9_isCovered_49 (by decide) ?_
    refine lv_goto (tgt := 54) hx hb dX9_isCovered_50 (by decide) ?_
    exact W.zret (v := 1) hx hb hr rfl (fun t ht hW => ⟨_, rfl, he, ht⟩) (fun _ h => nomatch h) dX9_isCovered_54
  · have he := (if_pos h26_1).symm.trans he
    refine lv_aload_n hx hb dX9_isCovered_29 rfl (lv_at hl 1 rfl) ?_
    refine va_get (D := (dC, dI)) (ci := 9) (v := .ref (q 5)) (C := RX9) (T := TX9) (N := 10) hx hb hts hi9 hown hK.1 hP 0 rfl rfl 4 (by decide) hf40 (fun _ h9 => h9) rfl dX9_isCovered_30 ?_
    refine lv_iload_n hx hb dX9_isCovered_33 rfl (lv_at hl 0 rfl) ?_
    refine lv_aload_n hx hb dX9_isCovered_34 rfl (lv_at hl 1 rfl) ?_
    refine va_get (D := (dC, dI)) (ci := 9) (v := .ref (q 8)) (C := RX9) (T := TX9) (N := 10) hx hb hts hi9 hown hK.1 hP 0 rfl rfl 7 (by decide) hf61 (fun _ h9 => h9) rfl dX9_isCovered_35 ?_
    refine lv_iload_n hx hb dX9_isCovered_38 rfl (lv_at hl 2 rfl) ?_
    refine vp_callSi (va_Run.run (va_runV (As := [.int a1]) (rest := [.int (sp_X5_kindOf st a1), .ref (q 5)]) ⟨hx, hb, hml, hown, hts⟩ (c_X5_dayOf l dC dI q k st a1 hok _ rfl) (cwV 1 hts gX9_isCovered_X5_dayOf rfl rfl rfl (by decide +kernel) ⟨Nat.le_of_ble_eq_true rfl, Nat.le_of_ble_eq_true rfl⟩) ⟨fb_C, va_recv hK.1 hP (ci := 5) (q0 := 8) rfl rfl, fun U hU hW => ⟨rfl, by rw [hU]; exact hP, hK.warm hW⟩⟩ rfl rfl hl.1 rfl (lv_room (Nat.le_of_ble_eq_true rfl)) dX9_isCovered_39 ⟨Nat.le_of_ble_eq_true rfl, Nat.le_of_ble_eq_true rfl⟩)) (fun r9 e9 => ?_)
    subst e9
    refine lv_iload_n hx hb dX9_isCovered_42 rfl (lv_at hl 3 rfl) ?_
    refine vp_callSi (va_Run.run (va_runV (As := [.int (sp_X5_kindOf st a1), .int (sp_X5_dayOf st a1), .int a2]) (rest := []) ⟨hx, hb, hml, hown, hts⟩ (c_X2_cover l dC dI q k st (sp_X5_kindOf st a1) (sp_X5_dayOf st a1) a2 hok _ rfl) (cwV 3 hts gX9_isCovered_X2_cover rfl rfl rfl (by decide +kernel) ⟨Nat.le_of_ble_eq_true rfl, Nat.le_of_ble_eq_true rfl⟩) ⟨fb_C, va_recv hK.1 hP (ci := 2) (q0 := 5) rfl rfl, fun U hU hW => ⟨rfl, by rw [hU]; exact hP, hK.warm hW⟩⟩ rfl rfl hl.1 rfl (lv_room (Nat.le_of_ble_eq_true rfl)) dX9_isCovered_43 ⟨Nat.le_of_ble_eq_true rfl, Nat.le_of_ble_eq_true rfl⟩)) (fun r9 e9 => ?_)
    subst e9
    refine lv_if_eq (tgt := 53) hx hb dX9_isCovered_46 (by decide) (fun h46_2 => ?_) (fun h46_2 => ?_)
    · have he := (if_pos h46_2).symm.trans he
      refine lv_iconst (v := 0) hx hb dX9_isCovered_53 (by decide) ?_
      exact W.zret (v := 0) hx hb hr rfl (fun t ht hW => ⟨_, rfl, he, ht⟩) (fun _ h => nomatch h) dX9_isCovered_54
    · have he := (if_neg h46_2).symm.trans he
      refine lv_iconst (v := 1) hx hb dX9_isCovered_49 (by decide) ?_
      refine lv_goto (tgt := 54) hx hb dX9_isCovered_50 (by decide) ?_
      exact W.zret (v := 1) hx hb hr rfl (fun t ht hW => ⟨_, rfl, he, ht⟩) (fun _ h => nomatch h) dX9_isCovered_54
set_option maxHeartbeats 4000000 in
set_option maxRecDepth 100000 in
theorem c_X9_firstDueDay (l : Launch) (dC : Nat → ClassId) (dI : Nat → Nat → Nat) (q : Nat → Nat) (k : Nat → ClassId) (st : St) (a1 : Int32) (hok : okC st) (res : Int32) (hres : sp_X9_firstDueDay st a1 = res) : Met l yX9_firstDueDay wsX9_firstDueDay ({ frames := 3, cells := 0, slots := 0, locals := 63 } : Room) (va_Pc [.ref (q 0), .int a1] (fun U => va_P (dC, dI) vwCl (wC q k st) U.heap ∧ KC (dC, dI) k U)) (vp_Si (fun r => r = res)) 0 0 (fun _ => False) := by
  refine Met.ofW (cc := cX9_firstDueDay) (maxL := 4) (ret := (some .int)) (by decide) rfl ?_
  intro p e s m args below meth c s₁ B hml hv
  obtain ⟨rfl, hP, hK⟩ := hv
  have hx := B.exec
  have hb := B.bytes
  have hr := B.returns
  have hts := atoms_spec (ws := wsX9_firstDueDay) B.pre
  have hown : s.vm.findClass RX9 = some m.cls := findClass_of_methodNamed B.named
  have hlocks := B.notSynchronized
  have hi9 : ∀ w ∈ wsX90, w ∈ wsX9_firstDueDay := by decide +kernel
  have hf19 := hts (.fieldLink RX9 19 "ConsentRegister" "kinds" "LConsentRegister$Kinds;") (by decide +kernel)
  have hf47 := hts (.fieldLink RX9 47 "ConsentRegister" "events" "LConsentRegister$Events;") (by decide +kernel)
  have hf61 := hts (.fieldLink RX9 61 "ConsentRegister" "items" "LConsentRegister$Items;") (by decide +kernel)
  have hl := lv_entry ([.ref (q 0), .int a1]) (n := 4) (Nat.le_of_ble_eq_true rfl)
  rw [lg_entry_eq]
  generalize (lg_sl ([.ref (q 0), .int a1]) ++ List.replicate (4 - (lg_sl ([.ref (q 0), .int a1])).length) Slot.unset).toArray = ls at hl ⊢
  have hl : lv_has ls 4 [(0, .ref (q 0)), (1, .int a1)] := hl
  have he := hres
  unfold sp_X9_firstDueDay at he
  refine lv_aload_n hx hb dX9_firstDueDay_0 rfl (lv_at hl 0 rfl) ?_
  refine va_get (D := (dC, dI)) (ci := 9) (v := .ref (q 8)) (C := RX9) (T := TX9) (N := 10) hx hb hts hi9 hown hK.1 hP 0 rfl rfl 7 (by decide) hf61 (fun _ h9 => h9) rfl dX9_firstDueDay_1 ?_
  refine lv_iload_n hx hb dX9_firstDueDay_4 rfl (lv_at hl 1 rfl) ?_
  refine vp_callSi (va_Run.run (va_runV (As := [.int a1]) (rest := []) ⟨hx, hb, hml, hown, hts⟩ (c_X5_lives l dC dI q k st a1 hok _ rfl) (cwV 1 hts gX9_firstDueDay_X5_lives rfl rfl rfl (by decide +kernel) ⟨Nat.le_of_ble_eq_true rfl, Nat.le_of_ble_eq_true rfl⟩) ⟨fb_C, va_recv hK.1 hP (ci := 5) (q0 := 8) rfl rfl, fun U hU hW => ⟨rfl, by rw [hU]; exact hP, hK.warm hW⟩⟩ rfl rfl hl.1 rfl (lv_room (Nat.le_of_ble_eq_true rfl)) dX9_firstDueDay_5 ⟨Nat.le_of_ble_eq_true rfl, Nat.le_of_ble_eq_true rfl⟩)) (fun r9 e9 => ?_)
  subst e9
  refine lv_if_eq (tgt := 22) hx hb dX9_firstDueDay_8 (by decide) (fun h8_1 => ?_) (fun h8_1 => ?_)
  · have he := (if_pos h8_1).symm.trans he
    refine lv_iconst (v := (-1)) hx hb dX9_firstDueDay_22 (by decide) ?_
    exact W.iret (v := (-1)) hx hb hr (fun t ht hW => ⟨_, rfl, he, ht⟩) (fun _ h => nomatch h) dX9_firstDueDay_23
  · have he := (if_neg h8_1).symm.trans he
    refine lv_aload_n hx hb dX9_firstDueDay_11 rfl (lv_at hl 0 rfl) ?_
    refine va_get (D := (dC, dI)) (ci := 9) (v := .ref (q 8)) (C := RX9) (T := TX9) (N := 10) hx hb hts hi9 hown hK.1 hP 0 rfl rfl 7 (by decide) hf61 (fun _ h9 => h9) rfl dX9_firstDueDay_12 ?_
    refine lv_iload_n hx hb dX9_firstDueDay_15 rfl (lv_at hl 1 rfl) ?_
    refine vp_callSi (va_Run.run (va_runV (As := [.int a1]) (rest := []) ⟨hx, hb, hml, hown, hts⟩ (c_X5_isPut l dC dI q k st a1 hok _ rfl) (cwV 1 hts gX9_firstDueDay_X5_isPut rfl rfl rfl (by decide +kernel) ⟨Nat.le_of_ble_eq_true rfl, Nat.le_of_ble_eq_true rfl⟩) ⟨fb_C, va_recv hK.1 hP (ci := 5) (q0 := 8) rfl rfl, fun U hU hW => ⟨rfl, by rw [hU]; exact hP, hK.warm hW⟩⟩ rfl rfl hl.1 rfl (lv_room (Nat.le_of_ble_eq_true rfl)) dX9_firstDueDay_16 ⟨Nat.le_of_ble_eq_true rfl, Nat.le_of_ble_eq_true rfl⟩)) (fun r9 e9 => ?_)
    subst e9
    refine lv_if_ne (tgt := 24) hx hb dX9_firstDueDay_19 (by decide) (fun h19_2 => ?_) (fun h19_2 => ?_)
    · have he := (if_neg h19_2).symm.trans he
      refine lv_aload_n hx hb dX9_firstDueDay_24 rfl (lv_at hl 0 rfl) ?_
      refine va_get (D := (dC, dI)) (ci := 9) (v := .ref (q 8)) (C := RX9) (T := TX9) (N := 10) hx hb hts hi9 hown hK.1 hP 0 rfl rfl 7 (by decide) hf61 (fun _ h9 => h9) rfl dX9_firstDueDay_25 ?_
      refine lv_iload_n hx hb dX9_firstDueDay_28 rfl (lv_at hl 1 rfl) ?_
      refine vp_callSi (va_Run.run (va_runV (As := [.int a1]) (rest := []) ⟨hx, hb, hml, hown, hts⟩ (c_X5_kindOf l dC dI q k st a1 hok _ rfl) (cwV 1 hts gX9_firstDueDay_X5_kindOf rfl rfl rfl (by decide +kernel) ⟨Nat.le_of_ble_eq_true rfl, Nat.le_of_ble_eq_true rfl⟩) ⟨fb_C, va_recv hK.1 hP (ci := 5) (q0 := 8) rfl rfl, fun U hU hW => ⟨rfl, by rw [hU]; exact hP, hK.warm hW⟩⟩ rfl rfl hl.1 rfl (lv_room (Nat.le_of_ble_eq_true rfl)) dX9_firstDueDay_29 ⟨Nat.le_of_ble_eq_true rfl, Nat.le_of_ble_eq_true rfl⟩)) (fun r9 e9 => ?_)
      subst e9
      refine lv_istore_n (lv' := [(2, .int (sp_X5_kindOf st a1)), (0, .ref (q 0)), (1, .int a1)]) hx hb dX9_firstDueDay_32 rfl hl (by decide) rfl (fun ls hl => ?_)
      refine lv_aload_n hx hb dX9_firstDueDay_33 rfl (lv_at hl 1 rfl) ?_
      refine va_get (D := (dC, dI)) (ci := 9) (v := .ref (q 6)) (C := RX9) (T := TX9) (N := 10) hx hb hts hi9 hown hK.1 hP 0 rfl rfl 5 (by decide) hf47 (fun _ h9 => h9) rfl dX9_firstDueDay_34 ?_
      refine lv_aload_n hx hb dX9_firstDueDay_37 rfl (lv_at hl 1 rfl) ?_
      refine va_get (D := (dC, dI)) (ci := 9) (v := .ref (q 8)) (C := RX9) (T := TX9) (N := 10) hx hb hts hi9 hown hK.1 hP 0 rfl rfl 7 (by decide) hf61 (fun _ h9 => h9) rfl dX9_firstDueDay_38 ?_
      refine lv_iload_n hx hb dX9_firstDueDay_41 rfl (lv_at hl 2 rfl) ?_
      refine vp_callSi (va_Run.run (va_runV (As := [.int a1]) (rest := [.ref (q 6)]) ⟨hx, hb, hml, hown, hts⟩ (c_X5_personsOf l dC dI q k st a1 hok _ rfl) (cwV 1 hts gX9_firstDueDay_X5_personsOf rfl rfl rfl (by decide +kernel) ⟨Nat.le_of_ble_eq_true rfl, Nat.le_of_ble_eq_true rfl⟩) ⟨fb_C, va_recv hK.1 hP (ci := 5) (q0 := 8) rfl rfl, fun U hU hW => ⟨rfl, by rw [hU]; exact hP, hK.warm hW⟩⟩ rfl rfl hl.1 rfl (lv_room (Nat.le_of_ble_eq_true rfl)) dX9_firstDueDay_42 ⟨Nat.le_of_ble_eq_true rfl, Nat.le_of_ble_eq_true rfl⟩)) (fun r9 e9 => ?_)
      subst e9
      refine lv_iload_n hx hb dX9_firstDueDay_45 rfl (lv_at hl 0 rfl) ?_
      refine vp_callSi (va_Run.run (va_runV (As := [.int (sp_X5_personsOf st a1), .int (sp_X5_kindOf st a1)]) (rest := []) ⟨hx, hb, hml, hown, hts⟩ (c_X3_latestDay l dC dI q k st (sp_X5_personsOf st a1) (sp_X5_kindOf st a1) hok _ rfl) (cwV 2 hts gX9_firstDueDay_X3_latestDay rfl rfl rfl (by decide +kernel) ⟨Nat.le_of_ble_eq_true rfl, Nat.le_of_ble_eq_true rfl⟩) ⟨fb_C, va_recv hK.1 hP (ci := 3) (q0 := 6) rfl rfl, fun U hU hW => ⟨rfl, by rw [hU]; exact hP, hK.warm hW⟩⟩ rfl rfl hl.1 rfl (lv_room (Nat.le_of_ble_eq_true rfl)) dX9_firstDueDay_46 ⟨Nat.le_of_ble_eq_true rfl, Nat.le_of_ble_eq_true rfl⟩)) (fun r9 e9 => ?_)
      subst e9
      refine lv_istore_n (lv' := [(3, .int (sp_X3_latestDay st (sp_X5_personsOf st a1) (sp_X5_kindOf st a1))), (2, .int (sp_X5_kindOf st a1)), (0, .ref (q 0)), (1, .int a1)]) hx hb dX9_firstDueDay_49 rfl hl (by decide) rfl (fun ls hl => ?_)
      refine lv_iload_n hx hb dX9_firstDueDay_50 rfl (lv_at hl 0 rfl) ?_
      refine lv_iconst (v := (-1)) hx hb dX9_firstDueDay_51 (by decide) ?_
      refine lv_icmp_eq (tgt := 67) hx hb dX9_firstDueDay_52 (by decide) (fun h52_3 => ?_) (fun h52_3 => ?_)
      · have he := (if_pos h52_3).symm.trans he
        refine lv_iconst (v := (-1)) hx hb dX9_firstDueDay_67 (by decide) ?_
        exact W.iret (v := (-1)) hx hb hr (fun t ht hW => ⟨_, rfl, he, ht⟩) (fun _ h => nomatch h) dX9_firstDueDay_68
      · have he := (if_neg h52_3).symm.trans he
        refine lv_iload_n hx hb dX9_firstDueDay_55 rfl (lv_at hl 0 rfl) ?_
        refine lv_aload_n hx hb dX9_firstDueDay_56 rfl (lv_at hl 2 rfl) ?_
        refine va_get (D := (dC, dI)) (ci := 9) (v := .ref (q 8)) (C := RX9) (T := TX9) (N := 10) hx hb hts hi9 hown hK.1 hP 0 rfl rfl 7 (by decide) hf61 (fun _ h9 => h9) rfl dX9_firstDueDay_57 ?_
        refine lv_iload_n hx hb dX9_firstDueDay_60 rfl (lv_at hl 3 rfl) ?_
        refine vp_callSi (va_Run.run (va_runV (As := [.int a1]) (rest := [.int (sp_X3_latestDay st (sp_X5_personsOf st a1) (sp_X5_kindOf st a1))]) ⟨hx, hb, hml, hown, hts⟩ (c_X5_dayOf l dC dI q k st a1 hok _ rfl) (cwV 1 hts gX9_firstDueDay_X5_dayOf rfl rfl rfl (by decide +kernel) ⟨Nat.le_of_ble_eq_true rfl, Nat.le_of_ble_eq_true rfl⟩) ⟨fb_C, va_recv hK.1 hP (ci := 5) (q0 := 8) rfl rfl, fun U hU hW => ⟨rfl, by rw [hU]; exact hP, hK.warm hW⟩⟩ rfl rfl hl.1 rfl (lv_room (Nat.le_of_ble_eq_true rfl)) dX9_firstDueDay_61 ⟨Nat.le_of_ble_eq_true rfl, Nat.le_of_ble_eq_true rfl⟩)) (fun r9 e9 => ?_)
        subst e9
        refine lv_icmp_ge (tgt := 69) hx hb dX9_firstDueDay_64 (by decide) (fun h64_4 => ?_) (fun h64_4 => ?_)
        · have he := (if_pos h64_4).symm.trans he
          refine lv_iload_n hx hb dX9_firstDueDay_69 rfl (lv_at hl 0 rfl) ?_
          refine lv_aload_n hx hb dX9_firstDueDay_70 rfl (lv_at hl 2 rfl) ?_
          refine va_get (D := (dC, dI)) (ci := 9) (v := .ref (q 2)) (C := RX9) (T := TX9) (N := 10) hx hb hts hi9 hown hK.1 hP 0 rfl rfl 1 (by decide) hf19 (fun _ h9 => h9) rfl dX9_firstDueDay_71 ?_
          refine lv_iload_n hx hb dX9_firstDueDay_74 rfl (lv_at hl 1 rfl) ?_
          refine vp_callSi (va_Run.run (va_runV (As := [.int (sp_X5_kindOf st a1)]) (rest := [.int (sp_X3_latestDay st (sp_X5_personsOf st a1) (sp_X5_kindOf st a1))]) ⟨hx, hb, hml, hown, hts⟩ (c_X6_retentionOf l dC dI q k st (sp_X5_kindOf st a1) hok _ rfl) (cwV 1 hts gX9_firstDueDay_X6_retentionOf rfl rfl rfl (by decide +kernel) ⟨Nat.le_of_ble_eq_true rfl, Nat.le_of_ble_eq_true rfl⟩) ⟨fb_C, va_recv hK.1 hP (ci := 6) (q0 := 2) rfl rfl, fun U hU hW => ⟨rfl, by rw [hU]; exact hP, hK.warm hW⟩⟩ rfl rfl hl.1 rfl (lv_room (Nat.le_of_ble_eq_true rfl)) dX9_firstDueDay_75 ⟨Nat.le_of_ble_eq_true rfl, Nat.le_of_ble_eq_true rfl⟩)) (fun r9 e9 => ?_)
          subst e9
          refine lv_iadd hx hb dX9_firstDueDay_78 ?_
          exact W.iret (v := (sp_X3_latestDay st (sp_X5_personsOf st a1) (sp_X5_kindOf st a1)) + (sp_X6_retentionOf st (sp_X5_kindOf st a1))) hx hb hr (fun t ht hW => ⟨_, rfl, he, ht⟩) (fun _ h => nomatch h) dX9_firstDueDay_79
        · have he := (if_neg h64_4).symm.trans he
          refine lv_iconst (v := (-1)) hx hb dX9_firstDueDay_67 (by decide) ?_
          exact W.iret (v := (-1)) hx hb hr (fun t ht hW => ⟨_, rfl, he, ht⟩) (fun _ h => nomatch h) dX9_firstDueDay_68
    · have he := (if_pos h19_2).symm.trans he
      refine lv_iconst (v := (-1)) hx hb dX9_firstDueDay_22 (by decide) ?_
      exact W.iret (v := (-1)) hx hb hr (fun t ht hW => ⟨_, rfl, he, ht⟩) (fun _ h => nomatch h) dX9_firstDueDay_23
set_option maxHeartbeats 4000000 in
set_option maxRecDepth 100000 in
theorem c_X9_groundOf (l : Launch) (dC : Nat → ClassId) (dI : Nat → Nat → Nat) (q : Nat → Nat) (k : Nat → ClassId) (st : St) (a1 : Int32) (a2 : Int32) (a3 : Int32) (hok : okC st) (res : Int32) (hres : sp_X9_groundOf st a1 a2 a3 = res) : Met l yX9_groundOf wsX9_groundOf ({ frames := 4, cells := 0, slots := 0, locals := 95 } : Room) (va_Pc [.ref (q 0), .int a1, .int a2, .int a3] (fun U => va_P (dC, dI) vwCl (wC q k st) U.heap ∧ KC (dC, dI) k U)) (vp_Si (fun r => r = res)) 0 0 (fun _ => False) := by
  refine Met.ofW (cc := cX9_groundOf) (maxL := 7) (ret := (some .int)) (by decide) rfl ?_
  intro p e s m args below meth c s₁ B hml hv
  obtain ⟨rfl, hP, hK⟩ := hv
  have hx := B.exec
  have hb := B.bytes
  have hr := B.returns
  have hts := atoms_spec (ws := wsX9_groundOf) B.pre
  have hown : s.vm.findClass RX9 = some m.cls := findClass_of_methodNamed B.named
  have hlocks := B.notSynchronized
  have hi9 : ∀ w ∈ wsX90, w ∈ wsX9_groundOf := by decide +kernel
  have hf10 := hts (.fieldLink RX9 10 "ConsentRegister" "purposes" "LConsentRegister$Purposes;") (by decide +kernel)
  have hf26 := hts (.fieldLink RX9 26 "ConsentRegister" "consents" "LConsentRegister$Consents;") (by decide +kernel)
  have hf33 := hts (.fieldLink RX9 33 "ConsentRegister" "contracts" "LConsentRegister$Contracts;") (by decide +kernel)
  have hf40 := hts (.fieldLink RX9 40 "ConsentRegister" "duties" "LConsentRegister$Duties;") (by decide +kernel)
  have hf54 := hts (.fieldLink RX9 54 "ConsentRegister" "holds" "LConsentRegister$Holds;") (by decide +kernel)
  have hf61 := hts (.fieldLink RX9 61 "ConsentRegister" "items" "LConsentRegister$Items;") (by decide +kernel)
  have hl := lv_entry ([.ref (q 0), .int a1, .int a2, .int a3]) (n := 7) (Nat.le_of_ble_eq_true rfl)
  rw [lg_entry_eq]
  generalize (lg_sl ([.ref (q 0), .int a1, .int a2, .int a3]) ++ List.replicate (7 - (lg_sl ([.ref (q 0), .int a1, .int a2, .int a3])).length) Slot.unset).toArray = ls at hl ⊢
  have hl : lv_has ls 7 [(0, .ref (q 0)), (1, .int a1), (2, .int a2), (3, .int a3)] := hl
  have he := hres
  unfold sp_X9_groundOf at he
  refine lv_aload_n hx hb dX9_groundOf_0 rfl (lv_at hl 0 rfl) ?_
  refine va_get (D := (dC, dI)) (ci := 9) (v := .ref (q 8)) (C := RX9) (T := TX9) (N := 10) hx hb hts hi9 hown hK.1 hP 0 rfl rfl 7 (by decide) hf61 (fun _ h9 => h9) rfl dX9_groundOf_1 ?_
  refine lv_iload_n hx hb dX9_groundOf_4 rfl (lv_at hl 1 rfl) ?_
  refine vp_callSi (va_Run.run (va_runV (As := [.int a1]) (rest := []) ⟨hx, hb, hml, hown, hts⟩ (c_X5_personsOf l dC dI q k st a1 hok _ rfl) (cwV 1 hts gX9_groundOf_X5_personsOf rfl rfl rfl (by decide +kernel) ⟨Nat.le_of_ble_eq_true rfl, Nat.le_of_ble_eq_true rfl⟩) ⟨fb_C, va_recv hK.1 hP (ci := 5) (q0 := 8) rfl rfl, fun U hU hW => ⟨rfl, by rw [hU]; exact hP, hK.warm hW⟩⟩ rfl rfl hl.1 rfl (lv_room (Nat.le_of_ble_eq_true rfl)) dX9_groundOf_5 ⟨Nat.le_of_ble_eq_true rfl, Nat.le_of_ble_eq_true rfl⟩)) (fun r9 e9 => ?_)
  subst e9
  refine lv_istore (lv' := [(4, .int (sp_X5_personsOf st a1)), (0, .ref (q 0)), (1, .int a1), (2, .int a2), (3, .int a3)]) hx hb dX9_groundOf_8 hl (by decide) rfl (fun ls hl => ?_)
  refine lv_aload_n hx hb dX9_groundOf_10 rfl (lv_at hl 1 rfl) ?_
  refine va_get (D := (dC, dI)) (ci := 9) (v := .ref (q 8)) (C := RX9) (T := TX9) (N := 10) hx hb hts hi9 hown hK.1 hP 0 rfl rfl 7 (by decide) hf61 (fun _ h9 => h9) rfl dX9_groundOf_11 ?_
  refine lv_iload_n hx hb dX9_groundOf_14 rfl (lv_at hl 2 rfl) ?_
  refine vp_callSi (va_Run.run (va_runV (As := [.int a1]) (rest := []) ⟨hx, hb, hml, hown, hts⟩ (c_X5_kindOf l dC dI q k st a1 hok _ rfl) (cwV 1 hts gX9_groundOf_X5_kindOf rfl rfl rfl (by decide +kernel) ⟨Nat.le_of_ble_eq_true rfl, Nat.le_of_ble_eq_true rfl⟩) ⟨fb_C, va_recv hK.1 hP (ci := 5) (q0 := 8) rfl rfl, fun U hU hW => ⟨rfl, by rw [hU]; exact hP, hK.warm hW⟩⟩ rfl rfl hl.1 rfl (lv_room (Nat.le_of_ble_eq_true rfl)) dX9_groundOf_15 ⟨Nat.le_of_ble_eq_true rfl, Nat.le_of_ble_eq_true rfl⟩)) (fun r9 e9 => ?_)
  subst e9
  refine lv_istore (lv' := [(5, .int (sp_X5_kindOf st a1)), (4, .int (sp_X5_personsOf st a1)), (0, .ref (q 0)), (1, .int a1), (2, .int a2), (3, .int a3)]) hx hb dX9_groundOf_18 hl (by decide) rfl (fun ls hl => ?_)
  refine lv_iload_n hx hb dX9_groundOf_20 rfl (lv_at hl 5 rfl) ?_
  refine vp_callSi (va_Run.run (va_runS (As := [.int a3]) (rest := []) ⟨hx, hb, hml, hown, hts⟩ (c_X9_dayOfMinute l a3 _ rfl) (va_cwS 1 hts gX9_groundOf_X9_dayOfMinute rfl rfl rfl (by decide +kernel) ⟨Nat.le_of_ble_eq_true rfl, Nat.le_of_ble_eq_true rfl⟩) ⟨fb_T, fun U hU hW => ⟨rfl, trivial⟩⟩ rfl rfl hl.1 rfl (lv_room (Nat.le_of_ble_eq_true rfl)) dX9_groundOf_21 ⟨Nat.le_of_ble_eq_true rfl, Nat.le_of_ble_eq_true rfl⟩)) (fun r9 e9 => ?_)
  subst e9
  refine lv_istore (lv' := [(6, .int (sp_X9_dayOfMinute a3)), (5, .int (sp_X5_kindOf st a1)), (4, .int (sp_X5_personsOf st a1)), (0, .ref (q 0)), (1, .int a1), (2, .int a2), (3, .int a3)]) hx hb dX9_groundOf_24 hl (by decide) rfl (fun ls hl => ?_)
  refine lv_aload_n hx hb dX9_groundOf_26 rfl (lv_at hl 3 rfl) ?_
  refine va_get (D := (dC, dI)) (ci := 9) (v := .ref (q 7)) (C := RX9) (T := TX9) (N := 10) hx hb hts hi9 hown hK.1 hP 0 rfl rfl 6 (by decide) hf54 (fun _ h9 => h9) rfl dX9_groundOf_27 ?_
  refine lv_iload hx hb dX9_groundOf_30 (lv_at hl 2 rfl) ?_
  refine lv_iload hx hb dX9_groundOf_32 (lv_at hl 0 rfl) ?_
  refine vp_callSi (va_Run.run (va_runV (As := [.int (sp_X5_personsOf st a1), .int (sp_X9_dayOfMinute a3)]) (rest := []) ⟨hx, hb, hml, hown, hts⟩ (c_X4_coverPersons l dC dI q k st (sp_X5_personsOf st a1) (sp_X9_dayOfMinute a3) hok _ rfl) (cwV 2 hts gX9_groundOf_X4_coverPersons rfl rfl rfl (by decide +kernel) ⟨Nat.le_of_ble_eq_true rfl, Nat.le_of_ble_eq_true rfl⟩) ⟨fb_C, va_recv hK.1 hP (ci := 4) (q0 := 7) rfl rfl, fun U hU hW => ⟨rfl, by rw [hU]; exact hP, hK.warm hW⟩⟩ rfl rfl hl.1 rfl (lv_room (Nat.le_of_ble_eq_true rfl)) dX9_groundOf_34 ⟨Nat.le_of_ble_eq_true rfl, Nat.le_of_ble_eq_true rfl⟩)) (fun r9 e9 => ?_)
  subst e9
  refine lv_if_ne (tgt := 105) hx hb dX9_groundOf_37 (by decide) (fun h37_1 => ?_) (fun h37_1 => ?_)
  · have he := (if_neg h37_1).symm.trans he
    refine lv_aload_n hx hb dX9_groundOf_105 rfl (lv_at hl 3 rfl) ?_
    refine va_get (D := (dC, dI)) (ci := 9) (v := .ref (q 7)) (C := RX9) (T := TX9) (N := 10) hx hb hts hi9 hown hK.1 hP 0 rfl rfl 6 (by decide) hf54 (fun _ h9 => h9) rfl dX9_groundOf_106 ?_
    refine lv_iload hx hb dX9_groundOf_109 (lv_at hl 2 rfl) ?_
    refine lv_iload hx hb dX9_groundOf_111 (lv_at hl 1 rfl) ?_
    refine lv_iload_n hx hb dX9_groundOf_113 rfl (lv_at hl 5 rfl) ?_
    refine lv_iload hx hb dX9_groundOf_114 (lv_at hl 0 rfl) ?_
    refine vp_callSi (va_Run.run (va_runV (As := [.int (sp_X5_personsOf st a1), .int (sp_X5_kindOf st a1), .int a2, .int (sp_X9_dayOfMinute a3)]) (rest := []) ⟨hx, hb, hml, hown, hts⟩ (c_X4_allow l dC dI q k st (sp_X5_personsOf st a1) (sp_X5_kindOf st a1) a2 (sp_X9_dayOfMinute a3) hok _ rfl) (cwV 4 hts gX9_groundOf_X4_allow rfl rfl rfl (by decide +kernel) ⟨Nat.le_of_ble_eq_true rfl, Nat.le_of_ble_eq_true rfl⟩) ⟨fb_C, va_recv hK.1 hP (ci := 4) (q0 := 7) rfl rfl, fun U hU hW => ⟨rfl, by rw [hU]; exact hP, hK.warm hW⟩⟩ rfl rfl hl.1 rfl (lv_room (Nat.le_of_ble_eq_true rfl)) dX9_groundOf_116 ⟨Nat.le_of_ble_eq_true rfl, Nat.le_of_ble_eq_true rfl⟩)) (fun r9 e9 => ?_)
    subst e9
    refine lv_if_eq (tgt := 126) hx hb dX9_groundOf_119 (by decide) (fun h119_2 => ?_) (fun h119_2 => ?_)
    · have he := (if_pos h119_2).symm.trans he
      refine lv_iconst (v := 0) hx hb dX9_groundOf_126 (by decide) ?_
      exact W.iret (v := 0) hx hb hr (fun t ht hW => ⟨_, rfl, he, ht⟩) (fun _ h => nomatch h) dX9_groundOf_127
    · have he := (if_neg h119_2).symm.trans he
      refine lv_iconst (v := 4) hx hb dX9_groundOf_122 (by decide) ?_
      refine lv_goto (tgt := 127) hx hb dX9_groundOf_123 (by decide) ?_
      exact W.iret (v := 4) hx hb hr (fun t ht hW => ⟨_, rfl, he, ht⟩) (fun _ h => nomatch h) dX9_groundOf_127
  · have he := (if_pos h37_1).symm.trans he
    refine lv_aload_n hx hb dX9_groundOf_40 rfl (lv_at hl 3 rfl) ?_
    refine va_get (D := (dC, dI)) (ci := 9) (v := .ref (q 3)) (C := RX9) (T := TX9) (N := 10) hx hb hts hi9 hown hK.1 hP 0 rfl rfl 2 (by decide) hf26 (fun _ h9 => h9) rfl dX9_groundOf_41 ?_
    refine lv_iload hx hb dX9_groundOf_44 (lv_at hl 2 rfl) ?_
    refine lv_iload_n hx hb dX9_groundOf_46 rfl (lv_at hl 5 rfl) ?_
    refine lv_iload_n hx hb dX9_groundOf_47 rfl (lv_at hl 6 rfl) ?_
    refine lv_aload_n hx hb dX9_groundOf_48 rfl (lv_at hl 3 rfl) ?_
    refine va_get (D := (dC, dI)) (ci := 9) (v := .ref (q 1)) (C := RX9) (T := TX9) (N := 10) hx hb hts hi9 hown hK.1 hP 0 rfl rfl 0 (by decide) hf10 (fun _ h9 => h9) rfl dX9_groundOf_49 ?_
    refine vp_callSi (va_Run.run (va_runV (As := [.int (sp_X5_personsOf st a1), .int a2, .int a3, .ref (q 1)]) (rest := []) ⟨hx, hb, hml, hown, hts⟩ (c_X0_allSayYes l dC dI q k st (sp_X5_personsOf st a1) a2 a3 hok _ rfl) (cwV 4 hts gX9_groundOf_X0_allSayYes rfl rfl rfl (by decide +kernel) ⟨Nat.le_of_ble_eq_true rfl, Nat.le_of_ble_eq_true rfl⟩) ⟨fb_C, va_recv hK.1 hP (ci := 0) (q0 := 3) rfl rfl, fun U hU hW => ⟨rfl, by rw [hU]; exact hP, hK.warm hW⟩⟩ rfl rfl hl.1 rfl (lv_room (Nat.le_of_ble_eq_true rfl)) dX9_groundOf_52 ⟨Nat.le_of_ble_eq_true rfl, Nat.le_of_ble_eq_true rfl⟩)) (fun r9 e9 => ?_)
    subst e9
    refine lv_if_eq (tgt := 60) hx hb dX9_groundOf_55 (by decide) (fun h55_3 => ?_) (fun h55_3 => ?_)
    · have he := (if_pos h55_3).symm.trans he
      refine lv_aload_n hx hb dX9_groundOf_60 rfl (lv_at hl 3 rfl) ?_
      refine va_get (D := (dC, dI)) (ci := 9) (v := .ref (q 4)) (C := RX9) (T := TX9) (N := 10) hx hb hts hi9 hown hK.1 hP 0 rfl rfl 3 (by decide) hf33 (fun _ h9 => h9) rfl dX9_groundOf_61 ?_
      refine lv_iload hx hb dX9_groundOf_64 (lv_at hl 2 rfl) ?_
      refine lv_iload_n hx hb dX9_groundOf_66 rfl (lv_at hl 5 rfl) ?_
      refine lv_iload_n hx hb dX9_groundOf_67 rfl (lv_at hl 6 rfl) ?_
      refine lv_aload_n hx hb dX9_groundOf_68 rfl (lv_at hl 3 rfl) ?_
      refine va_get (D := (dC, dI)) (ci := 9) (v := .ref (q 1)) (C := RX9) (T := TX9) (N := 10) hx hb hts hi9 hown hK.1 hP 0 rfl rfl 0 (by decide) hf10 (fun _ h9 => h9) rfl dX9_groundOf_69 ?_
      refine vp_callSi (va_Run.run (va_runV (As := [.int (sp_X5_personsOf st a1), .int a2, .int a3, .ref (q 1)]) (rest := []) ⟨hx, hb, hml, hown, hts⟩ (c_X1_allow l dC dI q k st (sp_X5_personsOf st a1) a2 a3 hok _ rfl) (cwV 4 hts gX9_groundOf_X1_allow rfl rfl rfl (by decide +kernel) ⟨Nat.le_of_ble_eq_true rfl, Nat.le_of_ble_eq_true rfl⟩) ⟨fb_C, va_recv hK.1 hP (ci := 1) (q0 := 4) rfl rfl, fun U hU hW => ⟨rfl, by rw [hU]; exact hP, hK.warm hW⟩⟩ rfl rfl hl.1 rfl (lv_room (Nat.le_of_ble_eq_true rfl)) dX9_groundOf_72 ⟨Nat.le_of_ble_eq_true rfl, Nat.le_of_ble_eq_true rfl⟩)) (fun r9 e9 => ?_)
      subst e9
      refine lv_if_eq (tgt := 80) hx hb dX9_groundOf_75 (by decide) (fun h75_4 => ?_) (fun h75_4 => ?_)
      · have he := (if_pos h75_4).symm.trans he
        refine lv_aload_n hx hb dX9_groundOf_80 rfl (lv_at hl 3 rfl) ?_
        refine va_get (D := (dC, dI)) (ci := 9) (v := .ref (q 5)) (C := RX9) (T := TX9) (N := 10) hx hb hts hi9 hown hK.1 hP 0 rfl rfl 4 (by decide) hf40 (fun _ h9 => h9) rfl dX9_groundOf_81 ?_
        refine lv_iload hx hb dX9_groundOf_84 (lv_at hl 1 rfl) ?_
        refine lv_iload_n hx hb dX9_groundOf_86 rfl (lv_at hl 5 rfl) ?_
        refine lv_aload_n hx hb dX9_groundOf_87 rfl (lv_at hl 3 rfl) ?_
        refine va_get (D := (dC, dI)) (ci := 9) (v := .ref (q 8)) (C := RX9) (T := TX9) (N := 10) hx hb hts hi9 hown hK.1 hP 0 rfl rfl 7 (by decide) hf61 (fun _ h9 => h9) rfl dX9_groundOf_88 ?_
        refine lv_iload_n hx hb dX9_groundOf_91 rfl (lv_at hl 4 rfl) ?_
        refine vp_callSi (va_Run.run (va_runV (As := [.int a1]) (rest := [.int a2, .int (sp_X5_kindOf st a1), .ref (q 5)]) ⟨hx, hb, hml, hown, hts⟩ (c_X5_dayOf l dC dI q k st a1 hok _ rfl) (cwV 1 hts gX9_groundOf_X5_dayOf rfl rfl rfl (by decide +kernel) ⟨Nat.le_of_ble_eq_true rfl, Nat.le_of_ble_eq_true rfl⟩) ⟨fb_C, va_recv hK.1 hP (ci := 5) (q0 := 8) rfl rfl, fun U hU hW => ⟨rfl, by rw [hU]; exact hP, hK.warm hW⟩⟩ rfl rfl hl.1 rfl (lv_room (Nat.le_of_ble_eq_true rfl)) dX9_groundOf_92 ⟨Nat.le_of_ble_eq_true rfl, Nat.le_of_ble_eq_true rfl⟩)) (fun r9 e9 => ?_)
        subst e9
        refine lv_iload hx hb dX9_groundOf_95 (lv_at hl 0 rfl) ?_
        refine vp_callSi (va_Run.run (va_runV (As := [.int (sp_X5_kindOf st a1), .int a2, .int (sp_X5_dayOf st a1), .int (sp_X9_dayOfMinute a3)]) (rest := []) ⟨hx, hb, hml, hown, hts⟩ (c_X2_allow l dC dI q k st (sp_X5_kindOf st a1) a2 (sp_X5_dayOf st a1) (sp_X9_dayOfMinute a3) hok _ rfl) (cwV 4 hts gX9_groundOf_X2_allow rfl rfl rfl (by decide +kernel) ⟨Nat.le_of_ble_eq_true rfl, Nat.le_of_ble_eq_true rfl⟩) ⟨fb_C, va_recv hK.1 hP (ci := 2) (q0 := 5) rfl rfl, fun U hU hW => ⟨rfl, by rw [hU]; exact hP, hK.warm hW⟩⟩ rfl rfl hl.1 rfl (lv_room (Nat.le_of_ble_eq_true rfl)) dX9_groundOf_97 ⟨Nat.le_of_ble_eq_true rfl, Nat.le_of_ble_eq_true rfl⟩)) (fun r9 e9 => ?_)
        subst e9
        refine lv_if_eq (tgt := 105) hx hb dX9_groundOf_100 (by decide) (fun h100_5 => ?_) (fun h100_5 => ?_)
        · have he := (if_pos h100_5).symm.trans he
          refine lv_aload_n hx hb dX9_groundOf_105 rfl (lv_at hl 3 rfl) ?_
          refine va_get (D := (dC, dI)) (ci := 9) (v := .ref (q 7)) (C := RX9) (T := TX9) (N := 10) hx hb hts hi9 hown hK.1 hP 0 rfl rfl 6 (by decide) hf54 (fun _ h9 => h9) rfl dX9_groundOf_106 ?_
          refine lv_iload hx hb dX9_groundOf_109 (lv_at hl 2 rfl) ?_
          refine lv_iload hx hb dX9_groundOf_111 (lv_at hl 1 rfl) ?_
          refine lv_iload_n hx hb dX9_groundOf_113 rfl (lv_at hl 5 rfl) ?_
          refine lv_iload hx hb dX9_groundOf_114 (lv_at hl 0 rfl) ?_
          refine vp_callSi (va_Run.run (va_runV (As := [.int (sp_X5_personsOf st a1), .int (sp_X5_kindOf st a1), .int a2, .int (sp_X9_dayOfMinute a3)]) (rest := []) ⟨hx, hb, hml, hown, hts⟩ (c_X4_allow l dC dI q k st (sp_X5_personsOf st a1) (sp_X5_kindOf st a1) a2 (sp_X9_dayOfMinute a3) hok _ rfl) (cwV 4 hts gX9_groundOf_X4_allow rfl rfl rfl (by decide +kernel) ⟨Nat.le_of_ble_eq_true rfl, Nat.le_of_ble_eq_true rfl⟩) ⟨fb_C, va_recv hK.1 hP (ci := 4) (q0 := 7) rfl rfl, fun U hU hW => ⟨rfl, by rw [hU]; exact hP, hK.warm hW⟩⟩ rfl rfl hl.1 rfl (lv_room (Nat.le_of_ble_eq_true rfl)) dX9_groundOf_116 ⟨Nat.le_of_ble_eq_true rfl, Nat.le_of_ble_eq_true rfl⟩)) (fun r9 e9 => ?_)
          subst e9
          refine lv_if_eq (tgt := 126) hx hb dX9_groundOf_119 (by decide) (fun h119_6 => ?_) (fun h119_6 => ?_)
          · have he := (if_pos h119_6).symm.trans he
            refine lv_iconst (v := 0) hx hb dX9_groundOf_126 (by decide) ?_
            exact W.iret (v := 0) hx hb hr (fun t ht hW => ⟨_, rfl, he, ht⟩) (fun _ h => nomatch h) dX9_groundOf_127
          · have he := (if_neg h119_6).symm.trans he
            refine lv_iconst (v := 4) hx hb dX9_groundOf_122 (by decide) ?_
            refine lv_goto (tgt := 127) hx hb dX9_groundOf_123 (by decide) ?_
            exact W.iret (v := 4) hx hb hr (fun t ht hW => ⟨_, rfl, he, ht⟩) (fun _ h => nomatch h) dX9_groundOf_127
        · have he := (if_neg h100_5).symm.trans he
          refine lv_iconst (v := 3) hx hb dX9_groundOf_103 (by decide) ?_
          exact W.iret (v := 3) hx hb hr (fun t ht hW => ⟨_, rfl, he, ht⟩) (fun _ h => nomatch h) dX9_groundOf_104
      · have he := (if_neg h75_4).symm.trans he
        refine lv_iconst (v := 2) hx hb dX9_groundOf_78 (by decide) ?_
        exact W.iret (v := 2) hx hb hr (fun t ht hW => ⟨_, rfl, he, ht⟩) (fun _ h => nomatch h) dX9_groundOf_79
    · have he := (if_neg h55_3).symm.trans he
      refine lv_iconst (v := 1) hx hb dX9_groundOf_58 (by decide) ?_
      exact W.iret (v := 1) hx hb hr (fun t ht hW => ⟨_, rfl, he, ht⟩) (fun _ h => nomatch h) dX9_groundOf_59
set_option maxHeartbeats 4000000 in
set_option maxRecDepth 100000 in
theorem c_X9_markKept (l : Launch) (dC : Nat → ClassId) (dI : Nat → Nat → Nat) (q : Nat → Nat) (k : Nat → ClassId) (st : St) (a1 : Int32) (hq : ∀ i j, i < 43 → j < 43 → q i = q j → i = j) (hok : okC st) (res : St) (hres : sp_X9_markKept st a1 = res) : Met l yX9_markKept wsX9_markKept ({ frames := 5, cells := 0, slots := 0, locals := 114 } : Room) (va_Pc [.ref (q 0), .int a1] (fun U => va_P (dC, dI) vwCl (wC q k st) U.heap ∧ KC (dC, dI) k U)) (va_Qv (fun (_ : Unit) => True) (fun _ t => va_P (dC, dI) vwCl (wC q k res) t.heap) (aC q)) 0 0 (aC q) := by
  refine Met.ofW (cc := cX9_markKept) (maxL := 3) (ret := none) (by decide) rfl ?_
  intro p e s m args below meth c s₁ B hml hv
  obtain ⟨rfl, hP, hK⟩ := hv
  have hx := B.exec
  have hb := B.bytes
  have hr := B.returns
  have hts := atoms_spec (ws := wsX9_markKept) B.pre
  have hown : s.vm.findClass RX9 = some m.cls := findClass_of_methodNamed B.named
  have hlocks := B.notSynchronized
  have hS : va_S (aC q) s.heap s.heap [] := va_S.rf
  have hi9 : ∀ w ∈ wsX90, w ∈ wsX9_markKept := by decide +kernel
  have hf61 := hts (.fieldLink RX9 61 "ConsentRegister" "items" "LConsentRegister$Items;") (by decide +kernel)
  have hl := lv_entry ([.ref (q 0), .int a1]) (n := 3) (Nat.le_of_ble_eq_true rfl)
  rw [lg_entry_eq]
  generalize (lg_sl ([.ref (q 0), .int a1]) ++ List.replicate (3 - (lg_sl ([.ref (q 0), .int a1])).length) Slot.unset).toArray = ls at hl ⊢
  have hl : lv_has ls 3 [(0, .ref (q 0)), (1, .int a1)] := hl
  have he := hres
  unfold sp_X9_markKept at he
  refine lv_aload_n hx hb dX9_markKept_0 rfl (lv_at hl 0 rfl) ?_
  refine va_get (D := (dC, dI)) (ci := 9) (v := .ref (q 8)) (C := RX9) (T := TX9) (N := 10) hx hb hts hi9 hown hK.1 hP 0 rfl rfl 7 (by decide) hf61 (fun _ h9 => h9) rfl dX9_markKept_1 ?_
  refine va_callv (va_runV (As := []) (rest := []) ⟨hx, hb, hml, hown, hts⟩ (c_X5_unmarkAll l dC dI q k st hq hok _ rfl) (cwV 0 hts gX9_markKept_X5_unmarkAll rfl rfl rfl (by decide +kernel) ⟨Nat.le_of_ble_eq_true rfl, Nat.le_of_ble_eq_true rfl⟩) ⟨fb_C, va_recv hK.1 hP (ci := 5) (q0 := 8) rfl rfl, fun U hU hW => ⟨rfl, by rw [hU]; exact hP, hK.warm hW⟩⟩ rfl rfl hl.1 rfl (lv_room (Nat.le_of_ble_eq_true rfl)) dX9_markKept_4 ⟨Nat.le_of_ble_eq_true rfl, Nat.le_of_ble_eq_true rfl⟩) hS (fun _ _ h => h) (fun _ h => h) (fun u9 t9 H locs ht9 hv9 e9 hB9 hz9 hk9 hS => ?_)
  rw [ht9] at hB9
  have hP : va_P (dC, dI) vwCl (wC q k (sp_X5_unmarkAll st)) H := hB9
  refine lv_aload_n hx hb dX9_markKept_7 rfl (lv_at hl 0 rfl) ?_
  refine va_get (D := (dC, dI)) (ci := 9) (v := .ref (q 8)) (C := RX9) (T := TX9) (N := 10) hx hb hts hi9 hown hK.1 hP 0 rfl rfl 7 (by decide) hf61 (fun _ h9 => h9) rfl dX9_markKept_8 ?_
  refine vp_callSi (va_Run.run (va_runV (As := []) (rest := []) ⟨hx, hb, hml, hown, hts⟩ (c_X5_total l dC dI q k (sp_X5_unmarkAll st) _ rfl) (cwV 0 hts gX9_markKept_X5_total rfl rfl rfl (by decide +kernel) ⟨Nat.le_of_ble_eq_true rfl, Nat.le_of_ble_eq_true rfl⟩) ⟨fb_C, va_recv hK.1 hP (ci := 5) (q0 := 8) rfl rfl, fun U hU hW => ⟨rfl, by rw [hU]; exact hP, hK.warm hW⟩⟩ rfl rfl hl.1 rfl (lv_room (Nat.le_of_ble_eq_true rfl)) dX9_markKept_11 ⟨Nat.le_of_ble_eq_true rfl, Nat.le_of_ble_eq_true rfl⟩)) (fun r9 e9 => ?_)
  subst e9
  refine lv_iconst (v := 1) hx hb dX9_markKept_14 (by decide) ?_
  refine lv_isub hx hb dX9_markKept_15 ?_
  refine lv_istore_n (lv' := [(2, .int ((sp_X5_total (sp_X5_unmarkAll st)) - 1)), (0, .ref (q 0)), (1, .int a1)]) hx hb dX9_markKept_16 rfl hl (by decide) rfl (fun ls hl => ?_)
  have k_17 : ∀ (n_17 : Nat) (st_17 : St) (x2_17 : Int32) (H : Heap) (locs : List Loc) (ls : Array Slot), -1 ≤ x2_17.toInt → x2_17.toInt < 100 → x2_17.toInt + 1 < n_17 → okC st_17 → va_P (dC, dI) vwCl (wC q k st_17) H → va_S (aC q) s.heap H locs → lp_X9_markKept_17 st a1 n_17 st_17 x2_17 = res → lv_has ls 3 [(2, .int x2_17), (0, .ref (q 0)), (1, .int a1)] → W p l e (headSpec wsX9_markKept ({ frames := 5, cells := 0, slots := 0, locals := 114 } : Room)).room s m ([.ref (q 0), .int a1] : List Value).toArray below meth c H locs 0 0 (MQ below (va_Qv (fun (_ : Unit) => True) (fun _ t => va_P (dC, dI) vwCl (wC q k res) t.heap) (aC q)) ([.ref (q 0), .int a1] : List Value).toArray s 0 0 (aC q)) (F0 m 17 ls []) := by
    intro n_17
    induction n_17 with
    | zero =>
      intro st_17 x2_17 H locs ls hi0_17 hi1_17 hi2_17 hi3_17
      exact (ob_X9_markKept_17_zero st a1 st_17 x2_17 hok hi0_17 hi1_17 hi2_17 hi3_17).elim
    | succ n_17 ih_17 =>
      intro st_17 x2_17 H locs ls hi0_17 hi1_17 hi2_17 hi3_17 hP hS he hl
      rw [lp_X9_markKept_17] at he
      refine lv_iload_n hx hb dX9_markKept_17 rfl (lv_at hl 0 rfl) ?_
      refine lv_if_lt (tgt := 66) hx hb dX9_markKept_18 (by decide) (fun h18_1 => ?_) (fun h18_1 => ?_)
      · have he := (if_pos h18_1).symm.trans he
        exact W.vret hx hb hr (fun t ht hW => ⟨⟨(), rfl, trivial, by show va_P _ _ _ t.heap; rw [ht, ← he]; exact hP⟩, hS.F ht⟩) hS.2.2 dX9_markKept_66
      · have he := (if_neg h18_1).symm.trans he
        refine lv_aload_n hx hb dX9_markKept_21 rfl (lv_at hl 1 rfl) ?_
        refine va_get (D := (dC, dI)) (ci := 9) (v := .ref (q 8)) (C := RX9) (T := TX9) (N := 10) hx hb hts hi9 hown hK.1 hP 0 rfl rfl 7 (by decide) hf61 (fun _ h9 => h9) rfl dX9_markKept_22 ?_
        refine lv_iload_n hx hb dX9_markKept_25 rfl (lv_at hl 0 rfl) ?_
        refine vp_callSi (va_Run.run (va_runV (As := [.int x2_17]) (rest := []) ⟨hx, hb, hml, hown, hts⟩ (c_X5_lives l dC dI q k st_17 x2_17 hi3_17 _ rfl) (cwV 1 hts gX9_markKept_X5_lives rfl rfl rfl (by decide +kernel) ⟨Nat.le_of_ble_eq_true rfl, Nat.le_of_ble_eq_true rfl⟩) ⟨fb_C, va_recv hK.1 hP (ci := 5) (q0 := 8) rfl rfl, fun U hU hW => ⟨rfl, by rw [hU]; exact hP, hK.warm hW⟩⟩ rfl rfl hl.1 rfl (lv_room (Nat.le_of_ble_eq_true rfl)) dX9_markKept_26 ⟨Nat.le_of_ble_eq_true rfl, Nat.le_of_ble_eq_true rfl⟩)) (fun r9 e9 => ?_)
        subst e9
        refine lv_if_eq (tgt := 60) hx hb dX9_markKept_29 (by decide) (fun h29_2 => ?_) (fun h29_2 => ?_)
        · have he := (if_pos h29_2).symm.trans he
          refine lv_iinc (v := x2_17 + (-1)) (lv' := [(2, .int (x2_17 + (-1))), (0, .ref (q 0)), (1, .int a1)]) hx hb dX9_markKept_60 hl (k := 0) rfl rfl (by decide) rfl (fun ls hl => ?_)
          refine lv_goto (tgt := 17) hx hb dX9_markKept_63 (by decide) ?_
          exact ih_17 st_17 (x2_17 + (-1)) _ _ ls (ob_X9_markKept_17_inv0_3 st a1 n_17 st_17 x2_17 hok hi0_17 hi1_17 hi2_17 hi3_17 h18_1 h29_2) (ob_X9_markKept_17_inv1_4 st a1 n_17 st_17 x2_17 hok hi0_17 hi1_17 hi2_17 hi3_17 h18_1 h29_2) (ob_X9_markKept_17_inv2_5 st a1 n_17 st_17 x2_17 hok hi0_17 hi1_17 hi2_17 hi3_17 h18_1 h29_2) (ob_X9_markKept_17_inv3_6 st a1 n_17 st_17 x2_17 hok hi0_17 hi1_17 hi2_17 hi3_17 h18_1 h29_2) hP hS he (lv_sub hl [0, 1, 2] rfl)
        · have he := (if_neg h29_2).symm.trans he
          refine lv_aload_n hx hb dX9_markKept_32 rfl (lv_at hl 1 rfl) ?_
          refine va_get (D := (dC, dI)) (ci := 9) (v := .ref (q 8)) (C := RX9) (T := TX9) (N := 10) hx hb hts hi9 hown hK.1 hP 0 rfl rfl 7 (by decide) hf61 (fun _ h9 => h9) rfl dX9_markKept_33 ?_
          refine lv_iload_n hx hb dX9_markKept_36 rfl (lv_at hl 0 rfl) ?_
          refine vp_callSi (va_Run.run (va_runV (As := [.int x2_17]) (rest := []) ⟨hx, hb, hml, hown, hts⟩ (c_X5_isKept l dC dI q k st_17 x2_17 hi3_17 _ rfl) (cwV 1 hts gX9_markKept_X5_isKept rfl rfl rfl (by decide +kernel) ⟨Nat.le_of_ble_eq_true rfl, Nat.le_of_ble_eq_true rfl⟩) ⟨fb_C, va_recv hK.1 hP (ci := 5) (q0 := 8) rfl rfl, fun U hU hW => ⟨rfl, by rw [hU]; exact hP, hK.warm hW⟩⟩ rfl rfl hl.1 rfl (lv_room (Nat.le_of_ble_eq_true rfl)) dX9_markKept_37 ⟨Nat.le_of_ble_eq_true rfl, Nat.le_of_ble_eq_true rfl⟩)) (fun r9 e9 => ?_)
          subst e9
          refine lv_if_ne (tgt := 52) hx hb dX9_markKept_40 (by decide) (fun h40_7 => ?_) (fun h40_7 => ?_)
          · have he := (if_neg h40_7).symm.trans he
            refine lv_aload_n hx hb dX9_markKept_52 rfl (lv_at hl 1 rfl) ?_
            refine va_get (D := (dC, dI)) (ci := 9) (v := .ref (q 8)) (C := RX9) (T := TX9) (N := 10) hx hb hts hi9 hown hK.1 hP 0 rfl rfl 7 (by decide) hf61 (fun _ h9 => h9) rfl dX9_markKept_53 ?_
            refine lv_iload_n hx hb dX9_markKept_56 rfl (lv_at hl 0 rfl) ?_
            refine va_callv (va_runV (As := [.int x2_17]) (rest := []) ⟨hx, hb, hml, hown, hts⟩ (c_X5_keepWithInputs l dC dI q k st_17 x2_17 hq hi3_17 _ rfl) (cwV 1 hts gX9_markKept_X5_keepWithInputs rfl rfl rfl (by decide +kernel) ⟨Nat.le_of_ble_eq_true rfl, Nat.le_of_ble_eq_true rfl⟩) ⟨fb_C, va_recv hK.1 hP (ci := 5) (q0 := 8) rfl rfl, fun U hU hW => ⟨rfl, by rw [hU]; exact hP, hK.warm hW⟩⟩ rfl rfl hl.1 rfl (lv_room (Nat.le_of_ble_eq_true rfl)) dX9_markKept_57 ⟨Nat.le_of_ble_eq_true rfl, Nat.le_of_ble_eq_true rfl⟩) hS (fun _ _ h => h) (fun _ h => h) (fun u9 t9 H locs ht9 hv9 e9 hB9 hz9 hk9 hS => ?_)
            rw [ht9] at hB9
            have hP : va_P (dC, dI) vwCl (wC q k (sp_X5_keepWithInputs st_17 x2_17)) H := hB9
            refine lv_iinc (v := x2_17 + (-1)) (lv' := [(2, .int (x2_17 + (-1))), (0, .ref (q 0)), (1, .int a1)]) hx hb dX9_markKept_60 hl (k := 0) rfl rfl (by decide) rfl (fun ls hl => ?_)
            refine lv_goto (tgt := 17) hx hb dX9_markKept_63 (by decide) ?_
            exact ih_17 (sp_X5_keepWithInputs st_17 x2_17) (x2_17 + (-1)) _ _ ls (ob_X9_markKept_17_inv0_8 st a1 n_17 st_17 x2_17 hok hi0_17 hi1_17 hi2_17 hi3_17 h18_1 h29_2 h40_7) (ob_X9_markKept_17_inv1_9 st a1 n_17 st_17 x2_17 hok hi0_17 hi1_17 hi2_17 hi3_17 h18_1 h29_2 h40_7) (ob_X9_markKept_17_inv2_10 st a1 n_17 st_17 x2_17 hok hi0_17 hi1_17 hi2_17 hi3_17 h18_1 h29_2 h40_7) (ob_X9_markKept_17_inv3_11 st a1 n_17 st_17 x2_17 hok hi0_17 hi1_17 hi2_17 hi3_17 h18_1 h29_2 h40_7) hP hS he (lv_sub hl [0, 1, 2] rfl)
          · have he := (if_pos h40_7).symm.trans he
            refine lv_aload_n hx hb dX9_markKept_43 rfl (lv_at hl 1 rfl) ?_
            refine lv_iload_n hx hb dX9_markKept_44 rfl (lv_at hl 0 rfl) ?_
            refine lv_iload_n hx hb dX9_markKept_45 rfl (lv_at hl 2 rfl) ?_
            refine vp_callSi (va_Run.run (va_runV (As := [.int x2_17, .int a1]) (rest := []) ⟨hx, hb, hml, hown, hts⟩ (c_X9_isCovered l dC dI q k st_17 x2_17 a1 hi3_17 _ rfl) (cwV 2 hts gX9_markKept_X9_isCovered rfl rfl rfl (by decide +kernel) ⟨Nat.le_of_ble_eq_true rfl, Nat.le_of_ble_eq_true rfl⟩) ⟨fb_C, va_recv hK.1 hP (ci := 9) (q0 := 0) rfl rfl, fun U hU hW => ⟨rfl, by rw [hU]; exact hP, hK.warm hW⟩⟩ rfl rfl hl.1 rfl (lv_room (Nat.le_of_ble_eq_true rfl)) dX9_markKept_46 ⟨Nat.le_of_ble_eq_true rfl, Nat.le_of_ble_eq_true rfl⟩)) (fun r9 e9 => ?_)
            subst e9
            refine lv_if_eq (tgt := 60) hx hb dX9_markKept_49 (by decide) (fun h49_12 => ?_) (fun h49_12 => ?_)
            · have he := (if_pos h49_12).symm.trans he
              refine lv_iinc (v := x2_17 + (-1)) (lv' := [(2, .int (x2_17 + (-1))), (0, .ref (q 0)), (1, .int a1)]) hx hb dX9_markKept_60 hl (k := 0) rfl rfl (by decide) rfl (fun ls hl => ?_)
              refine lv_goto (tgt := 17) hx hb dX9_markKept_63 (by decide) ?_
              exact ih_17 st_17 (x2_17 + (-1)) _ _ ls (ob_X9_markKept_17_inv0_13 st a1 n_17 st_17 x2_17 hok hi0_17 hi1_17 hi2_17 hi3_17 h18_1 h29_2 h40_7 h49_12) (ob_X9_markKept_17_inv1_14 st a1 n_17 st_17 x2_17 hok hi0_17 hi1_17 hi2_17 hi3_17 h18_1 h29_2 h40_7 h49_12) (ob_X9_markKept_17_inv2_15 st a1 n_17 st_17 x2_17 hok hi0_17 hi1_17 hi2_17 hi3_17 h18_1 h29_2 h40_7 h49_12) (ob_X9_markKept_17_inv3_16 st a1 n_17 st_17 x2_17 hok hi0_17 hi1_17 hi2_17 hi3_17 h18_1 h29_2 h40_7 h49_12) hP hS he (lv_sub hl [0, 1, 2] rfl)
            · have he := (if_neg h49_12).symm.trans he
              refine lv_aload_n hx hb dX9_markKept_52 rfl (lv_at hl 1 rfl) ?_
              refine va_get (D := (dC, dI)) (ci := 9) (v := .ref (q 8)) (C := RX9) (T := TX9) (N := 10) hx hb hts hi9 hown hK.1 hP 0 rfl rfl 7 (by decide) hf61 (fun _ h9 => h9) rfl dX9_markKept_53 ?_
              refine lv_iload_n hx hb dX9_markKept_56 rfl (lv_at hl 0 rfl) ?_
              refine va_callv (va_runV (As := [.int x2_17]) (rest := []) ⟨hx, hb, hml, hown, hts⟩ (c_X5_keepWithInputs l dC dI q k st_17 x2_17 hq hi3_17 _ rfl) (cwV 1 hts gX9_markKept_X5_keepWithInputs rfl rfl rfl (by decide +kernel) ⟨Nat.le_of_ble_eq_true rfl, Nat.le_of_ble_eq_true rfl⟩) ⟨fb_C, va_recv hK.1 hP (ci := 5) (q0 := 8) rfl rfl, fun U hU hW => ⟨rfl, by rw [hU]; exact hP, hK.warm hW⟩⟩ rfl rfl hl.1 rfl (lv_room (Nat.le_of_ble_eq_true rfl)) dX9_markKept_57 ⟨Nat.le_of_ble_eq_true rfl, Nat.le_of_ble_eq_true rfl⟩) hS (fun _ _ h => h) (fun _ h => h) (fun u9 t9 H locs ht9 hv9 e9 hB9 hz9 hk9 hS => ?_)
              rw [ht9] at hB9
              have hP : va_P (dC, dI) vwCl (wC q k (sp_X5_keepWithInputs st_17 x2_17)) H := hB9
              refine lv_iinc (v := x2_17 + (-1)) (lv' := [(2, .int (x2_17 + (-1))), (0, .ref (q 0)), (1, .int a1)]) hx hb dX9_markKept_60 hl (k := 0) rfl rfl (by decide) rfl (fun ls hl => ?_)
              refine lv_goto (tgt := 17) hx hb dX9_markKept_63 (by decide) ?_
              exact ih_17 (sp_X5_keepWithInputs st_17 x2_17) (x2_17 + (-1)) _ _ ls (ob_X9_markKept_17_inv0_17 st a1 n_17 st_17 x2_17 hok hi0_17 hi1_17 hi2_17 hi3_17 h18_1 h29_2 h40_7 h49_12) (ob_X9_markKept_17_inv1_18 st a1 n_17 st_17 x2_17 hok hi0_17 hi1_17 hi2_17 hi3_17 h18_1 h29_2 h40_7 h49_12) (ob_X9_markKept_17_inv2_19 st a1 n_17 st_17 x2_17 hok hi0_17 hi1_17 hi2_17 hi3_17 h18_1 h29_2 h40_7 h49_12) (ob_X9_markKept_17_inv3_20 st a1 n_17 st_17 x2_17 hok hi0_17 hi1_17 hi2_17 hi3_17 h18_1 h29_2 h40_7 h49_12) hP hS he (lv_sub hl [0, 1, 2] rfl)
  exact k_17 ((st.1 7).toInt.toNat + 1) (sp_X5_unmarkAll st) ((sp_X5_total (sp_X5_unmarkAll st)) - 1) _ _ ls (ob_X9_markKept_17_inv0_21 st a1 hok) (ob_X9_markKept_17_inv1_22 st a1 hok) (ob_X9_markKept_17_inv2_23 st a1 hok) (ob_X9_markKept_17_inv3_24 st a1 hok) hP hS he (lv_sub hl [0, 1, 2] rfl)
set_option maxHeartbeats 4000000 in
set_option maxRecDepth 100000 in
theorem c_X9_why (l : Launch) (dC : Nat → ClassId) (dI : Nat → Nat → Nat) (q : Nat → Nat) (k : Nat → ClassId) (st : St)  (res : Int32) (hres : sp_X9_why st = res) : Met l yX9_why wsX9_why ({ frames := 0, cells := 0, slots := 0, locals := 0 } : Room) (va_Pc [.ref (q 0)] (fun U => va_P (dC, dI) vwCl (wC q k st) U.heap ∧ KC (dC, dI) k U)) (vp_Si (fun r => r = res)) 0 0 (fun _ => False) := by
  refine Met.ofW (cc := cX9_why) (maxL := 1) (ret := (some .int)) (by decide) rfl ?_
  intro p e s m args below meth c s₁ B hml hv
  obtain ⟨rfl, hP, hK⟩ := hv
  have hx := B.exec
  have hb := B.bytes
  have hr := B.returns
  have hts := atoms_spec (ws := wsX9_why) B.pre
  have hown : s.vm.findClass RX9 = some m.cls := findClass_of_methodNamed B.named
  have hlocks := B.notSynchronized
  have hi9 : ∀ w ∈ wsX90, w ∈ wsX9_why := by decide +kernel
  have hf72 := hts (.fieldLink RX9 72 "ConsentRegister" "latestGround" "I") (by decide +kernel)
  have hl := lv_entry ([.ref (q 0)]) (n := 1) (Nat.le_of_ble_eq_true rfl)
  rw [lg_entry_eq]
  generalize (lg_sl ([.ref (q 0)]) ++ List.replicate (1 - (lg_sl ([.ref (q 0)])).length) Slot.unset).toArray = ls at hl ⊢
  have hl : lv_has ls 1 [(0, .ref (q 0))] := hl
  have he := hres
  unfold sp_X9_why at he
  refine lv_aload_n hx hb dX9_why_0 rfl (lv_at hl 0 rfl) ?_
  refine va_get (D := (dC, dI)) (ci := 9) (v := .int (st.1 9)) (C := RX9) (T := TX9) (N := 10) hx hb hts hi9 hown hK.1 hP 0 rfl rfl 9 (by decide) hf72 (fun _ h9 => h9) rfl dX9_why_1 ?_
  exact W.iret (v := st.1 9) hx hb hr (fun t ht hW => ⟨_, rfl, he, ht⟩) (fun _ h => nomatch h) dX9_why_4
set_option maxHeartbeats 4000000 in
set_option maxRecDepth 100000 in
theorem c_X9_held (l : Launch) (dC : Nat → ClassId) (dI : Nat → Nat → Nat) (q : Nat → Nat) (k : Nat → ClassId) (st : St) (a1 : Int32) (a2 : Int32) (hok : okC st) (res : Int32) (hres : sp_X9_held st a1 a2 = res) : Met l yX9_held wsX9_held ({ frames := 2, cells := 0, slots := 0, locals := 43 } : Room) (va_Pc [.ref (q 0), .int a1, .int a2] (fun U => va_P (dC, dI) vwCl (wC q k st) U.heap ∧ KC (dC, dI) k U)) (vp_Si (fun r => r = res)) 0 0 (fun _ => False) := by
  refine Met.ofW (cc := cX9_held) (maxL := 5) (ret := (some .int)) (by decide) rfl ?_
  intro p e s m args below meth c s₁ B hml hv
  obtain ⟨rfl, hP, hK⟩ := hv
  have hx := B.exec
  have hb := B.bytes
  have hr := B.returns
  have hts := atoms_spec (ws := wsX9_held) B.pre
  have hown : s.vm.findClass RX9 = some m.cls := findClass_of_methodNamed B.named
  have hlocks := B.notSynchronized
  have hi9 : ∀ w ∈ wsX90, w ∈ wsX9_held := by decide +kernel
  have hf61 := hts (.fieldLink RX9 61 "ConsentRegister" "items" "LConsentRegister$Items;") (by decide +kernel)
  have hl := lv_entry ([.ref (q 0), .int a1, .int a2]) (n := 5) (Nat.le_of_ble_eq_true rfl)
  rw [lg_entry_eq]
  generalize (lg_sl ([.ref (q 0), .int a1, .int a2]) ++ List.replicate (5 - (lg_sl ([.ref (q 0), .int a1, .int a2])).length) Slot.unset).toArray = ls at hl ⊢
  have hl : lv_has ls 5 [(0, .ref (q 0)), (1, .int a1), (2, .int a2)] := hl
  have he := hres
  unfold sp_X9_held at he
  refine lv_iload_n hx hb dX9_held_0 rfl (lv_at hl 1 rfl) ?_
  refine vp_callSi (va_Run.run (va_runS (As := [.int a1]) (rest := []) ⟨hx, hb, hml, hown, hts⟩ (c_X9_isPerson l a1 _ rfl) (va_cwS 1 hts gX9_held_X9_isPerson rfl rfl rfl (by decide +kernel) ⟨Nat.le_of_ble_eq_true rfl, Nat.le_of_ble_eq_true rfl⟩) ⟨fb_T, fun U hU hW => ⟨rfl, trivial⟩⟩ rfl rfl hl.1 rfl (lv_room (Nat.le_of_ble_eq_true rfl)) dX9_held_1 ⟨Nat.le_of_ble_eq_true rfl, Nat.le_of_ble_eq_true rfl⟩)) (fun r9 e9 => ?_)
  subst e9
  refine lv_if_ne (tgt := 9) hx hb dX9_held_4 (by decide) (fun h4_1 => ?_) (fun h4_1 => ?_)
  · have he := (if_neg h4_1).symm.trans he
    refine lv_iconst (v := 0) hx hb dX9_held_9 (by decide) ?_
    refine lv_istore_n (lv' := [(3, .int 0), (0, .ref (q 0)), (1, .int a1), (2, .int a2)]) hx hb dX9_held_10 rfl hl (by decide) rfl (fun ls hl => ?_)
    refine lv_iconst (v := 0) hx hb dX9_held_11 (by decide) ?_
    refine lv_istore (lv' := [(4, .int 0), (3, .int 0), (0, .ref (q 0)), (1, .int a1), (2, .int a2)]) hx hb dX9_held_12 hl (by decide) rfl (fun ls hl => ?_)
    have k_14 : ∀ (n_14 : Nat) (x4_14 : Int32) (x3_14 : Int32) (ls : Array Slot), 0 ≤ x4_14.toInt → x4_14.toInt ≤ (st.1 7).toInt → (st.1 7).toInt < x4_14.toInt + n_14 → lp_X9_held_14 st a1 a2 n_14 x4_14 x3_14 = res → lv_has ls 5 [(4, .int x4_14), (3, .int x3_14), (0, .ref (q 0)), (1, .int a1), (2, .int a2)] → W p l e (headSpec wsX9_held ({ frames := 2, cells := 0, slots := 0, locals := 43 } : Room)).room s m ([.ref (q 0), .int a1, .int a2] : List Value).toArray below meth c s.heap [] 0 0 (MQ below (vp_Si (fun r => r = res)) ([.ref (q 0), .int a1, .int a2] : List Value).toArray s 0 0 (fun _ => False)) (F0 m 14 ls []) := by
      intro n_14
      induction n_14 with
      | zero =>
        intro x4_14 x3_14 ls hi0_14 hi1_14 hi2_14
        exact (ob_X9_held_14_zero st a1 a2 x4_14 x3_14 hok h4_1 hi0_14 hi1_14 hi2_14).elim
      | succ n_14 ih_14 =>
        intro x4_14 x3_14 ls hi0_14 hi1_14 hi2_14 he hl
        rw [lp_X9_held_14] at he
        refine lv_iload hx hb dX9_held_14 (lv_at hl 0 rfl) ?_
        refine lv_aload_n hx hb dX9_held_16 rfl (lv_at hl 2 rfl) ?_
        refine va_get (D := (dC, dI)) (ci := 9) (v := .ref (q 8)) (C := RX9) (T := TX9) (N := 10) hx hb hts hi9 hown hK.1 hP 0 rfl rfl 7 (by decide) hf61 (fun _ h9 => h9) rfl dX9_held_17 ?_
        refine vp_callSi (va_Run.run (va_runV (As := []) (rest := [.int x4_14]) ⟨hx, hb, hml, hown, hts⟩ (c_X5_total l dC dI q k st _ rfl) (cwV 0 hts gX9_held_X5_total rfl rfl rfl (by decide +kernel) ⟨Nat.le_of_ble_eq_true rfl, Nat.le_of_ble_eq_true rfl⟩) ⟨fb_C, va_recv hK.1 hP (ci := 5) (q0 := 8) rfl rfl, fun U hU hW => ⟨rfl, by rw [hU]; exact hP, hK.warm hW⟩⟩ rfl rfl hl.1 rfl (lv_room (Nat.le_of_ble_eq_true rfl)) dX9_held_20 ⟨Nat.le_of_ble_eq_true rfl, Nat.le_of_ble_eq_true rfl⟩)) (fun r9 e9 => ?_)
        subst e9
        refine lv_icmp_ge (tgt := 68) hx hb dX9_held_23 (by decide) (fun h23_2 => ?_) (fun h23_2 => ?_)
        · have he := (if_pos h23_2).symm.trans he
          refine lv_iconst (v := (-1)) hx hb dX9_held_68 (by decide) ?_
          exact W.iret (v := (-1)) hx hb hr (fun t ht hW => ⟨_, rfl, he, ht⟩) (fun _ h => nomatch h) dX9_held_69
        · have he := (if_neg h23_2).symm.trans he
          refine lv_aload_n hx hb dX9_held_26 rfl (lv_at hl 2 rfl) ?_
          refine va_get (D := (dC, dI)) (ci := 9) (v := .ref (q 8)) (C := RX9) (T := TX9) (N := 10) hx hb hts hi9 hown hK.1 hP 0 rfl rfl 7 (by decide) hf61 (fun _ h9 => h9) rfl dX9_held_27 ?_
          refine lv_iload hx hb dX9_held_30 (lv_at hl 0 rfl) ?_
          refine vp_callSi (va_Run.run (va_runV (As := [.int x4_14]) (rest := []) ⟨hx, hb, hml, hown, hts⟩ (c_X5_lives l dC dI q k st x4_14 hok _ rfl) (cwV 1 hts gX9_held_X5_lives rfl rfl rfl (by decide +kernel) ⟨Nat.le_of_ble_eq_true rfl, Nat.le_of_ble_eq_true rfl⟩) ⟨fb_C, va_recv hK.1 hP (ci := 5) (q0 := 8) rfl rfl, fun U hU hW => ⟨rfl, by rw [hU]; exact hP, hK.warm hW⟩⟩ rfl rfl hl.1 rfl (lv_room (Nat.le_of_ble_eq_true rfl)) dX9_held_32 ⟨Nat.le_of_ble_eq_true rfl, Nat.le_of_ble_eq_true rfl⟩)) (fun r9 e9 => ?_)
          subst e9
          refine lv_if_eq (tgt := 62) hx hb dX9_held_35 (by decide) (fun h35_3 => ?_) (fun h35_3 => ?_)
          · have he := (if_pos h35_3).symm.trans he
            refine lv_iinc (v := x4_14 + 1) (lv' := [(4, .int (x4_14 + 1)), (3, .int x3_14), (0, .ref (q 0)), (1, .int a1), (2, .int a2)]) hx hb dX9_held_62 hl (k := 0) rfl rfl (by decide) rfl (fun ls hl => ?_)
            refine lv_goto (tgt := 14) hx hb dX9_held_65 (by decide) ?_
            exact ih_14 (x4_14 + 1) x3_14 ls (ob_X9_held_14_inv0_4 st a1 a2 n_14 x4_14 x3_14 hok h4_1 hi0_14 hi1_14 hi2_14 h23_2 h35_3) (ob_X9_held_14_inv1_5 st a1 a2 n_14 x4_14 x3_14 hok h4_1 hi0_14 hi1_14 hi2_14 h23_2 h35_3) (ob_X9_held_14_inv2_6 st a1 a2 n_14 x4_14 x3_14 hok h4_1 hi0_14 hi1_14 hi2_14 h23_2 h35_3) he (lv_sub hl [0, 1, 2, 3, 4] rfl)
          · have he := (if_neg h35_3).symm.trans he
            refine lv_aload_n hx hb dX9_held_38 rfl (lv_at hl 2 rfl) ?_
            refine va_get (D := (dC, dI)) (ci := 9) (v := .ref (q 8)) (C := RX9) (T := TX9) (N := 10) hx hb hts hi9 hown hK.1 hP 0 rfl rfl 7 (by decide) hf61 (fun _ h9 => h9) rfl dX9_held_39 ?_
            refine lv_iload hx hb dX9_held_42 (lv_at hl 0 rfl) ?_
            refine lv_iload_n hx hb dX9_held_44 rfl (lv_at hl 3 rfl) ?_
            refine vp_callSi (va_Run.run (va_runV (As := [.int x4_14, .int a1]) (rest := []) ⟨hx, hb, hml, hown, hts⟩ (c_X5_isAbout l dC dI q k st x4_14 a1 hok _ rfl) (cwV 2 hts gX9_held_X5_isAbout rfl rfl rfl (by decide +kernel) ⟨Nat.le_of_ble_eq_true rfl, Nat.le_of_ble_eq_true rfl⟩) ⟨fb_C, va_recv hK.1 hP (ci := 5) (q0 := 8) rfl rfl, fun U hU hW => ⟨rfl, by rw [hU]; exact hP, hK.warm hW⟩⟩ rfl rfl hl.1 rfl (lv_room (Nat.le_of_ble_eq_true rfl)) dX9_held_45 ⟨Nat.le_of_ble_eq_true rfl, Nat.le_of_ble_eq_true rfl⟩)) (fun r9 e9 => ?_)
            subst e9
            refine lv_if_eq (tgt := 62) hx hb dX9_held_48 (by decide) (fun h48_7 => ?_) (fun h48_7 => ?_)
            · have he := (if_pos h48_7).symm.trans he
              refine lv_iinc (v := x4_14 + 1) (lv' := [(4, .int (x4_14 + 1)), (3, .int x3_14), (0, .ref (q 0)), (1, .int a1), (2, .int a2)]) hx hb dX9_held_62 hl (k := 0) rfl rfl (by decide) rfl (fun ls hl => ?_)
              refine lv_goto (tgt := 14) hx hb dX9_held_65 (by decide) ?_
              exact ih_14 (x4_14 + 1) x3_14 ls (ob_X9_held_14_inv0_8 st a1 a2 n_14 x4_14 x3_14 hok h4_1 hi0_14 hi1_14 hi2_14 h23_2 h35_3 h48_7) (ob_X9_held_14_inv1_9 st a1 a2 n_14 x4_14 x3_14 hok h4_1 hi0_14 hi1_14 hi2_14 h23_2 h35_3 h48_7) (ob_X9_held_14_inv2_10 st a1 a2 n_14 x4_14 x3_14 hok h4_1 hi0_14 hi1_14 hi2_14 h23_2 h35_3 h48_7) he (lv_sub hl [0, 1, 2, 3, 4] rfl)
            · have he := (if_neg h48_7).symm.trans he
              refine lv_iload_n hx hb dX9_held_51 rfl (lv_at hl 1 rfl) ?_
              refine lv_iload_n hx hb dX9_held_52 rfl (lv_at hl 4 rfl) ?_
              refine lv_icmp_ne (tgt := 59) hx hb dX9_held_53 (by decide) (fun h53_11 => ?_) (fun h53_11 => ?_)
              · have he := (if_neg h53_11).symm.trans he
                refine lv_iinc (v := x3_14 + 1) (lv' := [(3, .int (x3_14 + 1)), (4, .int x4_14), (0, .ref (q 0)), (1, .int a1), (2, .int a2)]) hx hb dX9_held_59 hl (k := 1) rfl rfl (by decide) rfl (fun ls hl => ?_)
                refine lv_iinc (v := x4_14 + 1) (lv' := [(4, .int (x4_14 + 1)), (3, .int (x3_14 + 1)), (0, .ref (q 0)), (1, .int a1), (2, .int a2)]) hx hb dX9_held_62 hl (k := 1) rfl rfl (by decide) rfl (fun ls hl => ?_)
                refine lv_goto (tgt := 14) hx hb dX9_held_65 (by decide) ?_
                exact ih_14 (x4_14 + 1) (x3_14 + 1) ls (ob_X9_held_14_inv0_12 st a1 a2 n_14 x4_14 x3_14 hok h4_1 hi0_14 hi1_14 hi2_14 h23_2 h35_3 h48_7 h53_11) (ob_X9_held_14_inv1_13 st a1 a2 n_14 x4_14 x3_14 hok h4_1 hi0_14 hi1_14 hi2_14 h23_2 h35_3 h48_7 h53_11) (ob_X9_held_14_inv2_14 st a1 a2 n_14 x4_14 x3_14 hok h4_1 hi0_14 hi1_14 hi2_14 h23_2 h35_3 h48_7 h53_11) he (lv_sub hl [0, 1, 2, 3, 4] rfl)
              · have he := (if_pos h53_11).symm.trans he
                refine lv_iload hx hb dX9_held_56 (lv_at hl 0 rfl) ?_
                exact W.iret (v := x4_14) hx hb hr (fun t ht hW => ⟨_, rfl, he, ht⟩) (fun _ h => nomatch h) dX9_held_58
    exact k_14 ((st.1 7).toInt.toNat + 1) 0 0 ls (ob_X9_held_14_inv0_15 st a1 a2 hok h4_1) (ob_X9_held_14_inv1_16 st a1 a2 hok h4_1) (ob_X9_held_14_inv2_17 st a1 a2 hok h4_1) he (lv_sub hl [0, 1, 2, 3, 4] rfl)
  · have he := (if_pos h4_1).symm.trans he
    refine lv_iconst (v := (-1)) hx hb dX9_held_7 (by decide) ?_
    exact W.iret (v := (-1)) hx hb hr (fun t ht hW => ⟨_, rfl, he, ht⟩) (fun _ h => nomatch h) dX9_held_8
set_option maxHeartbeats 4000000 in
set_option maxRecDepth 100000 in
theorem c_X9_logged (l : Launch) (dC : Nat → ClassId) (dI : Nat → Nat → Nat) (q : Nat → Nat) (k : Nat → ClassId) (st : St) (a1 : Int32) (a2 : Int32) (hok : okC st) (res : Int32) (hres : sp_X9_logged st a1 a2 = res) : Met l yX9_logged wsX9_logged ({ frames := 1, cells := 0, slots := 0, locals := 22 } : Room) (va_Pc [.ref (q 0), .int a1, .int a2] (fun U => va_P (dC, dI) vwCl (wC q k st) U.heap ∧ KC (dC, dI) k U)) (vp_Si (fun r => r = res)) 0 0 (fun _ => False) := by
  refine Met.ofW (cc := cX9_logged) (maxL := 3) (ret := (some .int)) (by decide) rfl ?_
  intro p e s m args below meth c s₁ B hml hv
  obtain ⟨rfl, hP, hK⟩ := hv
  have hx := B.exec
  have hb := B.bytes
  have hr := B.returns
  have hts := atoms_spec (ws := wsX9_logged) B.pre
  have hown : s.vm.findClass RX9 = some m.cls := findClass_of_methodNamed B.named
  have hlocks := B.notSynchronized
  have hi9 : ∀ w ∈ wsX90, w ∈ wsX9_logged := by decide +kernel
  have hf68 := hts (.fieldLink RX9 68 "ConsentRegister" "log" "LConsentRegister$Log;") (by decide +kernel)
  have hl := lv_entry ([.ref (q 0), .int a1, .int a2]) (n := 3) (Nat.le_of_ble_eq_true rfl)
  rw [lg_entry_eq]
  generalize (lg_sl ([.ref (q 0), .int a1, .int a2]) ++ List.replicate (3 - (lg_sl ([.ref (q 0), .int a1, .int a2])).length) Slot.unset).toArray = ls at hl ⊢
  have hl : lv_has ls 3 [(0, .ref (q 0)), (1, .int a1), (2, .int a2)] := hl
  have he := hres
  unfold sp_X9_logged at he
  refine lv_aload_n hx hb dX9_logged_0 rfl (lv_at hl 0 rfl) ?_
  refine va_get (D := (dC, dI)) (ci := 9) (v := .ref (q 9)) (C := RX9) (T := TX9) (N := 10) hx hb hts hi9 hown hK.1 hP 0 rfl rfl 8 (by decide) hf68 (fun _ h9 => h9) rfl dX9_logged_1 ?_
  refine lv_iload_n hx hb dX9_logged_4 rfl (lv_at hl 1 rfl) ?_
  refine lv_iload_n hx hb dX9_logged_5 rfl (lv_at hl 2 rfl) ?_
  refine vp_callSi (va_Run.run (va_runV (As := [.int a1, .int a2]) (rest := []) ⟨hx, hb, hml, hown, hts⟩ (c_X7_read l dC dI q k st a1 a2 hok _ rfl) (cwV 2 hts gX9_logged_X7_read rfl rfl rfl (by decide +kernel) ⟨Nat.le_of_ble_eq_true rfl, Nat.le_of_ble_eq_true rfl⟩) ⟨fb_C, va_recv hK.1 hP (ci := 7) (q0 := 9) rfl rfl, fun U hU hW => ⟨rfl, by rw [hU]; exact hP, hK.warm hW⟩⟩ rfl rfl hl.1 rfl (lv_room (Nat.le_of_ble_eq_true rfl)) dX9_logged_6 ⟨Nat.le_of_ble_eq_true rfl, Nat.le_of_ble_eq_true rfl⟩)) (fun r9 e9 => ?_)
  subst e9
  exact W.iret (v := (sp_X7_read st a1 a2)) hx hb hr (fun t ht hW => ⟨_, rfl, he, ht⟩) (fun _ h => nomatch h) dX9_logged_9
set_option maxHeartbeats 4000000 in
set_option maxRecDepth 100000 in
theorem c_X9_peek (l : Launch) (dC : Nat → ClassId) (dI : Nat → Nat → Nat) (q : Nat → Nat) (k : Nat → ClassId) (st : St) (a1 : Int32) (hok : okC st) (res : Int64) (hres : sp_X9_peek st a1 = res) : Met l yX9_peek wsX9_peek ({ frames := 3, cells := 0, slots := 0, locals := 63 } : Room) (va_Pc [.ref (q 0), .int a1] (fun U => va_P (dC, dI) vwCl (wC q k st) U.heap ∧ KC (dC, dI) k U)) (vp_Sl (fun r => r = res)) 0 0 (fun _ => False) := by
  refine Met.ofW (cc := cX9_peek) (maxL := 2) (ret := (some .long)) (by decide) rfl ?_
  intro p e s m args below meth c s₁ B hml hv
  obtain ⟨rfl, hP, hK⟩ := hv
  have hx := B.exec
  have hb := B.bytes
  have hr := B.returns
  have hts := atoms_spec (ws := wsX9_peek) B.pre
  have hown : s.vm.findClass RX9 = some m.cls := findClass_of_methodNamed B.named
  have hlocks := B.notSynchronized
  have hi9 : ∀ w ∈ wsX90, w ∈ wsX9_peek := by decide +kernel
  have hf61 := hts (.fieldLink RX9 61 "ConsentRegister" "items" "LConsentRegister$Items;") (by decide +kernel)
  have hl := lv_entry ([.ref (q 0), .int a1]) (n := 2) (Nat.le_of_ble_eq_true rfl)
  rw [lg_entry_eq]
  generalize (lg_sl ([.ref (q 0), .int a1]) ++ List.replicate (2 - (lg_sl ([.ref (q 0), .int a1])).length) Slot.unset).toArray = ls at hl ⊢
  have hl : lv_has ls 2 [(0, .ref (q 0)), (1, .int a1)] := hl
  have he := hres
  unfold sp_X9_peek at he
  refine lv_aload_n hx hb dX9_peek_0 rfl (lv_at hl 0 rfl) ?_
  refine va_get (D := (dC, dI)) (ci := 9) (v := .ref (q 8)) (C := RX9) (T := TX9) (N := 10) hx hb hts hi9 hown hK.1 hP 0 rfl rfl 7 (by decide) hf61 (fun _ h9 => h9) rfl dX9_peek_1 ?_
  refine lv_iload_n hx hb dX9_peek_4 rfl (lv_at hl 1 rfl) ?_
  refine vp_callSl (va_Run.run (va_runV (As := [.int a1]) (rest := []) ⟨hx, hb, hml, hown, hts⟩ (c_X5_valueOf l dC dI q k st a1 hok _ rfl) (cwV 1 hts gX9_peek_X5_valueOf rfl rfl rfl (by decide +kernel) ⟨Nat.le_of_ble_eq_true rfl, Nat.le_of_ble_eq_true rfl⟩) ⟨fb_C, va_recv hK.1 hP (ci := 5) (q0 := 8) rfl rfl, fun U hU hW => ⟨rfl, by rw [hU]; exact hP, hK.warm hW⟩⟩ rfl rfl hl.1 rfl (lv_room (Nat.le_of_ble_eq_true rfl)) dX9_peek_5 ⟨Nat.le_of_ble_eq_true rfl, Nat.le_of_ble_eq_true rfl⟩)) (fun r9 e9 => ?_)
  subst e9
  exact W.lret (v := (sp_X5_valueOf st a1)) hx hb hr (fun t ht hW => ⟨_, rfl, he, ht⟩) (fun _ h => nomatch h) dX9_peek_8
set_option maxHeartbeats 4000000 in
set_option maxRecDepth 100000 in
theorem c_X9_look (l : Launch) (dC : Nat → ClassId) (dI : Nat → Nat → Nat) (q : Nat → Nat) (k : Nat → ClassId) (st : St) (a1 : Int32) (a2 : Int32) (hok : okC st) (res : Int32) (hres : sp_X9_look st a1 a2 = res) : Met l yX9_look wsX9_look ({ frames := 4, cells := 0, slots := 0, locals := 86 } : Room) (va_Pc [.ref (q 0), .int a1, .int a2] (fun U => va_P (dC, dI) vwCl (wC q k st) U.heap ∧ KC (dC, dI) k U)) (vp_Si (fun r => r = res)) 0 0 (fun _ => False) := by
  refine Met.ofW (cc := cX9_look) (maxL := 3) (ret := (some .int)) (by decide) rfl ?_
  intro p e s m args below meth c s₁ B hml hv
  obtain ⟨rfl, hP, hK⟩ := hv
  have hx := B.exec
  have hb := B.bytes
  have hr := B.returns
  have hts := atoms_spec (ws := wsX9_look) B.pre
  have hown : s.vm.findClass RX9 = some m.cls := findClass_of_methodNamed B.named
  have hlocks := B.notSynchronized
  have hi9 : ∀ w ∈ wsX90, w ∈ wsX9_look := by decide +kernel
  have hf61 := hts (.fieldLink RX9 61 "ConsentRegister" "items" "LConsentRegister$Items;") (by decide +kernel)
  have hl := lv_entry ([.ref (q 0), .int a1, .int a2]) (n := 3) (Nat.le_of_ble_eq_true rfl)
  rw [lg_entry_eq]
  generalize (lg_sl ([.ref (q 0), .int a1, .int a2]) ++ List.replicate (3 - (lg_sl ([.ref (q 0), .int a1, .int a2])).length) Slot.unset).toArray = ls at hl ⊢
  have hl : lv_has ls 3 [(0, .ref (q 0)), (1, .int a1), (2, .int a2)] := hl
  have he := hres
  unfold sp_X9_look at he
  refine lv_aload_n hx hb dX9_look_0 rfl (lv_at hl 0 rfl) ?_
  refine va_get (D := (dC, dI)) (ci := 9) (v := .ref (q 8)) (C := RX9) (T := TX9) (N := 10) hx hb hts hi9 hown hK.1 hP 0 rfl rfl 7 (by decide) hf61 (fun _ h9 => h9) rfl dX9_look_1 ?_
  refine lv_iload_n hx hb dX9_look_4 rfl (lv_at hl 1 rfl) ?_
  refine vp_callSi (va_Run.run (va_runV (As := [.int a1]) (rest := []) ⟨hx, hb, hml, hown, hts⟩ (c_X5_lives l dC dI q k st a1 hok _ rfl) (cwV 1 hts gX9_look_X5_lives rfl rfl rfl (by decide +kernel) ⟨Nat.le_of_ble_eq_true rfl, Nat.le_of_ble_eq_true rfl⟩) ⟨fb_C, va_recv hK.1 hP (ci := 5) (q0 := 8) rfl rfl, fun U hU hW => ⟨rfl, by rw [hU]; exact hP, hK.warm hW⟩⟩ rfl rfl hl.1 rfl (lv_room (Nat.le_of_ble_eq_true rfl)) dX9_look_5 ⟨Nat.le_of_ble_eq_true rfl, Nat.le_of_ble_eq_true rfl⟩)) (fun r9 e9 => ?_)
  subst e9
  refine lv_if_ne (tgt := 13) hx hb dX9_look_8 (by decide) (fun h8_1 => ?_) (fun h8_1 => ?_)
  · have he := (if_neg h8_1).symm.trans he
    refine lv_iload_n hx hb dX9_look_13 rfl (lv_at hl 2 rfl) ?_
    by_cases h14_2 : a2 = 0
    · have he := (if_pos h14_2).symm.trans he
      refine lv_tableIn (off := 34) (tgt := 48) hx hb dX9_look_14 (by rw [h14_2]; decide) (by rw [h14_2]; decide) (by rw [h14_2]; rfl) (by decide) ?_
      refine lv_aload_n hx hb dX9_look_48 rfl (lv_at hl 0 rfl) ?_
      refine va_get (D := (dC, dI)) (ci := 9) (v := .ref (q 8)) (C := RX9) (T := TX9) (N := 10) hx hb hts hi9 hown hK.1 hP 0 rfl rfl 7 (by decide) hf61 (fun _ h9 => h9) rfl dX9_look_49 ?_
      refine lv_iload_n hx hb dX9_look_52 rfl (lv_at hl 1 rfl) ?_
      refine vp_callSi (va_Run.run (va_runV (As := [.int a1]) (rest := []) ⟨hx, hb, hml, hown, hts⟩ (c_X5_kindOf l dC dI q k st a1 hok _ rfl) (cwV 1 hts gX9_look_X5_kindOf rfl rfl rfl (by decide +kernel) ⟨Nat.le_of_ble_eq_true rfl, Nat.le_of_ble_eq_true rfl⟩) ⟨fb_C, va_recv hK.1 hP (ci := 5) (q0 := 8) rfl rfl, fun U hU hW => ⟨rfl, by rw [hU]; exact hP, hK.warm hW⟩⟩ rfl rfl hl.1 rfl (lv_room (Nat.le_of_ble_eq_true rfl)) dX9_look_53 ⟨Nat.le_of_ble_eq_true rfl, Nat.le_of_ble_eq_true rfl⟩)) (fun r9 e9 => ?_)
      subst e9
      exact W.iret (v := (sp_X5_kindOf st a1)) hx hb hr (fun t ht hW => ⟨_, rfl, he, ht⟩) (fun _ h => nomatch h) dX9_look_56
    have he := (if_neg h14_2).symm.trans he
    by_cases h14_3 : a2 = 1
    · have he := (if_pos h14_3).symm.trans he
      refine lv_tableIn (off := 43) (tgt := 57) hx hb dX9_look_14 (by rw [h14_3]; decide) (by rw [h14_3]; decide) (by rw [h14_3]; rfl) (by decide) ?_
      refine lv_aload_n hx hb dX9_look_57 rfl (lv_at hl 0 rfl) ?_
      refine va_get (D := (dC, dI)) (ci := 9) (v := .ref (q 8)) (C := RX9) (T := TX9) (N := 10) hx hb hts hi9 hown hK.1 hP 0 rfl rfl 7 (by decide) hf61 (fun _ h9 => h9) rfl dX9_look_58 ?_
      refine lv_iload_n hx hb dX9_look_61 rfl (lv_at hl 1 rfl) ?_
      refine vp_callSi (va_Run.run (va_runV (As := [.int a1]) (rest := []) ⟨hx, hb, hml, hown, hts⟩ (c_X5_dayOf l dC dI q k st a1 hok _ rfl) (cwV 1 hts gX9_look_X5_dayOf rfl rfl rfl (by decide +kernel) ⟨Nat.le_of_ble_eq_true rfl, Nat.le_of_ble_eq_true rfl⟩) ⟨fb_C, va_recv hK.1 hP (ci := 5) (q0 := 8) rfl rfl, fun U hU hW => ⟨rfl, by rw [hU]; exact hP, hK.warm hW⟩⟩ rfl rfl hl.1 rfl (lv_room (Nat.le_of_ble_eq_true rfl)) dX9_look_62 ⟨Nat.le_of_ble_eq_true rfl, Nat.le_of_ble_eq_true rfl⟩)) (fun r9 e9 => ?_)
      subst e9
      exact W.iret (v := (sp_X5_dayOf st a1)) hx hb hr (fun t ht hW => ⟨_, rfl, he, ht⟩) (fun _ h => nomatch h) dX9_look_65
    have he := (if_neg h14_3).symm.trans he
    by_cases h14_4 : a2 = 2
    · have he := (if_pos h14_4).symm.trans he
      refine lv_tableIn (off := 52) (tgt := 66) hx hb dX9_look_14 (by rw [h14_4]; decide) (by rw [h14_4]; decide) (by rw [h14_4]; rfl) (by decide) ?_
      refine lv_aload_n hx hb dX9_look_66 rfl (lv_at hl 0 rfl) ?_
      refine va_get (D := (dC, dI)) (ci := 9) (v := .ref (q 8)) (C := RX9) (T := TX9) (N := 10) hx hb hts hi9 hown hK.1 hP 0 rfl rfl 7 (by decide) hf61 (fun _ h9 => h9) rfl dX9_look_67 ?_
      refine lv_iload_n hx hb dX9_look_70 rfl (lv_at hl 1 rfl) ?_
      refine vp_callSi (va_Run.run (va_runV (As := [.int a1]) (rest := []) ⟨hx, hb, hml, hown, hts⟩ (c_X5_personsOf l dC dI q k st a1 hok _ rfl) (cwV 1 hts gX9_look_X5_personsOf rfl rfl rfl (by decide +kernel) ⟨Nat.le_of_ble_eq_true rfl, Nat.le_of_ble_eq_true rfl⟩) ⟨fb_C, va_recv hK.1 hP (ci := 5) (q0 := 8) rfl rfl, fun U hU hW => ⟨rfl, by rw [hU]; exact hP, hK.warm hW⟩⟩ rfl rfl hl.1 rfl (lv_room (Nat.le_of_ble_eq_true rfl)) dX9_look_71 ⟨Nat.le_of_ble_eq_true rfl, Nat.le_of_ble_eq_true rfl⟩)) (fun r9 e9 => ?_)
      subst e9
      exact W.iret (v := (sp_X5_personsOf st a1)) hx hb hr (fun t ht hW => ⟨_, rfl, he, ht⟩) (fun _ h => nomatch h) dX9_look_74
    have he := (if_neg h14_4).symm.trans he
    by_cases h14_5 : a2 = 3
    · have he := (if_pos h14_5).symm.trans he
      refine lv_tableIn (off := 61) (tgt := 75) hx hb dX9_look_14 (by rw [h14_5]; decide) (by rw [h14_5]; decide) (by rw [h14_5]; rfl) (by decide) ?_
      refine lv_aload_n hx hb dX9_look_75 rfl (lv_at hl 0 rfl) ?_
      refine lv_iload_n hx hb dX9_look_76 rfl (lv_at hl 1 rfl) ?_
      refine vp_callSi (va_Run.run (va_runV (As := [.int a1]) (rest := []) ⟨hx, hb, hml, hown, hts⟩ (c_X9_firstDueDay l dC dI q k st a1 hok _ rfl) (cwV 1 hts gX9_look_X9_firstDueDay rfl rfl rfl (by decide +kernel) ⟨Nat.le_of_ble_eq_true rfl, Nat.le_of_ble_eq_true rfl⟩) ⟨fb_C, va_recv hK.1 hP (ci := 9) (q0 := 0) rfl rfl, fun U hU hW => ⟨rfl, by rw [hU]; exact hP, hK.warm hW⟩⟩ rfl rfl hl.1 rfl (lv_room (Nat.le_of_ble_eq_true rfl)) dX9_look_77 ⟨Nat.le_of_ble_eq_true rfl, Nat.le_of_ble_eq_true rfl⟩)) (fun r9 e9 => ?_)
      subst e9
      exact W.iret (v := (sp_X9_firstDueDay st a1)) hx hb hr (fun t ht hW => ⟨_, rfl, he, ht⟩) (fun _ h => nomatch h) dX9_look_80
    have he := (if_neg h14_5).symm.trans he
    by_cases h14_6 : a2 = 4
    · have he := (if_pos h14_6).symm.trans he
      refine lv_tableIn (off := 67) (tgt := 81) hx hb dX9_look_14 (by rw [h14_6]; decide) (by rw [h14_6]; decide) (by rw [h14_6]; rfl) (by decide) ?_
      refine lv_aload_n hx hb dX9_look_81 rfl (lv_at hl 0 rfl) ?_
      refine va_get (D := (dC, dI)) (ci := 9) (v := .ref (q 8)) (C := RX9) (T := TX9) (N := 10) hx hb hts hi9 hown hK.1 hP 0 rfl rfl 7 (by decide) hf61 (fun _ h9 => h9) rfl dX9_look_82 ?_
      refine lv_iload_n hx hb dX9_look_85 rfl (lv_at hl 1 rfl) ?_
      refine vp_callSi (va_Run.run (va_runV (As := [.int a1]) (rest := []) ⟨hx, hb, hml, hown, hts⟩ (c_X5_derivedFrom l dC dI q k st a1 hok _ rfl) (cwV 1 hts gX9_look_X5_derivedFrom rfl rfl rfl (by decide +kernel) ⟨Nat.le_of_ble_eq_true rfl, Nat.le_of_ble_eq_true rfl⟩) ⟨fb_C, va_recv hK.1 hP (ci := 5) (q0 := 8) rfl rfl, fun U hU hW => ⟨rfl, by rw [hU]; exact hP, hK.warm hW⟩⟩ rfl rfl hl.1 rfl (lv_room (Nat.le_of_ble_eq_true rfl)) dX9_look_86 ⟨Nat.le_of_ble_eq_true rfl, Nat.le_of_ble_eq_true rfl⟩)) (fun r9 e9 => ?_)
      subst e9
      exact W.iret (v := (sp_X5_derivedFrom st a1)) hx hb hr (fun t ht hW => ⟨_, rfl, he, ht⟩) (fun _ h => nomatch h) dX9_look_89
    have he := (if_neg h14_6).symm.trans he
    refine lv_tableOut (tgt := 90) hx hb dX9_look_14 (by have z0 := lv_neT (a := 0) h14_2 rfl; have z1 := lv_neT (a := 1) h14_3 rfl; have z2 := lv_neT (a := 2) h14_4 rfl; have z3 := lv_neT (a := 3) h14_5 rfl; have z4 := lv_neT (a := 4) h14_6 rfl; omega) (by decide) ?_
    refine lv_iconst (v := (-1)) hx hb dX9_look_90 (by decide) ?_
    exact W.iret (v := (-1)) hx hb hr (fun t ht hW => ⟨_, rfl, he, ht⟩) (fun _ h => nomatch h) dX9_look_91
  · have he := (if_pos h8_1).symm.trans he
    refine lv_iconst (v := (-1)) hx hb dX9_look_11 (by decide) ?_
    exact W.iret (v := (-1)) hx hb hr (fun t ht hW => ⟨_, rfl, he, ht⟩) (fun _ h => nomatch h) dX9_look_12
set_option maxHeartbeats 4000000 in
set_option maxRecDepth 100000 in
theorem c_X9_state (l : Launch) (dC : Nat → ClassId) (dI : Nat → Nat → Nat) (q : Nat → Nat) (k : Nat → ClassId) (st : St) (a1 : Int32)  (res : Int32) (hres : sp_X9_state st a1 = res) : Met l yX9_state wsX9_state ({ frames := 1, cells := 0, slots := 0, locals := 20 } : Room) (va_Pc [.ref (q 0), .int a1] (fun U => va_P (dC, dI) vwCl (wC q k st) U.heap ∧ KC (dC, dI) k U)) (vp_Si (fun r => r = res)) 0 0 (fun _ => False) := by
  refine Met.ofW (cc := cX9_state) (maxL := 2) (ret := (some .int)) (by decide) rfl ?_
  intro p e s m args below meth c s₁ B hml hv
  obtain ⟨rfl, hP, hK⟩ := hv
  have hx := B.exec
  have hb := B.bytes
  have hr := B.returns
  have hts := atoms_spec (ws := wsX9_state) B.pre
  have hown : s.vm.findClass RX9 = some m.cls := findClass_of_methodNamed B.named
  have hlocks := B.notSynchronized
  have hi9 : ∀ w ∈ wsX90, w ∈ wsX9_state := by decide +kernel
  have hf10 := hts (.fieldLink RX9 10 "ConsentRegister" "purposes" "LConsentRegister$Purposes;") (by decide +kernel)
  have hf19 := hts (.fieldLink RX9 19 "ConsentRegister" "kinds" "LConsentRegister$Kinds;") (by decide +kernel)
  have hf54 := hts (.fieldLink RX9 54 "ConsentRegister" "holds" "LConsentRegister$Holds;") (by decide +kernel)
  have hf61 := hts (.fieldLink RX9 61 "ConsentRegister" "items" "LConsentRegister$Items;") (by decide +kernel)
  have hf68 := hts (.fieldLink RX9 68 "ConsentRegister" "log" "LConsentRegister$Log;") (by decide +kernel)
  have hl := lv_entry ([.ref (q 0), .int a1]) (n := 2) (Nat.le_of_ble_eq_true rfl)
  rw [lg_entry_eq]
  generalize (lg_sl ([.ref (q 0), .int a1]) ++ List.replicate (2 - (lg_sl ([.ref (q 0), .int a1])).length) Slot.unset).toArray = ls at hl ⊢
  have hl : lv_has ls 2 [(0, .ref (q 0)), (1, .int a1)] := hl
  have he := hres
  unfold sp_X9_state at he
  refine lv_iload_n hx hb dX9_state_0 rfl (lv_at hl 1 rfl) ?_
  by_cases h1_1 : a1 = 0
  · have he := (if_pos h1_1).symm.trans he
    refine lv_tableIn (off := 39) (tgt := 40) hx hb dX9_state_1 (by rw [h1_1]; decide) (by rw [h1_1]; decide) (by rw [h1_1]; rfl) (by decide) ?_
    refine lv_aload_n hx hb dX9_state_40 rfl (lv_at hl 0 rfl) ?_
    refine va_get (D := (dC, dI)) (ci := 9) (v := .ref (q 1)) (C := RX9) (T := TX9) (N := 10) hx hb hts hi9 hown hK.1 hP 0 rfl rfl 0 (by decide) hf10 (fun _ h9 => h9) rfl dX9_state_41 ?_
    refine vp_callSi (va_Run.run (va_runV (As := []) (rest := []) ⟨hx, hb, hml, hown, hts⟩ (c_X8_total l dC dI q k st _ rfl) (cwV 0 hts gX9_state_X8_total rfl rfl rfl (by decide +kernel) ⟨Nat.le_of_ble_eq_true rfl, Nat.le_of_ble_eq_true rfl⟩) ⟨fb_C, va_recv hK.1 hP (ci := 8) (q0 := 1) rfl rfl, fun U hU hW => ⟨rfl, by rw [hU]; exact hP, hK.warm hW⟩⟩ rfl rfl hl.1 rfl (lv_room (Nat.le_of_ble_eq_true rfl)) dX9_state_44 ⟨Nat.le_of_ble_eq_true rfl, Nat.le_of_ble_eq_true rfl⟩)) (fun r9 e9 => ?_)
    subst e9
    exact W.iret (v := (sp_X8_total st)) hx hb hr (fun t ht hW => ⟨_, rfl, he, ht⟩) (fun _ h => nomatch h) dX9_state_47
  have he := (if_neg h1_1).symm.trans he
  by_cases h1_2 : a1 = 1
  · have he := (if_pos h1_2).symm.trans he
    refine lv_tableIn (off := 47) (tgt := 48) hx hb dX9_state_1 (by rw [h1_2]; decide) (by rw [h1_2]; decide) (by rw [h1_2]; rfl) (by decide) ?_
    refine lv_aload_n hx hb dX9_state_48 rfl (lv_at hl 0 rfl) ?_
    refine va_get (D := (dC, dI)) (ci := 9) (v := .ref (q 2)) (C := RX9) (T := TX9) (N := 10) hx hb hts hi9 hown hK.1 hP 0 rfl rfl 1 (by decide) hf19 (fun _ h9 => h9) rfl dX9_state_49 ?_
    refine vp_callSi (va_Run.run (va_runV (As := []) (rest := []) ⟨hx, hb, hml, hown, hts⟩ (c_X6_total l dC dI q k st _ rfl) (cwV 0 hts gX9_state_X6_total rfl rfl rfl (by decide +kernel) ⟨Nat.le_of_ble_eq_true rfl, Nat.le_of_ble_eq_true rfl⟩) ⟨fb_C, va_recv hK.1 hP (ci := 6) (q0 := 2) rfl rfl, fun U hU hW => ⟨rfl, by rw [hU]; exact hP, hK.warm hW⟩⟩ rfl rfl hl.1 rfl (lv_room (Nat.le_of_ble_eq_true rfl)) dX9_state_52 ⟨Nat.le_of_ble_eq_true rfl, Nat.le_of_ble_eq_true rfl⟩)) (fun r9 e9 => ?_)
    subst e9
    exact W.iret (v := (sp_X6_total st)) hx hb hr (fun t ht hW => ⟨_, rfl, he, ht⟩) (fun _ h => nomatch h) dX9_state_55
  have he := (if_neg h1_2).symm.trans he
  by_cases h1_3 : a1 = 2
  · have he := (if_pos h1_3).symm.trans he
    refine lv_tableIn (off := 55) (tgt := 56) hx hb dX9_state_1 (by rw [h1_3]; decide) (by rw [h1_3]; decide) (by rw [h1_3]; rfl) (by decide) ?_
    refine lv_aload_n hx hb dX9_state_56 rfl (lv_at hl 0 rfl) ?_
    refine va_get (D := (dC, dI)) (ci := 9) (v := .ref (q 8)) (C := RX9) (T := TX9) (N := 10) hx hb hts hi9 hown hK.1 hP 0 rfl rfl 7 (by decide) hf61 (fun _ h9 => h9) rfl dX9_state_57 ?_
    refine vp_callSi (va_Run.run (va_runV (As := []) (rest := []) ⟨hx, hb, hml, hown, hts⟩ (c_X5_total l dC dI q k st _ rfl) (cwV 0 hts gX9_state_X5_total rfl rfl rfl (by decide +kernel) ⟨Nat.le_of_ble_eq_true rfl, Nat.le_of_ble_eq_true rfl⟩) ⟨fb_C, va_recv hK.1 hP (ci := 5) (q0 := 8) rfl rfl, fun U hU hW => ⟨rfl, by rw [hU]; exact hP, hK.warm hW⟩⟩ rfl rfl hl.1 rfl (lv_room (Nat.le_of_ble_eq_true rfl)) dX9_state_60 ⟨Nat.le_of_ble_eq_true rfl, Nat.le_of_ble_eq_true rfl⟩)) (fun r9 e9 => ?_)
    subst e9
    exact W.iret (v := (sp_X5_total st)) hx hb hr (fun t ht hW => ⟨_, rfl, he, ht⟩) (fun _ h => nomatch h) dX9_state_63
  have he := (if_neg h1_3).symm.trans he
  by_cases h1_4 : a1 = 3
  · have he := (if_pos h1_4).symm.trans he
    refine lv_tableIn (off := 63) (tgt := 64) hx hb dX9_state_1 (by rw [h1_4]; decide) (by rw [h1_4]; decide) (by rw [h1_4]; rfl) (by decide) ?_
    refine lv_aload_n hx hb dX9_state_64 rfl (lv_at hl 0 rfl) ?_
    refine va_get (D := (dC, dI)) (ci := 9) (v := .ref (q 8)) (C := RX9) (T := TX9) (N := 10) hx hb hts hi9 hown hK.1 hP 0 rfl rfl 7 (by decide) hf61 (fun _ h9 => h9) rfl dX9_state_65 ?_
    refine vp_callSi (va_Run.run (va_runV (As := []) (rest := []) ⟨hx, hb, hml, hown, hts⟩ (c_X5_living l dC dI q k st _ rfl) (cwV 0 hts gX9_state_X5_living rfl rfl rfl (by decide +kernel) ⟨Nat.le_of_ble_eq_true rfl, Nat.le_of_ble_eq_true rfl⟩) ⟨fb_C, va_recv hK.1 hP (ci := 5) (q0 := 8) rfl rfl, fun U hU hW => ⟨rfl, by rw [hU]; exact hP, hK.warm hW⟩⟩ rfl rfl hl.1 rfl (lv_room (Nat.le_of_ble_eq_true rfl)) dX9_state_68 ⟨Nat.le_of_ble_eq_true rfl, Nat.le_of_ble_eq_true rfl⟩)) (fun r9 e9 => ?_)
    subst e9
    exact W.iret (v := (sp_X5_living st)) hx hb hr (fun t ht hW => ⟨_, rfl, he, ht⟩) (fun _ h => nomatch h) dX9_state_71
  have he := (if_neg h1_4).symm.trans he
  by_cases h1_5 : a1 = 4
  · have he := (if_pos h1_5).symm.trans he
    refine lv_tableIn (off := 71) (tgt := 72) hx hb dX9_state_1 (by rw [h1_5]; decide) (by rw [h1_5]; decide) (by rw [h1_5]; rfl) (by decide) ?_
    refine lv_aload_n hx hb dX9_state_72 rfl (lv_at hl 0 rfl) ?_
    refine va_get (D := (dC, dI)) (ci := 9) (v := .ref (q 9)) (C := RX9) (T := TX9) (N := 10) hx hb hts hi9 hown hK.1 hP 0 rfl rfl 8 (by decide) hf68 (fun _ h9 => h9) rfl dX9_state_73 ?_
    refine vp_callSi (va_Run.run (va_runV (As := []) (rest := []) ⟨hx, hb, hml, hown, hts⟩ (c_X7_total l dC dI q k st _ rfl) (cwV 0 hts gX9_state_X7_total rfl rfl rfl (by decide +kernel) ⟨Nat.le_of_ble_eq_true rfl, Nat.le_of_ble_eq_true rfl⟩) ⟨fb_C, va_recv hK.1 hP (ci := 7) (q0 := 9) rfl rfl, fun U hU hW => ⟨rfl, by rw [hU]; exact hP, hK.warm hW⟩⟩ rfl rfl hl.1 rfl (lv_room (Nat.le_of_ble_eq_true rfl)) dX9_state_76 ⟨Nat.le_of_ble_eq_true rfl, Nat.le_of_ble_eq_true rfl⟩)) (fun r9 e9 => ?_)
    subst e9
    exact W.iret (v := (sp_X7_total st)) hx hb hr (fun t ht hW => ⟨_, rfl, he, ht⟩) (fun _ h => nomatch h) dX9_state_79
  have he := (if_neg h1_5).symm.trans he
  by_cases h1_6 : a1 = 5
  · have he := (if_pos h1_6).symm.trans he
    refine lv_tableIn (off := 79) (tgt := 80) hx hb dX9_state_1 (by rw [h1_6]; decide) (by rw [h1_6]; decide) (by rw [h1_6]; rfl) (by decide) ?_
    refine lv_aload_n hx hb dX9_state_80 rfl (lv_at hl 0 rfl) ?_
    refine va_get (D := (dC, dI)) (ci := 9) (v := .ref (q 7)) (C := RX9) (T := TX9) (N := 10) hx hb hts hi9 hown hK.1 hP 0 rfl rfl 6 (by decide) hf54 (fun _ h9 => h9) rfl dX9_state_81 ?_
    refine vp_callSi (va_Run.run (va_runV (As := []) (rest := []) ⟨hx, hb, hml, hown, hts⟩ (c_X4_total l dC dI q k st _ rfl) (cwV 0 hts gX9_state_X4_total rfl rfl rfl (by decide +kernel) ⟨Nat.le_of_ble_eq_true rfl, Nat.le_of_ble_eq_true rfl⟩) ⟨fb_C, va_recv hK.1 hP (ci := 4) (q0 := 7) rfl rfl, fun U hU hW => ⟨rfl, by rw [hU]; exact hP, hK.warm hW⟩⟩ rfl rfl hl.1 rfl (lv_room (Nat.le_of_ble_eq_true rfl)) dX9_state_84 ⟨Nat.le_of_ble_eq_true rfl, Nat.le_of_ble_eq_true rfl⟩)) (fun r9 e9 => ?_)
    subst e9
    exact W.iret (v := (sp_X4_total st)) hx hb hr (fun t ht hW => ⟨_, rfl, he, ht⟩) (fun _ h => nomatch h) dX9_state_87
  have he := (if_neg h1_6).symm.trans he
  refine lv_tableOut (tgt := 88) hx hb dX9_state_1 (by have z0 := lv_neT (a := 0) h1_1 rfl; have z1 := lv_neT (a := 1) h1_2 rfl; have z2 := lv_neT (a := 2) h1_3 rfl; have z3 := lv_neT (a := 3) h1_4 rfl; have z4 := lv_neT (a := 4) h1_5 rfl; have z5 := lv_neT (a := 5) h1_6 rfl; omega) (by decide) ?_
  refine lv_iconst (v := (-1)) hx hb dX9_state_88 (by decide) ?_
  exact W.iret (v := (-1)) hx hb hr (fun t ht hW => ⟨_, rfl, he, ht⟩) (fun _ h => nomatch h) dX9_state_89

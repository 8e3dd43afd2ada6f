set_option maxHeartbeats 4000000 in
set_option maxRecDepth 100000 in
theorem c_X5_total (l : Launch) (dC : Nat → ClassId) (dI : Nat → Nat → Nat) (q : Nat → Nat) (k : Nat → ClassId) (st : St)  (res : Int32) (hres : sp_X5_total st = res) : Met l yX5_total wsX5_total ({ frames := 0, cells := 0, slots := 0, locals := 0 } : Room) (va_Pc [.ref (q 8)] (fun U => va_P (dC, dI) vwCl (wC q k st) U.heap ∧ KC (dC, dI) k U)) (vp_Si (fun r => r = res)) 0 0 (fun _ => False) := by
  refine Met.ofW (cc := cX5_total) (maxL := 1) (ret := (some .int)) (by decide) rfl ?_
  intro p e s m args below meth c s₁ B hml hv
  obtain ⟨rfl, hP, hK⟩ := hv
  have hx := B.exec
  have hb := B.bytes
  have hr := B.returns
  have hts := atoms_spec (ws := wsX5_total) B.pre
  have hown : s.vm.findClass RX5 = some m.cls := findClass_of_methodNamed B.named
  have hlocks := B.notSynchronized
  have hi5 : ∀ w ∈ wsX50, w ∈ wsX5_total := by decide +kernel
  have hf41 := hts (.fieldLink RX5 41 "ConsentRegister$Items" "count" "I") (by decide +kernel)
  have hl := lv_entry ([.ref (q 8)]) (n := 1) (Nat.le_of_ble_eq_true rfl)
  rw [lg_entry_eq]
  generalize (lg_sl ([.ref (q 8)]) ++ List.replicate (1 - (lg_sl ([.ref (q 8)])).length) Slot.unset).toArray = ls at hl ⊢
  have hl : lv_has ls 1 [(0, .ref (q 8))] := hl
  have he := hres
  unfold sp_X5_total at he
  refine lv_aload_n hx hb dX5_total_0 rfl (lv_at hl 0 rfl) ?_
  refine va_get (D := (dC, dI)) (ci := 5) (v := .int (st.1 7)) (C := RX5) (T := TX5) (N := 11) hx hb hts hi5 hown hK.1 hP 8 rfl rfl 9 (by decide) hf41 (fun _ h9 => h9) rfl dX5_total_1 ?_
  exact W.iret (v := st.1 7) hx hb hr (fun t ht hW => ⟨_, rfl, he, ht⟩) (fun _ h => nomatch h) dX5_total_4
set_option maxHeartbeats 4000000 in
set_option maxRecDepth 100000 in
theorem c_X5_living (l : Launch) (dC : Nat → ClassId) (dI : Nat → Nat → Nat) (q : Nat → Nat) (k : Nat → ClassId) (st : St)  (res : Int32) (hres : sp_X5_living st = res) : Met l yX5_living wsX5_living ({ frames := 0, cells := 0, slots := 0, locals := 0 } : Room) (va_Pc [.ref (q 8)] (fun U => va_P (dC, dI) vwCl (wC q k st) U.heap ∧ KC (dC, dI) k U)) (vp_Si (fun r => r = res)) 0 0 (fun _ => False) := by
  refine Met.ofW (cc := cX5_living) (maxL := 1) (ret := (some .int)) (by decide) rfl ?_
  intro p e s m args below meth c s₁ B hml hv
  obtain ⟨rfl, hP, hK⟩ := hv
  have hx := B.exec
  have hb := B.bytes
  have hr := B.returns
  have hts := atoms_spec (ws := wsX5_living) B.pre
  have hown : s.vm.findClass RX5 = some m.cls := findClass_of_methodNamed B.named
  have hlocks := B.notSynchronized
  have hi5 : ∀ w ∈ wsX50, w ∈ wsX5_living := by decide +kernel
  have hf45 := hts (.fieldLink RX5 45 "ConsentRegister$Items" "livingCount" "I") (by decide +kernel)
  have hl := lv_entry ([.ref (q 8)]) (n := 1) (Nat.le_of_ble_eq_true rfl)
  rw [lg_entry_eq]
  generalize (lg_sl ([.ref (q 8)]) ++ List.replicate (1 - (lg_sl ([.ref (q 8)])).length) Slot.unset).toArray = ls at hl ⊢
  have hl : lv_has ls 1 [(0, .ref (q 8))] := hl
  have he := hres
  unfold sp_X5_living at he
  refine lv_aload_n hx hb dX5_living_0 rfl (lv_at hl 0 rfl) ?_
  refine va_get (D := (dC, dI)) (ci := 5) (v := .int (st.1 10)) (C := RX5) (T := TX5) (N := 11) hx hb hts hi5 hown hK.1 hP 8 rfl rfl 10 (by decide) hf45 (fun _ h9 => h9) rfl dX5_living_1 ?_
  exact W.iret (v := st.1 10) hx hb hr (fun t ht hW => ⟨_, rfl, he, ht⟩) (fun _ h => nomatch h) dX5_living_4
set_option maxHeartbeats 4000000 in
set_option maxRecDepth 100000 in
theorem c_X5_has (l : Launch) (dC : Nat → ClassId) (dI : Nat → Nat → Nat) (q : Nat → Nat) (k : Nat → ClassId) (st : St) (a1 : Int32)  (res : Int32) (hres : sp_X5_has st a1 = res) : Met l yX5_has wsX5_has ({ frames := 0, cells := 0, slots := 0, locals := 0 } : Room) (va_Pc [.ref (q 8), .int a1] (fun U => va_P (dC, dI) vwCl (wC q k st) U.heap ∧ KC (dC, dI) k U)) (vp_Si (fun r => r = res)) 0 0 (fun _ => False) := by
  refine Met.ofW (cc := cX5_has) (maxL := 2) (ret := (some .boolean)) (by decide) rfl ?_
  intro p e s m args below meth c s₁ B hml hv
  obtain ⟨rfl, hP, hK⟩ := hv
  have hx := B.exec
  have hb := B.bytes
  have hr := B.returns
  have hts := atoms_spec (ws := wsX5_has) B.pre
  have hown : s.vm.findClass RX5 = some m.cls := findClass_of_methodNamed B.named
  have hlocks := B.notSynchronized
  have hi5 : ∀ w ∈ wsX50, w ∈ wsX5_has := by decide +kernel
  have hf41 := hts (.fieldLink RX5 41 "ConsentRegister$Items" "count" "I") (by decide +kernel)
  have hl := lv_entry ([.ref (q 8), .int a1]) (n := 2) (Nat.le_of_ble_eq_true rfl)
  rw [lg_entry_eq]
  generalize (lg_sl ([.ref (q 8), .int a1]) ++ List.replicate (2 - (lg_sl ([.ref (q 8), .int a1])).length) Slot.unset).toArray = ls at hl ⊢
  have hl : lv_has ls 2 [(0, .ref (q 8)), (1, .int a1)] := hl
  have he := hres
  unfold sp_X5_has at he
  refine lv_iload_n hx hb dX5_has_0 rfl (lv_at hl 1 rfl) ?_
  refine lv_if_lt (tgt := 16) hx hb dX5_has_1 (by decide) (fun h1_1 => ?_) (fun h1_1 => ?_)
  · have he := (if_pos h1_1).symm.trans he
    refine lv_iconst (v := 0) hx hb dX5_has_16 (by decide) ?_
    exact W.zret (v := 0) hx hb hr rfl (fun t ht hW => ⟨_, rfl, he, ht⟩) (fun _ h => nomatch h) dX5_has_17
  · have he := (if_neg h1_1).symm.trans he
    refine lv_iload_n hx hb dX5_has_4 rfl (lv_at hl 1 rfl) ?_
    refine lv_aload_n hx hb dX5_has_5 rfl (lv_at hl 0 rfl) ?_
    refine va_get (D := (dC, dI)) (ci := 5) (v := .int (st.1 7)) (C := RX5) (T := TX5) (N := 11) hx hb hts hi5 hown hK.1 hP 8 rfl rfl 9 (by decide) hf41 (fun _ h9 => h9) rfl dX5_has_6 ?_
    refine lv_icmp_ge (tgt := 16) hx hb dX5_has_9 (by decide) (fun h9_2 => ?_) (fun h9_2 => ?_)
    · have he := (if_pos h9_2).symm.trans he
      refine lv_iconst (v := 0) hx hb dX5_has_16 (by decide) ?_
      exact W.zret (v := 0) hx hb hr rfl (fun t ht hW => ⟨_, rfl, he, ht⟩) (fun _ h => nomatch h) dX5_has_17
    · have he := (if_neg h9_2).symm.trans he
      refine lv_iconst (v := 1) hx hb dX5_has_12 (by decide) ?_
      refine lv_goto (tgt := 17) hx hb dX5_has_13 (by decide) ?_
      exact W.zret (v := 1) hx hb hr rfl (fun t ht hW => ⟨_, rfl, he, ht⟩) (fun _ h => nomatch h) dX5_has_17
set_option maxHeartbeats 4000000 in
set_option maxRecDepth 100000 in
theorem c_X5_lives (l : Launch) (dC : Nat → ClassId) (dI : Nat → Nat → Nat) (q : Nat → Nat) (k : Nat → ClassId) (st : St) (a1 : Int32) (hok : okC st) (res : Int32) (hres : sp_X5_lives st a1 = res) : Met l yX5_lives wsX5_lives ({ frames := 1, cells := 0, slots := 0, locals := 21 } : Room) (va_Pc [.ref (q 8), .int a1] (fun U => va_P (dC, dI) vwCl (wC q k st) U.heap ∧ KC (dC, dI) k U)) (vp_Si (fun r => r = res)) 0 0 (fun _ => False) := by
  refine Met.ofW (cc := cX5_lives) (maxL := 2) (ret := (some .boolean)) (by decide) rfl ?_
  intro p e s m args below meth c s₁ B hml hv
  obtain ⟨rfl, hP, hK⟩ := hv
  have hx := B.exec
  have hb := B.bytes
  have hr := B.returns
  have hts := atoms_spec (ws := wsX5_lives) B.pre
  have hown : s.vm.findClass RX5 = some m.cls := findClass_of_methodNamed B.named
  have hlocks := B.notSynchronized
  have hi5 : ∀ w ∈ wsX50, w ∈ wsX5_lives := by decide +kernel
  have hf34 := hts (.fieldLink RX5 34 "ConsentRegister$Items" "alive" "[Z") (by decide +kernel)
  have hl := lv_entry ([.ref (q 8), .int a1]) (n := 2) (Nat.le_of_ble_eq_true rfl)
  rw [lg_entry_eq]
  generalize (lg_sl ([.ref (q 8), .int a1]) ++ List.replicate (2 - (lg_sl ([.ref (q 8), .int a1])).length) Slot.unset).toArray = ls at hl ⊢
  have hl : lv_has ls 2 [(0, .ref (q 8)), (1, .int a1)] := hl
  have he := hres
  unfold sp_X5_lives at he
  refine lv_aload_n hx hb dX5_lives_0 rfl (lv_at hl 0 rfl) ?_
  refine lv_iload_n hx hb dX5_lives_1 rfl (lv_at hl 1 rfl) ?_
  refine vp_callSi (va_Run.run (va_runV (As := [.int a1]) (rest := []) ⟨hx, hb, hml, hown, hts⟩ (c_X5_has l dC dI q k st a1 _ rfl) (cwV 1 hts gX5_lives_X5_has rfl rfl rfl (by decide +kernel) ⟨Nat.le_of_ble_eq_true rfl, Nat.le_of_ble_eq_true rfl⟩) ⟨fb_C, va_recv hK.1 hP (ci := 5) (q0 := 8) rfl rfl, fun U hU hW => ⟨rfl, by rw [hU]; exact hP, hK.warm hW⟩⟩ rfl rfl hl.1 rfl (lv_room (Nat.le_of_ble_eq_true rfl)) dX5_lives_2 ⟨Nat.le_of_ble_eq_true rfl, Nat.le_of_ble_eq_true rfl⟩)) (fun r9 e9 => ?_)
  subst e9
  refine lv_if_eq (tgt := 21) hx hb dX5_lives_5 (by decide) (fun h5_1 => ?_) (fun h5_1 => ?_)
  · have he := (if_pos h5_1).symm.trans he
    refine lv_iconst (v := 0) hx hb dX5_lives_21 (by decide) ?_
    exact W.zret (v := 0) hx hb hr rfl (fun t ht hW => ⟨_, rfl, he, ht⟩) (fun _ h => nomatch h) dX5_lives_22
  · have he := (if_neg h5_1).symm.trans he
    refine lv_aload_n hx hb dX5_lives_8 rfl (lv_at hl 0 rfl) ?_
    refine va_get (D := (dC, dI)) (ci := 5) (v := .ref (q 36)) (C := RX5) (T := TX5) (N := 11) hx hb hts hi5 hown hK.1 hP 8 rfl rfl 7 (by decide) hf34 (fun _ h9 => h9) rfl dX5_lives_9 ?_
    refine lv_iload_n hx hb dX5_lives_12 rfl (lv_at hl 1 rfl) ?_
    refine va_zald hx hb hK.1 hP 36 26 (f := st.2.1 26) (n := 100) (cA := k 26) rfl rfl (i := a1) (ob_X5_lives_13_2 st a1 hok h5_1) dX5_lives_13 ?_
    refine lv_if_eq (tgt := 21) hx hb dX5_lives_14 (by decide) (fun h14_3 => ?_) (fun h14_3 => ?_)
    · have he := (if_pos h14_3).symm.trans he
      refine lv_iconst (v := 0) hx hb dX5_lives_21 (by decide) ?_
      exact W.zret (v := 0) hx hb hr rfl (fun t ht hW => ⟨_, rfl, he, ht⟩) (fun _ h => nomatch h) dX5_lives_22
    · have he := (if_neg h14_3).symm.trans he
      refine lv_iconst (v := 1) hx hb dX5_lives_17 (by decide) ?_
      refine lv_goto (tgt := 22) hx hb dX5_lives_18 (by decide) ?_
      exact W.zret (v := 1) hx hb hr rfl (fun t ht hW => ⟨_, rfl, he, ht⟩) (fun _ h => nomatch h) dX5_lives_22
set_option maxHeartbeats 4000000 in
set_option maxRecDepth 100000 in
theorem c_X5_isPut (l : Launch) (dC : Nat → ClassId) (dI : Nat → Nat → Nat) (q : Nat → Nat) (k : Nat → ClassId) (st : St) (a1 : Int32) (hok : okC st) (res : Int32) (hres : sp_X5_isPut st a1 = res) : Met l yX5_isPut wsX5_isPut ({ frames := 1, cells := 0, slots := 0, locals := 21 } : Room) (va_Pc [.ref (q 8), .int a1] (fun U => va_P (dC, dI) vwCl (wC q k st) U.heap ∧ KC (dC, dI) k U)) (vp_Si (fun r => r = res)) 0 0 (fun _ => False) := by
  refine Met.ofW (cc := cX5_isPut) (maxL := 2) (ret := (some .boolean)) (by decide) rfl ?_
  intro p e s m args below meth c s₁ B hml hv
  obtain ⟨rfl, hP, hK⟩ := hv
  have hx := B.exec
  have hb := B.bytes
  have hr := B.returns
  have hts := atoms_spec (ws := wsX5_isPut) B.pre
  have hown : s.vm.findClass RX5 = some m.cls := findClass_of_methodNamed B.named
  have hlocks := B.notSynchronized
  have hi5 : ∀ w ∈ wsX50, w ∈ wsX5_isPut := by decide +kernel
  have hf21 := hts (.fieldLink RX5 21 "ConsentRegister$Items" "ways" "[I") (by decide +kernel)
  have hl := lv_entry ([.ref (q 8), .int a1]) (n := 2) (Nat.le_of_ble_eq_true rfl)
  rw [lg_entry_eq]
  generalize (lg_sl ([.ref (q 8), .int a1]) ++ List.replicate (2 - (lg_sl ([.ref (q 8), .int a1])).length) Slot.unset).toArray = ls at hl ⊢
  have hl : lv_has ls 2 [(0, .ref (q 8)), (1, .int a1)] := hl
  have he := hres
  unfold sp_X5_isPut at he
  refine lv_aload_n hx hb dX5_isPut_0 rfl (lv_at hl 0 rfl) ?_
  refine lv_iload_n hx hb dX5_isPut_1 rfl (lv_at hl 1 rfl) ?_
  refine vp_callSi (va_Run.run (va_runV (As := [.int a1]) (rest := []) ⟨hx, hb, hml, hown, hts⟩ (c_X5_has l dC dI q k st a1 _ rfl) (cwV 1 hts gX5_isPut_X5_has rfl rfl rfl (by decide +kernel) ⟨Nat.le_of_ble_eq_true rfl, Nat.le_of_ble_eq_true rfl⟩) ⟨fb_C, va_recv hK.1 hP (ci := 5) (q0 := 8) rfl rfl, fun U hU hW => ⟨rfl, by rw [hU]; exact hP, hK.warm hW⟩⟩ rfl rfl hl.1 rfl (lv_room (Nat.le_of_ble_eq_true rfl)) dX5_isPut_2 ⟨Nat.le_of_ble_eq_true rfl, Nat.le_of_ble_eq_true rfl⟩)) (fun r9 e9 => ?_)
  subst e9
  refine lv_if_eq (tgt := 22) hx hb dX5_isPut_5 (by decide) (fun h5_1 => ?_) (fun h5_1 => ?_)
  · have he := (if_pos h5_1).symm.trans he
    refine lv_iconst (v := 0) hx hb dX5_isPut_22 (by decide) ?_
    exact W.zret (v := 0) hx hb hr rfl (fun t ht hW => ⟨_, rfl, he, ht⟩) (fun _ h => nomatch h) dX5_isPut_23
  · have he := (if_neg h5_1).symm.trans he
    refine lv_aload_n hx hb dX5_isPut_8 rfl (lv_at hl 0 rfl) ?_
    refine va_get (D := (dC, dI)) (ci := 5) (v := .ref (q 33)) (C := RX5) (T := TX5) (N := 11) hx hb hts hi5 hown hK.1 hP 8 rfl rfl 3 (by decide) hf21 (fun _ h9 => h9) rfl dX5_isPut_9 ?_
    refine lv_iload_n hx hb dX5_isPut_12 rfl (lv_at hl 1 rfl) ?_
    refine va_iald hx hb hK.1 hP 33 23 (f := st.2.1 23) (n := 100) (cA := k 23) rfl rfl (i := a1) (ob_X5_isPut_13_2 st a1 hok h5_1) dX5_isPut_13 ?_
    refine lv_iconst (v := (-1)) hx hb dX5_isPut_14 (by decide) ?_
    refine lv_icmp_ne (tgt := 22) hx hb dX5_isPut_15 (by decide) (fun h15_3 => ?_) (fun h15_3 => ?_)
    · have he := (if_neg h15_3).symm.trans he
      refine lv_iconst (v := 0) hx hb dX5_isPut_22 (by decide) ?_
      exact W.zret (v := 0) hx hb hr rfl (fun t ht hW => ⟨_, rfl, he, ht⟩) (fun _ h => nomatch h) dX5_isPut_23
    · have he := (if_pos h15_3).symm.trans he
      refine lv_iconst (v := 1) hx hb dX5_isPut_18 (by decide) ?_
      refine lv_goto (tgt := 23) hx hb dX5_isPut_19 (by decide) ?_
      exact W.zret (v := 1) hx hb hr rfl (fun t ht hW => ⟨_, rfl, he, ht⟩) (fun _ h => nomatch h) dX5_isPut_23
set_option maxHeartbeats 4000000 in
set_option maxRecDepth 100000 in
theorem c_X5_isAbout (l : Launch) (dC : Nat → ClassId) (dI : Nat → Nat → Nat) (q : Nat → Nat) (k : Nat → ClassId) (st : St) (a1 : Int32) (a2 : Int32) (hok : okC st) (res : Int32) (hres : sp_X5_isAbout st a1 a2 = res) : Met l yX5_isAbout wsX5_isAbout ({ frames := 1, cells := 0, slots := 0, locals := 21 } : Room) (va_Pc [.ref (q 8), .int a1, .int a2] (fun U => va_P (dC, dI) vwCl (wC q k st) U.heap ∧ KC (dC, dI) k U)) (vp_Si (fun r => r = res)) 0 0 (fun _ => False) := by
  refine Met.ofW (cc := cX5_isAbout) (maxL := 3) (ret := (some .boolean)) (by decide) rfl ?_
  intro p e s m args below meth c s₁ B hml hv
  obtain ⟨rfl, hP, hK⟩ := hv
  have hx := B.exec
  have hb := B.bytes
  have hr := B.returns
  have hts := atoms_spec (ws := wsX5_isAbout) B.pre
  have hown : s.vm.findClass RX5 = some m.cls := findClass_of_methodNamed B.named
  have hlocks := B.notSynchronized
  have hi5 : ∀ w ∈ wsX50, w ∈ wsX5_isAbout := by decide +kernel
  have hf18 := hts (.fieldLink RX5 18 "ConsentRegister$Items" "persons" "[I") (by decide +kernel)
  have hl := lv_entry ([.ref (q 8), .int a1, .int a2]) (n := 3) (Nat.le_of_ble_eq_true rfl)
  rw [lg_entry_eq]
  generalize (lg_sl ([.ref (q 8), .int a1, .int a2]) ++ List.replicate (3 - (lg_sl ([.ref (q 8), .int a1, .int a2])).length) Slot.unset).toArray = ls at hl ⊢
  have hl : lv_has ls 3 [(0, .ref (q 8)), (1, .int a1), (2, .int a2)] := hl
  have he := hres
  unfold sp_X5_isAbout at he
  refine lv_aload_n hx hb dX5_isAbout_0 rfl (lv_at hl 0 rfl) ?_
  refine lv_iload_n hx hb dX5_isAbout_1 rfl (lv_at hl 1 rfl) ?_
  refine vp_callSi (va_Run.run (va_runV (As := [.int a1]) (rest := []) ⟨hx, hb, hml, hown, hts⟩ (c_X5_has l dC dI q k st a1 _ rfl) (cwV 1 hts gX5_isAbout_X5_has rfl rfl rfl (by decide +kernel) ⟨Nat.le_of_ble_eq_true rfl, Nat.le_of_ble_eq_true rfl⟩) ⟨fb_C, va_recv hK.1 hP (ci := 5) (q0 := 8) rfl rfl, fun U hU hW => ⟨rfl, by rw [hU]; exact hP, hK.warm hW⟩⟩ rfl rfl hl.1 rfl (lv_room (Nat.le_of_ble_eq_true rfl)) dX5_isAbout_2 ⟨Nat.le_of_ble_eq_true rfl, Nat.le_of_ble_eq_true rfl⟩)) (fun r9 e9 => ?_)
  subst e9
  refine lv_if_eq (tgt := 25) hx hb dX5_isAbout_5 (by decide) (fun h5_1 => ?_) (fun h5_1 => ?_)
  · have he := (if_pos h5_1).symm.trans he
    refine lv_iconst (v := 0) hx hb dX5_isAbout_25 (by decide) ?_
    exact W.zret (v := 0) hx hb hr rfl (fun t ht hW => ⟨_, rfl, he, ht⟩) (fun _ h => nomatch h) dX5_isAbout_26
  · have he := (if_neg h5_1).symm.trans he
    refine lv_aload_n hx hb dX5_isAbout_8 rfl (lv_at hl 0 rfl) ?_
    refine va_get (D := (dC, dI)) (ci := 5) (v := .ref (q 32)) (C := RX5) (T := TX5) (N := 11) hx hb hts hi5 hown hK.1 hP 8 rfl rfl 2 (by decide) hf18 (fun _ h9 => h9) rfl dX5_isAbout_9 ?_
    refine lv_iload_n hx hb dX5_isAbout_12 rfl (lv_at hl 1 rfl) ?_
    refine va_iald hx hb hK.1 hP 32 22 (f := st.2.1 22) (n := 100) (cA := k 22) rfl rfl (i := a1) (ob_X5_isAbout_13_2 st a1 a2 hok h5_1) dX5_isAbout_13 ?_
    refine lv_iload_n hx hb dX5_isAbout_14 rfl (lv_at hl 2 rfl) ?_
    refine vp_callSi (va_Run.run (va_runSN (As := [.int (st.2.1 22 a1.toNatClampNeg), .int a2]) (rest := []) ⟨hx, hb, hml, hown, hts⟩ (c_X9_isAmong l (st.2.1 22 a1.toNatClampNeg) a2 _ rfl) ⟨va_cnB 2 hts gX5_isAbout_X9_isAmong_n52 rfl rfl rfl (hK.2 (.methodLinkNest RX5 52 yX9_isAmong RX9) (by decide +kernel)) (hts (.initialized RX9) (by decide +kernel)) (by decide +kernel) ⟨Nat.le_of_ble_eq_true rfl, Nat.le_of_ble_eq_true rfl⟩, hts (.static yX9_isAmong) (by decide +kernel), trivial⟩ ⟨fb_T, fun U hU hW => ⟨rfl, trivial⟩⟩ rfl rfl hl.1 rfl (lv_room (Nat.le_of_ble_eq_true rfl)) dX5_isAbout_15 ⟨Nat.le_of_ble_eq_true rfl, Nat.le_of_ble_eq_true rfl⟩)) (fun r9 e9 => ?_)
    subst e9
    refine lv_if_eq (tgt := 25) hx hb dX5_isAbout_18 (by decide) (fun h18_3 => ?_) (fun h18_3 => ?_)
    · have he := (if_pos h18_3).symm.trans he
      refine lv_iconst (v := 0) hx hb dX5_isAbout_25 (by decide) ?_
      exact W.zret (v := 0) hx hb hr rfl (fun t ht hW => ⟨_, rfl, he, ht⟩) (fun _ h => nomatch h) dX5_isAbout_26
    · have he := (if_neg h18_3).symm.trans he
      refine lv_iconst (v := 1) hx hb dX5_isAbout_21 (by decide) ?_
      refine lv_goto (tgt := 26) hx hb dX5_isAbout_22 (by decide) ?_
      exact W.zret (v := 1) hx hb hr rfl (fun t ht hW => ⟨_, rfl, he, ht⟩) (fun _ h => nomatch h) dX5_isAbout_26
set_option maxHeartbeats 4000000 in
set_option maxRecDepth 100000 in
theorem c_X5_isKept (l : Launch) (dC : Nat → ClassId) (dI : Nat → Nat → Nat) (q : Nat → Nat) (k : Nat → ClassId) (st : St) (a1 : Int32) (hok : okC st) (res : Int32) (hres : sp_X5_isKept st a1 = res) : Met l yX5_isKept wsX5_isKept ({ frames := 1, cells := 0, slots := 0, locals := 21 } : Room) (va_Pc [.ref (q 8), .int a1] (fun U => va_P (dC, dI) vwCl (wC q k st) U.heap ∧ KC (dC, dI) k U)) (vp_Si (fun r => r = res)) 0 0 (fun _ => False) := by
  refine Met.ofW (cc := cX5_isKept) (maxL := 2) (ret := (some .boolean)) (by decide) rfl ?_
  intro p e s m args below meth c s₁ B hml hv
  obtain ⟨rfl, hP, hK⟩ := hv
  have hx := B.exec
  have hb := B.bytes
  have hr := B.returns
  have hts := atoms_spec (ws := wsX5_isKept) B.pre
  have hown : s.vm.findClass RX5 = some m.cls := findClass_of_methodNamed B.named
  have hlocks := B.notSynchronized
  have hi5 : ∀ w ∈ wsX50, w ∈ wsX5_isKept := by decide +kernel
  have hf38 := hts (.fieldLink RX5 38 "ConsentRegister$Items" "kept" "[Z") (by decide +kernel)
  have hl := lv_entry ([.ref (q 8), .int a1]) (n := 2) (Nat.le_of_ble_eq_true rfl)
  rw [lg_entry_eq]
  generalize (lg_sl ([.ref (q 8), .int a1]) ++ List.replicate (2 - (lg_sl ([.ref (q 8), .int a1])).length) Slot.unset).toArray = ls at hl ⊢
  have hl : lv_has ls 2 [(0, .ref (q 8)), (1, .int a1)] := hl
  have he := hres
  unfold sp_X5_isKept at he
  refine lv_aload_n hx hb dX5_isKept_0 rfl (lv_at hl 0 rfl) ?_
  refine lv_iload_n hx hb dX5_isKept_1 rfl (lv_at hl 1 rfl) ?_
  refine vp_callSi (va_Run.run (va_runV (As := [.int a1]) (rest := []) ⟨hx, hb, hml, hown, hts⟩ (c_X5_has l dC dI q k st a1 _ rfl) (cwV 1 hts gX5_isKept_X5_has rfl rfl rfl (by decide +kernel) ⟨Nat.le_of_ble_eq_true rfl, Nat.le_of_ble_eq_true rfl⟩) ⟨fb_C, va_recv hK.1 hP (ci := 5) (q0 := 8) rfl rfl, fun U hU hW => ⟨rfl, by rw [hU]; exact hP, hK.warm hW⟩⟩ rfl rfl hl.1 rfl (lv_room (Nat.le_of_ble_eq_true rfl)) dX5_isKept_2 ⟨Nat.le_of_ble_eq_true rfl, Nat.le_of_ble_eq_true rfl⟩)) (fun r9 e9 => ?_)
  subst e9
  refine lv_if_eq (tgt := 21) hx hb dX5_isKept_5 (by decide) (fun h5_1 => ?_) (fun h5_1 => ?_)
  · have he := (if_pos h5_1).symm.trans he
    refine lv_iconst (v := 0) hx hb dX5_isKept_21 (by decide) ?_
    exact W.zret (v := 0) hx hb hr rfl (fun t ht hW => ⟨_, rfl, he, ht⟩) (fun _ h => nomatch h) dX5_isKept_22
  · have he := (if_neg h5_1).symm.trans he
    refine lv_aload_n hx hb dX5_isKept_8 rfl (lv_at hl 0 rfl) ?_
    refine va_get (D := (dC, dI)) (ci := 5) (v := .ref (q 37)) (C := RX5) (T := TX5) (N := 11) hx hb hts hi5 hown hK.1 hP 8 rfl rfl 8 (by decide) hf38 (fun _ h9 => h9) rfl dX5_isKept_9 ?_
    refine lv_iload_n hx hb dX5_isKept_12 rfl (lv_at hl 1 rfl) ?_
    refine va_zald hx hb hK.1 hP 37 27 (f := st.2.1 27) (n := 100) (cA := k 27) rfl rfl (i := a1) (ob_X5_isKept_13_2 st a1 hok h5_1) dX5_isKept_13 ?_
    refine lv_if_eq (tgt := 21) hx hb dX5_isKept_14 (by decide) (fun h14_3 => ?_) (fun h14_3 => ?_)
    · have he := (if_pos h14_3).symm.trans he
      refine lv_iconst (v := 0) hx hb dX5_isKept_21 (by decide) ?_
      exact W.zret (v := 0) hx hb hr rfl (fun t ht hW => ⟨_, rfl, he, ht⟩) (fun _ h => nomatch h) dX5_isKept_22
    · have he := (if_neg h14_3).symm.trans he
      refine lv_iconst (v := 1) hx hb dX5_isKept_17 (by decide) ?_
      refine lv_goto (tgt := 22) hx hb dX5_isKept_18 (by decide) ?_
      exact W.zret (v := 1) hx hb hr rfl (fun t ht hW => ⟨_, rfl, he, ht⟩) (fun _ h => nomatch h) dX5_isKept_22
set_option maxHeartbeats 4000000 in
set_option maxRecDepth 100000 in
theorem c_X5_kindOf (l : Launch) (dC : Nat → ClassId) (dI : Nat → Nat → Nat) (q : Nat → Nat) (k : Nat → ClassId) (st : St) (a1 : Int32) (hok : okC st) (res : Int32) (hres : sp_X5_kindOf st a1 = res) : Met l yX5_kindOf wsX5_kindOf ({ frames := 2, cells := 0, slots := 0, locals := 42 } : Room) (va_Pc [.ref (q 8), .int a1] (fun U => va_P (dC, dI) vwCl (wC q k st) U.heap ∧ KC (dC, dI) k U)) (vp_Si (fun r => r = res)) 0 0 (fun _ => False) := by
  refine Met.ofW (cc := cX5_kindOf) (maxL := 2) (ret := (some .int)) (by decide) rfl ?_
  intro p e s m args below meth c s₁ B hml hv
  obtain ⟨rfl, hP, hK⟩ := hv
  have hx := B.exec
  have hb := B.bytes
  have hr := B.returns
  have hts := atoms_spec (ws := wsX5_kindOf) B.pre
  have hown : s.vm.findClass RX5 = some m.cls := findClass_of_methodNamed B.named
  have hlocks := B.notSynchronized
  have hi5 : ∀ w ∈ wsX50, w ∈ wsX5_kindOf := by decide +kernel
  have hf11 := hts (.fieldLink RX5 11 "ConsentRegister$Items" "kinds" "[I") (by decide +kernel)
  have hl := lv_entry ([.ref (q 8), .int a1]) (n := 2) (Nat.le_of_ble_eq_true rfl)
  rw [lg_entry_eq]
  generalize (lg_sl ([.ref (q 8), .int a1]) ++ List.replicate (2 - (lg_sl ([.ref (q 8), .int a1])).length) Slot.unset).toArray = ls at hl ⊢
  have hl : lv_has ls 2 [(0, .ref (q 8)), (1, .int a1)] := hl
  have he := hres
  unfold sp_X5_kindOf at he
  refine lv_aload_n hx hb dX5_kindOf_0 rfl (lv_at hl 0 rfl) ?_
  refine lv_iload_n hx hb dX5_kindOf_1 rfl (lv_at hl 1 rfl) ?_
  refine vp_callSi (va_Run.run (va_runV (As := [.int a1]) (rest := []) ⟨hx, hb, hml, hown, hts⟩ (c_X5_lives l dC dI q k st a1 hok _ rfl) (cwV 1 hts gX5_kindOf_X5_lives rfl rfl rfl (by decide +kernel) ⟨Nat.le_of_ble_eq_true rfl, Nat.le_of_ble_eq_true rfl⟩) ⟨fb_C, va_recv hK.1 hP (ci := 5) (q0 := 8) rfl rfl, fun U hU hW => ⟨rfl, by rw [hU]; exact hP, hK.warm hW⟩⟩ rfl rfl hl.1 rfl (lv_room (Nat.le_of_ble_eq_true rfl)) dX5_kindOf_2 ⟨Nat.le_of_ble_eq_true rfl, Nat.le_of_ble_eq_true rfl⟩)) (fun r9 e9 => ?_)
  subst e9
  refine lv_if_eq (tgt := 17) hx hb dX5_kindOf_5 (by decide) (fun h5_1 => ?_) (fun h5_1 => ?_)
  · have he := (if_pos h5_1).symm.trans he
    refine lv_iconst (v := (-1)) hx hb dX5_kindOf_17 (by decide) ?_
    exact W.iret (v := (-1)) hx hb hr (fun t ht hW => ⟨_, rfl, he, ht⟩) (fun _ h => nomatch h) dX5_kindOf_18
  · have he := (if_neg h5_1).symm.trans he
    refine lv_aload_n hx hb dX5_kindOf_8 rfl (lv_at hl 0 rfl) ?_
    refine va_get (D := (dC, dI)) (ci := 5) (v := .ref (q 30)) (C := RX5) (T := TX5) (N := 11) hx hb hts hi5 hown hK.1 hP 8 rfl rfl 0 (by decide) hf11 (fun _ h9 => h9) rfl dX5_kindOf_9 ?_
    refine lv_iload_n hx hb dX5_kindOf_12 rfl (lv_at hl 1 rfl) ?_
    refine va_iald hx hb hK.1 hP 30 20 (f := st.2.1 20) (n := 100) (cA := k 20) rfl rfl (i := a1) (ob_X5_kindOf_13_2 st a1 hok h5_1) dX5_kindOf_13 ?_
    refine lv_goto (tgt := 18) hx hb dX5_kindOf_14 (by decide) ?_
    exact W.iret (v := st.2.1 20 a1.toNatClampNeg) hx hb hr (fun t ht hW => ⟨_, rfl, he, ht⟩) (fun _ h => nomatch h) dX5_kindOf_18
set_option maxHeartbeats 4000000 in
set_option maxRecDepth 100000 in
theorem c_X5_dayOf (l : Launch) (dC : Nat → ClassId) (dI : Nat → Nat → Nat) (q : Nat → Nat) (k : Nat → ClassId) (st : St) (a1 : Int32) (hok : okC st) (res : Int32) (hres : sp_X5_dayOf st a1 = res) : Met l yX5_dayOf wsX5_dayOf ({ frames := 2, cells := 0, slots := 0, locals := 42 } : Room) (va_Pc [.ref (q 8), .int a1] (fun U => va_P (dC, dI) vwCl (wC q k st) U.heap ∧ KC (dC, dI) k U)) (vp_Si (fun r => r = res)) 0 0 (fun _ => False) := by
  refine Met.ofW (cc := cX5_dayOf) (maxL := 2) (ret := (some .int)) (by decide) rfl ?_
  intro p e s m args below meth c s₁ B hml hv
  obtain ⟨rfl, hP, hK⟩ := hv
  have hx := B.exec
  have hb := B.bytes
  have hr := B.returns
  have hts := atoms_spec (ws := wsX5_dayOf) B.pre
  have hown : s.vm.findClass RX5 = some m.cls := findClass_of_methodNamed B.named
  have hlocks := B.notSynchronized
  have hi5 : ∀ w ∈ wsX50, w ∈ wsX5_dayOf := by decide +kernel
  have hf15 := hts (.fieldLink RX5 15 "ConsentRegister$Items" "days" "[I") (by decide +kernel)
  have hl := lv_entry ([.ref (q 8), .int a1]) (n := 2) (Nat.le_of_ble_eq_true rfl)
  rw [lg_entry_eq]
  generalize (lg_sl ([.ref (q 8), .int a1]) ++ List.replicate (2 - (lg_sl ([.ref (q 8), .int a1])).length) Slot.unset).toArray = ls at hl ⊢
  have hl : lv_has ls 2 [(0, .ref (q 8)), (1, .int a1)] := hl
  have he := hres
  unfold sp_X5_dayOf at he
  refine lv_aload_n hx hb dX5_dayOf_0 rfl (lv_at hl 0 rfl) ?_
  refine lv_iload_n hx hb dX5_dayOf_1 rfl (lv_at hl 1 rfl) ?_
  refine vp_callSi (va_Run.run (va_runV (As := [.int a1]) (rest := []) ⟨hx, hb, hml, hown, hts⟩ (c_X5_lives l dC dI q k st a1 hok _ rfl) (cwV 1 hts gX5_dayOf_X5_lives rfl rfl rfl (by decide +kernel) ⟨Nat.le_of_ble_eq_true rfl, Nat.le_of_ble_eq_true rfl⟩) ⟨fb_C, va_recv hK.1 hP (ci := 5) (q0 := 8) rfl rfl, fun U hU hW => ⟨rfl, by rw [hU]; exact hP, hK.warm hW⟩⟩ rfl rfl hl.1 rfl (lv_room (Nat.le_of_ble_eq_true rfl)) dX5_dayOf_2 ⟨Nat.le_of_ble_eq_true rfl, Nat.le_of_ble_eq_true rfl⟩)) (fun r9 e9 => ?_)
  subst e9
  refine lv_if_eq (tgt := 17) hx hb dX5_dayOf_5 (by decide) (fun h5_1 => ?_) (fun h5_1 => ?_)
  · have he := (if_pos h5_1).symm.trans he
    refine lv_iconst (v := (-1)) hx hb dX5_dayOf_17 (by decide) ?_
    exact W.iret (v := (-1)) hx hb hr (fun t ht hW => ⟨_, rfl, he, ht⟩) (fun _ h => nomatch h) dX5_dayOf_18
  · have he := (if_neg h5_1).symm.trans he
    refine lv_aload_n hx hb dX5_dayOf_8 rfl (lv_at hl 0 rfl) ?_
    refine va_get (D := (dC, dI)) (ci := 5) (v := .ref (q 31)) (C := RX5) (T := TX5) (N := 11) hx hb hts hi5 hown hK.1 hP 8 rfl rfl 1 (by decide) hf15 (fun _ h9 => h9) rfl dX5_dayOf_9 ?_
    refine lv_iload_n hx hb dX5_dayOf_12 rfl (lv_at hl 1 rfl) ?_
    refine va_iald hx hb hK.1 hP 31 21 (f := st.2.1 21) (n := 100) (cA := k 21) rfl rfl (i := a1) (ob_X5_dayOf_13_2 st a1 hok h5_1) dX5_dayOf_13 ?_
    refine lv_goto (tgt := 18) hx hb dX5_dayOf_14 (by decide) ?_
    exact W.iret (v := st.2.1 21 a1.toNatClampNeg) hx hb hr (fun t ht hW => ⟨_, rfl, he, ht⟩) (fun _ h => nomatch h) dX5_dayOf_18
set_option maxHeartbeats 4000000 in
set_option maxRecDepth 100000 in
theorem c_X5_personsOf (l : Launch) (dC : Nat → ClassId) (dI : Nat → Nat → Nat) (q : Nat → Nat) (k : Nat → ClassId) (st : St) (a1 : Int32) (hok : okC st) (res : Int32) (hres : sp_X5_personsOf st a1 = res) : Met l yX5_personsOf wsX5_personsOf ({ frames := 2, cells := 0, slots := 0, locals := 42 } : Room) (va_Pc [.ref (q 8), .int a1] (fun U => va_P (dC, dI) vwCl (wC q k st) U.heap ∧ KC (dC, dI) k U)) (vp_Si (fun r => r = res)) 0 0 (fun _ => False) := by
  refine Met.ofW (cc := cX5_personsOf) (maxL := 2) (ret := (some .int)) (by decide) rfl ?_
  intro p e s m args below meth c s₁ B hml hv
  obtain ⟨rfl, hP, hK⟩ := hv
  have hx := B.exec
  have hb := B.bytes
  have hr := B.returns
  have hts := atoms_spec (ws := wsX5_personsOf) B.pre
  have hown : s.vm.findClass RX5 = some m.cls := findClass_of_methodNamed B.named
  have hlocks := B.notSynchronized
  have hi5 : ∀ w ∈ wsX50, w ∈ wsX5_personsOf := by decide +kernel
  have hf18 := hts (.fieldLink RX5 18 "ConsentRegister$Items" "persons" "[I") (by decide +kernel)
  have hl := lv_entry ([.ref (q 8), .int a1]) (n := 2) (Nat.le_of_ble_eq_true rfl)
  rw [lg_entry_eq]
  generalize (lg_sl ([.ref (q 8), .int a1]) ++ List.replicate (2 - (lg_sl ([.ref (q 8), .int a1])).length) Slot.unset).toArray = ls at hl ⊢
  have hl : lv_has ls 2 [(0, .ref (q 8)), (1, .int a1)] := hl
  have he := hres
  unfold sp_X5_personsOf at he
  refine lv_aload_n hx hb dX5_personsOf_0 rfl (lv_at hl 0 rfl) ?_
  refine lv_iload_n hx hb dX5_personsOf_1 rfl (lv_at hl 1 rfl) ?_
  refine vp_callSi (va_Run.run (va_runV (As := [.int a1]) (rest := []) ⟨hx, hb, hml, hown, hts⟩ (c_X5_lives l dC dI q k st a1 hok _ rfl) (cwV 1 hts gX5_personsOf_X5_lives rfl rfl rfl (by decide +kernel) ⟨Nat.le_of_ble_eq_true rfl, Nat.le_of_ble_eq_true rfl⟩) ⟨fb_C, va_recv hK.1 hP (ci := 5) (q0 := 8) rfl rfl, fun U hU hW => ⟨rfl, by rw [hU]; exact hP, hK.warm hW⟩⟩ rfl rfl hl.1 rfl (lv_room (Nat.le_of_ble_eq_true rfl)) dX5_personsOf_2 ⟨Nat.le_of_ble_eq_true rfl, Nat.le_of_ble_eq_true rfl⟩)) (fun r9 e9 => ?_)
  subst e9
  refine lv_if_eq (tgt := 17) hx hb dX5_personsOf_5 (by decide) (fun h5_1 => ?_) (fun h5_1 => ?_)
  · have he := (if_pos h5_1).symm.trans he
    refine lv_iconst (v := 0) hx hb dX5_personsOf_17 (by decide) ?_
    exact W.iret (v := 0) hx hb hr (fun t ht hW => ⟨_, rfl, he, ht⟩) (fun _ h => nomatch h) dX5_personsOf_18
  · have he := (if_neg h5_1).symm.trans he
    refine lv_aload_n hx hb dX5_personsOf_8 rfl (lv_at hl 0 rfl) ?_
    refine va_get (D := (dC, dI)) (ci := 5) (v := .ref (q 32)) (C := RX5) (T := TX5) (N := 11) hx hb hts hi5 hown hK.1 hP 8 rfl rfl 2 (by decide) hf18 (fun _ h9 => h9) rfl dX5_personsOf_9 ?_
    refine lv_iload_n hx hb dX5_personsOf_12 rfl (lv_at hl 1 rfl) ?_
    refine va_iald hx hb hK.1 hP 32 22 (f := st.2.1 22) (n := 100) (cA := k 22) rfl rfl (i := a1) (ob_X5_personsOf_13_2 st a1 hok h5_1) dX5_personsOf_13 ?_
    refine lv_goto (tgt := 18) hx hb dX5_personsOf_14 (by decide) ?_
    exact W.iret (v := st.2.1 22 a1.toNatClampNeg) hx hb hr (fun t ht hW => ⟨_, rfl, he, ht⟩) (fun _ h => nomatch h) dX5_personsOf_18
set_option maxHeartbeats 4000000 in
set_option maxRecDepth 100000 in
theorem c_X5_valueOf (l : Launch) (dC : Nat → ClassId) (dI : Nat → Nat → Nat) (q : Nat → Nat) (k : Nat → ClassId) (st : St) (a1 : Int32) (hok : okC st) (res : Int64) (hres : sp_X5_valueOf st a1 = res) : Met l yX5_valueOf wsX5_valueOf ({ frames := 2, cells := 0, slots := 0, locals := 42 } : Room) (va_Pc [.ref (q 8), .int a1] (fun U => va_P (dC, dI) vwCl (wC q k st) U.heap ∧ KC (dC, dI) k U)) (vp_Sl (fun r => r = res)) 0 0 (fun _ => False) := by
  refine Met.ofW (cc := cX5_valueOf) (maxL := 2) (ret := (some .long)) (by decide) rfl ?_
  intro p e s m args below meth c s₁ B hml hv
  obtain ⟨rfl, hP, hK⟩ := hv
  have hx := B.exec
  have hb := B.bytes
  have hr := B.returns
  have hts := atoms_spec (ws := wsX5_valueOf) B.pre
  have hown : s.vm.findClass RX5 = some m.cls := findClass_of_methodNamed B.named
  have hlocks := B.notSynchronized
  have hi5 : ∀ w ∈ wsX50, w ∈ wsX5_valueOf := by decide +kernel
  have hf30 := hts (.fieldLink RX5 30 "ConsentRegister$Items" "values" "[J") (by decide +kernel)
  have hl := lv_entry ([.ref (q 8), .int a1]) (n := 2) (Nat.le_of_ble_eq_true rfl)
  rw [lg_entry_eq]
  generalize (lg_sl ([.ref (q 8), .int a1]) ++ List.replicate (2 - (lg_sl ([.ref (q 8), .int a1])).length) Slot.unset).toArray = ls at hl ⊢
  have hl : lv_has ls 2 [(0, .ref (q 8)), (1, .int a1)] := hl
  have he := hres
  unfold sp_X5_valueOf at he
  refine lv_aload_n hx hb dX5_valueOf_0 rfl (lv_at hl 0 rfl) ?_
  refine lv_iload_n hx hb dX5_valueOf_1 rfl (lv_at hl 1 rfl) ?_
  refine vp_callSi (va_Run.run (va_runV (As := [.int a1]) (rest := []) ⟨hx, hb, hml, hown, hts⟩ (c_X5_lives l dC dI q k st a1 hok _ rfl) (cwV 1 hts gX5_valueOf_X5_lives rfl rfl rfl (by decide +kernel) ⟨Nat.le_of_ble_eq_true rfl, Nat.le_of_ble_eq_true rfl⟩) ⟨fb_C, va_recv hK.1 hP (ci := 5) (q0 := 8) rfl rfl, fun U hU hW => ⟨rfl, by rw [hU]; exact hP, hK.warm hW⟩⟩ rfl rfl hl.1 rfl (lv_room (Nat.le_of_ble_eq_true rfl)) dX5_valueOf_2 ⟨Nat.le_of_ble_eq_true rfl, Nat.le_of_ble_eq_true rfl⟩)) (fun r9 e9 => ?_)
  subst e9
  refine lv_if_eq (tgt := 17) hx hb dX5_valueOf_5 (by decide) (fun h5_1 => ?_) (fun h5_1 => ?_)
  · have he := (if_pos h5_1).symm.trans he
    refine lv_lconst (v := 0) hx hb dX5_valueOf_17 (by decide) ?_
    exact W.lret (v := 0) hx hb hr (fun t ht hW => ⟨_, rfl, he, ht⟩) (fun _ h => nomatch h) dX5_valueOf_18
  · have he := (if_neg h5_1).symm.trans he
    refine lv_aload_n hx hb dX5_valueOf_8 rfl (lv_at hl 0 rfl) ?_
    refine va_get (D := (dC, dI)) (ci := 5) (v := .ref (q 38)) (C := RX5) (T := TX5) (N := 11) hx hb hts hi5 hown hK.1 hP 8 rfl rfl 6 (by decide) hf30 (fun _ h9 => h9) rfl dX5_valueOf_9 ?_
    refine lv_iload_n hx hb dX5_valueOf_12 rfl (lv_at hl 1 rfl) ?_
    refine va_lald hx hb hK.1 hP 38 28 (f := st.2.2) (n := 100) (cA := k 28) rfl rfl (i := a1) (ob_X5_valueOf_13_2 st a1 hok h5_1) dX5_valueOf_13 ?_
    refine lv_goto (tgt := 18) hx hb dX5_valueOf_14 (by decide) ?_
    exact W.lret (v := st.2.2 a1.toNatClampNeg) hx hb hr (fun t ht hW => ⟨_, rfl, he, ht⟩) (fun _ h => nomatch h) dX5_valueOf_18
set_option maxHeartbeats 4000000 in
set_option maxRecDepth 100000 in
theorem c_X5_derivedValue (l : Launch) (dC : Nat → ClassId) (dI : Nat → Nat → Nat) (q : Nat → Nat) (k : Nat → ClassId) (st : St) (a1 : Int32) (hok : okC st) (hva1 : vp_in a1 100) (res : Int64) (hres : sp_X5_derivedValue st a1 = res) : Met l yX5_derivedValue wsX5_derivedValue ({ frames := 3, cells := 0, slots := 0, locals := 63 } : Room) (va_Pc [.ref (q 8), .int a1] (fun U => va_P (dC, dI) vwCl (wC q k st) U.heap ∧ KC (dC, dI) k U)) (vp_Sl (fun r => r = res)) 0 0 (fun _ => False) := by
  refine Met.ofW (cc := cX5_derivedValue) (maxL := 6) (ret := (some .long)) (by decide) rfl ?_
  intro p e s m args below meth c s₁ B hml hv
  obtain ⟨rfl, hP, hK⟩ := hv
  have hx := B.exec
  have hb := B.bytes
  have hr := B.returns
  have hts := atoms_spec (ws := wsX5_derivedValue) B.pre
  have hown : s.vm.findClass RX5 = some m.cls := findClass_of_methodNamed B.named
  have hlocks := B.notSynchronized
  have hi5 : ∀ w ∈ wsX50, w ∈ wsX5_derivedValue := by decide +kernel
  have hf21 := hts (.fieldLink RX5 21 "ConsentRegister$Items" "ways" "[I") (by decide +kernel)
  have hf24 := hts (.fieldLink RX5 24 "ConsentRegister$Items" "firsts" "[I") (by decide +kernel)
  have hf27 := hts (.fieldLink RX5 27 "ConsentRegister$Items" "seconds" "[I") (by decide +kernel)
  have hl := lv_entry ([.ref (q 8), .int a1]) (n := 6) (Nat.le_of_ble_eq_true rfl)
  rw [lg_entry_eq]
  generalize (lg_sl ([.ref (q 8), .int a1]) ++ List.replicate (6 - (lg_sl ([.ref (q 8), .int a1])).length) Slot.unset).toArray = ls at hl ⊢
  have hl : lv_has ls 6 [(0, .ref (q 8)), (1, .int a1)] := hl
  have he := hres
  unfold sp_X5_derivedValue at he
  refine lv_aload_n hx hb dX5_derivedValue_0 rfl (lv_at hl 0 rfl) ?_
  refine lv_aload_n hx hb dX5_derivedValue_1 rfl (lv_at hl 0 rfl) ?_
  refine va_get (D := (dC, dI)) (ci := 5) (v := .ref (q 34)) (C := RX5) (T := TX5) (N := 11) hx hb hts hi5 hown hK.1 hP 8 rfl rfl 4 (by decide) hf24 (fun _ h9 => h9) rfl dX5_derivedValue_2 ?_
  refine lv_iload_n hx hb dX5_derivedValue_5 rfl (lv_at hl 1 rfl) ?_
  refine va_iald hx hb hK.1 hP 34 24 (f := st.2.1 24) (n := 100) (cA := k 24) rfl rfl (i := a1) (ob_X5_derivedValue_6_1 st a1 hok hva1) dX5_derivedValue_6 ?_
  refine vp_callSl (va_Run.run (va_runV (As := [.int (st.2.1 24 a1.toNatClampNeg)]) (rest := []) ⟨hx, hb, hml, hown, hts⟩ (c_X5_valueOf l dC dI q k st (st.2.1 24 a1.toNatClampNeg) hok _ rfl) (cwV 1 hts gX5_derivedValue_X5_valueOf rfl rfl rfl (by decide +kernel) ⟨Nat.le_of_ble_eq_true rfl, Nat.le_of_ble_eq_true rfl⟩) ⟨fb_C, va_recv hK.1 hP (ci := 5) (q0 := 8) rfl rfl, fun U hU hW => ⟨rfl, by rw [hU]; exact hP, hK.warm hW⟩⟩ rfl rfl hl.1 rfl (lv_room (Nat.le_of_ble_eq_true rfl)) dX5_derivedValue_7 ⟨Nat.le_of_ble_eq_true rfl, Nat.le_of_ble_eq_true rfl⟩)) (fun r9 e9 => ?_)
  subst e9
  refine lv_lstore_n (lv' := [(2, .long (sp_X5_valueOf st (st.2.1 24 a1.toNatClampNeg))), (0, .ref (q 8)), (1, .int a1)]) hx hb dX5_derivedValue_10 rfl hl (by decide) rfl (fun ls hl => ?_)
  refine lv_aload_n hx hb dX5_derivedValue_11 rfl (lv_at hl 1 rfl) ?_
  refine lv_aload_n hx hb dX5_derivedValue_12 rfl (lv_at hl 1 rfl) ?_
  refine va_get (D := (dC, dI)) (ci := 5) (v := .ref (q 35)) (C := RX5) (T := TX5) (N := 11) hx hb hts hi5 hown hK.1 hP 8 rfl rfl 5 (by decide) hf27 (fun _ h9 => h9) rfl dX5_derivedValue_13 ?_
  refine lv_iload_n hx hb dX5_derivedValue_16 rfl (lv_at hl 2 rfl) ?_
  refine va_iald hx hb hK.1 hP 35 25 (f := st.2.1 25) (n := 100) (cA := k 25) rfl rfl (i := a1) (ob_X5_derivedValue_17_2 st a1 hok hva1) dX5_derivedValue_17 ?_
  refine vp_callSl (va_Run.run (va_runV (As := [.int (st.2.1 25 a1.toNatClampNeg)]) (rest := []) ⟨hx, hb, hml, hown, hts⟩ (c_X5_valueOf l dC dI q k st (st.2.1 25 a1.toNatClampNeg) hok _ rfl) (cwV 1 hts gX5_derivedValue_X5_valueOf rfl rfl rfl (by decide +kernel) ⟨Nat.le_of_ble_eq_true rfl, Nat.le_of_ble_eq_true rfl⟩) ⟨fb_C, va_recv hK.1 hP (ci := 5) (q0 := 8) rfl rfl, fun U hU hW => ⟨rfl, by rw [hU]; exact hP, hK.warm hW⟩⟩ rfl rfl hl.1 rfl (lv_room (Nat.le_of_ble_eq_true rfl)) dX5_derivedValue_18 ⟨Nat.le_of_ble_eq_true rfl, Nat.le_of_ble_eq_true rfl⟩)) (fun r9 e9 => ?_)
  subst e9
  refine lv_lstore (lv' := [(4, .long (sp_X5_valueOf st (st.2.1 25 a1.toNatClampNeg))), (2, .long (sp_X5_valueOf st (st.2.1 24 a1.toNatClampNeg))), (0, .ref (q 8)), (1, .int a1)]) hx hb dX5_derivedValue_21 hl (by decide) rfl (fun ls hl => ?_)
  refine lv_aload_n hx hb dX5_derivedValue_23 rfl (lv_at hl 2 rfl) ?_
  refine va_get (D := (dC, dI)) (ci := 5) (v := .ref (q 33)) (C := RX5) (T := TX5) (N := 11) hx hb hts hi5 hown hK.1 hP 8 rfl rfl 3 (by decide) hf21 (fun _ h9 => h9) rfl dX5_derivedValue_24 ?_
  refine lv_iload_n hx hb dX5_derivedValue_27 rfl (lv_at hl 3 rfl) ?_
  refine va_iald hx hb hK.1 hP 33 23 (f := st.2.1 23) (n := 100) (cA := k 23) rfl rfl (i := a1) (ob_X5_derivedValue_28_3 st a1 hok hva1) dX5_derivedValue_28 ?_
  by_cases h29_4 : st.2.1 23 a1.toNatClampNeg = 1
  · have he := (if_pos h29_4).symm.trans he
    refine lv_lookup (off := 27) (tgt := 56) hx hb dX5_derivedValue_29 (by decide) (by rw [h29_4]; rfl) (by decide) ?_
    refine lv_lload_n hx hb dX5_derivedValue_56 rfl (lv_at hl 1 rfl) ?_
    refine lv_lload hx hb dX5_derivedValue_57 (lv_at hl 0 rfl) ?_
    refine lv_ladd hx hb dX5_derivedValue_59 ?_
    exact W.lret (v := (sp_X5_valueOf st (st.2.1 24 a1.toNatClampNeg)) + (sp_X5_valueOf st (st.2.1 25 a1.toNatClampNeg))) hx hb hr (fun t ht hW => ⟨_, rfl, he, ht⟩) (fun _ h => nomatch h) dX5_derivedValue_60
  have he := (if_neg h29_4).symm.trans he
  by_cases h29_5 : st.2.1 23 a1.toNatClampNeg = 2
  · have he := (if_pos h29_5).symm.trans he
    refine lv_lookup (off := 32) (tgt := 61) hx hb dX5_derivedValue_29 (by decide) (by rw [h29_5]; rfl) (by decide) ?_
    refine lv_lload_n hx hb dX5_derivedValue_61 rfl (lv_at hl 1 rfl) ?_
    refine lv_lload hx hb dX5_derivedValue_62 (lv_at hl 0 rfl) ?_
    refine W.lcmp hx hb dX5_derivedValue_64 ?_
    refine lv_if_le (tgt := 72) hx hb dX5_derivedValue_65 (by decide) (fun h65_6 => ?_) (fun h65_6 => ?_)
    · have he := (if_pos h65_6).symm.trans he
      refine lv_lconst (v := 0) hx hb dX5_derivedValue_72 (by decide) ?_
      exact W.lret (v := 0) hx hb hr (fun t ht hW => ⟨_, rfl, he, ht⟩) (fun _ h => nomatch h) dX5_derivedValue_73
    · have he := (if_neg h65_6).symm.trans he
      refine lv_lconst (v := 1) hx hb dX5_derivedValue_68 (by decide) ?_
      refine lv_goto (tgt := 73) hx hb dX5_derivedValue_69 (by decide) ?_
      exact W.lret (v := 1) hx hb hr (fun t ht hW => ⟨_, rfl, he, ht⟩) (fun _ h => nomatch h) dX5_derivedValue_73
  have he := (if_neg h29_5).symm.trans he
  refine lv_lookup (off := 45) (tgt := 74) hx hb dX5_derivedValue_29 (by decide) (by show Op.lookupswitch.offset [(1, 27), (2, 32)] 45 _ = 45; rw [lv_osw (a := 1) h29_4 (by decide), lv_osw (a := 2) h29_5 (by decide)]; rfl) (by decide) ?_
  refine lv_lload_n hx hb dX5_derivedValue_74 rfl (lv_at hl 1 rfl) ?_
  exact W.lret (v := (sp_X5_valueOf st (st.2.1 24 a1.toNatClampNeg))) hx hb hr (fun t ht hW => ⟨_, rfl, he, ht⟩) (fun _ h => nomatch h) dX5_derivedValue_75
set_option maxHeartbeats 4000000 in
set_option maxRecDepth 100000 in
theorem c_X5_hasLostInputs (l : Launch) (dC : Nat → ClassId) (dI : Nat → Nat → Nat) (q : Nat → Nat) (k : Nat → ClassId) (st : St) (a1 : Int32) (hok : okC st) (hva1 : vp_in a1 100) (res : Int32) (hres : sp_X5_hasLostInputs st a1 = res) : Met l yX5_hasLostInputs wsX5_hasLostInputs ({ frames := 2, cells := 0, slots := 0, locals := 42 } : Room) (va_Pc [.ref (q 8), .int a1] (fun U => va_P (dC, dI) vwCl (wC q k st) U.heap ∧ KC (dC, dI) k U)) (vp_Si (fun r => r = res)) 0 0 (fun _ => False) := by
  refine Met.ofW (cc := cX5_hasLostInputs) (maxL := 4) (ret := (some .boolean)) (by decide) rfl ?_
  intro p e s m args below meth c s₁ B hml hv
  obtain ⟨rfl, hP, hK⟩ := hv
  have hx := B.exec
  have hb := B.bytes
  have hr := B.returns
  have hts := atoms_spec (ws := wsX5_hasLostInputs) B.pre
  have hown : s.vm.findClass RX5 = some m.cls := findClass_of_methodNamed B.named
  have hlocks := B.notSynchronized
  have hi5 : ∀ w ∈ wsX50, w ∈ wsX5_hasLostInputs := by decide +kernel
  have hf21 := hts (.fieldLink RX5 21 "ConsentRegister$Items" "ways" "[I") (by decide +kernel)
  have hf24 := hts (.fieldLink RX5 24 "ConsentRegister$Items" "firsts" "[I") (by decide +kernel)
  have hf27 := hts (.fieldLink RX5 27 "ConsentRegister$Items" "seconds" "[I") (by decide +kernel)
  have hl := lv_entry ([.ref (q 8), .int a1]) (n := 4) (Nat.le_of_ble_eq_true rfl)
  rw [lg_entry_eq]
  generalize (lg_sl ([.ref (q 8), .int a1]) ++ List.replicate (4 - (lg_sl ([.ref (q 8), .int a1])).length) Slot.unset).toArray = ls at hl ⊢
  have hl : lv_has ls 4 [(0, .ref (q 8)), (1, .int a1)] := hl
  have he := hres
  unfold sp_X5_hasLostInputs at he
  refine lv_aload_n hx hb dX5_hasLostInputs_0 rfl (lv_at hl 0 rfl) ?_
  refine lv_aload_n hx hb dX5_hasLostInputs_1 rfl (lv_at hl 0 rfl) ?_
  refine va_get (D := (dC, dI)) (ci := 5) (v := .ref (q 34)) (C := RX5) (T := TX5) (N := 11) hx hb hts hi5 hown hK.1 hP 8 rfl rfl 4 (by decide) hf24 (fun _ h9 => h9) rfl dX5_hasLostInputs_2 ?_
  refine lv_iload_n hx hb dX5_hasLostInputs_5 rfl (lv_at hl 1 rfl) ?_
  refine va_iald hx hb hK.1 hP 34 24 (f := st.2.1 24) (n := 100) (cA := k 24) rfl rfl (i := a1) (ob_X5_hasLostInputs_6_1 st a1 hok hva1) dX5_hasLostInputs_6 ?_
  refine vp_callSi (va_Run.run (va_runV (As := [.int (st.2.1 24 a1.toNatClampNeg)]) (rest := []) ⟨hx, hb, hml, hown, hts⟩ (c_X5_lives l dC dI q k st (st.2.1 24 a1.toNatClampNeg) hok _ rfl) (cwV 1 hts gX5_hasLostInputs_X5_lives rfl rfl rfl (by decide +kernel) ⟨Nat.le_of_ble_eq_true rfl, Nat.le_of_ble_eq_true rfl⟩) ⟨fb_C, va_recv hK.1 hP (ci := 5) (q0 := 8) rfl rfl, fun U hU hW => ⟨rfl, by rw [hU]; exact hP, hK.warm hW⟩⟩ rfl rfl hl.1 rfl (lv_room (Nat.le_of_ble_eq_true rfl)) dX5_hasLostInputs_7 ⟨Nat.le_of_ble_eq_true rfl, Nat.le_of_ble_eq_true rfl⟩)) (fun r9 e9 => ?_)
  subst e9
  refine lv_istore_n (lv' := [(2, .int (sp_X5_lives st (st.2.1 24 a1.toNatClampNeg))), (0, .ref (q 8)), (1, .int a1)]) hx hb dX5_hasLostInputs_10 rfl hl (by decide) rfl (fun ls hl => ?_)
  refine lv_aload_n hx hb dX5_hasLostInputs_11 rfl (lv_at hl 1 rfl) ?_
  refine lv_aload_n hx hb dX5_hasLostInputs_12 rfl (lv_at hl 1 rfl) ?_
  refine va_get (D := (dC, dI)) (ci := 5) (v := .ref (q 35)) (C := RX5) (T := TX5) (N := 11) hx hb hts hi5 hown hK.1 hP 8 rfl rfl 5 (by decide) hf27 (fun _ h9 => h9) rfl dX5_hasLostInputs_13 ?_
  refine lv_iload_n hx hb dX5_hasLostInputs_16 rfl (lv_at hl 2 rfl) ?_
  refine va_iald hx hb hK.1 hP 35 25 (f := st.2.1 25) (n := 100) (cA := k 25) rfl rfl (i := a1) (ob_X5_hasLostInputs_17_2 st a1 hok hva1) dX5_hasLostInputs_17 ?_
  refine vp_callSi (va_Run.run (va_runV (As := [.int (st.2.1 25 a1.toNatClampNeg)]) (rest := []) ⟨hx, hb, hml, hown, hts⟩ (c_X5_lives l dC dI q k st (st.2.1 25 a1.toNatClampNeg) hok _ rfl) (cwV 1 hts gX5_hasLostInputs_X5_lives rfl rfl rfl (by decide +kernel) ⟨Nat.le_of_ble_eq_true rfl, Nat.le_of_ble_eq_true rfl⟩) ⟨fb_C, va_recv hK.1 hP (ci := 5) (q0 := 8) rfl rfl, fun U hU hW => ⟨rfl, by rw [hU]; exact hP, hK.warm hW⟩⟩ rfl rfl hl.1 rfl (lv_room (Nat.le_of_ble_eq_true rfl)) dX5_hasLostInputs_18 ⟨Nat.le_of_ble_eq_true rfl, Nat.le_of_ble_eq_true rfl⟩)) (fun r9 e9 => ?_)
  subst e9
  refine lv_istore_n (lv' := [(3, .int (sp_X5_lives st (st.2.1 25 a1.toNatClampNeg))), (2, .int (sp_X5_lives st (st.2.1 24 a1.toNatClampNeg))), (0, .ref (q 8)), (1, .int a1)]) hx hb dX5_hasLostInputs_21 rfl hl (by decide) rfl (fun ls hl => ?_)
  refine lv_aload_n hx hb dX5_hasLostInputs_22 rfl (lv_at hl 2 rfl) ?_
  refine va_get (D := (dC, dI)) (ci := 5) (v := .ref (q 33)) (C := RX5) (T := TX5) (N := 11) hx hb hts hi5 hown hK.1 hP 8 rfl rfl 3 (by decide) hf21 (fun _ h9 => h9) rfl dX5_hasLostInputs_23 ?_
  refine lv_iload_n hx hb dX5_hasLostInputs_26 rfl (lv_at hl 3 rfl) ?_
  refine va_iald hx hb hK.1 hP 33 23 (f := st.2.1 23) (n := 100) (cA := k 23) rfl rfl (i := a1) (ob_X5_hasLostInputs_27_3 st a1 hok hva1) dX5_hasLostInputs_27 ?_
  refine lv_iconst (v := 1) hx hb dX5_hasLostInputs_28 (by decide) ?_
  refine lv_icmp_ne (tgt := 48) hx hb dX5_hasLostInputs_29 (by decide) (fun h29_4 => ?_) (fun h29_4 => ?_)
  · have he := (if_neg h29_4).symm.trans he
    refine lv_iload_n hx hb dX5_hasLostInputs_48 rfl (lv_at hl 1 rfl) ?_
    refine lv_if_eq (tgt := 56) hx hb dX5_hasLostInputs_49 (by decide) (fun h49_5 => ?_) (fun h49_5 => ?_)
    · have he := (if_pos h49_5).symm.trans he
      refine lv_iconst (v := 1) hx hb dX5_hasLostInputs_56 (by decide) ?_
      refine lv_goto (tgt := 61) hx hb dX5_hasLostInputs_57 (by decide) ?_
      exact W.zret (v := 1) hx hb hr rfl (fun t ht hW => ⟨_, rfl, he, ht⟩) (fun _ h => nomatch h) dX5_hasLostInputs_61
    · have he := (if_neg h49_5).symm.trans he
      refine lv_iload_n hx hb dX5_hasLostInputs_52 rfl (lv_at hl 0 rfl) ?_
      refine lv_if_ne (tgt := 60) hx hb dX5_hasLostInputs_53 (by decide) (fun h53_6 => ?_) (fun h53_6 => ?_)
      · have he := (if_neg h53_6).symm.trans he
        refine lv_iconst (v := 0) hx hb dX5_hasLostInputs_60 (by decide) ?_
        exact W.zret (v := 0) hx hb hr rfl (fun t ht hW => ⟨_, rfl, he, ht⟩) (fun _ h => nomatch h) dX5_hasLostInputs_61
      · have he := (if_pos h53_6).symm.trans he
        refine lv_iconst (v := 1) hx hb dX5_hasLostInputs_56 (by decide) ?_
        refine lv_goto (tgt := 61) hx hb dX5_hasLostInputs_57 (by decide) ?_
        exact W.zret (v := 1) hx hb hr rfl (fun t ht hW => ⟨_, rfl, he, ht⟩) (fun _ h => nomatch h) dX5_hasLostInputs_61
  · have he := (if_pos h29_4).symm.trans he
    refine lv_iload_n hx hb dX5_hasLostInputs_32 rfl (lv_at hl 1 rfl) ?_
    refine lv_if_ne (tgt := 44) hx hb dX5_hasLostInputs_33 (by decide) (fun h33_7 => ?_) (fun h33_7 => ?_)
    · have he := (if_neg h33_7).symm.trans he
      refine lv_iconst (v := 0) hx hb dX5_hasLostInputs_44 (by decide) ?_
      refine lv_goto (tgt := 61) hx hb dX5_hasLostInputs_45 (by decide) ?_
      exact W.zret (v := 0) hx hb hr rfl (fun t ht hW => ⟨_, rfl, he, ht⟩) (fun _ h => nomatch h) dX5_hasLostInputs_61
    · have he := (if_pos h33_7).symm.trans he
      refine lv_iload_n hx hb dX5_hasLostInputs_36 rfl (lv_at hl 0 rfl) ?_
      refine lv_if_ne (tgt := 44) hx hb dX5_hasLostInputs_37 (by decide) (fun h37_8 => ?_) (fun h37_8 => ?_)
      · have he := (if_neg h37_8).symm.trans he
        refine lv_iconst (v := 0) hx hb dX5_hasLostInputs_44 (by decide) ?_
        refine lv_goto (tgt := 61) hx hb dX5_hasLostInputs_45 (by decide) ?_
        exact W.zret (v := 0) hx hb hr rfl (fun t ht hW => ⟨_, rfl, he, ht⟩) (fun _ h => nomatch h) dX5_hasLostInputs_61
      · have he := (if_pos h37_8).symm.trans he
        refine lv_iconst (v := 1) hx hb dX5_hasLostInputs_40 (by decide) ?_
        refine lv_goto (tgt := 61) hx hb dX5_hasLostInputs_41 (by decide) ?_
        exact W.zret (v := 1) hx hb hr rfl (fun t ht hW => ⟨_, rfl, he, ht⟩) (fun _ h => nomatch h) dX5_hasLostInputs_61
set_option maxHeartbeats 4000000 in
set_option maxRecDepth 100000 in
theorem c_X5_begin (l : Launch) (dC : Nat → ClassId) (dI : Nat → Nat → Nat) (q : Nat → Nat) (k : Nat → ClassId) (st : St) (a1 : Int32) (a2 : Int32) (a3 : Int32) (hq : ∀ i j, i < 43 → j < 43 → q i = q j → i = j) (hok : okC st) (res : Int32 × St) (hres : sp_X5_begin st a1 a2 a3 = res) : Met l yX5_begin wsX5_begin ({ frames := 0, cells := 0, slots := 0, locals := 0 } : Room) (va_Pc [.ref (q 8), .int a1, .int a2, .int a3] (fun U => va_P (dC, dI) vwCl (wC q k st) U.heap ∧ KC (dC, dI) k U)) (va_Qi (fun r (_ : Unit) => r = res.1) (fun _ t => va_P (dC, dI) vwCl (wC q k res.2) t.heap) (aC q)) 0 0 (aC q) := by
  refine Met.ofW (cc := cX5_begin) (maxL := 4) (ret := (some .int)) (by decide) rfl ?_
  intro p e s m args below meth c s₁ B hml hv
  obtain ⟨rfl, hP, hK⟩ := hv
  have hx := B.exec
  have hb := B.bytes
  have hr := B.returns
  have hts := atoms_spec (ws := wsX5_begin) B.pre
  have hown : s.vm.findClass RX5 = some m.cls := findClass_of_methodNamed B.named
  have hlocks := B.notSynchronized
  have hS : va_S (aC q) s.heap s.heap [] := va_S.rf
  have hi5 : ∀ w ∈ wsX50, w ∈ wsX5_begin := by decide +kernel
  have hf11 := hts (.fieldLink RX5 11 "ConsentRegister$Items" "kinds" "[I") (by decide +kernel)
  have hf15 := hts (.fieldLink RX5 15 "ConsentRegister$Items" "days" "[I") (by decide +kernel)
  have hf18 := hts (.fieldLink RX5 18 "ConsentRegister$Items" "persons" "[I") (by decide +kernel)
  have hf34 := hts (.fieldLink RX5 34 "ConsentRegister$Items" "alive" "[Z") (by decide +kernel)
  have hf41 := hts (.fieldLink RX5 41 "ConsentRegister$Items" "count" "I") (by decide +kernel)
  have hf45 := hts (.fieldLink RX5 45 "ConsentRegister$Items" "livingCount" "I") (by decide +kernel)
  have hl := lv_entry ([.ref (q 8), .int a1, .int a2, .int a3]) (n := 4) (Nat.le_of_ble_eq_true rfl)
  rw [lg_entry_eq]
  generalize (lg_sl ([.ref (q 8), .int a1, .int a2, .int a3]) ++ List.replicate (4 - (lg_sl ([.ref (q 8), .int a1, .int a2, .int a3])).length) Slot.unset).toArray = ls at hl ⊢
  have hl : lv_has ls 4 [(0, .ref (q 8)), (1, .int a1), (2, .int a2), (3, .int a3)] := hl
  have he := hres
  unfold sp_X5_begin at he
  refine lv_aload_n hx hb dX5_begin_0 rfl (lv_at hl 0 rfl) ?_
  refine va_get (D := (dC, dI)) (ci := 5) (v := .int (st.1 7)) (C := RX5) (T := TX5) (N := 11) hx hb hts hi5 hown hK.1 hP 8 rfl rfl 9 (by decide) hf41 (fun _ h9 => h9) rfl dX5_begin_1 ?_
  refine lv_bipush (v := 100) hx hb dX5_begin_4 (by decide) ?_
  refine lv_icmp_lt (tgt := 11) hx hb dX5_begin_6 (by decide) (fun h6_1 => ?_) (fun h6_1 => ?_)
  · have he := (if_pos h6_1).symm.trans he
    refine lv_aload_n hx hb dX5_begin_11 rfl (lv_at hl 0 rfl) ?_
    refine va_get (D := (dC, dI)) (ci := 5) (v := .ref (q 30)) (C := RX5) (T := TX5) (N := 11) hx hb hts hi5 hown hK.1 hP 8 rfl rfl 0 (by decide) hf11 (fun _ h9 => h9) rfl dX5_begin_12 ?_
    refine lv_aload_n hx hb dX5_begin_15 rfl (lv_at hl 0 rfl) ?_
    refine va_get (D := (dC, dI)) (ci := 5) (v := .int (st.1 7)) (C := RX5) (T := TX5) (N := 11) hx hb hts hi5 hown hK.1 hP 8 rfl rfl 9 (by decide) hf41 (fun _ h9 => h9) rfl dX5_begin_16 ?_
    refine lv_iload_n hx hb dX5_begin_19 rfl (lv_at hl 1 rfl) ?_
    refine va_iast hx hb hK.1 hP (dC_of hq) hS 30 20 (f := st.2.1 20) (n := 100) (cA := k 20) rfl rfl (i := st.1 7) (x := a1) (ob_X5_begin_20_2 st a1 a2 a3 hok h6_1) dX5_begin_20 (fun H locs hP _ hS => ?_)
    have hP : va_P (dC, dI) vwCl (wC q k (sA st 20 ((st.1 7).toNatClampNeg) a1)) H := hP
    refine lv_aload_n hx hb dX5_begin_21 rfl (lv_at hl 0 rfl) ?_
    refine va_get (D := (dC, dI)) (ci := 5) (v := .ref (q 31)) (C := RX5) (T := TX5) (N := 11) hx hb hts hi5 hown hK.1 hP 8 rfl rfl 1 (by decide) hf15 (fun _ h9 => h9) rfl dX5_begin_22 ?_
    refine lv_aload_n hx hb dX5_begin_25 rfl (lv_at hl 0 rfl) ?_
    refine va_get (D := (dC, dI)) (ci := 5) (v := .int (st.1 7)) (C := RX5) (T := TX5) (N := 11) hx hb hts hi5 hown hK.1 hP 8 rfl rfl 9 (by decide) hf41 (fun _ h9 => h9) rfl dX5_begin_26 ?_
    refine lv_iload_n hx hb dX5_begin_29 rfl (lv_at hl 2 rfl) ?_
    refine va_iast hx hb hK.1 hP (dC_of hq) hS 31 21 (f := st.2.1 21) (n := 100) (cA := k 21) rfl rfl (i := st.1 7) (x := a2) (ob_X5_begin_30_3 st a1 a2 a3 hok h6_1) dX5_begin_30 (fun H locs hP _ hS => ?_)
    have hP : va_P (dC, dI) vwCl (wC q k (sA (sA st 20 ((st.1 7).toNatClampNeg) a1) 21 ((st.1 7).toNatClampNeg) a2)) H := hP
    refine lv_aload_n hx hb dX5_begin_31 rfl (lv_at hl 0 rfl) ?_
    refine va_get (D := (dC, dI)) (ci := 5) (v := .ref (q 32)) (C := RX5) (T := TX5) (N := 11) hx hb hts hi5 hown hK.1 hP 8 rfl rfl 2 (by decide) hf18 (fun _ h9 => h9) rfl dX5_begin_32 ?_
    refine lv_aload_n hx hb dX5_begin_35 rfl (lv_at hl 0 rfl) ?_
    refine va_get (D := (dC, dI)) (ci := 5) (v := .int (st.1 7)) (C := RX5) (T := TX5) (N := 11) hx hb hts hi5 hown hK.1 hP 8 rfl rfl 9 (by decide) hf41 (fun _ h9 => h9) rfl dX5_begin_36 ?_
    refine lv_iload_n hx hb dX5_begin_39 rfl (lv_at hl 3 rfl) ?_
    refine va_iast hx hb hK.1 hP (dC_of hq) hS 32 22 (f := st.2.1 22) (n := 100) (cA := k 22) rfl rfl (i := st.1 7) (x := a3) (ob_X5_begin_40_4 st a1 a2 a3 hok h6_1) dX5_begin_40 (fun H locs hP _ hS => ?_)
    have hP : va_P (dC, dI) vwCl (wC q k (sA (sA (sA st 20 ((st.1 7).toNatClampNeg) a1) 21 ((st.1 7).toNatClampNeg) a2) 22 ((st.1 7).toNatClampNeg) a3)) H := hP
    refine lv_aload_n hx hb dX5_begin_41 rfl (lv_at hl 0 rfl) ?_
    refine va_get (D := (dC, dI)) (ci := 5) (v := .ref (q 36)) (C := RX5) (T := TX5) (N := 11) hx hb hts hi5 hown hK.1 hP 8 rfl rfl 7 (by decide) hf34 (fun _ h9 => h9) rfl dX5_begin_42 ?_
    refine lv_aload_n hx hb dX5_begin_45 rfl (lv_at hl 0 rfl) ?_
    refine va_get (D := (dC, dI)) (ci := 5) (v := .int (st.1 7)) (C := RX5) (T := TX5) (N := 11) hx hb hts hi5 hown hK.1 hP 8 rfl rfl 9 (by decide) hf41 (fun _ h9 => h9) rfl dX5_begin_46 ?_
    refine lv_iconst (v := 1) hx hb dX5_begin_49 (by decide) ?_
    refine va_zast hx hb hK.1 hP (dC_of hq) hS 36 26 (f := st.2.1 26) (n := 100) (cA := k 26) rfl rfl (i := st.1 7) (x := 1) (ob_X5_begin_50_5 st a1 a2 a3 hok h6_1) dX5_begin_50 (fun H locs hP _ hS => ?_)
    have hP : va_P (dC, dI) vwCl (wC q k (sA (sA (sA (sA st 20 ((st.1 7).toNatClampNeg) a1) 21 ((st.1 7).toNatClampNeg) a2) 22 ((st.1 7).toNatClampNeg) a3) 26 ((st.1 7).toNatClampNeg) 1)) H := hP
    refine lv_aload_n hx hb dX5_begin_51 rfl (lv_at hl 0 rfl) ?_
    refine lv_dup hx hb dX5_begin_52 rfl ?_
    refine va_get (D := (dC, dI)) (ci := 5) (v := .int (st.1 10)) (C := RX5) (T := TX5) (N := 11) hx hb hts hi5 hown hK.1 hP 8 rfl rfl 10 (by decide) hf45 (fun _ h9 => h9) rfl dX5_begin_53 ?_
    refine lv_iconst (v := 1) hx hb dX5_begin_56 (by decide) ?_
    refine lv_iadd hx hb dX5_begin_57 ?_
    refine va_put (D := (dC, dI)) (ci := 5) (v := .int ((st.1 10) + 1)) (ty := .int) (C := RX5) (T := TX5) (N := 11) hx hb hts hi5 tyX5 tyX5_ok nmX5 hown hK.1 hP (dC_of hq) hS 8 rfl rfl 10 (by decide) hf45 (fun _ h9 => h9) rfl (by decide +kernel) rfl rfl (Nat.le_of_ble_eq_true rfl) dX5_begin_58 (fun H locs hP _ hS => ?_)
    have hP : va_P (dC, dI) vwCl (wC q k (sI (sA (sA (sA (sA st 20 ((st.1 7).toNatClampNeg) a1) 21 ((st.1 7).toNatClampNeg) a2) 22 ((st.1 7).toNatClampNeg) a3) 26 ((st.1 7).toNatClampNeg) 1) 10 ((st.1 10) + 1))) H := hP
    refine lv_aload_n hx hb dX5_begin_61 rfl (lv_at hl 0 rfl) ?_
    refine lv_dup hx hb dX5_begin_62 rfl ?_
    refine va_get (D := (dC, dI)) (ci := 5) (v := .int (st.1 7)) (C := RX5) (T := TX5) (N := 11) hx hb hts hi5 hown hK.1 hP 8 rfl rfl 9 (by decide) hf41 (fun _ h9 => h9) rfl dX5_begin_63 ?_
    refine lv_iconst (v := 1) hx hb dX5_begin_66 (by decide) ?_
    refine lv_iadd hx hb dX5_begin_67 ?_
    refine va_put (D := (dC, dI)) (ci := 5) (v := .int ((st.1 7) + 1)) (ty := .int) (C := RX5) (T := TX5) (N := 11) hx hb hts hi5 tyX5 tyX5_ok nmX5 hown hK.1 hP (dC_of hq) hS 8 rfl rfl 9 (by decide) hf41 (fun _ h9 => h9) rfl (by decide +kernel) rfl rfl (Nat.le_of_ble_eq_true rfl) dX5_begin_68 (fun H locs hP _ hS => ?_)
    have hP : va_P (dC, dI) vwCl (wC q k (sI (sI (sA (sA (sA (sA st 20 ((st.1 7).toNatClampNeg) a1) 21 ((st.1 7).toNatClampNeg) a2) 22 ((st.1 7).toNatClampNeg) a3) 26 ((st.1 7).toNatClampNeg) 1) 10 ((st.1 10) + 1)) 7 ((st.1 7) + 1))) H := hP
    refine lv_aload_n hx hb dX5_begin_71 rfl (lv_at hl 0 rfl) ?_
    refine va_get (D := (dC, dI)) (ci := 5) (v := .int ((st.1 7) + 1)) (C := RX5) (T := TX5) (N := 11) hx hb hts hi5 hown hK.1 hP 8 rfl rfl 9 (by decide) hf41 (fun _ h9 => h9) rfl dX5_begin_72 ?_
    refine lv_iconst (v := 1) hx hb dX5_begin_75 (by decide) ?_
    refine lv_isub hx hb dX5_begin_76 ?_
    exact W.iret (v := ((st.1 7) + 1) - 1) hx hb hr (fun t ht hW => ⟨⟨_, (), rfl, by show _ = Prod.fst _; rw [← he], by show va_P _ _ _ t.heap; rw [ht, ← he]; exact hP⟩, hS.F ht⟩) hS.2.2 dX5_begin_77
  · have he := (if_neg h6_1).symm.trans he
    refine lv_iconst (v := (-1)) hx hb dX5_begin_9 (by decide) ?_
    exact W.iret (v := (-1)) hx hb hr (fun t ht hW => ⟨⟨_, (), rfl, by show _ = Prod.fst _; rw [← he], by show va_P _ _ _ t.heap; rw [ht, ← he]; exact hP⟩, hS.F ht⟩) hS.2.2 dX5_begin_10
set_option maxHeartbeats 4000000 in
set_option maxRecDepth 100000 in
theorem c_X5_keep (l : Launch) (dC : Nat → ClassId) (dI : Nat → Nat → Nat) (q : Nat → Nat) (k : Nat → ClassId) (st : St) (a1 : Int32) (hq : ∀ i j, i < 43 → j < 43 → q i = q j → i = j) (hok : okC st) (res : St) (hres : sp_X5_keep st a1 = res) : Met l yX5_keep wsX5_keep ({ frames := 1, cells := 0, slots := 0, locals := 21 } : Room) (va_Pc [.ref (q 8), .int a1] (fun U => va_P (dC, dI) vwCl (wC q k st) U.heap ∧ KC (dC, dI) k U)) (va_Qv (fun (_ : Unit) => True) (fun _ t => va_P (dC, dI) vwCl (wC q k res) t.heap) (aC q)) 0 0 (aC q) := by
  refine Met.ofW (cc := cX5_keep) (maxL := 2) (ret := none) (by decide) rfl ?_
  intro p e s m args below meth c s₁ B hml hv
  obtain ⟨rfl, hP, hK⟩ := hv
  have hx := B.exec
  have hb := B.bytes
  have hr := B.returns
  have hts := atoms_spec (ws := wsX5_keep) B.pre
  have hown : s.vm.findClass RX5 = some m.cls := findClass_of_methodNamed B.named
  have hlocks := B.notSynchronized
  have hS : va_S (aC q) s.heap s.heap [] := va_S.rf
  have hi5 : ∀ w ∈ wsX50, w ∈ wsX5_keep := by decide +kernel
  have hf38 := hts (.fieldLink RX5 38 "ConsentRegister$Items" "kept" "[Z") (by decide +kernel)
  have hl := lv_entry ([.ref (q 8), .int a1]) (n := 2) (Nat.le_of_ble_eq_true rfl)
  rw [lg_entry_eq]
  generalize (lg_sl ([.ref (q 8), .int a1]) ++ List.replicate (2 - (lg_sl ([.ref (q 8), .int a1])).length) Slot.unset).toArray = ls at hl ⊢
  have hl : lv_has ls 2 [(0, .ref (q 8)), (1, .int a1)] := hl
  have he := hres
  unfold sp_X5_keep at he
  refine lv_aload_n hx hb dX5_keep_0 rfl (lv_at hl 0 rfl) ?_
  refine lv_iload_n hx hb dX5_keep_1 rfl (lv_at hl 1 rfl) ?_
  refine vp_callSi (va_Run.run (va_runV (As := [.int a1]) (rest := []) ⟨hx, hb, hml, hown, hts⟩ (c_X5_has l dC dI q k st a1 _ rfl) (cwV 1 hts gX5_keep_X5_has rfl rfl rfl (by decide +kernel) ⟨Nat.le_of_ble_eq_true rfl, Nat.le_of_ble_eq_true rfl⟩) ⟨fb_C, va_recv hK.1 hP (ci := 5) (q0 := 8) rfl rfl, fun U hU hW => ⟨rfl, by rw [hU]; exact hP, hK.warm hW⟩⟩ rfl rfl hl.1 rfl (lv_room (Nat.le_of_ble_eq_true rfl)) dX5_keep_2 ⟨Nat.le_of_ble_eq_true rfl, Nat.le_of_ble_eq_true rfl⟩)) (fun r9 e9 => ?_)
  subst e9
  refine lv_if_eq (tgt := 15) hx hb dX5_keep_5 (by decide) (fun h5_1 => ?_) (fun h5_1 => ?_)
  · have he := (if_pos h5_1).symm.trans he
    exact W.vret hx hb hr (fun t ht hW => ⟨⟨(), rfl, trivial, by show va_P _ _ _ t.heap; rw [ht, ← he]; exact hP⟩, hS.F ht⟩) hS.2.2 dX5_keep_15
  · have he := (if_neg h5_1).symm.trans he
    refine lv_aload_n hx hb dX5_keep_8 rfl (lv_at hl 0 rfl) ?_
    refine va_get (D := (dC, dI)) (ci := 5) (v := .ref (q 37)) (C := RX5) (T := TX5) (N := 11) hx hb hts hi5 hown hK.1 hP 8 rfl rfl 8 (by decide) hf38 (fun _ h9 => h9) rfl dX5_keep_9 ?_
    refine lv_iload_n hx hb dX5_keep_12 rfl (lv_at hl 1 rfl) ?_
    refine lv_iconst (v := 1) hx hb dX5_keep_13 (by decide) ?_
    refine va_zast hx hb hK.1 hP (dC_of hq) hS 37 27 (f := st.2.1 27) (n := 100) (cA := k 27) rfl rfl (i := a1) (x := 1) (ob_X5_keep_14_2 st a1 hok h5_1) dX5_keep_14 (fun H locs hP _ hS => ?_)
    have hP : va_P (dC, dI) vwCl (wC q k (sA st 27 a1.toNatClampNeg 1)) H := hP
    exact W.vret hx hb hr (fun t ht hW => ⟨⟨(), rfl, trivial, by show va_P _ _ _ t.heap; rw [ht, ← he]; exact hP⟩, hS.F ht⟩) hS.2.2 dX5_keep_15
set_option maxHeartbeats 4000000 in
set_option maxRecDepth 100000 in
theorem c_X5_end (l : Launch) (dC : Nat → ClassId) (dI : Nat → Nat → Nat) (q : Nat → Nat) (k : Nat → ClassId) (st : St) (a1 : Int32) (hq : ∀ i j, i < 43 → j < 43 → q i = q j → i = j) (hok : okC st) (res : St) (hres : sp_X5_end st a1 = res) : Met l yX5_end wsX5_end ({ frames := 2, cells := 0, slots := 0, locals := 42 } : Room) (va_Pc [.ref (q 8), .int a1] (fun U => va_P (dC, dI) vwCl (wC q k st) U.heap ∧ KC (dC, dI) k U)) (va_Qv (fun (_ : Unit) => True) (fun _ t => va_P (dC, dI) vwCl (wC q k res) t.heap) (aC q)) 0 0 (aC q) := by
  refine Met.ofW (cc := cX5_end) (maxL := 2) (ret := none) (by decide) rfl ?_
  intro p e s m args below meth c s₁ B hml hv
  obtain ⟨rfl, hP, hK⟩ := hv
  have hx := B.exec
  have hb := B.bytes
  have hr := B.returns
  have hts := atoms_spec (ws := wsX5_end) B.pre
  have hown : s.vm.findClass RX5 = some m.cls := findClass_of_methodNamed B.named
  have hlocks := B.notSynchronized
  have hS : va_S (aC q) s.heap s.heap [] := va_S.rf
  have hi5 : ∀ w ∈ wsX50, w ∈ wsX5_end := by decide +kernel
  have hf30 := hts (.fieldLink RX5 30 "ConsentRegister$Items" "values" "[J") (by decide +kernel)
  have hf34 := hts (.fieldLink RX5 34 "ConsentRegister$Items" "alive" "[Z") (by decide +kernel)
  have hf45 := hts (.fieldLink RX5 45 "ConsentRegister$Items" "livingCount" "I") (by decide +kernel)
  have hl := lv_entry ([.ref (q 8), .int a1]) (n := 2) (Nat.le_of_ble_eq_true rfl)
  rw [lg_entry_eq]
  generalize (lg_sl ([.ref (q 8), .int a1]) ++ List.replicate (2 - (lg_sl ([.ref (q 8), .int a1])).length) Slot.unset).toArray = ls at hl ⊢
  have hl : lv_has ls 2 [(0, .ref (q 8)), (1, .int a1)] := hl
  have he := hres
  unfold sp_X5_end at he
  refine lv_aload_n hx hb dX5_end_0 rfl (lv_at hl 0 rfl) ?_
  refine lv_iload_n hx hb dX5_end_1 rfl (lv_at hl 1 rfl) ?_
  refine vp_callSi (va_Run.run (va_runV (As := [.int a1]) (rest := []) ⟨hx, hb, hml, hown, hts⟩ (c_X5_lives l dC dI q k st a1 hok _ rfl) (cwV 1 hts gX5_end_X5_lives rfl rfl rfl (by decide +kernel) ⟨Nat.le_of_ble_eq_true rfl, Nat.le_of_ble_eq_true rfl⟩) ⟨fb_C, va_recv hK.1 hP (ci := 5) (q0 := 8) rfl rfl, fun U hU hW => ⟨rfl, by rw [hU]; exact hP, hK.warm hW⟩⟩ rfl rfl hl.1 rfl (lv_room (Nat.le_of_ble_eq_true rfl)) dX5_end_2 ⟨Nat.le_of_ble_eq_true rfl, Nat.le_of_ble_eq_true rfl⟩)) (fun r9 e9 => ?_)
  subst e9
  refine lv_if_eq (tgt := 32) hx hb dX5_end_5 (by decide) (fun h5_1 => ?_) (fun h5_1 => ?_)
  · have he := (if_pos h5_1).symm.trans he
    exact W.vret hx hb hr (fun t ht hW => ⟨⟨(), rfl, trivial, by show va_P _ _ _ t.heap; rw [ht, ← he]; exact hP⟩, hS.F ht⟩) hS.2.2 dX5_end_32
  · have he := (if_neg h5_1).symm.trans he
    refine lv_aload_n hx hb dX5_end_8 rfl (lv_at hl 0 rfl) ?_
    refine va_get (D := (dC, dI)) (ci := 5) (v := .ref (q 36)) (C := RX5) (T := TX5) (N := 11) hx hb hts hi5 hown hK.1 hP 8 rfl rfl 7 (by decide) hf34 (fun _ h9 => h9) rfl dX5_end_9 ?_
    refine lv_iload_n hx hb dX5_end_12 rfl (lv_at hl 1 rfl) ?_
    refine lv_iconst (v := 0) hx hb dX5_end_13 (by decide) ?_
    refine va_zast hx hb hK.1 hP (dC_of hq) hS 36 26 (f := st.2.1 26) (n := 100) (cA := k 26) rfl rfl (i := a1) (x := 0) (ob_X5_end_14_2 st a1 hok h5_1) dX5_end_14 (fun H locs hP _ hS => ?_)
    have hP : va_P (dC, dI) vwCl (wC q k (sA st 26 a1.toNatClampNeg 0)) H := hP
    refine lv_aload_n hx hb dX5_end_15 rfl (lv_at hl 0 rfl) ?_
    refine va_get (D := (dC, dI)) (ci := 5) (v := .ref (q 38)) (C := RX5) (T := TX5) (N := 11) hx hb hts hi5 hown hK.1 hP 8 rfl rfl 6 (by decide) hf30 (fun _ h9 => h9) rfl dX5_end_16 ?_
    refine lv_iload_n hx hb dX5_end_19 rfl (lv_at hl 1 rfl) ?_
    refine lv_lconst (v := 0) hx hb dX5_end_20 (by decide) ?_
    refine va_last hx hb hK.1 hP (dC_of hq) hS 38 28 (f := st.2.2) (n := 100) (cA := k 28) rfl rfl (i := a1) (x := 0) (ob_X5_end_21_3 st a1 hok h5_1) dX5_end_21 (fun H locs hP _ hS => ?_)
    have hP : va_P (dC, dI) vwCl (wC q k (sL (sA st 26 a1.toNatClampNeg 0) a1.toNatClampNeg 0)) H := hP
    refine lv_aload_n hx hb dX5_end_22 rfl (lv_at hl 0 rfl) ?_
    refine lv_dup hx hb dX5_end_23 rfl ?_
    refine va_get (D := (dC, dI)) (ci := 5) (v := .int (st.1 10)) (C := RX5) (T := TX5) (N := 11) hx hb hts hi5 hown hK.1 hP 8 rfl rfl 10 (by decide) hf45 (fun _ h9 => h9) rfl dX5_end_24 ?_
    refine lv_iconst (v := 1) hx hb dX5_end_27 (by decide) ?_
    refine lv_isub hx hb dX5_end_28 ?_
    refine va_put (D := (dC, dI)) (ci := 5) (v := .int ((st.1 10) - 1)) (ty := .int) (C := RX5) (T := TX5) (N := 11) hx hb hts hi5 tyX5 tyX5_ok nmX5 hown hK.1 hP (dC_of hq) hS 8 rfl rfl 10 (by decide) hf45 (fun _ h9 => h9) rfl (by decide +kernel) rfl rfl (Nat.le_of_ble_eq_true rfl) dX5_end_29 (fun H locs hP _ hS => ?_)
    have hP : va_P (dC, dI) vwCl (wC q k (sI (sL (sA st 26 a1.toNatClampNeg 0) a1.toNatClampNeg 0) 10 ((st.1 10) - 1))) H := hP
    exact W.vret hx hb hr (fun t ht hW => ⟨⟨(), rfl, trivial, by show va_P _ _ _ t.heap; rw [ht, ← he]; exact hP⟩, hS.F ht⟩) hS.2.2 dX5_end_32
set_option maxHeartbeats 4000000 in
set_option maxRecDepth 100000 in
theorem c_X5_endUnlessKept (l : Launch) (dC : Nat → ClassId) (dI : Nat → Nat → Nat) (q : Nat → Nat) (k : Nat → ClassId) (st : St) (a1 : Int32) (hq : ∀ i j, i < 43 → j < 43 → q i = q j → i = j) (hok : okC st) (res : St) (hres : sp_X5_endUnlessKept st a1 = res) : Met l yX5_endUnlessKept wsX5_endUnlessKept ({ frames := 3, cells := 0, slots := 0, locals := 63 } : Room) (va_Pc [.ref (q 8), .int a1] (fun U => va_P (dC, dI) vwCl (wC q k st) U.heap ∧ KC (dC, dI) k U)) (va_Qv (fun (_ : Unit) => True) (fun _ t => va_P (dC, dI) vwCl (wC q k res) t.heap) (aC q)) 0 0 (aC q) := by
  refine Met.ofW (cc := cX5_endUnlessKept) (maxL := 2) (ret := none) (by decide) rfl ?_
  intro p e s m args below meth c s₁ B hml hv
  obtain ⟨rfl, hP, hK⟩ := hv
  have hx := B.exec
  have hb := B.bytes
  have hr := B.returns
  have hts := atoms_spec (ws := wsX5_endUnlessKept) B.pre
  have hown : s.vm.findClass RX5 = some m.cls := findClass_of_methodNamed B.named
  have hlocks := B.notSynchronized
  have hS : va_S (aC q) s.heap s.heap [] := va_S.rf
  have hl := lv_entry ([.ref (q 8), .int a1]) (n := 2) (Nat.le_of_ble_eq_true rfl)
  rw [lg_entry_eq]
  generalize (lg_sl ([.ref (q 8), .int a1]) ++ List.replicate (2 - (lg_sl ([.ref (q 8), .int a1])).length) Slot.unset).toArray = ls at hl ⊢
  have hl : lv_has ls 2 [(0, .ref (q 8)), (1, .int a1)] := hl
  have he := hres
  unfold sp_X5_endUnlessKept at he
  refine lv_aload_n hx hb dX5_endUnlessKept_0 rfl (lv_at hl 0 rfl) ?_
  refine lv_iload_n hx hb dX5_endUnlessKept_1 rfl (lv_at hl 1 rfl) ?_
  refine vp_callSi (va_Run.run (va_runV (As := [.int a1]) (rest := []) ⟨hx, hb, hml, hown, hts⟩ (c_X5_isKept l dC dI q k st a1 hok _ rfl) (cwV 1 hts gX5_endUnlessKept_X5_isKept rfl rfl rfl (by decide +kernel) ⟨Nat.le_of_ble_eq_true rfl, Nat.le_of_ble_eq_true rfl⟩) ⟨fb_C, va_recv hK.1 hP (ci := 5) (q0 := 8) rfl rfl, fun U hU hW => ⟨rfl, by rw [hU]; exact hP, hK.warm hW⟩⟩ rfl rfl hl.1 rfl (lv_room (Nat.le_of_ble_eq_true rfl)) dX5_endUnlessKept_2 ⟨Nat.le_of_ble_eq_true rfl, Nat.le_of_ble_eq_true rfl⟩)) (fun r9 e9 => ?_)
  subst e9
  refine lv_if_ne (tgt := 13) hx hb dX5_endUnlessKept_5 (by decide) (fun h5_1 => ?_) (fun h5_1 => ?_)
  · have he := (if_neg h5_1).symm.trans he
    exact W.vret hx hb hr (fun t ht hW => ⟨⟨(), rfl, trivial, by show va_P _ _ _ t.heap; rw [ht, ← he]; exact hP⟩, hS.F ht⟩) hS.2.2 dX5_endUnlessKept_13
  · have he := (if_pos h5_1).symm.trans he
    refine lv_aload_n hx hb dX5_endUnlessKept_8 rfl (lv_at hl 0 rfl) ?_
    refine lv_iload_n hx hb dX5_endUnlessKept_9 rfl (lv_at hl 1 rfl) ?_
    refine va_callv (va_runV (As := [.int a1]) (rest := []) ⟨hx, hb, hml, hown, hts⟩ (c_X5_end l dC dI q k st a1 hq hok _ rfl) (cwV 1 hts gX5_endUnlessKept_X5_end rfl rfl rfl (by decide +kernel) ⟨Nat.le_of_ble_eq_true rfl, Nat.le_of_ble_eq_true rfl⟩) ⟨fb_C, va_recv hK.1 hP (ci := 5) (q0 := 8) rfl rfl, fun U hU hW => ⟨rfl, by rw [hU]; exact hP, hK.warm hW⟩⟩ rfl rfl hl.1 rfl (lv_room (Nat.le_of_ble_eq_true rfl)) dX5_endUnlessKept_10 ⟨Nat.le_of_ble_eq_true rfl, Nat.le_of_ble_eq_true rfl⟩) hS (fun _ _ h => h) (fun _ h => h) (fun u9 t9 H locs ht9 hv9 e9 hB9 hz9 hk9 hS => ?_)
    rw [ht9] at hB9
    have hP : va_P (dC, dI) vwCl (wC q k (sp_X5_end st a1)) H := hB9
    exact W.vret hx hb hr (fun t ht hW => ⟨⟨(), rfl, trivial, by show va_P _ _ _ t.heap; rw [ht, ← he]; exact hP⟩, hS.F ht⟩) hS.2.2 dX5_endUnlessKept_13
set_option maxHeartbeats 4000000 in
set_option maxRecDepth 100000 in
theorem c_X5_keepWithInputs (l : Launch) (dC : Nat → ClassId) (dI : Nat → Nat → Nat) (q : Nat → Nat) (k : Nat → ClassId) (st : St) (a1 : Int32) (hq : ∀ i j, i < 43 → j < 43 → q i = q j → i = j) (hok : okC st) (res : St) (hres : sp_X5_keepWithInputs st a1 = res) : Met l yX5_keepWithInputs wsX5_keepWithInputs ({ frames := 2, cells := 0, slots := 0, locals := 42 } : Room) (va_Pc [.ref (q 8), .int a1] (fun U => va_P (dC, dI) vwCl (wC q k st) U.heap ∧ KC (dC, dI) k U)) (va_Qv (fun (_ : Unit) => True) (fun _ t => va_P (dC, dI) vwCl (wC q k res) t.heap) (aC q)) 0 0 (aC q) := by
  refine Met.ofW (cc := cX5_keepWithInputs) (maxL := 2) (ret := none) (by decide) rfl ?_
  intro p e s m args below meth c s₁ B hml hv
  obtain ⟨rfl, hP, hK⟩ := hv
  have hx := B.exec
  have hb := B.bytes
  have hr := B.returns
  have hts := atoms_spec (ws := wsX5_keepWithInputs) B.pre
  have hown : s.vm.findClass RX5 = some m.cls := findClass_of_methodNamed B.named
  have hlocks := B.notSynchronized
  have hS : va_S (aC q) s.heap s.heap [] := va_S.rf
  have hi5 : ∀ w ∈ wsX50, w ∈ wsX5_keepWithInputs := by decide +kernel
  have hf21 := hts (.fieldLink RX5 21 "ConsentRegister$Items" "ways" "[I") (by decide +kernel)
  have hf24 := hts (.fieldLink RX5 24 "ConsentRegister$Items" "firsts" "[I") (by decide +kernel)
  have hf27 := hts (.fieldLink RX5 27 "ConsentRegister$Items" "seconds" "[I") (by decide +kernel)
  have hl := lv_entry ([.ref (q 8), .int a1]) (n := 2) (Nat.le_of_ble_eq_true rfl)
  rw [lg_entry_eq]
  generalize (lg_sl ([.ref (q 8), .int a1]) ++ List.replicate (2 - (lg_sl ([.ref (q 8), .int a1])).length) Slot.unset).toArray = ls at hl ⊢
  have hl : lv_has ls 2 [(0, .ref (q 8)), (1, .int a1)] := hl
  have he := hres
  unfold sp_X5_keepWithInputs at he
  refine lv_aload_n hx hb dX5_keepWithInputs_0 rfl (lv_at hl 0 rfl) ?_
  refine lv_iload_n hx hb dX5_keepWithInputs_1 rfl (lv_at hl 1 rfl) ?_
  refine va_callv (va_runV (As := [.int a1]) (rest := []) ⟨hx, hb, hml, hown, hts⟩ (c_X5_keep l dC dI q k st a1 hq hok _ rfl) (cwV 1 hts gX5_keepWithInputs_X5_keep rfl rfl rfl (by decide +kernel) ⟨Nat.le_of_ble_eq_true rfl, Nat.le_of_ble_eq_true rfl⟩) ⟨fb_C, va_recv hK.1 hP (ci := 5) (q0 := 8) rfl rfl, fun U hU hW => ⟨rfl, by rw [hU]; exact hP, hK.warm hW⟩⟩ rfl rfl hl.1 rfl (lv_room (Nat.le_of_ble_eq_true rfl)) dX5_keepWithInputs_2 ⟨Nat.le_of_ble_eq_true rfl, Nat.le_of_ble_eq_true rfl⟩) hS (fun _ _ h => h) (fun _ h => h) (fun u9 t9 H locs ht9 hv9 e9 hB9 hz9 hk9 hS => ?_)
  rw [ht9] at hB9
  have hP : va_P (dC, dI) vwCl (wC q k (sp_X5_keep st a1)) H := hB9
  refine lv_aload_n hx hb dX5_keepWithInputs_5 rfl (lv_at hl 0 rfl) ?_
  refine lv_iload_n hx hb dX5_keepWithInputs_6 rfl (lv_at hl 1 rfl) ?_
  refine vp_callSi (va_Run.run (va_runV (As := [.int a1]) (rest := []) ⟨hx, hb, hml, hown, hts⟩ (c_X5_has l dC dI q k (sp_X5_keep st a1) a1 _ rfl) (cwV 1 hts gX5_keepWithInputs_X5_has rfl rfl rfl (by decide +kernel) ⟨Nat.le_of_ble_eq_true rfl, Nat.le_of_ble_eq_true rfl⟩) ⟨fb_C, va_recv hK.1 hP (ci := 5) (q0 := 8) rfl rfl, fun U hU hW => ⟨rfl, by rw [hU]; exact hP, hK.warm hW⟩⟩ rfl rfl hl.1 rfl (lv_room (Nat.le_of_ble_eq_true rfl)) dX5_keepWithInputs_7 ⟨Nat.le_of_ble_eq_true rfl, Nat.le_of_ble_eq_true rfl⟩)) (fun r9 e9 => ?_)
  subst e9
  refine lv_if_eq (tgt := 43) hx hb dX5_keepWithInputs_10 (by decide) (fun h10_1 => ?_) (fun h10_1 => ?_)
  · have he := (if_pos h10_1).symm.trans he
    exact W.vret hx hb hr (fun t ht hW => ⟨⟨(), rfl, trivial, by show va_P _ _ _ t.heap; rw [ht, ← he]; exact hP⟩, hS.F ht⟩) hS.2.2 dX5_keepWithInputs_43
  · have he := (if_neg h10_1).symm.trans he
    refine lv_aload_n hx hb dX5_keepWithInputs_13 rfl (lv_at hl 0 rfl) ?_
    refine va_get (D := (dC, dI)) (ci := 5) (v := .ref (q 33)) (C := RX5) (T := TX5) (N := 11) hx hb hts hi5 hown hK.1 hP 8 rfl rfl 3 (by decide) hf21 (fun _ h9 => h9) rfl dX5_keepWithInputs_14 ?_
    refine lv_iload_n hx hb dX5_keepWithInputs_17 rfl (lv_at hl 1 rfl) ?_
    refine va_iald hx hb hK.1 hP 33 23 (f := (sp_X5_keep st a1).2.1 23) (n := 100) (cA := k 23) rfl rfl (i := a1) (ob_X5_keepWithInputs_18_2 st a1 hok h10_1) dX5_keepWithInputs_18 ?_
    refine lv_iconst (v := (-1)) hx hb dX5_keepWithInputs_19 (by decide) ?_
    refine lv_icmp_eq (tgt := 43) hx hb dX5_keepWithInputs_20 (by decide) (fun h20_3 => ?_) (fun h20_3 => ?_)
    · have he := (if_pos h20_3).symm.trans he
      exact W.vret hx hb hr (fun t ht hW => ⟨⟨(), rfl, trivial, by show va_P _ _ _ t.heap; rw [ht, ← he]; exact hP⟩, hS.F ht⟩) hS.2.2 dX5_keepWithInputs_43
    · have he := (if_neg h20_3).symm.trans he
      refine lv_aload_n hx hb dX5_keepWithInputs_23 rfl (lv_at hl 0 rfl) ?_
      refine lv_aload_n hx hb dX5_keepWithInputs_24 rfl (lv_at hl 0 rfl) ?_
      refine va_get (D := (dC, dI)) (ci := 5) (v := .ref (q 34)) (C := RX5) (T := TX5) (N := 11) hx hb hts hi5 hown hK.1 hP 8 rfl rfl 4 (by decide) hf24 (fun _ h9 => h9) rfl dX5_keepWithInputs_25 ?_
      refine lv_iload_n hx hb dX5_keepWithInputs_28 rfl (lv_at hl 1 rfl) ?_
      refine va_iald hx hb hK.1 hP 34 24 (f := (sp_X5_keep st a1).2.1 24) (n := 100) (cA := k 24) rfl rfl (i := a1) (ob_X5_keepWithInputs_29_4 st a1 hok h10_1 h20_3) dX5_keepWithInputs_29 ?_
      refine va_callv (va_runV (As := [.int ((sp_X5_keep st a1).2.1 24 a1.toNatClampNeg)]) (rest := []) ⟨hx, hb, hml, hown, hts⟩ (c_X5_keep l dC dI q k (sp_X5_keep st a1) ((sp_X5_keep st a1).2.1 24 a1.toNatClampNeg) hq (ob_X5_keepWithInputs_30_5 st a1 hok h10_1 h20_3) _ rfl) (cwV 1 hts gX5_keepWithInputs_X5_keep rfl rfl rfl (by decide +kernel) ⟨Nat.le_of_ble_eq_true rfl, Nat.le_of_ble_eq_true rfl⟩) ⟨fb_C, va_recv hK.1 hP (ci := 5) (q0 := 8) rfl rfl, fun U hU hW => ⟨rfl, by rw [hU]; exact hP, hK.warm hW⟩⟩ rfl rfl hl.1 rfl (lv_room (Nat.le_of_ble_eq_true rfl)) dX5_keepWithInputs_30 ⟨Nat.le_of_ble_eq_true rfl, Nat.le_of_ble_eq_true rfl⟩) hS (fun _ _ h => h) (fun _ h => h) (fun u9 t9 H locs ht9 hv9 e9 hB9 hz9 hk9 hS => ?_)
      rw [ht9] at hB9
      have hP : va_P (dC, dI) vwCl (wC q k (sp_X5_keep (sp_X5_keep st a1) ((sp_X5_keep st a1).2.1 24 a1.toNatClampNeg))) H := hB9
      refine lv_aload_n hx hb dX5_keepWithInputs_33 rfl (lv_at hl 0 rfl) ?_
      refine lv_aload_n hx hb dX5_keepWithInputs_34 rfl (lv_at hl 0 rfl) ?_
      refine va_get (D := (dC, dI)) (ci := 5) (v := .ref (q 35)) (C := RX5) (T := TX5) (N := 11) hx hb hts hi5 hown hK.1 hP 8 rfl rfl 5 (by decide) hf27 (fun _ h9 => h9) rfl dX5_keepWithInputs_35 ?_
      refine lv_iload_n hx hb dX5_keepWithInputs_38 rfl (lv_at hl 1 rfl) ?_
      refine va_iald hx hb hK.1 hP 35 25 (f := (sp_X5_keep (sp_X5_keep st a1) ((sp_X5_keep st a1).2.1 24 a1.toNatClampNeg)).2.1 25) (n := 100) (cA := k 25) rfl rfl (i := a1) (ob_X5_keepWithInputs_39_6 st a1 hok h10_1 h20_3) dX5_keepWithInputs_39 ?_
      refine va_callv (va_runV (As := [.int ((sp_X5_keep (sp_X5_keep st a1) ((sp_X5_keep st a1).2.1 24 a1.toNatClampNeg)).2.1 25 a1.toNatClampNeg)]) (rest := []) ⟨hx, hb, hml, hown, hts⟩ (c_X5_keep l dC dI q k (sp_X5_keep (sp_X5_keep st a1) ((sp_X5_keep st a1).2.1 24 a1.toNatClampNeg)) ((sp_X5_keep (sp_X5_keep st a1) ((sp_X5_keep st a1).2.1 24 a1.toNatClampNeg)).2.1 25 a1.toNatClampNeg) hq (ob_X5_keepWithInputs_40_7 st a1 hok h10_1 h20_3) _ rfl) (cwV 1 hts gX5_keepWithInputs_X5_keep rfl rfl rfl (by decide +kernel) ⟨Nat.le_of_ble_eq_true rfl, Nat.le_of_ble_eq_true rfl⟩) ⟨fb_C, va_recv hK.1 hP (ci := 5) (q0 := 8) rfl rfl, fun U hU hW => ⟨rfl, by rw [hU]; exact hP, hK.warm hW⟩⟩ rfl rfl hl.1 rfl (lv_room (Nat.le_of_ble_eq_true rfl)) dX5_keepWithInputs_40 ⟨Nat.le_of_ble_eq_true rfl, Nat.le_of_ble_eq_true rfl⟩) hS (fun _ _ h => h) (fun _ h => h) (fun u9 t9 H locs ht9 hv9 e9 hB9 hz9 hk9 hS => ?_)
      rw [ht9] at hB9
      have hP : va_P (dC, dI) vwCl (wC q k (sp_X5_keep (sp_X5_keep (sp_X5_keep st a1) ((sp_X5_keep st a1).2.1 24 a1.toNatClampNeg)) ((sp_X5_keep (sp_X5_keep st a1) ((sp_X5_keep st a1).2.1 24 a1.toNatClampNeg)).2.1 25 a1.toNatClampNeg))) H := hB9
      exact W.vret hx hb hr (fun t ht hW => ⟨⟨(), rfl, trivial, by show va_P _ _ _ t.heap; rw [ht, ← he]; exact hP⟩, hS.F ht⟩) hS.2.2 dX5_keepWithInputs_43
set_option maxHeartbeats 4000000 in
set_option maxRecDepth 100000 in
theorem c_X5_addPut (l : Launch) (dC : Nat → ClassId) (dI : Nat → Nat → Nat) (q : Nat → Nat) (k : Nat → ClassId) (st : St) (a1 : Int32) (a2 : Int32) (a3 : Int32) (a4 : Int32) (hq : ∀ i j, i < 43 → j < 43 → q i = q j → i = j) (hok : okC st) (res : Int32 × St) (hres : sp_X5_addPut st a1 a2 a3 a4 = res) : Met l yX5_addPut wsX5_addPut ({ frames := 1, cells := 0, slots := 0, locals := 23 } : Room) (va_Pc [.ref (q 8), .int a1, .int a2, .int a3, .int a4] (fun U => va_P (dC, dI) vwCl (wC q k st) U.heap ∧ KC (dC, dI) k U)) (va_Qi (fun r (_ : Unit) => r = res.1) (fun _ t => va_P (dC, dI) vwCl (wC q k res.2) t.heap) (aC q)) 0 0 (aC q) := by
  refine Met.ofW (cc := cX5_addPut) (maxL := 6) (ret := (some .int)) (by decide) rfl ?_
  intro p e s m args below meth c s₁ B hml hv
  obtain ⟨rfl, hP, hK⟩ := hv
  have hx := B.exec
  have hb := B.bytes
  have hr := B.returns
  have hts := atoms_spec (ws := wsX5_addPut) B.pre
  have hown : s.vm.findClass RX5 = some m.cls := findClass_of_methodNamed B.named
  have hlocks := B.notSynchronized
  have hS : va_S (aC q) s.heap s.heap [] := va_S.rf
  have hi5 : ∀ w ∈ wsX50, w ∈ wsX5_addPut := by decide +kernel
  have hf21 := hts (.fieldLink RX5 21 "ConsentRegister$Items" "ways" "[I") (by decide +kernel)
  have hf30 := hts (.fieldLink RX5 30 "ConsentRegister$Items" "values" "[J") (by decide +kernel)
  have hl := lv_entry ([.ref (q 8), .int a1, .int a2, .int a3, .int a4]) (n := 6) (Nat.le_of_ble_eq_true rfl)
  rw [lg_entry_eq]
  generalize (lg_sl ([.ref (q 8), .int a1, .int a2, .int a3, .int a4]) ++ List.replicate (6 - (lg_sl ([.ref (q 8), .int a1, .int a2, .int a3, .int a4])).length) Slot.unset).toArray = ls at hl ⊢
  have hl : lv_has ls 6 [(0, .ref (q 8)), (1, .int a1), (2, .int a2), (3, .int a3), (4, .int a4)] := hl
  have he := hres
  unfold sp_X5_addPut at he
  refine lv_aload_n hx hb dX5_addPut_0 rfl (lv_at hl 0 rfl) ?_
  refine lv_iload_n hx hb dX5_addPut_1 rfl (lv_at hl 2 rfl) ?_
  refine lv_iload hx hb dX5_addPut_2 (lv_at hl 4 rfl) ?_
  refine lv_iconst (v := 1) hx hb dX5_addPut_4 (by decide) ?_
  refine lv_iload_n hx hb dX5_addPut_5 rfl (lv_at hl 1 rfl) ?_
  refine lv_ishl hx hb dX5_addPut_6 ?_
  refine va_calli (va_runV (As := [.int a2, .int a4, .int (1 <<< (a1 &&& 31))]) (rest := []) ⟨hx, hb, hml, hown, hts⟩ (c_X5_begin l dC dI q k st a2 a4 (1 <<< (a1 &&& 31)) hq hok _ rfl) (cwV 3 hts gX5_addPut_X5_begin rfl rfl rfl (by decide +kernel) ⟨Nat.le_of_ble_eq_true rfl, Nat.le_of_ble_eq_true rfl⟩) ⟨fb_C, va_recv hK.1 hP (ci := 5) (q0 := 8) rfl rfl, fun U hU hW => ⟨rfl, by rw [hU]; exact hP, hK.warm hW⟩⟩ rfl rfl hl.1 rfl (lv_room (Nat.le_of_ble_eq_true rfl)) dX5_addPut_7 ⟨Nat.le_of_ble_eq_true rfl, Nat.le_of_ble_eq_true rfl⟩) hS (fun _ _ h => h) (fun _ h => h) (fun r9 u9 t9 H locs ht9 hv9 e9 hB9 hz9 hk9 hS => ?_)
  rw [ht9] at hB9
  subst e9
  have hP : va_P (dC, dI) vwCl (wC q k ((sp_X5_begin st a2 a4 (1 <<< (a1 &&& 31))).2)) H := hB9
  refine lv_istore (lv' := [(5, .int ((sp_X5_begin st a2 a4 (1 <<< (a1 &&& 31))).1)), (0, .ref (q 8)), (1, .int a1), (2, .int a2), (3, .int a3), (4, .int a4)]) hx hb dX5_addPut_10 hl (by decide) rfl (fun ls hl => ?_)
  refine lv_aload_n hx hb dX5_addPut_12 rfl (lv_at hl 1 rfl) ?_
  refine lv_iload hx hb dX5_addPut_13 (lv_at hl 0 rfl) ?_
  refine vp_callSi (va_Run.run (va_runV (As := [.int ((sp_X5_begin st a2 a4 (1 <<< (a1 &&& 31))).1)]) (rest := []) ⟨hx, hb, hml, hown, hts⟩ (c_X5_has l dC dI q k ((sp_X5_begin st a2 a4 (1 <<< (a1 &&& 31))).2) ((sp_X5_begin st a2 a4 (1 <<< (a1 &&& 31))).1) _ rfl) (cwV 1 hts gX5_addPut_X5_has rfl rfl rfl (by decide +kernel) ⟨Nat.le_of_ble_eq_true rfl, Nat.le_of_ble_eq_true rfl⟩) ⟨fb_C, va_recv hK.1 hP (ci := 5) (q0 := 8) rfl rfl, fun U hU hW => ⟨rfl, by rw [hU]; exact hP, hK.warm hW⟩⟩ rfl rfl hl.1 rfl (lv_room (Nat.le_of_ble_eq_true rfl)) dX5_addPut_15 ⟨Nat.le_of_ble_eq_true rfl, Nat.le_of_ble_eq_true rfl⟩)) (fun r9 e9 => ?_)
  subst e9
  refine lv_if_eq (tgt := 38) hx hb dX5_addPut_18 (by decide) (fun h18_1 => ?_) (fun h18_1 => ?_)
  · have he := (if_pos h18_1).symm.trans he
    refine lv_iload hx hb dX5_addPut_38 (lv_at hl 0 rfl) ?_
    exact W.iret (v := (sp_X5_begin st a2 a4 (1 <<< (a1 &&& 31))).1) hx hb hr (fun t ht hW => ⟨⟨_, (), rfl, by show _ = Prod.fst _; rw [← he], by show va_P _ _ _ t.heap; rw [ht, ← he]; exact hP⟩, hS.F ht⟩) hS.2.2 dX5_addPut_40
  · have he := (if_neg h18_1).symm.trans he
    refine lv_aload_n hx hb dX5_addPut_21 rfl (lv_at hl 1 rfl) ?_
    refine va_get (D := (dC, dI)) (ci := 5) (v := .ref (q 33)) (C := RX5) (T := TX5) (N := 11) hx hb hts hi5 hown hK.1 hP 8 rfl rfl 3 (by decide) hf21 (fun _ h9 => h9) rfl dX5_addPut_22 ?_
    refine lv_iload hx hb dX5_addPut_25 (lv_at hl 0 rfl) ?_
    refine lv_iconst (v := (-1)) hx hb dX5_addPut_27 (by decide) ?_
    refine va_iast hx hb hK.1 hP (dC_of hq) hS 33 23 (f := ((sp_X5_begin st a2 a4 (1 <<< (a1 &&& 31))).2).2.1 23) (n := 100) (cA := k 23) rfl rfl (i := (sp_X5_begin st a2 a4 (1 <<< (a1 &&& 31))).1) (x := (-1)) (ob_X5_addPut_28_2 st a1 a2 a3 a4 hok h18_1) dX5_addPut_28 (fun H locs hP _ hS => ?_)
    have hP : va_P (dC, dI) vwCl (wC q k (sA ((sp_X5_begin st a2 a4 (1 <<< (a1 &&& 31))).2) 23 (((sp_X5_begin st a2 a4 (1 <<< (a1 &&& 31))).1).toNatClampNeg) (-1))) H := hP
    refine lv_aload_n hx hb dX5_addPut_29 rfl (lv_at hl 1 rfl) ?_
    refine va_get (D := (dC, dI)) (ci := 5) (v := .ref (q 38)) (C := RX5) (T := TX5) (N := 11) hx hb hts hi5 hown hK.1 hP 8 rfl rfl 6 (by decide) hf30 (fun _ h9 => h9) rfl dX5_addPut_30 ?_
    refine lv_iload hx hb dX5_addPut_33 (lv_at hl 0 rfl) ?_
    refine lv_iload_n hx hb dX5_addPut_35 rfl (lv_at hl 4 rfl) ?_
    refine lv_i2l (v := a3.toInt64) hx hb dX5_addPut_36 rfl ?_
    refine va_last hx hb hK.1 hP (dC_of hq) hS 38 28 (f := ((sp_X5_begin st a2 a4 (1 <<< (a1 &&& 31))).2).2.2) (n := 100) (cA := k 28) rfl rfl (i := (sp_X5_begin st a2 a4 (1 <<< (a1 &&& 31))).1) (x := a3.toInt64) (ob_X5_addPut_37_3 st a1 a2 a3 a4 hok h18_1) dX5_addPut_37 (fun H locs hP _ hS => ?_)
    have hP : va_P (dC, dI) vwCl (wC q k (sL (sA ((sp_X5_begin st a2 a4 (1 <<< (a1 &&& 31))).2) 23 (((sp_X5_begin st a2 a4 (1 <<< (a1 &&& 31))).1).toNatClampNeg) (-1)) (((sp_X5_begin st a2 a4 (1 <<< (a1 &&& 31))).1).toNatClampNeg) a3.toInt64)) H := hP
    refine lv_iload hx hb dX5_addPut_38 (lv_at hl 0 rfl) ?_
    exact W.iret (v := (sp_X5_begin st a2 a4 (1 <<< (a1 &&& 31))).1) hx hb hr (fun t ht hW => ⟨⟨_, (), rfl, by show _ = Prod.fst _; rw [← he], by show va_P _ _ _ t.heap; rw [ht, ← he]; exact hP⟩, hS.F ht⟩) hS.2.2 dX5_addPut_40
set_option maxHeartbeats 4000000 in
set_option maxRecDepth 100000 in
theorem c_X5_addDerived (l : Launch) (dC : Nat → ClassId) (dI : Nat → Nat → Nat) (q : Nat → Nat) (k : Nat → ClassId) (st : St) (a1 : Int32) (a2 : Int32) (a3 : Int32) (hq : ∀ i j, i < 43 → j < 43 → q i = q j → i = j) (hok : okC st) (res : Int32 × St) (hres : sp_X5_addDerived st a1 a2 a3 = res) : Met l yX5_addDerived wsX5_addDerived ({ frames := 4, cells := 0, slots := 0, locals := 88 } : Room) (va_Pc [.ref (q 8), .int a1, .int a2, .int a3] (fun U => va_P (dC, dI) vwCl (wC q k st) U.heap ∧ KC (dC, dI) k U)) (va_Qi (fun r (_ : Unit) => r = res.1) (fun _ t => va_P (dC, dI) vwCl (wC q k res.2) t.heap) (aC q)) 0 0 (aC q) := by
  refine Met.ofW (cc := cX5_addDerived) (maxL := 5) (ret := (some .int)) (by decide) rfl ?_
  intro p e s m args below meth c s₁ B hml hv
  obtain ⟨rfl, hP, hK⟩ := hv
  have hx := B.exec
  have hb := B.bytes
  have hr := B.returns
  have hts := atoms_spec (ws := wsX5_addDerived) B.pre
  have hown : s.vm.findClass RX5 = some m.cls := findClass_of_methodNamed B.named
  have hlocks := B.notSynchronized
  have hS : va_S (aC q) s.heap s.heap [] := va_S.rf
  have hi5 : ∀ w ∈ wsX50, w ∈ wsX5_addDerived := by decide +kernel
  have hf21 := hts (.fieldLink RX5 21 "ConsentRegister$Items" "ways" "[I") (by decide +kernel)
  have hf24 := hts (.fieldLink RX5 24 "ConsentRegister$Items" "firsts" "[I") (by decide +kernel)
  have hf27 := hts (.fieldLink RX5 27 "ConsentRegister$Items" "seconds" "[I") (by decide +kernel)
  have hf30 := hts (.fieldLink RX5 30 "ConsentRegister$Items" "values" "[J") (by decide +kernel)
  have hl := lv_entry ([.ref (q 8), .int a1, .int a2, .int a3]) (n := 5) (Nat.le_of_ble_eq_true rfl)
  rw [lg_entry_eq]
  generalize (lg_sl ([.ref (q 8), .int a1, .int a2, .int a3]) ++ List.replicate (5 - (lg_sl ([.ref (q 8), .int a1, .int a2, .int a3])).length) Slot.unset).toArray = ls at hl ⊢
  have hl : lv_has ls 5 [(0, .ref (q 8)), (1, .int a1), (2, .int a2), (3, .int a3)] := hl
  have he := hres
  unfold sp_X5_addDerived at he
  refine lv_aload_n hx hb dX5_addDerived_0 rfl (lv_at hl 0 rfl) ?_
  refine lv_aload_n hx hb dX5_addDerived_1 rfl (lv_at hl 0 rfl) ?_
  refine lv_iload_n hx hb dX5_addDerived_2 rfl (lv_at hl 2 rfl) ?_
  refine vp_callSi (va_Run.run (va_runV (As := [.int a2]) (rest := [.ref (q 8)]) ⟨hx, hb, hml, hown, hts⟩ (c_X5_kindOf l dC dI q k st a2 hok _ rfl) (cwV 1 hts gX5_addDerived_X5_kindOf rfl rfl rfl (by decide +kernel) ⟨Nat.le_of_ble_eq_true rfl, Nat.le_of_ble_eq_true rfl⟩) ⟨fb_C, va_recv hK.1 hP (ci := 5) (q0 := 8) rfl rfl, fun U hU hW => ⟨rfl, by rw [hU]; exact hP, hK.warm hW⟩⟩ rfl rfl hl.1 rfl (lv_room (Nat.le_of_ble_eq_true rfl)) dX5_addDerived_3 ⟨Nat.le_of_ble_eq_true rfl, Nat.le_of_ble_eq_true rfl⟩)) (fun r9 e9 => ?_)
  subst e9
  refine lv_aload_n hx hb dX5_addDerived_6 rfl (lv_at hl 0 rfl) ?_
  refine lv_iload_n hx hb dX5_addDerived_7 rfl (lv_at hl 2 rfl) ?_
  refine vp_callSi (va_Run.run (va_runV (As := [.int a2]) (rest := [.int (sp_X5_kindOf st a2), .ref (q 8)]) ⟨hx, hb, hml, hown, hts⟩ (c_X5_dayOf l dC dI q k st a2 hok _ rfl) (cwV 1 hts gX5_addDerived_X5_dayOf rfl rfl rfl (by decide +kernel) ⟨Nat.le_of_ble_eq_true rfl, Nat.le_of_ble_eq_true rfl⟩) ⟨fb_C, va_recv hK.1 hP (ci := 5) (q0 := 8) rfl rfl, fun U hU hW => ⟨rfl, by rw [hU]; exact hP, hK.warm hW⟩⟩ rfl rfl hl.1 rfl (lv_room (Nat.le_of_ble_eq_true rfl)) dX5_addDerived_8 ⟨Nat.le_of_ble_eq_true rfl, Nat.le_of_ble_eq_true rfl⟩)) (fun r9 e9 => ?_)
  subst e9
  refine lv_aload_n hx hb dX5_addDerived_11 rfl (lv_at hl 0 rfl) ?_
  refine lv_iload_n hx hb dX5_addDerived_12 rfl (lv_at hl 3 rfl) ?_
  refine vp_callSi (va_Run.run (va_runV (As := [.int a3]) (rest := [.int (sp_X5_dayOf st a2), .int (sp_X5_kindOf st a2), .ref (q 8)]) ⟨hx, hb, hml, hown, hts⟩ (c_X5_dayOf l dC dI q k st a3 hok _ rfl) (cwV 1 hts gX5_addDerived_X5_dayOf rfl rfl rfl (by decide +kernel) ⟨Nat.le_of_ble_eq_true rfl, Nat.le_of_ble_eq_true rfl⟩) ⟨fb_C, va_recv hK.1 hP (ci := 5) (q0 := 8) rfl rfl, fun U hU hW => ⟨rfl, by rw [hU]; exact hP, hK.warm hW⟩⟩ rfl rfl hl.1 rfl (lv_room (Nat.le_of_ble_eq_true rfl)) dX5_addDerived_13 ⟨Nat.le_of_ble_eq_true rfl, Nat.le_of_ble_eq_true rfl⟩)) (fun r9 e9 => ?_)
  subst e9
  refine va_mmax hx hb (hml.trans hl.1.symm) hown (hts (.methodLink RX5 70 Lib.Math.max.name) (by decide +kernel)) (hts (.static Lib.Math.max.name) (by decide +kernel)) (hts (.initialized "java/lang/Math") (by decide +kernel)) (hts (.code Lib.Math.max.name Lib.Math.max.code 2 (some .int)) (by decide +kernel)) (Nat.le_of_ble_eq_true rfl) (Nat.le_of_ble_eq_true rfl) (Nat.le_of_ble_eq_true rfl) (Nat.le_of_ble_eq_true rfl) dX5_addDerived_16 ?_
  refine lv_aload_n hx hb dX5_addDerived_19 rfl (lv_at hl 0 rfl) ?_
  refine lv_iload_n hx hb dX5_addDerived_20 rfl (lv_at hl 2 rfl) ?_
  refine vp_callSi (va_Run.run (va_runV (As := [.int a2]) (rest := [.int (if (sp_X5_dayOf st a2) < (sp_X5_dayOf st a3) then (sp_X5_dayOf st a3) else (sp_X5_dayOf st a2)), .int (sp_X5_kindOf st a2), .ref (q 8)]) ⟨hx, hb, hml, hown, hts⟩ (c_X5_personsOf l dC dI q k st a2 hok _ rfl) (cwV 1 hts gX5_addDerived_X5_personsOf rfl rfl rfl (by decide +kernel) ⟨Nat.le_of_ble_eq_true rfl, Nat.le_of_ble_eq_true rfl⟩) ⟨fb_C, va_recv hK.1 hP (ci := 5) (q0 := 8) rfl rfl, fun U hU hW => ⟨rfl, by rw [hU]; exact hP, hK.warm hW⟩⟩ rfl rfl hl.1 rfl (lv_room (Nat.le_of_ble_eq_true rfl)) dX5_addDerived_21 ⟨Nat.le_of_ble_eq_true rfl, Nat.le_of_ble_eq_true rfl⟩)) (fun r9 e9 => ?_)
  subst e9
  refine lv_aload_n hx hb dX5_addDerived_24 rfl (lv_at hl 0 rfl) ?_
  refine lv_iload_n hx hb dX5_addDerived_25 rfl (lv_at hl 3 rfl) ?_
  refine vp_callSi (va_Run.run (va_runV (As := [.int a3]) (rest := [.int (sp_X5_personsOf st a2), .int (if (sp_X5_dayOf st a2) < (sp_X5_dayOf st a3) then (sp_X5_dayOf st a3) else (sp_X5_dayOf st a2)), .int (sp_X5_kindOf st a2), .ref (q 8)]) ⟨hx, hb, hml, hown, hts⟩ (c_X5_personsOf l dC dI q k st a3 hok _ rfl) (cwV 1 hts gX5_addDerived_X5_personsOf rfl rfl rfl (by decide +kernel) ⟨Nat.le_of_ble_eq_true rfl, Nat.le_of_ble_eq_true rfl⟩) ⟨fb_C, va_recv hK.1 hP (ci := 5) (q0 := 8) rfl rfl, fun U hU hW => ⟨rfl, by rw [hU]; exact hP, hK.warm hW⟩⟩ rfl rfl hl.1 rfl (lv_room (Nat.le_of_ble_eq_true rfl)) dX5_addDerived_26 ⟨Nat.le_of_ble_eq_true rfl, Nat.le_of_ble_eq_true rfl⟩)) (fun r9 e9 => ?_)
  subst e9
  refine lv_ior hx hb dX5_addDerived_29 ?_
  refine va_calli (va_runV (As := [.int (sp_X5_kindOf st a2), .int (if (sp_X5_dayOf st a2) < (sp_X5_dayOf st a3) then (sp_X5_dayOf st a3) else (sp_X5_dayOf st a2)), .int ((sp_X5_personsOf st a2) ||| (sp_X5_personsOf st a3))]) (rest := []) ⟨hx, hb, hml, hown, hts⟩ (c_X5_begin l dC dI q k st (sp_X5_kindOf st a2) (if (sp_X5_dayOf st a2) < (sp_X5_dayOf st a3) then (sp_X5_dayOf st a3) else (sp_X5_dayOf st a2)) ((sp_X5_personsOf st a2) ||| (sp_X5_personsOf st a3)) hq hok _ rfl) (cwV 3 hts gX5_addDerived_X5_begin rfl rfl rfl (by decide +kernel) ⟨Nat.le_of_ble_eq_true rfl, Nat.le_of_ble_eq_true rfl⟩) ⟨fb_C, va_recv hK.1 hP (ci := 5) (q0 := 8) rfl rfl, fun U hU hW => ⟨rfl, by rw [hU]; exact hP, hK.warm hW⟩⟩ rfl rfl hl.1 rfl (lv_room (Nat.le_of_ble_eq_true rfl)) dX5_addDerived_30 ⟨Nat.le_of_ble_eq_true rfl, Nat.le_of_ble_eq_true rfl⟩) hS (fun _ _ h => h) (fun _ h => h) (fun r9 u9 t9 H locs ht9 hv9 e9 hB9 hz9 hk9 hS => ?_)
  rw [ht9] at hB9
  subst e9
  have hP : va_P (dC, dI) vwCl (wC q k ((sp_X5_begin st (sp_X5_kindOf st a2) (if (sp_X5_dayOf st a2) < (sp_X5_dayOf st a3) then (sp_X5_dayOf st a3) else (sp_X5_dayOf st a2)) ((sp_X5_personsOf st a2) ||| (sp_X5_personsOf st a3))).2)) H := hB9
  refine lv_istore (lv' := [(4, .int ((sp_X5_begin st (sp_X5_kindOf st a2) (if (sp_X5_dayOf st a2) < (sp_X5_dayOf st a3) then (sp_X5_dayOf st a3) else (sp_X5_dayOf st a2)) ((sp_X5_personsOf st a2) ||| (sp_X5_personsOf st a3))).1)), (0, .ref (q 8)), (1, .int a1), (2, .int a2), (3, .int a3)]) hx hb dX5_addDerived_33 hl (by decide) rfl (fun ls hl => ?_)
  refine lv_aload_n hx hb dX5_addDerived_35 rfl (lv_at hl 1 rfl) ?_
  refine lv_iload hx hb dX5_addDerived_36 (lv_at hl 0 rfl) ?_
  refine vp_callSi (va_Run.run (va_runV (As := [.int ((sp_X5_begin st (sp_X5_kindOf st a2) (if (sp_X5_dayOf st a2) < (sp_X5_dayOf st a3) then (sp_X5_dayOf st a3) else (sp_X5_dayOf st a2)) ((sp_X5_personsOf st a2) ||| (sp_X5_personsOf st a3))).1)]) (rest := []) ⟨hx, hb, hml, hown, hts⟩ (c_X5_has l dC dI q k ((sp_X5_begin st (sp_X5_kindOf st a2) (if (sp_X5_dayOf st a2) < (sp_X5_dayOf st a3) then (sp_X5_dayOf st a3) else (sp_X5_dayOf st a2)) ((sp_X5_personsOf st a2) ||| (sp_X5_personsOf st a3))).2) ((sp_X5_begin st (sp_X5_kindOf st a2) (if (sp_X5_dayOf st a2) < (sp_X5_dayOf st a3) then (sp_X5_dayOf st a3) else (sp_X5_dayOf st a2)) ((sp_X5_personsOf st a2) ||| (sp_X5_personsOf st a3))).1) _ rfl) (cwV 1 hts gX5_addDerived_X5_has rfl rfl rfl (by decide +kernel) ⟨Nat.le_of_ble_eq_true rfl, Nat.le_of_ble_eq_true rfl⟩) ⟨fb_C, va_recv hK.1 hP (ci := 5) (q0 := 8) rfl rfl, fun U hU hW => ⟨rfl, by rw [hU]; exact hP, hK.warm hW⟩⟩ rfl rfl hl.1 rfl (lv_room (Nat.le_of_ble_eq_true rfl)) dX5_addDerived_38 ⟨Nat.le_of_ble_eq_true rfl, Nat.le_of_ble_eq_true rfl⟩)) (fun r9 e9 => ?_)
  subst e9
  refine lv_if_eq (tgt := 81) hx hb dX5_addDerived_41 (by decide) (fun h41_1 => ?_) (fun h41_1 => ?_)
  · have he := (if_pos h41_1).symm.trans he
    refine lv_iload hx hb dX5_addDerived_81 (lv_at hl 0 rfl) ?_
    exact W.iret (v := (sp_X5_begin st (sp_X5_kindOf st a2) (if (sp_X5_dayOf st a2) < (sp_X5_dayOf st a3) then (sp_X5_dayOf st a3) else (sp_X5_dayOf st a2)) ((sp_X5_personsOf st a2) ||| (sp_X5_personsOf st a3))).1) hx hb hr (fun t ht hW => ⟨⟨_, (), rfl, by show _ = Prod.fst _; rw [← he], by show va_P _ _ _ t.heap; rw [ht, ← he]; exact hP⟩, hS.F ht⟩) hS.2.2 dX5_addDerived_83
  · have he := (if_neg h41_1).symm.trans he
    refine lv_aload_n hx hb dX5_addDerived_44 rfl (lv_at hl 1 rfl) ?_
    refine va_get (D := (dC, dI)) (ci := 5) (v := .ref (q 33)) (C := RX5) (T := TX5) (N := 11) hx hb hts hi5 hown hK.1 hP 8 rfl rfl 3 (by decide) hf21 (fun _ h9 => h9) rfl dX5_addDerived_45 ?_
    refine lv_iload hx hb dX5_addDerived_48 (lv_at hl 0 rfl) ?_
    refine lv_iload_n hx hb dX5_addDerived_50 rfl (lv_at hl 2 rfl) ?_
    refine va_iast hx hb hK.1 hP (dC_of hq) hS 33 23 (f := ((sp_X5_begin st (sp_X5_kindOf st a2) (if (sp_X5_dayOf st a2) < (sp_X5_dayOf st a3) then (sp_X5_dayOf st a3) else (sp_X5_dayOf st a2)) ((sp_X5_personsOf st a2) ||| (sp_X5_personsOf st a3))).2).2.1 23) (n := 100) (cA := k 23) rfl rfl (i := (sp_X5_begin st (sp_X5_kindOf st a2) (if (sp_X5_dayOf st a2) < (sp_X5_dayOf st a3) then (sp_X5_dayOf st a3) else (sp_X5_dayOf st a2)) ((sp_X5_personsOf st a2) ||| (sp_X5_personsOf st a3))).1) (x := a1) (ob_X5_addDerived_51_2 st a1 a2 a3 hok h41_1) dX5_addDerived_51 (fun H locs hP _ hS => ?_)
    have hP : va_P (dC, dI) vwCl (wC q k (sA ((sp_X5_begin st (sp_X5_kindOf st a2) (if (sp_X5_dayOf st a2) < (sp_X5_dayOf st a3) then (sp_X5_dayOf st a3) else (sp_X5_dayOf st a2)) ((sp_X5_personsOf st a2) ||| (sp_X5_personsOf st a3))).2) 23 (((sp_X5_begin st (sp_X5_kindOf st a2) (if (sp_X5_dayOf st a2) < (sp_X5_dayOf st a3) then (sp_X5_dayOf st a3) else (sp_X5_dayOf st a2)) ((sp_X5_personsOf st a2) ||| (sp_X5_personsOf st a3))).1).toNatClampNeg) a1)) H := hP
    refine lv_aload_n hx hb dX5_addDerived_52 rfl (lv_at hl 1 rfl) ?_
    refine va_get (D := (dC, dI)) (ci := 5) (v := .ref (q 34)) (C := RX5) (T := TX5) (N := 11) hx hb hts hi5 hown hK.1 hP 8 rfl rfl 4 (by decide) hf24 (fun _ h9 => h9) rfl dX5_addDerived_53 ?_
    refine lv_iload hx hb dX5_addDerived_56 (lv_at hl 0 rfl) ?_
    refine lv_iload_n hx hb dX5_addDerived_58 rfl (lv_at hl 3 rfl) ?_
    refine va_iast hx hb hK.1 hP (dC_of hq) hS 34 24 (f := ((sp_X5_begin st (sp_X5_kindOf st a2) (if (sp_X5_dayOf st a2) < (sp_X5_dayOf st a3) then (sp_X5_dayOf st a3) else (sp_X5_dayOf st a2)) ((sp_X5_personsOf st a2) ||| (sp_X5_personsOf st a3))).2).2.1 24) (n := 100) (cA := k 24) rfl rfl (i := (sp_X5_begin st (sp_X5_kindOf st a2) (if (sp_X5_dayOf st a2) < (sp_X5_dayOf st a3) then (sp_X5_dayOf st a3) else (sp_X5_dayOf st a2)) ((sp_X5_personsOf st a2) ||| (sp_X5_personsOf st a3))).1) (x := a2) (ob_X5_addDerived_59_3 st a1 a2 a3 hok h41_1) dX5_addDerived_59 (fun H locs hP _ hS => ?_)
    have hP : va_P (dC, dI) vwCl (wC q k (sA (sA ((sp_X5_begin st (sp_X5_kindOf st a2) (if (sp_X5_dayOf st a2) < (sp_X5_dayOf st a3) then (sp_X5_dayOf st a3) else (sp_X5_dayOf st a2)) ((sp_X5_personsOf st a2) ||| (sp_X5_personsOf st a3))).2) 23 (((sp_X5_begin st (sp_X5_kindOf st a2) (if (sp_X5_dayOf st a2) < (sp_X5_dayOf st a3) then (sp_X5_dayOf st a3) else (sp_X5_dayOf st a2)) ((sp_X5_personsOf st a2) ||| (sp_X5_personsOf st a3))).1).toNatClampNeg) a1) 24 (((sp_X5_begin st (sp_X5_kindOf st a2) (if (sp_X5_dayOf st a2) < (sp_X5_dayOf st a3) then (sp_X5_dayOf st a3) else (sp_X5_dayOf st a2)) ((sp_X5_personsOf st a2) ||| (sp_X5_personsOf st a3))).1).toNatClampNeg) a2)) H := hP
    refine lv_aload_n hx hb dX5_addDerived_60 rfl (lv_at hl 1 rfl) ?_
    refine va_get (D := (dC, dI)) (ci := 5) (v := .ref (q 35)) (C := RX5) (T := TX5) (N := 11) hx hb hts hi5 hown hK.1 hP 8 rfl rfl 5 (by decide) hf27 (fun _ h9 => h9) rfl dX5_addDerived_61 ?_
    refine lv_iload hx hb dX5_addDerived_64 (lv_at hl 0 rfl) ?_
    refine lv_iload_n hx hb dX5_addDerived_66 rfl (lv_at hl 4 rfl) ?_
    refine va_iast hx hb hK.1 hP (dC_of hq) hS 35 25 (f := ((sp_X5_begin st (sp_X5_kindOf st a2) (if (sp_X5_dayOf st a2) < (sp_X5_dayOf st a3) then (sp_X5_dayOf st a3) else (sp_X5_dayOf st a2)) ((sp_X5_personsOf st a2) ||| (sp_X5_personsOf st a3))).2).2.1 25) (n := 100) (cA := k 25) rfl rfl (i := (sp_X5_begin st (sp_X5_kindOf st a2) (if (sp_X5_dayOf st a2) < (sp_X5_dayOf st a3) then (sp_X5_dayOf st a3) else (sp_X5_dayOf st a2)) ((sp_X5_personsOf st a2) ||| (sp_X5_personsOf st a3))).1) (x := a3) (ob_X5_addDerived_67_4 st a1 a2 a3 hok h41_1) dX5_addDerived_67 (fun H locs hP _ hS => ?_)
    have hP : va_P (dC, dI) vwCl (wC q k (sA (sA (sA ((sp_X5_begin st (sp_X5_kindOf st a2) (if (sp_X5_dayOf st a2) < (sp_X5_dayOf st a3) then (sp_X5_dayOf st a3) else (sp_X5_dayOf st a2)) ((sp_X5_personsOf st a2) ||| (sp_X5_personsOf st a3))).2) 23 (((sp_X5_begin st (sp_X5_kindOf st a2) (if (sp_X5_dayOf st a2) < (sp_X5_dayOf st a3) then (sp_X5_dayOf st a3) else (sp_X5_dayOf st a2)) ((sp_X5_personsOf st a2) ||| (sp_X5_personsOf st a3))).1).toNatClampNeg) a1) 24 (((sp_X5_begin st (sp_X5_kindOf st a2) (if (sp_X5_dayOf st a2) < (sp_X5_dayOf st a3) then (sp_X5_dayOf st a3) else (sp_X5_dayOf st a2)) ((sp_X5_personsOf st a2) ||| (sp_X5_personsOf st a3))).1).toNatClampNeg) a2) 25 (((sp_X5_begin st (sp_X5_kindOf st a2) (if (sp_X5_dayOf st a2) < (sp_X5_dayOf st a3) then (sp_X5_dayOf st a3) else (sp_X5_dayOf st a2)) ((sp_X5_personsOf st a2) ||| (sp_X5_personsOf st a3))).1).toNatClampNeg) a3)) H := hP
    refine lv_aload_n hx hb dX5_addDerived_68 rfl (lv_at hl 1 rfl) ?_
    refine va_get (D := (dC, dI)) (ci := 5) (v := .ref (q 38)) (C := RX5) (T := TX5) (N := 11) hx hb hts hi5 hown hK.1 hP 8 rfl rfl 6 (by decide) hf30 (fun _ h9 => h9) rfl dX5_addDerived_69 ?_
    refine lv_iload hx hb dX5_addDerived_72 (lv_at hl 0 rfl) ?_
    refine lv_aload_n hx hb dX5_addDerived_74 rfl (lv_at hl 1 rfl) ?_
    refine lv_iload hx hb dX5_addDerived_75 (lv_at hl 0 rfl) ?_
    refine vp_callSl (va_Run.run (va_runV (As := [.int ((sp_X5_begin st (sp_X5_kindOf st a2) (if (sp_X5_dayOf st a2) < (sp_X5_dayOf st a3) then (sp_X5_dayOf st a3) else (sp_X5_dayOf st a2)) ((sp_X5_personsOf st a2) ||| (sp_X5_personsOf st a3))).1)]) (rest := [.int ((sp_X5_begin st (sp_X5_kindOf st a2) (if (sp_X5_dayOf st a2) < (sp_X5_dayOf st a3) then (sp_X5_dayOf st a3) else (sp_X5_dayOf st a2)) ((sp_X5_personsOf st a2) ||| (sp_X5_personsOf st a3))).1), .ref (q 38)]) ⟨hx, hb, hml, hown, hts⟩ (c_X5_derivedValue l dC dI q k (sA (sA (sA ((sp_X5_begin st (sp_X5_kindOf st a2) (if (sp_X5_dayOf st a2) < (sp_X5_dayOf st a3) then (sp_X5_dayOf st a3) else (sp_X5_dayOf st a2)) ((sp_X5_personsOf st a2) ||| (sp_X5_personsOf st a3))).2) 23 (((sp_X5_begin st (sp_X5_kindOf st a2) (if (sp_X5_dayOf st a2) < (sp_X5_dayOf st a3) then (sp_X5_dayOf st a3) else (sp_X5_dayOf st a2)) ((sp_X5_personsOf st a2) ||| (sp_X5_personsOf st a3))).1).toNatClampNeg) a1) 24 (((sp_X5_begin st (sp_X5_kindOf st a2) (if (sp_X5_dayOf st a2) < (sp_X5_dayOf st a3) then (sp_X5_dayOf st a3) else (sp_X5_dayOf st a2)) ((sp_X5_personsOf st a2) ||| (sp_X5_personsOf st a3))).1).toNatClampNeg) a2) 25 (((sp_X5_begin st (sp_X5_kindOf st a2) (if (sp_X5_dayOf st a2) < (sp_X5_dayOf st a3) then (sp_X5_dayOf st a3) else (sp_X5_dayOf st a2)) ((sp_X5_personsOf st a2) ||| (sp_X5_personsOf st a3))).1).toNatClampNeg) a3) ((sp_X5_begin st (sp_X5_kindOf st a2) (if (sp_X5_dayOf st a2) < (sp_X5_dayOf st a3) then (sp_X5_dayOf st a3) else (sp_X5_dayOf st a2)) ((sp_X5_personsOf st a2) ||| (sp_X5_personsOf st a3))).1) (ob_X5_addDerived_77_5 st a1 a2 a3 hok h41_1) (ob_X5_addDerived_77_6 st a1 a2 a3 hok h41_1) _ rfl) (cwV 1 hts gX5_addDerived_X5_derivedValue rfl rfl rfl (by decide +kernel) ⟨Nat.le_of_ble_eq_true rfl, Nat.le_of_ble_eq_true rfl⟩) ⟨fb_C, va_recv hK.1 hP (ci := 5) (q0 := 8) rfl rfl, fun U hU hW => ⟨rfl, by rw [hU]; exact hP, hK.warm hW⟩⟩ rfl rfl hl.1 rfl (lv_room (Nat.le_of_ble_eq_true rfl)) dX5_addDerived_77 ⟨Nat.le_of_ble_eq_true rfl, Nat.le_of_ble_eq_true rfl⟩)) (fun r9 e9 => ?_)
    subst e9
    refine va_last hx hb hK.1 hP (dC_of hq) hS 38 28 (f := ((sp_X5_begin st (sp_X5_kindOf st a2) (if (sp_X5_dayOf st a2) < (sp_X5_dayOf st a3) then (sp_X5_dayOf st a3) else (sp_X5_dayOf st a2)) ((sp_X5_personsOf st a2) ||| (sp_X5_personsOf st a3))).2).2.2) (n := 100) (cA := k 28) rfl rfl (i := (sp_X5_begin st (sp_X5_kindOf st a2) (if (sp_X5_dayOf st a2) < (sp_X5_dayOf st a3) then (sp_X5_dayOf st a3) else (sp_X5_dayOf st a2)) ((sp_X5_personsOf st a2) ||| (sp_X5_personsOf st a3))).1) (x := (sp_X5_derivedValue (sA (sA (sA ((sp_X5_begin st (sp_X5_kindOf st a2) (if (sp_X5_dayOf st a2) < (sp_X5_dayOf st a3) then (sp_X5_dayOf st a3) else (sp_X5_dayOf st a2)) ((sp_X5_personsOf st a2) ||| (sp_X5_personsOf st a3))).2) 23 (((sp_X5_begin st (sp_X5_kindOf st a2) (if (sp_X5_dayOf st a2) < (sp_X5_dayOf st a3) then (sp_X5_dayOf st a3) else (sp_X5_dayOf st a2)) ((sp_X5_personsOf st a2) ||| (sp_X5_personsOf st a3))).1).toNatClampNeg) a1) 24 (((sp_X5_begin st (sp_X5_kindOf st a2) (if (sp_X5_dayOf st a2) < (sp_X5_dayOf st a3) then (sp_X5_dayOf st a3) else (sp_X5_dayOf st a2)) ((sp_X5_personsOf st a2) ||| (sp_X5_personsOf st a3))).1).toNatClampNeg) a2) 25 (((sp_X5_begin st (sp_X5_kindOf st a2) (if (sp_X5_dayOf st a2) < (sp_X5_dayOf st a3) then (sp_X5_dayOf st a3) else (sp_X5_dayOf st a2)) ((sp_X5_personsOf st a2) ||| (sp_X5_personsOf st a3))).1).toNatClampNeg) a3) ((sp_X5_begin st (sp_X5_kindOf st a2) (if (sp_X5_dayOf st a2) < (sp_X5_dayOf st a3) then (sp_X5_dayOf st a3) else (sp_X5_dayOf st a2)) ((sp_X5_personsOf st a2) ||| (sp_X5_personsOf st a3))).1))) (ob_X5_addDerived_80_7 st a1 a2 a3 hok h41_1) dX5_addDerived_80 (fun H locs hP _ hS => ?_)
    have hP : va_P (dC, dI) vwCl (wC q k (sL (sA (sA (sA ((sp_X5_begin st (sp_X5_kindOf st a2) (if (sp_X5_dayOf st a2) < (sp_X5_dayOf st a3) then (sp_X5_dayOf st a3) else (sp_X5_dayOf st a2)) ((sp_X5_personsOf st a2) ||| (sp_X5_personsOf st a3))).2) 23 (((sp_X5_begin st (sp_X5_kindOf st a2) (if (sp_X5_dayOf st a2) < (sp_X5_dayOf st a3) then (sp_X5_dayOf st a3) else (sp_X5_dayOf st a2)) ((sp_X5_personsOf st a2) ||| (sp_X5_personsOf st a3))).1).toNatClampNeg) a1) 24 (((sp_X5_begin st (sp_X5_kindOf st a2) (if (sp_X5_dayOf st a2) < (sp_X5_dayOf st a3) then (sp_X5_dayOf st a3) else (sp_X5_dayOf st a2)) ((sp_X5_personsOf st a2) ||| (sp_X5_personsOf st a3))).1).toNatClampNeg) a2) 25 (((sp_X5_begin st (sp_X5_kindOf st a2) (if (sp_X5_dayOf st a2) < (sp_X5_dayOf st a3) then (sp_X5_dayOf st a3) else (sp_X5_dayOf st a2)) ((sp_X5_personsOf st a2) ||| (sp_X5_personsOf st a3))).1).toNatClampNeg) a3) (((sp_X5_begin st (sp_X5_kindOf st a2) (if (sp_X5_dayOf st a2) < (sp_X5_dayOf st a3) then (sp_X5_dayOf st a3) else (sp_X5_dayOf st a2)) ((sp_X5_personsOf st a2) ||| (sp_X5_personsOf st a3))).1).toNatClampNeg) (sp_X5_derivedValue (sA (sA (sA ((sp_X5_begin st (sp_X5_kindOf st a2) (if (sp_X5_dayOf st a2) < (sp_X5_dayOf st a3) then (sp_X5_dayOf st a3) else (sp_X5_dayOf st a2)) ((sp_X5_personsOf st a2) ||| (sp_X5_personsOf st a3))).2) 23 (((sp_X5_begin st (sp_X5_kindOf st a2) (if (sp_X5_dayOf st a2) < (sp_X5_dayOf st a3) then (sp_X5_dayOf st a3) else (sp_X5_dayOf st a2)) ((sp_X5_personsOf st a2) ||| (sp_X5_personsOf st a3))).1).toNatClampNeg) a1) 24 (((sp_X5_begin st (sp_X5_kindOf st a2) (if (sp_X5_dayOf st a2) < (sp_X5_dayOf st a3) then (sp_X5_dayOf st a3) else (sp_X5_dayOf st a2)) ((sp_X5_personsOf st a2) ||| (sp_X5_personsOf st a3))).1).toNatClampNeg) a2) 25 (((sp_X5_begin st (sp_X5_kindOf st a2) (if (sp_X5_dayOf st a2) < (sp_X5_dayOf st a3) then (sp_X5_dayOf st a3) else (sp_X5_dayOf st a2)) ((sp_X5_personsOf st a2) ||| (sp_X5_personsOf st a3))).1).toNatClampNeg) a3) ((sp_X5_begin st (sp_X5_kindOf st a2) (if (sp_X5_dayOf st a2) < (sp_X5_dayOf st a3) then (sp_X5_dayOf st a3) else (sp_X5_dayOf st a2)) ((sp_X5_personsOf st a2) ||| (sp_X5_personsOf st a3))).1)))) H := hP
    refine lv_iload hx hb dX5_addDerived_81 (lv_at hl 0 rfl) ?_
    exact W.iret (v := (sp_X5_begin st (sp_X5_kindOf st a2) (if (sp_X5_dayOf st a2) < (sp_X5_dayOf st a3) then (sp_X5_dayOf st a3) else (sp_X5_dayOf st a2)) ((sp_X5_personsOf st a2) ||| (sp_X5_personsOf st a3))).1) hx hb hr (fun t ht hW => ⟨⟨_, (), rfl, by show _ = Prod.fst _; rw [← he], by show va_P _ _ _ t.heap; rw [ht, ← he]; exact hP⟩, hS.F ht⟩) hS.2.2 dX5_addDerived_83
set_option maxHeartbeats 4000000 in
set_option maxRecDepth 100000 in
theorem c_X5_derivedFrom (l : Launch) (dC : Nat → ClassId) (dI : Nat → Nat → Nat) (q : Nat → Nat) (k : Nat → ClassId) (st : St) (a1 : Int32) (hok : okC st) (res : Int32) (hres : sp_X5_derivedFrom st a1 = res) : Met l yX5_derivedFrom wsX5_derivedFrom ({ frames := 0, cells := 0, slots := 0, locals := 0 } : Room) (va_Pc [.ref (q 8), .int a1] (fun U => va_P (dC, dI) vwCl (wC q k st) U.heap ∧ KC (dC, dI) k U)) (vp_Si (fun r => r = res)) 0 0 (fun _ => False) := by
  refine Met.ofW (cc := cX5_derivedFrom) (maxL := 4) (ret := (some .int)) (by decide) rfl ?_
  intro p e s m args below meth c s₁ B hml hv
  obtain ⟨rfl, hP, hK⟩ := hv
  have hx := B.exec
  have hb := B.bytes
  have hr := B.returns
  have hts := atoms_spec (ws := wsX5_derivedFrom) B.pre
  have hown : s.vm.findClass RX5 = some m.cls := findClass_of_methodNamed B.named
  have hlocks := B.notSynchronized
  have hi5 : ∀ w ∈ wsX50, w ∈ wsX5_derivedFrom := by decide +kernel
  have hf21 := hts (.fieldLink RX5 21 "ConsentRegister$Items" "ways" "[I") (by decide +kernel)
  have hf24 := hts (.fieldLink RX5 24 "ConsentRegister$Items" "firsts" "[I") (by decide +kernel)
  have hf27 := hts (.fieldLink RX5 27 "ConsentRegister$Items" "seconds" "[I") (by decide +kernel)
  have hf34 := hts (.fieldLink RX5 34 "ConsentRegister$Items" "alive" "[Z") (by decide +kernel)
  have hf41 := hts (.fieldLink RX5 41 "ConsentRegister$Items" "count" "I") (by decide +kernel)
  have hl := lv_entry ([.ref (q 8), .int a1]) (n := 4) (Nat.le_of_ble_eq_true rfl)
  rw [lg_entry_eq]
  generalize (lg_sl ([.ref (q 8), .int a1]) ++ List.replicate (4 - (lg_sl ([.ref (q 8), .int a1])).length) Slot.unset).toArray = ls at hl ⊢
  have hl : lv_has ls 4 [(0, .ref (q 8)), (1, .int a1)] := hl
  have he := hres
  unfold sp_X5_derivedFrom at he
  refine lv_iconst (v := 0) hx hb dX5_derivedFrom_0 (by decide) ?_
  refine lv_istore_n (lv' := [(2, .int 0), (0, .ref (q 8)), (1, .int a1)]) hx hb dX5_derivedFrom_1 rfl hl (by decide) rfl (fun ls hl => ?_)
  refine lv_iconst (v := 0) hx hb dX5_derivedFrom_2 (by decide) ?_
  refine lv_istore_n (lv' := [(3, .int 0), (2, .int 0), (0, .ref (q 8)), (1, .int a1)]) hx hb dX5_derivedFrom_3 rfl hl (by decide) rfl (fun ls hl => ?_)
  have k_4 : ∀ (n_4 : Nat) (x3_4 : Int32) (x2_4 : Int32) (ls : Array Slot), 0 ≤ x3_4.toInt → x3_4.toInt ≤ (st.1 7).toInt → (st.1 7).toInt < x3_4.toInt + n_4 → lp_X5_derivedFrom_4 st a1 n_4 x3_4 x2_4 = res → lv_has ls 4 [(3, .int x3_4), (2, .int x2_4), (0, .ref (q 8)), (1, .int a1)] → W p l e (headSpec wsX5_derivedFrom ({ frames := 0, cells := 0, slots := 0, locals := 0 } : Room)).room s m ([.ref (q 8), .int a1] : List Value).toArray below meth c s.heap [] 0 0 (MQ below (vp_Si (fun r => r = res)) ([.ref (q 8), .int a1] : List Value).toArray s 0 0 (fun _ => False)) (F0 m 4 ls []) := by
    intro n_4
    induction n_4 with
    | zero =>
      intro x3_4 x2_4 ls hi0_4 hi1_4 hi2_4
      exact (ob_X5_derivedFrom_4_zero st a1 x3_4 x2_4 hok hi0_4 hi1_4 hi2_4).elim
    | succ n_4 ih_4 =>
      intro x3_4 x2_4 ls hi0_4 hi1_4 hi2_4 he hl
      rw [lp_X5_derivedFrom_4] at he
      refine lv_iload_n hx hb dX5_derivedFrom_4 rfl (lv_at hl 0 rfl) ?_
      refine lv_aload_n hx hb dX5_derivedFrom_5 rfl (lv_at hl 2 rfl) ?_
      refine va_get (D := (dC, dI)) (ci := 5) (v := .int (st.1 7)) (C := RX5) (T := TX5) (N := 11) hx hb hts hi5 hown hK.1 hP 8 rfl rfl 9 (by decide) hf41 (fun _ h9 => h9) rfl dX5_derivedFrom_6 ?_
      refine lv_icmp_ge (tgt := 60) hx hb dX5_derivedFrom_9 (by decide) (fun h9_1 => ?_) (fun h9_1 => ?_)
      · have he := (if_pos h9_1).symm.trans he
        refine lv_iload_n hx hb dX5_derivedFrom_60 rfl (lv_at hl 1 rfl) ?_
        exact W.iret (v := x2_4) hx hb hr (fun t ht hW => ⟨_, rfl, he, ht⟩) (fun _ h => nomatch h) dX5_derivedFrom_61
      · have he := (if_neg h9_1).symm.trans he
        refine lv_aload_n hx hb dX5_derivedFrom_12 rfl (lv_at hl 2 rfl) ?_
        refine va_get (D := (dC, dI)) (ci := 5) (v := .ref (q 36)) (C := RX5) (T := TX5) (N := 11) hx hb hts hi5 hown hK.1 hP 8 rfl rfl 7 (by decide) hf34 (fun _ h9 => h9) rfl dX5_derivedFrom_13 ?_
        refine lv_iload_n hx hb dX5_derivedFrom_16 rfl (lv_at hl 0 rfl) ?_
        refine va_zald hx hb hK.1 hP 36 26 (f := st.2.1 26) (n := 100) (cA := k 26) rfl rfl (i := x3_4) (ob_X5_derivedFrom_17_2 st a1 n_4 x3_4 x2_4 hok hi0_4 hi1_4 hi2_4 h9_1) dX5_derivedFrom_17 ?_
        refine lv_if_eq (tgt := 54) hx hb dX5_derivedFrom_18 (by decide) (fun h18_3 => ?_) (fun h18_3 => ?_)
        · have he := (if_pos h18_3).symm.trans he
          refine lv_iinc (v := x3_4 + 1) (lv' := [(3, .int (x3_4 + 1)), (2, .int x2_4), (0, .ref (q 8)), (1, .int a1)]) hx hb dX5_derivedFrom_54 hl (k := 0) rfl rfl (by decide) rfl (fun ls hl => ?_)
          refine lv_goto (tgt := 4) hx hb dX5_derivedFrom_57 (by decide) ?_
          exact ih_4 (x3_4 + 1) x2_4 ls (ob_X5_derivedFrom_4_inv0_4 st a1 n_4 x3_4 x2_4 hok hi0_4 hi1_4 hi2_4 h9_1 h18_3) (ob_X5_derivedFrom_4_inv1_5 st a1 n_4 x3_4 x2_4 hok hi0_4 hi1_4 hi2_4 h9_1 h18_3) (ob_X5_derivedFrom_4_inv2_6 st a1 n_4 x3_4 x2_4 hok hi0_4 hi1_4 hi2_4 h9_1 h18_3) he (lv_sub hl [0, 1, 2, 3] rfl)
        · have he := (if_neg h18_3).symm.trans he
          refine lv_aload_n hx hb dX5_derivedFrom_21 rfl (lv_at hl 2 rfl) ?_
          refine va_get (D := (dC, dI)) (ci := 5) (v := .ref (q 33)) (C := RX5) (T := TX5) (N := 11) hx hb hts hi5 hown hK.1 hP 8 rfl rfl 3 (by decide) hf21 (fun _ h9 => h9) rfl dX5_derivedFrom_22 ?_
          refine lv_iload_n hx hb dX5_derivedFrom_25 rfl (lv_at hl 0 rfl) ?_
          refine va_iald hx hb hK.1 hP 33 23 (f := st.2.1 23) (n := 100) (cA := k 23) rfl rfl (i := x3_4) (ob_X5_derivedFrom_26_7 st a1 n_4 x3_4 x2_4 hok hi0_4 hi1_4 hi2_4 h9_1 h18_3) dX5_derivedFrom_26 ?_
          refine lv_iconst (v := (-1)) hx hb dX5_derivedFrom_27 (by decide) ?_
          refine lv_icmp_eq (tgt := 54) hx hb dX5_derivedFrom_28 (by decide) (fun h28_8 => ?_) (fun h28_8 => ?_)
          · have he := (if_pos h28_8).symm.trans he
            refine lv_iinc (v := x3_4 + 1) (lv' := [(3, .int (x3_4 + 1)), (2, .int x2_4), (0, .ref (q 8)), (1, .int a1)]) hx hb dX5_derivedFrom_54 hl (k := 0) rfl rfl (by decide) rfl (fun ls hl => ?_)
            refine lv_goto (tgt := 4) hx hb dX5_derivedFrom_57 (by decide) ?_
            exact ih_4 (x3_4 + 1) x2_4 ls (ob_X5_derivedFrom_4_inv0_9 st a1 n_4 x3_4 x2_4 hok hi0_4 hi1_4 hi2_4 h9_1 h18_3 h28_8) (ob_X5_derivedFrom_4_inv1_10 st a1 n_4 x3_4 x2_4 hok hi0_4 hi1_4 hi2_4 h9_1 h18_3 h28_8) (ob_X5_derivedFrom_4_inv2_11 st a1 n_4 x3_4 x2_4 hok hi0_4 hi1_4 hi2_4 h9_1 h18_3 h28_8) he (lv_sub hl [0, 1, 2, 3] rfl)
          · have he := (if_neg h28_8).symm.trans he
            refine lv_aload_n hx hb dX5_derivedFrom_31 rfl (lv_at hl 2 rfl) ?_
            refine va_get (D := (dC, dI)) (ci := 5) (v := .ref (q 34)) (C := RX5) (T := TX5) (N := 11) hx hb hts hi5 hown hK.1 hP 8 rfl rfl 4 (by decide) hf24 (fun _ h9 => h9) rfl dX5_derivedFrom_32 ?_
            refine lv_iload_n hx hb dX5_derivedFrom_35 rfl (lv_at hl 0 rfl) ?_
            refine va_iald hx hb hK.1 hP 34 24 (f := st.2.1 24) (n := 100) (cA := k 24) rfl rfl (i := x3_4) (ob_X5_derivedFrom_36_12 st a1 n_4 x3_4 x2_4 hok hi0_4 hi1_4 hi2_4 h9_1 h18_3 h28_8) dX5_derivedFrom_36 ?_
            refine lv_iload_n hx hb dX5_derivedFrom_37 rfl (lv_at hl 3 rfl) ?_
            refine lv_icmp_eq (tgt := 51) hx hb dX5_derivedFrom_38 (by decide) (fun h38_13 => ?_) (fun h38_13 => ?_)
            · have he := (if_pos h38_13).symm.trans he
              refine lv_iinc (v := x2_4 + 1) (lv' := [(2, .int (x2_4 + 1)), (3, .int x3_4), (0, .ref (q 8)), (1, .int a1)]) hx hb dX5_derivedFrom_51 hl (k := 1) rfl rfl (by decide) rfl (fun ls hl => ?_)
              refine lv_iinc (v := x3_4 + 1) (lv' := [(3, .int (x3_4 + 1)), (2, .int (x2_4 + 1)), (0, .ref (q 8)), (1, .int a1)]) hx hb dX5_derivedFrom_54 hl (k := 1) rfl rfl (by decide) rfl (fun ls hl => ?_)
              refine lv_goto (tgt := 4) hx hb dX5_derivedFrom_57 (by decide) ?_
              exact ih_4 (x3_4 + 1) (x2_4 + 1) ls (ob_X5_derivedFrom_4_inv0_14 st a1 n_4 x3_4 x2_4 hok hi0_4 hi1_4 hi2_4 h9_1 h18_3 h28_8 h38_13) (ob_X5_derivedFrom_4_inv1_15 st a1 n_4 x3_4 x2_4 hok hi0_4 hi1_4 hi2_4 h9_1 h18_3 h28_8 h38_13) (ob_X5_derivedFrom_4_inv2_16 st a1 n_4 x3_4 x2_4 hok hi0_4 hi1_4 hi2_4 h9_1 h18_3 h28_8 h38_13) he (lv_sub hl [0, 1, 2, 3] rfl)
            · have he := (if_neg h38_13).symm.trans he
              refine lv_aload_n hx hb dX5_derivedFrom_41 rfl (lv_at hl 2 rfl) ?_
              refine va_get (D := (dC, dI)) (ci := 5) (v := .ref (q 35)) (C := RX5) (T := TX5) (N := 11) hx hb hts hi5 hown hK.1 hP 8 rfl rfl 5 (by decide) hf27 (fun _ h9 => h9) rfl dX5_derivedFrom_42 ?_
              refine lv_iload_n hx hb dX5_derivedFrom_45 rfl (lv_at hl 0 rfl) ?_
              refine va_iald hx hb hK.1 hP 35 25 (f := st.2.1 25) (n := 100) (cA := k 25) rfl rfl (i := x3_4) (ob_X5_derivedFrom_46_17 st a1 n_4 x3_4 x2_4 hok hi0_4 hi1_4 hi2_4 h9_1 h18_3 h28_8 h38_13) dX5_derivedFrom_46 ?_
              refine lv_iload_n hx hb dX5_derivedFrom_47 rfl (lv_at hl 3 rfl) ?_
              refine lv_icmp_ne (tgt := 54) hx hb dX5_derivedFrom_48 (by decide) (fun h48_18 => ?_) (fun h48_18 => ?_)
              · have he := (if_neg h48_18).symm.trans he
                refine lv_iinc (v := x3_4 + 1) (lv' := [(3, .int (x3_4 + 1)), (2, .int x2_4), (0, .ref (q 8)), (1, .int a1)]) hx hb dX5_derivedFrom_54 hl (k := 0) rfl rfl (by decide) rfl (fun ls hl => ?_)
                refine lv_goto (tgt := 4) hx hb dX5_derivedFrom_57 (by decide) ?_
                exact ih_4 (x3_4 + 1) x2_4 ls (ob_X5_derivedFrom_4_inv0_19 st a1 n_4 x3_4 x2_4 hok hi0_4 hi1_4 hi2_4 h9_1 h18_3 h28_8 h38_13 h48_18) (ob_X5_derivedFrom_4_inv1_20 st a1 n_4 x3_4 x2_4 hok hi0_4 hi1_4 hi2_4 h9_1 h18_3 h28_8 h38_13 h48_18) (ob_X5_derivedFrom_4_inv2_21 st a1 n_4 x3_4 x2_4 hok hi0_4 hi1_4 hi2_4 h9_1 h18_3 h28_8 h38_13 h48_18) he (lv_sub hl [0, 1, 2, 3] rfl)
              · have he := (if_pos h48_18).symm.trans he
                refine lv_iinc (v := x2_4 + 1) (lv' := [(2, .int (x2_4 + 1)), (3, .int x3_4), (0, .ref (q 8)), (1, .int a1)]) hx hb dX5_derivedFrom_51 hl (k := 1) rfl rfl (by decide) rfl (fun ls hl => ?_)
                refine lv_iinc (v := x3_4 + 1) (lv' := [(3, .int (x3_4 + 1)), (2, .int (x2_4 + 1)), (0, .ref (q 8)), (1, .int a1)]) hx hb dX5_derivedFrom_54 hl (k := 1) rfl rfl (by decide) rfl (fun ls hl => ?_)
                refine lv_goto (tgt := 4) hx hb dX5_derivedFrom_57 (by decide) ?_
                exact ih_4 (x3_4 + 1) (x2_4 + 1) ls (ob_X5_derivedFrom_4_inv0_22 st a1 n_4 x3_4 x2_4 hok hi0_4 hi1_4 hi2_4 h9_1 h18_3 h28_8 h38_13 h48_18) (ob_X5_derivedFrom_4_inv1_23 st a1 n_4 x3_4 x2_4 hok hi0_4 hi1_4 hi2_4 h9_1 h18_3 h28_8 h38_13 h48_18) (ob_X5_derivedFrom_4_inv2_24 st a1 n_4 x3_4 x2_4 hok hi0_4 hi1_4 hi2_4 h9_1 h18_3 h28_8 h38_13 h48_18) he (lv_sub hl [0, 1, 2, 3] rfl)
  exact k_4 ((st.1 7).toInt.toNat + 1) 0 0 ls (ob_X5_derivedFrom_4_inv0_25 st a1 hok) (ob_X5_derivedFrom_4_inv1_26 st a1 hok) (ob_X5_derivedFrom_4_inv2_27 st a1 hok) he (lv_sub hl [0, 1, 2, 3] rfl)
set_option maxHeartbeats 4000000 in
set_option maxRecDepth 100000 in
theorem c_X5_unmarkAll (l : Launch) (dC : Nat → ClassId) (dI : Nat → Nat → Nat) (q : Nat → Nat) (k : Nat → ClassId) (st : St) (hq : ∀ i j, i < 43 → j < 43 → q i = q j → i = j) (hok : okC st) (res : St) (hres : sp_X5_unmarkAll st = res) : Met l yX5_unmarkAll wsX5_unmarkAll ({ frames := 0, cells := 0, slots := 0, locals := 0 } : Room) (va_Pc [.ref (q 8)] (fun U => va_P (dC, dI) vwCl (wC q k st) U.heap ∧ KC (dC, dI) k U)) (va_Qv (fun (_ : Unit) => True) (fun _ t => va_P (dC, dI) vwCl (wC q k res) t.heap) (aC q)) 0 0 (aC q) := by
  refine Met.ofW (cc := cX5_unmarkAll) (maxL := 2) (ret := none) (by decide) rfl ?_
  intro p e s m args below meth c s₁ B hml hv
  obtain ⟨rfl, hP, hK⟩ := hv
  have hx := B.exec
  have hb := B.bytes
  have hr := B.returns
  have hts := atoms_spec (ws := wsX5_unmarkAll) B.pre
  have hown : s.vm.findClass RX5 = some m.cls := findClass_of_methodNamed B.named
  have hlocks := B.notSynchronized
  have hS : va_S (aC q) s.heap s.heap [] := va_S.rf
  have hi5 : ∀ w ∈ wsX50, w ∈ wsX5_unmarkAll := by decide +kernel
  have hf38 := hts (.fieldLink RX5 38 "ConsentRegister$Items" "kept" "[Z") (by decide +kernel)
  have hf41 := hts (.fieldLink RX5 41 "ConsentRegister$Items" "count" "I") (by decide +kernel)
  have hl := lv_entry ([.ref (q 8)]) (n := 2) (Nat.le_of_ble_eq_true rfl)
  rw [lg_entry_eq]
  generalize (lg_sl ([.ref (q 8)]) ++ List.replicate (2 - (lg_sl ([.ref (q 8)])).length) Slot.unset).toArray = ls at hl ⊢
  have hl : lv_has ls 2 [(0, .ref (q 8))] := hl
  have he := hres
  unfold sp_X5_unmarkAll at he
  refine lv_iconst (v := 0) hx hb dX5_unmarkAll_0 (by decide) ?_
  refine lv_istore_n (lv' := [(1, .int 0), (0, .ref (q 8))]) hx hb dX5_unmarkAll_1 rfl hl (by decide) rfl (fun ls hl => ?_)
  have k_2 : ∀ (n_2 : Nat) (st_2 : St) (x1_2 : Int32) (H : Heap) (locs : List Loc) (ls : Array Slot), 0 ≤ x1_2.toInt → x1_2.toInt ≤ (st.1 7).toInt → (st.1 7).toInt < x1_2.toInt + n_2 → okC st_2 → (st_2.1 7).toInt = (st.1 7).toInt → va_P (dC, dI) vwCl (wC q k st_2) H → va_S (aC q) s.heap H locs → lp_X5_unmarkAll_2 st n_2 st_2 x1_2 = res → lv_has ls 2 [(1, .int x1_2), (0, .ref (q 8))] → W p l e (headSpec wsX5_unmarkAll ({ frames := 0, cells := 0, slots := 0, locals := 0 } : Room)).room s m ([.ref (q 8)] : List Value).toArray below meth c H locs 0 0 (MQ below (va_Qv (fun (_ : Unit) => True) (fun _ t => va_P (dC, dI) vwCl (wC q k res) t.heap) (aC q)) ([.ref (q 8)] : List Value).toArray s 0 0 (aC q)) (F0 m 2 ls []) := by
    intro n_2
    induction n_2 with
    | zero =>
      intro st_2 x1_2 H locs ls hi0_2 hi1_2 hi2_2 hi3_2 hi4_2
      exact (ob_X5_unmarkAll_2_zero st st_2 x1_2 hok hi0_2 hi1_2 hi2_2 hi3_2 hi4_2).elim
    | succ n_2 ih_2 =>
      intro st_2 x1_2 H locs ls hi0_2 hi1_2 hi2_2 hi3_2 hi4_2 hP hS he hl
      rw [lp_X5_unmarkAll_2] at he
      refine lv_iload_n hx hb dX5_unmarkAll_2 rfl (lv_at hl 0 rfl) ?_
      refine lv_aload_n hx hb dX5_unmarkAll_3 rfl (lv_at hl 1 rfl) ?_
      refine va_get (D := (dC, dI)) (ci := 5) (v := .int (st_2.1 7)) (C := RX5) (T := TX5) (N := 11) hx hb hts hi5 hown hK.1 hP 8 rfl rfl 9 (by decide) hf41 (fun _ h9 => h9) rfl dX5_unmarkAll_4 ?_
      refine lv_icmp_ge (tgt := 23) hx hb dX5_unmarkAll_7 (by decide) (fun h7_1 => ?_) (fun h7_1 => ?_)
      · have he := (if_pos h7_1).symm.trans he
        exact W.vret hx hb hr (fun t ht hW => ⟨⟨(), rfl, trivial, by show va_P _ _ _ t.heap; rw [ht, ← he]; exact hP⟩, hS.F ht⟩) hS.2.2 dX5_unmarkAll_23
      · have he := (if_neg h7_1).symm.trans he
        refine lv_aload_n hx hb dX5_unmarkAll_10 rfl (lv_at hl 1 rfl) ?_
        refine va_get (D := (dC, dI)) (ci := 5) (v := .ref (q 37)) (C := RX5) (T := TX5) (N := 11) hx hb hts hi5 hown hK.1 hP 8 rfl rfl 8 (by decide) hf38 (fun _ h9 => h9) rfl dX5_unmarkAll_11 ?_
        refine lv_iload_n hx hb dX5_unmarkAll_14 rfl (lv_at hl 0 rfl) ?_
        refine lv_iconst (v := 0) hx hb dX5_unmarkAll_15 (by decide) ?_
        refine va_zast hx hb hK.1 hP (dC_of hq) hS 37 27 (f := st_2.2.1 27) (n := 100) (cA := k 27) rfl rfl (i := x1_2) (x := 0) (ob_X5_unmarkAll_16_2 st n_2 st_2 x1_2 hok hi0_2 hi1_2 hi2_2 hi3_2 hi4_2 h7_1) dX5_unmarkAll_16 (fun H locs hP _ hS => ?_)
        have hP : va_P (dC, dI) vwCl (wC q k (sA st_2 27 x1_2.toNatClampNeg 0)) H := hP
        refine lv_iinc (v := x1_2 + 1) (lv' := [(1, .int (x1_2 + 1)), (0, .ref (q 8))]) hx hb dX5_unmarkAll_17 hl (k := 0) rfl rfl (by decide) rfl (fun ls hl => ?_)
        refine lv_goto (tgt := 2) hx hb dX5_unmarkAll_20 (by decide) ?_
        exact ih_2 (sA st_2 27 x1_2.toNatClampNeg 0) (x1_2 + 1) _ _ ls (ob_X5_unmarkAll_2_inv0_3 st n_2 st_2 x1_2 hok hi0_2 hi1_2 hi2_2 hi3_2 hi4_2 h7_1) (ob_X5_unmarkAll_2_inv1_4 st n_2 st_2 x1_2 hok hi0_2 hi1_2 hi2_2 hi3_2 hi4_2 h7_1) (ob_X5_unmarkAll_2_inv2_5 st n_2 st_2 x1_2 hok hi0_2 hi1_2 hi2_2 hi3_2 hi4_2 h7_1) (ob_X5_unmarkAll_2_inv3_6 st n_2 st_2 x1_2 hok hi0_2 hi1_2 hi2_2 hi3_2 hi4_2 h7_1) (ob_X5_unmarkAll_2_inv4_7 st n_2 st_2 x1_2 hok hi0_2 hi1_2 hi2_2 hi3_2 hi4_2 h7_1) hP hS he (lv_sub hl [0, 1] rfl)
  exact k_2 ((st.1 7).toInt.toNat + 1) st 0 _ _ ls (ob_X5_unmarkAll_2_inv0_8 st hok) (ob_X5_unmarkAll_2_inv1_9 st hok) (ob_X5_unmarkAll_2_inv2_10 st hok) (ob_X5_unmarkAll_2_inv3_11 st hok) (ob_X5_unmarkAll_2_inv4_12 st hok) hP hS he (lv_sub hl [0, 1] rfl)
set_option maxHeartbeats 4000000 in
set_option maxRecDepth 100000 in
theorem c_X5_followInputs (l : Launch) (dC : Nat → ClassId) (dI : Nat → Nat → Nat) (q : Nat → Nat) (k : Nat → ClassId) (st : St) (hq : ∀ i j, i < 43 → j < 43 → q i = q j → i = j) (hok : okC st) (res : St) (hres : sp_X5_followInputs st = res) : Met l yX5_followInputs wsX5_followInputs ({ frames := 4, cells := 0, slots := 0, locals := 88 } : Room) (va_Pc [.ref (q 8)] (fun U => va_P (dC, dI) vwCl (wC q k st) U.heap ∧ KC (dC, dI) k U)) (va_Qv (fun (_ : Unit) => True) (fun _ t => va_P (dC, dI) vwCl (wC q k res) t.heap) (aC q)) 0 0 (aC q) := by
  refine Met.ofW (cc := cX5_followInputs) (maxL := 2) (ret := none) (by decide) rfl ?_
  intro p e s m args below meth c s₁ B hml hv
  obtain ⟨rfl, hP, hK⟩ := hv
  have hx := B.exec
  have hb := B.bytes
  have hr := B.returns
  have hts := atoms_spec (ws := wsX5_followInputs) B.pre
  have hown : s.vm.findClass RX5 = some m.cls := findClass_of_methodNamed B.named
  have hlocks := B.notSynchronized
  have hS : va_S (aC q) s.heap s.heap [] := va_S.rf
  have hi5 : ∀ w ∈ wsX50, w ∈ wsX5_followInputs := by decide +kernel
  have hf21 := hts (.fieldLink RX5 21 "ConsentRegister$Items" "ways" "[I") (by decide +kernel)
  have hf30 := hts (.fieldLink RX5 30 "ConsentRegister$Items" "values" "[J") (by decide +kernel)
  have hf34 := hts (.fieldLink RX5 34 "ConsentRegister$Items" "alive" "[Z") (by decide +kernel)
  have hf41 := hts (.fieldLink RX5 41 "ConsentRegister$Items" "count" "I") (by decide +kernel)
  have hl := lv_entry ([.ref (q 8)]) (n := 2) (Nat.le_of_ble_eq_true rfl)
  rw [lg_entry_eq]
  generalize (lg_sl ([.ref (q 8)]) ++ List.replicate (2 - (lg_sl ([.ref (q 8)])).length) Slot.unset).toArray = ls at hl ⊢
  have hl : lv_has ls 2 [(0, .ref (q 8))] := hl
  have he := hres
  unfold sp_X5_followInputs at he
  refine lv_iconst (v := 0) hx hb dX5_followInputs_0 (by decide) ?_
  refine lv_istore_n (lv' := [(1, .int 0), (0, .ref (q 8))]) hx hb dX5_followInputs_1 rfl hl (by decide) rfl (fun ls hl => ?_)
  have k_2 : ∀ (n_2 : Nat) (st_2 : St) (x1_2 : Int32) (H : Heap) (locs : List Loc) (ls : Array Slot), 0 ≤ x1_2.toInt → x1_2.toInt ≤ (st.1 7).toInt → (st.1 7).toInt < x1_2.toInt + n_2 → okC st_2 → (st_2.1 7).toInt = (st.1 7).toInt → va_P (dC, dI) vwCl (wC q k st_2) H → va_S (aC q) s.heap H locs → lp_X5_followInputs_2 st n_2 st_2 x1_2 = res → lv_has ls 2 [(1, .int x1_2), (0, .ref (q 8))] → W p l e (headSpec wsX5_followInputs ({ frames := 4, cells := 0, slots := 0, locals := 88 } : Room)).room s m ([.ref (q 8)] : List Value).toArray below meth c H locs 0 0 (MQ below (va_Qv (fun (_ : Unit) => True) (fun _ t => va_P (dC, dI) vwCl (wC q k res) t.heap) (aC q)) ([.ref (q 8)] : List Value).toArray s 0 0 (aC q)) (F0 m 2 ls []) := by
    intro n_2
    induction n_2 with
    | zero =>
      intro st_2 x1_2 H locs ls hi0_2 hi1_2 hi2_2 hi3_2 hi4_2
      exact (ob_X5_followInputs_2_zero st st_2 x1_2 hok hi0_2 hi1_2 hi2_2 hi3_2 hi4_2).elim
    | succ n_2 ih_2 =>
      intro st_2 x1_2 H locs ls hi0_2 hi1_2 hi2_2 hi3_2 hi4_2 hP hS he hl
      rw [lp_X5_followInputs_2] at he
      refine lv_iload_n hx hb dX5_followInputs_2 rfl (lv_at hl 0 rfl) ?_
      refine lv_aload_n hx hb dX5_followInputs_3 rfl (lv_at hl 1 rfl) ?_
      refine va_get (D := (dC, dI)) (ci := 5) (v := .int (st_2.1 7)) (C := RX5) (T := TX5) (N := 11) hx hb hts hi5 hown hK.1 hP 8 rfl rfl 9 (by decide) hf41 (fun _ h9 => h9) rfl dX5_followInputs_4 ?_
      refine lv_icmp_ge (tgt := 62) hx hb dX5_followInputs_7 (by decide) (fun h7_1 => ?_) (fun h7_1 => ?_)
      · have he := (if_pos h7_1).symm.trans he
        exact W.vret hx hb hr (fun t ht hW => ⟨⟨(), rfl, trivial, by show va_P _ _ _ t.heap; rw [ht, ← he]; exact hP⟩, hS.F ht⟩) hS.2.2 dX5_followInputs_62
      · have he := (if_neg h7_1).symm.trans he
        refine lv_aload_n hx hb dX5_followInputs_10 rfl (lv_at hl 1 rfl) ?_
        refine va_get (D := (dC, dI)) (ci := 5) (v := .ref (q 36)) (C := RX5) (T := TX5) (N := 11) hx hb hts hi5 hown hK.1 hP 8 rfl rfl 7 (by decide) hf34 (fun _ h9 => h9) rfl dX5_followInputs_11 ?_
        refine lv_iload_n hx hb dX5_followInputs_14 rfl (lv_at hl 0 rfl) ?_
        refine va_zald hx hb hK.1 hP 36 26 (f := st_2.2.1 26) (n := 100) (cA := k 26) rfl rfl (i := x1_2) (ob_X5_followInputs_15_2 st n_2 st_2 x1_2 hok hi0_2 hi1_2 hi2_2 hi3_2 hi4_2 h7_1) dX5_followInputs_15 ?_
        refine lv_if_eq (tgt := 56) hx hb dX5_followInputs_16 (by decide) (fun h16_3 => ?_) (fun h16_3 => ?_)
        · have he := (if_pos h16_3).symm.trans he
          refine lv_iinc (v := x1_2 + 1) (lv' := [(1, .int (x1_2 + 1)), (0, .ref (q 8))]) hx hb dX5_followInputs_56 hl (k := 0) rfl rfl (by decide) rfl (fun ls hl => ?_)
          refine lv_goto (tgt := 2) hx hb dX5_followInputs_59 (by decide) ?_
          exact ih_2 st_2 (x1_2 + 1) _ _ ls (ob_X5_followInputs_2_inv0_4 st n_2 st_2 x1_2 hok hi0_2 hi1_2 hi2_2 hi3_2 hi4_2 h7_1 h16_3) (ob_X5_followInputs_2_inv1_5 st n_2 st_2 x1_2 hok hi0_2 hi1_2 hi2_2 hi3_2 hi4_2 h7_1 h16_3) (ob_X5_followInputs_2_inv2_6 st n_2 st_2 x1_2 hok hi0_2 hi1_2 hi2_2 hi3_2 hi4_2 h7_1 h16_3) (ob_X5_followInputs_2_inv3_7 st n_2 st_2 x1_2 hok hi0_2 hi1_2 hi2_2 hi3_2 hi4_2 h7_1 h16_3) (ob_X5_followInputs_2_inv4_8 st n_2 st_2 x1_2 hok hi0_2 hi1_2 hi2_2 hi3_2 hi4_2 h7_1 h16_3) hP hS he (lv_sub hl [0, 1] rfl)
        · have he := (if_neg h16_3).symm.trans he
          refine lv_aload_n hx hb dX5_followInputs_19 rfl (lv_at hl 1 rfl) ?_
          refine va_get (D := (dC, dI)) (ci := 5) (v := .ref (q 33)) (C := RX5) (T := TX5) (N := 11) hx hb hts hi5 hown hK.1 hP 8 rfl rfl 3 (by decide) hf21 (fun _ h9 => h9) rfl dX5_followInputs_20 ?_
          refine lv_iload_n hx hb dX5_followInputs_23 rfl (lv_at hl 0 rfl) ?_
          refine va_iald hx hb hK.1 hP 33 23 (f := st_2.2.1 23) (n := 100) (cA := k 23) rfl rfl (i := x1_2) (ob_X5_followInputs_24_9 st n_2 st_2 x1_2 hok hi0_2 hi1_2 hi2_2 hi3_2 hi4_2 h7_1 h16_3) dX5_followInputs_24 ?_
          refine lv_iconst (v := (-1)) hx hb dX5_followInputs_25 (by decide) ?_
          refine lv_icmp_eq (tgt := 56) hx hb dX5_followInputs_26 (by decide) (fun h26_10 => ?_) (fun h26_10 => ?_)
          · have he := (if_pos h26_10).symm.trans he
            refine lv_iinc (v := x1_2 + 1) (lv' := [(1, .int (x1_2 + 1)), (0, .ref (q 8))]) hx hb dX5_followInputs_56 hl (k := 0) rfl rfl (by decide) rfl (fun ls hl => ?_)
            refine lv_goto (tgt := 2) hx hb dX5_followInputs_59 (by decide) ?_
            exact ih_2 st_2 (x1_2 + 1) _ _ ls (ob_X5_followInputs_2_inv0_11 st n_2 st_2 x1_2 hok hi0_2 hi1_2 hi2_2 hi3_2 hi4_2 h7_1 h16_3 h26_10) (ob_X5_followInputs_2_inv1_12 st n_2 st_2 x1_2 hok hi0_2 hi1_2 hi2_2 hi3_2 hi4_2 h7_1 h16_3 h26_10) (ob_X5_followInputs_2_inv2_13 st n_2 st_2 x1_2 hok hi0_2 hi1_2 hi2_2 hi3_2 hi4_2 h7_1 h16_3 h26_10) (ob_X5_followInputs_2_inv3_14 st n_2 st_2 x1_2 hok hi0_2 hi1_2 hi2_2 hi3_2 hi4_2 h7_1 h16_3 h26_10) (ob_X5_followInputs_2_inv4_15 st n_2 st_2 x1_2 hok hi0_2 hi1_2 hi2_2 hi3_2 hi4_2 h7_1 h16_3 h26_10) hP hS he (lv_sub hl [0, 1] rfl)
          · have he := (if_neg h26_10).symm.trans he
            refine lv_aload_n hx hb dX5_followInputs_29 rfl (lv_at hl 1 rfl) ?_
            refine lv_iload_n hx hb dX5_followInputs_30 rfl (lv_at hl 0 rfl) ?_
            refine vp_callSi (va_Run.run (va_runV (As := [.int x1_2]) (rest := []) ⟨hx, hb, hml, hown, hts⟩ (c_X5_hasLostInputs l dC dI q k st_2 x1_2 hi3_2 (ob_X5_followInputs_31_16 st n_2 st_2 x1_2 hok hi0_2 hi1_2 hi2_2 hi3_2 hi4_2 h7_1 h16_3 h26_10) _ rfl) (cwV 1 hts gX5_followInputs_X5_hasLostInputs rfl rfl rfl (by decide +kernel) ⟨Nat.le_of_ble_eq_true rfl, Nat.le_of_ble_eq_true rfl⟩) ⟨fb_C, va_recv hK.1 hP (ci := 5) (q0 := 8) rfl rfl, fun U hU hW => ⟨rfl, by rw [hU]; exact hP, hK.warm hW⟩⟩ rfl rfl hl.1 rfl (lv_room (Nat.le_of_ble_eq_true rfl)) dX5_followInputs_31 ⟨Nat.le_of_ble_eq_true rfl, Nat.le_of_ble_eq_true rfl⟩)) (fun r9 e9 => ?_)
            subst e9
            refine lv_if_eq (tgt := 45) hx hb dX5_followInputs_34 (by decide) (fun h34_17 => ?_) (fun h34_17 => ?_)
            · have he := (if_pos h34_17).symm.trans he
              refine lv_aload_n hx hb dX5_followInputs_45 rfl (lv_at hl 1 rfl) ?_
              refine va_get (D := (dC, dI)) (ci := 5) (v := .ref (q 38)) (C := RX5) (T := TX5) (N := 11) hx hb hts hi5 hown hK.1 hP 8 rfl rfl 6 (by decide) hf30 (fun _ h9 => h9) rfl dX5_followInputs_46 ?_
              refine lv_iload_n hx hb dX5_followInputs_49 rfl (lv_at hl 0 rfl) ?_
              refine lv_aload_n hx hb dX5_followInputs_50 rfl (lv_at hl 1 rfl) ?_
              refine lv_iload_n hx hb dX5_followInputs_51 rfl (lv_at hl 0 rfl) ?_
              refine vp_callSl (va_Run.run (va_runV (As := [.int x1_2]) (rest := [.int x1_2, .ref (q 38)]) ⟨hx, hb, hml, hown, hts⟩ (c_X5_derivedValue l dC dI q k st_2 x1_2 hi3_2 (ob_X5_followInputs_52_18 st n_2 st_2 x1_2 hok hi0_2 hi1_2 hi2_2 hi3_2 hi4_2 h7_1 h16_3 h26_10 h34_17) _ rfl) (cwV 1 hts gX5_followInputs_X5_derivedValue rfl rfl rfl (by decide +kernel) ⟨Nat.le_of_ble_eq_true rfl, Nat.le_of_ble_eq_true rfl⟩) ⟨fb_C, va_recv hK.1 hP (ci := 5) (q0 := 8) rfl rfl, fun U hU hW => ⟨rfl, by rw [hU]; exact hP, hK.warm hW⟩⟩ rfl rfl hl.1 rfl (lv_room (Nat.le_of_ble_eq_true rfl)) dX5_followInputs_52 ⟨Nat.le_of_ble_eq_true rfl, Nat.le_of_ble_eq_true rfl⟩)) (fun r9 e9 => ?_)
              subst e9
              refine va_last hx hb hK.1 hP (dC_of hq) hS 38 28 (f := st_2.2.2) (n := 100) (cA := k 28) rfl rfl (i := x1_2) (x := (sp_X5_derivedValue st_2 x1_2)) (ob_X5_followInputs_55_19 st n_2 st_2 x1_2 hok hi0_2 hi1_2 hi2_2 hi3_2 hi4_2 h7_1 h16_3 h26_10 h34_17) dX5_followInputs_55 (fun H locs hP _ hS => ?_)
              have hP : va_P (dC, dI) vwCl (wC q k (sL st_2 x1_2.toNatClampNeg (sp_X5_derivedValue st_2 x1_2))) H := hP
              refine lv_iinc (v := x1_2 + 1) (lv' := [(1, .int (x1_2 + 1)), (0, .ref (q 8))]) hx hb dX5_followInputs_56 hl (k := 0) rfl rfl (by decide) rfl (fun ls hl => ?_)
              refine lv_goto (tgt := 2) hx hb dX5_followInputs_59 (by decide) ?_
              exact ih_2 (sL st_2 x1_2.toNatClampNeg (sp_X5_derivedValue st_2 x1_2)) (x1_2 + 1) _ _ ls (ob_X5_followInputs_2_inv0_20 st n_2 st_2 x1_2 hok hi0_2 hi1_2 hi2_2 hi3_2 hi4_2 h7_1 h16_3 h26_10 h34_17) (ob_X5_followInputs_2_inv1_21 st n_2 st_2 x1_2 hok hi0_2 hi1_2 hi2_2 hi3_2 hi4_2 h7_1 h16_3 h26_10 h34_17) (ob_X5_followInputs_2_inv2_22 st n_2 st_2 x1_2 hok hi0_2 hi1_2 hi2_2 hi3_2 hi4_2 h7_1 h16_3 h26_10 h34_17) (ob_X5_followInputs_2_inv3_23 st n_2 st_2 x1_2 hok hi0_2 hi1_2 hi2_2 hi3_2 hi4_2 h7_1 h16_3 h26_10 h34_17) (ob_X5_followInputs_2_inv4_24 st n_2 st_2 x1_2 hok hi0_2 hi1_2 hi2_2 hi3_2 hi4_2 h7_1 h16_3 h26_10 h34_17) hP hS he (lv_sub hl [0, 1] rfl)
            · have he := (if_neg h34_17).symm.trans he
              refine lv_aload_n hx hb dX5_followInputs_37 rfl (lv_at hl 1 rfl) ?_
              refine lv_iload_n hx hb dX5_followInputs_38 rfl (lv_at hl 0 rfl) ?_
              refine va_callv (va_runV (As := [.int x1_2]) (rest := []) ⟨hx, hb, hml, hown, hts⟩ (c_X5_end l dC dI q k st_2 x1_2 hq hi3_2 _ rfl) (cwV 1 hts gX5_followInputs_X5_end rfl rfl rfl (by decide +kernel) ⟨Nat.le_of_ble_eq_true rfl, Nat.le_of_ble_eq_true rfl⟩) ⟨fb_C, va_recv hK.1 hP (ci := 5) (q0 := 8) rfl rfl, fun U hU hW => ⟨rfl, by rw [hU]; exact hP, hK.warm hW⟩⟩ rfl rfl hl.1 rfl (lv_room (Nat.le_of_ble_eq_true rfl)) dX5_followInputs_39 ⟨Nat.le_of_ble_eq_true rfl, Nat.le_of_ble_eq_true rfl⟩) hS (fun _ _ h => h) (fun _ h => h) (fun u9 t9 H locs ht9 hv9 e9 hB9 hz9 hk9 hS => ?_)
              rw [ht9] at hB9
              have hP : va_P (dC, dI) vwCl (wC q k (sp_X5_end st_2 x1_2)) H := hB9
              refine lv_goto (tgt := 56) hx hb dX5_followInputs_42 (by decide) ?_
              refine lv_iinc (v := x1_2 + 1) (lv' := [(1, .int (x1_2 + 1)), (0, .ref (q 8))]) hx hb dX5_followInputs_56 hl (k := 0) rfl rfl (by decide) rfl (fun ls hl => ?_)
              refine lv_goto (tgt := 2) hx hb dX5_followInputs_59 (by decide) ?_
              exact ih_2 (sp_X5_end st_2 x1_2) (x1_2 + 1) _ _ ls (ob_X5_followInputs_2_inv0_25 st n_2 st_2 x1_2 hok hi0_2 hi1_2 hi2_2 hi3_2 hi4_2 h7_1 h16_3 h26_10 h34_17) (ob_X5_followInputs_2_inv1_26 st n_2 st_2 x1_2 hok hi0_2 hi1_2 hi2_2 hi3_2 hi4_2 h7_1 h16_3 h26_10 h34_17) (ob_X5_followInputs_2_inv2_27 st n_2 st_2 x1_2 hok hi0_2 hi1_2 hi2_2 hi3_2 hi4_2 h7_1 h16_3 h26_10 h34_17) (ob_X5_followInputs_2_inv3_28 st n_2 st_2 x1_2 hok hi0_2 hi1_2 hi2_2 hi3_2 hi4_2 h7_1 h16_3 h26_10 h34_17) (ob_X5_followInputs_2_inv4_29 st n_2 st_2 x1_2 hok hi0_2 hi1_2 hi2_2 hi3_2 hi4_2 h7_1 h16_3 h26_10 h34_17) hP hS he (lv_sub hl [0, 1] rfl)
  exact k_2 ((st.1 7).toInt.toNat + 1) st 0 _ _ ls (ob_X5_followInputs_2_inv0_30 st hok) (ob_X5_followInputs_2_inv1_31 st hok) (ob_X5_followInputs_2_inv2_32 st hok) (ob_X5_followInputs_2_inv3_33 st hok) (ob_X5_followInputs_2_inv4_34 st hok) hP hS he (lv_sub hl [0, 1] rfl)

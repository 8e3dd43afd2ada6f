set_option maxHeartbeats 4000000 in
set_option maxRecDepth 100000 in
theorem c_X10_in (l : Launch) (a0 : Int32) (a1 : Int32) (a2 : Int32)  (res : Int32) (hres : sp_X10_in a0 a1 a2 = res) : Met l yX10_in wsX10_in ({ frames := 0, cells := 0, slots := 0, locals := 0 } : Room) (va_Pc [.int a0, .int a1, .int a2] (fun _ => True)) (vp_Si (fun r => r = res)) 0 0 (fun _ => False) := by
  refine Met.ofW (cc := cX10_in) (maxL := 3) (ret := (some .boolean)) (by decide) rfl ?_
  intro p e s m args below meth c s₁ B hml hv
  obtain ⟨rfl, -⟩ := hv
  have hx := B.exec
  have hb := B.bytes
  have hr := B.returns
  have hts := atoms_spec (ws := wsX10_in) B.pre
  have hown : s.vm.findClass RX10 = some m.cls := findClass_of_methodNamed B.named
  have hlocks := B.notSynchronized
  have hl := lv_entry ([.int a0, .int a1, .int a2]) (n := 3) (Nat.le_of_ble_eq_true rfl)
  rw [lg_entry_eq]
  generalize (lg_sl ([.int a0, .int a1, .int a2]) ++ List.replicate (3 - (lg_sl ([.int a0, .int a1, .int a2])).length) Slot.unset).toArray = ls at hl ⊢
  have hl : lv_has ls 3 [(0, .int a0), (1, .int a1), (2, .int a2)] := hl
  have he := hres
  unfold sp_X10_in at he
  refine lv_iload_n hx hb dX10_in_0 rfl (lv_at hl 0 rfl) ?_
  refine lv_iload_n hx hb dX10_in_1 rfl (lv_at hl 1 rfl) ?_
  refine lv_icmp_lt (tgt := 14) hx hb dX10_in_2 (by decide) (fun h2_1 => ?_) (fun h2_1 => ?_)
  · have he := (if_pos h2_1).symm.trans he
    refine lv_iconst (v := 0) hx hb dX10_in_14 (by decide) ?_
    exact W.zret (v := 0) hx hb hr rfl (fun t ht hW => ⟨_, rfl, he, ht⟩) (fun _ h => nomatch h) dX10_in_15
  · have he := (if_neg h2_1).symm.trans he
    refine lv_iload_n hx hb dX10_in_5 rfl (lv_at hl 0 rfl) ?_
    refine lv_iload_n hx hb dX10_in_6 rfl (lv_at hl 2 rfl) ?_
    refine lv_icmp_gt (tgt := 14) hx hb dX10_in_7 (by decide) (fun h7_2 => ?_) (fun h7_2 => ?_)
    · have he := (if_pos h7_2).symm.trans he
      refine lv_iconst (v := 0) hx hb dX10_in_14 (by decide) ?_
      exact W.zret (v := 0) hx hb hr rfl (fun t ht hW => ⟨_, rfl, he, ht⟩) (fun _ h => nomatch h) dX10_in_15
    · have he := (if_neg h7_2).symm.trans he
      refine lv_iconst (v := 1) hx hb dX10_in_10 (by decide) ?_
      refine lv_goto (tgt := 15) hx hb dX10_in_11 (by decide) ?_
      exact W.zret (v := 1) hx hb hr rfl (fun t ht hW => ⟨_, rfl, he, ht⟩) (fun _ h => nomatch h) dX10_in_15
set_option maxHeartbeats 4000000 in
set_option maxRecDepth 100000 in
theorem c_X10_isPerson (l : Launch) (a0 : Int32)  (res : Int32) (hres : sp_X10_isPerson a0 = res) : Met l yX10_isPerson wsX10_isPerson ({ frames := 1, cells := 0, slots := 0, locals := 22 } : Room) (va_Pc [.int a0] (fun _ => True)) (vp_Si (fun r => r = res)) 0 0 (fun _ => False) := by
  refine Met.ofW (cc := cX10_isPerson) (maxL := 1) (ret := (some .boolean)) (by decide) rfl ?_
  intro p e s m args below meth c s₁ B hml hv
  obtain ⟨rfl, -⟩ := hv
  have hx := B.exec
  have hb := B.bytes
  have hr := B.returns
  have hts := atoms_spec (ws := wsX10_isPerson) B.pre
  have hown : s.vm.findClass RX10 = some m.cls := findClass_of_methodNamed B.named
  have hlocks := B.notSynchronized
  have hl := lv_entry ([.int a0]) (n := 1) (Nat.le_of_ble_eq_true rfl)
  rw [lg_entry_eq]
  generalize (lg_sl ([.int a0]) ++ List.replicate (1 - (lg_sl ([.int a0])).length) Slot.unset).toArray = ls at hl ⊢
  have hl : lv_has ls 1 [(0, .int a0)] := hl
  have he := hres
  unfold sp_X10_isPerson at he
  refine lv_iload_n hx hb dX10_isPerson_0 rfl (lv_at hl 0 rfl) ?_
  refine lv_iconst (v := 0) hx hb dX10_isPerson_1 (by decide) ?_
  refine lv_bipush (v := 15) hx hb dX10_isPerson_2 (by decide) ?_
  refine vp_callSi (va_Run.run (va_runS (As := [.int a0, .int 0, .int 15]) (rest := []) ⟨hx, hb, hml, hown, hts⟩ (c_X10_in l a0 0 15 _ rfl) (va_cwS 3 hts gX10_isPerson_X10_in rfl rfl rfl (by decide +kernel) ⟨Nat.le_of_ble_eq_true rfl, Nat.le_of_ble_eq_true rfl⟩) ⟨fb_T, fun U hU hW => ⟨rfl, trivial⟩⟩ rfl rfl hl.1 rfl (lv_room (Nat.le_of_ble_eq_true rfl)) dX10_isPerson_4 ⟨Nat.le_of_ble_eq_true rfl, Nat.le_of_ble_eq_true rfl⟩)) (fun r9 e9 => ?_)
  subst e9
  exact W.zret (v := (sp_X10_in a0 0 15)) hx hb hr (nar_bool (b_X10_in _ _ _)) (fun t ht hW => ⟨_, rfl, he, ht⟩) (fun _ h => nomatch h) dX10_isPerson_7
set_option maxHeartbeats 4000000 in
set_option maxRecDepth 100000 in
theorem c_X10_isMinute (l : Launch) (a0 : Int32)  (res : Int32) (hres : sp_X10_isMinute a0 = res) : Met l yX10_isMinute wsX10_isMinute ({ frames := 1, cells := 0, slots := 0, locals := 22 } : Room) (va_Pc [.int a0] (fun _ => True)) (vp_Si (fun r => r = res)) 0 0 (fun _ => False) := by
  refine Met.ofW (cc := cX10_isMinute) (maxL := 1) (ret := (some .boolean)) (by decide) rfl ?_
  intro p e s m args below meth c s₁ B hml hv
  obtain ⟨rfl, -⟩ := hv
  have hx := B.exec
  have hb := B.bytes
  have hr := B.returns
  have hts := atoms_spec (ws := wsX10_isMinute) B.pre
  have hown : s.vm.findClass RX10 = some m.cls := findClass_of_methodNamed B.named
  have hlocks := B.notSynchronized
  have hl := lv_entry ([.int a0]) (n := 1) (Nat.le_of_ble_eq_true rfl)
  rw [lg_entry_eq]
  generalize (lg_sl ([.int a0]) ++ List.replicate (1 - (lg_sl ([.int a0])).length) Slot.unset).toArray = ls at hl ⊢
  have hl : lv_has ls 1 [(0, .int a0)] := hl
  have he := hres
  unfold sp_X10_isMinute at he
  refine lv_iload_n hx hb dX10_isMinute_0 rfl (lv_at hl 0 rfl) ?_
  refine lv_iconst (v := 0) hx hb dX10_isMinute_1 (by decide) ?_
  refine lv_ldc (v := 10000000) hx hb hown (hts (.constant RX10 131 (10000000)) (by decide +kernel)) dX10_isMinute_2 ?_
  refine vp_callSi (va_Run.run (va_runS (As := [.int a0, .int 0, .int 10000000]) (rest := []) ⟨hx, hb, hml, hown, hts⟩ (c_X10_in l a0 0 10000000 _ rfl) (va_cwS 3 hts gX10_isMinute_X10_in rfl rfl rfl (by decide +kernel) ⟨Nat.le_of_ble_eq_true rfl, Nat.le_of_ble_eq_true rfl⟩) ⟨fb_T, fun U hU hW => ⟨rfl, trivial⟩⟩ rfl rfl hl.1 rfl (lv_room (Nat.le_of_ble_eq_true rfl)) dX10_isMinute_4 ⟨Nat.le_of_ble_eq_true rfl, Nat.le_of_ble_eq_true rfl⟩)) (fun r9 e9 => ?_)
  subst e9
  exact W.zret (v := (sp_X10_in a0 0 10000000)) hx hb hr (nar_bool (b_X10_in _ _ _)) (fun t ht hW => ⟨_, rfl, he, ht⟩) (fun _ h => nomatch h) dX10_isMinute_7
set_option maxHeartbeats 4000000 in
set_option maxRecDepth 100000 in
theorem c_X10_thrown (l : Launch) (dC : Nat → ClassId) (dI : Nat → Nat → Nat) (q : Nat → Nat) (k : Nat → ClassId) (st : St)  (res : Int32) (hres : sp_X10_thrown st = res) : Met l yX10_thrown wsX10_thrown ({ frames := 0, cells := 0, slots := 0, locals := 0 } : Room) (va_Pc [.ref (q 0)] (fun U => va_P (dC, dI) vwCl (wM q k st) U.heap ∧ KM (dC, dI) k U)) (vp_Si (fun r => r = res)) 0 0 (fun _ => False) := by
  refine Met.ofW (cc := cX10_thrown) (maxL := 1) (ret := (some .int)) (by decide) rfl ?_
  intro p e s m args below meth c s₁ B hml hv
  obtain ⟨rfl, hP, hK⟩ := hv
  have hx := B.exec
  have hb := B.bytes
  have hr := B.returns
  have hts := atoms_spec (ws := wsX10_thrown) B.pre
  have hown : s.vm.findClass RX10 = some m.cls := findClass_of_methodNamed B.named
  have hlocks := B.notSynchronized
  have hi10 : ∀ w ∈ wsX100, w ∈ wsX10_thrown := by decide +kernel
  have hf121 := hts (.fieldLink RX10 121 "ConsentRegisterModel" "thrown" "I") (by decide +kernel)
  have hl := lv_entry ([.ref (q 0)]) (n := 1) (Nat.le_of_ble_eq_true rfl)
  rw [lg_entry_eq]
  generalize (lg_sl ([.ref (q 0)]) ++ List.replicate (1 - (lg_sl ([.ref (q 0)])).length) Slot.unset).toArray = ls at hl ⊢
  have hl : lv_has ls 1 [(0, .ref (q 0))] := hl
  have he := hres
  unfold sp_X10_thrown at he
  refine lv_aload_n hx hb dX10_thrown_0 rfl (lv_at hl 0 rfl) ?_
  refine va_get (D := (dC, dI)) (ci := 10) (v := .int (st.1 10)) (C := RX10) (T := TX10) (N := 45) hx hb hts hi10 hown hK.1 hP 0 rfl rfl 0 (by decide) hf121 (fun _ h9 => h9) rfl dX10_thrown_1 ?_
  exact W.iret (v := st.1 10) hx hb hr (fun t ht hW => ⟨_, rfl, he, ht⟩) (fun _ h => nomatch h) dX10_thrown_4
set_option maxHeartbeats 4000000 in
set_option maxRecDepth 100000 in
theorem c_X10_says (l : Launch) (dC : Nat → ClassId) (dI : Nat → Nat → Nat) (q : Nat → Nat) (k : Nat → ClassId) (st : St) (a1 : Int32) (hq : ∀ i j, i < 35 → j < 35 → q i = q j → i = j) (res : Int32 × St) (hres : sp_X10_says st a1 = res) : Met l yX10_says wsX10_says ({ frames := 0, cells := 0, slots := 0, locals := 0 } : Room) (va_Pc [.ref (q 0), .int a1] (fun U => va_P (dC, dI) vwCl (wM q k st) U.heap ∧ KM (dC, dI) k U)) (va_Qi (fun r (_ : Unit) => r = res.1) (fun _ t => va_P (dC, dI) vwCl (wM q k res.2) t.heap) (aM q)) 0 0 (aM q) := by
  refine Met.ofW (cc := cX10_says) (maxL := 2) (ret := (some .boolean)) (by decide) rfl ?_
  intro p e s m args below meth c s₁ B hml hv
  obtain ⟨rfl, hP, hK⟩ := hv
  have hx := B.exec
  have hb := B.bytes
  have hr := B.returns
  have hts := atoms_spec (ws := wsX10_says) B.pre
  have hown : s.vm.findClass RX10 = some m.cls := findClass_of_methodNamed B.named
  have hlocks := B.notSynchronized
  have hS : va_S (aM q) s.heap s.heap [] := va_S.rf
  have hi10 : ∀ w ∈ wsX100, w ∈ wsX10_says := by decide +kernel
  have hf121 := hts (.fieldLink RX10 121 "ConsentRegisterModel" "thrown" "I") (by decide +kernel)
  have hl := lv_entry ([.ref (q 0), .int a1]) (n := 2) (Nat.le_of_ble_eq_true rfl)
  rw [lg_entry_eq]
  generalize (lg_sl ([.ref (q 0), .int a1]) ++ List.replicate (2 - (lg_sl ([.ref (q 0), .int a1])).length) Slot.unset).toArray = ls at hl ⊢
  have hl : lv_has ls 2 [(0, .ref (q 0)), (1, .int a1)] := hl
  have he := hres
  unfold sp_X10_says at he
  refine lv_aload_n hx hb dX10_says_0 rfl (lv_at hl 0 rfl) ?_
  refine lv_iload_n hx hb dX10_says_1 rfl (lv_at hl 1 rfl) ?_
  refine va_put (D := (dC, dI)) (ci := 10) (v := .int a1) (ty := .int) (C := RX10) (T := TX10) (N := 45) hx hb hts hi10 tyX10 tyX10_ok nmX10 hown hK.1 hP (dM_of hq) hS 0 rfl rfl 0 (by decide) hf121 (fun _ h9 => h9) rfl (by decide +kernel) rfl rfl (Nat.le_of_ble_eq_true rfl) dX10_says_2 (fun H locs hP _ hS => ?_)
  have hP : va_P (dC, dI) vwCl (wM q k (sI st 10 a1)) H := hP
  refine lv_iload_n hx hb dX10_says_5 rfl (lv_at hl 1 rfl) ?_
  refine lv_if_ne (tgt := 13) hx hb dX10_says_6 (by decide) (fun h6_1 => ?_) (fun h6_1 => ?_)
  · have he := (if_neg h6_1).symm.trans he
    refine lv_iconst (v := 0) hx hb dX10_says_13 (by decide) ?_
    exact W.zret (v := 0) hx hb hr rfl (fun t ht hW => ⟨⟨_, (), rfl, by show _ = Prod.fst _; rw [← he], by show va_P _ _ _ t.heap; rw [ht, ← he]; exact hP⟩, hS.F ht⟩) hS.2.2 dX10_says_14
  · have he := (if_pos h6_1).symm.trans he
    refine lv_iconst (v := 1) hx hb dX10_says_9 (by decide) ?_
    refine lv_goto (tgt := 14) hx hb dX10_says_10 (by decide) ?_
    exact W.zret (v := 1) hx hb hr rfl (fun t ht hW => ⟨⟨_, (), rfl, by show _ = Prod.fst _; rw [← he], by show va_P _ _ _ t.heap; rw [ht, ← he]; exact hP⟩, hS.F ht⟩) hS.2.2 dX10_says_14
set_option maxHeartbeats 4000000 in
set_option maxRecDepth 100000 in
theorem c_X10_isPurpose (l : Launch) (dC : Nat → ClassId) (dI : Nat → Nat → Nat) (q : Nat → Nat) (k : Nat → ClassId) (st : St) (a1 : Int32)  (res : Int32) (hres : sp_X10_isPurpose st a1 = res) : Met l yX10_isPurpose wsX10_isPurpose ({ frames := 1, cells := 0, slots := 0, locals := 22 } : Room) (va_Pc [.ref (q 0), .int a1] (fun U => va_P (dC, dI) vwCl (wM q k st) U.heap ∧ KM (dC, dI) k U)) (vp_Si (fun r => r = res)) 0 0 (fun _ => False) := by
  refine Met.ofW (cc := cX10_isPurpose) (maxL := 2) (ret := (some .boolean)) (by decide) rfl ?_
  intro p e s m args below meth c s₁ B hml hv
  obtain ⟨rfl, hP, hK⟩ := hv
  have hx := B.exec
  have hb := B.bytes
  have hr := B.returns
  have hts := atoms_spec (ws := wsX10_isPurpose) B.pre
  have hown : s.vm.findClass RX10 = some m.cls := findClass_of_methodNamed B.named
  have hlocks := B.notSynchronized
  have hi10 : ∀ w ∈ wsX100, w ∈ wsX10_isPurpose := by decide +kernel
  have hf7 := hts (.fieldLink RX10 7 "ConsentRegisterModel" "purposes" "I") (by decide +kernel)
  have hl := lv_entry ([.ref (q 0), .int a1]) (n := 2) (Nat.le_of_ble_eq_true rfl)
  rw [lg_entry_eq]
  generalize (lg_sl ([.ref (q 0), .int a1]) ++ List.replicate (2 - (lg_sl ([.ref (q 0), .int a1])).length) Slot.unset).toArray = ls at hl ⊢
  have hl : lv_has ls 2 [(0, .ref (q 0)), (1, .int a1)] := hl
  have he := hres
  unfold sp_X10_isPurpose at he
  refine lv_iload_n hx hb dX10_isPurpose_0 rfl (lv_at hl 1 rfl) ?_
  refine lv_iconst (v := 0) hx hb dX10_isPurpose_1 (by decide) ?_
  refine lv_aload_n hx hb dX10_isPurpose_2 rfl (lv_at hl 0 rfl) ?_
  refine va_get (D := (dC, dI)) (ci := 10) (v := .int (st.1 0)) (C := RX10) (T := TX10) (N := 45) hx hb hts hi10 hown hK.1 hP 0 rfl rfl 1 (by decide) hf7 (fun _ h9 => h9) rfl dX10_isPurpose_3 ?_
  refine lv_iconst (v := 1) hx hb dX10_isPurpose_6 (by decide) ?_
  refine lv_isub hx hb dX10_isPurpose_7 ?_
  refine vp_callSi (va_Run.run (va_runS (As := [.int a1, .int 0, .int ((st.1 0) - 1)]) (rest := []) ⟨hx, hb, hml, hown, hts⟩ (c_X10_in l a1 0 ((st.1 0) - 1) _ rfl) (va_cwS 3 hts gX10_isPurpose_X10_in rfl rfl rfl (by decide +kernel) ⟨Nat.le_of_ble_eq_true rfl, Nat.le_of_ble_eq_true rfl⟩) ⟨fb_T, fun U hU hW => ⟨rfl, trivial⟩⟩ rfl rfl hl.1 rfl (lv_room (Nat.le_of_ble_eq_true rfl)) dX10_isPurpose_8 ⟨Nat.le_of_ble_eq_true rfl, Nat.le_of_ble_eq_true rfl⟩)) (fun r9 e9 => ?_)
  subst e9
  exact W.zret (v := (sp_X10_in a1 0 ((st.1 0) - 1))) hx hb hr (nar_bool (b_X10_in _ _ _)) (fun t ht hW => ⟨_, rfl, he, ht⟩) (fun _ h => nomatch h) dX10_isPurpose_11
set_option maxHeartbeats 4000000 in
set_option maxRecDepth 100000 in
theorem c_X10_isKind (l : Launch) (dC : Nat → ClassId) (dI : Nat → Nat → Nat) (q : Nat → Nat) (k : Nat → ClassId) (st : St) (a1 : Int32)  (res : Int32) (hres : sp_X10_isKind st a1 = res) : Met l yX10_isKind wsX10_isKind ({ frames := 1, cells := 0, slots := 0, locals := 22 } : Room) (va_Pc [.ref (q 0), .int a1] (fun U => va_P (dC, dI) vwCl (wM q k st) U.heap ∧ KM (dC, dI) k U)) (vp_Si (fun r => r = res)) 0 0 (fun _ => False) := by
  refine Met.ofW (cc := cX10_isKind) (maxL := 2) (ret := (some .boolean)) (by decide) rfl ?_
  intro p e s m args below meth c s₁ B hml hv
  obtain ⟨rfl, hP, hK⟩ := hv
  have hx := B.exec
  have hb := B.bytes
  have hr := B.returns
  have hts := atoms_spec (ws := wsX10_isKind) B.pre
  have hown : s.vm.findClass RX10 = some m.cls := findClass_of_methodNamed B.named
  have hlocks := B.notSynchronized
  have hi10 : ∀ w ∈ wsX100, w ∈ wsX10_isKind := by decide +kernel
  have hf128 := hts (.fieldLink RX10 128 "ConsentRegisterModel" "kinds" "I") (by decide +kernel)
  have hl := lv_entry ([.ref (q 0), .int a1]) (n := 2) (Nat.le_of_ble_eq_true rfl)
  rw [lg_entry_eq]
  generalize (lg_sl ([.ref (q 0), .int a1]) ++ List.replicate (2 - (lg_sl ([.ref (q 0), .int a1])).length) Slot.unset).toArray = ls at hl ⊢
  have hl : lv_has ls 2 [(0, .ref (q 0)), (1, .int a1)] := hl
  have he := hres
  unfold sp_X10_isKind at he
  refine lv_iload_n hx hb dX10_isKind_0 rfl (lv_at hl 1 rfl) ?_
  refine lv_iconst (v := 0) hx hb dX10_isKind_1 (by decide) ?_
  refine lv_aload_n hx hb dX10_isKind_2 rfl (lv_at hl 0 rfl) ?_
  refine va_get (D := (dC, dI)) (ci := 10) (v := .int (st.1 1)) (C := RX10) (T := TX10) (N := 45) hx hb hts hi10 hown hK.1 hP 0 rfl rfl 3 (by decide) hf128 (fun _ h9 => h9) rfl dX10_isKind_3 ?_
  refine lv_iconst (v := 1) hx hb dX10_isKind_6 (by decide) ?_
  refine lv_isub hx hb dX10_isKind_7 ?_
  refine vp_callSi (va_Run.run (va_runS (As := [.int a1, .int 0, .int ((st.1 1) - 1)]) (rest := []) ⟨hx, hb, hml, hown, hts⟩ (c_X10_in l a1 0 ((st.1 1) - 1) _ rfl) (va_cwS 3 hts gX10_isKind_X10_in rfl rfl rfl (by decide +kernel) ⟨Nat.le_of_ble_eq_true rfl, Nat.le_of_ble_eq_true rfl⟩) ⟨fb_T, fun U hU hW => ⟨rfl, trivial⟩⟩ rfl rfl hl.1 rfl (lv_room (Nat.le_of_ble_eq_true rfl)) dX10_isKind_8 ⟨Nat.le_of_ble_eq_true rfl, Nat.le_of_ble_eq_true rfl⟩)) (fun r9 e9 => ?_)
  subst e9
  exact W.zret (v := (sp_X10_in a1 0 ((st.1 1) - 1))) hx hb hr (nar_bool (b_X10_in _ _ _)) (fun t ht hW => ⟨_, rfl, he, ht⟩) (fun _ h => nomatch h) dX10_isKind_11
set_option maxHeartbeats 4000000 in
set_option maxRecDepth 100000 in
theorem c_X10_purpose (l : Launch) (dC : Nat → ClassId) (dI : Nat → Nat → Nat) (q : Nat → Nat) (k : Nat → ClassId) (st : St) (a1 : Int32) (hq : ∀ i j, i < 35 → j < 35 → q i = q j → i = j) (hok : okM st) (res : Int32 × St) (hres : sp_X10_purpose st a1 = res) : Met l yX10_purpose wsX10_purpose ({ frames := 2, cells := 0, slots := 0, locals := 43 } : Room) (va_Pc [.ref (q 0), .int a1] (fun U => va_P (dC, dI) vwCl (wM q k st) U.heap ∧ KM (dC, dI) k U)) (va_Qi (fun r (_ : Unit) => r = res.1) (fun _ t => va_P (dC, dI) vwCl (wM q k res.2) t.heap) (aM q)) 0 0 (aM q) := by
  refine Met.ofW (cc := cX10_purpose) (maxL := 2) (ret := (some .int)) (by decide) rfl ?_
  intro p e s m args below meth c s₁ B hml hv
  obtain ⟨rfl, hP, hK⟩ := hv
  have hx := B.exec
  have hb := B.bytes
  have hr := B.returns
  have hts := atoms_spec (ws := wsX10_purpose) B.pre
  have hown : s.vm.findClass RX10 = some m.cls := findClass_of_methodNamed B.named
  have hlocks := B.notSynchronized
  have hS : va_S (aM q) s.heap s.heap [] := va_S.rf
  have hi10 : ∀ w ∈ wsX100, w ∈ wsX10_purpose := by decide +kernel
  have hf7 := hts (.fieldLink RX10 7 "ConsentRegisterModel" "purposes" "I") (by decide +kernel)
  have hf13 := hts (.fieldLink RX10 13 "ConsentRegisterModel" "parents" "[I") (by decide +kernel)
  have hl := lv_entry ([.ref (q 0), .int a1]) (n := 2) (Nat.le_of_ble_eq_true rfl)
  rw [lg_entry_eq]
  generalize (lg_sl ([.ref (q 0), .int a1]) ++ List.replicate (2 - (lg_sl ([.ref (q 0), .int a1])).length) Slot.unset).toArray = ls at hl ⊢
  have hl : lv_has ls 2 [(0, .ref (q 0)), (1, .int a1)] := hl
  have he := hres
  unfold sp_X10_purpose at he
  refine lv_aload_n hx hb dX10_purpose_0 rfl (lv_at hl 0 rfl) ?_
  refine lv_aload_n hx hb dX10_purpose_1 rfl (lv_at hl 0 rfl) ?_
  refine lv_iload_n hx hb dX10_purpose_2 rfl (lv_at hl 1 rfl) ?_
  refine vp_callSi (va_Run.run (va_runV (As := [.int a1]) (rest := [.ref (q 0)]) ⟨hx, hb, hml, hown, hts⟩ (c_X10_isPurpose l dC dI q k st a1 _ rfl) (cwV 1 hts gX10_purpose_X10_isPurpose rfl rfl rfl (by decide +kernel) ⟨Nat.le_of_ble_eq_true rfl, Nat.le_of_ble_eq_true rfl⟩) ⟨fb_M, va_recv hK.1 hP (ci := 10) (q0 := 0) rfl rfl, fun U hU hW => ⟨rfl, by rw [hU]; exact hP, hK.warm hW⟩⟩ rfl rfl hl.1 rfl (lv_room (Nat.le_of_ble_eq_true rfl)) dX10_purpose_3 ⟨Nat.le_of_ble_eq_true rfl, Nat.le_of_ble_eq_true rfl⟩)) (fun r9 e9 => ?_)
  subst e9
  refine lv_if_ne (tgt := 13) hx hb dX10_purpose_6 (by decide) (fun h6_1 => ?_) (fun h6_1 => ?_)
  · have he := (if_neg h6_1).symm.trans he
    refine lv_aload_n hx hb dX10_purpose_13 rfl (lv_at hl 0 rfl) ?_
    refine va_get (D := (dC, dI)) (ci := 10) (v := .int (st.1 0)) (C := RX10) (T := TX10) (N := 45) hx hb hts hi10 hown hK.1 hP 0 rfl rfl 1 (by decide) hf7 (fun _ h9 => h9) rfl dX10_purpose_14 ?_
    refine lv_bipush (v := 16) hx hb dX10_purpose_17 (by decide) ?_
    refine lv_icmp_ne (tgt := 26) hx hb dX10_purpose_19 (by decide) (fun h19_2 => ?_) (fun h19_2 => ?_)
    · have he := (if_neg h19_2).symm.trans he
      refine lv_iconst (v := 0) hx hb dX10_purpose_26 (by decide) ?_
      refine va_calli (va_runV (As := [.int 0]) (rest := []) ⟨hx, hb, hml, hown, hts⟩ (c_X10_says l dC dI q k st 0 hq _ rfl) (cwV 1 hts gX10_purpose_X10_says rfl rfl rfl (by decide +kernel) ⟨Nat.le_of_ble_eq_true rfl, Nat.le_of_ble_eq_true rfl⟩) ⟨fb_M, va_recv hK.1 hP (ci := 10) (q0 := 0) rfl rfl, fun U hU hW => ⟨rfl, by rw [hU]; exact hP, hK.warm hW⟩⟩ rfl rfl hl.1 rfl (lv_room (Nat.le_of_ble_eq_true rfl)) dX10_purpose_27 ⟨Nat.le_of_ble_eq_true rfl, Nat.le_of_ble_eq_true rfl⟩) hS (fun _ _ h => h) (fun _ h => h) (fun r9 u9 t9 H locs ht9 hv9 e9 hB9 hz9 hk9 hS => ?_)
      rw [ht9, says_2] at hB9
      replace e9 : r9 = 1 := e9.trans (saysV_0 _)
      subst e9
      have hP : va_P (dC, dI) vwCl (wM q k (sI st 10 0)) H := hB9
      refine lv_if_ne (tgt := 35) hx hb dX10_purpose_30 (by decide) (fun _ => ?_) (fun h9 => absurd h9 (by decide))
      refine lv_aload_n hx hb dX10_purpose_35 rfl (lv_at hl 0 rfl) ?_
      refine va_get (D := (dC, dI)) (ci := 10) (v := .ref (q 1)) (C := RX10) (T := TX10) (N := 45) hx hb hts hi10 hown hK.1 hP 0 rfl rfl 2 (by decide) hf13 (fun _ h9 => h9) rfl dX10_purpose_36 ?_
      refine lv_aload_n hx hb dX10_purpose_39 rfl (lv_at hl 0 rfl) ?_
      refine va_get (D := (dC, dI)) (ci := 10) (v := .int (st.1 0)) (C := RX10) (T := TX10) (N := 45) hx hb hts hi10 hown hK.1 hP 0 rfl rfl 1 (by decide) hf7 (fun _ h9 => h9) rfl dX10_purpose_40 ?_
      refine lv_iload_n hx hb dX10_purpose_43 rfl (lv_at hl 1 rfl) ?_
      refine va_iast hx hb hK.1 hP (dM_of hq) hS 1 0 (f := st.2.1 0) (n := 16) (cA := k 0) rfl rfl (i := st.1 0) (x := a1) (ob_X10_purpose_44_3 st a1 hok h6_1 h19_2) dX10_purpose_44 (fun H locs hP _ hS => ?_)
      have hP : va_P (dC, dI) vwCl (wM q k (sA (sI st 10 0) 0 ((st.1 0).toNatClampNeg) a1)) H := hP
      refine lv_aload_n hx hb dX10_purpose_45 rfl (lv_at hl 0 rfl) ?_
      refine lv_dup hx hb dX10_purpose_46 rfl ?_
      refine va_get (D := (dC, dI)) (ci := 10) (v := .int (st.1 0)) (C := RX10) (T := TX10) (N := 45) hx hb hts hi10 hown hK.1 hP 0 rfl rfl 1 (by decide) hf7 (fun _ h9 => h9) rfl dX10_purpose_47 ?_
      refine lv_iconst (v := 1) hx hb dX10_purpose_50 (by decide) ?_
      refine lv_iadd hx hb dX10_purpose_51 ?_
      refine va_put (D := (dC, dI)) (ci := 10) (v := .int ((st.1 0) + 1)) (ty := .int) (C := RX10) (T := TX10) (N := 45) hx hb hts hi10 tyX10 tyX10_ok nmX10 hown hK.1 hP (dM_of hq) hS 0 rfl rfl 1 (by decide) hf7 (fun _ h9 => h9) rfl (by decide +kernel) rfl rfl (Nat.le_of_ble_eq_true rfl) dX10_purpose_52 (fun H locs hP _ hS => ?_)
      have hP : va_P (dC, dI) vwCl (wM q k (sI (sA (sI st 10 0) 0 ((st.1 0).toNatClampNeg) a1) 0 ((st.1 0) + 1))) H := hP
      refine lv_aload_n hx hb dX10_purpose_55 rfl (lv_at hl 0 rfl) ?_
      refine va_get (D := (dC, dI)) (ci := 10) (v := .int ((st.1 0) + 1)) (C := RX10) (T := TX10) (N := 45) hx hb hts hi10 hown hK.1 hP 0 rfl rfl 1 (by decide) hf7 (fun _ h9 => h9) rfl dX10_purpose_56 ?_
      refine lv_iconst (v := 1) hx hb dX10_purpose_59 (by decide) ?_
      refine lv_isub hx hb dX10_purpose_60 ?_
      exact W.iret (v := ((st.1 0) + 1) - 1) hx hb hr (fun t ht hW => ⟨⟨_, (), rfl, by show _ = Prod.fst _; rw [← he], by show va_P _ _ _ t.heap; rw [ht, ← he]; exact hP⟩, hS.F ht⟩) hS.2.2 dX10_purpose_61
    · have he := (if_pos h19_2).symm.trans he
      refine lv_iconst (v := 2) hx hb dX10_purpose_22 (by decide) ?_
      refine lv_goto (tgt := 27) hx hb dX10_purpose_23 (by decide) ?_
      refine va_calli (va_runV (As := [.int 2]) (rest := []) ⟨hx, hb, hml, hown, hts⟩ (c_X10_says l dC dI q k st 2 hq _ rfl) (cwV 1 hts gX10_purpose_X10_says rfl rfl rfl (by decide +kernel) ⟨Nat.le_of_ble_eq_true rfl, Nat.le_of_ble_eq_true rfl⟩) ⟨fb_M, va_recv hK.1 hP (ci := 10) (q0 := 0) rfl rfl, fun U hU hW => ⟨rfl, by rw [hU]; exact hP, hK.warm hW⟩⟩ rfl rfl hl.1 rfl (lv_room (Nat.le_of_ble_eq_true rfl)) dX10_purpose_27 ⟨Nat.le_of_ble_eq_true rfl, Nat.le_of_ble_eq_true rfl⟩) hS (fun _ _ h => h) (fun _ h => h) (fun r9 u9 t9 H locs ht9 hv9 e9 hB9 hz9 hk9 hS => ?_)
      rw [ht9, says_2] at hB9
      replace e9 : r9 = 0 := e9.trans (saysV_2 _)
      subst e9
      have hP : va_P (dC, dI) vwCl (wM q k (sI st 10 2)) H := hB9
      refine lv_if_ne (tgt := 35) hx hb dX10_purpose_30 (by decide) (fun h9 => absurd h9 (by decide)) (fun _ => ?_)
      refine lv_iconst (v := 0) hx hb dX10_purpose_33 (by decide) ?_
      exact W.iret (v := 0) hx hb hr (fun t ht hW => ⟨⟨_, (), rfl, by show _ = Prod.fst _; rw [← he], by show va_P _ _ _ t.heap; rw [ht, ← he]; exact hP⟩, hS.F ht⟩) hS.2.2 dX10_purpose_34
  · have he := (if_pos h6_1).symm.trans he
    refine lv_iconst (v := 1) hx hb dX10_purpose_9 (by decide) ?_
    refine lv_goto (tgt := 27) hx hb dX10_purpose_10 (by decide) ?_
    refine va_calli (va_runV (As := [.int 1]) (rest := []) ⟨hx, hb, hml, hown, hts⟩ (c_X10_says l dC dI q k st 1 hq _ rfl) (cwV 1 hts gX10_purpose_X10_says rfl rfl rfl (by decide +kernel) ⟨Nat.le_of_ble_eq_true rfl, Nat.le_of_ble_eq_true rfl⟩) ⟨fb_M, va_recv hK.1 hP (ci := 10) (q0 := 0) rfl rfl, fun U hU hW => ⟨rfl, by rw [hU]; exact hP, hK.warm hW⟩⟩ rfl rfl hl.1 rfl (lv_room (Nat.le_of_ble_eq_true rfl)) dX10_purpose_27 ⟨Nat.le_of_ble_eq_true rfl, Nat.le_of_ble_eq_true rfl⟩) hS (fun _ _ h => h) (fun _ h => h) (fun r9 u9 t9 H locs ht9 hv9 e9 hB9 hz9 hk9 hS => ?_)
    rw [ht9, says_2] at hB9
    replace e9 : r9 = 0 := e9.trans (saysV_1 _)
    subst e9
    have hP : va_P (dC, dI) vwCl (wM q k (sI st 10 1)) H := hB9
    refine lv_if_ne (tgt := 35) hx hb dX10_purpose_30 (by decide) (fun h9 => absurd h9 (by decide)) (fun _ => ?_)
    refine lv_iconst (v := 0) hx hb dX10_purpose_33 (by decide) ?_
    exact W.iret (v := 0) hx hb hr (fun t ht hW => ⟨⟨_, (), rfl, by show _ = Prod.fst _; rw [← he], by show va_P _ _ _ t.heap; rw [ht, ← he]; exact hP⟩, hS.F ht⟩) hS.2.2 dX10_purpose_34
set_option maxHeartbeats 4000000 in
set_option maxRecDepth 100000 in
theorem c_X10_kind (l : Launch) (dC : Nat → ClassId) (dI : Nat → Nat → Nat) (q : Nat → Nat) (k : Nat → ClassId) (st : St) (a1 : Int32) (hq : ∀ i j, i < 35 → j < 35 → q i = q j → i = j) (hok : okM st) (res : Int32 × St) (hres : sp_X10_kind st a1 = res) : Met l yX10_kind wsX10_kind ({ frames := 1, cells := 0, slots := 0, locals := 22 } : Room) (va_Pc [.ref (q 0), .int a1] (fun U => va_P (dC, dI) vwCl (wM q k st) U.heap ∧ KM (dC, dI) k U)) (va_Qi (fun r (_ : Unit) => r = res.1) (fun _ t => va_P (dC, dI) vwCl (wM q k res.2) t.heap) (aM q)) 0 0 (aM q) := by
  refine Met.ofW (cc := cX10_kind) (maxL := 2) (ret := (some .int)) (by decide) rfl ?_
  intro p e s m args below meth c s₁ B hml hv
  obtain ⟨rfl, hP, hK⟩ := hv
  have hx := B.exec
  have hb := B.bytes
  have hr := B.returns
  have hts := atoms_spec (ws := wsX10_kind) B.pre
  have hown : s.vm.findClass RX10 = some m.cls := findClass_of_methodNamed B.named
  have hlocks := B.notSynchronized
  have hS : va_S (aM q) s.heap s.heap [] := va_S.rf
  have hi10 : ∀ w ∈ wsX100, w ∈ wsX10_kind := by decide +kernel
  have hf17 := hts (.fieldLink RX10 17 "ConsentRegisterModel" "retentions" "[I") (by decide +kernel)
  have hf128 := hts (.fieldLink RX10 128 "ConsentRegisterModel" "kinds" "I") (by decide +kernel)
  have hl := lv_entry ([.ref (q 0), .int a1]) (n := 2) (Nat.le_of_ble_eq_true rfl)
  rw [lg_entry_eq]
  generalize (lg_sl ([.ref (q 0), .int a1]) ++ List.replicate (2 - (lg_sl ([.ref (q 0), .int a1])).length) Slot.unset).toArray = ls at hl ⊢
  have hl : lv_has ls 2 [(0, .ref (q 0)), (1, .int a1)] := hl
  have he := hres
  unfold sp_X10_kind at he
  refine lv_aload_n hx hb dX10_kind_0 rfl (lv_at hl 0 rfl) ?_
  refine lv_iload_n hx hb dX10_kind_1 rfl (lv_at hl 1 rfl) ?_
  refine lv_iconst (v := 1) hx hb dX10_kind_2 (by decide) ?_
  refine lv_sipush (v := 5000) hx hb dX10_kind_3 (by decide) ?_
  refine vp_callSi (va_Run.run (va_runS (As := [.int a1, .int 1, .int 5000]) (rest := [.ref (q 0)]) ⟨hx, hb, hml, hown, hts⟩ (c_X10_in l a1 1 5000 _ rfl) (va_cwS 3 hts gX10_kind_X10_in rfl rfl rfl (by decide +kernel) ⟨Nat.le_of_ble_eq_true rfl, Nat.le_of_ble_eq_true rfl⟩) ⟨fb_T, fun U hU hW => ⟨rfl, trivial⟩⟩ rfl rfl hl.1 rfl (lv_room (Nat.le_of_ble_eq_true rfl)) dX10_kind_6 ⟨Nat.le_of_ble_eq_true rfl, Nat.le_of_ble_eq_true rfl⟩)) (fun r9 e9 => ?_)
  subst e9
  refine lv_if_ne (tgt := 16) hx hb dX10_kind_9 (by decide) (fun h9_1 => ?_) (fun h9_1 => ?_)
  · have he := (if_neg h9_1).symm.trans he
    refine lv_aload_n hx hb dX10_kind_16 rfl (lv_at hl 0 rfl) ?_
    refine va_get (D := (dC, dI)) (ci := 10) (v := .int (st.1 1)) (C := RX10) (T := TX10) (N := 45) hx hb hts hi10 hown hK.1 hP 0 rfl rfl 3 (by decide) hf128 (fun _ h9 => h9) rfl dX10_kind_17 ?_
    refine lv_bipush (v := 8) hx hb dX10_kind_20 (by decide) ?_
    refine lv_icmp_ne (tgt := 29) hx hb dX10_kind_22 (by decide) (fun h22_2 => ?_) (fun h22_2 => ?_)
    · have he := (if_neg h22_2).symm.trans he
      refine lv_iconst (v := 0) hx hb dX10_kind_29 (by decide) ?_
      refine va_calli (va_runV (As := [.int 0]) (rest := []) ⟨hx, hb, hml, hown, hts⟩ (c_X10_says l dC dI q k st 0 hq _ rfl) (cwV 1 hts gX10_kind_X10_says rfl rfl rfl (by decide +kernel) ⟨Nat.le_of_ble_eq_true rfl, Nat.le_of_ble_eq_true rfl⟩) ⟨fb_M, va_recv hK.1 hP (ci := 10) (q0 := 0) rfl rfl, fun U hU hW => ⟨rfl, by rw [hU]; exact hP, hK.warm hW⟩⟩ rfl rfl hl.1 rfl (lv_room (Nat.le_of_ble_eq_true rfl)) dX10_kind_30 ⟨Nat.le_of_ble_eq_true rfl, Nat.le_of_ble_eq_true rfl⟩) hS (fun _ _ h => h) (fun _ h => h) (fun r9 u9 t9 H locs ht9 hv9 e9 hB9 hz9 hk9 hS => ?_)
      rw [ht9, says_2] at hB9
      replace e9 : r9 = 1 := e9.trans (saysV_0 _)
      subst e9
      have hP : va_P (dC, dI) vwCl (wM q k (sI st 10 0)) H := hB9
      refine lv_if_ne (tgt := 38) hx hb dX10_kind_33 (by decide) (fun _ => ?_) (fun h9 => absurd h9 (by decide))
      refine lv_aload_n hx hb dX10_kind_38 rfl (lv_at hl 0 rfl) ?_
      refine va_get (D := (dC, dI)) (ci := 10) (v := .ref (q 2)) (C := RX10) (T := TX10) (N := 45) hx hb hts hi10 hown hK.1 hP 0 rfl rfl 4 (by decide) hf17 (fun _ h9 => h9) rfl dX10_kind_39 ?_
      refine lv_aload_n hx hb dX10_kind_42 rfl (lv_at hl 0 rfl) ?_
      refine va_get (D := (dC, dI)) (ci := 10) (v := .int (st.1 1)) (C := RX10) (T := TX10) (N := 45) hx hb hts hi10 hown hK.1 hP 0 rfl rfl 3 (by decide) hf128 (fun _ h9 => h9) rfl dX10_kind_43 ?_
      refine lv_iload_n hx hb dX10_kind_46 rfl (lv_at hl 1 rfl) ?_
      refine va_iast hx hb hK.1 hP (dM_of hq) hS 2 1 (f := st.2.1 1) (n := 8) (cA := k 1) rfl rfl (i := st.1 1) (x := a1) (ob_X10_kind_47_3 st a1 hok h9_1 h22_2) dX10_kind_47 (fun H locs hP _ hS => ?_)
      have hP : va_P (dC, dI) vwCl (wM q k (sA (sI st 10 0) 1 ((st.1 1).toNatClampNeg) a1)) H := hP
      refine lv_aload_n hx hb dX10_kind_48 rfl (lv_at hl 0 rfl) ?_
      refine lv_dup hx hb dX10_kind_49 rfl ?_
      refine va_get (D := (dC, dI)) (ci := 10) (v := .int (st.1 1)) (C := RX10) (T := TX10) (N := 45) hx hb hts hi10 hown hK.1 hP 0 rfl rfl 3 (by decide) hf128 (fun _ h9 => h9) rfl dX10_kind_50 ?_
      refine lv_iconst (v := 1) hx hb dX10_kind_53 (by decide) ?_
      refine lv_iadd hx hb dX10_kind_54 ?_
      refine va_put (D := (dC, dI)) (ci := 10) (v := .int ((st.1 1) + 1)) (ty := .int) (C := RX10) (T := TX10) (N := 45) hx hb hts hi10 tyX10 tyX10_ok nmX10 hown hK.1 hP (dM_of hq) hS 0 rfl rfl 3 (by decide) hf128 (fun _ h9 => h9) rfl (by decide +kernel) rfl rfl (Nat.le_of_ble_eq_true rfl) dX10_kind_55 (fun H locs hP _ hS => ?_)
      have hP : va_P (dC, dI) vwCl (wM q k (sI (sA (sI st 10 0) 1 ((st.1 1).toNatClampNeg) a1) 1 ((st.1 1) + 1))) H := hP
      refine lv_aload_n hx hb dX10_kind_58 rfl (lv_at hl 0 rfl) ?_
      refine va_get (D := (dC, dI)) (ci := 10) (v := .int ((st.1 1) + 1)) (C := RX10) (T := TX10) (N := 45) hx hb hts hi10 hown hK.1 hP 0 rfl rfl 3 (by decide) hf128 (fun _ h9 => h9) rfl dX10_kind_59 ?_
      refine lv_iconst (v := 1) hx hb dX10_kind_62 (by decide) ?_
      refine lv_isub hx hb dX10_kind_63 ?_
      exact W.iret (v := ((st.1 1) + 1) - 1) hx hb hr (fun t ht hW => ⟨⟨_, (), rfl, by show _ = Prod.fst _; rw [← he], by show va_P _ _ _ t.heap; rw [ht, ← he]; exact hP⟩, hS.F ht⟩) hS.2.2 dX10_kind_64
    · have he := (if_pos h22_2).symm.trans he
      refine lv_iconst (v := 2) hx hb dX10_kind_25 (by decide) ?_
      refine lv_goto (tgt := 30) hx hb dX10_kind_26 (by decide) ?_
      refine va_calli (va_runV (As := [.int 2]) (rest := []) ⟨hx, hb, hml, hown, hts⟩ (c_X10_says l dC dI q k st 2 hq _ rfl) (cwV 1 hts gX10_kind_X10_says rfl rfl rfl (by decide +kernel) ⟨Nat.le_of_ble_eq_true rfl, Nat.le_of_ble_eq_true rfl⟩) ⟨fb_M, va_recv hK.1 hP (ci := 10) (q0 := 0) rfl rfl, fun U hU hW => ⟨rfl, by rw [hU]; exact hP, hK.warm hW⟩⟩ rfl rfl hl.1 rfl (lv_room (Nat.le_of_ble_eq_true rfl)) dX10_kind_30 ⟨Nat.le_of_ble_eq_true rfl, Nat.le_of_ble_eq_true rfl⟩) hS (fun _ _ h => h) (fun _ h => h) (fun r9 u9 t9 H locs ht9 hv9 e9 hB9 hz9 hk9 hS => ?_)
      rw [ht9, says_2] at hB9
      replace e9 : r9 = 0 := e9.trans (saysV_2 _)
      subst e9
      have hP : va_P (dC, dI) vwCl (wM q k (sI st 10 2)) H := hB9
      refine lv_if_ne (tgt := 38) hx hb dX10_kind_33 (by decide) (fun h9 => absurd h9 (by decide)) (fun _ => ?_)
      refine lv_iconst (v := 0) hx hb dX10_kind_36 (by decide) ?_
      exact W.iret (v := 0) hx hb hr (fun t ht hW => ⟨⟨_, (), rfl, by show _ = Prod.fst _; rw [← he], by show va_P _ _ _ t.heap; rw [ht, ← he]; exact hP⟩, hS.F ht⟩) hS.2.2 dX10_kind_37
  · have he := (if_pos h9_1).symm.trans he
    refine lv_iconst (v := 1) hx hb dX10_kind_12 (by decide) ?_
    refine lv_goto (tgt := 30) hx hb dX10_kind_13 (by decide) ?_
    refine va_calli (va_runV (As := [.int 1]) (rest := []) ⟨hx, hb, hml, hown, hts⟩ (c_X10_says l dC dI q k st 1 hq _ rfl) (cwV 1 hts gX10_kind_X10_says rfl rfl rfl (by decide +kernel) ⟨Nat.le_of_ble_eq_true rfl, Nat.le_of_ble_eq_true rfl⟩) ⟨fb_M, va_recv hK.1 hP (ci := 10) (q0 := 0) rfl rfl, fun U hU hW => ⟨rfl, by rw [hU]; exact hP, hK.warm hW⟩⟩ rfl rfl hl.1 rfl (lv_room (Nat.le_of_ble_eq_true rfl)) dX10_kind_30 ⟨Nat.le_of_ble_eq_true rfl, Nat.le_of_ble_eq_true rfl⟩) hS (fun _ _ h => h) (fun _ h => h) (fun r9 u9 t9 H locs ht9 hv9 e9 hB9 hz9 hk9 hS => ?_)
    rw [ht9, says_2] at hB9
    replace e9 : r9 = 0 := e9.trans (saysV_1 _)
    subst e9
    have hP : va_P (dC, dI) vwCl (wM q k (sI st 10 1)) H := hB9
    refine lv_if_ne (tgt := 38) hx hb dX10_kind_33 (by decide) (fun h9 => absurd h9 (by decide)) (fun _ => ?_)
    refine lv_iconst (v := 0) hx hb dX10_kind_36 (by decide) ?_
    exact W.iret (v := 0) hx hb hr (fun t ht hW => ⟨⟨_, (), rfl, by show _ = Prod.fst _; rw [← he], by show va_P _ _ _ t.heap; rw [ht, ← he]; exact hP⟩, hS.F ht⟩) hS.2.2 dX10_kind_37
set_option maxHeartbeats 4000000 in
set_option maxRecDepth 100000 in
theorem c_X10_consent (l : Launch) (dC : Nat → ClassId) (dI : Nat → Nat → Nat) (q : Nat → Nat) (k : Nat → ClassId) (st : St) (a1 : Int32) (a2 : Int32) (a3 : Int32) (a4 : Int32) (hq : ∀ i j, i < 35 → j < 35 → q i = q j → i = j) (hok : okM st) (res : Int32 × St) (hres : sp_X10_consent st a1 a2 a3 a4 = res) : Met l yX10_consent wsX10_consent ({ frames := 2, cells := 0, slots := 0, locals := 43 } : Room) (va_Pc [.ref (q 0), .int a1, .int a2, .int a3, .int a4] (fun U => va_P (dC, dI) vwCl (wM q k st) U.heap ∧ KM (dC, dI) k U)) (va_Qi (fun r (_ : Unit) => r = res.1) (fun _ t => va_P (dC, dI) vwCl (wM q k res.2) t.heap) (aM q)) 0 0 (aM q) := by
  refine Met.ofW (cc := cX10_consent) (maxL := 5) (ret := (some .int)) (by decide) rfl ?_
  intro p e s m args below meth c s₁ B hml hv
  obtain ⟨rfl, hP, hK⟩ := hv
  have hx := B.exec
  have hb := B.bytes
  have hr := B.returns
  have hts := atoms_spec (ws := wsX10_consent) B.pre
  have hown : s.vm.findClass RX10 = some m.cls := findClass_of_methodNamed B.named
  have hlocks := B.notSynchronized
  have hS : va_S (aM q) s.heap s.heap [] := va_S.rf
  have hi10 : ∀ w ∈ wsX100, w ∈ wsX10_consent := by decide +kernel
  have hf20 := hts (.fieldLink RX10 20 "ConsentRegisterModel" "consentPerson" "[I") (by decide +kernel)
  have hf23 := hts (.fieldLink RX10 23 "ConsentRegisterModel" "consentPurpose" "[I") (by decide +kernel)
  have hf26 := hts (.fieldLink RX10 26 "ConsentRegisterModel" "consentMinute" "[I") (by decide +kernel)
  have hf29 := hts (.fieldLink RX10 29 "ConsentRegisterModel" "consentSays" "[Z") (by decide +kernel)
  have hf145 := hts (.fieldLink RX10 145 "ConsentRegisterModel" "consents" "I") (by decide +kernel)
  have hl := lv_entry ([.ref (q 0), .int a1, .int a2, .int a3, .int a4]) (n := 5) (Nat.le_of_ble_eq_true rfl)
  rw [lg_entry_eq]
  generalize (lg_sl ([.ref (q 0), .int a1, .int a2, .int a3, .int a4]) ++ List.replicate (5 - (lg_sl ([.ref (q 0), .int a1, .int a2, .int a3, .int a4])).length) Slot.unset).toArray = ls at hl ⊢
  have hl : lv_has ls 5 [(0, .ref (q 0)), (1, .int a1), (2, .int a2), (3, .int a3), (4, .int a4)] := hl
  have he := hres
  unfold sp_X10_consent at he
  refine lv_aload_n hx hb dX10_consent_0 rfl (lv_at hl 0 rfl) ?_
  refine lv_iload_n hx hb dX10_consent_1 rfl (lv_at hl 1 rfl) ?_
  refine vp_callSi (va_Run.run (va_runS (As := [.int a1]) (rest := [.ref (q 0)]) ⟨hx, hb, hml, hown, hts⟩ (c_X10_isPerson l a1 _ rfl) (va_cwS 1 hts gX10_consent_X10_isPerson rfl rfl rfl (by decide +kernel) ⟨Nat.le_of_ble_eq_true rfl, Nat.le_of_ble_eq_true rfl⟩) ⟨fb_T, fun U hU hW => ⟨rfl, trivial⟩⟩ rfl rfl hl.1 rfl (lv_room (Nat.le_of_ble_eq_true rfl)) dX10_consent_2 ⟨Nat.le_of_ble_eq_true rfl, Nat.le_of_ble_eq_true rfl⟩)) (fun r9 e9 => ?_)
  subst e9
  refine lv_if_eq (tgt := 24) hx hb dX10_consent_5 (by decide) (fun h5_1 => ?_) (fun h5_1 => ?_)
  · have he := (if_pos h5_1).symm.trans he
    refine lv_iconst (v := 1) hx hb dX10_consent_24 (by decide) ?_
    refine lv_goto (tgt := 42) hx hb dX10_consent_25 (by decide) ?_
    refine va_calli (va_runV (As := [.int 1]) (rest := []) ⟨hx, hb, hml, hown, hts⟩ (c_X10_says l dC dI q k st 1 hq _ rfl) (cwV 1 hts gX10_consent_X10_says rfl rfl rfl (by decide +kernel) ⟨Nat.le_of_ble_eq_true rfl, Nat.le_of_ble_eq_true rfl⟩) ⟨fb_M, va_recv hK.1 hP (ci := 10) (q0 := 0) rfl rfl, fun U hU hW => ⟨rfl, by rw [hU]; exact hP, hK.warm hW⟩⟩ rfl rfl hl.1 rfl (lv_room (Nat.le_of_ble_eq_true rfl)) dX10_consent_42 ⟨Nat.le_of_ble_eq_true rfl, Nat.le_of_ble_eq_true rfl⟩) hS (fun _ _ h => h) (fun _ h => h) (fun r9 u9 t9 H locs ht9 hv9 e9 hB9 hz9 hk9 hS => ?_)
    rw [ht9, says_2] at hB9
    replace e9 : r9 = 0 := e9.trans (saysV_1 _)
    subst e9
    have hP : va_P (dC, dI) vwCl (wM q k (sI st 10 1)) H := hB9
    refine lv_if_ne (tgt := 50) hx hb dX10_consent_45 (by decide) (fun h9 => absurd h9 (by decide)) (fun _ => ?_)
    refine lv_iconst (v := 0) hx hb dX10_consent_48 (by decide) ?_
    exact W.iret (v := 0) hx hb hr (fun t ht hW => ⟨⟨_, (), rfl, by show _ = Prod.fst _; rw [← he], by show va_P _ _ _ t.heap; rw [ht, ← he]; exact hP⟩, hS.F ht⟩) hS.2.2 dX10_consent_49
  · have he := (if_neg h5_1).symm.trans he
    refine lv_aload_n hx hb dX10_consent_8 rfl (lv_at hl 0 rfl) ?_
    refine lv_iload_n hx hb dX10_consent_9 rfl (lv_at hl 2 rfl) ?_
    refine vp_callSi (va_Run.run (va_runV (As := [.int a2]) (rest := [.ref (q 0)]) ⟨hx, hb, hml, hown, hts⟩ (c_X10_isPurpose l dC dI q k st a2 _ rfl) (cwV 1 hts gX10_consent_X10_isPurpose rfl rfl rfl (by decide +kernel) ⟨Nat.le_of_ble_eq_true rfl, Nat.le_of_ble_eq_true rfl⟩) ⟨fb_M, va_recv hK.1 hP (ci := 10) (q0 := 0) rfl rfl, fun U hU hW => ⟨rfl, by rw [hU]; exact hP, hK.warm hW⟩⟩ rfl rfl hl.1 rfl (lv_room (Nat.le_of_ble_eq_true rfl)) dX10_consent_10 ⟨Nat.le_of_ble_eq_true rfl, Nat.le_of_ble_eq_true rfl⟩)) (fun r9 e9 => ?_)
    subst e9
    refine lv_if_eq (tgt := 24) hx hb dX10_consent_13 (by decide) (fun h13_2 => ?_) (fun h13_2 => ?_)
    · have he := (if_pos h13_2).symm.trans he
      refine lv_iconst (v := 1) hx hb dX10_consent_24 (by decide) ?_
      refine lv_goto (tgt := 42) hx hb dX10_consent_25 (by decide) ?_
      refine va_calli (va_runV (As := [.int 1]) (rest := []) ⟨hx, hb, hml, hown, hts⟩ (c_X10_says l dC dI q k st 1 hq _ rfl) (cwV 1 hts gX10_consent_X10_says rfl rfl rfl (by decide +kernel) ⟨Nat.le_of_ble_eq_true rfl, Nat.le_of_ble_eq_true rfl⟩) ⟨fb_M, va_recv hK.1 hP (ci := 10) (q0 := 0) rfl rfl, fun U hU hW => ⟨rfl, by rw [hU]; exact hP, hK.warm hW⟩⟩ rfl rfl hl.1 rfl (lv_room (Nat.le_of_ble_eq_true rfl)) dX10_consent_42 ⟨Nat.le_of_ble_eq_true rfl, Nat.le_of_ble_eq_true rfl⟩) hS (fun _ _ h => h) (fun _ h => h) (fun r9 u9 t9 H locs ht9 hv9 e9 hB9 hz9 hk9 hS => ?_)
      rw [ht9, says_2] at hB9
      replace e9 : r9 = 0 := e9.trans (saysV_1 _)
      subst e9
      have hP : va_P (dC, dI) vwCl (wM q k (sI st 10 1)) H := hB9
      refine lv_if_ne (tgt := 50) hx hb dX10_consent_45 (by decide) (fun h9 => absurd h9 (by decide)) (fun _ => ?_)
      refine lv_iconst (v := 0) hx hb dX10_consent_48 (by decide) ?_
      exact W.iret (v := 0) hx hb hr (fun t ht hW => ⟨⟨_, (), rfl, by show _ = Prod.fst _; rw [← he], by show va_P _ _ _ t.heap; rw [ht, ← he]; exact hP⟩, hS.F ht⟩) hS.2.2 dX10_consent_49
    · have he := (if_neg h13_2).symm.trans he
      refine lv_iload hx hb dX10_consent_16 (lv_at hl 4 rfl) ?_
      refine vp_callSi (va_Run.run (va_runS (As := [.int a4]) (rest := [.ref (q 0)]) ⟨hx, hb, hml, hown, hts⟩ (c_X10_isMinute l a4 _ rfl) (va_cwS 1 hts gX10_consent_X10_isMinute rfl rfl rfl (by decide +kernel) ⟨Nat.le_of_ble_eq_true rfl, Nat.le_of_ble_eq_true rfl⟩) ⟨fb_T, fun U hU hW => ⟨rfl, trivial⟩⟩ rfl rfl hl.1 rfl (lv_room (Nat.le_of_ble_eq_true rfl)) dX10_consent_18 ⟨Nat.le_of_ble_eq_true rfl, Nat.le_of_ble_eq_true rfl⟩)) (fun r9 e9 => ?_)
      subst e9
      refine lv_if_ne (tgt := 28) hx hb dX10_consent_21 (by decide) (fun h21_3 => ?_) (fun h21_3 => ?_)
      · have he := (if_neg h21_3).symm.trans he
        refine lv_aload_n hx hb dX10_consent_28 rfl (lv_at hl 0 rfl) ?_
        refine va_get (D := (dC, dI)) (ci := 10) (v := .int (st.1 2)) (C := RX10) (T := TX10) (N := 45) hx hb hts hi10 hown hK.1 hP 0 rfl rfl 5 (by decide) hf145 (fun _ h9 => h9) rfl dX10_consent_29 ?_
        refine lv_bipush (v := 100) hx hb dX10_consent_32 (by decide) ?_
        refine lv_icmp_ne (tgt := 41) hx hb dX10_consent_34 (by decide) (fun h34_4 => ?_) (fun h34_4 => ?_)
        · have he := (if_neg h34_4).symm.trans he
          refine lv_iconst (v := 0) hx hb dX10_consent_41 (by decide) ?_
          refine va_calli (va_runV (As := [.int 0]) (rest := []) ⟨hx, hb, hml, hown, hts⟩ (c_X10_says l dC dI q k st 0 hq _ rfl) (cwV 1 hts gX10_consent_X10_says rfl rfl rfl (by decide +kernel) ⟨Nat.le_of_ble_eq_true rfl, Nat.le_of_ble_eq_true rfl⟩) ⟨fb_M, va_recv hK.1 hP (ci := 10) (q0 := 0) rfl rfl, fun U hU hW => ⟨rfl, by rw [hU]; exact hP, hK.warm hW⟩⟩ rfl rfl hl.1 rfl (lv_room (Nat.le_of_ble_eq_true rfl)) dX10_consent_42 ⟨Nat.le_of_ble_eq_true rfl, Nat.le_of_ble_eq_true rfl⟩) hS (fun _ _ h => h) (fun _ h => h) (fun r9 u9 t9 H locs ht9 hv9 e9 hB9 hz9 hk9 hS => ?_)
          rw [ht9, says_2] at hB9
          replace e9 : r9 = 1 := e9.trans (saysV_0 _)
          subst e9
          have hP : va_P (dC, dI) vwCl (wM q k (sI st 10 0)) H := hB9
          refine lv_if_ne (tgt := 50) hx hb dX10_consent_45 (by decide) (fun _ => ?_) (fun h9 => absurd h9 (by decide))
          refine lv_aload_n hx hb dX10_consent_50 rfl (lv_at hl 0 rfl) ?_
          refine va_get (D := (dC, dI)) (ci := 10) (v := .ref (q 3)) (C := RX10) (T := TX10) (N := 45) hx hb hts hi10 hown hK.1 hP 0 rfl rfl 6 (by decide) hf20 (fun _ h9 => h9) rfl dX10_consent_51 ?_
          refine lv_aload_n hx hb dX10_consent_54 rfl (lv_at hl 0 rfl) ?_
          refine va_get (D := (dC, dI)) (ci := 10) (v := .int (st.1 2)) (C := RX10) (T := TX10) (N := 45) hx hb hts hi10 hown hK.1 hP 0 rfl rfl 5 (by decide) hf145 (fun _ h9 => h9) rfl dX10_consent_55 ?_
          refine lv_iload_n hx hb dX10_consent_58 rfl (lv_at hl 1 rfl) ?_
          refine va_iast hx hb hK.1 hP (dM_of hq) hS 3 2 (f := st.2.1 2) (n := 100) (cA := k 2) rfl rfl (i := st.1 2) (x := a1) (ob_X10_consent_59_5 st a1 a2 a3 a4 hok h5_1 h13_2 h21_3 h34_4) dX10_consent_59 (fun H locs hP _ hS => ?_)
          have hP : va_P (dC, dI) vwCl (wM q k (sA (sI st 10 0) 2 ((st.1 2).toNatClampNeg) a1)) H := hP
          refine lv_aload_n hx hb dX10_consent_60 rfl (lv_at hl 0 rfl) ?_
          refine va_get (D := (dC, dI)) (ci := 10) (v := .ref (q 4)) (C := RX10) (T := TX10) (N := 45) hx hb hts hi10 hown hK.1 hP 0 rfl rfl 7 (by decide) hf23 (fun _ h9 => h9) rfl dX10_consent_61 ?_
          refine lv_aload_n hx hb dX10_consent_64 rfl (lv_at hl 0 rfl) ?_
          refine va_get (D := (dC, dI)) (ci := 10) (v := .int (st.1 2)) (C := RX10) (T := TX10) (N := 45) hx hb hts hi10 hown hK.1 hP 0 rfl rfl 5 (by decide) hf145 (fun _ h9 => h9) rfl dX10_consent_65 ?_
          refine lv_iload_n hx hb dX10_consent_68 rfl (lv_at hl 2 rfl) ?_
          refine va_iast hx hb hK.1 hP (dM_of hq) hS 4 3 (f := st.2.1 3) (n := 100) (cA := k 3) rfl rfl (i := st.1 2) (x := a2) (ob_X10_consent_69_6 st a1 a2 a3 a4 hok h5_1 h13_2 h21_3 h34_4) dX10_consent_69 (fun H locs hP _ hS => ?_)
          have hP : va_P (dC, dI) vwCl (wM q k (sA (sA (sI st 10 0) 2 ((st.1 2).toNatClampNeg) a1) 3 ((st.1 2).toNatClampNeg) a2)) H := hP
          refine lv_aload_n hx hb dX10_consent_70 rfl (lv_at hl 0 rfl) ?_
          refine va_get (D := (dC, dI)) (ci := 10) (v := .ref (q 5)) (C := RX10) (T := TX10) (N := 45) hx hb hts hi10 hown hK.1 hP 0 rfl rfl 8 (by decide) hf26 (fun _ h9 => h9) rfl dX10_consent_71 ?_
          refine lv_aload_n hx hb dX10_consent_74 rfl (lv_at hl 0 rfl) ?_
          refine va_get (D := (dC, dI)) (ci := 10) (v := .int (st.1 2)) (C := RX10) (T := TX10) (N := 45) hx hb hts hi10 hown hK.1 hP 0 rfl rfl 5 (by decide) hf145 (fun _ h9 => h9) rfl dX10_consent_75 ?_
          refine lv_iload hx hb dX10_consent_78 (lv_at hl 4 rfl) ?_
          refine va_iast hx hb hK.1 hP (dM_of hq) hS 5 4 (f := st.2.1 4) (n := 100) (cA := k 4) rfl rfl (i := st.1 2) (x := a4) (ob_X10_consent_80_7 st a1 a2 a3 a4 hok h5_1 h13_2 h21_3 h34_4) dX10_consent_80 (fun H locs hP _ hS => ?_)
          have hP : va_P (dC, dI) vwCl (wM q k (sA (sA (sA (sI st 10 0) 2 ((st.1 2).toNatClampNeg) a1) 3 ((st.1 2).toNatClampNeg) a2) 4 ((st.1 2).toNatClampNeg) a4)) H := hP
          refine lv_aload_n hx hb dX10_consent_81 rfl (lv_at hl 0 rfl) ?_
          refine va_get (D := (dC, dI)) (ci := 10) (v := .ref (q 6)) (C := RX10) (T := TX10) (N := 45) hx hb hts hi10 hown hK.1 hP 0 rfl rfl 9 (by decide) hf29 (fun _ h9 => h9) rfl dX10_consent_82 ?_
          refine lv_aload_n hx hb dX10_consent_85 rfl (lv_at hl 0 rfl) ?_
          refine va_get (D := (dC, dI)) (ci := 10) (v := .int (st.1 2)) (C := RX10) (T := TX10) (N := 45) hx hb hts hi10 hown hK.1 hP 0 rfl rfl 5 (by decide) hf145 (fun _ h9 => h9) rfl dX10_consent_86 ?_
          refine lv_iload_n hx hb dX10_consent_89 rfl (lv_at hl 3 rfl) ?_
          refine va_zast hx hb hK.1 hP (dM_of hq) hS 6 5 (f := st.2.1 5) (n := 100) (cA := k 5) rfl rfl (i := st.1 2) (x := a3) (ob_X10_consent_90_8 st a1 a2 a3 a4 hok h5_1 h13_2 h21_3 h34_4) dX10_consent_90 (fun H locs hP _ hS => ?_)
          have hP : va_P (dC, dI) vwCl (wM q k (sA (sA (sA (sA (sI st 10 0) 2 ((st.1 2).toNatClampNeg) a1) 3 ((st.1 2).toNatClampNeg) a2) 4 ((st.1 2).toNatClampNeg) a4) 5 ((st.1 2).toNatClampNeg) (vp_nar .boolean a3))) H := hP
          refine lv_aload_n hx hb dX10_consent_91 rfl (lv_at hl 0 rfl) ?_
          refine lv_dup hx hb dX10_consent_92 rfl ?_
          refine va_get (D := (dC, dI)) (ci := 10) (v := .int (st.1 2)) (C := RX10) (T := TX10) (N := 45) hx hb hts hi10 hown hK.1 hP 0 rfl rfl 5 (by decide) hf145 (fun _ h9 => h9) rfl dX10_consent_93 ?_
          refine lv_iconst (v := 1) hx hb dX10_consent_96 (by decide) ?_
          refine lv_iadd hx hb dX10_consent_97 ?_
          refine va_put (D := (dC, dI)) (ci := 10) (v := .int ((st.1 2) + 1)) (ty := .int) (C := RX10) (T := TX10) (N := 45) hx hb hts hi10 tyX10 tyX10_ok nmX10 hown hK.1 hP (dM_of hq) hS 0 rfl rfl 5 (by decide) hf145 (fun _ h9 => h9) rfl (by decide +kernel) rfl rfl (Nat.le_of_ble_eq_true rfl) dX10_consent_98 (fun H locs hP _ hS => ?_)
          have hP : va_P (dC, dI) vwCl (wM q k (sI (sA (sA (sA (sA (sI st 10 0) 2 ((st.1 2).toNatClampNeg) a1) 3 ((st.1 2).toNatClampNeg) a2) 4 ((st.1 2).toNatClampNeg) a4) 5 ((st.1 2).toNatClampNeg) (vp_nar .boolean a3)) 2 ((st.1 2) + 1))) H := hP
          refine lv_aload_n hx hb dX10_consent_101 rfl (lv_at hl 0 rfl) ?_
          refine va_get (D := (dC, dI)) (ci := 10) (v := .int ((st.1 2) + 1)) (C := RX10) (T := TX10) (N := 45) hx hb hts hi10 hown hK.1 hP 0 rfl rfl 5 (by decide) hf145 (fun _ h9 => h9) rfl dX10_consent_102 ?_
          exact W.iret (v := (st.1 2) + 1) hx hb hr (fun t ht hW => ⟨⟨_, (), rfl, by show _ = Prod.fst _; rw [← he], by show va_P _ _ _ t.heap; rw [ht, ← he]; exact hP⟩, hS.F ht⟩) hS.2.2 dX10_consent_105
        · have he := (if_pos h34_4).symm.trans he
          refine lv_iconst (v := 2) hx hb dX10_consent_37 (by decide) ?_
          refine lv_goto (tgt := 42) hx hb dX10_consent_38 (by decide) ?_
          refine va_calli (va_runV (As := [.int 2]) (rest := []) ⟨hx, hb, hml, hown, hts⟩ (c_X10_says l dC dI q k st 2 hq _ rfl) (cwV 1 hts gX10_consent_X10_says rfl rfl rfl (by decide +kernel) ⟨Nat.le_of_ble_eq_true rfl, Nat.le_of_ble_eq_true rfl⟩) ⟨fb_M, va_recv hK.1 hP (ci := 10) (q0 := 0) rfl rfl, fun U hU hW => ⟨rfl, by rw [hU]; exact hP, hK.warm hW⟩⟩ rfl rfl hl.1 rfl (lv_room (Nat.le_of_ble_eq_true rfl)) dX10_consent_42 ⟨Nat.le_of_ble_eq_true rfl, Nat.le_of_ble_eq_true rfl⟩) hS (fun _ _ h => h) (fun _ h => h) (fun r9 u9 t9 H locs ht9 hv9 e9 hB9 hz9 hk9 hS => ?_)
          rw [ht9, says_2] at hB9
          replace e9 : r9 = 0 := e9.trans (saysV_2 _)
          subst e9
          have hP : va_P (dC, dI) vwCl (wM q k (sI st 10 2)) H := hB9
          refine lv_if_ne (tgt := 50) hx hb dX10_consent_45 (by decide) (fun h9 => absurd h9 (by decide)) (fun _ => ?_)
          refine lv_iconst (v := 0) hx hb dX10_consent_48 (by decide) ?_
          exact W.iret (v := 0) hx hb hr (fun t ht hW => ⟨⟨_, (), rfl, by show _ = Prod.fst _; rw [← he], by show va_P _ _ _ t.heap; rw [ht, ← he]; exact hP⟩, hS.F ht⟩) hS.2.2 dX10_consent_49
      · have he := (if_pos h21_3).symm.trans he
        refine lv_iconst (v := 1) hx hb dX10_consent_24 (by decide) ?_
        refine lv_goto (tgt := 42) hx hb dX10_consent_25 (by decide) ?_
        refine va_calli (va_runV (As := [.int 1]) (rest := []) ⟨hx, hb, hml, hown, hts⟩ (c_X10_says l dC dI q k st 1 hq _ rfl) (cwV 1 hts gX10_consent_X10_says rfl rfl rfl (by decide +kernel) ⟨Nat.le_of_ble_eq_true rfl, Nat.le_of_ble_eq_true rfl⟩) ⟨fb_M, va_recv hK.1 hP (ci := 10) (q0 := 0) rfl rfl, fun U hU hW => ⟨rfl, by rw [hU]; exact hP, hK.warm hW⟩⟩ rfl rfl hl.1 rfl (lv_room (Nat.le_of_ble_eq_true rfl)) dX10_consent_42 ⟨Nat.le_of_ble_eq_true rfl, Nat.le_of_ble_eq_true rfl⟩) hS (fun _ _ h => h) (fun _ h => h) (fun r9 u9 t9 H locs ht9 hv9 e9 hB9 hz9 hk9 hS => ?_)
        rw [ht9, says_2] at hB9
        replace e9 : r9 = 0 := e9.trans (saysV_1 _)
        subst e9
        have hP : va_P (dC, dI) vwCl (wM q k (sI st 10 1)) H := hB9
        refine lv_if_ne (tgt := 50) hx hb dX10_consent_45 (by decide) (fun h9 => absurd h9 (by decide)) (fun _ => ?_)
        refine lv_iconst (v := 0) hx hb dX10_consent_48 (by decide) ?_
        exact W.iret (v := 0) hx hb hr (fun t ht hW => ⟨⟨_, (), rfl, by show _ = Prod.fst _; rw [← he], by show va_P _ _ _ t.heap; rw [ht, ← he]; exact hP⟩, hS.F ht⟩) hS.2.2 dX10_consent_49
set_option maxHeartbeats 4000000 in
set_option maxRecDepth 100000 in
theorem c_X10_contract (l : Launch) (dC : Nat → ClassId) (dI : Nat → Nat → Nat) (q : Nat → Nat) (k : Nat → ClassId) (st : St) (a1 : Int32) (a2 : Int32) (a3 : Int32) (a4 : Int32) (hq : ∀ i j, i < 35 → j < 35 → q i = q j → i = j) (hok : okM st) (res : Int32 × St) (hres : sp_X10_contract st a1 a2 a3 a4 = res) : Met l yX10_contract wsX10_contract ({ frames := 2, cells := 0, slots := 0, locals := 43 } : Room) (va_Pc [.ref (q 0), .int a1, .int a2, .int a3, .int a4] (fun U => va_P (dC, dI) vwCl (wM q k st) U.heap ∧ KM (dC, dI) k U)) (va_Qi (fun r (_ : Unit) => r = res.1) (fun _ t => va_P (dC, dI) vwCl (wM q k res.2) t.heap) (aM q)) 0 0 (aM q) := by
  refine Met.ofW (cc := cX10_contract) (maxL := 5) (ret := (some .int)) (by decide) rfl ?_
  intro p e s m args below meth c s₁ B hml hv
  obtain ⟨rfl, hP, hK⟩ := hv
  have hx := B.exec
  have hb := B.bytes
  have hr := B.returns
  have hts := atoms_spec (ws := wsX10_contract) B.pre
  have hown : s.vm.findClass RX10 = some m.cls := findClass_of_methodNamed B.named
  have hlocks := B.notSynchronized
  have hS : va_S (aM q) s.heap s.heap [] := va_S.rf
  have hi10 : ∀ w ∈ wsX100, w ∈ wsX10_contract := by decide +kernel
  have hf33 := hts (.fieldLink RX10 33 "ConsentRegisterModel" "contractPerson" "[I") (by decide +kernel)
  have hf36 := hts (.fieldLink RX10 36 "ConsentRegisterModel" "contractPurpose" "[I") (by decide +kernel)
  have hf39 := hts (.fieldLink RX10 39 "ConsentRegisterModel" "contractFrom" "[I") (by decide +kernel)
  have hf42 := hts (.fieldLink RX10 42 "ConsentRegisterModel" "contractTo" "[I") (by decide +kernel)
  have hf148 := hts (.fieldLink RX10 148 "ConsentRegisterModel" "contracts" "I") (by decide +kernel)
  have hl := lv_entry ([.ref (q 0), .int a1, .int a2, .int a3, .int a4]) (n := 5) (Nat.le_of_ble_eq_true rfl)
  rw [lg_entry_eq]
  generalize (lg_sl ([.ref (q 0), .int a1, .int a2, .int a3, .int a4]) ++ List.replicate (5 - (lg_sl ([.ref (q 0), .int a1, .int a2, .int a3, .int a4])).length) Slot.unset).toArray = ls at hl ⊢
  have hl : lv_has ls 5 [(0, .ref (q 0)), (1, .int a1), (2, .int a2), (3, .int a3), (4, .int a4)] := hl
  have he := hres
  unfold sp_X10_contract at he
  refine lv_aload_n hx hb dX10_contract_0 rfl (lv_at hl 0 rfl) ?_
  refine lv_iload_n hx hb dX10_contract_1 rfl (lv_at hl 1 rfl) ?_
  refine vp_callSi (va_Run.run (va_runS (As := [.int a1]) (rest := [.ref (q 0)]) ⟨hx, hb, hml, hown, hts⟩ (c_X10_isPerson l a1 _ rfl) (va_cwS 1 hts gX10_contract_X10_isPerson rfl rfl rfl (by decide +kernel) ⟨Nat.le_of_ble_eq_true rfl, Nat.le_of_ble_eq_true rfl⟩) ⟨fb_T, fun U hU hW => ⟨rfl, trivial⟩⟩ rfl rfl hl.1 rfl (lv_room (Nat.le_of_ble_eq_true rfl)) dX10_contract_2 ⟨Nat.le_of_ble_eq_true rfl, Nat.le_of_ble_eq_true rfl⟩)) (fun r9 e9 => ?_)
  subst e9
  refine lv_if_eq (tgt := 37) hx hb dX10_contract_5 (by decide) (fun h5_1 => ?_) (fun h5_1 => ?_)
  · have he := (if_pos h5_1).symm.trans he
    refine lv_iconst (v := 1) hx hb dX10_contract_37 (by decide) ?_
    refine lv_goto (tgt := 55) hx hb dX10_contract_38 (by decide) ?_
    refine va_calli (va_runV (As := [.int 1]) (rest := []) ⟨hx, hb, hml, hown, hts⟩ (c_X10_says l dC dI q k st 1 hq _ rfl) (cwV 1 hts gX10_contract_X10_says rfl rfl rfl (by decide +kernel) ⟨Nat.le_of_ble_eq_true rfl, Nat.le_of_ble_eq_true rfl⟩) ⟨fb_M, va_recv hK.1 hP (ci := 10) (q0 := 0) rfl rfl, fun U hU hW => ⟨rfl, by rw [hU]; exact hP, hK.warm hW⟩⟩ rfl rfl hl.1 rfl (lv_room (Nat.le_of_ble_eq_true rfl)) dX10_contract_55 ⟨Nat.le_of_ble_eq_true rfl, Nat.le_of_ble_eq_true rfl⟩) hS (fun _ _ h => h) (fun _ h => h) (fun r9 u9 t9 H locs ht9 hv9 e9 hB9 hz9 hk9 hS => ?_)
    rw [ht9, says_2] at hB9
    replace e9 : r9 = 0 := e9.trans (saysV_1 _)
    subst e9
    have hP : va_P (dC, dI) vwCl (wM q k (sI st 10 1)) H := hB9
    refine lv_if_ne (tgt := 63) hx hb dX10_contract_58 (by decide) (fun h9 => absurd h9 (by decide)) (fun _ => ?_)
    refine lv_iconst (v := 0) hx hb dX10_contract_61 (by decide) ?_
    exact W.iret (v := 0) hx hb hr (fun t ht hW => ⟨⟨_, (), rfl, by show _ = Prod.fst _; rw [← he], by show va_P _ _ _ t.heap; rw [ht, ← he]; exact hP⟩, hS.F ht⟩) hS.2.2 dX10_contract_62
  · have he := (if_neg h5_1).symm.trans he
    refine lv_aload_n hx hb dX10_contract_8 rfl (lv_at hl 0 rfl) ?_
    refine lv_iload_n hx hb dX10_contract_9 rfl (lv_at hl 2 rfl) ?_
    refine vp_callSi (va_Run.run (va_runV (As := [.int a2]) (rest := [.ref (q 0)]) ⟨hx, hb, hml, hown, hts⟩ (c_X10_isPurpose l dC dI q k st a2 _ rfl) (cwV 1 hts gX10_contract_X10_isPurpose rfl rfl rfl (by decide +kernel) ⟨Nat.le_of_ble_eq_true rfl, Nat.le_of_ble_eq_true rfl⟩) ⟨fb_M, va_recv hK.1 hP (ci := 10) (q0 := 0) rfl rfl, fun U hU hW => ⟨rfl, by rw [hU]; exact hP, hK.warm hW⟩⟩ rfl rfl hl.1 rfl (lv_room (Nat.le_of_ble_eq_true rfl)) dX10_contract_10 ⟨Nat.le_of_ble_eq_true rfl, Nat.le_of_ble_eq_true rfl⟩)) (fun r9 e9 => ?_)
    subst e9
    refine lv_if_eq (tgt := 37) hx hb dX10_contract_13 (by decide) (fun h13_2 => ?_) (fun h13_2 => ?_)
    · have he := (if_pos h13_2).symm.trans he
      refine lv_iconst (v := 1) hx hb dX10_contract_37 (by decide) ?_
      refine lv_goto (tgt := 55) hx hb dX10_contract_38 (by decide) ?_
      refine va_calli (va_runV (As := [.int 1]) (rest := []) ⟨hx, hb, hml, hown, hts⟩ (c_X10_says l dC dI q k st 1 hq _ rfl) (cwV 1 hts gX10_contract_X10_says rfl rfl rfl (by decide +kernel) ⟨Nat.le_of_ble_eq_true rfl, Nat.le_of_ble_eq_true rfl⟩) ⟨fb_M, va_recv hK.1 hP (ci := 10) (q0 := 0) rfl rfl, fun U hU hW => ⟨rfl, by rw [hU]; exact hP, hK.warm hW⟩⟩ rfl rfl hl.1 rfl (lv_room (Nat.le_of_ble_eq_true rfl)) dX10_contract_55 ⟨Nat.le_of_ble_eq_true rfl, Nat.le_of_ble_eq_true rfl⟩) hS (fun _ _ h => h) (fun _ h => h) (fun r9 u9 t9 H locs ht9 hv9 e9 hB9 hz9 hk9 hS => ?_)
      rw [ht9, says_2] at hB9
      replace e9 : r9 = 0 := e9.trans (saysV_1 _)
      subst e9
      have hP : va_P (dC, dI) vwCl (wM q k (sI st 10 1)) H := hB9
      refine lv_if_ne (tgt := 63) hx hb dX10_contract_58 (by decide) (fun h9 => absurd h9 (by decide)) (fun _ => ?_)
      refine lv_iconst (v := 0) hx hb dX10_contract_61 (by decide) ?_
      exact W.iret (v := 0) hx hb hr (fun t ht hW => ⟨⟨_, (), rfl, by show _ = Prod.fst _; rw [← he], by show va_P _ _ _ t.heap; rw [ht, ← he]; exact hP⟩, hS.F ht⟩) hS.2.2 dX10_contract_62
    · have he := (if_neg h13_2).symm.trans he
      refine lv_iload_n hx hb dX10_contract_16 rfl (lv_at hl 3 rfl) ?_
      refine vp_callSi (va_Run.run (va_runS (As := [.int a3]) (rest := [.ref (q 0)]) ⟨hx, hb, hml, hown, hts⟩ (c_X10_isMinute l a3 _ rfl) (va_cwS 1 hts gX10_contract_X10_isMinute rfl rfl rfl (by decide +kernel) ⟨Nat.le_of_ble_eq_true rfl, Nat.le_of_ble_eq_true rfl⟩) ⟨fb_T, fun U hU hW => ⟨rfl, trivial⟩⟩ rfl rfl hl.1 rfl (lv_room (Nat.le_of_ble_eq_true rfl)) dX10_contract_17 ⟨Nat.le_of_ble_eq_true rfl, Nat.le_of_ble_eq_true rfl⟩)) (fun r9 e9 => ?_)
      subst e9
      refine lv_if_eq (tgt := 37) hx hb dX10_contract_20 (by decide) (fun h20_3 => ?_) (fun h20_3 => ?_)
      · have he := (if_pos h20_3).symm.trans he
        refine lv_iconst (v := 1) hx hb dX10_contract_37 (by decide) ?_
        refine lv_goto (tgt := 55) hx hb dX10_contract_38 (by decide) ?_
        refine va_calli (va_runV (As := [.int 1]) (rest := []) ⟨hx, hb, hml, hown, hts⟩ (c_X10_says l dC dI q k st 1 hq _ rfl) (cwV 1 hts gX10_contract_X10_says rfl rfl rfl (by decide +kernel) ⟨Nat.le_of_ble_eq_true rfl, Nat.le_of_ble_eq_true rfl⟩) ⟨fb_M, va_recv hK.1 hP (ci := 10) (q0 := 0) rfl rfl, fun U hU hW => ⟨rfl, by rw [hU]; exact hP, hK.warm hW⟩⟩ rfl rfl hl.1 rfl (lv_room (Nat.le_of_ble_eq_true rfl)) dX10_contract_55 ⟨Nat.le_of_ble_eq_true rfl, Nat.le_of_ble_eq_true rfl⟩) hS (fun _ _ h => h) (fun _ h => h) (fun r9 u9 t9 H locs ht9 hv9 e9 hB9 hz9 hk9 hS => ?_)
        rw [ht9, says_2] at hB9
        replace e9 : r9 = 0 := e9.trans (saysV_1 _)
        subst e9
        have hP : va_P (dC, dI) vwCl (wM q k (sI st 10 1)) H := hB9
        refine lv_if_ne (tgt := 63) hx hb dX10_contract_58 (by decide) (fun h9 => absurd h9 (by decide)) (fun _ => ?_)
        refine lv_iconst (v := 0) hx hb dX10_contract_61 (by decide) ?_
        exact W.iret (v := 0) hx hb hr (fun t ht hW => ⟨⟨_, (), rfl, by show _ = Prod.fst _; rw [← he], by show va_P _ _ _ t.heap; rw [ht, ← he]; exact hP⟩, hS.F ht⟩) hS.2.2 dX10_contract_62
      · have he := (if_neg h20_3).symm.trans he
        refine lv_iload hx hb dX10_contract_23 (lv_at hl 4 rfl) ?_
        refine vp_callSi (va_Run.run (va_runS (As := [.int a4]) (rest := [.ref (q 0)]) ⟨hx, hb, hml, hown, hts⟩ (c_X10_isMinute l a4 _ rfl) (va_cwS 1 hts gX10_contract_X10_isMinute rfl rfl rfl (by decide +kernel) ⟨Nat.le_of_ble_eq_true rfl, Nat.le_of_ble_eq_true rfl⟩) ⟨fb_T, fun U hU hW => ⟨rfl, trivial⟩⟩ rfl rfl hl.1 rfl (lv_room (Nat.le_of_ble_eq_true rfl)) dX10_contract_25 ⟨Nat.le_of_ble_eq_true rfl, Nat.le_of_ble_eq_true rfl⟩)) (fun r9 e9 => ?_)
        subst e9
        refine lv_if_eq (tgt := 37) hx hb dX10_contract_28 (by decide) (fun h28_4 => ?_) (fun h28_4 => ?_)
        · have he := (if_pos h28_4).symm.trans he
          refine lv_iconst (v := 1) hx hb dX10_contract_37 (by decide) ?_
          refine lv_goto (tgt := 55) hx hb dX10_contract_38 (by decide) ?_
          refine va_calli (va_runV (As := [.int 1]) (rest := []) ⟨hx, hb, hml, hown, hts⟩ (c_X10_says l dC dI q k st 1 hq _ rfl) (cwV 1 hts gX10_contract_X10_says rfl rfl rfl (by decide +kernel) ⟨Nat.le_of_ble_eq_true rfl, Nat.le_of_ble_eq_true rfl⟩) ⟨fb_M, va_recv hK.1 hP (ci := 10) (q0 := 0) rfl rfl, fun U hU hW => ⟨rfl, by rw [hU]; exact hP, hK.warm hW⟩⟩ rfl rfl hl.1 rfl (lv_room (Nat.le_of_ble_eq_true rfl)) dX10_contract_55 ⟨Nat.le_of_ble_eq_true rfl, Nat.le_of_ble_eq_true rfl⟩) hS (fun _ _ h => h) (fun _ h => h) (fun r9 u9 t9 H locs ht9 hv9 e9 hB9 hz9 hk9 hS => ?_)
          rw [ht9, says_2] at hB9
          replace e9 : r9 = 0 := e9.trans (saysV_1 _)
          subst e9
          have hP : va_P (dC, dI) vwCl (wM q k (sI st 10 1)) H := hB9
          refine lv_if_ne (tgt := 63) hx hb dX10_contract_58 (by decide) (fun h9 => absurd h9 (by decide)) (fun _ => ?_)
          refine lv_iconst (v := 0) hx hb dX10_contract_61 (by decide) ?_
          exact W.iret (v := 0) hx hb hr (fun t ht hW => ⟨⟨_, (), rfl, by show _ = Prod.fst _; rw [← he], by show va_P _ _ _ t.heap; rw [ht, ← he]; exact hP⟩, hS.F ht⟩) hS.2.2 dX10_contract_62
        · have he := (if_neg h28_4).symm.trans he
          refine lv_iload_n hx hb dX10_contract_31 rfl (lv_at hl 3 rfl) ?_
          refine lv_iload hx hb dX10_contract_32 (lv_at hl 4 rfl) ?_
          refine lv_icmp_le (tgt := 41) hx hb dX10_contract_34 (by decide) (fun h34_5 => ?_) (fun h34_5 => ?_)
          · have he := (if_pos h34_5).symm.trans he
            refine lv_aload_n hx hb dX10_contract_41 rfl (lv_at hl 0 rfl) ?_
            refine va_get (D := (dC, dI)) (ci := 10) (v := .int (st.1 3)) (C := RX10) (T := TX10) (N := 45) hx hb hts hi10 hown hK.1 hP 0 rfl rfl 10 (by decide) hf148 (fun _ h9 => h9) rfl dX10_contract_42 ?_
            refine lv_bipush (v := 40) hx hb dX10_contract_45 (by decide) ?_
            refine lv_icmp_ne (tgt := 54) hx hb dX10_contract_47 (by decide) (fun h47_6 => ?_) (fun h47_6 => ?_)
            · have he := (if_neg h47_6).symm.trans he
              refine lv_iconst (v := 0) hx hb dX10_contract_54 (by decide) ?_
              refine va_calli (va_runV (As := [.int 0]) (rest := []) ⟨hx, hb, hml, hown, hts⟩ (c_X10_says l dC dI q k st 0 hq _ rfl) (cwV 1 hts gX10_contract_X10_says rfl rfl rfl (by decide +kernel) ⟨Nat.le_of_ble_eq_true rfl, Nat.le_of_ble_eq_true rfl⟩) ⟨fb_M, va_recv hK.1 hP (ci := 10) (q0 := 0) rfl rfl, fun U hU hW => ⟨rfl, by rw [hU]; exact hP, hK.warm hW⟩⟩ rfl rfl hl.1 rfl (lv_room (Nat.le_of_ble_eq_true rfl)) dX10_contract_55 ⟨Nat.le_of_ble_eq_true rfl, Nat.le_of_ble_eq_true rfl⟩) hS (fun _ _ h => h) (fun _ h => h) (fun r9 u9 t9 H locs ht9 hv9 e9 hB9 hz9 hk9 hS => ?_)
              rw [ht9, says_2] at hB9
              replace e9 : r9 = 1 := e9.trans (saysV_0 _)
              subst e9
              have hP : va_P (dC, dI) vwCl (wM q k (sI st 10 0)) H := hB9
              refine lv_if_ne (tgt := 63) hx hb dX10_contract_58 (by decide) (fun _ => ?_) (fun h9 => absurd h9 (by decide))
              refine lv_aload_n hx hb dX10_contract_63 rfl (lv_at hl 0 rfl) ?_
              refine va_get (D := (dC, dI)) (ci := 10) (v := .ref (q 7)) (C := RX10) (T := TX10) (N := 45) hx hb hts hi10 hown hK.1 hP 0 rfl rfl 11 (by decide) hf33 (fun _ h9 => h9) rfl dX10_contract_64 ?_
              refine lv_aload_n hx hb dX10_contract_67 rfl (lv_at hl 0 rfl) ?_
              refine va_get (D := (dC, dI)) (ci := 10) (v := .int (st.1 3)) (C := RX10) (T := TX10) (N := 45) hx hb hts hi10 hown hK.1 hP 0 rfl rfl 10 (by decide) hf148 (fun _ h9 => h9) rfl dX10_contract_68 ?_
              refine lv_iload_n hx hb dX10_contract_71 rfl (lv_at hl 1 rfl) ?_
              refine va_iast hx hb hK.1 hP (dM_of hq) hS 7 6 (f := st.2.1 6) (n := 40) (cA := k 6) rfl rfl (i := st.1 3) (x := a1) (ob_X10_contract_72_7 st a1 a2 a3 a4 hok h5_1 h13_2 h20_3 h28_4 h34_5 h47_6) dX10_contract_72 (fun H locs hP _ hS => ?_)
              have hP : va_P (dC, dI) vwCl (wM q k (sA (sI st 10 0) 6 ((st.1 3).toNatClampNeg) a1)) H := hP
              refine lv_aload_n hx hb dX10_contract_73 rfl (lv_at hl 0 rfl) ?_
              refine va_get (D := (dC, dI)) (ci := 10) (v := .ref (q 8)) (C := RX10) (T := TX10) (N := 45) hx hb hts hi10 hown hK.1 hP 0 rfl rfl 12 (by decide) hf36 (fun _ h9 => h9) rfl dX10_contract_74 ?_
              refine lv_aload_n hx hb dX10_contract_77 rfl (lv_at hl 0 rfl) ?_
              refine va_get (D := (dC, dI)) (ci := 10) (v := .int (st.1 3)) (C := RX10) (T := TX10) (N := 45) hx hb hts hi10 hown hK.1 hP 0 rfl rfl 10 (by decide) hf148 (fun _ h9 => h9) rfl dX10_contract_78 ?_
              refine lv_iload_n hx hb dX10_contract_81 rfl (lv_at hl 2 rfl) ?_
              refine va_iast hx hb hK.1 hP (dM_of hq) hS 8 7 (f := st.2.1 7) (n := 40) (cA := k 7) rfl rfl (i := st.1 3) (x := a2) (ob_X10_contract_82_8 st a1 a2 a3 a4 hok h5_1 h13_2 h20_3 h28_4 h34_5 h47_6) dX10_contract_82 (fun H locs hP _ hS => ?_)
              have hP : va_P (dC, dI) vwCl (wM q k (sA (sA (sI st 10 0) 6 ((st.1 3).toNatClampNeg) a1) 7 ((st.1 3).toNatClampNeg) a2)) H := hP
              refine lv_aload_n hx hb dX10_contract_83 rfl (lv_at hl 0 rfl) ?_
              refine va_get (D := (dC, dI)) (ci := 10) (v := .ref (q 9)) (C := RX10) (T := TX10) (N := 45) hx hb hts hi10 hown hK.1 hP 0 rfl rfl 13 (by decide) hf39 (fun _ h9 => h9) rfl dX10_contract_84 ?_
              refine lv_aload_n hx hb dX10_contract_87 rfl (lv_at hl 0 rfl) ?_
              refine va_get (D := (dC, dI)) (ci := 10) (v := .int (st.1 3)) (C := RX10) (T := TX10) (N := 45) hx hb hts hi10 hown hK.1 hP 0 rfl rfl 10 (by decide) hf148 (fun _ h9 => h9) rfl dX10_contract_88 ?_
              refine lv_iload_n hx hb dX10_contract_91 rfl (lv_at hl 3 rfl) ?_
              refine va_iast hx hb hK.1 hP (dM_of hq) hS 9 8 (f := st.2.1 8) (n := 40) (cA := k 8) rfl rfl (i := st.1 3) (x := a3) (ob_X10_contract_92_9 st a1 a2 a3 a4 hok h5_1 h13_2 h20_3 h28_4 h34_5 h47_6) dX10_contract_92 (fun H locs hP _ hS => ?_)
              have hP : va_P (dC, dI) vwCl (wM q k (sA (sA (sA (sI st 10 0) 6 ((st.1 3).toNatClampNeg) a1) 7 ((st.1 3).toNatClampNeg) a2) 8 ((st.1 3).toNatClampNeg) a3)) H := hP
              refine lv_aload_n hx hb dX10_contract_93 rfl (lv_at hl 0 rfl) ?_
              refine va_get (D := (dC, dI)) (ci := 10) (v := .ref (q 10)) (C := RX10) (T := TX10) (N := 45) hx hb hts hi10 hown hK.1 hP 0 rfl rfl 14 (by decide) hf42 (fun _ h9 => h9) rfl dX10_contract_94 ?_
              refine lv_aload_n hx hb dX10_contract_97 rfl (lv_at hl 0 rfl) ?_
              refine va_get (D := (dC, dI)) (ci := 10) (v := .int (st.1 3)) (C := RX10) (T := TX10) (N := 45) hx hb hts hi10 hown hK.1 hP 0 rfl rfl 10 (by decide) hf148 (fun _ h9 => h9) rfl dX10_contract_98 ?_
              refine lv_iload hx hb dX10_contract_101 (lv_at hl 4 rfl) ?_
              refine va_iast hx hb hK.1 hP (dM_of hq) hS 10 9 (f := st.2.1 9) (n := 40) (cA := k 9) rfl rfl (i := st.1 3) (x := a4) (ob_X10_contract_103_10 st a1 a2 a3 a4 hok h5_1 h13_2 h20_3 h28_4 h34_5 h47_6) dX10_contract_103 (fun H locs hP _ hS => ?_)
              have hP : va_P (dC, dI) vwCl (wM q k (sA (sA (sA (sA (sI st 10 0) 6 ((st.1 3).toNatClampNeg) a1) 7 ((st.1 3).toNatClampNeg) a2) 8 ((st.1 3).toNatClampNeg) a3) 9 ((st.1 3).toNatClampNeg) a4)) H := hP
              refine lv_aload_n hx hb dX10_contract_104 rfl (lv_at hl 0 rfl) ?_
              refine lv_dup hx hb dX10_contract_105 rfl ?_
              refine va_get (D := (dC, dI)) (ci := 10) (v := .int (st.1 3)) (C := RX10) (T := TX10) (N := 45) hx hb hts hi10 hown hK.1 hP 0 rfl rfl 10 (by decide) hf148 (fun _ h9 => h9) rfl dX10_contract_106 ?_
              refine lv_iconst (v := 1) hx hb dX10_contract_109 (by decide) ?_
              refine lv_iadd hx hb dX10_contract_110 ?_
              refine va_put (D := (dC, dI)) (ci := 10) (v := .int ((st.1 3) + 1)) (ty := .int) (C := RX10) (T := TX10) (N := 45) hx hb hts hi10 tyX10 tyX10_ok nmX10 hown hK.1 hP (dM_of hq) hS 0 rfl rfl 10 (by decide) hf148 (fun _ h9 => h9) rfl (by decide +kernel) rfl rfl (Nat.le_of_ble_eq_true rfl) dX10_contract_111 (fun H locs hP _ hS => ?_)
              have hP : va_P (dC, dI) vwCl (wM q k (sI (sA (sA (sA (sA (sI st 10 0) 6 ((st.1 3).toNatClampNeg) a1) 7 ((st.1 3).toNatClampNeg) a2) 8 ((st.1 3).toNatClampNeg) a3) 9 ((st.1 3).toNatClampNeg) a4) 3 ((st.1 3) + 1))) H := hP
              refine lv_aload_n hx hb dX10_contract_114 rfl (lv_at hl 0 rfl) ?_
              refine va_get (D := (dC, dI)) (ci := 10) (v := .int ((st.1 3) + 1)) (C := RX10) (T := TX10) (N := 45) hx hb hts hi10 hown hK.1 hP 0 rfl rfl 10 (by decide) hf148 (fun _ h9 => h9) rfl dX10_contract_115 ?_
              exact W.iret (v := (st.1 3) + 1) hx hb hr (fun t ht hW => ⟨⟨_, (), rfl, by show _ = Prod.fst _; rw [← he], by show va_P _ _ _ t.heap; rw [ht, ← he]; exact hP⟩, hS.F ht⟩) hS.2.2 dX10_contract_118
            · have he := (if_pos h47_6).symm.trans he
              refine lv_iconst (v := 2) hx hb dX10_contract_50 (by decide) ?_
              refine lv_goto (tgt := 55) hx hb dX10_contract_51 (by decide) ?_
              refine va_calli (va_runV (As := [.int 2]) (rest := []) ⟨hx, hb, hml, hown, hts⟩ (c_X10_says l dC dI q k st 2 hq _ rfl) (cwV 1 hts gX10_contract_X10_says rfl rfl rfl (by decide +kernel) ⟨Nat.le_of_ble_eq_true rfl, Nat.le_of_ble_eq_true rfl⟩) ⟨fb_M, va_recv hK.1 hP (ci := 10) (q0 := 0) rfl rfl, fun U hU hW => ⟨rfl, by rw [hU]; exact hP, hK.warm hW⟩⟩ rfl rfl hl.1 rfl (lv_room (Nat.le_of_ble_eq_true rfl)) dX10_contract_55 ⟨Nat.le_of_ble_eq_true rfl, Nat.le_of_ble_eq_true rfl⟩) hS (fun _ _ h => h) (fun _ h => h) (fun r9 u9 t9 H locs ht9 hv9 e9 hB9 hz9 hk9 hS => ?_)
              rw [ht9, says_2] at hB9
              replace e9 : r9 = 0 := e9.trans (saysV_2 _)
              subst e9
              have hP : va_P (dC, dI) vwCl (wM q k (sI st 10 2)) H := hB9
              refine lv_if_ne (tgt := 63) hx hb dX10_contract_58 (by decide) (fun h9 => absurd h9 (by decide)) (fun _ => ?_)
              refine lv_iconst (v := 0) hx hb dX10_contract_61 (by decide) ?_
              exact W.iret (v := 0) hx hb hr (fun t ht hW => ⟨⟨_, (), rfl, by show _ = Prod.fst _; rw [← he], by show va_P _ _ _ t.heap; rw [ht, ← he]; exact hP⟩, hS.F ht⟩) hS.2.2 dX10_contract_62
          · have he := (if_neg h34_5).symm.trans he
            refine lv_iconst (v := 1) hx hb dX10_contract_37 (by decide) ?_
            refine lv_goto (tgt := 55) hx hb dX10_contract_38 (by decide) ?_
            refine va_calli (va_runV (As := [.int 1]) (rest := []) ⟨hx, hb, hml, hown, hts⟩ (c_X10_says l dC dI q k st 1 hq _ rfl) (cwV 1 hts gX10_contract_X10_says rfl rfl rfl (by decide +kernel) ⟨Nat.le_of_ble_eq_true rfl, Nat.le_of_ble_eq_true rfl⟩) ⟨fb_M, va_recv hK.1 hP (ci := 10) (q0 := 0) rfl rfl, fun U hU hW => ⟨rfl, by rw [hU]; exact hP, hK.warm hW⟩⟩ rfl rfl hl.1 rfl (lv_room (Nat.le_of_ble_eq_true rfl)) dX10_contract_55 ⟨Nat.le_of_ble_eq_true rfl, Nat.le_of_ble_eq_true rfl⟩) hS (fun _ _ h => h) (fun _ h => h) (fun r9 u9 t9 H locs ht9 hv9 e9 hB9 hz9 hk9 hS => ?_)
            rw [ht9, says_2] at hB9
            replace e9 : r9 = 0 := e9.trans (saysV_1 _)
            subst e9
            have hP : va_P (dC, dI) vwCl (wM q k (sI st 10 1)) H := hB9
            refine lv_if_ne (tgt := 63) hx hb dX10_contract_58 (by decide) (fun h9 => absurd h9 (by decide)) (fun _ => ?_)
            refine lv_iconst (v := 0) hx hb dX10_contract_61 (by decide) ?_
            exact W.iret (v := 0) hx hb hr (fun t ht hW => ⟨⟨_, (), rfl, by show _ = Prod.fst _; rw [← he], by show va_P _ _ _ t.heap; rw [ht, ← he]; exact hP⟩, hS.F ht⟩) hS.2.2 dX10_contract_62
set_option maxHeartbeats 4000000 in
set_option maxRecDepth 100000 in
theorem c_X10_duty (l : Launch) (dC : Nat → ClassId) (dI : Nat → Nat → Nat) (q : Nat → Nat) (k : Nat → ClassId) (st : St) (a1 : Int32) (a2 : Int32) (a3 : Int32) (hq : ∀ i j, i < 35 → j < 35 → q i = q j → i = j) (hok : okM st) (res : Int32 × St) (hres : sp_X10_duty st a1 a2 a3 = res) : Met l yX10_duty wsX10_duty ({ frames := 2, cells := 0, slots := 0, locals := 43 } : Room) (va_Pc [.ref (q 0), .int a1, .int a2, .int a3] (fun U => va_P (dC, dI) vwCl (wM q k st) U.heap ∧ KM (dC, dI) k U)) (va_Qi (fun r (_ : Unit) => r = res.1) (fun _ t => va_P (dC, dI) vwCl (wM q k res.2) t.heap) (aM q)) 0 0 (aM q) := by
  refine Met.ofW (cc := cX10_duty) (maxL := 4) (ret := (some .int)) (by decide) rfl ?_
  intro p e s m args below meth c s₁ B hml hv
  obtain ⟨rfl, hP, hK⟩ := hv
  have hx := B.exec
  have hb := B.bytes
  have hr := B.returns
  have hts := atoms_spec (ws := wsX10_duty) B.pre
  have hown : s.vm.findClass RX10 = some m.cls := findClass_of_methodNamed B.named
  have hlocks := B.notSynchronized
  have hS : va_S (aM q) s.heap s.heap [] := va_S.rf
  have hi10 : ∀ w ∈ wsX100, w ∈ wsX10_duty := by decide +kernel
  have hf45 := hts (.fieldLink RX10 45 "ConsentRegisterModel" "dutyKind" "[I") (by decide +kernel)
  have hf48 := hts (.fieldLink RX10 48 "ConsentRegisterModel" "dutyPurpose" "[I") (by decide +kernel)
  have hf51 := hts (.fieldLink RX10 51 "ConsentRegisterModel" "dutyDays" "[I") (by decide +kernel)
  have hf154 := hts (.fieldLink RX10 154 "ConsentRegisterModel" "duties" "I") (by decide +kernel)
  have hl := lv_entry ([.ref (q 0), .int a1, .int a2, .int a3]) (n := 4) (Nat.le_of_ble_eq_true rfl)
  rw [lg_entry_eq]
  generalize (lg_sl ([.ref (q 0), .int a1, .int a2, .int a3]) ++ List.replicate (4 - (lg_sl ([.ref (q 0), .int a1, .int a2, .int a3])).length) Slot.unset).toArray = ls at hl ⊢
  have hl : lv_has ls 4 [(0, .ref (q 0)), (1, .int a1), (2, .int a2), (3, .int a3)] := hl
  have he := hres
  unfold sp_X10_duty at he
  refine lv_aload_n hx hb dX10_duty_0 rfl (lv_at hl 0 rfl) ?_
  refine lv_aload_n hx hb dX10_duty_1 rfl (lv_at hl 0 rfl) ?_
  refine lv_iload_n hx hb dX10_duty_2 rfl (lv_at hl 1 rfl) ?_
  refine vp_callSi (va_Run.run (va_runV (As := [.int a1]) (rest := [.ref (q 0)]) ⟨hx, hb, hml, hown, hts⟩ (c_X10_isKind l dC dI q k st a1 _ rfl) (cwV 1 hts gX10_duty_X10_isKind rfl rfl rfl (by decide +kernel) ⟨Nat.le_of_ble_eq_true rfl, Nat.le_of_ble_eq_true rfl⟩) ⟨fb_M, va_recv hK.1 hP (ci := 10) (q0 := 0) rfl rfl, fun U hU hW => ⟨rfl, by rw [hU]; exact hP, hK.warm hW⟩⟩ rfl rfl hl.1 rfl (lv_room (Nat.le_of_ble_eq_true rfl)) dX10_duty_3 ⟨Nat.le_of_ble_eq_true rfl, Nat.le_of_ble_eq_true rfl⟩)) (fun r9 e9 => ?_)
  subst e9
  refine lv_if_eq (tgt := 28) hx hb dX10_duty_6 (by decide) (fun h6_1 => ?_) (fun h6_1 => ?_)
  · have he := (if_pos h6_1).symm.trans he
    refine lv_iconst (v := 1) hx hb dX10_duty_28 (by decide) ?_
    refine lv_goto (tgt := 46) hx hb dX10_duty_29 (by decide) ?_
    refine va_calli (va_runV (As := [.int 1]) (rest := []) ⟨hx, hb, hml, hown, hts⟩ (c_X10_says l dC dI q k st 1 hq _ rfl) (cwV 1 hts gX10_duty_X10_says rfl rfl rfl (by decide +kernel) ⟨Nat.le_of_ble_eq_true rfl, Nat.le_of_ble_eq_true rfl⟩) ⟨fb_M, va_recv hK.1 hP (ci := 10) (q0 := 0) rfl rfl, fun U hU hW => ⟨rfl, by rw [hU]; exact hP, hK.warm hW⟩⟩ rfl rfl hl.1 rfl (lv_room (Nat.le_of_ble_eq_true rfl)) dX10_duty_46 ⟨Nat.le_of_ble_eq_true rfl, Nat.le_of_ble_eq_true rfl⟩) hS (fun _ _ h => h) (fun _ h => h) (fun r9 u9 t9 H locs ht9 hv9 e9 hB9 hz9 hk9 hS => ?_)
    rw [ht9, says_2] at hB9
    replace e9 : r9 = 0 := e9.trans (saysV_1 _)
    subst e9
    have hP : va_P (dC, dI) vwCl (wM q k (sI st 10 1)) H := hB9
    refine lv_if_ne (tgt := 54) hx hb dX10_duty_49 (by decide) (fun h9 => absurd h9 (by decide)) (fun _ => ?_)
    refine lv_iconst (v := 0) hx hb dX10_duty_52 (by decide) ?_
    exact W.iret (v := 0) hx hb hr (fun t ht hW => ⟨⟨_, (), rfl, by show _ = Prod.fst _; rw [← he], by show va_P _ _ _ t.heap; rw [ht, ← he]; exact hP⟩, hS.F ht⟩) hS.2.2 dX10_duty_53
  · have he := (if_neg h6_1).symm.trans he
    refine lv_aload_n hx hb dX10_duty_9 rfl (lv_at hl 0 rfl) ?_
    refine lv_iload_n hx hb dX10_duty_10 rfl (lv_at hl 2 rfl) ?_
    refine vp_callSi (va_Run.run (va_runV (As := [.int a2]) (rest := [.ref (q 0)]) ⟨hx, hb, hml, hown, hts⟩ (c_X10_isPurpose l dC dI q k st a2 _ rfl) (cwV 1 hts gX10_duty_X10_isPurpose rfl rfl rfl (by decide +kernel) ⟨Nat.le_of_ble_eq_true rfl, Nat.le_of_ble_eq_true rfl⟩) ⟨fb_M, va_recv hK.1 hP (ci := 10) (q0 := 0) rfl rfl, fun U hU hW => ⟨rfl, by rw [hU]; exact hP, hK.warm hW⟩⟩ rfl rfl hl.1 rfl (lv_room (Nat.le_of_ble_eq_true rfl)) dX10_duty_11 ⟨Nat.le_of_ble_eq_true rfl, Nat.le_of_ble_eq_true rfl⟩)) (fun r9 e9 => ?_)
    subst e9
    refine lv_if_eq (tgt := 28) hx hb dX10_duty_14 (by decide) (fun h14_2 => ?_) (fun h14_2 => ?_)
    · have he := (if_pos h14_2).symm.trans he
      refine lv_iconst (v := 1) hx hb dX10_duty_28 (by decide) ?_
      refine lv_goto (tgt := 46) hx hb dX10_duty_29 (by decide) ?_
      refine va_calli (va_runV (As := [.int 1]) (rest := []) ⟨hx, hb, hml, hown, hts⟩ (c_X10_says l dC dI q k st 1 hq _ rfl) (cwV 1 hts gX10_duty_X10_says rfl rfl rfl (by decide +kernel) ⟨Nat.le_of_ble_eq_true rfl, Nat.le_of_ble_eq_true rfl⟩) ⟨fb_M, va_recv hK.1 hP (ci := 10) (q0 := 0) rfl rfl, fun U hU hW => ⟨rfl, by rw [hU]; exact hP, hK.warm hW⟩⟩ rfl rfl hl.1 rfl (lv_room (Nat.le_of_ble_eq_true rfl)) dX10_duty_46 ⟨Nat.le_of_ble_eq_true rfl, Nat.le_of_ble_eq_true rfl⟩) hS (fun _ _ h => h) (fun _ h => h) (fun r9 u9 t9 H locs ht9 hv9 e9 hB9 hz9 hk9 hS => ?_)
      rw [ht9, says_2] at hB9
      replace e9 : r9 = 0 := e9.trans (saysV_1 _)
      subst e9
      have hP : va_P (dC, dI) vwCl (wM q k (sI st 10 1)) H := hB9
      refine lv_if_ne (tgt := 54) hx hb dX10_duty_49 (by decide) (fun h9 => absurd h9 (by decide)) (fun _ => ?_)
      refine lv_iconst (v := 0) hx hb dX10_duty_52 (by decide) ?_
      exact W.iret (v := 0) hx hb hr (fun t ht hW => ⟨⟨_, (), rfl, by show _ = Prod.fst _; rw [← he], by show va_P _ _ _ t.heap; rw [ht, ← he]; exact hP⟩, hS.F ht⟩) hS.2.2 dX10_duty_53
    · have he := (if_neg h14_2).symm.trans he
      refine lv_iload_n hx hb dX10_duty_17 rfl (lv_at hl 3 rfl) ?_
      refine lv_iconst (v := 1) hx hb dX10_duty_18 (by decide) ?_
      refine lv_sipush (v := 5000) hx hb dX10_duty_19 (by decide) ?_
      refine vp_callSi (va_Run.run (va_runS (As := [.int a3, .int 1, .int 5000]) (rest := [.ref (q 0)]) ⟨hx, hb, hml, hown, hts⟩ (c_X10_in l a3 1 5000 _ rfl) (va_cwS 3 hts gX10_duty_X10_in rfl rfl rfl (by decide +kernel) ⟨Nat.le_of_ble_eq_true rfl, Nat.le_of_ble_eq_true rfl⟩) ⟨fb_T, fun U hU hW => ⟨rfl, trivial⟩⟩ rfl rfl hl.1 rfl (lv_room (Nat.le_of_ble_eq_true rfl)) dX10_duty_22 ⟨Nat.le_of_ble_eq_true rfl, Nat.le_of_ble_eq_true rfl⟩)) (fun r9 e9 => ?_)
      subst e9
      refine lv_if_ne (tgt := 32) hx hb dX10_duty_25 (by decide) (fun h25_3 => ?_) (fun h25_3 => ?_)
      · have he := (if_neg h25_3).symm.trans he
        refine lv_aload_n hx hb dX10_duty_32 rfl (lv_at hl 0 rfl) ?_
        refine va_get (D := (dC, dI)) (ci := 10) (v := .int (st.1 4)) (C := RX10) (T := TX10) (N := 45) hx hb hts hi10 hown hK.1 hP 0 rfl rfl 15 (by decide) hf154 (fun _ h9 => h9) rfl dX10_duty_33 ?_
        refine lv_bipush (v := 20) hx hb dX10_duty_36 (by decide) ?_
        refine lv_icmp_ne (tgt := 45) hx hb dX10_duty_38 (by decide) (fun h38_4 => ?_) (fun h38_4 => ?_)
        · have he := (if_neg h38_4).symm.trans he
          refine lv_iconst (v := 0) hx hb dX10_duty_45 (by decide) ?_
          refine va_calli (va_runV (As := [.int 0]) (rest := []) ⟨hx, hb, hml, hown, hts⟩ (c_X10_says l dC dI q k st 0 hq _ rfl) (cwV 1 hts gX10_duty_X10_says rfl rfl rfl (by decide +kernel) ⟨Nat.le_of_ble_eq_true rfl, Nat.le_of_ble_eq_true rfl⟩) ⟨fb_M, va_recv hK.1 hP (ci := 10) (q0 := 0) rfl rfl, fun U hU hW => ⟨rfl, by rw [hU]; exact hP, hK.warm hW⟩⟩ rfl rfl hl.1 rfl (lv_room (Nat.le_of_ble_eq_true rfl)) dX10_duty_46 ⟨Nat.le_of_ble_eq_true rfl, Nat.le_of_ble_eq_true rfl⟩) hS (fun _ _ h => h) (fun _ h => h) (fun r9 u9 t9 H locs ht9 hv9 e9 hB9 hz9 hk9 hS => ?_)
          rw [ht9, says_2] at hB9
          replace e9 : r9 = 1 := e9.trans (saysV_0 _)
          subst e9
          have hP : va_P (dC, dI) vwCl (wM q k (sI st 10 0)) H := hB9
          refine lv_if_ne (tgt := 54) hx hb dX10_duty_49 (by decide) (fun _ => ?_) (fun h9 => absurd h9 (by decide))
          refine lv_aload_n hx hb dX10_duty_54 rfl (lv_at hl 0 rfl) ?_
          refine va_get (D := (dC, dI)) (ci := 10) (v := .ref (q 11)) (C := RX10) (T := TX10) (N := 45) hx hb hts hi10 hown hK.1 hP 0 rfl rfl 16 (by decide) hf45 (fun _ h9 => h9) rfl dX10_duty_55 ?_
          refine lv_aload_n hx hb dX10_duty_58 rfl (lv_at hl 0 rfl) ?_
          refine va_get (D := (dC, dI)) (ci := 10) (v := .int (st.1 4)) (C := RX10) (T := TX10) (N := 45) hx hb hts hi10 hown hK.1 hP 0 rfl rfl 15 (by decide) hf154 (fun _ h9 => h9) rfl dX10_duty_59 ?_
          refine lv_iload_n hx hb dX10_duty_62 rfl (lv_at hl 1 rfl) ?_
          refine va_iast hx hb hK.1 hP (dM_of hq) hS 11 10 (f := st.2.1 10) (n := 20) (cA := k 10) rfl rfl (i := st.1 4) (x := a1) (ob_X10_duty_63_5 st a1 a2 a3 hok h6_1 h14_2 h25_3 h38_4) dX10_duty_63 (fun H locs hP _ hS => ?_)
          have hP : va_P (dC, dI) vwCl (wM q k (sA (sI st 10 0) 10 ((st.1 4).toNatClampNeg) a1)) H := hP
          refine lv_aload_n hx hb dX10_duty_64 rfl (lv_at hl 0 rfl) ?_
          refine va_get (D := (dC, dI)) (ci := 10) (v := .ref (q 12)) (C := RX10) (T := TX10) (N := 45) hx hb hts hi10 hown hK.1 hP 0 rfl rfl 17 (by decide) hf48 (fun _ h9 => h9) rfl dX10_duty_65 ?_
          refine lv_aload_n hx hb dX10_duty_68 rfl (lv_at hl 0 rfl) ?_
          refine va_get (D := (dC, dI)) (ci := 10) (v := .int (st.1 4)) (C := RX10) (T := TX10) (N := 45) hx hb hts hi10 hown hK.1 hP 0 rfl rfl 15 (by decide) hf154 (fun _ h9 => h9) rfl dX10_duty_69 ?_
          refine lv_iload_n hx hb dX10_duty_72 rfl (lv_at hl 2 rfl) ?_
          refine va_iast hx hb hK.1 hP (dM_of hq) hS 12 11 (f := st.2.1 11) (n := 20) (cA := k 11) rfl rfl (i := st.1 4) (x := a2) (ob_X10_duty_73_6 st a1 a2 a3 hok h6_1 h14_2 h25_3 h38_4) dX10_duty_73 (fun H locs hP _ hS => ?_)
          have hP : va_P (dC, dI) vwCl (wM q k (sA (sA (sI st 10 0) 10 ((st.1 4).toNatClampNeg) a1) 11 ((st.1 4).toNatClampNeg) a2)) H := hP
          refine lv_aload_n hx hb dX10_duty_74 rfl (lv_at hl 0 rfl) ?_
          refine va_get (D := (dC, dI)) (ci := 10) (v := .ref (q 13)) (C := RX10) (T := TX10) (N := 45) hx hb hts hi10 hown hK.1 hP 0 rfl rfl 18 (by decide) hf51 (fun _ h9 => h9) rfl dX10_duty_75 ?_
          refine lv_aload_n hx hb dX10_duty_78 rfl (lv_at hl 0 rfl) ?_
          refine va_get (D := (dC, dI)) (ci := 10) (v := .int (st.1 4)) (C := RX10) (T := TX10) (N := 45) hx hb hts hi10 hown hK.1 hP 0 rfl rfl 15 (by decide) hf154 (fun _ h9 => h9) rfl dX10_duty_79 ?_
          refine lv_iload_n hx hb dX10_duty_82 rfl (lv_at hl 3 rfl) ?_
          refine va_iast hx hb hK.1 hP (dM_of hq) hS 13 12 (f := st.2.1 12) (n := 20) (cA := k 12) rfl rfl (i := st.1 4) (x := a3) (ob_X10_duty_83_7 st a1 a2 a3 hok h6_1 h14_2 h25_3 h38_4) dX10_duty_83 (fun H locs hP _ hS => ?_)
          have hP : va_P (dC, dI) vwCl (wM q k (sA (sA (sA (sI st 10 0) 10 ((st.1 4).toNatClampNeg) a1) 11 ((st.1 4).toNatClampNeg) a2) 12 ((st.1 4).toNatClampNeg) a3)) H := hP
          refine lv_aload_n hx hb dX10_duty_84 rfl (lv_at hl 0 rfl) ?_
          refine lv_dup hx hb dX10_duty_85 rfl ?_
          refine va_get (D := (dC, dI)) (ci := 10) (v := .int (st.1 4)) (C := RX10) (T := TX10) (N := 45) hx hb hts hi10 hown hK.1 hP 0 rfl rfl 15 (by decide) hf154 (fun _ h9 => h9) rfl dX10_duty_86 ?_
          refine lv_iconst (v := 1) hx hb dX10_duty_89 (by decide) ?_
          refine lv_iadd hx hb dX10_duty_90 ?_
          refine va_put (D := (dC, dI)) (ci := 10) (v := .int ((st.1 4) + 1)) (ty := .int) (C := RX10) (T := TX10) (N := 45) hx hb hts hi10 tyX10 tyX10_ok nmX10 hown hK.1 hP (dM_of hq) hS 0 rfl rfl 15 (by decide) hf154 (fun _ h9 => h9) rfl (by decide +kernel) rfl rfl (Nat.le_of_ble_eq_true rfl) dX10_duty_91 (fun H locs hP _ hS => ?_)
          have hP : va_P (dC, dI) vwCl (wM q k (sI (sA (sA (sA (sI st 10 0) 10 ((st.1 4).toNatClampNeg) a1) 11 ((st.1 4).toNatClampNeg) a2) 12 ((st.1 4).toNatClampNeg) a3) 4 ((st.1 4) + 1))) H := hP
          refine lv_aload_n hx hb dX10_duty_94 rfl (lv_at hl 0 rfl) ?_
          refine va_get (D := (dC, dI)) (ci := 10) (v := .int ((st.1 4) + 1)) (C := RX10) (T := TX10) (N := 45) hx hb hts hi10 hown hK.1 hP 0 rfl rfl 15 (by decide) hf154 (fun _ h9 => h9) rfl dX10_duty_95 ?_
          exact W.iret (v := (st.1 4) + 1) hx hb hr (fun t ht hW => ⟨⟨_, (), rfl, by show _ = Prod.fst _; rw [← he], by show va_P _ _ _ t.heap; rw [ht, ← he]; exact hP⟩, hS.F ht⟩) hS.2.2 dX10_duty_98
        · have he := (if_pos h38_4).symm.trans he
          refine lv_iconst (v := 2) hx hb dX10_duty_41 (by decide) ?_
          refine lv_goto (tgt := 46) hx hb dX10_duty_42 (by decide) ?_
          refine va_calli (va_runV (As := [.int 2]) (rest := []) ⟨hx, hb, hml, hown, hts⟩ (c_X10_says l dC dI q k st 2 hq _ rfl) (cwV 1 hts gX10_duty_X10_says rfl rfl rfl (by decide +kernel) ⟨Nat.le_of_ble_eq_true rfl, Nat.le_of_ble_eq_true rfl⟩) ⟨fb_M, va_recv hK.1 hP (ci := 10) (q0 := 0) rfl rfl, fun U hU hW => ⟨rfl, by rw [hU]; exact hP, hK.warm hW⟩⟩ rfl rfl hl.1 rfl (lv_room (Nat.le_of_ble_eq_true rfl)) dX10_duty_46 ⟨Nat.le_of_ble_eq_true rfl, Nat.le_of_ble_eq_true rfl⟩) hS (fun _ _ h => h) (fun _ h => h) (fun r9 u9 t9 H locs ht9 hv9 e9 hB9 hz9 hk9 hS => ?_)
          rw [ht9, says_2] at hB9
          replace e9 : r9 = 0 := e9.trans (saysV_2 _)
          subst e9
          have hP : va_P (dC, dI) vwCl (wM q k (sI st 10 2)) H := hB9
          refine lv_if_ne (tgt := 54) hx hb dX10_duty_49 (by decide) (fun h9 => absurd h9 (by decide)) (fun _ => ?_)
          refine lv_iconst (v := 0) hx hb dX10_duty_52 (by decide) ?_
          exact W.iret (v := 0) hx hb hr (fun t ht hW => ⟨⟨_, (), rfl, by show _ = Prod.fst _; rw [← he], by show va_P _ _ _ t.heap; rw [ht, ← he]; exact hP⟩, hS.F ht⟩) hS.2.2 dX10_duty_53
      · have he := (if_pos h25_3).symm.trans he
        refine lv_iconst (v := 1) hx hb dX10_duty_28 (by decide) ?_
        refine lv_goto (tgt := 46) hx hb dX10_duty_29 (by decide) ?_
        refine va_calli (va_runV (As := [.int 1]) (rest := []) ⟨hx, hb, hml, hown, hts⟩ (c_X10_says l dC dI q k st 1 hq _ rfl) (cwV 1 hts gX10_duty_X10_says rfl rfl rfl (by decide +kernel) ⟨Nat.le_of_ble_eq_true rfl, Nat.le_of_ble_eq_true rfl⟩) ⟨fb_M, va_recv hK.1 hP (ci := 10) (q0 := 0) rfl rfl, fun U hU hW => ⟨rfl, by rw [hU]; exact hP, hK.warm hW⟩⟩ rfl rfl hl.1 rfl (lv_room (Nat.le_of_ble_eq_true rfl)) dX10_duty_46 ⟨Nat.le_of_ble_eq_true rfl, Nat.le_of_ble_eq_true rfl⟩) hS (fun _ _ h => h) (fun _ h => h) (fun r9 u9 t9 H locs ht9 hv9 e9 hB9 hz9 hk9 hS => ?_)
        rw [ht9, says_2] at hB9
        replace e9 : r9 = 0 := e9.trans (saysV_1 _)
        subst e9
        have hP : va_P (dC, dI) vwCl (wM q k (sI st 10 1)) H := hB9
        refine lv_if_ne (tgt := 54) hx hb dX10_duty_49 (by decide) (fun h9 => absurd h9 (by decide)) (fun _ => ?_)
        refine lv_iconst (v := 0) hx hb dX10_duty_52 (by decide) ?_
        exact W.iret (v := 0) hx hb hr (fun t ht hW => ⟨⟨_, (), rfl, by show _ = Prod.fst _; rw [← he], by show va_P _ _ _ t.heap; rw [ht, ← he]; exact hP⟩, hS.F ht⟩) hS.2.2 dX10_duty_53
set_option maxHeartbeats 4000000 in
set_option maxRecDepth 100000 in
theorem c_X10_add (l : Launch) (dC : Nat → ClassId) (dI : Nat → Nat → Nat) (q : Nat → Nat) (k : Nat → ClassId) (st : St) (a1 : Int32) (a2 : Int32) (a3 : Int32) (a4 : Int32) (hq : ∀ i j, i < 35 → j < 35 → q i = q j → i = j) (hv7 : vp_in (st.1 7) 100) (res : Int32 × St) (hres : sp_X10_add st a1 a2 a3 a4 = res) : Met l yX10_add wsX10_add ({ frames := 0, cells := 0, slots := 0, locals := 0 } : Room) (va_Pc [.ref (q 0), .int a1, .int a2, .int a3, .int a4] (fun U => va_P (dC, dI) vwCl (wM q k st) U.heap ∧ KM (dC, dI) k U)) (va_Qi (fun r (_ : Unit) => r = res.1) (fun _ t => va_P (dC, dI) vwCl (wM q k res.2) t.heap) (aM q)) 0 0 (aM q) := by
  refine Met.ofW (cc := cX10_add) (maxL := 5) (ret := (some .int)) (by decide) rfl ?_
  intro p e s m args below meth c s₁ B hml hv
  obtain ⟨rfl, hP, hK⟩ := hv
  have hx := B.exec
  have hb := B.bytes
  have hr := B.returns
  have hts := atoms_spec (ws := wsX10_add) B.pre
  have hown : s.vm.findClass RX10 = some m.cls := findClass_of_methodNamed B.named
  have hlocks := B.notSynchronized
  have hS : va_S (aM q) s.heap s.heap [] := va_S.rf
  have hi10 : ∀ w ∈ wsX100, w ∈ wsX10_add := by decide +kernel
  have hf54 := hts (.fieldLink RX10 54 "ConsentRegisterModel" "hows" "[I") (by decide +kernel)
  have hf57 := hts (.fieldLink RX10 57 "ConsentRegisterModel" "itemKind" "[I") (by decide +kernel)
  have hf60 := hts (.fieldLink RX10 60 "ConsentRegisterModel" "itemDay" "[I") (by decide +kernel)
  have hf63 := hts (.fieldLink RX10 63 "ConsentRegisterModel" "itemPersons" "[I") (by decide +kernel)
  have hf75 := hts (.fieldLink RX10 75 "ConsentRegisterModel" "lives" "[Z") (by decide +kernel)
  have hf157 := hts (.fieldLink RX10 157 "ConsentRegisterModel" "items" "I") (by decide +kernel)
  have hl := lv_entry ([.ref (q 0), .int a1, .int a2, .int a3, .int a4]) (n := 5) (Nat.le_of_ble_eq_true rfl)
  rw [lg_entry_eq]
  generalize (lg_sl ([.ref (q 0), .int a1, .int a2, .int a3, .int a4]) ++ List.replicate (5 - (lg_sl ([.ref (q 0), .int a1, .int a2, .int a3, .int a4])).length) Slot.unset).toArray = ls at hl ⊢
  have hl : lv_has ls 5 [(0, .ref (q 0)), (1, .int a1), (2, .int a2), (3, .int a3), (4, .int a4)] := hl
  have he := hres
  unfold sp_X10_add at he
  refine lv_aload_n hx hb dX10_add_0 rfl (lv_at hl 0 rfl) ?_
  refine va_get (D := (dC, dI)) (ci := 10) (v := .ref (q 24)) (C := RX10) (T := TX10) (N := 45) hx hb hts hi10 hown hK.1 hP 0 rfl rfl 20 (by decide) hf54 (fun _ h9 => h9) rfl dX10_add_1 ?_
  refine lv_aload_n hx hb dX10_add_4 rfl (lv_at hl 0 rfl) ?_
  refine va_get (D := (dC, dI)) (ci := 10) (v := .int (st.1 7)) (C := RX10) (T := TX10) (N := 45) hx hb hts hi10 hown hK.1 hP 0 rfl rfl 19 (by decide) hf157 (fun _ h9 => h9) rfl dX10_add_5 ?_
  refine lv_iload_n hx hb dX10_add_8 rfl (lv_at hl 1 rfl) ?_
  refine va_iast hx hb hK.1 hP (dM_of hq) hS 24 23 (f := st.2.1 23) (n := 100) (cA := k 23) rfl rfl (i := st.1 7) (x := a1) (ob_X10_add_9_1 st a1 a2 a3 a4 hv7) dX10_add_9 (fun H locs hP _ hS => ?_)
  have hP : va_P (dC, dI) vwCl (wM q k (sA st 23 ((st.1 7).toNatClampNeg) a1)) H := hP
  refine lv_aload_n hx hb dX10_add_10 rfl (lv_at hl 0 rfl) ?_
  refine va_get (D := (dC, dI)) (ci := 10) (v := .ref (q 21)) (C := RX10) (T := TX10) (N := 45) hx hb hts hi10 hown hK.1 hP 0 rfl rfl 21 (by decide) hf57 (fun _ h9 => h9) rfl dX10_add_11 ?_
  refine lv_aload_n hx hb dX10_add_14 rfl (lv_at hl 0 rfl) ?_
  refine va_get (D := (dC, dI)) (ci := 10) (v := .int (st.1 7)) (C := RX10) (T := TX10) (N := 45) hx hb hts hi10 hown hK.1 hP 0 rfl rfl 19 (by decide) hf157 (fun _ h9 => h9) rfl dX10_add_15 ?_
  refine lv_iload_n hx hb dX10_add_18 rfl (lv_at hl 2 rfl) ?_
  refine va_iast hx hb hK.1 hP (dM_of hq) hS 21 20 (f := st.2.1 20) (n := 100) (cA := k 20) rfl rfl (i := st.1 7) (x := a2) (ob_X10_add_19_2 st a1 a2 a3 a4 hv7) dX10_add_19 (fun H locs hP _ hS => ?_)
  have hP : va_P (dC, dI) vwCl (wM q k (sA (sA st 23 ((st.1 7).toNatClampNeg) a1) 20 ((st.1 7).toNatClampNeg) a2)) H := hP
  refine lv_aload_n hx hb dX10_add_20 rfl (lv_at hl 0 rfl) ?_
  refine va_get (D := (dC, dI)) (ci := 10) (v := .ref (q 22)) (C := RX10) (T := TX10) (N := 45) hx hb hts hi10 hown hK.1 hP 0 rfl rfl 22 (by decide) hf60 (fun _ h9 => h9) rfl dX10_add_21 ?_
  refine lv_aload_n hx hb dX10_add_24 rfl (lv_at hl 0 rfl) ?_
  refine va_get (D := (dC, dI)) (ci := 10) (v := .int (st.1 7)) (C := RX10) (T := TX10) (N := 45) hx hb hts hi10 hown hK.1 hP 0 rfl rfl 19 (by decide) hf157 (fun _ h9 => h9) rfl dX10_add_25 ?_
  refine lv_iload_n hx hb dX10_add_28 rfl (lv_at hl 3 rfl) ?_
  refine va_iast hx hb hK.1 hP (dM_of hq) hS 22 21 (f := st.2.1 21) (n := 100) (cA := k 21) rfl rfl (i := st.1 7) (x := a3) (ob_X10_add_29_3 st a1 a2 a3 a4 hv7) dX10_add_29 (fun H locs hP _ hS => ?_)
  have hP : va_P (dC, dI) vwCl (wM q k (sA (sA (sA st 23 ((st.1 7).toNatClampNeg) a1) 20 ((st.1 7).toNatClampNeg) a2) 21 ((st.1 7).toNatClampNeg) a3)) H := hP
  refine lv_aload_n hx hb dX10_add_30 rfl (lv_at hl 0 rfl) ?_
  refine va_get (D := (dC, dI)) (ci := 10) (v := .ref (q 23)) (C := RX10) (T := TX10) (N := 45) hx hb hts hi10 hown hK.1 hP 0 rfl rfl 23 (by decide) hf63 (fun _ h9 => h9) rfl dX10_add_31 ?_
  refine lv_aload_n hx hb dX10_add_34 rfl (lv_at hl 0 rfl) ?_
  refine va_get (D := (dC, dI)) (ci := 10) (v := .int (st.1 7)) (C := RX10) (T := TX10) (N := 45) hx hb hts hi10 hown hK.1 hP 0 rfl rfl 19 (by decide) hf157 (fun _ h9 => h9) rfl dX10_add_35 ?_
  refine lv_iload hx hb dX10_add_38 (lv_at hl 4 rfl) ?_
  refine va_iast hx hb hK.1 hP (dM_of hq) hS 23 22 (f := st.2.1 22) (n := 100) (cA := k 22) rfl rfl (i := st.1 7) (x := a4) (ob_X10_add_40_4 st a1 a2 a3 a4 hv7) dX10_add_40 (fun H locs hP _ hS => ?_)
  have hP : va_P (dC, dI) vwCl (wM q k (sA (sA (sA (sA st 23 ((st.1 7).toNatClampNeg) a1) 20 ((st.1 7).toNatClampNeg) a2) 21 ((st.1 7).toNatClampNeg) a3) 22 ((st.1 7).toNatClampNeg) a4)) H := hP
  refine lv_aload_n hx hb dX10_add_41 rfl (lv_at hl 0 rfl) ?_
  refine va_get (D := (dC, dI)) (ci := 10) (v := .ref (q 27)) (C := RX10) (T := TX10) (N := 45) hx hb hts hi10 hown hK.1 hP 0 rfl rfl 27 (by decide) hf75 (fun _ h9 => h9) rfl dX10_add_42 ?_
  refine lv_aload_n hx hb dX10_add_45 rfl (lv_at hl 0 rfl) ?_
  refine va_get (D := (dC, dI)) (ci := 10) (v := .int (st.1 7)) (C := RX10) (T := TX10) (N := 45) hx hb hts hi10 hown hK.1 hP 0 rfl rfl 19 (by decide) hf157 (fun _ h9 => h9) rfl dX10_add_46 ?_
  refine lv_iconst (v := 1) hx hb dX10_add_49 (by decide) ?_
  refine va_zast hx hb hK.1 hP (dM_of hq) hS 27 26 (f := st.2.1 26) (n := 100) (cA := k 26) rfl rfl (i := st.1 7) (x := 1) (ob_X10_add_50_5 st a1 a2 a3 a4 hv7) dX10_add_50 (fun H locs hP _ hS => ?_)
  have hP : va_P (dC, dI) vwCl (wM q k (sA (sA (sA (sA (sA st 23 ((st.1 7).toNatClampNeg) a1) 20 ((st.1 7).toNatClampNeg) a2) 21 ((st.1 7).toNatClampNeg) a3) 22 ((st.1 7).toNatClampNeg) a4) 26 ((st.1 7).toNatClampNeg) 1)) H := hP
  refine lv_aload_n hx hb dX10_add_51 rfl (lv_at hl 0 rfl) ?_
  refine lv_dup hx hb dX10_add_52 rfl ?_
  refine va_get (D := (dC, dI)) (ci := 10) (v := .int (st.1 7)) (C := RX10) (T := TX10) (N := 45) hx hb hts hi10 hown hK.1 hP 0 rfl rfl 19 (by decide) hf157 (fun _ h9 => h9) rfl dX10_add_53 ?_
  refine lv_iconst (v := 1) hx hb dX10_add_56 (by decide) ?_
  refine lv_iadd hx hb dX10_add_57 ?_
  refine va_put (D := (dC, dI)) (ci := 10) (v := .int ((st.1 7) + 1)) (ty := .int) (C := RX10) (T := TX10) (N := 45) hx hb hts hi10 tyX10 tyX10_ok nmX10 hown hK.1 hP (dM_of hq) hS 0 rfl rfl 19 (by decide) hf157 (fun _ h9 => h9) rfl (by decide +kernel) rfl rfl (Nat.le_of_ble_eq_true rfl) dX10_add_58 (fun H locs hP _ hS => ?_)
  have hP : va_P (dC, dI) vwCl (wM q k (sI (sA (sA (sA (sA (sA st 23 ((st.1 7).toNatClampNeg) a1) 20 ((st.1 7).toNatClampNeg) a2) 21 ((st.1 7).toNatClampNeg) a3) 22 ((st.1 7).toNatClampNeg) a4) 26 ((st.1 7).toNatClampNeg) 1) 7 ((st.1 7) + 1))) H := hP
  refine lv_aload_n hx hb dX10_add_61 rfl (lv_at hl 0 rfl) ?_
  refine va_get (D := (dC, dI)) (ci := 10) (v := .int ((st.1 7) + 1)) (C := RX10) (T := TX10) (N := 45) hx hb hts hi10 hown hK.1 hP 0 rfl rfl 19 (by decide) hf157 (fun _ h9 => h9) rfl dX10_add_62 ?_
  refine lv_iconst (v := 1) hx hb dX10_add_65 (by decide) ?_
  refine lv_isub hx hb dX10_add_66 ?_
  exact W.iret (v := ((st.1 7) + 1) - 1) hx hb hr (fun t ht hW => ⟨⟨_, (), rfl, by show _ = Prod.fst _; rw [← he], by show va_P _ _ _ t.heap; rw [ht, ← he]; exact hP⟩, hS.F ht⟩) hS.2.2 dX10_add_67
set_option maxHeartbeats 4000000 in
set_option maxRecDepth 100000 in
theorem c_X10_put (l : Launch) (dC : Nat → ClassId) (dI : Nat → Nat → Nat) (q : Nat → Nat) (k : Nat → ClassId) (st : St) (a1 : Int32) (a2 : Int32) (a3 : Int32) (a4 : Int32) (hq : ∀ i j, i < 35 → j < 35 → q i = q j → i = j) (hok : okM st) (res : Int32 × St) (hres : sp_X10_put st a1 a2 a3 a4 = res) : Met l yX10_put wsX10_put ({ frames := 2, cells := 0, slots := 0, locals := 43 } : Room) (va_Pc [.ref (q 0), .int a1, .int a2, .int a3, .int a4] (fun U => va_P (dC, dI) vwCl (wM q k st) U.heap ∧ KM (dC, dI) k U)) (va_Qi (fun r (_ : Unit) => r = res.1) (fun _ t => va_P (dC, dI) vwCl (wM q k res.2) t.heap) (aM q)) 0 0 (aM q) := by
  refine Met.ofW (cc := cX10_put) (maxL := 5) (ret := (some .int)) (by decide) rfl ?_
  intro p e s m args below meth c s₁ B hml hv
  obtain ⟨rfl, hP, hK⟩ := hv
  have hx := B.exec
  have hb := B.bytes
  have hr := B.returns
  have hts := atoms_spec (ws := wsX10_put) B.pre
  have hown : s.vm.findClass RX10 = some m.cls := findClass_of_methodNamed B.named
  have hlocks := B.notSynchronized
  have hS : va_S (aM q) s.heap s.heap [] := va_S.rf
  have hi10 : ∀ w ∈ wsX100, w ∈ wsX10_put := by decide +kernel
  have hf72 := hts (.fieldLink RX10 72 "ConsentRegisterModel" "word" "[I") (by decide +kernel)
  have hf157 := hts (.fieldLink RX10 157 "ConsentRegisterModel" "items" "I") (by decide +kernel)
  have hl := lv_entry ([.ref (q 0), .int a1, .int a2, .int a3, .int a4]) (n := 5) (Nat.le_of_ble_eq_true rfl)
  rw [lg_entry_eq]
  generalize (lg_sl ([.ref (q 0), .int a1, .int a2, .int a3, .int a4]) ++ List.replicate (5 - (lg_sl ([.ref (q 0), .int a1, .int a2, .int a3, .int a4])).length) Slot.unset).toArray = ls at hl ⊢
  have hl : lv_has ls 5 [(0, .ref (q 0)), (1, .int a1), (2, .int a2), (3, .int a3), (4, .int a4)] := hl
  have he := hres
  unfold sp_X10_put at he
  refine lv_aload_n hx hb dX10_put_0 rfl (lv_at hl 0 rfl) ?_
  refine lv_iload_n hx hb dX10_put_1 rfl (lv_at hl 1 rfl) ?_
  refine vp_callSi (va_Run.run (va_runS (As := [.int a1]) (rest := [.ref (q 0)]) ⟨hx, hb, hml, hown, hts⟩ (c_X10_isPerson l a1 _ rfl) (va_cwS 1 hts gX10_put_X10_isPerson rfl rfl rfl (by decide +kernel) ⟨Nat.le_of_ble_eq_true rfl, Nat.le_of_ble_eq_true rfl⟩) ⟨fb_T, fun U hU hW => ⟨rfl, trivial⟩⟩ rfl rfl hl.1 rfl (lv_room (Nat.le_of_ble_eq_true rfl)) dX10_put_2 ⟨Nat.le_of_ble_eq_true rfl, Nat.le_of_ble_eq_true rfl⟩)) (fun r9 e9 => ?_)
  subst e9
  refine lv_if_eq (tgt := 28) hx hb dX10_put_5 (by decide) (fun h5_1 => ?_) (fun h5_1 => ?_)
  · have he := (if_pos h5_1).symm.trans he
    refine lv_iconst (v := 1) hx hb dX10_put_28 (by decide) ?_
    refine lv_goto (tgt := 46) hx hb dX10_put_29 (by decide) ?_
    refine va_calli (va_runV (As := [.int 1]) (rest := []) ⟨hx, hb, hml, hown, hts⟩ (c_X10_says l dC dI q k st 1 hq _ rfl) (cwV 1 hts gX10_put_X10_says rfl rfl rfl (by decide +kernel) ⟨Nat.le_of_ble_eq_true rfl, Nat.le_of_ble_eq_true rfl⟩) ⟨fb_M, va_recv hK.1 hP (ci := 10) (q0 := 0) rfl rfl, fun U hU hW => ⟨rfl, by rw [hU]; exact hP, hK.warm hW⟩⟩ rfl rfl hl.1 rfl (lv_room (Nat.le_of_ble_eq_true rfl)) dX10_put_46 ⟨Nat.le_of_ble_eq_true rfl, Nat.le_of_ble_eq_true rfl⟩) hS (fun _ _ h => h) (fun _ h => h) (fun r9 u9 t9 H locs ht9 hv9 e9 hB9 hz9 hk9 hS => ?_)
    rw [ht9, says_2] at hB9
    replace e9 : r9 = 0 := e9.trans (saysV_1 _)
    subst e9
    have hP : va_P (dC, dI) vwCl (wM q k (sI st 10 1)) H := hB9
    refine lv_if_ne (tgt := 54) hx hb dX10_put_49 (by decide) (fun h9 => absurd h9 (by decide)) (fun _ => ?_)
    refine lv_iconst (v := 0) hx hb dX10_put_52 (by decide) ?_
    exact W.iret (v := 0) hx hb hr (fun t ht hW => ⟨⟨_, (), rfl, by show _ = Prod.fst _; rw [← he], by show va_P _ _ _ t.heap; rw [ht, ← he]; exact hP⟩, hS.F ht⟩) hS.2.2 dX10_put_53
  · have he := (if_neg h5_1).symm.trans he
    refine lv_aload_n hx hb dX10_put_8 rfl (lv_at hl 0 rfl) ?_
    refine lv_iload_n hx hb dX10_put_9 rfl (lv_at hl 2 rfl) ?_
    refine vp_callSi (va_Run.run (va_runV (As := [.int a2]) (rest := [.ref (q 0)]) ⟨hx, hb, hml, hown, hts⟩ (c_X10_isKind l dC dI q k st a2 _ rfl) (cwV 1 hts gX10_put_X10_isKind rfl rfl rfl (by decide +kernel) ⟨Nat.le_of_ble_eq_true rfl, Nat.le_of_ble_eq_true rfl⟩) ⟨fb_M, va_recv hK.1 hP (ci := 10) (q0 := 0) rfl rfl, fun U hU hW => ⟨rfl, by rw [hU]; exact hP, hK.warm hW⟩⟩ rfl rfl hl.1 rfl (lv_room (Nat.le_of_ble_eq_true rfl)) dX10_put_10 ⟨Nat.le_of_ble_eq_true rfl, Nat.le_of_ble_eq_true rfl⟩)) (fun r9 e9 => ?_)
    subst e9
    refine lv_if_eq (tgt := 28) hx hb dX10_put_13 (by decide) (fun h13_2 => ?_) (fun h13_2 => ?_)
    · have he := (if_pos h13_2).symm.trans he
      refine lv_iconst (v := 1) hx hb dX10_put_28 (by decide) ?_
      refine lv_goto (tgt := 46) hx hb dX10_put_29 (by decide) ?_
      refine va_calli (va_runV (As := [.int 1]) (rest := []) ⟨hx, hb, hml, hown, hts⟩ (c_X10_says l dC dI q k st 1 hq _ rfl) (cwV 1 hts gX10_put_X10_says rfl rfl rfl (by decide +kernel) ⟨Nat.le_of_ble_eq_true rfl, Nat.le_of_ble_eq_true rfl⟩) ⟨fb_M, va_recv hK.1 hP (ci := 10) (q0 := 0) rfl rfl, fun U hU hW => ⟨rfl, by rw [hU]; exact hP, hK.warm hW⟩⟩ rfl rfl hl.1 rfl (lv_room (Nat.le_of_ble_eq_true rfl)) dX10_put_46 ⟨Nat.le_of_ble_eq_true rfl, Nat.le_of_ble_eq_true rfl⟩) hS (fun _ _ h => h) (fun _ h => h) (fun r9 u9 t9 H locs ht9 hv9 e9 hB9 hz9 hk9 hS => ?_)
      rw [ht9, says_2] at hB9
      replace e9 : r9 = 0 := e9.trans (saysV_1 _)
      subst e9
      have hP : va_P (dC, dI) vwCl (wM q k (sI st 10 1)) H := hB9
      refine lv_if_ne (tgt := 54) hx hb dX10_put_49 (by decide) (fun h9 => absurd h9 (by decide)) (fun _ => ?_)
      refine lv_iconst (v := 0) hx hb dX10_put_52 (by decide) ?_
      exact W.iret (v := 0) hx hb hr (fun t ht hW => ⟨⟨_, (), rfl, by show _ = Prod.fst _; rw [← he], by show va_P _ _ _ t.heap; rw [ht, ← he]; exact hP⟩, hS.F ht⟩) hS.2.2 dX10_put_53
    · have he := (if_neg h13_2).symm.trans he
      refine lv_iload hx hb dX10_put_16 (lv_at hl 4 rfl) ?_
      refine lv_iconst (v := 0) hx hb dX10_put_18 (by decide) ?_
      refine lv_sipush (v := 6944) hx hb dX10_put_19 (by decide) ?_
      refine vp_callSi (va_Run.run (va_runS (As := [.int a4, .int 0, .int 6944]) (rest := [.ref (q 0)]) ⟨hx, hb, hml, hown, hts⟩ (c_X10_in l a4 0 6944 _ rfl) (va_cwS 3 hts gX10_put_X10_in rfl rfl rfl (by decide +kernel) ⟨Nat.le_of_ble_eq_true rfl, Nat.le_of_ble_eq_true rfl⟩) ⟨fb_T, fun U hU hW => ⟨rfl, trivial⟩⟩ rfl rfl hl.1 rfl (lv_room (Nat.le_of_ble_eq_true rfl)) dX10_put_22 ⟨Nat.le_of_ble_eq_true rfl, Nat.le_of_ble_eq_true rfl⟩)) (fun r9 e9 => ?_)
      subst e9
      refine lv_if_ne (tgt := 32) hx hb dX10_put_25 (by decide) (fun h25_3 => ?_) (fun h25_3 => ?_)
      · have he := (if_neg h25_3).symm.trans he
        refine lv_aload_n hx hb dX10_put_32 rfl (lv_at hl 0 rfl) ?_
        refine va_get (D := (dC, dI)) (ci := 10) (v := .int (st.1 7)) (C := RX10) (T := TX10) (N := 45) hx hb hts hi10 hown hK.1 hP 0 rfl rfl 19 (by decide) hf157 (fun _ h9 => h9) rfl dX10_put_33 ?_
        refine lv_bipush (v := 100) hx hb dX10_put_36 (by decide) ?_
        refine lv_icmp_ne (tgt := 45) hx hb dX10_put_38 (by decide) (fun h38_4 => ?_) (fun h38_4 => ?_)
        · have he := (if_neg h38_4).symm.trans he
          refine lv_iconst (v := 0) hx hb dX10_put_45 (by decide) ?_
          refine va_calli (va_runV (As := [.int 0]) (rest := []) ⟨hx, hb, hml, hown, hts⟩ (c_X10_says l dC dI q k st 0 hq _ rfl) (cwV 1 hts gX10_put_X10_says rfl rfl rfl (by decide +kernel) ⟨Nat.le_of_ble_eq_true rfl, Nat.le_of_ble_eq_true rfl⟩) ⟨fb_M, va_recv hK.1 hP (ci := 10) (q0 := 0) rfl rfl, fun U hU hW => ⟨rfl, by rw [hU]; exact hP, hK.warm hW⟩⟩ rfl rfl hl.1 rfl (lv_room (Nat.le_of_ble_eq_true rfl)) dX10_put_46 ⟨Nat.le_of_ble_eq_true rfl, Nat.le_of_ble_eq_true rfl⟩) hS (fun _ _ h => h) (fun _ h => h) (fun r9 u9 t9 H locs ht9 hv9 e9 hB9 hz9 hk9 hS => ?_)
          rw [ht9, says_2] at hB9
          replace e9 : r9 = 1 := e9.trans (saysV_0 _)
          subst e9
          have hP : va_P (dC, dI) vwCl (wM q k (sI st 10 0)) H := hB9
          refine lv_if_ne (tgt := 54) hx hb dX10_put_49 (by decide) (fun _ => ?_) (fun h9 => absurd h9 (by decide))
          refine lv_aload_n hx hb dX10_put_54 rfl (lv_at hl 0 rfl) ?_
          refine va_get (D := (dC, dI)) (ci := 10) (v := .ref (q 29)) (C := RX10) (T := TX10) (N := 45) hx hb hts hi10 hown hK.1 hP 0 rfl rfl 26 (by decide) hf72 (fun _ h9 => h9) rfl dX10_put_55 ?_
          refine lv_aload_n hx hb dX10_put_58 rfl (lv_at hl 0 rfl) ?_
          refine va_get (D := (dC, dI)) (ci := 10) (v := .int (st.1 7)) (C := RX10) (T := TX10) (N := 45) hx hb hts hi10 hown hK.1 hP 0 rfl rfl 19 (by decide) hf157 (fun _ h9 => h9) rfl dX10_put_59 ?_
          refine lv_iload_n hx hb dX10_put_62 rfl (lv_at hl 3 rfl) ?_
          refine va_iast hx hb hK.1 hP (dM_of hq) hS 29 28 (f := st.2.1 28) (n := 100) (cA := k 28) rfl rfl (i := st.1 7) (x := a3) (ob_X10_put_63_5 st a1 a2 a3 a4 hok h5_1 h13_2 h25_3 h38_4) dX10_put_63 (fun H locs hP _ hS => ?_)
          have hP : va_P (dC, dI) vwCl (wM q k (sA (sI st 10 0) 28 ((st.1 7).toNatClampNeg) a3)) H := hP
          refine lv_aload_n hx hb dX10_put_64 rfl (lv_at hl 0 rfl) ?_
          refine lv_iconst (v := (-1)) hx hb dX10_put_65 (by decide) ?_
          refine lv_iload_n hx hb dX10_put_66 rfl (lv_at hl 2 rfl) ?_
          refine lv_iload hx hb dX10_put_67 (lv_at hl 4 rfl) ?_
          refine lv_iconst (v := 1) hx hb dX10_put_69 (by decide) ?_
          refine lv_iload_n hx hb dX10_put_70 rfl (lv_at hl 1 rfl) ?_
          refine lv_ishl hx hb dX10_put_71 ?_
          refine va_calli (va_runV (As := [.int (-1), .int a2, .int a4, .int (1 <<< (a1 &&& 31))]) (rest := []) ⟨hx, hb, hml, hown, hts⟩ (c_X10_add l dC dI q k (sA (sI st 10 0) 28 ((st.1 7).toNatClampNeg) a3) (-1) a2 a4 (1 <<< (a1 &&& 31)) hq (ob_X10_put_72_6 st a1 a2 a3 a4 hok h5_1 h13_2 h25_3 h38_4) _ rfl) (cwV 4 hts gX10_put_X10_add rfl rfl rfl (by decide +kernel) ⟨Nat.le_of_ble_eq_true rfl, Nat.le_of_ble_eq_true rfl⟩) ⟨fb_M, va_recv hK.1 hP (ci := 10) (q0 := 0) rfl rfl, fun U hU hW => ⟨rfl, by rw [hU]; exact hP, hK.warm hW⟩⟩ rfl rfl hl.1 rfl (lv_room (Nat.le_of_ble_eq_true rfl)) dX10_put_72 ⟨Nat.le_of_ble_eq_true rfl, Nat.le_of_ble_eq_true rfl⟩) hS (fun _ _ h => h) (fun _ h => h) (fun r9 u9 t9 H locs ht9 hv9 e9 hB9 hz9 hk9 hS => ?_)
          rw [ht9] at hB9
          subst e9
          have hP : va_P (dC, dI) vwCl (wM q k ((sp_X10_add (sA (sI st 10 0) 28 ((st.1 7).toNatClampNeg) a3) (-1) a2 a4 (1 <<< (a1 &&& 31))).2)) H := hB9
          exact W.iret (v := (sp_X10_add (sA (sI st 10 0) 28 ((st.1 7).toNatClampNeg) a3) (-1) a2 a4 (1 <<< (a1 &&& 31))).1) hx hb hr (fun t ht hW => ⟨⟨_, (), rfl, by show _ = Prod.fst _; rw [← he], by show va_P _ _ _ t.heap; rw [ht, ← he]; exact hP⟩, hS.F ht⟩) hS.2.2 dX10_put_75
        · have he := (if_pos h38_4).symm.trans he
          refine lv_iconst (v := 2) hx hb dX10_put_41 (by decide) ?_
          refine lv_goto (tgt := 46) hx hb dX10_put_42 (by decide) ?_
          refine va_calli (va_runV (As := [.int 2]) (rest := []) ⟨hx, hb, hml, hown, hts⟩ (c_X10_says l dC dI q k st 2 hq _ rfl) (cwV 1 hts gX10_put_X10_says rfl rfl rfl (by decide +kernel) ⟨Nat.le_of_ble_eq_true rfl, Nat.le_of_ble_eq_true rfl⟩) ⟨fb_M, va_recv hK.1 hP (ci := 10) (q0 := 0) rfl rfl, fun U hU hW => ⟨rfl, by rw [hU]; exact hP, hK.warm hW⟩⟩ rfl rfl hl.1 rfl (lv_room (Nat.le_of_ble_eq_true rfl)) dX10_put_46 ⟨Nat.le_of_ble_eq_true rfl, Nat.le_of_ble_eq_true rfl⟩) hS (fun _ _ h => h) (fun _ h => h) (fun r9 u9 t9 H locs ht9 hv9 e9 hB9 hz9 hk9 hS => ?_)
          rw [ht9, says_2] at hB9
          replace e9 : r9 = 0 := e9.trans (saysV_2 _)
          subst e9
          have hP : va_P (dC, dI) vwCl (wM q k (sI st 10 2)) H := hB9
          refine lv_if_ne (tgt := 54) hx hb dX10_put_49 (by decide) (fun h9 => absurd h9 (by decide)) (fun _ => ?_)
          refine lv_iconst (v := 0) hx hb dX10_put_52 (by decide) ?_
          exact W.iret (v := 0) hx hb hr (fun t ht hW => ⟨⟨_, (), rfl, by show _ = Prod.fst _; rw [← he], by show va_P _ _ _ t.heap; rw [ht, ← he]; exact hP⟩, hS.F ht⟩) hS.2.2 dX10_put_53
      · have he := (if_pos h25_3).symm.trans he
        refine lv_iconst (v := 1) hx hb dX10_put_28 (by decide) ?_
        refine lv_goto (tgt := 46) hx hb dX10_put_29 (by decide) ?_
        refine va_calli (va_runV (As := [.int 1]) (rest := []) ⟨hx, hb, hml, hown, hts⟩ (c_X10_says l dC dI q k st 1 hq _ rfl) (cwV 1 hts gX10_put_X10_says rfl rfl rfl (by decide +kernel) ⟨Nat.le_of_ble_eq_true rfl, Nat.le_of_ble_eq_true rfl⟩) ⟨fb_M, va_recv hK.1 hP (ci := 10) (q0 := 0) rfl rfl, fun U hU hW => ⟨rfl, by rw [hU]; exact hP, hK.warm hW⟩⟩ rfl rfl hl.1 rfl (lv_room (Nat.le_of_ble_eq_true rfl)) dX10_put_46 ⟨Nat.le_of_ble_eq_true rfl, Nat.le_of_ble_eq_true rfl⟩) hS (fun _ _ h => h) (fun _ h => h) (fun r9 u9 t9 H locs ht9 hv9 e9 hB9 hz9 hk9 hS => ?_)
        rw [ht9, says_2] at hB9
        replace e9 : r9 = 0 := e9.trans (saysV_1 _)
        subst e9
        have hP : va_P (dC, dI) vwCl (wM q k (sI st 10 1)) H := hB9
        refine lv_if_ne (tgt := 54) hx hb dX10_put_49 (by decide) (fun h9 => absurd h9 (by decide)) (fun _ => ?_)
        refine lv_iconst (v := 0) hx hb dX10_put_52 (by decide) ?_
        exact W.iret (v := 0) hx hb hr (fun t ht hW => ⟨⟨_, (), rfl, by show _ = Prod.fst _; rw [← he], by show va_P _ _ _ t.heap; rw [ht, ← he]; exact hP⟩, hS.F ht⟩) hS.2.2 dX10_put_53
set_option maxHeartbeats 4000000 in
set_option maxRecDepth 100000 in
theorem c_X10_isLiving (l : Launch) (dC : Nat → ClassId) (dI : Nat → Nat → Nat) (q : Nat → Nat) (k : Nat → ClassId) (st : St) (a1 : Int32) (hit : okIt st) (res : Int32) (hres : sp_X10_isLiving st a1 = res) : Met l yX10_isLiving wsX10_isLiving ({ frames := 1, cells := 0, slots := 0, locals := 22 } : Room) (va_Pc [.ref (q 0), .int a1] (fun U => va_P (dC, dI) vwCl (wM q k st) U.heap ∧ KM (dC, dI) k U)) (vp_Si (fun r => r = res)) 0 0 (fun _ => False) := by
  refine Met.ofW (cc := cX10_isLiving) (maxL := 2) (ret := (some .boolean)) (by decide) rfl ?_
  intro p e s m args below meth c s₁ B hml hv
  obtain ⟨rfl, hP, hK⟩ := hv
  have hx := B.exec
  have hb := B.bytes
  have hr := B.returns
  have hts := atoms_spec (ws := wsX10_isLiving) B.pre
  have hown : s.vm.findClass RX10 = some m.cls := findClass_of_methodNamed B.named
  have hlocks := B.notSynchronized
  have hi10 : ∀ w ∈ wsX100, w ∈ wsX10_isLiving := by decide +kernel
  have hf75 := hts (.fieldLink RX10 75 "ConsentRegisterModel" "lives" "[Z") (by decide +kernel)
  have hf157 := hts (.fieldLink RX10 157 "ConsentRegisterModel" "items" "I") (by decide +kernel)
  have hl := lv_entry ([.ref (q 0), .int a1]) (n := 2) (Nat.le_of_ble_eq_true rfl)
  rw [lg_entry_eq]
  generalize (lg_sl ([.ref (q 0), .int a1]) ++ List.replicate (2 - (lg_sl ([.ref (q 0), .int a1])).length) Slot.unset).toArray = ls at hl ⊢
  have hl : lv_has ls 2 [(0, .ref (q 0)), (1, .int a1)] := hl
  have he := hres
  unfold sp_X10_isLiving at he
  refine lv_iload_n hx hb dX10_isLiving_0 rfl (lv_at hl 1 rfl) ?_
  refine lv_iconst (v := 0) hx hb dX10_isLiving_1 (by decide) ?_
  refine lv_aload_n hx hb dX10_isLiving_2 rfl (lv_at hl 0 rfl) ?_
  refine va_get (D := (dC, dI)) (ci := 10) (v := .int (st.1 7)) (C := RX10) (T := TX10) (N := 45) hx hb hts hi10 hown hK.1 hP 0 rfl rfl 19 (by decide) hf157 (fun _ h9 => h9) rfl dX10_isLiving_3 ?_
  refine lv_iconst (v := 1) hx hb dX10_isLiving_6 (by decide) ?_
  refine lv_isub hx hb dX10_isLiving_7 ?_
  refine vp_callSi (va_Run.run (va_runS (As := [.int a1, .int 0, .int ((st.1 7) - 1)]) (rest := []) ⟨hx, hb, hml, hown, hts⟩ (c_X10_in l a1 0 ((st.1 7) - 1) _ rfl) (va_cwS 3 hts gX10_isLiving_X10_in rfl rfl rfl (by decide +kernel) ⟨Nat.le_of_ble_eq_true rfl, Nat.le_of_ble_eq_true rfl⟩) ⟨fb_T, fun U hU hW => ⟨rfl, trivial⟩⟩ rfl rfl hl.1 rfl (lv_room (Nat.le_of_ble_eq_true rfl)) dX10_isLiving_8 ⟨Nat.le_of_ble_eq_true rfl, Nat.le_of_ble_eq_true rfl⟩)) (fun r9 e9 => ?_)
  subst e9
  refine lv_if_eq (tgt := 27) hx hb dX10_isLiving_11 (by decide) (fun h11_1 => ?_) (fun h11_1 => ?_)
  · have he := (if_pos h11_1).symm.trans he
    refine lv_iconst (v := 0) hx hb dX10_isLiving_27 (by decide) ?_
    exact W.zret (v := 0) hx hb hr rfl (fun t ht hW => ⟨_, rfl, he, ht⟩) (fun _ h => nomatch h) dX10_isLiving_28
  · have he := (if_neg h11_1).symm.trans he
    refine lv_aload_n hx hb dX10_isLiving_14 rfl (lv_at hl 0 rfl) ?_
    refine va_get (D := (dC, dI)) (ci := 10) (v := .ref (q 27)) (C := RX10) (T := TX10) (N := 45) hx hb hts hi10 hown hK.1 hP 0 rfl rfl 27 (by decide) hf75 (fun _ h9 => h9) rfl dX10_isLiving_15 ?_
    refine lv_iload_n hx hb dX10_isLiving_18 rfl (lv_at hl 1 rfl) ?_
    refine va_zald hx hb hK.1 hP 27 26 (f := st.2.1 26) (n := 100) (cA := k 26) rfl rfl (i := a1) (ob_X10_isLiving_19_2 st a1 hit h11_1) dX10_isLiving_19 ?_
    refine lv_if_eq (tgt := 27) hx hb dX10_isLiving_20 (by decide) (fun h20_3 => ?_) (fun h20_3 => ?_)
    · have he := (if_pos h20_3).symm.trans he
      refine lv_iconst (v := 0) hx hb dX10_isLiving_27 (by decide) ?_
      exact W.zret (v := 0) hx hb hr rfl (fun t ht hW => ⟨_, rfl, he, ht⟩) (fun _ h => nomatch h) dX10_isLiving_28
    · have he := (if_neg h20_3).symm.trans he
      refine lv_iconst (v := 1) hx hb dX10_isLiving_23 (by decide) ?_
      refine lv_goto (tgt := 28) hx hb dX10_isLiving_24 (by decide) ?_
      exact W.zret (v := 1) hx hb hr rfl (fun t ht hW => ⟨_, rfl, he, ht⟩) (fun _ h => nomatch h) dX10_isLiving_28
set_option maxHeartbeats 4000000 in
set_option maxRecDepth 100000 in
theorem c_X10_derive (l : Launch) (dC : Nat → ClassId) (dI : Nat → Nat → Nat) (q : Nat → Nat) (k : Nat → ClassId) (st : St) (a1 : Int32) (a2 : Int32) (a3 : Int32) (hq : ∀ i j, i < 35 → j < 35 → q i = q j → i = j) (hok : okM st) (res : Int32 × St) (hres : sp_X10_derive st a1 a2 a3 = res) : Met l yX10_derive wsX10_derive ({ frames := 2, cells := 0, slots := 0, locals := 43 } : Room) (va_Pc [.ref (q 0), .int a1, .int a2, .int a3] (fun U => va_P (dC, dI) vwCl (wM q k st) U.heap ∧ KM (dC, dI) k U)) (va_Qi (fun r (_ : Unit) => r = res.1) (fun _ t => va_P (dC, dI) vwCl (wM q k res.2) t.heap) (aM q)) 0 0 (aM q) := by
  refine Met.ofW (cc := cX10_derive) (maxL := 8) (ret := (some .int)) (by decide) rfl ?_
  intro p e s m args below meth c s₁ B hml hv
  obtain ⟨rfl, hP, hK⟩ := hv
  have hx := B.exec
  have hb := B.bytes
  have hr := B.returns
  have hts := atoms_spec (ws := wsX10_derive) B.pre
  have hown : s.vm.findClass RX10 = some m.cls := findClass_of_methodNamed B.named
  have hlocks := B.notSynchronized
  have hS : va_S (aM q) s.heap s.heap [] := va_S.rf
  have hi10 : ∀ w ∈ wsX100, w ∈ wsX10_derive := by decide +kernel
  have hf57 := hts (.fieldLink RX10 57 "ConsentRegisterModel" "itemKind" "[I") (by decide +kernel)
  have hf60 := hts (.fieldLink RX10 60 "ConsentRegisterModel" "itemDay" "[I") (by decide +kernel)
  have hf63 := hts (.fieldLink RX10 63 "ConsentRegisterModel" "itemPersons" "[I") (by decide +kernel)
  have hf66 := hts (.fieldLink RX10 66 "ConsentRegisterModel" "firstInput" "[I") (by decide +kernel)
  have hf69 := hts (.fieldLink RX10 69 "ConsentRegisterModel" "secondInput" "[I") (by decide +kernel)
  have hf157 := hts (.fieldLink RX10 157 "ConsentRegisterModel" "items" "I") (by decide +kernel)
  have hl := lv_entry ([.ref (q 0), .int a1, .int a2, .int a3]) (n := 8) (Nat.le_of_ble_eq_true rfl)
  rw [lg_entry_eq]
  generalize (lg_sl ([.ref (q 0), .int a1, .int a2, .int a3]) ++ List.replicate (8 - (lg_sl ([.ref (q 0), .int a1, .int a2, .int a3])).length) Slot.unset).toArray = ls at hl ⊢
  have hl : lv_has ls 8 [(0, .ref (q 0)), (1, .int a1), (2, .int a2), (3, .int a3)] := hl
  have he := hres
  unfold sp_X10_derive at he
  refine lv_iload_n hx hb dX10_derive_0 rfl (lv_at hl 1 rfl) ?_
  refine lv_if_ne (tgt := 8) hx hb dX10_derive_1 (by decide) (fun h1_1 => ?_) (fun h1_1 => ?_)
  · have he := (if_neg h1_1).symm.trans he
    refine lv_iconst (v := 0) hx hb dX10_derive_8 (by decide) ?_
    refine lv_istore (lv' := [(4, .int 0), (0, .ref (q 0)), (1, .int a1), (2, .int a2), (3, .int a3)]) hx hb dX10_derive_9 hl (by decide) rfl (fun ls hl => ?_)
    refine lv_iload hx hb dX10_derive_11 (lv_at hl 0 rfl) ?_
    refine lv_if_eq (tgt := 20) hx hb dX10_derive_13 (by decide) (fun _ => ?_) (fun h9 => absurd h9 (by decide))
    refine lv_iload_n hx hb dX10_derive_20 rfl (lv_at hl 4 rfl) ?_
    refine lv_istore (lv' := [(5, .int a3), (4, .int 0), (0, .ref (q 0)), (1, .int a1), (2, .int a2), (3, .int a3)]) hx hb dX10_derive_21 hl (by decide) rfl (fun ls hl => ?_)
    refine lv_iload_n hx hb dX10_derive_23 rfl (lv_at hl 3 rfl) ?_
    refine lv_iconst (v := 0) hx hb dX10_derive_24 (by decide) ?_
    refine lv_iconst (v := 2) hx hb dX10_derive_25 (by decide) ?_
    refine vp_callSi (va_Run.run (va_runS (As := [.int a1, .int 0, .int 2]) (rest := []) ⟨hx, hb, hml, hown, hts⟩ (c_X10_in l a1 0 2 _ rfl) (va_cwS 3 hts gX10_derive_X10_in rfl rfl rfl (by decide +kernel) ⟨Nat.le_of_ble_eq_true rfl, Nat.le_of_ble_eq_true rfl⟩) ⟨fb_T, fun U hU hW => ⟨rfl, trivial⟩⟩ rfl rfl hl.1 rfl (lv_room (Nat.le_of_ble_eq_true rfl)) dX10_derive_26 ⟨Nat.le_of_ble_eq_true rfl, Nat.le_of_ble_eq_true rfl⟩)) (fun r9 e9 => ?_)
    subst e9
    refine lv_if_eq (tgt := 42) hx hb dX10_derive_29 (by decide) (fun h29_2 => ?_) (fun h29_2 => ?_)
    · have he := (if_pos h29_2).symm.trans he
      refine lv_iconst (v := 1) hx hb dX10_derive_42 (by decide) ?_
      refine lv_goto (tgt := 47) hx hb dX10_derive_43 (by decide) ?_
      refine lv_istore (lv' := [(6, .int 1), (5, .int a3), (4, .int 0), (0, .ref (q 0)), (1, .int a1), (2, .int a2), (3, .int a3)]) hx hb dX10_derive_47 hl (by decide) rfl (fun ls hl => ?_)
      refine lv_aload_n hx hb dX10_derive_49 rfl (lv_at hl 3 rfl) ?_
      refine lv_iload hx hb dX10_derive_50 (lv_at hl 0 rfl) ?_
      refine lv_if_eq (tgt := 59) hx hb dX10_derive_52 (by decide) (fun h9 => absurd h9 (by decide)) (fun _ => ?_)
      refine lv_iconst (v := 2) hx hb dX10_derive_55 (by decide) ?_
      refine lv_goto (tgt := 94) hx hb dX10_derive_56 (by decide) ?_
      refine va_calli (va_runV (As := [.int 2]) (rest := []) ⟨hx, hb, hml, hown, hts⟩ (c_X10_says l dC dI q k st 2 hq _ rfl) (cwV 1 hts gX10_derive_X10_says rfl rfl rfl (by decide +kernel) ⟨Nat.le_of_ble_eq_true rfl, Nat.le_of_ble_eq_true rfl⟩) ⟨fb_M, va_recv hK.1 hP (ci := 10) (q0 := 0) rfl rfl, fun U hU hW => ⟨rfl, by rw [hU]; exact hP, hK.warm hW⟩⟩ rfl rfl hl.1 rfl (lv_room (Nat.le_of_ble_eq_true rfl)) dX10_derive_94 ⟨Nat.le_of_ble_eq_true rfl, Nat.le_of_ble_eq_true rfl⟩) hS (fun _ _ h => h) (fun _ h => h) (fun r9 u9 t9 H locs ht9 hv9 e9 hB9 hz9 hk9 hS => ?_)
      rw [ht9, says_2] at hB9
      replace e9 : r9 = 0 := e9.trans (saysV_2 _)
      subst e9
      have hP : va_P (dC, dI) vwCl (wM q k (sI st 10 2)) H := hB9
      refine lv_if_ne (tgt := 102) hx hb dX10_derive_97 (by decide) (fun h9 => absurd h9 (by decide)) (fun _ => ?_)
      refine lv_iconst (v := 0) hx hb dX10_derive_100 (by decide) ?_
      exact W.iret (v := 0) hx hb hr (fun t ht hW => ⟨⟨_, (), rfl, by show _ = Prod.fst _; rw [← he], by show va_P _ _ _ t.heap; rw [ht, ← he]; exact hP⟩, hS.F ht⟩) hS.2.2 dX10_derive_101
    · have he := (if_neg h29_2).symm.trans he
      refine lv_iload hx hb dX10_derive_32 (lv_at hl 1 rfl) ?_
      refine lv_if_ne (tgt := 46) hx hb dX10_derive_34 (by decide) (fun h9 => absurd h9 (by decide)) (fun _ => ?_)
      refine lv_iload_n hx hb dX10_derive_37 rfl (lv_at hl 4 rfl) ?_
      refine lv_iload_n hx hb dX10_derive_38 rfl (lv_at hl 5 rfl) ?_
      refine lv_icmp_ne (tgt := 46) hx hb dX10_derive_39 (by decide) (fun h39_3 => ?_) (fun h39_3 => ?_)
      · have he := (if_neg h39_3).symm.trans he
        refine lv_iconst (v := 0) hx hb dX10_derive_46 (by decide) ?_
        refine lv_istore (lv' := [(6, .int 0), (5, .int a3), (4, .int 0), (0, .ref (q 0)), (1, .int a1), (2, .int a2), (3, .int a3)]) hx hb dX10_derive_47 hl (by decide) rfl (fun ls hl => ?_)
        refine lv_aload_n hx hb dX10_derive_49 rfl (lv_at hl 3 rfl) ?_
        refine lv_iload hx hb dX10_derive_50 (lv_at hl 0 rfl) ?_
        refine lv_if_eq (tgt := 59) hx hb dX10_derive_52 (by decide) (fun _ => ?_) (fun h9 => absurd h9 (by decide))
        refine lv_aload_n hx hb dX10_derive_59 rfl (lv_at hl 3 rfl) ?_
        refine lv_iload_n hx hb dX10_derive_60 rfl (lv_at hl 5 rfl) ?_
        refine vp_callSi (va_Run.run (va_runV (As := [.int a2]) (rest := [.ref (q 0)]) ⟨hx, hb, hml, hown, hts⟩ (c_X10_isLiving l dC dI q k st a2 (ob_X10_derive_61_4 st a1 a2 a3 hok h1_1 h29_2 h39_3) _ rfl) (cwV 1 hts gX10_derive_X10_isLiving rfl rfl rfl (by decide +kernel) ⟨Nat.le_of_ble_eq_true rfl, Nat.le_of_ble_eq_true rfl⟩) ⟨fb_M, va_recv hK.1 hP (ci := 10) (q0 := 0) rfl rfl, fun U hU hW => ⟨rfl, by rw [hU]; exact hP, hK.warm hW⟩⟩ rfl rfl hl.1 rfl (lv_room (Nat.le_of_ble_eq_true rfl)) dX10_derive_61 ⟨Nat.le_of_ble_eq_true rfl, Nat.le_of_ble_eq_true rfl⟩)) (fun r9 e9 => ?_)
        subst e9
        refine lv_if_eq (tgt := 76) hx hb dX10_derive_64 (by decide) (fun h64_5 => ?_) (fun h64_5 => ?_)
        · have he := (if_pos h64_5).symm.trans he
          refine lv_iconst (v := 1) hx hb dX10_derive_76 (by decide) ?_
          refine lv_goto (tgt := 94) hx hb dX10_derive_77 (by decide) ?_
          refine va_calli (va_runV (As := [.int 1]) (rest := []) ⟨hx, hb, hml, hown, hts⟩ (c_X10_says l dC dI q k st 1 hq _ rfl) (cwV 1 hts gX10_derive_X10_says rfl rfl rfl (by decide +kernel) ⟨Nat.le_of_ble_eq_true rfl, Nat.le_of_ble_eq_true rfl⟩) ⟨fb_M, va_recv hK.1 hP (ci := 10) (q0 := 0) rfl rfl, fun U hU hW => ⟨rfl, by rw [hU]; exact hP, hK.warm hW⟩⟩ rfl rfl hl.1 rfl (lv_room (Nat.le_of_ble_eq_true rfl)) dX10_derive_94 ⟨Nat.le_of_ble_eq_true rfl, Nat.le_of_ble_eq_true rfl⟩) hS (fun _ _ h => h) (fun _ h => h) (fun r9 u9 t9 H locs ht9 hv9 e9 hB9 hz9 hk9 hS => ?_)
          rw [ht9, says_2] at hB9
          replace e9 : r9 = 0 := e9.trans (saysV_1 _)
          subst e9
          have hP : va_P (dC, dI) vwCl (wM q k (sI st 10 1)) H := hB9
          refine lv_if_ne (tgt := 102) hx hb dX10_derive_97 (by decide) (fun h9 => absurd h9 (by decide)) (fun _ => ?_)
          refine lv_iconst (v := 0) hx hb dX10_derive_100 (by decide) ?_
          exact W.iret (v := 0) hx hb hr (fun t ht hW => ⟨⟨_, (), rfl, by show _ = Prod.fst _; rw [← he], by show va_P _ _ _ t.heap; rw [ht, ← he]; exact hP⟩, hS.F ht⟩) hS.2.2 dX10_derive_101
        · have he := (if_neg h64_5).symm.trans he
          refine lv_aload_n hx hb dX10_derive_67 rfl (lv_at hl 3 rfl) ?_
          refine lv_iload hx hb dX10_derive_68 (lv_at hl 1 rfl) ?_
          refine vp_callSi (va_Run.run (va_runV (As := [.int a3]) (rest := [.ref (q 0)]) ⟨hx, hb, hml, hown, hts⟩ (c_X10_isLiving l dC dI q k st a3 (ob_X10_derive_70_6 st a1 a2 a3 hok h1_1 h29_2 h39_3 h64_5) _ rfl) (cwV 1 hts gX10_derive_X10_isLiving rfl rfl rfl (by decide +kernel) ⟨Nat.le_of_ble_eq_true rfl, Nat.le_of_ble_eq_true rfl⟩) ⟨fb_M, va_recv hK.1 hP (ci := 10) (q0 := 0) rfl rfl, fun U hU hW => ⟨rfl, by rw [hU]; exact hP, hK.warm hW⟩⟩ rfl rfl hl.1 rfl (lv_room (Nat.le_of_ble_eq_true rfl)) dX10_derive_70 ⟨Nat.le_of_ble_eq_true rfl, Nat.le_of_ble_eq_true rfl⟩)) (fun r9 e9 => ?_)
          subst e9
          refine lv_if_ne (tgt := 80) hx hb dX10_derive_73 (by decide) (fun h73_7 => ?_) (fun h73_7 => ?_)
          · have he := (if_neg h73_7).symm.trans he
            refine lv_aload_n hx hb dX10_derive_80 rfl (lv_at hl 3 rfl) ?_
            refine va_get (D := (dC, dI)) (ci := 10) (v := .int (st.1 7)) (C := RX10) (T := TX10) (N := 45) hx hb hts hi10 hown hK.1 hP 0 rfl rfl 19 (by decide) hf157 (fun _ h9 => h9) rfl dX10_derive_81 ?_
            refine lv_bipush (v := 100) hx hb dX10_derive_84 (by decide) ?_
            refine lv_icmp_ne (tgt := 93) hx hb dX10_derive_86 (by decide) (fun h86_8 => ?_) (fun h86_8 => ?_)
            · have he := (if_neg h86_8).symm.trans he
              refine lv_iconst (v := 0) hx hb dX10_derive_93 (by decide) ?_
              refine va_calli (va_runV (As := [.int 0]) (rest := []) ⟨hx, hb, hml, hown, hts⟩ (c_X10_says l dC dI q k st 0 hq _ rfl) (cwV 1 hts gX10_derive_X10_says rfl rfl rfl (by decide +kernel) ⟨Nat.le_of_ble_eq_true rfl, Nat.le_of_ble_eq_true rfl⟩) ⟨fb_M, va_recv hK.1 hP (ci := 10) (q0 := 0) rfl rfl, fun U hU hW => ⟨rfl, by rw [hU]; exact hP, hK.warm hW⟩⟩ rfl rfl hl.1 rfl (lv_room (Nat.le_of_ble_eq_true rfl)) dX10_derive_94 ⟨Nat.le_of_ble_eq_true rfl, Nat.le_of_ble_eq_true rfl⟩) hS (fun _ _ h => h) (fun _ h => h) (fun r9 u9 t9 H locs ht9 hv9 e9 hB9 hz9 hk9 hS => ?_)
              rw [ht9, says_2] at hB9
              replace e9 : r9 = 1 := e9.trans (saysV_0 _)
              subst e9
              have hP : va_P (dC, dI) vwCl (wM q k (sI st 10 0)) H := hB9
              refine lv_if_ne (tgt := 102) hx hb dX10_derive_97 (by decide) (fun _ => ?_) (fun h9 => absurd h9 (by decide))
              refine lv_aload_n hx hb dX10_derive_102 rfl (lv_at hl 3 rfl) ?_
              refine va_get (D := (dC, dI)) (ci := 10) (v := .ref (q 25)) (C := RX10) (T := TX10) (N := 45) hx hb hts hi10 hown hK.1 hP 0 rfl rfl 24 (by decide) hf66 (fun _ h9 => h9) rfl dX10_derive_103 ?_
              refine lv_aload_n hx hb dX10_derive_106 rfl (lv_at hl 3 rfl) ?_
              refine va_get (D := (dC, dI)) (ci := 10) (v := .int (st.1 7)) (C := RX10) (T := TX10) (N := 45) hx hb hts hi10 hown hK.1 hP 0 rfl rfl 19 (by decide) hf157 (fun _ h9 => h9) rfl dX10_derive_107 ?_
              refine lv_iload_n hx hb dX10_derive_110 rfl (lv_at hl 5 rfl) ?_
              refine va_iast hx hb hK.1 hP (dM_of hq) hS 25 24 (f := st.2.1 24) (n := 100) (cA := k 24) rfl rfl (i := st.1 7) (x := a2) (ob_X10_derive_111_9 st a1 a2 a3 hok h1_1 h29_2 h39_3 h64_5 h73_7 h86_8) dX10_derive_111 (fun H locs hP _ hS => ?_)
              have hP : va_P (dC, dI) vwCl (wM q k (sA (sI st 10 0) 24 ((st.1 7).toNatClampNeg) a2)) H := hP
              refine lv_aload_n hx hb dX10_derive_112 rfl (lv_at hl 3 rfl) ?_
              refine va_get (D := (dC, dI)) (ci := 10) (v := .ref (q 26)) (C := RX10) (T := TX10) (N := 45) hx hb hts hi10 hown hK.1 hP 0 rfl rfl 25 (by decide) hf69 (fun _ h9 => h9) rfl dX10_derive_113 ?_
              refine lv_aload_n hx hb dX10_derive_116 rfl (lv_at hl 3 rfl) ?_
              refine va_get (D := (dC, dI)) (ci := 10) (v := .int (st.1 7)) (C := RX10) (T := TX10) (N := 45) hx hb hts hi10 hown hK.1 hP 0 rfl rfl 19 (by decide) hf157 (fun _ h9 => h9) rfl dX10_derive_117 ?_
              refine lv_iload hx hb dX10_derive_120 (lv_at hl 1 rfl) ?_
              refine va_iast hx hb hK.1 hP (dM_of hq) hS 26 25 (f := st.2.1 25) (n := 100) (cA := k 25) rfl rfl (i := st.1 7) (x := a3) (ob_X10_derive_122_10 st a1 a2 a3 hok h1_1 h29_2 h39_3 h64_5 h73_7 h86_8) dX10_derive_122 (fun H locs hP _ hS => ?_)
              have hP : va_P (dC, dI) vwCl (wM q k (sA (sA (sI st 10 0) 24 ((st.1 7).toNatClampNeg) a2) 25 ((st.1 7).toNatClampNeg) a3)) H := hP
              refine lv_aload_n hx hb dX10_derive_123 rfl (lv_at hl 3 rfl) ?_
              refine va_get (D := (dC, dI)) (ci := 10) (v := .ref (q 22)) (C := RX10) (T := TX10) (N := 45) hx hb hts hi10 hown hK.1 hP 0 rfl rfl 22 (by decide) hf60 (fun _ h9 => h9) rfl dX10_derive_124 ?_
              refine lv_iload_n hx hb dX10_derive_127 rfl (lv_at hl 5 rfl) ?_
              refine va_iald hx hb hK.1 hP 22 21 (f := st.2.1 21) (n := 100) (cA := k 21) rfl rfl (i := a2) (ob_X10_derive_128_11 st a1 a2 a3 hok h1_1 h29_2 h39_3 h64_5 h73_7 h86_8) dX10_derive_128 ?_
              refine lv_aload_n hx hb dX10_derive_129 rfl (lv_at hl 3 rfl) ?_
              refine va_get (D := (dC, dI)) (ci := 10) (v := .ref (q 22)) (C := RX10) (T := TX10) (N := 45) hx hb hts hi10 hown hK.1 hP 0 rfl rfl 22 (by decide) hf60 (fun _ h9 => h9) rfl dX10_derive_130 ?_
              refine lv_iload hx hb dX10_derive_133 (lv_at hl 1 rfl) ?_
              refine va_iald hx hb hK.1 hP 22 21 (f := st.2.1 21) (n := 100) (cA := k 21) rfl rfl (i := a3) (ob_X10_derive_135_12 st a1 a2 a3 hok h1_1 h29_2 h39_3 h64_5 h73_7 h86_8) dX10_derive_135 ?_
              refine lv_icmp_le (tgt := 148) hx hb dX10_derive_136 (by decide) (fun h136_13 => ?_) (fun h136_13 => ?_)
              · have he := (if_pos h136_13).symm.trans he
                refine lv_aload_n hx hb dX10_derive_148 rfl (lv_at hl 3 rfl) ?_
                refine va_get (D := (dC, dI)) (ci := 10) (v := .ref (q 22)) (C := RX10) (T := TX10) (N := 45) hx hb hts hi10 hown hK.1 hP 0 rfl rfl 22 (by decide) hf60 (fun _ h9 => h9) rfl dX10_derive_149 ?_
                refine lv_iload hx hb dX10_derive_152 (lv_at hl 1 rfl) ?_
                refine va_iald hx hb hK.1 hP 22 21 (f := st.2.1 21) (n := 100) (cA := k 21) rfl rfl (i := a3) (ob_X10_derive_154_14 st a1 a2 a3 hok h1_1 h29_2 h39_3 h64_5 h73_7 h86_8 h136_13) dX10_derive_154 ?_
                refine lv_istore (lv' := [(7, .int (st.2.1 21 a3.toNatClampNeg)), (6, .int 0), (5, .int a3), (4, .int 0), (0, .ref (q 0)), (1, .int a1), (2, .int a2), (3, .int a3)]) hx hb dX10_derive_155 hl (by decide) rfl (fun ls hl => ?_)
                refine lv_aload_n hx hb dX10_derive_157 rfl (lv_at hl 4 rfl) ?_
                refine lv_iload_n hx hb dX10_derive_158 rfl (lv_at hl 5 rfl) ?_
                refine lv_aload_n hx hb dX10_derive_159 rfl (lv_at hl 4 rfl) ?_
                refine va_get (D := (dC, dI)) (ci := 10) (v := .ref (q 21)) (C := RX10) (T := TX10) (N := 45) hx hb hts hi10 hown hK.1 hP 0 rfl rfl 21 (by decide) hf57 (fun _ h9 => h9) rfl dX10_derive_160 ?_
                refine lv_iload_n hx hb dX10_derive_163 rfl (lv_at hl 6 rfl) ?_
                refine va_iald hx hb hK.1 hP 21 20 (f := st.2.1 20) (n := 100) (cA := k 20) rfl rfl (i := a2) (ob_X10_derive_164_15 st a1 a2 a3 hok h1_1 h29_2 h39_3 h64_5 h73_7 h86_8 h136_13) dX10_derive_164 ?_
                refine lv_iload hx hb dX10_derive_165 (lv_at hl 0 rfl) ?_
                refine lv_aload_n hx hb dX10_derive_167 rfl (lv_at hl 4 rfl) ?_
                refine va_get (D := (dC, dI)) (ci := 10) (v := .ref (q 23)) (C := RX10) (T := TX10) (N := 45) hx hb hts hi10 hown hK.1 hP 0 rfl rfl 23 (by decide) hf63 (fun _ h9 => h9) rfl dX10_derive_168 ?_
                refine lv_iload_n hx hb dX10_derive_171 rfl (lv_at hl 6 rfl) ?_
                refine va_iald hx hb hK.1 hP 23 22 (f := st.2.1 22) (n := 100) (cA := k 22) rfl rfl (i := a2) (ob_X10_derive_172_16 st a1 a2 a3 hok h1_1 h29_2 h39_3 h64_5 h73_7 h86_8 h136_13) dX10_derive_172 ?_
                refine lv_aload_n hx hb dX10_derive_173 rfl (lv_at hl 4 rfl) ?_
                refine va_get (D := (dC, dI)) (ci := 10) (v := .ref (q 23)) (C := RX10) (T := TX10) (N := 45) hx hb hts hi10 hown hK.1 hP 0 rfl rfl 23 (by decide) hf63 (fun _ h9 => h9) rfl dX10_derive_174 ?_
                refine lv_iload hx hb dX10_derive_177 (lv_at hl 2 rfl) ?_
                refine va_iald hx hb hK.1 hP 23 22 (f := st.2.1 22) (n := 100) (cA := k 22) rfl rfl (i := a3) (ob_X10_derive_179_17 st a1 a2 a3 hok h1_1 h29_2 h39_3 h64_5 h73_7 h86_8 h136_13) dX10_derive_179 ?_
                refine lv_ior hx hb dX10_derive_180 ?_
                refine va_calli (va_runV (As := [.int a1, .int (st.2.1 20 a2.toNatClampNeg), .int (st.2.1 21 a3.toNatClampNeg), .int ((st.2.1 22 a2.toNatClampNeg) ||| (st.2.1 22 a3.toNatClampNeg))]) (rest := []) ⟨hx, hb, hml, hown, hts⟩ (c_X10_add l dC dI q k (sA (sA (sI st 10 0) 24 ((st.1 7).toNatClampNeg) a2) 25 ((st.1 7).toNatClampNeg) a3) a1 (st.2.1 20 a2.toNatClampNeg) (st.2.1 21 a3.toNatClampNeg) ((st.2.1 22 a2.toNatClampNeg) ||| (st.2.1 22 a3.toNatClampNeg)) hq (ob_X10_derive_181_18 st a1 a2 a3 hok h1_1 h29_2 h39_3 h64_5 h73_7 h86_8 h136_13) _ rfl) (cwV 4 hts gX10_derive_X10_add rfl rfl rfl (by decide +kernel) ⟨Nat.le_of_ble_eq_true rfl, Nat.le_of_ble_eq_true rfl⟩) ⟨fb_M, va_recv hK.1 hP (ci := 10) (q0 := 0) rfl rfl, fun U hU hW => ⟨rfl, by rw [hU]; exact hP, hK.warm hW⟩⟩ rfl rfl hl.1 rfl (lv_room (Nat.le_of_ble_eq_true rfl)) dX10_derive_181 ⟨Nat.le_of_ble_eq_true rfl, Nat.le_of_ble_eq_true rfl⟩) hS (fun _ _ h => h) (fun _ h => h) (fun r9 u9 t9 H locs ht9 hv9 e9 hB9 hz9 hk9 hS => ?_)
                rw [ht9] at hB9
                subst e9
                have hP : va_P (dC, dI) vwCl (wM q k ((sp_X10_add (sA (sA (sI st 10 0) 24 ((st.1 7).toNatClampNeg) a2) 25 ((st.1 7).toNatClampNeg) a3) a1 (st.2.1 20 a2.toNatClampNeg) (st.2.1 21 a3.toNatClampNeg) ((st.2.1 22 a2.toNatClampNeg) ||| (st.2.1 22 a3.toNatClampNeg))).2)) H := hB9
                exact W.iret (v := (sp_X10_add (sA (sA (sI st 10 0) 24 ((st.1 7).toNatClampNeg) a2) 25 ((st.1 7).toNatClampNeg) a3) a1 (st.2.1 20 a2.toNatClampNeg) (st.2.1 21 a3.toNatClampNeg) ((st.2.1 22 a2.toNatClampNeg) ||| (st.2.1 22 a3.toNatClampNeg))).1) hx hb hr (fun t ht hW => ⟨⟨_, (), rfl, by show _ = Prod.fst _; rw [← he], by show va_P _ _ _ t.heap; rw [ht, ← he]; exact hP⟩, hS.F ht⟩) hS.2.2 dX10_derive_184
              · have he := (if_neg h136_13).symm.trans he
                refine lv_aload_n hx hb dX10_derive_139 rfl (lv_at hl 3 rfl) ?_
                refine va_get (D := (dC, dI)) (ci := 10) (v := .ref (q 22)) (C := RX10) (T := TX10) (N := 45) hx hb hts hi10 hown hK.1 hP 0 rfl rfl 22 (by decide) hf60 (fun _ h9 => h9) rfl dX10_derive_140 ?_
                refine lv_iload_n hx hb dX10_derive_143 rfl (lv_at hl 5 rfl) ?_
                refine va_iald hx hb hK.1 hP 22 21 (f := st.2.1 21) (n := 100) (cA := k 21) rfl rfl (i := a2) (ob_X10_derive_144_19 st a1 a2 a3 hok h1_1 h29_2 h39_3 h64_5 h73_7 h86_8 h136_13) dX10_derive_144 ?_
                refine lv_goto (tgt := 155) hx hb dX10_derive_145 (by decide) ?_
                refine lv_istore (lv' := [(7, .int (st.2.1 21 a2.toNatClampNeg)), (6, .int 0), (5, .int a3), (4, .int 0), (0, .ref (q 0)), (1, .int a1), (2, .int a2), (3, .int a3)]) hx hb dX10_derive_155 hl (by decide) rfl (fun ls hl => ?_)
                refine lv_aload_n hx hb dX10_derive_157 rfl (lv_at hl 4 rfl) ?_
                refine lv_iload_n hx hb dX10_derive_158 rfl (lv_at hl 5 rfl) ?_
                refine lv_aload_n hx hb dX10_derive_159 rfl (lv_at hl 4 rfl) ?_
                refine va_get (D := (dC, dI)) (ci := 10) (v := .ref (q 21)) (C := RX10) (T := TX10) (N := 45) hx hb hts hi10 hown hK.1 hP 0 rfl rfl 21 (by decide) hf57 (fun _ h9 => h9) rfl dX10_derive_160 ?_
                refine lv_iload_n hx hb dX10_derive_163 rfl (lv_at hl 6 rfl) ?_
                refine va_iald hx hb hK.1 hP 21 20 (f := st.2.1 20) (n := 100) (cA := k 20) rfl rfl (i := a2) (ob_X10_derive_164_20 st a1 a2 a3 hok h1_1 h29_2 h39_3 h64_5 h73_7 h86_8 h136_13) dX10_derive_164 ?_
                refine lv_iload hx hb dX10_derive_165 (lv_at hl 0 rfl) ?_
                refine lv_aload_n hx hb dX10_derive_167 rfl (lv_at hl 4 rfl) ?_
                refine va_get (D := (dC, dI)) (ci := 10) (v := .ref (q 23)) (C := RX10) (T := TX10) (N := 45) hx hb hts hi10 hown hK.1 hP 0 rfl rfl 23 (by decide) hf63 (fun _ h9 => h9) rfl dX10_derive_168 ?_
                refine lv_iload_n hx hb dX10_derive_171 rfl (lv_at hl 6 rfl) ?_
                refine va_iald hx hb hK.1 hP 23 22 (f := st.2.1 22) (n := 100) (cA := k 22) rfl rfl (i := a2) (ob_X10_derive_172_21 st a1 a2 a3 hok h1_1 h29_2 h39_3 h64_5 h73_7 h86_8 h136_13) dX10_derive_172 ?_
                refine lv_aload_n hx hb dX10_derive_173 rfl (lv_at hl 4 rfl) ?_
                refine va_get (D := (dC, dI)) (ci := 10) (v := .ref (q 23)) (C := RX10) (T := TX10) (N := 45) hx hb hts hi10 hown hK.1 hP 0 rfl rfl 23 (by decide) hf63 (fun _ h9 => h9) rfl dX10_derive_174 ?_
                refine lv_iload hx hb dX10_derive_177 (lv_at hl 2 rfl) ?_
                refine va_iald hx hb hK.1 hP 23 22 (f := st.2.1 22) (n := 100) (cA := k 22) rfl rfl (i := a3) (ob_X10_derive_179_22 st a1 a2 a3 hok h1_1 h29_2 h39_3 h64_5 h73_7 h86_8 h136_13) dX10_derive_179 ?_
                refine lv_ior hx hb dX10_derive_180 ?_
                refine va_calli (va_runV (As := [.int a1, .int (st.2.1 20 a2.toNatClampNeg), .int (st.2.1 21 a2.toNatClampNeg), .int ((st.2.1 22 a2.toNatClampNeg) ||| (st.2.1 22 a3.toNatClampNeg))]) (rest := []) ⟨hx, hb, hml, hown, hts⟩ (c_X10_add l dC dI q k (sA (sA (sI st 10 0) 24 ((st.1 7).toNatClampNeg) a2) 25 ((st.1 7).toNatClampNeg) a3) a1 (st.2.1 20 a2.toNatClampNeg) (st.2.1 21 a2.toNatClampNeg) ((st.2.1 22 a2.toNatClampNeg) ||| (st.2.1 22 a3.toNatClampNeg)) hq (ob_X10_derive_181_23 st a1 a2 a3 hok h1_1 h29_2 h39_3 h64_5 h73_7 h86_8 h136_13) _ rfl) (cwV 4 hts gX10_derive_X10_add rfl rfl rfl (by decide +kernel) ⟨Nat.le_of_ble_eq_true rfl, Nat.le_of_ble_eq_true rfl⟩) ⟨fb_M, va_recv hK.1 hP (ci := 10) (q0 := 0) rfl rfl, fun U hU hW => ⟨rfl, by rw [hU]; exact hP, hK.warm hW⟩⟩ rfl rfl hl.1 rfl (lv_room (Nat.le_of_ble_eq_true rfl)) dX10_derive_181 ⟨Nat.le_of_ble_eq_true rfl, Nat.le_of_ble_eq_true rfl⟩) hS (fun _ _ h => h) (fun _ h => h) (fun r9 u9 t9 H locs ht9 hv9 e9 hB9 hz9 hk9 hS => ?_)
                rw [ht9] at hB9
                subst e9
                have hP : va_P (dC, dI) vwCl (wM q k ((sp_X10_add (sA (sA (sI st 10 0) 24 ((st.1 7).toNatClampNeg) a2) 25 ((st.1 7).toNatClampNeg) a3) a1 (st.2.1 20 a2.toNatClampNeg) (st.2.1 21 a2.toNatClampNeg) ((st.2.1 22 a2.toNatClampNeg) ||| (st.2.1 22 a3.toNatClampNeg))).2)) H := hB9
                exact W.iret (v := (sp_X10_add (sA (sA (sI st 10 0) 24 ((st.1 7).toNatClampNeg) a2) 25 ((st.1 7).toNatClampNeg) a3) a1 (st.2.1 20 a2.toNatClampNeg) (st.2.1 21 a2.toNatClampNeg) ((st.2.1 22 a2.toNatClampNeg) ||| (st.2.1 22 a3.toNatClampNeg))).1) hx hb hr (fun t ht hW => ⟨⟨_, (), rfl, by show _ = Prod.fst _; rw [← he], by show va_P _ _ _ t.heap; rw [ht, ← he]; exact hP⟩, hS.F ht⟩) hS.2.2 dX10_derive_184
            · have he := (if_pos h86_8).symm.trans he
              refine lv_iconst (v := 3) hx hb dX10_derive_89 (by decide) ?_
              refine lv_goto (tgt := 94) hx hb dX10_derive_90 (by decide) ?_
              refine va_calli (va_runV (As := [.int 3]) (rest := []) ⟨hx, hb, hml, hown, hts⟩ (c_X10_says l dC dI q k st 3 hq _ rfl) (cwV 1 hts gX10_derive_X10_says rfl rfl rfl (by decide +kernel) ⟨Nat.le_of_ble_eq_true rfl, Nat.le_of_ble_eq_true rfl⟩) ⟨fb_M, va_recv hK.1 hP (ci := 10) (q0 := 0) rfl rfl, fun U hU hW => ⟨rfl, by rw [hU]; exact hP, hK.warm hW⟩⟩ rfl rfl hl.1 rfl (lv_room (Nat.le_of_ble_eq_true rfl)) dX10_derive_94 ⟨Nat.le_of_ble_eq_true rfl, Nat.le_of_ble_eq_true rfl⟩) hS (fun _ _ h => h) (fun _ h => h) (fun r9 u9 t9 H locs ht9 hv9 e9 hB9 hz9 hk9 hS => ?_)
              rw [ht9, says_2] at hB9
              replace e9 : r9 = 0 := e9.trans (saysV_3 _)
              subst e9
              have hP : va_P (dC, dI) vwCl (wM q k (sI st 10 3)) H := hB9
              refine lv_if_ne (tgt := 102) hx hb dX10_derive_97 (by decide) (fun h9 => absurd h9 (by decide)) (fun _ => ?_)
              refine lv_iconst (v := 0) hx hb dX10_derive_100 (by decide) ?_
              exact W.iret (v := 0) hx hb hr (fun t ht hW => ⟨⟨_, (), rfl, by show _ = Prod.fst _; rw [← he], by show va_P _ _ _ t.heap; rw [ht, ← he]; exact hP⟩, hS.F ht⟩) hS.2.2 dX10_derive_101
          · have he := (if_pos h73_7).symm.trans he
            refine lv_iconst (v := 1) hx hb dX10_derive_76 (by decide) ?_
            refine lv_goto (tgt := 94) hx hb dX10_derive_77 (by decide) ?_
            refine va_calli (va_runV (As := [.int 1]) (rest := []) ⟨hx, hb, hml, hown, hts⟩ (c_X10_says l dC dI q k st 1 hq _ rfl) (cwV 1 hts gX10_derive_X10_says rfl rfl rfl (by decide +kernel) ⟨Nat.le_of_ble_eq_true rfl, Nat.le_of_ble_eq_true rfl⟩) ⟨fb_M, va_recv hK.1 hP (ci := 10) (q0 := 0) rfl rfl, fun U hU hW => ⟨rfl, by rw [hU]; exact hP, hK.warm hW⟩⟩ rfl rfl hl.1 rfl (lv_room (Nat.le_of_ble_eq_true rfl)) dX10_derive_94 ⟨Nat.le_of_ble_eq_true rfl, Nat.le_of_ble_eq_true rfl⟩) hS (fun _ _ h => h) (fun _ h => h) (fun r9 u9 t9 H locs ht9 hv9 e9 hB9 hz9 hk9 hS => ?_)
            rw [ht9, says_2] at hB9
            replace e9 : r9 = 0 := e9.trans (saysV_1 _)
            subst e9
            have hP : va_P (dC, dI) vwCl (wM q k (sI st 10 1)) H := hB9
            refine lv_if_ne (tgt := 102) hx hb dX10_derive_97 (by decide) (fun h9 => absurd h9 (by decide)) (fun _ => ?_)
            refine lv_iconst (v := 0) hx hb dX10_derive_100 (by decide) ?_
            exact W.iret (v := 0) hx hb hr (fun t ht hW => ⟨⟨_, (), rfl, by show _ = Prod.fst _; rw [← he], by show va_P _ _ _ t.heap; rw [ht, ← he]; exact hP⟩, hS.F ht⟩) hS.2.2 dX10_derive_101
      · have he := (if_pos h39_3).symm.trans he
        refine lv_iconst (v := 1) hx hb dX10_derive_42 (by decide) ?_
        refine lv_goto (tgt := 47) hx hb dX10_derive_43 (by decide) ?_
        refine lv_istore (lv' := [(6, .int 1), (5, .int a3), (4, .int 0), (0, .ref (q 0)), (1, .int a1), (2, .int a2), (3, .int a3)]) hx hb dX10_derive_47 hl (by decide) rfl (fun ls hl => ?_)
        refine lv_aload_n hx hb dX10_derive_49 rfl (lv_at hl 3 rfl) ?_
        refine lv_iload hx hb dX10_derive_50 (lv_at hl 0 rfl) ?_
        refine lv_if_eq (tgt := 59) hx hb dX10_derive_52 (by decide) (fun h9 => absurd h9 (by decide)) (fun _ => ?_)
        refine lv_iconst (v := 2) hx hb dX10_derive_55 (by decide) ?_
        refine lv_goto (tgt := 94) hx hb dX10_derive_56 (by decide) ?_
        refine va_calli (va_runV (As := [.int 2]) (rest := []) ⟨hx, hb, hml, hown, hts⟩ (c_X10_says l dC dI q k st 2 hq _ rfl) (cwV 1 hts gX10_derive_X10_says rfl rfl rfl (by decide +kernel) ⟨Nat.le_of_ble_eq_true rfl, Nat.le_of_ble_eq_true rfl⟩) ⟨fb_M, va_recv hK.1 hP (ci := 10) (q0 := 0) rfl rfl, fun U hU hW => ⟨rfl, by rw [hU]; exact hP, hK.warm hW⟩⟩ rfl rfl hl.1 rfl (lv_room (Nat.le_of_ble_eq_true rfl)) dX10_derive_94 ⟨Nat.le_of_ble_eq_true rfl, Nat.le_of_ble_eq_true rfl⟩) hS (fun _ _ h => h) (fun _ h => h) (fun r9 u9 t9 H locs ht9 hv9 e9 hB9 hz9 hk9 hS => ?_)
        rw [ht9, says_2] at hB9
        replace e9 : r9 = 0 := e9.trans (saysV_2 _)
        subst e9
        have hP : va_P (dC, dI) vwCl (wM q k (sI st 10 2)) H := hB9
        refine lv_if_ne (tgt := 102) hx hb dX10_derive_97 (by decide) (fun h9 => absurd h9 (by decide)) (fun _ => ?_)
        refine lv_iconst (v := 0) hx hb dX10_derive_100 (by decide) ?_
        exact W.iret (v := 0) hx hb hr (fun t ht hW => ⟨⟨_, (), rfl, by show _ = Prod.fst _; rw [← he], by show va_P _ _ _ t.heap; rw [ht, ← he]; exact hP⟩, hS.F ht⟩) hS.2.2 dX10_derive_101
  · have he := (if_pos h1_1).symm.trans he
    refine lv_iconst (v := 1) hx hb dX10_derive_4 (by decide) ?_
    refine lv_goto (tgt := 9) hx hb dX10_derive_5 (by decide) ?_
    refine lv_istore (lv' := [(4, .int 1), (0, .ref (q 0)), (1, .int a1), (2, .int a2), (3, .int a3)]) hx hb dX10_derive_9 hl (by decide) rfl (fun ls hl => ?_)
    refine lv_iload hx hb dX10_derive_11 (lv_at hl 0 rfl) ?_
    refine lv_if_eq (tgt := 20) hx hb dX10_derive_13 (by decide) (fun h9 => absurd h9 (by decide)) (fun _ => ?_)
    refine lv_iload_n hx hb dX10_derive_16 rfl (lv_at hl 3 rfl) ?_
    refine lv_goto (tgt := 21) hx hb dX10_derive_17 (by decide) ?_
    refine lv_istore (lv' := [(5, .int a2), (4, .int 1), (0, .ref (q 0)), (1, .int a1), (2, .int a2), (3, .int a3)]) hx hb dX10_derive_21 hl (by decide) rfl (fun ls hl => ?_)
    refine lv_iload_n hx hb dX10_derive_23 rfl (lv_at hl 3 rfl) ?_
    refine lv_iconst (v := 0) hx hb dX10_derive_24 (by decide) ?_
    refine lv_iconst (v := 2) hx hb dX10_derive_25 (by decide) ?_
    refine vp_callSi (va_Run.run (va_runS (As := [.int a1, .int 0, .int 2]) (rest := []) ⟨hx, hb, hml, hown, hts⟩ (c_X10_in l a1 0 2 _ rfl) (va_cwS 3 hts gX10_derive_X10_in rfl rfl rfl (by decide +kernel) ⟨Nat.le_of_ble_eq_true rfl, Nat.le_of_ble_eq_true rfl⟩) ⟨fb_T, fun U hU hW => ⟨rfl, trivial⟩⟩ rfl rfl hl.1 rfl (lv_room (Nat.le_of_ble_eq_true rfl)) dX10_derive_26 ⟨Nat.le_of_ble_eq_true rfl, Nat.le_of_ble_eq_true rfl⟩)) (fun r9 e9 => ?_)
    subst e9
    refine lv_if_eq (tgt := 42) hx hb dX10_derive_29 (by decide) (fun h29_24 => ?_) (fun h29_24 => ?_)
    · have he := (if_pos h29_24).symm.trans he
      refine lv_iconst (v := 1) hx hb dX10_derive_42 (by decide) ?_
      refine lv_goto (tgt := 47) hx hb dX10_derive_43 (by decide) ?_
      refine lv_istore (lv' := [(6, .int 1), (5, .int a2), (4, .int 1), (0, .ref (q 0)), (1, .int a1), (2, .int a2), (3, .int a3)]) hx hb dX10_derive_47 hl (by decide) rfl (fun ls hl => ?_)
      refine lv_aload_n hx hb dX10_derive_49 rfl (lv_at hl 3 rfl) ?_
      refine lv_iload hx hb dX10_derive_50 (lv_at hl 0 rfl) ?_
      refine lv_if_eq (tgt := 59) hx hb dX10_derive_52 (by decide) (fun h9 => absurd h9 (by decide)) (fun _ => ?_)
      refine lv_iconst (v := 2) hx hb dX10_derive_55 (by decide) ?_
      refine lv_goto (tgt := 94) hx hb dX10_derive_56 (by decide) ?_
      refine va_calli (va_runV (As := [.int 2]) (rest := []) ⟨hx, hb, hml, hown, hts⟩ (c_X10_says l dC dI q k st 2 hq _ rfl) (cwV 1 hts gX10_derive_X10_says rfl rfl rfl (by decide +kernel) ⟨Nat.le_of_ble_eq_true rfl, Nat.le_of_ble_eq_true rfl⟩) ⟨fb_M, va_recv hK.1 hP (ci := 10) (q0 := 0) rfl rfl, fun U hU hW => ⟨rfl, by rw [hU]; exact hP, hK.warm hW⟩⟩ rfl rfl hl.1 rfl (lv_room (Nat.le_of_ble_eq_true rfl)) dX10_derive_94 ⟨Nat.le_of_ble_eq_true rfl, Nat.le_of_ble_eq_true rfl⟩) hS (fun _ _ h => h) (fun _ h => h) (fun r9 u9 t9 H locs ht9 hv9 e9 hB9 hz9 hk9 hS => ?_)
      rw [ht9, says_2] at hB9
      replace e9 : r9 = 0 := e9.trans (saysV_2 _)
      subst e9
      have hP : va_P (dC, dI) vwCl (wM q k (sI st 10 2)) H := hB9
      refine lv_if_ne (tgt := 102) hx hb dX10_derive_97 (by decide) (fun h9 => absurd h9 (by decide)) (fun _ => ?_)
      refine lv_iconst (v := 0) hx hb dX10_derive_100 (by decide) ?_
      exact W.iret (v := 0) hx hb hr (fun t ht hW => ⟨⟨_, (), rfl, by show _ = Prod.fst _; rw [← he], by show va_P _ _ _ t.heap; rw [ht, ← he]; exact hP⟩, hS.F ht⟩) hS.2.2 dX10_derive_101
    · have he := (if_neg h29_24).symm.trans he
      refine lv_iload hx hb dX10_derive_32 (lv_at hl 1 rfl) ?_
      refine lv_if_ne (tgt := 46) hx hb dX10_derive_34 (by decide) (fun _ => ?_) (fun h9 => absurd h9 (by decide))
      refine lv_iconst (v := 0) hx hb dX10_derive_46 (by decide) ?_
      refine lv_istore (lv' := [(6, .int 0), (5, .int a2), (4, .int 1), (0, .ref (q 0)), (1, .int a1), (2, .int a2), (3, .int a3)]) hx hb dX10_derive_47 hl (by decide) rfl (fun ls hl => ?_)
      refine lv_aload_n hx hb dX10_derive_49 rfl (lv_at hl 3 rfl) ?_
      refine lv_iload hx hb dX10_derive_50 (lv_at hl 0 rfl) ?_
      refine lv_if_eq (tgt := 59) hx hb dX10_derive_52 (by decide) (fun _ => ?_) (fun h9 => absurd h9 (by decide))
      refine lv_aload_n hx hb dX10_derive_59 rfl (lv_at hl 3 rfl) ?_
      refine lv_iload_n hx hb dX10_derive_60 rfl (lv_at hl 5 rfl) ?_
      refine vp_callSi (va_Run.run (va_runV (As := [.int a2]) (rest := [.ref (q 0)]) ⟨hx, hb, hml, hown, hts⟩ (c_X10_isLiving l dC dI q k st a2 (ob_X10_derive_61_25 st a1 a2 a3 hok h1_1 h29_24) _ rfl) (cwV 1 hts gX10_derive_X10_isLiving rfl rfl rfl (by decide +kernel) ⟨Nat.le_of_ble_eq_true rfl, Nat.le_of_ble_eq_true rfl⟩) ⟨fb_M, va_recv hK.1 hP (ci := 10) (q0 := 0) rfl rfl, fun U hU hW => ⟨rfl, by rw [hU]; exact hP, hK.warm hW⟩⟩ rfl rfl hl.1 rfl (lv_room (Nat.le_of_ble_eq_true rfl)) dX10_derive_61 ⟨Nat.le_of_ble_eq_true rfl, Nat.le_of_ble_eq_true rfl⟩)) (fun r9 e9 => ?_)
      subst e9
      refine lv_if_eq (tgt := 76) hx hb dX10_derive_64 (by decide) (fun h64_26 => ?_) (fun h64_26 => ?_)
      · have he := (if_pos h64_26).symm.trans he
        refine lv_iconst (v := 1) hx hb dX10_derive_76 (by decide) ?_
        refine lv_goto (tgt := 94) hx hb dX10_derive_77 (by decide) ?_
        refine va_calli (va_runV (As := [.int 1]) (rest := []) ⟨hx, hb, hml, hown, hts⟩ (c_X10_says l dC dI q k st 1 hq _ rfl) (cwV 1 hts gX10_derive_X10_says rfl rfl rfl (by decide +kernel) ⟨Nat.le_of_ble_eq_true rfl, Nat.le_of_ble_eq_true rfl⟩) ⟨fb_M, va_recv hK.1 hP (ci := 10) (q0 := 0) rfl rfl, fun U hU hW => ⟨rfl, by rw [hU]; exact hP, hK.warm hW⟩⟩ rfl rfl hl.1 rfl (lv_room (Nat.le_of_ble_eq_true rfl)) dX10_derive_94 ⟨Nat.le_of_ble_eq_true rfl, Nat.le_of_ble_eq_true rfl⟩) hS (fun _ _ h => h) (fun _ h => h) (fun r9 u9 t9 H locs ht9 hv9 e9 hB9 hz9 hk9 hS => ?_)
        rw [ht9, says_2] at hB9
        replace e9 : r9 = 0 := e9.trans (saysV_1 _)
        subst e9
        have hP : va_P (dC, dI) vwCl (wM q k (sI st 10 1)) H := hB9
        refine lv_if_ne (tgt := 102) hx hb dX10_derive_97 (by decide) (fun h9 => absurd h9 (by decide)) (fun _ => ?_)
        refine lv_iconst (v := 0) hx hb dX10_derive_100 (by decide) ?_
        exact W.iret (v := 0) hx hb hr (fun t ht hW => ⟨⟨_, (), rfl, by show _ = Prod.fst _; rw [← he], by show va_P _ _ _ t.heap; rw [ht, ← he]; exact hP⟩, hS.F ht⟩) hS.2.2 dX10_derive_101
      · have he := (if_neg h64_26).symm.trans he
        refine lv_aload_n hx hb dX10_derive_67 rfl (lv_at hl 3 rfl) ?_
        refine lv_iload hx hb dX10_derive_68 (lv_at hl 1 rfl) ?_
        refine vp_callSi (va_Run.run (va_runV (As := [.int a2]) (rest := [.ref (q 0)]) ⟨hx, hb, hml, hown, hts⟩ (c_X10_isLiving l dC dI q k st a2 (ob_X10_derive_70_27 st a1 a2 a3 hok h1_1 h29_24 h64_26) _ rfl) (cwV 1 hts gX10_derive_X10_isLiving rfl rfl rfl (by decide +kernel) ⟨Nat.le_of_ble_eq_true rfl, Nat.le_of_ble_eq_true rfl⟩) ⟨fb_M, va_recv hK.1 hP (ci := 10) (q0 := 0) rfl rfl, fun U hU hW => ⟨rfl, by rw [hU]; exact hP, hK.warm hW⟩⟩ rfl rfl hl.1 rfl (lv_room (Nat.le_of_ble_eq_true rfl)) dX10_derive_70 ⟨Nat.le_of_ble_eq_true rfl, Nat.le_of_ble_eq_true rfl⟩)) (fun r9 e9 => ?_)
        subst e9
        refine lv_if_ne (tgt := 80) hx hb dX10_derive_73 (by decide) (fun h73_28 => ?_) (fun h73_28 => ?_)
        · have he := (if_neg h73_28).symm.trans he
          refine lv_aload_n hx hb dX10_derive_80 rfl (lv_at hl 3 rfl) ?_
          refine va_get (D := (dC, dI)) (ci := 10) (v := .int (st.1 7)) (C := RX10) (T := TX10) (N := 45) hx hb hts hi10 hown hK.1 hP 0 rfl rfl 19 (by decide) hf157 (fun _ h9 => h9) rfl dX10_derive_81 ?_
          refine lv_bipush (v := 100) hx hb dX10_derive_84 (by decide) ?_
          refine lv_icmp_ne (tgt := 93) hx hb dX10_derive_86 (by decide) (fun h86_29 => ?_) (fun h86_29 => ?_)
          · have he := (if_neg h86_29).symm.trans he
            refine lv_iconst (v := 0) hx hb dX10_derive_93 (by decide) ?_
            refine va_calli (va_runV (As := [.int 0]) (rest := []) ⟨hx, hb, hml, hown, hts⟩ (c_X10_says l dC dI q k st 0 hq _ rfl) (cwV 1 hts gX10_derive_X10_says rfl rfl rfl (by decide +kernel) ⟨Nat.le_of_ble_eq_true rfl, Nat.le_of_ble_eq_true rfl⟩) ⟨fb_M, va_recv hK.1 hP (ci := 10) (q0 := 0) rfl rfl, fun U hU hW => ⟨rfl, by rw [hU]; exact hP, hK.warm hW⟩⟩ rfl rfl hl.1 rfl (lv_room (Nat.le_of_ble_eq_true rfl)) dX10_derive_94 ⟨Nat.le_of_ble_eq_true rfl, Nat.le_of_ble_eq_true rfl⟩) hS (fun _ _ h => h) (fun _ h => h) (fun r9 u9 t9 H locs ht9 hv9 e9 hB9 hz9 hk9 hS => ?_)
            rw [ht9, says_2] at hB9
            replace e9 : r9 = 1 := e9.trans (saysV_0 _)
            subst e9
            have hP : va_P (dC, dI) vwCl (wM q k (sI st 10 0)) H := hB9
            refine lv_if_ne (tgt := 102) hx hb dX10_derive_97 (by decide) (fun _ => ?_) (fun h9 => absurd h9 (by decide))
            refine lv_aload_n hx hb dX10_derive_102 rfl (lv_at hl 3 rfl) ?_
            refine va_get (D := (dC, dI)) (ci := 10) (v := .ref (q 25)) (C := RX10) (T := TX10) (N := 45) hx hb hts hi10 hown hK.1 hP 0 rfl rfl 24 (by decide) hf66 (fun _ h9 => h9) rfl dX10_derive_103 ?_
            refine lv_aload_n hx hb dX10_derive_106 rfl (lv_at hl 3 rfl) ?_
            refine va_get (D := (dC, dI)) (ci := 10) (v := .int (st.1 7)) (C := RX10) (T := TX10) (N := 45) hx hb hts hi10 hown hK.1 hP 0 rfl rfl 19 (by decide) hf157 (fun _ h9 => h9) rfl dX10_derive_107 ?_
            refine lv_iload_n hx hb dX10_derive_110 rfl (lv_at hl 5 rfl) ?_
            refine va_iast hx hb hK.1 hP (dM_of hq) hS 25 24 (f := st.2.1 24) (n := 100) (cA := k 24) rfl rfl (i := st.1 7) (x := a2) (ob_X10_derive_111_30 st a1 a2 a3 hok h1_1 h29_24 h64_26 h73_28 h86_29) dX10_derive_111 (fun H locs hP _ hS => ?_)
            have hP : va_P (dC, dI) vwCl (wM q k (sA (sI st 10 0) 24 ((st.1 7).toNatClampNeg) a2)) H := hP
            refine lv_aload_n hx hb dX10_derive_112 rfl (lv_at hl 3 rfl) ?_
            refine va_get (D := (dC, dI)) (ci := 10) (v := .ref (q 26)) (C := RX10) (T := TX10) (N := 45) hx hb hts hi10 hown hK.1 hP 0 rfl rfl 25 (by decide) hf69 (fun _ h9 => h9) rfl dX10_derive_113 ?_
            refine lv_aload_n hx hb dX10_derive_116 rfl (lv_at hl 3 rfl) ?_
            refine va_get (D := (dC, dI)) (ci := 10) (v := .int (st.1 7)) (C := RX10) (T := TX10) (N := 45) hx hb hts hi10 hown hK.1 hP 0 rfl rfl 19 (by decide) hf157 (fun _ h9 => h9) rfl dX10_derive_117 ?_
            refine lv_iload hx hb dX10_derive_120 (lv_at hl 1 rfl) ?_
            refine va_iast hx hb hK.1 hP (dM_of hq) hS 26 25 (f := st.2.1 25) (n := 100) (cA := k 25) rfl rfl (i := st.1 7) (x := a2) (ob_X10_derive_122_31 st a1 a2 a3 hok h1_1 h29_24 h64_26 h73_28 h86_29) dX10_derive_122 (fun H locs hP _ hS => ?_)
            have hP : va_P (dC, dI) vwCl (wM q k (sA (sA (sI st 10 0) 24 ((st.1 7).toNatClampNeg) a2) 25 ((st.1 7).toNatClampNeg) a2)) H := hP
            refine lv_aload_n hx hb dX10_derive_123 rfl (lv_at hl 3 rfl) ?_
            refine va_get (D := (dC, dI)) (ci := 10) (v := .ref (q 22)) (C := RX10) (T := TX10) (N := 45) hx hb hts hi10 hown hK.1 hP 0 rfl rfl 22 (by decide) hf60 (fun _ h9 => h9) rfl dX10_derive_124 ?_
            refine lv_iload_n hx hb dX10_derive_127 rfl (lv_at hl 5 rfl) ?_
            refine va_iald hx hb hK.1 hP 22 21 (f := st.2.1 21) (n := 100) (cA := k 21) rfl rfl (i := a2) (ob_X10_derive_128_32 st a1 a2 a3 hok h1_1 h29_24 h64_26 h73_28 h86_29) dX10_derive_128 ?_
            refine lv_aload_n hx hb dX10_derive_129 rfl (lv_at hl 3 rfl) ?_
            refine va_get (D := (dC, dI)) (ci := 10) (v := .ref (q 22)) (C := RX10) (T := TX10) (N := 45) hx hb hts hi10 hown hK.1 hP 0 rfl rfl 22 (by decide) hf60 (fun _ h9 => h9) rfl dX10_derive_130 ?_
            refine lv_iload hx hb dX10_derive_133 (lv_at hl 1 rfl) ?_
            refine va_iald hx hb hK.1 hP 22 21 (f := st.2.1 21) (n := 100) (cA := k 21) rfl rfl (i := a2) (ob_X10_derive_135_33 st a1 a2 a3 hok h1_1 h29_24 h64_26 h73_28 h86_29) dX10_derive_135 ?_
            refine lv_icmp_le (tgt := 148) hx hb dX10_derive_136 (by decide) (fun h136_34 => ?_) (fun h136_34 => ?_)
            · have he := (if_pos h136_34).symm.trans he
              refine lv_aload_n hx hb dX10_derive_148 rfl (lv_at hl 3 rfl) ?_
              refine va_get (D := (dC, dI)) (ci := 10) (v := .ref (q 22)) (C := RX10) (T := TX10) (N := 45) hx hb hts hi10 hown hK.1 hP 0 rfl rfl 22 (by decide) hf60 (fun _ h9 => h9) rfl dX10_derive_149 ?_
              refine lv_iload hx hb dX10_derive_152 (lv_at hl 1 rfl) ?_
              refine va_iald hx hb hK.1 hP 22 21 (f := st.2.1 21) (n := 100) (cA := k 21) rfl rfl (i := a2) (ob_X10_derive_154_35 st a1 a2 a3 hok h1_1 h29_24 h64_26 h73_28 h86_29 h136_34) dX10_derive_154 ?_
              refine lv_istore (lv' := [(7, .int (st.2.1 21 a2.toNatClampNeg)), (6, .int 0), (5, .int a2), (4, .int 1), (0, .ref (q 0)), (1, .int a1), (2, .int a2), (3, .int a3)]) hx hb dX10_derive_155 hl (by decide) rfl (fun ls hl => ?_)
              refine lv_aload_n hx hb dX10_derive_157 rfl (lv_at hl 4 rfl) ?_
              refine lv_iload_n hx hb dX10_derive_158 rfl (lv_at hl 5 rfl) ?_
              refine lv_aload_n hx hb dX10_derive_159 rfl (lv_at hl 4 rfl) ?_
              refine va_get (D := (dC, dI)) (ci := 10) (v := .ref (q 21)) (C := RX10) (T := TX10) (N := 45) hx hb hts hi10 hown hK.1 hP 0 rfl rfl 21 (by decide) hf57 (fun _ h9 => h9) rfl dX10_derive_160 ?_
              refine lv_iload_n hx hb dX10_derive_163 rfl (lv_at hl 6 rfl) ?_
              refine va_iald hx hb hK.1 hP 21 20 (f := st.2.1 20) (n := 100) (cA := k 20) rfl rfl (i := a2) (ob_X10_derive_164_36 st a1 a2 a3 hok h1_1 h29_24 h64_26 h73_28 h86_29 h136_34) dX10_derive_164 ?_
              refine lv_iload hx hb dX10_derive_165 (lv_at hl 0 rfl) ?_
              refine lv_aload_n hx hb dX10_derive_167 rfl (lv_at hl 4 rfl) ?_
              refine va_get (D := (dC, dI)) (ci := 10) (v := .ref (q 23)) (C := RX10) (T := TX10) (N := 45) hx hb hts hi10 hown hK.1 hP 0 rfl rfl 23 (by decide) hf63 (fun _ h9 => h9) rfl dX10_derive_168 ?_
              refine lv_iload_n hx hb dX10_derive_171 rfl (lv_at hl 6 rfl) ?_
              refine va_iald hx hb hK.1 hP 23 22 (f := st.2.1 22) (n := 100) (cA := k 22) rfl rfl (i := a2) (ob_X10_derive_172_37 st a1 a2 a3 hok h1_1 h29_24 h64_26 h73_28 h86_29 h136_34) dX10_derive_172 ?_
              refine lv_aload_n hx hb dX10_derive_173 rfl (lv_at hl 4 rfl) ?_
              refine va_get (D := (dC, dI)) (ci := 10) (v := .ref (q 23)) (C := RX10) (T := TX10) (N := 45) hx hb hts hi10 hown hK.1 hP 0 rfl rfl 23 (by decide) hf63 (fun _ h9 => h9) rfl dX10_derive_174 ?_
              refine lv_iload hx hb dX10_derive_177 (lv_at hl 2 rfl) ?_
              refine va_iald hx hb hK.1 hP 23 22 (f := st.2.1 22) (n := 100) (cA := k 22) rfl rfl (i := a2) (ob_X10_derive_179_38 st a1 a2 a3 hok h1_1 h29_24 h64_26 h73_28 h86_29 h136_34) dX10_derive_179 ?_
              refine lv_ior hx hb dX10_derive_180 ?_
              refine va_calli (va_runV (As := [.int a1, .int (st.2.1 20 a2.toNatClampNeg), .int (st.2.1 21 a2.toNatClampNeg), .int ((st.2.1 22 a2.toNatClampNeg) ||| (st.2.1 22 a2.toNatClampNeg))]) (rest := []) ⟨hx, hb, hml, hown, hts⟩ (c_X10_add l dC dI q k (sA (sA (sI st 10 0) 24 ((st.1 7).toNatClampNeg) a2) 25 ((st.1 7).toNatClampNeg) a2) a1 (st.2.1 20 a2.toNatClampNeg) (st.2.1 21 a2.toNatClampNeg) ((st.2.1 22 a2.toNatClampNeg) ||| (st.2.1 22 a2.toNatClampNeg)) hq (ob_X10_derive_181_39 st a1 a2 a3 hok h1_1 h29_24 h64_26 h73_28 h86_29 h136_34) _ rfl) (cwV 4 hts gX10_derive_X10_add rfl rfl rfl (by decide +kernel) ⟨Nat.le_of_ble_eq_true rfl, Nat.le_of_ble_eq_true rfl⟩) ⟨fb_M, va_recv hK.1 hP (ci := 10) (q0 := 0) rfl rfl, fun U hU hW => ⟨rfl, by rw [hU]; exact hP, hK.warm hW⟩⟩ rfl rfl hl.1 rfl (lv_room (Nat.le_of_ble_eq_true rfl)) dX10_derive_181 ⟨Nat.le_of_ble_eq_true rfl, Nat.le_of_ble_eq_true rfl⟩) hS (fun _ _ h => h) (fun _ h => h) (fun r9 u9 t9 H locs ht9 hv9 e9 hB9 hz9 hk9 hS => ?_)
              rw [ht9] at hB9
              subst e9
              have hP : va_P (dC, dI) vwCl (wM q k ((sp_X10_add (sA (sA (sI st 10 0) 24 ((st.1 7).toNatClampNeg) a2) 25 ((st.1 7).toNatClampNeg) a2) a1 (st.2.1 20 a2.toNatClampNeg) (st.2.1 21 a2.toNatClampNeg) ((st.2.1 22 a2.toNatClampNeg) ||| (st.2.1 22 a2.toNatClampNeg))).2)) H := hB9
              exact W.iret (v := (sp_X10_add (sA (sA (sI st 10 0) 24 ((st.1 7).toNatClampNeg) a2) 25 ((st.1 7).toNatClampNeg) a2) a1 (st.2.1 20 a2.toNatClampNeg) (st.2.1 21 a2.toNatClampNeg) ((st.2.1 22 a2.toNatClampNeg) ||| (st.2.1 22 a2.toNatClampNeg))).1) hx hb hr (fun t ht hW => ⟨⟨_, (), rfl, by show _ = Prod.fst _; rw [← he], by show va_P _ _ _ t.heap; rw [ht, ← he]; exact hP⟩, hS.F ht⟩) hS.2.2 dX10_derive_184
            · have he := (if_neg h136_34).symm.trans he
              refine lv_aload_n hx hb dX10_derive_139 rfl (lv_at hl 3 rfl) ?_
              refine va_get (D := (dC, dI)) (ci := 10) (v := .ref (q 22)) (C := RX10) (T := TX10) (N := 45) hx hb hts hi10 hown hK.1 hP 0 rfl rfl 22 (by decide) hf60 (fun _ h9 => h9) rfl dX10_derive_140 ?_
              refine lv_iload_n hx hb dX10_derive_143 rfl (lv_at hl 5 rfl) ?_
              refine va_iald hx hb hK.1 hP 22 21 (f := st.2.1 21) (n := 100) (cA := k 21) rfl rfl (i := a2) (ob_X10_derive_144_40 st a1 a2 a3 hok h1_1 h29_24 h64_26 h73_28 h86_29 h136_34) dX10_derive_144 ?_
              refine lv_goto (tgt := 155) hx hb dX10_derive_145 (by decide) ?_
              refine lv_istore (lv' := [(7, .int (st.2.1 21 a2.toNatClampNeg)), (6, .int 0), (5, .int a2), (4, .int 1), (0, .ref (q 0)), (1, .int a1), (2, .int a2), (3, .int a3)]) hx hb dX10_derive_155 hl (by decide) rfl (fun ls hl => ?_)
              refine lv_aload_n hx hb dX10_derive_157 rfl (lv_at hl 4 rfl) ?_
              refine lv_iload_n hx hb dX10_derive_158 rfl (lv_at hl 5 rfl) ?_
              refine lv_aload_n hx hb dX10_derive_159 rfl (lv_at hl 4 rfl) ?_
              refine va_get (D := (dC, dI)) (ci := 10) (v := .ref (q 21)) (C := RX10) (T := TX10) (N := 45) hx hb hts hi10 hown hK.1 hP 0 rfl rfl 21 (by decide) hf57 (fun _ h9 => h9) rfl dX10_derive_160 ?_
              refine lv_iload_n hx hb dX10_derive_163 rfl (lv_at hl 6 rfl) ?_
              refine va_iald hx hb hK.1 hP 21 20 (f := st.2.1 20) (n := 100) (cA := k 20) rfl rfl (i := a2) (ob_X10_derive_164_41 st a1 a2 a3 hok h1_1 h29_24 h64_26 h73_28 h86_29 h136_34) dX10_derive_164 ?_
              refine lv_iload hx hb dX10_derive_165 (lv_at hl 0 rfl) ?_
              refine lv_aload_n hx hb dX10_derive_167 rfl (lv_at hl 4 rfl) ?_
              refine va_get (D := (dC, dI)) (ci := 10) (v := .ref (q 23)) (C := RX10) (T := TX10) (N := 45) hx hb hts hi10 hown hK.1 hP 0 rfl rfl 23 (by decide) hf63 (fun _ h9 => h9) rfl dX10_derive_168 ?_
              refine lv_iload_n hx hb dX10_derive_171 rfl (lv_at hl 6 rfl) ?_
              refine va_iald hx hb hK.1 hP 23 22 (f := st.2.1 22) (n := 100) (cA := k 22) rfl rfl (i := a2) (ob_X10_derive_172_42 st a1 a2 a3 hok h1_1 h29_24 h64_26 h73_28 h86_29 h136_34) dX10_derive_172 ?_
              refine lv_aload_n hx hb dX10_derive_173 rfl (lv_at hl 4 rfl) ?_
              refine va_get (D := (dC, dI)) (ci := 10) (v := .ref (q 23)) (C := RX10) (T := TX10) (N := 45) hx hb hts hi10 hown hK.1 hP 0 rfl rfl 23 (by decide) hf63 (fun _ h9 => h9) rfl dX10_derive_174 ?_
              refine lv_iload hx hb dX10_derive_177 (lv_at hl 2 rfl) ?_
              refine va_iald hx hb hK.1 hP 23 22 (f := st.2.1 22) (n := 100) (cA := k 22) rfl rfl (i := a2) (ob_X10_derive_179_43 st a1 a2 a3 hok h1_1 h29_24 h64_26 h73_28 h86_29 h136_34) dX10_derive_179 ?_
              refine lv_ior hx hb dX10_derive_180 ?_
              refine va_calli (va_runV (As := [.int a1, .int (st.2.1 20 a2.toNatClampNeg), .int (st.2.1 21 a2.toNatClampNeg), .int ((st.2.1 22 a2.toNatClampNeg) ||| (st.2.1 22 a2.toNatClampNeg))]) (rest := []) ⟨hx, hb, hml, hown, hts⟩ (c_X10_add l dC dI q k (sA (sA (sI st 10 0) 24 ((st.1 7).toNatClampNeg) a2) 25 ((st.1 7).toNatClampNeg) a2) a1 (st.2.1 20 a2.toNatClampNeg) (st.2.1 21 a2.toNatClampNeg) ((st.2.1 22 a2.toNatClampNeg) ||| (st.2.1 22 a2.toNatClampNeg)) hq (ob_X10_derive_181_44 st a1 a2 a3 hok h1_1 h29_24 h64_26 h73_28 h86_29 h136_34) _ rfl) (cwV 4 hts gX10_derive_X10_add rfl rfl rfl (by decide +kernel) ⟨Nat.le_of_ble_eq_true rfl, Nat.le_of_ble_eq_true rfl⟩) ⟨fb_M, va_recv hK.1 hP (ci := 10) (q0 := 0) rfl rfl, fun U hU hW => ⟨rfl, by rw [hU]; exact hP, hK.warm hW⟩⟩ rfl rfl hl.1 rfl (lv_room (Nat.le_of_ble_eq_true rfl)) dX10_derive_181 ⟨Nat.le_of_ble_eq_true rfl, Nat.le_of_ble_eq_true rfl⟩) hS (fun _ _ h => h) (fun _ h => h) (fun r9 u9 t9 H locs ht9 hv9 e9 hB9 hz9 hk9 hS => ?_)
              rw [ht9] at hB9
              subst e9
              have hP : va_P (dC, dI) vwCl (wM q k ((sp_X10_add (sA (sA (sI st 10 0) 24 ((st.1 7).toNatClampNeg) a2) 25 ((st.1 7).toNatClampNeg) a2) a1 (st.2.1 20 a2.toNatClampNeg) (st.2.1 21 a2.toNatClampNeg) ((st.2.1 22 a2.toNatClampNeg) ||| (st.2.1 22 a2.toNatClampNeg))).2)) H := hB9
              exact W.iret (v := (sp_X10_add (sA (sA (sI st 10 0) 24 ((st.1 7).toNatClampNeg) a2) 25 ((st.1 7).toNatClampNeg) a2) a1 (st.2.1 20 a2.toNatClampNeg) (st.2.1 21 a2.toNatClampNeg) ((st.2.1 22 a2.toNatClampNeg) ||| (st.2.1 22 a2.toNatClampNeg))).1) hx hb hr (fun t ht hW => ⟨⟨_, (), rfl, by show _ = Prod.fst _; rw [← he], by show va_P _ _ _ t.heap; rw [ht, ← he]; exact hP⟩, hS.F ht⟩) hS.2.2 dX10_derive_184
          · have he := (if_pos h86_29).symm.trans he
            refine lv_iconst (v := 3) hx hb dX10_derive_89 (by decide) ?_
            refine lv_goto (tgt := 94) hx hb dX10_derive_90 (by decide) ?_
            refine va_calli (va_runV (As := [.int 3]) (rest := []) ⟨hx, hb, hml, hown, hts⟩ (c_X10_says l dC dI q k st 3 hq _ rfl) (cwV 1 hts gX10_derive_X10_says rfl rfl rfl (by decide +kernel) ⟨Nat.le_of_ble_eq_true rfl, Nat.le_of_ble_eq_true rfl⟩) ⟨fb_M, va_recv hK.1 hP (ci := 10) (q0 := 0) rfl rfl, fun U hU hW => ⟨rfl, by rw [hU]; exact hP, hK.warm hW⟩⟩ rfl rfl hl.1 rfl (lv_room (Nat.le_of_ble_eq_true rfl)) dX10_derive_94 ⟨Nat.le_of_ble_eq_true rfl, Nat.le_of_ble_eq_true rfl⟩) hS (fun _ _ h => h) (fun _ h => h) (fun r9 u9 t9 H locs ht9 hv9 e9 hB9 hz9 hk9 hS => ?_)
            rw [ht9, says_2] at hB9
            replace e9 : r9 = 0 := e9.trans (saysV_3 _)
            subst e9
            have hP : va_P (dC, dI) vwCl (wM q k (sI st 10 3)) H := hB9
            refine lv_if_ne (tgt := 102) hx hb dX10_derive_97 (by decide) (fun h9 => absurd h9 (by decide)) (fun _ => ?_)
            refine lv_iconst (v := 0) hx hb dX10_derive_100 (by decide) ?_
            exact W.iret (v := 0) hx hb hr (fun t ht hW => ⟨⟨_, (), rfl, by show _ = Prod.fst _; rw [← he], by show va_P _ _ _ t.heap; rw [ht, ← he]; exact hP⟩, hS.F ht⟩) hS.2.2 dX10_derive_101
        · have he := (if_pos h73_28).symm.trans he
          refine lv_iconst (v := 1) hx hb dX10_derive_76 (by decide) ?_
          refine lv_goto (tgt := 94) hx hb dX10_derive_77 (by decide) ?_
          refine va_calli (va_runV (As := [.int 1]) (rest := []) ⟨hx, hb, hml, hown, hts⟩ (c_X10_says l dC dI q k st 1 hq _ rfl) (cwV 1 hts gX10_derive_X10_says rfl rfl rfl (by decide +kernel) ⟨Nat.le_of_ble_eq_true rfl, Nat.le_of_ble_eq_true rfl⟩) ⟨fb_M, va_recv hK.1 hP (ci := 10) (q0 := 0) rfl rfl, fun U hU hW => ⟨rfl, by rw [hU]; exact hP, hK.warm hW⟩⟩ rfl rfl hl.1 rfl (lv_room (Nat.le_of_ble_eq_true rfl)) dX10_derive_94 ⟨Nat.le_of_ble_eq_true rfl, Nat.le_of_ble_eq_true rfl⟩) hS (fun _ _ h => h) (fun _ h => h) (fun r9 u9 t9 H locs ht9 hv9 e9 hB9 hz9 hk9 hS => ?_)
          rw [ht9, says_2] at hB9
          replace e9 : r9 = 0 := e9.trans (saysV_1 _)
          subst e9
          have hP : va_P (dC, dI) vwCl (wM q k (sI st 10 1)) H := hB9
          refine lv_if_ne (tgt := 102) hx hb dX10_derive_97 (by decide) (fun h9 => absurd h9 (by decide)) (fun _ => ?_)
          refine lv_iconst (v := 0) hx hb dX10_derive_100 (by decide) ?_
          exact W.iret (v := 0) hx hb hr (fun t ht hW => ⟨⟨_, (), rfl, by show _ = Prod.fst _; rw [← he], by show va_P _ _ _ t.heap; rw [ht, ← he]; exact hP⟩, hS.F ht⟩) hS.2.2 dX10_derive_101
set_option maxHeartbeats 4000000 in
set_option maxRecDepth 100000 in
theorem c_X10_event (l : Launch) (dC : Nat → ClassId) (dI : Nat → Nat → Nat) (q : Nat → Nat) (k : Nat → ClassId) (st : St) (a1 : Int32) (a2 : Int32) (a3 : Int32) (hq : ∀ i j, i < 35 → j < 35 → q i = q j → i = j) (hok : okM st) (res : Int32 × St) (hres : sp_X10_event st a1 a2 a3 = res) : Met l yX10_event wsX10_event ({ frames := 2, cells := 0, slots := 0, locals := 43 } : Room) (va_Pc [.ref (q 0), .int a1, .int a2, .int a3] (fun U => va_P (dC, dI) vwCl (wM q k st) U.heap ∧ KM (dC, dI) k U)) (va_Qi (fun r (_ : Unit) => r = res.1) (fun _ t => va_P (dC, dI) vwCl (wM q k res.2) t.heap) (aM q)) 0 0 (aM q) := by
  refine Met.ofW (cc := cX10_event) (maxL := 4) (ret := (some .int)) (by decide) rfl ?_
  intro p e s m args below meth c s₁ B hml hv
  obtain ⟨rfl, hP, hK⟩ := hv
  have hx := B.exec
  have hb := B.bytes
  have hr := B.returns
  have hts := atoms_spec (ws := wsX10_event) B.pre
  have hown : s.vm.findClass RX10 = some m.cls := findClass_of_methodNamed B.named
  have hlocks := B.notSynchronized
  have hS : va_S (aM q) s.heap s.heap [] := va_S.rf
  have hi10 : ∀ w ∈ wsX100, w ∈ wsX10_event := by decide +kernel
  have hf85 := hts (.fieldLink RX10 85 "ConsentRegisterModel" "eventPerson" "[I") (by decide +kernel)
  have hf88 := hts (.fieldLink RX10 88 "ConsentRegisterModel" "eventKind" "[I") (by decide +kernel)
  have hf91 := hts (.fieldLink RX10 91 "ConsentRegisterModel" "eventDay" "[I") (by decide +kernel)
  have hf167 := hts (.fieldLink RX10 167 "ConsentRegisterModel" "events" "I") (by decide +kernel)
  have hl := lv_entry ([.ref (q 0), .int a1, .int a2, .int a3]) (n := 4) (Nat.le_of_ble_eq_true rfl)
  rw [lg_entry_eq]
  generalize (lg_sl ([.ref (q 0), .int a1, .int a2, .int a3]) ++ List.replicate (4 - (lg_sl ([.ref (q 0), .int a1, .int a2, .int a3])).length) Slot.unset).toArray = ls at hl ⊢
  have hl : lv_has ls 4 [(0, .ref (q 0)), (1, .int a1), (2, .int a2), (3, .int a3)] := hl
  have he := hres
  unfold sp_X10_event at he
  refine lv_aload_n hx hb dX10_event_0 rfl (lv_at hl 0 rfl) ?_
  refine lv_iload_n hx hb dX10_event_1 rfl (lv_at hl 1 rfl) ?_
  refine vp_callSi (va_Run.run (va_runS (As := [.int a1]) (rest := [.ref (q 0)]) ⟨hx, hb, hml, hown, hts⟩ (c_X10_isPerson l a1 _ rfl) (va_cwS 1 hts gX10_event_X10_isPerson rfl rfl rfl (by decide +kernel) ⟨Nat.le_of_ble_eq_true rfl, Nat.le_of_ble_eq_true rfl⟩) ⟨fb_T, fun U hU hW => ⟨rfl, trivial⟩⟩ rfl rfl hl.1 rfl (lv_room (Nat.le_of_ble_eq_true rfl)) dX10_event_2 ⟨Nat.le_of_ble_eq_true rfl, Nat.le_of_ble_eq_true rfl⟩)) (fun r9 e9 => ?_)
  subst e9
  refine lv_if_eq (tgt := 27) hx hb dX10_event_5 (by decide) (fun h5_1 => ?_) (fun h5_1 => ?_)
  · have he := (if_pos h5_1).symm.trans he
    refine lv_iconst (v := 1) hx hb dX10_event_27 (by decide) ?_
    refine lv_goto (tgt := 45) hx hb dX10_event_28 (by decide) ?_
    refine va_calli (va_runV (As := [.int 1]) (rest := []) ⟨hx, hb, hml, hown, hts⟩ (c_X10_says l dC dI q k st 1 hq _ rfl) (cwV 1 hts gX10_event_X10_says rfl rfl rfl (by decide +kernel) ⟨Nat.le_of_ble_eq_true rfl, Nat.le_of_ble_eq_true rfl⟩) ⟨fb_M, va_recv hK.1 hP (ci := 10) (q0 := 0) rfl rfl, fun U hU hW => ⟨rfl, by rw [hU]; exact hP, hK.warm hW⟩⟩ rfl rfl hl.1 rfl (lv_room (Nat.le_of_ble_eq_true rfl)) dX10_event_45 ⟨Nat.le_of_ble_eq_true rfl, Nat.le_of_ble_eq_true rfl⟩) hS (fun _ _ h => h) (fun _ h => h) (fun r9 u9 t9 H locs ht9 hv9 e9 hB9 hz9 hk9 hS => ?_)
    rw [ht9, says_2] at hB9
    replace e9 : r9 = 0 := e9.trans (saysV_1 _)
    subst e9
    have hP : va_P (dC, dI) vwCl (wM q k (sI st 10 1)) H := hB9
    refine lv_if_ne (tgt := 53) hx hb dX10_event_48 (by decide) (fun h9 => absurd h9 (by decide)) (fun _ => ?_)
    refine lv_iconst (v := 0) hx hb dX10_event_51 (by decide) ?_
    exact W.iret (v := 0) hx hb hr (fun t ht hW => ⟨⟨_, (), rfl, by show _ = Prod.fst _; rw [← he], by show va_P _ _ _ t.heap; rw [ht, ← he]; exact hP⟩, hS.F ht⟩) hS.2.2 dX10_event_52
  · have he := (if_neg h5_1).symm.trans he
    refine lv_aload_n hx hb dX10_event_8 rfl (lv_at hl 0 rfl) ?_
    refine lv_iload_n hx hb dX10_event_9 rfl (lv_at hl 2 rfl) ?_
    refine vp_callSi (va_Run.run (va_runV (As := [.int a2]) (rest := [.ref (q 0)]) ⟨hx, hb, hml, hown, hts⟩ (c_X10_isKind l dC dI q k st a2 _ rfl) (cwV 1 hts gX10_event_X10_isKind rfl rfl rfl (by decide +kernel) ⟨Nat.le_of_ble_eq_true rfl, Nat.le_of_ble_eq_true rfl⟩) ⟨fb_M, va_recv hK.1 hP (ci := 10) (q0 := 0) rfl rfl, fun U hU hW => ⟨rfl, by rw [hU]; exact hP, hK.warm hW⟩⟩ rfl rfl hl.1 rfl (lv_room (Nat.le_of_ble_eq_true rfl)) dX10_event_10 ⟨Nat.le_of_ble_eq_true rfl, Nat.le_of_ble_eq_true rfl⟩)) (fun r9 e9 => ?_)
    subst e9
    refine lv_if_eq (tgt := 27) hx hb dX10_event_13 (by decide) (fun h13_2 => ?_) (fun h13_2 => ?_)
    · have he := (if_pos h13_2).symm.trans he
      refine lv_iconst (v := 1) hx hb dX10_event_27 (by decide) ?_
      refine lv_goto (tgt := 45) hx hb dX10_event_28 (by decide) ?_
      refine va_calli (va_runV (As := [.int 1]) (rest := []) ⟨hx, hb, hml, hown, hts⟩ (c_X10_says l dC dI q k st 1 hq _ rfl) (cwV 1 hts gX10_event_X10_says rfl rfl rfl (by decide +kernel) ⟨Nat.le_of_ble_eq_true rfl, Nat.le_of_ble_eq_true rfl⟩) ⟨fb_M, va_recv hK.1 hP (ci := 10) (q0 := 0) rfl rfl, fun U hU hW => ⟨rfl, by rw [hU]; exact hP, hK.warm hW⟩⟩ rfl rfl hl.1 rfl (lv_room (Nat.le_of_ble_eq_true rfl)) dX10_event_45 ⟨Nat.le_of_ble_eq_true rfl, Nat.le_of_ble_eq_true rfl⟩) hS (fun _ _ h => h) (fun _ h => h) (fun r9 u9 t9 H locs ht9 hv9 e9 hB9 hz9 hk9 hS => ?_)
      rw [ht9, says_2] at hB9
      replace e9 : r9 = 0 := e9.trans (saysV_1 _)
      subst e9
      have hP : va_P (dC, dI) vwCl (wM q k (sI st 10 1)) H := hB9
      refine lv_if_ne (tgt := 53) hx hb dX10_event_48 (by decide) (fun h9 => absurd h9 (by decide)) (fun _ => ?_)
      refine lv_iconst (v := 0) hx hb dX10_event_51 (by decide) ?_
      exact W.iret (v := 0) hx hb hr (fun t ht hW => ⟨⟨_, (), rfl, by show _ = Prod.fst _; rw [← he], by show va_P _ _ _ t.heap; rw [ht, ← he]; exact hP⟩, hS.F ht⟩) hS.2.2 dX10_event_52
    · have he := (if_neg h13_2).symm.trans he
      refine lv_iload_n hx hb dX10_event_16 rfl (lv_at hl 3 rfl) ?_
      refine lv_iconst (v := 0) hx hb dX10_event_17 (by decide) ?_
      refine lv_sipush (v := 6944) hx hb dX10_event_18 (by decide) ?_
      refine vp_callSi (va_Run.run (va_runS (As := [.int a3, .int 0, .int 6944]) (rest := [.ref (q 0)]) ⟨hx, hb, hml, hown, hts⟩ (c_X10_in l a3 0 6944 _ rfl) (va_cwS 3 hts gX10_event_X10_in rfl rfl rfl (by decide +kernel) ⟨Nat.le_of_ble_eq_true rfl, Nat.le_of_ble_eq_true rfl⟩) ⟨fb_T, fun U hU hW => ⟨rfl, trivial⟩⟩ rfl rfl hl.1 rfl (lv_room (Nat.le_of_ble_eq_true rfl)) dX10_event_21 ⟨Nat.le_of_ble_eq_true rfl, Nat.le_of_ble_eq_true rfl⟩)) (fun r9 e9 => ?_)
      subst e9
      refine lv_if_ne (tgt := 31) hx hb dX10_event_24 (by decide) (fun h24_3 => ?_) (fun h24_3 => ?_)
      · have he := (if_neg h24_3).symm.trans he
        refine lv_aload_n hx hb dX10_event_31 rfl (lv_at hl 0 rfl) ?_
        refine va_get (D := (dC, dI)) (ci := 10) (v := .int (st.1 5)) (C := RX10) (T := TX10) (N := 45) hx hb hts hi10 hown hK.1 hP 0 rfl rfl 30 (by decide) hf167 (fun _ h9 => h9) rfl dX10_event_32 ?_
        refine lv_bipush (v := 60) hx hb dX10_event_35 (by decide) ?_
        refine lv_icmp_ne (tgt := 44) hx hb dX10_event_37 (by decide) (fun h37_4 => ?_) (fun h37_4 => ?_)
        · have he := (if_neg h37_4).symm.trans he
          refine lv_iconst (v := 0) hx hb dX10_event_44 (by decide) ?_
          refine va_calli (va_runV (As := [.int 0]) (rest := []) ⟨hx, hb, hml, hown, hts⟩ (c_X10_says l dC dI q k st 0 hq _ rfl) (cwV 1 hts gX10_event_X10_says rfl rfl rfl (by decide +kernel) ⟨Nat.le_of_ble_eq_true rfl, Nat.le_of_ble_eq_true rfl⟩) ⟨fb_M, va_recv hK.1 hP (ci := 10) (q0 := 0) rfl rfl, fun U hU hW => ⟨rfl, by rw [hU]; exact hP, hK.warm hW⟩⟩ rfl rfl hl.1 rfl (lv_room (Nat.le_of_ble_eq_true rfl)) dX10_event_45 ⟨Nat.le_of_ble_eq_true rfl, Nat.le_of_ble_eq_true rfl⟩) hS (fun _ _ h => h) (fun _ h => h) (fun r9 u9 t9 H locs ht9 hv9 e9 hB9 hz9 hk9 hS => ?_)
          rw [ht9, says_2] at hB9
          replace e9 : r9 = 1 := e9.trans (saysV_0 _)
          subst e9
          have hP : va_P (dC, dI) vwCl (wM q k (sI st 10 0)) H := hB9
          refine lv_if_ne (tgt := 53) hx hb dX10_event_48 (by decide) (fun _ => ?_) (fun h9 => absurd h9 (by decide))
          refine lv_aload_n hx hb dX10_event_53 rfl (lv_at hl 0 rfl) ?_
          refine va_get (D := (dC, dI)) (ci := 10) (v := .ref (q 14)) (C := RX10) (T := TX10) (N := 45) hx hb hts hi10 hown hK.1 hP 0 rfl rfl 31 (by decide) hf85 (fun _ h9 => h9) rfl dX10_event_54 ?_
          refine lv_aload_n hx hb dX10_event_57 rfl (lv_at hl 0 rfl) ?_
          refine va_get (D := (dC, dI)) (ci := 10) (v := .int (st.1 5)) (C := RX10) (T := TX10) (N := 45) hx hb hts hi10 hown hK.1 hP 0 rfl rfl 30 (by decide) hf167 (fun _ h9 => h9) rfl dX10_event_58 ?_
          refine lv_iload_n hx hb dX10_event_61 rfl (lv_at hl 1 rfl) ?_
          refine va_iast hx hb hK.1 hP (dM_of hq) hS 14 13 (f := st.2.1 13) (n := 60) (cA := k 13) rfl rfl (i := st.1 5) (x := a1) (ob_X10_event_62_5 st a1 a2 a3 hok h5_1 h13_2 h24_3 h37_4) dX10_event_62 (fun H locs hP _ hS => ?_)
          have hP : va_P (dC, dI) vwCl (wM q k (sA (sI st 10 0) 13 ((st.1 5).toNatClampNeg) a1)) H := hP
          refine lv_aload_n hx hb dX10_event_63 rfl (lv_at hl 0 rfl) ?_
          refine va_get (D := (dC, dI)) (ci := 10) (v := .ref (q 15)) (C := RX10) (T := TX10) (N := 45) hx hb hts hi10 hown hK.1 hP 0 rfl rfl 32 (by decide) hf88 (fun _ h9 => h9) rfl dX10_event_64 ?_
          refine lv_aload_n hx hb dX10_event_67 rfl (lv_at hl 0 rfl) ?_
          refine va_get (D := (dC, dI)) (ci := 10) (v := .int (st.1 5)) (C := RX10) (T := TX10) (N := 45) hx hb hts hi10 hown hK.1 hP 0 rfl rfl 30 (by decide) hf167 (fun _ h9 => h9) rfl dX10_event_68 ?_
          refine lv_iload_n hx hb dX10_event_71 rfl (lv_at hl 2 rfl) ?_
          refine va_iast hx hb hK.1 hP (dM_of hq) hS 15 14 (f := st.2.1 14) (n := 60) (cA := k 14) rfl rfl (i := st.1 5) (x := a2) (ob_X10_event_72_6 st a1 a2 a3 hok h5_1 h13_2 h24_3 h37_4) dX10_event_72 (fun H locs hP _ hS => ?_)
          have hP : va_P (dC, dI) vwCl (wM q k (sA (sA (sI st 10 0) 13 ((st.1 5).toNatClampNeg) a1) 14 ((st.1 5).toNatClampNeg) a2)) H := hP
          refine lv_aload_n hx hb dX10_event_73 rfl (lv_at hl 0 rfl) ?_
          refine va_get (D := (dC, dI)) (ci := 10) (v := .ref (q 16)) (C := RX10) (T := TX10) (N := 45) hx hb hts hi10 hown hK.1 hP 0 rfl rfl 33 (by decide) hf91 (fun _ h9 => h9) rfl dX10_event_74 ?_
          refine lv_aload_n hx hb dX10_event_77 rfl (lv_at hl 0 rfl) ?_
          refine va_get (D := (dC, dI)) (ci := 10) (v := .int (st.1 5)) (C := RX10) (T := TX10) (N := 45) hx hb hts hi10 hown hK.1 hP 0 rfl rfl 30 (by decide) hf167 (fun _ h9 => h9) rfl dX10_event_78 ?_
          refine lv_iload_n hx hb dX10_event_81 rfl (lv_at hl 3 rfl) ?_
          refine va_iast hx hb hK.1 hP (dM_of hq) hS 16 15 (f := st.2.1 15) (n := 60) (cA := k 15) rfl rfl (i := st.1 5) (x := a3) (ob_X10_event_82_7 st a1 a2 a3 hok h5_1 h13_2 h24_3 h37_4) dX10_event_82 (fun H locs hP _ hS => ?_)
          have hP : va_P (dC, dI) vwCl (wM q k (sA (sA (sA (sI st 10 0) 13 ((st.1 5).toNatClampNeg) a1) 14 ((st.1 5).toNatClampNeg) a2) 15 ((st.1 5).toNatClampNeg) a3)) H := hP
          refine lv_aload_n hx hb dX10_event_83 rfl (lv_at hl 0 rfl) ?_
          refine lv_dup hx hb dX10_event_84 rfl ?_
          refine va_get (D := (dC, dI)) (ci := 10) (v := .int (st.1 5)) (C := RX10) (T := TX10) (N := 45) hx hb hts hi10 hown hK.1 hP 0 rfl rfl 30 (by decide) hf167 (fun _ h9 => h9) rfl dX10_event_85 ?_
          refine lv_iconst (v := 1) hx hb dX10_event_88 (by decide) ?_
          refine lv_iadd hx hb dX10_event_89 ?_
          refine va_put (D := (dC, dI)) (ci := 10) (v := .int ((st.1 5) + 1)) (ty := .int) (C := RX10) (T := TX10) (N := 45) hx hb hts hi10 tyX10 tyX10_ok nmX10 hown hK.1 hP (dM_of hq) hS 0 rfl rfl 30 (by decide) hf167 (fun _ h9 => h9) rfl (by decide +kernel) rfl rfl (Nat.le_of_ble_eq_true rfl) dX10_event_90 (fun H locs hP _ hS => ?_)
          have hP : va_P (dC, dI) vwCl (wM q k (sI (sA (sA (sA (sI st 10 0) 13 ((st.1 5).toNatClampNeg) a1) 14 ((st.1 5).toNatClampNeg) a2) 15 ((st.1 5).toNatClampNeg) a3) 5 ((st.1 5) + 1))) H := hP
          refine lv_aload_n hx hb dX10_event_93 rfl (lv_at hl 0 rfl) ?_
          refine va_get (D := (dC, dI)) (ci := 10) (v := .int ((st.1 5) + 1)) (C := RX10) (T := TX10) (N := 45) hx hb hts hi10 hown hK.1 hP 0 rfl rfl 30 (by decide) hf167 (fun _ h9 => h9) rfl dX10_event_94 ?_
          exact W.iret (v := (st.1 5) + 1) hx hb hr (fun t ht hW => ⟨⟨_, (), rfl, by show _ = Prod.fst _; rw [← he], by show va_P _ _ _ t.heap; rw [ht, ← he]; exact hP⟩, hS.F ht⟩) hS.2.2 dX10_event_97
        · have he := (if_pos h37_4).symm.trans he
          refine lv_iconst (v := 2) hx hb dX10_event_40 (by decide) ?_
          refine lv_goto (tgt := 45) hx hb dX10_event_41 (by decide) ?_
          refine va_calli (va_runV (As := [.int 2]) (rest := []) ⟨hx, hb, hml, hown, hts⟩ (c_X10_says l dC dI q k st 2 hq _ rfl) (cwV 1 hts gX10_event_X10_says rfl rfl rfl (by decide +kernel) ⟨Nat.le_of_ble_eq_true rfl, Nat.le_of_ble_eq_true rfl⟩) ⟨fb_M, va_recv hK.1 hP (ci := 10) (q0 := 0) rfl rfl, fun U hU hW => ⟨rfl, by rw [hU]; exact hP, hK.warm hW⟩⟩ rfl rfl hl.1 rfl (lv_room (Nat.le_of_ble_eq_true rfl)) dX10_event_45 ⟨Nat.le_of_ble_eq_true rfl, Nat.le_of_ble_eq_true rfl⟩) hS (fun _ _ h => h) (fun _ h => h) (fun r9 u9 t9 H locs ht9 hv9 e9 hB9 hz9 hk9 hS => ?_)
          rw [ht9, says_2] at hB9
          replace e9 : r9 = 0 := e9.trans (saysV_2 _)
          subst e9
          have hP : va_P (dC, dI) vwCl (wM q k (sI st 10 2)) H := hB9
          refine lv_if_ne (tgt := 53) hx hb dX10_event_48 (by decide) (fun h9 => absurd h9 (by decide)) (fun _ => ?_)
          refine lv_iconst (v := 0) hx hb dX10_event_51 (by decide) ?_
          exact W.iret (v := 0) hx hb hr (fun t ht hW => ⟨⟨_, (), rfl, by show _ = Prod.fst _; rw [← he], by show va_P _ _ _ t.heap; rw [ht, ← he]; exact hP⟩, hS.F ht⟩) hS.2.2 dX10_event_52
      · have he := (if_pos h24_3).symm.trans he
        refine lv_iconst (v := 1) hx hb dX10_event_27 (by decide) ?_
        refine lv_goto (tgt := 45) hx hb dX10_event_28 (by decide) ?_
        refine va_calli (va_runV (As := [.int 1]) (rest := []) ⟨hx, hb, hml, hown, hts⟩ (c_X10_says l dC dI q k st 1 hq _ rfl) (cwV 1 hts gX10_event_X10_says rfl rfl rfl (by decide +kernel) ⟨Nat.le_of_ble_eq_true rfl, Nat.le_of_ble_eq_true rfl⟩) ⟨fb_M, va_recv hK.1 hP (ci := 10) (q0 := 0) rfl rfl, fun U hU hW => ⟨rfl, by rw [hU]; exact hP, hK.warm hW⟩⟩ rfl rfl hl.1 rfl (lv_room (Nat.le_of_ble_eq_true rfl)) dX10_event_45 ⟨Nat.le_of_ble_eq_true rfl, Nat.le_of_ble_eq_true rfl⟩) hS (fun _ _ h => h) (fun _ h => h) (fun r9 u9 t9 H locs ht9 hv9 e9 hB9 hz9 hk9 hS => ?_)
        rw [ht9, says_2] at hB9
        replace e9 : r9 = 0 := e9.trans (saysV_1 _)
        subst e9
        have hP : va_P (dC, dI) vwCl (wM q k (sI st 10 1)) H := hB9
        refine lv_if_ne (tgt := 53) hx hb dX10_event_48 (by decide) (fun h9 => absurd h9 (by decide)) (fun _ => ?_)
        refine lv_iconst (v := 0) hx hb dX10_event_51 (by decide) ?_
        exact W.iret (v := 0) hx hb hr (fun t ht hW => ⟨⟨_, (), rfl, by show _ = Prod.fst _; rw [← he], by show va_P _ _ _ t.heap; rw [ht, ← he]; exact hP⟩, hS.F ht⟩) hS.2.2 dX10_event_52
set_option maxHeartbeats 4000000 in
set_option maxRecDepth 100000 in
theorem c_X10_hold (l : Launch) (dC : Nat → ClassId) (dI : Nat → Nat → Nat) (q : Nat → Nat) (k : Nat → ClassId) (st : St) (a1 : Int32) (a2 : Int32) (a3 : Int32) (hq : ∀ i j, i < 35 → j < 35 → q i = q j → i = j) (hok : okM st) (res : Int32 × St) (hres : sp_X10_hold st a1 a2 a3 = res) : Met l yX10_hold wsX10_hold ({ frames := 2, cells := 0, slots := 0, locals := 43 } : Room) (va_Pc [.ref (q 0), .int a1, .int a2, .int a3] (fun U => va_P (dC, dI) vwCl (wM q k st) U.heap ∧ KM (dC, dI) k U)) (va_Qi (fun r (_ : Unit) => r = res.1) (fun _ t => va_P (dC, dI) vwCl (wM q k res.2) t.heap) (aM q)) 0 0 (aM q) := by
  refine Met.ofW (cc := cX10_hold) (maxL := 5) (ret := (some .int)) (by decide) rfl ?_
  intro p e s m args below meth c s₁ B hml hv
  obtain ⟨rfl, hP, hK⟩ := hv
  have hx := B.exec
  have hb := B.bytes
  have hr := B.returns
  have hts := atoms_spec (ws := wsX10_hold) B.pre
  have hown : s.vm.findClass RX10 = some m.cls := findClass_of_methodNamed B.named
  have hlocks := B.notSynchronized
  have hS : va_S (aM q) s.heap s.heap [] := va_S.rf
  have hi10 : ∀ w ∈ wsX100, w ∈ wsX10_hold := by decide +kernel
  have hf94 := hts (.fieldLink RX10 94 "ConsentRegisterModel" "holdOf" "[I") (by decide +kernel)
  have hf97 := hts (.fieldLink RX10 97 "ConsentRegisterModel" "holdPurpose" "[I") (by decide +kernel)
  have hf100 := hts (.fieldLink RX10 100 "ConsentRegisterModel" "holdFrom" "[I") (by decide +kernel)
  have hf103 := hts (.fieldLink RX10 103 "ConsentRegisterModel" "holdLifted" "[I") (by decide +kernel)
  have hf170 := hts (.fieldLink RX10 170 "ConsentRegisterModel" "holds" "I") (by decide +kernel)
  have hl := lv_entry ([.ref (q 0), .int a1, .int a2, .int a3]) (n := 5) (Nat.le_of_ble_eq_true rfl)
  rw [lg_entry_eq]
  generalize (lg_sl ([.ref (q 0), .int a1, .int a2, .int a3]) ++ List.replicate (5 - (lg_sl ([.ref (q 0), .int a1, .int a2, .int a3])).length) Slot.unset).toArray = ls at hl ⊢
  have hl : lv_has ls 5 [(0, .ref (q 0)), (1, .int a1), (2, .int a2), (3, .int a3)] := hl
  have he := hres
  unfold sp_X10_hold at he
  refine lv_iload_n hx hb dX10_hold_0 rfl (lv_at hl 1 rfl) ?_
  refine vp_callSi (va_Run.run (va_runS (As := [.int a1]) (rest := []) ⟨hx, hb, hml, hown, hts⟩ (c_X10_isPerson l a1 _ rfl) (va_cwS 1 hts gX10_hold_X10_isPerson rfl rfl rfl (by decide +kernel) ⟨Nat.le_of_ble_eq_true rfl, Nat.le_of_ble_eq_true rfl⟩) ⟨fb_T, fun U hU hW => ⟨rfl, trivial⟩⟩ rfl rfl hl.1 rfl (lv_room (Nat.le_of_ble_eq_true rfl)) dX10_hold_1 ⟨Nat.le_of_ble_eq_true rfl, Nat.le_of_ble_eq_true rfl⟩)) (fun r9 e9 => ?_)
  subst e9
  refine lv_if_ne (tgt := 24) hx hb dX10_hold_4 (by decide) (fun h4_1 => ?_) (fun h4_1 => ?_)
  · have he := (if_neg h4_1).symm.trans he
    refine lv_aload_n hx hb dX10_hold_24 rfl (lv_at hl 0 rfl) ?_
    refine lv_iload_n hx hb dX10_hold_25 rfl (lv_at hl 2 rfl) ?_
    refine vp_callSi (va_Run.run (va_runV (As := [.int a2]) (rest := []) ⟨hx, hb, hml, hown, hts⟩ (c_X10_isPurpose l dC dI q k st a2 _ rfl) (cwV 1 hts gX10_hold_X10_isPurpose rfl rfl rfl (by decide +kernel) ⟨Nat.le_of_ble_eq_true rfl, Nat.le_of_ble_eq_true rfl⟩) ⟨fb_M, va_recv hK.1 hP (ci := 10) (q0 := 0) rfl rfl, fun U hU hW => ⟨rfl, by rw [hU]; exact hP, hK.warm hW⟩⟩ rfl rfl hl.1 rfl (lv_room (Nat.le_of_ble_eq_true rfl)) dX10_hold_26 ⟨Nat.le_of_ble_eq_true rfl, Nat.le_of_ble_eq_true rfl⟩)) (fun r9 e9 => ?_)
    subst e9
    refine lv_if_eq (tgt := 47) hx hb dX10_hold_29 (by decide) (fun h29_2 => ?_) (fun h29_2 => ?_)
    · have he := (if_pos h29_2).symm.trans he
      refine lv_iconst (v := 0) hx hb dX10_hold_47 (by decide) ?_
      refine lv_istore (lv' := [(4, .int 0), (0, .ref (q 0)), (1, .int a1), (2, .int a2), (3, .int a3)]) hx hb dX10_hold_48 hl (by decide) rfl (fun ls hl => ?_)
      refine lv_aload_n hx hb dX10_hold_50 rfl (lv_at hl 1 rfl) ?_
      refine lv_iload hx hb dX10_hold_51 (lv_at hl 0 rfl) ?_
      refine lv_if_ne (tgt := 60) hx hb dX10_hold_53 (by decide) (fun h9 => absurd h9 (by decide)) (fun _ => ?_)
      refine lv_iconst (v := 1) hx hb dX10_hold_56 (by decide) ?_
      refine lv_goto (tgt := 74) hx hb dX10_hold_57 (by decide) ?_
      refine va_calli (va_runV (As := [.int 1]) (rest := []) ⟨hx, hb, hml, hown, hts⟩ (c_X10_says l dC dI q k st 1 hq _ rfl) (cwV 1 hts gX10_hold_X10_says rfl rfl rfl (by decide +kernel) ⟨Nat.le_of_ble_eq_true rfl, Nat.le_of_ble_eq_true rfl⟩) ⟨fb_M, va_recv hK.1 hP (ci := 10) (q0 := 0) rfl rfl, fun U hU hW => ⟨rfl, by rw [hU]; exact hP, hK.warm hW⟩⟩ rfl rfl hl.1 rfl (lv_room (Nat.le_of_ble_eq_true rfl)) dX10_hold_74 ⟨Nat.le_of_ble_eq_true rfl, Nat.le_of_ble_eq_true rfl⟩) hS (fun _ _ h => h) (fun _ h => h) (fun r9 u9 t9 H locs ht9 hv9 e9 hB9 hz9 hk9 hS => ?_)
      rw [ht9, says_2] at hB9
      replace e9 : r9 = 0 := e9.trans (saysV_1 _)
      subst e9
      have hP : va_P (dC, dI) vwCl (wM q k (sI st 10 1)) H := hB9
      refine lv_if_ne (tgt := 82) hx hb dX10_hold_77 (by decide) (fun h9 => absurd h9 (by decide)) (fun _ => ?_)
      refine lv_iconst (v := 0) hx hb dX10_hold_80 (by decide) ?_
      exact W.iret (v := 0) hx hb hr (fun t ht hW => ⟨⟨_, (), rfl, by show _ = Prod.fst _; rw [← he], by show va_P _ _ _ t.heap; rw [ht, ← he]; exact hP⟩, hS.F ht⟩) hS.2.2 dX10_hold_81
    · have he := (if_neg h29_2).symm.trans he
      refine lv_iload_n hx hb dX10_hold_32 rfl (lv_at hl 3 rfl) ?_
      refine lv_iconst (v := 0) hx hb dX10_hold_33 (by decide) ?_
      refine lv_sipush (v := 6944) hx hb dX10_hold_34 (by decide) ?_
      refine vp_callSi (va_Run.run (va_runS (As := [.int a3, .int 0, .int 6944]) (rest := []) ⟨hx, hb, hml, hown, hts⟩ (c_X10_in l a3 0 6944 _ rfl) (va_cwS 3 hts gX10_hold_X10_in rfl rfl rfl (by decide +kernel) ⟨Nat.le_of_ble_eq_true rfl, Nat.le_of_ble_eq_true rfl⟩) ⟨fb_T, fun U hU hW => ⟨rfl, trivial⟩⟩ rfl rfl hl.1 rfl (lv_room (Nat.le_of_ble_eq_true rfl)) dX10_hold_37 ⟨Nat.le_of_ble_eq_true rfl, Nat.le_of_ble_eq_true rfl⟩)) (fun r9 e9 => ?_)
      subst e9
      refine lv_if_eq (tgt := 47) hx hb dX10_hold_40 (by decide) (fun h40_3 => ?_) (fun h40_3 => ?_)
      · have he := (if_pos h40_3).symm.trans he
        refine lv_iconst (v := 0) hx hb dX10_hold_47 (by decide) ?_
        refine lv_istore (lv' := [(4, .int 0), (0, .ref (q 0)), (1, .int a1), (2, .int a2), (3, .int a3)]) hx hb dX10_hold_48 hl (by decide) rfl (fun ls hl => ?_)
        refine lv_aload_n hx hb dX10_hold_50 rfl (lv_at hl 1 rfl) ?_
        refine lv_iload hx hb dX10_hold_51 (lv_at hl 0 rfl) ?_
        refine lv_if_ne (tgt := 60) hx hb dX10_hold_53 (by decide) (fun h9 => absurd h9 (by decide)) (fun _ => ?_)
        refine lv_iconst (v := 1) hx hb dX10_hold_56 (by decide) ?_
        refine lv_goto (tgt := 74) hx hb dX10_hold_57 (by decide) ?_
        refine va_calli (va_runV (As := [.int 1]) (rest := []) ⟨hx, hb, hml, hown, hts⟩ (c_X10_says l dC dI q k st 1 hq _ rfl) (cwV 1 hts gX10_hold_X10_says rfl rfl rfl (by decide +kernel) ⟨Nat.le_of_ble_eq_true rfl, Nat.le_of_ble_eq_true rfl⟩) ⟨fb_M, va_recv hK.1 hP (ci := 10) (q0 := 0) rfl rfl, fun U hU hW => ⟨rfl, by rw [hU]; exact hP, hK.warm hW⟩⟩ rfl rfl hl.1 rfl (lv_room (Nat.le_of_ble_eq_true rfl)) dX10_hold_74 ⟨Nat.le_of_ble_eq_true rfl, Nat.le_of_ble_eq_true rfl⟩) hS (fun _ _ h => h) (fun _ h => h) (fun r9 u9 t9 H locs ht9 hv9 e9 hB9 hz9 hk9 hS => ?_)
        rw [ht9, says_2] at hB9
        replace e9 : r9 = 0 := e9.trans (saysV_1 _)
        subst e9
        have hP : va_P (dC, dI) vwCl (wM q k (sI st 10 1)) H := hB9
        refine lv_if_ne (tgt := 82) hx hb dX10_hold_77 (by decide) (fun h9 => absurd h9 (by decide)) (fun _ => ?_)
        refine lv_iconst (v := 0) hx hb dX10_hold_80 (by decide) ?_
        exact W.iret (v := 0) hx hb hr (fun t ht hW => ⟨⟨_, (), rfl, by show _ = Prod.fst _; rw [← he], by show va_P _ _ _ t.heap; rw [ht, ← he]; exact hP⟩, hS.F ht⟩) hS.2.2 dX10_hold_81
      · have he := (if_neg h40_3).symm.trans he
        refine lv_iconst (v := 1) hx hb dX10_hold_43 (by decide) ?_
        refine lv_goto (tgt := 48) hx hb dX10_hold_44 (by decide) ?_
        refine lv_istore (lv' := [(4, .int 1), (0, .ref (q 0)), (1, .int a1), (2, .int a2), (3, .int a3)]) hx hb dX10_hold_48 hl (by decide) rfl (fun ls hl => ?_)
        refine lv_aload_n hx hb dX10_hold_50 rfl (lv_at hl 1 rfl) ?_
        refine lv_iload hx hb dX10_hold_51 (lv_at hl 0 rfl) ?_
        refine lv_if_ne (tgt := 60) hx hb dX10_hold_53 (by decide) (fun _ => ?_) (fun h9 => absurd h9 (by decide))
        refine lv_aload_n hx hb dX10_hold_60 rfl (lv_at hl 1 rfl) ?_
        refine va_get (D := (dC, dI)) (ci := 10) (v := .int (st.1 6)) (C := RX10) (T := TX10) (N := 45) hx hb hts hi10 hown hK.1 hP 0 rfl rfl 34 (by decide) hf170 (fun _ h9 => h9) rfl dX10_hold_61 ?_
        refine lv_bipush (v := 30) hx hb dX10_hold_64 (by decide) ?_
        refine lv_icmp_ne (tgt := 73) hx hb dX10_hold_66 (by decide) (fun h66_4 => ?_) (fun h66_4 => ?_)
        · have he := (if_neg h66_4).symm.trans he
          refine lv_iconst (v := 0) hx hb dX10_hold_73 (by decide) ?_
          refine va_calli (va_runV (As := [.int 0]) (rest := []) ⟨hx, hb, hml, hown, hts⟩ (c_X10_says l dC dI q k st 0 hq _ rfl) (cwV 1 hts gX10_hold_X10_says rfl rfl rfl (by decide +kernel) ⟨Nat.le_of_ble_eq_true rfl, Nat.le_of_ble_eq_true rfl⟩) ⟨fb_M, va_recv hK.1 hP (ci := 10) (q0 := 0) rfl rfl, fun U hU hW => ⟨rfl, by rw [hU]; exact hP, hK.warm hW⟩⟩ rfl rfl hl.1 rfl (lv_room (Nat.le_of_ble_eq_true rfl)) dX10_hold_74 ⟨Nat.le_of_ble_eq_true rfl, Nat.le_of_ble_eq_true rfl⟩) hS (fun _ _ h => h) (fun _ h => h) (fun r9 u9 t9 H locs ht9 hv9 e9 hB9 hz9 hk9 hS => ?_)
          rw [ht9, says_2] at hB9
          replace e9 : r9 = 1 := e9.trans (saysV_0 _)
          subst e9
          have hP : va_P (dC, dI) vwCl (wM q k (sI st 10 0)) H := hB9
          refine lv_if_ne (tgt := 82) hx hb dX10_hold_77 (by decide) (fun _ => ?_) (fun h9 => absurd h9 (by decide))
          refine lv_aload_n hx hb dX10_hold_82 rfl (lv_at hl 1 rfl) ?_
          refine va_get (D := (dC, dI)) (ci := 10) (v := .ref (q 17)) (C := RX10) (T := TX10) (N := 45) hx hb hts hi10 hown hK.1 hP 0 rfl rfl 35 (by decide) hf94 (fun _ h9 => h9) rfl dX10_hold_83 ?_
          refine lv_aload_n hx hb dX10_hold_86 rfl (lv_at hl 1 rfl) ?_
          refine va_get (D := (dC, dI)) (ci := 10) (v := .int (st.1 6)) (C := RX10) (T := TX10) (N := 45) hx hb hts hi10 hown hK.1 hP 0 rfl rfl 34 (by decide) hf170 (fun _ h9 => h9) rfl dX10_hold_87 ?_
          refine lv_iload_n hx hb dX10_hold_90 rfl (lv_at hl 2 rfl) ?_
          refine va_iast hx hb hK.1 hP (dM_of hq) hS 17 16 (f := st.2.1 16) (n := 30) (cA := k 16) rfl rfl (i := st.1 6) (x := a1) (ob_X10_hold_91_5 st a1 a2 a3 hok h4_1 h29_2 h40_3 h66_4) dX10_hold_91 (fun H locs hP _ hS => ?_)
          have hP : va_P (dC, dI) vwCl (wM q k (sA (sI st 10 0) 16 ((st.1 6).toNatClampNeg) a1)) H := hP
          refine lv_aload_n hx hb dX10_hold_92 rfl (lv_at hl 1 rfl) ?_
          refine va_get (D := (dC, dI)) (ci := 10) (v := .ref (q 18)) (C := RX10) (T := TX10) (N := 45) hx hb hts hi10 hown hK.1 hP 0 rfl rfl 36 (by decide) hf97 (fun _ h9 => h9) rfl dX10_hold_93 ?_
          refine lv_aload_n hx hb dX10_hold_96 rfl (lv_at hl 1 rfl) ?_
          refine va_get (D := (dC, dI)) (ci := 10) (v := .int (st.1 6)) (C := RX10) (T := TX10) (N := 45) hx hb hts hi10 hown hK.1 hP 0 rfl rfl 34 (by decide) hf170 (fun _ h9 => h9) rfl dX10_hold_97 ?_
          refine lv_iload_n hx hb dX10_hold_100 rfl (lv_at hl 3 rfl) ?_
          refine va_iast hx hb hK.1 hP (dM_of hq) hS 18 17 (f := st.2.1 17) (n := 30) (cA := k 17) rfl rfl (i := st.1 6) (x := a2) (ob_X10_hold_101_6 st a1 a2 a3 hok h4_1 h29_2 h40_3 h66_4) dX10_hold_101 (fun H locs hP _ hS => ?_)
          have hP : va_P (dC, dI) vwCl (wM q k (sA (sA (sI st 10 0) 16 ((st.1 6).toNatClampNeg) a1) 17 ((st.1 6).toNatClampNeg) a2)) H := hP
          refine lv_aload_n hx hb dX10_hold_102 rfl (lv_at hl 1 rfl) ?_
          refine va_get (D := (dC, dI)) (ci := 10) (v := .ref (q 19)) (C := RX10) (T := TX10) (N := 45) hx hb hts hi10 hown hK.1 hP 0 rfl rfl 37 (by decide) hf100 (fun _ h9 => h9) rfl dX10_hold_103 ?_
          refine lv_aload_n hx hb dX10_hold_106 rfl (lv_at hl 1 rfl) ?_
          refine va_get (D := (dC, dI)) (ci := 10) (v := .int (st.1 6)) (C := RX10) (T := TX10) (N := 45) hx hb hts hi10 hown hK.1 hP 0 rfl rfl 34 (by decide) hf170 (fun _ h9 => h9) rfl dX10_hold_107 ?_
          refine lv_iload_n hx hb dX10_hold_110 rfl (lv_at hl 4 rfl) ?_
          refine va_iast hx hb hK.1 hP (dM_of hq) hS 19 18 (f := st.2.1 18) (n := 30) (cA := k 18) rfl rfl (i := st.1 6) (x := a3) (ob_X10_hold_111_7 st a1 a2 a3 hok h4_1 h29_2 h40_3 h66_4) dX10_hold_111 (fun H locs hP _ hS => ?_)
          have hP : va_P (dC, dI) vwCl (wM q k (sA (sA (sA (sI st 10 0) 16 ((st.1 6).toNatClampNeg) a1) 17 ((st.1 6).toNatClampNeg) a2) 18 ((st.1 6).toNatClampNeg) a3)) H := hP
          refine lv_aload_n hx hb dX10_hold_112 rfl (lv_at hl 1 rfl) ?_
          refine va_get (D := (dC, dI)) (ci := 10) (v := .ref (q 20)) (C := RX10) (T := TX10) (N := 45) hx hb hts hi10 hown hK.1 hP 0 rfl rfl 38 (by decide) hf103 (fun _ h9 => h9) rfl dX10_hold_113 ?_
          refine lv_aload_n hx hb dX10_hold_116 rfl (lv_at hl 1 rfl) ?_
          refine va_get (D := (dC, dI)) (ci := 10) (v := .int (st.1 6)) (C := RX10) (T := TX10) (N := 45) hx hb hts hi10 hown hK.1 hP 0 rfl rfl 34 (by decide) hf170 (fun _ h9 => h9) rfl dX10_hold_117 ?_
          refine lv_iconst (v := (-1)) hx hb dX10_hold_120 (by decide) ?_
          refine va_iast hx hb hK.1 hP (dM_of hq) hS 20 19 (f := st.2.1 19) (n := 30) (cA := k 19) rfl rfl (i := st.1 6) (x := (-1)) (ob_X10_hold_121_8 st a1 a2 a3 hok h4_1 h29_2 h40_3 h66_4) dX10_hold_121 (fun H locs hP _ hS => ?_)
          have hP : va_P (dC, dI) vwCl (wM q k (sA (sA (sA (sA (sI st 10 0) 16 ((st.1 6).toNatClampNeg) a1) 17 ((st.1 6).toNatClampNeg) a2) 18 ((st.1 6).toNatClampNeg) a3) 19 ((st.1 6).toNatClampNeg) (-1))) H := hP
          refine lv_aload_n hx hb dX10_hold_122 rfl (lv_at hl 1 rfl) ?_
          refine lv_dup hx hb dX10_hold_123 rfl ?_
          refine va_get (D := (dC, dI)) (ci := 10) (v := .int (st.1 6)) (C := RX10) (T := TX10) (N := 45) hx hb hts hi10 hown hK.1 hP 0 rfl rfl 34 (by decide) hf170 (fun _ h9 => h9) rfl dX10_hold_124 ?_
          refine lv_iconst (v := 1) hx hb dX10_hold_127 (by decide) ?_
          refine lv_iadd hx hb dX10_hold_128 ?_
          refine va_put (D := (dC, dI)) (ci := 10) (v := .int ((st.1 6) + 1)) (ty := .int) (C := RX10) (T := TX10) (N := 45) hx hb hts hi10 tyX10 tyX10_ok nmX10 hown hK.1 hP (dM_of hq) hS 0 rfl rfl 34 (by decide) hf170 (fun _ h9 => h9) rfl (by decide +kernel) rfl rfl (Nat.le_of_ble_eq_true rfl) dX10_hold_129 (fun H locs hP _ hS => ?_)
          have hP : va_P (dC, dI) vwCl (wM q k (sI (sA (sA (sA (sA (sI st 10 0) 16 ((st.1 6).toNatClampNeg) a1) 17 ((st.1 6).toNatClampNeg) a2) 18 ((st.1 6).toNatClampNeg) a3) 19 ((st.1 6).toNatClampNeg) (-1)) 6 ((st.1 6) + 1))) H := hP
          refine lv_aload_n hx hb dX10_hold_132 rfl (lv_at hl 1 rfl) ?_
          refine va_get (D := (dC, dI)) (ci := 10) (v := .int ((st.1 6) + 1)) (C := RX10) (T := TX10) (N := 45) hx hb hts hi10 hown hK.1 hP 0 rfl rfl 34 (by decide) hf170 (fun _ h9 => h9) rfl dX10_hold_133 ?_
          refine lv_iconst (v := 1) hx hb dX10_hold_136 (by decide) ?_
          refine lv_isub hx hb dX10_hold_137 ?_
          exact W.iret (v := ((st.1 6) + 1) - 1) hx hb hr (fun t ht hW => ⟨⟨_, (), rfl, by show _ = Prod.fst _; rw [← he], by show va_P _ _ _ t.heap; rw [ht, ← he]; exact hP⟩, hS.F ht⟩) hS.2.2 dX10_hold_138
        · have he := (if_pos h66_4).symm.trans he
          refine lv_iconst (v := 2) hx hb dX10_hold_69 (by decide) ?_
          refine lv_goto (tgt := 74) hx hb dX10_hold_70 (by decide) ?_
          refine va_calli (va_runV (As := [.int 2]) (rest := []) ⟨hx, hb, hml, hown, hts⟩ (c_X10_says l dC dI q k st 2 hq _ rfl) (cwV 1 hts gX10_hold_X10_says rfl rfl rfl (by decide +kernel) ⟨Nat.le_of_ble_eq_true rfl, Nat.le_of_ble_eq_true rfl⟩) ⟨fb_M, va_recv hK.1 hP (ci := 10) (q0 := 0) rfl rfl, fun U hU hW => ⟨rfl, by rw [hU]; exact hP, hK.warm hW⟩⟩ rfl rfl hl.1 rfl (lv_room (Nat.le_of_ble_eq_true rfl)) dX10_hold_74 ⟨Nat.le_of_ble_eq_true rfl, Nat.le_of_ble_eq_true rfl⟩) hS (fun _ _ h => h) (fun _ h => h) (fun r9 u9 t9 H locs ht9 hv9 e9 hB9 hz9 hk9 hS => ?_)
          rw [ht9, says_2] at hB9
          replace e9 : r9 = 0 := e9.trans (saysV_2 _)
          subst e9
          have hP : va_P (dC, dI) vwCl (wM q k (sI st 10 2)) H := hB9
          refine lv_if_ne (tgt := 82) hx hb dX10_hold_77 (by decide) (fun h9 => absurd h9 (by decide)) (fun _ => ?_)
          refine lv_iconst (v := 0) hx hb dX10_hold_80 (by decide) ?_
          exact W.iret (v := 0) hx hb hr (fun t ht hW => ⟨⟨_, (), rfl, by show _ = Prod.fst _; rw [← he], by show va_P _ _ _ t.heap; rw [ht, ← he]; exact hP⟩, hS.F ht⟩) hS.2.2 dX10_hold_81
  · have he := (if_pos h4_1).symm.trans he
    refine lv_iload_n hx hb dX10_hold_7 rfl (lv_at hl 1 rfl) ?_
    refine lv_bipush (v := 100) hx hb dX10_hold_8 (by decide) ?_
    refine lv_icmp_lt (tgt := 47) hx hb dX10_hold_10 (by decide) (fun h10_9 => ?_) (fun h10_9 => ?_)
    · have he := (if_pos h10_9).symm.trans he
      refine lv_iconst (v := 0) hx hb dX10_hold_47 (by decide) ?_
      refine lv_istore (lv' := [(4, .int 0), (0, .ref (q 0)), (1, .int a1), (2, .int a2), (3, .int a3)]) hx hb dX10_hold_48 hl (by decide) rfl (fun ls hl => ?_)
      refine lv_aload_n hx hb dX10_hold_50 rfl (lv_at hl 1 rfl) ?_
      refine lv_iload hx hb dX10_hold_51 (lv_at hl 0 rfl) ?_
      refine lv_if_ne (tgt := 60) hx hb dX10_hold_53 (by decide) (fun h9 => absurd h9 (by decide)) (fun _ => ?_)
      refine lv_iconst (v := 1) hx hb dX10_hold_56 (by decide) ?_
      refine lv_goto (tgt := 74) hx hb dX10_hold_57 (by decide) ?_
      refine va_calli (va_runV (As := [.int 1]) (rest := []) ⟨hx, hb, hml, hown, hts⟩ (c_X10_says l dC dI q k st 1 hq _ rfl) (cwV 1 hts gX10_hold_X10_says rfl rfl rfl (by decide +kernel) ⟨Nat.le_of_ble_eq_true rfl, Nat.le_of_ble_eq_true rfl⟩) ⟨fb_M, va_recv hK.1 hP (ci := 10) (q0 := 0) rfl rfl, fun U hU hW => ⟨rfl, by rw [hU]; exact hP, hK.warm hW⟩⟩ rfl rfl hl.1 rfl (lv_room (Nat.le_of_ble_eq_true rfl)) dX10_hold_74 ⟨Nat.le_of_ble_eq_true rfl, Nat.le_of_ble_eq_true rfl⟩) hS (fun _ _ h => h) (fun _ h => h) (fun r9 u9 t9 H locs ht9 hv9 e9 hB9 hz9 hk9 hS => ?_)
      rw [ht9, says_2] at hB9
      replace e9 : r9 = 0 := e9.trans (saysV_1 _)
      subst e9
      have hP : va_P (dC, dI) vwCl (wM q k (sI st 10 1)) H := hB9
      refine lv_if_ne (tgt := 82) hx hb dX10_hold_77 (by decide) (fun h9 => absurd h9 (by decide)) (fun _ => ?_)
      refine lv_iconst (v := 0) hx hb dX10_hold_80 (by decide) ?_
      exact W.iret (v := 0) hx hb hr (fun t ht hW => ⟨⟨_, (), rfl, by show _ = Prod.fst _; rw [← he], by show va_P _ _ _ t.heap; rw [ht, ← he]; exact hP⟩, hS.F ht⟩) hS.2.2 dX10_hold_81
    · have he := (if_neg h10_9).symm.trans he
      refine lv_aload_n hx hb dX10_hold_13 rfl (lv_at hl 0 rfl) ?_
      refine lv_iload_n hx hb dX10_hold_14 rfl (lv_at hl 1 rfl) ?_
      refine lv_bipush (v := 100) hx hb dX10_hold_15 (by decide) ?_
      refine lv_isub hx hb dX10_hold_17 ?_
      refine vp_callSi (va_Run.run (va_runV (As := [.int (a1 - 100)]) (rest := []) ⟨hx, hb, hml, hown, hts⟩ (c_X10_isKind l dC dI q k st (a1 - 100) _ rfl) (cwV 1 hts gX10_hold_X10_isKind rfl rfl rfl (by decide +kernel) ⟨Nat.le_of_ble_eq_true rfl, Nat.le_of_ble_eq_true rfl⟩) ⟨fb_M, va_recv hK.1 hP (ci := 10) (q0 := 0) rfl rfl, fun U hU hW => ⟨rfl, by rw [hU]; exact hP, hK.warm hW⟩⟩ rfl rfl hl.1 rfl (lv_room (Nat.le_of_ble_eq_true rfl)) dX10_hold_18 ⟨Nat.le_of_ble_eq_true rfl, Nat.le_of_ble_eq_true rfl⟩)) (fun r9 e9 => ?_)
      subst e9
      refine lv_if_eq (tgt := 47) hx hb dX10_hold_21 (by decide) (fun h21_10 => ?_) (fun h21_10 => ?_)
      · have he := (if_pos h21_10).symm.trans he
        refine lv_iconst (v := 0) hx hb dX10_hold_47 (by decide) ?_
        refine lv_istore (lv' := [(4, .int 0), (0, .ref (q 0)), (1, .int a1), (2, .int a2), (3, .int a3)]) hx hb dX10_hold_48 hl (by decide) rfl (fun ls hl => ?_)
        refine lv_aload_n hx hb dX10_hold_50 rfl (lv_at hl 1 rfl) ?_
        refine lv_iload hx hb dX10_hold_51 (lv_at hl 0 rfl) ?_
        refine lv_if_ne (tgt := 60) hx hb dX10_hold_53 (by decide) (fun h9 => absurd h9 (by decide)) (fun _ => ?_)
        refine lv_iconst (v := 1) hx hb dX10_hold_56 (by decide) ?_
        refine lv_goto (tgt := 74) hx hb dX10_hold_57 (by decide) ?_
        refine va_calli (va_runV (As := [.int 1]) (rest := []) ⟨hx, hb, hml, hown, hts⟩ (c_X10_says l dC dI q k st 1 hq _ rfl) (cwV 1 hts gX10_hold_X10_says rfl rfl rfl (by decide +kernel) ⟨Nat.le_of_ble_eq_true rfl, Nat.le_of_ble_eq_true rfl⟩) ⟨fb_M, va_recv hK.1 hP (ci := 10) (q0 := 0) rfl rfl, fun U hU hW => ⟨rfl, by rw [hU]; exact hP, hK.warm hW⟩⟩ rfl rfl hl.1 rfl (lv_room (Nat.le_of_ble_eq_true rfl)) dX10_hold_74 ⟨Nat.le_of_ble_eq_true rfl, Nat.le_of_ble_eq_true rfl⟩) hS (fun _ _ h => h) (fun _ h => h) (fun r9 u9 t9 H locs ht9 hv9 e9 hB9 hz9 hk9 hS => ?_)
        rw [ht9, says_2] at hB9
        replace e9 : r9 = 0 := e9.trans (saysV_1 _)
        subst e9
        have hP : va_P (dC, dI) vwCl (wM q k (sI st 10 1)) H := hB9
        refine lv_if_ne (tgt := 82) hx hb dX10_hold_77 (by decide) (fun h9 => absurd h9 (by decide)) (fun _ => ?_)
        refine lv_iconst (v := 0) hx hb dX10_hold_80 (by decide) ?_
        exact W.iret (v := 0) hx hb hr (fun t ht hW => ⟨⟨_, (), rfl, by show _ = Prod.fst _; rw [← he], by show va_P _ _ _ t.heap; rw [ht, ← he]; exact hP⟩, hS.F ht⟩) hS.2.2 dX10_hold_81
      · have he := (if_neg h21_10).symm.trans he
        refine lv_aload_n hx hb dX10_hold_24 rfl (lv_at hl 0 rfl) ?_
        refine lv_iload_n hx hb dX10_hold_25 rfl (lv_at hl 2 rfl) ?_
        refine vp_callSi (va_Run.run (va_runV (As := [.int a2]) (rest := []) ⟨hx, hb, hml, hown, hts⟩ (c_X10_isPurpose l dC dI q k st a2 _ rfl) (cwV 1 hts gX10_hold_X10_isPurpose rfl rfl rfl (by decide +kernel) ⟨Nat.le_of_ble_eq_true rfl, Nat.le_of_ble_eq_true rfl⟩) ⟨fb_M, va_recv hK.1 hP (ci := 10) (q0 := 0) rfl rfl, fun U hU hW => ⟨rfl, by rw [hU]; exact hP, hK.warm hW⟩⟩ rfl rfl hl.1 rfl (lv_room (Nat.le_of_ble_eq_true rfl)) dX10_hold_26 ⟨Nat.le_of_ble_eq_true rfl, Nat.le_of_ble_eq_true rfl⟩)) (fun r9 e9 => ?_)
        subst e9
        refine lv_if_eq (tgt := 47) hx hb dX10_hold_29 (by decide) (fun h29_11 => ?_) (fun h29_11 => ?_)
        · have he := (if_pos h29_11).symm.trans he
          refine lv_iconst (v := 0) hx hb dX10_hold_47 (by decide) ?_
          refine lv_istore (lv' := [(4, .int 0), (0, .ref (q 0)), (1, .int a1), (2, .int a2), (3, .int a3)]) hx hb dX10_hold_48 hl (by decide) rfl (fun ls hl => ?_)
          refine lv_aload_n hx hb dX10_hold_50 rfl (lv_at hl 1 rfl) ?_
          refine lv_iload hx hb dX10_hold_51 (lv_at hl 0 rfl) ?_
          refine lv_if_ne (tgt := 60) hx hb dX10_hold_53 (by decide) (fun h9 => absurd h9 (by decide)) (fun _ => ?_)
          refine lv_iconst (v := 1) hx hb dX10_hold_56 (by decide) ?_
          refine lv_goto (tgt := 74) hx hb dX10_hold_57 (by decide) ?_
          refine va_calli (va_runV (As := [.int 1]) (rest := []) ⟨hx, hb, hml, hown, hts⟩ (c_X10_says l dC dI q k st 1 hq _ rfl) (cwV 1 hts gX10_hold_X10_says rfl rfl rfl (by decide +kernel) ⟨Nat.le_of_ble_eq_true rfl, Nat.le_of_ble_eq_true rfl⟩) ⟨fb_M, va_recv hK.1 hP (ci := 10) (q0 := 0) rfl rfl, fun U hU hW => ⟨rfl, by rw [hU]; exact hP, hK.warm hW⟩⟩ rfl rfl hl.1 rfl (lv_room (Nat.le_of_ble_eq_true rfl)) dX10_hold_74 ⟨Nat.le_of_ble_eq_true rfl, Nat.le_of_ble_eq_true rfl⟩) hS (fun _ _ h => h) (fun _ h => h) (fun r9 u9 t9 H locs ht9 hv9 e9 hB9 hz9 hk9 hS => ?_)
          rw [ht9, says_2] at hB9
          replace e9 : r9 = 0 := e9.trans (saysV_1 _)
          subst e9
          have hP : va_P (dC, dI) vwCl (wM q k (sI st 10 1)) H := hB9
          refine lv_if_ne (tgt := 82) hx hb dX10_hold_77 (by decide) (fun h9 => absurd h9 (by decide)) (fun _ => ?_)
          refine lv_iconst (v := 0) hx hb dX10_hold_80 (by decide) ?_
          exact W.iret (v := 0) hx hb hr (fun t ht hW => ⟨⟨_, (), rfl, by show _ = Prod.fst _; rw [← he], by show va_P _ _ _ t.heap; rw [ht, ← he]; exact hP⟩, hS.F ht⟩) hS.2.2 dX10_hold_81
        · have he := (if_neg h29_11).symm.trans he
          refine lv_iload_n hx hb dX10_hold_32 rfl (lv_at hl 3 rfl) ?_
          refine lv_iconst (v := 0) hx hb dX10_hold_33 (by decide) ?_
          refine lv_sipush (v := 6944) hx hb dX10_hold_34 (by decide) ?_
          refine vp_callSi (va_Run.run (va_runS (As := [.int a3, .int 0, .int 6944]) (rest := []) ⟨hx, hb, hml, hown, hts⟩ (c_X10_in l a3 0 6944 _ rfl) (va_cwS 3 hts gX10_hold_X10_in rfl rfl rfl (by decide +kernel) ⟨Nat.le_of_ble_eq_true rfl, Nat.le_of_ble_eq_true rfl⟩) ⟨fb_T, fun U hU hW => ⟨rfl, trivial⟩⟩ rfl rfl hl.1 rfl (lv_room (Nat.le_of_ble_eq_true rfl)) dX10_hold_37 ⟨Nat.le_of_ble_eq_true rfl, Nat.le_of_ble_eq_true rfl⟩)) (fun r9 e9 => ?_)
          subst e9
          refine lv_if_eq (tgt := 47) hx hb dX10_hold_40 (by decide) (fun h40_12 => ?_) (fun h40_12 => ?_)
          · have he := (if_pos h40_12).symm.trans he
            refine lv_iconst (v := 0) hx hb dX10_hold_47 (by decide) ?_
            refine lv_istore (lv' := [(4, .int 0), (0, .ref (q 0)), (1, .int a1), (2, .int a2), (3, .int a3)]) hx hb dX10_hold_48 hl (by decide) rfl (fun ls hl => ?_)
            refine lv_aload_n hx hb dX10_hold_50 rfl (lv_at hl 1 rfl) ?_
            refine lv_iload hx hb dX10_hold_51 (lv_at hl 0 rfl) ?_
            refine lv_if_ne (tgt := 60) hx hb dX10_hold_53 (by decide) (fun h9 => absurd h9 (by decide)) (fun _ => ?_)
            refine lv_iconst (v := 1) hx hb dX10_hold_56 (by decide) ?_
            refine lv_goto (tgt := 74) hx hb dX10_hold_57 (by decide) ?_
            refine va_calli (va_runV (As := [.int 1]) (rest := []) ⟨hx, hb, hml, hown, hts⟩ (c_X10_says l dC dI q k st 1 hq _ rfl) (cwV 1 hts gX10_hold_X10_says rfl rfl rfl (by decide +kernel) ⟨Nat.le_of_ble_eq_true rfl, Nat.le_of_ble_eq_true rfl⟩) ⟨fb_M, va_recv hK.1 hP (ci := 10) (q0 := 0) rfl rfl, fun U hU hW => ⟨rfl, by rw [hU]; exact hP, hK.warm hW⟩⟩ rfl rfl hl.1 rfl (lv_room (Nat.le_of_ble_eq_true rfl)) dX10_hold_74 ⟨Nat.le_of_ble_eq_true rfl, Nat.le_of_ble_eq_true rfl⟩) hS (fun _ _ h => h) (fun _ h => h) (fun r9 u9 t9 H locs ht9 hv9 e9 hB9 hz9 hk9 hS => ?_)
            rw [ht9, says_2] at hB9
            replace e9 : r9 = 0 := e9.trans (saysV_1 _)
            subst e9
            have hP : va_P (dC, dI) vwCl (wM q k (sI st 10 1)) H := hB9
            refine lv_if_ne (tgt := 82) hx hb dX10_hold_77 (by decide) (fun h9 => absurd h9 (by decide)) (fun _ => ?_)
            refine lv_iconst (v := 0) hx hb dX10_hold_80 (by decide) ?_
            exact W.iret (v := 0) hx hb hr (fun t ht hW => ⟨⟨_, (), rfl, by show _ = Prod.fst _; rw [← he], by show va_P _ _ _ t.heap; rw [ht, ← he]; exact hP⟩, hS.F ht⟩) hS.2.2 dX10_hold_81
          · have he := (if_neg h40_12).symm.trans he
            refine lv_iconst (v := 1) hx hb dX10_hold_43 (by decide) ?_
            refine lv_goto (tgt := 48) hx hb dX10_hold_44 (by decide) ?_
            refine lv_istore (lv' := [(4, .int 1), (0, .ref (q 0)), (1, .int a1), (2, .int a2), (3, .int a3)]) hx hb dX10_hold_48 hl (by decide) rfl (fun ls hl => ?_)
            refine lv_aload_n hx hb dX10_hold_50 rfl (lv_at hl 1 rfl) ?_
            refine lv_iload hx hb dX10_hold_51 (lv_at hl 0 rfl) ?_
            refine lv_if_ne (tgt := 60) hx hb dX10_hold_53 (by decide) (fun _ => ?_) (fun h9 => absurd h9 (by decide))
            refine lv_aload_n hx hb dX10_hold_60 rfl (lv_at hl 1 rfl) ?_
            refine va_get (D := (dC, dI)) (ci := 10) (v := .int (st.1 6)) (C := RX10) (T := TX10) (N := 45) hx hb hts hi10 hown hK.1 hP 0 rfl rfl 34 (by decide) hf170 (fun _ h9 => h9) rfl dX10_hold_61 ?_
            refine lv_bipush (v := 30) hx hb dX10_hold_64 (by decide) ?_
            refine lv_icmp_ne (tgt := 73) hx hb dX10_hold_66 (by decide) (fun h66_13 => ?_) (fun h66_13 => ?_)
            · have he := (if_neg h66_13).symm.trans he
              refine lv_iconst (v := 0) hx hb dX10_hold_73 (by decide) ?_
              refine va_calli (va_runV (As := [.int 0]) (rest := []) ⟨hx, hb, hml, hown, hts⟩ (c_X10_says l dC dI q k st 0 hq _ rfl) (cwV 1 hts gX10_hold_X10_says rfl rfl rfl (by decide +kernel) ⟨Nat.le_of_ble_eq_true rfl, Nat.le_of_ble_eq_true rfl⟩) ⟨fb_M, va_recv hK.1 hP (ci := 10) (q0 := 0) rfl rfl, fun U hU hW => ⟨rfl, by rw [hU]; exact hP, hK.warm hW⟩⟩ rfl rfl hl.1 rfl (lv_room (Nat.le_of_ble_eq_true rfl)) dX10_hold_74 ⟨Nat.le_of_ble_eq_true rfl, Nat.le_of_ble_eq_true rfl⟩) hS (fun _ _ h => h) (fun _ h => h) (fun r9 u9 t9 H locs ht9 hv9 e9 hB9 hz9 hk9 hS => ?_)
              rw [ht9, says_2] at hB9
              replace e9 : r9 = 1 := e9.trans (saysV_0 _)
              subst e9
              have hP : va_P (dC, dI) vwCl (wM q k (sI st 10 0)) H := hB9
              refine lv_if_ne (tgt := 82) hx hb dX10_hold_77 (by decide) (fun _ => ?_) (fun h9 => absurd h9 (by decide))
              refine lv_aload_n hx hb dX10_hold_82 rfl (lv_at hl 1 rfl) ?_
              refine va_get (D := (dC, dI)) (ci := 10) (v := .ref (q 17)) (C := RX10) (T := TX10) (N := 45) hx hb hts hi10 hown hK.1 hP 0 rfl rfl 35 (by decide) hf94 (fun _ h9 => h9) rfl dX10_hold_83 ?_
              refine lv_aload_n hx hb dX10_hold_86 rfl (lv_at hl 1 rfl) ?_
              refine va_get (D := (dC, dI)) (ci := 10) (v := .int (st.1 6)) (C := RX10) (T := TX10) (N := 45) hx hb hts hi10 hown hK.1 hP 0 rfl rfl 34 (by decide) hf170 (fun _ h9 => h9) rfl dX10_hold_87 ?_
              refine lv_iload_n hx hb dX10_hold_90 rfl (lv_at hl 2 rfl) ?_
              refine va_iast hx hb hK.1 hP (dM_of hq) hS 17 16 (f := st.2.1 16) (n := 30) (cA := k 16) rfl rfl (i := st.1 6) (x := a1) (ob_X10_hold_91_14 st a1 a2 a3 hok h4_1 h10_9 h21_10 h29_11 h40_12 h66_13) dX10_hold_91 (fun H locs hP _ hS => ?_)
              have hP : va_P (dC, dI) vwCl (wM q k (sA (sI st 10 0) 16 ((st.1 6).toNatClampNeg) a1)) H := hP
              refine lv_aload_n hx hb dX10_hold_92 rfl (lv_at hl 1 rfl) ?_
              refine va_get (D := (dC, dI)) (ci := 10) (v := .ref (q 18)) (C := RX10) (T := TX10) (N := 45) hx hb hts hi10 hown hK.1 hP 0 rfl rfl 36 (by decide) hf97 (fun _ h9 => h9) rfl dX10_hold_93 ?_
              refine lv_aload_n hx hb dX10_hold_96 rfl (lv_at hl 1 rfl) ?_
              refine va_get (D := (dC, dI)) (ci := 10) (v := .int (st.1 6)) (C := RX10) (T := TX10) (N := 45) hx hb hts hi10 hown hK.1 hP 0 rfl rfl 34 (by decide) hf170 (fun _ h9 => h9) rfl dX10_hold_97 ?_
              refine lv_iload_n hx hb dX10_hold_100 rfl (lv_at hl 3 rfl) ?_
              refine va_iast hx hb hK.1 hP (dM_of hq) hS 18 17 (f := st.2.1 17) (n := 30) (cA := k 17) rfl rfl (i := st.1 6) (x := a2) (ob_X10_hold_101_15 st a1 a2 a3 hok h4_1 h10_9 h21_10 h29_11 h40_12 h66_13) dX10_hold_101 (fun H locs hP _ hS => ?_)
              have hP : va_P (dC, dI) vwCl (wM q k (sA (sA (sI st 10 0) 16 ((st.1 6).toNatClampNeg) a1) 17 ((st.1 6).toNatClampNeg) a2)) H := hP
              refine lv_aload_n hx hb dX10_hold_102 rfl (lv_at hl 1 rfl) ?_
              refine va_get (D := (dC, dI)) (ci := 10) (v := .ref (q 19)) (C := RX10) (T := TX10) (N := 45) hx hb hts hi10 hown hK.1 hP 0 rfl rfl 37 (by decide) hf100 (fun _ h9 => h9) rfl dX10_hold_103 ?_
              refine lv_aload_n hx hb dX10_hold_106 rfl (lv_at hl 1 rfl) ?_
              refine va_get (D := (dC, dI)) (ci := 10) (v := .int (st.1 6)) (C := RX10) (T := TX10) (N := 45) hx hb hts hi10 hown hK.1 hP 0 rfl rfl 34 (by decide) hf170 (fun _ h9 => h9) rfl dX10_hold_107 ?_
              refine lv_iload_n hx hb dX10_hold_110 rfl (lv_at hl 4 rfl) ?_
              refine va_iast hx hb hK.1 hP (dM_of hq) hS 19 18 (f := st.2.1 18) (n := 30) (cA := k 18) rfl rfl (i := st.1 6) (x := a3) (ob_X10_hold_111_16 st a1 a2 a3 hok h4_1 h10_9 h21_10 h29_11 h40_12 h66_13) dX10_hold_111 (fun H locs hP _ hS => ?_)
              have hP : va_P (dC, dI) vwCl (wM q k (sA (sA (sA (sI st 10 0) 16 ((st.1 6).toNatClampNeg) a1) 17 ((st.1 6).toNatClampNeg) a2) 18 ((st.1 6).toNatClampNeg) a3)) H := hP
              refine lv_aload_n hx hb dX10_hold_112 rfl (lv_at hl 1 rfl) ?_
              refine va_get (D := (dC, dI)) (ci := 10) (v := .ref (q 20)) (C := RX10) (T := TX10) (N := 45) hx hb hts hi10 hown hK.1 hP 0 rfl rfl 38 (by decide) hf103 (fun _ h9 => h9) rfl dX10_hold_113 ?_
              refine lv_aload_n hx hb dX10_hold_116 rfl (lv_at hl 1 rfl) ?_
              refine va_get (D := (dC, dI)) (ci := 10) (v := .int (st.1 6)) (C := RX10) (T := TX10) (N := 45) hx hb hts hi10 hown hK.1 hP 0 rfl rfl 34 (by decide) hf170 (fun _ h9 => h9) rfl dX10_hold_117 ?_
              refine lv_iconst (v := (-1)) hx hb dX10_hold_120 (by decide) ?_
              refine va_iast hx hb hK.1 hP (dM_of hq) hS 20 19 (f := st.2.1 19) (n := 30) (cA := k 19) rfl rfl (i := st.1 6) (x := (-1)) (ob_X10_hold_121_17 st a1 a2 a3 hok h4_1 h10_9 h21_10 h29_11 h40_12 h66_13) dX10_hold_121 (fun H locs hP _ hS => ?_)
              have hP : va_P (dC, dI) vwCl (wM q k (sA (sA (sA (sA (sI st 10 0) 16 ((st.1 6).toNatClampNeg) a1) 17 ((st.1 6).toNatClampNeg) a2) 18 ((st.1 6).toNatClampNeg) a3) 19 ((st.1 6).toNatClampNeg) (-1))) H := hP
              refine lv_aload_n hx hb dX10_hold_122 rfl (lv_at hl 1 rfl) ?_
              refine lv_dup hx hb dX10_hold_123 rfl ?_
              refine va_get (D := (dC, dI)) (ci := 10) (v := .int (st.1 6)) (C := RX10) (T := TX10) (N := 45) hx hb hts hi10 hown hK.1 hP 0 rfl rfl 34 (by decide) hf170 (fun _ h9 => h9) rfl dX10_hold_124 ?_
              refine lv_iconst (v := 1) hx hb dX10_hold_127 (by decide) ?_
              refine lv_iadd hx hb dX10_hold_128 ?_
              refine va_put (D := (dC, dI)) (ci := 10) (v := .int ((st.1 6) + 1)) (ty := .int) (C := RX10) (T := TX10) (N := 45) hx hb hts hi10 tyX10 tyX10_ok nmX10 hown hK.1 hP (dM_of hq) hS 0 rfl rfl 34 (by decide) hf170 (fun _ h9 => h9) rfl (by decide +kernel) rfl rfl (Nat.le_of_ble_eq_true rfl) dX10_hold_129 (fun H locs hP _ hS => ?_)
              have hP : va_P (dC, dI) vwCl (wM q k (sI (sA (sA (sA (sA (sI st 10 0) 16 ((st.1 6).toNatClampNeg) a1) 17 ((st.1 6).toNatClampNeg) a2) 18 ((st.1 6).toNatClampNeg) a3) 19 ((st.1 6).toNatClampNeg) (-1)) 6 ((st.1 6) + 1))) H := hP
              refine lv_aload_n hx hb dX10_hold_132 rfl (lv_at hl 1 rfl) ?_
              refine va_get (D := (dC, dI)) (ci := 10) (v := .int ((st.1 6) + 1)) (C := RX10) (T := TX10) (N := 45) hx hb hts hi10 hown hK.1 hP 0 rfl rfl 34 (by decide) hf170 (fun _ h9 => h9) rfl dX10_hold_133 ?_
              refine lv_iconst (v := 1) hx hb dX10_hold_136 (by decide) ?_
              refine lv_isub hx hb dX10_hold_137 ?_
              exact W.iret (v := ((st.1 6) + 1) - 1) hx hb hr (fun t ht hW => ⟨⟨_, (), rfl, by show _ = Prod.fst _; rw [← he], by show va_P _ _ _ t.heap; rw [ht, ← he]; exact hP⟩, hS.F ht⟩) hS.2.2 dX10_hold_138
            · have he := (if_pos h66_13).symm.trans he
              refine lv_iconst (v := 2) hx hb dX10_hold_69 (by decide) ?_
              refine lv_goto (tgt := 74) hx hb dX10_hold_70 (by decide) ?_
              refine va_calli (va_runV (As := [.int 2]) (rest := []) ⟨hx, hb, hml, hown, hts⟩ (c_X10_says l dC dI q k st 2 hq _ rfl) (cwV 1 hts gX10_hold_X10_says rfl rfl rfl (by decide +kernel) ⟨Nat.le_of_ble_eq_true rfl, Nat.le_of_ble_eq_true rfl⟩) ⟨fb_M, va_recv hK.1 hP (ci := 10) (q0 := 0) rfl rfl, fun U hU hW => ⟨rfl, by rw [hU]; exact hP, hK.warm hW⟩⟩ rfl rfl hl.1 rfl (lv_room (Nat.le_of_ble_eq_true rfl)) dX10_hold_74 ⟨Nat.le_of_ble_eq_true rfl, Nat.le_of_ble_eq_true rfl⟩) hS (fun _ _ h => h) (fun _ h => h) (fun r9 u9 t9 H locs ht9 hv9 e9 hB9 hz9 hk9 hS => ?_)
              rw [ht9, says_2] at hB9
              replace e9 : r9 = 0 := e9.trans (saysV_2 _)
              subst e9
              have hP : va_P (dC, dI) vwCl (wM q k (sI st 10 2)) H := hB9
              refine lv_if_ne (tgt := 82) hx hb dX10_hold_77 (by decide) (fun h9 => absurd h9 (by decide)) (fun _ => ?_)
              refine lv_iconst (v := 0) hx hb dX10_hold_80 (by decide) ?_
              exact W.iret (v := 0) hx hb hr (fun t ht hW => ⟨⟨_, (), rfl, by show _ = Prod.fst _; rw [← he], by show va_P _ _ _ t.heap; rw [ht, ← he]; exact hP⟩, hS.F ht⟩) hS.2.2 dX10_hold_81
set_option maxHeartbeats 4000000 in
set_option maxRecDepth 100000 in
theorem c_X10_lift (l : Launch) (dC : Nat → ClassId) (dI : Nat → Nat → Nat) (q : Nat → Nat) (k : Nat → ClassId) (st : St) (a1 : Int32) (a2 : Int32) (hq : ∀ i j, i < 35 → j < 35 → q i = q j → i = j) (hok : okM st) (res : St) (hres : sp_X10_lift st a1 a2 = res) : Met l yX10_lift wsX10_lift ({ frames := 1, cells := 0, slots := 0, locals := 22 } : Room) (va_Pc [.ref (q 0), .int a1, .int a2] (fun U => va_P (dC, dI) vwCl (wM q k st) U.heap ∧ KM (dC, dI) k U)) (va_Qv (fun (_ : Unit) => True) (fun _ t => va_P (dC, dI) vwCl (wM q k res) t.heap) (aM q)) 0 0 (aM q) := by
  refine Met.ofW (cc := cX10_lift) (maxL := 4) (ret := none) (by decide) rfl ?_
  intro p e s m args below meth c s₁ B hml hv
  obtain ⟨rfl, hP, hK⟩ := hv
  have hx := B.exec
  have hb := B.bytes
  have hr := B.returns
  have hts := atoms_spec (ws := wsX10_lift) B.pre
  have hown : s.vm.findClass RX10 = some m.cls := findClass_of_methodNamed B.named
  have hlocks := B.notSynchronized
  have hS : va_S (aM q) s.heap s.heap [] := va_S.rf
  have hi10 : ∀ w ∈ wsX100, w ∈ wsX10_lift := by decide +kernel
  have hf100 := hts (.fieldLink RX10 100 "ConsentRegisterModel" "holdFrom" "[I") (by decide +kernel)
  have hf103 := hts (.fieldLink RX10 103 "ConsentRegisterModel" "holdLifted" "[I") (by decide +kernel)
  have hf170 := hts (.fieldLink RX10 170 "ConsentRegisterModel" "holds" "I") (by decide +kernel)
  have hl := lv_entry ([.ref (q 0), .int a1, .int a2]) (n := 4) (Nat.le_of_ble_eq_true rfl)
  rw [lg_entry_eq]
  generalize (lg_sl ([.ref (q 0), .int a1, .int a2]) ++ List.replicate (4 - (lg_sl ([.ref (q 0), .int a1, .int a2])).length) Slot.unset).toArray = ls at hl ⊢
  have hl : lv_has ls 4 [(0, .ref (q 0)), (1, .int a1), (2, .int a2)] := hl
  have he := hres
  unfold sp_X10_lift at he
  refine lv_iload_n hx hb dX10_lift_0 rfl (lv_at hl 1 rfl) ?_
  refine lv_iconst (v := 0) hx hb dX10_lift_1 (by decide) ?_
  refine lv_aload_n hx hb dX10_lift_2 rfl (lv_at hl 0 rfl) ?_
  refine va_get (D := (dC, dI)) (ci := 10) (v := .int (st.1 6)) (C := RX10) (T := TX10) (N := 45) hx hb hts hi10 hown hK.1 hP 0 rfl rfl 34 (by decide) hf170 (fun _ h9 => h9) rfl dX10_lift_3 ?_
  refine lv_iconst (v := 1) hx hb dX10_lift_6 (by decide) ?_
  refine lv_isub hx hb dX10_lift_7 ?_
  refine vp_callSi (va_Run.run (va_runS (As := [.int a1, .int 0, .int ((st.1 6) - 1)]) (rest := []) ⟨hx, hb, hml, hown, hts⟩ (c_X10_in l a1 0 ((st.1 6) - 1) _ rfl) (va_cwS 3 hts gX10_lift_X10_in rfl rfl rfl (by decide +kernel) ⟨Nat.le_of_ble_eq_true rfl, Nat.le_of_ble_eq_true rfl⟩) ⟨fb_T, fun U hU hW => ⟨rfl, trivial⟩⟩ rfl rfl hl.1 rfl (lv_room (Nat.le_of_ble_eq_true rfl)) dX10_lift_8 ⟨Nat.le_of_ble_eq_true rfl, Nat.le_of_ble_eq_true rfl⟩)) (fun r9 e9 => ?_)
  subst e9
  refine lv_if_eq (tgt := 49) hx hb dX10_lift_11 (by decide) (fun h11_1 => ?_) (fun h11_1 => ?_)
  · have he := (if_pos h11_1).symm.trans he
    refine lv_iconst (v := 0) hx hb dX10_lift_49 (by decide) ?_
    refine lv_istore_n (lv' := [(3, .int 0), (0, .ref (q 0)), (1, .int a1), (2, .int a2)]) hx hb dX10_lift_50 rfl hl (by decide) rfl (fun ls hl => ?_)
    refine lv_aload_n hx hb dX10_lift_51 rfl (lv_at hl 1 rfl) ?_
    refine lv_iload_n hx hb dX10_lift_52 rfl (lv_at hl 0 rfl) ?_
    refine lv_if_ne (tgt := 60) hx hb dX10_lift_53 (by decide) (fun h9 => absurd h9 (by decide)) (fun _ => ?_)
    refine lv_iconst (v := 1) hx hb dX10_lift_56 (by decide) ?_
    refine lv_goto (tgt := 74) hx hb dX10_lift_57 (by decide) ?_
    refine va_calli (va_runV (As := [.int 1]) (rest := []) ⟨hx, hb, hml, hown, hts⟩ (c_X10_says l dC dI q k st 1 hq _ rfl) (cwV 1 hts gX10_lift_X10_says rfl rfl rfl (by decide +kernel) ⟨Nat.le_of_ble_eq_true rfl, Nat.le_of_ble_eq_true rfl⟩) ⟨fb_M, va_recv hK.1 hP (ci := 10) (q0 := 0) rfl rfl, fun U hU hW => ⟨rfl, by rw [hU]; exact hP, hK.warm hW⟩⟩ rfl rfl hl.1 rfl (lv_room (Nat.le_of_ble_eq_true rfl)) dX10_lift_74 ⟨Nat.le_of_ble_eq_true rfl, Nat.le_of_ble_eq_true rfl⟩) hS (fun _ _ h => h) (fun _ h => h) (fun r9 u9 t9 H locs ht9 hv9 e9 hB9 hz9 hk9 hS => ?_)
    rw [ht9, says_2] at hB9
    replace e9 : r9 = 0 := e9.trans (saysV_1 _)
    subst e9
    have hP : va_P (dC, dI) vwCl (wM q k (sI st 10 1)) H := hB9
    refine lv_if_eq (tgt := 87) hx hb dX10_lift_77 (by decide) (fun _ => ?_) (fun h9 => absurd h9 (by decide))
    exact W.vret hx hb hr (fun t ht hW => ⟨⟨(), rfl, trivial, by show va_P _ _ _ t.heap; rw [ht, ← he]; exact hP⟩, hS.F ht⟩) hS.2.2 dX10_lift_87
  · have he := (if_neg h11_1).symm.trans he
    refine lv_iload_n hx hb dX10_lift_14 rfl (lv_at hl 2 rfl) ?_
    refine lv_sipush (v := 6944) hx hb dX10_lift_15 (by decide) ?_
    refine lv_icmp_gt (tgt := 49) hx hb dX10_lift_18 (by decide) (fun h18_2 => ?_) (fun h18_2 => ?_)
    · have he := (if_pos h18_2).symm.trans he
      refine lv_iconst (v := 0) hx hb dX10_lift_49 (by decide) ?_
      refine lv_istore_n (lv' := [(3, .int 0), (0, .ref (q 0)), (1, .int a1), (2, .int a2)]) hx hb dX10_lift_50 rfl hl (by decide) rfl (fun ls hl => ?_)
      refine lv_aload_n hx hb dX10_lift_51 rfl (lv_at hl 1 rfl) ?_
      refine lv_iload_n hx hb dX10_lift_52 rfl (lv_at hl 0 rfl) ?_
      refine lv_if_ne (tgt := 60) hx hb dX10_lift_53 (by decide) (fun h9 => absurd h9 (by decide)) (fun _ => ?_)
      refine lv_iconst (v := 1) hx hb dX10_lift_56 (by decide) ?_
      refine lv_goto (tgt := 74) hx hb dX10_lift_57 (by decide) ?_
      refine va_calli (va_runV (As := [.int 1]) (rest := []) ⟨hx, hb, hml, hown, hts⟩ (c_X10_says l dC dI q k st 1 hq _ rfl) (cwV 1 hts gX10_lift_X10_says rfl rfl rfl (by decide +kernel) ⟨Nat.le_of_ble_eq_true rfl, Nat.le_of_ble_eq_true rfl⟩) ⟨fb_M, va_recv hK.1 hP (ci := 10) (q0 := 0) rfl rfl, fun U hU hW => ⟨rfl, by rw [hU]; exact hP, hK.warm hW⟩⟩ rfl rfl hl.1 rfl (lv_room (Nat.le_of_ble_eq_true rfl)) dX10_lift_74 ⟨Nat.le_of_ble_eq_true rfl, Nat.le_of_ble_eq_true rfl⟩) hS (fun _ _ h => h) (fun _ h => h) (fun r9 u9 t9 H locs ht9 hv9 e9 hB9 hz9 hk9 hS => ?_)
      rw [ht9, says_2] at hB9
      replace e9 : r9 = 0 := e9.trans (saysV_1 _)
      subst e9
      have hP : va_P (dC, dI) vwCl (wM q k (sI st 10 1)) H := hB9
      refine lv_if_eq (tgt := 87) hx hb dX10_lift_77 (by decide) (fun _ => ?_) (fun h9 => absurd h9 (by decide))
      exact W.vret hx hb hr (fun t ht hW => ⟨⟨(), rfl, trivial, by show va_P _ _ _ t.heap; rw [ht, ← he]; exact hP⟩, hS.F ht⟩) hS.2.2 dX10_lift_87
    · have he := (if_neg h18_2).symm.trans he
      refine lv_iload_n hx hb dX10_lift_21 rfl (lv_at hl 2 rfl) ?_
      refine lv_aload_n hx hb dX10_lift_22 rfl (lv_at hl 0 rfl) ?_
      refine va_get (D := (dC, dI)) (ci := 10) (v := .ref (q 19)) (C := RX10) (T := TX10) (N := 45) hx hb hts hi10 hown hK.1 hP 0 rfl rfl 37 (by decide) hf100 (fun _ h9 => h9) rfl dX10_lift_23 ?_
      refine lv_iload_n hx hb dX10_lift_26 rfl (lv_at hl 1 rfl) ?_
      refine lv_iconst (v := 0) hx hb dX10_lift_27 (by decide) ?_
      refine lv_bipush (v := 29) hx hb dX10_lift_28 (by decide) ?_
      refine vp_callSi (va_Run.run (va_runS (As := [.int a1, .int 0, .int 29]) (rest := [.ref (q 19), .int a2]) ⟨hx, hb, hml, hown, hts⟩ (c_X10_in l a1 0 29 _ rfl) (va_cwS 3 hts gX10_lift_X10_in rfl rfl rfl (by decide +kernel) ⟨Nat.le_of_ble_eq_true rfl, Nat.le_of_ble_eq_true rfl⟩) ⟨fb_T, fun U hU hW => ⟨rfl, trivial⟩⟩ rfl rfl hl.1 rfl (lv_room (Nat.le_of_ble_eq_true rfl)) dX10_lift_30 ⟨Nat.le_of_ble_eq_true rfl, Nat.le_of_ble_eq_true rfl⟩)) (fun r9 e9 => ?_)
      subst e9
      refine lv_if_eq (tgt := 40) hx hb dX10_lift_33 (by decide) (fun h33_3 => ?_) (fun h33_3 => ?_)
      · have he := (if_pos h33_3).symm.trans he
        refine lv_iconst (v := 0) hx hb dX10_lift_40 (by decide) ?_
        refine va_iald hx hb hK.1 hP 19 18 (f := st.2.1 18) (n := 30) (cA := k 18) rfl rfl (i := 0) (ob_X10_lift_41_4 st a1 a2 hok h11_1 h18_2 h33_3) dX10_lift_41 ?_
        refine lv_icmp_lt (tgt := 49) hx hb dX10_lift_42 (by decide) (fun h42_5 => ?_) (fun h42_5 => ?_)
        · have he := (if_pos h42_5).symm.trans he
          refine lv_iconst (v := 0) hx hb dX10_lift_49 (by decide) ?_
          refine lv_istore_n (lv' := [(3, .int 0), (0, .ref (q 0)), (1, .int a1), (2, .int a2)]) hx hb dX10_lift_50 rfl hl (by decide) rfl (fun ls hl => ?_)
          refine lv_aload_n hx hb dX10_lift_51 rfl (lv_at hl 1 rfl) ?_
          refine lv_iload_n hx hb dX10_lift_52 rfl (lv_at hl 0 rfl) ?_
          refine lv_if_ne (tgt := 60) hx hb dX10_lift_53 (by decide) (fun h9 => absurd h9 (by decide)) (fun _ => ?_)
          refine lv_iconst (v := 1) hx hb dX10_lift_56 (by decide) ?_
          refine lv_goto (tgt := 74) hx hb dX10_lift_57 (by decide) ?_
          refine va_calli (va_runV (As := [.int 1]) (rest := []) ⟨hx, hb, hml, hown, hts⟩ (c_X10_says l dC dI q k st 1 hq _ rfl) (cwV 1 hts gX10_lift_X10_says rfl rfl rfl (by decide +kernel) ⟨Nat.le_of_ble_eq_true rfl, Nat.le_of_ble_eq_true rfl⟩) ⟨fb_M, va_recv hK.1 hP (ci := 10) (q0 := 0) rfl rfl, fun U hU hW => ⟨rfl, by rw [hU]; exact hP, hK.warm hW⟩⟩ rfl rfl hl.1 rfl (lv_room (Nat.le_of_ble_eq_true rfl)) dX10_lift_74 ⟨Nat.le_of_ble_eq_true rfl, Nat.le_of_ble_eq_true rfl⟩) hS (fun _ _ h => h) (fun _ h => h) (fun r9 u9 t9 H locs ht9 hv9 e9 hB9 hz9 hk9 hS => ?_)
          rw [ht9, says_2] at hB9
          replace e9 : r9 = 0 := e9.trans (saysV_1 _)
          subst e9
          have hP : va_P (dC, dI) vwCl (wM q k (sI st 10 1)) H := hB9
          refine lv_if_eq (tgt := 87) hx hb dX10_lift_77 (by decide) (fun _ => ?_) (fun h9 => absurd h9 (by decide))
          exact W.vret hx hb hr (fun t ht hW => ⟨⟨(), rfl, trivial, by show va_P _ _ _ t.heap; rw [ht, ← he]; exact hP⟩, hS.F ht⟩) hS.2.2 dX10_lift_87
        · have he := (if_neg h42_5).symm.trans he
          refine lv_iconst (v := 1) hx hb dX10_lift_45 (by decide) ?_
          refine lv_goto (tgt := 50) hx hb dX10_lift_46 (by decide) ?_
          refine lv_istore_n (lv' := [(3, .int 1), (0, .ref (q 0)), (1, .int a1), (2, .int a2)]) hx hb dX10_lift_50 rfl hl (by decide) rfl (fun ls hl => ?_)
          refine lv_aload_n hx hb dX10_lift_51 rfl (lv_at hl 1 rfl) ?_
          refine lv_iload_n hx hb dX10_lift_52 rfl (lv_at hl 0 rfl) ?_
          refine lv_if_ne (tgt := 60) hx hb dX10_lift_53 (by decide) (fun _ => ?_) (fun h9 => absurd h9 (by decide))
          refine lv_aload_n hx hb dX10_lift_60 rfl (lv_at hl 1 rfl) ?_
          refine va_get (D := (dC, dI)) (ci := 10) (v := .ref (q 20)) (C := RX10) (T := TX10) (N := 45) hx hb hts hi10 hown hK.1 hP 0 rfl rfl 38 (by decide) hf103 (fun _ h9 => h9) rfl dX10_lift_61 ?_
          refine lv_iload_n hx hb dX10_lift_64 rfl (lv_at hl 2 rfl) ?_
          refine va_iald hx hb hK.1 hP 20 19 (f := st.2.1 19) (n := 30) (cA := k 19) rfl rfl (i := a1) (ob_X10_lift_65_6 st a1 a2 hok h11_1 h18_2 h33_3 h42_5) dX10_lift_65 ?_
          refine lv_if_lt (tgt := 73) hx hb dX10_lift_66 (by decide) (fun h66_7 => ?_) (fun h66_7 => ?_)
          · have he := (if_pos h66_7).symm.trans he
            refine lv_iconst (v := 0) hx hb dX10_lift_73 (by decide) ?_
            refine va_calli (va_runV (As := [.int 0]) (rest := []) ⟨hx, hb, hml, hown, hts⟩ (c_X10_says l dC dI q k st 0 hq _ rfl) (cwV 1 hts gX10_lift_X10_says rfl rfl rfl (by decide +kernel) ⟨Nat.le_of_ble_eq_true rfl, Nat.le_of_ble_eq_true rfl⟩) ⟨fb_M, va_recv hK.1 hP (ci := 10) (q0 := 0) rfl rfl, fun U hU hW => ⟨rfl, by rw [hU]; exact hP, hK.warm hW⟩⟩ rfl rfl hl.1 rfl (lv_room (Nat.le_of_ble_eq_true rfl)) dX10_lift_74 ⟨Nat.le_of_ble_eq_true rfl, Nat.le_of_ble_eq_true rfl⟩) hS (fun _ _ h => h) (fun _ h => h) (fun r9 u9 t9 H locs ht9 hv9 e9 hB9 hz9 hk9 hS => ?_)
            rw [ht9, says_2] at hB9
            replace e9 : r9 = 1 := e9.trans (saysV_0 _)
            subst e9
            have hP : va_P (dC, dI) vwCl (wM q k (sI st 10 0)) H := hB9
            refine lv_if_eq (tgt := 87) hx hb dX10_lift_77 (by decide) (fun h9 => absurd h9 (by decide)) (fun _ => ?_)
            refine lv_aload_n hx hb dX10_lift_80 rfl (lv_at hl 1 rfl) ?_
            refine va_get (D := (dC, dI)) (ci := 10) (v := .ref (q 20)) (C := RX10) (T := TX10) (N := 45) hx hb hts hi10 hown hK.1 hP 0 rfl rfl 38 (by decide) hf103 (fun _ h9 => h9) rfl dX10_lift_81 ?_
            refine lv_iload_n hx hb dX10_lift_84 rfl (lv_at hl 2 rfl) ?_
            refine lv_iload_n hx hb dX10_lift_85 rfl (lv_at hl 3 rfl) ?_
            refine va_iast hx hb hK.1 hP (dM_of hq) hS 20 19 (f := st.2.1 19) (n := 30) (cA := k 19) rfl rfl (i := a1) (x := a2) (ob_X10_lift_86_8 st a1 a2 hok h11_1 h18_2 h33_3 h42_5 h66_7) dX10_lift_86 (fun H locs hP _ hS => ?_)
            have hP : va_P (dC, dI) vwCl (wM q k (sA (sI st 10 0) 19 a1.toNatClampNeg a2)) H := hP
            exact W.vret hx hb hr (fun t ht hW => ⟨⟨(), rfl, trivial, by show va_P _ _ _ t.heap; rw [ht, ← he]; exact hP⟩, hS.F ht⟩) hS.2.2 dX10_lift_87
          · have he := (if_neg h66_7).symm.trans he
            refine lv_iconst (v := 2) hx hb dX10_lift_69 (by decide) ?_
            refine lv_goto (tgt := 74) hx hb dX10_lift_70 (by decide) ?_
            refine va_calli (va_runV (As := [.int 2]) (rest := []) ⟨hx, hb, hml, hown, hts⟩ (c_X10_says l dC dI q k st 2 hq _ rfl) (cwV 1 hts gX10_lift_X10_says rfl rfl rfl (by decide +kernel) ⟨Nat.le_of_ble_eq_true rfl, Nat.le_of_ble_eq_true rfl⟩) ⟨fb_M, va_recv hK.1 hP (ci := 10) (q0 := 0) rfl rfl, fun U hU hW => ⟨rfl, by rw [hU]; exact hP, hK.warm hW⟩⟩ rfl rfl hl.1 rfl (lv_room (Nat.le_of_ble_eq_true rfl)) dX10_lift_74 ⟨Nat.le_of_ble_eq_true rfl, Nat.le_of_ble_eq_true rfl⟩) hS (fun _ _ h => h) (fun _ h => h) (fun r9 u9 t9 H locs ht9 hv9 e9 hB9 hz9 hk9 hS => ?_)
            rw [ht9, says_2] at hB9
            replace e9 : r9 = 0 := e9.trans (saysV_2 _)
            subst e9
            have hP : va_P (dC, dI) vwCl (wM q k (sI st 10 2)) H := hB9
            refine lv_if_eq (tgt := 87) hx hb dX10_lift_77 (by decide) (fun _ => ?_) (fun h9 => absurd h9 (by decide))
            exact W.vret hx hb hr (fun t ht hW => ⟨⟨(), rfl, trivial, by show va_P _ _ _ t.heap; rw [ht, ← he]; exact hP⟩, hS.F ht⟩) hS.2.2 dX10_lift_87
      · have he := (if_neg h33_3).symm.trans he
        refine lv_iload_n hx hb dX10_lift_36 rfl (lv_at hl 1 rfl) ?_
        refine lv_goto (tgt := 41) hx hb dX10_lift_37 (by decide) ?_
        refine va_iald hx hb hK.1 hP 19 18 (f := st.2.1 18) (n := 30) (cA := k 18) rfl rfl (i := a1) (ob_X10_lift_41_9 st a1 a2 hok h11_1 h18_2 h33_3) dX10_lift_41 ?_
        refine lv_icmp_lt (tgt := 49) hx hb dX10_lift_42 (by decide) (fun h42_10 => ?_) (fun h42_10 => ?_)
        · have he := (if_pos h42_10).symm.trans he
          refine lv_iconst (v := 0) hx hb dX10_lift_49 (by decide) ?_
          refine lv_istore_n (lv' := [(3, .int 0), (0, .ref (q 0)), (1, .int a1), (2, .int a2)]) hx hb dX10_lift_50 rfl hl (by decide) rfl (fun ls hl => ?_)
          refine lv_aload_n hx hb dX10_lift_51 rfl (lv_at hl 1 rfl) ?_
          refine lv_iload_n hx hb dX10_lift_52 rfl (lv_at hl 0 rfl) ?_
          refine lv_if_ne (tgt := 60) hx hb dX10_lift_53 (by decide) (fun h9 => absurd h9 (by decide)) (fun _ => ?_)
          refine lv_iconst (v := 1) hx hb dX10_lift_56 (by decide) ?_
          refine lv_goto (tgt := 74) hx hb dX10_lift_57 (by decide) ?_
          refine va_calli (va_runV (As := [.int 1]) (rest := []) ⟨hx, hb, hml, hown, hts⟩ (c_X10_says l dC dI q k st 1 hq _ rfl) (cwV 1 hts gX10_lift_X10_says rfl rfl rfl (by decide +kernel) ⟨Nat.le_of_ble_eq_true rfl, Nat.le_of_ble_eq_true rfl⟩) ⟨fb_M, va_recv hK.1 hP (ci := 10) (q0 := 0) rfl rfl, fun U hU hW => ⟨rfl, by rw [hU]; exact hP, hK.warm hW⟩⟩ rfl rfl hl.1 rfl (lv_room (Nat.le_of_ble_eq_true rfl)) dX10_lift_74 ⟨Nat.le_of_ble_eq_true rfl, Nat.le_of_ble_eq_true rfl⟩) hS (fun _ _ h => h) (fun _ h => h) (fun r9 u9 t9 H locs ht9 hv9 e9 hB9 hz9 hk9 hS => ?_)
          rw [ht9, says_2] at hB9
          replace e9 : r9 = 0 := e9.trans (saysV_1 _)
          subst e9
          have hP : va_P (dC, dI) vwCl (wM q k (sI st 10 1)) H := hB9
          refine lv_if_eq (tgt := 87) hx hb dX10_lift_77 (by decide) (fun _ => ?_) (fun h9 => absurd h9 (by decide))
          exact W.vret hx hb hr (fun t ht hW => ⟨⟨(), rfl, trivial, by show va_P _ _ _ t.heap; rw [ht, ← he]; exact hP⟩, hS.F ht⟩) hS.2.2 dX10_lift_87
        · have he := (if_neg h42_10).symm.trans he
          refine lv_iconst (v := 1) hx hb dX10_lift_45 (by decide) ?_
          refine lv_goto (tgt := 50) hx hb dX10_lift_46 (by decide) ?_
          refine lv_istore_n (lv' := [(3, .int 1), (0, .ref (q 0)), (1, .int a1), (2, .int a2)]) hx hb dX10_lift_50 rfl hl (by decide) rfl (fun ls hl => ?_)
          refine lv_aload_n hx hb dX10_lift_51 rfl (lv_at hl 1 rfl) ?_
          refine lv_iload_n hx hb dX10_lift_52 rfl (lv_at hl 0 rfl) ?_
          refine lv_if_ne (tgt := 60) hx hb dX10_lift_53 (by decide) (fun _ => ?_) (fun h9 => absurd h9 (by decide))
          refine lv_aload_n hx hb dX10_lift_60 rfl (lv_at hl 1 rfl) ?_
          refine va_get (D := (dC, dI)) (ci := 10) (v := .ref (q 20)) (C := RX10) (T := TX10) (N := 45) hx hb hts hi10 hown hK.1 hP 0 rfl rfl 38 (by decide) hf103 (fun _ h9 => h9) rfl dX10_lift_61 ?_
          refine lv_iload_n hx hb dX10_lift_64 rfl (lv_at hl 2 rfl) ?_
          refine va_iald hx hb hK.1 hP 20 19 (f := st.2.1 19) (n := 30) (cA := k 19) rfl rfl (i := a1) (ob_X10_lift_65_11 st a1 a2 hok h11_1 h18_2 h33_3 h42_10) dX10_lift_65 ?_
          refine lv_if_lt (tgt := 73) hx hb dX10_lift_66 (by decide) (fun h66_12 => ?_) (fun h66_12 => ?_)
          · have he := (if_pos h66_12).symm.trans he
            refine lv_iconst (v := 0) hx hb dX10_lift_73 (by decide) ?_
            refine va_calli (va_runV (As := [.int 0]) (rest := []) ⟨hx, hb, hml, hown, hts⟩ (c_X10_says l dC dI q k st 0 hq _ rfl) (cwV 1 hts gX10_lift_X10_says rfl rfl rfl (by decide +kernel) ⟨Nat.le_of_ble_eq_true rfl, Nat.le_of_ble_eq_true rfl⟩) ⟨fb_M, va_recv hK.1 hP (ci := 10) (q0 := 0) rfl rfl, fun U hU hW => ⟨rfl, by rw [hU]; exact hP, hK.warm hW⟩⟩ rfl rfl hl.1 rfl (lv_room (Nat.le_of_ble_eq_true rfl)) dX10_lift_74 ⟨Nat.le_of_ble_eq_true rfl, Nat.le_of_ble_eq_true rfl⟩) hS (fun _ _ h => h) (fun _ h => h) (fun r9 u9 t9 H locs ht9 hv9 e9 hB9 hz9 hk9 hS => ?_)
            rw [ht9, says_2] at hB9
            replace e9 : r9 = 1 := e9.trans (saysV_0 _)
            subst e9
            have hP : va_P (dC, dI) vwCl (wM q k (sI st 10 0)) H := hB9
            refine lv_if_eq (tgt := 87) hx hb dX10_lift_77 (by decide) (fun h9 => absurd h9 (by decide)) (fun _ => ?_)
            refine lv_aload_n hx hb dX10_lift_80 rfl (lv_at hl 1 rfl) ?_
            refine va_get (D := (dC, dI)) (ci := 10) (v := .ref (q 20)) (C := RX10) (T := TX10) (N := 45) hx hb hts hi10 hown hK.1 hP 0 rfl rfl 38 (by decide) hf103 (fun _ h9 => h9) rfl dX10_lift_81 ?_
            refine lv_iload_n hx hb dX10_lift_84 rfl (lv_at hl 2 rfl) ?_
            refine lv_iload_n hx hb dX10_lift_85 rfl (lv_at hl 3 rfl) ?_
            refine va_iast hx hb hK.1 hP (dM_of hq) hS 20 19 (f := st.2.1 19) (n := 30) (cA := k 19) rfl rfl (i := a1) (x := a2) (ob_X10_lift_86_13 st a1 a2 hok h11_1 h18_2 h33_3 h42_10 h66_12) dX10_lift_86 (fun H locs hP _ hS => ?_)
            have hP : va_P (dC, dI) vwCl (wM q k (sA (sI st 10 0) 19 a1.toNatClampNeg a2)) H := hP
            exact W.vret hx hb hr (fun t ht hW => ⟨⟨(), rfl, trivial, by show va_P _ _ _ t.heap; rw [ht, ← he]; exact hP⟩, hS.F ht⟩) hS.2.2 dX10_lift_87
          · have he := (if_neg h66_12).symm.trans he
            refine lv_iconst (v := 2) hx hb dX10_lift_69 (by decide) ?_
            refine lv_goto (tgt := 74) hx hb dX10_lift_70 (by decide) ?_
            refine va_calli (va_runV (As := [.int 2]) (rest := []) ⟨hx, hb, hml, hown, hts⟩ (c_X10_says l dC dI q k st 2 hq _ rfl) (cwV 1 hts gX10_lift_X10_says rfl rfl rfl (by decide +kernel) ⟨Nat.le_of_ble_eq_true rfl, Nat.le_of_ble_eq_true rfl⟩) ⟨fb_M, va_recv hK.1 hP (ci := 10) (q0 := 0) rfl rfl, fun U hU hW => ⟨rfl, by rw [hU]; exact hP, hK.warm hW⟩⟩ rfl rfl hl.1 rfl (lv_room (Nat.le_of_ble_eq_true rfl)) dX10_lift_74 ⟨Nat.le_of_ble_eq_true rfl, Nat.le_of_ble_eq_true rfl⟩) hS (fun _ _ h => h) (fun _ h => h) (fun r9 u9 t9 H locs ht9 hv9 e9 hB9 hz9 hk9 hS => ?_)
            rw [ht9, says_2] at hB9
            replace e9 : r9 = 0 := e9.trans (saysV_2 _)
            subst e9
            have hP : va_P (dC, dI) vwCl (wM q k (sI st 10 2)) H := hB9
            refine lv_if_eq (tgt := 87) hx hb dX10_lift_77 (by decide) (fun _ => ?_) (fun h9 => absurd h9 (by decide))
            exact W.vret hx hb hr (fun t ht hW => ⟨⟨(), rfl, trivial, by show va_P _ _ _ t.heap; rw [ht, ← he]; exact hP⟩, hS.F ht⟩) hS.2.2 dX10_lift_87

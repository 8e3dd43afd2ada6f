set_option maxHeartbeats 4000000 in
set_option maxRecDepth 100000 in
theorem c_X4_total (l : Launch) (dC : Nat → ClassId) (dI : Nat → Nat → Nat) (q : Nat → Nat) (k : Nat → ClassId) (st : St)  (res : Int32) (hres : sp_X4_total st = res) : Met l yX4_total wsX4_total ({ frames := 0, cells := 0, slots := 0, locals := 0 } : Room) (va_Pc [.ref (q 7)] (fun U => va_P (dC, dI) vwCl (wC q k st) U.heap ∧ KC (dC, dI) k U)) (vp_Si (fun r => r = res)) 0 0 (fun _ => False) := by
  refine Met.ofW (cc := cX4_total) (maxL := 1) (ret := (some .int)) (by decide) rfl ?_
  intro p e s m args below meth c s₁ B hml hv
  obtain ⟨rfl, hP, hK⟩ := hv
  have hx := B.exec
  have hb := B.bytes
  have hr := B.returns
  have hts := atoms_spec (ws := wsX4_total) B.pre
  have hown : s.vm.findClass RX4 = some m.cls := findClass_of_methodNamed B.named
  have hlocks := B.notSynchronized
  have hi4 : ∀ w ∈ wsX40, w ∈ wsX4_total := by decide +kernel
  have hf24 := hts (.fieldLink RX4 24 "ConsentRegister$Holds" "count" "I") (by decide +kernel)
  have hl := lv_entry ([.ref (q 7)]) (n := 1) (Nat.le_of_ble_eq_true rfl)
  rw [lg_entry_eq]
  generalize (lg_sl ([.ref (q 7)]) ++ List.replicate (1 - (lg_sl ([.ref (q 7)])).length) Slot.unset).toArray = ls at hl ⊢
  have hl : lv_has ls 1 [(0, .ref (q 7))] := hl
  have he := hres
  unfold sp_X4_total at he
  refine lv_aload_n hx hb dX4_total_0 rfl (lv_at hl 0 rfl) ?_
  refine va_get (D := (dC, dI)) (ci := 4) (v := .int (st.1 6)) (C := RX4) (T := TX4) (N := 5) hx hb hts hi4 hown hK.1 hP 7 rfl rfl 4 (by decide) hf24 (fun _ h9 => h9) rfl dX4_total_1 ?_
  exact W.iret (v := st.1 6) hx hb hr (fun t ht hW => ⟨_, rfl, he, ht⟩) (fun _ h => nomatch h) dX4_total_4
set_option maxHeartbeats 4000000 in
set_option maxRecDepth 100000 in
theorem c_X4_has (l : Launch) (dC : Nat → ClassId) (dI : Nat → Nat → Nat) (q : Nat → Nat) (k : Nat → ClassId) (st : St) (a1 : Int32)  (res : Int32) (hres : sp_X4_has st a1 = res) : Met l yX4_has wsX4_has ({ frames := 0, cells := 0, slots := 0, locals := 0 } : Room) (va_Pc [.ref (q 7), .int a1] (fun U => va_P (dC, dI) vwCl (wC q k st) U.heap ∧ KC (dC, dI) k U)) (vp_Si (fun r => r = res)) 0 0 (fun _ => False) := by
  refine Met.ofW (cc := cX4_has) (maxL := 2) (ret := (some .boolean)) (by decide) rfl ?_
  intro p e s m args below meth c s₁ B hml hv
  obtain ⟨rfl, hP, hK⟩ := hv
  have hx := B.exec
  have hb := B.bytes
  have hr := B.returns
  have hts := atoms_spec (ws := wsX4_has) B.pre
  have hown : s.vm.findClass RX4 = some m.cls := findClass_of_methodNamed B.named
  have hlocks := B.notSynchronized
  have hi4 : ∀ w ∈ wsX40, w ∈ wsX4_has := by decide +kernel
  have hf24 := hts (.fieldLink RX4 24 "ConsentRegister$Holds" "count" "I") (by decide +kernel)
  have hl := lv_entry ([.ref (q 7), .int a1]) (n := 2) (Nat.le_of_ble_eq_true rfl)
  rw [lg_entry_eq]
  generalize (lg_sl ([.ref (q 7), .int a1]) ++ List.replicate (2 - (lg_sl ([.ref (q 7), .int a1])).length) Slot.unset).toArray = ls at hl ⊢
  have hl : lv_has ls 2 [(0, .ref (q 7)), (1, .int a1)] := hl
  have he := hres
  unfold sp_X4_has at he
  refine lv_iload_n hx hb dX4_has_0 rfl (lv_at hl 1 rfl) ?_
  refine lv_if_lt (tgt := 16) hx hb dX4_has_1 (by decide) (fun h1_1 => ?_) (fun h1_1 => ?_)
  · have he := (if_pos h1_1).symm.trans he
    refine lv_iconst (v := 0) hx hb dX4_has_16 (by decide) ?_
    exact W.zret (v := 0) hx hb hr rfl (fun t ht hW => ⟨_, rfl, he, ht⟩) (fun _ h => nomatch h) dX4_has_17
  · have he := (if_neg h1_1).symm.trans he
    refine lv_iload_n hx hb dX4_has_4 rfl (lv_at hl 1 rfl) ?_
    refine lv_aload_n hx hb dX4_has_5 rfl (lv_at hl 0 rfl) ?_
    refine va_get (D := (dC, dI)) (ci := 4) (v := .int (st.1 6)) (C := RX4) (T := TX4) (N := 5) hx hb hts hi4 hown hK.1 hP 7 rfl rfl 4 (by decide) hf24 (fun _ h9 => h9) rfl dX4_has_6 ?_
    refine lv_icmp_ge (tgt := 16) hx hb dX4_has_9 (by decide) (fun h9_2 => ?_) (fun h9_2 => ?_)
    · have he := (if_pos h9_2).symm.trans he
      refine lv_iconst (v := 0) hx hb dX4_has_16 (by decide) ?_
      exact W.zret (v := 0) hx hb hr rfl (fun t ht hW => ⟨_, rfl, he, ht⟩) (fun _ h => nomatch h) dX4_has_17
    · have he := (if_neg h9_2).symm.trans he
      refine lv_iconst (v := 1) hx hb dX4_has_12 (by decide) ?_
      refine lv_goto (tgt := 17) hx hb dX4_has_13 (by decide) ?_
      exact W.zret (v := 1) hx hb hr rfl (fun t ht hW => ⟨_, rfl, he, ht⟩) (fun _ h => nomatch h) dX4_has_17
set_option maxHeartbeats 4000000 in
set_option maxRecDepth 100000 in
theorem c_X4_add (l : Launch) (dC : Nat → ClassId) (dI : Nat → Nat → Nat) (q : Nat → Nat) (k : Nat → ClassId) (st : St) (a1 : Int32) (a2 : Int32) (a3 : Int32) (hq : ∀ i j, i < 43 → j < 43 → q i = q j → i = j) (hok : okC st) (res : Int32 × St) (hres : sp_X4_add st a1 a2 a3 = res) : Met l yX4_add wsX4_add ({ frames := 0, cells := 0, slots := 0, locals := 0 } : Room) (va_Pc [.ref (q 7), .int a1, .int a2, .int a3] (fun U => va_P (dC, dI) vwCl (wC q k st) U.heap ∧ KC (dC, dI) k U)) (va_Qi (fun r (_ : Unit) => r = res.1) (fun _ t => va_P (dC, dI) vwCl (wC q k res.2) t.heap) (aC q)) 0 0 (aC q) := by
  refine Met.ofW (cc := cX4_add) (maxL := 4) (ret := (some .int)) (by decide) rfl ?_
  intro p e s m args below meth c s₁ B hml hv
  obtain ⟨rfl, hP, hK⟩ := hv
  have hx := B.exec
  have hb := B.bytes
  have hr := B.returns
  have hts := atoms_spec (ws := wsX4_add) B.pre
  have hown : s.vm.findClass RX4 = some m.cls := findClass_of_methodNamed B.named
  have hlocks := B.notSynchronized
  have hS : va_S (aC q) s.heap s.heap [] := va_S.rf
  have hi4 : ∀ w ∈ wsX40, w ∈ wsX4_add := by decide +kernel
  have hf11 := hts (.fieldLink RX4 11 "ConsentRegister$Holds" "subjects" "[I") (by decide +kernel)
  have hf15 := hts (.fieldLink RX4 15 "ConsentRegister$Holds" "purposes" "[I") (by decide +kernel)
  have hf18 := hts (.fieldLink RX4 18 "ConsentRegister$Holds" "starts" "[I") (by decide +kernel)
  have hf21 := hts (.fieldLink RX4 21 "ConsentRegister$Holds" "ends" "[I") (by decide +kernel)
  have hf24 := hts (.fieldLink RX4 24 "ConsentRegister$Holds" "count" "I") (by decide +kernel)
  have hl := lv_entry ([.ref (q 7), .int a1, .int a2, .int a3]) (n := 4) (Nat.le_of_ble_eq_true rfl)
  rw [lg_entry_eq]
  generalize (lg_sl ([.ref (q 7), .int a1, .int a2, .int a3]) ++ List.replicate (4 - (lg_sl ([.ref (q 7), .int a1, .int a2, .int a3])).length) Slot.unset).toArray = ls at hl ⊢
  have hl : lv_has ls 4 [(0, .ref (q 7)), (1, .int a1), (2, .int a2), (3, .int a3)] := hl
  have he := hres
  unfold sp_X4_add at he
  refine lv_aload_n hx hb dX4_add_0 rfl (lv_at hl 0 rfl) ?_
  refine va_get (D := (dC, dI)) (ci := 4) (v := .int (st.1 6)) (C := RX4) (T := TX4) (N := 5) hx hb hts hi4 hown hK.1 hP 7 rfl rfl 4 (by decide) hf24 (fun _ h9 => h9) rfl dX4_add_1 ?_
  refine lv_bipush (v := 30) hx hb dX4_add_4 (by decide) ?_
  refine lv_icmp_lt (tgt := 11) hx hb dX4_add_6 (by decide) (fun h6_1 => ?_) (fun h6_1 => ?_)
  · have he := (if_pos h6_1).symm.trans he
    refine lv_aload_n hx hb dX4_add_11 rfl (lv_at hl 0 rfl) ?_
    refine va_get (D := (dC, dI)) (ci := 4) (v := .ref (q 26)) (C := RX4) (T := TX4) (N := 5) hx hb hts hi4 hown hK.1 hP 7 rfl rfl 0 (by decide) hf11 (fun _ h9 => h9) rfl dX4_add_12 ?_
    refine lv_aload_n hx hb dX4_add_15 rfl (lv_at hl 0 rfl) ?_
    refine va_get (D := (dC, dI)) (ci := 4) (v := .int (st.1 6)) (C := RX4) (T := TX4) (N := 5) hx hb hts hi4 hown hK.1 hP 7 rfl rfl 4 (by decide) hf24 (fun _ h9 => h9) rfl dX4_add_16 ?_
    refine lv_iload_n hx hb dX4_add_19 rfl (lv_at hl 1 rfl) ?_
    refine va_iast hx hb hK.1 hP (dC_of hq) hS 26 16 (f := st.2.1 16) (n := 30) (cA := k 16) rfl rfl (i := st.1 6) (x := a1) (ob_X4_add_20_2 st a1 a2 a3 hok h6_1) dX4_add_20 (fun H locs hP _ hS => ?_)
    have hP : va_P (dC, dI) vwCl (wC q k (sA st 16 ((st.1 6).toNatClampNeg) a1)) H := hP
    refine lv_aload_n hx hb dX4_add_21 rfl (lv_at hl 0 rfl) ?_
    refine va_get (D := (dC, dI)) (ci := 4) (v := .ref (q 27)) (C := RX4) (T := TX4) (N := 5) hx hb hts hi4 hown hK.1 hP 7 rfl rfl 1 (by decide) hf15 (fun _ h9 => h9) rfl dX4_add_22 ?_
    refine lv_aload_n hx hb dX4_add_25 rfl (lv_at hl 0 rfl) ?_
    refine va_get (D := (dC, dI)) (ci := 4) (v := .int (st.1 6)) (C := RX4) (T := TX4) (N := 5) hx hb hts hi4 hown hK.1 hP 7 rfl rfl 4 (by decide) hf24 (fun _ h9 => h9) rfl dX4_add_26 ?_
    refine lv_iload_n hx hb dX4_add_29 rfl (lv_at hl 2 rfl) ?_
    refine va_iast hx hb hK.1 hP (dC_of hq) hS 27 17 (f := st.2.1 17) (n := 30) (cA := k 17) rfl rfl (i := st.1 6) (x := a2) (ob_X4_add_30_3 st a1 a2 a3 hok h6_1) dX4_add_30 (fun H locs hP _ hS => ?_)
    have hP : va_P (dC, dI) vwCl (wC q k (sA (sA st 16 ((st.1 6).toNatClampNeg) a1) 17 ((st.1 6).toNatClampNeg) a2)) H := hP
    refine lv_aload_n hx hb dX4_add_31 rfl (lv_at hl 0 rfl) ?_
    refine va_get (D := (dC, dI)) (ci := 4) (v := .ref (q 28)) (C := RX4) (T := TX4) (N := 5) hx hb hts hi4 hown hK.1 hP 7 rfl rfl 2 (by decide) hf18 (fun _ h9 => h9) rfl dX4_add_32 ?_
    refine lv_aload_n hx hb dX4_add_35 rfl (lv_at hl 0 rfl) ?_
    refine va_get (D := (dC, dI)) (ci := 4) (v := .int (st.1 6)) (C := RX4) (T := TX4) (N := 5) hx hb hts hi4 hown hK.1 hP 7 rfl rfl 4 (by decide) hf24 (fun _ h9 => h9) rfl dX4_add_36 ?_
    refine lv_iload_n hx hb dX4_add_39 rfl (lv_at hl 3 rfl) ?_
    refine va_iast hx hb hK.1 hP (dC_of hq) hS 28 18 (f := st.2.1 18) (n := 30) (cA := k 18) rfl rfl (i := st.1 6) (x := a3) (ob_X4_add_40_4 st a1 a2 a3 hok h6_1) dX4_add_40 (fun H locs hP _ hS => ?_)
    have hP : va_P (dC, dI) vwCl (wC q k (sA (sA (sA st 16 ((st.1 6).toNatClampNeg) a1) 17 ((st.1 6).toNatClampNeg) a2) 18 ((st.1 6).toNatClampNeg) a3)) H := hP
    refine lv_aload_n hx hb dX4_add_41 rfl (lv_at hl 0 rfl) ?_
    refine va_get (D := (dC, dI)) (ci := 4) (v := .ref (q 29)) (C := RX4) (T := TX4) (N := 5) hx hb hts hi4 hown hK.1 hP 7 rfl rfl 3 (by decide) hf21 (fun _ h9 => h9) rfl dX4_add_42 ?_
    refine lv_aload_n hx hb dX4_add_45 rfl (lv_at hl 0 rfl) ?_
    refine va_get (D := (dC, dI)) (ci := 4) (v := .int (st.1 6)) (C := RX4) (T := TX4) (N := 5) hx hb hts hi4 hown hK.1 hP 7 rfl rfl 4 (by decide) hf24 (fun _ h9 => h9) rfl dX4_add_46 ?_
    refine lv_sipush (v := 6945) hx hb dX4_add_49 (by decide) ?_
    refine va_iast hx hb hK.1 hP (dC_of hq) hS 29 19 (f := st.2.1 19) (n := 30) (cA := k 19) rfl rfl (i := st.1 6) (x := 6945) (ob_X4_add_52_5 st a1 a2 a3 hok h6_1) dX4_add_52 (fun H locs hP _ hS => ?_)
    have hP : va_P (dC, dI) vwCl (wC q k (sA (sA (sA (sA st 16 ((st.1 6).toNatClampNeg) a1) 17 ((st.1 6).toNatClampNeg) a2) 18 ((st.1 6).toNatClampNeg) a3) 19 ((st.1 6).toNatClampNeg) 6945)) H := hP
    refine lv_aload_n hx hb dX4_add_53 rfl (lv_at hl 0 rfl) ?_
    refine lv_dup hx hb dX4_add_54 rfl ?_
    refine va_get (D := (dC, dI)) (ci := 4) (v := .int (st.1 6)) (C := RX4) (T := TX4) (N := 5) hx hb hts hi4 hown hK.1 hP 7 rfl rfl 4 (by decide) hf24 (fun _ h9 => h9) rfl dX4_add_55 ?_
    refine lv_iconst (v := 1) hx hb dX4_add_58 (by decide) ?_
    refine lv_iadd hx hb dX4_add_59 ?_
    refine va_put (D := (dC, dI)) (ci := 4) (v := .int ((st.1 6) + 1)) (ty := .int) (C := RX4) (T := TX4) (N := 5) hx hb hts hi4 tyX4 tyX4_ok nmX4 hown hK.1 hP (dC_of hq) hS 7 rfl rfl 4 (by decide) hf24 (fun _ h9 => h9) rfl (by decide +kernel) rfl rfl (Nat.le_of_ble_eq_true rfl) dX4_add_60 (fun H locs hP _ hS => ?_)
    have hP : va_P (dC, dI) vwCl (wC q k (sI (sA (sA (sA (sA st 16 ((st.1 6).toNatClampNeg) a1) 17 ((st.1 6).toNatClampNeg) a2) 18 ((st.1 6).toNatClampNeg) a3) 19 ((st.1 6).toNatClampNeg) 6945) 6 ((st.1 6) + 1))) H := hP
    refine lv_aload_n hx hb dX4_add_63 rfl (lv_at hl 0 rfl) ?_
    refine va_get (D := (dC, dI)) (ci := 4) (v := .int ((st.1 6) + 1)) (C := RX4) (T := TX4) (N := 5) hx hb hts hi4 hown hK.1 hP 7 rfl rfl 4 (by decide) hf24 (fun _ h9 => h9) rfl dX4_add_64 ?_
    refine lv_iconst (v := 1) hx hb dX4_add_67 (by decide) ?_
    refine lv_isub hx hb dX4_add_68 ?_
    exact W.iret (v := ((st.1 6) + 1) - 1) hx hb hr (fun t ht hW => ⟨⟨_, (), rfl, by show _ = Prod.fst _; rw [← he], by show va_P _ _ _ t.heap; rw [ht, ← he]; exact hP⟩, hS.F ht⟩) hS.2.2 dX4_add_69
  · have he := (if_neg h6_1).symm.trans he
    refine lv_iconst (v := (-1)) hx hb dX4_add_9 (by decide) ?_
    exact W.iret (v := (-1)) hx hb hr (fun t ht hW => ⟨⟨_, (), rfl, by show _ = Prod.fst _; rw [← he], by show va_P _ _ _ t.heap; rw [ht, ← he]; exact hP⟩, hS.F ht⟩) hS.2.2 dX4_add_10
set_option maxHeartbeats 4000000 in
set_option maxRecDepth 100000 in
theorem c_X4_firstDayOf (l : Launch) (dC : Nat → ClassId) (dI : Nat → Nat → Nat) (q : Nat → Nat) (k : Nat → ClassId) (st : St) (a1 : Int32) (hok : okC st) (res : Int32) (hres : sp_X4_firstDayOf st a1 = res) : Met l yX4_firstDayOf wsX4_firstDayOf ({ frames := 1, cells := 0, slots := 0, locals := 21 } : Room) (va_Pc [.ref (q 7), .int a1] (fun U => va_P (dC, dI) vwCl (wC q k st) U.heap ∧ KC (dC, dI) k U)) (vp_Si (fun r => r = res)) 0 0 (fun _ => False) := by
  refine Met.ofW (cc := cX4_firstDayOf) (maxL := 2) (ret := (some .int)) (by decide) rfl ?_
  intro p e s m args below meth c s₁ B hml hv
  obtain ⟨rfl, hP, hK⟩ := hv
  have hx := B.exec
  have hb := B.bytes
  have hr := B.returns
  have hts := atoms_spec (ws := wsX4_firstDayOf) B.pre
  have hown : s.vm.findClass RX4 = some m.cls := findClass_of_methodNamed B.named
  have hlocks := B.notSynchronized
  have hi4 : ∀ w ∈ wsX40, w ∈ wsX4_firstDayOf := by decide +kernel
  have hf18 := hts (.fieldLink RX4 18 "ConsentRegister$Holds" "starts" "[I") (by decide +kernel)
  have hl := lv_entry ([.ref (q 7), .int a1]) (n := 2) (Nat.le_of_ble_eq_true rfl)
  rw [lg_entry_eq]
  generalize (lg_sl ([.ref (q 7), .int a1]) ++ List.replicate (2 - (lg_sl ([.ref (q 7), .int a1])).length) Slot.unset).toArray = ls at hl ⊢
  have hl : lv_has ls 2 [(0, .ref (q 7)), (1, .int a1)] := hl
  have he := hres
  unfold sp_X4_firstDayOf at he
  refine lv_aload_n hx hb dX4_firstDayOf_0 rfl (lv_at hl 0 rfl) ?_
  refine lv_iload_n hx hb dX4_firstDayOf_1 rfl (lv_at hl 1 rfl) ?_
  refine vp_callSi (va_Run.run (va_runV (As := [.int a1]) (rest := []) ⟨hx, hb, hml, hown, hts⟩ (c_X4_has l dC dI q k st a1 _ rfl) (cwV 1 hts gX4_firstDayOf_X4_has rfl rfl rfl (by decide +kernel) ⟨Nat.le_of_ble_eq_true rfl, Nat.le_of_ble_eq_true rfl⟩) ⟨fb_C, va_recv hK.1 hP (ci := 4) (q0 := 7) rfl rfl, fun U hU hW => ⟨rfl, by rw [hU]; exact hP, hK.warm hW⟩⟩ rfl rfl hl.1 rfl (lv_room (Nat.le_of_ble_eq_true rfl)) dX4_firstDayOf_2 ⟨Nat.le_of_ble_eq_true rfl, Nat.le_of_ble_eq_true rfl⟩)) (fun r9 e9 => ?_)
  subst e9
  refine lv_if_eq (tgt := 17) hx hb dX4_firstDayOf_5 (by decide) (fun h5_1 => ?_) (fun h5_1 => ?_)
  · have he := (if_pos h5_1).symm.trans he
    refine lv_sipush (v := 6945) hx hb dX4_firstDayOf_17 (by decide) ?_
    exact W.iret (v := 6945) hx hb hr (fun t ht hW => ⟨_, rfl, he, ht⟩) (fun _ h => nomatch h) dX4_firstDayOf_20
  · have he := (if_neg h5_1).symm.trans he
    refine lv_aload_n hx hb dX4_firstDayOf_8 rfl (lv_at hl 0 rfl) ?_
    refine va_get (D := (dC, dI)) (ci := 4) (v := .ref (q 28)) (C := RX4) (T := TX4) (N := 5) hx hb hts hi4 hown hK.1 hP 7 rfl rfl 2 (by decide) hf18 (fun _ h9 => h9) rfl dX4_firstDayOf_9 ?_
    refine lv_iload_n hx hb dX4_firstDayOf_12 rfl (lv_at hl 1 rfl) ?_
    refine va_iald hx hb hK.1 hP 28 18 (f := st.2.1 18) (n := 30) (cA := k 18) rfl rfl (i := a1) (ob_X4_firstDayOf_13_2 st a1 hok h5_1) dX4_firstDayOf_13 ?_
    refine lv_goto (tgt := 20) hx hb dX4_firstDayOf_14 (by decide) ?_
    exact W.iret (v := st.2.1 18 a1.toNatClampNeg) hx hb hr (fun t ht hW => ⟨_, rfl, he, ht⟩) (fun _ h => nomatch h) dX4_firstDayOf_20
set_option maxHeartbeats 4000000 in
set_option maxRecDepth 100000 in
theorem c_X4_isLifted (l : Launch) (dC : Nat → ClassId) (dI : Nat → Nat → Nat) (q : Nat → Nat) (k : Nat → ClassId) (st : St) (a1 : Int32) (hok : okC st) (res : Int32) (hres : sp_X4_isLifted st a1 = res) : Met l yX4_isLifted wsX4_isLifted ({ frames := 1, cells := 0, slots := 0, locals := 21 } : Room) (va_Pc [.ref (q 7), .int a1] (fun U => va_P (dC, dI) vwCl (wC q k st) U.heap ∧ KC (dC, dI) k U)) (vp_Si (fun r => r = res)) 0 0 (fun _ => False) := by
  refine Met.ofW (cc := cX4_isLifted) (maxL := 2) (ret := (some .boolean)) (by decide) rfl ?_
  intro p e s m args below meth c s₁ B hml hv
  obtain ⟨rfl, hP, hK⟩ := hv
  have hx := B.exec
  have hb := B.bytes
  have hr := B.returns
  have hts := atoms_spec (ws := wsX4_isLifted) B.pre
  have hown : s.vm.findClass RX4 = some m.cls := findClass_of_methodNamed B.named
  have hlocks := B.notSynchronized
  have hi4 : ∀ w ∈ wsX40, w ∈ wsX4_isLifted := by decide +kernel
  have hf21 := hts (.fieldLink RX4 21 "ConsentRegister$Holds" "ends" "[I") (by decide +kernel)
  have hl := lv_entry ([.ref (q 7), .int a1]) (n := 2) (Nat.le_of_ble_eq_true rfl)
  rw [lg_entry_eq]
  generalize (lg_sl ([.ref (q 7), .int a1]) ++ List.replicate (2 - (lg_sl ([.ref (q 7), .int a1])).length) Slot.unset).toArray = ls at hl ⊢
  have hl : lv_has ls 2 [(0, .ref (q 7)), (1, .int a1)] := hl
  have he := hres
  unfold sp_X4_isLifted at he
  refine lv_aload_n hx hb dX4_isLifted_0 rfl (lv_at hl 0 rfl) ?_
  refine lv_iload_n hx hb dX4_isLifted_1 rfl (lv_at hl 1 rfl) ?_
  refine vp_callSi (va_Run.run (va_runV (As := [.int a1]) (rest := []) ⟨hx, hb, hml, hown, hts⟩ (c_X4_has l dC dI q k st a1 _ rfl) (cwV 1 hts gX4_isLifted_X4_has rfl rfl rfl (by decide +kernel) ⟨Nat.le_of_ble_eq_true rfl, Nat.le_of_ble_eq_true rfl⟩) ⟨fb_C, va_recv hK.1 hP (ci := 4) (q0 := 7) rfl rfl, fun U hU hW => ⟨rfl, by rw [hU]; exact hP, hK.warm hW⟩⟩ rfl rfl hl.1 rfl (lv_room (Nat.le_of_ble_eq_true rfl)) dX4_isLifted_2 ⟨Nat.le_of_ble_eq_true rfl, Nat.le_of_ble_eq_true rfl⟩)) (fun r9 e9 => ?_)
  subst e9
  refine lv_if_eq (tgt := 24) hx hb dX4_isLifted_5 (by decide) (fun h5_1 => ?_) (fun h5_1 => ?_)
  · have he := (if_pos h5_1).symm.trans he
    refine lv_iconst (v := 0) hx hb dX4_isLifted_24 (by decide) ?_
    exact W.zret (v := 0) hx hb hr rfl (fun t ht hW => ⟨_, rfl, he, ht⟩) (fun _ h => nomatch h) dX4_isLifted_25
  · have he := (if_neg h5_1).symm.trans he
    refine lv_aload_n hx hb dX4_isLifted_8 rfl (lv_at hl 0 rfl) ?_
    refine va_get (D := (dC, dI)) (ci := 4) (v := .ref (q 29)) (C := RX4) (T := TX4) (N := 5) hx hb hts hi4 hown hK.1 hP 7 rfl rfl 3 (by decide) hf21 (fun _ h9 => h9) rfl dX4_isLifted_9 ?_
    refine lv_iload_n hx hb dX4_isLifted_12 rfl (lv_at hl 1 rfl) ?_
    refine va_iald hx hb hK.1 hP 29 19 (f := st.2.1 19) (n := 30) (cA := k 19) rfl rfl (i := a1) (ob_X4_isLifted_13_2 st a1 hok h5_1) dX4_isLifted_13 ?_
    refine lv_sipush (v := 6945) hx hb dX4_isLifted_14 (by decide) ?_
    refine lv_icmp_eq (tgt := 24) hx hb dX4_isLifted_17 (by decide) (fun h17_3 => ?_) (fun h17_3 => ?_)
    · have he := (if_pos h17_3).symm.trans he
      refine lv_iconst (v := 0) hx hb dX4_isLifted_24 (by decide) ?_
      exact W.zret (v := 0) hx hb hr rfl (fun t ht hW => ⟨_, rfl, he, ht⟩) (fun _ h => nomatch h) dX4_isLifted_25
    · have he := (if_neg h17_3).symm.trans he
      refine lv_iconst (v := 1) hx hb dX4_isLifted_20 (by decide) ?_
      refine lv_goto (tgt := 25) hx hb dX4_isLifted_21 (by decide) ?_
      exact W.zret (v := 1) hx hb hr rfl (fun t ht hW => ⟨_, rfl, he, ht⟩) (fun _ h => nomatch h) dX4_isLifted_25
set_option maxHeartbeats 4000000 in
set_option maxRecDepth 100000 in
theorem c_X4_endOn (l : Launch) (dC : Nat → ClassId) (dI : Nat → Nat → Nat) (q : Nat → Nat) (k : Nat → ClassId) (st : St) (a1 : Int32) (a2 : Int32) (hq : ∀ i j, i < 43 → j < 43 → q i = q j → i = j) (hok : okC st) (res : St) (hres : sp_X4_endOn st a1 a2 = res) : Met l yX4_endOn wsX4_endOn ({ frames := 1, cells := 0, slots := 0, locals := 21 } : Room) (va_Pc [.ref (q 7), .int a1, .int a2] (fun U => va_P (dC, dI) vwCl (wC q k st) U.heap ∧ KC (dC, dI) k U)) (va_Qv (fun (_ : Unit) => True) (fun _ t => va_P (dC, dI) vwCl (wC q k res) t.heap) (aC q)) 0 0 (aC q) := by
  refine Met.ofW (cc := cX4_endOn) (maxL := 3) (ret := none) (by decide) rfl ?_
  intro p e s m args below meth c s₁ B hml hv
  obtain ⟨rfl, hP, hK⟩ := hv
  have hx := B.exec
  have hb := B.bytes
  have hr := B.returns
  have hts := atoms_spec (ws := wsX4_endOn) B.pre
  have hown : s.vm.findClass RX4 = some m.cls := findClass_of_methodNamed B.named
  have hlocks := B.notSynchronized
  have hS : va_S (aC q) s.heap s.heap [] := va_S.rf
  have hi4 : ∀ w ∈ wsX40, w ∈ wsX4_endOn := by decide +kernel
  have hf21 := hts (.fieldLink RX4 21 "ConsentRegister$Holds" "ends" "[I") (by decide +kernel)
  have hl := lv_entry ([.ref (q 7), .int a1, .int a2]) (n := 3) (Nat.le_of_ble_eq_true rfl)
  rw [lg_entry_eq]
  generalize (lg_sl ([.ref (q 7), .int a1, .int a2]) ++ List.replicate (3 - (lg_sl ([.ref (q 7), .int a1, .int a2])).length) Slot.unset).toArray = ls at hl ⊢
  have hl : lv_has ls 3 [(0, .ref (q 7)), (1, .int a1), (2, .int a2)] := hl
  have he := hres
  unfold sp_X4_endOn at he
  refine lv_aload_n hx hb dX4_endOn_0 rfl (lv_at hl 0 rfl) ?_
  refine lv_iload_n hx hb dX4_endOn_1 rfl (lv_at hl 1 rfl) ?_
  refine vp_callSi (va_Run.run (va_runV (As := [.int a1]) (rest := []) ⟨hx, hb, hml, hown, hts⟩ (c_X4_has l dC dI q k st a1 _ rfl) (cwV 1 hts gX4_endOn_X4_has rfl rfl rfl (by decide +kernel) ⟨Nat.le_of_ble_eq_true rfl, Nat.le_of_ble_eq_true rfl⟩) ⟨fb_C, va_recv hK.1 hP (ci := 4) (q0 := 7) rfl rfl, fun U hU hW => ⟨rfl, by rw [hU]; exact hP, hK.warm hW⟩⟩ rfl rfl hl.1 rfl (lv_room (Nat.le_of_ble_eq_true rfl)) dX4_endOn_2 ⟨Nat.le_of_ble_eq_true rfl, Nat.le_of_ble_eq_true rfl⟩)) (fun r9 e9 => ?_)
  subst e9
  refine lv_if_eq (tgt := 15) hx hb dX4_endOn_5 (by decide) (fun h5_1 => ?_) (fun h5_1 => ?_)
  · have he := (if_pos h5_1).symm.trans he
    exact W.vret hx hb hr (fun t ht hW => ⟨⟨(), rfl, trivial, by show va_P _ _ _ t.heap; rw [ht, ← he]; exact hP⟩, hS.F ht⟩) hS.2.2 dX4_endOn_15
  · have he := (if_neg h5_1).symm.trans he
    refine lv_aload_n hx hb dX4_endOn_8 rfl (lv_at hl 0 rfl) ?_
    refine va_get (D := (dC, dI)) (ci := 4) (v := .ref (q 29)) (C := RX4) (T := TX4) (N := 5) hx hb hts hi4 hown hK.1 hP 7 rfl rfl 3 (by decide) hf21 (fun _ h9 => h9) rfl dX4_endOn_9 ?_
    refine lv_iload_n hx hb dX4_endOn_12 rfl (lv_at hl 1 rfl) ?_
    refine lv_iload_n hx hb dX4_endOn_13 rfl (lv_at hl 2 rfl) ?_
    refine va_iast hx hb hK.1 hP (dC_of hq) hS 29 19 (f := st.2.1 19) (n := 30) (cA := k 19) rfl rfl (i := a1) (x := a2) (ob_X4_endOn_14_2 st a1 a2 hok h5_1) dX4_endOn_14 (fun H locs hP _ hS => ?_)
    have hP : va_P (dC, dI) vwCl (wC q k (sA st 19 a1.toNatClampNeg a2)) H := hP
    exact W.vret hx hb hr (fun t ht hW => ⟨⟨(), rfl, trivial, by show va_P _ _ _ t.heap; rw [ht, ← he]; exact hP⟩, hS.F ht⟩) hS.2.2 dX4_endOn_15
set_option maxHeartbeats 4000000 in
set_option maxRecDepth 100000 in
theorem c_X4_runsOn (l : Launch) (dC : Nat → ClassId) (dI : Nat → Nat → Nat) (q : Nat → Nat) (k : Nat → ClassId) (st : St) (a1 : Int32) (a2 : Int32) (hva1 : vp_in a1 30) (res : Int32) (hres : sp_X4_runsOn st a1 a2 = res) : Met l yX4_runsOn wsX4_runsOn ({ frames := 0, cells := 0, slots := 0, locals := 0 } : Room) (va_Pc [.ref (q 7), .int a1, .int a2] (fun U => va_P (dC, dI) vwCl (wC q k st) U.heap ∧ KC (dC, dI) k U)) (vp_Si (fun r => r = res)) 0 0 (fun _ => False) := by
  refine Met.ofW (cc := cX4_runsOn) (maxL := 3) (ret := (some .boolean)) (by decide) rfl ?_
  intro p e s m args below meth c s₁ B hml hv
  obtain ⟨rfl, hP, hK⟩ := hv
  have hx := B.exec
  have hb := B.bytes
  have hr := B.returns
  have hts := atoms_spec (ws := wsX4_runsOn) B.pre
  have hown : s.vm.findClass RX4 = some m.cls := findClass_of_methodNamed B.named
  have hlocks := B.notSynchronized
  have hi4 : ∀ w ∈ wsX40, w ∈ wsX4_runsOn := by decide +kernel
  have hf18 := hts (.fieldLink RX4 18 "ConsentRegister$Holds" "starts" "[I") (by decide +kernel)
  have hf21 := hts (.fieldLink RX4 21 "ConsentRegister$Holds" "ends" "[I") (by decide +kernel)
  have hl := lv_entry ([.ref (q 7), .int a1, .int a2]) (n := 3) (Nat.le_of_ble_eq_true rfl)
  rw [lg_entry_eq]
  generalize (lg_sl ([.ref (q 7), .int a1, .int a2]) ++ List.replicate (3 - (lg_sl ([.ref (q 7), .int a1, .int a2])).length) Slot.unset).toArray = ls at hl ⊢
  have hl : lv_has ls 3 [(0, .ref (q 7)), (1, .int a1), (2, .int a2)] := hl
  have he := hres
  unfold sp_X4_runsOn at he
  refine lv_aload_n hx hb dX4_runsOn_0 rfl (lv_at hl 0 rfl) ?_
  refine va_get (D := (dC, dI)) (ci := 4) (v := .ref (q 28)) (C := RX4) (T := TX4) (N := 5) hx hb hts hi4 hown hK.1 hP 7 rfl rfl 2 (by decide) hf18 (fun _ h9 => h9) rfl dX4_runsOn_1 ?_
  refine lv_iload_n hx hb dX4_runsOn_4 rfl (lv_at hl 1 rfl) ?_
  refine va_iald hx hb hK.1 hP 28 18 (f := st.2.1 18) (n := 30) (cA := k 18) rfl rfl (i := a1) (ob_X4_runsOn_5_1 st a1 a2 hva1) dX4_runsOn_5 ?_
  refine lv_iload_n hx hb dX4_runsOn_6 rfl (lv_at hl 2 rfl) ?_
  refine lv_icmp_gt (tgt := 24) hx hb dX4_runsOn_7 (by decide) (fun h7_2 => ?_) (fun h7_2 => ?_)
  · have he := (if_pos h7_2).symm.trans he
    refine lv_iconst (v := 0) hx hb dX4_runsOn_24 (by decide) ?_
    exact W.zret (v := 0) hx hb hr rfl (fun t ht hW => ⟨_, rfl, he, ht⟩) (fun _ h => nomatch h) dX4_runsOn_25
  · have he := (if_neg h7_2).symm.trans he
    refine lv_iload_n hx hb dX4_runsOn_10 rfl (lv_at hl 2 rfl) ?_
    refine lv_aload_n hx hb dX4_runsOn_11 rfl (lv_at hl 0 rfl) ?_
    refine va_get (D := (dC, dI)) (ci := 4) (v := .ref (q 29)) (C := RX4) (T := TX4) (N := 5) hx hb hts hi4 hown hK.1 hP 7 rfl rfl 3 (by decide) hf21 (fun _ h9 => h9) rfl dX4_runsOn_12 ?_
    refine lv_iload_n hx hb dX4_runsOn_15 rfl (lv_at hl 1 rfl) ?_
    refine va_iald hx hb hK.1 hP 29 19 (f := st.2.1 19) (n := 30) (cA := k 19) rfl rfl (i := a1) (ob_X4_runsOn_16_3 st a1 a2 hva1 h7_2) dX4_runsOn_16 ?_
    refine lv_icmp_ge (tgt := 24) hx hb dX4_runsOn_17 (by decide) (fun h17_4 => ?_) (fun h17_4 => ?_)
    · have he := (if_pos h17_4).symm.trans he
      refine lv_iconst (v := 0) hx hb dX4_runsOn_24 (by decide) ?_
      exact W.zret (v := 0) hx hb hr rfl (fun t ht hW => ⟨_, rfl, he, ht⟩) (fun _ h => nomatch h) dX4_runsOn_25
    · have he := (if_neg h17_4).symm.trans he
      refine lv_iconst (v := 1) hx hb dX4_runsOn_20 (by decide) ?_
      refine lv_goto (tgt := 25) hx hb dX4_runsOn_21 (by decide) ?_
      exact W.zret (v := 1) hx hb hr rfl (fun t ht hW => ⟨_, rfl, he, ht⟩) (fun _ h => nomatch h) dX4_runsOn_25
set_option maxHeartbeats 4000000 in
set_option maxRecDepth 100000 in
theorem c_X4_isOfPersons (l : Launch) (dC : Nat → ClassId) (dI : Nat → Nat → Nat) (q : Nat → Nat) (k : Nat → ClassId) (st : St) (a1 : Int32) (a2 : Int32) (hva1 : vp_in a1 30) (res : Int32) (hres : sp_X4_isOfPersons st a1 a2 = res) : Met l yX4_isOfPersons wsX4_isOfPersons ({ frames := 1, cells := 0, slots := 0, locals := 21 } : Room) (va_Pc [.ref (q 7), .int a1, .int a2] (fun U => va_P (dC, dI) vwCl (wC q k st) U.heap ∧ KC (dC, dI) k U)) (vp_Si (fun r => r = res)) 0 0 (fun _ => False) := by
  refine Met.ofW (cc := cX4_isOfPersons) (maxL := 3) (ret := (some .boolean)) (by decide) rfl ?_
  intro p e s m args below meth c s₁ B hml hv
  obtain ⟨rfl, hP, hK⟩ := hv
  have hx := B.exec
  have hb := B.bytes
  have hr := B.returns
  have hts := atoms_spec (ws := wsX4_isOfPersons) B.pre
  have hown : s.vm.findClass RX4 = some m.cls := findClass_of_methodNamed B.named
  have hlocks := B.notSynchronized
  have hi4 : ∀ w ∈ wsX40, w ∈ wsX4_isOfPersons := by decide +kernel
  have hf11 := hts (.fieldLink RX4 11 "ConsentRegister$Holds" "subjects" "[I") (by decide +kernel)
  have hl := lv_entry ([.ref (q 7), .int a1, .int a2]) (n := 3) (Nat.le_of_ble_eq_true rfl)
  rw [lg_entry_eq]
  generalize (lg_sl ([.ref (q 7), .int a1, .int a2]) ++ List.replicate (3 - (lg_sl ([.ref (q 7), .int a1, .int a2])).length) Slot.unset).toArray = ls at hl ⊢
  have hl : lv_has ls 3 [(0, .ref (q 7)), (1, .int a1), (2, .int a2)] := hl
  have he := hres
  unfold sp_X4_isOfPersons at he
  refine lv_aload_n hx hb dX4_isOfPersons_0 rfl (lv_at hl 0 rfl) ?_
  refine va_get (D := (dC, dI)) (ci := 4) (v := .ref (q 26)) (C := RX4) (T := TX4) (N := 5) hx hb hts hi4 hown hK.1 hP 7 rfl rfl 0 (by decide) hf11 (fun _ h9 => h9) rfl dX4_isOfPersons_1 ?_
  refine lv_iload_n hx hb dX4_isOfPersons_4 rfl (lv_at hl 1 rfl) ?_
  refine va_iald hx hb hK.1 hP 26 16 (f := st.2.1 16) (n := 30) (cA := k 16) rfl rfl (i := a1) (ob_X4_isOfPersons_5_1 st a1 a2 hva1) dX4_isOfPersons_5 ?_
  refine vp_callSi (va_Run.run (va_runSN (As := [.int (st.2.1 16 a1.toNatClampNeg)]) (rest := []) ⟨hx, hb, hml, hown, hts⟩ (c_X9_isPerson l (st.2.1 16 a1.toNatClampNeg) _ rfl) ⟨va_cnB 1 hts gX4_isOfPersons_X9_isPerson_n43 rfl rfl rfl (hK.2 (.methodLinkNest RX4 43 yX9_isPerson RX9) (by decide +kernel)) (hts (.initialized RX9) (by decide +kernel)) (by decide +kernel) ⟨Nat.le_of_ble_eq_true rfl, Nat.le_of_ble_eq_true rfl⟩, hts (.static yX9_isPerson) (by decide +kernel), trivial⟩ ⟨fb_T, fun U hU hW => ⟨rfl, trivial⟩⟩ rfl rfl hl.1 rfl (lv_room (Nat.le_of_ble_eq_true rfl)) dX4_isOfPersons_6 ⟨Nat.le_of_ble_eq_true rfl, Nat.le_of_ble_eq_true rfl⟩)) (fun r9 e9 => ?_)
  subst e9
  refine lv_if_eq (tgt := 29) hx hb dX4_isOfPersons_9 (by decide) (fun h9_2 => ?_) (fun h9_2 => ?_)
  · have he := (if_pos h9_2).symm.trans he
    refine lv_iconst (v := 0) hx hb dX4_isOfPersons_29 (by decide) ?_
    exact W.zret (v := 0) hx hb hr rfl (fun t ht hW => ⟨_, rfl, he, ht⟩) (fun _ h => nomatch h) dX4_isOfPersons_30
  · have he := (if_neg h9_2).symm.trans he
    refine lv_iload_n hx hb dX4_isOfPersons_12 rfl (lv_at hl 2 rfl) ?_
    refine lv_aload_n hx hb dX4_isOfPersons_13 rfl (lv_at hl 0 rfl) ?_
    refine va_get (D := (dC, dI)) (ci := 4) (v := .ref (q 26)) (C := RX4) (T := TX4) (N := 5) hx hb hts hi4 hown hK.1 hP 7 rfl rfl 0 (by decide) hf11 (fun _ h9 => h9) rfl dX4_isOfPersons_14 ?_
    refine lv_iload_n hx hb dX4_isOfPersons_17 rfl (lv_at hl 1 rfl) ?_
    refine va_iald hx hb hK.1 hP 26 16 (f := st.2.1 16) (n := 30) (cA := k 16) rfl rfl (i := a1) (ob_X4_isOfPersons_18_3 st a1 a2 hva1 h9_2) dX4_isOfPersons_18 ?_
    refine vp_callSi (va_Run.run (va_runSN (As := [.int a2, .int (st.2.1 16 a1.toNatClampNeg)]) (rest := []) ⟨hx, hb, hml, hown, hts⟩ (c_X9_isAmong l a2 (st.2.1 16 a1.toNatClampNeg) _ rfl) ⟨va_cnB 2 hts gX4_isOfPersons_X9_isAmong_n46 rfl rfl rfl (hK.2 (.methodLinkNest RX4 46 yX9_isAmong RX9) (by decide +kernel)) (hts (.initialized RX9) (by decide +kernel)) (by decide +kernel) ⟨Nat.le_of_ble_eq_true rfl, Nat.le_of_ble_eq_true rfl⟩, hts (.static yX9_isAmong) (by decide +kernel), trivial⟩ ⟨fb_T, fun U hU hW => ⟨rfl, trivial⟩⟩ rfl rfl hl.1 rfl (lv_room (Nat.le_of_ble_eq_true rfl)) dX4_isOfPersons_19 ⟨Nat.le_of_ble_eq_true rfl, Nat.le_of_ble_eq_true rfl⟩)) (fun r9 e9 => ?_)
    subst e9
    refine lv_if_eq (tgt := 29) hx hb dX4_isOfPersons_22 (by decide) (fun h22_4 => ?_) (fun h22_4 => ?_)
    · have he := (if_pos h22_4).symm.trans he
      refine lv_iconst (v := 0) hx hb dX4_isOfPersons_29 (by decide) ?_
      exact W.zret (v := 0) hx hb hr rfl (fun t ht hW => ⟨_, rfl, he, ht⟩) (fun _ h => nomatch h) dX4_isOfPersons_30
    · have he := (if_neg h22_4).symm.trans he
      refine lv_iconst (v := 1) hx hb dX4_isOfPersons_25 (by decide) ?_
      refine lv_goto (tgt := 30) hx hb dX4_isOfPersons_26 (by decide) ?_
      exact W.zret (v := 1) hx hb hr rfl (fun t ht hW => ⟨_, rfl, he, ht⟩) (fun _ h => nomatch h) dX4_isOfPersons_30
set_option maxHeartbeats 4000000 in
set_option maxRecDepth 100000 in
theorem c_X4_covers (l : Launch) (dC : Nat → ClassId) (dI : Nat → Nat → Nat) (q : Nat → Nat) (k : Nat → ClassId) (st : St) (a1 : Int32) (a2 : Int32) (a3 : Int32) (a4 : Int32) (hva1 : vp_in a1 30) (res : Int32) (hres : sp_X4_covers st a1 a2 a3 a4 = res) : Met l yX4_covers wsX4_covers ({ frames := 2, cells := 0, slots := 0, locals := 43 } : Room) (va_Pc [.ref (q 7), .int a1, .int a2, .int a3, .int a4] (fun U => va_P (dC, dI) vwCl (wC q k st) U.heap ∧ KC (dC, dI) k U)) (vp_Si (fun r => r = res)) 0 0 (fun _ => False) := by
  refine Met.ofW (cc := cX4_covers) (maxL := 5) (ret := (some .boolean)) (by decide) rfl ?_
  intro p e s m args below meth c s₁ B hml hv
  obtain ⟨rfl, hP, hK⟩ := hv
  have hx := B.exec
  have hb := B.bytes
  have hr := B.returns
  have hts := atoms_spec (ws := wsX4_covers) B.pre
  have hown : s.vm.findClass RX4 = some m.cls := findClass_of_methodNamed B.named
  have hlocks := B.notSynchronized
  have hi4 : ∀ w ∈ wsX40, w ∈ wsX4_covers := by decide +kernel
  have hf11 := hts (.fieldLink RX4 11 "ConsentRegister$Holds" "subjects" "[I") (by decide +kernel)
  have hl := lv_entry ([.ref (q 7), .int a1, .int a2, .int a3, .int a4]) (n := 5) (Nat.le_of_ble_eq_true rfl)
  rw [lg_entry_eq]
  generalize (lg_sl ([.ref (q 7), .int a1, .int a2, .int a3, .int a4]) ++ List.replicate (5 - (lg_sl ([.ref (q 7), .int a1, .int a2, .int a3, .int a4])).length) Slot.unset).toArray = ls at hl ⊢
  have hl : lv_has ls 5 [(0, .ref (q 7)), (1, .int a1), (2, .int a2), (3, .int a3), (4, .int a4)] := hl
  have he := hres
  unfold sp_X4_covers at he
  refine lv_aload_n hx hb dX4_covers_0 rfl (lv_at hl 0 rfl) ?_
  refine lv_iload_n hx hb dX4_covers_1 rfl (lv_at hl 1 rfl) ?_
  refine lv_iload hx hb dX4_covers_2 (lv_at hl 4 rfl) ?_
  refine vp_callSi (va_Run.run (va_runV (As := [.int a1, .int a4]) (rest := []) ⟨hx, hb, hml, hown, hts⟩ (c_X4_runsOn l dC dI q k st a1 a4 hva1 _ rfl) (cwV 2 hts gX4_covers_X4_runsOn rfl rfl rfl (by decide +kernel) ⟨Nat.le_of_ble_eq_true rfl, Nat.le_of_ble_eq_true rfl⟩) ⟨fb_C, va_recv hK.1 hP (ci := 4) (q0 := 7) rfl rfl, fun U hU hW => ⟨rfl, by rw [hU]; exact hP, hK.warm hW⟩⟩ rfl rfl hl.1 rfl (lv_room (Nat.le_of_ble_eq_true rfl)) dX4_covers_4 ⟨Nat.le_of_ble_eq_true rfl, Nat.le_of_ble_eq_true rfl⟩)) (fun r9 e9 => ?_)
  subst e9
  refine lv_if_eq (tgt := 36) hx hb dX4_covers_7 (by decide) (fun h7_1 => ?_) (fun h7_1 => ?_)
  · have he := (if_pos h7_1).symm.trans he
    refine lv_iconst (v := 0) hx hb dX4_covers_36 (by decide) ?_
    exact W.zret (v := 0) hx hb hr rfl (fun t ht hW => ⟨_, rfl, he, ht⟩) (fun _ h => nomatch h) dX4_covers_37
  · have he := (if_neg h7_1).symm.trans he
    refine lv_aload_n hx hb dX4_covers_10 rfl (lv_at hl 0 rfl) ?_
    refine lv_iload_n hx hb dX4_covers_11 rfl (lv_at hl 1 rfl) ?_
    refine lv_iload_n hx hb dX4_covers_12 rfl (lv_at hl 2 rfl) ?_
    refine vp_callSi (va_Run.run (va_runV (As := [.int a1, .int a2]) (rest := []) ⟨hx, hb, hml, hown, hts⟩ (c_X4_isOfPersons l dC dI q k st a1 a2 hva1 _ rfl) (cwV 2 hts gX4_covers_X4_isOfPersons rfl rfl rfl (by decide +kernel) ⟨Nat.le_of_ble_eq_true rfl, Nat.le_of_ble_eq_true rfl⟩) ⟨fb_C, va_recv hK.1 hP (ci := 4) (q0 := 7) rfl rfl, fun U hU hW => ⟨rfl, by rw [hU]; exact hP, hK.warm hW⟩⟩ rfl rfl hl.1 rfl (lv_room (Nat.le_of_ble_eq_true rfl)) dX4_covers_13 ⟨Nat.le_of_ble_eq_true rfl, Nat.le_of_ble_eq_true rfl⟩)) (fun r9 e9 => ?_)
    subst e9
    refine lv_if_ne (tgt := 32) hx hb dX4_covers_16 (by decide) (fun h16_2 => ?_) (fun h16_2 => ?_)
    · have he := (if_neg h16_2).symm.trans he
      refine lv_iconst (v := 1) hx hb dX4_covers_32 (by decide) ?_
      refine lv_goto (tgt := 37) hx hb dX4_covers_33 (by decide) ?_
      exact W.zret (v := 1) hx hb hr rfl (fun t ht hW => ⟨_, rfl, he, ht⟩) (fun _ h => nomatch h) dX4_covers_37
    · have he := (if_pos h16_2).symm.trans he
      refine lv_aload_n hx hb dX4_covers_19 rfl (lv_at hl 0 rfl) ?_
      refine va_get (D := (dC, dI)) (ci := 4) (v := .ref (q 26)) (C := RX4) (T := TX4) (N := 5) hx hb hts hi4 hown hK.1 hP 7 rfl rfl 0 (by decide) hf11 (fun _ h9 => h9) rfl dX4_covers_20 ?_
      refine lv_iload_n hx hb dX4_covers_23 rfl (lv_at hl 1 rfl) ?_
      refine va_iald hx hb hK.1 hP 26 16 (f := st.2.1 16) (n := 30) (cA := k 16) rfl rfl (i := a1) (ob_X4_covers_24_3 st a1 a2 a3 a4 hva1 h7_1 h16_2) dX4_covers_24 ?_
      refine lv_bipush (v := 100) hx hb dX4_covers_25 (by decide) ?_
      refine lv_iload_n hx hb dX4_covers_27 rfl (lv_at hl 3 rfl) ?_
      refine lv_iadd hx hb dX4_covers_28 ?_
      refine lv_icmp_ne (tgt := 36) hx hb dX4_covers_29 (by decide) (fun h29_4 => ?_) (fun h29_4 => ?_)
      · have he := (if_neg h29_4).symm.trans he
        refine lv_iconst (v := 0) hx hb dX4_covers_36 (by decide) ?_
        exact W.zret (v := 0) hx hb hr rfl (fun t ht hW => ⟨_, rfl, he, ht⟩) (fun _ h => nomatch h) dX4_covers_37
      · have he := (if_pos h29_4).symm.trans he
        refine lv_iconst (v := 1) hx hb dX4_covers_32 (by decide) ?_
        refine lv_goto (tgt := 37) hx hb dX4_covers_33 (by decide) ?_
        exact W.zret (v := 1) hx hb hr rfl (fun t ht hW => ⟨_, rfl, he, ht⟩) (fun _ h => nomatch h) dX4_covers_37
set_option maxHeartbeats 4000000 in
set_option maxRecDepth 100000 in
theorem c_X4_allow (l : Launch) (dC : Nat → ClassId) (dI : Nat → Nat → Nat) (q : Nat → Nat) (k : Nat → ClassId) (st : St) (a1 : Int32) (a2 : Int32) (a3 : Int32) (a4 : Int32) (hok : okC st) (res : Int32) (hres : sp_X4_allow st a1 a2 a3 a4 = res) : Met l yX4_allow wsX4_allow ({ frames := 3, cells := 0, slots := 0, locals := 67 } : Room) (va_Pc [.ref (q 7), .int a1, .int a2, .int a3, .int a4] (fun U => va_P (dC, dI) vwCl (wC q k st) U.heap ∧ KC (dC, dI) k U)) (vp_Si (fun r => r = res)) 0 0 (fun _ => False) := by
  refine Met.ofW (cc := cX4_allow) (maxL := 6) (ret := (some .boolean)) (by decide) rfl ?_
  intro p e s m args below meth c s₁ B hml hv
  obtain ⟨rfl, hP, hK⟩ := hv
  have hx := B.exec
  have hb := B.bytes
  have hr := B.returns
  have hts := atoms_spec (ws := wsX4_allow) B.pre
  have hown : s.vm.findClass RX4 = some m.cls := findClass_of_methodNamed B.named
  have hlocks := B.notSynchronized
  have hi4 : ∀ w ∈ wsX40, w ∈ wsX4_allow := by decide +kernel
  have hf15 := hts (.fieldLink RX4 15 "ConsentRegister$Holds" "purposes" "[I") (by decide +kernel)
  have hf24 := hts (.fieldLink RX4 24 "ConsentRegister$Holds" "count" "I") (by decide +kernel)
  have hl := lv_entry ([.ref (q 7), .int a1, .int a2, .int a3, .int a4]) (n := 6) (Nat.le_of_ble_eq_true rfl)
  rw [lg_entry_eq]
  generalize (lg_sl ([.ref (q 7), .int a1, .int a2, .int a3, .int a4]) ++ List.replicate (6 - (lg_sl ([.ref (q 7), .int a1, .int a2, .int a3, .int a4])).length) Slot.unset).toArray = ls at hl ⊢
  have hl : lv_has ls 6 [(0, .ref (q 7)), (1, .int a1), (2, .int a2), (3, .int a3), (4, .int a4)] := hl
  have he := hres
  unfold sp_X4_allow at he
  refine lv_iconst (v := 0) hx hb dX4_allow_0 (by decide) ?_
  refine lv_istore (lv' := [(5, .int 0), (0, .ref (q 7)), (1, .int a1), (2, .int a2), (3, .int a3), (4, .int a4)]) hx hb dX4_allow_1 hl (by decide) rfl (fun ls hl => ?_)
  have k_3 : ∀ (n_3 : Nat) (x5_3 : Int32) (ls : Array Slot), 0 ≤ x5_3.toInt → x5_3.toInt ≤ (st.1 6).toInt → (st.1 6).toInt < x5_3.toInt + n_3 → lp_X4_allow_3 st a1 a2 a3 a4 n_3 x5_3 = res → lv_has ls 6 [(5, .int x5_3), (0, .ref (q 7)), (1, .int a1), (2, .int a2), (3, .int a3), (4, .int a4)] → W p l e (headSpec wsX4_allow ({ frames := 3, cells := 0, slots := 0, locals := 67 } : Room)).room s m ([.ref (q 7), .int a1, .int a2, .int a3, .int a4] : List Value).toArray below meth c s.heap [] 0 0 (MQ below (vp_Si (fun r => r = res)) ([.ref (q 7), .int a1, .int a2, .int a3, .int a4] : List Value).toArray s 0 0 (fun _ => False)) (F0 m 3 ls []) := by
    intro n_3
    induction n_3 with
    | zero =>
      intro x5_3 ls hi0_3 hi1_3 hi2_3
      exact (ob_X4_allow_3_zero st a1 a2 a3 a4 x5_3 hok hi0_3 hi1_3 hi2_3).elim
    | succ n_3 ih_3 =>
      intro x5_3 ls hi0_3 hi1_3 hi2_3 he hl
      rw [lp_X4_allow_3] at he
      refine lv_iload hx hb dX4_allow_3 (lv_at hl 0 rfl) ?_
      refine lv_aload_n hx hb dX4_allow_5 rfl (lv_at hl 1 rfl) ?_
      refine va_get (D := (dC, dI)) (ci := 4) (v := .int (st.1 6)) (C := RX4) (T := TX4) (N := 5) hx hb hts hi4 hown hK.1 hP 7 rfl rfl 4 (by decide) hf24 (fun _ h9 => h9) rfl dX4_allow_6 ?_
      refine lv_icmp_ge (tgt := 44) hx hb dX4_allow_9 (by decide) (fun h9_1 => ?_) (fun h9_1 => ?_)
      · have he := (if_pos h9_1).symm.trans he
        refine lv_iconst (v := 0) hx hb dX4_allow_44 (by decide) ?_
        exact W.zret (v := 0) hx hb hr rfl (fun t ht hW => ⟨_, rfl, he, ht⟩) (fun _ h => nomatch h) dX4_allow_45
      · have he := (if_neg h9_1).symm.trans he
        refine lv_aload_n hx hb dX4_allow_12 rfl (lv_at hl 1 rfl) ?_
        refine va_get (D := (dC, dI)) (ci := 4) (v := .ref (q 27)) (C := RX4) (T := TX4) (N := 5) hx hb hts hi4 hown hK.1 hP 7 rfl rfl 1 (by decide) hf15 (fun _ h9 => h9) rfl dX4_allow_13 ?_
        refine lv_iload hx hb dX4_allow_16 (lv_at hl 0 rfl) ?_
        refine va_iald hx hb hK.1 hP 27 17 (f := st.2.1 17) (n := 30) (cA := k 17) rfl rfl (i := x5_3) (ob_X4_allow_18_2 st a1 a2 a3 a4 n_3 x5_3 hok hi0_3 hi1_3 hi2_3 h9_1) dX4_allow_18 ?_
        refine lv_iload_n hx hb dX4_allow_19 rfl (lv_at hl 4 rfl) ?_
        refine lv_icmp_ne (tgt := 38) hx hb dX4_allow_20 (by decide) (fun h20_3 => ?_) (fun h20_3 => ?_)
        · have he := (if_neg h20_3).symm.trans he
          refine lv_iinc (v := x5_3 + 1) (lv' := [(5, .int (x5_3 + 1)), (0, .ref (q 7)), (1, .int a1), (2, .int a2), (3, .int a3), (4, .int a4)]) hx hb dX4_allow_38 hl (k := 0) rfl rfl (by decide) rfl (fun ls hl => ?_)
          refine lv_goto (tgt := 3) hx hb dX4_allow_41 (by decide) ?_
          exact ih_3 (x5_3 + 1) ls (ob_X4_allow_3_inv0_4 st a1 a2 a3 a4 n_3 x5_3 hok hi0_3 hi1_3 hi2_3 h9_1 h20_3) (ob_X4_allow_3_inv1_5 st a1 a2 a3 a4 n_3 x5_3 hok hi0_3 hi1_3 hi2_3 h9_1 h20_3) (ob_X4_allow_3_inv2_6 st a1 a2 a3 a4 n_3 x5_3 hok hi0_3 hi1_3 hi2_3 h9_1 h20_3) he (lv_sub hl [0, 1, 2, 3, 4, 5] rfl)
        · have he := (if_pos h20_3).symm.trans he
          refine lv_aload_n hx hb dX4_allow_23 rfl (lv_at hl 1 rfl) ?_
          refine lv_iload hx hb dX4_allow_24 (lv_at hl 0 rfl) ?_
          refine lv_iload_n hx hb dX4_allow_26 rfl (lv_at hl 2 rfl) ?_
          refine lv_iload_n hx hb dX4_allow_27 rfl (lv_at hl 3 rfl) ?_
          refine lv_iload hx hb dX4_allow_28 (lv_at hl 5 rfl) ?_
          refine vp_callSi (va_Run.run (va_runV (As := [.int x5_3, .int a1, .int a2, .int a4]) (rest := []) ⟨hx, hb, hml, hown, hts⟩ (c_X4_covers l dC dI q k st x5_3 a1 a2 a4 (ob_X4_allow_30_7 st a1 a2 a3 a4 n_3 x5_3 hok hi0_3 hi1_3 hi2_3 h9_1 h20_3) _ rfl) (cwV 4 hts gX4_allow_X4_covers rfl rfl rfl (by decide +kernel) ⟨Nat.le_of_ble_eq_true rfl, Nat.le_of_ble_eq_true rfl⟩) ⟨fb_C, va_recv hK.1 hP (ci := 4) (q0 := 7) rfl rfl, fun U hU hW => ⟨rfl, by rw [hU]; exact hP, hK.warm hW⟩⟩ rfl rfl hl.1 rfl (lv_room (Nat.le_of_ble_eq_true rfl)) dX4_allow_30 ⟨Nat.le_of_ble_eq_true rfl, Nat.le_of_ble_eq_true rfl⟩)) (fun r9 e9 => ?_)
          subst e9
          refine lv_if_eq (tgt := 38) hx hb dX4_allow_33 (by decide) (fun h33_8 => ?_) (fun h33_8 => ?_)
          · have he := (if_pos h33_8).symm.trans he
            refine lv_iinc (v := x5_3 + 1) (lv' := [(5, .int (x5_3 + 1)), (0, .ref (q 7)), (1, .int a1), (2, .int a2), (3, .int a3), (4, .int a4)]) hx hb dX4_allow_38 hl (k := 0) rfl rfl (by decide) rfl (fun ls hl => ?_)
            refine lv_goto (tgt := 3) hx hb dX4_allow_41 (by decide) ?_
            exact ih_3 (x5_3 + 1) ls (ob_X4_allow_3_inv0_9 st a1 a2 a3 a4 n_3 x5_3 hok hi0_3 hi1_3 hi2_3 h9_1 h20_3 h33_8) (ob_X4_allow_3_inv1_10 st a1 a2 a3 a4 n_3 x5_3 hok hi0_3 hi1_3 hi2_3 h9_1 h20_3 h33_8) (ob_X4_allow_3_inv2_11 st a1 a2 a3 a4 n_3 x5_3 hok hi0_3 hi1_3 hi2_3 h9_1 h20_3 h33_8) he (lv_sub hl [0, 1, 2, 3, 4, 5] rfl)
          · have he := (if_neg h33_8).symm.trans he
            refine lv_iconst (v := 1) hx hb dX4_allow_36 (by decide) ?_
            exact W.zret (v := 1) hx hb hr rfl (fun t ht hW => ⟨_, rfl, he, ht⟩) (fun _ h => nomatch h) dX4_allow_37
  exact k_3 ((st.1 6).toInt.toNat + 1) 0 ls (ob_X4_allow_3_inv0_12 st a1 a2 a3 a4 hok) (ob_X4_allow_3_inv1_13 st a1 a2 a3 a4 hok) (ob_X4_allow_3_inv2_14 st a1 a2 a3 a4 hok) he (lv_sub hl [0, 1, 2, 3, 4, 5] rfl)
set_option maxHeartbeats 4000000 in
set_option maxRecDepth 100000 in
theorem c_X4_cover (l : Launch) (dC : Nat → ClassId) (dI : Nat → Nat → Nat) (q : Nat → Nat) (k : Nat → ClassId) (st : St) (a1 : Int32) (a2 : Int32) (a3 : Int32) (hok : okC st) (res : Int32) (hres : sp_X4_cover st a1 a2 a3 = res) : Met l yX4_cover wsX4_cover ({ frames := 3, cells := 0, slots := 0, locals := 67 } : Room) (va_Pc [.ref (q 7), .int a1, .int a2, .int a3] (fun U => va_P (dC, dI) vwCl (wC q k st) U.heap ∧ KC (dC, dI) k U)) (vp_Si (fun r => r = res)) 0 0 (fun _ => False) := by
  refine Met.ofW (cc := cX4_cover) (maxL := 5) (ret := (some .boolean)) (by decide) rfl ?_
  intro p e s m args below meth c s₁ B hml hv
  obtain ⟨rfl, hP, hK⟩ := hv
  have hx := B.exec
  have hb := B.bytes
  have hr := B.returns
  have hts := atoms_spec (ws := wsX4_cover) B.pre
  have hown : s.vm.findClass RX4 = some m.cls := findClass_of_methodNamed B.named
  have hlocks := B.notSynchronized
  have hi4 : ∀ w ∈ wsX40, w ∈ wsX4_cover := by decide +kernel
  have hf24 := hts (.fieldLink RX4 24 "ConsentRegister$Holds" "count" "I") (by decide +kernel)
  have hl := lv_entry ([.ref (q 7), .int a1, .int a2, .int a3]) (n := 5) (Nat.le_of_ble_eq_true rfl)
  rw [lg_entry_eq]
  generalize (lg_sl ([.ref (q 7), .int a1, .int a2, .int a3]) ++ List.replicate (5 - (lg_sl ([.ref (q 7), .int a1, .int a2, .int a3])).length) Slot.unset).toArray = ls at hl ⊢
  have hl : lv_has ls 5 [(0, .ref (q 7)), (1, .int a1), (2, .int a2), (3, .int a3)] := hl
  have he := hres
  unfold sp_X4_cover at he
  refine lv_iconst (v := 0) hx hb dX4_cover_0 (by decide) ?_
  refine lv_istore (lv' := [(4, .int 0), (0, .ref (q 7)), (1, .int a1), (2, .int a2), (3, .int a3)]) hx hb dX4_cover_1 hl (by decide) rfl (fun ls hl => ?_)
  have k_3 : ∀ (n_3 : Nat) (x4_3 : Int32) (ls : Array Slot), 0 ≤ x4_3.toInt → x4_3.toInt ≤ (st.1 6).toInt → (st.1 6).toInt < x4_3.toInt + n_3 → lp_X4_cover_3 st a1 a2 a3 n_3 x4_3 = res → lv_has ls 5 [(4, .int x4_3), (0, .ref (q 7)), (1, .int a1), (2, .int a2), (3, .int a3)] → W p l e (headSpec wsX4_cover ({ frames := 3, cells := 0, slots := 0, locals := 67 } : Room)).room s m ([.ref (q 7), .int a1, .int a2, .int a3] : List Value).toArray below meth c s.heap [] 0 0 (MQ below (vp_Si (fun r => r = res)) ([.ref (q 7), .int a1, .int a2, .int a3] : List Value).toArray s 0 0 (fun _ => False)) (F0 m 3 ls []) := by
    intro n_3
    induction n_3 with
    | zero =>
      intro x4_3 ls hi0_3 hi1_3 hi2_3
      exact (ob_X4_cover_3_zero st a1 a2 a3 x4_3 hok hi0_3 hi1_3 hi2_3).elim
    | succ n_3 ih_3 =>
      intro x4_3 ls hi0_3 hi1_3 hi2_3 he hl
      rw [lp_X4_cover_3] at he
      refine lv_iload hx hb dX4_cover_3 (lv_at hl 0 rfl) ?_
      refine lv_aload_n hx hb dX4_cover_5 rfl (lv_at hl 1 rfl) ?_
      refine va_get (D := (dC, dI)) (ci := 4) (v := .int (st.1 6)) (C := RX4) (T := TX4) (N := 5) hx hb hts hi4 hown hK.1 hP 7 rfl rfl 4 (by decide) hf24 (fun _ h9 => h9) rfl dX4_cover_6 ?_
      refine lv_icmp_ge (tgt := 32) hx hb dX4_cover_9 (by decide) (fun h9_1 => ?_) (fun h9_1 => ?_)
      · have he := (if_pos h9_1).symm.trans he
        refine lv_iconst (v := 0) hx hb dX4_cover_32 (by decide) ?_
        exact W.zret (v := 0) hx hb hr rfl (fun t ht hW => ⟨_, rfl, he, ht⟩) (fun _ h => nomatch h) dX4_cover_33
      · have he := (if_neg h9_1).symm.trans he
        refine lv_aload_n hx hb dX4_cover_12 rfl (lv_at hl 1 rfl) ?_
        refine lv_iload hx hb dX4_cover_13 (lv_at hl 0 rfl) ?_
        refine lv_iload_n hx hb dX4_cover_15 rfl (lv_at hl 2 rfl) ?_
        refine lv_iload_n hx hb dX4_cover_16 rfl (lv_at hl 3 rfl) ?_
        refine lv_iload_n hx hb dX4_cover_17 rfl (lv_at hl 4 rfl) ?_
        refine vp_callSi (va_Run.run (va_runV (As := [.int x4_3, .int a1, .int a2, .int a3]) (rest := []) ⟨hx, hb, hml, hown, hts⟩ (c_X4_covers l dC dI q k st x4_3 a1 a2 a3 (ob_X4_cover_18_2 st a1 a2 a3 n_3 x4_3 hok hi0_3 hi1_3 hi2_3 h9_1) _ rfl) (cwV 4 hts gX4_cover_X4_covers rfl rfl rfl (by decide +kernel) ⟨Nat.le_of_ble_eq_true rfl, Nat.le_of_ble_eq_true rfl⟩) ⟨fb_C, va_recv hK.1 hP (ci := 4) (q0 := 7) rfl rfl, fun U hU hW => ⟨rfl, by rw [hU]; exact hP, hK.warm hW⟩⟩ rfl rfl hl.1 rfl (lv_room (Nat.le_of_ble_eq_true rfl)) dX4_cover_18 ⟨Nat.le_of_ble_eq_true rfl, Nat.le_of_ble_eq_true rfl⟩)) (fun r9 e9 => ?_)
        subst e9
        refine lv_if_eq (tgt := 26) hx hb dX4_cover_21 (by decide) (fun h21_3 => ?_) (fun h21_3 => ?_)
        · have he := (if_pos h21_3).symm.trans he
          refine lv_iinc (v := x4_3 + 1) (lv' := [(4, .int (x4_3 + 1)), (0, .ref (q 7)), (1, .int a1), (2, .int a2), (3, .int a3)]) hx hb dX4_cover_26 hl (k := 0) rfl rfl (by decide) rfl (fun ls hl => ?_)
          refine lv_goto (tgt := 3) hx hb dX4_cover_29 (by decide) ?_
          exact ih_3 (x4_3 + 1) ls (ob_X4_cover_3_inv0_4 st a1 a2 a3 n_3 x4_3 hok hi0_3 hi1_3 hi2_3 h9_1 h21_3) (ob_X4_cover_3_inv1_5 st a1 a2 a3 n_3 x4_3 hok hi0_3 hi1_3 hi2_3 h9_1 h21_3) (ob_X4_cover_3_inv2_6 st a1 a2 a3 n_3 x4_3 hok hi0_3 hi1_3 hi2_3 h9_1 h21_3) he (lv_sub hl [0, 1, 2, 3, 4] rfl)
        · have he := (if_neg h21_3).symm.trans he
          refine lv_iconst (v := 1) hx hb dX4_cover_24 (by decide) ?_
          exact W.zret (v := 1) hx hb hr rfl (fun t ht hW => ⟨_, rfl, he, ht⟩) (fun _ h => nomatch h) dX4_cover_25
  exact k_3 ((st.1 6).toInt.toNat + 1) 0 ls (ob_X4_cover_3_inv0_7 st a1 a2 a3 hok) (ob_X4_cover_3_inv1_8 st a1 a2 a3 hok) (ob_X4_cover_3_inv2_9 st a1 a2 a3 hok) he (lv_sub hl [0, 1, 2, 3, 4] rfl)
set_option maxHeartbeats 4000000 in
set_option maxRecDepth 100000 in
theorem c_X4_coverPersons (l : Launch) (dC : Nat → ClassId) (dI : Nat → Nat → Nat) (q : Nat → Nat) (k : Nat → ClassId) (st : St) (a1 : Int32) (a2 : Int32) (hok : okC st) (res : Int32) (hres : sp_X4_coverPersons st a1 a2 = res) : Met l yX4_coverPersons wsX4_coverPersons ({ frames := 2, cells := 0, slots := 0, locals := 43 } : Room) (va_Pc [.ref (q 7), .int a1, .int a2] (fun U => va_P (dC, dI) vwCl (wC q k st) U.heap ∧ KC (dC, dI) k U)) (vp_Si (fun r => r = res)) 0 0 (fun _ => False) := by
  refine Met.ofW (cc := cX4_coverPersons) (maxL := 4) (ret := (some .boolean)) (by decide) rfl ?_
  intro p e s m args below meth c s₁ B hml hv
  obtain ⟨rfl, hP, hK⟩ := hv
  have hx := B.exec
  have hb := B.bytes
  have hr := B.returns
  have hts := atoms_spec (ws := wsX4_coverPersons) B.pre
  have hown : s.vm.findClass RX4 = some m.cls := findClass_of_methodNamed B.named
  have hlocks := B.notSynchronized
  have hi4 : ∀ w ∈ wsX40, w ∈ wsX4_coverPersons := by decide +kernel
  have hf24 := hts (.fieldLink RX4 24 "ConsentRegister$Holds" "count" "I") (by decide +kernel)
  have hl := lv_entry ([.ref (q 7), .int a1, .int a2]) (n := 4) (Nat.le_of_ble_eq_true rfl)
  rw [lg_entry_eq]
  generalize (lg_sl ([.ref (q 7), .int a1, .int a2]) ++ List.replicate (4 - (lg_sl ([.ref (q 7), .int a1, .int a2])).length) Slot.unset).toArray = ls at hl ⊢
  have hl : lv_has ls 4 [(0, .ref (q 7)), (1, .int a1), (2, .int a2)] := hl
  have he := hres
  unfold sp_X4_coverPersons at he
  refine lv_iconst (v := 0) hx hb dX4_coverPersons_0 (by decide) ?_
  refine lv_istore_n (lv' := [(3, .int 0), (0, .ref (q 7)), (1, .int a1), (2, .int a2)]) hx hb dX4_coverPersons_1 rfl hl (by decide) rfl (fun ls hl => ?_)
  have k_2 : ∀ (n_2 : Nat) (x3_2 : Int32) (ls : Array Slot), 0 ≤ x3_2.toInt → x3_2.toInt ≤ (st.1 6).toInt → (st.1 6).toInt < x3_2.toInt + n_2 → lp_X4_coverPersons_2 st a1 a2 n_2 x3_2 = res → lv_has ls 4 [(3, .int x3_2), (0, .ref (q 7)), (1, .int a1), (2, .int a2)] → W p l e (headSpec wsX4_coverPersons ({ frames := 2, cells := 0, slots := 0, locals := 43 } : Room)).room s m ([.ref (q 7), .int a1, .int a2] : List Value).toArray below meth c s.heap [] 0 0 (MQ below (vp_Si (fun r => r = res)) ([.ref (q 7), .int a1, .int a2] : List Value).toArray s 0 0 (fun _ => False)) (F0 m 2 ls []) := by
    intro n_2
    induction n_2 with
    | zero =>
      intro x3_2 ls hi0_2 hi1_2 hi2_2
      exact (ob_X4_coverPersons_2_zero st a1 a2 x3_2 hok hi0_2 hi1_2 hi2_2).elim
    | succ n_2 ih_2 =>
      intro x3_2 ls hi0_2 hi1_2 hi2_2 he hl
      rw [lp_X4_coverPersons_2] at he
      refine lv_iload_n hx hb dX4_coverPersons_2 rfl (lv_at hl 0 rfl) ?_
      refine lv_aload_n hx hb dX4_coverPersons_3 rfl (lv_at hl 1 rfl) ?_
      refine va_get (D := (dC, dI)) (ci := 4) (v := .int (st.1 6)) (C := RX4) (T := TX4) (N := 5) hx hb hts hi4 hown hK.1 hP 7 rfl rfl 4 (by decide) hf24 (fun _ h9 => h9) rfl dX4_coverPersons_4 ?_
      refine lv_icmp_ge (tgt := 36) hx hb dX4_coverPersons_7 (by decide) (fun h7_1 => ?_) (fun h7_1 => ?_)
      · have he := (if_pos h7_1).symm.trans he
        refine lv_iconst (v := 0) hx hb dX4_coverPersons_36 (by decide) ?_
        exact W.zret (v := 0) hx hb hr rfl (fun t ht hW => ⟨_, rfl, he, ht⟩) (fun _ h => nomatch h) dX4_coverPersons_37
      · have he := (if_neg h7_1).symm.trans he
        refine lv_aload_n hx hb dX4_coverPersons_10 rfl (lv_at hl 1 rfl) ?_
        refine lv_iload_n hx hb dX4_coverPersons_11 rfl (lv_at hl 0 rfl) ?_
        refine lv_iload_n hx hb dX4_coverPersons_12 rfl (lv_at hl 2 rfl) ?_
        refine vp_callSi (va_Run.run (va_runV (As := [.int x3_2, .int a1]) (rest := []) ⟨hx, hb, hml, hown, hts⟩ (c_X4_isOfPersons l dC dI q k st x3_2 a1 (ob_X4_coverPersons_13_2 st a1 a2 n_2 x3_2 hok hi0_2 hi1_2 hi2_2 h7_1) _ rfl) (cwV 2 hts gX4_coverPersons_X4_isOfPersons rfl rfl rfl (by decide +kernel) ⟨Nat.le_of_ble_eq_true rfl, Nat.le_of_ble_eq_true rfl⟩) ⟨fb_C, va_recv hK.1 hP (ci := 4) (q0 := 7) rfl rfl, fun U hU hW => ⟨rfl, by rw [hU]; exact hP, hK.warm hW⟩⟩ rfl rfl hl.1 rfl (lv_room (Nat.le_of_ble_eq_true rfl)) dX4_coverPersons_13 ⟨Nat.le_of_ble_eq_true rfl, Nat.le_of_ble_eq_true rfl⟩)) (fun r9 e9 => ?_)
        subst e9
        refine lv_if_eq (tgt := 30) hx hb dX4_coverPersons_16 (by decide) (fun h16_3 => ?_) (fun h16_3 => ?_)
        · have he := (if_pos h16_3).symm.trans he
          refine lv_iinc (v := x3_2 + 1) (lv' := [(3, .int (x3_2 + 1)), (0, .ref (q 7)), (1, .int a1), (2, .int a2)]) hx hb dX4_coverPersons_30 hl (k := 0) rfl rfl (by decide) rfl (fun ls hl => ?_)
          refine lv_goto (tgt := 2) hx hb dX4_coverPersons_33 (by decide) ?_
          exact ih_2 (x3_2 + 1) ls (ob_X4_coverPersons_2_inv0_4 st a1 a2 n_2 x3_2 hok hi0_2 hi1_2 hi2_2 h7_1 h16_3) (ob_X4_coverPersons_2_inv1_5 st a1 a2 n_2 x3_2 hok hi0_2 hi1_2 hi2_2 h7_1 h16_3) (ob_X4_coverPersons_2_inv2_6 st a1 a2 n_2 x3_2 hok hi0_2 hi1_2 hi2_2 h7_1 h16_3) he (lv_sub hl [0, 1, 2, 3] rfl)
        · have he := (if_neg h16_3).symm.trans he
          refine lv_aload_n hx hb dX4_coverPersons_19 rfl (lv_at hl 1 rfl) ?_
          refine lv_iload_n hx hb dX4_coverPersons_20 rfl (lv_at hl 0 rfl) ?_
          refine lv_iload_n hx hb dX4_coverPersons_21 rfl (lv_at hl 3 rfl) ?_
          refine vp_callSi (va_Run.run (va_runV (As := [.int x3_2, .int a2]) (rest := []) ⟨hx, hb, hml, hown, hts⟩ (c_X4_runsOn l dC dI q k st x3_2 a2 (ob_X4_coverPersons_22_7 st a1 a2 n_2 x3_2 hok hi0_2 hi1_2 hi2_2 h7_1 h16_3) _ rfl) (cwV 2 hts gX4_coverPersons_X4_runsOn rfl rfl rfl (by decide +kernel) ⟨Nat.le_of_ble_eq_true rfl, Nat.le_of_ble_eq_true rfl⟩) ⟨fb_C, va_recv hK.1 hP (ci := 4) (q0 := 7) rfl rfl, fun U hU hW => ⟨rfl, by rw [hU]; exact hP, hK.warm hW⟩⟩ rfl rfl hl.1 rfl (lv_room (Nat.le_of_ble_eq_true rfl)) dX4_coverPersons_22 ⟨Nat.le_of_ble_eq_true rfl, Nat.le_of_ble_eq_true rfl⟩)) (fun r9 e9 => ?_)
          subst e9
          refine lv_if_eq (tgt := 30) hx hb dX4_coverPersons_25 (by decide) (fun h25_8 => ?_) (fun h25_8 => ?_)
          · have he := (if_pos h25_8).symm.trans he
            refine lv_iinc (v := x3_2 + 1) (lv' := [(3, .int (x3_2 + 1)), (0, .ref (q 7)), (1, .int a1), (2, .int a2)]) hx hb dX4_coverPersons_30 hl (k := 0) rfl rfl (by decide) rfl (fun ls hl => ?_)
            refine lv_goto (tgt := 2) hx hb dX4_coverPersons_33 (by decide) ?_
            exact ih_2 (x3_2 + 1) ls (ob_X4_coverPersons_2_inv0_9 st a1 a2 n_2 x3_2 hok hi0_2 hi1_2 hi2_2 h7_1 h16_3 h25_8) (ob_X4_coverPersons_2_inv1_10 st a1 a2 n_2 x3_2 hok hi0_2 hi1_2 hi2_2 h7_1 h16_3 h25_8) (ob_X4_coverPersons_2_inv2_11 st a1 a2 n_2 x3_2 hok hi0_2 hi1_2 hi2_2 h7_1 h16_3 h25_8) he (lv_sub hl [0, 1, 2, 3] rfl)
          · have he := (if_neg h25_8).symm.trans he
            refine lv_iconst (v := 1) hx hb dX4_coverPersons_28 (by decide) ?_
            exact W.zret (v := 1) hx hb hr rfl (fun t ht hW => ⟨_, rfl, he, ht⟩) (fun _ h => nomatch h) dX4_coverPersons_29
  exact k_2 ((st.1 6).toInt.toNat + 1) 0 ls (ob_X4_coverPersons_2_inv0_12 st a1 a2 hok) (ob_X4_coverPersons_2_inv1_13 st a1 a2 hok) (ob_X4_coverPersons_2_inv2_14 st a1 a2 hok) he (lv_sub hl [0, 1, 2, 3] rfl)

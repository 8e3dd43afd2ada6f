set_option maxHeartbeats 4000000 in
set_option maxRecDepth 100000 in
theorem c_X0_add (l : Launch) (dC : Nat → ClassId) (dI : Nat → Nat → Nat) (q : Nat → Nat) (k : Nat → ClassId) (st : St) (a1 : Int32) (a2 : Int32) (a3 : Int32) (a4 : Int32) (hq : ∀ i j, i < 43 → j < 43 → q i = q j → i = j) (hok : okC st) (res : Int32 × St) (hres : sp_X0_add st a1 a2 a3 a4 = res) : Met l yX0_add wsX0_add ({ frames := 0, cells := 0, slots := 0, locals := 0 } : Room) (va_Pc [.ref (q 3), .int a1, .int a2, .int a3, .int a4] (fun U => va_P (dC, dI) vwCl (wC q k st) U.heap ∧ KC (dC, dI) k U)) (va_Qi (fun r (_ : Unit) => r = res.1) (fun _ t => va_P (dC, dI) vwCl (wC q k res.2) t.heap) (aC q)) 0 0 (aC q) := by
  refine Met.ofW (cc := cX0_add) (maxL := 5) (ret := (some .int)) (by decide) rfl ?_
  intro p e s m args below meth c s₁ B hml hv
  obtain ⟨rfl, hP, hK⟩ := hv
  have hx := B.exec
  have hb := B.bytes
  have hr := B.returns
  have hts := atoms_spec (ws := wsX0_add) B.pre
  have hown : s.vm.findClass RX0 = some m.cls := findClass_of_methodNamed B.named
  have hlocks := B.notSynchronized
  have hS : va_S (aC q) s.heap s.heap [] := va_S.rf
  have hi0 : ∀ w ∈ wsX00, w ∈ wsX0_add := by decide +kernel
  have hf11 := hts (.fieldLink RX0 11 "ConsentRegister$Consents" "persons" "[I") (by decide +kernel)
  have hf15 := hts (.fieldLink RX0 15 "ConsentRegister$Consents" "purposes" "[I") (by decide +kernel)
  have hf18 := hts (.fieldLink RX0 18 "ConsentRegister$Consents" "minutes" "[I") (by decide +kernel)
  have hf21 := hts (.fieldLink RX0 21 "ConsentRegister$Consents" "answers" "[Z") (by decide +kernel)
  have hf25 := hts (.fieldLink RX0 25 "ConsentRegister$Consents" "count" "I") (by decide +kernel)
  have hl := lv_entry ([.ref (q 3), .int a1, .int a2, .int a3, .int a4]) (n := 5) (Nat.le_of_ble_eq_true rfl)
  rw [lg_entry_eq]
  generalize (lg_sl ([.ref (q 3), .int a1, .int a2, .int a3, .int a4]) ++ List.replicate (5 - (lg_sl ([.ref (q 3), .int a1, .int a2, .int a3, .int a4])).length) Slot.unset).toArray = ls at hl ⊢
  have hl : lv_has ls 5 [(0, .ref (q 3)), (1, .int a1), (2, .int a2), (3, .int a3), (4, .int a4)] := hl
  have he := hres
  unfold sp_X0_add at he
  refine lv_aload_n hx hb dX0_add_0 rfl (lv_at hl 0 rfl) ?_
  refine va_get (D := (dC, dI)) (ci := 0) (v := .int (st.1 2)) (C := RX0) (T := TX0) (N := 5) hx hb hts hi0 hown hK.1 hP 3 rfl rfl 4 (by decide) hf25 (fun _ h9 => h9) rfl dX0_add_1 ?_
  refine lv_bipush (v := 100) hx hb dX0_add_4 (by decide) ?_
  refine lv_icmp_lt (tgt := 11) hx hb dX0_add_6 (by decide) (fun h6_1 => ?_) (fun h6_1 => ?_)
  · have he := (if_pos h6_1).symm.trans he
    refine lv_aload_n hx hb dX0_add_11 rfl (lv_at hl 0 rfl) ?_
    refine va_get (D := (dC, dI)) (ci := 0) (v := .ref (q 12)) (C := RX0) (T := TX0) (N := 5) hx hb hts hi0 hown hK.1 hP 3 rfl rfl 0 (by decide) hf11 (fun _ h9 => h9) rfl dX0_add_12 ?_
    refine lv_aload_n hx hb dX0_add_15 rfl (lv_at hl 0 rfl) ?_
    refine va_get (D := (dC, dI)) (ci := 0) (v := .int (st.1 2)) (C := RX0) (T := TX0) (N := 5) hx hb hts hi0 hown hK.1 hP 3 rfl rfl 4 (by decide) hf25 (fun _ h9 => h9) rfl dX0_add_16 ?_
    refine lv_iload_n hx hb dX0_add_19 rfl (lv_at hl 1 rfl) ?_
    refine va_iast hx hb hK.1 hP (dC_of hq) hS 12 2 (f := st.2.1 2) (n := 100) (cA := k 2) rfl rfl (i := st.1 2) (x := a1) (ob_X0_add_20_2 st a1 a2 a3 a4 hok h6_1) dX0_add_20 (fun H locs hP _ hS => ?_)
    have hP : va_P (dC, dI) vwCl (wC q k (sA st 2 ((st.1 2).toNatClampNeg) a1)) H := hP
    refine lv_aload_n hx hb dX0_add_21 rfl (lv_at hl 0 rfl) ?_
    refine va_get (D := (dC, dI)) (ci := 0) (v := .ref (q 13)) (C := RX0) (T := TX0) (N := 5) hx hb hts hi0 hown hK.1 hP 3 rfl rfl 1 (by decide) hf15 (fun _ h9 => h9) rfl dX0_add_22 ?_
    refine lv_aload_n hx hb dX0_add_25 rfl (lv_at hl 0 rfl) ?_
    refine va_get (D := (dC, dI)) (ci := 0) (v := .int (st.1 2)) (C := RX0) (T := TX0) (N := 5) hx hb hts hi0 hown hK.1 hP 3 rfl rfl 4 (by decide) hf25 (fun _ h9 => h9) rfl dX0_add_26 ?_
    refine lv_iload_n hx hb dX0_add_29 rfl (lv_at hl 2 rfl) ?_
    refine va_iast hx hb hK.1 hP (dC_of hq) hS 13 3 (f := st.2.1 3) (n := 100) (cA := k 3) rfl rfl (i := st.1 2) (x := a2) (ob_X0_add_30_3 st a1 a2 a3 a4 hok h6_1) dX0_add_30 (fun H locs hP _ hS => ?_)
    have hP : va_P (dC, dI) vwCl (wC q k (sA (sA st 2 ((st.1 2).toNatClampNeg) a1) 3 ((st.1 2).toNatClampNeg) a2)) H := hP
    refine lv_aload_n hx hb dX0_add_31 rfl (lv_at hl 0 rfl) ?_
    refine va_get (D := (dC, dI)) (ci := 0) (v := .ref (q 14)) (C := RX0) (T := TX0) (N := 5) hx hb hts hi0 hown hK.1 hP 3 rfl rfl 2 (by decide) hf18 (fun _ h9 => h9) rfl dX0_add_32 ?_
    refine lv_aload_n hx hb dX0_add_35 rfl (lv_at hl 0 rfl) ?_
    refine va_get (D := (dC, dI)) (ci := 0) (v := .int (st.1 2)) (C := RX0) (T := TX0) (N := 5) hx hb hts hi0 hown hK.1 hP 3 rfl rfl 4 (by decide) hf25 (fun _ h9 => h9) rfl dX0_add_36 ?_
    refine lv_iload hx hb dX0_add_39 (lv_at hl 4 rfl) ?_
    refine va_iast hx hb hK.1 hP (dC_of hq) hS 14 4 (f := st.2.1 4) (n := 100) (cA := k 4) rfl rfl (i := st.1 2) (x := a4) (ob_X0_add_41_4 st a1 a2 a3 a4 hok h6_1) dX0_add_41 (fun H locs hP _ hS => ?_)
    have hP : va_P (dC, dI) vwCl (wC q k (sA (sA (sA st 2 ((st.1 2).toNatClampNeg) a1) 3 ((st.1 2).toNatClampNeg) a2) 4 ((st.1 2).toNatClampNeg) a4)) H := hP
    refine lv_aload_n hx hb dX0_add_42 rfl (lv_at hl 0 rfl) ?_
    refine va_get (D := (dC, dI)) (ci := 0) (v := .ref (q 15)) (C := RX0) (T := TX0) (N := 5) hx hb hts hi0 hown hK.1 hP 3 rfl rfl 3 (by decide) hf21 (fun _ h9 => h9) rfl dX0_add_43 ?_
    refine lv_aload_n hx hb dX0_add_46 rfl (lv_at hl 0 rfl) ?_
    refine va_get (D := (dC, dI)) (ci := 0) (v := .int (st.1 2)) (C := RX0) (T := TX0) (N := 5) hx hb hts hi0 hown hK.1 hP 3 rfl rfl 4 (by decide) hf25 (fun _ h9 => h9) rfl dX0_add_47 ?_
    refine lv_iload_n hx hb dX0_add_50 rfl (lv_at hl 3 rfl) ?_
    refine va_zast hx hb hK.1 hP (dC_of hq) hS 15 5 (f := st.2.1 5) (n := 100) (cA := k 5) rfl rfl (i := st.1 2) (x := a3) (ob_X0_add_51_5 st a1 a2 a3 a4 hok h6_1) dX0_add_51 (fun H locs hP _ hS => ?_)
    have hP : va_P (dC, dI) vwCl (wC q k (sA (sA (sA (sA st 2 ((st.1 2).toNatClampNeg) a1) 3 ((st.1 2).toNatClampNeg) a2) 4 ((st.1 2).toNatClampNeg) a4) 5 ((st.1 2).toNatClampNeg) (vp_nar .boolean a3))) H := hP
    refine lv_aload_n hx hb dX0_add_52 rfl (lv_at hl 0 rfl) ?_
    refine lv_dup hx hb dX0_add_53 rfl ?_
    refine va_get (D := (dC, dI)) (ci := 0) (v := .int (st.1 2)) (C := RX0) (T := TX0) (N := 5) hx hb hts hi0 hown hK.1 hP 3 rfl rfl 4 (by decide) hf25 (fun _ h9 => h9) rfl dX0_add_54 ?_
    refine lv_iconst (v := 1) hx hb dX0_add_57 (by decide) ?_
    refine lv_iadd hx hb dX0_add_58 ?_
    refine va_put (D := (dC, dI)) (ci := 0) (v := .int ((st.1 2) + 1)) (ty := .int) (C := RX0) (T := TX0) (N := 5) hx hb hts hi0 tyX0 tyX0_ok nmX0 hown hK.1 hP (dC_of hq) hS 3 rfl rfl 4 (by decide) hf25 (fun _ h9 => h9) rfl (by decide +kernel) rfl rfl (Nat.le_of_ble_eq_true rfl) dX0_add_59 (fun H locs hP _ hS => ?_)
    have hP : va_P (dC, dI) vwCl (wC q k (sI (sA (sA (sA (sA st 2 ((st.1 2).toNatClampNeg) a1) 3 ((st.1 2).toNatClampNeg) a2) 4 ((st.1 2).toNatClampNeg) a4) 5 ((st.1 2).toNatClampNeg) (vp_nar .boolean a3)) 2 ((st.1 2) + 1))) H := hP
    refine lv_aload_n hx hb dX0_add_62 rfl (lv_at hl 0 rfl) ?_
    refine va_get (D := (dC, dI)) (ci := 0) (v := .int ((st.1 2) + 1)) (C := RX0) (T := TX0) (N := 5) hx hb hts hi0 hown hK.1 hP 3 rfl rfl 4 (by decide) hf25 (fun _ h9 => h9) rfl dX0_add_63 ?_
    exact W.iret (v := (st.1 2) + 1) hx hb hr (fun t ht hW => ⟨⟨_, (), rfl, by show _ = Prod.fst _; rw [← he], by show va_P _ _ _ t.heap; rw [ht, ← he]; exact hP⟩, hS.F ht⟩) hS.2.2 dX0_add_66
  · have he := (if_neg h6_1).symm.trans he
    refine lv_iconst (v := (-1)) hx hb dX0_add_9 (by decide) ?_
    exact W.iret (v := (-1)) hx hb hr (fun t ht hW => ⟨⟨_, (), rfl, by show _ = Prod.fst _; rw [← he], by show va_P _ _ _ t.heap; rw [ht, ← he]; exact hP⟩, hS.F ht⟩) hS.2.2 dX0_add_10
set_option maxHeartbeats 4000000 in
set_option maxRecDepth 100000 in
theorem c_X0_outranks (l : Launch) (dC : Nat → ClassId) (dI : Nat → Nat → Nat) (q : Nat → Nat) (k : Nat → ClassId) (st : St) (a1 : Int32) (a2 : Int32) (hok : okC st) (hva1 : vp_in a1 100) (hva2 : vp_in a2 100) (res : Int32) (hres : sp_X0_outranks st a1 a2 = res) : Met l yX0_outranks wsX0_outranks ({ frames := 0, cells := 0, slots := 0, locals := 0 } : Room) (va_Pc [.ref (q 3), .int a1, .int a2] (fun U => va_P (dC, dI) vwCl (wC q k st) U.heap ∧ KC (dC, dI) k U)) (vp_Si (fun r => r = res)) 0 0 (fun _ => False) := by
  refine Met.ofW (cc := cX0_outranks) (maxL := 3) (ret := (some .boolean)) (by decide) rfl ?_
  intro p e s m args below meth c s₁ B hml hv
  obtain ⟨rfl, hP, hK⟩ := hv
  have hx := B.exec
  have hb := B.bytes
  have hr := B.returns
  have hts := atoms_spec (ws := wsX0_outranks) B.pre
  have hown : s.vm.findClass RX0 = some m.cls := findClass_of_methodNamed B.named
  have hlocks := B.notSynchronized
  have hi0 : ∀ w ∈ wsX00, w ∈ wsX0_outranks := by decide +kernel
  have hf15 := hts (.fieldLink RX0 15 "ConsentRegister$Consents" "purposes" "[I") (by decide +kernel)
  have hf18 := hts (.fieldLink RX0 18 "ConsentRegister$Consents" "minutes" "[I") (by decide +kernel)
  have hl := lv_entry ([.ref (q 3), .int a1, .int a2]) (n := 3) (Nat.le_of_ble_eq_true rfl)
  rw [lg_entry_eq]
  generalize (lg_sl ([.ref (q 3), .int a1, .int a2]) ++ List.replicate (3 - (lg_sl ([.ref (q 3), .int a1, .int a2])).length) Slot.unset).toArray = ls at hl ⊢
  have hl : lv_has ls 3 [(0, .ref (q 3)), (1, .int a1), (2, .int a2)] := hl
  have he := hres
  unfold sp_X0_outranks at he
  refine lv_aload_n hx hb dX0_outranks_0 rfl (lv_at hl 0 rfl) ?_
  refine va_get (D := (dC, dI)) (ci := 0) (v := .ref (q 13)) (C := RX0) (T := TX0) (N := 5) hx hb hts hi0 hown hK.1 hP 3 rfl rfl 1 (by decide) hf15 (fun _ h9 => h9) rfl dX0_outranks_1 ?_
  refine lv_iload_n hx hb dX0_outranks_4 rfl (lv_at hl 1 rfl) ?_
  refine va_iald hx hb hK.1 hP 13 3 (f := st.2.1 3) (n := 100) (cA := k 3) rfl rfl (i := a1) (ob_X0_outranks_5_1 st a1 a2 hok hva1 hva2) dX0_outranks_5 ?_
  refine lv_aload_n hx hb dX0_outranks_6 rfl (lv_at hl 0 rfl) ?_
  refine va_get (D := (dC, dI)) (ci := 0) (v := .ref (q 13)) (C := RX0) (T := TX0) (N := 5) hx hb hts hi0 hown hK.1 hP 3 rfl rfl 1 (by decide) hf15 (fun _ h9 => h9) rfl dX0_outranks_7 ?_
  refine lv_iload_n hx hb dX0_outranks_10 rfl (lv_at hl 2 rfl) ?_
  refine va_iald hx hb hK.1 hP 13 3 (f := st.2.1 3) (n := 100) (cA := k 3) rfl rfl (i := a2) (ob_X0_outranks_11_2 st a1 a2 hok hva1 hva2) dX0_outranks_11 ?_
  refine lv_icmp_eq (tgt := 36) hx hb dX0_outranks_12 (by decide) (fun h12_3 => ?_) (fun h12_3 => ?_)
  · have he := (if_pos h12_3).symm.trans he
    refine lv_aload_n hx hb dX0_outranks_36 rfl (lv_at hl 0 rfl) ?_
    refine va_get (D := (dC, dI)) (ci := 0) (v := .ref (q 14)) (C := RX0) (T := TX0) (N := 5) hx hb hts hi0 hown hK.1 hP 3 rfl rfl 2 (by decide) hf18 (fun _ h9 => h9) rfl dX0_outranks_37 ?_
    refine lv_iload_n hx hb dX0_outranks_40 rfl (lv_at hl 1 rfl) ?_
    refine va_iald hx hb hK.1 hP 14 4 (f := st.2.1 4) (n := 100) (cA := k 4) rfl rfl (i := a1) (ob_X0_outranks_41_4 st a1 a2 hok hva1 hva2 h12_3) dX0_outranks_41 ?_
    refine lv_aload_n hx hb dX0_outranks_42 rfl (lv_at hl 0 rfl) ?_
    refine va_get (D := (dC, dI)) (ci := 0) (v := .ref (q 14)) (C := RX0) (T := TX0) (N := 5) hx hb hts hi0 hown hK.1 hP 3 rfl rfl 2 (by decide) hf18 (fun _ h9 => h9) rfl dX0_outranks_43 ?_
    refine lv_iload_n hx hb dX0_outranks_46 rfl (lv_at hl 2 rfl) ?_
    refine va_iald hx hb hK.1 hP 14 4 (f := st.2.1 4) (n := 100) (cA := k 4) rfl rfl (i := a2) (ob_X0_outranks_47_5 st a1 a2 hok hva1 hva2 h12_3) dX0_outranks_47 ?_
    refine lv_icmp_lt (tgt := 55) hx hb dX0_outranks_48 (by decide) (fun h48_6 => ?_) (fun h48_6 => ?_)
    · have he := (if_pos h48_6).symm.trans he
      refine lv_iconst (v := 0) hx hb dX0_outranks_55 (by decide) ?_
      exact W.zret (v := 0) hx hb hr rfl (fun t ht hW => ⟨_, rfl, he, ht⟩) (fun _ h => nomatch h) dX0_outranks_56
    · have he := (if_neg h48_6).symm.trans he
      refine lv_iconst (v := 1) hx hb dX0_outranks_51 (by decide) ?_
      refine lv_goto (tgt := 56) hx hb dX0_outranks_52 (by decide) ?_
      exact W.zret (v := 1) hx hb hr rfl (fun t ht hW => ⟨_, rfl, he, ht⟩) (fun _ h => nomatch h) dX0_outranks_56
  · have he := (if_neg h12_3).symm.trans he
    refine lv_aload_n hx hb dX0_outranks_15 rfl (lv_at hl 0 rfl) ?_
    refine va_get (D := (dC, dI)) (ci := 0) (v := .ref (q 13)) (C := RX0) (T := TX0) (N := 5) hx hb hts hi0 hown hK.1 hP 3 rfl rfl 1 (by decide) hf15 (fun _ h9 => h9) rfl dX0_outranks_16 ?_
    refine lv_iload_n hx hb dX0_outranks_19 rfl (lv_at hl 1 rfl) ?_
    refine va_iald hx hb hK.1 hP 13 3 (f := st.2.1 3) (n := 100) (cA := k 3) rfl rfl (i := a1) (ob_X0_outranks_20_7 st a1 a2 hok hva1 hva2 h12_3) dX0_outranks_20 ?_
    refine lv_aload_n hx hb dX0_outranks_21 rfl (lv_at hl 0 rfl) ?_
    refine va_get (D := (dC, dI)) (ci := 0) (v := .ref (q 13)) (C := RX0) (T := TX0) (N := 5) hx hb hts hi0 hown hK.1 hP 3 rfl rfl 1 (by decide) hf15 (fun _ h9 => h9) rfl dX0_outranks_22 ?_
    refine lv_iload_n hx hb dX0_outranks_25 rfl (lv_at hl 2 rfl) ?_
    refine va_iald hx hb hK.1 hP 13 3 (f := st.2.1 3) (n := 100) (cA := k 3) rfl rfl (i := a2) (ob_X0_outranks_26_8 st a1 a2 hok hva1 hva2 h12_3) dX0_outranks_26 ?_
    refine lv_icmp_le (tgt := 34) hx hb dX0_outranks_27 (by decide) (fun h27_9 => ?_) (fun h27_9 => ?_)
    · have he := (if_pos h27_9).symm.trans he
      refine lv_iconst (v := 0) hx hb dX0_outranks_34 (by decide) ?_
      exact W.zret (v := 0) hx hb hr rfl (fun t ht hW => ⟨_, rfl, he, ht⟩) (fun _ h => nomatch h) dX0_outranks_35
    · have he := (if_neg h27_9).symm.trans he
      refine lv_iconst (v := 1) hx hb dX0_outranks_30 (by decide) ?_
      refine lv_goto (tgt := 35) hx hb dX0_outranks_31 (by decide) ?_
      exact W.zret (v := 1) hx hb hr rfl (fun t ht hW => ⟨_, rfl, he, ht⟩) (fun _ h => nomatch h) dX0_outranks_35
set_option maxHeartbeats 4000000 in
set_option maxRecDepth 100000 in
theorem c_X0_saysYes (l : Launch) (dC : Nat → ClassId) (dI : Nat → Nat → Nat) (q : Nat → Nat) (k : Nat → ClassId) (st : St) (a1 : Int32) (a2 : Int32) (a3 : Int32) (hok : okC st) (res : Int32) (hres : sp_X0_saysYes st a1 a2 a3 = res) : Met l yX0_saysYes wsX0_saysYes ({ frames := 2, cells := 0, slots := 0, locals := 43 } : Room) (va_Pc [.ref (q 3), .int a1, .int a2, .int a3, .ref (q 1)] (fun U => va_P (dC, dI) vwCl (wC q k st) U.heap ∧ KC (dC, dI) k U)) (vp_Si (fun r => r = res)) 0 0 (fun _ => False) := by
  refine Met.ofW (cc := cX0_saysYes) (maxL := 8) (ret := (some .boolean)) (by decide) rfl ?_
  intro p e s m args below meth c s₁ B hml hv
  obtain ⟨rfl, hP, hK⟩ := hv
  have hx := B.exec
  have hb := B.bytes
  have hr := B.returns
  have hts := atoms_spec (ws := wsX0_saysYes) B.pre
  have hown : s.vm.findClass RX0 = some m.cls := findClass_of_methodNamed B.named
  have hlocks := B.notSynchronized
  have hi0 : ∀ w ∈ wsX00, w ∈ wsX0_saysYes := by decide +kernel
  have hf11 := hts (.fieldLink RX0 11 "ConsentRegister$Consents" "persons" "[I") (by decide +kernel)
  have hf15 := hts (.fieldLink RX0 15 "ConsentRegister$Consents" "purposes" "[I") (by decide +kernel)
  have hf18 := hts (.fieldLink RX0 18 "ConsentRegister$Consents" "minutes" "[I") (by decide +kernel)
  have hf21 := hts (.fieldLink RX0 21 "ConsentRegister$Consents" "answers" "[Z") (by decide +kernel)
  have hf25 := hts (.fieldLink RX0 25 "ConsentRegister$Consents" "count" "I") (by decide +kernel)
  have hl := lv_entry ([.ref (q 3), .int a1, .int a2, .int a3, .ref (q 1)]) (n := 8) (Nat.le_of_ble_eq_true rfl)
  rw [lg_entry_eq]
  generalize (lg_sl ([.ref (q 3), .int a1, .int a2, .int a3, .ref (q 1)]) ++ List.replicate (8 - (lg_sl ([.ref (q 3), .int a1, .int a2, .int a3, .ref (q 1)])).length) Slot.unset).toArray = ls at hl ⊢
  have hl : lv_has ls 8 [(0, .ref (q 3)), (1, .int a1), (2, .int a2), (3, .int a3), (4, .ref (q 1))] := hl
  have he := hres
  unfold sp_X0_saysYes at he
  refine lv_iconst (v := (-1)) hx hb dX0_saysYes_0 (by decide) ?_
  refine lv_istore (lv' := [(5, .int (-1)), (0, .ref (q 3)), (1, .int a1), (2, .int a2), (3, .int a3), (4, .ref (q 1))]) hx hb dX0_saysYes_1 hl (by decide) rfl (fun ls hl => ?_)
  refine lv_iconst (v := 0) hx hb dX0_saysYes_3 (by decide) ?_
  refine lv_istore (lv' := [(6, .int 0), (5, .int (-1)), (0, .ref (q 3)), (1, .int a1), (2, .int a2), (3, .int a3), (4, .ref (q 1))]) hx hb dX0_saysYes_4 hl (by decide) rfl (fun ls hl => ?_)
  have k_6 : ∀ (n_6 : Nat) (x6_6 : Int32) (x5_6 : Int32) (ls : Array Slot), 0 ≤ x6_6.toInt → x6_6.toInt ≤ (st.1 2).toInt → (st.1 2).toInt < x6_6.toInt + n_6 → -1 ≤ x5_6.toInt → x5_6.toInt < (st.1 2).toInt → lp_X0_saysYes_6 st a1 a2 a3 n_6 x6_6 x5_6 = res → lv_has ls 8 [(6, .int x6_6), (5, .int x5_6), (0, .ref (q 3)), (1, .int a1), (2, .int a2), (3, .int a3), (4, .ref (q 1))] → W p l e (headSpec wsX0_saysYes ({ frames := 2, cells := 0, slots := 0, locals := 43 } : Room)).room s m ([.ref (q 3), .int a1, .int a2, .int a3, .ref (q 1)] : List Value).toArray below meth c s.heap [] 0 0 (MQ below (vp_Si (fun r => r = res)) ([.ref (q 3), .int a1, .int a2, .int a3, .ref (q 1)] : List Value).toArray s 0 0 (fun _ => False)) (F0 m 6 ls []) := by
    intro n_6
    induction n_6 with
    | zero =>
      intro x6_6 x5_6 ls hi0_6 hi1_6 hi2_6 hi3_6 hi4_6
      exact (ob_X0_saysYes_6_zero st a1 a2 a3 x6_6 x5_6 hok hi0_6 hi1_6 hi2_6 hi3_6 hi4_6).elim
    | succ n_6 ih_6 =>
      intro x6_6 x5_6 ls hi0_6 hi1_6 hi2_6 hi3_6 hi4_6 he hl
      rw [lp_X0_saysYes_6] at he
      refine lv_iload hx hb dX0_saysYes_6 (lv_at hl 0 rfl) ?_
      refine lv_aload_n hx hb dX0_saysYes_8 rfl (lv_at hl 2 rfl) ?_
      refine va_get (D := (dC, dI)) (ci := 0) (v := .int (st.1 2)) (C := RX0) (T := TX0) (N := 5) hx hb hts hi0 hown hK.1 hP 3 rfl rfl 4 (by decide) hf25 (fun _ h9 => h9) rfl dX0_saysYes_9 ?_
      refine lv_icmp_ge (tgt := 92) hx hb dX0_saysYes_12 (by decide) (fun h12_1 => ?_) (fun h12_1 => ?_)
      · have he := (if_pos h12_1).symm.trans he
        refine lv_iload hx hb dX0_saysYes_92 (lv_at hl 1 rfl) ?_
        refine lv_iconst (v := (-1)) hx hb dX0_saysYes_94 (by decide) ?_
        refine lv_icmp_eq (tgt := 112) hx hb dX0_saysYes_95 (by decide) (fun h95_2 => ?_) (fun h95_2 => ?_)
        · have he := (if_pos h95_2).symm.trans he
          refine lv_iconst (v := 0) hx hb dX0_saysYes_112 (by decide) ?_
          exact W.zret (v := 0) hx hb hr rfl (fun t ht hW => ⟨_, rfl, he, ht⟩) (fun _ h => nomatch h) dX0_saysYes_113
        · have he := (if_neg h95_2).symm.trans he
          refine lv_aload_n hx hb dX0_saysYes_98 rfl (lv_at hl 2 rfl) ?_
          refine va_get (D := (dC, dI)) (ci := 0) (v := .ref (q 15)) (C := RX0) (T := TX0) (N := 5) hx hb hts hi0 hown hK.1 hP 3 rfl rfl 3 (by decide) hf21 (fun _ h9 => h9) rfl dX0_saysYes_99 ?_
          refine lv_iload hx hb dX0_saysYes_102 (lv_at hl 1 rfl) ?_
          refine va_zald hx hb hK.1 hP 15 5 (f := st.2.1 5) (n := 100) (cA := k 5) rfl rfl (i := x5_6) (ob_X0_saysYes_104_3 st a1 a2 a3 n_6 x6_6 x5_6 hok hi0_6 hi1_6 hi2_6 hi3_6 hi4_6 h12_1 h95_2) dX0_saysYes_104 ?_
          refine lv_if_eq (tgt := 112) hx hb dX0_saysYes_105 (by decide) (fun h105_4 => ?_) (fun h105_4 => ?_)
          · have he := (if_pos h105_4).symm.trans he
            refine lv_iconst (v := 0) hx hb dX0_saysYes_112 (by decide) ?_
            exact W.zret (v := 0) hx hb hr rfl (fun t ht hW => ⟨_, rfl, he, ht⟩) (fun _ h => nomatch h) dX0_saysYes_113
          · have he := (if_neg h105_4).symm.trans he
            refine lv_iconst (v := 1) hx hb dX0_saysYes_108 (by decide) ?_
            refine lv_goto (tgt := 113) hx hb dX0_saysYes_109 (by decide) ?_
            exact W.zret (v := 1) hx hb hr rfl (fun t ht hW => ⟨_, rfl, he, ht⟩) (fun _ h => nomatch h) dX0_saysYes_113
      · have he := (if_neg h12_1).symm.trans he
        refine lv_aload_n hx hb dX0_saysYes_15 rfl (lv_at hl 2 rfl) ?_
        refine va_get (D := (dC, dI)) (ci := 0) (v := .ref (q 12)) (C := RX0) (T := TX0) (N := 5) hx hb hts hi0 hown hK.1 hP 3 rfl rfl 0 (by decide) hf11 (fun _ h9 => h9) rfl dX0_saysYes_16 ?_
        refine lv_iload hx hb dX0_saysYes_19 (lv_at hl 0 rfl) ?_
        refine va_iald hx hb hK.1 hP 12 2 (f := st.2.1 2) (n := 100) (cA := k 2) rfl rfl (i := x6_6) (ob_X0_saysYes_21_5 st a1 a2 a3 n_6 x6_6 x5_6 hok hi0_6 hi1_6 hi2_6 hi3_6 hi4_6 h12_1) dX0_saysYes_21 ?_
        refine lv_iload_n hx hb dX0_saysYes_22 rfl (lv_at hl 3 rfl) ?_
        refine lv_icmp_ne (tgt := 57) hx hb dX0_saysYes_23 (by decide) (fun h23_6 => ?_) (fun h23_6 => ?_)
        · have he := (if_neg h23_6).symm.trans he
          refine lv_iconst (v := 0) hx hb dX0_saysYes_57 (by decide) ?_
          refine lv_istore (lv' := [(7, .int 0), (6, .int x6_6), (5, .int x5_6), (0, .ref (q 3)), (1, .int a1), (2, .int a2), (3, .int a3), (4, .ref (q 1))]) hx hb dX0_saysYes_58 hl (by decide) rfl (fun ls hl => ?_)
          refine lv_iload hx hb dX0_saysYes_60 (lv_at hl 0 rfl) ?_
          refine lv_if_eq (tgt := 86) hx hb dX0_saysYes_62 (by decide) (fun _ => ?_) (fun h9 => absurd h9 (by decide))
          refine lv_iinc (v := x6_6 + 1) (lv' := [(6, .int (x6_6 + 1)), (7, .int 0), (5, .int x5_6), (0, .ref (q 3)), (1, .int a1), (2, .int a2), (3, .int a3), (4, .ref (q 1))]) hx hb dX0_saysYes_86 hl (k := 1) rfl rfl (by decide) rfl (fun ls hl => ?_)
          refine lv_goto (tgt := 6) hx hb dX0_saysYes_89 (by decide) ?_
          exact ih_6 (x6_6 + 1) x5_6 ls (ob_X0_saysYes_6_inv0_7 st a1 a2 a3 n_6 x6_6 x5_6 hok hi0_6 hi1_6 hi2_6 hi3_6 hi4_6 h12_1 h23_6) (ob_X0_saysYes_6_inv1_8 st a1 a2 a3 n_6 x6_6 x5_6 hok hi0_6 hi1_6 hi2_6 hi3_6 hi4_6 h12_1 h23_6) (ob_X0_saysYes_6_inv2_9 st a1 a2 a3 n_6 x6_6 x5_6 hok hi0_6 hi1_6 hi2_6 hi3_6 hi4_6 h12_1 h23_6) (ob_X0_saysYes_6_inv3_10 st a1 a2 a3 n_6 x6_6 x5_6 hok hi0_6 hi1_6 hi2_6 hi3_6 hi4_6 h12_1 h23_6) (ob_X0_saysYes_6_inv4_11 st a1 a2 a3 n_6 x6_6 x5_6 hok hi0_6 hi1_6 hi2_6 hi3_6 hi4_6 h12_1 h23_6) he (lv_sub hl [0, 2, 3, 4, 5, 6, 7] rfl)
        · have he := (if_pos h23_6).symm.trans he
          refine lv_aload_n hx hb dX0_saysYes_26 rfl (lv_at hl 2 rfl) ?_
          refine va_get (D := (dC, dI)) (ci := 0) (v := .ref (q 14)) (C := RX0) (T := TX0) (N := 5) hx hb hts hi0 hown hK.1 hP 3 rfl rfl 2 (by decide) hf18 (fun _ h9 => h9) rfl dX0_saysYes_27 ?_
          refine lv_iload hx hb dX0_saysYes_30 (lv_at hl 0 rfl) ?_
          refine va_iald hx hb hK.1 hP 14 4 (f := st.2.1 4) (n := 100) (cA := k 4) rfl rfl (i := x6_6) (ob_X0_saysYes_32_12 st a1 a2 a3 n_6 x6_6 x5_6 hok hi0_6 hi1_6 hi2_6 hi3_6 hi4_6 h12_1 h23_6) dX0_saysYes_32 ?_
          refine lv_iload_n hx hb dX0_saysYes_33 rfl (lv_at hl 5 rfl) ?_
          refine lv_icmp_gt (tgt := 57) hx hb dX0_saysYes_34 (by decide) (fun h34_13 => ?_) (fun h34_13 => ?_)
          · have he := (if_pos h34_13).symm.trans he
            refine lv_iconst (v := 0) hx hb dX0_saysYes_57 (by decide) ?_
            refine lv_istore (lv' := [(7, .int 0), (6, .int x6_6), (5, .int x5_6), (0, .ref (q 3)), (1, .int a1), (2, .int a2), (3, .int a3), (4, .ref (q 1))]) hx hb dX0_saysYes_58 hl (by decide) rfl (fun ls hl => ?_)
            refine lv_iload hx hb dX0_saysYes_60 (lv_at hl 0 rfl) ?_
            refine lv_if_eq (tgt := 86) hx hb dX0_saysYes_62 (by decide) (fun _ => ?_) (fun h9 => absurd h9 (by decide))
            refine lv_iinc (v := x6_6 + 1) (lv' := [(6, .int (x6_6 + 1)), (7, .int 0), (5, .int x5_6), (0, .ref (q 3)), (1, .int a1), (2, .int a2), (3, .int a3), (4, .ref (q 1))]) hx hb dX0_saysYes_86 hl (k := 1) rfl rfl (by decide) rfl (fun ls hl => ?_)
            refine lv_goto (tgt := 6) hx hb dX0_saysYes_89 (by decide) ?_
            exact ih_6 (x6_6 + 1) x5_6 ls (ob_X0_saysYes_6_inv0_14 st a1 a2 a3 n_6 x6_6 x5_6 hok hi0_6 hi1_6 hi2_6 hi3_6 hi4_6 h12_1 h23_6 h34_13) (ob_X0_saysYes_6_inv1_15 st a1 a2 a3 n_6 x6_6 x5_6 hok hi0_6 hi1_6 hi2_6 hi3_6 hi4_6 h12_1 h23_6 h34_13) (ob_X0_saysYes_6_inv2_16 st a1 a2 a3 n_6 x6_6 x5_6 hok hi0_6 hi1_6 hi2_6 hi3_6 hi4_6 h12_1 h23_6 h34_13) (ob_X0_saysYes_6_inv3_17 st a1 a2 a3 n_6 x6_6 x5_6 hok hi0_6 hi1_6 hi2_6 hi3_6 hi4_6 h12_1 h23_6 h34_13) (ob_X0_saysYes_6_inv4_18 st a1 a2 a3 n_6 x6_6 x5_6 hok hi0_6 hi1_6 hi2_6 hi3_6 hi4_6 h12_1 h23_6 h34_13) he (lv_sub hl [0, 2, 3, 4, 5, 6, 7] rfl)
          · have he := (if_neg h34_13).symm.trans he
            refine lv_aload hx hb dX0_saysYes_37 (lv_at hl 6 rfl) ?_
            refine lv_aload_n hx hb dX0_saysYes_39 rfl (lv_at hl 2 rfl) ?_
            refine va_get (D := (dC, dI)) (ci := 0) (v := .ref (q 13)) (C := RX0) (T := TX0) (N := 5) hx hb hts hi0 hown hK.1 hP 3 rfl rfl 1 (by decide) hf15 (fun _ h9 => h9) rfl dX0_saysYes_40 ?_
            refine lv_iload hx hb dX0_saysYes_43 (lv_at hl 0 rfl) ?_
            refine va_iald hx hb hK.1 hP 13 3 (f := st.2.1 3) (n := 100) (cA := k 3) rfl rfl (i := x6_6) (ob_X0_saysYes_45_19 st a1 a2 a3 n_6 x6_6 x5_6 hok hi0_6 hi1_6 hi2_6 hi3_6 hi4_6 h12_1 h23_6 h34_13) dX0_saysYes_45 ?_
            refine lv_iload_n hx hb dX0_saysYes_46 rfl (lv_at hl 4 rfl) ?_
            refine vp_callSi (va_Run.run (va_runV (As := [.int (st.2.1 3 x6_6.toNatClampNeg), .int a2]) (rest := []) ⟨hx, hb, hml, hown, hts⟩ (c_X8_isAtOrAbove l dC dI q k st (st.2.1 3 x6_6.toNatClampNeg) a2 hok _ rfl) (cwV 2 hts gX0_saysYes_X8_isAtOrAbove rfl rfl rfl (by decide +kernel) ⟨Nat.le_of_ble_eq_true rfl, Nat.le_of_ble_eq_true rfl⟩) ⟨fb_C, va_recv hK.1 hP (ci := 8) (q0 := 1) rfl rfl, fun U hU hW => ⟨rfl, by rw [hU]; exact hP, hK.warm hW⟩⟩ rfl rfl hl.1 rfl (lv_room (Nat.le_of_ble_eq_true rfl)) dX0_saysYes_47 ⟨Nat.le_of_ble_eq_true rfl, Nat.le_of_ble_eq_true rfl⟩)) (fun r9 e9 => ?_)
            subst e9
            refine lv_if_eq (tgt := 57) hx hb dX0_saysYes_50 (by decide) (fun h50_20 => ?_) (fun h50_20 => ?_)
            · have he := (if_pos h50_20).symm.trans he
              refine lv_iconst (v := 0) hx hb dX0_saysYes_57 (by decide) ?_
              refine lv_istore (lv' := [(7, .int 0), (6, .int x6_6), (5, .int x5_6), (0, .ref (q 3)), (1, .int a1), (2, .int a2), (3, .int a3), (4, .ref (q 1))]) hx hb dX0_saysYes_58 hl (by decide) rfl (fun ls hl => ?_)
              refine lv_iload hx hb dX0_saysYes_60 (lv_at hl 0 rfl) ?_
              refine lv_if_eq (tgt := 86) hx hb dX0_saysYes_62 (by decide) (fun _ => ?_) (fun h9 => absurd h9 (by decide))
              refine lv_iinc (v := x6_6 + 1) (lv' := [(6, .int (x6_6 + 1)), (7, .int 0), (5, .int x5_6), (0, .ref (q 3)), (1, .int a1), (2, .int a2), (3, .int a3), (4, .ref (q 1))]) hx hb dX0_saysYes_86 hl (k := 1) rfl rfl (by decide) rfl (fun ls hl => ?_)
              refine lv_goto (tgt := 6) hx hb dX0_saysYes_89 (by decide) ?_
              exact ih_6 (x6_6 + 1) x5_6 ls (ob_X0_saysYes_6_inv0_21 st a1 a2 a3 n_6 x6_6 x5_6 hok hi0_6 hi1_6 hi2_6 hi3_6 hi4_6 h12_1 h23_6 h34_13 h50_20) (ob_X0_saysYes_6_inv1_22 st a1 a2 a3 n_6 x6_6 x5_6 hok hi0_6 hi1_6 hi2_6 hi3_6 hi4_6 h12_1 h23_6 h34_13 h50_20) (ob_X0_saysYes_6_inv2_23 st a1 a2 a3 n_6 x6_6 x5_6 hok hi0_6 hi1_6 hi2_6 hi3_6 hi4_6 h12_1 h23_6 h34_13 h50_20) (ob_X0_saysYes_6_inv3_24 st a1 a2 a3 n_6 x6_6 x5_6 hok hi0_6 hi1_6 hi2_6 hi3_6 hi4_6 h12_1 h23_6 h34_13 h50_20) (ob_X0_saysYes_6_inv4_25 st a1 a2 a3 n_6 x6_6 x5_6 hok hi0_6 hi1_6 hi2_6 hi3_6 hi4_6 h12_1 h23_6 h34_13 h50_20) he (lv_sub hl [0, 2, 3, 4, 5, 6, 7] rfl)
            · have he := (if_neg h50_20).symm.trans he
              refine lv_iconst (v := 1) hx hb dX0_saysYes_53 (by decide) ?_
              refine lv_goto (tgt := 58) hx hb dX0_saysYes_54 (by decide) ?_
              refine lv_istore (lv' := [(7, .int 1), (6, .int x6_6), (5, .int x5_6), (0, .ref (q 3)), (1, .int a1), (2, .int a2), (3, .int a3), (4, .ref (q 1))]) hx hb dX0_saysYes_58 hl (by decide) rfl (fun ls hl => ?_)
              refine lv_iload hx hb dX0_saysYes_60 (lv_at hl 0 rfl) ?_
              refine lv_if_eq (tgt := 86) hx hb dX0_saysYes_62 (by decide) (fun h9 => absurd h9 (by decide)) (fun _ => ?_)
              refine lv_iload hx hb dX0_saysYes_65 (lv_at hl 2 rfl) ?_
              refine lv_iconst (v := (-1)) hx hb dX0_saysYes_67 (by decide) ?_
              refine lv_icmp_eq (tgt := 82) hx hb dX0_saysYes_68 (by decide) (fun h68_26 => ?_) (fun h68_26 => ?_)
              · have he := (if_pos h68_26).symm.trans he
                refine lv_iload hx hb dX0_saysYes_82 (lv_at hl 1 rfl) ?_
                refine lv_istore (lv' := [(5, .int x6_6), (7, .int 1), (6, .int x6_6), (0, .ref (q 3)), (1, .int a1), (2, .int a2), (3, .int a3), (4, .ref (q 1))]) hx hb dX0_saysYes_84 hl (by decide) rfl (fun ls hl => ?_)
                refine lv_iinc (v := x6_6 + 1) (lv' := [(6, .int (x6_6 + 1)), (5, .int x6_6), (7, .int 1), (0, .ref (q 3)), (1, .int a1), (2, .int a2), (3, .int a3), (4, .ref (q 1))]) hx hb dX0_saysYes_86 hl (k := 2) rfl rfl (by decide) rfl (fun ls hl => ?_)
                refine lv_goto (tgt := 6) hx hb dX0_saysYes_89 (by decide) ?_
                exact ih_6 (x6_6 + 1) x6_6 ls (ob_X0_saysYes_6_inv0_27 st a1 a2 a3 n_6 x6_6 x5_6 hok hi0_6 hi1_6 hi2_6 hi3_6 hi4_6 h12_1 h23_6 h34_13 h50_20 h68_26) (ob_X0_saysYes_6_inv1_28 st a1 a2 a3 n_6 x6_6 x5_6 hok hi0_6 hi1_6 hi2_6 hi3_6 hi4_6 h12_1 h23_6 h34_13 h50_20 h68_26) (ob_X0_saysYes_6_inv2_29 st a1 a2 a3 n_6 x6_6 x5_6 hok hi0_6 hi1_6 hi2_6 hi3_6 hi4_6 h12_1 h23_6 h34_13 h50_20 h68_26) (ob_X0_saysYes_6_inv3_30 st a1 a2 a3 n_6 x6_6 x5_6 hok hi0_6 hi1_6 hi2_6 hi3_6 hi4_6 h12_1 h23_6 h34_13 h50_20 h68_26) (ob_X0_saysYes_6_inv4_31 st a1 a2 a3 n_6 x6_6 x5_6 hok hi0_6 hi1_6 hi2_6 hi3_6 hi4_6 h12_1 h23_6 h34_13 h50_20 h68_26) he (lv_sub hl [0, 1, 3, 4, 5, 6, 7] rfl)
              · have he := (if_neg h68_26).symm.trans he
                refine lv_aload_n hx hb dX0_saysYes_71 rfl (lv_at hl 3 rfl) ?_
                refine lv_iload hx hb dX0_saysYes_72 (lv_at hl 1 rfl) ?_
                refine lv_iload hx hb dX0_saysYes_74 (lv_at hl 2 rfl) ?_
                refine vp_callSi (va_Run.run (va_runV (As := [.int x6_6, .int x5_6]) (rest := []) ⟨hx, hb, hml, hown, hts⟩ (c_X0_outranks l dC dI q k st x6_6 x5_6 hok (ob_X0_saysYes_76_32 st a1 a2 a3 n_6 x6_6 x5_6 hok hi0_6 hi1_6 hi2_6 hi3_6 hi4_6 h12_1 h23_6 h34_13 h50_20 h68_26) (ob_X0_saysYes_76_33 st a1 a2 a3 n_6 x6_6 x5_6 hok hi0_6 hi1_6 hi2_6 hi3_6 hi4_6 h12_1 h23_6 h34_13 h50_20 h68_26) _ rfl) (cwV 2 hts gX0_saysYes_X0_outranks rfl rfl rfl (by decide +kernel) ⟨Nat.le_of_ble_eq_true rfl, Nat.le_of_ble_eq_true rfl⟩) ⟨fb_C, va_recv hK.1 hP (ci := 0) (q0 := 3) rfl rfl, fun U hU hW => ⟨rfl, by rw [hU]; exact hP, hK.warm hW⟩⟩ rfl rfl hl.1 rfl (lv_room (Nat.le_of_ble_eq_true rfl)) dX0_saysYes_76 ⟨Nat.le_of_ble_eq_true rfl, Nat.le_of_ble_eq_true rfl⟩)) (fun r9 e9 => ?_)
                subst e9
                refine lv_if_eq (tgt := 86) hx hb dX0_saysYes_79 (by decide) (fun h79_34 => ?_) (fun h79_34 => ?_)
                · have he := (if_pos h79_34).symm.trans he
                  refine lv_iinc (v := x6_6 + 1) (lv' := [(6, .int (x6_6 + 1)), (7, .int 1), (5, .int x5_6), (0, .ref (q 3)), (1, .int a1), (2, .int a2), (3, .int a3), (4, .ref (q 1))]) hx hb dX0_saysYes_86 hl (k := 1) rfl rfl (by decide) rfl (fun ls hl => ?_)
                  refine lv_goto (tgt := 6) hx hb dX0_saysYes_89 (by decide) ?_
                  exact ih_6 (x6_6 + 1) x5_6 ls (ob_X0_saysYes_6_inv0_35 st a1 a2 a3 n_6 x6_6 x5_6 hok hi0_6 hi1_6 hi2_6 hi3_6 hi4_6 h12_1 h23_6 h34_13 h50_20 h68_26 h79_34) (ob_X0_saysYes_6_inv1_36 st a1 a2 a3 n_6 x6_6 x5_6 hok hi0_6 hi1_6 hi2_6 hi3_6 hi4_6 h12_1 h23_6 h34_13 h50_20 h68_26 h79_34) (ob_X0_saysYes_6_inv2_37 st a1 a2 a3 n_6 x6_6 x5_6 hok hi0_6 hi1_6 hi2_6 hi3_6 hi4_6 h12_1 h23_6 h34_13 h50_20 h68_26 h79_34) (ob_X0_saysYes_6_inv3_38 st a1 a2 a3 n_6 x6_6 x5_6 hok hi0_6 hi1_6 hi2_6 hi3_6 hi4_6 h12_1 h23_6 h34_13 h50_20 h68_26 h79_34) (ob_X0_saysYes_6_inv4_39 st a1 a2 a3 n_6 x6_6 x5_6 hok hi0_6 hi1_6 hi2_6 hi3_6 hi4_6 h12_1 h23_6 h34_13 h50_20 h68_26 h79_34) he (lv_sub hl [0, 2, 3, 4, 5, 6, 7] rfl)
                · have he := (if_neg h79_34).symm.trans he
                  refine lv_iload hx hb dX0_saysYes_82 (lv_at hl 1 rfl) ?_
                  refine lv_istore (lv' := [(5, .int x6_6), (7, .int 1), (6, .int x6_6), (0, .ref (q 3)), (1, .int a1), (2, .int a2), (3, .int a3), (4, .ref (q 1))]) hx hb dX0_saysYes_84 hl (by decide) rfl (fun ls hl => ?_)
                  refine lv_iinc (v := x6_6 + 1) (lv' := [(6, .int (x6_6 + 1)), (5, .int x6_6), (7, .int 1), (0, .ref (q 3)), (1, .int a1), (2, .int a2), (3, .int a3), (4, .ref (q 1))]) hx hb dX0_saysYes_86 hl (k := 2) rfl rfl (by decide) rfl (fun ls hl => ?_)
                  refine lv_goto (tgt := 6) hx hb dX0_saysYes_89 (by decide) ?_
                  exact ih_6 (x6_6 + 1) x6_6 ls (ob_X0_saysYes_6_inv0_40 st a1 a2 a3 n_6 x6_6 x5_6 hok hi0_6 hi1_6 hi2_6 hi3_6 hi4_6 h12_1 h23_6 h34_13 h50_20 h68_26 h79_34) (ob_X0_saysYes_6_inv1_41 st a1 a2 a3 n_6 x6_6 x5_6 hok hi0_6 hi1_6 hi2_6 hi3_6 hi4_6 h12_1 h23_6 h34_13 h50_20 h68_26 h79_34) (ob_X0_saysYes_6_inv2_42 st a1 a2 a3 n_6 x6_6 x5_6 hok hi0_6 hi1_6 hi2_6 hi3_6 hi4_6 h12_1 h23_6 h34_13 h50_20 h68_26 h79_34) (ob_X0_saysYes_6_inv3_43 st a1 a2 a3 n_6 x6_6 x5_6 hok hi0_6 hi1_6 hi2_6 hi3_6 hi4_6 h12_1 h23_6 h34_13 h50_20 h68_26 h79_34) (ob_X0_saysYes_6_inv4_44 st a1 a2 a3 n_6 x6_6 x5_6 hok hi0_6 hi1_6 hi2_6 hi3_6 hi4_6 h12_1 h23_6 h34_13 h50_20 h68_26 h79_34) he (lv_sub hl [0, 1, 3, 4, 5, 6, 7] rfl)
  exact k_6 ((st.1 2).toInt.toNat + 1) 0 (-1) ls (ob_X0_saysYes_6_inv0_45 st a1 a2 a3 hok) (ob_X0_saysYes_6_inv1_46 st a1 a2 a3 hok) (ob_X0_saysYes_6_inv2_47 st a1 a2 a3 hok) (ob_X0_saysYes_6_inv3_48 st a1 a2 a3 hok) (ob_X0_saysYes_6_inv4_49 st a1 a2 a3 hok) he (lv_sub hl [0, 1, 2, 3, 4, 5, 6] rfl)
set_option maxHeartbeats 4000000 in
set_option maxRecDepth 100000 in
theorem c_X0_allSayYes (l : Launch) (dC : Nat → ClassId) (dI : Nat → Nat → Nat) (q : Nat → Nat) (k : Nat → ClassId) (st : St) (a1 : Int32) (a2 : Int32) (a3 : Int32) (hok : okC st) (res : Int32) (hres : sp_X0_allSayYes st a1 a2 a3 = res) : Met l yX0_allSayYes wsX0_allSayYes ({ frames := 3, cells := 0, slots := 0, locals := 70 } : Room) (va_Pc [.ref (q 3), .int a1, .int a2, .int a3, .ref (q 1)] (fun U => va_P (dC, dI) vwCl (wC q k st) U.heap ∧ KC (dC, dI) k U)) (vp_Si (fun r => r = res)) 0 0 (fun _ => False) := by
  refine Met.ofW (cc := cX0_allSayYes) (maxL := 6) (ret := (some .boolean)) (by decide) rfl ?_
  intro p e s m args below meth c s₁ B hml hv
  obtain ⟨rfl, hP, hK⟩ := hv
  have hx := B.exec
  have hb := B.bytes
  have hr := B.returns
  have hts := atoms_spec (ws := wsX0_allSayYes) B.pre
  have hown : s.vm.findClass RX0 = some m.cls := findClass_of_methodNamed B.named
  have hlocks := B.notSynchronized
  have hl := lv_entry ([.ref (q 3), .int a1, .int a2, .int a3, .ref (q 1)]) (n := 6) (Nat.le_of_ble_eq_true rfl)
  rw [lg_entry_eq]
  generalize (lg_sl ([.ref (q 3), .int a1, .int a2, .int a3, .ref (q 1)]) ++ List.replicate (6 - (lg_sl ([.ref (q 3), .int a1, .int a2, .int a3, .ref (q 1)])).length) Slot.unset).toArray = ls at hl ⊢
  have hl : lv_has ls 6 [(0, .ref (q 3)), (1, .int a1), (2, .int a2), (3, .int a3), (4, .ref (q 1))] := hl
  have he := hres
  unfold sp_X0_allSayYes at he
  refine lv_iconst (v := 0) hx hb dX0_allSayYes_0 (by decide) ?_
  refine lv_istore (lv' := [(5, .int 0), (0, .ref (q 3)), (1, .int a1), (2, .int a2), (3, .int a3), (4, .ref (q 1))]) hx hb dX0_allSayYes_1 hl (by decide) rfl (fun ls hl => ?_)
  have k_3 : ∀ (n_3 : Nat) (x5_3 : Int32) (ls : Array Slot), 0 ≤ x5_3.toInt → x5_3.toInt ≤ ((16 : Int32)).toInt → ((16 : Int32)).toInt < x5_3.toInt + n_3 → lp_X0_allSayYes_3 st a1 a2 a3 n_3 x5_3 = res → lv_has ls 6 [(5, .int x5_3), (0, .ref (q 3)), (1, .int a1), (2, .int a2), (3, .int a3), (4, .ref (q 1))] → W p l e (headSpec wsX0_allSayYes ({ frames := 3, cells := 0, slots := 0, locals := 70 } : Room)).room s m ([.ref (q 3), .int a1, .int a2, .int a3, .ref (q 1)] : List Value).toArray below meth c s.heap [] 0 0 (MQ below (vp_Si (fun r => r = res)) ([.ref (q 3), .int a1, .int a2, .int a3, .ref (q 1)] : List Value).toArray s 0 0 (fun _ => False)) (F0 m 3 ls []) := by
    intro n_3
    induction n_3 with
    | zero =>
      intro x5_3 ls hi0_3 hi1_3 hi2_3
      exact (ob_X0_allSayYes_3_zero st a1 a2 a3 x5_3 hok hi0_3 hi1_3 hi2_3).elim
    | succ n_3 ih_3 =>
      intro x5_3 ls hi0_3 hi1_3 hi2_3 he hl
      rw [lp_X0_allSayYes_3] at he
      refine lv_iload hx hb dX0_allSayYes_3 (lv_at hl 0 rfl) ?_
      refine lv_bipush (v := 16) hx hb dX0_allSayYes_5 (by decide) ?_
      refine lv_icmp_ge (tgt := 40) hx hb dX0_allSayYes_7 (by decide) (fun h7_1 => ?_) (fun h7_1 => ?_)
      · have he := (if_pos h7_1).symm.trans he
        refine lv_iconst (v := 1) hx hb dX0_allSayYes_40 (by decide) ?_
        exact W.zret (v := 1) hx hb hr rfl (fun t ht hW => ⟨_, rfl, he, ht⟩) (fun _ h => nomatch h) dX0_allSayYes_41
      · have he := (if_neg h7_1).symm.trans he
        refine lv_iload_n hx hb dX0_allSayYes_10 rfl (lv_at hl 2 rfl) ?_
        refine lv_iload hx hb dX0_allSayYes_11 (lv_at hl 0 rfl) ?_
        refine vp_callSi (va_Run.run (va_runSN (As := [.int a1, .int x5_3]) (rest := []) ⟨hx, hb, hml, hown, hts⟩ (c_X9_isAmong l a1 x5_3 _ rfl) ⟨va_cnB 2 hts gX0_allSayYes_X9_isAmong_n29 rfl rfl rfl (hK.2 (.methodLinkNest RX0 29 yX9_isAmong RX9) (by decide +kernel)) (hts (.initialized RX9) (by decide +kernel)) (by decide +kernel) ⟨Nat.le_of_ble_eq_true rfl, Nat.le_of_ble_eq_true rfl⟩, hts (.static yX9_isAmong) (by decide +kernel), trivial⟩ ⟨fb_T, fun U hU hW => ⟨rfl, trivial⟩⟩ rfl rfl hl.1 rfl (lv_room (Nat.le_of_ble_eq_true rfl)) dX0_allSayYes_13 ⟨Nat.le_of_ble_eq_true rfl, Nat.le_of_ble_eq_true rfl⟩)) (fun r9 e9 => ?_)
        subst e9
        refine lv_if_eq (tgt := 34) hx hb dX0_allSayYes_16 (by decide) (fun h16_2 => ?_) (fun h16_2 => ?_)
        · have he := (if_pos h16_2).symm.trans he
          refine lv_iinc (v := x5_3 + 1) (lv' := [(5, .int (x5_3 + 1)), (0, .ref (q 3)), (1, .int a1), (2, .int a2), (3, .int a3), (4, .ref (q 1))]) hx hb dX0_allSayYes_34 hl (k := 0) rfl rfl (by decide) rfl (fun ls hl => ?_)
          refine lv_goto (tgt := 3) hx hb dX0_allSayYes_37 (by decide) ?_
          exact ih_3 (x5_3 + 1) ls (ob_X0_allSayYes_3_inv0_3 st a1 a2 a3 n_3 x5_3 hok hi0_3 hi1_3 hi2_3 h7_1 h16_2) (ob_X0_allSayYes_3_inv1_4 st a1 a2 a3 n_3 x5_3 hok hi0_3 hi1_3 hi2_3 h7_1 h16_2) (ob_X0_allSayYes_3_inv2_5 st a1 a2 a3 n_3 x5_3 hok hi0_3 hi1_3 hi2_3 h7_1 h16_2) he (lv_sub hl [0, 1, 2, 3, 4, 5] rfl)
        · have he := (if_neg h16_2).symm.trans he
          refine lv_aload_n hx hb dX0_allSayYes_19 rfl (lv_at hl 1 rfl) ?_
          refine lv_iload hx hb dX0_allSayYes_20 (lv_at hl 0 rfl) ?_
          refine lv_iload_n hx hb dX0_allSayYes_22 rfl (lv_at hl 3 rfl) ?_
          refine lv_iload_n hx hb dX0_allSayYes_23 rfl (lv_at hl 4 rfl) ?_
          refine lv_aload hx hb dX0_allSayYes_24 (lv_at hl 5 rfl) ?_
          refine vp_callSi (va_Run.run (va_runV (As := [.int x5_3, .int a2, .int a3, .ref (q 1)]) (rest := []) ⟨hx, hb, hml, hown, hts⟩ (c_X0_saysYes l dC dI q k st x5_3 a2 a3 hok _ rfl) (cwV 4 hts gX0_allSayYes_X0_saysYes rfl rfl rfl (by decide +kernel) ⟨Nat.le_of_ble_eq_true rfl, Nat.le_of_ble_eq_true rfl⟩) ⟨fb_C, va_recv hK.1 hP (ci := 0) (q0 := 3) rfl rfl, fun U hU hW => ⟨rfl, by rw [hU]; exact hP, hK.warm hW⟩⟩ rfl rfl hl.1 rfl (lv_room (Nat.le_of_ble_eq_true rfl)) dX0_allSayYes_26 ⟨Nat.le_of_ble_eq_true rfl, Nat.le_of_ble_eq_true rfl⟩)) (fun r9 e9 => ?_)
          subst e9
          refine lv_if_ne (tgt := 34) hx hb dX0_allSayYes_29 (by decide) (fun h29_6 => ?_) (fun h29_6 => ?_)
          · have he := (if_neg h29_6).symm.trans he
            refine lv_iinc (v := x5_3 + 1) (lv' := [(5, .int (x5_3 + 1)), (0, .ref (q 3)), (1, .int a1), (2, .int a2), (3, .int a3), (4, .ref (q 1))]) hx hb dX0_allSayYes_34 hl (k := 0) rfl rfl (by decide) rfl (fun ls hl => ?_)
            refine lv_goto (tgt := 3) hx hb dX0_allSayYes_37 (by decide) ?_
            exact ih_3 (x5_3 + 1) ls (ob_X0_allSayYes_3_inv0_7 st a1 a2 a3 n_3 x5_3 hok hi0_3 hi1_3 hi2_3 h7_1 h16_2 h29_6) (ob_X0_allSayYes_3_inv1_8 st a1 a2 a3 n_3 x5_3 hok hi0_3 hi1_3 hi2_3 h7_1 h16_2 h29_6) (ob_X0_allSayYes_3_inv2_9 st a1 a2 a3 n_3 x5_3 hok hi0_3 hi1_3 hi2_3 h7_1 h16_2 h29_6) he (lv_sub hl [0, 1, 2, 3, 4, 5] rfl)
          · have he := (if_pos h29_6).symm.trans he
            refine lv_iconst (v := 0) hx hb dX0_allSayYes_32 (by decide) ?_
            exact W.zret (v := 0) hx hb hr rfl (fun t ht hW => ⟨_, rfl, he, ht⟩) (fun _ h => nomatch h) dX0_allSayYes_33
  exact k_3 (((16 : Int32)).toInt.toNat + 1) 0 ls (ob_X0_allSayYes_3_inv0_10 st a1 a2 a3 hok) (ob_X0_allSayYes_3_inv1_11 st a1 a2 a3 hok) (ob_X0_allSayYes_3_inv2_12 st a1 a2 a3 hok) he (lv_sub hl [0, 1, 2, 3, 4, 5] rfl)

set_option maxHeartbeats 4000000 in
set_option maxRecDepth 100000 in
theorem c_X3_add (l : Launch) (dC : Nat → ClassId) (dI : Nat → Nat → Nat) (q : Nat → Nat) (k : Nat → ClassId) (st : St) (a1 : Int32) (a2 : Int32) (a3 : Int32) (hq : ∀ i j, i < 43 → j < 43 → q i = q j → i = j) (hok : okC st) (res : Int32 × St) (hres : sp_X3_add st a1 a2 a3 = res) : Met l yX3_add wsX3_add ({ frames := 0, cells := 0, slots := 0, locals := 0 } : Room) (va_Pc [.ref (q 6), .int a1, .int a2, .int a3] (fun U => va_P (dC, dI) vwCl (wC q k st) U.heap ∧ KC (dC, dI) k U)) (va_Qi (fun r (_ : Unit) => r = res.1) (fun _ t => va_P (dC, dI) vwCl (wC q k res.2) t.heap) (aC q)) 0 0 (aC q) := by
  refine Met.ofW (cc := cX3_add) (maxL := 4) (ret := (some .int)) (by decide) rfl ?_
  intro p e s m args below meth c s₁ B hml hv
  obtain ⟨rfl, hP, hK⟩ := hv
  have hx := B.exec
  have hb := B.bytes
  have hr := B.returns
  have hts := atoms_spec (ws := wsX3_add) B.pre
  have hown : s.vm.findClass RX3 = some m.cls := findClass_of_methodNamed B.named
  have hlocks := B.notSynchronized
  have hS : va_S (aC q) s.heap s.heap [] := va_S.rf
  have hi3 : ∀ w ∈ wsX30, w ∈ wsX3_add := by decide +kernel
  have hf11 := hts (.fieldLink RX3 11 "ConsentRegister$Events" "persons" "[I") (by decide +kernel)
  have hf15 := hts (.fieldLink RX3 15 "ConsentRegister$Events" "kinds" "[I") (by decide +kernel)
  have hf18 := hts (.fieldLink RX3 18 "ConsentRegister$Events" "days" "[I") (by decide +kernel)
  have hf21 := hts (.fieldLink RX3 21 "ConsentRegister$Events" "count" "I") (by decide +kernel)
  have hl := lv_entry ([.ref (q 6), .int a1, .int a2, .int a3]) (n := 4) (Nat.le_of_ble_eq_true rfl)
  rw [lg_entry_eq]
  generalize (lg_sl ([.ref (q 6), .int a1, .int a2, .int a3]) ++ List.replicate (4 - (lg_sl ([.ref (q 6), .int a1, .int a2, .int a3])).length) Slot.unset).toArray = ls at hl ⊢
  have hl : lv_has ls 4 [(0, .ref (q 6)), (1, .int a1), (2, .int a2), (3, .int a3)] := hl
  have he := hres
  unfold sp_X3_add at he
  refine lv_aload_n hx hb dX3_add_0 rfl (lv_at hl 0 rfl) ?_
  refine va_get (D := (dC, dI)) (ci := 3) (v := .int (st.1 5)) (C := RX3) (T := TX3) (N := 4) hx hb hts hi3 hown hK.1 hP 6 rfl rfl 3 (by decide) hf21 (fun _ h9 => h9) rfl dX3_add_1 ?_
  refine lv_bipush (v := 60) hx hb dX3_add_4 (by decide) ?_
  refine lv_icmp_lt (tgt := 11) hx hb dX3_add_6 (by decide) (fun h6_1 => ?_) (fun h6_1 => ?_)
  · have he := (if_pos h6_1).symm.trans he
    refine lv_aload_n hx hb dX3_add_11 rfl (lv_at hl 0 rfl) ?_
    refine va_get (D := (dC, dI)) (ci := 3) (v := .ref (q 23)) (C := RX3) (T := TX3) (N := 4) hx hb hts hi3 hown hK.1 hP 6 rfl rfl 0 (by decide) hf11 (fun _ h9 => h9) rfl dX3_add_12 ?_
    refine lv_aload_n hx hb dX3_add_15 rfl (lv_at hl 0 rfl) ?_
    refine va_get (D := (dC, dI)) (ci := 3) (v := .int (st.1 5)) (C := RX3) (T := TX3) (N := 4) hx hb hts hi3 hown hK.1 hP 6 rfl rfl 3 (by decide) hf21 (fun _ h9 => h9) rfl dX3_add_16 ?_
    refine lv_iload_n hx hb dX3_add_19 rfl (lv_at hl 1 rfl) ?_
    refine va_iast hx hb hK.1 hP (dC_of hq) hS 23 13 (f := st.2.1 13) (n := 60) (cA := k 13) rfl rfl (i := st.1 5) (x := a1) (ob_X3_add_20_2 st a1 a2 a3 hok h6_1) dX3_add_20 (fun H locs hP _ hS => ?_)
    have hP : va_P (dC, dI) vwCl (wC q k (sA st 13 ((st.1 5).toNatClampNeg) a1)) H := hP
    refine lv_aload_n hx hb dX3_add_21 rfl (lv_at hl 0 rfl) ?_
    refine va_get (D := (dC, dI)) (ci := 3) (v := .ref (q 24)) (C := RX3) (T := TX3) (N := 4) hx hb hts hi3 hown hK.1 hP 6 rfl rfl 1 (by decide) hf15 (fun _ h9 => h9) rfl dX3_add_22 ?_
    refine lv_aload_n hx hb dX3_add_25 rfl (lv_at hl 0 rfl) ?_
    refine va_get (D := (dC, dI)) (ci := 3) (v := .int (st.1 5)) (C := RX3) (T := TX3) (N := 4) hx hb hts hi3 hown hK.1 hP 6 rfl rfl 3 (by decide) hf21 (fun _ h9 => h9) rfl dX3_add_26 ?_
    refine lv_iload_n hx hb dX3_add_29 rfl (lv_at hl 2 rfl) ?_
    refine va_iast hx hb hK.1 hP (dC_of hq) hS 24 14 (f := st.2.1 14) (n := 60) (cA := k 14) rfl rfl (i := st.1 5) (x := a2) (ob_X3_add_30_3 st a1 a2 a3 hok h6_1) dX3_add_30 (fun H locs hP _ hS => ?_)
    have hP : va_P (dC, dI) vwCl (wC q k (sA (sA st 13 ((st.1 5).toNatClampNeg) a1) 14 ((st.1 5).toNatClampNeg) a2)) H := hP
    refine lv_aload_n hx hb dX3_add_31 rfl (lv_at hl 0 rfl) ?_
    refine va_get (D := (dC, dI)) (ci := 3) (v := .ref (q 25)) (C := RX3) (T := TX3) (N := 4) hx hb hts hi3 hown hK.1 hP 6 rfl rfl 2 (by decide) hf18 (fun _ h9 => h9) rfl dX3_add_32 ?_
    refine lv_aload_n hx hb dX3_add_35 rfl (lv_at hl 0 rfl) ?_
    refine va_get (D := (dC, dI)) (ci := 3) (v := .int (st.1 5)) (C := RX3) (T := TX3) (N := 4) hx hb hts hi3 hown hK.1 hP 6 rfl rfl 3 (by decide) hf21 (fun _ h9 => h9) rfl dX3_add_36 ?_
    refine lv_iload_n hx hb dX3_add_39 rfl (lv_at hl 3 rfl) ?_
    refine va_iast hx hb hK.1 hP (dC_of hq) hS 25 15 (f := st.2.1 15) (n := 60) (cA := k 15) rfl rfl (i := st.1 5) (x := a3) (ob_X3_add_40_4 st a1 a2 a3 hok h6_1) dX3_add_40 (fun H locs hP _ hS => ?_)
    have hP : va_P (dC, dI) vwCl (wC q k (sA (sA (sA st 13 ((st.1 5).toNatClampNeg) a1) 14 ((st.1 5).toNatClampNeg) a2) 15 ((st.1 5).toNatClampNeg) a3)) H := hP
    refine lv_aload_n hx hb dX3_add_41 rfl (lv_at hl 0 rfl) ?_
    refine lv_dup hx hb dX3_add_42 rfl ?_
    refine va_get (D := (dC, dI)) (ci := 3) (v := .int (st.1 5)) (C := RX3) (T := TX3) (N := 4) hx hb hts hi3 hown hK.1 hP 6 rfl rfl 3 (by decide) hf21 (fun _ h9 => h9) rfl dX3_add_43 ?_
    refine lv_iconst (v := 1) hx hb dX3_add_46 (by decide) ?_
    refine lv_iadd hx hb dX3_add_47 ?_
    refine va_put (D := (dC, dI)) (ci := 3) (v := .int ((st.1 5) + 1)) (ty := .int) (C := RX3) (T := TX3) (N := 4) hx hb hts hi3 tyX3 tyX3_ok nmX3 hown hK.1 hP (dC_of hq) hS 6 rfl rfl 3 (by decide) hf21 (fun _ h9 => h9) rfl (by decide +kernel) rfl rfl (Nat.le_of_ble_eq_true rfl) dX3_add_48 (fun H locs hP _ hS => ?_)
    have hP : va_P (dC, dI) vwCl (wC q k (sI (sA (sA (sA st 13 ((st.1 5).toNatClampNeg) a1) 14 ((st.1 5).toNatClampNeg) a2) 15 ((st.1 5).toNatClampNeg) a3) 5 ((st.1 5) + 1))) H := hP
    refine lv_aload_n hx hb dX3_add_51 rfl (lv_at hl 0 rfl) ?_
    refine va_get (D := (dC, dI)) (ci := 3) (v := .int ((st.1 5) + 1)) (C := RX3) (T := TX3) (N := 4) hx hb hts hi3 hown hK.1 hP 6 rfl rfl 3 (by decide) hf21 (fun _ h9 => h9) rfl dX3_add_52 ?_
    exact W.iret (v := (st.1 5) + 1) hx hb hr (fun t ht hW => ⟨⟨_, (), rfl, by show _ = Prod.fst _; rw [← he], by show va_P _ _ _ t.heap; rw [ht, ← he]; exact hP⟩, hS.F ht⟩) hS.2.2 dX3_add_55
  · have he := (if_neg h6_1).symm.trans he
    refine lv_iconst (v := (-1)) hx hb dX3_add_9 (by decide) ?_
    exact W.iret (v := (-1)) hx hb hr (fun t ht hW => ⟨⟨_, (), rfl, by show _ = Prod.fst _; rw [← he], by show va_P _ _ _ t.heap; rw [ht, ← he]; exact hP⟩, hS.F ht⟩) hS.2.2 dX3_add_10
set_option maxHeartbeats 4000000 in
set_option maxRecDepth 100000 in
theorem c_X3_latestDay (l : Launch) (dC : Nat → ClassId) (dI : Nat → Nat → Nat) (q : Nat → Nat) (k : Nat → ClassId) (st : St) (a1 : Int32) (a2 : Int32) (hok : okC st) (res : Int32) (hres : sp_X3_latestDay st a1 a2 = res) : Met l yX3_latestDay wsX3_latestDay ({ frames := 1, cells := 0, slots := 0, locals := 24 } : Room) (va_Pc [.ref (q 6), .int a1, .int a2] (fun U => va_P (dC, dI) vwCl (wC q k st) U.heap ∧ KC (dC, dI) k U)) (vp_Si (fun r => r = res)) 0 0 (fun _ => False) := by
  refine Met.ofW (cc := cX3_latestDay) (maxL := 5) (ret := (some .int)) (by decide) rfl ?_
  intro p e s m args below meth c s₁ B hml hv
  obtain ⟨rfl, hP, hK⟩ := hv
  have hx := B.exec
  have hb := B.bytes
  have hr := B.returns
  have hts := atoms_spec (ws := wsX3_latestDay) B.pre
  have hown : s.vm.findClass RX3 = some m.cls := findClass_of_methodNamed B.named
  have hlocks := B.notSynchronized
  have hi3 : ∀ w ∈ wsX30, w ∈ wsX3_latestDay := by decide +kernel
  have hf11 := hts (.fieldLink RX3 11 "ConsentRegister$Events" "persons" "[I") (by decide +kernel)
  have hf15 := hts (.fieldLink RX3 15 "ConsentRegister$Events" "kinds" "[I") (by decide +kernel)
  have hf18 := hts (.fieldLink RX3 18 "ConsentRegister$Events" "days" "[I") (by decide +kernel)
  have hf21 := hts (.fieldLink RX3 21 "ConsentRegister$Events" "count" "I") (by decide +kernel)
  have hl := lv_entry ([.ref (q 6), .int a1, .int a2]) (n := 5) (Nat.le_of_ble_eq_true rfl)
  rw [lg_entry_eq]
  generalize (lg_sl ([.ref (q 6), .int a1, .int a2]) ++ List.replicate (5 - (lg_sl ([.ref (q 6), .int a1, .int a2])).length) Slot.unset).toArray = ls at hl ⊢
  have hl : lv_has ls 5 [(0, .ref (q 6)), (1, .int a1), (2, .int a2)] := hl
  have he := hres
  unfold sp_X3_latestDay at he
  refine lv_iconst (v := (-1)) hx hb dX3_latestDay_0 (by decide) ?_
  refine lv_istore_n (lv' := [(3, .int (-1)), (0, .ref (q 6)), (1, .int a1), (2, .int a2)]) hx hb dX3_latestDay_1 rfl hl (by decide) rfl (fun ls hl => ?_)
  refine lv_iconst (v := 0) hx hb dX3_latestDay_2 (by decide) ?_
  refine lv_istore (lv' := [(4, .int 0), (3, .int (-1)), (0, .ref (q 6)), (1, .int a1), (2, .int a2)]) hx hb dX3_latestDay_3 hl (by decide) rfl (fun ls hl => ?_)
  have k_5 : ∀ (n_5 : Nat) (x4_5 : Int32) (x3_5 : Int32) (ls : Array Slot), 0 ≤ x4_5.toInt → x4_5.toInt ≤ (st.1 5).toInt → (st.1 5).toInt < x4_5.toInt + n_5 → lp_X3_latestDay_5 st a1 a2 n_5 x4_5 x3_5 = res → lv_has ls 5 [(4, .int x4_5), (3, .int x3_5), (0, .ref (q 6)), (1, .int a1), (2, .int a2)] → W p l e (headSpec wsX3_latestDay ({ frames := 1, cells := 0, slots := 0, locals := 24 } : Room)).room s m ([.ref (q 6), .int a1, .int a2] : List Value).toArray below meth c s.heap [] 0 0 (MQ below (vp_Si (fun r => r = res)) ([.ref (q 6), .int a1, .int a2] : List Value).toArray s 0 0 (fun _ => False)) (F0 m 5 ls []) := by
    intro n_5
    induction n_5 with
    | zero =>
      intro x4_5 x3_5 ls hi0_5 hi1_5 hi2_5
      exact (ob_X3_latestDay_5_zero st a1 a2 x4_5 x3_5 hok hi0_5 hi1_5 hi2_5).elim
    | succ n_5 ih_5 =>
      intro x4_5 x3_5 ls hi0_5 hi1_5 hi2_5 he hl
      rw [lp_X3_latestDay_5] at he
      refine lv_iload hx hb dX3_latestDay_5 (lv_at hl 0 rfl) ?_
      refine lv_aload_n hx hb dX3_latestDay_7 rfl (lv_at hl 2 rfl) ?_
      refine va_get (D := (dC, dI)) (ci := 3) (v := .int (st.1 5)) (C := RX3) (T := TX3) (N := 4) hx hb hts hi3 hown hK.1 hP 6 rfl rfl 3 (by decide) hf21 (fun _ h9 => h9) rfl dX3_latestDay_8 ?_
      refine lv_icmp_ge (tgt := 57) hx hb dX3_latestDay_11 (by decide) (fun h11_1 => ?_) (fun h11_1 => ?_)
      · have he := (if_pos h11_1).symm.trans he
        refine lv_iload_n hx hb dX3_latestDay_57 rfl (lv_at hl 1 rfl) ?_
        exact W.iret (v := x3_5) hx hb hr (fun t ht hW => ⟨_, rfl, he, ht⟩) (fun _ h => nomatch h) dX3_latestDay_58
      · have he := (if_neg h11_1).symm.trans he
        refine lv_iload_n hx hb dX3_latestDay_14 rfl (lv_at hl 3 rfl) ?_
        refine lv_aload_n hx hb dX3_latestDay_15 rfl (lv_at hl 2 rfl) ?_
        refine va_get (D := (dC, dI)) (ci := 3) (v := .ref (q 23)) (C := RX3) (T := TX3) (N := 4) hx hb hts hi3 hown hK.1 hP 6 rfl rfl 0 (by decide) hf11 (fun _ h9 => h9) rfl dX3_latestDay_16 ?_
        refine lv_iload hx hb dX3_latestDay_19 (lv_at hl 0 rfl) ?_
        refine va_iald hx hb hK.1 hP 23 13 (f := st.2.1 13) (n := 60) (cA := k 13) rfl rfl (i := x4_5) (ob_X3_latestDay_21_2 st a1 a2 n_5 x4_5 x3_5 hok hi0_5 hi1_5 hi2_5 h11_1) dX3_latestDay_21 ?_
        refine vp_callSi (va_Run.run (va_runSN (As := [.int a1, .int (st.2.1 13 x4_5.toNatClampNeg)]) (rest := []) ⟨hx, hb, hml, hown, hts⟩ (c_X9_isAmong l a1 (st.2.1 13 x4_5.toNatClampNeg) _ rfl) ⟨va_cnB 2 hts gX3_latestDay_X9_isAmong_n25 rfl rfl rfl (hK.2 (.methodLinkNest RX3 25 yX9_isAmong RX9) (by decide +kernel)) (hts (.initialized RX9) (by decide +kernel)) (by decide +kernel) ⟨Nat.le_of_ble_eq_true rfl, Nat.le_of_ble_eq_true rfl⟩, hts (.static yX9_isAmong) (by decide +kernel), trivial⟩ ⟨fb_T, fun U hU hW => ⟨rfl, trivial⟩⟩ rfl rfl hl.1 rfl (lv_room (Nat.le_of_ble_eq_true rfl)) dX3_latestDay_22 ⟨Nat.le_of_ble_eq_true rfl, Nat.le_of_ble_eq_true rfl⟩)) (fun r9 e9 => ?_)
        subst e9
        refine lv_if_eq (tgt := 51) hx hb dX3_latestDay_25 (by decide) (fun h25_3 => ?_) (fun h25_3 => ?_)
        · have he := (if_pos h25_3).symm.trans he
          refine lv_iinc (v := x4_5 + 1) (lv' := [(4, .int (x4_5 + 1)), (3, .int x3_5), (0, .ref (q 6)), (1, .int a1), (2, .int a2)]) hx hb dX3_latestDay_51 hl (k := 0) rfl rfl (by decide) rfl (fun ls hl => ?_)
          refine lv_goto (tgt := 5) hx hb dX3_latestDay_54 (by decide) ?_
          exact ih_5 (x4_5 + 1) x3_5 ls (ob_X3_latestDay_5_inv0_4 st a1 a2 n_5 x4_5 x3_5 hok hi0_5 hi1_5 hi2_5 h11_1 h25_3) (ob_X3_latestDay_5_inv1_5 st a1 a2 n_5 x4_5 x3_5 hok hi0_5 hi1_5 hi2_5 h11_1 h25_3) (ob_X3_latestDay_5_inv2_6 st a1 a2 n_5 x4_5 x3_5 hok hi0_5 hi1_5 hi2_5 h11_1 h25_3) he (lv_sub hl [0, 1, 2, 3, 4] rfl)
        · have he := (if_neg h25_3).symm.trans he
          refine lv_aload_n hx hb dX3_latestDay_28 rfl (lv_at hl 2 rfl) ?_
          refine va_get (D := (dC, dI)) (ci := 3) (v := .ref (q 24)) (C := RX3) (T := TX3) (N := 4) hx hb hts hi3 hown hK.1 hP 6 rfl rfl 1 (by decide) hf15 (fun _ h9 => h9) rfl dX3_latestDay_29 ?_
          refine lv_iload hx hb dX3_latestDay_32 (lv_at hl 0 rfl) ?_
          refine va_iald hx hb hK.1 hP 24 14 (f := st.2.1 14) (n := 60) (cA := k 14) rfl rfl (i := x4_5) (ob_X3_latestDay_34_7 st a1 a2 n_5 x4_5 x3_5 hok hi0_5 hi1_5 hi2_5 h11_1 h25_3) dX3_latestDay_34 ?_
          refine lv_iload_n hx hb dX3_latestDay_35 rfl (lv_at hl 4 rfl) ?_
          refine lv_icmp_ne (tgt := 51) hx hb dX3_latestDay_36 (by decide) (fun h36_8 => ?_) (fun h36_8 => ?_)
          · have he := (if_neg h36_8).symm.trans he
            refine lv_iinc (v := x4_5 + 1) (lv' := [(4, .int (x4_5 + 1)), (3, .int x3_5), (0, .ref (q 6)), (1, .int a1), (2, .int a2)]) hx hb dX3_latestDay_51 hl (k := 0) rfl rfl (by decide) rfl (fun ls hl => ?_)
            refine lv_goto (tgt := 5) hx hb dX3_latestDay_54 (by decide) ?_
            exact ih_5 (x4_5 + 1) x3_5 ls (ob_X3_latestDay_5_inv0_9 st a1 a2 n_5 x4_5 x3_5 hok hi0_5 hi1_5 hi2_5 h11_1 h25_3 h36_8) (ob_X3_latestDay_5_inv1_10 st a1 a2 n_5 x4_5 x3_5 hok hi0_5 hi1_5 hi2_5 h11_1 h25_3 h36_8) (ob_X3_latestDay_5_inv2_11 st a1 a2 n_5 x4_5 x3_5 hok hi0_5 hi1_5 hi2_5 h11_1 h25_3 h36_8) he (lv_sub hl [0, 1, 2, 3, 4] rfl)
          · have he := (if_pos h36_8).symm.trans he
            refine lv_iload_n hx hb dX3_latestDay_39 rfl (lv_at hl 1 rfl) ?_
            refine lv_aload_n hx hb dX3_latestDay_40 rfl (lv_at hl 2 rfl) ?_
            refine va_get (D := (dC, dI)) (ci := 3) (v := .ref (q 25)) (C := RX3) (T := TX3) (N := 4) hx hb hts hi3 hown hK.1 hP 6 rfl rfl 2 (by decide) hf18 (fun _ h9 => h9) rfl dX3_latestDay_41 ?_
            refine lv_iload hx hb dX3_latestDay_44 (lv_at hl 0 rfl) ?_
            refine va_iald hx hb hK.1 hP 25 15 (f := st.2.1 15) (n := 60) (cA := k 15) rfl rfl (i := x4_5) (ob_X3_latestDay_46_12 st a1 a2 n_5 x4_5 x3_5 hok hi0_5 hi1_5 hi2_5 h11_1 h25_3 h36_8) dX3_latestDay_46 ?_
            refine va_mmax hx hb (hml.trans hl.1.symm) hown (hts (.methodLink RX3 29 Lib.Math.max.name) (by decide +kernel)) (hts (.static Lib.Math.max.name) (by decide +kernel)) (hts (.initialized "java/lang/Math") (by decide +kernel)) (hts (.code Lib.Math.max.name Lib.Math.max.code 2 (some .int)) (by decide +kernel)) (Nat.le_of_ble_eq_true rfl) (Nat.le_of_ble_eq_true rfl) (Nat.le_of_ble_eq_true rfl) (Nat.le_of_ble_eq_true rfl) dX3_latestDay_47 ?_
            refine lv_istore_n (lv' := [(3, .int (if x3_5 < st.2.1 15 x4_5.toNatClampNeg then st.2.1 15 x4_5.toNatClampNeg else x3_5)), (4, .int x4_5), (0, .ref (q 6)), (1, .int a1), (2, .int a2)]) hx hb dX3_latestDay_50 rfl hl (by decide) rfl (fun ls hl => ?_)
            refine lv_iinc (v := x4_5 + 1) (lv' := [(4, .int (x4_5 + 1)), (3, .int (if x3_5 < st.2.1 15 x4_5.toNatClampNeg then st.2.1 15 x4_5.toNatClampNeg else x3_5)), (0, .ref (q 6)), (1, .int a1), (2, .int a2)]) hx hb dX3_latestDay_51 hl (k := 1) rfl rfl (by decide) rfl (fun ls hl => ?_)
            refine lv_goto (tgt := 5) hx hb dX3_latestDay_54 (by decide) ?_
            exact ih_5 (x4_5 + 1) (if x3_5 < st.2.1 15 x4_5.toNatClampNeg then st.2.1 15 x4_5.toNatClampNeg else x3_5) ls (ob_X3_latestDay_5_inv0_13 st a1 a2 n_5 x4_5 x3_5 hok hi0_5 hi1_5 hi2_5 h11_1 h25_3 h36_8) (ob_X3_latestDay_5_inv1_14 st a1 a2 n_5 x4_5 x3_5 hok hi0_5 hi1_5 hi2_5 h11_1 h25_3 h36_8) (ob_X3_latestDay_5_inv2_15 st a1 a2 n_5 x4_5 x3_5 hok hi0_5 hi1_5 hi2_5 h11_1 h25_3 h36_8) he (lv_sub hl [0, 1, 2, 3, 4] rfl)
  exact k_5 ((st.1 5).toInt.toNat + 1) 0 (-1) ls (ob_X3_latestDay_5_inv0_16 st a1 a2 hok) (ob_X3_latestDay_5_inv1_17 st a1 a2 hok) (ob_X3_latestDay_5_inv2_18 st a1 a2 hok) he (lv_sub hl [0, 1, 2, 3, 4] rfl)

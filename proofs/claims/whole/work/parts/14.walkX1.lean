set_option maxHeartbeats 4000000 in
set_option maxRecDepth 100000 in
theorem c_X1_add (l : Launch) (dC : Nat → ClassId) (dI : Nat → Nat → Nat) (q : Nat → Nat) (k : Nat → ClassId) (st : St) (a1 : Int32) (a2 : Int32) (a3 : Int32) (a4 : Int32) (hq : ∀ i j, i < 43 → j < 43 → q i = q j → i = j) (hok : okC st) (res : Int32 × St) (hres : sp_X1_add st a1 a2 a3 a4 = res) : Met l yX1_add wsX1_add ({ frames := 0, cells := 0, slots := 0, locals := 0 } : Room) (va_Pc [.ref (q 4), .int a1, .int a2, .int a3, .int a4] (fun U => va_P (dC, dI) vwCl (wC q k st) U.heap ∧ KC (dC, dI) k U)) (va_Qi (fun r (_ : Unit) => r = res.1) (fun _ t => va_P (dC, dI) vwCl (wC q k res.2) t.heap) (aC q)) 0 0 (aC q) := by
  refine Met.ofW (cc := cX1_add) (maxL := 5) (ret := (some .int)) (by decide) rfl ?_
  intro p e s m args below meth c s₁ B hml hv
  obtain ⟨rfl, hP, hK⟩ := hv
  have hx := B.exec
  have hb := B.bytes
  have hr := B.returns
  have hts := atoms_spec (ws := wsX1_add) B.pre
  have hown : s.vm.findClass RX1 = some m.cls := findClass_of_methodNamed B.named
  have hlocks := B.notSynchronized
  have hS : va_S (aC q) s.heap s.heap [] := va_S.rf
  have hi1 : ∀ w ∈ wsX10, w ∈ wsX1_add := by decide +kernel
  have hf11 := hts (.fieldLink RX1 11 "ConsentRegister$Contracts" "persons" "[I") (by decide +kernel)
  have hf15 := hts (.fieldLink RX1 15 "ConsentRegister$Contracts" "purposes" "[I") (by decide +kernel)
  have hf18 := hts (.fieldLink RX1 18 "ConsentRegister$Contracts" "starts" "[I") (by decide +kernel)
  have hf21 := hts (.fieldLink RX1 21 "ConsentRegister$Contracts" "ends" "[I") (by decide +kernel)
  have hf24 := hts (.fieldLink RX1 24 "ConsentRegister$Contracts" "count" "I") (by decide +kernel)
  have hl := lv_entry ([.ref (q 4), .int a1, .int a2, .int a3, .int a4]) (n := 5) (Nat.le_of_ble_eq_true rfl)
  rw [lg_entry_eq]
  generalize (lg_sl ([.ref (q 4), .int a1, .int a2, .int a3, .int a4]) ++ List.replicate (5 - (lg_sl ([.ref (q 4), .int a1, .int a2, .int a3, .int a4])).length) Slot.unset).toArray = ls at hl ⊢
  have hl : lv_has ls 5 [(0, .ref (q 4)), (1, .int a1), (2, .int a2), (3, .int a3), (4, .int a4)] := hl
  have he := hres
  unfold sp_X1_add at he
  refine lv_aload_n hx hb dX1_add_0 rfl (lv_at hl 0 rfl) ?_
  refine va_get (D := (dC, dI)) (ci := 1) (v := .int (st.1 3)) (C := RX1) (T := TX1) (N := 5) hx hb hts hi1 hown hK.1 hP 4 rfl rfl 4 (by decide) hf24 (fun _ h9 => h9) rfl dX1_add_1 ?_
  refine lv_bipush (v := 40) hx hb dX1_add_4 (by decide) ?_
  refine lv_icmp_lt (tgt := 11) hx hb dX1_add_6 (by decide) (fun h6_1 => ?_) (fun h6_1 => ?_)
  · have he := (if_pos h6_1).symm.trans he
    refine lv_aload_n hx hb dX1_add_11 rfl (lv_at hl 0 rfl) ?_
    refine va_get (D := (dC, dI)) (ci := 1) (v := .ref (q 16)) (C := RX1) (T := TX1) (N := 5) hx hb hts hi1 hown hK.1 hP 4 rfl rfl 0 (by decide) hf11 (fun _ h9 => h9) rfl dX1_add_12 ?_
    refine lv_aload_n hx hb dX1_add_15 rfl (lv_at hl 0 rfl) ?_
    refine va_get (D := (dC, dI)) (ci := 1) (v := .int (st.1 3)) (C := RX1) (T := TX1) (N := 5) hx hb hts hi1 hown hK.1 hP 4 rfl rfl 4 (by decide) hf24 (fun _ h9 => h9) rfl dX1_add_16 ?_
    refine lv_iload_n hx hb dX1_add_19 rfl (lv_at hl 1 rfl) ?_
    refine va_iast hx hb hK.1 hP (dC_of hq) hS 16 6 (f := st.2.1 6) (n := 40) (cA := k 6) rfl rfl (i := st.1 3) (x := a1) (ob_X1_add_20_2 st a1 a2 a3 a4 hok h6_1) dX1_add_20 (fun H locs hP _ hS => ?_)
    have hP : va_P (dC, dI) vwCl (wC q k (sA st 6 ((st.1 3).toNatClampNeg) a1)) H := hP
    refine lv_aload_n hx hb dX1_add_21 rfl (lv_at hl 0 rfl) ?_
    refine va_get (D := (dC, dI)) (ci := 1) (v := .ref (q 17)) (C := RX1) (T := TX1) (N := 5) hx hb hts hi1 hown hK.1 hP 4 rfl rfl 1 (by decide) hf15 (fun _ h9 => h9) rfl dX1_add_22 ?_
    refine lv_aload_n hx hb dX1_add_25 rfl (lv_at hl 0 rfl) ?_
    refine va_get (D := (dC, dI)) (ci := 1) (v := .int (st.1 3)) (C := RX1) (T := TX1) (N := 5) hx hb hts hi1 hown hK.1 hP 4 rfl rfl 4 (by decide) hf24 (fun _ h9 => h9) rfl dX1_add_26 ?_
    refine lv_iload_n hx hb dX1_add_29 rfl (lv_at hl 2 rfl) ?_
    refine va_iast hx hb hK.1 hP (dC_of hq) hS 17 7 (f := st.2.1 7) (n := 40) (cA := k 7) rfl rfl (i := st.1 3) (x := a2) (ob_X1_add_30_3 st a1 a2 a3 a4 hok h6_1) dX1_add_30 (fun H locs hP _ hS => ?_)
    have hP : va_P (dC, dI) vwCl (wC q k (sA (sA st 6 ((st.1 3).toNatClampNeg) a1) 7 ((st.1 3).toNatClampNeg) a2)) H := hP
    refine lv_aload_n hx hb dX1_add_31 rfl (lv_at hl 0 rfl) ?_
    refine va_get (D := (dC, dI)) (ci := 1) (v := .ref (q 18)) (C := RX1) (T := TX1) (N := 5) hx hb hts hi1 hown hK.1 hP 4 rfl rfl 2 (by decide) hf18 (fun _ h9 => h9) rfl dX1_add_32 ?_
    refine lv_aload_n hx hb dX1_add_35 rfl (lv_at hl 0 rfl) ?_
    refine va_get (D := (dC, dI)) (ci := 1) (v := .int (st.1 3)) (C := RX1) (T := TX1) (N := 5) hx hb hts hi1 hown hK.1 hP 4 rfl rfl 4 (by decide) hf24 (fun _ h9 => h9) rfl dX1_add_36 ?_
    refine lv_iload_n hx hb dX1_add_39 rfl (lv_at hl 3 rfl) ?_
    refine va_iast hx hb hK.1 hP (dC_of hq) hS 18 8 (f := st.2.1 8) (n := 40) (cA := k 8) rfl rfl (i := st.1 3) (x := a3) (ob_X1_add_40_4 st a1 a2 a3 a4 hok h6_1) dX1_add_40 (fun H locs hP _ hS => ?_)
    have hP : va_P (dC, dI) vwCl (wC q k (sA (sA (sA st 6 ((st.1 3).toNatClampNeg) a1) 7 ((st.1 3).toNatClampNeg) a2) 8 ((st.1 3).toNatClampNeg) a3)) H := hP
    refine lv_aload_n hx hb dX1_add_41 rfl (lv_at hl 0 rfl) ?_
    refine va_get (D := (dC, dI)) (ci := 1) (v := .ref (q 19)) (C := RX1) (T := TX1) (N := 5) hx hb hts hi1 hown hK.1 hP 4 rfl rfl 3 (by decide) hf21 (fun _ h9 => h9) rfl dX1_add_42 ?_
    refine lv_aload_n hx hb dX1_add_45 rfl (lv_at hl 0 rfl) ?_
    refine va_get (D := (dC, dI)) (ci := 1) (v := .int (st.1 3)) (C := RX1) (T := TX1) (N := 5) hx hb hts hi1 hown hK.1 hP 4 rfl rfl 4 (by decide) hf24 (fun _ h9 => h9) rfl dX1_add_46 ?_
    refine lv_iload hx hb dX1_add_49 (lv_at hl 4 rfl) ?_
    refine va_iast hx hb hK.1 hP (dC_of hq) hS 19 9 (f := st.2.1 9) (n := 40) (cA := k 9) rfl rfl (i := st.1 3) (x := a4) (ob_X1_add_51_5 st a1 a2 a3 a4 hok h6_1) dX1_add_51 (fun H locs hP _ hS => ?_)
    have hP : va_P (dC, dI) vwCl (wC q k (sA (sA (sA (sA st 6 ((st.1 3).toNatClampNeg) a1) 7 ((st.1 3).toNatClampNeg) a2) 8 ((st.1 3).toNatClampNeg) a3) 9 ((st.1 3).toNatClampNeg) a4)) H := hP
    refine lv_aload_n hx hb dX1_add_52 rfl (lv_at hl 0 rfl) ?_
    refine lv_dup hx hb dX1_add_53 rfl ?_
    refine va_get (D := (dC, dI)) (ci := 1) (v := .int (st.1 3)) (C := RX1) (T := TX1) (N := 5) hx hb hts hi1 hown hK.1 hP 4 rfl rfl 4 (by decide) hf24 (fun _ h9 => h9) rfl dX1_add_54 ?_
    refine lv_iconst (v := 1) hx hb dX1_add_57 (by decide) ?_
    refine lv_iadd hx hb dX1_add_58 ?_
    refine va_put (D := (dC, dI)) (ci := 1) (v := .int ((st.1 3) + 1)) (ty := .int) (C := RX1) (T := TX1) (N := 5) hx hb hts hi1 tyX1 tyX1_ok nmX1 hown hK.1 hP (dC_of hq) hS 4 rfl rfl 4 (by decide) hf24 (fun _ h9 => h9) rfl (by decide +kernel) rfl rfl (Nat.le_of_ble_eq_true rfl) dX1_add_59 (fun H locs hP _ hS => ?_)
    have hP : va_P (dC, dI) vwCl (wC q k (sI (sA (sA (sA (sA st 6 ((st.1 3).toNatClampNeg) a1) 7 ((st.1 3).toNatClampNeg) a2) 8 ((st.1 3).toNatClampNeg) a3) 9 ((st.1 3).toNatClampNeg) a4) 3 ((st.1 3) + 1))) H := hP
    refine lv_aload_n hx hb dX1_add_62 rfl (lv_at hl 0 rfl) ?_
    refine va_get (D := (dC, dI)) (ci := 1) (v := .int ((st.1 3) + 1)) (C := RX1) (T := TX1) (N := 5) hx hb hts hi1 hown hK.1 hP 4 rfl rfl 4 (by decide) hf24 (fun _ h9 => h9) rfl dX1_add_63 ?_
    exact W.iret (v := (st.1 3) + 1) hx hb hr (fun t ht hW => ⟨⟨_, (), rfl, by show _ = Prod.fst _; rw [← he], by show va_P _ _ _ t.heap; rw [ht, ← he]; exact hP⟩, hS.F ht⟩) hS.2.2 dX1_add_66
  · have he := (if_neg h6_1).symm.trans he
    refine lv_iconst (v := (-1)) hx hb dX1_add_9 (by decide) ?_
    exact W.iret (v := (-1)) hx hb hr (fun t ht hW => ⟨⟨_, (), rfl, by show _ = Prod.fst _; rw [← he], by show va_P _ _ _ t.heap; rw [ht, ← he]; exact hP⟩, hS.F ht⟩) hS.2.2 dX1_add_10
set_option maxHeartbeats 4000000 in
set_option maxRecDepth 100000 in
theorem c_X1_allow (l : Launch) (dC : Nat → ClassId) (dI : Nat → Nat → Nat) (q : Nat → Nat) (k : Nat → ClassId) (st : St) (a1 : Int32) (a2 : Int32) (a3 : Int32) (hok : okC st) (res : Int32) (hres : sp_X1_allow st a1 a2 a3 = res) : Met l yX1_allow wsX1_allow ({ frames := 2, cells := 0, slots := 0, locals := 43 } : Room) (va_Pc [.ref (q 4), .int a1, .int a2, .int a3, .ref (q 1)] (fun U => va_P (dC, dI) vwCl (wC q k st) U.heap ∧ KC (dC, dI) k U)) (vp_Si (fun r => r = res)) 0 0 (fun _ => False) := by
  refine Met.ofW (cc := cX1_allow) (maxL := 6) (ret := (some .boolean)) (by decide) rfl ?_
  intro p e s m args below meth c s₁ B hml hv
  obtain ⟨rfl, hP, hK⟩ := hv
  have hx := B.exec
  have hb := B.bytes
  have hr := B.returns
  have hts := atoms_spec (ws := wsX1_allow) B.pre
  have hown : s.vm.findClass RX1 = some m.cls := findClass_of_methodNamed B.named
  have hlocks := B.notSynchronized
  have hi1 : ∀ w ∈ wsX10, w ∈ wsX1_allow := by decide +kernel
  have hf11 := hts (.fieldLink RX1 11 "ConsentRegister$Contracts" "persons" "[I") (by decide +kernel)
  have hf15 := hts (.fieldLink RX1 15 "ConsentRegister$Contracts" "purposes" "[I") (by decide +kernel)
  have hf18 := hts (.fieldLink RX1 18 "ConsentRegister$Contracts" "starts" "[I") (by decide +kernel)
  have hf21 := hts (.fieldLink RX1 21 "ConsentRegister$Contracts" "ends" "[I") (by decide +kernel)
  have hf24 := hts (.fieldLink RX1 24 "ConsentRegister$Contracts" "count" "I") (by decide +kernel)
  have hl := lv_entry ([.ref (q 4), .int a1, .int a2, .int a3, .ref (q 1)]) (n := 6) (Nat.le_of_ble_eq_true rfl)
  rw [lg_entry_eq]
  generalize (lg_sl ([.ref (q 4), .int a1, .int a2, .int a3, .ref (q 1)]) ++ List.replicate (6 - (lg_sl ([.ref (q 4), .int a1, .int a2, .int a3, .ref (q 1)])).length) Slot.unset).toArray = ls at hl ⊢
  have hl : lv_has ls 6 [(0, .ref (q 4)), (1, .int a1), (2, .int a2), (3, .int a3), (4, .ref (q 1))] := hl
  have he := hres
  unfold sp_X1_allow at he
  refine lv_iconst (v := 0) hx hb dX1_allow_0 (by decide) ?_
  refine lv_istore (lv' := [(5, .int 0), (0, .ref (q 4)), (1, .int a1), (2, .int a2), (3, .int a3), (4, .ref (q 1))]) hx hb dX1_allow_1 hl (by decide) rfl (fun ls hl => ?_)
  have k_3 : ∀ (n_3 : Nat) (x5_3 : Int32) (ls : Array Slot), 0 ≤ x5_3.toInt → x5_3.toInt ≤ (st.1 3).toInt → (st.1 3).toInt < x5_3.toInt + n_3 → lp_X1_allow_3 st a1 a2 a3 n_3 x5_3 = res → lv_has ls 6 [(5, .int x5_3), (0, .ref (q 4)), (1, .int a1), (2, .int a2), (3, .int a3), (4, .ref (q 1))] → W p l e (headSpec wsX1_allow ({ frames := 2, cells := 0, slots := 0, locals := 43 } : Room)).room s m ([.ref (q 4), .int a1, .int a2, .int a3, .ref (q 1)] : List Value).toArray below meth c s.heap [] 0 0 (MQ below (vp_Si (fun r => r = res)) ([.ref (q 4), .int a1, .int a2, .int a3, .ref (q 1)] : List Value).toArray s 0 0 (fun _ => False)) (F0 m 3 ls []) := by
    intro n_3
    induction n_3 with
    | zero =>
      intro x5_3 ls hi0_3 hi1_3 hi2_3
      exact (ob_X1_allow_3_zero st a1 a2 a3 x5_3 hok hi0_3 hi1_3 hi2_3).elim
    | succ n_3 ih_3 =>
      intro x5_3 ls hi0_3 hi1_3 hi2_3 he hl
      rw [lp_X1_allow_3] at he
      refine lv_iload hx hb dX1_allow_3 (lv_at hl 0 rfl) ?_
      refine lv_aload_n hx hb dX1_allow_5 rfl (lv_at hl 1 rfl) ?_
      refine va_get (D := (dC, dI)) (ci := 1) (v := .int (st.1 3)) (C := RX1) (T := TX1) (N := 5) hx hb hts hi1 hown hK.1 hP 4 rfl rfl 4 (by decide) hf24 (fun _ h9 => h9) rfl dX1_allow_6 ?_
      refine lv_icmp_ge (tgt := 72) hx hb dX1_allow_9 (by decide) (fun h9_1 => ?_) (fun h9_1 => ?_)
      · have he := (if_pos h9_1).symm.trans he
        refine lv_iconst (v := 0) hx hb dX1_allow_72 (by decide) ?_
        exact W.zret (v := 0) hx hb hr rfl (fun t ht hW => ⟨_, rfl, he, ht⟩) (fun _ h => nomatch h) dX1_allow_73
      · have he := (if_neg h9_1).symm.trans he
        refine lv_iload_n hx hb dX1_allow_12 rfl (lv_at hl 2 rfl) ?_
        refine lv_aload_n hx hb dX1_allow_13 rfl (lv_at hl 1 rfl) ?_
        refine va_get (D := (dC, dI)) (ci := 1) (v := .ref (q 16)) (C := RX1) (T := TX1) (N := 5) hx hb hts hi1 hown hK.1 hP 4 rfl rfl 0 (by decide) hf11 (fun _ h9 => h9) rfl dX1_allow_14 ?_
        refine lv_iload hx hb dX1_allow_17 (lv_at hl 0 rfl) ?_
        refine va_iald hx hb hK.1 hP 16 6 (f := st.2.1 6) (n := 40) (cA := k 6) rfl rfl (i := x5_3) (ob_X1_allow_19_2 st a1 a2 a3 n_3 x5_3 hok hi0_3 hi1_3 hi2_3 h9_1) dX1_allow_19 ?_
        refine vp_callSi (va_Run.run (va_runSN (As := [.int a1, .int (st.2.1 6 x5_3.toNatClampNeg)]) (rest := []) ⟨hx, hb, hml, hown, hts⟩ (c_X9_isAmong l a1 (st.2.1 6 x5_3.toNatClampNeg) _ rfl) ⟨va_cnB 2 hts gX1_allow_X9_isAmong_n28 rfl rfl rfl (hK.2 (.methodLinkNest RX1 28 yX9_isAmong RX9) (by decide +kernel)) (hts (.initialized RX9) (by decide +kernel)) (by decide +kernel) ⟨Nat.le_of_ble_eq_true rfl, Nat.le_of_ble_eq_true rfl⟩, hts (.static yX9_isAmong) (by decide +kernel), trivial⟩ ⟨fb_T, fun U hU hW => ⟨rfl, trivial⟩⟩ rfl rfl hl.1 rfl (lv_room (Nat.le_of_ble_eq_true rfl)) dX1_allow_20 ⟨Nat.le_of_ble_eq_true rfl, Nat.le_of_ble_eq_true rfl⟩)) (fun r9 e9 => ?_)
        subst e9
        refine lv_if_eq (tgt := 66) hx hb dX1_allow_23 (by decide) (fun h23_3 => ?_) (fun h23_3 => ?_)
        · have he := (if_pos h23_3).symm.trans he
          refine lv_iinc (v := x5_3 + 1) (lv' := [(5, .int (x5_3 + 1)), (0, .ref (q 4)), (1, .int a1), (2, .int a2), (3, .int a3), (4, .ref (q 1))]) hx hb dX1_allow_66 hl (k := 0) rfl rfl (by decide) rfl (fun ls hl => ?_)
          refine lv_goto (tgt := 3) hx hb dX1_allow_69 (by decide) ?_
          exact ih_3 (x5_3 + 1) ls (ob_X1_allow_3_inv0_4 st a1 a2 a3 n_3 x5_3 hok hi0_3 hi1_3 hi2_3 h9_1 h23_3) (ob_X1_allow_3_inv1_5 st a1 a2 a3 n_3 x5_3 hok hi0_3 hi1_3 hi2_3 h9_1 h23_3) (ob_X1_allow_3_inv2_6 st a1 a2 a3 n_3 x5_3 hok hi0_3 hi1_3 hi2_3 h9_1 h23_3) he (lv_sub hl [0, 1, 2, 3, 4, 5] rfl)
        · have he := (if_neg h23_3).symm.trans he
          refine lv_aload_n hx hb dX1_allow_26 rfl (lv_at hl 1 rfl) ?_
          refine va_get (D := (dC, dI)) (ci := 1) (v := .ref (q 18)) (C := RX1) (T := TX1) (N := 5) hx hb hts hi1 hown hK.1 hP 4 rfl rfl 2 (by decide) hf18 (fun _ h9 => h9) rfl dX1_allow_27 ?_
          refine lv_iload hx hb dX1_allow_30 (lv_at hl 0 rfl) ?_
          refine va_iald hx hb hK.1 hP 18 8 (f := st.2.1 8) (n := 40) (cA := k 8) rfl rfl (i := x5_3) (ob_X1_allow_32_7 st a1 a2 a3 n_3 x5_3 hok hi0_3 hi1_3 hi2_3 h9_1 h23_3) dX1_allow_32 ?_
          refine lv_iload_n hx hb dX1_allow_33 rfl (lv_at hl 4 rfl) ?_
          refine lv_icmp_gt (tgt := 66) hx hb dX1_allow_34 (by decide) (fun h34_8 => ?_) (fun h34_8 => ?_)
          · have he := (if_pos h34_8).symm.trans he
            refine lv_iinc (v := x5_3 + 1) (lv' := [(5, .int (x5_3 + 1)), (0, .ref (q 4)), (1, .int a1), (2, .int a2), (3, .int a3), (4, .ref (q 1))]) hx hb dX1_allow_66 hl (k := 0) rfl rfl (by decide) rfl (fun ls hl => ?_)
            refine lv_goto (tgt := 3) hx hb dX1_allow_69 (by decide) ?_
            exact ih_3 (x5_3 + 1) ls (ob_X1_allow_3_inv0_9 st a1 a2 a3 n_3 x5_3 hok hi0_3 hi1_3 hi2_3 h9_1 h23_3 h34_8) (ob_X1_allow_3_inv1_10 st a1 a2 a3 n_3 x5_3 hok hi0_3 hi1_3 hi2_3 h9_1 h23_3 h34_8) (ob_X1_allow_3_inv2_11 st a1 a2 a3 n_3 x5_3 hok hi0_3 hi1_3 hi2_3 h9_1 h23_3 h34_8) he (lv_sub hl [0, 1, 2, 3, 4, 5] rfl)
          · have he := (if_neg h34_8).symm.trans he
            refine lv_iload_n hx hb dX1_allow_37 rfl (lv_at hl 4 rfl) ?_
            refine lv_aload_n hx hb dX1_allow_38 rfl (lv_at hl 1 rfl) ?_
            refine va_get (D := (dC, dI)) (ci := 1) (v := .ref (q 19)) (C := RX1) (T := TX1) (N := 5) hx hb hts hi1 hown hK.1 hP 4 rfl rfl 3 (by decide) hf21 (fun _ h9 => h9) rfl dX1_allow_39 ?_
            refine lv_iload hx hb dX1_allow_42 (lv_at hl 0 rfl) ?_
            refine va_iald hx hb hK.1 hP 19 9 (f := st.2.1 9) (n := 40) (cA := k 9) rfl rfl (i := x5_3) (ob_X1_allow_44_12 st a1 a2 a3 n_3 x5_3 hok hi0_3 hi1_3 hi2_3 h9_1 h23_3 h34_8) dX1_allow_44 ?_
            refine lv_icmp_gt (tgt := 66) hx hb dX1_allow_45 (by decide) (fun h45_13 => ?_) (fun h45_13 => ?_)
            · have he := (if_pos h45_13).symm.trans he
              refine lv_iinc (v := x5_3 + 1) (lv' := [(5, .int (x5_3 + 1)), (0, .ref (q 4)), (1, .int a1), (2, .int a2), (3, .int a3), (4, .ref (q 1))]) hx hb dX1_allow_66 hl (k := 0) rfl rfl (by decide) rfl (fun ls hl => ?_)
              refine lv_goto (tgt := 3) hx hb dX1_allow_69 (by decide) ?_
              exact ih_3 (x5_3 + 1) ls (ob_X1_allow_3_inv0_14 st a1 a2 a3 n_3 x5_3 hok hi0_3 hi1_3 hi2_3 h9_1 h23_3 h34_8 h45_13) (ob_X1_allow_3_inv1_15 st a1 a2 a3 n_3 x5_3 hok hi0_3 hi1_3 hi2_3 h9_1 h23_3 h34_8 h45_13) (ob_X1_allow_3_inv2_16 st a1 a2 a3 n_3 x5_3 hok hi0_3 hi1_3 hi2_3 h9_1 h23_3 h34_8 h45_13) he (lv_sub hl [0, 1, 2, 3, 4, 5] rfl)
            · have he := (if_neg h45_13).symm.trans he
              refine lv_aload hx hb dX1_allow_48 (lv_at hl 5 rfl) ?_
              refine lv_aload_n hx hb dX1_allow_50 rfl (lv_at hl 1 rfl) ?_
              refine va_get (D := (dC, dI)) (ci := 1) (v := .ref (q 17)) (C := RX1) (T := TX1) (N := 5) hx hb hts hi1 hown hK.1 hP 4 rfl rfl 1 (by decide) hf15 (fun _ h9 => h9) rfl dX1_allow_51 ?_
              refine lv_iload hx hb dX1_allow_54 (lv_at hl 0 rfl) ?_
              refine va_iald hx hb hK.1 hP 17 7 (f := st.2.1 7) (n := 40) (cA := k 7) rfl rfl (i := x5_3) (ob_X1_allow_56_17 st a1 a2 a3 n_3 x5_3 hok hi0_3 hi1_3 hi2_3 h9_1 h23_3 h34_8 h45_13) dX1_allow_56 ?_
              refine lv_iload_n hx hb dX1_allow_57 rfl (lv_at hl 3 rfl) ?_
              refine vp_callSi (va_Run.run (va_runV (As := [.int (st.2.1 7 x5_3.toNatClampNeg), .int a2]) (rest := []) ⟨hx, hb, hml, hown, hts⟩ (c_X8_isAtOrAbove l dC dI q k st (st.2.1 7 x5_3.toNatClampNeg) a2 hok _ rfl) (cwV 2 hts gX1_allow_X8_isAtOrAbove rfl rfl rfl (by decide +kernel) ⟨Nat.le_of_ble_eq_true rfl, Nat.le_of_ble_eq_true rfl⟩) ⟨fb_C, va_recv hK.1 hP (ci := 8) (q0 := 1) rfl rfl, fun U hU hW => ⟨rfl, by rw [hU]; exact hP, hK.warm hW⟩⟩ rfl rfl hl.1 rfl (lv_room (Nat.le_of_ble_eq_true rfl)) dX1_allow_58 ⟨Nat.le_of_ble_eq_true rfl, Nat.le_of_ble_eq_true rfl⟩)) (fun r9 e9 => ?_)
              subst e9
              refine lv_if_eq (tgt := 66) hx hb dX1_allow_61 (by decide) (fun h61_18 => ?_) (fun h61_18 => ?_)
              · have he := (if_pos h61_18).symm.trans he
                refine lv_iinc (v := x5_3 + 1) (lv' := [(5, .int (x5_3 + 1)), (0, .ref (q 4)), (1, .int a1), (2, .int a2), (3, .int a3), (4, .ref (q 1))]) hx hb dX1_allow_66 hl (k := 0) rfl rfl (by decide) rfl (fun ls hl => ?_)
                refine lv_goto (tgt := 3) hx hb dX1_allow_69 (by decide) ?_
                exact ih_3 (x5_3 + 1) ls (ob_X1_allow_3_inv0_19 st a1 a2 a3 n_3 x5_3 hok hi0_3 hi1_3 hi2_3 h9_1 h23_3 h34_8 h45_13 h61_18) (ob_X1_allow_3_inv1_20 st a1 a2 a3 n_3 x5_3 hok hi0_3 hi1_3 hi2_3 h9_1 h23_3 h34_8 h45_13 h61_18) (ob_X1_allow_3_inv2_21 st a1 a2 a3 n_3 x5_3 hok hi0_3 hi1_3 hi2_3 h9_1 h23_3 h34_8 h45_13 h61_18) he (lv_sub hl [0, 1, 2, 3, 4, 5] rfl)
              · have he := (if_neg h61_18).symm.trans he
                refine lv_iconst (v := 1) hx hb dX1_allow_64 (by decide) ?_
                exact W.zret (v := 1) hx hb hr rfl (fun t ht hW => ⟨_, rfl, he, ht⟩) (fun _ h => nomatch h) dX1_allow_65
  exact k_3 ((st.1 3).toInt.toNat + 1) 0 ls (ob_X1_allow_3_inv0_22 st a1 a2 a3 hok) (ob_X1_allow_3_inv1_23 st a1 a2 a3 hok) (ob_X1_allow_3_inv2_24 st a1 a2 a3 hok) he (lv_sub hl [0, 1, 2, 3, 4, 5] rfl)

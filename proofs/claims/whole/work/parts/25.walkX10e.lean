set_option maxHeartbeats 4000000 in
set_option maxRecDepth 100000 in
theorem c_X10_falls (l : Launch) (dC : Nat → ClassId) (dI : Nat → Nat → Nat) (q : Nat → Nat) (k : Nat → ClassId) (st : St) (a1 : Int32) (hit : okIt st) (hva1 : vp_in a1 100) (res : Int32) (hres : sp_X10_falls st a1 = res) : Met l yX10_falls wsX10_falls ({ frames := 0, cells := 0, slots := 0, locals := 0 } : Room) (va_Pc [.ref (q 0), .int a1] (fun U => va_P (dC, dI) vwCl (wM q k st) U.heap ∧ KM (dC, dI) k U)) (vp_Si (fun r => r = res)) 0 0 (fun _ => False) := by
  refine Met.ofW (cc := cX10_falls) (maxL := 4) (ret := (some .boolean)) (by decide) rfl ?_
  intro p e s m args below meth c s₁ B hml hv
  obtain ⟨rfl, hP, hK⟩ := hv
  have hx := B.exec
  have hb := B.bytes
  have hr := B.returns
  have hts := atoms_spec (ws := wsX10_falls) B.pre
  have hown : s.vm.findClass RX10 = some m.cls := findClass_of_methodNamed B.named
  have hlocks := B.notSynchronized
  have hi10 : ∀ w ∈ wsX100, w ∈ wsX10_falls := by decide +kernel
  have hf54 := hts (.fieldLink RX10 54 "ConsentRegisterModel" "hows" "[I") (by decide +kernel)
  have hf66 := hts (.fieldLink RX10 66 "ConsentRegisterModel" "firstInput" "[I") (by decide +kernel)
  have hf69 := hts (.fieldLink RX10 69 "ConsentRegisterModel" "secondInput" "[I") (by decide +kernel)
  have hf75 := hts (.fieldLink RX10 75 "ConsentRegisterModel" "lives" "[Z") (by decide +kernel)
  have hl := lv_entry ([.ref (q 0), .int a1]) (n := 4) (Nat.le_of_ble_eq_true rfl)
  rw [lg_entry_eq]
  generalize (lg_sl ([.ref (q 0), .int a1]) ++ List.replicate (4 - (lg_sl ([.ref (q 0), .int a1])).length) Slot.unset).toArray = ls at hl ⊢
  have hl : lv_has ls 4 [(0, .ref (q 0)), (1, .int a1)] := hl
  have he := hres
  unfold sp_X10_falls at he
  refine lv_aload_n hx hb dX10_falls_0 rfl (lv_at hl 0 rfl) ?_
  refine va_get (D := (dC, dI)) (ci := 10) (v := .ref (q 27)) (C := RX10) (T := TX10) (N := 45) hx hb hts hi10 hown hK.1 hP 0 rfl rfl 27 (by decide) hf75 (fun _ h9 => h9) rfl dX10_falls_1 ?_
  refine lv_aload_n hx hb dX10_falls_4 rfl (lv_at hl 0 rfl) ?_
  refine va_get (D := (dC, dI)) (ci := 10) (v := .ref (q 25)) (C := RX10) (T := TX10) (N := 45) hx hb hts hi10 hown hK.1 hP 0 rfl rfl 24 (by decide) hf66 (fun _ h9 => h9) rfl dX10_falls_5 ?_
  refine lv_iload_n hx hb dX10_falls_8 rfl (lv_at hl 1 rfl) ?_
  refine va_iald hx hb hK.1 hP 25 24 (f := st.2.1 24) (n := 100) (cA := k 24) rfl rfl (i := a1) (ob_X10_falls_9_1 st a1 hit hva1) dX10_falls_9 ?_
  refine va_zald hx hb hK.1 hP 27 26 (f := st.2.1 26) (n := 100) (cA := k 26) rfl rfl (i := st.2.1 24 a1.toNatClampNeg) (ob_X10_falls_10_2 st a1 hit hva1) dX10_falls_10 ?_
  refine lv_istore_n (lv' := [(2, .int (st.2.1 26 (st.2.1 24 a1.toNatClampNeg).toNatClampNeg)), (0, .ref (q 0)), (1, .int a1)]) hx hb dX10_falls_11 rfl hl (by decide) rfl (fun ls hl => ?_)
  refine lv_aload_n hx hb dX10_falls_12 rfl (lv_at hl 1 rfl) ?_
  refine va_get (D := (dC, dI)) (ci := 10) (v := .ref (q 27)) (C := RX10) (T := TX10) (N := 45) hx hb hts hi10 hown hK.1 hP 0 rfl rfl 27 (by decide) hf75 (fun _ h9 => h9) rfl dX10_falls_13 ?_
  refine lv_aload_n hx hb dX10_falls_16 rfl (lv_at hl 1 rfl) ?_
  refine va_get (D := (dC, dI)) (ci := 10) (v := .ref (q 26)) (C := RX10) (T := TX10) (N := 45) hx hb hts hi10 hown hK.1 hP 0 rfl rfl 25 (by decide) hf69 (fun _ h9 => h9) rfl dX10_falls_17 ?_
  refine lv_iload_n hx hb dX10_falls_20 rfl (lv_at hl 2 rfl) ?_
  refine va_iald hx hb hK.1 hP 26 25 (f := st.2.1 25) (n := 100) (cA := k 25) rfl rfl (i := a1) (ob_X10_falls_21_3 st a1 hit hva1) dX10_falls_21 ?_
  refine va_zald hx hb hK.1 hP 27 26 (f := st.2.1 26) (n := 100) (cA := k 26) rfl rfl (i := st.2.1 25 a1.toNatClampNeg) (ob_X10_falls_22_4 st a1 hit hva1) dX10_falls_22 ?_
  refine lv_istore_n (lv' := [(3, .int (st.2.1 26 (st.2.1 25 a1.toNatClampNeg).toNatClampNeg)), (2, .int (st.2.1 26 (st.2.1 24 a1.toNatClampNeg).toNatClampNeg)), (0, .ref (q 0)), (1, .int a1)]) hx hb dX10_falls_23 rfl hl (by decide) rfl (fun ls hl => ?_)
  refine lv_aload_n hx hb dX10_falls_24 rfl (lv_at hl 2 rfl) ?_
  refine va_get (D := (dC, dI)) (ci := 10) (v := .ref (q 24)) (C := RX10) (T := TX10) (N := 45) hx hb hts hi10 hown hK.1 hP 0 rfl rfl 20 (by decide) hf54 (fun _ h9 => h9) rfl dX10_falls_25 ?_
  refine lv_iload_n hx hb dX10_falls_28 rfl (lv_at hl 3 rfl) ?_
  refine va_iald hx hb hK.1 hP 24 23 (f := st.2.1 23) (n := 100) (cA := k 23) rfl rfl (i := a1) (ob_X10_falls_29_5 st a1 hit hva1) dX10_falls_29 ?_
  refine lv_iconst (v := 1) hx hb dX10_falls_30 (by decide) ?_
  refine lv_icmp_ne (tgt := 50) hx hb dX10_falls_31 (by decide) (fun h31_6 => ?_) (fun h31_6 => ?_)
  · have he := (if_neg h31_6).symm.trans he
    refine lv_iload_n hx hb dX10_falls_50 rfl (lv_at hl 1 rfl) ?_
    refine lv_if_eq (tgt := 58) hx hb dX10_falls_51 (by decide) (fun h51_7 => ?_) (fun h51_7 => ?_)
    · have he := (if_pos h51_7).symm.trans he
      refine lv_iconst (v := 1) hx hb dX10_falls_58 (by decide) ?_
      refine lv_goto (tgt := 63) hx hb dX10_falls_59 (by decide) ?_
      exact W.zret (v := 1) hx hb hr rfl (fun t ht hW => ⟨_, rfl, he, ht⟩) (fun _ h => nomatch h) dX10_falls_63
    · have he := (if_neg h51_7).symm.trans he
      refine lv_iload_n hx hb dX10_falls_54 rfl (lv_at hl 0 rfl) ?_
      refine lv_if_ne (tgt := 62) hx hb dX10_falls_55 (by decide) (fun h55_8 => ?_) (fun h55_8 => ?_)
      · have he := (if_neg h55_8).symm.trans he
        refine lv_iconst (v := 0) hx hb dX10_falls_62 (by decide) ?_
        exact W.zret (v := 0) hx hb hr rfl (fun t ht hW => ⟨_, rfl, he, ht⟩) (fun _ h => nomatch h) dX10_falls_63
      · have he := (if_pos h55_8).symm.trans he
        refine lv_iconst (v := 1) hx hb dX10_falls_58 (by decide) ?_
        refine lv_goto (tgt := 63) hx hb dX10_falls_59 (by decide) ?_
        exact W.zret (v := 1) hx hb hr rfl (fun t ht hW => ⟨_, rfl, he, ht⟩) (fun _ h => nomatch h) dX10_falls_63
  · have he := (if_pos h31_6).symm.trans he
    refine lv_iload_n hx hb dX10_falls_34 rfl (lv_at hl 1 rfl) ?_
    refine lv_if_ne (tgt := 46) hx hb dX10_falls_35 (by decide) (fun h35_9 => ?_) (fun h35_9 => ?_)
    · have he := (if_neg h35_9).symm.trans he
      refine lv_iconst (v := 0) hx hb dX10_falls_46 (by decide) ?_
      refine lv_goto (tgt := 63) hx hb dX10_falls_47 (by decide) ?_
      exact W.zret (v := 0) hx hb hr rfl (fun t ht hW => ⟨_, rfl, he, ht⟩) (fun _ h => nomatch h) dX10_falls_63
    · have he := (if_pos h35_9).symm.trans he
      refine lv_iload_n hx hb dX10_falls_38 rfl (lv_at hl 0 rfl) ?_
      refine lv_if_ne (tgt := 46) hx hb dX10_falls_39 (by decide) (fun h39_10 => ?_) (fun h39_10 => ?_)
      · have he := (if_neg h39_10).symm.trans he
        refine lv_iconst (v := 0) hx hb dX10_falls_46 (by decide) ?_
        refine lv_goto (tgt := 63) hx hb dX10_falls_47 (by decide) ?_
        exact W.zret (v := 0) hx hb hr rfl (fun t ht hW => ⟨_, rfl, he, ht⟩) (fun _ h => nomatch h) dX10_falls_63
      · have he := (if_pos h39_10).symm.trans he
        refine lv_iconst (v := 1) hx hb dX10_falls_42 (by decide) ?_
        refine lv_goto (tgt := 63) hx hb dX10_falls_43 (by decide) ?_
        exact W.zret (v := 1) hx hb hr rfl (fun t ht hW => ⟨_, rfl, he, ht⟩) (fun _ h => nomatch h) dX10_falls_63
set_option maxHeartbeats 4000000 in
set_option maxRecDepth 100000 in
theorem c_X10_cascade (l : Launch) (dC : Nat → ClassId) (dI : Nat → Nat → Nat) (q : Nat → Nat) (k : Nat → ClassId) (st : St) (hq : ∀ i j, i < 35 → j < 35 → q i = q j → i = j) (hit : okIt st) (res : Int32 × St) (hres : sp_X10_cascade st = res) : Met l yX10_cascade wsX10_cascade ({ frames := 1, cells := 0, slots := 0, locals := 23 } : Room) (va_Pc [.ref (q 0)] (fun U => va_P (dC, dI) vwCl (wM q k st) U.heap ∧ KM (dC, dI) k U)) (va_Qi (fun r (_ : Unit) => r = res.1) (fun _ t => va_P (dC, dI) vwCl (wM q k res.2) t.heap) (aM q)) 0 0 (aM q) := by
  refine Met.ofW (cc := cX10_cascade) (maxL := 3) (ret := (some .int)) (by decide) rfl ?_
  intro p e s m args below meth c s₁ B hml hv
  obtain ⟨rfl, hP, hK⟩ := hv
  have hx := B.exec
  have hb := B.bytes
  have hr := B.returns
  have hts := atoms_spec (ws := wsX10_cascade) B.pre
  have hown : s.vm.findClass RX10 = some m.cls := findClass_of_methodNamed B.named
  have hlocks := B.notSynchronized
  have hS : va_S (aM q) s.heap s.heap [] := va_S.rf
  have hi10 : ∀ w ∈ wsX100, w ∈ wsX10_cascade := by decide +kernel
  have hf54 := hts (.fieldLink RX10 54 "ConsentRegisterModel" "hows" "[I") (by decide +kernel)
  have hf75 := hts (.fieldLink RX10 75 "ConsentRegisterModel" "lives" "[Z") (by decide +kernel)
  have hf157 := hts (.fieldLink RX10 157 "ConsentRegisterModel" "items" "I") (by decide +kernel)
  have hl := lv_entry ([.ref (q 0)]) (n := 3) (Nat.le_of_ble_eq_true rfl)
  rw [lg_entry_eq]
  generalize (lg_sl ([.ref (q 0)]) ++ List.replicate (3 - (lg_sl ([.ref (q 0)])).length) Slot.unset).toArray = ls at hl ⊢
  have hl : lv_has ls 3 [(0, .ref (q 0))] := hl
  have he := hres
  unfold sp_X10_cascade at he
  refine lv_iconst (v := 0) hx hb dX10_cascade_0 (by decide) ?_
  refine lv_istore_n (lv' := [(1, .int 0), (0, .ref (q 0))]) hx hb dX10_cascade_1 rfl hl (by decide) rfl (fun ls hl => ?_)
  refine lv_iconst (v := 0) hx hb dX10_cascade_2 (by decide) ?_
  refine lv_istore_n (lv' := [(2, .int 0), (1, .int 0), (0, .ref (q 0))]) hx hb dX10_cascade_3 rfl hl (by decide) rfl (fun ls hl => ?_)
  have k_4 : ∀ (n_4 : Nat) (st_4 : St) (x2_4 : Int32) (x1_4 : Int32) (H : Heap) (locs : List Loc) (ls : Array Slot), 0 ≤ x2_4.toInt → x2_4.toInt ≤ (st.1 7).toInt → (st.1 7).toInt < x2_4.toInt + n_4 → okIt st_4 → (st_4.1 7).toInt = (st.1 7).toInt → va_P (dC, dI) vwCl (wM q k st_4) H → va_S (aM q) s.heap H locs → lp_X10_cascade_4 st n_4 st_4 x2_4 x1_4 = res → lv_has ls 3 [(2, .int x2_4), (1, .int x1_4), (0, .ref (q 0))] → W p l e (headSpec wsX10_cascade ({ frames := 1, cells := 0, slots := 0, locals := 23 } : Room)).room s m ([.ref (q 0)] : List Value).toArray below meth c H locs 0 0 (MQ below (va_Qi (fun r (_ : Unit) => r = res.1) (fun _ t => va_P (dC, dI) vwCl (wM q k res.2) t.heap) (aM q)) ([.ref (q 0)] : List Value).toArray s 0 0 (aM q)) (F0 m 4 ls []) := by
    intro n_4
    induction n_4 with
    | zero =>
      intro st_4 x2_4 x1_4 H locs ls hi0_4 hi1_4 hi2_4 hi3_4 hi4_4
      exact (ob_X10_cascade_4_zero st st_4 x2_4 x1_4 hit hi0_4 hi1_4 hi2_4 hi3_4 hi4_4).elim
    | succ n_4 ih_4 =>
      intro st_4 x2_4 x1_4 H locs ls hi0_4 hi1_4 hi2_4 hi3_4 hi4_4 hP hS he hl
      rw [lp_X10_cascade_4] at he
      refine lv_iload_n hx hb dX10_cascade_4 rfl (lv_at hl 0 rfl) ?_
      refine lv_aload_n hx hb dX10_cascade_5 rfl (lv_at hl 2 rfl) ?_
      refine va_get (D := (dC, dI)) (ci := 10) (v := .int (st_4.1 7)) (C := RX10) (T := TX10) (N := 45) hx hb hts hi10 hown hK.1 hP 0 rfl rfl 19 (by decide) hf157 (fun _ h9 => h9) rfl dX10_cascade_6 ?_
      refine lv_icmp_ge (tgt := 58) hx hb dX10_cascade_9 (by decide) (fun h9_1 => ?_) (fun h9_1 => ?_)
      · have he := (if_pos h9_1).symm.trans he
        refine lv_iload_n hx hb dX10_cascade_58 rfl (lv_at hl 1 rfl) ?_
        exact W.iret (v := x1_4) hx hb hr (fun t ht hW => ⟨⟨_, (), rfl, by show _ = Prod.fst _; rw [← he], by show va_P _ _ _ t.heap; rw [ht, ← he]; exact hP⟩, hS.F ht⟩) hS.2.2 dX10_cascade_59
      · have he := (if_neg h9_1).symm.trans he
        refine lv_aload_n hx hb dX10_cascade_12 rfl (lv_at hl 2 rfl) ?_
        refine va_get (D := (dC, dI)) (ci := 10) (v := .ref (q 27)) (C := RX10) (T := TX10) (N := 45) hx hb hts hi10 hown hK.1 hP 0 rfl rfl 27 (by decide) hf75 (fun _ h9 => h9) rfl dX10_cascade_13 ?_
        refine lv_iload_n hx hb dX10_cascade_16 rfl (lv_at hl 0 rfl) ?_
        refine va_zald hx hb hK.1 hP 27 26 (f := st_4.2.1 26) (n := 100) (cA := k 26) rfl rfl (i := x2_4) (ob_X10_cascade_17_2 st n_4 st_4 x2_4 x1_4 hit hi0_4 hi1_4 hi2_4 hi3_4 hi4_4 h9_1) dX10_cascade_17 ?_
        refine lv_if_eq (tgt := 52) hx hb dX10_cascade_18 (by decide) (fun h18_3 => ?_) (fun h18_3 => ?_)
        · have he := (if_pos h18_3).symm.trans he
          refine lv_iinc (v := x2_4 + 1) (lv' := [(2, .int (x2_4 + 1)), (1, .int x1_4), (0, .ref (q 0))]) hx hb dX10_cascade_52 hl (k := 0) rfl rfl (by decide) rfl (fun ls hl => ?_)
          refine lv_goto (tgt := 4) hx hb dX10_cascade_55 (by decide) ?_
          exact ih_4 st_4 (x2_4 + 1) x1_4 _ _ ls (ob_X10_cascade_4_inv0_4 st n_4 st_4 x2_4 x1_4 hit hi0_4 hi1_4 hi2_4 hi3_4 hi4_4 h9_1 h18_3) (ob_X10_cascade_4_inv1_5 st n_4 st_4 x2_4 x1_4 hit hi0_4 hi1_4 hi2_4 hi3_4 hi4_4 h9_1 h18_3) (ob_X10_cascade_4_inv2_6 st n_4 st_4 x2_4 x1_4 hit hi0_4 hi1_4 hi2_4 hi3_4 hi4_4 h9_1 h18_3) (ob_X10_cascade_4_inv3_7 st n_4 st_4 x2_4 x1_4 hit hi0_4 hi1_4 hi2_4 hi3_4 hi4_4 h9_1 h18_3) (ob_X10_cascade_4_inv4_8 st n_4 st_4 x2_4 x1_4 hit hi0_4 hi1_4 hi2_4 hi3_4 hi4_4 h9_1 h18_3) hP hS he (lv_sub hl [0, 1, 2] rfl)
        · have he := (if_neg h18_3).symm.trans he
          refine lv_aload_n hx hb dX10_cascade_21 rfl (lv_at hl 2 rfl) ?_
          refine va_get (D := (dC, dI)) (ci := 10) (v := .ref (q 24)) (C := RX10) (T := TX10) (N := 45) hx hb hts hi10 hown hK.1 hP 0 rfl rfl 20 (by decide) hf54 (fun _ h9 => h9) rfl dX10_cascade_22 ?_
          refine lv_iload_n hx hb dX10_cascade_25 rfl (lv_at hl 0 rfl) ?_
          refine va_iald hx hb hK.1 hP 24 23 (f := st_4.2.1 23) (n := 100) (cA := k 23) rfl rfl (i := x2_4) (ob_X10_cascade_26_9 st n_4 st_4 x2_4 x1_4 hit hi0_4 hi1_4 hi2_4 hi3_4 hi4_4 h9_1 h18_3) dX10_cascade_26 ?_
          refine lv_iconst (v := (-1)) hx hb dX10_cascade_27 (by decide) ?_
          refine lv_icmp_eq (tgt := 52) hx hb dX10_cascade_28 (by decide) (fun h28_10 => ?_) (fun h28_10 => ?_)
          · have he := (if_pos h28_10).symm.trans he
            refine lv_iinc (v := x2_4 + 1) (lv' := [(2, .int (x2_4 + 1)), (1, .int x1_4), (0, .ref (q 0))]) hx hb dX10_cascade_52 hl (k := 0) rfl rfl (by decide) rfl (fun ls hl => ?_)
            refine lv_goto (tgt := 4) hx hb dX10_cascade_55 (by decide) ?_
            exact ih_4 st_4 (x2_4 + 1) x1_4 _ _ ls (ob_X10_cascade_4_inv0_11 st n_4 st_4 x2_4 x1_4 hit hi0_4 hi1_4 hi2_4 hi3_4 hi4_4 h9_1 h18_3 h28_10) (ob_X10_cascade_4_inv1_12 st n_4 st_4 x2_4 x1_4 hit hi0_4 hi1_4 hi2_4 hi3_4 hi4_4 h9_1 h18_3 h28_10) (ob_X10_cascade_4_inv2_13 st n_4 st_4 x2_4 x1_4 hit hi0_4 hi1_4 hi2_4 hi3_4 hi4_4 h9_1 h18_3 h28_10) (ob_X10_cascade_4_inv3_14 st n_4 st_4 x2_4 x1_4 hit hi0_4 hi1_4 hi2_4 hi3_4 hi4_4 h9_1 h18_3 h28_10) (ob_X10_cascade_4_inv4_15 st n_4 st_4 x2_4 x1_4 hit hi0_4 hi1_4 hi2_4 hi3_4 hi4_4 h9_1 h18_3 h28_10) hP hS he (lv_sub hl [0, 1, 2] rfl)
          · have he := (if_neg h28_10).symm.trans he
            refine lv_aload_n hx hb dX10_cascade_31 rfl (lv_at hl 2 rfl) ?_
            refine lv_iload_n hx hb dX10_cascade_32 rfl (lv_at hl 0 rfl) ?_
            refine vp_callSi (va_Run.run (va_runV (As := [.int x2_4]) (rest := []) ⟨hx, hb, hml, hown, hts⟩ (c_X10_falls l dC dI q k st_4 x2_4 hi3_4 (ob_X10_cascade_33_16 st n_4 st_4 x2_4 x1_4 hit hi0_4 hi1_4 hi2_4 hi3_4 hi4_4 h9_1 h18_3 h28_10) _ rfl) (cwV 1 hts gX10_cascade_X10_falls rfl rfl rfl (by decide +kernel) ⟨Nat.le_of_ble_eq_true rfl, Nat.le_of_ble_eq_true rfl⟩) ⟨fb_M, va_recv hK.1 hP (ci := 10) (q0 := 0) rfl rfl, fun U hU hW => ⟨rfl, by rw [hU]; exact hP, hK.warm hW⟩⟩ rfl rfl hl.1 rfl (lv_room (Nat.le_of_ble_eq_true rfl)) dX10_cascade_33 ⟨Nat.le_of_ble_eq_true rfl, Nat.le_of_ble_eq_true rfl⟩)) (fun r9 e9 => ?_)
            subst e9
            refine lv_if_ne (tgt := 42) hx hb dX10_cascade_36 (by decide) (fun h36_17 => ?_) (fun h36_17 => ?_)
            · have he := (if_neg h36_17).symm.trans he
              refine lv_aload_n hx hb dX10_cascade_42 rfl (lv_at hl 2 rfl) ?_
              refine va_get (D := (dC, dI)) (ci := 10) (v := .ref (q 27)) (C := RX10) (T := TX10) (N := 45) hx hb hts hi10 hown hK.1 hP 0 rfl rfl 27 (by decide) hf75 (fun _ h9 => h9) rfl dX10_cascade_43 ?_
              refine lv_iload_n hx hb dX10_cascade_46 rfl (lv_at hl 0 rfl) ?_
              refine lv_iconst (v := 0) hx hb dX10_cascade_47 (by decide) ?_
              refine va_zast hx hb hK.1 hP (dM_of hq) hS 27 26 (f := st_4.2.1 26) (n := 100) (cA := k 26) rfl rfl (i := x2_4) (x := 0) (ob_X10_cascade_48_18 st n_4 st_4 x2_4 x1_4 hit hi0_4 hi1_4 hi2_4 hi3_4 hi4_4 h9_1 h18_3 h28_10 h36_17) dX10_cascade_48 (fun H locs hP _ hS => ?_)
              have hP : va_P (dC, dI) vwCl (wM q k (sA st_4 26 x2_4.toNatClampNeg 0)) H := hP
              refine lv_iinc (v := x1_4 + 1) (lv' := [(1, .int (x1_4 + 1)), (2, .int x2_4), (0, .ref (q 0))]) hx hb dX10_cascade_49 hl (k := 1) rfl rfl (by decide) rfl (fun ls hl => ?_)
              refine lv_iinc (v := x2_4 + 1) (lv' := [(2, .int (x2_4 + 1)), (1, .int (x1_4 + 1)), (0, .ref (q 0))]) hx hb dX10_cascade_52 hl (k := 1) rfl rfl (by decide) rfl (fun ls hl => ?_)
              refine lv_goto (tgt := 4) hx hb dX10_cascade_55 (by decide) ?_
              exact ih_4 (sA st_4 26 x2_4.toNatClampNeg 0) (x2_4 + 1) (x1_4 + 1) _ _ ls (ob_X10_cascade_4_inv0_19 st n_4 st_4 x2_4 x1_4 hit hi0_4 hi1_4 hi2_4 hi3_4 hi4_4 h9_1 h18_3 h28_10 h36_17) (ob_X10_cascade_4_inv1_20 st n_4 st_4 x2_4 x1_4 hit hi0_4 hi1_4 hi2_4 hi3_4 hi4_4 h9_1 h18_3 h28_10 h36_17) (ob_X10_cascade_4_inv2_21 st n_4 st_4 x2_4 x1_4 hit hi0_4 hi1_4 hi2_4 hi3_4 hi4_4 h9_1 h18_3 h28_10 h36_17) (ob_X10_cascade_4_inv3_22 st n_4 st_4 x2_4 x1_4 hit hi0_4 hi1_4 hi2_4 hi3_4 hi4_4 h9_1 h18_3 h28_10 h36_17) (ob_X10_cascade_4_inv4_23 st n_4 st_4 x2_4 x1_4 hit hi0_4 hi1_4 hi2_4 hi3_4 hi4_4 h9_1 h18_3 h28_10 h36_17) hP hS he (lv_sub hl [0, 1, 2] rfl)
            · have he := (if_pos h36_17).symm.trans he
              refine lv_goto (tgt := 52) hx hb dX10_cascade_39 (by decide) ?_
              refine lv_iinc (v := x2_4 + 1) (lv' := [(2, .int (x2_4 + 1)), (1, .int x1_4), (0, .ref (q 0))]) hx hb dX10_cascade_52 hl (k := 0) rfl rfl (by decide) rfl (fun ls hl => ?_)
              refine lv_goto (tgt := 4) hx hb dX10_cascade_55 (by decide) ?_
              exact ih_4 st_4 (x2_4 + 1) x1_4 _ _ ls (ob_X10_cascade_4_inv0_24 st n_4 st_4 x2_4 x1_4 hit hi0_4 hi1_4 hi2_4 hi3_4 hi4_4 h9_1 h18_3 h28_10 h36_17) (ob_X10_cascade_4_inv1_25 st n_4 st_4 x2_4 x1_4 hit hi0_4 hi1_4 hi2_4 hi3_4 hi4_4 h9_1 h18_3 h28_10 h36_17) (ob_X10_cascade_4_inv2_26 st n_4 st_4 x2_4 x1_4 hit hi0_4 hi1_4 hi2_4 hi3_4 hi4_4 h9_1 h18_3 h28_10 h36_17) (ob_X10_cascade_4_inv3_27 st n_4 st_4 x2_4 x1_4 hit hi0_4 hi1_4 hi2_4 hi3_4 hi4_4 h9_1 h18_3 h28_10 h36_17) (ob_X10_cascade_4_inv4_28 st n_4 st_4 x2_4 x1_4 hit hi0_4 hi1_4 hi2_4 hi3_4 hi4_4 h9_1 h18_3 h28_10 h36_17) hP hS he (lv_sub hl [0, 1, 2] rfl)
  exact k_4 ((st.1 7).toInt.toNat + 1) st 0 0 _ _ ls (ob_X10_cascade_4_inv0_29 st hit) (ob_X10_cascade_4_inv1_30 st hit) (ob_X10_cascade_4_inv2_31 st hit) (ob_X10_cascade_4_inv3_32 st hit) (ob_X10_cascade_4_inv4_33 st hit) hP hS he (lv_sub hl [0, 1, 2] rfl)
set_option maxHeartbeats 4000000 in
set_option maxRecDepth 100000 in
theorem c_X10_due (l : Launch) (dC : Nat → ClassId) (dI : Nat → Nat → Nat) (q : Nat → Nat) (k : Nat → ClassId) (st : St) (a1 : Int32) (hok : okM st) (hva1 : vp_in a1 100) (res : Int32) (hres : sp_X10_due st a1 = res) : Met l yX10_due wsX10_due ({ frames := 0, cells := 0, slots := 0, locals := 0 } : Room) (va_Pc [.ref (q 0), .int a1] (fun U => va_P (dC, dI) vwCl (wM q k st) U.heap ∧ KM (dC, dI) k U)) (vp_Si (fun r => r = res)) 0 0 (fun _ => False) := by
  refine Met.ofW (cc := cX10_due) (maxL := 5) (ret := (some .int)) (by decide) rfl ?_
  intro p e s m args below meth c s₁ B hml hv
  obtain ⟨rfl, hP, hK⟩ := hv
  have hx := B.exec
  have hb := B.bytes
  have hr := B.returns
  have hts := atoms_spec (ws := wsX10_due) B.pre
  have hown : s.vm.findClass RX10 = some m.cls := findClass_of_methodNamed B.named
  have hlocks := B.notSynchronized
  have hi10 : ∀ w ∈ wsX100, w ∈ wsX10_due := by decide +kernel
  have hf17 := hts (.fieldLink RX10 17 "ConsentRegisterModel" "retentions" "[I") (by decide +kernel)
  have hf54 := hts (.fieldLink RX10 54 "ConsentRegisterModel" "hows" "[I") (by decide +kernel)
  have hf57 := hts (.fieldLink RX10 57 "ConsentRegisterModel" "itemKind" "[I") (by decide +kernel)
  have hf60 := hts (.fieldLink RX10 60 "ConsentRegisterModel" "itemDay" "[I") (by decide +kernel)
  have hf63 := hts (.fieldLink RX10 63 "ConsentRegisterModel" "itemPersons" "[I") (by decide +kernel)
  have hf85 := hts (.fieldLink RX10 85 "ConsentRegisterModel" "eventPerson" "[I") (by decide +kernel)
  have hf88 := hts (.fieldLink RX10 88 "ConsentRegisterModel" "eventKind" "[I") (by decide +kernel)
  have hf91 := hts (.fieldLink RX10 91 "ConsentRegisterModel" "eventDay" "[I") (by decide +kernel)
  have hf167 := hts (.fieldLink RX10 167 "ConsentRegisterModel" "events" "I") (by decide +kernel)
  have hl := lv_entry ([.ref (q 0), .int a1]) (n := 5) (Nat.le_of_ble_eq_true rfl)
  rw [lg_entry_eq]
  generalize (lg_sl ([.ref (q 0), .int a1]) ++ List.replicate (5 - (lg_sl ([.ref (q 0), .int a1])).length) Slot.unset).toArray = ls at hl ⊢
  have hl : lv_has ls 5 [(0, .ref (q 0)), (1, .int a1)] := hl
  have he := hres
  unfold sp_X10_due at he
  refine lv_iconst (v := (-1)) hx hb dX10_due_0 (by decide) ?_
  refine lv_istore_n (lv' := [(2, .int (-1)), (0, .ref (q 0)), (1, .int a1)]) hx hb dX10_due_1 rfl hl (by decide) rfl (fun ls hl => ?_)
  refine lv_iconst (v := 0) hx hb dX10_due_2 (by decide) ?_
  refine lv_istore_n (lv' := [(3, .int 0), (2, .int (-1)), (0, .ref (q 0)), (1, .int a1)]) hx hb dX10_due_3 rfl hl (by decide) rfl (fun ls hl => ?_)
  have k_4 : ∀ (n_4 : Nat) (x3_4 : Int32) (x2_4 : Int32) (ls : Array Slot), 0 ≤ x3_4.toInt → x3_4.toInt ≤ (st.1 5).toInt → (st.1 5).toInt < x3_4.toInt + n_4 → lp_X10_due_4 st a1 n_4 x3_4 x2_4 = res → lv_has ls 5 [(0, .ref (q 0)), (1, .int a1), (3, .int x3_4), (2, .int x2_4)] → W p l e (headSpec wsX10_due ({ frames := 0, cells := 0, slots := 0, locals := 0 } : Room)).room s m ([.ref (q 0), .int a1] : List Value).toArray below meth c s.heap [] 0 0 (MQ below (vp_Si (fun r => r = res)) ([.ref (q 0), .int a1] : List Value).toArray s 0 0 (fun _ => False)) (F0 m 4 ls []) := by
    intro n_4
    induction n_4 with
    | zero =>
      intro x3_4 x2_4 ls hi0_4 hi1_4 hi2_4
      exact (ob_X10_due_4_zero st a1 x3_4 x2_4 hok hva1 hi0_4 hi1_4 hi2_4).elim
    | succ n_4 ih_4 =>
      intro x3_4 x2_4 ls hi0_4 hi1_4 hi2_4 he hl
      rw [lp_X10_due_4] at he
      refine lv_iload_n hx hb dX10_due_4 rfl (lv_at hl 2 rfl) ?_
      refine lv_aload_n hx hb dX10_due_5 rfl (lv_at hl 0 rfl) ?_
      refine va_get (D := (dC, dI)) (ci := 10) (v := .int (st.1 5)) (C := RX10) (T := TX10) (N := 45) hx hb hts hi10 hown hK.1 hP 0 rfl rfl 30 (by decide) hf167 (fun _ h9 => h9) rfl dX10_due_6 ?_
      refine lv_icmp_ge (tgt := 106) hx hb dX10_due_9 (by decide) (fun h9_1 => ?_) (fun h9_1 => ?_)
      · have he := (if_pos h9_1).symm.trans he
        refine lv_iload_n hx hb dX10_due_106 rfl (lv_at hl 3 rfl) ?_
        refine lv_if_ge (tgt := 114) hx hb dX10_due_107 (by decide) (fun h107_2 => ?_) (fun h107_2 => ?_)
        · have he := (if_pos h107_2).symm.trans he
          refine lv_iload_n hx hb dX10_due_114 rfl (lv_at hl 3 rfl) ?_
          refine lv_aload_n hx hb dX10_due_115 rfl (lv_at hl 0 rfl) ?_
          refine va_get (D := (dC, dI)) (ci := 10) (v := .ref (q 2)) (C := RX10) (T := TX10) (N := 45) hx hb hts hi10 hown hK.1 hP 0 rfl rfl 4 (by decide) hf17 (fun _ h9 => h9) rfl dX10_due_116 ?_
          refine lv_aload_n hx hb dX10_due_119 rfl (lv_at hl 0 rfl) ?_
          refine va_get (D := (dC, dI)) (ci := 10) (v := .ref (q 21)) (C := RX10) (T := TX10) (N := 45) hx hb hts hi10 hown hK.1 hP 0 rfl rfl 21 (by decide) hf57 (fun _ h9 => h9) rfl dX10_due_120 ?_
          refine lv_iload_n hx hb dX10_due_123 rfl (lv_at hl 1 rfl) ?_
          refine va_iald hx hb hK.1 hP 21 20 (f := st.2.1 20) (n := 100) (cA := k 20) rfl rfl (i := a1) (ob_X10_due_124_3 st a1 n_4 x3_4 x2_4 hok hva1 hi0_4 hi1_4 hi2_4 h9_1 h107_2) dX10_due_124 ?_
          refine va_iald hx hb hK.1 hP 2 1 (f := st.2.1 1) (n := 8) (cA := k 1) rfl rfl (i := st.2.1 20 a1.toNatClampNeg) (ob_X10_due_125_4 st a1 n_4 x3_4 x2_4 hok hva1 hi0_4 hi1_4 hi2_4 h9_1 h107_2) dX10_due_125 ?_
          refine lv_iadd hx hb dX10_due_126 ?_
          exact W.iret (v := x2_4 + (st.2.1 1 (st.2.1 20 a1.toNatClampNeg).toNatClampNeg)) hx hb hr (fun t ht hW => ⟨_, rfl, he, ht⟩) (fun _ h => nomatch h) dX10_due_127
        · have he := (if_neg h107_2).symm.trans he
          refine lv_iconst (v := (-1)) hx hb dX10_due_110 (by decide) ?_
          refine lv_goto (tgt := 127) hx hb dX10_due_111 (by decide) ?_
          exact W.iret (v := (-1)) hx hb hr (fun t ht hW => ⟨_, rfl, he, ht⟩) (fun _ h => nomatch h) dX10_due_127
      · have he := (if_neg h9_1).symm.trans he
        refine lv_aload_n hx hb dX10_due_12 rfl (lv_at hl 0 rfl) ?_
        refine va_get (D := (dC, dI)) (ci := 10) (v := .ref (q 24)) (C := RX10) (T := TX10) (N := 45) hx hb hts hi10 hown hK.1 hP 0 rfl rfl 20 (by decide) hf54 (fun _ h9 => h9) rfl dX10_due_13 ?_
        refine lv_iload_n hx hb dX10_due_16 rfl (lv_at hl 1 rfl) ?_
        refine va_iald hx hb hK.1 hP 24 23 (f := st.2.1 23) (n := 100) (cA := k 23) rfl rfl (i := a1) (ob_X10_due_17_5 st a1 n_4 x3_4 x2_4 hok hva1 hi0_4 hi1_4 hi2_4 h9_1) dX10_due_17 ?_
        refine lv_iconst (v := (-1)) hx hb dX10_due_18 (by decide) ?_
        refine lv_icmp_ne (tgt := 75) hx hb dX10_due_19 (by decide) (fun h19_6 => ?_) (fun h19_6 => ?_)
        · have he := (if_neg h19_6).symm.trans he
          refine lv_iconst (v := 0) hx hb dX10_due_75 (by decide) ?_
          refine lv_istore (lv' := [(4, .int 0), (0, .ref (q 0)), (1, .int a1), (3, .int x3_4), (2, .int x2_4)]) hx hb dX10_due_76 hl (by decide) rfl (fun ls hl => ?_)
          refine lv_iload hx hb dX10_due_78 (lv_at hl 0 rfl) ?_
          refine lv_if_eq (tgt := 100) hx hb dX10_due_80 (by decide) (fun _ => ?_) (fun h9 => absurd h9 (by decide))
          refine lv_iinc (v := x3_4 + 1) (lv' := [(3, .int (x3_4 + 1)), (4, .int 0), (0, .ref (q 0)), (1, .int a1), (2, .int x2_4)]) hx hb dX10_due_100 hl (k := 3) rfl rfl (by decide) rfl (fun ls hl => ?_)
          refine lv_goto (tgt := 4) hx hb dX10_due_103 (by decide) ?_
          exact ih_4 (x3_4 + 1) x2_4 ls (ob_X10_due_4_inv0_7 st a1 n_4 x3_4 x2_4 hok hva1 hi0_4 hi1_4 hi2_4 h9_1 h19_6) (ob_X10_due_4_inv1_8 st a1 n_4 x3_4 x2_4 hok hva1 hi0_4 hi1_4 hi2_4 h9_1 h19_6) (ob_X10_due_4_inv2_9 st a1 n_4 x3_4 x2_4 hok hva1 hi0_4 hi1_4 hi2_4 h9_1 h19_6) he (lv_sub hl [2, 3, 0, 4] rfl)
        · have he := (if_pos h19_6).symm.trans he
          refine lv_aload_n hx hb dX10_due_22 rfl (lv_at hl 0 rfl) ?_
          refine va_get (D := (dC, dI)) (ci := 10) (v := .ref (q 23)) (C := RX10) (T := TX10) (N := 45) hx hb hts hi10 hown hK.1 hP 0 rfl rfl 23 (by decide) hf63 (fun _ h9 => h9) rfl dX10_due_23 ?_
          refine lv_iload_n hx hb dX10_due_26 rfl (lv_at hl 1 rfl) ?_
          refine va_iald hx hb hK.1 hP 23 22 (f := st.2.1 22) (n := 100) (cA := k 22) rfl rfl (i := a1) (ob_X10_due_27_10 st a1 n_4 x3_4 x2_4 hok hva1 hi0_4 hi1_4 hi2_4 h9_1 h19_6) dX10_due_27 ?_
          refine lv_aload_n hx hb dX10_due_28 rfl (lv_at hl 0 rfl) ?_
          refine va_get (D := (dC, dI)) (ci := 10) (v := .ref (q 14)) (C := RX10) (T := TX10) (N := 45) hx hb hts hi10 hown hK.1 hP 0 rfl rfl 31 (by decide) hf85 (fun _ h9 => h9) rfl dX10_due_29 ?_
          refine lv_iload_n hx hb dX10_due_32 rfl (lv_at hl 2 rfl) ?_
          refine va_iald hx hb hK.1 hP 14 13 (f := st.2.1 13) (n := 60) (cA := k 13) rfl rfl (i := x3_4) (ob_X10_due_33_11 st a1 n_4 x3_4 x2_4 hok hva1 hi0_4 hi1_4 hi2_4 h9_1 h19_6) dX10_due_33 ?_
          refine lv_ishr hx hb dX10_due_34 ?_
          refine lv_iconst (v := 1) hx hb dX10_due_35 (by decide) ?_
          refine lv_iand hx hb dX10_due_36 ?_
          refine lv_iconst (v := 1) hx hb dX10_due_37 (by decide) ?_
          refine lv_icmp_ne (tgt := 75) hx hb dX10_due_38 (by decide) (fun h38_12 => ?_) (fun h38_12 => ?_)
          · have he := (if_neg h38_12).symm.trans he
            refine lv_iconst (v := 0) hx hb dX10_due_75 (by decide) ?_
            refine lv_istore (lv' := [(4, .int 0), (0, .ref (q 0)), (1, .int a1), (3, .int x3_4), (2, .int x2_4)]) hx hb dX10_due_76 hl (by decide) rfl (fun ls hl => ?_)
            refine lv_iload hx hb dX10_due_78 (lv_at hl 0 rfl) ?_
            refine lv_if_eq (tgt := 100) hx hb dX10_due_80 (by decide) (fun _ => ?_) (fun h9 => absurd h9 (by decide))
            refine lv_iinc (v := x3_4 + 1) (lv' := [(3, .int (x3_4 + 1)), (4, .int 0), (0, .ref (q 0)), (1, .int a1), (2, .int x2_4)]) hx hb dX10_due_100 hl (k := 3) rfl rfl (by decide) rfl (fun ls hl => ?_)
            refine lv_goto (tgt := 4) hx hb dX10_due_103 (by decide) ?_
            exact ih_4 (x3_4 + 1) x2_4 ls (ob_X10_due_4_inv0_13 st a1 n_4 x3_4 x2_4 hok hva1 hi0_4 hi1_4 hi2_4 h9_1 h19_6 h38_12) (ob_X10_due_4_inv1_14 st a1 n_4 x3_4 x2_4 hok hva1 hi0_4 hi1_4 hi2_4 h9_1 h19_6 h38_12) (ob_X10_due_4_inv2_15 st a1 n_4 x3_4 x2_4 hok hva1 hi0_4 hi1_4 hi2_4 h9_1 h19_6 h38_12) he (lv_sub hl [2, 3, 0, 4] rfl)
          · have he := (if_pos h38_12).symm.trans he
            refine lv_aload_n hx hb dX10_due_41 rfl (lv_at hl 0 rfl) ?_
            refine va_get (D := (dC, dI)) (ci := 10) (v := .ref (q 15)) (C := RX10) (T := TX10) (N := 45) hx hb hts hi10 hown hK.1 hP 0 rfl rfl 32 (by decide) hf88 (fun _ h9 => h9) rfl dX10_due_42 ?_
            refine lv_iload_n hx hb dX10_due_45 rfl (lv_at hl 2 rfl) ?_
            refine va_iald hx hb hK.1 hP 15 14 (f := st.2.1 14) (n := 60) (cA := k 14) rfl rfl (i := x3_4) (ob_X10_due_46_16 st a1 n_4 x3_4 x2_4 hok hva1 hi0_4 hi1_4 hi2_4 h9_1 h19_6 h38_12) dX10_due_46 ?_
            refine lv_aload_n hx hb dX10_due_47 rfl (lv_at hl 0 rfl) ?_
            refine va_get (D := (dC, dI)) (ci := 10) (v := .ref (q 21)) (C := RX10) (T := TX10) (N := 45) hx hb hts hi10 hown hK.1 hP 0 rfl rfl 21 (by decide) hf57 (fun _ h9 => h9) rfl dX10_due_48 ?_
            refine lv_iload_n hx hb dX10_due_51 rfl (lv_at hl 1 rfl) ?_
            refine va_iald hx hb hK.1 hP 21 20 (f := st.2.1 20) (n := 100) (cA := k 20) rfl rfl (i := a1) (ob_X10_due_52_17 st a1 n_4 x3_4 x2_4 hok hva1 hi0_4 hi1_4 hi2_4 h9_1 h19_6 h38_12) dX10_due_52 ?_
            refine lv_icmp_ne (tgt := 75) hx hb dX10_due_53 (by decide) (fun h53_18 => ?_) (fun h53_18 => ?_)
            · have he := (if_neg h53_18).symm.trans he
              refine lv_iconst (v := 0) hx hb dX10_due_75 (by decide) ?_
              refine lv_istore (lv' := [(4, .int 0), (0, .ref (q 0)), (1, .int a1), (3, .int x3_4), (2, .int x2_4)]) hx hb dX10_due_76 hl (by decide) rfl (fun ls hl => ?_)
              refine lv_iload hx hb dX10_due_78 (lv_at hl 0 rfl) ?_
              refine lv_if_eq (tgt := 100) hx hb dX10_due_80 (by decide) (fun _ => ?_) (fun h9 => absurd h9 (by decide))
              refine lv_iinc (v := x3_4 + 1) (lv' := [(3, .int (x3_4 + 1)), (4, .int 0), (0, .ref (q 0)), (1, .int a1), (2, .int x2_4)]) hx hb dX10_due_100 hl (k := 3) rfl rfl (by decide) rfl (fun ls hl => ?_)
              refine lv_goto (tgt := 4) hx hb dX10_due_103 (by decide) ?_
              exact ih_4 (x3_4 + 1) x2_4 ls (ob_X10_due_4_inv0_19 st a1 n_4 x3_4 x2_4 hok hva1 hi0_4 hi1_4 hi2_4 h9_1 h19_6 h38_12 h53_18) (ob_X10_due_4_inv1_20 st a1 n_4 x3_4 x2_4 hok hva1 hi0_4 hi1_4 hi2_4 h9_1 h19_6 h38_12 h53_18) (ob_X10_due_4_inv2_21 st a1 n_4 x3_4 x2_4 hok hva1 hi0_4 hi1_4 hi2_4 h9_1 h19_6 h38_12 h53_18) he (lv_sub hl [2, 3, 0, 4] rfl)
            · have he := (if_pos h53_18).symm.trans he
              refine lv_aload_n hx hb dX10_due_56 rfl (lv_at hl 0 rfl) ?_
              refine va_get (D := (dC, dI)) (ci := 10) (v := .ref (q 16)) (C := RX10) (T := TX10) (N := 45) hx hb hts hi10 hown hK.1 hP 0 rfl rfl 33 (by decide) hf91 (fun _ h9 => h9) rfl dX10_due_57 ?_
              refine lv_iload_n hx hb dX10_due_60 rfl (lv_at hl 2 rfl) ?_
              refine va_iald hx hb hK.1 hP 16 15 (f := st.2.1 15) (n := 60) (cA := k 15) rfl rfl (i := x3_4) (ob_X10_due_61_22 st a1 n_4 x3_4 x2_4 hok hva1 hi0_4 hi1_4 hi2_4 h9_1 h19_6 h38_12 h53_18) dX10_due_61 ?_
              refine lv_aload_n hx hb dX10_due_62 rfl (lv_at hl 0 rfl) ?_
              refine va_get (D := (dC, dI)) (ci := 10) (v := .ref (q 22)) (C := RX10) (T := TX10) (N := 45) hx hb hts hi10 hown hK.1 hP 0 rfl rfl 22 (by decide) hf60 (fun _ h9 => h9) rfl dX10_due_63 ?_
              refine lv_iload_n hx hb dX10_due_66 rfl (lv_at hl 1 rfl) ?_
              refine va_iald hx hb hK.1 hP 22 21 (f := st.2.1 21) (n := 100) (cA := k 21) rfl rfl (i := a1) (ob_X10_due_67_23 st a1 n_4 x3_4 x2_4 hok hva1 hi0_4 hi1_4 hi2_4 h9_1 h19_6 h38_12 h53_18) dX10_due_67 ?_
              refine lv_icmp_lt (tgt := 75) hx hb dX10_due_68 (by decide) (fun h68_24 => ?_) (fun h68_24 => ?_)
              · have he := (if_pos h68_24).symm.trans he
                refine lv_iconst (v := 0) hx hb dX10_due_75 (by decide) ?_
                refine lv_istore (lv' := [(4, .int 0), (0, .ref (q 0)), (1, .int a1), (3, .int x3_4), (2, .int x2_4)]) hx hb dX10_due_76 hl (by decide) rfl (fun ls hl => ?_)
                refine lv_iload hx hb dX10_due_78 (lv_at hl 0 rfl) ?_
                refine lv_if_eq (tgt := 100) hx hb dX10_due_80 (by decide) (fun _ => ?_) (fun h9 => absurd h9 (by decide))
                refine lv_iinc (v := x3_4 + 1) (lv' := [(3, .int (x3_4 + 1)), (4, .int 0), (0, .ref (q 0)), (1, .int a1), (2, .int x2_4)]) hx hb dX10_due_100 hl (k := 3) rfl rfl (by decide) rfl (fun ls hl => ?_)
                refine lv_goto (tgt := 4) hx hb dX10_due_103 (by decide) ?_
                exact ih_4 (x3_4 + 1) x2_4 ls (ob_X10_due_4_inv0_25 st a1 n_4 x3_4 x2_4 hok hva1 hi0_4 hi1_4 hi2_4 h9_1 h19_6 h38_12 h53_18 h68_24) (ob_X10_due_4_inv1_26 st a1 n_4 x3_4 x2_4 hok hva1 hi0_4 hi1_4 hi2_4 h9_1 h19_6 h38_12 h53_18 h68_24) (ob_X10_due_4_inv2_27 st a1 n_4 x3_4 x2_4 hok hva1 hi0_4 hi1_4 hi2_4 h9_1 h19_6 h38_12 h53_18 h68_24) he (lv_sub hl [2, 3, 0, 4] rfl)
              · have he := (if_neg h68_24).symm.trans he
                refine lv_iconst (v := 1) hx hb dX10_due_71 (by decide) ?_
                refine lv_goto (tgt := 76) hx hb dX10_due_72 (by decide) ?_
                refine lv_istore (lv' := [(4, .int 1), (0, .ref (q 0)), (1, .int a1), (3, .int x3_4), (2, .int x2_4)]) hx hb dX10_due_76 hl (by decide) rfl (fun ls hl => ?_)
                refine lv_iload hx hb dX10_due_78 (lv_at hl 0 rfl) ?_
                refine lv_if_eq (tgt := 100) hx hb dX10_due_80 (by decide) (fun h9 => absurd h9 (by decide)) (fun _ => ?_)
                refine lv_aload_n hx hb dX10_due_83 rfl (lv_at hl 1 rfl) ?_
                refine va_get (D := (dC, dI)) (ci := 10) (v := .ref (q 16)) (C := RX10) (T := TX10) (N := 45) hx hb hts hi10 hown hK.1 hP 0 rfl rfl 33 (by decide) hf91 (fun _ h9 => h9) rfl dX10_due_84 ?_
                refine lv_iload_n hx hb dX10_due_87 rfl (lv_at hl 3 rfl) ?_
                refine va_iald hx hb hK.1 hP 16 15 (f := st.2.1 15) (n := 60) (cA := k 15) rfl rfl (i := x3_4) (ob_X10_due_88_28 st a1 n_4 x3_4 x2_4 hok hva1 hi0_4 hi1_4 hi2_4 h9_1 h19_6 h38_12 h53_18 h68_24) dX10_due_88 ?_
                refine lv_iload_n hx hb dX10_due_89 rfl (lv_at hl 4 rfl) ?_
                refine lv_icmp_le (tgt := 100) hx hb dX10_due_90 (by decide) (fun h90_29 => ?_) (fun h90_29 => ?_)
                · have he := (if_pos h90_29).symm.trans he
                  refine lv_iinc (v := x3_4 + 1) (lv' := [(3, .int (x3_4 + 1)), (4, .int 1), (0, .ref (q 0)), (1, .int a1), (2, .int x2_4)]) hx hb dX10_due_100 hl (k := 3) rfl rfl (by decide) rfl (fun ls hl => ?_)
                  refine lv_goto (tgt := 4) hx hb dX10_due_103 (by decide) ?_
                  exact ih_4 (x3_4 + 1) x2_4 ls (ob_X10_due_4_inv0_30 st a1 n_4 x3_4 x2_4 hok hva1 hi0_4 hi1_4 hi2_4 h9_1 h19_6 h38_12 h53_18 h68_24 h90_29) (ob_X10_due_4_inv1_31 st a1 n_4 x3_4 x2_4 hok hva1 hi0_4 hi1_4 hi2_4 h9_1 h19_6 h38_12 h53_18 h68_24 h90_29) (ob_X10_due_4_inv2_32 st a1 n_4 x3_4 x2_4 hok hva1 hi0_4 hi1_4 hi2_4 h9_1 h19_6 h38_12 h53_18 h68_24 h90_29) he (lv_sub hl [2, 3, 0, 4] rfl)
                · have he := (if_neg h90_29).symm.trans he
                  refine lv_aload_n hx hb dX10_due_93 rfl (lv_at hl 1 rfl) ?_
                  refine va_get (D := (dC, dI)) (ci := 10) (v := .ref (q 16)) (C := RX10) (T := TX10) (N := 45) hx hb hts hi10 hown hK.1 hP 0 rfl rfl 33 (by decide) hf91 (fun _ h9 => h9) rfl dX10_due_94 ?_
                  refine lv_iload_n hx hb dX10_due_97 rfl (lv_at hl 3 rfl) ?_
                  refine va_iald hx hb hK.1 hP 16 15 (f := st.2.1 15) (n := 60) (cA := k 15) rfl rfl (i := x3_4) (ob_X10_due_98_33 st a1 n_4 x3_4 x2_4 hok hva1 hi0_4 hi1_4 hi2_4 h9_1 h19_6 h38_12 h53_18 h68_24 h90_29) dX10_due_98 ?_
                  refine lv_istore_n (lv' := [(2, .int (st.2.1 15 x3_4.toNatClampNeg)), (4, .int 1), (0, .ref (q 0)), (1, .int a1), (3, .int x3_4)]) hx hb dX10_due_99 rfl hl (by decide) rfl (fun ls hl => ?_)
                  refine lv_iinc (v := x3_4 + 1) (lv' := [(3, .int (x3_4 + 1)), (2, .int (st.2.1 15 x3_4.toNatClampNeg)), (4, .int 1), (0, .ref (q 0)), (1, .int a1)]) hx hb dX10_due_100 hl (k := 4) rfl rfl (by decide) rfl (fun ls hl => ?_)
                  refine lv_goto (tgt := 4) hx hb dX10_due_103 (by decide) ?_
                  exact ih_4 (x3_4 + 1) (st.2.1 15 x3_4.toNatClampNeg) ls (ob_X10_due_4_inv0_34 st a1 n_4 x3_4 x2_4 hok hva1 hi0_4 hi1_4 hi2_4 h9_1 h19_6 h38_12 h53_18 h68_24 h90_29) (ob_X10_due_4_inv1_35 st a1 n_4 x3_4 x2_4 hok hva1 hi0_4 hi1_4 hi2_4 h9_1 h19_6 h38_12 h53_18 h68_24 h90_29) (ob_X10_due_4_inv2_36 st a1 n_4 x3_4 x2_4 hok hva1 hi0_4 hi1_4 hi2_4 h9_1 h19_6 h38_12 h53_18 h68_24 h90_29) he (lv_sub hl [3, 4, 0, 1] rfl)
  exact k_4 ((st.1 5).toInt.toNat + 1) 0 (-1) ls (ob_X10_due_4_inv0_37 st a1 hok hva1) (ob_X10_due_4_inv1_38 st a1 hok hva1) (ob_X10_due_4_inv2_39 st a1 hok hva1) he (lv_sub hl [2, 3, 0, 1] rfl)
set_option maxHeartbeats 4000000 in
set_option maxRecDepth 100000 in
theorem c_X10_eraseOf (l : Launch) (dC : Nat → ClassId) (dI : Nat → Nat → Nat) (q : Nat → Nat) (k : Nat → ClassId) (st : St) (a1 : Int32) (a2 : Int32) (hq : ∀ i j, i < 35 → j < 35 → q i = q j → i = j) (hok : okM st) (res : Int32 × St) (hres : sp_X10_eraseOf st a1 a2 = res) : Met l yX10_eraseOf wsX10_eraseOf ({ frames := 3, cells := 0, slots := 0, locals := 69 } : Room) (va_Pc [.ref (q 0), .int a1, .int a2] (fun U => va_P (dC, dI) vwCl (wM q k st) U.heap ∧ KM (dC, dI) k U)) (va_Qi (fun r (_ : Unit) => r = res.1) (fun _ t => va_P (dC, dI) vwCl (wM q k res.2) t.heap) (aM q)) 0 0 (aM q) := by
  refine Met.ofW (cc := cX10_eraseOf) (maxL := 6) (ret := (some .int)) (by decide) rfl ?_
  intro p e s m args below meth c s₁ B hml hv
  obtain ⟨rfl, hP, hK⟩ := hv
  have hx := B.exec
  have hb := B.bytes
  have hr := B.returns
  have hts := atoms_spec (ws := wsX10_eraseOf) B.pre
  have hown : s.vm.findClass RX10 = some m.cls := findClass_of_methodNamed B.named
  have hlocks := B.notSynchronized
  have hS : va_S (aM q) s.heap s.heap [] := va_S.rf
  have hi10 : ∀ w ∈ wsX100, w ∈ wsX10_eraseOf := by decide +kernel
  have hf54 := hts (.fieldLink RX10 54 "ConsentRegisterModel" "hows" "[I") (by decide +kernel)
  have hf63 := hts (.fieldLink RX10 63 "ConsentRegisterModel" "itemPersons" "[I") (by decide +kernel)
  have hf75 := hts (.fieldLink RX10 75 "ConsentRegisterModel" "lives" "[Z") (by decide +kernel)
  have hf82 := hts (.fieldLink RX10 82 "ConsentRegisterModel" "kept" "[Z") (by decide +kernel)
  have hf157 := hts (.fieldLink RX10 157 "ConsentRegisterModel" "items" "I") (by decide +kernel)
  have hl := lv_entry ([.ref (q 0), .int a1, .int a2]) (n := 6) (Nat.le_of_ble_eq_true rfl)
  rw [lg_entry_eq]
  generalize (lg_sl ([.ref (q 0), .int a1, .int a2]) ++ List.replicate (6 - (lg_sl ([.ref (q 0), .int a1, .int a2])).length) Slot.unset).toArray = ls at hl ⊢
  have hl : lv_has ls 6 [(0, .ref (q 0)), (1, .int a1), (2, .int a2)] := hl
  have he := hres
  unfold sp_X10_eraseOf at he
  refine lv_aload_n hx hb dX10_eraseOf_0 rfl (lv_at hl 0 rfl) ?_
  refine lv_iload_n hx hb dX10_eraseOf_1 rfl (lv_at hl 2 rfl) ?_
  refine va_callv (va_runV (As := [.int a2]) (rest := []) ⟨hx, hb, hml, hown, hts⟩ (c_X10_keep l dC dI q k st a2 hq hok _ rfl) (cwV 1 hts gX10_eraseOf_X10_keep rfl rfl rfl (by decide +kernel) ⟨Nat.le_of_ble_eq_true rfl, Nat.le_of_ble_eq_true rfl⟩) ⟨fb_M, va_recv hK.1 hP (ci := 10) (q0 := 0) rfl rfl, fun U hU hW => ⟨rfl, by rw [hU]; exact hP, hK.warm hW⟩⟩ rfl rfl hl.1 rfl (lv_room (Nat.le_of_ble_eq_true rfl)) dX10_eraseOf_2 ⟨Nat.le_of_ble_eq_true rfl, Nat.le_of_ble_eq_true rfl⟩) hS (fun _ _ h => h) (fun _ h => h) (fun u9 t9 H locs ht9 hv9 e9 hB9 hz9 hk9 hS => ?_)
  rw [ht9] at hB9
  have hP : va_P (dC, dI) vwCl (wM q k (sp_X10_keep st a2)) H := hB9
  refine lv_iconst (v := 0) hx hb dX10_eraseOf_5 (by decide) ?_
  refine lv_istore_n (lv' := [(3, .int 0), (0, .ref (q 0)), (1, .int a1), (2, .int a2)]) hx hb dX10_eraseOf_6 rfl hl (by decide) rfl (fun ls hl => ?_)
  refine lv_iconst (v := 0) hx hb dX10_eraseOf_7 (by decide) ?_
  refine lv_istore (lv' := [(4, .int 0), (3, .int 0), (0, .ref (q 0)), (1, .int a1), (2, .int a2)]) hx hb dX10_eraseOf_8 hl (by decide) rfl (fun ls hl => ?_)
  have k_10 : ∀ (n_10 : Nat) (st_10 : St) (x4_10 : Int32) (x3_10 : Int32) (H : Heap) (locs : List Loc) (ls : Array Slot), 0 ≤ x4_10.toInt → x4_10.toInt ≤ (st.1 7).toInt → (st.1 7).toInt < x4_10.toInt + n_10 → okM st_10 → (st_10.1 7).toInt = (st.1 7).toInt → va_P (dC, dI) vwCl (wM q k st_10) H → va_S (aM q) s.heap H locs → lp_X10_eraseOf_10 st a1 a2 n_10 st_10 x4_10 x3_10 = res → lv_has ls 6 [(3, .int x3_10), (0, .ref (q 0)), (1, .int a1), (2, .int a2), (4, .int x4_10)] → W p l e (headSpec wsX10_eraseOf ({ frames := 3, cells := 0, slots := 0, locals := 69 } : Room)).room s m ([.ref (q 0), .int a1, .int a2] : List Value).toArray below meth c H locs 0 0 (MQ below (va_Qi (fun r (_ : Unit) => r = res.1) (fun _ t => va_P (dC, dI) vwCl (wM q k res.2) t.heap) (aM q)) ([.ref (q 0), .int a1, .int a2] : List Value).toArray s 0 0 (aM q)) (F0 m 10 ls []) := by
    intro n_10
    induction n_10 with
    | zero =>
      intro st_10 x4_10 x3_10 H locs ls hi0_10 hi1_10 hi2_10 hi3_10 hi4_10
      exact (ob_X10_eraseOf_10_zero st a1 a2 st_10 x4_10 x3_10 hok hi0_10 hi1_10 hi2_10 hi3_10 hi4_10).elim
    | succ n_10 ih_10 =>
      intro st_10 x4_10 x3_10 H locs ls hi0_10 hi1_10 hi2_10 hi3_10 hi4_10 hP hS he hl
      rw [lp_X10_eraseOf_10] at he
      refine lv_iload hx hb dX10_eraseOf_10 (lv_at hl 4 rfl) ?_
      refine lv_aload_n hx hb dX10_eraseOf_12 rfl (lv_at hl 1 rfl) ?_
      refine va_get (D := (dC, dI)) (ci := 10) (v := .int (st_10.1 7)) (C := RX10) (T := TX10) (N := 45) hx hb hts hi10 hown hK.1 hP 0 rfl rfl 19 (by decide) hf157 (fun _ h9 => h9) rfl dX10_eraseOf_13 ?_
      refine lv_icmp_ge (tgt := 121) hx hb dX10_eraseOf_16 (by decide) (fun h16_1 => ?_) (fun h16_1 => ?_)
      · have he := (if_pos h16_1).symm.trans he
        refine lv_iload_n hx hb dX10_eraseOf_121 rfl (lv_at hl 0 rfl) ?_
        refine lv_aload_n hx hb dX10_eraseOf_122 rfl (lv_at hl 1 rfl) ?_
        refine va_calli (va_runV (As := []) (rest := [.int x3_10]) ⟨hx, hb, hml, hown, hts⟩ (c_X10_cascade l dC dI q k st_10 hq (ob_X10_eraseOf_123_2 st a1 a2 n_10 st_10 x4_10 x3_10 hok hi0_10 hi1_10 hi2_10 hi3_10 hi4_10 h16_1) _ rfl) (cwV 0 hts gX10_eraseOf_X10_cascade rfl rfl rfl (by decide +kernel) ⟨Nat.le_of_ble_eq_true rfl, Nat.le_of_ble_eq_true rfl⟩) ⟨fb_M, va_recv hK.1 hP (ci := 10) (q0 := 0) rfl rfl, fun U hU hW => ⟨rfl, by rw [hU]; exact hP, hK.warm hW⟩⟩ rfl rfl hl.1 rfl (lv_room (Nat.le_of_ble_eq_true rfl)) dX10_eraseOf_123 ⟨Nat.le_of_ble_eq_true rfl, Nat.le_of_ble_eq_true rfl⟩) hS (fun _ _ h => h) (fun _ h => h) (fun r9 u9 t9 H locs ht9 hv9 e9 hB9 hz9 hk9 hS => ?_)
        rw [ht9] at hB9
        subst e9
        have hP : va_P (dC, dI) vwCl (wM q k ((sp_X10_cascade st_10).2)) H := hB9
        refine lv_iadd hx hb dX10_eraseOf_126 ?_
        exact W.iret (v := x3_10 + ((sp_X10_cascade st_10).1)) hx hb hr (fun t ht hW => ⟨⟨_, (), rfl, by show _ = Prod.fst _; rw [← he], by show va_P _ _ _ t.heap; rw [ht, ← he]; exact hP⟩, hS.F ht⟩) hS.2.2 dX10_eraseOf_127
      · have he := (if_neg h16_1).symm.trans he
        refine lv_aload_n hx hb dX10_eraseOf_19 rfl (lv_at hl 1 rfl) ?_
        refine va_get (D := (dC, dI)) (ci := 10) (v := .ref (q 27)) (C := RX10) (T := TX10) (N := 45) hx hb hts hi10 hown hK.1 hP 0 rfl rfl 27 (by decide) hf75 (fun _ h9 => h9) rfl dX10_eraseOf_20 ?_
        refine lv_iload hx hb dX10_eraseOf_23 (lv_at hl 4 rfl) ?_
        refine va_zald hx hb hK.1 hP 27 26 (f := st_10.2.1 26) (n := 100) (cA := k 26) rfl rfl (i := x4_10) (ob_X10_eraseOf_25_3 st a1 a2 n_10 st_10 x4_10 x3_10 hok hi0_10 hi1_10 hi2_10 hi3_10 hi4_10 h16_1) dX10_eraseOf_25 ?_
        refine lv_if_eq (tgt := 83) hx hb dX10_eraseOf_26 (by decide) (fun h26_4 => ?_) (fun h26_4 => ?_)
        · have he := (if_pos h26_4).symm.trans he
          refine lv_iconst (v := 0) hx hb dX10_eraseOf_83 (by decide) ?_
          refine lv_istore (lv' := [(5, .int 0), (3, .int x3_10), (0, .ref (q 0)), (1, .int a1), (2, .int a2), (4, .int x4_10)]) hx hb dX10_eraseOf_84 hl (by decide) rfl (fun ls hl => ?_)
          refine lv_iload hx hb dX10_eraseOf_86 (lv_at hl 0 rfl) ?_
          refine lv_if_eq (tgt := 115) hx hb dX10_eraseOf_88 (by decide) (fun _ => ?_) (fun h9 => absurd h9 (by decide))
          refine lv_iinc (v := x4_10 + 1) (lv' := [(4, .int (x4_10 + 1)), (5, .int 0), (3, .int x3_10), (0, .ref (q 0)), (1, .int a1), (2, .int a2)]) hx hb dX10_eraseOf_115 hl (k := 5) rfl rfl (by decide) rfl (fun ls hl => ?_)
          refine lv_goto (tgt := 10) hx hb dX10_eraseOf_118 (by decide) ?_
          exact ih_10 st_10 (x4_10 + 1) x3_10 _ _ ls (ob_X10_eraseOf_10_inv0_5 st a1 a2 n_10 st_10 x4_10 x3_10 hok hi0_10 hi1_10 hi2_10 hi3_10 hi4_10 h16_1 h26_4) (ob_X10_eraseOf_10_inv1_6 st a1 a2 n_10 st_10 x4_10 x3_10 hok hi0_10 hi1_10 hi2_10 hi3_10 hi4_10 h16_1 h26_4) (ob_X10_eraseOf_10_inv2_7 st a1 a2 n_10 st_10 x4_10 x3_10 hok hi0_10 hi1_10 hi2_10 hi3_10 hi4_10 h16_1 h26_4) (ob_X10_eraseOf_10_inv3_8 st a1 a2 n_10 st_10 x4_10 x3_10 hok hi0_10 hi1_10 hi2_10 hi3_10 hi4_10 h16_1 h26_4) (ob_X10_eraseOf_10_inv4_9 st a1 a2 n_10 st_10 x4_10 x3_10 hok hi0_10 hi1_10 hi2_10 hi3_10 hi4_10 h16_1 h26_4) hP hS he (lv_sub hl [2, 3, 4, 5, 0] rfl)
        · have he := (if_neg h26_4).symm.trans he
          refine lv_aload_n hx hb dX10_eraseOf_29 rfl (lv_at hl 1 rfl) ?_
          refine va_get (D := (dC, dI)) (ci := 10) (v := .ref (q 24)) (C := RX10) (T := TX10) (N := 45) hx hb hts hi10 hown hK.1 hP 0 rfl rfl 20 (by decide) hf54 (fun _ h9 => h9) rfl dX10_eraseOf_30 ?_
          refine lv_iload hx hb dX10_eraseOf_33 (lv_at hl 4 rfl) ?_
          refine va_iald hx hb hK.1 hP 24 23 (f := st_10.2.1 23) (n := 100) (cA := k 23) rfl rfl (i := x4_10) (ob_X10_eraseOf_35_10 st a1 a2 n_10 st_10 x4_10 x3_10 hok hi0_10 hi1_10 hi2_10 hi3_10 hi4_10 h16_1 h26_4) dX10_eraseOf_35 ?_
          refine lv_iconst (v := (-1)) hx hb dX10_eraseOf_36 (by decide) ?_
          refine lv_icmp_ne (tgt := 83) hx hb dX10_eraseOf_37 (by decide) (fun h37_11 => ?_) (fun h37_11 => ?_)
          · have he := (if_neg h37_11).symm.trans he
            refine lv_iconst (v := 0) hx hb dX10_eraseOf_83 (by decide) ?_
            refine lv_istore (lv' := [(5, .int 0), (3, .int x3_10), (0, .ref (q 0)), (1, .int a1), (2, .int a2), (4, .int x4_10)]) hx hb dX10_eraseOf_84 hl (by decide) rfl (fun ls hl => ?_)
            refine lv_iload hx hb dX10_eraseOf_86 (lv_at hl 0 rfl) ?_
            refine lv_if_eq (tgt := 115) hx hb dX10_eraseOf_88 (by decide) (fun _ => ?_) (fun h9 => absurd h9 (by decide))
            refine lv_iinc (v := x4_10 + 1) (lv' := [(4, .int (x4_10 + 1)), (5, .int 0), (3, .int x3_10), (0, .ref (q 0)), (1, .int a1), (2, .int a2)]) hx hb dX10_eraseOf_115 hl (k := 5) rfl rfl (by decide) rfl (fun ls hl => ?_)
            refine lv_goto (tgt := 10) hx hb dX10_eraseOf_118 (by decide) ?_
            exact ih_10 st_10 (x4_10 + 1) x3_10 _ _ ls (ob_X10_eraseOf_10_inv0_12 st a1 a2 n_10 st_10 x4_10 x3_10 hok hi0_10 hi1_10 hi2_10 hi3_10 hi4_10 h16_1 h26_4 h37_11) (ob_X10_eraseOf_10_inv1_13 st a1 a2 n_10 st_10 x4_10 x3_10 hok hi0_10 hi1_10 hi2_10 hi3_10 hi4_10 h16_1 h26_4 h37_11) (ob_X10_eraseOf_10_inv2_14 st a1 a2 n_10 st_10 x4_10 x3_10 hok hi0_10 hi1_10 hi2_10 hi3_10 hi4_10 h16_1 h26_4 h37_11) (ob_X10_eraseOf_10_inv3_15 st a1 a2 n_10 st_10 x4_10 x3_10 hok hi0_10 hi1_10 hi2_10 hi3_10 hi4_10 h16_1 h26_4 h37_11) (ob_X10_eraseOf_10_inv4_16 st a1 a2 n_10 st_10 x4_10 x3_10 hok hi0_10 hi1_10 hi2_10 hi3_10 hi4_10 h16_1 h26_4 h37_11) hP hS he (lv_sub hl [2, 3, 4, 5, 0] rfl)
          · have he := (if_pos h37_11).symm.trans he
            refine lv_iload_n hx hb dX10_eraseOf_40 rfl (lv_at hl 2 rfl) ?_
            refine lv_if_lt (tgt := 60) hx hb dX10_eraseOf_41 (by decide) (fun h41_17 => ?_) (fun h41_17 => ?_)
            · have he := (if_pos h41_17).symm.trans he
              refine lv_aload_n hx hb dX10_eraseOf_60 rfl (lv_at hl 1 rfl) ?_
              refine lv_iload hx hb dX10_eraseOf_61 (lv_at hl 4 rfl) ?_
              refine vp_callSi (va_Run.run (va_runV (As := [.int x4_10]) (rest := []) ⟨hx, hb, hml, hown, hts⟩ (c_X10_due l dC dI q k st_10 x4_10 hi3_10 (ob_X10_eraseOf_63_18 st a1 a2 n_10 st_10 x4_10 x3_10 hok hi0_10 hi1_10 hi2_10 hi3_10 hi4_10 h16_1 h26_4 h37_11 h41_17) _ rfl) (cwV 1 hts gX10_eraseOf_X10_due rfl rfl rfl (by decide +kernel) ⟨Nat.le_of_ble_eq_true rfl, Nat.le_of_ble_eq_true rfl⟩) ⟨fb_M, va_recv hK.1 hP (ci := 10) (q0 := 0) rfl rfl, fun U hU hW => ⟨rfl, by rw [hU]; exact hP, hK.warm hW⟩⟩ rfl rfl hl.1 rfl (lv_room (Nat.le_of_ble_eq_true rfl)) dX10_eraseOf_63 ⟨Nat.le_of_ble_eq_true rfl, Nat.le_of_ble_eq_true rfl⟩)) (fun r9 e9 => ?_)
              subst e9
              refine lv_if_lt (tgt := 83) hx hb dX10_eraseOf_66 (by decide) (fun h66_19 => ?_) (fun h66_19 => ?_)
              · have he := (if_pos h66_19).symm.trans he
                refine lv_iconst (v := 0) hx hb dX10_eraseOf_83 (by decide) ?_
                refine lv_istore (lv' := [(5, .int 0), (3, .int x3_10), (0, .ref (q 0)), (1, .int a1), (2, .int a2), (4, .int x4_10)]) hx hb dX10_eraseOf_84 hl (by decide) rfl (fun ls hl => ?_)
                refine lv_iload hx hb dX10_eraseOf_86 (lv_at hl 0 rfl) ?_
                refine lv_if_eq (tgt := 115) hx hb dX10_eraseOf_88 (by decide) (fun _ => ?_) (fun h9 => absurd h9 (by decide))
                refine lv_iinc (v := x4_10 + 1) (lv' := [(4, .int (x4_10 + 1)), (5, .int 0), (3, .int x3_10), (0, .ref (q 0)), (1, .int a1), (2, .int a2)]) hx hb dX10_eraseOf_115 hl (k := 5) rfl rfl (by decide) rfl (fun ls hl => ?_)
                refine lv_goto (tgt := 10) hx hb dX10_eraseOf_118 (by decide) ?_
                exact ih_10 st_10 (x4_10 + 1) x3_10 _ _ ls (ob_X10_eraseOf_10_inv0_20 st a1 a2 n_10 st_10 x4_10 x3_10 hok hi0_10 hi1_10 hi2_10 hi3_10 hi4_10 h16_1 h26_4 h37_11 h41_17 h66_19) (ob_X10_eraseOf_10_inv1_21 st a1 a2 n_10 st_10 x4_10 x3_10 hok hi0_10 hi1_10 hi2_10 hi3_10 hi4_10 h16_1 h26_4 h37_11 h41_17 h66_19) (ob_X10_eraseOf_10_inv2_22 st a1 a2 n_10 st_10 x4_10 x3_10 hok hi0_10 hi1_10 hi2_10 hi3_10 hi4_10 h16_1 h26_4 h37_11 h41_17 h66_19) (ob_X10_eraseOf_10_inv3_23 st a1 a2 n_10 st_10 x4_10 x3_10 hok hi0_10 hi1_10 hi2_10 hi3_10 hi4_10 h16_1 h26_4 h37_11 h41_17 h66_19) (ob_X10_eraseOf_10_inv4_24 st a1 a2 n_10 st_10 x4_10 x3_10 hok hi0_10 hi1_10 hi2_10 hi3_10 hi4_10 h16_1 h26_4 h37_11 h41_17 h66_19) hP hS he (lv_sub hl [2, 3, 4, 5, 0] rfl)
              · have he := (if_neg h66_19).symm.trans he
                refine lv_aload_n hx hb dX10_eraseOf_69 rfl (lv_at hl 1 rfl) ?_
                refine lv_iload hx hb dX10_eraseOf_70 (lv_at hl 4 rfl) ?_
                refine vp_callSi (va_Run.run (va_runV (As := [.int x4_10]) (rest := []) ⟨hx, hb, hml, hown, hts⟩ (c_X10_due l dC dI q k st_10 x4_10 hi3_10 (ob_X10_eraseOf_72_25 st a1 a2 n_10 st_10 x4_10 x3_10 hok hi0_10 hi1_10 hi2_10 hi3_10 hi4_10 h16_1 h26_4 h37_11 h41_17 h66_19) _ rfl) (cwV 1 hts gX10_eraseOf_X10_due rfl rfl rfl (by decide +kernel) ⟨Nat.le_of_ble_eq_true rfl, Nat.le_of_ble_eq_true rfl⟩) ⟨fb_M, va_recv hK.1 hP (ci := 10) (q0 := 0) rfl rfl, fun U hU hW => ⟨rfl, by rw [hU]; exact hP, hK.warm hW⟩⟩ rfl rfl hl.1 rfl (lv_room (Nat.le_of_ble_eq_true rfl)) dX10_eraseOf_72 ⟨Nat.le_of_ble_eq_true rfl, Nat.le_of_ble_eq_true rfl⟩)) (fun r9 e9 => ?_)
                subst e9
                refine lv_iload_n hx hb dX10_eraseOf_75 rfl (lv_at hl 3 rfl) ?_
                refine lv_icmp_gt (tgt := 83) hx hb dX10_eraseOf_76 (by decide) (fun h76_26 => ?_) (fun h76_26 => ?_)
                · have he := (if_pos h76_26).symm.trans he
                  refine lv_iconst (v := 0) hx hb dX10_eraseOf_83 (by decide) ?_
                  refine lv_istore (lv' := [(5, .int 0), (3, .int x3_10), (0, .ref (q 0)), (1, .int a1), (2, .int a2), (4, .int x4_10)]) hx hb dX10_eraseOf_84 hl (by decide) rfl (fun ls hl => ?_)
                  refine lv_iload hx hb dX10_eraseOf_86 (lv_at hl 0 rfl) ?_
                  refine lv_if_eq (tgt := 115) hx hb dX10_eraseOf_88 (by decide) (fun _ => ?_) (fun h9 => absurd h9 (by decide))
                  refine lv_iinc (v := x4_10 + 1) (lv' := [(4, .int (x4_10 + 1)), (5, .int 0), (3, .int x3_10), (0, .ref (q 0)), (1, .int a1), (2, .int a2)]) hx hb dX10_eraseOf_115 hl (k := 5) rfl rfl (by decide) rfl (fun ls hl => ?_)
                  refine lv_goto (tgt := 10) hx hb dX10_eraseOf_118 (by decide) ?_
                  exact ih_10 st_10 (x4_10 + 1) x3_10 _ _ ls (ob_X10_eraseOf_10_inv0_27 st a1 a2 n_10 st_10 x4_10 x3_10 hok hi0_10 hi1_10 hi2_10 hi3_10 hi4_10 h16_1 h26_4 h37_11 h41_17 h66_19 h76_26) (ob_X10_eraseOf_10_inv1_28 st a1 a2 n_10 st_10 x4_10 x3_10 hok hi0_10 hi1_10 hi2_10 hi3_10 hi4_10 h16_1 h26_4 h37_11 h41_17 h66_19 h76_26) (ob_X10_eraseOf_10_inv2_29 st a1 a2 n_10 st_10 x4_10 x3_10 hok hi0_10 hi1_10 hi2_10 hi3_10 hi4_10 h16_1 h26_4 h37_11 h41_17 h66_19 h76_26) (ob_X10_eraseOf_10_inv3_30 st a1 a2 n_10 st_10 x4_10 x3_10 hok hi0_10 hi1_10 hi2_10 hi3_10 hi4_10 h16_1 h26_4 h37_11 h41_17 h66_19 h76_26) (ob_X10_eraseOf_10_inv4_31 st a1 a2 n_10 st_10 x4_10 x3_10 hok hi0_10 hi1_10 hi2_10 hi3_10 hi4_10 h16_1 h26_4 h37_11 h41_17 h66_19 h76_26) hP hS he (lv_sub hl [2, 3, 4, 5, 0] rfl)
                · have he := (if_neg h76_26).symm.trans he
                  refine lv_iconst (v := 1) hx hb dX10_eraseOf_79 (by decide) ?_
                  refine lv_goto (tgt := 84) hx hb dX10_eraseOf_80 (by decide) ?_
                  refine lv_istore (lv' := [(5, .int 1), (3, .int x3_10), (0, .ref (q 0)), (1, .int a1), (2, .int a2), (4, .int x4_10)]) hx hb dX10_eraseOf_84 hl (by decide) rfl (fun ls hl => ?_)
                  refine lv_iload hx hb dX10_eraseOf_86 (lv_at hl 0 rfl) ?_
                  refine lv_if_eq (tgt := 115) hx hb dX10_eraseOf_88 (by decide) (fun h9 => absurd h9 (by decide)) (fun _ => ?_)
                  refine lv_aload_n hx hb dX10_eraseOf_91 rfl (lv_at hl 2 rfl) ?_
                  refine va_get (D := (dC, dI)) (ci := 10) (v := .ref (q 28)) (C := RX10) (T := TX10) (N := 45) hx hb hts hi10 hown hK.1 hP 0 rfl rfl 29 (by decide) hf82 (fun _ h9 => h9) rfl dX10_eraseOf_92 ?_
                  refine lv_iload hx hb dX10_eraseOf_95 (lv_at hl 5 rfl) ?_
                  refine va_zald hx hb hK.1 hP 28 27 (f := st_10.2.1 27) (n := 100) (cA := k 27) rfl rfl (i := x4_10) (ob_X10_eraseOf_97_32 st a1 a2 n_10 st_10 x4_10 x3_10 hok hi0_10 hi1_10 hi2_10 hi3_10 hi4_10 h16_1 h26_4 h37_11 h41_17 h66_19 h76_26) dX10_eraseOf_97 ?_
                  refine lv_if_eq (tgt := 104) hx hb dX10_eraseOf_98 (by decide) (fun h98_33 => ?_) (fun h98_33 => ?_)
                  · have he := (if_pos h98_33).symm.trans he
                    refine lv_aload_n hx hb dX10_eraseOf_104 rfl (lv_at hl 2 rfl) ?_
                    refine va_get (D := (dC, dI)) (ci := 10) (v := .ref (q 27)) (C := RX10) (T := TX10) (N := 45) hx hb hts hi10 hown hK.1 hP 0 rfl rfl 27 (by decide) hf75 (fun _ h9 => h9) rfl dX10_eraseOf_105 ?_
                    refine lv_iload hx hb dX10_eraseOf_108 (lv_at hl 5 rfl) ?_
                    refine lv_iconst (v := 0) hx hb dX10_eraseOf_110 (by decide) ?_
                    refine va_zast hx hb hK.1 hP (dM_of hq) hS 27 26 (f := st_10.2.1 26) (n := 100) (cA := k 26) rfl rfl (i := x4_10) (x := 0) (ob_X10_eraseOf_111_34 st a1 a2 n_10 st_10 x4_10 x3_10 hok hi0_10 hi1_10 hi2_10 hi3_10 hi4_10 h16_1 h26_4 h37_11 h41_17 h66_19 h76_26 h98_33) dX10_eraseOf_111 (fun H locs hP _ hS => ?_)
                    have hP : va_P (dC, dI) vwCl (wM q k (sA st_10 26 x4_10.toNatClampNeg 0)) H := hP
                    refine lv_iinc (v := x3_10 + 1) (lv' := [(3, .int (x3_10 + 1)), (5, .int 1), (0, .ref (q 0)), (1, .int a1), (2, .int a2), (4, .int x4_10)]) hx hb dX10_eraseOf_112 hl (k := 1) rfl rfl (by decide) rfl (fun ls hl => ?_)
                    refine lv_iinc (v := x4_10 + 1) (lv' := [(4, .int (x4_10 + 1)), (3, .int (x3_10 + 1)), (5, .int 1), (0, .ref (q 0)), (1, .int a1), (2, .int a2)]) hx hb dX10_eraseOf_115 hl (k := 5) rfl rfl (by decide) rfl (fun ls hl => ?_)
                    refine lv_goto (tgt := 10) hx hb dX10_eraseOf_118 (by decide) ?_
                    exact ih_10 (sA st_10 26 x4_10.toNatClampNeg 0) (x4_10 + 1) (x3_10 + 1) _ _ ls (ob_X10_eraseOf_10_inv0_35 st a1 a2 n_10 st_10 x4_10 x3_10 hok hi0_10 hi1_10 hi2_10 hi3_10 hi4_10 h16_1 h26_4 h37_11 h41_17 h66_19 h76_26 h98_33) (ob_X10_eraseOf_10_inv1_36 st a1 a2 n_10 st_10 x4_10 x3_10 hok hi0_10 hi1_10 hi2_10 hi3_10 hi4_10 h16_1 h26_4 h37_11 h41_17 h66_19 h76_26 h98_33) (ob_X10_eraseOf_10_inv2_37 st a1 a2 n_10 st_10 x4_10 x3_10 hok hi0_10 hi1_10 hi2_10 hi3_10 hi4_10 h16_1 h26_4 h37_11 h41_17 h66_19 h76_26 h98_33) (ob_X10_eraseOf_10_inv3_38 st a1 a2 n_10 st_10 x4_10 x3_10 hok hi0_10 hi1_10 hi2_10 hi3_10 hi4_10 h16_1 h26_4 h37_11 h41_17 h66_19 h76_26 h98_33) (ob_X10_eraseOf_10_inv4_39 st a1 a2 n_10 st_10 x4_10 x3_10 hok hi0_10 hi1_10 hi2_10 hi3_10 hi4_10 h16_1 h26_4 h37_11 h41_17 h66_19 h76_26 h98_33) hP hS he (lv_sub hl [1, 3, 4, 5, 0] rfl)
                  · have he := (if_neg h98_33).symm.trans he
                    refine lv_goto (tgt := 115) hx hb dX10_eraseOf_101 (by decide) ?_
                    refine lv_iinc (v := x4_10 + 1) (lv' := [(4, .int (x4_10 + 1)), (5, .int 1), (3, .int x3_10), (0, .ref (q 0)), (1, .int a1), (2, .int a2)]) hx hb dX10_eraseOf_115 hl (k := 5) rfl rfl (by decide) rfl (fun ls hl => ?_)
                    refine lv_goto (tgt := 10) hx hb dX10_eraseOf_118 (by decide) ?_
                    exact ih_10 st_10 (x4_10 + 1) x3_10 _ _ ls (ob_X10_eraseOf_10_inv0_40 st a1 a2 n_10 st_10 x4_10 x3_10 hok hi0_10 hi1_10 hi2_10 hi3_10 hi4_10 h16_1 h26_4 h37_11 h41_17 h66_19 h76_26 h98_33) (ob_X10_eraseOf_10_inv1_41 st a1 a2 n_10 st_10 x4_10 x3_10 hok hi0_10 hi1_10 hi2_10 hi3_10 hi4_10 h16_1 h26_4 h37_11 h41_17 h66_19 h76_26 h98_33) (ob_X10_eraseOf_10_inv2_42 st a1 a2 n_10 st_10 x4_10 x3_10 hok hi0_10 hi1_10 hi2_10 hi3_10 hi4_10 h16_1 h26_4 h37_11 h41_17 h66_19 h76_26 h98_33) (ob_X10_eraseOf_10_inv3_43 st a1 a2 n_10 st_10 x4_10 x3_10 hok hi0_10 hi1_10 hi2_10 hi3_10 hi4_10 h16_1 h26_4 h37_11 h41_17 h66_19 h76_26 h98_33) (ob_X10_eraseOf_10_inv4_44 st a1 a2 n_10 st_10 x4_10 x3_10 hok hi0_10 hi1_10 hi2_10 hi3_10 hi4_10 h16_1 h26_4 h37_11 h41_17 h66_19 h76_26 h98_33) hP hS he (lv_sub hl [2, 3, 4, 5, 0] rfl)
            · have he := (if_neg h41_17).symm.trans he
              refine lv_aload_n hx hb dX10_eraseOf_44 rfl (lv_at hl 1 rfl) ?_
              refine va_get (D := (dC, dI)) (ci := 10) (v := .ref (q 23)) (C := RX10) (T := TX10) (N := 45) hx hb hts hi10 hown hK.1 hP 0 rfl rfl 23 (by decide) hf63 (fun _ h9 => h9) rfl dX10_eraseOf_45 ?_
              refine lv_iload hx hb dX10_eraseOf_48 (lv_at hl 4 rfl) ?_
              refine va_iald hx hb hK.1 hP 23 22 (f := st_10.2.1 22) (n := 100) (cA := k 22) rfl rfl (i := x4_10) (ob_X10_eraseOf_50_45 st a1 a2 n_10 st_10 x4_10 x3_10 hok hi0_10 hi1_10 hi2_10 hi3_10 hi4_10 h16_1 h26_4 h37_11 h41_17) dX10_eraseOf_50 ?_
              refine lv_iconst (v := 1) hx hb dX10_eraseOf_51 (by decide) ?_
              refine lv_iload_n hx hb dX10_eraseOf_52 rfl (lv_at hl 2 rfl) ?_
              refine lv_ishl hx hb dX10_eraseOf_53 ?_
              refine lv_icmp_ne (tgt := 83) hx hb dX10_eraseOf_54 (by decide) (fun h54_46 => ?_) (fun h54_46 => ?_)
              · have he := (if_neg h54_46).symm.trans he
                refine lv_iconst (v := 0) hx hb dX10_eraseOf_83 (by decide) ?_
                refine lv_istore (lv' := [(5, .int 0), (3, .int x3_10), (0, .ref (q 0)), (1, .int a1), (2, .int a2), (4, .int x4_10)]) hx hb dX10_eraseOf_84 hl (by decide) rfl (fun ls hl => ?_)
                refine lv_iload hx hb dX10_eraseOf_86 (lv_at hl 0 rfl) ?_
                refine lv_if_eq (tgt := 115) hx hb dX10_eraseOf_88 (by decide) (fun _ => ?_) (fun h9 => absurd h9 (by decide))
                refine lv_iinc (v := x4_10 + 1) (lv' := [(4, .int (x4_10 + 1)), (5, .int 0), (3, .int x3_10), (0, .ref (q 0)), (1, .int a1), (2, .int a2)]) hx hb dX10_eraseOf_115 hl (k := 5) rfl rfl (by decide) rfl (fun ls hl => ?_)
                refine lv_goto (tgt := 10) hx hb dX10_eraseOf_118 (by decide) ?_
                exact ih_10 st_10 (x4_10 + 1) x3_10 _ _ ls (ob_X10_eraseOf_10_inv0_47 st a1 a2 n_10 st_10 x4_10 x3_10 hok hi0_10 hi1_10 hi2_10 hi3_10 hi4_10 h16_1 h26_4 h37_11 h41_17 h54_46) (ob_X10_eraseOf_10_inv1_48 st a1 a2 n_10 st_10 x4_10 x3_10 hok hi0_10 hi1_10 hi2_10 hi3_10 hi4_10 h16_1 h26_4 h37_11 h41_17 h54_46) (ob_X10_eraseOf_10_inv2_49 st a1 a2 n_10 st_10 x4_10 x3_10 hok hi0_10 hi1_10 hi2_10 hi3_10 hi4_10 h16_1 h26_4 h37_11 h41_17 h54_46) (ob_X10_eraseOf_10_inv3_50 st a1 a2 n_10 st_10 x4_10 x3_10 hok hi0_10 hi1_10 hi2_10 hi3_10 hi4_10 h16_1 h26_4 h37_11 h41_17 h54_46) (ob_X10_eraseOf_10_inv4_51 st a1 a2 n_10 st_10 x4_10 x3_10 hok hi0_10 hi1_10 hi2_10 hi3_10 hi4_10 h16_1 h26_4 h37_11 h41_17 h54_46) hP hS he (lv_sub hl [2, 3, 4, 5, 0] rfl)
              · have he := (if_pos h54_46).symm.trans he
                refine lv_goto (tgt := 79) hx hb dX10_eraseOf_57 (by decide) ?_
                refine lv_iconst (v := 1) hx hb dX10_eraseOf_79 (by decide) ?_
                refine lv_goto (tgt := 84) hx hb dX10_eraseOf_80 (by decide) ?_
                refine lv_istore (lv' := [(5, .int 1), (3, .int x3_10), (0, .ref (q 0)), (1, .int a1), (2, .int a2), (4, .int x4_10)]) hx hb dX10_eraseOf_84 hl (by decide) rfl (fun ls hl => ?_)
                refine lv_iload hx hb dX10_eraseOf_86 (lv_at hl 0 rfl) ?_
                refine lv_if_eq (tgt := 115) hx hb dX10_eraseOf_88 (by decide) (fun h9 => absurd h9 (by decide)) (fun _ => ?_)
                refine lv_aload_n hx hb dX10_eraseOf_91 rfl (lv_at hl 2 rfl) ?_
                refine va_get (D := (dC, dI)) (ci := 10) (v := .ref (q 28)) (C := RX10) (T := TX10) (N := 45) hx hb hts hi10 hown hK.1 hP 0 rfl rfl 29 (by decide) hf82 (fun _ h9 => h9) rfl dX10_eraseOf_92 ?_
                refine lv_iload hx hb dX10_eraseOf_95 (lv_at hl 5 rfl) ?_
                refine va_zald hx hb hK.1 hP 28 27 (f := st_10.2.1 27) (n := 100) (cA := k 27) rfl rfl (i := x4_10) (ob_X10_eraseOf_97_52 st a1 a2 n_10 st_10 x4_10 x3_10 hok hi0_10 hi1_10 hi2_10 hi3_10 hi4_10 h16_1 h26_4 h37_11 h41_17 h54_46) dX10_eraseOf_97 ?_
                refine lv_if_eq (tgt := 104) hx hb dX10_eraseOf_98 (by decide) (fun h98_53 => ?_) (fun h98_53 => ?_)
                · have he := (if_pos h98_53).symm.trans he
                  refine lv_aload_n hx hb dX10_eraseOf_104 rfl (lv_at hl 2 rfl) ?_
                  refine va_get (D := (dC, dI)) (ci := 10) (v := .ref (q 27)) (C := RX10) (T := TX10) (N := 45) hx hb hts hi10 hown hK.1 hP 0 rfl rfl 27 (by decide) hf75 (fun _ h9 => h9) rfl dX10_eraseOf_105 ?_
                  refine lv_iload hx hb dX10_eraseOf_108 (lv_at hl 5 rfl) ?_
                  refine lv_iconst (v := 0) hx hb dX10_eraseOf_110 (by decide) ?_
                  refine va_zast hx hb hK.1 hP (dM_of hq) hS 27 26 (f := st_10.2.1 26) (n := 100) (cA := k 26) rfl rfl (i := x4_10) (x := 0) (ob_X10_eraseOf_111_54 st a1 a2 n_10 st_10 x4_10 x3_10 hok hi0_10 hi1_10 hi2_10 hi3_10 hi4_10 h16_1 h26_4 h37_11 h41_17 h54_46 h98_53) dX10_eraseOf_111 (fun H locs hP _ hS => ?_)
                  have hP : va_P (dC, dI) vwCl (wM q k (sA st_10 26 x4_10.toNatClampNeg 0)) H := hP
                  refine lv_iinc (v := x3_10 + 1) (lv' := [(3, .int (x3_10 + 1)), (5, .int 1), (0, .ref (q 0)), (1, .int a1), (2, .int a2), (4, .int x4_10)]) hx hb dX10_eraseOf_112 hl (k := 1) rfl rfl (by decide) rfl (fun ls hl => ?_)
                  refine lv_iinc (v := x4_10 + 1) (lv' := [(4, .int (x4_10 + 1)), (3, .int (x3_10 + 1)), (5, .int 1), (0, .ref (q 0)), (1, .int a1), (2, .int a2)]) hx hb dX10_eraseOf_115 hl (k := 5) rfl rfl (by decide) rfl (fun ls hl => ?_)
                  refine lv_goto (tgt := 10) hx hb dX10_eraseOf_118 (by decide) ?_
                  exact ih_10 (sA st_10 26 x4_10.toNatClampNeg 0) (x4_10 + 1) (x3_10 + 1) _ _ ls (ob_X10_eraseOf_10_inv0_55 st a1 a2 n_10 st_10 x4_10 x3_10 hok hi0_10 hi1_10 hi2_10 hi3_10 hi4_10 h16_1 h26_4 h37_11 h41_17 h54_46 h98_53) (ob_X10_eraseOf_10_inv1_56 st a1 a2 n_10 st_10 x4_10 x3_10 hok hi0_10 hi1_10 hi2_10 hi3_10 hi4_10 h16_1 h26_4 h37_11 h41_17 h54_46 h98_53) (ob_X10_eraseOf_10_inv2_57 st a1 a2 n_10 st_10 x4_10 x3_10 hok hi0_10 hi1_10 hi2_10 hi3_10 hi4_10 h16_1 h26_4 h37_11 h41_17 h54_46 h98_53) (ob_X10_eraseOf_10_inv3_58 st a1 a2 n_10 st_10 x4_10 x3_10 hok hi0_10 hi1_10 hi2_10 hi3_10 hi4_10 h16_1 h26_4 h37_11 h41_17 h54_46 h98_53) (ob_X10_eraseOf_10_inv4_59 st a1 a2 n_10 st_10 x4_10 x3_10 hok hi0_10 hi1_10 hi2_10 hi3_10 hi4_10 h16_1 h26_4 h37_11 h41_17 h54_46 h98_53) hP hS he (lv_sub hl [1, 3, 4, 5, 0] rfl)
                · have he := (if_neg h98_53).symm.trans he
                  refine lv_goto (tgt := 115) hx hb dX10_eraseOf_101 (by decide) ?_
                  refine lv_iinc (v := x4_10 + 1) (lv' := [(4, .int (x4_10 + 1)), (5, .int 1), (3, .int x3_10), (0, .ref (q 0)), (1, .int a1), (2, .int a2)]) hx hb dX10_eraseOf_115 hl (k := 5) rfl rfl (by decide) rfl (fun ls hl => ?_)
                  refine lv_goto (tgt := 10) hx hb dX10_eraseOf_118 (by decide) ?_
                  exact ih_10 st_10 (x4_10 + 1) x3_10 _ _ ls (ob_X10_eraseOf_10_inv0_60 st a1 a2 n_10 st_10 x4_10 x3_10 hok hi0_10 hi1_10 hi2_10 hi3_10 hi4_10 h16_1 h26_4 h37_11 h41_17 h54_46 h98_53) (ob_X10_eraseOf_10_inv1_61 st a1 a2 n_10 st_10 x4_10 x3_10 hok hi0_10 hi1_10 hi2_10 hi3_10 hi4_10 h16_1 h26_4 h37_11 h41_17 h54_46 h98_53) (ob_X10_eraseOf_10_inv2_62 st a1 a2 n_10 st_10 x4_10 x3_10 hok hi0_10 hi1_10 hi2_10 hi3_10 hi4_10 h16_1 h26_4 h37_11 h41_17 h54_46 h98_53) (ob_X10_eraseOf_10_inv3_63 st a1 a2 n_10 st_10 x4_10 x3_10 hok hi0_10 hi1_10 hi2_10 hi3_10 hi4_10 h16_1 h26_4 h37_11 h41_17 h54_46 h98_53) (ob_X10_eraseOf_10_inv4_64 st a1 a2 n_10 st_10 x4_10 x3_10 hok hi0_10 hi1_10 hi2_10 hi3_10 hi4_10 h16_1 h26_4 h37_11 h41_17 h54_46 h98_53) hP hS he (lv_sub hl [2, 3, 4, 5, 0] rfl)
  exact k_10 ((st.1 7).toInt.toNat + 1) (sp_X10_keep st a2) 0 0 _ _ ls (ob_X10_eraseOf_10_inv0_65 st a1 a2 hok) (ob_X10_eraseOf_10_inv1_66 st a1 a2 hok) (ob_X10_eraseOf_10_inv2_67 st a1 a2 hok) (ob_X10_eraseOf_10_inv3_68 st a1 a2 hok) (ob_X10_eraseOf_10_inv4_69 st a1 a2 hok) hP hS he (lv_sub hl [1, 2, 3, 4, 0] rfl)
set_option maxHeartbeats 4000000 in
set_option maxRecDepth 100000 in
theorem c_X10_erase (l : Launch) (dC : Nat → ClassId) (dI : Nat → Nat → Nat) (q : Nat → Nat) (k : Nat → ClassId) (st : St) (a1 : Int32) (a2 : Int32) (hq : ∀ i j, i < 35 → j < 35 → q i = q j → i = j) (hok : okM st) (res : Int32 × St) (hres : sp_X10_erase st a1 a2 = res) : Met l yX10_erase wsX10_erase ({ frames := 4, cells := 0, slots := 0, locals := 94 } : Room) (va_Pc [.ref (q 0), .int a1, .int a2] (fun U => va_P (dC, dI) vwCl (wM q k st) U.heap ∧ KM (dC, dI) k U)) (va_Qi (fun r (_ : Unit) => r = res.1) (fun _ t => va_P (dC, dI) vwCl (wM q k res.2) t.heap) (aM q)) 0 0 (aM q) := by
  refine Met.ofW (cc := cX10_erase) (maxL := 3) (ret := (some .int)) (by decide) rfl ?_
  intro p e s m args below meth c s₁ B hml hv
  obtain ⟨rfl, hP, hK⟩ := hv
  have hx := B.exec
  have hb := B.bytes
  have hr := B.returns
  have hts := atoms_spec (ws := wsX10_erase) B.pre
  have hown : s.vm.findClass RX10 = some m.cls := findClass_of_methodNamed B.named
  have hlocks := B.notSynchronized
  have hS : va_S (aM q) s.heap s.heap [] := va_S.rf
  have hl := lv_entry ([.ref (q 0), .int a1, .int a2]) (n := 3) (Nat.le_of_ble_eq_true rfl)
  rw [lg_entry_eq]
  generalize (lg_sl ([.ref (q 0), .int a1, .int a2]) ++ List.replicate (3 - (lg_sl ([.ref (q 0), .int a1, .int a2])).length) Slot.unset).toArray = ls at hl ⊢
  have hl : lv_has ls 3 [(0, .ref (q 0)), (1, .int a1), (2, .int a2)] := hl
  have he := hres
  unfold sp_X10_erase at he
  refine lv_aload_n hx hb dX10_erase_0 rfl (lv_at hl 0 rfl) ?_
  refine lv_iload_n hx hb dX10_erase_1 rfl (lv_at hl 1 rfl) ?_
  refine vp_callSi (va_Run.run (va_runS (As := [.int a1]) (rest := [.ref (q 0)]) ⟨hx, hb, hml, hown, hts⟩ (c_X10_isPerson l a1 _ rfl) (va_cwS 1 hts gX10_erase_X10_isPerson rfl rfl rfl (by decide +kernel) ⟨Nat.le_of_ble_eq_true rfl, Nat.le_of_ble_eq_true rfl⟩) ⟨fb_T, fun U hU hW => ⟨rfl, trivial⟩⟩ rfl rfl hl.1 rfl (lv_room (Nat.le_of_ble_eq_true rfl)) dX10_erase_2 ⟨Nat.le_of_ble_eq_true rfl, Nat.le_of_ble_eq_true rfl⟩)) (fun r9 e9 => ?_)
  subst e9
  refine lv_if_eq (tgt := 15) hx hb dX10_erase_5 (by decide) (fun h5_1 => ?_) (fun h5_1 => ?_)
  · have he := (if_pos h5_1).symm.trans he
    refine lv_iconst (v := 1) hx hb dX10_erase_15 (by decide) ?_
    refine lv_goto (tgt := 20) hx hb dX10_erase_16 (by decide) ?_
    refine va_calli (va_runV (As := [.int 1]) (rest := []) ⟨hx, hb, hml, hown, hts⟩ (c_X10_says l dC dI q k st 1 hq _ rfl) (cwV 1 hts gX10_erase_X10_says rfl rfl rfl (by decide +kernel) ⟨Nat.le_of_ble_eq_true rfl, Nat.le_of_ble_eq_true rfl⟩) ⟨fb_M, va_recv hK.1 hP (ci := 10) (q0 := 0) rfl rfl, fun U hU hW => ⟨rfl, by rw [hU]; exact hP, hK.warm hW⟩⟩ rfl rfl hl.1 rfl (lv_room (Nat.le_of_ble_eq_true rfl)) dX10_erase_20 ⟨Nat.le_of_ble_eq_true rfl, Nat.le_of_ble_eq_true rfl⟩) hS (fun _ _ h => h) (fun _ h => h) (fun r9 u9 t9 H locs ht9 hv9 e9 hB9 hz9 hk9 hS => ?_)
    rw [ht9, says_2] at hB9
    replace e9 : r9 = 0 := e9.trans (saysV_1 _)
    subst e9
    have hP : va_P (dC, dI) vwCl (wM q k (sI st 10 1)) H := hB9
    refine lv_if_ne (tgt := 28) hx hb dX10_erase_23 (by decide) (fun h9 => absurd h9 (by decide)) (fun _ => ?_)
    refine lv_iconst (v := 0) hx hb dX10_erase_26 (by decide) ?_
    exact W.iret (v := 0) hx hb hr (fun t ht hW => ⟨⟨_, (), rfl, by show _ = Prod.fst _; rw [← he], by show va_P _ _ _ t.heap; rw [ht, ← he]; exact hP⟩, hS.F ht⟩) hS.2.2 dX10_erase_27
  · have he := (if_neg h5_1).symm.trans he
    refine lv_iload_n hx hb dX10_erase_8 rfl (lv_at hl 2 rfl) ?_
    refine vp_callSi (va_Run.run (va_runS (As := [.int a2]) (rest := [.ref (q 0)]) ⟨hx, hb, hml, hown, hts⟩ (c_X10_isMinute l a2 _ rfl) (va_cwS 1 hts gX10_erase_X10_isMinute rfl rfl rfl (by decide +kernel) ⟨Nat.le_of_ble_eq_true rfl, Nat.le_of_ble_eq_true rfl⟩) ⟨fb_T, fun U hU hW => ⟨rfl, trivial⟩⟩ rfl rfl hl.1 rfl (lv_room (Nat.le_of_ble_eq_true rfl)) dX10_erase_9 ⟨Nat.le_of_ble_eq_true rfl, Nat.le_of_ble_eq_true rfl⟩)) (fun r9 e9 => ?_)
    subst e9
    refine lv_if_ne (tgt := 19) hx hb dX10_erase_12 (by decide) (fun h12_2 => ?_) (fun h12_2 => ?_)
    · have he := (if_neg h12_2).symm.trans he
      refine lv_iconst (v := 0) hx hb dX10_erase_19 (by decide) ?_
      refine va_calli (va_runV (As := [.int 0]) (rest := []) ⟨hx, hb, hml, hown, hts⟩ (c_X10_says l dC dI q k st 0 hq _ rfl) (cwV 1 hts gX10_erase_X10_says rfl rfl rfl (by decide +kernel) ⟨Nat.le_of_ble_eq_true rfl, Nat.le_of_ble_eq_true rfl⟩) ⟨fb_M, va_recv hK.1 hP (ci := 10) (q0 := 0) rfl rfl, fun U hU hW => ⟨rfl, by rw [hU]; exact hP, hK.warm hW⟩⟩ rfl rfl hl.1 rfl (lv_room (Nat.le_of_ble_eq_true rfl)) dX10_erase_20 ⟨Nat.le_of_ble_eq_true rfl, Nat.le_of_ble_eq_true rfl⟩) hS (fun _ _ h => h) (fun _ h => h) (fun r9 u9 t9 H locs ht9 hv9 e9 hB9 hz9 hk9 hS => ?_)
      rw [ht9, says_2] at hB9
      replace e9 : r9 = 1 := e9.trans (saysV_0 _)
      subst e9
      have hP : va_P (dC, dI) vwCl (wM q k (sI st 10 0)) H := hB9
      refine lv_if_ne (tgt := 28) hx hb dX10_erase_23 (by decide) (fun _ => ?_) (fun h9 => absurd h9 (by decide))
      refine lv_aload_n hx hb dX10_erase_28 rfl (lv_at hl 0 rfl) ?_
      refine lv_iload_n hx hb dX10_erase_29 rfl (lv_at hl 1 rfl) ?_
      refine lv_iload_n hx hb dX10_erase_30 rfl (lv_at hl 2 rfl) ?_
      refine lv_sipush (v := 1440) hx hb dX10_erase_31 (by decide) ?_
      refine lv_idiv hx hb dX10_erase_34 (by decide) ?_
      refine va_calli (va_runV (As := [.int a1, .int (a2 / 1440)]) (rest := []) ⟨hx, hb, hml, hown, hts⟩ (c_X10_eraseOf l dC dI q k (sI st 10 0) a1 (a2 / 1440) hq (ob_X10_erase_35_3 st a1 a2 hok h5_1 h12_2) _ rfl) (cwV 2 hts gX10_erase_X10_eraseOf rfl rfl rfl (by decide +kernel) ⟨Nat.le_of_ble_eq_true rfl, Nat.le_of_ble_eq_true rfl⟩) ⟨fb_M, va_recv hK.1 hP (ci := 10) (q0 := 0) rfl rfl, fun U hU hW => ⟨rfl, by rw [hU]; exact hP, hK.warm hW⟩⟩ rfl rfl hl.1 rfl (lv_room (Nat.le_of_ble_eq_true rfl)) dX10_erase_35 ⟨Nat.le_of_ble_eq_true rfl, Nat.le_of_ble_eq_true rfl⟩) hS (fun _ _ h => h) (fun _ h => h) (fun r9 u9 t9 H locs ht9 hv9 e9 hB9 hz9 hk9 hS => ?_)
      rw [ht9] at hB9
      subst e9
      have hP : va_P (dC, dI) vwCl (wM q k ((sp_X10_eraseOf (sI st 10 0) a1 (a2 / 1440)).2)) H := hB9
      exact W.iret (v := (sp_X10_eraseOf (sI st 10 0) a1 (a2 / 1440)).1) hx hb hr (fun t ht hW => ⟨⟨_, (), rfl, by show _ = Prod.fst _; rw [← he], by show va_P _ _ _ t.heap; rw [ht, ← he]; exact hP⟩, hS.F ht⟩) hS.2.2 dX10_erase_38
    · have he := (if_pos h12_2).symm.trans he
      refine lv_iconst (v := 1) hx hb dX10_erase_15 (by decide) ?_
      refine lv_goto (tgt := 20) hx hb dX10_erase_16 (by decide) ?_
      refine va_calli (va_runV (As := [.int 1]) (rest := []) ⟨hx, hb, hml, hown, hts⟩ (c_X10_says l dC dI q k st 1 hq _ rfl) (cwV 1 hts gX10_erase_X10_says rfl rfl rfl (by decide +kernel) ⟨Nat.le_of_ble_eq_true rfl, Nat.le_of_ble_eq_true rfl⟩) ⟨fb_M, va_recv hK.1 hP (ci := 10) (q0 := 0) rfl rfl, fun U hU hW => ⟨rfl, by rw [hU]; exact hP, hK.warm hW⟩⟩ rfl rfl hl.1 rfl (lv_room (Nat.le_of_ble_eq_true rfl)) dX10_erase_20 ⟨Nat.le_of_ble_eq_true rfl, Nat.le_of_ble_eq_true rfl⟩) hS (fun _ _ h => h) (fun _ h => h) (fun r9 u9 t9 H locs ht9 hv9 e9 hB9 hz9 hk9 hS => ?_)
      rw [ht9, says_2] at hB9
      replace e9 : r9 = 0 := e9.trans (saysV_1 _)
      subst e9
      have hP : va_P (dC, dI) vwCl (wM q k (sI st 10 1)) H := hB9
      refine lv_if_ne (tgt := 28) hx hb dX10_erase_23 (by decide) (fun h9 => absurd h9 (by decide)) (fun _ => ?_)
      refine lv_iconst (v := 0) hx hb dX10_erase_26 (by decide) ?_
      exact W.iret (v := 0) hx hb hr (fun t ht hW => ⟨⟨_, (), rfl, by show _ = Prod.fst _; rw [← he], by show va_P _ _ _ t.heap; rw [ht, ← he]; exact hP⟩, hS.F ht⟩) hS.2.2 dX10_erase_27
set_option maxHeartbeats 4000000 in
set_option maxRecDepth 100000 in
theorem c_X10_sweep (l : Launch) (dC : Nat → ClassId) (dI : Nat → Nat → Nat) (q : Nat → Nat) (k : Nat → ClassId) (st : St) (a1 : Int32) (hq : ∀ i j, i < 35 → j < 35 → q i = q j → i = j) (hok : okM st) (res : Int32 × St) (hres : sp_X10_sweep st a1 = res) : Met l yX10_sweep wsX10_sweep ({ frames := 4, cells := 0, slots := 0, locals := 94 } : Room) (va_Pc [.ref (q 0), .int a1] (fun U => va_P (dC, dI) vwCl (wM q k st) U.heap ∧ KM (dC, dI) k U)) (va_Qi (fun r (_ : Unit) => r = res.1) (fun _ t => va_P (dC, dI) vwCl (wM q k res.2) t.heap) (aM q)) 0 0 (aM q) := by
  refine Met.ofW (cc := cX10_sweep) (maxL := 2) (ret := (some .int)) (by decide) rfl ?_
  intro p e s m args below meth c s₁ B hml hv
  obtain ⟨rfl, hP, hK⟩ := hv
  have hx := B.exec
  have hb := B.bytes
  have hr := B.returns
  have hts := atoms_spec (ws := wsX10_sweep) B.pre
  have hown : s.vm.findClass RX10 = some m.cls := findClass_of_methodNamed B.named
  have hlocks := B.notSynchronized
  have hS : va_S (aM q) s.heap s.heap [] := va_S.rf
  have hl := lv_entry ([.ref (q 0), .int a1]) (n := 2) (Nat.le_of_ble_eq_true rfl)
  rw [lg_entry_eq]
  generalize (lg_sl ([.ref (q 0), .int a1]) ++ List.replicate (2 - (lg_sl ([.ref (q 0), .int a1])).length) Slot.unset).toArray = ls at hl ⊢
  have hl : lv_has ls 2 [(0, .ref (q 0)), (1, .int a1)] := hl
  have he := hres
  unfold sp_X10_sweep at he
  refine lv_aload_n hx hb dX10_sweep_0 rfl (lv_at hl 0 rfl) ?_
  refine lv_iload_n hx hb dX10_sweep_1 rfl (lv_at hl 1 rfl) ?_
  refine lv_iconst (v := 0) hx hb dX10_sweep_2 (by decide) ?_
  refine lv_sipush (v := 6944) hx hb dX10_sweep_3 (by decide) ?_
  refine vp_callSi (va_Run.run (va_runS (As := [.int a1, .int 0, .int 6944]) (rest := [.ref (q 0)]) ⟨hx, hb, hml, hown, hts⟩ (c_X10_in l a1 0 6944 _ rfl) (va_cwS 3 hts gX10_sweep_X10_in rfl rfl rfl (by decide +kernel) ⟨Nat.le_of_ble_eq_true rfl, Nat.le_of_ble_eq_true rfl⟩) ⟨fb_T, fun U hU hW => ⟨rfl, trivial⟩⟩ rfl rfl hl.1 rfl (lv_room (Nat.le_of_ble_eq_true rfl)) dX10_sweep_6 ⟨Nat.le_of_ble_eq_true rfl, Nat.le_of_ble_eq_true rfl⟩)) (fun r9 e9 => ?_)
  subst e9
  refine lv_if_ne (tgt := 16) hx hb dX10_sweep_9 (by decide) (fun h9_1 => ?_) (fun h9_1 => ?_)
  · have he := (if_neg h9_1).symm.trans he
    refine lv_iconst (v := 0) hx hb dX10_sweep_16 (by decide) ?_
    refine va_calli (va_runV (As := [.int 0]) (rest := []) ⟨hx, hb, hml, hown, hts⟩ (c_X10_says l dC dI q k st 0 hq _ rfl) (cwV 1 hts gX10_sweep_X10_says rfl rfl rfl (by decide +kernel) ⟨Nat.le_of_ble_eq_true rfl, Nat.le_of_ble_eq_true rfl⟩) ⟨fb_M, va_recv hK.1 hP (ci := 10) (q0 := 0) rfl rfl, fun U hU hW => ⟨rfl, by rw [hU]; exact hP, hK.warm hW⟩⟩ rfl rfl hl.1 rfl (lv_room (Nat.le_of_ble_eq_true rfl)) dX10_sweep_17 ⟨Nat.le_of_ble_eq_true rfl, Nat.le_of_ble_eq_true rfl⟩) hS (fun _ _ h => h) (fun _ h => h) (fun r9 u9 t9 H locs ht9 hv9 e9 hB9 hz9 hk9 hS => ?_)
    rw [ht9, says_2] at hB9
    replace e9 : r9 = 1 := e9.trans (saysV_0 _)
    subst e9
    have hP : va_P (dC, dI) vwCl (wM q k (sI st 10 0)) H := hB9
    refine lv_if_ne (tgt := 25) hx hb dX10_sweep_20 (by decide) (fun _ => ?_) (fun h9 => absurd h9 (by decide))
    refine lv_aload_n hx hb dX10_sweep_25 rfl (lv_at hl 0 rfl) ?_
    refine lv_iconst (v := (-1)) hx hb dX10_sweep_26 (by decide) ?_
    refine lv_iload_n hx hb dX10_sweep_27 rfl (lv_at hl 1 rfl) ?_
    refine va_calli (va_runV (As := [.int (-1), .int a1]) (rest := []) ⟨hx, hb, hml, hown, hts⟩ (c_X10_eraseOf l dC dI q k (sI st 10 0) (-1) a1 hq (ob_X10_sweep_28_2 st a1 hok h9_1) _ rfl) (cwV 2 hts gX10_sweep_X10_eraseOf rfl rfl rfl (by decide +kernel) ⟨Nat.le_of_ble_eq_true rfl, Nat.le_of_ble_eq_true rfl⟩) ⟨fb_M, va_recv hK.1 hP (ci := 10) (q0 := 0) rfl rfl, fun U hU hW => ⟨rfl, by rw [hU]; exact hP, hK.warm hW⟩⟩ rfl rfl hl.1 rfl (lv_room (Nat.le_of_ble_eq_true rfl)) dX10_sweep_28 ⟨Nat.le_of_ble_eq_true rfl, Nat.le_of_ble_eq_true rfl⟩) hS (fun _ _ h => h) (fun _ h => h) (fun r9 u9 t9 H locs ht9 hv9 e9 hB9 hz9 hk9 hS => ?_)
    rw [ht9] at hB9
    subst e9
    have hP : va_P (dC, dI) vwCl (wM q k ((sp_X10_eraseOf (sI st 10 0) (-1) a1).2)) H := hB9
    exact W.iret (v := (sp_X10_eraseOf (sI st 10 0) (-1) a1).1) hx hb hr (fun t ht hW => ⟨⟨_, (), rfl, by show _ = Prod.fst _; rw [← he], by show va_P _ _ _ t.heap; rw [ht, ← he]; exact hP⟩, hS.F ht⟩) hS.2.2 dX10_sweep_31
  · have he := (if_pos h9_1).symm.trans he
    refine lv_iconst (v := 1) hx hb dX10_sweep_12 (by decide) ?_
    refine lv_goto (tgt := 17) hx hb dX10_sweep_13 (by decide) ?_
    refine va_calli (va_runV (As := [.int 1]) (rest := []) ⟨hx, hb, hml, hown, hts⟩ (c_X10_says l dC dI q k st 1 hq _ rfl) (cwV 1 hts gX10_sweep_X10_says rfl rfl rfl (by decide +kernel) ⟨Nat.le_of_ble_eq_true rfl, Nat.le_of_ble_eq_true rfl⟩) ⟨fb_M, va_recv hK.1 hP (ci := 10) (q0 := 0) rfl rfl, fun U hU hW => ⟨rfl, by rw [hU]; exact hP, hK.warm hW⟩⟩ rfl rfl hl.1 rfl (lv_room (Nat.le_of_ble_eq_true rfl)) dX10_sweep_17 ⟨Nat.le_of_ble_eq_true rfl, Nat.le_of_ble_eq_true rfl⟩) hS (fun _ _ h => h) (fun _ h => h) (fun r9 u9 t9 H locs ht9 hv9 e9 hB9 hz9 hk9 hS => ?_)
    rw [ht9, says_2] at hB9
    replace e9 : r9 = 0 := e9.trans (saysV_1 _)
    subst e9
    have hP : va_P (dC, dI) vwCl (wM q k (sI st 10 1)) H := hB9
    refine lv_if_ne (tgt := 25) hx hb dX10_sweep_20 (by decide) (fun h9 => absurd h9 (by decide)) (fun _ => ?_)
    refine lv_iconst (v := 0) hx hb dX10_sweep_23 (by decide) ?_
    exact W.iret (v := 0) hx hb hr (fun t ht hW => ⟨⟨_, (), rfl, by show _ = Prod.fst _; rw [← he], by show va_P _ _ _ t.heap; rw [ht, ← he]; exact hP⟩, hS.F ht⟩) hS.2.2 dX10_sweep_24
set_option maxHeartbeats 4000000 in
set_option maxRecDepth 100000 in
theorem c_X10_held (l : Launch) (dC : Nat → ClassId) (dI : Nat → Nat → Nat) (q : Nat → Nat) (k : Nat → ClassId) (st : St) (a1 : Int32) (a2 : Int32) (hq : ∀ i j, i < 35 → j < 35 → q i = q j → i = j) (hit : okIt st) (res : Int32 × St) (hres : sp_X10_held st a1 a2 = res) : Met l yX10_held wsX10_held ({ frames := 2, cells := 0, slots := 0, locals := 42 } : Room) (va_Pc [.ref (q 0), .int a1, .int a2] (fun U => va_P (dC, dI) vwCl (wM q k st) U.heap ∧ KM (dC, dI) k U)) (va_Qi (fun r (_ : Unit) => r = res.1) (fun _ t => va_P (dC, dI) vwCl (wM q k res.2) t.heap) (aM q)) 0 0 (aM q) := by
  refine Met.ofW (cc := cX10_held) (maxL := 5) (ret := (some .int)) (by decide) rfl ?_
  intro p e s m args below meth c s₁ B hml hv
  obtain ⟨rfl, hP, hK⟩ := hv
  have hx := B.exec
  have hb := B.bytes
  have hr := B.returns
  have hts := atoms_spec (ws := wsX10_held) B.pre
  have hown : s.vm.findClass RX10 = some m.cls := findClass_of_methodNamed B.named
  have hlocks := B.notSynchronized
  have hS : va_S (aM q) s.heap s.heap [] := va_S.rf
  have hi10 : ∀ w ∈ wsX100, w ∈ wsX10_held := by decide +kernel
  have hf63 := hts (.fieldLink RX10 63 "ConsentRegisterModel" "itemPersons" "[I") (by decide +kernel)
  have hf75 := hts (.fieldLink RX10 75 "ConsentRegisterModel" "lives" "[Z") (by decide +kernel)
  have hf121 := hts (.fieldLink RX10 121 "ConsentRegisterModel" "thrown" "I") (by decide +kernel)
  have hf157 := hts (.fieldLink RX10 157 "ConsentRegisterModel" "items" "I") (by decide +kernel)
  have hl := lv_entry ([.ref (q 0), .int a1, .int a2]) (n := 5) (Nat.le_of_ble_eq_true rfl)
  rw [lg_entry_eq]
  generalize (lg_sl ([.ref (q 0), .int a1, .int a2]) ++ List.replicate (5 - (lg_sl ([.ref (q 0), .int a1, .int a2])).length) Slot.unset).toArray = ls at hl ⊢
  have hl : lv_has ls 5 [(0, .ref (q 0)), (1, .int a1), (2, .int a2)] := hl
  have he := hres
  unfold sp_X10_held at he
  refine lv_aload_n hx hb dX10_held_0 rfl (lv_at hl 0 rfl) ?_
  refine lv_iconst (v := 0) hx hb dX10_held_1 (by decide) ?_
  refine va_put (D := (dC, dI)) (ci := 10) (v := .int 0) (ty := .int) (C := RX10) (T := TX10) (N := 45) hx hb hts hi10 tyX10 tyX10_ok nmX10 hown hK.1 hP (dM_of hq) hS 0 rfl rfl 0 (by decide) hf121 (fun _ h9 => h9) rfl (by decide +kernel) rfl rfl (Nat.le_of_ble_eq_true rfl) dX10_held_2 (fun H locs hP _ hS => ?_)
  have hP : va_P (dC, dI) vwCl (wM q k (sI st 10 0)) H := hP
  refine lv_iconst (v := 0) hx hb dX10_held_5 (by decide) ?_
  refine lv_istore_n (lv' := [(3, .int 0), (0, .ref (q 0)), (1, .int a1), (2, .int a2)]) hx hb dX10_held_6 rfl hl (by decide) rfl (fun ls hl => ?_)
  refine lv_iconst (v := 0) hx hb dX10_held_7 (by decide) ?_
  refine lv_istore (lv' := [(4, .int 0), (3, .int 0), (0, .ref (q 0)), (1, .int a1), (2, .int a2)]) hx hb dX10_held_8 hl (by decide) rfl (fun ls hl => ?_)
  have k_10 : ∀ (n_10 : Nat) (x4_10 : Int32) (x3_10 : Int32) (ls : Array Slot), 0 ≤ x4_10.toInt → x4_10.toInt ≤ (st.1 7).toInt → (st.1 7).toInt < x4_10.toInt + n_10 → lp_X10_held_10 st a1 a2 n_10 x4_10 x3_10 = res → lv_has ls 5 [(4, .int x4_10), (3, .int x3_10), (0, .ref (q 0)), (1, .int a1), (2, .int a2)] → W p l e (headSpec wsX10_held ({ frames := 2, cells := 0, slots := 0, locals := 42 } : Room)).room s m ([.ref (q 0), .int a1, .int a2] : List Value).toArray below meth c H locs 0 0 (MQ below (va_Qi (fun r (_ : Unit) => r = res.1) (fun _ t => va_P (dC, dI) vwCl (wM q k res.2) t.heap) (aM q)) ([.ref (q 0), .int a1, .int a2] : List Value).toArray s 0 0 (aM q)) (F0 m 10 ls []) := by
    intro n_10
    induction n_10 with
    | zero =>
      intro x4_10 x3_10 ls hi0_10 hi1_10 hi2_10
      exact (ob_X10_held_10_zero st a1 a2 x4_10 x3_10 hit hi0_10 hi1_10 hi2_10).elim
    | succ n_10 ih_10 =>
      intro x4_10 x3_10 ls hi0_10 hi1_10 hi2_10 he hl
      rw [lp_X10_held_10] at he
      refine lv_iload hx hb dX10_held_10 (lv_at hl 0 rfl) ?_
      refine lv_aload_n hx hb dX10_held_12 rfl (lv_at hl 2 rfl) ?_
      refine va_get (D := (dC, dI)) (ci := 10) (v := .int (st.1 7)) (C := RX10) (T := TX10) (N := 45) hx hb hts hi10 hown hK.1 hP 0 rfl rfl 19 (by decide) hf157 (fun _ h9 => h9) rfl dX10_held_13 ?_
      refine lv_icmp_ge (tgt := 70) hx hb dX10_held_16 (by decide) (fun h16_1 => ?_) (fun h16_1 => ?_)
      · have he := (if_pos h16_1).symm.trans he
        refine lv_iconst (v := (-1)) hx hb dX10_held_70 (by decide) ?_
        exact W.iret (v := (-1)) hx hb hr (fun t ht hW => ⟨⟨_, (), rfl, by show _ = Prod.fst _; rw [← he], by show va_P _ _ _ t.heap; rw [ht, ← he]; exact hP⟩, hS.F ht⟩) hS.2.2 dX10_held_71
      · have he := (if_neg h16_1).symm.trans he
        refine lv_iload_n hx hb dX10_held_19 rfl (lv_at hl 3 rfl) ?_
        refine vp_callSi (va_Run.run (va_runS (As := [.int a1]) (rest := []) ⟨hx, hb, hml, hown, hts⟩ (c_X10_isPerson l a1 _ rfl) (va_cwS 1 hts gX10_held_X10_isPerson rfl rfl rfl (by decide +kernel) ⟨Nat.le_of_ble_eq_true rfl, Nat.le_of_ble_eq_true rfl⟩) ⟨fb_T, fun U hU hW => ⟨rfl, trivial⟩⟩ rfl rfl hl.1 rfl (lv_room (Nat.le_of_ble_eq_true rfl)) dX10_held_20 ⟨Nat.le_of_ble_eq_true rfl, Nat.le_of_ble_eq_true rfl⟩)) (fun r9 e9 => ?_)
        subst e9
        refine lv_if_eq (tgt := 70) hx hb dX10_held_23 (by decide) (fun h23_2 => ?_) (fun h23_2 => ?_)
        · have he := (if_pos h23_2).symm.trans he
          refine lv_iconst (v := (-1)) hx hb dX10_held_70 (by decide) ?_
          exact W.iret (v := (-1)) hx hb hr (fun t ht hW => ⟨⟨_, (), rfl, by show _ = Prod.fst _; rw [← he], by show va_P _ _ _ t.heap; rw [ht, ← he]; exact hP⟩, hS.F ht⟩) hS.2.2 dX10_held_71
        · have he := (if_neg h23_2).symm.trans he
          refine lv_aload_n hx hb dX10_held_26 rfl (lv_at hl 2 rfl) ?_
          refine va_get (D := (dC, dI)) (ci := 10) (v := .ref (q 27)) (C := RX10) (T := TX10) (N := 45) hx hb hts hi10 hown hK.1 hP 0 rfl rfl 27 (by decide) hf75 (fun _ h9 => h9) rfl dX10_held_27 ?_
          refine lv_iload hx hb dX10_held_30 (lv_at hl 0 rfl) ?_
          refine va_zald hx hb hK.1 hP 27 26 (f := st.2.1 26) (n := 100) (cA := k 26) rfl rfl (i := x4_10) (ob_X10_held_32_3 st a1 a2 n_10 x4_10 x3_10 hit hi0_10 hi1_10 hi2_10 h16_1 h23_2) dX10_held_32 ?_
          refine lv_if_eq (tgt := 64) hx hb dX10_held_33 (by decide) (fun h33_4 => ?_) (fun h33_4 => ?_)
          · have he := (if_pos h33_4).symm.trans he
            refine lv_iinc (v := x4_10 + 1) (lv' := [(4, .int (x4_10 + 1)), (3, .int x3_10), (0, .ref (q 0)), (1, .int a1), (2, .int a2)]) hx hb dX10_held_64 hl (k := 0) rfl rfl (by decide) rfl (fun ls hl => ?_)
            refine lv_goto (tgt := 10) hx hb dX10_held_67 (by decide) ?_
            exact ih_10 (x4_10 + 1) x3_10 ls (ob_X10_held_10_inv0_5 st a1 a2 n_10 x4_10 x3_10 hit hi0_10 hi1_10 hi2_10 h16_1 h23_2 h33_4) (ob_X10_held_10_inv1_6 st a1 a2 n_10 x4_10 x3_10 hit hi0_10 hi1_10 hi2_10 h16_1 h23_2 h33_4) (ob_X10_held_10_inv2_7 st a1 a2 n_10 x4_10 x3_10 hit hi0_10 hi1_10 hi2_10 h16_1 h23_2 h33_4) he (lv_sub hl [0, 1, 2, 3, 4] rfl)
          · have he := (if_neg h33_4).symm.trans he
            refine lv_aload_n hx hb dX10_held_36 rfl (lv_at hl 2 rfl) ?_
            refine va_get (D := (dC, dI)) (ci := 10) (v := .ref (q 23)) (C := RX10) (T := TX10) (N := 45) hx hb hts hi10 hown hK.1 hP 0 rfl rfl 23 (by decide) hf63 (fun _ h9 => h9) rfl dX10_held_37 ?_
            refine lv_iload hx hb dX10_held_40 (lv_at hl 0 rfl) ?_
            refine va_iald hx hb hK.1 hP 23 22 (f := st.2.1 22) (n := 100) (cA := k 22) rfl rfl (i := x4_10) (ob_X10_held_42_8 st a1 a2 n_10 x4_10 x3_10 hit hi0_10 hi1_10 hi2_10 h16_1 h23_2 h33_4) dX10_held_42 ?_
            refine lv_iload_n hx hb dX10_held_43 rfl (lv_at hl 3 rfl) ?_
            refine lv_ishr hx hb dX10_held_44 ?_
            refine lv_iconst (v := 1) hx hb dX10_held_45 (by decide) ?_
            refine lv_iand hx hb dX10_held_46 ?_
            refine lv_if_ne (tgt := 53) hx hb dX10_held_47 (by decide) (fun h47_9 => ?_) (fun h47_9 => ?_)
            · have he := (if_neg h47_9).symm.trans he
              refine lv_iload_n hx hb dX10_held_53 rfl (lv_at hl 1 rfl) ?_
              refine lv_iload_n hx hb dX10_held_54 rfl (lv_at hl 4 rfl) ?_
              refine lv_icmp_ne (tgt := 61) hx hb dX10_held_55 (by decide) (fun h55_10 => ?_) (fun h55_10 => ?_)
              · have he := (if_neg h55_10).symm.trans he
                refine lv_iinc (v := x3_10 + 1) (lv' := [(3, .int (x3_10 + 1)), (4, .int x4_10), (0, .ref (q 0)), (1, .int a1), (2, .int a2)]) hx hb dX10_held_61 hl (k := 1) rfl rfl (by decide) rfl (fun ls hl => ?_)
                refine lv_iinc (v := x4_10 + 1) (lv' := [(4, .int (x4_10 + 1)), (3, .int (x3_10 + 1)), (0, .ref (q 0)), (1, .int a1), (2, .int a2)]) hx hb dX10_held_64 hl (k := 1) rfl rfl (by decide) rfl (fun ls hl => ?_)
                refine lv_goto (tgt := 10) hx hb dX10_held_67 (by decide) ?_
                exact ih_10 (x4_10 + 1) (x3_10 + 1) ls (ob_X10_held_10_inv0_11 st a1 a2 n_10 x4_10 x3_10 hit hi0_10 hi1_10 hi2_10 h16_1 h23_2 h33_4 h47_9 h55_10) (ob_X10_held_10_inv1_12 st a1 a2 n_10 x4_10 x3_10 hit hi0_10 hi1_10 hi2_10 h16_1 h23_2 h33_4 h47_9 h55_10) (ob_X10_held_10_inv2_13 st a1 a2 n_10 x4_10 x3_10 hit hi0_10 hi1_10 hi2_10 h16_1 h23_2 h33_4 h47_9 h55_10) he (lv_sub hl [0, 1, 2, 3, 4] rfl)
              · have he := (if_pos h55_10).symm.trans he
                refine lv_iload hx hb dX10_held_58 (lv_at hl 0 rfl) ?_
                exact W.iret (v := x4_10) hx hb hr (fun t ht hW => ⟨⟨_, (), rfl, by show _ = Prod.fst _; rw [← he], by show va_P _ _ _ t.heap; rw [ht, ← he]; exact hP⟩, hS.F ht⟩) hS.2.2 dX10_held_60
            · have he := (if_pos h47_9).symm.trans he
              refine lv_goto (tgt := 64) hx hb dX10_held_50 (by decide) ?_
              refine lv_iinc (v := x4_10 + 1) (lv' := [(4, .int (x4_10 + 1)), (3, .int x3_10), (0, .ref (q 0)), (1, .int a1), (2, .int a2)]) hx hb dX10_held_64 hl (k := 0) rfl rfl (by decide) rfl (fun ls hl => ?_)
              refine lv_goto (tgt := 10) hx hb dX10_held_67 (by decide) ?_
              exact ih_10 (x4_10 + 1) x3_10 ls (ob_X10_held_10_inv0_14 st a1 a2 n_10 x4_10 x3_10 hit hi0_10 hi1_10 hi2_10 h16_1 h23_2 h33_4 h47_9) (ob_X10_held_10_inv1_15 st a1 a2 n_10 x4_10 x3_10 hit hi0_10 hi1_10 hi2_10 h16_1 h23_2 h33_4 h47_9) (ob_X10_held_10_inv2_16 st a1 a2 n_10 x4_10 x3_10 hit hi0_10 hi1_10 hi2_10 h16_1 h23_2 h33_4 h47_9) he (lv_sub hl [0, 1, 2, 3, 4] rfl)
  exact k_10 ((st.1 7).toInt.toNat + 1) 0 0 ls (ob_X10_held_10_inv0_17 st a1 a2 hit) (ob_X10_held_10_inv1_18 st a1 a2 hit) (ob_X10_held_10_inv2_19 st a1 a2 hit) he (lv_sub hl [0, 1, 2, 3, 4] rfl)
set_option maxHeartbeats 4000000 in
set_option maxRecDepth 100000 in
theorem c_X10_logged (l : Launch) (dC : Nat → ClassId) (dI : Nat → Nat → Nat) (q : Nat → Nat) (k : Nat → ClassId) (st : St) (a1 : Int32) (a2 : Int32) (hq : ∀ i j, i < 35 → j < 35 → q i = q j → i = j) (hok : okM st) (res : Int32 × St) (hres : sp_X10_logged st a1 a2 = res) : Met l yX10_logged wsX10_logged ({ frames := 1, cells := 0, slots := 0, locals := 22 } : Room) (va_Pc [.ref (q 0), .int a1, .int a2] (fun U => va_P (dC, dI) vwCl (wM q k st) U.heap ∧ KM (dC, dI) k U)) (va_Qi (fun r (_ : Unit) => r = res.1) (fun _ t => va_P (dC, dI) vwCl (wM q k res.2) t.heap) (aM q)) 0 0 (aM q) := by
  refine Met.ofW (cc := cX10_logged) (maxL := 3) (ret := (some .int)) (by decide) rfl ?_
  intro p e s m args below meth c s₁ B hml hv
  obtain ⟨rfl, hP, hK⟩ := hv
  have hx := B.exec
  have hb := B.bytes
  have hr := B.returns
  have hts := atoms_spec (ws := wsX10_logged) B.pre
  have hown : s.vm.findClass RX10 = some m.cls := findClass_of_methodNamed B.named
  have hlocks := B.notSynchronized
  have hS : va_S (aM q) s.heap s.heap [] := va_S.rf
  have hi10 : ∀ w ∈ wsX100, w ∈ wsX10_logged := by decide +kernel
  have hf106 := hts (.fieldLink RX10 106 "ConsentRegisterModel" "useItem" "[I") (by decide +kernel)
  have hf109 := hts (.fieldLink RX10 109 "ConsentRegisterModel" "usePurpose" "[I") (by decide +kernel)
  have hf112 := hts (.fieldLink RX10 112 "ConsentRegisterModel" "useMinute" "[I") (by decide +kernel)
  have hf115 := hts (.fieldLink RX10 115 "ConsentRegisterModel" "useGround" "[I") (by decide +kernel)
  have hf121 := hts (.fieldLink RX10 121 "ConsentRegisterModel" "thrown" "I") (by decide +kernel)
  have hf202 := hts (.fieldLink RX10 202 "ConsentRegisterModel" "uses" "I") (by decide +kernel)
  have hl := lv_entry ([.ref (q 0), .int a1, .int a2]) (n := 3) (Nat.le_of_ble_eq_true rfl)
  rw [lg_entry_eq]
  generalize (lg_sl ([.ref (q 0), .int a1, .int a2]) ++ List.replicate (3 - (lg_sl ([.ref (q 0), .int a1, .int a2])).length) Slot.unset).toArray = ls at hl ⊢
  have hl : lv_has ls 3 [(0, .ref (q 0)), (1, .int a1), (2, .int a2)] := hl
  have he := hres
  unfold sp_X10_logged at he
  refine lv_aload_n hx hb dX10_logged_0 rfl (lv_at hl 0 rfl) ?_
  refine lv_iconst (v := 0) hx hb dX10_logged_1 (by decide) ?_
  refine va_put (D := (dC, dI)) (ci := 10) (v := .int 0) (ty := .int) (C := RX10) (T := TX10) (N := 45) hx hb hts hi10 tyX10 tyX10_ok nmX10 hown hK.1 hP (dM_of hq) hS 0 rfl rfl 0 (by decide) hf121 (fun _ h9 => h9) rfl (by decide +kernel) rfl rfl (Nat.le_of_ble_eq_true rfl) dX10_logged_2 (fun H locs hP _ hS => ?_)
  have hP : va_P (dC, dI) vwCl (wM q k (sI st 10 0)) H := hP
  refine lv_iload_n hx hb dX10_logged_5 rfl (lv_at hl 1 rfl) ?_
  refine lv_iconst (v := 0) hx hb dX10_logged_6 (by decide) ?_
  refine lv_aload_n hx hb dX10_logged_7 rfl (lv_at hl 0 rfl) ?_
  refine va_get (D := (dC, dI)) (ci := 10) (v := .int (st.1 8)) (C := RX10) (T := TX10) (N := 45) hx hb hts hi10 hown hK.1 hP 0 rfl rfl 39 (by decide) hf202 (fun _ h9 => h9) rfl dX10_logged_8 ?_
  refine lv_iconst (v := 1) hx hb dX10_logged_11 (by decide) ?_
  refine lv_isub hx hb dX10_logged_12 ?_
  refine vp_callSi (va_Run.run (va_runS (As := [.int a1, .int 0, .int ((st.1 8) - 1)]) (rest := []) ⟨hx, hb, hml, hown, hts⟩ (c_X10_in l a1 0 ((st.1 8) - 1) _ rfl) (va_cwS 3 hts gX10_logged_X10_in rfl rfl rfl (by decide +kernel) ⟨Nat.le_of_ble_eq_true rfl, Nat.le_of_ble_eq_true rfl⟩) ⟨fb_T, fun U hU hW => ⟨rfl, trivial⟩⟩ rfl rfl hl.1 rfl (lv_room (Nat.le_of_ble_eq_true rfl)) dX10_logged_13 ⟨Nat.le_of_ble_eq_true rfl, Nat.le_of_ble_eq_true rfl⟩)) (fun r9 e9 => ?_)
  subst e9
  refine lv_if_ne (tgt := 21) hx hb dX10_logged_16 (by decide) (fun h16_1 => ?_) (fun h16_1 => ?_)
  · have he := (if_neg h16_1).symm.trans he
    refine lv_iload_n hx hb dX10_logged_21 rfl (lv_at hl 2 rfl) ?_
    by_cases h22_2 : a2 = 0
    · have he := (if_pos h22_2).symm.trans he
      refine lv_tableIn (off := 30) (tgt := 52) hx hb dX10_logged_22 (by rw [h22_2]; decide) (by rw [h22_2]; decide) (by rw [h22_2]; rfl) (by decide) ?_
      refine lv_aload_n hx hb dX10_logged_52 rfl (lv_at hl 0 rfl) ?_
      refine va_get (D := (dC, dI)) (ci := 10) (v := .ref (q 30)) (C := RX10) (T := TX10) (N := 45) hx hb hts hi10 hown hK.1 hP 0 rfl rfl 40 (by decide) hf106 (fun _ h9 => h9) rfl dX10_logged_53 ?_
      refine lv_iload_n hx hb dX10_logged_56 rfl (lv_at hl 1 rfl) ?_
      refine va_iald hx hb hK.1 hP 30 29 (f := st.2.1 29) (n := 200) (cA := k 29) rfl rfl (i := a1) (ob_X10_logged_57_3 st a1 a2 hok h16_1 h22_2) dX10_logged_57 ?_
      exact W.iret (v := st.2.1 29 a1.toNatClampNeg) hx hb hr (fun t ht hW => ⟨⟨_, (), rfl, by show _ = Prod.fst _; rw [← he], by show va_P _ _ _ t.heap; rw [ht, ← he]; exact hP⟩, hS.F ht⟩) hS.2.2 dX10_logged_58
    have he := (if_neg h22_2).symm.trans he
    by_cases h22_4 : a2 = 1
    · have he := (if_pos h22_4).symm.trans he
      refine lv_tableIn (off := 37) (tgt := 59) hx hb dX10_logged_22 (by rw [h22_4]; decide) (by rw [h22_4]; decide) (by rw [h22_4]; rfl) (by decide) ?_
      refine lv_aload_n hx hb dX10_logged_59 rfl (lv_at hl 0 rfl) ?_
      refine va_get (D := (dC, dI)) (ci := 10) (v := .ref (q 31)) (C := RX10) (T := TX10) (N := 45) hx hb hts hi10 hown hK.1 hP 0 rfl rfl 41 (by decide) hf109 (fun _ h9 => h9) rfl dX10_logged_60 ?_
      refine lv_iload_n hx hb dX10_logged_63 rfl (lv_at hl 1 rfl) ?_
      refine va_iald hx hb hK.1 hP 31 30 (f := st.2.1 30) (n := 200) (cA := k 30) rfl rfl (i := a1) (ob_X10_logged_64_5 st a1 a2 hok h16_1 h22_2 h22_4) dX10_logged_64 ?_
      exact W.iret (v := st.2.1 30 a1.toNatClampNeg) hx hb hr (fun t ht hW => ⟨⟨_, (), rfl, by show _ = Prod.fst _; rw [← he], by show va_P _ _ _ t.heap; rw [ht, ← he]; exact hP⟩, hS.F ht⟩) hS.2.2 dX10_logged_65
    have he := (if_neg h22_4).symm.trans he
    by_cases h22_6 : a2 = 2
    · have he := (if_pos h22_6).symm.trans he
      refine lv_tableIn (off := 44) (tgt := 66) hx hb dX10_logged_22 (by rw [h22_6]; decide) (by rw [h22_6]; decide) (by rw [h22_6]; rfl) (by decide) ?_
      refine lv_aload_n hx hb dX10_logged_66 rfl (lv_at hl 0 rfl) ?_
      refine va_get (D := (dC, dI)) (ci := 10) (v := .ref (q 32)) (C := RX10) (T := TX10) (N := 45) hx hb hts hi10 hown hK.1 hP 0 rfl rfl 42 (by decide) hf112 (fun _ h9 => h9) rfl dX10_logged_67 ?_
      refine lv_iload_n hx hb dX10_logged_70 rfl (lv_at hl 1 rfl) ?_
      refine va_iald hx hb hK.1 hP 32 31 (f := st.2.1 31) (n := 200) (cA := k 31) rfl rfl (i := a1) (ob_X10_logged_71_7 st a1 a2 hok h16_1 h22_2 h22_4 h22_6) dX10_logged_71 ?_
      exact W.iret (v := st.2.1 31 a1.toNatClampNeg) hx hb hr (fun t ht hW => ⟨⟨_, (), rfl, by show _ = Prod.fst _; rw [← he], by show va_P _ _ _ t.heap; rw [ht, ← he]; exact hP⟩, hS.F ht⟩) hS.2.2 dX10_logged_72
    have he := (if_neg h22_6).symm.trans he
    by_cases h22_8 : a2 = 3
    · have he := (if_pos h22_8).symm.trans he
      refine lv_tableIn (off := 51) (tgt := 73) hx hb dX10_logged_22 (by rw [h22_8]; decide) (by rw [h22_8]; decide) (by rw [h22_8]; rfl) (by decide) ?_
      refine lv_aload_n hx hb dX10_logged_73 rfl (lv_at hl 0 rfl) ?_
      refine va_get (D := (dC, dI)) (ci := 10) (v := .ref (q 33)) (C := RX10) (T := TX10) (N := 45) hx hb hts hi10 hown hK.1 hP 0 rfl rfl 43 (by decide) hf115 (fun _ h9 => h9) rfl dX10_logged_74 ?_
      refine lv_iload_n hx hb dX10_logged_77 rfl (lv_at hl 1 rfl) ?_
      refine va_iald hx hb hK.1 hP 33 32 (f := st.2.1 32) (n := 200) (cA := k 32) rfl rfl (i := a1) (ob_X10_logged_78_9 st a1 a2 hok h16_1 h22_2 h22_4 h22_6 h22_8) dX10_logged_78 ?_
      exact W.iret (v := st.2.1 32 a1.toNatClampNeg) hx hb hr (fun t ht hW => ⟨⟨_, (), rfl, by show _ = Prod.fst _; rw [← he], by show va_P _ _ _ t.heap; rw [ht, ← he]; exact hP⟩, hS.F ht⟩) hS.2.2 dX10_logged_79
    have he := (if_neg h22_8).symm.trans he
    refine lv_tableOut (tgt := 80) hx hb dX10_logged_22 (by have z0 := lv_neT (a := 0) h22_2 rfl; have z1 := lv_neT (a := 1) h22_4 rfl; have z2 := lv_neT (a := 2) h22_6 rfl; have z3 := lv_neT (a := 3) h22_8 rfl; omega) (by decide) ?_
    refine lv_iconst (v := (-1)) hx hb dX10_logged_80 (by decide) ?_
    exact W.iret (v := (-1)) hx hb hr (fun t ht hW => ⟨⟨_, (), rfl, by show _ = Prod.fst _; rw [← he], by show va_P _ _ _ t.heap; rw [ht, ← he]; exact hP⟩, hS.F ht⟩) hS.2.2 dX10_logged_81
  · have he := (if_pos h16_1).symm.trans he
    refine lv_iconst (v := (-1)) hx hb dX10_logged_19 (by decide) ?_
    exact W.iret (v := (-1)) hx hb hr (fun t ht hW => ⟨⟨_, (), rfl, by show _ = Prod.fst _; rw [← he], by show va_P _ _ _ t.heap; rw [ht, ← he]; exact hP⟩, hS.F ht⟩) hS.2.2 dX10_logged_20
set_option maxHeartbeats 4000000 in
set_option maxRecDepth 100000 in
theorem c_X10_derivedFrom (l : Launch) (dC : Nat → ClassId) (dI : Nat → Nat → Nat) (q : Nat → Nat) (k : Nat → ClassId) (st : St) (a1 : Int32) (hit : okIt st) (res : Int32) (hres : sp_X10_derivedFrom st a1 = res) : Met l yX10_derivedFrom wsX10_derivedFrom ({ frames := 0, cells := 0, slots := 0, locals := 0 } : Room) (va_Pc [.ref (q 0), .int a1] (fun U => va_P (dC, dI) vwCl (wM q k st) U.heap ∧ KM (dC, dI) k U)) (vp_Si (fun r => r = res)) 0 0 (fun _ => False) := by
  refine Met.ofW (cc := cX10_derivedFrom) (maxL := 4) (ret := (some .int)) (by decide) rfl ?_
  intro p e s m args below meth c s₁ B hml hv
  obtain ⟨rfl, hP, hK⟩ := hv
  have hx := B.exec
  have hb := B.bytes
  have hr := B.returns
  have hts := atoms_spec (ws := wsX10_derivedFrom) B.pre
  have hown : s.vm.findClass RX10 = some m.cls := findClass_of_methodNamed B.named
  have hlocks := B.notSynchronized
  have hi10 : ∀ w ∈ wsX100, w ∈ wsX10_derivedFrom := by decide +kernel
  have hf54 := hts (.fieldLink RX10 54 "ConsentRegisterModel" "hows" "[I") (by decide +kernel)
  have hf66 := hts (.fieldLink RX10 66 "ConsentRegisterModel" "firstInput" "[I") (by decide +kernel)
  have hf69 := hts (.fieldLink RX10 69 "ConsentRegisterModel" "secondInput" "[I") (by decide +kernel)
  have hf75 := hts (.fieldLink RX10 75 "ConsentRegisterModel" "lives" "[Z") (by decide +kernel)
  have hf157 := hts (.fieldLink RX10 157 "ConsentRegisterModel" "items" "I") (by decide +kernel)
  have hl := lv_entry ([.ref (q 0), .int a1]) (n := 4) (Nat.le_of_ble_eq_true rfl)
  rw [lg_entry_eq]
  generalize (lg_sl ([.ref (q 0), .int a1]) ++ List.replicate (4 - (lg_sl ([.ref (q 0), .int a1])).length) Slot.unset).toArray = ls at hl ⊢
  have hl : lv_has ls 4 [(0, .ref (q 0)), (1, .int a1)] := hl
  have he := hres
  unfold sp_X10_derivedFrom at he
  refine lv_iconst (v := 0) hx hb dX10_derivedFrom_0 (by decide) ?_
  refine lv_istore_n (lv' := [(2, .int 0), (0, .ref (q 0)), (1, .int a1)]) hx hb dX10_derivedFrom_1 rfl hl (by decide) rfl (fun ls hl => ?_)
  refine lv_iconst (v := 0) hx hb dX10_derivedFrom_2 (by decide) ?_
  refine lv_istore_n (lv' := [(3, .int 0), (2, .int 0), (0, .ref (q 0)), (1, .int a1)]) hx hb dX10_derivedFrom_3 rfl hl (by decide) rfl (fun ls hl => ?_)
  have k_4 : ∀ (n_4 : Nat) (x3_4 : Int32) (x2_4 : Int32) (ls : Array Slot), 0 ≤ x3_4.toInt → x3_4.toInt ≤ (st.1 7).toInt → (st.1 7).toInt < x3_4.toInt + n_4 → lp_X10_derivedFrom_4 st a1 n_4 x3_4 x2_4 = res → lv_has ls 4 [(3, .int x3_4), (2, .int x2_4), (0, .ref (q 0)), (1, .int a1)] → W p l e (headSpec wsX10_derivedFrom ({ frames := 0, cells := 0, slots := 0, locals := 0 } : Room)).room s m ([.ref (q 0), .int a1] : List Value).toArray below meth c s.heap [] 0 0 (MQ below (vp_Si (fun r => r = res)) ([.ref (q 0), .int a1] : List Value).toArray s 0 0 (fun _ => False)) (F0 m 4 ls []) := by
    intro n_4
    induction n_4 with
    | zero =>
      intro x3_4 x2_4 ls hi0_4 hi1_4 hi2_4
      exact (ob_X10_derivedFrom_4_zero st a1 x3_4 x2_4 hit hi0_4 hi1_4 hi2_4).elim
    | succ n_4 ih_4 =>
      intro x3_4 x2_4 ls hi0_4 hi1_4 hi2_4 he hl
      rw [lp_X10_derivedFrom_4] at he
      refine lv_iload_n hx hb dX10_derivedFrom_4 rfl (lv_at hl 0 rfl) ?_
      refine lv_aload_n hx hb dX10_derivedFrom_5 rfl (lv_at hl 2 rfl) ?_
      refine va_get (D := (dC, dI)) (ci := 10) (v := .int (st.1 7)) (C := RX10) (T := TX10) (N := 45) hx hb hts hi10 hown hK.1 hP 0 rfl rfl 19 (by decide) hf157 (fun _ h9 => h9) rfl dX10_derivedFrom_6 ?_
      refine lv_icmp_ge (tgt := 65) hx hb dX10_derivedFrom_9 (by decide) (fun h9_1 => ?_) (fun h9_1 => ?_)
      · have he := (if_pos h9_1).symm.trans he
        refine lv_iload_n hx hb dX10_derivedFrom_65 rfl (lv_at hl 1 rfl) ?_
        exact W.iret (v := x2_4) hx hb hr (fun t ht hW => ⟨_, rfl, he, ht⟩) (fun _ h => nomatch h) dX10_derivedFrom_66
      · have he := (if_neg h9_1).symm.trans he
        refine lv_iload_n hx hb dX10_derivedFrom_12 rfl (lv_at hl 1 rfl) ?_
        refine lv_aload_n hx hb dX10_derivedFrom_13 rfl (lv_at hl 2 rfl) ?_
        refine va_get (D := (dC, dI)) (ci := 10) (v := .ref (q 27)) (C := RX10) (T := TX10) (N := 45) hx hb hts hi10 hown hK.1 hP 0 rfl rfl 27 (by decide) hf75 (fun _ h9 => h9) rfl dX10_derivedFrom_14 ?_
        refine lv_iload_n hx hb dX10_derivedFrom_17 rfl (lv_at hl 0 rfl) ?_
        refine va_zald hx hb hK.1 hP 27 26 (f := st.2.1 26) (n := 100) (cA := k 26) rfl rfl (i := x3_4) (ob_X10_derivedFrom_18_2 st a1 n_4 x3_4 x2_4 hit hi0_4 hi1_4 hi2_4 h9_1) dX10_derivedFrom_18 ?_
        refine lv_if_eq (tgt := 56) hx hb dX10_derivedFrom_19 (by decide) (fun h19_3 => ?_) (fun h19_3 => ?_)
        · have he := (if_pos h19_3).symm.trans he
          refine lv_iconst (v := 0) hx hb dX10_derivedFrom_56 (by decide) ?_
          refine lv_iadd hx hb dX10_derivedFrom_57 ?_
          refine lv_istore_n (lv' := [(2, .int (x2_4 + 0)), (3, .int x3_4), (0, .ref (q 0)), (1, .int a1)]) hx hb dX10_derivedFrom_58 rfl hl (by decide) rfl (fun ls hl => ?_)
          refine lv_iinc (v := x3_4 + 1) (lv' := [(3, .int (x3_4 + 1)), (2, .int (x2_4 + 0)), (0, .ref (q 0)), (1, .int a1)]) hx hb dX10_derivedFrom_59 hl (k := 1) rfl rfl (by decide) rfl (fun ls hl => ?_)
          refine lv_goto (tgt := 4) hx hb dX10_derivedFrom_62 (by decide) ?_
          exact ih_4 (x3_4 + 1) (x2_4 + 0) ls (ob_X10_derivedFrom_4_inv0_4 st a1 n_4 x3_4 x2_4 hit hi0_4 hi1_4 hi2_4 h9_1 h19_3) (ob_X10_derivedFrom_4_inv1_5 st a1 n_4 x3_4 x2_4 hit hi0_4 hi1_4 hi2_4 h9_1 h19_3) (ob_X10_derivedFrom_4_inv2_6 st a1 n_4 x3_4 x2_4 hit hi0_4 hi1_4 hi2_4 h9_1 h19_3) he (lv_sub hl [0, 1, 2, 3] rfl)
        · have he := (if_neg h19_3).symm.trans he
          refine lv_aload_n hx hb dX10_derivedFrom_22 rfl (lv_at hl 2 rfl) ?_
          refine va_get (D := (dC, dI)) (ci := 10) (v := .ref (q 24)) (C := RX10) (T := TX10) (N := 45) hx hb hts hi10 hown hK.1 hP 0 rfl rfl 20 (by decide) hf54 (fun _ h9 => h9) rfl dX10_derivedFrom_23 ?_
          refine lv_iload_n hx hb dX10_derivedFrom_26 rfl (lv_at hl 0 rfl) ?_
          refine va_iald hx hb hK.1 hP 24 23 (f := st.2.1 23) (n := 100) (cA := k 23) rfl rfl (i := x3_4) (ob_X10_derivedFrom_27_7 st a1 n_4 x3_4 x2_4 hit hi0_4 hi1_4 hi2_4 h9_1 h19_3) dX10_derivedFrom_27 ?_
          refine lv_iconst (v := (-1)) hx hb dX10_derivedFrom_28 (by decide) ?_
          refine lv_icmp_eq (tgt := 56) hx hb dX10_derivedFrom_29 (by decide) (fun h29_8 => ?_) (fun h29_8 => ?_)
          · have he := (if_pos h29_8).symm.trans he
            refine lv_iconst (v := 0) hx hb dX10_derivedFrom_56 (by decide) ?_
            refine lv_iadd hx hb dX10_derivedFrom_57 ?_
            refine lv_istore_n (lv' := [(2, .int (x2_4 + 0)), (3, .int x3_4), (0, .ref (q 0)), (1, .int a1)]) hx hb dX10_derivedFrom_58 rfl hl (by decide) rfl (fun ls hl => ?_)
            refine lv_iinc (v := x3_4 + 1) (lv' := [(3, .int (x3_4 + 1)), (2, .int (x2_4 + 0)), (0, .ref (q 0)), (1, .int a1)]) hx hb dX10_derivedFrom_59 hl (k := 1) rfl rfl (by decide) rfl (fun ls hl => ?_)
            refine lv_goto (tgt := 4) hx hb dX10_derivedFrom_62 (by decide) ?_
            exact ih_4 (x3_4 + 1) (x2_4 + 0) ls (ob_X10_derivedFrom_4_inv0_9 st a1 n_4 x3_4 x2_4 hit hi0_4 hi1_4 hi2_4 h9_1 h19_3 h29_8) (ob_X10_derivedFrom_4_inv1_10 st a1 n_4 x3_4 x2_4 hit hi0_4 hi1_4 hi2_4 h9_1 h19_3 h29_8) (ob_X10_derivedFrom_4_inv2_11 st a1 n_4 x3_4 x2_4 hit hi0_4 hi1_4 hi2_4 h9_1 h19_3 h29_8) he (lv_sub hl [0, 1, 2, 3] rfl)
          · have he := (if_neg h29_8).symm.trans he
            refine lv_aload_n hx hb dX10_derivedFrom_32 rfl (lv_at hl 2 rfl) ?_
            refine va_get (D := (dC, dI)) (ci := 10) (v := .ref (q 25)) (C := RX10) (T := TX10) (N := 45) hx hb hts hi10 hown hK.1 hP 0 rfl rfl 24 (by decide) hf66 (fun _ h9 => h9) rfl dX10_derivedFrom_33 ?_
            refine lv_iload_n hx hb dX10_derivedFrom_36 rfl (lv_at hl 0 rfl) ?_
            refine va_iald hx hb hK.1 hP 25 24 (f := st.2.1 24) (n := 100) (cA := k 24) rfl rfl (i := x3_4) (ob_X10_derivedFrom_37_12 st a1 n_4 x3_4 x2_4 hit hi0_4 hi1_4 hi2_4 h9_1 h19_3 h29_8) dX10_derivedFrom_37 ?_
            refine lv_iload_n hx hb dX10_derivedFrom_38 rfl (lv_at hl 3 rfl) ?_
            refine lv_icmp_eq (tgt := 52) hx hb dX10_derivedFrom_39 (by decide) (fun h39_13 => ?_) (fun h39_13 => ?_)
            · have he := (if_pos h39_13).symm.trans he
              refine lv_iconst (v := 1) hx hb dX10_derivedFrom_52 (by decide) ?_
              refine lv_goto (tgt := 57) hx hb dX10_derivedFrom_53 (by decide) ?_
              refine lv_iadd hx hb dX10_derivedFrom_57 ?_
              refine lv_istore_n (lv' := [(2, .int (x2_4 + 1)), (3, .int x3_4), (0, .ref (q 0)), (1, .int a1)]) hx hb dX10_derivedFrom_58 rfl hl (by decide) rfl (fun ls hl => ?_)
              refine lv_iinc (v := x3_4 + 1) (lv' := [(3, .int (x3_4 + 1)), (2, .int (x2_4 + 1)), (0, .ref (q 0)), (1, .int a1)]) hx hb dX10_derivedFrom_59 hl (k := 1) rfl rfl (by decide) rfl (fun ls hl => ?_)
              refine lv_goto (tgt := 4) hx hb dX10_derivedFrom_62 (by decide) ?_
              exact ih_4 (x3_4 + 1) (x2_4 + 1) ls (ob_X10_derivedFrom_4_inv0_14 st a1 n_4 x3_4 x2_4 hit hi0_4 hi1_4 hi2_4 h9_1 h19_3 h29_8 h39_13) (ob_X10_derivedFrom_4_inv1_15 st a1 n_4 x3_4 x2_4 hit hi0_4 hi1_4 hi2_4 h9_1 h19_3 h29_8 h39_13) (ob_X10_derivedFrom_4_inv2_16 st a1 n_4 x3_4 x2_4 hit hi0_4 hi1_4 hi2_4 h9_1 h19_3 h29_8 h39_13) he (lv_sub hl [0, 1, 2, 3] rfl)
            · have he := (if_neg h39_13).symm.trans he
              refine lv_aload_n hx hb dX10_derivedFrom_42 rfl (lv_at hl 2 rfl) ?_
              refine va_get (D := (dC, dI)) (ci := 10) (v := .ref (q 26)) (C := RX10) (T := TX10) (N := 45) hx hb hts hi10 hown hK.1 hP 0 rfl rfl 25 (by decide) hf69 (fun _ h9 => h9) rfl dX10_derivedFrom_43 ?_
              refine lv_iload_n hx hb dX10_derivedFrom_46 rfl (lv_at hl 0 rfl) ?_
              refine va_iald hx hb hK.1 hP 26 25 (f := st.2.1 25) (n := 100) (cA := k 25) rfl rfl (i := x3_4) (ob_X10_derivedFrom_47_17 st a1 n_4 x3_4 x2_4 hit hi0_4 hi1_4 hi2_4 h9_1 h19_3 h29_8 h39_13) dX10_derivedFrom_47 ?_
              refine lv_iload_n hx hb dX10_derivedFrom_48 rfl (lv_at hl 3 rfl) ?_
              refine lv_icmp_ne (tgt := 56) hx hb dX10_derivedFrom_49 (by decide) (fun h49_18 => ?_) (fun h49_18 => ?_)
              · have he := (if_neg h49_18).symm.trans he
                refine lv_iconst (v := 0) hx hb dX10_derivedFrom_56 (by decide) ?_
                refine lv_iadd hx hb dX10_derivedFrom_57 ?_
                refine lv_istore_n (lv' := [(2, .int (x2_4 + 0)), (3, .int x3_4), (0, .ref (q 0)), (1, .int a1)]) hx hb dX10_derivedFrom_58 rfl hl (by decide) rfl (fun ls hl => ?_)
                refine lv_iinc (v := x3_4 + 1) (lv' := [(3, .int (x3_4 + 1)), (2, .int (x2_4 + 0)), (0, .ref (q 0)), (1, .int a1)]) hx hb dX10_derivedFrom_59 hl (k := 1) rfl rfl (by decide) rfl (fun ls hl => ?_)
                refine lv_goto (tgt := 4) hx hb dX10_derivedFrom_62 (by decide) ?_
                exact ih_4 (x3_4 + 1) (x2_4 + 0) ls (ob_X10_derivedFrom_4_inv0_19 st a1 n_4 x3_4 x2_4 hit hi0_4 hi1_4 hi2_4 h9_1 h19_3 h29_8 h39_13 h49_18) (ob_X10_derivedFrom_4_inv1_20 st a1 n_4 x3_4 x2_4 hit hi0_4 hi1_4 hi2_4 h9_1 h19_3 h29_8 h39_13 h49_18) (ob_X10_derivedFrom_4_inv2_21 st a1 n_4 x3_4 x2_4 hit hi0_4 hi1_4 hi2_4 h9_1 h19_3 h29_8 h39_13 h49_18) he (lv_sub hl [0, 1, 2, 3] rfl)
              · have he := (if_pos h49_18).symm.trans he
                refine lv_iconst (v := 1) hx hb dX10_derivedFrom_52 (by decide) ?_
                refine lv_goto (tgt := 57) hx hb dX10_derivedFrom_53 (by decide) ?_
                refine lv_iadd hx hb dX10_derivedFrom_57 ?_
                refine lv_istore_n (lv' := [(2, .int (x2_4 + 1)), (3, .int x3_4), (0, .ref (q 0)), (1, .int a1)]) hx hb dX10_derivedFrom_58 rfl hl (by decide) rfl (fun ls hl => ?_)
                refine lv_iinc (v := x3_4 + 1) (lv' := [(3, .int (x3_4 + 1)), (2, .int (x2_4 + 1)), (0, .ref (q 0)), (1, .int a1)]) hx hb dX10_derivedFrom_59 hl (k := 1) rfl rfl (by decide) rfl (fun ls hl => ?_)
                refine lv_goto (tgt := 4) hx hb dX10_derivedFrom_62 (by decide) ?_
                exact ih_4 (x3_4 + 1) (x2_4 + 1) ls (ob_X10_derivedFrom_4_inv0_22 st a1 n_4 x3_4 x2_4 hit hi0_4 hi1_4 hi2_4 h9_1 h19_3 h29_8 h39_13 h49_18) (ob_X10_derivedFrom_4_inv1_23 st a1 n_4 x3_4 x2_4 hit hi0_4 hi1_4 hi2_4 h9_1 h19_3 h29_8 h39_13 h49_18) (ob_X10_derivedFrom_4_inv2_24 st a1 n_4 x3_4 x2_4 hit hi0_4 hi1_4 hi2_4 h9_1 h19_3 h29_8 h39_13 h49_18) he (lv_sub hl [0, 1, 2, 3] rfl)
  exact k_4 ((st.1 7).toInt.toNat + 1) 0 0 ls (ob_X10_derivedFrom_4_inv0_25 st a1 hit) (ob_X10_derivedFrom_4_inv1_26 st a1 hit) (ob_X10_derivedFrom_4_inv2_27 st a1 hit) he (lv_sub hl [0, 1, 2, 3] rfl)
set_option maxHeartbeats 4000000 in
set_option maxRecDepth 100000 in
theorem c_X10_look (l : Launch) (dC : Nat → ClassId) (dI : Nat → Nat → Nat) (q : Nat → Nat) (k : Nat → ClassId) (st : St) (a1 : Int32) (a2 : Int32) (hq : ∀ i j, i < 35 → j < 35 → q i = q j → i = j) (hok : okM st) (res : Int32 × St) (hres : sp_X10_look st a1 a2 = res) : Met l yX10_look wsX10_look ({ frames := 2, cells := 0, slots := 0, locals := 43 } : Room) (va_Pc [.ref (q 0), .int a1, .int a2] (fun U => va_P (dC, dI) vwCl (wM q k st) U.heap ∧ KM (dC, dI) k U)) (va_Qi (fun r (_ : Unit) => r = res.1) (fun _ t => va_P (dC, dI) vwCl (wM q k res.2) t.heap) (aM q)) 0 0 (aM q) := by
  refine Met.ofW (cc := cX10_look) (maxL := 3) (ret := (some .int)) (by decide) rfl ?_
  intro p e s m args below meth c s₁ B hml hv
  obtain ⟨rfl, hP, hK⟩ := hv
  have hx := B.exec
  have hb := B.bytes
  have hr := B.returns
  have hts := atoms_spec (ws := wsX10_look) B.pre
  have hown : s.vm.findClass RX10 = some m.cls := findClass_of_methodNamed B.named
  have hlocks := B.notSynchronized
  have hS : va_S (aM q) s.heap s.heap [] := va_S.rf
  have hi10 : ∀ w ∈ wsX100, w ∈ wsX10_look := by decide +kernel
  have hf57 := hts (.fieldLink RX10 57 "ConsentRegisterModel" "itemKind" "[I") (by decide +kernel)
  have hf60 := hts (.fieldLink RX10 60 "ConsentRegisterModel" "itemDay" "[I") (by decide +kernel)
  have hf63 := hts (.fieldLink RX10 63 "ConsentRegisterModel" "itemPersons" "[I") (by decide +kernel)
  have hf121 := hts (.fieldLink RX10 121 "ConsentRegisterModel" "thrown" "I") (by decide +kernel)
  have hl := lv_entry ([.ref (q 0), .int a1, .int a2]) (n := 3) (Nat.le_of_ble_eq_true rfl)
  rw [lg_entry_eq]
  generalize (lg_sl ([.ref (q 0), .int a1, .int a2]) ++ List.replicate (3 - (lg_sl ([.ref (q 0), .int a1, .int a2])).length) Slot.unset).toArray = ls at hl ⊢
  have hl : lv_has ls 3 [(0, .ref (q 0)), (1, .int a1), (2, .int a2)] := hl
  have he := hres
  unfold sp_X10_look at he
  refine lv_aload_n hx hb dX10_look_0 rfl (lv_at hl 0 rfl) ?_
  refine lv_iconst (v := 0) hx hb dX10_look_1 (by decide) ?_
  refine va_put (D := (dC, dI)) (ci := 10) (v := .int 0) (ty := .int) (C := RX10) (T := TX10) (N := 45) hx hb hts hi10 tyX10 tyX10_ok nmX10 hown hK.1 hP (dM_of hq) hS 0 rfl rfl 0 (by decide) hf121 (fun _ h9 => h9) rfl (by decide +kernel) rfl rfl (Nat.le_of_ble_eq_true rfl) dX10_look_2 (fun H locs hP _ hS => ?_)
  have hP : va_P (dC, dI) vwCl (wM q k (sI st 10 0)) H := hP
  refine lv_aload_n hx hb dX10_look_5 rfl (lv_at hl 0 rfl) ?_
  refine lv_iload_n hx hb dX10_look_6 rfl (lv_at hl 1 rfl) ?_
  refine vp_callSi (va_Run.run (va_runV (As := [.int a1]) (rest := []) ⟨hx, hb, hml, hown, hts⟩ (c_X10_isLiving l dC dI q k (sI st 10 0) a1 (ob_X10_look_7_1 st a1 a2 hok) _ rfl) (cwV 1 hts gX10_look_X10_isLiving rfl rfl rfl (by decide +kernel) ⟨Nat.le_of_ble_eq_true rfl, Nat.le_of_ble_eq_true rfl⟩) ⟨fb_M, va_recv hK.1 hP (ci := 10) (q0 := 0) rfl rfl, fun U hU hW => ⟨rfl, by rw [hU]; exact hP, hK.warm hW⟩⟩ rfl rfl hl.1 rfl (lv_room (Nat.le_of_ble_eq_true rfl)) dX10_look_7 ⟨Nat.le_of_ble_eq_true rfl, Nat.le_of_ble_eq_true rfl⟩)) (fun r9 e9 => ?_)
  subst e9
  refine lv_if_ne (tgt := 15) hx hb dX10_look_10 (by decide) (fun h10_2 => ?_) (fun h10_2 => ?_)
  · have he := (if_neg h10_2).symm.trans he
    refine lv_iload_n hx hb dX10_look_15 rfl (lv_at hl 2 rfl) ?_
    by_cases h16_3 : a2 = 0
    · have he := (if_pos h16_3).symm.trans he
      refine lv_tableIn (off := 36) (tgt := 52) hx hb dX10_look_16 (by rw [h16_3]; decide) (by rw [h16_3]; decide) (by rw [h16_3]; rfl) (by decide) ?_
      refine lv_aload_n hx hb dX10_look_52 rfl (lv_at hl 0 rfl) ?_
      refine va_get (D := (dC, dI)) (ci := 10) (v := .ref (q 21)) (C := RX10) (T := TX10) (N := 45) hx hb hts hi10 hown hK.1 hP 0 rfl rfl 21 (by decide) hf57 (fun _ h9 => h9) rfl dX10_look_53 ?_
      refine lv_iload_n hx hb dX10_look_56 rfl (lv_at hl 1 rfl) ?_
      refine va_iald hx hb hK.1 hP 21 20 (f := st.2.1 20) (n := 100) (cA := k 20) rfl rfl (i := a1) (ob_X10_look_57_4 st a1 a2 hok h10_2 h16_3) dX10_look_57 ?_
      exact W.iret (v := st.2.1 20 a1.toNatClampNeg) hx hb hr (fun t ht hW => ⟨⟨_, (), rfl, by show _ = Prod.fst _; rw [← he], by show va_P _ _ _ t.heap; rw [ht, ← he]; exact hP⟩, hS.F ht⟩) hS.2.2 dX10_look_58
    have he := (if_neg h16_3).symm.trans he
    by_cases h16_5 : a2 = 1
    · have he := (if_pos h16_5).symm.trans he
      refine lv_tableIn (off := 43) (tgt := 59) hx hb dX10_look_16 (by rw [h16_5]; decide) (by rw [h16_5]; decide) (by rw [h16_5]; rfl) (by decide) ?_
      refine lv_aload_n hx hb dX10_look_59 rfl (lv_at hl 0 rfl) ?_
      refine va_get (D := (dC, dI)) (ci := 10) (v := .ref (q 22)) (C := RX10) (T := TX10) (N := 45) hx hb hts hi10 hown hK.1 hP 0 rfl rfl 22 (by decide) hf60 (fun _ h9 => h9) rfl dX10_look_60 ?_
      refine lv_iload_n hx hb dX10_look_63 rfl (lv_at hl 1 rfl) ?_
      refine va_iald hx hb hK.1 hP 22 21 (f := st.2.1 21) (n := 100) (cA := k 21) rfl rfl (i := a1) (ob_X10_look_64_6 st a1 a2 hok h10_2 h16_3 h16_5) dX10_look_64 ?_
      exact W.iret (v := st.2.1 21 a1.toNatClampNeg) hx hb hr (fun t ht hW => ⟨⟨_, (), rfl, by show _ = Prod.fst _; rw [← he], by show va_P _ _ _ t.heap; rw [ht, ← he]; exact hP⟩, hS.F ht⟩) hS.2.2 dX10_look_65
    have he := (if_neg h16_5).symm.trans he
    by_cases h16_7 : a2 = 2
    · have he := (if_pos h16_7).symm.trans he
      refine lv_tableIn (off := 50) (tgt := 66) hx hb dX10_look_16 (by rw [h16_7]; decide) (by rw [h16_7]; decide) (by rw [h16_7]; rfl) (by decide) ?_
      refine lv_aload_n hx hb dX10_look_66 rfl (lv_at hl 0 rfl) ?_
      refine va_get (D := (dC, dI)) (ci := 10) (v := .ref (q 23)) (C := RX10) (T := TX10) (N := 45) hx hb hts hi10 hown hK.1 hP 0 rfl rfl 23 (by decide) hf63 (fun _ h9 => h9) rfl dX10_look_67 ?_
      refine lv_iload_n hx hb dX10_look_70 rfl (lv_at hl 1 rfl) ?_
      refine va_iald hx hb hK.1 hP 23 22 (f := st.2.1 22) (n := 100) (cA := k 22) rfl rfl (i := a1) (ob_X10_look_71_8 st a1 a2 hok h10_2 h16_3 h16_5 h16_7) dX10_look_71 ?_
      exact W.iret (v := st.2.1 22 a1.toNatClampNeg) hx hb hr (fun t ht hW => ⟨⟨_, (), rfl, by show _ = Prod.fst _; rw [← he], by show va_P _ _ _ t.heap; rw [ht, ← he]; exact hP⟩, hS.F ht⟩) hS.2.2 dX10_look_72
    have he := (if_neg h16_7).symm.trans he
    by_cases h16_9 : a2 = 3
    · have he := (if_pos h16_9).symm.trans he
      refine lv_tableIn (off := 57) (tgt := 73) hx hb dX10_look_16 (by rw [h16_9]; decide) (by rw [h16_9]; decide) (by rw [h16_9]; rfl) (by decide) ?_
      refine lv_aload_n hx hb dX10_look_73 rfl (lv_at hl 0 rfl) ?_
      refine lv_iload_n hx hb dX10_look_74 rfl (lv_at hl 1 rfl) ?_
      refine vp_callSi (va_Run.run (va_runV (As := [.int a1]) (rest := []) ⟨hx, hb, hml, hown, hts⟩ (c_X10_due l dC dI q k (sI st 10 0) a1 (ob_X10_look_75_10 st a1 a2 hok h10_2 h16_3 h16_5 h16_7 h16_9) (ob_X10_look_75_11 st a1 a2 hok h10_2 h16_3 h16_5 h16_7 h16_9) _ rfl) (cwV 1 hts gX10_look_X10_due rfl rfl rfl (by decide +kernel) ⟨Nat.le_of_ble_eq_true rfl, Nat.le_of_ble_eq_true rfl⟩) ⟨fb_M, va_recv hK.1 hP (ci := 10) (q0 := 0) rfl rfl, fun U hU hW => ⟨rfl, by rw [hU]; exact hP, hK.warm hW⟩⟩ rfl rfl hl.1 rfl (lv_room (Nat.le_of_ble_eq_true rfl)) dX10_look_75 ⟨Nat.le_of_ble_eq_true rfl, Nat.le_of_ble_eq_true rfl⟩)) (fun r9 e9 => ?_)
      subst e9
      exact W.iret (v := (sp_X10_due (sI st 10 0) a1)) hx hb hr (fun t ht hW => ⟨⟨_, (), rfl, by show _ = Prod.fst _; rw [← he], by show va_P _ _ _ t.heap; rw [ht, ← he]; exact hP⟩, hS.F ht⟩) hS.2.2 dX10_look_78
    have he := (if_neg h16_9).symm.trans he
    by_cases h16_12 : a2 = 4
    · have he := (if_pos h16_12).symm.trans he
      refine lv_tableIn (off := 63) (tgt := 79) hx hb dX10_look_16 (by rw [h16_12]; decide) (by rw [h16_12]; decide) (by rw [h16_12]; rfl) (by decide) ?_
      refine lv_aload_n hx hb dX10_look_79 rfl (lv_at hl 0 rfl) ?_
      refine lv_iload_n hx hb dX10_look_80 rfl (lv_at hl 1 rfl) ?_
      refine vp_callSi (va_Run.run (va_runV (As := [.int a1]) (rest := []) ⟨hx, hb, hml, hown, hts⟩ (c_X10_derivedFrom l dC dI q k (sI st 10 0) a1 (ob_X10_look_81_13 st a1 a2 hok h10_2 h16_3 h16_5 h16_7 h16_9 h16_12) _ rfl) (cwV 1 hts gX10_look_X10_derivedFrom rfl rfl rfl (by decide +kernel) ⟨Nat.le_of_ble_eq_true rfl, Nat.le_of_ble_eq_true rfl⟩) ⟨fb_M, va_recv hK.1 hP (ci := 10) (q0 := 0) rfl rfl, fun U hU hW => ⟨rfl, by rw [hU]; exact hP, hK.warm hW⟩⟩ rfl rfl hl.1 rfl (lv_room (Nat.le_of_ble_eq_true rfl)) dX10_look_81 ⟨Nat.le_of_ble_eq_true rfl, Nat.le_of_ble_eq_true rfl⟩)) (fun r9 e9 => ?_)
      subst e9
      exact W.iret (v := (sp_X10_derivedFrom (sI st 10 0) a1)) hx hb hr (fun t ht hW => ⟨⟨_, (), rfl, by show _ = Prod.fst _; rw [← he], by show va_P _ _ _ t.heap; rw [ht, ← he]; exact hP⟩, hS.F ht⟩) hS.2.2 dX10_look_84
    have he := (if_neg h16_12).symm.trans he
    refine lv_tableOut (tgt := 85) hx hb dX10_look_16 (by have z0 := lv_neT (a := 0) h16_3 rfl; have z1 := lv_neT (a := 1) h16_5 rfl; have z2 := lv_neT (a := 2) h16_7 rfl; have z3 := lv_neT (a := 3) h16_9 rfl; have z4 := lv_neT (a := 4) h16_12 rfl; omega) (by decide) ?_
    refine lv_iconst (v := (-1)) hx hb dX10_look_85 (by decide) ?_
    exact W.iret (v := (-1)) hx hb hr (fun t ht hW => ⟨⟨_, (), rfl, by show _ = Prod.fst _; rw [← he], by show va_P _ _ _ t.heap; rw [ht, ← he]; exact hP⟩, hS.F ht⟩) hS.2.2 dX10_look_86
  · have he := (if_pos h10_2).symm.trans he
    refine lv_iconst (v := (-1)) hx hb dX10_look_13 (by decide) ?_
    exact W.iret (v := (-1)) hx hb hr (fun t ht hW => ⟨⟨_, (), rfl, by show _ = Prod.fst _; rw [← he], by show va_P _ _ _ t.heap; rw [ht, ← he]; exact hP⟩, hS.F ht⟩) hS.2.2 dX10_look_14
set_option maxHeartbeats 4000000 in
set_option maxRecDepth 100000 in
theorem c_X10_state (l : Launch) (dC : Nat → ClassId) (dI : Nat → Nat → Nat) (q : Nat → Nat) (k : Nat → ClassId) (st : St) (a1 : Int32) (hq : ∀ i j, i < 35 → j < 35 → q i = q j → i = j) (hit : okIt st) (res : Int32 × St) (hres : sp_X10_state st a1 = res) : Met l yX10_state wsX10_state ({ frames := 0, cells := 0, slots := 0, locals := 0 } : Room) (va_Pc [.ref (q 0), .int a1] (fun U => va_P (dC, dI) vwCl (wM q k st) U.heap ∧ KM (dC, dI) k U)) (va_Qi (fun r (_ : Unit) => r = res.1) (fun _ t => va_P (dC, dI) vwCl (wM q k res.2) t.heap) (aM q)) 0 0 (aM q) := by
  refine Met.ofW (cc := cX10_state) (maxL := 4) (ret := (some .int)) (by decide) rfl ?_
  intro p e s m args below meth c s₁ B hml hv
  obtain ⟨rfl, hP, hK⟩ := hv
  have hx := B.exec
  have hb := B.bytes
  have hr := B.returns
  have hts := atoms_spec (ws := wsX10_state) B.pre
  have hown : s.vm.findClass RX10 = some m.cls := findClass_of_methodNamed B.named
  have hlocks := B.notSynchronized
  have hS : va_S (aM q) s.heap s.heap [] := va_S.rf
  have hi10 : ∀ w ∈ wsX100, w ∈ wsX10_state := by decide +kernel
  have hf7 := hts (.fieldLink RX10 7 "ConsentRegisterModel" "purposes" "I") (by decide +kernel)
  have hf75 := hts (.fieldLink RX10 75 "ConsentRegisterModel" "lives" "[Z") (by decide +kernel)
  have hf121 := hts (.fieldLink RX10 121 "ConsentRegisterModel" "thrown" "I") (by decide +kernel)
  have hf128 := hts (.fieldLink RX10 128 "ConsentRegisterModel" "kinds" "I") (by decide +kernel)
  have hf157 := hts (.fieldLink RX10 157 "ConsentRegisterModel" "items" "I") (by decide +kernel)
  have hf170 := hts (.fieldLink RX10 170 "ConsentRegisterModel" "holds" "I") (by decide +kernel)
  have hf202 := hts (.fieldLink RX10 202 "ConsentRegisterModel" "uses" "I") (by decide +kernel)
  have hl := lv_entry ([.ref (q 0), .int a1]) (n := 4) (Nat.le_of_ble_eq_true rfl)
  rw [lg_entry_eq]
  generalize (lg_sl ([.ref (q 0), .int a1]) ++ List.replicate (4 - (lg_sl ([.ref (q 0), .int a1])).length) Slot.unset).toArray = ls at hl ⊢
  have hl : lv_has ls 4 [(0, .ref (q 0)), (1, .int a1)] := hl
  have he := hres
  unfold sp_X10_state at he
  refine lv_aload_n hx hb dX10_state_0 rfl (lv_at hl 0 rfl) ?_
  refine lv_iconst (v := 0) hx hb dX10_state_1 (by decide) ?_
  refine va_put (D := (dC, dI)) (ci := 10) (v := .int 0) (ty := .int) (C := RX10) (T := TX10) (N := 45) hx hb hts hi10 tyX10 tyX10_ok nmX10 hown hK.1 hP (dM_of hq) hS 0 rfl rfl 0 (by decide) hf121 (fun _ h9 => h9) rfl (by decide +kernel) rfl rfl (Nat.le_of_ble_eq_true rfl) dX10_state_2 (fun H locs hP _ hS => ?_)
  have hP : va_P (dC, dI) vwCl (wM q k (sI st 10 0)) H := hP
  refine lv_iconst (v := 0) hx hb dX10_state_5 (by decide) ?_
  refine lv_istore_n (lv' := [(2, .int 0), (0, .ref (q 0)), (1, .int a1)]) hx hb dX10_state_6 rfl hl (by decide) rfl (fun ls hl => ?_)
  refine lv_iconst (v := 0) hx hb dX10_state_7 (by decide) ?_
  refine lv_istore_n (lv' := [(3, .int 0), (2, .int 0), (0, .ref (q 0)), (1, .int a1)]) hx hb dX10_state_8 rfl hl (by decide) rfl (fun ls hl => ?_)
  have k_9 : ∀ (n_9 : Nat) (x3_9 : Int32) (x2_9 : Int32) (ls : Array Slot), 0 ≤ x3_9.toInt → x3_9.toInt ≤ (st.1 7).toInt → (st.1 7).toInt < x3_9.toInt + n_9 → lp_X10_state_9 st a1 n_9 x3_9 x2_9 = res → lv_has ls 4 [(3, .int x3_9), (2, .int x2_9), (0, .ref (q 0)), (1, .int a1)] → W p l e (headSpec wsX10_state ({ frames := 0, cells := 0, slots := 0, locals := 0 } : Room)).room s m ([.ref (q 0), .int a1] : List Value).toArray below meth c H locs 0 0 (MQ below (va_Qi (fun r (_ : Unit) => r = res.1) (fun _ t => va_P (dC, dI) vwCl (wM q k res.2) t.heap) (aM q)) ([.ref (q 0), .int a1] : List Value).toArray s 0 0 (aM q)) (F0 m 9 ls []) := by
    intro n_9
    induction n_9 with
    | zero =>
      intro x3_9 x2_9 ls hi0_9 hi1_9 hi2_9
      exact (ob_X10_state_9_zero st a1 x3_9 x2_9 hit hi0_9 hi1_9 hi2_9).elim
    | succ n_9 ih_9 =>
      intro x3_9 x2_9 ls hi0_9 hi1_9 hi2_9 he hl
      rw [lp_X10_state_9] at he
      refine lv_iload_n hx hb dX10_state_9 rfl (lv_at hl 0 rfl) ?_
      refine lv_aload_n hx hb dX10_state_10 rfl (lv_at hl 2 rfl) ?_
      refine va_get (D := (dC, dI)) (ci := 10) (v := .int (st.1 7)) (C := RX10) (T := TX10) (N := 45) hx hb hts hi10 hown hK.1 hP 0 rfl rfl 19 (by decide) hf157 (fun _ h9 => h9) rfl dX10_state_11 ?_
      refine lv_icmp_ge (tgt := 40) hx hb dX10_state_14 (by decide) (fun h14_1 => ?_) (fun h14_1 => ?_)
      · have he := (if_pos h14_1).symm.trans he
        refine lv_iload_n hx hb dX10_state_40 rfl (lv_at hl 3 rfl) ?_
        by_cases h41_2 : a1 = 0
        · have he := (if_pos h41_2).symm.trans he
          refine lv_tableIn (off := 39) (tgt := 80) hx hb dX10_state_41 (by rw [h41_2]; decide) (by rw [h41_2]; decide) (by rw [h41_2]; rfl) (by decide) ?_
          refine lv_aload_n hx hb dX10_state_80 rfl (lv_at hl 2 rfl) ?_
          refine va_get (D := (dC, dI)) (ci := 10) (v := .int (st.1 0)) (C := RX10) (T := TX10) (N := 45) hx hb hts hi10 hown hK.1 hP 0 rfl rfl 1 (by decide) hf7 (fun _ h9 => h9) rfl dX10_state_81 ?_
          exact W.iret (v := st.1 0) hx hb hr (fun t ht hW => ⟨⟨_, (), rfl, by show _ = Prod.fst _; rw [← he], by show va_P _ _ _ t.heap; rw [ht, ← he]; exact hP⟩, hS.F ht⟩) hS.2.2 dX10_state_84
        have he := (if_neg h41_2).symm.trans he
        by_cases h41_3 : a1 = 1
        · have he := (if_pos h41_3).symm.trans he
          refine lv_tableIn (off := 44) (tgt := 85) hx hb dX10_state_41 (by rw [h41_3]; decide) (by rw [h41_3]; decide) (by rw [h41_3]; rfl) (by decide) ?_
          refine lv_aload_n hx hb dX10_state_85 rfl (lv_at hl 2 rfl) ?_
          refine va_get (D := (dC, dI)) (ci := 10) (v := .int (st.1 1)) (C := RX10) (T := TX10) (N := 45) hx hb hts hi10 hown hK.1 hP 0 rfl rfl 3 (by decide) hf128 (fun _ h9 => h9) rfl dX10_state_86 ?_
          exact W.iret (v := st.1 1) hx hb hr (fun t ht hW => ⟨⟨_, (), rfl, by show _ = Prod.fst _; rw [← he], by show va_P _ _ _ t.heap; rw [ht, ← he]; exact hP⟩, hS.F ht⟩) hS.2.2 dX10_state_89
        have he := (if_neg h41_3).symm.trans he
        by_cases h41_4 : a1 = 2
        · have he := (if_pos h41_4).symm.trans he
          refine lv_tableIn (off := 49) (tgt := 90) hx hb dX10_state_41 (by rw [h41_4]; decide) (by rw [h41_4]; decide) (by rw [h41_4]; rfl) (by decide) ?_
          refine lv_aload_n hx hb dX10_state_90 rfl (lv_at hl 2 rfl) ?_
          refine va_get (D := (dC, dI)) (ci := 10) (v := .int (st.1 7)) (C := RX10) (T := TX10) (N := 45) hx hb hts hi10 hown hK.1 hP 0 rfl rfl 19 (by decide) hf157 (fun _ h9 => h9) rfl dX10_state_91 ?_
          exact W.iret (v := st.1 7) hx hb hr (fun t ht hW => ⟨⟨_, (), rfl, by show _ = Prod.fst _; rw [← he], by show va_P _ _ _ t.heap; rw [ht, ← he]; exact hP⟩, hS.F ht⟩) hS.2.2 dX10_state_94
        have he := (if_neg h41_4).symm.trans he
        by_cases h41_5 : a1 = 3
        · have he := (if_pos h41_5).symm.trans he
          refine lv_tableIn (off := 54) (tgt := 95) hx hb dX10_state_41 (by rw [h41_5]; decide) (by rw [h41_5]; decide) (by rw [h41_5]; rfl) (by decide) ?_
          refine lv_iload_n hx hb dX10_state_95 rfl (lv_at hl 1 rfl) ?_
          exact W.iret (v := x2_9) hx hb hr (fun t ht hW => ⟨⟨_, (), rfl, by show _ = Prod.fst _; rw [← he], by show va_P _ _ _ t.heap; rw [ht, ← he]; exact hP⟩, hS.F ht⟩) hS.2.2 dX10_state_96
        have he := (if_neg h41_5).symm.trans he
        by_cases h41_6 : a1 = 4
        · have he := (if_pos h41_6).symm.trans he
          refine lv_tableIn (off := 56) (tgt := 97) hx hb dX10_state_41 (by rw [h41_6]; decide) (by rw [h41_6]; decide) (by rw [h41_6]; rfl) (by decide) ?_
          refine lv_aload_n hx hb dX10_state_97 rfl (lv_at hl 2 rfl) ?_
          refine va_get (D := (dC, dI)) (ci := 10) (v := .int (st.1 8)) (C := RX10) (T := TX10) (N := 45) hx hb hts hi10 hown hK.1 hP 0 rfl rfl 39 (by decide) hf202 (fun _ h9 => h9) rfl dX10_state_98 ?_
          exact W.iret (v := st.1 8) hx hb hr (fun t ht hW => ⟨⟨_, (), rfl, by show _ = Prod.fst _; rw [← he], by show va_P _ _ _ t.heap; rw [ht, ← he]; exact hP⟩, hS.F ht⟩) hS.2.2 dX10_state_101
        have he := (if_neg h41_6).symm.trans he
        by_cases h41_7 : a1 = 5
        · have he := (if_pos h41_7).symm.trans he
          refine lv_tableIn (off := 61) (tgt := 102) hx hb dX10_state_41 (by rw [h41_7]; decide) (by rw [h41_7]; decide) (by rw [h41_7]; rfl) (by decide) ?_
          refine lv_aload_n hx hb dX10_state_102 rfl (lv_at hl 2 rfl) ?_
          refine va_get (D := (dC, dI)) (ci := 10) (v := .int (st.1 6)) (C := RX10) (T := TX10) (N := 45) hx hb hts hi10 hown hK.1 hP 0 rfl rfl 34 (by decide) hf170 (fun _ h9 => h9) rfl dX10_state_103 ?_
          exact W.iret (v := st.1 6) hx hb hr (fun t ht hW => ⟨⟨_, (), rfl, by show _ = Prod.fst _; rw [← he], by show va_P _ _ _ t.heap; rw [ht, ← he]; exact hP⟩, hS.F ht⟩) hS.2.2 dX10_state_106
        have he := (if_neg h41_7).symm.trans he
        refine lv_tableOut (tgt := 107) hx hb dX10_state_41 (by have z0 := lv_neT (a := 0) h41_2 rfl; have z1 := lv_neT (a := 1) h41_3 rfl; have z2 := lv_neT (a := 2) h41_4 rfl; have z3 := lv_neT (a := 3) h41_5 rfl; have z4 := lv_neT (a := 4) h41_6 rfl; have z5 := lv_neT (a := 5) h41_7 rfl; omega) (by decide) ?_
        refine lv_iconst (v := (-1)) hx hb dX10_state_107 (by decide) ?_
        exact W.iret (v := (-1)) hx hb hr (fun t ht hW => ⟨⟨_, (), rfl, by show _ = Prod.fst _; rw [← he], by show va_P _ _ _ t.heap; rw [ht, ← he]; exact hP⟩, hS.F ht⟩) hS.2.2 dX10_state_108
      · have he := (if_neg h14_1).symm.trans he
        refine lv_iload_n hx hb dX10_state_17 rfl (lv_at hl 1 rfl) ?_
        refine lv_aload_n hx hb dX10_state_18 rfl (lv_at hl 2 rfl) ?_
        refine va_get (D := (dC, dI)) (ci := 10) (v := .ref (q 27)) (C := RX10) (T := TX10) (N := 45) hx hb hts hi10 hown hK.1 hP 0 rfl rfl 27 (by decide) hf75 (fun _ h9 => h9) rfl dX10_state_19 ?_
        refine lv_iload_n hx hb dX10_state_22 rfl (lv_at hl 0 rfl) ?_
        refine va_zald hx hb hK.1 hP 27 26 (f := st.2.1 26) (n := 100) (cA := k 26) rfl rfl (i := x3_9) (ob_X10_state_23_8 st a1 n_9 x3_9 x2_9 hit hi0_9 hi1_9 hi2_9 h14_1) dX10_state_23 ?_
        refine lv_if_eq (tgt := 31) hx hb dX10_state_24 (by decide) (fun h24_9 => ?_) (fun h24_9 => ?_)
        · have he := (if_pos h24_9).symm.trans he
          refine lv_iconst (v := 0) hx hb dX10_state_31 (by decide) ?_
          refine lv_iadd hx hb dX10_state_32 ?_
          refine lv_istore_n (lv' := [(2, .int (x2_9 + 0)), (3, .int x3_9), (0, .ref (q 0)), (1, .int a1)]) hx hb dX10_state_33 rfl hl (by decide) rfl (fun ls hl => ?_)
          refine lv_iinc (v := x3_9 + 1) (lv' := [(3, .int (x3_9 + 1)), (2, .int (x2_9 + 0)), (0, .ref (q 0)), (1, .int a1)]) hx hb dX10_state_34 hl (k := 1) rfl rfl (by decide) rfl (fun ls hl => ?_)
          refine lv_goto (tgt := 9) hx hb dX10_state_37 (by decide) ?_
          exact ih_9 (x3_9 + 1) (x2_9 + 0) ls (ob_X10_state_9_inv0_10 st a1 n_9 x3_9 x2_9 hit hi0_9 hi1_9 hi2_9 h14_1 h24_9) (ob_X10_state_9_inv1_11 st a1 n_9 x3_9 x2_9 hit hi0_9 hi1_9 hi2_9 h14_1 h24_9) (ob_X10_state_9_inv2_12 st a1 n_9 x3_9 x2_9 hit hi0_9 hi1_9 hi2_9 h14_1 h24_9) he (lv_sub hl [0, 1, 2, 3] rfl)
        · have he := (if_neg h24_9).symm.trans he
          refine lv_iconst (v := 1) hx hb dX10_state_27 (by decide) ?_
          refine lv_goto (tgt := 32) hx hb dX10_state_28 (by decide) ?_
          refine lv_iadd hx hb dX10_state_32 ?_
          refine lv_istore_n (lv' := [(2, .int (x2_9 + 1)), (3, .int x3_9), (0, .ref (q 0)), (1, .int a1)]) hx hb dX10_state_33 rfl hl (by decide) rfl (fun ls hl => ?_)
          refine lv_iinc (v := x3_9 + 1) (lv' := [(3, .int (x3_9 + 1)), (2, .int (x2_9 + 1)), (0, .ref (q 0)), (1, .int a1)]) hx hb dX10_state_34 hl (k := 1) rfl rfl (by decide) rfl (fun ls hl => ?_)
          refine lv_goto (tgt := 9) hx hb dX10_state_37 (by decide) ?_
          exact ih_9 (x3_9 + 1) (x2_9 + 1) ls (ob_X10_state_9_inv0_13 st a1 n_9 x3_9 x2_9 hit hi0_9 hi1_9 hi2_9 h14_1 h24_9) (ob_X10_state_9_inv1_14 st a1 n_9 x3_9 x2_9 hit hi0_9 hi1_9 hi2_9 h14_1 h24_9) (ob_X10_state_9_inv2_15 st a1 n_9 x3_9 x2_9 hit hi0_9 hi1_9 hi2_9 h14_1 h24_9) he (lv_sub hl [0, 1, 2, 3] rfl)
  exact k_9 ((st.1 7).toInt.toNat + 1) 0 0 ls (ob_X10_state_9_inv0_16 st a1 hit) (ob_X10_state_9_inv1_17 st a1 hit) (ob_X10_state_9_inv2_18 st a1 hit) he (lv_sub hl [0, 1, 2, 3] rfl)


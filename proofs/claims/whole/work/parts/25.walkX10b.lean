set_option maxHeartbeats 4000000 in
set_option maxRecDepth 100000 in
theorem c_X10_holdCovers (l : Launch) (dC : Nat → ClassId) (dI : Nat → Nat → Nat) (q : Nat → Nat) (k : Nat → ClassId) (st : St) (a1 : Int32) (a2 : Int32) (a3 : Int32) (hva1 : vp_in a1 30) (hva2 : vp_in a2 100) (res : Int32) (hres : sp_X10_holdCovers st a1 a2 a3 = res) : Met l yX10_holdCovers wsX10_holdCovers ({ frames := 0, cells := 0, slots := 0, locals := 0 } : Room) (va_Pc [.ref (q 0), .int a1, .int a2, .int a3] (fun U => va_P (dC, dI) vwCl (wM q k st) U.heap ∧ KM (dC, dI) k U)) (vp_Si (fun r => r = res)) 0 0 (fun _ => False) := by
  refine Met.ofW (cc := cX10_holdCovers) (maxL := 5) (ret := (some .boolean)) (by decide) rfl ?_
  intro p e s m args below meth c s₁ B hml hv
  obtain ⟨rfl, hP, hK⟩ := hv
  have hx := B.exec
  have hb := B.bytes
  have hr := B.returns
  have hts := atoms_spec (ws := wsX10_holdCovers) B.pre
  have hown : s.vm.findClass RX10 = some m.cls := findClass_of_methodNamed B.named
  have hlocks := B.notSynchronized
  have hi10 : ∀ w ∈ wsX100, w ∈ wsX10_holdCovers := by decide +kernel
  have hf57 := hts (.fieldLink RX10 57 "ConsentRegisterModel" "itemKind" "[I") (by decide +kernel)
  have hf63 := hts (.fieldLink RX10 63 "ConsentRegisterModel" "itemPersons" "[I") (by decide +kernel)
  have hf94 := hts (.fieldLink RX10 94 "ConsentRegisterModel" "holdOf" "[I") (by decide +kernel)
  have hf100 := hts (.fieldLink RX10 100 "ConsentRegisterModel" "holdFrom" "[I") (by decide +kernel)
  have hf103 := hts (.fieldLink RX10 103 "ConsentRegisterModel" "holdLifted" "[I") (by decide +kernel)
  have hl := lv_entry ([.ref (q 0), .int a1, .int a2, .int a3]) (n := 5) (Nat.le_of_ble_eq_true rfl)
  rw [lg_entry_eq]
  generalize (lg_sl ([.ref (q 0), .int a1, .int a2, .int a3]) ++ List.replicate (5 - (lg_sl ([.ref (q 0), .int a1, .int a2, .int a3])).length) Slot.unset).toArray = ls at hl ⊢
  have hl : lv_has ls 5 [(0, .ref (q 0)), (1, .int a1), (2, .int a2), (3, .int a3)] := hl
  have he := hres
  unfold sp_X10_holdCovers at he
  refine lv_aload_n hx hb dX10_holdCovers_0 rfl (lv_at hl 0 rfl) ?_
  refine va_get (D := (dC, dI)) (ci := 10) (v := .ref (q 17)) (C := RX10) (T := TX10) (N := 45) hx hb hts hi10 hown hK.1 hP 0 rfl rfl 35 (by decide) hf94 (fun _ h9 => h9) rfl dX10_holdCovers_1 ?_
  refine lv_iload_n hx hb dX10_holdCovers_4 rfl (lv_at hl 1 rfl) ?_
  refine va_iald hx hb hK.1 hP 17 16 (f := st.2.1 16) (n := 30) (cA := k 16) rfl rfl (i := a1) (ob_X10_holdCovers_5_1 st a1 a2 a3 hva1 hva2) dX10_holdCovers_5 ?_
  refine lv_bipush (v := 100) hx hb dX10_holdCovers_6 (by decide) ?_
  refine lv_icmp_ge (tgt := 38) hx hb dX10_holdCovers_8 (by decide) (fun h8_2 => ?_) (fun h8_2 => ?_)
  · have he := (if_pos h8_2).symm.trans he
    refine lv_aload_n hx hb dX10_holdCovers_38 rfl (lv_at hl 0 rfl) ?_
    refine va_get (D := (dC, dI)) (ci := 10) (v := .ref (q 21)) (C := RX10) (T := TX10) (N := 45) hx hb hts hi10 hown hK.1 hP 0 rfl rfl 21 (by decide) hf57 (fun _ h9 => h9) rfl dX10_holdCovers_39 ?_
    refine lv_iload_n hx hb dX10_holdCovers_42 rfl (lv_at hl 2 rfl) ?_
    refine va_iald hx hb hK.1 hP 21 20 (f := st.2.1 20) (n := 100) (cA := k 20) rfl rfl (i := a2) (ob_X10_holdCovers_43_3 st a1 a2 a3 hva1 hva2 h8_2) dX10_holdCovers_43 ?_
    refine lv_aload_n hx hb dX10_holdCovers_44 rfl (lv_at hl 0 rfl) ?_
    refine va_get (D := (dC, dI)) (ci := 10) (v := .ref (q 17)) (C := RX10) (T := TX10) (N := 45) hx hb hts hi10 hown hK.1 hP 0 rfl rfl 35 (by decide) hf94 (fun _ h9 => h9) rfl dX10_holdCovers_45 ?_
    refine lv_iload_n hx hb dX10_holdCovers_48 rfl (lv_at hl 1 rfl) ?_
    refine va_iald hx hb hK.1 hP 17 16 (f := st.2.1 16) (n := 30) (cA := k 16) rfl rfl (i := a1) (ob_X10_holdCovers_49_4 st a1 a2 a3 hva1 hva2 h8_2) dX10_holdCovers_49 ?_
    refine lv_bipush (v := 100) hx hb dX10_holdCovers_50 (by decide) ?_
    refine lv_isub hx hb dX10_holdCovers_52 ?_
    refine lv_icmp_ne (tgt := 60) hx hb dX10_holdCovers_53 (by decide) (fun h53_5 => ?_) (fun h53_5 => ?_)
    · have he := (if_neg h53_5).symm.trans he
      refine lv_iconst (v := 0) hx hb dX10_holdCovers_60 (by decide) ?_
      refine lv_istore (lv' := [(4, .int 0), (0, .ref (q 0)), (1, .int a1), (2, .int a2), (3, .int a3)]) hx hb dX10_holdCovers_61 hl (by decide) rfl (fun ls hl => ?_)
      refine lv_iload hx hb dX10_holdCovers_63 (lv_at hl 0 rfl) ?_
      refine lv_if_eq (tgt := 101) hx hb dX10_holdCovers_65 (by decide) (fun _ => ?_) (fun h9 => absurd h9 (by decide))
      refine lv_iconst (v := 0) hx hb dX10_holdCovers_101 (by decide) ?_
      exact W.zret (v := 0) hx hb hr rfl (fun t ht hW => ⟨_, rfl, he, ht⟩) (fun _ h => nomatch h) dX10_holdCovers_102
    · have he := (if_pos h53_5).symm.trans he
      refine lv_iconst (v := 1) hx hb dX10_holdCovers_56 (by decide) ?_
      refine lv_goto (tgt := 61) hx hb dX10_holdCovers_57 (by decide) ?_
      refine lv_istore (lv' := [(4, .int 1), (0, .ref (q 0)), (1, .int a1), (2, .int a2), (3, .int a3)]) hx hb dX10_holdCovers_61 hl (by decide) rfl (fun ls hl => ?_)
      refine lv_iload hx hb dX10_holdCovers_63 (lv_at hl 0 rfl) ?_
      refine lv_if_eq (tgt := 101) hx hb dX10_holdCovers_65 (by decide) (fun h9 => absurd h9 (by decide)) (fun _ => ?_)
      refine lv_iload_n hx hb dX10_holdCovers_68 rfl (lv_at hl 4 rfl) ?_
      refine lv_aload_n hx hb dX10_holdCovers_69 rfl (lv_at hl 1 rfl) ?_
      refine va_get (D := (dC, dI)) (ci := 10) (v := .ref (q 19)) (C := RX10) (T := TX10) (N := 45) hx hb hts hi10 hown hK.1 hP 0 rfl rfl 37 (by decide) hf100 (fun _ h9 => h9) rfl dX10_holdCovers_70 ?_
      refine lv_iload_n hx hb dX10_holdCovers_73 rfl (lv_at hl 2 rfl) ?_
      refine va_iald hx hb hK.1 hP 19 18 (f := st.2.1 18) (n := 30) (cA := k 18) rfl rfl (i := a1) (ob_X10_holdCovers_74_6 st a1 a2 a3 hva1 hva2 h8_2 h53_5) dX10_holdCovers_74 ?_
      refine lv_icmp_lt (tgt := 101) hx hb dX10_holdCovers_75 (by decide) (fun h75_7 => ?_) (fun h75_7 => ?_)
      · have he := (if_pos h75_7).symm.trans he
        refine lv_iconst (v := 0) hx hb dX10_holdCovers_101 (by decide) ?_
        exact W.zret (v := 0) hx hb hr rfl (fun t ht hW => ⟨_, rfl, he, ht⟩) (fun _ h => nomatch h) dX10_holdCovers_102
      · have he := (if_neg h75_7).symm.trans he
        refine lv_aload_n hx hb dX10_holdCovers_78 rfl (lv_at hl 1 rfl) ?_
        refine va_get (D := (dC, dI)) (ci := 10) (v := .ref (q 20)) (C := RX10) (T := TX10) (N := 45) hx hb hts hi10 hown hK.1 hP 0 rfl rfl 38 (by decide) hf103 (fun _ h9 => h9) rfl dX10_holdCovers_79 ?_
        refine lv_iload_n hx hb dX10_holdCovers_82 rfl (lv_at hl 2 rfl) ?_
        refine va_iald hx hb hK.1 hP 20 19 (f := st.2.1 19) (n := 30) (cA := k 19) rfl rfl (i := a1) (ob_X10_holdCovers_83_8 st a1 a2 a3 hva1 hva2 h8_2 h53_5 h75_7) dX10_holdCovers_83 ?_
        refine lv_if_lt (tgt := 97) hx hb dX10_holdCovers_84 (by decide) (fun h84_9 => ?_) (fun h84_9 => ?_)
        · have he := (if_pos h84_9).symm.trans he
          refine lv_iconst (v := 1) hx hb dX10_holdCovers_97 (by decide) ?_
          refine lv_goto (tgt := 102) hx hb dX10_holdCovers_98 (by decide) ?_
          exact W.zret (v := 1) hx hb hr rfl (fun t ht hW => ⟨_, rfl, he, ht⟩) (fun _ h => nomatch h) dX10_holdCovers_102
        · have he := (if_neg h84_9).symm.trans he
          refine lv_iload_n hx hb dX10_holdCovers_87 rfl (lv_at hl 4 rfl) ?_
          refine lv_aload_n hx hb dX10_holdCovers_88 rfl (lv_at hl 1 rfl) ?_
          refine va_get (D := (dC, dI)) (ci := 10) (v := .ref (q 20)) (C := RX10) (T := TX10) (N := 45) hx hb hts hi10 hown hK.1 hP 0 rfl rfl 38 (by decide) hf103 (fun _ h9 => h9) rfl dX10_holdCovers_89 ?_
          refine lv_iload_n hx hb dX10_holdCovers_92 rfl (lv_at hl 2 rfl) ?_
          refine va_iald hx hb hK.1 hP 20 19 (f := st.2.1 19) (n := 30) (cA := k 19) rfl rfl (i := a1) (ob_X10_holdCovers_93_10 st a1 a2 a3 hva1 hva2 h8_2 h53_5 h75_7 h84_9) dX10_holdCovers_93 ?_
          refine lv_icmp_ge (tgt := 101) hx hb dX10_holdCovers_94 (by decide) (fun h94_11 => ?_) (fun h94_11 => ?_)
          · have he := (if_pos h94_11).symm.trans he
            refine lv_iconst (v := 0) hx hb dX10_holdCovers_101 (by decide) ?_
            exact W.zret (v := 0) hx hb hr rfl (fun t ht hW => ⟨_, rfl, he, ht⟩) (fun _ h => nomatch h) dX10_holdCovers_102
          · have he := (if_neg h94_11).symm.trans he
            refine lv_iconst (v := 1) hx hb dX10_holdCovers_97 (by decide) ?_
            refine lv_goto (tgt := 102) hx hb dX10_holdCovers_98 (by decide) ?_
            exact W.zret (v := 1) hx hb hr rfl (fun t ht hW => ⟨_, rfl, he, ht⟩) (fun _ h => nomatch h) dX10_holdCovers_102
  · have he := (if_neg h8_2).symm.trans he
    refine lv_aload_n hx hb dX10_holdCovers_11 rfl (lv_at hl 0 rfl) ?_
    refine va_get (D := (dC, dI)) (ci := 10) (v := .ref (q 23)) (C := RX10) (T := TX10) (N := 45) hx hb hts hi10 hown hK.1 hP 0 rfl rfl 23 (by decide) hf63 (fun _ h9 => h9) rfl dX10_holdCovers_12 ?_
    refine lv_iload_n hx hb dX10_holdCovers_15 rfl (lv_at hl 2 rfl) ?_
    refine va_iald hx hb hK.1 hP 23 22 (f := st.2.1 22) (n := 100) (cA := k 22) rfl rfl (i := a2) (ob_X10_holdCovers_16_12 st a1 a2 a3 hva1 hva2 h8_2) dX10_holdCovers_16 ?_
    refine lv_aload_n hx hb dX10_holdCovers_17 rfl (lv_at hl 0 rfl) ?_
    refine va_get (D := (dC, dI)) (ci := 10) (v := .ref (q 17)) (C := RX10) (T := TX10) (N := 45) hx hb hts hi10 hown hK.1 hP 0 rfl rfl 35 (by decide) hf94 (fun _ h9 => h9) rfl dX10_holdCovers_18 ?_
    refine lv_iload_n hx hb dX10_holdCovers_21 rfl (lv_at hl 1 rfl) ?_
    refine va_iald hx hb hK.1 hP 17 16 (f := st.2.1 16) (n := 30) (cA := k 16) rfl rfl (i := a1) (ob_X10_holdCovers_22_13 st a1 a2 a3 hva1 hva2 h8_2) dX10_holdCovers_22 ?_
    refine lv_ishr hx hb dX10_holdCovers_23 ?_
    refine lv_iconst (v := 1) hx hb dX10_holdCovers_24 (by decide) ?_
    refine lv_iand hx hb dX10_holdCovers_25 ?_
    refine lv_iconst (v := 1) hx hb dX10_holdCovers_26 (by decide) ?_
    refine lv_icmp_ne (tgt := 34) hx hb dX10_holdCovers_27 (by decide) (fun h27_14 => ?_) (fun h27_14 => ?_)
    · have he := (if_neg h27_14).symm.trans he
      refine lv_iconst (v := 0) hx hb dX10_holdCovers_34 (by decide) ?_
      refine lv_goto (tgt := 61) hx hb dX10_holdCovers_35 (by decide) ?_
      refine lv_istore (lv' := [(4, .int 0), (0, .ref (q 0)), (1, .int a1), (2, .int a2), (3, .int a3)]) hx hb dX10_holdCovers_61 hl (by decide) rfl (fun ls hl => ?_)
      refine lv_iload hx hb dX10_holdCovers_63 (lv_at hl 0 rfl) ?_
      refine lv_if_eq (tgt := 101) hx hb dX10_holdCovers_65 (by decide) (fun _ => ?_) (fun h9 => absurd h9 (by decide))
      refine lv_iconst (v := 0) hx hb dX10_holdCovers_101 (by decide) ?_
      exact W.zret (v := 0) hx hb hr rfl (fun t ht hW => ⟨_, rfl, he, ht⟩) (fun _ h => nomatch h) dX10_holdCovers_102
    · have he := (if_pos h27_14).symm.trans he
      refine lv_iconst (v := 1) hx hb dX10_holdCovers_30 (by decide) ?_
      refine lv_goto (tgt := 61) hx hb dX10_holdCovers_31 (by decide) ?_
      refine lv_istore (lv' := [(4, .int 1), (0, .ref (q 0)), (1, .int a1), (2, .int a2), (3, .int a3)]) hx hb dX10_holdCovers_61 hl (by decide) rfl (fun ls hl => ?_)
      refine lv_iload hx hb dX10_holdCovers_63 (lv_at hl 0 rfl) ?_
      refine lv_if_eq (tgt := 101) hx hb dX10_holdCovers_65 (by decide) (fun h9 => absurd h9 (by decide)) (fun _ => ?_)
      refine lv_iload_n hx hb dX10_holdCovers_68 rfl (lv_at hl 4 rfl) ?_
      refine lv_aload_n hx hb dX10_holdCovers_69 rfl (lv_at hl 1 rfl) ?_
      refine va_get (D := (dC, dI)) (ci := 10) (v := .ref (q 19)) (C := RX10) (T := TX10) (N := 45) hx hb hts hi10 hown hK.1 hP 0 rfl rfl 37 (by decide) hf100 (fun _ h9 => h9) rfl dX10_holdCovers_70 ?_
      refine lv_iload_n hx hb dX10_holdCovers_73 rfl (lv_at hl 2 rfl) ?_
      refine va_iald hx hb hK.1 hP 19 18 (f := st.2.1 18) (n := 30) (cA := k 18) rfl rfl (i := a1) (ob_X10_holdCovers_74_15 st a1 a2 a3 hva1 hva2 h8_2 h27_14) dX10_holdCovers_74 ?_
      refine lv_icmp_lt (tgt := 101) hx hb dX10_holdCovers_75 (by decide) (fun h75_16 => ?_) (fun h75_16 => ?_)
      · have he := (if_pos h75_16).symm.trans he
        refine lv_iconst (v := 0) hx hb dX10_holdCovers_101 (by decide) ?_
        exact W.zret (v := 0) hx hb hr rfl (fun t ht hW => ⟨_, rfl, he, ht⟩) (fun _ h => nomatch h) dX10_holdCovers_102
      · have he := (if_neg h75_16).symm.trans he
        refine lv_aload_n hx hb dX10_holdCovers_78 rfl (lv_at hl 1 rfl) ?_
        refine va_get (D := (dC, dI)) (ci := 10) (v := .ref (q 20)) (C := RX10) (T := TX10) (N := 45) hx hb hts hi10 hown hK.1 hP 0 rfl rfl 38 (by decide) hf103 (fun _ h9 => h9) rfl dX10_holdCovers_79 ?_
        refine lv_iload_n hx hb dX10_holdCovers_82 rfl (lv_at hl 2 rfl) ?_
        refine va_iald hx hb hK.1 hP 20 19 (f := st.2.1 19) (n := 30) (cA := k 19) rfl rfl (i := a1) (ob_X10_holdCovers_83_17 st a1 a2 a3 hva1 hva2 h8_2 h27_14 h75_16) dX10_holdCovers_83 ?_
        refine lv_if_lt (tgt := 97) hx hb dX10_holdCovers_84 (by decide) (fun h84_18 => ?_) (fun h84_18 => ?_)
        · have he := (if_pos h84_18).symm.trans he
          refine lv_iconst (v := 1) hx hb dX10_holdCovers_97 (by decide) ?_
          refine lv_goto (tgt := 102) hx hb dX10_holdCovers_98 (by decide) ?_
          exact W.zret (v := 1) hx hb hr rfl (fun t ht hW => ⟨_, rfl, he, ht⟩) (fun _ h => nomatch h) dX10_holdCovers_102
        · have he := (if_neg h84_18).symm.trans he
          refine lv_iload_n hx hb dX10_holdCovers_87 rfl (lv_at hl 4 rfl) ?_
          refine lv_aload_n hx hb dX10_holdCovers_88 rfl (lv_at hl 1 rfl) ?_
          refine va_get (D := (dC, dI)) (ci := 10) (v := .ref (q 20)) (C := RX10) (T := TX10) (N := 45) hx hb hts hi10 hown hK.1 hP 0 rfl rfl 38 (by decide) hf103 (fun _ h9 => h9) rfl dX10_holdCovers_89 ?_
          refine lv_iload_n hx hb dX10_holdCovers_92 rfl (lv_at hl 2 rfl) ?_
          refine va_iald hx hb hK.1 hP 20 19 (f := st.2.1 19) (n := 30) (cA := k 19) rfl rfl (i := a1) (ob_X10_holdCovers_93_19 st a1 a2 a3 hva1 hva2 h8_2 h27_14 h75_16 h84_18) dX10_holdCovers_93 ?_
          refine lv_icmp_ge (tgt := 101) hx hb dX10_holdCovers_94 (by decide) (fun h94_20 => ?_) (fun h94_20 => ?_)
          · have he := (if_pos h94_20).symm.trans he
            refine lv_iconst (v := 0) hx hb dX10_holdCovers_101 (by decide) ?_
            exact W.zret (v := 0) hx hb hr rfl (fun t ht hW => ⟨_, rfl, he, ht⟩) (fun _ h => nomatch h) dX10_holdCovers_102
          · have he := (if_neg h94_20).symm.trans he
            refine lv_iconst (v := 1) hx hb dX10_holdCovers_97 (by decide) ?_
            refine lv_goto (tgt := 102) hx hb dX10_holdCovers_98 (by decide) ?_
            exact W.zret (v := 1) hx hb hr rfl (fun t ht hW => ⟨_, rfl, he, ht⟩) (fun _ h => nomatch h) dX10_holdCovers_102
set_option maxHeartbeats 4000000 in
set_option maxRecDepth 100000 in
theorem c_X10_dutyCovers (l : Launch) (dC : Nat → ClassId) (dI : Nat → Nat → Nat) (q : Nat → Nat) (k : Nat → ClassId) (st : St) (a1 : Int32) (a2 : Int32) (a3 : Int32) (hva1 : vp_in a1 20) (hva2 : vp_in a2 100) (res : Int32) (hres : sp_X10_dutyCovers st a1 a2 a3 = res) : Met l yX10_dutyCovers wsX10_dutyCovers ({ frames := 0, cells := 0, slots := 0, locals := 0 } : Room) (va_Pc [.ref (q 0), .int a1, .int a2, .int a3] (fun U => va_P (dC, dI) vwCl (wM q k st) U.heap ∧ KM (dC, dI) k U)) (vp_Si (fun r => r = res)) 0 0 (fun _ => False) := by
  refine Met.ofW (cc := cX10_dutyCovers) (maxL := 4) (ret := (some .boolean)) (by decide) rfl ?_
  intro p e s m args below meth c s₁ B hml hv
  obtain ⟨rfl, hP, hK⟩ := hv
  have hx := B.exec
  have hb := B.bytes
  have hr := B.returns
  have hts := atoms_spec (ws := wsX10_dutyCovers) B.pre
  have hown : s.vm.findClass RX10 = some m.cls := findClass_of_methodNamed B.named
  have hlocks := B.notSynchronized
  have hi10 : ∀ w ∈ wsX100, w ∈ wsX10_dutyCovers := by decide +kernel
  have hf45 := hts (.fieldLink RX10 45 "ConsentRegisterModel" "dutyKind" "[I") (by decide +kernel)
  have hf51 := hts (.fieldLink RX10 51 "ConsentRegisterModel" "dutyDays" "[I") (by decide +kernel)
  have hf57 := hts (.fieldLink RX10 57 "ConsentRegisterModel" "itemKind" "[I") (by decide +kernel)
  have hf60 := hts (.fieldLink RX10 60 "ConsentRegisterModel" "itemDay" "[I") (by decide +kernel)
  have hl := lv_entry ([.ref (q 0), .int a1, .int a2, .int a3]) (n := 4) (Nat.le_of_ble_eq_true rfl)
  rw [lg_entry_eq]
  generalize (lg_sl ([.ref (q 0), .int a1, .int a2, .int a3]) ++ List.replicate (4 - (lg_sl ([.ref (q 0), .int a1, .int a2, .int a3])).length) Slot.unset).toArray = ls at hl ⊢
  have hl : lv_has ls 4 [(0, .ref (q 0)), (1, .int a1), (2, .int a2), (3, .int a3)] := hl
  have he := hres
  unfold sp_X10_dutyCovers at he
  refine lv_aload_n hx hb dX10_dutyCovers_0 rfl (lv_at hl 0 rfl) ?_
  refine va_get (D := (dC, dI)) (ci := 10) (v := .ref (q 11)) (C := RX10) (T := TX10) (N := 45) hx hb hts hi10 hown hK.1 hP 0 rfl rfl 16 (by decide) hf45 (fun _ h9 => h9) rfl dX10_dutyCovers_1 ?_
  refine lv_iload_n hx hb dX10_dutyCovers_4 rfl (lv_at hl 1 rfl) ?_
  refine va_iald hx hb hK.1 hP 11 10 (f := st.2.1 10) (n := 20) (cA := k 10) rfl rfl (i := a1) (ob_X10_dutyCovers_5_1 st a1 a2 a3 hva1 hva2) dX10_dutyCovers_5 ?_
  refine lv_aload_n hx hb dX10_dutyCovers_6 rfl (lv_at hl 0 rfl) ?_
  refine va_get (D := (dC, dI)) (ci := 10) (v := .ref (q 21)) (C := RX10) (T := TX10) (N := 45) hx hb hts hi10 hown hK.1 hP 0 rfl rfl 21 (by decide) hf57 (fun _ h9 => h9) rfl dX10_dutyCovers_7 ?_
  refine lv_iload_n hx hb dX10_dutyCovers_10 rfl (lv_at hl 2 rfl) ?_
  refine va_iald hx hb hK.1 hP 21 20 (f := st.2.1 20) (n := 100) (cA := k 20) rfl rfl (i := a2) (ob_X10_dutyCovers_11_2 st a1 a2 a3 hva1 hva2) dX10_dutyCovers_11 ?_
  refine lv_icmp_ne (tgt := 46) hx hb dX10_dutyCovers_12 (by decide) (fun h12_3 => ?_) (fun h12_3 => ?_)
  · have he := (if_neg h12_3).symm.trans he
    refine lv_iconst (v := 0) hx hb dX10_dutyCovers_46 (by decide) ?_
    exact W.zret (v := 0) hx hb hr rfl (fun t ht hW => ⟨_, rfl, he, ht⟩) (fun _ h => nomatch h) dX10_dutyCovers_47
  · have he := (if_pos h12_3).symm.trans he
    refine lv_iload_n hx hb dX10_dutyCovers_15 rfl (lv_at hl 3 rfl) ?_
    refine lv_aload_n hx hb dX10_dutyCovers_16 rfl (lv_at hl 0 rfl) ?_
    refine va_get (D := (dC, dI)) (ci := 10) (v := .ref (q 22)) (C := RX10) (T := TX10) (N := 45) hx hb hts hi10 hown hK.1 hP 0 rfl rfl 22 (by decide) hf60 (fun _ h9 => h9) rfl dX10_dutyCovers_17 ?_
    refine lv_iload_n hx hb dX10_dutyCovers_20 rfl (lv_at hl 2 rfl) ?_
    refine va_iald hx hb hK.1 hP 22 21 (f := st.2.1 21) (n := 100) (cA := k 21) rfl rfl (i := a2) (ob_X10_dutyCovers_21_4 st a1 a2 a3 hva1 hva2 h12_3) dX10_dutyCovers_21 ?_
    refine lv_icmp_lt (tgt := 46) hx hb dX10_dutyCovers_22 (by decide) (fun h22_5 => ?_) (fun h22_5 => ?_)
    · have he := (if_pos h22_5).symm.trans he
      refine lv_iconst (v := 0) hx hb dX10_dutyCovers_46 (by decide) ?_
      exact W.zret (v := 0) hx hb hr rfl (fun t ht hW => ⟨_, rfl, he, ht⟩) (fun _ h => nomatch h) dX10_dutyCovers_47
    · have he := (if_neg h22_5).symm.trans he
      refine lv_iload_n hx hb dX10_dutyCovers_25 rfl (lv_at hl 3 rfl) ?_
      refine lv_aload_n hx hb dX10_dutyCovers_26 rfl (lv_at hl 0 rfl) ?_
      refine va_get (D := (dC, dI)) (ci := 10) (v := .ref (q 22)) (C := RX10) (T := TX10) (N := 45) hx hb hts hi10 hown hK.1 hP 0 rfl rfl 22 (by decide) hf60 (fun _ h9 => h9) rfl dX10_dutyCovers_27 ?_
      refine lv_iload_n hx hb dX10_dutyCovers_30 rfl (lv_at hl 2 rfl) ?_
      refine va_iald hx hb hK.1 hP 22 21 (f := st.2.1 21) (n := 100) (cA := k 21) rfl rfl (i := a2) (ob_X10_dutyCovers_31_6 st a1 a2 a3 hva1 hva2 h12_3 h22_5) dX10_dutyCovers_31 ?_
      refine lv_aload_n hx hb dX10_dutyCovers_32 rfl (lv_at hl 0 rfl) ?_
      refine va_get (D := (dC, dI)) (ci := 10) (v := .ref (q 13)) (C := RX10) (T := TX10) (N := 45) hx hb hts hi10 hown hK.1 hP 0 rfl rfl 18 (by decide) hf51 (fun _ h9 => h9) rfl dX10_dutyCovers_33 ?_
      refine lv_iload_n hx hb dX10_dutyCovers_36 rfl (lv_at hl 1 rfl) ?_
      refine va_iald hx hb hK.1 hP 13 12 (f := st.2.1 12) (n := 20) (cA := k 12) rfl rfl (i := a1) (ob_X10_dutyCovers_37_7 st a1 a2 a3 hva1 hva2 h12_3 h22_5) dX10_dutyCovers_37 ?_
      refine lv_iadd hx hb dX10_dutyCovers_38 ?_
      refine lv_icmp_ge (tgt := 46) hx hb dX10_dutyCovers_39 (by decide) (fun h39_8 => ?_) (fun h39_8 => ?_)
      · have he := (if_pos h39_8).symm.trans he
        refine lv_iconst (v := 0) hx hb dX10_dutyCovers_46 (by decide) ?_
        exact W.zret (v := 0) hx hb hr rfl (fun t ht hW => ⟨_, rfl, he, ht⟩) (fun _ h => nomatch h) dX10_dutyCovers_47
      · have he := (if_neg h39_8).symm.trans he
        refine lv_iconst (v := 1) hx hb dX10_dutyCovers_42 (by decide) ?_
        refine lv_goto (tgt := 47) hx hb dX10_dutyCovers_43 (by decide) ?_
        exact W.zret (v := 1) hx hb hr rfl (fun t ht hW => ⟨_, rfl, he, ht⟩) (fun _ h => nomatch h) dX10_dutyCovers_47
set_option maxHeartbeats 4000000 in
set_option maxRecDepth 100000 in
theorem c_X10_isAtOrAbove (l : Launch) (dC : Nat → ClassId) (dI : Nat → Nat → Nat) (q : Nat → Nat) (k : Nat → ClassId) (st : St) (a1 : Int32) (a2 : Int32) (hok : okM st) (hpa : 0 ≤ a2.toInt) (hpb : a2.toInt < 16) (res : Int32) (hres : sp_X10_isAtOrAbove st a1 a2 = res) : Met l yX10_isAtOrAbove wsX10_isAtOrAbove ({ frames := 0, cells := 0, slots := 0, locals := 0 } : Room) (va_Pc [.ref (q 0), .int a1, .int a2] (fun U => va_P (dC, dI) vwCl (wM q k st) U.heap ∧ KM (dC, dI) k U)) (vp_Si (fun r => r = res)) 0 0 (fun _ => False) := by
  refine Met.ofW (cc := cX10_isAtOrAbove) (maxL := 4) (ret := (some .boolean)) (by decide) rfl ?_
  intro p e s m args below meth c s₁ B hml hv
  obtain ⟨rfl, hP, hK⟩ := hv
  have hx := B.exec
  have hb := B.bytes
  have hr := B.returns
  have hts := atoms_spec (ws := wsX10_isAtOrAbove) B.pre
  have hown : s.vm.findClass RX10 = some m.cls := findClass_of_methodNamed B.named
  have hlocks := B.notSynchronized
  have hi10 : ∀ w ∈ wsX100, w ∈ wsX10_isAtOrAbove := by decide +kernel
  have hf13 := hts (.fieldLink RX10 13 "ConsentRegisterModel" "parents" "[I") (by decide +kernel)
  have hl := lv_entry ([.ref (q 0), .int a1, .int a2]) (n := 4) (Nat.le_of_ble_eq_true rfl)
  rw [lg_entry_eq]
  generalize (lg_sl ([.ref (q 0), .int a1, .int a2]) ++ List.replicate (4 - (lg_sl ([.ref (q 0), .int a1, .int a2])).length) Slot.unset).toArray = ls at hl ⊢
  have hl : lv_has ls 4 [(0, .ref (q 0)), (1, .int a1), (2, .int a2)] := hl
  have he := hres
  unfold sp_X10_isAtOrAbove at he
  refine lv_iload_n hx hb dX10_isAtOrAbove_0 rfl (lv_at hl 2 rfl) ?_
  refine lv_istore_n (lv' := [(3, .int a2), (0, .ref (q 0)), (1, .int a1), (2, .int a2)]) hx hb dX10_isAtOrAbove_1 rfl hl (by decide) rfl (fun ls hl => ?_)
  have k_2 : ∀ (n_2 : Nat) (x3_2 : Int32) (ls : Array Slot), -1 ≤ x3_2.toInt → x3_2.toInt < 16 → x3_2.toInt + 1 < n_2 → lp_X10_isAtOrAbove_2 st a1 a2 n_2 x3_2 = res → lv_has ls 4 [(3, .int x3_2), (0, .ref (q 0)), (1, .int a1), (2, .int a2)] → W p l e (headSpec wsX10_isAtOrAbove ({ frames := 0, cells := 0, slots := 0, locals := 0 } : Room)).room s m ([.ref (q 0), .int a1, .int a2] : List Value).toArray below meth c s.heap [] 0 0 (MQ below (vp_Si (fun r => r = res)) ([.ref (q 0), .int a1, .int a2] : List Value).toArray s 0 0 (fun _ => False)) (F0 m 2 ls []) := by
    intro n_2
    induction n_2 with
    | zero =>
      intro x3_2 ls hi0_2 hi1_2 hi2_2
      exact (ob_X10_isAtOrAbove_2_zero st a1 a2 x3_2 hok hpa hpb hi0_2 hi1_2 hi2_2).elim
    | succ n_2 ih_2 =>
      intro x3_2 ls hi0_2 hi1_2 hi2_2 he hl
      rw [lp_X10_isAtOrAbove_2] at he
      refine lv_iload_n hx hb dX10_isAtOrAbove_2 rfl (lv_at hl 0 rfl) ?_
      refine lv_if_lt (tgt := 21) hx hb dX10_isAtOrAbove_3 (by decide) (fun h3_1 => ?_) (fun h3_1 => ?_)
      · have he := (if_pos h3_1).symm.trans he
        refine lv_iload_n hx hb dX10_isAtOrAbove_21 rfl (lv_at hl 0 rfl) ?_
        refine lv_iload_n hx hb dX10_isAtOrAbove_22 rfl (lv_at hl 2 rfl) ?_
        refine lv_icmp_ne (tgt := 30) hx hb dX10_isAtOrAbove_23 (by decide) (fun h23_2 => ?_) (fun h23_2 => ?_)
        · have he := (if_neg h23_2).symm.trans he
          refine lv_iconst (v := 0) hx hb dX10_isAtOrAbove_30 (by decide) ?_
          exact W.zret (v := 0) hx hb hr rfl (fun t ht hW => ⟨_, rfl, he, ht⟩) (fun _ h => nomatch h) dX10_isAtOrAbove_31
        · have he := (if_pos h23_2).symm.trans he
          refine lv_iconst (v := 1) hx hb dX10_isAtOrAbove_26 (by decide) ?_
          refine lv_goto (tgt := 31) hx hb dX10_isAtOrAbove_27 (by decide) ?_
          exact W.zret (v := 1) hx hb hr rfl (fun t ht hW => ⟨_, rfl, he, ht⟩) (fun _ h => nomatch h) dX10_isAtOrAbove_31
      · have he := (if_neg h3_1).symm.trans he
        refine lv_iload_n hx hb dX10_isAtOrAbove_6 rfl (lv_at hl 0 rfl) ?_
        refine lv_iload_n hx hb dX10_isAtOrAbove_7 rfl (lv_at hl 2 rfl) ?_
        refine lv_icmp_eq (tgt := 21) hx hb dX10_isAtOrAbove_8 (by decide) (fun h8_3 => ?_) (fun h8_3 => ?_)
        · have he := (if_pos h8_3).symm.trans he
          refine lv_iload_n hx hb dX10_isAtOrAbove_21 rfl (lv_at hl 0 rfl) ?_
          refine lv_iload_n hx hb dX10_isAtOrAbove_22 rfl (lv_at hl 2 rfl) ?_
          refine lv_icmp_ne (tgt := 30) hx hb dX10_isAtOrAbove_23 (by decide) (fun h23_4 => ?_) (fun h23_4 => ?_)
          · have he := (if_neg h23_4).symm.trans he
            refine lv_iconst (v := 0) hx hb dX10_isAtOrAbove_30 (by decide) ?_
            exact W.zret (v := 0) hx hb hr rfl (fun t ht hW => ⟨_, rfl, he, ht⟩) (fun _ h => nomatch h) dX10_isAtOrAbove_31
          · have he := (if_pos h23_4).symm.trans he
            refine lv_iconst (v := 1) hx hb dX10_isAtOrAbove_26 (by decide) ?_
            refine lv_goto (tgt := 31) hx hb dX10_isAtOrAbove_27 (by decide) ?_
            exact W.zret (v := 1) hx hb hr rfl (fun t ht hW => ⟨_, rfl, he, ht⟩) (fun _ h => nomatch h) dX10_isAtOrAbove_31
        · have he := (if_neg h8_3).symm.trans he
          refine lv_aload_n hx hb dX10_isAtOrAbove_11 rfl (lv_at hl 1 rfl) ?_
          refine va_get (D := (dC, dI)) (ci := 10) (v := .ref (q 1)) (C := RX10) (T := TX10) (N := 45) hx hb hts hi10 hown hK.1 hP 0 rfl rfl 2 (by decide) hf13 (fun _ h9 => h9) rfl dX10_isAtOrAbove_12 ?_
          refine lv_iload_n hx hb dX10_isAtOrAbove_15 rfl (lv_at hl 0 rfl) ?_
          refine va_iald hx hb hK.1 hP 1 0 (f := st.2.1 0) (n := 16) (cA := k 0) rfl rfl (i := x3_2) (ob_X10_isAtOrAbove_16_5 st a1 a2 n_2 x3_2 hok hpa hpb hi0_2 hi1_2 hi2_2 h3_1 h8_3) dX10_isAtOrAbove_16 ?_
          refine lv_istore_n (lv' := [(3, .int (st.2.1 0 x3_2.toNatClampNeg)), (0, .ref (q 0)), (1, .int a1), (2, .int a2)]) hx hb dX10_isAtOrAbove_17 rfl hl (by decide) rfl (fun ls hl => ?_)
          refine lv_goto (tgt := 2) hx hb dX10_isAtOrAbove_18 (by decide) ?_
          exact ih_2 (st.2.1 0 x3_2.toNatClampNeg) ls (ob_X10_isAtOrAbove_2_inv0_6 st a1 a2 n_2 x3_2 hok hpa hpb hi0_2 hi1_2 hi2_2 h3_1 h8_3) (ob_X10_isAtOrAbove_2_inv1_7 st a1 a2 n_2 x3_2 hok hpa hpb hi0_2 hi1_2 hi2_2 h3_1 h8_3) (ob_X10_isAtOrAbove_2_inv2_8 st a1 a2 n_2 x3_2 hok hpa hpb hi0_2 hi1_2 hi2_2 h3_1 h8_3) he (lv_sub hl [0, 1, 2, 3] rfl)
  exact k_2 18 a2 ls (ob_X10_isAtOrAbove_2_inv0_9 st a1 a2 hok hpa hpb) (ob_X10_isAtOrAbove_2_inv1_10 st a1 a2 hok hpa hpb) (ob_X10_isAtOrAbove_2_inv2_11 st a1 a2 hok hpa hpb) he (lv_sub hl [0, 1, 2, 3] rfl)
set_option maxHeartbeats 4000000 in
set_option maxRecDepth 100000 in
theorem c_X10_saysYes (l : Launch) (dC : Nat → ClassId) (dI : Nat → Nat → Nat) (q : Nat → Nat) (k : Nat → ClassId) (st : St) (a1 : Int32) (a2 : Int32) (a3 : Int32) (hok : okM st) (hpa : 0 ≤ a2.toInt) (hpb : a2.toInt < 16) (res : Int32) (hres : sp_X10_saysYes st a1 a2 a3 = res) : Met l yX10_saysYes wsX10_saysYes ({ frames := 0, cells := 0, slots := 0, locals := 0 } : Room) (va_Pc [.ref (q 0), .int a1, .int a2, .int a3] (fun U => va_P (dC, dI) vwCl (wM q k st) U.heap ∧ KM (dC, dI) k U)) (vp_Si (fun r => r = res)) 0 0 (fun _ => False) := by
  refine Met.ofW (cc := cX10_saysYes) (maxL := 8) (ret := (some .boolean)) (by decide) rfl ?_
  intro p e s m args below meth c s₁ B hml hv
  obtain ⟨rfl, hP, hK⟩ := hv
  have hx := B.exec
  have hb := B.bytes
  have hr := B.returns
  have hts := atoms_spec (ws := wsX10_saysYes) B.pre
  have hown : s.vm.findClass RX10 = some m.cls := findClass_of_methodNamed B.named
  have hlocks := B.notSynchronized
  have hi10 : ∀ w ∈ wsX100, w ∈ wsX10_saysYes := by decide +kernel
  have hf13 := hts (.fieldLink RX10 13 "ConsentRegisterModel" "parents" "[I") (by decide +kernel)
  have hf20 := hts (.fieldLink RX10 20 "ConsentRegisterModel" "consentPerson" "[I") (by decide +kernel)
  have hf23 := hts (.fieldLink RX10 23 "ConsentRegisterModel" "consentPurpose" "[I") (by decide +kernel)
  have hf26 := hts (.fieldLink RX10 26 "ConsentRegisterModel" "consentMinute" "[I") (by decide +kernel)
  have hf29 := hts (.fieldLink RX10 29 "ConsentRegisterModel" "consentSays" "[Z") (by decide +kernel)
  have hf145 := hts (.fieldLink RX10 145 "ConsentRegisterModel" "consents" "I") (by decide +kernel)
  have hl := lv_entry ([.ref (q 0), .int a1, .int a2, .int a3]) (n := 8) (Nat.le_of_ble_eq_true rfl)
  rw [lg_entry_eq]
  generalize (lg_sl ([.ref (q 0), .int a1, .int a2, .int a3]) ++ List.replicate (8 - (lg_sl ([.ref (q 0), .int a1, .int a2, .int a3])).length) Slot.unset).toArray = ls at hl ⊢
  have hl : lv_has ls 8 [(0, .ref (q 0)), (1, .int a1), (2, .int a2), (3, .int a3)] := hl
  have he := hres
  unfold sp_X10_saysYes at he
  refine lv_iload_n hx hb dX10_saysYes_0 rfl (lv_at hl 2 rfl) ?_
  refine lv_istore (lv' := [(4, .int a2), (0, .ref (q 0)), (1, .int a1), (2, .int a2), (3, .int a3)]) hx hb dX10_saysYes_1 hl (by decide) rfl (fun ls hl => ?_)
  have k_3 : ∀ (n_3 : Nat) (x4_3 : Int32) (ls : Array Slot), -1 ≤ x4_3.toInt → x4_3.toInt < 16 → x4_3.toInt + 1 < n_3 → lp_X10_saysYes_3 st a1 a2 a3 n_3 x4_3 = res → lv_has ls 8 [(4, .int x4_3), (0, .ref (q 0)), (1, .int a1), (2, .int a2), (3, .int a3)] → W p l e (headSpec wsX10_saysYes ({ frames := 0, cells := 0, slots := 0, locals := 0 } : Room)).room s m ([.ref (q 0), .int a1, .int a2, .int a3] : List Value).toArray below meth c s.heap [] 0 0 (MQ below (vp_Si (fun r => r = res)) ([.ref (q 0), .int a1, .int a2, .int a3] : List Value).toArray s 0 0 (fun _ => False)) (F0 m 3 ls []) := by
    intro n_3
    induction n_3 with
    | zero =>
      intro x4_3 ls hi0_3 hi1_3 hi2_3
      exact (ob_X10_saysYes_3_zero st a1 a2 a3 x4_3 hok hpa hpb hi0_3 hi1_3 hi2_3).elim
    | succ n_3 ih_3 =>
      intro x4_3 ls hi0_3 hi1_3 hi2_3 he hl
      rw [lp_X10_saysYes_3] at he
      refine lv_iload hx hb dX10_saysYes_3 (lv_at hl 0 rfl) ?_
      refine lv_if_lt (tgt := 126) hx hb dX10_saysYes_5 (by decide) (fun h5_1 => ?_) (fun h5_1 => ?_)
      · have he := (if_pos h5_1).symm.trans he
        refine lv_iconst (v := 0) hx hb dX10_saysYes_126 (by decide) ?_
        exact W.zret (v := 0) hx hb hr rfl (fun t ht hW => ⟨_, rfl, he, ht⟩) (fun _ h => nomatch h) dX10_saysYes_127
      · have he := (if_neg h5_1).symm.trans he
        refine lv_iconst (v := (-1)) hx hb dX10_saysYes_8 (by decide) ?_
        refine lv_istore (lv' := [(5, .int (-1)), (4, .int x4_3), (0, .ref (q 0)), (1, .int a1), (2, .int a2), (3, .int a3)]) hx hb dX10_saysYes_9 hl (by decide) rfl (fun ls hl => ?_)
        refine lv_iconst (v := 0) hx hb dX10_saysYes_11 (by decide) ?_
        refine lv_istore (lv' := [(6, .int 0), (5, .int (-1)), (4, .int x4_3), (0, .ref (q 0)), (1, .int a1), (2, .int a2), (3, .int a3)]) hx hb dX10_saysYes_12 hl (by decide) rfl (fun ls hl => ?_)
        have k_14 : ∀ (n_14 : Nat) (x6_14 : Int32) (x5_14 : Int32) (ls : Array Slot), 0 ≤ x6_14.toInt → x6_14.toInt ≤ (st.1 2).toInt → (st.1 2).toInt < x6_14.toInt + n_14 → -1 ≤ x5_14.toInt → x5_14.toInt < (st.1 2).toInt → lp_X10_saysYes_14 st a1 a2 a3 x4_3 (lp_X10_saysYes_3 st a1 a2 a3 n_3) n_14 x6_14 x5_14 = res → lv_has ls 8 [(4, .int x4_3), (0, .ref (q 0)), (1, .int a1), (2, .int a2), (3, .int a3), (6, .int x6_14), (5, .int x5_14)] → W p l e (headSpec wsX10_saysYes ({ frames := 0, cells := 0, slots := 0, locals := 0 } : Room)).room s m ([.ref (q 0), .int a1, .int a2, .int a3] : List Value).toArray below meth c s.heap [] 0 0 (MQ below (vp_Si (fun r => r = res)) ([.ref (q 0), .int a1, .int a2, .int a3] : List Value).toArray s 0 0 (fun _ => False)) (F0 m 14 ls []) := by
          intro n_14
          induction n_14 with
          | zero =>
            intro x6_14 x5_14 ls hi0_14 hi1_14 hi2_14 hi3_14 hi4_14
            exact (ob_X10_saysYes_14_zero st a1 a2 a3 n_3 x4_3 x6_14 x5_14 hok hpa hpb hi0_3 hi1_3 hi2_3 h5_1 hi0_14 hi1_14 hi2_14 hi3_14 hi4_14).elim
          | succ n_14 ih_14 =>
            intro x6_14 x5_14 ls hi0_14 hi1_14 hi2_14 hi3_14 hi4_14 he hl
            rw [lp_X10_saysYes_14] at he
            refine lv_iload hx hb dX10_saysYes_14 (lv_at hl 5 rfl) ?_
            refine lv_aload_n hx hb dX10_saysYes_16 rfl (lv_at hl 1 rfl) ?_
            refine va_get (D := (dC, dI)) (ci := 10) (v := .int (st.1 2)) (C := RX10) (T := TX10) (N := 45) hx hb hts hi10 hown hK.1 hP 0 rfl rfl 5 (by decide) hf145 (fun _ h9 => h9) rfl dX10_saysYes_17 ?_
            refine lv_icmp_ge (tgt := 101) hx hb dX10_saysYes_20 (by decide) (fun h20_2 => ?_) (fun h20_2 => ?_)
            · have he := (if_pos h20_2).symm.trans he
              refine lv_iload hx hb dX10_saysYes_101 (lv_at hl 6 rfl) ?_
              refine lv_if_lt (tgt := 114) hx hb dX10_saysYes_103 (by decide) (fun h103_3 => ?_) (fun h103_3 => ?_)
              · have he := (if_pos h103_3).symm.trans he
                refine lv_aload_n hx hb dX10_saysYes_114 rfl (lv_at hl 1 rfl) ?_
                refine va_get (D := (dC, dI)) (ci := 10) (v := .ref (q 1)) (C := RX10) (T := TX10) (N := 45) hx hb hts hi10 hown hK.1 hP 0 rfl rfl 2 (by decide) hf13 (fun _ h9 => h9) rfl dX10_saysYes_115 ?_
                refine lv_iload hx hb dX10_saysYes_118 (lv_at hl 0 rfl) ?_
                refine va_iald hx hb hK.1 hP 1 0 (f := st.2.1 0) (n := 16) (cA := k 0) rfl rfl (i := x4_3) (ob_X10_saysYes_120_4 st a1 a2 a3 n_3 x4_3 n_14 x6_14 x5_14 hok hpa hpb hi0_3 hi1_3 hi2_3 h5_1 hi0_14 hi1_14 hi2_14 hi3_14 hi4_14 h20_2 h103_3) dX10_saysYes_120 ?_
                refine lv_istore (lv' := [(4, .int (st.2.1 0 x4_3.toNatClampNeg)), (0, .ref (q 0)), (1, .int a1), (2, .int a2), (3, .int a3), (6, .int x6_14), (5, .int x5_14)]) hx hb dX10_saysYes_121 hl (by decide) rfl (fun ls hl => ?_)
                refine lv_goto (tgt := 3) hx hb dX10_saysYes_123 (by decide) ?_
                exact ih_3 (st.2.1 0 x4_3.toNatClampNeg) ls (ob_X10_saysYes_3_inv0_5 st a1 a2 a3 n_3 x4_3 n_14 x6_14 x5_14 hok hpa hpb hi0_3 hi1_3 hi2_3 h5_1 hi0_14 hi1_14 hi2_14 hi3_14 hi4_14 h20_2 h103_3) (ob_X10_saysYes_3_inv1_6 st a1 a2 a3 n_3 x4_3 n_14 x6_14 x5_14 hok hpa hpb hi0_3 hi1_3 hi2_3 h5_1 hi0_14 hi1_14 hi2_14 hi3_14 hi4_14 h20_2 h103_3) (ob_X10_saysYes_3_inv2_7 st a1 a2 a3 n_3 x4_3 n_14 x6_14 x5_14 hok hpa hpb hi0_3 hi1_3 hi2_3 h5_1 hi0_14 hi1_14 hi2_14 hi3_14 hi4_14 h20_2 h103_3) he (lv_sub hl [0, 1, 2, 3, 4] rfl)
              · have he := (if_neg h103_3).symm.trans he
                refine lv_aload_n hx hb dX10_saysYes_106 rfl (lv_at hl 1 rfl) ?_
                refine va_get (D := (dC, dI)) (ci := 10) (v := .ref (q 6)) (C := RX10) (T := TX10) (N := 45) hx hb hts hi10 hown hK.1 hP 0 rfl rfl 9 (by decide) hf29 (fun _ h9 => h9) rfl dX10_saysYes_107 ?_
                refine lv_iload hx hb dX10_saysYes_110 (lv_at hl 6 rfl) ?_
                refine va_zald hx hb hK.1 hP 6 5 (f := st.2.1 5) (n := 100) (cA := k 5) rfl rfl (i := x5_14) (ob_X10_saysYes_112_8 st a1 a2 a3 n_3 x4_3 n_14 x6_14 x5_14 hok hpa hpb hi0_3 hi1_3 hi2_3 h5_1 hi0_14 hi1_14 hi2_14 hi3_14 hi4_14 h20_2 h103_3) dX10_saysYes_112 ?_
                exact W.zret (v := st.2.1 5 x5_14.toNatClampNeg) hx hb hr (nar_bool (okM_says hok _)) (fun t ht hW => ⟨_, rfl, he, ht⟩) (fun _ h => nomatch h) dX10_saysYes_113
            · have he := (if_neg h20_2).symm.trans he
              refine lv_aload_n hx hb dX10_saysYes_23 rfl (lv_at hl 1 rfl) ?_
              refine va_get (D := (dC, dI)) (ci := 10) (v := .ref (q 3)) (C := RX10) (T := TX10) (N := 45) hx hb hts hi10 hown hK.1 hP 0 rfl rfl 6 (by decide) hf20 (fun _ h9 => h9) rfl dX10_saysYes_24 ?_
              refine lv_iload hx hb dX10_saysYes_27 (lv_at hl 5 rfl) ?_
              refine va_iald hx hb hK.1 hP 3 2 (f := st.2.1 2) (n := 100) (cA := k 2) rfl rfl (i := x6_14) (ob_X10_saysYes_29_9 st a1 a2 a3 n_3 x4_3 n_14 x6_14 x5_14 hok hpa hpb hi0_3 hi1_3 hi2_3 h5_1 hi0_14 hi1_14 hi2_14 hi3_14 hi4_14 h20_2) dX10_saysYes_29 ?_
              refine lv_iload_n hx hb dX10_saysYes_30 rfl (lv_at hl 2 rfl) ?_
              refine lv_icmp_ne (tgt := 61) hx hb dX10_saysYes_31 (by decide) (fun h31_10 => ?_) (fun h31_10 => ?_)
              · have he := (if_neg h31_10).symm.trans he
                refine lv_iconst (v := 0) hx hb dX10_saysYes_61 (by decide) ?_
                refine lv_istore (lv' := [(7, .int 0), (4, .int x4_3), (0, .ref (q 0)), (1, .int a1), (2, .int a2), (3, .int a3), (6, .int x6_14), (5, .int x5_14)]) hx hb dX10_saysYes_62 hl (by decide) rfl (fun ls hl => ?_)
                refine lv_iload hx hb dX10_saysYes_64 (lv_at hl 0 rfl) ?_
                refine lv_if_eq (tgt := 95) hx hb dX10_saysYes_66 (by decide) (fun _ => ?_) (fun h9 => absurd h9 (by decide))
                refine lv_iinc (v := x6_14 + 1) (lv' := [(6, .int (x6_14 + 1)), (7, .int 0), (4, .int x4_3), (0, .ref (q 0)), (1, .int a1), (2, .int a2), (3, .int a3), (5, .int x5_14)]) hx hb dX10_saysYes_95 hl (k := 6) rfl rfl (by decide) rfl (fun ls hl => ?_)
                refine lv_goto (tgt := 14) hx hb dX10_saysYes_98 (by decide) ?_
                exact ih_14 (x6_14 + 1) x5_14 ls (ob_X10_saysYes_14_inv0_11 st a1 a2 a3 n_3 x4_3 n_14 x6_14 x5_14 hok hpa hpb hi0_3 hi1_3 hi2_3 h5_1 hi0_14 hi1_14 hi2_14 hi3_14 hi4_14 h20_2 h31_10) (ob_X10_saysYes_14_inv1_12 st a1 a2 a3 n_3 x4_3 n_14 x6_14 x5_14 hok hpa hpb hi0_3 hi1_3 hi2_3 h5_1 hi0_14 hi1_14 hi2_14 hi3_14 hi4_14 h20_2 h31_10) (ob_X10_saysYes_14_inv2_13 st a1 a2 a3 n_3 x4_3 n_14 x6_14 x5_14 hok hpa hpb hi0_3 hi1_3 hi2_3 h5_1 hi0_14 hi1_14 hi2_14 hi3_14 hi4_14 h20_2 h31_10) (ob_X10_saysYes_14_inv3_14 st a1 a2 a3 n_3 x4_3 n_14 x6_14 x5_14 hok hpa hpb hi0_3 hi1_3 hi2_3 h5_1 hi0_14 hi1_14 hi2_14 hi3_14 hi4_14 h20_2 h31_10) (ob_X10_saysYes_14_inv4_15 st a1 a2 a3 n_3 x4_3 n_14 x6_14 x5_14 hok hpa hpb hi0_3 hi1_3 hi2_3 h5_1 hi0_14 hi1_14 hi2_14 hi3_14 hi4_14 h20_2 h31_10) he (lv_sub hl [2, 3, 4, 5, 6, 0, 7] rfl)
              · have he := (if_pos h31_10).symm.trans he
                refine lv_aload_n hx hb dX10_saysYes_34 rfl (lv_at hl 1 rfl) ?_
                refine va_get (D := (dC, dI)) (ci := 10) (v := .ref (q 4)) (C := RX10) (T := TX10) (N := 45) hx hb hts hi10 hown hK.1 hP 0 rfl rfl 7 (by decide) hf23 (fun _ h9 => h9) rfl dX10_saysYes_35 ?_
                refine lv_iload hx hb dX10_saysYes_38 (lv_at hl 5 rfl) ?_
                refine va_iald hx hb hK.1 hP 4 3 (f := st.2.1 3) (n := 100) (cA := k 3) rfl rfl (i := x6_14) (ob_X10_saysYes_40_16 st a1 a2 a3 n_3 x4_3 n_14 x6_14 x5_14 hok hpa hpb hi0_3 hi1_3 hi2_3 h5_1 hi0_14 hi1_14 hi2_14 hi3_14 hi4_14 h20_2 h31_10) dX10_saysYes_40 ?_
                refine lv_iload hx hb dX10_saysYes_41 (lv_at hl 0 rfl) ?_
                refine lv_icmp_ne (tgt := 61) hx hb dX10_saysYes_43 (by decide) (fun h43_17 => ?_) (fun h43_17 => ?_)
                · have he := (if_neg h43_17).symm.trans he
                  refine lv_iconst (v := 0) hx hb dX10_saysYes_61 (by decide) ?_
                  refine lv_istore (lv' := [(7, .int 0), (4, .int x4_3), (0, .ref (q 0)), (1, .int a1), (2, .int a2), (3, .int a3), (6, .int x6_14), (5, .int x5_14)]) hx hb dX10_saysYes_62 hl (by decide) rfl (fun ls hl => ?_)
                  refine lv_iload hx hb dX10_saysYes_64 (lv_at hl 0 rfl) ?_
                  refine lv_if_eq (tgt := 95) hx hb dX10_saysYes_66 (by decide) (fun _ => ?_) (fun h9 => absurd h9 (by decide))
                  refine lv_iinc (v := x6_14 + 1) (lv' := [(6, .int (x6_14 + 1)), (7, .int 0), (4, .int x4_3), (0, .ref (q 0)), (1, .int a1), (2, .int a2), (3, .int a3), (5, .int x5_14)]) hx hb dX10_saysYes_95 hl (k := 6) rfl rfl (by decide) rfl (fun ls hl => ?_)
                  refine lv_goto (tgt := 14) hx hb dX10_saysYes_98 (by decide) ?_
                  exact ih_14 (x6_14 + 1) x5_14 ls (ob_X10_saysYes_14_inv0_18 st a1 a2 a3 n_3 x4_3 n_14 x6_14 x5_14 hok hpa hpb hi0_3 hi1_3 hi2_3 h5_1 hi0_14 hi1_14 hi2_14 hi3_14 hi4_14 h20_2 h31_10 h43_17) (ob_X10_saysYes_14_inv1_19 st a1 a2 a3 n_3 x4_3 n_14 x6_14 x5_14 hok hpa hpb hi0_3 hi1_3 hi2_3 h5_1 hi0_14 hi1_14 hi2_14 hi3_14 hi4_14 h20_2 h31_10 h43_17) (ob_X10_saysYes_14_inv2_20 st a1 a2 a3 n_3 x4_3 n_14 x6_14 x5_14 hok hpa hpb hi0_3 hi1_3 hi2_3 h5_1 hi0_14 hi1_14 hi2_14 hi3_14 hi4_14 h20_2 h31_10 h43_17) (ob_X10_saysYes_14_inv3_21 st a1 a2 a3 n_3 x4_3 n_14 x6_14 x5_14 hok hpa hpb hi0_3 hi1_3 hi2_3 h5_1 hi0_14 hi1_14 hi2_14 hi3_14 hi4_14 h20_2 h31_10 h43_17) (ob_X10_saysYes_14_inv4_22 st a1 a2 a3 n_3 x4_3 n_14 x6_14 x5_14 hok hpa hpb hi0_3 hi1_3 hi2_3 h5_1 hi0_14 hi1_14 hi2_14 hi3_14 hi4_14 h20_2 h31_10 h43_17) he (lv_sub hl [2, 3, 4, 5, 6, 0, 7] rfl)
                · have he := (if_pos h43_17).symm.trans he
                  refine lv_aload_n hx hb dX10_saysYes_46 rfl (lv_at hl 1 rfl) ?_
                  refine va_get (D := (dC, dI)) (ci := 10) (v := .ref (q 5)) (C := RX10) (T := TX10) (N := 45) hx hb hts hi10 hown hK.1 hP 0 rfl rfl 8 (by decide) hf26 (fun _ h9 => h9) rfl dX10_saysYes_47 ?_
                  refine lv_iload hx hb dX10_saysYes_50 (lv_at hl 5 rfl) ?_
                  refine va_iald hx hb hK.1 hP 5 4 (f := st.2.1 4) (n := 100) (cA := k 4) rfl rfl (i := x6_14) (ob_X10_saysYes_52_23 st a1 a2 a3 n_3 x4_3 n_14 x6_14 x5_14 hok hpa hpb hi0_3 hi1_3 hi2_3 h5_1 hi0_14 hi1_14 hi2_14 hi3_14 hi4_14 h20_2 h31_10 h43_17) dX10_saysYes_52 ?_
                  refine lv_iload_n hx hb dX10_saysYes_53 rfl (lv_at hl 4 rfl) ?_
                  refine lv_icmp_gt (tgt := 61) hx hb dX10_saysYes_54 (by decide) (fun h54_24 => ?_) (fun h54_24 => ?_)
                  · have he := (if_pos h54_24).symm.trans he
                    refine lv_iconst (v := 0) hx hb dX10_saysYes_61 (by decide) ?_
                    refine lv_istore (lv' := [(7, .int 0), (4, .int x4_3), (0, .ref (q 0)), (1, .int a1), (2, .int a2), (3, .int a3), (6, .int x6_14), (5, .int x5_14)]) hx hb dX10_saysYes_62 hl (by decide) rfl (fun ls hl => ?_)
                    refine lv_iload hx hb dX10_saysYes_64 (lv_at hl 0 rfl) ?_
                    refine lv_if_eq (tgt := 95) hx hb dX10_saysYes_66 (by decide) (fun _ => ?_) (fun h9 => absurd h9 (by decide))
                    refine lv_iinc (v := x6_14 + 1) (lv' := [(6, .int (x6_14 + 1)), (7, .int 0), (4, .int x4_3), (0, .ref (q 0)), (1, .int a1), (2, .int a2), (3, .int a3), (5, .int x5_14)]) hx hb dX10_saysYes_95 hl (k := 6) rfl rfl (by decide) rfl (fun ls hl => ?_)
                    refine lv_goto (tgt := 14) hx hb dX10_saysYes_98 (by decide) ?_
                    exact ih_14 (x6_14 + 1) x5_14 ls (ob_X10_saysYes_14_inv0_25 st a1 a2 a3 n_3 x4_3 n_14 x6_14 x5_14 hok hpa hpb hi0_3 hi1_3 hi2_3 h5_1 hi0_14 hi1_14 hi2_14 hi3_14 hi4_14 h20_2 h31_10 h43_17 h54_24) (ob_X10_saysYes_14_inv1_26 st a1 a2 a3 n_3 x4_3 n_14 x6_14 x5_14 hok hpa hpb hi0_3 hi1_3 hi2_3 h5_1 hi0_14 hi1_14 hi2_14 hi3_14 hi4_14 h20_2 h31_10 h43_17 h54_24) (ob_X10_saysYes_14_inv2_27 st a1 a2 a3 n_3 x4_3 n_14 x6_14 x5_14 hok hpa hpb hi0_3 hi1_3 hi2_3 h5_1 hi0_14 hi1_14 hi2_14 hi3_14 hi4_14 h20_2 h31_10 h43_17 h54_24) (ob_X10_saysYes_14_inv3_28 st a1 a2 a3 n_3 x4_3 n_14 x6_14 x5_14 hok hpa hpb hi0_3 hi1_3 hi2_3 h5_1 hi0_14 hi1_14 hi2_14 hi3_14 hi4_14 h20_2 h31_10 h43_17 h54_24) (ob_X10_saysYes_14_inv4_29 st a1 a2 a3 n_3 x4_3 n_14 x6_14 x5_14 hok hpa hpb hi0_3 hi1_3 hi2_3 h5_1 hi0_14 hi1_14 hi2_14 hi3_14 hi4_14 h20_2 h31_10 h43_17 h54_24) he (lv_sub hl [2, 3, 4, 5, 6, 0, 7] rfl)
                  · have he := (if_neg h54_24).symm.trans he
                    refine lv_iconst (v := 1) hx hb dX10_saysYes_57 (by decide) ?_
                    refine lv_goto (tgt := 62) hx hb dX10_saysYes_58 (by decide) ?_
                    refine lv_istore (lv' := [(7, .int 1), (4, .int x4_3), (0, .ref (q 0)), (1, .int a1), (2, .int a2), (3, .int a3), (6, .int x6_14), (5, .int x5_14)]) hx hb dX10_saysYes_62 hl (by decide) rfl (fun ls hl => ?_)
                    refine lv_iload hx hb dX10_saysYes_64 (lv_at hl 0 rfl) ?_
                    refine lv_if_eq (tgt := 95) hx hb dX10_saysYes_66 (by decide) (fun h9 => absurd h9 (by decide)) (fun _ => ?_)
                    refine lv_iload hx hb dX10_saysYes_69 (lv_at hl 7 rfl) ?_
                    refine lv_if_lt (tgt := 91) hx hb dX10_saysYes_71 (by decide) (fun h71_30 => ?_) (fun h71_30 => ?_)
                    · have he := (if_pos h71_30).symm.trans he
                      refine lv_iload hx hb dX10_saysYes_91 (lv_at hl 6 rfl) ?_
                      refine lv_istore (lv' := [(5, .int x6_14), (7, .int 1), (4, .int x4_3), (0, .ref (q 0)), (1, .int a1), (2, .int a2), (3, .int a3), (6, .int x6_14)]) hx hb dX10_saysYes_93 hl (by decide) rfl (fun ls hl => ?_)
                      refine lv_iinc (v := x6_14 + 1) (lv' := [(6, .int (x6_14 + 1)), (5, .int x6_14), (7, .int 1), (4, .int x4_3), (0, .ref (q 0)), (1, .int a1), (2, .int a2), (3, .int a3)]) hx hb dX10_saysYes_95 hl (k := 7) rfl rfl (by decide) rfl (fun ls hl => ?_)
                      refine lv_goto (tgt := 14) hx hb dX10_saysYes_98 (by decide) ?_
                      exact ih_14 (x6_14 + 1) x6_14 ls (ob_X10_saysYes_14_inv0_31 st a1 a2 a3 n_3 x4_3 n_14 x6_14 x5_14 hok hpa hpb hi0_3 hi1_3 hi2_3 h5_1 hi0_14 hi1_14 hi2_14 hi3_14 hi4_14 h20_2 h31_10 h43_17 h54_24 h71_30) (ob_X10_saysYes_14_inv1_32 st a1 a2 a3 n_3 x4_3 n_14 x6_14 x5_14 hok hpa hpb hi0_3 hi1_3 hi2_3 h5_1 hi0_14 hi1_14 hi2_14 hi3_14 hi4_14 h20_2 h31_10 h43_17 h54_24 h71_30) (ob_X10_saysYes_14_inv2_33 st a1 a2 a3 n_3 x4_3 n_14 x6_14 x5_14 hok hpa hpb hi0_3 hi1_3 hi2_3 h5_1 hi0_14 hi1_14 hi2_14 hi3_14 hi4_14 h20_2 h31_10 h43_17 h54_24 h71_30) (ob_X10_saysYes_14_inv3_34 st a1 a2 a3 n_3 x4_3 n_14 x6_14 x5_14 hok hpa hpb hi0_3 hi1_3 hi2_3 h5_1 hi0_14 hi1_14 hi2_14 hi3_14 hi4_14 h20_2 h31_10 h43_17 h54_24 h71_30) (ob_X10_saysYes_14_inv4_35 st a1 a2 a3 n_3 x4_3 n_14 x6_14 x5_14 hok hpa hpb hi0_3 hi1_3 hi2_3 h5_1 hi0_14 hi1_14 hi2_14 hi3_14 hi4_14 h20_2 h31_10 h43_17 h54_24 h71_30) he (lv_sub hl [3, 4, 5, 6, 7, 0, 1] rfl)
                    · have he := (if_neg h71_30).symm.trans he
                      refine lv_aload_n hx hb dX10_saysYes_74 rfl (lv_at hl 2 rfl) ?_
                      refine va_get (D := (dC, dI)) (ci := 10) (v := .ref (q 5)) (C := RX10) (T := TX10) (N := 45) hx hb hts hi10 hown hK.1 hP 0 rfl rfl 8 (by decide) hf26 (fun _ h9 => h9) rfl dX10_saysYes_75 ?_
                      refine lv_iload hx hb dX10_saysYes_78 (lv_at hl 6 rfl) ?_
                      refine va_iald hx hb hK.1 hP 5 4 (f := st.2.1 4) (n := 100) (cA := k 4) rfl rfl (i := x6_14) (ob_X10_saysYes_80_36 st a1 a2 a3 n_3 x4_3 n_14 x6_14 x5_14 hok hpa hpb hi0_3 hi1_3 hi2_3 h5_1 hi0_14 hi1_14 hi2_14 hi3_14 hi4_14 h20_2 h31_10 h43_17 h54_24 h71_30) dX10_saysYes_80 ?_
                      refine lv_aload_n hx hb dX10_saysYes_81 rfl (lv_at hl 2 rfl) ?_
                      refine va_get (D := (dC, dI)) (ci := 10) (v := .ref (q 5)) (C := RX10) (T := TX10) (N := 45) hx hb hts hi10 hown hK.1 hP 0 rfl rfl 8 (by decide) hf26 (fun _ h9 => h9) rfl dX10_saysYes_82 ?_
                      refine lv_iload hx hb dX10_saysYes_85 (lv_at hl 7 rfl) ?_
                      refine va_iald hx hb hK.1 hP 5 4 (f := st.2.1 4) (n := 100) (cA := k 4) rfl rfl (i := x5_14) (ob_X10_saysYes_87_37 st a1 a2 a3 n_3 x4_3 n_14 x6_14 x5_14 hok hpa hpb hi0_3 hi1_3 hi2_3 h5_1 hi0_14 hi1_14 hi2_14 hi3_14 hi4_14 h20_2 h31_10 h43_17 h54_24 h71_30) dX10_saysYes_87 ?_
                      refine lv_icmp_lt (tgt := 95) hx hb dX10_saysYes_88 (by decide) (fun h88_38 => ?_) (fun h88_38 => ?_)
                      · have he := (if_pos h88_38).symm.trans he
                        refine lv_iinc (v := x6_14 + 1) (lv' := [(6, .int (x6_14 + 1)), (7, .int 1), (4, .int x4_3), (0, .ref (q 0)), (1, .int a1), (2, .int a2), (3, .int a3), (5, .int x5_14)]) hx hb dX10_saysYes_95 hl (k := 6) rfl rfl (by decide) rfl (fun ls hl => ?_)
                        refine lv_goto (tgt := 14) hx hb dX10_saysYes_98 (by decide) ?_
                        exact ih_14 (x6_14 + 1) x5_14 ls (ob_X10_saysYes_14_inv0_39 st a1 a2 a3 n_3 x4_3 n_14 x6_14 x5_14 hok hpa hpb hi0_3 hi1_3 hi2_3 h5_1 hi0_14 hi1_14 hi2_14 hi3_14 hi4_14 h20_2 h31_10 h43_17 h54_24 h71_30 h88_38) (ob_X10_saysYes_14_inv1_40 st a1 a2 a3 n_3 x4_3 n_14 x6_14 x5_14 hok hpa hpb hi0_3 hi1_3 hi2_3 h5_1 hi0_14 hi1_14 hi2_14 hi3_14 hi4_14 h20_2 h31_10 h43_17 h54_24 h71_30 h88_38) (ob_X10_saysYes_14_inv2_41 st a1 a2 a3 n_3 x4_3 n_14 x6_14 x5_14 hok hpa hpb hi0_3 hi1_3 hi2_3 h5_1 hi0_14 hi1_14 hi2_14 hi3_14 hi4_14 h20_2 h31_10 h43_17 h54_24 h71_30 h88_38) (ob_X10_saysYes_14_inv3_42 st a1 a2 a3 n_3 x4_3 n_14 x6_14 x5_14 hok hpa hpb hi0_3 hi1_3 hi2_3 h5_1 hi0_14 hi1_14 hi2_14 hi3_14 hi4_14 h20_2 h31_10 h43_17 h54_24 h71_30 h88_38) (ob_X10_saysYes_14_inv4_43 st a1 a2 a3 n_3 x4_3 n_14 x6_14 x5_14 hok hpa hpb hi0_3 hi1_3 hi2_3 h5_1 hi0_14 hi1_14 hi2_14 hi3_14 hi4_14 h20_2 h31_10 h43_17 h54_24 h71_30 h88_38) he (lv_sub hl [2, 3, 4, 5, 6, 0, 7] rfl)
                      · have he := (if_neg h88_38).symm.trans he
                        refine lv_iload hx hb dX10_saysYes_91 (lv_at hl 6 rfl) ?_
                        refine lv_istore (lv' := [(5, .int x6_14), (7, .int 1), (4, .int x4_3), (0, .ref (q 0)), (1, .int a1), (2, .int a2), (3, .int a3), (6, .int x6_14)]) hx hb dX10_saysYes_93 hl (by decide) rfl (fun ls hl => ?_)
                        refine lv_iinc (v := x6_14 + 1) (lv' := [(6, .int (x6_14 + 1)), (5, .int x6_14), (7, .int 1), (4, .int x4_3), (0, .ref (q 0)), (1, .int a1), (2, .int a2), (3, .int a3)]) hx hb dX10_saysYes_95 hl (k := 7) rfl rfl (by decide) rfl (fun ls hl => ?_)
                        refine lv_goto (tgt := 14) hx hb dX10_saysYes_98 (by decide) ?_
                        exact ih_14 (x6_14 + 1) x6_14 ls (ob_X10_saysYes_14_inv0_44 st a1 a2 a3 n_3 x4_3 n_14 x6_14 x5_14 hok hpa hpb hi0_3 hi1_3 hi2_3 h5_1 hi0_14 hi1_14 hi2_14 hi3_14 hi4_14 h20_2 h31_10 h43_17 h54_24 h71_30 h88_38) (ob_X10_saysYes_14_inv1_45 st a1 a2 a3 n_3 x4_3 n_14 x6_14 x5_14 hok hpa hpb hi0_3 hi1_3 hi2_3 h5_1 hi0_14 hi1_14 hi2_14 hi3_14 hi4_14 h20_2 h31_10 h43_17 h54_24 h71_30 h88_38) (ob_X10_saysYes_14_inv2_46 st a1 a2 a3 n_3 x4_3 n_14 x6_14 x5_14 hok hpa hpb hi0_3 hi1_3 hi2_3 h5_1 hi0_14 hi1_14 hi2_14 hi3_14 hi4_14 h20_2 h31_10 h43_17 h54_24 h71_30 h88_38) (ob_X10_saysYes_14_inv3_47 st a1 a2 a3 n_3 x4_3 n_14 x6_14 x5_14 hok hpa hpb hi0_3 hi1_3 hi2_3 h5_1 hi0_14 hi1_14 hi2_14 hi3_14 hi4_14 h20_2 h31_10 h43_17 h54_24 h71_30 h88_38) (ob_X10_saysYes_14_inv4_48 st a1 a2 a3 n_3 x4_3 n_14 x6_14 x5_14 hok hpa hpb hi0_3 hi1_3 hi2_3 h5_1 hi0_14 hi1_14 hi2_14 hi3_14 hi4_14 h20_2 h31_10 h43_17 h54_24 h71_30 h88_38) he (lv_sub hl [3, 4, 5, 6, 7, 0, 1] rfl)
        exact k_14 ((st.1 2).toInt.toNat + 1) 0 (-1) ls (ob_X10_saysYes_14_inv0_49 st a1 a2 a3 n_3 x4_3 hok hpa hpb hi0_3 hi1_3 hi2_3 h5_1) (ob_X10_saysYes_14_inv1_50 st a1 a2 a3 n_3 x4_3 hok hpa hpb hi0_3 hi1_3 hi2_3 h5_1) (ob_X10_saysYes_14_inv2_51 st a1 a2 a3 n_3 x4_3 hok hpa hpb hi0_3 hi1_3 hi2_3 h5_1) (ob_X10_saysYes_14_inv3_52 st a1 a2 a3 n_3 x4_3 hok hpa hpb hi0_3 hi1_3 hi2_3 h5_1) (ob_X10_saysYes_14_inv4_53 st a1 a2 a3 n_3 x4_3 hok hpa hpb hi0_3 hi1_3 hi2_3 h5_1) he (lv_sub hl [2, 3, 4, 5, 6, 0, 1] rfl)
  exact k_3 18 a2 ls (ob_X10_saysYes_3_inv0_54 st a1 a2 a3 hok hpa hpb) (ob_X10_saysYes_3_inv1_55 st a1 a2 a3 hok hpa hpb) (ob_X10_saysYes_3_inv2_56 st a1 a2 a3 hok hpa hpb) he (lv_sub hl [0, 1, 2, 3, 4] rfl)
set_option maxHeartbeats 4000000 in
set_option maxRecDepth 100000 in
theorem c_X10_allSayYes (l : Launch) (dC : Nat → ClassId) (dI : Nat → Nat → Nat) (q : Nat → Nat) (k : Nat → ClassId) (st : St) (a1 : Int32) (a2 : Int32) (a3 : Int32) (hok : okM st) (hva1 : vp_in a1 100) (hpa : 0 ≤ a2.toInt) (hpb : a2.toInt < 16) (res : Int32) (hres : sp_X10_allSayYes st a1 a2 a3 = res) : Met l yX10_allSayYes wsX10_allSayYes ({ frames := 1, cells := 0, slots := 0, locals := 27 } : Room) (va_Pc [.ref (q 0), .int a1, .int a2, .int a3] (fun U => va_P (dC, dI) vwCl (wM q k st) U.heap ∧ KM (dC, dI) k U)) (vp_Si (fun r => r = res)) 0 0 (fun _ => False) := by
  refine Met.ofW (cc := cX10_allSayYes) (maxL := 5) (ret := (some .boolean)) (by decide) rfl ?_
  intro p e s m args below meth c s₁ B hml hv
  obtain ⟨rfl, hP, hK⟩ := hv
  have hx := B.exec
  have hb := B.bytes
  have hr := B.returns
  have hts := atoms_spec (ws := wsX10_allSayYes) B.pre
  have hown : s.vm.findClass RX10 = some m.cls := findClass_of_methodNamed B.named
  have hlocks := B.notSynchronized
  have hi10 : ∀ w ∈ wsX100, w ∈ wsX10_allSayYes := by decide +kernel
  have hf63 := hts (.fieldLink RX10 63 "ConsentRegisterModel" "itemPersons" "[I") (by decide +kernel)
  have hl := lv_entry ([.ref (q 0), .int a1, .int a2, .int a3]) (n := 5) (Nat.le_of_ble_eq_true rfl)
  rw [lg_entry_eq]
  generalize (lg_sl ([.ref (q 0), .int a1, .int a2, .int a3]) ++ List.replicate (5 - (lg_sl ([.ref (q 0), .int a1, .int a2, .int a3])).length) Slot.unset).toArray = ls at hl ⊢
  have hl : lv_has ls 5 [(0, .ref (q 0)), (1, .int a1), (2, .int a2), (3, .int a3)] := hl
  have he := hres
  unfold sp_X10_allSayYes at he
  refine lv_iconst (v := 0) hx hb dX10_allSayYes_0 (by decide) ?_
  refine lv_istore (lv' := [(4, .int 0), (0, .ref (q 0)), (1, .int a1), (2, .int a2), (3, .int a3)]) hx hb dX10_allSayYes_1 hl (by decide) rfl (fun ls hl => ?_)
  have k_3 : ∀ (n_3 : Nat) (x4_3 : Int32) (ls : Array Slot), 0 ≤ x4_3.toInt → x4_3.toInt ≤ ((16 : Int32)).toInt → ((16 : Int32)).toInt < x4_3.toInt + n_3 → lp_X10_allSayYes_3 st a1 a2 a3 n_3 x4_3 = res → lv_has ls 5 [(4, .int x4_3), (0, .ref (q 0)), (1, .int a1), (2, .int a2), (3, .int a3)] → W p l e (headSpec wsX10_allSayYes ({ frames := 1, cells := 0, slots := 0, locals := 27 } : Room)).room s m ([.ref (q 0), .int a1, .int a2, .int a3] : List Value).toArray below meth c s.heap [] 0 0 (MQ below (vp_Si (fun r => r = res)) ([.ref (q 0), .int a1, .int a2, .int a3] : List Value).toArray s 0 0 (fun _ => False)) (F0 m 3 ls []) := by
    intro n_3
    induction n_3 with
    | zero =>
      intro x4_3 ls hi0_3 hi1_3 hi2_3
      exact (ob_X10_allSayYes_3_zero st a1 a2 a3 x4_3 hok hva1 hpa hpb hi0_3 hi1_3 hi2_3).elim
    | succ n_3 ih_3 =>
      intro x4_3 ls hi0_3 hi1_3 hi2_3 he hl
      rw [lp_X10_allSayYes_3] at he
      refine lv_iload hx hb dX10_allSayYes_3 (lv_at hl 0 rfl) ?_
      refine lv_bipush (v := 16) hx hb dX10_allSayYes_5 (by decide) ?_
      refine lv_icmp_ge (tgt := 44) hx hb dX10_allSayYes_7 (by decide) (fun h7_1 => ?_) (fun h7_1 => ?_)
      · have he := (if_pos h7_1).symm.trans he
        refine lv_iconst (v := 1) hx hb dX10_allSayYes_44 (by decide) ?_
        exact W.zret (v := 1) hx hb hr rfl (fun t ht hW => ⟨_, rfl, he, ht⟩) (fun _ h => nomatch h) dX10_allSayYes_45
      · have he := (if_neg h7_1).symm.trans he
        refine lv_aload_n hx hb dX10_allSayYes_10 rfl (lv_at hl 1 rfl) ?_
        refine va_get (D := (dC, dI)) (ci := 10) (v := .ref (q 23)) (C := RX10) (T := TX10) (N := 45) hx hb hts hi10 hown hK.1 hP 0 rfl rfl 23 (by decide) hf63 (fun _ h9 => h9) rfl dX10_allSayYes_11 ?_
        refine lv_iload_n hx hb dX10_allSayYes_14 rfl (lv_at hl 2 rfl) ?_
        refine va_iald hx hb hK.1 hP 23 22 (f := st.2.1 22) (n := 100) (cA := k 22) rfl rfl (i := a1) (ob_X10_allSayYes_15_2 st a1 a2 a3 n_3 x4_3 hok hva1 hpa hpb hi0_3 hi1_3 hi2_3 h7_1) dX10_allSayYes_15 ?_
        refine lv_iload hx hb dX10_allSayYes_16 (lv_at hl 0 rfl) ?_
        refine lv_ishr hx hb dX10_allSayYes_18 ?_
        refine lv_iconst (v := 1) hx hb dX10_allSayYes_19 (by decide) ?_
        refine lv_iand hx hb dX10_allSayYes_20 ?_
        refine lv_iconst (v := 1) hx hb dX10_allSayYes_21 (by decide) ?_
        refine lv_icmp_ne (tgt := 38) hx hb dX10_allSayYes_22 (by decide) (fun h22_3 => ?_) (fun h22_3 => ?_)
        · have he := (if_neg h22_3).symm.trans he
          refine lv_iinc (v := x4_3 + 1) (lv' := [(4, .int (x4_3 + 1)), (0, .ref (q 0)), (1, .int a1), (2, .int a2), (3, .int a3)]) hx hb dX10_allSayYes_38 hl (k := 0) rfl rfl (by decide) rfl (fun ls hl => ?_)
          refine lv_goto (tgt := 3) hx hb dX10_allSayYes_41 (by decide) ?_
          exact ih_3 (x4_3 + 1) ls (ob_X10_allSayYes_3_inv0_4 st a1 a2 a3 n_3 x4_3 hok hva1 hpa hpb hi0_3 hi1_3 hi2_3 h7_1 h22_3) (ob_X10_allSayYes_3_inv1_5 st a1 a2 a3 n_3 x4_3 hok hva1 hpa hpb hi0_3 hi1_3 hi2_3 h7_1 h22_3) (ob_X10_allSayYes_3_inv2_6 st a1 a2 a3 n_3 x4_3 hok hva1 hpa hpb hi0_3 hi1_3 hi2_3 h7_1 h22_3) he (lv_sub hl [0, 1, 2, 3, 4] rfl)
        · have he := (if_pos h22_3).symm.trans he
          refine lv_aload_n hx hb dX10_allSayYes_25 rfl (lv_at hl 1 rfl) ?_
          refine lv_iload hx hb dX10_allSayYes_26 (lv_at hl 0 rfl) ?_
          refine lv_iload_n hx hb dX10_allSayYes_28 rfl (lv_at hl 3 rfl) ?_
          refine lv_iload_n hx hb dX10_allSayYes_29 rfl (lv_at hl 4 rfl) ?_
          refine vp_callSi (va_Run.run (va_runV (As := [.int x4_3, .int a2, .int a3]) (rest := []) ⟨hx, hb, hml, hown, hts⟩ (c_X10_saysYes l dC dI q k st x4_3 a2 a3 hok hpa hpb _ rfl) (cwV 3 hts gX10_allSayYes_X10_saysYes rfl rfl rfl (by decide +kernel) ⟨Nat.le_of_ble_eq_true rfl, Nat.le_of_ble_eq_true rfl⟩) ⟨fb_M, va_recv hK.1 hP (ci := 10) (q0 := 0) rfl rfl, fun U hU hW => ⟨rfl, by rw [hU]; exact hP, hK.warm hW⟩⟩ rfl rfl hl.1 rfl (lv_room (Nat.le_of_ble_eq_true rfl)) dX10_allSayYes_30 ⟨Nat.le_of_ble_eq_true rfl, Nat.le_of_ble_eq_true rfl⟩)) (fun r9 e9 => ?_)
          subst e9
          refine lv_if_ne (tgt := 38) hx hb dX10_allSayYes_33 (by decide) (fun h33_7 => ?_) (fun h33_7 => ?_)
          · have he := (if_neg h33_7).symm.trans he
            refine lv_iinc (v := x4_3 + 1) (lv' := [(4, .int (x4_3 + 1)), (0, .ref (q 0)), (1, .int a1), (2, .int a2), (3, .int a3)]) hx hb dX10_allSayYes_38 hl (k := 0) rfl rfl (by decide) rfl (fun ls hl => ?_)
            refine lv_goto (tgt := 3) hx hb dX10_allSayYes_41 (by decide) ?_
            exact ih_3 (x4_3 + 1) ls (ob_X10_allSayYes_3_inv0_8 st a1 a2 a3 n_3 x4_3 hok hva1 hpa hpb hi0_3 hi1_3 hi2_3 h7_1 h22_3 h33_7) (ob_X10_allSayYes_3_inv1_9 st a1 a2 a3 n_3 x4_3 hok hva1 hpa hpb hi0_3 hi1_3 hi2_3 h7_1 h22_3 h33_7) (ob_X10_allSayYes_3_inv2_10 st a1 a2 a3 n_3 x4_3 hok hva1 hpa hpb hi0_3 hi1_3 hi2_3 h7_1 h22_3 h33_7) he (lv_sub hl [0, 1, 2, 3, 4] rfl)
          · have he := (if_pos h33_7).symm.trans he
            refine lv_iconst (v := 0) hx hb dX10_allSayYes_36 (by decide) ?_
            exact W.zret (v := 0) hx hb hr rfl (fun t ht hW => ⟨_, rfl, he, ht⟩) (fun _ h => nomatch h) dX10_allSayYes_37
  exact k_3 (((16 : Int32)).toInt.toNat + 1) 0 ls (ob_X10_allSayYes_3_inv0_11 st a1 a2 a3 hok hva1 hpa hpb) (ob_X10_allSayYes_3_inv1_12 st a1 a2 a3 hok hva1 hpa hpb) (ob_X10_allSayYes_3_inv2_13 st a1 a2 a3 hok hva1 hpa hpb) he (lv_sub hl [0, 1, 2, 3, 4] rfl)
set_option maxHeartbeats 4000000 in
set_option maxRecDepth 100000 in
theorem c_X10_hasContract (l : Launch) (dC : Nat → ClassId) (dI : Nat → Nat → Nat) (q : Nat → Nat) (k : Nat → ClassId) (st : St) (a1 : Int32) (a2 : Int32) (a3 : Int32) (hok : okM st) (hva1 : vp_in a1 100) (hpa : 0 ≤ a2.toInt) (hpb : a2.toInt < 16) (res : Int32) (hres : sp_X10_hasContract st a1 a2 a3 = res) : Met l yX10_hasContract wsX10_hasContract ({ frames := 1, cells := 0, slots := 0, locals := 23 } : Room) (va_Pc [.ref (q 0), .int a1, .int a2, .int a3] (fun U => va_P (dC, dI) vwCl (wM q k st) U.heap ∧ KM (dC, dI) k U)) (vp_Si (fun r => r = res)) 0 0 (fun _ => False) := by
  refine Met.ofW (cc := cX10_hasContract) (maxL := 5) (ret := (some .boolean)) (by decide) rfl ?_
  intro p e s m args below meth c s₁ B hml hv
  obtain ⟨rfl, hP, hK⟩ := hv
  have hx := B.exec
  have hb := B.bytes
  have hr := B.returns
  have hts := atoms_spec (ws := wsX10_hasContract) B.pre
  have hown : s.vm.findClass RX10 = some m.cls := findClass_of_methodNamed B.named
  have hlocks := B.notSynchronized
  have hi10 : ∀ w ∈ wsX100, w ∈ wsX10_hasContract := by decide +kernel
  have hf33 := hts (.fieldLink RX10 33 "ConsentRegisterModel" "contractPerson" "[I") (by decide +kernel)
  have hf36 := hts (.fieldLink RX10 36 "ConsentRegisterModel" "contractPurpose" "[I") (by decide +kernel)
  have hf39 := hts (.fieldLink RX10 39 "ConsentRegisterModel" "contractFrom" "[I") (by decide +kernel)
  have hf42 := hts (.fieldLink RX10 42 "ConsentRegisterModel" "contractTo" "[I") (by decide +kernel)
  have hf63 := hts (.fieldLink RX10 63 "ConsentRegisterModel" "itemPersons" "[I") (by decide +kernel)
  have hf148 := hts (.fieldLink RX10 148 "ConsentRegisterModel" "contracts" "I") (by decide +kernel)
  have hl := lv_entry ([.ref (q 0), .int a1, .int a2, .int a3]) (n := 5) (Nat.le_of_ble_eq_true rfl)
  rw [lg_entry_eq]
  generalize (lg_sl ([.ref (q 0), .int a1, .int a2, .int a3]) ++ List.replicate (5 - (lg_sl ([.ref (q 0), .int a1, .int a2, .int a3])).length) Slot.unset).toArray = ls at hl ⊢
  have hl : lv_has ls 5 [(0, .ref (q 0)), (1, .int a1), (2, .int a2), (3, .int a3)] := hl
  have he := hres
  unfold sp_X10_hasContract at he
  refine lv_iconst (v := 0) hx hb dX10_hasContract_0 (by decide) ?_
  refine lv_istore (lv' := [(4, .int 0), (0, .ref (q 0)), (1, .int a1), (2, .int a2), (3, .int a3)]) hx hb dX10_hasContract_1 hl (by decide) rfl (fun ls hl => ?_)
  have k_3 : ∀ (n_3 : Nat) (x4_3 : Int32) (ls : Array Slot), 0 ≤ x4_3.toInt → x4_3.toInt ≤ (st.1 3).toInt → (st.1 3).toInt < x4_3.toInt + n_3 → lp_X10_hasContract_3 st a1 a2 a3 n_3 x4_3 = res → lv_has ls 5 [(4, .int x4_3), (0, .ref (q 0)), (1, .int a1), (2, .int a2), (3, .int a3)] → W p l e (headSpec wsX10_hasContract ({ frames := 1, cells := 0, slots := 0, locals := 23 } : Room)).room s m ([.ref (q 0), .int a1, .int a2, .int a3] : List Value).toArray below meth c s.heap [] 0 0 (MQ below (vp_Si (fun r => r = res)) ([.ref (q 0), .int a1, .int a2, .int a3] : List Value).toArray s 0 0 (fun _ => False)) (F0 m 3 ls []) := by
    intro n_3
    induction n_3 with
    | zero =>
      intro x4_3 ls hi0_3 hi1_3 hi2_3
      exact (ob_X10_hasContract_3_zero st a1 a2 a3 x4_3 hok hva1 hpa hpb hi0_3 hi1_3 hi2_3).elim
    | succ n_3 ih_3 =>
      intro x4_3 ls hi0_3 hi1_3 hi2_3 he hl
      rw [lp_X10_hasContract_3] at he
      refine lv_iload hx hb dX10_hasContract_3 (lv_at hl 0 rfl) ?_
      refine lv_aload_n hx hb dX10_hasContract_5 rfl (lv_at hl 1 rfl) ?_
      refine va_get (D := (dC, dI)) (ci := 10) (v := .int (st.1 3)) (C := RX10) (T := TX10) (N := 45) hx hb hts hi10 hown hK.1 hP 0 rfl rfl 10 (by decide) hf148 (fun _ h9 => h9) rfl dX10_hasContract_6 ?_
      refine lv_icmp_ge (tgt := 77) hx hb dX10_hasContract_9 (by decide) (fun h9_1 => ?_) (fun h9_1 => ?_)
      · have he := (if_pos h9_1).symm.trans he
        refine lv_iconst (v := 0) hx hb dX10_hasContract_77 (by decide) ?_
        exact W.zret (v := 0) hx hb hr rfl (fun t ht hW => ⟨_, rfl, he, ht⟩) (fun _ h => nomatch h) dX10_hasContract_78
      · have he := (if_neg h9_1).symm.trans he
        refine lv_aload_n hx hb dX10_hasContract_12 rfl (lv_at hl 1 rfl) ?_
        refine va_get (D := (dC, dI)) (ci := 10) (v := .ref (q 23)) (C := RX10) (T := TX10) (N := 45) hx hb hts hi10 hown hK.1 hP 0 rfl rfl 23 (by decide) hf63 (fun _ h9 => h9) rfl dX10_hasContract_13 ?_
        refine lv_iload_n hx hb dX10_hasContract_16 rfl (lv_at hl 2 rfl) ?_
        refine va_iald hx hb hK.1 hP 23 22 (f := st.2.1 22) (n := 100) (cA := k 22) rfl rfl (i := a1) (ob_X10_hasContract_17_2 st a1 a2 a3 n_3 x4_3 hok hva1 hpa hpb hi0_3 hi1_3 hi2_3 h9_1) dX10_hasContract_17 ?_
        refine lv_aload_n hx hb dX10_hasContract_18 rfl (lv_at hl 1 rfl) ?_
        refine va_get (D := (dC, dI)) (ci := 10) (v := .ref (q 7)) (C := RX10) (T := TX10) (N := 45) hx hb hts hi10 hown hK.1 hP 0 rfl rfl 11 (by decide) hf33 (fun _ h9 => h9) rfl dX10_hasContract_19 ?_
        refine lv_iload hx hb dX10_hasContract_22 (lv_at hl 0 rfl) ?_
        refine va_iald hx hb hK.1 hP 7 6 (f := st.2.1 6) (n := 40) (cA := k 6) rfl rfl (i := x4_3) (ob_X10_hasContract_24_3 st a1 a2 a3 n_3 x4_3 hok hva1 hpa hpb hi0_3 hi1_3 hi2_3 h9_1) dX10_hasContract_24 ?_
        refine lv_ishr hx hb dX10_hasContract_25 ?_
        refine lv_iconst (v := 1) hx hb dX10_hasContract_26 (by decide) ?_
        refine lv_iand hx hb dX10_hasContract_27 ?_
        refine lv_iconst (v := 1) hx hb dX10_hasContract_28 (by decide) ?_
        refine lv_icmp_ne (tgt := 71) hx hb dX10_hasContract_29 (by decide) (fun h29_4 => ?_) (fun h29_4 => ?_)
        · have he := (if_neg h29_4).symm.trans he
          refine lv_iinc (v := x4_3 + 1) (lv' := [(4, .int (x4_3 + 1)), (0, .ref (q 0)), (1, .int a1), (2, .int a2), (3, .int a3)]) hx hb dX10_hasContract_71 hl (k := 0) rfl rfl (by decide) rfl (fun ls hl => ?_)
          refine lv_goto (tgt := 3) hx hb dX10_hasContract_74 (by decide) ?_
          exact ih_3 (x4_3 + 1) ls (ob_X10_hasContract_3_inv0_5 st a1 a2 a3 n_3 x4_3 hok hva1 hpa hpb hi0_3 hi1_3 hi2_3 h9_1 h29_4) (ob_X10_hasContract_3_inv1_6 st a1 a2 a3 n_3 x4_3 hok hva1 hpa hpb hi0_3 hi1_3 hi2_3 h9_1 h29_4) (ob_X10_hasContract_3_inv2_7 st a1 a2 a3 n_3 x4_3 hok hva1 hpa hpb hi0_3 hi1_3 hi2_3 h9_1 h29_4) he (lv_sub hl [0, 1, 2, 3, 4] rfl)
        · have he := (if_pos h29_4).symm.trans he
          refine lv_aload_n hx hb dX10_hasContract_32 rfl (lv_at hl 1 rfl) ?_
          refine lv_aload_n hx hb dX10_hasContract_33 rfl (lv_at hl 1 rfl) ?_
          refine va_get (D := (dC, dI)) (ci := 10) (v := .ref (q 8)) (C := RX10) (T := TX10) (N := 45) hx hb hts hi10 hown hK.1 hP 0 rfl rfl 12 (by decide) hf36 (fun _ h9 => h9) rfl dX10_hasContract_34 ?_
          refine lv_iload hx hb dX10_hasContract_37 (lv_at hl 0 rfl) ?_
          refine va_iald hx hb hK.1 hP 8 7 (f := st.2.1 7) (n := 40) (cA := k 7) rfl rfl (i := x4_3) (ob_X10_hasContract_39_8 st a1 a2 a3 n_3 x4_3 hok hva1 hpa hpb hi0_3 hi1_3 hi2_3 h9_1 h29_4) dX10_hasContract_39 ?_
          refine lv_iload_n hx hb dX10_hasContract_40 rfl (lv_at hl 3 rfl) ?_
          refine vp_callSi (va_Run.run (va_runV (As := [.int (st.2.1 7 x4_3.toNatClampNeg), .int a2]) (rest := []) ⟨hx, hb, hml, hown, hts⟩ (c_X10_isAtOrAbove l dC dI q k st (st.2.1 7 x4_3.toNatClampNeg) a2 hok hpa hpb _ rfl) (cwV 2 hts gX10_hasContract_X10_isAtOrAbove rfl rfl rfl (by decide +kernel) ⟨Nat.le_of_ble_eq_true rfl, Nat.le_of_ble_eq_true rfl⟩) ⟨fb_M, va_recv hK.1 hP (ci := 10) (q0 := 0) rfl rfl, fun U hU hW => ⟨rfl, by rw [hU]; exact hP, hK.warm hW⟩⟩ rfl rfl hl.1 rfl (lv_room (Nat.le_of_ble_eq_true rfl)) dX10_hasContract_41 ⟨Nat.le_of_ble_eq_true rfl, Nat.le_of_ble_eq_true rfl⟩)) (fun r9 e9 => ?_)
          subst e9
          refine lv_if_eq (tgt := 71) hx hb dX10_hasContract_44 (by decide) (fun h44_9 => ?_) (fun h44_9 => ?_)
          · have he := (if_pos h44_9).symm.trans he
            refine lv_iinc (v := x4_3 + 1) (lv' := [(4, .int (x4_3 + 1)), (0, .ref (q 0)), (1, .int a1), (2, .int a2), (3, .int a3)]) hx hb dX10_hasContract_71 hl (k := 0) rfl rfl (by decide) rfl (fun ls hl => ?_)
            refine lv_goto (tgt := 3) hx hb dX10_hasContract_74 (by decide) ?_
            exact ih_3 (x4_3 + 1) ls (ob_X10_hasContract_3_inv0_10 st a1 a2 a3 n_3 x4_3 hok hva1 hpa hpb hi0_3 hi1_3 hi2_3 h9_1 h29_4 h44_9) (ob_X10_hasContract_3_inv1_11 st a1 a2 a3 n_3 x4_3 hok hva1 hpa hpb hi0_3 hi1_3 hi2_3 h9_1 h29_4 h44_9) (ob_X10_hasContract_3_inv2_12 st a1 a2 a3 n_3 x4_3 hok hva1 hpa hpb hi0_3 hi1_3 hi2_3 h9_1 h29_4 h44_9) he (lv_sub hl [0, 1, 2, 3, 4] rfl)
          · have he := (if_neg h44_9).symm.trans he
            refine lv_aload_n hx hb dX10_hasContract_47 rfl (lv_at hl 1 rfl) ?_
            refine va_get (D := (dC, dI)) (ci := 10) (v := .ref (q 9)) (C := RX10) (T := TX10) (N := 45) hx hb hts hi10 hown hK.1 hP 0 rfl rfl 13 (by decide) hf39 (fun _ h9 => h9) rfl dX10_hasContract_48 ?_
            refine lv_iload hx hb dX10_hasContract_51 (lv_at hl 0 rfl) ?_
            refine va_iald hx hb hK.1 hP 9 8 (f := st.2.1 8) (n := 40) (cA := k 8) rfl rfl (i := x4_3) (ob_X10_hasContract_53_13 st a1 a2 a3 n_3 x4_3 hok hva1 hpa hpb hi0_3 hi1_3 hi2_3 h9_1 h29_4 h44_9) dX10_hasContract_53 ?_
            refine lv_iload_n hx hb dX10_hasContract_54 rfl (lv_at hl 4 rfl) ?_
            refine lv_icmp_gt (tgt := 71) hx hb dX10_hasContract_55 (by decide) (fun h55_14 => ?_) (fun h55_14 => ?_)
            · have he := (if_pos h55_14).symm.trans he
              refine lv_iinc (v := x4_3 + 1) (lv' := [(4, .int (x4_3 + 1)), (0, .ref (q 0)), (1, .int a1), (2, .int a2), (3, .int a3)]) hx hb dX10_hasContract_71 hl (k := 0) rfl rfl (by decide) rfl (fun ls hl => ?_)
              refine lv_goto (tgt := 3) hx hb dX10_hasContract_74 (by decide) ?_
              exact ih_3 (x4_3 + 1) ls (ob_X10_hasContract_3_inv0_15 st a1 a2 a3 n_3 x4_3 hok hva1 hpa hpb hi0_3 hi1_3 hi2_3 h9_1 h29_4 h44_9 h55_14) (ob_X10_hasContract_3_inv1_16 st a1 a2 a3 n_3 x4_3 hok hva1 hpa hpb hi0_3 hi1_3 hi2_3 h9_1 h29_4 h44_9 h55_14) (ob_X10_hasContract_3_inv2_17 st a1 a2 a3 n_3 x4_3 hok hva1 hpa hpb hi0_3 hi1_3 hi2_3 h9_1 h29_4 h44_9 h55_14) he (lv_sub hl [0, 1, 2, 3, 4] rfl)
            · have he := (if_neg h55_14).symm.trans he
              refine lv_iload_n hx hb dX10_hasContract_58 rfl (lv_at hl 4 rfl) ?_
              refine lv_aload_n hx hb dX10_hasContract_59 rfl (lv_at hl 1 rfl) ?_
              refine va_get (D := (dC, dI)) (ci := 10) (v := .ref (q 10)) (C := RX10) (T := TX10) (N := 45) hx hb hts hi10 hown hK.1 hP 0 rfl rfl 14 (by decide) hf42 (fun _ h9 => h9) rfl dX10_hasContract_60 ?_
              refine lv_iload hx hb dX10_hasContract_63 (lv_at hl 0 rfl) ?_
              refine va_iald hx hb hK.1 hP 10 9 (f := st.2.1 9) (n := 40) (cA := k 9) rfl rfl (i := x4_3) (ob_X10_hasContract_65_18 st a1 a2 a3 n_3 x4_3 hok hva1 hpa hpb hi0_3 hi1_3 hi2_3 h9_1 h29_4 h44_9 h55_14) dX10_hasContract_65 ?_
              refine lv_icmp_gt (tgt := 71) hx hb dX10_hasContract_66 (by decide) (fun h66_19 => ?_) (fun h66_19 => ?_)
              · have he := (if_pos h66_19).symm.trans he
                refine lv_iinc (v := x4_3 + 1) (lv' := [(4, .int (x4_3 + 1)), (0, .ref (q 0)), (1, .int a1), (2, .int a2), (3, .int a3)]) hx hb dX10_hasContract_71 hl (k := 0) rfl rfl (by decide) rfl (fun ls hl => ?_)
                refine lv_goto (tgt := 3) hx hb dX10_hasContract_74 (by decide) ?_
                exact ih_3 (x4_3 + 1) ls (ob_X10_hasContract_3_inv0_20 st a1 a2 a3 n_3 x4_3 hok hva1 hpa hpb hi0_3 hi1_3 hi2_3 h9_1 h29_4 h44_9 h55_14 h66_19) (ob_X10_hasContract_3_inv1_21 st a1 a2 a3 n_3 x4_3 hok hva1 hpa hpb hi0_3 hi1_3 hi2_3 h9_1 h29_4 h44_9 h55_14 h66_19) (ob_X10_hasContract_3_inv2_22 st a1 a2 a3 n_3 x4_3 hok hva1 hpa hpb hi0_3 hi1_3 hi2_3 h9_1 h29_4 h44_9 h55_14 h66_19) he (lv_sub hl [0, 1, 2, 3, 4] rfl)
              · have he := (if_neg h66_19).symm.trans he
                refine lv_iconst (v := 1) hx hb dX10_hasContract_69 (by decide) ?_
                exact W.zret (v := 1) hx hb hr rfl (fun t ht hW => ⟨_, rfl, he, ht⟩) (fun _ h => nomatch h) dX10_hasContract_70
  exact k_3 ((st.1 3).toInt.toNat + 1) 0 ls (ob_X10_hasContract_3_inv0_23 st a1 a2 a3 hok hva1 hpa hpb) (ob_X10_hasContract_3_inv1_24 st a1 a2 a3 hok hva1 hpa hpb) (ob_X10_hasContract_3_inv2_25 st a1 a2 a3 hok hva1 hpa hpb) he (lv_sub hl [0, 1, 2, 3, 4] rfl)
set_option maxHeartbeats 4000000 in
set_option maxRecDepth 100000 in
theorem c_X10_hasDuty (l : Launch) (dC : Nat → ClassId) (dI : Nat → Nat → Nat) (q : Nat → Nat) (k : Nat → ClassId) (st : St) (a1 : Int32) (a2 : Int32) (a3 : Int32) (hok : okM st) (hva1 : vp_in a1 100) (res : Int32) (hres : sp_X10_hasDuty st a1 a2 a3 = res) : Met l yX10_hasDuty wsX10_hasDuty ({ frames := 1, cells := 0, slots := 0, locals := 23 } : Room) (va_Pc [.ref (q 0), .int a1, .int a2, .int a3] (fun U => va_P (dC, dI) vwCl (wM q k st) U.heap ∧ KM (dC, dI) k U)) (vp_Si (fun r => r = res)) 0 0 (fun _ => False) := by
  refine Met.ofW (cc := cX10_hasDuty) (maxL := 5) (ret := (some .boolean)) (by decide) rfl ?_
  intro p e s m args below meth c s₁ B hml hv
  obtain ⟨rfl, hP, hK⟩ := hv
  have hx := B.exec
  have hb := B.bytes
  have hr := B.returns
  have hts := atoms_spec (ws := wsX10_hasDuty) B.pre
  have hown : s.vm.findClass RX10 = some m.cls := findClass_of_methodNamed B.named
  have hlocks := B.notSynchronized
  have hi10 : ∀ w ∈ wsX100, w ∈ wsX10_hasDuty := by decide +kernel
  have hf48 := hts (.fieldLink RX10 48 "ConsentRegisterModel" "dutyPurpose" "[I") (by decide +kernel)
  have hf154 := hts (.fieldLink RX10 154 "ConsentRegisterModel" "duties" "I") (by decide +kernel)
  have hl := lv_entry ([.ref (q 0), .int a1, .int a2, .int a3]) (n := 5) (Nat.le_of_ble_eq_true rfl)
  rw [lg_entry_eq]
  generalize (lg_sl ([.ref (q 0), .int a1, .int a2, .int a3]) ++ List.replicate (5 - (lg_sl ([.ref (q 0), .int a1, .int a2, .int a3])).length) Slot.unset).toArray = ls at hl ⊢
  have hl : lv_has ls 5 [(0, .ref (q 0)), (1, .int a1), (2, .int a2), (3, .int a3)] := hl
  have he := hres
  unfold sp_X10_hasDuty at he
  refine lv_iconst (v := 0) hx hb dX10_hasDuty_0 (by decide) ?_
  refine lv_istore (lv' := [(4, .int 0), (0, .ref (q 0)), (1, .int a1), (2, .int a2), (3, .int a3)]) hx hb dX10_hasDuty_1 hl (by decide) rfl (fun ls hl => ?_)
  have k_3 : ∀ (n_3 : Nat) (x4_3 : Int32) (ls : Array Slot), 0 ≤ x4_3.toInt → x4_3.toInt ≤ (st.1 4).toInt → (st.1 4).toInt < x4_3.toInt + n_3 → lp_X10_hasDuty_3 st a1 a2 a3 n_3 x4_3 = res → lv_has ls 5 [(4, .int x4_3), (0, .ref (q 0)), (1, .int a1), (2, .int a2), (3, .int a3)] → W p l e (headSpec wsX10_hasDuty ({ frames := 1, cells := 0, slots := 0, locals := 23 } : Room)).room s m ([.ref (q 0), .int a1, .int a2, .int a3] : List Value).toArray below meth c s.heap [] 0 0 (MQ below (vp_Si (fun r => r = res)) ([.ref (q 0), .int a1, .int a2, .int a3] : List Value).toArray s 0 0 (fun _ => False)) (F0 m 3 ls []) := by
    intro n_3
    induction n_3 with
    | zero =>
      intro x4_3 ls hi0_3 hi1_3 hi2_3
      exact (ob_X10_hasDuty_3_zero st a1 a2 a3 x4_3 hok hva1 hi0_3 hi1_3 hi2_3).elim
    | succ n_3 ih_3 =>
      intro x4_3 ls hi0_3 hi1_3 hi2_3 he hl
      rw [lp_X10_hasDuty_3] at he
      refine lv_iload hx hb dX10_hasDuty_3 (lv_at hl 0 rfl) ?_
      refine lv_aload_n hx hb dX10_hasDuty_5 rfl (lv_at hl 1 rfl) ?_
      refine va_get (D := (dC, dI)) (ci := 10) (v := .int (st.1 4)) (C := RX10) (T := TX10) (N := 45) hx hb hts hi10 hown hK.1 hP 0 rfl rfl 15 (by decide) hf154 (fun _ h9 => h9) rfl dX10_hasDuty_6 ?_
      refine lv_icmp_ge (tgt := 42) hx hb dX10_hasDuty_9 (by decide) (fun h9_1 => ?_) (fun h9_1 => ?_)
      · have he := (if_pos h9_1).symm.trans he
        refine lv_iconst (v := 0) hx hb dX10_hasDuty_42 (by decide) ?_
        exact W.zret (v := 0) hx hb hr rfl (fun t ht hW => ⟨_, rfl, he, ht⟩) (fun _ h => nomatch h) dX10_hasDuty_43
      · have he := (if_neg h9_1).symm.trans he
        refine lv_aload_n hx hb dX10_hasDuty_12 rfl (lv_at hl 1 rfl) ?_
        refine va_get (D := (dC, dI)) (ci := 10) (v := .ref (q 12)) (C := RX10) (T := TX10) (N := 45) hx hb hts hi10 hown hK.1 hP 0 rfl rfl 17 (by decide) hf48 (fun _ h9 => h9) rfl dX10_hasDuty_13 ?_
        refine lv_iload hx hb dX10_hasDuty_16 (lv_at hl 0 rfl) ?_
        refine va_iald hx hb hK.1 hP 12 11 (f := st.2.1 11) (n := 20) (cA := k 11) rfl rfl (i := x4_3) (ob_X10_hasDuty_18_2 st a1 a2 a3 n_3 x4_3 hok hva1 hi0_3 hi1_3 hi2_3 h9_1) dX10_hasDuty_18 ?_
        refine lv_iload_n hx hb dX10_hasDuty_19 rfl (lv_at hl 3 rfl) ?_
        refine lv_icmp_ne (tgt := 36) hx hb dX10_hasDuty_20 (by decide) (fun h20_3 => ?_) (fun h20_3 => ?_)
        · have he := (if_neg h20_3).symm.trans he
          refine lv_iinc (v := x4_3 + 1) (lv' := [(4, .int (x4_3 + 1)), (0, .ref (q 0)), (1, .int a1), (2, .int a2), (3, .int a3)]) hx hb dX10_hasDuty_36 hl (k := 0) rfl rfl (by decide) rfl (fun ls hl => ?_)
          refine lv_goto (tgt := 3) hx hb dX10_hasDuty_39 (by decide) ?_
          exact ih_3 (x4_3 + 1) ls (ob_X10_hasDuty_3_inv0_4 st a1 a2 a3 n_3 x4_3 hok hva1 hi0_3 hi1_3 hi2_3 h9_1 h20_3) (ob_X10_hasDuty_3_inv1_5 st a1 a2 a3 n_3 x4_3 hok hva1 hi0_3 hi1_3 hi2_3 h9_1 h20_3) (ob_X10_hasDuty_3_inv2_6 st a1 a2 a3 n_3 x4_3 hok hva1 hi0_3 hi1_3 hi2_3 h9_1 h20_3) he (lv_sub hl [0, 1, 2, 3, 4] rfl)
        · have he := (if_pos h20_3).symm.trans he
          refine lv_aload_n hx hb dX10_hasDuty_23 rfl (lv_at hl 1 rfl) ?_
          refine lv_iload hx hb dX10_hasDuty_24 (lv_at hl 0 rfl) ?_
          refine lv_iload_n hx hb dX10_hasDuty_26 rfl (lv_at hl 2 rfl) ?_
          refine lv_iload_n hx hb dX10_hasDuty_27 rfl (lv_at hl 4 rfl) ?_
          refine vp_callSi (va_Run.run (va_runV (As := [.int x4_3, .int a1, .int a3]) (rest := []) ⟨hx, hb, hml, hown, hts⟩ (c_X10_dutyCovers l dC dI q k st x4_3 a1 a3 (ob_X10_hasDuty_28_7 st a1 a2 a3 n_3 x4_3 hok hva1 hi0_3 hi1_3 hi2_3 h9_1 h20_3) hva1 _ rfl) (cwV 3 hts gX10_hasDuty_X10_dutyCovers rfl rfl rfl (by decide +kernel) ⟨Nat.le_of_ble_eq_true rfl, Nat.le_of_ble_eq_true rfl⟩) ⟨fb_M, va_recv hK.1 hP (ci := 10) (q0 := 0) rfl rfl, fun U hU hW => ⟨rfl, by rw [hU]; exact hP, hK.warm hW⟩⟩ rfl rfl hl.1 rfl (lv_room (Nat.le_of_ble_eq_true rfl)) dX10_hasDuty_28 ⟨Nat.le_of_ble_eq_true rfl, Nat.le_of_ble_eq_true rfl⟩)) (fun r9 e9 => ?_)
          subst e9
          refine lv_if_eq (tgt := 36) hx hb dX10_hasDuty_31 (by decide) (fun h31_8 => ?_) (fun h31_8 => ?_)
          · have he := (if_pos h31_8).symm.trans he
            refine lv_iinc (v := x4_3 + 1) (lv' := [(4, .int (x4_3 + 1)), (0, .ref (q 0)), (1, .int a1), (2, .int a2), (3, .int a3)]) hx hb dX10_hasDuty_36 hl (k := 0) rfl rfl (by decide) rfl (fun ls hl => ?_)
            refine lv_goto (tgt := 3) hx hb dX10_hasDuty_39 (by decide) ?_
            exact ih_3 (x4_3 + 1) ls (ob_X10_hasDuty_3_inv0_9 st a1 a2 a3 n_3 x4_3 hok hva1 hi0_3 hi1_3 hi2_3 h9_1 h20_3 h31_8) (ob_X10_hasDuty_3_inv1_10 st a1 a2 a3 n_3 x4_3 hok hva1 hi0_3 hi1_3 hi2_3 h9_1 h20_3 h31_8) (ob_X10_hasDuty_3_inv2_11 st a1 a2 a3 n_3 x4_3 hok hva1 hi0_3 hi1_3 hi2_3 h9_1 h20_3 h31_8) he (lv_sub hl [0, 1, 2, 3, 4] rfl)
          · have he := (if_neg h31_8).symm.trans he
            refine lv_iconst (v := 1) hx hb dX10_hasDuty_34 (by decide) ?_
            exact W.zret (v := 1) hx hb hr rfl (fun t ht hW => ⟨_, rfl, he, ht⟩) (fun _ h => nomatch h) dX10_hasDuty_35
  exact k_3 ((st.1 4).toInt.toNat + 1) 0 ls (ob_X10_hasDuty_3_inv0_12 st a1 a2 a3 hok hva1) (ob_X10_hasDuty_3_inv1_13 st a1 a2 a3 hok hva1) (ob_X10_hasDuty_3_inv2_14 st a1 a2 a3 hok hva1) he (lv_sub hl [0, 1, 2, 3, 4] rfl)
set_option maxHeartbeats 4000000 in
set_option maxRecDepth 100000 in
theorem c_X10_groundOf (l : Launch) (dC : Nat → ClassId) (dI : Nat → Nat → Nat) (q : Nat → Nat) (k : Nat → ClassId) (st : St) (a1 : Int32) (a2 : Int32) (a3 : Int32) (hok : okM st) (hva1 : vp_in a1 100) (hpa : 0 ≤ a2.toInt) (hpb : a2.toInt < 16) (res : Int32) (hres : sp_X10_groundOf st a1 a2 a3 = res) : Met l yX10_groundOf wsX10_groundOf ({ frames := 2, cells := 0, slots := 0, locals := 51 } : Room) (va_Pc [.ref (q 0), .int a1, .int a2, .int a3] (fun U => va_P (dC, dI) vwCl (wM q k st) U.heap ∧ KM (dC, dI) k U)) (vp_Si (fun r => r = res)) 0 0 (fun _ => False) := by
  refine Met.ofW (cc := cX10_groundOf) (maxL := 8) (ret := (some .int)) (by decide) rfl ?_
  intro p e s m args below meth c s₁ B hml hv
  obtain ⟨rfl, hP, hK⟩ := hv
  have hx := B.exec
  have hb := B.bytes
  have hr := B.returns
  have hts := atoms_spec (ws := wsX10_groundOf) B.pre
  have hown : s.vm.findClass RX10 = some m.cls := findClass_of_methodNamed B.named
  have hlocks := B.notSynchronized
  have hi10 : ∀ w ∈ wsX100, w ∈ wsX10_groundOf := by decide +kernel
  have hf94 := hts (.fieldLink RX10 94 "ConsentRegisterModel" "holdOf" "[I") (by decide +kernel)
  have hf97 := hts (.fieldLink RX10 97 "ConsentRegisterModel" "holdPurpose" "[I") (by decide +kernel)
  have hf170 := hts (.fieldLink RX10 170 "ConsentRegisterModel" "holds" "I") (by decide +kernel)
  have hl := lv_entry ([.ref (q 0), .int a1, .int a2, .int a3]) (n := 8) (Nat.le_of_ble_eq_true rfl)
  rw [lg_entry_eq]
  generalize (lg_sl ([.ref (q 0), .int a1, .int a2, .int a3]) ++ List.replicate (8 - (lg_sl ([.ref (q 0), .int a1, .int a2, .int a3])).length) Slot.unset).toArray = ls at hl ⊢
  have hl : lv_has ls 8 [(0, .ref (q 0)), (1, .int a1), (2, .int a2), (3, .int a3)] := hl
  have he := hres
  unfold sp_X10_groundOf at he
  refine lv_iload_n hx hb dX10_groundOf_0 rfl (lv_at hl 3 rfl) ?_
  refine lv_sipush (v := 1440) hx hb dX10_groundOf_1 (by decide) ?_
  refine lv_idiv hx hb dX10_groundOf_4 (by decide) ?_
  refine lv_istore (lv' := [(4, .int (a3 / 1440)), (0, .ref (q 0)), (1, .int a1), (2, .int a2), (3, .int a3)]) hx hb dX10_groundOf_5 hl (by decide) rfl (fun ls hl => ?_)
  refine lv_iconst (v := 0) hx hb dX10_groundOf_7 (by decide) ?_
  refine lv_istore (lv' := [(5, .int 0), (4, .int (a3 / 1440)), (0, .ref (q 0)), (1, .int a1), (2, .int a2), (3, .int a3)]) hx hb dX10_groundOf_8 hl (by decide) rfl (fun ls hl => ?_)
  refine lv_iconst (v := 0) hx hb dX10_groundOf_10 (by decide) ?_
  refine lv_istore (lv' := [(6, .int 0), (5, .int 0), (4, .int (a3 / 1440)), (0, .ref (q 0)), (1, .int a1), (2, .int a2), (3, .int a3)]) hx hb dX10_groundOf_11 hl (by decide) rfl (fun ls hl => ?_)
  refine lv_iconst (v := 0) hx hb dX10_groundOf_13 (by decide) ?_
  refine lv_istore (lv' := [(7, .int 0), (6, .int 0), (5, .int 0), (4, .int (a3 / 1440)), (0, .ref (q 0)), (1, .int a1), (2, .int a2), (3, .int a3)]) hx hb dX10_groundOf_14 hl (by decide) rfl (fun ls hl => ?_)
  have k_16 : ∀ (n_16 : Nat) (x7_16 : Int32) (x5_16 : Int32) (x6_16 : Int32) (ls : Array Slot), 0 ≤ x7_16.toInt → x7_16.toInt ≤ (st.1 6).toInt → (st.1 6).toInt < x7_16.toInt + n_16 → lp_X10_groundOf_16 st a1 a2 a3 n_16 x7_16 x5_16 x6_16 = res → lv_has ls 8 [(7, .int x7_16), (6, .int x6_16), (5, .int x5_16), (4, .int (a3 / 1440)), (0, .ref (q 0)), (1, .int a1), (2, .int a2), (3, .int a3)] → W p l e (headSpec wsX10_groundOf ({ frames := 2, cells := 0, slots := 0, locals := 51 } : Room)).room s m ([.ref (q 0), .int a1, .int a2, .int a3] : List Value).toArray below meth c s.heap [] 0 0 (MQ below (vp_Si (fun r => r = res)) ([.ref (q 0), .int a1, .int a2, .int a3] : List Value).toArray s 0 0 (fun _ => False)) (F0 m 16 ls []) := by
    intro n_16
    induction n_16 with
    | zero =>
      intro x7_16 x5_16 x6_16 ls hi0_16 hi1_16 hi2_16
      exact (ob_X10_groundOf_16_zero st a1 a2 a3 x7_16 x5_16 x6_16 hok hva1 hpa hpb hi0_16 hi1_16 hi2_16).elim
    | succ n_16 ih_16 =>
      intro x7_16 x5_16 x6_16 ls hi0_16 hi1_16 hi2_16 he hl
      rw [lp_X10_groundOf_16] at he
      refine lv_iload hx hb dX10_groundOf_16 (lv_at hl 0 rfl) ?_
      refine lv_aload_n hx hb dX10_groundOf_18 rfl (lv_at hl 4 rfl) ?_
      refine va_get (D := (dC, dI)) (ci := 10) (v := .int (st.1 6)) (C := RX10) (T := TX10) (N := 45) hx hb hts hi10 hown hK.1 hP 0 rfl rfl 34 (by decide) hf170 (fun _ h9 => h9) rfl dX10_groundOf_19 ?_
      refine lv_icmp_ge (tgt := 93) hx hb dX10_groundOf_22 (by decide) (fun h22_1 => ?_) (fun h22_1 => ?_)
      · have he := (if_pos h22_1).symm.trans he
        refine lv_iload hx hb dX10_groundOf_93 (lv_at hl 2 rfl) ?_
        refine lv_if_ne (tgt := 110) hx hb dX10_groundOf_95 (by decide) (fun h95_2 => ?_) (fun h95_2 => ?_)
        · have he := (if_neg h95_2).symm.trans he
          refine lv_iload hx hb dX10_groundOf_110 (lv_at hl 2 rfl) ?_
          refine lv_if_ne (tgt := 127) hx hb dX10_groundOf_112 (by decide) (fun h112_3 => ?_) (fun h112_3 => ?_)
          · have he := (if_neg h112_3).symm.trans he
            refine lv_iload hx hb dX10_groundOf_127 (lv_at hl 2 rfl) ?_
            refine lv_if_ne (tgt := 145) hx hb dX10_groundOf_129 (by decide) (fun h129_4 => ?_) (fun h129_4 => ?_)
            · have he := (if_neg h129_4).symm.trans he
              refine lv_iload hx hb dX10_groundOf_145 (lv_at hl 1 rfl) ?_
              refine lv_if_eq (tgt := 154) hx hb dX10_groundOf_147 (by decide) (fun h147_5 => ?_) (fun h147_5 => ?_)
              · have he := (if_pos h147_5).symm.trans he
                refine lv_iconst (v := 0) hx hb dX10_groundOf_154 (by decide) ?_
                exact W.iret (v := 0) hx hb hr (fun t ht hW => ⟨_, rfl, he, ht⟩) (fun _ h => nomatch h) dX10_groundOf_155
              · have he := (if_neg h147_5).symm.trans he
                refine lv_iconst (v := 4) hx hb dX10_groundOf_150 (by decide) ?_
                refine lv_goto (tgt := 155) hx hb dX10_groundOf_151 (by decide) ?_
                exact W.iret (v := 4) hx hb hr (fun t ht hW => ⟨_, rfl, he, ht⟩) (fun _ h => nomatch h) dX10_groundOf_155
            · have he := (if_pos h129_4).symm.trans he
              refine lv_aload_n hx hb dX10_groundOf_132 rfl (lv_at hl 4 rfl) ?_
              refine lv_iload_n hx hb dX10_groundOf_133 rfl (lv_at hl 5 rfl) ?_
              refine lv_iload_n hx hb dX10_groundOf_134 rfl (lv_at hl 6 rfl) ?_
              refine lv_iload hx hb dX10_groundOf_135 (lv_at hl 3 rfl) ?_
              refine vp_callSi (va_Run.run (va_runV (As := [.int a1, .int a2, .int (a3 / 1440)]) (rest := []) ⟨hx, hb, hml, hown, hts⟩ (c_X10_hasDuty l dC dI q k st a1 a2 (a3 / 1440) hok hva1 _ rfl) (cwV 3 hts gX10_groundOf_X10_hasDuty rfl rfl rfl (by decide +kernel) ⟨Nat.le_of_ble_eq_true rfl, Nat.le_of_ble_eq_true rfl⟩) ⟨fb_M, va_recv hK.1 hP (ci := 10) (q0 := 0) rfl rfl, fun U hU hW => ⟨rfl, by rw [hU]; exact hP, hK.warm hW⟩⟩ rfl rfl hl.1 rfl (lv_room (Nat.le_of_ble_eq_true rfl)) dX10_groundOf_137 ⟨Nat.le_of_ble_eq_true rfl, Nat.le_of_ble_eq_true rfl⟩)) (fun r9 e9 => ?_)
              subst e9
              refine lv_if_eq (tgt := 145) hx hb dX10_groundOf_140 (by decide) (fun h140_6 => ?_) (fun h140_6 => ?_)
              · have he := (if_pos h140_6).symm.trans he
                refine lv_iload hx hb dX10_groundOf_145 (lv_at hl 1 rfl) ?_
                refine lv_if_eq (tgt := 154) hx hb dX10_groundOf_147 (by decide) (fun h147_7 => ?_) (fun h147_7 => ?_)
                · have he := (if_pos h147_7).symm.trans he
                  refine lv_iconst (v := 0) hx hb dX10_groundOf_154 (by decide) ?_
                  exact W.iret (v := 0) hx hb hr (fun t ht hW => ⟨_, rfl, he, ht⟩) (fun _ h => nomatch h) dX10_groundOf_155
                · have he := (if_neg h147_7).symm.trans he
                  refine lv_iconst (v := 4) hx hb dX10_groundOf_150 (by decide) ?_
                  refine lv_goto (tgt := 155) hx hb dX10_groundOf_151 (by decide) ?_
                  exact W.iret (v := 4) hx hb hr (fun t ht hW => ⟨_, rfl, he, ht⟩) (fun _ h => nomatch h) dX10_groundOf_155
              · have he := (if_neg h140_6).symm.trans he
                refine lv_iconst (v := 3) hx hb dX10_groundOf_143 (by decide) ?_
                exact W.iret (v := 3) hx hb hr (fun t ht hW => ⟨_, rfl, he, ht⟩) (fun _ h => nomatch h) dX10_groundOf_144
          · have he := (if_pos h112_3).symm.trans he
            refine lv_aload_n hx hb dX10_groundOf_115 rfl (lv_at hl 4 rfl) ?_
            refine lv_iload_n hx hb dX10_groundOf_116 rfl (lv_at hl 5 rfl) ?_
            refine lv_iload_n hx hb dX10_groundOf_117 rfl (lv_at hl 6 rfl) ?_
            refine lv_iload_n hx hb dX10_groundOf_118 rfl (lv_at hl 7 rfl) ?_
            refine vp_callSi (va_Run.run (va_runV (As := [.int a1, .int a2, .int a3]) (rest := []) ⟨hx, hb, hml, hown, hts⟩ (c_X10_hasContract l dC dI q k st a1 a2 a3 hok hva1 hpa hpb _ rfl) (cwV 3 hts gX10_groundOf_X10_hasContract rfl rfl rfl (by decide +kernel) ⟨Nat.le_of_ble_eq_true rfl, Nat.le_of_ble_eq_true rfl⟩) ⟨fb_M, va_recv hK.1 hP (ci := 10) (q0 := 0) rfl rfl, fun U hU hW => ⟨rfl, by rw [hU]; exact hP, hK.warm hW⟩⟩ rfl rfl hl.1 rfl (lv_room (Nat.le_of_ble_eq_true rfl)) dX10_groundOf_119 ⟨Nat.le_of_ble_eq_true rfl, Nat.le_of_ble_eq_true rfl⟩)) (fun r9 e9 => ?_)
            subst e9
            refine lv_if_eq (tgt := 127) hx hb dX10_groundOf_122 (by decide) (fun h122_8 => ?_) (fun h122_8 => ?_)
            · have he := (if_pos h122_8).symm.trans he
              refine lv_iload hx hb dX10_groundOf_127 (lv_at hl 2 rfl) ?_
              refine lv_if_ne (tgt := 145) hx hb dX10_groundOf_129 (by decide) (fun h129_9 => ?_) (fun h129_9 => ?_)
              · have he := (if_neg h129_9).symm.trans he
                refine lv_iload hx hb dX10_groundOf_145 (lv_at hl 1 rfl) ?_
                refine lv_if_eq (tgt := 154) hx hb dX10_groundOf_147 (by decide) (fun h147_10 => ?_) (fun h147_10 => ?_)
                · have he := (if_pos h147_10).symm.trans he
                  refine lv_iconst (v := 0) hx hb dX10_groundOf_154 (by decide) ?_
                  exact W.iret (v := 0) hx hb hr (fun t ht hW => ⟨_, rfl, he, ht⟩) (fun _ h => nomatch h) dX10_groundOf_155
                · have he := (if_neg h147_10).symm.trans he
                  refine lv_iconst (v := 4) hx hb dX10_groundOf_150 (by decide) ?_
                  refine lv_goto (tgt := 155) hx hb dX10_groundOf_151 (by decide) ?_
                  exact W.iret (v := 4) hx hb hr (fun t ht hW => ⟨_, rfl, he, ht⟩) (fun _ h => nomatch h) dX10_groundOf_155
              · have he := (if_pos h129_9).symm.trans he
                refine lv_aload_n hx hb dX10_groundOf_132 rfl (lv_at hl 4 rfl) ?_
                refine lv_iload_n hx hb dX10_groundOf_133 rfl (lv_at hl 5 rfl) ?_
                refine lv_iload_n hx hb dX10_groundOf_134 rfl (lv_at hl 6 rfl) ?_
                refine lv_iload hx hb dX10_groundOf_135 (lv_at hl 3 rfl) ?_
                refine vp_callSi (va_Run.run (va_runV (As := [.int a1, .int a2, .int (a3 / 1440)]) (rest := []) ⟨hx, hb, hml, hown, hts⟩ (c_X10_hasDuty l dC dI q k st a1 a2 (a3 / 1440) hok hva1 _ rfl) (cwV 3 hts gX10_groundOf_X10_hasDuty rfl rfl rfl (by decide +kernel) ⟨Nat.le_of_ble_eq_true rfl, Nat.le_of_ble_eq_true rfl⟩) ⟨fb_M, va_recv hK.1 hP (ci := 10) (q0 := 0) rfl rfl, fun U hU hW => ⟨rfl, by rw [hU]; exact hP, hK.warm hW⟩⟩ rfl rfl hl.1 rfl (lv_room (Nat.le_of_ble_eq_true rfl)) dX10_groundOf_137 ⟨Nat.le_of_ble_eq_true rfl, Nat.le_of_ble_eq_true rfl⟩)) (fun r9 e9 => ?_)
                subst e9
                refine lv_if_eq (tgt := 145) hx hb dX10_groundOf_140 (by decide) (fun h140_11 => ?_) (fun h140_11 => ?_)
                · have he := (if_pos h140_11).symm.trans he
                  refine lv_iload hx hb dX10_groundOf_145 (lv_at hl 1 rfl) ?_
                  refine lv_if_eq (tgt := 154) hx hb dX10_groundOf_147 (by decide) (fun h147_12 => ?_) (fun h147_12 => ?_)
                  · have he := (if_pos h147_12).symm.trans he
                    refine lv_iconst (v := 0) hx hb dX10_groundOf_154 (by decide) ?_
                    exact W.iret (v := 0) hx hb hr (fun t ht hW => ⟨_, rfl, he, ht⟩) (fun _ h => nomatch h) dX10_groundOf_155
                  · have he := (if_neg h147_12).symm.trans he
                    refine lv_iconst (v := 4) hx hb dX10_groundOf_150 (by decide) ?_
                    refine lv_goto (tgt := 155) hx hb dX10_groundOf_151 (by decide) ?_
                    exact W.iret (v := 4) hx hb hr (fun t ht hW => ⟨_, rfl, he, ht⟩) (fun _ h => nomatch h) dX10_groundOf_155
                · have he := (if_neg h140_11).symm.trans he
                  refine lv_iconst (v := 3) hx hb dX10_groundOf_143 (by decide) ?_
                  exact W.iret (v := 3) hx hb hr (fun t ht hW => ⟨_, rfl, he, ht⟩) (fun _ h => nomatch h) dX10_groundOf_144
            · have he := (if_neg h122_8).symm.trans he
              refine lv_iconst (v := 2) hx hb dX10_groundOf_125 (by decide) ?_
              exact W.iret (v := 2) hx hb hr (fun t ht hW => ⟨_, rfl, he, ht⟩) (fun _ h => nomatch h) dX10_groundOf_126
        · have he := (if_pos h95_2).symm.trans he
          refine lv_aload_n hx hb dX10_groundOf_98 rfl (lv_at hl 4 rfl) ?_
          refine lv_iload_n hx hb dX10_groundOf_99 rfl (lv_at hl 5 rfl) ?_
          refine lv_iload_n hx hb dX10_groundOf_100 rfl (lv_at hl 6 rfl) ?_
          refine lv_iload_n hx hb dX10_groundOf_101 rfl (lv_at hl 7 rfl) ?_
          refine vp_callSi (va_Run.run (va_runV (As := [.int a1, .int a2, .int a3]) (rest := []) ⟨hx, hb, hml, hown, hts⟩ (c_X10_allSayYes l dC dI q k st a1 a2 a3 hok hva1 hpa hpb _ rfl) (cwV 3 hts gX10_groundOf_X10_allSayYes rfl rfl rfl (by decide +kernel) ⟨Nat.le_of_ble_eq_true rfl, Nat.le_of_ble_eq_true rfl⟩) ⟨fb_M, va_recv hK.1 hP (ci := 10) (q0 := 0) rfl rfl, fun U hU hW => ⟨rfl, by rw [hU]; exact hP, hK.warm hW⟩⟩ rfl rfl hl.1 rfl (lv_room (Nat.le_of_ble_eq_true rfl)) dX10_groundOf_102 ⟨Nat.le_of_ble_eq_true rfl, Nat.le_of_ble_eq_true rfl⟩)) (fun r9 e9 => ?_)
          subst e9
          refine lv_if_eq (tgt := 110) hx hb dX10_groundOf_105 (by decide) (fun h105_13 => ?_) (fun h105_13 => ?_)
          · have he := (if_pos h105_13).symm.trans he
            refine lv_iload hx hb dX10_groundOf_110 (lv_at hl 2 rfl) ?_
            refine lv_if_ne (tgt := 127) hx hb dX10_groundOf_112 (by decide) (fun h112_14 => ?_) (fun h112_14 => ?_)
            · have he := (if_neg h112_14).symm.trans he
              refine lv_iload hx hb dX10_groundOf_127 (lv_at hl 2 rfl) ?_
              refine lv_if_ne (tgt := 145) hx hb dX10_groundOf_129 (by decide) (fun h129_15 => ?_) (fun h129_15 => ?_)
              · have he := (if_neg h129_15).symm.trans he
                refine lv_iload hx hb dX10_groundOf_145 (lv_at hl 1 rfl) ?_
                refine lv_if_eq (tgt := 154) hx hb dX10_groundOf_147 (by decide) (fun h147_16 => ?_) (fun h147_16 => ?_)
                · have he := (if_pos h147_16).symm.trans he
                  refine lv_iconst (v := 0) hx hb dX10_groundOf_154 (by decide) ?_
                  exact W.iret (v := 0) hx hb hr (fun t ht hW => ⟨_, rfl, he, ht⟩) (fun _ h => nomatch h) dX10_groundOf_155
                · have he := (if_neg h147_16).symm.trans he
                  refine lv_iconst (v := 4) hx hb dX10_groundOf_150 (by decide) ?_
                  refine lv_goto (tgt := 155) hx hb dX10_groundOf_151 (by decide) ?_
                  exact W.iret (v := 4) hx hb hr (fun t ht hW => ⟨_, rfl, he, ht⟩) (fun _ h => nomatch h) dX10_groundOf_155
              · have he := (if_pos h129_15).symm.trans he
                refine lv_aload_n hx hb dX10_groundOf_132 rfl (lv_at hl 4 rfl) ?_
                refine lv_iload_n hx hb dX10_groundOf_133 rfl (lv_at hl 5 rfl) ?_
                refine lv_iload_n hx hb dX10_groundOf_134 rfl (lv_at hl 6 rfl) ?_
                refine lv_iload hx hb dX10_groundOf_135 (lv_at hl 3 rfl) ?_
                refine vp_callSi (va_Run.run (va_runV (As := [.int a1, .int a2, .int (a3 / 1440)]) (rest := []) ⟨hx, hb, hml, hown, hts⟩ (c_X10_hasDuty l dC dI q k st a1 a2 (a3 / 1440) hok hva1 _ rfl) (cwV 3 hts gX10_groundOf_X10_hasDuty rfl rfl rfl (by decide +kernel) ⟨Nat.le_of_ble_eq_true rfl, Nat.le_of_ble_eq_true rfl⟩) ⟨fb_M, va_recv hK.1 hP (ci := 10) (q0 := 0) rfl rfl, fun U hU hW => ⟨rfl, by rw [hU]; exact hP, hK.warm hW⟩⟩ rfl rfl hl.1 rfl (lv_room (Nat.le_of_ble_eq_true rfl)) dX10_groundOf_137 ⟨Nat.le_of_ble_eq_true rfl, Nat.le_of_ble_eq_true rfl⟩)) (fun r9 e9 => ?_)
                subst e9
                refine lv_if_eq (tgt := 145) hx hb dX10_groundOf_140 (by decide) (fun h140_17 => ?_) (fun h140_17 => ?_)
                · have he := (if_pos h140_17).symm.trans he
                  refine lv_iload hx hb dX10_groundOf_145 (lv_at hl 1 rfl) ?_
                  refine lv_if_eq (tgt := 154) hx hb dX10_groundOf_147 (by decide) (fun h147_18 => ?_) (fun h147_18 => ?_)
                  · have he := (if_pos h147_18).symm.trans he
                    refine lv_iconst (v := 0) hx hb dX10_groundOf_154 (by decide) ?_
                    exact W.iret (v := 0) hx hb hr (fun t ht hW => ⟨_, rfl, he, ht⟩) (fun _ h => nomatch h) dX10_groundOf_155
                  · have he := (if_neg h147_18).symm.trans he
                    refine lv_iconst (v := 4) hx hb dX10_groundOf_150 (by decide) ?_
                    refine lv_goto (tgt := 155) hx hb dX10_groundOf_151 (by decide) ?_
                    exact W.iret (v := 4) hx hb hr (fun t ht hW => ⟨_, rfl, he, ht⟩) (fun _ h => nomatch h) dX10_groundOf_155
                · have he := (if_neg h140_17).symm.trans he
                  refine lv_iconst (v := 3) hx hb dX10_groundOf_143 (by decide) ?_
                  exact W.iret (v := 3) hx hb hr (fun t ht hW => ⟨_, rfl, he, ht⟩) (fun _ h => nomatch h) dX10_groundOf_144
            · have he := (if_pos h112_14).symm.trans he
              refine lv_aload_n hx hb dX10_groundOf_115 rfl (lv_at hl 4 rfl) ?_
              refine lv_iload_n hx hb dX10_groundOf_116 rfl (lv_at hl 5 rfl) ?_
              refine lv_iload_n hx hb dX10_groundOf_117 rfl (lv_at hl 6 rfl) ?_
              refine lv_iload_n hx hb dX10_groundOf_118 rfl (lv_at hl 7 rfl) ?_
              refine vp_callSi (va_Run.run (va_runV (As := [.int a1, .int a2, .int a3]) (rest := []) ⟨hx, hb, hml, hown, hts⟩ (c_X10_hasContract l dC dI q k st a1 a2 a3 hok hva1 hpa hpb _ rfl) (cwV 3 hts gX10_groundOf_X10_hasContract rfl rfl rfl (by decide +kernel) ⟨Nat.le_of_ble_eq_true rfl, Nat.le_of_ble_eq_true rfl⟩) ⟨fb_M, va_recv hK.1 hP (ci := 10) (q0 := 0) rfl rfl, fun U hU hW => ⟨rfl, by rw [hU]; exact hP, hK.warm hW⟩⟩ rfl rfl hl.1 rfl (lv_room (Nat.le_of_ble_eq_true rfl)) dX10_groundOf_119 ⟨Nat.le_of_ble_eq_true rfl, Nat.le_of_ble_eq_true rfl⟩)) (fun r9 e9 => ?_)
              subst e9
              refine lv_if_eq (tgt := 127) hx hb dX10_groundOf_122 (by decide) (fun h122_19 => ?_) (fun h122_19 => ?_)
              · have he := (if_pos h122_19).symm.trans he
                refine lv_iload hx hb dX10_groundOf_127 (lv_at hl 2 rfl) ?_
                refine lv_if_ne (tgt := 145) hx hb dX10_groundOf_129 (by decide) (fun h129_20 => ?_) (fun h129_20 => ?_)
                · have he := (if_neg h129_20).symm.trans he
                  refine lv_iload hx hb dX10_groundOf_145 (lv_at hl 1 rfl) ?_
                  refine lv_if_eq (tgt := 154) hx hb dX10_groundOf_147 (by decide) (fun h147_21 => ?_) (fun h147_21 => ?_)
                  · have he := (if_pos h147_21).symm.trans he
                    refine lv_iconst (v := 0) hx hb dX10_groundOf_154 (by decide) ?_
                    exact W.iret (v := 0) hx hb hr (fun t ht hW => ⟨_, rfl, he, ht⟩) (fun _ h => nomatch h) dX10_groundOf_155
                  · have he := (if_neg h147_21).symm.trans he
                    refine lv_iconst (v := 4) hx hb dX10_groundOf_150 (by decide) ?_
                    refine lv_goto (tgt := 155) hx hb dX10_groundOf_151 (by decide) ?_
                    exact W.iret (v := 4) hx hb hr (fun t ht hW => ⟨_, rfl, he, ht⟩) (fun _ h => nomatch h) dX10_groundOf_155
                · have he := (if_pos h129_20).symm.trans he
                  refine lv_aload_n hx hb dX10_groundOf_132 rfl (lv_at hl 4 rfl) ?_
                  refine lv_iload_n hx hb dX10_groundOf_133 rfl (lv_at hl 5 rfl) ?_
                  refine lv_iload_n hx hb dX10_groundOf_134 rfl (lv_at hl 6 rfl) ?_
                  refine lv_iload hx hb dX10_groundOf_135 (lv_at hl 3 rfl) ?_
                  refine vp_callSi (va_Run.run (va_runV (As := [.int a1, .int a2, .int (a3 / 1440)]) (rest := []) ⟨hx, hb, hml, hown, hts⟩ (c_X10_hasDuty l dC dI q k st a1 a2 (a3 / 1440) hok hva1 _ rfl) (cwV 3 hts gX10_groundOf_X10_hasDuty rfl rfl rfl (by decide +kernel) ⟨Nat.le_of_ble_eq_true rfl, Nat.le_of_ble_eq_true rfl⟩) ⟨fb_M, va_recv hK.1 hP (ci := 10) (q0 := 0) rfl rfl, fun U hU hW => ⟨rfl, by rw [hU]; exact hP, hK.warm hW⟩⟩ rfl rfl hl.1 rfl (lv_room (Nat.le_of_ble_eq_true rfl)) dX10_groundOf_137 ⟨Nat.le_of_ble_eq_true rfl, Nat.le_of_ble_eq_true rfl⟩)) (fun r9 e9 => ?_)
                  subst e9
                  refine lv_if_eq (tgt := 145) hx hb dX10_groundOf_140 (by decide) (fun h140_22 => ?_) (fun h140_22 => ?_)
                  · have he := (if_pos h140_22).symm.trans he
                    refine lv_iload hx hb dX10_groundOf_145 (lv_at hl 1 rfl) ?_
                    refine lv_if_eq (tgt := 154) hx hb dX10_groundOf_147 (by decide) (fun h147_23 => ?_) (fun h147_23 => ?_)
                    · have he := (if_pos h147_23).symm.trans he
                      refine lv_iconst (v := 0) hx hb dX10_groundOf_154 (by decide) ?_
                      exact W.iret (v := 0) hx hb hr (fun t ht hW => ⟨_, rfl, he, ht⟩) (fun _ h => nomatch h) dX10_groundOf_155
                    · have he := (if_neg h147_23).symm.trans he
                      refine lv_iconst (v := 4) hx hb dX10_groundOf_150 (by decide) ?_
                      refine lv_goto (tgt := 155) hx hb dX10_groundOf_151 (by decide) ?_
                      exact W.iret (v := 4) hx hb hr (fun t ht hW => ⟨_, rfl, he, ht⟩) (fun _ h => nomatch h) dX10_groundOf_155
                  · have he := (if_neg h140_22).symm.trans he
                    refine lv_iconst (v := 3) hx hb dX10_groundOf_143 (by decide) ?_
                    exact W.iret (v := 3) hx hb hr (fun t ht hW => ⟨_, rfl, he, ht⟩) (fun _ h => nomatch h) dX10_groundOf_144
              · have he := (if_neg h122_19).symm.trans he
                refine lv_iconst (v := 2) hx hb dX10_groundOf_125 (by decide) ?_
                exact W.iret (v := 2) hx hb hr (fun t ht hW => ⟨_, rfl, he, ht⟩) (fun _ h => nomatch h) dX10_groundOf_126
          · have he := (if_neg h105_13).symm.trans he
            refine lv_iconst (v := 1) hx hb dX10_groundOf_108 (by decide) ?_
            exact W.iret (v := 1) hx hb hr (fun t ht hW => ⟨_, rfl, he, ht⟩) (fun _ h => nomatch h) dX10_groundOf_109
      · have he := (if_neg h22_1).symm.trans he
        refine lv_aload_n hx hb dX10_groundOf_25 rfl (lv_at hl 4 rfl) ?_
        refine lv_iload hx hb dX10_groundOf_26 (lv_at hl 0 rfl) ?_
        refine lv_iload_n hx hb dX10_groundOf_28 rfl (lv_at hl 5 rfl) ?_
        refine lv_iload hx hb dX10_groundOf_29 (lv_at hl 3 rfl) ?_
        refine vp_callSi (va_Run.run (va_runV (As := [.int x7_16, .int a1, .int (a3 / 1440)]) (rest := []) ⟨hx, hb, hml, hown, hts⟩ (c_X10_holdCovers l dC dI q k st x7_16 a1 (a3 / 1440) (ob_X10_groundOf_31_24 st a1 a2 a3 n_16 x7_16 x5_16 x6_16 hok hva1 hpa hpb hi0_16 hi1_16 hi2_16 h22_1) hva1 _ rfl) (cwV 3 hts gX10_groundOf_X10_holdCovers rfl rfl rfl (by decide +kernel) ⟨Nat.le_of_ble_eq_true rfl, Nat.le_of_ble_eq_true rfl⟩) ⟨fb_M, va_recv hK.1 hP (ci := 10) (q0 := 0) rfl rfl, fun U hU hW => ⟨rfl, by rw [hU]; exact hP, hK.warm hW⟩⟩ rfl rfl hl.1 rfl (lv_room (Nat.le_of_ble_eq_true rfl)) dX10_groundOf_31 ⟨Nat.le_of_ble_eq_true rfl, Nat.le_of_ble_eq_true rfl⟩)) (fun r9 e9 => ?_)
        subst e9
        refine lv_if_ne (tgt := 40) hx hb dX10_groundOf_34 (by decide) (fun h34_25 => ?_) (fun h34_25 => ?_)
        · have he := (if_neg h34_25).symm.trans he
          refine lv_iload hx hb dX10_groundOf_40 (lv_at hl 2 rfl) ?_
          refine lv_if_ne (tgt := 57) hx hb dX10_groundOf_42 (by decide) (fun h42_26 => ?_) (fun h42_26 => ?_)
          · have he := (if_neg h42_26).symm.trans he
            refine lv_iconst (v := 1) hx hb dX10_groundOf_57 (by decide) ?_
            refine lv_goto (tgt := 62) hx hb dX10_groundOf_58 (by decide) ?_
            refine lv_istore (lv' := [(5, .int 1), (7, .int x7_16), (6, .int x6_16), (4, .int (a3 / 1440)), (0, .ref (q 0)), (1, .int a1), (2, .int a2), (3, .int a3)]) hx hb dX10_groundOf_62 hl (by decide) rfl (fun ls hl => ?_)
            refine lv_iload hx hb dX10_groundOf_64 (lv_at hl 2 rfl) ?_
            refine lv_if_ne (tgt := 80) hx hb dX10_groundOf_66 (by decide) (fun h66_27 => ?_) (fun h66_27 => ?_)
            · have he := (if_neg h66_27).symm.trans he
              refine lv_iconst (v := 1) hx hb dX10_groundOf_80 (by decide) ?_
              refine lv_goto (tgt := 85) hx hb dX10_groundOf_81 (by decide) ?_
              refine lv_istore (lv' := [(6, .int 1), (5, .int 1), (7, .int x7_16), (4, .int (a3 / 1440)), (0, .ref (q 0)), (1, .int a1), (2, .int a2), (3, .int a3)]) hx hb dX10_groundOf_85 hl (by decide) rfl (fun ls hl => ?_)
              refine lv_iinc (v := x7_16 + 1) (lv' := [(7, .int (x7_16 + 1)), (6, .int 1), (5, .int 1), (4, .int (a3 / 1440)), (0, .ref (q 0)), (1, .int a1), (2, .int a2), (3, .int a3)]) hx hb dX10_groundOf_87 hl (k := 2) rfl rfl (by decide) rfl (fun ls hl => ?_)
              refine lv_goto (tgt := 16) hx hb dX10_groundOf_90 (by decide) ?_
              exact ih_16 (x7_16 + 1) 1 1 ls (ob_X10_groundOf_16_inv0_28 st a1 a2 a3 n_16 x7_16 x5_16 x6_16 hok hva1 hpa hpb hi0_16 hi1_16 hi2_16 h22_1 h34_25 h42_26 h66_27) (ob_X10_groundOf_16_inv1_29 st a1 a2 a3 n_16 x7_16 x5_16 x6_16 hok hva1 hpa hpb hi0_16 hi1_16 hi2_16 h22_1 h34_25 h42_26 h66_27) (ob_X10_groundOf_16_inv2_30 st a1 a2 a3 n_16 x7_16 x5_16 x6_16 hok hva1 hpa hpb hi0_16 hi1_16 hi2_16 h22_1 h34_25 h42_26 h66_27) he (lv_sub hl [0, 1, 2, 3, 4, 5, 6, 7] rfl)
            · have he := (if_pos h66_27).symm.trans he
              refine lv_aload_n hx hb dX10_groundOf_69 rfl (lv_at hl 4 rfl) ?_
              refine va_get (D := (dC, dI)) (ci := 10) (v := .ref (q 18)) (C := RX10) (T := TX10) (N := 45) hx hb hts hi10 hown hK.1 hP 0 rfl rfl 36 (by decide) hf97 (fun _ h9 => h9) rfl dX10_groundOf_70 ?_
              refine lv_iload hx hb dX10_groundOf_73 (lv_at hl 1 rfl) ?_
              refine va_iald hx hb hK.1 hP 18 17 (f := st.2.1 17) (n := 30) (cA := k 17) rfl rfl (i := x7_16) (ob_X10_groundOf_75_31 st a1 a2 a3 n_16 x7_16 x5_16 x6_16 hok hva1 hpa hpb hi0_16 hi1_16 hi2_16 h22_1 h34_25 h42_26 h66_27) dX10_groundOf_75 ?_
              refine lv_iload_n hx hb dX10_groundOf_76 rfl (lv_at hl 6 rfl) ?_
              refine lv_icmp_ne (tgt := 84) hx hb dX10_groundOf_77 (by decide) (fun h77_32 => ?_) (fun h77_32 => ?_)
              · have he := (if_neg h77_32).symm.trans he
                refine lv_iconst (v := 0) hx hb dX10_groundOf_84 (by decide) ?_
                refine lv_istore (lv' := [(6, .int 0), (5, .int 1), (7, .int x7_16), (4, .int (a3 / 1440)), (0, .ref (q 0)), (1, .int a1), (2, .int a2), (3, .int a3)]) hx hb dX10_groundOf_85 hl (by decide) rfl (fun ls hl => ?_)
                refine lv_iinc (v := x7_16 + 1) (lv' := [(7, .int (x7_16 + 1)), (6, .int 0), (5, .int 1), (4, .int (a3 / 1440)), (0, .ref (q 0)), (1, .int a1), (2, .int a2), (3, .int a3)]) hx hb dX10_groundOf_87 hl (k := 2) rfl rfl (by decide) rfl (fun ls hl => ?_)
                refine lv_goto (tgt := 16) hx hb dX10_groundOf_90 (by decide) ?_
                exact ih_16 (x7_16 + 1) 1 0 ls (ob_X10_groundOf_16_inv0_33 st a1 a2 a3 n_16 x7_16 x5_16 x6_16 hok hva1 hpa hpb hi0_16 hi1_16 hi2_16 h22_1 h34_25 h42_26 h66_27 h77_32) (ob_X10_groundOf_16_inv1_34 st a1 a2 a3 n_16 x7_16 x5_16 x6_16 hok hva1 hpa hpb hi0_16 hi1_16 hi2_16 h22_1 h34_25 h42_26 h66_27 h77_32) (ob_X10_groundOf_16_inv2_35 st a1 a2 a3 n_16 x7_16 x5_16 x6_16 hok hva1 hpa hpb hi0_16 hi1_16 hi2_16 h22_1 h34_25 h42_26 h66_27 h77_32) he (lv_sub hl [0, 1, 2, 3, 4, 5, 6, 7] rfl)
              · have he := (if_pos h77_32).symm.trans he
                refine lv_iconst (v := 1) hx hb dX10_groundOf_80 (by decide) ?_
                refine lv_goto (tgt := 85) hx hb dX10_groundOf_81 (by decide) ?_
                refine lv_istore (lv' := [(6, .int 1), (5, .int 1), (7, .int x7_16), (4, .int (a3 / 1440)), (0, .ref (q 0)), (1, .int a1), (2, .int a2), (3, .int a3)]) hx hb dX10_groundOf_85 hl (by decide) rfl (fun ls hl => ?_)
                refine lv_iinc (v := x7_16 + 1) (lv' := [(7, .int (x7_16 + 1)), (6, .int 1), (5, .int 1), (4, .int (a3 / 1440)), (0, .ref (q 0)), (1, .int a1), (2, .int a2), (3, .int a3)]) hx hb dX10_groundOf_87 hl (k := 2) rfl rfl (by decide) rfl (fun ls hl => ?_)
                refine lv_goto (tgt := 16) hx hb dX10_groundOf_90 (by decide) ?_
                exact ih_16 (x7_16 + 1) 1 1 ls (ob_X10_groundOf_16_inv0_36 st a1 a2 a3 n_16 x7_16 x5_16 x6_16 hok hva1 hpa hpb hi0_16 hi1_16 hi2_16 h22_1 h34_25 h42_26 h66_27 h77_32) (ob_X10_groundOf_16_inv1_37 st a1 a2 a3 n_16 x7_16 x5_16 x6_16 hok hva1 hpa hpb hi0_16 hi1_16 hi2_16 h22_1 h34_25 h42_26 h66_27 h77_32) (ob_X10_groundOf_16_inv2_38 st a1 a2 a3 n_16 x7_16 x5_16 x6_16 hok hva1 hpa hpb hi0_16 hi1_16 hi2_16 h22_1 h34_25 h42_26 h66_27 h77_32) he (lv_sub hl [0, 1, 2, 3, 4, 5, 6, 7] rfl)
          · have he := (if_pos h42_26).symm.trans he
            refine lv_aload_n hx hb dX10_groundOf_45 rfl (lv_at hl 4 rfl) ?_
            refine va_get (D := (dC, dI)) (ci := 10) (v := .ref (q 17)) (C := RX10) (T := TX10) (N := 45) hx hb hts hi10 hown hK.1 hP 0 rfl rfl 35 (by decide) hf94 (fun _ h9 => h9) rfl dX10_groundOf_46 ?_
            refine lv_iload hx hb dX10_groundOf_49 (lv_at hl 0 rfl) ?_
            refine va_iald hx hb hK.1 hP 17 16 (f := st.2.1 16) (n := 30) (cA := k 16) rfl rfl (i := x7_16) (ob_X10_groundOf_51_39 st a1 a2 a3 n_16 x7_16 x5_16 x6_16 hok hva1 hpa hpb hi0_16 hi1_16 hi2_16 h22_1 h34_25 h42_26) dX10_groundOf_51 ?_
            refine lv_bipush (v := 100) hx hb dX10_groundOf_52 (by decide) ?_
            refine lv_icmp_ge (tgt := 61) hx hb dX10_groundOf_54 (by decide) (fun h54_40 => ?_) (fun h54_40 => ?_)
            · have he := (if_pos h54_40).symm.trans he
              refine lv_iconst (v := 0) hx hb dX10_groundOf_61 (by decide) ?_
              refine lv_istore (lv' := [(5, .int 0), (7, .int x7_16), (6, .int x6_16), (4, .int (a3 / 1440)), (0, .ref (q 0)), (1, .int a1), (2, .int a2), (3, .int a3)]) hx hb dX10_groundOf_62 hl (by decide) rfl (fun ls hl => ?_)
              refine lv_iload hx hb dX10_groundOf_64 (lv_at hl 2 rfl) ?_
              refine lv_if_ne (tgt := 80) hx hb dX10_groundOf_66 (by decide) (fun h66_41 => ?_) (fun h66_41 => ?_)
              · have he := (if_neg h66_41).symm.trans he
                refine lv_iconst (v := 1) hx hb dX10_groundOf_80 (by decide) ?_
                refine lv_goto (tgt := 85) hx hb dX10_groundOf_81 (by decide) ?_
                refine lv_istore (lv' := [(6, .int 1), (5, .int 0), (7, .int x7_16), (4, .int (a3 / 1440)), (0, .ref (q 0)), (1, .int a1), (2, .int a2), (3, .int a3)]) hx hb dX10_groundOf_85 hl (by decide) rfl (fun ls hl => ?_)
                refine lv_iinc (v := x7_16 + 1) (lv' := [(7, .int (x7_16 + 1)), (6, .int 1), (5, .int 0), (4, .int (a3 / 1440)), (0, .ref (q 0)), (1, .int a1), (2, .int a2), (3, .int a3)]) hx hb dX10_groundOf_87 hl (k := 2) rfl rfl (by decide) rfl (fun ls hl => ?_)
                refine lv_goto (tgt := 16) hx hb dX10_groundOf_90 (by decide) ?_
                exact ih_16 (x7_16 + 1) 0 1 ls (ob_X10_groundOf_16_inv0_42 st a1 a2 a3 n_16 x7_16 x5_16 x6_16 hok hva1 hpa hpb hi0_16 hi1_16 hi2_16 h22_1 h34_25 h42_26 h54_40 h66_41) (ob_X10_groundOf_16_inv1_43 st a1 a2 a3 n_16 x7_16 x5_16 x6_16 hok hva1 hpa hpb hi0_16 hi1_16 hi2_16 h22_1 h34_25 h42_26 h54_40 h66_41) (ob_X10_groundOf_16_inv2_44 st a1 a2 a3 n_16 x7_16 x5_16 x6_16 hok hva1 hpa hpb hi0_16 hi1_16 hi2_16 h22_1 h34_25 h42_26 h54_40 h66_41) he (lv_sub hl [0, 1, 2, 3, 4, 5, 6, 7] rfl)
              · have he := (if_pos h66_41).symm.trans he
                refine lv_aload_n hx hb dX10_groundOf_69 rfl (lv_at hl 4 rfl) ?_
                refine va_get (D := (dC, dI)) (ci := 10) (v := .ref (q 18)) (C := RX10) (T := TX10) (N := 45) hx hb hts hi10 hown hK.1 hP 0 rfl rfl 36 (by decide) hf97 (fun _ h9 => h9) rfl dX10_groundOf_70 ?_
                refine lv_iload hx hb dX10_groundOf_73 (lv_at hl 1 rfl) ?_
                refine va_iald hx hb hK.1 hP 18 17 (f := st.2.1 17) (n := 30) (cA := k 17) rfl rfl (i := x7_16) (ob_X10_groundOf_75_45 st a1 a2 a3 n_16 x7_16 x5_16 x6_16 hok hva1 hpa hpb hi0_16 hi1_16 hi2_16 h22_1 h34_25 h42_26 h54_40 h66_41) dX10_groundOf_75 ?_
                refine lv_iload_n hx hb dX10_groundOf_76 rfl (lv_at hl 6 rfl) ?_
                refine lv_icmp_ne (tgt := 84) hx hb dX10_groundOf_77 (by decide) (fun h77_46 => ?_) (fun h77_46 => ?_)
                · have he := (if_neg h77_46).symm.trans he
                  refine lv_iconst (v := 0) hx hb dX10_groundOf_84 (by decide) ?_
                  refine lv_istore (lv' := [(6, .int 0), (5, .int 0), (7, .int x7_16), (4, .int (a3 / 1440)), (0, .ref (q 0)), (1, .int a1), (2, .int a2), (3, .int a3)]) hx hb dX10_groundOf_85 hl (by decide) rfl (fun ls hl => ?_)
                  refine lv_iinc (v := x7_16 + 1) (lv' := [(7, .int (x7_16 + 1)), (6, .int 0), (5, .int 0), (4, .int (a3 / 1440)), (0, .ref (q 0)), (1, .int a1), (2, .int a2), (3, .int a3)]) hx hb dX10_groundOf_87 hl (k := 2) rfl rfl (by decide) rfl (fun ls hl => ?_)
                  refine lv_goto (tgt := 16) hx hb dX10_groundOf_90 (by decide) ?_
                  exact ih_16 (x7_16 + 1) 0 0 ls (ob_X10_groundOf_16_inv0_47 st a1 a2 a3 n_16 x7_16 x5_16 x6_16 hok hva1 hpa hpb hi0_16 hi1_16 hi2_16 h22_1 h34_25 h42_26 h54_40 h66_41 h77_46) (ob_X10_groundOf_16_inv1_48 st a1 a2 a3 n_16 x7_16 x5_16 x6_16 hok hva1 hpa hpb hi0_16 hi1_16 hi2_16 h22_1 h34_25 h42_26 h54_40 h66_41 h77_46) (ob_X10_groundOf_16_inv2_49 st a1 a2 a3 n_16 x7_16 x5_16 x6_16 hok hva1 hpa hpb hi0_16 hi1_16 hi2_16 h22_1 h34_25 h42_26 h54_40 h66_41 h77_46) he (lv_sub hl [0, 1, 2, 3, 4, 5, 6, 7] rfl)
                · have he := (if_pos h77_46).symm.trans he
                  refine lv_iconst (v := 1) hx hb dX10_groundOf_80 (by decide) ?_
                  refine lv_goto (tgt := 85) hx hb dX10_groundOf_81 (by decide) ?_
                  refine lv_istore (lv' := [(6, .int 1), (5, .int 0), (7, .int x7_16), (4, .int (a3 / 1440)), (0, .ref (q 0)), (1, .int a1), (2, .int a2), (3, .int a3)]) hx hb dX10_groundOf_85 hl (by decide) rfl (fun ls hl => ?_)
                  refine lv_iinc (v := x7_16 + 1) (lv' := [(7, .int (x7_16 + 1)), (6, .int 1), (5, .int 0), (4, .int (a3 / 1440)), (0, .ref (q 0)), (1, .int a1), (2, .int a2), (3, .int a3)]) hx hb dX10_groundOf_87 hl (k := 2) rfl rfl (by decide) rfl (fun ls hl => ?_)
                  refine lv_goto (tgt := 16) hx hb dX10_groundOf_90 (by decide) ?_
                  exact ih_16 (x7_16 + 1) 0 1 ls (ob_X10_groundOf_16_inv0_50 st a1 a2 a3 n_16 x7_16 x5_16 x6_16 hok hva1 hpa hpb hi0_16 hi1_16 hi2_16 h22_1 h34_25 h42_26 h54_40 h66_41 h77_46) (ob_X10_groundOf_16_inv1_51 st a1 a2 a3 n_16 x7_16 x5_16 x6_16 hok hva1 hpa hpb hi0_16 hi1_16 hi2_16 h22_1 h34_25 h42_26 h54_40 h66_41 h77_46) (ob_X10_groundOf_16_inv2_52 st a1 a2 a3 n_16 x7_16 x5_16 x6_16 hok hva1 hpa hpb hi0_16 hi1_16 hi2_16 h22_1 h34_25 h42_26 h54_40 h66_41 h77_46) he (lv_sub hl [0, 1, 2, 3, 4, 5, 6, 7] rfl)
            · have he := (if_neg h54_40).symm.trans he
              refine lv_iconst (v := 1) hx hb dX10_groundOf_57 (by decide) ?_
              refine lv_goto (tgt := 62) hx hb dX10_groundOf_58 (by decide) ?_
              refine lv_istore (lv' := [(5, .int 1), (7, .int x7_16), (6, .int x6_16), (4, .int (a3 / 1440)), (0, .ref (q 0)), (1, .int a1), (2, .int a2), (3, .int a3)]) hx hb dX10_groundOf_62 hl (by decide) rfl (fun ls hl => ?_)
              refine lv_iload hx hb dX10_groundOf_64 (lv_at hl 2 rfl) ?_
              refine lv_if_ne (tgt := 80) hx hb dX10_groundOf_66 (by decide) (fun h66_53 => ?_) (fun h66_53 => ?_)
              · have he := (if_neg h66_53).symm.trans he
                refine lv_iconst (v := 1) hx hb dX10_groundOf_80 (by decide) ?_
                refine lv_goto (tgt := 85) hx hb dX10_groundOf_81 (by decide) ?_
                refine lv_istore (lv' := [(6, .int 1), (5, .int 1), (7, .int x7_16), (4, .int (a3 / 1440)), (0, .ref (q 0)), (1, .int a1), (2, .int a2), (3, .int a3)]) hx hb dX10_groundOf_85 hl (by decide) rfl (fun ls hl => ?_)
                refine lv_iinc (v := x7_16 + 1) (lv' := [(7, .int (x7_16 + 1)), (6, .int 1), (5, .int 1), (4, .int (a3 / 1440)), (0, .ref (q 0)), (1, .int a1), (2, .int a2), (3, .int a3)]) hx hb dX10_groundOf_87 hl (k := 2) rfl rfl (by decide) rfl (fun ls hl => ?_)
                refine lv_goto (tgt := 16) hx hb dX10_groundOf_90 (by decide) ?_
                exact ih_16 (x7_16 + 1) 1 1 ls (ob_X10_groundOf_16_inv0_54 st a1 a2 a3 n_16 x7_16 x5_16 x6_16 hok hva1 hpa hpb hi0_16 hi1_16 hi2_16 h22_1 h34_25 h42_26 h54_40 h66_53) (ob_X10_groundOf_16_inv1_55 st a1 a2 a3 n_16 x7_16 x5_16 x6_16 hok hva1 hpa hpb hi0_16 hi1_16 hi2_16 h22_1 h34_25 h42_26 h54_40 h66_53) (ob_X10_groundOf_16_inv2_56 st a1 a2 a3 n_16 x7_16 x5_16 x6_16 hok hva1 hpa hpb hi0_16 hi1_16 hi2_16 h22_1 h34_25 h42_26 h54_40 h66_53) he (lv_sub hl [0, 1, 2, 3, 4, 5, 6, 7] rfl)
              · have he := (if_pos h66_53).symm.trans he
                refine lv_aload_n hx hb dX10_groundOf_69 rfl (lv_at hl 4 rfl) ?_
                refine va_get (D := (dC, dI)) (ci := 10) (v := .ref (q 18)) (C := RX10) (T := TX10) (N := 45) hx hb hts hi10 hown hK.1 hP 0 rfl rfl 36 (by decide) hf97 (fun _ h9 => h9) rfl dX10_groundOf_70 ?_
                refine lv_iload hx hb dX10_groundOf_73 (lv_at hl 1 rfl) ?_
                refine va_iald hx hb hK.1 hP 18 17 (f := st.2.1 17) (n := 30) (cA := k 17) rfl rfl (i := x7_16) (ob_X10_groundOf_75_57 st a1 a2 a3 n_16 x7_16 x5_16 x6_16 hok hva1 hpa hpb hi0_16 hi1_16 hi2_16 h22_1 h34_25 h42_26 h54_40 h66_53) dX10_groundOf_75 ?_
                refine lv_iload_n hx hb dX10_groundOf_76 rfl (lv_at hl 6 rfl) ?_
                refine lv_icmp_ne (tgt := 84) hx hb dX10_groundOf_77 (by decide) (fun h77_58 => ?_) (fun h77_58 => ?_)
                · have he := (if_neg h77_58).symm.trans he
                  refine lv_iconst (v := 0) hx hb dX10_groundOf_84 (by decide) ?_
                  refine lv_istore (lv' := [(6, .int 0), (5, .int 1), (7, .int x7_16), (4, .int (a3 / 1440)), (0, .ref (q 0)), (1, .int a1), (2, .int a2), (3, .int a3)]) hx hb dX10_groundOf_85 hl (by decide) rfl (fun ls hl => ?_)
                  refine lv_iinc (v := x7_16 + 1) (lv' := [(7, .int (x7_16 + 1)), (6, .int 0), (5, .int 1), (4, .int (a3 / 1440)), (0, .ref (q 0)), (1, .int a1), (2, .int a2), (3, .int a3)]) hx hb dX10_groundOf_87 hl (k := 2) rfl rfl (by decide) rfl (fun ls hl => ?_)
                  refine lv_goto (tgt := 16) hx hb dX10_groundOf_90 (by decide) ?_
                  exact ih_16 (x7_16 + 1) 1 0 ls (ob_X10_groundOf_16_inv0_59 st a1 a2 a3 n_16 x7_16 x5_16 x6_16 hok hva1 hpa hpb hi0_16 hi1_16 hi2_16 h22_1 h34_25 h42_26 h54_40 h66_53 h77_58) (ob_X10_groundOf_16_inv1_60 st a1 a2 a3 n_16 x7_16 x5_16 x6_16 hok hva1 hpa hpb hi0_16 hi1_16 hi2_16 h22_1 h34_25 h42_26 h54_40 h66_53 h77_58) (ob_X10_groundOf_16_inv2_61 st a1 a2 a3 n_16 x7_16 x5_16 x6_16 hok hva1 hpa hpb hi0_16 hi1_16 hi2_16 h22_1 h34_25 h42_26 h54_40 h66_53 h77_58) he (lv_sub hl [0, 1, 2, 3, 4, 5, 6, 7] rfl)
                · have he := (if_pos h77_58).symm.trans he
                  refine lv_iconst (v := 1) hx hb dX10_groundOf_80 (by decide) ?_
                  refine lv_goto (tgt := 85) hx hb dX10_groundOf_81 (by decide) ?_
                  refine lv_istore (lv' := [(6, .int 1), (5, .int 1), (7, .int x7_16), (4, .int (a3 / 1440)), (0, .ref (q 0)), (1, .int a1), (2, .int a2), (3, .int a3)]) hx hb dX10_groundOf_85 hl (by decide) rfl (fun ls hl => ?_)
                  refine lv_iinc (v := x7_16 + 1) (lv' := [(7, .int (x7_16 + 1)), (6, .int 1), (5, .int 1), (4, .int (a3 / 1440)), (0, .ref (q 0)), (1, .int a1), (2, .int a2), (3, .int a3)]) hx hb dX10_groundOf_87 hl (k := 2) rfl rfl (by decide) rfl (fun ls hl => ?_)
                  refine lv_goto (tgt := 16) hx hb dX10_groundOf_90 (by decide) ?_
                  exact ih_16 (x7_16 + 1) 1 1 ls (ob_X10_groundOf_16_inv0_62 st a1 a2 a3 n_16 x7_16 x5_16 x6_16 hok hva1 hpa hpb hi0_16 hi1_16 hi2_16 h22_1 h34_25 h42_26 h54_40 h66_53 h77_58) (ob_X10_groundOf_16_inv1_63 st a1 a2 a3 n_16 x7_16 x5_16 x6_16 hok hva1 hpa hpb hi0_16 hi1_16 hi2_16 h22_1 h34_25 h42_26 h54_40 h66_53 h77_58) (ob_X10_groundOf_16_inv2_64 st a1 a2 a3 n_16 x7_16 x5_16 x6_16 hok hva1 hpa hpb hi0_16 hi1_16 hi2_16 h22_1 h34_25 h42_26 h54_40 h66_53 h77_58) he (lv_sub hl [0, 1, 2, 3, 4, 5, 6, 7] rfl)
        · have he := (if_pos h34_25).symm.trans he
          refine lv_goto (tgt := 87) hx hb dX10_groundOf_37 (by decide) ?_
          refine lv_iinc (v := x7_16 + 1) (lv' := [(7, .int (x7_16 + 1)), (6, .int x6_16), (5, .int x5_16), (4, .int (a3 / 1440)), (0, .ref (q 0)), (1, .int a1), (2, .int a2), (3, .int a3)]) hx hb dX10_groundOf_87 hl (k := 0) rfl rfl (by decide) rfl (fun ls hl => ?_)
          refine lv_goto (tgt := 16) hx hb dX10_groundOf_90 (by decide) ?_
          exact ih_16 (x7_16 + 1) x5_16 x6_16 ls (ob_X10_groundOf_16_inv0_65 st a1 a2 a3 n_16 x7_16 x5_16 x6_16 hok hva1 hpa hpb hi0_16 hi1_16 hi2_16 h22_1 h34_25) (ob_X10_groundOf_16_inv1_66 st a1 a2 a3 n_16 x7_16 x5_16 x6_16 hok hva1 hpa hpb hi0_16 hi1_16 hi2_16 h22_1 h34_25) (ob_X10_groundOf_16_inv2_67 st a1 a2 a3 n_16 x7_16 x5_16 x6_16 hok hva1 hpa hpb hi0_16 hi1_16 hi2_16 h22_1 h34_25) he (lv_sub hl [0, 1, 2, 3, 4, 5, 6, 7] rfl)
  exact k_16 ((st.1 6).toInt.toNat + 1) 0 0 0 ls (ob_X10_groundOf_16_inv0_68 st a1 a2 a3 hok hva1 hpa hpb) (ob_X10_groundOf_16_inv1_69 st a1 a2 a3 hok hva1 hpa hpb) (ob_X10_groundOf_16_inv2_70 st a1 a2 a3 hok hva1 hpa hpb) he (lv_sub hl [0, 1, 2, 3, 4, 5, 6, 7] rfl)
set_option maxHeartbeats 4000000 in
set_option maxRecDepth 100000 in
theorem c_X10_reckon (l : Launch) (dC : Nat → ClassId) (dI : Nat → Nat → Nat) (q : Nat → Nat) (k : Nat → ClassId) (st : St) (hq : ∀ i j, i < 35 → j < 35 → q i = q j → i = j) (hit : okIt st) (res : St) (hres : sp_X10_reckon st = res) : Met l yX10_reckon wsX10_reckon ({ frames := 0, cells := 0, slots := 0, locals := 0 } : Room) (va_Pc [.ref (q 0)] (fun U => va_P (dC, dI) vwCl (wM q k st) U.heap ∧ KM (dC, dI) k U)) (va_Qv (fun (_ : Unit) => True) (fun _ t => va_P (dC, dI) vwCl (wM q k res) t.heap) (aM q)) 0 0 (aM q) := by
  refine Met.ofW (cc := cX10_reckon) (maxL := 6) (ret := none) (by decide) rfl ?_
  intro p e s m args below meth c s₁ B hml hv
  obtain ⟨rfl, hP, hK⟩ := hv
  have hx := B.exec
  have hb := B.bytes
  have hr := B.returns
  have hts := atoms_spec (ws := wsX10_reckon) B.pre
  have hown : s.vm.findClass RX10 = some m.cls := findClass_of_methodNamed B.named
  have hlocks := B.notSynchronized
  have hS : va_S (aM q) s.heap s.heap [] := va_S.rf
  have hi10 : ∀ w ∈ wsX100, w ∈ wsX10_reckon := by decide +kernel
  have hf54 := hts (.fieldLink RX10 54 "ConsentRegisterModel" "hows" "[I") (by decide +kernel)
  have hf66 := hts (.fieldLink RX10 66 "ConsentRegisterModel" "firstInput" "[I") (by decide +kernel)
  have hf69 := hts (.fieldLink RX10 69 "ConsentRegisterModel" "secondInput" "[I") (by decide +kernel)
  have hf72 := hts (.fieldLink RX10 72 "ConsentRegisterModel" "word" "[I") (by decide +kernel)
  have hf75 := hts (.fieldLink RX10 75 "ConsentRegisterModel" "lives" "[Z") (by decide +kernel)
  have hf78 := hts (.fieldLink RX10 78 "ConsentRegisterModel" "values" "[J") (by decide +kernel)
  have hf157 := hts (.fieldLink RX10 157 "ConsentRegisterModel" "items" "I") (by decide +kernel)
  have hl := lv_entry ([.ref (q 0)]) (n := 6) (Nat.le_of_ble_eq_true rfl)
  rw [lg_entry_eq]
  generalize (lg_sl ([.ref (q 0)]) ++ List.replicate (6 - (lg_sl ([.ref (q 0)])).length) Slot.unset).toArray = ls at hl ⊢
  have hl : lv_has ls 6 [(0, .ref (q 0))] := hl
  have he := hres
  unfold sp_X10_reckon at he
  refine lv_iconst (v := 0) hx hb dX10_reckon_0 (by decide) ?_
  refine lv_istore_n (lv' := [(1, .int 0), (0, .ref (q 0))]) hx hb dX10_reckon_1 rfl hl (by decide) rfl (fun ls hl => ?_)
  have k_2 : ∀ (n_2 : Nat) (st_2 : St) (x1_2 : Int32) (H : Heap) (locs : List Loc) (ls : Array Slot), 0 ≤ x1_2.toInt → x1_2.toInt ≤ (st.1 7).toInt → (st.1 7).toInt < x1_2.toInt + n_2 → okIt st_2 → (st_2.1 7).toInt = (st.1 7).toInt → va_P (dC, dI) vwCl (wM q k st_2) H → va_S (aM q) s.heap H locs → lp_X10_reckon_2 st n_2 st_2 x1_2 = res → lv_has ls 6 [(0, .ref (q 0)), (1, .int x1_2)] → W p l e (headSpec wsX10_reckon ({ frames := 0, cells := 0, slots := 0, locals := 0 } : Room)).room s m ([.ref (q 0)] : List Value).toArray below meth c H locs 0 0 (MQ below (va_Qv (fun (_ : Unit) => True) (fun _ t => va_P (dC, dI) vwCl (wM q k res) t.heap) (aM q)) ([.ref (q 0)] : List Value).toArray s 0 0 (aM q)) (F0 m 2 ls []) := by
    intro n_2
    induction n_2 with
    | zero =>
      intro st_2 x1_2 H locs ls hi0_2 hi1_2 hi2_2 hi3_2 hi4_2
      exact (ob_X10_reckon_2_zero st st_2 x1_2 hit hi0_2 hi1_2 hi2_2 hi3_2 hi4_2).elim
    | succ n_2 ih_2 =>
      intro st_2 x1_2 H locs ls hi0_2 hi1_2 hi2_2 hi3_2 hi4_2 hP hS he hl
      rw [lp_X10_reckon_2] at he
      refine lv_iload_n hx hb dX10_reckon_2 rfl (lv_at hl 1 rfl) ?_
      refine lv_aload_n hx hb dX10_reckon_3 rfl (lv_at hl 0 rfl) ?_
      refine va_get (D := (dC, dI)) (ci := 10) (v := .int (st_2.1 7)) (C := RX10) (T := TX10) (N := 45) hx hb hts hi10 hown hK.1 hP 0 rfl rfl 19 (by decide) hf157 (fun _ h9 => h9) rfl dX10_reckon_4 ?_
      refine lv_icmp_ge (tgt := 178) hx hb dX10_reckon_7 (by decide) (fun h7_1 => ?_) (fun h7_1 => ?_)
      · have he := (if_pos h7_1).symm.trans he
        exact W.vret hx hb hr (fun t ht hW => ⟨⟨(), rfl, trivial, by show va_P _ _ _ t.heap; rw [ht, ← he]; exact hP⟩, hS.F ht⟩) hS.2.2 dX10_reckon_178
      · have he := (if_neg h7_1).symm.trans he
        have k_49 : ∀ (v0_49 : Int64) (ls : Array Slot), jn_X10_reckon_49 st st_2 x1_2 (lp_X10_reckon_2 st n_2) v0_49 = res → lv_has ls 6 [(0, .ref (q 0)), (1, .int x1_2)] → W p l e (headSpec wsX10_reckon ({ frames := 0, cells := 0, slots := 0, locals := 0 } : Room)).room s m ([.ref (q 0)] : List Value).toArray below meth c H locs 0 0 (MQ below (va_Qv (fun (_ : Unit) => True) (fun _ t => va_P (dC, dI) vwCl (wM q k res) t.heap) (aM q)) ([.ref (q 0)] : List Value).toArray s 0 0 (aM q)) (F0 m 49 ls [.long v0_49]) := by
          intro v0_49 ls he hl
          unfold jn_X10_reckon_49 at he
          refine lv_lstore_n (lv' := [(2, .long v0_49), (0, .ref (q 0)), (1, .int x1_2)]) hx hb dX10_reckon_49 rfl hl (by decide) rfl (fun ls hl => ?_)
          have k_89 : ∀ (v0_89 : Int64) (ls : Array Slot), jn_X10_reckon_89 st st_2 x1_2 v0_49 (lp_X10_reckon_2 st n_2) v0_89 = res → lv_has ls 6 [(2, .long v0_49), (0, .ref (q 0)), (1, .int x1_2)] → W p l e (headSpec wsX10_reckon ({ frames := 0, cells := 0, slots := 0, locals := 0 } : Room)).room s m ([.ref (q 0)] : List Value).toArray below meth c H locs 0 0 (MQ below (va_Qv (fun (_ : Unit) => True) (fun _ t => va_P (dC, dI) vwCl (wM q k res) t.heap) (aM q)) ([.ref (q 0)] : List Value).toArray s 0 0 (aM q)) (F0 m 89 ls [.long v0_89]) := by
            intro v0_89 ls he hl
            unfold jn_X10_reckon_89 at he
            refine lv_lstore (lv' := [(4, .long v0_89), (2, .long v0_49), (0, .ref (q 0)), (1, .int x1_2)]) hx hb dX10_reckon_89 hl (by decide) rfl (fun ls hl => ?_)
            refine lv_aload_n hx hb dX10_reckon_91 rfl (lv_at hl 2 rfl) ?_
            refine va_get (D := (dC, dI)) (ci := 10) (v := .ref (q 34)) (C := RX10) (T := TX10) (N := 45) hx hb hts hi10 hown hK.1 hP 0 rfl rfl 28 (by decide) hf78 (fun _ h9 => h9) rfl dX10_reckon_92 ?_
            refine lv_iload_n hx hb dX10_reckon_95 rfl (lv_at hl 3 rfl) ?_
            have k_171 : ∀ (v0_171 : Int64) (ls : Array Slot), jn_X10_reckon_171 st st_2 x1_2 v0_49 v0_89 (lp_X10_reckon_2 st n_2) v0_171 = res → lv_has ls 6 [(4, .long v0_89), (2, .long v0_49), (0, .ref (q 0)), (1, .int x1_2)] → W p l e (headSpec wsX10_reckon ({ frames := 0, cells := 0, slots := 0, locals := 0 } : Room)).room s m ([.ref (q 0)] : List Value).toArray below meth c H locs 0 0 (MQ below (va_Qv (fun (_ : Unit) => True) (fun _ t => va_P (dC, dI) vwCl (wM q k res) t.heap) (aM q)) ([.ref (q 0)] : List Value).toArray s 0 0 (aM q)) (F0 m 171 ls [.long v0_171, .int x1_2, .ref (q 34)]) := by
              intro v0_171 ls he hl
              unfold jn_X10_reckon_171 at he
              refine va_last hx hb hK.1 hP (dM_of hq) hS 34 33 (f := st_2.2.2) (n := 100) (cA := k 33) rfl rfl (i := x1_2) (x := v0_171) (ob_X10_reckon_171_2 st n_2 st_2 x1_2 v0_49 v0_89 v0_171 hit hi0_2 hi1_2 hi2_2 hi3_2 hi4_2 h7_1) dX10_reckon_171 (fun H locs hP _ hS => ?_)
              have hP : va_P (dC, dI) vwCl (wM q k (sL st_2 x1_2.toNatClampNeg v0_171)) H := hP
              refine lv_iinc (v := x1_2 + 1) (lv' := [(1, .int (x1_2 + 1)), (4, .long v0_89), (2, .long v0_49), (0, .ref (q 0))]) hx hb dX10_reckon_172 hl (k := 3) rfl rfl (by decide) rfl (fun ls hl => ?_)
              refine lv_goto (tgt := 2) hx hb dX10_reckon_175 (by decide) ?_
              exact ih_2 (sL st_2 x1_2.toNatClampNeg v0_171) (x1_2 + 1) _ _ ls (ob_X10_reckon_2_inv0_3 st n_2 st_2 x1_2 v0_49 v0_89 v0_171 hit hi0_2 hi1_2 hi2_2 hi3_2 hi4_2 h7_1) (ob_X10_reckon_2_inv1_4 st n_2 st_2 x1_2 v0_49 v0_89 v0_171 hit hi0_2 hi1_2 hi2_2 hi3_2 hi4_2 h7_1) (ob_X10_reckon_2_inv2_5 st n_2 st_2 x1_2 v0_49 v0_89 v0_171 hit hi0_2 hi1_2 hi2_2 hi3_2 hi4_2 h7_1) (ob_X10_reckon_2_inv3_6 st n_2 st_2 x1_2 v0_49 v0_89 v0_171 hit hi0_2 hi1_2 hi2_2 hi3_2 hi4_2 h7_1) (ob_X10_reckon_2_inv4_7 st n_2 st_2 x1_2 v0_49 v0_89 v0_171 hit hi0_2 hi1_2 hi2_2 hi3_2 hi4_2 h7_1) hP hS he (lv_sub hl [3, 0] rfl)
            refine lv_aload_n hx hb dX10_reckon_96 rfl (lv_at hl 2 rfl) ?_
            refine va_get (D := (dC, dI)) (ci := 10) (v := .ref (q 27)) (C := RX10) (T := TX10) (N := 45) hx hb hts hi10 hown hK.1 hP 0 rfl rfl 27 (by decide) hf75 (fun _ h9 => h9) rfl dX10_reckon_97 ?_
            refine lv_iload_n hx hb dX10_reckon_100 rfl (lv_at hl 3 rfl) ?_
            refine va_zald hx hb hK.1 hP 27 26 (f := st_2.2.1 26) (n := 100) (cA := k 26) rfl rfl (i := x1_2) (ob_X10_reckon_101_8 st n_2 st_2 x1_2 v0_49 v0_89 hit hi0_2 hi1_2 hi2_2 hi3_2 hi4_2 h7_1) dX10_reckon_101 ?_
            refine lv_if_ne (tgt := 109) hx hb dX10_reckon_102 (by decide) (fun h102_9 => ?_) (fun h102_9 => ?_)
            · have he := (if_neg h102_9).symm.trans he
              refine lv_aload_n hx hb dX10_reckon_109 rfl (lv_at hl 2 rfl) ?_
              refine va_get (D := (dC, dI)) (ci := 10) (v := .ref (q 24)) (C := RX10) (T := TX10) (N := 45) hx hb hts hi10 hown hK.1 hP 0 rfl rfl 20 (by decide) hf54 (fun _ h9 => h9) rfl dX10_reckon_110 ?_
              refine lv_iload_n hx hb dX10_reckon_113 rfl (lv_at hl 3 rfl) ?_
              refine va_iald hx hb hK.1 hP 24 23 (f := st_2.2.1 23) (n := 100) (cA := k 23) rfl rfl (i := x1_2) (ob_X10_reckon_114_10 st n_2 st_2 x1_2 v0_49 v0_89 hit hi0_2 hi1_2 hi2_2 hi3_2 hi4_2 h7_1 h102_9) dX10_reckon_114 ?_
              refine lv_iconst (v := (-1)) hx hb dX10_reckon_115 (by decide) ?_
              refine lv_icmp_ne (tgt := 129) hx hb dX10_reckon_116 (by decide) (fun h116_11 => ?_) (fun h116_11 => ?_)
              · have he := (if_neg h116_11).symm.trans he
                refine lv_aload_n hx hb dX10_reckon_129 rfl (lv_at hl 2 rfl) ?_
                refine va_get (D := (dC, dI)) (ci := 10) (v := .ref (q 24)) (C := RX10) (T := TX10) (N := 45) hx hb hts hi10 hown hK.1 hP 0 rfl rfl 20 (by decide) hf54 (fun _ h9 => h9) rfl dX10_reckon_130 ?_
                refine lv_iload_n hx hb dX10_reckon_133 rfl (lv_at hl 3 rfl) ?_
                refine va_iald hx hb hK.1 hP 24 23 (f := st_2.2.1 23) (n := 100) (cA := k 23) rfl rfl (i := x1_2) (ob_X10_reckon_134_12 st n_2 st_2 x1_2 v0_49 v0_89 hit hi0_2 hi1_2 hi2_2 hi3_2 hi4_2 h7_1 h102_9 h116_11) dX10_reckon_134 ?_
                refine lv_if_ne (tgt := 142) hx hb dX10_reckon_135 (by decide) (fun h135_13 => ?_) (fun h135_13 => ?_)
                · have he := (if_neg h135_13).symm.trans he
                  refine lv_aload_n hx hb dX10_reckon_142 rfl (lv_at hl 2 rfl) ?_
                  refine va_get (D := (dC, dI)) (ci := 10) (v := .ref (q 24)) (C := RX10) (T := TX10) (N := 45) hx hb hts hi10 hown hK.1 hP 0 rfl rfl 20 (by decide) hf54 (fun _ h9 => h9) rfl dX10_reckon_143 ?_
                  refine lv_iload_n hx hb dX10_reckon_146 rfl (lv_at hl 3 rfl) ?_
                  refine va_iald hx hb hK.1 hP 24 23 (f := st_2.2.1 23) (n := 100) (cA := k 23) rfl rfl (i := x1_2) (ob_X10_reckon_147_14 st n_2 st_2 x1_2 v0_49 v0_89 hit hi0_2 hi1_2 hi2_2 hi3_2 hi4_2 h7_1 h102_9 h116_11 h135_13) dX10_reckon_147 ?_
                  refine lv_iconst (v := 1) hx hb dX10_reckon_148 (by decide) ?_
                  refine lv_icmp_ne (tgt := 159) hx hb dX10_reckon_149 (by decide) (fun h149_15 => ?_) (fun h149_15 => ?_)
                  · have he := (if_neg h149_15).symm.trans he
                    refine lv_lload_n hx hb dX10_reckon_159 rfl (lv_at hl 1 rfl) ?_
                    refine lv_lload hx hb dX10_reckon_160 (lv_at hl 0 rfl) ?_
                    refine W.lcmp hx hb dX10_reckon_162 ?_
                    refine lv_if_le (tgt := 170) hx hb dX10_reckon_163 (by decide) (fun h163_16 => ?_) (fun h163_16 => ?_)
                    · have he := (if_pos h163_16).symm.trans he
                      refine lv_lconst (v := 0) hx hb dX10_reckon_170 (by decide) ?_
                      exact k_171 0 ls he (lv_sub hl [0, 1, 2, 3] rfl)
                    · have he := (if_neg h163_16).symm.trans he
                      refine lv_lconst (v := 1) hx hb dX10_reckon_166 (by decide) ?_
                      refine lv_goto (tgt := 171) hx hb dX10_reckon_167 (by decide) ?_
                      exact k_171 1 ls he (lv_sub hl [0, 1, 2, 3] rfl)
                  · have he := (if_pos h149_15).symm.trans he
                    refine lv_lload_n hx hb dX10_reckon_152 rfl (lv_at hl 1 rfl) ?_
                    refine lv_lload hx hb dX10_reckon_153 (lv_at hl 0 rfl) ?_
                    refine lv_ladd hx hb dX10_reckon_155 ?_
                    refine lv_goto (tgt := 171) hx hb dX10_reckon_156 (by decide) ?_
                    exact k_171 (v0_49 + v0_89) ls he (lv_sub hl [0, 1, 2, 3] rfl)
                · have he := (if_pos h135_13).symm.trans he
                  refine lv_lload_n hx hb dX10_reckon_138 rfl (lv_at hl 1 rfl) ?_
                  refine lv_goto (tgt := 171) hx hb dX10_reckon_139 (by decide) ?_
                  exact k_171 v0_49 ls he (lv_sub hl [0, 1, 2, 3] rfl)
              · have he := (if_pos h116_11).symm.trans he
                refine lv_aload_n hx hb dX10_reckon_119 rfl (lv_at hl 2 rfl) ?_
                refine va_get (D := (dC, dI)) (ci := 10) (v := .ref (q 29)) (C := RX10) (T := TX10) (N := 45) hx hb hts hi10 hown hK.1 hP 0 rfl rfl 26 (by decide) hf72 (fun _ h9 => h9) rfl dX10_reckon_120 ?_
                refine lv_iload_n hx hb dX10_reckon_123 rfl (lv_at hl 3 rfl) ?_
                refine va_iald hx hb hK.1 hP 29 28 (f := st_2.2.1 28) (n := 100) (cA := k 28) rfl rfl (i := x1_2) (ob_X10_reckon_124_17 st n_2 st_2 x1_2 v0_49 v0_89 hit hi0_2 hi1_2 hi2_2 hi3_2 hi4_2 h7_1 h102_9 h116_11) dX10_reckon_124 ?_
                refine lv_i2l (v := (st_2.2.1 28 x1_2.toNatClampNeg).toInt64) hx hb dX10_reckon_125 rfl ?_
                refine lv_goto (tgt := 171) hx hb dX10_reckon_126 (by decide) ?_
                exact k_171 ((st_2.2.1 28 x1_2.toNatClampNeg).toInt64) ls he (lv_sub hl [0, 1, 2, 3] rfl)
            · have he := (if_pos h102_9).symm.trans he
              refine lv_lconst (v := 0) hx hb dX10_reckon_105 (by decide) ?_
              refine lv_goto (tgt := 171) hx hb dX10_reckon_106 (by decide) ?_
              exact k_171 0 ls he (lv_sub hl [0, 1, 2, 3] rfl)
          refine lv_aload_n hx hb dX10_reckon_50 rfl (lv_at hl 1 rfl) ?_
          refine va_get (D := (dC, dI)) (ci := 10) (v := .ref (q 24)) (C := RX10) (T := TX10) (N := 45) hx hb hts hi10 hown hK.1 hP 0 rfl rfl 20 (by decide) hf54 (fun _ h9 => h9) rfl dX10_reckon_51 ?_
          refine lv_iload_n hx hb dX10_reckon_54 rfl (lv_at hl 2 rfl) ?_
          refine va_iald hx hb hK.1 hP 24 23 (f := st_2.2.1 23) (n := 100) (cA := k 23) rfl rfl (i := x1_2) (ob_X10_reckon_55_18 st n_2 st_2 x1_2 v0_49 hit hi0_2 hi1_2 hi2_2 hi3_2 hi4_2 h7_1) dX10_reckon_55 ?_
          refine lv_iconst (v := (-1)) hx hb dX10_reckon_56 (by decide) ?_
          refine lv_icmp_eq (tgt := 74) hx hb dX10_reckon_57 (by decide) (fun h57_19 => ?_) (fun h57_19 => ?_)
          · have he := (if_pos h57_19).symm.trans he
            refine lv_lconst (v := 0) hx hb dX10_reckon_74 (by decide) ?_
            refine lv_goto (tgt := 89) hx hb dX10_reckon_75 (by decide) ?_
            exact k_89 0 ls he (lv_sub hl [0, 1, 2] rfl)
          · have he := (if_neg h57_19).symm.trans he
            refine lv_aload_n hx hb dX10_reckon_60 rfl (lv_at hl 1 rfl) ?_
            refine va_get (D := (dC, dI)) (ci := 10) (v := .ref (q 27)) (C := RX10) (T := TX10) (N := 45) hx hb hts hi10 hown hK.1 hP 0 rfl rfl 27 (by decide) hf75 (fun _ h9 => h9) rfl dX10_reckon_61 ?_
            refine lv_aload_n hx hb dX10_reckon_64 rfl (lv_at hl 1 rfl) ?_
            refine va_get (D := (dC, dI)) (ci := 10) (v := .ref (q 26)) (C := RX10) (T := TX10) (N := 45) hx hb hts hi10 hown hK.1 hP 0 rfl rfl 25 (by decide) hf69 (fun _ h9 => h9) rfl dX10_reckon_65 ?_
            refine lv_iload_n hx hb dX10_reckon_68 rfl (lv_at hl 2 rfl) ?_
            refine va_iald hx hb hK.1 hP 26 25 (f := st_2.2.1 25) (n := 100) (cA := k 25) rfl rfl (i := x1_2) (ob_X10_reckon_69_20 st n_2 st_2 x1_2 v0_49 hit hi0_2 hi1_2 hi2_2 hi3_2 hi4_2 h7_1 h57_19) dX10_reckon_69 ?_
            refine va_zald hx hb hK.1 hP 27 26 (f := st_2.2.1 26) (n := 100) (cA := k 26) rfl rfl (i := st_2.2.1 25 x1_2.toNatClampNeg) (ob_X10_reckon_70_21 st n_2 st_2 x1_2 v0_49 hit hi0_2 hi1_2 hi2_2 hi3_2 hi4_2 h7_1 h57_19) dX10_reckon_70 ?_
            refine lv_if_ne (tgt := 78) hx hb dX10_reckon_71 (by decide) (fun h71_22 => ?_) (fun h71_22 => ?_)
            · have he := (if_neg h71_22).symm.trans he
              refine lv_aload_n hx hb dX10_reckon_78 rfl (lv_at hl 1 rfl) ?_
              refine va_get (D := (dC, dI)) (ci := 10) (v := .ref (q 34)) (C := RX10) (T := TX10) (N := 45) hx hb hts hi10 hown hK.1 hP 0 rfl rfl 28 (by decide) hf78 (fun _ h9 => h9) rfl dX10_reckon_79 ?_
              refine lv_aload_n hx hb dX10_reckon_82 rfl (lv_at hl 1 rfl) ?_
              refine va_get (D := (dC, dI)) (ci := 10) (v := .ref (q 26)) (C := RX10) (T := TX10) (N := 45) hx hb hts hi10 hown hK.1 hP 0 rfl rfl 25 (by decide) hf69 (fun _ h9 => h9) rfl dX10_reckon_83 ?_
              refine lv_iload_n hx hb dX10_reckon_86 rfl (lv_at hl 2 rfl) ?_
              refine va_iald hx hb hK.1 hP 26 25 (f := st_2.2.1 25) (n := 100) (cA := k 25) rfl rfl (i := x1_2) (ob_X10_reckon_87_23 st n_2 st_2 x1_2 v0_49 hit hi0_2 hi1_2 hi2_2 hi3_2 hi4_2 h7_1 h57_19 h71_22) dX10_reckon_87 ?_
              refine va_lald hx hb hK.1 hP 34 33 (f := st_2.2.2) (n := 100) (cA := k 33) rfl rfl (i := st_2.2.1 25 x1_2.toNatClampNeg) (ob_X10_reckon_88_24 st n_2 st_2 x1_2 v0_49 hit hi0_2 hi1_2 hi2_2 hi3_2 hi4_2 h7_1 h57_19 h71_22) dX10_reckon_88 ?_
              exact k_89 (st_2.2.2 (st_2.2.1 25 x1_2.toNatClampNeg).toNatClampNeg) ls he (lv_sub hl [0, 1, 2] rfl)
            · have he := (if_pos h71_22).symm.trans he
              refine lv_lconst (v := 0) hx hb dX10_reckon_74 (by decide) ?_
              refine lv_goto (tgt := 89) hx hb dX10_reckon_75 (by decide) ?_
              exact k_89 0 ls he (lv_sub hl [0, 1, 2] rfl)
        refine lv_aload_n hx hb dX10_reckon_10 rfl (lv_at hl 0 rfl) ?_
        refine va_get (D := (dC, dI)) (ci := 10) (v := .ref (q 24)) (C := RX10) (T := TX10) (N := 45) hx hb hts hi10 hown hK.1 hP 0 rfl rfl 20 (by decide) hf54 (fun _ h9 => h9) rfl dX10_reckon_11 ?_
        refine lv_iload_n hx hb dX10_reckon_14 rfl (lv_at hl 1 rfl) ?_
        refine va_iald hx hb hK.1 hP 24 23 (f := st_2.2.1 23) (n := 100) (cA := k 23) rfl rfl (i := x1_2) (ob_X10_reckon_15_25 st n_2 st_2 x1_2 hit hi0_2 hi1_2 hi2_2 hi3_2 hi4_2 h7_1) dX10_reckon_15 ?_
        refine lv_iconst (v := (-1)) hx hb dX10_reckon_16 (by decide) ?_
        refine lv_icmp_eq (tgt := 34) hx hb dX10_reckon_17 (by decide) (fun h17_26 => ?_) (fun h17_26 => ?_)
        · have he := (if_pos h17_26).symm.trans he
          refine lv_lconst (v := 0) hx hb dX10_reckon_34 (by decide) ?_
          refine lv_goto (tgt := 49) hx hb dX10_reckon_35 (by decide) ?_
          exact k_49 0 ls he (lv_sub hl [0, 1] rfl)
        · have he := (if_neg h17_26).symm.trans he
          refine lv_aload_n hx hb dX10_reckon_20 rfl (lv_at hl 0 rfl) ?_
          refine va_get (D := (dC, dI)) (ci := 10) (v := .ref (q 27)) (C := RX10) (T := TX10) (N := 45) hx hb hts hi10 hown hK.1 hP 0 rfl rfl 27 (by decide) hf75 (fun _ h9 => h9) rfl dX10_reckon_21 ?_
          refine lv_aload_n hx hb dX10_reckon_24 rfl (lv_at hl 0 rfl) ?_
          refine va_get (D := (dC, dI)) (ci := 10) (v := .ref (q 25)) (C := RX10) (T := TX10) (N := 45) hx hb hts hi10 hown hK.1 hP 0 rfl rfl 24 (by decide) hf66 (fun _ h9 => h9) rfl dX10_reckon_25 ?_
          refine lv_iload_n hx hb dX10_reckon_28 rfl (lv_at hl 1 rfl) ?_
          refine va_iald hx hb hK.1 hP 25 24 (f := st_2.2.1 24) (n := 100) (cA := k 24) rfl rfl (i := x1_2) (ob_X10_reckon_29_27 st n_2 st_2 x1_2 hit hi0_2 hi1_2 hi2_2 hi3_2 hi4_2 h7_1 h17_26) dX10_reckon_29 ?_
          refine va_zald hx hb hK.1 hP 27 26 (f := st_2.2.1 26) (n := 100) (cA := k 26) rfl rfl (i := st_2.2.1 24 x1_2.toNatClampNeg) (ob_X10_reckon_30_28 st n_2 st_2 x1_2 hit hi0_2 hi1_2 hi2_2 hi3_2 hi4_2 h7_1 h17_26) dX10_reckon_30 ?_
          refine lv_if_ne (tgt := 38) hx hb dX10_reckon_31 (by decide) (fun h31_29 => ?_) (fun h31_29 => ?_)
          · have he := (if_neg h31_29).symm.trans he
            refine lv_aload_n hx hb dX10_reckon_38 rfl (lv_at hl 0 rfl) ?_
            refine va_get (D := (dC, dI)) (ci := 10) (v := .ref (q 34)) (C := RX10) (T := TX10) (N := 45) hx hb hts hi10 hown hK.1 hP 0 rfl rfl 28 (by decide) hf78 (fun _ h9 => h9) rfl dX10_reckon_39 ?_
            refine lv_aload_n hx hb dX10_reckon_42 rfl (lv_at hl 0 rfl) ?_
            refine va_get (D := (dC, dI)) (ci := 10) (v := .ref (q 25)) (C := RX10) (T := TX10) (N := 45) hx hb hts hi10 hown hK.1 hP 0 rfl rfl 24 (by decide) hf66 (fun _ h9 => h9) rfl dX10_reckon_43 ?_
            refine lv_iload_n hx hb dX10_reckon_46 rfl (lv_at hl 1 rfl) ?_
            refine va_iald hx hb hK.1 hP 25 24 (f := st_2.2.1 24) (n := 100) (cA := k 24) rfl rfl (i := x1_2) (ob_X10_reckon_47_30 st n_2 st_2 x1_2 hit hi0_2 hi1_2 hi2_2 hi3_2 hi4_2 h7_1 h17_26 h31_29) dX10_reckon_47 ?_
            refine va_lald hx hb hK.1 hP 34 33 (f := st_2.2.2) (n := 100) (cA := k 33) rfl rfl (i := st_2.2.1 24 x1_2.toNatClampNeg) (ob_X10_reckon_48_31 st n_2 st_2 x1_2 hit hi0_2 hi1_2 hi2_2 hi3_2 hi4_2 h7_1 h17_26 h31_29) dX10_reckon_48 ?_
            exact k_49 (st_2.2.2 (st_2.2.1 24 x1_2.toNatClampNeg).toNatClampNeg) ls he (lv_sub hl [0, 1] rfl)
          · have he := (if_pos h31_29).symm.trans he
            refine lv_lconst (v := 0) hx hb dX10_reckon_34 (by decide) ?_
            refine lv_goto (tgt := 49) hx hb dX10_reckon_35 (by decide) ?_
            exact k_49 0 ls he (lv_sub hl [0, 1] rfl)
  exact k_2 ((st.1 7).toInt.toNat + 1) st 0 _ _ ls (ob_X10_reckon_2_inv0_32 st hit) (ob_X10_reckon_2_inv1_33 st hit) (ob_X10_reckon_2_inv2_34 st hit) (ob_X10_reckon_2_inv3_35 st hit) (ob_X10_reckon_2_inv4_36 st hit) hP hS he (lv_sub hl [1, 0] rfl)
set_option maxHeartbeats 4000000 in
set_option maxRecDepth 100000 in
theorem c_X10_peek (l : Launch) (dC : Nat → ClassId) (dI : Nat → Nat → Nat) (q : Nat → Nat) (k : Nat → ClassId) (st : St) (a1 : Int32) (hq : ∀ i j, i < 35 → j < 35 → q i = q j → i = j) (hit : okIt st) (res : Int64 × St) (hres : sp_X10_peek st a1 = res) : Met l yX10_peek wsX10_peek ({ frames := 2, cells := 0, slots := 0, locals := 43 } : Room) (va_Pc [.ref (q 0), .int a1] (fun U => va_P (dC, dI) vwCl (wM q k st) U.heap ∧ KM (dC, dI) k U)) (va_Ql (fun r (_ : Unit) => r = res.1) (fun _ t => va_P (dC, dI) vwCl (wM q k res.2) t.heap) (aM q)) 0 0 (aM q) := by
  refine Met.ofW (cc := cX10_peek) (maxL := 2) (ret := (some .long)) (by decide) rfl ?_
  intro p e s m args below meth c s₁ B hml hv
  obtain ⟨rfl, hP, hK⟩ := hv
  have hx := B.exec
  have hb := B.bytes
  have hr := B.returns
  have hts := atoms_spec (ws := wsX10_peek) B.pre
  have hown : s.vm.findClass RX10 = some m.cls := findClass_of_methodNamed B.named
  have hlocks := B.notSynchronized
  have hS : va_S (aM q) s.heap s.heap [] := va_S.rf
  have hi10 : ∀ w ∈ wsX100, w ∈ wsX10_peek := by decide +kernel
  have hf78 := hts (.fieldLink RX10 78 "ConsentRegisterModel" "values" "[J") (by decide +kernel)
  have hf121 := hts (.fieldLink RX10 121 "ConsentRegisterModel" "thrown" "I") (by decide +kernel)
  have hl := lv_entry ([.ref (q 0), .int a1]) (n := 2) (Nat.le_of_ble_eq_true rfl)
  rw [lg_entry_eq]
  generalize (lg_sl ([.ref (q 0), .int a1]) ++ List.replicate (2 - (lg_sl ([.ref (q 0), .int a1])).length) Slot.unset).toArray = ls at hl ⊢
  have hl : lv_has ls 2 [(0, .ref (q 0)), (1, .int a1)] := hl
  have he := hres
  unfold sp_X10_peek at he
  refine lv_aload_n hx hb dX10_peek_0 rfl (lv_at hl 0 rfl) ?_
  refine lv_iconst (v := 0) hx hb dX10_peek_1 (by decide) ?_
  refine va_put (D := (dC, dI)) (ci := 10) (v := .int 0) (ty := .int) (C := RX10) (T := TX10) (N := 45) hx hb hts hi10 tyX10 tyX10_ok nmX10 hown hK.1 hP (dM_of hq) hS 0 rfl rfl 0 (by decide) hf121 (fun _ h9 => h9) rfl (by decide +kernel) rfl rfl (Nat.le_of_ble_eq_true rfl) dX10_peek_2 (fun H locs hP _ hS => ?_)
  have hP : va_P (dC, dI) vwCl (wM q k (sI st 10 0)) H := hP
  refine lv_aload_n hx hb dX10_peek_5 rfl (lv_at hl 0 rfl) ?_
  refine va_callv (va_runV (As := []) (rest := []) ⟨hx, hb, hml, hown, hts⟩ (c_X10_reckon l dC dI q k (sI st 10 0) hq (ob_X10_peek_6_1 st a1 hit) _ rfl) (cwV 0 hts gX10_peek_X10_reckon rfl rfl rfl (by decide +kernel) ⟨Nat.le_of_ble_eq_true rfl, Nat.le_of_ble_eq_true rfl⟩) ⟨fb_M, va_recv hK.1 hP (ci := 10) (q0 := 0) rfl rfl, fun U hU hW => ⟨rfl, by rw [hU]; exact hP, hK.warm hW⟩⟩ rfl rfl hl.1 rfl (lv_room (Nat.le_of_ble_eq_true rfl)) dX10_peek_6 ⟨Nat.le_of_ble_eq_true rfl, Nat.le_of_ble_eq_true rfl⟩) hS (fun _ _ h => h) (fun _ h => h) (fun u9 t9 H locs ht9 hv9 e9 hB9 hz9 hk9 hS => ?_)
  rw [ht9] at hB9
  have hP : va_P (dC, dI) vwCl (wM q k (sp_X10_reckon (sI st 10 0))) H := hB9
  refine lv_aload_n hx hb dX10_peek_9 rfl (lv_at hl 0 rfl) ?_
  refine lv_iload_n hx hb dX10_peek_10 rfl (lv_at hl 1 rfl) ?_
  refine vp_callSi (va_Run.run (va_runV (As := [.int a1]) (rest := []) ⟨hx, hb, hml, hown, hts⟩ (c_X10_isLiving l dC dI q k (sp_X10_reckon (sI st 10 0)) a1 (ob_X10_peek_11_2 st a1 hit) _ rfl) (cwV 1 hts gX10_peek_X10_isLiving rfl rfl rfl (by decide +kernel) ⟨Nat.le_of_ble_eq_true rfl, Nat.le_of_ble_eq_true rfl⟩) ⟨fb_M, va_recv hK.1 hP (ci := 10) (q0 := 0) rfl rfl, fun U hU hW => ⟨rfl, by rw [hU]; exact hP, hK.warm hW⟩⟩ rfl rfl hl.1 rfl (lv_room (Nat.le_of_ble_eq_true rfl)) dX10_peek_11 ⟨Nat.le_of_ble_eq_true rfl, Nat.le_of_ble_eq_true rfl⟩)) (fun r9 e9 => ?_)
  subst e9
  refine lv_if_eq (tgt := 26) hx hb dX10_peek_14 (by decide) (fun h14_3 => ?_) (fun h14_3 => ?_)
  · have he := (if_pos h14_3).symm.trans he
    refine lv_lconst (v := 0) hx hb dX10_peek_26 (by decide) ?_
    exact W.lret (v := 0) hx hb hr (fun t ht hW => ⟨⟨_, (), rfl, by show _ = Prod.fst _; rw [← he], by show va_P _ _ _ t.heap; rw [ht, ← he]; exact hP⟩, hS.F ht⟩) hS.2.2 dX10_peek_27
  · have he := (if_neg h14_3).symm.trans he
    refine lv_aload_n hx hb dX10_peek_17 rfl (lv_at hl 0 rfl) ?_
    refine va_get (D := (dC, dI)) (ci := 10) (v := .ref (q 34)) (C := RX10) (T := TX10) (N := 45) hx hb hts hi10 hown hK.1 hP 0 rfl rfl 28 (by decide) hf78 (fun _ h9 => h9) rfl dX10_peek_18 ?_
    refine lv_iload_n hx hb dX10_peek_21 rfl (lv_at hl 1 rfl) ?_
    refine va_lald hx hb hK.1 hP 34 33 (f := (sp_X10_reckon (sI st 10 0)).2.2) (n := 100) (cA := k 33) rfl rfl (i := a1) (ob_X10_peek_22_4 st a1 hit h14_3) dX10_peek_22 ?_
    refine lv_goto (tgt := 27) hx hb dX10_peek_23 (by decide) ?_
    exact W.lret (v := (sp_X10_reckon (sI st 10 0)).2.2 a1.toNatClampNeg) hx hb hr (fun t ht hW => ⟨⟨_, (), rfl, by show _ = Prod.fst _; rw [← he], by show va_P _ _ _ t.heap; rw [ht, ← he]; exact hP⟩, hS.F ht⟩) hS.2.2 dX10_peek_27
set_option maxHeartbeats 4000000 in
set_option maxRecDepth 100000 in
theorem c_X10_use (l : Launch) (dC : Nat → ClassId) (dI : Nat → Nat → Nat) (q : Nat → Nat) (k : Nat → ClassId) (st : St) (a1 : Int32) (a2 : Int32) (a3 : Int32) (hq : ∀ i j, i < 35 → j < 35 → q i = q j → i = j) (hok : okM st) (res : Int64 × St) (hres : sp_X10_use st a1 a2 a3 = res) : Met l yX10_use wsX10_use ({ frames := 3, cells := 0, slots := 0, locals := 78 } : Room) (va_Pc [.ref (q 0), .int a1, .int a2, .int a3] (fun U => va_P (dC, dI) vwCl (wM q k st) U.heap ∧ KM (dC, dI) k U)) (va_Ql (fun r (_ : Unit) => r = res.1) (fun _ t => va_P (dC, dI) vwCl (wM q k res.2) t.heap) (aM q)) 0 0 (aM q) := by
  refine Met.ofW (cc := cX10_use) (maxL := 5) (ret := (some .long)) (by decide) rfl ?_
  intro p e s m args below meth c s₁ B hml hv
  obtain ⟨rfl, hP, hK⟩ := hv
  have hx := B.exec
  have hb := B.bytes
  have hr := B.returns
  have hts := atoms_spec (ws := wsX10_use) B.pre
  have hown : s.vm.findClass RX10 = some m.cls := findClass_of_methodNamed B.named
  have hlocks := B.notSynchronized
  have hS : va_S (aM q) s.heap s.heap [] := va_S.rf
  have hi10 : ∀ w ∈ wsX100, w ∈ wsX10_use := by decide +kernel
  have hf78 := hts (.fieldLink RX10 78 "ConsentRegisterModel" "values" "[J") (by decide +kernel)
  have hf106 := hts (.fieldLink RX10 106 "ConsentRegisterModel" "useItem" "[I") (by decide +kernel)
  have hf109 := hts (.fieldLink RX10 109 "ConsentRegisterModel" "usePurpose" "[I") (by decide +kernel)
  have hf112 := hts (.fieldLink RX10 112 "ConsentRegisterModel" "useMinute" "[I") (by decide +kernel)
  have hf115 := hts (.fieldLink RX10 115 "ConsentRegisterModel" "useGround" "[I") (by decide +kernel)
  have hf118 := hts (.fieldLink RX10 118 "ConsentRegisterModel" "latest" "I") (by decide +kernel)
  have hf121 := hts (.fieldLink RX10 121 "ConsentRegisterModel" "thrown" "I") (by decide +kernel)
  have hf202 := hts (.fieldLink RX10 202 "ConsentRegisterModel" "uses" "I") (by decide +kernel)
  have hl := lv_entry ([.ref (q 0), .int a1, .int a2, .int a3]) (n := 5) (Nat.le_of_ble_eq_true rfl)
  rw [lg_entry_eq]
  generalize (lg_sl ([.ref (q 0), .int a1, .int a2, .int a3]) ++ List.replicate (5 - (lg_sl ([.ref (q 0), .int a1, .int a2, .int a3])).length) Slot.unset).toArray = ls at hl ⊢
  have hl : lv_has ls 5 [(0, .ref (q 0)), (1, .int a1), (2, .int a2), (3, .int a3)] := hl
  have he := hres
  unfold sp_X10_use at he
  refine lv_aload_n hx hb dX10_use_0 rfl (lv_at hl 0 rfl) ?_
  refine lv_aload_n hx hb dX10_use_1 rfl (lv_at hl 0 rfl) ?_
  refine lv_iload_n hx hb dX10_use_2 rfl (lv_at hl 2 rfl) ?_
  refine vp_callSi (va_Run.run (va_runV (As := [.int a2]) (rest := [.ref (q 0)]) ⟨hx, hb, hml, hown, hts⟩ (c_X10_isPurpose l dC dI q k st a2 _ rfl) (cwV 1 hts gX10_use_X10_isPurpose rfl rfl rfl (by decide +kernel) ⟨Nat.le_of_ble_eq_true rfl, Nat.le_of_ble_eq_true rfl⟩) ⟨fb_M, va_recv hK.1 hP (ci := 10) (q0 := 0) rfl rfl, fun U hU hW => ⟨rfl, by rw [hU]; exact hP, hK.warm hW⟩⟩ rfl rfl hl.1 rfl (lv_room (Nat.le_of_ble_eq_true rfl)) dX10_use_3 ⟨Nat.le_of_ble_eq_true rfl, Nat.le_of_ble_eq_true rfl⟩)) (fun r9 e9 => ?_)
  subst e9
  refine lv_if_eq (tgt := 16) hx hb dX10_use_6 (by decide) (fun h6_1 => ?_) (fun h6_1 => ?_)
  · have he := (if_pos h6_1).symm.trans he
    refine lv_iconst (v := 2) hx hb dX10_use_16 (by decide) ?_
    refine lv_goto (tgt := 33) hx hb dX10_use_17 (by decide) ?_
    refine va_calli (va_runV (As := [.int 2]) (rest := []) ⟨hx, hb, hml, hown, hts⟩ (c_X10_says l dC dI q k st 2 hq _ rfl) (cwV 1 hts gX10_use_X10_says rfl rfl rfl (by decide +kernel) ⟨Nat.le_of_ble_eq_true rfl, Nat.le_of_ble_eq_true rfl⟩) ⟨fb_M, va_recv hK.1 hP (ci := 10) (q0 := 0) rfl rfl, fun U hU hW => ⟨rfl, by rw [hU]; exact hP, hK.warm hW⟩⟩ rfl rfl hl.1 rfl (lv_room (Nat.le_of_ble_eq_true rfl)) dX10_use_33 ⟨Nat.le_of_ble_eq_true rfl, Nat.le_of_ble_eq_true rfl⟩) hS (fun _ _ h => h) (fun _ h => h) (fun r9 u9 t9 H locs ht9 hv9 e9 hB9 hz9 hk9 hS => ?_)
    rw [ht9, says_2] at hB9
    replace e9 : r9 = 0 := e9.trans (saysV_2 _)
    subst e9
    have hP : va_P (dC, dI) vwCl (wM q k (sI st 10 2)) H := hB9
    refine lv_if_ne (tgt := 41) hx hb dX10_use_36 (by decide) (fun h9 => absurd h9 (by decide)) (fun _ => ?_)
    refine lv_lconst (v := 0) hx hb dX10_use_39 (by decide) ?_
    exact W.lret (v := 0) hx hb hr (fun t ht hW => ⟨⟨_, (), rfl, by show _ = Prod.fst _; rw [← he], by show va_P _ _ _ t.heap; rw [ht, ← he]; exact hP⟩, hS.F ht⟩) hS.2.2 dX10_use_40
  · have he := (if_neg h6_1).symm.trans he
    refine lv_iload_n hx hb dX10_use_9 rfl (lv_at hl 3 rfl) ?_
    refine vp_callSi (va_Run.run (va_runS (As := [.int a3]) (rest := [.ref (q 0)]) ⟨hx, hb, hml, hown, hts⟩ (c_X10_isMinute l a3 _ rfl) (va_cwS 1 hts gX10_use_X10_isMinute rfl rfl rfl (by decide +kernel) ⟨Nat.le_of_ble_eq_true rfl, Nat.le_of_ble_eq_true rfl⟩) ⟨fb_T, fun U hU hW => ⟨rfl, trivial⟩⟩ rfl rfl hl.1 rfl (lv_room (Nat.le_of_ble_eq_true rfl)) dX10_use_10 ⟨Nat.le_of_ble_eq_true rfl, Nat.le_of_ble_eq_true rfl⟩)) (fun r9 e9 => ?_)
    subst e9
    refine lv_if_ne (tgt := 20) hx hb dX10_use_13 (by decide) (fun h13_2 => ?_) (fun h13_2 => ?_)
    · have he := (if_neg h13_2).symm.trans he
      refine lv_aload_n hx hb dX10_use_20 rfl (lv_at hl 0 rfl) ?_
      refine lv_iload_n hx hb dX10_use_21 rfl (lv_at hl 1 rfl) ?_
      refine vp_callSi (va_Run.run (va_runV (As := [.int a1]) (rest := [.ref (q 0)]) ⟨hx, hb, hml, hown, hts⟩ (c_X10_isLiving l dC dI q k st a1 (ob_X10_use_22_3 st a1 a2 a3 hok h6_1 h13_2) _ rfl) (cwV 1 hts gX10_use_X10_isLiving rfl rfl rfl (by decide +kernel) ⟨Nat.le_of_ble_eq_true rfl, Nat.le_of_ble_eq_true rfl⟩) ⟨fb_M, va_recv hK.1 hP (ci := 10) (q0 := 0) rfl rfl, fun U hU hW => ⟨rfl, by rw [hU]; exact hP, hK.warm hW⟩⟩ rfl rfl hl.1 rfl (lv_room (Nat.le_of_ble_eq_true rfl)) dX10_use_22 ⟨Nat.le_of_ble_eq_true rfl, Nat.le_of_ble_eq_true rfl⟩)) (fun r9 e9 => ?_)
      subst e9
      refine lv_if_ne (tgt := 32) hx hb dX10_use_25 (by decide) (fun h25_4 => ?_) (fun h25_4 => ?_)
      · have he := (if_neg h25_4).symm.trans he
        refine lv_iconst (v := 0) hx hb dX10_use_32 (by decide) ?_
        refine va_calli (va_runV (As := [.int 0]) (rest := []) ⟨hx, hb, hml, hown, hts⟩ (c_X10_says l dC dI q k st 0 hq _ rfl) (cwV 1 hts gX10_use_X10_says rfl rfl rfl (by decide +kernel) ⟨Nat.le_of_ble_eq_true rfl, Nat.le_of_ble_eq_true rfl⟩) ⟨fb_M, va_recv hK.1 hP (ci := 10) (q0 := 0) rfl rfl, fun U hU hW => ⟨rfl, by rw [hU]; exact hP, hK.warm hW⟩⟩ rfl rfl hl.1 rfl (lv_room (Nat.le_of_ble_eq_true rfl)) dX10_use_33 ⟨Nat.le_of_ble_eq_true rfl, Nat.le_of_ble_eq_true rfl⟩) hS (fun _ _ h => h) (fun _ h => h) (fun r9 u9 t9 H locs ht9 hv9 e9 hB9 hz9 hk9 hS => ?_)
        rw [ht9, says_2] at hB9
        replace e9 : r9 = 1 := e9.trans (saysV_0 _)
        subst e9
        have hP : va_P (dC, dI) vwCl (wM q k (sI st 10 0)) H := hB9
        refine lv_if_ne (tgt := 41) hx hb dX10_use_36 (by decide) (fun _ => ?_) (fun h9 => absurd h9 (by decide))
        refine lv_aload_n hx hb dX10_use_41 rfl (lv_at hl 0 rfl) ?_
        refine lv_iload_n hx hb dX10_use_42 rfl (lv_at hl 1 rfl) ?_
        refine lv_iload_n hx hb dX10_use_43 rfl (lv_at hl 2 rfl) ?_
        refine lv_iload_n hx hb dX10_use_44 rfl (lv_at hl 3 rfl) ?_
        refine vp_callSi (va_Run.run (va_runV (As := [.int a1, .int a2, .int a3]) (rest := []) ⟨hx, hb, hml, hown, hts⟩ (c_X10_groundOf l dC dI q k (sI st 10 0) a1 a2 a3 (ob_X10_use_45_5 st a1 a2 a3 hok h6_1 h13_2 h25_4) (ob_X10_use_45_6 st a1 a2 a3 hok h6_1 h13_2 h25_4) (ob_X10_use_45_7 st a1 a2 a3 hok h6_1 h13_2 h25_4) (ob_X10_use_45_8 st a1 a2 a3 hok h6_1 h13_2 h25_4) _ rfl) (cwV 3 hts gX10_use_X10_groundOf rfl rfl rfl (by decide +kernel) ⟨Nat.le_of_ble_eq_true rfl, Nat.le_of_ble_eq_true rfl⟩) ⟨fb_M, va_recv hK.1 hP (ci := 10) (q0 := 0) rfl rfl, fun U hU hW => ⟨rfl, by rw [hU]; exact hP, hK.warm hW⟩⟩ rfl rfl hl.1 rfl (lv_room (Nat.le_of_ble_eq_true rfl)) dX10_use_45 ⟨Nat.le_of_ble_eq_true rfl, Nat.le_of_ble_eq_true rfl⟩)) (fun r9 e9 => ?_)
        subst e9
        refine lv_istore (lv' := [(4, .int (sp_X10_groundOf (sI st 10 0) a1 a2 a3)), (0, .ref (q 0)), (1, .int a1), (2, .int a2), (3, .int a3)]) hx hb dX10_use_48 hl (by decide) rfl (fun ls hl => ?_)
        refine lv_aload_n hx hb dX10_use_50 rfl (lv_at hl 1 rfl) ?_
        refine lv_iload hx hb dX10_use_51 (lv_at hl 0 rfl) ?_
        refine va_put (D := (dC, dI)) (ci := 10) (v := .int (sp_X10_groundOf (sI st 10 0) a1 a2 a3)) (ty := .int) (C := RX10) (T := TX10) (N := 45) hx hb hts hi10 tyX10 tyX10_ok nmX10 hown hK.1 hP (dM_of hq) hS 0 rfl rfl 44 (by decide) hf118 (fun _ h9 => h9) rfl (by decide +kernel) rfl rfl (Nat.le_of_ble_eq_true rfl) dX10_use_53 (fun H locs hP _ hS => ?_)
        have hP : va_P (dC, dI) vwCl (wM q k (sI (sI st 10 0) 9 (sp_X10_groundOf (sI st 10 0) a1 a2 a3))) H := hP
        refine lv_aload_n hx hb dX10_use_56 rfl (lv_at hl 1 rfl) ?_
        refine va_get (D := (dC, dI)) (ci := 10) (v := .int (st.1 8)) (C := RX10) (T := TX10) (N := 45) hx hb hts hi10 hown hK.1 hP 0 rfl rfl 39 (by decide) hf202 (fun _ h9 => h9) rfl dX10_use_57 ?_
        refine lv_sipush (v := 200) hx hb dX10_use_60 (by decide) ?_
        refine lv_icmp_ge (tgt := 117) hx hb dX10_use_63 (by decide) (fun h63_9 => ?_) (fun h63_9 => ?_)
        · have he := (if_pos h63_9).symm.trans he
          refine lv_aload_n hx hb dX10_use_117 rfl (lv_at hl 1 rfl) ?_
          refine lv_iload hx hb dX10_use_118 (lv_at hl 0 rfl) ?_
          refine lv_if_ne (tgt := 127) hx hb dX10_use_120 (by decide) (fun h120_10 => ?_) (fun h120_10 => ?_)
          · have he := (if_neg h120_10).symm.trans he
            refine lv_iconst (v := 0) hx hb dX10_use_127 (by decide) ?_
            refine va_put (D := (dC, dI)) (ci := 10) (v := .int 0) (ty := .int) (C := RX10) (T := TX10) (N := 45) hx hb hts hi10 tyX10 tyX10_ok nmX10 hown hK.1 hP (dM_of hq) hS 0 rfl rfl 0 (by decide) hf121 (fun _ h9 => h9) rfl (by decide +kernel) rfl rfl (Nat.le_of_ble_eq_true rfl) dX10_use_128 (fun H locs hP _ hS => ?_)
            have hP : va_P (dC, dI) vwCl (wM q k (sI (sI (sI st 10 0) 9 (sp_X10_groundOf (sI st 10 0) a1 a2 a3)) 10 0)) H := hP
            refine lv_aload_n hx hb dX10_use_131 rfl (lv_at hl 1 rfl) ?_
            refine va_callv (va_runV (As := []) (rest := []) ⟨hx, hb, hml, hown, hts⟩ (c_X10_reckon l dC dI q k (sI (sI (sI st 10 0) 9 (sp_X10_groundOf (sI st 10 0) a1 a2 a3)) 10 0) hq (ob_X10_use_132_11 st a1 a2 a3 hok h6_1 h13_2 h25_4 h63_9 h120_10) _ rfl) (cwV 0 hts gX10_use_X10_reckon rfl rfl rfl (by decide +kernel) ⟨Nat.le_of_ble_eq_true rfl, Nat.le_of_ble_eq_true rfl⟩) ⟨fb_M, va_recv hK.1 hP (ci := 10) (q0 := 0) rfl rfl, fun U hU hW => ⟨rfl, by rw [hU]; exact hP, hK.warm hW⟩⟩ rfl rfl hl.1 rfl (lv_room (Nat.le_of_ble_eq_true rfl)) dX10_use_132 ⟨Nat.le_of_ble_eq_true rfl, Nat.le_of_ble_eq_true rfl⟩) hS (fun _ _ h => h) (fun _ h => h) (fun u9 t9 H locs ht9 hv9 e9 hB9 hz9 hk9 hS => ?_)
            rw [ht9] at hB9
            have hP : va_P (dC, dI) vwCl (wM q k (sp_X10_reckon (sI (sI (sI st 10 0) 9 (sp_X10_groundOf (sI st 10 0) a1 a2 a3)) 10 0))) H := hB9
            refine lv_iload hx hb dX10_use_135 (lv_at hl 0 rfl) ?_
            refine lv_if_ne (tgt := 144) hx hb dX10_use_137 (by decide) (fun h137_12 => ?_) (fun h137_12 => ?_)
            · have he := (if_neg h137_12).symm.trans he
              refine lv_aload_n hx hb dX10_use_144 rfl (lv_at hl 1 rfl) ?_
              refine va_get (D := (dC, dI)) (ci := 10) (v := .ref (q 34)) (C := RX10) (T := TX10) (N := 45) hx hb hts hi10 hown hK.1 hP 0 rfl rfl 28 (by decide) hf78 (fun _ h9 => h9) rfl dX10_use_145 ?_
              refine lv_iload_n hx hb dX10_use_148 rfl (lv_at hl 2 rfl) ?_
              refine va_lald hx hb hK.1 hP 34 33 (f := (sp_X10_reckon (sI (sI (sI st 10 0) 9 (sp_X10_groundOf (sI st 10 0) a1 a2 a3)) 10 0)).2.2) (n := 100) (cA := k 33) rfl rfl (i := a1) (ob_X10_use_149_13 st a1 a2 a3 hok h6_1 h13_2 h25_4 h63_9 h120_10 h137_12) dX10_use_149 ?_
              exact W.lret (v := (sp_X10_reckon (sI (sI (sI st 10 0) 9 (sp_X10_groundOf (sI st 10 0) a1 a2 a3)) 10 0)).2.2 a1.toNatClampNeg) hx hb hr (fun t ht hW => ⟨⟨_, (), rfl, by show _ = Prod.fst _; rw [← he], by show va_P _ _ _ t.heap; rw [ht, ← he]; exact hP⟩, hS.F ht⟩) hS.2.2 dX10_use_150
            · have he := (if_pos h137_12).symm.trans he
              refine lv_lconst (v := 0) hx hb dX10_use_140 (by decide) ?_
              refine lv_goto (tgt := 150) hx hb dX10_use_141 (by decide) ?_
              exact W.lret (v := 0) hx hb hr (fun t ht hW => ⟨⟨_, (), rfl, by show _ = Prod.fst _; rw [← he], by show va_P _ _ _ t.heap; rw [ht, ← he]; exact hP⟩, hS.F ht⟩) hS.2.2 dX10_use_150
          · have he := (if_pos h120_10).symm.trans he
            refine lv_iconst (v := 3) hx hb dX10_use_123 (by decide) ?_
            refine lv_goto (tgt := 128) hx hb dX10_use_124 (by decide) ?_
            refine va_put (D := (dC, dI)) (ci := 10) (v := .int 3) (ty := .int) (C := RX10) (T := TX10) (N := 45) hx hb hts hi10 tyX10 tyX10_ok nmX10 hown hK.1 hP (dM_of hq) hS 0 rfl rfl 0 (by decide) hf121 (fun _ h9 => h9) rfl (by decide +kernel) rfl rfl (Nat.le_of_ble_eq_true rfl) dX10_use_128 (fun H locs hP _ hS => ?_)
            have hP : va_P (dC, dI) vwCl (wM q k (sI (sI (sI st 10 0) 9 (sp_X10_groundOf (sI st 10 0) a1 a2 a3)) 10 3)) H := hP
            refine lv_aload_n hx hb dX10_use_131 rfl (lv_at hl 1 rfl) ?_
            refine va_callv (va_runV (As := []) (rest := []) ⟨hx, hb, hml, hown, hts⟩ (c_X10_reckon l dC dI q k (sI (sI (sI st 10 0) 9 (sp_X10_groundOf (sI st 10 0) a1 a2 a3)) 10 3) hq (ob_X10_use_132_14 st a1 a2 a3 hok h6_1 h13_2 h25_4 h63_9 h120_10) _ rfl) (cwV 0 hts gX10_use_X10_reckon rfl rfl rfl (by decide +kernel) ⟨Nat.le_of_ble_eq_true rfl, Nat.le_of_ble_eq_true rfl⟩) ⟨fb_M, va_recv hK.1 hP (ci := 10) (q0 := 0) rfl rfl, fun U hU hW => ⟨rfl, by rw [hU]; exact hP, hK.warm hW⟩⟩ rfl rfl hl.1 rfl (lv_room (Nat.le_of_ble_eq_true rfl)) dX10_use_132 ⟨Nat.le_of_ble_eq_true rfl, Nat.le_of_ble_eq_true rfl⟩) hS (fun _ _ h => h) (fun _ h => h) (fun u9 t9 H locs ht9 hv9 e9 hB9 hz9 hk9 hS => ?_)
            rw [ht9] at hB9
            have hP : va_P (dC, dI) vwCl (wM q k (sp_X10_reckon (sI (sI (sI st 10 0) 9 (sp_X10_groundOf (sI st 10 0) a1 a2 a3)) 10 3))) H := hB9
            refine lv_iload hx hb dX10_use_135 (lv_at hl 0 rfl) ?_
            refine lv_if_ne (tgt := 144) hx hb dX10_use_137 (by decide) (fun h137_15 => ?_) (fun h137_15 => ?_)
            · have he := (if_neg h137_15).symm.trans he
              refine lv_aload_n hx hb dX10_use_144 rfl (lv_at hl 1 rfl) ?_
              refine va_get (D := (dC, dI)) (ci := 10) (v := .ref (q 34)) (C := RX10) (T := TX10) (N := 45) hx hb hts hi10 hown hK.1 hP 0 rfl rfl 28 (by decide) hf78 (fun _ h9 => h9) rfl dX10_use_145 ?_
              refine lv_iload_n hx hb dX10_use_148 rfl (lv_at hl 2 rfl) ?_
              refine va_lald hx hb hK.1 hP 34 33 (f := (sp_X10_reckon (sI (sI (sI st 10 0) 9 (sp_X10_groundOf (sI st 10 0) a1 a2 a3)) 10 3)).2.2) (n := 100) (cA := k 33) rfl rfl (i := a1) (ob_X10_use_149_16 st a1 a2 a3 hok h6_1 h13_2 h25_4 h63_9 h120_10 h137_15) dX10_use_149 ?_
              exact W.lret (v := (sp_X10_reckon (sI (sI (sI st 10 0) 9 (sp_X10_groundOf (sI st 10 0) a1 a2 a3)) 10 3)).2.2 a1.toNatClampNeg) hx hb hr (fun t ht hW => ⟨⟨_, (), rfl, by show _ = Prod.fst _; rw [← he], by show va_P _ _ _ t.heap; rw [ht, ← he]; exact hP⟩, hS.F ht⟩) hS.2.2 dX10_use_150
            · have he := (if_pos h137_15).symm.trans he
              refine lv_lconst (v := 0) hx hb dX10_use_140 (by decide) ?_
              refine lv_goto (tgt := 150) hx hb dX10_use_141 (by decide) ?_
              exact W.lret (v := 0) hx hb hr (fun t ht hW => ⟨⟨_, (), rfl, by show _ = Prod.fst _; rw [← he], by show va_P _ _ _ t.heap; rw [ht, ← he]; exact hP⟩, hS.F ht⟩) hS.2.2 dX10_use_150
        · have he := (if_neg h63_9).symm.trans he
          refine lv_aload_n hx hb dX10_use_66 rfl (lv_at hl 1 rfl) ?_
          refine va_get (D := (dC, dI)) (ci := 10) (v := .ref (q 30)) (C := RX10) (T := TX10) (N := 45) hx hb hts hi10 hown hK.1 hP 0 rfl rfl 40 (by decide) hf106 (fun _ h9 => h9) rfl dX10_use_67 ?_
          refine lv_aload_n hx hb dX10_use_70 rfl (lv_at hl 1 rfl) ?_
          refine va_get (D := (dC, dI)) (ci := 10) (v := .int (st.1 8)) (C := RX10) (T := TX10) (N := 45) hx hb hts hi10 hown hK.1 hP 0 rfl rfl 39 (by decide) hf202 (fun _ h9 => h9) rfl dX10_use_71 ?_
          refine lv_iload_n hx hb dX10_use_74 rfl (lv_at hl 2 rfl) ?_
          refine va_iast hx hb hK.1 hP (dM_of hq) hS 30 29 (f := st.2.1 29) (n := 200) (cA := k 29) rfl rfl (i := st.1 8) (x := a1) (ob_X10_use_75_17 st a1 a2 a3 hok h6_1 h13_2 h25_4 h63_9) dX10_use_75 (fun H locs hP _ hS => ?_)
          have hP : va_P (dC, dI) vwCl (wM q k (sA (sI (sI st 10 0) 9 (sp_X10_groundOf (sI st 10 0) a1 a2 a3)) 29 ((st.1 8).toNatClampNeg) a1)) H := hP
          refine lv_aload_n hx hb dX10_use_76 rfl (lv_at hl 1 rfl) ?_
          refine va_get (D := (dC, dI)) (ci := 10) (v := .ref (q 31)) (C := RX10) (T := TX10) (N := 45) hx hb hts hi10 hown hK.1 hP 0 rfl rfl 41 (by decide) hf109 (fun _ h9 => h9) rfl dX10_use_77 ?_
          refine lv_aload_n hx hb dX10_use_80 rfl (lv_at hl 1 rfl) ?_
          refine va_get (D := (dC, dI)) (ci := 10) (v := .int (st.1 8)) (C := RX10) (T := TX10) (N := 45) hx hb hts hi10 hown hK.1 hP 0 rfl rfl 39 (by decide) hf202 (fun _ h9 => h9) rfl dX10_use_81 ?_
          refine lv_iload_n hx hb dX10_use_84 rfl (lv_at hl 3 rfl) ?_
          refine va_iast hx hb hK.1 hP (dM_of hq) hS 31 30 (f := st.2.1 30) (n := 200) (cA := k 30) rfl rfl (i := st.1 8) (x := a2) (ob_X10_use_85_18 st a1 a2 a3 hok h6_1 h13_2 h25_4 h63_9) dX10_use_85 (fun H locs hP _ hS => ?_)
          have hP : va_P (dC, dI) vwCl (wM q k (sA (sA (sI (sI st 10 0) 9 (sp_X10_groundOf (sI st 10 0) a1 a2 a3)) 29 ((st.1 8).toNatClampNeg) a1) 30 ((st.1 8).toNatClampNeg) a2)) H := hP
          refine lv_aload_n hx hb dX10_use_86 rfl (lv_at hl 1 rfl) ?_
          refine va_get (D := (dC, dI)) (ci := 10) (v := .ref (q 32)) (C := RX10) (T := TX10) (N := 45) hx hb hts hi10 hown hK.1 hP 0 rfl rfl 42 (by decide) hf112 (fun _ h9 => h9) rfl dX10_use_87 ?_
          refine lv_aload_n hx hb dX10_use_90 rfl (lv_at hl 1 rfl) ?_
          refine va_get (D := (dC, dI)) (ci := 10) (v := .int (st.1 8)) (C := RX10) (T := TX10) (N := 45) hx hb hts hi10 hown hK.1 hP 0 rfl rfl 39 (by decide) hf202 (fun _ h9 => h9) rfl dX10_use_91 ?_
          refine lv_iload_n hx hb dX10_use_94 rfl (lv_at hl 4 rfl) ?_
          refine va_iast hx hb hK.1 hP (dM_of hq) hS 32 31 (f := st.2.1 31) (n := 200) (cA := k 31) rfl rfl (i := st.1 8) (x := a3) (ob_X10_use_95_19 st a1 a2 a3 hok h6_1 h13_2 h25_4 h63_9) dX10_use_95 (fun H locs hP _ hS => ?_)
          have hP : va_P (dC, dI) vwCl (wM q k (sA (sA (sA (sI (sI st 10 0) 9 (sp_X10_groundOf (sI st 10 0) a1 a2 a3)) 29 ((st.1 8).toNatClampNeg) a1) 30 ((st.1 8).toNatClampNeg) a2) 31 ((st.1 8).toNatClampNeg) a3)) H := hP
          refine lv_aload_n hx hb dX10_use_96 rfl (lv_at hl 1 rfl) ?_
          refine va_get (D := (dC, dI)) (ci := 10) (v := .ref (q 33)) (C := RX10) (T := TX10) (N := 45) hx hb hts hi10 hown hK.1 hP 0 rfl rfl 43 (by decide) hf115 (fun _ h9 => h9) rfl dX10_use_97 ?_
          refine lv_aload_n hx hb dX10_use_100 rfl (lv_at hl 1 rfl) ?_
          refine va_get (D := (dC, dI)) (ci := 10) (v := .int (st.1 8)) (C := RX10) (T := TX10) (N := 45) hx hb hts hi10 hown hK.1 hP 0 rfl rfl 39 (by decide) hf202 (fun _ h9 => h9) rfl dX10_use_101 ?_
          refine lv_iload hx hb dX10_use_104 (lv_at hl 0 rfl) ?_
          refine va_iast hx hb hK.1 hP (dM_of hq) hS 33 32 (f := st.2.1 32) (n := 200) (cA := k 32) rfl rfl (i := st.1 8) (x := (sp_X10_groundOf (sI st 10 0) a1 a2 a3)) (ob_X10_use_106_20 st a1 a2 a3 hok h6_1 h13_2 h25_4 h63_9) dX10_use_106 (fun H locs hP _ hS => ?_)
          have hP : va_P (dC, dI) vwCl (wM q k (sA (sA (sA (sA (sI (sI st 10 0) 9 (sp_X10_groundOf (sI st 10 0) a1 a2 a3)) 29 ((st.1 8).toNatClampNeg) a1) 30 ((st.1 8).toNatClampNeg) a2) 31 ((st.1 8).toNatClampNeg) a3) 32 ((st.1 8).toNatClampNeg) (sp_X10_groundOf (sI st 10 0) a1 a2 a3))) H := hP
          refine lv_aload_n hx hb dX10_use_107 rfl (lv_at hl 1 rfl) ?_
          refine lv_dup hx hb dX10_use_108 rfl ?_
          refine va_get (D := (dC, dI)) (ci := 10) (v := .int (st.1 8)) (C := RX10) (T := TX10) (N := 45) hx hb hts hi10 hown hK.1 hP 0 rfl rfl 39 (by decide) hf202 (fun _ h9 => h9) rfl dX10_use_109 ?_
          refine lv_iconst (v := 1) hx hb dX10_use_112 (by decide) ?_
          refine lv_iadd hx hb dX10_use_113 ?_
          refine va_put (D := (dC, dI)) (ci := 10) (v := .int ((st.1 8) + 1)) (ty := .int) (C := RX10) (T := TX10) (N := 45) hx hb hts hi10 tyX10 tyX10_ok nmX10 hown hK.1 hP (dM_of hq) hS 0 rfl rfl 39 (by decide) hf202 (fun _ h9 => h9) rfl (by decide +kernel) rfl rfl (Nat.le_of_ble_eq_true rfl) dX10_use_114 (fun H locs hP _ hS => ?_)
          have hP : va_P (dC, dI) vwCl (wM q k (sI (sA (sA (sA (sA (sI (sI st 10 0) 9 (sp_X10_groundOf (sI st 10 0) a1 a2 a3)) 29 ((st.1 8).toNatClampNeg) a1) 30 ((st.1 8).toNatClampNeg) a2) 31 ((st.1 8).toNatClampNeg) a3) 32 ((st.1 8).toNatClampNeg) (sp_X10_groundOf (sI st 10 0) a1 a2 a3)) 8 ((st.1 8) + 1))) H := hP
          refine lv_aload_n hx hb dX10_use_117 rfl (lv_at hl 1 rfl) ?_
          refine lv_iload hx hb dX10_use_118 (lv_at hl 0 rfl) ?_
          refine lv_if_ne (tgt := 127) hx hb dX10_use_120 (by decide) (fun h120_21 => ?_) (fun h120_21 => ?_)
          · have he := (if_neg h120_21).symm.trans he
            refine lv_iconst (v := 0) hx hb dX10_use_127 (by decide) ?_
            refine va_put (D := (dC, dI)) (ci := 10) (v := .int 0) (ty := .int) (C := RX10) (T := TX10) (N := 45) hx hb hts hi10 tyX10 tyX10_ok nmX10 hown hK.1 hP (dM_of hq) hS 0 rfl rfl 0 (by decide) hf121 (fun _ h9 => h9) rfl (by decide +kernel) rfl rfl (Nat.le_of_ble_eq_true rfl) dX10_use_128 (fun H locs hP _ hS => ?_)
            have hP : va_P (dC, dI) vwCl (wM q k (sI (sI (sA (sA (sA (sA (sI (sI st 10 0) 9 (sp_X10_groundOf (sI st 10 0) a1 a2 a3)) 29 ((st.1 8).toNatClampNeg) a1) 30 ((st.1 8).toNatClampNeg) a2) 31 ((st.1 8).toNatClampNeg) a3) 32 ((st.1 8).toNatClampNeg) (sp_X10_groundOf (sI st 10 0) a1 a2 a3)) 8 ((st.1 8) + 1)) 10 0)) H := hP
            refine lv_aload_n hx hb dX10_use_131 rfl (lv_at hl 1 rfl) ?_
            refine va_callv (va_runV (As := []) (rest := []) ⟨hx, hb, hml, hown, hts⟩ (c_X10_reckon l dC dI q k (sI (sI (sA (sA (sA (sA (sI (sI st 10 0) 9 (sp_X10_groundOf (sI st 10 0) a1 a2 a3)) 29 ((st.1 8).toNatClampNeg) a1) 30 ((st.1 8).toNatClampNeg) a2) 31 ((st.1 8).toNatClampNeg) a3) 32 ((st.1 8).toNatClampNeg) (sp_X10_groundOf (sI st 10 0) a1 a2 a3)) 8 ((st.1 8) + 1)) 10 0) hq (ob_X10_use_132_22 st a1 a2 a3 hok h6_1 h13_2 h25_4 h63_9 h120_21) _ rfl) (cwV 0 hts gX10_use_X10_reckon rfl rfl rfl (by decide +kernel) ⟨Nat.le_of_ble_eq_true rfl, Nat.le_of_ble_eq_true rfl⟩) ⟨fb_M, va_recv hK.1 hP (ci := 10) (q0 := 0) rfl rfl, fun U hU hW => ⟨rfl, by rw [hU]; exact hP, hK.warm hW⟩⟩ rfl rfl hl.1 rfl (lv_room (Nat.le_of_ble_eq_true rfl)) dX10_use_132 ⟨Nat.le_of_ble_eq_true rfl, Nat.le_of_ble_eq_true rfl⟩) hS (fun _ _ h => h) (fun _ h => h) (fun u9 t9 H locs ht9 hv9 e9 hB9 hz9 hk9 hS => ?_)
            rw [ht9] at hB9
            have hP : va_P (dC, dI) vwCl (wM q k (sp_X10_reckon (sI (sI (sA (sA (sA (sA (sI (sI st 10 0) 9 (sp_X10_groundOf (sI st 10 0) a1 a2 a3)) 29 ((st.1 8).toNatClampNeg) a1) 30 ((st.1 8).toNatClampNeg) a2) 31 ((st.1 8).toNatClampNeg) a3) 32 ((st.1 8).toNatClampNeg) (sp_X10_groundOf (sI st 10 0) a1 a2 a3)) 8 ((st.1 8) + 1)) 10 0))) H := hB9
            refine lv_iload hx hb dX10_use_135 (lv_at hl 0 rfl) ?_
            refine lv_if_ne (tgt := 144) hx hb dX10_use_137 (by decide) (fun h137_23 => ?_) (fun h137_23 => ?_)
            · have he := (if_neg h137_23).symm.trans he
              refine lv_aload_n hx hb dX10_use_144 rfl (lv_at hl 1 rfl) ?_
              refine va_get (D := (dC, dI)) (ci := 10) (v := .ref (q 34)) (C := RX10) (T := TX10) (N := 45) hx hb hts hi10 hown hK.1 hP 0 rfl rfl 28 (by decide) hf78 (fun _ h9 => h9) rfl dX10_use_145 ?_
              refine lv_iload_n hx hb dX10_use_148 rfl (lv_at hl 2 rfl) ?_
              refine va_lald hx hb hK.1 hP 34 33 (f := (sp_X10_reckon (sI (sI (sA (sA (sA (sA (sI (sI st 10 0) 9 (sp_X10_groundOf (sI st 10 0) a1 a2 a3)) 29 ((st.1 8).toNatClampNeg) a1) 30 ((st.1 8).toNatClampNeg) a2) 31 ((st.1 8).toNatClampNeg) a3) 32 ((st.1 8).toNatClampNeg) (sp_X10_groundOf (sI st 10 0) a1 a2 a3)) 8 ((st.1 8) + 1)) 10 0)).2.2) (n := 100) (cA := k 33) rfl rfl (i := a1) (ob_X10_use_149_24 st a1 a2 a3 hok h6_1 h13_2 h25_4 h63_9 h120_21 h137_23) dX10_use_149 ?_
              exact W.lret (v := (sp_X10_reckon (sI (sI (sA (sA (sA (sA (sI (sI st 10 0) 9 (sp_X10_groundOf (sI st 10 0) a1 a2 a3)) 29 ((st.1 8).toNatClampNeg) a1) 30 ((st.1 8).toNatClampNeg) a2) 31 ((st.1 8).toNatClampNeg) a3) 32 ((st.1 8).toNatClampNeg) (sp_X10_groundOf (sI st 10 0) a1 a2 a3)) 8 ((st.1 8) + 1)) 10 0)).2.2 a1.toNatClampNeg) hx hb hr (fun t ht hW => ⟨⟨_, (), rfl, by show _ = Prod.fst _; rw [← he], by show va_P _ _ _ t.heap; rw [ht, ← he]; exact hP⟩, hS.F ht⟩) hS.2.2 dX10_use_150
            · have he := (if_pos h137_23).symm.trans he
              refine lv_lconst (v := 0) hx hb dX10_use_140 (by decide) ?_
              refine lv_goto (tgt := 150) hx hb dX10_use_141 (by decide) ?_
              exact W.lret (v := 0) hx hb hr (fun t ht hW => ⟨⟨_, (), rfl, by show _ = Prod.fst _; rw [← he], by show va_P _ _ _ t.heap; rw [ht, ← he]; exact hP⟩, hS.F ht⟩) hS.2.2 dX10_use_150
          · have he := (if_pos h120_21).symm.trans he
            refine lv_iconst (v := 3) hx hb dX10_use_123 (by decide) ?_
            refine lv_goto (tgt := 128) hx hb dX10_use_124 (by decide) ?_
            refine va_put (D := (dC, dI)) (ci := 10) (v := .int 3) (ty := .int) (C := RX10) (T := TX10) (N := 45) hx hb hts hi10 tyX10 tyX10_ok nmX10 hown hK.1 hP (dM_of hq) hS 0 rfl rfl 0 (by decide) hf121 (fun _ h9 => h9) rfl (by decide +kernel) rfl rfl (Nat.le_of_ble_eq_true rfl) dX10_use_128 (fun H locs hP _ hS => ?_)
            have hP : va_P (dC, dI) vwCl (wM q k (sI (sI (sA (sA (sA (sA (sI (sI st 10 0) 9 (sp_X10_groundOf (sI st 10 0) a1 a2 a3)) 29 ((st.1 8).toNatClampNeg) a1) 30 ((st.1 8).toNatClampNeg) a2) 31 ((st.1 8).toNatClampNeg) a3) 32 ((st.1 8).toNatClampNeg) (sp_X10_groundOf (sI st 10 0) a1 a2 a3)) 8 ((st.1 8) + 1)) 10 3)) H := hP
            refine lv_aload_n hx hb dX10_use_131 rfl (lv_at hl 1 rfl) ?_
            refine va_callv (va_runV (As := []) (rest := []) ⟨hx, hb, hml, hown, hts⟩ (c_X10_reckon l dC dI q k (sI (sI (sA (sA (sA (sA (sI (sI st 10 0) 9 (sp_X10_groundOf (sI st 10 0) a1 a2 a3)) 29 ((st.1 8).toNatClampNeg) a1) 30 ((st.1 8).toNatClampNeg) a2) 31 ((st.1 8).toNatClampNeg) a3) 32 ((st.1 8).toNatClampNeg) (sp_X10_groundOf (sI st 10 0) a1 a2 a3)) 8 ((st.1 8) + 1)) 10 3) hq (ob_X10_use_132_25 st a1 a2 a3 hok h6_1 h13_2 h25_4 h63_9 h120_21) _ rfl) (cwV 0 hts gX10_use_X10_reckon rfl rfl rfl (by decide +kernel) ⟨Nat.le_of_ble_eq_true rfl, Nat.le_of_ble_eq_true rfl⟩) ⟨fb_M, va_recv hK.1 hP (ci := 10) (q0 := 0) rfl rfl, fun U hU hW => ⟨rfl, by rw [hU]; exact hP, hK.warm hW⟩⟩ rfl rfl hl.1 rfl (lv_room (Nat.le_of_ble_eq_true rfl)) dX10_use_132 ⟨Nat.le_of_ble_eq_true rfl, Nat.le_of_ble_eq_true rfl⟩) hS (fun _ _ h => h) (fun _ h => h) (fun u9 t9 H locs ht9 hv9 e9 hB9 hz9 hk9 hS => ?_)
            rw [ht9] at hB9
            have hP : va_P (dC, dI) vwCl (wM q k (sp_X10_reckon (sI (sI (sA (sA (sA (sA (sI (sI st 10 0) 9 (sp_X10_groundOf (sI st 10 0) a1 a2 a3)) 29 ((st.1 8).toNatClampNeg) a1) 30 ((st.1 8).toNatClampNeg) a2) 31 ((st.1 8).toNatClampNeg) a3) 32 ((st.1 8).toNatClampNeg) (sp_X10_groundOf (sI st 10 0) a1 a2 a3)) 8 ((st.1 8) + 1)) 10 3))) H := hB9
            refine lv_iload hx hb dX10_use_135 (lv_at hl 0 rfl) ?_
            refine lv_if_ne (tgt := 144) hx hb dX10_use_137 (by decide) (fun h137_26 => ?_) (fun h137_26 => ?_)
            · have he := (if_neg h137_26).symm.trans he
              refine lv_aload_n hx hb dX10_use_144 rfl (lv_at hl 1 rfl) ?_
              refine va_get (D := (dC, dI)) (ci := 10) (v := .ref (q 34)) (C := RX10) (T := TX10) (N := 45) hx hb hts hi10 hown hK.1 hP 0 rfl rfl 28 (by decide) hf78 (fun _ h9 => h9) rfl dX10_use_145 ?_
              refine lv_iload_n hx hb dX10_use_148 rfl (lv_at hl 2 rfl) ?_
              refine va_lald hx hb hK.1 hP 34 33 (f := (sp_X10_reckon (sI (sI (sA (sA (sA (sA (sI (sI st 10 0) 9 (sp_X10_groundOf (sI st 10 0) a1 a2 a3)) 29 ((st.1 8).toNatClampNeg) a1) 30 ((st.1 8).toNatClampNeg) a2) 31 ((st.1 8).toNatClampNeg) a3) 32 ((st.1 8).toNatClampNeg) (sp_X10_groundOf (sI st 10 0) a1 a2 a3)) 8 ((st.1 8) + 1)) 10 3)).2.2) (n := 100) (cA := k 33) rfl rfl (i := a1) (ob_X10_use_149_27 st a1 a2 a3 hok h6_1 h13_2 h25_4 h63_9 h120_21 h137_26) dX10_use_149 ?_
              exact W.lret (v := (sp_X10_reckon (sI (sI (sA (sA (sA (sA (sI (sI st 10 0) 9 (sp_X10_groundOf (sI st 10 0) a1 a2 a3)) 29 ((st.1 8).toNatClampNeg) a1) 30 ((st.1 8).toNatClampNeg) a2) 31 ((st.1 8).toNatClampNeg) a3) 32 ((st.1 8).toNatClampNeg) (sp_X10_groundOf (sI st 10 0) a1 a2 a3)) 8 ((st.1 8) + 1)) 10 3)).2.2 a1.toNatClampNeg) hx hb hr (fun t ht hW => ⟨⟨_, (), rfl, by show _ = Prod.fst _; rw [← he], by show va_P _ _ _ t.heap; rw [ht, ← he]; exact hP⟩, hS.F ht⟩) hS.2.2 dX10_use_150
            · have he := (if_pos h137_26).symm.trans he
              refine lv_lconst (v := 0) hx hb dX10_use_140 (by decide) ?_
              refine lv_goto (tgt := 150) hx hb dX10_use_141 (by decide) ?_
              exact W.lret (v := 0) hx hb hr (fun t ht hW => ⟨⟨_, (), rfl, by show _ = Prod.fst _; rw [← he], by show va_P _ _ _ t.heap; rw [ht, ← he]; exact hP⟩, hS.F ht⟩) hS.2.2 dX10_use_150
      · have he := (if_pos h25_4).symm.trans he
        refine lv_iconst (v := 1) hx hb dX10_use_28 (by decide) ?_
        refine lv_goto (tgt := 33) hx hb dX10_use_29 (by decide) ?_
        refine va_calli (va_runV (As := [.int 1]) (rest := []) ⟨hx, hb, hml, hown, hts⟩ (c_X10_says l dC dI q k st 1 hq _ rfl) (cwV 1 hts gX10_use_X10_says rfl rfl rfl (by decide +kernel) ⟨Nat.le_of_ble_eq_true rfl, Nat.le_of_ble_eq_true rfl⟩) ⟨fb_M, va_recv hK.1 hP (ci := 10) (q0 := 0) rfl rfl, fun U hU hW => ⟨rfl, by rw [hU]; exact hP, hK.warm hW⟩⟩ rfl rfl hl.1 rfl (lv_room (Nat.le_of_ble_eq_true rfl)) dX10_use_33 ⟨Nat.le_of_ble_eq_true rfl, Nat.le_of_ble_eq_true rfl⟩) hS (fun _ _ h => h) (fun _ h => h) (fun r9 u9 t9 H locs ht9 hv9 e9 hB9 hz9 hk9 hS => ?_)
        rw [ht9, says_2] at hB9
        replace e9 : r9 = 0 := e9.trans (saysV_1 _)
        subst e9
        have hP : va_P (dC, dI) vwCl (wM q k (sI st 10 1)) H := hB9
        refine lv_if_ne (tgt := 41) hx hb dX10_use_36 (by decide) (fun h9 => absurd h9 (by decide)) (fun _ => ?_)
        refine lv_lconst (v := 0) hx hb dX10_use_39 (by decide) ?_
        exact W.lret (v := 0) hx hb hr (fun t ht hW => ⟨⟨_, (), rfl, by show _ = Prod.fst _; rw [← he], by show va_P _ _ _ t.heap; rw [ht, ← he]; exact hP⟩, hS.F ht⟩) hS.2.2 dX10_use_40
    · have he := (if_pos h13_2).symm.trans he
      refine lv_iconst (v := 2) hx hb dX10_use_16 (by decide) ?_
      refine lv_goto (tgt := 33) hx hb dX10_use_17 (by decide) ?_
      refine va_calli (va_runV (As := [.int 2]) (rest := []) ⟨hx, hb, hml, hown, hts⟩ (c_X10_says l dC dI q k st 2 hq _ rfl) (cwV 1 hts gX10_use_X10_says rfl rfl rfl (by decide +kernel) ⟨Nat.le_of_ble_eq_true rfl, Nat.le_of_ble_eq_true rfl⟩) ⟨fb_M, va_recv hK.1 hP (ci := 10) (q0 := 0) rfl rfl, fun U hU hW => ⟨rfl, by rw [hU]; exact hP, hK.warm hW⟩⟩ rfl rfl hl.1 rfl (lv_room (Nat.le_of_ble_eq_true rfl)) dX10_use_33 ⟨Nat.le_of_ble_eq_true rfl, Nat.le_of_ble_eq_true rfl⟩) hS (fun _ _ h => h) (fun _ h => h) (fun r9 u9 t9 H locs ht9 hv9 e9 hB9 hz9 hk9 hS => ?_)
      rw [ht9, says_2] at hB9
      replace e9 : r9 = 0 := e9.trans (saysV_2 _)
      subst e9
      have hP : va_P (dC, dI) vwCl (wM q k (sI st 10 2)) H := hB9
      refine lv_if_ne (tgt := 41) hx hb dX10_use_36 (by decide) (fun h9 => absurd h9 (by decide)) (fun _ => ?_)
      refine lv_lconst (v := 0) hx hb dX10_use_39 (by decide) ?_
      exact W.lret (v := 0) hx hb hr (fun t ht hW => ⟨⟨_, (), rfl, by show _ = Prod.fst _; rw [← he], by show va_P _ _ _ t.heap; rw [ht, ← he]; exact hP⟩, hS.F ht⟩) hS.2.2 dX10_use_40

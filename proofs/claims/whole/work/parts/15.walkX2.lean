set_option maxHeartbeats 4000000 in
set_option maxRecDepth 100000 in
theorem c_X2_add (l : Launch) (dC : Nat → ClassId) (dI : Nat → Nat → Nat) (q : Nat → Nat) (k : Nat → ClassId) (st : St) (a1 : Int32) (a2 : Int32) (a3 : Int32) (hq : ∀ i j, i < 43 → j < 43 → q i = q j → i = j) (hok : okC st) (res : Int32 × St) (hres : sp_X2_add st a1 a2 a3 = res) : Met l yX2_add wsX2_add ({ frames := 0, cells := 0, slots := 0, locals := 0 } : Room) (va_Pc [.ref (q 5), .int a1, .int a2, .int a3] (fun U => va_P (dC, dI) vwCl (wC q k st) U.heap ∧ KC (dC, dI) k U)) (va_Qi (fun r (_ : Unit) => r = res.1) (fun _ t => va_P (dC, dI) vwCl (wC q k res.2) t.heap) (aC q)) 0 0 (aC q) := by
  refine Met.ofW (cc := cX2_add) (maxL := 4) (ret := (some .int)) (by decide) rfl ?_
  intro p e s m args below meth c s₁ B hml hv
  obtain ⟨rfl, hP, hK⟩ := hv
  have hx := B.exec
  have hb := B.bytes
  have hr := B.returns
  have hts := atoms_spec (ws := wsX2_add) B.pre
  have hown : s.vm.findClass RX2 = some m.cls := findClass_of_methodNamed B.named
  have hlocks := B.notSynchronized
  have hS : va_S (aC q) s.heap s.heap [] := va_S.rf
  have hi2 : ∀ w ∈ wsX20, w ∈ wsX2_add := by decide +kernel
  have hf11 := hts (.fieldLink RX2 11 "ConsentRegister$Duties" "kinds" "[I") (by decide +kernel)
  have hf15 := hts (.fieldLink RX2 15 "ConsentRegister$Duties" "purposes" "[I") (by decide +kernel)
  have hf18 := hts (.fieldLink RX2 18 "ConsentRegister$Duties" "spans" "[I") (by decide +kernel)
  have hf21 := hts (.fieldLink RX2 21 "ConsentRegister$Duties" "count" "I") (by decide +kernel)
  have hl := lv_entry ([.ref (q 5), .int a1, .int a2, .int a3]) (n := 4) (Nat.le_of_ble_eq_true rfl)
  rw [lg_entry_eq]
  generalize (lg_sl ([.ref (q 5), .int a1, .int a2, .int a3]) ++ List.replicate (4 - (lg_sl ([.ref (q 5), .int a1, .int a2, .int a3])).length) Slot.unset).toArray = ls at hl ⊢
  have hl : lv_has ls 4 [(0, .ref (q 5)), (1, .int a1), (2, .int a2), (3, .int a3)] := hl
  have he := hres
  unfold sp_X2_add at he
  refine lv_aload_n hx hb dX2_add_0 rfl (lv_at hl 0 rfl) ?_
  refine va_get (D := (dC, dI)) (ci := 2) (v := .int (st.1 4)) (C := RX2) (T := TX2) (N := 4) hx hb hts hi2 hown hK.1 hP 5 rfl rfl 3 (by decide) hf21 (fun _ h9 => h9) rfl dX2_add_1 ?_
  refine lv_bipush (v := 20) hx hb dX2_add_4 (by decide) ?_
  refine lv_icmp_lt (tgt := 11) hx hb dX2_add_6 (by decide) (fun h6_1 => ?_) (fun h6_1 => ?_)
  · have he := (if_pos h6_1).symm.trans he
    refine lv_aload_n hx hb dX2_add_11 rfl (lv_at hl 0 rfl) ?_
    refine va_get (D := (dC, dI)) (ci := 2) (v := .ref (q 20)) (C := RX2) (T := TX2) (N := 4) hx hb hts hi2 hown hK.1 hP 5 rfl rfl 0 (by decide) hf11 (fun _ h9 => h9) rfl dX2_add_12 ?_
    refine lv_aload_n hx hb dX2_add_15 rfl (lv_at hl 0 rfl) ?_
    refine va_get (D := (dC, dI)) (ci := 2) (v := .int (st.1 4)) (C := RX2) (T := TX2) (N := 4) hx hb hts hi2 hown hK.1 hP 5 rfl rfl 3 (by decide) hf21 (fun _ h9 => h9) rfl dX2_add_16 ?_
    refine lv_iload_n hx hb dX2_add_19 rfl (lv_at hl 1 rfl) ?_
    refine va_iast hx hb hK.1 hP (dC_of hq) hS 20 10 (f := st.2.1 10) (n := 20) (cA := k 10) rfl rfl (i := st.1 4) (x := a1) (ob_X2_add_20_2 st a1 a2 a3 hok h6_1) dX2_add_20 (fun H locs hP _ hS => ?_)
    have hP : va_P (dC, dI) vwCl (wC q k (sA st 10 ((st.1 4).toNatClampNeg) a1)) H := hP
    refine lv_aload_n hx hb dX2_add_21 rfl (lv_at hl 0 rfl) ?_
    refine va_get (D := (dC, dI)) (ci := 2) (v := .ref (q 21)) (C := RX2) (T := TX2) (N := 4) hx hb hts hi2 hown hK.1 hP 5 rfl rfl 1 (by decide) hf15 (fun _ h9 => h9) rfl dX2_add_22 ?_
    refine lv_aload_n hx hb dX2_add_25 rfl (lv_at hl 0 rfl) ?_
    refine va_get (D := (dC, dI)) (ci := 2) (v := .int (st.1 4)) (C := RX2) (T := TX2) (N := 4) hx hb hts hi2 hown hK.1 hP 5 rfl rfl 3 (by decide) hf21 (fun _ h9 => h9) rfl dX2_add_26 ?_
    refine lv_iload_n hx hb dX2_add_29 rfl (lv_at hl 2 rfl) ?_
    refine va_iast hx hb hK.1 hP (dC_of hq) hS 21 11 (f := st.2.1 11) (n := 20) (cA := k 11) rfl rfl (i := st.1 4) (x := a2) (ob_X2_add_30_3 st a1 a2 a3 hok h6_1) dX2_add_30 (fun H locs hP _ hS => ?_)
    have hP : va_P (dC, dI) vwCl (wC q k (sA (sA st 10 ((st.1 4).toNatClampNeg) a1) 11 ((st.1 4).toNatClampNeg) a2)) H := hP
    refine lv_aload_n hx hb dX2_add_31 rfl (lv_at hl 0 rfl) ?_
    refine va_get (D := (dC, dI)) (ci := 2) (v := .ref (q 22)) (C := RX2) (T := TX2) (N := 4) hx hb hts hi2 hown hK.1 hP 5 rfl rfl 2 (by decide) hf18 (fun _ h9 => h9) rfl dX2_add_32 ?_
    refine lv_aload_n hx hb dX2_add_35 rfl (lv_at hl 0 rfl) ?_
    refine va_get (D := (dC, dI)) (ci := 2) (v := .int (st.1 4)) (C := RX2) (T := TX2) (N := 4) hx hb hts hi2 hown hK.1 hP 5 rfl rfl 3 (by decide) hf21 (fun _ h9 => h9) rfl dX2_add_36 ?_
    refine lv_iload_n hx hb dX2_add_39 rfl (lv_at hl 3 rfl) ?_
    refine va_iast hx hb hK.1 hP (dC_of hq) hS 22 12 (f := st.2.1 12) (n := 20) (cA := k 12) rfl rfl (i := st.1 4) (x := a3) (ob_X2_add_40_4 st a1 a2 a3 hok h6_1) dX2_add_40 (fun H locs hP _ hS => ?_)
    have hP : va_P (dC, dI) vwCl (wC q k (sA (sA (sA st 10 ((st.1 4).toNatClampNeg) a1) 11 ((st.1 4).toNatClampNeg) a2) 12 ((st.1 4).toNatClampNeg) a3)) H := hP
    refine lv_aload_n hx hb dX2_add_41 rfl (lv_at hl 0 rfl) ?_
    refine lv_dup hx hb dX2_add_42 rfl ?_
    refine va_get (D := (dC, dI)) (ci := 2) (v := .int (st.1 4)) (C := RX2) (T := TX2) (N := 4) hx hb hts hi2 hown hK.1 hP 5 rfl rfl 3 (by decide) hf21 (fun _ h9 => h9) rfl dX2_add_43 ?_
    refine lv_iconst (v := 1) hx hb dX2_add_46 (by decide) ?_
    refine lv_iadd hx hb dX2_add_47 ?_
    refine va_put (D := (dC, dI)) (ci := 2) (v := .int ((st.1 4) + 1)) (ty := .int) (C := RX2) (T := TX2) (N := 4) hx hb hts hi2 tyX2 tyX2_ok nmX2 hown hK.1 hP (dC_of hq) hS 5 rfl rfl 3 (by decide) hf21 (fun _ h9 => h9) rfl (by decide +kernel) rfl rfl (Nat.le_of_ble_eq_true rfl) dX2_add_48 (fun H locs hP _ hS => ?_)
    have hP : va_P (dC, dI) vwCl (wC q k (sI (sA (sA (sA st 10 ((st.1 4).toNatClampNeg) a1) 11 ((st.1 4).toNatClampNeg) a2) 12 ((st.1 4).toNatClampNeg) a3) 4 ((st.1 4) + 1))) H := hP
    refine lv_aload_n hx hb dX2_add_51 rfl (lv_at hl 0 rfl) ?_
    refine va_get (D := (dC, dI)) (ci := 2) (v := .int ((st.1 4) + 1)) (C := RX2) (T := TX2) (N := 4) hx hb hts hi2 hown hK.1 hP 5 rfl rfl 3 (by decide) hf21 (fun _ h9 => h9) rfl dX2_add_52 ?_
    exact W.iret (v := (st.1 4) + 1) hx hb hr (fun t ht hW => ⟨⟨_, (), rfl, by show _ = Prod.fst _; rw [← he], by show va_P _ _ _ t.heap; rw [ht, ← he]; exact hP⟩, hS.F ht⟩) hS.2.2 dX2_add_55
  · have he := (if_neg h6_1).symm.trans he
    refine lv_iconst (v := (-1)) hx hb dX2_add_9 (by decide) ?_
    exact W.iret (v := (-1)) hx hb hr (fun t ht hW => ⟨⟨_, (), rfl, by show _ = Prod.fst _; rw [← he], by show va_P _ _ _ t.heap; rw [ht, ← he]; exact hP⟩, hS.F ht⟩) hS.2.2 dX2_add_10
set_option maxHeartbeats 4000000 in
set_option maxRecDepth 100000 in
theorem c_X2_covers (l : Launch) (dC : Nat → ClassId) (dI : Nat → Nat → Nat) (q : Nat → Nat) (k : Nat → ClassId) (st : St) (a1 : Int32) (a2 : Int32) (a3 : Int32) (a4 : Int32) (hva1 : vp_in a1 20) (res : Int32) (hres : sp_X2_covers st a1 a2 a3 a4 = res) : Met l yX2_covers wsX2_covers ({ frames := 0, cells := 0, slots := 0, locals := 0 } : Room) (va_Pc [.ref (q 5), .int a1, .int a2, .int a3, .int a4] (fun U => va_P (dC, dI) vwCl (wC q k st) U.heap ∧ KC (dC, dI) k U)) (vp_Si (fun r => r = res)) 0 0 (fun _ => False) := by
  refine Met.ofW (cc := cX2_covers) (maxL := 5) (ret := (some .boolean)) (by decide) rfl ?_
  intro p e s m args below meth c s₁ B hml hv
  obtain ⟨rfl, hP, hK⟩ := hv
  have hx := B.exec
  have hb := B.bytes
  have hr := B.returns
  have hts := atoms_spec (ws := wsX2_covers) B.pre
  have hown : s.vm.findClass RX2 = some m.cls := findClass_of_methodNamed B.named
  have hlocks := B.notSynchronized
  have hi2 : ∀ w ∈ wsX20, w ∈ wsX2_covers := by decide +kernel
  have hf11 := hts (.fieldLink RX2 11 "ConsentRegister$Duties" "kinds" "[I") (by decide +kernel)
  have hf18 := hts (.fieldLink RX2 18 "ConsentRegister$Duties" "spans" "[I") (by decide +kernel)
  have hl := lv_entry ([.ref (q 5), .int a1, .int a2, .int a3, .int a4]) (n := 5) (Nat.le_of_ble_eq_true rfl)
  rw [lg_entry_eq]
  generalize (lg_sl ([.ref (q 5), .int a1, .int a2, .int a3, .int a4]) ++ List.replicate (5 - (lg_sl ([.ref (q 5), .int a1, .int a2, .int a3, .int a4])).length) Slot.unset).toArray = ls at hl ⊢
  have hl : lv_has ls 5 [(0, .ref (q 5)), (1, .int a1), (2, .int a2), (3, .int a3), (4, .int a4)] := hl
  have he := hres
  unfold sp_X2_covers at he
  refine lv_aload_n hx hb dX2_covers_0 rfl (lv_at hl 0 rfl) ?_
  refine va_get (D := (dC, dI)) (ci := 2) (v := .ref (q 20)) (C := RX2) (T := TX2) (N := 4) hx hb hts hi2 hown hK.1 hP 5 rfl rfl 0 (by decide) hf11 (fun _ h9 => h9) rfl dX2_covers_1 ?_
  refine lv_iload_n hx hb dX2_covers_4 rfl (lv_at hl 1 rfl) ?_
  refine va_iald hx hb hK.1 hP 20 10 (f := st.2.1 10) (n := 20) (cA := k 10) rfl rfl (i := a1) (ob_X2_covers_5_1 st a1 a2 a3 a4 hva1) dX2_covers_5 ?_
  refine lv_iload_n hx hb dX2_covers_6 rfl (lv_at hl 2 rfl) ?_
  refine lv_icmp_ne (tgt := 33) hx hb dX2_covers_7 (by decide) (fun h7_2 => ?_) (fun h7_2 => ?_)
  · have he := (if_neg h7_2).symm.trans he
    refine lv_iconst (v := 0) hx hb dX2_covers_33 (by decide) ?_
    exact W.zret (v := 0) hx hb hr rfl (fun t ht hW => ⟨_, rfl, he, ht⟩) (fun _ h => nomatch h) dX2_covers_34
  · have he := (if_pos h7_2).symm.trans he
    refine lv_iload_n hx hb dX2_covers_10 rfl (lv_at hl 3 rfl) ?_
    refine lv_iload hx hb dX2_covers_11 (lv_at hl 4 rfl) ?_
    refine lv_icmp_gt (tgt := 33) hx hb dX2_covers_13 (by decide) (fun h13_3 => ?_) (fun h13_3 => ?_)
    · have he := (if_pos h13_3).symm.trans he
      refine lv_iconst (v := 0) hx hb dX2_covers_33 (by decide) ?_
      exact W.zret (v := 0) hx hb hr rfl (fun t ht hW => ⟨_, rfl, he, ht⟩) (fun _ h => nomatch h) dX2_covers_34
    · have he := (if_neg h13_3).symm.trans he
      refine lv_iload hx hb dX2_covers_16 (lv_at hl 4 rfl) ?_
      refine lv_iload_n hx hb dX2_covers_18 rfl (lv_at hl 3 rfl) ?_
      refine lv_aload_n hx hb dX2_covers_19 rfl (lv_at hl 0 rfl) ?_
      refine va_get (D := (dC, dI)) (ci := 2) (v := .ref (q 22)) (C := RX2) (T := TX2) (N := 4) hx hb hts hi2 hown hK.1 hP 5 rfl rfl 2 (by decide) hf18 (fun _ h9 => h9) rfl dX2_covers_20 ?_
      refine lv_iload_n hx hb dX2_covers_23 rfl (lv_at hl 1 rfl) ?_
      refine va_iald hx hb hK.1 hP 22 12 (f := st.2.1 12) (n := 20) (cA := k 12) rfl rfl (i := a1) (ob_X2_covers_24_4 st a1 a2 a3 a4 hva1 h7_2 h13_3) dX2_covers_24 ?_
      refine lv_iadd hx hb dX2_covers_25 ?_
      refine lv_icmp_ge (tgt := 33) hx hb dX2_covers_26 (by decide) (fun h26_5 => ?_) (fun h26_5 => ?_)
      · have he := (if_pos h26_5).symm.trans he
        refine lv_iconst (v := 0) hx hb dX2_covers_33 (by decide) ?_
        exact W.zret (v := 0) hx hb hr rfl (fun t ht hW => ⟨_, rfl, he, ht⟩) (fun _ h => nomatch h) dX2_covers_34
      · have he := (if_neg h26_5).symm.trans he
        refine lv_iconst (v := 1) hx hb dX2_covers_29 (by decide) ?_
        refine lv_goto (tgt := 34) hx hb dX2_covers_30 (by decide) ?_
        exact W.zret (v := 1) hx hb hr rfl (fun t ht hW => ⟨_, rfl, he, ht⟩) (fun _ h => nomatch h) dX2_covers_34
set_option maxHeartbeats 4000000 in
set_option maxRecDepth 100000 in
theorem c_X2_allow (l : Launch) (dC : Nat → ClassId) (dI : Nat → Nat → Nat) (q : Nat → Nat) (k : Nat → ClassId) (st : St) (a1 : Int32) (a2 : Int32) (a3 : Int32) (a4 : Int32) (hok : okC st) (res : Int32) (hres : sp_X2_allow st a1 a2 a3 a4 = res) : Met l yX2_allow wsX2_allow ({ frames := 1, cells := 0, slots := 0, locals := 24 } : Room) (va_Pc [.ref (q 5), .int a1, .int a2, .int a3, .int a4] (fun U => va_P (dC, dI) vwCl (wC q k st) U.heap ∧ KC (dC, dI) k U)) (vp_Si (fun r => r = res)) 0 0 (fun _ => False) := by
  refine Met.ofW (cc := cX2_allow) (maxL := 6) (ret := (some .boolean)) (by decide) rfl ?_
  intro p e s m args below meth c s₁ B hml hv
  obtain ⟨rfl, hP, hK⟩ := hv
  have hx := B.exec
  have hb := B.bytes
  have hr := B.returns
  have hts := atoms_spec (ws := wsX2_allow) B.pre
  have hown : s.vm.findClass RX2 = some m.cls := findClass_of_methodNamed B.named
  have hlocks := B.notSynchronized
  have hi2 : ∀ w ∈ wsX20, w ∈ wsX2_allow := by decide +kernel
  have hf15 := hts (.fieldLink RX2 15 "ConsentRegister$Duties" "purposes" "[I") (by decide +kernel)
  have hf21 := hts (.fieldLink RX2 21 "ConsentRegister$Duties" "count" "I") (by decide +kernel)
  have hl := lv_entry ([.ref (q 5), .int a1, .int a2, .int a3, .int a4]) (n := 6) (Nat.le_of_ble_eq_true rfl)
  rw [lg_entry_eq]
  generalize (lg_sl ([.ref (q 5), .int a1, .int a2, .int a3, .int a4]) ++ List.replicate (6 - (lg_sl ([.ref (q 5), .int a1, .int a2, .int a3, .int a4])).length) Slot.unset).toArray = ls at hl ⊢
  have hl : lv_has ls 6 [(0, .ref (q 5)), (1, .int a1), (2, .int a2), (3, .int a3), (4, .int a4)] := hl
  have he := hres
  unfold sp_X2_allow at he
  refine lv_iconst (v := 0) hx hb dX2_allow_0 (by decide) ?_
  refine lv_istore (lv' := [(5, .int 0), (0, .ref (q 5)), (1, .int a1), (2, .int a2), (3, .int a3), (4, .int a4)]) hx hb dX2_allow_1 hl (by decide) rfl (fun ls hl => ?_)
  have k_3 : ∀ (n_3 : Nat) (x5_3 : Int32) (ls : Array Slot), 0 ≤ x5_3.toInt → x5_3.toInt ≤ (st.1 4).toInt → (st.1 4).toInt < x5_3.toInt + n_3 → lp_X2_allow_3 st a1 a2 a3 a4 n_3 x5_3 = res → lv_has ls 6 [(5, .int x5_3), (0, .ref (q 5)), (1, .int a1), (2, .int a2), (3, .int a3), (4, .int a4)] → W p l e (headSpec wsX2_allow ({ frames := 1, cells := 0, slots := 0, locals := 24 } : Room)).room s m ([.ref (q 5), .int a1, .int a2, .int a3, .int a4] : List Value).toArray below meth c s.heap [] 0 0 (MQ below (vp_Si (fun r => r = res)) ([.ref (q 5), .int a1, .int a2, .int a3, .int a4] : List Value).toArray s 0 0 (fun _ => False)) (F0 m 3 ls []) := by
    intro n_3
    induction n_3 with
    | zero =>
      intro x5_3 ls hi0_3 hi1_3 hi2_3
      exact (ob_X2_allow_3_zero st a1 a2 a3 a4 x5_3 hok hi0_3 hi1_3 hi2_3).elim
    | succ n_3 ih_3 =>
      intro x5_3 ls hi0_3 hi1_3 hi2_3 he hl
      rw [lp_X2_allow_3] at he
      refine lv_iload hx hb dX2_allow_3 (lv_at hl 0 rfl) ?_
      refine lv_aload_n hx hb dX2_allow_5 rfl (lv_at hl 1 rfl) ?_
      refine va_get (D := (dC, dI)) (ci := 2) (v := .int (st.1 4)) (C := RX2) (T := TX2) (N := 4) hx hb hts hi2 hown hK.1 hP 5 rfl rfl 3 (by decide) hf21 (fun _ h9 => h9) rfl dX2_allow_6 ?_
      refine lv_icmp_ge (tgt := 44) hx hb dX2_allow_9 (by decide) (fun h9_1 => ?_) (fun h9_1 => ?_)
      · have he := (if_pos h9_1).symm.trans he
        refine lv_iconst (v := 0) hx hb dX2_allow_44 (by decide) ?_
        exact W.zret (v := 0) hx hb hr rfl (fun t ht hW => ⟨_, rfl, he, ht⟩) (fun _ h => nomatch h) dX2_allow_45
      · have he := (if_neg h9_1).symm.trans he
        refine lv_aload_n hx hb dX2_allow_12 rfl (lv_at hl 1 rfl) ?_
        refine va_get (D := (dC, dI)) (ci := 2) (v := .ref (q 21)) (C := RX2) (T := TX2) (N := 4) hx hb hts hi2 hown hK.1 hP 5 rfl rfl 1 (by decide) hf15 (fun _ h9 => h9) rfl dX2_allow_13 ?_
        refine lv_iload hx hb dX2_allow_16 (lv_at hl 0 rfl) ?_
        refine va_iald hx hb hK.1 hP 21 11 (f := st.2.1 11) (n := 20) (cA := k 11) rfl rfl (i := x5_3) (ob_X2_allow_18_2 st a1 a2 a3 a4 n_3 x5_3 hok hi0_3 hi1_3 hi2_3 h9_1) dX2_allow_18 ?_
        refine lv_iload_n hx hb dX2_allow_19 rfl (lv_at hl 3 rfl) ?_
        refine lv_icmp_ne (tgt := 38) hx hb dX2_allow_20 (by decide) (fun h20_3 => ?_) (fun h20_3 => ?_)
        · have he := (if_neg h20_3).symm.trans he
          refine lv_iinc (v := x5_3 + 1) (lv' := [(5, .int (x5_3 + 1)), (0, .ref (q 5)), (1, .int a1), (2, .int a2), (3, .int a3), (4, .int a4)]) hx hb dX2_allow_38 hl (k := 0) rfl rfl (by decide) rfl (fun ls hl => ?_)
          refine lv_goto (tgt := 3) hx hb dX2_allow_41 (by decide) ?_
          exact ih_3 (x5_3 + 1) ls (ob_X2_allow_3_inv0_4 st a1 a2 a3 a4 n_3 x5_3 hok hi0_3 hi1_3 hi2_3 h9_1 h20_3) (ob_X2_allow_3_inv1_5 st a1 a2 a3 a4 n_3 x5_3 hok hi0_3 hi1_3 hi2_3 h9_1 h20_3) (ob_X2_allow_3_inv2_6 st a1 a2 a3 a4 n_3 x5_3 hok hi0_3 hi1_3 hi2_3 h9_1 h20_3) he (lv_sub hl [0, 1, 2, 3, 4, 5] rfl)
        · have he := (if_pos h20_3).symm.trans he
          refine lv_aload_n hx hb dX2_allow_23 rfl (lv_at hl 1 rfl) ?_
          refine lv_iload hx hb dX2_allow_24 (lv_at hl 0 rfl) ?_
          refine lv_iload_n hx hb dX2_allow_26 rfl (lv_at hl 2 rfl) ?_
          refine lv_iload_n hx hb dX2_allow_27 rfl (lv_at hl 4 rfl) ?_
          refine lv_iload hx hb dX2_allow_28 (lv_at hl 5 rfl) ?_
          refine vp_callSi (va_Run.run (va_runV (As := [.int x5_3, .int a1, .int a3, .int a4]) (rest := []) ⟨hx, hb, hml, hown, hts⟩ (c_X2_covers l dC dI q k st x5_3 a1 a3 a4 (ob_X2_allow_30_7 st a1 a2 a3 a4 n_3 x5_3 hok hi0_3 hi1_3 hi2_3 h9_1 h20_3) _ rfl) (cwV 4 hts gX2_allow_X2_covers rfl rfl rfl (by decide +kernel) ⟨Nat.le_of_ble_eq_true rfl, Nat.le_of_ble_eq_true rfl⟩) ⟨fb_C, va_recv hK.1 hP (ci := 2) (q0 := 5) rfl rfl, fun U hU hW => ⟨rfl, by rw [hU]; exact hP, hK.warm hW⟩⟩ rfl rfl hl.1 rfl (lv_room (Nat.le_of_ble_eq_true rfl)) dX2_allow_30 ⟨Nat.le_of_ble_eq_true rfl, Nat.le_of_ble_eq_true rfl⟩)) (fun r9 e9 => ?_)
          subst e9
          refine lv_if_eq (tgt := 38) hx hb dX2_allow_33 (by decide) (fun h33_8 => ?_) (fun h33_8 => ?_)
          · have he := (if_pos h33_8).symm.trans he
            refine lv_iinc (v := x5_3 + 1) (lv' := [(5, .int (x5_3 + 1)), (0, .ref (q 5)), (1, .int a1), (2, .int a2), (3, .int a3), (4, .int a4)]) hx hb dX2_allow_38 hl (k := 0) rfl rfl (by decide) rfl (fun ls hl => ?_)
            refine lv_goto (tgt := 3) hx hb dX2_allow_41 (by decide) ?_
            exact ih_3 (x5_3 + 1) ls (ob_X2_allow_3_inv0_9 st a1 a2 a3 a4 n_3 x5_3 hok hi0_3 hi1_3 hi2_3 h9_1 h20_3 h33_8) (ob_X2_allow_3_inv1_10 st a1 a2 a3 a4 n_3 x5_3 hok hi0_3 hi1_3 hi2_3 h9_1 h20_3 h33_8) (ob_X2_allow_3_inv2_11 st a1 a2 a3 a4 n_3 x5_3 hok hi0_3 hi1_3 hi2_3 h9_1 h20_3 h33_8) he (lv_sub hl [0, 1, 2, 3, 4, 5] rfl)
          · have he := (if_neg h33_8).symm.trans he
            refine lv_iconst (v := 1) hx hb dX2_allow_36 (by decide) ?_
            exact W.zret (v := 1) hx hb hr rfl (fun t ht hW => ⟨_, rfl, he, ht⟩) (fun _ h => nomatch h) dX2_allow_37
  exact k_3 ((st.1 4).toInt.toNat + 1) 0 ls (ob_X2_allow_3_inv0_12 st a1 a2 a3 a4 hok) (ob_X2_allow_3_inv1_13 st a1 a2 a3 a4 hok) (ob_X2_allow_3_inv2_14 st a1 a2 a3 a4 hok) he (lv_sub hl [0, 1, 2, 3, 4, 5] rfl)
set_option maxHeartbeats 4000000 in
set_option maxRecDepth 100000 in
theorem c_X2_cover (l : Launch) (dC : Nat → ClassId) (dI : Nat → Nat → Nat) (q : Nat → Nat) (k : Nat → ClassId) (st : St) (a1 : Int32) (a2 : Int32) (a3 : Int32) (hok : okC st) (res : Int32) (hres : sp_X2_cover st a1 a2 a3 = res) : Met l yX2_cover wsX2_cover ({ frames := 1, cells := 0, slots := 0, locals := 24 } : Room) (va_Pc [.ref (q 5), .int a1, .int a2, .int a3] (fun U => va_P (dC, dI) vwCl (wC q k st) U.heap ∧ KC (dC, dI) k U)) (vp_Si (fun r => r = res)) 0 0 (fun _ => False) := by
  refine Met.ofW (cc := cX2_cover) (maxL := 5) (ret := (some .boolean)) (by decide) rfl ?_
  intro p e s m args below meth c s₁ B hml hv
  obtain ⟨rfl, hP, hK⟩ := hv
  have hx := B.exec
  have hb := B.bytes
  have hr := B.returns
  have hts := atoms_spec (ws := wsX2_cover) B.pre
  have hown : s.vm.findClass RX2 = some m.cls := findClass_of_methodNamed B.named
  have hlocks := B.notSynchronized
  have hi2 : ∀ w ∈ wsX20, w ∈ wsX2_cover := by decide +kernel
  have hf21 := hts (.fieldLink RX2 21 "ConsentRegister$Duties" "count" "I") (by decide +kernel)
  have hl := lv_entry ([.ref (q 5), .int a1, .int a2, .int a3]) (n := 5) (Nat.le_of_ble_eq_true rfl)
  rw [lg_entry_eq]
  generalize (lg_sl ([.ref (q 5), .int a1, .int a2, .int a3]) ++ List.replicate (5 - (lg_sl ([.ref (q 5), .int a1, .int a2, .int a3])).length) Slot.unset).toArray = ls at hl ⊢
  have hl : lv_has ls 5 [(0, .ref (q 5)), (1, .int a1), (2, .int a2), (3, .int a3)] := hl
  have he := hres
  unfold sp_X2_cover at he
  refine lv_iconst (v := 0) hx hb dX2_cover_0 (by decide) ?_
  refine lv_istore (lv' := [(4, .int 0), (0, .ref (q 5)), (1, .int a1), (2, .int a2), (3, .int a3)]) hx hb dX2_cover_1 hl (by decide) rfl (fun ls hl => ?_)
  have k_3 : ∀ (n_3 : Nat) (x4_3 : Int32) (ls : Array Slot), 0 ≤ x4_3.toInt → x4_3.toInt ≤ (st.1 4).toInt → (st.1 4).toInt < x4_3.toInt + n_3 → lp_X2_cover_3 st a1 a2 a3 n_3 x4_3 = res → lv_has ls 5 [(4, .int x4_3), (0, .ref (q 5)), (1, .int a1), (2, .int a2), (3, .int a3)] → W p l e (headSpec wsX2_cover ({ frames := 1, cells := 0, slots := 0, locals := 24 } : Room)).room s m ([.ref (q 5), .int a1, .int a2, .int a3] : List Value).toArray below meth c s.heap [] 0 0 (MQ below (vp_Si (fun r => r = res)) ([.ref (q 5), .int a1, .int a2, .int a3] : List Value).toArray s 0 0 (fun _ => False)) (F0 m 3 ls []) := by
    intro n_3
    induction n_3 with
    | zero =>
      intro x4_3 ls hi0_3 hi1_3 hi2_3
      exact (ob_X2_cover_3_zero st a1 a2 a3 x4_3 hok hi0_3 hi1_3 hi2_3).elim
    | succ n_3 ih_3 =>
      intro x4_3 ls hi0_3 hi1_3 hi2_3 he hl
      rw [lp_X2_cover_3] at he
      refine lv_iload hx hb dX2_cover_3 (lv_at hl 0 rfl) ?_
      refine lv_aload_n hx hb dX2_cover_5 rfl (lv_at hl 1 rfl) ?_
      refine va_get (D := (dC, dI)) (ci := 2) (v := .int (st.1 4)) (C := RX2) (T := TX2) (N := 4) hx hb hts hi2 hown hK.1 hP 5 rfl rfl 3 (by decide) hf21 (fun _ h9 => h9) rfl dX2_cover_6 ?_
      refine lv_icmp_ge (tgt := 32) hx hb dX2_cover_9 (by decide) (fun h9_1 => ?_) (fun h9_1 => ?_)
      · have he := (if_pos h9_1).symm.trans he
        refine lv_iconst (v := 0) hx hb dX2_cover_32 (by decide) ?_
        exact W.zret (v := 0) hx hb hr rfl (fun t ht hW => ⟨_, rfl, he, ht⟩) (fun _ h => nomatch h) dX2_cover_33
      · have he := (if_neg h9_1).symm.trans he
        refine lv_aload_n hx hb dX2_cover_12 rfl (lv_at hl 1 rfl) ?_
        refine lv_iload hx hb dX2_cover_13 (lv_at hl 0 rfl) ?_
        refine lv_iload_n hx hb dX2_cover_15 rfl (lv_at hl 2 rfl) ?_
        refine lv_iload_n hx hb dX2_cover_16 rfl (lv_at hl 3 rfl) ?_
        refine lv_iload_n hx hb dX2_cover_17 rfl (lv_at hl 4 rfl) ?_
        refine vp_callSi (va_Run.run (va_runV (As := [.int x4_3, .int a1, .int a2, .int a3]) (rest := []) ⟨hx, hb, hml, hown, hts⟩ (c_X2_covers l dC dI q k st x4_3 a1 a2 a3 (ob_X2_cover_18_2 st a1 a2 a3 n_3 x4_3 hok hi0_3 hi1_3 hi2_3 h9_1) _ rfl) (cwV 4 hts gX2_cover_X2_covers rfl rfl rfl (by decide +kernel) ⟨Nat.le_of_ble_eq_true rfl, Nat.le_of_ble_eq_true rfl⟩) ⟨fb_C, va_recv hK.1 hP (ci := 2) (q0 := 5) rfl rfl, fun U hU hW => ⟨rfl, by rw [hU]; exact hP, hK.warm hW⟩⟩ rfl rfl hl.1 rfl (lv_room (Nat.le_of_ble_eq_true rfl)) dX2_cover_18 ⟨Nat.le_of_ble_eq_true rfl, Nat.le_of_ble_eq_true rfl⟩)) (fun r9 e9 => ?_)
        subst e9
        refine lv_if_eq (tgt := 26) hx hb dX2_cover_21 (by decide) (fun h21_3 => ?_) (fun h21_3 => ?_)
        · have he := (if_pos h21_3).symm.trans he
          refine lv_iinc (v := x4_3 + 1) (lv' := [(4, .int (x4_3 + 1)), (0, .ref (q 5)), (1, .int a1), (2, .int a2), (3, .int a3)]) hx hb dX2_cover_26 hl (k := 0) rfl rfl (by decide) rfl (fun ls hl => ?_)
          refine lv_goto (tgt := 3) hx hb dX2_cover_29 (by decide) ?_
          exact ih_3 (x4_3 + 1) ls (ob_X2_cover_3_inv0_4 st a1 a2 a3 n_3 x4_3 hok hi0_3 hi1_3 hi2_3 h9_1 h21_3) (ob_X2_cover_3_inv1_5 st a1 a2 a3 n_3 x4_3 hok hi0_3 hi1_3 hi2_3 h9_1 h21_3) (ob_X2_cover_3_inv2_6 st a1 a2 a3 n_3 x4_3 hok hi0_3 hi1_3 hi2_3 h9_1 h21_3) he (lv_sub hl [0, 1, 2, 3, 4] rfl)
        · have he := (if_neg h21_3).symm.trans he
          refine lv_iconst (v := 1) hx hb dX2_cover_24 (by decide) ?_
          exact W.zret (v := 1) hx hb hr rfl (fun t ht hW => ⟨_, rfl, he, ht⟩) (fun _ h => nomatch h) dX2_cover_25
  exact k_3 ((st.1 4).toInt.toNat + 1) 0 ls (ob_X2_cover_3_inv0_7 st a1 a2 a3 hok) (ob_X2_cover_3_inv1_8 st a1 a2 a3 hok) (ob_X2_cover_3_inv2_9 st a1 a2 a3 hok) he (lv_sub hl [0, 1, 2, 3, 4] rfl)

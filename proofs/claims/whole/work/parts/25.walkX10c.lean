set_option maxHeartbeats 4000000 in
set_option maxRecDepth 100000 in
theorem c_X10_why (l : Launch) (dC : Nat → ClassId) (dI : Nat → Nat → Nat) (q : Nat → Nat) (k : Nat → ClassId) (st : St) (hq : ∀ i j, i < 35 → j < 35 → q i = q j → i = j) (res : Int32 × St) (hres : sp_X10_why st = res) : Met l yX10_why wsX10_why ({ frames := 0, cells := 0, slots := 0, locals := 0 } : Room) (va_Pc [.ref (q 0)] (fun U => va_P (dC, dI) vwCl (wM q k st) U.heap ∧ KM (dC, dI) k U)) (va_Qi (fun r (_ : Unit) => r = res.1) (fun _ t => va_P (dC, dI) vwCl (wM q k res.2) t.heap) (aM q)) 0 0 (aM q) := by
  refine Met.ofW (cc := cX10_why) (maxL := 1) (ret := (some .int)) (by decide) rfl ?_
  intro p e s m args below meth c s₁ B hml hv
  obtain ⟨rfl, hP, hK⟩ := hv
  have hx := B.exec
  have hb := B.bytes
  have hr := B.returns
  have hts := atoms_spec (ws := wsX10_why) B.pre
  have hown : s.vm.findClass RX10 = some m.cls := findClass_of_methodNamed B.named
  have hlocks := B.notSynchronized
  have hS : va_S (aM q) s.heap s.heap [] := va_S.rf
  have hi10 : ∀ w ∈ wsX100, w ∈ wsX10_why := by decide +kernel
  have hf118 := hts (.fieldLink RX10 118 "ConsentRegisterModel" "latest" "I") (by decide +kernel)
  have hf121 := hts (.fieldLink RX10 121 "ConsentRegisterModel" "thrown" "I") (by decide +kernel)
  have hl := lv_entry ([.ref (q 0)]) (n := 1) (Nat.le_of_ble_eq_true rfl)
  rw [lg_entry_eq]
  generalize (lg_sl ([.ref (q 0)]) ++ List.replicate (1 - (lg_sl ([.ref (q 0)])).length) Slot.unset).toArray = ls at hl ⊢
  have hl : lv_has ls 1 [(0, .ref (q 0))] := hl
  have he := hres
  unfold sp_X10_why at he
  refine lv_aload_n hx hb dX10_why_0 rfl (lv_at hl 0 rfl) ?_
  refine lv_iconst (v := 0) hx hb dX10_why_1 (by decide) ?_
  refine va_put (D := (dC, dI)) (ci := 10) (v := .int 0) (ty := .int) (C := RX10) (T := TX10) (N := 45) hx hb hts hi10 tyX10 tyX10_ok nmX10 hown hK.1 hP (dM_of hq) hS 0 rfl rfl 0 (by decide) hf121 (fun _ h9 => h9) rfl (by decide +kernel) rfl rfl (Nat.le_of_ble_eq_true rfl) dX10_why_2 (fun H locs hP _ hS => ?_)
  have hP : va_P (dC, dI) vwCl (wM q k (sI st 10 0)) H := hP
  refine lv_aload_n hx hb dX10_why_5 rfl (lv_at hl 0 rfl) ?_
  refine va_get (D := (dC, dI)) (ci := 10) (v := .int (st.1 9)) (C := RX10) (T := TX10) (N := 45) hx hb hts hi10 hown hK.1 hP 0 rfl rfl 44 (by decide) hf118 (fun _ h9 => h9) rfl dX10_why_6 ?_
  exact W.iret (v := st.1 9) hx hb hr (fun t ht hW => ⟨⟨_, (), rfl, by show _ = Prod.fst _; rw [← he], by show va_P _ _ _ t.heap; rw [ht, ← he]; exact hP⟩, hS.F ht⟩) hS.2.2 dX10_why_9
set_option maxHeartbeats 4000000 in
set_option maxRecDepth 100000 in
theorem c_X10_isCovered (l : Launch) (dC : Nat → ClassId) (dI : Nat → Nat → Nat) (q : Nat → Nat) (k : Nat → ClassId) (st : St) (a1 : Int32) (a2 : Int32) (hok : okM st) (hva1 : vp_in a1 100) (res : Int32) (hres : sp_X10_isCovered st a1 a2 = res) : Met l yX10_isCovered wsX10_isCovered ({ frames := 1, cells := 0, slots := 0, locals := 24 } : Room) (va_Pc [.ref (q 0), .int a1, .int a2] (fun U => va_P (dC, dI) vwCl (wM q k st) U.heap ∧ KM (dC, dI) k U)) (vp_Si (fun r => r = res)) 0 0 (fun _ => False) := by
  refine Met.ofW (cc := cX10_isCovered) (maxL := 4) (ret := (some .boolean)) (by decide) rfl ?_
  intro p e s m args below meth c s₁ B hml hv
  obtain ⟨rfl, hP, hK⟩ := hv
  have hx := B.exec
  have hb := B.bytes
  have hr := B.returns
  have hts := atoms_spec (ws := wsX10_isCovered) B.pre
  have hown : s.vm.findClass RX10 = some m.cls := findClass_of_methodNamed B.named
  have hlocks := B.notSynchronized
  have hi10 : ∀ w ∈ wsX100, w ∈ wsX10_isCovered := by decide +kernel
  have hf154 := hts (.fieldLink RX10 154 "ConsentRegisterModel" "duties" "I") (by decide +kernel)
  have hf170 := hts (.fieldLink RX10 170 "ConsentRegisterModel" "holds" "I") (by decide +kernel)
  have hl := lv_entry ([.ref (q 0), .int a1, .int a2]) (n := 4) (Nat.le_of_ble_eq_true rfl)
  rw [lg_entry_eq]
  generalize (lg_sl ([.ref (q 0), .int a1, .int a2]) ++ List.replicate (4 - (lg_sl ([.ref (q 0), .int a1, .int a2])).length) Slot.unset).toArray = ls at hl ⊢
  have hl : lv_has ls 4 [(0, .ref (q 0)), (1, .int a1), (2, .int a2)] := hl
  have he := hres
  unfold sp_X10_isCovered at he
  have k_30 : ∀ (n_30 : Nat) (x3_30 : Int32) (ls : Array Slot), 0 ≤ x3_30.toInt → x3_30.toInt ≤ (st.1 4).toInt → (st.1 4).toInt < x3_30.toInt + n_30 → lp_X10_isCovered_30 st a1 a2 n_30 x3_30 = res → lv_has ls 4 [(0, .ref (q 0)), (1, .int a1), (2, .int a2), (3, .int x3_30)] → W p l e (headSpec wsX10_isCovered ({ frames := 1, cells := 0, slots := 0, locals := 24 } : Room)).room s m ([.ref (q 0), .int a1, .int a2] : List Value).toArray below meth c s.heap [] 0 0 (MQ below (vp_Si (fun r => r = res)) ([.ref (q 0), .int a1, .int a2] : List Value).toArray s 0 0 (fun _ => False)) (F0 m 30 ls []) := by
    intro n_30
    induction n_30 with
    | zero =>
      intro x3_30 ls hi0_30 hi1_30 hi2_30
      exact (ob_X10_isCovered_30_zero st a1 a2 x3_30 hok hva1 hi0_30 hi1_30 hi2_30).elim
    | succ n_30 ih_30 =>
      intro x3_30 ls hi0_30 hi1_30 hi2_30 he hl
      rw [lp_X10_isCovered_30] at he
      refine lv_iload_n hx hb dX10_isCovered_30 rfl (lv_at hl 3 rfl) ?_
      refine lv_aload_n hx hb dX10_isCovered_31 rfl (lv_at hl 0 rfl) ?_
      refine va_get (D := (dC, dI)) (ci := 10) (v := .int (st.1 4)) (C := RX10) (T := TX10) (N := 45) hx hb hts hi10 hown hK.1 hP 0 rfl rfl 15 (by decide) hf154 (fun _ h9 => h9) rfl dX10_isCovered_32 ?_
      refine lv_icmp_ge (tgt := 56) hx hb dX10_isCovered_35 (by decide) (fun h35_1 => ?_) (fun h35_1 => ?_)
      · have he := (if_pos h35_1).symm.trans he
        refine lv_iconst (v := 0) hx hb dX10_isCovered_56 (by decide) ?_
        exact W.zret (v := 0) hx hb hr rfl (fun t ht hW => ⟨_, rfl, he, ht⟩) (fun _ h => nomatch h) dX10_isCovered_57
      · have he := (if_neg h35_1).symm.trans he
        refine lv_aload_n hx hb dX10_isCovered_38 rfl (lv_at hl 0 rfl) ?_
        refine lv_iload_n hx hb dX10_isCovered_39 rfl (lv_at hl 3 rfl) ?_
        refine lv_iload_n hx hb dX10_isCovered_40 rfl (lv_at hl 1 rfl) ?_
        refine lv_iload_n hx hb dX10_isCovered_41 rfl (lv_at hl 2 rfl) ?_
        refine vp_callSi (va_Run.run (va_runV (As := [.int x3_30, .int a1, .int a2]) (rest := []) ⟨hx, hb, hml, hown, hts⟩ (c_X10_dutyCovers l dC dI q k st x3_30 a1 a2 (ob_X10_isCovered_42_2 st a1 a2 n_30 x3_30 hok hva1 hi0_30 hi1_30 hi2_30 h35_1) hva1 _ rfl) (cwV 3 hts gX10_isCovered_X10_dutyCovers rfl rfl rfl (by decide +kernel) ⟨Nat.le_of_ble_eq_true rfl, Nat.le_of_ble_eq_true rfl⟩) ⟨fb_M, va_recv hK.1 hP (ci := 10) (q0 := 0) rfl rfl, fun U hU hW => ⟨rfl, by rw [hU]; exact hP, hK.warm hW⟩⟩ rfl rfl hl.1 rfl (lv_room (Nat.le_of_ble_eq_true rfl)) dX10_isCovered_42 ⟨Nat.le_of_ble_eq_true rfl, Nat.le_of_ble_eq_true rfl⟩)) (fun r9 e9 => ?_)
        subst e9
        refine lv_if_eq (tgt := 50) hx hb dX10_isCovered_45 (by decide) (fun h45_3 => ?_) (fun h45_3 => ?_)
        · have he := (if_pos h45_3).symm.trans he
          refine lv_iinc (v := x3_30 + 1) (lv' := [(3, .int (x3_30 + 1)), (0, .ref (q 0)), (1, .int a1), (2, .int a2)]) hx hb dX10_isCovered_50 hl (k := 3) rfl rfl (by decide) rfl (fun ls hl => ?_)
          refine lv_goto (tgt := 30) hx hb dX10_isCovered_53 (by decide) ?_
          exact ih_30 (x3_30 + 1) ls (ob_X10_isCovered_30_inv0_4 st a1 a2 n_30 x3_30 hok hva1 hi0_30 hi1_30 hi2_30 h35_1 h45_3) (ob_X10_isCovered_30_inv1_5 st a1 a2 n_30 x3_30 hok hva1 hi0_30 hi1_30 hi2_30 h35_1 h45_3) (ob_X10_isCovered_30_inv2_6 st a1 a2 n_30 x3_30 hok hva1 hi0_30 hi1_30 hi2_30 h35_1 h45_3) he (lv_sub hl [1, 2, 3, 0] rfl)
        · have he := (if_neg h45_3).symm.trans he
          refine lv_iconst (v := 1) hx hb dX10_isCovered_48 (by decide) ?_
          exact W.zret (v := 1) hx hb hr rfl (fun t ht hW => ⟨_, rfl, he, ht⟩) (fun _ h => nomatch h) dX10_isCovered_49
  refine lv_iconst (v := 0) hx hb dX10_isCovered_0 (by decide) ?_
  refine lv_istore_n (lv' := [(3, .int 0), (0, .ref (q 0)), (1, .int a1), (2, .int a2)]) hx hb dX10_isCovered_1 rfl hl (by decide) rfl (fun ls hl => ?_)
  have k_2 : ∀ (n_2 : Nat) (x3_2 : Int32) (ls : Array Slot), 0 ≤ x3_2.toInt → x3_2.toInt ≤ (st.1 6).toInt → (st.1 6).toInt < x3_2.toInt + n_2 → lp_X10_isCovered_2 st a1 a2 n_2 x3_2 = res → lv_has ls 4 [(3, .int x3_2), (0, .ref (q 0)), (1, .int a1), (2, .int a2)] → W p l e (headSpec wsX10_isCovered ({ frames := 1, cells := 0, slots := 0, locals := 24 } : Room)).room s m ([.ref (q 0), .int a1, .int a2] : List Value).toArray below meth c s.heap [] 0 0 (MQ below (vp_Si (fun r => r = res)) ([.ref (q 0), .int a1, .int a2] : List Value).toArray s 0 0 (fun _ => False)) (F0 m 2 ls []) := by
    intro n_2
    induction n_2 with
    | zero =>
      intro x3_2 ls hi0_2 hi1_2 hi2_2
      exact (ob_X10_isCovered_2_zero st a1 a2 x3_2 hok hva1 hi0_2 hi1_2 hi2_2).elim
    | succ n_2 ih_2 =>
      intro x3_2 ls hi0_2 hi1_2 hi2_2 he hl
      rw [lp_X10_isCovered_2] at he
      refine lv_iload_n hx hb dX10_isCovered_2 rfl (lv_at hl 0 rfl) ?_
      refine lv_aload_n hx hb dX10_isCovered_3 rfl (lv_at hl 1 rfl) ?_
      refine va_get (D := (dC, dI)) (ci := 10) (v := .int (st.1 6)) (C := RX10) (T := TX10) (N := 45) hx hb hts hi10 hown hK.1 hP 0 rfl rfl 34 (by decide) hf170 (fun _ h9 => h9) rfl dX10_isCovered_4 ?_
      refine lv_icmp_ge (tgt := 28) hx hb dX10_isCovered_7 (by decide) (fun h7_7 => ?_) (fun h7_7 => ?_)
      · have he := (if_pos h7_7).symm.trans he
        refine lv_iconst (v := 0) hx hb dX10_isCovered_28 (by decide) ?_
        refine lv_istore_n (lv' := [(3, .int 0), (0, .ref (q 0)), (1, .int a1), (2, .int a2)]) hx hb dX10_isCovered_29 rfl hl (by decide) rfl (fun ls hl => ?_)
        exact k_30 ((st.1 4).toInt.toNat + 1) 0 ls (ob_X10_isCovered_30_inv0_8 st a1 a2 n_2 x3_2 hok hva1 hi0_2 hi1_2 hi2_2 h7_7) (ob_X10_isCovered_30_inv1_9 st a1 a2 n_2 x3_2 hok hva1 hi0_2 hi1_2 hi2_2 h7_7) (ob_X10_isCovered_30_inv2_10 st a1 a2 n_2 x3_2 hok hva1 hi0_2 hi1_2 hi2_2 h7_7) he (lv_sub hl [1, 2, 3, 0] rfl)
      · have he := (if_neg h7_7).symm.trans he
        refine lv_aload_n hx hb dX10_isCovered_10 rfl (lv_at hl 1 rfl) ?_
        refine lv_iload_n hx hb dX10_isCovered_11 rfl (lv_at hl 0 rfl) ?_
        refine lv_iload_n hx hb dX10_isCovered_12 rfl (lv_at hl 2 rfl) ?_
        refine lv_iload_n hx hb dX10_isCovered_13 rfl (lv_at hl 3 rfl) ?_
        refine vp_callSi (va_Run.run (va_runV (As := [.int x3_2, .int a1, .int a2]) (rest := []) ⟨hx, hb, hml, hown, hts⟩ (c_X10_holdCovers l dC dI q k st x3_2 a1 a2 (ob_X10_isCovered_14_11 st a1 a2 n_2 x3_2 hok hva1 hi0_2 hi1_2 hi2_2 h7_7) hva1 _ rfl) (cwV 3 hts gX10_isCovered_X10_holdCovers rfl rfl rfl (by decide +kernel) ⟨Nat.le_of_ble_eq_true rfl, Nat.le_of_ble_eq_true rfl⟩) ⟨fb_M, va_recv hK.1 hP (ci := 10) (q0 := 0) rfl rfl, fun U hU hW => ⟨rfl, by rw [hU]; exact hP, hK.warm hW⟩⟩ rfl rfl hl.1 rfl (lv_room (Nat.le_of_ble_eq_true rfl)) dX10_isCovered_14 ⟨Nat.le_of_ble_eq_true rfl, Nat.le_of_ble_eq_true rfl⟩)) (fun r9 e9 => ?_)
        subst e9
        refine lv_if_eq (tgt := 22) hx hb dX10_isCovered_17 (by decide) (fun h17_12 => ?_) (fun h17_12 => ?_)
        · have he := (if_pos h17_12).symm.trans he
          refine lv_iinc (v := x3_2 + 1) (lv' := [(3, .int (x3_2 + 1)), (0, .ref (q 0)), (1, .int a1), (2, .int a2)]) hx hb dX10_isCovered_22 hl (k := 0) rfl rfl (by decide) rfl (fun ls hl => ?_)
          refine lv_goto (tgt := 2) hx hb dX10_isCovered_25 (by decide) ?_
          exact ih_2 (x3_2 + 1) ls (ob_X10_isCovered_2_inv0_13 st a1 a2 n_2 x3_2 hok hva1 hi0_2 hi1_2 hi2_2 h7_7 h17_12) (ob_X10_isCovered_2_inv1_14 st a1 a2 n_2 x3_2 hok hva1 hi0_2 hi1_2 hi2_2 h7_7 h17_12) (ob_X10_isCovered_2_inv2_15 st a1 a2 n_2 x3_2 hok hva1 hi0_2 hi1_2 hi2_2 h7_7 h17_12) he (lv_sub hl [0, 1, 2, 3] rfl)
        · have he := (if_neg h17_12).symm.trans he
          refine lv_iconst (v := 1) hx hb dX10_isCovered_20 (by decide) ?_
          exact W.zret (v := 1) hx hb hr rfl (fun t ht hW => ⟨_, rfl, he, ht⟩) (fun _ h => nomatch h) dX10_isCovered_21
  exact k_2 ((st.1 6).toInt.toNat + 1) 0 ls (ob_X10_isCovered_2_inv0_16 st a1 a2 hok hva1) (ob_X10_isCovered_2_inv1_17 st a1 a2 hok hva1) (ob_X10_isCovered_2_inv2_18 st a1 a2 hok hva1) he (lv_sub hl [0, 1, 2, 3] rfl)

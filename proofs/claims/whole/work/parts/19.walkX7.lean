set_option maxHeartbeats 4000000 in
set_option maxRecDepth 100000 in
theorem c_X7_total (l : Launch) (dC : Nat → ClassId) (dI : Nat → Nat → Nat) (q : Nat → Nat) (k : Nat → ClassId) (st : St)  (res : Int32) (hres : sp_X7_total st = res) : Met l yX7_total wsX7_total ({ frames := 0, cells := 0, slots := 0, locals := 0 } : Room) (va_Pc [.ref (q 9)] (fun U => va_P (dC, dI) vwCl (wC q k st) U.heap ∧ KC (dC, dI) k U)) (vp_Si (fun r => r = res)) 0 0 (fun _ => False) := by
  refine Met.ofW (cc := cX7_total) (maxL := 1) (ret := (some .int)) (by decide) rfl ?_
  intro p e s m args below meth c s₁ B hml hv
  obtain ⟨rfl, hP, hK⟩ := hv
  have hx := B.exec
  have hb := B.bytes
  have hr := B.returns
  have hts := atoms_spec (ws := wsX7_total) B.pre
  have hown : s.vm.findClass RX7 = some m.cls := findClass_of_methodNamed B.named
  have hlocks := B.notSynchronized
  have hi7 : ∀ w ∈ wsX70, w ∈ wsX7_total := by decide +kernel
  have hf24 := hts (.fieldLink RX7 24 "ConsentRegister$Log" "count" "I") (by decide +kernel)
  have hl := lv_entry ([.ref (q 9)]) (n := 1) (Nat.le_of_ble_eq_true rfl)
  rw [lg_entry_eq]
  generalize (lg_sl ([.ref (q 9)]) ++ List.replicate (1 - (lg_sl ([.ref (q 9)])).length) Slot.unset).toArray = ls at hl ⊢
  have hl : lv_has ls 1 [(0, .ref (q 9))] := hl
  have he := hres
  unfold sp_X7_total at he
  refine lv_aload_n hx hb dX7_total_0 rfl (lv_at hl 0 rfl) ?_
  refine va_get (D := (dC, dI)) (ci := 7) (v := .int (st.1 8)) (C := RX7) (T := TX7) (N := 5) hx hb hts hi7 hown hK.1 hP 9 rfl rfl 4 (by decide) hf24 (fun _ h9 => h9) rfl dX7_total_1 ?_
  exact W.iret (v := st.1 8) hx hb hr (fun t ht hW => ⟨_, rfl, he, ht⟩) (fun _ h => nomatch h) dX7_total_4
set_option maxHeartbeats 4000000 in
set_option maxRecDepth 100000 in
theorem c_X7_add (l : Launch) (dC : Nat → ClassId) (dI : Nat → Nat → Nat) (q : Nat → Nat) (k : Nat → ClassId) (st : St) (a1 : Int32) (a2 : Int32) (a3 : Int32) (a4 : Int32) (hq : ∀ i j, i < 43 → j < 43 → q i = q j → i = j) (hok : okC st) (res : St) (hres : sp_X7_add st a1 a2 a3 a4 = res) : Met l yX7_add wsX7_add ({ frames := 0, cells := 0, slots := 0, locals := 0 } : Room) (va_Pc [.ref (q 9), .int a1, .int a2, .int a3, .int a4] (fun U => va_P (dC, dI) vwCl (wC q k st) U.heap ∧ KC (dC, dI) k U)) (va_Qv (fun (_ : Unit) => True) (fun _ t => va_P (dC, dI) vwCl (wC q k res) t.heap) (aC q)) 0 0 (aC q) := by
  refine Met.ofW (cc := cX7_add) (maxL := 5) (ret := none) (by decide) rfl ?_
  intro p e s m args below meth c s₁ B hml hv
  obtain ⟨rfl, hP, hK⟩ := hv
  have hx := B.exec
  have hb := B.bytes
  have hr := B.returns
  have hts := atoms_spec (ws := wsX7_add) B.pre
  have hown : s.vm.findClass RX7 = some m.cls := findClass_of_methodNamed B.named
  have hlocks := B.notSynchronized
  have hS : va_S (aC q) s.heap s.heap [] := va_S.rf
  have hi7 : ∀ w ∈ wsX70, w ∈ wsX7_add := by decide +kernel
  have hf11 := hts (.fieldLink RX7 11 "ConsentRegister$Log" "items" "[I") (by decide +kernel)
  have hf15 := hts (.fieldLink RX7 15 "ConsentRegister$Log" "purposes" "[I") (by decide +kernel)
  have hf18 := hts (.fieldLink RX7 18 "ConsentRegister$Log" "minutes" "[I") (by decide +kernel)
  have hf21 := hts (.fieldLink RX7 21 "ConsentRegister$Log" "grounds" "[I") (by decide +kernel)
  have hf24 := hts (.fieldLink RX7 24 "ConsentRegister$Log" "count" "I") (by decide +kernel)
  have hl := lv_entry ([.ref (q 9), .int a1, .int a2, .int a3, .int a4]) (n := 5) (Nat.le_of_ble_eq_true rfl)
  rw [lg_entry_eq]
  generalize (lg_sl ([.ref (q 9), .int a1, .int a2, .int a3, .int a4]) ++ List.replicate (5 - (lg_sl ([.ref (q 9), .int a1, .int a2, .int a3, .int a4])).length) Slot.unset).toArray = ls at hl ⊢
  have hl : lv_has ls 5 [(0, .ref (q 9)), (1, .int a1), (2, .int a2), (3, .int a3), (4, .int a4)] := hl
  have he := hres
  unfold sp_X7_add at he
  refine lv_aload_n hx hb dX7_add_0 rfl (lv_at hl 0 rfl) ?_
  refine va_get (D := (dC, dI)) (ci := 7) (v := .int (st.1 8)) (C := RX7) (T := TX7) (N := 5) hx hb hts hi7 hown hK.1 hP 9 rfl rfl 4 (by decide) hf24 (fun _ h9 => h9) rfl dX7_add_1 ?_
  refine lv_sipush (v := 200) hx hb dX7_add_4 (by decide) ?_
  refine lv_icmp_lt (tgt := 11) hx hb dX7_add_7 (by decide) (fun h7_1 => ?_) (fun h7_1 => ?_)
  · have he := (if_pos h7_1).symm.trans he
    refine lv_aload_n hx hb dX7_add_11 rfl (lv_at hl 0 rfl) ?_
    refine va_get (D := (dC, dI)) (ci := 7) (v := .ref (q 39)) (C := RX7) (T := TX7) (N := 5) hx hb hts hi7 hown hK.1 hP 9 rfl rfl 0 (by decide) hf11 (fun _ h9 => h9) rfl dX7_add_12 ?_
    refine lv_aload_n hx hb dX7_add_15 rfl (lv_at hl 0 rfl) ?_
    refine va_get (D := (dC, dI)) (ci := 7) (v := .int (st.1 8)) (C := RX7) (T := TX7) (N := 5) hx hb hts hi7 hown hK.1 hP 9 rfl rfl 4 (by decide) hf24 (fun _ h9 => h9) rfl dX7_add_16 ?_
    refine lv_iload_n hx hb dX7_add_19 rfl (lv_at hl 1 rfl) ?_
    refine va_iast hx hb hK.1 hP (dC_of hq) hS 39 29 (f := st.2.1 29) (n := 200) (cA := k 29) rfl rfl (i := st.1 8) (x := a1) (ob_X7_add_20_2 st a1 a2 a3 a4 hok h7_1) dX7_add_20 (fun H locs hP _ hS => ?_)
    have hP : va_P (dC, dI) vwCl (wC q k (sA st 29 ((st.1 8).toNatClampNeg) a1)) H := hP
    refine lv_aload_n hx hb dX7_add_21 rfl (lv_at hl 0 rfl) ?_
    refine va_get (D := (dC, dI)) (ci := 7) (v := .ref (q 40)) (C := RX7) (T := TX7) (N := 5) hx hb hts hi7 hown hK.1 hP 9 rfl rfl 1 (by decide) hf15 (fun _ h9 => h9) rfl dX7_add_22 ?_
    refine lv_aload_n hx hb dX7_add_25 rfl (lv_at hl 0 rfl) ?_
    refine va_get (D := (dC, dI)) (ci := 7) (v := .int (st.1 8)) (C := RX7) (T := TX7) (N := 5) hx hb hts hi7 hown hK.1 hP 9 rfl rfl 4 (by decide) hf24 (fun _ h9 => h9) rfl dX7_add_26 ?_
    refine lv_iload_n hx hb dX7_add_29 rfl (lv_at hl 2 rfl) ?_
    refine va_iast hx hb hK.1 hP (dC_of hq) hS 40 30 (f := st.2.1 30) (n := 200) (cA := k 30) rfl rfl (i := st.1 8) (x := a2) (ob_X7_add_30_3 st a1 a2 a3 a4 hok h7_1) dX7_add_30 (fun H locs hP _ hS => ?_)
    have hP : va_P (dC, dI) vwCl (wC q k (sA (sA st 29 ((st.1 8).toNatClampNeg) a1) 30 ((st.1 8).toNatClampNeg) a2)) H := hP
    refine lv_aload_n hx hb dX7_add_31 rfl (lv_at hl 0 rfl) ?_
    refine va_get (D := (dC, dI)) (ci := 7) (v := .ref (q 41)) (C := RX7) (T := TX7) (N := 5) hx hb hts hi7 hown hK.1 hP 9 rfl rfl 2 (by decide) hf18 (fun _ h9 => h9) rfl dX7_add_32 ?_
    refine lv_aload_n hx hb dX7_add_35 rfl (lv_at hl 0 rfl) ?_
    refine va_get (D := (dC, dI)) (ci := 7) (v := .int (st.1 8)) (C := RX7) (T := TX7) (N := 5) hx hb hts hi7 hown hK.1 hP 9 rfl rfl 4 (by decide) hf24 (fun _ h9 => h9) rfl dX7_add_36 ?_
    refine lv_iload_n hx hb dX7_add_39 rfl (lv_at hl 3 rfl) ?_
    refine va_iast hx hb hK.1 hP (dC_of hq) hS 41 31 (f := st.2.1 31) (n := 200) (cA := k 31) rfl rfl (i := st.1 8) (x := a3) (ob_X7_add_40_4 st a1 a2 a3 a4 hok h7_1) dX7_add_40 (fun H locs hP _ hS => ?_)
    have hP : va_P (dC, dI) vwCl (wC q k (sA (sA (sA st 29 ((st.1 8).toNatClampNeg) a1) 30 ((st.1 8).toNatClampNeg) a2) 31 ((st.1 8).toNatClampNeg) a3)) H := hP
    refine lv_aload_n hx hb dX7_add_41 rfl (lv_at hl 0 rfl) ?_
    refine va_get (D := (dC, dI)) (ci := 7) (v := .ref (q 42)) (C := RX7) (T := TX7) (N := 5) hx hb hts hi7 hown hK.1 hP 9 rfl rfl 3 (by decide) hf21 (fun _ h9 => h9) rfl dX7_add_42 ?_
    refine lv_aload_n hx hb dX7_add_45 rfl (lv_at hl 0 rfl) ?_
    refine va_get (D := (dC, dI)) (ci := 7) (v := .int (st.1 8)) (C := RX7) (T := TX7) (N := 5) hx hb hts hi7 hown hK.1 hP 9 rfl rfl 4 (by decide) hf24 (fun _ h9 => h9) rfl dX7_add_46 ?_
    refine lv_iload hx hb dX7_add_49 (lv_at hl 4 rfl) ?_
    refine va_iast hx hb hK.1 hP (dC_of hq) hS 42 32 (f := st.2.1 32) (n := 200) (cA := k 32) rfl rfl (i := st.1 8) (x := a4) (ob_X7_add_51_5 st a1 a2 a3 a4 hok h7_1) dX7_add_51 (fun H locs hP _ hS => ?_)
    have hP : va_P (dC, dI) vwCl (wC q k (sA (sA (sA (sA st 29 ((st.1 8).toNatClampNeg) a1) 30 ((st.1 8).toNatClampNeg) a2) 31 ((st.1 8).toNatClampNeg) a3) 32 ((st.1 8).toNatClampNeg) a4)) H := hP
    refine lv_aload_n hx hb dX7_add_52 rfl (lv_at hl 0 rfl) ?_
    refine lv_dup hx hb dX7_add_53 rfl ?_
    refine va_get (D := (dC, dI)) (ci := 7) (v := .int (st.1 8)) (C := RX7) (T := TX7) (N := 5) hx hb hts hi7 hown hK.1 hP 9 rfl rfl 4 (by decide) hf24 (fun _ h9 => h9) rfl dX7_add_54 ?_
    refine lv_iconst (v := 1) hx hb dX7_add_57 (by decide) ?_
    refine lv_iadd hx hb dX7_add_58 ?_
    refine va_put (D := (dC, dI)) (ci := 7) (v := .int ((st.1 8) + 1)) (ty := .int) (C := RX7) (T := TX7) (N := 5) hx hb hts hi7 tyX7 tyX7_ok nmX7 hown hK.1 hP (dC_of hq) hS 9 rfl rfl 4 (by decide) hf24 (fun _ h9 => h9) rfl (by decide +kernel) rfl rfl (Nat.le_of_ble_eq_true rfl) dX7_add_59 (fun H locs hP _ hS => ?_)
    have hP : va_P (dC, dI) vwCl (wC q k (sI (sA (sA (sA (sA st 29 ((st.1 8).toNatClampNeg) a1) 30 ((st.1 8).toNatClampNeg) a2) 31 ((st.1 8).toNatClampNeg) a3) 32 ((st.1 8).toNatClampNeg) a4) 8 ((st.1 8) + 1))) H := hP
    exact W.vret hx hb hr (fun t ht hW => ⟨⟨(), rfl, trivial, by show va_P _ _ _ t.heap; rw [ht, ← he]; exact hP⟩, hS.F ht⟩) hS.2.2 dX7_add_62
  · have he := (if_neg h7_1).symm.trans he
    exact W.vret hx hb hr (fun t ht hW => ⟨⟨(), rfl, trivial, by show va_P _ _ _ t.heap; rw [ht, ← he]; exact hP⟩, hS.F ht⟩) hS.2.2 dX7_add_10
set_option maxHeartbeats 4000000 in
set_option maxRecDepth 100000 in
theorem c_X7_read (l : Launch) (dC : Nat → ClassId) (dI : Nat → Nat → Nat) (q : Nat → Nat) (k : Nat → ClassId) (st : St) (a1 : Int32) (a2 : Int32) (hok : okC st) (res : Int32) (hres : sp_X7_read st a1 a2 = res) : Met l yX7_read wsX7_read ({ frames := 0, cells := 0, slots := 0, locals := 0 } : Room) (va_Pc [.ref (q 9), .int a1, .int a2] (fun U => va_P (dC, dI) vwCl (wC q k st) U.heap ∧ KC (dC, dI) k U)) (vp_Si (fun r => r = res)) 0 0 (fun _ => False) := by
  refine Met.ofW (cc := cX7_read) (maxL := 3) (ret := (some .int)) (by decide) rfl ?_
  intro p e s m args below meth c s₁ B hml hv
  obtain ⟨rfl, hP, hK⟩ := hv
  have hx := B.exec
  have hb := B.bytes
  have hr := B.returns
  have hts := atoms_spec (ws := wsX7_read) B.pre
  have hown : s.vm.findClass RX7 = some m.cls := findClass_of_methodNamed B.named
  have hlocks := B.notSynchronized
  have hi7 : ∀ w ∈ wsX70, w ∈ wsX7_read := by decide +kernel
  have hf11 := hts (.fieldLink RX7 11 "ConsentRegister$Log" "items" "[I") (by decide +kernel)
  have hf15 := hts (.fieldLink RX7 15 "ConsentRegister$Log" "purposes" "[I") (by decide +kernel)
  have hf18 := hts (.fieldLink RX7 18 "ConsentRegister$Log" "minutes" "[I") (by decide +kernel)
  have hf21 := hts (.fieldLink RX7 21 "ConsentRegister$Log" "grounds" "[I") (by decide +kernel)
  have hf24 := hts (.fieldLink RX7 24 "ConsentRegister$Log" "count" "I") (by decide +kernel)
  have hl := lv_entry ([.ref (q 9), .int a1, .int a2]) (n := 3) (Nat.le_of_ble_eq_true rfl)
  rw [lg_entry_eq]
  generalize (lg_sl ([.ref (q 9), .int a1, .int a2]) ++ List.replicate (3 - (lg_sl ([.ref (q 9), .int a1, .int a2])).length) Slot.unset).toArray = ls at hl ⊢
  have hl : lv_has ls 3 [(0, .ref (q 9)), (1, .int a1), (2, .int a2)] := hl
  have he := hres
  unfold sp_X7_read at he
  refine lv_iload_n hx hb dX7_read_0 rfl (lv_at hl 1 rfl) ?_
  refine lv_if_lt (tgt := 12) hx hb dX7_read_1 (by decide) (fun h1_1 => ?_) (fun h1_1 => ?_)
  · have he := (if_pos h1_1).symm.trans he
    refine lv_iconst (v := (-1)) hx hb dX7_read_12 (by decide) ?_
    exact W.iret (v := (-1)) hx hb hr (fun t ht hW => ⟨_, rfl, he, ht⟩) (fun _ h => nomatch h) dX7_read_13
  · have he := (if_neg h1_1).symm.trans he
    refine lv_iload_n hx hb dX7_read_4 rfl (lv_at hl 1 rfl) ?_
    refine lv_aload_n hx hb dX7_read_5 rfl (lv_at hl 0 rfl) ?_
    refine va_get (D := (dC, dI)) (ci := 7) (v := .int (st.1 8)) (C := RX7) (T := TX7) (N := 5) hx hb hts hi7 hown hK.1 hP 9 rfl rfl 4 (by decide) hf24 (fun _ h9 => h9) rfl dX7_read_6 ?_
    refine lv_icmp_lt (tgt := 14) hx hb dX7_read_9 (by decide) (fun h9_2 => ?_) (fun h9_2 => ?_)
    · have he := (if_pos h9_2).symm.trans he
      refine lv_iload_n hx hb dX7_read_14 rfl (lv_at hl 2 rfl) ?_
      by_cases h15_3 : a2 = 0
      · have he := (if_pos h15_3).symm.trans he
        refine lv_tableIn (off := 29) (tgt := 44) hx hb dX7_read_15 (by rw [h15_3]; decide) (by rw [h15_3]; decide) (by rw [h15_3]; rfl) (by decide) ?_
        refine lv_aload_n hx hb dX7_read_44 rfl (lv_at hl 0 rfl) ?_
        refine va_get (D := (dC, dI)) (ci := 7) (v := .ref (q 39)) (C := RX7) (T := TX7) (N := 5) hx hb hts hi7 hown hK.1 hP 9 rfl rfl 0 (by decide) hf11 (fun _ h9 => h9) rfl dX7_read_45 ?_
        refine lv_iload_n hx hb dX7_read_48 rfl (lv_at hl 1 rfl) ?_
        refine va_iald hx hb hK.1 hP 39 29 (f := st.2.1 29) (n := 200) (cA := k 29) rfl rfl (i := a1) (ob_X7_read_49_4 st a1 a2 hok h1_1 h9_2 h15_3) dX7_read_49 ?_
        exact W.iret (v := st.2.1 29 a1.toNatClampNeg) hx hb hr (fun t ht hW => ⟨_, rfl, he, ht⟩) (fun _ h => nomatch h) dX7_read_50
      have he := (if_neg h15_3).symm.trans he
      by_cases h15_5 : a2 = 1
      · have he := (if_pos h15_5).symm.trans he
        refine lv_tableIn (off := 36) (tgt := 51) hx hb dX7_read_15 (by rw [h15_5]; decide) (by rw [h15_5]; decide) (by rw [h15_5]; rfl) (by decide) ?_
        refine lv_aload_n hx hb dX7_read_51 rfl (lv_at hl 0 rfl) ?_
        refine va_get (D := (dC, dI)) (ci := 7) (v := .ref (q 40)) (C := RX7) (T := TX7) (N := 5) hx hb hts hi7 hown hK.1 hP 9 rfl rfl 1 (by decide) hf15 (fun _ h9 => h9) rfl dX7_read_52 ?_
        refine lv_iload_n hx hb dX7_read_55 rfl (lv_at hl 1 rfl) ?_
        refine va_iald hx hb hK.1 hP 40 30 (f := st.2.1 30) (n := 200) (cA := k 30) rfl rfl (i := a1) (ob_X7_read_56_6 st a1 a2 hok h1_1 h9_2 h15_3 h15_5) dX7_read_56 ?_
        exact W.iret (v := st.2.1 30 a1.toNatClampNeg) hx hb hr (fun t ht hW => ⟨_, rfl, he, ht⟩) (fun _ h => nomatch h) dX7_read_57
      have he := (if_neg h15_5).symm.trans he
      by_cases h15_7 : a2 = 2
      · have he := (if_pos h15_7).symm.trans he
        refine lv_tableIn (off := 43) (tgt := 58) hx hb dX7_read_15 (by rw [h15_7]; decide) (by rw [h15_7]; decide) (by rw [h15_7]; rfl) (by decide) ?_
        refine lv_aload_n hx hb dX7_read_58 rfl (lv_at hl 0 rfl) ?_
        refine va_get (D := (dC, dI)) (ci := 7) (v := .ref (q 41)) (C := RX7) (T := TX7) (N := 5) hx hb hts hi7 hown hK.1 hP 9 rfl rfl 2 (by decide) hf18 (fun _ h9 => h9) rfl dX7_read_59 ?_
        refine lv_iload_n hx hb dX7_read_62 rfl (lv_at hl 1 rfl) ?_
        refine va_iald hx hb hK.1 hP 41 31 (f := st.2.1 31) (n := 200) (cA := k 31) rfl rfl (i := a1) (ob_X7_read_63_8 st a1 a2 hok h1_1 h9_2 h15_3 h15_5 h15_7) dX7_read_63 ?_
        exact W.iret (v := st.2.1 31 a1.toNatClampNeg) hx hb hr (fun t ht hW => ⟨_, rfl, he, ht⟩) (fun _ h => nomatch h) dX7_read_64
      have he := (if_neg h15_7).symm.trans he
      by_cases h15_9 : a2 = 3
      · have he := (if_pos h15_9).symm.trans he
        refine lv_tableIn (off := 50) (tgt := 65) hx hb dX7_read_15 (by rw [h15_9]; decide) (by rw [h15_9]; decide) (by rw [h15_9]; rfl) (by decide) ?_
        refine lv_aload_n hx hb dX7_read_65 rfl (lv_at hl 0 rfl) ?_
        refine va_get (D := (dC, dI)) (ci := 7) (v := .ref (q 42)) (C := RX7) (T := TX7) (N := 5) hx hb hts hi7 hown hK.1 hP 9 rfl rfl 3 (by decide) hf21 (fun _ h9 => h9) rfl dX7_read_66 ?_
        refine lv_iload_n hx hb dX7_read_69 rfl (lv_at hl 1 rfl) ?_
        refine va_iald hx hb hK.1 hP 42 32 (f := st.2.1 32) (n := 200) (cA := k 32) rfl rfl (i := a1) (ob_X7_read_70_10 st a1 a2 hok h1_1 h9_2 h15_3 h15_5 h15_7 h15_9) dX7_read_70 ?_
        exact W.iret (v := st.2.1 32 a1.toNatClampNeg) hx hb hr (fun t ht hW => ⟨_, rfl, he, ht⟩) (fun _ h => nomatch h) dX7_read_71
      have he := (if_neg h15_9).symm.trans he
      refine lv_tableOut (tgt := 72) hx hb dX7_read_15 (by have z0 := lv_neT (a := 0) h15_3 rfl; have z1 := lv_neT (a := 1) h15_5 rfl; have z2 := lv_neT (a := 2) h15_7 rfl; have z3 := lv_neT (a := 3) h15_9 rfl; omega) (by decide) ?_
      refine lv_iconst (v := (-1)) hx hb dX7_read_72 (by decide) ?_
      exact W.iret (v := (-1)) hx hb hr (fun t ht hW => ⟨_, rfl, he, ht⟩) (fun _ h => nomatch h) dX7_read_73
    · have he := (if_neg h9_2).symm.trans he
      refine lv_iconst (v := (-1)) hx hb dX7_read_12 (by decide) ?_
      exact W.iret (v := (-1)) hx hb hr (fun t ht hW => ⟨_, rfl, he, ht⟩) (fun _ h => nomatch h) dX7_read_13

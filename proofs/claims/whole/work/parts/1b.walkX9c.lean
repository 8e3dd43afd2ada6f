set_option maxHeartbeats 4000000 in
set_option maxRecDepth 100000 in
theorem c_X9_purpose (l : Launch) (hst : l.stackTraces = false) (dC : Nat → ClassId) (dI : Nat → Nat → Nat) (q : Nat → Nat) (k : Nat → ClassId) (st : St) (a1 : Int32) (hq : ∀ i j, i < 43 → j < 43 → q i = q j → i = j) (hok : okC st) (res : Int32 × Int32 × St) (hres : sp_X9_purpose st a1 = res) : vx_Met l yX9_purpose wsX9_purpose ({ frames := 6, cells := 1, slots := 6, locals := 90 } : Room) (va_Pc [.ref (q 0), .int a1] (fun U => va_P (dC, dI) vwCl (wC q k st) U.heap ∧ KC (dC, dI) k U ∧ TH (aC q) U U.heap)) (va_Qi (fun r (_ : Unit) => res.1 = 0 ∧ r = res.2.1) (fun _ t => va_P (dC, dI) vwCl (wC q k res.2.2) t.heap) (aC q)) (vx_X (fun (_ : Unit) => True) (fun E _ t => xE res.1 E ∧ va_P (dC, dI) vwCl (wC q k res.2.2) t.heap) (aC q)) 1 6 (aC q) := by
  refine vx_ofW (cc := cX9_purpose) (maxL := 3) (ret := (some .int)) (by decide) rfl ?_
  intro p e s m args below meth c s₁ B hml hnt hv
  obtain ⟨rfl, hP, hK, hT⟩ := hv
  have hx := B.exec
  have hb := B.bytes
  have hr := B.returns
  have hts := atoms_spec (ws := wsX9_purpose) B.pre
  have hown : s.vm.findClass RX9 = some m.cls := findClass_of_methodNamed B.named
  have hlocks := B.notSynchronized
  have hS : va_S (aC q) s.heap s.heap [] := va_S.rf
  have hi9 : ∀ w ∈ wsX90, w ∈ wsX9_purpose := by decide +kernel
  have hf10 := hts (.fieldLink RX9 10 "ConsentRegister" "purposes" "LConsentRegister$Purposes;") (by decide +kernel)
  have hl := lv_entry ([.ref (q 0), .int a1]) (n := 3) (Nat.le_of_ble_eq_true rfl)
  rw [lg_entry_eq]
  generalize (lg_sl ([.ref (q 0), .int a1]) ++ List.replicate (3 - (lg_sl ([.ref (q 0), .int a1])).length) Slot.unset).toArray = ls at hl ⊢
  have hl : lv_has ls 3 [(0, .ref (q 0)), (1, .int a1)] := hl
  have he := hres
  unfold sp_X9_purpose at he
  refine lv_aload_n hx hb dX9_purpose_0 rfl (lv_at hl 0 rfl) ?_
  refine va_get (D := (dC, dI)) (ci := 9) (v := .ref (q 1)) (C := RX9) (T := TX9) (N := 10) hx hb hts hi9 hown hK.1 hP 0 rfl rfl 0 (by decide) hf10 (fun _ h9 => h9) rfl dX9_purpose_1 ?_
  refine lv_iload_n hx hb dX9_purpose_4 rfl (lv_at hl 1 rfl) ?_
  refine vp_callSi (va_Run.run (va_runV (As := [.int a1]) (rest := []) ⟨hx, hb, hml, hown, hts⟩ (c_X8_has l dC dI q k st a1 _ rfl) (cwV 1 hts gX9_purpose_X8_has rfl rfl rfl (by decide +kernel) ⟨Nat.le_of_ble_eq_true rfl, Nat.le_of_ble_eq_true rfl⟩) ⟨fb_C, va_recv hK.1 hP (ci := 8) (q0 := 1) rfl rfl, fun U hU hW => ⟨rfl, by rw [hU]; exact hP, hK.warm hW⟩⟩ rfl rfl hl.1 rfl (lv_room (Nat.le_of_ble_eq_true rfl)) dX9_purpose_5 ⟨Nat.le_of_ble_eq_true rfl, Nat.le_of_ble_eq_true rfl⟩)) (fun r9 e9 => ?_)
  subst e9
  refine lv_if_ne (tgt := 21) hx hb dX9_purpose_8 (by decide) (fun h8_1 => ?_) (fun h8_1 => ?_)
  · have he := (if_neg h8_1).symm.trans he
    refine lv_aload_n hx hb dX9_purpose_21 rfl (lv_at hl 0 rfl) ?_
    refine va_get (D := (dC, dI)) (ci := 9) (v := .ref (q 1)) (C := RX9) (T := TX9) (N := 10) hx hb hts hi9 hown hK.1 hP 0 rfl rfl 0 (by decide) hf10 (fun _ h9 => h9) rfl dX9_purpose_22 ?_
    refine lv_iload_n hx hb dX9_purpose_25 rfl (lv_at hl 1 rfl) ?_
    refine va_calli (va_runV (As := [.int a1]) (rest := []) ⟨hx, hb, hml, hown, hts⟩ (c_X8_add l dC dI q k st a1 hq hok _ rfl) (cwV 1 hts gX9_purpose_X8_add rfl rfl rfl (by decide +kernel) ⟨Nat.le_of_ble_eq_true rfl, Nat.le_of_ble_eq_true rfl⟩) ⟨fb_C, va_recv hK.1 hP (ci := 8) (q0 := 1) rfl rfl, fun U hU hW => ⟨rfl, by rw [hU]; exact hP, hK.warm hW⟩⟩ rfl rfl hl.1 rfl (lv_room (Nat.le_of_ble_eq_true rfl)) dX9_purpose_26 ⟨Nat.le_of_ble_eq_true rfl, Nat.le_of_ble_eq_true rfl⟩) hS (fun _ _ h => h) (fun _ h => h) (fun r9 u9 t9 H locs ht9 hv9 e9 hB9 hz9 hk9 hS => ?_)
    rw [ht9] at hB9
    subst e9
    have hP : va_P (dC, dI) vwCl (wC q k ((sp_X8_add st a1).2)) H := hB9
    refine lv_istore_n (lv' := [(2, .int ((sp_X8_add st a1).1)), (0, .ref (q 0)), (1, .int a1)]) hx hb dX9_purpose_29 rfl hl (by decide) rfl (fun ls hl => ?_)
    refine lv_iload_n hx hb dX9_purpose_30 rfl (lv_at hl 0 rfl) ?_
    refine lv_if_ge (tgt := 44) hx hb dX9_purpose_31 (by decide) (fun h31_2 => ?_) (fun h31_2 => ?_)
    · have he := (if_pos h31_2).symm.trans he
      refine lv_iload_n hx hb dX9_purpose_44 rfl (lv_at hl 0 rfl) ?_
      refine W.widen (k := 1) (n := 6) (by decide) (by decide) ?_
      refine vx_ret ?_
      exact W.iret (v := (sp_X8_add st a1).1) hx hb hr (fun t ht hW => ⟨⟨_, (), rfl, (by rw [← he]; exact ⟨rfl, rfl⟩ : res.1 = 0 ∧ _ = res.2.1), by show va_P _ _ _ t.heap; rw [ht, ← he]; exact hP⟩, hS.F ht⟩) hS.2.2 dX9_purpose_45
    · have he := (if_neg h31_2).symm.trans he
      obtain ⟨sa9, hsa9⟩ := hT.2.2.2 (93, "there are 16 purposes") (by decide +kernel)
      refine vx_throwS (A := aC q) (own := RX9) (cls := "java/lang/IllegalStateException") (text := "there are 16 purposes") (names := ["java/lang/RuntimeException", "java/lang/Exception"]) hx hb hst hown (by decide +kernel) (by decide +kernel) (hts (.classLink RX9 91 "java/lang/IllegalStateException") (by decide +kernel)) (hts (.initialized "java/lang/IllegalStateException") (by decide +kernel)) hsa9 (vx_hat (B := badWs) (fun w9 h9 => hts w9 (List.mem_cons_of_mem _ (List.mem_append_right _ h9))) bad_2 (fun w9 h9 => va_Nw.use (bad_on w9 h9) (hT.2.2.1 w9 h9))) ot_2 hT.1 hT.2.1 hS (hl.1.trans hml.symm) dX9_purpose_34 dX9_purpose_37 dX9_purpose_38 dX9_purpose_40 dX9_purpose_43 (fun x9 h9 => (hnt x9 h9).elim) (Nat.le_of_ble_eq_true rfl) (Nat.le_of_ble_eq_true rfl) (Nat.le_of_ble_eq_true rfl) (Nat.le_of_ble_eq_true rfl) hlocks (fun t9 h91 h92 h93 => ⟨(), trivial, ⟨by rw [← he]; exact Or.inr (Or.inl ⟨rfl, rfl⟩), by rw [← he]; exact hP.kept (fun k9 q9 hk9 => h93 _ (va_at.lt (hP k9 q9 hk9)))⟩, Nat.le_trans hS.1 h92, fun z9 hz9 hA9 => (h93 z9 (Nat.lt_of_lt_of_le hz9 hS.1)).trans (hS.2.1 z9 hz9 hA9)⟩) hS.2.2 (Nat.le_of_ble_eq_true rfl) (Nat.le_of_ble_eq_true rfl)
  · have he := (if_pos h8_1).symm.trans he
    obtain ⟨sa9, hsa9⟩ := hT.2.2.2 (82, "there is no such parent") (by decide +kernel)
    refine vx_throwS (A := aC q) (own := RX9) (cls := "java/lang/IllegalArgumentException") (text := "there is no such parent") (names := ["java/lang/RuntimeException", "java/lang/Exception"]) hx hb hst hown (by decide +kernel) (by decide +kernel) (hts (.classLink RX9 80 "java/lang/IllegalArgumentException") (by decide +kernel)) (hts (.initialized "java/lang/IllegalArgumentException") (by decide +kernel)) hsa9 (vx_hat (B := badWs) (fun w9 h9 => hts w9 (List.mem_cons_of_mem _ (List.mem_append_left _ (List.mem_append_right _ h9)))) bad_1 (fun w9 h9 => va_Nw.use (bad_on w9 h9) (hT.2.2.1 w9 h9))) ot_1 hT.1 hT.2.1 hS (hl.1.trans hml.symm) dX9_purpose_11 dX9_purpose_14 dX9_purpose_15 dX9_purpose_17 dX9_purpose_20 (fun x9 h9 => (hnt x9 h9).elim) (Nat.le_of_ble_eq_true rfl) (Nat.le_of_ble_eq_true rfl) (Nat.le_of_ble_eq_true rfl) (Nat.le_of_ble_eq_true rfl) hlocks (fun t9 h91 h92 h93 => ⟨(), trivial, ⟨by rw [← he]; exact Or.inl ⟨rfl, rfl⟩, by rw [← he]; exact hP.kept (fun k9 q9 hk9 => h93 _ (va_at.lt (hP k9 q9 hk9)))⟩, Nat.le_trans hS.1 h92, fun z9 hz9 hA9 => (h93 z9 (Nat.lt_of_lt_of_le hz9 hS.1)).trans (hS.2.1 z9 hz9 hA9)⟩) hS.2.2 (Nat.le_of_ble_eq_true rfl) (Nat.le_of_ble_eq_true rfl)
set_option maxHeartbeats 4000000 in
set_option maxRecDepth 100000 in
theorem c_X9_kind (l : Launch) (hst : l.stackTraces = false) (dC : Nat → ClassId) (dI : Nat → Nat → Nat) (q : Nat → Nat) (k : Nat → ClassId) (st : St) (a1 : Int32) (hq : ∀ i j, i < 43 → j < 43 → q i = q j → i = j) (hok : okC st) (res : Int32 × Int32 × St) (hres : sp_X9_kind st a1 = res) : vx_Met l yX9_kind wsX9_kind ({ frames := 6, cells := 1, slots := 6, locals := 90 } : Room) (va_Pc [.ref (q 0), .int a1] (fun U => va_P (dC, dI) vwCl (wC q k st) U.heap ∧ KC (dC, dI) k U ∧ TH (aC q) U U.heap)) (va_Qi (fun r (_ : Unit) => res.1 = 0 ∧ r = res.2.1) (fun _ t => va_P (dC, dI) vwCl (wC q k res.2.2) t.heap) (aC q)) (vx_X (fun (_ : Unit) => True) (fun E _ t => xE res.1 E ∧ va_P (dC, dI) vwCl (wC q k res.2.2) t.heap) (aC q)) 1 6 (aC q) := by
  refine vx_ofW (cc := cX9_kind) (maxL := 3) (ret := (some .int)) (by decide) rfl ?_
  intro p e s m args below meth c s₁ B hml hnt hv
  obtain ⟨rfl, hP, hK, hT⟩ := hv
  have hx := B.exec
  have hb := B.bytes
  have hr := B.returns
  have hts := atoms_spec (ws := wsX9_kind) B.pre
  have hown : s.vm.findClass RX9 = some m.cls := findClass_of_methodNamed B.named
  have hlocks := B.notSynchronized
  have hS : va_S (aC q) s.heap s.heap [] := va_S.rf
  have hi9 : ∀ w ∈ wsX90, w ∈ wsX9_kind := by decide +kernel
  have hf19 := hts (.fieldLink RX9 19 "ConsentRegister" "kinds" "LConsentRegister$Kinds;") (by decide +kernel)
  have hl := lv_entry ([.ref (q 0), .int a1]) (n := 3) (Nat.le_of_ble_eq_true rfl)
  rw [lg_entry_eq]
  generalize (lg_sl ([.ref (q 0), .int a1]) ++ List.replicate (3 - (lg_sl ([.ref (q 0), .int a1])).length) Slot.unset).toArray = ls at hl ⊢
  have hl : lv_has ls 3 [(0, .ref (q 0)), (1, .int a1)] := hl
  have he := hres
  unfold sp_X9_kind at he
  refine lv_iload_n hx hb dX9_kind_0 rfl (lv_at hl 1 rfl) ?_
  refine vp_callSi (va_Run.run (va_runS (As := [.int a1]) (rest := []) ⟨hx, hb, hml, hown, hts⟩ (c_X9_isSpanOfDays l a1 _ rfl) (va_cwS 1 hts gX9_kind_X9_isSpanOfDays rfl rfl rfl (by decide +kernel) ⟨Nat.le_of_ble_eq_true rfl, Nat.le_of_ble_eq_true rfl⟩) ⟨fb_T, fun U hU hW => ⟨rfl, trivial⟩⟩ rfl rfl hl.1 rfl (lv_room (Nat.le_of_ble_eq_true rfl)) dX9_kind_1 ⟨Nat.le_of_ble_eq_true rfl, Nat.le_of_ble_eq_true rfl⟩)) (fun r9 e9 => ?_)
  subst e9
  refine lv_if_ne (tgt := 17) hx hb dX9_kind_4 (by decide) (fun h4_1 => ?_) (fun h4_1 => ?_)
  · have he := (if_neg h4_1).symm.trans he
    refine lv_aload_n hx hb dX9_kind_17 rfl (lv_at hl 0 rfl) ?_
    refine va_get (D := (dC, dI)) (ci := 9) (v := .ref (q 2)) (C := RX9) (T := TX9) (N := 10) hx hb hts hi9 hown hK.1 hP 0 rfl rfl 1 (by decide) hf19 (fun _ h9 => h9) rfl dX9_kind_18 ?_
    refine lv_iload_n hx hb dX9_kind_21 rfl (lv_at hl 1 rfl) ?_
    refine va_calli (va_runV (As := [.int a1]) (rest := []) ⟨hx, hb, hml, hown, hts⟩ (c_X6_add l dC dI q k st a1 hq hok _ rfl) (cwV 1 hts gX9_kind_X6_add rfl rfl rfl (by decide +kernel) ⟨Nat.le_of_ble_eq_true rfl, Nat.le_of_ble_eq_true rfl⟩) ⟨fb_C, va_recv hK.1 hP (ci := 6) (q0 := 2) rfl rfl, fun U hU hW => ⟨rfl, by rw [hU]; exact hP, hK.warm hW⟩⟩ rfl rfl hl.1 rfl (lv_room (Nat.le_of_ble_eq_true rfl)) dX9_kind_22 ⟨Nat.le_of_ble_eq_true rfl, Nat.le_of_ble_eq_true rfl⟩) hS (fun _ _ h => h) (fun _ h => h) (fun r9 u9 t9 H locs ht9 hv9 e9 hB9 hz9 hk9 hS => ?_)
    rw [ht9] at hB9
    subst e9
    have hP : va_P (dC, dI) vwCl (wC q k ((sp_X6_add st a1).2)) H := hB9
    refine lv_istore_n (lv' := [(2, .int ((sp_X6_add st a1).1)), (0, .ref (q 0)), (1, .int a1)]) hx hb dX9_kind_25 rfl hl (by decide) rfl (fun ls hl => ?_)
    refine lv_iload_n hx hb dX9_kind_26 rfl (lv_at hl 0 rfl) ?_
    refine lv_if_ge (tgt := 40) hx hb dX9_kind_27 (by decide) (fun h27_2 => ?_) (fun h27_2 => ?_)
    · have he := (if_pos h27_2).symm.trans he
      refine lv_iload_n hx hb dX9_kind_40 rfl (lv_at hl 0 rfl) ?_
      refine W.widen (k := 1) (n := 6) (by decide) (by decide) ?_
      refine vx_ret ?_
      exact W.iret (v := (sp_X6_add st a1).1) hx hb hr (fun t ht hW => ⟨⟨_, (), rfl, (by rw [← he]; exact ⟨rfl, rfl⟩ : res.1 = 0 ∧ _ = res.2.1), by show va_P _ _ _ t.heap; rw [ht, ← he]; exact hP⟩, hS.F ht⟩) hS.2.2 dX9_kind_41
    · have he := (if_neg h27_2).symm.trans he
      obtain ⟨sa9, hsa9⟩ := hT.2.2.2 (102, "there are 8 kinds") (by decide +kernel)
      refine vx_throwS (A := aC q) (own := RX9) (cls := "java/lang/IllegalStateException") (text := "there are 8 kinds") (names := ["java/lang/RuntimeException", "java/lang/Exception"]) hx hb hst hown (by decide +kernel) (by decide +kernel) (hts (.classLink RX9 91 "java/lang/IllegalStateException") (by decide +kernel)) (hts (.initialized "java/lang/IllegalStateException") (by decide +kernel)) hsa9 (vx_hat (B := badWs) (fun w9 h9 => hts w9 (List.mem_cons_of_mem _ (List.mem_append_right _ h9))) bad_2 (fun w9 h9 => va_Nw.use (bad_on w9 h9) (hT.2.2.1 w9 h9))) ot_2 hT.1 hT.2.1 hS (hl.1.trans hml.symm) dX9_kind_30 dX9_kind_33 dX9_kind_34 dX9_kind_36 dX9_kind_39 (fun x9 h9 => (hnt x9 h9).elim) (Nat.le_of_ble_eq_true rfl) (Nat.le_of_ble_eq_true rfl) (Nat.le_of_ble_eq_true rfl) (Nat.le_of_ble_eq_true rfl) hlocks (fun t9 h91 h92 h93 => ⟨(), trivial, ⟨by rw [← he]; exact Or.inr (Or.inl ⟨rfl, rfl⟩), by rw [← he]; exact hP.kept (fun k9 q9 hk9 => h93 _ (va_at.lt (hP k9 q9 hk9)))⟩, Nat.le_trans hS.1 h92, fun z9 hz9 hA9 => (h93 z9 (Nat.lt_of_lt_of_le hz9 hS.1)).trans (hS.2.1 z9 hz9 hA9)⟩) hS.2.2 (Nat.le_of_ble_eq_true rfl) (Nat.le_of_ble_eq_true rfl)
  · have he := (if_pos h4_1).symm.trans he
    obtain ⟨sa9, hsa9⟩ := hT.2.2.2 (99, "the retention is not 1 to 5,000 days") (by decide +kernel)
    refine vx_throwS (A := aC q) (own := RX9) (cls := "java/lang/IllegalArgumentException") (text := "the retention is not 1 to 5,000 days") (names := ["java/lang/RuntimeException", "java/lang/Exception"]) hx hb hst hown (by decide +kernel) (by decide +kernel) (hts (.classLink RX9 80 "java/lang/IllegalArgumentException") (by decide +kernel)) (hts (.initialized "java/lang/IllegalArgumentException") (by decide +kernel)) hsa9 (vx_hat (B := badWs) (fun w9 h9 => hts w9 (List.mem_cons_of_mem _ (List.mem_append_left _ (List.mem_append_right _ h9)))) bad_1 (fun w9 h9 => va_Nw.use (bad_on w9 h9) (hT.2.2.1 w9 h9))) ot_1 hT.1 hT.2.1 hS (hl.1.trans hml.symm) dX9_kind_7 dX9_kind_10 dX9_kind_11 dX9_kind_13 dX9_kind_16 (fun x9 h9 => (hnt x9 h9).elim) (Nat.le_of_ble_eq_true rfl) (Nat.le_of_ble_eq_true rfl) (Nat.le_of_ble_eq_true rfl) (Nat.le_of_ble_eq_true rfl) hlocks (fun t9 h91 h92 h93 => ⟨(), trivial, ⟨by rw [← he]; exact Or.inl ⟨rfl, rfl⟩, by rw [← he]; exact hP.kept (fun k9 q9 hk9 => h93 _ (va_at.lt (hP k9 q9 hk9)))⟩, Nat.le_trans hS.1 h92, fun z9 hz9 hA9 => (h93 z9 (Nat.lt_of_lt_of_le hz9 hS.1)).trans (hS.2.1 z9 hz9 hA9)⟩) hS.2.2 (Nat.le_of_ble_eq_true rfl) (Nat.le_of_ble_eq_true rfl)
set_option maxHeartbeats 4000000 in
set_option maxRecDepth 100000 in
theorem c_X9_consent (l : Launch) (hst : l.stackTraces = false) (dC : Nat → ClassId) (dI : Nat → Nat → Nat) (q : Nat → Nat) (k : Nat → ClassId) (st : St) (a1 : Int32) (a2 : Int32) (a3 : Int32) (a4 : Int32) (hq : ∀ i j, i < 43 → j < 43 → q i = q j → i = j) (hok : okC st) (res : Int32 × Int32 × St) (hres : sp_X9_consent st a1 a2 a3 a4 = res) : vx_Met l yX9_consent wsX9_consent ({ frames := 6, cells := 1, slots := 6, locals := 90 } : Room) (va_Pc [.ref (q 0), .int a1, .int a2, .int a3, .int a4] (fun U => va_P (dC, dI) vwCl (wC q k st) U.heap ∧ KC (dC, dI) k U ∧ TH (aC q) U U.heap)) (va_Qi (fun r (_ : Unit) => res.1 = 0 ∧ r = res.2.1) (fun _ t => va_P (dC, dI) vwCl (wC q k res.2.2) t.heap) (aC q)) (vx_X (fun (_ : Unit) => True) (fun E _ t => xE res.1 E ∧ va_P (dC, dI) vwCl (wC q k res.2.2) t.heap) (aC q)) 1 6 (aC q) := by
  refine vx_ofW (cc := cX9_consent) (maxL := 6) (ret := (some .int)) (by decide) rfl ?_
  intro p e s m args below meth c s₁ B hml hnt hv
  obtain ⟨rfl, hP, hK, hT⟩ := hv
  have hx := B.exec
  have hb := B.bytes
  have hr := B.returns
  have hts := atoms_spec (ws := wsX9_consent) B.pre
  have hown : s.vm.findClass RX9 = some m.cls := findClass_of_methodNamed B.named
  have hlocks := B.notSynchronized
  have hS : va_S (aC q) s.heap s.heap [] := va_S.rf
  have hi9 : ∀ w ∈ wsX90, w ∈ wsX9_consent := by decide +kernel
  have hf10 := hts (.fieldLink RX9 10 "ConsentRegister" "purposes" "LConsentRegister$Purposes;") (by decide +kernel)
  have hf26 := hts (.fieldLink RX9 26 "ConsentRegister" "consents" "LConsentRegister$Consents;") (by decide +kernel)
  have hl := lv_entry ([.ref (q 0), .int a1, .int a2, .int a3, .int a4]) (n := 6) (Nat.le_of_ble_eq_true rfl)
  rw [lg_entry_eq]
  generalize (lg_sl ([.ref (q 0), .int a1, .int a2, .int a3, .int a4]) ++ List.replicate (6 - (lg_sl ([.ref (q 0), .int a1, .int a2, .int a3, .int a4])).length) Slot.unset).toArray = ls at hl ⊢
  have hl : lv_has ls 6 [(0, .ref (q 0)), (1, .int a1), (2, .int a2), (3, .int a3), (4, .int a4)] := hl
  have he := hres
  unfold sp_X9_consent at he
  refine lv_iload_n hx hb dX9_consent_0 rfl (lv_at hl 1 rfl) ?_
  refine vp_callSi (va_Run.run (va_runS (As := [.int a1]) (rest := []) ⟨hx, hb, hml, hown, hts⟩ (c_X9_isPerson l a1 _ rfl) (va_cwS 1 hts gX9_consent_X9_isPerson rfl rfl rfl (by decide +kernel) ⟨Nat.le_of_ble_eq_true rfl, Nat.le_of_ble_eq_true rfl⟩) ⟨fb_T, fun U hU hW => ⟨rfl, trivial⟩⟩ rfl rfl hl.1 rfl (lv_room (Nat.le_of_ble_eq_true rfl)) dX9_consent_1 ⟨Nat.le_of_ble_eq_true rfl, Nat.le_of_ble_eq_true rfl⟩)) (fun r9 e9 => ?_)
  subst e9
  refine lv_if_eq (tgt := 26) hx hb dX9_consent_4 (by decide) (fun h4_1 => ?_) (fun h4_1 => ?_)
  · have he := (if_pos h4_1).symm.trans he
    obtain ⟨sa9, hsa9⟩ := hT.2.2.2 (110, "there is no such person, purpose or minute") (by decide +kernel)
    refine vx_throwS (A := aC q) (own := RX9) (cls := "java/lang/IllegalArgumentException") (text := "there is no such person, purpose or minute") (names := ["java/lang/RuntimeException", "java/lang/Exception"]) hx hb hst hown (by decide +kernel) (by decide +kernel) (hts (.classLink RX9 80 "java/lang/IllegalArgumentException") (by decide +kernel)) (hts (.initialized "java/lang/IllegalArgumentException") (by decide +kernel)) hsa9 (vx_hat (B := badWs) (fun w9 h9 => hts w9 (List.mem_cons_of_mem _ (List.mem_append_left _ (List.mem_append_right _ h9)))) bad_1 (fun w9 h9 => va_Nw.use (bad_on w9 h9) (hT.2.2.1 w9 h9))) ot_1 hT.1 hT.2.1 hS (hl.1.trans hml.symm) dX9_consent_26 dX9_consent_29 dX9_consent_30 dX9_consent_32 dX9_consent_35 (fun x9 h9 => (hnt x9 h9).elim) (Nat.le_of_ble_eq_true rfl) (Nat.le_of_ble_eq_true rfl) (Nat.le_of_ble_eq_true rfl) (Nat.le_of_ble_eq_true rfl) hlocks (fun t9 h91 h92 h93 => ⟨(), trivial, ⟨by rw [← he]; exact Or.inl ⟨rfl, rfl⟩, by rw [← he]; exact hP.kept (fun k9 q9 hk9 => h93 _ (va_at.lt (hP k9 q9 hk9)))⟩, Nat.le_trans hS.1 h92, fun z9 hz9 hA9 => (h93 z9 (Nat.lt_of_lt_of_le hz9 hS.1)).trans (hS.2.1 z9 hz9 hA9)⟩) hS.2.2 (Nat.le_of_ble_eq_true rfl) (Nat.le_of_ble_eq_true rfl)
  · have he := (if_neg h4_1).symm.trans he
    refine lv_aload_n hx hb dX9_consent_7 rfl (lv_at hl 0 rfl) ?_
    refine va_get (D := (dC, dI)) (ci := 9) (v := .ref (q 1)) (C := RX9) (T := TX9) (N := 10) hx hb hts hi9 hown hK.1 hP 0 rfl rfl 0 (by decide) hf10 (fun _ h9 => h9) rfl dX9_consent_8 ?_
    refine lv_iload_n hx hb dX9_consent_11 rfl (lv_at hl 2 rfl) ?_
    refine vp_callSi (va_Run.run (va_runV (As := [.int a2]) (rest := []) ⟨hx, hb, hml, hown, hts⟩ (c_X8_has l dC dI q k st a2 _ rfl) (cwV 1 hts gX9_consent_X8_has rfl rfl rfl (by decide +kernel) ⟨Nat.le_of_ble_eq_true rfl, Nat.le_of_ble_eq_true rfl⟩) ⟨fb_C, va_recv hK.1 hP (ci := 8) (q0 := 1) rfl rfl, fun U hU hW => ⟨rfl, by rw [hU]; exact hP, hK.warm hW⟩⟩ rfl rfl hl.1 rfl (lv_room (Nat.le_of_ble_eq_true rfl)) dX9_consent_12 ⟨Nat.le_of_ble_eq_true rfl, Nat.le_of_ble_eq_true rfl⟩)) (fun r9 e9 => ?_)
    subst e9
    refine lv_if_eq (tgt := 26) hx hb dX9_consent_15 (by decide) (fun h15_2 => ?_) (fun h15_2 => ?_)
    · have he := (if_pos h15_2).symm.trans he
      obtain ⟨sa9, hsa9⟩ := hT.2.2.2 (110, "there is no such person, purpose or minute") (by decide +kernel)
      refine vx_throwS (A := aC q) (own := RX9) (cls := "java/lang/IllegalArgumentException") (text := "there is no such person, purpose or minute") (names := ["java/lang/RuntimeException", "java/lang/Exception"]) hx hb hst hown (by decide +kernel) (by decide +kernel) (hts (.classLink RX9 80 "java/lang/IllegalArgumentException") (by decide +kernel)) (hts (.initialized "java/lang/IllegalArgumentException") (by decide +kernel)) hsa9 (vx_hat (B := badWs) (fun w9 h9 => hts w9 (List.mem_cons_of_mem _ (List.mem_append_left _ (List.mem_append_right _ h9)))) bad_1 (fun w9 h9 => va_Nw.use (bad_on w9 h9) (hT.2.2.1 w9 h9))) ot_1 hT.1 hT.2.1 hS (hl.1.trans hml.symm) dX9_consent_26 dX9_consent_29 dX9_consent_30 dX9_consent_32 dX9_consent_35 (fun x9 h9 => (hnt x9 h9).elim) (Nat.le_of_ble_eq_true rfl) (Nat.le_of_ble_eq_true rfl) (Nat.le_of_ble_eq_true rfl) (Nat.le_of_ble_eq_true rfl) hlocks (fun t9 h91 h92 h93 => ⟨(), trivial, ⟨by rw [← he]; exact Or.inl ⟨rfl, rfl⟩, by rw [← he]; exact hP.kept (fun k9 q9 hk9 => h93 _ (va_at.lt (hP k9 q9 hk9)))⟩, Nat.le_trans hS.1 h92, fun z9 hz9 hA9 => (h93 z9 (Nat.lt_of_lt_of_le hz9 hS.1)).trans (hS.2.1 z9 hz9 hA9)⟩) hS.2.2 (Nat.le_of_ble_eq_true rfl) (Nat.le_of_ble_eq_true rfl)
    · have he := (if_neg h15_2).symm.trans he
      refine lv_iload hx hb dX9_consent_18 (lv_at hl 4 rfl) ?_
      refine vp_callSi (va_Run.run (va_runS (As := [.int a4]) (rest := []) ⟨hx, hb, hml, hown, hts⟩ (c_X9_isMinute l a4 _ rfl) (va_cwS 1 hts gX9_consent_X9_isMinute rfl rfl rfl (by decide +kernel) ⟨Nat.le_of_ble_eq_true rfl, Nat.le_of_ble_eq_true rfl⟩) ⟨fb_T, fun U hU hW => ⟨rfl, trivial⟩⟩ rfl rfl hl.1 rfl (lv_room (Nat.le_of_ble_eq_true rfl)) dX9_consent_20 ⟨Nat.le_of_ble_eq_true rfl, Nat.le_of_ble_eq_true rfl⟩)) (fun r9 e9 => ?_)
      subst e9
      refine lv_if_ne (tgt := 36) hx hb dX9_consent_23 (by decide) (fun h23_3 => ?_) (fun h23_3 => ?_)
      · have he := (if_neg h23_3).symm.trans he
        refine lv_aload_n hx hb dX9_consent_36 rfl (lv_at hl 0 rfl) ?_
        refine va_get (D := (dC, dI)) (ci := 9) (v := .ref (q 3)) (C := RX9) (T := TX9) (N := 10) hx hb hts hi9 hown hK.1 hP 0 rfl rfl 2 (by decide) hf26 (fun _ h9 => h9) rfl dX9_consent_37 ?_
        refine lv_iload_n hx hb dX9_consent_40 rfl (lv_at hl 1 rfl) ?_
        refine lv_iload_n hx hb dX9_consent_41 rfl (lv_at hl 2 rfl) ?_
        refine lv_iload_n hx hb dX9_consent_42 rfl (lv_at hl 3 rfl) ?_
        refine lv_iload hx hb dX9_consent_43 (lv_at hl 4 rfl) ?_
        refine va_calli (va_runV (As := [.int a1, .int a2, .int a3, .int a4]) (rest := []) ⟨hx, hb, hml, hown, hts⟩ (c_X0_add l dC dI q k st a1 a2 a3 a4 hq hok _ rfl) (cwV 4 hts gX9_consent_X0_add rfl rfl rfl (by decide +kernel) ⟨Nat.le_of_ble_eq_true rfl, Nat.le_of_ble_eq_true rfl⟩) ⟨fb_C, va_recv hK.1 hP (ci := 0) (q0 := 3) rfl rfl, fun U hU hW => ⟨rfl, by rw [hU]; exact hP, hK.warm hW⟩⟩ rfl rfl hl.1 rfl (lv_room (Nat.le_of_ble_eq_true rfl)) dX9_consent_45 ⟨Nat.le_of_ble_eq_true rfl, Nat.le_of_ble_eq_true rfl⟩) hS (fun _ _ h => h) (fun _ h => h) (fun r9 u9 t9 H locs ht9 hv9 e9 hB9 hz9 hk9 hS => ?_)
        rw [ht9] at hB9
        subst e9
        have hP : va_P (dC, dI) vwCl (wC q k ((sp_X0_add st a1 a2 a3 a4).2)) H := hB9
        refine lv_istore (lv' := [(5, .int ((sp_X0_add st a1 a2 a3 a4).1)), (0, .ref (q 0)), (1, .int a1), (2, .int a2), (3, .int a3), (4, .int a4)]) hx hb dX9_consent_48 hl (by decide) rfl (fun ls hl => ?_)
        refine lv_iload hx hb dX9_consent_50 (lv_at hl 0 rfl) ?_
        refine lv_if_ge (tgt := 65) hx hb dX9_consent_52 (by decide) (fun h52_4 => ?_) (fun h52_4 => ?_)
        · have he := (if_pos h52_4).symm.trans he
          refine lv_iload hx hb dX9_consent_65 (lv_at hl 0 rfl) ?_
          refine W.widen (k := 1) (n := 6) (by decide) (by decide) ?_
          refine vx_ret ?_
          exact W.iret (v := (sp_X0_add st a1 a2 a3 a4).1) hx hb hr (fun t ht hW => ⟨⟨_, (), rfl, (by rw [← he]; exact ⟨rfl, rfl⟩ : res.1 = 0 ∧ _ = res.2.1), by show va_P _ _ _ t.heap; rw [ht, ← he]; exact hP⟩, hS.F ht⟩) hS.2.2 dX9_consent_67
        · have he := (if_neg h52_4).symm.trans he
          obtain ⟨sa9, hsa9⟩ := hT.2.2.2 (115, "there are 100 entries") (by decide +kernel)
          refine vx_throwS (A := aC q) (own := RX9) (cls := "java/lang/IllegalStateException") (text := "there are 100 entries") (names := ["java/lang/RuntimeException", "java/lang/Exception"]) hx hb hst hown (by decide +kernel) (by decide +kernel) (hts (.classLink RX9 91 "java/lang/IllegalStateException") (by decide +kernel)) (hts (.initialized "java/lang/IllegalStateException") (by decide +kernel)) hsa9 (vx_hat (B := badWs) (fun w9 h9 => hts w9 (List.mem_cons_of_mem _ (List.mem_append_right _ h9))) bad_2 (fun w9 h9 => va_Nw.use (bad_on w9 h9) (hT.2.2.1 w9 h9))) ot_2 hT.1 hT.2.1 hS (hl.1.trans hml.symm) dX9_consent_55 dX9_consent_58 dX9_consent_59 dX9_consent_61 dX9_consent_64 (fun x9 h9 => (hnt x9 h9).elim) (Nat.le_of_ble_eq_true rfl) (Nat.le_of_ble_eq_true rfl) (Nat.le_of_ble_eq_true rfl) (Nat.le_of_ble_eq_true rfl) hlocks (fun t9 h91 h92 h93 => ⟨(), trivial, ⟨by rw [← he]; exact Or.inr (Or.inl ⟨rfl, rfl⟩), by rw [← he]; exact hP.kept (fun k9 q9 hk9 => h93 _ (va_at.lt (hP k9 q9 hk9)))⟩, Nat.le_trans hS.1 h92, fun z9 hz9 hA9 => (h93 z9 (Nat.lt_of_lt_of_le hz9 hS.1)).trans (hS.2.1 z9 hz9 hA9)⟩) hS.2.2 (Nat.le_of_ble_eq_true rfl) (Nat.le_of_ble_eq_true rfl)
      · have he := (if_pos h23_3).symm.trans he
        obtain ⟨sa9, hsa9⟩ := hT.2.2.2 (110, "there is no such person, purpose or minute") (by decide +kernel)
        refine vx_throwS (A := aC q) (own := RX9) (cls := "java/lang/IllegalArgumentException") (text := "there is no such person, purpose or minute") (names := ["java/lang/RuntimeException", "java/lang/Exception"]) hx hb hst hown (by decide +kernel) (by decide +kernel) (hts (.classLink RX9 80 "java/lang/IllegalArgumentException") (by decide +kernel)) (hts (.initialized "java/lang/IllegalArgumentException") (by decide +kernel)) hsa9 (vx_hat (B := badWs) (fun w9 h9 => hts w9 (List.mem_cons_of_mem _ (List.mem_append_left _ (List.mem_append_right _ h9)))) bad_1 (fun w9 h9 => va_Nw.use (bad_on w9 h9) (hT.2.2.1 w9 h9))) ot_1 hT.1 hT.2.1 hS (hl.1.trans hml.symm) dX9_consent_26 dX9_consent_29 dX9_consent_30 dX9_consent_32 dX9_consent_35 (fun x9 h9 => (hnt x9 h9).elim) (Nat.le_of_ble_eq_true rfl) (Nat.le_of_ble_eq_true rfl) (Nat.le_of_ble_eq_true rfl) (Nat.le_of_ble_eq_true rfl) hlocks (fun t9 h91 h92 h93 => ⟨(), trivial, ⟨by rw [← he]; exact Or.inl ⟨rfl, rfl⟩, by rw [← he]; exact hP.kept (fun k9 q9 hk9 => h93 _ (va_at.lt (hP k9 q9 hk9)))⟩, Nat.le_trans hS.1 h92, fun z9 hz9 hA9 => (h93 z9 (Nat.lt_of_lt_of_le hz9 hS.1)).trans (hS.2.1 z9 hz9 hA9)⟩) hS.2.2 (Nat.le_of_ble_eq_true rfl) (Nat.le_of_ble_eq_true rfl)
set_option maxHeartbeats 4000000 in
set_option maxRecDepth 100000 in
theorem c_X9_contract (l : Launch) (hst : l.stackTraces = false) (dC : Nat → ClassId) (dI : Nat → Nat → Nat) (q : Nat → Nat) (k : Nat → ClassId) (st : St) (a1 : Int32) (a2 : Int32) (a3 : Int32) (a4 : Int32) (hq : ∀ i j, i < 43 → j < 43 → q i = q j → i = j) (hok : okC st) (res : Int32 × Int32 × St) (hres : sp_X9_contract st a1 a2 a3 a4 = res) : vx_Met l yX9_contract wsX9_contract ({ frames := 6, cells := 1, slots := 6, locals := 90 } : Room) (va_Pc [.ref (q 0), .int a1, .int a2, .int a3, .int a4] (fun U => va_P (dC, dI) vwCl (wC q k st) U.heap ∧ KC (dC, dI) k U ∧ TH (aC q) U U.heap)) (va_Qi (fun r (_ : Unit) => res.1 = 0 ∧ r = res.2.1) (fun _ t => va_P (dC, dI) vwCl (wC q k res.2.2) t.heap) (aC q)) (vx_X (fun (_ : Unit) => True) (fun E _ t => xE res.1 E ∧ va_P (dC, dI) vwCl (wC q k res.2.2) t.heap) (aC q)) 1 6 (aC q) := by
  refine vx_ofW (cc := cX9_contract) (maxL := 6) (ret := (some .int)) (by decide) rfl ?_
  intro p e s m args below meth c s₁ B hml hnt hv
  obtain ⟨rfl, hP, hK, hT⟩ := hv
  have hx := B.exec
  have hb := B.bytes
  have hr := B.returns
  have hts := atoms_spec (ws := wsX9_contract) B.pre
  have hown : s.vm.findClass RX9 = some m.cls := findClass_of_methodNamed B.named
  have hlocks := B.notSynchronized
  have hS : va_S (aC q) s.heap s.heap [] := va_S.rf
  have hi9 : ∀ w ∈ wsX90, w ∈ wsX9_contract := by decide +kernel
  have hf10 := hts (.fieldLink RX9 10 "ConsentRegister" "purposes" "LConsentRegister$Purposes;") (by decide +kernel)
  have hf33 := hts (.fieldLink RX9 33 "ConsentRegister" "contracts" "LConsentRegister$Contracts;") (by decide +kernel)
  have hl := lv_entry ([.ref (q 0), .int a1, .int a2, .int a3, .int a4]) (n := 6) (Nat.le_of_ble_eq_true rfl)
  rw [lg_entry_eq]
  generalize (lg_sl ([.ref (q 0), .int a1, .int a2, .int a3, .int a4]) ++ List.replicate (6 - (lg_sl ([.ref (q 0), .int a1, .int a2, .int a3, .int a4])).length) Slot.unset).toArray = ls at hl ⊢
  have hl : lv_has ls 6 [(0, .ref (q 0)), (1, .int a1), (2, .int a2), (3, .int a3), (4, .int a4)] := hl
  have he := hres
  unfold sp_X9_contract at he
  refine lv_iload_n hx hb dX9_contract_0 rfl (lv_at hl 1 rfl) ?_
  refine vp_callSi (va_Run.run (va_runS (As := [.int a1]) (rest := []) ⟨hx, hb, hml, hown, hts⟩ (c_X9_isPerson l a1 _ rfl) (va_cwS 1 hts gX9_contract_X9_isPerson rfl rfl rfl (by decide +kernel) ⟨Nat.le_of_ble_eq_true rfl, Nat.le_of_ble_eq_true rfl⟩) ⟨fb_T, fun U hU hW => ⟨rfl, trivial⟩⟩ rfl rfl hl.1 rfl (lv_room (Nat.le_of_ble_eq_true rfl)) dX9_contract_1 ⟨Nat.le_of_ble_eq_true rfl, Nat.le_of_ble_eq_true rfl⟩)) (fun r9 e9 => ?_)
  subst e9
  refine lv_if_eq (tgt := 18) hx hb dX9_contract_4 (by decide) (fun h4_1 => ?_) (fun h4_1 => ?_)
  · have he := (if_pos h4_1).symm.trans he
    obtain ⟨sa9, hsa9⟩ := hT.2.2.2 (117, "there is no such person or purpose") (by decide +kernel)
    refine vx_throwS (A := aC q) (own := RX9) (cls := "java/lang/IllegalArgumentException") (text := "there is no such person or purpose") (names := ["java/lang/RuntimeException", "java/lang/Exception"]) hx hb hst hown (by decide +kernel) (by decide +kernel) (hts (.classLink RX9 80 "java/lang/IllegalArgumentException") (by decide +kernel)) (hts (.initialized "java/lang/IllegalArgumentException") (by decide +kernel)) hsa9 (vx_hat (B := badWs) (fun w9 h9 => hts w9 (List.mem_cons_of_mem _ (List.mem_append_left _ (List.mem_append_right _ h9)))) bad_1 (fun w9 h9 => va_Nw.use (bad_on w9 h9) (hT.2.2.1 w9 h9))) ot_1 hT.1 hT.2.1 hS (hl.1.trans hml.symm) dX9_contract_18 dX9_contract_21 dX9_contract_22 dX9_contract_24 dX9_contract_27 (fun x9 h9 => (hnt x9 h9).elim) (Nat.le_of_ble_eq_true rfl) (Nat.le_of_ble_eq_true rfl) (Nat.le_of_ble_eq_true rfl) (Nat.le_of_ble_eq_true rfl) hlocks (fun t9 h91 h92 h93 => ⟨(), trivial, ⟨by rw [← he]; exact Or.inl ⟨rfl, rfl⟩, by rw [← he]; exact hP.kept (fun k9 q9 hk9 => h93 _ (va_at.lt (hP k9 q9 hk9)))⟩, Nat.le_trans hS.1 h92, fun z9 hz9 hA9 => (h93 z9 (Nat.lt_of_lt_of_le hz9 hS.1)).trans (hS.2.1 z9 hz9 hA9)⟩) hS.2.2 (Nat.le_of_ble_eq_true rfl) (Nat.le_of_ble_eq_true rfl)
  · have he := (if_neg h4_1).symm.trans he
    refine lv_aload_n hx hb dX9_contract_7 rfl (lv_at hl 0 rfl) ?_
    refine va_get (D := (dC, dI)) (ci := 9) (v := .ref (q 1)) (C := RX9) (T := TX9) (N := 10) hx hb hts hi9 hown hK.1 hP 0 rfl rfl 0 (by decide) hf10 (fun _ h9 => h9) rfl dX9_contract_8 ?_
    refine lv_iload_n hx hb dX9_contract_11 rfl (lv_at hl 2 rfl) ?_
    refine vp_callSi (va_Run.run (va_runV (As := [.int a2]) (rest := []) ⟨hx, hb, hml, hown, hts⟩ (c_X8_has l dC dI q k st a2 _ rfl) (cwV 1 hts gX9_contract_X8_has rfl rfl rfl (by decide +kernel) ⟨Nat.le_of_ble_eq_true rfl, Nat.le_of_ble_eq_true rfl⟩) ⟨fb_C, va_recv hK.1 hP (ci := 8) (q0 := 1) rfl rfl, fun U hU hW => ⟨rfl, by rw [hU]; exact hP, hK.warm hW⟩⟩ rfl rfl hl.1 rfl (lv_room (Nat.le_of_ble_eq_true rfl)) dX9_contract_12 ⟨Nat.le_of_ble_eq_true rfl, Nat.le_of_ble_eq_true rfl⟩)) (fun r9 e9 => ?_)
    subst e9
    refine lv_if_ne (tgt := 28) hx hb dX9_contract_15 (by decide) (fun h15_2 => ?_) (fun h15_2 => ?_)
    · have he := (if_neg h15_2).symm.trans he
      refine lv_iload_n hx hb dX9_contract_28 rfl (lv_at hl 3 rfl) ?_
      refine vp_callSi (va_Run.run (va_runS (As := [.int a3]) (rest := []) ⟨hx, hb, hml, hown, hts⟩ (c_X9_isMinute l a3 _ rfl) (va_cwS 1 hts gX9_contract_X9_isMinute rfl rfl rfl (by decide +kernel) ⟨Nat.le_of_ble_eq_true rfl, Nat.le_of_ble_eq_true rfl⟩) ⟨fb_T, fun U hU hW => ⟨rfl, trivial⟩⟩ rfl rfl hl.1 rfl (lv_room (Nat.le_of_ble_eq_true rfl)) dX9_contract_29 ⟨Nat.le_of_ble_eq_true rfl, Nat.le_of_ble_eq_true rfl⟩)) (fun r9 e9 => ?_)
      subst e9
      refine lv_if_eq (tgt := 49) hx hb dX9_contract_32 (by decide) (fun h32_3 => ?_) (fun h32_3 => ?_)
      · have he := (if_pos h32_3).symm.trans he
        obtain ⟨sa9, hsa9⟩ := hT.2.2.2 (119, "these minutes are no span") (by decide +kernel)
        refine vx_throwS (A := aC q) (own := RX9) (cls := "java/lang/IllegalArgumentException") (text := "these minutes are no span") (names := ["java/lang/RuntimeException", "java/lang/Exception"]) hx hb hst hown (by decide +kernel) (by decide +kernel) (hts (.classLink RX9 80 "java/lang/IllegalArgumentException") (by decide +kernel)) (hts (.initialized "java/lang/IllegalArgumentException") (by decide +kernel)) hsa9 (vx_hat (B := badWs) (fun w9 h9 => hts w9 (List.mem_cons_of_mem _ (List.mem_append_left _ (List.mem_append_right _ h9)))) bad_1 (fun w9 h9 => va_Nw.use (bad_on w9 h9) (hT.2.2.1 w9 h9))) ot_1 hT.1 hT.2.1 hS (hl.1.trans hml.symm) dX9_contract_49 dX9_contract_52 dX9_contract_53 dX9_contract_55 dX9_contract_58 (fun x9 h9 => (hnt x9 h9).elim) (Nat.le_of_ble_eq_true rfl) (Nat.le_of_ble_eq_true rfl) (Nat.le_of_ble_eq_true rfl) (Nat.le_of_ble_eq_true rfl) hlocks (fun t9 h91 h92 h93 => ⟨(), trivial, ⟨by rw [← he]; exact Or.inl ⟨rfl, rfl⟩, by rw [← he]; exact hP.kept (fun k9 q9 hk9 => h93 _ (va_at.lt (hP k9 q9 hk9)))⟩, Nat.le_trans hS.1 h92, fun z9 hz9 hA9 => (h93 z9 (Nat.lt_of_lt_of_le hz9 hS.1)).trans (hS.2.1 z9 hz9 hA9)⟩) hS.2.2 (Nat.le_of_ble_eq_true rfl) (Nat.le_of_ble_eq_true rfl)
      · have he := (if_neg h32_3).symm.trans he
        refine lv_iload hx hb dX9_contract_35 (lv_at hl 4 rfl) ?_
        refine vp_callSi (va_Run.run (va_runS (As := [.int a4]) (rest := []) ⟨hx, hb, hml, hown, hts⟩ (c_X9_isMinute l a4 _ rfl) (va_cwS 1 hts gX9_contract_X9_isMinute rfl rfl rfl (by decide +kernel) ⟨Nat.le_of_ble_eq_true rfl, Nat.le_of_ble_eq_true rfl⟩) ⟨fb_T, fun U hU hW => ⟨rfl, trivial⟩⟩ rfl rfl hl.1 rfl (lv_room (Nat.le_of_ble_eq_true rfl)) dX9_contract_37 ⟨Nat.le_of_ble_eq_true rfl, Nat.le_of_ble_eq_true rfl⟩)) (fun r9 e9 => ?_)
        subst e9
        refine lv_if_eq (tgt := 49) hx hb dX9_contract_40 (by decide) (fun h40_4 => ?_) (fun h40_4 => ?_)
        · have he := (if_pos h40_4).symm.trans he
          obtain ⟨sa9, hsa9⟩ := hT.2.2.2 (119, "these minutes are no span") (by decide +kernel)
          refine vx_throwS (A := aC q) (own := RX9) (cls := "java/lang/IllegalArgumentException") (text := "these minutes are no span") (names := ["java/lang/RuntimeException", "java/lang/Exception"]) hx hb hst hown (by decide +kernel) (by decide +kernel) (hts (.classLink RX9 80 "java/lang/IllegalArgumentException") (by decide +kernel)) (hts (.initialized "java/lang/IllegalArgumentException") (by decide +kernel)) hsa9 (vx_hat (B := badWs) (fun w9 h9 => hts w9 (List.mem_cons_of_mem _ (List.mem_append_left _ (List.mem_append_right _ h9)))) bad_1 (fun w9 h9 => va_Nw.use (bad_on w9 h9) (hT.2.2.1 w9 h9))) ot_1 hT.1 hT.2.1 hS (hl.1.trans hml.symm) dX9_contract_49 dX9_contract_52 dX9_contract_53 dX9_contract_55 dX9_contract_58 (fun x9 h9 => (hnt x9 h9).elim) (Nat.le_of_ble_eq_true rfl) (Nat.le_of_ble_eq_true rfl) (Nat.le_of_ble_eq_true rfl) (Nat.le_of_ble_eq_true rfl) hlocks (fun t9 h91 h92 h93 => ⟨(), trivial, ⟨by rw [← he]; exact Or.inl ⟨rfl, rfl⟩, by rw [← he]; exact hP.kept (fun k9 q9 hk9 => h93 _ (va_at.lt (hP k9 q9 hk9)))⟩, Nat.le_trans hS.1 h92, fun z9 hz9 hA9 => (h93 z9 (Nat.lt_of_lt_of_le hz9 hS.1)).trans (hS.2.1 z9 hz9 hA9)⟩) hS.2.2 (Nat.le_of_ble_eq_true rfl) (Nat.le_of_ble_eq_true rfl)
        · have he := (if_neg h40_4).symm.trans he
          refine lv_iload_n hx hb dX9_contract_43 rfl (lv_at hl 3 rfl) ?_
          refine lv_iload hx hb dX9_contract_44 (lv_at hl 4 rfl) ?_
          refine lv_icmp_le (tgt := 59) hx hb dX9_contract_46 (by decide) (fun h46_5 => ?_) (fun h46_5 => ?_)
          · have he := (if_pos h46_5).symm.trans he
            refine lv_aload_n hx hb dX9_contract_59 rfl (lv_at hl 0 rfl) ?_
            refine va_get (D := (dC, dI)) (ci := 9) (v := .ref (q 4)) (C := RX9) (T := TX9) (N := 10) hx hb hts hi9 hown hK.1 hP 0 rfl rfl 3 (by decide) hf33 (fun _ h9 => h9) rfl dX9_contract_60 ?_
            refine lv_iload_n hx hb dX9_contract_63 rfl (lv_at hl 1 rfl) ?_
            refine lv_iload_n hx hb dX9_contract_64 rfl (lv_at hl 2 rfl) ?_
            refine lv_iload_n hx hb dX9_contract_65 rfl (lv_at hl 3 rfl) ?_
            refine lv_iload hx hb dX9_contract_66 (lv_at hl 4 rfl) ?_
            refine va_calli (va_runV (As := [.int a1, .int a2, .int a3, .int a4]) (rest := []) ⟨hx, hb, hml, hown, hts⟩ (c_X1_add l dC dI q k st a1 a2 a3 a4 hq hok _ rfl) (cwV 4 hts gX9_contract_X1_add rfl rfl rfl (by decide +kernel) ⟨Nat.le_of_ble_eq_true rfl, Nat.le_of_ble_eq_true rfl⟩) ⟨fb_C, va_recv hK.1 hP (ci := 1) (q0 := 4) rfl rfl, fun U hU hW => ⟨rfl, by rw [hU]; exact hP, hK.warm hW⟩⟩ rfl rfl hl.1 rfl (lv_room (Nat.le_of_ble_eq_true rfl)) dX9_contract_68 ⟨Nat.le_of_ble_eq_true rfl, Nat.le_of_ble_eq_true rfl⟩) hS (fun _ _ h => h) (fun _ h => h) (fun r9 u9 t9 H locs ht9 hv9 e9 hB9 hz9 hk9 hS => ?_)
            rw [ht9] at hB9
            subst e9
            have hP : va_P (dC, dI) vwCl (wC q k ((sp_X1_add st a1 a2 a3 a4).2)) H := hB9
            refine lv_istore (lv' := [(5, .int ((sp_X1_add st a1 a2 a3 a4).1)), (0, .ref (q 0)), (1, .int a1), (2, .int a2), (3, .int a3), (4, .int a4)]) hx hb dX9_contract_71 hl (by decide) rfl (fun ls hl => ?_)
            refine lv_iload hx hb dX9_contract_73 (lv_at hl 0 rfl) ?_
            refine lv_if_ge (tgt := 88) hx hb dX9_contract_75 (by decide) (fun h75_6 => ?_) (fun h75_6 => ?_)
            · have he := (if_pos h75_6).symm.trans he
              refine lv_iload hx hb dX9_contract_88 (lv_at hl 0 rfl) ?_
              refine W.widen (k := 1) (n := 6) (by decide) (by decide) ?_
              refine vx_ret ?_
              exact W.iret (v := (sp_X1_add st a1 a2 a3 a4).1) hx hb hr (fun t ht hW => ⟨⟨_, (), rfl, (by rw [← he]; exact ⟨rfl, rfl⟩ : res.1 = 0 ∧ _ = res.2.1), by show va_P _ _ _ t.heap; rw [ht, ← he]; exact hP⟩, hS.F ht⟩) hS.2.2 dX9_contract_90
            · have he := (if_neg h75_6).symm.trans he
              obtain ⟨sa9, hsa9⟩ := hT.2.2.2 (124, "there are 40 spans") (by decide +kernel)
              refine vx_throwS (A := aC q) (own := RX9) (cls := "java/lang/IllegalStateException") (text := "there are 40 spans") (names := ["java/lang/RuntimeException", "java/lang/Exception"]) hx hb hst hown (by decide +kernel) (by decide +kernel) (hts (.classLink RX9 91 "java/lang/IllegalStateException") (by decide +kernel)) (hts (.initialized "java/lang/IllegalStateException") (by decide +kernel)) hsa9 (vx_hat (B := badWs) (fun w9 h9 => hts w9 (List.mem_cons_of_mem _ (List.mem_append_right _ h9))) bad_2 (fun w9 h9 => va_Nw.use (bad_on w9 h9) (hT.2.2.1 w9 h9))) ot_2 hT.1 hT.2.1 hS (hl.1.trans hml.symm) dX9_contract_78 dX9_contract_81 dX9_contract_82 dX9_contract_84 dX9_contract_87 (fun x9 h9 => (hnt x9 h9).elim) (Nat.le_of_ble_eq_true rfl) (Nat.le_of_ble_eq_true rfl) (Nat.le_of_ble_eq_true rfl) (Nat.le_of_ble_eq_true rfl) hlocks (fun t9 h91 h92 h93 => ⟨(), trivial, ⟨by rw [← he]; exact Or.inr (Or.inl ⟨rfl, rfl⟩), by rw [← he]; exact hP.kept (fun k9 q9 hk9 => h93 _ (va_at.lt (hP k9 q9 hk9)))⟩, Nat.le_trans hS.1 h92, fun z9 hz9 hA9 => (h93 z9 (Nat.lt_of_lt_of_le hz9 hS.1)).trans (hS.2.1 z9 hz9 hA9)⟩) hS.2.2 (Nat.le_of_ble_eq_true rfl) (Nat.le_of_ble_eq_true rfl)
          · have he := (if_neg h46_5).symm.trans he
            obtain ⟨sa9, hsa9⟩ := hT.2.2.2 (119, "these minutes are no span") (by decide +kernel)
            refine vx_throwS (A := aC q) (own := RX9) (cls := "java/lang/IllegalArgumentException") (text := "these minutes are no span") (names := ["java/lang/RuntimeException", "java/lang/Exception"]) hx hb hst hown (by decide +kernel) (by decide +kernel) (hts (.classLink RX9 80 "java/lang/IllegalArgumentException") (by decide +kernel)) (hts (.initialized "java/lang/IllegalArgumentException") (by decide +kernel)) hsa9 (vx_hat (B := badWs) (fun w9 h9 => hts w9 (List.mem_cons_of_mem _ (List.mem_append_left _ (List.mem_append_right _ h9)))) bad_1 (fun w9 h9 => va_Nw.use (bad_on w9 h9) (hT.2.2.1 w9 h9))) ot_1 hT.1 hT.2.1 hS (hl.1.trans hml.symm) dX9_contract_49 dX9_contract_52 dX9_contract_53 dX9_contract_55 dX9_contract_58 (fun x9 h9 => (hnt x9 h9).elim) (Nat.le_of_ble_eq_true rfl) (Nat.le_of_ble_eq_true rfl) (Nat.le_of_ble_eq_true rfl) (Nat.le_of_ble_eq_true rfl) hlocks (fun t9 h91 h92 h93 => ⟨(), trivial, ⟨by rw [← he]; exact Or.inl ⟨rfl, rfl⟩, by rw [← he]; exact hP.kept (fun k9 q9 hk9 => h93 _ (va_at.lt (hP k9 q9 hk9)))⟩, Nat.le_trans hS.1 h92, fun z9 hz9 hA9 => (h93 z9 (Nat.lt_of_lt_of_le hz9 hS.1)).trans (hS.2.1 z9 hz9 hA9)⟩) hS.2.2 (Nat.le_of_ble_eq_true rfl) (Nat.le_of_ble_eq_true rfl)
    · have he := (if_pos h15_2).symm.trans he
      obtain ⟨sa9, hsa9⟩ := hT.2.2.2 (117, "there is no such person or purpose") (by decide +kernel)
      refine vx_throwS (A := aC q) (own := RX9) (cls := "java/lang/IllegalArgumentException") (text := "there is no such person or purpose") (names := ["java/lang/RuntimeException", "java/lang/Exception"]) hx hb hst hown (by decide +kernel) (by decide +kernel) (hts (.classLink RX9 80 "java/lang/IllegalArgumentException") (by decide +kernel)) (hts (.initialized "java/lang/IllegalArgumentException") (by decide +kernel)) hsa9 (vx_hat (B := badWs) (fun w9 h9 => hts w9 (List.mem_cons_of_mem _ (List.mem_append_left _ (List.mem_append_right _ h9)))) bad_1 (fun w9 h9 => va_Nw.use (bad_on w9 h9) (hT.2.2.1 w9 h9))) ot_1 hT.1 hT.2.1 hS (hl.1.trans hml.symm) dX9_contract_18 dX9_contract_21 dX9_contract_22 dX9_contract_24 dX9_contract_27 (fun x9 h9 => (hnt x9 h9).elim) (Nat.le_of_ble_eq_true rfl) (Nat.le_of_ble_eq_true rfl) (Nat.le_of_ble_eq_true rfl) (Nat.le_of_ble_eq_true rfl) hlocks (fun t9 h91 h92 h93 => ⟨(), trivial, ⟨by rw [← he]; exact Or.inl ⟨rfl, rfl⟩, by rw [← he]; exact hP.kept (fun k9 q9 hk9 => h93 _ (va_at.lt (hP k9 q9 hk9)))⟩, Nat.le_trans hS.1 h92, fun z9 hz9 hA9 => (h93 z9 (Nat.lt_of_lt_of_le hz9 hS.1)).trans (hS.2.1 z9 hz9 hA9)⟩) hS.2.2 (Nat.le_of_ble_eq_true rfl) (Nat.le_of_ble_eq_true rfl)
set_option maxHeartbeats 4000000 in
set_option maxRecDepth 100000 in
theorem c_X9_duty (l : Launch) (hst : l.stackTraces = false) (dC : Nat → ClassId) (dI : Nat → Nat → Nat) (q : Nat → Nat) (k : Nat → ClassId) (st : St) (a1 : Int32) (a2 : Int32) (a3 : Int32) (hq : ∀ i j, i < 43 → j < 43 → q i = q j → i = j) (hok : okC st) (res : Int32 × Int32 × St) (hres : sp_X9_duty st a1 a2 a3 = res) : vx_Met l yX9_duty wsX9_duty ({ frames := 6, cells := 1, slots := 6, locals := 90 } : Room) (va_Pc [.ref (q 0), .int a1, .int a2, .int a3] (fun U => va_P (dC, dI) vwCl (wC q k st) U.heap ∧ KC (dC, dI) k U ∧ TH (aC q) U U.heap)) (va_Qi (fun r (_ : Unit) => res.1 = 0 ∧ r = res.2.1) (fun _ t => va_P (dC, dI) vwCl (wC q k res.2.2) t.heap) (aC q)) (vx_X (fun (_ : Unit) => True) (fun E _ t => xE res.1 E ∧ va_P (dC, dI) vwCl (wC q k res.2.2) t.heap) (aC q)) 1 6 (aC q) := by
  refine vx_ofW (cc := cX9_duty) (maxL := 5) (ret := (some .int)) (by decide) rfl ?_
  intro p e s m args below meth c s₁ B hml hnt hv
  obtain ⟨rfl, hP, hK, hT⟩ := hv
  have hx := B.exec
  have hb := B.bytes
  have hr := B.returns
  have hts := atoms_spec (ws := wsX9_duty) B.pre
  have hown : s.vm.findClass RX9 = some m.cls := findClass_of_methodNamed B.named
  have hlocks := B.notSynchronized
  have hS : va_S (aC q) s.heap s.heap [] := va_S.rf
  have hi9 : ∀ w ∈ wsX90, w ∈ wsX9_duty := by decide +kernel
  have hf10 := hts (.fieldLink RX9 10 "ConsentRegister" "purposes" "LConsentRegister$Purposes;") (by decide +kernel)
  have hf19 := hts (.fieldLink RX9 19 "ConsentRegister" "kinds" "LConsentRegister$Kinds;") (by decide +kernel)
  have hf40 := hts (.fieldLink RX9 40 "ConsentRegister" "duties" "LConsentRegister$Duties;") (by decide +kernel)
  have hl := lv_entry ([.ref (q 0), .int a1, .int a2, .int a3]) (n := 5) (Nat.le_of_ble_eq_true rfl)
  rw [lg_entry_eq]
  generalize (lg_sl ([.ref (q 0), .int a1, .int a2, .int a3]) ++ List.replicate (5 - (lg_sl ([.ref (q 0), .int a1, .int a2, .int a3])).length) Slot.unset).toArray = ls at hl ⊢
  have hl : lv_has ls 5 [(0, .ref (q 0)), (1, .int a1), (2, .int a2), (3, .int a3)] := hl
  have he := hres
  unfold sp_X9_duty at he
  refine lv_aload_n hx hb dX9_duty_0 rfl (lv_at hl 0 rfl) ?_
  refine va_get (D := (dC, dI)) (ci := 9) (v := .ref (q 2)) (C := RX9) (T := TX9) (N := 10) hx hb hts hi9 hown hK.1 hP 0 rfl rfl 1 (by decide) hf19 (fun _ h9 => h9) rfl dX9_duty_1 ?_
  refine lv_iload_n hx hb dX9_duty_4 rfl (lv_at hl 1 rfl) ?_
  refine vp_callSi (va_Run.run (va_runV (As := [.int a1]) (rest := []) ⟨hx, hb, hml, hown, hts⟩ (c_X6_has l dC dI q k st a1 _ rfl) (cwV 1 hts gX9_duty_X6_has rfl rfl rfl (by decide +kernel) ⟨Nat.le_of_ble_eq_true rfl, Nat.le_of_ble_eq_true rfl⟩) ⟨fb_C, va_recv hK.1 hP (ci := 6) (q0 := 2) rfl rfl, fun U hU hW => ⟨rfl, by rw [hU]; exact hP, hK.warm hW⟩⟩ rfl rfl hl.1 rfl (lv_room (Nat.le_of_ble_eq_true rfl)) dX9_duty_5 ⟨Nat.le_of_ble_eq_true rfl, Nat.le_of_ble_eq_true rfl⟩)) (fun r9 e9 => ?_)
  subst e9
  refine lv_if_eq (tgt := 29) hx hb dX9_duty_8 (by decide) (fun h8_1 => ?_) (fun h8_1 => ?_)
  · have he := (if_pos h8_1).symm.trans he
    obtain ⟨sa9, hsa9⟩ := hT.2.2.2 (127, "there is no such kind, purpose or number of days") (by decide +kernel)
    refine vx_throwS (A := aC q) (own := RX9) (cls := "java/lang/IllegalArgumentException") (text := "there is no such kind, purpose or number of days") (names := ["java/lang/RuntimeException", "java/lang/Exception"]) hx hb hst hown (by decide +kernel) (by decide +kernel) (hts (.classLink RX9 80 "java/lang/IllegalArgumentException") (by decide +kernel)) (hts (.initialized "java/lang/IllegalArgumentException") (by decide +kernel)) hsa9 (vx_hat (B := badWs) (fun w9 h9 => hts w9 (List.mem_cons_of_mem _ (List.mem_append_left _ (List.mem_append_right _ h9)))) bad_1 (fun w9 h9 => va_Nw.use (bad_on w9 h9) (hT.2.2.1 w9 h9))) ot_1 hT.1 hT.2.1 hS (hl.1.trans hml.symm) dX9_duty_29 dX9_duty_32 dX9_duty_33 dX9_duty_35 dX9_duty_38 (fun x9 h9 => (hnt x9 h9).elim) (Nat.le_of_ble_eq_true rfl) (Nat.le_of_ble_eq_true rfl) (Nat.le_of_ble_eq_true rfl) (Nat.le_of_ble_eq_true rfl) hlocks (fun t9 h91 h92 h93 => ⟨(), trivial, ⟨by rw [← he]; exact Or.inl ⟨rfl, rfl⟩, by rw [← he]; exact hP.kept (fun k9 q9 hk9 => h93 _ (va_at.lt (hP k9 q9 hk9)))⟩, Nat.le_trans hS.1 h92, fun z9 hz9 hA9 => (h93 z9 (Nat.lt_of_lt_of_le hz9 hS.1)).trans (hS.2.1 z9 hz9 hA9)⟩) hS.2.2 (Nat.le_of_ble_eq_true rfl) (Nat.le_of_ble_eq_true rfl)
  · have he := (if_neg h8_1).symm.trans he
    refine lv_aload_n hx hb dX9_duty_11 rfl (lv_at hl 0 rfl) ?_
    refine va_get (D := (dC, dI)) (ci := 9) (v := .ref (q 1)) (C := RX9) (T := TX9) (N := 10) hx hb hts hi9 hown hK.1 hP 0 rfl rfl 0 (by decide) hf10 (fun _ h9 => h9) rfl dX9_duty_12 ?_
    refine lv_iload_n hx hb dX9_duty_15 rfl (lv_at hl 2 rfl) ?_
    refine vp_callSi (va_Run.run (va_runV (As := [.int a2]) (rest := []) ⟨hx, hb, hml, hown, hts⟩ (c_X8_has l dC dI q k st a2 _ rfl) (cwV 1 hts gX9_duty_X8_has rfl rfl rfl (by decide +kernel) ⟨Nat.le_of_ble_eq_true rfl, Nat.le_of_ble_eq_true rfl⟩) ⟨fb_C, va_recv hK.1 hP (ci := 8) (q0 := 1) rfl rfl, fun U hU hW => ⟨rfl, by rw [hU]; exact hP, hK.warm hW⟩⟩ rfl rfl hl.1 rfl (lv_room (Nat.le_of_ble_eq_true rfl)) dX9_duty_16 ⟨Nat.le_of_ble_eq_true rfl, Nat.le_of_ble_eq_true rfl⟩)) (fun r9 e9 => ?_)
    subst e9
    refine lv_if_eq (tgt := 29) hx hb dX9_duty_19 (by decide) (fun h19_2 => ?_) (fun h19_2 => ?_)
    · have he := (if_pos h19_2).symm.trans he
      obtain ⟨sa9, hsa9⟩ := hT.2.2.2 (127, "there is no such kind, purpose or number of days") (by decide +kernel)
      refine vx_throwS (A := aC q) (own := RX9) (cls := "java/lang/IllegalArgumentException") (text := "there is no such kind, purpose or number of days") (names := ["java/lang/RuntimeException", "java/lang/Exception"]) hx hb hst hown (by decide +kernel) (by decide +kernel) (hts (.classLink RX9 80 "java/lang/IllegalArgumentException") (by decide +kernel)) (hts (.initialized "java/lang/IllegalArgumentException") (by decide +kernel)) hsa9 (vx_hat (B := badWs) (fun w9 h9 => hts w9 (List.mem_cons_of_mem _ (List.mem_append_left _ (List.mem_append_right _ h9)))) bad_1 (fun w9 h9 => va_Nw.use (bad_on w9 h9) (hT.2.2.1 w9 h9))) ot_1 hT.1 hT.2.1 hS (hl.1.trans hml.symm) dX9_duty_29 dX9_duty_32 dX9_duty_33 dX9_duty_35 dX9_duty_38 (fun x9 h9 => (hnt x9 h9).elim) (Nat.le_of_ble_eq_true rfl) (Nat.le_of_ble_eq_true rfl) (Nat.le_of_ble_eq_true rfl) (Nat.le_of_ble_eq_true rfl) hlocks (fun t9 h91 h92 h93 => ⟨(), trivial, ⟨by rw [← he]; exact Or.inl ⟨rfl, rfl⟩, by rw [← he]; exact hP.kept (fun k9 q9 hk9 => h93 _ (va_at.lt (hP k9 q9 hk9)))⟩, Nat.le_trans hS.1 h92, fun z9 hz9 hA9 => (h93 z9 (Nat.lt_of_lt_of_le hz9 hS.1)).trans (hS.2.1 z9 hz9 hA9)⟩) hS.2.2 (Nat.le_of_ble_eq_true rfl) (Nat.le_of_ble_eq_true rfl)
    · have he := (if_neg h19_2).symm.trans he
      refine lv_iload_n hx hb dX9_duty_22 rfl (lv_at hl 3 rfl) ?_
      refine vp_callSi (va_Run.run (va_runS (As := [.int a3]) (rest := []) ⟨hx, hb, hml, hown, hts⟩ (c_X9_isSpanOfDays l a3 _ rfl) (va_cwS 1 hts gX9_duty_X9_isSpanOfDays rfl rfl rfl (by decide +kernel) ⟨Nat.le_of_ble_eq_true rfl, Nat.le_of_ble_eq_true rfl⟩) ⟨fb_T, fun U hU hW => ⟨rfl, trivial⟩⟩ rfl rfl hl.1 rfl (lv_room (Nat.le_of_ble_eq_true rfl)) dX9_duty_23 ⟨Nat.le_of_ble_eq_true rfl, Nat.le_of_ble_eq_true rfl⟩)) (fun r9 e9 => ?_)
      subst e9
      refine lv_if_ne (tgt := 39) hx hb dX9_duty_26 (by decide) (fun h26_3 => ?_) (fun h26_3 => ?_)
      · have he := (if_neg h26_3).symm.trans he
        refine lv_aload_n hx hb dX9_duty_39 rfl (lv_at hl 0 rfl) ?_
        refine va_get (D := (dC, dI)) (ci := 9) (v := .ref (q 5)) (C := RX9) (T := TX9) (N := 10) hx hb hts hi9 hown hK.1 hP 0 rfl rfl 4 (by decide) hf40 (fun _ h9 => h9) rfl dX9_duty_40 ?_
        refine lv_iload_n hx hb dX9_duty_43 rfl (lv_at hl 1 rfl) ?_
        refine lv_iload_n hx hb dX9_duty_44 rfl (lv_at hl 2 rfl) ?_
        refine lv_iload_n hx hb dX9_duty_45 rfl (lv_at hl 3 rfl) ?_
        refine va_calli (va_runV (As := [.int a1, .int a2, .int a3]) (rest := []) ⟨hx, hb, hml, hown, hts⟩ (c_X2_add l dC dI q k st a1 a2 a3 hq hok _ rfl) (cwV 3 hts gX9_duty_X2_add rfl rfl rfl (by decide +kernel) ⟨Nat.le_of_ble_eq_true rfl, Nat.le_of_ble_eq_true rfl⟩) ⟨fb_C, va_recv hK.1 hP (ci := 2) (q0 := 5) rfl rfl, fun U hU hW => ⟨rfl, by rw [hU]; exact hP, hK.warm hW⟩⟩ rfl rfl hl.1 rfl (lv_room (Nat.le_of_ble_eq_true rfl)) dX9_duty_46 ⟨Nat.le_of_ble_eq_true rfl, Nat.le_of_ble_eq_true rfl⟩) hS (fun _ _ h => h) (fun _ h => h) (fun r9 u9 t9 H locs ht9 hv9 e9 hB9 hz9 hk9 hS => ?_)
        rw [ht9] at hB9
        subst e9
        have hP : va_P (dC, dI) vwCl (wC q k ((sp_X2_add st a1 a2 a3).2)) H := hB9
        refine lv_istore (lv' := [(4, .int ((sp_X2_add st a1 a2 a3).1)), (0, .ref (q 0)), (1, .int a1), (2, .int a2), (3, .int a3)]) hx hb dX9_duty_49 hl (by decide) rfl (fun ls hl => ?_)
        refine lv_iload hx hb dX9_duty_51 (lv_at hl 0 rfl) ?_
        refine lv_if_ge (tgt := 66) hx hb dX9_duty_53 (by decide) (fun h53_4 => ?_) (fun h53_4 => ?_)
        · have he := (if_pos h53_4).symm.trans he
          refine lv_iload hx hb dX9_duty_66 (lv_at hl 0 rfl) ?_
          refine W.widen (k := 1) (n := 6) (by decide) (by decide) ?_
          refine vx_ret ?_
          exact W.iret (v := (sp_X2_add st a1 a2 a3).1) hx hb hr (fun t ht hW => ⟨⟨_, (), rfl, (by rw [← he]; exact ⟨rfl, rfl⟩ : res.1 = 0 ∧ _ = res.2.1), by show va_P _ _ _ t.heap; rw [ht, ← he]; exact hP⟩, hS.F ht⟩) hS.2.2 dX9_duty_68
        · have he := (if_neg h53_4).symm.trans he
          obtain ⟨sa9, hsa9⟩ := hT.2.2.2 (132, "there are 20 duties") (by decide +kernel)
          refine vx_throwS (A := aC q) (own := RX9) (cls := "java/lang/IllegalStateException") (text := "there are 20 duties") (names := ["java/lang/RuntimeException", "java/lang/Exception"]) hx hb hst hown (by decide +kernel) (by decide +kernel) (hts (.classLink RX9 91 "java/lang/IllegalStateException") (by decide +kernel)) (hts (.initialized "java/lang/IllegalStateException") (by decide +kernel)) hsa9 (vx_hat (B := badWs) (fun w9 h9 => hts w9 (List.mem_cons_of_mem _ (List.mem_append_right _ h9))) bad_2 (fun w9 h9 => va_Nw.use (bad_on w9 h9) (hT.2.2.1 w9 h9))) ot_2 hT.1 hT.2.1 hS (hl.1.trans hml.symm) dX9_duty_56 dX9_duty_59 dX9_duty_60 dX9_duty_62 dX9_duty_65 (fun x9 h9 => (hnt x9 h9).elim) (Nat.le_of_ble_eq_true rfl) (Nat.le_of_ble_eq_true rfl) (Nat.le_of_ble_eq_true rfl) (Nat.le_of_ble_eq_true rfl) hlocks (fun t9 h91 h92 h93 => ⟨(), trivial, ⟨by rw [← he]; exact Or.inr (Or.inl ⟨rfl, rfl⟩), by rw [← he]; exact hP.kept (fun k9 q9 hk9 => h93 _ (va_at.lt (hP k9 q9 hk9)))⟩, Nat.le_trans hS.1 h92, fun z9 hz9 hA9 => (h93 z9 (Nat.lt_of_lt_of_le hz9 hS.1)).trans (hS.2.1 z9 hz9 hA9)⟩) hS.2.2 (Nat.le_of_ble_eq_true rfl) (Nat.le_of_ble_eq_true rfl)
      · have he := (if_pos h26_3).symm.trans he
        obtain ⟨sa9, hsa9⟩ := hT.2.2.2 (127, "there is no such kind, purpose or number of days") (by decide +kernel)
        refine vx_throwS (A := aC q) (own := RX9) (cls := "java/lang/IllegalArgumentException") (text := "there is no such kind, purpose or number of days") (names := ["java/lang/RuntimeException", "java/lang/Exception"]) hx hb hst hown (by decide +kernel) (by decide +kernel) (hts (.classLink RX9 80 "java/lang/IllegalArgumentException") (by decide +kernel)) (hts (.initialized "java/lang/IllegalArgumentException") (by decide +kernel)) hsa9 (vx_hat (B := badWs) (fun w9 h9 => hts w9 (List.mem_cons_of_mem _ (List.mem_append_left _ (List.mem_append_right _ h9)))) bad_1 (fun w9 h9 => va_Nw.use (bad_on w9 h9) (hT.2.2.1 w9 h9))) ot_1 hT.1 hT.2.1 hS (hl.1.trans hml.symm) dX9_duty_29 dX9_duty_32 dX9_duty_33 dX9_duty_35 dX9_duty_38 (fun x9 h9 => (hnt x9 h9).elim) (Nat.le_of_ble_eq_true rfl) (Nat.le_of_ble_eq_true rfl) (Nat.le_of_ble_eq_true rfl) (Nat.le_of_ble_eq_true rfl) hlocks (fun t9 h91 h92 h93 => ⟨(), trivial, ⟨by rw [← he]; exact Or.inl ⟨rfl, rfl⟩, by rw [← he]; exact hP.kept (fun k9 q9 hk9 => h93 _ (va_at.lt (hP k9 q9 hk9)))⟩, Nat.le_trans hS.1 h92, fun z9 hz9 hA9 => (h93 z9 (Nat.lt_of_lt_of_le hz9 hS.1)).trans (hS.2.1 z9 hz9 hA9)⟩) hS.2.2 (Nat.le_of_ble_eq_true rfl) (Nat.le_of_ble_eq_true rfl)
set_option maxHeartbeats 4000000 in
set_option maxRecDepth 100000 in
theorem c_X9_put (l : Launch) (hst : l.stackTraces = false) (dC : Nat → ClassId) (dI : Nat → Nat → Nat) (q : Nat → Nat) (k : Nat → ClassId) (st : St) (a1 : Int32) (a2 : Int32) (a3 : Int32) (a4 : Int32) (hq : ∀ i j, i < 43 → j < 43 → q i = q j → i = j) (hok : okC st) (res : Int32 × Int32 × St) (hres : sp_X9_put st a1 a2 a3 a4 = res) : vx_Met l yX9_put wsX9_put ({ frames := 6, cells := 1, slots := 6, locals := 90 } : Room) (va_Pc [.ref (q 0), .int a1, .int a2, .int a3, .int a4] (fun U => va_P (dC, dI) vwCl (wC q k st) U.heap ∧ KC (dC, dI) k U ∧ TH (aC q) U U.heap)) (va_Qi (fun r (_ : Unit) => res.1 = 0 ∧ r = res.2.1) (fun _ t => va_P (dC, dI) vwCl (wC q k res.2.2) t.heap) (aC q)) (vx_X (fun (_ : Unit) => True) (fun E _ t => xE res.1 E ∧ va_P (dC, dI) vwCl (wC q k res.2.2) t.heap) (aC q)) 1 6 (aC q) := by
  refine vx_ofW (cc := cX9_put) (maxL := 6) (ret := (some .int)) (by decide) rfl ?_
  intro p e s m args below meth c s₁ B hml hnt hv
  obtain ⟨rfl, hP, hK, hT⟩ := hv
  have hx := B.exec
  have hb := B.bytes
  have hr := B.returns
  have hts := atoms_spec (ws := wsX9_put) B.pre
  have hown : s.vm.findClass RX9 = some m.cls := findClass_of_methodNamed B.named
  have hlocks := B.notSynchronized
  have hS : va_S (aC q) s.heap s.heap [] := va_S.rf
  have hi9 : ∀ w ∈ wsX90, w ∈ wsX9_put := by decide +kernel
  have hf19 := hts (.fieldLink RX9 19 "ConsentRegister" "kinds" "LConsentRegister$Kinds;") (by decide +kernel)
  have hf61 := hts (.fieldLink RX9 61 "ConsentRegister" "items" "LConsentRegister$Items;") (by decide +kernel)
  have hl := lv_entry ([.ref (q 0), .int a1, .int a2, .int a3, .int a4]) (n := 6) (Nat.le_of_ble_eq_true rfl)
  rw [lg_entry_eq]
  generalize (lg_sl ([.ref (q 0), .int a1, .int a2, .int a3, .int a4]) ++ List.replicate (6 - (lg_sl ([.ref (q 0), .int a1, .int a2, .int a3, .int a4])).length) Slot.unset).toArray = ls at hl ⊢
  have hl : lv_has ls 6 [(0, .ref (q 0)), (1, .int a1), (2, .int a2), (3, .int a3), (4, .int a4)] := hl
  have he := hres
  unfold sp_X9_put at he
  refine lv_iload_n hx hb dX9_put_0 rfl (lv_at hl 1 rfl) ?_
  refine vp_callSi (va_Run.run (va_runS (As := [.int a1]) (rest := []) ⟨hx, hb, hml, hown, hts⟩ (c_X9_isPerson l a1 _ rfl) (va_cwS 1 hts gX9_put_X9_isPerson rfl rfl rfl (by decide +kernel) ⟨Nat.le_of_ble_eq_true rfl, Nat.le_of_ble_eq_true rfl⟩) ⟨fb_T, fun U hU hW => ⟨rfl, trivial⟩⟩ rfl rfl hl.1 rfl (lv_room (Nat.le_of_ble_eq_true rfl)) dX9_put_1 ⟨Nat.le_of_ble_eq_true rfl, Nat.le_of_ble_eq_true rfl⟩)) (fun r9 e9 => ?_)
  subst e9
  refine lv_if_eq (tgt := 26) hx hb dX9_put_4 (by decide) (fun h4_1 => ?_) (fun h4_1 => ?_)
  · have he := (if_pos h4_1).symm.trans he
    obtain ⟨sa9, hsa9⟩ := hT.2.2.2 (137, "there is no such person, kind or day") (by decide +kernel)
    refine vx_throwS (A := aC q) (own := RX9) (cls := "java/lang/IllegalArgumentException") (text := "there is no such person, kind or day") (names := ["java/lang/RuntimeException", "java/lang/Exception"]) hx hb hst hown (by decide +kernel) (by decide +kernel) (hts (.classLink RX9 80 "java/lang/IllegalArgumentException") (by decide +kernel)) (hts (.initialized "java/lang/IllegalArgumentException") (by decide +kernel)) hsa9 (vx_hat (B := badWs) (fun w9 h9 => hts w9 (List.mem_cons_of_mem _ (List.mem_append_left _ (List.mem_append_right _ h9)))) bad_1 (fun w9 h9 => va_Nw.use (bad_on w9 h9) (hT.2.2.1 w9 h9))) ot_1 hT.1 hT.2.1 hS (hl.1.trans hml.symm) dX9_put_26 dX9_put_29 dX9_put_30 dX9_put_32 dX9_put_35 (fun x9 h9 => (hnt x9 h9).elim) (Nat.le_of_ble_eq_true rfl) (Nat.le_of_ble_eq_true rfl) (Nat.le_of_ble_eq_true rfl) (Nat.le_of_ble_eq_true rfl) hlocks (fun t9 h91 h92 h93 => ⟨(), trivial, ⟨by rw [← he]; exact Or.inl ⟨rfl, rfl⟩, by rw [← he]; exact hP.kept (fun k9 q9 hk9 => h93 _ (va_at.lt (hP k9 q9 hk9)))⟩, Nat.le_trans hS.1 h92, fun z9 hz9 hA9 => (h93 z9 (Nat.lt_of_lt_of_le hz9 hS.1)).trans (hS.2.1 z9 hz9 hA9)⟩) hS.2.2 (Nat.le_of_ble_eq_true rfl) (Nat.le_of_ble_eq_true rfl)
  · have he := (if_neg h4_1).symm.trans he
    refine lv_aload_n hx hb dX9_put_7 rfl (lv_at hl 0 rfl) ?_
    refine va_get (D := (dC, dI)) (ci := 9) (v := .ref (q 2)) (C := RX9) (T := TX9) (N := 10) hx hb hts hi9 hown hK.1 hP 0 rfl rfl 1 (by decide) hf19 (fun _ h9 => h9) rfl dX9_put_8 ?_
    refine lv_iload_n hx hb dX9_put_11 rfl (lv_at hl 2 rfl) ?_
    refine vp_callSi (va_Run.run (va_runV (As := [.int a2]) (rest := []) ⟨hx, hb, hml, hown, hts⟩ (c_X6_has l dC dI q k st a2 _ rfl) (cwV 1 hts gX9_put_X6_has rfl rfl rfl (by decide +kernel) ⟨Nat.le_of_ble_eq_true rfl, Nat.le_of_ble_eq_true rfl⟩) ⟨fb_C, va_recv hK.1 hP (ci := 6) (q0 := 2) rfl rfl, fun U hU hW => ⟨rfl, by rw [hU]; exact hP, hK.warm hW⟩⟩ rfl rfl hl.1 rfl (lv_room (Nat.le_of_ble_eq_true rfl)) dX9_put_12 ⟨Nat.le_of_ble_eq_true rfl, Nat.le_of_ble_eq_true rfl⟩)) (fun r9 e9 => ?_)
    subst e9
    refine lv_if_eq (tgt := 26) hx hb dX9_put_15 (by decide) (fun h15_2 => ?_) (fun h15_2 => ?_)
    · have he := (if_pos h15_2).symm.trans he
      obtain ⟨sa9, hsa9⟩ := hT.2.2.2 (137, "there is no such person, kind or day") (by decide +kernel)
      refine vx_throwS (A := aC q) (own := RX9) (cls := "java/lang/IllegalArgumentException") (text := "there is no such person, kind or day") (names := ["java/lang/RuntimeException", "java/lang/Exception"]) hx hb hst hown (by decide +kernel) (by decide +kernel) (hts (.classLink RX9 80 "java/lang/IllegalArgumentException") (by decide +kernel)) (hts (.initialized "java/lang/IllegalArgumentException") (by decide +kernel)) hsa9 (vx_hat (B := badWs) (fun w9 h9 => hts w9 (List.mem_cons_of_mem _ (List.mem_append_left _ (List.mem_append_right _ h9)))) bad_1 (fun w9 h9 => va_Nw.use (bad_on w9 h9) (hT.2.2.1 w9 h9))) ot_1 hT.1 hT.2.1 hS (hl.1.trans hml.symm) dX9_put_26 dX9_put_29 dX9_put_30 dX9_put_32 dX9_put_35 (fun x9 h9 => (hnt x9 h9).elim) (Nat.le_of_ble_eq_true rfl) (Nat.le_of_ble_eq_true rfl) (Nat.le_of_ble_eq_true rfl) (Nat.le_of_ble_eq_true rfl) hlocks (fun t9 h91 h92 h93 => ⟨(), trivial, ⟨by rw [← he]; exact Or.inl ⟨rfl, rfl⟩, by rw [← he]; exact hP.kept (fun k9 q9 hk9 => h93 _ (va_at.lt (hP k9 q9 hk9)))⟩, Nat.le_trans hS.1 h92, fun z9 hz9 hA9 => (h93 z9 (Nat.lt_of_lt_of_le hz9 hS.1)).trans (hS.2.1 z9 hz9 hA9)⟩) hS.2.2 (Nat.le_of_ble_eq_true rfl) (Nat.le_of_ble_eq_true rfl)
    · have he := (if_neg h15_2).symm.trans he
      refine lv_iload hx hb dX9_put_18 (lv_at hl 4 rfl) ?_
      refine vp_callSi (va_Run.run (va_runS (As := [.int a4]) (rest := []) ⟨hx, hb, hml, hown, hts⟩ (c_X9_isDay l a4 _ rfl) (va_cwS 1 hts gX9_put_X9_isDay rfl rfl rfl (by decide +kernel) ⟨Nat.le_of_ble_eq_true rfl, Nat.le_of_ble_eq_true rfl⟩) ⟨fb_T, fun U hU hW => ⟨rfl, trivial⟩⟩ rfl rfl hl.1 rfl (lv_room (Nat.le_of_ble_eq_true rfl)) dX9_put_20 ⟨Nat.le_of_ble_eq_true rfl, Nat.le_of_ble_eq_true rfl⟩)) (fun r9 e9 => ?_)
      subst e9
      refine lv_if_ne (tgt := 36) hx hb dX9_put_23 (by decide) (fun h23_3 => ?_) (fun h23_3 => ?_)
      · have he := (if_neg h23_3).symm.trans he
        refine lv_aload_n hx hb dX9_put_36 rfl (lv_at hl 0 rfl) ?_
        refine va_get (D := (dC, dI)) (ci := 9) (v := .ref (q 8)) (C := RX9) (T := TX9) (N := 10) hx hb hts hi9 hown hK.1 hP 0 rfl rfl 7 (by decide) hf61 (fun _ h9 => h9) rfl dX9_put_37 ?_
        refine lv_iload_n hx hb dX9_put_40 rfl (lv_at hl 1 rfl) ?_
        refine lv_iload_n hx hb dX9_put_41 rfl (lv_at hl 2 rfl) ?_
        refine lv_iload_n hx hb dX9_put_42 rfl (lv_at hl 3 rfl) ?_
        refine lv_iload hx hb dX9_put_43 (lv_at hl 4 rfl) ?_
        refine va_calli (va_runV (As := [.int a1, .int a2, .int a3, .int a4]) (rest := []) ⟨hx, hb, hml, hown, hts⟩ (c_X5_addPut l dC dI q k st a1 a2 a3 a4 hq hok _ rfl) (cwV 4 hts gX9_put_X5_addPut rfl rfl rfl (by decide +kernel) ⟨Nat.le_of_ble_eq_true rfl, Nat.le_of_ble_eq_true rfl⟩) ⟨fb_C, va_recv hK.1 hP (ci := 5) (q0 := 8) rfl rfl, fun U hU hW => ⟨rfl, by rw [hU]; exact hP, hK.warm hW⟩⟩ rfl rfl hl.1 rfl (lv_room (Nat.le_of_ble_eq_true rfl)) dX9_put_45 ⟨Nat.le_of_ble_eq_true rfl, Nat.le_of_ble_eq_true rfl⟩) hS (fun _ _ h => h) (fun _ h => h) (fun r9 u9 t9 H locs ht9 hv9 e9 hB9 hz9 hk9 hS => ?_)
        rw [ht9] at hB9
        subst e9
        have hP : va_P (dC, dI) vwCl (wC q k ((sp_X5_addPut st a1 a2 a3 a4).2)) H := hB9
        refine lv_istore (lv' := [(5, .int ((sp_X5_addPut st a1 a2 a3 a4).1)), (0, .ref (q 0)), (1, .int a1), (2, .int a2), (3, .int a3), (4, .int a4)]) hx hb dX9_put_48 hl (by decide) rfl (fun ls hl => ?_)
        refine lv_iload hx hb dX9_put_50 (lv_at hl 0 rfl) ?_
        refine lv_if_ge (tgt := 65) hx hb dX9_put_52 (by decide) (fun h52_4 => ?_) (fun h52_4 => ?_)
        · have he := (if_pos h52_4).symm.trans he
          refine lv_iload hx hb dX9_put_65 (lv_at hl 0 rfl) ?_
          refine W.widen (k := 1) (n := 6) (by decide) (by decide) ?_
          refine vx_ret ?_
          exact W.iret (v := (sp_X5_addPut st a1 a2 a3 a4).1) hx hb hr (fun t ht hW => ⟨⟨_, (), rfl, (by rw [← he]; exact ⟨rfl, rfl⟩ : res.1 = 0 ∧ _ = res.2.1), by show va_P _ _ _ t.heap; rw [ht, ← he]; exact hP⟩, hS.F ht⟩) hS.2.2 dX9_put_67
        · have he := (if_neg h52_4).symm.trans he
          obtain ⟨sa9, hsa9⟩ := hT.2.2.2 (142, "there were 100 items") (by decide +kernel)
          refine vx_throwS (A := aC q) (own := RX9) (cls := "java/lang/IllegalStateException") (text := "there were 100 items") (names := ["java/lang/RuntimeException", "java/lang/Exception"]) hx hb hst hown (by decide +kernel) (by decide +kernel) (hts (.classLink RX9 91 "java/lang/IllegalStateException") (by decide +kernel)) (hts (.initialized "java/lang/IllegalStateException") (by decide +kernel)) hsa9 (vx_hat (B := badWs) (fun w9 h9 => hts w9 (List.mem_cons_of_mem _ (List.mem_append_right _ h9))) bad_2 (fun w9 h9 => va_Nw.use (bad_on w9 h9) (hT.2.2.1 w9 h9))) ot_2 hT.1 hT.2.1 hS (hl.1.trans hml.symm) dX9_put_55 dX9_put_58 dX9_put_59 dX9_put_61 dX9_put_64 (fun x9 h9 => (hnt x9 h9).elim) (Nat.le_of_ble_eq_true rfl) (Nat.le_of_ble_eq_true rfl) (Nat.le_of_ble_eq_true rfl) (Nat.le_of_ble_eq_true rfl) hlocks (fun t9 h91 h92 h93 => ⟨(), trivial, ⟨by rw [← he]; exact Or.inr (Or.inl ⟨rfl, rfl⟩), by rw [← he]; exact hP.kept (fun k9 q9 hk9 => h93 _ (va_at.lt (hP k9 q9 hk9)))⟩, Nat.le_trans hS.1 h92, fun z9 hz9 hA9 => (h93 z9 (Nat.lt_of_lt_of_le hz9 hS.1)).trans (hS.2.1 z9 hz9 hA9)⟩) hS.2.2 (Nat.le_of_ble_eq_true rfl) (Nat.le_of_ble_eq_true rfl)
      · have he := (if_pos h23_3).symm.trans he
        obtain ⟨sa9, hsa9⟩ := hT.2.2.2 (137, "there is no such person, kind or day") (by decide +kernel)
        refine vx_throwS (A := aC q) (own := RX9) (cls := "java/lang/IllegalArgumentException") (text := "there is no such person, kind or day") (names := ["java/lang/RuntimeException", "java/lang/Exception"]) hx hb hst hown (by decide +kernel) (by decide +kernel) (hts (.classLink RX9 80 "java/lang/IllegalArgumentException") (by decide +kernel)) (hts (.initialized "java/lang/IllegalArgumentException") (by decide +kernel)) hsa9 (vx_hat (B := badWs) (fun w9 h9 => hts w9 (List.mem_cons_of_mem _ (List.mem_append_left _ (List.mem_append_right _ h9)))) bad_1 (fun w9 h9 => va_Nw.use (bad_on w9 h9) (hT.2.2.1 w9 h9))) ot_1 hT.1 hT.2.1 hS (hl.1.trans hml.symm) dX9_put_26 dX9_put_29 dX9_put_30 dX9_put_32 dX9_put_35 (fun x9 h9 => (hnt x9 h9).elim) (Nat.le_of_ble_eq_true rfl) (Nat.le_of_ble_eq_true rfl) (Nat.le_of_ble_eq_true rfl) (Nat.le_of_ble_eq_true rfl) hlocks (fun t9 h91 h92 h93 => ⟨(), trivial, ⟨by rw [← he]; exact Or.inl ⟨rfl, rfl⟩, by rw [← he]; exact hP.kept (fun k9 q9 hk9 => h93 _ (va_at.lt (hP k9 q9 hk9)))⟩, Nat.le_trans hS.1 h92, fun z9 hz9 hA9 => (h93 z9 (Nat.lt_of_lt_of_le hz9 hS.1)).trans (hS.2.1 z9 hz9 hA9)⟩) hS.2.2 (Nat.le_of_ble_eq_true rfl) (Nat.le_of_ble_eq_true rfl)
set_option maxHeartbeats 4000000 in
set_option maxRecDepth 100000 in
theorem c_X9_derive (l : Launch) (hst : l.stackTraces = false) (dC : Nat → ClassId) (dI : Nat → Nat → Nat) (q : Nat → Nat) (k : Nat → ClassId) (st : St) (a1 : Int32) (a2 : Int32) (a3 : Int32) (hq : ∀ i j, i < 43 → j < 43 → q i = q j → i = j) (hok : okC st) (res : Int32 × Int32 × St) (hres : sp_X9_derive st a1 a2 a3 = res) : vx_Met l yX9_derive wsX9_derive ({ frames := 6, cells := 1, slots := 6, locals := 112 } : Room) (va_Pc [.ref (q 0), .int a1, .int a2, .int a3] (fun U => va_P (dC, dI) vwCl (wC q k st) U.heap ∧ KC (dC, dI) k U ∧ TH (aC q) U U.heap)) (va_Qi (fun r (_ : Unit) => res.1 = 0 ∧ r = res.2.1) (fun _ t => va_P (dC, dI) vwCl (wC q k res.2.2) t.heap) (aC q)) (vx_X (fun (_ : Unit) => True) (fun E _ t => xE res.1 E ∧ va_P (dC, dI) vwCl (wC q k res.2.2) t.heap) (aC q)) 1 6 (aC q) := by
  refine vx_ofW (cc := cX9_derive) (maxL := 6) (ret := (some .int)) (by decide) rfl ?_
  intro p e s m args below meth c s₁ B hml hnt hv
  obtain ⟨rfl, hP, hK, hT⟩ := hv
  have hx := B.exec
  have hb := B.bytes
  have hr := B.returns
  have hts := atoms_spec (ws := wsX9_derive) B.pre
  have hown : s.vm.findClass RX9 = some m.cls := findClass_of_methodNamed B.named
  have hlocks := B.notSynchronized
  have hS : va_S (aC q) s.heap s.heap [] := va_S.rf
  have hi9 : ∀ w ∈ wsX90, w ∈ wsX9_derive := by decide +kernel
  have hf61 := hts (.fieldLink RX9 61 "ConsentRegister" "items" "LConsentRegister$Items;") (by decide +kernel)
  have hl := lv_entry ([.ref (q 0), .int a1, .int a2, .int a3]) (n := 6) (Nat.le_of_ble_eq_true rfl)
  rw [lg_entry_eq]
  generalize (lg_sl ([.ref (q 0), .int a1, .int a2, .int a3]) ++ List.replicate (6 - (lg_sl ([.ref (q 0), .int a1, .int a2, .int a3])).length) Slot.unset).toArray = ls at hl ⊢
  have hl : lv_has ls 6 [(0, .ref (q 0)), (1, .int a1), (2, .int a2), (3, .int a3)] := hl
  have he := hres
  unfold sp_X9_derive at he
  refine lv_iload_n hx hb dX9_derive_0 rfl (lv_at hl 1 rfl) ?_
  refine lv_if_eq (tgt := 24) hx hb dX9_derive_1 (by decide) (fun h1_1 => ?_) (fun h1_1 => ?_)
  · have he := (if_pos h1_1).symm.trans he
    refine lv_iload_n hx hb dX9_derive_24 rfl (lv_at hl 1 rfl) ?_
    refine lv_if_eq (tgt := 43) hx hb dX9_derive_25 (by decide) (fun h25_2 => ?_) (fun h25_2 => ?_)
    · have he := (if_pos h25_2).symm.trans he
      refine lv_iload_n hx hb dX9_derive_43 rfl (lv_at hl 1 rfl) ?_
      refine lv_if_ne (tgt := 51) hx hb dX9_derive_44 (by decide) (fun h44_3 => ?_) (fun h44_3 => ?_)
      · have he := (if_neg h44_3).symm.trans he
        refine lv_iload_n hx hb dX9_derive_51 rfl (lv_at hl 3 rfl) ?_
        refine lv_istore (lv' := [(4, .int a3), (0, .ref (q 0)), (1, .int a1), (2, .int a2), (3, .int a3)]) hx hb dX9_derive_52 hl (by decide) rfl (fun ls hl => ?_)
        refine lv_aload_n hx hb dX9_derive_54 rfl (lv_at hl 1 rfl) ?_
        refine va_get (D := (dC, dI)) (ci := 9) (v := .ref (q 8)) (C := RX9) (T := TX9) (N := 10) hx hb hts hi9 hown hK.1 hP 0 rfl rfl 7 (by decide) hf61 (fun _ h9 => h9) rfl dX9_derive_55 ?_
        refine lv_iload_n hx hb dX9_derive_58 rfl (lv_at hl 3 rfl) ?_
        refine vp_callSi (va_Run.run (va_runV (As := [.int a2]) (rest := []) ⟨hx, hb, hml, hown, hts⟩ (c_X5_lives l dC dI q k st a2 hok _ rfl) (cwV 1 hts gX9_derive_X5_lives rfl rfl rfl (by decide +kernel) ⟨Nat.le_of_ble_eq_true rfl, Nat.le_of_ble_eq_true rfl⟩) ⟨fb_C, va_recv hK.1 hP (ci := 5) (q0 := 8) rfl rfl, fun U hU hW => ⟨rfl, by rw [hU]; exact hP, hK.warm hW⟩⟩ rfl rfl hl.1 rfl (lv_room (Nat.le_of_ble_eq_true rfl)) dX9_derive_59 ⟨Nat.le_of_ble_eq_true rfl, Nat.le_of_ble_eq_true rfl⟩)) (fun r9 e9 => ?_)
        subst e9
        refine lv_if_eq (tgt := 77) hx hb dX9_derive_62 (by decide) (fun h62_4 => ?_) (fun h62_4 => ?_)
        · have he := (if_pos h62_4).symm.trans he
          obtain ⟨sa9, hsa9⟩ := hT.2.2.2 (153, "an input does not live") (by decide +kernel)
          refine vx_throwSN (A := aC q) (own := RX9) (cls := "java/util/NoSuchElementException") (text := "an input does not live") (names := ["java/lang/RuntimeException", "java/lang/Exception"]) hx hb hst hown (by decide +kernel) (by decide +kernel) (hts (.classLink RX9 151 "java/util/NoSuchElementException") (by decide +kernel)) (hts (.initialized "java/util/NoSuchElementException") (by decide +kernel)) hsa9 (vx_hat (B := badWs) (fun w9 h9 => hts w9 (List.mem_cons_of_mem _ (List.mem_append_left _ (List.mem_append_right _ h9)))) bad_3 (fun w9 h9 => va_Nw.use (bad_on w9 h9) (hT.2.2.1 w9 h9))) ot_3 hT.1 hT.2.1 hS (hl.1.trans hml.symm) dX9_derive_77 dX9_derive_80 dX9_derive_81 dX9_derive_83 dX9_derive_86 (fun x9 h9 => (hnt x9 h9).elim) (Nat.le_of_ble_eq_true rfl) (Nat.le_of_ble_eq_true rfl) (Nat.le_of_ble_eq_true rfl) (Nat.le_of_ble_eq_true rfl) hlocks (fun t9 h91 h92 h93 => ⟨(), trivial, ⟨by rw [← he]; exact Or.inr (Or.inr ⟨rfl, rfl⟩), by rw [← he]; exact hP.kept (fun k9 q9 hk9 => h93 _ (va_at.lt (hP k9 q9 hk9)))⟩, Nat.le_trans hS.1 h92, fun z9 hz9 hA9 => (h93 z9 (Nat.lt_of_lt_of_le hz9 hS.1)).trans (hS.2.1 z9 hz9 hA9)⟩) hS.2.2 (Nat.le_of_ble_eq_true rfl) (Nat.le_of_ble_eq_true rfl)
        · have he := (if_neg h62_4).symm.trans he
          refine lv_aload_n hx hb dX9_derive_65 rfl (lv_at hl 1 rfl) ?_
          refine va_get (D := (dC, dI)) (ci := 9) (v := .ref (q 8)) (C := RX9) (T := TX9) (N := 10) hx hb hts hi9 hown hK.1 hP 0 rfl rfl 7 (by decide) hf61 (fun _ h9 => h9) rfl dX9_derive_66 ?_
          refine lv_iload hx hb dX9_derive_69 (lv_at hl 0 rfl) ?_
          refine vp_callSi (va_Run.run (va_runV (As := [.int a3]) (rest := []) ⟨hx, hb, hml, hown, hts⟩ (c_X5_lives l dC dI q k st a3 hok _ rfl) (cwV 1 hts gX9_derive_X5_lives rfl rfl rfl (by decide +kernel) ⟨Nat.le_of_ble_eq_true rfl, Nat.le_of_ble_eq_true rfl⟩) ⟨fb_C, va_recv hK.1 hP (ci := 5) (q0 := 8) rfl rfl, fun U hU hW => ⟨rfl, by rw [hU]; exact hP, hK.warm hW⟩⟩ rfl rfl hl.1 rfl (lv_room (Nat.le_of_ble_eq_true rfl)) dX9_derive_71 ⟨Nat.le_of_ble_eq_true rfl, Nat.le_of_ble_eq_true rfl⟩)) (fun r9 e9 => ?_)
          subst e9
          refine lv_if_ne (tgt := 87) hx hb dX9_derive_74 (by decide) (fun h74_5 => ?_) (fun h74_5 => ?_)
          · have he := (if_neg h74_5).symm.trans he
            refine lv_aload_n hx hb dX9_derive_87 rfl (lv_at hl 1 rfl) ?_
            refine va_get (D := (dC, dI)) (ci := 9) (v := .ref (q 8)) (C := RX9) (T := TX9) (N := 10) hx hb hts hi9 hown hK.1 hP 0 rfl rfl 7 (by decide) hf61 (fun _ h9 => h9) rfl dX9_derive_88 ?_
            refine lv_iload_n hx hb dX9_derive_91 rfl (lv_at hl 2 rfl) ?_
            refine lv_iload_n hx hb dX9_derive_92 rfl (lv_at hl 3 rfl) ?_
            refine lv_iload hx hb dX9_derive_93 (lv_at hl 0 rfl) ?_
            refine va_calli (va_runV (As := [.int a1, .int a2, .int a3]) (rest := []) ⟨hx, hb, hml, hown, hts⟩ (c_X5_addDerived l dC dI q k st a1 a2 a3 hq hok _ rfl) (cwV 3 hts gX9_derive_X5_addDerived rfl rfl rfl (by decide +kernel) ⟨Nat.le_of_ble_eq_true rfl, Nat.le_of_ble_eq_true rfl⟩) ⟨fb_C, va_recv hK.1 hP (ci := 5) (q0 := 8) rfl rfl, fun U hU hW => ⟨rfl, by rw [hU]; exact hP, hK.warm hW⟩⟩ rfl rfl hl.1 rfl (lv_room (Nat.le_of_ble_eq_true rfl)) dX9_derive_95 ⟨Nat.le_of_ble_eq_true rfl, Nat.le_of_ble_eq_true rfl⟩) hS (fun _ _ h => h) (fun _ h => h) (fun r9 u9 t9 H locs ht9 hv9 e9 hB9 hz9 hk9 hS => ?_)
            rw [ht9] at hB9
            subst e9
            have hP : va_P (dC, dI) vwCl (wC q k ((sp_X5_addDerived st a1 a2 a3).2)) H := hB9
            refine lv_istore (lv' := [(5, .int ((sp_X5_addDerived st a1 a2 a3).1)), (4, .int a3), (0, .ref (q 0)), (1, .int a1), (2, .int a2), (3, .int a3)]) hx hb dX9_derive_98 hl (by decide) rfl (fun ls hl => ?_)
            refine lv_iload hx hb dX9_derive_100 (lv_at hl 0 rfl) ?_
            refine lv_if_ge (tgt := 115) hx hb dX9_derive_102 (by decide) (fun h102_6 => ?_) (fun h102_6 => ?_)
            · have he := (if_pos h102_6).symm.trans he
              refine lv_iload hx hb dX9_derive_115 (lv_at hl 0 rfl) ?_
              refine W.widen (k := 1) (n := 6) (by decide) (by decide) ?_
              refine vx_ret ?_
              exact W.iret (v := (sp_X5_addDerived st a1 a2 a3).1) hx hb hr (fun t ht hW => ⟨⟨_, (), rfl, (by rw [← he]; exact ⟨rfl, rfl⟩ : res.1 = 0 ∧ _ = res.2.1), by show va_P _ _ _ t.heap; rw [ht, ← he]; exact hP⟩, hS.F ht⟩) hS.2.2 dX9_derive_117
            · have he := (if_neg h102_6).symm.trans he
              obtain ⟨sa9, hsa9⟩ := hT.2.2.2 (142, "there were 100 items") (by decide +kernel)
              refine vx_throwS (A := aC q) (own := RX9) (cls := "java/lang/IllegalStateException") (text := "there were 100 items") (names := ["java/lang/RuntimeException", "java/lang/Exception"]) hx hb hst hown (by decide +kernel) (by decide +kernel) (hts (.classLink RX9 91 "java/lang/IllegalStateException") (by decide +kernel)) (hts (.initialized "java/lang/IllegalStateException") (by decide +kernel)) hsa9 (vx_hat (B := badWs) (fun w9 h9 => hts w9 (List.mem_cons_of_mem _ (List.mem_append_right _ h9))) bad_2 (fun w9 h9 => va_Nw.use (bad_on w9 h9) (hT.2.2.1 w9 h9))) ot_2 hT.1 hT.2.1 hS (hl.1.trans hml.symm) dX9_derive_105 dX9_derive_108 dX9_derive_109 dX9_derive_111 dX9_derive_114 (fun x9 h9 => (hnt x9 h9).elim) (Nat.le_of_ble_eq_true rfl) (Nat.le_of_ble_eq_true rfl) (Nat.le_of_ble_eq_true rfl) (Nat.le_of_ble_eq_true rfl) hlocks (fun t9 h91 h92 h93 => ⟨(), trivial, ⟨by rw [← he]; exact Or.inr (Or.inl ⟨rfl, rfl⟩), by rw [← he]; exact hP.kept (fun k9 q9 hk9 => h93 _ (va_at.lt (hP k9 q9 hk9)))⟩, Nat.le_trans hS.1 h92, fun z9 hz9 hA9 => (h93 z9 (Nat.lt_of_lt_of_le hz9 hS.1)).trans (hS.2.1 z9 hz9 hA9)⟩) hS.2.2 (Nat.le_of_ble_eq_true rfl) (Nat.le_of_ble_eq_true rfl)
          · have he := (if_pos h74_5).symm.trans he
            obtain ⟨sa9, hsa9⟩ := hT.2.2.2 (153, "an input does not live") (by decide +kernel)
            refine vx_throwSN (A := aC q) (own := RX9) (cls := "java/util/NoSuchElementException") (text := "an input does not live") (names := ["java/lang/RuntimeException", "java/lang/Exception"]) hx hb hst hown (by decide +kernel) (by decide +kernel) (hts (.classLink RX9 151 "java/util/NoSuchElementException") (by decide +kernel)) (hts (.initialized "java/util/NoSuchElementException") (by decide +kernel)) hsa9 (vx_hat (B := badWs) (fun w9 h9 => hts w9 (List.mem_cons_of_mem _ (List.mem_append_left _ (List.mem_append_right _ h9)))) bad_3 (fun w9 h9 => va_Nw.use (bad_on w9 h9) (hT.2.2.1 w9 h9))) ot_3 hT.1 hT.2.1 hS (hl.1.trans hml.symm) dX9_derive_77 dX9_derive_80 dX9_derive_81 dX9_derive_83 dX9_derive_86 (fun x9 h9 => (hnt x9 h9).elim) (Nat.le_of_ble_eq_true rfl) (Nat.le_of_ble_eq_true rfl) (Nat.le_of_ble_eq_true rfl) (Nat.le_of_ble_eq_true rfl) hlocks (fun t9 h91 h92 h93 => ⟨(), trivial, ⟨by rw [← he]; exact Or.inr (Or.inr ⟨rfl, rfl⟩), by rw [← he]; exact hP.kept (fun k9 q9 hk9 => h93 _ (va_at.lt (hP k9 q9 hk9)))⟩, Nat.le_trans hS.1 h92, fun z9 hz9 hA9 => (h93 z9 (Nat.lt_of_lt_of_le hz9 hS.1)).trans (hS.2.1 z9 hz9 hA9)⟩) hS.2.2 (Nat.le_of_ble_eq_true rfl) (Nat.le_of_ble_eq_true rfl)
      · have he := (if_pos h44_3).symm.trans he
        refine lv_iload_n hx hb dX9_derive_47 rfl (lv_at hl 2 rfl) ?_
        refine lv_goto (tgt := 52) hx hb dX9_derive_48 (by decide) ?_
        refine lv_istore (lv' := [(4, .int a2), (0, .ref (q 0)), (1, .int a1), (2, .int a2), (3, .int a3)]) hx hb dX9_derive_52 hl (by decide) rfl (fun ls hl => ?_)
        refine lv_aload_n hx hb dX9_derive_54 rfl (lv_at hl 1 rfl) ?_
        refine va_get (D := (dC, dI)) (ci := 9) (v := .ref (q 8)) (C := RX9) (T := TX9) (N := 10) hx hb hts hi9 hown hK.1 hP 0 rfl rfl 7 (by decide) hf61 (fun _ h9 => h9) rfl dX9_derive_55 ?_
        refine lv_iload_n hx hb dX9_derive_58 rfl (lv_at hl 3 rfl) ?_
        refine vp_callSi (va_Run.run (va_runV (As := [.int a2]) (rest := []) ⟨hx, hb, hml, hown, hts⟩ (c_X5_lives l dC dI q k st a2 hok _ rfl) (cwV 1 hts gX9_derive_X5_lives rfl rfl rfl (by decide +kernel) ⟨Nat.le_of_ble_eq_true rfl, Nat.le_of_ble_eq_true rfl⟩) ⟨fb_C, va_recv hK.1 hP (ci := 5) (q0 := 8) rfl rfl, fun U hU hW => ⟨rfl, by rw [hU]; exact hP, hK.warm hW⟩⟩ rfl rfl hl.1 rfl (lv_room (Nat.le_of_ble_eq_true rfl)) dX9_derive_59 ⟨Nat.le_of_ble_eq_true rfl, Nat.le_of_ble_eq_true rfl⟩)) (fun r9 e9 => ?_)
        subst e9
        refine lv_if_eq (tgt := 77) hx hb dX9_derive_62 (by decide) (fun h62_7 => ?_) (fun h62_7 => ?_)
        · have he := (if_pos h62_7).symm.trans he
          obtain ⟨sa9, hsa9⟩ := hT.2.2.2 (153, "an input does not live") (by decide +kernel)
          refine vx_throwSN (A := aC q) (own := RX9) (cls := "java/util/NoSuchElementException") (text := "an input does not live") (names := ["java/lang/RuntimeException", "java/lang/Exception"]) hx hb hst hown (by decide +kernel) (by decide +kernel) (hts (.classLink RX9 151 "java/util/NoSuchElementException") (by decide +kernel)) (hts (.initialized "java/util/NoSuchElementException") (by decide +kernel)) hsa9 (vx_hat (B := badWs) (fun w9 h9 => hts w9 (List.mem_cons_of_mem _ (List.mem_append_left _ (List.mem_append_right _ h9)))) bad_3 (fun w9 h9 => va_Nw.use (bad_on w9 h9) (hT.2.2.1 w9 h9))) ot_3 hT.1 hT.2.1 hS (hl.1.trans hml.symm) dX9_derive_77 dX9_derive_80 dX9_derive_81 dX9_derive_83 dX9_derive_86 (fun x9 h9 => (hnt x9 h9).elim) (Nat.le_of_ble_eq_true rfl) (Nat.le_of_ble_eq_true rfl) (Nat.le_of_ble_eq_true rfl) (Nat.le_of_ble_eq_true rfl) hlocks (fun t9 h91 h92 h93 => ⟨(), trivial, ⟨by rw [← he]; exact Or.inr (Or.inr ⟨rfl, rfl⟩), by rw [← he]; exact hP.kept (fun k9 q9 hk9 => h93 _ (va_at.lt (hP k9 q9 hk9)))⟩, Nat.le_trans hS.1 h92, fun z9 hz9 hA9 => (h93 z9 (Nat.lt_of_lt_of_le hz9 hS.1)).trans (hS.2.1 z9 hz9 hA9)⟩) hS.2.2 (Nat.le_of_ble_eq_true rfl) (Nat.le_of_ble_eq_true rfl)
        · have he := (if_neg h62_7).symm.trans he
          refine lv_aload_n hx hb dX9_derive_65 rfl (lv_at hl 1 rfl) ?_
          refine va_get (D := (dC, dI)) (ci := 9) (v := .ref (q 8)) (C := RX9) (T := TX9) (N := 10) hx hb hts hi9 hown hK.1 hP 0 rfl rfl 7 (by decide) hf61 (fun _ h9 => h9) rfl dX9_derive_66 ?_
          refine lv_iload hx hb dX9_derive_69 (lv_at hl 0 rfl) ?_
          refine vp_callSi (va_Run.run (va_runV (As := [.int a2]) (rest := []) ⟨hx, hb, hml, hown, hts⟩ (c_X5_lives l dC dI q k st a2 hok _ rfl) (cwV 1 hts gX9_derive_X5_lives rfl rfl rfl (by decide +kernel) ⟨Nat.le_of_ble_eq_true rfl, Nat.le_of_ble_eq_true rfl⟩) ⟨fb_C, va_recv hK.1 hP (ci := 5) (q0 := 8) rfl rfl, fun U hU hW => ⟨rfl, by rw [hU]; exact hP, hK.warm hW⟩⟩ rfl rfl hl.1 rfl (lv_room (Nat.le_of_ble_eq_true rfl)) dX9_derive_71 ⟨Nat.le_of_ble_eq_true rfl, Nat.le_of_ble_eq_true rfl⟩)) (fun r9 e9 => ?_)
          subst e9
          refine lv_if_ne (tgt := 87) hx hb dX9_derive_74 (by decide) (fun h74_8 => ?_) (fun h74_8 => ?_)
          · have he := (if_neg h74_8).symm.trans he
            refine lv_aload_n hx hb dX9_derive_87 rfl (lv_at hl 1 rfl) ?_
            refine va_get (D := (dC, dI)) (ci := 9) (v := .ref (q 8)) (C := RX9) (T := TX9) (N := 10) hx hb hts hi9 hown hK.1 hP 0 rfl rfl 7 (by decide) hf61 (fun _ h9 => h9) rfl dX9_derive_88 ?_
            refine lv_iload_n hx hb dX9_derive_91 rfl (lv_at hl 2 rfl) ?_
            refine lv_iload_n hx hb dX9_derive_92 rfl (lv_at hl 3 rfl) ?_
            refine lv_iload hx hb dX9_derive_93 (lv_at hl 0 rfl) ?_
            refine va_calli (va_runV (As := [.int a1, .int a2, .int a2]) (rest := []) ⟨hx, hb, hml, hown, hts⟩ (c_X5_addDerived l dC dI q k st a1 a2 a2 hq hok _ rfl) (cwV 3 hts gX9_derive_X5_addDerived rfl rfl rfl (by decide +kernel) ⟨Nat.le_of_ble_eq_true rfl, Nat.le_of_ble_eq_true rfl⟩) ⟨fb_C, va_recv hK.1 hP (ci := 5) (q0 := 8) rfl rfl, fun U hU hW => ⟨rfl, by rw [hU]; exact hP, hK.warm hW⟩⟩ rfl rfl hl.1 rfl (lv_room (Nat.le_of_ble_eq_true rfl)) dX9_derive_95 ⟨Nat.le_of_ble_eq_true rfl, Nat.le_of_ble_eq_true rfl⟩) hS (fun _ _ h => h) (fun _ h => h) (fun r9 u9 t9 H locs ht9 hv9 e9 hB9 hz9 hk9 hS => ?_)
            rw [ht9] at hB9
            subst e9
            have hP : va_P (dC, dI) vwCl (wC q k ((sp_X5_addDerived st a1 a2 a2).2)) H := hB9
            refine lv_istore (lv' := [(5, .int ((sp_X5_addDerived st a1 a2 a2).1)), (4, .int a2), (0, .ref (q 0)), (1, .int a1), (2, .int a2), (3, .int a3)]) hx hb dX9_derive_98 hl (by decide) rfl (fun ls hl => ?_)
            refine lv_iload hx hb dX9_derive_100 (lv_at hl 0 rfl) ?_
            refine lv_if_ge (tgt := 115) hx hb dX9_derive_102 (by decide) (fun h102_9 => ?_) (fun h102_9 => ?_)
            · have he := (if_pos h102_9).symm.trans he
              refine lv_iload hx hb dX9_derive_115 (lv_at hl 0 rfl) ?_
              refine W.widen (k := 1) (n := 6) (by decide) (by decide) ?_
              refine vx_ret ?_
              exact W.iret (v := (sp_X5_addDerived st a1 a2 a2).1) hx hb hr (fun t ht hW => ⟨⟨_, (), rfl, (by rw [← he]; exact ⟨rfl, rfl⟩ : res.1 = 0 ∧ _ = res.2.1), by show va_P _ _ _ t.heap; rw [ht, ← he]; exact hP⟩, hS.F ht⟩) hS.2.2 dX9_derive_117
            · have he := (if_neg h102_9).symm.trans he
              obtain ⟨sa9, hsa9⟩ := hT.2.2.2 (142, "there were 100 items") (by decide +kernel)
              refine vx_throwS (A := aC q) (own := RX9) (cls := "java/lang/IllegalStateException") (text := "there were 100 items") (names := ["java/lang/RuntimeException", "java/lang/Exception"]) hx hb hst hown (by decide +kernel) (by decide +kernel) (hts (.classLink RX9 91 "java/lang/IllegalStateException") (by decide +kernel)) (hts (.initialized "java/lang/IllegalStateException") (by decide +kernel)) hsa9 (vx_hat (B := badWs) (fun w9 h9 => hts w9 (List.mem_cons_of_mem _ (List.mem_append_right _ h9))) bad_2 (fun w9 h9 => va_Nw.use (bad_on w9 h9) (hT.2.2.1 w9 h9))) ot_2 hT.1 hT.2.1 hS (hl.1.trans hml.symm) dX9_derive_105 dX9_derive_108 dX9_derive_109 dX9_derive_111 dX9_derive_114 (fun x9 h9 => (hnt x9 h9).elim) (Nat.le_of_ble_eq_true rfl) (Nat.le_of_ble_eq_true rfl) (Nat.le_of_ble_eq_true rfl) (Nat.le_of_ble_eq_true rfl) hlocks (fun t9 h91 h92 h93 => ⟨(), trivial, ⟨by rw [← he]; exact Or.inr (Or.inl ⟨rfl, rfl⟩), by rw [← he]; exact hP.kept (fun k9 q9 hk9 => h93 _ (va_at.lt (hP k9 q9 hk9)))⟩, Nat.le_trans hS.1 h92, fun z9 hz9 hA9 => (h93 z9 (Nat.lt_of_lt_of_le hz9 hS.1)).trans (hS.2.1 z9 hz9 hA9)⟩) hS.2.2 (Nat.le_of_ble_eq_true rfl) (Nat.le_of_ble_eq_true rfl)
          · have he := (if_pos h74_8).symm.trans he
            obtain ⟨sa9, hsa9⟩ := hT.2.2.2 (153, "an input does not live") (by decide +kernel)
            refine vx_throwSN (A := aC q) (own := RX9) (cls := "java/util/NoSuchElementException") (text := "an input does not live") (names := ["java/lang/RuntimeException", "java/lang/Exception"]) hx hb hst hown (by decide +kernel) (by decide +kernel) (hts (.classLink RX9 151 "java/util/NoSuchElementException") (by decide +kernel)) (hts (.initialized "java/util/NoSuchElementException") (by decide +kernel)) hsa9 (vx_hat (B := badWs) (fun w9 h9 => hts w9 (List.mem_cons_of_mem _ (List.mem_append_left _ (List.mem_append_right _ h9)))) bad_3 (fun w9 h9 => va_Nw.use (bad_on w9 h9) (hT.2.2.1 w9 h9))) ot_3 hT.1 hT.2.1 hS (hl.1.trans hml.symm) dX9_derive_77 dX9_derive_80 dX9_derive_81 dX9_derive_83 dX9_derive_86 (fun x9 h9 => (hnt x9 h9).elim) (Nat.le_of_ble_eq_true rfl) (Nat.le_of_ble_eq_true rfl) (Nat.le_of_ble_eq_true rfl) (Nat.le_of_ble_eq_true rfl) hlocks (fun t9 h91 h92 h93 => ⟨(), trivial, ⟨by rw [← he]; exact Or.inr (Or.inr ⟨rfl, rfl⟩), by rw [← he]; exact hP.kept (fun k9 q9 hk9 => h93 _ (va_at.lt (hP k9 q9 hk9)))⟩, Nat.le_trans hS.1 h92, fun z9 hz9 hA9 => (h93 z9 (Nat.lt_of_lt_of_le hz9 hS.1)).trans (hS.2.1 z9 hz9 hA9)⟩) hS.2.2 (Nat.le_of_ble_eq_true rfl) (Nat.le_of_ble_eq_true rfl)
    · have he := (if_neg h25_2).symm.trans he
      refine lv_iload_n hx hb dX9_derive_28 rfl (lv_at hl 2 rfl) ?_
      refine lv_iload_n hx hb dX9_derive_29 rfl (lv_at hl 3 rfl) ?_
      refine lv_icmp_ne (tgt := 43) hx hb dX9_derive_30 (by decide) (fun h30_10 => ?_) (fun h30_10 => ?_)
      · have he := (if_neg h30_10).symm.trans he
        refine lv_iload_n hx hb dX9_derive_43 rfl (lv_at hl 1 rfl) ?_
        refine lv_if_ne (tgt := 51) hx hb dX9_derive_44 (by decide) (fun h44_11 => ?_) (fun h44_11 => ?_)
        · have he := (if_neg h44_11).symm.trans he
          refine lv_iload_n hx hb dX9_derive_51 rfl (lv_at hl 3 rfl) ?_
          refine lv_istore (lv' := [(4, .int a3), (0, .ref (q 0)), (1, .int a1), (2, .int a2), (3, .int a3)]) hx hb dX9_derive_52 hl (by decide) rfl (fun ls hl => ?_)
          refine lv_aload_n hx hb dX9_derive_54 rfl (lv_at hl 1 rfl) ?_
          refine va_get (D := (dC, dI)) (ci := 9) (v := .ref (q 8)) (C := RX9) (T := TX9) (N := 10) hx hb hts hi9 hown hK.1 hP 0 rfl rfl 7 (by decide) hf61 (fun _ h9 => h9) rfl dX9_derive_55 ?_
          refine lv_iload_n hx hb dX9_derive_58 rfl (lv_at hl 3 rfl) ?_
          refine vp_callSi (va_Run.run (va_runV (As := [.int a2]) (rest := []) ⟨hx, hb, hml, hown, hts⟩ (c_X5_lives l dC dI q k st a2 hok _ rfl) (cwV 1 hts gX9_derive_X5_lives rfl rfl rfl (by decide +kernel) ⟨Nat.le_of_ble_eq_true rfl, Nat.le_of_ble_eq_true rfl⟩) ⟨fb_C, va_recv hK.1 hP (ci := 5) (q0 := 8) rfl rfl, fun U hU hW => ⟨rfl, by rw [hU]; exact hP, hK.warm hW⟩⟩ rfl rfl hl.1 rfl (lv_room (Nat.le_of_ble_eq_true rfl)) dX9_derive_59 ⟨Nat.le_of_ble_eq_true rfl, Nat.le_of_ble_eq_true rfl⟩)) (fun r9 e9 => ?_)
          subst e9
          refine lv_if_eq (tgt := 77) hx hb dX9_derive_62 (by decide) (fun h62_12 => ?_) (fun h62_12 => ?_)
          · have he := (if_pos h62_12).symm.trans he
            obtain ⟨sa9, hsa9⟩ := hT.2.2.2 (153, "an input does not live") (by decide +kernel)
            refine vx_throwSN (A := aC q) (own := RX9) (cls := "java/util/NoSuchElementException") (text := "an input does not live") (names := ["java/lang/RuntimeException", "java/lang/Exception"]) hx hb hst hown (by decide +kernel) (by decide +kernel) (hts (.classLink RX9 151 "java/util/NoSuchElementException") (by decide +kernel)) (hts (.initialized "java/util/NoSuchElementException") (by decide +kernel)) hsa9 (vx_hat (B := badWs) (fun w9 h9 => hts w9 (List.mem_cons_of_mem _ (List.mem_append_left _ (List.mem_append_right _ h9)))) bad_3 (fun w9 h9 => va_Nw.use (bad_on w9 h9) (hT.2.2.1 w9 h9))) ot_3 hT.1 hT.2.1 hS (hl.1.trans hml.symm) dX9_derive_77 dX9_derive_80 dX9_derive_81 dX9_derive_83 dX9_derive_86 (fun x9 h9 => (hnt x9 h9).elim) (Nat.le_of_ble_eq_true rfl) (Nat.le_of_ble_eq_true rfl) (Nat.le_of_ble_eq_true rfl) (Nat.le_of_ble_eq_true rfl) hlocks (fun t9 h91 h92 h93 => ⟨(), trivial, ⟨by rw [← he]; exact Or.inr (Or.inr ⟨rfl, rfl⟩), by rw [← he]; exact hP.kept (fun k9 q9 hk9 => h93 _ (va_at.lt (hP k9 q9 hk9)))⟩, Nat.le_trans hS.1 h92, fun z9 hz9 hA9 => (h93 z9 (Nat.lt_of_lt_of_le hz9 hS.1)).trans (hS.2.1 z9 hz9 hA9)⟩) hS.2.2 (Nat.le_of_ble_eq_true rfl) (Nat.le_of_ble_eq_true rfl)
          · have he := (if_neg h62_12).symm.trans he
            refine lv_aload_n hx hb dX9_derive_65 rfl (lv_at hl 1 rfl) ?_
            refine va_get (D := (dC, dI)) (ci := 9) (v := .ref (q 8)) (C := RX9) (T := TX9) (N := 10) hx hb hts hi9 hown hK.1 hP 0 rfl rfl 7 (by decide) hf61 (fun _ h9 => h9) rfl dX9_derive_66 ?_
            refine lv_iload hx hb dX9_derive_69 (lv_at hl 0 rfl) ?_
            refine vp_callSi (va_Run.run (va_runV (As := [.int a3]) (rest := []) ⟨hx, hb, hml, hown, hts⟩ (c_X5_lives l dC dI q k st a3 hok _ rfl) (cwV 1 hts gX9_derive_X5_lives rfl rfl rfl (by decide +kernel) ⟨Nat.le_of_ble_eq_true rfl, Nat.le_of_ble_eq_true rfl⟩) ⟨fb_C, va_recv hK.1 hP (ci := 5) (q0 := 8) rfl rfl, fun U hU hW => ⟨rfl, by rw [hU]; exact hP, hK.warm hW⟩⟩ rfl rfl hl.1 rfl (lv_room (Nat.le_of_ble_eq_true rfl)) dX9_derive_71 ⟨Nat.le_of_ble_eq_true rfl, Nat.le_of_ble_eq_true rfl⟩)) (fun r9 e9 => ?_)
            subst e9
            refine lv_if_ne (tgt := 87) hx hb dX9_derive_74 (by decide) (fun h74_13 => ?_) (fun h74_13 => ?_)
            · have he := (if_neg h74_13).symm.trans he
              refine lv_aload_n hx hb dX9_derive_87 rfl (lv_at hl 1 rfl) ?_
              refine va_get (D := (dC, dI)) (ci := 9) (v := .ref (q 8)) (C := RX9) (T := TX9) (N := 10) hx hb hts hi9 hown hK.1 hP 0 rfl rfl 7 (by decide) hf61 (fun _ h9 => h9) rfl dX9_derive_88 ?_
              refine lv_iload_n hx hb dX9_derive_91 rfl (lv_at hl 2 rfl) ?_
              refine lv_iload_n hx hb dX9_derive_92 rfl (lv_at hl 3 rfl) ?_
              refine lv_iload hx hb dX9_derive_93 (lv_at hl 0 rfl) ?_
              refine va_calli (va_runV (As := [.int a1, .int a2, .int a3]) (rest := []) ⟨hx, hb, hml, hown, hts⟩ (c_X5_addDerived l dC dI q k st a1 a2 a3 hq hok _ rfl) (cwV 3 hts gX9_derive_X5_addDerived rfl rfl rfl (by decide +kernel) ⟨Nat.le_of_ble_eq_true rfl, Nat.le_of_ble_eq_true rfl⟩) ⟨fb_C, va_recv hK.1 hP (ci := 5) (q0 := 8) rfl rfl, fun U hU hW => ⟨rfl, by rw [hU]; exact hP, hK.warm hW⟩⟩ rfl rfl hl.1 rfl (lv_room (Nat.le_of_ble_eq_true rfl)) dX9_derive_95 ⟨Nat.le_of_ble_eq_true rfl, Nat.le_of_ble_eq_true rfl⟩) hS (fun _ _ h => h) (fun _ h => h) (fun r9 u9 t9 H locs ht9 hv9 e9 hB9 hz9 hk9 hS => ?_)
              rw [ht9] at hB9
              subst e9
              have hP : va_P (dC, dI) vwCl (wC q k ((sp_X5_addDerived st a1 a2 a3).2)) H := hB9
              refine lv_istore (lv' := [(5, .int ((sp_X5_addDerived st a1 a2 a3).1)), (4, .int a3), (0, .ref (q 0)), (1, .int a1), (2, .int a2), (3, .int a3)]) hx hb dX9_derive_98 hl (by decide) rfl (fun ls hl => ?_)
              refine lv_iload hx hb dX9_derive_100 (lv_at hl 0 rfl) ?_
              refine lv_if_ge (tgt := 115) hx hb dX9_derive_102 (by decide) (fun h102_14 => ?_) (fun h102_14 => ?_)
              · have he := (if_pos h102_14).symm.trans he
                refine lv_iload hx hb dX9_derive_115 (lv_at hl 0 rfl) ?_
                refine W.widen (k := 1) (n := 6) (by decide) (by decide) ?_
                refine vx_ret ?_
                exact W.iret (v := (sp_X5_addDerived st a1 a2 a3).1) hx hb hr (fun t ht hW => ⟨⟨_, (), rfl, (by rw [← he]; exact ⟨rfl, rfl⟩ : res.1 = 0 ∧ _ = res.2.1), by show va_P _ _ _ t.heap; rw [ht, ← he]; exact hP⟩, hS.F ht⟩) hS.2.2 dX9_derive_117
              · have he := (if_neg h102_14).symm.trans he
                obtain ⟨sa9, hsa9⟩ := hT.2.2.2 (142, "there were 100 items") (by decide +kernel)
                refine vx_throwS (A := aC q) (own := RX9) (cls := "java/lang/IllegalStateException") (text := "there were 100 items") (names := ["java/lang/RuntimeException", "java/lang/Exception"]) hx hb hst hown (by decide +kernel) (by decide +kernel) (hts (.classLink RX9 91 "java/lang/IllegalStateException") (by decide +kernel)) (hts (.initialized "java/lang/IllegalStateException") (by decide +kernel)) hsa9 (vx_hat (B := badWs) (fun w9 h9 => hts w9 (List.mem_cons_of_mem _ (List.mem_append_right _ h9))) bad_2 (fun w9 h9 => va_Nw.use (bad_on w9 h9) (hT.2.2.1 w9 h9))) ot_2 hT.1 hT.2.1 hS (hl.1.trans hml.symm) dX9_derive_105 dX9_derive_108 dX9_derive_109 dX9_derive_111 dX9_derive_114 (fun x9 h9 => (hnt x9 h9).elim) (Nat.le_of_ble_eq_true rfl) (Nat.le_of_ble_eq_true rfl) (Nat.le_of_ble_eq_true rfl) (Nat.le_of_ble_eq_true rfl) hlocks (fun t9 h91 h92 h93 => ⟨(), trivial, ⟨by rw [← he]; exact Or.inr (Or.inl ⟨rfl, rfl⟩), by rw [← he]; exact hP.kept (fun k9 q9 hk9 => h93 _ (va_at.lt (hP k9 q9 hk9)))⟩, Nat.le_trans hS.1 h92, fun z9 hz9 hA9 => (h93 z9 (Nat.lt_of_lt_of_le hz9 hS.1)).trans (hS.2.1 z9 hz9 hA9)⟩) hS.2.2 (Nat.le_of_ble_eq_true rfl) (Nat.le_of_ble_eq_true rfl)
            · have he := (if_pos h74_13).symm.trans he
              obtain ⟨sa9, hsa9⟩ := hT.2.2.2 (153, "an input does not live") (by decide +kernel)
              refine vx_throwSN (A := aC q) (own := RX9) (cls := "java/util/NoSuchElementException") (text := "an input does not live") (names := ["java/lang/RuntimeException", "java/lang/Exception"]) hx hb hst hown (by decide +kernel) (by decide +kernel) (hts (.classLink RX9 151 "java/util/NoSuchElementException") (by decide +kernel)) (hts (.initialized "java/util/NoSuchElementException") (by decide +kernel)) hsa9 (vx_hat (B := badWs) (fun w9 h9 => hts w9 (List.mem_cons_of_mem _ (List.mem_append_left _ (List.mem_append_right _ h9)))) bad_3 (fun w9 h9 => va_Nw.use (bad_on w9 h9) (hT.2.2.1 w9 h9))) ot_3 hT.1 hT.2.1 hS (hl.1.trans hml.symm) dX9_derive_77 dX9_derive_80 dX9_derive_81 dX9_derive_83 dX9_derive_86 (fun x9 h9 => (hnt x9 h9).elim) (Nat.le_of_ble_eq_true rfl) (Nat.le_of_ble_eq_true rfl) (Nat.le_of_ble_eq_true rfl) (Nat.le_of_ble_eq_true rfl) hlocks (fun t9 h91 h92 h93 => ⟨(), trivial, ⟨by rw [← he]; exact Or.inr (Or.inr ⟨rfl, rfl⟩), by rw [← he]; exact hP.kept (fun k9 q9 hk9 => h93 _ (va_at.lt (hP k9 q9 hk9)))⟩, Nat.le_trans hS.1 h92, fun z9 hz9 hA9 => (h93 z9 (Nat.lt_of_lt_of_le hz9 hS.1)).trans (hS.2.1 z9 hz9 hA9)⟩) hS.2.2 (Nat.le_of_ble_eq_true rfl) (Nat.le_of_ble_eq_true rfl)
        · have he := (if_pos h44_11).symm.trans he
          refine lv_iload_n hx hb dX9_derive_47 rfl (lv_at hl 2 rfl) ?_
          refine lv_goto (tgt := 52) hx hb dX9_derive_48 (by decide) ?_
          refine lv_istore (lv' := [(4, .int a2), (0, .ref (q 0)), (1, .int a1), (2, .int a2), (3, .int a3)]) hx hb dX9_derive_52 hl (by decide) rfl (fun ls hl => ?_)
          refine lv_aload_n hx hb dX9_derive_54 rfl (lv_at hl 1 rfl) ?_
          refine va_get (D := (dC, dI)) (ci := 9) (v := .ref (q 8)) (C := RX9) (T := TX9) (N := 10) hx hb hts hi9 hown hK.1 hP 0 rfl rfl 7 (by decide) hf61 (fun _ h9 => h9) rfl dX9_derive_55 ?_
          refine lv_iload_n hx hb dX9_derive_58 rfl (lv_at hl 3 rfl) ?_
          refine vp_callSi (va_Run.run (va_runV (As := [.int a2]) (rest := []) ⟨hx, hb, hml, hown, hts⟩ (c_X5_lives l dC dI q k st a2 hok _ rfl) (cwV 1 hts gX9_derive_X5_lives rfl rfl rfl (by decide +kernel) ⟨Nat.le_of_ble_eq_true rfl, Nat.le_of_ble_eq_true rfl⟩) ⟨fb_C, va_recv hK.1 hP (ci := 5) (q0 := 8) rfl rfl, fun U hU hW => ⟨rfl, by rw [hU]; exact hP, hK.warm hW⟩⟩ rfl rfl hl.1 rfl (lv_room (Nat.le_of_ble_eq_true rfl)) dX9_derive_59 ⟨Nat.le_of_ble_eq_true rfl, Nat.le_of_ble_eq_true rfl⟩)) (fun r9 e9 => ?_)
          subst e9
          refine lv_if_eq (tgt := 77) hx hb dX9_derive_62 (by decide) (fun h62_15 => ?_) (fun h62_15 => ?_)
          · have he := (if_pos h62_15).symm.trans he
            obtain ⟨sa9, hsa9⟩ := hT.2.2.2 (153, "an input does not live") (by decide +kernel)
            refine vx_throwSN (A := aC q) (own := RX9) (cls := "java/util/NoSuchElementException") (text := "an input does not live") (names := ["java/lang/RuntimeException", "java/lang/Exception"]) hx hb hst hown (by decide +kernel) (by decide +kernel) (hts (.classLink RX9 151 "java/util/NoSuchElementException") (by decide +kernel)) (hts (.initialized "java/util/NoSuchElementException") (by decide +kernel)) hsa9 (vx_hat (B := badWs) (fun w9 h9 => hts w9 (List.mem_cons_of_mem _ (List.mem_append_left _ (List.mem_append_right _ h9)))) bad_3 (fun w9 h9 => va_Nw.use (bad_on w9 h9) (hT.2.2.1 w9 h9))) ot_3 hT.1 hT.2.1 hS (hl.1.trans hml.symm) dX9_derive_77 dX9_derive_80 dX9_derive_81 dX9_derive_83 dX9_derive_86 (fun x9 h9 => (hnt x9 h9).elim) (Nat.le_of_ble_eq_true rfl) (Nat.le_of_ble_eq_true rfl) (Nat.le_of_ble_eq_true rfl) (Nat.le_of_ble_eq_true rfl) hlocks (fun t9 h91 h92 h93 => ⟨(), trivial, ⟨by rw [← he]; exact Or.inr (Or.inr ⟨rfl, rfl⟩), by rw [← he]; exact hP.kept (fun k9 q9 hk9 => h93 _ (va_at.lt (hP k9 q9 hk9)))⟩, Nat.le_trans hS.1 h92, fun z9 hz9 hA9 => (h93 z9 (Nat.lt_of_lt_of_le hz9 hS.1)).trans (hS.2.1 z9 hz9 hA9)⟩) hS.2.2 (Nat.le_of_ble_eq_true rfl) (Nat.le_of_ble_eq_true rfl)
          · have he := (if_neg h62_15).symm.trans he
            refine lv_aload_n hx hb dX9_derive_65 rfl (lv_at hl 1 rfl) ?_
            refine va_get (D := (dC, dI)) (ci := 9) (v := .ref (q 8)) (C := RX9) (T := TX9) (N := 10) hx hb hts hi9 hown hK.1 hP 0 rfl rfl 7 (by decide) hf61 (fun _ h9 => h9) rfl dX9_derive_66 ?_
            refine lv_iload hx hb dX9_derive_69 (lv_at hl 0 rfl) ?_
            refine vp_callSi (va_Run.run (va_runV (As := [.int a2]) (rest := []) ⟨hx, hb, hml, hown, hts⟩ (c_X5_lives l dC dI q k st a2 hok _ rfl) (cwV 1 hts gX9_derive_X5_lives rfl rfl rfl (by decide +kernel) ⟨Nat.le_of_ble_eq_true rfl, Nat.le_of_ble_eq_true rfl⟩) ⟨fb_C, va_recv hK.1 hP (ci := 5) (q0 := 8) rfl rfl, fun U hU hW => ⟨rfl, by rw [hU]; exact hP, hK.warm hW⟩⟩ rfl rfl hl.1 rfl (lv_room (Nat.le_of_ble_eq_true rfl)) dX9_derive_71 ⟨Nat.le_of_ble_eq_true rfl, Nat.le_of_ble_eq_true rfl⟩)) (fun r9 e9 => ?_)
            subst e9
            refine lv_if_ne (tgt := 87) hx hb dX9_derive_74 (by decide) (fun h74_16 => ?_) (fun h74_16 => ?_)
            · have he := (if_neg h74_16).symm.trans he
              refine lv_aload_n hx hb dX9_derive_87 rfl (lv_at hl 1 rfl) ?_
              refine va_get (D := (dC, dI)) (ci := 9) (v := .ref (q 8)) (C := RX9) (T := TX9) (N := 10) hx hb hts hi9 hown hK.1 hP 0 rfl rfl 7 (by decide) hf61 (fun _ h9 => h9) rfl dX9_derive_88 ?_
              refine lv_iload_n hx hb dX9_derive_91 rfl (lv_at hl 2 rfl) ?_
              refine lv_iload_n hx hb dX9_derive_92 rfl (lv_at hl 3 rfl) ?_
              refine lv_iload hx hb dX9_derive_93 (lv_at hl 0 rfl) ?_
              refine va_calli (va_runV (As := [.int a1, .int a2, .int a2]) (rest := []) ⟨hx, hb, hml, hown, hts⟩ (c_X5_addDerived l dC dI q k st a1 a2 a2 hq hok _ rfl) (cwV 3 hts gX9_derive_X5_addDerived rfl rfl rfl (by decide +kernel) ⟨Nat.le_of_ble_eq_true rfl, Nat.le_of_ble_eq_true rfl⟩) ⟨fb_C, va_recv hK.1 hP (ci := 5) (q0 := 8) rfl rfl, fun U hU hW => ⟨rfl, by rw [hU]; exact hP, hK.warm hW⟩⟩ rfl rfl hl.1 rfl (lv_room (Nat.le_of_ble_eq_true rfl)) dX9_derive_95 ⟨Nat.le_of_ble_eq_true rfl, Nat.le_of_ble_eq_true rfl⟩) hS (fun _ _ h => h) (fun _ h => h) (fun r9 u9 t9 H locs ht9 hv9 e9 hB9 hz9 hk9 hS => ?_)
              rw [ht9] at hB9
              subst e9
              have hP : va_P (dC, dI) vwCl (wC q k ((sp_X5_addDerived st a1 a2 a2).2)) H := hB9
              refine lv_istore (lv' := [(5, .int ((sp_X5_addDerived st a1 a2 a2).1)), (4, .int a2), (0, .ref (q 0)), (1, .int a1), (2, .int a2), (3, .int a3)]) hx hb dX9_derive_98 hl (by decide) rfl (fun ls hl => ?_)
              refine lv_iload hx hb dX9_derive_100 (lv_at hl 0 rfl) ?_
              refine lv_if_ge (tgt := 115) hx hb dX9_derive_102 (by decide) (fun h102_17 => ?_) (fun h102_17 => ?_)
              · have he := (if_pos h102_17).symm.trans he
                refine lv_iload hx hb dX9_derive_115 (lv_at hl 0 rfl) ?_
                refine W.widen (k := 1) (n := 6) (by decide) (by decide) ?_
                refine vx_ret ?_
                exact W.iret (v := (sp_X5_addDerived st a1 a2 a2).1) hx hb hr (fun t ht hW => ⟨⟨_, (), rfl, (by rw [← he]; exact ⟨rfl, rfl⟩ : res.1 = 0 ∧ _ = res.2.1), by show va_P _ _ _ t.heap; rw [ht, ← he]; exact hP⟩, hS.F ht⟩) hS.2.2 dX9_derive_117
              · have he := (if_neg h102_17).symm.trans he
                obtain ⟨sa9, hsa9⟩ := hT.2.2.2 (142, "there were 100 items") (by decide +kernel)
                refine vx_throwS (A := aC q) (own := RX9) (cls := "java/lang/IllegalStateException") (text := "there were 100 items") (names := ["java/lang/RuntimeException", "java/lang/Exception"]) hx hb hst hown (by decide +kernel) (by decide +kernel) (hts (.classLink RX9 91 "java/lang/IllegalStateException") (by decide +kernel)) (hts (.initialized "java/lang/IllegalStateException") (by decide +kernel)) hsa9 (vx_hat (B := badWs) (fun w9 h9 => hts w9 (List.mem_cons_of_mem _ (List.mem_append_right _ h9))) bad_2 (fun w9 h9 => va_Nw.use (bad_on w9 h9) (hT.2.2.1 w9 h9))) ot_2 hT.1 hT.2.1 hS (hl.1.trans hml.symm) dX9_derive_105 dX9_derive_108 dX9_derive_109 dX9_derive_111 dX9_derive_114 (fun x9 h9 => (hnt x9 h9).elim) (Nat.le_of_ble_eq_true rfl) (Nat.le_of_ble_eq_true rfl) (Nat.le_of_ble_eq_true rfl) (Nat.le_of_ble_eq_true rfl) hlocks (fun t9 h91 h92 h93 => ⟨(), trivial, ⟨by rw [← he]; exact Or.inr (Or.inl ⟨rfl, rfl⟩), by rw [← he]; exact hP.kept (fun k9 q9 hk9 => h93 _ (va_at.lt (hP k9 q9 hk9)))⟩, Nat.le_trans hS.1 h92, fun z9 hz9 hA9 => (h93 z9 (Nat.lt_of_lt_of_le hz9 hS.1)).trans (hS.2.1 z9 hz9 hA9)⟩) hS.2.2 (Nat.le_of_ble_eq_true rfl) (Nat.le_of_ble_eq_true rfl)
            · have he := (if_pos h74_16).symm.trans he
              obtain ⟨sa9, hsa9⟩ := hT.2.2.2 (153, "an input does not live") (by decide +kernel)
              refine vx_throwSN (A := aC q) (own := RX9) (cls := "java/util/NoSuchElementException") (text := "an input does not live") (names := ["java/lang/RuntimeException", "java/lang/Exception"]) hx hb hst hown (by decide +kernel) (by decide +kernel) (hts (.classLink RX9 151 "java/util/NoSuchElementException") (by decide +kernel)) (hts (.initialized "java/util/NoSuchElementException") (by decide +kernel)) hsa9 (vx_hat (B := badWs) (fun w9 h9 => hts w9 (List.mem_cons_of_mem _ (List.mem_append_left _ (List.mem_append_right _ h9)))) bad_3 (fun w9 h9 => va_Nw.use (bad_on w9 h9) (hT.2.2.1 w9 h9))) ot_3 hT.1 hT.2.1 hS (hl.1.trans hml.symm) dX9_derive_77 dX9_derive_80 dX9_derive_81 dX9_derive_83 dX9_derive_86 (fun x9 h9 => (hnt x9 h9).elim) (Nat.le_of_ble_eq_true rfl) (Nat.le_of_ble_eq_true rfl) (Nat.le_of_ble_eq_true rfl) (Nat.le_of_ble_eq_true rfl) hlocks (fun t9 h91 h92 h93 => ⟨(), trivial, ⟨by rw [← he]; exact Or.inr (Or.inr ⟨rfl, rfl⟩), by rw [← he]; exact hP.kept (fun k9 q9 hk9 => h93 _ (va_at.lt (hP k9 q9 hk9)))⟩, Nat.le_trans hS.1 h92, fun z9 hz9 hA9 => (h93 z9 (Nat.lt_of_lt_of_le hz9 hS.1)).trans (hS.2.1 z9 hz9 hA9)⟩) hS.2.2 (Nat.le_of_ble_eq_true rfl) (Nat.le_of_ble_eq_true rfl)
      · have he := (if_pos h30_10).symm.trans he
        obtain ⟨sa9, hsa9⟩ := hT.2.2.2 (146, "both inputs are one item") (by decide +kernel)
        refine vx_throwS (A := aC q) (own := RX9) (cls := "java/lang/IllegalArgumentException") (text := "both inputs are one item") (names := ["java/lang/RuntimeException", "java/lang/Exception"]) hx hb hst hown (by decide +kernel) (by decide +kernel) (hts (.classLink RX9 80 "java/lang/IllegalArgumentException") (by decide +kernel)) (hts (.initialized "java/lang/IllegalArgumentException") (by decide +kernel)) hsa9 (vx_hat (B := badWs) (fun w9 h9 => hts w9 (List.mem_cons_of_mem _ (List.mem_append_left _ (List.mem_append_left _ (List.mem_append_right _ h9))))) bad_1 (fun w9 h9 => va_Nw.use (bad_on w9 h9) (hT.2.2.1 w9 h9))) ot_1 hT.1 hT.2.1 hS (hl.1.trans hml.symm) dX9_derive_33 dX9_derive_36 dX9_derive_37 dX9_derive_39 dX9_derive_42 (fun x9 h9 => (hnt x9 h9).elim) (Nat.le_of_ble_eq_true rfl) (Nat.le_of_ble_eq_true rfl) (Nat.le_of_ble_eq_true rfl) (Nat.le_of_ble_eq_true rfl) hlocks (fun t9 h91 h92 h93 => ⟨(), trivial, ⟨by rw [← he]; exact Or.inl ⟨rfl, rfl⟩, by rw [← he]; exact hP.kept (fun k9 q9 hk9 => h93 _ (va_at.lt (hP k9 q9 hk9)))⟩, Nat.le_trans hS.1 h92, fun z9 hz9 hA9 => (h93 z9 (Nat.lt_of_lt_of_le hz9 hS.1)).trans (hS.2.1 z9 hz9 hA9)⟩) hS.2.2 (Nat.le_of_ble_eq_true rfl) (Nat.le_of_ble_eq_true rfl)
  · have he := (if_neg h1_1).symm.trans he
    refine lv_iload_n hx hb dX9_derive_4 rfl (lv_at hl 1 rfl) ?_
    refine lv_iconst (v := 1) hx hb dX9_derive_5 (by decide) ?_
    refine lv_icmp_eq (tgt := 24) hx hb dX9_derive_6 (by decide) (fun h6_18 => ?_) (fun h6_18 => ?_)
    · have he := (if_pos h6_18).symm.trans he
      refine lv_iload_n hx hb dX9_derive_24 rfl (lv_at hl 1 rfl) ?_
      refine lv_if_eq (tgt := 43) hx hb dX9_derive_25 (by decide) (fun h25_19 => ?_) (fun h25_19 => ?_)
      · have he := (if_pos h25_19).symm.trans he
        refine lv_iload_n hx hb dX9_derive_43 rfl (lv_at hl 1 rfl) ?_
        refine lv_if_ne (tgt := 51) hx hb dX9_derive_44 (by decide) (fun h44_20 => ?_) (fun h44_20 => ?_)
        · have he := (if_neg h44_20).symm.trans he
          refine lv_iload_n hx hb dX9_derive_51 rfl (lv_at hl 3 rfl) ?_
          refine lv_istore (lv' := [(4, .int a3), (0, .ref (q 0)), (1, .int a1), (2, .int a2), (3, .int a3)]) hx hb dX9_derive_52 hl (by decide) rfl (fun ls hl => ?_)
          refine lv_aload_n hx hb dX9_derive_54 rfl (lv_at hl 1 rfl) ?_
          refine va_get (D := (dC, dI)) (ci := 9) (v := .ref (q 8)) (C := RX9) (T := TX9) (N := 10) hx hb hts hi9 hown hK.1 hP 0 rfl rfl 7 (by decide) hf61 (fun _ h9 => h9) rfl dX9_derive_55 ?_
          refine lv_iload_n hx hb dX9_derive_58 rfl (lv_at hl 3 rfl) ?_
          refine vp_callSi (va_Run.run (va_runV (As := [.int a2]) (rest := []) ⟨hx, hb, hml, hown, hts⟩ (c_X5_lives l dC dI q k st a2 hok _ rfl) (cwV 1 hts gX9_derive_X5_lives rfl rfl rfl (by decide +kernel) ⟨Nat.le_of_ble_eq_true rfl, Nat.le_of_ble_eq_true rfl⟩) ⟨fb_C, va_recv hK.1 hP (ci := 5) (q0 := 8) rfl rfl, fun U hU hW => ⟨rfl, by rw [hU]; exact hP, hK.warm hW⟩⟩ rfl rfl hl.1 rfl (lv_room (Nat.le_of_ble_eq_true rfl)) dX9_derive_59 ⟨Nat.le_of_ble_eq_true rfl, Nat.le_of_ble_eq_true rfl⟩)) (fun r9 e9 => ?_)
          subst e9
          refine lv_if_eq (tgt := 77) hx hb dX9_derive_62 (by decide) (fun h62_21 => ?_) (fun h62_21 => ?_)
          · have he := (if_pos h62_21).symm.trans he
            obtain ⟨sa9, hsa9⟩ := hT.2.2.2 (153, "an input does not live") (by decide +kernel)
            refine vx_throwSN (A := aC q) (own := RX9) (cls := "java/util/NoSuchElementException") (text := "an input does not live") (names := ["java/lang/RuntimeException", "java/lang/Exception"]) hx hb hst hown (by decide +kernel) (by decide +kernel) (hts (.classLink RX9 151 "java/util/NoSuchElementException") (by decide +kernel)) (hts (.initialized "java/util/NoSuchElementException") (by decide +kernel)) hsa9 (vx_hat (B := badWs) (fun w9 h9 => hts w9 (List.mem_cons_of_mem _ (List.mem_append_left _ (List.mem_append_right _ h9)))) bad_3 (fun w9 h9 => va_Nw.use (bad_on w9 h9) (hT.2.2.1 w9 h9))) ot_3 hT.1 hT.2.1 hS (hl.1.trans hml.symm) dX9_derive_77 dX9_derive_80 dX9_derive_81 dX9_derive_83 dX9_derive_86 (fun x9 h9 => (hnt x9 h9).elim) (Nat.le_of_ble_eq_true rfl) (Nat.le_of_ble_eq_true rfl) (Nat.le_of_ble_eq_true rfl) (Nat.le_of_ble_eq_true rfl) hlocks (fun t9 h91 h92 h93 => ⟨(), trivial, ⟨by rw [← he]; exact Or.inr (Or.inr ⟨rfl, rfl⟩), by rw [← he]; exact hP.kept (fun k9 q9 hk9 => h93 _ (va_at.lt (hP k9 q9 hk9)))⟩, Nat.le_trans hS.1 h92, fun z9 hz9 hA9 => (h93 z9 (Nat.lt_of_lt_of_le hz9 hS.1)).trans (hS.2.1 z9 hz9 hA9)⟩) hS.2.2 (Nat.le_of_ble_eq_true rfl) (Nat.le_of_ble_eq_true rfl)
          · have he := (if_neg h62_21).symm.trans he
            refine lv_aload_n hx hb dX9_derive_65 rfl (lv_at hl 1 rfl) ?_
            refine va_get (D := (dC, dI)) (ci := 9) (v := .ref (q 8)) (C := RX9) (T := TX9) (N := 10) hx hb hts hi9 hown hK.1 hP 0 rfl rfl 7 (by decide) hf61 (fun _ h9 => h9) rfl dX9_derive_66 ?_
            refine lv_iload hx hb dX9_derive_69 (lv_at hl 0 rfl) ?_
            refine vp_callSi (va_Run.run (va_runV (As := [.int a3]) (rest := []) ⟨hx, hb, hml, hown, hts⟩ (c_X5_lives l dC dI q k st a3 hok _ rfl) (cwV 1 hts gX9_derive_X5_lives rfl rfl rfl (by decide +kernel) ⟨Nat.le_of_ble_eq_true rfl, Nat.le_of_ble_eq_true rfl⟩) ⟨fb_C, va_recv hK.1 hP (ci := 5) (q0 := 8) rfl rfl, fun U hU hW => ⟨rfl, by rw [hU]; exact hP, hK.warm hW⟩⟩ rfl rfl hl.1 rfl (lv_room (Nat.le_of_ble_eq_true rfl)) dX9_derive_71 ⟨Nat.le_of_ble_eq_true rfl, Nat.le_of_ble_eq_true rfl⟩)) (fun r9 e9 => ?_)
            subst e9
            refine lv_if_ne (tgt := 87) hx hb dX9_derive_74 (by decide) (fun h74_22 => ?_) (fun h74_22 => ?_)
            · have he := (if_neg h74_22).symm.trans he
              refine lv_aload_n hx hb dX9_derive_87 rfl (lv_at hl 1 rfl) ?_
              refine va_get (D := (dC, dI)) (ci := 9) (v := .ref (q 8)) (C := RX9) (T := TX9) (N := 10) hx hb hts hi9 hown hK.1 hP 0 rfl rfl 7 (by decide) hf61 (fun _ h9 => h9) rfl dX9_derive_88 ?_
              refine lv_iload_n hx hb dX9_derive_91 rfl (lv_at hl 2 rfl) ?_
              refine lv_iload_n hx hb dX9_derive_92 rfl (lv_at hl 3 rfl) ?_
              refine lv_iload hx hb dX9_derive_93 (lv_at hl 0 rfl) ?_
              refine va_calli (va_runV (As := [.int a1, .int a2, .int a3]) (rest := []) ⟨hx, hb, hml, hown, hts⟩ (c_X5_addDerived l dC dI q k st a1 a2 a3 hq hok _ rfl) (cwV 3 hts gX9_derive_X5_addDerived rfl rfl rfl (by decide +kernel) ⟨Nat.le_of_ble_eq_true rfl, Nat.le_of_ble_eq_true rfl⟩) ⟨fb_C, va_recv hK.1 hP (ci := 5) (q0 := 8) rfl rfl, fun U hU hW => ⟨rfl, by rw [hU]; exact hP, hK.warm hW⟩⟩ rfl rfl hl.1 rfl (lv_room (Nat.le_of_ble_eq_true rfl)) dX9_derive_95 ⟨Nat.le_of_ble_eq_true rfl, Nat.le_of_ble_eq_true rfl⟩) hS (fun _ _ h => h) (fun _ h => h) (fun r9 u9 t9 H locs ht9 hv9 e9 hB9 hz9 hk9 hS => ?_)
              rw [ht9] at hB9
              subst e9
              have hP : va_P (dC, dI) vwCl (wC q k ((sp_X5_addDerived st a1 a2 a3).2)) H := hB9
              refine lv_istore (lv' := [(5, .int ((sp_X5_addDerived st a1 a2 a3).1)), (4, .int a3), (0, .ref (q 0)), (1, .int a1), (2, .int a2), (3, .int a3)]) hx hb dX9_derive_98 hl (by decide) rfl (fun ls hl => ?_)
              refine lv_iload hx hb dX9_derive_100 (lv_at hl 0 rfl) ?_
              refine lv_if_ge (tgt := 115) hx hb dX9_derive_102 (by decide) (fun h102_23 => ?_) (fun h102_23 => ?_)
              · have he := (if_pos h102_23).symm.trans he
                refine lv_iload hx hb dX9_derive_115 (lv_at hl 0 rfl) ?_
                refine W.widen (k := 1) (n := 6) (by decide) (by decide) ?_
                refine vx_ret ?_
                exact W.iret (v := (sp_X5_addDerived st a1 a2 a3).1) hx hb hr (fun t ht hW => ⟨⟨_, (), rfl, (by rw [← he]; exact ⟨rfl, rfl⟩ : res.1 = 0 ∧ _ = res.2.1), by show va_P _ _ _ t.heap; rw [ht, ← he]; exact hP⟩, hS.F ht⟩) hS.2.2 dX9_derive_117
              · have he := (if_neg h102_23).symm.trans he
                obtain ⟨sa9, hsa9⟩ := hT.2.2.2 (142, "there were 100 items") (by decide +kernel)
                refine vx_throwS (A := aC q) (own := RX9) (cls := "java/lang/IllegalStateException") (text := "there were 100 items") (names := ["java/lang/RuntimeException", "java/lang/Exception"]) hx hb hst hown (by decide +kernel) (by decide +kernel) (hts (.classLink RX9 91 "java/lang/IllegalStateException") (by decide +kernel)) (hts (.initialized "java/lang/IllegalStateException") (by decide +kernel)) hsa9 (vx_hat (B := badWs) (fun w9 h9 => hts w9 (List.mem_cons_of_mem _ (List.mem_append_right _ h9))) bad_2 (fun w9 h9 => va_Nw.use (bad_on w9 h9) (hT.2.2.1 w9 h9))) ot_2 hT.1 hT.2.1 hS (hl.1.trans hml.symm) dX9_derive_105 dX9_derive_108 dX9_derive_109 dX9_derive_111 dX9_derive_114 (fun x9 h9 => (hnt x9 h9).elim) (Nat.le_of_ble_eq_true rfl) (Nat.le_of_ble_eq_true rfl) (Nat.le_of_ble_eq_true rfl) (Nat.le_of_ble_eq_true rfl) hlocks (fun t9 h91 h92 h93 => ⟨(), trivial, ⟨by rw [← he]; exact Or.inr (Or.inl ⟨rfl, rfl⟩), by rw [← he]; exact hP.kept (fun k9 q9 hk9 => h93 _ (va_at.lt (hP k9 q9 hk9)))⟩, Nat.le_trans hS.1 h92, fun z9 hz9 hA9 => (h93 z9 (Nat.lt_of_lt_of_le hz9 hS.1)).trans (hS.2.1 z9 hz9 hA9)⟩) hS.2.2 (Nat.le_of_ble_eq_true rfl) (Nat.le_of_ble_eq_true rfl)
            · have he := (if_pos h74_22).symm.trans he
              obtain ⟨sa9, hsa9⟩ := hT.2.2.2 (153, "an input does not live") (by decide +kernel)
              refine vx_throwSN (A := aC q) (own := RX9) (cls := "java/util/NoSuchElementException") (text := "an input does not live") (names := ["java/lang/RuntimeException", "java/lang/Exception"]) hx hb hst hown (by decide +kernel) (by decide +kernel) (hts (.classLink RX9 151 "java/util/NoSuchElementException") (by decide +kernel)) (hts (.initialized "java/util/NoSuchElementException") (by decide +kernel)) hsa9 (vx_hat (B := badWs) (fun w9 h9 => hts w9 (List.mem_cons_of_mem _ (List.mem_append_left _ (List.mem_append_right _ h9)))) bad_3 (fun w9 h9 => va_Nw.use (bad_on w9 h9) (hT.2.2.1 w9 h9))) ot_3 hT.1 hT.2.1 hS (hl.1.trans hml.symm) dX9_derive_77 dX9_derive_80 dX9_derive_81 dX9_derive_83 dX9_derive_86 (fun x9 h9 => (hnt x9 h9).elim) (Nat.le_of_ble_eq_true rfl) (Nat.le_of_ble_eq_true rfl) (Nat.le_of_ble_eq_true rfl) (Nat.le_of_ble_eq_true rfl) hlocks (fun t9 h91 h92 h93 => ⟨(), trivial, ⟨by rw [← he]; exact Or.inr (Or.inr ⟨rfl, rfl⟩), by rw [← he]; exact hP.kept (fun k9 q9 hk9 => h93 _ (va_at.lt (hP k9 q9 hk9)))⟩, Nat.le_trans hS.1 h92, fun z9 hz9 hA9 => (h93 z9 (Nat.lt_of_lt_of_le hz9 hS.1)).trans (hS.2.1 z9 hz9 hA9)⟩) hS.2.2 (Nat.le_of_ble_eq_true rfl) (Nat.le_of_ble_eq_true rfl)
        · have he := (if_pos h44_20).symm.trans he
          refine lv_iload_n hx hb dX9_derive_47 rfl (lv_at hl 2 rfl) ?_
          refine lv_goto (tgt := 52) hx hb dX9_derive_48 (by decide) ?_
          refine lv_istore (lv' := [(4, .int a2), (0, .ref (q 0)), (1, .int a1), (2, .int a2), (3, .int a3)]) hx hb dX9_derive_52 hl (by decide) rfl (fun ls hl => ?_)
          refine lv_aload_n hx hb dX9_derive_54 rfl (lv_at hl 1 rfl) ?_
          refine va_get (D := (dC, dI)) (ci := 9) (v := .ref (q 8)) (C := RX9) (T := TX9) (N := 10) hx hb hts hi9 hown hK.1 hP 0 rfl rfl 7 (by decide) hf61 (fun _ h9 => h9) rfl dX9_derive_55 ?_
          refine lv_iload_n hx hb dX9_derive_58 rfl (lv_at hl 3 rfl) ?_
          refine vp_callSi (va_Run.run (va_runV (As := [.int a2]) (rest := []) ⟨hx, hb, hml, hown, hts⟩ (c_X5_lives l dC dI q k st a2 hok _ rfl) (cwV 1 hts gX9_derive_X5_lives rfl rfl rfl (by decide +kernel) ⟨Nat.le_of_ble_eq_true rfl, Nat.le_of_ble_eq_true rfl⟩) ⟨fb_C, va_recv hK.1 hP (ci := 5) (q0 := 8) rfl rfl, fun U hU hW => ⟨rfl, by rw [hU]; exact hP, hK.warm hW⟩⟩ rfl rfl hl.1 rfl (lv_room (Nat.le_of_ble_eq_true rfl)) dX9_derive_59 ⟨Nat.le_of_ble_eq_true rfl, Nat.le_of_ble_eq_true rfl⟩)) (fun r9 e9 => ?_)
          subst e9
          refine lv_if_eq (tgt := 77) hx hb dX9_derive_62 (by decide) (fun h62_24 => ?_) (fun h62_24 => ?_)
          · have he := (if_pos h62_24).symm.trans he
            obtain ⟨sa9, hsa9⟩ := hT.2.2.2 (153, "an input does not live") (by decide +kernel)
            refine vx_throwSN (A := aC q) (own := RX9) (cls := "java/util/NoSuchElementException") (text := "an input does not live") (names := ["java/lang/RuntimeException", "java/lang/Exception"]) hx hb hst hown (by decide +kernel) (by decide +kernel) (hts (.classLink RX9 151 "java/util/NoSuchElementException") (by decide +kernel)) (hts (.initialized "java/util/NoSuchElementException") (by decide +kernel)) hsa9 (vx_hat (B := badWs) (fun w9 h9 => hts w9 (List.mem_cons_of_mem _ (List.mem_append_left _ (List.mem_append_right _ h9)))) bad_3 (fun w9 h9 => va_Nw.use (bad_on w9 h9) (hT.2.2.1 w9 h9))) ot_3 hT.1 hT.2.1 hS (hl.1.trans hml.symm) dX9_derive_77 dX9_derive_80 dX9_derive_81 dX9_derive_83 dX9_derive_86 (fun x9 h9 => (hnt x9 h9).elim) (Nat.le_of_ble_eq_true rfl) (Nat.le_of_ble_eq_true rfl) (Nat.le_of_ble_eq_true rfl) (Nat.le_of_ble_eq_true rfl) hlocks (fun t9 h91 h92 h93 => ⟨(), trivial, ⟨by rw [← he]; exact Or.inr (Or.inr ⟨rfl, rfl⟩), by rw [← he]; exact hP.kept (fun k9 q9 hk9 => h93 _ (va_at.lt (hP k9 q9 hk9)))⟩, Nat.le_trans hS.1 h92, fun z9 hz9 hA9 => (h93 z9 (Nat.lt_of_lt_of_le hz9 hS.1)).trans (hS.2.1 z9 hz9 hA9)⟩) hS.2.2 (Nat.le_of_ble_eq_true rfl) (Nat.le_of_ble_eq_true rfl)
          · have he := (if_neg h62_24).symm.trans he
            refine lv_aload_n hx hb dX9_derive_65 rfl (lv_at hl 1 rfl) ?_
            refine va_get (D := (dC, dI)) (ci := 9) (v := .ref (q 8)) (C := RX9) (T := TX9) (N := 10) hx hb hts hi9 hown hK.1 hP 0 rfl rfl 7 (by decide) hf61 (fun _ h9 => h9) rfl dX9_derive_66 ?_
            refine lv_iload hx hb dX9_derive_69 (lv_at hl 0 rfl) ?_
            refine vp_callSi (va_Run.run (va_runV (As := [.int a2]) (rest := []) ⟨hx, hb, hml, hown, hts⟩ (c_X5_lives l dC dI q k st a2 hok _ rfl) (cwV 1 hts gX9_derive_X5_lives rfl rfl rfl (by decide +kernel) ⟨Nat.le_of_ble_eq_true rfl, Nat.le_of_ble_eq_true rfl⟩) ⟨fb_C, va_recv hK.1 hP (ci := 5) (q0 := 8) rfl rfl, fun U hU hW => ⟨rfl, by rw [hU]; exact hP, hK.warm hW⟩⟩ rfl rfl hl.1 rfl (lv_room (Nat.le_of_ble_eq_true rfl)) dX9_derive_71 ⟨Nat.le_of_ble_eq_true rfl, Nat.le_of_ble_eq_true rfl⟩)) (fun r9 e9 => ?_)
            subst e9
            refine lv_if_ne (tgt := 87) hx hb dX9_derive_74 (by decide) (fun h74_25 => ?_) (fun h74_25 => ?_)
            · have he := (if_neg h74_25).symm.trans he
              refine lv_aload_n hx hb dX9_derive_87 rfl (lv_at hl 1 rfl) ?_
              refine va_get (D := (dC, dI)) (ci := 9) (v := .ref (q 8)) (C := RX9) (T := TX9) (N := 10) hx hb hts hi9 hown hK.1 hP 0 rfl rfl 7 (by decide) hf61 (fun _ h9 => h9) rfl dX9_derive_88 ?_
              refine lv_iload_n hx hb dX9_derive_91 rfl (lv_at hl 2 rfl) ?_
              refine lv_iload_n hx hb dX9_derive_92 rfl (lv_at hl 3 rfl) ?_
              refine lv_iload hx hb dX9_derive_93 (lv_at hl 0 rfl) ?_
              refine va_calli (va_runV (As := [.int a1, .int a2, .int a2]) (rest := []) ⟨hx, hb, hml, hown, hts⟩ (c_X5_addDerived l dC dI q k st a1 a2 a2 hq hok _ rfl) (cwV 3 hts gX9_derive_X5_addDerived rfl rfl rfl (by decide +kernel) ⟨Nat.le_of_ble_eq_true rfl, Nat.le_of_ble_eq_true rfl⟩) ⟨fb_C, va_recv hK.1 hP (ci := 5) (q0 := 8) rfl rfl, fun U hU hW => ⟨rfl, by rw [hU]; exact hP, hK.warm hW⟩⟩ rfl rfl hl.1 rfl (lv_room (Nat.le_of_ble_eq_true rfl)) dX9_derive_95 ⟨Nat.le_of_ble_eq_true rfl, Nat.le_of_ble_eq_true rfl⟩) hS (fun _ _ h => h) (fun _ h => h) (fun r9 u9 t9 H locs ht9 hv9 e9 hB9 hz9 hk9 hS => ?_)
              rw [ht9] at hB9
              subst e9
              have hP : va_P (dC, dI) vwCl (wC q k ((sp_X5_addDerived st a1 a2 a2).2)) H := hB9
              refine lv_istore (lv' := [(5, .int ((sp_X5_addDerived st a1 a2 a2).1)), (4, .int a2), (0, .ref (q 0)), (1, .int a1), (2, .int a2), (3, .int a3)]) hx hb dX9_derive_98 hl (by decide) rfl (fun ls hl => ?_)
              refine lv_iload hx hb dX9_derive_100 (lv_at hl 0 rfl) ?_
              refine lv_if_ge (tgt := 115) hx hb dX9_derive_102 (by decide) (fun h102_26 => ?_) (fun h102_26 => ?_)
              · have he := (if_pos h102_26).symm.trans he
                refine lv_iload hx hb dX9_derive_115 (lv_at hl 0 rfl) ?_
                refine W.widen (k := 1) (n := 6) (by decide) (by decide) ?_
                refine vx_ret ?_
                exact W.iret (v := (sp_X5_addDerived st a1 a2 a2).1) hx hb hr (fun t ht hW => ⟨⟨_, (), rfl, (by rw [← he]; exact ⟨rfl, rfl⟩ : res.1 = 0 ∧ _ = res.2.1), by show va_P _ _ _ t.heap; rw [ht, ← he]; exact hP⟩, hS.F ht⟩) hS.2.2 dX9_derive_117
              · have he := (if_neg h102_26).symm.trans he
                obtain ⟨sa9, hsa9⟩ := hT.2.2.2 (142, "there were 100 items") (by decide +kernel)
                refine vx_throwS (A := aC q) (own := RX9) (cls := "java/lang/IllegalStateException") (text := "there were 100 items") (names := ["java/lang/RuntimeException", "java/lang/Exception"]) hx hb hst hown (by decide +kernel) (by decide +kernel) (hts (.classLink RX9 91 "java/lang/IllegalStateException") (by decide +kernel)) (hts (.initialized "java/lang/IllegalStateException") (by decide +kernel)) hsa9 (vx_hat (B := badWs) (fun w9 h9 => hts w9 (List.mem_cons_of_mem _ (List.mem_append_right _ h9))) bad_2 (fun w9 h9 => va_Nw.use (bad_on w9 h9) (hT.2.2.1 w9 h9))) ot_2 hT.1 hT.2.1 hS (hl.1.trans hml.symm) dX9_derive_105 dX9_derive_108 dX9_derive_109 dX9_derive_111 dX9_derive_114 (fun x9 h9 => (hnt x9 h9).elim) (Nat.le_of_ble_eq_true rfl) (Nat.le_of_ble_eq_true rfl) (Nat.le_of_ble_eq_true rfl) (Nat.le_of_ble_eq_true rfl) hlocks (fun t9 h91 h92 h93 => ⟨(), trivial, ⟨by rw [← he]; exact Or.inr (Or.inl ⟨rfl, rfl⟩), by rw [← he]; exact hP.kept (fun k9 q9 hk9 => h93 _ (va_at.lt (hP k9 q9 hk9)))⟩, Nat.le_trans hS.1 h92, fun z9 hz9 hA9 => (h93 z9 (Nat.lt_of_lt_of_le hz9 hS.1)).trans (hS.2.1 z9 hz9 hA9)⟩) hS.2.2 (Nat.le_of_ble_eq_true rfl) (Nat.le_of_ble_eq_true rfl)
            · have he := (if_pos h74_25).symm.trans he
              obtain ⟨sa9, hsa9⟩ := hT.2.2.2 (153, "an input does not live") (by decide +kernel)
              refine vx_throwSN (A := aC q) (own := RX9) (cls := "java/util/NoSuchElementException") (text := "an input does not live") (names := ["java/lang/RuntimeException", "java/lang/Exception"]) hx hb hst hown (by decide +kernel) (by decide +kernel) (hts (.classLink RX9 151 "java/util/NoSuchElementException") (by decide +kernel)) (hts (.initialized "java/util/NoSuchElementException") (by decide +kernel)) hsa9 (vx_hat (B := badWs) (fun w9 h9 => hts w9 (List.mem_cons_of_mem _ (List.mem_append_left _ (List.mem_append_right _ h9)))) bad_3 (fun w9 h9 => va_Nw.use (bad_on w9 h9) (hT.2.2.1 w9 h9))) ot_3 hT.1 hT.2.1 hS (hl.1.trans hml.symm) dX9_derive_77 dX9_derive_80 dX9_derive_81 dX9_derive_83 dX9_derive_86 (fun x9 h9 => (hnt x9 h9).elim) (Nat.le_of_ble_eq_true rfl) (Nat.le_of_ble_eq_true rfl) (Nat.le_of_ble_eq_true rfl) (Nat.le_of_ble_eq_true rfl) hlocks (fun t9 h91 h92 h93 => ⟨(), trivial, ⟨by rw [← he]; exact Or.inr (Or.inr ⟨rfl, rfl⟩), by rw [← he]; exact hP.kept (fun k9 q9 hk9 => h93 _ (va_at.lt (hP k9 q9 hk9)))⟩, Nat.le_trans hS.1 h92, fun z9 hz9 hA9 => (h93 z9 (Nat.lt_of_lt_of_le hz9 hS.1)).trans (hS.2.1 z9 hz9 hA9)⟩) hS.2.2 (Nat.le_of_ble_eq_true rfl) (Nat.le_of_ble_eq_true rfl)
      · have he := (if_neg h25_19).symm.trans he
        refine lv_iload_n hx hb dX9_derive_28 rfl (lv_at hl 2 rfl) ?_
        refine lv_iload_n hx hb dX9_derive_29 rfl (lv_at hl 3 rfl) ?_
        refine lv_icmp_ne (tgt := 43) hx hb dX9_derive_30 (by decide) (fun h30_27 => ?_) (fun h30_27 => ?_)
        · have he := (if_neg h30_27).symm.trans he
          refine lv_iload_n hx hb dX9_derive_43 rfl (lv_at hl 1 rfl) ?_
          refine lv_if_ne (tgt := 51) hx hb dX9_derive_44 (by decide) (fun h44_28 => ?_) (fun h44_28 => ?_)
          · have he := (if_neg h44_28).symm.trans he
            refine lv_iload_n hx hb dX9_derive_51 rfl (lv_at hl 3 rfl) ?_
            refine lv_istore (lv' := [(4, .int a3), (0, .ref (q 0)), (1, .int a1), (2, .int a2), (3, .int a3)]) hx hb dX9_derive_52 hl (by decide) rfl (fun ls hl => ?_)
            refine lv_aload_n hx hb dX9_derive_54 rfl (lv_at hl 1 rfl) ?_
            refine va_get (D := (dC, dI)) (ci := 9) (v := .ref (q 8)) (C := RX9) (T := TX9) (N := 10) hx hb hts hi9 hown hK.1 hP 0 rfl rfl 7 (by decide) hf61 (fun _ h9 => h9) rfl dX9_derive_55 ?_
            refine lv_iload_n hx hb dX9_derive_58 rfl (lv_at hl 3 rfl) ?_
            refine vp_callSi (va_Run.run (va_runV (As := [.int a2]) (rest := []) ⟨hx, hb, hml, hown, hts⟩ (c_X5_lives l dC dI q k st a2 hok _ rfl) (cwV 1 hts gX9_derive_X5_lives rfl rfl rfl (by decide +kernel) ⟨Nat.le_of_ble_eq_true rfl, Nat.le_of_ble_eq_true rfl⟩) ⟨fb_C, va_recv hK.1 hP (ci := 5) (q0 := 8) rfl rfl, fun U hU hW => ⟨rfl, by rw [hU]; exact hP, hK.warm hW⟩⟩ rfl rfl hl.1 rfl (lv_room (Nat.le_of_ble_eq_true rfl)) dX9_derive_59 ⟨Nat.le_of_ble_eq_true rfl, Nat.le_of_ble_eq_true rfl⟩)) (fun r9 e9 => ?_)
            subst e9
            refine lv_if_eq (tgt := 77) hx hb dX9_derive_62 (by decide) (fun h62_29 => ?_) (fun h62_29 => ?_)
            · have he := (if_pos h62_29).symm.trans he
              obtain ⟨sa9, hsa9⟩ := hT.2.2.2 (153, "an input does not live") (by decide +kernel)
              refine vx_throwSN (A := aC q) (own := RX9) (cls := "java/util/NoSuchElementException") (text := "an input does not live") (names := ["java/lang/RuntimeException", "java/lang/Exception"]) hx hb hst hown (by decide +kernel) (by decide +kernel) (hts (.classLink RX9 151 "java/util/NoSuchElementException") (by decide +kernel)) (hts (.initialized "java/util/NoSuchElementException") (by decide +kernel)) hsa9 (vx_hat (B := badWs) (fun w9 h9 => hts w9 (List.mem_cons_of_mem _ (List.mem_append_left _ (List.mem_append_right _ h9)))) bad_3 (fun w9 h9 => va_Nw.use (bad_on w9 h9) (hT.2.2.1 w9 h9))) ot_3 hT.1 hT.2.1 hS (hl.1.trans hml.symm) dX9_derive_77 dX9_derive_80 dX9_derive_81 dX9_derive_83 dX9_derive_86 (fun x9 h9 => (hnt x9 h9).elim) (Nat.le_of_ble_eq_true rfl) (Nat.le_of_ble_eq_true rfl) (Nat.le_of_ble_eq_true rfl) (Nat.le_of_ble_eq_true rfl) hlocks (fun t9 h91 h92 h93 => ⟨(), trivial, ⟨by rw [← he]; exact Or.inr (Or.inr ⟨rfl, rfl⟩), by rw [← he]; exact hP.kept (fun k9 q9 hk9 => h93 _ (va_at.lt (hP k9 q9 hk9)))⟩, Nat.le_trans hS.1 h92, fun z9 hz9 hA9 => (h93 z9 (Nat.lt_of_lt_of_le hz9 hS.1)).trans (hS.2.1 z9 hz9 hA9)⟩) hS.2.2 (Nat.le_of_ble_eq_true rfl) (Nat.le_of_ble_eq_true rfl)
            · have he := (if_neg h62_29).symm.trans he
              refine lv_aload_n hx hb dX9_derive_65 rfl (lv_at hl 1 rfl) ?_
              refine va_get (D := (dC, dI)) (ci := 9) (v := .ref (q 8)) (C := RX9) (T := TX9) (N := 10) hx hb hts hi9 hown hK.1 hP 0 rfl rfl 7 (by decide) hf61 (fun _ h9 => h9) rfl dX9_derive_66 ?_
              refine lv_iload hx hb dX9_derive_69 (lv_at hl 0 rfl) ?_
              refine vp_callSi (va_Run.run (va_runV (As := [.int a3]) (rest := []) ⟨hx, hb, hml, hown, hts⟩ (c_X5_lives l dC dI q k st a3 hok _ rfl) (cwV 1 hts gX9_derive_X5_lives rfl rfl rfl (by decide +kernel) ⟨Nat.le_of_ble_eq_true rfl, Nat.le_of_ble_eq_true rfl⟩) ⟨fb_C, va_recv hK.1 hP (ci := 5) (q0 := 8) rfl rfl, fun U hU hW => ⟨rfl, by rw [hU]; exact hP, hK.warm hW⟩⟩ rfl rfl hl.1 rfl (lv_room (Nat.le_of_ble_eq_true rfl)) dX9_derive_71 ⟨Nat.le_of_ble_eq_true rfl, Nat.le_of_ble_eq_true rfl⟩)) (fun r9 e9 => ?_)
              subst e9
              refine lv_if_ne (tgt := 87) hx hb dX9_derive_74 (by decide) (fun h74_30 => ?_) (fun h74_30 => ?_)
              · have he := (if_neg h74_30).symm.trans he
                refine lv_aload_n hx hb dX9_derive_87 rfl (lv_at hl 1 rfl) ?_
                refine va_get (D := (dC, dI)) (ci := 9) (v := .ref (q 8)) (C := RX9) (T := TX9) (N := 10) hx hb hts hi9 hown hK.1 hP 0 rfl rfl 7 (by decide) hf61 (fun _ h9 => h9) rfl dX9_derive_88 ?_
                refine lv_iload_n hx hb dX9_derive_91 rfl (lv_at hl 2 rfl) ?_
                refine lv_iload_n hx hb dX9_derive_92 rfl (lv_at hl 3 rfl) ?_
                refine lv_iload hx hb dX9_derive_93 (lv_at hl 0 rfl) ?_
                refine va_calli (va_runV (As := [.int a1, .int a2, .int a3]) (rest := []) ⟨hx, hb, hml, hown, hts⟩ (c_X5_addDerived l dC dI q k st a1 a2 a3 hq hok _ rfl) (cwV 3 hts gX9_derive_X5_addDerived rfl rfl rfl (by decide +kernel) ⟨Nat.le_of_ble_eq_true rfl, Nat.le_of_ble_eq_true rfl⟩) ⟨fb_C, va_recv hK.1 hP (ci := 5) (q0 := 8) rfl rfl, fun U hU hW => ⟨rfl, by rw [hU]; exact hP, hK.warm hW⟩⟩ rfl rfl hl.1 rfl (lv_room (Nat.le_of_ble_eq_true rfl)) dX9_derive_95 ⟨Nat.le_of_ble_eq_true rfl, Nat.le_of_ble_eq_true rfl⟩) hS (fun _ _ h => h) (fun _ h => h) (fun r9 u9 t9 H locs ht9 hv9 e9 hB9 hz9 hk9 hS => ?_)
                rw [ht9] at hB9
                subst e9
                have hP : va_P (dC, dI) vwCl (wC q k ((sp_X5_addDerived st a1 a2 a3).2)) H := hB9
                refine lv_istore (lv' := [(5, .int ((sp_X5_addDerived st a1 a2 a3).1)), (4, .int a3), (0, .ref (q 0)), (1, .int a1), (2, .int a2), (3, .int a3)]) hx hb dX9_derive_98 hl (by decide) rfl (fun ls hl => ?_)
                refine lv_iload hx hb dX9_derive_100 (lv_at hl 0 rfl) ?_
                refine lv_if_ge (tgt := 115) hx hb dX9_derive_102 (by decide) (fun h102_31 => ?_) (fun h102_31 => ?_)
                · have he := (if_pos h102_31).symm.trans he
                  refine lv_iload hx hb dX9_derive_115 (lv_at hl 0 rfl) ?_
                  refine W.widen (k := 1) (n := 6) (by decide) (by decide) ?_
                  refine vx_ret ?_
                  exact W.iret (v := (sp_X5_addDerived st a1 a2 a3).1) hx hb hr (fun t ht hW => ⟨⟨_, (), rfl, (by rw [← he]; exact ⟨rfl, rfl⟩ : res.1 = 0 ∧ _ = res.2.1), by show va_P _ _ _ t.heap; rw [ht, ← he]; exact hP⟩, hS.F ht⟩) hS.2.2 dX9_derive_117
                · have he := (if_neg h102_31).symm.trans he
                  obtain ⟨sa9, hsa9⟩ := hT.2.2.2 (142, "there were 100 items") (by decide +kernel)
                  refine vx_throwS (A := aC q) (own := RX9) (cls := "java/lang/IllegalStateException") (text := "there were 100 items") (names := ["java/lang/RuntimeException", "java/lang/Exception"]) hx hb hst hown (by decide +kernel) (by decide +kernel) (hts (.classLink RX9 91 "java/lang/IllegalStateException") (by decide +kernel)) (hts (.initialized "java/lang/IllegalStateException") (by decide +kernel)) hsa9 (vx_hat (B := badWs) (fun w9 h9 => hts w9 (List.mem_cons_of_mem _ (List.mem_append_right _ h9))) bad_2 (fun w9 h9 => va_Nw.use (bad_on w9 h9) (hT.2.2.1 w9 h9))) ot_2 hT.1 hT.2.1 hS (hl.1.trans hml.symm) dX9_derive_105 dX9_derive_108 dX9_derive_109 dX9_derive_111 dX9_derive_114 (fun x9 h9 => (hnt x9 h9).elim) (Nat.le_of_ble_eq_true rfl) (Nat.le_of_ble_eq_true rfl) (Nat.le_of_ble_eq_true rfl) (Nat.le_of_ble_eq_true rfl) hlocks (fun t9 h91 h92 h93 => ⟨(), trivial, ⟨by rw [← he]; exact Or.inr (Or.inl ⟨rfl, rfl⟩), by rw [← he]; exact hP.kept (fun k9 q9 hk9 => h93 _ (va_at.lt (hP k9 q9 hk9)))⟩, Nat.le_trans hS.1 h92, fun z9 hz9 hA9 => (h93 z9 (Nat.lt_of_lt_of_le hz9 hS.1)).trans (hS.2.1 z9 hz9 hA9)⟩) hS.2.2 (Nat.le_of_ble_eq_true rfl) (Nat.le_of_ble_eq_true rfl)
              · have he := (if_pos h74_30).symm.trans he
                obtain ⟨sa9, hsa9⟩ := hT.2.2.2 (153, "an input does not live") (by decide +kernel)
                refine vx_throwSN (A := aC q) (own := RX9) (cls := "java/util/NoSuchElementException") (text := "an input does not live") (names := ["java/lang/RuntimeException", "java/lang/Exception"]) hx hb hst hown (by decide +kernel) (by decide +kernel) (hts (.classLink RX9 151 "java/util/NoSuchElementException") (by decide +kernel)) (hts (.initialized "java/util/NoSuchElementException") (by decide +kernel)) hsa9 (vx_hat (B := badWs) (fun w9 h9 => hts w9 (List.mem_cons_of_mem _ (List.mem_append_left _ (List.mem_append_right _ h9)))) bad_3 (fun w9 h9 => va_Nw.use (bad_on w9 h9) (hT.2.2.1 w9 h9))) ot_3 hT.1 hT.2.1 hS (hl.1.trans hml.symm) dX9_derive_77 dX9_derive_80 dX9_derive_81 dX9_derive_83 dX9_derive_86 (fun x9 h9 => (hnt x9 h9).elim) (Nat.le_of_ble_eq_true rfl) (Nat.le_of_ble_eq_true rfl) (Nat.le_of_ble_eq_true rfl) (Nat.le_of_ble_eq_true rfl) hlocks (fun t9 h91 h92 h93 => ⟨(), trivial, ⟨by rw [← he]; exact Or.inr (Or.inr ⟨rfl, rfl⟩), by rw [← he]; exact hP.kept (fun k9 q9 hk9 => h93 _ (va_at.lt (hP k9 q9 hk9)))⟩, Nat.le_trans hS.1 h92, fun z9 hz9 hA9 => (h93 z9 (Nat.lt_of_lt_of_le hz9 hS.1)).trans (hS.2.1 z9 hz9 hA9)⟩) hS.2.2 (Nat.le_of_ble_eq_true rfl) (Nat.le_of_ble_eq_true rfl)
          · have he := (if_pos h44_28).symm.trans he
            refine lv_iload_n hx hb dX9_derive_47 rfl (lv_at hl 2 rfl) ?_
            refine lv_goto (tgt := 52) hx hb dX9_derive_48 (by decide) ?_
            refine lv_istore (lv' := [(4, .int a2), (0, .ref (q 0)), (1, .int a1), (2, .int a2), (3, .int a3)]) hx hb dX9_derive_52 hl (by decide) rfl (fun ls hl => ?_)
            refine lv_aload_n hx hb dX9_derive_54 rfl (lv_at hl 1 rfl) ?_
            refine va_get (D := (dC, dI)) (ci := 9) (v := .ref (q 8)) (C := RX9) (T := TX9) (N := 10) hx hb hts hi9 hown hK.1 hP 0 rfl rfl 7 (by decide) hf61 (fun _ h9 => h9) rfl dX9_derive_55 ?_
            refine lv_iload_n hx hb dX9_derive_58 rfl (lv_at hl 3 rfl) ?_
            refine vp_callSi (va_Run.run (va_runV (As := [.int a2]) (rest := []) ⟨hx, hb, hml, hown, hts⟩ (c_X5_lives l dC dI q k st a2 hok _ rfl) (cwV 1 hts gX9_derive_X5_lives rfl rfl rfl (by decide +kernel) ⟨Nat.le_of_ble_eq_true rfl, Nat.le_of_ble_eq_true rfl⟩) ⟨fb_C, va_recv hK.1 hP (ci := 5) (q0 := 8) rfl rfl, fun U hU hW => ⟨rfl, by rw [hU]; exact hP, hK.warm hW⟩⟩ rfl rfl hl.1 rfl (lv_room (Nat.le_of_ble_eq_true rfl)) dX9_derive_59 ⟨Nat.le_of_ble_eq_true rfl, Nat.le_of_ble_eq_true rfl⟩)) (fun r9 e9 => ?_)
            subst e9
            refine lv_if_eq (tgt := 77) hx hb dX9_derive_62 (by decide) (fun h62_32 => ?_) (fun h62_32 => ?_)
            · have he := (if_pos h62_32).symm.trans he
              obtain ⟨sa9, hsa9⟩ := hT.2.2.2 (153, "an input does not live") (by decide +kernel)
              refine vx_throwSN (A := aC q) (own := RX9) (cls := "java/util/NoSuchElementException") (text := "an input does not live") (names := ["java/lang/RuntimeException", "java/lang/Exception"]) hx hb hst hown (by decide +kernel) (by decide +kernel) (hts (.classLink RX9 151 "java/util/NoSuchElementException") (by decide +kernel)) (hts (.initialized "java/util/NoSuchElementException") (by decide +kernel)) hsa9 (vx_hat (B := badWs) (fun w9 h9 => hts w9 (List.mem_cons_of_mem _ (List.mem_append_left _ (List.mem_append_right _ h9)))) bad_3 (fun w9 h9 => va_Nw.use (bad_on w9 h9) (hT.2.2.1 w9 h9))) ot_3 hT.1 hT.2.1 hS (hl.1.trans hml.symm) dX9_derive_77 dX9_derive_80 dX9_derive_81 dX9_derive_83 dX9_derive_86 (fun x9 h9 => (hnt x9 h9).elim) (Nat.le_of_ble_eq_true rfl) (Nat.le_of_ble_eq_true rfl) (Nat.le_of_ble_eq_true rfl) (Nat.le_of_ble_eq_true rfl) hlocks (fun t9 h91 h92 h93 => ⟨(), trivial, ⟨by rw [← he]; exact Or.inr (Or.inr ⟨rfl, rfl⟩), by rw [← he]; exact hP.kept (fun k9 q9 hk9 => h93 _ (va_at.lt (hP k9 q9 hk9)))⟩, Nat.le_trans hS.1 h92, fun z9 hz9 hA9 => (h93 z9 (Nat.lt_of_lt_of_le hz9 hS.1)).trans (hS.2.1 z9 hz9 hA9)⟩) hS.2.2 (Nat.le_of_ble_eq_true rfl) (Nat.le_of_ble_eq_true rfl)
            · have he := (if_neg h62_32).symm.trans he
              refine lv_aload_n hx hb dX9_derive_65 rfl (lv_at hl 1 rfl) ?_
              refine va_get (D := (dC, dI)) (ci := 9) (v := .ref (q 8)) (C := RX9) (T := TX9) (N := 10) hx hb hts hi9 hown hK.1 hP 0 rfl rfl 7 (by decide) hf61 (fun _ h9 => h9) rfl dX9_derive_66 ?_
              refine lv_iload hx hb dX9_derive_69 (lv_at hl 0 rfl) ?_
              refine vp_callSi (va_Run.run (va_runV (As := [.int a2]) (rest := []) ⟨hx, hb, hml, hown, hts⟩ (c_X5_lives l dC dI q k st a2 hok _ rfl) (cwV 1 hts gX9_derive_X5_lives rfl rfl rfl (by decide +kernel) ⟨Nat.le_of_ble_eq_true rfl, Nat.le_of_ble_eq_true rfl⟩) ⟨fb_C, va_recv hK.1 hP (ci := 5) (q0 := 8) rfl rfl, fun U hU hW => ⟨rfl, by rw [hU]; exact hP, hK.warm hW⟩⟩ rfl rfl hl.1 rfl (lv_room (Nat.le_of_ble_eq_true rfl)) dX9_derive_71 ⟨Nat.le_of_ble_eq_true rfl, Nat.le_of_ble_eq_true rfl⟩)) (fun r9 e9 => ?_)
              subst e9
              refine lv_if_ne (tgt := 87) hx hb dX9_derive_74 (by decide) (fun h74_33 => ?_) (fun h74_33 => ?_)
              · have he := (if_neg h74_33).symm.trans he
                refine lv_aload_n hx hb dX9_derive_87 rfl (lv_at hl 1 rfl) ?_
                refine va_get (D := (dC, dI)) (ci := 9) (v := .ref (q 8)) (C := RX9) (T := TX9) (N := 10) hx hb hts hi9 hown hK.1 hP 0 rfl rfl 7 (by decide) hf61 (fun _ h9 => h9) rfl dX9_derive_88 ?_
                refine lv_iload_n hx hb dX9_derive_91 rfl (lv_at hl 2 rfl) ?_
                refine lv_iload_n hx hb dX9_derive_92 rfl (lv_at hl 3 rfl) ?_
                refine lv_iload hx hb dX9_derive_93 (lv_at hl 0 rfl) ?_
                refine va_calli (va_runV (As := [.int a1, .int a2, .int a2]) (rest := []) ⟨hx, hb, hml, hown, hts⟩ (c_X5_addDerived l dC dI q k st a1 a2 a2 hq hok _ rfl) (cwV 3 hts gX9_derive_X5_addDerived rfl rfl rfl (by decide +kernel) ⟨Nat.le_of_ble_eq_true rfl, Nat.le_of_ble_eq_true rfl⟩) ⟨fb_C, va_recv hK.1 hP (ci := 5) (q0 := 8) rfl rfl, fun U hU hW => ⟨rfl, by rw [hU]; exact hP, hK.warm hW⟩⟩ rfl rfl hl.1 rfl (lv_room (Nat.le_of_ble_eq_true rfl)) dX9_derive_95 ⟨Nat.le_of_ble_eq_true rfl, Nat.le_of_ble_eq_true rfl⟩) hS (fun _ _ h => h) (fun _ h => h) (fun r9 u9 t9 H locs ht9 hv9 e9 hB9 hz9 hk9 hS => ?_)
                rw [ht9] at hB9
                subst e9
                have hP : va_P (dC, dI) vwCl (wC q k ((sp_X5_addDerived st a1 a2 a2).2)) H := hB9
                refine lv_istore (lv' := [(5, .int ((sp_X5_addDerived st a1 a2 a2).1)), (4, .int a2), (0, .ref (q 0)), (1, .int a1), (2, .int a2), (3, .int a3)]) hx hb dX9_derive_98 hl (by decide) rfl (fun ls hl => ?_)
                refine lv_iload hx hb dX9_derive_100 (lv_at hl 0 rfl) ?_
                refine lv_if_ge (tgt := 115) hx hb dX9_derive_102 (by decide) (fun h102_34 => ?_) (fun h102_34 => ?_)
                · have he := (if_pos h102_34).symm.trans he
                  refine lv_iload hx hb dX9_derive_115 (lv_at hl 0 rfl) ?_
                  refine W.widen (k := 1) (n := 6) (by decide) (by decide) ?_
                  refine vx_ret ?_
                  exact W.iret (v := (sp_X5_addDerived st a1 a2 a2).1) hx hb hr (fun t ht hW => ⟨⟨_, (), rfl, (by rw [← he]; exact ⟨rfl, rfl⟩ : res.1 = 0 ∧ _ = res.2.1), by show va_P _ _ _ t.heap; rw [ht, ← he]; exact hP⟩, hS.F ht⟩) hS.2.2 dX9_derive_117
                · have he := (if_neg h102_34).symm.trans he
                  obtain ⟨sa9, hsa9⟩ := hT.2.2.2 (142, "there were 100 items") (by decide +kernel)
                  refine vx_throwS (A := aC q) (own := RX9) (cls := "java/lang/IllegalStateException") (text := "there were 100 items") (names := ["java/lang/RuntimeException", "java/lang/Exception"]) hx hb hst hown (by decide +kernel) (by decide +kernel) (hts (.classLink RX9 91 "java/lang/IllegalStateException") (by decide +kernel)) (hts (.initialized "java/lang/IllegalStateException") (by decide +kernel)) hsa9 (vx_hat (B := badWs) (fun w9 h9 => hts w9 (List.mem_cons_of_mem _ (List.mem_append_right _ h9))) bad_2 (fun w9 h9 => va_Nw.use (bad_on w9 h9) (hT.2.2.1 w9 h9))) ot_2 hT.1 hT.2.1 hS (hl.1.trans hml.symm) dX9_derive_105 dX9_derive_108 dX9_derive_109 dX9_derive_111 dX9_derive_114 (fun x9 h9 => (hnt x9 h9).elim) (Nat.le_of_ble_eq_true rfl) (Nat.le_of_ble_eq_true rfl) (Nat.le_of_ble_eq_true rfl) (Nat.le_of_ble_eq_true rfl) hlocks (fun t9 h91 h92 h93 => ⟨(), trivial, ⟨by rw [← he]; exact Or.inr (Or.inl ⟨rfl, rfl⟩), by rw [← he]; exact hP.kept (fun k9 q9 hk9 => h93 _ (va_at.lt (hP k9 q9 hk9)))⟩, Nat.le_trans hS.1 h92, fun z9 hz9 hA9 => (h93 z9 (Nat.lt_of_lt_of_le hz9 hS.1)).trans (hS.2.1 z9 hz9 hA9)⟩) hS.2.2 (Nat.le_of_ble_eq_true rfl) (Nat.le_of_ble_eq_true rfl)
              · have he := (if_pos h74_33).symm.trans he
                obtain ⟨sa9, hsa9⟩ := hT.2.2.2 (153, "an input does not live") (by decide +kernel)
                refine vx_throwSN (A := aC q) (own := RX9) (cls := "java/util/NoSuchElementException") (text := "an input does not live") (names := ["java/lang/RuntimeException", "java/lang/Exception"]) hx hb hst hown (by decide +kernel) (by decide +kernel) (hts (.classLink RX9 151 "java/util/NoSuchElementException") (by decide +kernel)) (hts (.initialized "java/util/NoSuchElementException") (by decide +kernel)) hsa9 (vx_hat (B := badWs) (fun w9 h9 => hts w9 (List.mem_cons_of_mem _ (List.mem_append_left _ (List.mem_append_right _ h9)))) bad_3 (fun w9 h9 => va_Nw.use (bad_on w9 h9) (hT.2.2.1 w9 h9))) ot_3 hT.1 hT.2.1 hS (hl.1.trans hml.symm) dX9_derive_77 dX9_derive_80 dX9_derive_81 dX9_derive_83 dX9_derive_86 (fun x9 h9 => (hnt x9 h9).elim) (Nat.le_of_ble_eq_true rfl) (Nat.le_of_ble_eq_true rfl) (Nat.le_of_ble_eq_true rfl) (Nat.le_of_ble_eq_true rfl) hlocks (fun t9 h91 h92 h93 => ⟨(), trivial, ⟨by rw [← he]; exact Or.inr (Or.inr ⟨rfl, rfl⟩), by rw [← he]; exact hP.kept (fun k9 q9 hk9 => h93 _ (va_at.lt (hP k9 q9 hk9)))⟩, Nat.le_trans hS.1 h92, fun z9 hz9 hA9 => (h93 z9 (Nat.lt_of_lt_of_le hz9 hS.1)).trans (hS.2.1 z9 hz9 hA9)⟩) hS.2.2 (Nat.le_of_ble_eq_true rfl) (Nat.le_of_ble_eq_true rfl)
        · have he := (if_pos h30_27).symm.trans he
          obtain ⟨sa9, hsa9⟩ := hT.2.2.2 (146, "both inputs are one item") (by decide +kernel)
          refine vx_throwS (A := aC q) (own := RX9) (cls := "java/lang/IllegalArgumentException") (text := "both inputs are one item") (names := ["java/lang/RuntimeException", "java/lang/Exception"]) hx hb hst hown (by decide +kernel) (by decide +kernel) (hts (.classLink RX9 80 "java/lang/IllegalArgumentException") (by decide +kernel)) (hts (.initialized "java/lang/IllegalArgumentException") (by decide +kernel)) hsa9 (vx_hat (B := badWs) (fun w9 h9 => hts w9 (List.mem_cons_of_mem _ (List.mem_append_left _ (List.mem_append_left _ (List.mem_append_right _ h9))))) bad_1 (fun w9 h9 => va_Nw.use (bad_on w9 h9) (hT.2.2.1 w9 h9))) ot_1 hT.1 hT.2.1 hS (hl.1.trans hml.symm) dX9_derive_33 dX9_derive_36 dX9_derive_37 dX9_derive_39 dX9_derive_42 (fun x9 h9 => (hnt x9 h9).elim) (Nat.le_of_ble_eq_true rfl) (Nat.le_of_ble_eq_true rfl) (Nat.le_of_ble_eq_true rfl) (Nat.le_of_ble_eq_true rfl) hlocks (fun t9 h91 h92 h93 => ⟨(), trivial, ⟨by rw [← he]; exact Or.inl ⟨rfl, rfl⟩, by rw [← he]; exact hP.kept (fun k9 q9 hk9 => h93 _ (va_at.lt (hP k9 q9 hk9)))⟩, Nat.le_trans hS.1 h92, fun z9 hz9 hA9 => (h93 z9 (Nat.lt_of_lt_of_le hz9 hS.1)).trans (hS.2.1 z9 hz9 hA9)⟩) hS.2.2 (Nat.le_of_ble_eq_true rfl) (Nat.le_of_ble_eq_true rfl)
    · have he := (if_neg h6_18).symm.trans he
      refine lv_iload_n hx hb dX9_derive_9 rfl (lv_at hl 1 rfl) ?_
      refine lv_iconst (v := 2) hx hb dX9_derive_10 (by decide) ?_
      refine lv_icmp_eq (tgt := 24) hx hb dX9_derive_11 (by decide) (fun h11_35 => ?_) (fun h11_35 => ?_)
      · have he := (if_pos h11_35).symm.trans he
        refine lv_iload_n hx hb dX9_derive_24 rfl (lv_at hl 1 rfl) ?_
        refine lv_if_eq (tgt := 43) hx hb dX9_derive_25 (by decide) (fun h25_36 => ?_) (fun h25_36 => ?_)
        · have he := (if_pos h25_36).symm.trans he
          refine lv_iload_n hx hb dX9_derive_43 rfl (lv_at hl 1 rfl) ?_
          refine lv_if_ne (tgt := 51) hx hb dX9_derive_44 (by decide) (fun h44_37 => ?_) (fun h44_37 => ?_)
          · have he := (if_neg h44_37).symm.trans he
            refine lv_iload_n hx hb dX9_derive_51 rfl (lv_at hl 3 rfl) ?_
            refine lv_istore (lv' := [(4, .int a3), (0, .ref (q 0)), (1, .int a1), (2, .int a2), (3, .int a3)]) hx hb dX9_derive_52 hl (by decide) rfl (fun ls hl => ?_)
            refine lv_aload_n hx hb dX9_derive_54 rfl (lv_at hl 1 rfl) ?_
            refine va_get (D := (dC, dI)) (ci := 9) (v := .ref (q 8)) (C := RX9) (T := TX9) (N := 10) hx hb hts hi9 hown hK.1 hP 0 rfl rfl 7 (by decide) hf61 (fun _ h9 => h9) rfl dX9_derive_55 ?_
            refine lv_iload_n hx hb dX9_derive_58 rfl (lv_at hl 3 rfl) ?_
            refine vp_callSi (va_Run.run (va_runV (As := [.int a2]) (rest := []) ⟨hx, hb, hml, hown, hts⟩ (c_X5_lives l dC dI q k st a2 hok _ rfl) (cwV 1 hts gX9_derive_X5_lives rfl rfl rfl (by decide +kernel) ⟨Nat.le_of_ble_eq_true rfl, Nat.le_of_ble_eq_true rfl⟩) ⟨fb_C, va_recv hK.1 hP (ci := 5) (q0 := 8) rfl rfl, fun U hU hW => ⟨rfl, by rw [hU]; exact hP, hK.warm hW⟩⟩ rfl rfl hl.1 rfl (lv_room (Nat.le_of_ble_eq_true rfl)) dX9_derive_59 ⟨Nat.le_of_ble_eq_true rfl, Nat.le_of_ble_eq_true rfl⟩)) (fun r9 e9 => ?_)
            subst e9
            refine lv_if_eq (tgt := 77) hx hb dX9_derive_62 (by decide) (fun h62_38 => ?_) (fun h62_38 => ?_)
            · have he := (if_pos h62_38).symm.trans he
              obtain ⟨sa9, hsa9⟩ := hT.2.2.2 (153, "an input does not live") (by decide +kernel)
              refine vx_throwSN (A := aC q) (own := RX9) (cls := "java/util/NoSuchElementException") (text := "an input does not live") (names := ["java/lang/RuntimeException", "java/lang/Exception"]) hx hb hst hown (by decide +kernel) (by decide +kernel) (hts (.classLink RX9 151 "java/util/NoSuchElementException") (by decide +kernel)) (hts (.initialized "java/util/NoSuchElementException") (by decide +kernel)) hsa9 (vx_hat (B := badWs) (fun w9 h9 => hts w9 (List.mem_cons_of_mem _ (List.mem_append_left _ (List.mem_append_right _ h9)))) bad_3 (fun w9 h9 => va_Nw.use (bad_on w9 h9) (hT.2.2.1 w9 h9))) ot_3 hT.1 hT.2.1 hS (hl.1.trans hml.symm) dX9_derive_77 dX9_derive_80 dX9_derive_81 dX9_derive_83 dX9_derive_86 (fun x9 h9 => (hnt x9 h9).elim) (Nat.le_of_ble_eq_true rfl) (Nat.le_of_ble_eq_true rfl) (Nat.le_of_ble_eq_true rfl) (Nat.le_of_ble_eq_true rfl) hlocks (fun t9 h91 h92 h93 => ⟨(), trivial, ⟨by rw [← he]; exact Or.inr (Or.inr ⟨rfl, rfl⟩), by rw [← he]; exact hP.kept (fun k9 q9 hk9 => h93 _ (va_at.lt (hP k9 q9 hk9)))⟩, Nat.le_trans hS.1 h92, fun z9 hz9 hA9 => (h93 z9 (Nat.lt_of_lt_of_le hz9 hS.1)).trans (hS.2.1 z9 hz9 hA9)⟩) hS.2.2 (Nat.le_of_ble_eq_true rfl) (Nat.le_of_ble_eq_true rfl)
            · have he := (if_neg h62_38).symm.trans he
              refine lv_aload_n hx hb dX9_derive_65 rfl (lv_at hl 1 rfl) ?_
              refine va_get (D := (dC, dI)) (ci := 9) (v := .ref (q 8)) (C := RX9) (T := TX9) (N := 10) hx hb hts hi9 hown hK.1 hP 0 rfl rfl 7 (by decide) hf61 (fun _ h9 => h9) rfl dX9_derive_66 ?_
              refine lv_iload hx hb dX9_derive_69 (lv_at hl 0 rfl) ?_
              refine vp_callSi (va_Run.run (va_runV (As := [.int a3]) (rest := []) ⟨hx, hb, hml, hown, hts⟩ (c_X5_lives l dC dI q k st a3 hok _ rfl) (cwV 1 hts gX9_derive_X5_lives rfl rfl rfl (by decide +kernel) ⟨Nat.le_of_ble_eq_true rfl, Nat.le_of_ble_eq_true rfl⟩) ⟨fb_C, va_recv hK.1 hP (ci := 5) (q0 := 8) rfl rfl, fun U hU hW => ⟨rfl, by rw [hU]; exact hP, hK.warm hW⟩⟩ rfl rfl hl.1 rfl (lv_room (Nat.le_of_ble_eq_true rfl)) dX9_derive_71 ⟨Nat.le_of_ble_eq_true rfl, Nat.le_of_ble_eq_true rfl⟩)) (fun r9 e9 => ?_)
              subst e9
              refine lv_if_ne (tgt := 87) hx hb dX9_derive_74 (by decide) (fun h74_39 => ?_) (fun h74_39 => ?_)
              · have he := (if_neg h74_39).symm.trans he
                refine lv_aload_n hx hb dX9_derive_87 rfl (lv_at hl 1 rfl) ?_
                refine va_get (D := (dC, dI)) (ci := 9) (v := .ref (q 8)) (C := RX9) (T := TX9) (N := 10) hx hb hts hi9 hown hK.1 hP 0 rfl rfl 7 (by decide) hf61 (fun _ h9 => h9) rfl dX9_derive_88 ?_
                refine lv_iload_n hx hb dX9_derive_91 rfl (lv_at hl 2 rfl) ?_
                refine lv_iload_n hx hb dX9_derive_92 rfl (lv_at hl 3 rfl) ?_
                refine lv_iload hx hb dX9_derive_93 (lv_at hl 0 rfl) ?_
                refine va_calli (va_runV (As := [.int a1, .int a2, .int a3]) (rest := []) ⟨hx, hb, hml, hown, hts⟩ (c_X5_addDerived l dC dI q k st a1 a2 a3 hq hok _ rfl) (cwV 3 hts gX9_derive_X5_addDerived rfl rfl rfl (by decide +kernel) ⟨Nat.le_of_ble_eq_true rfl, Nat.le_of_ble_eq_true rfl⟩) ⟨fb_C, va_recv hK.1 hP (ci := 5) (q0 := 8) rfl rfl, fun U hU hW => ⟨rfl, by rw [hU]; exact hP, hK.warm hW⟩⟩ rfl rfl hl.1 rfl (lv_room (Nat.le_of_ble_eq_true rfl)) dX9_derive_95 ⟨Nat.le_of_ble_eq_true rfl, Nat.le_of_ble_eq_true rfl⟩) hS (fun _ _ h => h) (fun _ h => h) (fun r9 u9 t9 H locs ht9 hv9 e9 hB9 hz9 hk9 hS => ?_)
                rw [ht9] at hB9
                subst e9
                have hP : va_P (dC, dI) vwCl (wC q k ((sp_X5_addDerived st a1 a2 a3).2)) H := hB9
                refine lv_istore (lv' := [(5, .int ((sp_X5_addDerived st a1 a2 a3).1)), (4, .int a3), (0, .ref (q 0)), (1, .int a1), (2, .int a2), (3, .int a3)]) hx hb dX9_derive_98 hl (by decide) rfl (fun ls hl => ?_)
                refine lv_iload hx hb dX9_derive_100 (lv_at hl 0 rfl) ?_
                refine lv_if_ge (tgt := 115) hx hb dX9_derive_102 (by decide) (fun h102_40 => ?_) (fun h102_40 => ?_)
                · have he := (if_pos h102_40).symm.trans he
                  refine lv_iload hx hb dX9_derive_115 (lv_at hl 0 rfl) ?_
                  refine W.widen (k := 1) (n := 6) (by decide) (by decide) ?_
                  refine vx_ret ?_
                  exact W.iret (v := (sp_X5_addDerived st a1 a2 a3).1) hx hb hr (fun t ht hW => ⟨⟨_, (), rfl, (by rw [← he]; exact ⟨rfl, rfl⟩ : res.1 = 0 ∧ _ = res.2.1), by show va_P _ _ _ t.heap; rw [ht, ← he]; exact hP⟩, hS.F ht⟩) hS.2.2 dX9_derive_117
                · have he := (if_neg h102_40).symm.trans he
                  obtain ⟨sa9, hsa9⟩ := hT.2.2.2 (142, "there were 100 items") (by decide +kernel)
                  refine vx_throwS (A := aC q) (own := RX9) (cls := "java/lang/IllegalStateException") (text := "there were 100 items") (names := ["java/lang/RuntimeException", "java/lang/Exception"]) hx hb hst hown (by decide +kernel) (by decide +kernel) (hts (.classLink RX9 91 "java/lang/IllegalStateException") (by decide +kernel)) (hts (.initialized "java/lang/IllegalStateException") (by decide +kernel)) hsa9 (vx_hat (B := badWs) (fun w9 h9 => hts w9 (List.mem_cons_of_mem _ (List.mem_append_right _ h9))) bad_2 (fun w9 h9 => va_Nw.use (bad_on w9 h9) (hT.2.2.1 w9 h9))) ot_2 hT.1 hT.2.1 hS (hl.1.trans hml.symm) dX9_derive_105 dX9_derive_108 dX9_derive_109 dX9_derive_111 dX9_derive_114 (fun x9 h9 => (hnt x9 h9).elim) (Nat.le_of_ble_eq_true rfl) (Nat.le_of_ble_eq_true rfl) (Nat.le_of_ble_eq_true rfl) (Nat.le_of_ble_eq_true rfl) hlocks (fun t9 h91 h92 h93 => ⟨(), trivial, ⟨by rw [← he]; exact Or.inr (Or.inl ⟨rfl, rfl⟩), by rw [← he]; exact hP.kept (fun k9 q9 hk9 => h93 _ (va_at.lt (hP k9 q9 hk9)))⟩, Nat.le_trans hS.1 h92, fun z9 hz9 hA9 => (h93 z9 (Nat.lt_of_lt_of_le hz9 hS.1)).trans (hS.2.1 z9 hz9 hA9)⟩) hS.2.2 (Nat.le_of_ble_eq_true rfl) (Nat.le_of_ble_eq_true rfl)
              · have he := (if_pos h74_39).symm.trans he
                obtain ⟨sa9, hsa9⟩ := hT.2.2.2 (153, "an input does not live") (by decide +kernel)
                refine vx_throwSN (A := aC q) (own := RX9) (cls := "java/util/NoSuchElementException") (text := "an input does not live") (names := ["java/lang/RuntimeException", "java/lang/Exception"]) hx hb hst hown (by decide +kernel) (by decide +kernel) (hts (.classLink RX9 151 "java/util/NoSuchElementException") (by decide +kernel)) (hts (.initialized "java/util/NoSuchElementException") (by decide +kernel)) hsa9 (vx_hat (B := badWs) (fun w9 h9 => hts w9 (List.mem_cons_of_mem _ (List.mem_append_left _ (List.mem_append_right _ h9)))) bad_3 (fun w9 h9 => va_Nw.use (bad_on w9 h9) (hT.2.2.1 w9 h9))) ot_3 hT.1 hT.2.1 hS (hl.1.trans hml.symm) dX9_derive_77 dX9_derive_80 dX9_derive_81 dX9_derive_83 dX9_derive_86 (fun x9 h9 => (hnt x9 h9).elim) (Nat.le_of_ble_eq_true rfl) (Nat.le_of_ble_eq_true rfl) (Nat.le_of_ble_eq_true rfl) (Nat.le_of_ble_eq_true rfl) hlocks (fun t9 h91 h92 h93 => ⟨(), trivial, ⟨by rw [← he]; exact Or.inr (Or.inr ⟨rfl, rfl⟩), by rw [← he]; exact hP.kept (fun k9 q9 hk9 => h93 _ (va_at.lt (hP k9 q9 hk9)))⟩, Nat.le_trans hS.1 h92, fun z9 hz9 hA9 => (h93 z9 (Nat.lt_of_lt_of_le hz9 hS.1)).trans (hS.2.1 z9 hz9 hA9)⟩) hS.2.2 (Nat.le_of_ble_eq_true rfl) (Nat.le_of_ble_eq_true rfl)
          · have he := (if_pos h44_37).symm.trans he
            refine lv_iload_n hx hb dX9_derive_47 rfl (lv_at hl 2 rfl) ?_
            refine lv_goto (tgt := 52) hx hb dX9_derive_48 (by decide) ?_
            refine lv_istore (lv' := [(4, .int a2), (0, .ref (q 0)), (1, .int a1), (2, .int a2), (3, .int a3)]) hx hb dX9_derive_52 hl (by decide) rfl (fun ls hl => ?_)
            refine lv_aload_n hx hb dX9_derive_54 rfl (lv_at hl 1 rfl) ?_
            refine va_get (D := (dC, dI)) (ci := 9) (v := .ref (q 8)) (C := RX9) (T := TX9) (N := 10) hx hb hts hi9 hown hK.1 hP 0 rfl rfl 7 (by decide) hf61 (fun _ h9 => h9) rfl dX9_derive_55 ?_
            refine lv_iload_n hx hb dX9_derive_58 rfl (lv_at hl 3 rfl) ?_
            refine vp_callSi (va_Run.run (va_runV (As := [.int a2]) (rest := []) ⟨hx, hb, hml, hown, hts⟩ (c_X5_lives l dC dI q k st a2 hok _ rfl) (cwV 1 hts gX9_derive_X5_lives rfl rfl rfl (by decide +kernel) ⟨Nat.le_of_ble_eq_true rfl, Nat.le_of_ble_eq_true rfl⟩) ⟨fb_C, va_recv hK.1 hP (ci := 5) (q0 := 8) rfl rfl, fun U hU hW => ⟨rfl, by rw [hU]; exact hP, hK.warm hW⟩⟩ rfl rfl hl.1 rfl (lv_room (Nat.le_of_ble_eq_true rfl)) dX9_derive_59 ⟨Nat.le_of_ble_eq_true rfl, Nat.le_of_ble_eq_true rfl⟩)) (fun r9 e9 => ?_)
            subst e9
            refine lv_if_eq (tgt := 77) hx hb dX9_derive_62 (by decide) (fun h62_41 => ?_) (fun h62_41 => ?_)
            · have he := (if_pos h62_41).symm.trans he
              obtain ⟨sa9, hsa9⟩ := hT.2.2.2 (153, "an input does not live") (by decide +kernel)
              refine vx_throwSN (A := aC q) (own := RX9) (cls := "java/util/NoSuchElementException") (text := "an input does not live") (names := ["java/lang/RuntimeException", "java/lang/Exception"]) hx hb hst hown (by decide +kernel) (by decide +kernel) (hts (.classLink RX9 151 "java/util/NoSuchElementException") (by decide +kernel)) (hts (.initialized "java/util/NoSuchElementException") (by decide +kernel)) hsa9 (vx_hat (B := badWs) (fun w9 h9 => hts w9 (List.mem_cons_of_mem _ (List.mem_append_left _ (List.mem_append_right _ h9)))) bad_3 (fun w9 h9 => va_Nw.use (bad_on w9 h9) (hT.2.2.1 w9 h9))) ot_3 hT.1 hT.2.1 hS (hl.1.trans hml.symm) dX9_derive_77 dX9_derive_80 dX9_derive_81 dX9_derive_83 dX9_derive_86 (fun x9 h9 => (hnt x9 h9).elim) (Nat.le_of_ble_eq_true rfl) (Nat.le_of_ble_eq_true rfl) (Nat.le_of_ble_eq_true rfl) (Nat.le_of_ble_eq_true rfl) hlocks (fun t9 h91 h92 h93 => ⟨(), trivial, ⟨by rw [← he]; exact Or.inr (Or.inr ⟨rfl, rfl⟩), by rw [← he]; exact hP.kept (fun k9 q9 hk9 => h93 _ (va_at.lt (hP k9 q9 hk9)))⟩, Nat.le_trans hS.1 h92, fun z9 hz9 hA9 => (h93 z9 (Nat.lt_of_lt_of_le hz9 hS.1)).trans (hS.2.1 z9 hz9 hA9)⟩) hS.2.2 (Nat.le_of_ble_eq_true rfl) (Nat.le_of_ble_eq_true rfl)
            · have he := (if_neg h62_41).symm.trans he
              refine lv_aload_n hx hb dX9_derive_65 rfl (lv_at hl 1 rfl) ?_
              refine va_get (D := (dC, dI)) (ci := 9) (v := .ref (q 8)) (C := RX9) (T := TX9) (N := 10) hx hb hts hi9 hown hK.1 hP 0 rfl rfl 7 (by decide) hf61 (fun _ h9 => h9) rfl dX9_derive_66 ?_
              refine lv_iload hx hb dX9_derive_69 (lv_at hl 0 rfl) ?_
              refine vp_callSi (va_Run.run (va_runV (As := [.int a2]) (rest := []) ⟨hx, hb, hml, hown, hts⟩ (c_X5_lives l dC dI q k st a2 hok _ rfl) (cwV 1 hts gX9_derive_X5_lives rfl rfl rfl (by decide +kernel) ⟨Nat.le_of_ble_eq_true rfl, Nat.le_of_ble_eq_true rfl⟩) ⟨fb_C, va_recv hK.1 hP (ci := 5) (q0 := 8) rfl rfl, fun U hU hW => ⟨rfl, by rw [hU]; exact hP, hK.warm hW⟩⟩ rfl rfl hl.1 rfl (lv_room (Nat.le_of_ble_eq_true rfl)) dX9_derive_71 ⟨Nat.le_of_ble_eq_true rfl, Nat.le_of_ble_eq_true rfl⟩)) (fun r9 e9 => ?_)
              subst e9
              refine lv_if_ne (tgt := 87) hx hb dX9_derive_74 (by decide) (fun h74_42 => ?_) (fun h74_42 => ?_)
              · have he := (if_neg h74_42).symm.trans he
                refine lv_aload_n hx hb dX9_derive_87 rfl (lv_at hl 1 rfl) ?_
                refine va_get (D := (dC, dI)) (ci := 9) (v := .ref (q 8)) (C := RX9) (T := TX9) (N := 10) hx hb hts hi9 hown hK.1 hP 0 rfl rfl 7 (by decide) hf61 (fun _ h9 => h9) rfl dX9_derive_88 ?_
                refine lv_iload_n hx hb dX9_derive_91 rfl (lv_at hl 2 rfl) ?_
                refine lv_iload_n hx hb dX9_derive_92 rfl (lv_at hl 3 rfl) ?_
                refine lv_iload hx hb dX9_derive_93 (lv_at hl 0 rfl) ?_
                refine va_calli (va_runV (As := [.int a1, .int a2, .int a2]) (rest := []) ⟨hx, hb, hml, hown, hts⟩ (c_X5_addDerived l dC dI q k st a1 a2 a2 hq hok _ rfl) (cwV 3 hts gX9_derive_X5_addDerived rfl rfl rfl (by decide +kernel) ⟨Nat.le_of_ble_eq_true rfl, Nat.le_of_ble_eq_true rfl⟩) ⟨fb_C, va_recv hK.1 hP (ci := 5) (q0 := 8) rfl rfl, fun U hU hW => ⟨rfl, by rw [hU]; exact hP, hK.warm hW⟩⟩ rfl rfl hl.1 rfl (lv_room (Nat.le_of_ble_eq_true rfl)) dX9_derive_95 ⟨Nat.le_of_ble_eq_true rfl, Nat.le_of_ble_eq_true rfl⟩) hS (fun _ _ h => h) (fun _ h => h) (fun r9 u9 t9 H locs ht9 hv9 e9 hB9 hz9 hk9 hS => ?_)
                rw [ht9] at hB9
                subst e9
                have hP : va_P (dC, dI) vwCl (wC q k ((sp_X5_addDerived st a1 a2 a2).2)) H := hB9
                refine lv_istore (lv' := [(5, .int ((sp_X5_addDerived st a1 a2 a2).1)), (4, .int a2), (0, .ref (q 0)), (1, .int a1), (2, .int a2), (3, .int a3)]) hx hb dX9_derive_98 hl (by decide) rfl (fun ls hl => ?_)
                refine lv_iload hx hb dX9_derive_100 (lv_at hl 0 rfl) ?_
                refine lv_if_ge (tgt := 115) hx hb dX9_derive_102 (by decide) (fun h102_43 => ?_) (fun h102_43 => ?_)
                · have he := (if_pos h102_43).symm.trans he
                  refine lv_iload hx hb dX9_derive_115 (lv_at hl 0 rfl) ?_
                  refine W.widen (k := 1) (n := 6) (by decide) (by decide) ?_
                  refine vx_ret ?_
                  exact W.iret (v := (sp_X5_addDerived st a1 a2 a2).1) hx hb hr (fun t ht hW => ⟨⟨_, (), rfl, (by rw [← he]; exact ⟨rfl, rfl⟩ : res.1 = 0 ∧ _ = res.2.1), by show va_P _ _ _ t.heap; rw [ht, ← he]; exact hP⟩, hS.F ht⟩) hS.2.2 dX9_derive_117
                · have he := (if_neg h102_43).symm.trans he
                  obtain ⟨sa9, hsa9⟩ := hT.2.2.2 (142, "there were 100 items") (by decide +kernel)
                  refine vx_throwS (A := aC q) (own := RX9) (cls := "java/lang/IllegalStateException") (text := "there were 100 items") (names := ["java/lang/RuntimeException", "java/lang/Exception"]) hx hb hst hown (by decide +kernel) (by decide +kernel) (hts (.classLink RX9 91 "java/lang/IllegalStateException") (by decide +kernel)) (hts (.initialized "java/lang/IllegalStateException") (by decide +kernel)) hsa9 (vx_hat (B := badWs) (fun w9 h9 => hts w9 (List.mem_cons_of_mem _ (List.mem_append_right _ h9))) bad_2 (fun w9 h9 => va_Nw.use (bad_on w9 h9) (hT.2.2.1 w9 h9))) ot_2 hT.1 hT.2.1 hS (hl.1.trans hml.symm) dX9_derive_105 dX9_derive_108 dX9_derive_109 dX9_derive_111 dX9_derive_114 (fun x9 h9 => (hnt x9 h9).elim) (Nat.le_of_ble_eq_true rfl) (Nat.le_of_ble_eq_true rfl) (Nat.le_of_ble_eq_true rfl) (Nat.le_of_ble_eq_true rfl) hlocks (fun t9 h91 h92 h93 => ⟨(), trivial, ⟨by rw [← he]; exact Or.inr (Or.inl ⟨rfl, rfl⟩), by rw [← he]; exact hP.kept (fun k9 q9 hk9 => h93 _ (va_at.lt (hP k9 q9 hk9)))⟩, Nat.le_trans hS.1 h92, fun z9 hz9 hA9 => (h93 z9 (Nat.lt_of_lt_of_le hz9 hS.1)).trans (hS.2.1 z9 hz9 hA9)⟩) hS.2.2 (Nat.le_of_ble_eq_true rfl) (Nat.le_of_ble_eq_true rfl)
              · have he := (if_pos h74_42).symm.trans he
                obtain ⟨sa9, hsa9⟩ := hT.2.2.2 (153, "an input does not live") (by decide +kernel)
                refine vx_throwSN (A := aC q) (own := RX9) (cls := "java/util/NoSuchElementException") (text := "an input does not live") (names := ["java/lang/RuntimeException", "java/lang/Exception"]) hx hb hst hown (by decide +kernel) (by decide +kernel) (hts (.classLink RX9 151 "java/util/NoSuchElementException") (by decide +kernel)) (hts (.initialized "java/util/NoSuchElementException") (by decide +kernel)) hsa9 (vx_hat (B := badWs) (fun w9 h9 => hts w9 (List.mem_cons_of_mem _ (List.mem_append_left _ (List.mem_append_right _ h9)))) bad_3 (fun w9 h9 => va_Nw.use (bad_on w9 h9) (hT.2.2.1 w9 h9))) ot_3 hT.1 hT.2.1 hS (hl.1.trans hml.symm) dX9_derive_77 dX9_derive_80 dX9_derive_81 dX9_derive_83 dX9_derive_86 (fun x9 h9 => (hnt x9 h9).elim) (Nat.le_of_ble_eq_true rfl) (Nat.le_of_ble_eq_true rfl) (Nat.le_of_ble_eq_true rfl) (Nat.le_of_ble_eq_true rfl) hlocks (fun t9 h91 h92 h93 => ⟨(), trivial, ⟨by rw [← he]; exact Or.inr (Or.inr ⟨rfl, rfl⟩), by rw [← he]; exact hP.kept (fun k9 q9 hk9 => h93 _ (va_at.lt (hP k9 q9 hk9)))⟩, Nat.le_trans hS.1 h92, fun z9 hz9 hA9 => (h93 z9 (Nat.lt_of_lt_of_le hz9 hS.1)).trans (hS.2.1 z9 hz9 hA9)⟩) hS.2.2 (Nat.le_of_ble_eq_true rfl) (Nat.le_of_ble_eq_true rfl)
        · have he := (if_neg h25_36).symm.trans he
          refine lv_iload_n hx hb dX9_derive_28 rfl (lv_at hl 2 rfl) ?_
          refine lv_iload_n hx hb dX9_derive_29 rfl (lv_at hl 3 rfl) ?_
          refine lv_icmp_ne (tgt := 43) hx hb dX9_derive_30 (by decide) (fun h30_44 => ?_) (fun h30_44 => ?_)
          · have he := (if_neg h30_44).symm.trans he
            refine lv_iload_n hx hb dX9_derive_43 rfl (lv_at hl 1 rfl) ?_
            refine lv_if_ne (tgt := 51) hx hb dX9_derive_44 (by decide) (fun h44_45 => ?_) (fun h44_45 => ?_)
            · have he := (if_neg h44_45).symm.trans he
              refine lv_iload_n hx hb dX9_derive_51 rfl (lv_at hl 3 rfl) ?_
              refine lv_istore (lv' := [(4, .int a3), (0, .ref (q 0)), (1, .int a1), (2, .int a2), (3, .int a3)]) hx hb dX9_derive_52 hl (by decide) rfl (fun ls hl => ?_)
              refine lv_aload_n hx hb dX9_derive_54 rfl (lv_at hl 1 rfl) ?_
              refine va_get (D := (dC, dI)) (ci := 9) (v := .ref (q 8)) (C := RX9) (T := TX9) (N := 10) hx hb hts hi9 hown hK.1 hP 0 rfl rfl 7 (by decide) hf61 (fun _ h9 => h9) rfl dX9_derive_55 ?_
              refine lv_iload_n hx hb dX9_derive_58 rfl (lv_at hl 3 rfl) ?_
              refine vp_callSi (va_Run.run (va_runV (As := [.int a2]) (rest := []) ⟨hx, hb, hml, hown, hts⟩ (c_X5_lives l dC dI q k st a2 hok _ rfl) (cwV 1 hts gX9_derive_X5_lives rfl rfl rfl (by decide +kernel) ⟨Nat.le_of_ble_eq_true rfl, Nat.le_of_ble_eq_true rfl⟩) ⟨fb_C, va_recv hK.1 hP (ci := 5) (q0 := 8) rfl rfl, fun U hU hW => ⟨rfl, by rw [hU]; exact hP, hK.warm hW⟩⟩ rfl rfl hl.1 rfl (lv_room (Nat.le_of_ble_eq_true rfl)) dX9_derive_59 ⟨Nat.le_of_ble_eq_true rfl, Nat.le_of_ble_eq_true rfl⟩)) (fun r9 e9 => ?_)
              subst e9
              refine lv_if_eq (tgt := 77) hx hb dX9_derive_62 (by decide) (fun h62_46 => ?_) (fun h62_46 => ?_)
              · have he := (if_pos h62_46).symm.trans he
                obtain ⟨sa9, hsa9⟩ := hT.2.2.2 (153, "an input does not live") (by decide +kernel)
                refine vx_throwSN (A := aC q) (own := RX9) (cls := "java/util/NoSuchElementException") (text := "an input does not live") (names := ["java/lang/RuntimeException", "java/lang/Exception"]) hx hb hst hown (by decide +kernel) (by decide +kernel) (hts (.classLink RX9 151 "java/util/NoSuchElementException") (by decide +kernel)) (hts (.initialized "java/util/NoSuchElementException") (by decide +kernel)) hsa9 (vx_hat (B := badWs) (fun w9 h9 => hts w9 (List.mem_cons_of_mem _ (List.mem_append_left _ (List.mem_append_right _ h9)))) bad_3 (fun w9 h9 => va_Nw.use (bad_on w9 h9) (hT.2.2.1 w9 h9))) ot_3 hT.1 hT.2.1 hS (hl.1.trans hml.symm) dX9_derive_77 dX9_derive_80 dX9_derive_81 dX9_derive_83 dX9_derive_86 (fun x9 h9 => (hnt x9 h9).elim) (Nat.le_of_ble_eq_true rfl) (Nat.le_of_ble_eq_true rfl) (Nat.le_of_ble_eq_true rfl) (Nat.le_of_ble_eq_true rfl) hlocks (fun t9 h91 h92 h93 => ⟨(), trivial, ⟨by rw [← he]; exact Or.inr (Or.inr ⟨rfl, rfl⟩), by rw [← he]; exact hP.kept (fun k9 q9 hk9 => h93 _ (va_at.lt (hP k9 q9 hk9)))⟩, Nat.le_trans hS.1 h92, fun z9 hz9 hA9 => (h93 z9 (Nat.lt_of_lt_of_le hz9 hS.1)).trans (hS.2.1 z9 hz9 hA9)⟩) hS.2.2 (Nat.le_of_ble_eq_true rfl) (Nat.le_of_ble_eq_true rfl)
              · have he := (if_neg h62_46).symm.trans he
                refine lv_aload_n hx hb dX9_derive_65 rfl (lv_at hl 1 rfl) ?_
                refine va_get (D := (dC, dI)) (ci := 9) (v := .ref (q 8)) (C := RX9) (T := TX9) (N := 10) hx hb hts hi9 hown hK.1 hP 0 rfl rfl 7 (by decide) hf61 (fun _ h9 => h9) rfl dX9_derive_66 ?_
                refine lv_iload hx hb dX9_derive_69 (lv_at hl 0 rfl) ?_
                refine vp_callSi (va_Run.run (va_runV (As := [.int a3]) (rest := []) ⟨hx, hb, hml, hown, hts⟩ (c_X5_lives l dC dI q k st a3 hok _ rfl) (cwV 1 hts gX9_derive_X5_lives rfl rfl rfl (by decide +kernel) ⟨Nat.le_of_ble_eq_true rfl, Nat.le_of_ble_eq_true rfl⟩) ⟨fb_C, va_recv hK.1 hP (ci := 5) (q0 := 8) rfl rfl, fun U hU hW => ⟨rfl, by rw [hU]; exact hP, hK.warm hW⟩⟩ rfl rfl hl.1 rfl (lv_room (Nat.le_of_ble_eq_true rfl)) dX9_derive_71 ⟨Nat.le_of_ble_eq_true rfl, Nat.le_of_ble_eq_true rfl⟩)) (fun r9 e9 => ?_)
                subst e9
                refine lv_if_ne (tgt := 87) hx hb dX9_derive_74 (by decide) (fun h74_47 => ?_) (fun h74_47 => ?_)
                · have he := (if_neg h74_47).symm.trans he
                  refine lv_aload_n hx hb dX9_derive_87 rfl (lv_at hl 1 rfl) ?_
                  refine va_get (D := (dC, dI)) (ci := 9) (v := .ref (q 8)) (C := RX9) (T := TX9) (N := 10) hx hb hts hi9 hown hK.1 hP 0 rfl rfl 7 (by decide) hf61 (fun _ h9 => h9) rfl dX9_derive_88 ?_
                  refine lv_iload_n hx hb dX9_derive_91 rfl (lv_at hl 2 rfl) ?_
                  refine lv_iload_n hx hb dX9_derive_92 rfl (lv_at hl 3 rfl) ?_
                  refine lv_iload hx hb dX9_derive_93 (lv_at hl 0 rfl) ?_
                  refine va_calli (va_runV (As := [.int a1, .int a2, .int a3]) (rest := []) ⟨hx, hb, hml, hown, hts⟩ (c_X5_addDerived l dC dI q k st a1 a2 a3 hq hok _ rfl) (cwV 3 hts gX9_derive_X5_addDerived rfl rfl rfl (by decide +kernel) ⟨Nat.le_of_ble_eq_true rfl, Nat.le_of_ble_eq_true rfl⟩) ⟨fb_C, va_recv hK.1 hP (ci := 5) (q0 := 8) rfl rfl, fun U hU hW => ⟨rfl, by rw [hU]; exact hP, hK.warm hW⟩⟩ rfl rfl hl.1 rfl (lv_room (Nat.le_of_ble_eq_true rfl)) dX9_derive_95 ⟨Nat.le_of_ble_eq_true rfl, Nat.le_of_ble_eq_true rfl⟩) hS (fun _ _ h => h) (fun _ h => h) (fun r9 u9 t9 H locs ht9 hv9 e9 hB9 hz9 hk9 hS => ?_)
                  rw [ht9] at hB9
                  subst e9
                  have hP : va_P (dC, dI) vwCl (wC q k ((sp_X5_addDerived st a1 a2 a3).2)) H := hB9
                  refine lv_istore (lv' := [(5, .int ((sp_X5_addDerived st a1 a2 a3).1)), (4, .int a3), (0, .ref (q 0)), (1, .int a1), (2, .int a2), (3, .int a3)]) hx hb dX9_derive_98 hl (by decide) rfl (fun ls hl => ?_)
                  refine lv_iload hx hb dX9_derive_100 (lv_at hl 0 rfl) ?_
                  refine lv_if_ge (tgt := 115) hx hb dX9_derive_102 (by decide) (fun h102_48 => ?_) (fun h102_48 => ?_)
                  · have he := (if_pos h102_48).symm.trans he
                    refine lv_iload hx hb dX9_derive_115 (lv_at hl 0 rfl) ?_
                    refine W.widen (k := 1) (n := 6) (by decide) (by decide) ?_
                    refine vx_ret ?_
                    exact W.iret (v := (sp_X5_addDerived st a1 a2 a3).1) hx hb hr (fun t ht hW => ⟨⟨_, (), rfl, (by rw [← he]; exact ⟨rfl, rfl⟩ : res.1 = 0 ∧ _ = res.2.1), by show va_P _ _ _ t.heap; rw [ht, ← he]; exact hP⟩, hS.F ht⟩) hS.2.2 dX9_derive_117
                  · have he := (if_neg h102_48).symm.trans he
                    obtain ⟨sa9, hsa9⟩ := hT.2.2.2 (142, "there were 100 items") (by decide +kernel)
                    refine vx_throwS (A := aC q) (own := RX9) (cls := "java/lang/IllegalStateException") (text := "there were 100 items") (names := ["java/lang/RuntimeException", "java/lang/Exception"]) hx hb hst hown (by decide +kernel) (by decide +kernel) (hts (.classLink RX9 91 "java/lang/IllegalStateException") (by decide +kernel)) (hts (.initialized "java/lang/IllegalStateException") (by decide +kernel)) hsa9 (vx_hat (B := badWs) (fun w9 h9 => hts w9 (List.mem_cons_of_mem _ (List.mem_append_right _ h9))) bad_2 (fun w9 h9 => va_Nw.use (bad_on w9 h9) (hT.2.2.1 w9 h9))) ot_2 hT.1 hT.2.1 hS (hl.1.trans hml.symm) dX9_derive_105 dX9_derive_108 dX9_derive_109 dX9_derive_111 dX9_derive_114 (fun x9 h9 => (hnt x9 h9).elim) (Nat.le_of_ble_eq_true rfl) (Nat.le_of_ble_eq_true rfl) (Nat.le_of_ble_eq_true rfl) (Nat.le_of_ble_eq_true rfl) hlocks (fun t9 h91 h92 h93 => ⟨(), trivial, ⟨by rw [← he]; exact Or.inr (Or.inl ⟨rfl, rfl⟩), by rw [← he]; exact hP.kept (fun k9 q9 hk9 => h93 _ (va_at.lt (hP k9 q9 hk9)))⟩, Nat.le_trans hS.1 h92, fun z9 hz9 hA9 => (h93 z9 (Nat.lt_of_lt_of_le hz9 hS.1)).trans (hS.2.1 z9 hz9 hA9)⟩) hS.2.2 (Nat.le_of_ble_eq_true rfl) (Nat.le_of_ble_eq_true rfl)
                · have he := (if_pos h74_47).symm.trans he
                  obtain ⟨sa9, hsa9⟩ := hT.2.2.2 (153, "an input does not live") (by decide +kernel)
                  refine vx_throwSN (A := aC q) (own := RX9) (cls := "java/util/NoSuchElementException") (text := "an input does not live") (names := ["java/lang/RuntimeException", "java/lang/Exception"]) hx hb hst hown (by decide +kernel) (by decide +kernel) (hts (.classLink RX9 151 "java/util/NoSuchElementException") (by decide +kernel)) (hts (.initialized "java/util/NoSuchElementException") (by decide +kernel)) hsa9 (vx_hat (B := badWs) (fun w9 h9 => hts w9 (List.mem_cons_of_mem _ (List.mem_append_left _ (List.mem_append_right _ h9)))) bad_3 (fun w9 h9 => va_Nw.use (bad_on w9 h9) (hT.2.2.1 w9 h9))) ot_3 hT.1 hT.2.1 hS (hl.1.trans hml.symm) dX9_derive_77 dX9_derive_80 dX9_derive_81 dX9_derive_83 dX9_derive_86 (fun x9 h9 => (hnt x9 h9).elim) (Nat.le_of_ble_eq_true rfl) (Nat.le_of_ble_eq_true rfl) (Nat.le_of_ble_eq_true rfl) (Nat.le_of_ble_eq_true rfl) hlocks (fun t9 h91 h92 h93 => ⟨(), trivial, ⟨by rw [← he]; exact Or.inr (Or.inr ⟨rfl, rfl⟩), by rw [← he]; exact hP.kept (fun k9 q9 hk9 => h93 _ (va_at.lt (hP k9 q9 hk9)))⟩, Nat.le_trans hS.1 h92, fun z9 hz9 hA9 => (h93 z9 (Nat.lt_of_lt_of_le hz9 hS.1)).trans (hS.2.1 z9 hz9 hA9)⟩) hS.2.2 (Nat.le_of_ble_eq_true rfl) (Nat.le_of_ble_eq_true rfl)
            · have he := (if_pos h44_45).symm.trans he
              refine lv_iload_n hx hb dX9_derive_47 rfl (lv_at hl 2 rfl) ?_
              refine lv_goto (tgt := 52) hx hb dX9_derive_48 (by decide) ?_
              refine lv_istore (lv' := [(4, .int a2), (0, .ref (q 0)), (1, .int a1), (2, .int a2), (3, .int a3)]) hx hb dX9_derive_52 hl (by decide) rfl (fun ls hl => ?_)
              refine lv_aload_n hx hb dX9_derive_54 rfl (lv_at hl 1 rfl) ?_
              refine va_get (D := (dC, dI)) (ci := 9) (v := .ref (q 8)) (C := RX9) (T := TX9) (N := 10) hx hb hts hi9 hown hK.1 hP 0 rfl rfl 7 (by decide) hf61 (fun _ h9 => h9) rfl dX9_derive_55 ?_
              refine lv_iload_n hx hb dX9_derive_58 rfl (lv_at hl 3 rfl) ?_
              refine vp_callSi (va_Run.run (va_runV (As := [.int a2]) (rest := []) ⟨hx, hb, hml, hown, hts⟩ (c_X5_lives l dC dI q k st a2 hok _ rfl) (cwV 1 hts gX9_derive_X5_lives rfl rfl rfl (by decide +kernel) ⟨Nat.le_of_ble_eq_true rfl, Nat.le_of_ble_eq_true rfl⟩) ⟨fb_C, va_recv hK.1 hP (ci := 5) (q0 := 8) rfl rfl, fun U hU hW => ⟨rfl, by rw [hU]; exact hP, hK.warm hW⟩⟩ rfl rfl hl.1 rfl (lv_room (Nat.le_of_ble_eq_true rfl)) dX9_derive_59 ⟨Nat.le_of_ble_eq_true rfl, Nat.le_of_ble_eq_true rfl⟩)) (fun r9 e9 => ?_)
              subst e9
              refine lv_if_eq (tgt := 77) hx hb dX9_derive_62 (by decide) (fun h62_49 => ?_) (fun h62_49 => ?_)
              · have he := (if_pos h62_49).symm.trans he
                obtain ⟨sa9, hsa9⟩ := hT.2.2.2 (153, "an input does not live") (by decide +kernel)
                refine vx_throwSN (A := aC q) (own := RX9) (cls := "java/util/NoSuchElementException") (text := "an input does not live") (names := ["java/lang/RuntimeException", "java/lang/Exception"]) hx hb hst hown (by decide +kernel) (by decide +kernel) (hts (.classLink RX9 151 "java/util/NoSuchElementException") (by decide +kernel)) (hts (.initialized "java/util/NoSuchElementException") (by decide +kernel)) hsa9 (vx_hat (B := badWs) (fun w9 h9 => hts w9 (List.mem_cons_of_mem _ (List.mem_append_left _ (List.mem_append_right _ h9)))) bad_3 (fun w9 h9 => va_Nw.use (bad_on w9 h9) (hT.2.2.1 w9 h9))) ot_3 hT.1 hT.2.1 hS (hl.1.trans hml.symm) dX9_derive_77 dX9_derive_80 dX9_derive_81 dX9_derive_83 dX9_derive_86 (fun x9 h9 => (hnt x9 h9).elim) (Nat.le_of_ble_eq_true rfl) (Nat.le_of_ble_eq_true rfl) (Nat.le_of_ble_eq_true rfl) (Nat.le_of_ble_eq_true rfl) hlocks (fun t9 h91 h92 h93 => ⟨(), trivial, ⟨by rw [← he]; exact Or.inr (Or.inr ⟨rfl, rfl⟩), by rw [← he]; exact hP.kept (fun k9 q9 hk9 => h93 _ (va_at.lt (hP k9 q9 hk9)))⟩, Nat.le_trans hS.1 h92, fun z9 hz9 hA9 => (h93 z9 (Nat.lt_of_lt_of_le hz9 hS.1)).trans (hS.2.1 z9 hz9 hA9)⟩) hS.2.2 (Nat.le_of_ble_eq_true rfl) (Nat.le_of_ble_eq_true rfl)
              · have he := (if_neg h62_49).symm.trans he
                refine lv_aload_n hx hb dX9_derive_65 rfl (lv_at hl 1 rfl) ?_
                refine va_get (D := (dC, dI)) (ci := 9) (v := .ref (q 8)) (C := RX9) (T := TX9) (N := 10) hx hb hts hi9 hown hK.1 hP 0 rfl rfl 7 (by decide) hf61 (fun _ h9 => h9) rfl dX9_derive_66 ?_
                refine lv_iload hx hb dX9_derive_69 (lv_at hl 0 rfl) ?_
                refine vp_callSi (va_Run.run (va_runV (As := [.int a2]) (rest := []) ⟨hx, hb, hml, hown, hts⟩ (c_X5_lives l dC dI q k st a2 hok _ rfl) (cwV 1 hts gX9_derive_X5_lives rfl rfl rfl (by decide +kernel) ⟨Nat.le_of_ble_eq_true rfl, Nat.le_of_ble_eq_true rfl⟩) ⟨fb_C, va_recv hK.1 hP (ci := 5) (q0 := 8) rfl rfl, fun U hU hW => ⟨rfl, by rw [hU]; exact hP, hK.warm hW⟩⟩ rfl rfl hl.1 rfl (lv_room (Nat.le_of_ble_eq_true rfl)) dX9_derive_71 ⟨Nat.le_of_ble_eq_true rfl, Nat.le_of_ble_eq_true rfl⟩)) (fun r9 e9 => ?_)
                subst e9
                refine lv_if_ne (tgt := 87) hx hb dX9_derive_74 (by decide) (fun h74_50 => ?_) (fun h74_50 => ?_)
                · have he := (if_neg h74_50).symm.trans he
                  refine lv_aload_n hx hb dX9_derive_87 rfl (lv_at hl 1 rfl) ?_
                  refine va_get (D := (dC, dI)) (ci := 9) (v := .ref (q 8)) (C := RX9) (T := TX9) (N := 10) hx hb hts hi9 hown hK.1 hP 0 rfl rfl 7 (by decide) hf61 (fun _ h9 => h9) rfl dX9_derive_88 ?_
                  refine lv_iload_n hx hb dX9_derive_91 rfl (lv_at hl 2 rfl) ?_
                  refine lv_iload_n hx hb dX9_derive_92 rfl (lv_at hl 3 rfl) ?_
                  refine lv_iload hx hb dX9_derive_93 (lv_at hl 0 rfl) ?_
                  refine va_calli (va_runV (As := [.int a1, .int a2, .int a2]) (rest := []) ⟨hx, hb, hml, hown, hts⟩ (c_X5_addDerived l dC dI q k st a1 a2 a2 hq hok _ rfl) (cwV 3 hts gX9_derive_X5_addDerived rfl rfl rfl (by decide +kernel) ⟨Nat.le_of_ble_eq_true rfl, Nat.le_of_ble_eq_true rfl⟩) ⟨fb_C, va_recv hK.1 hP (ci := 5) (q0 := 8) rfl rfl, fun U hU hW => ⟨rfl, by rw [hU]; exact hP, hK.warm hW⟩⟩ rfl rfl hl.1 rfl (lv_room (Nat.le_of_ble_eq_true rfl)) dX9_derive_95 ⟨Nat.le_of_ble_eq_true rfl, Nat.le_of_ble_eq_true rfl⟩) hS (fun _ _ h => h) (fun _ h => h) (fun r9 u9 t9 H locs ht9 hv9 e9 hB9 hz9 hk9 hS => ?_)
                  rw [ht9] at hB9
                  subst e9
                  have hP : va_P (dC, dI) vwCl (wC q k ((sp_X5_addDerived st a1 a2 a2).2)) H := hB9
                  refine lv_istore (lv' := [(5, .int ((sp_X5_addDerived st a1 a2 a2).1)), (4, .int a2), (0, .ref (q 0)), (1, .int a1), (2, .int a2), (3, .int a3)]) hx hb dX9_derive_98 hl (by decide) rfl (fun ls hl => ?_)
                  refine lv_iload hx hb dX9_derive_100 (lv_at hl 0 rfl) ?_
                  refine lv_if_ge (tgt := 115) hx hb dX9_derive_102 (by decide) (fun h102_51 => ?_) (fun h102_51 => ?_)
                  · have he := (if_pos h102_51).symm.trans he
                    refine lv_iload hx hb dX9_derive_115 (lv_at hl 0 rfl) ?_
                    refine W.widen (k := 1) (n := 6) (by decide) (by decide) ?_
                    refine vx_ret ?_
                    exact W.iret (v := (sp_X5_addDerived st a1 a2 a2).1) hx hb hr (fun t ht hW => ⟨⟨_, (), rfl, (by rw [← he]; exact ⟨rfl, rfl⟩ : res.1 = 0 ∧ _ = res.2.1), by show va_P _ _ _ t.heap; rw [ht, ← he]; exact hP⟩, hS.F ht⟩) hS.2.2 dX9_derive_117
                  · have he := (if_neg h102_51).symm.trans he
                    obtain ⟨sa9, hsa9⟩ := hT.2.2.2 (142, "there were 100 items") (by decide +kernel)
                    refine vx_throwS (A := aC q) (own := RX9) (cls := "java/lang/IllegalStateException") (text := "there were 100 items") (names := ["java/lang/RuntimeException", "java/lang/Exception"]) hx hb hst hown (by decide +kernel) (by decide +kernel) (hts (.classLink RX9 91 "java/lang/IllegalStateException") (by decide +kernel)) (hts (.initialized "java/lang/IllegalStateException") (by decide +kernel)) hsa9 (vx_hat (B := badWs) (fun w9 h9 => hts w9 (List.mem_cons_of_mem _ (List.mem_append_right _ h9))) bad_2 (fun w9 h9 => va_Nw.use (bad_on w9 h9) (hT.2.2.1 w9 h9))) ot_2 hT.1 hT.2.1 hS (hl.1.trans hml.symm) dX9_derive_105 dX9_derive_108 dX9_derive_109 dX9_derive_111 dX9_derive_114 (fun x9 h9 => (hnt x9 h9).elim) (Nat.le_of_ble_eq_true rfl) (Nat.le_of_ble_eq_true rfl) (Nat.le_of_ble_eq_true rfl) (Nat.le_of_ble_eq_true rfl) hlocks (fun t9 h91 h92 h93 => ⟨(), trivial, ⟨by rw [← he]; exact Or.inr (Or.inl ⟨rfl, rfl⟩), by rw [← he]; exact hP.kept (fun k9 q9 hk9 => h93 _ (va_at.lt (hP k9 q9 hk9)))⟩, Nat.le_trans hS.1 h92, fun z9 hz9 hA9 => (h93 z9 (Nat.lt_of_lt_of_le hz9 hS.1)).trans (hS.2.1 z9 hz9 hA9)⟩) hS.2.2 (Nat.le_of_ble_eq_true rfl) (Nat.le_of_ble_eq_true rfl)
                · have he := (if_pos h74_50).symm.trans he
                  obtain ⟨sa9, hsa9⟩ := hT.2.2.2 (153, "an input does not live") (by decide +kernel)
                  refine vx_throwSN (A := aC q) (own := RX9) (cls := "java/util/NoSuchElementException") (text := "an input does not live") (names := ["java/lang/RuntimeException", "java/lang/Exception"]) hx hb hst hown (by decide +kernel) (by decide +kernel) (hts (.classLink RX9 151 "java/util/NoSuchElementException") (by decide +kernel)) (hts (.initialized "java/util/NoSuchElementException") (by decide +kernel)) hsa9 (vx_hat (B := badWs) (fun w9 h9 => hts w9 (List.mem_cons_of_mem _ (List.mem_append_left _ (List.mem_append_right _ h9)))) bad_3 (fun w9 h9 => va_Nw.use (bad_on w9 h9) (hT.2.2.1 w9 h9))) ot_3 hT.1 hT.2.1 hS (hl.1.trans hml.symm) dX9_derive_77 dX9_derive_80 dX9_derive_81 dX9_derive_83 dX9_derive_86 (fun x9 h9 => (hnt x9 h9).elim) (Nat.le_of_ble_eq_true rfl) (Nat.le_of_ble_eq_true rfl) (Nat.le_of_ble_eq_true rfl) (Nat.le_of_ble_eq_true rfl) hlocks (fun t9 h91 h92 h93 => ⟨(), trivial, ⟨by rw [← he]; exact Or.inr (Or.inr ⟨rfl, rfl⟩), by rw [← he]; exact hP.kept (fun k9 q9 hk9 => h93 _ (va_at.lt (hP k9 q9 hk9)))⟩, Nat.le_trans hS.1 h92, fun z9 hz9 hA9 => (h93 z9 (Nat.lt_of_lt_of_le hz9 hS.1)).trans (hS.2.1 z9 hz9 hA9)⟩) hS.2.2 (Nat.le_of_ble_eq_true rfl) (Nat.le_of_ble_eq_true rfl)
          · have he := (if_pos h30_44).symm.trans he
            obtain ⟨sa9, hsa9⟩ := hT.2.2.2 (146, "both inputs are one item") (by decide +kernel)
            refine vx_throwS (A := aC q) (own := RX9) (cls := "java/lang/IllegalArgumentException") (text := "both inputs are one item") (names := ["java/lang/RuntimeException", "java/lang/Exception"]) hx hb hst hown (by decide +kernel) (by decide +kernel) (hts (.classLink RX9 80 "java/lang/IllegalArgumentException") (by decide +kernel)) (hts (.initialized "java/lang/IllegalArgumentException") (by decide +kernel)) hsa9 (vx_hat (B := badWs) (fun w9 h9 => hts w9 (List.mem_cons_of_mem _ (List.mem_append_left _ (List.mem_append_left _ (List.mem_append_right _ h9))))) bad_1 (fun w9 h9 => va_Nw.use (bad_on w9 h9) (hT.2.2.1 w9 h9))) ot_1 hT.1 hT.2.1 hS (hl.1.trans hml.symm) dX9_derive_33 dX9_derive_36 dX9_derive_37 dX9_derive_39 dX9_derive_42 (fun x9 h9 => (hnt x9 h9).elim) (Nat.le_of_ble_eq_true rfl) (Nat.le_of_ble_eq_true rfl) (Nat.le_of_ble_eq_true rfl) (Nat.le_of_ble_eq_true rfl) hlocks (fun t9 h91 h92 h93 => ⟨(), trivial, ⟨by rw [← he]; exact Or.inl ⟨rfl, rfl⟩, by rw [← he]; exact hP.kept (fun k9 q9 hk9 => h93 _ (va_at.lt (hP k9 q9 hk9)))⟩, Nat.le_trans hS.1 h92, fun z9 hz9 hA9 => (h93 z9 (Nat.lt_of_lt_of_le hz9 hS.1)).trans (hS.2.1 z9 hz9 hA9)⟩) hS.2.2 (Nat.le_of_ble_eq_true rfl) (Nat.le_of_ble_eq_true rfl)
      · have he := (if_neg h11_35).symm.trans he
        obtain ⟨sa9, hsa9⟩ := hT.2.2.2 (144, "there is no such way to derive") (by decide +kernel)
        refine vx_throwS (A := aC q) (own := RX9) (cls := "java/lang/IllegalArgumentException") (text := "there is no such way to derive") (names := ["java/lang/RuntimeException", "java/lang/Exception"]) hx hb hst hown (by decide +kernel) (by decide +kernel) (hts (.classLink RX9 80 "java/lang/IllegalArgumentException") (by decide +kernel)) (hts (.initialized "java/lang/IllegalArgumentException") (by decide +kernel)) hsa9 (vx_hat (B := badWs) (fun w9 h9 => hts w9 (List.mem_cons_of_mem _ (List.mem_append_left _ (List.mem_append_left _ (List.mem_append_right _ h9))))) bad_1 (fun w9 h9 => va_Nw.use (bad_on w9 h9) (hT.2.2.1 w9 h9))) ot_1 hT.1 hT.2.1 hS (hl.1.trans hml.symm) dX9_derive_14 dX9_derive_17 dX9_derive_18 dX9_derive_20 dX9_derive_23 (fun x9 h9 => (hnt x9 h9).elim) (Nat.le_of_ble_eq_true rfl) (Nat.le_of_ble_eq_true rfl) (Nat.le_of_ble_eq_true rfl) (Nat.le_of_ble_eq_true rfl) hlocks (fun t9 h91 h92 h93 => ⟨(), trivial, ⟨by rw [← he]; exact Or.inl ⟨rfl, rfl⟩, by rw [← he]; exact hP.kept (fun k9 q9 hk9 => h93 _ (va_at.lt (hP k9 q9 hk9)))⟩, Nat.le_trans hS.1 h92, fun z9 hz9 hA9 => (h93 z9 (Nat.lt_of_lt_of_le hz9 hS.1)).trans (hS.2.1 z9 hz9 hA9)⟩) hS.2.2 (Nat.le_of_ble_eq_true rfl) (Nat.le_of_ble_eq_true rfl)
set_option maxHeartbeats 4000000 in
set_option maxRecDepth 100000 in
theorem c_X9_event (l : Launch) (hst : l.stackTraces = false) (dC : Nat → ClassId) (dI : Nat → Nat → Nat) (q : Nat → Nat) (k : Nat → ClassId) (st : St) (a1 : Int32) (a2 : Int32) (a3 : Int32) (hq : ∀ i j, i < 43 → j < 43 → q i = q j → i = j) (hok : okC st) (res : Int32 × Int32 × St) (hres : sp_X9_event st a1 a2 a3 = res) : vx_Met l yX9_event wsX9_event ({ frames := 6, cells := 1, slots := 6, locals := 90 } : Room) (va_Pc [.ref (q 0), .int a1, .int a2, .int a3] (fun U => va_P (dC, dI) vwCl (wC q k st) U.heap ∧ KC (dC, dI) k U ∧ TH (aC q) U U.heap)) (va_Qi (fun r (_ : Unit) => res.1 = 0 ∧ r = res.2.1) (fun _ t => va_P (dC, dI) vwCl (wC q k res.2.2) t.heap) (aC q)) (vx_X (fun (_ : Unit) => True) (fun E _ t => xE res.1 E ∧ va_P (dC, dI) vwCl (wC q k res.2.2) t.heap) (aC q)) 1 6 (aC q) := by
  refine vx_ofW (cc := cX9_event) (maxL := 5) (ret := (some .int)) (by decide) rfl ?_
  intro p e s m args below meth c s₁ B hml hnt hv
  obtain ⟨rfl, hP, hK, hT⟩ := hv
  have hx := B.exec
  have hb := B.bytes
  have hr := B.returns
  have hts := atoms_spec (ws := wsX9_event) B.pre
  have hown : s.vm.findClass RX9 = some m.cls := findClass_of_methodNamed B.named
  have hlocks := B.notSynchronized
  have hS : va_S (aC q) s.heap s.heap [] := va_S.rf
  have hi9 : ∀ w ∈ wsX90, w ∈ wsX9_event := by decide +kernel
  have hf19 := hts (.fieldLink RX9 19 "ConsentRegister" "kinds" "LConsentRegister$Kinds;") (by decide +kernel)
  have hf47 := hts (.fieldLink RX9 47 "ConsentRegister" "events" "LConsentRegister$Events;") (by decide +kernel)
  have hl := lv_entry ([.ref (q 0), .int a1, .int a2, .int a3]) (n := 5) (Nat.le_of_ble_eq_true rfl)
  rw [lg_entry_eq]
  generalize (lg_sl ([.ref (q 0), .int a1, .int a2, .int a3]) ++ List.replicate (5 - (lg_sl ([.ref (q 0), .int a1, .int a2, .int a3])).length) Slot.unset).toArray = ls at hl ⊢
  have hl : lv_has ls 5 [(0, .ref (q 0)), (1, .int a1), (2, .int a2), (3, .int a3)] := hl
  have he := hres
  unfold sp_X9_event at he
  refine lv_iload_n hx hb dX9_event_0 rfl (lv_at hl 1 rfl) ?_
  refine vp_callSi (va_Run.run (va_runS (As := [.int a1]) (rest := []) ⟨hx, hb, hml, hown, hts⟩ (c_X9_isPerson l a1 _ rfl) (va_cwS 1 hts gX9_event_X9_isPerson rfl rfl rfl (by decide +kernel) ⟨Nat.le_of_ble_eq_true rfl, Nat.le_of_ble_eq_true rfl⟩) ⟨fb_T, fun U hU hW => ⟨rfl, trivial⟩⟩ rfl rfl hl.1 rfl (lv_room (Nat.le_of_ble_eq_true rfl)) dX9_event_1 ⟨Nat.le_of_ble_eq_true rfl, Nat.le_of_ble_eq_true rfl⟩)) (fun r9 e9 => ?_)
  subst e9
  refine lv_if_eq (tgt := 25) hx hb dX9_event_4 (by decide) (fun h4_1 => ?_) (fun h4_1 => ?_)
  · have he := (if_pos h4_1).symm.trans he
    obtain ⟨sa9, hsa9⟩ := hT.2.2.2 (137, "there is no such person, kind or day") (by decide +kernel)
    refine vx_throwS (A := aC q) (own := RX9) (cls := "java/lang/IllegalArgumentException") (text := "there is no such person, kind or day") (names := ["java/lang/RuntimeException", "java/lang/Exception"]) hx hb hst hown (by decide +kernel) (by decide +kernel) (hts (.classLink RX9 80 "java/lang/IllegalArgumentException") (by decide +kernel)) (hts (.initialized "java/lang/IllegalArgumentException") (by decide +kernel)) hsa9 (vx_hat (B := badWs) (fun w9 h9 => hts w9 (List.mem_cons_of_mem _ (List.mem_append_left _ (List.mem_append_right _ h9)))) bad_1 (fun w9 h9 => va_Nw.use (bad_on w9 h9) (hT.2.2.1 w9 h9))) ot_1 hT.1 hT.2.1 hS (hl.1.trans hml.symm) dX9_event_25 dX9_event_28 dX9_event_29 dX9_event_31 dX9_event_34 (fun x9 h9 => (hnt x9 h9).elim) (Nat.le_of_ble_eq_true rfl) (Nat.le_of_ble_eq_true rfl) (Nat.le_of_ble_eq_true rfl) (Nat.le_of_ble_eq_true rfl) hlocks (fun t9 h91 h92 h93 => ⟨(), trivial, ⟨by rw [← he]; exact Or.inl ⟨rfl, rfl⟩, by rw [← he]; exact hP.kept (fun k9 q9 hk9 => h93 _ (va_at.lt (hP k9 q9 hk9)))⟩, Nat.le_trans hS.1 h92, fun z9 hz9 hA9 => (h93 z9 (Nat.lt_of_lt_of_le hz9 hS.1)).trans (hS.2.1 z9 hz9 hA9)⟩) hS.2.2 (Nat.le_of_ble_eq_true rfl) (Nat.le_of_ble_eq_true rfl)
  · have he := (if_neg h4_1).symm.trans he
    refine lv_aload_n hx hb dX9_event_7 rfl (lv_at hl 0 rfl) ?_
    refine va_get (D := (dC, dI)) (ci := 9) (v := .ref (q 2)) (C := RX9) (T := TX9) (N := 10) hx hb hts hi9 hown hK.1 hP 0 rfl rfl 1 (by decide) hf19 (fun _ h9 => h9) rfl dX9_event_8 ?_
    refine lv_iload_n hx hb dX9_event_11 rfl (lv_at hl 2 rfl) ?_
    refine vp_callSi (va_Run.run (va_runV (As := [.int a2]) (rest := []) ⟨hx, hb, hml, hown, hts⟩ (c_X6_has l dC dI q k st a2 _ rfl) (cwV 1 hts gX9_event_X6_has rfl rfl rfl (by decide +kernel) ⟨Nat.le_of_ble_eq_true rfl, Nat.le_of_ble_eq_true rfl⟩) ⟨fb_C, va_recv hK.1 hP (ci := 6) (q0 := 2) rfl rfl, fun U hU hW => ⟨rfl, by rw [hU]; exact hP, hK.warm hW⟩⟩ rfl rfl hl.1 rfl (lv_room (Nat.le_of_ble_eq_true rfl)) dX9_event_12 ⟨Nat.le_of_ble_eq_true rfl, Nat.le_of_ble_eq_true rfl⟩)) (fun r9 e9 => ?_)
    subst e9
    refine lv_if_eq (tgt := 25) hx hb dX9_event_15 (by decide) (fun h15_2 => ?_) (fun h15_2 => ?_)
    · have he := (if_pos h15_2).symm.trans he
      obtain ⟨sa9, hsa9⟩ := hT.2.2.2 (137, "there is no such person, kind or day") (by decide +kernel)
      refine vx_throwS (A := aC q) (own := RX9) (cls := "java/lang/IllegalArgumentException") (text := "there is no such person, kind or day") (names := ["java/lang/RuntimeException", "java/lang/Exception"]) hx hb hst hown (by decide +kernel) (by decide +kernel) (hts (.classLink RX9 80 "java/lang/IllegalArgumentException") (by decide +kernel)) (hts (.initialized "java/lang/IllegalArgumentException") (by decide +kernel)) hsa9 (vx_hat (B := badWs) (fun w9 h9 => hts w9 (List.mem_cons_of_mem _ (List.mem_append_left _ (List.mem_append_right _ h9)))) bad_1 (fun w9 h9 => va_Nw.use (bad_on w9 h9) (hT.2.2.1 w9 h9))) ot_1 hT.1 hT.2.1 hS (hl.1.trans hml.symm) dX9_event_25 dX9_event_28 dX9_event_29 dX9_event_31 dX9_event_34 (fun x9 h9 => (hnt x9 h9).elim) (Nat.le_of_ble_eq_true rfl) (Nat.le_of_ble_eq_true rfl) (Nat.le_of_ble_eq_true rfl) (Nat.le_of_ble_eq_true rfl) hlocks (fun t9 h91 h92 h93 => ⟨(), trivial, ⟨by rw [← he]; exact Or.inl ⟨rfl, rfl⟩, by rw [← he]; exact hP.kept (fun k9 q9 hk9 => h93 _ (va_at.lt (hP k9 q9 hk9)))⟩, Nat.le_trans hS.1 h92, fun z9 hz9 hA9 => (h93 z9 (Nat.lt_of_lt_of_le hz9 hS.1)).trans (hS.2.1 z9 hz9 hA9)⟩) hS.2.2 (Nat.le_of_ble_eq_true rfl) (Nat.le_of_ble_eq_true rfl)
    · have he := (if_neg h15_2).symm.trans he
      refine lv_iload_n hx hb dX9_event_18 rfl (lv_at hl 3 rfl) ?_
      refine vp_callSi (va_Run.run (va_runS (As := [.int a3]) (rest := []) ⟨hx, hb, hml, hown, hts⟩ (c_X9_isDay l a3 _ rfl) (va_cwS 1 hts gX9_event_X9_isDay rfl rfl rfl (by decide +kernel) ⟨Nat.le_of_ble_eq_true rfl, Nat.le_of_ble_eq_true rfl⟩) ⟨fb_T, fun U hU hW => ⟨rfl, trivial⟩⟩ rfl rfl hl.1 rfl (lv_room (Nat.le_of_ble_eq_true rfl)) dX9_event_19 ⟨Nat.le_of_ble_eq_true rfl, Nat.le_of_ble_eq_true rfl⟩)) (fun r9 e9 => ?_)
      subst e9
      refine lv_if_ne (tgt := 35) hx hb dX9_event_22 (by decide) (fun h22_3 => ?_) (fun h22_3 => ?_)
      · have he := (if_neg h22_3).symm.trans he
        refine lv_aload_n hx hb dX9_event_35 rfl (lv_at hl 0 rfl) ?_
        refine va_get (D := (dC, dI)) (ci := 9) (v := .ref (q 6)) (C := RX9) (T := TX9) (N := 10) hx hb hts hi9 hown hK.1 hP 0 rfl rfl 5 (by decide) hf47 (fun _ h9 => h9) rfl dX9_event_36 ?_
        refine lv_iload_n hx hb dX9_event_39 rfl (lv_at hl 1 rfl) ?_
        refine lv_iload_n hx hb dX9_event_40 rfl (lv_at hl 2 rfl) ?_
        refine lv_iload_n hx hb dX9_event_41 rfl (lv_at hl 3 rfl) ?_
        refine va_calli (va_runV (As := [.int a1, .int a2, .int a3]) (rest := []) ⟨hx, hb, hml, hown, hts⟩ (c_X3_add l dC dI q k st a1 a2 a3 hq hok _ rfl) (cwV 3 hts gX9_event_X3_add rfl rfl rfl (by decide +kernel) ⟨Nat.le_of_ble_eq_true rfl, Nat.le_of_ble_eq_true rfl⟩) ⟨fb_C, va_recv hK.1 hP (ci := 3) (q0 := 6) rfl rfl, fun U hU hW => ⟨rfl, by rw [hU]; exact hP, hK.warm hW⟩⟩ rfl rfl hl.1 rfl (lv_room (Nat.le_of_ble_eq_true rfl)) dX9_event_42 ⟨Nat.le_of_ble_eq_true rfl, Nat.le_of_ble_eq_true rfl⟩) hS (fun _ _ h => h) (fun _ h => h) (fun r9 u9 t9 H locs ht9 hv9 e9 hB9 hz9 hk9 hS => ?_)
        rw [ht9] at hB9
        subst e9
        have hP : va_P (dC, dI) vwCl (wC q k ((sp_X3_add st a1 a2 a3).2)) H := hB9
        refine lv_istore (lv' := [(4, .int ((sp_X3_add st a1 a2 a3).1)), (0, .ref (q 0)), (1, .int a1), (2, .int a2), (3, .int a3)]) hx hb dX9_event_45 hl (by decide) rfl (fun ls hl => ?_)
        refine lv_iload hx hb dX9_event_47 (lv_at hl 0 rfl) ?_
        refine lv_if_ge (tgt := 62) hx hb dX9_event_49 (by decide) (fun h49_4 => ?_) (fun h49_4 => ?_)
        · have he := (if_pos h49_4).symm.trans he
          refine lv_iload hx hb dX9_event_62 (lv_at hl 0 rfl) ?_
          refine W.widen (k := 1) (n := 6) (by decide) (by decide) ?_
          refine vx_ret ?_
          exact W.iret (v := (sp_X3_add st a1 a2 a3).1) hx hb hr (fun t ht hW => ⟨⟨_, (), rfl, (by rw [← he]; exact ⟨rfl, rfl⟩ : res.1 = 0 ∧ _ = res.2.1), by show va_P _ _ _ t.heap; rw [ht, ← he]; exact hP⟩, hS.F ht⟩) hS.2.2 dX9_event_64
        · have he := (if_neg h49_4).symm.trans he
          obtain ⟨sa9, hsa9⟩ := hT.2.2.2 (160, "there are 60 events") (by decide +kernel)
          refine vx_throwS (A := aC q) (own := RX9) (cls := "java/lang/IllegalStateException") (text := "there are 60 events") (names := ["java/lang/RuntimeException", "java/lang/Exception"]) hx hb hst hown (by decide +kernel) (by decide +kernel) (hts (.classLink RX9 91 "java/lang/IllegalStateException") (by decide +kernel)) (hts (.initialized "java/lang/IllegalStateException") (by decide +kernel)) hsa9 (vx_hat (B := badWs) (fun w9 h9 => hts w9 (List.mem_cons_of_mem _ (List.mem_append_right _ h9))) bad_2 (fun w9 h9 => va_Nw.use (bad_on w9 h9) (hT.2.2.1 w9 h9))) ot_2 hT.1 hT.2.1 hS (hl.1.trans hml.symm) dX9_event_52 dX9_event_55 dX9_event_56 dX9_event_58 dX9_event_61 (fun x9 h9 => (hnt x9 h9).elim) (Nat.le_of_ble_eq_true rfl) (Nat.le_of_ble_eq_true rfl) (Nat.le_of_ble_eq_true rfl) (Nat.le_of_ble_eq_true rfl) hlocks (fun t9 h91 h92 h93 => ⟨(), trivial, ⟨by rw [← he]; exact Or.inr (Or.inl ⟨rfl, rfl⟩), by rw [← he]; exact hP.kept (fun k9 q9 hk9 => h93 _ (va_at.lt (hP k9 q9 hk9)))⟩, Nat.le_trans hS.1 h92, fun z9 hz9 hA9 => (h93 z9 (Nat.lt_of_lt_of_le hz9 hS.1)).trans (hS.2.1 z9 hz9 hA9)⟩) hS.2.2 (Nat.le_of_ble_eq_true rfl) (Nat.le_of_ble_eq_true rfl)
      · have he := (if_pos h22_3).symm.trans he
        obtain ⟨sa9, hsa9⟩ := hT.2.2.2 (137, "there is no such person, kind or day") (by decide +kernel)
        refine vx_throwS (A := aC q) (own := RX9) (cls := "java/lang/IllegalArgumentException") (text := "there is no such person, kind or day") (names := ["java/lang/RuntimeException", "java/lang/Exception"]) hx hb hst hown (by decide +kernel) (by decide +kernel) (hts (.classLink RX9 80 "java/lang/IllegalArgumentException") (by decide +kernel)) (hts (.initialized "java/lang/IllegalArgumentException") (by decide +kernel)) hsa9 (vx_hat (B := badWs) (fun w9 h9 => hts w9 (List.mem_cons_of_mem _ (List.mem_append_left _ (List.mem_append_right _ h9)))) bad_1 (fun w9 h9 => va_Nw.use (bad_on w9 h9) (hT.2.2.1 w9 h9))) ot_1 hT.1 hT.2.1 hS (hl.1.trans hml.symm) dX9_event_25 dX9_event_28 dX9_event_29 dX9_event_31 dX9_event_34 (fun x9 h9 => (hnt x9 h9).elim) (Nat.le_of_ble_eq_true rfl) (Nat.le_of_ble_eq_true rfl) (Nat.le_of_ble_eq_true rfl) (Nat.le_of_ble_eq_true rfl) hlocks (fun t9 h91 h92 h93 => ⟨(), trivial, ⟨by rw [← he]; exact Or.inl ⟨rfl, rfl⟩, by rw [← he]; exact hP.kept (fun k9 q9 hk9 => h93 _ (va_at.lt (hP k9 q9 hk9)))⟩, Nat.le_trans hS.1 h92, fun z9 hz9 hA9 => (h93 z9 (Nat.lt_of_lt_of_le hz9 hS.1)).trans (hS.2.1 z9 hz9 hA9)⟩) hS.2.2 (Nat.le_of_ble_eq_true rfl) (Nat.le_of_ble_eq_true rfl)
set_option maxHeartbeats 4000000 in
set_option maxRecDepth 100000 in
theorem c_X9_hold (l : Launch) (hst : l.stackTraces = false) (dC : Nat → ClassId) (dI : Nat → Nat → Nat) (q : Nat → Nat) (k : Nat → ClassId) (st : St) (a1 : Int32) (a2 : Int32) (a3 : Int32) (hq : ∀ i j, i < 43 → j < 43 → q i = q j → i = j) (hok : okC st) (res : Int32 × Int32 × St) (hres : sp_X9_hold st a1 a2 a3 = res) : vx_Met l yX9_hold wsX9_hold ({ frames := 6, cells := 1, slots := 6, locals := 90 } : Room) (va_Pc [.ref (q 0), .int a1, .int a2, .int a3] (fun U => va_P (dC, dI) vwCl (wC q k st) U.heap ∧ KC (dC, dI) k U ∧ TH (aC q) U U.heap)) (va_Qi (fun r (_ : Unit) => res.1 = 0 ∧ r = res.2.1) (fun _ t => va_P (dC, dI) vwCl (wC q k res.2.2) t.heap) (aC q)) (vx_X (fun (_ : Unit) => True) (fun E _ t => xE res.1 E ∧ va_P (dC, dI) vwCl (wC q k res.2.2) t.heap) (aC q)) 1 6 (aC q) := by
  refine vx_ofW (cc := cX9_hold) (maxL := 5) (ret := (some .int)) (by decide) rfl ?_
  intro p e s m args below meth c s₁ B hml hnt hv
  obtain ⟨rfl, hP, hK, hT⟩ := hv
  have hx := B.exec
  have hb := B.bytes
  have hr := B.returns
  have hts := atoms_spec (ws := wsX9_hold) B.pre
  have hown : s.vm.findClass RX9 = some m.cls := findClass_of_methodNamed B.named
  have hlocks := B.notSynchronized
  have hS : va_S (aC q) s.heap s.heap [] := va_S.rf
  have hi9 : ∀ w ∈ wsX90, w ∈ wsX9_hold := by decide +kernel
  have hf10 := hts (.fieldLink RX9 10 "ConsentRegister" "purposes" "LConsentRegister$Purposes;") (by decide +kernel)
  have hf54 := hts (.fieldLink RX9 54 "ConsentRegister" "holds" "LConsentRegister$Holds;") (by decide +kernel)
  have hl := lv_entry ([.ref (q 0), .int a1, .int a2, .int a3]) (n := 5) (Nat.le_of_ble_eq_true rfl)
  rw [lg_entry_eq]
  generalize (lg_sl ([.ref (q 0), .int a1, .int a2, .int a3]) ++ List.replicate (5 - (lg_sl ([.ref (q 0), .int a1, .int a2, .int a3])).length) Slot.unset).toArray = ls at hl ⊢
  have hl : lv_has ls 5 [(0, .ref (q 0)), (1, .int a1), (2, .int a2), (3, .int a3)] := hl
  have he := hres
  unfold sp_X9_hold at he
  refine lv_iload_n hx hb dX9_hold_0 rfl (lv_at hl 1 rfl) ?_
  refine vp_callSi (va_Run.run (va_runS (As := [.int a1]) (rest := []) ⟨hx, hb, hml, hown, hts⟩ (c_X9_isPerson l a1 _ rfl) (va_cwS 1 hts gX9_hold_X9_isPerson rfl rfl rfl (by decide +kernel) ⟨Nat.le_of_ble_eq_true rfl, Nat.le_of_ble_eq_true rfl⟩) ⟨fb_T, fun U hU hW => ⟨rfl, trivial⟩⟩ rfl rfl hl.1 rfl (lv_room (Nat.le_of_ble_eq_true rfl)) dX9_hold_1 ⟨Nat.le_of_ble_eq_true rfl, Nat.le_of_ble_eq_true rfl⟩)) (fun r9 e9 => ?_)
  subst e9
  refine lv_if_ne (tgt := 25) hx hb dX9_hold_4 (by decide) (fun h4_1 => ?_) (fun h4_1 => ?_)
  · have he := (if_neg h4_1).symm.trans he
    refine lv_aload_n hx hb dX9_hold_25 rfl (lv_at hl 0 rfl) ?_
    refine va_get (D := (dC, dI)) (ci := 9) (v := .ref (q 1)) (C := RX9) (T := TX9) (N := 10) hx hb hts hi9 hown hK.1 hP 0 rfl rfl 0 (by decide) hf10 (fun _ h9 => h9) rfl dX9_hold_26 ?_
    refine lv_iload_n hx hb dX9_hold_29 rfl (lv_at hl 2 rfl) ?_
    refine vp_callSi (va_Run.run (va_runV (As := [.int a2]) (rest := []) ⟨hx, hb, hml, hown, hts⟩ (c_X8_has l dC dI q k st a2 _ rfl) (cwV 1 hts gX9_hold_X8_has rfl rfl rfl (by decide +kernel) ⟨Nat.le_of_ble_eq_true rfl, Nat.le_of_ble_eq_true rfl⟩) ⟨fb_C, va_recv hK.1 hP (ci := 8) (q0 := 1) rfl rfl, fun U hU hW => ⟨rfl, by rw [hU]; exact hP, hK.warm hW⟩⟩ rfl rfl hl.1 rfl (lv_room (Nat.le_of_ble_eq_true rfl)) dX9_hold_30 ⟨Nat.le_of_ble_eq_true rfl, Nat.le_of_ble_eq_true rfl⟩)) (fun r9 e9 => ?_)
    subst e9
    refine lv_if_eq (tgt := 43) hx hb dX9_hold_33 (by decide) (fun h33_2 => ?_) (fun h33_2 => ?_)
    · have he := (if_pos h33_2).symm.trans he
      obtain ⟨sa9, hsa9⟩ := hT.2.2.2 (167, "there is no such purpose or day") (by decide +kernel)
      refine vx_throwS (A := aC q) (own := RX9) (cls := "java/lang/IllegalArgumentException") (text := "there is no such purpose or day") (names := ["java/lang/RuntimeException", "java/lang/Exception"]) hx hb hst hown (by decide +kernel) (by decide +kernel) (hts (.classLink RX9 80 "java/lang/IllegalArgumentException") (by decide +kernel)) (hts (.initialized "java/lang/IllegalArgumentException") (by decide +kernel)) hsa9 (vx_hat (B := badWs) (fun w9 h9 => hts w9 (List.mem_cons_of_mem _ (List.mem_append_left _ (List.mem_append_right _ h9)))) bad_1 (fun w9 h9 => va_Nw.use (bad_on w9 h9) (hT.2.2.1 w9 h9))) ot_1 hT.1 hT.2.1 hS (hl.1.trans hml.symm) dX9_hold_43 dX9_hold_46 dX9_hold_47 dX9_hold_49 dX9_hold_52 (fun x9 h9 => (hnt x9 h9).elim) (Nat.le_of_ble_eq_true rfl) (Nat.le_of_ble_eq_true rfl) (Nat.le_of_ble_eq_true rfl) (Nat.le_of_ble_eq_true rfl) hlocks (fun t9 h91 h92 h93 => ⟨(), trivial, ⟨by rw [← he]; exact Or.inl ⟨rfl, rfl⟩, by rw [← he]; exact hP.kept (fun k9 q9 hk9 => h93 _ (va_at.lt (hP k9 q9 hk9)))⟩, Nat.le_trans hS.1 h92, fun z9 hz9 hA9 => (h93 z9 (Nat.lt_of_lt_of_le hz9 hS.1)).trans (hS.2.1 z9 hz9 hA9)⟩) hS.2.2 (Nat.le_of_ble_eq_true rfl) (Nat.le_of_ble_eq_true rfl)
    · have he := (if_neg h33_2).symm.trans he
      refine lv_iload_n hx hb dX9_hold_36 rfl (lv_at hl 3 rfl) ?_
      refine vp_callSi (va_Run.run (va_runS (As := [.int a3]) (rest := []) ⟨hx, hb, hml, hown, hts⟩ (c_X9_isDay l a3 _ rfl) (va_cwS 1 hts gX9_hold_X9_isDay rfl rfl rfl (by decide +kernel) ⟨Nat.le_of_ble_eq_true rfl, Nat.le_of_ble_eq_true rfl⟩) ⟨fb_T, fun U hU hW => ⟨rfl, trivial⟩⟩ rfl rfl hl.1 rfl (lv_room (Nat.le_of_ble_eq_true rfl)) dX9_hold_37 ⟨Nat.le_of_ble_eq_true rfl, Nat.le_of_ble_eq_true rfl⟩)) (fun r9 e9 => ?_)
      subst e9
      refine lv_if_ne (tgt := 53) hx hb dX9_hold_40 (by decide) (fun h40_3 => ?_) (fun h40_3 => ?_)
      · have he := (if_neg h40_3).symm.trans he
        refine lv_aload_n hx hb dX9_hold_53 rfl (lv_at hl 0 rfl) ?_
        refine va_get (D := (dC, dI)) (ci := 9) (v := .ref (q 7)) (C := RX9) (T := TX9) (N := 10) hx hb hts hi9 hown hK.1 hP 0 rfl rfl 6 (by decide) hf54 (fun _ h9 => h9) rfl dX9_hold_54 ?_
        refine lv_iload_n hx hb dX9_hold_57 rfl (lv_at hl 1 rfl) ?_
        refine lv_iload_n hx hb dX9_hold_58 rfl (lv_at hl 2 rfl) ?_
        refine lv_iload_n hx hb dX9_hold_59 rfl (lv_at hl 3 rfl) ?_
        refine va_calli (va_runV (As := [.int a1, .int a2, .int a3]) (rest := []) ⟨hx, hb, hml, hown, hts⟩ (c_X4_add l dC dI q k st a1 a2 a3 hq hok _ rfl) (cwV 3 hts gX9_hold_X4_add rfl rfl rfl (by decide +kernel) ⟨Nat.le_of_ble_eq_true rfl, Nat.le_of_ble_eq_true rfl⟩) ⟨fb_C, va_recv hK.1 hP (ci := 4) (q0 := 7) rfl rfl, fun U hU hW => ⟨rfl, by rw [hU]; exact hP, hK.warm hW⟩⟩ rfl rfl hl.1 rfl (lv_room (Nat.le_of_ble_eq_true rfl)) dX9_hold_60 ⟨Nat.le_of_ble_eq_true rfl, Nat.le_of_ble_eq_true rfl⟩) hS (fun _ _ h => h) (fun _ h => h) (fun r9 u9 t9 H locs ht9 hv9 e9 hB9 hz9 hk9 hS => ?_)
        rw [ht9] at hB9
        subst e9
        have hP : va_P (dC, dI) vwCl (wC q k ((sp_X4_add st a1 a2 a3).2)) H := hB9
        refine lv_istore (lv' := [(4, .int ((sp_X4_add st a1 a2 a3).1)), (0, .ref (q 0)), (1, .int a1), (2, .int a2), (3, .int a3)]) hx hb dX9_hold_63 hl (by decide) rfl (fun ls hl => ?_)
        refine lv_iload hx hb dX9_hold_65 (lv_at hl 0 rfl) ?_
        refine lv_if_ge (tgt := 80) hx hb dX9_hold_67 (by decide) (fun h67_4 => ?_) (fun h67_4 => ?_)
        · have he := (if_pos h67_4).symm.trans he
          refine lv_iload hx hb dX9_hold_80 (lv_at hl 0 rfl) ?_
          refine W.widen (k := 1) (n := 6) (by decide) (by decide) ?_
          refine vx_ret ?_
          exact W.iret (v := (sp_X4_add st a1 a2 a3).1) hx hb hr (fun t ht hW => ⟨⟨_, (), rfl, (by rw [← he]; exact ⟨rfl, rfl⟩ : res.1 = 0 ∧ _ = res.2.1), by show va_P _ _ _ t.heap; rw [ht, ← he]; exact hP⟩, hS.F ht⟩) hS.2.2 dX9_hold_82
        · have he := (if_neg h67_4).symm.trans he
          obtain ⟨sa9, hsa9⟩ := hT.2.2.2 (170, "there are 30 holds") (by decide +kernel)
          refine vx_throwS (A := aC q) (own := RX9) (cls := "java/lang/IllegalStateException") (text := "there are 30 holds") (names := ["java/lang/RuntimeException", "java/lang/Exception"]) hx hb hst hown (by decide +kernel) (by decide +kernel) (hts (.classLink RX9 91 "java/lang/IllegalStateException") (by decide +kernel)) (hts (.initialized "java/lang/IllegalStateException") (by decide +kernel)) hsa9 (vx_hat (B := badWs) (fun w9 h9 => hts w9 (List.mem_cons_of_mem _ (List.mem_append_right _ h9))) bad_2 (fun w9 h9 => va_Nw.use (bad_on w9 h9) (hT.2.2.1 w9 h9))) ot_2 hT.1 hT.2.1 hS (hl.1.trans hml.symm) dX9_hold_70 dX9_hold_73 dX9_hold_74 dX9_hold_76 dX9_hold_79 (fun x9 h9 => (hnt x9 h9).elim) (Nat.le_of_ble_eq_true rfl) (Nat.le_of_ble_eq_true rfl) (Nat.le_of_ble_eq_true rfl) (Nat.le_of_ble_eq_true rfl) hlocks (fun t9 h91 h92 h93 => ⟨(), trivial, ⟨by rw [← he]; exact Or.inr (Or.inl ⟨rfl, rfl⟩), by rw [← he]; exact hP.kept (fun k9 q9 hk9 => h93 _ (va_at.lt (hP k9 q9 hk9)))⟩, Nat.le_trans hS.1 h92, fun z9 hz9 hA9 => (h93 z9 (Nat.lt_of_lt_of_le hz9 hS.1)).trans (hS.2.1 z9 hz9 hA9)⟩) hS.2.2 (Nat.le_of_ble_eq_true rfl) (Nat.le_of_ble_eq_true rfl)
      · have he := (if_pos h40_3).symm.trans he
        obtain ⟨sa9, hsa9⟩ := hT.2.2.2 (167, "there is no such purpose or day") (by decide +kernel)
        refine vx_throwS (A := aC q) (own := RX9) (cls := "java/lang/IllegalArgumentException") (text := "there is no such purpose or day") (names := ["java/lang/RuntimeException", "java/lang/Exception"]) hx hb hst hown (by decide +kernel) (by decide +kernel) (hts (.classLink RX9 80 "java/lang/IllegalArgumentException") (by decide +kernel)) (hts (.initialized "java/lang/IllegalArgumentException") (by decide +kernel)) hsa9 (vx_hat (B := badWs) (fun w9 h9 => hts w9 (List.mem_cons_of_mem _ (List.mem_append_left _ (List.mem_append_right _ h9)))) bad_1 (fun w9 h9 => va_Nw.use (bad_on w9 h9) (hT.2.2.1 w9 h9))) ot_1 hT.1 hT.2.1 hS (hl.1.trans hml.symm) dX9_hold_43 dX9_hold_46 dX9_hold_47 dX9_hold_49 dX9_hold_52 (fun x9 h9 => (hnt x9 h9).elim) (Nat.le_of_ble_eq_true rfl) (Nat.le_of_ble_eq_true rfl) (Nat.le_of_ble_eq_true rfl) (Nat.le_of_ble_eq_true rfl) hlocks (fun t9 h91 h92 h93 => ⟨(), trivial, ⟨by rw [← he]; exact Or.inl ⟨rfl, rfl⟩, by rw [← he]; exact hP.kept (fun k9 q9 hk9 => h93 _ (va_at.lt (hP k9 q9 hk9)))⟩, Nat.le_trans hS.1 h92, fun z9 hz9 hA9 => (h93 z9 (Nat.lt_of_lt_of_le hz9 hS.1)).trans (hS.2.1 z9 hz9 hA9)⟩) hS.2.2 (Nat.le_of_ble_eq_true rfl) (Nat.le_of_ble_eq_true rfl)
  · have he := (if_pos h4_1).symm.trans he
    refine lv_aload_n hx hb dX9_hold_7 rfl (lv_at hl 0 rfl) ?_
    refine lv_iload_n hx hb dX9_hold_8 rfl (lv_at hl 1 rfl) ?_
    refine vp_callSi (va_Run.run (va_runV (As := [.int a1]) (rest := []) ⟨hx, hb, hml, hown, hts⟩ (c_X9_isMarkedKind l dC dI q k st a1 _ rfl) (cwV 1 hts gX9_hold_X9_isMarkedKind rfl rfl rfl (by decide +kernel) ⟨Nat.le_of_ble_eq_true rfl, Nat.le_of_ble_eq_true rfl⟩) ⟨fb_C, va_recv hK.1 hP (ci := 9) (q0 := 0) rfl rfl, fun U hU hW => ⟨rfl, by rw [hU]; exact hP, hK.warm hW⟩⟩ rfl rfl hl.1 rfl (lv_room (Nat.le_of_ble_eq_true rfl)) dX9_hold_9 ⟨Nat.le_of_ble_eq_true rfl, Nat.le_of_ble_eq_true rfl⟩)) (fun r9 e9 => ?_)
    subst e9
    refine lv_if_ne (tgt := 25) hx hb dX9_hold_12 (by decide) (fun h12_5 => ?_) (fun h12_5 => ?_)
    · have he := (if_neg h12_5).symm.trans he
      refine lv_aload_n hx hb dX9_hold_25 rfl (lv_at hl 0 rfl) ?_
      refine va_get (D := (dC, dI)) (ci := 9) (v := .ref (q 1)) (C := RX9) (T := TX9) (N := 10) hx hb hts hi9 hown hK.1 hP 0 rfl rfl 0 (by decide) hf10 (fun _ h9 => h9) rfl dX9_hold_26 ?_
      refine lv_iload_n hx hb dX9_hold_29 rfl (lv_at hl 2 rfl) ?_
      refine vp_callSi (va_Run.run (va_runV (As := [.int a2]) (rest := []) ⟨hx, hb, hml, hown, hts⟩ (c_X8_has l dC dI q k st a2 _ rfl) (cwV 1 hts gX9_hold_X8_has rfl rfl rfl (by decide +kernel) ⟨Nat.le_of_ble_eq_true rfl, Nat.le_of_ble_eq_true rfl⟩) ⟨fb_C, va_recv hK.1 hP (ci := 8) (q0 := 1) rfl rfl, fun U hU hW => ⟨rfl, by rw [hU]; exact hP, hK.warm hW⟩⟩ rfl rfl hl.1 rfl (lv_room (Nat.le_of_ble_eq_true rfl)) dX9_hold_30 ⟨Nat.le_of_ble_eq_true rfl, Nat.le_of_ble_eq_true rfl⟩)) (fun r9 e9 => ?_)
      subst e9
      refine lv_if_eq (tgt := 43) hx hb dX9_hold_33 (by decide) (fun h33_6 => ?_) (fun h33_6 => ?_)
      · have he := (if_pos h33_6).symm.trans he
        obtain ⟨sa9, hsa9⟩ := hT.2.2.2 (167, "there is no such purpose or day") (by decide +kernel)
        refine vx_throwS (A := aC q) (own := RX9) (cls := "java/lang/IllegalArgumentException") (text := "there is no such purpose or day") (names := ["java/lang/RuntimeException", "java/lang/Exception"]) hx hb hst hown (by decide +kernel) (by decide +kernel) (hts (.classLink RX9 80 "java/lang/IllegalArgumentException") (by decide +kernel)) (hts (.initialized "java/lang/IllegalArgumentException") (by decide +kernel)) hsa9 (vx_hat (B := badWs) (fun w9 h9 => hts w9 (List.mem_cons_of_mem _ (List.mem_append_left _ (List.mem_append_right _ h9)))) bad_1 (fun w9 h9 => va_Nw.use (bad_on w9 h9) (hT.2.2.1 w9 h9))) ot_1 hT.1 hT.2.1 hS (hl.1.trans hml.symm) dX9_hold_43 dX9_hold_46 dX9_hold_47 dX9_hold_49 dX9_hold_52 (fun x9 h9 => (hnt x9 h9).elim) (Nat.le_of_ble_eq_true rfl) (Nat.le_of_ble_eq_true rfl) (Nat.le_of_ble_eq_true rfl) (Nat.le_of_ble_eq_true rfl) hlocks (fun t9 h91 h92 h93 => ⟨(), trivial, ⟨by rw [← he]; exact Or.inl ⟨rfl, rfl⟩, by rw [← he]; exact hP.kept (fun k9 q9 hk9 => h93 _ (va_at.lt (hP k9 q9 hk9)))⟩, Nat.le_trans hS.1 h92, fun z9 hz9 hA9 => (h93 z9 (Nat.lt_of_lt_of_le hz9 hS.1)).trans (hS.2.1 z9 hz9 hA9)⟩) hS.2.2 (Nat.le_of_ble_eq_true rfl) (Nat.le_of_ble_eq_true rfl)
      · have he := (if_neg h33_6).symm.trans he
        refine lv_iload_n hx hb dX9_hold_36 rfl (lv_at hl 3 rfl) ?_
        refine vp_callSi (va_Run.run (va_runS (As := [.int a3]) (rest := []) ⟨hx, hb, hml, hown, hts⟩ (c_X9_isDay l a3 _ rfl) (va_cwS 1 hts gX9_hold_X9_isDay rfl rfl rfl (by decide +kernel) ⟨Nat.le_of_ble_eq_true rfl, Nat.le_of_ble_eq_true rfl⟩) ⟨fb_T, fun U hU hW => ⟨rfl, trivial⟩⟩ rfl rfl hl.1 rfl (lv_room (Nat.le_of_ble_eq_true rfl)) dX9_hold_37 ⟨Nat.le_of_ble_eq_true rfl, Nat.le_of_ble_eq_true rfl⟩)) (fun r9 e9 => ?_)
        subst e9
        refine lv_if_ne (tgt := 53) hx hb dX9_hold_40 (by decide) (fun h40_7 => ?_) (fun h40_7 => ?_)
        · have he := (if_neg h40_7).symm.trans he
          refine lv_aload_n hx hb dX9_hold_53 rfl (lv_at hl 0 rfl) ?_
          refine va_get (D := (dC, dI)) (ci := 9) (v := .ref (q 7)) (C := RX9) (T := TX9) (N := 10) hx hb hts hi9 hown hK.1 hP 0 rfl rfl 6 (by decide) hf54 (fun _ h9 => h9) rfl dX9_hold_54 ?_
          refine lv_iload_n hx hb dX9_hold_57 rfl (lv_at hl 1 rfl) ?_
          refine lv_iload_n hx hb dX9_hold_58 rfl (lv_at hl 2 rfl) ?_
          refine lv_iload_n hx hb dX9_hold_59 rfl (lv_at hl 3 rfl) ?_
          refine va_calli (va_runV (As := [.int a1, .int a2, .int a3]) (rest := []) ⟨hx, hb, hml, hown, hts⟩ (c_X4_add l dC dI q k st a1 a2 a3 hq hok _ rfl) (cwV 3 hts gX9_hold_X4_add rfl rfl rfl (by decide +kernel) ⟨Nat.le_of_ble_eq_true rfl, Nat.le_of_ble_eq_true rfl⟩) ⟨fb_C, va_recv hK.1 hP (ci := 4) (q0 := 7) rfl rfl, fun U hU hW => ⟨rfl, by rw [hU]; exact hP, hK.warm hW⟩⟩ rfl rfl hl.1 rfl (lv_room (Nat.le_of_ble_eq_true rfl)) dX9_hold_60 ⟨Nat.le_of_ble_eq_true rfl, Nat.le_of_ble_eq_true rfl⟩) hS (fun _ _ h => h) (fun _ h => h) (fun r9 u9 t9 H locs ht9 hv9 e9 hB9 hz9 hk9 hS => ?_)
          rw [ht9] at hB9
          subst e9
          have hP : va_P (dC, dI) vwCl (wC q k ((sp_X4_add st a1 a2 a3).2)) H := hB9
          refine lv_istore (lv' := [(4, .int ((sp_X4_add st a1 a2 a3).1)), (0, .ref (q 0)), (1, .int a1), (2, .int a2), (3, .int a3)]) hx hb dX9_hold_63 hl (by decide) rfl (fun ls hl => ?_)
          refine lv_iload hx hb dX9_hold_65 (lv_at hl 0 rfl) ?_
          refine lv_if_ge (tgt := 80) hx hb dX9_hold_67 (by decide) (fun h67_8 => ?_) (fun h67_8 => ?_)
          · have he := (if_pos h67_8).symm.trans he
            refine lv_iload hx hb dX9_hold_80 (lv_at hl 0 rfl) ?_
            refine W.widen (k := 1) (n := 6) (by decide) (by decide) ?_
            refine vx_ret ?_
            exact W.iret (v := (sp_X4_add st a1 a2 a3).1) hx hb hr (fun t ht hW => ⟨⟨_, (), rfl, (by rw [← he]; exact ⟨rfl, rfl⟩ : res.1 = 0 ∧ _ = res.2.1), by show va_P _ _ _ t.heap; rw [ht, ← he]; exact hP⟩, hS.F ht⟩) hS.2.2 dX9_hold_82
          · have he := (if_neg h67_8).symm.trans he
            obtain ⟨sa9, hsa9⟩ := hT.2.2.2 (170, "there are 30 holds") (by decide +kernel)
            refine vx_throwS (A := aC q) (own := RX9) (cls := "java/lang/IllegalStateException") (text := "there are 30 holds") (names := ["java/lang/RuntimeException", "java/lang/Exception"]) hx hb hst hown (by decide +kernel) (by decide +kernel) (hts (.classLink RX9 91 "java/lang/IllegalStateException") (by decide +kernel)) (hts (.initialized "java/lang/IllegalStateException") (by decide +kernel)) hsa9 (vx_hat (B := badWs) (fun w9 h9 => hts w9 (List.mem_cons_of_mem _ (List.mem_append_right _ h9))) bad_2 (fun w9 h9 => va_Nw.use (bad_on w9 h9) (hT.2.2.1 w9 h9))) ot_2 hT.1 hT.2.1 hS (hl.1.trans hml.symm) dX9_hold_70 dX9_hold_73 dX9_hold_74 dX9_hold_76 dX9_hold_79 (fun x9 h9 => (hnt x9 h9).elim) (Nat.le_of_ble_eq_true rfl) (Nat.le_of_ble_eq_true rfl) (Nat.le_of_ble_eq_true rfl) (Nat.le_of_ble_eq_true rfl) hlocks (fun t9 h91 h92 h93 => ⟨(), trivial, ⟨by rw [← he]; exact Or.inr (Or.inl ⟨rfl, rfl⟩), by rw [← he]; exact hP.kept (fun k9 q9 hk9 => h93 _ (va_at.lt (hP k9 q9 hk9)))⟩, Nat.le_trans hS.1 h92, fun z9 hz9 hA9 => (h93 z9 (Nat.lt_of_lt_of_le hz9 hS.1)).trans (hS.2.1 z9 hz9 hA9)⟩) hS.2.2 (Nat.le_of_ble_eq_true rfl) (Nat.le_of_ble_eq_true rfl)
        · have he := (if_pos h40_7).symm.trans he
          obtain ⟨sa9, hsa9⟩ := hT.2.2.2 (167, "there is no such purpose or day") (by decide +kernel)
          refine vx_throwS (A := aC q) (own := RX9) (cls := "java/lang/IllegalArgumentException") (text := "there is no such purpose or day") (names := ["java/lang/RuntimeException", "java/lang/Exception"]) hx hb hst hown (by decide +kernel) (by decide +kernel) (hts (.classLink RX9 80 "java/lang/IllegalArgumentException") (by decide +kernel)) (hts (.initialized "java/lang/IllegalArgumentException") (by decide +kernel)) hsa9 (vx_hat (B := badWs) (fun w9 h9 => hts w9 (List.mem_cons_of_mem _ (List.mem_append_left _ (List.mem_append_right _ h9)))) bad_1 (fun w9 h9 => va_Nw.use (bad_on w9 h9) (hT.2.2.1 w9 h9))) ot_1 hT.1 hT.2.1 hS (hl.1.trans hml.symm) dX9_hold_43 dX9_hold_46 dX9_hold_47 dX9_hold_49 dX9_hold_52 (fun x9 h9 => (hnt x9 h9).elim) (Nat.le_of_ble_eq_true rfl) (Nat.le_of_ble_eq_true rfl) (Nat.le_of_ble_eq_true rfl) (Nat.le_of_ble_eq_true rfl) hlocks (fun t9 h91 h92 h93 => ⟨(), trivial, ⟨by rw [← he]; exact Or.inl ⟨rfl, rfl⟩, by rw [← he]; exact hP.kept (fun k9 q9 hk9 => h93 _ (va_at.lt (hP k9 q9 hk9)))⟩, Nat.le_trans hS.1 h92, fun z9 hz9 hA9 => (h93 z9 (Nat.lt_of_lt_of_le hz9 hS.1)).trans (hS.2.1 z9 hz9 hA9)⟩) hS.2.2 (Nat.le_of_ble_eq_true rfl) (Nat.le_of_ble_eq_true rfl)
    · have he := (if_pos h12_5).symm.trans he
      obtain ⟨sa9, hsa9⟩ := hT.2.2.2 (165, "there is no such person or kind") (by decide +kernel)
      refine vx_throwS (A := aC q) (own := RX9) (cls := "java/lang/IllegalArgumentException") (text := "there is no such person or kind") (names := ["java/lang/RuntimeException", "java/lang/Exception"]) hx hb hst hown (by decide +kernel) (by decide +kernel) (hts (.classLink RX9 80 "java/lang/IllegalArgumentException") (by decide +kernel)) (hts (.initialized "java/lang/IllegalArgumentException") (by decide +kernel)) hsa9 (vx_hat (B := badWs) (fun w9 h9 => hts w9 (List.mem_cons_of_mem _ (List.mem_append_left _ (List.mem_append_right _ h9)))) bad_1 (fun w9 h9 => va_Nw.use (bad_on w9 h9) (hT.2.2.1 w9 h9))) ot_1 hT.1 hT.2.1 hS (hl.1.trans hml.symm) dX9_hold_15 dX9_hold_18 dX9_hold_19 dX9_hold_21 dX9_hold_24 (fun x9 h9 => (hnt x9 h9).elim) (Nat.le_of_ble_eq_true rfl) (Nat.le_of_ble_eq_true rfl) (Nat.le_of_ble_eq_true rfl) (Nat.le_of_ble_eq_true rfl) hlocks (fun t9 h91 h92 h93 => ⟨(), trivial, ⟨by rw [← he]; exact Or.inl ⟨rfl, rfl⟩, by rw [← he]; exact hP.kept (fun k9 q9 hk9 => h93 _ (va_at.lt (hP k9 q9 hk9)))⟩, Nat.le_trans hS.1 h92, fun z9 hz9 hA9 => (h93 z9 (Nat.lt_of_lt_of_le hz9 hS.1)).trans (hS.2.1 z9 hz9 hA9)⟩) hS.2.2 (Nat.le_of_ble_eq_true rfl) (Nat.le_of_ble_eq_true rfl)
set_option maxHeartbeats 4000000 in
set_option maxRecDepth 100000 in
theorem c_X9_lift (l : Launch) (hst : l.stackTraces = false) (dC : Nat → ClassId) (dI : Nat → Nat → Nat) (q : Nat → Nat) (k : Nat → ClassId) (st : St) (a1 : Int32) (a2 : Int32) (hq : ∀ i j, i < 43 → j < 43 → q i = q j → i = j) (hok : okC st) (res : Int32 × St) (hres : sp_X9_lift st a1 a2 = res) : vx_Met l yX9_lift wsX9_lift ({ frames := 6, cells := 1, slots := 6, locals := 90 } : Room) (va_Pc [.ref (q 0), .int a1, .int a2] (fun U => va_P (dC, dI) vwCl (wC q k st) U.heap ∧ KC (dC, dI) k U ∧ TH (aC q) U U.heap)) (va_Qv (fun (_ : Unit) => res.1 = 0) (fun _ t => va_P (dC, dI) vwCl (wC q k res.2) t.heap) (aC q)) (vx_X (fun (_ : Unit) => True) (fun E _ t => xE res.1 E ∧ va_P (dC, dI) vwCl (wC q k res.2) t.heap) (aC q)) 1 6 (aC q) := by
  refine vx_ofW (cc := cX9_lift) (maxL := 3) (ret := none) (by decide) rfl ?_
  intro p e s m args below meth c s₁ B hml hnt hv
  obtain ⟨rfl, hP, hK, hT⟩ := hv
  have hx := B.exec
  have hb := B.bytes
  have hr := B.returns
  have hts := atoms_spec (ws := wsX9_lift) B.pre
  have hown : s.vm.findClass RX9 = some m.cls := findClass_of_methodNamed B.named
  have hlocks := B.notSynchronized
  have hS : va_S (aC q) s.heap s.heap [] := va_S.rf
  have hi9 : ∀ w ∈ wsX90, w ∈ wsX9_lift := by decide +kernel
  have hf54 := hts (.fieldLink RX9 54 "ConsentRegister" "holds" "LConsentRegister$Holds;") (by decide +kernel)
  have hl := lv_entry ([.ref (q 0), .int a1, .int a2]) (n := 3) (Nat.le_of_ble_eq_true rfl)
  rw [lg_entry_eq]
  generalize (lg_sl ([.ref (q 0), .int a1, .int a2]) ++ List.replicate (3 - (lg_sl ([.ref (q 0), .int a1, .int a2])).length) Slot.unset).toArray = ls at hl ⊢
  have hl : lv_has ls 3 [(0, .ref (q 0)), (1, .int a1), (2, .int a2)] := hl
  have he := hres
  unfold sp_X9_lift at he
  refine lv_aload_n hx hb dX9_lift_0 rfl (lv_at hl 0 rfl) ?_
  refine va_get (D := (dC, dI)) (ci := 9) (v := .ref (q 7)) (C := RX9) (T := TX9) (N := 10) hx hb hts hi9 hown hK.1 hP 0 rfl rfl 6 (by decide) hf54 (fun _ h9 => h9) rfl dX9_lift_1 ?_
  refine lv_iload_n hx hb dX9_lift_4 rfl (lv_at hl 1 rfl) ?_
  refine vp_callSi (va_Run.run (va_runV (As := [.int a1]) (rest := []) ⟨hx, hb, hml, hown, hts⟩ (c_X4_has l dC dI q k st a1 _ rfl) (cwV 1 hts gX9_lift_X4_has rfl rfl rfl (by decide +kernel) ⟨Nat.le_of_ble_eq_true rfl, Nat.le_of_ble_eq_true rfl⟩) ⟨fb_C, va_recv hK.1 hP (ci := 4) (q0 := 7) rfl rfl, fun U hU hW => ⟨rfl, by rw [hU]; exact hP, hK.warm hW⟩⟩ rfl rfl hl.1 rfl (lv_room (Nat.le_of_ble_eq_true rfl)) dX9_lift_5 ⟨Nat.le_of_ble_eq_true rfl, Nat.le_of_ble_eq_true rfl⟩)) (fun r9 e9 => ?_)
  subst e9
  refine lv_if_eq (tgt := 30) hx hb dX9_lift_8 (by decide) (fun h8_1 => ?_) (fun h8_1 => ?_)
  · have he := (if_pos h8_1).symm.trans he
    obtain ⟨sa9, hsa9⟩ := hT.2.2.2 (176, "there is no such hold, or it has no such day") (by decide +kernel)
    refine vx_throwS (A := aC q) (own := RX9) (cls := "java/lang/IllegalArgumentException") (text := "there is no such hold, or it has no such day") (names := ["java/lang/RuntimeException", "java/lang/Exception"]) hx hb hst hown (by decide +kernel) (by decide +kernel) (hts (.classLink RX9 80 "java/lang/IllegalArgumentException") (by decide +kernel)) (hts (.initialized "java/lang/IllegalArgumentException") (by decide +kernel)) hsa9 (vx_hat (B := badWs) (fun w9 h9 => hts w9 (List.mem_cons_of_mem _ (List.mem_append_left _ (List.mem_append_right _ h9)))) bad_1 (fun w9 h9 => va_Nw.use (bad_on w9 h9) (hT.2.2.1 w9 h9))) ot_1 hT.1 hT.2.1 hS (hl.1.trans hml.symm) dX9_lift_30 dX9_lift_33 dX9_lift_34 dX9_lift_36 dX9_lift_39 (fun x9 h9 => (hnt x9 h9).elim) (Nat.le_of_ble_eq_true rfl) (Nat.le_of_ble_eq_true rfl) (Nat.le_of_ble_eq_true rfl) (Nat.le_of_ble_eq_true rfl) hlocks (fun t9 h91 h92 h93 => ⟨(), trivial, ⟨by rw [← he]; exact Or.inl ⟨rfl, rfl⟩, by rw [← he]; exact hP.kept (fun k9 q9 hk9 => h93 _ (va_at.lt (hP k9 q9 hk9)))⟩, Nat.le_trans hS.1 h92, fun z9 hz9 hA9 => (h93 z9 (Nat.lt_of_lt_of_le hz9 hS.1)).trans (hS.2.1 z9 hz9 hA9)⟩) hS.2.2 (Nat.le_of_ble_eq_true rfl) (Nat.le_of_ble_eq_true rfl)
  · have he := (if_neg h8_1).symm.trans he
    refine lv_iload_n hx hb dX9_lift_11 rfl (lv_at hl 2 rfl) ?_
    refine lv_aload_n hx hb dX9_lift_12 rfl (lv_at hl 0 rfl) ?_
    refine va_get (D := (dC, dI)) (ci := 9) (v := .ref (q 7)) (C := RX9) (T := TX9) (N := 10) hx hb hts hi9 hown hK.1 hP 0 rfl rfl 6 (by decide) hf54 (fun _ h9 => h9) rfl dX9_lift_13 ?_
    refine lv_iload_n hx hb dX9_lift_16 rfl (lv_at hl 1 rfl) ?_
    refine vp_callSi (va_Run.run (va_runV (As := [.int a1]) (rest := [.int a2]) ⟨hx, hb, hml, hown, hts⟩ (c_X4_firstDayOf l dC dI q k st a1 hok _ rfl) (cwV 1 hts gX9_lift_X4_firstDayOf rfl rfl rfl (by decide +kernel) ⟨Nat.le_of_ble_eq_true rfl, Nat.le_of_ble_eq_true rfl⟩) ⟨fb_C, va_recv hK.1 hP (ci := 4) (q0 := 7) rfl rfl, fun U hU hW => ⟨rfl, by rw [hU]; exact hP, hK.warm hW⟩⟩ rfl rfl hl.1 rfl (lv_room (Nat.le_of_ble_eq_true rfl)) dX9_lift_17 ⟨Nat.le_of_ble_eq_true rfl, Nat.le_of_ble_eq_true rfl⟩)) (fun r9 e9 => ?_)
    subst e9
    refine lv_icmp_lt (tgt := 30) hx hb dX9_lift_20 (by decide) (fun h20_2 => ?_) (fun h20_2 => ?_)
    · have he := (if_pos h20_2).symm.trans he
      obtain ⟨sa9, hsa9⟩ := hT.2.2.2 (176, "there is no such hold, or it has no such day") (by decide +kernel)
      refine vx_throwS (A := aC q) (own := RX9) (cls := "java/lang/IllegalArgumentException") (text := "there is no such hold, or it has no such day") (names := ["java/lang/RuntimeException", "java/lang/Exception"]) hx hb hst hown (by decide +kernel) (by decide +kernel) (hts (.classLink RX9 80 "java/lang/IllegalArgumentException") (by decide +kernel)) (hts (.initialized "java/lang/IllegalArgumentException") (by decide +kernel)) hsa9 (vx_hat (B := badWs) (fun w9 h9 => hts w9 (List.mem_cons_of_mem _ (List.mem_append_left _ (List.mem_append_right _ h9)))) bad_1 (fun w9 h9 => va_Nw.use (bad_on w9 h9) (hT.2.2.1 w9 h9))) ot_1 hT.1 hT.2.1 hS (hl.1.trans hml.symm) dX9_lift_30 dX9_lift_33 dX9_lift_34 dX9_lift_36 dX9_lift_39 (fun x9 h9 => (hnt x9 h9).elim) (Nat.le_of_ble_eq_true rfl) (Nat.le_of_ble_eq_true rfl) (Nat.le_of_ble_eq_true rfl) (Nat.le_of_ble_eq_true rfl) hlocks (fun t9 h91 h92 h93 => ⟨(), trivial, ⟨by rw [← he]; exact Or.inl ⟨rfl, rfl⟩, by rw [← he]; exact hP.kept (fun k9 q9 hk9 => h93 _ (va_at.lt (hP k9 q9 hk9)))⟩, Nat.le_trans hS.1 h92, fun z9 hz9 hA9 => (h93 z9 (Nat.lt_of_lt_of_le hz9 hS.1)).trans (hS.2.1 z9 hz9 hA9)⟩) hS.2.2 (Nat.le_of_ble_eq_true rfl) (Nat.le_of_ble_eq_true rfl)
    · have he := (if_neg h20_2).symm.trans he
      refine lv_iload_n hx hb dX9_lift_23 rfl (lv_at hl 2 rfl) ?_
      refine lv_sipush (v := 6944) hx hb dX9_lift_24 (by decide) ?_
      refine lv_icmp_le (tgt := 40) hx hb dX9_lift_27 (by decide) (fun h27_3 => ?_) (fun h27_3 => ?_)
      · have he := (if_pos h27_3).symm.trans he
        refine lv_aload_n hx hb dX9_lift_40 rfl (lv_at hl 0 rfl) ?_
        refine va_get (D := (dC, dI)) (ci := 9) (v := .ref (q 7)) (C := RX9) (T := TX9) (N := 10) hx hb hts hi9 hown hK.1 hP 0 rfl rfl 6 (by decide) hf54 (fun _ h9 => h9) rfl dX9_lift_41 ?_
        refine lv_iload_n hx hb dX9_lift_44 rfl (lv_at hl 1 rfl) ?_
        refine vp_callSi (va_Run.run (va_runV (As := [.int a1]) (rest := []) ⟨hx, hb, hml, hown, hts⟩ (c_X4_isLifted l dC dI q k st a1 hok _ rfl) (cwV 1 hts gX9_lift_X4_isLifted rfl rfl rfl (by decide +kernel) ⟨Nat.le_of_ble_eq_true rfl, Nat.le_of_ble_eq_true rfl⟩) ⟨fb_C, va_recv hK.1 hP (ci := 4) (q0 := 7) rfl rfl, fun U hU hW => ⟨rfl, by rw [hU]; exact hP, hK.warm hW⟩⟩ rfl rfl hl.1 rfl (lv_room (Nat.le_of_ble_eq_true rfl)) dX9_lift_45 ⟨Nat.le_of_ble_eq_true rfl, Nat.le_of_ble_eq_true rfl⟩)) (fun r9 e9 => ?_)
        subst e9
        refine lv_if_eq (tgt := 61) hx hb dX9_lift_48 (by decide) (fun h48_4 => ?_) (fun h48_4 => ?_)
        · have he := (if_pos h48_4).symm.trans he
          refine lv_aload_n hx hb dX9_lift_61 rfl (lv_at hl 0 rfl) ?_
          refine va_get (D := (dC, dI)) (ci := 9) (v := .ref (q 7)) (C := RX9) (T := TX9) (N := 10) hx hb hts hi9 hown hK.1 hP 0 rfl rfl 6 (by decide) hf54 (fun _ h9 => h9) rfl dX9_lift_62 ?_
          refine lv_iload_n hx hb dX9_lift_65 rfl (lv_at hl 1 rfl) ?_
          refine lv_iload_n hx hb dX9_lift_66 rfl (lv_at hl 2 rfl) ?_
          refine va_callv (va_runV (As := [.int a1, .int a2]) (rest := []) ⟨hx, hb, hml, hown, hts⟩ (c_X4_endOn l dC dI q k st a1 a2 hq hok _ rfl) (cwV 2 hts gX9_lift_X4_endOn rfl rfl rfl (by decide +kernel) ⟨Nat.le_of_ble_eq_true rfl, Nat.le_of_ble_eq_true rfl⟩) ⟨fb_C, va_recv hK.1 hP (ci := 4) (q0 := 7) rfl rfl, fun U hU hW => ⟨rfl, by rw [hU]; exact hP, hK.warm hW⟩⟩ rfl rfl hl.1 rfl (lv_room (Nat.le_of_ble_eq_true rfl)) dX9_lift_67 ⟨Nat.le_of_ble_eq_true rfl, Nat.le_of_ble_eq_true rfl⟩) hS (fun _ _ h => h) (fun _ h => h) (fun u9 t9 H locs ht9 hv9 e9 hB9 hz9 hk9 hS => ?_)
          rw [ht9] at hB9
          have hP : va_P (dC, dI) vwCl (wC q k (sp_X4_endOn st a1 a2)) H := hB9
          refine W.widen (k := 1) (n := 6) (by decide) (by decide) ?_
          refine vx_ret ?_
          exact W.vret hx hb hr (fun t ht hW => ⟨⟨(), rfl, (by rw [← he] : res.1 = 0), by show va_P _ _ _ t.heap; rw [ht, ← he]; exact hP⟩, hS.F ht⟩) hS.2.2 dX9_lift_70
        · have he := (if_neg h48_4).symm.trans he
          obtain ⟨sa9, hsa9⟩ := hT.2.2.2 (181, "the hold was lifted") (by decide +kernel)
          refine vx_throwS (A := aC q) (own := RX9) (cls := "java/lang/IllegalStateException") (text := "the hold was lifted") (names := ["java/lang/RuntimeException", "java/lang/Exception"]) hx hb hst hown (by decide +kernel) (by decide +kernel) (hts (.classLink RX9 91 "java/lang/IllegalStateException") (by decide +kernel)) (hts (.initialized "java/lang/IllegalStateException") (by decide +kernel)) hsa9 (vx_hat (B := badWs) (fun w9 h9 => hts w9 (List.mem_cons_of_mem _ (List.mem_append_right _ h9))) bad_2 (fun w9 h9 => va_Nw.use (bad_on w9 h9) (hT.2.2.1 w9 h9))) ot_2 hT.1 hT.2.1 hS (hl.1.trans hml.symm) dX9_lift_51 dX9_lift_54 dX9_lift_55 dX9_lift_57 dX9_lift_60 (fun x9 h9 => (hnt x9 h9).elim) (Nat.le_of_ble_eq_true rfl) (Nat.le_of_ble_eq_true rfl) (Nat.le_of_ble_eq_true rfl) (Nat.le_of_ble_eq_true rfl) hlocks (fun t9 h91 h92 h93 => ⟨(), trivial, ⟨by rw [← he]; exact Or.inr (Or.inl ⟨rfl, rfl⟩), by rw [← he]; exact hP.kept (fun k9 q9 hk9 => h93 _ (va_at.lt (hP k9 q9 hk9)))⟩, Nat.le_trans hS.1 h92, fun z9 hz9 hA9 => (h93 z9 (Nat.lt_of_lt_of_le hz9 hS.1)).trans (hS.2.1 z9 hz9 hA9)⟩) hS.2.2 (Nat.le_of_ble_eq_true rfl) (Nat.le_of_ble_eq_true rfl)
      · have he := (if_neg h27_3).symm.trans he
        obtain ⟨sa9, hsa9⟩ := hT.2.2.2 (176, "there is no such hold, or it has no such day") (by decide +kernel)
        refine vx_throwS (A := aC q) (own := RX9) (cls := "java/lang/IllegalArgumentException") (text := "there is no such hold, or it has no such day") (names := ["java/lang/RuntimeException", "java/lang/Exception"]) hx hb hst hown (by decide +kernel) (by decide +kernel) (hts (.classLink RX9 80 "java/lang/IllegalArgumentException") (by decide +kernel)) (hts (.initialized "java/lang/IllegalArgumentException") (by decide +kernel)) hsa9 (vx_hat (B := badWs) (fun w9 h9 => hts w9 (List.mem_cons_of_mem _ (List.mem_append_left _ (List.mem_append_right _ h9)))) bad_1 (fun w9 h9 => va_Nw.use (bad_on w9 h9) (hT.2.2.1 w9 h9))) ot_1 hT.1 hT.2.1 hS (hl.1.trans hml.symm) dX9_lift_30 dX9_lift_33 dX9_lift_34 dX9_lift_36 dX9_lift_39 (fun x9 h9 => (hnt x9 h9).elim) (Nat.le_of_ble_eq_true rfl) (Nat.le_of_ble_eq_true rfl) (Nat.le_of_ble_eq_true rfl) (Nat.le_of_ble_eq_true rfl) hlocks (fun t9 h91 h92 h93 => ⟨(), trivial, ⟨by rw [← he]; exact Or.inl ⟨rfl, rfl⟩, by rw [← he]; exact hP.kept (fun k9 q9 hk9 => h93 _ (va_at.lt (hP k9 q9 hk9)))⟩, Nat.le_trans hS.1 h92, fun z9 hz9 hA9 => (h93 z9 (Nat.lt_of_lt_of_le hz9 hS.1)).trans (hS.2.1 z9 hz9 hA9)⟩) hS.2.2 (Nat.le_of_ble_eq_true rfl) (Nat.le_of_ble_eq_true rfl)
set_option maxHeartbeats 4000000 in
set_option maxRecDepth 100000 in
theorem c_X9_use (l : Launch) (hst : l.stackTraces = false) (dC : Nat → ClassId) (dI : Nat → Nat → Nat) (q : Nat → Nat) (k : Nat → ClassId) (st : St) (a1 : Int32) (a2 : Int32) (a3 : Int32) (hq : ∀ i j, i < 43 → j < 43 → q i = q j → i = j) (hok : okC st) (res : Int32 × Int64 × St) (hres : sp_X9_use st a1 a2 a3 = res) : vx_Met l yX9_use wsX9_use ({ frames := 6, cells := 1, slots := 6, locals := 121 } : Room) (va_Pc [.ref (q 0), .int a1, .int a2, .int a3] (fun U => va_P (dC, dI) vwCl (wC q k st) U.heap ∧ KC (dC, dI) k U ∧ TH (aC q) U U.heap)) (va_Ql (fun r (_ : Unit) => res.1 = 0 ∧ r = res.2.1) (fun _ t => va_P (dC, dI) vwCl (wC q k res.2.2) t.heap) (aC q)) (vx_X (fun (_ : Unit) => True) (fun E _ t => xE res.1 E ∧ va_P (dC, dI) vwCl (wC q k res.2.2) t.heap) (aC q)) 1 6 (aC q) := by
  refine vx_ofW (cc := cX9_use) (maxL := 4) (ret := (some .long)) (by decide) rfl ?_
  intro p e s m args below meth c s₁ B hml hnt hv
  obtain ⟨rfl, hP, hK, hT⟩ := hv
  have hx := B.exec
  have hb := B.bytes
  have hr := B.returns
  have hts := atoms_spec (ws := wsX9_use) B.pre
  have hown : s.vm.findClass RX9 = some m.cls := findClass_of_methodNamed B.named
  have hlocks := B.notSynchronized
  have hS : va_S (aC q) s.heap s.heap [] := va_S.rf
  have hi9 : ∀ w ∈ wsX90, w ∈ wsX9_use := by decide +kernel
  have hf10 := hts (.fieldLink RX9 10 "ConsentRegister" "purposes" "LConsentRegister$Purposes;") (by decide +kernel)
  have hf61 := hts (.fieldLink RX9 61 "ConsentRegister" "items" "LConsentRegister$Items;") (by decide +kernel)
  have hf68 := hts (.fieldLink RX9 68 "ConsentRegister" "log" "LConsentRegister$Log;") (by decide +kernel)
  have hf72 := hts (.fieldLink RX9 72 "ConsentRegister" "latestGround" "I") (by decide +kernel)
  have hl := lv_entry ([.ref (q 0), .int a1, .int a2, .int a3]) (n := 4) (Nat.le_of_ble_eq_true rfl)
  rw [lg_entry_eq]
  generalize (lg_sl ([.ref (q 0), .int a1, .int a2, .int a3]) ++ List.replicate (4 - (lg_sl ([.ref (q 0), .int a1, .int a2, .int a3])).length) Slot.unset).toArray = ls at hl ⊢
  have hl : lv_has ls 4 [(0, .ref (q 0)), (1, .int a1), (2, .int a2), (3, .int a3)] := hl
  have he := hres
  unfold sp_X9_use at he
  refine lv_aload_n hx hb dX9_use_0 rfl (lv_at hl 0 rfl) ?_
  refine va_get (D := (dC, dI)) (ci := 9) (v := .ref (q 1)) (C := RX9) (T := TX9) (N := 10) hx hb hts hi9 hown hK.1 hP 0 rfl rfl 0 (by decide) hf10 (fun _ h9 => h9) rfl dX9_use_1 ?_
  refine lv_iload_n hx hb dX9_use_4 rfl (lv_at hl 2 rfl) ?_
  refine vp_callSi (va_Run.run (va_runV (As := [.int a2]) (rest := []) ⟨hx, hb, hml, hown, hts⟩ (c_X8_has l dC dI q k st a2 _ rfl) (cwV 1 hts gX9_use_X8_has rfl rfl rfl (by decide +kernel) ⟨Nat.le_of_ble_eq_true rfl, Nat.le_of_ble_eq_true rfl⟩) ⟨fb_C, va_recv hK.1 hP (ci := 8) (q0 := 1) rfl rfl, fun U hU hW => ⟨rfl, by rw [hU]; exact hP, hK.warm hW⟩⟩ rfl rfl hl.1 rfl (lv_room (Nat.le_of_ble_eq_true rfl)) dX9_use_5 ⟨Nat.le_of_ble_eq_true rfl, Nat.le_of_ble_eq_true rfl⟩)) (fun r9 e9 => ?_)
  subst e9
  refine lv_if_eq (tgt := 18) hx hb dX9_use_8 (by decide) (fun h8_1 => ?_) (fun h8_1 => ?_)
  · have he := (if_pos h8_1).symm.trans he
    obtain ⟨sa9, hsa9⟩ := hT.2.2.2 (187, "there is no such purpose or minute") (by decide +kernel)
    refine vx_throwS (A := aC q) (own := RX9) (cls := "java/lang/IllegalArgumentException") (text := "there is no such purpose or minute") (names := ["java/lang/RuntimeException", "java/lang/Exception"]) hx hb hst hown (by decide +kernel) (by decide +kernel) (hts (.classLink RX9 80 "java/lang/IllegalArgumentException") (by decide +kernel)) (hts (.initialized "java/lang/IllegalArgumentException") (by decide +kernel)) hsa9 (vx_hat (B := badWs) (fun w9 h9 => hts w9 (List.mem_cons_of_mem _ (List.mem_append_left _ (List.mem_append_left _ (List.mem_append_right _ h9))))) bad_1 (fun w9 h9 => va_Nw.use (bad_on w9 h9) (hT.2.2.1 w9 h9))) ot_1 hT.1 hT.2.1 hS (hl.1.trans hml.symm) dX9_use_18 dX9_use_21 dX9_use_22 dX9_use_24 dX9_use_27 (fun x9 h9 => (hnt x9 h9).elim) (Nat.le_of_ble_eq_true rfl) (Nat.le_of_ble_eq_true rfl) (Nat.le_of_ble_eq_true rfl) (Nat.le_of_ble_eq_true rfl) hlocks (fun t9 h91 h92 h93 => ⟨(), trivial, ⟨by rw [← he]; exact Or.inl ⟨rfl, rfl⟩, by rw [← he]; exact hP.kept (fun k9 q9 hk9 => h93 _ (va_at.lt (hP k9 q9 hk9)))⟩, Nat.le_trans hS.1 h92, fun z9 hz9 hA9 => (h93 z9 (Nat.lt_of_lt_of_le hz9 hS.1)).trans (hS.2.1 z9 hz9 hA9)⟩) hS.2.2 (Nat.le_of_ble_eq_true rfl) (Nat.le_of_ble_eq_true rfl)
  · have he := (if_neg h8_1).symm.trans he
    refine lv_iload_n hx hb dX9_use_11 rfl (lv_at hl 3 rfl) ?_
    refine vp_callSi (va_Run.run (va_runS (As := [.int a3]) (rest := []) ⟨hx, hb, hml, hown, hts⟩ (c_X9_isMinute l a3 _ rfl) (va_cwS 1 hts gX9_use_X9_isMinute rfl rfl rfl (by decide +kernel) ⟨Nat.le_of_ble_eq_true rfl, Nat.le_of_ble_eq_true rfl⟩) ⟨fb_T, fun U hU hW => ⟨rfl, trivial⟩⟩ rfl rfl hl.1 rfl (lv_room (Nat.le_of_ble_eq_true rfl)) dX9_use_12 ⟨Nat.le_of_ble_eq_true rfl, Nat.le_of_ble_eq_true rfl⟩)) (fun r9 e9 => ?_)
    subst e9
    refine lv_if_ne (tgt := 28) hx hb dX9_use_15 (by decide) (fun h15_2 => ?_) (fun h15_2 => ?_)
    · have he := (if_neg h15_2).symm.trans he
      refine lv_aload_n hx hb dX9_use_28 rfl (lv_at hl 0 rfl) ?_
      refine va_get (D := (dC, dI)) (ci := 9) (v := .ref (q 8)) (C := RX9) (T := TX9) (N := 10) hx hb hts hi9 hown hK.1 hP 0 rfl rfl 7 (by decide) hf61 (fun _ h9 => h9) rfl dX9_use_29 ?_
      refine lv_iload_n hx hb dX9_use_32 rfl (lv_at hl 1 rfl) ?_
      refine vp_callSi (va_Run.run (va_runV (As := [.int a1]) (rest := []) ⟨hx, hb, hml, hown, hts⟩ (c_X5_lives l dC dI q k st a1 hok _ rfl) (cwV 1 hts gX9_use_X5_lives rfl rfl rfl (by decide +kernel) ⟨Nat.le_of_ble_eq_true rfl, Nat.le_of_ble_eq_true rfl⟩) ⟨fb_C, va_recv hK.1 hP (ci := 5) (q0 := 8) rfl rfl, fun U hU hW => ⟨rfl, by rw [hU]; exact hP, hK.warm hW⟩⟩ rfl rfl hl.1 rfl (lv_room (Nat.le_of_ble_eq_true rfl)) dX9_use_33 ⟨Nat.le_of_ble_eq_true rfl, Nat.le_of_ble_eq_true rfl⟩)) (fun r9 e9 => ?_)
      subst e9
      refine lv_if_ne (tgt := 49) hx hb dX9_use_36 (by decide) (fun h36_3 => ?_) (fun h36_3 => ?_)
      · have he := (if_neg h36_3).symm.trans he
        refine lv_aload_n hx hb dX9_use_49 rfl (lv_at hl 0 rfl) ?_
        refine lv_aload_n hx hb dX9_use_50 rfl (lv_at hl 0 rfl) ?_
        refine lv_iload_n hx hb dX9_use_51 rfl (lv_at hl 1 rfl) ?_
        refine lv_iload_n hx hb dX9_use_52 rfl (lv_at hl 2 rfl) ?_
        refine lv_iload_n hx hb dX9_use_53 rfl (lv_at hl 3 rfl) ?_
        refine vp_callSi (va_Run.run (va_runV (As := [.int a1, .int a2, .int a3]) (rest := [.ref (q 0)]) ⟨hx, hb, hml, hown, hts⟩ (c_X9_groundOf l dC dI q k st a1 a2 a3 hok _ rfl) (cwV 3 hts gX9_use_X9_groundOf rfl rfl rfl (by decide +kernel) ⟨Nat.le_of_ble_eq_true rfl, Nat.le_of_ble_eq_true rfl⟩) ⟨fb_C, va_recv hK.1 hP (ci := 9) (q0 := 0) rfl rfl, fun U hU hW => ⟨rfl, by rw [hU]; exact hP, hK.warm hW⟩⟩ rfl rfl hl.1 rfl (lv_room (Nat.le_of_ble_eq_true rfl)) dX9_use_54 ⟨Nat.le_of_ble_eq_true rfl, Nat.le_of_ble_eq_true rfl⟩)) (fun r9 e9 => ?_)
        subst e9
        refine va_put (D := (dC, dI)) (ci := 9) (v := .int (sp_X9_groundOf st a1 a2 a3)) (ty := .int) (C := RX9) (T := TX9) (N := 10) hx hb hts hi9 tyX9 tyX9_ok nmX9 hown hK.1 hP (dC_of hq) hS 0 rfl rfl 9 (by decide) hf72 (fun _ h9 => h9) rfl (by decide +kernel) rfl rfl (Nat.le_of_ble_eq_true rfl) dX9_use_57 (fun H locs hP _ hS => ?_)
        have hP : va_P (dC, dI) vwCl (wC q k (sI st 9 (sp_X9_groundOf st a1 a2 a3))) H := hP
        refine lv_aload_n hx hb dX9_use_60 rfl (lv_at hl 0 rfl) ?_
        refine va_get (D := (dC, dI)) (ci := 9) (v := .ref (q 9)) (C := RX9) (T := TX9) (N := 10) hx hb hts hi9 hown hK.1 hP 0 rfl rfl 8 (by decide) hf68 (fun _ h9 => h9) rfl dX9_use_61 ?_
        refine lv_iload_n hx hb dX9_use_64 rfl (lv_at hl 1 rfl) ?_
        refine lv_iload_n hx hb dX9_use_65 rfl (lv_at hl 2 rfl) ?_
        refine lv_iload_n hx hb dX9_use_66 rfl (lv_at hl 3 rfl) ?_
        refine lv_aload_n hx hb dX9_use_67 rfl (lv_at hl 0 rfl) ?_
        refine va_get (D := (dC, dI)) (ci := 9) (v := .int (sp_X9_groundOf st a1 a2 a3)) (C := RX9) (T := TX9) (N := 10) hx hb hts hi9 hown hK.1 hP 0 rfl rfl 9 (by decide) hf72 (fun _ h9 => h9) rfl dX9_use_68 ?_
        refine va_callv (va_runV (As := [.int a1, .int a2, .int a3, .int (sp_X9_groundOf st a1 a2 a3)]) (rest := []) ⟨hx, hb, hml, hown, hts⟩ (c_X7_add l dC dI q k (sI st 9 (sp_X9_groundOf st a1 a2 a3)) a1 a2 a3 (sp_X9_groundOf st a1 a2 a3) hq (ob_X9_use_71_4 st a1 a2 a3 hok h8_1 h15_2 h36_3) _ rfl) (cwV 4 hts gX9_use_X7_add rfl rfl rfl (by decide +kernel) ⟨Nat.le_of_ble_eq_true rfl, Nat.le_of_ble_eq_true rfl⟩) ⟨fb_C, va_recv hK.1 hP (ci := 7) (q0 := 9) rfl rfl, fun U hU hW => ⟨rfl, by rw [hU]; exact hP, hK.warm hW⟩⟩ rfl rfl hl.1 rfl (lv_room (Nat.le_of_ble_eq_true rfl)) dX9_use_71 ⟨Nat.le_of_ble_eq_true rfl, Nat.le_of_ble_eq_true rfl⟩) hS (fun _ _ h => h) (fun _ h => h) (fun u9 t9 H locs ht9 hv9 e9 hB9 hz9 hk9 hS => ?_)
        rw [ht9] at hB9
        have hP : va_P (dC, dI) vwCl (wC q k (sp_X7_add (sI st 9 (sp_X9_groundOf st a1 a2 a3)) a1 a2 a3 (sp_X9_groundOf st a1 a2 a3))) H := hB9
        refine lv_aload_n hx hb dX9_use_74 rfl (lv_at hl 0 rfl) ?_
        refine va_get (D := (dC, dI)) (ci := 9) (v := .int ((sp_X7_add (sI st 9 (sp_X9_groundOf st a1 a2 a3)) a1 a2 a3 (sp_X9_groundOf st a1 a2 a3)).1 9)) (C := RX9) (T := TX9) (N := 10) hx hb hts hi9 hown hK.1 hP 0 rfl rfl 9 (by decide) hf72 (fun _ h9 => h9) rfl dX9_use_75 ?_
        refine lv_if_ne (tgt := 91) hx hb dX9_use_78 (by decide) (fun h78_5 => ?_) (fun h78_5 => ?_)
        · have he := (if_neg h78_5).symm.trans he
          refine lv_aload_n hx hb dX9_use_91 rfl (lv_at hl 0 rfl) ?_
          refine va_get (D := (dC, dI)) (ci := 9) (v := .ref (q 8)) (C := RX9) (T := TX9) (N := 10) hx hb hts hi9 hown hK.1 hP 0 rfl rfl 7 (by decide) hf61 (fun _ h9 => h9) rfl dX9_use_92 ?_
          refine lv_iload_n hx hb dX9_use_95 rfl (lv_at hl 1 rfl) ?_
          refine vp_callSl (va_Run.run (va_runV (As := [.int a1]) (rest := []) ⟨hx, hb, hml, hown, hts⟩ (c_X5_valueOf l dC dI q k (sp_X7_add (sI st 9 (sp_X9_groundOf st a1 a2 a3)) a1 a2 a3 (sp_X9_groundOf st a1 a2 a3)) a1 (ob_X9_use_96_6 st a1 a2 a3 hok h8_1 h15_2 h36_3 h78_5) _ rfl) (cwV 1 hts gX9_use_X5_valueOf rfl rfl rfl (by decide +kernel) ⟨Nat.le_of_ble_eq_true rfl, Nat.le_of_ble_eq_true rfl⟩) ⟨fb_C, va_recv hK.1 hP (ci := 5) (q0 := 8) rfl rfl, fun U hU hW => ⟨rfl, by rw [hU]; exact hP, hK.warm hW⟩⟩ rfl rfl hl.1 rfl (lv_room (Nat.le_of_ble_eq_true rfl)) dX9_use_96 ⟨Nat.le_of_ble_eq_true rfl, Nat.le_of_ble_eq_true rfl⟩)) (fun r9 e9 => ?_)
          subst e9
          refine W.widen (k := 1) (n := 6) (by decide) (by decide) ?_
          refine vx_ret ?_
          exact W.lret (v := (sp_X5_valueOf (sp_X7_add (sI st 9 (sp_X9_groundOf st a1 a2 a3)) a1 a2 a3 (sp_X9_groundOf st a1 a2 a3)) a1)) hx hb hr (fun t ht hW => ⟨⟨_, (), rfl, (by rw [← he]; exact ⟨rfl, rfl⟩ : res.1 = 0 ∧ _ = res.2.1), by show va_P _ _ _ t.heap; rw [ht, ← he]; exact hP⟩, hS.F ht⟩) hS.2.2 dX9_use_99
        · have he := (if_pos h78_5).symm.trans he
          obtain ⟨sa9, hsa9⟩ := hT.2.2.2 (197, "there is no ground for this use") (by decide +kernel)
          refine vx_throwS (A := aC q) (own := RX9) (cls := "java/lang/IllegalStateException") (text := "there is no ground for this use") (names := ["java/lang/RuntimeException", "java/lang/Exception"]) hx hb hst hown (by decide +kernel) (by decide +kernel) (hts (.classLink RX9 91 "java/lang/IllegalStateException") (by decide +kernel)) (hts (.initialized "java/lang/IllegalStateException") (by decide +kernel)) hsa9 (vx_hat (B := badWs) (fun w9 h9 => hts w9 (List.mem_cons_of_mem _ (List.mem_append_right _ h9))) bad_2 (fun w9 h9 => va_Nw.use (bad_on w9 h9) (hT.2.2.1 w9 h9))) ot_2 hT.1 hT.2.1 hS (hl.1.trans hml.symm) dX9_use_81 dX9_use_84 dX9_use_85 dX9_use_87 dX9_use_90 (fun x9 h9 => (hnt x9 h9).elim) (Nat.le_of_ble_eq_true rfl) (Nat.le_of_ble_eq_true rfl) (Nat.le_of_ble_eq_true rfl) (Nat.le_of_ble_eq_true rfl) hlocks (fun t9 h91 h92 h93 => ⟨(), trivial, ⟨by rw [← he]; exact Or.inr (Or.inl ⟨rfl, rfl⟩), by rw [← he]; exact hP.kept (fun k9 q9 hk9 => h93 _ (va_at.lt (hP k9 q9 hk9)))⟩, Nat.le_trans hS.1 h92, fun z9 hz9 hA9 => (h93 z9 (Nat.lt_of_lt_of_le hz9 hS.1)).trans (hS.2.1 z9 hz9 hA9)⟩) hS.2.2 (Nat.le_of_ble_eq_true rfl) (Nat.le_of_ble_eq_true rfl)
      · have he := (if_pos h36_3).symm.trans he
        obtain ⟨sa9, hsa9⟩ := hT.2.2.2 (189, "the item does not live") (by decide +kernel)
        refine vx_throwSN (A := aC q) (own := RX9) (cls := "java/util/NoSuchElementException") (text := "the item does not live") (names := ["java/lang/RuntimeException", "java/lang/Exception"]) hx hb hst hown (by decide +kernel) (by decide +kernel) (hts (.classLink RX9 151 "java/util/NoSuchElementException") (by decide +kernel)) (hts (.initialized "java/util/NoSuchElementException") (by decide +kernel)) hsa9 (vx_hat (B := badWs) (fun w9 h9 => hts w9 (List.mem_cons_of_mem _ (List.mem_append_left _ (List.mem_append_right _ h9)))) bad_3 (fun w9 h9 => va_Nw.use (bad_on w9 h9) (hT.2.2.1 w9 h9))) ot_3 hT.1 hT.2.1 hS (hl.1.trans hml.symm) dX9_use_39 dX9_use_42 dX9_use_43 dX9_use_45 dX9_use_48 (fun x9 h9 => (hnt x9 h9).elim) (Nat.le_of_ble_eq_true rfl) (Nat.le_of_ble_eq_true rfl) (Nat.le_of_ble_eq_true rfl) (Nat.le_of_ble_eq_true rfl) hlocks (fun t9 h91 h92 h93 => ⟨(), trivial, ⟨by rw [← he]; exact Or.inr (Or.inr ⟨rfl, rfl⟩), by rw [← he]; exact hP.kept (fun k9 q9 hk9 => h93 _ (va_at.lt (hP k9 q9 hk9)))⟩, Nat.le_trans hS.1 h92, fun z9 hz9 hA9 => (h93 z9 (Nat.lt_of_lt_of_le hz9 hS.1)).trans (hS.2.1 z9 hz9 hA9)⟩) hS.2.2 (Nat.le_of_ble_eq_true rfl) (Nat.le_of_ble_eq_true rfl)
    · have he := (if_pos h15_2).symm.trans he
      obtain ⟨sa9, hsa9⟩ := hT.2.2.2 (187, "there is no such purpose or minute") (by decide +kernel)
      refine vx_throwS (A := aC q) (own := RX9) (cls := "java/lang/IllegalArgumentException") (text := "there is no such purpose or minute") (names := ["java/lang/RuntimeException", "java/lang/Exception"]) hx hb hst hown (by decide +kernel) (by decide +kernel) (hts (.classLink RX9 80 "java/lang/IllegalArgumentException") (by decide +kernel)) (hts (.initialized "java/lang/IllegalArgumentException") (by decide +kernel)) hsa9 (vx_hat (B := badWs) (fun w9 h9 => hts w9 (List.mem_cons_of_mem _ (List.mem_append_left _ (List.mem_append_left _ (List.mem_append_right _ h9))))) bad_1 (fun w9 h9 => va_Nw.use (bad_on w9 h9) (hT.2.2.1 w9 h9))) ot_1 hT.1 hT.2.1 hS (hl.1.trans hml.symm) dX9_use_18 dX9_use_21 dX9_use_22 dX9_use_24 dX9_use_27 (fun x9 h9 => (hnt x9 h9).elim) (Nat.le_of_ble_eq_true rfl) (Nat.le_of_ble_eq_true rfl) (Nat.le_of_ble_eq_true rfl) (Nat.le_of_ble_eq_true rfl) hlocks (fun t9 h91 h92 h93 => ⟨(), trivial, ⟨by rw [← he]; exact Or.inl ⟨rfl, rfl⟩, by rw [← he]; exact hP.kept (fun k9 q9 hk9 => h93 _ (va_at.lt (hP k9 q9 hk9)))⟩, Nat.le_trans hS.1 h92, fun z9 hz9 hA9 => (h93 z9 (Nat.lt_of_lt_of_le hz9 hS.1)).trans (hS.2.1 z9 hz9 hA9)⟩) hS.2.2 (Nat.le_of_ble_eq_true rfl) (Nat.le_of_ble_eq_true rfl)
set_option maxHeartbeats 4000000 in
set_option maxRecDepth 100000 in
theorem c_X9_erase (l : Launch) (hst : l.stackTraces = false) (dC : Nat → ClassId) (dI : Nat → Nat → Nat) (q : Nat → Nat) (k : Nat → ClassId) (st : St) (a1 : Int32) (a2 : Int32) (hq : ∀ i j, i < 43 → j < 43 → q i = q j → i = j) (hok : okC st) (res : Int32 × Int32 × St) (hres : sp_X9_erase st a1 a2 = res) : vx_Met l yX9_erase wsX9_erase ({ frames := 6, cells := 1, slots := 6, locals := 136 } : Room) (va_Pc [.ref (q 0), .int a1, .int a2] (fun U => va_P (dC, dI) vwCl (wC q k st) U.heap ∧ KC (dC, dI) k U ∧ TH (aC q) U U.heap)) (va_Qi (fun r (_ : Unit) => res.1 = 0 ∧ r = res.2.1) (fun _ t => va_P (dC, dI) vwCl (wC q k res.2.2) t.heap) (aC q)) (vx_X (fun (_ : Unit) => True) (fun E _ t => xE res.1 E ∧ va_P (dC, dI) vwCl (wC q k res.2.2) t.heap) (aC q)) 1 6 (aC q) := by
  refine vx_ofW (cc := cX9_erase) (maxL := 5) (ret := (some .int)) (by decide) rfl ?_
  intro p e s m args below meth c s₁ B hml hnt hv
  obtain ⟨rfl, hP, hK, hT⟩ := hv
  have hx := B.exec
  have hb := B.bytes
  have hr := B.returns
  have hts := atoms_spec (ws := wsX9_erase) B.pre
  have hown : s.vm.findClass RX9 = some m.cls := findClass_of_methodNamed B.named
  have hlocks := B.notSynchronized
  have hS : va_S (aC q) s.heap s.heap [] := va_S.rf
  have hi9 : ∀ w ∈ wsX90, w ∈ wsX9_erase := by decide +kernel
  have hf61 := hts (.fieldLink RX9 61 "ConsentRegister" "items" "LConsentRegister$Items;") (by decide +kernel)
  have hl := lv_entry ([.ref (q 0), .int a1, .int a2]) (n := 5) (Nat.le_of_ble_eq_true rfl)
  rw [lg_entry_eq]
  generalize (lg_sl ([.ref (q 0), .int a1, .int a2]) ++ List.replicate (5 - (lg_sl ([.ref (q 0), .int a1, .int a2])).length) Slot.unset).toArray = ls at hl ⊢
  have hl : lv_has ls 5 [(0, .ref (q 0)), (1, .int a1), (2, .int a2)] := hl
  have he := hres
  unfold sp_X9_erase at he
  refine lv_iload_n hx hb dX9_erase_0 rfl (lv_at hl 1 rfl) ?_
  refine vp_callSi (va_Run.run (va_runS (As := [.int a1]) (rest := []) ⟨hx, hb, hml, hown, hts⟩ (c_X9_isPerson l a1 _ rfl) (va_cwS 1 hts gX9_erase_X9_isPerson rfl rfl rfl (by decide +kernel) ⟨Nat.le_of_ble_eq_true rfl, Nat.le_of_ble_eq_true rfl⟩) ⟨fb_T, fun U hU hW => ⟨rfl, trivial⟩⟩ rfl rfl hl.1 rfl (lv_room (Nat.le_of_ble_eq_true rfl)) dX9_erase_1 ⟨Nat.le_of_ble_eq_true rfl, Nat.le_of_ble_eq_true rfl⟩)) (fun r9 e9 => ?_)
  subst e9
  refine lv_if_eq (tgt := 14) hx hb dX9_erase_4 (by decide) (fun h4_1 => ?_) (fun h4_1 => ?_)
  · have he := (if_pos h4_1).symm.trans he
    obtain ⟨sa9, hsa9⟩ := hT.2.2.2 (203, "there is no such person or minute") (by decide +kernel)
    refine vx_throwS (A := aC q) (own := RX9) (cls := "java/lang/IllegalArgumentException") (text := "there is no such person or minute") (names := ["java/lang/RuntimeException", "java/lang/Exception"]) hx hb hst hown (by decide +kernel) (by decide +kernel) (hts (.classLink RX9 80 "java/lang/IllegalArgumentException") (by decide +kernel)) (hts (.initialized "java/lang/IllegalArgumentException") (by decide +kernel)) hsa9 (vx_hat (B := badWs) (fun w9 h9 => hts w9 (List.mem_cons_of_mem _ (List.mem_append_right _ h9))) bad_1 (fun w9 h9 => va_Nw.use (bad_on w9 h9) (hT.2.2.1 w9 h9))) ot_1 hT.1 hT.2.1 hS (hl.1.trans hml.symm) dX9_erase_14 dX9_erase_17 dX9_erase_18 dX9_erase_20 dX9_erase_23 (fun x9 h9 => (hnt x9 h9).elim) (Nat.le_of_ble_eq_true rfl) (Nat.le_of_ble_eq_true rfl) (Nat.le_of_ble_eq_true rfl) (Nat.le_of_ble_eq_true rfl) hlocks (fun t9 h91 h92 h93 => ⟨(), trivial, ⟨by rw [← he]; exact Or.inl ⟨rfl, rfl⟩, by rw [← he]; exact hP.kept (fun k9 q9 hk9 => h93 _ (va_at.lt (hP k9 q9 hk9)))⟩, Nat.le_trans hS.1 h92, fun z9 hz9 hA9 => (h93 z9 (Nat.lt_of_lt_of_le hz9 hS.1)).trans (hS.2.1 z9 hz9 hA9)⟩) hS.2.2 (Nat.le_of_ble_eq_true rfl) (Nat.le_of_ble_eq_true rfl)
  · have he := (if_neg h4_1).symm.trans he
    refine lv_iload_n hx hb dX9_erase_7 rfl (lv_at hl 2 rfl) ?_
    refine vp_callSi (va_Run.run (va_runS (As := [.int a2]) (rest := []) ⟨hx, hb, hml, hown, hts⟩ (c_X9_isMinute l a2 _ rfl) (va_cwS 1 hts gX9_erase_X9_isMinute rfl rfl rfl (by decide +kernel) ⟨Nat.le_of_ble_eq_true rfl, Nat.le_of_ble_eq_true rfl⟩) ⟨fb_T, fun U hU hW => ⟨rfl, trivial⟩⟩ rfl rfl hl.1 rfl (lv_room (Nat.le_of_ble_eq_true rfl)) dX9_erase_8 ⟨Nat.le_of_ble_eq_true rfl, Nat.le_of_ble_eq_true rfl⟩)) (fun r9 e9 => ?_)
    subst e9
    refine lv_if_ne (tgt := 24) hx hb dX9_erase_11 (by decide) (fun h11_2 => ?_) (fun h11_2 => ?_)
    · have he := (if_neg h11_2).symm.trans he
      refine lv_aload_n hx hb dX9_erase_24 rfl (lv_at hl 0 rfl) ?_
      refine va_get (D := (dC, dI)) (ci := 9) (v := .ref (q 8)) (C := RX9) (T := TX9) (N := 10) hx hb hts hi9 hown hK.1 hP 0 rfl rfl 7 (by decide) hf61 (fun _ h9 => h9) rfl dX9_erase_25 ?_
      refine vp_callSi (va_Run.run (va_runV (As := []) (rest := []) ⟨hx, hb, hml, hown, hts⟩ (c_X5_living l dC dI q k st _ rfl) (cwV 0 hts gX9_erase_X5_living rfl rfl rfl (by decide +kernel) ⟨Nat.le_of_ble_eq_true rfl, Nat.le_of_ble_eq_true rfl⟩) ⟨fb_C, va_recv hK.1 hP (ci := 5) (q0 := 8) rfl rfl, fun U hU hW => ⟨rfl, by rw [hU]; exact hP, hK.warm hW⟩⟩ rfl rfl hl.1 rfl (lv_room (Nat.le_of_ble_eq_true rfl)) dX9_erase_28 ⟨Nat.le_of_ble_eq_true rfl, Nat.le_of_ble_eq_true rfl⟩)) (fun r9 e9 => ?_)
      subst e9
      refine lv_istore_n (lv' := [(3, .int (sp_X5_living st)), (0, .ref (q 0)), (1, .int a1), (2, .int a2)]) hx hb dX9_erase_31 rfl hl (by decide) rfl (fun ls hl => ?_)
      refine lv_aload_n hx hb dX9_erase_32 rfl (lv_at hl 1 rfl) ?_
      refine lv_iload_n hx hb dX9_erase_33 rfl (lv_at hl 3 rfl) ?_
      refine vp_callSi (va_Run.run (va_runS (As := [.int a2]) (rest := [.ref (q 0)]) ⟨hx, hb, hml, hown, hts⟩ (c_X9_dayOfMinute l a2 _ rfl) (va_cwS 1 hts gX9_erase_X9_dayOfMinute rfl rfl rfl (by decide +kernel) ⟨Nat.le_of_ble_eq_true rfl, Nat.le_of_ble_eq_true rfl⟩) ⟨fb_T, fun U hU hW => ⟨rfl, trivial⟩⟩ rfl rfl hl.1 rfl (lv_room (Nat.le_of_ble_eq_true rfl)) dX9_erase_34 ⟨Nat.le_of_ble_eq_true rfl, Nat.le_of_ble_eq_true rfl⟩)) (fun r9 e9 => ?_)
      subst e9
      refine va_callv (va_runV (As := [.int (sp_X9_dayOfMinute a2)]) (rest := []) ⟨hx, hb, hml, hown, hts⟩ (c_X9_markKept l dC dI q k st (sp_X9_dayOfMinute a2) hq hok _ rfl) (cwV 1 hts gX9_erase_X9_markKept rfl rfl rfl (by decide +kernel) ⟨Nat.le_of_ble_eq_true rfl, Nat.le_of_ble_eq_true rfl⟩) ⟨fb_C, va_recv hK.1 hP (ci := 9) (q0 := 0) rfl rfl, fun U hU hW => ⟨rfl, by rw [hU]; exact hP, hK.warm hW⟩⟩ rfl rfl hl.1 rfl (lv_room (Nat.le_of_ble_eq_true rfl)) dX9_erase_37 ⟨Nat.le_of_ble_eq_true rfl, Nat.le_of_ble_eq_true rfl⟩) hS (fun _ _ h => h) (fun _ h => h) (fun u9 t9 H locs ht9 hv9 e9 hB9 hz9 hk9 hS => ?_)
      rw [ht9] at hB9
      have hP : va_P (dC, dI) vwCl (wC q k (sp_X9_markKept st (sp_X9_dayOfMinute a2))) H := hB9
      refine lv_iconst (v := 0) hx hb dX9_erase_40 (by decide) ?_
      refine lv_istore (lv' := [(4, .int 0), (3, .int (sp_X5_living st)), (0, .ref (q 0)), (1, .int a1), (2, .int a2)]) hx hb dX9_erase_41 hl (by decide) rfl (fun ls hl => ?_)
      have k_43 : ∀ (n_43 : Nat) (st_43 : St) (x4_43 : Int32) (H : Heap) (locs : List Loc) (ls : Array Slot), 0 ≤ x4_43.toInt → x4_43.toInt ≤ (st.1 7).toInt → (st.1 7).toInt < x4_43.toInt + n_43 → okC st_43 → (st_43.1 7).toInt = (st.1 7).toInt → va_P (dC, dI) vwCl (wC q k st_43) H → va_S (aC q) s.heap H locs → lp_X9_erase_43 st a1 a2 n_43 st_43 x4_43 = res → lv_has ls 5 [(4, .int x4_43), (3, .int (sp_X5_living st)), (0, .ref (q 0)), (1, .int a1), (2, .int a2)] → W p l e (headSpec wsX9_erase ({ frames := 6, cells := 1, slots := 6, locals := 136 } : Room)).room s m ([.ref (q 0), .int a1, .int a2] : List Value).toArray below meth c H locs 0 0 (vx_MQ below (va_Qi (fun r (_ : Unit) => res.1 = 0 ∧ r = res.2.1) (fun _ t => va_P (dC, dI) vwCl (wC q k res.2.2) t.heap) (aC q)) (vx_X (fun (_ : Unit) => True) (fun E _ t => xE res.1 E ∧ va_P (dC, dI) vwCl (wC q k res.2.2) t.heap) (aC q)) ([.ref (q 0), .int a1, .int a2] : List Value).toArray s 1 6 (aC q)) (F0 m 43 ls []) := by
        intro n_43
        induction n_43 with
        | zero =>
          intro st_43 x4_43 H locs ls hi0_43 hi1_43 hi2_43 hi3_43 hi4_43
          exact (ob_X9_erase_43_zero st a1 a2 st_43 x4_43 hok h4_1 h11_2 hi0_43 hi1_43 hi2_43 hi3_43 hi4_43).elim
        | succ n_43 ih_43 =>
          intro st_43 x4_43 H locs ls hi0_43 hi1_43 hi2_43 hi3_43 hi4_43 hP hS he hl
          rw [lp_X9_erase_43] at he
          refine lv_iload hx hb dX9_erase_43 (lv_at hl 0 rfl) ?_
          refine lv_aload_n hx hb dX9_erase_45 rfl (lv_at hl 2 rfl) ?_
          refine va_get (D := (dC, dI)) (ci := 9) (v := .ref (q 8)) (C := RX9) (T := TX9) (N := 10) hx hb hts hi9 hown hK.1 hP 0 rfl rfl 7 (by decide) hf61 (fun _ h9 => h9) rfl dX9_erase_46 ?_
          refine vp_callSi (va_Run.run (va_runV (As := []) (rest := [.int x4_43]) ⟨hx, hb, hml, hown, hts⟩ (c_X5_total l dC dI q k st_43 _ rfl) (cwV 0 hts gX9_erase_X5_total rfl rfl rfl (by decide +kernel) ⟨Nat.le_of_ble_eq_true rfl, Nat.le_of_ble_eq_true rfl⟩) ⟨fb_C, va_recv hK.1 hP (ci := 5) (q0 := 8) rfl rfl, fun U hU hW => ⟨rfl, by rw [hU]; exact hP, hK.warm hW⟩⟩ rfl rfl hl.1 rfl (lv_room (Nat.le_of_ble_eq_true rfl)) dX9_erase_49 ⟨Nat.le_of_ble_eq_true rfl, Nat.le_of_ble_eq_true rfl⟩)) (fun r9 e9 => ?_)
          subst e9
          refine lv_icmp_ge (tgt := 95) hx hb dX9_erase_52 (by decide) (fun h52_3 => ?_) (fun h52_3 => ?_)
          · have he := (if_pos h52_3).symm.trans he
            refine lv_aload_n hx hb dX9_erase_95 rfl (lv_at hl 2 rfl) ?_
            refine va_get (D := (dC, dI)) (ci := 9) (v := .ref (q 8)) (C := RX9) (T := TX9) (N := 10) hx hb hts hi9 hown hK.1 hP 0 rfl rfl 7 (by decide) hf61 (fun _ h9 => h9) rfl dX9_erase_96 ?_
            refine va_callv (va_runV (As := []) (rest := []) ⟨hx, hb, hml, hown, hts⟩ (c_X5_followInputs l dC dI q k st_43 hq hi3_43 _ rfl) (cwV 0 hts gX9_erase_X5_followInputs rfl rfl rfl (by decide +kernel) ⟨Nat.le_of_ble_eq_true rfl, Nat.le_of_ble_eq_true rfl⟩) ⟨fb_C, va_recv hK.1 hP (ci := 5) (q0 := 8) rfl rfl, fun U hU hW => ⟨rfl, by rw [hU]; exact hP, hK.warm hW⟩⟩ rfl rfl hl.1 rfl (lv_room (Nat.le_of_ble_eq_true rfl)) dX9_erase_99 ⟨Nat.le_of_ble_eq_true rfl, Nat.le_of_ble_eq_true rfl⟩) hS (fun _ _ h => h) (fun _ h => h) (fun u9 t9 H locs ht9 hv9 e9 hB9 hz9 hk9 hS => ?_)
            rw [ht9] at hB9
            have hP : va_P (dC, dI) vwCl (wC q k (sp_X5_followInputs st_43)) H := hB9
            refine lv_iload_n hx hb dX9_erase_102 rfl (lv_at hl 1 rfl) ?_
            refine lv_aload_n hx hb dX9_erase_103 rfl (lv_at hl 2 rfl) ?_
            refine va_get (D := (dC, dI)) (ci := 9) (v := .ref (q 8)) (C := RX9) (T := TX9) (N := 10) hx hb hts hi9 hown hK.1 hP 0 rfl rfl 7 (by decide) hf61 (fun _ h9 => h9) rfl dX9_erase_104 ?_
            refine vp_callSi (va_Run.run (va_runV (As := []) (rest := [.int (sp_X5_living st)]) ⟨hx, hb, hml, hown, hts⟩ (c_X5_living l dC dI q k (sp_X5_followInputs st_43) _ rfl) (cwV 0 hts gX9_erase_X5_living rfl rfl rfl (by decide +kernel) ⟨Nat.le_of_ble_eq_true rfl, Nat.le_of_ble_eq_true rfl⟩) ⟨fb_C, va_recv hK.1 hP (ci := 5) (q0 := 8) rfl rfl, fun U hU hW => ⟨rfl, by rw [hU]; exact hP, hK.warm hW⟩⟩ rfl rfl hl.1 rfl (lv_room (Nat.le_of_ble_eq_true rfl)) dX9_erase_107 ⟨Nat.le_of_ble_eq_true rfl, Nat.le_of_ble_eq_true rfl⟩)) (fun r9 e9 => ?_)
            subst e9
            refine lv_isub hx hb dX9_erase_110 ?_
            refine W.widen (k := 1) (n := 6) (by decide) (by decide) ?_
            refine vx_ret ?_
            exact W.iret (v := (sp_X5_living st) - (sp_X5_living (sp_X5_followInputs st_43))) hx hb hr (fun t ht hW => ⟨⟨_, (), rfl, (by rw [← he]; exact ⟨rfl, rfl⟩ : res.1 = 0 ∧ _ = res.2.1), by show va_P _ _ _ t.heap; rw [ht, ← he]; exact hP⟩, hS.F ht⟩) hS.2.2 dX9_erase_111
          · have he := (if_neg h52_3).symm.trans he
            refine lv_aload_n hx hb dX9_erase_55 rfl (lv_at hl 2 rfl) ?_
            refine va_get (D := (dC, dI)) (ci := 9) (v := .ref (q 8)) (C := RX9) (T := TX9) (N := 10) hx hb hts hi9 hown hK.1 hP 0 rfl rfl 7 (by decide) hf61 (fun _ h9 => h9) rfl dX9_erase_56 ?_
            refine lv_iload hx hb dX9_erase_59 (lv_at hl 0 rfl) ?_
            refine vp_callSi (va_Run.run (va_runV (As := [.int x4_43]) (rest := []) ⟨hx, hb, hml, hown, hts⟩ (c_X5_isPut l dC dI q k st_43 x4_43 hi3_43 _ rfl) (cwV 1 hts gX9_erase_X5_isPut rfl rfl rfl (by decide +kernel) ⟨Nat.le_of_ble_eq_true rfl, Nat.le_of_ble_eq_true rfl⟩) ⟨fb_C, va_recv hK.1 hP (ci := 5) (q0 := 8) rfl rfl, fun U hU hW => ⟨rfl, by rw [hU]; exact hP, hK.warm hW⟩⟩ rfl rfl hl.1 rfl (lv_room (Nat.le_of_ble_eq_true rfl)) dX9_erase_61 ⟨Nat.le_of_ble_eq_true rfl, Nat.le_of_ble_eq_true rfl⟩)) (fun r9 e9 => ?_)
            subst e9
            refine lv_if_eq (tgt := 89) hx hb dX9_erase_64 (by decide) (fun h64_4 => ?_) (fun h64_4 => ?_)
            · have he := (if_pos h64_4).symm.trans he
              refine lv_iinc (v := x4_43 + 1) (lv' := [(4, .int (x4_43 + 1)), (3, .int (sp_X5_living st)), (0, .ref (q 0)), (1, .int a1), (2, .int a2)]) hx hb dX9_erase_89 hl (k := 0) rfl rfl (by decide) rfl (fun ls hl => ?_)
              refine lv_goto (tgt := 43) hx hb dX9_erase_92 (by decide) ?_
              exact ih_43 st_43 (x4_43 + 1) _ _ ls (ob_X9_erase_43_inv0_5 st a1 a2 n_43 st_43 x4_43 hok h4_1 h11_2 hi0_43 hi1_43 hi2_43 hi3_43 hi4_43 h52_3 h64_4) (ob_X9_erase_43_inv1_6 st a1 a2 n_43 st_43 x4_43 hok h4_1 h11_2 hi0_43 hi1_43 hi2_43 hi3_43 hi4_43 h52_3 h64_4) (ob_X9_erase_43_inv2_7 st a1 a2 n_43 st_43 x4_43 hok h4_1 h11_2 hi0_43 hi1_43 hi2_43 hi3_43 hi4_43 h52_3 h64_4) (ob_X9_erase_43_inv3_8 st a1 a2 n_43 st_43 x4_43 hok h4_1 h11_2 hi0_43 hi1_43 hi2_43 hi3_43 hi4_43 h52_3 h64_4) (ob_X9_erase_43_inv4_9 st a1 a2 n_43 st_43 x4_43 hok h4_1 h11_2 hi0_43 hi1_43 hi2_43 hi3_43 hi4_43 h52_3 h64_4) hP hS he (lv_sub hl [0, 1, 2, 3, 4] rfl)
            · have he := (if_neg h64_4).symm.trans he
              refine lv_aload_n hx hb dX9_erase_67 rfl (lv_at hl 2 rfl) ?_
              refine va_get (D := (dC, dI)) (ci := 9) (v := .ref (q 8)) (C := RX9) (T := TX9) (N := 10) hx hb hts hi9 hown hK.1 hP 0 rfl rfl 7 (by decide) hf61 (fun _ h9 => h9) rfl dX9_erase_68 ?_
              refine lv_iload hx hb dX9_erase_71 (lv_at hl 0 rfl) ?_
              refine lv_iload_n hx hb dX9_erase_73 rfl (lv_at hl 3 rfl) ?_
              refine vp_callSi (va_Run.run (va_runV (As := [.int x4_43, .int a1]) (rest := []) ⟨hx, hb, hml, hown, hts⟩ (c_X5_isAbout l dC dI q k st_43 x4_43 a1 hi3_43 _ rfl) (cwV 2 hts gX9_erase_X5_isAbout rfl rfl rfl (by decide +kernel) ⟨Nat.le_of_ble_eq_true rfl, Nat.le_of_ble_eq_true rfl⟩) ⟨fb_C, va_recv hK.1 hP (ci := 5) (q0 := 8) rfl rfl, fun U hU hW => ⟨rfl, by rw [hU]; exact hP, hK.warm hW⟩⟩ rfl rfl hl.1 rfl (lv_room (Nat.le_of_ble_eq_true rfl)) dX9_erase_74 ⟨Nat.le_of_ble_eq_true rfl, Nat.le_of_ble_eq_true rfl⟩)) (fun r9 e9 => ?_)
              subst e9
              refine lv_if_eq (tgt := 89) hx hb dX9_erase_77 (by decide) (fun h77_10 => ?_) (fun h77_10 => ?_)
              · have he := (if_pos h77_10).symm.trans he
                refine lv_iinc (v := x4_43 + 1) (lv' := [(4, .int (x4_43 + 1)), (3, .int (sp_X5_living st)), (0, .ref (q 0)), (1, .int a1), (2, .int a2)]) hx hb dX9_erase_89 hl (k := 0) rfl rfl (by decide) rfl (fun ls hl => ?_)
                refine lv_goto (tgt := 43) hx hb dX9_erase_92 (by decide) ?_
                exact ih_43 st_43 (x4_43 + 1) _ _ ls (ob_X9_erase_43_inv0_11 st a1 a2 n_43 st_43 x4_43 hok h4_1 h11_2 hi0_43 hi1_43 hi2_43 hi3_43 hi4_43 h52_3 h64_4 h77_10) (ob_X9_erase_43_inv1_12 st a1 a2 n_43 st_43 x4_43 hok h4_1 h11_2 hi0_43 hi1_43 hi2_43 hi3_43 hi4_43 h52_3 h64_4 h77_10) (ob_X9_erase_43_inv2_13 st a1 a2 n_43 st_43 x4_43 hok h4_1 h11_2 hi0_43 hi1_43 hi2_43 hi3_43 hi4_43 h52_3 h64_4 h77_10) (ob_X9_erase_43_inv3_14 st a1 a2 n_43 st_43 x4_43 hok h4_1 h11_2 hi0_43 hi1_43 hi2_43 hi3_43 hi4_43 h52_3 h64_4 h77_10) (ob_X9_erase_43_inv4_15 st a1 a2 n_43 st_43 x4_43 hok h4_1 h11_2 hi0_43 hi1_43 hi2_43 hi3_43 hi4_43 h52_3 h64_4 h77_10) hP hS he (lv_sub hl [0, 1, 2, 3, 4] rfl)
              · have he := (if_neg h77_10).symm.trans he
                refine lv_aload_n hx hb dX9_erase_80 rfl (lv_at hl 2 rfl) ?_
                refine va_get (D := (dC, dI)) (ci := 9) (v := .ref (q 8)) (C := RX9) (T := TX9) (N := 10) hx hb hts hi9 hown hK.1 hP 0 rfl rfl 7 (by decide) hf61 (fun _ h9 => h9) rfl dX9_erase_81 ?_
                refine lv_iload hx hb dX9_erase_84 (lv_at hl 0 rfl) ?_
                refine va_callv (va_runV (As := [.int x4_43]) (rest := []) ⟨hx, hb, hml, hown, hts⟩ (c_X5_endUnlessKept l dC dI q k st_43 x4_43 hq hi3_43 _ rfl) (cwV 1 hts gX9_erase_X5_endUnlessKept rfl rfl rfl (by decide +kernel) ⟨Nat.le_of_ble_eq_true rfl, Nat.le_of_ble_eq_true rfl⟩) ⟨fb_C, va_recv hK.1 hP (ci := 5) (q0 := 8) rfl rfl, fun U hU hW => ⟨rfl, by rw [hU]; exact hP, hK.warm hW⟩⟩ rfl rfl hl.1 rfl (lv_room (Nat.le_of_ble_eq_true rfl)) dX9_erase_86 ⟨Nat.le_of_ble_eq_true rfl, Nat.le_of_ble_eq_true rfl⟩) hS (fun _ _ h => h) (fun _ h => h) (fun u9 t9 H locs ht9 hv9 e9 hB9 hz9 hk9 hS => ?_)
                rw [ht9] at hB9
                have hP : va_P (dC, dI) vwCl (wC q k (sp_X5_endUnlessKept st_43 x4_43)) H := hB9
                refine lv_iinc (v := x4_43 + 1) (lv' := [(4, .int (x4_43 + 1)), (3, .int (sp_X5_living st)), (0, .ref (q 0)), (1, .int a1), (2, .int a2)]) hx hb dX9_erase_89 hl (k := 0) rfl rfl (by decide) rfl (fun ls hl => ?_)
                refine lv_goto (tgt := 43) hx hb dX9_erase_92 (by decide) ?_
                exact ih_43 (sp_X5_endUnlessKept st_43 x4_43) (x4_43 + 1) _ _ ls (ob_X9_erase_43_inv0_16 st a1 a2 n_43 st_43 x4_43 hok h4_1 h11_2 hi0_43 hi1_43 hi2_43 hi3_43 hi4_43 h52_3 h64_4 h77_10) (ob_X9_erase_43_inv1_17 st a1 a2 n_43 st_43 x4_43 hok h4_1 h11_2 hi0_43 hi1_43 hi2_43 hi3_43 hi4_43 h52_3 h64_4 h77_10) (ob_X9_erase_43_inv2_18 st a1 a2 n_43 st_43 x4_43 hok h4_1 h11_2 hi0_43 hi1_43 hi2_43 hi3_43 hi4_43 h52_3 h64_4 h77_10) (ob_X9_erase_43_inv3_19 st a1 a2 n_43 st_43 x4_43 hok h4_1 h11_2 hi0_43 hi1_43 hi2_43 hi3_43 hi4_43 h52_3 h64_4 h77_10) (ob_X9_erase_43_inv4_20 st a1 a2 n_43 st_43 x4_43 hok h4_1 h11_2 hi0_43 hi1_43 hi2_43 hi3_43 hi4_43 h52_3 h64_4 h77_10) hP hS he (lv_sub hl [0, 1, 2, 3, 4] rfl)
      exact k_43 ((st.1 7).toInt.toNat + 1) (sp_X9_markKept st (sp_X9_dayOfMinute a2)) 0 _ _ ls (ob_X9_erase_43_inv0_21 st a1 a2 hok h4_1 h11_2) (ob_X9_erase_43_inv1_22 st a1 a2 hok h4_1 h11_2) (ob_X9_erase_43_inv2_23 st a1 a2 hok h4_1 h11_2) (ob_X9_erase_43_inv3_24 st a1 a2 hok h4_1 h11_2) (ob_X9_erase_43_inv4_25 st a1 a2 hok h4_1 h11_2) hP hS he (lv_sub hl [0, 1, 2, 3, 4] rfl)
    · have he := (if_pos h11_2).symm.trans he
      obtain ⟨sa9, hsa9⟩ := hT.2.2.2 (203, "there is no such person or minute") (by decide +kernel)
      refine vx_throwS (A := aC q) (own := RX9) (cls := "java/lang/IllegalArgumentException") (text := "there is no such person or minute") (names := ["java/lang/RuntimeException", "java/lang/Exception"]) hx hb hst hown (by decide +kernel) (by decide +kernel) (hts (.classLink RX9 80 "java/lang/IllegalArgumentException") (by decide +kernel)) (hts (.initialized "java/lang/IllegalArgumentException") (by decide +kernel)) hsa9 (vx_hat (B := badWs) (fun w9 h9 => hts w9 (List.mem_cons_of_mem _ (List.mem_append_right _ h9))) bad_1 (fun w9 h9 => va_Nw.use (bad_on w9 h9) (hT.2.2.1 w9 h9))) ot_1 hT.1 hT.2.1 hS (hl.1.trans hml.symm) dX9_erase_14 dX9_erase_17 dX9_erase_18 dX9_erase_20 dX9_erase_23 (fun x9 h9 => (hnt x9 h9).elim) (Nat.le_of_ble_eq_true rfl) (Nat.le_of_ble_eq_true rfl) (Nat.le_of_ble_eq_true rfl) (Nat.le_of_ble_eq_true rfl) hlocks (fun t9 h91 h92 h93 => ⟨(), trivial, ⟨by rw [← he]; exact Or.inl ⟨rfl, rfl⟩, by rw [← he]; exact hP.kept (fun k9 q9 hk9 => h93 _ (va_at.lt (hP k9 q9 hk9)))⟩, Nat.le_trans hS.1 h92, fun z9 hz9 hA9 => (h93 z9 (Nat.lt_of_lt_of_le hz9 hS.1)).trans (hS.2.1 z9 hz9 hA9)⟩) hS.2.2 (Nat.le_of_ble_eq_true rfl) (Nat.le_of_ble_eq_true rfl)
set_option maxHeartbeats 4000000 in
set_option maxRecDepth 100000 in
theorem c_X9_sweep (l : Launch) (hst : l.stackTraces = false) (dC : Nat → ClassId) (dI : Nat → Nat → Nat) (q : Nat → Nat) (k : Nat → ClassId) (st : St) (a1 : Int32) (hq : ∀ i j, i < 43 → j < 43 → q i = q j → i = j) (hok : okC st) (res : Int32 × Int32 × St) (hres : sp_X9_sweep st a1 = res) : vx_Met l yX9_sweep wsX9_sweep ({ frames := 6, cells := 1, slots := 6, locals := 136 } : Room) (va_Pc [.ref (q 0), .int a1] (fun U => va_P (dC, dI) vwCl (wC q k st) U.heap ∧ KC (dC, dI) k U ∧ TH (aC q) U U.heap)) (va_Qi (fun r (_ : Unit) => res.1 = 0 ∧ r = res.2.1) (fun _ t => va_P (dC, dI) vwCl (wC q k res.2.2) t.heap) (aC q)) (vx_X (fun (_ : Unit) => True) (fun E _ t => xE res.1 E ∧ va_P (dC, dI) vwCl (wC q k res.2.2) t.heap) (aC q)) 1 6 (aC q) := by
  refine vx_ofW (cc := cX9_sweep) (maxL := 5) (ret := (some .int)) (by decide) rfl ?_
  intro p e s m args below meth c s₁ B hml hnt hv
  obtain ⟨rfl, hP, hK, hT⟩ := hv
  have hx := B.exec
  have hb := B.bytes
  have hr := B.returns
  have hts := atoms_spec (ws := wsX9_sweep) B.pre
  have hown : s.vm.findClass RX9 = some m.cls := findClass_of_methodNamed B.named
  have hlocks := B.notSynchronized
  have hS : va_S (aC q) s.heap s.heap [] := va_S.rf
  have hi9 : ∀ w ∈ wsX90, w ∈ wsX9_sweep := by decide +kernel
  have hf61 := hts (.fieldLink RX9 61 "ConsentRegister" "items" "LConsentRegister$Items;") (by decide +kernel)
  have hl := lv_entry ([.ref (q 0), .int a1]) (n := 5) (Nat.le_of_ble_eq_true rfl)
  rw [lg_entry_eq]
  generalize (lg_sl ([.ref (q 0), .int a1]) ++ List.replicate (5 - (lg_sl ([.ref (q 0), .int a1])).length) Slot.unset).toArray = ls at hl ⊢
  have hl : lv_has ls 5 [(0, .ref (q 0)), (1, .int a1)] := hl
  have he := hres
  unfold sp_X9_sweep at he
  refine lv_iload_n hx hb dX9_sweep_0 rfl (lv_at hl 1 rfl) ?_
  refine vp_callSi (va_Run.run (va_runS (As := [.int a1]) (rest := []) ⟨hx, hb, hml, hown, hts⟩ (c_X9_isDay l a1 _ rfl) (va_cwS 1 hts gX9_sweep_X9_isDay rfl rfl rfl (by decide +kernel) ⟨Nat.le_of_ble_eq_true rfl, Nat.le_of_ble_eq_true rfl⟩) ⟨fb_T, fun U hU hW => ⟨rfl, trivial⟩⟩ rfl rfl hl.1 rfl (lv_room (Nat.le_of_ble_eq_true rfl)) dX9_sweep_1 ⟨Nat.le_of_ble_eq_true rfl, Nat.le_of_ble_eq_true rfl⟩)) (fun r9 e9 => ?_)
  subst e9
  refine lv_if_ne (tgt := 17) hx hb dX9_sweep_4 (by decide) (fun h4_1 => ?_) (fun h4_1 => ?_)
  · have he := (if_neg h4_1).symm.trans he
    refine lv_aload_n hx hb dX9_sweep_17 rfl (lv_at hl 0 rfl) ?_
    refine va_get (D := (dC, dI)) (ci := 9) (v := .ref (q 8)) (C := RX9) (T := TX9) (N := 10) hx hb hts hi9 hown hK.1 hP 0 rfl rfl 7 (by decide) hf61 (fun _ h9 => h9) rfl dX9_sweep_18 ?_
    refine vp_callSi (va_Run.run (va_runV (As := []) (rest := []) ⟨hx, hb, hml, hown, hts⟩ (c_X5_living l dC dI q k st _ rfl) (cwV 0 hts gX9_sweep_X5_living rfl rfl rfl (by decide +kernel) ⟨Nat.le_of_ble_eq_true rfl, Nat.le_of_ble_eq_true rfl⟩) ⟨fb_C, va_recv hK.1 hP (ci := 5) (q0 := 8) rfl rfl, fun U hU hW => ⟨rfl, by rw [hU]; exact hP, hK.warm hW⟩⟩ rfl rfl hl.1 rfl (lv_room (Nat.le_of_ble_eq_true rfl)) dX9_sweep_21 ⟨Nat.le_of_ble_eq_true rfl, Nat.le_of_ble_eq_true rfl⟩)) (fun r9 e9 => ?_)
    subst e9
    refine lv_istore_n (lv' := [(2, .int (sp_X5_living st)), (0, .ref (q 0)), (1, .int a1)]) hx hb dX9_sweep_24 rfl hl (by decide) rfl (fun ls hl => ?_)
    refine lv_aload_n hx hb dX9_sweep_25 rfl (lv_at hl 1 rfl) ?_
    refine lv_iload_n hx hb dX9_sweep_26 rfl (lv_at hl 2 rfl) ?_
    refine va_callv (va_runV (As := [.int a1]) (rest := []) ⟨hx, hb, hml, hown, hts⟩ (c_X9_markKept l dC dI q k st a1 hq hok _ rfl) (cwV 1 hts gX9_sweep_X9_markKept rfl rfl rfl (by decide +kernel) ⟨Nat.le_of_ble_eq_true rfl, Nat.le_of_ble_eq_true rfl⟩) ⟨fb_C, va_recv hK.1 hP (ci := 9) (q0 := 0) rfl rfl, fun U hU hW => ⟨rfl, by rw [hU]; exact hP, hK.warm hW⟩⟩ rfl rfl hl.1 rfl (lv_room (Nat.le_of_ble_eq_true rfl)) dX9_sweep_27 ⟨Nat.le_of_ble_eq_true rfl, Nat.le_of_ble_eq_true rfl⟩) hS (fun _ _ h => h) (fun _ h => h) (fun u9 t9 H locs ht9 hv9 e9 hB9 hz9 hk9 hS => ?_)
    rw [ht9] at hB9
    have hP : va_P (dC, dI) vwCl (wC q k (sp_X9_markKept st a1)) H := hB9
    refine lv_iconst (v := 0) hx hb dX9_sweep_30 (by decide) ?_
    refine lv_istore_n (lv' := [(3, .int 0), (2, .int (sp_X5_living st)), (0, .ref (q 0)), (1, .int a1)]) hx hb dX9_sweep_31 rfl hl (by decide) rfl (fun ls hl => ?_)
    have k_32 : ∀ (n_32 : Nat) (st_32 : St) (x3_32 : Int32) (H : Heap) (locs : List Loc) (ls : Array Slot), 0 ≤ x3_32.toInt → x3_32.toInt ≤ (st.1 7).toInt → (st.1 7).toInt < x3_32.toInt + n_32 → okC st_32 → (st_32.1 7).toInt = (st.1 7).toInt → va_P (dC, dI) vwCl (wC q k st_32) H → va_S (aC q) s.heap H locs → lp_X9_sweep_32 st a1 n_32 st_32 x3_32 = res → lv_has ls 5 [(3, .int x3_32), (2, .int (sp_X5_living st)), (0, .ref (q 0)), (1, .int a1)] → W p l e (headSpec wsX9_sweep ({ frames := 6, cells := 1, slots := 6, locals := 136 } : Room)).room s m ([.ref (q 0), .int a1] : List Value).toArray below meth c H locs 0 0 (vx_MQ below (va_Qi (fun r (_ : Unit) => res.1 = 0 ∧ r = res.2.1) (fun _ t => va_P (dC, dI) vwCl (wC q k res.2.2) t.heap) (aC q)) (vx_X (fun (_ : Unit) => True) (fun E _ t => xE res.1 E ∧ va_P (dC, dI) vwCl (wC q k res.2.2) t.heap) (aC q)) ([.ref (q 0), .int a1] : List Value).toArray s 1 6 (aC q)) (F0 m 32 ls []) := by
      intro n_32
      induction n_32 with
      | zero =>
        intro st_32 x3_32 H locs ls hi0_32 hi1_32 hi2_32 hi3_32 hi4_32
        exact (ob_X9_sweep_32_zero st a1 st_32 x3_32 hok h4_1 hi0_32 hi1_32 hi2_32 hi3_32 hi4_32).elim
      | succ n_32 ih_32 =>
        intro st_32 x3_32 H locs ls hi0_32 hi1_32 hi2_32 hi3_32 hi4_32 hP hS he hl
        rw [lp_X9_sweep_32] at he
        refine lv_iload_n hx hb dX9_sweep_32 rfl (lv_at hl 0 rfl) ?_
        refine lv_aload_n hx hb dX9_sweep_33 rfl (lv_at hl 2 rfl) ?_
        refine va_get (D := (dC, dI)) (ci := 9) (v := .ref (q 8)) (C := RX9) (T := TX9) (N := 10) hx hb hts hi9 hown hK.1 hP 0 rfl rfl 7 (by decide) hf61 (fun _ h9 => h9) rfl dX9_sweep_34 ?_
        refine vp_callSi (va_Run.run (va_runV (As := []) (rest := [.int x3_32]) ⟨hx, hb, hml, hown, hts⟩ (c_X5_total l dC dI q k st_32 _ rfl) (cwV 0 hts gX9_sweep_X5_total rfl rfl rfl (by decide +kernel) ⟨Nat.le_of_ble_eq_true rfl, Nat.le_of_ble_eq_true rfl⟩) ⟨fb_C, va_recv hK.1 hP (ci := 5) (q0 := 8) rfl rfl, fun U hU hW => ⟨rfl, by rw [hU]; exact hP, hK.warm hW⟩⟩ rfl rfl hl.1 rfl (lv_room (Nat.le_of_ble_eq_true rfl)) dX9_sweep_37 ⟨Nat.le_of_ble_eq_true rfl, Nat.le_of_ble_eq_true rfl⟩)) (fun r9 e9 => ?_)
        subst e9
        refine lv_icmp_ge (tgt := 76) hx hb dX9_sweep_40 (by decide) (fun h40_2 => ?_) (fun h40_2 => ?_)
        · have he := (if_pos h40_2).symm.trans he
          refine lv_aload_n hx hb dX9_sweep_76 rfl (lv_at hl 2 rfl) ?_
          refine va_get (D := (dC, dI)) (ci := 9) (v := .ref (q 8)) (C := RX9) (T := TX9) (N := 10) hx hb hts hi9 hown hK.1 hP 0 rfl rfl 7 (by decide) hf61 (fun _ h9 => h9) rfl dX9_sweep_77 ?_
          refine va_callv (va_runV (As := []) (rest := []) ⟨hx, hb, hml, hown, hts⟩ (c_X5_followInputs l dC dI q k st_32 hq hi3_32 _ rfl) (cwV 0 hts gX9_sweep_X5_followInputs rfl rfl rfl (by decide +kernel) ⟨Nat.le_of_ble_eq_true rfl, Nat.le_of_ble_eq_true rfl⟩) ⟨fb_C, va_recv hK.1 hP (ci := 5) (q0 := 8) rfl rfl, fun U hU hW => ⟨rfl, by rw [hU]; exact hP, hK.warm hW⟩⟩ rfl rfl hl.1 rfl (lv_room (Nat.le_of_ble_eq_true rfl)) dX9_sweep_80 ⟨Nat.le_of_ble_eq_true rfl, Nat.le_of_ble_eq_true rfl⟩) hS (fun _ _ h => h) (fun _ h => h) (fun u9 t9 H locs ht9 hv9 e9 hB9 hz9 hk9 hS => ?_)
          rw [ht9] at hB9
          have hP : va_P (dC, dI) vwCl (wC q k (sp_X5_followInputs st_32)) H := hB9
          refine lv_iload_n hx hb dX9_sweep_83 rfl (lv_at hl 1 rfl) ?_
          refine lv_aload_n hx hb dX9_sweep_84 rfl (lv_at hl 2 rfl) ?_
          refine va_get (D := (dC, dI)) (ci := 9) (v := .ref (q 8)) (C := RX9) (T := TX9) (N := 10) hx hb hts hi9 hown hK.1 hP 0 rfl rfl 7 (by decide) hf61 (fun _ h9 => h9) rfl dX9_sweep_85 ?_
          refine vp_callSi (va_Run.run (va_runV (As := []) (rest := [.int (sp_X5_living st)]) ⟨hx, hb, hml, hown, hts⟩ (c_X5_living l dC dI q k (sp_X5_followInputs st_32) _ rfl) (cwV 0 hts gX9_sweep_X5_living rfl rfl rfl (by decide +kernel) ⟨Nat.le_of_ble_eq_true rfl, Nat.le_of_ble_eq_true rfl⟩) ⟨fb_C, va_recv hK.1 hP (ci := 5) (q0 := 8) rfl rfl, fun U hU hW => ⟨rfl, by rw [hU]; exact hP, hK.warm hW⟩⟩ rfl rfl hl.1 rfl (lv_room (Nat.le_of_ble_eq_true rfl)) dX9_sweep_88 ⟨Nat.le_of_ble_eq_true rfl, Nat.le_of_ble_eq_true rfl⟩)) (fun r9 e9 => ?_)
          subst e9
          refine lv_isub hx hb dX9_sweep_91 ?_
          refine W.widen (k := 1) (n := 6) (by decide) (by decide) ?_
          refine vx_ret ?_
          exact W.iret (v := (sp_X5_living st) - (sp_X5_living (sp_X5_followInputs st_32))) hx hb hr (fun t ht hW => ⟨⟨_, (), rfl, (by rw [← he]; exact ⟨rfl, rfl⟩ : res.1 = 0 ∧ _ = res.2.1), by show va_P _ _ _ t.heap; rw [ht, ← he]; exact hP⟩, hS.F ht⟩) hS.2.2 dX9_sweep_92
        · have he := (if_neg h40_2).symm.trans he
          refine lv_aload_n hx hb dX9_sweep_43 rfl (lv_at hl 2 rfl) ?_
          refine lv_iload_n hx hb dX9_sweep_44 rfl (lv_at hl 0 rfl) ?_
          refine vp_callSi (va_Run.run (va_runV (As := [.int x3_32]) (rest := []) ⟨hx, hb, hml, hown, hts⟩ (c_X9_firstDueDay l dC dI q k st_32 x3_32 hi3_32 _ rfl) (cwV 1 hts gX9_sweep_X9_firstDueDay rfl rfl rfl (by decide +kernel) ⟨Nat.le_of_ble_eq_true rfl, Nat.le_of_ble_eq_true rfl⟩) ⟨fb_C, va_recv hK.1 hP (ci := 9) (q0 := 0) rfl rfl, fun U hU hW => ⟨rfl, by rw [hU]; exact hP, hK.warm hW⟩⟩ rfl rfl hl.1 rfl (lv_room (Nat.le_of_ble_eq_true rfl)) dX9_sweep_45 ⟨Nat.le_of_ble_eq_true rfl, Nat.le_of_ble_eq_true rfl⟩)) (fun r9 e9 => ?_)
          subst e9
          refine lv_istore (lv' := [(4, .int (sp_X9_firstDueDay st_32 x3_32)), (3, .int x3_32), (2, .int (sp_X5_living st)), (0, .ref (q 0)), (1, .int a1)]) hx hb dX9_sweep_48 hl (by decide) rfl (fun ls hl => ?_)
          refine lv_iload hx hb dX9_sweep_50 (lv_at hl 0 rfl) ?_
          refine lv_iconst (v := (-1)) hx hb dX9_sweep_52 (by decide) ?_
          refine lv_icmp_eq (tgt := 70) hx hb dX9_sweep_53 (by decide) (fun h53_3 => ?_) (fun h53_3 => ?_)
          · have he := (if_pos h53_3).symm.trans he
            refine lv_iinc (v := x3_32 + 1) (lv' := [(3, .int (x3_32 + 1)), (4, .int (sp_X9_firstDueDay st_32 x3_32)), (2, .int (sp_X5_living st)), (0, .ref (q 0)), (1, .int a1)]) hx hb dX9_sweep_70 hl (k := 1) rfl rfl (by decide) rfl (fun ls hl => ?_)
            refine lv_goto (tgt := 32) hx hb dX9_sweep_73 (by decide) ?_
            exact ih_32 st_32 (x3_32 + 1) _ _ ls (ob_X9_sweep_32_inv0_4 st a1 n_32 st_32 x3_32 hok h4_1 hi0_32 hi1_32 hi2_32 hi3_32 hi4_32 h40_2 h53_3) (ob_X9_sweep_32_inv1_5 st a1 n_32 st_32 x3_32 hok h4_1 hi0_32 hi1_32 hi2_32 hi3_32 hi4_32 h40_2 h53_3) (ob_X9_sweep_32_inv2_6 st a1 n_32 st_32 x3_32 hok h4_1 hi0_32 hi1_32 hi2_32 hi3_32 hi4_32 h40_2 h53_3) (ob_X9_sweep_32_inv3_7 st a1 n_32 st_32 x3_32 hok h4_1 hi0_32 hi1_32 hi2_32 hi3_32 hi4_32 h40_2 h53_3) (ob_X9_sweep_32_inv4_8 st a1 n_32 st_32 x3_32 hok h4_1 hi0_32 hi1_32 hi2_32 hi3_32 hi4_32 h40_2 h53_3) hP hS he (lv_sub hl [0, 2, 3, 4] rfl)
          · have he := (if_neg h53_3).symm.trans he
            refine lv_iload hx hb dX9_sweep_56 (lv_at hl 0 rfl) ?_
            refine lv_iload_n hx hb dX9_sweep_58 rfl (lv_at hl 4 rfl) ?_
            refine lv_icmp_gt (tgt := 70) hx hb dX9_sweep_59 (by decide) (fun h59_9 => ?_) (fun h59_9 => ?_)
            · have he := (if_pos h59_9).symm.trans he
              refine lv_iinc (v := x3_32 + 1) (lv' := [(3, .int (x3_32 + 1)), (4, .int (sp_X9_firstDueDay st_32 x3_32)), (2, .int (sp_X5_living st)), (0, .ref (q 0)), (1, .int a1)]) hx hb dX9_sweep_70 hl (k := 1) rfl rfl (by decide) rfl (fun ls hl => ?_)
              refine lv_goto (tgt := 32) hx hb dX9_sweep_73 (by decide) ?_
              exact ih_32 st_32 (x3_32 + 1) _ _ ls (ob_X9_sweep_32_inv0_10 st a1 n_32 st_32 x3_32 hok h4_1 hi0_32 hi1_32 hi2_32 hi3_32 hi4_32 h40_2 h53_3 h59_9) (ob_X9_sweep_32_inv1_11 st a1 n_32 st_32 x3_32 hok h4_1 hi0_32 hi1_32 hi2_32 hi3_32 hi4_32 h40_2 h53_3 h59_9) (ob_X9_sweep_32_inv2_12 st a1 n_32 st_32 x3_32 hok h4_1 hi0_32 hi1_32 hi2_32 hi3_32 hi4_32 h40_2 h53_3 h59_9) (ob_X9_sweep_32_inv3_13 st a1 n_32 st_32 x3_32 hok h4_1 hi0_32 hi1_32 hi2_32 hi3_32 hi4_32 h40_2 h53_3 h59_9) (ob_X9_sweep_32_inv4_14 st a1 n_32 st_32 x3_32 hok h4_1 hi0_32 hi1_32 hi2_32 hi3_32 hi4_32 h40_2 h53_3 h59_9) hP hS he (lv_sub hl [0, 2, 3, 4] rfl)
            · have he := (if_neg h59_9).symm.trans he
              refine lv_aload_n hx hb dX9_sweep_62 rfl (lv_at hl 3 rfl) ?_
              refine va_get (D := (dC, dI)) (ci := 9) (v := .ref (q 8)) (C := RX9) (T := TX9) (N := 10) hx hb hts hi9 hown hK.1 hP 0 rfl rfl 7 (by decide) hf61 (fun _ h9 => h9) rfl dX9_sweep_63 ?_
              refine lv_iload_n hx hb dX9_sweep_66 rfl (lv_at hl 1 rfl) ?_
              refine va_callv (va_runV (As := [.int x3_32]) (rest := []) ⟨hx, hb, hml, hown, hts⟩ (c_X5_endUnlessKept l dC dI q k st_32 x3_32 hq hi3_32 _ rfl) (cwV 1 hts gX9_sweep_X5_endUnlessKept rfl rfl rfl (by decide +kernel) ⟨Nat.le_of_ble_eq_true rfl, Nat.le_of_ble_eq_true rfl⟩) ⟨fb_C, va_recv hK.1 hP (ci := 5) (q0 := 8) rfl rfl, fun U hU hW => ⟨rfl, by rw [hU]; exact hP, hK.warm hW⟩⟩ rfl rfl hl.1 rfl (lv_room (Nat.le_of_ble_eq_true rfl)) dX9_sweep_67 ⟨Nat.le_of_ble_eq_true rfl, Nat.le_of_ble_eq_true rfl⟩) hS (fun _ _ h => h) (fun _ h => h) (fun u9 t9 H locs ht9 hv9 e9 hB9 hz9 hk9 hS => ?_)
              rw [ht9] at hB9
              have hP : va_P (dC, dI) vwCl (wC q k (sp_X5_endUnlessKept st_32 x3_32)) H := hB9
              refine lv_iinc (v := x3_32 + 1) (lv' := [(3, .int (x3_32 + 1)), (4, .int (sp_X9_firstDueDay st_32 x3_32)), (2, .int (sp_X5_living st)), (0, .ref (q 0)), (1, .int a1)]) hx hb dX9_sweep_70 hl (k := 1) rfl rfl (by decide) rfl (fun ls hl => ?_)
              refine lv_goto (tgt := 32) hx hb dX9_sweep_73 (by decide) ?_
              exact ih_32 (sp_X5_endUnlessKept st_32 x3_32) (x3_32 + 1) _ _ ls (ob_X9_sweep_32_inv0_15 st a1 n_32 st_32 x3_32 hok h4_1 hi0_32 hi1_32 hi2_32 hi3_32 hi4_32 h40_2 h53_3 h59_9) (ob_X9_sweep_32_inv1_16 st a1 n_32 st_32 x3_32 hok h4_1 hi0_32 hi1_32 hi2_32 hi3_32 hi4_32 h40_2 h53_3 h59_9) (ob_X9_sweep_32_inv2_17 st a1 n_32 st_32 x3_32 hok h4_1 hi0_32 hi1_32 hi2_32 hi3_32 hi4_32 h40_2 h53_3 h59_9) (ob_X9_sweep_32_inv3_18 st a1 n_32 st_32 x3_32 hok h4_1 hi0_32 hi1_32 hi2_32 hi3_32 hi4_32 h40_2 h53_3 h59_9) (ob_X9_sweep_32_inv4_19 st a1 n_32 st_32 x3_32 hok h4_1 hi0_32 hi1_32 hi2_32 hi3_32 hi4_32 h40_2 h53_3 h59_9) hP hS he (lv_sub hl [0, 2, 3, 4] rfl)
    exact k_32 ((st.1 7).toInt.toNat + 1) (sp_X9_markKept st a1) 0 _ _ ls (ob_X9_sweep_32_inv0_20 st a1 hok h4_1) (ob_X9_sweep_32_inv1_21 st a1 hok h4_1) (ob_X9_sweep_32_inv2_22 st a1 hok h4_1) (ob_X9_sweep_32_inv3_23 st a1 hok h4_1) (ob_X9_sweep_32_inv4_24 st a1 hok h4_1) hP hS he (lv_sub hl [0, 1, 2, 3] rfl)
  · have he := (if_pos h4_1).symm.trans he
    obtain ⟨sa9, hsa9⟩ := hT.2.2.2 (232, "the day is not 0 to 6,944") (by decide +kernel)
    refine vx_throwS (A := aC q) (own := RX9) (cls := "java/lang/IllegalArgumentException") (text := "the day is not 0 to 6,944") (names := ["java/lang/RuntimeException", "java/lang/Exception"]) hx hb hst hown (by decide +kernel) (by decide +kernel) (hts (.classLink RX9 80 "java/lang/IllegalArgumentException") (by decide +kernel)) (hts (.initialized "java/lang/IllegalArgumentException") (by decide +kernel)) hsa9 (vx_hat (B := badWs) (fun w9 h9 => hts w9 (List.mem_cons_of_mem _ (List.mem_append_right _ h9))) bad_1 (fun w9 h9 => va_Nw.use (bad_on w9 h9) (hT.2.2.1 w9 h9))) ot_1 hT.1 hT.2.1 hS (hl.1.trans hml.symm) dX9_sweep_7 dX9_sweep_10 dX9_sweep_11 dX9_sweep_13 dX9_sweep_16 (fun x9 h9 => (hnt x9 h9).elim) (Nat.le_of_ble_eq_true rfl) (Nat.le_of_ble_eq_true rfl) (Nat.le_of_ble_eq_true rfl) (Nat.le_of_ble_eq_true rfl) hlocks (fun t9 h91 h92 h93 => ⟨(), trivial, ⟨by rw [← he]; exact Or.inl ⟨rfl, rfl⟩, by rw [← he]; exact hP.kept (fun k9 q9 hk9 => h93 _ (va_at.lt (hP k9 q9 hk9)))⟩, Nat.le_trans hS.1 h92, fun z9 hz9 hA9 => (h93 z9 (Nat.lt_of_lt_of_le hz9 hS.1)).trans (hS.2.1 z9 hz9 hA9)⟩) hS.2.2 (Nat.le_of_ble_eq_true rfl) (Nat.le_of_ble_eq_true rfl)

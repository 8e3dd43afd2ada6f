set_option maxHeartbeats 4000000 in
set_option maxRecDepth 100000 in
theorem c_X9_isPerson (l : Launch) (a0 : Int32)  (res : Int32) (hres : sp_X9_isPerson a0 = res) : Met l yX9_isPerson wsX9_isPerson ({ frames := 0, cells := 0, slots := 0, locals := 0 } : Room) (va_Pc [.int a0] (fun _ => True)) (vp_Si (fun r => r = res)) 0 0 (fun _ => False) := by
  refine Met.ofW (cc := cX9_isPerson) (maxL := 1) (ret := (some .boolean)) (by decide) rfl ?_
  intro p e s m args below meth c s₁ B hml hv
  obtain ⟨rfl, -⟩ := hv
  have hx := B.exec
  have hb := B.bytes
  have hr := B.returns
  have hts := atoms_spec (ws := wsX9_isPerson) B.pre
  have hown : s.vm.findClass RX9 = some m.cls := findClass_of_methodNamed B.named
  have hlocks := B.notSynchronized
  have hl := lv_entry ([.int a0]) (n := 1) (Nat.le_of_ble_eq_true rfl)
  rw [lg_entry_eq]
  generalize (lg_sl ([.int a0]) ++ List.replicate (1 - (lg_sl ([.int a0])).length) Slot.unset).toArray = ls at hl ⊢
  have hl : lv_has ls 1 [(0, .int a0)] := hl
  have he := hres
  unfold sp_X9_isPerson at he
  refine lv_iload_n hx hb dX9_isPerson_0 rfl (lv_at hl 0 rfl) ?_
  refine lv_if_lt (tgt := 14) hx hb dX9_isPerson_1 (by decide) (fun h1_1 => ?_) (fun h1_1 => ?_)
  · have he := (if_pos h1_1).symm.trans he
    refine lv_iconst (v := 0) hx hb dX9_isPerson_14 (by decide) ?_
    exact W.zret (v := 0) hx hb hr rfl (fun t ht hW => ⟨_, rfl, he, ht⟩) (fun _ h => nomatch h) dX9_isPerson_15
  · have he := (if_neg h1_1).symm.trans he
    refine lv_iload_n hx hb dX9_isPerson_4 rfl (lv_at hl 0 rfl) ?_
    refine lv_bipush (v := 16) hx hb dX9_isPerson_5 (by decide) ?_
    refine lv_icmp_ge (tgt := 14) hx hb dX9_isPerson_7 (by decide) (fun h7_2 => ?_) (fun h7_2 => ?_)
    · have he := (if_pos h7_2).symm.trans he
      refine lv_iconst (v := 0) hx hb dX9_isPerson_14 (by decide) ?_
      exact W.zret (v := 0) hx hb hr rfl (fun t ht hW => ⟨_, rfl, he, ht⟩) (fun _ h => nomatch h) dX9_isPerson_15
    · have he := (if_neg h7_2).symm.trans he
      refine lv_iconst (v := 1) hx hb dX9_isPerson_10 (by decide) ?_
      refine lv_goto (tgt := 15) hx hb dX9_isPerson_11 (by decide) ?_
      exact W.zret (v := 1) hx hb hr rfl (fun t ht hW => ⟨_, rfl, he, ht⟩) (fun _ h => nomatch h) dX9_isPerson_15
set_option maxHeartbeats 4000000 in
set_option maxRecDepth 100000 in
theorem c_X9_isMinute (l : Launch) (a0 : Int32)  (res : Int32) (hres : sp_X9_isMinute a0 = res) : Met l yX9_isMinute wsX9_isMinute ({ frames := 0, cells := 0, slots := 0, locals := 0 } : Room) (va_Pc [.int a0] (fun _ => True)) (vp_Si (fun r => r = res)) 0 0 (fun _ => False) := by
  refine Met.ofW (cc := cX9_isMinute) (maxL := 1) (ret := (some .boolean)) (by decide) rfl ?_
  intro p e s m args below meth c s₁ B hml hv
  obtain ⟨rfl, -⟩ := hv
  have hx := B.exec
  have hb := B.bytes
  have hr := B.returns
  have hts := atoms_spec (ws := wsX9_isMinute) B.pre
  have hown : s.vm.findClass RX9 = some m.cls := findClass_of_methodNamed B.named
  have hlocks := B.notSynchronized
  have hl := lv_entry ([.int a0]) (n := 1) (Nat.le_of_ble_eq_true rfl)
  rw [lg_entry_eq]
  generalize (lg_sl ([.int a0]) ++ List.replicate (1 - (lg_sl ([.int a0])).length) Slot.unset).toArray = ls at hl ⊢
  have hl : lv_has ls 1 [(0, .int a0)] := hl
  have he := hres
  unfold sp_X9_isMinute at he
  refine lv_iload_n hx hb dX9_isMinute_0 rfl (lv_at hl 0 rfl) ?_
  refine lv_if_lt (tgt := 15) hx hb dX9_isMinute_1 (by decide) (fun h1_1 => ?_) (fun h1_1 => ?_)
  · have he := (if_pos h1_1).symm.trans he
    refine lv_iconst (v := 0) hx hb dX9_isMinute_15 (by decide) ?_
    exact W.zret (v := 0) hx hb hr rfl (fun t ht hW => ⟨_, rfl, he, ht⟩) (fun _ h => nomatch h) dX9_isMinute_16
  · have he := (if_neg h1_1).symm.trans he
    refine lv_iload_n hx hb dX9_isMinute_4 rfl (lv_at hl 0 rfl) ?_
    refine lv_ldcw (v := 10000000) hx hb hown (hts (.constant RX9 257 (10000000)) (by decide +kernel)) dX9_isMinute_5 ?_
    refine lv_icmp_gt (tgt := 15) hx hb dX9_isMinute_8 (by decide) (fun h8_2 => ?_) (fun h8_2 => ?_)
    · have he := (if_pos h8_2).symm.trans he
      refine lv_iconst (v := 0) hx hb dX9_isMinute_15 (by decide) ?_
      exact W.zret (v := 0) hx hb hr rfl (fun t ht hW => ⟨_, rfl, he, ht⟩) (fun _ h => nomatch h) dX9_isMinute_16
    · have he := (if_neg h8_2).symm.trans he
      refine lv_iconst (v := 1) hx hb dX9_isMinute_11 (by decide) ?_
      refine lv_goto (tgt := 16) hx hb dX9_isMinute_12 (by decide) ?_
      exact W.zret (v := 1) hx hb hr rfl (fun t ht hW => ⟨_, rfl, he, ht⟩) (fun _ h => nomatch h) dX9_isMinute_16
set_option maxHeartbeats 4000000 in
set_option maxRecDepth 100000 in
theorem c_X9_isDay (l : Launch) (a0 : Int32)  (res : Int32) (hres : sp_X9_isDay a0 = res) : Met l yX9_isDay wsX9_isDay ({ frames := 0, cells := 0, slots := 0, locals := 0 } : Room) (va_Pc [.int a0] (fun _ => True)) (vp_Si (fun r => r = res)) 0 0 (fun _ => False) := by
  refine Met.ofW (cc := cX9_isDay) (maxL := 1) (ret := (some .boolean)) (by decide) rfl ?_
  intro p e s m args below meth c s₁ B hml hv
  obtain ⟨rfl, -⟩ := hv
  have hx := B.exec
  have hb := B.bytes
  have hr := B.returns
  have hts := atoms_spec (ws := wsX9_isDay) B.pre
  have hown : s.vm.findClass RX9 = some m.cls := findClass_of_methodNamed B.named
  have hlocks := B.notSynchronized
  have hl := lv_entry ([.int a0]) (n := 1) (Nat.le_of_ble_eq_true rfl)
  rw [lg_entry_eq]
  generalize (lg_sl ([.int a0]) ++ List.replicate (1 - (lg_sl ([.int a0])).length) Slot.unset).toArray = ls at hl ⊢
  have hl : lv_has ls 1 [(0, .int a0)] := hl
  have he := hres
  unfold sp_X9_isDay at he
  refine lv_iload_n hx hb dX9_isDay_0 rfl (lv_at hl 0 rfl) ?_
  refine lv_if_lt (tgt := 15) hx hb dX9_isDay_1 (by decide) (fun h1_1 => ?_) (fun h1_1 => ?_)
  · have he := (if_pos h1_1).symm.trans he
    refine lv_iconst (v := 0) hx hb dX9_isDay_15 (by decide) ?_
    exact W.zret (v := 0) hx hb hr rfl (fun t ht hW => ⟨_, rfl, he, ht⟩) (fun _ h => nomatch h) dX9_isDay_16
  · have he := (if_neg h1_1).symm.trans he
    refine lv_iload_n hx hb dX9_isDay_4 rfl (lv_at hl 0 rfl) ?_
    refine lv_sipush (v := 6944) hx hb dX9_isDay_5 (by decide) ?_
    refine lv_icmp_gt (tgt := 15) hx hb dX9_isDay_8 (by decide) (fun h8_2 => ?_) (fun h8_2 => ?_)
    · have he := (if_pos h8_2).symm.trans he
      refine lv_iconst (v := 0) hx hb dX9_isDay_15 (by decide) ?_
      exact W.zret (v := 0) hx hb hr rfl (fun t ht hW => ⟨_, rfl, he, ht⟩) (fun _ h => nomatch h) dX9_isDay_16
    · have he := (if_neg h8_2).symm.trans he
      refine lv_iconst (v := 1) hx hb dX9_isDay_11 (by decide) ?_
      refine lv_goto (tgt := 16) hx hb dX9_isDay_12 (by decide) ?_
      exact W.zret (v := 1) hx hb hr rfl (fun t ht hW => ⟨_, rfl, he, ht⟩) (fun _ h => nomatch h) dX9_isDay_16
set_option maxHeartbeats 4000000 in
set_option maxRecDepth 100000 in
theorem c_X9_isSpanOfDays (l : Launch) (a0 : Int32)  (res : Int32) (hres : sp_X9_isSpanOfDays a0 = res) : Met l yX9_isSpanOfDays wsX9_isSpanOfDays ({ frames := 0, cells := 0, slots := 0, locals := 0 } : Room) (va_Pc [.int a0] (fun _ => True)) (vp_Si (fun r => r = res)) 0 0 (fun _ => False) := by
  refine Met.ofW (cc := cX9_isSpanOfDays) (maxL := 1) (ret := (some .boolean)) (by decide) rfl ?_
  intro p e s m args below meth c s₁ B hml hv
  obtain ⟨rfl, -⟩ := hv
  have hx := B.exec
  have hb := B.bytes
  have hr := B.returns
  have hts := atoms_spec (ws := wsX9_isSpanOfDays) B.pre
  have hown : s.vm.findClass RX9 = some m.cls := findClass_of_methodNamed B.named
  have hlocks := B.notSynchronized
  have hl := lv_entry ([.int a0]) (n := 1) (Nat.le_of_ble_eq_true rfl)
  rw [lg_entry_eq]
  generalize (lg_sl ([.int a0]) ++ List.replicate (1 - (lg_sl ([.int a0])).length) Slot.unset).toArray = ls at hl ⊢
  have hl : lv_has ls 1 [(0, .int a0)] := hl
  have he := hres
  unfold sp_X9_isSpanOfDays at he
  refine lv_iload_n hx hb dX9_isSpanOfDays_0 rfl (lv_at hl 0 rfl) ?_
  refine lv_iconst (v := 1) hx hb dX9_isSpanOfDays_1 (by decide) ?_
  refine lv_icmp_lt (tgt := 16) hx hb dX9_isSpanOfDays_2 (by decide) (fun h2_1 => ?_) (fun h2_1 => ?_)
  · have he := (if_pos h2_1).symm.trans he
    refine lv_iconst (v := 0) hx hb dX9_isSpanOfDays_16 (by decide) ?_
    exact W.zret (v := 0) hx hb hr rfl (fun t ht hW => ⟨_, rfl, he, ht⟩) (fun _ h => nomatch h) dX9_isSpanOfDays_17
  · have he := (if_neg h2_1).symm.trans he
    refine lv_iload_n hx hb dX9_isSpanOfDays_5 rfl (lv_at hl 0 rfl) ?_
    refine lv_sipush (v := 5000) hx hb dX9_isSpanOfDays_6 (by decide) ?_
    refine lv_icmp_gt (tgt := 16) hx hb dX9_isSpanOfDays_9 (by decide) (fun h9_2 => ?_) (fun h9_2 => ?_)
    · have he := (if_pos h9_2).symm.trans he
      refine lv_iconst (v := 0) hx hb dX9_isSpanOfDays_16 (by decide) ?_
      exact W.zret (v := 0) hx hb hr rfl (fun t ht hW => ⟨_, rfl, he, ht⟩) (fun _ h => nomatch h) dX9_isSpanOfDays_17
    · have he := (if_neg h9_2).symm.trans he
      refine lv_iconst (v := 1) hx hb dX9_isSpanOfDays_12 (by decide) ?_
      refine lv_goto (tgt := 17) hx hb dX9_isSpanOfDays_13 (by decide) ?_
      exact W.zret (v := 1) hx hb hr rfl (fun t ht hW => ⟨_, rfl, he, ht⟩) (fun _ h => nomatch h) dX9_isSpanOfDays_17
set_option maxHeartbeats 4000000 in
set_option maxRecDepth 100000 in
theorem c_X9_dayOfMinute (l : Launch) (a0 : Int32)  (res : Int32) (hres : sp_X9_dayOfMinute a0 = res) : Met l yX9_dayOfMinute wsX9_dayOfMinute ({ frames := 0, cells := 0, slots := 0, locals := 0 } : Room) (va_Pc [.int a0] (fun _ => True)) (vp_Si (fun r => r = res)) 0 0 (fun _ => False) := by
  refine Met.ofW (cc := cX9_dayOfMinute) (maxL := 1) (ret := (some .int)) (by decide) rfl ?_
  intro p e s m args below meth c s₁ B hml hv
  obtain ⟨rfl, -⟩ := hv
  have hx := B.exec
  have hb := B.bytes
  have hr := B.returns
  have hts := atoms_spec (ws := wsX9_dayOfMinute) B.pre
  have hown : s.vm.findClass RX9 = some m.cls := findClass_of_methodNamed B.named
  have hlocks := B.notSynchronized
  have hl := lv_entry ([.int a0]) (n := 1) (Nat.le_of_ble_eq_true rfl)
  rw [lg_entry_eq]
  generalize (lg_sl ([.int a0]) ++ List.replicate (1 - (lg_sl ([.int a0])).length) Slot.unset).toArray = ls at hl ⊢
  have hl : lv_has ls 1 [(0, .int a0)] := hl
  have he := hres
  unfold sp_X9_dayOfMinute at he
  refine lv_iload_n hx hb dX9_dayOfMinute_0 rfl (lv_at hl 0 rfl) ?_
  refine lv_sipush (v := 1440) hx hb dX9_dayOfMinute_1 (by decide) ?_
  refine lv_idiv hx hb dX9_dayOfMinute_4 (by decide) ?_
  exact W.iret (v := a0 / 1440) hx hb hr (fun t ht hW => ⟨_, rfl, he, ht⟩) (fun _ h => nomatch h) dX9_dayOfMinute_5
set_option maxHeartbeats 4000000 in
set_option maxRecDepth 100000 in
theorem c_X9_isAmong (l : Launch) (a0 : Int32) (a1 : Int32)  (res : Int32) (hres : sp_X9_isAmong a0 a1 = res) : Met l yX9_isAmong wsX9_isAmong ({ frames := 0, cells := 0, slots := 0, locals := 0 } : Room) (va_Pc [.int a0, .int a1] (fun _ => True)) (vp_Si (fun r => r = res)) 0 0 (fun _ => False) := by
  refine Met.ofW (cc := cX9_isAmong) (maxL := 2) (ret := (some .boolean)) (by decide) rfl ?_
  intro p e s m args below meth c s₁ B hml hv
  obtain ⟨rfl, -⟩ := hv
  have hx := B.exec
  have hb := B.bytes
  have hr := B.returns
  have hts := atoms_spec (ws := wsX9_isAmong) B.pre
  have hown : s.vm.findClass RX9 = some m.cls := findClass_of_methodNamed B.named
  have hlocks := B.notSynchronized
  have hl := lv_entry ([.int a0, .int a1]) (n := 2) (Nat.le_of_ble_eq_true rfl)
  rw [lg_entry_eq]
  generalize (lg_sl ([.int a0, .int a1]) ++ List.replicate (2 - (lg_sl ([.int a0, .int a1])).length) Slot.unset).toArray = ls at hl ⊢
  have hl : lv_has ls 2 [(0, .int a0), (1, .int a1)] := hl
  have he := hres
  unfold sp_X9_isAmong at he
  refine lv_iload_n hx hb dX9_isAmong_0 rfl (lv_at hl 0 rfl) ?_
  refine lv_iload_n hx hb dX9_isAmong_1 rfl (lv_at hl 1 rfl) ?_
  refine lv_ishr hx hb dX9_isAmong_2 ?_
  refine lv_iconst (v := 1) hx hb dX9_isAmong_3 (by decide) ?_
  refine lv_iand hx hb dX9_isAmong_4 ?_
  refine lv_iconst (v := 1) hx hb dX9_isAmong_5 (by decide) ?_
  refine lv_icmp_ne (tgt := 13) hx hb dX9_isAmong_6 (by decide) (fun h6_1 => ?_) (fun h6_1 => ?_)
  · have he := (if_neg h6_1).symm.trans he
    refine lv_iconst (v := 0) hx hb dX9_isAmong_13 (by decide) ?_
    exact W.zret (v := 0) hx hb hr rfl (fun t ht hW => ⟨_, rfl, he, ht⟩) (fun _ h => nomatch h) dX9_isAmong_14
  · have he := (if_pos h6_1).symm.trans he
    refine lv_iconst (v := 1) hx hb dX9_isAmong_9 (by decide) ?_
    refine lv_goto (tgt := 14) hx hb dX9_isAmong_10 (by decide) ?_
    exact W.zret (v := 1) hx hb hr rfl (fun t ht hW => ⟨_, rfl, he, ht⟩) (fun _ h => nomatch h) dX9_isAmong_14

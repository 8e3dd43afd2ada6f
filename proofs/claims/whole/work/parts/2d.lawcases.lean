set_option maxHeartbeats 8000000 in
set_option maxRecDepth 100000 in
theorem law_case_0 {p : Program} {l : Launch} {e : Env} {s : State} {m : MethodId} {below : List Frame} {meth : Method} {c : Code} {b L : Nat} {xs : Nat → Int32} {dC : Nat → ClassId} {dI : Nat → Nat → Nat} {q q2 : Nat → Nat} {k k2 : Nat → ClassId} {o : Nat} {ko : ClassId} {R : St → St → Prop} (hR : RefAll R) (C0 : LCx p l s m c b L xs dC dI q q2 k k2 o ko) (t : Nat) (ht : 5 * t + 5 ≤ L) (hL : L ≤ 2560) (x4 : Int32) (hx4 : x4.toInt = 5 * t) (sc sm : St) (f : Nat → Int64) (H : Heap) (locs : List Loc) (hRel : R sc sm) (hW0 : LSx s dC dI q q2 k k2 o ko sc sm f H locs) (ls : Array Slot) (hl : lv_has ls 8 [(4, .int x4), (3, .ref o), (2, .ref (q2 0)), (1, .ref (q 0)), (0, .ref b)])
    (kj : ∀ (sc sm : St) (f : Nat → Int64) (H : Heap) (locs : List Loc) (ls : Array Slot), R sc sm → LSx s dC dI q q2 k k2 o ko sc sm f H locs → lv_has ls 8 [(4, .int x4), (3, .ref o), (2, .ref (q2 0)), (1, .ref (q 0)), (0, .ref b)] → W p l e room_1 s m #[Value.ref b] below meth c H locs (79 + t + 1) (5487 + 6 * t + 6) (lw_Z below #[Value.ref b] s) (F0 m 1278 ls [])) :
    W p l e room_1 s m #[Value.ref b] below meth c H locs (79 + t) (5487 + 6 * t) (lw_Z below #[Value.ref b] s) (F0 m 128 ls []) := by
  obtain ⟨hx, hb, hml, hown, hts, hX, hbl, hst, hKC, hKM, hKO, hTH, hNC, hq, hq2, ho, ho2, hqq, hqb, hqb2, hob⟩ := C0
  obtain ⟨hPC, hPM, hPO, hS⟩ := hW0
  have hbA : ¬ (A0 s) b := Nat.not_le.mpr hbl
  have hokC := (hR.1 sc sm hRel).1
  have hokM := (hR.1 sc sm hRel).2
  have hA : ∀ z, aC q z → A0 s z := fun z ⟨j, hj, e9⟩ => by rw [e9]; exact hqb j hj
  have hA2 : ∀ z, aM q2 z → A0 s z := fun z ⟨j, hj, e9⟩ => by rw [e9]; exact hqb2 j hj
  have hAO : ∀ z, aO q o z → A0 s z := fun z h => h.elim (hA z) (fun h => by rw [h]; exact hob)
  have nCM : ∀ j, j < 35 → ¬ aC q (q2 j) := fun j hj ⟨i, hi, e9⟩ => hqq i j hi hj e9.symm
  have nOM : ∀ j, j < 35 → ¬ aO q o (q2 j) := fun j hj h => h.elim (nCM j hj) (fun h => ho2 j hj h)
  have nMC : ∀ j, j < 43 → ¬ aM q2 (q j) := fun j hj ⟨i, hi, e9⟩ => hqq j i hj hi e9
  have nMO : ¬ aM q2 o := fun ⟨i, hi, e9⟩ => ho2 i hi e9.symm
  have i1 := inc_ge x4 1 (by omega) (by decide)
  have i2 := inc_ge x4 2 (by omega) (by decide)
  have i3 := inc_ge x4 3 (by omega) (by decide)
  have i4 := inc_ge x4 4 (by omega) (by decide)
  have v1 : vp_in (x4 + 1) L := vp_in_iff.mpr (by rw [i1]; omega)
  have v2 : vp_in (x4 + 2) L := vp_in_iff.mpr (by rw [i2]; omega)
  have v3 : vp_in (x4 + 3) L := vp_in_iff.mpr (by rw [i3]; omega)
  have v4 : vp_in (x4 + 4) L := vp_in_iff.mpr (by rw [i4]; omega)
  refine lv_aload_n hx hb dL_law_128 rfl (lv_at hl 3 rfl) ?_
  refine lv_aload_n hx hb dL_law_129 rfl (lv_at hl 4 rfl) ?_
  refine lv_iload hx hb dL_law_130 (lv_at hl 0 rfl) ?_
  refine lv_iconst (v := 1) hx hb dL_law_132 (by decide) ?_
  refine lv_iadd hx hb dL_law_133 ?_
  refine va_sld hx hb hX hbl hbA hS v1 dL_law_134 ?_
  refine lv_aload_n hx hb dL_law_135 rfl (lv_at hl 1 rfl) ?_
  refine va_calli (vx_runSW (As := [.ref (q 0), .int (xs (x4 + 1).toNatClampNeg), .ref o]) (rest := []) ⟨hx, hb, hml, hown, hts⟩ (c_L_purpose l hst dC dI q k o ko f sc (xs (x4 + 1).toNatClampNeg) hq ho hokC _ rfl) (vx_cwSW 3 hts gL_law_L_purpose rfl rfl rfl (by decide +kernel) ⟨Nat.le_of_ble_eq_true rfl, Nat.le_of_ble_eq_true rfl⟩) ⟨fb_L, fun U hU hW => ⟨rfl, by rw [hU]; exact hPC, by rw [hU]; exact hPO, hKC.warm hW, va_K.moved hW.alike hKO, by rw [hU]; exact ((hTH.kept hS.2.1).narrow hAO).warm hW, hNC.moved hW.alike⟩⟩ rfl rfl hl.1 rfl (lv_room (Nat.le_of_ble_eq_true rfl)) dL_law_136 ⟨by show _ ≤ 1132; omega, by show _ ≤ 13853; omega⟩) hS (fun z _ h => hAO z h) (fun z h => hAO z h) (fun r9 f t9 H1 locs ht9 hv9 hp9 hB9 hz9 hk9 hS => ?_)
  rw [ht9] at hB9
  obtain ⟨hPC, hPO⟩ := hB9
  have hPM := keepM hPM hk9 nOM
  obtain ⟨hc, hv⟩ := hp9
  generalize H1 = H at hPC hPO hPM hS ⊢
  refine lv_istore (lv' := [(5, .int r9), (4, .int x4), (3, .ref o), (2, .ref (q2 0)), (1, .ref (q 0)), (0, .ref b)]) hx hb dL_law_139 hl (by decide) rfl (fun ls hl => ?_)
  refine lv_aload_n hx hb dL_law_141 rfl (lv_at hl 3 rfl) ?_
  refine lv_aload_n hx hb dL_law_142 rfl (lv_at hl 5 rfl) ?_
  refine lv_iload hx hb dL_law_143 (lv_at hl 1 rfl) ?_
  refine lv_iconst (v := 1) hx hb dL_law_145 (by decide) ?_
  refine lv_iadd hx hb dL_law_146 ?_
  refine va_sld hx hb hX hbl hbA hS v1 dL_law_147 ?_
  refine va_calli (va_runV (As := [.int (xs (x4 + 1).toNatClampNeg)]) (rest := []) ⟨hx, hb, hml, hown, hts⟩ (c_X10_purpose l dC dI q2 k2 sm (xs (x4 + 1).toNatClampNeg) hq2 hokM _ rfl) (cwV 1 hts gL_law_X10_purpose rfl rfl rfl (by decide +kernel) ⟨Nat.le_of_ble_eq_true rfl, Nat.le_of_ble_eq_true rfl⟩) ⟨fb_M, va_recv hKM.1 hPM (ci := 10) (q0 := 0) rfl rfl, fun U hU hW => ⟨rfl, by rw [hU]; exact hPM, hKM.warm hW⟩⟩ rfl rfl hl.1 rfl (lv_room (Nat.le_of_ble_eq_true rfl)) dL_law_148 ⟨by show _ ≤ 1132; omega, by show _ ≤ 13853; omega⟩) hS (fun z _ h => hA2 z h) (fun z h => hA2 z h) (fun r7 u7 t7 H1 locs ht7 hv7 e7 hB7 hz7 hk7 hS => ?_)
  rw [ht7] at hB7
  have hPC := keepC hPC hk7 nMC
  have hPO := keepO hPO hk7 nMO
  have hPM : va_P (dC, dI) vwCl (wM q2 k2 ((sp_X10_purpose sm (xs (x4 + 1).toNatClampNeg)).2)) H1 := hB7
  subst e7
  generalize H1 = H at hPC hPO hPM hS ⊢
  have hr := hR.2.2.1 sc sm (xs (x4 + 1).toNatClampNeg) hRel
  refine lv_istore (lv' := [(6, .int (sp_X10_purpose sm (xs (x4 + 1).toNatClampNeg)).1), (5, .int r9), (4, .int x4), (3, .ref o), (2, .ref (q2 0)), (1, .ref (q 0)), (0, .ref b)]) hx hb dL_law_151 hl (by decide) rfl (fun ls hl => ?_)
  refine lv_aload_n hx hb dL_law_153 rfl (lv_at hl 4 rfl) ?_
  refine vp_callSi (va_Run.run (va_runV (As := []) (rest := []) ⟨hx, hb, hml, hown, hts⟩ (c_X10_thrown l dC dI q2 k2 ((sp_X10_purpose sm (xs (x4 + 1).toNatClampNeg)).2) _ rfl) (cwV 0 hts gL_law_X10_thrown rfl rfl rfl (by decide +kernel) ⟨Nat.le_of_ble_eq_true rfl, Nat.le_of_ble_eq_true rfl⟩) ⟨fb_M, va_recv hKM.1 hPM (ci := 10) (q0 := 0) rfl rfl, fun U hU hW => ⟨rfl, by rw [hU]; exact hPM, hKM.warm hW⟩⟩ rfl rfl hl.1 rfl (lv_room (Nat.le_of_ble_eq_true rfl)) dL_law_154 ⟨by show _ ≤ 1132; omega, by show _ ≤ 13853; omega⟩)) (fun r8 e8 => ?_)
  subst e8
  refine lv_iload hx hb dL_law_157 (lv_at hl 1 rfl) ?_
  refine lv_icmp_eq (tgt := 164) hx hb dL_law_159 (by decide) (fun he9 => ?_) (fun he9 => absurd (hr.1.trans hc.symm : sp_X10_thrown _ = r9) he9)
  refine lv_iload hx hb dL_law_164 (lv_at hl 1 rfl) ?_
  refine lv_if_ne (tgt := 181) hx hb dL_law_166 (by decide) (fun hn9 => ?_) (fun hz8 => ?_)
  · have hn8 := hn9
    refine lv_goto (tgt := 1278) hx hb dL_law_181 (by decide) ?_
    exact kj _ _ _ _ _ ls hr.2.2 ⟨hPC, hPM, hPO, hS⟩ (lv_sub hl [2, 3, 4, 5, 6] rfl)
  · have hz7 := hz8
    refine lv_aload_n hx hb dL_law_169 rfl (lv_at hl 3 rfl) ?_
    refine lv_iconst (v := 0) hx hb dL_law_170 (by decide) ?_
    refine va_lald hx hb hKO hPO 0 0 (f := f) (n := 1) (cA := ko) rfl rfl (i := 0) (vp_in_iff.mpr (by decide)) dL_law_171 ?_
    refine lv_iload hx hb dL_law_172 (lv_at hl 0 rfl) ?_
    refine lv_i2l (v := ((sp_X10_purpose sm (xs (x4 + 1).toNatClampNeg)).1).toInt64) hx hb dL_law_174 rfl ?_
    refine W.lcmp hx hb dL_law_175 ?_
    refine lv_if_eq (tgt := 181) hx hb dL_law_176 (by decide) (fun he9 => ?_) (fun he9 => absurd ((hv (hc.symm.trans hz8)).trans (congrArg Int32.toInt64 (hr.2.1 (hc.symm.trans hz8)))) (lgc he9))
    refine lv_goto (tgt := 1278) hx hb dL_law_181 (by decide) ?_
    exact kj _ _ _ _ _ ls hr.2.2 ⟨hPC, hPM, hPO, hS⟩ (lv_sub hl [2, 3, 4, 5, 6] rfl)
set_option maxHeartbeats 8000000 in
set_option maxRecDepth 100000 in
theorem law_case_1 {p : Program} {l : Launch} {e : Env} {s : State} {m : MethodId} {below : List Frame} {meth : Method} {c : Code} {b L : Nat} {xs : Nat → Int32} {dC : Nat → ClassId} {dI : Nat → Nat → Nat} {q q2 : Nat → Nat} {k k2 : Nat → ClassId} {o : Nat} {ko : ClassId} {R : St → St → Prop} (hR : RefAll R) (C0 : LCx p l s m c b L xs dC dI q q2 k k2 o ko) (t : Nat) (ht : 5 * t + 5 ≤ L) (hL : L ≤ 2560) (x4 : Int32) (hx4 : x4.toInt = 5 * t) (sc sm : St) (f : Nat → Int64) (H : Heap) (locs : List Loc) (hRel : R sc sm) (hW0 : LSx s dC dI q q2 k k2 o ko sc sm f H locs) (ls : Array Slot) (hl : lv_has ls 8 [(4, .int x4), (3, .ref o), (2, .ref (q2 0)), (1, .ref (q 0)), (0, .ref b)])
    (kj : ∀ (sc sm : St) (f : Nat → Int64) (H : Heap) (locs : List Loc) (ls : Array Slot), R sc sm → LSx s dC dI q q2 k k2 o ko sc sm f H locs → lv_has ls 8 [(4, .int x4), (3, .ref o), (2, .ref (q2 0)), (1, .ref (q 0)), (0, .ref b)] → W p l e room_1 s m #[Value.ref b] below meth c H locs (79 + t + 1) (5487 + 6 * t + 6) (lw_Z below #[Value.ref b] s) (F0 m 1278 ls [])) :
    W p l e room_1 s m #[Value.ref b] below meth c H locs (79 + t) (5487 + 6 * t) (lw_Z below #[Value.ref b] s) (F0 m 184 ls []) := by
  obtain ⟨hx, hb, hml, hown, hts, hX, hbl, hst, hKC, hKM, hKO, hTH, hNC, hq, hq2, ho, ho2, hqq, hqb, hqb2, hob⟩ := C0
  obtain ⟨hPC, hPM, hPO, hS⟩ := hW0
  have hbA : ¬ (A0 s) b := Nat.not_le.mpr hbl
  have hokC := (hR.1 sc sm hRel).1
  have hokM := (hR.1 sc sm hRel).2
  have hA : ∀ z, aC q z → A0 s z := fun z ⟨j, hj, e9⟩ => by rw [e9]; exact hqb j hj
  have hA2 : ∀ z, aM q2 z → A0 s z := fun z ⟨j, hj, e9⟩ => by rw [e9]; exact hqb2 j hj
  have hAO : ∀ z, aO q o z → A0 s z := fun z h => h.elim (hA z) (fun h => by rw [h]; exact hob)
  have nCM : ∀ j, j < 35 → ¬ aC q (q2 j) := fun j hj ⟨i, hi, e9⟩ => hqq i j hi hj e9.symm
  have nOM : ∀ j, j < 35 → ¬ aO q o (q2 j) := fun j hj h => h.elim (nCM j hj) (fun h => ho2 j hj h)
  have nMC : ∀ j, j < 43 → ¬ aM q2 (q j) := fun j hj ⟨i, hi, e9⟩ => hqq j i hj hi e9
  have nMO : ¬ aM q2 o := fun ⟨i, hi, e9⟩ => ho2 i hi e9.symm
  have i1 := inc_ge x4 1 (by omega) (by decide)
  have i2 := inc_ge x4 2 (by omega) (by decide)
  have i3 := inc_ge x4 3 (by omega) (by decide)
  have i4 := inc_ge x4 4 (by omega) (by decide)
  have v1 : vp_in (x4 + 1) L := vp_in_iff.mpr (by rw [i1]; omega)
  have v2 : vp_in (x4 + 2) L := vp_in_iff.mpr (by rw [i2]; omega)
  have v3 : vp_in (x4 + 3) L := vp_in_iff.mpr (by rw [i3]; omega)
  have v4 : vp_in (x4 + 4) L := vp_in_iff.mpr (by rw [i4]; omega)
  refine lv_aload_n hx hb dL_law_184 rfl (lv_at hl 3 rfl) ?_
  refine lv_aload_n hx hb dL_law_185 rfl (lv_at hl 4 rfl) ?_
  refine lv_iload hx hb dL_law_186 (lv_at hl 0 rfl) ?_
  refine lv_iconst (v := 1) hx hb dL_law_188 (by decide) ?_
  refine lv_iadd hx hb dL_law_189 ?_
  refine va_sld hx hb hX hbl hbA hS v1 dL_law_190 ?_
  refine lv_aload_n hx hb dL_law_191 rfl (lv_at hl 1 rfl) ?_
  refine va_calli (vx_runSW (As := [.ref (q 0), .int (xs (x4 + 1).toNatClampNeg), .ref o]) (rest := []) ⟨hx, hb, hml, hown, hts⟩ (c_L_kind l hst dC dI q k o ko f sc (xs (x4 + 1).toNatClampNeg) hq ho hokC _ rfl) (vx_cwSW 3 hts gL_law_L_kind rfl rfl rfl (by decide +kernel) ⟨Nat.le_of_ble_eq_true rfl, Nat.le_of_ble_eq_true rfl⟩) ⟨fb_L, fun U hU hW => ⟨rfl, by rw [hU]; exact hPC, by rw [hU]; exact hPO, hKC.warm hW, va_K.moved hW.alike hKO, by rw [hU]; exact ((hTH.kept hS.2.1).narrow hAO).warm hW, hNC.moved hW.alike⟩⟩ rfl rfl hl.1 rfl (lv_room (Nat.le_of_ble_eq_true rfl)) dL_law_192 ⟨by show _ ≤ 1132; omega, by show _ ≤ 13853; omega⟩) hS (fun z _ h => hAO z h) (fun z h => hAO z h) (fun r9 f t9 H1 locs ht9 hv9 hp9 hB9 hz9 hk9 hS => ?_)
  rw [ht9] at hB9
  obtain ⟨hPC, hPO⟩ := hB9
  have hPM := keepM hPM hk9 nOM
  obtain ⟨hc, hv⟩ := hp9
  generalize H1 = H at hPC hPO hPM hS ⊢
  refine lv_istore (lv' := [(5, .int r9), (4, .int x4), (3, .ref o), (2, .ref (q2 0)), (1, .ref (q 0)), (0, .ref b)]) hx hb dL_law_195 hl (by decide) rfl (fun ls hl => ?_)
  refine lv_aload_n hx hb dL_law_197 rfl (lv_at hl 3 rfl) ?_
  refine lv_aload_n hx hb dL_law_198 rfl (lv_at hl 5 rfl) ?_
  refine lv_iload hx hb dL_law_199 (lv_at hl 1 rfl) ?_
  refine lv_iconst (v := 1) hx hb dL_law_201 (by decide) ?_
  refine lv_iadd hx hb dL_law_202 ?_
  refine va_sld hx hb hX hbl hbA hS v1 dL_law_203 ?_
  refine va_calli (va_runV (As := [.int (xs (x4 + 1).toNatClampNeg)]) (rest := []) ⟨hx, hb, hml, hown, hts⟩ (c_X10_kind l dC dI q2 k2 sm (xs (x4 + 1).toNatClampNeg) hq2 hokM _ rfl) (cwV 1 hts gL_law_X10_kind rfl rfl rfl (by decide +kernel) ⟨Nat.le_of_ble_eq_true rfl, Nat.le_of_ble_eq_true rfl⟩) ⟨fb_M, va_recv hKM.1 hPM (ci := 10) (q0 := 0) rfl rfl, fun U hU hW => ⟨rfl, by rw [hU]; exact hPM, hKM.warm hW⟩⟩ rfl rfl hl.1 rfl (lv_room (Nat.le_of_ble_eq_true rfl)) dL_law_204 ⟨by show _ ≤ 1132; omega, by show _ ≤ 13853; omega⟩) hS (fun z _ h => hA2 z h) (fun z h => hA2 z h) (fun r7 u7 t7 H1 locs ht7 hv7 e7 hB7 hz7 hk7 hS => ?_)
  rw [ht7] at hB7
  have hPC := keepC hPC hk7 nMC
  have hPO := keepO hPO hk7 nMO
  have hPM : va_P (dC, dI) vwCl (wM q2 k2 ((sp_X10_kind sm (xs (x4 + 1).toNatClampNeg)).2)) H1 := hB7
  subst e7
  generalize H1 = H at hPC hPO hPM hS ⊢
  have hr := hR.2.2.2.1 sc sm (xs (x4 + 1).toNatClampNeg) hRel
  refine lv_istore (lv' := [(6, .int (sp_X10_kind sm (xs (x4 + 1).toNatClampNeg)).1), (5, .int r9), (4, .int x4), (3, .ref o), (2, .ref (q2 0)), (1, .ref (q 0)), (0, .ref b)]) hx hb dL_law_207 hl (by decide) rfl (fun ls hl => ?_)
  refine lv_aload_n hx hb dL_law_209 rfl (lv_at hl 4 rfl) ?_
  refine vp_callSi (va_Run.run (va_runV (As := []) (rest := []) ⟨hx, hb, hml, hown, hts⟩ (c_X10_thrown l dC dI q2 k2 ((sp_X10_kind sm (xs (x4 + 1).toNatClampNeg)).2) _ rfl) (cwV 0 hts gL_law_X10_thrown rfl rfl rfl (by decide +kernel) ⟨Nat.le_of_ble_eq_true rfl, Nat.le_of_ble_eq_true rfl⟩) ⟨fb_M, va_recv hKM.1 hPM (ci := 10) (q0 := 0) rfl rfl, fun U hU hW => ⟨rfl, by rw [hU]; exact hPM, hKM.warm hW⟩⟩ rfl rfl hl.1 rfl (lv_room (Nat.le_of_ble_eq_true rfl)) dL_law_210 ⟨by show _ ≤ 1132; omega, by show _ ≤ 13853; omega⟩)) (fun r8 e8 => ?_)
  subst e8
  refine lv_iload hx hb dL_law_213 (lv_at hl 1 rfl) ?_
  refine lv_icmp_eq (tgt := 220) hx hb dL_law_215 (by decide) (fun he9 => ?_) (fun he9 => absurd (hr.1.trans hc.symm : sp_X10_thrown _ = r9) he9)
  refine lv_iload hx hb dL_law_220 (lv_at hl 1 rfl) ?_
  refine lv_if_ne (tgt := 237) hx hb dL_law_222 (by decide) (fun hn9 => ?_) (fun hz8 => ?_)
  · have hn8 := hn9
    refine lv_goto (tgt := 1278) hx hb dL_law_237 (by decide) ?_
    exact kj _ _ _ _ _ ls hr.2.2 ⟨hPC, hPM, hPO, hS⟩ (lv_sub hl [2, 3, 4, 5, 6] rfl)
  · have hz7 := hz8
    refine lv_aload_n hx hb dL_law_225 rfl (lv_at hl 3 rfl) ?_
    refine lv_iconst (v := 0) hx hb dL_law_226 (by decide) ?_
    refine va_lald hx hb hKO hPO 0 0 (f := f) (n := 1) (cA := ko) rfl rfl (i := 0) (vp_in_iff.mpr (by decide)) dL_law_227 ?_
    refine lv_iload hx hb dL_law_228 (lv_at hl 0 rfl) ?_
    refine lv_i2l (v := ((sp_X10_kind sm (xs (x4 + 1).toNatClampNeg)).1).toInt64) hx hb dL_law_230 rfl ?_
    refine W.lcmp hx hb dL_law_231 ?_
    refine lv_if_eq (tgt := 237) hx hb dL_law_232 (by decide) (fun he9 => ?_) (fun he9 => absurd ((hv (hc.symm.trans hz8)).trans (congrArg Int32.toInt64 (hr.2.1 (hc.symm.trans hz8)))) (lgc he9))
    refine lv_goto (tgt := 1278) hx hb dL_law_237 (by decide) ?_
    exact kj _ _ _ _ _ ls hr.2.2 ⟨hPC, hPM, hPO, hS⟩ (lv_sub hl [2, 3, 4, 5, 6] rfl)
set_option maxHeartbeats 8000000 in
set_option maxRecDepth 100000 in
theorem law_case_2 {p : Program} {l : Launch} {e : Env} {s : State} {m : MethodId} {below : List Frame} {meth : Method} {c : Code} {b L : Nat} {xs : Nat → Int32} {dC : Nat → ClassId} {dI : Nat → Nat → Nat} {q q2 : Nat → Nat} {k k2 : Nat → ClassId} {o : Nat} {ko : ClassId} {R : St → St → Prop} (hR : RefAll R) (C0 : LCx p l s m c b L xs dC dI q q2 k k2 o ko) (t : Nat) (ht : 5 * t + 5 ≤ L) (hL : L ≤ 2560) (x4 : Int32) (hx4 : x4.toInt = 5 * t) (sc sm : St) (f : Nat → Int64) (H : Heap) (locs : List Loc) (hRel : R sc sm) (hW0 : LSx s dC dI q q2 k k2 o ko sc sm f H locs) (ls : Array Slot) (hl : lv_has ls 8 [(4, .int x4), (3, .ref o), (2, .ref (q2 0)), (1, .ref (q 0)), (0, .ref b)])
    (kj : ∀ (sc sm : St) (f : Nat → Int64) (H : Heap) (locs : List Loc) (ls : Array Slot), R sc sm → LSx s dC dI q q2 k k2 o ko sc sm f H locs → lv_has ls 8 [(4, .int x4), (3, .ref o), (2, .ref (q2 0)), (1, .ref (q 0)), (0, .ref b)] → W p l e room_1 s m #[Value.ref b] below meth c H locs (79 + t + 1) (5487 + 6 * t + 6) (lw_Z below #[Value.ref b] s) (F0 m 1278 ls [])) :
    W p l e room_1 s m #[Value.ref b] below meth c H locs (79 + t) (5487 + 6 * t) (lw_Z below #[Value.ref b] s) (F0 m 240 ls []) := by
  obtain ⟨hx, hb, hml, hown, hts, hX, hbl, hst, hKC, hKM, hKO, hTH, hNC, hq, hq2, ho, ho2, hqq, hqb, hqb2, hob⟩ := C0
  obtain ⟨hPC, hPM, hPO, hS⟩ := hW0
  have hbA : ¬ (A0 s) b := Nat.not_le.mpr hbl
  have hokC := (hR.1 sc sm hRel).1
  have hokM := (hR.1 sc sm hRel).2
  have hA : ∀ z, aC q z → A0 s z := fun z ⟨j, hj, e9⟩ => by rw [e9]; exact hqb j hj
  have hA2 : ∀ z, aM q2 z → A0 s z := fun z ⟨j, hj, e9⟩ => by rw [e9]; exact hqb2 j hj
  have hAO : ∀ z, aO q o z → A0 s z := fun z h => h.elim (hA z) (fun h => by rw [h]; exact hob)
  have nCM : ∀ j, j < 35 → ¬ aC q (q2 j) := fun j hj ⟨i, hi, e9⟩ => hqq i j hi hj e9.symm
  have nOM : ∀ j, j < 35 → ¬ aO q o (q2 j) := fun j hj h => h.elim (nCM j hj) (fun h => ho2 j hj h)
  have nMC : ∀ j, j < 43 → ¬ aM q2 (q j) := fun j hj ⟨i, hi, e9⟩ => hqq j i hj hi e9
  have nMO : ¬ aM q2 o := fun ⟨i, hi, e9⟩ => ho2 i hi e9.symm
  have i1 := inc_ge x4 1 (by omega) (by decide)
  have i2 := inc_ge x4 2 (by omega) (by decide)
  have i3 := inc_ge x4 3 (by omega) (by decide)
  have i4 := inc_ge x4 4 (by omega) (by decide)
  have v1 : vp_in (x4 + 1) L := vp_in_iff.mpr (by rw [i1]; omega)
  have v2 : vp_in (x4 + 2) L := vp_in_iff.mpr (by rw [i2]; omega)
  have v3 : vp_in (x4 + 3) L := vp_in_iff.mpr (by rw [i3]; omega)
  have v4 : vp_in (x4 + 4) L := vp_in_iff.mpr (by rw [i4]; omega)
  refine lv_aload_n hx hb dL_law_240 rfl (lv_at hl 3 rfl) ?_
  refine lv_aload_n hx hb dL_law_241 rfl (lv_at hl 4 rfl) ?_
  refine lv_iload hx hb dL_law_242 (lv_at hl 0 rfl) ?_
  refine lv_iconst (v := 1) hx hb dL_law_244 (by decide) ?_
  refine lv_iadd hx hb dL_law_245 ?_
  refine va_sld hx hb hX hbl hbA hS v1 dL_law_246 ?_
  refine lv_aload_n hx hb dL_law_247 rfl (lv_at hl 4 rfl) ?_
  refine lv_iload hx hb dL_law_248 (lv_at hl 0 rfl) ?_
  refine lv_iconst (v := 2) hx hb dL_law_250 (by decide) ?_
  refine lv_iadd hx hb dL_law_251 ?_
  refine va_sld hx hb hX hbl hbA hS v2 dL_law_252 ?_
  refine lv_aload_n hx hb dL_law_253 rfl (lv_at hl 4 rfl) ?_
  refine lv_iload hx hb dL_law_254 (lv_at hl 0 rfl) ?_
  refine lv_iconst (v := 3) hx hb dL_law_256 (by decide) ?_
  refine lv_iadd hx hb dL_law_257 ?_
  refine va_sld hx hb hX hbl hbA hS v3 dL_law_258 ?_
  refine lv_if_eq (tgt := 266) hx hb dL_law_259 (by decide) (fun hz => ?_) (fun hz => ?_)
  · have hz9 := hz
    refine lv_iconst (v := 0) hx hb dL_law_266 (by decide) ?_
    refine lv_aload_n hx hb dL_law_267 rfl (lv_at hl 4 rfl) ?_
    refine lv_iload hx hb dL_law_268 (lv_at hl 0 rfl) ?_
    refine lv_iconst (v := 4) hx hb dL_law_270 (by decide) ?_
    refine lv_iadd hx hb dL_law_271 ?_
    refine va_sld hx hb hX hbl hbA hS v4 dL_law_272 ?_
    refine lv_aload_n hx hb dL_law_273 rfl (lv_at hl 1 rfl) ?_
    refine va_calli (vx_runSW (As := [.ref (q 0), .int (xs (x4 + 1).toNatClampNeg), .int (xs (x4 + 2).toNatClampNeg), .int 0, .int (xs (x4 + 4).toNatClampNeg), .ref o]) (rest := []) ⟨hx, hb, hml, hown, hts⟩ (c_L_consent l hst dC dI q k o ko f sc (xs (x4 + 1).toNatClampNeg) (xs (x4 + 2).toNatClampNeg) 0 (xs (x4 + 4).toNatClampNeg) hq ho hokC _ rfl) (vx_cwSW 6 hts gL_law_L_consent rfl rfl rfl (by decide +kernel) ⟨Nat.le_of_ble_eq_true rfl, Nat.le_of_ble_eq_true rfl⟩) ⟨fb_L, fun U hU hW => ⟨rfl, by rw [hU]; exact hPC, by rw [hU]; exact hPO, hKC.warm hW, va_K.moved hW.alike hKO, by rw [hU]; exact ((hTH.kept hS.2.1).narrow hAO).warm hW, hNC.moved hW.alike⟩⟩ rfl rfl hl.1 rfl (lv_room (Nat.le_of_ble_eq_true rfl)) dL_law_274 ⟨by show _ ≤ 1132; omega, by show _ ≤ 13853; omega⟩) hS (fun z _ h => hAO z h) (fun z h => hAO z h) (fun r9 f t9 H1 locs ht9 hv9 hp9 hB9 hz9 hk9 hS => ?_)
    rw [ht9] at hB9
    obtain ⟨hPC, hPO⟩ := hB9
    have hPM := keepM hPM hk9 nOM
    obtain ⟨hc, hv⟩ := hp9
    generalize H1 = H at hPC hPO hPM hS ⊢
    refine lv_istore (lv' := [(5, .int r9), (4, .int x4), (3, .ref o), (2, .ref (q2 0)), (1, .ref (q 0)), (0, .ref b)]) hx hb dL_law_277 hl (by decide) rfl (fun ls hl => ?_)
    refine lv_aload_n hx hb dL_law_279 rfl (lv_at hl 3 rfl) ?_
    refine lv_aload_n hx hb dL_law_280 rfl (lv_at hl 5 rfl) ?_
    refine lv_iload hx hb dL_law_281 (lv_at hl 1 rfl) ?_
    refine lv_iconst (v := 1) hx hb dL_law_283 (by decide) ?_
    refine lv_iadd hx hb dL_law_284 ?_
    refine va_sld hx hb hX hbl hbA hS v1 dL_law_285 ?_
    refine lv_aload_n hx hb dL_law_286 rfl (lv_at hl 5 rfl) ?_
    refine lv_iload hx hb dL_law_287 (lv_at hl 1 rfl) ?_
    refine lv_iconst (v := 2) hx hb dL_law_289 (by decide) ?_
    refine lv_iadd hx hb dL_law_290 ?_
    refine va_sld hx hb hX hbl hbA hS v2 dL_law_291 ?_
    refine lv_aload_n hx hb dL_law_292 rfl (lv_at hl 5 rfl) ?_
    refine lv_iload hx hb dL_law_293 (lv_at hl 1 rfl) ?_
    refine lv_iconst (v := 3) hx hb dL_law_295 (by decide) ?_
    refine lv_iadd hx hb dL_law_296 ?_
    refine va_sld hx hb hX hbl hbA hS v3 dL_law_297 ?_
    refine lv_if_eq (tgt := 305) hx hb dL_law_298 (by decide) (fun _ => ?_) (fun h9 => absurd hz h9)
    refine lv_iconst (v := 0) hx hb dL_law_305 (by decide) ?_
    refine lv_aload_n hx hb dL_law_306 rfl (lv_at hl 5 rfl) ?_
    refine lv_iload hx hb dL_law_307 (lv_at hl 1 rfl) ?_
    refine lv_iconst (v := 4) hx hb dL_law_309 (by decide) ?_
    refine lv_iadd hx hb dL_law_310 ?_
    refine va_sld hx hb hX hbl hbA hS v4 dL_law_311 ?_
    refine va_calli (va_runV (As := [.int (xs (x4 + 1).toNatClampNeg), .int (xs (x4 + 2).toNatClampNeg), .int 0, .int (xs (x4 + 4).toNatClampNeg)]) (rest := []) ⟨hx, hb, hml, hown, hts⟩ (c_X10_consent l dC dI q2 k2 sm (xs (x4 + 1).toNatClampNeg) (xs (x4 + 2).toNatClampNeg) 0 (xs (x4 + 4).toNatClampNeg) hq2 hokM _ rfl) (cwV 4 hts gL_law_X10_consent rfl rfl rfl (by decide +kernel) ⟨Nat.le_of_ble_eq_true rfl, Nat.le_of_ble_eq_true rfl⟩) ⟨fb_M, va_recv hKM.1 hPM (ci := 10) (q0 := 0) rfl rfl, fun U hU hW => ⟨rfl, by rw [hU]; exact hPM, hKM.warm hW⟩⟩ rfl rfl hl.1 rfl (lv_room (Nat.le_of_ble_eq_true rfl)) dL_law_312 ⟨by show _ ≤ 1132; omega, by show _ ≤ 13853; omega⟩) hS (fun z _ h => hA2 z h) (fun z h => hA2 z h) (fun r7 u7 t7 H1 locs ht7 hv7 e7 hB7 hz7 hk7 hS => ?_)
    rw [ht7] at hB7
    have hPC := keepC hPC hk7 nMC
    have hPO := keepO hPO hk7 nMO
    have hPM : va_P (dC, dI) vwCl (wM q2 k2 ((sp_X10_consent sm (xs (x4 + 1).toNatClampNeg) (xs (x4 + 2).toNatClampNeg) 0 (xs (x4 + 4).toNatClampNeg)).2)) H1 := hB7
    subst e7
    generalize H1 = H at hPC hPO hPM hS ⊢
    have hr := hR.2.2.2.2.1 sc sm (xs (x4 + 1).toNatClampNeg) (xs (x4 + 2).toNatClampNeg) 0 (xs (x4 + 4).toNatClampNeg) (Or.inl rfl) hRel
    refine lv_istore (lv' := [(6, .int (sp_X10_consent sm (xs (x4 + 1).toNatClampNeg) (xs (x4 + 2).toNatClampNeg) 0 (xs (x4 + 4).toNatClampNeg)).1), (5, .int r9), (4, .int x4), (3, .ref o), (2, .ref (q2 0)), (1, .ref (q 0)), (0, .ref b)]) hx hb dL_law_315 hl (by decide) rfl (fun ls hl => ?_)
    refine lv_aload_n hx hb dL_law_317 rfl (lv_at hl 4 rfl) ?_
    refine vp_callSi (va_Run.run (va_runV (As := []) (rest := []) ⟨hx, hb, hml, hown, hts⟩ (c_X10_thrown l dC dI q2 k2 ((sp_X10_consent sm (xs (x4 + 1).toNatClampNeg) (xs (x4 + 2).toNatClampNeg) 0 (xs (x4 + 4).toNatClampNeg)).2) _ rfl) (cwV 0 hts gL_law_X10_thrown rfl rfl rfl (by decide +kernel) ⟨Nat.le_of_ble_eq_true rfl, Nat.le_of_ble_eq_true rfl⟩) ⟨fb_M, va_recv hKM.1 hPM (ci := 10) (q0 := 0) rfl rfl, fun U hU hW => ⟨rfl, by rw [hU]; exact hPM, hKM.warm hW⟩⟩ rfl rfl hl.1 rfl (lv_room (Nat.le_of_ble_eq_true rfl)) dL_law_318 ⟨by show _ ≤ 1132; omega, by show _ ≤ 13853; omega⟩)) (fun r8 e8 => ?_)
    subst e8
    refine lv_iload hx hb dL_law_321 (lv_at hl 1 rfl) ?_
    refine lv_icmp_eq (tgt := 328) hx hb dL_law_323 (by decide) (fun he9 => ?_) (fun he9 => absurd (hr.1.trans hc.symm : sp_X10_thrown _ = r9) he9)
    refine lv_iload hx hb dL_law_328 (lv_at hl 1 rfl) ?_
    refine lv_if_ne (tgt := 345) hx hb dL_law_330 (by decide) (fun hn9 => ?_) (fun hz8 => ?_)
    · have hn8 := hn9
      refine lv_goto (tgt := 1278) hx hb dL_law_345 (by decide) ?_
      exact kj _ _ _ _ _ ls hr.2.2 ⟨hPC, hPM, hPO, hS⟩ (lv_sub hl [2, 3, 4, 5, 6] rfl)
    · have hz7 := hz8
      refine lv_aload_n hx hb dL_law_333 rfl (lv_at hl 3 rfl) ?_
      refine lv_iconst (v := 0) hx hb dL_law_334 (by decide) ?_
      refine va_lald hx hb hKO hPO 0 0 (f := f) (n := 1) (cA := ko) rfl rfl (i := 0) (vp_in_iff.mpr (by decide)) dL_law_335 ?_
      refine lv_iload hx hb dL_law_336 (lv_at hl 0 rfl) ?_
      refine lv_i2l (v := ((sp_X10_consent sm (xs (x4 + 1).toNatClampNeg) (xs (x4 + 2).toNatClampNeg) 0 (xs (x4 + 4).toNatClampNeg)).1).toInt64) hx hb dL_law_338 rfl ?_
      refine W.lcmp hx hb dL_law_339 ?_
      refine lv_if_eq (tgt := 345) hx hb dL_law_340 (by decide) (fun he9 => ?_) (fun he9 => absurd ((hv (hc.symm.trans hz8)).trans (congrArg Int32.toInt64 (hr.2.1 (hc.symm.trans hz8)))) (lgc he9))
      refine lv_goto (tgt := 1278) hx hb dL_law_345 (by decide) ?_
      exact kj _ _ _ _ _ ls hr.2.2 ⟨hPC, hPM, hPO, hS⟩ (lv_sub hl [2, 3, 4, 5, 6] rfl)
  · have hz9 := hz
    refine lv_iconst (v := 1) hx hb dL_law_262 (by decide) ?_
    refine lv_goto (tgt := 267) hx hb dL_law_263 (by decide) ?_
    refine lv_aload_n hx hb dL_law_267 rfl (lv_at hl 4 rfl) ?_
    refine lv_iload hx hb dL_law_268 (lv_at hl 0 rfl) ?_
    refine lv_iconst (v := 4) hx hb dL_law_270 (by decide) ?_
    refine lv_iadd hx hb dL_law_271 ?_
    refine va_sld hx hb hX hbl hbA hS v4 dL_law_272 ?_
    refine lv_aload_n hx hb dL_law_273 rfl (lv_at hl 1 rfl) ?_
    refine va_calli (vx_runSW (As := [.ref (q 0), .int (xs (x4 + 1).toNatClampNeg), .int (xs (x4 + 2).toNatClampNeg), .int 1, .int (xs (x4 + 4).toNatClampNeg), .ref o]) (rest := []) ⟨hx, hb, hml, hown, hts⟩ (c_L_consent l hst dC dI q k o ko f sc (xs (x4 + 1).toNatClampNeg) (xs (x4 + 2).toNatClampNeg) 1 (xs (x4 + 4).toNatClampNeg) hq ho hokC _ rfl) (vx_cwSW 6 hts gL_law_L_consent rfl rfl rfl (by decide +kernel) ⟨Nat.le_of_ble_eq_true rfl, Nat.le_of_ble_eq_true rfl⟩) ⟨fb_L, fun U hU hW => ⟨rfl, by rw [hU]; exact hPC, by rw [hU]; exact hPO, hKC.warm hW, va_K.moved hW.alike hKO, by rw [hU]; exact ((hTH.kept hS.2.1).narrow hAO).warm hW, hNC.moved hW.alike⟩⟩ rfl rfl hl.1 rfl (lv_room (Nat.le_of_ble_eq_true rfl)) dL_law_274 ⟨by show _ ≤ 1132; omega, by show _ ≤ 13853; omega⟩) hS (fun z _ h => hAO z h) (fun z h => hAO z h) (fun r9 f t9 H1 locs ht9 hv9 hp9 hB9 hz9 hk9 hS => ?_)
    rw [ht9] at hB9
    obtain ⟨hPC, hPO⟩ := hB9
    have hPM := keepM hPM hk9 nOM
    obtain ⟨hc, hv⟩ := hp9
    generalize H1 = H at hPC hPO hPM hS ⊢
    refine lv_istore (lv' := [(5, .int r9), (4, .int x4), (3, .ref o), (2, .ref (q2 0)), (1, .ref (q 0)), (0, .ref b)]) hx hb dL_law_277 hl (by decide) rfl (fun ls hl => ?_)
    refine lv_aload_n hx hb dL_law_279 rfl (lv_at hl 3 rfl) ?_
    refine lv_aload_n hx hb dL_law_280 rfl (lv_at hl 5 rfl) ?_
    refine lv_iload hx hb dL_law_281 (lv_at hl 1 rfl) ?_
    refine lv_iconst (v := 1) hx hb dL_law_283 (by decide) ?_
    refine lv_iadd hx hb dL_law_284 ?_
    refine va_sld hx hb hX hbl hbA hS v1 dL_law_285 ?_
    refine lv_aload_n hx hb dL_law_286 rfl (lv_at hl 5 rfl) ?_
    refine lv_iload hx hb dL_law_287 (lv_at hl 1 rfl) ?_
    refine lv_iconst (v := 2) hx hb dL_law_289 (by decide) ?_
    refine lv_iadd hx hb dL_law_290 ?_
    refine va_sld hx hb hX hbl hbA hS v2 dL_law_291 ?_
    refine lv_aload_n hx hb dL_law_292 rfl (lv_at hl 5 rfl) ?_
    refine lv_iload hx hb dL_law_293 (lv_at hl 1 rfl) ?_
    refine lv_iconst (v := 3) hx hb dL_law_295 (by decide) ?_
    refine lv_iadd hx hb dL_law_296 ?_
    refine va_sld hx hb hX hbl hbA hS v3 dL_law_297 ?_
    refine lv_if_eq (tgt := 305) hx hb dL_law_298 (by decide) (fun h9 => absurd h9 hz) (fun _ => ?_)
    refine lv_iconst (v := 1) hx hb dL_law_301 (by decide) ?_
    refine lv_goto (tgt := 306) hx hb dL_law_302 (by decide) ?_
    refine lv_aload_n hx hb dL_law_306 rfl (lv_at hl 5 rfl) ?_
    refine lv_iload hx hb dL_law_307 (lv_at hl 1 rfl) ?_
    refine lv_iconst (v := 4) hx hb dL_law_309 (by decide) ?_
    refine lv_iadd hx hb dL_law_310 ?_
    refine va_sld hx hb hX hbl hbA hS v4 dL_law_311 ?_
    refine va_calli (va_runV (As := [.int (xs (x4 + 1).toNatClampNeg), .int (xs (x4 + 2).toNatClampNeg), .int 1, .int (xs (x4 + 4).toNatClampNeg)]) (rest := []) ⟨hx, hb, hml, hown, hts⟩ (c_X10_consent l dC dI q2 k2 sm (xs (x4 + 1).toNatClampNeg) (xs (x4 + 2).toNatClampNeg) 1 (xs (x4 + 4).toNatClampNeg) hq2 hokM _ rfl) (cwV 4 hts gL_law_X10_consent rfl rfl rfl (by decide +kernel) ⟨Nat.le_of_ble_eq_true rfl, Nat.le_of_ble_eq_true rfl⟩) ⟨fb_M, va_recv hKM.1 hPM (ci := 10) (q0 := 0) rfl rfl, fun U hU hW => ⟨rfl, by rw [hU]; exact hPM, hKM.warm hW⟩⟩ rfl rfl hl.1 rfl (lv_room (Nat.le_of_ble_eq_true rfl)) dL_law_312 ⟨by show _ ≤ 1132; omega, by show _ ≤ 13853; omega⟩) hS (fun z _ h => hA2 z h) (fun z h => hA2 z h) (fun r7 u7 t7 H1 locs ht7 hv7 e7 hB7 hz7 hk7 hS => ?_)
    rw [ht7] at hB7
    have hPC := keepC hPC hk7 nMC
    have hPO := keepO hPO hk7 nMO
    have hPM : va_P (dC, dI) vwCl (wM q2 k2 ((sp_X10_consent sm (xs (x4 + 1).toNatClampNeg) (xs (x4 + 2).toNatClampNeg) 1 (xs (x4 + 4).toNatClampNeg)).2)) H1 := hB7
    subst e7
    generalize H1 = H at hPC hPO hPM hS ⊢
    have hr := hR.2.2.2.2.1 sc sm (xs (x4 + 1).toNatClampNeg) (xs (x4 + 2).toNatClampNeg) 1 (xs (x4 + 4).toNatClampNeg) (Or.inr rfl) hRel
    refine lv_istore (lv' := [(6, .int (sp_X10_consent sm (xs (x4 + 1).toNatClampNeg) (xs (x4 + 2).toNatClampNeg) 1 (xs (x4 + 4).toNatClampNeg)).1), (5, .int r9), (4, .int x4), (3, .ref o), (2, .ref (q2 0)), (1, .ref (q 0)), (0, .ref b)]) hx hb dL_law_315 hl (by decide) rfl (fun ls hl => ?_)
    refine lv_aload_n hx hb dL_law_317 rfl (lv_at hl 4 rfl) ?_
    refine vp_callSi (va_Run.run (va_runV (As := []) (rest := []) ⟨hx, hb, hml, hown, hts⟩ (c_X10_thrown l dC dI q2 k2 ((sp_X10_consent sm (xs (x4 + 1).toNatClampNeg) (xs (x4 + 2).toNatClampNeg) 1 (xs (x4 + 4).toNatClampNeg)).2) _ rfl) (cwV 0 hts gL_law_X10_thrown rfl rfl rfl (by decide +kernel) ⟨Nat.le_of_ble_eq_true rfl, Nat.le_of_ble_eq_true rfl⟩) ⟨fb_M, va_recv hKM.1 hPM (ci := 10) (q0 := 0) rfl rfl, fun U hU hW => ⟨rfl, by rw [hU]; exact hPM, hKM.warm hW⟩⟩ rfl rfl hl.1 rfl (lv_room (Nat.le_of_ble_eq_true rfl)) dL_law_318 ⟨by show _ ≤ 1132; omega, by show _ ≤ 13853; omega⟩)) (fun r8 e8 => ?_)
    subst e8
    refine lv_iload hx hb dL_law_321 (lv_at hl 1 rfl) ?_
    refine lv_icmp_eq (tgt := 328) hx hb dL_law_323 (by decide) (fun he9 => ?_) (fun he9 => absurd (hr.1.trans hc.symm : sp_X10_thrown _ = r9) he9)
    refine lv_iload hx hb dL_law_328 (lv_at hl 1 rfl) ?_
    refine lv_if_ne (tgt := 345) hx hb dL_law_330 (by decide) (fun hn9 => ?_) (fun hz8 => ?_)
    · have hn8 := hn9
      refine lv_goto (tgt := 1278) hx hb dL_law_345 (by decide) ?_
      exact kj _ _ _ _ _ ls hr.2.2 ⟨hPC, hPM, hPO, hS⟩ (lv_sub hl [2, 3, 4, 5, 6] rfl)
    · have hz7 := hz8
      refine lv_aload_n hx hb dL_law_333 rfl (lv_at hl 3 rfl) ?_
      refine lv_iconst (v := 0) hx hb dL_law_334 (by decide) ?_
      refine va_lald hx hb hKO hPO 0 0 (f := f) (n := 1) (cA := ko) rfl rfl (i := 0) (vp_in_iff.mpr (by decide)) dL_law_335 ?_
      refine lv_iload hx hb dL_law_336 (lv_at hl 0 rfl) ?_
      refine lv_i2l (v := ((sp_X10_consent sm (xs (x4 + 1).toNatClampNeg) (xs (x4 + 2).toNatClampNeg) 1 (xs (x4 + 4).toNatClampNeg)).1).toInt64) hx hb dL_law_338 rfl ?_
      refine W.lcmp hx hb dL_law_339 ?_
      refine lv_if_eq (tgt := 345) hx hb dL_law_340 (by decide) (fun he9 => ?_) (fun he9 => absurd ((hv (hc.symm.trans hz8)).trans (congrArg Int32.toInt64 (hr.2.1 (hc.symm.trans hz8)))) (lgc he9))
      refine lv_goto (tgt := 1278) hx hb dL_law_345 (by decide) ?_
      exact kj _ _ _ _ _ ls hr.2.2 ⟨hPC, hPM, hPO, hS⟩ (lv_sub hl [2, 3, 4, 5, 6] rfl)
set_option maxHeartbeats 8000000 in
set_option maxRecDepth 100000 in
theorem law_case_3 {p : Program} {l : Launch} {e : Env} {s : State} {m : MethodId} {below : List Frame} {meth : Method} {c : Code} {b L : Nat} {xs : Nat → Int32} {dC : Nat → ClassId} {dI : Nat → Nat → Nat} {q q2 : Nat → Nat} {k k2 : Nat → ClassId} {o : Nat} {ko : ClassId} {R : St → St → Prop} (hR : RefAll R) (C0 : LCx p l s m c b L xs dC dI q q2 k k2 o ko) (t : Nat) (ht : 5 * t + 5 ≤ L) (hL : L ≤ 2560) (x4 : Int32) (hx4 : x4.toInt = 5 * t) (sc sm : St) (f : Nat → Int64) (H : Heap) (locs : List Loc) (hRel : R sc sm) (hW0 : LSx s dC dI q q2 k k2 o ko sc sm f H locs) (ls : Array Slot) (hl : lv_has ls 8 [(4, .int x4), (3, .ref o), (2, .ref (q2 0)), (1, .ref (q 0)), (0, .ref b)])
    (kj : ∀ (sc sm : St) (f : Nat → Int64) (H : Heap) (locs : List Loc) (ls : Array Slot), R sc sm → LSx s dC dI q q2 k k2 o ko sc sm f H locs → lv_has ls 8 [(4, .int x4), (3, .ref o), (2, .ref (q2 0)), (1, .ref (q 0)), (0, .ref b)] → W p l e room_1 s m #[Value.ref b] below meth c H locs (79 + t + 1) (5487 + 6 * t + 6) (lw_Z below #[Value.ref b] s) (F0 m 1278 ls [])) :
    W p l e room_1 s m #[Value.ref b] below meth c H locs (79 + t) (5487 + 6 * t) (lw_Z below #[Value.ref b] s) (F0 m 348 ls []) := by
  obtain ⟨hx, hb, hml, hown, hts, hX, hbl, hst, hKC, hKM, hKO, hTH, hNC, hq, hq2, ho, ho2, hqq, hqb, hqb2, hob⟩ := C0
  obtain ⟨hPC, hPM, hPO, hS⟩ := hW0
  have hbA : ¬ (A0 s) b := Nat.not_le.mpr hbl
  have hokC := (hR.1 sc sm hRel).1
  have hokM := (hR.1 sc sm hRel).2
  have hA : ∀ z, aC q z → A0 s z := fun z ⟨j, hj, e9⟩ => by rw [e9]; exact hqb j hj
  have hA2 : ∀ z, aM q2 z → A0 s z := fun z ⟨j, hj, e9⟩ => by rw [e9]; exact hqb2 j hj
  have hAO : ∀ z, aO q o z → A0 s z := fun z h => h.elim (hA z) (fun h => by rw [h]; exact hob)
  have nCM : ∀ j, j < 35 → ¬ aC q (q2 j) := fun j hj ⟨i, hi, e9⟩ => hqq i j hi hj e9.symm
  have nOM : ∀ j, j < 35 → ¬ aO q o (q2 j) := fun j hj h => h.elim (nCM j hj) (fun h => ho2 j hj h)
  have nMC : ∀ j, j < 43 → ¬ aM q2 (q j) := fun j hj ⟨i, hi, e9⟩ => hqq j i hj hi e9
  have nMO : ¬ aM q2 o := fun ⟨i, hi, e9⟩ => ho2 i hi e9.symm
  have i1 := inc_ge x4 1 (by omega) (by decide)
  have i2 := inc_ge x4 2 (by omega) (by decide)
  have i3 := inc_ge x4 3 (by omega) (by decide)
  have i4 := inc_ge x4 4 (by omega) (by decide)
  have v1 : vp_in (x4 + 1) L := vp_in_iff.mpr (by rw [i1]; omega)
  have v2 : vp_in (x4 + 2) L := vp_in_iff.mpr (by rw [i2]; omega)
  have v3 : vp_in (x4 + 3) L := vp_in_iff.mpr (by rw [i3]; omega)
  have v4 : vp_in (x4 + 4) L := vp_in_iff.mpr (by rw [i4]; omega)
  refine lv_aload_n hx hb dL_law_348 rfl (lv_at hl 3 rfl) ?_
  refine lv_aload_n hx hb dL_law_349 rfl (lv_at hl 4 rfl) ?_
  refine lv_iload hx hb dL_law_350 (lv_at hl 0 rfl) ?_
  refine lv_iconst (v := 1) hx hb dL_law_352 (by decide) ?_
  refine lv_iadd hx hb dL_law_353 ?_
  refine va_sld hx hb hX hbl hbA hS v1 dL_law_354 ?_
  refine lv_aload_n hx hb dL_law_355 rfl (lv_at hl 4 rfl) ?_
  refine lv_iload hx hb dL_law_356 (lv_at hl 0 rfl) ?_
  refine lv_iconst (v := 2) hx hb dL_law_358 (by decide) ?_
  refine lv_iadd hx hb dL_law_359 ?_
  refine va_sld hx hb hX hbl hbA hS v2 dL_law_360 ?_
  refine lv_aload_n hx hb dL_law_361 rfl (lv_at hl 4 rfl) ?_
  refine lv_iload hx hb dL_law_362 (lv_at hl 0 rfl) ?_
  refine lv_iconst (v := 3) hx hb dL_law_364 (by decide) ?_
  refine lv_iadd hx hb dL_law_365 ?_
  refine va_sld hx hb hX hbl hbA hS v3 dL_law_366 ?_
  refine lv_aload_n hx hb dL_law_367 rfl (lv_at hl 4 rfl) ?_
  refine lv_iload hx hb dL_law_368 (lv_at hl 0 rfl) ?_
  refine lv_iconst (v := 4) hx hb dL_law_370 (by decide) ?_
  refine lv_iadd hx hb dL_law_371 ?_
  refine va_sld hx hb hX hbl hbA hS v4 dL_law_372 ?_
  refine lv_aload_n hx hb dL_law_373 rfl (lv_at hl 1 rfl) ?_
  refine va_calli (vx_runSW (As := [.ref (q 0), .int (xs (x4 + 1).toNatClampNeg), .int (xs (x4 + 2).toNatClampNeg), .int (xs (x4 + 3).toNatClampNeg), .int (xs (x4 + 4).toNatClampNeg), .ref o]) (rest := []) ⟨hx, hb, hml, hown, hts⟩ (c_L_contract l hst dC dI q k o ko f sc (xs (x4 + 1).toNatClampNeg) (xs (x4 + 2).toNatClampNeg) (xs (x4 + 3).toNatClampNeg) (xs (x4 + 4).toNatClampNeg) hq ho hokC _ rfl) (vx_cwSW 6 hts gL_law_L_contract rfl rfl rfl (by decide +kernel) ⟨Nat.le_of_ble_eq_true rfl, Nat.le_of_ble_eq_true rfl⟩) ⟨fb_L, fun U hU hW => ⟨rfl, by rw [hU]; exact hPC, by rw [hU]; exact hPO, hKC.warm hW, va_K.moved hW.alike hKO, by rw [hU]; exact ((hTH.kept hS.2.1).narrow hAO).warm hW, hNC.moved hW.alike⟩⟩ rfl rfl hl.1 rfl (lv_room (Nat.le_of_ble_eq_true rfl)) dL_law_374 ⟨by show _ ≤ 1132; omega, by show _ ≤ 13853; omega⟩) hS (fun z _ h => hAO z h) (fun z h => hAO z h) (fun r9 f t9 H1 locs ht9 hv9 hp9 hB9 hz9 hk9 hS => ?_)
  rw [ht9] at hB9
  obtain ⟨hPC, hPO⟩ := hB9
  have hPM := keepM hPM hk9 nOM
  obtain ⟨hc, hv⟩ := hp9
  generalize H1 = H at hPC hPO hPM hS ⊢
  refine lv_istore (lv' := [(5, .int r9), (4, .int x4), (3, .ref o), (2, .ref (q2 0)), (1, .ref (q 0)), (0, .ref b)]) hx hb dL_law_377 hl (by decide) rfl (fun ls hl => ?_)
  refine lv_aload_n hx hb dL_law_379 rfl (lv_at hl 3 rfl) ?_
  refine lv_aload_n hx hb dL_law_380 rfl (lv_at hl 5 rfl) ?_
  refine lv_iload hx hb dL_law_381 (lv_at hl 1 rfl) ?_
  refine lv_iconst (v := 1) hx hb dL_law_383 (by decide) ?_
  refine lv_iadd hx hb dL_law_384 ?_
  refine va_sld hx hb hX hbl hbA hS v1 dL_law_385 ?_
  refine lv_aload_n hx hb dL_law_386 rfl (lv_at hl 5 rfl) ?_
  refine lv_iload hx hb dL_law_387 (lv_at hl 1 rfl) ?_
  refine lv_iconst (v := 2) hx hb dL_law_389 (by decide) ?_
  refine lv_iadd hx hb dL_law_390 ?_
  refine va_sld hx hb hX hbl hbA hS v2 dL_law_391 ?_
  refine lv_aload_n hx hb dL_law_392 rfl (lv_at hl 5 rfl) ?_
  refine lv_iload hx hb dL_law_393 (lv_at hl 1 rfl) ?_
  refine lv_iconst (v := 3) hx hb dL_law_395 (by decide) ?_
  refine lv_iadd hx hb dL_law_396 ?_
  refine va_sld hx hb hX hbl hbA hS v3 dL_law_397 ?_
  refine lv_aload_n hx hb dL_law_398 rfl (lv_at hl 5 rfl) ?_
  refine lv_iload hx hb dL_law_399 (lv_at hl 1 rfl) ?_
  refine lv_iconst (v := 4) hx hb dL_law_401 (by decide) ?_
  refine lv_iadd hx hb dL_law_402 ?_
  refine va_sld hx hb hX hbl hbA hS v4 dL_law_403 ?_
  refine va_calli (va_runV (As := [.int (xs (x4 + 1).toNatClampNeg), .int (xs (x4 + 2).toNatClampNeg), .int (xs (x4 + 3).toNatClampNeg), .int (xs (x4 + 4).toNatClampNeg)]) (rest := []) ⟨hx, hb, hml, hown, hts⟩ (c_X10_contract l dC dI q2 k2 sm (xs (x4 + 1).toNatClampNeg) (xs (x4 + 2).toNatClampNeg) (xs (x4 + 3).toNatClampNeg) (xs (x4 + 4).toNatClampNeg) hq2 hokM _ rfl) (cwV 4 hts gL_law_X10_contract rfl rfl rfl (by decide +kernel) ⟨Nat.le_of_ble_eq_true rfl, Nat.le_of_ble_eq_true rfl⟩) ⟨fb_M, va_recv hKM.1 hPM (ci := 10) (q0 := 0) rfl rfl, fun U hU hW => ⟨rfl, by rw [hU]; exact hPM, hKM.warm hW⟩⟩ rfl rfl hl.1 rfl (lv_room (Nat.le_of_ble_eq_true rfl)) dL_law_404 ⟨by show _ ≤ 1132; omega, by show _ ≤ 13853; omega⟩) hS (fun z _ h => hA2 z h) (fun z h => hA2 z h) (fun r7 u7 t7 H1 locs ht7 hv7 e7 hB7 hz7 hk7 hS => ?_)
  rw [ht7] at hB7
  have hPC := keepC hPC hk7 nMC
  have hPO := keepO hPO hk7 nMO
  have hPM : va_P (dC, dI) vwCl (wM q2 k2 ((sp_X10_contract sm (xs (x4 + 1).toNatClampNeg) (xs (x4 + 2).toNatClampNeg) (xs (x4 + 3).toNatClampNeg) (xs (x4 + 4).toNatClampNeg)).2)) H1 := hB7
  subst e7
  generalize H1 = H at hPC hPO hPM hS ⊢
  have hr := hR.2.2.2.2.2.1 sc sm (xs (x4 + 1).toNatClampNeg) (xs (x4 + 2).toNatClampNeg) (xs (x4 + 3).toNatClampNeg) (xs (x4 + 4).toNatClampNeg) hRel
  refine lv_istore (lv' := [(6, .int (sp_X10_contract sm (xs (x4 + 1).toNatClampNeg) (xs (x4 + 2).toNatClampNeg) (xs (x4 + 3).toNatClampNeg) (xs (x4 + 4).toNatClampNeg)).1), (5, .int r9), (4, .int x4), (3, .ref o), (2, .ref (q2 0)), (1, .ref (q 0)), (0, .ref b)]) hx hb dL_law_407 hl (by decide) rfl (fun ls hl => ?_)
  refine lv_aload_n hx hb dL_law_409 rfl (lv_at hl 4 rfl) ?_
  refine vp_callSi (va_Run.run (va_runV (As := []) (rest := []) ⟨hx, hb, hml, hown, hts⟩ (c_X10_thrown l dC dI q2 k2 ((sp_X10_contract sm (xs (x4 + 1).toNatClampNeg) (xs (x4 + 2).toNatClampNeg) (xs (x4 + 3).toNatClampNeg) (xs (x4 + 4).toNatClampNeg)).2) _ rfl) (cwV 0 hts gL_law_X10_thrown rfl rfl rfl (by decide +kernel) ⟨Nat.le_of_ble_eq_true rfl, Nat.le_of_ble_eq_true rfl⟩) ⟨fb_M, va_recv hKM.1 hPM (ci := 10) (q0 := 0) rfl rfl, fun U hU hW => ⟨rfl, by rw [hU]; exact hPM, hKM.warm hW⟩⟩ rfl rfl hl.1 rfl (lv_room (Nat.le_of_ble_eq_true rfl)) dL_law_410 ⟨by show _ ≤ 1132; omega, by show _ ≤ 13853; omega⟩)) (fun r8 e8 => ?_)
  subst e8
  refine lv_iload hx hb dL_law_413 (lv_at hl 1 rfl) ?_
  refine lv_icmp_eq (tgt := 420) hx hb dL_law_415 (by decide) (fun he9 => ?_) (fun he9 => absurd (hr.1.trans hc.symm : sp_X10_thrown _ = r9) he9)
  refine lv_iload hx hb dL_law_420 (lv_at hl 1 rfl) ?_
  refine lv_if_ne (tgt := 437) hx hb dL_law_422 (by decide) (fun hn9 => ?_) (fun hz8 => ?_)
  · have hn8 := hn9
    refine lv_goto (tgt := 1278) hx hb dL_law_437 (by decide) ?_
    exact kj _ _ _ _ _ ls hr.2.2 ⟨hPC, hPM, hPO, hS⟩ (lv_sub hl [2, 3, 4, 5, 6] rfl)
  · have hz7 := hz8
    refine lv_aload_n hx hb dL_law_425 rfl (lv_at hl 3 rfl) ?_
    refine lv_iconst (v := 0) hx hb dL_law_426 (by decide) ?_
    refine va_lald hx hb hKO hPO 0 0 (f := f) (n := 1) (cA := ko) rfl rfl (i := 0) (vp_in_iff.mpr (by decide)) dL_law_427 ?_
    refine lv_iload hx hb dL_law_428 (lv_at hl 0 rfl) ?_
    refine lv_i2l (v := ((sp_X10_contract sm (xs (x4 + 1).toNatClampNeg) (xs (x4 + 2).toNatClampNeg) (xs (x4 + 3).toNatClampNeg) (xs (x4 + 4).toNatClampNeg)).1).toInt64) hx hb dL_law_430 rfl ?_
    refine W.lcmp hx hb dL_law_431 ?_
    refine lv_if_eq (tgt := 437) hx hb dL_law_432 (by decide) (fun he9 => ?_) (fun he9 => absurd ((hv (hc.symm.trans hz8)).trans (congrArg Int32.toInt64 (hr.2.1 (hc.symm.trans hz8)))) (lgc he9))
    refine lv_goto (tgt := 1278) hx hb dL_law_437 (by decide) ?_
    exact kj _ _ _ _ _ ls hr.2.2 ⟨hPC, hPM, hPO, hS⟩ (lv_sub hl [2, 3, 4, 5, 6] rfl)
set_option maxHeartbeats 8000000 in
set_option maxRecDepth 100000 in
theorem law_case_4 {p : Program} {l : Launch} {e : Env} {s : State} {m : MethodId} {below : List Frame} {meth : Method} {c : Code} {b L : Nat} {xs : Nat → Int32} {dC : Nat → ClassId} {dI : Nat → Nat → Nat} {q q2 : Nat → Nat} {k k2 : Nat → ClassId} {o : Nat} {ko : ClassId} {R : St → St → Prop} (hR : RefAll R) (C0 : LCx p l s m c b L xs dC dI q q2 k k2 o ko) (t : Nat) (ht : 5 * t + 5 ≤ L) (hL : L ≤ 2560) (x4 : Int32) (hx4 : x4.toInt = 5 * t) (sc sm : St) (f : Nat → Int64) (H : Heap) (locs : List Loc) (hRel : R sc sm) (hW0 : LSx s dC dI q q2 k k2 o ko sc sm f H locs) (ls : Array Slot) (hl : lv_has ls 8 [(4, .int x4), (3, .ref o), (2, .ref (q2 0)), (1, .ref (q 0)), (0, .ref b)])
    (kj : ∀ (sc sm : St) (f : Nat → Int64) (H : Heap) (locs : List Loc) (ls : Array Slot), R sc sm → LSx s dC dI q q2 k k2 o ko sc sm f H locs → lv_has ls 8 [(4, .int x4), (3, .ref o), (2, .ref (q2 0)), (1, .ref (q 0)), (0, .ref b)] → W p l e room_1 s m #[Value.ref b] below meth c H locs (79 + t + 1) (5487 + 6 * t + 6) (lw_Z below #[Value.ref b] s) (F0 m 1278 ls [])) :
    W p l e room_1 s m #[Value.ref b] below meth c H locs (79 + t) (5487 + 6 * t) (lw_Z below #[Value.ref b] s) (F0 m 440 ls []) := by
  obtain ⟨hx, hb, hml, hown, hts, hX, hbl, hst, hKC, hKM, hKO, hTH, hNC, hq, hq2, ho, ho2, hqq, hqb, hqb2, hob⟩ := C0
  obtain ⟨hPC, hPM, hPO, hS⟩ := hW0
  have hbA : ¬ (A0 s) b := Nat.not_le.mpr hbl
  have hokC := (hR.1 sc sm hRel).1
  have hokM := (hR.1 sc sm hRel).2
  have hA : ∀ z, aC q z → A0 s z := fun z ⟨j, hj, e9⟩ => by rw [e9]; exact hqb j hj
  have hA2 : ∀ z, aM q2 z → A0 s z := fun z ⟨j, hj, e9⟩ => by rw [e9]; exact hqb2 j hj
  have hAO : ∀ z, aO q o z → A0 s z := fun z h => h.elim (hA z) (fun h => by rw [h]; exact hob)
  have nCM : ∀ j, j < 35 → ¬ aC q (q2 j) := fun j hj ⟨i, hi, e9⟩ => hqq i j hi hj e9.symm
  have nOM : ∀ j, j < 35 → ¬ aO q o (q2 j) := fun j hj h => h.elim (nCM j hj) (fun h => ho2 j hj h)
  have nMC : ∀ j, j < 43 → ¬ aM q2 (q j) := fun j hj ⟨i, hi, e9⟩ => hqq j i hj hi e9
  have nMO : ¬ aM q2 o := fun ⟨i, hi, e9⟩ => ho2 i hi e9.symm
  have i1 := inc_ge x4 1 (by omega) (by decide)
  have i2 := inc_ge x4 2 (by omega) (by decide)
  have i3 := inc_ge x4 3 (by omega) (by decide)
  have i4 := inc_ge x4 4 (by omega) (by decide)
  have v1 : vp_in (x4 + 1) L := vp_in_iff.mpr (by rw [i1]; omega)
  have v2 : vp_in (x4 + 2) L := vp_in_iff.mpr (by rw [i2]; omega)
  have v3 : vp_in (x4 + 3) L := vp_in_iff.mpr (by rw [i3]; omega)
  have v4 : vp_in (x4 + 4) L := vp_in_iff.mpr (by rw [i4]; omega)
  refine lv_aload_n hx hb dL_law_440 rfl (lv_at hl 3 rfl) ?_
  refine lv_aload_n hx hb dL_law_441 rfl (lv_at hl 4 rfl) ?_
  refine lv_iload hx hb dL_law_442 (lv_at hl 0 rfl) ?_
  refine lv_iconst (v := 1) hx hb dL_law_444 (by decide) ?_
  refine lv_iadd hx hb dL_law_445 ?_
  refine va_sld hx hb hX hbl hbA hS v1 dL_law_446 ?_
  refine lv_aload_n hx hb dL_law_447 rfl (lv_at hl 4 rfl) ?_
  refine lv_iload hx hb dL_law_448 (lv_at hl 0 rfl) ?_
  refine lv_iconst (v := 2) hx hb dL_law_450 (by decide) ?_
  refine lv_iadd hx hb dL_law_451 ?_
  refine va_sld hx hb hX hbl hbA hS v2 dL_law_452 ?_
  refine lv_aload_n hx hb dL_law_453 rfl (lv_at hl 4 rfl) ?_
  refine lv_iload hx hb dL_law_454 (lv_at hl 0 rfl) ?_
  refine lv_iconst (v := 3) hx hb dL_law_456 (by decide) ?_
  refine lv_iadd hx hb dL_law_457 ?_
  refine va_sld hx hb hX hbl hbA hS v3 dL_law_458 ?_
  refine lv_aload_n hx hb dL_law_459 rfl (lv_at hl 1 rfl) ?_
  refine va_calli (vx_runSW (As := [.ref (q 0), .int (xs (x4 + 1).toNatClampNeg), .int (xs (x4 + 2).toNatClampNeg), .int (xs (x4 + 3).toNatClampNeg), .ref o]) (rest := []) ⟨hx, hb, hml, hown, hts⟩ (c_L_duty l hst dC dI q k o ko f sc (xs (x4 + 1).toNatClampNeg) (xs (x4 + 2).toNatClampNeg) (xs (x4 + 3).toNatClampNeg) hq ho hokC _ rfl) (vx_cwSW 5 hts gL_law_L_duty rfl rfl rfl (by decide +kernel) ⟨Nat.le_of_ble_eq_true rfl, Nat.le_of_ble_eq_true rfl⟩) ⟨fb_L, fun U hU hW => ⟨rfl, by rw [hU]; exact hPC, by rw [hU]; exact hPO, hKC.warm hW, va_K.moved hW.alike hKO, by rw [hU]; exact ((hTH.kept hS.2.1).narrow hAO).warm hW, hNC.moved hW.alike⟩⟩ rfl rfl hl.1 rfl (lv_room (Nat.le_of_ble_eq_true rfl)) dL_law_460 ⟨by show _ ≤ 1132; omega, by show _ ≤ 13853; omega⟩) hS (fun z _ h => hAO z h) (fun z h => hAO z h) (fun r9 f t9 H1 locs ht9 hv9 hp9 hB9 hz9 hk9 hS => ?_)
  rw [ht9] at hB9
  obtain ⟨hPC, hPO⟩ := hB9
  have hPM := keepM hPM hk9 nOM
  obtain ⟨hc, hv⟩ := hp9
  generalize H1 = H at hPC hPO hPM hS ⊢
  refine lv_istore (lv' := [(5, .int r9), (4, .int x4), (3, .ref o), (2, .ref (q2 0)), (1, .ref (q 0)), (0, .ref b)]) hx hb dL_law_463 hl (by decide) rfl (fun ls hl => ?_)
  refine lv_aload_n hx hb dL_law_465 rfl (lv_at hl 3 rfl) ?_
  refine lv_aload_n hx hb dL_law_466 rfl (lv_at hl 5 rfl) ?_
  refine lv_iload hx hb dL_law_467 (lv_at hl 1 rfl) ?_
  refine lv_iconst (v := 1) hx hb dL_law_469 (by decide) ?_
  refine lv_iadd hx hb dL_law_470 ?_
  refine va_sld hx hb hX hbl hbA hS v1 dL_law_471 ?_
  refine lv_aload_n hx hb dL_law_472 rfl (lv_at hl 5 rfl) ?_
  refine lv_iload hx hb dL_law_473 (lv_at hl 1 rfl) ?_
  refine lv_iconst (v := 2) hx hb dL_law_475 (by decide) ?_
  refine lv_iadd hx hb dL_law_476 ?_
  refine va_sld hx hb hX hbl hbA hS v2 dL_law_477 ?_
  refine lv_aload_n hx hb dL_law_478 rfl (lv_at hl 5 rfl) ?_
  refine lv_iload hx hb dL_law_479 (lv_at hl 1 rfl) ?_
  refine lv_iconst (v := 3) hx hb dL_law_481 (by decide) ?_
  refine lv_iadd hx hb dL_law_482 ?_
  refine va_sld hx hb hX hbl hbA hS v3 dL_law_483 ?_
  refine va_calli (va_runV (As := [.int (xs (x4 + 1).toNatClampNeg), .int (xs (x4 + 2).toNatClampNeg), .int (xs (x4 + 3).toNatClampNeg)]) (rest := []) ⟨hx, hb, hml, hown, hts⟩ (c_X10_duty l dC dI q2 k2 sm (xs (x4 + 1).toNatClampNeg) (xs (x4 + 2).toNatClampNeg) (xs (x4 + 3).toNatClampNeg) hq2 hokM _ rfl) (cwV 3 hts gL_law_X10_duty rfl rfl rfl (by decide +kernel) ⟨Nat.le_of_ble_eq_true rfl, Nat.le_of_ble_eq_true rfl⟩) ⟨fb_M, va_recv hKM.1 hPM (ci := 10) (q0 := 0) rfl rfl, fun U hU hW => ⟨rfl, by rw [hU]; exact hPM, hKM.warm hW⟩⟩ rfl rfl hl.1 rfl (lv_room (Nat.le_of_ble_eq_true rfl)) dL_law_484 ⟨by show _ ≤ 1132; omega, by show _ ≤ 13853; omega⟩) hS (fun z _ h => hA2 z h) (fun z h => hA2 z h) (fun r7 u7 t7 H1 locs ht7 hv7 e7 hB7 hz7 hk7 hS => ?_)
  rw [ht7] at hB7
  have hPC := keepC hPC hk7 nMC
  have hPO := keepO hPO hk7 nMO
  have hPM : va_P (dC, dI) vwCl (wM q2 k2 ((sp_X10_duty sm (xs (x4 + 1).toNatClampNeg) (xs (x4 + 2).toNatClampNeg) (xs (x4 + 3).toNatClampNeg)).2)) H1 := hB7
  subst e7
  generalize H1 = H at hPC hPO hPM hS ⊢
  have hr := hR.2.2.2.2.2.2.1 sc sm (xs (x4 + 1).toNatClampNeg) (xs (x4 + 2).toNatClampNeg) (xs (x4 + 3).toNatClampNeg) hRel
  refine lv_istore (lv' := [(6, .int (sp_X10_duty sm (xs (x4 + 1).toNatClampNeg) (xs (x4 + 2).toNatClampNeg) (xs (x4 + 3).toNatClampNeg)).1), (5, .int r9), (4, .int x4), (3, .ref o), (2, .ref (q2 0)), (1, .ref (q 0)), (0, .ref b)]) hx hb dL_law_487 hl (by decide) rfl (fun ls hl => ?_)
  refine lv_aload_n hx hb dL_law_489 rfl (lv_at hl 4 rfl) ?_
  refine vp_callSi (va_Run.run (va_runV (As := []) (rest := []) ⟨hx, hb, hml, hown, hts⟩ (c_X10_thrown l dC dI q2 k2 ((sp_X10_duty sm (xs (x4 + 1).toNatClampNeg) (xs (x4 + 2).toNatClampNeg) (xs (x4 + 3).toNatClampNeg)).2) _ rfl) (cwV 0 hts gL_law_X10_thrown rfl rfl rfl (by decide +kernel) ⟨Nat.le_of_ble_eq_true rfl, Nat.le_of_ble_eq_true rfl⟩) ⟨fb_M, va_recv hKM.1 hPM (ci := 10) (q0 := 0) rfl rfl, fun U hU hW => ⟨rfl, by rw [hU]; exact hPM, hKM.warm hW⟩⟩ rfl rfl hl.1 rfl (lv_room (Nat.le_of_ble_eq_true rfl)) dL_law_490 ⟨by show _ ≤ 1132; omega, by show _ ≤ 13853; omega⟩)) (fun r8 e8 => ?_)
  subst e8
  refine lv_iload hx hb dL_law_493 (lv_at hl 1 rfl) ?_
  refine lv_icmp_eq (tgt := 500) hx hb dL_law_495 (by decide) (fun he9 => ?_) (fun he9 => absurd (hr.1.trans hc.symm : sp_X10_thrown _ = r9) he9)
  refine lv_iload hx hb dL_law_500 (lv_at hl 1 rfl) ?_
  refine lv_if_ne (tgt := 517) hx hb dL_law_502 (by decide) (fun hn9 => ?_) (fun hz8 => ?_)
  · have hn8 := hn9
    refine lv_goto (tgt := 1278) hx hb dL_law_517 (by decide) ?_
    exact kj _ _ _ _ _ ls hr.2.2 ⟨hPC, hPM, hPO, hS⟩ (lv_sub hl [2, 3, 4, 5, 6] rfl)
  · have hz7 := hz8
    refine lv_aload_n hx hb dL_law_505 rfl (lv_at hl 3 rfl) ?_
    refine lv_iconst (v := 0) hx hb dL_law_506 (by decide) ?_
    refine va_lald hx hb hKO hPO 0 0 (f := f) (n := 1) (cA := ko) rfl rfl (i := 0) (vp_in_iff.mpr (by decide)) dL_law_507 ?_
    refine lv_iload hx hb dL_law_508 (lv_at hl 0 rfl) ?_
    refine lv_i2l (v := ((sp_X10_duty sm (xs (x4 + 1).toNatClampNeg) (xs (x4 + 2).toNatClampNeg) (xs (x4 + 3).toNatClampNeg)).1).toInt64) hx hb dL_law_510 rfl ?_
    refine W.lcmp hx hb dL_law_511 ?_
    refine lv_if_eq (tgt := 517) hx hb dL_law_512 (by decide) (fun he9 => ?_) (fun he9 => absurd ((hv (hc.symm.trans hz8)).trans (congrArg Int32.toInt64 (hr.2.1 (hc.symm.trans hz8)))) (lgc he9))
    refine lv_goto (tgt := 1278) hx hb dL_law_517 (by decide) ?_
    exact kj _ _ _ _ _ ls hr.2.2 ⟨hPC, hPM, hPO, hS⟩ (lv_sub hl [2, 3, 4, 5, 6] rfl)
set_option maxHeartbeats 8000000 in
set_option maxRecDepth 100000 in
theorem law_case_5 {p : Program} {l : Launch} {e : Env} {s : State} {m : MethodId} {below : List Frame} {meth : Method} {c : Code} {b L : Nat} {xs : Nat → Int32} {dC : Nat → ClassId} {dI : Nat → Nat → Nat} {q q2 : Nat → Nat} {k k2 : Nat → ClassId} {o : Nat} {ko : ClassId} {R : St → St → Prop} (hR : RefAll R) (C0 : LCx p l s m c b L xs dC dI q q2 k k2 o ko) (t : Nat) (ht : 5 * t + 5 ≤ L) (hL : L ≤ 2560) (x4 : Int32) (hx4 : x4.toInt = 5 * t) (sc sm : St) (f : Nat → Int64) (H : Heap) (locs : List Loc) (hRel : R sc sm) (hW0 : LSx s dC dI q q2 k k2 o ko sc sm f H locs) (ls : Array Slot) (hl : lv_has ls 8 [(4, .int x4), (3, .ref o), (2, .ref (q2 0)), (1, .ref (q 0)), (0, .ref b)])
    (kj : ∀ (sc sm : St) (f : Nat → Int64) (H : Heap) (locs : List Loc) (ls : Array Slot), R sc sm → LSx s dC dI q q2 k k2 o ko sc sm f H locs → lv_has ls 8 [(4, .int x4), (3, .ref o), (2, .ref (q2 0)), (1, .ref (q 0)), (0, .ref b)] → W p l e room_1 s m #[Value.ref b] below meth c H locs (79 + t + 1) (5487 + 6 * t + 6) (lw_Z below #[Value.ref b] s) (F0 m 1278 ls [])) :
    W p l e room_1 s m #[Value.ref b] below meth c H locs (79 + t) (5487 + 6 * t) (lw_Z below #[Value.ref b] s) (F0 m 520 ls []) := by
  obtain ⟨hx, hb, hml, hown, hts, hX, hbl, hst, hKC, hKM, hKO, hTH, hNC, hq, hq2, ho, ho2, hqq, hqb, hqb2, hob⟩ := C0
  obtain ⟨hPC, hPM, hPO, hS⟩ := hW0
  have hbA : ¬ (A0 s) b := Nat.not_le.mpr hbl
  have hokC := (hR.1 sc sm hRel).1
  have hokM := (hR.1 sc sm hRel).2
  have hA : ∀ z, aC q z → A0 s z := fun z ⟨j, hj, e9⟩ => by rw [e9]; exact hqb j hj
  have hA2 : ∀ z, aM q2 z → A0 s z := fun z ⟨j, hj, e9⟩ => by rw [e9]; exact hqb2 j hj
  have hAO : ∀ z, aO q o z → A0 s z := fun z h => h.elim (hA z) (fun h => by rw [h]; exact hob)
  have nCM : ∀ j, j < 35 → ¬ aC q (q2 j) := fun j hj ⟨i, hi, e9⟩ => hqq i j hi hj e9.symm
  have nOM : ∀ j, j < 35 → ¬ aO q o (q2 j) := fun j hj h => h.elim (nCM j hj) (fun h => ho2 j hj h)
  have nMC : ∀ j, j < 43 → ¬ aM q2 (q j) := fun j hj ⟨i, hi, e9⟩ => hqq j i hj hi e9
  have nMO : ¬ aM q2 o := fun ⟨i, hi, e9⟩ => ho2 i hi e9.symm
  have i1 := inc_ge x4 1 (by omega) (by decide)
  have i2 := inc_ge x4 2 (by omega) (by decide)
  have i3 := inc_ge x4 3 (by omega) (by decide)
  have i4 := inc_ge x4 4 (by omega) (by decide)
  have v1 : vp_in (x4 + 1) L := vp_in_iff.mpr (by rw [i1]; omega)
  have v2 : vp_in (x4 + 2) L := vp_in_iff.mpr (by rw [i2]; omega)
  have v3 : vp_in (x4 + 3) L := vp_in_iff.mpr (by rw [i3]; omega)
  have v4 : vp_in (x4 + 4) L := vp_in_iff.mpr (by rw [i4]; omega)
  refine lv_aload_n hx hb dL_law_520 rfl (lv_at hl 3 rfl) ?_
  refine lv_aload_n hx hb dL_law_521 rfl (lv_at hl 4 rfl) ?_
  refine lv_iload hx hb dL_law_522 (lv_at hl 0 rfl) ?_
  refine lv_iconst (v := 1) hx hb dL_law_524 (by decide) ?_
  refine lv_iadd hx hb dL_law_525 ?_
  refine va_sld hx hb hX hbl hbA hS v1 dL_law_526 ?_
  refine lv_aload_n hx hb dL_law_527 rfl (lv_at hl 4 rfl) ?_
  refine lv_iload hx hb dL_law_528 (lv_at hl 0 rfl) ?_
  refine lv_iconst (v := 2) hx hb dL_law_530 (by decide) ?_
  refine lv_iadd hx hb dL_law_531 ?_
  refine va_sld hx hb hX hbl hbA hS v2 dL_law_532 ?_
  refine lv_aload_n hx hb dL_law_533 rfl (lv_at hl 4 rfl) ?_
  refine lv_iload hx hb dL_law_534 (lv_at hl 0 rfl) ?_
  refine lv_iconst (v := 3) hx hb dL_law_536 (by decide) ?_
  refine lv_iadd hx hb dL_law_537 ?_
  refine va_sld hx hb hX hbl hbA hS v3 dL_law_538 ?_
  refine lv_aload_n hx hb dL_law_539 rfl (lv_at hl 4 rfl) ?_
  refine lv_iload hx hb dL_law_540 (lv_at hl 0 rfl) ?_
  refine lv_iconst (v := 4) hx hb dL_law_542 (by decide) ?_
  refine lv_iadd hx hb dL_law_543 ?_
  refine va_sld hx hb hX hbl hbA hS v4 dL_law_544 ?_
  refine lv_aload_n hx hb dL_law_545 rfl (lv_at hl 1 rfl) ?_
  refine va_calli (vx_runSW (As := [.ref (q 0), .int (xs (x4 + 1).toNatClampNeg), .int (xs (x4 + 2).toNatClampNeg), .int (xs (x4 + 3).toNatClampNeg), .int (xs (x4 + 4).toNatClampNeg), .ref o]) (rest := []) ⟨hx, hb, hml, hown, hts⟩ (c_L_put l hst dC dI q k o ko f sc (xs (x4 + 1).toNatClampNeg) (xs (x4 + 2).toNatClampNeg) (xs (x4 + 3).toNatClampNeg) (xs (x4 + 4).toNatClampNeg) hq ho hokC _ rfl) (vx_cwSW 6 hts gL_law_L_put rfl rfl rfl (by decide +kernel) ⟨Nat.le_of_ble_eq_true rfl, Nat.le_of_ble_eq_true rfl⟩) ⟨fb_L, fun U hU hW => ⟨rfl, by rw [hU]; exact hPC, by rw [hU]; exact hPO, hKC.warm hW, va_K.moved hW.alike hKO, by rw [hU]; exact ((hTH.kept hS.2.1).narrow hAO).warm hW, hNC.moved hW.alike⟩⟩ rfl rfl hl.1 rfl (lv_room (Nat.le_of_ble_eq_true rfl)) dL_law_546 ⟨by show _ ≤ 1132; omega, by show _ ≤ 13853; omega⟩) hS (fun z _ h => hAO z h) (fun z h => hAO z h) (fun r9 f t9 H1 locs ht9 hv9 hp9 hB9 hz9 hk9 hS => ?_)
  rw [ht9] at hB9
  obtain ⟨hPC, hPO⟩ := hB9
  have hPM := keepM hPM hk9 nOM
  obtain ⟨hc, hv⟩ := hp9
  generalize H1 = H at hPC hPO hPM hS ⊢
  refine lv_istore (lv' := [(5, .int r9), (4, .int x4), (3, .ref o), (2, .ref (q2 0)), (1, .ref (q 0)), (0, .ref b)]) hx hb dL_law_549 hl (by decide) rfl (fun ls hl => ?_)
  refine lv_aload_n hx hb dL_law_551 rfl (lv_at hl 3 rfl) ?_
  refine lv_aload_n hx hb dL_law_552 rfl (lv_at hl 5 rfl) ?_
  refine lv_iload hx hb dL_law_553 (lv_at hl 1 rfl) ?_
  refine lv_iconst (v := 1) hx hb dL_law_555 (by decide) ?_
  refine lv_iadd hx hb dL_law_556 ?_
  refine va_sld hx hb hX hbl hbA hS v1 dL_law_557 ?_
  refine lv_aload_n hx hb dL_law_558 rfl (lv_at hl 5 rfl) ?_
  refine lv_iload hx hb dL_law_559 (lv_at hl 1 rfl) ?_
  refine lv_iconst (v := 2) hx hb dL_law_561 (by decide) ?_
  refine lv_iadd hx hb dL_law_562 ?_
  refine va_sld hx hb hX hbl hbA hS v2 dL_law_563 ?_
  refine lv_aload_n hx hb dL_law_564 rfl (lv_at hl 5 rfl) ?_
  refine lv_iload hx hb dL_law_565 (lv_at hl 1 rfl) ?_
  refine lv_iconst (v := 3) hx hb dL_law_567 (by decide) ?_
  refine lv_iadd hx hb dL_law_568 ?_
  refine va_sld hx hb hX hbl hbA hS v3 dL_law_569 ?_
  refine lv_aload_n hx hb dL_law_570 rfl (lv_at hl 5 rfl) ?_
  refine lv_iload hx hb dL_law_571 (lv_at hl 1 rfl) ?_
  refine lv_iconst (v := 4) hx hb dL_law_573 (by decide) ?_
  refine lv_iadd hx hb dL_law_574 ?_
  refine va_sld hx hb hX hbl hbA hS v4 dL_law_575 ?_
  refine va_calli (va_runV (As := [.int (xs (x4 + 1).toNatClampNeg), .int (xs (x4 + 2).toNatClampNeg), .int (xs (x4 + 3).toNatClampNeg), .int (xs (x4 + 4).toNatClampNeg)]) (rest := []) ⟨hx, hb, hml, hown, hts⟩ (c_X10_put l dC dI q2 k2 sm (xs (x4 + 1).toNatClampNeg) (xs (x4 + 2).toNatClampNeg) (xs (x4 + 3).toNatClampNeg) (xs (x4 + 4).toNatClampNeg) hq2 hokM _ rfl) (cwV 4 hts gL_law_X10_put rfl rfl rfl (by decide +kernel) ⟨Nat.le_of_ble_eq_true rfl, Nat.le_of_ble_eq_true rfl⟩) ⟨fb_M, va_recv hKM.1 hPM (ci := 10) (q0 := 0) rfl rfl, fun U hU hW => ⟨rfl, by rw [hU]; exact hPM, hKM.warm hW⟩⟩ rfl rfl hl.1 rfl (lv_room (Nat.le_of_ble_eq_true rfl)) dL_law_576 ⟨by show _ ≤ 1132; omega, by show _ ≤ 13853; omega⟩) hS (fun z _ h => hA2 z h) (fun z h => hA2 z h) (fun r7 u7 t7 H1 locs ht7 hv7 e7 hB7 hz7 hk7 hS => ?_)
  rw [ht7] at hB7
  have hPC := keepC hPC hk7 nMC
  have hPO := keepO hPO hk7 nMO
  have hPM : va_P (dC, dI) vwCl (wM q2 k2 ((sp_X10_put sm (xs (x4 + 1).toNatClampNeg) (xs (x4 + 2).toNatClampNeg) (xs (x4 + 3).toNatClampNeg) (xs (x4 + 4).toNatClampNeg)).2)) H1 := hB7
  subst e7
  generalize H1 = H at hPC hPO hPM hS ⊢
  have hr := hR.2.2.2.2.2.2.2.1 sc sm (xs (x4 + 1).toNatClampNeg) (xs (x4 + 2).toNatClampNeg) (xs (x4 + 3).toNatClampNeg) (xs (x4 + 4).toNatClampNeg) hRel
  refine lv_istore (lv' := [(6, .int (sp_X10_put sm (xs (x4 + 1).toNatClampNeg) (xs (x4 + 2).toNatClampNeg) (xs (x4 + 3).toNatClampNeg) (xs (x4 + 4).toNatClampNeg)).1), (5, .int r9), (4, .int x4), (3, .ref o), (2, .ref (q2 0)), (1, .ref (q 0)), (0, .ref b)]) hx hb dL_law_579 hl (by decide) rfl (fun ls hl => ?_)
  refine lv_aload_n hx hb dL_law_581 rfl (lv_at hl 4 rfl) ?_
  refine vp_callSi (va_Run.run (va_runV (As := []) (rest := []) ⟨hx, hb, hml, hown, hts⟩ (c_X10_thrown l dC dI q2 k2 ((sp_X10_put sm (xs (x4 + 1).toNatClampNeg) (xs (x4 + 2).toNatClampNeg) (xs (x4 + 3).toNatClampNeg) (xs (x4 + 4).toNatClampNeg)).2) _ rfl) (cwV 0 hts gL_law_X10_thrown rfl rfl rfl (by decide +kernel) ⟨Nat.le_of_ble_eq_true rfl, Nat.le_of_ble_eq_true rfl⟩) ⟨fb_M, va_recv hKM.1 hPM (ci := 10) (q0 := 0) rfl rfl, fun U hU hW => ⟨rfl, by rw [hU]; exact hPM, hKM.warm hW⟩⟩ rfl rfl hl.1 rfl (lv_room (Nat.le_of_ble_eq_true rfl)) dL_law_582 ⟨by show _ ≤ 1132; omega, by show _ ≤ 13853; omega⟩)) (fun r8 e8 => ?_)
  subst e8
  refine lv_iload hx hb dL_law_585 (lv_at hl 1 rfl) ?_
  refine lv_icmp_eq (tgt := 592) hx hb dL_law_587 (by decide) (fun he9 => ?_) (fun he9 => absurd (hr.1.trans hc.symm : sp_X10_thrown _ = r9) he9)
  refine lv_iload hx hb dL_law_592 (lv_at hl 1 rfl) ?_
  refine lv_if_ne (tgt := 609) hx hb dL_law_594 (by decide) (fun hn9 => ?_) (fun hz8 => ?_)
  · have hn8 := hn9
    refine lv_goto (tgt := 1278) hx hb dL_law_609 (by decide) ?_
    exact kj _ _ _ _ _ ls hr.2.2 ⟨hPC, hPM, hPO, hS⟩ (lv_sub hl [2, 3, 4, 5, 6] rfl)
  · have hz7 := hz8
    refine lv_aload_n hx hb dL_law_597 rfl (lv_at hl 3 rfl) ?_
    refine lv_iconst (v := 0) hx hb dL_law_598 (by decide) ?_
    refine va_lald hx hb hKO hPO 0 0 (f := f) (n := 1) (cA := ko) rfl rfl (i := 0) (vp_in_iff.mpr (by decide)) dL_law_599 ?_
    refine lv_iload hx hb dL_law_600 (lv_at hl 0 rfl) ?_
    refine lv_i2l (v := ((sp_X10_put sm (xs (x4 + 1).toNatClampNeg) (xs (x4 + 2).toNatClampNeg) (xs (x4 + 3).toNatClampNeg) (xs (x4 + 4).toNatClampNeg)).1).toInt64) hx hb dL_law_602 rfl ?_
    refine W.lcmp hx hb dL_law_603 ?_
    refine lv_if_eq (tgt := 609) hx hb dL_law_604 (by decide) (fun he9 => ?_) (fun he9 => absurd ((hv (hc.symm.trans hz8)).trans (congrArg Int32.toInt64 (hr.2.1 (hc.symm.trans hz8)))) (lgc he9))
    refine lv_goto (tgt := 1278) hx hb dL_law_609 (by decide) ?_
    exact kj _ _ _ _ _ ls hr.2.2 ⟨hPC, hPM, hPO, hS⟩ (lv_sub hl [2, 3, 4, 5, 6] rfl)
set_option maxHeartbeats 8000000 in
set_option maxRecDepth 100000 in
theorem law_case_6 {p : Program} {l : Launch} {e : Env} {s : State} {m : MethodId} {below : List Frame} {meth : Method} {c : Code} {b L : Nat} {xs : Nat → Int32} {dC : Nat → ClassId} {dI : Nat → Nat → Nat} {q q2 : Nat → Nat} {k k2 : Nat → ClassId} {o : Nat} {ko : ClassId} {R : St → St → Prop} (hR : RefAll R) (C0 : LCx p l s m c b L xs dC dI q q2 k k2 o ko) (t : Nat) (ht : 5 * t + 5 ≤ L) (hL : L ≤ 2560) (x4 : Int32) (hx4 : x4.toInt = 5 * t) (sc sm : St) (f : Nat → Int64) (H : Heap) (locs : List Loc) (hRel : R sc sm) (hW0 : LSx s dC dI q q2 k k2 o ko sc sm f H locs) (ls : Array Slot) (hl : lv_has ls 8 [(4, .int x4), (3, .ref o), (2, .ref (q2 0)), (1, .ref (q 0)), (0, .ref b)])
    (kj : ∀ (sc sm : St) (f : Nat → Int64) (H : Heap) (locs : List Loc) (ls : Array Slot), R sc sm → LSx s dC dI q q2 k k2 o ko sc sm f H locs → lv_has ls 8 [(4, .int x4), (3, .ref o), (2, .ref (q2 0)), (1, .ref (q 0)), (0, .ref b)] → W p l e room_1 s m #[Value.ref b] below meth c H locs (79 + t + 1) (5487 + 6 * t + 6) (lw_Z below #[Value.ref b] s) (F0 m 1278 ls [])) :
    W p l e room_1 s m #[Value.ref b] below meth c H locs (79 + t) (5487 + 6 * t) (lw_Z below #[Value.ref b] s) (F0 m 612 ls []) := by
  obtain ⟨hx, hb, hml, hown, hts, hX, hbl, hst, hKC, hKM, hKO, hTH, hNC, hq, hq2, ho, ho2, hqq, hqb, hqb2, hob⟩ := C0
  obtain ⟨hPC, hPM, hPO, hS⟩ := hW0
  have hbA : ¬ (A0 s) b := Nat.not_le.mpr hbl
  have hokC := (hR.1 sc sm hRel).1
  have hokM := (hR.1 sc sm hRel).2
  have hA : ∀ z, aC q z → A0 s z := fun z ⟨j, hj, e9⟩ => by rw [e9]; exact hqb j hj
  have hA2 : ∀ z, aM q2 z → A0 s z := fun z ⟨j, hj, e9⟩ => by rw [e9]; exact hqb2 j hj
  have hAO : ∀ z, aO q o z → A0 s z := fun z h => h.elim (hA z) (fun h => by rw [h]; exact hob)
  have nCM : ∀ j, j < 35 → ¬ aC q (q2 j) := fun j hj ⟨i, hi, e9⟩ => hqq i j hi hj e9.symm
  have nOM : ∀ j, j < 35 → ¬ aO q o (q2 j) := fun j hj h => h.elim (nCM j hj) (fun h => ho2 j hj h)
  have nMC : ∀ j, j < 43 → ¬ aM q2 (q j) := fun j hj ⟨i, hi, e9⟩ => hqq j i hj hi e9
  have nMO : ¬ aM q2 o := fun ⟨i, hi, e9⟩ => ho2 i hi e9.symm
  have i1 := inc_ge x4 1 (by omega) (by decide)
  have i2 := inc_ge x4 2 (by omega) (by decide)
  have i3 := inc_ge x4 3 (by omega) (by decide)
  have i4 := inc_ge x4 4 (by omega) (by decide)
  have v1 : vp_in (x4 + 1) L := vp_in_iff.mpr (by rw [i1]; omega)
  have v2 : vp_in (x4 + 2) L := vp_in_iff.mpr (by rw [i2]; omega)
  have v3 : vp_in (x4 + 3) L := vp_in_iff.mpr (by rw [i3]; omega)
  have v4 : vp_in (x4 + 4) L := vp_in_iff.mpr (by rw [i4]; omega)
  refine lv_aload_n hx hb dL_law_612 rfl (lv_at hl 3 rfl) ?_
  refine lv_aload_n hx hb dL_law_613 rfl (lv_at hl 4 rfl) ?_
  refine lv_iload hx hb dL_law_614 (lv_at hl 0 rfl) ?_
  refine lv_iconst (v := 1) hx hb dL_law_616 (by decide) ?_
  refine lv_iadd hx hb dL_law_617 ?_
  refine va_sld hx hb hX hbl hbA hS v1 dL_law_618 ?_
  refine lv_aload_n hx hb dL_law_619 rfl (lv_at hl 4 rfl) ?_
  refine lv_iload hx hb dL_law_620 (lv_at hl 0 rfl) ?_
  refine lv_iconst (v := 2) hx hb dL_law_622 (by decide) ?_
  refine lv_iadd hx hb dL_law_623 ?_
  refine va_sld hx hb hX hbl hbA hS v2 dL_law_624 ?_
  refine lv_aload_n hx hb dL_law_625 rfl (lv_at hl 4 rfl) ?_
  refine lv_iload hx hb dL_law_626 (lv_at hl 0 rfl) ?_
  refine lv_iconst (v := 3) hx hb dL_law_628 (by decide) ?_
  refine lv_iadd hx hb dL_law_629 ?_
  refine va_sld hx hb hX hbl hbA hS v3 dL_law_630 ?_
  refine lv_aload_n hx hb dL_law_631 rfl (lv_at hl 1 rfl) ?_
  refine va_calli (vx_runSW (As := [.ref (q 0), .int (xs (x4 + 1).toNatClampNeg), .int (xs (x4 + 2).toNatClampNeg), .int (xs (x4 + 3).toNatClampNeg), .ref o]) (rest := []) ⟨hx, hb, hml, hown, hts⟩ (c_L_derive l hst dC dI q k o ko f sc (xs (x4 + 1).toNatClampNeg) (xs (x4 + 2).toNatClampNeg) (xs (x4 + 3).toNatClampNeg) hq ho hokC _ rfl) (vx_cwSW 5 hts gL_law_L_derive rfl rfl rfl (by decide +kernel) ⟨Nat.le_of_ble_eq_true rfl, Nat.le_of_ble_eq_true rfl⟩) ⟨fb_L, fun U hU hW => ⟨rfl, by rw [hU]; exact hPC, by rw [hU]; exact hPO, hKC.warm hW, va_K.moved hW.alike hKO, by rw [hU]; exact ((hTH.kept hS.2.1).narrow hAO).warm hW, hNC.moved hW.alike⟩⟩ rfl rfl hl.1 rfl (lv_room (Nat.le_of_ble_eq_true rfl)) dL_law_632 ⟨by show _ ≤ 1132; omega, by show _ ≤ 13853; omega⟩) hS (fun z _ h => hAO z h) (fun z h => hAO z h) (fun r9 f t9 H1 locs ht9 hv9 hp9 hB9 hz9 hk9 hS => ?_)
  rw [ht9] at hB9
  obtain ⟨hPC, hPO⟩ := hB9
  have hPM := keepM hPM hk9 nOM
  obtain ⟨hc, hv⟩ := hp9
  generalize H1 = H at hPC hPO hPM hS ⊢
  refine lv_istore (lv' := [(5, .int r9), (4, .int x4), (3, .ref o), (2, .ref (q2 0)), (1, .ref (q 0)), (0, .ref b)]) hx hb dL_law_635 hl (by decide) rfl (fun ls hl => ?_)
  refine lv_aload_n hx hb dL_law_637 rfl (lv_at hl 3 rfl) ?_
  refine lv_aload_n hx hb dL_law_638 rfl (lv_at hl 5 rfl) ?_
  refine lv_iload hx hb dL_law_639 (lv_at hl 1 rfl) ?_
  refine lv_iconst (v := 1) hx hb dL_law_641 (by decide) ?_
  refine lv_iadd hx hb dL_law_642 ?_
  refine va_sld hx hb hX hbl hbA hS v1 dL_law_643 ?_
  refine lv_aload_n hx hb dL_law_644 rfl (lv_at hl 5 rfl) ?_
  refine lv_iload hx hb dL_law_645 (lv_at hl 1 rfl) ?_
  refine lv_iconst (v := 2) hx hb dL_law_647 (by decide) ?_
  refine lv_iadd hx hb dL_law_648 ?_
  refine va_sld hx hb hX hbl hbA hS v2 dL_law_649 ?_
  refine lv_aload_n hx hb dL_law_650 rfl (lv_at hl 5 rfl) ?_
  refine lv_iload hx hb dL_law_651 (lv_at hl 1 rfl) ?_
  refine lv_iconst (v := 3) hx hb dL_law_653 (by decide) ?_
  refine lv_iadd hx hb dL_law_654 ?_
  refine va_sld hx hb hX hbl hbA hS v3 dL_law_655 ?_
  refine va_calli (va_runV (As := [.int (xs (x4 + 1).toNatClampNeg), .int (xs (x4 + 2).toNatClampNeg), .int (xs (x4 + 3).toNatClampNeg)]) (rest := []) ⟨hx, hb, hml, hown, hts⟩ (c_X10_derive l dC dI q2 k2 sm (xs (x4 + 1).toNatClampNeg) (xs (x4 + 2).toNatClampNeg) (xs (x4 + 3).toNatClampNeg) hq2 hokM _ rfl) (cwV 3 hts gL_law_X10_derive rfl rfl rfl (by decide +kernel) ⟨Nat.le_of_ble_eq_true rfl, Nat.le_of_ble_eq_true rfl⟩) ⟨fb_M, va_recv hKM.1 hPM (ci := 10) (q0 := 0) rfl rfl, fun U hU hW => ⟨rfl, by rw [hU]; exact hPM, hKM.warm hW⟩⟩ rfl rfl hl.1 rfl (lv_room (Nat.le_of_ble_eq_true rfl)) dL_law_656 ⟨by show _ ≤ 1132; omega, by show _ ≤ 13853; omega⟩) hS (fun z _ h => hA2 z h) (fun z h => hA2 z h) (fun r7 u7 t7 H1 locs ht7 hv7 e7 hB7 hz7 hk7 hS => ?_)
  rw [ht7] at hB7
  have hPC := keepC hPC hk7 nMC
  have hPO := keepO hPO hk7 nMO
  have hPM : va_P (dC, dI) vwCl (wM q2 k2 ((sp_X10_derive sm (xs (x4 + 1).toNatClampNeg) (xs (x4 + 2).toNatClampNeg) (xs (x4 + 3).toNatClampNeg)).2)) H1 := hB7
  subst e7
  generalize H1 = H at hPC hPO hPM hS ⊢
  have hr := hR.2.2.2.2.2.2.2.2.1 sc sm (xs (x4 + 1).toNatClampNeg) (xs (x4 + 2).toNatClampNeg) (xs (x4 + 3).toNatClampNeg) hRel
  refine lv_istore (lv' := [(6, .int (sp_X10_derive sm (xs (x4 + 1).toNatClampNeg) (xs (x4 + 2).toNatClampNeg) (xs (x4 + 3).toNatClampNeg)).1), (5, .int r9), (4, .int x4), (3, .ref o), (2, .ref (q2 0)), (1, .ref (q 0)), (0, .ref b)]) hx hb dL_law_659 hl (by decide) rfl (fun ls hl => ?_)
  refine lv_aload_n hx hb dL_law_661 rfl (lv_at hl 4 rfl) ?_
  refine vp_callSi (va_Run.run (va_runV (As := []) (rest := []) ⟨hx, hb, hml, hown, hts⟩ (c_X10_thrown l dC dI q2 k2 ((sp_X10_derive sm (xs (x4 + 1).toNatClampNeg) (xs (x4 + 2).toNatClampNeg) (xs (x4 + 3).toNatClampNeg)).2) _ rfl) (cwV 0 hts gL_law_X10_thrown rfl rfl rfl (by decide +kernel) ⟨Nat.le_of_ble_eq_true rfl, Nat.le_of_ble_eq_true rfl⟩) ⟨fb_M, va_recv hKM.1 hPM (ci := 10) (q0 := 0) rfl rfl, fun U hU hW => ⟨rfl, by rw [hU]; exact hPM, hKM.warm hW⟩⟩ rfl rfl hl.1 rfl (lv_room (Nat.le_of_ble_eq_true rfl)) dL_law_662 ⟨by show _ ≤ 1132; omega, by show _ ≤ 13853; omega⟩)) (fun r8 e8 => ?_)
  subst e8
  refine lv_iload hx hb dL_law_665 (lv_at hl 1 rfl) ?_
  refine lv_icmp_eq (tgt := 672) hx hb dL_law_667 (by decide) (fun he9 => ?_) (fun he9 => absurd (hr.1.trans hc.symm : sp_X10_thrown _ = r9) he9)
  refine lv_iload hx hb dL_law_672 (lv_at hl 1 rfl) ?_
  refine lv_if_ne (tgt := 689) hx hb dL_law_674 (by decide) (fun hn9 => ?_) (fun hz8 => ?_)
  · have hn8 := hn9
    refine lv_goto (tgt := 1278) hx hb dL_law_689 (by decide) ?_
    exact kj _ _ _ _ _ ls hr.2.2 ⟨hPC, hPM, hPO, hS⟩ (lv_sub hl [2, 3, 4, 5, 6] rfl)
  · have hz7 := hz8
    refine lv_aload_n hx hb dL_law_677 rfl (lv_at hl 3 rfl) ?_
    refine lv_iconst (v := 0) hx hb dL_law_678 (by decide) ?_
    refine va_lald hx hb hKO hPO 0 0 (f := f) (n := 1) (cA := ko) rfl rfl (i := 0) (vp_in_iff.mpr (by decide)) dL_law_679 ?_
    refine lv_iload hx hb dL_law_680 (lv_at hl 0 rfl) ?_
    refine lv_i2l (v := ((sp_X10_derive sm (xs (x4 + 1).toNatClampNeg) (xs (x4 + 2).toNatClampNeg) (xs (x4 + 3).toNatClampNeg)).1).toInt64) hx hb dL_law_682 rfl ?_
    refine W.lcmp hx hb dL_law_683 ?_
    refine lv_if_eq (tgt := 689) hx hb dL_law_684 (by decide) (fun he9 => ?_) (fun he9 => absurd ((hv (cL0 (code_derive sc (xs (x4 + 1).toNatClampNeg) (xs (x4 + 2).toNatClampNeg) (xs (x4 + 3).toNatClampNeg)) (hc.symm.trans hz8))).trans (congrArg Int32.toInt64 (hr.2.1 (cL0 (code_derive sc (xs (x4 + 1).toNatClampNeg) (xs (x4 + 2).toNatClampNeg) (xs (x4 + 3).toNatClampNeg)) (hc.symm.trans hz8))))) (lgc he9))
    refine lv_goto (tgt := 1278) hx hb dL_law_689 (by decide) ?_
    exact kj _ _ _ _ _ ls hr.2.2 ⟨hPC, hPM, hPO, hS⟩ (lv_sub hl [2, 3, 4, 5, 6] rfl)
set_option maxHeartbeats 8000000 in
set_option maxRecDepth 100000 in
theorem law_case_7 {p : Program} {l : Launch} {e : Env} {s : State} {m : MethodId} {below : List Frame} {meth : Method} {c : Code} {b L : Nat} {xs : Nat → Int32} {dC : Nat → ClassId} {dI : Nat → Nat → Nat} {q q2 : Nat → Nat} {k k2 : Nat → ClassId} {o : Nat} {ko : ClassId} {R : St → St → Prop} (hR : RefAll R) (C0 : LCx p l s m c b L xs dC dI q q2 k k2 o ko) (t : Nat) (ht : 5 * t + 5 ≤ L) (hL : L ≤ 2560) (x4 : Int32) (hx4 : x4.toInt = 5 * t) (sc sm : St) (f : Nat → Int64) (H : Heap) (locs : List Loc) (hRel : R sc sm) (hW0 : LSx s dC dI q q2 k k2 o ko sc sm f H locs) (ls : Array Slot) (hl : lv_has ls 8 [(4, .int x4), (3, .ref o), (2, .ref (q2 0)), (1, .ref (q 0)), (0, .ref b)])
    (kj : ∀ (sc sm : St) (f : Nat → Int64) (H : Heap) (locs : List Loc) (ls : Array Slot), R sc sm → LSx s dC dI q q2 k k2 o ko sc sm f H locs → lv_has ls 8 [(4, .int x4), (3, .ref o), (2, .ref (q2 0)), (1, .ref (q 0)), (0, .ref b)] → W p l e room_1 s m #[Value.ref b] below meth c H locs (79 + t + 1) (5487 + 6 * t + 6) (lw_Z below #[Value.ref b] s) (F0 m 1278 ls [])) :
    W p l e room_1 s m #[Value.ref b] below meth c H locs (79 + t) (5487 + 6 * t) (lw_Z below #[Value.ref b] s) (F0 m 692 ls []) := by
  obtain ⟨hx, hb, hml, hown, hts, hX, hbl, hst, hKC, hKM, hKO, hTH, hNC, hq, hq2, ho, ho2, hqq, hqb, hqb2, hob⟩ := C0
  obtain ⟨hPC, hPM, hPO, hS⟩ := hW0
  have hbA : ¬ (A0 s) b := Nat.not_le.mpr hbl
  have hokC := (hR.1 sc sm hRel).1
  have hokM := (hR.1 sc sm hRel).2
  have hA : ∀ z, aC q z → A0 s z := fun z ⟨j, hj, e9⟩ => by rw [e9]; exact hqb j hj
  have hA2 : ∀ z, aM q2 z → A0 s z := fun z ⟨j, hj, e9⟩ => by rw [e9]; exact hqb2 j hj
  have hAO : ∀ z, aO q o z → A0 s z := fun z h => h.elim (hA z) (fun h => by rw [h]; exact hob)
  have nCM : ∀ j, j < 35 → ¬ aC q (q2 j) := fun j hj ⟨i, hi, e9⟩ => hqq i j hi hj e9.symm
  have nOM : ∀ j, j < 35 → ¬ aO q o (q2 j) := fun j hj h => h.elim (nCM j hj) (fun h => ho2 j hj h)
  have nMC : ∀ j, j < 43 → ¬ aM q2 (q j) := fun j hj ⟨i, hi, e9⟩ => hqq j i hj hi e9
  have nMO : ¬ aM q2 o := fun ⟨i, hi, e9⟩ => ho2 i hi e9.symm
  have i1 := inc_ge x4 1 (by omega) (by decide)
  have i2 := inc_ge x4 2 (by omega) (by decide)
  have i3 := inc_ge x4 3 (by omega) (by decide)
  have i4 := inc_ge x4 4 (by omega) (by decide)
  have v1 : vp_in (x4 + 1) L := vp_in_iff.mpr (by rw [i1]; omega)
  have v2 : vp_in (x4 + 2) L := vp_in_iff.mpr (by rw [i2]; omega)
  have v3 : vp_in (x4 + 3) L := vp_in_iff.mpr (by rw [i3]; omega)
  have v4 : vp_in (x4 + 4) L := vp_in_iff.mpr (by rw [i4]; omega)
  refine lv_aload_n hx hb dL_law_692 rfl (lv_at hl 3 rfl) ?_
  refine lv_aload_n hx hb dL_law_693 rfl (lv_at hl 4 rfl) ?_
  refine lv_iload hx hb dL_law_694 (lv_at hl 0 rfl) ?_
  refine lv_iconst (v := 1) hx hb dL_law_696 (by decide) ?_
  refine lv_iadd hx hb dL_law_697 ?_
  refine va_sld hx hb hX hbl hbA hS v1 dL_law_698 ?_
  refine lv_aload_n hx hb dL_law_699 rfl (lv_at hl 4 rfl) ?_
  refine lv_iload hx hb dL_law_700 (lv_at hl 0 rfl) ?_
  refine lv_iconst (v := 2) hx hb dL_law_702 (by decide) ?_
  refine lv_iadd hx hb dL_law_703 ?_
  refine va_sld hx hb hX hbl hbA hS v2 dL_law_704 ?_
  refine lv_aload_n hx hb dL_law_705 rfl (lv_at hl 4 rfl) ?_
  refine lv_iload hx hb dL_law_706 (lv_at hl 0 rfl) ?_
  refine lv_iconst (v := 3) hx hb dL_law_708 (by decide) ?_
  refine lv_iadd hx hb dL_law_709 ?_
  refine va_sld hx hb hX hbl hbA hS v3 dL_law_710 ?_
  refine lv_aload_n hx hb dL_law_711 rfl (lv_at hl 1 rfl) ?_
  refine va_calli (vx_runSW (As := [.ref (q 0), .int (xs (x4 + 1).toNatClampNeg), .int (xs (x4 + 2).toNatClampNeg), .int (xs (x4 + 3).toNatClampNeg), .ref o]) (rest := []) ⟨hx, hb, hml, hown, hts⟩ (c_L_event l hst dC dI q k o ko f sc (xs (x4 + 1).toNatClampNeg) (xs (x4 + 2).toNatClampNeg) (xs (x4 + 3).toNatClampNeg) hq ho hokC _ rfl) (vx_cwSW 5 hts gL_law_L_event rfl rfl rfl (by decide +kernel) ⟨Nat.le_of_ble_eq_true rfl, Nat.le_of_ble_eq_true rfl⟩) ⟨fb_L, fun U hU hW => ⟨rfl, by rw [hU]; exact hPC, by rw [hU]; exact hPO, hKC.warm hW, va_K.moved hW.alike hKO, by rw [hU]; exact ((hTH.kept hS.2.1).narrow hAO).warm hW, hNC.moved hW.alike⟩⟩ rfl rfl hl.1 rfl (lv_room (Nat.le_of_ble_eq_true rfl)) dL_law_712 ⟨by show _ ≤ 1132; omega, by show _ ≤ 13853; omega⟩) hS (fun z _ h => hAO z h) (fun z h => hAO z h) (fun r9 f t9 H1 locs ht9 hv9 hp9 hB9 hz9 hk9 hS => ?_)
  rw [ht9] at hB9
  obtain ⟨hPC, hPO⟩ := hB9
  have hPM := keepM hPM hk9 nOM
  obtain ⟨hc, hv⟩ := hp9
  generalize H1 = H at hPC hPO hPM hS ⊢
  refine lv_istore (lv' := [(5, .int r9), (4, .int x4), (3, .ref o), (2, .ref (q2 0)), (1, .ref (q 0)), (0, .ref b)]) hx hb dL_law_715 hl (by decide) rfl (fun ls hl => ?_)
  refine lv_aload_n hx hb dL_law_717 rfl (lv_at hl 3 rfl) ?_
  refine lv_aload_n hx hb dL_law_718 rfl (lv_at hl 5 rfl) ?_
  refine lv_iload hx hb dL_law_719 (lv_at hl 1 rfl) ?_
  refine lv_iconst (v := 1) hx hb dL_law_721 (by decide) ?_
  refine lv_iadd hx hb dL_law_722 ?_
  refine va_sld hx hb hX hbl hbA hS v1 dL_law_723 ?_
  refine lv_aload_n hx hb dL_law_724 rfl (lv_at hl 5 rfl) ?_
  refine lv_iload hx hb dL_law_725 (lv_at hl 1 rfl) ?_
  refine lv_iconst (v := 2) hx hb dL_law_727 (by decide) ?_
  refine lv_iadd hx hb dL_law_728 ?_
  refine va_sld hx hb hX hbl hbA hS v2 dL_law_729 ?_
  refine lv_aload_n hx hb dL_law_730 rfl (lv_at hl 5 rfl) ?_
  refine lv_iload hx hb dL_law_731 (lv_at hl 1 rfl) ?_
  refine lv_iconst (v := 3) hx hb dL_law_733 (by decide) ?_
  refine lv_iadd hx hb dL_law_734 ?_
  refine va_sld hx hb hX hbl hbA hS v3 dL_law_735 ?_
  refine va_calli (va_runV (As := [.int (xs (x4 + 1).toNatClampNeg), .int (xs (x4 + 2).toNatClampNeg), .int (xs (x4 + 3).toNatClampNeg)]) (rest := []) ⟨hx, hb, hml, hown, hts⟩ (c_X10_event l dC dI q2 k2 sm (xs (x4 + 1).toNatClampNeg) (xs (x4 + 2).toNatClampNeg) (xs (x4 + 3).toNatClampNeg) hq2 hokM _ rfl) (cwV 3 hts gL_law_X10_event rfl rfl rfl (by decide +kernel) ⟨Nat.le_of_ble_eq_true rfl, Nat.le_of_ble_eq_true rfl⟩) ⟨fb_M, va_recv hKM.1 hPM (ci := 10) (q0 := 0) rfl rfl, fun U hU hW => ⟨rfl, by rw [hU]; exact hPM, hKM.warm hW⟩⟩ rfl rfl hl.1 rfl (lv_room (Nat.le_of_ble_eq_true rfl)) dL_law_736 ⟨by show _ ≤ 1132; omega, by show _ ≤ 13853; omega⟩) hS (fun z _ h => hA2 z h) (fun z h => hA2 z h) (fun r7 u7 t7 H1 locs ht7 hv7 e7 hB7 hz7 hk7 hS => ?_)
  rw [ht7] at hB7
  have hPC := keepC hPC hk7 nMC
  have hPO := keepO hPO hk7 nMO
  have hPM : va_P (dC, dI) vwCl (wM q2 k2 ((sp_X10_event sm (xs (x4 + 1).toNatClampNeg) (xs (x4 + 2).toNatClampNeg) (xs (x4 + 3).toNatClampNeg)).2)) H1 := hB7
  subst e7
  generalize H1 = H at hPC hPO hPM hS ⊢
  have hr := hR.2.2.2.2.2.2.2.2.2.1 sc sm (xs (x4 + 1).toNatClampNeg) (xs (x4 + 2).toNatClampNeg) (xs (x4 + 3).toNatClampNeg) hRel
  refine lv_istore (lv' := [(6, .int (sp_X10_event sm (xs (x4 + 1).toNatClampNeg) (xs (x4 + 2).toNatClampNeg) (xs (x4 + 3).toNatClampNeg)).1), (5, .int r9), (4, .int x4), (3, .ref o), (2, .ref (q2 0)), (1, .ref (q 0)), (0, .ref b)]) hx hb dL_law_739 hl (by decide) rfl (fun ls hl => ?_)
  refine lv_aload_n hx hb dL_law_741 rfl (lv_at hl 4 rfl) ?_
  refine vp_callSi (va_Run.run (va_runV (As := []) (rest := []) ⟨hx, hb, hml, hown, hts⟩ (c_X10_thrown l dC dI q2 k2 ((sp_X10_event sm (xs (x4 + 1).toNatClampNeg) (xs (x4 + 2).toNatClampNeg) (xs (x4 + 3).toNatClampNeg)).2) _ rfl) (cwV 0 hts gL_law_X10_thrown rfl rfl rfl (by decide +kernel) ⟨Nat.le_of_ble_eq_true rfl, Nat.le_of_ble_eq_true rfl⟩) ⟨fb_M, va_recv hKM.1 hPM (ci := 10) (q0 := 0) rfl rfl, fun U hU hW => ⟨rfl, by rw [hU]; exact hPM, hKM.warm hW⟩⟩ rfl rfl hl.1 rfl (lv_room (Nat.le_of_ble_eq_true rfl)) dL_law_742 ⟨by show _ ≤ 1132; omega, by show _ ≤ 13853; omega⟩)) (fun r8 e8 => ?_)
  subst e8
  refine lv_iload hx hb dL_law_745 (lv_at hl 1 rfl) ?_
  refine lv_icmp_eq (tgt := 752) hx hb dL_law_747 (by decide) (fun he9 => ?_) (fun he9 => absurd (hr.1.trans hc.symm : sp_X10_thrown _ = r9) he9)
  refine lv_iload hx hb dL_law_752 (lv_at hl 1 rfl) ?_
  refine lv_if_ne (tgt := 769) hx hb dL_law_754 (by decide) (fun hn9 => ?_) (fun hz8 => ?_)
  · have hn8 := hn9
    refine lv_goto (tgt := 1278) hx hb dL_law_769 (by decide) ?_
    exact kj _ _ _ _ _ ls hr.2.2 ⟨hPC, hPM, hPO, hS⟩ (lv_sub hl [2, 3, 4, 5, 6] rfl)
  · have hz7 := hz8
    refine lv_aload_n hx hb dL_law_757 rfl (lv_at hl 3 rfl) ?_
    refine lv_iconst (v := 0) hx hb dL_law_758 (by decide) ?_
    refine va_lald hx hb hKO hPO 0 0 (f := f) (n := 1) (cA := ko) rfl rfl (i := 0) (vp_in_iff.mpr (by decide)) dL_law_759 ?_
    refine lv_iload hx hb dL_law_760 (lv_at hl 0 rfl) ?_
    refine lv_i2l (v := ((sp_X10_event sm (xs (x4 + 1).toNatClampNeg) (xs (x4 + 2).toNatClampNeg) (xs (x4 + 3).toNatClampNeg)).1).toInt64) hx hb dL_law_762 rfl ?_
    refine W.lcmp hx hb dL_law_763 ?_
    refine lv_if_eq (tgt := 769) hx hb dL_law_764 (by decide) (fun he9 => ?_) (fun he9 => absurd ((hv (hc.symm.trans hz8)).trans (congrArg Int32.toInt64 (hr.2.1 (hc.symm.trans hz8)))) (lgc he9))
    refine lv_goto (tgt := 1278) hx hb dL_law_769 (by decide) ?_
    exact kj _ _ _ _ _ ls hr.2.2 ⟨hPC, hPM, hPO, hS⟩ (lv_sub hl [2, 3, 4, 5, 6] rfl)
set_option maxHeartbeats 8000000 in
set_option maxRecDepth 100000 in
theorem law_case_8 {p : Program} {l : Launch} {e : Env} {s : State} {m : MethodId} {below : List Frame} {meth : Method} {c : Code} {b L : Nat} {xs : Nat → Int32} {dC : Nat → ClassId} {dI : Nat → Nat → Nat} {q q2 : Nat → Nat} {k k2 : Nat → ClassId} {o : Nat} {ko : ClassId} {R : St → St → Prop} (hR : RefAll R) (C0 : LCx p l s m c b L xs dC dI q q2 k k2 o ko) (t : Nat) (ht : 5 * t + 5 ≤ L) (hL : L ≤ 2560) (x4 : Int32) (hx4 : x4.toInt = 5 * t) (sc sm : St) (f : Nat → Int64) (H : Heap) (locs : List Loc) (hRel : R sc sm) (hW0 : LSx s dC dI q q2 k k2 o ko sc sm f H locs) (ls : Array Slot) (hl : lv_has ls 8 [(4, .int x4), (3, .ref o), (2, .ref (q2 0)), (1, .ref (q 0)), (0, .ref b)])
    (kj : ∀ (sc sm : St) (f : Nat → Int64) (H : Heap) (locs : List Loc) (ls : Array Slot), R sc sm → LSx s dC dI q q2 k k2 o ko sc sm f H locs → lv_has ls 8 [(4, .int x4), (3, .ref o), (2, .ref (q2 0)), (1, .ref (q 0)), (0, .ref b)] → W p l e room_1 s m #[Value.ref b] below meth c H locs (79 + t + 1) (5487 + 6 * t + 6) (lw_Z below #[Value.ref b] s) (F0 m 1278 ls [])) :
    W p l e room_1 s m #[Value.ref b] below meth c H locs (79 + t) (5487 + 6 * t) (lw_Z below #[Value.ref b] s) (F0 m 772 ls []) := by
  obtain ⟨hx, hb, hml, hown, hts, hX, hbl, hst, hKC, hKM, hKO, hTH, hNC, hq, hq2, ho, ho2, hqq, hqb, hqb2, hob⟩ := C0
  obtain ⟨hPC, hPM, hPO, hS⟩ := hW0
  have hbA : ¬ (A0 s) b := Nat.not_le.mpr hbl
  have hokC := (hR.1 sc sm hRel).1
  have hokM := (hR.1 sc sm hRel).2
  have hA : ∀ z, aC q z → A0 s z := fun z ⟨j, hj, e9⟩ => by rw [e9]; exact hqb j hj
  have hA2 : ∀ z, aM q2 z → A0 s z := fun z ⟨j, hj, e9⟩ => by rw [e9]; exact hqb2 j hj
  have hAO : ∀ z, aO q o z → A0 s z := fun z h => h.elim (hA z) (fun h => by rw [h]; exact hob)
  have nCM : ∀ j, j < 35 → ¬ aC q (q2 j) := fun j hj ⟨i, hi, e9⟩ => hqq i j hi hj e9.symm
  have nOM : ∀ j, j < 35 → ¬ aO q o (q2 j) := fun j hj h => h.elim (nCM j hj) (fun h => ho2 j hj h)
  have nMC : ∀ j, j < 43 → ¬ aM q2 (q j) := fun j hj ⟨i, hi, e9⟩ => hqq j i hj hi e9
  have nMO : ¬ aM q2 o := fun ⟨i, hi, e9⟩ => ho2 i hi e9.symm
  have i1 := inc_ge x4 1 (by omega) (by decide)
  have i2 := inc_ge x4 2 (by omega) (by decide)
  have i3 := inc_ge x4 3 (by omega) (by decide)
  have i4 := inc_ge x4 4 (by omega) (by decide)
  have v1 : vp_in (x4 + 1) L := vp_in_iff.mpr (by rw [i1]; omega)
  have v2 : vp_in (x4 + 2) L := vp_in_iff.mpr (by rw [i2]; omega)
  have v3 : vp_in (x4 + 3) L := vp_in_iff.mpr (by rw [i3]; omega)
  have v4 : vp_in (x4 + 4) L := vp_in_iff.mpr (by rw [i4]; omega)
  refine lv_aload_n hx hb dL_law_772 rfl (lv_at hl 3 rfl) ?_
  refine lv_aload_n hx hb dL_law_773 rfl (lv_at hl 4 rfl) ?_
  refine lv_iload hx hb dL_law_774 (lv_at hl 0 rfl) ?_
  refine lv_iconst (v := 1) hx hb dL_law_776 (by decide) ?_
  refine lv_iadd hx hb dL_law_777 ?_
  refine va_sld hx hb hX hbl hbA hS v1 dL_law_778 ?_
  refine lv_aload_n hx hb dL_law_779 rfl (lv_at hl 4 rfl) ?_
  refine lv_iload hx hb dL_law_780 (lv_at hl 0 rfl) ?_
  refine lv_iconst (v := 2) hx hb dL_law_782 (by decide) ?_
  refine lv_iadd hx hb dL_law_783 ?_
  refine va_sld hx hb hX hbl hbA hS v2 dL_law_784 ?_
  refine lv_aload_n hx hb dL_law_785 rfl (lv_at hl 4 rfl) ?_
  refine lv_iload hx hb dL_law_786 (lv_at hl 0 rfl) ?_
  refine lv_iconst (v := 3) hx hb dL_law_788 (by decide) ?_
  refine lv_iadd hx hb dL_law_789 ?_
  refine va_sld hx hb hX hbl hbA hS v3 dL_law_790 ?_
  refine lv_aload_n hx hb dL_law_791 rfl (lv_at hl 1 rfl) ?_
  refine va_calli (vx_runSW (As := [.ref (q 0), .int (xs (x4 + 1).toNatClampNeg), .int (xs (x4 + 2).toNatClampNeg), .int (xs (x4 + 3).toNatClampNeg), .ref o]) (rest := []) ⟨hx, hb, hml, hown, hts⟩ (c_L_hold l hst dC dI q k o ko f sc (xs (x4 + 1).toNatClampNeg) (xs (x4 + 2).toNatClampNeg) (xs (x4 + 3).toNatClampNeg) hq ho hokC _ rfl) (vx_cwSW 5 hts gL_law_L_hold rfl rfl rfl (by decide +kernel) ⟨Nat.le_of_ble_eq_true rfl, Nat.le_of_ble_eq_true rfl⟩) ⟨fb_L, fun U hU hW => ⟨rfl, by rw [hU]; exact hPC, by rw [hU]; exact hPO, hKC.warm hW, va_K.moved hW.alike hKO, by rw [hU]; exact ((hTH.kept hS.2.1).narrow hAO).warm hW, hNC.moved hW.alike⟩⟩ rfl rfl hl.1 rfl (lv_room (Nat.le_of_ble_eq_true rfl)) dL_law_792 ⟨by show _ ≤ 1132; omega, by show _ ≤ 13853; omega⟩) hS (fun z _ h => hAO z h) (fun z h => hAO z h) (fun r9 f t9 H1 locs ht9 hv9 hp9 hB9 hz9 hk9 hS => ?_)
  rw [ht9] at hB9
  obtain ⟨hPC, hPO⟩ := hB9
  have hPM := keepM hPM hk9 nOM
  obtain ⟨hc, hv⟩ := hp9
  generalize H1 = H at hPC hPO hPM hS ⊢
  refine lv_istore (lv' := [(5, .int r9), (4, .int x4), (3, .ref o), (2, .ref (q2 0)), (1, .ref (q 0)), (0, .ref b)]) hx hb dL_law_795 hl (by decide) rfl (fun ls hl => ?_)
  refine lv_aload_n hx hb dL_law_797 rfl (lv_at hl 3 rfl) ?_
  refine lv_aload_n hx hb dL_law_798 rfl (lv_at hl 5 rfl) ?_
  refine lv_iload hx hb dL_law_799 (lv_at hl 1 rfl) ?_
  refine lv_iconst (v := 1) hx hb dL_law_801 (by decide) ?_
  refine lv_iadd hx hb dL_law_802 ?_
  refine va_sld hx hb hX hbl hbA hS v1 dL_law_803 ?_
  refine lv_aload_n hx hb dL_law_804 rfl (lv_at hl 5 rfl) ?_
  refine lv_iload hx hb dL_law_805 (lv_at hl 1 rfl) ?_
  refine lv_iconst (v := 2) hx hb dL_law_807 (by decide) ?_
  refine lv_iadd hx hb dL_law_808 ?_
  refine va_sld hx hb hX hbl hbA hS v2 dL_law_809 ?_
  refine lv_aload_n hx hb dL_law_810 rfl (lv_at hl 5 rfl) ?_
  refine lv_iload hx hb dL_law_811 (lv_at hl 1 rfl) ?_
  refine lv_iconst (v := 3) hx hb dL_law_813 (by decide) ?_
  refine lv_iadd hx hb dL_law_814 ?_
  refine va_sld hx hb hX hbl hbA hS v3 dL_law_815 ?_
  refine va_calli (va_runV (As := [.int (xs (x4 + 1).toNatClampNeg), .int (xs (x4 + 2).toNatClampNeg), .int (xs (x4 + 3).toNatClampNeg)]) (rest := []) ⟨hx, hb, hml, hown, hts⟩ (c_X10_hold l dC dI q2 k2 sm (xs (x4 + 1).toNatClampNeg) (xs (x4 + 2).toNatClampNeg) (xs (x4 + 3).toNatClampNeg) hq2 hokM _ rfl) (cwV 3 hts gL_law_X10_hold rfl rfl rfl (by decide +kernel) ⟨Nat.le_of_ble_eq_true rfl, Nat.le_of_ble_eq_true rfl⟩) ⟨fb_M, va_recv hKM.1 hPM (ci := 10) (q0 := 0) rfl rfl, fun U hU hW => ⟨rfl, by rw [hU]; exact hPM, hKM.warm hW⟩⟩ rfl rfl hl.1 rfl (lv_room (Nat.le_of_ble_eq_true rfl)) dL_law_816 ⟨by show _ ≤ 1132; omega, by show _ ≤ 13853; omega⟩) hS (fun z _ h => hA2 z h) (fun z h => hA2 z h) (fun r7 u7 t7 H1 locs ht7 hv7 e7 hB7 hz7 hk7 hS => ?_)
  rw [ht7] at hB7
  have hPC := keepC hPC hk7 nMC
  have hPO := keepO hPO hk7 nMO
  have hPM : va_P (dC, dI) vwCl (wM q2 k2 ((sp_X10_hold sm (xs (x4 + 1).toNatClampNeg) (xs (x4 + 2).toNatClampNeg) (xs (x4 + 3).toNatClampNeg)).2)) H1 := hB7
  subst e7
  generalize H1 = H at hPC hPO hPM hS ⊢
  have hr := hR.2.2.2.2.2.2.2.2.2.2.1 sc sm (xs (x4 + 1).toNatClampNeg) (xs (x4 + 2).toNatClampNeg) (xs (x4 + 3).toNatClampNeg) hRel
  refine lv_istore (lv' := [(6, .int (sp_X10_hold sm (xs (x4 + 1).toNatClampNeg) (xs (x4 + 2).toNatClampNeg) (xs (x4 + 3).toNatClampNeg)).1), (5, .int r9), (4, .int x4), (3, .ref o), (2, .ref (q2 0)), (1, .ref (q 0)), (0, .ref b)]) hx hb dL_law_819 hl (by decide) rfl (fun ls hl => ?_)
  refine lv_aload_n hx hb dL_law_821 rfl (lv_at hl 4 rfl) ?_
  refine vp_callSi (va_Run.run (va_runV (As := []) (rest := []) ⟨hx, hb, hml, hown, hts⟩ (c_X10_thrown l dC dI q2 k2 ((sp_X10_hold sm (xs (x4 + 1).toNatClampNeg) (xs (x4 + 2).toNatClampNeg) (xs (x4 + 3).toNatClampNeg)).2) _ rfl) (cwV 0 hts gL_law_X10_thrown rfl rfl rfl (by decide +kernel) ⟨Nat.le_of_ble_eq_true rfl, Nat.le_of_ble_eq_true rfl⟩) ⟨fb_M, va_recv hKM.1 hPM (ci := 10) (q0 := 0) rfl rfl, fun U hU hW => ⟨rfl, by rw [hU]; exact hPM, hKM.warm hW⟩⟩ rfl rfl hl.1 rfl (lv_room (Nat.le_of_ble_eq_true rfl)) dL_law_822 ⟨by show _ ≤ 1132; omega, by show _ ≤ 13853; omega⟩)) (fun r8 e8 => ?_)
  subst e8
  refine lv_iload hx hb dL_law_825 (lv_at hl 1 rfl) ?_
  refine lv_icmp_eq (tgt := 832) hx hb dL_law_827 (by decide) (fun he9 => ?_) (fun he9 => absurd (hr.1.trans hc.symm : sp_X10_thrown _ = r9) he9)
  refine lv_iload hx hb dL_law_832 (lv_at hl 1 rfl) ?_
  refine lv_if_ne (tgt := 849) hx hb dL_law_834 (by decide) (fun hn9 => ?_) (fun hz8 => ?_)
  · have hn8 := hn9
    refine lv_goto (tgt := 1278) hx hb dL_law_849 (by decide) ?_
    exact kj _ _ _ _ _ ls hr.2.2 ⟨hPC, hPM, hPO, hS⟩ (lv_sub hl [2, 3, 4, 5, 6] rfl)
  · have hz7 := hz8
    refine lv_aload_n hx hb dL_law_837 rfl (lv_at hl 3 rfl) ?_
    refine lv_iconst (v := 0) hx hb dL_law_838 (by decide) ?_
    refine va_lald hx hb hKO hPO 0 0 (f := f) (n := 1) (cA := ko) rfl rfl (i := 0) (vp_in_iff.mpr (by decide)) dL_law_839 ?_
    refine lv_iload hx hb dL_law_840 (lv_at hl 0 rfl) ?_
    refine lv_i2l (v := ((sp_X10_hold sm (xs (x4 + 1).toNatClampNeg) (xs (x4 + 2).toNatClampNeg) (xs (x4 + 3).toNatClampNeg)).1).toInt64) hx hb dL_law_842 rfl ?_
    refine W.lcmp hx hb dL_law_843 ?_
    refine lv_if_eq (tgt := 849) hx hb dL_law_844 (by decide) (fun he9 => ?_) (fun he9 => absurd ((hv (hc.symm.trans hz8)).trans (congrArg Int32.toInt64 (hr.2.1 (hc.symm.trans hz8)))) (lgc he9))
    refine lv_goto (tgt := 1278) hx hb dL_law_849 (by decide) ?_
    exact kj _ _ _ _ _ ls hr.2.2 ⟨hPC, hPM, hPO, hS⟩ (lv_sub hl [2, 3, 4, 5, 6] rfl)
set_option maxHeartbeats 8000000 in
set_option maxRecDepth 100000 in
theorem law_case_9 {p : Program} {l : Launch} {e : Env} {s : State} {m : MethodId} {below : List Frame} {meth : Method} {c : Code} {b L : Nat} {xs : Nat → Int32} {dC : Nat → ClassId} {dI : Nat → Nat → Nat} {q q2 : Nat → Nat} {k k2 : Nat → ClassId} {o : Nat} {ko : ClassId} {R : St → St → Prop} (hR : RefAll R) (C0 : LCx p l s m c b L xs dC dI q q2 k k2 o ko) (t : Nat) (ht : 5 * t + 5 ≤ L) (hL : L ≤ 2560) (x4 : Int32) (hx4 : x4.toInt = 5 * t) (sc sm : St) (f : Nat → Int64) (H : Heap) (locs : List Loc) (hRel : R sc sm) (hW0 : LSx s dC dI q q2 k k2 o ko sc sm f H locs) (ls : Array Slot) (hl : lv_has ls 8 [(4, .int x4), (3, .ref o), (2, .ref (q2 0)), (1, .ref (q 0)), (0, .ref b)])
    (kj : ∀ (sc sm : St) (f : Nat → Int64) (H : Heap) (locs : List Loc) (ls : Array Slot), R sc sm → LSx s dC dI q q2 k k2 o ko sc sm f H locs → lv_has ls 8 [(4, .int x4), (3, .ref o), (2, .ref (q2 0)), (1, .ref (q 0)), (0, .ref b)] → W p l e room_1 s m #[Value.ref b] below meth c H locs (79 + t + 1) (5487 + 6 * t + 6) (lw_Z below #[Value.ref b] s) (F0 m 1278 ls [])) :
    W p l e room_1 s m #[Value.ref b] below meth c H locs (79 + t) (5487 + 6 * t) (lw_Z below #[Value.ref b] s) (F0 m 852 ls []) := by
  obtain ⟨hx, hb, hml, hown, hts, hX, hbl, hst, hKC, hKM, hKO, hTH, hNC, hq, hq2, ho, ho2, hqq, hqb, hqb2, hob⟩ := C0
  obtain ⟨hPC, hPM, hPO, hS⟩ := hW0
  have hbA : ¬ (A0 s) b := Nat.not_le.mpr hbl
  have hokC := (hR.1 sc sm hRel).1
  have hokM := (hR.1 sc sm hRel).2
  have hA : ∀ z, aC q z → A0 s z := fun z ⟨j, hj, e9⟩ => by rw [e9]; exact hqb j hj
  have hA2 : ∀ z, aM q2 z → A0 s z := fun z ⟨j, hj, e9⟩ => by rw [e9]; exact hqb2 j hj
  have hAO : ∀ z, aO q o z → A0 s z := fun z h => h.elim (hA z) (fun h => by rw [h]; exact hob)
  have nCM : ∀ j, j < 35 → ¬ aC q (q2 j) := fun j hj ⟨i, hi, e9⟩ => hqq i j hi hj e9.symm
  have nOM : ∀ j, j < 35 → ¬ aO q o (q2 j) := fun j hj h => h.elim (nCM j hj) (fun h => ho2 j hj h)
  have nMC : ∀ j, j < 43 → ¬ aM q2 (q j) := fun j hj ⟨i, hi, e9⟩ => hqq j i hj hi e9
  have nMO : ¬ aM q2 o := fun ⟨i, hi, e9⟩ => ho2 i hi e9.symm
  have i1 := inc_ge x4 1 (by omega) (by decide)
  have i2 := inc_ge x4 2 (by omega) (by decide)
  have i3 := inc_ge x4 3 (by omega) (by decide)
  have i4 := inc_ge x4 4 (by omega) (by decide)
  have v1 : vp_in (x4 + 1) L := vp_in_iff.mpr (by rw [i1]; omega)
  have v2 : vp_in (x4 + 2) L := vp_in_iff.mpr (by rw [i2]; omega)
  have v3 : vp_in (x4 + 3) L := vp_in_iff.mpr (by rw [i3]; omega)
  have v4 : vp_in (x4 + 4) L := vp_in_iff.mpr (by rw [i4]; omega)
  refine lv_aload_n hx hb dL_law_852 rfl (lv_at hl 3 rfl) ?_
  refine lv_aload_n hx hb dL_law_853 rfl (lv_at hl 4 rfl) ?_
  refine lv_iload hx hb dL_law_854 (lv_at hl 0 rfl) ?_
  refine lv_iconst (v := 1) hx hb dL_law_856 (by decide) ?_
  refine lv_iadd hx hb dL_law_857 ?_
  refine va_sld hx hb hX hbl hbA hS v1 dL_law_858 ?_
  refine lv_aload_n hx hb dL_law_859 rfl (lv_at hl 4 rfl) ?_
  refine lv_iload hx hb dL_law_860 (lv_at hl 0 rfl) ?_
  refine lv_iconst (v := 2) hx hb dL_law_862 (by decide) ?_
  refine lv_iadd hx hb dL_law_863 ?_
  refine va_sld hx hb hX hbl hbA hS v2 dL_law_864 ?_
  refine va_calli (vx_runSW (As := [.ref (q 0), .int (xs (x4 + 1).toNatClampNeg), .int (xs (x4 + 2).toNatClampNeg)]) (rest := []) ⟨hx, hb, hml, hown, hts⟩ (c_L_lift l hst dC dI q k o ko f sc (xs (x4 + 1).toNatClampNeg) (xs (x4 + 2).toNatClampNeg) hq ho hokC _ rfl) (vx_cwSW 3 hts gL_law_L_lift rfl rfl rfl (by decide +kernel) ⟨Nat.le_of_ble_eq_true rfl, Nat.le_of_ble_eq_true rfl⟩) ⟨fb_L, fun U hU hW => ⟨rfl, by rw [hU]; exact hPC, by rw [hU]; exact hPO, hKC.warm hW, va_K.moved hW.alike hKO, by rw [hU]; exact ((hTH.kept hS.2.1).narrow hAO).warm hW, hNC.moved hW.alike⟩⟩ rfl rfl hl.1 rfl (lv_room (Nat.le_of_ble_eq_true rfl)) dL_law_865 ⟨by show _ ≤ 1132; omega, by show _ ≤ 13853; omega⟩) hS (fun z _ h => hAO z h) (fun z h => hAO z h) (fun r9 f t9 H1 locs ht9 hv9 hp9 hB9 hz9 hk9 hS => ?_)
  rw [ht9] at hB9
  obtain ⟨hPC, hPO⟩ := hB9
  have hPM := keepM hPM hk9 nOM
  have hc := hp9
  generalize H1 = H at hPC hPO hPM hS ⊢
  refine lv_istore (lv' := [(5, .int r9), (4, .int x4), (3, .ref o), (2, .ref (q2 0)), (1, .ref (q 0)), (0, .ref b)]) hx hb dL_law_868 hl (by decide) rfl (fun ls hl => ?_)
  refine lv_aload_n hx hb dL_law_870 rfl (lv_at hl 3 rfl) ?_
  refine lv_aload_n hx hb dL_law_871 rfl (lv_at hl 5 rfl) ?_
  refine lv_iload hx hb dL_law_872 (lv_at hl 1 rfl) ?_
  refine lv_iconst (v := 1) hx hb dL_law_874 (by decide) ?_
  refine lv_iadd hx hb dL_law_875 ?_
  refine va_sld hx hb hX hbl hbA hS v1 dL_law_876 ?_
  refine lv_aload_n hx hb dL_law_877 rfl (lv_at hl 5 rfl) ?_
  refine lv_iload hx hb dL_law_878 (lv_at hl 1 rfl) ?_
  refine lv_iconst (v := 2) hx hb dL_law_880 (by decide) ?_
  refine lv_iadd hx hb dL_law_881 ?_
  refine va_sld hx hb hX hbl hbA hS v2 dL_law_882 ?_
  refine va_callv (va_runV (As := [.int (xs (x4 + 1).toNatClampNeg), .int (xs (x4 + 2).toNatClampNeg)]) (rest := []) ⟨hx, hb, hml, hown, hts⟩ (c_X10_lift l dC dI q2 k2 sm (xs (x4 + 1).toNatClampNeg) (xs (x4 + 2).toNatClampNeg) hq2 hokM _ rfl) (cwV 2 hts gL_law_X10_lift rfl rfl rfl (by decide +kernel) ⟨Nat.le_of_ble_eq_true rfl, Nat.le_of_ble_eq_true rfl⟩) ⟨fb_M, va_recv hKM.1 hPM (ci := 10) (q0 := 0) rfl rfl, fun U hU hW => ⟨rfl, by rw [hU]; exact hPM, hKM.warm hW⟩⟩ rfl rfl hl.1 rfl (lv_room (Nat.le_of_ble_eq_true rfl)) dL_law_883 ⟨by show _ ≤ 1132; omega, by show _ ≤ 13853; omega⟩) hS (fun z _ h => hA2 z h) (fun z h => hA2 z h) (fun u7 t7 H1 locs ht7 hv7 e7 hB7 hz7 hk7 hS => ?_)
  rw [ht7] at hB7
  have hPC := keepC hPC hk7 nMC
  have hPO := keepO hPO hk7 nMO
  have hPM : va_P (dC, dI) vwCl (wM q2 k2 (sp_X10_lift sm (xs (x4 + 1).toNatClampNeg) (xs (x4 + 2).toNatClampNeg))) H1 := hB7
  generalize H1 = H at hPC hPO hPM hS ⊢
  have hr := hR.2.2.2.2.2.2.2.2.2.2.2.1 sc sm (xs (x4 + 1).toNatClampNeg) (xs (x4 + 2).toNatClampNeg) hRel
  refine lv_aload_n hx hb dL_law_886 rfl (lv_at hl 3 rfl) ?_
  refine vp_callSi (va_Run.run (va_runV (As := []) (rest := []) ⟨hx, hb, hml, hown, hts⟩ (c_X10_thrown l dC dI q2 k2 (sp_X10_lift sm (xs (x4 + 1).toNatClampNeg) (xs (x4 + 2).toNatClampNeg)) _ rfl) (cwV 0 hts gL_law_X10_thrown rfl rfl rfl (by decide +kernel) ⟨Nat.le_of_ble_eq_true rfl, Nat.le_of_ble_eq_true rfl⟩) ⟨fb_M, va_recv hKM.1 hPM (ci := 10) (q0 := 0) rfl rfl, fun U hU hW => ⟨rfl, by rw [hU]; exact hPM, hKM.warm hW⟩⟩ rfl rfl hl.1 rfl (lv_room (Nat.le_of_ble_eq_true rfl)) dL_law_887 ⟨by show _ ≤ 1132; omega, by show _ ≤ 13853; omega⟩)) (fun r8 e8 => ?_)
  subst e8
  refine lv_iload hx hb dL_law_890 (lv_at hl 0 rfl) ?_
  refine lv_icmp_eq (tgt := 897) hx hb dL_law_892 (by decide) (fun he9 => ?_) (fun he9 => absurd (hr.1.trans hc.symm : sp_X10_thrown _ = r9) he9)
  refine lv_goto (tgt := 1278) hx hb dL_law_897 (by decide) ?_
  exact kj _ _ _ _ _ ls hr.2 ⟨hPC, hPM, hPO, hS⟩ (lv_sub hl [1, 2, 3, 4, 5] rfl)
set_option maxHeartbeats 8000000 in
set_option maxRecDepth 100000 in
theorem law_case_10 {p : Program} {l : Launch} {e : Env} {s : State} {m : MethodId} {below : List Frame} {meth : Method} {c : Code} {b L : Nat} {xs : Nat → Int32} {dC : Nat → ClassId} {dI : Nat → Nat → Nat} {q q2 : Nat → Nat} {k k2 : Nat → ClassId} {o : Nat} {ko : ClassId} {R : St → St → Prop} (hR : RefAll R) (C0 : LCx p l s m c b L xs dC dI q q2 k k2 o ko) (t : Nat) (ht : 5 * t + 5 ≤ L) (hL : L ≤ 2560) (x4 : Int32) (hx4 : x4.toInt = 5 * t) (sc sm : St) (f : Nat → Int64) (H : Heap) (locs : List Loc) (hRel : R sc sm) (hW0 : LSx s dC dI q q2 k k2 o ko sc sm f H locs) (ls : Array Slot) (hl : lv_has ls 8 [(4, .int x4), (3, .ref o), (2, .ref (q2 0)), (1, .ref (q 0)), (0, .ref b)])
    (kj : ∀ (sc sm : St) (f : Nat → Int64) (H : Heap) (locs : List Loc) (ls : Array Slot), R sc sm → LSx s dC dI q q2 k k2 o ko sc sm f H locs → lv_has ls 8 [(4, .int x4), (3, .ref o), (2, .ref (q2 0)), (1, .ref (q 0)), (0, .ref b)] → W p l e room_1 s m #[Value.ref b] below meth c H locs (79 + t + 1) (5487 + 6 * t + 6) (lw_Z below #[Value.ref b] s) (F0 m 1278 ls [])) :
    W p l e room_1 s m #[Value.ref b] below meth c H locs (79 + t) (5487 + 6 * t) (lw_Z below #[Value.ref b] s) (F0 m 900 ls []) := by
  obtain ⟨hx, hb, hml, hown, hts, hX, hbl, hst, hKC, hKM, hKO, hTH, hNC, hq, hq2, ho, ho2, hqq, hqb, hqb2, hob⟩ := C0
  obtain ⟨hPC, hPM, hPO, hS⟩ := hW0
  have hbA : ¬ (A0 s) b := Nat.not_le.mpr hbl
  have hokC := (hR.1 sc sm hRel).1
  have hokM := (hR.1 sc sm hRel).2
  have hA : ∀ z, aC q z → A0 s z := fun z ⟨j, hj, e9⟩ => by rw [e9]; exact hqb j hj
  have hA2 : ∀ z, aM q2 z → A0 s z := fun z ⟨j, hj, e9⟩ => by rw [e9]; exact hqb2 j hj
  have hAO : ∀ z, aO q o z → A0 s z := fun z h => h.elim (hA z) (fun h => by rw [h]; exact hob)
  have nCM : ∀ j, j < 35 → ¬ aC q (q2 j) := fun j hj ⟨i, hi, e9⟩ => hqq i j hi hj e9.symm
  have nOM : ∀ j, j < 35 → ¬ aO q o (q2 j) := fun j hj h => h.elim (nCM j hj) (fun h => ho2 j hj h)
  have nMC : ∀ j, j < 43 → ¬ aM q2 (q j) := fun j hj ⟨i, hi, e9⟩ => hqq j i hj hi e9
  have nMO : ¬ aM q2 o := fun ⟨i, hi, e9⟩ => ho2 i hi e9.symm
  have i1 := inc_ge x4 1 (by omega) (by decide)
  have i2 := inc_ge x4 2 (by omega) (by decide)
  have i3 := inc_ge x4 3 (by omega) (by decide)
  have i4 := inc_ge x4 4 (by omega) (by decide)
  have v1 : vp_in (x4 + 1) L := vp_in_iff.mpr (by rw [i1]; omega)
  have v2 : vp_in (x4 + 2) L := vp_in_iff.mpr (by rw [i2]; omega)
  have v3 : vp_in (x4 + 3) L := vp_in_iff.mpr (by rw [i3]; omega)
  have v4 : vp_in (x4 + 4) L := vp_in_iff.mpr (by rw [i4]; omega)
  refine lv_aload_n hx hb dL_law_900 rfl (lv_at hl 3 rfl) ?_
  refine lv_aload_n hx hb dL_law_901 rfl (lv_at hl 4 rfl) ?_
  refine lv_iload hx hb dL_law_902 (lv_at hl 0 rfl) ?_
  refine lv_iconst (v := 1) hx hb dL_law_904 (by decide) ?_
  refine lv_iadd hx hb dL_law_905 ?_
  refine va_sld hx hb hX hbl hbA hS v1 dL_law_906 ?_
  refine lv_aload_n hx hb dL_law_907 rfl (lv_at hl 4 rfl) ?_
  refine lv_iload hx hb dL_law_908 (lv_at hl 0 rfl) ?_
  refine lv_iconst (v := 2) hx hb dL_law_910 (by decide) ?_
  refine lv_iadd hx hb dL_law_911 ?_
  refine va_sld hx hb hX hbl hbA hS v2 dL_law_912 ?_
  refine lv_aload_n hx hb dL_law_913 rfl (lv_at hl 4 rfl) ?_
  refine lv_iload hx hb dL_law_914 (lv_at hl 0 rfl) ?_
  refine lv_iconst (v := 3) hx hb dL_law_916 (by decide) ?_
  refine lv_iadd hx hb dL_law_917 ?_
  refine va_sld hx hb hX hbl hbA hS v3 dL_law_918 ?_
  refine lv_aload_n hx hb dL_law_919 rfl (lv_at hl 1 rfl) ?_
  refine va_calli (vx_runSW (As := [.ref (q 0), .int (xs (x4 + 1).toNatClampNeg), .int (xs (x4 + 2).toNatClampNeg), .int (xs (x4 + 3).toNatClampNeg), .ref o]) (rest := []) ⟨hx, hb, hml, hown, hts⟩ (c_L_use l hst dC dI q k o ko f sc (xs (x4 + 1).toNatClampNeg) (xs (x4 + 2).toNatClampNeg) (xs (x4 + 3).toNatClampNeg) hq ho hokC _ rfl) (vx_cwSW 5 hts gL_law_L_use rfl rfl rfl (by decide +kernel) ⟨Nat.le_of_ble_eq_true rfl, Nat.le_of_ble_eq_true rfl⟩) ⟨fb_L, fun U hU hW => ⟨rfl, by rw [hU]; exact hPC, by rw [hU]; exact hPO, hKC.warm hW, va_K.moved hW.alike hKO, by rw [hU]; exact ((hTH.kept hS.2.1).narrow hAO).warm hW, hNC.moved hW.alike⟩⟩ rfl rfl hl.1 rfl (lv_room (Nat.le_of_ble_eq_true rfl)) dL_law_920 ⟨by show _ ≤ 1132; omega, by show _ ≤ 13853; omega⟩) hS (fun z _ h => hAO z h) (fun z h => hAO z h) (fun r9 f t9 H1 locs ht9 hv9 hp9 hB9 hz9 hk9 hS => ?_)
  rw [ht9] at hB9
  obtain ⟨hPC, hPO⟩ := hB9
  have hPM := keepM hPM hk9 nOM
  obtain ⟨hc, hv⟩ := hp9
  generalize H1 = H at hPC hPO hPM hS ⊢
  refine lv_istore (lv' := [(5, .int r9), (4, .int x4), (3, .ref o), (2, .ref (q2 0)), (1, .ref (q 0)), (0, .ref b)]) hx hb dL_law_923 hl (by decide) rfl (fun ls hl => ?_)
  refine lv_aload_n hx hb dL_law_925 rfl (lv_at hl 3 rfl) ?_
  refine lv_aload_n hx hb dL_law_926 rfl (lv_at hl 5 rfl) ?_
  refine lv_iload hx hb dL_law_927 (lv_at hl 1 rfl) ?_
  refine lv_iconst (v := 1) hx hb dL_law_929 (by decide) ?_
  refine lv_iadd hx hb dL_law_930 ?_
  refine va_sld hx hb hX hbl hbA hS v1 dL_law_931 ?_
  refine lv_aload_n hx hb dL_law_932 rfl (lv_at hl 5 rfl) ?_
  refine lv_iload hx hb dL_law_933 (lv_at hl 1 rfl) ?_
  refine lv_iconst (v := 2) hx hb dL_law_935 (by decide) ?_
  refine lv_iadd hx hb dL_law_936 ?_
  refine va_sld hx hb hX hbl hbA hS v2 dL_law_937 ?_
  refine lv_aload_n hx hb dL_law_938 rfl (lv_at hl 5 rfl) ?_
  refine lv_iload hx hb dL_law_939 (lv_at hl 1 rfl) ?_
  refine lv_iconst (v := 3) hx hb dL_law_941 (by decide) ?_
  refine lv_iadd hx hb dL_law_942 ?_
  refine va_sld hx hb hX hbl hbA hS v3 dL_law_943 ?_
  refine va_calll (va_runV (As := [.int (xs (x4 + 1).toNatClampNeg), .int (xs (x4 + 2).toNatClampNeg), .int (xs (x4 + 3).toNatClampNeg)]) (rest := []) ⟨hx, hb, hml, hown, hts⟩ (c_X10_use l dC dI q2 k2 sm (xs (x4 + 1).toNatClampNeg) (xs (x4 + 2).toNatClampNeg) (xs (x4 + 3).toNatClampNeg) hq2 hokM _ rfl) (cwV 3 hts gL_law_X10_use rfl rfl rfl (by decide +kernel) ⟨Nat.le_of_ble_eq_true rfl, Nat.le_of_ble_eq_true rfl⟩) ⟨fb_M, va_recv hKM.1 hPM (ci := 10) (q0 := 0) rfl rfl, fun U hU hW => ⟨rfl, by rw [hU]; exact hPM, hKM.warm hW⟩⟩ rfl rfl hl.1 rfl (lv_room (Nat.le_of_ble_eq_true rfl)) dL_law_944 ⟨by show _ ≤ 1132; omega, by show _ ≤ 13853; omega⟩) hS (fun z _ h => hA2 z h) (fun z h => hA2 z h) (fun r7 u7 t7 H1 locs ht7 hv7 e7 hB7 hz7 hk7 hS => ?_)
  rw [ht7] at hB7
  have hPC := keepC hPC hk7 nMC
  have hPO := keepO hPO hk7 nMO
  have hPM : va_P (dC, dI) vwCl (wM q2 k2 ((sp_X10_use sm (xs (x4 + 1).toNatClampNeg) (xs (x4 + 2).toNatClampNeg) (xs (x4 + 3).toNatClampNeg)).2)) H1 := hB7
  subst e7
  generalize H1 = H at hPC hPO hPM hS ⊢
  have hr := hR.2.2.2.2.2.2.2.2.2.2.2.2.1 sc sm (xs (x4 + 1).toNatClampNeg) (xs (x4 + 2).toNatClampNeg) (xs (x4 + 3).toNatClampNeg) hRel
  refine lv_lstore (lv' := [(6, .long (sp_X10_use sm (xs (x4 + 1).toNatClampNeg) (xs (x4 + 2).toNatClampNeg) (xs (x4 + 3).toNatClampNeg)).1), (5, .int r9), (4, .int x4), (3, .ref o), (2, .ref (q2 0)), (1, .ref (q 0)), (0, .ref b)]) hx hb dL_law_947 hl (by decide) rfl (fun ls hl => ?_)
  refine lv_aload_n hx hb dL_law_949 rfl (lv_at hl 4 rfl) ?_
  refine vp_callSi (va_Run.run (va_runV (As := []) (rest := []) ⟨hx, hb, hml, hown, hts⟩ (c_X10_thrown l dC dI q2 k2 ((sp_X10_use sm (xs (x4 + 1).toNatClampNeg) (xs (x4 + 2).toNatClampNeg) (xs (x4 + 3).toNatClampNeg)).2) _ rfl) (cwV 0 hts gL_law_X10_thrown rfl rfl rfl (by decide +kernel) ⟨Nat.le_of_ble_eq_true rfl, Nat.le_of_ble_eq_true rfl⟩) ⟨fb_M, va_recv hKM.1 hPM (ci := 10) (q0 := 0) rfl rfl, fun U hU hW => ⟨rfl, by rw [hU]; exact hPM, hKM.warm hW⟩⟩ rfl rfl hl.1 rfl (lv_room (Nat.le_of_ble_eq_true rfl)) dL_law_950 ⟨by show _ ≤ 1132; omega, by show _ ≤ 13853; omega⟩)) (fun r8 e8 => ?_)
  subst e8
  refine lv_iload hx hb dL_law_953 (lv_at hl 1 rfl) ?_
  refine lv_icmp_eq (tgt := 960) hx hb dL_law_955 (by decide) (fun he9 => ?_) (fun he9 => absurd (hr.1.trans hc.symm : sp_X10_thrown _ = r9) he9)
  refine lv_iload hx hb dL_law_960 (lv_at hl 1 rfl) ?_
  refine lv_if_ne (tgt := 976) hx hb dL_law_962 (by decide) (fun hn9 => ?_) (fun hz8 => ?_)
  · have hn8 := hn9
    refine lv_goto (tgt := 1278) hx hb dL_law_976 (by decide) ?_
    exact kj _ _ _ _ _ ls hr.2.2 ⟨hPC, hPM, hPO, hS⟩ (lv_sub hl [2, 3, 4, 5, 6] rfl)
  · have hz7 := hz8
    refine lv_aload_n hx hb dL_law_965 rfl (lv_at hl 3 rfl) ?_
    refine lv_iconst (v := 0) hx hb dL_law_966 (by decide) ?_
    refine va_lald hx hb hKO hPO 0 0 (f := f) (n := 1) (cA := ko) rfl rfl (i := 0) (vp_in_iff.mpr (by decide)) dL_law_967 ?_
    refine lv_lload hx hb dL_law_968 (lv_at hl 0 rfl) ?_
    refine W.lcmp hx hb dL_law_970 ?_
    refine lv_if_eq (tgt := 976) hx hb dL_law_971 (by decide) (fun he9 => ?_) (fun he9 => absurd ((hv (cL0 (code_use sc (xs (x4 + 1).toNatClampNeg) (xs (x4 + 2).toNatClampNeg) (xs (x4 + 3).toNatClampNeg)) (hc.symm.trans hz8))).trans (hr.2.1 (cL0 (code_use sc (xs (x4 + 1).toNatClampNeg) (xs (x4 + 2).toNatClampNeg) (xs (x4 + 3).toNatClampNeg)) (hc.symm.trans hz8)))) (lgc he9))
    refine lv_goto (tgt := 1278) hx hb dL_law_976 (by decide) ?_
    exact kj _ _ _ _ _ ls hr.2.2 ⟨hPC, hPM, hPO, hS⟩ (lv_sub hl [2, 3, 4, 5, 6] rfl)
set_option maxHeartbeats 8000000 in
set_option maxRecDepth 100000 in
theorem law_case_11 {p : Program} {l : Launch} {e : Env} {s : State} {m : MethodId} {below : List Frame} {meth : Method} {c : Code} {b L : Nat} {xs : Nat → Int32} {dC : Nat → ClassId} {dI : Nat → Nat → Nat} {q q2 : Nat → Nat} {k k2 : Nat → ClassId} {o : Nat} {ko : ClassId} {R : St → St → Prop} (hR : RefAll R) (C0 : LCx p l s m c b L xs dC dI q q2 k k2 o ko) (t : Nat) (ht : 5 * t + 5 ≤ L) (hL : L ≤ 2560) (x4 : Int32) (hx4 : x4.toInt = 5 * t) (sc sm : St) (f : Nat → Int64) (H : Heap) (locs : List Loc) (hRel : R sc sm) (hW0 : LSx s dC dI q q2 k k2 o ko sc sm f H locs) (ls : Array Slot) (hl : lv_has ls 8 [(4, .int x4), (3, .ref o), (2, .ref (q2 0)), (1, .ref (q 0)), (0, .ref b)])
    (kj : ∀ (sc sm : St) (f : Nat → Int64) (H : Heap) (locs : List Loc) (ls : Array Slot), R sc sm → LSx s dC dI q q2 k k2 o ko sc sm f H locs → lv_has ls 8 [(4, .int x4), (3, .ref o), (2, .ref (q2 0)), (1, .ref (q 0)), (0, .ref b)] → W p l e room_1 s m #[Value.ref b] below meth c H locs (79 + t + 1) (5487 + 6 * t + 6) (lw_Z below #[Value.ref b] s) (F0 m 1278 ls [])) :
    W p l e room_1 s m #[Value.ref b] below meth c H locs (79 + t) (5487 + 6 * t) (lw_Z below #[Value.ref b] s) (F0 m 979 ls []) := by
  obtain ⟨hx, hb, hml, hown, hts, hX, hbl, hst, hKC, hKM, hKO, hTH, hNC, hq, hq2, ho, ho2, hqq, hqb, hqb2, hob⟩ := C0
  obtain ⟨hPC, hPM, hPO, hS⟩ := hW0
  have hbA : ¬ (A0 s) b := Nat.not_le.mpr hbl
  have hokC := (hR.1 sc sm hRel).1
  have hokM := (hR.1 sc sm hRel).2
  have hA : ∀ z, aC q z → A0 s z := fun z ⟨j, hj, e9⟩ => by rw [e9]; exact hqb j hj
  have hA2 : ∀ z, aM q2 z → A0 s z := fun z ⟨j, hj, e9⟩ => by rw [e9]; exact hqb2 j hj
  have hAO : ∀ z, aO q o z → A0 s z := fun z h => h.elim (hA z) (fun h => by rw [h]; exact hob)
  have nCM : ∀ j, j < 35 → ¬ aC q (q2 j) := fun j hj ⟨i, hi, e9⟩ => hqq i j hi hj e9.symm
  have nOM : ∀ j, j < 35 → ¬ aO q o (q2 j) := fun j hj h => h.elim (nCM j hj) (fun h => ho2 j hj h)
  have nMC : ∀ j, j < 43 → ¬ aM q2 (q j) := fun j hj ⟨i, hi, e9⟩ => hqq j i hj hi e9
  have nMO : ¬ aM q2 o := fun ⟨i, hi, e9⟩ => ho2 i hi e9.symm
  have i1 := inc_ge x4 1 (by omega) (by decide)
  have i2 := inc_ge x4 2 (by omega) (by decide)
  have i3 := inc_ge x4 3 (by omega) (by decide)
  have i4 := inc_ge x4 4 (by omega) (by decide)
  have v1 : vp_in (x4 + 1) L := vp_in_iff.mpr (by rw [i1]; omega)
  have v2 : vp_in (x4 + 2) L := vp_in_iff.mpr (by rw [i2]; omega)
  have v3 : vp_in (x4 + 3) L := vp_in_iff.mpr (by rw [i3]; omega)
  have v4 : vp_in (x4 + 4) L := vp_in_iff.mpr (by rw [i4]; omega)
  refine lv_aload_n hx hb dL_law_979 rfl (lv_at hl 3 rfl) ?_
  refine vp_callSi (va_Run.run (va_runV (As := []) (rest := []) ⟨hx, hb, hml, hown, hts⟩ (c_X9_why l dC dI q k sc   _ rfl) (cwV 0 hts gL_law_X9_why rfl rfl rfl (by decide +kernel) ⟨Nat.le_of_ble_eq_true rfl, Nat.le_of_ble_eq_true rfl⟩) ⟨fb_C, va_recv hKC.1 hPC (ci := 9) (q0 := 0) rfl rfl, fun U hU hW => ⟨rfl, by rw [hU]; exact hPC, hKC.warm hW⟩⟩ rfl rfl hl.1 rfl (lv_room (Nat.le_of_ble_eq_true rfl)) dL_law_980 ⟨by show _ ≤ 1132; omega, by show _ ≤ 13853; omega⟩)) (fun r8 e8 => ?_)
  subst e8
  refine lv_aload_n hx hb dL_law_983 rfl (lv_at hl 2 rfl) ?_
  refine va_calli (va_runV (As := []) (rest := [.int (sp_X9_why sc)]) ⟨hx, hb, hml, hown, hts⟩ (c_X10_why l dC dI q2 k2 sm  hq2 _ rfl) (cwV 0 hts gL_law_X10_why rfl rfl rfl (by decide +kernel) ⟨Nat.le_of_ble_eq_true rfl, Nat.le_of_ble_eq_true rfl⟩) ⟨fb_M, va_recv hKM.1 hPM (ci := 10) (q0 := 0) rfl rfl, fun U hU hW => ⟨rfl, by rw [hU]; exact hPM, hKM.warm hW⟩⟩ rfl rfl hl.1 rfl (lv_room (Nat.le_of_ble_eq_true rfl)) dL_law_984 ⟨by show _ ≤ 1132; omega, by show _ ≤ 13853; omega⟩) hS (fun z _ h => hA2 z h) (fun z h => hA2 z h) (fun r7 u7 t7 H1 locs ht7 hv7 e7 hB7 hz7 hk7 hS => ?_)
  rw [ht7] at hB7
  have hPC := keepC hPC hk7 nMC
  have hPO := keepO hPO hk7 nMO
  have hPM : va_P (dC, dI) vwCl (wM q2 k2 ((sp_X10_why sm).2)) H1 := hB7
  subst e7
  generalize H1 = H at hPC hPO hPM hS ⊢
  have hr := hR.2.2.2.2.2.2.2.2.2.2.2.2.2.1 sc sm hRel
  refine lv_icmp_eq (tgt := 1278) hx hb dL_law_987 (by decide) (fun he9 => ?_) (fun he9 => absurd hr.1 he9)
  refine W.widen (k := 79 + t + 1) (n := 5487 + 6 * t + 6) (by omega) (by omega) ?_
  exact kj _ _ _ _ _ ls hr.2 ⟨hPC, hPM, hPO, hS⟩ (lv_sub hl [0, 1, 2, 3, 4] rfl)
set_option maxHeartbeats 8000000 in
set_option maxRecDepth 100000 in
theorem law_case_12 {p : Program} {l : Launch} {e : Env} {s : State} {m : MethodId} {below : List Frame} {meth : Method} {c : Code} {b L : Nat} {xs : Nat → Int32} {dC : Nat → ClassId} {dI : Nat → Nat → Nat} {q q2 : Nat → Nat} {k k2 : Nat → ClassId} {o : Nat} {ko : ClassId} {R : St → St → Prop} (hR : RefAll R) (C0 : LCx p l s m c b L xs dC dI q q2 k k2 o ko) (t : Nat) (ht : 5 * t + 5 ≤ L) (hL : L ≤ 2560) (x4 : Int32) (hx4 : x4.toInt = 5 * t) (sc sm : St) (f : Nat → Int64) (H : Heap) (locs : List Loc) (hRel : R sc sm) (hW0 : LSx s dC dI q q2 k k2 o ko sc sm f H locs) (ls : Array Slot) (hl : lv_has ls 8 [(4, .int x4), (3, .ref o), (2, .ref (q2 0)), (1, .ref (q 0)), (0, .ref b)])
    (kj : ∀ (sc sm : St) (f : Nat → Int64) (H : Heap) (locs : List Loc) (ls : Array Slot), R sc sm → LSx s dC dI q q2 k k2 o ko sc sm f H locs → lv_has ls 8 [(4, .int x4), (3, .ref o), (2, .ref (q2 0)), (1, .ref (q 0)), (0, .ref b)] → W p l e room_1 s m #[Value.ref b] below meth c H locs (79 + t + 1) (5487 + 6 * t + 6) (lw_Z below #[Value.ref b] s) (F0 m 1278 ls [])) :
    W p l e room_1 s m #[Value.ref b] below meth c H locs (79 + t) (5487 + 6 * t) (lw_Z below #[Value.ref b] s) (F0 m 992 ls []) := by
  obtain ⟨hx, hb, hml, hown, hts, hX, hbl, hst, hKC, hKM, hKO, hTH, hNC, hq, hq2, ho, ho2, hqq, hqb, hqb2, hob⟩ := C0
  obtain ⟨hPC, hPM, hPO, hS⟩ := hW0
  have hbA : ¬ (A0 s) b := Nat.not_le.mpr hbl
  have hokC := (hR.1 sc sm hRel).1
  have hokM := (hR.1 sc sm hRel).2
  have hA : ∀ z, aC q z → A0 s z := fun z ⟨j, hj, e9⟩ => by rw [e9]; exact hqb j hj
  have hA2 : ∀ z, aM q2 z → A0 s z := fun z ⟨j, hj, e9⟩ => by rw [e9]; exact hqb2 j hj
  have hAO : ∀ z, aO q o z → A0 s z := fun z h => h.elim (hA z) (fun h => by rw [h]; exact hob)
  have nCM : ∀ j, j < 35 → ¬ aC q (q2 j) := fun j hj ⟨i, hi, e9⟩ => hqq i j hi hj e9.symm
  have nOM : ∀ j, j < 35 → ¬ aO q o (q2 j) := fun j hj h => h.elim (nCM j hj) (fun h => ho2 j hj h)
  have nMC : ∀ j, j < 43 → ¬ aM q2 (q j) := fun j hj ⟨i, hi, e9⟩ => hqq j i hj hi e9
  have nMO : ¬ aM q2 o := fun ⟨i, hi, e9⟩ => ho2 i hi e9.symm
  have i1 := inc_ge x4 1 (by omega) (by decide)
  have i2 := inc_ge x4 2 (by omega) (by decide)
  have i3 := inc_ge x4 3 (by omega) (by decide)
  have i4 := inc_ge x4 4 (by omega) (by decide)
  have v1 : vp_in (x4 + 1) L := vp_in_iff.mpr (by rw [i1]; omega)
  have v2 : vp_in (x4 + 2) L := vp_in_iff.mpr (by rw [i2]; omega)
  have v3 : vp_in (x4 + 3) L := vp_in_iff.mpr (by rw [i3]; omega)
  have v4 : vp_in (x4 + 4) L := vp_in_iff.mpr (by rw [i4]; omega)
  refine lv_aload_n hx hb dL_law_992 rfl (lv_at hl 3 rfl) ?_
  refine lv_aload_n hx hb dL_law_993 rfl (lv_at hl 4 rfl) ?_
  refine lv_iload hx hb dL_law_994 (lv_at hl 0 rfl) ?_
  refine lv_iconst (v := 1) hx hb dL_law_996 (by decide) ?_
  refine lv_iadd hx hb dL_law_997 ?_
  refine va_sld hx hb hX hbl hbA hS v1 dL_law_998 ?_
  refine lv_aload_n hx hb dL_law_999 rfl (lv_at hl 4 rfl) ?_
  refine lv_iload hx hb dL_law_1000 (lv_at hl 0 rfl) ?_
  refine lv_iconst (v := 2) hx hb dL_law_1002 (by decide) ?_
  refine lv_iadd hx hb dL_law_1003 ?_
  refine va_sld hx hb hX hbl hbA hS v2 dL_law_1004 ?_
  refine lv_aload_n hx hb dL_law_1005 rfl (lv_at hl 1 rfl) ?_
  refine va_calli (vx_runSW (As := [.ref (q 0), .int (xs (x4 + 1).toNatClampNeg), .int (xs (x4 + 2).toNatClampNeg), .ref o]) (rest := []) ⟨hx, hb, hml, hown, hts⟩ (c_L_erase l hst dC dI q k o ko f sc (xs (x4 + 1).toNatClampNeg) (xs (x4 + 2).toNatClampNeg) hq ho hokC _ rfl) (vx_cwSW 4 hts gL_law_L_erase rfl rfl rfl (by decide +kernel) ⟨Nat.le_of_ble_eq_true rfl, Nat.le_of_ble_eq_true rfl⟩) ⟨fb_L, fun U hU hW => ⟨rfl, by rw [hU]; exact hPC, by rw [hU]; exact hPO, hKC.warm hW, va_K.moved hW.alike hKO, by rw [hU]; exact ((hTH.kept hS.2.1).narrow hAO).warm hW, hNC.moved hW.alike⟩⟩ rfl rfl hl.1 rfl (lv_room (Nat.le_of_ble_eq_true rfl)) dL_law_1006 ⟨by show _ ≤ 1132; omega, by show _ ≤ 13853; omega⟩) hS (fun z _ h => hAO z h) (fun z h => hAO z h) (fun r9 f t9 H1 locs ht9 hv9 hp9 hB9 hz9 hk9 hS => ?_)
  rw [ht9] at hB9
  obtain ⟨hPC, hPO⟩ := hB9
  have hPM := keepM hPM hk9 nOM
  obtain ⟨hc, hv⟩ := hp9
  generalize H1 = H at hPC hPO hPM hS ⊢
  refine lv_istore (lv' := [(5, .int r9), (4, .int x4), (3, .ref o), (2, .ref (q2 0)), (1, .ref (q 0)), (0, .ref b)]) hx hb dL_law_1009 hl (by decide) rfl (fun ls hl => ?_)
  refine lv_aload_n hx hb dL_law_1011 rfl (lv_at hl 3 rfl) ?_
  refine lv_aload_n hx hb dL_law_1012 rfl (lv_at hl 5 rfl) ?_
  refine lv_iload hx hb dL_law_1013 (lv_at hl 1 rfl) ?_
  refine lv_iconst (v := 1) hx hb dL_law_1015 (by decide) ?_
  refine lv_iadd hx hb dL_law_1016 ?_
  refine va_sld hx hb hX hbl hbA hS v1 dL_law_1017 ?_
  refine lv_aload_n hx hb dL_law_1018 rfl (lv_at hl 5 rfl) ?_
  refine lv_iload hx hb dL_law_1019 (lv_at hl 1 rfl) ?_
  refine lv_iconst (v := 2) hx hb dL_law_1021 (by decide) ?_
  refine lv_iadd hx hb dL_law_1022 ?_
  refine va_sld hx hb hX hbl hbA hS v2 dL_law_1023 ?_
  refine va_calli (va_runV (As := [.int (xs (x4 + 1).toNatClampNeg), .int (xs (x4 + 2).toNatClampNeg)]) (rest := []) ⟨hx, hb, hml, hown, hts⟩ (c_X10_erase l dC dI q2 k2 sm (xs (x4 + 1).toNatClampNeg) (xs (x4 + 2).toNatClampNeg) hq2 hokM _ rfl) (cwV 2 hts gL_law_X10_erase rfl rfl rfl (by decide +kernel) ⟨Nat.le_of_ble_eq_true rfl, Nat.le_of_ble_eq_true rfl⟩) ⟨fb_M, va_recv hKM.1 hPM (ci := 10) (q0 := 0) rfl rfl, fun U hU hW => ⟨rfl, by rw [hU]; exact hPM, hKM.warm hW⟩⟩ rfl rfl hl.1 rfl (lv_room (Nat.le_of_ble_eq_true rfl)) dL_law_1024 ⟨by show _ ≤ 1132; omega, by show _ ≤ 13853; omega⟩) hS (fun z _ h => hA2 z h) (fun z h => hA2 z h) (fun r7 u7 t7 H1 locs ht7 hv7 e7 hB7 hz7 hk7 hS => ?_)
  rw [ht7] at hB7
  have hPC := keepC hPC hk7 nMC
  have hPO := keepO hPO hk7 nMO
  have hPM : va_P (dC, dI) vwCl (wM q2 k2 ((sp_X10_erase sm (xs (x4 + 1).toNatClampNeg) (xs (x4 + 2).toNatClampNeg)).2)) H1 := hB7
  subst e7
  generalize H1 = H at hPC hPO hPM hS ⊢
  have hr := hR.2.2.2.2.2.2.2.2.2.2.2.2.2.2.1 sc sm (xs (x4 + 1).toNatClampNeg) (xs (x4 + 2).toNatClampNeg) hRel
  refine lv_istore (lv' := [(6, .int (sp_X10_erase sm (xs (x4 + 1).toNatClampNeg) (xs (x4 + 2).toNatClampNeg)).1), (5, .int r9), (4, .int x4), (3, .ref o), (2, .ref (q2 0)), (1, .ref (q 0)), (0, .ref b)]) hx hb dL_law_1027 hl (by decide) rfl (fun ls hl => ?_)
  refine lv_aload_n hx hb dL_law_1029 rfl (lv_at hl 4 rfl) ?_
  refine vp_callSi (va_Run.run (va_runV (As := []) (rest := []) ⟨hx, hb, hml, hown, hts⟩ (c_X10_thrown l dC dI q2 k2 ((sp_X10_erase sm (xs (x4 + 1).toNatClampNeg) (xs (x4 + 2).toNatClampNeg)).2) _ rfl) (cwV 0 hts gL_law_X10_thrown rfl rfl rfl (by decide +kernel) ⟨Nat.le_of_ble_eq_true rfl, Nat.le_of_ble_eq_true rfl⟩) ⟨fb_M, va_recv hKM.1 hPM (ci := 10) (q0 := 0) rfl rfl, fun U hU hW => ⟨rfl, by rw [hU]; exact hPM, hKM.warm hW⟩⟩ rfl rfl hl.1 rfl (lv_room (Nat.le_of_ble_eq_true rfl)) dL_law_1030 ⟨by show _ ≤ 1132; omega, by show _ ≤ 13853; omega⟩)) (fun r8 e8 => ?_)
  subst e8
  refine lv_iload hx hb dL_law_1033 (lv_at hl 1 rfl) ?_
  refine lv_icmp_eq (tgt := 1040) hx hb dL_law_1035 (by decide) (fun he9 => ?_) (fun he9 => absurd (hr.1.trans hc.symm : sp_X10_thrown _ = r9) he9)
  refine lv_iload hx hb dL_law_1040 (lv_at hl 1 rfl) ?_
  refine lv_if_ne (tgt := 1057) hx hb dL_law_1042 (by decide) (fun hn9 => ?_) (fun hz8 => ?_)
  · have hn8 := hn9
    refine lv_goto (tgt := 1278) hx hb dL_law_1057 (by decide) ?_
    exact kj _ _ _ _ _ ls hr.2.2 ⟨hPC, hPM, hPO, hS⟩ (lv_sub hl [2, 3, 4, 5, 6] rfl)
  · have hz7 := hz8
    refine lv_aload_n hx hb dL_law_1045 rfl (lv_at hl 3 rfl) ?_
    refine lv_iconst (v := 0) hx hb dL_law_1046 (by decide) ?_
    refine va_lald hx hb hKO hPO 0 0 (f := f) (n := 1) (cA := ko) rfl rfl (i := 0) (vp_in_iff.mpr (by decide)) dL_law_1047 ?_
    refine lv_iload hx hb dL_law_1048 (lv_at hl 0 rfl) ?_
    refine lv_i2l (v := ((sp_X10_erase sm (xs (x4 + 1).toNatClampNeg) (xs (x4 + 2).toNatClampNeg)).1).toInt64) hx hb dL_law_1050 rfl ?_
    refine W.lcmp hx hb dL_law_1051 ?_
    refine lv_if_eq (tgt := 1057) hx hb dL_law_1052 (by decide) (fun he9 => ?_) (fun he9 => absurd ((hv (hc.symm.trans hz8)).trans (congrArg Int32.toInt64 (hr.2.1 (hc.symm.trans hz8)))) (lgc he9))
    refine lv_goto (tgt := 1278) hx hb dL_law_1057 (by decide) ?_
    exact kj _ _ _ _ _ ls hr.2.2 ⟨hPC, hPM, hPO, hS⟩ (lv_sub hl [2, 3, 4, 5, 6] rfl)
set_option maxHeartbeats 8000000 in
set_option maxRecDepth 100000 in
theorem law_case_13 {p : Program} {l : Launch} {e : Env} {s : State} {m : MethodId} {below : List Frame} {meth : Method} {c : Code} {b L : Nat} {xs : Nat → Int32} {dC : Nat → ClassId} {dI : Nat → Nat → Nat} {q q2 : Nat → Nat} {k k2 : Nat → ClassId} {o : Nat} {ko : ClassId} {R : St → St → Prop} (hR : RefAll R) (C0 : LCx p l s m c b L xs dC dI q q2 k k2 o ko) (t : Nat) (ht : 5 * t + 5 ≤ L) (hL : L ≤ 2560) (x4 : Int32) (hx4 : x4.toInt = 5 * t) (sc sm : St) (f : Nat → Int64) (H : Heap) (locs : List Loc) (hRel : R sc sm) (hW0 : LSx s dC dI q q2 k k2 o ko sc sm f H locs) (ls : Array Slot) (hl : lv_has ls 8 [(4, .int x4), (3, .ref o), (2, .ref (q2 0)), (1, .ref (q 0)), (0, .ref b)])
    (kj : ∀ (sc sm : St) (f : Nat → Int64) (H : Heap) (locs : List Loc) (ls : Array Slot), R sc sm → LSx s dC dI q q2 k k2 o ko sc sm f H locs → lv_has ls 8 [(4, .int x4), (3, .ref o), (2, .ref (q2 0)), (1, .ref (q 0)), (0, .ref b)] → W p l e room_1 s m #[Value.ref b] below meth c H locs (79 + t + 1) (5487 + 6 * t + 6) (lw_Z below #[Value.ref b] s) (F0 m 1278 ls [])) :
    W p l e room_1 s m #[Value.ref b] below meth c H locs (79 + t) (5487 + 6 * t) (lw_Z below #[Value.ref b] s) (F0 m 1060 ls []) := by
  obtain ⟨hx, hb, hml, hown, hts, hX, hbl, hst, hKC, hKM, hKO, hTH, hNC, hq, hq2, ho, ho2, hqq, hqb, hqb2, hob⟩ := C0
  obtain ⟨hPC, hPM, hPO, hS⟩ := hW0
  have hbA : ¬ (A0 s) b := Nat.not_le.mpr hbl
  have hokC := (hR.1 sc sm hRel).1
  have hokM := (hR.1 sc sm hRel).2
  have hA : ∀ z, aC q z → A0 s z := fun z ⟨j, hj, e9⟩ => by rw [e9]; exact hqb j hj
  have hA2 : ∀ z, aM q2 z → A0 s z := fun z ⟨j, hj, e9⟩ => by rw [e9]; exact hqb2 j hj
  have hAO : ∀ z, aO q o z → A0 s z := fun z h => h.elim (hA z) (fun h => by rw [h]; exact hob)
  have nCM : ∀ j, j < 35 → ¬ aC q (q2 j) := fun j hj ⟨i, hi, e9⟩ => hqq i j hi hj e9.symm
  have nOM : ∀ j, j < 35 → ¬ aO q o (q2 j) := fun j hj h => h.elim (nCM j hj) (fun h => ho2 j hj h)
  have nMC : ∀ j, j < 43 → ¬ aM q2 (q j) := fun j hj ⟨i, hi, e9⟩ => hqq j i hj hi e9
  have nMO : ¬ aM q2 o := fun ⟨i, hi, e9⟩ => ho2 i hi e9.symm
  have i1 := inc_ge x4 1 (by omega) (by decide)
  have i2 := inc_ge x4 2 (by omega) (by decide)
  have i3 := inc_ge x4 3 (by omega) (by decide)
  have i4 := inc_ge x4 4 (by omega) (by decide)
  have v1 : vp_in (x4 + 1) L := vp_in_iff.mpr (by rw [i1]; omega)
  have v2 : vp_in (x4 + 2) L := vp_in_iff.mpr (by rw [i2]; omega)
  have v3 : vp_in (x4 + 3) L := vp_in_iff.mpr (by rw [i3]; omega)
  have v4 : vp_in (x4 + 4) L := vp_in_iff.mpr (by rw [i4]; omega)
  refine lv_aload_n hx hb dL_law_1060 rfl (lv_at hl 3 rfl) ?_
  refine lv_aload_n hx hb dL_law_1061 rfl (lv_at hl 4 rfl) ?_
  refine lv_iload hx hb dL_law_1062 (lv_at hl 0 rfl) ?_
  refine lv_iconst (v := 1) hx hb dL_law_1064 (by decide) ?_
  refine lv_iadd hx hb dL_law_1065 ?_
  refine va_sld hx hb hX hbl hbA hS v1 dL_law_1066 ?_
  refine lv_aload_n hx hb dL_law_1067 rfl (lv_at hl 1 rfl) ?_
  refine va_calli (vx_runSW (As := [.ref (q 0), .int (xs (x4 + 1).toNatClampNeg), .ref o]) (rest := []) ⟨hx, hb, hml, hown, hts⟩ (c_L_sweep l hst dC dI q k o ko f sc (xs (x4 + 1).toNatClampNeg) hq ho hokC _ rfl) (vx_cwSW 3 hts gL_law_L_sweep rfl rfl rfl (by decide +kernel) ⟨Nat.le_of_ble_eq_true rfl, Nat.le_of_ble_eq_true rfl⟩) ⟨fb_L, fun U hU hW => ⟨rfl, by rw [hU]; exact hPC, by rw [hU]; exact hPO, hKC.warm hW, va_K.moved hW.alike hKO, by rw [hU]; exact ((hTH.kept hS.2.1).narrow hAO).warm hW, hNC.moved hW.alike⟩⟩ rfl rfl hl.1 rfl (lv_room (Nat.le_of_ble_eq_true rfl)) dL_law_1068 ⟨by show _ ≤ 1132; omega, by show _ ≤ 13853; omega⟩) hS (fun z _ h => hAO z h) (fun z h => hAO z h) (fun r9 f t9 H1 locs ht9 hv9 hp9 hB9 hz9 hk9 hS => ?_)
  rw [ht9] at hB9
  obtain ⟨hPC, hPO⟩ := hB9
  have hPM := keepM hPM hk9 nOM
  obtain ⟨hc, hv⟩ := hp9
  generalize H1 = H at hPC hPO hPM hS ⊢
  refine lv_istore (lv' := [(5, .int r9), (4, .int x4), (3, .ref o), (2, .ref (q2 0)), (1, .ref (q 0)), (0, .ref b)]) hx hb dL_law_1071 hl (by decide) rfl (fun ls hl => ?_)
  refine lv_aload_n hx hb dL_law_1073 rfl (lv_at hl 3 rfl) ?_
  refine lv_aload_n hx hb dL_law_1074 rfl (lv_at hl 5 rfl) ?_
  refine lv_iload hx hb dL_law_1075 (lv_at hl 1 rfl) ?_
  refine lv_iconst (v := 1) hx hb dL_law_1077 (by decide) ?_
  refine lv_iadd hx hb dL_law_1078 ?_
  refine va_sld hx hb hX hbl hbA hS v1 dL_law_1079 ?_
  refine va_calli (va_runV (As := [.int (xs (x4 + 1).toNatClampNeg)]) (rest := []) ⟨hx, hb, hml, hown, hts⟩ (c_X10_sweep l dC dI q2 k2 sm (xs (x4 + 1).toNatClampNeg) hq2 hokM _ rfl) (cwV 1 hts gL_law_X10_sweep rfl rfl rfl (by decide +kernel) ⟨Nat.le_of_ble_eq_true rfl, Nat.le_of_ble_eq_true rfl⟩) ⟨fb_M, va_recv hKM.1 hPM (ci := 10) (q0 := 0) rfl rfl, fun U hU hW => ⟨rfl, by rw [hU]; exact hPM, hKM.warm hW⟩⟩ rfl rfl hl.1 rfl (lv_room (Nat.le_of_ble_eq_true rfl)) dL_law_1080 ⟨by show _ ≤ 1132; omega, by show _ ≤ 13853; omega⟩) hS (fun z _ h => hA2 z h) (fun z h => hA2 z h) (fun r7 u7 t7 H1 locs ht7 hv7 e7 hB7 hz7 hk7 hS => ?_)
  rw [ht7] at hB7
  have hPC := keepC hPC hk7 nMC
  have hPO := keepO hPO hk7 nMO
  have hPM : va_P (dC, dI) vwCl (wM q2 k2 ((sp_X10_sweep sm (xs (x4 + 1).toNatClampNeg)).2)) H1 := hB7
  subst e7
  generalize H1 = H at hPC hPO hPM hS ⊢
  have hr := hR.2.2.2.2.2.2.2.2.2.2.2.2.2.2.2.1 sc sm (xs (x4 + 1).toNatClampNeg) hRel
  refine lv_istore (lv' := [(6, .int (sp_X10_sweep sm (xs (x4 + 1).toNatClampNeg)).1), (5, .int r9), (4, .int x4), (3, .ref o), (2, .ref (q2 0)), (1, .ref (q 0)), (0, .ref b)]) hx hb dL_law_1083 hl (by decide) rfl (fun ls hl => ?_)
  refine lv_aload_n hx hb dL_law_1085 rfl (lv_at hl 4 rfl) ?_
  refine vp_callSi (va_Run.run (va_runV (As := []) (rest := []) ⟨hx, hb, hml, hown, hts⟩ (c_X10_thrown l dC dI q2 k2 ((sp_X10_sweep sm (xs (x4 + 1).toNatClampNeg)).2) _ rfl) (cwV 0 hts gL_law_X10_thrown rfl rfl rfl (by decide +kernel) ⟨Nat.le_of_ble_eq_true rfl, Nat.le_of_ble_eq_true rfl⟩) ⟨fb_M, va_recv hKM.1 hPM (ci := 10) (q0 := 0) rfl rfl, fun U hU hW => ⟨rfl, by rw [hU]; exact hPM, hKM.warm hW⟩⟩ rfl rfl hl.1 rfl (lv_room (Nat.le_of_ble_eq_true rfl)) dL_law_1086 ⟨by show _ ≤ 1132; omega, by show _ ≤ 13853; omega⟩)) (fun r8 e8 => ?_)
  subst e8
  refine lv_iload hx hb dL_law_1089 (lv_at hl 1 rfl) ?_
  refine lv_icmp_eq (tgt := 1096) hx hb dL_law_1091 (by decide) (fun he9 => ?_) (fun he9 => absurd (hr.1.trans hc.symm : sp_X10_thrown _ = r9) he9)
  refine lv_iload hx hb dL_law_1096 (lv_at hl 1 rfl) ?_
  refine lv_if_ne (tgt := 1113) hx hb dL_law_1098 (by decide) (fun hn9 => ?_) (fun hz8 => ?_)
  · have hn8 := hn9
    refine lv_goto (tgt := 1278) hx hb dL_law_1113 (by decide) ?_
    exact kj _ _ _ _ _ ls hr.2.2 ⟨hPC, hPM, hPO, hS⟩ (lv_sub hl [2, 3, 4, 5, 6] rfl)
  · have hz7 := hz8
    refine lv_aload_n hx hb dL_law_1101 rfl (lv_at hl 3 rfl) ?_
    refine lv_iconst (v := 0) hx hb dL_law_1102 (by decide) ?_
    refine va_lald hx hb hKO hPO 0 0 (f := f) (n := 1) (cA := ko) rfl rfl (i := 0) (vp_in_iff.mpr (by decide)) dL_law_1103 ?_
    refine lv_iload hx hb dL_law_1104 (lv_at hl 0 rfl) ?_
    refine lv_i2l (v := ((sp_X10_sweep sm (xs (x4 + 1).toNatClampNeg)).1).toInt64) hx hb dL_law_1106 rfl ?_
    refine W.lcmp hx hb dL_law_1107 ?_
    refine lv_if_eq (tgt := 1113) hx hb dL_law_1108 (by decide) (fun he9 => ?_) (fun he9 => absurd ((hv (hc.symm.trans hz8)).trans (congrArg Int32.toInt64 (hr.2.1 (hc.symm.trans hz8)))) (lgc he9))
    refine lv_goto (tgt := 1278) hx hb dL_law_1113 (by decide) ?_
    exact kj _ _ _ _ _ ls hr.2.2 ⟨hPC, hPM, hPO, hS⟩ (lv_sub hl [2, 3, 4, 5, 6] rfl)
set_option maxHeartbeats 8000000 in
set_option maxRecDepth 100000 in
theorem law_case_14 {p : Program} {l : Launch} {e : Env} {s : State} {m : MethodId} {below : List Frame} {meth : Method} {c : Code} {b L : Nat} {xs : Nat → Int32} {dC : Nat → ClassId} {dI : Nat → Nat → Nat} {q q2 : Nat → Nat} {k k2 : Nat → ClassId} {o : Nat} {ko : ClassId} {R : St → St → Prop} (hR : RefAll R) (C0 : LCx p l s m c b L xs dC dI q q2 k k2 o ko) (t : Nat) (ht : 5 * t + 5 ≤ L) (hL : L ≤ 2560) (x4 : Int32) (hx4 : x4.toInt = 5 * t) (sc sm : St) (f : Nat → Int64) (H : Heap) (locs : List Loc) (hRel : R sc sm) (hW0 : LSx s dC dI q q2 k k2 o ko sc sm f H locs) (ls : Array Slot) (hl : lv_has ls 8 [(4, .int x4), (3, .ref o), (2, .ref (q2 0)), (1, .ref (q 0)), (0, .ref b)])
    (kj : ∀ (sc sm : St) (f : Nat → Int64) (H : Heap) (locs : List Loc) (ls : Array Slot), R sc sm → LSx s dC dI q q2 k k2 o ko sc sm f H locs → lv_has ls 8 [(4, .int x4), (3, .ref o), (2, .ref (q2 0)), (1, .ref (q 0)), (0, .ref b)] → W p l e room_1 s m #[Value.ref b] below meth c H locs (79 + t + 1) (5487 + 6 * t + 6) (lw_Z below #[Value.ref b] s) (F0 m 1278 ls [])) :
    W p l e room_1 s m #[Value.ref b] below meth c H locs (79 + t) (5487 + 6 * t) (lw_Z below #[Value.ref b] s) (F0 m 1116 ls []) := by
  obtain ⟨hx, hb, hml, hown, hts, hX, hbl, hst, hKC, hKM, hKO, hTH, hNC, hq, hq2, ho, ho2, hqq, hqb, hqb2, hob⟩ := C0
  obtain ⟨hPC, hPM, hPO, hS⟩ := hW0
  have hbA : ¬ (A0 s) b := Nat.not_le.mpr hbl
  have hokC := (hR.1 sc sm hRel).1
  have hokM := (hR.1 sc sm hRel).2
  have hA : ∀ z, aC q z → A0 s z := fun z ⟨j, hj, e9⟩ => by rw [e9]; exact hqb j hj
  have hA2 : ∀ z, aM q2 z → A0 s z := fun z ⟨j, hj, e9⟩ => by rw [e9]; exact hqb2 j hj
  have hAO : ∀ z, aO q o z → A0 s z := fun z h => h.elim (hA z) (fun h => by rw [h]; exact hob)
  have nCM : ∀ j, j < 35 → ¬ aC q (q2 j) := fun j hj ⟨i, hi, e9⟩ => hqq i j hi hj e9.symm
  have nOM : ∀ j, j < 35 → ¬ aO q o (q2 j) := fun j hj h => h.elim (nCM j hj) (fun h => ho2 j hj h)
  have nMC : ∀ j, j < 43 → ¬ aM q2 (q j) := fun j hj ⟨i, hi, e9⟩ => hqq j i hj hi e9
  have nMO : ¬ aM q2 o := fun ⟨i, hi, e9⟩ => ho2 i hi e9.symm
  have i1 := inc_ge x4 1 (by omega) (by decide)
  have i2 := inc_ge x4 2 (by omega) (by decide)
  have i3 := inc_ge x4 3 (by omega) (by decide)
  have i4 := inc_ge x4 4 (by omega) (by decide)
  have v1 : vp_in (x4 + 1) L := vp_in_iff.mpr (by rw [i1]; omega)
  have v2 : vp_in (x4 + 2) L := vp_in_iff.mpr (by rw [i2]; omega)
  have v3 : vp_in (x4 + 3) L := vp_in_iff.mpr (by rw [i3]; omega)
  have v4 : vp_in (x4 + 4) L := vp_in_iff.mpr (by rw [i4]; omega)
  refine lv_aload_n hx hb dL_law_1116 rfl (lv_at hl 3 rfl) ?_
  refine lv_aload_n hx hb dL_law_1117 rfl (lv_at hl 4 rfl) ?_
  refine lv_iload hx hb dL_law_1118 (lv_at hl 0 rfl) ?_
  refine lv_iconst (v := 1) hx hb dL_law_1120 (by decide) ?_
  refine lv_iadd hx hb dL_law_1121 ?_
  refine va_sld hx hb hX hbl hbA hS v1 dL_law_1122 ?_
  refine lv_aload_n hx hb dL_law_1123 rfl (lv_at hl 4 rfl) ?_
  refine lv_iload hx hb dL_law_1124 (lv_at hl 0 rfl) ?_
  refine lv_iconst (v := 2) hx hb dL_law_1126 (by decide) ?_
  refine lv_iadd hx hb dL_law_1127 ?_
  refine va_sld hx hb hX hbl hbA hS v2 dL_law_1128 ?_
  refine vp_callSi (va_Run.run (va_runV (As := [.int (xs (x4 + 1).toNatClampNeg), .int (xs (x4 + 2).toNatClampNeg)]) (rest := []) ⟨hx, hb, hml, hown, hts⟩ (c_X9_held l dC dI q k sc (xs (x4 + 1).toNatClampNeg) (xs (x4 + 2).toNatClampNeg) hokC _ rfl) (cwV 2 hts gL_law_X9_held rfl rfl rfl (by decide +kernel) ⟨Nat.le_of_ble_eq_true rfl, Nat.le_of_ble_eq_true rfl⟩) ⟨fb_C, va_recv hKC.1 hPC (ci := 9) (q0 := 0) rfl rfl, fun U hU hW => ⟨rfl, by rw [hU]; exact hPC, hKC.warm hW⟩⟩ rfl rfl hl.1 rfl (lv_room (Nat.le_of_ble_eq_true rfl)) dL_law_1129 ⟨by show _ ≤ 1132; omega, by show _ ≤ 13853; omega⟩)) (fun r8 e8 => ?_)
  subst e8
  refine lv_aload_n hx hb dL_law_1132 rfl (lv_at hl 2 rfl) ?_
  refine lv_aload_n hx hb dL_law_1133 rfl (lv_at hl 4 rfl) ?_
  refine lv_iload hx hb dL_law_1134 (lv_at hl 0 rfl) ?_
  refine lv_iconst (v := 1) hx hb dL_law_1136 (by decide) ?_
  refine lv_iadd hx hb dL_law_1137 ?_
  refine va_sld hx hb hX hbl hbA hS v1 dL_law_1138 ?_
  refine lv_aload_n hx hb dL_law_1139 rfl (lv_at hl 4 rfl) ?_
  refine lv_iload hx hb dL_law_1140 (lv_at hl 0 rfl) ?_
  refine lv_iconst (v := 2) hx hb dL_law_1142 (by decide) ?_
  refine lv_iadd hx hb dL_law_1143 ?_
  refine va_sld hx hb hX hbl hbA hS v2 dL_law_1144 ?_
  refine va_calli (va_runV (As := [.int (xs (x4 + 1).toNatClampNeg), .int (xs (x4 + 2).toNatClampNeg)]) (rest := [.int (sp_X9_held sc (xs (x4 + 1).toNatClampNeg) (xs (x4 + 2).toNatClampNeg))]) ⟨hx, hb, hml, hown, hts⟩ (c_X10_held l dC dI q2 k2 sm (xs (x4 + 1).toNatClampNeg) (xs (x4 + 2).toNatClampNeg) hq2 hokM.2.1 _ rfl) (cwV 2 hts gL_law_X10_held rfl rfl rfl (by decide +kernel) ⟨Nat.le_of_ble_eq_true rfl, Nat.le_of_ble_eq_true rfl⟩) ⟨fb_M, va_recv hKM.1 hPM (ci := 10) (q0 := 0) rfl rfl, fun U hU hW => ⟨rfl, by rw [hU]; exact hPM, hKM.warm hW⟩⟩ rfl rfl hl.1 rfl (lv_room (Nat.le_of_ble_eq_true rfl)) dL_law_1145 ⟨by show _ ≤ 1132; omega, by show _ ≤ 13853; omega⟩) hS (fun z _ h => hA2 z h) (fun z h => hA2 z h) (fun r7 u7 t7 H1 locs ht7 hv7 e7 hB7 hz7 hk7 hS => ?_)
  rw [ht7] at hB7
  have hPC := keepC hPC hk7 nMC
  have hPO := keepO hPO hk7 nMO
  have hPM : va_P (dC, dI) vwCl (wM q2 k2 ((sp_X10_held sm (xs (x4 + 1).toNatClampNeg) (xs (x4 + 2).toNatClampNeg)).2)) H1 := hB7
  subst e7
  generalize H1 = H at hPC hPO hPM hS ⊢
  have hr := hR.2.2.2.2.2.2.2.2.2.2.2.2.2.2.2.2.1 sc sm (xs (x4 + 1).toNatClampNeg) (xs (x4 + 2).toNatClampNeg) hRel
  refine lv_icmp_eq (tgt := 1278) hx hb dL_law_1148 (by decide) (fun he9 => ?_) (fun he9 => absurd hr.1 he9)
  refine W.widen (k := 79 + t + 1) (n := 5487 + 6 * t + 6) (by omega) (by omega) ?_
  exact kj _ _ _ _ _ ls hr.2 ⟨hPC, hPM, hPO, hS⟩ (lv_sub hl [0, 1, 2, 3, 4] rfl)
set_option maxHeartbeats 8000000 in
set_option maxRecDepth 100000 in
theorem law_case_15 {p : Program} {l : Launch} {e : Env} {s : State} {m : MethodId} {below : List Frame} {meth : Method} {c : Code} {b L : Nat} {xs : Nat → Int32} {dC : Nat → ClassId} {dI : Nat → Nat → Nat} {q q2 : Nat → Nat} {k k2 : Nat → ClassId} {o : Nat} {ko : ClassId} {R : St → St → Prop} (hR : RefAll R) (C0 : LCx p l s m c b L xs dC dI q q2 k k2 o ko) (t : Nat) (ht : 5 * t + 5 ≤ L) (hL : L ≤ 2560) (x4 : Int32) (hx4 : x4.toInt = 5 * t) (sc sm : St) (f : Nat → Int64) (H : Heap) (locs : List Loc) (hRel : R sc sm) (hW0 : LSx s dC dI q q2 k k2 o ko sc sm f H locs) (ls : Array Slot) (hl : lv_has ls 8 [(4, .int x4), (3, .ref o), (2, .ref (q2 0)), (1, .ref (q 0)), (0, .ref b)])
    (kj : ∀ (sc sm : St) (f : Nat → Int64) (H : Heap) (locs : List Loc) (ls : Array Slot), R sc sm → LSx s dC dI q q2 k k2 o ko sc sm f H locs → lv_has ls 8 [(4, .int x4), (3, .ref o), (2, .ref (q2 0)), (1, .ref (q 0)), (0, .ref b)] → W p l e room_1 s m #[Value.ref b] below meth c H locs (79 + t + 1) (5487 + 6 * t + 6) (lw_Z below #[Value.ref b] s) (F0 m 1278 ls [])) :
    W p l e room_1 s m #[Value.ref b] below meth c H locs (79 + t) (5487 + 6 * t) (lw_Z below #[Value.ref b] s) (F0 m 1153 ls []) := by
  obtain ⟨hx, hb, hml, hown, hts, hX, hbl, hst, hKC, hKM, hKO, hTH, hNC, hq, hq2, ho, ho2, hqq, hqb, hqb2, hob⟩ := C0
  obtain ⟨hPC, hPM, hPO, hS⟩ := hW0
  have hbA : ¬ (A0 s) b := Nat.not_le.mpr hbl
  have hokC := (hR.1 sc sm hRel).1
  have hokM := (hR.1 sc sm hRel).2
  have hA : ∀ z, aC q z → A0 s z := fun z ⟨j, hj, e9⟩ => by rw [e9]; exact hqb j hj
  have hA2 : ∀ z, aM q2 z → A0 s z := fun z ⟨j, hj, e9⟩ => by rw [e9]; exact hqb2 j hj
  have hAO : ∀ z, aO q o z → A0 s z := fun z h => h.elim (hA z) (fun h => by rw [h]; exact hob)
  have nCM : ∀ j, j < 35 → ¬ aC q (q2 j) := fun j hj ⟨i, hi, e9⟩ => hqq i j hi hj e9.symm
  have nOM : ∀ j, j < 35 → ¬ aO q o (q2 j) := fun j hj h => h.elim (nCM j hj) (fun h => ho2 j hj h)
  have nMC : ∀ j, j < 43 → ¬ aM q2 (q j) := fun j hj ⟨i, hi, e9⟩ => hqq j i hj hi e9
  have nMO : ¬ aM q2 o := fun ⟨i, hi, e9⟩ => ho2 i hi e9.symm
  have i1 := inc_ge x4 1 (by omega) (by decide)
  have i2 := inc_ge x4 2 (by omega) (by decide)
  have i3 := inc_ge x4 3 (by omega) (by decide)
  have i4 := inc_ge x4 4 (by omega) (by decide)
  have v1 : vp_in (x4 + 1) L := vp_in_iff.mpr (by rw [i1]; omega)
  have v2 : vp_in (x4 + 2) L := vp_in_iff.mpr (by rw [i2]; omega)
  have v3 : vp_in (x4 + 3) L := vp_in_iff.mpr (by rw [i3]; omega)
  have v4 : vp_in (x4 + 4) L := vp_in_iff.mpr (by rw [i4]; omega)
  refine lv_aload_n hx hb dL_law_1153 rfl (lv_at hl 3 rfl) ?_
  refine lv_aload_n hx hb dL_law_1154 rfl (lv_at hl 4 rfl) ?_
  refine lv_iload hx hb dL_law_1155 (lv_at hl 0 rfl) ?_
  refine lv_iconst (v := 1) hx hb dL_law_1157 (by decide) ?_
  refine lv_iadd hx hb dL_law_1158 ?_
  refine va_sld hx hb hX hbl hbA hS v1 dL_law_1159 ?_
  refine lv_aload_n hx hb dL_law_1160 rfl (lv_at hl 4 rfl) ?_
  refine lv_iload hx hb dL_law_1161 (lv_at hl 0 rfl) ?_
  refine lv_iconst (v := 2) hx hb dL_law_1163 (by decide) ?_
  refine lv_iadd hx hb dL_law_1164 ?_
  refine va_sld hx hb hX hbl hbA hS v2 dL_law_1165 ?_
  refine vp_callSi (va_Run.run (va_runV (As := [.int (xs (x4 + 1).toNatClampNeg), .int (xs (x4 + 2).toNatClampNeg)]) (rest := []) ⟨hx, hb, hml, hown, hts⟩ (c_X9_logged l dC dI q k sc (xs (x4 + 1).toNatClampNeg) (xs (x4 + 2).toNatClampNeg) hokC _ rfl) (cwV 2 hts gL_law_X9_logged rfl rfl rfl (by decide +kernel) ⟨Nat.le_of_ble_eq_true rfl, Nat.le_of_ble_eq_true rfl⟩) ⟨fb_C, va_recv hKC.1 hPC (ci := 9) (q0 := 0) rfl rfl, fun U hU hW => ⟨rfl, by rw [hU]; exact hPC, hKC.warm hW⟩⟩ rfl rfl hl.1 rfl (lv_room (Nat.le_of_ble_eq_true rfl)) dL_law_1166 ⟨by show _ ≤ 1132; omega, by show _ ≤ 13853; omega⟩)) (fun r8 e8 => ?_)
  subst e8
  refine lv_aload_n hx hb dL_law_1169 rfl (lv_at hl 2 rfl) ?_
  refine lv_aload_n hx hb dL_law_1170 rfl (lv_at hl 4 rfl) ?_
  refine lv_iload hx hb dL_law_1171 (lv_at hl 0 rfl) ?_
  refine lv_iconst (v := 1) hx hb dL_law_1173 (by decide) ?_
  refine lv_iadd hx hb dL_law_1174 ?_
  refine va_sld hx hb hX hbl hbA hS v1 dL_law_1175 ?_
  refine lv_aload_n hx hb dL_law_1176 rfl (lv_at hl 4 rfl) ?_
  refine lv_iload hx hb dL_law_1177 (lv_at hl 0 rfl) ?_
  refine lv_iconst (v := 2) hx hb dL_law_1179 (by decide) ?_
  refine lv_iadd hx hb dL_law_1180 ?_
  refine va_sld hx hb hX hbl hbA hS v2 dL_law_1181 ?_
  refine va_calli (va_runV (As := [.int (xs (x4 + 1).toNatClampNeg), .int (xs (x4 + 2).toNatClampNeg)]) (rest := [.int (sp_X9_logged sc (xs (x4 + 1).toNatClampNeg) (xs (x4 + 2).toNatClampNeg))]) ⟨hx, hb, hml, hown, hts⟩ (c_X10_logged l dC dI q2 k2 sm (xs (x4 + 1).toNatClampNeg) (xs (x4 + 2).toNatClampNeg) hq2 hokM _ rfl) (cwV 2 hts gL_law_X10_logged rfl rfl rfl (by decide +kernel) ⟨Nat.le_of_ble_eq_true rfl, Nat.le_of_ble_eq_true rfl⟩) ⟨fb_M, va_recv hKM.1 hPM (ci := 10) (q0 := 0) rfl rfl, fun U hU hW => ⟨rfl, by rw [hU]; exact hPM, hKM.warm hW⟩⟩ rfl rfl hl.1 rfl (lv_room (Nat.le_of_ble_eq_true rfl)) dL_law_1182 ⟨by show _ ≤ 1132; omega, by show _ ≤ 13853; omega⟩) hS (fun z _ h => hA2 z h) (fun z h => hA2 z h) (fun r7 u7 t7 H1 locs ht7 hv7 e7 hB7 hz7 hk7 hS => ?_)
  rw [ht7] at hB7
  have hPC := keepC hPC hk7 nMC
  have hPO := keepO hPO hk7 nMO
  have hPM : va_P (dC, dI) vwCl (wM q2 k2 ((sp_X10_logged sm (xs (x4 + 1).toNatClampNeg) (xs (x4 + 2).toNatClampNeg)).2)) H1 := hB7
  subst e7
  generalize H1 = H at hPC hPO hPM hS ⊢
  have hr := hR.2.2.2.2.2.2.2.2.2.2.2.2.2.2.2.2.2.1 sc sm (xs (x4 + 1).toNatClampNeg) (xs (x4 + 2).toNatClampNeg) hRel
  refine lv_icmp_eq (tgt := 1278) hx hb dL_law_1185 (by decide) (fun he9 => ?_) (fun he9 => absurd hr.1 he9)
  refine W.widen (k := 79 + t + 1) (n := 5487 + 6 * t + 6) (by omega) (by omega) ?_
  exact kj _ _ _ _ _ ls hr.2 ⟨hPC, hPM, hPO, hS⟩ (lv_sub hl [0, 1, 2, 3, 4] rfl)
set_option maxHeartbeats 8000000 in
set_option maxRecDepth 100000 in
theorem law_case_16 {p : Program} {l : Launch} {e : Env} {s : State} {m : MethodId} {below : List Frame} {meth : Method} {c : Code} {b L : Nat} {xs : Nat → Int32} {dC : Nat → ClassId} {dI : Nat → Nat → Nat} {q q2 : Nat → Nat} {k k2 : Nat → ClassId} {o : Nat} {ko : ClassId} {R : St → St → Prop} (hR : RefAll R) (C0 : LCx p l s m c b L xs dC dI q q2 k k2 o ko) (t : Nat) (ht : 5 * t + 5 ≤ L) (hL : L ≤ 2560) (x4 : Int32) (hx4 : x4.toInt = 5 * t) (sc sm : St) (f : Nat → Int64) (H : Heap) (locs : List Loc) (hRel : R sc sm) (hW0 : LSx s dC dI q q2 k k2 o ko sc sm f H locs) (ls : Array Slot) (hl : lv_has ls 8 [(4, .int x4), (3, .ref o), (2, .ref (q2 0)), (1, .ref (q 0)), (0, .ref b)])
    (kj : ∀ (sc sm : St) (f : Nat → Int64) (H : Heap) (locs : List Loc) (ls : Array Slot), R sc sm → LSx s dC dI q q2 k k2 o ko sc sm f H locs → lv_has ls 8 [(4, .int x4), (3, .ref o), (2, .ref (q2 0)), (1, .ref (q 0)), (0, .ref b)] → W p l e room_1 s m #[Value.ref b] below meth c H locs (79 + t + 1) (5487 + 6 * t + 6) (lw_Z below #[Value.ref b] s) (F0 m 1278 ls [])) :
    W p l e room_1 s m #[Value.ref b] below meth c H locs (79 + t) (5487 + 6 * t) (lw_Z below #[Value.ref b] s) (F0 m 1190 ls []) := by
  obtain ⟨hx, hb, hml, hown, hts, hX, hbl, hst, hKC, hKM, hKO, hTH, hNC, hq, hq2, ho, ho2, hqq, hqb, hqb2, hob⟩ := C0
  obtain ⟨hPC, hPM, hPO, hS⟩ := hW0
  have hbA : ¬ (A0 s) b := Nat.not_le.mpr hbl
  have hokC := (hR.1 sc sm hRel).1
  have hokM := (hR.1 sc sm hRel).2
  have hA : ∀ z, aC q z → A0 s z := fun z ⟨j, hj, e9⟩ => by rw [e9]; exact hqb j hj
  have hA2 : ∀ z, aM q2 z → A0 s z := fun z ⟨j, hj, e9⟩ => by rw [e9]; exact hqb2 j hj
  have hAO : ∀ z, aO q o z → A0 s z := fun z h => h.elim (hA z) (fun h => by rw [h]; exact hob)
  have nCM : ∀ j, j < 35 → ¬ aC q (q2 j) := fun j hj ⟨i, hi, e9⟩ => hqq i j hi hj e9.symm
  have nOM : ∀ j, j < 35 → ¬ aO q o (q2 j) := fun j hj h => h.elim (nCM j hj) (fun h => ho2 j hj h)
  have nMC : ∀ j, j < 43 → ¬ aM q2 (q j) := fun j hj ⟨i, hi, e9⟩ => hqq j i hj hi e9
  have nMO : ¬ aM q2 o := fun ⟨i, hi, e9⟩ => ho2 i hi e9.symm
  have i1 := inc_ge x4 1 (by omega) (by decide)
  have i2 := inc_ge x4 2 (by omega) (by decide)
  have i3 := inc_ge x4 3 (by omega) (by decide)
  have i4 := inc_ge x4 4 (by omega) (by decide)
  have v1 : vp_in (x4 + 1) L := vp_in_iff.mpr (by rw [i1]; omega)
  have v2 : vp_in (x4 + 2) L := vp_in_iff.mpr (by rw [i2]; omega)
  have v3 : vp_in (x4 + 3) L := vp_in_iff.mpr (by rw [i3]; omega)
  have v4 : vp_in (x4 + 4) L := vp_in_iff.mpr (by rw [i4]; omega)
  refine lv_aload_n hx hb dL_law_1190 rfl (lv_at hl 3 rfl) ?_
  refine lv_aload_n hx hb dL_law_1191 rfl (lv_at hl 4 rfl) ?_
  refine lv_iload hx hb dL_law_1192 (lv_at hl 0 rfl) ?_
  refine lv_iconst (v := 1) hx hb dL_law_1194 (by decide) ?_
  refine lv_iadd hx hb dL_law_1195 ?_
  refine va_sld hx hb hX hbl hbA hS v1 dL_law_1196 ?_
  refine vp_callSl (va_Run.run (va_runV (As := [.int (xs (x4 + 1).toNatClampNeg)]) (rest := []) ⟨hx, hb, hml, hown, hts⟩ (c_X9_peek l dC dI q k sc (xs (x4 + 1).toNatClampNeg) hokC _ rfl) (cwV 1 hts gL_law_X9_peek rfl rfl rfl (by decide +kernel) ⟨Nat.le_of_ble_eq_true rfl, Nat.le_of_ble_eq_true rfl⟩) ⟨fb_C, va_recv hKC.1 hPC (ci := 9) (q0 := 0) rfl rfl, fun U hU hW => ⟨rfl, by rw [hU]; exact hPC, hKC.warm hW⟩⟩ rfl rfl hl.1 rfl (lv_room (Nat.le_of_ble_eq_true rfl)) dL_law_1197 ⟨by show _ ≤ 1132; omega, by show _ ≤ 13853; omega⟩)) (fun r8 e8 => ?_)
  subst e8
  refine lv_aload_n hx hb dL_law_1200 rfl (lv_at hl 2 rfl) ?_
  refine lv_aload_n hx hb dL_law_1201 rfl (lv_at hl 4 rfl) ?_
  refine lv_iload hx hb dL_law_1202 (lv_at hl 0 rfl) ?_
  refine lv_iconst (v := 1) hx hb dL_law_1204 (by decide) ?_
  refine lv_iadd hx hb dL_law_1205 ?_
  refine va_sld hx hb hX hbl hbA hS v1 dL_law_1206 ?_
  refine va_calll (va_runV (As := [.int (xs (x4 + 1).toNatClampNeg)]) (rest := [.long (sp_X9_peek sc (xs (x4 + 1).toNatClampNeg))]) ⟨hx, hb, hml, hown, hts⟩ (c_X10_peek l dC dI q2 k2 sm (xs (x4 + 1).toNatClampNeg) hq2 hokM.2.1 _ rfl) (cwV 1 hts gL_law_X10_peek rfl rfl rfl (by decide +kernel) ⟨Nat.le_of_ble_eq_true rfl, Nat.le_of_ble_eq_true rfl⟩) ⟨fb_M, va_recv hKM.1 hPM (ci := 10) (q0 := 0) rfl rfl, fun U hU hW => ⟨rfl, by rw [hU]; exact hPM, hKM.warm hW⟩⟩ rfl rfl hl.1 rfl (lv_room (Nat.le_of_ble_eq_true rfl)) dL_law_1207 ⟨by show _ ≤ 1132; omega, by show _ ≤ 13853; omega⟩) hS (fun z _ h => hA2 z h) (fun z h => hA2 z h) (fun r7 u7 t7 H1 locs ht7 hv7 e7 hB7 hz7 hk7 hS => ?_)
  rw [ht7] at hB7
  have hPC := keepC hPC hk7 nMC
  have hPO := keepO hPO hk7 nMO
  have hPM : va_P (dC, dI) vwCl (wM q2 k2 ((sp_X10_peek sm (xs (x4 + 1).toNatClampNeg)).2)) H1 := hB7
  subst e7
  generalize H1 = H at hPC hPO hPM hS ⊢
  have hr := hR.2.2.2.2.2.2.2.2.2.2.2.2.2.2.2.2.2.2.1 sc sm (xs (x4 + 1).toNatClampNeg) hRel
  refine W.lcmp hx hb dL_law_1210 ?_
  refine lv_if_eq (tgt := 1278) hx hb dL_law_1211 (by decide) (fun he9 => ?_) (fun he9 => absurd hr.1 (lgc he9))
  refine W.widen (k := 79 + t + 1) (n := 5487 + 6 * t + 6) (by omega) (by omega) ?_
  exact kj _ _ _ _ _ ls hr.2 ⟨hPC, hPM, hPO, hS⟩ (lv_sub hl [0, 1, 2, 3, 4] rfl)
set_option maxHeartbeats 8000000 in
set_option maxRecDepth 100000 in
theorem law_case_17 {p : Program} {l : Launch} {e : Env} {s : State} {m : MethodId} {below : List Frame} {meth : Method} {c : Code} {b L : Nat} {xs : Nat → Int32} {dC : Nat → ClassId} {dI : Nat → Nat → Nat} {q q2 : Nat → Nat} {k k2 : Nat → ClassId} {o : Nat} {ko : ClassId} {R : St → St → Prop} (hR : RefAll R) (C0 : LCx p l s m c b L xs dC dI q q2 k k2 o ko) (t : Nat) (ht : 5 * t + 5 ≤ L) (hL : L ≤ 2560) (x4 : Int32) (hx4 : x4.toInt = 5 * t) (sc sm : St) (f : Nat → Int64) (H : Heap) (locs : List Loc) (hRel : R sc sm) (hW0 : LSx s dC dI q q2 k k2 o ko sc sm f H locs) (ls : Array Slot) (hl : lv_has ls 8 [(4, .int x4), (3, .ref o), (2, .ref (q2 0)), (1, .ref (q 0)), (0, .ref b)])
    (kj : ∀ (sc sm : St) (f : Nat → Int64) (H : Heap) (locs : List Loc) (ls : Array Slot), R sc sm → LSx s dC dI q q2 k k2 o ko sc sm f H locs → lv_has ls 8 [(4, .int x4), (3, .ref o), (2, .ref (q2 0)), (1, .ref (q 0)), (0, .ref b)] → W p l e room_1 s m #[Value.ref b] below meth c H locs (79 + t + 1) (5487 + 6 * t + 6) (lw_Z below #[Value.ref b] s) (F0 m 1278 ls [])) :
    W p l e room_1 s m #[Value.ref b] below meth c H locs (79 + t) (5487 + 6 * t) (lw_Z below #[Value.ref b] s) (F0 m 1216 ls []) := by
  obtain ⟨hx, hb, hml, hown, hts, hX, hbl, hst, hKC, hKM, hKO, hTH, hNC, hq, hq2, ho, ho2, hqq, hqb, hqb2, hob⟩ := C0
  obtain ⟨hPC, hPM, hPO, hS⟩ := hW0
  have hbA : ¬ (A0 s) b := Nat.not_le.mpr hbl
  have hokC := (hR.1 sc sm hRel).1
  have hokM := (hR.1 sc sm hRel).2
  have hA : ∀ z, aC q z → A0 s z := fun z ⟨j, hj, e9⟩ => by rw [e9]; exact hqb j hj
  have hA2 : ∀ z, aM q2 z → A0 s z := fun z ⟨j, hj, e9⟩ => by rw [e9]; exact hqb2 j hj
  have hAO : ∀ z, aO q o z → A0 s z := fun z h => h.elim (hA z) (fun h => by rw [h]; exact hob)
  have nCM : ∀ j, j < 35 → ¬ aC q (q2 j) := fun j hj ⟨i, hi, e9⟩ => hqq i j hi hj e9.symm
  have nOM : ∀ j, j < 35 → ¬ aO q o (q2 j) := fun j hj h => h.elim (nCM j hj) (fun h => ho2 j hj h)
  have nMC : ∀ j, j < 43 → ¬ aM q2 (q j) := fun j hj ⟨i, hi, e9⟩ => hqq j i hj hi e9
  have nMO : ¬ aM q2 o := fun ⟨i, hi, e9⟩ => ho2 i hi e9.symm
  have i1 := inc_ge x4 1 (by omega) (by decide)
  have i2 := inc_ge x4 2 (by omega) (by decide)
  have i3 := inc_ge x4 3 (by omega) (by decide)
  have i4 := inc_ge x4 4 (by omega) (by decide)
  have v1 : vp_in (x4 + 1) L := vp_in_iff.mpr (by rw [i1]; omega)
  have v2 : vp_in (x4 + 2) L := vp_in_iff.mpr (by rw [i2]; omega)
  have v3 : vp_in (x4 + 3) L := vp_in_iff.mpr (by rw [i3]; omega)
  have v4 : vp_in (x4 + 4) L := vp_in_iff.mpr (by rw [i4]; omega)
  refine lv_aload_n hx hb dL_law_1216 rfl (lv_at hl 3 rfl) ?_
  refine lv_aload_n hx hb dL_law_1217 rfl (lv_at hl 4 rfl) ?_
  refine lv_iload hx hb dL_law_1218 (lv_at hl 0 rfl) ?_
  refine lv_iconst (v := 1) hx hb dL_law_1220 (by decide) ?_
  refine lv_iadd hx hb dL_law_1221 ?_
  refine va_sld hx hb hX hbl hbA hS v1 dL_law_1222 ?_
  refine lv_aload_n hx hb dL_law_1223 rfl (lv_at hl 4 rfl) ?_
  refine lv_iload hx hb dL_law_1224 (lv_at hl 0 rfl) ?_
  refine lv_iconst (v := 2) hx hb dL_law_1226 (by decide) ?_
  refine lv_iadd hx hb dL_law_1227 ?_
  refine va_sld hx hb hX hbl hbA hS v2 dL_law_1228 ?_
  refine vp_callSi (va_Run.run (va_runV (As := [.int (xs (x4 + 1).toNatClampNeg), .int (xs (x4 + 2).toNatClampNeg)]) (rest := []) ⟨hx, hb, hml, hown, hts⟩ (c_X9_look l dC dI q k sc (xs (x4 + 1).toNatClampNeg) (xs (x4 + 2).toNatClampNeg) hokC _ rfl) (cwV 2 hts gL_law_X9_look rfl rfl rfl (by decide +kernel) ⟨Nat.le_of_ble_eq_true rfl, Nat.le_of_ble_eq_true rfl⟩) ⟨fb_C, va_recv hKC.1 hPC (ci := 9) (q0 := 0) rfl rfl, fun U hU hW => ⟨rfl, by rw [hU]; exact hPC, hKC.warm hW⟩⟩ rfl rfl hl.1 rfl (lv_room (Nat.le_of_ble_eq_true rfl)) dL_law_1229 ⟨by show _ ≤ 1132; omega, by show _ ≤ 13853; omega⟩)) (fun r8 e8 => ?_)
  subst e8
  refine lv_aload_n hx hb dL_law_1232 rfl (lv_at hl 2 rfl) ?_
  refine lv_aload_n hx hb dL_law_1233 rfl (lv_at hl 4 rfl) ?_
  refine lv_iload hx hb dL_law_1234 (lv_at hl 0 rfl) ?_
  refine lv_iconst (v := 1) hx hb dL_law_1236 (by decide) ?_
  refine lv_iadd hx hb dL_law_1237 ?_
  refine va_sld hx hb hX hbl hbA hS v1 dL_law_1238 ?_
  refine lv_aload_n hx hb dL_law_1239 rfl (lv_at hl 4 rfl) ?_
  refine lv_iload hx hb dL_law_1240 (lv_at hl 0 rfl) ?_
  refine lv_iconst (v := 2) hx hb dL_law_1242 (by decide) ?_
  refine lv_iadd hx hb dL_law_1243 ?_
  refine va_sld hx hb hX hbl hbA hS v2 dL_law_1244 ?_
  refine va_calli (va_runV (As := [.int (xs (x4 + 1).toNatClampNeg), .int (xs (x4 + 2).toNatClampNeg)]) (rest := [.int (sp_X9_look sc (xs (x4 + 1).toNatClampNeg) (xs (x4 + 2).toNatClampNeg))]) ⟨hx, hb, hml, hown, hts⟩ (c_X10_look l dC dI q2 k2 sm (xs (x4 + 1).toNatClampNeg) (xs (x4 + 2).toNatClampNeg) hq2 hokM _ rfl) (cwV 2 hts gL_law_X10_look rfl rfl rfl (by decide +kernel) ⟨Nat.le_of_ble_eq_true rfl, Nat.le_of_ble_eq_true rfl⟩) ⟨fb_M, va_recv hKM.1 hPM (ci := 10) (q0 := 0) rfl rfl, fun U hU hW => ⟨rfl, by rw [hU]; exact hPM, hKM.warm hW⟩⟩ rfl rfl hl.1 rfl (lv_room (Nat.le_of_ble_eq_true rfl)) dL_law_1245 ⟨by show _ ≤ 1132; omega, by show _ ≤ 13853; omega⟩) hS (fun z _ h => hA2 z h) (fun z h => hA2 z h) (fun r7 u7 t7 H1 locs ht7 hv7 e7 hB7 hz7 hk7 hS => ?_)
  rw [ht7] at hB7
  have hPC := keepC hPC hk7 nMC
  have hPO := keepO hPO hk7 nMO
  have hPM : va_P (dC, dI) vwCl (wM q2 k2 ((sp_X10_look sm (xs (x4 + 1).toNatClampNeg) (xs (x4 + 2).toNatClampNeg)).2)) H1 := hB7
  subst e7
  generalize H1 = H at hPC hPO hPM hS ⊢
  have hr := hR.2.2.2.2.2.2.2.2.2.2.2.2.2.2.2.2.2.2.2.1 sc sm (xs (x4 + 1).toNatClampNeg) (xs (x4 + 2).toNatClampNeg) hRel
  refine lv_icmp_eq (tgt := 1278) hx hb dL_law_1248 (by decide) (fun he9 => ?_) (fun he9 => absurd hr.1 he9)
  refine W.widen (k := 79 + t + 1) (n := 5487 + 6 * t + 6) (by omega) (by omega) ?_
  exact kj _ _ _ _ _ ls hr.2 ⟨hPC, hPM, hPO, hS⟩ (lv_sub hl [0, 1, 2, 3, 4] rfl)
set_option maxHeartbeats 8000000 in
set_option maxRecDepth 100000 in
theorem law_case_18 {p : Program} {l : Launch} {e : Env} {s : State} {m : MethodId} {below : List Frame} {meth : Method} {c : Code} {b L : Nat} {xs : Nat → Int32} {dC : Nat → ClassId} {dI : Nat → Nat → Nat} {q q2 : Nat → Nat} {k k2 : Nat → ClassId} {o : Nat} {ko : ClassId} {R : St → St → Prop} (hR : RefAll R) (C0 : LCx p l s m c b L xs dC dI q q2 k k2 o ko) (t : Nat) (ht : 5 * t + 5 ≤ L) (hL : L ≤ 2560) (x4 : Int32) (hx4 : x4.toInt = 5 * t) (sc sm : St) (f : Nat → Int64) (H : Heap) (locs : List Loc) (hRel : R sc sm) (hW0 : LSx s dC dI q q2 k k2 o ko sc sm f H locs) (ls : Array Slot) (hl : lv_has ls 8 [(4, .int x4), (3, .ref o), (2, .ref (q2 0)), (1, .ref (q 0)), (0, .ref b)])
    (kj : ∀ (sc sm : St) (f : Nat → Int64) (H : Heap) (locs : List Loc) (ls : Array Slot), R sc sm → LSx s dC dI q q2 k k2 o ko sc sm f H locs → lv_has ls 8 [(4, .int x4), (3, .ref o), (2, .ref (q2 0)), (1, .ref (q 0)), (0, .ref b)] → W p l e room_1 s m #[Value.ref b] below meth c H locs (79 + t + 1) (5487 + 6 * t + 6) (lw_Z below #[Value.ref b] s) (F0 m 1278 ls [])) :
    W p l e room_1 s m #[Value.ref b] below meth c H locs (79 + t) (5487 + 6 * t) (lw_Z below #[Value.ref b] s) (F0 m 1253 ls []) := by
  obtain ⟨hx, hb, hml, hown, hts, hX, hbl, hst, hKC, hKM, hKO, hTH, hNC, hq, hq2, ho, ho2, hqq, hqb, hqb2, hob⟩ := C0
  obtain ⟨hPC, hPM, hPO, hS⟩ := hW0
  have hbA : ¬ (A0 s) b := Nat.not_le.mpr hbl
  have hokC := (hR.1 sc sm hRel).1
  have hokM := (hR.1 sc sm hRel).2
  have hA : ∀ z, aC q z → A0 s z := fun z ⟨j, hj, e9⟩ => by rw [e9]; exact hqb j hj
  have hA2 : ∀ z, aM q2 z → A0 s z := fun z ⟨j, hj, e9⟩ => by rw [e9]; exact hqb2 j hj
  have hAO : ∀ z, aO q o z → A0 s z := fun z h => h.elim (hA z) (fun h => by rw [h]; exact hob)
  have nCM : ∀ j, j < 35 → ¬ aC q (q2 j) := fun j hj ⟨i, hi, e9⟩ => hqq i j hi hj e9.symm
  have nOM : ∀ j, j < 35 → ¬ aO q o (q2 j) := fun j hj h => h.elim (nCM j hj) (fun h => ho2 j hj h)
  have nMC : ∀ j, j < 43 → ¬ aM q2 (q j) := fun j hj ⟨i, hi, e9⟩ => hqq j i hj hi e9
  have nMO : ¬ aM q2 o := fun ⟨i, hi, e9⟩ => ho2 i hi e9.symm
  have i1 := inc_ge x4 1 (by omega) (by decide)
  have i2 := inc_ge x4 2 (by omega) (by decide)
  have i3 := inc_ge x4 3 (by omega) (by decide)
  have i4 := inc_ge x4 4 (by omega) (by decide)
  have v1 : vp_in (x4 + 1) L := vp_in_iff.mpr (by rw [i1]; omega)
  have v2 : vp_in (x4 + 2) L := vp_in_iff.mpr (by rw [i2]; omega)
  have v3 : vp_in (x4 + 3) L := vp_in_iff.mpr (by rw [i3]; omega)
  have v4 : vp_in (x4 + 4) L := vp_in_iff.mpr (by rw [i4]; omega)
  refine lv_aload_n hx hb dL_law_1253 rfl (lv_at hl 3 rfl) ?_
  refine lv_aload_n hx hb dL_law_1254 rfl (lv_at hl 4 rfl) ?_
  refine lv_iload hx hb dL_law_1255 (lv_at hl 0 rfl) ?_
  refine lv_iconst (v := 1) hx hb dL_law_1257 (by decide) ?_
  refine lv_iadd hx hb dL_law_1258 ?_
  refine va_sld hx hb hX hbl hbA hS v1 dL_law_1259 ?_
  refine vp_callSi (va_Run.run (va_runV (As := [.int (xs (x4 + 1).toNatClampNeg)]) (rest := []) ⟨hx, hb, hml, hown, hts⟩ (c_X9_state l dC dI q k sc (xs (x4 + 1).toNatClampNeg)  _ rfl) (cwV 1 hts gL_law_X9_state rfl rfl rfl (by decide +kernel) ⟨Nat.le_of_ble_eq_true rfl, Nat.le_of_ble_eq_true rfl⟩) ⟨fb_C, va_recv hKC.1 hPC (ci := 9) (q0 := 0) rfl rfl, fun U hU hW => ⟨rfl, by rw [hU]; exact hPC, hKC.warm hW⟩⟩ rfl rfl hl.1 rfl (lv_room (Nat.le_of_ble_eq_true rfl)) dL_law_1260 ⟨by show _ ≤ 1132; omega, by show _ ≤ 13853; omega⟩)) (fun r8 e8 => ?_)
  subst e8
  refine lv_aload_n hx hb dL_law_1263 rfl (lv_at hl 2 rfl) ?_
  refine lv_aload_n hx hb dL_law_1264 rfl (lv_at hl 4 rfl) ?_
  refine lv_iload hx hb dL_law_1265 (lv_at hl 0 rfl) ?_
  refine lv_iconst (v := 1) hx hb dL_law_1267 (by decide) ?_
  refine lv_iadd hx hb dL_law_1268 ?_
  refine va_sld hx hb hX hbl hbA hS v1 dL_law_1269 ?_
  refine va_calli (va_runV (As := [.int (xs (x4 + 1).toNatClampNeg)]) (rest := [.int (sp_X9_state sc (xs (x4 + 1).toNatClampNeg))]) ⟨hx, hb, hml, hown, hts⟩ (c_X10_state l dC dI q2 k2 sm (xs (x4 + 1).toNatClampNeg) hq2 hokM.2.1 _ rfl) (cwV 1 hts gL_law_X10_state rfl rfl rfl (by decide +kernel) ⟨Nat.le_of_ble_eq_true rfl, Nat.le_of_ble_eq_true rfl⟩) ⟨fb_M, va_recv hKM.1 hPM (ci := 10) (q0 := 0) rfl rfl, fun U hU hW => ⟨rfl, by rw [hU]; exact hPM, hKM.warm hW⟩⟩ rfl rfl hl.1 rfl (lv_room (Nat.le_of_ble_eq_true rfl)) dL_law_1270 ⟨by show _ ≤ 1132; omega, by show _ ≤ 13853; omega⟩) hS (fun z _ h => hA2 z h) (fun z h => hA2 z h) (fun r7 u7 t7 H1 locs ht7 hv7 e7 hB7 hz7 hk7 hS => ?_)
  rw [ht7] at hB7
  have hPC := keepC hPC hk7 nMC
  have hPO := keepO hPO hk7 nMO
  have hPM : va_P (dC, dI) vwCl (wM q2 k2 ((sp_X10_state sm (xs (x4 + 1).toNatClampNeg)).2)) H1 := hB7
  subst e7
  generalize H1 = H at hPC hPO hPM hS ⊢
  have hr := hR.2.2.2.2.2.2.2.2.2.2.2.2.2.2.2.2.2.2.2.2 sc sm (xs (x4 + 1).toNatClampNeg) hRel
  refine lv_icmp_eq (tgt := 1278) hx hb dL_law_1273 (by decide) (fun he9 => ?_) (fun he9 => absurd hr.1 he9)
  refine W.widen (k := 79 + t + 1) (n := 5487 + 6 * t + 6) (by omega) (by omega) ?_
  exact kj _ _ _ _ _ ls hr.2 ⟨hPC, hPM, hPO, hS⟩ (lv_sub hl [0, 1, 2, 3, 4] rfl)

theorem nest_in : ∀ w ∈ nestWs, w ∈ lw_tbl := by decide +kernel
theorem bad_in : ∀ w ∈ badWs, w ∈ lw_tbl := by decide +kernel
theorem str_in : ∀ x ∈ strWs, Cond.stringRef RX9 x.1 x.2 ∈ lw_tbl := by decide +kernel
theorem str_ex : ∀ x ∈ strWs, Cond.exactly (.string RX9 x.1) "java/lang/String" ∈ flatC (Jvm.Cond.and given_1 narrow_1) := by decide +kernel
theorem P_left {D : va_G} {cl : List vw_C} {w1 w2 : va_W} {H : Heap} (h : va_P D cl (w1 ++ w2) H) : va_P D cl w1 H := fun k q hk => h k q (by rw [List.getElem?_append_left (List.getElem?_eq_some_iff.mp hk).1]; exact hk)
theorem P_right {D : va_G} {cl : List vw_C} {w1 w2 : va_W} {H : Heap} (h : va_P D cl (w1 ++ w2) H) : va_P D cl w2 H := fun k q hk => h (w1.length + k) q (by rw [List.getElem?_append_right (by omega), Nat.add_sub_cancel_left]; exact hk)
theorem wC_has {q : Nat → Nat} {k : Nat → ClassId} {s : St} {j : Nat} (h : j < 43) : ∃ p, (wC q k s)[j]? = some p ∧ p.1 = q j := by
  have e : (wC q k s).length = 43 := rfl
  refine ⟨(wC q k s)[j]'(by rw [e]; exact h), List.getElem?_eq_getElem _, ?_⟩
  exact (wC_at (List.getElem?_eq_getElem (by rw [e]; exact h))).2
theorem wM_has {q : Nat → Nat} {k : Nat → ClassId} {s : St} {j : Nat} (h : j < 35) : ∃ p, (wM q k s)[j]? = some p ∧ p.1 = q j := by
  have e : (wM q k s).length = 35 := rfl
  refine ⟨(wM q k s)[j]'(by rw [e]; exact h), List.getElem?_eq_getElem _, ?_⟩
  exact (wM_at (List.getElem?_eq_getElem (by rw [e]; exact h))).2
/-- the addresses of the three worlds are apart -/
theorem apart3 {A : Nat → Prop} {q q2 : Nat → Nat} {k k2 : Nat → ClassId} {sc sm : St} {o : Nat} {ko : ClassId} {f : Nat → Int64} (hD : va_D A ((wC q k sc ++ wM q2 k2 sm) ++ wO o ko f)) :
    (∀ i j, i < 43 → j < 43 → q i = q j → i = j) ∧ (∀ i j, i < 35 → j < 35 → q2 i = q2 j → i = j) ∧ (∀ j, j < 43 → q j ≠ o) ∧ (∀ j, j < 35 → q2 j ≠ o) ∧ (∀ i j, i < 43 → j < 35 → q i ≠ q2 j) ∧ (∀ j, j < 43 → A (q j)) ∧ (∀ j, j < 35 → A (q2 j)) ∧ A o := by
  have lC : (wC q k sc).length = 43 := rfl
  have lM : (wM q2 k2 sm).length = 35 := rfl
  have gC : ∀ j, j < 43 → ∃ p, ((wC q k sc ++ wM q2 k2 sm) ++ wO o ko f)[j]? = some p ∧ p.1 = q j := fun j hj => by
    obtain ⟨p, h1, h2⟩ := wC_has (q := q) (k := k) (s := sc) hj
    exact ⟨p, by rw [List.getElem?_append_left (by rw [List.length_append]; omega), List.getElem?_append_left (by omega)]; exact h1, h2⟩
  have gM : ∀ j, j < 35 → ∃ p, ((wC q k sc ++ wM q2 k2 sm) ++ wO o ko f)[43 + j]? = some p ∧ p.1 = q2 j := fun j hj => by
    obtain ⟨p, h1, h2⟩ := wM_has (q := q2) (k := k2) (s := sm) hj
    refine ⟨p, ?_, h2⟩
    rw [List.getElem?_append_left (by rw [List.length_append]; omega), List.getElem?_append_right (by omega), lC, Nat.add_sub_cancel_left]
    exact h1
  have gO : ∃ p, ((wC q k sc ++ wM q2 k2 sm) ++ wO o ko f)[78]? = some p ∧ p.1 = o := ⟨_, rfl, rfl⟩
  obtain ⟨po, o1, o2⟩ := gO
  refine ⟨fun i j hi hj e => ?_, fun i j hi hj e => ?_, fun j hj e => ?_, fun j hj e => ?_, fun i j hi hj e => ?_, fun j hj => ?_, fun j hj => ?_, ?_⟩
  · obtain ⟨p1, a1, b1⟩ := gC i hi; obtain ⟨p2, a2, b2⟩ := gC j hj
    exact hD.1 i j p1 p2 a1 a2 (by rw [b1, b2]; exact e)
  · obtain ⟨p1, a1, b1⟩ := gM i hi; obtain ⟨p2, a2, b2⟩ := gM j hj
    have := hD.1 (43 + i) (43 + j) p1 p2 a1 a2 (by rw [b1, b2]; exact e)
    omega
  · obtain ⟨p1, a1, b1⟩ := gC j hj
    have := hD.1 j 78 p1 po a1 o1 (by rw [b1, o2]; exact e)
    omega
  · obtain ⟨p1, a1, b1⟩ := gM j hj
    have := hD.1 (43 + j) 78 p1 po a1 o1 (by rw [b1, o2]; exact e)
    omega
  · obtain ⟨p1, a1, b1⟩ := gC i hi; obtain ⟨p2, a2, b2⟩ := gM j hj
    have := hD.1 i (43 + j) p1 p2 a1 a2 (by rw [b1, b2]; exact e)
    omega
  · obtain ⟨p1, a1, b1⟩ := gC j hj
    rw [← b1]; exact hD.2 j p1 a1
  · obtain ⟨p1, a1, b1⟩ := gM j hj
    rw [← b1]; exact hD.2 (43 + j) p1 a1
  · rw [← o2]; exact hD.2 78 po o1
set_option maxHeartbeats 8000000 in
set_option maxRecDepth 100000 in
theorem whole_start {p : Program} {e : Env} {s : State} {m : MethodId} {below : List Frame} {meth : Method} {c : Code} (l : Launch) (hst : l.stackTraces = false) {R : St → St → Prop} (hR : RefAll R) {b L : Nat} {xs : Nat → Int32} (hL : L ≤ 2560) (C0 : lw_At p s m meth c b L xs) : W p l e room_1 s m #[Value.ref b] below meth c s.heap [] 0 0 (lw_Z below #[Value.ref b] s) (entryFrame m ([Value.ref b] : List Value).toArray 8) := by
  obtain ⟨hx, hb, hr, hml, hown, hts0, hX, hbl, hlocks, hgv⟩ := id C0
  have hown : s.vm.findClass RL = some m.cls := hown
  have hts := fun w h => hts0 w (wsL_law_in w h)
  have hgf := flat_of_before _ hgv
  have hA : ∀ q : Nat, s.heap.size ≤ q → A0 s q := fun _ h => h
  have hnA : ∀ a : Nat, a < s.heap.size → ¬ A0 s a := fun a h => Nat.not_le.mpr h
  have hTH : TH (A0 s) s s.heap := by
    refine ⟨vx_Zqof (hts0 (.laysStatic Bundle.tN "UNASSIGNED_STACK" Bundle.steD) (by decide +kernel)) (hts0 (.initialized Bundle.tN) (by decide +kernel)) (hgf (.isRef (.static Bundle.tN "UNASSIGNED_STACK" Bundle.steD)) (by decide +kernel)) hnA, vx_Zqof (hts0 (.laysStatic Bundle.tN "SUPPRESSED_SENTINEL" Bundle.listD) (by decide +kernel)) (hts0 (.initialized Bundle.tN) (by decide +kernel)) (hgf (.isRef (.static Bundle.tN "SUPPRESSED_SENTINEL" Bundle.listD)) (by decide +kernel)) hnA, fun w hw => va_Nw.of (bad_on w hw) (hts0 w (bad_in w hw)), fun x hx => ?_⟩
    obtain ⟨a, _, _, _, q1, -⟩ := Cond.exactly_spec (args := #[Value.ref b]) (first := s) (o := none) (s := s) (idx := []) (t := .string RX9 x.1) (cls := "java/lang/String") (hgf _ (str_ex x hx))
    exact ⟨a, vk_R.of (hts0 _ (str_in x hx)) q1⟩
  have hNC : NC s := ⟨va_Nc.of (hgf (.not (.castable "java/lang/IllegalStateException" "java/lang/IllegalArgumentException")) (by decide +kernel)), va_Nc.of (hgf (.not (.castable "java/lang/IllegalStateException" "java/util/NoSuchElementException")) (by decide +kernel)), va_Nc.of (hgf (.not (.castable "java/lang/IllegalArgumentException" "java/util/NoSuchElementException")) (by decide +kernel))⟩
  have hNest : ∀ w ∈ nestWs, va_Nw w s := fun w hw => va_Nw.of (nest_on w hw) (hts0 w (nest_in w hw))
  obtain ⟨c0, iS0, hKn0⟩ := u_known (C := RX0) (T := TX0) (N := 5) (n := 5) hts0 inX0 (hts0 (.instantiable RX0 5) (by decide +kernel))
  obtain ⟨c1, iS1, hKn1⟩ := u_known (C := RX1) (T := TX1) (N := 5) (n := 5) hts0 inX1 (hts0 (.instantiable RX1 5) (by decide +kernel))
  obtain ⟨c2, iS2, hKn2⟩ := u_known (C := RX2) (T := TX2) (N := 4) (n := 4) hts0 inX2 (hts0 (.instantiable RX2 4) (by decide +kernel))
  obtain ⟨c3, iS3, hKn3⟩ := u_known (C := RX3) (T := TX3) (N := 4) (n := 4) hts0 inX3 (hts0 (.instantiable RX3 4) (by decide +kernel))
  obtain ⟨c4, iS4, hKn4⟩ := u_known (C := RX4) (T := TX4) (N := 5) (n := 5) hts0 inX4 (hts0 (.instantiable RX4 5) (by decide +kernel))
  obtain ⟨c5, iS5, hKn5⟩ := u_known (C := RX5) (T := TX5) (N := 11) (n := 11) hts0 inX5 (hts0 (.instantiable RX5 11) (by decide +kernel))
  obtain ⟨c6, iS6, hKn6⟩ := u_known (C := RX6) (T := TX6) (N := 2) (n := 2) hts0 inX6 (hts0 (.instantiable RX6 2) (by decide +kernel))
  obtain ⟨c7, iS7, hKn7⟩ := u_known (C := RX7) (T := TX7) (N := 5) (n := 5) hts0 inX7 (hts0 (.instantiable RX7 5) (by decide +kernel))
  obtain ⟨c8, iS8, hKn8⟩ := u_known (C := RX8) (T := TX8) (N := 2) (n := 2) hts0 inX8 (hts0 (.instantiable RX8 2) (by decide +kernel))
  obtain ⟨c9, iS9, hKn9⟩ := u_known (C := RX9) (T := TX9) (N := 10) (n := 10) hts0 inX9 (hts0 (.instantiable RX9 10) (by decide +kernel))
  obtain ⟨c10, iS10, hKn10⟩ := u_known (C := RX10) (T := TX10) (N := 45) (n := 45) hts0 inX10 (hts0 (.instantiable RX10 45) (by decide +kernel))
  obtain ⟨dC, dI, hKc⟩ : ∃ (dC : Nat → ClassId) (dI : Nat → Nat → Nat), ∀ (k : Nat) (q : vw_C), vwCl[k]? = some q → u_Kn s q.1 q.2.1 q.2.2 (dC k) (dI k) := by
    refine ⟨fun k => if k = 0 then c0 else if k = 1 then c1 else if k = 2 then c2 else if k = 3 then c3 else if k = 4 then c4 else if k = 5 then c5 else if k = 6 then c6 else if k = 7 then c7 else if k = 8 then c8 else if k = 9 then c9 else c10, fun k => if k = 0 then iS0 else if k = 1 then iS1 else if k = 2 then iS2 else if k = 3 then iS3 else if k = 4 then iS4 else if k = 5 then iS5 else if k = 6 then iS6 else if k = 7 then iS7 else if k = 8 then iS8 else if k = 9 then iS9 else iS10, ?_⟩
    intro k q hq
    match k, hq with
    | 0, hq => cases hq; exact hKn0
    | 1, hq => cases hq; exact hKn1
    | 2, hq => cases hq; exact hKn2
    | 3, hq => cases hq; exact hKn3
    | 4, hq => cases hq; exact hKn4
    | 5, hq => cases hq; exact hKn5
    | 6, hq => cases hq; exact hKn6
    | 7, hq => cases hq; exact hKn7
    | 8, hq => cases hq; exact hKn8
    | 9, hq => cases hq; exact hKn9
    | 10, hq => cases hq; exact hKn10
    | k + 11, hq => simp [vwCl] at hq
  have hS : va_S (A0 s) s.heap s.heap [] := va_S.rf
  have hK : va_K (dC, dI) vwCl [] s := ⟨hKc, fun k q h => by simp at h⟩
  have hP : va_P (dC, dI) vwCl [] s.heap := fun k q h => by simp at h
  have hD : va_D (A0 s) [] := ⟨fun i j p q h => by simp at h, fun k q h => by simp at h⟩
  have hl := lv_entry ([.ref b]) (n := 8) (Nat.le_of_ble_eq_true rfl)
  rw [lg_entry_eq]
  generalize (lg_sl ([.ref b]) ++ List.replicate (8 - (lg_sl ([.ref b])).length) Slot.unset).toArray = ls at hl ⊢
  have hl : lv_has ls 8 [(0, .ref b)] := hl
  refine va_new (ci := 9) (fs := [.null, .null, .null, .null, .null, .null, .null, .null, .null, .int 0]) (C := RX9) (T := TX9) (N := 10) hx hb hts inlX9 tyX9 tyX9_ok hown (hts (.classLink RL 8 RX9) (by decide +kernel)) (hts (.instantiable RX9 10) (by decide +kernel)) (hts (.initialized RX9) (by decide +kernel)) hK hP hD hS hA rfl (fun j hj => by rcases (show j = 0 ∨ j = 1 ∨ j = 2 ∨ j = 3 ∨ j = 4 ∨ j = 5 ∨ j = 6 ∨ j = 7 ∨ j = 8 ∨ j = 9 by omega) with rfl | rfl | rfl | rfl | rfl | rfl | rfl | rfl | rfl | rfl <;> rfl) (Nat.le_of_ble_eq_true rfl) (Nat.le_of_ble_eq_true rfl) dL_law_0 (fun qa H hP hD hS => ?_)
  have hP : va_P (dC, dI) vwCl [(qa, .inr (9, [.null, .null, .null, .null, .null, .null, .null, .null, .null, .int 0]))] H := hP
  have hD : va_D (A0 s) [(qa, .inr (9, [.null, .null, .null, .null, .null, .null, .null, .null, .null, .int 0]))] := hD
  refine lv_dup hx hb dL_law_3 rfl ?_
  have hFc := va_free (wc := [(qa, .inr (9, [.null, .null, .null, .null, .null, .null, .null, .null, .null, .int 0]))]) hD hS hA [0] rfl
  refine va_callv (va_runI (As := []) (rest := [.ref qa]) ⟨hx, hb, hml, hown, hts⟩ (c_X9_init l dC dI qa H.size) (cwI 0 hts gL_law_X9_init rfl rfl rfl (hts (.initialized RX9) (by decide +kernel)) (hts (.methodLink RL 61 yX9_init) (by decide +kernel)) (hts (.instanceMethod yX9_init) (by decide +kernel)) rfl (by decide +kernel) ⟨Nat.le_of_ble_eq_true rfl, Nat.le_of_ble_eq_true rfl⟩) ⟨fun a9 U9 g9 mk9 q9 => ⟨q9.1, q9.2.1, q9.2.2.1, va_K.moved (u := U9) (U := U9.calling g9 mk9 a9) (Vm.Alike.refl U9.vm) q9.2.2.2.1, q9.2.2.2.2.1, fun w hw => va_Nw.same (u := U9) (nest_on w hw) rfl (q9.2.2.2.2.2 w hw)⟩, fun U hU hW => ⟨rfl, by rw [hU], by rw [hU]; exact hP, va_K.moved hW.alike hK, hD.weaken (fun _ _ _ _ => trivial), nest_warm hW hNest⟩⟩ rfl rfl hl.1 rfl (lv_room (Nat.le_of_ble_eq_true rfl)) dL_law_4 ⟨Nat.le_of_ble_eq_true rfl, Nat.le_of_ble_eq_true rfl⟩) hS (fun q _ h => hFc q h) hFc (fun u9 t9 H1 locs ht9 hvm9 hw9 hB9 hz9 hk9 hS => ?_)
  obtain ⟨q, k⟩ := u9
  obtain ⟨hP1, hK1, hD1⟩ := hB9
  rw [ht9] at hP1
  have hKC1 : va_K (dC, dI) vwCl (tyC k) s := va_K.moved hvm9.symm hK1
  have hPC : va_P (dC, dI) vwCl (wC q k st0C) H1 := hP1
  have hDC : va_D (A0 s) (wC q k st0C) := hD1.weaken (fun _ _ _ h => hFc _ h)
  have hq0 : q 0 = qa := hw9
  clear hP hD hFc hk9 hz9 hP1 hD1
  refine lv_astore_n (lv' := [(1, .ref qa), (0, .ref b)]) hx hb dL_law_7 rfl hl (by decide) rfl (fun ls hl => ?_)
  rw [← hq0] at hl
  refine va_new (ci := 10) (fs := [.int 0, .int 0, .null, .int 0, .null, .int 0, .null, .null, .null, .null, .int 0, .null, .null, .null, .null, .int 0, .null, .null, .null, .int 0, .null, .null, .null, .null, .null, .null, .null, .null, .null, .null, .int 0, .null, .null, .null, .int 0, .null, .null, .null, .null, .int 0, .null, .null, .null, .null, .int 0]) (C := RX10) (T := TX10) (N := 45) hx hb hts inlX10 tyX10 tyX10_ok hown (hts (.classLink RL 62 RX10) (by decide +kernel)) (hts (.instantiable RX10 45) (by decide +kernel)) (hts (.initialized RX10) (by decide +kernel)) hK hPC hDC hS hA rfl (fun j hj => by rcases (show j = 0 ∨ j = 1 ∨ j = 2 ∨ j = 3 ∨ j = 4 ∨ j = 5 ∨ j = 6 ∨ j = 7 ∨ j = 8 ∨ j = 9 ∨ j = 10 ∨ j = 11 ∨ j = 12 ∨ j = 13 ∨ j = 14 ∨ j = 15 ∨ j = 16 ∨ j = 17 ∨ j = 18 ∨ j = 19 ∨ j = 20 ∨ j = 21 ∨ j = 22 ∨ j = 23 ∨ j = 24 ∨ j = 25 ∨ j = 26 ∨ j = 27 ∨ j = 28 ∨ j = 29 ∨ j = 30 ∨ j = 31 ∨ j = 32 ∨ j = 33 ∨ j = 34 ∨ j = 35 ∨ j = 36 ∨ j = 37 ∨ j = 38 ∨ j = 39 ∨ j = 40 ∨ j = 41 ∨ j = 42 ∨ j = 43 ∨ j = 44 by omega) with rfl | rfl | rfl | rfl | rfl | rfl | rfl | rfl | rfl | rfl | rfl | rfl | rfl | rfl | rfl | rfl | rfl | rfl | rfl | rfl | rfl | rfl | rfl | rfl | rfl | rfl | rfl | rfl | rfl | rfl | rfl | rfl | rfl | rfl | rfl | rfl | rfl | rfl | rfl | rfl | rfl | rfl | rfl | rfl | rfl <;> rfl) (Nat.le_of_ble_eq_true rfl) (Nat.le_of_ble_eq_true rfl) dL_law_8 (fun qb H hP hD hS => ?_)
  refine lv_dup hx hb dL_law_11 rfl ?_
  have hFc := va_free (wc := [(qb, .inr (10, [.int 0, .int 0, .null, .int 0, .null, .int 0, .null, .null, .null, .null, .int 0, .null, .null, .null, .null, .int 0, .null, .null, .null, .int 0, .null, .null, .null, .null, .null, .null, .null, .null, .null, .null, .int 0, .null, .null, .null, .int 0, .null, .null, .null, .null, .int 0, .null, .null, .null, .null, .int 0]))]) hD hS hA [43] rfl
  have hPb : va_P (dC, dI) vwCl [(qb, .inr (10, [.int 0, .int 0, .null, .int 0, .null, .int 0, .null, .null, .null, .null, .int 0, .null, .null, .null, .null, .int 0, .null, .null, .null, .int 0, .null, .null, .null, .null, .null, .null, .null, .null, .null, .null, .int 0, .null, .null, .null, .int 0, .null, .null, .null, .null, .int 0, .null, .null, .null, .null, .int 0]))] H := P_right hP
  have hDb : va_D (fun _ => True) [(qb, .inr (10, [.int 0, .int 0, .null, .int 0, .null, .int 0, .null, .null, .null, .null, .int 0, .null, .null, .null, .null, .int 0, .null, .null, .null, .int 0, .null, .null, .null, .null, .null, .null, .null, .null, .null, .null, .int 0, .null, .null, .null, .int 0, .null, .null, .null, .null, .int 0, .null, .null, .null, .null, .int 0]))] := (hD.sub [43] (by decide) rfl).weaken (fun _ _ _ _ => trivial)
  refine va_callv (va_runI (As := []) (rest := [.ref qb]) ⟨hx, hb, hml, hown, hts⟩ (c_X10_init l dC dI qb H.size) (cwI 0 hts gL_law_X10_init rfl rfl rfl (hts (.initialized RX10) (by decide +kernel)) (hts (.methodLink RL 64 yX10_init) (by decide +kernel)) (hts (.instanceMethod yX10_init) (by decide +kernel)) rfl (by decide +kernel) ⟨Nat.le_of_ble_eq_true rfl, Nat.le_of_ble_eq_true rfl⟩) ⟨fun a9 U9 g9 mk9 q9 => ⟨q9.1, q9.2.1, q9.2.2.1, va_K.moved (u := U9) (U := U9.calling g9 mk9 a9) (Vm.Alike.refl U9.vm) q9.2.2.2.1, q9.2.2.2.2⟩, fun U hU hW => ⟨rfl, by rw [hU], by rw [hU]; exact hPb, va_K.moved hW.alike hK, hDb⟩⟩ rfl rfl hl.1 rfl (lv_room (Nat.le_of_ble_eq_true rfl)) dL_law_12 ⟨Nat.le_of_ble_eq_true rfl, Nat.le_of_ble_eq_true rfl⟩) hS (fun q _ h => hFc q h) hFc (fun u10 t10 H2 locs2 ht10 hvm10 hw10 hB10 hz10 hk10 hS => ?_)
  obtain ⟨q2, k2⟩ := u10
  obtain ⟨hP2, hK2, hD2⟩ := hB10
  rw [ht10] at hP2
  have hKM1 : va_K (dC, dI) vwCl (tyM k2) s := va_K.moved hvm10.symm hK2
  have hq20 : q2 0 = qb := hw10
  obtain ⟨hP, hD⟩ := va_join (wc := [(qb, .inr (10, [.int 0, .int 0, .null, .int 0, .null, .int 0, .null, .null, .null, .null, .int 0, .null, .null, .null, .null, .int 0, .null, .null, .null, .int 0, .null, .null, .null, .null, .null, .null, .null, .null, .null, .null, .int 0, .null, .null, .null, .int 0, .null, .null, .null, .null, .int 0, .null, .null, .null, .null, .int 0]))]) (wr := wC q k st0C) (w1 := wM q2 k2 st0M) hP hD [43] [0, 1, 2, 3, 4, 5, 6, 7, 8, 9, 10, 11, 12, 13, 14, 15, 16, 17, 18, 19, 20, 21, 22, 23, 24, 25, 26, 27, 28, 29, 30, 31, 32, 33, 34, 35, 36, 37, 38, 39, 40, 41, 42] rfl rfl (by decide) (by decide) hk10 hFc hP2 hD2
  clear hPb hDb hFc hk10 hz10 hP2 hD2 hPC hDC
  refine lv_astore_n (lv' := [(2, .ref qb), (1, .ref (q 0)), (0, .ref b)]) hx hb dL_law_15 rfl hl (by decide) rfl (fun ls hl => ?_)
  rw [← hq20] at hl
  refine lv_iconst (v := 1) hx hb dL_law_16 (by decide) ?_
  refine va_newa (atype := .long) (n := 1) (a0 := (1, .inr (.inl (fun _ => 0)))) (ty := .long) (N' := 1) hx hb (hts (.arrayClass .long) (by decide +kernel)) rfl hK hP hD hS hA (fun cA9 => z_long 1 cA9) (by decide +kernel) (by decide +kernel) (by decide +kernel) (Nat.le_of_ble_eq_true rfl) (Nat.le_of_ble_eq_true rfl) dL_law_17 (fun o ko H hK hP hD hS => ?_)
  have hP : va_P (dC, dI) vwCl ((wC q k st0C ++ wM q2 k2 st0M) ++ wO o ko (fun _ => 0)) H := hP
  have hD : va_D (A0 s) ((wC q k st0C ++ wM q2 k2 st0M) ++ wO o ko (fun _ => 0)) := hD
  refine lv_astore_n (lv' := [(3, .ref o), (2, .ref (q2 0)), (1, .ref (q 0)), (0, .ref b)]) hx hb dL_law_19 rfl hl (by decide) rfl (fun ls hl => ?_)
  refine lv_iconst (v := 0) hx hb dL_law_20 (by decide) ?_
  refine lv_istore (lv' := [(4, .int 0), (3, .ref o), (2, .ref (q2 0)), (1, .ref (q 0)), (0, .ref b)]) hx hb dL_law_21 hl (by decide) rfl (fun ls hl => ?_)
  obtain ⟨a1, a2, a3, a4, a5, a6, a7, a8⟩ := apart3 hD
  refine W.cs (cells' := 79 + 0) (slots' := 5487 + 6 * 0) (by omega) (by omega) ?_
  exact law_loop hR ⟨hx, hb, hml, hown, hts, hX, hbl, hst, ⟨hKC1, hNest⟩, ⟨hKM1, trivial⟩, hK, hTH, hNC, a1, a2, a3, a4, a5, a6, a7, a8⟩ hr hlocks hL (L + 1) 0 0 st0C st0M (fun _ => 0) H _ ls (by omega) (by omega) (by decide) hR.2.1 ⟨P_left (P_left hP), P_right (P_left hP), P_right hP, hS⟩ hl

section
variable {p : Program} {l : Launch} {e : Env} {R : Room} {s : State} {m : MethodId} {args : Array Value} {below : List Frame} {meth : Method} {c : Code} {H : Heap} {locs : List Loc} {cells slots : Nat} {Q : State → Prop}
variable {mc ms : Nat} {free : Addr → Prop} {A0 A1 : Nat → Prop} {H0 : Heap} {a : Array Value} {pc : Nat} {ls : Array Slot} {st0 rest : List Value}
theorem vx_catch {own name : String} {E : String} {ce : Cell} {q : Addr} (hown : s.vm.findClass own = some m.cls) (pre : List ExceptionTableEntry) (x : ExceptionTableEntry) (suf : List ExceptionTableEntry) (hsplit : c.exceptionTable.toList = pre ++ x :: suf)
    (hpass : ∀ z ∈ pre, covers z pc = false ∨ (z.catchType ≠ 0 ∧ ∃ nm : String, (Cond.classLink own z.catchType nm).before args s = true ∧ va_Nc E nm s)) (hx : covers x pc = true) (h0 : x.catchType ≠ 0)
    (hlink : (Cond.classLink own x.catchType name).before args s = true) (hcast : (Cond.castable E name).before args s = true) (hcell : H[q]? = some ce) (hv : ce.vm = .none) (hcl : s.vm.findClass E = some ce.cls)
    (kk : W p l e R s m args below meth c H locs cells slots Q (F0 m x.handlerPc ls [.ref q])) : vx_W p l e R s m args below meth c H locs cells slots Q (F0 m pc ls rest) q := by
  intro T hT X
  have hpl : e.platform.magicAccessors = ({} : Platform).magicAccessors := by rw [X.admits.platform]
  obtain ⟨c3, c4, hc3, hc4, hasg⟩ := Cond.castable_spec hcast
  cases Option.some.inj (hc3.symm.trans hcl)
  obtain ⟨c5, hc5, hcl5⟩ := Cond.classLink_spec hown hlink e.platform hpl
  cases Option.some.inj (hc4.symm.trans hc5)
  obtain ⟨vm', X', st⟩ := Stand.thenCaughtThrough X q (g := F0 m pc ls rest) rfl (Steps.refl _) (by rw [hT]; exact hcell) (by rw [hv]; rfl) (by obtain ⟨k9, h9, -⟩ := Vm.findClass_spec hcl; exact ⟨k9, h9⟩) pre x suf hsplit
    (fun z hz => by
      rcases hpass z hz with h | ⟨hz0, nm, hl1, hn1⟩
      · exact Or.inl h
      · obtain ⟨c6, hc6, hcl6⟩ := Cond.classLink_spec hown hl1 e.platform hpl
        obtain ⟨a8, b8, h1, h2, h3⟩ := hn1
        cases Option.some.inj (h1.symm.trans hcl)
        cases Option.some.inj (h2.symm.trans hc6)
        exact Or.inr ⟨hz0, _, hcl6, h3⟩) hx (Or.inr ⟨h0, c4, hcl5, hasg⟩)
  obtain ⟨t, a1, b1⟩ := kk (T.setVm vm') hT X'
  exact ⟨t, st.trans a1, b1⟩
end
def wO (o : Nat) (ko : ClassId) (f : Nat → Int64) : va_W := [(o, .inl (ko, 1, .inr (.inl f)))]
def aO (q : Nat → Nat) (o : Nat) : Nat → Prop := fun a => aC q a ∨ a = o
theorem wO_at {o : Nat} {ko : ClassId} {f : Nat → Int64} {i : Nat} {p : Nat × va_E} (h : (wO o ko f)[i]? = some p) : i = 0 ∧ p.1 = o := by
  match i, h with
  | 0, h => cases h; exact ⟨rfl, rfl⟩
  | i + 1, h => simp [wO] at h
theorem dCO_of {q : Nat → Nat} {k : Nat → ClassId} {st : St} {o : Nat} {ko : ClassId} {f : Nat → Int64} (hq : ∀ i j, i < 43 → j < 43 → q i = q j → i = j) (ho : ∀ j, j < 43 → q j ≠ o) : va_D (aO q o) (wC q k st ++ wO o ko f) :=
  va_D.app ((dC_of hq).weaken (fun _ _ _ h => Or.inl h)) ⟨fun i j _ _ h1 h2 _ => (wO_at h1).1.trans (wO_at h2).1.symm, fun _ _ h => Or.inr (wO_at h).2⟩ (fun i j _ _ h1 h2 e => ho i (wC_at h1).1 (by rw [← (wC_at h1).2, ← (wO_at h2).2]; exact e))
theorem va_P_left {D : va_G} {cl : List vw_C} {a b : va_W} {H : Heap} (h : va_P D cl (a ++ b) H) : va_P D cl a H := fun k q hk => h k q (by rw [List.getElem?_append_left ((List.getElem?_eq_some_iff.mp hk).1)]; exact hk)
theorem va_P_right {D : va_G} {cl : List vw_C} {a b : va_W} {H : Heap} (h : va_P D cl (a ++ b) H) : va_P D cl b H := fun k q hk => h (a.length + k) q (by rw [List.getElem?_append_right (by omega), Nat.add_sub_cancel_left]; exact hk)
def NC (U : State) : Prop := va_Nc "java/lang/IllegalStateException" "java/lang/IllegalArgumentException" U ∧ va_Nc "java/lang/IllegalStateException" "java/util/NoSuchElementException" U ∧ va_Nc "java/lang/IllegalArgumentException" "java/util/NoSuchElementException" U
theorem NC.moved {s U : State} (h : NC s) (e : s.vm.Alike U.vm) : NC U := ⟨va_Nc.moved e h.1, va_Nc.moved e h.2.1, va_Nc.moved e h.2.2⟩
/-- the world of a wrapper: the class, the law's own array, and what a throw needs -/
def LW (D : va_G) (q : Nat → Nat) (k : Nat → ClassId) (st : St) (o : Nat) (ko : ClassId) (f : Nat → Int64) (U : State) : Prop := va_P D vwCl (wC q k st) U.heap ∧ va_P D vwCl (wO o ko f) U.heap ∧ KC D k U ∧ va_K D vwCl [(ko, .long)] U ∧ TH (aO q o) U U.heap ∧ NC U
theorem fb_L {D : va_G} {q : Nat → Nat} {k : Nat → ClassId} {st : St} {o : Nat} {ko : ClassId} {f : Nat → Int64} {av : List Value} : FrameBlind (va_Pc av (LW D q k st o ko f)) := fun a U g mk h => ⟨h.1, h.2.1, h.2.2.1, KC.same (U := U.calling g mk a) h.2.2.2.1 rfl, va_K.moved (u := U) (U := U.calling g mk a) (Vm.Alike.refl U.vm) h.2.2.2.2.1, TH.same (U := U.calling g mk a) h.2.2.2.2.2.1 rfl, NC.moved (U := U.calling g mk a) h.2.2.2.2.2.2 (Vm.Alike.refl U.vm)⟩
def cL (c : Int32) : Int32 := if c = 0 then 0 else if c = 3 then 1 else c + 1
theorem code_purpose (st : St) (a1 : Int32) : (sp_X9_purpose st a1).1 = 0 ∨ (sp_X9_purpose st a1).1 = 1 ∨ (sp_X9_purpose st a1).1 = 2 := by
  unfold sp_X9_purpose
  repeat' split
  all_goals first | exact Or.inl rfl | exact Or.inr (Or.inl rfl) | exact Or.inr (Or.inr rfl) | exact Or.inr (Or.inr (Or.inl rfl)) | exact Or.inr (Or.inr (Or.inr rfl))
theorem code_kind (st : St) (a1 : Int32) : (sp_X9_kind st a1).1 = 0 ∨ (sp_X9_kind st a1).1 = 1 ∨ (sp_X9_kind st a1).1 = 2 := by
  unfold sp_X9_kind
  repeat' split
  all_goals first | exact Or.inl rfl | exact Or.inr (Or.inl rfl) | exact Or.inr (Or.inr rfl) | exact Or.inr (Or.inr (Or.inl rfl)) | exact Or.inr (Or.inr (Or.inr rfl))
theorem code_consent (st : St) (a1 : Int32) (a2 : Int32) (a3 : Int32) (a4 : Int32) : (sp_X9_consent st a1 a2 a3 a4).1 = 0 ∨ (sp_X9_consent st a1 a2 a3 a4).1 = 1 ∨ (sp_X9_consent st a1 a2 a3 a4).1 = 2 := by
  unfold sp_X9_consent
  repeat' split
  all_goals first | exact Or.inl rfl | exact Or.inr (Or.inl rfl) | exact Or.inr (Or.inr rfl) | exact Or.inr (Or.inr (Or.inl rfl)) | exact Or.inr (Or.inr (Or.inr rfl))
theorem code_contract (st : St) (a1 : Int32) (a2 : Int32) (a3 : Int32) (a4 : Int32) : (sp_X9_contract st a1 a2 a3 a4).1 = 0 ∨ (sp_X9_contract st a1 a2 a3 a4).1 = 1 ∨ (sp_X9_contract st a1 a2 a3 a4).1 = 2 := by
  unfold sp_X9_contract
  repeat' split
  all_goals first | exact Or.inl rfl | exact Or.inr (Or.inl rfl) | exact Or.inr (Or.inr rfl) | exact Or.inr (Or.inr (Or.inl rfl)) | exact Or.inr (Or.inr (Or.inr rfl))
theorem code_duty (st : St) (a1 : Int32) (a2 : Int32) (a3 : Int32) : (sp_X9_duty st a1 a2 a3).1 = 0 ∨ (sp_X9_duty st a1 a2 a3).1 = 1 ∨ (sp_X9_duty st a1 a2 a3).1 = 2 := by
  unfold sp_X9_duty
  repeat' split
  all_goals first | exact Or.inl rfl | exact Or.inr (Or.inl rfl) | exact Or.inr (Or.inr rfl) | exact Or.inr (Or.inr (Or.inl rfl)) | exact Or.inr (Or.inr (Or.inr rfl))
theorem code_put (st : St) (a1 : Int32) (a2 : Int32) (a3 : Int32) (a4 : Int32) : (sp_X9_put st a1 a2 a3 a4).1 = 0 ∨ (sp_X9_put st a1 a2 a3 a4).1 = 1 ∨ (sp_X9_put st a1 a2 a3 a4).1 = 2 := by
  unfold sp_X9_put
  repeat' split
  all_goals first | exact Or.inl rfl | exact Or.inr (Or.inl rfl) | exact Or.inr (Or.inr rfl) | exact Or.inr (Or.inr (Or.inl rfl)) | exact Or.inr (Or.inr (Or.inr rfl))
theorem code_derive (st : St) (a1 : Int32) (a2 : Int32) (a3 : Int32) : (sp_X9_derive st a1 a2 a3).1 = 0 ∨ (sp_X9_derive st a1 a2 a3).1 = 1 ∨ (sp_X9_derive st a1 a2 a3).1 = 2 ∨ (sp_X9_derive st a1 a2 a3).1 = 3 := by
  unfold sp_X9_derive
  repeat' split
  all_goals first | exact Or.inl rfl | exact Or.inr (Or.inl rfl) | exact Or.inr (Or.inr rfl) | exact Or.inr (Or.inr (Or.inl rfl)) | exact Or.inr (Or.inr (Or.inr rfl))
theorem code_event (st : St) (a1 : Int32) (a2 : Int32) (a3 : Int32) : (sp_X9_event st a1 a2 a3).1 = 0 ∨ (sp_X9_event st a1 a2 a3).1 = 1 ∨ (sp_X9_event st a1 a2 a3).1 = 2 := by
  unfold sp_X9_event
  repeat' split
  all_goals first | exact Or.inl rfl | exact Or.inr (Or.inl rfl) | exact Or.inr (Or.inr rfl) | exact Or.inr (Or.inr (Or.inl rfl)) | exact Or.inr (Or.inr (Or.inr rfl))
theorem code_hold (st : St) (a1 : Int32) (a2 : Int32) (a3 : Int32) : (sp_X9_hold st a1 a2 a3).1 = 0 ∨ (sp_X9_hold st a1 a2 a3).1 = 1 ∨ (sp_X9_hold st a1 a2 a3).1 = 2 := by
  unfold sp_X9_hold
  repeat' split
  all_goals first | exact Or.inl rfl | exact Or.inr (Or.inl rfl) | exact Or.inr (Or.inr rfl) | exact Or.inr (Or.inr (Or.inl rfl)) | exact Or.inr (Or.inr (Or.inr rfl))
theorem code_lift (st : St) (a1 : Int32) (a2 : Int32) : (sp_X9_lift st a1 a2).1 = 0 ∨ (sp_X9_lift st a1 a2).1 = 1 ∨ (sp_X9_lift st a1 a2).1 = 2 := by
  unfold sp_X9_lift
  repeat' split
  all_goals first | exact Or.inl rfl | exact Or.inr (Or.inl rfl) | exact Or.inr (Or.inr rfl) | exact Or.inr (Or.inr (Or.inl rfl)) | exact Or.inr (Or.inr (Or.inr rfl))
theorem code_use (st : St) (a1 : Int32) (a2 : Int32) (a3 : Int32) : (sp_X9_use st a1 a2 a3).1 = 0 ∨ (sp_X9_use st a1 a2 a3).1 = 1 ∨ (sp_X9_use st a1 a2 a3).1 = 2 ∨ (sp_X9_use st a1 a2 a3).1 = 3 := by
  unfold sp_X9_use
  repeat' split
  all_goals first | exact Or.inl rfl | exact Or.inr (Or.inl rfl) | exact Or.inr (Or.inr rfl) | exact Or.inr (Or.inr (Or.inl rfl)) | exact Or.inr (Or.inr (Or.inr rfl))
theorem code_lp_erase (st : St) (a1 : Int32) (a2 : Int32) : ∀ (n : Nat) (s : St) (x : Int32), (lp_X9_erase_43 st a1 a2 n s x).1 = 0 := by
  intro n
  induction n with
  | zero => intro s x; rfl
  | succ n ih =>
    intro s x
    rw [lp_X9_erase_43]
    repeat' split
    all_goals first | rfl | exact ih _ _
theorem code_erase (st : St) (a1 : Int32) (a2 : Int32) : (sp_X9_erase st a1 a2).1 = 0 ∨ (sp_X9_erase st a1 a2).1 = 1 := by
  unfold sp_X9_erase
  repeat' split
  all_goals first | exact Or.inl (code_lp_erase ..) | exact Or.inl rfl | exact Or.inr rfl
theorem code_lp_sweep (st : St) (a1 : Int32) : ∀ (n : Nat) (s : St) (x : Int32), (lp_X9_sweep_32 st a1 n s x).1 = 0 := by
  intro n
  induction n with
  | zero => intro s x; rfl
  | succ n ih =>
    intro s x
    rw [lp_X9_sweep_32]
    repeat' split
    all_goals first | rfl | exact ih _ _
theorem code_sweep (st : St) (a1 : Int32) : (sp_X9_sweep st a1).1 = 0 ∨ (sp_X9_sweep st a1).1 = 1 := by
  unfold sp_X9_sweep
  repeat' split
  all_goals first | exact Or.inl (code_lp_sweep ..) | exact Or.inl rfl | exact Or.inr rfl
set_option maxHeartbeats 8000000 in
set_option maxRecDepth 100000 in
theorem c_L_purpose (l : Launch) (hst : l.stackTraces = false) (dC : Nat → ClassId) (dI : Nat → Nat → Nat) (q : Nat → Nat) (k : Nat → ClassId) (o : Nat) (ko : ClassId) (f : Nat → Int64) (st : St) (a1 : Int32) (hq : ∀ i j, i < 43 → j < 43 → q i = q j → i = j) (ho : ∀ j, j < 43 → q j ≠ o) (hok : okC st) (res : Int32 × Int32 × St) (hres : sp_X9_purpose st a1 = res) : Met l yL_purpose wsL_purpose ({ frames := 7, cells := 1, slots := 6, locals := 112 } : Room) (va_Pc [.ref (q 0), .int a1, .ref o] (LW (dC, dI) q k st o ko f)) (va_Qi (fun r (u : Nat → Int64) => r = res.1 ∧ (res.1 = 0 → u 0 = res.2.1.toInt64)) (fun u t => va_P (dC, dI) vwCl (wC q k res.2.2) t.heap ∧ va_P (dC, dI) vwCl (wO o ko u) t.heap) (aO q o)) 1 6 (aO q o) := by
  refine va_MetW (cc := cL_purpose) (maxL := 4) (ret := (some .int)) (hh := [(0, 9, 12, 13), (0, 9, 15, 15)]) (by decide) rfl ?_
  intro p e s m args below meth c s₁ B hml hv
  obtain ⟨rfl, hP, hPO, hK, hKo, hT, hNC⟩ := hv
  have hx := B.exec
  have hb := B.bytes
  have hr := B.returns
  have hts := atoms_spec (ws := wsL_purpose) B.pre
  have hown : s.vm.findClass RL = some m.cls := findClass_of_methodNamed B.named
  have hlocks := B.notSynchronized
  have htab := vx_table (x := yL_purpose) B (hts _ List.mem_cons_self)
  have hS : va_S (aO q o) s.heap s.heap [] := va_S.rf
  have hno : ¬ aC q o := fun ⟨j, hj, e9⟩ => ho j hj e9.symm
  have hl := lv_entry ([.ref (q 0), .int a1, .ref o]) (n := 4) (Nat.le_of_ble_eq_true rfl)
  rw [lg_entry_eq]
  generalize (lg_sl ([.ref (q 0), .int a1, .ref o]) ++ List.replicate (4 - (lg_sl ([.ref (q 0), .int a1, .ref o])).length) Slot.unset).toArray = ls at hl ⊢
  have hl : lv_has ls 4 [(0, .ref (q 0)), (1, .int a1), (2, .ref o)] := hl
  refine lv_aload_n hx hb dL_purpose_0 rfl (lv_at hl 2 rfl) ?_
  refine lv_iconst (v := 0) hx hb dL_purpose_1 (by decide) ?_
  refine lv_aload_n hx hb dL_purpose_2 rfl (lv_at hl 0 rfl) ?_
  refine lv_iload_n hx hb dL_purpose_3 rfl (lv_at hl 1 rfl) ?_
  refine vx_calli (vx_runV (As := [.int a1]) (rest := [.int 0, .ref o]) ⟨hx, hb, hml, hown, hts⟩ (c_X9_purpose l hst dC dI q k st a1 hq hok res hres) (cwV 1 hts gL_purpose_X9_purpose rfl rfl rfl (by decide +kernel) ⟨Nat.le_of_ble_eq_true rfl, Nat.le_of_ble_eq_true rfl⟩) ⟨fb_X, va_recv hK.1 hP (ci := 9) (q0 := 0) rfl rfl, fun U hU hW => ⟨rfl, by rw [hU]; exact hP, hK.warm hW, by rw [hU]; exact (hT.narrow (fun _ h => Or.inl h)).warm hW⟩⟩ rfl rfl hl.1 rfl (lv_room (Nat.le_of_ble_eq_true rfl)) dL_purpose_4 ⟨Nat.le_of_ble_eq_true rfl, Nat.le_of_ble_eq_true rfl⟩) hS (fun _ _ h => Or.inl h) (fun _ h => Or.inl h) (fun _ _ h => Or.inl h) (fun E9 ce9 q9 u9 t9 H locs ht9 hv9 hp9 hB9 hz9 hk9 hS hcell hcv hcl => ?_) (fun r9 u9 t9 H locs ht9 hv9 hp9 hB9 hz9 hk9 hS => ?_)
  · obtain ⟨hE9, hB9⟩ := hB9
    rw [ht9] at hB9
    have hPO : va_P (dC, dI) vwCl (wO o ko f) H := hPO.kept (fun k9 q9 h9 => hk9 _ (va_at.lt (hPO k9 q9 h9)) (by rw [(wO_at h9).2]; exact hno))
    rcases hE9 with ⟨h1, rfl⟩ | ⟨h1, rfl⟩ | ⟨h1, rfl⟩
    · refine vx_catch (own := RL) (name := "java/lang/IllegalArgumentException") hown [] ⟨0, 9, 12, 13⟩ [⟨0, 9, 15, 15⟩] (by rw [htab]; rfl) (fun _ h => nomatch h) (by decide) (by decide) (hts (.classLink RL 13 "java/lang/IllegalArgumentException") (by decide +kernel)) (va_Nw.use rfl (hT.2.2.1 (.castable "java/lang/IllegalArgumentException" "java/lang/IllegalArgumentException") (by decide +kernel))) hcell hcv hcl ?_
      refine lv_astore_n (lv' := [(3, .ref q9), (0, .ref (q 0)), (1, .int a1), (2, .ref o)]) hx hb dL_purpose_12 rfl hl (by decide) rfl (fun ls hl => ?_)
      refine lv_iconst (v := 1) hx hb dL_purpose_13 (by decide) ?_
      refine W.widen (k := 1) (n := 6) (by decide) (by decide) ?_
      exact W.iret (v := 1) hx hb hr (fun t ht hW => ⟨⟨_, f, rfl, ⟨(by show 1 = res.1; rw [h1] <;> first | rfl | decide), fun h => absurd (h1.symm.trans h) (by decide)⟩, by rw [ht]; exact hB9, by rw [ht]; exact hPO⟩, hS.F ht⟩) hS.2.2 dL_purpose_14
    · refine vx_catch (own := RL) (name := "java/lang/IllegalStateException") hown [⟨0, 9, 12, 13⟩] ⟨0, 9, 15, 15⟩ [] (by rw [htab]; rfl) (fun z h => (fun h => by subst h; exact Or.inr ⟨by decide, "java/lang/IllegalArgumentException", hts (.classLink RL 13 "java/lang/IllegalArgumentException") (by decide +kernel), hNC.1⟩) (List.mem_singleton.mp h)) (by decide) (by decide) (hts (.classLink RL 15 "java/lang/IllegalStateException") (by decide +kernel)) (va_Nw.use rfl (hT.2.2.1 (.castable "java/lang/IllegalStateException" "java/lang/IllegalStateException") (by decide +kernel))) hcell hcv hcl ?_
      refine lv_astore_n (lv' := [(3, .ref q9), (0, .ref (q 0)), (1, .int a1), (2, .ref o)]) hx hb dL_purpose_15 rfl hl (by decide) rfl (fun ls hl => ?_)
      refine lv_iconst (v := 2) hx hb dL_purpose_16 (by decide) ?_
      refine W.widen (k := 1) (n := 6) (by decide) (by decide) ?_
      exact W.iret (v := 2) hx hb hr (fun t ht hW => ⟨⟨_, f, rfl, ⟨(by show 2 = res.1; rw [h1] <;> first | rfl | decide), fun h => absurd (h1.symm.trans h) (by decide)⟩, by rw [ht]; exact hB9, by rw [ht]; exact hPO⟩, hS.F ht⟩) hS.2.2 dL_purpose_17
    · exact absurd (hres ▸ (code_purpose st a1)) (by rw [h1]; decide)
  · obtain ⟨h0, rfl⟩ := hp9
    rw [ht9] at hB9
    have hPO : va_P (dC, dI) vwCl (wO o ko f) H := hPO.kept (fun k9 q9 h9 => hk9 _ (va_at.lt (hPO k9 q9 h9)) (by rw [(wO_at h9).2]; exact hno))
    refine lv_i2l (v := res.2.1.toInt64) hx hb dL_purpose_7 rfl ?_
    have hPA := va_P.app hB9 hPO
    refine va_last hx hb hKo hPA (dCO_of hq ho) hS 43 0 (f := f) (n := 1) (cA := ko) rfl rfl (i := 0) (x := res.2.1.toInt64) (vp_in_iff.mpr (by decide)) dL_purpose_8 (fun H locs hP _ hS => ?_)
    have hP : va_P (dC, dI) vwCl (wC q k res.2.2 ++ wO o ko (vp_updL f (0 : Int32).toNatClampNeg res.2.1.toInt64)) H := hP
    have hB9 := va_P_left hP
    have hPO := va_P_right hP
    refine lv_goto (tgt := 18) hx hb dL_purpose_9 (by decide) ?_
    refine lv_iconst (v := 0) hx hb dL_purpose_18 (by decide) ?_
    refine W.widen (k := 1) (n := 6) (by decide) (by decide) ?_
    exact W.iret (v := 0) hx hb hr (fun t ht hW => ⟨⟨_, (vp_updL f (0 : Int32).toNatClampNeg res.2.1.toInt64), rfl, ⟨(by show 0 = res.1; rw [h0] <;> first | rfl | decide), fun _ => rfl⟩, by rw [ht]; exact hB9, by rw [ht]; exact hPO⟩, hS.F ht⟩) hS.2.2 dL_purpose_19
set_option maxHeartbeats 8000000 in
set_option maxRecDepth 100000 in
theorem c_L_kind (l : Launch) (hst : l.stackTraces = false) (dC : Nat → ClassId) (dI : Nat → Nat → Nat) (q : Nat → Nat) (k : Nat → ClassId) (o : Nat) (ko : ClassId) (f : Nat → Int64) (st : St) (a1 : Int32) (hq : ∀ i j, i < 43 → j < 43 → q i = q j → i = j) (ho : ∀ j, j < 43 → q j ≠ o) (hok : okC st) (res : Int32 × Int32 × St) (hres : sp_X9_kind st a1 = res) : Met l yL_kind wsL_kind ({ frames := 7, cells := 1, slots := 6, locals := 112 } : Room) (va_Pc [.ref (q 0), .int a1, .ref o] (LW (dC, dI) q k st o ko f)) (va_Qi (fun r (u : Nat → Int64) => r = res.1 ∧ (res.1 = 0 → u 0 = res.2.1.toInt64)) (fun u t => va_P (dC, dI) vwCl (wC q k res.2.2) t.heap ∧ va_P (dC, dI) vwCl (wO o ko u) t.heap) (aO q o)) 1 6 (aO q o) := by
  refine va_MetW (cc := cL_kind) (maxL := 4) (ret := (some .int)) (hh := [(0, 9, 12, 13), (0, 9, 15, 15)]) (by decide) rfl ?_
  intro p e s m args below meth c s₁ B hml hv
  obtain ⟨rfl, hP, hPO, hK, hKo, hT, hNC⟩ := hv
  have hx := B.exec
  have hb := B.bytes
  have hr := B.returns
  have hts := atoms_spec (ws := wsL_kind) B.pre
  have hown : s.vm.findClass RL = some m.cls := findClass_of_methodNamed B.named
  have hlocks := B.notSynchronized
  have htab := vx_table (x := yL_kind) B (hts _ List.mem_cons_self)
  have hS : va_S (aO q o) s.heap s.heap [] := va_S.rf
  have hno : ¬ aC q o := fun ⟨j, hj, e9⟩ => ho j hj e9.symm
  have hl := lv_entry ([.ref (q 0), .int a1, .ref o]) (n := 4) (Nat.le_of_ble_eq_true rfl)
  rw [lg_entry_eq]
  generalize (lg_sl ([.ref (q 0), .int a1, .ref o]) ++ List.replicate (4 - (lg_sl ([.ref (q 0), .int a1, .ref o])).length) Slot.unset).toArray = ls at hl ⊢
  have hl : lv_has ls 4 [(0, .ref (q 0)), (1, .int a1), (2, .ref o)] := hl
  refine lv_aload_n hx hb dL_kind_0 rfl (lv_at hl 2 rfl) ?_
  refine lv_iconst (v := 0) hx hb dL_kind_1 (by decide) ?_
  refine lv_aload_n hx hb dL_kind_2 rfl (lv_at hl 0 rfl) ?_
  refine lv_iload_n hx hb dL_kind_3 rfl (lv_at hl 1 rfl) ?_
  refine vx_calli (vx_runV (As := [.int a1]) (rest := [.int 0, .ref o]) ⟨hx, hb, hml, hown, hts⟩ (c_X9_kind l hst dC dI q k st a1 hq hok res hres) (cwV 1 hts gL_kind_X9_kind rfl rfl rfl (by decide +kernel) ⟨Nat.le_of_ble_eq_true rfl, Nat.le_of_ble_eq_true rfl⟩) ⟨fb_X, va_recv hK.1 hP (ci := 9) (q0 := 0) rfl rfl, fun U hU hW => ⟨rfl, by rw [hU]; exact hP, hK.warm hW, by rw [hU]; exact (hT.narrow (fun _ h => Or.inl h)).warm hW⟩⟩ rfl rfl hl.1 rfl (lv_room (Nat.le_of_ble_eq_true rfl)) dL_kind_4 ⟨Nat.le_of_ble_eq_true rfl, Nat.le_of_ble_eq_true rfl⟩) hS (fun _ _ h => Or.inl h) (fun _ h => Or.inl h) (fun _ _ h => Or.inl h) (fun E9 ce9 q9 u9 t9 H locs ht9 hv9 hp9 hB9 hz9 hk9 hS hcell hcv hcl => ?_) (fun r9 u9 t9 H locs ht9 hv9 hp9 hB9 hz9 hk9 hS => ?_)
  · obtain ⟨hE9, hB9⟩ := hB9
    rw [ht9] at hB9
    have hPO : va_P (dC, dI) vwCl (wO o ko f) H := hPO.kept (fun k9 q9 h9 => hk9 _ (va_at.lt (hPO k9 q9 h9)) (by rw [(wO_at h9).2]; exact hno))
    rcases hE9 with ⟨h1, rfl⟩ | ⟨h1, rfl⟩ | ⟨h1, rfl⟩
    · refine vx_catch (own := RL) (name := "java/lang/IllegalArgumentException") hown [] ⟨0, 9, 12, 13⟩ [⟨0, 9, 15, 15⟩] (by rw [htab]; rfl) (fun _ h => nomatch h) (by decide) (by decide) (hts (.classLink RL 13 "java/lang/IllegalArgumentException") (by decide +kernel)) (va_Nw.use rfl (hT.2.2.1 (.castable "java/lang/IllegalArgumentException" "java/lang/IllegalArgumentException") (by decide +kernel))) hcell hcv hcl ?_
      refine lv_astore_n (lv' := [(3, .ref q9), (0, .ref (q 0)), (1, .int a1), (2, .ref o)]) hx hb dL_kind_12 rfl hl (by decide) rfl (fun ls hl => ?_)
      refine lv_iconst (v := 1) hx hb dL_kind_13 (by decide) ?_
      refine W.widen (k := 1) (n := 6) (by decide) (by decide) ?_
      exact W.iret (v := 1) hx hb hr (fun t ht hW => ⟨⟨_, f, rfl, ⟨(by show 1 = res.1; rw [h1] <;> first | rfl | decide), fun h => absurd (h1.symm.trans h) (by decide)⟩, by rw [ht]; exact hB9, by rw [ht]; exact hPO⟩, hS.F ht⟩) hS.2.2 dL_kind_14
    · refine vx_catch (own := RL) (name := "java/lang/IllegalStateException") hown [⟨0, 9, 12, 13⟩] ⟨0, 9, 15, 15⟩ [] (by rw [htab]; rfl) (fun z h => (fun h => by subst h; exact Or.inr ⟨by decide, "java/lang/IllegalArgumentException", hts (.classLink RL 13 "java/lang/IllegalArgumentException") (by decide +kernel), hNC.1⟩) (List.mem_singleton.mp h)) (by decide) (by decide) (hts (.classLink RL 15 "java/lang/IllegalStateException") (by decide +kernel)) (va_Nw.use rfl (hT.2.2.1 (.castable "java/lang/IllegalStateException" "java/lang/IllegalStateException") (by decide +kernel))) hcell hcv hcl ?_
      refine lv_astore_n (lv' := [(3, .ref q9), (0, .ref (q 0)), (1, .int a1), (2, .ref o)]) hx hb dL_kind_15 rfl hl (by decide) rfl (fun ls hl => ?_)
      refine lv_iconst (v := 2) hx hb dL_kind_16 (by decide) ?_
      refine W.widen (k := 1) (n := 6) (by decide) (by decide) ?_
      exact W.iret (v := 2) hx hb hr (fun t ht hW => ⟨⟨_, f, rfl, ⟨(by show 2 = res.1; rw [h1] <;> first | rfl | decide), fun h => absurd (h1.symm.trans h) (by decide)⟩, by rw [ht]; exact hB9, by rw [ht]; exact hPO⟩, hS.F ht⟩) hS.2.2 dL_kind_17
    · exact absurd (hres ▸ (code_kind st a1)) (by rw [h1]; decide)
  · obtain ⟨h0, rfl⟩ := hp9
    rw [ht9] at hB9
    have hPO : va_P (dC, dI) vwCl (wO o ko f) H := hPO.kept (fun k9 q9 h9 => hk9 _ (va_at.lt (hPO k9 q9 h9)) (by rw [(wO_at h9).2]; exact hno))
    refine lv_i2l (v := res.2.1.toInt64) hx hb dL_kind_7 rfl ?_
    have hPA := va_P.app hB9 hPO
    refine va_last hx hb hKo hPA (dCO_of hq ho) hS 43 0 (f := f) (n := 1) (cA := ko) rfl rfl (i := 0) (x := res.2.1.toInt64) (vp_in_iff.mpr (by decide)) dL_kind_8 (fun H locs hP _ hS => ?_)
    have hP : va_P (dC, dI) vwCl (wC q k res.2.2 ++ wO o ko (vp_updL f (0 : Int32).toNatClampNeg res.2.1.toInt64)) H := hP
    have hB9 := va_P_left hP
    have hPO := va_P_right hP
    refine lv_goto (tgt := 18) hx hb dL_kind_9 (by decide) ?_
    refine lv_iconst (v := 0) hx hb dL_kind_18 (by decide) ?_
    refine W.widen (k := 1) (n := 6) (by decide) (by decide) ?_
    exact W.iret (v := 0) hx hb hr (fun t ht hW => ⟨⟨_, (vp_updL f (0 : Int32).toNatClampNeg res.2.1.toInt64), rfl, ⟨(by show 0 = res.1; rw [h0] <;> first | rfl | decide), fun _ => rfl⟩, by rw [ht]; exact hB9, by rw [ht]; exact hPO⟩, hS.F ht⟩) hS.2.2 dL_kind_19
set_option maxHeartbeats 8000000 in
set_option maxRecDepth 100000 in
theorem c_L_consent (l : Launch) (hst : l.stackTraces = false) (dC : Nat → ClassId) (dI : Nat → Nat → Nat) (q : Nat → Nat) (k : Nat → ClassId) (o : Nat) (ko : ClassId) (f : Nat → Int64) (st : St) (a1 : Int32) (a2 : Int32) (a3 : Int32) (a4 : Int32) (hq : ∀ i j, i < 43 → j < 43 → q i = q j → i = j) (ho : ∀ j, j < 43 → q j ≠ o) (hok : okC st) (res : Int32 × Int32 × St) (hres : sp_X9_consent st a1 a2 a3 a4 = res) : Met l yL_consent wsL_consent ({ frames := 7, cells := 1, slots := 6, locals := 115 } : Room) (va_Pc [.ref (q 0), .int a1, .int a2, .int a3, .int a4, .ref o] (LW (dC, dI) q k st o ko f)) (va_Qi (fun r (u : Nat → Int64) => r = res.1 ∧ (res.1 = 0 → u 0 = res.2.1.toInt64)) (fun u t => va_P (dC, dI) vwCl (wC q k res.2.2) t.heap ∧ va_P (dC, dI) vwCl (wO o ko u) t.heap) (aO q o)) 1 6 (aO q o) := by
  refine va_MetW (cc := cL_consent) (maxL := 7) (ret := (some .int)) (hh := [(0, 14, 17, 13), (0, 14, 21, 15)]) (by decide) rfl ?_
  intro p e s m args below meth c s₁ B hml hv
  obtain ⟨rfl, hP, hPO, hK, hKo, hT, hNC⟩ := hv
  have hx := B.exec
  have hb := B.bytes
  have hr := B.returns
  have hts := atoms_spec (ws := wsL_consent) B.pre
  have hown : s.vm.findClass RL = some m.cls := findClass_of_methodNamed B.named
  have hlocks := B.notSynchronized
  have htab := vx_table (x := yL_consent) B (hts _ List.mem_cons_self)
  have hS : va_S (aO q o) s.heap s.heap [] := va_S.rf
  have hno : ¬ aC q o := fun ⟨j, hj, e9⟩ => ho j hj e9.symm
  have hl := lv_entry ([.ref (q 0), .int a1, .int a2, .int a3, .int a4, .ref o]) (n := 7) (Nat.le_of_ble_eq_true rfl)
  rw [lg_entry_eq]
  generalize (lg_sl ([.ref (q 0), .int a1, .int a2, .int a3, .int a4, .ref o]) ++ List.replicate (7 - (lg_sl ([.ref (q 0), .int a1, .int a2, .int a3, .int a4, .ref o])).length) Slot.unset).toArray = ls at hl ⊢
  have hl : lv_has ls 7 [(0, .ref (q 0)), (1, .int a1), (2, .int a2), (3, .int a3), (4, .int a4), (5, .ref o)] := hl
  refine lv_aload hx hb dL_consent_0 (lv_at hl 5 rfl) ?_
  refine lv_iconst (v := 0) hx hb dL_consent_2 (by decide) ?_
  refine lv_aload_n hx hb dL_consent_3 rfl (lv_at hl 0 rfl) ?_
  refine lv_iload_n hx hb dL_consent_4 rfl (lv_at hl 1 rfl) ?_
  refine lv_iload_n hx hb dL_consent_5 rfl (lv_at hl 2 rfl) ?_
  refine lv_iload_n hx hb dL_consent_6 rfl (lv_at hl 3 rfl) ?_
  refine lv_iload hx hb dL_consent_7 (lv_at hl 4 rfl) ?_
  refine vx_calli (vx_runV (As := [.int a1, .int a2, .int a3, .int a4]) (rest := [.int 0, .ref o]) ⟨hx, hb, hml, hown, hts⟩ (c_X9_consent l hst dC dI q k st a1 a2 a3 a4 hq hok res hres) (cwV 4 hts gL_consent_X9_consent rfl rfl rfl (by decide +kernel) ⟨Nat.le_of_ble_eq_true rfl, Nat.le_of_ble_eq_true rfl⟩) ⟨fb_X, va_recv hK.1 hP (ci := 9) (q0 := 0) rfl rfl, fun U hU hW => ⟨rfl, by rw [hU]; exact hP, hK.warm hW, by rw [hU]; exact (hT.narrow (fun _ h => Or.inl h)).warm hW⟩⟩ rfl rfl hl.1 rfl (lv_room (Nat.le_of_ble_eq_true rfl)) dL_consent_9 ⟨Nat.le_of_ble_eq_true rfl, Nat.le_of_ble_eq_true rfl⟩) hS (fun _ _ h => Or.inl h) (fun _ h => Or.inl h) (fun _ _ h => Or.inl h) (fun E9 ce9 q9 u9 t9 H locs ht9 hv9 hp9 hB9 hz9 hk9 hS hcell hcv hcl => ?_) (fun r9 u9 t9 H locs ht9 hv9 hp9 hB9 hz9 hk9 hS => ?_)
  · obtain ⟨hE9, hB9⟩ := hB9
    rw [ht9] at hB9
    have hPO : va_P (dC, dI) vwCl (wO o ko f) H := hPO.kept (fun k9 q9 h9 => hk9 _ (va_at.lt (hPO k9 q9 h9)) (by rw [(wO_at h9).2]; exact hno))
    rcases hE9 with ⟨h1, rfl⟩ | ⟨h1, rfl⟩ | ⟨h1, rfl⟩
    · refine vx_catch (own := RL) (name := "java/lang/IllegalArgumentException") hown [] ⟨0, 14, 17, 13⟩ [⟨0, 14, 21, 15⟩] (by rw [htab]; rfl) (fun _ h => nomatch h) (by decide) (by decide) (hts (.classLink RL 13 "java/lang/IllegalArgumentException") (by decide +kernel)) (va_Nw.use rfl (hT.2.2.1 (.castable "java/lang/IllegalArgumentException" "java/lang/IllegalArgumentException") (by decide +kernel))) hcell hcv hcl ?_
      refine lv_astore (lv' := [(6, .ref q9), (0, .ref (q 0)), (1, .int a1), (2, .int a2), (3, .int a3), (4, .int a4), (5, .ref o)]) hx hb dL_consent_17 hl (by decide) rfl (fun ls hl => ?_)
      refine lv_iconst (v := 1) hx hb dL_consent_19 (by decide) ?_
      refine W.widen (k := 1) (n := 6) (by decide) (by decide) ?_
      exact W.iret (v := 1) hx hb hr (fun t ht hW => ⟨⟨_, f, rfl, ⟨(by show 1 = res.1; rw [h1] <;> first | rfl | decide), fun h => absurd (h1.symm.trans h) (by decide)⟩, by rw [ht]; exact hB9, by rw [ht]; exact hPO⟩, hS.F ht⟩) hS.2.2 dL_consent_20
    · refine vx_catch (own := RL) (name := "java/lang/IllegalStateException") hown [⟨0, 14, 17, 13⟩] ⟨0, 14, 21, 15⟩ [] (by rw [htab]; rfl) (fun z h => (fun h => by subst h; exact Or.inr ⟨by decide, "java/lang/IllegalArgumentException", hts (.classLink RL 13 "java/lang/IllegalArgumentException") (by decide +kernel), hNC.1⟩) (List.mem_singleton.mp h)) (by decide) (by decide) (hts (.classLink RL 15 "java/lang/IllegalStateException") (by decide +kernel)) (va_Nw.use rfl (hT.2.2.1 (.castable "java/lang/IllegalStateException" "java/lang/IllegalStateException") (by decide +kernel))) hcell hcv hcl ?_
      refine lv_astore (lv' := [(6, .ref q9), (0, .ref (q 0)), (1, .int a1), (2, .int a2), (3, .int a3), (4, .int a4), (5, .ref o)]) hx hb dL_consent_21 hl (by decide) rfl (fun ls hl => ?_)
      refine lv_iconst (v := 2) hx hb dL_consent_23 (by decide) ?_
      refine W.widen (k := 1) (n := 6) (by decide) (by decide) ?_
      exact W.iret (v := 2) hx hb hr (fun t ht hW => ⟨⟨_, f, rfl, ⟨(by show 2 = res.1; rw [h1] <;> first | rfl | decide), fun h => absurd (h1.symm.trans h) (by decide)⟩, by rw [ht]; exact hB9, by rw [ht]; exact hPO⟩, hS.F ht⟩) hS.2.2 dL_consent_24
    · exact absurd (hres ▸ (code_consent st a1 a2 a3 a4)) (by rw [h1]; decide)
  · obtain ⟨h0, rfl⟩ := hp9
    rw [ht9] at hB9
    have hPO : va_P (dC, dI) vwCl (wO o ko f) H := hPO.kept (fun k9 q9 h9 => hk9 _ (va_at.lt (hPO k9 q9 h9)) (by rw [(wO_at h9).2]; exact hno))
    refine lv_i2l (v := res.2.1.toInt64) hx hb dL_consent_12 rfl ?_
    have hPA := va_P.app hB9 hPO
    refine va_last hx hb hKo hPA (dCO_of hq ho) hS 43 0 (f := f) (n := 1) (cA := ko) rfl rfl (i := 0) (x := res.2.1.toInt64) (vp_in_iff.mpr (by decide)) dL_consent_13 (fun H locs hP _ hS => ?_)
    have hP : va_P (dC, dI) vwCl (wC q k res.2.2 ++ wO o ko (vp_updL f (0 : Int32).toNatClampNeg res.2.1.toInt64)) H := hP
    have hB9 := va_P_left hP
    have hPO := va_P_right hP
    refine lv_goto (tgt := 25) hx hb dL_consent_14 (by decide) ?_
    refine lv_iconst (v := 0) hx hb dL_consent_25 (by decide) ?_
    refine W.widen (k := 1) (n := 6) (by decide) (by decide) ?_
    exact W.iret (v := 0) hx hb hr (fun t ht hW => ⟨⟨_, (vp_updL f (0 : Int32).toNatClampNeg res.2.1.toInt64), rfl, ⟨(by show 0 = res.1; rw [h0] <;> first | rfl | decide), fun _ => rfl⟩, by rw [ht]; exact hB9, by rw [ht]; exact hPO⟩, hS.F ht⟩) hS.2.2 dL_consent_26
set_option maxHeartbeats 8000000 in
set_option maxRecDepth 100000 in
theorem c_L_contract (l : Launch) (hst : l.stackTraces = false) (dC : Nat → ClassId) (dI : Nat → Nat → Nat) (q : Nat → Nat) (k : Nat → ClassId) (o : Nat) (ko : ClassId) (f : Nat → Int64) (st : St) (a1 : Int32) (a2 : Int32) (a3 : Int32) (a4 : Int32) (hq : ∀ i j, i < 43 → j < 43 → q i = q j → i = j) (ho : ∀ j, j < 43 → q j ≠ o) (hok : okC st) (res : Int32 × Int32 × St) (hres : sp_X9_contract st a1 a2 a3 a4 = res) : Met l yL_contract wsL_contract ({ frames := 7, cells := 1, slots := 6, locals := 115 } : Room) (va_Pc [.ref (q 0), .int a1, .int a2, .int a3, .int a4, .ref o] (LW (dC, dI) q k st o ko f)) (va_Qi (fun r (u : Nat → Int64) => r = res.1 ∧ (res.1 = 0 → u 0 = res.2.1.toInt64)) (fun u t => va_P (dC, dI) vwCl (wC q k res.2.2) t.heap ∧ va_P (dC, dI) vwCl (wO o ko u) t.heap) (aO q o)) 1 6 (aO q o) := by
  refine va_MetW (cc := cL_contract) (maxL := 7) (ret := (some .int)) (hh := [(0, 14, 17, 13), (0, 14, 21, 15)]) (by decide) rfl ?_
  intro p e s m args below meth c s₁ B hml hv
  obtain ⟨rfl, hP, hPO, hK, hKo, hT, hNC⟩ := hv
  have hx := B.exec
  have hb := B.bytes
  have hr := B.returns
  have hts := atoms_spec (ws := wsL_contract) B.pre
  have hown : s.vm.findClass RL = some m.cls := findClass_of_methodNamed B.named
  have hlocks := B.notSynchronized
  have htab := vx_table (x := yL_contract) B (hts _ List.mem_cons_self)
  have hS : va_S (aO q o) s.heap s.heap [] := va_S.rf
  have hno : ¬ aC q o := fun ⟨j, hj, e9⟩ => ho j hj e9.symm
  have hl := lv_entry ([.ref (q 0), .int a1, .int a2, .int a3, .int a4, .ref o]) (n := 7) (Nat.le_of_ble_eq_true rfl)
  rw [lg_entry_eq]
  generalize (lg_sl ([.ref (q 0), .int a1, .int a2, .int a3, .int a4, .ref o]) ++ List.replicate (7 - (lg_sl ([.ref (q 0), .int a1, .int a2, .int a3, .int a4, .ref o])).length) Slot.unset).toArray = ls at hl ⊢
  have hl : lv_has ls 7 [(0, .ref (q 0)), (1, .int a1), (2, .int a2), (3, .int a3), (4, .int a4), (5, .ref o)] := hl
  refine lv_aload hx hb dL_contract_0 (lv_at hl 5 rfl) ?_
  refine lv_iconst (v := 0) hx hb dL_contract_2 (by decide) ?_
  refine lv_aload_n hx hb dL_contract_3 rfl (lv_at hl 0 rfl) ?_
  refine lv_iload_n hx hb dL_contract_4 rfl (lv_at hl 1 rfl) ?_
  refine lv_iload_n hx hb dL_contract_5 rfl (lv_at hl 2 rfl) ?_
  refine lv_iload_n hx hb dL_contract_6 rfl (lv_at hl 3 rfl) ?_
  refine lv_iload hx hb dL_contract_7 (lv_at hl 4 rfl) ?_
  refine vx_calli (vx_runV (As := [.int a1, .int a2, .int a3, .int a4]) (rest := [.int 0, .ref o]) ⟨hx, hb, hml, hown, hts⟩ (c_X9_contract l hst dC dI q k st a1 a2 a3 a4 hq hok res hres) (cwV 4 hts gL_contract_X9_contract rfl rfl rfl (by decide +kernel) ⟨Nat.le_of_ble_eq_true rfl, Nat.le_of_ble_eq_true rfl⟩) ⟨fb_X, va_recv hK.1 hP (ci := 9) (q0 := 0) rfl rfl, fun U hU hW => ⟨rfl, by rw [hU]; exact hP, hK.warm hW, by rw [hU]; exact (hT.narrow (fun _ h => Or.inl h)).warm hW⟩⟩ rfl rfl hl.1 rfl (lv_room (Nat.le_of_ble_eq_true rfl)) dL_contract_9 ⟨Nat.le_of_ble_eq_true rfl, Nat.le_of_ble_eq_true rfl⟩) hS (fun _ _ h => Or.inl h) (fun _ h => Or.inl h) (fun _ _ h => Or.inl h) (fun E9 ce9 q9 u9 t9 H locs ht9 hv9 hp9 hB9 hz9 hk9 hS hcell hcv hcl => ?_) (fun r9 u9 t9 H locs ht9 hv9 hp9 hB9 hz9 hk9 hS => ?_)
  · obtain ⟨hE9, hB9⟩ := hB9
    rw [ht9] at hB9
    have hPO : va_P (dC, dI) vwCl (wO o ko f) H := hPO.kept (fun k9 q9 h9 => hk9 _ (va_at.lt (hPO k9 q9 h9)) (by rw [(wO_at h9).2]; exact hno))
    rcases hE9 with ⟨h1, rfl⟩ | ⟨h1, rfl⟩ | ⟨h1, rfl⟩
    · refine vx_catch (own := RL) (name := "java/lang/IllegalArgumentException") hown [] ⟨0, 14, 17, 13⟩ [⟨0, 14, 21, 15⟩] (by rw [htab]; rfl) (fun _ h => nomatch h) (by decide) (by decide) (hts (.classLink RL 13 "java/lang/IllegalArgumentException") (by decide +kernel)) (va_Nw.use rfl (hT.2.2.1 (.castable "java/lang/IllegalArgumentException" "java/lang/IllegalArgumentException") (by decide +kernel))) hcell hcv hcl ?_
      refine lv_astore (lv' := [(6, .ref q9), (0, .ref (q 0)), (1, .int a1), (2, .int a2), (3, .int a3), (4, .int a4), (5, .ref o)]) hx hb dL_contract_17 hl (by decide) rfl (fun ls hl => ?_)
      refine lv_iconst (v := 1) hx hb dL_contract_19 (by decide) ?_
      refine W.widen (k := 1) (n := 6) (by decide) (by decide) ?_
      exact W.iret (v := 1) hx hb hr (fun t ht hW => ⟨⟨_, f, rfl, ⟨(by show 1 = res.1; rw [h1] <;> first | rfl | decide), fun h => absurd (h1.symm.trans h) (by decide)⟩, by rw [ht]; exact hB9, by rw [ht]; exact hPO⟩, hS.F ht⟩) hS.2.2 dL_contract_20
    · refine vx_catch (own := RL) (name := "java/lang/IllegalStateException") hown [⟨0, 14, 17, 13⟩] ⟨0, 14, 21, 15⟩ [] (by rw [htab]; rfl) (fun z h => (fun h => by subst h; exact Or.inr ⟨by decide, "java/lang/IllegalArgumentException", hts (.classLink RL 13 "java/lang/IllegalArgumentException") (by decide +kernel), hNC.1⟩) (List.mem_singleton.mp h)) (by decide) (by decide) (hts (.classLink RL 15 "java/lang/IllegalStateException") (by decide +kernel)) (va_Nw.use rfl (hT.2.2.1 (.castable "java/lang/IllegalStateException" "java/lang/IllegalStateException") (by decide +kernel))) hcell hcv hcl ?_
      refine lv_astore (lv' := [(6, .ref q9), (0, .ref (q 0)), (1, .int a1), (2, .int a2), (3, .int a3), (4, .int a4), (5, .ref o)]) hx hb dL_contract_21 hl (by decide) rfl (fun ls hl => ?_)
      refine lv_iconst (v := 2) hx hb dL_contract_23 (by decide) ?_
      refine W.widen (k := 1) (n := 6) (by decide) (by decide) ?_
      exact W.iret (v := 2) hx hb hr (fun t ht hW => ⟨⟨_, f, rfl, ⟨(by show 2 = res.1; rw [h1] <;> first | rfl | decide), fun h => absurd (h1.symm.trans h) (by decide)⟩, by rw [ht]; exact hB9, by rw [ht]; exact hPO⟩, hS.F ht⟩) hS.2.2 dL_contract_24
    · exact absurd (hres ▸ (code_contract st a1 a2 a3 a4)) (by rw [h1]; decide)
  · obtain ⟨h0, rfl⟩ := hp9
    rw [ht9] at hB9
    have hPO : va_P (dC, dI) vwCl (wO o ko f) H := hPO.kept (fun k9 q9 h9 => hk9 _ (va_at.lt (hPO k9 q9 h9)) (by rw [(wO_at h9).2]; exact hno))
    refine lv_i2l (v := res.2.1.toInt64) hx hb dL_contract_12 rfl ?_
    have hPA := va_P.app hB9 hPO
    refine va_last hx hb hKo hPA (dCO_of hq ho) hS 43 0 (f := f) (n := 1) (cA := ko) rfl rfl (i := 0) (x := res.2.1.toInt64) (vp_in_iff.mpr (by decide)) dL_contract_13 (fun H locs hP _ hS => ?_)
    have hP : va_P (dC, dI) vwCl (wC q k res.2.2 ++ wO o ko (vp_updL f (0 : Int32).toNatClampNeg res.2.1.toInt64)) H := hP
    have hB9 := va_P_left hP
    have hPO := va_P_right hP
    refine lv_goto (tgt := 25) hx hb dL_contract_14 (by decide) ?_
    refine lv_iconst (v := 0) hx hb dL_contract_25 (by decide) ?_
    refine W.widen (k := 1) (n := 6) (by decide) (by decide) ?_
    exact W.iret (v := 0) hx hb hr (fun t ht hW => ⟨⟨_, (vp_updL f (0 : Int32).toNatClampNeg res.2.1.toInt64), rfl, ⟨(by show 0 = res.1; rw [h0] <;> first | rfl | decide), fun _ => rfl⟩, by rw [ht]; exact hB9, by rw [ht]; exact hPO⟩, hS.F ht⟩) hS.2.2 dL_contract_26
set_option maxHeartbeats 8000000 in
set_option maxRecDepth 100000 in
theorem c_L_duty (l : Launch) (hst : l.stackTraces = false) (dC : Nat → ClassId) (dI : Nat → Nat → Nat) (q : Nat → Nat) (k : Nat → ClassId) (o : Nat) (ko : ClassId) (f : Nat → Int64) (st : St) (a1 : Int32) (a2 : Int32) (a3 : Int32) (hq : ∀ i j, i < 43 → j < 43 → q i = q j → i = j) (ho : ∀ j, j < 43 → q j ≠ o) (hok : okC st) (res : Int32 × Int32 × St) (hres : sp_X9_duty st a1 a2 a3 = res) : Met l yL_duty wsL_duty ({ frames := 7, cells := 1, slots := 6, locals := 114 } : Room) (va_Pc [.ref (q 0), .int a1, .int a2, .int a3, .ref o] (LW (dC, dI) q k st o ko f)) (va_Qi (fun r (u : Nat → Int64) => r = res.1 ∧ (res.1 = 0 → u 0 = res.2.1.toInt64)) (fun u t => va_P (dC, dI) vwCl (wC q k res.2.2) t.heap ∧ va_P (dC, dI) vwCl (wO o ko u) t.heap) (aO q o)) 1 6 (aO q o) := by
  refine va_MetW (cc := cL_duty) (maxL := 6) (ret := (some .int)) (hh := [(0, 12, 15, 13), (0, 12, 19, 15)]) (by decide) rfl ?_
  intro p e s m args below meth c s₁ B hml hv
  obtain ⟨rfl, hP, hPO, hK, hKo, hT, hNC⟩ := hv
  have hx := B.exec
  have hb := B.bytes
  have hr := B.returns
  have hts := atoms_spec (ws := wsL_duty) B.pre
  have hown : s.vm.findClass RL = some m.cls := findClass_of_methodNamed B.named
  have hlocks := B.notSynchronized
  have htab := vx_table (x := yL_duty) B (hts _ List.mem_cons_self)
  have hS : va_S (aO q o) s.heap s.heap [] := va_S.rf
  have hno : ¬ aC q o := fun ⟨j, hj, e9⟩ => ho j hj e9.symm
  have hl := lv_entry ([.ref (q 0), .int a1, .int a2, .int a3, .ref o]) (n := 6) (Nat.le_of_ble_eq_true rfl)
  rw [lg_entry_eq]
  generalize (lg_sl ([.ref (q 0), .int a1, .int a2, .int a3, .ref o]) ++ List.replicate (6 - (lg_sl ([.ref (q 0), .int a1, .int a2, .int a3, .ref o])).length) Slot.unset).toArray = ls at hl ⊢
  have hl : lv_has ls 6 [(0, .ref (q 0)), (1, .int a1), (2, .int a2), (3, .int a3), (4, .ref o)] := hl
  refine lv_aload hx hb dL_duty_0 (lv_at hl 4 rfl) ?_
  refine lv_iconst (v := 0) hx hb dL_duty_2 (by decide) ?_
  refine lv_aload_n hx hb dL_duty_3 rfl (lv_at hl 0 rfl) ?_
  refine lv_iload_n hx hb dL_duty_4 rfl (lv_at hl 1 rfl) ?_
  refine lv_iload_n hx hb dL_duty_5 rfl (lv_at hl 2 rfl) ?_
  refine lv_iload_n hx hb dL_duty_6 rfl (lv_at hl 3 rfl) ?_
  refine vx_calli (vx_runV (As := [.int a1, .int a2, .int a3]) (rest := [.int 0, .ref o]) ⟨hx, hb, hml, hown, hts⟩ (c_X9_duty l hst dC dI q k st a1 a2 a3 hq hok res hres) (cwV 3 hts gL_duty_X9_duty rfl rfl rfl (by decide +kernel) ⟨Nat.le_of_ble_eq_true rfl, Nat.le_of_ble_eq_true rfl⟩) ⟨fb_X, va_recv hK.1 hP (ci := 9) (q0 := 0) rfl rfl, fun U hU hW => ⟨rfl, by rw [hU]; exact hP, hK.warm hW, by rw [hU]; exact (hT.narrow (fun _ h => Or.inl h)).warm hW⟩⟩ rfl rfl hl.1 rfl (lv_room (Nat.le_of_ble_eq_true rfl)) dL_duty_7 ⟨Nat.le_of_ble_eq_true rfl, Nat.le_of_ble_eq_true rfl⟩) hS (fun _ _ h => Or.inl h) (fun _ h => Or.inl h) (fun _ _ h => Or.inl h) (fun E9 ce9 q9 u9 t9 H locs ht9 hv9 hp9 hB9 hz9 hk9 hS hcell hcv hcl => ?_) (fun r9 u9 t9 H locs ht9 hv9 hp9 hB9 hz9 hk9 hS => ?_)
  · obtain ⟨hE9, hB9⟩ := hB9
    rw [ht9] at hB9
    have hPO : va_P (dC, dI) vwCl (wO o ko f) H := hPO.kept (fun k9 q9 h9 => hk9 _ (va_at.lt (hPO k9 q9 h9)) (by rw [(wO_at h9).2]; exact hno))
    rcases hE9 with ⟨h1, rfl⟩ | ⟨h1, rfl⟩ | ⟨h1, rfl⟩
    · refine vx_catch (own := RL) (name := "java/lang/IllegalArgumentException") hown [] ⟨0, 12, 15, 13⟩ [⟨0, 12, 19, 15⟩] (by rw [htab]; rfl) (fun _ h => nomatch h) (by decide) (by decide) (hts (.classLink RL 13 "java/lang/IllegalArgumentException") (by decide +kernel)) (va_Nw.use rfl (hT.2.2.1 (.castable "java/lang/IllegalArgumentException" "java/lang/IllegalArgumentException") (by decide +kernel))) hcell hcv hcl ?_
      refine lv_astore (lv' := [(5, .ref q9), (0, .ref (q 0)), (1, .int a1), (2, .int a2), (3, .int a3), (4, .ref o)]) hx hb dL_duty_15 hl (by decide) rfl (fun ls hl => ?_)
      refine lv_iconst (v := 1) hx hb dL_duty_17 (by decide) ?_
      refine W.widen (k := 1) (n := 6) (by decide) (by decide) ?_
      exact W.iret (v := 1) hx hb hr (fun t ht hW => ⟨⟨_, f, rfl, ⟨(by show 1 = res.1; rw [h1] <;> first | rfl | decide), fun h => absurd (h1.symm.trans h) (by decide)⟩, by rw [ht]; exact hB9, by rw [ht]; exact hPO⟩, hS.F ht⟩) hS.2.2 dL_duty_18
    · refine vx_catch (own := RL) (name := "java/lang/IllegalStateException") hown [⟨0, 12, 15, 13⟩] ⟨0, 12, 19, 15⟩ [] (by rw [htab]; rfl) (fun z h => (fun h => by subst h; exact Or.inr ⟨by decide, "java/lang/IllegalArgumentException", hts (.classLink RL 13 "java/lang/IllegalArgumentException") (by decide +kernel), hNC.1⟩) (List.mem_singleton.mp h)) (by decide) (by decide) (hts (.classLink RL 15 "java/lang/IllegalStateException") (by decide +kernel)) (va_Nw.use rfl (hT.2.2.1 (.castable "java/lang/IllegalStateException" "java/lang/IllegalStateException") (by decide +kernel))) hcell hcv hcl ?_
      refine lv_astore (lv' := [(5, .ref q9), (0, .ref (q 0)), (1, .int a1), (2, .int a2), (3, .int a3), (4, .ref o)]) hx hb dL_duty_19 hl (by decide) rfl (fun ls hl => ?_)
      refine lv_iconst (v := 2) hx hb dL_duty_21 (by decide) ?_
      refine W.widen (k := 1) (n := 6) (by decide) (by decide) ?_
      exact W.iret (v := 2) hx hb hr (fun t ht hW => ⟨⟨_, f, rfl, ⟨(by show 2 = res.1; rw [h1] <;> first | rfl | decide), fun h => absurd (h1.symm.trans h) (by decide)⟩, by rw [ht]; exact hB9, by rw [ht]; exact hPO⟩, hS.F ht⟩) hS.2.2 dL_duty_22
    · exact absurd (hres ▸ (code_duty st a1 a2 a3)) (by rw [h1]; decide)
  · obtain ⟨h0, rfl⟩ := hp9
    rw [ht9] at hB9
    have hPO : va_P (dC, dI) vwCl (wO o ko f) H := hPO.kept (fun k9 q9 h9 => hk9 _ (va_at.lt (hPO k9 q9 h9)) (by rw [(wO_at h9).2]; exact hno))
    refine lv_i2l (v := res.2.1.toInt64) hx hb dL_duty_10 rfl ?_
    have hPA := va_P.app hB9 hPO
    refine va_last hx hb hKo hPA (dCO_of hq ho) hS 43 0 (f := f) (n := 1) (cA := ko) rfl rfl (i := 0) (x := res.2.1.toInt64) (vp_in_iff.mpr (by decide)) dL_duty_11 (fun H locs hP _ hS => ?_)
    have hP : va_P (dC, dI) vwCl (wC q k res.2.2 ++ wO o ko (vp_updL f (0 : Int32).toNatClampNeg res.2.1.toInt64)) H := hP
    have hB9 := va_P_left hP
    have hPO := va_P_right hP
    refine lv_goto (tgt := 23) hx hb dL_duty_12 (by decide) ?_
    refine lv_iconst (v := 0) hx hb dL_duty_23 (by decide) ?_
    refine W.widen (k := 1) (n := 6) (by decide) (by decide) ?_
    exact W.iret (v := 0) hx hb hr (fun t ht hW => ⟨⟨_, (vp_updL f (0 : Int32).toNatClampNeg res.2.1.toInt64), rfl, ⟨(by show 0 = res.1; rw [h0] <;> first | rfl | decide), fun _ => rfl⟩, by rw [ht]; exact hB9, by rw [ht]; exact hPO⟩, hS.F ht⟩) hS.2.2 dL_duty_24
set_option maxHeartbeats 8000000 in
set_option maxRecDepth 100000 in
theorem c_L_put (l : Launch) (hst : l.stackTraces = false) (dC : Nat → ClassId) (dI : Nat → Nat → Nat) (q : Nat → Nat) (k : Nat → ClassId) (o : Nat) (ko : ClassId) (f : Nat → Int64) (st : St) (a1 : Int32) (a2 : Int32) (a3 : Int32) (a4 : Int32) (hq : ∀ i j, i < 43 → j < 43 → q i = q j → i = j) (ho : ∀ j, j < 43 → q j ≠ o) (hok : okC st) (res : Int32 × Int32 × St) (hres : sp_X9_put st a1 a2 a3 a4 = res) : Met l yL_put wsL_put ({ frames := 7, cells := 1, slots := 6, locals := 115 } : Room) (va_Pc [.ref (q 0), .int a1, .int a2, .int a3, .int a4, .ref o] (LW (dC, dI) q k st o ko f)) (va_Qi (fun r (u : Nat → Int64) => r = res.1 ∧ (res.1 = 0 → u 0 = res.2.1.toInt64)) (fun u t => va_P (dC, dI) vwCl (wC q k res.2.2) t.heap ∧ va_P (dC, dI) vwCl (wO o ko u) t.heap) (aO q o)) 1 6 (aO q o) := by
  refine va_MetW (cc := cL_put) (maxL := 7) (ret := (some .int)) (hh := [(0, 14, 17, 13), (0, 14, 21, 15)]) (by decide) rfl ?_
  intro p e s m args below meth c s₁ B hml hv
  obtain ⟨rfl, hP, hPO, hK, hKo, hT, hNC⟩ := hv
  have hx := B.exec
  have hb := B.bytes
  have hr := B.returns
  have hts := atoms_spec (ws := wsL_put) B.pre
  have hown : s.vm.findClass RL = some m.cls := findClass_of_methodNamed B.named
  have hlocks := B.notSynchronized
  have htab := vx_table (x := yL_put) B (hts _ List.mem_cons_self)
  have hS : va_S (aO q o) s.heap s.heap [] := va_S.rf
  have hno : ¬ aC q o := fun ⟨j, hj, e9⟩ => ho j hj e9.symm
  have hl := lv_entry ([.ref (q 0), .int a1, .int a2, .int a3, .int a4, .ref o]) (n := 7) (Nat.le_of_ble_eq_true rfl)
  rw [lg_entry_eq]
  generalize (lg_sl ([.ref (q 0), .int a1, .int a2, .int a3, .int a4, .ref o]) ++ List.replicate (7 - (lg_sl ([.ref (q 0), .int a1, .int a2, .int a3, .int a4, .ref o])).length) Slot.unset).toArray = ls at hl ⊢
  have hl : lv_has ls 7 [(0, .ref (q 0)), (1, .int a1), (2, .int a2), (3, .int a3), (4, .int a4), (5, .ref o)] := hl
  refine lv_aload hx hb dL_put_0 (lv_at hl 5 rfl) ?_
  refine lv_iconst (v := 0) hx hb dL_put_2 (by decide) ?_
  refine lv_aload_n hx hb dL_put_3 rfl (lv_at hl 0 rfl) ?_
  refine lv_iload_n hx hb dL_put_4 rfl (lv_at hl 1 rfl) ?_
  refine lv_iload_n hx hb dL_put_5 rfl (lv_at hl 2 rfl) ?_
  refine lv_iload_n hx hb dL_put_6 rfl (lv_at hl 3 rfl) ?_
  refine lv_iload hx hb dL_put_7 (lv_at hl 4 rfl) ?_
  refine vx_calli (vx_runV (As := [.int a1, .int a2, .int a3, .int a4]) (rest := [.int 0, .ref o]) ⟨hx, hb, hml, hown, hts⟩ (c_X9_put l hst dC dI q k st a1 a2 a3 a4 hq hok res hres) (cwV 4 hts gL_put_X9_put rfl rfl rfl (by decide +kernel) ⟨Nat.le_of_ble_eq_true rfl, Nat.le_of_ble_eq_true rfl⟩) ⟨fb_X, va_recv hK.1 hP (ci := 9) (q0 := 0) rfl rfl, fun U hU hW => ⟨rfl, by rw [hU]; exact hP, hK.warm hW, by rw [hU]; exact (hT.narrow (fun _ h => Or.inl h)).warm hW⟩⟩ rfl rfl hl.1 rfl (lv_room (Nat.le_of_ble_eq_true rfl)) dL_put_9 ⟨Nat.le_of_ble_eq_true rfl, Nat.le_of_ble_eq_true rfl⟩) hS (fun _ _ h => Or.inl h) (fun _ h => Or.inl h) (fun _ _ h => Or.inl h) (fun E9 ce9 q9 u9 t9 H locs ht9 hv9 hp9 hB9 hz9 hk9 hS hcell hcv hcl => ?_) (fun r9 u9 t9 H locs ht9 hv9 hp9 hB9 hz9 hk9 hS => ?_)
  · obtain ⟨hE9, hB9⟩ := hB9
    rw [ht9] at hB9
    have hPO : va_P (dC, dI) vwCl (wO o ko f) H := hPO.kept (fun k9 q9 h9 => hk9 _ (va_at.lt (hPO k9 q9 h9)) (by rw [(wO_at h9).2]; exact hno))
    rcases hE9 with ⟨h1, rfl⟩ | ⟨h1, rfl⟩ | ⟨h1, rfl⟩
    · refine vx_catch (own := RL) (name := "java/lang/IllegalArgumentException") hown [] ⟨0, 14, 17, 13⟩ [⟨0, 14, 21, 15⟩] (by rw [htab]; rfl) (fun _ h => nomatch h) (by decide) (by decide) (hts (.classLink RL 13 "java/lang/IllegalArgumentException") (by decide +kernel)) (va_Nw.use rfl (hT.2.2.1 (.castable "java/lang/IllegalArgumentException" "java/lang/IllegalArgumentException") (by decide +kernel))) hcell hcv hcl ?_
      refine lv_astore (lv' := [(6, .ref q9), (0, .ref (q 0)), (1, .int a1), (2, .int a2), (3, .int a3), (4, .int a4), (5, .ref o)]) hx hb dL_put_17 hl (by decide) rfl (fun ls hl => ?_)
      refine lv_iconst (v := 1) hx hb dL_put_19 (by decide) ?_
      refine W.widen (k := 1) (n := 6) (by decide) (by decide) ?_
      exact W.iret (v := 1) hx hb hr (fun t ht hW => ⟨⟨_, f, rfl, ⟨(by show 1 = res.1; rw [h1] <;> first | rfl | decide), fun h => absurd (h1.symm.trans h) (by decide)⟩, by rw [ht]; exact hB9, by rw [ht]; exact hPO⟩, hS.F ht⟩) hS.2.2 dL_put_20
    · refine vx_catch (own := RL) (name := "java/lang/IllegalStateException") hown [⟨0, 14, 17, 13⟩] ⟨0, 14, 21, 15⟩ [] (by rw [htab]; rfl) (fun z h => (fun h => by subst h; exact Or.inr ⟨by decide, "java/lang/IllegalArgumentException", hts (.classLink RL 13 "java/lang/IllegalArgumentException") (by decide +kernel), hNC.1⟩) (List.mem_singleton.mp h)) (by decide) (by decide) (hts (.classLink RL 15 "java/lang/IllegalStateException") (by decide +kernel)) (va_Nw.use rfl (hT.2.2.1 (.castable "java/lang/IllegalStateException" "java/lang/IllegalStateException") (by decide +kernel))) hcell hcv hcl ?_
      refine lv_astore (lv' := [(6, .ref q9), (0, .ref (q 0)), (1, .int a1), (2, .int a2), (3, .int a3), (4, .int a4), (5, .ref o)]) hx hb dL_put_21 hl (by decide) rfl (fun ls hl => ?_)
      refine lv_iconst (v := 2) hx hb dL_put_23 (by decide) ?_
      refine W.widen (k := 1) (n := 6) (by decide) (by decide) ?_
      exact W.iret (v := 2) hx hb hr (fun t ht hW => ⟨⟨_, f, rfl, ⟨(by show 2 = res.1; rw [h1] <;> first | rfl | decide), fun h => absurd (h1.symm.trans h) (by decide)⟩, by rw [ht]; exact hB9, by rw [ht]; exact hPO⟩, hS.F ht⟩) hS.2.2 dL_put_24
    · exact absurd (hres ▸ (code_put st a1 a2 a3 a4)) (by rw [h1]; decide)
  · obtain ⟨h0, rfl⟩ := hp9
    rw [ht9] at hB9
    have hPO : va_P (dC, dI) vwCl (wO o ko f) H := hPO.kept (fun k9 q9 h9 => hk9 _ (va_at.lt (hPO k9 q9 h9)) (by rw [(wO_at h9).2]; exact hno))
    refine lv_i2l (v := res.2.1.toInt64) hx hb dL_put_12 rfl ?_
    have hPA := va_P.app hB9 hPO
    refine va_last hx hb hKo hPA (dCO_of hq ho) hS 43 0 (f := f) (n := 1) (cA := ko) rfl rfl (i := 0) (x := res.2.1.toInt64) (vp_in_iff.mpr (by decide)) dL_put_13 (fun H locs hP _ hS => ?_)
    have hP : va_P (dC, dI) vwCl (wC q k res.2.2 ++ wO o ko (vp_updL f (0 : Int32).toNatClampNeg res.2.1.toInt64)) H := hP
    have hB9 := va_P_left hP
    have hPO := va_P_right hP
    refine lv_goto (tgt := 25) hx hb dL_put_14 (by decide) ?_
    refine lv_iconst (v := 0) hx hb dL_put_25 (by decide) ?_
    refine W.widen (k := 1) (n := 6) (by decide) (by decide) ?_
    exact W.iret (v := 0) hx hb hr (fun t ht hW => ⟨⟨_, (vp_updL f (0 : Int32).toNatClampNeg res.2.1.toInt64), rfl, ⟨(by show 0 = res.1; rw [h0] <;> first | rfl | decide), fun _ => rfl⟩, by rw [ht]; exact hB9, by rw [ht]; exact hPO⟩, hS.F ht⟩) hS.2.2 dL_put_26
set_option maxHeartbeats 8000000 in
set_option maxRecDepth 100000 in
theorem c_L_derive (l : Launch) (hst : l.stackTraces = false) (dC : Nat → ClassId) (dI : Nat → Nat → Nat) (q : Nat → Nat) (k : Nat → ClassId) (o : Nat) (ko : ClassId) (f : Nat → Int64) (st : St) (a1 : Int32) (a2 : Int32) (a3 : Int32) (hq : ∀ i j, i < 43 → j < 43 → q i = q j → i = j) (ho : ∀ j, j < 43 → q j ≠ o) (hok : okC st) (res : Int32 × Int32 × St) (hres : sp_X9_derive st a1 a2 a3 = res) : Met l yL_derive wsL_derive ({ frames := 7, cells := 1, slots := 6, locals := 137 } : Room) (va_Pc [.ref (q 0), .int a1, .int a2, .int a3, .ref o] (LW (dC, dI) q k st o ko f)) (va_Qi (fun r (u : Nat → Int64) => r = cL res.1 ∧ (res.1 = 0 → u 0 = res.2.1.toInt64)) (fun u t => va_P (dC, dI) vwCl (wC q k res.2.2) t.heap ∧ va_P (dC, dI) vwCl (wO o ko u) t.heap) (aO q o)) 1 6 (aO q o) := by
  refine va_MetW (cc := cL_derive) (maxL := 6) (ret := (some .int)) (hh := [(0, 12, 15, 38), (0, 12, 19, 13), (0, 12, 23, 15)]) (by decide) rfl ?_
  intro p e s m args below meth c s₁ B hml hv
  obtain ⟨rfl, hP, hPO, hK, hKo, hT, hNC⟩ := hv
  have hx := B.exec
  have hb := B.bytes
  have hr := B.returns
  have hts := atoms_spec (ws := wsL_derive) B.pre
  have hown : s.vm.findClass RL = some m.cls := findClass_of_methodNamed B.named
  have hlocks := B.notSynchronized
  have htab := vx_table (x := yL_derive) B (hts _ List.mem_cons_self)
  have hS : va_S (aO q o) s.heap s.heap [] := va_S.rf
  have hno : ¬ aC q o := fun ⟨j, hj, e9⟩ => ho j hj e9.symm
  have hl := lv_entry ([.ref (q 0), .int a1, .int a2, .int a3, .ref o]) (n := 6) (Nat.le_of_ble_eq_true rfl)
  rw [lg_entry_eq]
  generalize (lg_sl ([.ref (q 0), .int a1, .int a2, .int a3, .ref o]) ++ List.replicate (6 - (lg_sl ([.ref (q 0), .int a1, .int a2, .int a3, .ref o])).length) Slot.unset).toArray = ls at hl ⊢
  have hl : lv_has ls 6 [(0, .ref (q 0)), (1, .int a1), (2, .int a2), (3, .int a3), (4, .ref o)] := hl
  refine lv_aload hx hb dL_derive_0 (lv_at hl 4 rfl) ?_
  refine lv_iconst (v := 0) hx hb dL_derive_2 (by decide) ?_
  refine lv_aload_n hx hb dL_derive_3 rfl (lv_at hl 0 rfl) ?_
  refine lv_iload_n hx hb dL_derive_4 rfl (lv_at hl 1 rfl) ?_
  refine lv_iload_n hx hb dL_derive_5 rfl (lv_at hl 2 rfl) ?_
  refine lv_iload_n hx hb dL_derive_6 rfl (lv_at hl 3 rfl) ?_
  refine vx_calli (vx_runV (As := [.int a1, .int a2, .int a3]) (rest := [.int 0, .ref o]) ⟨hx, hb, hml, hown, hts⟩ (c_X9_derive l hst dC dI q k st a1 a2 a3 hq hok res hres) (cwV 3 hts gL_derive_X9_derive rfl rfl rfl (by decide +kernel) ⟨Nat.le_of_ble_eq_true rfl, Nat.le_of_ble_eq_true rfl⟩) ⟨fb_X, va_recv hK.1 hP (ci := 9) (q0 := 0) rfl rfl, fun U hU hW => ⟨rfl, by rw [hU]; exact hP, hK.warm hW, by rw [hU]; exact (hT.narrow (fun _ h => Or.inl h)).warm hW⟩⟩ rfl rfl hl.1 rfl (lv_room (Nat.le_of_ble_eq_true rfl)) dL_derive_7 ⟨Nat.le_of_ble_eq_true rfl, Nat.le_of_ble_eq_true rfl⟩) hS (fun _ _ h => Or.inl h) (fun _ h => Or.inl h) (fun _ _ h => Or.inl h) (fun E9 ce9 q9 u9 t9 H locs ht9 hv9 hp9 hB9 hz9 hk9 hS hcell hcv hcl => ?_) (fun r9 u9 t9 H locs ht9 hv9 hp9 hB9 hz9 hk9 hS => ?_)
  · obtain ⟨hE9, hB9⟩ := hB9
    rw [ht9] at hB9
    have hPO : va_P (dC, dI) vwCl (wO o ko f) H := hPO.kept (fun k9 q9 h9 => hk9 _ (va_at.lt (hPO k9 q9 h9)) (by rw [(wO_at h9).2]; exact hno))
    rcases hE9 with ⟨h1, rfl⟩ | ⟨h1, rfl⟩ | ⟨h1, rfl⟩
    · refine vx_catch (own := RL) (name := "java/lang/IllegalArgumentException") hown [⟨0, 12, 15, 38⟩] ⟨0, 12, 19, 13⟩ [⟨0, 12, 23, 15⟩] (by rw [htab]; rfl) (fun z h => (fun h => by subst h; exact Or.inr ⟨by decide, "java/util/NoSuchElementException", hts (.classLink RL 38 "java/util/NoSuchElementException") (by decide +kernel), hNC.2.2⟩) (List.mem_singleton.mp h)) (by decide) (by decide) (hts (.classLink RL 13 "java/lang/IllegalArgumentException") (by decide +kernel)) (va_Nw.use rfl (hT.2.2.1 (.castable "java/lang/IllegalArgumentException" "java/lang/IllegalArgumentException") (by decide +kernel))) hcell hcv hcl ?_
      refine lv_astore (lv' := [(5, .ref q9), (0, .ref (q 0)), (1, .int a1), (2, .int a2), (3, .int a3), (4, .ref o)]) hx hb dL_derive_19 hl (by decide) rfl (fun ls hl => ?_)
      refine lv_iconst (v := 2) hx hb dL_derive_21 (by decide) ?_
      refine W.widen (k := 1) (n := 6) (by decide) (by decide) ?_
      exact W.iret (v := 2) hx hb hr (fun t ht hW => ⟨⟨_, f, rfl, ⟨(by show 2 = cL res.1; rw [h1] <;> first | rfl | decide), fun h => absurd (h1.symm.trans h) (by decide)⟩, by rw [ht]; exact hB9, by rw [ht]; exact hPO⟩, hS.F ht⟩) hS.2.2 dL_derive_22
    · refine vx_catch (own := RL) (name := "java/lang/IllegalStateException") hown [⟨0, 12, 15, 38⟩, ⟨0, 12, 19, 13⟩] ⟨0, 12, 23, 15⟩ [] (by rw [htab]; rfl) (fun z h => (List.mem_cons.mp h).elim (fun h => by subst h; exact Or.inr ⟨by decide, "java/util/NoSuchElementException", hts (.classLink RL 38 "java/util/NoSuchElementException") (by decide +kernel), hNC.2.1⟩) (fun h => (fun h => by subst h; exact Or.inr ⟨by decide, "java/lang/IllegalArgumentException", hts (.classLink RL 13 "java/lang/IllegalArgumentException") (by decide +kernel), hNC.1⟩) (List.mem_singleton.mp h))) (by decide) (by decide) (hts (.classLink RL 15 "java/lang/IllegalStateException") (by decide +kernel)) (va_Nw.use rfl (hT.2.2.1 (.castable "java/lang/IllegalStateException" "java/lang/IllegalStateException") (by decide +kernel))) hcell hcv hcl ?_
      refine lv_astore (lv' := [(5, .ref q9), (0, .ref (q 0)), (1, .int a1), (2, .int a2), (3, .int a3), (4, .ref o)]) hx hb dL_derive_23 hl (by decide) rfl (fun ls hl => ?_)
      refine lv_iconst (v := 3) hx hb dL_derive_25 (by decide) ?_
      refine W.widen (k := 1) (n := 6) (by decide) (by decide) ?_
      exact W.iret (v := 3) hx hb hr (fun t ht hW => ⟨⟨_, f, rfl, ⟨(by show 3 = cL res.1; rw [h1] <;> first | rfl | decide), fun h => absurd (h1.symm.trans h) (by decide)⟩, by rw [ht]; exact hB9, by rw [ht]; exact hPO⟩, hS.F ht⟩) hS.2.2 dL_derive_26
    · refine vx_catch (own := RL) (name := "java/util/NoSuchElementException") hown [] ⟨0, 12, 15, 38⟩ [⟨0, 12, 19, 13⟩, ⟨0, 12, 23, 15⟩] (by rw [htab]; rfl) (fun _ h => nomatch h) (by decide) (by decide) (hts (.classLink RL 38 "java/util/NoSuchElementException") (by decide +kernel)) (va_Nw.use rfl (hT.2.2.1 (.castable "java/util/NoSuchElementException" "java/util/NoSuchElementException") (by decide +kernel))) hcell hcv hcl ?_
      refine lv_astore (lv' := [(5, .ref q9), (0, .ref (q 0)), (1, .int a1), (2, .int a2), (3, .int a3), (4, .ref o)]) hx hb dL_derive_15 hl (by decide) rfl (fun ls hl => ?_)
      refine lv_iconst (v := 1) hx hb dL_derive_17 (by decide) ?_
      refine W.widen (k := 1) (n := 6) (by decide) (by decide) ?_
      exact W.iret (v := 1) hx hb hr (fun t ht hW => ⟨⟨_, f, rfl, ⟨(by show 1 = cL res.1; rw [h1] <;> first | rfl | decide), fun h => absurd (h1.symm.trans h) (by decide)⟩, by rw [ht]; exact hB9, by rw [ht]; exact hPO⟩, hS.F ht⟩) hS.2.2 dL_derive_18
  · obtain ⟨h0, rfl⟩ := hp9
    rw [ht9] at hB9
    have hPO : va_P (dC, dI) vwCl (wO o ko f) H := hPO.kept (fun k9 q9 h9 => hk9 _ (va_at.lt (hPO k9 q9 h9)) (by rw [(wO_at h9).2]; exact hno))
    refine lv_i2l (v := res.2.1.toInt64) hx hb dL_derive_10 rfl ?_
    have hPA := va_P.app hB9 hPO
    refine va_last hx hb hKo hPA (dCO_of hq ho) hS 43 0 (f := f) (n := 1) (cA := ko) rfl rfl (i := 0) (x := res.2.1.toInt64) (vp_in_iff.mpr (by decide)) dL_derive_11 (fun H locs hP _ hS => ?_)
    have hP : va_P (dC, dI) vwCl (wC q k res.2.2 ++ wO o ko (vp_updL f (0 : Int32).toNatClampNeg res.2.1.toInt64)) H := hP
    have hB9 := va_P_left hP
    have hPO := va_P_right hP
    refine lv_goto (tgt := 27) hx hb dL_derive_12 (by decide) ?_
    refine lv_iconst (v := 0) hx hb dL_derive_27 (by decide) ?_
    refine W.widen (k := 1) (n := 6) (by decide) (by decide) ?_
    exact W.iret (v := 0) hx hb hr (fun t ht hW => ⟨⟨_, (vp_updL f (0 : Int32).toNatClampNeg res.2.1.toInt64), rfl, ⟨(by show 0 = cL res.1; rw [h0] <;> first | rfl | decide), fun _ => rfl⟩, by rw [ht]; exact hB9, by rw [ht]; exact hPO⟩, hS.F ht⟩) hS.2.2 dL_derive_28
set_option maxHeartbeats 8000000 in
set_option maxRecDepth 100000 in
theorem c_L_event (l : Launch) (hst : l.stackTraces = false) (dC : Nat → ClassId) (dI : Nat → Nat → Nat) (q : Nat → Nat) (k : Nat → ClassId) (o : Nat) (ko : ClassId) (f : Nat → Int64) (st : St) (a1 : Int32) (a2 : Int32) (a3 : Int32) (hq : ∀ i j, i < 43 → j < 43 → q i = q j → i = j) (ho : ∀ j, j < 43 → q j ≠ o) (hok : okC st) (res : Int32 × Int32 × St) (hres : sp_X9_event st a1 a2 a3 = res) : Met l yL_event wsL_event ({ frames := 7, cells := 1, slots := 6, locals := 114 } : Room) (va_Pc [.ref (q 0), .int a1, .int a2, .int a3, .ref o] (LW (dC, dI) q k st o ko f)) (va_Qi (fun r (u : Nat → Int64) => r = res.1 ∧ (res.1 = 0 → u 0 = res.2.1.toInt64)) (fun u t => va_P (dC, dI) vwCl (wC q k res.2.2) t.heap ∧ va_P (dC, dI) vwCl (wO o ko u) t.heap) (aO q o)) 1 6 (aO q o) := by
  refine va_MetW (cc := cL_event) (maxL := 6) (ret := (some .int)) (hh := [(0, 12, 15, 13), (0, 12, 19, 15)]) (by decide) rfl ?_
  intro p e s m args below meth c s₁ B hml hv
  obtain ⟨rfl, hP, hPO, hK, hKo, hT, hNC⟩ := hv
  have hx := B.exec
  have hb := B.bytes
  have hr := B.returns
  have hts := atoms_spec (ws := wsL_event) B.pre
  have hown : s.vm.findClass RL = some m.cls := findClass_of_methodNamed B.named
  have hlocks := B.notSynchronized
  have htab := vx_table (x := yL_event) B (hts _ List.mem_cons_self)
  have hS : va_S (aO q o) s.heap s.heap [] := va_S.rf
  have hno : ¬ aC q o := fun ⟨j, hj, e9⟩ => ho j hj e9.symm
  have hl := lv_entry ([.ref (q 0), .int a1, .int a2, .int a3, .ref o]) (n := 6) (Nat.le_of_ble_eq_true rfl)
  rw [lg_entry_eq]
  generalize (lg_sl ([.ref (q 0), .int a1, .int a2, .int a3, .ref o]) ++ List.replicate (6 - (lg_sl ([.ref (q 0), .int a1, .int a2, .int a3, .ref o])).length) Slot.unset).toArray = ls at hl ⊢
  have hl : lv_has ls 6 [(0, .ref (q 0)), (1, .int a1), (2, .int a2), (3, .int a3), (4, .ref o)] := hl
  refine lv_aload hx hb dL_event_0 (lv_at hl 4 rfl) ?_
  refine lv_iconst (v := 0) hx hb dL_event_2 (by decide) ?_
  refine lv_aload_n hx hb dL_event_3 rfl (lv_at hl 0 rfl) ?_
  refine lv_iload_n hx hb dL_event_4 rfl (lv_at hl 1 rfl) ?_
  refine lv_iload_n hx hb dL_event_5 rfl (lv_at hl 2 rfl) ?_
  refine lv_iload_n hx hb dL_event_6 rfl (lv_at hl 3 rfl) ?_
  refine vx_calli (vx_runV (As := [.int a1, .int a2, .int a3]) (rest := [.int 0, .ref o]) ⟨hx, hb, hml, hown, hts⟩ (c_X9_event l hst dC dI q k st a1 a2 a3 hq hok res hres) (cwV 3 hts gL_event_X9_event rfl rfl rfl (by decide +kernel) ⟨Nat.le_of_ble_eq_true rfl, Nat.le_of_ble_eq_true rfl⟩) ⟨fb_X, va_recv hK.1 hP (ci := 9) (q0 := 0) rfl rfl, fun U hU hW => ⟨rfl, by rw [hU]; exact hP, hK.warm hW, by rw [hU]; exact (hT.narrow (fun _ h => Or.inl h)).warm hW⟩⟩ rfl rfl hl.1 rfl (lv_room (Nat.le_of_ble_eq_true rfl)) dL_event_7 ⟨Nat.le_of_ble_eq_true rfl, Nat.le_of_ble_eq_true rfl⟩) hS (fun _ _ h => Or.inl h) (fun _ h => Or.inl h) (fun _ _ h => Or.inl h) (fun E9 ce9 q9 u9 t9 H locs ht9 hv9 hp9 hB9 hz9 hk9 hS hcell hcv hcl => ?_) (fun r9 u9 t9 H locs ht9 hv9 hp9 hB9 hz9 hk9 hS => ?_)
  · obtain ⟨hE9, hB9⟩ := hB9
    rw [ht9] at hB9
    have hPO : va_P (dC, dI) vwCl (wO o ko f) H := hPO.kept (fun k9 q9 h9 => hk9 _ (va_at.lt (hPO k9 q9 h9)) (by rw [(wO_at h9).2]; exact hno))
    rcases hE9 with ⟨h1, rfl⟩ | ⟨h1, rfl⟩ | ⟨h1, rfl⟩
    · refine vx_catch (own := RL) (name := "java/lang/IllegalArgumentException") hown [] ⟨0, 12, 15, 13⟩ [⟨0, 12, 19, 15⟩] (by rw [htab]; rfl) (fun _ h => nomatch h) (by decide) (by decide) (hts (.classLink RL 13 "java/lang/IllegalArgumentException") (by decide +kernel)) (va_Nw.use rfl (hT.2.2.1 (.castable "java/lang/IllegalArgumentException" "java/lang/IllegalArgumentException") (by decide +kernel))) hcell hcv hcl ?_
      refine lv_astore (lv' := [(5, .ref q9), (0, .ref (q 0)), (1, .int a1), (2, .int a2), (3, .int a3), (4, .ref o)]) hx hb dL_event_15 hl (by decide) rfl (fun ls hl => ?_)
      refine lv_iconst (v := 1) hx hb dL_event_17 (by decide) ?_
      refine W.widen (k := 1) (n := 6) (by decide) (by decide) ?_
      exact W.iret (v := 1) hx hb hr (fun t ht hW => ⟨⟨_, f, rfl, ⟨(by show 1 = res.1; rw [h1] <;> first | rfl | decide), fun h => absurd (h1.symm.trans h) (by decide)⟩, by rw [ht]; exact hB9, by rw [ht]; exact hPO⟩, hS.F ht⟩) hS.2.2 dL_event_18
    · refine vx_catch (own := RL) (name := "java/lang/IllegalStateException") hown [⟨0, 12, 15, 13⟩] ⟨0, 12, 19, 15⟩ [] (by rw [htab]; rfl) (fun z h => (fun h => by subst h; exact Or.inr ⟨by decide, "java/lang/IllegalArgumentException", hts (.classLink RL 13 "java/lang/IllegalArgumentException") (by decide +kernel), hNC.1⟩) (List.mem_singleton.mp h)) (by decide) (by decide) (hts (.classLink RL 15 "java/lang/IllegalStateException") (by decide +kernel)) (va_Nw.use rfl (hT.2.2.1 (.castable "java/lang/IllegalStateException" "java/lang/IllegalStateException") (by decide +kernel))) hcell hcv hcl ?_
      refine lv_astore (lv' := [(5, .ref q9), (0, .ref (q 0)), (1, .int a1), (2, .int a2), (3, .int a3), (4, .ref o)]) hx hb dL_event_19 hl (by decide) rfl (fun ls hl => ?_)
      refine lv_iconst (v := 2) hx hb dL_event_21 (by decide) ?_
      refine W.widen (k := 1) (n := 6) (by decide) (by decide) ?_
      exact W.iret (v := 2) hx hb hr (fun t ht hW => ⟨⟨_, f, rfl, ⟨(by show 2 = res.1; rw [h1] <;> first | rfl | decide), fun h => absurd (h1.symm.trans h) (by decide)⟩, by rw [ht]; exact hB9, by rw [ht]; exact hPO⟩, hS.F ht⟩) hS.2.2 dL_event_22
    · exact absurd (hres ▸ (code_event st a1 a2 a3)) (by rw [h1]; decide)
  · obtain ⟨h0, rfl⟩ := hp9
    rw [ht9] at hB9
    have hPO : va_P (dC, dI) vwCl (wO o ko f) H := hPO.kept (fun k9 q9 h9 => hk9 _ (va_at.lt (hPO k9 q9 h9)) (by rw [(wO_at h9).2]; exact hno))
    refine lv_i2l (v := res.2.1.toInt64) hx hb dL_event_10 rfl ?_
    have hPA := va_P.app hB9 hPO
    refine va_last hx hb hKo hPA (dCO_of hq ho) hS 43 0 (f := f) (n := 1) (cA := ko) rfl rfl (i := 0) (x := res.2.1.toInt64) (vp_in_iff.mpr (by decide)) dL_event_11 (fun H locs hP _ hS => ?_)
    have hP : va_P (dC, dI) vwCl (wC q k res.2.2 ++ wO o ko (vp_updL f (0 : Int32).toNatClampNeg res.2.1.toInt64)) H := hP
    have hB9 := va_P_left hP
    have hPO := va_P_right hP
    refine lv_goto (tgt := 23) hx hb dL_event_12 (by decide) ?_
    refine lv_iconst (v := 0) hx hb dL_event_23 (by decide) ?_
    refine W.widen (k := 1) (n := 6) (by decide) (by decide) ?_
    exact W.iret (v := 0) hx hb hr (fun t ht hW => ⟨⟨_, (vp_updL f (0 : Int32).toNatClampNeg res.2.1.toInt64), rfl, ⟨(by show 0 = res.1; rw [h0] <;> first | rfl | decide), fun _ => rfl⟩, by rw [ht]; exact hB9, by rw [ht]; exact hPO⟩, hS.F ht⟩) hS.2.2 dL_event_24
set_option maxHeartbeats 8000000 in
set_option maxRecDepth 100000 in
theorem c_L_hold (l : Launch) (hst : l.stackTraces = false) (dC : Nat → ClassId) (dI : Nat → Nat → Nat) (q : Nat → Nat) (k : Nat → ClassId) (o : Nat) (ko : ClassId) (f : Nat → Int64) (st : St) (a1 : Int32) (a2 : Int32) (a3 : Int32) (hq : ∀ i j, i < 43 → j < 43 → q i = q j → i = j) (ho : ∀ j, j < 43 → q j ≠ o) (hok : okC st) (res : Int32 × Int32 × St) (hres : sp_X9_hold st a1 a2 a3 = res) : Met l yL_hold wsL_hold ({ frames := 7, cells := 1, slots := 6, locals := 114 } : Room) (va_Pc [.ref (q 0), .int a1, .int a2, .int a3, .ref o] (LW (dC, dI) q k st o ko f)) (va_Qi (fun r (u : Nat → Int64) => r = res.1 ∧ (res.1 = 0 → u 0 = res.2.1.toInt64)) (fun u t => va_P (dC, dI) vwCl (wC q k res.2.2) t.heap ∧ va_P (dC, dI) vwCl (wO o ko u) t.heap) (aO q o)) 1 6 (aO q o) := by
  refine va_MetW (cc := cL_hold) (maxL := 6) (ret := (some .int)) (hh := [(0, 12, 15, 13), (0, 12, 19, 15)]) (by decide) rfl ?_
  intro p e s m args below meth c s₁ B hml hv
  obtain ⟨rfl, hP, hPO, hK, hKo, hT, hNC⟩ := hv
  have hx := B.exec
  have hb := B.bytes
  have hr := B.returns
  have hts := atoms_spec (ws := wsL_hold) B.pre
  have hown : s.vm.findClass RL = some m.cls := findClass_of_methodNamed B.named
  have hlocks := B.notSynchronized
  have htab := vx_table (x := yL_hold) B (hts _ List.mem_cons_self)
  have hS : va_S (aO q o) s.heap s.heap [] := va_S.rf
  have hno : ¬ aC q o := fun ⟨j, hj, e9⟩ => ho j hj e9.symm
  have hl := lv_entry ([.ref (q 0), .int a1, .int a2, .int a3, .ref o]) (n := 6) (Nat.le_of_ble_eq_true rfl)
  rw [lg_entry_eq]
  generalize (lg_sl ([.ref (q 0), .int a1, .int a2, .int a3, .ref o]) ++ List.replicate (6 - (lg_sl ([.ref (q 0), .int a1, .int a2, .int a3, .ref o])).length) Slot.unset).toArray = ls at hl ⊢
  have hl : lv_has ls 6 [(0, .ref (q 0)), (1, .int a1), (2, .int a2), (3, .int a3), (4, .ref o)] := hl
  refine lv_aload hx hb dL_hold_0 (lv_at hl 4 rfl) ?_
  refine lv_iconst (v := 0) hx hb dL_hold_2 (by decide) ?_
  refine lv_aload_n hx hb dL_hold_3 rfl (lv_at hl 0 rfl) ?_
  refine lv_iload_n hx hb dL_hold_4 rfl (lv_at hl 1 rfl) ?_
  refine lv_iload_n hx hb dL_hold_5 rfl (lv_at hl 2 rfl) ?_
  refine lv_iload_n hx hb dL_hold_6 rfl (lv_at hl 3 rfl) ?_
  refine vx_calli (vx_runV (As := [.int a1, .int a2, .int a3]) (rest := [.int 0, .ref o]) ⟨hx, hb, hml, hown, hts⟩ (c_X9_hold l hst dC dI q k st a1 a2 a3 hq hok res hres) (cwV 3 hts gL_hold_X9_hold rfl rfl rfl (by decide +kernel) ⟨Nat.le_of_ble_eq_true rfl, Nat.le_of_ble_eq_true rfl⟩) ⟨fb_X, va_recv hK.1 hP (ci := 9) (q0 := 0) rfl rfl, fun U hU hW => ⟨rfl, by rw [hU]; exact hP, hK.warm hW, by rw [hU]; exact (hT.narrow (fun _ h => Or.inl h)).warm hW⟩⟩ rfl rfl hl.1 rfl (lv_room (Nat.le_of_ble_eq_true rfl)) dL_hold_7 ⟨Nat.le_of_ble_eq_true rfl, Nat.le_of_ble_eq_true rfl⟩) hS (fun _ _ h => Or.inl h) (fun _ h => Or.inl h) (fun _ _ h => Or.inl h) (fun E9 ce9 q9 u9 t9 H locs ht9 hv9 hp9 hB9 hz9 hk9 hS hcell hcv hcl => ?_) (fun r9 u9 t9 H locs ht9 hv9 hp9 hB9 hz9 hk9 hS => ?_)
  · obtain ⟨hE9, hB9⟩ := hB9
    rw [ht9] at hB9
    have hPO : va_P (dC, dI) vwCl (wO o ko f) H := hPO.kept (fun k9 q9 h9 => hk9 _ (va_at.lt (hPO k9 q9 h9)) (by rw [(wO_at h9).2]; exact hno))
    rcases hE9 with ⟨h1, rfl⟩ | ⟨h1, rfl⟩ | ⟨h1, rfl⟩
    · refine vx_catch (own := RL) (name := "java/lang/IllegalArgumentException") hown [] ⟨0, 12, 15, 13⟩ [⟨0, 12, 19, 15⟩] (by rw [htab]; rfl) (fun _ h => nomatch h) (by decide) (by decide) (hts (.classLink RL 13 "java/lang/IllegalArgumentException") (by decide +kernel)) (va_Nw.use rfl (hT.2.2.1 (.castable "java/lang/IllegalArgumentException" "java/lang/IllegalArgumentException") (by decide +kernel))) hcell hcv hcl ?_
      refine lv_astore (lv' := [(5, .ref q9), (0, .ref (q 0)), (1, .int a1), (2, .int a2), (3, .int a3), (4, .ref o)]) hx hb dL_hold_15 hl (by decide) rfl (fun ls hl => ?_)
      refine lv_iconst (v := 1) hx hb dL_hold_17 (by decide) ?_
      refine W.widen (k := 1) (n := 6) (by decide) (by decide) ?_
      exact W.iret (v := 1) hx hb hr (fun t ht hW => ⟨⟨_, f, rfl, ⟨(by show 1 = res.1; rw [h1] <;> first | rfl | decide), fun h => absurd (h1.symm.trans h) (by decide)⟩, by rw [ht]; exact hB9, by rw [ht]; exact hPO⟩, hS.F ht⟩) hS.2.2 dL_hold_18
    · refine vx_catch (own := RL) (name := "java/lang/IllegalStateException") hown [⟨0, 12, 15, 13⟩] ⟨0, 12, 19, 15⟩ [] (by rw [htab]; rfl) (fun z h => (fun h => by subst h; exact Or.inr ⟨by decide, "java/lang/IllegalArgumentException", hts (.classLink RL 13 "java/lang/IllegalArgumentException") (by decide +kernel), hNC.1⟩) (List.mem_singleton.mp h)) (by decide) (by decide) (hts (.classLink RL 15 "java/lang/IllegalStateException") (by decide +kernel)) (va_Nw.use rfl (hT.2.2.1 (.castable "java/lang/IllegalStateException" "java/lang/IllegalStateException") (by decide +kernel))) hcell hcv hcl ?_
      refine lv_astore (lv' := [(5, .ref q9), (0, .ref (q 0)), (1, .int a1), (2, .int a2), (3, .int a3), (4, .ref o)]) hx hb dL_hold_19 hl (by decide) rfl (fun ls hl => ?_)
      refine lv_iconst (v := 2) hx hb dL_hold_21 (by decide) ?_
      refine W.widen (k := 1) (n := 6) (by decide) (by decide) ?_
      exact W.iret (v := 2) hx hb hr (fun t ht hW => ⟨⟨_, f, rfl, ⟨(by show 2 = res.1; rw [h1] <;> first | rfl | decide), fun h => absurd (h1.symm.trans h) (by decide)⟩, by rw [ht]; exact hB9, by rw [ht]; exact hPO⟩, hS.F ht⟩) hS.2.2 dL_hold_22
    · exact absurd (hres ▸ (code_hold st a1 a2 a3)) (by rw [h1]; decide)
  · obtain ⟨h0, rfl⟩ := hp9
    rw [ht9] at hB9
    have hPO : va_P (dC, dI) vwCl (wO o ko f) H := hPO.kept (fun k9 q9 h9 => hk9 _ (va_at.lt (hPO k9 q9 h9)) (by rw [(wO_at h9).2]; exact hno))
    refine lv_i2l (v := res.2.1.toInt64) hx hb dL_hold_10 rfl ?_
    have hPA := va_P.app hB9 hPO
    refine va_last hx hb hKo hPA (dCO_of hq ho) hS 43 0 (f := f) (n := 1) (cA := ko) rfl rfl (i := 0) (x := res.2.1.toInt64) (vp_in_iff.mpr (by decide)) dL_hold_11 (fun H locs hP _ hS => ?_)
    have hP : va_P (dC, dI) vwCl (wC q k res.2.2 ++ wO o ko (vp_updL f (0 : Int32).toNatClampNeg res.2.1.toInt64)) H := hP
    have hB9 := va_P_left hP
    have hPO := va_P_right hP
    refine lv_goto (tgt := 23) hx hb dL_hold_12 (by decide) ?_
    refine lv_iconst (v := 0) hx hb dL_hold_23 (by decide) ?_
    refine W.widen (k := 1) (n := 6) (by decide) (by decide) ?_
    exact W.iret (v := 0) hx hb hr (fun t ht hW => ⟨⟨_, (vp_updL f (0 : Int32).toNatClampNeg res.2.1.toInt64), rfl, ⟨(by show 0 = res.1; rw [h0] <;> first | rfl | decide), fun _ => rfl⟩, by rw [ht]; exact hB9, by rw [ht]; exact hPO⟩, hS.F ht⟩) hS.2.2 dL_hold_24
set_option maxHeartbeats 8000000 in
set_option maxRecDepth 100000 in
theorem c_L_lift (l : Launch) (hst : l.stackTraces = false) (dC : Nat → ClassId) (dI : Nat → Nat → Nat) (q : Nat → Nat) (k : Nat → ClassId) (o : Nat) (ko : ClassId) (f : Nat → Int64) (st : St) (a1 : Int32) (a2 : Int32) (hq : ∀ i j, i < 43 → j < 43 → q i = q j → i = j) (ho : ∀ j, j < 43 → q j ≠ o) (hok : okC st) (res : Int32 × St) (hres : sp_X9_lift st a1 a2 = res) : Met l yL_lift wsL_lift ({ frames := 7, cells := 1, slots := 6, locals := 112 } : Room) (va_Pc [.ref (q 0), .int a1, .int a2] (LW (dC, dI) q k st o ko f)) (va_Qi (fun r (u : Nat → Int64) => r = res.1) (fun u t => va_P (dC, dI) vwCl (wC q k res.2) t.heap ∧ va_P (dC, dI) vwCl (wO o ko u) t.heap) (aO q o)) 1 6 (aO q o) := by
  refine va_MetW (cc := cL_lift) (maxL := 4) (ret := (some .int)) (hh := [(0, 6, 9, 13), (0, 6, 12, 15)]) (by decide) rfl ?_
  intro p e s m args below meth c s₁ B hml hv
  obtain ⟨rfl, hP, hPO, hK, hKo, hT, hNC⟩ := hv
  have hx := B.exec
  have hb := B.bytes
  have hr := B.returns
  have hts := atoms_spec (ws := wsL_lift) B.pre
  have hown : s.vm.findClass RL = some m.cls := findClass_of_methodNamed B.named
  have hlocks := B.notSynchronized
  have htab := vx_table (x := yL_lift) B (hts _ List.mem_cons_self)
  have hS : va_S (aO q o) s.heap s.heap [] := va_S.rf
  have hno : ¬ aC q o := fun ⟨j, hj, e9⟩ => ho j hj e9.symm
  have hl := lv_entry ([.ref (q 0), .int a1, .int a2]) (n := 4) (Nat.le_of_ble_eq_true rfl)
  rw [lg_entry_eq]
  generalize (lg_sl ([.ref (q 0), .int a1, .int a2]) ++ List.replicate (4 - (lg_sl ([.ref (q 0), .int a1, .int a2])).length) Slot.unset).toArray = ls at hl ⊢
  have hl : lv_has ls 4 [(0, .ref (q 0)), (1, .int a1), (2, .int a2)] := hl
  refine lv_aload_n hx hb dL_lift_0 rfl (lv_at hl 0 rfl) ?_
  refine lv_iload_n hx hb dL_lift_1 rfl (lv_at hl 1 rfl) ?_
  refine lv_iload_n hx hb dL_lift_2 rfl (lv_at hl 2 rfl) ?_
  refine vx_callv (vx_runV (As := [.int a1, .int a2]) (rest := []) ⟨hx, hb, hml, hown, hts⟩ (c_X9_lift l hst dC dI q k st a1 a2 hq hok res hres) (cwV 2 hts gL_lift_X9_lift rfl rfl rfl (by decide +kernel) ⟨Nat.le_of_ble_eq_true rfl, Nat.le_of_ble_eq_true rfl⟩) ⟨fb_X, va_recv hK.1 hP (ci := 9) (q0 := 0) rfl rfl, fun U hU hW => ⟨rfl, by rw [hU]; exact hP, hK.warm hW, by rw [hU]; exact (hT.narrow (fun _ h => Or.inl h)).warm hW⟩⟩ rfl rfl hl.1 rfl (lv_room (Nat.le_of_ble_eq_true rfl)) dL_lift_3 ⟨Nat.le_of_ble_eq_true rfl, Nat.le_of_ble_eq_true rfl⟩) hS (fun _ _ h => Or.inl h) (fun _ h => Or.inl h) (fun _ _ h => Or.inl h) (fun E9 ce9 q9 u9 t9 H locs ht9 hv9 hp9 hB9 hz9 hk9 hS hcell hcv hcl => ?_) (fun u9 t9 H locs ht9 hv9 hp9 hB9 hz9 hk9 hS => ?_)
  · obtain ⟨hE9, hB9⟩ := hB9
    rw [ht9] at hB9
    have hPO : va_P (dC, dI) vwCl (wO o ko f) H := hPO.kept (fun k9 q9 h9 => hk9 _ (va_at.lt (hPO k9 q9 h9)) (by rw [(wO_at h9).2]; exact hno))
    rcases hE9 with ⟨h1, rfl⟩ | ⟨h1, rfl⟩ | ⟨h1, rfl⟩
    · refine vx_catch (own := RL) (name := "java/lang/IllegalArgumentException") hown [] ⟨0, 6, 9, 13⟩ [⟨0, 6, 12, 15⟩] (by rw [htab]; rfl) (fun _ h => nomatch h) (by decide) (by decide) (hts (.classLink RL 13 "java/lang/IllegalArgumentException") (by decide +kernel)) (va_Nw.use rfl (hT.2.2.1 (.castable "java/lang/IllegalArgumentException" "java/lang/IllegalArgumentException") (by decide +kernel))) hcell hcv hcl ?_
      refine lv_astore_n (lv' := [(3, .ref q9), (0, .ref (q 0)), (1, .int a1), (2, .int a2)]) hx hb dL_lift_9 rfl hl (by decide) rfl (fun ls hl => ?_)
      refine lv_iconst (v := 1) hx hb dL_lift_10 (by decide) ?_
      refine W.widen (k := 1) (n := 6) (by decide) (by decide) ?_
      exact W.iret (v := 1) hx hb hr (fun t ht hW => ⟨⟨_, f, rfl, (by show 1 = res.1; rw [h1] <;> first | rfl | decide), by rw [ht]; exact hB9, by rw [ht]; exact hPO⟩, hS.F ht⟩) hS.2.2 dL_lift_11
    · refine vx_catch (own := RL) (name := "java/lang/IllegalStateException") hown [⟨0, 6, 9, 13⟩] ⟨0, 6, 12, 15⟩ [] (by rw [htab]; rfl) (fun z h => (fun h => by subst h; exact Or.inr ⟨by decide, "java/lang/IllegalArgumentException", hts (.classLink RL 13 "java/lang/IllegalArgumentException") (by decide +kernel), hNC.1⟩) (List.mem_singleton.mp h)) (by decide) (by decide) (hts (.classLink RL 15 "java/lang/IllegalStateException") (by decide +kernel)) (va_Nw.use rfl (hT.2.2.1 (.castable "java/lang/IllegalStateException" "java/lang/IllegalStateException") (by decide +kernel))) hcell hcv hcl ?_
      refine lv_astore_n (lv' := [(3, .ref q9), (0, .ref (q 0)), (1, .int a1), (2, .int a2)]) hx hb dL_lift_12 rfl hl (by decide) rfl (fun ls hl => ?_)
      refine lv_iconst (v := 2) hx hb dL_lift_13 (by decide) ?_
      refine W.widen (k := 1) (n := 6) (by decide) (by decide) ?_
      exact W.iret (v := 2) hx hb hr (fun t ht hW => ⟨⟨_, f, rfl, (by show 2 = res.1; rw [h1] <;> first | rfl | decide), by rw [ht]; exact hB9, by rw [ht]; exact hPO⟩, hS.F ht⟩) hS.2.2 dL_lift_14
    · exact absurd (hres ▸ (code_lift st a1 a2)) (by rw [h1]; decide)
  · have h0 := hp9
    rw [ht9] at hB9
    have hPO : va_P (dC, dI) vwCl (wO o ko f) H := hPO.kept (fun k9 q9 h9 => hk9 _ (va_at.lt (hPO k9 q9 h9)) (by rw [(wO_at h9).2]; exact hno))
    refine lv_goto (tgt := 15) hx hb dL_lift_6 (by decide) ?_
    refine lv_iconst (v := 0) hx hb dL_lift_15 (by decide) ?_
    refine W.widen (k := 1) (n := 6) (by decide) (by decide) ?_
    exact W.iret (v := 0) hx hb hr (fun t ht hW => ⟨⟨_, f, rfl, (by show 0 = res.1; rw [h0] <;> first | rfl | decide), by rw [ht]; exact hB9, by rw [ht]; exact hPO⟩, hS.F ht⟩) hS.2.2 dL_lift_16
set_option maxHeartbeats 8000000 in
set_option maxRecDepth 100000 in
theorem c_L_use (l : Launch) (hst : l.stackTraces = false) (dC : Nat → ClassId) (dI : Nat → Nat → Nat) (q : Nat → Nat) (k : Nat → ClassId) (o : Nat) (ko : ClassId) (f : Nat → Int64) (st : St) (a1 : Int32) (a2 : Int32) (a3 : Int32) (hq : ∀ i j, i < 43 → j < 43 → q i = q j → i = j) (ho : ∀ j, j < 43 → q j ≠ o) (hok : okC st) (res : Int32 × Int64 × St) (hres : sp_X9_use st a1 a2 a3 = res) : Met l yL_use wsL_use ({ frames := 7, cells := 1, slots := 6, locals := 144 } : Room) (va_Pc [.ref (q 0), .int a1, .int a2, .int a3, .ref o] (LW (dC, dI) q k st o ko f)) (va_Qi (fun r (u : Nat → Int64) => r = cL res.1 ∧ (res.1 = 0 → u 0 = res.2.1)) (fun u t => va_P (dC, dI) vwCl (wC q k res.2.2) t.heap ∧ va_P (dC, dI) vwCl (wO o ko u) t.heap) (aO q o)) 1 6 (aO q o) := by
  refine va_MetW (cc := cL_use) (maxL := 6) (ret := (some .int)) (hh := [(0, 11, 14, 38), (0, 11, 18, 13), (0, 11, 22, 15)]) (by decide) rfl ?_
  intro p e s m args below meth c s₁ B hml hv
  obtain ⟨rfl, hP, hPO, hK, hKo, hT, hNC⟩ := hv
  have hx := B.exec
  have hb := B.bytes
  have hr := B.returns
  have hts := atoms_spec (ws := wsL_use) B.pre
  have hown : s.vm.findClass RL = some m.cls := findClass_of_methodNamed B.named
  have hlocks := B.notSynchronized
  have htab := vx_table (x := yL_use) B (hts _ List.mem_cons_self)
  have hS : va_S (aO q o) s.heap s.heap [] := va_S.rf
  have hno : ¬ aC q o := fun ⟨j, hj, e9⟩ => ho j hj e9.symm
  have hl := lv_entry ([.ref (q 0), .int a1, .int a2, .int a3, .ref o]) (n := 6) (Nat.le_of_ble_eq_true rfl)
  rw [lg_entry_eq]
  generalize (lg_sl ([.ref (q 0), .int a1, .int a2, .int a3, .ref o]) ++ List.replicate (6 - (lg_sl ([.ref (q 0), .int a1, .int a2, .int a3, .ref o])).length) Slot.unset).toArray = ls at hl ⊢
  have hl : lv_has ls 6 [(0, .ref (q 0)), (1, .int a1), (2, .int a2), (3, .int a3), (4, .ref o)] := hl
  refine lv_aload hx hb dL_use_0 (lv_at hl 4 rfl) ?_
  refine lv_iconst (v := 0) hx hb dL_use_2 (by decide) ?_
  refine lv_aload_n hx hb dL_use_3 rfl (lv_at hl 0 rfl) ?_
  refine lv_iload_n hx hb dL_use_4 rfl (lv_at hl 1 rfl) ?_
  refine lv_iload_n hx hb dL_use_5 rfl (lv_at hl 2 rfl) ?_
  refine lv_iload_n hx hb dL_use_6 rfl (lv_at hl 3 rfl) ?_
  refine vx_calll (vx_runV (As := [.int a1, .int a2, .int a3]) (rest := [.int 0, .ref o]) ⟨hx, hb, hml, hown, hts⟩ (c_X9_use l hst dC dI q k st a1 a2 a3 hq hok res hres) (cwV 3 hts gL_use_X9_use rfl rfl rfl (by decide +kernel) ⟨Nat.le_of_ble_eq_true rfl, Nat.le_of_ble_eq_true rfl⟩) ⟨fb_X, va_recv hK.1 hP (ci := 9) (q0 := 0) rfl rfl, fun U hU hW => ⟨rfl, by rw [hU]; exact hP, hK.warm hW, by rw [hU]; exact (hT.narrow (fun _ h => Or.inl h)).warm hW⟩⟩ rfl rfl hl.1 rfl (lv_room (Nat.le_of_ble_eq_true rfl)) dL_use_7 ⟨Nat.le_of_ble_eq_true rfl, Nat.le_of_ble_eq_true rfl⟩) hS (fun _ _ h => Or.inl h) (fun _ h => Or.inl h) (fun _ _ h => Or.inl h) (fun E9 ce9 q9 u9 t9 H locs ht9 hv9 hp9 hB9 hz9 hk9 hS hcell hcv hcl => ?_) (fun r9 u9 t9 H locs ht9 hv9 hp9 hB9 hz9 hk9 hS => ?_)
  · obtain ⟨hE9, hB9⟩ := hB9
    rw [ht9] at hB9
    have hPO : va_P (dC, dI) vwCl (wO o ko f) H := hPO.kept (fun k9 q9 h9 => hk9 _ (va_at.lt (hPO k9 q9 h9)) (by rw [(wO_at h9).2]; exact hno))
    rcases hE9 with ⟨h1, rfl⟩ | ⟨h1, rfl⟩ | ⟨h1, rfl⟩
    · refine vx_catch (own := RL) (name := "java/lang/IllegalArgumentException") hown [⟨0, 11, 14, 38⟩] ⟨0, 11, 18, 13⟩ [⟨0, 11, 22, 15⟩] (by rw [htab]; rfl) (fun z h => (fun h => by subst h; exact Or.inr ⟨by decide, "java/util/NoSuchElementException", hts (.classLink RL 38 "java/util/NoSuchElementException") (by decide +kernel), hNC.2.2⟩) (List.mem_singleton.mp h)) (by decide) (by decide) (hts (.classLink RL 13 "java/lang/IllegalArgumentException") (by decide +kernel)) (va_Nw.use rfl (hT.2.2.1 (.castable "java/lang/IllegalArgumentException" "java/lang/IllegalArgumentException") (by decide +kernel))) hcell hcv hcl ?_
      refine lv_astore (lv' := [(5, .ref q9), (0, .ref (q 0)), (1, .int a1), (2, .int a2), (3, .int a3), (4, .ref o)]) hx hb dL_use_18 hl (by decide) rfl (fun ls hl => ?_)
      refine lv_iconst (v := 2) hx hb dL_use_20 (by decide) ?_
      refine W.widen (k := 1) (n := 6) (by decide) (by decide) ?_
      exact W.iret (v := 2) hx hb hr (fun t ht hW => ⟨⟨_, f, rfl, ⟨(by show 2 = cL res.1; rw [h1] <;> first | rfl | decide), fun h => absurd (h1.symm.trans h) (by decide)⟩, by rw [ht]; exact hB9, by rw [ht]; exact hPO⟩, hS.F ht⟩) hS.2.2 dL_use_21
    · refine vx_catch (own := RL) (name := "java/lang/IllegalStateException") hown [⟨0, 11, 14, 38⟩, ⟨0, 11, 18, 13⟩] ⟨0, 11, 22, 15⟩ [] (by rw [htab]; rfl) (fun z h => (List.mem_cons.mp h).elim (fun h => by subst h; exact Or.inr ⟨by decide, "java/util/NoSuchElementException", hts (.classLink RL 38 "java/util/NoSuchElementException") (by decide +kernel), hNC.2.1⟩) (fun h => (fun h => by subst h; exact Or.inr ⟨by decide, "java/lang/IllegalArgumentException", hts (.classLink RL 13 "java/lang/IllegalArgumentException") (by decide +kernel), hNC.1⟩) (List.mem_singleton.mp h))) (by decide) (by decide) (hts (.classLink RL 15 "java/lang/IllegalStateException") (by decide +kernel)) (va_Nw.use rfl (hT.2.2.1 (.castable "java/lang/IllegalStateException" "java/lang/IllegalStateException") (by decide +kernel))) hcell hcv hcl ?_
      refine lv_astore (lv' := [(5, .ref q9), (0, .ref (q 0)), (1, .int a1), (2, .int a2), (3, .int a3), (4, .ref o)]) hx hb dL_use_22 hl (by decide) rfl (fun ls hl => ?_)
      refine lv_iconst (v := 3) hx hb dL_use_24 (by decide) ?_
      refine W.widen (k := 1) (n := 6) (by decide) (by decide) ?_
      exact W.iret (v := 3) hx hb hr (fun t ht hW => ⟨⟨_, f, rfl, ⟨(by show 3 = cL res.1; rw [h1] <;> first | rfl | decide), fun h => absurd (h1.symm.trans h) (by decide)⟩, by rw [ht]; exact hB9, by rw [ht]; exact hPO⟩, hS.F ht⟩) hS.2.2 dL_use_25
    · refine vx_catch (own := RL) (name := "java/util/NoSuchElementException") hown [] ⟨0, 11, 14, 38⟩ [⟨0, 11, 18, 13⟩, ⟨0, 11, 22, 15⟩] (by rw [htab]; rfl) (fun _ h => nomatch h) (by decide) (by decide) (hts (.classLink RL 38 "java/util/NoSuchElementException") (by decide +kernel)) (va_Nw.use rfl (hT.2.2.1 (.castable "java/util/NoSuchElementException" "java/util/NoSuchElementException") (by decide +kernel))) hcell hcv hcl ?_
      refine lv_astore (lv' := [(5, .ref q9), (0, .ref (q 0)), (1, .int a1), (2, .int a2), (3, .int a3), (4, .ref o)]) hx hb dL_use_14 hl (by decide) rfl (fun ls hl => ?_)
      refine lv_iconst (v := 1) hx hb dL_use_16 (by decide) ?_
      refine W.widen (k := 1) (n := 6) (by decide) (by decide) ?_
      exact W.iret (v := 1) hx hb hr (fun t ht hW => ⟨⟨_, f, rfl, ⟨(by show 1 = cL res.1; rw [h1] <;> first | rfl | decide), fun h => absurd (h1.symm.trans h) (by decide)⟩, by rw [ht]; exact hB9, by rw [ht]; exact hPO⟩, hS.F ht⟩) hS.2.2 dL_use_17
  · obtain ⟨h0, rfl⟩ := hp9
    rw [ht9] at hB9
    have hPO : va_P (dC, dI) vwCl (wO o ko f) H := hPO.kept (fun k9 q9 h9 => hk9 _ (va_at.lt (hPO k9 q9 h9)) (by rw [(wO_at h9).2]; exact hno))
    have hPA := va_P.app hB9 hPO
    refine va_last hx hb hKo hPA (dCO_of hq ho) hS 43 0 (f := f) (n := 1) (cA := ko) rfl rfl (i := 0) (x := res.2.1) (vp_in_iff.mpr (by decide)) dL_use_10 (fun H locs hP _ hS => ?_)
    have hP : va_P (dC, dI) vwCl (wC q k res.2.2 ++ wO o ko (vp_updL f (0 : Int32).toNatClampNeg res.2.1)) H := hP
    have hB9 := va_P_left hP
    have hPO := va_P_right hP
    refine lv_goto (tgt := 26) hx hb dL_use_11 (by decide) ?_
    refine lv_iconst (v := 0) hx hb dL_use_26 (by decide) ?_
    refine W.widen (k := 1) (n := 6) (by decide) (by decide) ?_
    exact W.iret (v := 0) hx hb hr (fun t ht hW => ⟨⟨_, (vp_updL f (0 : Int32).toNatClampNeg res.2.1), rfl, ⟨(by show 0 = cL res.1; rw [h0] <;> first | rfl | decide), fun _ => rfl⟩, by rw [ht]; exact hB9, by rw [ht]; exact hPO⟩, hS.F ht⟩) hS.2.2 dL_use_27
set_option maxHeartbeats 8000000 in
set_option maxRecDepth 100000 in
theorem c_L_erase (l : Launch) (hst : l.stackTraces = false) (dC : Nat → ClassId) (dI : Nat → Nat → Nat) (q : Nat → Nat) (k : Nat → ClassId) (o : Nat) (ko : ClassId) (f : Nat → Int64) (st : St) (a1 : Int32) (a2 : Int32) (hq : ∀ i j, i < 43 → j < 43 → q i = q j → i = j) (ho : ∀ j, j < 43 → q j ≠ o) (hok : okC st) (res : Int32 × Int32 × St) (hres : sp_X9_erase st a1 a2 = res) : Met l yL_erase wsL_erase ({ frames := 7, cells := 1, slots := 6, locals := 160 } : Room) (va_Pc [.ref (q 0), .int a1, .int a2, .ref o] (LW (dC, dI) q k st o ko f)) (va_Qi (fun r (u : Nat → Int64) => r = res.1 ∧ (res.1 = 0 → u 0 = res.2.1.toInt64)) (fun u t => va_P (dC, dI) vwCl (wC q k res.2.2) t.heap ∧ va_P (dC, dI) vwCl (wO o ko u) t.heap) (aO q o)) 1 6 (aO q o) := by
  refine va_MetW (cc := cL_erase) (maxL := 5) (ret := (some .int)) (hh := [(0, 10, 13, 13)]) (by decide) rfl ?_
  intro p e s m args below meth c s₁ B hml hv
  obtain ⟨rfl, hP, hPO, hK, hKo, hT, hNC⟩ := hv
  have hx := B.exec
  have hb := B.bytes
  have hr := B.returns
  have hts := atoms_spec (ws := wsL_erase) B.pre
  have hown : s.vm.findClass RL = some m.cls := findClass_of_methodNamed B.named
  have hlocks := B.notSynchronized
  have htab := vx_table (x := yL_erase) B (hts _ List.mem_cons_self)
  have hS : va_S (aO q o) s.heap s.heap [] := va_S.rf
  have hno : ¬ aC q o := fun ⟨j, hj, e9⟩ => ho j hj e9.symm
  have hl := lv_entry ([.ref (q 0), .int a1, .int a2, .ref o]) (n := 5) (Nat.le_of_ble_eq_true rfl)
  rw [lg_entry_eq]
  generalize (lg_sl ([.ref (q 0), .int a1, .int a2, .ref o]) ++ List.replicate (5 - (lg_sl ([.ref (q 0), .int a1, .int a2, .ref o])).length) Slot.unset).toArray = ls at hl ⊢
  have hl : lv_has ls 5 [(0, .ref (q 0)), (1, .int a1), (2, .int a2), (3, .ref o)] := hl
  refine lv_aload_n hx hb dL_erase_0 rfl (lv_at hl 3 rfl) ?_
  refine lv_iconst (v := 0) hx hb dL_erase_1 (by decide) ?_
  refine lv_aload_n hx hb dL_erase_2 rfl (lv_at hl 0 rfl) ?_
  refine lv_iload_n hx hb dL_erase_3 rfl (lv_at hl 1 rfl) ?_
  refine lv_iload_n hx hb dL_erase_4 rfl (lv_at hl 2 rfl) ?_
  refine vx_calli (vx_runV (As := [.int a1, .int a2]) (rest := [.int 0, .ref o]) ⟨hx, hb, hml, hown, hts⟩ (c_X9_erase l hst dC dI q k st a1 a2 hq hok res hres) (cwV 2 hts gL_erase_X9_erase rfl rfl rfl (by decide +kernel) ⟨Nat.le_of_ble_eq_true rfl, Nat.le_of_ble_eq_true rfl⟩) ⟨fb_X, va_recv hK.1 hP (ci := 9) (q0 := 0) rfl rfl, fun U hU hW => ⟨rfl, by rw [hU]; exact hP, hK.warm hW, by rw [hU]; exact (hT.narrow (fun _ h => Or.inl h)).warm hW⟩⟩ rfl rfl hl.1 rfl (lv_room (Nat.le_of_ble_eq_true rfl)) dL_erase_5 ⟨Nat.le_of_ble_eq_true rfl, Nat.le_of_ble_eq_true rfl⟩) hS (fun _ _ h => Or.inl h) (fun _ h => Or.inl h) (fun _ _ h => Or.inl h) (fun E9 ce9 q9 u9 t9 H locs ht9 hv9 hp9 hB9 hz9 hk9 hS hcell hcv hcl => ?_) (fun r9 u9 t9 H locs ht9 hv9 hp9 hB9 hz9 hk9 hS => ?_)
  · obtain ⟨hE9, hB9⟩ := hB9
    rw [ht9] at hB9
    have hPO : va_P (dC, dI) vwCl (wO o ko f) H := hPO.kept (fun k9 q9 h9 => hk9 _ (va_at.lt (hPO k9 q9 h9)) (by rw [(wO_at h9).2]; exact hno))
    rcases hE9 with ⟨h1, rfl⟩ | ⟨h1, rfl⟩ | ⟨h1, rfl⟩
    · refine vx_catch (own := RL) (name := "java/lang/IllegalArgumentException") hown [] ⟨0, 10, 13, 13⟩ [] (by rw [htab]; rfl) (fun _ h => nomatch h) (by decide) (by decide) (hts (.classLink RL 13 "java/lang/IllegalArgumentException") (by decide +kernel)) (va_Nw.use rfl (hT.2.2.1 (.castable "java/lang/IllegalArgumentException" "java/lang/IllegalArgumentException") (by decide +kernel))) hcell hcv hcl ?_
      refine lv_astore (lv' := [(4, .ref q9), (0, .ref (q 0)), (1, .int a1), (2, .int a2), (3, .ref o)]) hx hb dL_erase_13 hl (by decide) rfl (fun ls hl => ?_)
      refine lv_iconst (v := 1) hx hb dL_erase_15 (by decide) ?_
      refine W.widen (k := 1) (n := 6) (by decide) (by decide) ?_
      exact W.iret (v := 1) hx hb hr (fun t ht hW => ⟨⟨_, f, rfl, ⟨(by show 1 = res.1; rw [h1] <;> first | rfl | decide), fun h => absurd (h1.symm.trans h) (by decide)⟩, by rw [ht]; exact hB9, by rw [ht]; exact hPO⟩, hS.F ht⟩) hS.2.2 dL_erase_16
    · exact absurd (hres ▸ (code_erase st a1 a2)) (by rw [h1]; decide)
    · exact absurd (hres ▸ (code_erase st a1 a2)) (by rw [h1]; decide)
  · obtain ⟨h0, rfl⟩ := hp9
    rw [ht9] at hB9
    have hPO : va_P (dC, dI) vwCl (wO o ko f) H := hPO.kept (fun k9 q9 h9 => hk9 _ (va_at.lt (hPO k9 q9 h9)) (by rw [(wO_at h9).2]; exact hno))
    refine lv_i2l (v := res.2.1.toInt64) hx hb dL_erase_8 rfl ?_
    have hPA := va_P.app hB9 hPO
    refine va_last hx hb hKo hPA (dCO_of hq ho) hS 43 0 (f := f) (n := 1) (cA := ko) rfl rfl (i := 0) (x := res.2.1.toInt64) (vp_in_iff.mpr (by decide)) dL_erase_9 (fun H locs hP _ hS => ?_)
    have hP : va_P (dC, dI) vwCl (wC q k res.2.2 ++ wO o ko (vp_updL f (0 : Int32).toNatClampNeg res.2.1.toInt64)) H := hP
    have hB9 := va_P_left hP
    have hPO := va_P_right hP
    refine lv_goto (tgt := 17) hx hb dL_erase_10 (by decide) ?_
    refine lv_iconst (v := 0) hx hb dL_erase_17 (by decide) ?_
    refine W.widen (k := 1) (n := 6) (by decide) (by decide) ?_
    exact W.iret (v := 0) hx hb hr (fun t ht hW => ⟨⟨_, (vp_updL f (0 : Int32).toNatClampNeg res.2.1.toInt64), rfl, ⟨(by show 0 = res.1; rw [h0] <;> first | rfl | decide), fun _ => rfl⟩, by rw [ht]; exact hB9, by rw [ht]; exact hPO⟩, hS.F ht⟩) hS.2.2 dL_erase_18
set_option maxHeartbeats 8000000 in
set_option maxRecDepth 100000 in
theorem c_L_sweep (l : Launch) (hst : l.stackTraces = false) (dC : Nat → ClassId) (dI : Nat → Nat → Nat) (q : Nat → Nat) (k : Nat → ClassId) (o : Nat) (ko : ClassId) (f : Nat → Int64) (st : St) (a1 : Int32) (hq : ∀ i j, i < 43 → j < 43 → q i = q j → i = j) (ho : ∀ j, j < 43 → q j ≠ o) (hok : okC st) (res : Int32 × Int32 × St) (hres : sp_X9_sweep st a1 = res) : Met l yL_sweep wsL_sweep ({ frames := 7, cells := 1, slots := 6, locals := 160 } : Room) (va_Pc [.ref (q 0), .int a1, .ref o] (LW (dC, dI) q k st o ko f)) (va_Qi (fun r (u : Nat → Int64) => r = res.1 ∧ (res.1 = 0 → u 0 = res.2.1.toInt64)) (fun u t => va_P (dC, dI) vwCl (wC q k res.2.2) t.heap ∧ va_P (dC, dI) vwCl (wO o ko u) t.heap) (aO q o)) 1 6 (aO q o) := by
  refine va_MetW (cc := cL_sweep) (maxL := 4) (ret := (some .int)) (hh := [(0, 9, 12, 13)]) (by decide) rfl ?_
  intro p e s m args below meth c s₁ B hml hv
  obtain ⟨rfl, hP, hPO, hK, hKo, hT, hNC⟩ := hv
  have hx := B.exec
  have hb := B.bytes
  have hr := B.returns
  have hts := atoms_spec (ws := wsL_sweep) B.pre
  have hown : s.vm.findClass RL = some m.cls := findClass_of_methodNamed B.named
  have hlocks := B.notSynchronized
  have htab := vx_table (x := yL_sweep) B (hts _ List.mem_cons_self)
  have hS : va_S (aO q o) s.heap s.heap [] := va_S.rf
  have hno : ¬ aC q o := fun ⟨j, hj, e9⟩ => ho j hj e9.symm
  have hl := lv_entry ([.ref (q 0), .int a1, .ref o]) (n := 4) (Nat.le_of_ble_eq_true rfl)
  rw [lg_entry_eq]
  generalize (lg_sl ([.ref (q 0), .int a1, .ref o]) ++ List.replicate (4 - (lg_sl ([.ref (q 0), .int a1, .ref o])).length) Slot.unset).toArray = ls at hl ⊢
  have hl : lv_has ls 4 [(0, .ref (q 0)), (1, .int a1), (2, .ref o)] := hl
  refine lv_aload_n hx hb dL_sweep_0 rfl (lv_at hl 2 rfl) ?_
  refine lv_iconst (v := 0) hx hb dL_sweep_1 (by decide) ?_
  refine lv_aload_n hx hb dL_sweep_2 rfl (lv_at hl 0 rfl) ?_
  refine lv_iload_n hx hb dL_sweep_3 rfl (lv_at hl 1 rfl) ?_
  refine vx_calli (vx_runV (As := [.int a1]) (rest := [.int 0, .ref o]) ⟨hx, hb, hml, hown, hts⟩ (c_X9_sweep l hst dC dI q k st a1 hq hok res hres) (cwV 1 hts gL_sweep_X9_sweep rfl rfl rfl (by decide +kernel) ⟨Nat.le_of_ble_eq_true rfl, Nat.le_of_ble_eq_true rfl⟩) ⟨fb_X, va_recv hK.1 hP (ci := 9) (q0 := 0) rfl rfl, fun U hU hW => ⟨rfl, by rw [hU]; exact hP, hK.warm hW, by rw [hU]; exact (hT.narrow (fun _ h => Or.inl h)).warm hW⟩⟩ rfl rfl hl.1 rfl (lv_room (Nat.le_of_ble_eq_true rfl)) dL_sweep_4 ⟨Nat.le_of_ble_eq_true rfl, Nat.le_of_ble_eq_true rfl⟩) hS (fun _ _ h => Or.inl h) (fun _ h => Or.inl h) (fun _ _ h => Or.inl h) (fun E9 ce9 q9 u9 t9 H locs ht9 hv9 hp9 hB9 hz9 hk9 hS hcell hcv hcl => ?_) (fun r9 u9 t9 H locs ht9 hv9 hp9 hB9 hz9 hk9 hS => ?_)
  · obtain ⟨hE9, hB9⟩ := hB9
    rw [ht9] at hB9
    have hPO : va_P (dC, dI) vwCl (wO o ko f) H := hPO.kept (fun k9 q9 h9 => hk9 _ (va_at.lt (hPO k9 q9 h9)) (by rw [(wO_at h9).2]; exact hno))
    rcases hE9 with ⟨h1, rfl⟩ | ⟨h1, rfl⟩ | ⟨h1, rfl⟩
    · refine vx_catch (own := RL) (name := "java/lang/IllegalArgumentException") hown [] ⟨0, 9, 12, 13⟩ [] (by rw [htab]; rfl) (fun _ h => nomatch h) (by decide) (by decide) (hts (.classLink RL 13 "java/lang/IllegalArgumentException") (by decide +kernel)) (va_Nw.use rfl (hT.2.2.1 (.castable "java/lang/IllegalArgumentException" "java/lang/IllegalArgumentException") (by decide +kernel))) hcell hcv hcl ?_
      refine lv_astore_n (lv' := [(3, .ref q9), (0, .ref (q 0)), (1, .int a1), (2, .ref o)]) hx hb dL_sweep_12 rfl hl (by decide) rfl (fun ls hl => ?_)
      refine lv_iconst (v := 1) hx hb dL_sweep_13 (by decide) ?_
      refine W.widen (k := 1) (n := 6) (by decide) (by decide) ?_
      exact W.iret (v := 1) hx hb hr (fun t ht hW => ⟨⟨_, f, rfl, ⟨(by show 1 = res.1; rw [h1] <;> first | rfl | decide), fun h => absurd (h1.symm.trans h) (by decide)⟩, by rw [ht]; exact hB9, by rw [ht]; exact hPO⟩, hS.F ht⟩) hS.2.2 dL_sweep_14
    · exact absurd (hres ▸ (code_sweep st a1)) (by rw [h1]; decide)
    · exact absurd (hres ▸ (code_sweep st a1)) (by rw [h1]; decide)
  · obtain ⟨h0, rfl⟩ := hp9
    rw [ht9] at hB9
    have hPO : va_P (dC, dI) vwCl (wO o ko f) H := hPO.kept (fun k9 q9 h9 => hk9 _ (va_at.lt (hPO k9 q9 h9)) (by rw [(wO_at h9).2]; exact hno))
    refine lv_i2l (v := res.2.1.toInt64) hx hb dL_sweep_7 rfl ?_
    have hPA := va_P.app hB9 hPO
    refine va_last hx hb hKo hPA (dCO_of hq ho) hS 43 0 (f := f) (n := 1) (cA := ko) rfl rfl (i := 0) (x := res.2.1.toInt64) (vp_in_iff.mpr (by decide)) dL_sweep_8 (fun H locs hP _ hS => ?_)
    have hP : va_P (dC, dI) vwCl (wC q k res.2.2 ++ wO o ko (vp_updL f (0 : Int32).toNatClampNeg res.2.1.toInt64)) H := hP
    have hB9 := va_P_left hP
    have hPO := va_P_right hP
    refine lv_goto (tgt := 15) hx hb dL_sweep_9 (by decide) ?_
    refine lv_iconst (v := 0) hx hb dL_sweep_15 (by decide) ?_
    refine W.widen (k := 1) (n := 6) (by decide) (by decide) ?_
    exact W.iret (v := 0) hx hb hr (fun t ht hW => ⟨⟨_, (vp_updL f (0 : Int32).toNatClampNeg res.2.1.toInt64), rfl, ⟨(by show 0 = res.1; rw [h0] <;> first | rfl | decide), fun _ => rfl⟩, by rw [ht]; exact hB9, by rw [ht]; exact hPO⟩, hS.F ht⟩) hS.2.2 dL_sweep_16

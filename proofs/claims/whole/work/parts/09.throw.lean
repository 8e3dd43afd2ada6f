/-! throws: what a method that throws needs of the start, and which class a code stands for -/
def xE (r : Int32) (E : String) : Prop := (r = 1 ∧ E = "java/lang/IllegalArgumentException") ∨ (r = 2 ∧ E = "java/lang/IllegalStateException") ∨ (r = 3 ∧ E = "java/util/NoSuchElementException")
def badWs : List Cond := [.castable "java/lang/IllegalArgumentException" "java/lang/IllegalArgumentException", .castable "java/lang/IllegalStateException" "java/lang/IllegalStateException", .castable "java/util/NoSuchElementException" "java/util/NoSuchElementException", .declares ⟨"java/lang/RuntimeException", "<init>", "(Ljava/lang/String;)V"⟩, .declares ⟨"java/lang/Exception", "<init>", "(Ljava/lang/String;)V"⟩, .declares ⟨"java/lang/Throwable", "<init>", "(Ljava/lang/String;)V"⟩]
def strWs : List (Nat × String) := [(82, "there is no such parent"), (93, "there are 16 purposes"), (99, "the retention is not 1 to 5,000 days"), (102, "there are 8 kinds"), (110, "there is no such person, purpose or minute"), (115, "there are 100 entries"), (117, "there is no such person or purpose"), (119, "these minutes are no span"), (124, "there are 40 spans"), (127, "there is no such kind, purpose or number of days"), (132, "there are 20 duties"), (137, "there is no such person, kind or day"), (142, "there were 100 items"), (144, "there is no such way to derive"), (146, "both inputs are one item"), (153, "an input does not live"), (160, "there are 60 events"), (165, "there is no such person or kind"), (167, "there is no such purpose or day"), (170, "there are 30 holds"), (176, "there is no such hold, or it has no such day"), (181, "the hold was lifted"), (187, "there is no such purpose or minute"), (189, "the item does not live"), (197, "there is no ground for this use"), (203, "there is no such person or minute"), (232, "the day is not 0 to 6,944")]
theorem bad_on : ∀ w ∈ badWs, w.onTables = true := by decide +kernel
theorem bad_1 : ∀ w ∈ (vx_atS RX9 84 "java/lang/IllegalArgumentException" ["java/lang/RuntimeException", "java/lang/Exception"]).filter (fun w => !goodWord w), w ∈ badWs := by decide +kernel
theorem ot_1 : ∀ w ∈ Cond.classLink RX9 80 "java/lang/IllegalArgumentException" :: Cond.initialized "java/lang/IllegalArgumentException" :: vx_atS RX9 84 "java/lang/IllegalArgumentException" ["java/lang/RuntimeException", "java/lang/Exception"], vx_ot w = true := by decide +kernel
theorem bad_2 : ∀ w ∈ (vx_atS RX9 95 "java/lang/IllegalStateException" ["java/lang/RuntimeException", "java/lang/Exception"]).filter (fun w => !goodWord w), w ∈ badWs := by decide +kernel
theorem ot_2 : ∀ w ∈ Cond.classLink RX9 91 "java/lang/IllegalStateException" :: Cond.initialized "java/lang/IllegalStateException" :: vx_atS RX9 95 "java/lang/IllegalStateException" ["java/lang/RuntimeException", "java/lang/Exception"], vx_ot w = true := by decide +kernel
theorem bad_3 : ∀ w ∈ (vx_atSN RX9 155 "java/util/NoSuchElementException" ["java/lang/RuntimeException", "java/lang/Exception"]).filter (fun w => !goodWord w), w ∈ badWs := by decide +kernel
theorem ot_3 : ∀ w ∈ Cond.classLink RX9 151 "java/util/NoSuchElementException" :: Cond.initialized "java/util/NoSuchElementException" :: vx_atSN RX9 155 "java/util/NoSuchElementException" ["java/lang/RuntimeException", "java/lang/Exception"], vx_ot w = true := by decide +kernel
def TH (A : Nat → Prop) (U : State) (H : Heap) : Prop := vx_Zq Bundle.tN "UNASSIGNED_STACK" Bundle.steD A U H ∧ vx_Zq Bundle.tN "SUPPRESSED_SENTINEL" Bundle.listD A U H ∧ (∀ w ∈ badWs, va_Nw w U) ∧ ∀ x ∈ strWs, ∃ a, vk_R RX9 x.1 x.2 a U
theorem cast_moved {a b : String} {s U : State} (h : s.vm.Alike U.vm) (hh : va_Nw (.castable a b) s) : va_Nw (.castable a b) U := by
  refine va_Nw.same (u := s.setVm U.vm) rfl rfl ?_
  unfold va_Nw at hh ⊢
  simp only [Cond.before, Cond.holds, Cond.value] at hh ⊢
  have e1 : (s.setVm U.vm).vm.findClass a = s.vm.findClass a := h.findClass ..
  have e2 : (s.setVm U.vm).vm.findClass b = s.vm.findClass b := h.findClass ..
  rw [e1, e2]
  cases ha : s.vm.findClass a with
  | none => simp [ha] at hh
  | some x =>
    cases hb : s.vm.findClass b with
    | none => simp [ha, hb] at hh
    | some y =>
      have e3 : (s.setVm U.vm).vm.assignable x y = s.vm.assignable x y := h.assignable ..
      simp only [ha, hb] at hh ⊢
      rw [e3]
      exact hh
theorem bad_moved {s U : State} (h : s.WarmedH U.vm) (hh : ∀ w ∈ badWs, va_Nw w s) : ∀ w ∈ badWs, va_Nw w U := by
  unfold badWs at hh ⊢
  simp only [List.forall_mem_cons] at hh ⊢
  obtain ⟨h1, h2, h3, h4, h5, h6, -⟩ := hh
  exact ⟨cast_moved h.alike h1, cast_moved h.alike h2, cast_moved h.alike h3, va_Nw.warmD h h4, va_Nw.warmD h h5, va_Nw.warmD h h6, fun _ h => nomatch h⟩
theorem TH.warm {A : Nat → Prop} {s U : State} {H : Heap} (h : TH A s H) (hW : s.WarmedH U.vm) : TH A U H := ⟨vx_Zq.moved hW.alike h.1, vx_Zq.moved hW.alike h.2.1, bad_moved hW h.2.2.1, fun x hx => (h.2.2.2 x hx).imp fun _ h => vk_R.warm hW h⟩
theorem TH.same {A : Nat → Prop} {s U : State} {H : Heap} (h : TH A s H) (e : s.vm = U.vm) : TH A U H := ⟨vx_Zq.moved (by rw [← e]; exact Vm.Alike.refl s.vm) h.1, vx_Zq.moved (by rw [← e]; exact Vm.Alike.refl s.vm) h.2.1, fun w hw => va_Nw.same (bad_on w hw) e (h.2.2.1 w hw), fun x hx => (h.2.2.2 x hx).imp fun _ h => vk_R.same e.symm h⟩
theorem TH.kept {A : Nat → Prop} {U : State} {H H1 : Heap} (h : TH A U H) (hq : ∀ a : Nat, a < H.size → ¬ A a → H1[a]? = H[a]?) : TH A U H1 := ⟨vx_Zq.kept h.1 hq, vx_Zq.kept h.2.1 hq, h.2.2.1, h.2.2.2⟩
theorem TH.narrow {A B : Nat → Prop} {U : State} {H : Heap} (h : TH A U H) (hAB : ∀ q, B q → A q) : TH B U H := ⟨vx_Zq.narrow h.1 hAB, vx_Zq.narrow h.2.1 hAB, h.2.2.1, h.2.2.2⟩
theorem fb_X {D : va_G} {k : Nat → ClassId} {w : va_W} {A : Nat → Prop} {av : List Value} : FrameBlind (va_Pc av (fun U => va_P D vwCl w U.heap ∧ KC D k U ∧ TH A U U.heap)) := fun a U g mk h => ⟨h.1, h.2.1, KC.same (U := U.calling g mk a) h.2.2.1 rfl, TH.same (U := U.calling g mk a) h.2.2.2 rfl⟩

/-! NoSuchElementException with a text, where no stack traces are kept. Its constructor hands the text up by pool entry 13; the kit's words for such a constructor have entry 7. -/
def nseB : ByteArray := ⟨#[0x2a, 0x2b, 0xb7, 0x00, 0x0d, 0xb1]⟩
theorem nse_0 : decode nseB 0 = .ok (.aload_n 0, 1) := by decide +kernel
theorem nse_1 : decode nseB 1 = .ok (.aload_n 1, 1) := by decide +kernel
theorem nse_2 : decode nseB 2 = .ok (.invokespecial 13, 3) := by decide +kernel
theorem nse_5 : decode nseB 5 = .ok (.return_, 1) := by decide +kernel
/-- the constructors' words: X's own, then those above it -/
def nx_up (X : String) : List String → List Cond
  | [] => Bundle.passSAtoms X Bundle.tN 13 nseB
  | Y :: r => Bundle.passSAtoms X Y 13 nseB ++ Bundle.chainSAtoms Y r
/-- all words of the throw: what the kit's list says behind its constructors is taken from there -/
def nx_ws (own : String) (ic : Nat) (X : String) (names : List String) : List Cond :=
  Bundle.throwableAtoms ++ Bundle.throwableSAtoms ++ nx_up X names ++ (Bundle.ownAtoms own ic X []).drop (Bundle.throwableAtoms.length + Bundle.throwableSAtoms.length + 5)
def vx_atSN (own : String) (ic : Nat) (X : String) (names : List String) : List Cond := (nx_ws own ic X names).filter vx_no
/-- which words of X itself stand in the list -/
theorem nx_in {own X : String} {ic : Nat} {names : List String} {w : Cond} (h : w ∈ (Bundle.ownAtoms own ic X []).drop (Bundle.throwableAtoms.length + Bundle.throwableSAtoms.length + 5)) : w ∈ nx_ws own ic X names :=
  List.mem_append_right _ h
/-- the way up: X's constructor, then one for each name, each handing on to the next, the last to Throwable's -/
theorem nx_passes {args : Array Value} {s : State} {pl : Platform} (hpl : pl.magicAccessors = ({} : Platform).magicAccessors) {top : MethodId} (htop : s.methodNamed? (Bundle.initS Bundle.tN) = some top)
    {X : String} {names : List String} (hX : Bundle.fit X = true) (hn : ∀ n ∈ names, Bundle.fit n = true) (h : ∀ w ∈ nx_up X names, w.before args s = true) :
    ∃ (P : PassC) (Ps : List PassC), Ps.length = names.length ∧ (∀ Q, Q ∈ P :: Ps → Q.LinksS pl s) ∧ s.methodNamed? (Bundle.initS X) = some P.m ∧ PassesOn top ((P :: Ps).map (·.toPassT)) := by
  cases names with
  | nil =>
    obtain ⟨P, hP, hm, hs⟩ := PassC.ofS_atoms hpl (Y := Bundle.tN) (Bundle.fit_spec hX).1 (by decide) nse_0 nse_1 nse_2 nse_5 h
    refine ⟨P, [], rfl, fun Q hQ => ?_, hm, ?_, trivial⟩
    · rw [List.mem_singleton.mp hQ]; exact hP
    · exact Option.some.inj (hs.symm.trans htop)
  | cons Y r =>
    have hY := hn Y List.mem_cons_self
    have hr : ∀ n ∈ r, Bundle.fit n = true := fun n h => hn n (List.mem_cons_of_mem _ h)
    obtain ⟨P, hP, hm, hs⟩ := PassC.ofS_atoms hpl (Bundle.fit_spec hX).1 (Bundle.fit_spec hY).2 nse_0 nse_1 nse_2 nse_5 (fun w hw => h w (List.mem_append_left _ hw))
    obtain ⟨P2, Ps, hlen, hP2, hPs, hm2, hs2, hon⟩ := Bundle.chainS hpl htop r Y hY hr (fun w hw => h w (List.mem_append_right _ hw))
    refine ⟨P, P2 :: Ps, congrArg (· + 1) hlen, fun Q hQ => ?_, hm, ?_, hs2, hon⟩
    · simp only [List.mem_cons] at hQ
      rcases hQ with hQ | hQ | hQ
      · rw [hQ]; exact hP
      · rw [hQ]; exact hP2
      · exact hPs Q hQ
    · exact Option.some.inj (hs.symm.trans hm2)
/-- a method of Throwable that X does not override -/
theorem nx_sel {args : Array Value} {s : State} {l : Launch} {e : Env} (hA : l.admits e) {X : String} {y : MethodName} {cX : ClassId} {m : MethodId} (hX : s.vm.findClass X = some cX) (hy : s.methodNamed? y = some m)
    (hne : y.cls ≠ "java/lang/invoke/MethodHandle" ∧ y.cls ≠ "java/lang/invoke/VarHandle") (h : (Cond.selects X y y).before args s = true) : selectMethod e.platform s.vm cX m = .method m := by
  obtain ⟨c1, r1, m1, h1, h2, h3, h4, -⟩ := Cond.selects_spec h
  have e1 : c1 = cX := Option.some.inj (h1.symm.trans hX)
  have e2 : r1 = m := Option.some.inj (h2.symm.trans (State.methodFound?_of_named hy hne))
  have e3 : m1 = m := Option.some.inj (h3.symm.trans hy)
  rw [e1, e2, e3] at h4
  exact (Launch.admits_selectMethod hA s.vm cX m).trans h4
/-- a field that X lays takes a value of its type -/
theorem nx_takes {args : Array Value} {s : State} {X O n d : String} {cX c i : Nat} {kX k : Class} {f : Field} {v : Value} (hX : s.vm.findClass X = some cX) (hk : s.vm.classes[cX]? = some kX) (ho : kX.kind = .ordinary)
    (hf : s.fieldFound? O n d = some (c, k, i, f)) (h : (Cond.lays X O n d).before args s = true) (hv : fits f.type v = true) : Takes s (freshCell cX kX) f v :=
  Takes.of_laid hk ho (Cond.laysAt hX hk hf h).1 hv
/-- two fields of other names that X lays have slots of their own -/
theorem nx_apart {args : Array Value} {s : State} {X O n d O' n' d' : String} {cX c i c' i' : Nat} {kX k k' : Class} {f f' : Field} (hX : s.vm.findClass X = some cX) (hk : s.vm.classes[cX]? = some kX)
    (hf : s.fieldFound? O n d = some (c, k, i, f)) (hf' : s.fieldFound? O' n' d' = some (c', k', i', f')) (h : (Cond.lays X O n d).before args s = true) (h' : (Cond.lays X O' n' d').before args s = true) (hne : f.name ≠ f'.name) : f.slot ≠ f'.slot := by
  obtain ⟨-, x, hx, hxn⟩ := Cond.laysAt hX hk hf h
  obtain ⟨-, y, hy, hyn⟩ := Cond.laysAt hX hk hf' h'
  exact Cond.laysApart hx hy hxn hyn hne
/-- a slot beside the one that is written keeps its value -/
theorem nx_slot {x : Cell} {i j : Nat} {v w : Value} (h : i ≠ j) (hx : x.slots[j]? = some w) : (x.setSlot i v).slots[j]? = some w :=
  (Array.getElem?_setIfInBounds_ne h).trans hx
section
variable {p : Program} {l : Launch} {e : Env} {R : Room} {s : State} {m₀ : MethodId} {args : Array Value} {below : List Frame} {meth : Method} {c : Code} {W : State} {cells slots : Nat}
/-- 'invokespecial X.<init>(String)' and 'athrow' behind it, on a new X: it leaves the method with that object, and nothing that was there before has changed -/
theorem nx_throw (X : Stand p l e R s m₀ args below meth c W [] cells slots) (hexec : p.tables.exec = Jvm.exec) (htr : e.platform.stackTraces = false) {own cls : String} {names : List String} {ic : Nat}
    (hown : s.vm.findClass own = some m₀.cls) (hcls : Bundle.fit cls = true) (hnames : ∀ n ∈ names, Bundle.fit n = true) (h : ∀ w ∈ nx_ws own ic cls names, w.before args s = true)
    {a : Addr} {cX : ClassId} {kX : Class} (hfX : s.vm.findClass cls = some cX) (hkX : s.vm.classes[cX]? = some kX) (hcell : W.heap[a]? = some (freshCell cX kX)) (hnew : s.heap.size ≤ a) {msg : Value} (hmsg : msg.isRef = true)
    {g : JFrame} (hg : g.method = m₀) (hsize : g.locals.size = c.maxLocals) (hlocked : g.locked = none) (hentered : g.entered = []) {rest : List Value} (hstack : g.stack = msg :: .ref a :: .ref a :: rest)
    (hd : decode c.code g.pc = .ok (.invokespecial ic, 3)) (hd' : decode c.code (g.pc + 3) = .ok (.athrow, 1)) (hout : ∀ x ∈ c.exceptionTable.toList, covers x (g.pc + 3) = false) (hF : names.length + 3 < R.frames)
    (hR : 2 * g.monitorRoom + ((Value.ref a :: rest).map fun v => v.category).sum + (13 * (names.length + 1) + 42) ≤ R.locals) (hlocks : meth.locks = false) :
    ∃ U : State, Steps p.tables e below (W.setTop g) U ∧ U.status = .running ∧ Ended U below (.threw a) ∧ s.WarmedH U.vm ∧ s.sameButNew ({ U with vm := s.vm } : State) [] cells slots ∧
      ∃ ce, U.heap[a]? = some ce ∧ ce.vm = .none ∧ ce.cls = cX := by
  have hpl := X.magic
  have q : ∀ (k : Nat) (w : Cond), ((Bundle.ownAtoms own ic cls []).drop (Bundle.throwableAtoms.length + Bundle.throwableSAtoms.length + 5))[k]? = some w → w.before args s = true := fun k w hk => h w (nx_in (List.mem_of_getElem? hk))
  have qUp : ∀ w ∈ nx_up cls names, w.before args s = true := fun w hw => h w (List.mem_append_left _ (List.mem_append_right _ hw))
  have qN : (Cond.instanceMethod (Bundle.initS cls)).before args s = true := qUp _ (List.mem_of_getElem? (i := 0) (by cases names <;> rfl))
  have qC : (Cond.code (Bundle.initS cls) nseB 2 none).before args s = true := qUp _ (List.mem_of_getElem? (i := 1) (by cases names <;> rfl))
  -- Throwable, and the way up to it
  obtain ⟨T, Z0, L, -, Y⟩ := ThrowableC.of_atoms (args := args) (s := s) (pl := e.platform) (by rw [X.admits.platform]) (by rw [X.admits.platform]) hpl (fun w hw => h w (List.mem_append_left _ (List.mem_append_left _ (List.mem_append_left _ hw))))
  obtain ⟨Z, M, hZ, hM, hZn⟩ := Init0T.ofS_atoms (args := args) hpl L Y (fun w hw => h w (List.mem_append_left _ (List.mem_append_left _ (List.mem_append_right _ hw))))
  obtain ⟨P, Ps, hlen, hPs, hPm, hon⟩ := nx_passes hpl hZn hcls hnames qUp
  obtain ⟨iM, hMf⟩ := Y.msg
  obtain ⟨cI, kI, i1, i2, hord, -⟩ := Cond.instantiable_spec (q 1 (.instantiable cls 6) rfl)
  obtain rfl : cI = cX := Option.some.inj (i1.symm.trans hfX)
  obtain rfl : kI = kX := Option.some.inj (i2.symm.trans hkX)
  -- its two static fields, as they stand in this heap
  obtain ⟨cs, hcs, hst⟩ := Y.statics
  obtain ⟨u0, hu0⟩ := Cond.staticRefV Y.unassigned L.unassignedStatic L.statics hcs hst (q 9 _ rfl)
  obtain ⟨sen, hsen⟩ := Cond.staticRefV Y.sentinel L.sentinelStatic L.statics hcs hst (q 10 _ rfl)
  have hold : T.aS < s.heap.size := (Array.getElem?_eq_some_iff.mp hcs).1
  have hcsW : W.heap[T.aS]? = some cs := ((vx_frame (U := W) X.same).2 _ hold (fun _ hz => nomatch hz)).trans hcs
  -- 'backtrace' of the new object is null and stays so
  obtain ⟨ci, ib, fB, b1, b2, b3, b4, -, hBn, hBt, hBf⟩ := Cond.ownField (t := .object "java/lang/Object") Y.found L.cls (by decide +kernel) (q 11 _ rfl) (q 12 _ rfl) e.platform hpl
  have hB1 : T.fCause.slot ≠ fB.slot := nx_apart hfX hkX Y.cause hBf (q 5 _ rfl) (q 13 _ rfl) (by rw [Y.causeName, hBn]; decide)
  have hB2 : T.fStack.slot ≠ fB.slot := nx_apart hfX hkX Y.stack hBf (q 6 _ rfl) (q 13 _ rfl) (by rw [Y.stackName, hBn]; decide)
  have hB3 : T.fSupp.slot ≠ fB.slot := nx_apart hfX hkX Y.supp hBf (q 7 _ rfl) (q 13 _ rfl) (by rw [Y.suppName, hBn]; decide)
  have hB0 : (freshCell cI kI).slots[fB.slot]? = some .null := by
    have := fresh_default (c := cI) (Cond.laysAt hfX hkX hBf (q 13 _ rfl)).1
    rw [hBt] at this
    exact this
  -- into the constructor, through it, and out by the throw
  obtain ⟨tm, -, -, -, vm1, ht, -, -, -, -, -, -, -, hW1, go⟩ := Steps.initColdS (tb := p.tables) (e := e) (below := below) (s := s) (U := W) X.here hexec X.warmed hpl hown (t := Bundle.initS cls) rfl rfl (Bundle.fit_spec hcls).2
    (q 0 _ rfl) qN qC hg hstack hd
  obtain rfl : tm = P.m := Option.some.inj (ht.symm.trans hPm)
  obtain ⟨vm2, X2, st⟩ := (X.noted hW1).ctorMessageOffV hexec (g := { g with stack := .ref a :: rest }) hg hsize T L Z hZ M hM (P :: Ps) hPs hon hmsg (u0 := u0) (sen := sen) (self := a) (cell := freshCell cI kI) (cellS := cs)
    hcell (fun _ hv => nomatch hv) (fun hv => nomatch hv) rfl rfl
    (nx_sel X.admits hfX Y.fill0 (by decide) (q 3 _ rfl)) (nx_sel X.admits hfX Y.fill (by decide) (q 4 _ rfl))
    hcsW (fun ha => Nat.lt_irrefl _ (Nat.lt_of_lt_of_le hold (ha ▸ hnew))) (fun hv => by rw [hv] at hst; exact nomatch hst) hu0 hsen
    (nx_takes hfX hkX hord Y.cause (q 5 _ rfl) (by rw [Y.causeType]; rfl)) (nx_takes hfX hkX hord Y.stack (q 6 _ rfl) (by rw [Y.stackType]; exact fits_refV_array _ u0))
    (nx_takes hfX hkX hord Y.supp (q 7 _ rfl) (by rw [Y.suppType]; exact fits_refV_object _ sen)) (nx_takes hfX hkX hord hMf (q 8 _ rfl) (by rw [Y.msgType]; exact fits_refV_object _ ⟨msg, hmsg⟩))
    Y.objLocals ⟨⟨ci, ib, fB⟩, ⟨b1, b2, b3, b4⟩, nx_slot hB3 (nx_slot hB2 (nx_slot hB1 hB0)), fun _ _ => rfl⟩ htr [] hd (by rw [List.length_cons, hlen]; exact hF) (by rw [List.length_cons, hlen]; exact hR)
  obtain ⟨t1, t2, t3, t4, t5⟩ := X2.athrowLeaves hexec (g := { g with stack := .ref a :: rest, pc := g.pc + 3 }) hg hlocked hentered hout (a := a) (rest := rest) rfl hd' hlocks
  have hall : ∀ y ∈ ([⟨a, T.fCause.slot⟩, ⟨a, T.fStack.slot⟩, ⟨a, T.fSupp.slot⟩, ⟨a, T.fStack.slot⟩, ⟨a, T.fMsg.slot⟩] : List Loc), y.base = a := by simp
  refine ⟨_, go _ (fun acts => ?_), t2, t3, t4, t5.weaken (fun y hy hlt => ?_) (Nat.le_refl _) (Nat.le_refl _), _, heapAt_setCell_self _ (Array.getElem?_eq_some_iff.mp hcell).1, rfl, rfl⟩
  · rw [doInvoke_state]
    exact st _ t1
  · rw [hall y hy] at hlt
    exact absurd hlt (Nat.not_lt.mpr hnew)
end
section
variable {p : Program} {l : Launch} {e : Env} {R : Room} {s : State} {m : MethodId} {args : Array Value} {below : List Frame} {meth : Method} {c : Code} {H : Heap} {locs : List Loc} {cells slots : Nat} {Q : State → Prop}
variable {mc ms : Nat} {free : Addr → Prop} {A0 A1 : Nat → Prop} {H0 : Heap} {a : Array Value} {ls : Array Slot} {st0 rest : List Value}
variable {Qc : Array Value → State → Outcome → State → Prop} {XC : String → State → State → Prop}
theorem vx_throwSN {cc : ByteArray} {pc : Nat} (hexec : p.tables.exec = Jvm.exec) (hb : c.code = cc) (hl : l.stackTraces = false) {own cls text : String} {names : List String} {ik is ic mc ms sa : Nat} {A : Nat → Prop}
    (hown : s.vm.findClass own = some m.cls) (hcls : Bundle.fit cls = true) (hnames : ∀ n ∈ names, Bundle.fit n = true)
    (hk : (Cond.classLink own ik cls).before args s = true) (hini : (Cond.initialized cls).before args s = true) (hstr : vk_R own is text sa s) (hat : ∀ w ∈ vx_atSN own ic cls names, w.before args s = true)
    (hgood : ∀ w ∈ Cond.classLink own ik cls :: Cond.initialized cls :: vx_atSN own ic cls names, vx_ot w = true)
    (hU : vx_Zq Bundle.tN "UNASSIGNED_STACK" Bundle.steD A s s.heap) (hN : vx_Zq Bundle.tN "SUPPRESSED_SENTINEL" Bundle.listD A s s.heap) (hS : va_S A s.heap H locs) (hsize : ls.size = c.maxLocals)
    (d0 : decode cc pc = .ok (.new ik, 3)) (d3 : decode cc (pc + 3) = .ok (.dup, 1)) (d4 : decode cc (pc + 4) = .ok (.ldc is, 2)) (d6 : decode cc (pc + 6) = .ok (.invokespecial ic, 3)) (d9 : decode cc (pc + 9) = .ok (.athrow, 1))
    (hout : ∀ x ∈ c.exceptionTable.toList, covers x (pc + 9) = false)
    (hRframes : names.length + 3 < R.frames) (hRlocals : (rest.map fun v => v.category).sum + (13 * (names.length + 1) + 43) ≤ R.locals) (hRcells : cells + 1 ≤ R.cells) (hRslots : slots + 6 ≤ R.slots) (hlocks : meth.locks = false)
    (hx : ∀ t : State, s.vm.Alike t.vm → H.size ≤ t.heap.size → (∀ q : Nat, q < H.size → t.heap[q]? = H[q]?) → XC cls s t)
    (hf : ∀ z ∈ locs, free z.base) (hc : cells + 1 ≤ mc) (hs : slots + 6 ≤ ms) :
    W p l e R s m args below meth c H locs cells slots (vx_MQ below Qc XC args s mc ms free) (F0 m pc ls rest) := by
  intro T hT X
  have htr : e.platform.stackTraces = false := (show e.platform.stackTraces = l.stackTraces by rw [X.admits.platform]).trans hl
  have Y := vx_rebase X (R' := { frames := R.frames, locals := R.locals, cells := 1, slots := 6 }) (Nat.le_refl _) (Nat.le_refl _) hRcells hRslots
  obtain ⟨s', hA⟩ : ∃ z, z = (T.setVm s.vm).setFrames (.invoking m args :: below) := ⟨_, rfl⟩
  rw [← hA] at Y
  have hvm : s'.vm = s.vm := by rw [hA]; rfl
  have hhp : s'.heap = H := by rw [hA]; exact hT
  have hW0 : s.WarmedH s'.vm := by rw [hvm]; exact State.WarmedH.refl s
  have hat' : ∀ w ∈ vx_atSN own ic cls names, w.before args s' = true := fun w hw => vx_ot_at hW0 hvm.symm (hgood w (List.mem_cons_of_mem _ (List.mem_cons_of_mem _ hw))) (hat w hw)
  have hk' : (Cond.classLink own ik cls).before args s' = true := vx_ot_at hW0 hvm.symm (hgood _ List.mem_cons_self) hk
  have hini' : (Cond.initialized cls).before args s' = true := vx_ot_at hW0 hvm.symm (hgood _ (List.mem_cons_of_mem _ List.mem_cons_self)) hini
  have hU' : vx_Zq Bundle.tN "UNASSIGNED_STACK" Bundle.steD A s' s'.heap := by rw [hhp]; exact vx_Zq.moved hW0.alike (hU.kept hS.2.1)
  have hN' : vx_Zq Bundle.tN "SUPPRESSED_SENTINEL" Bundle.listD A s' s'.heap := by rw [hhp]; exact vx_Zq.moved hW0.alike (hN.kept hS.2.1)
  have h : ∀ w ∈ nx_ws own ic cls names, w.before args s' = true := vx_own hat' (vx_isRefq hU'.1) (vx_isRefq hN'.1) hU'.2.word hN'.2.word
  have hown' : s'.vm.findClass own = some m.cls := by rw [hvm]; exact hown
  have hins : (Cond.instantiable cls 6).before args s' = true := h _ (nx_in (List.mem_of_getElem? (i := 1) rfl))
  obtain ⟨vm₁, cX, kX, hfX, hkX, -, -, X₁, st1⟩ := Y.newCold hexec (own := own) (C := cls) (index := ik) (n := 6) hown' hk' hins hini'
    (g := F0 m pc ls rest) rfl (by rw [hb]; exact d0) (Nat.le_refl _) (Nat.le_refl _)
  generalize hT1 : (T.setVm vm₁).pushCell { cls := cX, slots := kX.instanceTypes.map defaultValue, vm := .none } = T1 at X₁ st1
  have hcat : (Value.ref T.heap.size).category = 1 := rfl
  have hcellA : T1.heap[T.heap.size]? = some (freshCell cX kX) := by rw [← hT1]; exact State.heap_pushCell_size _ _
  have d3' : decode c.code (pc + 3) = .ok (.dup, 1) := by rw [hb]; exact d3
  have d4' : decode c.code (pc + 4) = .ok (.ldc is, 2) := by rw [hb]; exact d4
  have hstr' : vk_R own is text sa s' := vk_R.warm hW0 hstr
  obtain ⟨U, hsteps, hrun, hend, hW, hsame, ce, hce, hOv, hOc⟩ := nx_throw X₁ hexec htr (own := own) (cls := cls) (names := names) (ic := ic) hown' hcls hnames h hfX hkX hcellA (by rw [hhp, hT]; exact Nat.le_refl _) (msg := .ref sa) rfl
    (g := { method := m, pc := pc + 6, locals := ls, stack := .ref sa :: .ref T.heap.size :: .ref T.heap.size :: rest, locked := none }) rfl hsize rfl rfl (rest := rest) rfl
    (by rw [hb]; exact d6) (by rw [hb]; exact d9) hout hRframes (by simp only [List.map_cons, List.sum_cons, hcat]; omega) hlocks
  obtain ⟨f1, f2⟩ := vx_frame hsame
  rw [hhp] at f1 f2
  have hWs : s.WarmedH U.vm := State.WarmedH.trans hW0 hW
  have hcl : s.vm.findClass cls = some ce.cls := by
    rw [hOc, ← hvm]
    exact hfX
  have hall : s.sameButNew ({ U with vm := s.vm } : State) locs mc ms := by
    subst hA
    obtain ⟨e1, e2⟩ := hsame
    rw [State.setFrames_setFrames] at e1
    have h2 : (T.setVm s.vm).sameButNew ({ U with vm := s.vm } : State) [] (0 + 1) (0 + 6) := ⟨e1, e2⟩
    have h3 := X.same.trans h2
    rw [List.append_nil] at h3
    exact h3.mono hc hs
  refine ⟨U, ?_, .threw T.heap.size, hrun, hend, Or.inr ⟨T.heap.size, rfl, cls, ce, locs, hx U hWs.alike f1 (fun q hq => f2 q hq (fun z hz => nomatch hz)), hce, hOv, hcl, hWs, hall, hf⟩⟩
  refine st1 _ ?_
  show Steps p.tables e below (T1.setTop { method := m, pc := pc + 3, locals := ls, stack := .ref T.heap.size :: rest, locked := none }) _
  jvm_step X₁.here [X₁.here.top, hexec, d3', Value.category]
  exact X₁.ldcString hexec (own := own) (text := text) (index := is) (a := sa) hown' hstr'.1 hstr'.2
    (g := { method := m, pc := pc + 4, locals := ls, stack := .ref T.heap.size :: .ref T.heap.size :: rest, locked := none }) rfl d4' _ hsteps
end

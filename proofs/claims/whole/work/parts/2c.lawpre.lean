/-- what the pure part owes: a relation of the two states that each call keeps, with the same answers -/
def RefAll (R : St → St → Prop) : Prop :=
  (∀ c m, R c m → okC c ∧ okM m) ∧ R st0C st0M ∧
  (∀ c m (a1 : Int32), R c m → (sp_X10_purpose m a1).2.1 10 = (sp_X9_purpose c a1).1 ∧ ((sp_X9_purpose c a1).1 = 0 → (sp_X9_purpose c a1).2.1 = (sp_X10_purpose m a1).1) ∧ R (sp_X9_purpose c a1).2.2 (sp_X10_purpose m a1).2) ∧
  (∀ c m (a1 : Int32), R c m → (sp_X10_kind m a1).2.1 10 = (sp_X9_kind c a1).1 ∧ ((sp_X9_kind c a1).1 = 0 → (sp_X9_kind c a1).2.1 = (sp_X10_kind m a1).1) ∧ R (sp_X9_kind c a1).2.2 (sp_X10_kind m a1).2) ∧
  (∀ c m (a1 a2 a3 a4 : Int32), (a3 = 0 ∨ a3 = 1) → R c m → (sp_X10_consent m a1 a2 a3 a4).2.1 10 = (sp_X9_consent c a1 a2 a3 a4).1 ∧ ((sp_X9_consent c a1 a2 a3 a4).1 = 0 → (sp_X9_consent c a1 a2 a3 a4).2.1 = (sp_X10_consent m a1 a2 a3 a4).1) ∧ R (sp_X9_consent c a1 a2 a3 a4).2.2 (sp_X10_consent m a1 a2 a3 a4).2) ∧
  (∀ c m (a1 a2 a3 a4 : Int32), R c m → (sp_X10_contract m a1 a2 a3 a4).2.1 10 = (sp_X9_contract c a1 a2 a3 a4).1 ∧ ((sp_X9_contract c a1 a2 a3 a4).1 = 0 → (sp_X9_contract c a1 a2 a3 a4).2.1 = (sp_X10_contract m a1 a2 a3 a4).1) ∧ R (sp_X9_contract c a1 a2 a3 a4).2.2 (sp_X10_contract m a1 a2 a3 a4).2) ∧
  (∀ c m (a1 a2 a3 : Int32), R c m → (sp_X10_duty m a1 a2 a3).2.1 10 = (sp_X9_duty c a1 a2 a3).1 ∧ ((sp_X9_duty c a1 a2 a3).1 = 0 → (sp_X9_duty c a1 a2 a3).2.1 = (sp_X10_duty m a1 a2 a3).1) ∧ R (sp_X9_duty c a1 a2 a3).2.2 (sp_X10_duty m a1 a2 a3).2) ∧
  (∀ c m (a1 a2 a3 a4 : Int32), R c m → (sp_X10_put m a1 a2 a3 a4).2.1 10 = (sp_X9_put c a1 a2 a3 a4).1 ∧ ((sp_X9_put c a1 a2 a3 a4).1 = 0 → (sp_X9_put c a1 a2 a3 a4).2.1 = (sp_X10_put m a1 a2 a3 a4).1) ∧ R (sp_X9_put c a1 a2 a3 a4).2.2 (sp_X10_put m a1 a2 a3 a4).2) ∧
  (∀ c m (a1 a2 a3 : Int32), R c m → (sp_X10_derive m a1 a2 a3).2.1 10 = cL (sp_X9_derive c a1 a2 a3).1 ∧ ((sp_X9_derive c a1 a2 a3).1 = 0 → (sp_X9_derive c a1 a2 a3).2.1 = (sp_X10_derive m a1 a2 a3).1) ∧ R (sp_X9_derive c a1 a2 a3).2.2 (sp_X10_derive m a1 a2 a3).2) ∧
  (∀ c m (a1 a2 a3 : Int32), R c m → (sp_X10_event m a1 a2 a3).2.1 10 = (sp_X9_event c a1 a2 a3).1 ∧ ((sp_X9_event c a1 a2 a3).1 = 0 → (sp_X9_event c a1 a2 a3).2.1 = (sp_X10_event m a1 a2 a3).1) ∧ R (sp_X9_event c a1 a2 a3).2.2 (sp_X10_event m a1 a2 a3).2) ∧
  (∀ c m (a1 a2 a3 : Int32), R c m → (sp_X10_hold m a1 a2 a3).2.1 10 = (sp_X9_hold c a1 a2 a3).1 ∧ ((sp_X9_hold c a1 a2 a3).1 = 0 → (sp_X9_hold c a1 a2 a3).2.1 = (sp_X10_hold m a1 a2 a3).1) ∧ R (sp_X9_hold c a1 a2 a3).2.2 (sp_X10_hold m a1 a2 a3).2) ∧
  (∀ c m (a1 a2 : Int32), R c m → (sp_X10_lift m a1 a2).1 10 = (sp_X9_lift c a1 a2).1 ∧ R (sp_X9_lift c a1 a2).2 (sp_X10_lift m a1 a2)) ∧
  (∀ c m (a1 a2 a3 : Int32), R c m → (sp_X10_use m a1 a2 a3).2.1 10 = cL (sp_X9_use c a1 a2 a3).1 ∧ ((sp_X9_use c a1 a2 a3).1 = 0 → (sp_X9_use c a1 a2 a3).2.1 = (sp_X10_use m a1 a2 a3).1) ∧ R (sp_X9_use c a1 a2 a3).2.2 (sp_X10_use m a1 a2 a3).2) ∧
  (∀ c m, R c m → (sp_X9_why c) = (sp_X10_why m).1 ∧ R c (sp_X10_why m).2) ∧
  (∀ c m (a1 a2 : Int32), R c m → (sp_X10_erase m a1 a2).2.1 10 = (sp_X9_erase c a1 a2).1 ∧ ((sp_X9_erase c a1 a2).1 = 0 → (sp_X9_erase c a1 a2).2.1 = (sp_X10_erase m a1 a2).1) ∧ R (sp_X9_erase c a1 a2).2.2 (sp_X10_erase m a1 a2).2) ∧
  (∀ c m (a1 : Int32), R c m → (sp_X10_sweep m a1).2.1 10 = (sp_X9_sweep c a1).1 ∧ ((sp_X9_sweep c a1).1 = 0 → (sp_X9_sweep c a1).2.1 = (sp_X10_sweep m a1).1) ∧ R (sp_X9_sweep c a1).2.2 (sp_X10_sweep m a1).2) ∧
  (∀ c m (a1 a2 : Int32), R c m → (sp_X9_held c a1 a2) = (sp_X10_held m a1 a2).1 ∧ R c (sp_X10_held m a1 a2).2) ∧
  (∀ c m (a1 a2 : Int32), R c m → (sp_X9_logged c a1 a2) = (sp_X10_logged m a1 a2).1 ∧ R c (sp_X10_logged m a1 a2).2) ∧
  (∀ c m (a1 : Int32), R c m → (sp_X9_peek c a1) = (sp_X10_peek m a1).1 ∧ R c (sp_X10_peek m a1).2) ∧
  (∀ c m (a1 a2 : Int32), R c m → (sp_X9_look c a1 a2) = (sp_X10_look m a1 a2).1 ∧ R c (sp_X10_look m a1 a2).2) ∧
  (∀ c m (a1 : Int32), R c m → (sp_X9_state c a1) = (sp_X10_state m a1).1 ∧ R c (sp_X10_state m a1).2)
def A0 (s : State) : Nat → Prop := fun a => s.heap.size ≤ a
/-- what the law's loop stands on -/
def LCx (p : Program) (l : Launch) (s : State) (m : MethodId) (c : Code) (b L : Nat) (xs : Nat → Int32) (dC : Nat → ClassId) (dI : Nat → Nat → Nat) (q q2 : Nat → Nat) (k k2 : Nat → ClassId) (o : Nat) (ko : ClassId) : Prop :=
  p.tables.exec = Jvm.exec ∧ c.code = code ∧ c.maxLocals = 8 ∧ s.vm.findClass RL = some m.cls ∧ (∀ w ∈ wsL_law, w.before #[Value.ref b] s = true) ∧ va_X b L xs s s.heap ∧ b < s.heap.size ∧ l.stackTraces = false ∧
  KC (dC, dI) k s ∧ KM (dC, dI) k2 s ∧ va_K (dC, dI) vwCl [(ko, .long)] s ∧ TH (A0 s) s s.heap ∧ NC s ∧
  (∀ i j, i < 43 → j < 43 → q i = q j → i = j) ∧ (∀ i j, i < 35 → j < 35 → q2 i = q2 j → i = j) ∧ (∀ j, j < 43 → q j ≠ o) ∧ (∀ j, j < 35 → q2 j ≠ o) ∧ (∀ i j, i < 43 → j < 35 → q i ≠ q2 j) ∧
  (∀ j, j < 43 → s.heap.size ≤ q j) ∧ (∀ j, j < 35 → s.heap.size ≤ q2 j) ∧ s.heap.size ≤ o
/-- the three worlds in a heap -/
def LSx (s : State) (dC : Nat → ClassId) (dI : Nat → Nat → Nat) (q q2 : Nat → Nat) (k k2 : Nat → ClassId) (o : Nat) (ko : ClassId) (sc sm : St) (f : Nat → Int64) (H : Heap) (locs : List Loc) : Prop :=
  va_P (dC, dI) vwCl (wC q k sc) H ∧ va_P (dC, dI) vwCl (wM q2 k2 sm) H ∧ va_P (dC, dI) vwCl (wO o ko f) H ∧ va_S (A0 s) s.heap H locs
theorem keepC {D : va_G} {q : Nat → Nat} {k : Nat → ClassId} {sc : St} {H H1 : Heap} {A : Nat → Prop} (h : va_P D vwCl (wC q k sc) H) (hk : ∀ z : Nat, z < H.size → ¬ A z → H1[z]? = H[z]?) (hA : ∀ j, j < 43 → ¬ A (q j)) : va_P D vwCl (wC q k sc) H1 := h.kept (fun i p hp => hk _ (va_at.lt (h i p hp)) (by rw [(wC_at hp).2]; exact hA i (wC_at hp).1))
theorem keepM {D : va_G} {q : Nat → Nat} {k : Nat → ClassId} {sm : St} {H H1 : Heap} {A : Nat → Prop} (h : va_P D vwCl (wM q k sm) H) (hk : ∀ z : Nat, z < H.size → ¬ A z → H1[z]? = H[z]?) (hA : ∀ j, j < 35 → ¬ A (q j)) : va_P D vwCl (wM q k sm) H1 := h.kept (fun i p hp => hk _ (va_at.lt (h i p hp)) (by rw [(wM_at hp).2]; exact hA i (wM_at hp).1))
theorem keepO {D : va_G} {o : Nat} {ko : ClassId} {f : Nat → Int64} {H H1 : Heap} {A : Nat → Prop} (h : va_P D vwCl (wO o ko f) H) (hk : ∀ z : Nat, z < H.size → ¬ A z → H1[z]? = H[z]?) (hA : ¬ A o) : va_P D vwCl (wO o ko f) H1 := h.kept (fun i p hp => hk _ (va_at.lt (h i p hp)) (by rw [(wO_at hp).2]; exact hA))
theorem lgc {x y : Int64} (h : ¬ lg_cmp x y = 0) : x ≠ y := by
  intro e
  subst e
  apply h
  unfold lg_cmp
  rw [if_neg (by simp), if_pos rfl]
theorem lgc0 {x y : Int64} (h : lg_cmp x y = 0) : x = y := by
  unfold lg_cmp at h
  split at h
  · exact absurd h (by decide)
  · split at h
    · assumption
    · exact absurd h (by decide)
theorem inc_ge (x : Int32) (k : Nat) (h : 0 ≤ x.toInt ∧ x.toInt < 1000000) (hk : k < 100) : (x + OfNat.ofNat k).toInt = x.toInt + k := by
  rw [Int32.toInt_add]
  have e : (OfNat.ofNat k : Int32).toInt = k := by
    have := nI_toInt (n := k) (by omega)
    exact this
  rw [e]
  exact Int.bmod_eq_of_le (by omega) (by omega)
theorem cL0 {c : Int32} (h4 : c = 0 ∨ c = 1 ∨ c = 2 ∨ c = 3) (h : cL c = 0) : c = 0 := by
  rcases h4 with rfl | rfl | rfl | rfl
  · rfl
  · exact absurd h (by decide)
  · exact absurd h (by decide)
  · exact absurd h (by decide)

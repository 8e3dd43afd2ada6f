/-! bits: the family pasted from kit/laws/BITS.to-paste -/
def bt (x : Int32) (i : Nat) : Bool := x.toBitVec.getLsbD i
theorem b_or (x y : Int32) (i : Nat) : bt (x ||| y) i = (bt x i || bt y i) := by unfold bt; rw [Int32.toBitVec_or, BitVec.getLsbD_or]
theorem b_and (x y : Int32) (i : Nat) : bt (x &&& y) i = (bt x i && bt y i) := by unfold bt; rw [Int32.toBitVec_and, BitVec.getLsbD_and]
theorem s_l : ∀ n, n < 32 → ((nI n &&& 31).toBitVec.smod 32).toNat = n := by decide +kernel
theorem b_shl (n : Nat) (hn : n < 32) (x : Int32) {i : Nat} (hi : i < 32) : bt (x <<< (nI n &&& 31)) i = (decide (n ≤ i) && bt x (i - n)) := by
  unfold bt
  rw [Int32.toBitVec_shiftLeft]
  show (x.toBitVec <<< ((nI n &&& 31).toBitVec.smod 32).toNat).getLsbD i = _
  rw [s_l n hn, BitVec.getLsbD_shiftLeft]
  rcases Nat.lt_or_ge i n with h | h
  · simp [h, Nat.not_le.mpr h]
  · simp [hi, h, Nat.not_lt.mpr h]
theorem b_sshr (n : Nat) (hn : n < 32) (x : Int32) {i : Nat} (hi : i < 32) : bt (x >>> (nI n &&& 31)) i = if n + i < 32 then bt x (n + i) else bt x 31 := by
  unfold bt
  rw [Int32.toBitVec_shiftRight]
  show (x.toBitVec.sshiftRight ((nI n &&& 31).toBitVec.smod 32).toNat).getLsbD i = _
  rw [s_l n hn, BitVec.getLsbD_sshiftRight, BitVec.msb_eq_getLsbD_last]
  simp [hi]
theorem y_and1 (y : Int32) : y &&& 1 = 1 ↔ bt y 0 = true := by
  constructor
  · intro h
    have e : bt (y &&& 1) 0 = true := by rw [h]; decide
    rw [b_and] at e
    simp at e
    exact e.1
  · intro h
    refine Int32.toBitVec_inj.mp (BitVec.eq_of_getLsbD_eq (fun i hi => ?_))
    show bt (y &&& 1) i = bt 1 i
    rw [b_and]
    by_cases e : i = 0
    · subst e; rw [h]; rfl
    · have z : bt 1 i = false := by
        have : ∀ i, i < 32 → i ≠ 0 → bt 1 i = false := by decide +kernel
        exact this i hi e
      rw [z, Bool.and_false]
theorem y_and0 (y : Int32) : y &&& 1 = 0 ↔ ¬ y &&& 1 = 1 := by
  constructor
  · intro h q; rw [h] at q; exact absurd q (by decide)
  · intro h
    have h0 : bt y 0 = false := by
      cases e : bt y 0
      · rfl
      · exact absurd ((y_and1 y).mpr e) h
    refine Int32.toBitVec_inj.mp (BitVec.eq_of_getLsbD_eq (fun i hi => ?_))
    show bt (y &&& 1) i = bt 0 i
    rw [b_and]
    by_cases e : i = 0
    · subst e; rw [h0]; rfl
    · have z : bt 1 i = false := by
        have : ∀ i, i < 32 → i ≠ 0 → bt 1 i = false := by decide +kernel
        exact this i hi e
      have z0 : bt 0 i = false := by
        have : ∀ i, i < 32 → bt 0 i = false := by decide +kernel
        exact this i hi
      rw [z, z0, Bool.and_false]
/-- a bit, read as the code reads it -/
theorem bit_iff (a : Int32) {u : Nat} (hu : u < 32) : (a >>> (nI u &&& 31)) &&& 1 = 1 ↔ bt a u = true := by
  rw [y_and1, b_sshr u hu a (by omega)]
  simp [hu]
theorem bit_or (a : Int32) {u k : Nat} (hu : u < 32) (hk : k < 32) : ((a ||| (1 <<< (nI k &&& 31))) >>> (nI u &&& 31)) &&& 1 = 1 ↔ (u = k ∨ (a >>> (nI u &&& 31)) &&& 1 = 1) := by
  rw [bit_iff _ hu, bit_iff _ hu, b_or]
  have z : ∀ k, k < 32 → ∀ u, u < 32 → (bt (1 <<< (nI k &&& 31)) u = true ↔ u = k) := by decide +kernel
  have z1 := z k hk u hu
  rw [Bool.or_eq_true]
  constructor
  · rintro (h | h)
    · exact Or.inr h
    · exact Or.inl (z1.mp h)
  · rintro (h | h)
    · exact Or.inr (z1.mpr h)
    · exact Or.inl h
theorem bit_one : ∀ k, k < 16 → ∀ u, u < 16 → (((1 : Int32) <<< (nI k &&& 31)) >>> (nI u &&& 31)) &&& 1 = 1 → k = u := by decide +kernel
theorem bit_one' : ∀ u, u < 16 → (((1 : Int32) <<< (nI u &&& 31)) >>> (nI u &&& 31)) &&& 1 = 1 := by decide +kernel

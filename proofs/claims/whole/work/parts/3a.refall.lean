/-! all calls together -/
theorem rel0 : Rel st0C st0M := by
  have v : ∀ (j : Nat), ¬ (j : Int) < (0 : Int32).toInt := fun j hj => by rw [z0] at hj; omega
  refine ⟨⟨?_, ⟨?_, ⟨?_, fun j => ?_, fun j => ?_, fun j => ?_⟩, fun j => ?_, fun j => ?_⟩, ?_, fun i hi => rfl, fun a ha => ?_, fun u p hu hp => ?_, fun j hj => ?_, fun j hj => ?_, fun j hj => ?_, ?_, fun j hj => ?_, fun j hj => ?_, fun j hj => ?_, fun j hj => ?_⟩, fun j hj => ?_⟩
  · unfold okC; decide +kernel
  · unfold okC; decide +kernel
  · decide +kernel
  · exact vp_in_iff.mpr (by show 0 ≤ (0 : Int32).toInt ∧ (0 : Int32).toInt < (8 : Nat); rw [z0]; omega)
  · exact vp_in_iff.mpr (by show 0 ≤ (0 : Int32).toInt ∧ (0 : Int32).toInt < (100 : Nat); rw [z0]; omega)
  · exact vp_in_iff.mpr (by show 0 ≤ (0 : Int32).toInt ∧ (0 : Int32).toInt < (100 : Nat); rw [z0]; omega)
  · show -1 ≤ (upd (fun _ => 0) 0 (-1) j).toInt ∧ (upd (fun _ => 0) 0 (-1) j).toInt < j
    by_cases w : j = 0
    · rw [w, pk_us, zm1]; omega
    · rw [pk_un w, z0]; omega
  · exact Or.inl rfl
  · decide +kernel
  · show (if a = 0 then _ else _) = (if a = 0 then _ else _)
    have ha0 := ha.1
    rw [if_neg (by omega), if_neg (by omega)]
  · have hp2 : (p : Int) < (1 : Int32).toInt := hp
    rw [z1] at hp2
    have p0 : p = 0 := by omega
    subst p0
    have key : ∀ u : Nat, u < 16 → (((1 : Int32) >>> (nI u &&& 31)) &&& 1 = 1 ↔ anc (upd (fun _ => 0) 0 (-1)) (nI u) 18 (nI 0) = true) := by decide +kernel
    exact key u hu
  · exact absurd hj (v j)
  · exact absurd hj (v j)
  · exact absurd hj (v j)
  · show (0 : Int32) = nI 0
    exact nI_0.symm
  · exact absurd hj (v j)
  · exact absurd hj (v j)
  · exact absurd hj (v j)
  · exact absurd hj (v j)
  · exact absurd hj (v j)
theorem ref_all : RefAll Rel := ⟨fun _ _ h => ⟨h.1.okC, h.1.okM⟩, rel0, fun _ _ a1 h => ref_purpose h a1, fun _ _ a1 h => ref_kind h a1, fun _ _ a1 a2 a3 a4 hy h => ref_consent h a1 a2 a3 a4 hy, fun _ _ a1 a2 a3 a4 h => ref_contract h a1 a2 a3 a4, fun _ _ a1 a2 a3 h => ref_duty h a1 a2 a3, fun _ _ a1 a2 a3 a4 h => ref_put h a1 a2 a3 a4, fun _ _ a1 a2 a3 h => ref_derive h a1 a2 a3, fun _ _ a1 a2 a3 h => ref_event h a1 a2 a3, fun _ _ a1 a2 a3 h => ref_hold h a1 a2 a3, fun _ _ a1 a2 h => ref_lift h a1 a2, fun _ _ a1 a2 a3 h => ref_use h a1 a2 a3, fun _ _ h => ref_why h, fun _ _ a1 a2 h => ref_erase h a1 a2, fun _ _ a1 h => ref_sweep h a1, fun _ _ a1 a2 h => ref_held h a1 a2, fun _ _ a1 a2 h => ref_logged h a1 a2, fun _ _ a1 h => ref_peek h a1, fun _ _ a1 a2 h => ref_look h a1 a2, fun _ _ a1 h => ref_state h a1⟩

set_option maxHeartbeats 4000000 in
set_option maxRecDepth 100000 in
theorem c_X10_keep (l : Launch) (dC : Nat → ClassId) (dI : Nat → Nat → Nat) (q : Nat → Nat) (k : Nat → ClassId) (st : St) (a1 : Int32) (hq : ∀ i j, i < 35 → j < 35 → q i = q j → i = j) (hok : okM st) (res : St) (hres : sp_X10_keep st a1 = res) : Met l yX10_keep wsX10_keep ({ frames := 2, cells := 0, slots := 0, locals := 47 } : Room) (va_Pc [.ref (q 0), .int a1] (fun U => va_P (dC, dI) vwCl (wM q k st) U.heap ∧ KM (dC, dI) k U)) (va_Qv (fun (_ : Unit) => True) (fun _ t => va_P (dC, dI) vwCl (wM q k res) t.heap) (aM q)) 0 0 (aM q) := by
  refine Met.ofW (cc := cX10_keep) (maxL := 3) (ret := none) (by decide) rfl ?_
  intro p e s m args below meth c s₁ B hml hv
  obtain ⟨rfl, hP, hK⟩ := hv
  have hx := B.exec
  have hb := B.bytes
  have hr := B.returns
  have hts := atoms_spec (ws := wsX10_keep) B.pre
  have hown : s.vm.findClass RX10 = some m.cls := findClass_of_methodNamed B.named
  have hlocks := B.notSynchronized
  have hS : va_S (aM q) s.heap s.heap [] := va_S.rf
  have hi10 : ∀ w ∈ wsX100, w ∈ wsX10_keep := by decide +kernel
  have hf54 := hts (.fieldLink RX10 54 "ConsentRegisterModel" "hows" "[I") (by decide +kernel)
  have hf66 := hts (.fieldLink RX10 66 "ConsentRegisterModel" "firstInput" "[I") (by decide +kernel)
  have hf69 := hts (.fieldLink RX10 69 "ConsentRegisterModel" "secondInput" "[I") (by decide +kernel)
  have hf75 := hts (.fieldLink RX10 75 "ConsentRegisterModel" "lives" "[Z") (by decide +kernel)
  have hf82 := hts (.fieldLink RX10 82 "ConsentRegisterModel" "kept" "[Z") (by decide +kernel)
  have hf157 := hts (.fieldLink RX10 157 "ConsentRegisterModel" "items" "I") (by decide +kernel)
  have hl := lv_entry ([.ref (q 0), .int a1]) (n := 3) (Nat.le_of_ble_eq_true rfl)
  rw [lg_entry_eq]
  generalize (lg_sl ([.ref (q 0), .int a1]) ++ List.replicate (3 - (lg_sl ([.ref (q 0), .int a1])).length) Slot.unset).toArray = ls at hl ⊢
  have hl : lv_has ls 3 [(0, .ref (q 0)), (1, .int a1)] := hl
  have he := hres
  unfold sp_X10_keep at he
  have k_52 : ∀ (n_52 : Nat) (st_52 : St) (x2_52 : Int32) (H : Heap) (locs : List Loc) (ls : Array Slot), -1 ≤ x2_52.toInt → x2_52.toInt < 100 → x2_52.toInt + 1 < n_52 → okM st_52 → va_P (dC, dI) vwCl (wM q k st_52) H → va_S (aM q) s.heap H locs → lp_X10_keep_52 st a1 n_52 st_52 x2_52 = res → lv_has ls 3 [(0, .ref (q 0)), (1, .int a1), (2, .int x2_52)] → W p l e (headSpec wsX10_keep ({ frames := 2, cells := 0, slots := 0, locals := 47 } : Room)).room s m ([.ref (q 0), .int a1] : List Value).toArray below meth c H locs 0 0 (MQ below (va_Qv (fun (_ : Unit) => True) (fun _ t => va_P (dC, dI) vwCl (wM q k res) t.heap) (aM q)) ([.ref (q 0), .int a1] : List Value).toArray s 0 0 (aM q)) (F0 m 52 ls []) := by
    intro n_52
    induction n_52 with
    | zero =>
      intro st_52 x2_52 H locs ls hi0_52 hi1_52 hi2_52 hi3_52
      exact (ob_X10_keep_52_zero st a1 st_52 x2_52 hok hi0_52 hi1_52 hi2_52 hi3_52).elim
    | succ n_52 ih_52 =>
      intro st_52 x2_52 H locs ls hi0_52 hi1_52 hi2_52 hi3_52 hP hS he hl
      rw [lp_X10_keep_52] at he
      refine lv_iload_n hx hb dX10_keep_52 rfl (lv_at hl 2 rfl) ?_
      refine lv_if_lt (tgt := 128) hx hb dX10_keep_53 (by decide) (fun h53_1 => ?_) (fun h53_1 => ?_)
      · have he := (if_pos h53_1).symm.trans he
        exact W.vret hx hb hr (fun t ht hW => ⟨⟨(), rfl, trivial, by show va_P _ _ _ t.heap; rw [ht, ← he]; exact hP⟩, hS.F ht⟩) hS.2.2 dX10_keep_128
      · have he := (if_neg h53_1).symm.trans he
        refine lv_aload_n hx hb dX10_keep_56 rfl (lv_at hl 0 rfl) ?_
        refine va_get (D := (dC, dI)) (ci := 10) (v := .ref (q 28)) (C := RX10) (T := TX10) (N := 45) hx hb hts hi10 hown hK.1 hP 0 rfl rfl 29 (by decide) hf82 (fun _ h9 => h9) rfl dX10_keep_57 ?_
        refine lv_iload_n hx hb dX10_keep_60 rfl (lv_at hl 2 rfl) ?_
        refine va_zald hx hb hK.1 hP 28 27 (f := st_52.2.1 27) (n := 100) (cA := k 27) rfl rfl (i := x2_52) (ob_X10_keep_61_2 st a1 n_52 st_52 x2_52 hok hi0_52 hi1_52 hi2_52 hi3_52 h53_1) dX10_keep_61 ?_
        refine lv_if_eq (tgt := 122) hx hb dX10_keep_62 (by decide) (fun h62_3 => ?_) (fun h62_3 => ?_)
        · have he := (if_pos h62_3).symm.trans he
          refine lv_iinc (v := x2_52 + (-1)) (lv' := [(2, .int (x2_52 + (-1))), (0, .ref (q 0)), (1, .int a1)]) hx hb dX10_keep_122 hl (k := 2) rfl rfl (by decide) rfl (fun ls hl => ?_)
          refine lv_goto (tgt := 52) hx hb dX10_keep_125 (by decide) ?_
          exact ih_52 st_52 (x2_52 + (-1)) _ _ ls (ob_X10_keep_52_inv0_4 st a1 n_52 st_52 x2_52 hok hi0_52 hi1_52 hi2_52 hi3_52 h53_1 h62_3) (ob_X10_keep_52_inv1_5 st a1 n_52 st_52 x2_52 hok hi0_52 hi1_52 hi2_52 hi3_52 h53_1 h62_3) (ob_X10_keep_52_inv2_6 st a1 n_52 st_52 x2_52 hok hi0_52 hi1_52 hi2_52 hi3_52 h53_1 h62_3) (ob_X10_keep_52_inv3_7 st a1 n_52 st_52 x2_52 hok hi0_52 hi1_52 hi2_52 hi3_52 h53_1 h62_3) hP hS he (lv_sub hl [1, 2, 0] rfl)
        · have he := (if_neg h62_3).symm.trans he
          refine lv_aload_n hx hb dX10_keep_65 rfl (lv_at hl 0 rfl) ?_
          refine va_get (D := (dC, dI)) (ci := 10) (v := .ref (q 24)) (C := RX10) (T := TX10) (N := 45) hx hb hts hi10 hown hK.1 hP 0 rfl rfl 20 (by decide) hf54 (fun _ h9 => h9) rfl dX10_keep_66 ?_
          refine lv_iload_n hx hb dX10_keep_69 rfl (lv_at hl 2 rfl) ?_
          refine va_iald hx hb hK.1 hP 24 23 (f := st_52.2.1 23) (n := 100) (cA := k 23) rfl rfl (i := x2_52) (ob_X10_keep_70_8 st a1 n_52 st_52 x2_52 hok hi0_52 hi1_52 hi2_52 hi3_52 h53_1 h62_3) dX10_keep_70 ?_
          refine lv_iconst (v := (-1)) hx hb dX10_keep_71 (by decide) ?_
          refine lv_icmp_ne (tgt := 78) hx hb dX10_keep_72 (by decide) (fun h72_9 => ?_) (fun h72_9 => ?_)
          · have he := (if_neg h72_9).symm.trans he
            refine lv_aload_n hx hb dX10_keep_78 rfl (lv_at hl 0 rfl) ?_
            refine va_get (D := (dC, dI)) (ci := 10) (v := .ref (q 28)) (C := RX10) (T := TX10) (N := 45) hx hb hts hi10 hown hK.1 hP 0 rfl rfl 29 (by decide) hf82 (fun _ h9 => h9) rfl dX10_keep_79 ?_
            refine lv_aload_n hx hb dX10_keep_82 rfl (lv_at hl 0 rfl) ?_
            refine va_get (D := (dC, dI)) (ci := 10) (v := .ref (q 25)) (C := RX10) (T := TX10) (N := 45) hx hb hts hi10 hown hK.1 hP 0 rfl rfl 24 (by decide) hf66 (fun _ h9 => h9) rfl dX10_keep_83 ?_
            refine lv_iload_n hx hb dX10_keep_86 rfl (lv_at hl 2 rfl) ?_
            refine va_iald hx hb hK.1 hP 25 24 (f := st_52.2.1 24) (n := 100) (cA := k 24) rfl rfl (i := x2_52) (ob_X10_keep_87_10 st a1 n_52 st_52 x2_52 hok hi0_52 hi1_52 hi2_52 hi3_52 h53_1 h62_3 h72_9) dX10_keep_87 ?_
            refine lv_aload_n hx hb dX10_keep_88 rfl (lv_at hl 0 rfl) ?_
            refine va_get (D := (dC, dI)) (ci := 10) (v := .ref (q 27)) (C := RX10) (T := TX10) (N := 45) hx hb hts hi10 hown hK.1 hP 0 rfl rfl 27 (by decide) hf75 (fun _ h9 => h9) rfl dX10_keep_89 ?_
            refine lv_aload_n hx hb dX10_keep_92 rfl (lv_at hl 0 rfl) ?_
            refine va_get (D := (dC, dI)) (ci := 10) (v := .ref (q 25)) (C := RX10) (T := TX10) (N := 45) hx hb hts hi10 hown hK.1 hP 0 rfl rfl 24 (by decide) hf66 (fun _ h9 => h9) rfl dX10_keep_93 ?_
            refine lv_iload_n hx hb dX10_keep_96 rfl (lv_at hl 2 rfl) ?_
            refine va_iald hx hb hK.1 hP 25 24 (f := st_52.2.1 24) (n := 100) (cA := k 24) rfl rfl (i := x2_52) (ob_X10_keep_97_11 st a1 n_52 st_52 x2_52 hok hi0_52 hi1_52 hi2_52 hi3_52 h53_1 h62_3 h72_9) dX10_keep_97 ?_
            refine va_zald hx hb hK.1 hP 27 26 (f := st_52.2.1 26) (n := 100) (cA := k 26) rfl rfl (i := st_52.2.1 24 x2_52.toNatClampNeg) (ob_X10_keep_98_12 st a1 n_52 st_52 x2_52 hok hi0_52 hi1_52 hi2_52 hi3_52 h53_1 h62_3 h72_9) dX10_keep_98 ?_
            refine va_zast hx hb hK.1 hP (dM_of hq) hS 28 27 (f := st_52.2.1 27) (n := 100) (cA := k 27) rfl rfl (i := st_52.2.1 24 x2_52.toNatClampNeg) (x := st_52.2.1 26 (st_52.2.1 24 x2_52.toNatClampNeg).toNatClampNeg) (ob_X10_keep_99_13 st a1 n_52 st_52 x2_52 hok hi0_52 hi1_52 hi2_52 hi3_52 h53_1 h62_3 h72_9) dX10_keep_99 (fun H locs hP _ hS => ?_)
            have hP : va_P (dC, dI) vwCl (wM q k (sA st_52 27 ((st_52.2.1 24 x2_52.toNatClampNeg).toNatClampNeg) (vp_nar .boolean (st_52.2.1 26 (st_52.2.1 24 x2_52.toNatClampNeg).toNatClampNeg)))) H := hP
            obtain ⟨st1, e1⟩ : ∃ z, z = sA st_52 27 ((st_52.2.1 24 x2_52.toNatClampNeg).toNatClampNeg) (vp_nar .boolean (st_52.2.1 26 (st_52.2.1 24 x2_52.toNatClampNeg).toNatClampNeg)) := ⟨_, rfl⟩
            have r25 : st1.2.1 25 = st_52.2.1 25 := by rw [e1]; rfl
            have r26 : st1.2.1 26 = st_52.2.1 26 := by rw [e1]; rfl
            rw [← e1] at hP
            refine lv_aload_n hx hb dX10_keep_100 rfl (lv_at hl 0 rfl) ?_
            refine va_get (D := (dC, dI)) (ci := 10) (v := .ref (q 28)) (C := RX10) (T := TX10) (N := 45) hx hb hts hi10 hown hK.1 hP 0 rfl rfl 29 (by decide) hf82 (fun _ h9 => h9) rfl dX10_keep_101 ?_
            refine lv_aload_n hx hb dX10_keep_104 rfl (lv_at hl 0 rfl) ?_
            refine va_get (D := (dC, dI)) (ci := 10) (v := .ref (q 26)) (C := RX10) (T := TX10) (N := 45) hx hb hts hi10 hown hK.1 hP 0 rfl rfl 25 (by decide) hf69 (fun _ h9 => h9) rfl dX10_keep_105 ?_
            refine lv_iload_n hx hb dX10_keep_108 rfl (lv_at hl 2 rfl) ?_
            refine va_iald hx hb hK.1 hP 26 25 (f := st1.2.1 25) (n := 100) (cA := k 25) rfl rfl (i := x2_52) (ob_X10_keep_109_14 st a1 n_52 st_52 x2_52 hok hi0_52 hi1_52 hi2_52 hi3_52 h53_1 h62_3 h72_9) dX10_keep_109 ?_
            refine lv_aload_n hx hb dX10_keep_110 rfl (lv_at hl 0 rfl) ?_
            refine va_get (D := (dC, dI)) (ci := 10) (v := .ref (q 27)) (C := RX10) (T := TX10) (N := 45) hx hb hts hi10 hown hK.1 hP 0 rfl rfl 27 (by decide) hf75 (fun _ h9 => h9) rfl dX10_keep_111 ?_
            refine lv_aload_n hx hb dX10_keep_114 rfl (lv_at hl 0 rfl) ?_
            refine va_get (D := (dC, dI)) (ci := 10) (v := .ref (q 26)) (C := RX10) (T := TX10) (N := 45) hx hb hts hi10 hown hK.1 hP 0 rfl rfl 25 (by decide) hf69 (fun _ h9 => h9) rfl dX10_keep_115 ?_
            refine lv_iload_n hx hb dX10_keep_118 rfl (lv_at hl 2 rfl) ?_
            refine va_iald hx hb hK.1 hP 26 25 (f := st1.2.1 25) (n := 100) (cA := k 25) rfl rfl (i := x2_52) (ob_X10_keep_119_15 st a1 n_52 st_52 x2_52 hok hi0_52 hi1_52 hi2_52 hi3_52 h53_1 h62_3 h72_9) dX10_keep_119 ?_
            refine va_zald hx hb hK.1 hP 27 26 (f := st1.2.1 26) (n := 100) (cA := k 26) rfl rfl (i := st1.2.1 25 x2_52.toNatClampNeg) (by rw [r25]; exact ob_X10_keep_120_16 st a1 n_52 st_52 x2_52 hok hi0_52 hi1_52 hi2_52 hi3_52 h53_1 h62_3 h72_9) dX10_keep_120 ?_
            refine va_zast hx hb hK.1 hP (dM_of hq) hS 28 27 (f := st1.2.1 27) (n := 100) (cA := k 27) rfl rfl (i := st1.2.1 25 x2_52.toNatClampNeg) (x := st1.2.1 26 (st1.2.1 25 x2_52.toNatClampNeg).toNatClampNeg) (by rw [r25]; exact ob_X10_keep_121_17 st a1 n_52 st_52 x2_52 hok hi0_52 hi1_52 hi2_52 hi3_52 h53_1 h62_3 h72_9) dX10_keep_121 (fun H locs hP _ hS => ?_)
            have hP : va_P (dC, dI) vwCl (wM q k (sA st1 27 ((st1.2.1 25 x2_52.toNatClampNeg).toNatClampNeg) (vp_nar .boolean (st1.2.1 26 (st1.2.1 25 x2_52.toNatClampNeg).toNatClampNeg)))) H := hP
            rw [r25, r26, e1] at hP
            refine lv_iinc (v := x2_52 + (-1)) (lv' := [(2, .int (x2_52 + (-1))), (0, .ref (q 0)), (1, .int a1)]) hx hb dX10_keep_122 hl (k := 2) rfl rfl (by decide) rfl (fun ls hl => ?_)
            refine lv_goto (tgt := 52) hx hb dX10_keep_125 (by decide) ?_
            exact ih_52 (sA (sA st_52 27 ((st_52.2.1 24 x2_52.toNatClampNeg).toNatClampNeg) (vp_nar .boolean (st_52.2.1 26 (st_52.2.1 24 x2_52.toNatClampNeg).toNatClampNeg))) 27 ((st_52.2.1 25 x2_52.toNatClampNeg).toNatClampNeg) (vp_nar .boolean (st_52.2.1 26 (st_52.2.1 25 x2_52.toNatClampNeg).toNatClampNeg))) (x2_52 + (-1)) _ _ ls (ob_X10_keep_52_inv0_18 st a1 n_52 st_52 x2_52 hok hi0_52 hi1_52 hi2_52 hi3_52 h53_1 h62_3 h72_9) (ob_X10_keep_52_inv1_19 st a1 n_52 st_52 x2_52 hok hi0_52 hi1_52 hi2_52 hi3_52 h53_1 h62_3 h72_9) (ob_X10_keep_52_inv2_20 st a1 n_52 st_52 x2_52 hok hi0_52 hi1_52 hi2_52 hi3_52 h53_1 h62_3 h72_9) (ob_X10_keep_52_inv3_21 st a1 n_52 st_52 x2_52 hok hi0_52 hi1_52 hi2_52 hi3_52 h53_1 h62_3 h72_9) hP hS he (lv_sub hl [1, 2, 0] rfl)
          · have he := (if_pos h72_9).symm.trans he
            refine lv_goto (tgt := 122) hx hb dX10_keep_75 (by decide) ?_
            refine lv_iinc (v := x2_52 + (-1)) (lv' := [(2, .int (x2_52 + (-1))), (0, .ref (q 0)), (1, .int a1)]) hx hb dX10_keep_122 hl (k := 2) rfl rfl (by decide) rfl (fun ls hl => ?_)
            refine lv_goto (tgt := 52) hx hb dX10_keep_125 (by decide) ?_
            exact ih_52 st_52 (x2_52 + (-1)) _ _ ls (ob_X10_keep_52_inv0_22 st a1 n_52 st_52 x2_52 hok hi0_52 hi1_52 hi2_52 hi3_52 h53_1 h62_3 h72_9) (ob_X10_keep_52_inv1_23 st a1 n_52 st_52 x2_52 hok hi0_52 hi1_52 hi2_52 hi3_52 h53_1 h62_3 h72_9) (ob_X10_keep_52_inv2_24 st a1 n_52 st_52 x2_52 hok hi0_52 hi1_52 hi2_52 hi3_52 h53_1 h62_3 h72_9) (ob_X10_keep_52_inv3_25 st a1 n_52 st_52 x2_52 hok hi0_52 hi1_52 hi2_52 hi3_52 h53_1 h62_3 h72_9) hP hS he (lv_sub hl [1, 2, 0] rfl)
  refine lv_iconst (v := 0) hx hb dX10_keep_0 (by decide) ?_
  refine lv_istore_n (lv' := [(2, .int 0), (0, .ref (q 0)), (1, .int a1)]) hx hb dX10_keep_1 rfl hl (by decide) rfl (fun ls hl => ?_)
  have k_2 : ∀ (n_2 : Nat) (st_2 : St) (x2_2 : Int32) (H : Heap) (locs : List Loc) (ls : Array Slot), 0 ≤ x2_2.toInt → x2_2.toInt ≤ (st.1 7).toInt → (st.1 7).toInt < x2_2.toInt + n_2 → okM st_2 → (st_2.1 7).toInt = (st.1 7).toInt → va_P (dC, dI) vwCl (wM q k st_2) H → va_S (aM q) s.heap H locs → lp_X10_keep_2 st a1 n_2 st_2 x2_2 = res → lv_has ls 3 [(2, .int x2_2), (0, .ref (q 0)), (1, .int a1)] → W p l e (headSpec wsX10_keep ({ frames := 2, cells := 0, slots := 0, locals := 47 } : Room)).room s m ([.ref (q 0), .int a1] : List Value).toArray below meth c H locs 0 0 (MQ below (va_Qv (fun (_ : Unit) => True) (fun _ t => va_P (dC, dI) vwCl (wM q k res) t.heap) (aM q)) ([.ref (q 0), .int a1] : List Value).toArray s 0 0 (aM q)) (F0 m 2 ls []) := by
    intro n_2
    induction n_2 with
    | zero =>
      intro st_2 x2_2 H locs ls hi0_2 hi1_2 hi2_2 hi3_2 hi4_2
      exact (ob_X10_keep_2_zero st a1 st_2 x2_2 hok hi0_2 hi1_2 hi2_2 hi3_2 hi4_2).elim
    | succ n_2 ih_2 =>
      intro st_2 x2_2 H locs ls hi0_2 hi1_2 hi2_2 hi3_2 hi4_2 hP hS he hl
      rw [lp_X10_keep_2] at he
      refine lv_iload_n hx hb dX10_keep_2 rfl (lv_at hl 0 rfl) ?_
      refine lv_aload_n hx hb dX10_keep_3 rfl (lv_at hl 1 rfl) ?_
      refine va_get (D := (dC, dI)) (ci := 10) (v := .int (st_2.1 7)) (C := RX10) (T := TX10) (N := 45) hx hb hts hi10 hown hK.1 hP 0 rfl rfl 19 (by decide) hf157 (fun _ h9 => h9) rfl dX10_keep_4 ?_
      refine lv_icmp_ge (tgt := 45) hx hb dX10_keep_7 (by decide) (fun h7_26 => ?_) (fun h7_26 => ?_)
      · have he := (if_pos h7_26).symm.trans he
        refine lv_aload_n hx hb dX10_keep_45 rfl (lv_at hl 1 rfl) ?_
        refine va_get (D := (dC, dI)) (ci := 10) (v := .int (st_2.1 7)) (C := RX10) (T := TX10) (N := 45) hx hb hts hi10 hown hK.1 hP 0 rfl rfl 19 (by decide) hf157 (fun _ h9 => h9) rfl dX10_keep_46 ?_
        refine lv_iconst (v := 1) hx hb dX10_keep_49 (by decide) ?_
        refine lv_isub hx hb dX10_keep_50 ?_
        refine lv_istore_n (lv' := [(2, .int ((st_2.1 7) - 1)), (0, .ref (q 0)), (1, .int a1)]) hx hb dX10_keep_51 rfl hl (by decide) rfl (fun ls hl => ?_)
        exact k_52 ((st.1 7).toInt.toNat + 1) st_2 ((st_2.1 7) - 1) _ _ ls (ob_X10_keep_52_inv0_27 st a1 n_2 st_2 x2_2 hok hi0_2 hi1_2 hi2_2 hi3_2 hi4_2 h7_26) (ob_X10_keep_52_inv1_28 st a1 n_2 st_2 x2_2 hok hi0_2 hi1_2 hi2_2 hi3_2 hi4_2 h7_26) (ob_X10_keep_52_inv2_29 st a1 n_2 st_2 x2_2 hok hi0_2 hi1_2 hi2_2 hi3_2 hi4_2 h7_26) (ob_X10_keep_52_inv3_30 st a1 n_2 st_2 x2_2 hok hi0_2 hi1_2 hi2_2 hi3_2 hi4_2 h7_26) hP hS he (lv_sub hl [1, 2, 0] rfl)
      · have he := (if_neg h7_26).symm.trans he
        refine lv_aload_n hx hb dX10_keep_10 rfl (lv_at hl 1 rfl) ?_
        refine va_get (D := (dC, dI)) (ci := 10) (v := .ref (q 28)) (C := RX10) (T := TX10) (N := 45) hx hb hts hi10 hown hK.1 hP 0 rfl rfl 29 (by decide) hf82 (fun _ h9 => h9) rfl dX10_keep_11 ?_
        refine lv_iload_n hx hb dX10_keep_14 rfl (lv_at hl 0 rfl) ?_
        refine lv_aload_n hx hb dX10_keep_15 rfl (lv_at hl 1 rfl) ?_
        refine va_get (D := (dC, dI)) (ci := 10) (v := .ref (q 27)) (C := RX10) (T := TX10) (N := 45) hx hb hts hi10 hown hK.1 hP 0 rfl rfl 27 (by decide) hf75 (fun _ h9 => h9) rfl dX10_keep_16 ?_
        refine lv_iload_n hx hb dX10_keep_19 rfl (lv_at hl 0 rfl) ?_
        refine va_zald hx hb hK.1 hP 27 26 (f := st_2.2.1 26) (n := 100) (cA := k 26) rfl rfl (i := x2_2) (ob_X10_keep_20_31 st a1 n_2 st_2 x2_2 hok hi0_2 hi1_2 hi2_2 hi3_2 hi4_2 h7_26) dX10_keep_20 ?_
        refine lv_if_eq (tgt := 37) hx hb dX10_keep_21 (by decide) (fun h21_32 => ?_) (fun h21_32 => ?_)
        · have he := (if_pos h21_32).symm.trans he
          refine lv_iconst (v := 0) hx hb dX10_keep_37 (by decide) ?_
          refine va_zast hx hb hK.1 hP (dM_of hq) hS 28 27 (f := st_2.2.1 27) (n := 100) (cA := k 27) rfl rfl (i := x2_2) (x := 0) (ob_X10_keep_38_33 st a1 n_2 st_2 x2_2 hok hi0_2 hi1_2 hi2_2 hi3_2 hi4_2 h7_26 h21_32) dX10_keep_38 (fun H locs hP _ hS => ?_)
          have hP : va_P (dC, dI) vwCl (wM q k (sA st_2 27 x2_2.toNatClampNeg 0)) H := hP
          refine lv_iinc (v := x2_2 + 1) (lv' := [(2, .int (x2_2 + 1)), (0, .ref (q 0)), (1, .int a1)]) hx hb dX10_keep_39 hl (k := 0) rfl rfl (by decide) rfl (fun ls hl => ?_)
          refine lv_goto (tgt := 2) hx hb dX10_keep_42 (by decide) ?_
          exact ih_2 (sA st_2 27 x2_2.toNatClampNeg 0) (x2_2 + 1) _ _ ls (ob_X10_keep_2_inv0_34 st a1 n_2 st_2 x2_2 hok hi0_2 hi1_2 hi2_2 hi3_2 hi4_2 h7_26 h21_32) (ob_X10_keep_2_inv1_35 st a1 n_2 st_2 x2_2 hok hi0_2 hi1_2 hi2_2 hi3_2 hi4_2 h7_26 h21_32) (ob_X10_keep_2_inv2_36 st a1 n_2 st_2 x2_2 hok hi0_2 hi1_2 hi2_2 hi3_2 hi4_2 h7_26 h21_32) (ob_X10_keep_2_inv3_37 st a1 n_2 st_2 x2_2 hok hi0_2 hi1_2 hi2_2 hi3_2 hi4_2 h7_26 h21_32) (ob_X10_keep_2_inv4_38 st a1 n_2 st_2 x2_2 hok hi0_2 hi1_2 hi2_2 hi3_2 hi4_2 h7_26 h21_32) hP hS he (lv_sub hl [0, 1, 2] rfl)
        · have he := (if_neg h21_32).symm.trans he
          refine lv_aload_n hx hb dX10_keep_24 rfl (lv_at hl 1 rfl) ?_
          refine lv_iload_n hx hb dX10_keep_25 rfl (lv_at hl 0 rfl) ?_
          refine lv_iload_n hx hb dX10_keep_26 rfl (lv_at hl 2 rfl) ?_
          refine vp_callSi (va_Run.run (va_runV (As := [.int x2_2, .int a1]) (rest := [.int x2_2, .ref (q 28)]) ⟨hx, hb, hml, hown, hts⟩ (c_X10_isCovered l dC dI q k st_2 x2_2 a1 hi3_2 (ob_X10_keep_27_39 st a1 n_2 st_2 x2_2 hok hi0_2 hi1_2 hi2_2 hi3_2 hi4_2 h7_26 h21_32) _ rfl) (cwV 2 hts gX10_keep_X10_isCovered rfl rfl rfl (by decide +kernel) ⟨Nat.le_of_ble_eq_true rfl, Nat.le_of_ble_eq_true rfl⟩) ⟨fb_M, va_recv hK.1 hP (ci := 10) (q0 := 0) rfl rfl, fun U hU hW => ⟨rfl, by rw [hU]; exact hP, hK.warm hW⟩⟩ rfl rfl hl.1 rfl (lv_room (Nat.le_of_ble_eq_true rfl)) dX10_keep_27 ⟨Nat.le_of_ble_eq_true rfl, Nat.le_of_ble_eq_true rfl⟩)) (fun r9 e9 => ?_)
          subst e9
          refine lv_if_eq (tgt := 37) hx hb dX10_keep_30 (by decide) (fun h30_40 => ?_) (fun h30_40 => ?_)
          · have he := (if_pos h30_40).symm.trans he
            refine lv_iconst (v := 0) hx hb dX10_keep_37 (by decide) ?_
            refine va_zast hx hb hK.1 hP (dM_of hq) hS 28 27 (f := st_2.2.1 27) (n := 100) (cA := k 27) rfl rfl (i := x2_2) (x := 0) (ob_X10_keep_38_41 st a1 n_2 st_2 x2_2 hok hi0_2 hi1_2 hi2_2 hi3_2 hi4_2 h7_26 h21_32 h30_40) dX10_keep_38 (fun H locs hP _ hS => ?_)
            have hP : va_P (dC, dI) vwCl (wM q k (sA st_2 27 x2_2.toNatClampNeg 0)) H := hP
            refine lv_iinc (v := x2_2 + 1) (lv' := [(2, .int (x2_2 + 1)), (0, .ref (q 0)), (1, .int a1)]) hx hb dX10_keep_39 hl (k := 0) rfl rfl (by decide) rfl (fun ls hl => ?_)
            refine lv_goto (tgt := 2) hx hb dX10_keep_42 (by decide) ?_
            exact ih_2 (sA st_2 27 x2_2.toNatClampNeg 0) (x2_2 + 1) _ _ ls (ob_X10_keep_2_inv0_42 st a1 n_2 st_2 x2_2 hok hi0_2 hi1_2 hi2_2 hi3_2 hi4_2 h7_26 h21_32 h30_40) (ob_X10_keep_2_inv1_43 st a1 n_2 st_2 x2_2 hok hi0_2 hi1_2 hi2_2 hi3_2 hi4_2 h7_26 h21_32 h30_40) (ob_X10_keep_2_inv2_44 st a1 n_2 st_2 x2_2 hok hi0_2 hi1_2 hi2_2 hi3_2 hi4_2 h7_26 h21_32 h30_40) (ob_X10_keep_2_inv3_45 st a1 n_2 st_2 x2_2 hok hi0_2 hi1_2 hi2_2 hi3_2 hi4_2 h7_26 h21_32 h30_40) (ob_X10_keep_2_inv4_46 st a1 n_2 st_2 x2_2 hok hi0_2 hi1_2 hi2_2 hi3_2 hi4_2 h7_26 h21_32 h30_40) hP hS he (lv_sub hl [0, 1, 2] rfl)
          · have he := (if_neg h30_40).symm.trans he
            refine lv_iconst (v := 1) hx hb dX10_keep_33 (by decide) ?_
            refine lv_goto (tgt := 38) hx hb dX10_keep_34 (by decide) ?_
            refine va_zast hx hb hK.1 hP (dM_of hq) hS 28 27 (f := st_2.2.1 27) (n := 100) (cA := k 27) rfl rfl (i := x2_2) (x := 1) (ob_X10_keep_38_47 st a1 n_2 st_2 x2_2 hok hi0_2 hi1_2 hi2_2 hi3_2 hi4_2 h7_26 h21_32 h30_40) dX10_keep_38 (fun H locs hP _ hS => ?_)
            have hP : va_P (dC, dI) vwCl (wM q k (sA st_2 27 x2_2.toNatClampNeg 1)) H := hP
            refine lv_iinc (v := x2_2 + 1) (lv' := [(2, .int (x2_2 + 1)), (0, .ref (q 0)), (1, .int a1)]) hx hb dX10_keep_39 hl (k := 0) rfl rfl (by decide) rfl (fun ls hl => ?_)
            refine lv_goto (tgt := 2) hx hb dX10_keep_42 (by decide) ?_
            exact ih_2 (sA st_2 27 x2_2.toNatClampNeg 1) (x2_2 + 1) _ _ ls (ob_X10_keep_2_inv0_48 st a1 n_2 st_2 x2_2 hok hi0_2 hi1_2 hi2_2 hi3_2 hi4_2 h7_26 h21_32 h30_40) (ob_X10_keep_2_inv1_49 st a1 n_2 st_2 x2_2 hok hi0_2 hi1_2 hi2_2 hi3_2 hi4_2 h7_26 h21_32 h30_40) (ob_X10_keep_2_inv2_50 st a1 n_2 st_2 x2_2 hok hi0_2 hi1_2 hi2_2 hi3_2 hi4_2 h7_26 h21_32 h30_40) (ob_X10_keep_2_inv3_51 st a1 n_2 st_2 x2_2 hok hi0_2 hi1_2 hi2_2 hi3_2 hi4_2 h7_26 h21_32 h30_40) (ob_X10_keep_2_inv4_52 st a1 n_2 st_2 x2_2 hok hi0_2 hi1_2 hi2_2 hi3_2 hi4_2 h7_26 h21_32 h30_40) hP hS he (lv_sub hl [0, 1, 2] rfl)
  exact k_2 ((st.1 7).toInt.toNat + 1) st 0 _ _ ls (ob_X10_keep_2_inv0_53 st a1 hok) (ob_X10_keep_2_inv1_54 st a1 hok) (ob_X10_keep_2_inv2_55 st a1 hok) (ob_X10_keep_2_inv3_56 st a1 hok) (ob_X10_keep_2_inv4_57 st a1 hok) hP hS he (lv_sub hl [0, 1, 2] rfl)

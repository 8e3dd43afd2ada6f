set_option maxHeartbeats 8000000 in
set_option maxRecDepth 100000 in
/-- THE LAW'S LOOP: at its head, with t calls done -/
theorem law_loop {p : Program} {l : Launch} {e : Env} {s : State} {m : MethodId} {below : List Frame} {meth : Method} {c : Code} {b L : Nat} {xs : Nat → Int32} {dC : Nat → ClassId} {dI : Nat → Nat → Nat} {q q2 : Nat → Nat} {k k2 : Nat → ClassId} {o : Nat} {ko : ClassId} {R : St → St → Prop} (hR : RefAll R) (C0 : LCx p l s m c b L xs dC dI q q2 k k2 o ko) (hr : meth.sig.returnType = ret) (hlocks : meth.locks = false) (hL : L ≤ 2560) :
    ∀ (n t : Nat) (x4 : Int32) (sc sm : St) (f : Nat → Int64) (H : Heap) (locs : List Loc) (ls : Array Slot), 5 * t ≤ L → L < 5 * (t + n) → x4.toInt = 5 * t → R sc sm → LSx s dC dI q q2 k k2 o ko sc sm f H locs → lv_has ls 8 [(4, .int x4), (3, .ref o), (2, .ref (q2 0)), (1, .ref (q 0)), (0, .ref b)] →
      W p l e room_1 s m #[Value.ref b] below meth c H locs (79 + t) (5487 + 6 * t) (lw_Z below #[Value.ref b] s) (F0 m 23 ls []) := by
  have C1 := C0
  obtain ⟨hx, hb, hml, hown, hts, hX, hbl, hst, hKC, hKM, hKO, hTH, hNC, hq, hq2, ho, ho2, hqq, hqb, hqb2, hob⟩ := C0
  have hbA : ¬ (A0 s) b := Nat.not_le.mpr hbl
  intro n
  induction n with
  | zero => intro t x4 sc sm f H locs ls h1 h2; exact absurd h2 (by omega)
  | succ n ih =>
    intro t x4 sc sm f H locs ls ht hn hx4 hRel hW hl
    have hS := hW.2.2.2
    refine lv_iload hx hb dL_law_23 (lv_at hl 0 rfl) ?_
    refine lv_aload_n hx hb dL_law_25 rfl (lv_at hl 4 rfl) ?_
    refine va_slen hx hb hX hbl hbA hS dL_law_26 ?_
    refine lv_iconst (v := 5) hx hb dL_law_27 (by decide) ?_
    refine lv_isub hx hb dL_law_28 ?_
    have hLI : (Int32.ofNat L - 5).toInt = (L : Int) - 5 := by
      rw [Int32.toInt_sub, show (Int32.ofNat L).toInt = L from nI_toInt (by omega), show (5 : Int32).toInt = 5 from by decide]
      exact Int.bmod_eq_of_le (by omega) (by omega)
    refine lv_icmp_gt (tgt := 1284) hx hb dL_law_29 (by decide) (fun h9 => ?_) (fun h9 => ?_)
    · refine lv_iconst (v := 1) hx hb dL_law_1284 (by decide) ?_
      refine va_forget (fun q hq => hS.2.2 q hq) ?_
      refine W.widen (k := 1132) (n := 13853) (by omega) (by omega) ?_
      exact lw_ret hx hb hr hlocks dL_law_1285
    · rw [Int32.lt_iff_toInt_lt, hLI, hx4] at h9
      have ht5 : 5 * t + 5 ≤ L := by omega
      have v0 : vp_in x4 L := vp_in_iff.mpr (by rw [hx4]; omega)
      have kj : ∀ (sc sm : St) (f : Nat → Int64) (H : Heap) (locs : List Loc) (ls : Array Slot), R sc sm → LSx s dC dI q q2 k k2 o ko sc sm f H locs → lv_has ls 8 [(4, .int x4), (3, .ref o), (2, .ref (q2 0)), (1, .ref (q 0)), (0, .ref b)] → W p l e room_1 s m #[Value.ref b] below meth c H locs (79 + t + 1) (5487 + 6 * t + 6) (lw_Z below #[Value.ref b] s) (F0 m 1278 ls []) := by
        intro sc sm f H locs ls hRel hW hl
        refine lv_iinc (v := x4 + 5) (lv' := [(4, .int (x4 + 5)), (3, .ref o), (2, .ref (q2 0)), (1, .ref (q 0)), (0, .ref b)]) hx hb dL_law_1278 hl (k := 0) rfl rfl (by decide) rfl (fun ls hl => ?_)
        refine lv_goto (tgt := 23) hx hb dL_law_1281 (by decide) ?_
        refine W.cs (cells' := 79 + (t + 1)) (slots' := 5487 + 6 * (t + 1)) (by omega) (by omega) ?_
        exact ih (t + 1) (x4 + 5) sc sm f H locs ls (by omega) (by omega) (by have := inc_ge x4 5 (by omega) (by decide); rw [this]; omega) hRel hW hl
      refine lv_aload_n hx hb dL_law_32 rfl (lv_at hl 4 rfl) ?_
      refine lv_iload hx hb dL_law_33 (lv_at hl 0 rfl) ?_
      refine va_sld hx hb hX hbl hbA hS v0 dL_law_35 ?_
      refine lv_bipush (v := 31) hx hb dL_law_36 (by decide) ?_
      refine lv_iand hx hb dL_law_38 ?_
      refine lv_topi (fun v ev => ?_)
      by_cases h0 : v = 0
      · refine lv_tableIn (off := 89) (tgt := 128) hx hb dL_law_39 (by rw [h0]; decide) (by rw [h0]; decide) (by rw [h0]; rfl) (by decide) ?_
        exact law_case_0 hR C1 t ht5 hL x4 hx4 sc sm f H locs hRel hW ls hl kj
      by_cases h1 : v = 1
      · refine lv_tableIn (off := 145) (tgt := 184) hx hb dL_law_39 (by rw [h1]; decide) (by rw [h1]; decide) (by rw [h1]; rfl) (by decide) ?_
        exact law_case_1 hR C1 t ht5 hL x4 hx4 sc sm f H locs hRel hW ls hl kj
      by_cases h2 : v = 2
      · refine lv_tableIn (off := 201) (tgt := 240) hx hb dL_law_39 (by rw [h2]; decide) (by rw [h2]; decide) (by rw [h2]; rfl) (by decide) ?_
        exact law_case_2 hR C1 t ht5 hL x4 hx4 sc sm f H locs hRel hW ls hl kj
      by_cases h3 : v = 3
      · refine lv_tableIn (off := 309) (tgt := 348) hx hb dL_law_39 (by rw [h3]; decide) (by rw [h3]; decide) (by rw [h3]; rfl) (by decide) ?_
        exact law_case_3 hR C1 t ht5 hL x4 hx4 sc sm f H locs hRel hW ls hl kj
      by_cases h4 : v = 4
      · refine lv_tableIn (off := 401) (tgt := 440) hx hb dL_law_39 (by rw [h4]; decide) (by rw [h4]; decide) (by rw [h4]; rfl) (by decide) ?_
        exact law_case_4 hR C1 t ht5 hL x4 hx4 sc sm f H locs hRel hW ls hl kj
      by_cases h5 : v = 5
      · refine lv_tableIn (off := 481) (tgt := 520) hx hb dL_law_39 (by rw [h5]; decide) (by rw [h5]; decide) (by rw [h5]; rfl) (by decide) ?_
        exact law_case_5 hR C1 t ht5 hL x4 hx4 sc sm f H locs hRel hW ls hl kj
      by_cases h6 : v = 6
      · refine lv_tableIn (off := 573) (tgt := 612) hx hb dL_law_39 (by rw [h6]; decide) (by rw [h6]; decide) (by rw [h6]; rfl) (by decide) ?_
        exact law_case_6 hR C1 t ht5 hL x4 hx4 sc sm f H locs hRel hW ls hl kj
      by_cases h7 : v = 7
      · refine lv_tableIn (off := 653) (tgt := 692) hx hb dL_law_39 (by rw [h7]; decide) (by rw [h7]; decide) (by rw [h7]; rfl) (by decide) ?_
        exact law_case_7 hR C1 t ht5 hL x4 hx4 sc sm f H locs hRel hW ls hl kj
      by_cases h8 : v = 8
      · refine lv_tableIn (off := 733) (tgt := 772) hx hb dL_law_39 (by rw [h8]; decide) (by rw [h8]; decide) (by rw [h8]; rfl) (by decide) ?_
        exact law_case_8 hR C1 t ht5 hL x4 hx4 sc sm f H locs hRel hW ls hl kj
      by_cases h9 : v = 9
      · refine lv_tableIn (off := 813) (tgt := 852) hx hb dL_law_39 (by rw [h9]; decide) (by rw [h9]; decide) (by rw [h9]; rfl) (by decide) ?_
        exact law_case_9 hR C1 t ht5 hL x4 hx4 sc sm f H locs hRel hW ls hl kj
      by_cases h10 : v = 10
      · refine lv_tableIn (off := 861) (tgt := 900) hx hb dL_law_39 (by rw [h10]; decide) (by rw [h10]; decide) (by rw [h10]; rfl) (by decide) ?_
        exact law_case_10 hR C1 t ht5 hL x4 hx4 sc sm f H locs hRel hW ls hl kj
      by_cases h11 : v = 11
      · refine lv_tableIn (off := 940) (tgt := 979) hx hb dL_law_39 (by rw [h11]; decide) (by rw [h11]; decide) (by rw [h11]; rfl) (by decide) ?_
        exact law_case_11 hR C1 t ht5 hL x4 hx4 sc sm f H locs hRel hW ls hl kj
      by_cases h12 : v = 12
      · refine lv_tableIn (off := 953) (tgt := 992) hx hb dL_law_39 (by rw [h12]; decide) (by rw [h12]; decide) (by rw [h12]; rfl) (by decide) ?_
        exact law_case_12 hR C1 t ht5 hL x4 hx4 sc sm f H locs hRel hW ls hl kj
      by_cases h13 : v = 13
      · refine lv_tableIn (off := 1021) (tgt := 1060) hx hb dL_law_39 (by rw [h13]; decide) (by rw [h13]; decide) (by rw [h13]; rfl) (by decide) ?_
        exact law_case_13 hR C1 t ht5 hL x4 hx4 sc sm f H locs hRel hW ls hl kj
      by_cases h14 : v = 14
      · refine lv_tableIn (off := 1077) (tgt := 1116) hx hb dL_law_39 (by rw [h14]; decide) (by rw [h14]; decide) (by rw [h14]; rfl) (by decide) ?_
        exact law_case_14 hR C1 t ht5 hL x4 hx4 sc sm f H locs hRel hW ls hl kj
      by_cases h15 : v = 15
      · refine lv_tableIn (off := 1114) (tgt := 1153) hx hb dL_law_39 (by rw [h15]; decide) (by rw [h15]; decide) (by rw [h15]; rfl) (by decide) ?_
        exact law_case_15 hR C1 t ht5 hL x4 hx4 sc sm f H locs hRel hW ls hl kj
      by_cases h16 : v = 16
      · refine lv_tableIn (off := 1151) (tgt := 1190) hx hb dL_law_39 (by rw [h16]; decide) (by rw [h16]; decide) (by rw [h16]; rfl) (by decide) ?_
        exact law_case_16 hR C1 t ht5 hL x4 hx4 sc sm f H locs hRel hW ls hl kj
      by_cases h17 : v = 17
      · refine lv_tableIn (off := 1177) (tgt := 1216) hx hb dL_law_39 (by rw [h17]; decide) (by rw [h17]; decide) (by rw [h17]; rfl) (by decide) ?_
        exact law_case_17 hR C1 t ht5 hL x4 hx4 sc sm f H locs hRel hW ls hl kj
      by_cases h18 : v = 18
      · refine lv_tableIn (off := 1214) (tgt := 1253) hx hb dL_law_39 (by rw [h18]; decide) (by rw [h18]; decide) (by rw [h18]; rfl) (by decide) ?_
        exact law_case_18 hR C1 t ht5 hL x4 hx4 sc sm f H locs hRel hW ls hl kj
      refine lv_tableOut (tgt := 1278) hx hb dL_law_39 (by have z0 := lv_neT (a := 0) h0 rfl; have z1 := lv_neT (a := 1) h1 rfl; have z2 := lv_neT (a := 2) h2 rfl; have z3 := lv_neT (a := 3) h3 rfl; have z4 := lv_neT (a := 4) h4 rfl; have z5 := lv_neT (a := 5) h5 rfl; have z6 := lv_neT (a := 6) h6 rfl; have z7 := lv_neT (a := 7) h7 rfl; have z8 := lv_neT (a := 8) h8 rfl; have z9 := lv_neT (a := 9) h9 rfl; have z10 := lv_neT (a := 10) h10 rfl; have z11 := lv_neT (a := 11) h11 rfl; have z12 := lv_neT (a := 12) h12 rfl; have z13 := lv_neT (a := 13) h13 rfl; have z14 := lv_neT (a := 14) h14 rfl; have z15 := lv_neT (a := 15) h15 rfl; have z16 := lv_neT (a := 16) h16 rfl; have z17 := lv_neT (a := 17) h17 rfl; have z18 := lv_neT (a := 18) h18 rfl; omega) (by decide) ?_
      refine W.widen (k := 79 + t + 1) (n := 5487 + 6 * t + 6) (by omega) (by omega) ?_
      exact kj sc sm f H locs ls hRel hW hl

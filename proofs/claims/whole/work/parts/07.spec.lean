def sp_X9_isPerson (a0 : Int32) : Int32 :=
  (if a0 < 0 then 0 else (if 16 ≤ a0 then 0 else 1))
def sp_X9_isMinute (a0 : Int32) : Int32 :=
  (if a0 < 0 then 0 else (if 10000000 < a0 then 0 else 1))
def sp_X9_isDay (a0 : Int32) : Int32 :=
  (if a0 < 0 then 0 else (if 6944 < a0 then 0 else 1))
def sp_X9_isSpanOfDays (a0 : Int32) : Int32 :=
  (if a0 < 1 then 0 else (if 5000 < a0 then 0 else 1))
def sp_X9_dayOfMinute (a0 : Int32) : Int32 :=
  a0 / 1440
def sp_X9_isAmong (a0 : Int32) (a1 : Int32) : Int32 :=
  (if (a0 >>> (a1 &&& 31)) &&& 1 = 1 then 1 else 0)
def sp_X8_total (st : St) : Int32 :=
  st.1 0
def sp_X8_has (st : St) (a1 : Int32) : Int32 :=
  (if a1 < 0 then 0 else (if st.1 0 ≤ a1 then 0 else 1))
def sp_X8_add (st : St) (a1 : Int32) : Int32 × St :=
  (if 16 ≤ st.1 0 then ((-1), st) else (if (sp_X8_has st a1) = 0 then ((-1), st) else (((st.1 0) + 1) - 1, sI (sA st 0 ((st.1 0).toNatClampNeg) ((st.2.1 0 a1.toNatClampNeg) ||| (1 <<< ((st.1 0) &&& 31)))) 0 ((st.1 0) + 1))))
def sp_X8_isAtOrAbove (st : St) (a1 : Int32) (a2 : Int32) : Int32 :=
  (if (sp_X8_has st a1) = 0 then 0 else (if (sp_X8_has st a2) = 0 then 0 else (if ((st.2.1 0 a2.toNatClampNeg) >>> (a1 &&& 31)) &&& 1 = 1 then 1 else 0)))
def sp_X6_total (st : St) : Int32 :=
  st.1 1
def sp_X6_has (st : St) (a1 : Int32) : Int32 :=
  (if a1 < 0 then 0 else (if st.1 1 ≤ a1 then 0 else 1))
def sp_X6_add (st : St) (a1 : Int32) : Int32 × St :=
  (if st.1 1 < 8 then (((st.1 1) + 1) - 1, sI (sA st 1 ((st.1 1).toNatClampNeg) a1) 1 ((st.1 1) + 1)) else ((-1), st))
def sp_X6_retentionOf (st : St) (a1 : Int32) : Int32 :=
  (if (sp_X6_has st a1) = 0 then 0 else st.2.1 1 a1.toNatClampNeg)
def sp_X0_add (st : St) (a1 : Int32) (a2 : Int32) (a3 : Int32) (a4 : Int32) : Int32 × St :=
  (if st.1 2 < 100 then ((st.1 2) + 1, sI (sA (sA (sA (sA st 2 ((st.1 2).toNatClampNeg) a1) 3 ((st.1 2).toNatClampNeg) a2) 4 ((st.1 2).toNatClampNeg) a4) 5 ((st.1 2).toNatClampNeg) (vp_nar .boolean a3)) 2 ((st.1 2) + 1)) else ((-1), st))
def sp_X0_outranks (st : St) (a1 : Int32) (a2 : Int32) : Int32 :=
  (if st.2.1 3 a1.toNatClampNeg = st.2.1 3 a2.toNatClampNeg then (if st.2.1 4 a1.toNatClampNeg < st.2.1 4 a2.toNatClampNeg then 0 else 1) else (if st.2.1 3 a1.toNatClampNeg ≤ st.2.1 3 a2.toNatClampNeg then 0 else 1))
def lp_X0_saysYes_6 (st : St) (a1 : Int32) (a2 : Int32) (a3 : Int32) : Nat → Int32 → Int32 → Int32
  | 0, _, _ => 0
  | n_6 + 1, x6_6, x5_6 => (if st.1 2 ≤ x6_6 then (if x5_6 = (-1) then 0 else (if st.2.1 5 x5_6.toNatClampNeg = 0 then 0 else 1)) else (if st.2.1 2 x6_6.toNatClampNeg = a1 then (if a3 < st.2.1 4 x6_6.toNatClampNeg then (lp_X0_saysYes_6 st a1 a2 a3 n_6 (x6_6 + 1) x5_6) else (if (sp_X8_isAtOrAbove st (st.2.1 3 x6_6.toNatClampNeg) a2) = 0 then (lp_X0_saysYes_6 st a1 a2 a3 n_6 (x6_6 + 1) x5_6) else (if x5_6 = (-1) then (lp_X0_saysYes_6 st a1 a2 a3 n_6 (x6_6 + 1) x6_6) else (if (sp_X0_outranks st x6_6 x5_6) = 0 then (lp_X0_saysYes_6 st a1 a2 a3 n_6 (x6_6 + 1) x5_6) else (lp_X0_saysYes_6 st a1 a2 a3 n_6 (x6_6 + 1) x6_6))))) else (lp_X0_saysYes_6 st a1 a2 a3 n_6 (x6_6 + 1) x5_6)))
def sp_X0_saysYes (st : St) (a1 : Int32) (a2 : Int32) (a3 : Int32) : Int32 :=
  (lp_X0_saysYes_6 st a1 a2 a3 ((st.1 2).toInt.toNat + 1) 0 (-1))
def lp_X0_allSayYes_3 (st : St) (a1 : Int32) (a2 : Int32) (a3 : Int32) : Nat → Int32 → Int32
  | 0, _ => 0
  | n_3 + 1, x5_3 => (if 16 ≤ x5_3 then 1 else (if (sp_X9_isAmong a1 x5_3) = 0 then (lp_X0_allSayYes_3 st a1 a2 a3 n_3 (x5_3 + 1)) else (if (sp_X0_saysYes st x5_3 a2 a3) = 0 then 0 else (lp_X0_allSayYes_3 st a1 a2 a3 n_3 (x5_3 + 1)))))
def sp_X0_allSayYes (st : St) (a1 : Int32) (a2 : Int32) (a3 : Int32) : Int32 :=
  (lp_X0_allSayYes_3 st a1 a2 a3 (((16 : Int32)).toInt.toNat + 1) 0)
def sp_X1_add (st : St) (a1 : Int32) (a2 : Int32) (a3 : Int32) (a4 : Int32) : Int32 × St :=
  (if st.1 3 < 40 then ((st.1 3) + 1, sI (sA (sA (sA (sA st 6 ((st.1 3).toNatClampNeg) a1) 7 ((st.1 3).toNatClampNeg) a2) 8 ((st.1 3).toNatClampNeg) a3) 9 ((st.1 3).toNatClampNeg) a4) 3 ((st.1 3) + 1)) else ((-1), st))
def lp_X1_allow_3 (st : St) (a1 : Int32) (a2 : Int32) (a3 : Int32) : Nat → Int32 → Int32
  | 0, _ => 0
  | n_3 + 1, x5_3 => (if st.1 3 ≤ x5_3 then 0 else (if (sp_X9_isAmong a1 (st.2.1 6 x5_3.toNatClampNeg)) = 0 then (lp_X1_allow_3 st a1 a2 a3 n_3 (x5_3 + 1)) else (if a3 < st.2.1 8 x5_3.toNatClampNeg then (lp_X1_allow_3 st a1 a2 a3 n_3 (x5_3 + 1)) else (if st.2.1 9 x5_3.toNatClampNeg < a3 then (lp_X1_allow_3 st a1 a2 a3 n_3 (x5_3 + 1)) else (if (sp_X8_isAtOrAbove st (st.2.1 7 x5_3.toNatClampNeg) a2) = 0 then (lp_X1_allow_3 st a1 a2 a3 n_3 (x5_3 + 1)) else 1)))))
def sp_X1_allow (st : St) (a1 : Int32) (a2 : Int32) (a3 : Int32) : Int32 :=
  (lp_X1_allow_3 st a1 a2 a3 ((st.1 3).toInt.toNat + 1) 0)
def sp_X2_add (st : St) (a1 : Int32) (a2 : Int32) (a3 : Int32) : Int32 × St :=
  (if st.1 4 < 20 then ((st.1 4) + 1, sI (sA (sA (sA st 10 ((st.1 4).toNatClampNeg) a1) 11 ((st.1 4).toNatClampNeg) a2) 12 ((st.1 4).toNatClampNeg) a3) 4 ((st.1 4) + 1)) else ((-1), st))
def sp_X2_covers (st : St) (a1 : Int32) (a2 : Int32) (a3 : Int32) (a4 : Int32) : Int32 :=
  (if st.2.1 10 a1.toNatClampNeg = a2 then (if a4 < a3 then 0 else (if a3 + (st.2.1 12 a1.toNatClampNeg) ≤ a4 then 0 else 1)) else 0)
def lp_X2_allow_3 (st : St) (a1 : Int32) (a2 : Int32) (a3 : Int32) (a4 : Int32) : Nat → Int32 → Int32
  | 0, _ => 0
  | n_3 + 1, x5_3 => (if st.1 4 ≤ x5_3 then 0 else (if st.2.1 11 x5_3.toNatClampNeg = a2 then (if (sp_X2_covers st x5_3 a1 a3 a4) = 0 then (lp_X2_allow_3 st a1 a2 a3 a4 n_3 (x5_3 + 1)) else 1) else (lp_X2_allow_3 st a1 a2 a3 a4 n_3 (x5_3 + 1))))
def sp_X2_allow (st : St) (a1 : Int32) (a2 : Int32) (a3 : Int32) (a4 : Int32) : Int32 :=
  (lp_X2_allow_3 st a1 a2 a3 a4 ((st.1 4).toInt.toNat + 1) 0)
def lp_X2_cover_3 (st : St) (a1 : Int32) (a2 : Int32) (a3 : Int32) : Nat → Int32 → Int32
  | 0, _ => 0
  | n_3 + 1, x4_3 => (if st.1 4 ≤ x4_3 then 0 else (if (sp_X2_covers st x4_3 a1 a2 a3) = 0 then (lp_X2_cover_3 st a1 a2 a3 n_3 (x4_3 + 1)) else 1))
def sp_X2_cover (st : St) (a1 : Int32) (a2 : Int32) (a3 : Int32) : Int32 :=
  (lp_X2_cover_3 st a1 a2 a3 ((st.1 4).toInt.toNat + 1) 0)
def sp_X3_add (st : St) (a1 : Int32) (a2 : Int32) (a3 : Int32) : Int32 × St :=
  (if st.1 5 < 60 then ((st.1 5) + 1, sI (sA (sA (sA st 13 ((st.1 5).toNatClampNeg) a1) 14 ((st.1 5).toNatClampNeg) a2) 15 ((st.1 5).toNatClampNeg) a3) 5 ((st.1 5) + 1)) else ((-1), st))
def lp_X3_latestDay_5 (st : St) (a1 : Int32) (a2 : Int32) : Nat → Int32 → Int32 → Int32
  | 0, _, _ => 0
  | n_5 + 1, x4_5, x3_5 => (if st.1 5 ≤ x4_5 then x3_5 else (if (sp_X9_isAmong a1 (st.2.1 13 x4_5.toNatClampNeg)) = 0 then (lp_X3_latestDay_5 st a1 a2 n_5 (x4_5 + 1) x3_5) else (if st.2.1 14 x4_5.toNatClampNeg = a2 then (lp_X3_latestDay_5 st a1 a2 n_5 (x4_5 + 1) (if x3_5 < st.2.1 15 x4_5.toNatClampNeg then st.2.1 15 x4_5.toNatClampNeg else x3_5)) else (lp_X3_latestDay_5 st a1 a2 n_5 (x4_5 + 1) x3_5))))
def sp_X3_latestDay (st : St) (a1 : Int32) (a2 : Int32) : Int32 :=
  (lp_X3_latestDay_5 st a1 a2 ((st.1 5).toInt.toNat + 1) 0 (-1))
def sp_X4_total (st : St) : Int32 :=
  st.1 6
def sp_X4_has (st : St) (a1 : Int32) : Int32 :=
  (if a1 < 0 then 0 else (if st.1 6 ≤ a1 then 0 else 1))
def sp_X4_add (st : St) (a1 : Int32) (a2 : Int32) (a3 : Int32) : Int32 × St :=
  (if st.1 6 < 30 then (((st.1 6) + 1) - 1, sI (sA (sA (sA (sA st 16 ((st.1 6).toNatClampNeg) a1) 17 ((st.1 6).toNatClampNeg) a2) 18 ((st.1 6).toNatClampNeg) a3) 19 ((st.1 6).toNatClampNeg) 6945) 6 ((st.1 6) + 1)) else ((-1), st))
def sp_X4_firstDayOf (st : St) (a1 : Int32) : Int32 :=
  (if (sp_X4_has st a1) = 0 then 6945 else st.2.1 18 a1.toNatClampNeg)
def sp_X4_isLifted (st : St) (a1 : Int32) : Int32 :=
  (if (sp_X4_has st a1) = 0 then 0 else (if st.2.1 19 a1.toNatClampNeg = 6945 then 0 else 1))
def sp_X4_endOn (st : St) (a1 : Int32) (a2 : Int32) : St :=
  (if (sp_X4_has st a1) = 0 then st else sA st 19 a1.toNatClampNeg a2)
def sp_X4_runsOn (st : St) (a1 : Int32) (a2 : Int32) : Int32 :=
  (if a2 < st.2.1 18 a1.toNatClampNeg then 0 else (if st.2.1 19 a1.toNatClampNeg ≤ a2 then 0 else 1))
def sp_X4_isOfPersons (st : St) (a1 : Int32) (a2 : Int32) : Int32 :=
  (if (sp_X9_isPerson (st.2.1 16 a1.toNatClampNeg)) = 0 then 0 else (if (sp_X9_isAmong a2 (st.2.1 16 a1.toNatClampNeg)) = 0 then 0 else 1))
def sp_X4_covers (st : St) (a1 : Int32) (a2 : Int32) (a3 : Int32) (a4 : Int32) : Int32 :=
  (if (sp_X4_runsOn st a1 a4) = 0 then 0 else (if (sp_X4_isOfPersons st a1 a2) = 0 then (if st.2.1 16 a1.toNatClampNeg = 100 + a3 then 1 else 0) else 1))
def lp_X4_allow_3 (st : St) (a1 : Int32) (a2 : Int32) (a3 : Int32) (a4 : Int32) : Nat → Int32 → Int32
  | 0, _ => 0
  | n_3 + 1, x5_3 => (if st.1 6 ≤ x5_3 then 0 else (if st.2.1 17 x5_3.toNatClampNeg = a3 then (if (sp_X4_covers st x5_3 a1 a2 a4) = 0 then (lp_X4_allow_3 st a1 a2 a3 a4 n_3 (x5_3 + 1)) else 1) else (lp_X4_allow_3 st a1 a2 a3 a4 n_3 (x5_3 + 1))))
def sp_X4_allow (st : St) (a1 : Int32) (a2 : Int32) (a3 : Int32) (a4 : Int32) : Int32 :=
  (lp_X4_allow_3 st a1 a2 a3 a4 ((st.1 6).toInt.toNat + 1) 0)
def lp_X4_cover_3 (st : St) (a1 : Int32) (a2 : Int32) (a3 : Int32) : Nat → Int32 → Int32
  | 0, _ => 0
  | n_3 + 1, x4_3 => (if st.1 6 ≤ x4_3 then 0 else (if (sp_X4_covers st x4_3 a1 a2 a3) = 0 then (lp_X4_cover_3 st a1 a2 a3 n_3 (x4_3 + 1)) else 1))
def sp_X4_cover (st : St) (a1 : Int32) (a2 : Int32) (a3 : Int32) : Int32 :=
  (lp_X4_cover_3 st a1 a2 a3 ((st.1 6).toInt.toNat + 1) 0)
def lp_X4_coverPersons_2 (st : St) (a1 : Int32) (a2 : Int32) : Nat → Int32 → Int32
  | 0, _ => 0
  | n_2 + 1, x3_2 => (if st.1 6 ≤ x3_2 then 0 else (if (sp_X4_isOfPersons st x3_2 a1) = 0 then (lp_X4_coverPersons_2 st a1 a2 n_2 (x3_2 + 1)) else (if (sp_X4_runsOn st x3_2 a2) = 0 then (lp_X4_coverPersons_2 st a1 a2 n_2 (x3_2 + 1)) else 1)))
def sp_X4_coverPersons (st : St) (a1 : Int32) (a2 : Int32) : Int32 :=
  (lp_X4_coverPersons_2 st a1 a2 ((st.1 6).toInt.toNat + 1) 0)
def sp_X5_total (st : St) : Int32 :=
  st.1 7
def sp_X5_living (st : St) : Int32 :=
  st.1 10
def sp_X5_has (st : St) (a1 : Int32) : Int32 :=
  (if a1 < 0 then 0 else (if st.1 7 ≤ a1 then 0 else 1))
def sp_X5_lives (st : St) (a1 : Int32) : Int32 :=
  (if (sp_X5_has st a1) = 0 then 0 else (if st.2.1 26 a1.toNatClampNeg = 0 then 0 else 1))
def sp_X5_isPut (st : St) (a1 : Int32) : Int32 :=
  (if (sp_X5_has st a1) = 0 then 0 else (if st.2.1 23 a1.toNatClampNeg = (-1) then 1 else 0))
def sp_X5_isAbout (st : St) (a1 : Int32) (a2 : Int32) : Int32 :=
  (if (sp_X5_has st a1) = 0 then 0 else (if (sp_X9_isAmong (st.2.1 22 a1.toNatClampNeg) a2) = 0 then 0 else 1))
def sp_X5_isKept (st : St) (a1 : Int32) : Int32 :=
  (if (sp_X5_has st a1) = 0 then 0 else (if st.2.1 27 a1.toNatClampNeg = 0 then 0 else 1))
def sp_X5_kindOf (st : St) (a1 : Int32) : Int32 :=
  (if (sp_X5_lives st a1) = 0 then (-1) else st.2.1 20 a1.toNatClampNeg)
def sp_X5_dayOf (st : St) (a1 : Int32) : Int32 :=
  (if (sp_X5_lives st a1) = 0 then (-1) else st.2.1 21 a1.toNatClampNeg)
def sp_X5_personsOf (st : St) (a1 : Int32) : Int32 :=
  (if (sp_X5_lives st a1) = 0 then 0 else st.2.1 22 a1.toNatClampNeg)
def sp_X5_valueOf (st : St) (a1 : Int32) : Int64 :=
  (if (sp_X5_lives st a1) = 0 then 0 else st.2.2 a1.toNatClampNeg)
def sp_X5_derivedValue (st : St) (a1 : Int32) : Int64 :=
  (if st.2.1 23 a1.toNatClampNeg = 1 then (sp_X5_valueOf st (st.2.1 24 a1.toNatClampNeg)) + (sp_X5_valueOf st (st.2.1 25 a1.toNatClampNeg)) else (if st.2.1 23 a1.toNatClampNeg = 2 then (if lg_cmp (sp_X5_valueOf st (st.2.1 24 a1.toNatClampNeg)) (sp_X5_valueOf st (st.2.1 25 a1.toNatClampNeg)) ≤ 0 then 0 else 1) else (sp_X5_valueOf st (st.2.1 24 a1.toNatClampNeg))))
def sp_X5_hasLostInputs (st : St) (a1 : Int32) : Int32 :=
  (if st.2.1 23 a1.toNatClampNeg = 1 then (if (sp_X5_lives st (st.2.1 24 a1.toNatClampNeg)) = 0 then (if (sp_X5_lives st (st.2.1 25 a1.toNatClampNeg)) = 0 then 1 else 0) else 0) else (if (sp_X5_lives st (st.2.1 24 a1.toNatClampNeg)) = 0 then 1 else (if (sp_X5_lives st (st.2.1 25 a1.toNatClampNeg)) = 0 then 1 else 0)))
def sp_X5_begin (st : St) (a1 : Int32) (a2 : Int32) (a3 : Int32) : Int32 × St :=
  (if st.1 7 < 100 then (((st.1 7) + 1) - 1, sI (sI (sA (sA (sA (sA st 20 ((st.1 7).toNatClampNeg) a1) 21 ((st.1 7).toNatClampNeg) a2) 22 ((st.1 7).toNatClampNeg) a3) 26 ((st.1 7).toNatClampNeg) 1) 10 ((st.1 10) + 1)) 7 ((st.1 7) + 1)) else ((-1), st))
def sp_X5_keep (st : St) (a1 : Int32) : St :=
  (if (sp_X5_has st a1) = 0 then st else sA st 27 a1.toNatClampNeg 1)
def sp_X5_end (st : St) (a1 : Int32) : St :=
  (if (sp_X5_lives st a1) = 0 then st else sI (sL (sA st 26 a1.toNatClampNeg 0) a1.toNatClampNeg 0) 10 ((st.1 10) - 1))
def sp_X5_endUnlessKept (st : St) (a1 : Int32) : St :=
  (if (sp_X5_isKept st a1) = 0 then (sp_X5_end st a1) else st)
def sp_X5_keepWithInputs (st : St) (a1 : Int32) : St :=
  (if (sp_X5_has (sp_X5_keep st a1) a1) = 0 then (sp_X5_keep st a1) else (if (sp_X5_keep st a1).2.1 23 a1.toNatClampNeg = (-1) then (sp_X5_keep st a1) else (sp_X5_keep (sp_X5_keep (sp_X5_keep st a1) ((sp_X5_keep st a1).2.1 24 a1.toNatClampNeg)) ((sp_X5_keep (sp_X5_keep st a1) ((sp_X5_keep st a1).2.1 24 a1.toNatClampNeg)).2.1 25 a1.toNatClampNeg))))
def sp_X5_addPut (st : St) (a1 : Int32) (a2 : Int32) (a3 : Int32) (a4 : Int32) : Int32 × St :=
  (if (sp_X5_has ((sp_X5_begin st a2 a4 (1 <<< (a1 &&& 31))).2) ((sp_X5_begin st a2 a4 (1 <<< (a1 &&& 31))).1)) = 0 then ((sp_X5_begin st a2 a4 (1 <<< (a1 &&& 31))).1, (sp_X5_begin st a2 a4 (1 <<< (a1 &&& 31))).2) else ((sp_X5_begin st a2 a4 (1 <<< (a1 &&& 31))).1, sL (sA ((sp_X5_begin st a2 a4 (1 <<< (a1 &&& 31))).2) 23 (((sp_X5_begin st a2 a4 (1 <<< (a1 &&& 31))).1).toNatClampNeg) (-1)) (((sp_X5_begin st a2 a4 (1 <<< (a1 &&& 31))).1).toNatClampNeg) a3.toInt64))
def sp_X5_addDerived (st : St) (a1 : Int32) (a2 : Int32) (a3 : Int32) : Int32 × St :=
  (if (sp_X5_has ((sp_X5_begin st (sp_X5_kindOf st a2) (if (sp_X5_dayOf st a2) < (sp_X5_dayOf st a3) then (sp_X5_dayOf st a3) else (sp_X5_dayOf st a2)) ((sp_X5_personsOf st a2) ||| (sp_X5_personsOf st a3))).2) ((sp_X5_begin st (sp_X5_kindOf st a2) (if (sp_X5_dayOf st a2) < (sp_X5_dayOf st a3) then (sp_X5_dayOf st a3) else (sp_X5_dayOf st a2)) ((sp_X5_personsOf st a2) ||| (sp_X5_personsOf st a3))).1)) = 0 then ((sp_X5_begin st (sp_X5_kindOf st a2) (if (sp_X5_dayOf st a2) < (sp_X5_dayOf st a3) then (sp_X5_dayOf st a3) else (sp_X5_dayOf st a2)) ((sp_X5_personsOf st a2) ||| (sp_X5_personsOf st a3))).1, (sp_X5_begin st (sp_X5_kindOf st a2) (if (sp_X5_dayOf st a2) < (sp_X5_dayOf st a3) then (sp_X5_dayOf st a3) else (sp_X5_dayOf st a2)) ((sp_X5_personsOf st a2) ||| (sp_X5_personsOf st a3))).2) else ((sp_X5_begin st (sp_X5_kindOf st a2) (if (sp_X5_dayOf st a2) < (sp_X5_dayOf st a3) then (sp_X5_dayOf st a3) else (sp_X5_dayOf st a2)) ((sp_X5_personsOf st a2) ||| (sp_X5_personsOf st a3))).1, sL (sA (sA (sA ((sp_X5_begin st (sp_X5_kindOf st a2) (if (sp_X5_dayOf st a2) < (sp_X5_dayOf st a3) then (sp_X5_dayOf st a3) else (sp_X5_dayOf st a2)) ((sp_X5_personsOf st a2) ||| (sp_X5_personsOf st a3))).2) 23 (((sp_X5_begin st (sp_X5_kindOf st a2) (if (sp_X5_dayOf st a2) < (sp_X5_dayOf st a3) then (sp_X5_dayOf st a3) else (sp_X5_dayOf st a2)) ((sp_X5_personsOf st a2) ||| (sp_X5_personsOf st a3))).1).toNatClampNeg) a1) 24 (((sp_X5_begin st (sp_X5_kindOf st a2) (if (sp_X5_dayOf st a2) < (sp_X5_dayOf st a3) then (sp_X5_dayOf st a3) else (sp_X5_dayOf st a2)) ((sp_X5_personsOf st a2) ||| (sp_X5_personsOf st a3))).1).toNatClampNeg) a2) 25 (((sp_X5_begin st (sp_X5_kindOf st a2) (if (sp_X5_dayOf st a2) < (sp_X5_dayOf st a3) then (sp_X5_dayOf st a3) else (sp_X5_dayOf st a2)) ((sp_X5_personsOf st a2) ||| (sp_X5_personsOf st a3))).1).toNatClampNeg) a3) (((sp_X5_begin st (sp_X5_kindOf st a2) (if (sp_X5_dayOf st a2) < (sp_X5_dayOf st a3) then (sp_X5_dayOf st a3) else (sp_X5_dayOf st a2)) ((sp_X5_personsOf st a2) ||| (sp_X5_personsOf st a3))).1).toNatClampNeg) (sp_X5_derivedValue (sA (sA (sA ((sp_X5_begin st (sp_X5_kindOf st a2) (if (sp_X5_dayOf st a2) < (sp_X5_dayOf st a3) then (sp_X5_dayOf st a3) else (sp_X5_dayOf st a2)) ((sp_X5_personsOf st a2) ||| (sp_X5_personsOf st a3))).2) 23 (((sp_X5_begin st (sp_X5_kindOf st a2) (if (sp_X5_dayOf st a2) < (sp_X5_dayOf st a3) then (sp_X5_dayOf st a3) else (sp_X5_dayOf st a2)) ((sp_X5_personsOf st a2) ||| (sp_X5_personsOf st a3))).1).toNatClampNeg) a1) 24 (((sp_X5_begin st (sp_X5_kindOf st a2) (if (sp_X5_dayOf st a2) < (sp_X5_dayOf st a3) then (sp_X5_dayOf st a3) else (sp_X5_dayOf st a2)) ((sp_X5_personsOf st a2) ||| (sp_X5_personsOf st a3))).1).toNatClampNeg) a2) 25 (((sp_X5_begin st (sp_X5_kindOf st a2) (if (sp_X5_dayOf st a2) < (sp_X5_dayOf st a3) then (sp_X5_dayOf st a3) else (sp_X5_dayOf st a2)) ((sp_X5_personsOf st a2) ||| (sp_X5_personsOf st a3))).1).toNatClampNeg) a3) ((sp_X5_begin st (sp_X5_kindOf st a2) (if (sp_X5_dayOf st a2) < (sp_X5_dayOf st a3) then (sp_X5_dayOf st a3) else (sp_X5_dayOf st a2)) ((sp_X5_personsOf st a2) ||| (sp_X5_personsOf st a3))).1))))
def lp_X5_derivedFrom_4 (st : St) (a1 : Int32) : Nat → Int32 → Int32 → Int32
  | 0, _, _ => 0
  | n_4 + 1, x3_4, x2_4 => (if st.1 7 ≤ x3_4 then x2_4 else (if st.2.1 26 x3_4.toNatClampNeg = 0 then (lp_X5_derivedFrom_4 st a1 n_4 (x3_4 + 1) x2_4) else (if st.2.1 23 x3_4.toNatClampNeg = (-1) then (lp_X5_derivedFrom_4 st a1 n_4 (x3_4 + 1) x2_4) else (if st.2.1 24 x3_4.toNatClampNeg = a1 then (lp_X5_derivedFrom_4 st a1 n_4 (x3_4 + 1) (x2_4 + 1)) else (if st.2.1 25 x3_4.toNatClampNeg = a1 then (lp_X5_derivedFrom_4 st a1 n_4 (x3_4 + 1) (x2_4 + 1)) else (lp_X5_derivedFrom_4 st a1 n_4 (x3_4 + 1) x2_4))))))
def sp_X5_derivedFrom (st : St) (a1 : Int32) : Int32 :=
  (lp_X5_derivedFrom_4 st a1 ((st.1 7).toInt.toNat + 1) 0 0)
def lp_X5_unmarkAll_2 (st : St) : Nat → St → Int32 → St
  | 0, st_2, _ => st_2
  | n_2 + 1, st_2, x1_2 => (if st_2.1 7 ≤ x1_2 then st_2 else (lp_X5_unmarkAll_2 st n_2 (sA st_2 27 x1_2.toNatClampNeg 0) (x1_2 + 1)))
def sp_X5_unmarkAll (st : St) : St :=
  (lp_X5_unmarkAll_2 st ((st.1 7).toInt.toNat + 1) st 0)
def lp_X5_followInputs_2 (st : St) : Nat → St → Int32 → St
  | 0, st_2, _ => st_2
  | n_2 + 1, st_2, x1_2 => (if st_2.1 7 ≤ x1_2 then st_2 else (if st_2.2.1 26 x1_2.toNatClampNeg = 0 then (lp_X5_followInputs_2 st n_2 st_2 (x1_2 + 1)) else (if st_2.2.1 23 x1_2.toNatClampNeg = (-1) then (lp_X5_followInputs_2 st n_2 st_2 (x1_2 + 1)) else (if (sp_X5_hasLostInputs st_2 x1_2) = 0 then (lp_X5_followInputs_2 st n_2 (sL st_2 x1_2.toNatClampNeg (sp_X5_derivedValue st_2 x1_2)) (x1_2 + 1)) else (lp_X5_followInputs_2 st n_2 (sp_X5_end st_2 x1_2) (x1_2 + 1))))))
def sp_X5_followInputs (st : St) : St :=
  (lp_X5_followInputs_2 st ((st.1 7).toInt.toNat + 1) st 0)
def sp_X7_total (st : St) : Int32 :=
  st.1 8
def sp_X7_add (st : St) (a1 : Int32) (a2 : Int32) (a3 : Int32) (a4 : Int32) : St :=
  (if st.1 8 < 200 then sI (sA (sA (sA (sA st 29 ((st.1 8).toNatClampNeg) a1) 30 ((st.1 8).toNatClampNeg) a2) 31 ((st.1 8).toNatClampNeg) a3) 32 ((st.1 8).toNatClampNeg) a4) 8 ((st.1 8) + 1) else st)
def sp_X7_read (st : St) (a1 : Int32) (a2 : Int32) : Int32 :=
  (if a1 < 0 then (-1) else (if a1 < st.1 8 then (if a2 = 0 then st.2.1 29 a1.toNatClampNeg else (if a2 = 1 then st.2.1 30 a1.toNatClampNeg else (if a2 = 2 then st.2.1 31 a1.toNatClampNeg else (if a2 = 3 then st.2.1 32 a1.toNatClampNeg else (-1))))) else (-1)))
def sp_X9_isMarkedKind (st : St) (a1 : Int32) : Int32 :=
  (if a1 < 100 then 0 else (if (sp_X6_has st (a1 - 100)) = 0 then 0 else 1))
def sp_X9_isCovered (st : St) (a1 : Int32) (a2 : Int32) : Int32 :=
  (if (sp_X4_cover st (sp_X5_personsOf st a1) (sp_X5_kindOf st a1) a2) = 0 then (if (sp_X2_cover st (sp_X5_kindOf st a1) (sp_X5_dayOf st a1) a2) = 0 then 0 else 1) else 1)
def sp_X9_firstDueDay (st : St) (a1 : Int32) : Int32 :=
  (if (sp_X5_lives st a1) = 0 then (-1) else (if (sp_X5_isPut st a1) = 0 then (-1) else (if (sp_X3_latestDay st (sp_X5_personsOf st a1) (sp_X5_kindOf st a1)) = (-1) then (-1) else (if (sp_X5_dayOf st a1) ≤ (sp_X3_latestDay st (sp_X5_personsOf st a1) (sp_X5_kindOf st a1)) then (sp_X3_latestDay st (sp_X5_personsOf st a1) (sp_X5_kindOf st a1)) + (sp_X6_retentionOf st (sp_X5_kindOf st a1)) else (-1)))))
def sp_X9_groundOf (st : St) (a1 : Int32) (a2 : Int32) (a3 : Int32) : Int32 :=
  (if (sp_X4_coverPersons st (sp_X5_personsOf st a1) (sp_X9_dayOfMinute a3)) = 0 then (if (sp_X0_allSayYes st (sp_X5_personsOf st a1) a2 a3) = 0 then (if (sp_X1_allow st (sp_X5_personsOf st a1) a2 a3) = 0 then (if (sp_X2_allow st (sp_X5_kindOf st a1) a2 (sp_X5_dayOf st a1) (sp_X9_dayOfMinute a3)) = 0 then (if (sp_X4_allow st (sp_X5_personsOf st a1) (sp_X5_kindOf st a1) a2 (sp_X9_dayOfMinute a3)) = 0 then 0 else 4) else 3) else 2) else 1) else (if (sp_X4_allow st (sp_X5_personsOf st a1) (sp_X5_kindOf st a1) a2 (sp_X9_dayOfMinute a3)) = 0 then 0 else 4))
def lp_X9_markKept_17 (st : St) (a1 : Int32) : Nat → St → Int32 → St
  | 0, st_17, _ => st_17
  | n_17 + 1, st_17, x2_17 => (if x2_17 < 0 then st_17 else (if (sp_X5_lives st_17 x2_17) = 0 then (lp_X9_markKept_17 st a1 n_17 st_17 (x2_17 + (-1))) else (if (sp_X5_isKept st_17 x2_17) = 0 then (if (sp_X9_isCovered st_17 x2_17 a1) = 0 then (lp_X9_markKept_17 st a1 n_17 st_17 (x2_17 + (-1))) else (lp_X9_markKept_17 st a1 n_17 (sp_X5_keepWithInputs st_17 x2_17) (x2_17 + (-1)))) else (lp_X9_markKept_17 st a1 n_17 (sp_X5_keepWithInputs st_17 x2_17) (x2_17 + (-1))))))
def sp_X9_markKept (st : St) (a1 : Int32) : St :=
  (lp_X9_markKept_17 st a1 ((st.1 7).toInt.toNat + 1) (sp_X5_unmarkAll st) ((sp_X5_total (sp_X5_unmarkAll st)) - 1))
def sp_X9_why (st : St) : Int32 :=
  st.1 9
def lp_X9_held_14 (st : St) (a1 : Int32) (a2 : Int32) : Nat → Int32 → Int32 → Int32
  | 0, _, _ => 0
  | n_14 + 1, x4_14, x3_14 => (if (sp_X5_total st) ≤ x4_14 then (-1) else (if (sp_X5_lives st x4_14) = 0 then (lp_X9_held_14 st a1 a2 n_14 (x4_14 + 1) x3_14) else (if (sp_X5_isAbout st x4_14 a1) = 0 then (lp_X9_held_14 st a1 a2 n_14 (x4_14 + 1) x3_14) else (if x3_14 = a2 then x4_14 else (lp_X9_held_14 st a1 a2 n_14 (x4_14 + 1) (x3_14 + 1))))))
def sp_X9_held (st : St) (a1 : Int32) (a2 : Int32) : Int32 :=
  (if (sp_X9_isPerson a1) = 0 then (-1) else (lp_X9_held_14 st a1 a2 ((st.1 7).toInt.toNat + 1) 0 0))
def sp_X9_logged (st : St) (a1 : Int32) (a2 : Int32) : Int32 :=
  (sp_X7_read st a1 a2)
def sp_X9_peek (st : St) (a1 : Int32) : Int64 :=
  (sp_X5_valueOf st a1)
def sp_X9_look (st : St) (a1 : Int32) (a2 : Int32) : Int32 :=
  (if (sp_X5_lives st a1) = 0 then (-1) else (if a2 = 0 then (sp_X5_kindOf st a1) else (if a2 = 1 then (sp_X5_dayOf st a1) else (if a2 = 2 then (sp_X5_personsOf st a1) else (if a2 = 3 then (sp_X9_firstDueDay st a1) else (if a2 = 4 then (sp_X5_derivedFrom st a1) else (-1)))))))
def sp_X9_state (st : St) (a1 : Int32) : Int32 :=
  (if a1 = 0 then (sp_X8_total st) else (if a1 = 1 then (sp_X6_total st) else (if a1 = 2 then (sp_X5_total st) else (if a1 = 3 then (sp_X5_living st) else (if a1 = 4 then (sp_X7_total st) else (if a1 = 5 then (sp_X4_total st) else (-1)))))))
def sp_X9_purpose (st : St) (a1 : Int32) : Int32 × Int32 × St :=
  (if (sp_X8_has st a1) = 0 then (1, 0, st) else (if 0 ≤ (sp_X8_add st a1).1 then (0, (sp_X8_add st a1).1, (sp_X8_add st a1).2) else (2, 0, (sp_X8_add st a1).2)))
def sp_X9_kind (st : St) (a1 : Int32) : Int32 × Int32 × St :=
  (if (sp_X9_isSpanOfDays a1) = 0 then (1, 0, st) else (if 0 ≤ (sp_X6_add st a1).1 then (0, (sp_X6_add st a1).1, (sp_X6_add st a1).2) else (2, 0, (sp_X6_add st a1).2)))
def sp_X9_consent (st : St) (a1 : Int32) (a2 : Int32) (a3 : Int32) (a4 : Int32) : Int32 × Int32 × St :=
  (if (sp_X9_isPerson a1) = 0 then (1, 0, st) else (if (sp_X8_has st a2) = 0 then (1, 0, st) else (if (sp_X9_isMinute a4) = 0 then (1, 0, st) else (if 0 ≤ (sp_X0_add st a1 a2 a3 a4).1 then (0, (sp_X0_add st a1 a2 a3 a4).1, (sp_X0_add st a1 a2 a3 a4).2) else (2, 0, (sp_X0_add st a1 a2 a3 a4).2)))))
def sp_X9_contract (st : St) (a1 : Int32) (a2 : Int32) (a3 : Int32) (a4 : Int32) : Int32 × Int32 × St :=
  (if (sp_X9_isPerson a1) = 0 then (1, 0, st) else (if (sp_X8_has st a2) = 0 then (1, 0, st) else (if (sp_X9_isMinute a3) = 0 then (1, 0, st) else (if (sp_X9_isMinute a4) = 0 then (1, 0, st) else (if a3 ≤ a4 then (if 0 ≤ (sp_X1_add st a1 a2 a3 a4).1 then (0, (sp_X1_add st a1 a2 a3 a4).1, (sp_X1_add st a1 a2 a3 a4).2) else (2, 0, (sp_X1_add st a1 a2 a3 a4).2)) else (1, 0, st))))))
def sp_X9_duty (st : St) (a1 : Int32) (a2 : Int32) (a3 : Int32) : Int32 × Int32 × St :=
  (if (sp_X6_has st a1) = 0 then (1, 0, st) else (if (sp_X8_has st a2) = 0 then (1, 0, st) else (if (sp_X9_isSpanOfDays a3) = 0 then (1, 0, st) else (if 0 ≤ (sp_X2_add st a1 a2 a3).1 then (0, (sp_X2_add st a1 a2 a3).1, (sp_X2_add st a1 a2 a3).2) else (2, 0, (sp_X2_add st a1 a2 a3).2)))))
def sp_X9_put (st : St) (a1 : Int32) (a2 : Int32) (a3 : Int32) (a4 : Int32) : Int32 × Int32 × St :=
  (if (sp_X9_isPerson a1) = 0 then (1, 0, st) else (if (sp_X6_has st a2) = 0 then (1, 0, st) else (if (sp_X9_isDay a4) = 0 then (1, 0, st) else (if 0 ≤ (sp_X5_addPut st a1 a2 a3 a4).1 then (0, (sp_X5_addPut st a1 a2 a3 a4).1, (sp_X5_addPut st a1 a2 a3 a4).2) else (2, 0, (sp_X5_addPut st a1 a2 a3 a4).2)))))
def sp_X9_derive (st : St) (a1 : Int32) (a2 : Int32) (a3 : Int32) : Int32 × Int32 × St :=
  (if a1 = 0 then (if a1 = 0 then (if a1 = 0 then (if (sp_X5_lives st a2) = 0 then (3, 0, st) else (if (sp_X5_lives st a2) = 0 then (3, 0, st) else (if 0 ≤ (sp_X5_addDerived st a1 a2 a2).1 then (0, (sp_X5_addDerived st a1 a2 a2).1, (sp_X5_addDerived st a1 a2 a2).2) else (2, 0, (sp_X5_addDerived st a1 a2 a2).2)))) else (if (sp_X5_lives st a2) = 0 then (3, 0, st) else (if (sp_X5_lives st a3) = 0 then (3, 0, st) else (if 0 ≤ (sp_X5_addDerived st a1 a2 a3).1 then (0, (sp_X5_addDerived st a1 a2 a3).1, (sp_X5_addDerived st a1 a2 a3).2) else (2, 0, (sp_X5_addDerived st a1 a2 a3).2))))) else (if a2 = a3 then (1, 0, st) else (if a1 = 0 then (if (sp_X5_lives st a2) = 0 then (3, 0, st) else (if (sp_X5_lives st a2) = 0 then (3, 0, st) else (if 0 ≤ (sp_X5_addDerived st a1 a2 a2).1 then (0, (sp_X5_addDerived st a1 a2 a2).1, (sp_X5_addDerived st a1 a2 a2).2) else (2, 0, (sp_X5_addDerived st a1 a2 a2).2)))) else (if (sp_X5_lives st a2) = 0 then (3, 0, st) else (if (sp_X5_lives st a3) = 0 then (3, 0, st) else (if 0 ≤ (sp_X5_addDerived st a1 a2 a3).1 then (0, (sp_X5_addDerived st a1 a2 a3).1, (sp_X5_addDerived st a1 a2 a3).2) else (2, 0, (sp_X5_addDerived st a1 a2 a3).2))))))) else (if a1 = 1 then (if a1 = 0 then (if a1 = 0 then (if (sp_X5_lives st a2) = 0 then (3, 0, st) else (if (sp_X5_lives st a2) = 0 then (3, 0, st) else (if 0 ≤ (sp_X5_addDerived st a1 a2 a2).1 then (0, (sp_X5_addDerived st a1 a2 a2).1, (sp_X5_addDerived st a1 a2 a2).2) else (2, 0, (sp_X5_addDerived st a1 a2 a2).2)))) else (if (sp_X5_lives st a2) = 0 then (3, 0, st) else (if (sp_X5_lives st a3) = 0 then (3, 0, st) else (if 0 ≤ (sp_X5_addDerived st a1 a2 a3).1 then (0, (sp_X5_addDerived st a1 a2 a3).1, (sp_X5_addDerived st a1 a2 a3).2) else (2, 0, (sp_X5_addDerived st a1 a2 a3).2))))) else (if a2 = a3 then (1, 0, st) else (if a1 = 0 then (if (sp_X5_lives st a2) = 0 then (3, 0, st) else (if (sp_X5_lives st a2) = 0 then (3, 0, st) else (if 0 ≤ (sp_X5_addDerived st a1 a2 a2).1 then (0, (sp_X5_addDerived st a1 a2 a2).1, (sp_X5_addDerived st a1 a2 a2).2) else (2, 0, (sp_X5_addDerived st a1 a2 a2).2)))) else (if (sp_X5_lives st a2) = 0 then (3, 0, st) else (if (sp_X5_lives st a3) = 0 then (3, 0, st) else (if 0 ≤ (sp_X5_addDerived st a1 a2 a3).1 then (0, (sp_X5_addDerived st a1 a2 a3).1, (sp_X5_addDerived st a1 a2 a3).2) else (2, 0, (sp_X5_addDerived st a1 a2 a3).2))))))) else (if a1 = 2 then (if a1 = 0 then (if a1 = 0 then (if (sp_X5_lives st a2) = 0 then (3, 0, st) else (if (sp_X5_lives st a2) = 0 then (3, 0, st) else (if 0 ≤ (sp_X5_addDerived st a1 a2 a2).1 then (0, (sp_X5_addDerived st a1 a2 a2).1, (sp_X5_addDerived st a1 a2 a2).2) else (2, 0, (sp_X5_addDerived st a1 a2 a2).2)))) else (if (sp_X5_lives st a2) = 0 then (3, 0, st) else (if (sp_X5_lives st a3) = 0 then (3, 0, st) else (if 0 ≤ (sp_X5_addDerived st a1 a2 a3).1 then (0, (sp_X5_addDerived st a1 a2 a3).1, (sp_X5_addDerived st a1 a2 a3).2) else (2, 0, (sp_X5_addDerived st a1 a2 a3).2))))) else (if a2 = a3 then (1, 0, st) else (if a1 = 0 then (if (sp_X5_lives st a2) = 0 then (3, 0, st) else (if (sp_X5_lives st a2) = 0 then (3, 0, st) else (if 0 ≤ (sp_X5_addDerived st a1 a2 a2).1 then (0, (sp_X5_addDerived st a1 a2 a2).1, (sp_X5_addDerived st a1 a2 a2).2) else (2, 0, (sp_X5_addDerived st a1 a2 a2).2)))) else (if (sp_X5_lives st a2) = 0 then (3, 0, st) else (if (sp_X5_lives st a3) = 0 then (3, 0, st) else (if 0 ≤ (sp_X5_addDerived st a1 a2 a3).1 then (0, (sp_X5_addDerived st a1 a2 a3).1, (sp_X5_addDerived st a1 a2 a3).2) else (2, 0, (sp_X5_addDerived st a1 a2 a3).2))))))) else (1, 0, st))))
def sp_X9_event (st : St) (a1 : Int32) (a2 : Int32) (a3 : Int32) : Int32 × Int32 × St :=
  (if (sp_X9_isPerson a1) = 0 then (1, 0, st) else (if (sp_X6_has st a2) = 0 then (1, 0, st) else (if (sp_X9_isDay a3) = 0 then (1, 0, st) else (if 0 ≤ (sp_X3_add st a1 a2 a3).1 then (0, (sp_X3_add st a1 a2 a3).1, (sp_X3_add st a1 a2 a3).2) else (2, 0, (sp_X3_add st a1 a2 a3).2)))))
def sp_X9_hold (st : St) (a1 : Int32) (a2 : Int32) (a3 : Int32) : Int32 × Int32 × St :=
  (if (sp_X9_isPerson a1) = 0 then (if (sp_X9_isMarkedKind st a1) = 0 then (1, 0, st) else (if (sp_X8_has st a2) = 0 then (1, 0, st) else (if (sp_X9_isDay a3) = 0 then (1, 0, st) else (if 0 ≤ (sp_X4_add st a1 a2 a3).1 then (0, (sp_X4_add st a1 a2 a3).1, (sp_X4_add st a1 a2 a3).2) else (2, 0, (sp_X4_add st a1 a2 a3).2))))) else (if (sp_X8_has st a2) = 0 then (1, 0, st) else (if (sp_X9_isDay a3) = 0 then (1, 0, st) else (if 0 ≤ (sp_X4_add st a1 a2 a3).1 then (0, (sp_X4_add st a1 a2 a3).1, (sp_X4_add st a1 a2 a3).2) else (2, 0, (sp_X4_add st a1 a2 a3).2)))))
def sp_X9_lift (st : St) (a1 : Int32) (a2 : Int32) : Int32 × St :=
  (if (sp_X4_has st a1) = 0 then (1, st) else (if a2 < (sp_X4_firstDayOf st a1) then (1, st) else (if a2 ≤ 6944 then (if (sp_X4_isLifted st a1) = 0 then (0, (sp_X4_endOn st a1 a2)) else (2, st)) else (1, st))))
def sp_X9_use (st : St) (a1 : Int32) (a2 : Int32) (a3 : Int32) : Int32 × Int64 × St :=
  (if (sp_X8_has st a2) = 0 then (1, 0, st) else (if (sp_X9_isMinute a3) = 0 then (1, 0, st) else (if (sp_X5_lives st a1) = 0 then (3, 0, st) else (if (sp_X7_add (sI st 9 (sp_X9_groundOf st a1 a2 a3)) a1 a2 a3 (sp_X9_groundOf st a1 a2 a3)).1 9 = 0 then (2, 0, (sp_X7_add (sI st 9 (sp_X9_groundOf st a1 a2 a3)) a1 a2 a3 (sp_X9_groundOf st a1 a2 a3))) else (0, (sp_X5_valueOf (sp_X7_add (sI st 9 (sp_X9_groundOf st a1 a2 a3)) a1 a2 a3 (sp_X9_groundOf st a1 a2 a3)) a1), (sp_X7_add (sI st 9 (sp_X9_groundOf st a1 a2 a3)) a1 a2 a3 (sp_X9_groundOf st a1 a2 a3)))))))
def lp_X9_erase_43 (st : St) (a1 : Int32) (a2 : Int32) : Nat → St → Int32 → Int32 × Int32 × St
  | 0, st_43, _ => (0, 0, st_43)
  | n_43 + 1, st_43, x4_43 => (if (sp_X5_total st_43) ≤ x4_43 then (0, (sp_X5_living st) - (sp_X5_living (sp_X5_followInputs st_43)), (sp_X5_followInputs st_43)) else (if (sp_X5_isPut st_43 x4_43) = 0 then (lp_X9_erase_43 st a1 a2 n_43 st_43 (x4_43 + 1)) else (if (sp_X5_isAbout st_43 x4_43 a1) = 0 then (lp_X9_erase_43 st a1 a2 n_43 st_43 (x4_43 + 1)) else (lp_X9_erase_43 st a1 a2 n_43 (sp_X5_endUnlessKept st_43 x4_43) (x4_43 + 1)))))
def sp_X9_erase (st : St) (a1 : Int32) (a2 : Int32) : Int32 × Int32 × St :=
  (if (sp_X9_isPerson a1) = 0 then (1, 0, st) else (if (sp_X9_isMinute a2) = 0 then (1, 0, st) else (lp_X9_erase_43 st a1 a2 ((st.1 7).toInt.toNat + 1) (sp_X9_markKept st (sp_X9_dayOfMinute a2)) 0)))
def lp_X9_sweep_32 (st : St) (a1 : Int32) : Nat → St → Int32 → Int32 × Int32 × St
  | 0, st_32, _ => (0, 0, st_32)
  | n_32 + 1, st_32, x3_32 => (if (sp_X5_total st_32) ≤ x3_32 then (0, (sp_X5_living st) - (sp_X5_living (sp_X5_followInputs st_32)), (sp_X5_followInputs st_32)) else (if (sp_X9_firstDueDay st_32 x3_32) = (-1) then (lp_X9_sweep_32 st a1 n_32 st_32 (x3_32 + 1)) else (if a1 < (sp_X9_firstDueDay st_32 x3_32) then (lp_X9_sweep_32 st a1 n_32 st_32 (x3_32 + 1)) else (lp_X9_sweep_32 st a1 n_32 (sp_X5_endUnlessKept st_32 x3_32) (x3_32 + 1)))))
def sp_X9_sweep (st : St) (a1 : Int32) : Int32 × Int32 × St :=
  (if (sp_X9_isDay a1) = 0 then (1, 0, st) else (lp_X9_sweep_32 st a1 ((st.1 7).toInt.toNat + 1) (sp_X9_markKept st a1) 0))

def sp_X10_in (a0 : Int32) (a1 : Int32) (a2 : Int32) : Int32 :=
  (if a0 < a1 then 0 else (if a2 < a0 then 0 else 1))
def sp_X10_isPerson (a0 : Int32) : Int32 :=
  (sp_X10_in a0 0 15)
def sp_X10_isMinute (a0 : Int32) : Int32 :=
  (sp_X10_in a0 0 10000000)
def sp_X10_thrown (st : St) : Int32 :=
  st.1 10
def sp_X10_says (st : St) (a1 : Int32) : Int32 × St :=
  (if a1 = 0 then (1, sI st 10 a1) else (0, sI st 10 a1))
def sp_X10_isPurpose (st : St) (a1 : Int32) : Int32 :=
  (sp_X10_in a1 0 ((st.1 0) - 1))
def sp_X10_isKind (st : St) (a1 : Int32) : Int32 :=
  (sp_X10_in a1 0 ((st.1 1) - 1))
def sp_X10_purpose (st : St) (a1 : Int32) : Int32 × St :=
  (if (sp_X10_isPurpose st a1) = 0 then (0, sI st 10 1) else (if st.1 0 = 16 then (0, sI st 10 2) else (((st.1 0) + 1) - 1, sI (sA (sI st 10 0) 0 ((st.1 0).toNatClampNeg) a1) 0 ((st.1 0) + 1))))
def sp_X10_kind (st : St) (a1 : Int32) : Int32 × St :=
  (if (sp_X10_in a1 1 5000) = 0 then (0, sI st 10 1) else (if st.1 1 = 8 then (0, sI st 10 2) else (((st.1 1) + 1) - 1, sI (sA (sI st 10 0) 1 ((st.1 1).toNatClampNeg) a1) 1 ((st.1 1) + 1))))
def sp_X10_consent (st : St) (a1 : Int32) (a2 : Int32) (a3 : Int32) (a4 : Int32) : Int32 × St :=
  (if (sp_X10_isPerson a1) = 0 then (0, sI st 10 1) else (if (sp_X10_isPurpose st a2) = 0 then (0, sI st 10 1) else (if (sp_X10_isMinute a4) = 0 then (0, sI st 10 1) else (if st.1 2 = 100 then (0, sI st 10 2) else ((st.1 2) + 1, sI (sA (sA (sA (sA (sI st 10 0) 2 ((st.1 2).toNatClampNeg) a1) 3 ((st.1 2).toNatClampNeg) a2) 4 ((st.1 2).toNatClampNeg) a4) 5 ((st.1 2).toNatClampNeg) (vp_nar .boolean a3)) 2 ((st.1 2) + 1))))))
def sp_X10_contract (st : St) (a1 : Int32) (a2 : Int32) (a3 : Int32) (a4 : Int32) : Int32 × St :=
  (if (sp_X10_isPerson a1) = 0 then (0, sI st 10 1) else (if (sp_X10_isPurpose st a2) = 0 then (0, sI st 10 1) else (if (sp_X10_isMinute a3) = 0 then (0, sI st 10 1) else (if (sp_X10_isMinute a4) = 0 then (0, sI st 10 1) else (if a3 ≤ a4 then (if st.1 3 = 40 then (0, sI st 10 2) else ((st.1 3) + 1, sI (sA (sA (sA (sA (sI st 10 0) 6 ((st.1 3).toNatClampNeg) a1) 7 ((st.1 3).toNatClampNeg) a2) 8 ((st.1 3).toNatClampNeg) a3) 9 ((st.1 3).toNatClampNeg) a4) 3 ((st.1 3) + 1))) else (0, sI st 10 1))))))
def sp_X10_duty (st : St) (a1 : Int32) (a2 : Int32) (a3 : Int32) : Int32 × St :=
  (if (sp_X10_isKind st a1) = 0 then (0, sI st 10 1) else (if (sp_X10_isPurpose st a2) = 0 then (0, sI st 10 1) else (if (sp_X10_in a3 1 5000) = 0 then (0, sI st 10 1) else (if st.1 4 = 20 then (0, sI st 10 2) else ((st.1 4) + 1, sI (sA (sA (sA (sI st 10 0) 10 ((st.1 4).toNatClampNeg) a1) 11 ((st.1 4).toNatClampNeg) a2) 12 ((st.1 4).toNatClampNeg) a3) 4 ((st.1 4) + 1))))))
def sp_X10_add (st : St) (a1 : Int32) (a2 : Int32) (a3 : Int32) (a4 : Int32) : Int32 × St :=
  (((st.1 7) + 1) - 1, sI (sA (sA (sA (sA (sA st 23 ((st.1 7).toNatClampNeg) a1) 20 ((st.1 7).toNatClampNeg) a2) 21 ((st.1 7).toNatClampNeg) a3) 22 ((st.1 7).toNatClampNeg) a4) 26 ((st.1 7).toNatClampNeg) 1) 7 ((st.1 7) + 1))
def sp_X10_put (st : St) (a1 : Int32) (a2 : Int32) (a3 : Int32) (a4 : Int32) : Int32 × St :=
  (if (sp_X10_isPerson a1) = 0 then (0, sI st 10 1) else (if (sp_X10_isKind st a2) = 0 then (0, sI st 10 1) else (if (sp_X10_in a4 0 6944) = 0 then (0, sI st 10 1) else (if st.1 7 = 100 then (0, sI st 10 2) else ((sp_X10_add (sA (sI st 10 0) 28 ((st.1 7).toNatClampNeg) a3) (-1) a2 a4 (1 <<< (a1 &&& 31))).1, (sp_X10_add (sA (sI st 10 0) 28 ((st.1 7).toNatClampNeg) a3) (-1) a2 a4 (1 <<< (a1 &&& 31))).2)))))
def sp_X10_isLiving (st : St) (a1 : Int32) : Int32 :=
  (if (sp_X10_in a1 0 ((st.1 7) - 1)) = 0 then 0 else (if st.2.1 26 a1.toNatClampNeg = 0 then 0 else 1))
def sp_X10_derive (st : St) (a1 : Int32) (a2 : Int32) (a3 : Int32) : Int32 × St :=
  (if a1 = 0 then (if (sp_X10_in a1 0 2) = 0 then (0, sI st 10 2) else (if (sp_X10_isLiving st a2) = 0 then (0, sI st 10 1) else (if (sp_X10_isLiving st a2) = 0 then (0, sI st 10 1) else (if st.1 7 = 100 then (0, sI st 10 3) else (if st.2.1 21 a2.toNatClampNeg ≤ st.2.1 21 a2.toNatClampNeg then ((sp_X10_add (sA (sA (sI st 10 0) 24 ((st.1 7).toNatClampNeg) a2) 25 ((st.1 7).toNatClampNeg) a2) a1 (st.2.1 20 a2.toNatClampNeg) (st.2.1 21 a2.toNatClampNeg) ((st.2.1 22 a2.toNatClampNeg) ||| (st.2.1 22 a2.toNatClampNeg))).1, (sp_X10_add (sA (sA (sI st 10 0) 24 ((st.1 7).toNatClampNeg) a2) 25 ((st.1 7).toNatClampNeg) a2) a1 (st.2.1 20 a2.toNatClampNeg) (st.2.1 21 a2.toNatClampNeg) ((st.2.1 22 a2.toNatClampNeg) ||| (st.2.1 22 a2.toNatClampNeg))).2) else ((sp_X10_add (sA (sA (sI st 10 0) 24 ((st.1 7).toNatClampNeg) a2) 25 ((st.1 7).toNatClampNeg) a2) a1 (st.2.1 20 a2.toNatClampNeg) (st.2.1 21 a2.toNatClampNeg) ((st.2.1 22 a2.toNatClampNeg) ||| (st.2.1 22 a2.toNatClampNeg))).1, (sp_X10_add (sA (sA (sI st 10 0) 24 ((st.1 7).toNatClampNeg) a2) 25 ((st.1 7).toNatClampNeg) a2) a1 (st.2.1 20 a2.toNatClampNeg) (st.2.1 21 a2.toNatClampNeg) ((st.2.1 22 a2.toNatClampNeg) ||| (st.2.1 22 a2.toNatClampNeg))).2)))))) else (if (sp_X10_in a1 0 2) = 0 then (0, sI st 10 2) else (if a2 = a3 then (0, sI st 10 2) else (if (sp_X10_isLiving st a2) = 0 then (0, sI st 10 1) else (if (sp_X10_isLiving st a3) = 0 then (0, sI st 10 1) else (if st.1 7 = 100 then (0, sI st 10 3) else (if st.2.1 21 a2.toNatClampNeg ≤ st.2.1 21 a3.toNatClampNeg then ((sp_X10_add (sA (sA (sI st 10 0) 24 ((st.1 7).toNatClampNeg) a2) 25 ((st.1 7).toNatClampNeg) a3) a1 (st.2.1 20 a2.toNatClampNeg) (st.2.1 21 a3.toNatClampNeg) ((st.2.1 22 a2.toNatClampNeg) ||| (st.2.1 22 a3.toNatClampNeg))).1, (sp_X10_add (sA (sA (sI st 10 0) 24 ((st.1 7).toNatClampNeg) a2) 25 ((st.1 7).toNatClampNeg) a3) a1 (st.2.1 20 a2.toNatClampNeg) (st.2.1 21 a3.toNatClampNeg) ((st.2.1 22 a2.toNatClampNeg) ||| (st.2.1 22 a3.toNatClampNeg))).2) else ((sp_X10_add (sA (sA (sI st 10 0) 24 ((st.1 7).toNatClampNeg) a2) 25 ((st.1 7).toNatClampNeg) a3) a1 (st.2.1 20 a2.toNatClampNeg) (st.2.1 21 a2.toNatClampNeg) ((st.2.1 22 a2.toNatClampNeg) ||| (st.2.1 22 a3.toNatClampNeg))).1, (sp_X10_add (sA (sA (sI st 10 0) 24 ((st.1 7).toNatClampNeg) a2) 25 ((st.1 7).toNatClampNeg) a3) a1 (st.2.1 20 a2.toNatClampNeg) (st.2.1 21 a2.toNatClampNeg) ((st.2.1 22 a2.toNatClampNeg) ||| (st.2.1 22 a3.toNatClampNeg))).2))))))))
def sp_X10_event (st : St) (a1 : Int32) (a2 : Int32) (a3 : Int32) : Int32 × St :=
  (if (sp_X10_isPerson a1) = 0 then (0, sI st 10 1) else (if (sp_X10_isKind st a2) = 0 then (0, sI st 10 1) else (if (sp_X10_in a3 0 6944) = 0 then (0, sI st 10 1) else (if st.1 5 = 60 then (0, sI st 10 2) else ((st.1 5) + 1, sI (sA (sA (sA (sI st 10 0) 13 ((st.1 5).toNatClampNeg) a1) 14 ((st.1 5).toNatClampNeg) a2) 15 ((st.1 5).toNatClampNeg) a3) 5 ((st.1 5) + 1))))))
def sp_X10_hold (st : St) (a1 : Int32) (a2 : Int32) (a3 : Int32) : Int32 × St :=
  (if (sp_X10_isPerson a1) = 0 then (if a1 < 100 then (0, sI st 10 1) else (if (sp_X10_isKind st (a1 - 100)) = 0 then (0, sI st 10 1) else (if (sp_X10_isPurpose st a2) = 0 then (0, sI st 10 1) else (if (sp_X10_in a3 0 6944) = 0 then (0, sI st 10 1) else (if st.1 6 = 30 then (0, sI st 10 2) else (((st.1 6) + 1) - 1, sI (sA (sA (sA (sA (sI st 10 0) 16 ((st.1 6).toNatClampNeg) a1) 17 ((st.1 6).toNatClampNeg) a2) 18 ((st.1 6).toNatClampNeg) a3) 19 ((st.1 6).toNatClampNeg) (-1)) 6 ((st.1 6) + 1))))))) else (if (sp_X10_isPurpose st a2) = 0 then (0, sI st 10 1) else (if (sp_X10_in a3 0 6944) = 0 then (0, sI st 10 1) else (if st.1 6 = 30 then (0, sI st 10 2) else (((st.1 6) + 1) - 1, sI (sA (sA (sA (sA (sI st 10 0) 16 ((st.1 6).toNatClampNeg) a1) 17 ((st.1 6).toNatClampNeg) a2) 18 ((st.1 6).toNatClampNeg) a3) 19 ((st.1 6).toNatClampNeg) (-1)) 6 ((st.1 6) + 1))))))
def sp_X10_lift (st : St) (a1 : Int32) (a2 : Int32) : St :=
  (if (sp_X10_in a1 0 ((st.1 6) - 1)) = 0 then sI st 10 1 else (if 6944 < a2 then sI st 10 1 else (if (sp_X10_in a1 0 29) = 0 then (if a2 < st.2.1 18 (0 : Int32).toNatClampNeg then sI st 10 1 else (if st.2.1 19 a1.toNatClampNeg < 0 then sA (sI st 10 0) 19 a1.toNatClampNeg a2 else sI st 10 2)) else (if a2 < st.2.1 18 a1.toNatClampNeg then sI st 10 1 else (if st.2.1 19 a1.toNatClampNeg < 0 then sA (sI st 10 0) 19 a1.toNatClampNeg a2 else sI st 10 2)))))
def sp_X10_holdCovers (st : St) (a1 : Int32) (a2 : Int32) (a3 : Int32) : Int32 :=
  (if 100 ≤ st.2.1 16 a1.toNatClampNeg then (if st.2.1 20 a2.toNatClampNeg = (st.2.1 16 a1.toNatClampNeg) - 100 then (if a3 < st.2.1 18 a1.toNatClampNeg then 0 else (if st.2.1 19 a1.toNatClampNeg < 0 then 1 else (if st.2.1 19 a1.toNatClampNeg ≤ a3 then 0 else 1))) else 0) else (if ((st.2.1 22 a2.toNatClampNeg) >>> ((st.2.1 16 a1.toNatClampNeg) &&& 31)) &&& 1 = 1 then (if a3 < st.2.1 18 a1.toNatClampNeg then 0 else (if st.2.1 19 a1.toNatClampNeg < 0 then 1 else (if st.2.1 19 a1.toNatClampNeg ≤ a3 then 0 else 1))) else 0))
def sp_X10_dutyCovers (st : St) (a1 : Int32) (a2 : Int32) (a3 : Int32) : Int32 :=
  (if st.2.1 10 a1.toNatClampNeg = st.2.1 20 a2.toNatClampNeg then (if a3 < st.2.1 21 a2.toNatClampNeg then 0 else (if (st.2.1 21 a2.toNatClampNeg) + (st.2.1 12 a1.toNatClampNeg) ≤ a3 then 0 else 1)) else 0)
def lp_X10_isAtOrAbove_2 (st : St) (a1 : Int32) (a2 : Int32) : Nat → Int32 → Int32
  | 0, _ => 0
  | n_2 + 1, x3_2 => (if x3_2 < 0 then (if x3_2 = a1 then 1 else 0) else (if x3_2 = a1 then (if x3_2 = a1 then 1 else 0) else (lp_X10_isAtOrAbove_2 st a1 a2 n_2 (st.2.1 0 x3_2.toNatClampNeg))))
def sp_X10_isAtOrAbove (st : St) (a1 : Int32) (a2 : Int32) : Int32 :=
  (lp_X10_isAtOrAbove_2 st a1 a2 18 a2)
def lp_X10_saysYes_14 (st : St) (a1 : Int32) (a2 : Int32) (a3 : Int32) (x4_3 : Int32) (K_3 : Int32 → Int32) : Nat → Int32 → Int32 → Int32
  | 0, _, _ => 0
  | n_14 + 1, x6_14, x5_14 => (if st.1 2 ≤ x6_14 then (if x5_14 < 0 then (K_3 (st.2.1 0 x4_3.toNatClampNeg)) else st.2.1 5 x5_14.toNatClampNeg) else (if st.2.1 2 x6_14.toNatClampNeg = a1 then (if st.2.1 3 x6_14.toNatClampNeg = x4_3 then (if a3 < st.2.1 4 x6_14.toNatClampNeg then (lp_X10_saysYes_14 st a1 a2 a3 x4_3 K_3 n_14 (x6_14 + 1) x5_14) else (if x5_14 < 0 then (lp_X10_saysYes_14 st a1 a2 a3 x4_3 K_3 n_14 (x6_14 + 1) x6_14) else (if st.2.1 4 x6_14.toNatClampNeg < st.2.1 4 x5_14.toNatClampNeg then (lp_X10_saysYes_14 st a1 a2 a3 x4_3 K_3 n_14 (x6_14 + 1) x5_14) else (lp_X10_saysYes_14 st a1 a2 a3 x4_3 K_3 n_14 (x6_14 + 1) x6_14)))) else (lp_X10_saysYes_14 st a1 a2 a3 x4_3 K_3 n_14 (x6_14 + 1) x5_14)) else (lp_X10_saysYes_14 st a1 a2 a3 x4_3 K_3 n_14 (x6_14 + 1) x5_14)))
def lp_X10_saysYes_3 (st : St) (a1 : Int32) (a2 : Int32) (a3 : Int32) : Nat → Int32 → Int32
  | 0, _ => 0
  | n_3 + 1, x4_3 => (if x4_3 < 0 then 0 else (lp_X10_saysYes_14 st a1 a2 a3 x4_3 (lp_X10_saysYes_3 st a1 a2 a3 n_3) ((st.1 2).toInt.toNat + 1) 0 (-1)))
def sp_X10_saysYes (st : St) (a1 : Int32) (a2 : Int32) (a3 : Int32) : Int32 :=
  (lp_X10_saysYes_3 st a1 a2 a3 18 a2)
def lp_X10_allSayYes_3 (st : St) (a1 : Int32) (a2 : Int32) (a3 : Int32) : Nat → Int32 → Int32
  | 0, _ => 0
  | n_3 + 1, x4_3 => (if 16 ≤ x4_3 then 1 else (if ((st.2.1 22 a1.toNatClampNeg) >>> (x4_3 &&& 31)) &&& 1 = 1 then (if (sp_X10_saysYes st x4_3 a2 a3) = 0 then 0 else (lp_X10_allSayYes_3 st a1 a2 a3 n_3 (x4_3 + 1))) else (lp_X10_allSayYes_3 st a1 a2 a3 n_3 (x4_3 + 1))))
def sp_X10_allSayYes (st : St) (a1 : Int32) (a2 : Int32) (a3 : Int32) : Int32 :=
  (lp_X10_allSayYes_3 st a1 a2 a3 (((16 : Int32)).toInt.toNat + 1) 0)
def lp_X10_hasContract_3 (st : St) (a1 : Int32) (a2 : Int32) (a3 : Int32) : Nat → Int32 → Int32
  | 0, _ => 0
  | n_3 + 1, x4_3 => (if st.1 3 ≤ x4_3 then 0 else (if ((st.2.1 22 a1.toNatClampNeg) >>> ((st.2.1 6 x4_3.toNatClampNeg) &&& 31)) &&& 1 = 1 then (if (sp_X10_isAtOrAbove st (st.2.1 7 x4_3.toNatClampNeg) a2) = 0 then (lp_X10_hasContract_3 st a1 a2 a3 n_3 (x4_3 + 1)) else (if a3 < st.2.1 8 x4_3.toNatClampNeg then (lp_X10_hasContract_3 st a1 a2 a3 n_3 (x4_3 + 1)) else (if st.2.1 9 x4_3.toNatClampNeg < a3 then (lp_X10_hasContract_3 st a1 a2 a3 n_3 (x4_3 + 1)) else 1))) else (lp_X10_hasContract_3 st a1 a2 a3 n_3 (x4_3 + 1))))
def sp_X10_hasContract (st : St) (a1 : Int32) (a2 : Int32) (a3 : Int32) : Int32 :=
  (lp_X10_hasContract_3 st a1 a2 a3 ((st.1 3).toInt.toNat + 1) 0)
def lp_X10_hasDuty_3 (st : St) (a1 : Int32) (a2 : Int32) (a3 : Int32) : Nat → Int32 → Int32
  | 0, _ => 0
  | n_3 + 1, x4_3 => (if st.1 4 ≤ x4_3 then 0 else (if st.2.1 11 x4_3.toNatClampNeg = a2 then (if (sp_X10_dutyCovers st x4_3 a1 a3) = 0 then (lp_X10_hasDuty_3 st a1 a2 a3 n_3 (x4_3 + 1)) else 1) else (lp_X10_hasDuty_3 st a1 a2 a3 n_3 (x4_3 + 1))))
def sp_X10_hasDuty (st : St) (a1 : Int32) (a2 : Int32) (a3 : Int32) : Int32 :=
  (lp_X10_hasDuty_3 st a1 a2 a3 ((st.1 4).toInt.toNat + 1) 0)
def lp_X10_groundOf_16 (st : St) (a1 : Int32) (a2 : Int32) (a3 : Int32) : Nat → Int32 → Int32 → Int32 → Int32
  | 0, _, _, _ => 0
  | n_16 + 1, x7_16, x5_16, x6_16 => (if st.1 6 ≤ x7_16 then (if x5_16 = 0 then (if (sp_X10_allSayYes st a1 a2 a3) = 0 then (if x5_16 = 0 then (if (sp_X10_hasContract st a1 a2 a3) = 0 then (if x5_16 = 0 then (if (sp_X10_hasDuty st a1 a2 (a3 / 1440)) = 0 then (if x6_16 = 0 then 0 else 4) else 3) else (if x6_16 = 0 then 0 else 4)) else 2) else (if x5_16 = 0 then (if (sp_X10_hasDuty st a1 a2 (a3 / 1440)) = 0 then (if x6_16 = 0 then 0 else 4) else 3) else (if x6_16 = 0 then 0 else 4))) else 1) else (if x5_16 = 0 then (if (sp_X10_hasContract st a1 a2 a3) = 0 then (if x5_16 = 0 then (if (sp_X10_hasDuty st a1 a2 (a3 / 1440)) = 0 then (if x6_16 = 0 then 0 else 4) else 3) else (if x6_16 = 0 then 0 else 4)) else 2) else (if x5_16 = 0 then (if (sp_X10_hasDuty st a1 a2 (a3 / 1440)) = 0 then (if x6_16 = 0 then 0 else 4) else 3) else (if x6_16 = 0 then 0 else 4)))) else (if (sp_X10_holdCovers st x7_16 a1 (a3 / 1440)) = 0 then (lp_X10_groundOf_16 st a1 a2 a3 n_16 (x7_16 + 1) x5_16 x6_16) else (if x5_16 = 0 then (if 100 ≤ st.2.1 16 x7_16.toNatClampNeg then (if x6_16 = 0 then (if st.2.1 17 x7_16.toNatClampNeg = a2 then (lp_X10_groundOf_16 st a1 a2 a3 n_16 (x7_16 + 1) 0 1) else (lp_X10_groundOf_16 st a1 a2 a3 n_16 (x7_16 + 1) 0 0)) else (lp_X10_groundOf_16 st a1 a2 a3 n_16 (x7_16 + 1) 0 1)) else (if x6_16 = 0 then (if st.2.1 17 x7_16.toNatClampNeg = a2 then (lp_X10_groundOf_16 st a1 a2 a3 n_16 (x7_16 + 1) 1 1) else (lp_X10_groundOf_16 st a1 a2 a3 n_16 (x7_16 + 1) 1 0)) else (lp_X10_groundOf_16 st a1 a2 a3 n_16 (x7_16 + 1) 1 1))) else (if x6_16 = 0 then (if st.2.1 17 x7_16.toNatClampNeg = a2 then (lp_X10_groundOf_16 st a1 a2 a3 n_16 (x7_16 + 1) 1 1) else (lp_X10_groundOf_16 st a1 a2 a3 n_16 (x7_16 + 1) 1 0)) else (lp_X10_groundOf_16 st a1 a2 a3 n_16 (x7_16 + 1) 1 1)))))
def sp_X10_groundOf (st : St) (a1 : Int32) (a2 : Int32) (a3 : Int32) : Int32 :=
  (lp_X10_groundOf_16 st a1 a2 a3 ((st.1 6).toInt.toNat + 1) 0 0 0)
def jn_X10_reckon_171 (st : St) (st_2 : St) (x1_2 : Int32) (v0_49 : Int64) (v0_89 : Int64) (K_2 : St → Int32 → St) (v0_171 : Int64) : St :=
  (K_2 (sL st_2 x1_2.toNatClampNeg v0_171) (x1_2 + 1))
def jn_X10_reckon_89 (st : St) (st_2 : St) (x1_2 : Int32) (v0_49 : Int64) (K_2 : St → Int32 → St) (v0_89 : Int64) : St :=
  (if st_2.2.1 26 x1_2.toNatClampNeg = 0 then (jn_X10_reckon_171 st st_2 x1_2 v0_49 v0_89 K_2 0) else (if st_2.2.1 23 x1_2.toNatClampNeg = (-1) then (jn_X10_reckon_171 st st_2 x1_2 v0_49 v0_89 K_2 ((st_2.2.1 28 x1_2.toNatClampNeg).toInt64)) else (if st_2.2.1 23 x1_2.toNatClampNeg = 0 then (jn_X10_reckon_171 st st_2 x1_2 v0_49 v0_89 K_2 v0_49) else (if st_2.2.1 23 x1_2.toNatClampNeg = 1 then (jn_X10_reckon_171 st st_2 x1_2 v0_49 v0_89 K_2 (v0_49 + v0_89)) else (if lg_cmp v0_49 v0_89 ≤ 0 then (jn_X10_reckon_171 st st_2 x1_2 v0_49 v0_89 K_2 0) else (jn_X10_reckon_171 st st_2 x1_2 v0_49 v0_89 K_2 1))))))
def jn_X10_reckon_49 (st : St) (st_2 : St) (x1_2 : Int32) (K_2 : St → Int32 → St) (v0_49 : Int64) : St :=
  (if st_2.2.1 23 x1_2.toNatClampNeg = (-1) then (jn_X10_reckon_89 st st_2 x1_2 v0_49 K_2 0) else (if st_2.2.1 26 (st_2.2.1 25 x1_2.toNatClampNeg).toNatClampNeg = 0 then (jn_X10_reckon_89 st st_2 x1_2 v0_49 K_2 0) else (jn_X10_reckon_89 st st_2 x1_2 v0_49 K_2 (st_2.2.2 (st_2.2.1 25 x1_2.toNatClampNeg).toNatClampNeg))))
def lp_X10_reckon_2 (st : St) : Nat → St → Int32 → St
  | 0, st_2, _ => st_2
  | n_2 + 1, st_2, x1_2 => (if st_2.1 7 ≤ x1_2 then st_2 else (if st_2.2.1 23 x1_2.toNatClampNeg = (-1) then (jn_X10_reckon_49 st st_2 x1_2 (lp_X10_reckon_2 st n_2) 0) else (if st_2.2.1 26 (st_2.2.1 24 x1_2.toNatClampNeg).toNatClampNeg = 0 then (jn_X10_reckon_49 st st_2 x1_2 (lp_X10_reckon_2 st n_2) 0) else (jn_X10_reckon_49 st st_2 x1_2 (lp_X10_reckon_2 st n_2) (st_2.2.2 (st_2.2.1 24 x1_2.toNatClampNeg).toNatClampNeg)))))
def sp_X10_reckon (st : St) : St :=
  (lp_X10_reckon_2 st ((st.1 7).toInt.toNat + 1) st 0)
def sp_X10_peek (st : St) (a1 : Int32) : Int64 × St :=
  (if (sp_X10_isLiving (sp_X10_reckon (sI st 10 0)) a1) = 0 then (0, (sp_X10_reckon (sI st 10 0))) else ((sp_X10_reckon (sI st 10 0)).2.2 a1.toNatClampNeg, (sp_X10_reckon (sI st 10 0))))
def sp_X10_use (st : St) (a1 : Int32) (a2 : Int32) (a3 : Int32) : Int64 × St :=
  (if (sp_X10_isPurpose st a2) = 0 then (0, sI st 10 2) else (if (sp_X10_isMinute a3) = 0 then (0, sI st 10 2) else (if (sp_X10_isLiving st a1) = 0 then (0, sI st 10 1) else (if 200 ≤ st.1 8 then (if (sp_X10_groundOf (sI st 10 0) a1 a2 a3) = 0 then (if (sp_X10_groundOf (sI st 10 0) a1 a2 a3) = 0 then (0, (sp_X10_reckon (sI (sI (sI st 10 0) 9 (sp_X10_groundOf (sI st 10 0) a1 a2 a3)) 10 3))) else ((sp_X10_reckon (sI (sI (sI st 10 0) 9 (sp_X10_groundOf (sI st 10 0) a1 a2 a3)) 10 3)).2.2 a1.toNatClampNeg, (sp_X10_reckon (sI (sI (sI st 10 0) 9 (sp_X10_groundOf (sI st 10 0) a1 a2 a3)) 10 3)))) else (if (sp_X10_groundOf (sI st 10 0) a1 a2 a3) = 0 then (0, (sp_X10_reckon (sI (sI (sI st 10 0) 9 (sp_X10_groundOf (sI st 10 0) a1 a2 a3)) 10 0))) else ((sp_X10_reckon (sI (sI (sI st 10 0) 9 (sp_X10_groundOf (sI st 10 0) a1 a2 a3)) 10 0)).2.2 a1.toNatClampNeg, (sp_X10_reckon (sI (sI (sI st 10 0) 9 (sp_X10_groundOf (sI st 10 0) a1 a2 a3)) 10 0))))) else (if (sp_X10_groundOf (sI st 10 0) a1 a2 a3) = 0 then (if (sp_X10_groundOf (sI st 10 0) a1 a2 a3) = 0 then (0, (sp_X10_reckon (sI (sI (sA (sA (sA (sA (sI (sI st 10 0) 9 (sp_X10_groundOf (sI st 10 0) a1 a2 a3)) 29 ((st.1 8).toNatClampNeg) a1) 30 ((st.1 8).toNatClampNeg) a2) 31 ((st.1 8).toNatClampNeg) a3) 32 ((st.1 8).toNatClampNeg) (sp_X10_groundOf (sI st 10 0) a1 a2 a3)) 8 ((st.1 8) + 1)) 10 3))) else ((sp_X10_reckon (sI (sI (sA (sA (sA (sA (sI (sI st 10 0) 9 (sp_X10_groundOf (sI st 10 0) a1 a2 a3)) 29 ((st.1 8).toNatClampNeg) a1) 30 ((st.1 8).toNatClampNeg) a2) 31 ((st.1 8).toNatClampNeg) a3) 32 ((st.1 8).toNatClampNeg) (sp_X10_groundOf (sI st 10 0) a1 a2 a3)) 8 ((st.1 8) + 1)) 10 3)).2.2 a1.toNatClampNeg, (sp_X10_reckon (sI (sI (sA (sA (sA (sA (sI (sI st 10 0) 9 (sp_X10_groundOf (sI st 10 0) a1 a2 a3)) 29 ((st.1 8).toNatClampNeg) a1) 30 ((st.1 8).toNatClampNeg) a2) 31 ((st.1 8).toNatClampNeg) a3) 32 ((st.1 8).toNatClampNeg) (sp_X10_groundOf (sI st 10 0) a1 a2 a3)) 8 ((st.1 8) + 1)) 10 3)))) else (if (sp_X10_groundOf (sI st 10 0) a1 a2 a3) = 0 then (0, (sp_X10_reckon (sI (sI (sA (sA (sA (sA (sI (sI st 10 0) 9 (sp_X10_groundOf (sI st 10 0) a1 a2 a3)) 29 ((st.1 8).toNatClampNeg) a1) 30 ((st.1 8).toNatClampNeg) a2) 31 ((st.1 8).toNatClampNeg) a3) 32 ((st.1 8).toNatClampNeg) (sp_X10_groundOf (sI st 10 0) a1 a2 a3)) 8 ((st.1 8) + 1)) 10 0))) else ((sp_X10_reckon (sI (sI (sA (sA (sA (sA (sI (sI st 10 0) 9 (sp_X10_groundOf (sI st 10 0) a1 a2 a3)) 29 ((st.1 8).toNatClampNeg) a1) 30 ((st.1 8).toNatClampNeg) a2) 31 ((st.1 8).toNatClampNeg) a3) 32 ((st.1 8).toNatClampNeg) (sp_X10_groundOf (sI st 10 0) a1 a2 a3)) 8 ((st.1 8) + 1)) 10 0)).2.2 a1.toNatClampNeg, (sp_X10_reckon (sI (sI (sA (sA (sA (sA (sI (sI st 10 0) 9 (sp_X10_groundOf (sI st 10 0) a1 a2 a3)) 29 ((st.1 8).toNatClampNeg) a1) 30 ((st.1 8).toNatClampNeg) a2) 31 ((st.1 8).toNatClampNeg) a3) 32 ((st.1 8).toNatClampNeg) (sp_X10_groundOf (sI st 10 0) a1 a2 a3)) 8 ((st.1 8) + 1)) 10 0)))))))))
def sp_X10_why (st : St) : Int32 × St :=
  (st.1 9, sI st 10 0)
def lp_X10_isCovered_30 (st : St) (a1 : Int32) (a2 : Int32) : Nat → Int32 → Int32
  | 0, _ => 0
  | n_30 + 1, x3_30 => (if st.1 4 ≤ x3_30 then 0 else (if (sp_X10_dutyCovers st x3_30 a1 a2) = 0 then (lp_X10_isCovered_30 st a1 a2 n_30 (x3_30 + 1)) else 1))
def lp_X10_isCovered_2 (st : St) (a1 : Int32) (a2 : Int32) : Nat → Int32 → Int32
  | 0, _ => 0
  | n_2 + 1, x3_2 => (if st.1 6 ≤ x3_2 then (lp_X10_isCovered_30 st a1 a2 ((st.1 4).toInt.toNat + 1) 0) else (if (sp_X10_holdCovers st x3_2 a1 a2) = 0 then (lp_X10_isCovered_2 st a1 a2 n_2 (x3_2 + 1)) else 1))
def sp_X10_isCovered (st : St) (a1 : Int32) (a2 : Int32) : Int32 :=
  (lp_X10_isCovered_2 st a1 a2 ((st.1 6).toInt.toNat + 1) 0)
def lp_X10_keep_52 (st : St) (a1 : Int32) : Nat → St → Int32 → St
  | 0, st_52, _ => st_52
  | n_52 + 1, st_52, x2_52 => (if x2_52 < 0 then st_52 else (if st_52.2.1 27 x2_52.toNatClampNeg = 0 then (lp_X10_keep_52 st a1 n_52 st_52 (x2_52 + (-1))) else (if st_52.2.1 23 x2_52.toNatClampNeg = (-1) then (lp_X10_keep_52 st a1 n_52 st_52 (x2_52 + (-1))) else (lp_X10_keep_52 st a1 n_52 (sA (sA st_52 27 ((st_52.2.1 24 x2_52.toNatClampNeg).toNatClampNeg) (vp_nar .boolean (st_52.2.1 26 (st_52.2.1 24 x2_52.toNatClampNeg).toNatClampNeg))) 27 ((st_52.2.1 25 x2_52.toNatClampNeg).toNatClampNeg) (vp_nar .boolean (st_52.2.1 26 (st_52.2.1 25 x2_52.toNatClampNeg).toNatClampNeg))) (x2_52 + (-1))))))
def lp_X10_keep_2 (st : St) (a1 : Int32) : Nat → St → Int32 → St
  | 0, st_2, _ => st_2
  | n_2 + 1, st_2, x2_2 => (if st_2.1 7 ≤ x2_2 then (lp_X10_keep_52 st a1 ((st.1 7).toInt.toNat + 1) st_2 ((st_2.1 7) - 1)) else (if st_2.2.1 26 x2_2.toNatClampNeg = 0 then (lp_X10_keep_2 st a1 n_2 (sA st_2 27 x2_2.toNatClampNeg 0) (x2_2 + 1)) else (if (sp_X10_isCovered st_2 x2_2 a1) = 0 then (lp_X10_keep_2 st a1 n_2 (sA st_2 27 x2_2.toNatClampNeg 0) (x2_2 + 1)) else (lp_X10_keep_2 st a1 n_2 (sA st_2 27 x2_2.toNatClampNeg 1) (x2_2 + 1)))))
def sp_X10_keep (st : St) (a1 : Int32) : St :=
  (lp_X10_keep_2 st a1 ((st.1 7).toInt.toNat + 1) st 0)
def sp_X10_falls (st : St) (a1 : Int32) : Int32 :=
  (if st.2.1 23 a1.toNatClampNeg = 1 then (if st.2.1 26 (st.2.1 24 a1.toNatClampNeg).toNatClampNeg = 0 then (if st.2.1 26 (st.2.1 25 a1.toNatClampNeg).toNatClampNeg = 0 then 1 else 0) else 0) else (if st.2.1 26 (st.2.1 24 a1.toNatClampNeg).toNatClampNeg = 0 then 1 else (if st.2.1 26 (st.2.1 25 a1.toNatClampNeg).toNatClampNeg = 0 then 1 else 0)))
def lp_X10_cascade_4 (st : St) : Nat → St → Int32 → Int32 → Int32 × St
  | 0, st_4, _, _ => (0, st_4)
  | n_4 + 1, st_4, x2_4, x1_4 => (if st_4.1 7 ≤ x2_4 then (x1_4, st_4) else (if st_4.2.1 26 x2_4.toNatClampNeg = 0 then (lp_X10_cascade_4 st n_4 st_4 (x2_4 + 1) x1_4) else (if st_4.2.1 23 x2_4.toNatClampNeg = (-1) then (lp_X10_cascade_4 st n_4 st_4 (x2_4 + 1) x1_4) else (if (sp_X10_falls st_4 x2_4) = 0 then (lp_X10_cascade_4 st n_4 st_4 (x2_4 + 1) x1_4) else (lp_X10_cascade_4 st n_4 (sA st_4 26 x2_4.toNatClampNeg 0) (x2_4 + 1) (x1_4 + 1))))))
def sp_X10_cascade (st : St) : Int32 × St :=
  (lp_X10_cascade_4 st ((st.1 7).toInt.toNat + 1) st 0 0)
def lp_X10_due_4 (st : St) (a1 : Int32) : Nat → Int32 → Int32 → Int32
  | 0, _, _ => 0
  | n_4 + 1, x3_4, x2_4 => (if st.1 5 ≤ x3_4 then (if 0 ≤ x2_4 then x2_4 + (st.2.1 1 (st.2.1 20 a1.toNatClampNeg).toNatClampNeg) else (-1)) else (if st.2.1 23 a1.toNatClampNeg = (-1) then (if ((st.2.1 22 a1.toNatClampNeg) >>> ((st.2.1 13 x3_4.toNatClampNeg) &&& 31)) &&& 1 = 1 then (if st.2.1 14 x3_4.toNatClampNeg = st.2.1 20 a1.toNatClampNeg then (if st.2.1 15 x3_4.toNatClampNeg < st.2.1 21 a1.toNatClampNeg then (lp_X10_due_4 st a1 n_4 (x3_4 + 1) x2_4) else (if st.2.1 15 x3_4.toNatClampNeg ≤ x2_4 then (lp_X10_due_4 st a1 n_4 (x3_4 + 1) x2_4) else (lp_X10_due_4 st a1 n_4 (x3_4 + 1) (st.2.1 15 x3_4.toNatClampNeg)))) else (lp_X10_due_4 st a1 n_4 (x3_4 + 1) x2_4)) else (lp_X10_due_4 st a1 n_4 (x3_4 + 1) x2_4)) else (lp_X10_due_4 st a1 n_4 (x3_4 + 1) x2_4)))
def sp_X10_due (st : St) (a1 : Int32) : Int32 :=
  (lp_X10_due_4 st a1 ((st.1 5).toInt.toNat + 1) 0 (-1))
def lp_X10_eraseOf_10 (st : St) (a1 : Int32) (a2 : Int32) : Nat → St → Int32 → Int32 → Int32 × St
  | 0, st_10, _, _ => (0, st_10)
  | n_10 + 1, st_10, x4_10, x3_10 => (if st_10.1 7 ≤ x4_10 then (x3_10 + ((sp_X10_cascade st_10).1), (sp_X10_cascade st_10).2) else (if st_10.2.1 26 x4_10.toNatClampNeg = 0 then (lp_X10_eraseOf_10 st a1 a2 n_10 st_10 (x4_10 + 1) x3_10) else (if st_10.2.1 23 x4_10.toNatClampNeg = (-1) then (if a1 < 0 then (if (sp_X10_due st_10 x4_10) < 0 then (lp_X10_eraseOf_10 st a1 a2 n_10 st_10 (x4_10 + 1) x3_10) else (if a2 < (sp_X10_due st_10 x4_10) then (lp_X10_eraseOf_10 st a1 a2 n_10 st_10 (x4_10 + 1) x3_10) else (if st_10.2.1 27 x4_10.toNatClampNeg = 0 then (lp_X10_eraseOf_10 st a1 a2 n_10 (sA st_10 26 x4_10.toNatClampNeg 0) (x4_10 + 1) (x3_10 + 1)) else (lp_X10_eraseOf_10 st a1 a2 n_10 st_10 (x4_10 + 1) x3_10)))) else (if st_10.2.1 22 x4_10.toNatClampNeg = 1 <<< (a1 &&& 31) then (if st_10.2.1 27 x4_10.toNatClampNeg = 0 then (lp_X10_eraseOf_10 st a1 a2 n_10 (sA st_10 26 x4_10.toNatClampNeg 0) (x4_10 + 1) (x3_10 + 1)) else (lp_X10_eraseOf_10 st a1 a2 n_10 st_10 (x4_10 + 1) x3_10)) else (lp_X10_eraseOf_10 st a1 a2 n_10 st_10 (x4_10 + 1) x3_10))) else (lp_X10_eraseOf_10 st a1 a2 n_10 st_10 (x4_10 + 1) x3_10))))
def sp_X10_eraseOf (st : St) (a1 : Int32) (a2 : Int32) : Int32 × St :=
  (lp_X10_eraseOf_10 st a1 a2 ((st.1 7).toInt.toNat + 1) (sp_X10_keep st a2) 0 0)
def sp_X10_erase (st : St) (a1 : Int32) (a2 : Int32) : Int32 × St :=
  (if (sp_X10_isPerson a1) = 0 then (0, sI st 10 1) else (if (sp_X10_isMinute a2) = 0 then (0, sI st 10 1) else ((sp_X10_eraseOf (sI st 10 0) a1 (a2 / 1440)).1, (sp_X10_eraseOf (sI st 10 0) a1 (a2 / 1440)).2)))
def sp_X10_sweep (st : St) (a1 : Int32) : Int32 × St :=
  (if (sp_X10_in a1 0 6944) = 0 then (0, sI st 10 1) else ((sp_X10_eraseOf (sI st 10 0) (-1) a1).1, (sp_X10_eraseOf (sI st 10 0) (-1) a1).2))
def lp_X10_held_10 (st : St) (a1 : Int32) (a2 : Int32) : Nat → Int32 → Int32 → Int32 × St
  | 0, _, _ => (0, st)
  | n_10 + 1, x4_10, x3_10 => (if st.1 7 ≤ x4_10 then ((-1), sI st 10 0) else (if (sp_X10_isPerson a1) = 0 then ((-1), sI st 10 0) else (if st.2.1 26 x4_10.toNatClampNeg = 0 then (lp_X10_held_10 st a1 a2 n_10 (x4_10 + 1) x3_10) else (if ((st.2.1 22 x4_10.toNatClampNeg) >>> (a1 &&& 31)) &&& 1 = 0 then (lp_X10_held_10 st a1 a2 n_10 (x4_10 + 1) x3_10) else (if x3_10 = a2 then (x4_10, sI st 10 0) else (lp_X10_held_10 st a1 a2 n_10 (x4_10 + 1) (x3_10 + 1)))))))
def sp_X10_held (st : St) (a1 : Int32) (a2 : Int32) : Int32 × St :=
  (lp_X10_held_10 st a1 a2 ((st.1 7).toInt.toNat + 1) 0 0)
def sp_X10_logged (st : St) (a1 : Int32) (a2 : Int32) : Int32 × St :=
  (if (sp_X10_in a1 0 ((st.1 8) - 1)) = 0 then ((-1), sI st 10 0) else (if a2 = 0 then (st.2.1 29 a1.toNatClampNeg, sI st 10 0) else (if a2 = 1 then (st.2.1 30 a1.toNatClampNeg, sI st 10 0) else (if a2 = 2 then (st.2.1 31 a1.toNatClampNeg, sI st 10 0) else (if a2 = 3 then (st.2.1 32 a1.toNatClampNeg, sI st 10 0) else ((-1), sI st 10 0))))))
def lp_X10_derivedFrom_4 (st : St) (a1 : Int32) : Nat → Int32 → Int32 → Int32
  | 0, _, _ => 0
  | n_4 + 1, x3_4, x2_4 => (if st.1 7 ≤ x3_4 then x2_4 else (if st.2.1 26 x3_4.toNatClampNeg = 0 then (lp_X10_derivedFrom_4 st a1 n_4 (x3_4 + 1) (x2_4 + 0)) else (if st.2.1 23 x3_4.toNatClampNeg = (-1) then (lp_X10_derivedFrom_4 st a1 n_4 (x3_4 + 1) (x2_4 + 0)) else (if st.2.1 24 x3_4.toNatClampNeg = a1 then (lp_X10_derivedFrom_4 st a1 n_4 (x3_4 + 1) (x2_4 + 1)) else (if st.2.1 25 x3_4.toNatClampNeg = a1 then (lp_X10_derivedFrom_4 st a1 n_4 (x3_4 + 1) (x2_4 + 1)) else (lp_X10_derivedFrom_4 st a1 n_4 (x3_4 + 1) (x2_4 + 0)))))))
def sp_X10_derivedFrom (st : St) (a1 : Int32) : Int32 :=
  (lp_X10_derivedFrom_4 st a1 ((st.1 7).toInt.toNat + 1) 0 0)
def sp_X10_look (st : St) (a1 : Int32) (a2 : Int32) : Int32 × St :=
  (if (sp_X10_isLiving (sI st 10 0) a1) = 0 then ((-1), sI st 10 0) else (if a2 = 0 then (st.2.1 20 a1.toNatClampNeg, sI st 10 0) else (if a2 = 1 then (st.2.1 21 a1.toNatClampNeg, sI st 10 0) else (if a2 = 2 then (st.2.1 22 a1.toNatClampNeg, sI st 10 0) else (if a2 = 3 then ((sp_X10_due (sI st 10 0) a1), sI st 10 0) else (if a2 = 4 then ((sp_X10_derivedFrom (sI st 10 0) a1), sI st 10 0) else ((-1), sI st 10 0)))))))
def lp_X10_state_9 (st : St) (a1 : Int32) : Nat → Int32 → Int32 → Int32 × St
  | 0, _, _ => (0, st)
  | n_9 + 1, x3_9, x2_9 => (if st.1 7 ≤ x3_9 then (if a1 = 0 then (st.1 0, sI st 10 0) else (if a1 = 1 then (st.1 1, sI st 10 0) else (if a1 = 2 then (st.1 7, sI st 10 0) else (if a1 = 3 then (x2_9, sI st 10 0) else (if a1 = 4 then (st.1 8, sI st 10 0) else (if a1 = 5 then (st.1 6, sI st 10 0) else ((-1), sI st 10 0))))))) else (if st.2.1 26 x3_9.toNatClampNeg = 0 then (lp_X10_state_9 st a1 n_9 (x3_9 + 1) (x2_9 + 0)) else (lp_X10_state_9 st a1 n_9 (x3_9 + 1) (x2_9 + 1))))
def sp_X10_state (st : St) (a1 : Int32) : Int32 × St :=
  (lp_X10_state_9 st a1 ((st.1 7).toInt.toNat + 1) 0 0)

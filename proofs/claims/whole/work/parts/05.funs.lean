def fA_fill_5 (n : Nat) : Nat → Nat → Int32 → Nat → (Nat → Int32) → (Nat → Int32)
  | 0, i, x1, x3, S => S
  | k + 1, i, x1, x3, S => (fA_fill_5 n k (i + 1) x1 x3 (upd S ((nI i) : Int32).toNatClampNeg x1))
def fA_fill (n : Nat) (S : (Nat → Int32)) (a1 : Int32) : (Nat → Int32) :=
  (fA_fill_5 n n 0 a1 n S)
def fF_isPart (a1 : Int32) : Int32 :=
  (if a1 = 0 then 1 else (if a1 = 1 then 1 else 0))
def fF_commonDivisor_9 : Nat → Nat → Int64 → Int64 → Int64 → Int64 → Int64
  | 0, i, x0, x2, x4, x6 => x4
  | k + 1, i, x0, x2, x4, x6 => (if (lg_cmp x6 0) = 0 then x4 else (fF_commonDivisor_9 k (i + 1) x0 x2 x6 (x4 - x4 / x6 * x6)))
def fF_commonDivisor (a1 : Int64) (a2 : Int64) : Int64 :=
  (fF_commonDivisor_9 100 0 a1 a2 a1 a2)
def fF_lowest (a1 : Int64) (a2 : Int64) (a3 : Int32) : Int64 :=
  (if 0 ≤ (lg_cmp (fF_commonDivisor a1 a2) 1) then (if a3 = 0 then (a1 / (fF_commonDivisor a1 a2)) else (a2 / (fF_commonDivisor a1 a2))) else (-1))
def fP_has (n : Nat) (a1 : Int32) : Int32 :=
  (if a1 < 0 then 0 else (if (nI n) ≤ a1 then 0 else 1))
def fP_bitOf (a1 : Int32) : Int32 :=
  ((1 : Int32) <<< (a1 &&& 31))
def fP_motherOf (n : Nat) (S : vP) (a1 : Int32) : Int32 :=
  (if (fP_has n a1) = 0 then (-1) else ((g_mo S) (a1 : Int32).toNatClampNeg))
def fP_fatherOf (n : Nat) (S : vP) (a1 : Int32) : Int32 :=
  (if (fP_has n a1) = 0 then (-1) else ((g_fa S) (a1 : Int32).toNatClampNeg))
def fP_stepsOf (n : Nat) (S : vP) (a1 : Int32) : Int32 :=
  (if (fP_has n a1) = 0 then (-1) else ((g_st S) (a1 : Int32).toNatClampNeg))
def fP_inOrder (n : Nat) (S : vP) (a1 : Int32) : Int32 :=
  (if (fP_has n a1) = 0 then (-1) else ((g_sq S) (a1 : Int32).toNatClampNeg))
def fP_isFounder (n : Nat) (S : vP) (a1 : Int32) : Int32 :=
  (if (fP_has n a1) = 0 then 0 else (if ((g_mo S) (a1 : Int32).toNatClampNeg) = (-1) then (if ((g_fa S) (a1 : Int32).toNatClampNeg) = (-1) then 1 else 0) else 0))
def fP_hasForbear (n : Nat) (S : vP) (a1 : Int32) (a2 : Int32) : Int32 :=
  (if (fP_has n a1) = 0 then 0 else (if (fP_has n a2) = 0 then 0 else (if (((g_fb S) (a1 : Int32).toNatClampNeg) &&& (fP_bitOf a2)) = 0 then 0 else 1)))
def fP_kinOf (n : Nat) (S : vP) (a1 : Int32) (a2 : Int32) : Int64 :=
  (if (fP_has n a1) = 0 then 0 else (if (fP_has n a2) = 0 then 0 else ((g_kt S) (((a1 * 24) + a2) : Int32).toNatClampNeg)))
def fP_inbreedingOf (n : Nat) (S : vP) (a1 : Int32) : Int64 :=
  (fP_kinOf n S (fP_motherOf n S a1) (fP_fatherOf n S a1))
def fP_settledBy (n : Nat) (S : vP) (a1 : Int32) : Int64 :=
  (if (fP_has n a1) = 0 then 0 else ((1073741824 + (fP_inbreedingOf n S a1)) / 4))
def fP_chanceOf (n : Nat) (S : vP) (a1 : Int32) : Int64 :=
  ((1073741824 - (fP_settledBy n S (fP_motherOf n S a1))) - (fP_settledBy n S (fP_fatherOf n S a1)))
def fP_shareRow (n : Nat) (S : vP) (a1 : Int32) : Int64 :=
  (if (fP_has n a1) = 0 then 0 else ((g_sh S) (a1 : Int32).toNatClampNeg))
def fP_leadsTo (n : Nat) (S : vP) (a1 : Int32) (a2 : Int32) : Int32 :=
  (if a1 = a2 then 1 else (if (fP_hasForbear n S a1 a2) = 0 then 0 else 1))
def fP_wouldClose (n : Nat) (S : vP) (a1 : Int32) (a2 : Int32) (a3 : Int32) : Int32 :=
  (if (fP_leadsTo n S a2 a1) = 0 then (if (fP_leadsTo n S a3 a1) = 0 then 0 else 1) else 1)
def fP_ringAt (n : Nat) (S : vP) (a1 : Int32) : Int32 :=
  (if a1 < 0 then (-1) else (if (g_rl S) ≤ a1 then (-1) else (if 25 ≤ a1 then (-1) else ((g_rr S) (a1 : Int32).toNatClampNeg))))
def fP_lineOf (n : Nat) (S : vP) (a1 : Int32) : Int32 :=
  (if (fP_has n a1) = 0 then 0 else ((fP_bitOf a1) ||| ((g_fb S) (a1 : Int32).toNatClampNeg)))
def fP_forgetRing (n : Nat) (S : vP) : vP :=
  (p_rl S (0))
def fP_shareOf_2 (n : Nat) : Nat → Nat → Int32 → Int32 → vP → Int64 × vP
  | 0, i, x1, x2, S => ((fP_shareRow n S x1), S)
  | k + 1, i, x1, x2, S => (if (fP_has n (fP_inOrder n S (nI i))) = 0 then (fP_shareOf_2 n k (i + 1) x1 x2 S) else (if (fP_inOrder n S (nI i)) = x2 then (fP_shareOf_2 n k (i + 1) x1 x2 (p_sh S (vp_updL (g_sh S) ((fP_inOrder n S (nI i)) : Int32).toNatClampNeg 1073741824))) else (fP_shareOf_2 n k (i + 1) x1 x2 (p_sh S (vp_updL (g_sh S) ((fP_inOrder n S (nI i)) : Int32).toNatClampNeg (((fP_shareRow n S (fP_motherOf n S (fP_inOrder n S (nI i)))) + (fP_shareRow n S (fP_fatherOf n S (fP_inOrder n S (nI i))))) / 2))))))
def fP_shareOf (n : Nat) (S : vP) (a1 : Int32) (a2 : Int32) : Int64 × vP :=
  (fP_shareOf_2 n n 0 a1 a2 S)
def fP_keepRing_31 (n : Nat) : Nat → Nat → Int32 → Int32 → Int32 → Int32 → vP → vP
  | 0, i, x1, x2, x3, x4, S => S
  | k + 1, i, x1, x2, x3, x4, S => (if (fP_has n x4) = 0 then S else (if x4 = x1 then (p_rl (p_rr S (upd (g_rr S) ((nI i) : Int32).toNatClampNeg x4)) (((nI i) + 1))) else (if (fP_leadsTo n (p_rl (p_rr S (upd (g_rr S) ((nI i) : Int32).toNatClampNeg x4)) (((nI i) + 1))) ((g_mo (p_rl (p_rr S (upd (g_rr S) ((nI i) : Int32).toNatClampNeg x4)) (((nI i) + 1)))) (x4 : Int32).toNatClampNeg) x1) = 0 then (fP_keepRing_31 n k (i + 1) x1 x2 x3 ((g_fa (p_rl (p_rr S (upd (g_rr S) ((nI i) : Int32).toNatClampNeg x4)) (((nI i) + 1)))) (x4 : Int32).toNatClampNeg) (p_rl (p_rr S (upd (g_rr S) ((nI i) : Int32).toNatClampNeg x4)) (((nI i) + 1)))) else (fP_keepRing_31 n k (i + 1) x1 x2 x3 ((g_mo (p_rl (p_rr S (upd (g_rr S) ((nI i) : Int32).toNatClampNeg x4)) (((nI i) + 1)))) (x4 : Int32).toNatClampNeg) (p_rl (p_rr S (upd (g_rr S) ((nI i) : Int32).toNatClampNeg x4)) (((nI i) + 1)))))))
def fP_keepRing (n : Nat) (S : vP) (a1 : Int32) (a2 : Int32) (a3 : Int32) : vP :=
  (if (fP_leadsTo n (p_rl (p_rr S (upd (g_rr S) (0 : Int32).toNatClampNeg a1)) (1)) a2 a1) = 0 then (fP_keepRing_31 n (25 - 1) 1 a1 a2 a3 a3 (p_rl (p_rr S (upd (g_rr S) (0 : Int32).toNatClampNeg a1)) (1))) else (fP_keepRing_31 n (25 - 1) 1 a1 a2 a3 a2 (p_rl (p_rr S (upd (g_rr S) (0 : Int32).toNatClampNeg a1)) (1))))
def fP_setKin (n : Nat) (S : vP) (a1 : Int32) (a2 : Int32) (a3 : Int64) : vP :=
  (if (fP_has n a1) = 0 then S else (if (fP_has n a2) = 0 then S else (p_kt (p_kt S (vp_updL (g_kt S) (((a1 * 24) + a2) : Int32).toNatClampNeg a3)) (vp_updL (g_kt (p_kt S (vp_updL (g_kt S) (((a1 * 24) + a2) : Int32).toNatClampNeg a3))) (((a2 * 24) + a1) : Int32).toNatClampNeg a3))))
def fP_reckonForbears (n : Nat) (S : vP) (a1 : Int32) : vP :=
  (if (fP_has n a1) = 0 then S else (p_fb S (upd (g_fb S) (a1 : Int32).toNatClampNeg ((fP_lineOf n S ((g_mo S) (a1 : Int32).toNatClampNeg)) ||| (fP_lineOf n S ((g_fa S) (a1 : Int32).toNatClampNeg))))))
def fP_reckonKin_22 (n : Nat) : Nat → Nat → Nat → Int32 → Int32 → Int32 → vP → vP
  | 0, i, x1, x2, x3, x4, S => (fP_setKin n S x2 x2 ((1073741824 + (fP_kinOf n S x3 x4)) / 2))
  | k + 1, i, x1, x2, x3, x4, S => (fP_reckonKin_22 n k (i + 1) x1 x2 x3 x4 (fP_setKin n S x2 (fP_inOrder n S (nI i)) (((fP_kinOf n S x3 (fP_inOrder n S (nI i))) + (fP_kinOf n S x4 (fP_inOrder n S (nI i)))) / 2)))
def fP_reckonKin (n : Nat) (S : vP) (a1 : Nat) : vP :=
  (fP_reckonKin_22 n a1 0 a1 (fP_inOrder n S (nI a1)) (fP_motherOf n S (fP_inOrder n S (nI a1))) (fP_fatherOf n S (fP_inOrder n S (nI a1))) S)
def fP_reckonOrder_14 (n : Nat) : Nat → Nat → Nat → Nat → vP → Nat × vP
  | 0, i, x1, x2, S => (x1, S)
  | k + 1, i, x1, x2, S => (if ((g_st S) ((nI i) : Int32).toNatClampNeg) = (nI x2) then (if (nI n) ≤ (nI x1) then (fP_reckonOrder_14 n k (i + 1) x1 x2 S) else (fP_reckonOrder_14 n k (i + 1) (x1 + 1) x2 (p_sq S (upd (g_sq S) ((nI x1) : Int32).toNatClampNeg (nI i))))) else (fP_reckonOrder_14 n k (i + 1) x1 x2 S))
def fP_reckonOrder_4 (n : Nat) : Nat → Nat → Nat → vP → vP
  | 0, i, x1, S => S
  | k + 1, i, x1, S => (fP_reckonOrder_4 n k (i + 1) ((fP_reckonOrder_14 n n 0 x1 i S).1) ((fP_reckonOrder_14 n n 0 x1 i S).2))
def fP_reckonOrder (n : Nat) (S : vP) : vP :=
  (fP_reckonOrder_4 n n 0 0 S)
def fP_reckonSteps_28 (n : Nat) : Nat → Nat → Int32 → Nat → vP → Int32 × vP
  | 0, i, x1, x2, S => (x1, S)
  | k + 1, i, x1, x2, S => (if x1 = 0 then (if ((fJ_max (fP_stepsOf n S ((g_mo S) ((nI i) : Int32).toNatClampNeg)) (fP_stepsOf n S ((g_fa S) ((nI i) : Int32).toNatClampNeg))) + 1) = ((g_st S) ((nI i) : Int32).toNatClampNeg) then (fP_reckonSteps_28 n k (i + 1) 0 x2 (p_st S (upd (g_st S) ((nI i) : Int32).toNatClampNeg ((fJ_max (fP_stepsOf n S ((g_mo S) ((nI i) : Int32).toNatClampNeg)) (fP_stepsOf n S ((g_fa S) ((nI i) : Int32).toNatClampNeg))) + 1)))) else (fP_reckonSteps_28 n k (i + 1) 1 x2 (p_st S (upd (g_st S) ((nI i) : Int32).toNatClampNeg ((fJ_max (fP_stepsOf n S ((g_mo S) ((nI i) : Int32).toNatClampNeg)) (fP_stepsOf n S ((g_fa S) ((nI i) : Int32).toNatClampNeg))) + 1))))) else (fP_reckonSteps_28 n k (i + 1) 1 x2 (p_st S (upd (g_st S) ((nI i) : Int32).toNatClampNeg ((fJ_max (fP_stepsOf n S ((g_mo S) ((nI i) : Int32).toNatClampNeg)) (fP_stepsOf n S ((g_fa S) ((nI i) : Int32).toNatClampNeg))) + 1)))))
def fP_reckonSteps_12 (n : Nat) : Nat → Nat → Int32 → vP → vP
  | 0, i, x1, S => S
  | k + 1, i, x1, S => (if x1 = 0 then S else (fP_reckonSteps_12 n k (i + 1) ((fP_reckonSteps_28 n n 0 0 i S).1) ((fP_reckonSteps_28 n n 0 0 i S).2)))
def fP_reckonSteps (n : Nat) (S : vP) : vP :=
  (fP_reckonSteps_12 n n 0 1 (p_st S (fA_fill 24 (g_st S) 0)))
def fP_reckon_10 (n : Nat) : Nat → Nat → vP → vP
  | 0, i, S => S
  | k + 1, i, S => (fP_reckon_10 n k (i + 1) (fP_reckonKin n (fP_reckonForbears n S (fP_inOrder n S (nI i))) i))
def fP_reckon (n : Nat) (S : vP) : vP :=
  (fP_reckon_10 n n 0 (fP_reckonOrder n (fP_reckonSteps n S)))
def fP_setParents (n : Nat) (S : vP) (a1 : Int32) (a2 : Int32) (a3 : Int32) : vP :=
  (if (fP_has n a1) = 0 then S else (fP_reckon n (p_fa (p_mo S (upd (g_mo S) (a1 : Int32).toNatClampNeg a2)) (upd (g_fa (p_mo S (upd (g_mo S) (a1 : Int32).toNatClampNeg a2))) (a1 : Int32).toNatClampNeg a3))))
def fM_has (n : Nat) (a1 : Int32) (a2 : Int32) : Int32 :=
  (if a1 < 0 then 0 else (if (nI n) ≤ a1 then 0 else (if a2 < 0 then 0 else (if 4 ≤ a2 then 0 else 1))))
def fM_formOf (n : Nat) (S : vM) (a1 : Int32) (a2 : Int32) : Int32 :=
  (if (fM_has n a1 a2) = 0 then (-1) else (S (((a1 * 4) + a2) : Int32).toNatClampNeg))
def fM_isKnownOfBoth (n : Nat) (S : vM) (a1 : Int32) (a2 : Int32) (a3 : Int32) : Int32 :=
  (if (fM_formOf n S a1 a3) = (-1) then 0 else (if (fM_formOf n S a2 a3) = (-1) then 0 else 1))
def fM_difference (n : Nat) (S : vM) (a1 : Int32) (a2 : Int32) (a3 : Int32) : Int32 :=
  (fJ_abs ((fM_formOf n S a1 a3) - (fM_formOf n S a2 a3)))
def fM_knownForms_4 (n : Nat) (S : vM) : Nat → Nat → Int32 → Int32 → Int32
  | 0, i, x1, x2 => x2
  | k + 1, i, x1, x2 => (if (fM_formOf n S (nI i) x1) = (-1) then (fM_knownForms_4 n S k (i + 1) x1 x2) else (fM_knownForms_4 n S k (i + 1) x1 (x2 + 1)))
def fM_knownForms (n : Nat) (S : vM) (a1 : Int32) : Int32 :=
  (fM_knownForms_4 n S n 0 a1 0)
def fM_lettersB_4 (n : Nat) (S : vM) : Nat → Nat → Int32 → Int32 → Int32
  | 0, i, x1, x2 => x2
  | k + 1, i, x1, x2 => (fM_lettersB_4 n S k (i + 1) x1 (x2 + (fJ_max 0 (fM_formOf n S (nI i) x1))))
def fM_lettersB (n : Nat) (S : vM) (a1 : Int32) : Int32 :=
  (fM_lettersB_4 n S n 0 a1 0)
def fM_amongChildren (a1 : Int32) (a2 : Int32) (a3 : Int64) (a4 : Int64) : Int64 :=
  (if a1 = 0 then (((2 - a2) : Int32).toInt64 * a3) else (if a1 = 1 then (((a2 : Int32).toInt64 * a3) + (((2 - a2) : Int32).toInt64 * a4)) else ((a2 : Int32).toInt64 * a4)))
def fM_amongStrangers (a1 : Int32) (a2 : Int64) (a3 : Int64) : Int64 :=
  (if a1 = 0 then (a2 * a2) else (if a1 = 1 then ((2 * a2) * a3) else (a3 * a3)))
def fM_isLeftOut_2 (n : Nat) (S : vM) : Nat → Nat → Int32 → Int32 → Int32
  | 0, i, x1, x2 => 0
  | k + 1, i, x1, x2 => (if (fM_isKnownOfBoth n S x1 x2 (nI i)) = 0 then (fM_isLeftOut_2 n S k (i + 1) x1 x2) else (if (fM_difference n S x1 x2 (nI i)) = 2 then 1 else (fM_isLeftOut_2 n S k (i + 1) x1 x2)))
def fM_isLeftOut (n : Nat) (S : vM) (a1 : Int32) (a2 : Int32) : Int32 :=
  (fM_isLeftOut_2 n S 4 0 a1 a2)
def fM_oddsOf_9 (n : Nat) (S : vM) : Nat → Nat → Int32 → Int32 → Int32 → Int64 → Int64 → Int64
  | 0, i, x1, x2, x3, x4, x6 => (fF_lowest x4 x6 x3)
  | k + 1, i, x1, x2, x3, x4, x6 => (if (fM_isKnownOfBoth n S x1 x2 (nI i)) = 0 then (fM_oddsOf_9 n S k (i + 1) x1 x2 x3 x4 x6) else (fM_oddsOf_9 n S k (i + 1) x1 x2 x3 (x4 * ((fM_amongChildren (fM_formOf n S x1 (nI i)) (fM_formOf n S x2 (nI i)) ((2 * ((fM_knownForms n S (nI i)) : Int32).toInt64) - ((fM_lettersB n S (nI i)) : Int32).toInt64) (((fM_lettersB n S (nI i)) : Int32).toInt64)) * (2 * ((fM_knownForms n S (nI i)) : Int32).toInt64))) (x6 * ((fM_amongStrangers (fM_formOf n S x1 (nI i)) ((2 * ((fM_knownForms n S (nI i)) : Int32).toInt64) - ((fM_lettersB n S (nI i)) : Int32).toInt64) (((fM_lettersB n S (nI i)) : Int32).toInt64)) * 2))))
def fM_oddsOf (n : Nat) (S : vM) (a1 : Int32) (a2 : Int32) (a3 : Int32) : Int64 :=
  (fM_oddsOf_9 n S 4 0 a1 a2 a3 1 1)
def fM_likenessOf_9 (n : Nat) (S : vM) : Nat → Nat → Int32 → Int32 → Int32 → Int64 → Int64 → Int64
  | 0, i, x1, x2, x3, x4, x6 => (if (lg_cmp x6 0) = 0 then (-1) else (fF_lowest x4 (2 * x6) x3))
  | k + 1, i, x1, x2, x3, x4, x6 => (if (fM_isKnownOfBoth n S x1 x2 (nI i)) = 0 then (fM_likenessOf_9 n S k (i + 1) x1 x2 x3 x4 x6) else (fM_likenessOf_9 n S k (i + 1) x1 x2 x3 (x4 + ((2 - (fM_difference n S x1 x2 (nI i))) : Int32).toInt64) (x6 + 1)))
def fM_likenessOf (n : Nat) (S : vM) (a1 : Int32) (a2 : Int32) (a3 : Int32) : Int64 :=
  (fM_likenessOf_9 n S 4 0 a1 a2 a3 0 0)
def fM_setForm (n : Nat) (S : vM) (a1 : Int32) (a2 : Int32) (a3 : Int32) : Int32 × vM :=
  (if (fM_has n a1 a2) = 0 then (0, S) else (if a3 < (-1) then (0, S) else (if a3 ≤ 2 then (1, (upd S (((a1 * 4) + a2) : Int32).toNatClampNeg a3)) else (0, S))))
def fK_isAnimal (n : Nat) (a1 : Int32) : Int32 :=
  (if a1 < 0 then 0 else (if (nI n) ≤ a1 then 0 else 1))
def fK_isAnimalOrNone (n : Nat) (a1 : Int32) : Int32 :=
  (if a1 = (-1) then 1 else (if (fK_isAnimal n a1) = 0 then 0 else 1))
def fK_mayBeParent (n : Nat) (S : vK) (a1 : Int32) (a2 : Int32) (a3 : Int32) : Int32 :=
  (if (fK_isAnimal n a1) = 0 then 1 else (if (fK_isAnimal n a2) = 0 then 1 else (if ((g_sx S) (a2 : Int32).toNatClampNeg) = a3 then 0 else (if ((g_dy S) (a2 : Int32).toNatClampNeg) = (-1) then 1 else (if ((g_dy S) (a1 : Int32).toNatClampNeg) = (-1) then 1 else (if ((g_dy S) (a1 : Int32).toNatClampNeg) ≤ ((g_dy S) (a2 : Int32).toNatClampNeg) then 0 else 1))))))
def fK_mayBeParents (n : Nat) (S : vK) (a1 : Int32) (a2 : Int32) (a3 : Int32) : Int32 :=
  (if (fK_mayBeParent n S a1 a2 2) = 0 then 0 else (if (fK_mayBeParent n S a1 a3 1) = 0 then 0 else 1))
def fK_areSexesAndDaysRight_2 (n : Nat) (S : vK) : Nat → Nat → Int32
  | 0, i => 1
  | k + 1, i => (if (fK_mayBeParents n S (nI i) (fP_motherOf n (g_P S) (nI i)) (fP_fatherOf n (g_P S) (nI i))) = 0 then 0 else (fK_areSexesAndDaysRight_2 n S k (i + 1)))
def fK_areSexesAndDaysRight (n : Nat) (S : vK) : Int32 :=
  (fK_areSexesAndDaysRight_2 n S n 0)
def fK_isLost_32 (n : Nat) (S : vK) : Nat → Nat → Int32 → Int32
  | 0, i, x1 => 1
  | k + 1, i, x1 => (if ((g_dd S) ((nI i) : Int32).toNatClampNeg) = 0 then (if (fP_hasForbear n (g_P S) (nI i) x1) = 0 then (fK_isLost_32 n S k (i + 1) x1) else 0) else (fK_isLost_32 n S k (i + 1) x1))
def fK_isLost (n : Nat) (S : vK) (a1 : Int32) : Int32 :=
  (if (fK_isAnimal n a1) = 0 then 0 else (if (fP_isFounder n (g_P S) a1) = 0 then 0 else (if ((g_dd S) (a1 : Int32).toNatClampNeg) = 0 then 0 else (fK_isLost_32 n S n 0 a1))))
def fK_kinWithLiving_5 (n : Nat) (S : vK) : Nat → Nat → Int32 → Int64 → Int64
  | 0, i, x1, x2 => x2
  | k + 1, i, x1, x2 => (if ((g_dd S) ((nI i) : Int32).toNatClampNeg) = 0 then (fK_kinWithLiving_5 n S k (i + 1) x1 (x2 + (fP_kinOf n (g_P S) x1 (nI i)))) else (fK_kinWithLiving_5 n S k (i + 1) x1 x2))
def fK_kinWithLiving (n : Nat) (S : vK) (a1 : Int32) : Int64 :=
  (fK_kinWithLiving_5 n S n 0 a1 0)
def fK_parents (n : Nat) (S : vK) (a1 : Int32) (a2 : Int32) (a3 : Int32) : Int32 × vK :=
  (if (fK_isAnimal n a1) = 0 then (0, (s_P S (fP_forgetRing n (g_P S)))) else (if (fK_isAnimalOrNone n a2) = 0 then (0, (s_P S (fP_forgetRing n (g_P S)))) else (if (fK_isAnimalOrNone n a3) = 0 then (0, (s_P S (fP_forgetRing n (g_P S)))) else (if a2 = a3 then (if a2 = (-1) then (if (fP_wouldClose n (g_P (s_P S (fP_forgetRing n (g_P S)))) a1 a2 a3) = 0 then (if (fK_mayBeParents n (s_P S (fP_forgetRing n (g_P S))) a1 a2 a3) = 0 then (0, (s_P S (fP_forgetRing n (g_P S)))) else (1, (s_P (s_P S (fP_forgetRing n (g_P S))) (fP_setParents n (g_P (s_P S (fP_forgetRing n (g_P S)))) a1 a2 a3)))) else (0, (s_P (s_P S (fP_forgetRing n (g_P S))) (fP_keepRing n (g_P (s_P S (fP_forgetRing n (g_P S)))) a1 a2 a3)))) else (0, (s_P S (fP_forgetRing n (g_P S))))) else (if (fP_wouldClose n (g_P (s_P S (fP_forgetRing n (g_P S)))) a1 a2 a3) = 0 then (if (fK_mayBeParents n (s_P S (fP_forgetRing n (g_P S))) a1 a2 a3) = 0 then (0, (s_P S (fP_forgetRing n (g_P S)))) else (1, (s_P (s_P S (fP_forgetRing n (g_P S))) (fP_setParents n (g_P (s_P S (fP_forgetRing n (g_P S)))) a1 a2 a3)))) else (0, (s_P (s_P S (fP_forgetRing n (g_P S))) (fP_keepRing n (g_P (s_P S (fP_forgetRing n (g_P S)))) a1 a2 a3))))))))
def fK_ring (n : Nat) (S : vK) (a1 : Int32) : Int32 :=
  (fP_ringAt n (g_P S) a1)
def fK_told (n : Nat) (S : vK) (a1 : Int32) (a2 : Int32) (a3 : Int32) : Int32 × vK :=
  (if (fK_isAnimal n a1) = 0 then (0, S) else (if a2 < 0 then (0, S) else (if 2 < a2 then (0, S) else (if a3 < (-1) then (0, S) else (if a3 ≤ 99999 then (if (fK_areSexesAndDaysRight n (s_dy (s_sx S (upd (g_sx S) (a1 : Int32).toNatClampNeg a2)) (upd (g_dy (s_sx S (upd (g_sx S) (a1 : Int32).toNatClampNeg a2))) (a1 : Int32).toNatClampNeg a3))) = 0 then (0, (s_dy (s_sx (s_dy (s_sx S (upd (g_sx S) (a1 : Int32).toNatClampNeg a2)) (upd (g_dy (s_sx S (upd (g_sx S) (a1 : Int32).toNatClampNeg a2))) (a1 : Int32).toNatClampNeg a3)) (upd (g_sx (s_dy (s_sx S (upd (g_sx S) (a1 : Int32).toNatClampNeg a2)) (upd (g_dy (s_sx S (upd (g_sx S) (a1 : Int32).toNatClampNeg a2))) (a1 : Int32).toNatClampNeg a3))) (a1 : Int32).toNatClampNeg ((g_sx S) (a1 : Int32).toNatClampNeg))) (upd (g_dy (s_sx (s_dy (s_sx S (upd (g_sx S) (a1 : Int32).toNatClampNeg a2)) (upd (g_dy (s_sx S (upd (g_sx S) (a1 : Int32).toNatClampNeg a2))) (a1 : Int32).toNatClampNeg a3)) (upd (g_sx (s_dy (s_sx S (upd (g_sx S) (a1 : Int32).toNatClampNeg a2)) (upd (g_dy (s_sx S (upd (g_sx S) (a1 : Int32).toNatClampNeg a2))) (a1 : Int32).toNatClampNeg a3))) (a1 : Int32).toNatClampNeg ((g_sx S) (a1 : Int32).toNatClampNeg)))) (a1 : Int32).toNatClampNeg ((g_dy S) (a1 : Int32).toNatClampNeg)))) else (1, (s_dy (s_sx S (upd (g_sx S) (a1 : Int32).toNatClampNeg a2)) (upd (g_dy (s_sx S (upd (g_sx S) (a1 : Int32).toNatClampNeg a2))) (a1 : Int32).toNatClampNeg a3)))) else (0, S))))))
def fK_lives (n : Nat) (S : vK) (a1 : Int32) (a2 : Int32) : Int32 × vK :=
  (if (fK_isAnimal n a1) = 0 then (0, S) else (if a2 = 0 then (1, (s_dd S (upd (g_dd S) (a1 : Int32).toNatClampNeg (vp_nar .boolean 1)))) else (1, (s_dd S (upd (g_dd S) (a1 : Int32).toNatClampNeg (vp_nar .boolean 0))))))
def fK_kin (n : Nat) (S : vK) (a1 : Int32) (a2 : Int32) (a3 : Int32) : Int64 :=
  (if (fK_isAnimal n a1) = 0 then (-1) else (if (fK_isAnimal n a2) = 0 then (-1) else (if (fF_isPart a3) = 0 then (-1) else (fF_lowest (fP_kinOf n (g_P S) a1 a2) 1073741824 a3))))
def fK_inbred (n : Nat) (S : vK) (a1 : Int32) (a2 : Int32) : Int64 :=
  (if (fK_isAnimal n a1) = 0 then (-1) else (if (fF_isPart a2) = 0 then (-1) else (fF_lowest (fP_inbreedingOf n (g_P S) a1) 1073741824 a2)))
def fK_chance (n : Nat) (S : vK) (a1 : Int32) (a2 : Int32) : Int64 :=
  (if (fK_isAnimal n a1) = 0 then (-1) else (if (fF_isPart a2) = 0 then (-1) else (fF_lowest (fP_chanceOf n (g_P S) a1) 1073741824 a2)))
def fK_share (n : Nat) (S : vK) (a1 : Int32) (a2 : Int32) (a3 : Int32) : Int64 × vK :=
  (if (fK_isAnimal n a1) = 0 then ((-1), S) else (if (fP_isFounder n (g_P S) a2) = 0 then ((-1), S) else (if (fF_isPart a3) = 0 then ((-1), S) else ((fF_lowest ((fP_shareOf n (g_P S) a1 a2).1) 1073741824 a3), (s_P S ((fP_shareOf n (g_P S) a1 a2).2))))))
def fK_isForbear (n : Nat) (S : vK) (a1 : Int32) (a2 : Int32) : Int32 :=
  (fP_hasForbear n (g_P S) a2 a1)
def fK_order (n : Nat) (S : vK) (a1 : Int32) : Int32 :=
  (fP_inOrder n (g_P S) a1)
def fK_mark (n : Nat) (S : vK) (a1 : Int32) (a2 : Int32) (a3 : Int32) : Int32 × vK :=
  ((fM_setForm n (g_M S) a1 a2 a3).1, (s_M S ((fM_setForm n (g_M S) a1 a2 a3).2)))
def fK_left_37 (n : Nat) (S : vK) : Nat → Nat → Int32 → Int32 → Int32 → Int32 → Int32
  | 0, i, x1, x2, x3, x4 => x4
  | k + 1, i, x1, x2, x3, x4 => (if (nI i) = x1 then (fK_left_37 n S k (i + 1) x1 x2 x3 x4) else (if ((g_sx S) ((nI i) : Int32).toNatClampNeg) = x3 then (fK_left_37 n S k (i + 1) x1 x2 x3 x4) else (if (fM_isLeftOut n (g_M S) x1 (nI i)) = 0 then (fK_left_37 n S k (i + 1) x1 x2 x3 (x4 + 1)) else (fK_left_37 n S k (i + 1) x1 x2 x3 x4))))
def fK_left (n : Nat) (S : vK) (a1 : Int32) (a2 : Int32) : Int32 :=
  (if (fK_isAnimal n a1) = 0 then (-1) else (if a2 = 1 then (fK_left_37 n S n 0 a1 a2 2 0) else (if a2 = 2 then (fK_left_37 n S n 0 a1 a2 1 0) else (-1))))
def fK_odds (n : Nat) (S : vK) (a1 : Int32) (a2 : Int32) (a3 : Int32) : Int64 :=
  (if (fK_isAnimal n a1) = 0 then (-1) else (if (fK_isAnimal n a2) = 0 then (-1) else (if a1 = a2 then (-1) else (if (fF_isPart a3) = 0 then (-1) else (fM_oddsOf n (g_M S) a1 a2 a3)))))
def fK_like (n : Nat) (S : vK) (a1 : Int32) (a2 : Int32) (a3 : Int32) : Int64 :=
  (if (fK_isAnimal n a1) = 0 then (-1) else (if (fK_isAnimal n a2) = 0 then (-1) else (if (fF_isPart a3) = 0 then (-1) else (fM_likenessOf n (g_M S) a1 a2 a3))))
def fK_lost_4 (n : Nat) (S : vK) : Nat → Nat → Int32 → Int32 → Int32
  | 0, i, x1, x2 => (-1)
  | k + 1, i, x1, x2 => (if (fK_isLost n S (nI i)) = 0 then (fK_lost_4 n S k (i + 1) x1 x2) else (if x2 = x1 then (nI i) else (fK_lost_4 n S k (i + 1) x1 (x2 + 1))))
def fK_lost (n : Nat) (S : vK) (a1 : Int32) : Int32 :=
  (fK_lost_4 n S n 0 a1 0)
def fK_diverse_19 (n : Nat) (S : vK) : Nat → Nat → Int32 → Int64 → Int64 → Int64
  | 0, i, x1, x2, x4 => (if (lg_cmp x2 0) = 0 then (-1) else (fF_lowest x4 ((x2 * x2) * 1073741824) x1))
  | k + 1, i, x1, x2, x4 => (if ((g_dd S) ((nI i) : Int32).toNatClampNeg) = 0 then (fK_diverse_19 n S k (i + 1) x1 (x2 + 1) (x4 + (fK_kinWithLiving n S (nI i)))) else (fK_diverse_19 n S k (i + 1) x1 x2 x4))
def fK_diverse (n : Nat) (S : vK) (a1 : Int32) : Int64 :=
  (if (fF_isPart a1) = 0 then (-1) else (fK_diverse_19 n S n 0 a1 0 0))
def fK_animal (n : Nat) (S : vK) (a1 : Int32) (a2 : Int32) : Int32 :=
  (if (fK_isAnimal n a1) = 0 then (-1) else (if a2 = 0 then (fP_motherOf n (g_P S) a1) else (if a2 = 1 then (fP_fatherOf n (g_P S) a1) else (if a2 = 2 then ((g_sx S) (a1 : Int32).toNatClampNeg) else (if a2 = 3 then ((g_dy S) (a1 : Int32).toNatClampNeg) else (if a2 = 4 then (if ((g_dd S) (a1 : Int32).toNatClampNeg) = 0 then 1 else 0) else (if a2 = 5 then (fP_stepsOf n (g_P S) a1) else (-1))))))))
def fP_init (n : Nat) : vP :=
  (fP_reckon n ((fA_fill 24 (fun _ => 0) (-1)), (fA_fill 24 (fun _ => 0) (-1)), (fun _ => 0), (fun _ => 0), (fun _ => 0), (fun _ => 0), (fun _ => 0), (fun _ => 0), 0))
def fM_init (n : Nat) : vM :=
  (fA_fill 96 (fun _ => 0) (-1))
def fK_init (n : Nat) : vK :=
  ((fun _ => 0), (fA_fill 24 (fun _ => 0) (-1)), (fun _ => 0), fP_init n, fM_init n)
theorem has_nat {n : Nat} {a : Int32} (hn : n ≤ 24) (c : ¬ fP_has n a = 0) : ∃ i : Nat, i < n ∧ a = nI i := by
  by_cases h0 : a < 0
  · exact absurd (by rw [fP_has, if_pos h0]) c
  · by_cases h1 : nI n ≤ a
    · exact absurd (by rw [fP_has, if_neg h0, if_pos h1]) c
    · obtain ⟨j, hj, rfl⟩ := nI_of h0
      refine ⟨j, ?_, rfl⟩
      rcases Nat.lt_or_ge j n with q | q
      · exact q
      · exact absurd (nI_le q hj) h1
theorem has_in {n : Nat} {a : Int32} (hn : n ≤ 24) (c : ¬ fP_has n a = 0) : vp_in a 24 := by
  obtain ⟨i, hi, rfl⟩ := has_nat hn c
  exact vp_in_nI (by omega) (by decide)
theorem ani_in {n : Nat} {a : Int32} (hn : n ≤ 24) (c : ¬ fK_isAnimal n a = 0) : vp_in a 24 := has_in hn c
theorem kt_in {n : Nat} {a b : Int32} (hn : n ≤ 24) (ca : ¬ fP_has n a = 0) (cb : ¬ fP_has n b = 0) : vp_in (a * 24 + b) 576 := by
  obtain ⟨i, hi, rfl⟩ := has_nat hn ca
  obtain ⟨j, hj, rfl⟩ := has_nat hn cb
  show vp_in (nI i * nI 24 + nI j) 576
  rw [pk_mul, nI_add]
  exact vp_in_nI (by omega) (by decide)
theorem mhas_nat {n : Nat} {a b : Int32} (hn : n ≤ 24) (c : ¬ fM_has n a b = 0) : ∃ i j : Nat, i < n ∧ j < 4 ∧ a = nI i ∧ b = nI j := by
  by_cases h0 : a < 0
  · exact absurd (by rw [fM_has, if_pos h0]) c
  · by_cases h1 : nI n ≤ a
    · exact absurd (by rw [fM_has, if_neg h0, if_pos h1]) c
    · by_cases h2 : b < 0
      · exact absurd (by rw [fM_has, if_neg h0, if_neg h1, if_pos h2]) c
      · by_cases h3 : (4 : Int32) ≤ b
        · exact absurd (by rw [fM_has, if_neg h0, if_neg h1, if_neg h2, if_pos h3]) c
        · obtain ⟨i, hi, rfl⟩ := nI_of h0
          obtain ⟨j, hj, rfl⟩ := nI_of h2
          refine ⟨i, j, ?_, ?_, rfl, rfl⟩
          · rcases Nat.lt_or_ge i n with q | q
            · exact q
            · exact absurd (nI_le q hi) h1
          · rcases Nat.lt_or_ge j 4 with q | q
            · exact q
            · exact absurd (nI_le (a := 4) q hj) h3
theorem fm_in {n : Nat} {a b : Int32} (hn : n ≤ 24) (c : ¬ fM_has n a b = 0) : vp_in (a * 4 + b) 96 := by
  obtain ⟨i, j, hi, hj, rfl, rfl⟩ := mhas_nat hn c
  show vp_in (nI i * nI 4 + nI j) 96
  rw [pk_mul, nI_add]
  exact vp_in_nI (by omega) (by decide)
theorem fP_reckonOrder_14_le {n : Nat} : ∀ {k i x1 x2 : Nat} {S : vP}, n ≤ 24 → x1 ≤ n → (fP_reckonOrder_14 n k i x1 x2 S).1 ≤ n := by
  intro k
  induction k with
  | zero => intro i x1 x2 S _ h; exact h
  | succ k ih =>
    intro i x1 x2 S hn h
    rw [fP_reckonOrder_14]
    split
    · split
      · exact ih hn h
      · rename_i c
        exact ih hn (ord_lt h hn c)
    · exact ih hn h
theorem fP_hasForbear_01 {n : Nat} {S : vP} {a b : Int32} : fP_hasForbear n S a b = 0 ∨ fP_hasForbear n S a b = 1 := by
  unfold fP_hasForbear
  repeat' split
  all_goals first | exact Or.inl rfl | exact Or.inr rfl
theorem fM_setForm_01 {n : Nat} {S : vM} {a b d : Int32} : (fM_setForm n S a b d).1 = 0 ∨ (fM_setForm n S a b d).1 = 1 := by
  unfold fM_setForm
  repeat' split
  all_goals first | exact Or.inl rfl | exact Or.inr rfl

def f_Findings_isOpen (ar : Nat → Nat → Int32) (sc : Nat → Int32) (a0 : Int32) : Int32 :=
  if (ar 16 a0.toNatClampNeg) = 0 then
    1
  else
    0
def p_Findings_isOpen (ar : Nat → Nat → Int32) (sc : Nat → Int32) (a0 : Int32) : Prop :=
  vp_in a0 100
def f_Findings_isMissed (ar : Nat → Nat → Int32) (sc : Nat → Int32) (a0 : Int32) (a1 : Int32) : Int32 :=
  if (f_Findings_isOpen ar sc a0) = 0 then
    0
  else
    if a1 ≤ (ar 15 a0.toNatClampNeg) then
      0
    else
      1
def p_Findings_isMissed (ar : Nat → Nat → Int32) (sc : Nat → Int32) (a0 : Int32) (a1 : Int32) : Prop :=
  (p_Findings_isOpen ar sc a0) ∧ (((f_Findings_isOpen ar sc a0) = 0 → True) ∧ (¬ ((f_Findings_isOpen ar sc a0) = 0) → (vp_in a0 100)))
def f_Findings_riskOn (ar : Nat → Nat → Int32) (sc : Nat → Int32) (a0 : Int32) (a1 : Int32) : Int32 :=
  if (f_Findings_isOpen ar sc a0) = 0 then
    0
  else
    if (f_Findings_isMissed ar sc a0 a1) = 0 then
      ar 14 a0.toNatClampNeg
    else
      2 * (ar 14 a0.toNatClampNeg)
def p_Findings_riskOn (ar : Nat → Nat → Int32) (sc : Nat → Int32) (a0 : Int32) (a1 : Int32) : Prop :=
  (p_Findings_isOpen ar sc a0) ∧ (((f_Findings_isOpen ar sc a0) = 0 → True) ∧ (¬ ((f_Findings_isOpen ar sc a0) = 0) → ((p_Findings_isMissed ar sc a0 a1) ∧ (((f_Findings_isMissed ar sc a0 a1) = 0 → (vp_in a0 100)) ∧ (¬ ((f_Findings_isMissed ar sc a0 a1) = 0) → (vp_in a0 100))))))
def g_Findings_countOpen_4 (ar : Nat → Nat → Int32) (sc : Nat → Int32) (a0 : Int32)  : Nat → Int32 → Int32 → Int32 × Int32
  | 0, v2, v3 => (v2, v3)
  | n + 1, v2, v3 =>
    if (sc 2) ≤ v3 then
      (v2, v3)
    else
      if (ar 13 v3.toNatClampNeg) = a0 then
        if (f_Findings_isOpen ar sc v3) = 0 then
          g_Findings_countOpen_4 ar sc a0 n v2 (v3 + 1)
        else
          g_Findings_countOpen_4 ar sc a0 n (v2 + 1) (v3 + 1)
      else
        g_Findings_countOpen_4 ar sc a0 n v2 (v3 + 1)
def q_Findings_countOpen_4 (ar : Nat → Nat → Int32) (sc : Nat → Int32) (a0 : Int32)  : Nat → Int32 → Int32 → Prop
  | 0, _, _ => False
  | n + 1, v2, v3 =>
    ((sc 2) ≤ v3 → True) ∧ (¬ ((sc 2) ≤ v3) → ((vp_in v3 100) ∧ (((ar 13 v3.toNatClampNeg) = a0 → ((p_Findings_isOpen ar sc v3) ∧ (((f_Findings_isOpen ar sc v3) = 0 → (q_Findings_countOpen_4 ar sc a0 n v2 (v3 + 1))) ∧ (¬ ((f_Findings_isOpen ar sc v3) = 0) → (q_Findings_countOpen_4 ar sc a0 n (v2 + 1) (v3 + 1)))))) ∧ (¬ ((ar 13 v3.toNatClampNeg) = a0) → (q_Findings_countOpen_4 ar sc a0 n v2 (v3 + 1))))))
def f_Findings_countOpen (ar : Nat → Nat → Int32) (sc : Nat → Int32) (a0 : Int32) : Int32 :=
  (g_Findings_countOpen_4 ar sc a0 200 0 0).1
def p_Findings_countOpen (ar : Nat → Nat → Int32) (sc : Nat → Int32) (a0 : Int32) : Prop :=
  q_Findings_countOpen_4 ar sc a0 200 0 0
def f_Findings_add (ar : Nat → Nat → Int32) (sc : Nat → Int32) (a0 : Int32) (a1 : Int32) (a2 : Int32) : Int32 × (Nat → Nat → Int32) × (Nat → Int32) :=
  (sc 2, s2 (s2 (s2 (s2 ar 13 ((sc 2).toNatClampNeg) a0) 14 ((sc 2).toNatClampNeg) a1) 15 ((sc 2).toNatClampNeg) a2) 16 ((sc 2).toNatClampNeg) 0, sg sc 2 ((sc 2) + 1))
def p_Findings_add (ar : Nat → Nat → Int32) (sc : Nat → Int32) (a0 : Int32) (a1 : Int32) (a2 : Int32) : Prop :=
  (vp_in (sc 2) 100) ∧ ((vp_in (sc 2) 100) ∧ ((vp_in (sc 2) 100) ∧ (vp_in (sc 2) 100)))
def f_Points_add (ar : Nat → Nat → Int32) (sc : Nat → Int32) (a0 : Int32) (a1 : Int32) (a2 : Int32) (a3 : Int32) : Int32 × (Nat → Nat → Int32) × (Nat → Int32) :=
  (sc 1, s2 (s2 (s2 (s2 (s2 ar 7 ((sc 1).toNatClampNeg) a0) 8 ((sc 1).toNatClampNeg) a1) 9 ((sc 1).toNatClampNeg) a2) 10 ((sc 1).toNatClampNeg) a3) 11 ((sc 1).toNatClampNeg) (-1), sg sc 1 ((sc 1) + 1))
def p_Points_add (ar : Nat → Nat → Int32) (sc : Nat → Int32) (a0 : Int32) (a1 : Int32) (a2 : Int32) (a3 : Int32) : Prop :=
  (vp_in (sc 1) 30) ∧ ((vp_in (sc 1) 30) ∧ ((vp_in (sc 1) 30) ∧ ((vp_in (sc 1) 30) ∧ (vp_in (sc 1) 30))))
def g_Scale_classFor_4 (ar : Nat → Nat → Int32) (sc : Nat → Int32) (a0 : Int32)  : Nat → Int32 → Int32 → Int32 × Int32
  | 0, v2, v3 => (v2, v3)
  | n + 1, v2, v3 =>
    if 3 ≤ v3 then
      (v2, v3)
    else
      if a0 < (ar 3 v3.toNatClampNeg) then
        g_Scale_classFor_4 ar sc a0 n v2 (v3 + 1)
      else
        g_Scale_classFor_4 ar sc a0 n (v2 + 1) (v3 + 1)
def q_Scale_classFor_4 (ar : Nat → Nat → Int32) (sc : Nat → Int32) (a0 : Int32)  : Nat → Int32 → Int32 → Prop
  | 0, _, _ => False
  | n + 1, v2, v3 =>
    (3 ≤ v3 → True) ∧ (¬ (3 ≤ v3) → ((vp_in v3 3) ∧ ((a0 < (ar 3 v3.toNatClampNeg) → (q_Scale_classFor_4 ar sc a0 n v2 (v3 + 1))) ∧ (¬ (a0 < (ar 3 v3.toNatClampNeg)) → (q_Scale_classFor_4 ar sc a0 n (v2 + 1) (v3 + 1))))))
def f_Scale_classFor (ar : Nat → Nat → Int32) (sc : Nat → Int32) (a0 : Int32) : Int32 :=
  (g_Scale_classFor_4 ar sc a0 200 0 0).1
def p_Scale_classFor (ar : Nat → Nat → Int32) (sc : Nat → Int32) (a0 : Int32) : Prop :=
  q_Scale_classFor_4 ar sc a0 200 0 0
def f_Questions_tell (ar : Nat → Nat → Int32) (sc : Nat → Int32) (a0 : Int32) (a1 : Int32) (a2 : Int32) (a3 : Int32) : (Nat → Nat → Int32) × (Nat → Int32) :=
  (s2 (s2 (s2 (s2 ar 18 a0.toNatClampNeg (vp_nar .boolean 1)) 19 a0.toNatClampNeg a1) 20 a0.toNatClampNeg a2) 21 a0.toNatClampNeg a3, sc)
def p_Questions_tell (ar : Nat → Nat → Int32) (sc : Nat → Int32) (a0 : Int32) (a1 : Int32) (a2 : Int32) (a3 : Int32) : Prop :=
  (vp_in a0 16) ∧ ((vp_in a0 16) ∧ ((vp_in a0 16) ∧ (vp_in a0 16)))
def g_Questions_answer_9 (a0 : Int32)  : Nat → Int32 → Int32 → (Nat → Nat → Int32) → (Nat → Int32) → Int32 × (Nat → Nat → Int32) × (Nat → Int32)
  | 0, v2, v3, ar, sc => (0, ar, sc)
  | n + 1, v2, v3, ar, sc =>
    if 16 ≤ v3 then
      (1, ar, sc)
    else
      if v2 = (-1) then
        (1, ar, sc)
      else
        if (ar 18 v2.toNatClampNeg) = 0 then
          (0, ar, sc)
        else
          if (((a0.toUInt32 >>> (v2.toUInt32 &&& Int32.toUInt32 31)).toInt32) &&& 1) = 1 then
            g_Questions_answer_9 a0 n (ar 19 v2.toNatClampNeg) (v3 + 1) ar sc
          else
            if (ar 21 v2.toNatClampNeg) ≤ 0 then
              g_Questions_answer_9 a0 n (ar 20 v2.toNatClampNeg) (v3 + 1) ar sc
            else
              g_Questions_answer_9 a0 n ((s2 ar 22 ((sc 3).toNatClampNeg) (ar 21 v2.toNatClampNeg)) 20 v2.toNatClampNeg) (v3 + 1) (s2 ar 22 ((sc 3).toNatClampNeg) (ar 21 v2.toNatClampNeg)) (sg sc 3 ((sc 3) + 1))
def q_Questions_answer_9 (a0 : Int32)  : Nat → Int32 → Int32 → (Nat → Nat → Int32) → (Nat → Int32) → Prop
  | 0, _, _, _, _ => False
  | n + 1, v2, v3, ar, sc =>
    (16 ≤ v3 → True) ∧ (¬ (16 ≤ v3) → ((v2 = (-1) → True) ∧ (¬ (v2 = (-1)) → ((vp_in v2 16) ∧ (((ar 18 v2.toNatClampNeg) = 0 → True) ∧ (¬ ((ar 18 v2.toNatClampNeg) = 0) → (((((a0.toUInt32 >>> (v2.toUInt32 &&& Int32.toUInt32 31)).toInt32) &&& 1) = 1 → ((vp_in v2 16) ∧ (q_Questions_answer_9 a0 n (ar 19 v2.toNatClampNeg) (v3 + 1) ar sc))) ∧ (¬ ((((a0.toUInt32 >>> (v2.toUInt32 &&& Int32.toUInt32 31)).toInt32) &&& 1) = 1) → ((vp_in v2 16) ∧ (((ar 21 v2.toNatClampNeg) ≤ 0 → ((vp_in v2 16) ∧ (q_Questions_answer_9 a0 n (ar 20 v2.toNatClampNeg) (v3 + 1) ar sc))) ∧ (¬ ((ar 21 v2.toNatClampNeg) ≤ 0) → ((vp_in v2 16) ∧ ((vp_in (sc 3) 16) ∧ ((vp_in v2 16) ∧ (q_Questions_answer_9 a0 n ((s2 ar 22 ((sc 3).toNatClampNeg) (ar 21 v2.toNatClampNeg)) 20 v2.toNatClampNeg) (v3 + 1) (s2 ar 22 ((sc 3).toNatClampNeg) (ar 21 v2.toNatClampNeg)) (sg sc 3 ((sc 3) + 1)))))))))))))))))
def f_Questions_answer (ar : Nat → Nat → Int32) (sc : Nat → Int32) (a0 : Int32) : Int32 × (Nat → Nat → Int32) × (Nat → Int32) :=
  g_Questions_answer_9 a0 200 0 0 ar (sg sc 3 0)
def p_Questions_answer (ar : Nat → Nat → Int32) (sc : Nat → Int32) (a0 : Int32) : Prop :=
  q_Questions_answer_9 a0 200 0 0 ar (sg sc 3 0)
def f_Permits_gap (a0 : Int32) (a1 : Int32) (a2 : Int32) (a3 : Int32) : Int64 :=
  (if 0 < (if (a2 - a1) < (a0 - a3) then (a0 - a3) else (a2 - a1)) then (if (a2 - a1) < (a0 - a3) then (a0 - a3) else (a2 - a1)) else 0).toInt64
def f_Permits_groundArea (ar : Nat → Nat → Int32) (sc : Nat → Int32)  : Int64 :=
  (((sc 9) - (sc 7)).toInt64) * (((sc 10) - (sc 8)).toInt64)
def f_Permits_isTooNear (ar : Nat → Nat → Int32) (sc : Nat → Int32) (a0 : Int32) : Int32 :=
  if 0 ≤ (lg_cmp (((f_Permits_gap (sc 7) (sc 9) (ar 31 a0.toNatClampNeg) (ar 33 a0.toNatClampNeg)) * (f_Permits_gap (sc 7) (sc 9) (ar 31 a0.toNatClampNeg) (ar 33 a0.toNatClampNeg))) + ((f_Permits_gap (sc 8) (sc 10) (ar 32 a0.toNatClampNeg) (ar 34 a0.toNatClampNeg)) * (f_Permits_gap (sc 8) (sc 10) (ar 32 a0.toNatClampNeg) (ar 34 a0.toNatClampNeg)))) (((sc 12).toInt64) * ((sc 12).toInt64))) then
    0
  else
    1
def p_Permits_isTooNear (ar : Nat → Nat → Int32) (sc : Nat → Int32) (a0 : Int32) : Prop :=
  (vp_in a0 30) ∧ ((vp_in a0 30) ∧ ((vp_in a0 30) ∧ (vp_in a0 30)))
def g_Permits_findClash_32 (ar : Nat → Nat → Int32) (sc : Nat → Int32) (a0 : Int32) (a1 : Int32) (a2 : Int32)  : Nat → Int32 → Int32
  | 0, v4 => (0)
  | n + 1, v4 =>
    if (sc 5) ≤ v4 then
      (-1)
    else
      if (ar 36 v4.toNatClampNeg) ≤ a0 then
        g_Permits_findClash_32 ar sc a0 a1 a2 n (v4 + 1)
      else
        if a1 ≤ (ar 35 v4.toNatClampNeg) then
          g_Permits_findClash_32 ar sc a0 a1 a2 n (v4 + 1)
        else
          if (f_Permits_isTooNear ar sc v4) = 0 then
            g_Permits_findClash_32 ar sc a0 a1 a2 n (v4 + 1)
          else
            v4
def q_Permits_findClash_32 (ar : Nat → Nat → Int32) (sc : Nat → Int32) (a0 : Int32) (a1 : Int32) (a2 : Int32)  : Nat → Int32 → Prop
  | 0, _ => False
  | n + 1, v4 =>
    ((sc 5) ≤ v4 → True) ∧ (¬ ((sc 5) ≤ v4) → ((vp_in v4 30) ∧ (((ar 36 v4.toNatClampNeg) ≤ a0 → (q_Permits_findClash_32 ar sc a0 a1 a2 n (v4 + 1))) ∧ (¬ ((ar 36 v4.toNatClampNeg) ≤ a0) → ((vp_in v4 30) ∧ ((a1 ≤ (ar 35 v4.toNatClampNeg) → (q_Permits_findClash_32 ar sc a0 a1 a2 n (v4 + 1))) ∧ (¬ (a1 ≤ (ar 35 v4.toNatClampNeg)) → ((p_Permits_isTooNear ar sc v4) ∧ (((f_Permits_isTooNear ar sc v4) = 0 → (q_Permits_findClash_32 ar sc a0 a1 a2 n (v4 + 1))) ∧ (¬ ((f_Permits_isTooNear ar sc v4) = 0) → True))))))))))
def f_Permits_findClash (ar : Nat → Nat → Int32) (sc : Nat → Int32) (a0 : Int32) (a1 : Int32) (a2 : Int32) : Int32 :=
  if (sc 6) = 0 then
    (-2)
  else
    if 0 ≤ (lg_cmp (f_Permits_groundArea ar sc) (a2.toInt64 * ((sc 11).toInt64))) then
      g_Permits_findClash_32 ar sc a0 a1 a2 200 0
    else
      (-3)
def p_Permits_findClash (ar : Nat → Nat → Int32) (sc : Nat → Int32) (a0 : Int32) (a1 : Int32) (a2 : Int32) : Prop :=
  ((sc 6) = 0 → True) ∧ (¬ ((sc 6) = 0) → ((0 ≤ (lg_cmp (f_Permits_groundArea ar sc) (a2.toInt64 * ((sc 11).toInt64))) → (q_Permits_findClash_32 ar sc a0 a1 a2 200 0)) ∧ (¬ (0 ≤ (lg_cmp (f_Permits_groundArea ar sc) (a2.toInt64 * ((sc 11).toInt64)))) → True)))
def f_Permits_tellGround (ar : Nat → Nat → Int32) (sc : Nat → Int32) (a0 : Int32) (a1 : Int32) (a2 : Int32) (a3 : Int32) : (Nat → Nat → Int32) × (Nat → Int32) :=
  (ar, sg (sg (sg (sg (sg sc 6 1) 7 a0) 8 a1) 9 a2) 10 a3)
def f_Permits_add (ar : Nat → Nat → Int32) (sc : Nat → Int32) (a0 : Int32) (a1 : Int32) : Int32 × (Nat → Nat → Int32) × (Nat → Int32) :=
  (sc 5, s2 (s2 (s2 (s2 (s2 (s2 ar 31 ((sc 5).toNatClampNeg) (sc 7)) 32 ((sc 5).toNatClampNeg) (sc 8)) 33 ((sc 5).toNatClampNeg) (sc 9)) 34 ((sc 5).toNatClampNeg) (sc 10)) 35 ((sc 5).toNatClampNeg) a0) 36 ((sc 5).toNatClampNeg) a1, sg sc 5 ((sc 5) + 1))
def p_Permits_add (ar : Nat → Nat → Int32) (sc : Nat → Int32) (a0 : Int32) (a1 : Int32) : Prop :=
  (vp_in (sc 5) 30) ∧ ((vp_in (sc 5) 30) ∧ ((vp_in (sc 5) 30) ∧ ((vp_in (sc 5) 30) ∧ ((vp_in (sc 5) 30) ∧ (vp_in (sc 5) 30)))))
def f_Route_metresBy (ar : Nat → Nat → Int32) (sc : Nat → Int32) (a0 : Int32) (a1 : Int32) (a2 : Int32) : Int32 :=
  (ar 27 (((a1 * 8) + a2).toNatClampNeg)) + (ar 28 ((((a0 ||| ((1 : Int32) <<< (a2 &&& 31))) * 8) + a2).toNatClampNeg))
def p_Route_metresBy (ar : Nat → Nat → Int32) (sc : Nat → Int32) (a0 : Int32) (a1 : Int32) (a2 : Int32) : Prop :=
  (vp_in ((a1 * 8) + a2) 64) ∧ (vp_in (((a0 ||| ((1 : Int32) <<< (a2 &&& 31))) * 8) + a2) 1024)
def g_Route_firstLeastNext_12 (ar : Nat → Nat → Int32) (sc : Nat → Int32) (a0 : Int32) (a1 : Int32)  : Nat → Int32 → Int32 → Int32 → Int32 × Int32 × Int32
  | 0, v3, v4, v5 => (v3, v4, v5)
  | n + 1, v3, v4, v5 =>
    if (sc 4) ≤ v5 then
      (v3, v4, v5)
    else
      if (a0 &&& ((1 : Int32) <<< (v5 &&& 31))) = 0 then
        if v4 ≤ (f_Route_metresBy ar sc a0 a1 v5) then
          g_Route_firstLeastNext_12 ar sc a0 a1 n v3 v4 (v5 + 1)
        else
          g_Route_firstLeastNext_12 ar sc a0 a1 n v5 (f_Route_metresBy ar sc a0 a1 v5) (v5 + 1)
      else
        g_Route_firstLeastNext_12 ar sc a0 a1 n v3 v4 (v5 + 1)
def q_Route_firstLeastNext_12 (ar : Nat → Nat → Int32) (sc : Nat → Int32) (a0 : Int32) (a1 : Int32)  : Nat → Int32 → Int32 → Int32 → Prop
  | 0, _, _, _ => False
  | n + 1, v3, v4, v5 =>
    ((sc 4) ≤ v5 → True) ∧ (¬ ((sc 4) ≤ v5) → (((a0 &&& ((1 : Int32) <<< (v5 &&& 31))) = 0 → ((p_Route_metresBy ar sc a0 a1 v5) ∧ ((v4 ≤ (f_Route_metresBy ar sc a0 a1 v5) → (q_Route_firstLeastNext_12 ar sc a0 a1 n v3 v4 (v5 + 1))) ∧ (¬ (v4 ≤ (f_Route_metresBy ar sc a0 a1 v5)) → (q_Route_firstLeastNext_12 ar sc a0 a1 n v5 (f_Route_metresBy ar sc a0 a1 v5) (v5 + 1)))))) ∧ (¬ ((a0 &&& ((1 : Int32) <<< (v5 &&& 31))) = 0) → (q_Route_firstLeastNext_12 ar sc a0 a1 n v3 v4 (v5 + 1)))))
def f_Route_firstLeastNext (ar : Nat → Nat → Int32) (sc : Nat → Int32) (a0 : Int32) (a1 : Int32) : Int32 :=
  (g_Route_firstLeastNext_12 ar sc a0 a1 200 (sc 4) 2147483647 0).1
def p_Route_firstLeastNext (ar : Nat → Nat → Int32) (sc : Nat → Int32) (a0 : Int32) (a1 : Int32) : Prop :=
  q_Route_firstLeastNext_12 ar sc a0 a1 200 (sc 4) 2147483647 0
def f_Route_tell (ar : Nat → Nat → Int32) (sc : Nat → Int32) (a0 : Int32) (a1 : Int32) (a2 : Int32) (a3 : Int32) : (Nat → Nat → Int32) × (Nat → Int32) :=
  (s2 (s2 (s2 ar 24 a0.toNatClampNeg a1) 25 a0.toNatClampNeg a2) 26 a0.toNatClampNeg a3, sc)
def p_Route_tell (ar : Nat → Nat → Int32) (sc : Nat → Int32) (a0 : Int32) (a1 : Int32) (a2 : Int32) (a3 : Int32) : Prop :=
  (vp_in a0 7) ∧ ((vp_in a0 8) ∧ (vp_in a0 8))
def g_Route_fillLegs_12  (u1 : Int32) : Nat → Int32 → (Nat → Nat → Int32) → (Nat → Int32) → Int32 × (Nat → Nat → Int32) × (Nat → Int32)
  | 0, v2, ar, sc => (v2, ar, sc)
  | n + 1, v2, ar, sc =>
    if (sc 4) < v2 then
      (v2, ar, sc)
    else
      g_Route_fillLegs_12 u1 n (v2 + 1) (s2 ar 27 (((u1 * 8) + v2).toNatClampNeg) ((if 0 ≤ ((ar 25 u1.toNatClampNeg) - (ar 25 v2.toNatClampNeg)) then ((ar 25 u1.toNatClampNeg) - (ar 25 v2.toNatClampNeg)) else 0 - ((ar 25 u1.toNatClampNeg) - (ar 25 v2.toNatClampNeg))) + (if 0 ≤ ((ar 26 u1.toNatClampNeg) - (ar 26 v2.toNatClampNeg)) then ((ar 26 u1.toNatClampNeg) - (ar 26 v2.toNatClampNeg)) else 0 - ((ar 26 u1.toNatClampNeg) - (ar 26 v2.toNatClampNeg))))) sc
def q_Route_fillLegs_12  (u1 : Int32) : Nat → Int32 → (Nat → Nat → Int32) → (Nat → Int32) → Prop
  | 0, _, _, _ => False
  | n + 1, v2, ar, sc =>
    ((sc 4) < v2 → True) ∧ (¬ ((sc 4) < v2) → ((vp_in u1 8) ∧ ((vp_in v2 8) ∧ ((vp_in u1 8) ∧ ((vp_in v2 8) ∧ ((vp_in ((u1 * 8) + v2) 64) ∧ (q_Route_fillLegs_12 u1 n (v2 + 1) (s2 ar 27 (((u1 * 8) + v2).toNatClampNeg) ((if 0 ≤ ((ar 25 u1.toNatClampNeg) - (ar 25 v2.toNatClampNeg)) then ((ar 25 u1.toNatClampNeg) - (ar 25 v2.toNatClampNeg)) else 0 - ((ar 25 u1.toNatClampNeg) - (ar 25 v2.toNatClampNeg))) + (if 0 ≤ ((ar 26 u1.toNatClampNeg) - (ar 26 v2.toNatClampNeg)) then ((ar 26 u1.toNatClampNeg) - (ar 26 v2.toNatClampNeg)) else 0 - ((ar 26 u1.toNatClampNeg) - (ar 26 v2.toNatClampNeg))))) sc)))))))
def g_Route_fillLegs_2   : Nat → Int32 → (Nat → Nat → Int32) → (Nat → Int32) → Int32 × (Nat → Nat → Int32) × (Nat → Int32)
  | 0, v1, ar, sc => (v1, ar, sc)
  | n + 1, v1, ar, sc =>
    if (sc 4) < v1 then
      (v1, ar, sc)
    else
      g_Route_fillLegs_2 n (v1 + 1) ((g_Route_fillLegs_12 v1 200 0 ar sc).2.1) ((g_Route_fillLegs_12 v1 200 0 ar sc).2.2)
def q_Route_fillLegs_2   : Nat → Int32 → (Nat → Nat → Int32) → (Nat → Int32) → Prop
  | 0, _, _, _ => False
  | n + 1, v1, ar, sc =>
    ((sc 4) < v1 → True) ∧ (¬ ((sc 4) < v1) → ((q_Route_fillLegs_12 v1 200 0 ar sc) ∧ (q_Route_fillLegs_2 n (v1 + 1) ((g_Route_fillLegs_12 v1 200 0 ar sc).2.1) ((g_Route_fillLegs_12 v1 200 0 ar sc).2.2))))
def f_Route_fillLegs (ar : Nat → Nat → Int32) (sc : Nat → Int32)  : (Nat → Nat → Int32) × (Nat → Int32) :=
  ((g_Route_fillLegs_2 200 0 ar sc).2.1, (g_Route_fillLegs_2 200 0 ar sc).2.2)
def p_Route_fillLegs (ar : Nat → Nat → Int32) (sc : Nat → Int32)  : Prop :=
  q_Route_fillLegs_2 200 0 ar sc
def g_Route_fillLeastHome_11  (u1 : Int32) : Nat → Int32 → (Nat → Nat → Int32) → (Nat → Int32) → Int32 × (Nat → Nat → Int32) × (Nat → Int32)
  | 0, v2, ar, sc => (v2, ar, sc)
  | n + 1, v2, ar, sc =>
    if (sc 4) < v2 then
      (v2, ar, sc)
    else
      g_Route_fillLeastHome_11 u1 n (v2 + 1) (s2 ar 28 (((u1 * 8) + v2).toNatClampNeg) (ar 27 (((v2 * 8) + (sc 4)).toNatClampNeg))) sc
def q_Route_fillLeastHome_11  (u1 : Int32) : Nat → Int32 → (Nat → Nat → Int32) → (Nat → Int32) → Prop
  | 0, _, _, _ => False
  | n + 1, v2, ar, sc =>
    ((sc 4) < v2 → True) ∧ (¬ ((sc 4) < v2) → ((vp_in ((v2 * 8) + (sc 4)) 64) ∧ ((vp_in ((u1 * 8) + v2) 1024) ∧ (q_Route_fillLeastHome_11 u1 n (v2 + 1) (s2 ar 28 (((u1 * 8) + v2).toNatClampNeg) (ar 27 (((v2 * 8) + (sc 4)).toNatClampNeg))) sc))))
def g_Route_fillLeastHome_60  (u1 : Int32) (u2 : Int32) : Nat → Int32 → (Nat → Nat → Int32) → (Nat → Int32) → Int32 × (Nat → Nat → Int32) × (Nat → Int32)
  | 0, v3, ar, sc => (v3, ar, sc)
  | n + 1, v3, ar, sc =>
    if (sc 4) < v3 then
      (v3, ar, sc)
    else
      g_Route_fillLeastHome_60 u1 u2 n (v3 + 1) (s2 ar 28 (((u2 * 8) + v3).toNatClampNeg) (f_Route_metresBy ar sc u2 v3 (f_Route_firstLeastNext ar sc u2 v3))) sc
def q_Route_fillLeastHome_60  (u1 : Int32) (u2 : Int32) : Nat → Int32 → (Nat → Nat → Int32) → (Nat → Int32) → Prop
  | 0, _, _, _ => False
  | n + 1, v3, ar, sc =>
    ((sc 4) < v3 → True) ∧ (¬ ((sc 4) < v3) → ((p_Route_firstLeastNext ar sc u2 v3) ∧ ((p_Route_metresBy ar sc u2 v3 (f_Route_firstLeastNext ar sc u2 v3)) ∧ ((vp_in ((u2 * 8) + v3) 1024) ∧ (q_Route_fillLeastHome_60 u1 u2 n (v3 + 1) (s2 ar 28 (((u2 * 8) + v3).toNatClampNeg) (f_Route_metresBy ar sc u2 v3 (f_Route_firstLeastNext ar sc u2 v3))) sc)))))
def g_Route_fillLeastHome_54  (u1 : Int32) : Nat → Int32 → (Nat → Nat → Int32) → (Nat → Int32) → Int32 × (Nat → Nat → Int32) × (Nat → Int32)
  | 0, v2, ar, sc => (v2, ar, sc)
  | n + 1, v2, ar, sc =>
    if v2 < 0 then
      (v2, ar, sc)
    else
      g_Route_fillLeastHome_54 u1 n (v2 + (-1)) ((g_Route_fillLeastHome_60 u1 v2 200 0 ar sc).2.1) ((g_Route_fillLeastHome_60 u1 v2 200 0 ar sc).2.2)
def q_Route_fillLeastHome_54  (u1 : Int32) : Nat → Int32 → (Nat → Nat → Int32) → (Nat → Int32) → Prop
  | 0, _, _, _ => False
  | n + 1, v2, ar, sc =>
    (v2 < 0 → True) ∧ (¬ (v2 < 0) → ((q_Route_fillLeastHome_60 u1 v2 200 0 ar sc) ∧ (q_Route_fillLeastHome_54 u1 n (v2 + (-1)) ((g_Route_fillLeastHome_60 u1 v2 200 0 ar sc).2.1) ((g_Route_fillLeastHome_60 u1 v2 200 0 ar sc).2.2))))
def f_Route_fillLeastHome (ar : Nat → Nat → Int32) (sc : Nat → Int32)  : (Nat → Nat → Int32) × (Nat → Int32) :=
  ((g_Route_fillLeastHome_54 (((1 : Int32) <<< ((sc 4) &&& 31)) - 1) 200 ((((1 : Int32) <<< ((sc 4) &&& 31)) - 1) - 1) ((g_Route_fillLeastHome_11 (((1 : Int32) <<< ((sc 4) &&& 31)) - 1) 200 0 ar sc).2.1) ((g_Route_fillLeastHome_11 (((1 : Int32) <<< ((sc 4) &&& 31)) - 1) 200 0 ar sc).2.2)).2.1, (g_Route_fillLeastHome_54 (((1 : Int32) <<< ((sc 4) &&& 31)) - 1) 200 ((((1 : Int32) <<< ((sc 4) &&& 31)) - 1) - 1) ((g_Route_fillLeastHome_11 (((1 : Int32) <<< ((sc 4) &&& 31)) - 1) 200 0 ar sc).2.1) ((g_Route_fillLeastHome_11 (((1 : Int32) <<< ((sc 4) &&& 31)) - 1) 200 0 ar sc).2.2)).2.2)
def p_Route_fillLeastHome (ar : Nat → Nat → Int32) (sc : Nat → Int32)  : Prop :=
  (q_Route_fillLeastHome_11 (((1 : Int32) <<< ((sc 4) &&& 31)) - 1) 200 0 ar sc) ∧ (q_Route_fillLeastHome_54 (((1 : Int32) <<< ((sc 4) &&& 31)) - 1) 200 ((((1 : Int32) <<< ((sc 4) &&& 31)) - 1) - 1) ((g_Route_fillLeastHome_11 (((1 : Int32) <<< ((sc 4) &&& 31)) - 1) 200 0 ar sc).2.1) ((g_Route_fillLeastHome_11 (((1 : Int32) <<< ((sc 4) &&& 31)) - 1) 200 0 ar sc).2.2))
def g_Route_fillStops_9   : Nat → Int32 → Int32 → Int32 → (Nat → Nat → Int32) → (Nat → Int32) → Int32 × Int32 × Int32 × (Nat → Nat → Int32) × (Nat → Int32)
  | 0, v1, v2, v3, ar, sc => (v1, v2, v3, ar, sc)
  | n + 1, v1, v2, v3, ar, sc =>
    if (sc 4) ≤ v3 then
      (v1, v2, v3, ar, sc)
    else
      g_Route_fillStops_9 n (v1 ||| ((1 : Int32) <<< ((f_Route_firstLeastNext ar sc v1 v2) &&& 31))) (f_Route_firstLeastNext ar sc v1 v2) (v3 + 1) (s2 ar 29 v3.toNatClampNeg (ar 24 ((f_Route_firstLeastNext ar sc v1 v2).toNatClampNeg))) sc
def q_Route_fillStops_9   : Nat → Int32 → Int32 → Int32 → (Nat → Nat → Int32) → (Nat → Int32) → Prop
  | 0, _, _, _, _, _ => False
  | n + 1, v1, v2, v3, ar, sc =>
    ((sc 4) ≤ v3 → True) ∧ (¬ ((sc 4) ≤ v3) → ((p_Route_firstLeastNext ar sc v1 v2) ∧ ((vp_in (f_Route_firstLeastNext ar sc v1 v2) 7) ∧ ((vp_in v3 7) ∧ (q_Route_fillStops_9 n (v1 ||| ((1 : Int32) <<< ((f_Route_firstLeastNext ar sc v1 v2) &&& 31))) (f_Route_firstLeastNext ar sc v1 v2) (v3 + 1) (s2 ar 29 v3.toNatClampNeg (ar 24 ((f_Route_firstLeastNext ar sc v1 v2).toNatClampNeg))) sc)))))
def f_Route_fillStops (ar : Nat → Nat → Int32) (sc : Nat → Int32)  : (Nat → Nat → Int32) × (Nat → Int32) :=
  ((g_Route_fillStops_9 200 0 (sc 4) 0 ar sc).2.2.2.1, (g_Route_fillStops_9 200 0 (sc 4) 0 ar sc).2.2.2.2)
def p_Route_fillStops (ar : Nat → Nat → Int32) (sc : Nat → Int32)  : Prop :=
  q_Route_fillStops_9 200 0 (sc 4) 0 ar sc
def f_Route_findLeast (ar : Nat → Nat → Int32) (sc : Nat → Int32) (a0 : Int32) : Int32 × (Nat → Nat → Int32) × (Nat → Int32) :=
  (((f_Route_fillStops ((f_Route_fillLeastHome ((f_Route_fillLegs (s2 (s2 ar 25 a0.toNatClampNeg 0) 26 a0.toNatClampNeg 0) (sg sc 4 a0) ).1) ((f_Route_fillLegs (s2 (s2 ar 25 a0.toNatClampNeg 0) 26 a0.toNatClampNeg 0) (sg sc 4 a0) ).2) ).1) ((f_Route_fillLeastHome ((f_Route_fillLegs (s2 (s2 ar 25 a0.toNatClampNeg 0) 26 a0.toNatClampNeg 0) (sg sc 4 a0) ).1) ((f_Route_fillLegs (s2 (s2 ar 25 a0.toNatClampNeg 0) 26 a0.toNatClampNeg 0) (sg sc 4 a0) ).2) ).2) ).1) 28 ((((f_Route_fillStops ((f_Route_fillLeastHome ((f_Route_fillLegs (s2 (s2 ar 25 a0.toNatClampNeg 0) 26 a0.toNatClampNeg 0) (sg sc 4 a0) ).1) ((f_Route_fillLegs (s2 (s2 ar 25 a0.toNatClampNeg 0) 26 a0.toNatClampNeg 0) (sg sc 4 a0) ).2) ).1) ((f_Route_fillLeastHome ((f_Route_fillLegs (s2 (s2 ar 25 a0.toNatClampNeg 0) 26 a0.toNatClampNeg 0) (sg sc 4 a0) ).1) ((f_Route_fillLegs (s2 (s2 ar 25 a0.toNatClampNeg 0) 26 a0.toNatClampNeg 0) (sg sc 4 a0) ).2) ).2) ).2) 4).toNatClampNeg), (f_Route_fillStops ((f_Route_fillLeastHome ((f_Route_fillLegs (s2 (s2 ar 25 a0.toNatClampNeg 0) 26 a0.toNatClampNeg 0) (sg sc 4 a0) ).1) ((f_Route_fillLegs (s2 (s2 ar 25 a0.toNatClampNeg 0) 26 a0.toNatClampNeg 0) (sg sc 4 a0) ).2) ).1) ((f_Route_fillLeastHome ((f_Route_fillLegs (s2 (s2 ar 25 a0.toNatClampNeg 0) 26 a0.toNatClampNeg 0) (sg sc 4 a0) ).1) ((f_Route_fillLegs (s2 (s2 ar 25 a0.toNatClampNeg 0) 26 a0.toNatClampNeg 0) (sg sc 4 a0) ).2) ).2) ).1, (f_Route_fillStops ((f_Route_fillLeastHome ((f_Route_fillLegs (s2 (s2 ar 25 a0.toNatClampNeg 0) 26 a0.toNatClampNeg 0) (sg sc 4 a0) ).1) ((f_Route_fillLegs (s2 (s2 ar 25 a0.toNatClampNeg 0) 26 a0.toNatClampNeg 0) (sg sc 4 a0) ).2) ).1) ((f_Route_fillLeastHome ((f_Route_fillLegs (s2 (s2 ar 25 a0.toNatClampNeg 0) 26 a0.toNatClampNeg 0) (sg sc 4 a0) ).1) ((f_Route_fillLegs (s2 (s2 ar 25 a0.toNatClampNeg 0) 26 a0.toNatClampNeg 0) (sg sc 4 a0) ).2) ).2) ).2)
def p_Route_findLeast (ar : Nat → Nat → Int32) (sc : Nat → Int32) (a0 : Int32) : Prop :=
  (vp_in a0 8) ∧ ((vp_in a0 8) ∧ ((p_Route_fillLegs (s2 (s2 ar 25 a0.toNatClampNeg 0) 26 a0.toNatClampNeg 0) (sg sc 4 a0) ) ∧ ((p_Route_fillLeastHome ((f_Route_fillLegs (s2 (s2 ar 25 a0.toNatClampNeg 0) 26 a0.toNatClampNeg 0) (sg sc 4 a0) ).1) ((f_Route_fillLegs (s2 (s2 ar 25 a0.toNatClampNeg 0) 26 a0.toNatClampNeg 0) (sg sc 4 a0) ).2) ) ∧ ((p_Route_fillStops ((f_Route_fillLeastHome ((f_Route_fillLegs (s2 (s2 ar 25 a0.toNatClampNeg 0) 26 a0.toNatClampNeg 0) (sg sc 4 a0) ).1) ((f_Route_fillLegs (s2 (s2 ar 25 a0.toNatClampNeg 0) 26 a0.toNatClampNeg 0) (sg sc 4 a0) ).2) ).1) ((f_Route_fillLeastHome ((f_Route_fillLegs (s2 (s2 ar 25 a0.toNatClampNeg 0) 26 a0.toNatClampNeg 0) (sg sc 4 a0) ).1) ((f_Route_fillLegs (s2 (s2 ar 25 a0.toNatClampNeg 0) 26 a0.toNatClampNeg 0) (sg sc 4 a0) ).2) ).2) ) ∧ (vp_in (((f_Route_fillStops ((f_Route_fillLeastHome ((f_Route_fillLegs (s2 (s2 ar 25 a0.toNatClampNeg 0) 26 a0.toNatClampNeg 0) (sg sc 4 a0) ).1) ((f_Route_fillLegs (s2 (s2 ar 25 a0.toNatClampNeg 0) 26 a0.toNatClampNeg 0) (sg sc 4 a0) ).2) ).1) ((f_Route_fillLeastHome ((f_Route_fillLegs (s2 (s2 ar 25 a0.toNatClampNeg 0) 26 a0.toNatClampNeg 0) (sg sc 4 a0) ).1) ((f_Route_fillLegs (s2 (s2 ar 25 a0.toNatClampNeg 0) 26 a0.toNatClampNeg 0) (sg sc 4 a0) ).2) ).2) ).2) 4) 1024)))))
def f_Ir_isWithin (a0 : Int32) (a1 : Int32) (a2 : Int32) : Int32 :=
  if a0 < a1 then
    0
  else
    if a2 < a0 then
      0
    else
      1
def f_Ir_isKind (a0 : Int32) : Int32 :=
  f_Ir_isWithin a0 0 4
def f_Ir_isPoint (ar : Nat → Nat → Int32) (sc : Nat → Int32) (a0 : Int32) : Int32 :=
  if a0 < 0 then
    0
  else
    if (sc 1) ≤ a0 then
      0
    else
      1
def f_Ir_isFinding (ar : Nat → Nat → Int32) (sc : Nat → Int32) (a0 : Int32) : Int32 :=
  if a0 < 0 then
    0
  else
    if (sc 2) ≤ a0 then
      0
    else
      1
def f_Ir_isSide (a0 : Int32) (a1 : Int32) : Int32 :=
  if a0 < (-10000000) then
    0
  else
    if a1 ≤ a0 then
      0
    else
      if 10000000 < a1 then
        0
      else
        1
def f_Ir_canLead (a0 : Int32) (a1 : Int32) : Int32 :=
  if a1 = (-1) then
    1
  else
    if (f_Ir_isWithin a1 (a0 + 1) 15) = 0 then
      0
    else
      1
def f_Ir_toldPoint (a0 : Int64) (a1 : Int32) : Int32 :=
  (((a0.toUInt64 >>> ((5 * a1).toInt64.toUInt64 &&& Int64.toUInt64 63)).toInt64).toInt32) &&& 31
def g_Ir_areAllPoints_3 (ar : Nat → Nat → Int32) (sc : Nat → Int32) (a0 : Int64) (a1 : Int32)  : Nat → Int32 → Int32
  | 0, v4 => (0)
  | n + 1, v4 =>
    if a1 ≤ v4 then
      1
    else
      if (f_Ir_isPoint ar sc (f_Ir_toldPoint a0 v4)) = 0 then
        0
      else
        g_Ir_areAllPoints_3 ar sc a0 a1 n (v4 + 1)
def q_Ir_areAllPoints_3 (ar : Nat → Nat → Int32) (sc : Nat → Int32) (a0 : Int64) (a1 : Int32)  : Nat → Int32 → Prop
  | 0, _ => False
  | n + 1, v4 =>
    (a1 ≤ v4 → True) ∧ (¬ (a1 ≤ v4) → (((f_Ir_isPoint ar sc (f_Ir_toldPoint a0 v4)) = 0 → True) ∧ (¬ ((f_Ir_isPoint ar sc (f_Ir_toldPoint a0 v4)) = 0) → (q_Ir_areAllPoints_3 ar sc a0 a1 n (v4 + 1)))))
def f_Ir_areAllPoints (ar : Nat → Nat → Int32) (sc : Nat → Int32) (a0 : Int64) (a1 : Int32) : Int32 :=
  g_Ir_areAllPoints_3 ar sc a0 a1 200 0
def p_Ir_areAllPoints (ar : Nat → Nat → Int32) (sc : Nat → Int32) (a0 : Int64) (a1 : Int32) : Prop :=
  q_Ir_areAllPoints_3 ar sc a0 a1 200 0
def g_Ir_areAllDifferent_5 (a0 : Int64) (a1 : Int32)  : Nat → Int32 → Int32 → Int32
  | 0, v3, v4 => (0)
  | n + 1, v3, v4 =>
    if a1 ≤ v4 then
      1
    else
      if (v3 &&& ((1 : Int32) <<< ((f_Ir_toldPoint a0 v4) &&& 31))) = 0 then
        g_Ir_areAllDifferent_5 a0 a1 n (v3 ||| ((1 : Int32) <<< ((f_Ir_toldPoint a0 v4) &&& 31))) (v4 + 1)
      else
        0
def q_Ir_areAllDifferent_5 (a0 : Int64) (a1 : Int32)  : Nat → Int32 → Int32 → Prop
  | 0, _, _ => False
  | n + 1, v3, v4 =>
    (a1 ≤ v4 → True) ∧ (¬ (a1 ≤ v4) → (((v3 &&& ((1 : Int32) <<< ((f_Ir_toldPoint a0 v4) &&& 31))) = 0 → (q_Ir_areAllDifferent_5 a0 a1 n (v3 ||| ((1 : Int32) <<< ((f_Ir_toldPoint a0 v4) &&& 31))) (v4 + 1))) ∧ (¬ ((v3 &&& ((1 : Int32) <<< ((f_Ir_toldPoint a0 v4) &&& 31))) = 0) → True)))
def f_Ir_areAllDifferent (a0 : Int64) (a1 : Int32) : Int32 :=
  g_Ir_areAllDifferent_5 a0 a1 200 0 0
def p_Ir_areAllDifferent (a0 : Int64) (a1 : Int32) : Prop :=
  q_Ir_areAllDifferent_5 a0 a1 200 0 0
def g_Ir_fillRisks_2   : Nat → Int32 → (Nat → Nat → Int32) → (Nat → Int32) → Int32 × (Nat → Nat → Int32) × (Nat → Int32)
  | 0, v1, ar, sc => (v1, ar, sc)
  | n + 1, v1, ar, sc =>
    if (sc 1) ≤ v1 then
      (v1, ar, sc)
    else
      g_Ir_fillRisks_2 n (v1 + 1) (s2 ar 37 v1.toNatClampNeg ((ar 2 ((ar 7 v1.toNatClampNeg).toNatClampNeg)) + (ar 8 v1.toNatClampNeg))) sc
def q_Ir_fillRisks_2   : Nat → Int32 → (Nat → Nat → Int32) → (Nat → Int32) → Prop
  | 0, _, _, _ => False
  | n + 1, v1, ar, sc =>
    ((sc 1) ≤ v1 → True) ∧ (¬ ((sc 1) ≤ v1) → ((vp_in v1 30) ∧ ((vp_in (ar 7 v1.toNatClampNeg) 5) ∧ ((vp_in v1 30) ∧ ((vp_in v1 30) ∧ (q_Ir_fillRisks_2 n (v1 + 1) (s2 ar 37 v1.toNatClampNeg ((ar 2 ((ar 7 v1.toNatClampNeg).toNatClampNeg)) + (ar 8 v1.toNatClampNeg))) sc))))))
def g_Ir_fillRisks_54   : Nat → Int32 → (Nat → Nat → Int32) → (Nat → Int32) → Int32 × (Nat → Nat → Int32) × (Nat → Int32)
  | 0, v1, ar, sc => (v1, ar, sc)
  | n + 1, v1, ar, sc =>
    if (sc 2) ≤ v1 then
      (v1, ar, sc)
    else
      g_Ir_fillRisks_54 n (v1 + 1) (s2 ar 37 ((ar 13 v1.toNatClampNeg).toNatClampNeg) ((ar 37 ((ar 13 v1.toNatClampNeg).toNatClampNeg)) + (f_Findings_riskOn ar sc v1 (sc 0)))) sc
def q_Ir_fillRisks_54   : Nat → Int32 → (Nat → Nat → Int32) → (Nat → Int32) → Prop
  | 0, _, _, _ => False
  | n + 1, v1, ar, sc =>
    ((sc 2) ≤ v1 → True) ∧ (¬ ((sc 2) ≤ v1) → ((vp_in v1 100) ∧ ((vp_in (ar 13 v1.toNatClampNeg) 30) ∧ ((p_Findings_riskOn ar sc v1 (sc 0)) ∧ ((vp_in (ar 13 v1.toNatClampNeg) 30) ∧ (q_Ir_fillRisks_54 n (v1 + 1) (s2 ar 37 ((ar 13 v1.toNatClampNeg).toNatClampNeg) ((ar 37 ((ar 13 v1.toNatClampNeg).toNatClampNeg)) + (f_Findings_riskOn ar sc v1 (sc 0)))) sc))))))
def f_Ir_fillRisks (ar : Nat → Nat → Int32) (sc : Nat → Int32)  : (Nat → Nat → Int32) × (Nat → Int32) :=
  ((g_Ir_fillRisks_54 200 0 ((g_Ir_fillRisks_2 200 0 ar sc).2.1) ((g_Ir_fillRisks_2 200 0 ar sc).2.2)).2.1, (g_Ir_fillRisks_54 200 0 ((g_Ir_fillRisks_2 200 0 ar sc).2.1) ((g_Ir_fillRisks_2 200 0 ar sc).2.2)).2.2)
def p_Ir_fillRisks (ar : Nat → Nat → Int32) (sc : Nat → Int32)  : Prop :=
  (q_Ir_fillRisks_2 200 0 ar sc) ∧ (q_Ir_fillRisks_54 200 0 ((g_Ir_fillRisks_2 200 0 ar sc).2.1) ((g_Ir_fillRisks_2 200 0 ar sc).2.2))
def f_Ir_riskOf (ar : Nat → Nat → Int32) (sc : Nat → Int32) (a0 : Int32) : Int32 × (Nat → Nat → Int32) × (Nat → Int32) :=
  (((f_Ir_fillRisks ar sc ).1) 37 a0.toNatClampNeg, (f_Ir_fillRisks ar sc ).1, (f_Ir_fillRisks ar sc ).2)
def p_Ir_riskOf (ar : Nat → Nat → Int32) (sc : Nat → Int32) (a0 : Int32) : Prop :=
  (p_Ir_fillRisks ar sc ) ∧ (vp_in a0 30)
def f_Ir_classOf (ar : Nat → Nat → Int32) (sc : Nat → Int32) (a0 : Int32) : Int32 × (Nat → Nat → Int32) × (Nat → Int32) :=
  (f_Scale_classFor ((f_Ir_riskOf ar sc a0).2.1) ((f_Ir_riskOf ar sc a0).2.2) ((f_Ir_riskOf ar sc a0).1), (f_Ir_riskOf ar sc a0).2.1, (f_Ir_riskOf ar sc a0).2.2)
def p_Ir_classOf (ar : Nat → Nat → Int32) (sc : Nat → Int32) (a0 : Int32) : Prop :=
  (p_Ir_riskOf ar sc a0) ∧ (p_Scale_classFor ((f_Ir_riskOf ar sc a0).2.1) ((f_Ir_riskOf ar sc a0).2.2) ((f_Ir_riskOf ar sc a0).1))
def f_Ir_firstDueDay (ar : Nat → Nat → Int32) (sc : Nat → Int32) (a0 : Int32) : Int32 :=
  if (ar 11 a0.toNatClampNeg) = (-1) then
    0
  else
    (ar 11 a0.toNatClampNeg) + (ar 4 ((f_Scale_classFor ar sc (ar 37 a0.toNatClampNeg)).toNatClampNeg))
def p_Ir_firstDueDay (ar : Nat → Nat → Int32) (sc : Nat → Int32) (a0 : Int32) : Prop :=
  (vp_in a0 30) ∧ (((ar 11 a0.toNatClampNeg) = (-1) → True) ∧ (¬ ((ar 11 a0.toNatClampNeg) = (-1)) → ((vp_in a0 30) ∧ ((p_Scale_classFor ar sc (ar 37 a0.toNatClampNeg)) ∧ (vp_in (f_Scale_classFor ar sc (ar 37 a0.toNatClampNeg)) 4)))))
def f_Ir_isAhead (ar : Nat → Nat → Int32) (sc : Nat → Int32) (a0 : Int32) (a1 : Int32) : Int32 :=
  if (ar 37 a0.toNatClampNeg) = (ar 37 a1.toNatClampNeg) then
    if (ar 11 a0.toNatClampNeg) = (ar 11 a1.toNatClampNeg) then
      if a1 ≤ a0 then
        0
      else
        1
    else
      if (ar 11 a1.toNatClampNeg) ≤ (ar 11 a0.toNatClampNeg) then
        0
      else
        1
  else
    if (ar 37 a0.toNatClampNeg) ≤ (ar 37 a1.toNatClampNeg) then
      0
    else
      1
def p_Ir_isAhead (ar : Nat → Nat → Int32) (sc : Nat → Int32) (a0 : Int32) (a1 : Int32) : Prop :=
  (vp_in a0 30) ∧ ((vp_in a1 30) ∧ (((ar 37 a0.toNatClampNeg) = (ar 37 a1.toNatClampNeg) → ((vp_in a0 30) ∧ ((vp_in a1 30) ∧ (((ar 11 a0.toNatClampNeg) = (ar 11 a1.toNatClampNeg) → True) ∧ (¬ ((ar 11 a0.toNatClampNeg) = (ar 11 a1.toNatClampNeg)) → ((vp_in a0 30) ∧ (vp_in a1 30))))))) ∧ (¬ ((ar 37 a0.toNatClampNeg) = (ar 37 a1.toNatClampNeg)) → ((vp_in a0 30) ∧ (vp_in a1 30)))))
def g_Ir_countDueAhead_5 (ar : Nat → Nat → Int32) (sc : Nat → Int32) (a0 : Int32) (a1 : Int32)  : Nat → Int32 → Int32 → Int32 × Int32
  | 0, v3, v4 => (v3, v4)
  | n + 1, v3, v4 =>
    if (sc 1) ≤ v4 then
      (v3, v4)
    else
      if (f_Ir_isAhead ar sc v4 a0) = 0 then
        g_Ir_countDueAhead_5 ar sc a0 a1 n v3 (v4 + 1)
      else
        if a1 < (f_Ir_firstDueDay ar sc v4) then
          g_Ir_countDueAhead_5 ar sc a0 a1 n v3 (v4 + 1)
        else
          g_Ir_countDueAhead_5 ar sc a0 a1 n (v3 + 1) (v4 + 1)
def q_Ir_countDueAhead_5 (ar : Nat → Nat → Int32) (sc : Nat → Int32) (a0 : Int32) (a1 : Int32)  : Nat → Int32 → Int32 → Prop
  | 0, _, _ => False
  | n + 1, v3, v4 =>
    ((sc 1) ≤ v4 → True) ∧ (¬ ((sc 1) ≤ v4) → ((p_Ir_isAhead ar sc v4 a0) ∧ (((f_Ir_isAhead ar sc v4 a0) = 0 → (q_Ir_countDueAhead_5 ar sc a0 a1 n v3 (v4 + 1))) ∧ (¬ ((f_Ir_isAhead ar sc v4 a0) = 0) → ((p_Ir_firstDueDay ar sc v4) ∧ ((a1 < (f_Ir_firstDueDay ar sc v4) → (q_Ir_countDueAhead_5 ar sc a0 a1 n v3 (v4 + 1))) ∧ (¬ (a1 < (f_Ir_firstDueDay ar sc v4)) → (q_Ir_countDueAhead_5 ar sc a0 a1 n (v3 + 1) (v4 + 1)))))))))
def f_Ir_countDueAhead (ar : Nat → Nat → Int32) (sc : Nat → Int32) (a0 : Int32) (a1 : Int32) : Int32 :=
  (g_Ir_countDueAhead_5 ar sc a0 a1 200 0 0).1
def p_Ir_countDueAhead (ar : Nat → Nat → Int32) (sc : Nat → Int32) (a0 : Int32) (a1 : Int32) : Prop :=
  q_Ir_countDueAhead_5 ar sc a0 a1 200 0 0
def f_Ir_weight (ar : Nat → Nat → Int32) (sc : Nat → Int32) (a0 : Int32) (a1 : Int32) : Option String × Int32 × (Nat → Nat → Int32) × (Nat → Int32) :=
  if (f_Ir_isKind a0) = 0 then
    (some "java/lang/IllegalArgumentException", 0, ar, sc)
  else
    if (f_Ir_isWithin a1 0 100) = 0 then
      (some "java/lang/IndexOutOfBoundsException", 0, ar, sc)
    else
      (none, 0, s2 ar 2 a0.toNatClampNeg a1, sc)
def p_Ir_weight (ar : Nat → Nat → Int32) (sc : Nat → Int32) (a0 : Int32) (a1 : Int32) : Prop :=
  (¬ (f_Ir_isKind a0) = 0 → ((¬ (f_Ir_isWithin a1 0 100) = 0 → (vp_in a0 5))))
def f_Ir_steps (ar : Nat → Nat → Int32) (sc : Nat → Int32) (a0 : Int32) (a1 : Int32) (a2 : Int32) : Option String × Int32 × (Nat → Nat → Int32) × (Nat → Int32) :=
  if a0 < 0 then
    (some "java/lang/IndexOutOfBoundsException", 0, ar, sc)
  else
    if a1 < a0 then
      (some "java/lang/IndexOutOfBoundsException", 0, ar, sc)
    else
      if a2 < a1 then
        (some "java/lang/IndexOutOfBoundsException", 0, ar, sc)
      else
        if 100000 < a2 then
          (some "java/lang/IndexOutOfBoundsException", 0, ar, sc)
        else
          (none, 0, s2 (s2 (s2 ar 3 ((0 : Int32).toNatClampNeg) a0) 3 ((1 : Int32).toNatClampNeg) a1) 3 ((2 : Int32).toNatClampNeg) a2, sc)
def p_Ir_steps (ar : Nat → Nat → Int32) (sc : Nat → Int32) (a0 : Int32) (a1 : Int32) (a2 : Int32) : Prop :=
  (a0 < 0 → True) ∧ (¬ (a0 < 0) → ((a1 < a0 → True) ∧ (¬ (a1 < a0) → ((a2 < a1 → True) ∧ (¬ (a2 < a1) → ((100000 < a2 → True) ∧ (¬ (100000 < a2) → ((vp_in 0 3) ∧ ((vp_in 1 3) ∧ (vp_in 2 3))))))))))
def f_Ir_interval (ar : Nat → Nat → Int32) (sc : Nat → Int32) (a0 : Int32) (a1 : Int32) (a2 : Int32) : Option String × Int32 × (Nat → Nat → Int32) × (Nat → Int32) :=
  if (f_Ir_isWithin a0 0 3) = 0 then
    (some "java/lang/IllegalArgumentException", 0, ar, sc)
  else
    if (f_Ir_isWithin a1 1 4000) = 0 then
      (some "java/lang/IndexOutOfBoundsException", 0, ar, sc)
    else
      if (f_Ir_isWithin a2 0 1000) = 0 then
        (some "java/lang/IndexOutOfBoundsException", 0, ar, sc)
      else
        (none, 0, s2 (s2 ar 4 a0.toNatClampNeg a1) 5 a0.toNatClampNeg a2, sc)
def p_Ir_interval (ar : Nat → Nat → Int32) (sc : Nat → Int32) (a0 : Int32) (a1 : Int32) (a2 : Int32) : Prop :=
  (¬ (f_Ir_isWithin a0 0 3) = 0 → (((f_Ir_isWithin a1 1 4000) = 0 → True) ∧ (¬ ((f_Ir_isWithin a1 1 4000) = 0) → (((f_Ir_isWithin a2 0 1000) = 0 → True) ∧ (¬ ((f_Ir_isWithin a2 0 1000) = 0) → ((vp_in a0 4) ∧ (vp_in a0 4)))))))
def f_Ir_point (ar : Nat → Nat → Int32) (sc : Nat → Int32) (a0 : Int32) (a1 : Int32) (a2 : Int32) (a3 : Int32) (a4 : Int32) : Option String × Int32 × (Nat → Nat → Int32) × (Nat → Int32) :=
  if (f_Ir_isKind a0) = 0 then
    (some "java/lang/IllegalArgumentException", 0, ar, sc)
  else
    if (f_Ir_isWithin a1 0 3000) = 0 then
      (some "java/lang/IndexOutOfBoundsException", 0, ar, sc)
    else
      if (f_Ir_isWithin a2 0 100000) = 0 then
        (some "java/lang/IndexOutOfBoundsException", 0, ar, sc)
      else
        if (f_Ir_isWithin a3 (-10000) 10000) = 0 then
          (some "java/lang/IndexOutOfBoundsException", 0, ar, sc)
        else
          if (f_Ir_isWithin a4 (-10000) 10000) = 0 then
            (some "java/lang/IndexOutOfBoundsException", 0, ar, sc)
          else
            if 30 ≤ (sc 1) then
              (some "java/lang/UnsupportedOperationException", 0, ar, sc)
            else
              (none, (f_Points_add ar sc a0 ((a1 / 30) + (a2 / 100)) a3 a4).1, (f_Points_add ar sc a0 ((a1 / 30) + (a2 / 100)) a3 a4).2.1, (f_Points_add ar sc a0 ((a1 / 30) + (a2 / 100)) a3 a4).2.2)
def p_Ir_point (ar : Nat → Nat → Int32) (sc : Nat → Int32) (a0 : Int32) (a1 : Int32) (a2 : Int32) (a3 : Int32) (a4 : Int32) : Prop :=
  (¬ (f_Ir_isKind a0) = 0 → (((f_Ir_isWithin a1 0 3000) = 0 → True) ∧ (¬ ((f_Ir_isWithin a1 0 3000) = 0) → (((f_Ir_isWithin a2 0 100000) = 0 → True) ∧ (¬ ((f_Ir_isWithin a2 0 100000) = 0) → (((f_Ir_isWithin a3 (-10000) 10000) = 0 → True) ∧ (¬ ((f_Ir_isWithin a3 (-10000) 10000) = 0) → (((f_Ir_isWithin a4 (-10000) 10000) = 0 → True) ∧ (¬ ((f_Ir_isWithin a4 (-10000) 10000) = 0) → ((30 ≤ (sc 1) → True) ∧ (¬ (30 ≤ (sc 1)) → (p_Points_add ar sc a0 ((a1 / 30) + (a2 / 100)) a3 a4))))))))))))
def f_Ir_day (ar : Nat → Nat → Int32) (sc : Nat → Int32) (a0 : Int32) : Option String × Int32 × (Nat → Nat → Int32) × (Nat → Int32) :=
  if (f_Ir_isWithin a0 (sc 0) 99999) = 0 then
    (some "java/lang/IndexOutOfBoundsException", 0, ar, sc)
  else
    (none, 0, ar, sg sc 0 a0)
def f_Ir_visit (ar : Nat → Nat → Int32) (sc : Nat → Int32) (a0 : Int32) : Option String × Int32 × (Nat → Nat → Int32) × (Nat → Int32) :=
  if (f_Ir_isPoint ar sc a0) = 0 then
    (some "java/lang/IllegalArgumentException", 0, ar, sc)
  else
    (none, 0, s2 ar 11 a0.toNatClampNeg (sc 0), sc)
def p_Ir_visit (ar : Nat → Nat → Int32) (sc : Nat → Int32) (a0 : Int32) : Prop :=
  (¬ (f_Ir_isPoint ar sc a0) = 0 → (vp_in a0 30))
def f_Ir_finding (ar : Nat → Nat → Int32) (sc : Nat → Int32) (a0 : Int32) (a1 : Int32) (a2 : Int32) : Option String × Int32 × (Nat → Nat → Int32) × (Nat → Int32) :=
  if (f_Ir_isPoint ar sc a0) = 0 then
    (some "java/lang/IllegalArgumentException", 0, ar, sc)
  else
    if (f_Ir_isWithin a1 1 50) = 0 then
      (some "java/lang/IndexOutOfBoundsException", 0, ar, sc)
    else
      if a2 = (-1) then
        if 100 ≤ (sc 2) then
          (some "java/lang/UnsupportedOperationException", 0, ar, sc)
        else
          if a2 = (-1) then
            (none, (f_Findings_add ((f_Ir_classOf ar sc a0).2.1) ((f_Ir_classOf ar sc a0).2.2) a0 a1 ((((f_Ir_classOf ar sc a0).2.2) 0) + (((f_Ir_classOf ar sc a0).2.1) 5 (((f_Ir_classOf ar sc a0).1).toNatClampNeg)))).1, (f_Findings_add ((f_Ir_classOf ar sc a0).2.1) ((f_Ir_classOf ar sc a0).2.2) a0 a1 ((((f_Ir_classOf ar sc a0).2.2) 0) + (((f_Ir_classOf ar sc a0).2.1) 5 (((f_Ir_classOf ar sc a0).1).toNatClampNeg)))).2.1, (f_Findings_add ((f_Ir_classOf ar sc a0).2.1) ((f_Ir_classOf ar sc a0).2.2) a0 a1 ((((f_Ir_classOf ar sc a0).2.2) 0) + (((f_Ir_classOf ar sc a0).2.1) 5 (((f_Ir_classOf ar sc a0).1).toNatClampNeg)))).2.2)
          else
            (none, (f_Findings_add ar sc a0 a1 ((sc 0) + a2)).1, (f_Findings_add ar sc a0 a1 ((sc 0) + a2)).2.1, (f_Findings_add ar sc a0 a1 ((sc 0) + a2)).2.2)
      else
        if (f_Ir_isWithin a2 0 1000) = 0 then
          (some "java/lang/IndexOutOfBoundsException", 0, ar, sc)
        else
          if 100 ≤ (sc 2) then
            (some "java/lang/UnsupportedOperationException", 0, ar, sc)
          else
            if a2 = (-1) then
              (none, (f_Findings_add ((f_Ir_classOf ar sc a0).2.1) ((f_Ir_classOf ar sc a0).2.2) a0 a1 ((((f_Ir_classOf ar sc a0).2.2) 0) + (((f_Ir_classOf ar sc a0).2.1) 5 (((f_Ir_classOf ar sc a0).1).toNatClampNeg)))).1, (f_Findings_add ((f_Ir_classOf ar sc a0).2.1) ((f_Ir_classOf ar sc a0).2.2) a0 a1 ((((f_Ir_classOf ar sc a0).2.2) 0) + (((f_Ir_classOf ar sc a0).2.1) 5 (((f_Ir_classOf ar sc a0).1).toNatClampNeg)))).2.1, (f_Findings_add ((f_Ir_classOf ar sc a0).2.1) ((f_Ir_classOf ar sc a0).2.2) a0 a1 ((((f_Ir_classOf ar sc a0).2.2) 0) + (((f_Ir_classOf ar sc a0).2.1) 5 (((f_Ir_classOf ar sc a0).1).toNatClampNeg)))).2.2)
            else
              (none, (f_Findings_add ar sc a0 a1 ((sc 0) + a2)).1, (f_Findings_add ar sc a0 a1 ((sc 0) + a2)).2.1, (f_Findings_add ar sc a0 a1 ((sc 0) + a2)).2.2)
def p_Ir_finding (ar : Nat → Nat → Int32) (sc : Nat → Int32) (a0 : Int32) (a1 : Int32) (a2 : Int32) : Prop :=
  (¬ (f_Ir_isPoint ar sc a0) = 0 → ((¬ (f_Ir_isWithin a1 1 50) = 0 → ((a2 = (-1) → ((100 ≤ (sc 2) → True) ∧ (¬ (100 ≤ (sc 2)) → ((a2 = (-1) → ((p_Ir_classOf ar sc a0) ∧ ((vp_in ((f_Ir_classOf ar sc a0).1) 4) ∧ (p_Findings_add ((f_Ir_classOf ar sc a0).2.1) ((f_Ir_classOf ar sc a0).2.2) a0 a1 ((((f_Ir_classOf ar sc a0).2.2) 0) + (((f_Ir_classOf ar sc a0).2.1) 5 (((f_Ir_classOf ar sc a0).1).toNatClampNeg))))))) ∧ (¬ (a2 = (-1)) → (p_Findings_add ar sc a0 a1 ((sc 0) + a2))))))) ∧ (¬ (a2 = (-1)) → (((f_Ir_isWithin a2 0 1000) = 0 → True) ∧ (¬ ((f_Ir_isWithin a2 0 1000) = 0) → ((100 ≤ (sc 2) → True) ∧ (¬ (100 ≤ (sc 2)) → ((a2 = (-1) → ((p_Ir_classOf ar sc a0) ∧ ((vp_in ((f_Ir_classOf ar sc a0).1) 4) ∧ (p_Findings_add ((f_Ir_classOf ar sc a0).2.1) ((f_Ir_classOf ar sc a0).2.2) a0 a1 ((((f_Ir_classOf ar sc a0).2.2) 0) + (((f_Ir_classOf ar sc a0).2.1) 5 (((f_Ir_classOf ar sc a0).1).toNatClampNeg))))))) ∧ (¬ (a2 = (-1)) → (p_Findings_add ar sc a0 a1 ((sc 0) + a2)))))))))))))
def f_Ir_done (ar : Nat → Nat → Int32) (sc : Nat → Int32) (a0 : Int32) (a1 : Int32) : Option String × Int32 × (Nat → Nat → Int32) × (Nat → Int32) :=
  if (f_Ir_isFinding ar sc a0) = 0 then
    (some "java/lang/IllegalArgumentException", 0, ar, sc)
  else
    if (f_Ir_isWithin a1 1 9999) = 0 then
      (some "java/lang/IndexOutOfBoundsException", 0, ar, sc)
    else
      if (f_Findings_isOpen ar sc a0) = 0 then
        (some "java/lang/IllegalStateException", 0, ar, sc)
      else
        (none, 0, s2 ar 16 a0.toNatClampNeg a1, sc)
def p_Ir_done (ar : Nat → Nat → Int32) (sc : Nat → Int32) (a0 : Int32) (a1 : Int32) : Prop :=
  (¬ (f_Ir_isFinding ar sc a0) = 0 → ((¬ (f_Ir_isWithin a1 1 9999) = 0 → ((p_Findings_isOpen ar sc a0) ∧ ((¬ (f_Findings_isOpen ar sc a0) = 0 → (vp_in a0 100)))))))
def f_Ir_findingAt (ar : Nat → Nat → Int32) (sc : Nat → Int32) (a0 : Int32) (a1 : Int32) : Option String × Int32 × (Nat → Nat → Int32) × (Nat → Int32) :=
  if (f_Ir_isFinding ar sc a0) = 0 then
    (some "java/lang/IllegalArgumentException", 0, ar, sc)
  else
    if (f_Ir_isWithin a1 0 4) = 0 then
      (some "java/lang/IllegalArgumentException", 0, ar, sc)
    else
      if a1 = 0 then
        (none, ar 13 a0.toNatClampNeg, ar, sc)
      else if a1 = 1 then
        if (f_Findings_isOpen ar sc a0) = 0 then
          (none, 0, ar, sc)
        else
          (none, 1, ar, sc)
      else if a1 = 2 then
        if (f_Findings_isMissed ar sc a0 (sc 0)) = 0 then
          (none, 0, ar, sc)
        else
          (none, 1, ar, sc)
      else if a1 = 3 then
        (none, ar 15 a0.toNatClampNeg, ar, sc)
      else 
        (none, ar 16 a0.toNatClampNeg, ar, sc)
def p_Ir_findingAt (ar : Nat → Nat → Int32) (sc : Nat → Int32) (a0 : Int32) (a1 : Int32) : Prop :=
  ((f_Ir_isFinding ar sc a0) = 0 → True) ∧ (¬ ((f_Ir_isFinding ar sc a0) = 0) → (((f_Ir_isWithin a1 0 4) = 0 → True) ∧ (¬ ((f_Ir_isWithin a1 0 4) = 0) → ((a1 = 0 → (vp_in a0 100)) ∧ (¬ a1 = 0 → ((a1 = 1 → (p_Findings_isOpen ar sc a0)) ∧ (¬ a1 = 1 → ((a1 = 2 → (p_Findings_isMissed ar sc a0 (sc 0))) ∧ (¬ a1 = 2 → ((a1 = 3 → (vp_in a0 100)) ∧ (¬ a1 = 3 → (vp_in a0 100))))))))))))
def f_Ir_pointAt (ar : Nat → Nat → Int32) (sc : Nat → Int32) (a0 : Int32) (a1 : Int32) : Option String × Int32 × (Nat → Nat → Int32) × (Nat → Int32) :=
  if (f_Ir_isPoint ar sc a0) = 0 then
    (some "java/lang/IllegalArgumentException", 0, ar, sc)
  else
    if (f_Ir_isWithin a1 0 4) = 0 then
      (some "java/lang/IllegalArgumentException", 0, ar, sc)
    else
      if a1 = 0 then
        (none, (f_Ir_riskOf ar sc a0).1, (f_Ir_riskOf ar sc a0).2.1, (f_Ir_riskOf ar sc a0).2.2)
      else if a1 = 1 then
        (none, (f_Ir_classOf ar sc a0).1, (f_Ir_classOf ar sc a0).2.1, (f_Ir_classOf ar sc a0).2.2)
      else if a1 = 2 then
        (none, ar 11 a0.toNatClampNeg, ar, sc)
      else if a1 = 3 then
        (none, f_Ir_firstDueDay ((f_Ir_fillRisks ar sc ).1) ((f_Ir_fillRisks ar sc ).2) a0, (f_Ir_fillRisks ar sc ).1, (f_Ir_fillRisks ar sc ).2)
      else 
        (none, f_Findings_countOpen ar sc a0, ar, sc)
def p_Ir_pointAt (ar : Nat → Nat → Int32) (sc : Nat → Int32) (a0 : Int32) (a1 : Int32) : Prop :=
  ((f_Ir_isPoint ar sc a0) = 0 → True) ∧ (¬ ((f_Ir_isPoint ar sc a0) = 0) → (((f_Ir_isWithin a1 0 4) = 0 → True) ∧ (¬ ((f_Ir_isWithin a1 0 4) = 0) → ((a1 = 0 → (p_Ir_riskOf ar sc a0)) ∧ (¬ a1 = 0 → ((a1 = 1 → (p_Ir_classOf ar sc a0)) ∧ (¬ a1 = 1 → ((a1 = 2 → (vp_in a0 30)) ∧ (¬ a1 = 2 → ((a1 = 3 → ((p_Ir_fillRisks ar sc ) ∧ (p_Ir_firstDueDay ((f_Ir_fillRisks ar sc ).1) ((f_Ir_fillRisks ar sc ).2) a0))) ∧ (¬ a1 = 3 → (p_Findings_countOpen ar sc a0))))))))))))
def g_Ir_due_31 (a0 : Int32) (a1 : Int32)  : Nat → Int32 → (Nat → Nat → Int32) → (Nat → Int32) → Option String × Int32 × (Nat → Nat → Int32) × (Nat → Int32)
  | 0, v3, ar, sc => (none, 0, ar, sc)
  | n + 1, v3, ar, sc =>
    if (sc 1) ≤ v3 then
      (none, (-1), ar, sc)
    else
      if a0 < (f_Ir_firstDueDay ar sc v3) then
        g_Ir_due_31 a0 a1 n (v3 + 1) ar sc
      else
        if (f_Ir_countDueAhead ar sc v3 a0) = a1 then
          (none, v3, ar, sc)
        else
          g_Ir_due_31 a0 a1 n (v3 + 1) ar sc
def q_Ir_due_31 (a0 : Int32) (a1 : Int32)  : Nat → Int32 → (Nat → Nat → Int32) → (Nat → Int32) → Prop
  | 0, _, _, _ => False
  | n + 1, v3, ar, sc =>
    ((sc 1) ≤ v3 → True) ∧ (¬ ((sc 1) ≤ v3) → ((p_Ir_firstDueDay ar sc v3) ∧ ((a0 < (f_Ir_firstDueDay ar sc v3) → (q_Ir_due_31 a0 a1 n (v3 + 1) ar sc)) ∧ (¬ (a0 < (f_Ir_firstDueDay ar sc v3)) → ((p_Ir_countDueAhead ar sc v3 a0) ∧ (((f_Ir_countDueAhead ar sc v3 a0) = a1 → True) ∧ (¬ ((f_Ir_countDueAhead ar sc v3 a0) = a1) → (q_Ir_due_31 a0 a1 n (v3 + 1) ar sc))))))))
def f_Ir_due (ar : Nat → Nat → Int32) (sc : Nat → Int32) (a0 : Int32) (a1 : Int32) : Option String × Int32 × (Nat → Nat → Int32) × (Nat → Int32) :=
  if (f_Ir_isWithin a0 (sc 0) 99999) = 0 then
    (some "java/lang/IndexOutOfBoundsException", 0, ar, sc)
  else
    if a1 < 0 then
      (some "java/lang/IndexOutOfBoundsException", 0, ar, sc)
    else
      g_Ir_due_31 a0 a1 200 0 ((f_Ir_fillRisks ar sc ).1) ((f_Ir_fillRisks ar sc ).2)
def p_Ir_due (ar : Nat → Nat → Int32) (sc : Nat → Int32) (a0 : Int32) (a1 : Int32) : Prop :=
  ((f_Ir_isWithin a0 (sc 0) 99999) = 0 → True) ∧ (¬ ((f_Ir_isWithin a0 (sc 0) 99999) = 0) → ((a1 < 0 → True) ∧ (¬ (a1 < 0) → ((p_Ir_fillRisks ar sc ) ∧ (q_Ir_due_31 a0 a1 200 0 ((f_Ir_fillRisks ar sc ).1) ((f_Ir_fillRisks ar sc ).2))))))
def f_Ir_question (ar : Nat → Nat → Int32) (sc : Nat → Int32) (a0 : Int32) (a1 : Int32) (a2 : Int32) (a3 : Int32) : Option String × Int32 × (Nat → Nat → Int32) × (Nat → Int32) :=
  if (f_Ir_isWithin a0 0 15) = 0 then
    (some "java/lang/IllegalArgumentException", 0, ar, sc)
  else
    if (f_Ir_canLead a0 a1) = 0 then
      (some "java/lang/IndexOutOfBoundsException", 0, ar, sc)
    else
      if (f_Ir_canLead a0 a2) = 0 then
        (some "java/lang/IndexOutOfBoundsException", 0, ar, sc)
      else
        if (f_Ir_isWithin a3 0 50) = 0 then
          (some "java/lang/IndexOutOfBoundsException", 0, ar, sc)
        else
          (none, 0, (f_Questions_tell ar sc a0 a1 a2 a3).1, (f_Questions_tell ar sc a0 a1 a2 a3).2)
def p_Ir_question (ar : Nat → Nat → Int32) (sc : Nat → Int32) (a0 : Int32) (a1 : Int32) (a2 : Int32) (a3 : Int32) : Prop :=
  (¬ (f_Ir_isWithin a0 0 15) = 0 → (((f_Ir_canLead a0 a1) = 0 → True) ∧ (¬ ((f_Ir_canLead a0 a1) = 0) → (((f_Ir_canLead a0 a2) = 0 → True) ∧ (¬ ((f_Ir_canLead a0 a2) = 0) → ((¬ (f_Ir_isWithin a3 0 50) = 0 → (p_Questions_tell ar sc a0 a1 a2 a3))))))))
def g_Ir_list_69 (a0 : Int32) (a1 : Int32) (u3 : Int32) : Nat → Int32 → (Nat → Nat → Int32) → (Nat → Int32) → Int32 × (Nat → Nat → Int32) × (Nat → Int32)
  | 0, v4, ar, sc => (v4, ar, sc)
  | n + 1, v4, ar, sc =>
    if (sc 3) ≤ v4 then
      (v4, ar, sc)
    else
      g_Ir_list_69 a0 a1 u3 n (v4 + 1) ((f_Findings_add ar sc a0 (ar 22 v4.toNatClampNeg) u3).2.1) ((f_Findings_add ar sc a0 (ar 22 v4.toNatClampNeg) u3).2.2)
def q_Ir_list_69 (a0 : Int32) (a1 : Int32) (u3 : Int32) : Nat → Int32 → (Nat → Nat → Int32) → (Nat → Int32) → Prop
  | 0, _, _, _ => False
  | n + 1, v4, ar, sc =>
    ((sc 3) ≤ v4 → True) ∧ (¬ ((sc 3) ≤ v4) → ((vp_in v4 16) ∧ ((p_Findings_add ar sc a0 (ar 22 v4.toNatClampNeg) u3) ∧ (q_Ir_list_69 a0 a1 u3 n (v4 + 1) ((f_Findings_add ar sc a0 (ar 22 v4.toNatClampNeg) u3).2.1) ((f_Findings_add ar sc a0 (ar 22 v4.toNatClampNeg) u3).2.2)))))
def f_Ir_list (ar : Nat → Nat → Int32) (sc : Nat → Int32) (a0 : Int32) (a1 : Int32) : Option String × Int32 × (Nat → Nat → Int32) × (Nat → Int32) :=
  if (f_Ir_isPoint ar sc a0) = 0 then
    (some "java/lang/IllegalArgumentException", 0, ar, sc)
  else
    if ((f_Questions_answer ar sc a1).1) = 0 then
      (some "java/lang/IllegalStateException", 0, (f_Questions_answer ar sc a1).2.1, (f_Questions_answer ar sc a1).2.2)
    else
      if 100 < ((((f_Questions_answer ar sc a1).2.2) 2) + (((f_Questions_answer ar sc a1).2.2) 3)) then
        (some "java/lang/UnsupportedOperationException", 0, (f_Questions_answer ar sc a1).2.1, (f_Questions_answer ar sc a1).2.2)
      else
        (none, ((g_Ir_list_69 a0 a1 ((((f_Questions_answer ar sc a1).2.2) 0) + (((f_Ir_classOf ((f_Questions_answer ar sc a1).2.1) ((f_Questions_answer ar sc a1).2.2) a0).2.1) 5 (((f_Ir_classOf ((f_Questions_answer ar sc a1).2.1) ((f_Questions_answer ar sc a1).2.2) a0).1).toNatClampNeg))) 200 0 ((f_Ir_classOf ((f_Questions_answer ar sc a1).2.1) ((f_Questions_answer ar sc a1).2.2) a0).2.1) ((f_Ir_classOf ((f_Questions_answer ar sc a1).2.1) ((f_Questions_answer ar sc a1).2.2) a0).2.2)).2.2) 3, (g_Ir_list_69 a0 a1 ((((f_Questions_answer ar sc a1).2.2) 0) + (((f_Ir_classOf ((f_Questions_answer ar sc a1).2.1) ((f_Questions_answer ar sc a1).2.2) a0).2.1) 5 (((f_Ir_classOf ((f_Questions_answer ar sc a1).2.1) ((f_Questions_answer ar sc a1).2.2) a0).1).toNatClampNeg))) 200 0 ((f_Ir_classOf ((f_Questions_answer ar sc a1).2.1) ((f_Questions_answer ar sc a1).2.2) a0).2.1) ((f_Ir_classOf ((f_Questions_answer ar sc a1).2.1) ((f_Questions_answer ar sc a1).2.2) a0).2.2)).2.1, (g_Ir_list_69 a0 a1 ((((f_Questions_answer ar sc a1).2.2) 0) + (((f_Ir_classOf ((f_Questions_answer ar sc a1).2.1) ((f_Questions_answer ar sc a1).2.2) a0).2.1) 5 (((f_Ir_classOf ((f_Questions_answer ar sc a1).2.1) ((f_Questions_answer ar sc a1).2.2) a0).1).toNatClampNeg))) 200 0 ((f_Ir_classOf ((f_Questions_answer ar sc a1).2.1) ((f_Questions_answer ar sc a1).2.2) a0).2.1) ((f_Ir_classOf ((f_Questions_answer ar sc a1).2.1) ((f_Questions_answer ar sc a1).2.2) a0).2.2)).2.2)
def p_Ir_list (ar : Nat → Nat → Int32) (sc : Nat → Int32) (a0 : Int32) (a1 : Int32) : Prop :=
  (¬ (f_Ir_isPoint ar sc a0) = 0 → ((p_Questions_answer ar sc a1) ∧ ((¬ ((f_Questions_answer ar sc a1).1) = 0 → ((100 < ((((f_Questions_answer ar sc a1).2.2) 2) + (((f_Questions_answer ar sc a1).2.2) 3)) → True) ∧ (¬ (100 < ((((f_Questions_answer ar sc a1).2.2) 2) + (((f_Questions_answer ar sc a1).2.2) 3))) → ((p_Ir_classOf ((f_Questions_answer ar sc a1).2.1) ((f_Questions_answer ar sc a1).2.2) a0) ∧ ((vp_in ((f_Ir_classOf ((f_Questions_answer ar sc a1).2.1) ((f_Questions_answer ar sc a1).2.2) a0).1) 4) ∧ (q_Ir_list_69 a0 a1 ((((f_Questions_answer ar sc a1).2.2) 0) + (((f_Ir_classOf ((f_Questions_answer ar sc a1).2.1) ((f_Questions_answer ar sc a1).2.2) a0).2.1) 5 (((f_Ir_classOf ((f_Questions_answer ar sc a1).2.1) ((f_Questions_answer ar sc a1).2.2) a0).1).toNatClampNeg))) 200 0 ((f_Ir_classOf ((f_Questions_answer ar sc a1).2.1) ((f_Questions_answer ar sc a1).2.2) a0).2.1) ((f_Ir_classOf ((f_Questions_answer ar sc a1).2.1) ((f_Questions_answer ar sc a1).2.2) a0).2.2))))))))))
def g_Ir_walk_35 (a0 : Int64) (a1 : Int32)  : Nat → Int32 → (Nat → Nat → Int32) → (Nat → Int32) → Int32 × (Nat → Nat → Int32) × (Nat → Int32)
  | 0, v4, ar, sc => (v4, ar, sc)
  | n + 1, v4, ar, sc =>
    if a1 ≤ v4 then
      (v4, ar, sc)
    else
      g_Ir_walk_35 a0 a1 n (v4 + 1) ((f_Route_tell ar sc v4 (f_Ir_toldPoint a0 v4) (ar 9 ((f_Ir_toldPoint a0 v4).toNatClampNeg)) (ar 10 ((f_Ir_toldPoint a0 v4).toNatClampNeg))).1) ((f_Route_tell ar sc v4 (f_Ir_toldPoint a0 v4) (ar 9 ((f_Ir_toldPoint a0 v4).toNatClampNeg)) (ar 10 ((f_Ir_toldPoint a0 v4).toNatClampNeg))).2)
def q_Ir_walk_35 (a0 : Int64) (a1 : Int32)  : Nat → Int32 → (Nat → Nat → Int32) → (Nat → Int32) → Prop
  | 0, _, _, _ => False
  | n + 1, v4, ar, sc =>
    (a1 ≤ v4 → True) ∧ (¬ (a1 ≤ v4) → ((vp_in (f_Ir_toldPoint a0 v4) 30) ∧ ((vp_in (f_Ir_toldPoint a0 v4) 30) ∧ ((p_Route_tell ar sc v4 (f_Ir_toldPoint a0 v4) (ar 9 ((f_Ir_toldPoint a0 v4).toNatClampNeg)) (ar 10 ((f_Ir_toldPoint a0 v4).toNatClampNeg))) ∧ (q_Ir_walk_35 a0 a1 n (v4 + 1) ((f_Route_tell ar sc v4 (f_Ir_toldPoint a0 v4) (ar 9 ((f_Ir_toldPoint a0 v4).toNatClampNeg)) (ar 10 ((f_Ir_toldPoint a0 v4).toNatClampNeg))).1) ((f_Route_tell ar sc v4 (f_Ir_toldPoint a0 v4) (ar 9 ((f_Ir_toldPoint a0 v4).toNatClampNeg)) (ar 10 ((f_Ir_toldPoint a0 v4).toNatClampNeg))).2))))))
def f_Ir_walk (ar : Nat → Nat → Int32) (sc : Nat → Int32) (a0 : Int64) (a1 : Int32) : Option String × Int32 × (Nat → Nat → Int32) × (Nat → Int32) :=
  if (f_Ir_areAllPoints ar sc a0 (if 7 < a1 then 7 else a1)) = 0 then
    (some "java/lang/IllegalArgumentException", 0, ar, sc)
  else
    if (f_Ir_isWithin a1 0 7) = 0 then
      (some "java/lang/IndexOutOfBoundsException", 0, ar, sc)
    else
      if (f_Ir_areAllDifferent a0 a1) = 0 then
        (some "java/lang/IndexOutOfBoundsException", 0, ar, sc)
      else
        (none, (f_Route_findLeast ((g_Ir_walk_35 a0 a1 200 0 ar sc).2.1) ((g_Ir_walk_35 a0 a1 200 0 ar sc).2.2) a1).1, (f_Route_findLeast ((g_Ir_walk_35 a0 a1 200 0 ar sc).2.1) ((g_Ir_walk_35 a0 a1 200 0 ar sc).2.2) a1).2.1, (f_Route_findLeast ((g_Ir_walk_35 a0 a1 200 0 ar sc).2.1) ((g_Ir_walk_35 a0 a1 200 0 ar sc).2.2) a1).2.2)
def p_Ir_walk (ar : Nat → Nat → Int32) (sc : Nat → Int32) (a0 : Int64) (a1 : Int32) : Prop :=
  (p_Ir_areAllPoints ar sc a0 (if 7 < a1 then 7 else a1)) ∧ ((¬ (f_Ir_areAllPoints ar sc a0 (if 7 < a1 then 7 else a1)) = 0 → ((¬ (f_Ir_isWithin a1 0 7) = 0 → ((p_Ir_areAllDifferent a0 a1) ∧ ((¬ (f_Ir_areAllDifferent a0 a1) = 0 → ((q_Ir_walk_35 a0 a1 200 0 ar sc) ∧ (p_Route_findLeast ((g_Ir_walk_35 a0 a1 200 0 ar sc).2.1) ((g_Ir_walk_35 a0 a1 200 0 ar sc).2.2) a1)))))))))
def f_Ir_stop (ar : Nat → Nat → Int32) (sc : Nat → Int32) (a0 : Int32) : Option String × Int32 × (Nat → Nat → Int32) × (Nat → Int32) :=
  if a0 < 0 then
    (some "java/lang/IndexOutOfBoundsException", 0, ar, sc)
  else
    if (sc 4) ≤ a0 then
      (none, (-1), ar, sc)
    else
      (none, ar 29 a0.toNatClampNeg, ar, sc)
def p_Ir_stop (ar : Nat → Nat → Int32) (sc : Nat → Int32) (a0 : Int32) : Prop :=
  (a0 < 0 → True) ∧ (¬ (a0 < 0) → (((sc 4) ≤ a0 → True) ∧ (¬ ((sc 4) ≤ a0) → (vp_in a0 7))))
def f_Ir_rules (ar : Nat → Nat → Int32) (sc : Nat → Int32) (a0 : Int32) (a1 : Int32) : Option String × Int32 × (Nat → Nat → Int32) × (Nat → Int32) :=
  if (f_Ir_isWithin a0 0 10000000) = 0 then
    (some "java/lang/IndexOutOfBoundsException", 0, ar, sc)
  else
    if (f_Ir_isWithin a1 0 1000000) = 0 then
      (some "java/lang/IndexOutOfBoundsException", 0, ar, sc)
    else
      (none, 0, ar, sg (sg sc 11 a0) 12 a1)
def f_Ir_permit (ar : Nat → Nat → Int32) (sc : Nat → Int32) (a0 : Int32) (a1 : Int32) (a2 : Int32) : Option String × Int32 × (Nat → Nat → Int32) × (Nat → Int32) :=
  if a0 < 0 then
    (some "java/lang/IndexOutOfBoundsException", 0, ar, sc)
  else
    if a1 ≤ a0 then
      (some "java/lang/IndexOutOfBoundsException", 0, ar, sc)
    else
      if 9999999 < a1 then
        (some "java/lang/IndexOutOfBoundsException", 0, ar, sc)
      else
        if (f_Ir_isWithin a2 1 1000000) = 0 then
          (some "java/lang/IndexOutOfBoundsException", 0, ar, sc)
        else
          if ((sg sc 13 (f_Permits_findClash ar sc a0 a1 a2)) 13) = (-1) then
            if 30 ≤ ((sg sc 13 (f_Permits_findClash ar sc a0 a1 a2)) 5) then
              (some "java/lang/UnsupportedOperationException", 0, ar, sg sc 13 (f_Permits_findClash ar sc a0 a1 a2))
            else
              (none, (f_Permits_add ar (sg sc 13 (f_Permits_findClash ar sc a0 a1 a2)) a0 a1).1, (f_Permits_add ar (sg sc 13 (f_Permits_findClash ar sc a0 a1 a2)) a0 a1).2.1, (f_Permits_add ar (sg sc 13 (f_Permits_findClash ar sc a0 a1 a2)) a0 a1).2.2)
          else
            (some "java/lang/IllegalStateException", 0, ar, sg sc 13 (f_Permits_findClash ar sc a0 a1 a2))
def p_Ir_permit (ar : Nat → Nat → Int32) (sc : Nat → Int32) (a0 : Int32) (a1 : Int32) (a2 : Int32) : Prop :=
  (a0 < 0 → True) ∧ (¬ (a0 < 0) → ((a1 ≤ a0 → True) ∧ (¬ (a1 ≤ a0) → ((9999999 < a1 → True) ∧ (¬ (9999999 < a1) → ((¬ (f_Ir_isWithin a2 1 1000000) = 0 → ((p_Permits_findClash ar sc a0 a1 a2) ∧ ((((sg sc 13 (f_Permits_findClash ar sc a0 a1 a2)) 13) = (-1) → ((30 ≤ ((sg sc 13 (f_Permits_findClash ar sc a0 a1 a2)) 5) → True) ∧ (¬ (30 ≤ ((sg sc 13 (f_Permits_findClash ar sc a0 a1 a2)) 5)) → (p_Permits_add ar (sg sc 13 (f_Permits_findClash ar sc a0 a1 a2)) a0 a1)))) ∧ (¬ (((sg sc 13 (f_Permits_findClash ar sc a0 a1 a2)) 13) = (-1)) → True))))))))))
def f_Ir_ground (ar : Nat → Nat → Int32) (sc : Nat → Int32) (a0 : Int32) (a1 : Int32) (a2 : Int32) (a3 : Int32) : Option String × Int32 × (Nat → Nat → Int32) × (Nat → Int32) :=
  if (f_Ir_isSide a0 a2) = 0 then
    (some "java/lang/IndexOutOfBoundsException", 0, ar, sc)
  else
    if (f_Ir_isSide a1 a3) = 0 then
      (some "java/lang/IndexOutOfBoundsException", 0, ar, sc)
    else
      (none, 0, (f_Permits_tellGround ar sc a0 a1 a2 a3).1, (f_Permits_tellGround ar sc a0 a1 a2 a3).2)
def f_Ir_clash (ar : Nat → Nat → Int32) (sc : Nat → Int32)  : Option String × Int32 × (Nat → Nat → Int32) × (Nat → Int32) :=
  (none, sc 13, ar, sc)
def f_Ir_touches (ar : Nat → Nat → Int32) (sc : Nat → Int32) (a0 : Int32) : Option String × Int32 × (Nat → Nat → Int32) × (Nat → Int32) :=
  if a0 < 0 then
    (some "java/lang/IllegalArgumentException", 0, ar, sc)
  else
    if (sc 5) ≤ a0 then
      (some "java/lang/IllegalArgumentException", 0, ar, sc)
    else
      (none, ((((ar 36 a0.toNatClampNeg) - 1) / 1440) - ((ar 35 a0.toNatClampNeg) / 1440)) + 1, ar, sc)
def p_Ir_touches (ar : Nat → Nat → Int32) (sc : Nat → Int32) (a0 : Int32) : Prop :=
  (a0 < 0 → True) ∧ (¬ (a0 < 0) → (((sc 5) ≤ a0 → True) ∧ (¬ ((sc 5) ≤ a0) → ((vp_in a0 30) ∧ (vp_in a0 30)))))
def f_Ir_surprise (ar : Nat → Nat → Int32) (sc : Nat → Int32) (a0 : Int32) : Option String × Int32 × (Nat → Nat → Int32) × (Nat → Int32) :=
  if (sc 1) ≤ 0 then
    (some "java/lang/IllegalStateException", 0, ar, sc)
  else
    (none, ((((a0 * 1103515245) + 12345).toUInt32 >>> ((8 : Int32).toUInt32 &&& Int32.toUInt32 31)).toInt32) - ((((a0 * 1103515245) + 12345).toUInt32 >>> ((8 : Int32).toUInt32 &&& Int32.toUInt32 31)).toInt32) / (sc 1) * (sc 1), ar, sc)
def p_Ir_surprise (ar : Nat → Nat → Int32) (sc : Nat → Int32) (a0 : Int32) : Prop :=
  ((sc 1) ≤ 0 → True) ∧ (¬ ((sc 1) ≤ 0) → (¬ (sc 1) = 0))

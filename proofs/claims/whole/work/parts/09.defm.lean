def f_Mo_thrown (ar : Nat → Nat → Int32) (sc : Nat → Int32)  : Int32 :=
  sc 0
def f_Mo_throwing (ar : Nat → Nat → Int32) (sc : Nat → Int32) (a0 : Int32) (a1 : Int32) (a2 : Int32) : Int32 × (Nat → Nat → Int32) × (Nat → Int32) :=
  if a0 = 0 then
    if a1 = 0 then
      if a2 = 0 then
        if ((sg sc 0 0) 0) ≤ 0 then
          (0, ar, sg sc 0 0)
        else
          (1, ar, sg sc 0 0)
      else
        if ((sg sc 0 3) 0) ≤ 0 then
          (0, ar, sg sc 0 3)
        else
          (1, ar, sg sc 0 3)
    else
      if ((sg sc 0 2) 0) ≤ 0 then
        (0, ar, sg sc 0 2)
      else
        (1, ar, sg sc 0 2)
  else
    if ((sg sc 0 1) 0) ≤ 0 then
      (0, ar, sg sc 0 1)
    else
      (1, ar, sg sc 0 1)
def f_Mo_in (a0 : Int32) (a1 : Int32) (a2 : Int32) : Int32 :=
  if a0 < a1 then
    0
  else
    if a2 < a0 then
      0
    else
      1
def f_Mo_isPoint (ar : Nat → Nat → Int32) (sc : Nat → Int32) (a0 : Int32) : Int32 :=
  f_Mo_in a0 0 ((sc 2) - 1)
def f_Mo_isMissed (ar : Nat → Nat → Int32) (sc : Nat → Int32) (a0 : Int32) : Int32 :=
  if (ar 14 a0.toNatClampNeg) = 0 then
    if (sc 1) ≤ (ar 13 a0.toNatClampNeg) then
      0
    else
      1
  else
    0
def p_Mo_isMissed (ar : Nat → Nat → Int32) (sc : Nat → Int32) (a0 : Int32) : Prop :=
  (vp_in a0 100) ∧ (((ar 14 a0.toNatClampNeg) = 0 → (vp_in a0 100)) ∧ (¬ ((ar 14 a0.toNatClampNeg) = 0) → True))
def g_Mo_riskOf_34 (ar : Nat → Nat → Int32) (sc : Nat → Int32) (a0 : Int32)  : Nat → Int32 → Int32 → Int32 × Int32
  | 0, v2, v3 => (v2, v3)
  | n + 1, v2, v3 =>
    if (sc 3) ≤ v3 then
      (v2, v3)
    else
      if (ar 11 v3.toNatClampNeg) = a0 then
        if (ar 14 v3.toNatClampNeg) = 0 then
          if (f_Mo_isMissed ar sc v3) = 0 then
            g_Mo_riskOf_34 ar sc a0 n (v2 + (ar 12 v3.toNatClampNeg)) (v3 + 1)
          else
            g_Mo_riskOf_34 ar sc a0 n (v2 + (2 * (ar 12 v3.toNatClampNeg))) (v3 + 1)
        else
          g_Mo_riskOf_34 ar sc a0 n v2 (v3 + 1)
      else
        g_Mo_riskOf_34 ar sc a0 n v2 (v3 + 1)
def q_Mo_riskOf_34 (ar : Nat → Nat → Int32) (sc : Nat → Int32) (a0 : Int32)  : Nat → Int32 → Int32 → Prop
  | 0, _, _ => False
  | n + 1, v2, v3 =>
    ((sc 3) ≤ v3 → True) ∧ (¬ ((sc 3) ≤ v3) → ((vp_in v3 100) ∧ (((ar 11 v3.toNatClampNeg) = a0 → ((vp_in v3 100) ∧ (((ar 14 v3.toNatClampNeg) = 0 → ((p_Mo_isMissed ar sc v3) ∧ (((f_Mo_isMissed ar sc v3) = 0 → ((vp_in v3 100) ∧ (q_Mo_riskOf_34 ar sc a0 n (v2 + (ar 12 v3.toNatClampNeg)) (v3 + 1)))) ∧ (¬ ((f_Mo_isMissed ar sc v3) = 0) → ((vp_in v3 100) ∧ (q_Mo_riskOf_34 ar sc a0 n (v2 + (2 * (ar 12 v3.toNatClampNeg))) (v3 + 1))))))) ∧ (¬ ((ar 14 v3.toNatClampNeg) = 0) → (q_Mo_riskOf_34 ar sc a0 n v2 (v3 + 1)))))) ∧ (¬ ((ar 11 v3.toNatClampNeg) = a0) → (q_Mo_riskOf_34 ar sc a0 n v2 (v3 + 1))))))
def f_Mo_riskOf (ar : Nat → Nat → Int32) (sc : Nat → Int32) (a0 : Int32) : Int32 :=
  (g_Mo_riskOf_34 ar sc a0 200 (((ar 1 ((ar 5 a0.toNatClampNeg).toNatClampNeg)) + ((ar 6 a0.toNatClampNeg) / 30)) + ((ar 7 a0.toNatClampNeg) / 100)) 0).1
def p_Mo_riskOf (ar : Nat → Nat → Int32) (sc : Nat → Int32) (a0 : Int32) : Prop :=
  (vp_in a0 30) ∧ ((vp_in (ar 5 a0.toNatClampNeg) 5) ∧ ((vp_in a0 30) ∧ ((vp_in a0 30) ∧ (q_Mo_riskOf_34 ar sc a0 200 (((ar 1 ((ar 5 a0.toNatClampNeg).toNatClampNeg)) + ((ar 6 a0.toNatClampNeg) / 30)) + ((ar 7 a0.toNatClampNeg) / 100)) 0))))
def g_Mo_classOf_11 (ar : Nat → Nat → Int32) (sc : Nat → Int32) (a0 : Int32) (u2 : Int32) : Nat → Int32 → Int32 → Int32 × Int32
  | 0, v3, v4 => (v3, v4)
  | n + 1, v3, v4 =>
    if 3 ≤ v4 then
      (v3, v4)
    else
      if u2 < (ar 2 v4.toNatClampNeg) then
        g_Mo_classOf_11 ar sc a0 u2 n (v3 + 0) (v4 + 1)
      else
        g_Mo_classOf_11 ar sc a0 u2 n (v3 + 1) (v4 + 1)
def q_Mo_classOf_11 (ar : Nat → Nat → Int32) (sc : Nat → Int32) (a0 : Int32) (u2 : Int32) : Nat → Int32 → Int32 → Prop
  | 0, _, _ => False
  | n + 1, v3, v4 =>
    (3 ≤ v4 → True) ∧ (¬ (3 ≤ v4) → ((vp_in v4 3) ∧ ((u2 < (ar 2 v4.toNatClampNeg) → (q_Mo_classOf_11 ar sc a0 u2 n (v3 + 0) (v4 + 1))) ∧ (¬ (u2 < (ar 2 v4.toNatClampNeg)) → (q_Mo_classOf_11 ar sc a0 u2 n (v3 + 1) (v4 + 1))))))
def f_Mo_classOf (ar : Nat → Nat → Int32) (sc : Nat → Int32) (a0 : Int32) : Int32 :=
  (g_Mo_classOf_11 ar sc a0 (f_Mo_riskOf ar sc a0) 200 0 0).1
def p_Mo_classOf (ar : Nat → Nat → Int32) (sc : Nat → Int32) (a0 : Int32) : Prop :=
  (p_Mo_riskOf ar sc a0) ∧ (q_Mo_classOf_11 ar sc a0 (f_Mo_riskOf ar sc a0) 200 0 0)
def f_Mo_add (ar : Nat → Nat → Int32) (sc : Nat → Int32) (a0 : Int32) (a1 : Int32) (a2 : Int32) : (Nat → Nat → Int32) × (Nat → Int32) :=
  (s2 (s2 (s2 (s2 ar 11 ((sc 3).toNatClampNeg) a0) 12 ((sc 3).toNatClampNeg) a1) 13 ((sc 3).toNatClampNeg) a2) 14 ((sc 3).toNatClampNeg) 0, sg sc 3 ((sc 3) + 1))
def p_Mo_add (ar : Nat → Nat → Int32) (sc : Nat → Int32) (a0 : Int32) (a1 : Int32) (a2 : Int32) : Prop :=
  (vp_in (sc 3) 100) ∧ ((vp_in (sc 3) 100) ∧ ((vp_in (sc 3) 100) ∧ (vp_in (sc 3) 100)))
def f_Mo_dueFrom (ar : Nat → Nat → Int32) (sc : Nat → Int32) (a0 : Int32) : Int32 :=
  if 0 ≤ (ar 10 a0.toNatClampNeg) then
    (ar 10 a0.toNatClampNeg) + (ar 3 ((f_Mo_classOf ar sc a0).toNatClampNeg))
  else
    0
def p_Mo_dueFrom (ar : Nat → Nat → Int32) (sc : Nat → Int32) (a0 : Int32) : Prop :=
  (vp_in a0 30) ∧ ((0 ≤ (ar 10 a0.toNatClampNeg) → ((vp_in a0 30) ∧ ((p_Mo_classOf ar sc a0) ∧ (vp_in (f_Mo_classOf ar sc a0) 4)))) ∧ (¬ (0 ≤ (ar 10 a0.toNatClampNeg)) → True))
def f_Mo_isAhead (ar : Nat → Nat → Int32) (sc : Nat → Int32) (a0 : Int32) (a1 : Int32) : Int32 :=
  if (f_Mo_riskOf ar sc a0) = (f_Mo_riskOf ar sc a1) then
    if (ar 10 a0.toNatClampNeg) < (ar 10 a1.toNatClampNeg) then
      1
    else
      if (ar 10 a0.toNatClampNeg) = (ar 10 a1.toNatClampNeg) then
        if a1 ≤ a0 then
          0
        else
          1
      else
        0
  else
    if (f_Mo_riskOf ar sc a0) ≤ (f_Mo_riskOf ar sc a1) then
      0
    else
      1
def p_Mo_isAhead (ar : Nat → Nat → Int32) (sc : Nat → Int32) (a0 : Int32) (a1 : Int32) : Prop :=
  (p_Mo_riskOf ar sc a0) ∧ ((p_Mo_riskOf ar sc a1) ∧ (((f_Mo_riskOf ar sc a0) = (f_Mo_riskOf ar sc a1) → ((vp_in a0 30) ∧ ((vp_in a1 30) ∧ (((ar 10 a0.toNatClampNeg) < (ar 10 a1.toNatClampNeg) → True) ∧ (¬ ((ar 10 a0.toNatClampNeg) < (ar 10 a1.toNatClampNeg)) → ((vp_in a0 30) ∧ (vp_in a1 30))))))) ∧ (¬ ((f_Mo_riskOf ar sc a0) = (f_Mo_riskOf ar sc a1)) → True)))
def g_Mo_go_6 (a0 : Int32) (a1 : Int32) (a2 : Int32) (a3 : Int32)  : Nat → Int32 → Int32 → (Nat → Nat → Int32) → (Nat → Int32) → Int32 × (Nat → Nat → Int32) × (Nat → Int32)
  | 0, v5, v6, ar, sc => (0, ar, sc)
  | n + 1, v5, v6, ar, sc =>
    if v5 < 0 then
      (v6, ar, sc)
    else
      if (ar 15 v5.toNatClampNeg) = 0 then
        ((-1), ar, sc)
      else
        if ((a1 >>> (v5 &&& 31)) &&& 1) = 1 then
          g_Mo_go_6 a0 a1 a2 a3 n (ar 16 v5.toNatClampNeg) v6 ar sc
        else
          if (ar 18 v5.toNatClampNeg) ≤ 0 then
            g_Mo_go_6 a0 a1 a2 a3 n (ar 17 v5.toNatClampNeg) v6 ar sc
          else
            if a2 = 0 then
              g_Mo_go_6 a0 a1 a2 a3 n (ar 17 v5.toNatClampNeg) (v6 + 1) ar sc
            else
              g_Mo_go_6 a0 a1 a2 a3 n (((f_Mo_add ar sc a0 (ar 18 v5.toNatClampNeg) a3).1) 17 v5.toNatClampNeg) (v6 + 1) ((f_Mo_add ar sc a0 (ar 18 v5.toNatClampNeg) a3).1) ((f_Mo_add ar sc a0 (ar 18 v5.toNatClampNeg) a3).2)
def q_Mo_go_6 (a0 : Int32) (a1 : Int32) (a2 : Int32) (a3 : Int32)  : Nat → Int32 → Int32 → (Nat → Nat → Int32) → (Nat → Int32) → Prop
  | 0, _, _, _, _ => False
  | n + 1, v5, v6, ar, sc =>
    (v5 < 0 → True) ∧ (¬ (v5 < 0) → ((vp_in v5 16) ∧ (((ar 15 v5.toNatClampNeg) = 0 → True) ∧ (¬ ((ar 15 v5.toNatClampNeg) = 0) → ((((a1 >>> (v5 &&& 31)) &&& 1) = 1 → ((vp_in v5 16) ∧ (q_Mo_go_6 a0 a1 a2 a3 n (ar 16 v5.toNatClampNeg) v6 ar sc))) ∧ (¬ (((a1 >>> (v5 &&& 31)) &&& 1) = 1) → ((vp_in v5 16) ∧ (((ar 18 v5.toNatClampNeg) ≤ 0 → ((vp_in v5 16) ∧ (q_Mo_go_6 a0 a1 a2 a3 n (ar 17 v5.toNatClampNeg) v6 ar sc))) ∧ (¬ ((ar 18 v5.toNatClampNeg) ≤ 0) → ((a2 = 0 → ((vp_in v5 16) ∧ (q_Mo_go_6 a0 a1 a2 a3 n (ar 17 v5.toNatClampNeg) (v6 + 1) ar sc))) ∧ (¬ (a2 = 0) → ((vp_in v5 16) ∧ ((p_Mo_add ar sc a0 (ar 18 v5.toNatClampNeg) a3) ∧ ((vp_in v5 16) ∧ (q_Mo_go_6 a0 a1 a2 a3 n (((f_Mo_add ar sc a0 (ar 18 v5.toNatClampNeg) a3).1) 17 v5.toNatClampNeg) (v6 + 1) ((f_Mo_add ar sc a0 (ar 18 v5.toNatClampNeg) a3).1) ((f_Mo_add ar sc a0 (ar 18 v5.toNatClampNeg) a3).2))))))))))))))))
def f_Mo_go (ar : Nat → Nat → Int32) (sc : Nat → Int32) (a0 : Int32) (a1 : Int32) (a2 : Int32) (a3 : Int32) : Int32 × (Nat → Nat → Int32) × (Nat → Int32) :=
  g_Mo_go_6 a0 a1 a2 a3 200 0 0 ar sc
def p_Mo_go (ar : Nat → Nat → Int32) (sc : Nat → Int32) (a0 : Int32) (a1 : Int32) (a2 : Int32) (a3 : Int32) : Prop :=
  q_Mo_go_6 a0 a1 a2 a3 200 0 0 ar sc
def f_Mo_size (a0 : Int32) : Int32 :=
  if 0 ≤ a0 then
    a0
  else
    -a0
def f_Mo_between (ar : Nat → Nat → Int32) (sc : Nat → Int32) (a0 : Int32) (a1 : Int32) : Int32 :=
  (f_Mo_size ((ar 8 a0.toNatClampNeg) - (ar 8 a1.toNatClampNeg))) + (f_Mo_size ((ar 9 a0.toNatClampNeg) - (ar 9 a1.toNatClampNeg)))
def p_Mo_between (ar : Nat → Nat → Int32) (sc : Nat → Int32) (a0 : Int32) (a1 : Int32) : Prop :=
  (vp_in a0 30) ∧ ((vp_in a1 30) ∧ ((vp_in a0 30) ∧ (vp_in a1 30)))
def f_Mo_home (ar : Nat → Nat → Int32) (sc : Nat → Int32) (a0 : Int32) : Int32 :=
  (f_Mo_size (ar 8 a0.toNatClampNeg)) + (f_Mo_size (ar 9 a0.toNatClampNeg))
def p_Mo_home (ar : Nat → Nat → Int32) (sc : Nat → Int32) (a0 : Int32) : Prop :=
  (vp_in a0 30) ∧ (vp_in a0 30)
def f_Mo_placeOf (a0 : Int64) (a1 : Int32) : Int32 :=
  ((a0 >>> ((5 * a1).toInt64 &&& 63)).toInt32) &&& 31
def g_Mo_reckon_47 (a0 : Int32) (u2 : Int32) (u3 : Int32) (u4 : Int32) : Nat → Int32 → Int32 → (Nat → Nat → Int32) → (Nat → Int32) → Int32 × Int32 × (Nat → Nat → Int32) × (Nat → Int32)
  | 0, v5, v6, ar, sc => (v5, v6, ar, sc)
  | n + 1, v5, v6, ar, sc =>
    if a0 ≤ v6 then
      (v5, v6, ar, sc)
    else
      if ((u3 >>> (v6 &&& 31)) &&& 1) = 1 then
        if v5 ≤ (1000000000 : Int32) then
          g_Mo_reckon_47 a0 u2 u3 u4 n v5 (v6 + 1) ar sc
        else
          g_Mo_reckon_47 a0 u2 u3 u4 n 1000000000 (v6 + 1) ar sc
      else
        if v5 ≤ ((f_Mo_between ar sc (ar 20 u4.toNatClampNeg) (ar 20 v6.toNatClampNeg)) + (ar 21 (((7 * (u3 ||| ((1 : Int32) <<< (v6 &&& 31)))) + v6).toNatClampNeg))) then
          g_Mo_reckon_47 a0 u2 u3 u4 n v5 (v6 + 1) ar sc
        else
          g_Mo_reckon_47 a0 u2 u3 u4 n ((f_Mo_between ar sc (ar 20 u4.toNatClampNeg) (ar 20 v6.toNatClampNeg)) + (ar 21 (((7 * (u3 ||| ((1 : Int32) <<< (v6 &&& 31)))) + v6).toNatClampNeg))) (v6 + 1) ar sc
def q_Mo_reckon_47 (a0 : Int32) (u2 : Int32) (u3 : Int32) (u4 : Int32) : Nat → Int32 → Int32 → (Nat → Nat → Int32) → (Nat → Int32) → Prop
  | 0, _, _, _, _ => False
  | n + 1, v5, v6, ar, sc =>
    (a0 ≤ v6 → True) ∧ (¬ (a0 ≤ v6) → ((((u3 >>> (v6 &&& 31)) &&& 1) = 1 → ((v5 ≤ (1000000000 : Int32) → (q_Mo_reckon_47 a0 u2 u3 u4 n v5 (v6 + 1) ar sc)) ∧ (¬ (v5 ≤ (1000000000 : Int32)) → (q_Mo_reckon_47 a0 u2 u3 u4 n 1000000000 (v6 + 1) ar sc)))) ∧ (¬ (((u3 >>> (v6 &&& 31)) &&& 1) = 1) → ((vp_in u4 7) ∧ ((vp_in v6 7) ∧ ((p_Mo_between ar sc (ar 20 u4.toNatClampNeg) (ar 20 v6.toNatClampNeg)) ∧ ((vp_in ((7 * (u3 ||| ((1 : Int32) <<< (v6 &&& 31)))) + v6) 896) ∧ ((v5 ≤ ((f_Mo_between ar sc (ar 20 u4.toNatClampNeg) (ar 20 v6.toNatClampNeg)) + (ar 21 (((7 * (u3 ||| ((1 : Int32) <<< (v6 &&& 31)))) + v6).toNatClampNeg))) → (q_Mo_reckon_47 a0 u2 u3 u4 n v5 (v6 + 1) ar sc)) ∧ (¬ (v5 ≤ ((f_Mo_between ar sc (ar 20 u4.toNatClampNeg) (ar 20 v6.toNatClampNeg)) + (ar 21 (((7 * (u3 ||| ((1 : Int32) <<< (v6 &&& 31)))) + v6).toNatClampNeg)))) → (q_Mo_reckon_47 a0 u2 u3 u4 n ((f_Mo_between ar sc (ar 20 u4.toNatClampNeg) (ar 20 v6.toNatClampNeg)) + (ar 21 (((7 * (u3 ||| ((1 : Int32) <<< (v6 &&& 31)))) + v6).toNatClampNeg))) (v6 + 1) ar sc))))))))))
def g_Mo_reckon_15 (a0 : Int32) (u2 : Int32) (u3 : Int32) : Nat → Int32 → (Nat → Nat → Int32) → (Nat → Int32) → Int32 × (Nat → Nat → Int32) × (Nat → Int32)
  | 0, v4, ar, sc => (v4, ar, sc)
  | n + 1, v4, ar, sc =>
    if a0 ≤ v4 then
      (v4, ar, sc)
    else
      if u3 = u2 then
        g_Mo_reckon_15 a0 u2 u3 n (v4 + 1) (s2 ((g_Mo_reckon_47 a0 u2 u3 v4 200 (f_Mo_home ar sc (ar 20 v4.toNatClampNeg)) 0 ar sc).2.2.1) 21 (((7 * u3) + v4).toNatClampNeg) ((g_Mo_reckon_47 a0 u2 u3 v4 200 (f_Mo_home ar sc (ar 20 v4.toNatClampNeg)) 0 ar sc).1)) ((g_Mo_reckon_47 a0 u2 u3 v4 200 (f_Mo_home ar sc (ar 20 v4.toNatClampNeg)) 0 ar sc).2.2.2)
      else
        g_Mo_reckon_15 a0 u2 u3 n (v4 + 1) (s2 ((g_Mo_reckon_47 a0 u2 u3 v4 200 1000000000 0 ar sc).2.2.1) 21 (((7 * u3) + v4).toNatClampNeg) ((g_Mo_reckon_47 a0 u2 u3 v4 200 1000000000 0 ar sc).1)) ((g_Mo_reckon_47 a0 u2 u3 v4 200 1000000000 0 ar sc).2.2.2)
def q_Mo_reckon_15 (a0 : Int32) (u2 : Int32) (u3 : Int32) : Nat → Int32 → (Nat → Nat → Int32) → (Nat → Int32) → Prop
  | 0, _, _, _ => False
  | n + 1, v4, ar, sc =>
    (a0 ≤ v4 → True) ∧ (¬ (a0 ≤ v4) → ((u3 = u2 → ((vp_in v4 7) ∧ ((p_Mo_home ar sc (ar 20 v4.toNatClampNeg)) ∧ ((q_Mo_reckon_47 a0 u2 u3 v4 200 (f_Mo_home ar sc (ar 20 v4.toNatClampNeg)) 0 ar sc) ∧ ((vp_in ((7 * u3) + v4) 896) ∧ (q_Mo_reckon_15 a0 u2 u3 n (v4 + 1) (s2 ((g_Mo_reckon_47 a0 u2 u3 v4 200 (f_Mo_home ar sc (ar 20 v4.toNatClampNeg)) 0 ar sc).2.2.1) 21 (((7 * u3) + v4).toNatClampNeg) ((g_Mo_reckon_47 a0 u2 u3 v4 200 (f_Mo_home ar sc (ar 20 v4.toNatClampNeg)) 0 ar sc).1)) ((g_Mo_reckon_47 a0 u2 u3 v4 200 (f_Mo_home ar sc (ar 20 v4.toNatClampNeg)) 0 ar sc).2.2.2))))))) ∧ (¬ (u3 = u2) → ((q_Mo_reckon_47 a0 u2 u3 v4 200 1000000000 0 ar sc) ∧ ((vp_in ((7 * u3) + v4) 896) ∧ (q_Mo_reckon_15 a0 u2 u3 n (v4 + 1) (s2 ((g_Mo_reckon_47 a0 u2 u3 v4 200 1000000000 0 ar sc).2.2.1) 21 (((7 * u3) + v4).toNatClampNeg) ((g_Mo_reckon_47 a0 u2 u3 v4 200 1000000000 0 ar sc).1)) ((g_Mo_reckon_47 a0 u2 u3 v4 200 1000000000 0 ar sc).2.2.2)))))))
def g_Mo_reckon_8 (a0 : Int32) (u2 : Int32) : Nat → Int32 → (Nat → Nat → Int32) → (Nat → Int32) → Int32 × (Nat → Nat → Int32) × (Nat → Int32)
  | 0, v3, ar, sc => (v3, ar, sc)
  | n + 1, v3, ar, sc =>
    if v3 ≤ 0 then
      (v3, ar, sc)
    else
      g_Mo_reckon_8 a0 u2 n (v3 + (-1)) ((g_Mo_reckon_15 a0 u2 v3 200 0 ar sc).2.1) ((g_Mo_reckon_15 a0 u2 v3 200 0 ar sc).2.2)
def q_Mo_reckon_8 (a0 : Int32) (u2 : Int32) : Nat → Int32 → (Nat → Nat → Int32) → (Nat → Int32) → Prop
  | 0, _, _, _ => False
  | n + 1, v3, ar, sc =>
    (v3 ≤ 0 → True) ∧ (¬ (v3 ≤ 0) → ((q_Mo_reckon_15 a0 u2 v3 200 0 ar sc) ∧ (q_Mo_reckon_8 a0 u2 n (v3 + (-1)) ((g_Mo_reckon_15 a0 u2 v3 200 0 ar sc).2.1) ((g_Mo_reckon_15 a0 u2 v3 200 0 ar sc).2.2))))
def f_Mo_reckon (ar : Nat → Nat → Int32) (sc : Nat → Int32) (a0 : Int32) : (Nat → Nat → Int32) × (Nat → Int32) :=
  ((g_Mo_reckon_8 a0 (((1 : Int32) <<< (a0 &&& 31)) - 1) 200 (((1 : Int32) <<< (a0 &&& 31)) - 1) ar sc).2.1, (g_Mo_reckon_8 a0 (((1 : Int32) <<< (a0 &&& 31)) - 1) 200 (((1 : Int32) <<< (a0 &&& 31)) - 1) ar sc).2.2)
def p_Mo_reckon (ar : Nat → Nat → Int32) (sc : Nat → Int32) (a0 : Int32) : Prop :=
  q_Mo_reckon_8 a0 (((1 : Int32) <<< (a0 &&& 31)) - 1) 200 (((1 : Int32) <<< (a0 &&& 31)) - 1) ar sc
def f_Mo_isPlace (a0 : Int32) : Int32 :=
  f_Mo_in a0 (-10000000) 10000000
def f_Mo_apart (a0 : Int32) (a1 : Int32) (a2 : Int32) (a3 : Int32) : Int64 :=
  if a2 ≤ a1 then
    if a0 ≤ a3 then
      0
    else
      (a0 - a3).toInt64
  else
    (a2 - a1).toInt64
def f_Mo_isNear (ar : Nat → Nat → Int32) (sc : Nat → Int32) (a0 : Int32) : Int32 :=
  if 0 ≤ (lg_cmp (((f_Mo_apart (ar 22 ((120 : Int32).toNatClampNeg)) (ar 22 ((122 : Int32).toNatClampNeg)) (ar 22 ((4 * a0 : Int32).toNatClampNeg)) (ar 22 (((4 * a0) + 2).toNatClampNeg))) * (f_Mo_apart (ar 22 ((120 : Int32).toNatClampNeg)) (ar 22 ((122 : Int32).toNatClampNeg)) (ar 22 ((4 * a0 : Int32).toNatClampNeg)) (ar 22 (((4 * a0) + 2).toNatClampNeg)))) + ((f_Mo_apart (ar 22 ((121 : Int32).toNatClampNeg)) (ar 22 ((123 : Int32).toNatClampNeg)) (ar 22 (((4 * a0) + 1).toNatClampNeg)) (ar 22 (((4 * a0) + 3).toNatClampNeg))) * (f_Mo_apart (ar 22 ((121 : Int32).toNatClampNeg)) (ar 22 ((123 : Int32).toNatClampNeg)) (ar 22 (((4 * a0) + 1).toNatClampNeg)) (ar 22 (((4 * a0) + 3).toNatClampNeg))))) (((sc 6).toInt64) * ((sc 6).toInt64))) then
    0
  else
    1
def p_Mo_isNear (ar : Nat → Nat → Int32) (sc : Nat → Int32) (a0 : Int32) : Prop :=
  (vp_in 120 124) ∧ ((vp_in 122 124) ∧ ((vp_in (4 * a0) 124) ∧ ((vp_in ((4 * a0) + 2) 124) ∧ ((vp_in 121 124) ∧ ((vp_in 123 124) ∧ ((vp_in ((4 * a0) + 1) 124) ∧ (vp_in ((4 * a0) + 3) 124)))))))
def g_Mo_refusal_65 (ar : Nat → Nat → Int32) (sc : Nat → Int32) (a0 : Int32) (a1 : Int32) (a2 : Int32) (u4 : Int64) : Nat → Int32 → Int32
  | 0, v6 => (0)
  | n + 1, v6 =>
    if (sc 8) ≤ v6 then
      (-1)
    else
      if a1 ≤ (ar 23 v6.toNatClampNeg) then
        g_Mo_refusal_65 ar sc a0 a1 a2 u4 n (v6 + 1)
      else
        if (ar 24 v6.toNatClampNeg) ≤ a0 then
          g_Mo_refusal_65 ar sc a0 a1 a2 u4 n (v6 + 1)
        else
          if (f_Mo_isNear ar sc v6) = 0 then
            g_Mo_refusal_65 ar sc a0 a1 a2 u4 n (v6 + 1)
          else
            v6
def q_Mo_refusal_65 (ar : Nat → Nat → Int32) (sc : Nat → Int32) (a0 : Int32) (a1 : Int32) (a2 : Int32) (u4 : Int64) : Nat → Int32 → Prop
  | 0, _ => False
  | n + 1, v6 =>
    ((sc 8) ≤ v6 → True) ∧ (¬ ((sc 8) ≤ v6) → ((vp_in v6 30) ∧ ((a1 ≤ (ar 23 v6.toNatClampNeg) → (q_Mo_refusal_65 ar sc a0 a1 a2 u4 n (v6 + 1))) ∧ (¬ (a1 ≤ (ar 23 v6.toNatClampNeg)) → ((vp_in v6 30) ∧ (((ar 24 v6.toNatClampNeg) ≤ a0 → (q_Mo_refusal_65 ar sc a0 a1 a2 u4 n (v6 + 1))) ∧ (¬ ((ar 24 v6.toNatClampNeg) ≤ a0) → ((p_Mo_isNear ar sc v6) ∧ (((f_Mo_isNear ar sc v6) = 0 → (q_Mo_refusal_65 ar sc a0 a1 a2 u4 n (v6 + 1))) ∧ (¬ ((f_Mo_isNear ar sc v6) = 0) → True))))))))))
def f_Mo_refusal (ar : Nat → Nat → Int32) (sc : Nat → Int32) (a0 : Int32) (a1 : Int32) (a2 : Int32) : Int32 :=
  if (sc 7) = 0 then
    (-2)
  else
    if 0 ≤ (lg_cmp ((((ar 22 ((122 : Int32).toNatClampNeg)) - (ar 22 ((120 : Int32).toNatClampNeg))).toInt64) * (((ar 22 ((123 : Int32).toNatClampNeg)) - (ar 22 ((121 : Int32).toNatClampNeg))).toInt64)) (((sc 5).toInt64) * a2.toInt64)) then
      g_Mo_refusal_65 ar sc a0 a1 a2 ((((ar 22 ((122 : Int32).toNatClampNeg)) - (ar 22 ((120 : Int32).toNatClampNeg))).toInt64) * (((ar 22 ((123 : Int32).toNatClampNeg)) - (ar 22 ((121 : Int32).toNatClampNeg))).toInt64)) 200 0
    else
      (-3)
def p_Mo_refusal (ar : Nat → Nat → Int32) (sc : Nat → Int32) (a0 : Int32) (a1 : Int32) (a2 : Int32) : Prop :=
  ((sc 7) = 0 → True) ∧ (¬ ((sc 7) = 0) → ((vp_in 122 124) ∧ ((vp_in 120 124) ∧ ((vp_in 123 124) ∧ ((vp_in 121 124) ∧ ((0 ≤ (lg_cmp ((((ar 22 ((122 : Int32).toNatClampNeg)) - (ar 22 ((120 : Int32).toNatClampNeg))).toInt64) * (((ar 22 ((123 : Int32).toNatClampNeg)) - (ar 22 ((121 : Int32).toNatClampNeg))).toInt64)) (((sc 5).toInt64) * a2.toInt64)) → (q_Mo_refusal_65 ar sc a0 a1 a2 ((((ar 22 ((122 : Int32).toNatClampNeg)) - (ar 22 ((120 : Int32).toNatClampNeg))).toInt64) * (((ar 22 ((123 : Int32).toNatClampNeg)) - (ar 22 ((121 : Int32).toNatClampNeg))).toInt64)) 200 0)) ∧ (¬ (0 ≤ (lg_cmp ((((ar 22 ((122 : Int32).toNatClampNeg)) - (ar 22 ((120 : Int32).toNatClampNeg))).toInt64) * (((ar 22 ((123 : Int32).toNatClampNeg)) - (ar 22 ((121 : Int32).toNatClampNeg))).toInt64)) (((sc 5).toInt64) * a2.toInt64))) → True)))))))
def f_Mo_weight (ar : Nat → Nat → Int32) (sc : Nat → Int32) (a0 : Int32) (a1 : Int32) : (Nat → Nat → Int32) × (Nat → Int32) :=
  if (f_Mo_in a0 0 4) = 0 then
    if (f_Mo_in a1 0 100) = 0 then
      if ((f_Mo_throwing ar sc 1 1 0).1) = 0 then
        (s2 ((f_Mo_throwing ar sc 1 1 0).2.1) 1 a0.toNatClampNeg a1, (f_Mo_throwing ar sc 1 1 0).2.2)
      else
        ((f_Mo_throwing ar sc 1 1 0).2.1, (f_Mo_throwing ar sc 1 1 0).2.2)
    else
      if ((f_Mo_throwing ar sc 1 0 0).1) = 0 then
        (s2 ((f_Mo_throwing ar sc 1 0 0).2.1) 1 a0.toNatClampNeg a1, (f_Mo_throwing ar sc 1 0 0).2.2)
      else
        ((f_Mo_throwing ar sc 1 0 0).2.1, (f_Mo_throwing ar sc 1 0 0).2.2)
  else
    if (f_Mo_in a1 0 100) = 0 then
      if ((f_Mo_throwing ar sc 0 1 0).1) = 0 then
        (s2 ((f_Mo_throwing ar sc 0 1 0).2.1) 1 a0.toNatClampNeg a1, (f_Mo_throwing ar sc 0 1 0).2.2)
      else
        ((f_Mo_throwing ar sc 0 1 0).2.1, (f_Mo_throwing ar sc 0 1 0).2.2)
    else
      if ((f_Mo_throwing ar sc 0 0 0).1) = 0 then
        (s2 ((f_Mo_throwing ar sc 0 0 0).2.1) 1 a0.toNatClampNeg a1, (f_Mo_throwing ar sc 0 0 0).2.2)
      else
        ((f_Mo_throwing ar sc 0 0 0).2.1, (f_Mo_throwing ar sc 0 0 0).2.2)
def p_Mo_weight (ar : Nat → Nat → Int32) (sc : Nat → Int32) (a0 : Int32) (a1 : Int32) : Prop :=
  ((f_Mo_in a0 0 4) = 0 → (((f_Mo_in a1 0 100) = 0 → ((((f_Mo_throwing ar sc 1 1 0).1) = 0 → (vp_in a0 5)) ∧ (¬ (((f_Mo_throwing ar sc 1 1 0).1) = 0) → True))) ∧ (¬ ((f_Mo_in a1 0 100) = 0) → ((((f_Mo_throwing ar sc 1 0 0).1) = 0 → (vp_in a0 5)) ∧ (¬ (((f_Mo_throwing ar sc 1 0 0).1) = 0) → True))))) ∧ (¬ ((f_Mo_in a0 0 4) = 0) → (((f_Mo_in a1 0 100) = 0 → ((((f_Mo_throwing ar sc 0 1 0).1) = 0 → (vp_in a0 5)) ∧ (¬ (((f_Mo_throwing ar sc 0 1 0).1) = 0) → True))) ∧ (¬ ((f_Mo_in a1 0 100) = 0) → ((((f_Mo_throwing ar sc 0 0 0).1) = 0 → (vp_in a0 5)) ∧ (¬ (((f_Mo_throwing ar sc 0 0 0).1) = 0) → True)))))
def f_Mo_steps (ar : Nat → Nat → Int32) (sc : Nat → Int32) (a0 : Int32) (a1 : Int32) (a2 : Int32) : (Nat → Nat → Int32) × (Nat → Int32) :=
  if a0 < 0 then
    if ((f_Mo_throwing ar sc 1 0 0).1) = 0 then
      (s2 (s2 (s2 ((f_Mo_throwing ar sc 1 0 0).2.1) 2 ((0 : Int32).toNatClampNeg) a0) 2 ((1 : Int32).toNatClampNeg) a1) 2 ((2 : Int32).toNatClampNeg) a2, (f_Mo_throwing ar sc 1 0 0).2.2)
    else
      ((f_Mo_throwing ar sc 1 0 0).2.1, (f_Mo_throwing ar sc 1 0 0).2.2)
  else
    if a1 < a0 then
      if ((f_Mo_throwing ar sc 1 0 0).1) = 0 then
        (s2 (s2 (s2 ((f_Mo_throwing ar sc 1 0 0).2.1) 2 ((0 : Int32).toNatClampNeg) a0) 2 ((1 : Int32).toNatClampNeg) a1) 2 ((2 : Int32).toNatClampNeg) a2, (f_Mo_throwing ar sc 1 0 0).2.2)
      else
        ((f_Mo_throwing ar sc 1 0 0).2.1, (f_Mo_throwing ar sc 1 0 0).2.2)
    else
      if a2 < a1 then
        if ((f_Mo_throwing ar sc 1 0 0).1) = 0 then
          (s2 (s2 (s2 ((f_Mo_throwing ar sc 1 0 0).2.1) 2 ((0 : Int32).toNatClampNeg) a0) 2 ((1 : Int32).toNatClampNeg) a1) 2 ((2 : Int32).toNatClampNeg) a2, (f_Mo_throwing ar sc 1 0 0).2.2)
        else
          ((f_Mo_throwing ar sc 1 0 0).2.1, (f_Mo_throwing ar sc 1 0 0).2.2)
      else
        if a2 ≤ 100000 then
          if ((f_Mo_throwing ar sc 0 0 0).1) = 0 then
            (s2 (s2 (s2 ((f_Mo_throwing ar sc 0 0 0).2.1) 2 ((0 : Int32).toNatClampNeg) a0) 2 ((1 : Int32).toNatClampNeg) a1) 2 ((2 : Int32).toNatClampNeg) a2, (f_Mo_throwing ar sc 0 0 0).2.2)
          else
            ((f_Mo_throwing ar sc 0 0 0).2.1, (f_Mo_throwing ar sc 0 0 0).2.2)
        else
          if ((f_Mo_throwing ar sc 1 0 0).1) = 0 then
            (s2 (s2 (s2 ((f_Mo_throwing ar sc 1 0 0).2.1) 2 ((0 : Int32).toNatClampNeg) a0) 2 ((1 : Int32).toNatClampNeg) a1) 2 ((2 : Int32).toNatClampNeg) a2, (f_Mo_throwing ar sc 1 0 0).2.2)
          else
            ((f_Mo_throwing ar sc 1 0 0).2.1, (f_Mo_throwing ar sc 1 0 0).2.2)
def p_Mo_steps (ar : Nat → Nat → Int32) (sc : Nat → Int32) (a0 : Int32) (a1 : Int32) (a2 : Int32) : Prop :=
  (a0 < 0 → ((((f_Mo_throwing ar sc 1 0 0).1) = 0 → ((vp_in 0 3) ∧ ((vp_in 1 3) ∧ (vp_in 2 3)))) ∧ (¬ (((f_Mo_throwing ar sc 1 0 0).1) = 0) → True))) ∧ (¬ (a0 < 0) → ((a1 < a0 → ((((f_Mo_throwing ar sc 1 0 0).1) = 0 → ((vp_in 0 3) ∧ ((vp_in 1 3) ∧ (vp_in 2 3)))) ∧ (¬ (((f_Mo_throwing ar sc 1 0 0).1) = 0) → True))) ∧ (¬ (a1 < a0) → ((a2 < a1 → ((((f_Mo_throwing ar sc 1 0 0).1) = 0 → ((vp_in 0 3) ∧ ((vp_in 1 3) ∧ (vp_in 2 3)))) ∧ (¬ (((f_Mo_throwing ar sc 1 0 0).1) = 0) → True))) ∧ (¬ (a2 < a1) → ((a2 ≤ 100000 → ((((f_Mo_throwing ar sc 0 0 0).1) = 0 → ((vp_in 0 3) ∧ ((vp_in 1 3) ∧ (vp_in 2 3)))) ∧ (¬ (((f_Mo_throwing ar sc 0 0 0).1) = 0) → True))) ∧ (¬ (a2 ≤ 100000) → ((((f_Mo_throwing ar sc 1 0 0).1) = 0 → ((vp_in 0 3) ∧ ((vp_in 1 3) ∧ (vp_in 2 3)))) ∧ (¬ (((f_Mo_throwing ar sc 1 0 0).1) = 0) → True)))))))))
def f_Mo_interval (ar : Nat → Nat → Int32) (sc : Nat → Int32) (a0 : Int32) (a1 : Int32) (a2 : Int32) : (Nat → Nat → Int32) × (Nat → Int32) :=
  if (f_Mo_in a0 0 3) = 0 then
    if (f_Mo_in a1 1 4000) = 0 then
      if ((f_Mo_throwing ar sc 1 1 0).1) = 0 then
        (s2 (s2 ((f_Mo_throwing ar sc 1 1 0).2.1) 3 a0.toNatClampNeg a1) 4 a0.toNatClampNeg a2, (f_Mo_throwing ar sc 1 1 0).2.2)
      else
        ((f_Mo_throwing ar sc 1 1 0).2.1, (f_Mo_throwing ar sc 1 1 0).2.2)
    else
      if (f_Mo_in a2 0 1000) = 0 then
        if ((f_Mo_throwing ar sc 1 1 0).1) = 0 then
          (s2 (s2 ((f_Mo_throwing ar sc 1 1 0).2.1) 3 a0.toNatClampNeg a1) 4 a0.toNatClampNeg a2, (f_Mo_throwing ar sc 1 1 0).2.2)
        else
          ((f_Mo_throwing ar sc 1 1 0).2.1, (f_Mo_throwing ar sc 1 1 0).2.2)
      else
        if ((f_Mo_throwing ar sc 1 0 0).1) = 0 then
          (s2 (s2 ((f_Mo_throwing ar sc 1 0 0).2.1) 3 a0.toNatClampNeg a1) 4 a0.toNatClampNeg a2, (f_Mo_throwing ar sc 1 0 0).2.2)
        else
          ((f_Mo_throwing ar sc 1 0 0).2.1, (f_Mo_throwing ar sc 1 0 0).2.2)
  else
    if (f_Mo_in a1 1 4000) = 0 then
      if ((f_Mo_throwing ar sc 0 1 0).1) = 0 then
        (s2 (s2 ((f_Mo_throwing ar sc 0 1 0).2.1) 3 a0.toNatClampNeg a1) 4 a0.toNatClampNeg a2, (f_Mo_throwing ar sc 0 1 0).2.2)
      else
        ((f_Mo_throwing ar sc 0 1 0).2.1, (f_Mo_throwing ar sc 0 1 0).2.2)
    else
      if (f_Mo_in a2 0 1000) = 0 then
        if ((f_Mo_throwing ar sc 0 1 0).1) = 0 then
          (s2 (s2 ((f_Mo_throwing ar sc 0 1 0).2.1) 3 a0.toNatClampNeg a1) 4 a0.toNatClampNeg a2, (f_Mo_throwing ar sc 0 1 0).2.2)
        else
          ((f_Mo_throwing ar sc 0 1 0).2.1, (f_Mo_throwing ar sc 0 1 0).2.2)
      else
        if ((f_Mo_throwing ar sc 0 0 0).1) = 0 then
          (s2 (s2 ((f_Mo_throwing ar sc 0 0 0).2.1) 3 a0.toNatClampNeg a1) 4 a0.toNatClampNeg a2, (f_Mo_throwing ar sc 0 0 0).2.2)
        else
          ((f_Mo_throwing ar sc 0 0 0).2.1, (f_Mo_throwing ar sc 0 0 0).2.2)
def p_Mo_interval (ar : Nat → Nat → Int32) (sc : Nat → Int32) (a0 : Int32) (a1 : Int32) (a2 : Int32) : Prop :=
  ((f_Mo_in a0 0 3) = 0 → (((f_Mo_in a1 1 4000) = 0 → ((((f_Mo_throwing ar sc 1 1 0).1) = 0 → ((vp_in a0 4) ∧ (vp_in a0 4))) ∧ (¬ (((f_Mo_throwing ar sc 1 1 0).1) = 0) → True))) ∧ (¬ ((f_Mo_in a1 1 4000) = 0) → (((f_Mo_in a2 0 1000) = 0 → ((((f_Mo_throwing ar sc 1 1 0).1) = 0 → ((vp_in a0 4) ∧ (vp_in a0 4))) ∧ (¬ (((f_Mo_throwing ar sc 1 1 0).1) = 0) → True))) ∧ (¬ ((f_Mo_in a2 0 1000) = 0) → ((((f_Mo_throwing ar sc 1 0 0).1) = 0 → ((vp_in a0 4) ∧ (vp_in a0 4))) ∧ (¬ (((f_Mo_throwing ar sc 1 0 0).1) = 0) → True))))))) ∧ (¬ ((f_Mo_in a0 0 3) = 0) → (((f_Mo_in a1 1 4000) = 0 → ((((f_Mo_throwing ar sc 0 1 0).1) = 0 → ((vp_in a0 4) ∧ (vp_in a0 4))) ∧ (¬ (((f_Mo_throwing ar sc 0 1 0).1) = 0) → True))) ∧ (¬ ((f_Mo_in a1 1 4000) = 0) → (((f_Mo_in a2 0 1000) = 0 → ((((f_Mo_throwing ar sc 0 1 0).1) = 0 → ((vp_in a0 4) ∧ (vp_in a0 4))) ∧ (¬ (((f_Mo_throwing ar sc 0 1 0).1) = 0) → True))) ∧ (¬ ((f_Mo_in a2 0 1000) = 0) → ((((f_Mo_throwing ar sc 0 0 0).1) = 0 → ((vp_in a0 4) ∧ (vp_in a0 4))) ∧ (¬ (((f_Mo_throwing ar sc 0 0 0).1) = 0) → True)))))))
def f_Mo_point (ar : Nat → Nat → Int32) (sc : Nat → Int32) (a0 : Int32) (a1 : Int32) (a2 : Int32) (a3 : Int32) (a4 : Int32) : Int32 × (Nat → Nat → Int32) × (Nat → Int32) :=
  if (f_Mo_in a1 0 3000) = 0 then
    if (f_Mo_in a0 0 4) = 0 then
      if (sc 2) = 30 then
        if ((f_Mo_throwing ar sc 1 1 1).1) = 0 then
          (((sg ((f_Mo_throwing ar sc 1 1 1).2.2) 2 ((((f_Mo_throwing ar sc 1 1 1).2.2) 2) + 1)) 2) - 1, s2 (s2 (s2 (s2 (s2 (s2 ((f_Mo_throwing ar sc 1 1 1).2.1) 5 ((((f_Mo_throwing ar sc 1 1 1).2.2) 2).toNatClampNeg) a0) 6 ((((f_Mo_throwing ar sc 1 1 1).2.2) 2).toNatClampNeg) a1) 7 ((((f_Mo_throwing ar sc 1 1 1).2.2) 2).toNatClampNeg) a2) 8 ((((f_Mo_throwing ar sc 1 1 1).2.2) 2).toNatClampNeg) a3) 9 ((((f_Mo_throwing ar sc 1 1 1).2.2) 2).toNatClampNeg) a4) 10 ((((f_Mo_throwing ar sc 1 1 1).2.2) 2).toNatClampNeg) (-1), sg ((f_Mo_throwing ar sc 1 1 1).2.2) 2 ((((f_Mo_throwing ar sc 1 1 1).2.2) 2) + 1))
        else
          (0, (f_Mo_throwing ar sc 1 1 1).2.1, (f_Mo_throwing ar sc 1 1 1).2.2)
      else
        if ((f_Mo_throwing ar sc 1 1 0).1) = 0 then
          (((sg ((f_Mo_throwing ar sc 1 1 0).2.2) 2 ((((f_Mo_throwing ar sc 1 1 0).2.2) 2) + 1)) 2) - 1, s2 (s2 (s2 (s2 (s2 (s2 ((f_Mo_throwing ar sc 1 1 0).2.1) 5 ((((f_Mo_throwing ar sc 1 1 0).2.2) 2).toNatClampNeg) a0) 6 ((((f_Mo_throwing ar sc 1 1 0).2.2) 2).toNatClampNeg) a1) 7 ((((f_Mo_throwing ar sc 1 1 0).2.2) 2).toNatClampNeg) a2) 8 ((((f_Mo_throwing ar sc 1 1 0).2.2) 2).toNatClampNeg) a3) 9 ((((f_Mo_throwing ar sc 1 1 0).2.2) 2).toNatClampNeg) a4) 10 ((((f_Mo_throwing ar sc 1 1 0).2.2) 2).toNatClampNeg) (-1), sg ((f_Mo_throwing ar sc 1 1 0).2.2) 2 ((((f_Mo_throwing ar sc 1 1 0).2.2) 2) + 1))
        else
          (0, (f_Mo_throwing ar sc 1 1 0).2.1, (f_Mo_throwing ar sc 1 1 0).2.2)
    else
      if (sc 2) = 30 then
        if ((f_Mo_throwing ar sc 0 1 1).1) = 0 then
          (((sg ((f_Mo_throwing ar sc 0 1 1).2.2) 2 ((((f_Mo_throwing ar sc 0 1 1).2.2) 2) + 1)) 2) - 1, s2 (s2 (s2 (s2 (s2 (s2 ((f_Mo_throwing ar sc 0 1 1).2.1) 5 ((((f_Mo_throwing ar sc 0 1 1).2.2) 2).toNatClampNeg) a0) 6 ((((f_Mo_throwing ar sc 0 1 1).2.2) 2).toNatClampNeg) a1) 7 ((((f_Mo_throwing ar sc 0 1 1).2.2) 2).toNatClampNeg) a2) 8 ((((f_Mo_throwing ar sc 0 1 1).2.2) 2).toNatClampNeg) a3) 9 ((((f_Mo_throwing ar sc 0 1 1).2.2) 2).toNatClampNeg) a4) 10 ((((f_Mo_throwing ar sc 0 1 1).2.2) 2).toNatClampNeg) (-1), sg ((f_Mo_throwing ar sc 0 1 1).2.2) 2 ((((f_Mo_throwing ar sc 0 1 1).2.2) 2) + 1))
        else
          (0, (f_Mo_throwing ar sc 0 1 1).2.1, (f_Mo_throwing ar sc 0 1 1).2.2)
      else
        if ((f_Mo_throwing ar sc 0 1 0).1) = 0 then
          (((sg ((f_Mo_throwing ar sc 0 1 0).2.2) 2 ((((f_Mo_throwing ar sc 0 1 0).2.2) 2) + 1)) 2) - 1, s2 (s2 (s2 (s2 (s2 (s2 ((f_Mo_throwing ar sc 0 1 0).2.1) 5 ((((f_Mo_throwing ar sc 0 1 0).2.2) 2).toNatClampNeg) a0) 6 ((((f_Mo_throwing ar sc 0 1 0).2.2) 2).toNatClampNeg) a1) 7 ((((f_Mo_throwing ar sc 0 1 0).2.2) 2).toNatClampNeg) a2) 8 ((((f_Mo_throwing ar sc 0 1 0).2.2) 2).toNatClampNeg) a3) 9 ((((f_Mo_throwing ar sc 0 1 0).2.2) 2).toNatClampNeg) a4) 10 ((((f_Mo_throwing ar sc 0 1 0).2.2) 2).toNatClampNeg) (-1), sg ((f_Mo_throwing ar sc 0 1 0).2.2) 2 ((((f_Mo_throwing ar sc 0 1 0).2.2) 2) + 1))
        else
          (0, (f_Mo_throwing ar sc 0 1 0).2.1, (f_Mo_throwing ar sc 0 1 0).2.2)
  else
    if (f_Mo_in a2 0 100000) = 0 then
      if (f_Mo_in a0 0 4) = 0 then
        if (sc 2) = 30 then
          if ((f_Mo_throwing ar sc 1 1 1).1) = 0 then
            (((sg ((f_Mo_throwing ar sc 1 1 1).2.2) 2 ((((f_Mo_throwing ar sc 1 1 1).2.2) 2) + 1)) 2) - 1, s2 (s2 (s2 (s2 (s2 (s2 ((f_Mo_throwing ar sc 1 1 1).2.1) 5 ((((f_Mo_throwing ar sc 1 1 1).2.2) 2).toNatClampNeg) a0) 6 ((((f_Mo_throwing ar sc 1 1 1).2.2) 2).toNatClampNeg) a1) 7 ((((f_Mo_throwing ar sc 1 1 1).2.2) 2).toNatClampNeg) a2) 8 ((((f_Mo_throwing ar sc 1 1 1).2.2) 2).toNatClampNeg) a3) 9 ((((f_Mo_throwing ar sc 1 1 1).2.2) 2).toNatClampNeg) a4) 10 ((((f_Mo_throwing ar sc 1 1 1).2.2) 2).toNatClampNeg) (-1), sg ((f_Mo_throwing ar sc 1 1 1).2.2) 2 ((((f_Mo_throwing ar sc 1 1 1).2.2) 2) + 1))
          else
            (0, (f_Mo_throwing ar sc 1 1 1).2.1, (f_Mo_throwing ar sc 1 1 1).2.2)
        else
          if ((f_Mo_throwing ar sc 1 1 0).1) = 0 then
            (((sg ((f_Mo_throwing ar sc 1 1 0).2.2) 2 ((((f_Mo_throwing ar sc 1 1 0).2.2) 2) + 1)) 2) - 1, s2 (s2 (s2 (s2 (s2 (s2 ((f_Mo_throwing ar sc 1 1 0).2.1) 5 ((((f_Mo_throwing ar sc 1 1 0).2.2) 2).toNatClampNeg) a0) 6 ((((f_Mo_throwing ar sc 1 1 0).2.2) 2).toNatClampNeg) a1) 7 ((((f_Mo_throwing ar sc 1 1 0).2.2) 2).toNatClampNeg) a2) 8 ((((f_Mo_throwing ar sc 1 1 0).2.2) 2).toNatClampNeg) a3) 9 ((((f_Mo_throwing ar sc 1 1 0).2.2) 2).toNatClampNeg) a4) 10 ((((f_Mo_throwing ar sc 1 1 0).2.2) 2).toNatClampNeg) (-1), sg ((f_Mo_throwing ar sc 1 1 0).2.2) 2 ((((f_Mo_throwing ar sc 1 1 0).2.2) 2) + 1))
          else
            (0, (f_Mo_throwing ar sc 1 1 0).2.1, (f_Mo_throwing ar sc 1 1 0).2.2)
      else
        if (sc 2) = 30 then
          if ((f_Mo_throwing ar sc 0 1 1).1) = 0 then
            (((sg ((f_Mo_throwing ar sc 0 1 1).2.2) 2 ((((f_Mo_throwing ar sc 0 1 1).2.2) 2) + 1)) 2) - 1, s2 (s2 (s2 (s2 (s2 (s2 ((f_Mo_throwing ar sc 0 1 1).2.1) 5 ((((f_Mo_throwing ar sc 0 1 1).2.2) 2).toNatClampNeg) a0) 6 ((((f_Mo_throwing ar sc 0 1 1).2.2) 2).toNatClampNeg) a1) 7 ((((f_Mo_throwing ar sc 0 1 1).2.2) 2).toNatClampNeg) a2) 8 ((((f_Mo_throwing ar sc 0 1 1).2.2) 2).toNatClampNeg) a3) 9 ((((f_Mo_throwing ar sc 0 1 1).2.2) 2).toNatClampNeg) a4) 10 ((((f_Mo_throwing ar sc 0 1 1).2.2) 2).toNatClampNeg) (-1), sg ((f_Mo_throwing ar sc 0 1 1).2.2) 2 ((((f_Mo_throwing ar sc 0 1 1).2.2) 2) + 1))
          else
            (0, (f_Mo_throwing ar sc 0 1 1).2.1, (f_Mo_throwing ar sc 0 1 1).2.2)
        else
          if ((f_Mo_throwing ar sc 0 1 0).1) = 0 then
            (((sg ((f_Mo_throwing ar sc 0 1 0).2.2) 2 ((((f_Mo_throwing ar sc 0 1 0).2.2) 2) + 1)) 2) - 1, s2 (s2 (s2 (s2 (s2 (s2 ((f_Mo_throwing ar sc 0 1 0).2.1) 5 ((((f_Mo_throwing ar sc 0 1 0).2.2) 2).toNatClampNeg) a0) 6 ((((f_Mo_throwing ar sc 0 1 0).2.2) 2).toNatClampNeg) a1) 7 ((((f_Mo_throwing ar sc 0 1 0).2.2) 2).toNatClampNeg) a2) 8 ((((f_Mo_throwing ar sc 0 1 0).2.2) 2).toNatClampNeg) a3) 9 ((((f_Mo_throwing ar sc 0 1 0).2.2) 2).toNatClampNeg) a4) 10 ((((f_Mo_throwing ar sc 0 1 0).2.2) 2).toNatClampNeg) (-1), sg ((f_Mo_throwing ar sc 0 1 0).2.2) 2 ((((f_Mo_throwing ar sc 0 1 0).2.2) 2) + 1))
          else
            (0, (f_Mo_throwing ar sc 0 1 0).2.1, (f_Mo_throwing ar sc 0 1 0).2.2)
    else
      if (f_Mo_in a3 (-10000) 10000) = 0 then
        if (f_Mo_in a0 0 4) = 0 then
          if (sc 2) = 30 then
            if ((f_Mo_throwing ar sc 1 1 1).1) = 0 then
              (((sg ((f_Mo_throwing ar sc 1 1 1).2.2) 2 ((((f_Mo_throwing ar sc 1 1 1).2.2) 2) + 1)) 2) - 1, s2 (s2 (s2 (s2 (s2 (s2 ((f_Mo_throwing ar sc 1 1 1).2.1) 5 ((((f_Mo_throwing ar sc 1 1 1).2.2) 2).toNatClampNeg) a0) 6 ((((f_Mo_throwing ar sc 1 1 1).2.2) 2).toNatClampNeg) a1) 7 ((((f_Mo_throwing ar sc 1 1 1).2.2) 2).toNatClampNeg) a2) 8 ((((f_Mo_throwing ar sc 1 1 1).2.2) 2).toNatClampNeg) a3) 9 ((((f_Mo_throwing ar sc 1 1 1).2.2) 2).toNatClampNeg) a4) 10 ((((f_Mo_throwing ar sc 1 1 1).2.2) 2).toNatClampNeg) (-1), sg ((f_Mo_throwing ar sc 1 1 1).2.2) 2 ((((f_Mo_throwing ar sc 1 1 1).2.2) 2) + 1))
            else
              (0, (f_Mo_throwing ar sc 1 1 1).2.1, (f_Mo_throwing ar sc 1 1 1).2.2)
          else
            if ((f_Mo_throwing ar sc 1 1 0).1) = 0 then
              (((sg ((f_Mo_throwing ar sc 1 1 0).2.2) 2 ((((f_Mo_throwing ar sc 1 1 0).2.2) 2) + 1)) 2) - 1, s2 (s2 (s2 (s2 (s2 (s2 ((f_Mo_throwing ar sc 1 1 0).2.1) 5 ((((f_Mo_throwing ar sc 1 1 0).2.2) 2).toNatClampNeg) a0) 6 ((((f_Mo_throwing ar sc 1 1 0).2.2) 2).toNatClampNeg) a1) 7 ((((f_Mo_throwing ar sc 1 1 0).2.2) 2).toNatClampNeg) a2) 8 ((((f_Mo_throwing ar sc 1 1 0).2.2) 2).toNatClampNeg) a3) 9 ((((f_Mo_throwing ar sc 1 1 0).2.2) 2).toNatClampNeg) a4) 10 ((((f_Mo_throwing ar sc 1 1 0).2.2) 2).toNatClampNeg) (-1), sg ((f_Mo_throwing ar sc 1 1 0).2.2) 2 ((((f_Mo_throwing ar sc 1 1 0).2.2) 2) + 1))
            else
              (0, (f_Mo_throwing ar sc 1 1 0).2.1, (f_Mo_throwing ar sc 1 1 0).2.2)
        else
          if (sc 2) = 30 then
            if ((f_Mo_throwing ar sc 0 1 1).1) = 0 then
              (((sg ((f_Mo_throwing ar sc 0 1 1).2.2) 2 ((((f_Mo_throwing ar sc 0 1 1).2.2) 2) + 1)) 2) - 1, s2 (s2 (s2 (s2 (s2 (s2 ((f_Mo_throwing ar sc 0 1 1).2.1) 5 ((((f_Mo_throwing ar sc 0 1 1).2.2) 2).toNatClampNeg) a0) 6 ((((f_Mo_throwing ar sc 0 1 1).2.2) 2).toNatClampNeg) a1) 7 ((((f_Mo_throwing ar sc 0 1 1).2.2) 2).toNatClampNeg) a2) 8 ((((f_Mo_throwing ar sc 0 1 1).2.2) 2).toNatClampNeg) a3) 9 ((((f_Mo_throwing ar sc 0 1 1).2.2) 2).toNatClampNeg) a4) 10 ((((f_Mo_throwing ar sc 0 1 1).2.2) 2).toNatClampNeg) (-1), sg ((f_Mo_throwing ar sc 0 1 1).2.2) 2 ((((f_Mo_throwing ar sc 0 1 1).2.2) 2) + 1))
            else
              (0, (f_Mo_throwing ar sc 0 1 1).2.1, (f_Mo_throwing ar sc 0 1 1).2.2)
          else
            if ((f_Mo_throwing ar sc 0 1 0).1) = 0 then
              (((sg ((f_Mo_throwing ar sc 0 1 0).2.2) 2 ((((f_Mo_throwing ar sc 0 1 0).2.2) 2) + 1)) 2) - 1, s2 (s2 (s2 (s2 (s2 (s2 ((f_Mo_throwing ar sc 0 1 0).2.1) 5 ((((f_Mo_throwing ar sc 0 1 0).2.2) 2).toNatClampNeg) a0) 6 ((((f_Mo_throwing ar sc 0 1 0).2.2) 2).toNatClampNeg) a1) 7 ((((f_Mo_throwing ar sc 0 1 0).2.2) 2).toNatClampNeg) a2) 8 ((((f_Mo_throwing ar sc 0 1 0).2.2) 2).toNatClampNeg) a3) 9 ((((f_Mo_throwing ar sc 0 1 0).2.2) 2).toNatClampNeg) a4) 10 ((((f_Mo_throwing ar sc 0 1 0).2.2) 2).toNatClampNeg) (-1), sg ((f_Mo_throwing ar sc 0 1 0).2.2) 2 ((((f_Mo_throwing ar sc 0 1 0).2.2) 2) + 1))
            else
              (0, (f_Mo_throwing ar sc 0 1 0).2.1, (f_Mo_throwing ar sc 0 1 0).2.2)
      else
        if (f_Mo_in a4 (-10000) 10000) = 0 then
          if (f_Mo_in a0 0 4) = 0 then
            if (sc 2) = 30 then
              if ((f_Mo_throwing ar sc 1 1 1).1) = 0 then
                (((sg ((f_Mo_throwing ar sc 1 1 1).2.2) 2 ((((f_Mo_throwing ar sc 1 1 1).2.2) 2) + 1)) 2) - 1, s2 (s2 (s2 (s2 (s2 (s2 ((f_Mo_throwing ar sc 1 1 1).2.1) 5 ((((f_Mo_throwing ar sc 1 1 1).2.2) 2).toNatClampNeg) a0) 6 ((((f_Mo_throwing ar sc 1 1 1).2.2) 2).toNatClampNeg) a1) 7 ((((f_Mo_throwing ar sc 1 1 1).2.2) 2).toNatClampNeg) a2) 8 ((((f_Mo_throwing ar sc 1 1 1).2.2) 2).toNatClampNeg) a3) 9 ((((f_Mo_throwing ar sc 1 1 1).2.2) 2).toNatClampNeg) a4) 10 ((((f_Mo_throwing ar sc 1 1 1).2.2) 2).toNatClampNeg) (-1), sg ((f_Mo_throwing ar sc 1 1 1).2.2) 2 ((((f_Mo_throwing ar sc 1 1 1).2.2) 2) + 1))
              else
                (0, (f_Mo_throwing ar sc 1 1 1).2.1, (f_Mo_throwing ar sc 1 1 1).2.2)
            else
              if ((f_Mo_throwing ar sc 1 1 0).1) = 0 then
                (((sg ((f_Mo_throwing ar sc 1 1 0).2.2) 2 ((((f_Mo_throwing ar sc 1 1 0).2.2) 2) + 1)) 2) - 1, s2 (s2 (s2 (s2 (s2 (s2 ((f_Mo_throwing ar sc 1 1 0).2.1) 5 ((((f_Mo_throwing ar sc 1 1 0).2.2) 2).toNatClampNeg) a0) 6 ((((f_Mo_throwing ar sc 1 1 0).2.2) 2).toNatClampNeg) a1) 7 ((((f_Mo_throwing ar sc 1 1 0).2.2) 2).toNatClampNeg) a2) 8 ((((f_Mo_throwing ar sc 1 1 0).2.2) 2).toNatClampNeg) a3) 9 ((((f_Mo_throwing ar sc 1 1 0).2.2) 2).toNatClampNeg) a4) 10 ((((f_Mo_throwing ar sc 1 1 0).2.2) 2).toNatClampNeg) (-1), sg ((f_Mo_throwing ar sc 1 1 0).2.2) 2 ((((f_Mo_throwing ar sc 1 1 0).2.2) 2) + 1))
              else
                (0, (f_Mo_throwing ar sc 1 1 0).2.1, (f_Mo_throwing ar sc 1 1 0).2.2)
          else
            if (sc 2) = 30 then
              if ((f_Mo_throwing ar sc 0 1 1).1) = 0 then
                (((sg ((f_Mo_throwing ar sc 0 1 1).2.2) 2 ((((f_Mo_throwing ar sc 0 1 1).2.2) 2) + 1)) 2) - 1, s2 (s2 (s2 (s2 (s2 (s2 ((f_Mo_throwing ar sc 0 1 1).2.1) 5 ((((f_Mo_throwing ar sc 0 1 1).2.2) 2).toNatClampNeg) a0) 6 ((((f_Mo_throwing ar sc 0 1 1).2.2) 2).toNatClampNeg) a1) 7 ((((f_Mo_throwing ar sc 0 1 1).2.2) 2).toNatClampNeg) a2) 8 ((((f_Mo_throwing ar sc 0 1 1).2.2) 2).toNatClampNeg) a3) 9 ((((f_Mo_throwing ar sc 0 1 1).2.2) 2).toNatClampNeg) a4) 10 ((((f_Mo_throwing ar sc 0 1 1).2.2) 2).toNatClampNeg) (-1), sg ((f_Mo_throwing ar sc 0 1 1).2.2) 2 ((((f_Mo_throwing ar sc 0 1 1).2.2) 2) + 1))
              else
                (0, (f_Mo_throwing ar sc 0 1 1).2.1, (f_Mo_throwing ar sc 0 1 1).2.2)
            else
              if ((f_Mo_throwing ar sc 0 1 0).1) = 0 then
                (((sg ((f_Mo_throwing ar sc 0 1 0).2.2) 2 ((((f_Mo_throwing ar sc 0 1 0).2.2) 2) + 1)) 2) - 1, s2 (s2 (s2 (s2 (s2 (s2 ((f_Mo_throwing ar sc 0 1 0).2.1) 5 ((((f_Mo_throwing ar sc 0 1 0).2.2) 2).toNatClampNeg) a0) 6 ((((f_Mo_throwing ar sc 0 1 0).2.2) 2).toNatClampNeg) a1) 7 ((((f_Mo_throwing ar sc 0 1 0).2.2) 2).toNatClampNeg) a2) 8 ((((f_Mo_throwing ar sc 0 1 0).2.2) 2).toNatClampNeg) a3) 9 ((((f_Mo_throwing ar sc 0 1 0).2.2) 2).toNatClampNeg) a4) 10 ((((f_Mo_throwing ar sc 0 1 0).2.2) 2).toNatClampNeg) (-1), sg ((f_Mo_throwing ar sc 0 1 0).2.2) 2 ((((f_Mo_throwing ar sc 0 1 0).2.2) 2) + 1))
              else
                (0, (f_Mo_throwing ar sc 0 1 0).2.1, (f_Mo_throwing ar sc 0 1 0).2.2)
        else
          if (f_Mo_in a0 0 4) = 0 then
            if (sc 2) = 30 then
              if ((f_Mo_throwing ar sc 1 0 1).1) = 0 then
                (((sg ((f_Mo_throwing ar sc 1 0 1).2.2) 2 ((((f_Mo_throwing ar sc 1 0 1).2.2) 2) + 1)) 2) - 1, s2 (s2 (s2 (s2 (s2 (s2 ((f_Mo_throwing ar sc 1 0 1).2.1) 5 ((((f_Mo_throwing ar sc 1 0 1).2.2) 2).toNatClampNeg) a0) 6 ((((f_Mo_throwing ar sc 1 0 1).2.2) 2).toNatClampNeg) a1) 7 ((((f_Mo_throwing ar sc 1 0 1).2.2) 2).toNatClampNeg) a2) 8 ((((f_Mo_throwing ar sc 1 0 1).2.2) 2).toNatClampNeg) a3) 9 ((((f_Mo_throwing ar sc 1 0 1).2.2) 2).toNatClampNeg) a4) 10 ((((f_Mo_throwing ar sc 1 0 1).2.2) 2).toNatClampNeg) (-1), sg ((f_Mo_throwing ar sc 1 0 1).2.2) 2 ((((f_Mo_throwing ar sc 1 0 1).2.2) 2) + 1))
              else
                (0, (f_Mo_throwing ar sc 1 0 1).2.1, (f_Mo_throwing ar sc 1 0 1).2.2)
            else
              if ((f_Mo_throwing ar sc 1 0 0).1) = 0 then
                (((sg ((f_Mo_throwing ar sc 1 0 0).2.2) 2 ((((f_Mo_throwing ar sc 1 0 0).2.2) 2) + 1)) 2) - 1, s2 (s2 (s2 (s2 (s2 (s2 ((f_Mo_throwing ar sc 1 0 0).2.1) 5 ((((f_Mo_throwing ar sc 1 0 0).2.2) 2).toNatClampNeg) a0) 6 ((((f_Mo_throwing ar sc 1 0 0).2.2) 2).toNatClampNeg) a1) 7 ((((f_Mo_throwing ar sc 1 0 0).2.2) 2).toNatClampNeg) a2) 8 ((((f_Mo_throwing ar sc 1 0 0).2.2) 2).toNatClampNeg) a3) 9 ((((f_Mo_throwing ar sc 1 0 0).2.2) 2).toNatClampNeg) a4) 10 ((((f_Mo_throwing ar sc 1 0 0).2.2) 2).toNatClampNeg) (-1), sg ((f_Mo_throwing ar sc 1 0 0).2.2) 2 ((((f_Mo_throwing ar sc 1 0 0).2.2) 2) + 1))
              else
                (0, (f_Mo_throwing ar sc 1 0 0).2.1, (f_Mo_throwing ar sc 1 0 0).2.2)
          else
            if (sc 2) = 30 then
              if ((f_Mo_throwing ar sc 0 0 1).1) = 0 then
                (((sg ((f_Mo_throwing ar sc 0 0 1).2.2) 2 ((((f_Mo_throwing ar sc 0 0 1).2.2) 2) + 1)) 2) - 1, s2 (s2 (s2 (s2 (s2 (s2 ((f_Mo_throwing ar sc 0 0 1).2.1) 5 ((((f_Mo_throwing ar sc 0 0 1).2.2) 2).toNatClampNeg) a0) 6 ((((f_Mo_throwing ar sc 0 0 1).2.2) 2).toNatClampNeg) a1) 7 ((((f_Mo_throwing ar sc 0 0 1).2.2) 2).toNatClampNeg) a2) 8 ((((f_Mo_throwing ar sc 0 0 1).2.2) 2).toNatClampNeg) a3) 9 ((((f_Mo_throwing ar sc 0 0 1).2.2) 2).toNatClampNeg) a4) 10 ((((f_Mo_throwing ar sc 0 0 1).2.2) 2).toNatClampNeg) (-1), sg ((f_Mo_throwing ar sc 0 0 1).2.2) 2 ((((f_Mo_throwing ar sc 0 0 1).2.2) 2) + 1))
              else
                (0, (f_Mo_throwing ar sc 0 0 1).2.1, (f_Mo_throwing ar sc 0 0 1).2.2)
            else
              if ((f_Mo_throwing ar sc 0 0 0).1) = 0 then
                (((sg ((f_Mo_throwing ar sc 0 0 0).2.2) 2 ((((f_Mo_throwing ar sc 0 0 0).2.2) 2) + 1)) 2) - 1, s2 (s2 (s2 (s2 (s2 (s2 ((f_Mo_throwing ar sc 0 0 0).2.1) 5 ((((f_Mo_throwing ar sc 0 0 0).2.2) 2).toNatClampNeg) a0) 6 ((((f_Mo_throwing ar sc 0 0 0).2.2) 2).toNatClampNeg) a1) 7 ((((f_Mo_throwing ar sc 0 0 0).2.2) 2).toNatClampNeg) a2) 8 ((((f_Mo_throwing ar sc 0 0 0).2.2) 2).toNatClampNeg) a3) 9 ((((f_Mo_throwing ar sc 0 0 0).2.2) 2).toNatClampNeg) a4) 10 ((((f_Mo_throwing ar sc 0 0 0).2.2) 2).toNatClampNeg) (-1), sg ((f_Mo_throwing ar sc 0 0 0).2.2) 2 ((((f_Mo_throwing ar sc 0 0 0).2.2) 2) + 1))
              else
                (0, (f_Mo_throwing ar sc 0 0 0).2.1, (f_Mo_throwing ar sc 0 0 0).2.2)
def p_Mo_point (ar : Nat → Nat → Int32) (sc : Nat → Int32) (a0 : Int32) (a1 : Int32) (a2 : Int32) (a3 : Int32) (a4 : Int32) : Prop :=
  ((f_Mo_in a1 0 3000) = 0 → (((f_Mo_in a0 0 4) = 0 → (((sc 2) = 30 → ((((f_Mo_throwing ar sc 1 1 1).1) = 0 → ((vp_in (((f_Mo_throwing ar sc 1 1 1).2.2) 2) 30) ∧ ((vp_in (((f_Mo_throwing ar sc 1 1 1).2.2) 2) 30) ∧ ((vp_in (((f_Mo_throwing ar sc 1 1 1).2.2) 2) 30) ∧ ((vp_in (((f_Mo_throwing ar sc 1 1 1).2.2) 2) 30) ∧ ((vp_in (((f_Mo_throwing ar sc 1 1 1).2.2) 2) 30) ∧ (vp_in (((f_Mo_throwing ar sc 1 1 1).2.2) 2) 30))))))) ∧ (¬ (((f_Mo_throwing ar sc 1 1 1).1) = 0) → True))) ∧ (¬ ((sc 2) = 30) → ((((f_Mo_throwing ar sc 1 1 0).1) = 0 → ((vp_in (((f_Mo_throwing ar sc 1 1 0).2.2) 2) 30) ∧ ((vp_in (((f_Mo_throwing ar sc 1 1 0).2.2) 2) 30) ∧ ((vp_in (((f_Mo_throwing ar sc 1 1 0).2.2) 2) 30) ∧ ((vp_in (((f_Mo_throwing ar sc 1 1 0).2.2) 2) 30) ∧ ((vp_in (((f_Mo_throwing ar sc 1 1 0).2.2) 2) 30) ∧ (vp_in (((f_Mo_throwing ar sc 1 1 0).2.2) 2) 30))))))) ∧ (¬ (((f_Mo_throwing ar sc 1 1 0).1) = 0) → True))))) ∧ (¬ ((f_Mo_in a0 0 4) = 0) → (((sc 2) = 30 → ((((f_Mo_throwing ar sc 0 1 1).1) = 0 → ((vp_in (((f_Mo_throwing ar sc 0 1 1).2.2) 2) 30) ∧ ((vp_in (((f_Mo_throwing ar sc 0 1 1).2.2) 2) 30) ∧ ((vp_in (((f_Mo_throwing ar sc 0 1 1).2.2) 2) 30) ∧ ((vp_in (((f_Mo_throwing ar sc 0 1 1).2.2) 2) 30) ∧ ((vp_in (((f_Mo_throwing ar sc 0 1 1).2.2) 2) 30) ∧ (vp_in (((f_Mo_throwing ar sc 0 1 1).2.2) 2) 30))))))) ∧ (¬ (((f_Mo_throwing ar sc 0 1 1).1) = 0) → True))) ∧ (¬ ((sc 2) = 30) → ((((f_Mo_throwing ar sc 0 1 0).1) = 0 → ((vp_in (((f_Mo_throwing ar sc 0 1 0).2.2) 2) 30) ∧ ((vp_in (((f_Mo_throwing ar sc 0 1 0).2.2) 2) 30) ∧ ((vp_in (((f_Mo_throwing ar sc 0 1 0).2.2) 2) 30) ∧ ((vp_in (((f_Mo_throwing ar sc 0 1 0).2.2) 2) 30) ∧ ((vp_in (((f_Mo_throwing ar sc 0 1 0).2.2) 2) 30) ∧ (vp_in (((f_Mo_throwing ar sc 0 1 0).2.2) 2) 30))))))) ∧ (¬ (((f_Mo_throwing ar sc 0 1 0).1) = 0) → True))))))) ∧ (¬ ((f_Mo_in a1 0 3000) = 0) → (((f_Mo_in a2 0 100000) = 0 → (((f_Mo_in a0 0 4) = 0 → (((sc 2) = 30 → ((((f_Mo_throwing ar sc 1 1 1).1) = 0 → ((vp_in (((f_Mo_throwing ar sc 1 1 1).2.2) 2) 30) ∧ ((vp_in (((f_Mo_throwing ar sc 1 1 1).2.2) 2) 30) ∧ ((vp_in (((f_Mo_throwing ar sc 1 1 1).2.2) 2) 30) ∧ ((vp_in (((f_Mo_throwing ar sc 1 1 1).2.2) 2) 30) ∧ ((vp_in (((f_Mo_throwing ar sc 1 1 1).2.2) 2) 30) ∧ (vp_in (((f_Mo_throwing ar sc 1 1 1).2.2) 2) 30))))))) ∧ (¬ (((f_Mo_throwing ar sc 1 1 1).1) = 0) → True))) ∧ (¬ ((sc 2) = 30) → ((((f_Mo_throwing ar sc 1 1 0).1) = 0 → ((vp_in (((f_Mo_throwing ar sc 1 1 0).2.2) 2) 30) ∧ ((vp_in (((f_Mo_throwing ar sc 1 1 0).2.2) 2) 30) ∧ ((vp_in (((f_Mo_throwing ar sc 1 1 0).2.2) 2) 30) ∧ ((vp_in (((f_Mo_throwing ar sc 1 1 0).2.2) 2) 30) ∧ ((vp_in (((f_Mo_throwing ar sc 1 1 0).2.2) 2) 30) ∧ (vp_in (((f_Mo_throwing ar sc 1 1 0).2.2) 2) 30))))))) ∧ (¬ (((f_Mo_throwing ar sc 1 1 0).1) = 0) → True))))) ∧ (¬ ((f_Mo_in a0 0 4) = 0) → (((sc 2) = 30 → ((((f_Mo_throwing ar sc 0 1 1).1) = 0 → ((vp_in (((f_Mo_throwing ar sc 0 1 1).2.2) 2) 30) ∧ ((vp_in (((f_Mo_throwing ar sc 0 1 1).2.2) 2) 30) ∧ ((vp_in (((f_Mo_throwing ar sc 0 1 1).2.2) 2) 30) ∧ ((vp_in (((f_Mo_throwing ar sc 0 1 1).2.2) 2) 30) ∧ ((vp_in (((f_Mo_throwing ar sc 0 1 1).2.2) 2) 30) ∧ (vp_in (((f_Mo_throwing ar sc 0 1 1).2.2) 2) 30))))))) ∧ (¬ (((f_Mo_throwing ar sc 0 1 1).1) = 0) → True))) ∧ (¬ ((sc 2) = 30) → ((((f_Mo_throwing ar sc 0 1 0).1) = 0 → ((vp_in (((f_Mo_throwing ar sc 0 1 0).2.2) 2) 30) ∧ ((vp_in (((f_Mo_throwing ar sc 0 1 0).2.2) 2) 30) ∧ ((vp_in (((f_Mo_throwing ar sc 0 1 0).2.2) 2) 30) ∧ ((vp_in (((f_Mo_throwing ar sc 0 1 0).2.2) 2) 30) ∧ ((vp_in (((f_Mo_throwing ar sc 0 1 0).2.2) 2) 30) ∧ (vp_in (((f_Mo_throwing ar sc 0 1 0).2.2) 2) 30))))))) ∧ (¬ (((f_Mo_throwing ar sc 0 1 0).1) = 0) → True))))))) ∧ (¬ ((f_Mo_in a2 0 100000) = 0) → (((f_Mo_in a3 (-10000) 10000) = 0 → (((f_Mo_in a0 0 4) = 0 → (((sc 2) = 30 → ((((f_Mo_throwing ar sc 1 1 1).1) = 0 → ((vp_in (((f_Mo_throwing ar sc 1 1 1).2.2) 2) 30) ∧ ((vp_in (((f_Mo_throwing ar sc 1 1 1).2.2) 2) 30) ∧ ((vp_in (((f_Mo_throwing ar sc 1 1 1).2.2) 2) 30) ∧ ((vp_in (((f_Mo_throwing ar sc 1 1 1).2.2) 2) 30) ∧ ((vp_in (((f_Mo_throwing ar sc 1 1 1).2.2) 2) 30) ∧ (vp_in (((f_Mo_throwing ar sc 1 1 1).2.2) 2) 30))))))) ∧ (¬ (((f_Mo_throwing ar sc 1 1 1).1) = 0) → True))) ∧ (¬ ((sc 2) = 30) → ((((f_Mo_throwing ar sc 1 1 0).1) = 0 → ((vp_in (((f_Mo_throwing ar sc 1 1 0).2.2) 2) 30) ∧ ((vp_in (((f_Mo_throwing ar sc 1 1 0).2.2) 2) 30) ∧ ((vp_in (((f_Mo_throwing ar sc 1 1 0).2.2) 2) 30) ∧ ((vp_in (((f_Mo_throwing ar sc 1 1 0).2.2) 2) 30) ∧ ((vp_in (((f_Mo_throwing ar sc 1 1 0).2.2) 2) 30) ∧ (vp_in (((f_Mo_throwing ar sc 1 1 0).2.2) 2) 30))))))) ∧ (¬ (((f_Mo_throwing ar sc 1 1 0).1) = 0) → True))))) ∧ (¬ ((f_Mo_in a0 0 4) = 0) → (((sc 2) = 30 → ((((f_Mo_throwing ar sc 0 1 1).1) = 0 → ((vp_in (((f_Mo_throwing ar sc 0 1 1).2.2) 2) 30) ∧ ((vp_in (((f_Mo_throwing ar sc 0 1 1).2.2) 2) 30) ∧ ((vp_in (((f_Mo_throwing ar sc 0 1 1).2.2) 2) 30) ∧ ((vp_in (((f_Mo_throwing ar sc 0 1 1).2.2) 2) 30) ∧ ((vp_in (((f_Mo_throwing ar sc 0 1 1).2.2) 2) 30) ∧ (vp_in (((f_Mo_throwing ar sc 0 1 1).2.2) 2) 30))))))) ∧ (¬ (((f_Mo_throwing ar sc 0 1 1).1) = 0) → True))) ∧ (¬ ((sc 2) = 30) → ((((f_Mo_throwing ar sc 0 1 0).1) = 0 → ((vp_in (((f_Mo_throwing ar sc 0 1 0).2.2) 2) 30) ∧ ((vp_in (((f_Mo_throwing ar sc 0 1 0).2.2) 2) 30) ∧ ((vp_in (((f_Mo_throwing ar sc 0 1 0).2.2) 2) 30) ∧ ((vp_in (((f_Mo_throwing ar sc 0 1 0).2.2) 2) 30) ∧ ((vp_in (((f_Mo_throwing ar sc 0 1 0).2.2) 2) 30) ∧ (vp_in (((f_Mo_throwing ar sc 0 1 0).2.2) 2) 30))))))) ∧ (¬ (((f_Mo_throwing ar sc 0 1 0).1) = 0) → True))))))) ∧ (¬ ((f_Mo_in a3 (-10000) 10000) = 0) → (((f_Mo_in a4 (-10000) 10000) = 0 → (((f_Mo_in a0 0 4) = 0 → (((sc 2) = 30 → ((((f_Mo_throwing ar sc 1 1 1).1) = 0 → ((vp_in (((f_Mo_throwing ar sc 1 1 1).2.2) 2) 30) ∧ ((vp_in (((f_Mo_throwing ar sc 1 1 1).2.2) 2) 30) ∧ ((vp_in (((f_Mo_throwing ar sc 1 1 1).2.2) 2) 30) ∧ ((vp_in (((f_Mo_throwing ar sc 1 1 1).2.2) 2) 30) ∧ ((vp_in (((f_Mo_throwing ar sc 1 1 1).2.2) 2) 30) ∧ (vp_in (((f_Mo_throwing ar sc 1 1 1).2.2) 2) 30))))))) ∧ (¬ (((f_Mo_throwing ar sc 1 1 1).1) = 0) → True))) ∧ (¬ ((sc 2) = 30) → ((((f_Mo_throwing ar sc 1 1 0).1) = 0 → ((vp_in (((f_Mo_throwing ar sc 1 1 0).2.2) 2) 30) ∧ ((vp_in (((f_Mo_throwing ar sc 1 1 0).2.2) 2) 30) ∧ ((vp_in (((f_Mo_throwing ar sc 1 1 0).2.2) 2) 30) ∧ ((vp_in (((f_Mo_throwing ar sc 1 1 0).2.2) 2) 30) ∧ ((vp_in (((f_Mo_throwing ar sc 1 1 0).2.2) 2) 30) ∧ (vp_in (((f_Mo_throwing ar sc 1 1 0).2.2) 2) 30))))))) ∧ (¬ (((f_Mo_throwing ar sc 1 1 0).1) = 0) → True))))) ∧ (¬ ((f_Mo_in a0 0 4) = 0) → (((sc 2) = 30 → ((((f_Mo_throwing ar sc 0 1 1).1) = 0 → ((vp_in (((f_Mo_throwing ar sc 0 1 1).2.2) 2) 30) ∧ ((vp_in (((f_Mo_throwing ar sc 0 1 1).2.2) 2) 30) ∧ ((vp_in (((f_Mo_throwing ar sc 0 1 1).2.2) 2) 30) ∧ ((vp_in (((f_Mo_throwing ar sc 0 1 1).2.2) 2) 30) ∧ ((vp_in (((f_Mo_throwing ar sc 0 1 1).2.2) 2) 30) ∧ (vp_in (((f_Mo_throwing ar sc 0 1 1).2.2) 2) 30))))))) ∧ (¬ (((f_Mo_throwing ar sc 0 1 1).1) = 0) → True))) ∧ (¬ ((sc 2) = 30) → ((((f_Mo_throwing ar sc 0 1 0).1) = 0 → ((vp_in (((f_Mo_throwing ar sc 0 1 0).2.2) 2) 30) ∧ ((vp_in (((f_Mo_throwing ar sc 0 1 0).2.2) 2) 30) ∧ ((vp_in (((f_Mo_throwing ar sc 0 1 0).2.2) 2) 30) ∧ ((vp_in (((f_Mo_throwing ar sc 0 1 0).2.2) 2) 30) ∧ ((vp_in (((f_Mo_throwing ar sc 0 1 0).2.2) 2) 30) ∧ (vp_in (((f_Mo_throwing ar sc 0 1 0).2.2) 2) 30))))))) ∧ (¬ (((f_Mo_throwing ar sc 0 1 0).1) = 0) → True))))))) ∧ (¬ ((f_Mo_in a4 (-10000) 10000) = 0) → (((f_Mo_in a0 0 4) = 0 → (((sc 2) = 30 → ((((f_Mo_throwing ar sc 1 0 1).1) = 0 → ((vp_in (((f_Mo_throwing ar sc 1 0 1).2.2) 2) 30) ∧ ((vp_in (((f_Mo_throwing ar sc 1 0 1).2.2) 2) 30) ∧ ((vp_in (((f_Mo_throwing ar sc 1 0 1).2.2) 2) 30) ∧ ((vp_in (((f_Mo_throwing ar sc 1 0 1).2.2) 2) 30) ∧ ((vp_in (((f_Mo_throwing ar sc 1 0 1).2.2) 2) 30) ∧ (vp_in (((f_Mo_throwing ar sc 1 0 1).2.2) 2) 30))))))) ∧ (¬ (((f_Mo_throwing ar sc 1 0 1).1) = 0) → True))) ∧ (¬ ((sc 2) = 30) → ((((f_Mo_throwing ar sc 1 0 0).1) = 0 → ((vp_in (((f_Mo_throwing ar sc 1 0 0).2.2) 2) 30) ∧ ((vp_in (((f_Mo_throwing ar sc 1 0 0).2.2) 2) 30) ∧ ((vp_in (((f_Mo_throwing ar sc 1 0 0).2.2) 2) 30) ∧ ((vp_in (((f_Mo_throwing ar sc 1 0 0).2.2) 2) 30) ∧ ((vp_in (((f_Mo_throwing ar sc 1 0 0).2.2) 2) 30) ∧ (vp_in (((f_Mo_throwing ar sc 1 0 0).2.2) 2) 30))))))) ∧ (¬ (((f_Mo_throwing ar sc 1 0 0).1) = 0) → True))))) ∧ (¬ ((f_Mo_in a0 0 4) = 0) → (((sc 2) = 30 → ((((f_Mo_throwing ar sc 0 0 1).1) = 0 → ((vp_in (((f_Mo_throwing ar sc 0 0 1).2.2) 2) 30) ∧ ((vp_in (((f_Mo_throwing ar sc 0 0 1).2.2) 2) 30) ∧ ((vp_in (((f_Mo_throwing ar sc 0 0 1).2.2) 2) 30) ∧ ((vp_in (((f_Mo_throwing ar sc 0 0 1).2.2) 2) 30) ∧ ((vp_in (((f_Mo_throwing ar sc 0 0 1).2.2) 2) 30) ∧ (vp_in (((f_Mo_throwing ar sc 0 0 1).2.2) 2) 30))))))) ∧ (¬ (((f_Mo_throwing ar sc 0 0 1).1) = 0) → True))) ∧ (¬ ((sc 2) = 30) → ((((f_Mo_throwing ar sc 0 0 0).1) = 0 → ((vp_in (((f_Mo_throwing ar sc 0 0 0).2.2) 2) 30) ∧ ((vp_in (((f_Mo_throwing ar sc 0 0 0).2.2) 2) 30) ∧ ((vp_in (((f_Mo_throwing ar sc 0 0 0).2.2) 2) 30) ∧ ((vp_in (((f_Mo_throwing ar sc 0 0 0).2.2) 2) 30) ∧ ((vp_in (((f_Mo_throwing ar sc 0 0 0).2.2) 2) 30) ∧ (vp_in (((f_Mo_throwing ar sc 0 0 0).2.2) 2) 30))))))) ∧ (¬ (((f_Mo_throwing ar sc 0 0 0).1) = 0) → True)))))))))))))
def f_Mo_day (ar : Nat → Nat → Int32) (sc : Nat → Int32) (a0 : Int32) : (Nat → Nat → Int32) × (Nat → Int32) :=
  if a0 < (sc 1) then
    if ((f_Mo_throwing ar sc 1 0 0).1) = 0 then
      ((f_Mo_throwing ar sc 1 0 0).2.1, sg ((f_Mo_throwing ar sc 1 0 0).2.2) 1 a0)
    else
      ((f_Mo_throwing ar sc 1 0 0).2.1, (f_Mo_throwing ar sc 1 0 0).2.2)
  else
    if a0 ≤ 99999 then
      if ((f_Mo_throwing ar sc 0 0 0).1) = 0 then
        ((f_Mo_throwing ar sc 0 0 0).2.1, sg ((f_Mo_throwing ar sc 0 0 0).2.2) 1 a0)
      else
        ((f_Mo_throwing ar sc 0 0 0).2.1, (f_Mo_throwing ar sc 0 0 0).2.2)
    else
      if ((f_Mo_throwing ar sc 1 0 0).1) = 0 then
        ((f_Mo_throwing ar sc 1 0 0).2.1, sg ((f_Mo_throwing ar sc 1 0 0).2.2) 1 a0)
      else
        ((f_Mo_throwing ar sc 1 0 0).2.1, (f_Mo_throwing ar sc 1 0 0).2.2)
def f_Mo_visit (ar : Nat → Nat → Int32) (sc : Nat → Int32) (a0 : Int32) : (Nat → Nat → Int32) × (Nat → Int32) :=
  if (f_Mo_isPoint ar sc a0) = 0 then
    if ((f_Mo_throwing ar sc 1 0 0).1) = 0 then
      (s2 ((f_Mo_throwing ar sc 1 0 0).2.1) 10 a0.toNatClampNeg (((f_Mo_throwing ar sc 1 0 0).2.2) 1), (f_Mo_throwing ar sc 1 0 0).2.2)
    else
      ((f_Mo_throwing ar sc 1 0 0).2.1, (f_Mo_throwing ar sc 1 0 0).2.2)
  else
    if ((f_Mo_throwing ar sc 0 0 0).1) = 0 then
      (s2 ((f_Mo_throwing ar sc 0 0 0).2.1) 10 a0.toNatClampNeg (((f_Mo_throwing ar sc 0 0 0).2.2) 1), (f_Mo_throwing ar sc 0 0 0).2.2)
    else
      ((f_Mo_throwing ar sc 0 0 0).2.1, (f_Mo_throwing ar sc 0 0 0).2.2)
def p_Mo_visit (ar : Nat → Nat → Int32) (sc : Nat → Int32) (a0 : Int32) : Prop :=
  ((f_Mo_isPoint ar sc a0) = 0 → ((((f_Mo_throwing ar sc 1 0 0).1) = 0 → (vp_in a0 30)) ∧ (¬ (((f_Mo_throwing ar sc 1 0 0).1) = 0) → True))) ∧ (¬ ((f_Mo_isPoint ar sc a0) = 0) → ((((f_Mo_throwing ar sc 0 0 0).1) = 0 → (vp_in a0 30)) ∧ (¬ (((f_Mo_throwing ar sc 0 0 0).1) = 0) → True)))
def f_Mo_finding (ar : Nat → Nat → Int32) (sc : Nat → Int32) (a0 : Int32) (a1 : Int32) (a2 : Int32) : Int32 × (Nat → Nat → Int32) × (Nat → Int32) :=
  if (f_Mo_isPoint ar sc a0) = 0 then
    if (f_Mo_in a1 1 50) = 0 then
      if (sc 3) = 100 then
        if ((f_Mo_throwing ar sc 1 1 1).1) = 0 then
          if 0 ≤ a2 then
            ((((f_Mo_add ((f_Mo_throwing ar sc 1 1 1).2.1) ((f_Mo_throwing ar sc 1 1 1).2.2) a0 a1 ((((f_Mo_throwing ar sc 1 1 1).2.2) 1) + a2)).2) 3) - 1, (f_Mo_add ((f_Mo_throwing ar sc 1 1 1).2.1) ((f_Mo_throwing ar sc 1 1 1).2.2) a0 a1 ((((f_Mo_throwing ar sc 1 1 1).2.2) 1) + a2)).1, (f_Mo_add ((f_Mo_throwing ar sc 1 1 1).2.1) ((f_Mo_throwing ar sc 1 1 1).2.2) a0 a1 ((((f_Mo_throwing ar sc 1 1 1).2.2) 1) + a2)).2)
          else
            ((((f_Mo_add ((f_Mo_throwing ar sc 1 1 1).2.1) ((f_Mo_throwing ar sc 1 1 1).2.2) a0 a1 ((((f_Mo_throwing ar sc 1 1 1).2.2) 1) + (((f_Mo_throwing ar sc 1 1 1).2.1) 4 ((f_Mo_classOf ((f_Mo_throwing ar sc 1 1 1).2.1) ((f_Mo_throwing ar sc 1 1 1).2.2) a0).toNatClampNeg)))).2) 3) - 1, (f_Mo_add ((f_Mo_throwing ar sc 1 1 1).2.1) ((f_Mo_throwing ar sc 1 1 1).2.2) a0 a1 ((((f_Mo_throwing ar sc 1 1 1).2.2) 1) + (((f_Mo_throwing ar sc 1 1 1).2.1) 4 ((f_Mo_classOf ((f_Mo_throwing ar sc 1 1 1).2.1) ((f_Mo_throwing ar sc 1 1 1).2.2) a0).toNatClampNeg)))).1, (f_Mo_add ((f_Mo_throwing ar sc 1 1 1).2.1) ((f_Mo_throwing ar sc 1 1 1).2.2) a0 a1 ((((f_Mo_throwing ar sc 1 1 1).2.2) 1) + (((f_Mo_throwing ar sc 1 1 1).2.1) 4 ((f_Mo_classOf ((f_Mo_throwing ar sc 1 1 1).2.1) ((f_Mo_throwing ar sc 1 1 1).2.2) a0).toNatClampNeg)))).2)
        else
          (0, (f_Mo_throwing ar sc 1 1 1).2.1, (f_Mo_throwing ar sc 1 1 1).2.2)
      else
        if ((f_Mo_throwing ar sc 1 1 0).1) = 0 then
          if 0 ≤ a2 then
            ((((f_Mo_add ((f_Mo_throwing ar sc 1 1 0).2.1) ((f_Mo_throwing ar sc 1 1 0).2.2) a0 a1 ((((f_Mo_throwing ar sc 1 1 0).2.2) 1) + a2)).2) 3) - 1, (f_Mo_add ((f_Mo_throwing ar sc 1 1 0).2.1) ((f_Mo_throwing ar sc 1 1 0).2.2) a0 a1 ((((f_Mo_throwing ar sc 1 1 0).2.2) 1) + a2)).1, (f_Mo_add ((f_Mo_throwing ar sc 1 1 0).2.1) ((f_Mo_throwing ar sc 1 1 0).2.2) a0 a1 ((((f_Mo_throwing ar sc 1 1 0).2.2) 1) + a2)).2)
          else
            ((((f_Mo_add ((f_Mo_throwing ar sc 1 1 0).2.1) ((f_Mo_throwing ar sc 1 1 0).2.2) a0 a1 ((((f_Mo_throwing ar sc 1 1 0).2.2) 1) + (((f_Mo_throwing ar sc 1 1 0).2.1) 4 ((f_Mo_classOf ((f_Mo_throwing ar sc 1 1 0).2.1) ((f_Mo_throwing ar sc 1 1 0).2.2) a0).toNatClampNeg)))).2) 3) - 1, (f_Mo_add ((f_Mo_throwing ar sc 1 1 0).2.1) ((f_Mo_throwing ar sc 1 1 0).2.2) a0 a1 ((((f_Mo_throwing ar sc 1 1 0).2.2) 1) + (((f_Mo_throwing ar sc 1 1 0).2.1) 4 ((f_Mo_classOf ((f_Mo_throwing ar sc 1 1 0).2.1) ((f_Mo_throwing ar sc 1 1 0).2.2) a0).toNatClampNeg)))).1, (f_Mo_add ((f_Mo_throwing ar sc 1 1 0).2.1) ((f_Mo_throwing ar sc 1 1 0).2.2) a0 a1 ((((f_Mo_throwing ar sc 1 1 0).2.2) 1) + (((f_Mo_throwing ar sc 1 1 0).2.1) 4 ((f_Mo_classOf ((f_Mo_throwing ar sc 1 1 0).2.1) ((f_Mo_throwing ar sc 1 1 0).2.2) a0).toNatClampNeg)))).2)
        else
          (0, (f_Mo_throwing ar sc 1 1 0).2.1, (f_Mo_throwing ar sc 1 1 0).2.2)
    else
      if (f_Mo_in a2 (-1) 1000) = 0 then
        if (sc 3) = 100 then
          if ((f_Mo_throwing ar sc 1 1 1).1) = 0 then
            if 0 ≤ a2 then
              ((((f_Mo_add ((f_Mo_throwing ar sc 1 1 1).2.1) ((f_Mo_throwing ar sc 1 1 1).2.2) a0 a1 ((((f_Mo_throwing ar sc 1 1 1).2.2) 1) + a2)).2) 3) - 1, (f_Mo_add ((f_Mo_throwing ar sc 1 1 1).2.1) ((f_Mo_throwing ar sc 1 1 1).2.2) a0 a1 ((((f_Mo_throwing ar sc 1 1 1).2.2) 1) + a2)).1, (f_Mo_add ((f_Mo_throwing ar sc 1 1 1).2.1) ((f_Mo_throwing ar sc 1 1 1).2.2) a0 a1 ((((f_Mo_throwing ar sc 1 1 1).2.2) 1) + a2)).2)
            else
              ((((f_Mo_add ((f_Mo_throwing ar sc 1 1 1).2.1) ((f_Mo_throwing ar sc 1 1 1).2.2) a0 a1 ((((f_Mo_throwing ar sc 1 1 1).2.2) 1) + (((f_Mo_throwing ar sc 1 1 1).2.1) 4 ((f_Mo_classOf ((f_Mo_throwing ar sc 1 1 1).2.1) ((f_Mo_throwing ar sc 1 1 1).2.2) a0).toNatClampNeg)))).2) 3) - 1, (f_Mo_add ((f_Mo_throwing ar sc 1 1 1).2.1) ((f_Mo_throwing ar sc 1 1 1).2.2) a0 a1 ((((f_Mo_throwing ar sc 1 1 1).2.2) 1) + (((f_Mo_throwing ar sc 1 1 1).2.1) 4 ((f_Mo_classOf ((f_Mo_throwing ar sc 1 1 1).2.1) ((f_Mo_throwing ar sc 1 1 1).2.2) a0).toNatClampNeg)))).1, (f_Mo_add ((f_Mo_throwing ar sc 1 1 1).2.1) ((f_Mo_throwing ar sc 1 1 1).2.2) a0 a1 ((((f_Mo_throwing ar sc 1 1 1).2.2) 1) + (((f_Mo_throwing ar sc 1 1 1).2.1) 4 ((f_Mo_classOf ((f_Mo_throwing ar sc 1 1 1).2.1) ((f_Mo_throwing ar sc 1 1 1).2.2) a0).toNatClampNeg)))).2)
          else
            (0, (f_Mo_throwing ar sc 1 1 1).2.1, (f_Mo_throwing ar sc 1 1 1).2.2)
        else
          if ((f_Mo_throwing ar sc 1 1 0).1) = 0 then
            if 0 ≤ a2 then
              ((((f_Mo_add ((f_Mo_throwing ar sc 1 1 0).2.1) ((f_Mo_throwing ar sc 1 1 0).2.2) a0 a1 ((((f_Mo_throwing ar sc 1 1 0).2.2) 1) + a2)).2) 3) - 1, (f_Mo_add ((f_Mo_throwing ar sc 1 1 0).2.1) ((f_Mo_throwing ar sc 1 1 0).2.2) a0 a1 ((((f_Mo_throwing ar sc 1 1 0).2.2) 1) + a2)).1, (f_Mo_add ((f_Mo_throwing ar sc 1 1 0).2.1) ((f_Mo_throwing ar sc 1 1 0).2.2) a0 a1 ((((f_Mo_throwing ar sc 1 1 0).2.2) 1) + a2)).2)
            else
              ((((f_Mo_add ((f_Mo_throwing ar sc 1 1 0).2.1) ((f_Mo_throwing ar sc 1 1 0).2.2) a0 a1 ((((f_Mo_throwing ar sc 1 1 0).2.2) 1) + (((f_Mo_throwing ar sc 1 1 0).2.1) 4 ((f_Mo_classOf ((f_Mo_throwing ar sc 1 1 0).2.1) ((f_Mo_throwing ar sc 1 1 0).2.2) a0).toNatClampNeg)))).2) 3) - 1, (f_Mo_add ((f_Mo_throwing ar sc 1 1 0).2.1) ((f_Mo_throwing ar sc 1 1 0).2.2) a0 a1 ((((f_Mo_throwing ar sc 1 1 0).2.2) 1) + (((f_Mo_throwing ar sc 1 1 0).2.1) 4 ((f_Mo_classOf ((f_Mo_throwing ar sc 1 1 0).2.1) ((f_Mo_throwing ar sc 1 1 0).2.2) a0).toNatClampNeg)))).1, (f_Mo_add ((f_Mo_throwing ar sc 1 1 0).2.1) ((f_Mo_throwing ar sc 1 1 0).2.2) a0 a1 ((((f_Mo_throwing ar sc 1 1 0).2.2) 1) + (((f_Mo_throwing ar sc 1 1 0).2.1) 4 ((f_Mo_classOf ((f_Mo_throwing ar sc 1 1 0).2.1) ((f_Mo_throwing ar sc 1 1 0).2.2) a0).toNatClampNeg)))).2)
          else
            (0, (f_Mo_throwing ar sc 1 1 0).2.1, (f_Mo_throwing ar sc 1 1 0).2.2)
      else
        if (sc 3) = 100 then
          if ((f_Mo_throwing ar sc 1 0 1).1) = 0 then
            if 0 ≤ a2 then
              ((((f_Mo_add ((f_Mo_throwing ar sc 1 0 1).2.1) ((f_Mo_throwing ar sc 1 0 1).2.2) a0 a1 ((((f_Mo_throwing ar sc 1 0 1).2.2) 1) + a2)).2) 3) - 1, (f_Mo_add ((f_Mo_throwing ar sc 1 0 1).2.1) ((f_Mo_throwing ar sc 1 0 1).2.2) a0 a1 ((((f_Mo_throwing ar sc 1 0 1).2.2) 1) + a2)).1, (f_Mo_add ((f_Mo_throwing ar sc 1 0 1).2.1) ((f_Mo_throwing ar sc 1 0 1).2.2) a0 a1 ((((f_Mo_throwing ar sc 1 0 1).2.2) 1) + a2)).2)
            else
              ((((f_Mo_add ((f_Mo_throwing ar sc 1 0 1).2.1) ((f_Mo_throwing ar sc 1 0 1).2.2) a0 a1 ((((f_Mo_throwing ar sc 1 0 1).2.2) 1) + (((f_Mo_throwing ar sc 1 0 1).2.1) 4 ((f_Mo_classOf ((f_Mo_throwing ar sc 1 0 1).2.1) ((f_Mo_throwing ar sc 1 0 1).2.2) a0).toNatClampNeg)))).2) 3) - 1, (f_Mo_add ((f_Mo_throwing ar sc 1 0 1).2.1) ((f_Mo_throwing ar sc 1 0 1).2.2) a0 a1 ((((f_Mo_throwing ar sc 1 0 1).2.2) 1) + (((f_Mo_throwing ar sc 1 0 1).2.1) 4 ((f_Mo_classOf ((f_Mo_throwing ar sc 1 0 1).2.1) ((f_Mo_throwing ar sc 1 0 1).2.2) a0).toNatClampNeg)))).1, (f_Mo_add ((f_Mo_throwing ar sc 1 0 1).2.1) ((f_Mo_throwing ar sc 1 0 1).2.2) a0 a1 ((((f_Mo_throwing ar sc 1 0 1).2.2) 1) + (((f_Mo_throwing ar sc 1 0 1).2.1) 4 ((f_Mo_classOf ((f_Mo_throwing ar sc 1 0 1).2.1) ((f_Mo_throwing ar sc 1 0 1).2.2) a0).toNatClampNeg)))).2)
          else
            (0, (f_Mo_throwing ar sc 1 0 1).2.1, (f_Mo_throwing ar sc 1 0 1).2.2)
        else
          if ((f_Mo_throwing ar sc 1 0 0).1) = 0 then
            if 0 ≤ a2 then
              ((((f_Mo_add ((f_Mo_throwing ar sc 1 0 0).2.1) ((f_Mo_throwing ar sc 1 0 0).2.2) a0 a1 ((((f_Mo_throwing ar sc 1 0 0).2.2) 1) + a2)).2) 3) - 1, (f_Mo_add ((f_Mo_throwing ar sc 1 0 0).2.1) ((f_Mo_throwing ar sc 1 0 0).2.2) a0 a1 ((((f_Mo_throwing ar sc 1 0 0).2.2) 1) + a2)).1, (f_Mo_add ((f_Mo_throwing ar sc 1 0 0).2.1) ((f_Mo_throwing ar sc 1 0 0).2.2) a0 a1 ((((f_Mo_throwing ar sc 1 0 0).2.2) 1) + a2)).2)
            else
              ((((f_Mo_add ((f_Mo_throwing ar sc 1 0 0).2.1) ((f_Mo_throwing ar sc 1 0 0).2.2) a0 a1 ((((f_Mo_throwing ar sc 1 0 0).2.2) 1) + (((f_Mo_throwing ar sc 1 0 0).2.1) 4 ((f_Mo_classOf ((f_Mo_throwing ar sc 1 0 0).2.1) ((f_Mo_throwing ar sc 1 0 0).2.2) a0).toNatClampNeg)))).2) 3) - 1, (f_Mo_add ((f_Mo_throwing ar sc 1 0 0).2.1) ((f_Mo_throwing ar sc 1 0 0).2.2) a0 a1 ((((f_Mo_throwing ar sc 1 0 0).2.2) 1) + (((f_Mo_throwing ar sc 1 0 0).2.1) 4 ((f_Mo_classOf ((f_Mo_throwing ar sc 1 0 0).2.1) ((f_Mo_throwing ar sc 1 0 0).2.2) a0).toNatClampNeg)))).1, (f_Mo_add ((f_Mo_throwing ar sc 1 0 0).2.1) ((f_Mo_throwing ar sc 1 0 0).2.2) a0 a1 ((((f_Mo_throwing ar sc 1 0 0).2.2) 1) + (((f_Mo_throwing ar sc 1 0 0).2.1) 4 ((f_Mo_classOf ((f_Mo_throwing ar sc 1 0 0).2.1) ((f_Mo_throwing ar sc 1 0 0).2.2) a0).toNatClampNeg)))).2)
          else
            (0, (f_Mo_throwing ar sc 1 0 0).2.1, (f_Mo_throwing ar sc 1 0 0).2.2)
  else
    if (f_Mo_in a1 1 50) = 0 then
      if (sc 3) = 100 then
        if ((f_Mo_throwing ar sc 0 1 1).1) = 0 then
          if 0 ≤ a2 then
            ((((f_Mo_add ((f_Mo_throwing ar sc 0 1 1).2.1) ((f_Mo_throwing ar sc 0 1 1).2.2) a0 a1 ((((f_Mo_throwing ar sc 0 1 1).2.2) 1) + a2)).2) 3) - 1, (f_Mo_add ((f_Mo_throwing ar sc 0 1 1).2.1) ((f_Mo_throwing ar sc 0 1 1).2.2) a0 a1 ((((f_Mo_throwing ar sc 0 1 1).2.2) 1) + a2)).1, (f_Mo_add ((f_Mo_throwing ar sc 0 1 1).2.1) ((f_Mo_throwing ar sc 0 1 1).2.2) a0 a1 ((((f_Mo_throwing ar sc 0 1 1).2.2) 1) + a2)).2)
          else
            ((((f_Mo_add ((f_Mo_throwing ar sc 0 1 1).2.1) ((f_Mo_throwing ar sc 0 1 1).2.2) a0 a1 ((((f_Mo_throwing ar sc 0 1 1).2.2) 1) + (((f_Mo_throwing ar sc 0 1 1).2.1) 4 ((f_Mo_classOf ((f_Mo_throwing ar sc 0 1 1).2.1) ((f_Mo_throwing ar sc 0 1 1).2.2) a0).toNatClampNeg)))).2) 3) - 1, (f_Mo_add ((f_Mo_throwing ar sc 0 1 1).2.1) ((f_Mo_throwing ar sc 0 1 1).2.2) a0 a1 ((((f_Mo_throwing ar sc 0 1 1).2.2) 1) + (((f_Mo_throwing ar sc 0 1 1).2.1) 4 ((f_Mo_classOf ((f_Mo_throwing ar sc 0 1 1).2.1) ((f_Mo_throwing ar sc 0 1 1).2.2) a0).toNatClampNeg)))).1, (f_Mo_add ((f_Mo_throwing ar sc 0 1 1).2.1) ((f_Mo_throwing ar sc 0 1 1).2.2) a0 a1 ((((f_Mo_throwing ar sc 0 1 1).2.2) 1) + (((f_Mo_throwing ar sc 0 1 1).2.1) 4 ((f_Mo_classOf ((f_Mo_throwing ar sc 0 1 1).2.1) ((f_Mo_throwing ar sc 0 1 1).2.2) a0).toNatClampNeg)))).2)
        else
          (0, (f_Mo_throwing ar sc 0 1 1).2.1, (f_Mo_throwing ar sc 0 1 1).2.2)
      else
        if ((f_Mo_throwing ar sc 0 1 0).1) = 0 then
          if 0 ≤ a2 then
            ((((f_Mo_add ((f_Mo_throwing ar sc 0 1 0).2.1) ((f_Mo_throwing ar sc 0 1 0).2.2) a0 a1 ((((f_Mo_throwing ar sc 0 1 0).2.2) 1) + a2)).2) 3) - 1, (f_Mo_add ((f_Mo_throwing ar sc 0 1 0).2.1) ((f_Mo_throwing ar sc 0 1 0).2.2) a0 a1 ((((f_Mo_throwing ar sc 0 1 0).2.2) 1) + a2)).1, (f_Mo_add ((f_Mo_throwing ar sc 0 1 0).2.1) ((f_Mo_throwing ar sc 0 1 0).2.2) a0 a1 ((((f_Mo_throwing ar sc 0 1 0).2.2) 1) + a2)).2)
          else
            ((((f_Mo_add ((f_Mo_throwing ar sc 0 1 0).2.1) ((f_Mo_throwing ar sc 0 1 0).2.2) a0 a1 ((((f_Mo_throwing ar sc 0 1 0).2.2) 1) + (((f_Mo_throwing ar sc 0 1 0).2.1) 4 ((f_Mo_classOf ((f_Mo_throwing ar sc 0 1 0).2.1) ((f_Mo_throwing ar sc 0 1 0).2.2) a0).toNatClampNeg)))).2) 3) - 1, (f_Mo_add ((f_Mo_throwing ar sc 0 1 0).2.1) ((f_Mo_throwing ar sc 0 1 0).2.2) a0 a1 ((((f_Mo_throwing ar sc 0 1 0).2.2) 1) + (((f_Mo_throwing ar sc 0 1 0).2.1) 4 ((f_Mo_classOf ((f_Mo_throwing ar sc 0 1 0).2.1) ((f_Mo_throwing ar sc 0 1 0).2.2) a0).toNatClampNeg)))).1, (f_Mo_add ((f_Mo_throwing ar sc 0 1 0).2.1) ((f_Mo_throwing ar sc 0 1 0).2.2) a0 a1 ((((f_Mo_throwing ar sc 0 1 0).2.2) 1) + (((f_Mo_throwing ar sc 0 1 0).2.1) 4 ((f_Mo_classOf ((f_Mo_throwing ar sc 0 1 0).2.1) ((f_Mo_throwing ar sc 0 1 0).2.2) a0).toNatClampNeg)))).2)
        else
          (0, (f_Mo_throwing ar sc 0 1 0).2.1, (f_Mo_throwing ar sc 0 1 0).2.2)
    else
      if (f_Mo_in a2 (-1) 1000) = 0 then
        if (sc 3) = 100 then
          if ((f_Mo_throwing ar sc 0 1 1).1) = 0 then
            if 0 ≤ a2 then
              ((((f_Mo_add ((f_Mo_throwing ar sc 0 1 1).2.1) ((f_Mo_throwing ar sc 0 1 1).2.2) a0 a1 ((((f_Mo_throwing ar sc 0 1 1).2.2) 1) + a2)).2) 3) - 1, (f_Mo_add ((f_Mo_throwing ar sc 0 1 1).2.1) ((f_Mo_throwing ar sc 0 1 1).2.2) a0 a1 ((((f_Mo_throwing ar sc 0 1 1).2.2) 1) + a2)).1, (f_Mo_add ((f_Mo_throwing ar sc 0 1 1).2.1) ((f_Mo_throwing ar sc 0 1 1).2.2) a0 a1 ((((f_Mo_throwing ar sc 0 1 1).2.2) 1) + a2)).2)
            else
              ((((f_Mo_add ((f_Mo_throwing ar sc 0 1 1).2.1) ((f_Mo_throwing ar sc 0 1 1).2.2) a0 a1 ((((f_Mo_throwing ar sc 0 1 1).2.2) 1) + (((f_Mo_throwing ar sc 0 1 1).2.1) 4 ((f_Mo_classOf ((f_Mo_throwing ar sc 0 1 1).2.1) ((f_Mo_throwing ar sc 0 1 1).2.2) a0).toNatClampNeg)))).2) 3) - 1, (f_Mo_add ((f_Mo_throwing ar sc 0 1 1).2.1) ((f_Mo_throwing ar sc 0 1 1).2.2) a0 a1 ((((f_Mo_throwing ar sc 0 1 1).2.2) 1) + (((f_Mo_throwing ar sc 0 1 1).2.1) 4 ((f_Mo_classOf ((f_Mo_throwing ar sc 0 1 1).2.1) ((f_Mo_throwing ar sc 0 1 1).2.2) a0).toNatClampNeg)))).1, (f_Mo_add ((f_Mo_throwing ar sc 0 1 1).2.1) ((f_Mo_throwing ar sc 0 1 1).2.2) a0 a1 ((((f_Mo_throwing ar sc 0 1 1).2.2) 1) + (((f_Mo_throwing ar sc 0 1 1).2.1) 4 ((f_Mo_classOf ((f_Mo_throwing ar sc 0 1 1).2.1) ((f_Mo_throwing ar sc 0 1 1).2.2) a0).toNatClampNeg)))).2)
          else
            (0, (f_Mo_throwing ar sc 0 1 1).2.1, (f_Mo_throwing ar sc 0 1 1).2.2)
        else
          if ((f_Mo_throwing ar sc 0 1 0).1) = 0 then
            if 0 ≤ a2 then
              ((((f_Mo_add ((f_Mo_throwing ar sc 0 1 0).2.1) ((f_Mo_throwing ar sc 0 1 0).2.2) a0 a1 ((((f_Mo_throwing ar sc 0 1 0).2.2) 1) + a2)).2) 3) - 1, (f_Mo_add ((f_Mo_throwing ar sc 0 1 0).2.1) ((f_Mo_throwing ar sc 0 1 0).2.2) a0 a1 ((((f_Mo_throwing ar sc 0 1 0).2.2) 1) + a2)).1, (f_Mo_add ((f_Mo_throwing ar sc 0 1 0).2.1) ((f_Mo_throwing ar sc 0 1 0).2.2) a0 a1 ((((f_Mo_throwing ar sc 0 1 0).2.2) 1) + a2)).2)
            else
              ((((f_Mo_add ((f_Mo_throwing ar sc 0 1 0).2.1) ((f_Mo_throwing ar sc 0 1 0).2.2) a0 a1 ((((f_Mo_throwing ar sc 0 1 0).2.2) 1) + (((f_Mo_throwing ar sc 0 1 0).2.1) 4 ((f_Mo_classOf ((f_Mo_throwing ar sc 0 1 0).2.1) ((f_Mo_throwing ar sc 0 1 0).2.2) a0).toNatClampNeg)))).2) 3) - 1, (f_Mo_add ((f_Mo_throwing ar sc 0 1 0).2.1) ((f_Mo_throwing ar sc 0 1 0).2.2) a0 a1 ((((f_Mo_throwing ar sc 0 1 0).2.2) 1) + (((f_Mo_throwing ar sc 0 1 0).2.1) 4 ((f_Mo_classOf ((f_Mo_throwing ar sc 0 1 0).2.1) ((f_Mo_throwing ar sc 0 1 0).2.2) a0).toNatClampNeg)))).1, (f_Mo_add ((f_Mo_throwing ar sc 0 1 0).2.1) ((f_Mo_throwing ar sc 0 1 0).2.2) a0 a1 ((((f_Mo_throwing ar sc 0 1 0).2.2) 1) + (((f_Mo_throwing ar sc 0 1 0).2.1) 4 ((f_Mo_classOf ((f_Mo_throwing ar sc 0 1 0).2.1) ((f_Mo_throwing ar sc 0 1 0).2.2) a0).toNatClampNeg)))).2)
          else
            (0, (f_Mo_throwing ar sc 0 1 0).2.1, (f_Mo_throwing ar sc 0 1 0).2.2)
      else
        if (sc 3) = 100 then
          if ((f_Mo_throwing ar sc 0 0 1).1) = 0 then
            if 0 ≤ a2 then
              ((((f_Mo_add ((f_Mo_throwing ar sc 0 0 1).2.1) ((f_Mo_throwing ar sc 0 0 1).2.2) a0 a1 ((((f_Mo_throwing ar sc 0 0 1).2.2) 1) + a2)).2) 3) - 1, (f_Mo_add ((f_Mo_throwing ar sc 0 0 1).2.1) ((f_Mo_throwing ar sc 0 0 1).2.2) a0 a1 ((((f_Mo_throwing ar sc 0 0 1).2.2) 1) + a2)).1, (f_Mo_add ((f_Mo_throwing ar sc 0 0 1).2.1) ((f_Mo_throwing ar sc 0 0 1).2.2) a0 a1 ((((f_Mo_throwing ar sc 0 0 1).2.2) 1) + a2)).2)
            else
              ((((f_Mo_add ((f_Mo_throwing ar sc 0 0 1).2.1) ((f_Mo_throwing ar sc 0 0 1).2.2) a0 a1 ((((f_Mo_throwing ar sc 0 0 1).2.2) 1) + (((f_Mo_throwing ar sc 0 0 1).2.1) 4 ((f_Mo_classOf ((f_Mo_throwing ar sc 0 0 1).2.1) ((f_Mo_throwing ar sc 0 0 1).2.2) a0).toNatClampNeg)))).2) 3) - 1, (f_Mo_add ((f_Mo_throwing ar sc 0 0 1).2.1) ((f_Mo_throwing ar sc 0 0 1).2.2) a0 a1 ((((f_Mo_throwing ar sc 0 0 1).2.2) 1) + (((f_Mo_throwing ar sc 0 0 1).2.1) 4 ((f_Mo_classOf ((f_Mo_throwing ar sc 0 0 1).2.1) ((f_Mo_throwing ar sc 0 0 1).2.2) a0).toNatClampNeg)))).1, (f_Mo_add ((f_Mo_throwing ar sc 0 0 1).2.1) ((f_Mo_throwing ar sc 0 0 1).2.2) a0 a1 ((((f_Mo_throwing ar sc 0 0 1).2.2) 1) + (((f_Mo_throwing ar sc 0 0 1).2.1) 4 ((f_Mo_classOf ((f_Mo_throwing ar sc 0 0 1).2.1) ((f_Mo_throwing ar sc 0 0 1).2.2) a0).toNatClampNeg)))).2)
          else
            (0, (f_Mo_throwing ar sc 0 0 1).2.1, (f_Mo_throwing ar sc 0 0 1).2.2)
        else
          if ((f_Mo_throwing ar sc 0 0 0).1) = 0 then
            if 0 ≤ a2 then
              ((((f_Mo_add ((f_Mo_throwing ar sc 0 0 0).2.1) ((f_Mo_throwing ar sc 0 0 0).2.2) a0 a1 ((((f_Mo_throwing ar sc 0 0 0).2.2) 1) + a2)).2) 3) - 1, (f_Mo_add ((f_Mo_throwing ar sc 0 0 0).2.1) ((f_Mo_throwing ar sc 0 0 0).2.2) a0 a1 ((((f_Mo_throwing ar sc 0 0 0).2.2) 1) + a2)).1, (f_Mo_add ((f_Mo_throwing ar sc 0 0 0).2.1) ((f_Mo_throwing ar sc 0 0 0).2.2) a0 a1 ((((f_Mo_throwing ar sc 0 0 0).2.2) 1) + a2)).2)
            else
              ((((f_Mo_add ((f_Mo_throwing ar sc 0 0 0).2.1) ((f_Mo_throwing ar sc 0 0 0).2.2) a0 a1 ((((f_Mo_throwing ar sc 0 0 0).2.2) 1) + (((f_Mo_throwing ar sc 0 0 0).2.1) 4 ((f_Mo_classOf ((f_Mo_throwing ar sc 0 0 0).2.1) ((f_Mo_throwing ar sc 0 0 0).2.2) a0).toNatClampNeg)))).2) 3) - 1, (f_Mo_add ((f_Mo_throwing ar sc 0 0 0).2.1) ((f_Mo_throwing ar sc 0 0 0).2.2) a0 a1 ((((f_Mo_throwing ar sc 0 0 0).2.2) 1) + (((f_Mo_throwing ar sc 0 0 0).2.1) 4 ((f_Mo_classOf ((f_Mo_throwing ar sc 0 0 0).2.1) ((f_Mo_throwing ar sc 0 0 0).2.2) a0).toNatClampNeg)))).1, (f_Mo_add ((f_Mo_throwing ar sc 0 0 0).2.1) ((f_Mo_throwing ar sc 0 0 0).2.2) a0 a1 ((((f_Mo_throwing ar sc 0 0 0).2.2) 1) + (((f_Mo_throwing ar sc 0 0 0).2.1) 4 ((f_Mo_classOf ((f_Mo_throwing ar sc 0 0 0).2.1) ((f_Mo_throwing ar sc 0 0 0).2.2) a0).toNatClampNeg)))).2)
          else
            (0, (f_Mo_throwing ar sc 0 0 0).2.1, (f_Mo_throwing ar sc 0 0 0).2.2)
def p_Mo_finding (ar : Nat → Nat → Int32) (sc : Nat → Int32) (a0 : Int32) (a1 : Int32) (a2 : Int32) : Prop :=
  ((f_Mo_isPoint ar sc a0) = 0 → (((f_Mo_in a1 1 50) = 0 → (((sc 3) = 100 → ((((f_Mo_throwing ar sc 1 1 1).1) = 0 → ((0 ≤ a2 → (p_Mo_add ((f_Mo_throwing ar sc 1 1 1).2.1) ((f_Mo_throwing ar sc 1 1 1).2.2) a0 a1 ((((f_Mo_throwing ar sc 1 1 1).2.2) 1) + a2))) ∧ (¬ (0 ≤ a2) → ((p_Mo_classOf ((f_Mo_throwing ar sc 1 1 1).2.1) ((f_Mo_throwing ar sc 1 1 1).2.2) a0) ∧ ((vp_in (f_Mo_classOf ((f_Mo_throwing ar sc 1 1 1).2.1) ((f_Mo_throwing ar sc 1 1 1).2.2) a0) 4) ∧ (p_Mo_add ((f_Mo_throwing ar sc 1 1 1).2.1) ((f_Mo_throwing ar sc 1 1 1).2.2) a0 a1 ((((f_Mo_throwing ar sc 1 1 1).2.2) 1) + (((f_Mo_throwing ar sc 1 1 1).2.1) 4 ((f_Mo_classOf ((f_Mo_throwing ar sc 1 1 1).2.1) ((f_Mo_throwing ar sc 1 1 1).2.2) a0).toNatClampNeg))))))))) ∧ (¬ (((f_Mo_throwing ar sc 1 1 1).1) = 0) → True))) ∧ (¬ ((sc 3) = 100) → ((((f_Mo_throwing ar sc 1 1 0).1) = 0 → ((0 ≤ a2 → (p_Mo_add ((f_Mo_throwing ar sc 1 1 0).2.1) ((f_Mo_throwing ar sc 1 1 0).2.2) a0 a1 ((((f_Mo_throwing ar sc 1 1 0).2.2) 1) + a2))) ∧ (¬ (0 ≤ a2) → ((p_Mo_classOf ((f_Mo_throwing ar sc 1 1 0).2.1) ((f_Mo_throwing ar sc 1 1 0).2.2) a0) ∧ ((vp_in (f_Mo_classOf ((f_Mo_throwing ar sc 1 1 0).2.1) ((f_Mo_throwing ar sc 1 1 0).2.2) a0) 4) ∧ (p_Mo_add ((f_Mo_throwing ar sc 1 1 0).2.1) ((f_Mo_throwing ar sc 1 1 0).2.2) a0 a1 ((((f_Mo_throwing ar sc 1 1 0).2.2) 1) + (((f_Mo_throwing ar sc 1 1 0).2.1) 4 ((f_Mo_classOf ((f_Mo_throwing ar sc 1 1 0).2.1) ((f_Mo_throwing ar sc 1 1 0).2.2) a0).toNatClampNeg))))))))) ∧ (¬ (((f_Mo_throwing ar sc 1 1 0).1) = 0) → True))))) ∧ (¬ ((f_Mo_in a1 1 50) = 0) → (((f_Mo_in a2 (-1) 1000) = 0 → (((sc 3) = 100 → ((((f_Mo_throwing ar sc 1 1 1).1) = 0 → ((0 ≤ a2 → (p_Mo_add ((f_Mo_throwing ar sc 1 1 1).2.1) ((f_Mo_throwing ar sc 1 1 1).2.2) a0 a1 ((((f_Mo_throwing ar sc 1 1 1).2.2) 1) + a2))) ∧ (¬ (0 ≤ a2) → ((p_Mo_classOf ((f_Mo_throwing ar sc 1 1 1).2.1) ((f_Mo_throwing ar sc 1 1 1).2.2) a0) ∧ ((vp_in (f_Mo_classOf ((f_Mo_throwing ar sc 1 1 1).2.1) ((f_Mo_throwing ar sc 1 1 1).2.2) a0) 4) ∧ (p_Mo_add ((f_Mo_throwing ar sc 1 1 1).2.1) ((f_Mo_throwing ar sc 1 1 1).2.2) a0 a1 ((((f_Mo_throwing ar sc 1 1 1).2.2) 1) + (((f_Mo_throwing ar sc 1 1 1).2.1) 4 ((f_Mo_classOf ((f_Mo_throwing ar sc 1 1 1).2.1) ((f_Mo_throwing ar sc 1 1 1).2.2) a0).toNatClampNeg))))))))) ∧ (¬ (((f_Mo_throwing ar sc 1 1 1).1) = 0) → True))) ∧ (¬ ((sc 3) = 100) → ((((f_Mo_throwing ar sc 1 1 0).1) = 0 → ((0 ≤ a2 → (p_Mo_add ((f_Mo_throwing ar sc 1 1 0).2.1) ((f_Mo_throwing ar sc 1 1 0).2.2) a0 a1 ((((f_Mo_throwing ar sc 1 1 0).2.2) 1) + a2))) ∧ (¬ (0 ≤ a2) → ((p_Mo_classOf ((f_Mo_throwing ar sc 1 1 0).2.1) ((f_Mo_throwing ar sc 1 1 0).2.2) a0) ∧ ((vp_in (f_Mo_classOf ((f_Mo_throwing ar sc 1 1 0).2.1) ((f_Mo_throwing ar sc 1 1 0).2.2) a0) 4) ∧ (p_Mo_add ((f_Mo_throwing ar sc 1 1 0).2.1) ((f_Mo_throwing ar sc 1 1 0).2.2) a0 a1 ((((f_Mo_throwing ar sc 1 1 0).2.2) 1) + (((f_Mo_throwing ar sc 1 1 0).2.1) 4 ((f_Mo_classOf ((f_Mo_throwing ar sc 1 1 0).2.1) ((f_Mo_throwing ar sc 1 1 0).2.2) a0).toNatClampNeg))))))))) ∧ (¬ (((f_Mo_throwing ar sc 1 1 0).1) = 0) → True))))) ∧ (¬ ((f_Mo_in a2 (-1) 1000) = 0) → (((sc 3) = 100 → ((((f_Mo_throwing ar sc 1 0 1).1) = 0 → ((0 ≤ a2 → (p_Mo_add ((f_Mo_throwing ar sc 1 0 1).2.1) ((f_Mo_throwing ar sc 1 0 1).2.2) a0 a1 ((((f_Mo_throwing ar sc 1 0 1).2.2) 1) + a2))) ∧ (¬ (0 ≤ a2) → ((p_Mo_classOf ((f_Mo_throwing ar sc 1 0 1).2.1) ((f_Mo_throwing ar sc 1 0 1).2.2) a0) ∧ ((vp_in (f_Mo_classOf ((f_Mo_throwing ar sc 1 0 1).2.1) ((f_Mo_throwing ar sc 1 0 1).2.2) a0) 4) ∧ (p_Mo_add ((f_Mo_throwing ar sc 1 0 1).2.1) ((f_Mo_throwing ar sc 1 0 1).2.2) a0 a1 ((((f_Mo_throwing ar sc 1 0 1).2.2) 1) + (((f_Mo_throwing ar sc 1 0 1).2.1) 4 ((f_Mo_classOf ((f_Mo_throwing ar sc 1 0 1).2.1) ((f_Mo_throwing ar sc 1 0 1).2.2) a0).toNatClampNeg))))))))) ∧ (¬ (((f_Mo_throwing ar sc 1 0 1).1) = 0) → True))) ∧ (¬ ((sc 3) = 100) → ((((f_Mo_throwing ar sc 1 0 0).1) = 0 → ((0 ≤ a2 → (p_Mo_add ((f_Mo_throwing ar sc 1 0 0).2.1) ((f_Mo_throwing ar sc 1 0 0).2.2) a0 a1 ((((f_Mo_throwing ar sc 1 0 0).2.2) 1) + a2))) ∧ (¬ (0 ≤ a2) → ((p_Mo_classOf ((f_Mo_throwing ar sc 1 0 0).2.1) ((f_Mo_throwing ar sc 1 0 0).2.2) a0) ∧ ((vp_in (f_Mo_classOf ((f_Mo_throwing ar sc 1 0 0).2.1) ((f_Mo_throwing ar sc 1 0 0).2.2) a0) 4) ∧ (p_Mo_add ((f_Mo_throwing ar sc 1 0 0).2.1) ((f_Mo_throwing ar sc 1 0 0).2.2) a0 a1 ((((f_Mo_throwing ar sc 1 0 0).2.2) 1) + (((f_Mo_throwing ar sc 1 0 0).2.1) 4 ((f_Mo_classOf ((f_Mo_throwing ar sc 1 0 0).2.1) ((f_Mo_throwing ar sc 1 0 0).2.2) a0).toNatClampNeg))))))))) ∧ (¬ (((f_Mo_throwing ar sc 1 0 0).1) = 0) → True))))))))) ∧ (¬ ((f_Mo_isPoint ar sc a0) = 0) → (((f_Mo_in a1 1 50) = 0 → (((sc 3) = 100 → ((((f_Mo_throwing ar sc 0 1 1).1) = 0 → ((0 ≤ a2 → (p_Mo_add ((f_Mo_throwing ar sc 0 1 1).2.1) ((f_Mo_throwing ar sc 0 1 1).2.2) a0 a1 ((((f_Mo_throwing ar sc 0 1 1).2.2) 1) + a2))) ∧ (¬ (0 ≤ a2) → ((p_Mo_classOf ((f_Mo_throwing ar sc 0 1 1).2.1) ((f_Mo_throwing ar sc 0 1 1).2.2) a0) ∧ ((vp_in (f_Mo_classOf ((f_Mo_throwing ar sc 0 1 1).2.1) ((f_Mo_throwing ar sc 0 1 1).2.2) a0) 4) ∧ (p_Mo_add ((f_Mo_throwing ar sc 0 1 1).2.1) ((f_Mo_throwing ar sc 0 1 1).2.2) a0 a1 ((((f_Mo_throwing ar sc 0 1 1).2.2) 1) + (((f_Mo_throwing ar sc 0 1 1).2.1) 4 ((f_Mo_classOf ((f_Mo_throwing ar sc 0 1 1).2.1) ((f_Mo_throwing ar sc 0 1 1).2.2) a0).toNatClampNeg))))))))) ∧ (¬ (((f_Mo_throwing ar sc 0 1 1).1) = 0) → True))) ∧ (¬ ((sc 3) = 100) → ((((f_Mo_throwing ar sc 0 1 0).1) = 0 → ((0 ≤ a2 → (p_Mo_add ((f_Mo_throwing ar sc 0 1 0).2.1) ((f_Mo_throwing ar sc 0 1 0).2.2) a0 a1 ((((f_Mo_throwing ar sc 0 1 0).2.2) 1) + a2))) ∧ (¬ (0 ≤ a2) → ((p_Mo_classOf ((f_Mo_throwing ar sc 0 1 0).2.1) ((f_Mo_throwing ar sc 0 1 0).2.2) a0) ∧ ((vp_in (f_Mo_classOf ((f_Mo_throwing ar sc 0 1 0).2.1) ((f_Mo_throwing ar sc 0 1 0).2.2) a0) 4) ∧ (p_Mo_add ((f_Mo_throwing ar sc 0 1 0).2.1) ((f_Mo_throwing ar sc 0 1 0).2.2) a0 a1 ((((f_Mo_throwing ar sc 0 1 0).2.2) 1) + (((f_Mo_throwing ar sc 0 1 0).2.1) 4 ((f_Mo_classOf ((f_Mo_throwing ar sc 0 1 0).2.1) ((f_Mo_throwing ar sc 0 1 0).2.2) a0).toNatClampNeg))))))))) ∧ (¬ (((f_Mo_throwing ar sc 0 1 0).1) = 0) → True))))) ∧ (¬ ((f_Mo_in a1 1 50) = 0) → (((f_Mo_in a2 (-1) 1000) = 0 → (((sc 3) = 100 → ((((f_Mo_throwing ar sc 0 1 1).1) = 0 → ((0 ≤ a2 → (p_Mo_add ((f_Mo_throwing ar sc 0 1 1).2.1) ((f_Mo_throwing ar sc 0 1 1).2.2) a0 a1 ((((f_Mo_throwing ar sc 0 1 1).2.2) 1) + a2))) ∧ (¬ (0 ≤ a2) → ((p_Mo_classOf ((f_Mo_throwing ar sc 0 1 1).2.1) ((f_Mo_throwing ar sc 0 1 1).2.2) a0) ∧ ((vp_in (f_Mo_classOf ((f_Mo_throwing ar sc 0 1 1).2.1) ((f_Mo_throwing ar sc 0 1 1).2.2) a0) 4) ∧ (p_Mo_add ((f_Mo_throwing ar sc 0 1 1).2.1) ((f_Mo_throwing ar sc 0 1 1).2.2) a0 a1 ((((f_Mo_throwing ar sc 0 1 1).2.2) 1) + (((f_Mo_throwing ar sc 0 1 1).2.1) 4 ((f_Mo_classOf ((f_Mo_throwing ar sc 0 1 1).2.1) ((f_Mo_throwing ar sc 0 1 1).2.2) a0).toNatClampNeg))))))))) ∧ (¬ (((f_Mo_throwing ar sc 0 1 1).1) = 0) → True))) ∧ (¬ ((sc 3) = 100) → ((((f_Mo_throwing ar sc 0 1 0).1) = 0 → ((0 ≤ a2 → (p_Mo_add ((f_Mo_throwing ar sc 0 1 0).2.1) ((f_Mo_throwing ar sc 0 1 0).2.2) a0 a1 ((((f_Mo_throwing ar sc 0 1 0).2.2) 1) + a2))) ∧ (¬ (0 ≤ a2) → ((p_Mo_classOf ((f_Mo_throwing ar sc 0 1 0).2.1) ((f_Mo_throwing ar sc 0 1 0).2.2) a0) ∧ ((vp_in (f_Mo_classOf ((f_Mo_throwing ar sc 0 1 0).2.1) ((f_Mo_throwing ar sc 0 1 0).2.2) a0) 4) ∧ (p_Mo_add ((f_Mo_throwing ar sc 0 1 0).2.1) ((f_Mo_throwing ar sc 0 1 0).2.2) a0 a1 ((((f_Mo_throwing ar sc 0 1 0).2.2) 1) + (((f_Mo_throwing ar sc 0 1 0).2.1) 4 ((f_Mo_classOf ((f_Mo_throwing ar sc 0 1 0).2.1) ((f_Mo_throwing ar sc 0 1 0).2.2) a0).toNatClampNeg))))))))) ∧ (¬ (((f_Mo_throwing ar sc 0 1 0).1) = 0) → True))))) ∧ (¬ ((f_Mo_in a2 (-1) 1000) = 0) → (((sc 3) = 100 → ((((f_Mo_throwing ar sc 0 0 1).1) = 0 → ((0 ≤ a2 → (p_Mo_add ((f_Mo_throwing ar sc 0 0 1).2.1) ((f_Mo_throwing ar sc 0 0 1).2.2) a0 a1 ((((f_Mo_throwing ar sc 0 0 1).2.2) 1) + a2))) ∧ (¬ (0 ≤ a2) → ((p_Mo_classOf ((f_Mo_throwing ar sc 0 0 1).2.1) ((f_Mo_throwing ar sc 0 0 1).2.2) a0) ∧ ((vp_in (f_Mo_classOf ((f_Mo_throwing ar sc 0 0 1).2.1) ((f_Mo_throwing ar sc 0 0 1).2.2) a0) 4) ∧ (p_Mo_add ((f_Mo_throwing ar sc 0 0 1).2.1) ((f_Mo_throwing ar sc 0 0 1).2.2) a0 a1 ((((f_Mo_throwing ar sc 0 0 1).2.2) 1) + (((f_Mo_throwing ar sc 0 0 1).2.1) 4 ((f_Mo_classOf ((f_Mo_throwing ar sc 0 0 1).2.1) ((f_Mo_throwing ar sc 0 0 1).2.2) a0).toNatClampNeg))))))))) ∧ (¬ (((f_Mo_throwing ar sc 0 0 1).1) = 0) → True))) ∧ (¬ ((sc 3) = 100) → ((((f_Mo_throwing ar sc 0 0 0).1) = 0 → ((0 ≤ a2 → (p_Mo_add ((f_Mo_throwing ar sc 0 0 0).2.1) ((f_Mo_throwing ar sc 0 0 0).2.2) a0 a1 ((((f_Mo_throwing ar sc 0 0 0).2.2) 1) + a2))) ∧ (¬ (0 ≤ a2) → ((p_Mo_classOf ((f_Mo_throwing ar sc 0 0 0).2.1) ((f_Mo_throwing ar sc 0 0 0).2.2) a0) ∧ ((vp_in (f_Mo_classOf ((f_Mo_throwing ar sc 0 0 0).2.1) ((f_Mo_throwing ar sc 0 0 0).2.2) a0) 4) ∧ (p_Mo_add ((f_Mo_throwing ar sc 0 0 0).2.1) ((f_Mo_throwing ar sc 0 0 0).2.2) a0 a1 ((((f_Mo_throwing ar sc 0 0 0).2.2) 1) + (((f_Mo_throwing ar sc 0 0 0).2.1) 4 ((f_Mo_classOf ((f_Mo_throwing ar sc 0 0 0).2.1) ((f_Mo_throwing ar sc 0 0 0).2.2) a0).toNatClampNeg))))))))) ∧ (¬ (((f_Mo_throwing ar sc 0 0 0).1) = 0) → True)))))))))
def f_Mo_done (ar : Nat → Nat → Int32) (sc : Nat → Int32) (a0 : Int32) (a1 : Int32) : (Nat → Nat → Int32) × (Nat → Int32) :=
  if (f_Mo_in a0 0 ((sc 3) - 1)) = 0 then
    if (f_Mo_in a1 1 9999) = 0 then
      if ((f_Mo_throwing ar sc 1 1 0).1) = 0 then
        (s2 ((f_Mo_throwing ar sc 1 1 0).2.1) 14 a0.toNatClampNeg a1, (f_Mo_throwing ar sc 1 1 0).2.2)
      else
        ((f_Mo_throwing ar sc 1 1 0).2.1, (f_Mo_throwing ar sc 1 1 0).2.2)
    else
      if ((f_Mo_throwing ar sc 1 0 0).1) = 0 then
        (s2 ((f_Mo_throwing ar sc 1 0 0).2.1) 14 a0.toNatClampNeg a1, (f_Mo_throwing ar sc 1 0 0).2.2)
      else
        ((f_Mo_throwing ar sc 1 0 0).2.1, (f_Mo_throwing ar sc 1 0 0).2.2)
  else
    if (f_Mo_in a1 1 9999) = 0 then
      if (ar 14 a0.toNatClampNeg) ≤ 0 then
        if ((f_Mo_throwing ar sc 0 1 0).1) = 0 then
          (s2 ((f_Mo_throwing ar sc 0 1 0).2.1) 14 a0.toNatClampNeg a1, (f_Mo_throwing ar sc 0 1 0).2.2)
        else
          ((f_Mo_throwing ar sc 0 1 0).2.1, (f_Mo_throwing ar sc 0 1 0).2.2)
      else
        if ((f_Mo_throwing ar sc 0 1 1).1) = 0 then
          (s2 ((f_Mo_throwing ar sc 0 1 1).2.1) 14 a0.toNatClampNeg a1, (f_Mo_throwing ar sc 0 1 1).2.2)
        else
          ((f_Mo_throwing ar sc 0 1 1).2.1, (f_Mo_throwing ar sc 0 1 1).2.2)
    else
      if (ar 14 a0.toNatClampNeg) ≤ 0 then
        if ((f_Mo_throwing ar sc 0 0 0).1) = 0 then
          (s2 ((f_Mo_throwing ar sc 0 0 0).2.1) 14 a0.toNatClampNeg a1, (f_Mo_throwing ar sc 0 0 0).2.2)
        else
          ((f_Mo_throwing ar sc 0 0 0).2.1, (f_Mo_throwing ar sc 0 0 0).2.2)
      else
        if ((f_Mo_throwing ar sc 0 0 1).1) = 0 then
          (s2 ((f_Mo_throwing ar sc 0 0 1).2.1) 14 a0.toNatClampNeg a1, (f_Mo_throwing ar sc 0 0 1).2.2)
        else
          ((f_Mo_throwing ar sc 0 0 1).2.1, (f_Mo_throwing ar sc 0 0 1).2.2)
def p_Mo_done (ar : Nat → Nat → Int32) (sc : Nat → Int32) (a0 : Int32) (a1 : Int32) : Prop :=
  ((f_Mo_in a0 0 ((sc 3) - 1)) = 0 → (((f_Mo_in a1 1 9999) = 0 → ((((f_Mo_throwing ar sc 1 1 0).1) = 0 → (vp_in a0 100)) ∧ (¬ (((f_Mo_throwing ar sc 1 1 0).1) = 0) → True))) ∧ (¬ ((f_Mo_in a1 1 9999) = 0) → ((((f_Mo_throwing ar sc 1 0 0).1) = 0 → (vp_in a0 100)) ∧ (¬ (((f_Mo_throwing ar sc 1 0 0).1) = 0) → True))))) ∧ (¬ ((f_Mo_in a0 0 ((sc 3) - 1)) = 0) → (((f_Mo_in a1 1 9999) = 0 → ((vp_in a0 100) ∧ (((ar 14 a0.toNatClampNeg) ≤ 0 → ((((f_Mo_throwing ar sc 0 1 0).1) = 0 → (vp_in a0 100)) ∧ (¬ (((f_Mo_throwing ar sc 0 1 0).1) = 0) → True))) ∧ (¬ ((ar 14 a0.toNatClampNeg) ≤ 0) → ((((f_Mo_throwing ar sc 0 1 1).1) = 0 → (vp_in a0 100)) ∧ (¬ (((f_Mo_throwing ar sc 0 1 1).1) = 0) → True)))))) ∧ (¬ ((f_Mo_in a1 1 9999) = 0) → ((vp_in a0 100) ∧ (((ar 14 a0.toNatClampNeg) ≤ 0 → ((((f_Mo_throwing ar sc 0 0 0).1) = 0 → (vp_in a0 100)) ∧ (¬ (((f_Mo_throwing ar sc 0 0 0).1) = 0) → True))) ∧ (¬ ((ar 14 a0.toNatClampNeg) ≤ 0) → ((((f_Mo_throwing ar sc 0 0 1).1) = 0 → (vp_in a0 100)) ∧ (¬ (((f_Mo_throwing ar sc 0 0 1).1) = 0) → True))))))))
def f_Mo_findingAt (ar : Nat → Nat → Int32) (sc : Nat → Int32) (a0 : Int32) (a1 : Int32) : Int32 × (Nat → Nat → Int32) × (Nat → Int32) :=
  if (f_Mo_in a0 0 ((sc 3) - 1)) = 0 then
    if ((f_Mo_throwing ar sc 1 0 0).1) = 0 then
      if a1 = 0 then
        (((f_Mo_throwing ar sc 1 0 0).2.1) 11 a0.toNatClampNeg, (f_Mo_throwing ar sc 1 0 0).2.1, (f_Mo_throwing ar sc 1 0 0).2.2)
      else if a1 = 1 then
        if (((f_Mo_throwing ar sc 1 0 0).2.1) 14 a0.toNatClampNeg) = 0 then
          (1, (f_Mo_throwing ar sc 1 0 0).2.1, (f_Mo_throwing ar sc 1 0 0).2.2)
        else
          (0, (f_Mo_throwing ar sc 1 0 0).2.1, (f_Mo_throwing ar sc 1 0 0).2.2)
      else if a1 = 2 then
        if (f_Mo_isMissed ((f_Mo_throwing ar sc 1 0 0).2.1) ((f_Mo_throwing ar sc 1 0 0).2.2) a0) = 0 then
          (0, (f_Mo_throwing ar sc 1 0 0).2.1, (f_Mo_throwing ar sc 1 0 0).2.2)
        else
          (1, (f_Mo_throwing ar sc 1 0 0).2.1, (f_Mo_throwing ar sc 1 0 0).2.2)
      else if a1 = 3 then
        (((f_Mo_throwing ar sc 1 0 0).2.1) 13 a0.toNatClampNeg, (f_Mo_throwing ar sc 1 0 0).2.1, (f_Mo_throwing ar sc 1 0 0).2.2)
      else 
        (((f_Mo_throwing ar sc 1 0 0).2.1) 14 a0.toNatClampNeg, (f_Mo_throwing ar sc 1 0 0).2.1, (f_Mo_throwing ar sc 1 0 0).2.2)
    else
      (0, (f_Mo_throwing ar sc 1 0 0).2.1, (f_Mo_throwing ar sc 1 0 0).2.2)
  else
    if (f_Mo_in a1 0 4) = 0 then
      if ((f_Mo_throwing ar sc 1 0 0).1) = 0 then
        if a1 = 0 then
          (((f_Mo_throwing ar sc 1 0 0).2.1) 11 a0.toNatClampNeg, (f_Mo_throwing ar sc 1 0 0).2.1, (f_Mo_throwing ar sc 1 0 0).2.2)
        else if a1 = 1 then
          if (((f_Mo_throwing ar sc 1 0 0).2.1) 14 a0.toNatClampNeg) = 0 then
            (1, (f_Mo_throwing ar sc 1 0 0).2.1, (f_Mo_throwing ar sc 1 0 0).2.2)
          else
            (0, (f_Mo_throwing ar sc 1 0 0).2.1, (f_Mo_throwing ar sc 1 0 0).2.2)
        else if a1 = 2 then
          if (f_Mo_isMissed ((f_Mo_throwing ar sc 1 0 0).2.1) ((f_Mo_throwing ar sc 1 0 0).2.2) a0) = 0 then
            (0, (f_Mo_throwing ar sc 1 0 0).2.1, (f_Mo_throwing ar sc 1 0 0).2.2)
          else
            (1, (f_Mo_throwing ar sc 1 0 0).2.1, (f_Mo_throwing ar sc 1 0 0).2.2)
        else if a1 = 3 then
          (((f_Mo_throwing ar sc 1 0 0).2.1) 13 a0.toNatClampNeg, (f_Mo_throwing ar sc 1 0 0).2.1, (f_Mo_throwing ar sc 1 0 0).2.2)
        else 
          (((f_Mo_throwing ar sc 1 0 0).2.1) 14 a0.toNatClampNeg, (f_Mo_throwing ar sc 1 0 0).2.1, (f_Mo_throwing ar sc 1 0 0).2.2)
      else
        (0, (f_Mo_throwing ar sc 1 0 0).2.1, (f_Mo_throwing ar sc 1 0 0).2.2)
    else
      if ((f_Mo_throwing ar sc 0 0 0).1) = 0 then
        if a1 = 0 then
          (((f_Mo_throwing ar sc 0 0 0).2.1) 11 a0.toNatClampNeg, (f_Mo_throwing ar sc 0 0 0).2.1, (f_Mo_throwing ar sc 0 0 0).2.2)
        else if a1 = 1 then
          if (((f_Mo_throwing ar sc 0 0 0).2.1) 14 a0.toNatClampNeg) = 0 then
            (1, (f_Mo_throwing ar sc 0 0 0).2.1, (f_Mo_throwing ar sc 0 0 0).2.2)
          else
            (0, (f_Mo_throwing ar sc 0 0 0).2.1, (f_Mo_throwing ar sc 0 0 0).2.2)
        else if a1 = 2 then
          if (f_Mo_isMissed ((f_Mo_throwing ar sc 0 0 0).2.1) ((f_Mo_throwing ar sc 0 0 0).2.2) a0) = 0 then
            (0, (f_Mo_throwing ar sc 0 0 0).2.1, (f_Mo_throwing ar sc 0 0 0).2.2)
          else
            (1, (f_Mo_throwing ar sc 0 0 0).2.1, (f_Mo_throwing ar sc 0 0 0).2.2)
        else if a1 = 3 then
          (((f_Mo_throwing ar sc 0 0 0).2.1) 13 a0.toNatClampNeg, (f_Mo_throwing ar sc 0 0 0).2.1, (f_Mo_throwing ar sc 0 0 0).2.2)
        else 
          (((f_Mo_throwing ar sc 0 0 0).2.1) 14 a0.toNatClampNeg, (f_Mo_throwing ar sc 0 0 0).2.1, (f_Mo_throwing ar sc 0 0 0).2.2)
      else
        (0, (f_Mo_throwing ar sc 0 0 0).2.1, (f_Mo_throwing ar sc 0 0 0).2.2)
def p_Mo_findingAt (ar : Nat → Nat → Int32) (sc : Nat → Int32) (a0 : Int32) (a1 : Int32) : Prop :=
  ((f_Mo_in a0 0 ((sc 3) - 1)) = 0 → ((((f_Mo_throwing ar sc 1 0 0).1) = 0 → ((a1 = 0 → (vp_in a0 100)) ∧ (¬ a1 = 0 → ((a1 = 1 → (vp_in a0 100)) ∧ (¬ a1 = 1 → ((a1 = 2 → (p_Mo_isMissed ((f_Mo_throwing ar sc 1 0 0).2.1) ((f_Mo_throwing ar sc 1 0 0).2.2) a0)) ∧ (¬ a1 = 2 → ((a1 = 3 → (vp_in a0 100)) ∧ (¬ a1 = 3 → (vp_in a0 100)))))))))) ∧ (¬ (((f_Mo_throwing ar sc 1 0 0).1) = 0) → True))) ∧ (¬ ((f_Mo_in a0 0 ((sc 3) - 1)) = 0) → (((f_Mo_in a1 0 4) = 0 → ((((f_Mo_throwing ar sc 1 0 0).1) = 0 → ((a1 = 0 → (vp_in a0 100)) ∧ (¬ a1 = 0 → ((a1 = 1 → (vp_in a0 100)) ∧ (¬ a1 = 1 → ((a1 = 2 → (p_Mo_isMissed ((f_Mo_throwing ar sc 1 0 0).2.1) ((f_Mo_throwing ar sc 1 0 0).2.2) a0)) ∧ (¬ a1 = 2 → ((a1 = 3 → (vp_in a0 100)) ∧ (¬ a1 = 3 → (vp_in a0 100)))))))))) ∧ (¬ (((f_Mo_throwing ar sc 1 0 0).1) = 0) → True))) ∧ (¬ ((f_Mo_in a1 0 4) = 0) → ((((f_Mo_throwing ar sc 0 0 0).1) = 0 → ((a1 = 0 → (vp_in a0 100)) ∧ (¬ a1 = 0 → ((a1 = 1 → (vp_in a0 100)) ∧ (¬ a1 = 1 → ((a1 = 2 → (p_Mo_isMissed ((f_Mo_throwing ar sc 0 0 0).2.1) ((f_Mo_throwing ar sc 0 0 0).2.2) a0)) ∧ (¬ a1 = 2 → ((a1 = 3 → (vp_in a0 100)) ∧ (¬ a1 = 3 → (vp_in a0 100)))))))))) ∧ (¬ (((f_Mo_throwing ar sc 0 0 0).1) = 0) → True)))))
def g_Mo_pointAt_38 (a0 : Int32) (a1 : Int32)  : Nat → Int32 → Int32 → (Nat → Nat → Int32) → (Nat → Int32) → Int32 × Int32 × (Nat → Nat → Int32) × (Nat → Int32)
  | 0, v3, v4, ar, sc => (v3, v4, ar, sc)
  | n + 1, v3, v4, ar, sc =>
    if (sc 3) ≤ v4 then
      (v3, v4, ar, sc)
    else
      if (ar 11 v4.toNatClampNeg) = a0 then
        if (ar 14 v4.toNatClampNeg) = 0 then
          g_Mo_pointAt_38 a0 a1 n (v3 + 1) (v4 + 1) ar sc
        else
          g_Mo_pointAt_38 a0 a1 n (v3 + 0) (v4 + 1) ar sc
      else
        g_Mo_pointAt_38 a0 a1 n (v3 + 0) (v4 + 1) ar sc
def q_Mo_pointAt_38 (a0 : Int32) (a1 : Int32)  : Nat → Int32 → Int32 → (Nat → Nat → Int32) → (Nat → Int32) → Prop
  | 0, _, _, _, _ => False
  | n + 1, v3, v4, ar, sc =>
    ((sc 3) ≤ v4 → True) ∧ (¬ ((sc 3) ≤ v4) → ((vp_in v4 100) ∧ (((ar 11 v4.toNatClampNeg) = a0 → ((vp_in v4 100) ∧ (((ar 14 v4.toNatClampNeg) = 0 → (q_Mo_pointAt_38 a0 a1 n (v3 + 1) (v4 + 1) ar sc)) ∧ (¬ ((ar 14 v4.toNatClampNeg) = 0) → (q_Mo_pointAt_38 a0 a1 n (v3 + 0) (v4 + 1) ar sc))))) ∧ (¬ ((ar 11 v4.toNatClampNeg) = a0) → (q_Mo_pointAt_38 a0 a1 n (v3 + 0) (v4 + 1) ar sc)))))
def f_Mo_pointAt (ar : Nat → Nat → Int32) (sc : Nat → Int32) (a0 : Int32) (a1 : Int32) : Int32 × (Nat → Nat → Int32) × (Nat → Int32) :=
  if (f_Mo_isPoint ar sc a0) = 0 then
    if ((f_Mo_throwing ar sc 1 0 0).1) = 0 then
      if a1 = 0 then
        (f_Mo_riskOf ((g_Mo_pointAt_38 a0 a1 200 0 0 ((f_Mo_throwing ar sc 1 0 0).2.1) ((f_Mo_throwing ar sc 1 0 0).2.2)).2.2.1) ((g_Mo_pointAt_38 a0 a1 200 0 0 ((f_Mo_throwing ar sc 1 0 0).2.1) ((f_Mo_throwing ar sc 1 0 0).2.2)).2.2.2) a0, (g_Mo_pointAt_38 a0 a1 200 0 0 ((f_Mo_throwing ar sc 1 0 0).2.1) ((f_Mo_throwing ar sc 1 0 0).2.2)).2.2.1, (g_Mo_pointAt_38 a0 a1 200 0 0 ((f_Mo_throwing ar sc 1 0 0).2.1) ((f_Mo_throwing ar sc 1 0 0).2.2)).2.2.2)
      else
        if a1 = 1 then
          (f_Mo_classOf ((g_Mo_pointAt_38 a0 a1 200 0 0 ((f_Mo_throwing ar sc 1 0 0).2.1) ((f_Mo_throwing ar sc 1 0 0).2.2)).2.2.1) ((g_Mo_pointAt_38 a0 a1 200 0 0 ((f_Mo_throwing ar sc 1 0 0).2.1) ((f_Mo_throwing ar sc 1 0 0).2.2)).2.2.2) a0, (g_Mo_pointAt_38 a0 a1 200 0 0 ((f_Mo_throwing ar sc 1 0 0).2.1) ((f_Mo_throwing ar sc 1 0 0).2.2)).2.2.1, (g_Mo_pointAt_38 a0 a1 200 0 0 ((f_Mo_throwing ar sc 1 0 0).2.1) ((f_Mo_throwing ar sc 1 0 0).2.2)).2.2.2)
        else
          if a1 = 2 then
            (((g_Mo_pointAt_38 a0 a1 200 0 0 ((f_Mo_throwing ar sc 1 0 0).2.1) ((f_Mo_throwing ar sc 1 0 0).2.2)).2.2.1) 10 a0.toNatClampNeg, (g_Mo_pointAt_38 a0 a1 200 0 0 ((f_Mo_throwing ar sc 1 0 0).2.1) ((f_Mo_throwing ar sc 1 0 0).2.2)).2.2.1, (g_Mo_pointAt_38 a0 a1 200 0 0 ((f_Mo_throwing ar sc 1 0 0).2.1) ((f_Mo_throwing ar sc 1 0 0).2.2)).2.2.2)
          else
            if a1 = 3 then
              (f_Mo_dueFrom ((g_Mo_pointAt_38 a0 a1 200 0 0 ((f_Mo_throwing ar sc 1 0 0).2.1) ((f_Mo_throwing ar sc 1 0 0).2.2)).2.2.1) ((g_Mo_pointAt_38 a0 a1 200 0 0 ((f_Mo_throwing ar sc 1 0 0).2.1) ((f_Mo_throwing ar sc 1 0 0).2.2)).2.2.2) a0, (g_Mo_pointAt_38 a0 a1 200 0 0 ((f_Mo_throwing ar sc 1 0 0).2.1) ((f_Mo_throwing ar sc 1 0 0).2.2)).2.2.1, (g_Mo_pointAt_38 a0 a1 200 0 0 ((f_Mo_throwing ar sc 1 0 0).2.1) ((f_Mo_throwing ar sc 1 0 0).2.2)).2.2.2)
            else
              ((g_Mo_pointAt_38 a0 a1 200 0 0 ((f_Mo_throwing ar sc 1 0 0).2.1) ((f_Mo_throwing ar sc 1 0 0).2.2)).1, (g_Mo_pointAt_38 a0 a1 200 0 0 ((f_Mo_throwing ar sc 1 0 0).2.1) ((f_Mo_throwing ar sc 1 0 0).2.2)).2.2.1, (g_Mo_pointAt_38 a0 a1 200 0 0 ((f_Mo_throwing ar sc 1 0 0).2.1) ((f_Mo_throwing ar sc 1 0 0).2.2)).2.2.2)
    else
      (0, (f_Mo_throwing ar sc 1 0 0).2.1, (f_Mo_throwing ar sc 1 0 0).2.2)
  else
    if (f_Mo_in a1 0 4) = 0 then
      if ((f_Mo_throwing ar sc 1 0 0).1) = 0 then
        if a1 = 0 then
          (f_Mo_riskOf ((g_Mo_pointAt_38 a0 a1 200 0 0 ((f_Mo_throwing ar sc 1 0 0).2.1) ((f_Mo_throwing ar sc 1 0 0).2.2)).2.2.1) ((g_Mo_pointAt_38 a0 a1 200 0 0 ((f_Mo_throwing ar sc 1 0 0).2.1) ((f_Mo_throwing ar sc 1 0 0).2.2)).2.2.2) a0, (g_Mo_pointAt_38 a0 a1 200 0 0 ((f_Mo_throwing ar sc 1 0 0).2.1) ((f_Mo_throwing ar sc 1 0 0).2.2)).2.2.1, (g_Mo_pointAt_38 a0 a1 200 0 0 ((f_Mo_throwing ar sc 1 0 0).2.1) ((f_Mo_throwing ar sc 1 0 0).2.2)).2.2.2)
        else
          if a1 = 1 then
            (f_Mo_classOf ((g_Mo_pointAt_38 a0 a1 200 0 0 ((f_Mo_throwing ar sc 1 0 0).2.1) ((f_Mo_throwing ar sc 1 0 0).2.2)).2.2.1) ((g_Mo_pointAt_38 a0 a1 200 0 0 ((f_Mo_throwing ar sc 1 0 0).2.1) ((f_Mo_throwing ar sc 1 0 0).2.2)).2.2.2) a0, (g_Mo_pointAt_38 a0 a1 200 0 0 ((f_Mo_throwing ar sc 1 0 0).2.1) ((f_Mo_throwing ar sc 1 0 0).2.2)).2.2.1, (g_Mo_pointAt_38 a0 a1 200 0 0 ((f_Mo_throwing ar sc 1 0 0).2.1) ((f_Mo_throwing ar sc 1 0 0).2.2)).2.2.2)
          else
            if a1 = 2 then
              (((g_Mo_pointAt_38 a0 a1 200 0 0 ((f_Mo_throwing ar sc 1 0 0).2.1) ((f_Mo_throwing ar sc 1 0 0).2.2)).2.2.1) 10 a0.toNatClampNeg, (g_Mo_pointAt_38 a0 a1 200 0 0 ((f_Mo_throwing ar sc 1 0 0).2.1) ((f_Mo_throwing ar sc 1 0 0).2.2)).2.2.1, (g_Mo_pointAt_38 a0 a1 200 0 0 ((f_Mo_throwing ar sc 1 0 0).2.1) ((f_Mo_throwing ar sc 1 0 0).2.2)).2.2.2)
            else
              if a1 = 3 then
                (f_Mo_dueFrom ((g_Mo_pointAt_38 a0 a1 200 0 0 ((f_Mo_throwing ar sc 1 0 0).2.1) ((f_Mo_throwing ar sc 1 0 0).2.2)).2.2.1) ((g_Mo_pointAt_38 a0 a1 200 0 0 ((f_Mo_throwing ar sc 1 0 0).2.1) ((f_Mo_throwing ar sc 1 0 0).2.2)).2.2.2) a0, (g_Mo_pointAt_38 a0 a1 200 0 0 ((f_Mo_throwing ar sc 1 0 0).2.1) ((f_Mo_throwing ar sc 1 0 0).2.2)).2.2.1, (g_Mo_pointAt_38 a0 a1 200 0 0 ((f_Mo_throwing ar sc 1 0 0).2.1) ((f_Mo_throwing ar sc 1 0 0).2.2)).2.2.2)
              else
                ((g_Mo_pointAt_38 a0 a1 200 0 0 ((f_Mo_throwing ar sc 1 0 0).2.1) ((f_Mo_throwing ar sc 1 0 0).2.2)).1, (g_Mo_pointAt_38 a0 a1 200 0 0 ((f_Mo_throwing ar sc 1 0 0).2.1) ((f_Mo_throwing ar sc 1 0 0).2.2)).2.2.1, (g_Mo_pointAt_38 a0 a1 200 0 0 ((f_Mo_throwing ar sc 1 0 0).2.1) ((f_Mo_throwing ar sc 1 0 0).2.2)).2.2.2)
      else
        (0, (f_Mo_throwing ar sc 1 0 0).2.1, (f_Mo_throwing ar sc 1 0 0).2.2)
    else
      if ((f_Mo_throwing ar sc 0 0 0).1) = 0 then
        if a1 = 0 then
          (f_Mo_riskOf ((g_Mo_pointAt_38 a0 a1 200 0 0 ((f_Mo_throwing ar sc 0 0 0).2.1) ((f_Mo_throwing ar sc 0 0 0).2.2)).2.2.1) ((g_Mo_pointAt_38 a0 a1 200 0 0 ((f_Mo_throwing ar sc 0 0 0).2.1) ((f_Mo_throwing ar sc 0 0 0).2.2)).2.2.2) a0, (g_Mo_pointAt_38 a0 a1 200 0 0 ((f_Mo_throwing ar sc 0 0 0).2.1) ((f_Mo_throwing ar sc 0 0 0).2.2)).2.2.1, (g_Mo_pointAt_38 a0 a1 200 0 0 ((f_Mo_throwing ar sc 0 0 0).2.1) ((f_Mo_throwing ar sc 0 0 0).2.2)).2.2.2)
        else
          if a1 = 1 then
            (f_Mo_classOf ((g_Mo_pointAt_38 a0 a1 200 0 0 ((f_Mo_throwing ar sc 0 0 0).2.1) ((f_Mo_throwing ar sc 0 0 0).2.2)).2.2.1) ((g_Mo_pointAt_38 a0 a1 200 0 0 ((f_Mo_throwing ar sc 0 0 0).2.1) ((f_Mo_throwing ar sc 0 0 0).2.2)).2.2.2) a0, (g_Mo_pointAt_38 a0 a1 200 0 0 ((f_Mo_throwing ar sc 0 0 0).2.1) ((f_Mo_throwing ar sc 0 0 0).2.2)).2.2.1, (g_Mo_pointAt_38 a0 a1 200 0 0 ((f_Mo_throwing ar sc 0 0 0).2.1) ((f_Mo_throwing ar sc 0 0 0).2.2)).2.2.2)
          else
            if a1 = 2 then
              (((g_Mo_pointAt_38 a0 a1 200 0 0 ((f_Mo_throwing ar sc 0 0 0).2.1) ((f_Mo_throwing ar sc 0 0 0).2.2)).2.2.1) 10 a0.toNatClampNeg, (g_Mo_pointAt_38 a0 a1 200 0 0 ((f_Mo_throwing ar sc 0 0 0).2.1) ((f_Mo_throwing ar sc 0 0 0).2.2)).2.2.1, (g_Mo_pointAt_38 a0 a1 200 0 0 ((f_Mo_throwing ar sc 0 0 0).2.1) ((f_Mo_throwing ar sc 0 0 0).2.2)).2.2.2)
            else
              if a1 = 3 then
                (f_Mo_dueFrom ((g_Mo_pointAt_38 a0 a1 200 0 0 ((f_Mo_throwing ar sc 0 0 0).2.1) ((f_Mo_throwing ar sc 0 0 0).2.2)).2.2.1) ((g_Mo_pointAt_38 a0 a1 200 0 0 ((f_Mo_throwing ar sc 0 0 0).2.1) ((f_Mo_throwing ar sc 0 0 0).2.2)).2.2.2) a0, (g_Mo_pointAt_38 a0 a1 200 0 0 ((f_Mo_throwing ar sc 0 0 0).2.1) ((f_Mo_throwing ar sc 0 0 0).2.2)).2.2.1, (g_Mo_pointAt_38 a0 a1 200 0 0 ((f_Mo_throwing ar sc 0 0 0).2.1) ((f_Mo_throwing ar sc 0 0 0).2.2)).2.2.2)
              else
                ((g_Mo_pointAt_38 a0 a1 200 0 0 ((f_Mo_throwing ar sc 0 0 0).2.1) ((f_Mo_throwing ar sc 0 0 0).2.2)).1, (g_Mo_pointAt_38 a0 a1 200 0 0 ((f_Mo_throwing ar sc 0 0 0).2.1) ((f_Mo_throwing ar sc 0 0 0).2.2)).2.2.1, (g_Mo_pointAt_38 a0 a1 200 0 0 ((f_Mo_throwing ar sc 0 0 0).2.1) ((f_Mo_throwing ar sc 0 0 0).2.2)).2.2.2)
      else
        (0, (f_Mo_throwing ar sc 0 0 0).2.1, (f_Mo_throwing ar sc 0 0 0).2.2)
def p_Mo_pointAt (ar : Nat → Nat → Int32) (sc : Nat → Int32) (a0 : Int32) (a1 : Int32) : Prop :=
  ((f_Mo_isPoint ar sc a0) = 0 → ((((f_Mo_throwing ar sc 1 0 0).1) = 0 → ((q_Mo_pointAt_38 a0 a1 200 0 0 ((f_Mo_throwing ar sc 1 0 0).2.1) ((f_Mo_throwing ar sc 1 0 0).2.2)) ∧ ((a1 = 0 → (p_Mo_riskOf ((g_Mo_pointAt_38 a0 a1 200 0 0 ((f_Mo_throwing ar sc 1 0 0).2.1) ((f_Mo_throwing ar sc 1 0 0).2.2)).2.2.1) ((g_Mo_pointAt_38 a0 a1 200 0 0 ((f_Mo_throwing ar sc 1 0 0).2.1) ((f_Mo_throwing ar sc 1 0 0).2.2)).2.2.2) a0)) ∧ (¬ (a1 = 0) → ((a1 = 1 → (p_Mo_classOf ((g_Mo_pointAt_38 a0 a1 200 0 0 ((f_Mo_throwing ar sc 1 0 0).2.1) ((f_Mo_throwing ar sc 1 0 0).2.2)).2.2.1) ((g_Mo_pointAt_38 a0 a1 200 0 0 ((f_Mo_throwing ar sc 1 0 0).2.1) ((f_Mo_throwing ar sc 1 0 0).2.2)).2.2.2) a0)) ∧ (¬ (a1 = 1) → ((a1 = 2 → (vp_in a0 30)) ∧ (¬ (a1 = 2) → ((a1 = 3 → (p_Mo_dueFrom ((g_Mo_pointAt_38 a0 a1 200 0 0 ((f_Mo_throwing ar sc 1 0 0).2.1) ((f_Mo_throwing ar sc 1 0 0).2.2)).2.2.1) ((g_Mo_pointAt_38 a0 a1 200 0 0 ((f_Mo_throwing ar sc 1 0 0).2.1) ((f_Mo_throwing ar sc 1 0 0).2.2)).2.2.2) a0)) ∧ (¬ (a1 = 3) → True)))))))))) ∧ (¬ (((f_Mo_throwing ar sc 1 0 0).1) = 0) → True))) ∧ (¬ ((f_Mo_isPoint ar sc a0) = 0) → (((f_Mo_in a1 0 4) = 0 → ((((f_Mo_throwing ar sc 1 0 0).1) = 0 → ((q_Mo_pointAt_38 a0 a1 200 0 0 ((f_Mo_throwing ar sc 1 0 0).2.1) ((f_Mo_throwing ar sc 1 0 0).2.2)) ∧ ((a1 = 0 → (p_Mo_riskOf ((g_Mo_pointAt_38 a0 a1 200 0 0 ((f_Mo_throwing ar sc 1 0 0).2.1) ((f_Mo_throwing ar sc 1 0 0).2.2)).2.2.1) ((g_Mo_pointAt_38 a0 a1 200 0 0 ((f_Mo_throwing ar sc 1 0 0).2.1) ((f_Mo_throwing ar sc 1 0 0).2.2)).2.2.2) a0)) ∧ (¬ (a1 = 0) → ((a1 = 1 → (p_Mo_classOf ((g_Mo_pointAt_38 a0 a1 200 0 0 ((f_Mo_throwing ar sc 1 0 0).2.1) ((f_Mo_throwing ar sc 1 0 0).2.2)).2.2.1) ((g_Mo_pointAt_38 a0 a1 200 0 0 ((f_Mo_throwing ar sc 1 0 0).2.1) ((f_Mo_throwing ar sc 1 0 0).2.2)).2.2.2) a0)) ∧ (¬ (a1 = 1) → ((a1 = 2 → (vp_in a0 30)) ∧ (¬ (a1 = 2) → ((a1 = 3 → (p_Mo_dueFrom ((g_Mo_pointAt_38 a0 a1 200 0 0 ((f_Mo_throwing ar sc 1 0 0).2.1) ((f_Mo_throwing ar sc 1 0 0).2.2)).2.2.1) ((g_Mo_pointAt_38 a0 a1 200 0 0 ((f_Mo_throwing ar sc 1 0 0).2.1) ((f_Mo_throwing ar sc 1 0 0).2.2)).2.2.2) a0)) ∧ (¬ (a1 = 3) → True)))))))))) ∧ (¬ (((f_Mo_throwing ar sc 1 0 0).1) = 0) → True))) ∧ (¬ ((f_Mo_in a1 0 4) = 0) → ((((f_Mo_throwing ar sc 0 0 0).1) = 0 → ((q_Mo_pointAt_38 a0 a1 200 0 0 ((f_Mo_throwing ar sc 0 0 0).2.1) ((f_Mo_throwing ar sc 0 0 0).2.2)) ∧ ((a1 = 0 → (p_Mo_riskOf ((g_Mo_pointAt_38 a0 a1 200 0 0 ((f_Mo_throwing ar sc 0 0 0).2.1) ((f_Mo_throwing ar sc 0 0 0).2.2)).2.2.1) ((g_Mo_pointAt_38 a0 a1 200 0 0 ((f_Mo_throwing ar sc 0 0 0).2.1) ((f_Mo_throwing ar sc 0 0 0).2.2)).2.2.2) a0)) ∧ (¬ (a1 = 0) → ((a1 = 1 → (p_Mo_classOf ((g_Mo_pointAt_38 a0 a1 200 0 0 ((f_Mo_throwing ar sc 0 0 0).2.1) ((f_Mo_throwing ar sc 0 0 0).2.2)).2.2.1) ((g_Mo_pointAt_38 a0 a1 200 0 0 ((f_Mo_throwing ar sc 0 0 0).2.1) ((f_Mo_throwing ar sc 0 0 0).2.2)).2.2.2) a0)) ∧ (¬ (a1 = 1) → ((a1 = 2 → (vp_in a0 30)) ∧ (¬ (a1 = 2) → ((a1 = 3 → (p_Mo_dueFrom ((g_Mo_pointAt_38 a0 a1 200 0 0 ((f_Mo_throwing ar sc 0 0 0).2.1) ((f_Mo_throwing ar sc 0 0 0).2.2)).2.2.1) ((g_Mo_pointAt_38 a0 a1 200 0 0 ((f_Mo_throwing ar sc 0 0 0).2.1) ((f_Mo_throwing ar sc 0 0 0).2.2)).2.2.2) a0)) ∧ (¬ (a1 = 3) → True)))))))))) ∧ (¬ (((f_Mo_throwing ar sc 0 0 0).1) = 0) → True)))))
def g_Mo_due_49 (a0 : Int32) (a1 : Int32) (u3 : Int32) : Nat → Int32 → Int32 → (Nat → Nat → Int32) → (Nat → Int32) → Int32 × Int32 × (Nat → Nat → Int32) × (Nat → Int32)
  | 0, v4, v5, ar, sc => (v4, v5, ar, sc)
  | n + 1, v4, v5, ar, sc =>
    if (sc 2) ≤ v5 then
      (v4, v5, ar, sc)
    else
      if v5 = u3 then
        g_Mo_due_49 a0 a1 u3 n (v4 + 0) (v5 + 1) ar sc
      else
        if a0 < (f_Mo_dueFrom ar sc v5) then
          g_Mo_due_49 a0 a1 u3 n (v4 + 0) (v5 + 1) ar sc
        else
          if (f_Mo_isAhead ar sc v5 u3) = 0 then
            g_Mo_due_49 a0 a1 u3 n (v4 + 0) (v5 + 1) ar sc
          else
            g_Mo_due_49 a0 a1 u3 n (v4 + 1) (v5 + 1) ar sc
def q_Mo_due_49 (a0 : Int32) (a1 : Int32) (u3 : Int32) : Nat → Int32 → Int32 → (Nat → Nat → Int32) → (Nat → Int32) → Prop
  | 0, _, _, _, _ => False
  | n + 1, v4, v5, ar, sc =>
    ((sc 2) ≤ v5 → True) ∧ (¬ ((sc 2) ≤ v5) → ((v5 = u3 → (q_Mo_due_49 a0 a1 u3 n (v4 + 0) (v5 + 1) ar sc)) ∧ (¬ (v5 = u3) → ((p_Mo_dueFrom ar sc v5) ∧ ((a0 < (f_Mo_dueFrom ar sc v5) → (q_Mo_due_49 a0 a1 u3 n (v4 + 0) (v5 + 1) ar sc)) ∧ (¬ (a0 < (f_Mo_dueFrom ar sc v5)) → ((p_Mo_isAhead ar sc v5 u3) ∧ (((f_Mo_isAhead ar sc v5 u3) = 0 → (q_Mo_due_49 a0 a1 u3 n (v4 + 0) (v5 + 1) ar sc)) ∧ (¬ ((f_Mo_isAhead ar sc v5 u3) = 0) → (q_Mo_due_49 a0 a1 u3 n (v4 + 1) (v5 + 1) ar sc))))))))))
def g_Mo_due_35 (a0 : Int32) (a1 : Int32)  : Nat → Int32 → (Nat → Nat → Int32) → (Nat → Int32) → Int32 × (Nat → Nat → Int32) × (Nat → Int32)
  | 0, v3, ar, sc => (0, ar, sc)
  | n + 1, v3, ar, sc =>
    if (sc 2) ≤ v3 then
      ((-1), ar, sc)
    else
      if a0 < (f_Mo_dueFrom ((g_Mo_due_49 a0 a1 v3 200 0 0 ar sc).2.2.1) ((g_Mo_due_49 a0 a1 v3 200 0 0 ar sc).2.2.2) v3) then
        g_Mo_due_35 a0 a1 n (v3 + 1) ((g_Mo_due_49 a0 a1 v3 200 0 0 ar sc).2.2.1) ((g_Mo_due_49 a0 a1 v3 200 0 0 ar sc).2.2.2)
      else
        if ((g_Mo_due_49 a0 a1 v3 200 0 0 ar sc).1) = a1 then
          (v3, (g_Mo_due_49 a0 a1 v3 200 0 0 ar sc).2.2.1, (g_Mo_due_49 a0 a1 v3 200 0 0 ar sc).2.2.2)
        else
          g_Mo_due_35 a0 a1 n (v3 + 1) ((g_Mo_due_49 a0 a1 v3 200 0 0 ar sc).2.2.1) ((g_Mo_due_49 a0 a1 v3 200 0 0 ar sc).2.2.2)
def q_Mo_due_35 (a0 : Int32) (a1 : Int32)  : Nat → Int32 → (Nat → Nat → Int32) → (Nat → Int32) → Prop
  | 0, _, _, _ => False
  | n + 1, v3, ar, sc =>
    ((sc 2) ≤ v3 → True) ∧ (¬ ((sc 2) ≤ v3) → ((q_Mo_due_49 a0 a1 v3 200 0 0 ar sc) ∧ ((p_Mo_dueFrom ((g_Mo_due_49 a0 a1 v3 200 0 0 ar sc).2.2.1) ((g_Mo_due_49 a0 a1 v3 200 0 0 ar sc).2.2.2) v3) ∧ ((a0 < (f_Mo_dueFrom ((g_Mo_due_49 a0 a1 v3 200 0 0 ar sc).2.2.1) ((g_Mo_due_49 a0 a1 v3 200 0 0 ar sc).2.2.2) v3) → (q_Mo_due_35 a0 a1 n (v3 + 1) ((g_Mo_due_49 a0 a1 v3 200 0 0 ar sc).2.2.1) ((g_Mo_due_49 a0 a1 v3 200 0 0 ar sc).2.2.2))) ∧ (¬ (a0 < (f_Mo_dueFrom ((g_Mo_due_49 a0 a1 v3 200 0 0 ar sc).2.2.1) ((g_Mo_due_49 a0 a1 v3 200 0 0 ar sc).2.2.2) v3)) → ((((g_Mo_due_49 a0 a1 v3 200 0 0 ar sc).1) = a1 → True) ∧ (¬ (((g_Mo_due_49 a0 a1 v3 200 0 0 ar sc).1) = a1) → (q_Mo_due_35 a0 a1 n (v3 + 1) ((g_Mo_due_49 a0 a1 v3 200 0 0 ar sc).2.2.1) ((g_Mo_due_49 a0 a1 v3 200 0 0 ar sc).2.2.2)))))))))
def f_Mo_due (ar : Nat → Nat → Int32) (sc : Nat → Int32) (a0 : Int32) (a1 : Int32) : Int32 × (Nat → Nat → Int32) × (Nat → Int32) :=
  if (f_Mo_in a0 (sc 1) 99999) = 0 then
    if ((f_Mo_throwing ar sc 1 0 0).1) = 0 then
      g_Mo_due_35 a0 a1 200 0 ((f_Mo_throwing ar sc 1 0 0).2.1) ((f_Mo_throwing ar sc 1 0 0).2.2)
    else
      (0, (f_Mo_throwing ar sc 1 0 0).2.1, (f_Mo_throwing ar sc 1 0 0).2.2)
  else
    if 0 ≤ a1 then
      if ((f_Mo_throwing ar sc 0 0 0).1) = 0 then
        g_Mo_due_35 a0 a1 200 0 ((f_Mo_throwing ar sc 0 0 0).2.1) ((f_Mo_throwing ar sc 0 0 0).2.2)
      else
        (0, (f_Mo_throwing ar sc 0 0 0).2.1, (f_Mo_throwing ar sc 0 0 0).2.2)
    else
      if ((f_Mo_throwing ar sc 1 0 0).1) = 0 then
        g_Mo_due_35 a0 a1 200 0 ((f_Mo_throwing ar sc 1 0 0).2.1) ((f_Mo_throwing ar sc 1 0 0).2.2)
      else
        (0, (f_Mo_throwing ar sc 1 0 0).2.1, (f_Mo_throwing ar sc 1 0 0).2.2)
def p_Mo_due (ar : Nat → Nat → Int32) (sc : Nat → Int32) (a0 : Int32) (a1 : Int32) : Prop :=
  ((f_Mo_in a0 (sc 1) 99999) = 0 → ((((f_Mo_throwing ar sc 1 0 0).1) = 0 → (q_Mo_due_35 a0 a1 200 0 ((f_Mo_throwing ar sc 1 0 0).2.1) ((f_Mo_throwing ar sc 1 0 0).2.2))) ∧ (¬ (((f_Mo_throwing ar sc 1 0 0).1) = 0) → True))) ∧ (¬ ((f_Mo_in a0 (sc 1) 99999) = 0) → ((0 ≤ a1 → ((((f_Mo_throwing ar sc 0 0 0).1) = 0 → (q_Mo_due_35 a0 a1 200 0 ((f_Mo_throwing ar sc 0 0 0).2.1) ((f_Mo_throwing ar sc 0 0 0).2.2))) ∧ (¬ (((f_Mo_throwing ar sc 0 0 0).1) = 0) → True))) ∧ (¬ (0 ≤ a1) → ((((f_Mo_throwing ar sc 1 0 0).1) = 0 → (q_Mo_due_35 a0 a1 200 0 ((f_Mo_throwing ar sc 1 0 0).2.1) ((f_Mo_throwing ar sc 1 0 0).2.2))) ∧ (¬ (((f_Mo_throwing ar sc 1 0 0).1) = 0) → True)))))
def f_Mo_question (ar : Nat → Nat → Int32) (sc : Nat → Int32) (a0 : Int32) (a1 : Int32) (a2 : Int32) (a3 : Int32) : (Nat → Nat → Int32) × (Nat → Int32) :=
  if a1 = (-1) then
    if a2 = (-1) then
      if (f_Mo_in a3 0 50) = 0 then
        if (f_Mo_in a0 0 15) = 0 then
          if ((f_Mo_throwing ar sc 1 1 0).1) = 0 then
            (s2 (s2 (s2 (s2 ((f_Mo_throwing ar sc 1 1 0).2.1) 15 a0.toNatClampNeg (vp_nar .boolean 1)) 16 a0.toNatClampNeg a1) 17 a0.toNatClampNeg a2) 18 a0.toNatClampNeg a3, (f_Mo_throwing ar sc 1 1 0).2.2)
          else
            ((f_Mo_throwing ar sc 1 1 0).2.1, (f_Mo_throwing ar sc 1 1 0).2.2)
        else
          if ((f_Mo_throwing ar sc 0 1 0).1) = 0 then
            (s2 (s2 (s2 (s2 ((f_Mo_throwing ar sc 0 1 0).2.1) 15 a0.toNatClampNeg (vp_nar .boolean 1)) 16 a0.toNatClampNeg a1) 17 a0.toNatClampNeg a2) 18 a0.toNatClampNeg a3, (f_Mo_throwing ar sc 0 1 0).2.2)
          else
            ((f_Mo_throwing ar sc 0 1 0).2.1, (f_Mo_throwing ar sc 0 1 0).2.2)
      else
        if (f_Mo_in a0 0 15) = 0 then
          if ((f_Mo_throwing ar sc 1 0 0).1) = 0 then
            (s2 (s2 (s2 (s2 ((f_Mo_throwing ar sc 1 0 0).2.1) 15 a0.toNatClampNeg (vp_nar .boolean 1)) 16 a0.toNatClampNeg a1) 17 a0.toNatClampNeg a2) 18 a0.toNatClampNeg a3, (f_Mo_throwing ar sc 1 0 0).2.2)
          else
            ((f_Mo_throwing ar sc 1 0 0).2.1, (f_Mo_throwing ar sc 1 0 0).2.2)
        else
          if ((f_Mo_throwing ar sc 0 0 0).1) = 0 then
            (s2 (s2 (s2 (s2 ((f_Mo_throwing ar sc 0 0 0).2.1) 15 a0.toNatClampNeg (vp_nar .boolean 1)) 16 a0.toNatClampNeg a1) 17 a0.toNatClampNeg a2) 18 a0.toNatClampNeg a3, (f_Mo_throwing ar sc 0 0 0).2.2)
          else
            ((f_Mo_throwing ar sc 0 0 0).2.1, (f_Mo_throwing ar sc 0 0 0).2.2)
    else
      if (f_Mo_in a2 (a0 + 1) 15) = 0 then
        if (f_Mo_in a0 0 15) = 0 then
          if ((f_Mo_throwing ar sc 1 1 0).1) = 0 then
            (s2 (s2 (s2 (s2 ((f_Mo_throwing ar sc 1 1 0).2.1) 15 a0.toNatClampNeg (vp_nar .boolean 1)) 16 a0.toNatClampNeg a1) 17 a0.toNatClampNeg a2) 18 a0.toNatClampNeg a3, (f_Mo_throwing ar sc 1 1 0).2.2)
          else
            ((f_Mo_throwing ar sc 1 1 0).2.1, (f_Mo_throwing ar sc 1 1 0).2.2)
        else
          if ((f_Mo_throwing ar sc 0 1 0).1) = 0 then
            (s2 (s2 (s2 (s2 ((f_Mo_throwing ar sc 0 1 0).2.1) 15 a0.toNatClampNeg (vp_nar .boolean 1)) 16 a0.toNatClampNeg a1) 17 a0.toNatClampNeg a2) 18 a0.toNatClampNeg a3, (f_Mo_throwing ar sc 0 1 0).2.2)
          else
            ((f_Mo_throwing ar sc 0 1 0).2.1, (f_Mo_throwing ar sc 0 1 0).2.2)
      else
        if (f_Mo_in a3 0 50) = 0 then
          if (f_Mo_in a0 0 15) = 0 then
            if ((f_Mo_throwing ar sc 1 1 0).1) = 0 then
              (s2 (s2 (s2 (s2 ((f_Mo_throwing ar sc 1 1 0).2.1) 15 a0.toNatClampNeg (vp_nar .boolean 1)) 16 a0.toNatClampNeg a1) 17 a0.toNatClampNeg a2) 18 a0.toNatClampNeg a3, (f_Mo_throwing ar sc 1 1 0).2.2)
            else
              ((f_Mo_throwing ar sc 1 1 0).2.1, (f_Mo_throwing ar sc 1 1 0).2.2)
          else
            if ((f_Mo_throwing ar sc 0 1 0).1) = 0 then
              (s2 (s2 (s2 (s2 ((f_Mo_throwing ar sc 0 1 0).2.1) 15 a0.toNatClampNeg (vp_nar .boolean 1)) 16 a0.toNatClampNeg a1) 17 a0.toNatClampNeg a2) 18 a0.toNatClampNeg a3, (f_Mo_throwing ar sc 0 1 0).2.2)
            else
              ((f_Mo_throwing ar sc 0 1 0).2.1, (f_Mo_throwing ar sc 0 1 0).2.2)
        else
          if (f_Mo_in a0 0 15) = 0 then
            if ((f_Mo_throwing ar sc 1 0 0).1) = 0 then
              (s2 (s2 (s2 (s2 ((f_Mo_throwing ar sc 1 0 0).2.1) 15 a0.toNatClampNeg (vp_nar .boolean 1)) 16 a0.toNatClampNeg a1) 17 a0.toNatClampNeg a2) 18 a0.toNatClampNeg a3, (f_Mo_throwing ar sc 1 0 0).2.2)
            else
              ((f_Mo_throwing ar sc 1 0 0).2.1, (f_Mo_throwing ar sc 1 0 0).2.2)
          else
            if ((f_Mo_throwing ar sc 0 0 0).1) = 0 then
              (s2 (s2 (s2 (s2 ((f_Mo_throwing ar sc 0 0 0).2.1) 15 a0.toNatClampNeg (vp_nar .boolean 1)) 16 a0.toNatClampNeg a1) 17 a0.toNatClampNeg a2) 18 a0.toNatClampNeg a3, (f_Mo_throwing ar sc 0 0 0).2.2)
            else
              ((f_Mo_throwing ar sc 0 0 0).2.1, (f_Mo_throwing ar sc 0 0 0).2.2)
  else
    if (f_Mo_in a1 (a0 + 1) 15) = 0 then
      if (f_Mo_in a0 0 15) = 0 then
        if ((f_Mo_throwing ar sc 1 1 0).1) = 0 then
          (s2 (s2 (s2 (s2 ((f_Mo_throwing ar sc 1 1 0).2.1) 15 a0.toNatClampNeg (vp_nar .boolean 1)) 16 a0.toNatClampNeg a1) 17 a0.toNatClampNeg a2) 18 a0.toNatClampNeg a3, (f_Mo_throwing ar sc 1 1 0).2.2)
        else
          ((f_Mo_throwing ar sc 1 1 0).2.1, (f_Mo_throwing ar sc 1 1 0).2.2)
      else
        if ((f_Mo_throwing ar sc 0 1 0).1) = 0 then
          (s2 (s2 (s2 (s2 ((f_Mo_throwing ar sc 0 1 0).2.1) 15 a0.toNatClampNeg (vp_nar .boolean 1)) 16 a0.toNatClampNeg a1) 17 a0.toNatClampNeg a2) 18 a0.toNatClampNeg a3, (f_Mo_throwing ar sc 0 1 0).2.2)
        else
          ((f_Mo_throwing ar sc 0 1 0).2.1, (f_Mo_throwing ar sc 0 1 0).2.2)
    else
      if a2 = (-1) then
        if (f_Mo_in a3 0 50) = 0 then
          if (f_Mo_in a0 0 15) = 0 then
            if ((f_Mo_throwing ar sc 1 1 0).1) = 0 then
              (s2 (s2 (s2 (s2 ((f_Mo_throwing ar sc 1 1 0).2.1) 15 a0.toNatClampNeg (vp_nar .boolean 1)) 16 a0.toNatClampNeg a1) 17 a0.toNatClampNeg a2) 18 a0.toNatClampNeg a3, (f_Mo_throwing ar sc 1 1 0).2.2)
            else
              ((f_Mo_throwing ar sc 1 1 0).2.1, (f_Mo_throwing ar sc 1 1 0).2.2)
          else
            if ((f_Mo_throwing ar sc 0 1 0).1) = 0 then
              (s2 (s2 (s2 (s2 ((f_Mo_throwing ar sc 0 1 0).2.1) 15 a0.toNatClampNeg (vp_nar .boolean 1)) 16 a0.toNatClampNeg a1) 17 a0.toNatClampNeg a2) 18 a0.toNatClampNeg a3, (f_Mo_throwing ar sc 0 1 0).2.2)
            else
              ((f_Mo_throwing ar sc 0 1 0).2.1, (f_Mo_throwing ar sc 0 1 0).2.2)
        else
          if (f_Mo_in a0 0 15) = 0 then
            if ((f_Mo_throwing ar sc 1 0 0).1) = 0 then
              (s2 (s2 (s2 (s2 ((f_Mo_throwing ar sc 1 0 0).2.1) 15 a0.toNatClampNeg (vp_nar .boolean 1)) 16 a0.toNatClampNeg a1) 17 a0.toNatClampNeg a2) 18 a0.toNatClampNeg a3, (f_Mo_throwing ar sc 1 0 0).2.2)
            else
              ((f_Mo_throwing ar sc 1 0 0).2.1, (f_Mo_throwing ar sc 1 0 0).2.2)
          else
            if ((f_Mo_throwing ar sc 0 0 0).1) = 0 then
              (s2 (s2 (s2 (s2 ((f_Mo_throwing ar sc 0 0 0).2.1) 15 a0.toNatClampNeg (vp_nar .boolean 1)) 16 a0.toNatClampNeg a1) 17 a0.toNatClampNeg a2) 18 a0.toNatClampNeg a3, (f_Mo_throwing ar sc 0 0 0).2.2)
            else
              ((f_Mo_throwing ar sc 0 0 0).2.1, (f_Mo_throwing ar sc 0 0 0).2.2)
      else
        if (f_Mo_in a2 (a0 + 1) 15) = 0 then
          if (f_Mo_in a0 0 15) = 0 then
            if ((f_Mo_throwing ar sc 1 1 0).1) = 0 then
              (s2 (s2 (s2 (s2 ((f_Mo_throwing ar sc 1 1 0).2.1) 15 a0.toNatClampNeg (vp_nar .boolean 1)) 16 a0.toNatClampNeg a1) 17 a0.toNatClampNeg a2) 18 a0.toNatClampNeg a3, (f_Mo_throwing ar sc 1 1 0).2.2)
            else
              ((f_Mo_throwing ar sc 1 1 0).2.1, (f_Mo_throwing ar sc 1 1 0).2.2)
          else
            if ((f_Mo_throwing ar sc 0 1 0).1) = 0 then
              (s2 (s2 (s2 (s2 ((f_Mo_throwing ar sc 0 1 0).2.1) 15 a0.toNatClampNeg (vp_nar .boolean 1)) 16 a0.toNatClampNeg a1) 17 a0.toNatClampNeg a2) 18 a0.toNatClampNeg a3, (f_Mo_throwing ar sc 0 1 0).2.2)
            else
              ((f_Mo_throwing ar sc 0 1 0).2.1, (f_Mo_throwing ar sc 0 1 0).2.2)
        else
          if (f_Mo_in a3 0 50) = 0 then
            if (f_Mo_in a0 0 15) = 0 then
              if ((f_Mo_throwing ar sc 1 1 0).1) = 0 then
                (s2 (s2 (s2 (s2 ((f_Mo_throwing ar sc 1 1 0).2.1) 15 a0.toNatClampNeg (vp_nar .boolean 1)) 16 a0.toNatClampNeg a1) 17 a0.toNatClampNeg a2) 18 a0.toNatClampNeg a3, (f_Mo_throwing ar sc 1 1 0).2.2)
              else
                ((f_Mo_throwing ar sc 1 1 0).2.1, (f_Mo_throwing ar sc 1 1 0).2.2)
            else
              if ((f_Mo_throwing ar sc 0 1 0).1) = 0 then
                (s2 (s2 (s2 (s2 ((f_Mo_throwing ar sc 0 1 0).2.1) 15 a0.toNatClampNeg (vp_nar .boolean 1)) 16 a0.toNatClampNeg a1) 17 a0.toNatClampNeg a2) 18 a0.toNatClampNeg a3, (f_Mo_throwing ar sc 0 1 0).2.2)
              else
                ((f_Mo_throwing ar sc 0 1 0).2.1, (f_Mo_throwing ar sc 0 1 0).2.2)
          else
            if (f_Mo_in a0 0 15) = 0 then
              if ((f_Mo_throwing ar sc 1 0 0).1) = 0 then
                (s2 (s2 (s2 (s2 ((f_Mo_throwing ar sc 1 0 0).2.1) 15 a0.toNatClampNeg (vp_nar .boolean 1)) 16 a0.toNatClampNeg a1) 17 a0.toNatClampNeg a2) 18 a0.toNatClampNeg a3, (f_Mo_throwing ar sc 1 0 0).2.2)
              else
                ((f_Mo_throwing ar sc 1 0 0).2.1, (f_Mo_throwing ar sc 1 0 0).2.2)
            else
              if ((f_Mo_throwing ar sc 0 0 0).1) = 0 then
                (s2 (s2 (s2 (s2 ((f_Mo_throwing ar sc 0 0 0).2.1) 15 a0.toNatClampNeg (vp_nar .boolean 1)) 16 a0.toNatClampNeg a1) 17 a0.toNatClampNeg a2) 18 a0.toNatClampNeg a3, (f_Mo_throwing ar sc 0 0 0).2.2)
              else
                ((f_Mo_throwing ar sc 0 0 0).2.1, (f_Mo_throwing ar sc 0 0 0).2.2)
def p_Mo_question (ar : Nat → Nat → Int32) (sc : Nat → Int32) (a0 : Int32) (a1 : Int32) (a2 : Int32) (a3 : Int32) : Prop :=
  (a1 = (-1) → ((a2 = (-1) → (((f_Mo_in a3 0 50) = 0 → (((f_Mo_in a0 0 15) = 0 → ((((f_Mo_throwing ar sc 1 1 0).1) = 0 → ((vp_in a0 16) ∧ ((vp_in a0 16) ∧ ((vp_in a0 16) ∧ (vp_in a0 16))))) ∧ (¬ (((f_Mo_throwing ar sc 1 1 0).1) = 0) → True))) ∧ (¬ ((f_Mo_in a0 0 15) = 0) → ((((f_Mo_throwing ar sc 0 1 0).1) = 0 → ((vp_in a0 16) ∧ ((vp_in a0 16) ∧ ((vp_in a0 16) ∧ (vp_in a0 16))))) ∧ (¬ (((f_Mo_throwing ar sc 0 1 0).1) = 0) → True))))) ∧ (¬ ((f_Mo_in a3 0 50) = 0) → (((f_Mo_in a0 0 15) = 0 → ((((f_Mo_throwing ar sc 1 0 0).1) = 0 → ((vp_in a0 16) ∧ ((vp_in a0 16) ∧ ((vp_in a0 16) ∧ (vp_in a0 16))))) ∧ (¬ (((f_Mo_throwing ar sc 1 0 0).1) = 0) → True))) ∧ (¬ ((f_Mo_in a0 0 15) = 0) → ((((f_Mo_throwing ar sc 0 0 0).1) = 0 → ((vp_in a0 16) ∧ ((vp_in a0 16) ∧ ((vp_in a0 16) ∧ (vp_in a0 16))))) ∧ (¬ (((f_Mo_throwing ar sc 0 0 0).1) = 0) → True))))))) ∧ (¬ (a2 = (-1)) → (((f_Mo_in a2 (a0 + 1) 15) = 0 → (((f_Mo_in a0 0 15) = 0 → ((((f_Mo_throwing ar sc 1 1 0).1) = 0 → ((vp_in a0 16) ∧ ((vp_in a0 16) ∧ ((vp_in a0 16) ∧ (vp_in a0 16))))) ∧ (¬ (((f_Mo_throwing ar sc 1 1 0).1) = 0) → True))) ∧ (¬ ((f_Mo_in a0 0 15) = 0) → ((((f_Mo_throwing ar sc 0 1 0).1) = 0 → ((vp_in a0 16) ∧ ((vp_in a0 16) ∧ ((vp_in a0 16) ∧ (vp_in a0 16))))) ∧ (¬ (((f_Mo_throwing ar sc 0 1 0).1) = 0) → True))))) ∧ (¬ ((f_Mo_in a2 (a0 + 1) 15) = 0) → (((f_Mo_in a3 0 50) = 0 → (((f_Mo_in a0 0 15) = 0 → ((((f_Mo_throwing ar sc 1 1 0).1) = 0 → ((vp_in a0 16) ∧ ((vp_in a0 16) ∧ ((vp_in a0 16) ∧ (vp_in a0 16))))) ∧ (¬ (((f_Mo_throwing ar sc 1 1 0).1) = 0) → True))) ∧ (¬ ((f_Mo_in a0 0 15) = 0) → ((((f_Mo_throwing ar sc 0 1 0).1) = 0 → ((vp_in a0 16) ∧ ((vp_in a0 16) ∧ ((vp_in a0 16) ∧ (vp_in a0 16))))) ∧ (¬ (((f_Mo_throwing ar sc 0 1 0).1) = 0) → True))))) ∧ (¬ ((f_Mo_in a3 0 50) = 0) → (((f_Mo_in a0 0 15) = 0 → ((((f_Mo_throwing ar sc 1 0 0).1) = 0 → ((vp_in a0 16) ∧ ((vp_in a0 16) ∧ ((vp_in a0 16) ∧ (vp_in a0 16))))) ∧ (¬ (((f_Mo_throwing ar sc 1 0 0).1) = 0) → True))) ∧ (¬ ((f_Mo_in a0 0 15) = 0) → ((((f_Mo_throwing ar sc 0 0 0).1) = 0 → ((vp_in a0 16) ∧ ((vp_in a0 16) ∧ ((vp_in a0 16) ∧ (vp_in a0 16))))) ∧ (¬ (((f_Mo_throwing ar sc 0 0 0).1) = 0) → True))))))))))) ∧ (¬ (a1 = (-1)) → (((f_Mo_in a1 (a0 + 1) 15) = 0 → (((f_Mo_in a0 0 15) = 0 → ((((f_Mo_throwing ar sc 1 1 0).1) = 0 → ((vp_in a0 16) ∧ ((vp_in a0 16) ∧ ((vp_in a0 16) ∧ (vp_in a0 16))))) ∧ (¬ (((f_Mo_throwing ar sc 1 1 0).1) = 0) → True))) ∧ (¬ ((f_Mo_in a0 0 15) = 0) → ((((f_Mo_throwing ar sc 0 1 0).1) = 0 → ((vp_in a0 16) ∧ ((vp_in a0 16) ∧ ((vp_in a0 16) ∧ (vp_in a0 16))))) ∧ (¬ (((f_Mo_throwing ar sc 0 1 0).1) = 0) → True))))) ∧ (¬ ((f_Mo_in a1 (a0 + 1) 15) = 0) → ((a2 = (-1) → (((f_Mo_in a3 0 50) = 0 → (((f_Mo_in a0 0 15) = 0 → ((((f_Mo_throwing ar sc 1 1 0).1) = 0 → ((vp_in a0 16) ∧ ((vp_in a0 16) ∧ ((vp_in a0 16) ∧ (vp_in a0 16))))) ∧ (¬ (((f_Mo_throwing ar sc 1 1 0).1) = 0) → True))) ∧ (¬ ((f_Mo_in a0 0 15) = 0) → ((((f_Mo_throwing ar sc 0 1 0).1) = 0 → ((vp_in a0 16) ∧ ((vp_in a0 16) ∧ ((vp_in a0 16) ∧ (vp_in a0 16))))) ∧ (¬ (((f_Mo_throwing ar sc 0 1 0).1) = 0) → True))))) ∧ (¬ ((f_Mo_in a3 0 50) = 0) → (((f_Mo_in a0 0 15) = 0 → ((((f_Mo_throwing ar sc 1 0 0).1) = 0 → ((vp_in a0 16) ∧ ((vp_in a0 16) ∧ ((vp_in a0 16) ∧ (vp_in a0 16))))) ∧ (¬ (((f_Mo_throwing ar sc 1 0 0).1) = 0) → True))) ∧ (¬ ((f_Mo_in a0 0 15) = 0) → ((((f_Mo_throwing ar sc 0 0 0).1) = 0 → ((vp_in a0 16) ∧ ((vp_in a0 16) ∧ ((vp_in a0 16) ∧ (vp_in a0 16))))) ∧ (¬ (((f_Mo_throwing ar sc 0 0 0).1) = 0) → True))))))) ∧ (¬ (a2 = (-1)) → (((f_Mo_in a2 (a0 + 1) 15) = 0 → (((f_Mo_in a0 0 15) = 0 → ((((f_Mo_throwing ar sc 1 1 0).1) = 0 → ((vp_in a0 16) ∧ ((vp_in a0 16) ∧ ((vp_in a0 16) ∧ (vp_in a0 16))))) ∧ (¬ (((f_Mo_throwing ar sc 1 1 0).1) = 0) → True))) ∧ (¬ ((f_Mo_in a0 0 15) = 0) → ((((f_Mo_throwing ar sc 0 1 0).1) = 0 → ((vp_in a0 16) ∧ ((vp_in a0 16) ∧ ((vp_in a0 16) ∧ (vp_in a0 16))))) ∧ (¬ (((f_Mo_throwing ar sc 0 1 0).1) = 0) → True))))) ∧ (¬ ((f_Mo_in a2 (a0 + 1) 15) = 0) → (((f_Mo_in a3 0 50) = 0 → (((f_Mo_in a0 0 15) = 0 → ((((f_Mo_throwing ar sc 1 1 0).1) = 0 → ((vp_in a0 16) ∧ ((vp_in a0 16) ∧ ((vp_in a0 16) ∧ (vp_in a0 16))))) ∧ (¬ (((f_Mo_throwing ar sc 1 1 0).1) = 0) → True))) ∧ (¬ ((f_Mo_in a0 0 15) = 0) → ((((f_Mo_throwing ar sc 0 1 0).1) = 0 → ((vp_in a0 16) ∧ ((vp_in a0 16) ∧ ((vp_in a0 16) ∧ (vp_in a0 16))))) ∧ (¬ (((f_Mo_throwing ar sc 0 1 0).1) = 0) → True))))) ∧ (¬ ((f_Mo_in a3 0 50) = 0) → (((f_Mo_in a0 0 15) = 0 → ((((f_Mo_throwing ar sc 1 0 0).1) = 0 → ((vp_in a0 16) ∧ ((vp_in a0 16) ∧ ((vp_in a0 16) ∧ (vp_in a0 16))))) ∧ (¬ (((f_Mo_throwing ar sc 1 0 0).1) = 0) → True))) ∧ (¬ ((f_Mo_in a0 0 15) = 0) → ((((f_Mo_throwing ar sc 0 0 0).1) = 0 → ((vp_in a0 16) ∧ ((vp_in a0 16) ∧ ((vp_in a0 16) ∧ (vp_in a0 16))))) ∧ (¬ (((f_Mo_throwing ar sc 0 0 0).1) = 0) → True)))))))))))))
def f_Mo_list (ar : Nat → Nat → Int32) (sc : Nat → Int32) (a0 : Int32) (a1 : Int32) : Int32 × (Nat → Nat → Int32) × (Nat → Int32) :=
  if (f_Mo_isPoint ((f_Mo_go ar sc a0 a1 0 0).2.1) ((f_Mo_go ar sc a0 a1 0 0).2.2) a0) = 0 then
    if 0 ≤ ((f_Mo_go ar sc a0 a1 0 0).1) then
      if ((((f_Mo_go ar sc a0 a1 0 0).2.2) 3) + ((f_Mo_go ar sc a0 a1 0 0).1)) ≤ 100 then
        if ((f_Mo_throwing ((f_Mo_go ar sc a0 a1 0 0).2.1) ((f_Mo_go ar sc a0 a1 0 0).2.2) 1 0 0).1) = 0 then
          ((f_Mo_go ((f_Mo_throwing ((f_Mo_go ar sc a0 a1 0 0).2.1) ((f_Mo_go ar sc a0 a1 0 0).2.2) 1 0 0).2.1) ((f_Mo_throwing ((f_Mo_go ar sc a0 a1 0 0).2.1) ((f_Mo_go ar sc a0 a1 0 0).2.2) 1 0 0).2.2) a0 a1 1 ((((f_Mo_throwing ((f_Mo_go ar sc a0 a1 0 0).2.1) ((f_Mo_go ar sc a0 a1 0 0).2.2) 1 0 0).2.2) 1) + (((f_Mo_throwing ((f_Mo_go ar sc a0 a1 0 0).2.1) ((f_Mo_go ar sc a0 a1 0 0).2.2) 1 0 0).2.1) 4 ((f_Mo_classOf ((f_Mo_throwing ((f_Mo_go ar sc a0 a1 0 0).2.1) ((f_Mo_go ar sc a0 a1 0 0).2.2) 1 0 0).2.1) ((f_Mo_throwing ((f_Mo_go ar sc a0 a1 0 0).2.1) ((f_Mo_go ar sc a0 a1 0 0).2.2) 1 0 0).2.2) a0).toNatClampNeg)))).1, (f_Mo_go ((f_Mo_throwing ((f_Mo_go ar sc a0 a1 0 0).2.1) ((f_Mo_go ar sc a0 a1 0 0).2.2) 1 0 0).2.1) ((f_Mo_throwing ((f_Mo_go ar sc a0 a1 0 0).2.1) ((f_Mo_go ar sc a0 a1 0 0).2.2) 1 0 0).2.2) a0 a1 1 ((((f_Mo_throwing ((f_Mo_go ar sc a0 a1 0 0).2.1) ((f_Mo_go ar sc a0 a1 0 0).2.2) 1 0 0).2.2) 1) + (((f_Mo_throwing ((f_Mo_go ar sc a0 a1 0 0).2.1) ((f_Mo_go ar sc a0 a1 0 0).2.2) 1 0 0).2.1) 4 ((f_Mo_classOf ((f_Mo_throwing ((f_Mo_go ar sc a0 a1 0 0).2.1) ((f_Mo_go ar sc a0 a1 0 0).2.2) 1 0 0).2.1) ((f_Mo_throwing ((f_Mo_go ar sc a0 a1 0 0).2.1) ((f_Mo_go ar sc a0 a1 0 0).2.2) 1 0 0).2.2) a0).toNatClampNeg)))).2.1, (f_Mo_go ((f_Mo_throwing ((f_Mo_go ar sc a0 a1 0 0).2.1) ((f_Mo_go ar sc a0 a1 0 0).2.2) 1 0 0).2.1) ((f_Mo_throwing ((f_Mo_go ar sc a0 a1 0 0).2.1) ((f_Mo_go ar sc a0 a1 0 0).2.2) 1 0 0).2.2) a0 a1 1 ((((f_Mo_throwing ((f_Mo_go ar sc a0 a1 0 0).2.1) ((f_Mo_go ar sc a0 a1 0 0).2.2) 1 0 0).2.2) 1) + (((f_Mo_throwing ((f_Mo_go ar sc a0 a1 0 0).2.1) ((f_Mo_go ar sc a0 a1 0 0).2.2) 1 0 0).2.1) 4 ((f_Mo_classOf ((f_Mo_throwing ((f_Mo_go ar sc a0 a1 0 0).2.1) ((f_Mo_go ar sc a0 a1 0 0).2.2) 1 0 0).2.1) ((f_Mo_throwing ((f_Mo_go ar sc a0 a1 0 0).2.1) ((f_Mo_go ar sc a0 a1 0 0).2.2) 1 0 0).2.2) a0).toNatClampNeg)))).2.2)
        else
          (0, (f_Mo_throwing ((f_Mo_go ar sc a0 a1 0 0).2.1) ((f_Mo_go ar sc a0 a1 0 0).2.2) 1 0 0).2.1, (f_Mo_throwing ((f_Mo_go ar sc a0 a1 0 0).2.1) ((f_Mo_go ar sc a0 a1 0 0).2.2) 1 0 0).2.2)
      else
        if ((f_Mo_throwing ((f_Mo_go ar sc a0 a1 0 0).2.1) ((f_Mo_go ar sc a0 a1 0 0).2.2) 1 0 1).1) = 0 then
          ((f_Mo_go ((f_Mo_throwing ((f_Mo_go ar sc a0 a1 0 0).2.1) ((f_Mo_go ar sc a0 a1 0 0).2.2) 1 0 1).2.1) ((f_Mo_throwing ((f_Mo_go ar sc a0 a1 0 0).2.1) ((f_Mo_go ar sc a0 a1 0 0).2.2) 1 0 1).2.2) a0 a1 1 ((((f_Mo_throwing ((f_Mo_go ar sc a0 a1 0 0).2.1) ((f_Mo_go ar sc a0 a1 0 0).2.2) 1 0 1).2.2) 1) + (((f_Mo_throwing ((f_Mo_go ar sc a0 a1 0 0).2.1) ((f_Mo_go ar sc a0 a1 0 0).2.2) 1 0 1).2.1) 4 ((f_Mo_classOf ((f_Mo_throwing ((f_Mo_go ar sc a0 a1 0 0).2.1) ((f_Mo_go ar sc a0 a1 0 0).2.2) 1 0 1).2.1) ((f_Mo_throwing ((f_Mo_go ar sc a0 a1 0 0).2.1) ((f_Mo_go ar sc a0 a1 0 0).2.2) 1 0 1).2.2) a0).toNatClampNeg)))).1, (f_Mo_go ((f_Mo_throwing ((f_Mo_go ar sc a0 a1 0 0).2.1) ((f_Mo_go ar sc a0 a1 0 0).2.2) 1 0 1).2.1) ((f_Mo_throwing ((f_Mo_go ar sc a0 a1 0 0).2.1) ((f_Mo_go ar sc a0 a1 0 0).2.2) 1 0 1).2.2) a0 a1 1 ((((f_Mo_throwing ((f_Mo_go ar sc a0 a1 0 0).2.1) ((f_Mo_go ar sc a0 a1 0 0).2.2) 1 0 1).2.2) 1) + (((f_Mo_throwing ((f_Mo_go ar sc a0 a1 0 0).2.1) ((f_Mo_go ar sc a0 a1 0 0).2.2) 1 0 1).2.1) 4 ((f_Mo_classOf ((f_Mo_throwing ((f_Mo_go ar sc a0 a1 0 0).2.1) ((f_Mo_go ar sc a0 a1 0 0).2.2) 1 0 1).2.1) ((f_Mo_throwing ((f_Mo_go ar sc a0 a1 0 0).2.1) ((f_Mo_go ar sc a0 a1 0 0).2.2) 1 0 1).2.2) a0).toNatClampNeg)))).2.1, (f_Mo_go ((f_Mo_throwing ((f_Mo_go ar sc a0 a1 0 0).2.1) ((f_Mo_go ar sc a0 a1 0 0).2.2) 1 0 1).2.1) ((f_Mo_throwing ((f_Mo_go ar sc a0 a1 0 0).2.1) ((f_Mo_go ar sc a0 a1 0 0).2.2) 1 0 1).2.2) a0 a1 1 ((((f_Mo_throwing ((f_Mo_go ar sc a0 a1 0 0).2.1) ((f_Mo_go ar sc a0 a1 0 0).2.2) 1 0 1).2.2) 1) + (((f_Mo_throwing ((f_Mo_go ar sc a0 a1 0 0).2.1) ((f_Mo_go ar sc a0 a1 0 0).2.2) 1 0 1).2.1) 4 ((f_Mo_classOf ((f_Mo_throwing ((f_Mo_go ar sc a0 a1 0 0).2.1) ((f_Mo_go ar sc a0 a1 0 0).2.2) 1 0 1).2.1) ((f_Mo_throwing ((f_Mo_go ar sc a0 a1 0 0).2.1) ((f_Mo_go ar sc a0 a1 0 0).2.2) 1 0 1).2.2) a0).toNatClampNeg)))).2.2)
        else
          (0, (f_Mo_throwing ((f_Mo_go ar sc a0 a1 0 0).2.1) ((f_Mo_go ar sc a0 a1 0 0).2.2) 1 0 1).2.1, (f_Mo_throwing ((f_Mo_go ar sc a0 a1 0 0).2.1) ((f_Mo_go ar sc a0 a1 0 0).2.2) 1 0 1).2.2)
    else
      if ((((f_Mo_go ar sc a0 a1 0 0).2.2) 3) + ((f_Mo_go ar sc a0 a1 0 0).1)) ≤ 100 then
        if ((f_Mo_throwing ((f_Mo_go ar sc a0 a1 0 0).2.1) ((f_Mo_go ar sc a0 a1 0 0).2.2) 1 1 0).1) = 0 then
          ((f_Mo_go ((f_Mo_throwing ((f_Mo_go ar sc a0 a1 0 0).2.1) ((f_Mo_go ar sc a0 a1 0 0).2.2) 1 1 0).2.1) ((f_Mo_throwing ((f_Mo_go ar sc a0 a1 0 0).2.1) ((f_Mo_go ar sc a0 a1 0 0).2.2) 1 1 0).2.2) a0 a1 1 ((((f_Mo_throwing ((f_Mo_go ar sc a0 a1 0 0).2.1) ((f_Mo_go ar sc a0 a1 0 0).2.2) 1 1 0).2.2) 1) + (((f_Mo_throwing ((f_Mo_go ar sc a0 a1 0 0).2.1) ((f_Mo_go ar sc a0 a1 0 0).2.2) 1 1 0).2.1) 4 ((f_Mo_classOf ((f_Mo_throwing ((f_Mo_go ar sc a0 a1 0 0).2.1) ((f_Mo_go ar sc a0 a1 0 0).2.2) 1 1 0).2.1) ((f_Mo_throwing ((f_Mo_go ar sc a0 a1 0 0).2.1) ((f_Mo_go ar sc a0 a1 0 0).2.2) 1 1 0).2.2) a0).toNatClampNeg)))).1, (f_Mo_go ((f_Mo_throwing ((f_Mo_go ar sc a0 a1 0 0).2.1) ((f_Mo_go ar sc a0 a1 0 0).2.2) 1 1 0).2.1) ((f_Mo_throwing ((f_Mo_go ar sc a0 a1 0 0).2.1) ((f_Mo_go ar sc a0 a1 0 0).2.2) 1 1 0).2.2) a0 a1 1 ((((f_Mo_throwing ((f_Mo_go ar sc a0 a1 0 0).2.1) ((f_Mo_go ar sc a0 a1 0 0).2.2) 1 1 0).2.2) 1) + (((f_Mo_throwing ((f_Mo_go ar sc a0 a1 0 0).2.1) ((f_Mo_go ar sc a0 a1 0 0).2.2) 1 1 0).2.1) 4 ((f_Mo_classOf ((f_Mo_throwing ((f_Mo_go ar sc a0 a1 0 0).2.1) ((f_Mo_go ar sc a0 a1 0 0).2.2) 1 1 0).2.1) ((f_Mo_throwing ((f_Mo_go ar sc a0 a1 0 0).2.1) ((f_Mo_go ar sc a0 a1 0 0).2.2) 1 1 0).2.2) a0).toNatClampNeg)))).2.1, (f_Mo_go ((f_Mo_throwing ((f_Mo_go ar sc a0 a1 0 0).2.1) ((f_Mo_go ar sc a0 a1 0 0).2.2) 1 1 0).2.1) ((f_Mo_throwing ((f_Mo_go ar sc a0 a1 0 0).2.1) ((f_Mo_go ar sc a0 a1 0 0).2.2) 1 1 0).2.2) a0 a1 1 ((((f_Mo_throwing ((f_Mo_go ar sc a0 a1 0 0).2.1) ((f_Mo_go ar sc a0 a1 0 0).2.2) 1 1 0).2.2) 1) + (((f_Mo_throwing ((f_Mo_go ar sc a0 a1 0 0).2.1) ((f_Mo_go ar sc a0 a1 0 0).2.2) 1 1 0).2.1) 4 ((f_Mo_classOf ((f_Mo_throwing ((f_Mo_go ar sc a0 a1 0 0).2.1) ((f_Mo_go ar sc a0 a1 0 0).2.2) 1 1 0).2.1) ((f_Mo_throwing ((f_Mo_go ar sc a0 a1 0 0).2.1) ((f_Mo_go ar sc a0 a1 0 0).2.2) 1 1 0).2.2) a0).toNatClampNeg)))).2.2)
        else
          (0, (f_Mo_throwing ((f_Mo_go ar sc a0 a1 0 0).2.1) ((f_Mo_go ar sc a0 a1 0 0).2.2) 1 1 0).2.1, (f_Mo_throwing ((f_Mo_go ar sc a0 a1 0 0).2.1) ((f_Mo_go ar sc a0 a1 0 0).2.2) 1 1 0).2.2)
      else
        if ((f_Mo_throwing ((f_Mo_go ar sc a0 a1 0 0).2.1) ((f_Mo_go ar sc a0 a1 0 0).2.2) 1 1 1).1) = 0 then
          ((f_Mo_go ((f_Mo_throwing ((f_Mo_go ar sc a0 a1 0 0).2.1) ((f_Mo_go ar sc a0 a1 0 0).2.2) 1 1 1).2.1) ((f_Mo_throwing ((f_Mo_go ar sc a0 a1 0 0).2.1) ((f_Mo_go ar sc a0 a1 0 0).2.2) 1 1 1).2.2) a0 a1 1 ((((f_Mo_throwing ((f_Mo_go ar sc a0 a1 0 0).2.1) ((f_Mo_go ar sc a0 a1 0 0).2.2) 1 1 1).2.2) 1) + (((f_Mo_throwing ((f_Mo_go ar sc a0 a1 0 0).2.1) ((f_Mo_go ar sc a0 a1 0 0).2.2) 1 1 1).2.1) 4 ((f_Mo_classOf ((f_Mo_throwing ((f_Mo_go ar sc a0 a1 0 0).2.1) ((f_Mo_go ar sc a0 a1 0 0).2.2) 1 1 1).2.1) ((f_Mo_throwing ((f_Mo_go ar sc a0 a1 0 0).2.1) ((f_Mo_go ar sc a0 a1 0 0).2.2) 1 1 1).2.2) a0).toNatClampNeg)))).1, (f_Mo_go ((f_Mo_throwing ((f_Mo_go ar sc a0 a1 0 0).2.1) ((f_Mo_go ar sc a0 a1 0 0).2.2) 1 1 1).2.1) ((f_Mo_throwing ((f_Mo_go ar sc a0 a1 0 0).2.1) ((f_Mo_go ar sc a0 a1 0 0).2.2) 1 1 1).2.2) a0 a1 1 ((((f_Mo_throwing ((f_Mo_go ar sc a0 a1 0 0).2.1) ((f_Mo_go ar sc a0 a1 0 0).2.2) 1 1 1).2.2) 1) + (((f_Mo_throwing ((f_Mo_go ar sc a0 a1 0 0).2.1) ((f_Mo_go ar sc a0 a1 0 0).2.2) 1 1 1).2.1) 4 ((f_Mo_classOf ((f_Mo_throwing ((f_Mo_go ar sc a0 a1 0 0).2.1) ((f_Mo_go ar sc a0 a1 0 0).2.2) 1 1 1).2.1) ((f_Mo_throwing ((f_Mo_go ar sc a0 a1 0 0).2.1) ((f_Mo_go ar sc a0 a1 0 0).2.2) 1 1 1).2.2) a0).toNatClampNeg)))).2.1, (f_Mo_go ((f_Mo_throwing ((f_Mo_go ar sc a0 a1 0 0).2.1) ((f_Mo_go ar sc a0 a1 0 0).2.2) 1 1 1).2.1) ((f_Mo_throwing ((f_Mo_go ar sc a0 a1 0 0).2.1) ((f_Mo_go ar sc a0 a1 0 0).2.2) 1 1 1).2.2) a0 a1 1 ((((f_Mo_throwing ((f_Mo_go ar sc a0 a1 0 0).2.1) ((f_Mo_go ar sc a0 a1 0 0).2.2) 1 1 1).2.2) 1) + (((f_Mo_throwing ((f_Mo_go ar sc a0 a1 0 0).2.1) ((f_Mo_go ar sc a0 a1 0 0).2.2) 1 1 1).2.1) 4 ((f_Mo_classOf ((f_Mo_throwing ((f_Mo_go ar sc a0 a1 0 0).2.1) ((f_Mo_go ar sc a0 a1 0 0).2.2) 1 1 1).2.1) ((f_Mo_throwing ((f_Mo_go ar sc a0 a1 0 0).2.1) ((f_Mo_go ar sc a0 a1 0 0).2.2) 1 1 1).2.2) a0).toNatClampNeg)))).2.2)
        else
          (0, (f_Mo_throwing ((f_Mo_go ar sc a0 a1 0 0).2.1) ((f_Mo_go ar sc a0 a1 0 0).2.2) 1 1 1).2.1, (f_Mo_throwing ((f_Mo_go ar sc a0 a1 0 0).2.1) ((f_Mo_go ar sc a0 a1 0 0).2.2) 1 1 1).2.2)
  else
    if 0 ≤ ((f_Mo_go ar sc a0 a1 0 0).1) then
      if ((((f_Mo_go ar sc a0 a1 0 0).2.2) 3) + ((f_Mo_go ar sc a0 a1 0 0).1)) ≤ 100 then
        if ((f_Mo_throwing ((f_Mo_go ar sc a0 a1 0 0).2.1) ((f_Mo_go ar sc a0 a1 0 0).2.2) 0 0 0).1) = 0 then
          ((f_Mo_go ((f_Mo_throwing ((f_Mo_go ar sc a0 a1 0 0).2.1) ((f_Mo_go ar sc a0 a1 0 0).2.2) 0 0 0).2.1) ((f_Mo_throwing ((f_Mo_go ar sc a0 a1 0 0).2.1) ((f_Mo_go ar sc a0 a1 0 0).2.2) 0 0 0).2.2) a0 a1 1 ((((f_Mo_throwing ((f_Mo_go ar sc a0 a1 0 0).2.1) ((f_Mo_go ar sc a0 a1 0 0).2.2) 0 0 0).2.2) 1) + (((f_Mo_throwing ((f_Mo_go ar sc a0 a1 0 0).2.1) ((f_Mo_go ar sc a0 a1 0 0).2.2) 0 0 0).2.1) 4 ((f_Mo_classOf ((f_Mo_throwing ((f_Mo_go ar sc a0 a1 0 0).2.1) ((f_Mo_go ar sc a0 a1 0 0).2.2) 0 0 0).2.1) ((f_Mo_throwing ((f_Mo_go ar sc a0 a1 0 0).2.1) ((f_Mo_go ar sc a0 a1 0 0).2.2) 0 0 0).2.2) a0).toNatClampNeg)))).1, (f_Mo_go ((f_Mo_throwing ((f_Mo_go ar sc a0 a1 0 0).2.1) ((f_Mo_go ar sc a0 a1 0 0).2.2) 0 0 0).2.1) ((f_Mo_throwing ((f_Mo_go ar sc a0 a1 0 0).2.1) ((f_Mo_go ar sc a0 a1 0 0).2.2) 0 0 0).2.2) a0 a1 1 ((((f_Mo_throwing ((f_Mo_go ar sc a0 a1 0 0).2.1) ((f_Mo_go ar sc a0 a1 0 0).2.2) 0 0 0).2.2) 1) + (((f_Mo_throwing ((f_Mo_go ar sc a0 a1 0 0).2.1) ((f_Mo_go ar sc a0 a1 0 0).2.2) 0 0 0).2.1) 4 ((f_Mo_classOf ((f_Mo_throwing ((f_Mo_go ar sc a0 a1 0 0).2.1) ((f_Mo_go ar sc a0 a1 0 0).2.2) 0 0 0).2.1) ((f_Mo_throwing ((f_Mo_go ar sc a0 a1 0 0).2.1) ((f_Mo_go ar sc a0 a1 0 0).2.2) 0 0 0).2.2) a0).toNatClampNeg)))).2.1, (f_Mo_go ((f_Mo_throwing ((f_Mo_go ar sc a0 a1 0 0).2.1) ((f_Mo_go ar sc a0 a1 0 0).2.2) 0 0 0).2.1) ((f_Mo_throwing ((f_Mo_go ar sc a0 a1 0 0).2.1) ((f_Mo_go ar sc a0 a1 0 0).2.2) 0 0 0).2.2) a0 a1 1 ((((f_Mo_throwing ((f_Mo_go ar sc a0 a1 0 0).2.1) ((f_Mo_go ar sc a0 a1 0 0).2.2) 0 0 0).2.2) 1) + (((f_Mo_throwing ((f_Mo_go ar sc a0 a1 0 0).2.1) ((f_Mo_go ar sc a0 a1 0 0).2.2) 0 0 0).2.1) 4 ((f_Mo_classOf ((f_Mo_throwing ((f_Mo_go ar sc a0 a1 0 0).2.1) ((f_Mo_go ar sc a0 a1 0 0).2.2) 0 0 0).2.1) ((f_Mo_throwing ((f_Mo_go ar sc a0 a1 0 0).2.1) ((f_Mo_go ar sc a0 a1 0 0).2.2) 0 0 0).2.2) a0).toNatClampNeg)))).2.2)
        else
          (0, (f_Mo_throwing ((f_Mo_go ar sc a0 a1 0 0).2.1) ((f_Mo_go ar sc a0 a1 0 0).2.2) 0 0 0).2.1, (f_Mo_throwing ((f_Mo_go ar sc a0 a1 0 0).2.1) ((f_Mo_go ar sc a0 a1 0 0).2.2) 0 0 0).2.2)
      else
        if ((f_Mo_throwing ((f_Mo_go ar sc a0 a1 0 0).2.1) ((f_Mo_go ar sc a0 a1 0 0).2.2) 0 0 1).1) = 0 then
          ((f_Mo_go ((f_Mo_throwing ((f_Mo_go ar sc a0 a1 0 0).2.1) ((f_Mo_go ar sc a0 a1 0 0).2.2) 0 0 1).2.1) ((f_Mo_throwing ((f_Mo_go ar sc a0 a1 0 0).2.1) ((f_Mo_go ar sc a0 a1 0 0).2.2) 0 0 1).2.2) a0 a1 1 ((((f_Mo_throwing ((f_Mo_go ar sc a0 a1 0 0).2.1) ((f_Mo_go ar sc a0 a1 0 0).2.2) 0 0 1).2.2) 1) + (((f_Mo_throwing ((f_Mo_go ar sc a0 a1 0 0).2.1) ((f_Mo_go ar sc a0 a1 0 0).2.2) 0 0 1).2.1) 4 ((f_Mo_classOf ((f_Mo_throwing ((f_Mo_go ar sc a0 a1 0 0).2.1) ((f_Mo_go ar sc a0 a1 0 0).2.2) 0 0 1).2.1) ((f_Mo_throwing ((f_Mo_go ar sc a0 a1 0 0).2.1) ((f_Mo_go ar sc a0 a1 0 0).2.2) 0 0 1).2.2) a0).toNatClampNeg)))).1, (f_Mo_go ((f_Mo_throwing ((f_Mo_go ar sc a0 a1 0 0).2.1) ((f_Mo_go ar sc a0 a1 0 0).2.2) 0 0 1).2.1) ((f_Mo_throwing ((f_Mo_go ar sc a0 a1 0 0).2.1) ((f_Mo_go ar sc a0 a1 0 0).2.2) 0 0 1).2.2) a0 a1 1 ((((f_Mo_throwing ((f_Mo_go ar sc a0 a1 0 0).2.1) ((f_Mo_go ar sc a0 a1 0 0).2.2) 0 0 1).2.2) 1) + (((f_Mo_throwing ((f_Mo_go ar sc a0 a1 0 0).2.1) ((f_Mo_go ar sc a0 a1 0 0).2.2) 0 0 1).2.1) 4 ((f_Mo_classOf ((f_Mo_throwing ((f_Mo_go ar sc a0 a1 0 0).2.1) ((f_Mo_go ar sc a0 a1 0 0).2.2) 0 0 1).2.1) ((f_Mo_throwing ((f_Mo_go ar sc a0 a1 0 0).2.1) ((f_Mo_go ar sc a0 a1 0 0).2.2) 0 0 1).2.2) a0).toNatClampNeg)))).2.1, (f_Mo_go ((f_Mo_throwing ((f_Mo_go ar sc a0 a1 0 0).2.1) ((f_Mo_go ar sc a0 a1 0 0).2.2) 0 0 1).2.1) ((f_Mo_throwing ((f_Mo_go ar sc a0 a1 0 0).2.1) ((f_Mo_go ar sc a0 a1 0 0).2.2) 0 0 1).2.2) a0 a1 1 ((((f_Mo_throwing ((f_Mo_go ar sc a0 a1 0 0).2.1) ((f_Mo_go ar sc a0 a1 0 0).2.2) 0 0 1).2.2) 1) + (((f_Mo_throwing ((f_Mo_go ar sc a0 a1 0 0).2.1) ((f_Mo_go ar sc a0 a1 0 0).2.2) 0 0 1).2.1) 4 ((f_Mo_classOf ((f_Mo_throwing ((f_Mo_go ar sc a0 a1 0 0).2.1) ((f_Mo_go ar sc a0 a1 0 0).2.2) 0 0 1).2.1) ((f_Mo_throwing ((f_Mo_go ar sc a0 a1 0 0).2.1) ((f_Mo_go ar sc a0 a1 0 0).2.2) 0 0 1).2.2) a0).toNatClampNeg)))).2.2)
        else
          (0, (f_Mo_throwing ((f_Mo_go ar sc a0 a1 0 0).2.1) ((f_Mo_go ar sc a0 a1 0 0).2.2) 0 0 1).2.1, (f_Mo_throwing ((f_Mo_go ar sc a0 a1 0 0).2.1) ((f_Mo_go ar sc a0 a1 0 0).2.2) 0 0 1).2.2)
    else
      if ((((f_Mo_go ar sc a0 a1 0 0).2.2) 3) + ((f_Mo_go ar sc a0 a1 0 0).1)) ≤ 100 then
        if ((f_Mo_throwing ((f_Mo_go ar sc a0 a1 0 0).2.1) ((f_Mo_go ar sc a0 a1 0 0).2.2) 0 1 0).1) = 0 then
          ((f_Mo_go ((f_Mo_throwing ((f_Mo_go ar sc a0 a1 0 0).2.1) ((f_Mo_go ar sc a0 a1 0 0).2.2) 0 1 0).2.1) ((f_Mo_throwing ((f_Mo_go ar sc a0 a1 0 0).2.1) ((f_Mo_go ar sc a0 a1 0 0).2.2) 0 1 0).2.2) a0 a1 1 ((((f_Mo_throwing ((f_Mo_go ar sc a0 a1 0 0).2.1) ((f_Mo_go ar sc a0 a1 0 0).2.2) 0 1 0).2.2) 1) + (((f_Mo_throwing ((f_Mo_go ar sc a0 a1 0 0).2.1) ((f_Mo_go ar sc a0 a1 0 0).2.2) 0 1 0).2.1) 4 ((f_Mo_classOf ((f_Mo_throwing ((f_Mo_go ar sc a0 a1 0 0).2.1) ((f_Mo_go ar sc a0 a1 0 0).2.2) 0 1 0).2.1) ((f_Mo_throwing ((f_Mo_go ar sc a0 a1 0 0).2.1) ((f_Mo_go ar sc a0 a1 0 0).2.2) 0 1 0).2.2) a0).toNatClampNeg)))).1, (f_Mo_go ((f_Mo_throwing ((f_Mo_go ar sc a0 a1 0 0).2.1) ((f_Mo_go ar sc a0 a1 0 0).2.2) 0 1 0).2.1) ((f_Mo_throwing ((f_Mo_go ar sc a0 a1 0 0).2.1) ((f_Mo_go ar sc a0 a1 0 0).2.2) 0 1 0).2.2) a0 a1 1 ((((f_Mo_throwing ((f_Mo_go ar sc a0 a1 0 0).2.1) ((f_Mo_go ar sc a0 a1 0 0).2.2) 0 1 0).2.2) 1) + (((f_Mo_throwing ((f_Mo_go ar sc a0 a1 0 0).2.1) ((f_Mo_go ar sc a0 a1 0 0).2.2) 0 1 0).2.1) 4 ((f_Mo_classOf ((f_Mo_throwing ((f_Mo_go ar sc a0 a1 0 0).2.1) ((f_Mo_go ar sc a0 a1 0 0).2.2) 0 1 0).2.1) ((f_Mo_throwing ((f_Mo_go ar sc a0 a1 0 0).2.1) ((f_Mo_go ar sc a0 a1 0 0).2.2) 0 1 0).2.2) a0).toNatClampNeg)))).2.1, (f_Mo_go ((f_Mo_throwing ((f_Mo_go ar sc a0 a1 0 0).2.1) ((f_Mo_go ar sc a0 a1 0 0).2.2) 0 1 0).2.1) ((f_Mo_throwing ((f_Mo_go ar sc a0 a1 0 0).2.1) ((f_Mo_go ar sc a0 a1 0 0).2.2) 0 1 0).2.2) a0 a1 1 ((((f_Mo_throwing ((f_Mo_go ar sc a0 a1 0 0).2.1) ((f_Mo_go ar sc a0 a1 0 0).2.2) 0 1 0).2.2) 1) + (((f_Mo_throwing ((f_Mo_go ar sc a0 a1 0 0).2.1) ((f_Mo_go ar sc a0 a1 0 0).2.2) 0 1 0).2.1) 4 ((f_Mo_classOf ((f_Mo_throwing ((f_Mo_go ar sc a0 a1 0 0).2.1) ((f_Mo_go ar sc a0 a1 0 0).2.2) 0 1 0).2.1) ((f_Mo_throwing ((f_Mo_go ar sc a0 a1 0 0).2.1) ((f_Mo_go ar sc a0 a1 0 0).2.2) 0 1 0).2.2) a0).toNatClampNeg)))).2.2)
        else
          (0, (f_Mo_throwing ((f_Mo_go ar sc a0 a1 0 0).2.1) ((f_Mo_go ar sc a0 a1 0 0).2.2) 0 1 0).2.1, (f_Mo_throwing ((f_Mo_go ar sc a0 a1 0 0).2.1) ((f_Mo_go ar sc a0 a1 0 0).2.2) 0 1 0).2.2)
      else
        if ((f_Mo_throwing ((f_Mo_go ar sc a0 a1 0 0).2.1) ((f_Mo_go ar sc a0 a1 0 0).2.2) 0 1 1).1) = 0 then
          ((f_Mo_go ((f_Mo_throwing ((f_Mo_go ar sc a0 a1 0 0).2.1) ((f_Mo_go ar sc a0 a1 0 0).2.2) 0 1 1).2.1) ((f_Mo_throwing ((f_Mo_go ar sc a0 a1 0 0).2.1) ((f_Mo_go ar sc a0 a1 0 0).2.2) 0 1 1).2.2) a0 a1 1 ((((f_Mo_throwing ((f_Mo_go ar sc a0 a1 0 0).2.1) ((f_Mo_go ar sc a0 a1 0 0).2.2) 0 1 1).2.2) 1) + (((f_Mo_throwing ((f_Mo_go ar sc a0 a1 0 0).2.1) ((f_Mo_go ar sc a0 a1 0 0).2.2) 0 1 1).2.1) 4 ((f_Mo_classOf ((f_Mo_throwing ((f_Mo_go ar sc a0 a1 0 0).2.1) ((f_Mo_go ar sc a0 a1 0 0).2.2) 0 1 1).2.1) ((f_Mo_throwing ((f_Mo_go ar sc a0 a1 0 0).2.1) ((f_Mo_go ar sc a0 a1 0 0).2.2) 0 1 1).2.2) a0).toNatClampNeg)))).1, (f_Mo_go ((f_Mo_throwing ((f_Mo_go ar sc a0 a1 0 0).2.1) ((f_Mo_go ar sc a0 a1 0 0).2.2) 0 1 1).2.1) ((f_Mo_throwing ((f_Mo_go ar sc a0 a1 0 0).2.1) ((f_Mo_go ar sc a0 a1 0 0).2.2) 0 1 1).2.2) a0 a1 1 ((((f_Mo_throwing ((f_Mo_go ar sc a0 a1 0 0).2.1) ((f_Mo_go ar sc a0 a1 0 0).2.2) 0 1 1).2.2) 1) + (((f_Mo_throwing ((f_Mo_go ar sc a0 a1 0 0).2.1) ((f_Mo_go ar sc a0 a1 0 0).2.2) 0 1 1).2.1) 4 ((f_Mo_classOf ((f_Mo_throwing ((f_Mo_go ar sc a0 a1 0 0).2.1) ((f_Mo_go ar sc a0 a1 0 0).2.2) 0 1 1).2.1) ((f_Mo_throwing ((f_Mo_go ar sc a0 a1 0 0).2.1) ((f_Mo_go ar sc a0 a1 0 0).2.2) 0 1 1).2.2) a0).toNatClampNeg)))).2.1, (f_Mo_go ((f_Mo_throwing ((f_Mo_go ar sc a0 a1 0 0).2.1) ((f_Mo_go ar sc a0 a1 0 0).2.2) 0 1 1).2.1) ((f_Mo_throwing ((f_Mo_go ar sc a0 a1 0 0).2.1) ((f_Mo_go ar sc a0 a1 0 0).2.2) 0 1 1).2.2) a0 a1 1 ((((f_Mo_throwing ((f_Mo_go ar sc a0 a1 0 0).2.1) ((f_Mo_go ar sc a0 a1 0 0).2.2) 0 1 1).2.2) 1) + (((f_Mo_throwing ((f_Mo_go ar sc a0 a1 0 0).2.1) ((f_Mo_go ar sc a0 a1 0 0).2.2) 0 1 1).2.1) 4 ((f_Mo_classOf ((f_Mo_throwing ((f_Mo_go ar sc a0 a1 0 0).2.1) ((f_Mo_go ar sc a0 a1 0 0).2.2) 0 1 1).2.1) ((f_Mo_throwing ((f_Mo_go ar sc a0 a1 0 0).2.1) ((f_Mo_go ar sc a0 a1 0 0).2.2) 0 1 1).2.2) a0).toNatClampNeg)))).2.2)
        else
          (0, (f_Mo_throwing ((f_Mo_go ar sc a0 a1 0 0).2.1) ((f_Mo_go ar sc a0 a1 0 0).2.2) 0 1 1).2.1, (f_Mo_throwing ((f_Mo_go ar sc a0 a1 0 0).2.1) ((f_Mo_go ar sc a0 a1 0 0).2.2) 0 1 1).2.2)
def p_Mo_list (ar : Nat → Nat → Int32) (sc : Nat → Int32) (a0 : Int32) (a1 : Int32) : Prop :=
  (p_Mo_go ar sc a0 a1 0 0) ∧ (((f_Mo_isPoint ((f_Mo_go ar sc a0 a1 0 0).2.1) ((f_Mo_go ar sc a0 a1 0 0).2.2) a0) = 0 → ((0 ≤ ((f_Mo_go ar sc a0 a1 0 0).1) → ((((((f_Mo_go ar sc a0 a1 0 0).2.2) 3) + ((f_Mo_go ar sc a0 a1 0 0).1)) ≤ 100 → ((((f_Mo_throwing ((f_Mo_go ar sc a0 a1 0 0).2.1) ((f_Mo_go ar sc a0 a1 0 0).2.2) 1 0 0).1) = 0 → ((p_Mo_classOf ((f_Mo_throwing ((f_Mo_go ar sc a0 a1 0 0).2.1) ((f_Mo_go ar sc a0 a1 0 0).2.2) 1 0 0).2.1) ((f_Mo_throwing ((f_Mo_go ar sc a0 a1 0 0).2.1) ((f_Mo_go ar sc a0 a1 0 0).2.2) 1 0 0).2.2) a0) ∧ ((vp_in (f_Mo_classOf ((f_Mo_throwing ((f_Mo_go ar sc a0 a1 0 0).2.1) ((f_Mo_go ar sc a0 a1 0 0).2.2) 1 0 0).2.1) ((f_Mo_throwing ((f_Mo_go ar sc a0 a1 0 0).2.1) ((f_Mo_go ar sc a0 a1 0 0).2.2) 1 0 0).2.2) a0) 4) ∧ (p_Mo_go ((f_Mo_throwing ((f_Mo_go ar sc a0 a1 0 0).2.1) ((f_Mo_go ar sc a0 a1 0 0).2.2) 1 0 0).2.1) ((f_Mo_throwing ((f_Mo_go ar sc a0 a1 0 0).2.1) ((f_Mo_go ar sc a0 a1 0 0).2.2) 1 0 0).2.2) a0 a1 1 ((((f_Mo_throwing ((f_Mo_go ar sc a0 a1 0 0).2.1) ((f_Mo_go ar sc a0 a1 0 0).2.2) 1 0 0).2.2) 1) + (((f_Mo_throwing ((f_Mo_go ar sc a0 a1 0 0).2.1) ((f_Mo_go ar sc a0 a1 0 0).2.2) 1 0 0).2.1) 4 ((f_Mo_classOf ((f_Mo_throwing ((f_Mo_go ar sc a0 a1 0 0).2.1) ((f_Mo_go ar sc a0 a1 0 0).2.2) 1 0 0).2.1) ((f_Mo_throwing ((f_Mo_go ar sc a0 a1 0 0).2.1) ((f_Mo_go ar sc a0 a1 0 0).2.2) 1 0 0).2.2) a0).toNatClampNeg))))))) ∧ (¬ (((f_Mo_throwing ((f_Mo_go ar sc a0 a1 0 0).2.1) ((f_Mo_go ar sc a0 a1 0 0).2.2) 1 0 0).1) = 0) → True))) ∧ (¬ (((((f_Mo_go ar sc a0 a1 0 0).2.2) 3) + ((f_Mo_go ar sc a0 a1 0 0).1)) ≤ 100) → ((((f_Mo_throwing ((f_Mo_go ar sc a0 a1 0 0).2.1) ((f_Mo_go ar sc a0 a1 0 0).2.2) 1 0 1).1) = 0 → ((p_Mo_classOf ((f_Mo_throwing ((f_Mo_go ar sc a0 a1 0 0).2.1) ((f_Mo_go ar sc a0 a1 0 0).2.2) 1 0 1).2.1) ((f_Mo_throwing ((f_Mo_go ar sc a0 a1 0 0).2.1) ((f_Mo_go ar sc a0 a1 0 0).2.2) 1 0 1).2.2) a0) ∧ ((vp_in (f_Mo_classOf ((f_Mo_throwing ((f_Mo_go ar sc a0 a1 0 0).2.1) ((f_Mo_go ar sc a0 a1 0 0).2.2) 1 0 1).2.1) ((f_Mo_throwing ((f_Mo_go ar sc a0 a1 0 0).2.1) ((f_Mo_go ar sc a0 a1 0 0).2.2) 1 0 1).2.2) a0) 4) ∧ (p_Mo_go ((f_Mo_throwing ((f_Mo_go ar sc a0 a1 0 0).2.1) ((f_Mo_go ar sc a0 a1 0 0).2.2) 1 0 1).2.1) ((f_Mo_throwing ((f_Mo_go ar sc a0 a1 0 0).2.1) ((f_Mo_go ar sc a0 a1 0 0).2.2) 1 0 1).2.2) a0 a1 1 ((((f_Mo_throwing ((f_Mo_go ar sc a0 a1 0 0).2.1) ((f_Mo_go ar sc a0 a1 0 0).2.2) 1 0 1).2.2) 1) + (((f_Mo_throwing ((f_Mo_go ar sc a0 a1 0 0).2.1) ((f_Mo_go ar sc a0 a1 0 0).2.2) 1 0 1).2.1) 4 ((f_Mo_classOf ((f_Mo_throwing ((f_Mo_go ar sc a0 a1 0 0).2.1) ((f_Mo_go ar sc a0 a1 0 0).2.2) 1 0 1).2.1) ((f_Mo_throwing ((f_Mo_go ar sc a0 a1 0 0).2.1) ((f_Mo_go ar sc a0 a1 0 0).2.2) 1 0 1).2.2) a0).toNatClampNeg))))))) ∧ (¬ (((f_Mo_throwing ((f_Mo_go ar sc a0 a1 0 0).2.1) ((f_Mo_go ar sc a0 a1 0 0).2.2) 1 0 1).1) = 0) → True))))) ∧ (¬ (0 ≤ ((f_Mo_go ar sc a0 a1 0 0).1)) → ((((((f_Mo_go ar sc a0 a1 0 0).2.2) 3) + ((f_Mo_go ar sc a0 a1 0 0).1)) ≤ 100 → ((((f_Mo_throwing ((f_Mo_go ar sc a0 a1 0 0).2.1) ((f_Mo_go ar sc a0 a1 0 0).2.2) 1 1 0).1) = 0 → ((p_Mo_classOf ((f_Mo_throwing ((f_Mo_go ar sc a0 a1 0 0).2.1) ((f_Mo_go ar sc a0 a1 0 0).2.2) 1 1 0).2.1) ((f_Mo_throwing ((f_Mo_go ar sc a0 a1 0 0).2.1) ((f_Mo_go ar sc a0 a1 0 0).2.2) 1 1 0).2.2) a0) ∧ ((vp_in (f_Mo_classOf ((f_Mo_throwing ((f_Mo_go ar sc a0 a1 0 0).2.1) ((f_Mo_go ar sc a0 a1 0 0).2.2) 1 1 0).2.1) ((f_Mo_throwing ((f_Mo_go ar sc a0 a1 0 0).2.1) ((f_Mo_go ar sc a0 a1 0 0).2.2) 1 1 0).2.2) a0) 4) ∧ (p_Mo_go ((f_Mo_throwing ((f_Mo_go ar sc a0 a1 0 0).2.1) ((f_Mo_go ar sc a0 a1 0 0).2.2) 1 1 0).2.1) ((f_Mo_throwing ((f_Mo_go ar sc a0 a1 0 0).2.1) ((f_Mo_go ar sc a0 a1 0 0).2.2) 1 1 0).2.2) a0 a1 1 ((((f_Mo_throwing ((f_Mo_go ar sc a0 a1 0 0).2.1) ((f_Mo_go ar sc a0 a1 0 0).2.2) 1 1 0).2.2) 1) + (((f_Mo_throwing ((f_Mo_go ar sc a0 a1 0 0).2.1) ((f_Mo_go ar sc a0 a1 0 0).2.2) 1 1 0).2.1) 4 ((f_Mo_classOf ((f_Mo_throwing ((f_Mo_go ar sc a0 a1 0 0).2.1) ((f_Mo_go ar sc a0 a1 0 0).2.2) 1 1 0).2.1) ((f_Mo_throwing ((f_Mo_go ar sc a0 a1 0 0).2.1) ((f_Mo_go ar sc a0 a1 0 0).2.2) 1 1 0).2.2) a0).toNatClampNeg))))))) ∧ (¬ (((f_Mo_throwing ((f_Mo_go ar sc a0 a1 0 0).2.1) ((f_Mo_go ar sc a0 a1 0 0).2.2) 1 1 0).1) = 0) → True))) ∧ (¬ (((((f_Mo_go ar sc a0 a1 0 0).2.2) 3) + ((f_Mo_go ar sc a0 a1 0 0).1)) ≤ 100) → ((((f_Mo_throwing ((f_Mo_go ar sc a0 a1 0 0).2.1) ((f_Mo_go ar sc a0 a1 0 0).2.2) 1 1 1).1) = 0 → ((p_Mo_classOf ((f_Mo_throwing ((f_Mo_go ar sc a0 a1 0 0).2.1) ((f_Mo_go ar sc a0 a1 0 0).2.2) 1 1 1).2.1) ((f_Mo_throwing ((f_Mo_go ar sc a0 a1 0 0).2.1) ((f_Mo_go ar sc a0 a1 0 0).2.2) 1 1 1).2.2) a0) ∧ ((vp_in (f_Mo_classOf ((f_Mo_throwing ((f_Mo_go ar sc a0 a1 0 0).2.1) ((f_Mo_go ar sc a0 a1 0 0).2.2) 1 1 1).2.1) ((f_Mo_throwing ((f_Mo_go ar sc a0 a1 0 0).2.1) ((f_Mo_go ar sc a0 a1 0 0).2.2) 1 1 1).2.2) a0) 4) ∧ (p_Mo_go ((f_Mo_throwing ((f_Mo_go ar sc a0 a1 0 0).2.1) ((f_Mo_go ar sc a0 a1 0 0).2.2) 1 1 1).2.1) ((f_Mo_throwing ((f_Mo_go ar sc a0 a1 0 0).2.1) ((f_Mo_go ar sc a0 a1 0 0).2.2) 1 1 1).2.2) a0 a1 1 ((((f_Mo_throwing ((f_Mo_go ar sc a0 a1 0 0).2.1) ((f_Mo_go ar sc a0 a1 0 0).2.2) 1 1 1).2.2) 1) + (((f_Mo_throwing ((f_Mo_go ar sc a0 a1 0 0).2.1) ((f_Mo_go ar sc a0 a1 0 0).2.2) 1 1 1).2.1) 4 ((f_Mo_classOf ((f_Mo_throwing ((f_Mo_go ar sc a0 a1 0 0).2.1) ((f_Mo_go ar sc a0 a1 0 0).2.2) 1 1 1).2.1) ((f_Mo_throwing ((f_Mo_go ar sc a0 a1 0 0).2.1) ((f_Mo_go ar sc a0 a1 0 0).2.2) 1 1 1).2.2) a0).toNatClampNeg))))))) ∧ (¬ (((f_Mo_throwing ((f_Mo_go ar sc a0 a1 0 0).2.1) ((f_Mo_go ar sc a0 a1 0 0).2.2) 1 1 1).1) = 0) → True))))))) ∧ (¬ ((f_Mo_isPoint ((f_Mo_go ar sc a0 a1 0 0).2.1) ((f_Mo_go ar sc a0 a1 0 0).2.2) a0) = 0) → ((0 ≤ ((f_Mo_go ar sc a0 a1 0 0).1) → ((((((f_Mo_go ar sc a0 a1 0 0).2.2) 3) + ((f_Mo_go ar sc a0 a1 0 0).1)) ≤ 100 → ((((f_Mo_throwing ((f_Mo_go ar sc a0 a1 0 0).2.1) ((f_Mo_go ar sc a0 a1 0 0).2.2) 0 0 0).1) = 0 → ((p_Mo_classOf ((f_Mo_throwing ((f_Mo_go ar sc a0 a1 0 0).2.1) ((f_Mo_go ar sc a0 a1 0 0).2.2) 0 0 0).2.1) ((f_Mo_throwing ((f_Mo_go ar sc a0 a1 0 0).2.1) ((f_Mo_go ar sc a0 a1 0 0).2.2) 0 0 0).2.2) a0) ∧ ((vp_in (f_Mo_classOf ((f_Mo_throwing ((f_Mo_go ar sc a0 a1 0 0).2.1) ((f_Mo_go ar sc a0 a1 0 0).2.2) 0 0 0).2.1) ((f_Mo_throwing ((f_Mo_go ar sc a0 a1 0 0).2.1) ((f_Mo_go ar sc a0 a1 0 0).2.2) 0 0 0).2.2) a0) 4) ∧ (p_Mo_go ((f_Mo_throwing ((f_Mo_go ar sc a0 a1 0 0).2.1) ((f_Mo_go ar sc a0 a1 0 0).2.2) 0 0 0).2.1) ((f_Mo_throwing ((f_Mo_go ar sc a0 a1 0 0).2.1) ((f_Mo_go ar sc a0 a1 0 0).2.2) 0 0 0).2.2) a0 a1 1 ((((f_Mo_throwing ((f_Mo_go ar sc a0 a1 0 0).2.1) ((f_Mo_go ar sc a0 a1 0 0).2.2) 0 0 0).2.2) 1) + (((f_Mo_throwing ((f_Mo_go ar sc a0 a1 0 0).2.1) ((f_Mo_go ar sc a0 a1 0 0).2.2) 0 0 0).2.1) 4 ((f_Mo_classOf ((f_Mo_throwing ((f_Mo_go ar sc a0 a1 0 0).2.1) ((f_Mo_go ar sc a0 a1 0 0).2.2) 0 0 0).2.1) ((f_Mo_throwing ((f_Mo_go ar sc a0 a1 0 0).2.1) ((f_Mo_go ar sc a0 a1 0 0).2.2) 0 0 0).2.2) a0).toNatClampNeg))))))) ∧ (¬ (((f_Mo_throwing ((f_Mo_go ar sc a0 a1 0 0).2.1) ((f_Mo_go ar sc a0 a1 0 0).2.2) 0 0 0).1) = 0) → True))) ∧ (¬ (((((f_Mo_go ar sc a0 a1 0 0).2.2) 3) + ((f_Mo_go ar sc a0 a1 0 0).1)) ≤ 100) → ((((f_Mo_throwing ((f_Mo_go ar sc a0 a1 0 0).2.1) ((f_Mo_go ar sc a0 a1 0 0).2.2) 0 0 1).1) = 0 → ((p_Mo_classOf ((f_Mo_throwing ((f_Mo_go ar sc a0 a1 0 0).2.1) ((f_Mo_go ar sc a0 a1 0 0).2.2) 0 0 1).2.1) ((f_Mo_throwing ((f_Mo_go ar sc a0 a1 0 0).2.1) ((f_Mo_go ar sc a0 a1 0 0).2.2) 0 0 1).2.2) a0) ∧ ((vp_in (f_Mo_classOf ((f_Mo_throwing ((f_Mo_go ar sc a0 a1 0 0).2.1) ((f_Mo_go ar sc a0 a1 0 0).2.2) 0 0 1).2.1) ((f_Mo_throwing ((f_Mo_go ar sc a0 a1 0 0).2.1) ((f_Mo_go ar sc a0 a1 0 0).2.2) 0 0 1).2.2) a0) 4) ∧ (p_Mo_go ((f_Mo_throwing ((f_Mo_go ar sc a0 a1 0 0).2.1) ((f_Mo_go ar sc a0 a1 0 0).2.2) 0 0 1).2.1) ((f_Mo_throwing ((f_Mo_go ar sc a0 a1 0 0).2.1) ((f_Mo_go ar sc a0 a1 0 0).2.2) 0 0 1).2.2) a0 a1 1 ((((f_Mo_throwing ((f_Mo_go ar sc a0 a1 0 0).2.1) ((f_Mo_go ar sc a0 a1 0 0).2.2) 0 0 1).2.2) 1) + (((f_Mo_throwing ((f_Mo_go ar sc a0 a1 0 0).2.1) ((f_Mo_go ar sc a0 a1 0 0).2.2) 0 0 1).2.1) 4 ((f_Mo_classOf ((f_Mo_throwing ((f_Mo_go ar sc a0 a1 0 0).2.1) ((f_Mo_go ar sc a0 a1 0 0).2.2) 0 0 1).2.1) ((f_Mo_throwing ((f_Mo_go ar sc a0 a1 0 0).2.1) ((f_Mo_go ar sc a0 a1 0 0).2.2) 0 0 1).2.2) a0).toNatClampNeg))))))) ∧ (¬ (((f_Mo_throwing ((f_Mo_go ar sc a0 a1 0 0).2.1) ((f_Mo_go ar sc a0 a1 0 0).2.2) 0 0 1).1) = 0) → True))))) ∧ (¬ (0 ≤ ((f_Mo_go ar sc a0 a1 0 0).1)) → ((((((f_Mo_go ar sc a0 a1 0 0).2.2) 3) + ((f_Mo_go ar sc a0 a1 0 0).1)) ≤ 100 → ((((f_Mo_throwing ((f_Mo_go ar sc a0 a1 0 0).2.1) ((f_Mo_go ar sc a0 a1 0 0).2.2) 0 1 0).1) = 0 → ((p_Mo_classOf ((f_Mo_throwing ((f_Mo_go ar sc a0 a1 0 0).2.1) ((f_Mo_go ar sc a0 a1 0 0).2.2) 0 1 0).2.1) ((f_Mo_throwing ((f_Mo_go ar sc a0 a1 0 0).2.1) ((f_Mo_go ar sc a0 a1 0 0).2.2) 0 1 0).2.2) a0) ∧ ((vp_in (f_Mo_classOf ((f_Mo_throwing ((f_Mo_go ar sc a0 a1 0 0).2.1) ((f_Mo_go ar sc a0 a1 0 0).2.2) 0 1 0).2.1) ((f_Mo_throwing ((f_Mo_go ar sc a0 a1 0 0).2.1) ((f_Mo_go ar sc a0 a1 0 0).2.2) 0 1 0).2.2) a0) 4) ∧ (p_Mo_go ((f_Mo_throwing ((f_Mo_go ar sc a0 a1 0 0).2.1) ((f_Mo_go ar sc a0 a1 0 0).2.2) 0 1 0).2.1) ((f_Mo_throwing ((f_Mo_go ar sc a0 a1 0 0).2.1) ((f_Mo_go ar sc a0 a1 0 0).2.2) 0 1 0).2.2) a0 a1 1 ((((f_Mo_throwing ((f_Mo_go ar sc a0 a1 0 0).2.1) ((f_Mo_go ar sc a0 a1 0 0).2.2) 0 1 0).2.2) 1) + (((f_Mo_throwing ((f_Mo_go ar sc a0 a1 0 0).2.1) ((f_Mo_go ar sc a0 a1 0 0).2.2) 0 1 0).2.1) 4 ((f_Mo_classOf ((f_Mo_throwing ((f_Mo_go ar sc a0 a1 0 0).2.1) ((f_Mo_go ar sc a0 a1 0 0).2.2) 0 1 0).2.1) ((f_Mo_throwing ((f_Mo_go ar sc a0 a1 0 0).2.1) ((f_Mo_go ar sc a0 a1 0 0).2.2) 0 1 0).2.2) a0).toNatClampNeg))))))) ∧ (¬ (((f_Mo_throwing ((f_Mo_go ar sc a0 a1 0 0).2.1) ((f_Mo_go ar sc a0 a1 0 0).2.2) 0 1 0).1) = 0) → True))) ∧ (¬ (((((f_Mo_go ar sc a0 a1 0 0).2.2) 3) + ((f_Mo_go ar sc a0 a1 0 0).1)) ≤ 100) → ((((f_Mo_throwing ((f_Mo_go ar sc a0 a1 0 0).2.1) ((f_Mo_go ar sc a0 a1 0 0).2.2) 0 1 1).1) = 0 → ((p_Mo_classOf ((f_Mo_throwing ((f_Mo_go ar sc a0 a1 0 0).2.1) ((f_Mo_go ar sc a0 a1 0 0).2.2) 0 1 1).2.1) ((f_Mo_throwing ((f_Mo_go ar sc a0 a1 0 0).2.1) ((f_Mo_go ar sc a0 a1 0 0).2.2) 0 1 1).2.2) a0) ∧ ((vp_in (f_Mo_classOf ((f_Mo_throwing ((f_Mo_go ar sc a0 a1 0 0).2.1) ((f_Mo_go ar sc a0 a1 0 0).2.2) 0 1 1).2.1) ((f_Mo_throwing ((f_Mo_go ar sc a0 a1 0 0).2.1) ((f_Mo_go ar sc a0 a1 0 0).2.2) 0 1 1).2.2) a0) 4) ∧ (p_Mo_go ((f_Mo_throwing ((f_Mo_go ar sc a0 a1 0 0).2.1) ((f_Mo_go ar sc a0 a1 0 0).2.2) 0 1 1).2.1) ((f_Mo_throwing ((f_Mo_go ar sc a0 a1 0 0).2.1) ((f_Mo_go ar sc a0 a1 0 0).2.2) 0 1 1).2.2) a0 a1 1 ((((f_Mo_throwing ((f_Mo_go ar sc a0 a1 0 0).2.1) ((f_Mo_go ar sc a0 a1 0 0).2.2) 0 1 1).2.2) 1) + (((f_Mo_throwing ((f_Mo_go ar sc a0 a1 0 0).2.1) ((f_Mo_go ar sc a0 a1 0 0).2.2) 0 1 1).2.1) 4 ((f_Mo_classOf ((f_Mo_throwing ((f_Mo_go ar sc a0 a1 0 0).2.1) ((f_Mo_go ar sc a0 a1 0 0).2.2) 0 1 1).2.1) ((f_Mo_throwing ((f_Mo_go ar sc a0 a1 0 0).2.1) ((f_Mo_go ar sc a0 a1 0 0).2.2) 0 1 1).2.2) a0).toNatClampNeg))))))) ∧ (¬ (((f_Mo_throwing ((f_Mo_go ar sc a0 a1 0 0).2.1) ((f_Mo_go ar sc a0 a1 0 0).2.2) 0 1 1).1) = 0) → True))))))))
def g_Mo_walk_50 (a0 : Int64) (a1 : Int32) (u4 : Int32) (u6 : Int32) : Nat → Int32 → Int32 → (Nat → Nat → Int32) → (Nat → Int32) → Int32 × Int32 × (Nat → Nat → Int32) × (Nat → Int32)
  | 0, v5, v7, ar, sc => (v5, v7, ar, sc)
  | n + 1, v5, v7, ar, sc =>
    if u6 ≤ v7 then
      (v5, v7, ar, sc)
    else
      if v5 = 0 then
        if (f_Mo_placeOf a0 v7) = (f_Mo_placeOf a0 u6) then
          g_Mo_walk_50 a0 a1 u4 u6 n 1 (v7 + 1) ar sc
        else
          g_Mo_walk_50 a0 a1 u4 u6 n 0 (v7 + 1) ar sc
      else
        g_Mo_walk_50 a0 a1 u4 u6 n 1 (v7 + 1) ar sc
def q_Mo_walk_50 (a0 : Int64) (a1 : Int32) (u4 : Int32) (u6 : Int32) : Nat → Int32 → Int32 → (Nat → Nat → Int32) → (Nat → Int32) → Prop
  | 0, _, _, _, _ => False
  | n + 1, v5, v7, ar, sc =>
    (u6 ≤ v7 → True) ∧ (¬ (u6 ≤ v7) → ((v5 = 0 → (((f_Mo_placeOf a0 v7) = (f_Mo_placeOf a0 u6) → (q_Mo_walk_50 a0 a1 u4 u6 n 1 (v7 + 1) ar sc)) ∧ (¬ ((f_Mo_placeOf a0 v7) = (f_Mo_placeOf a0 u6)) → (q_Mo_walk_50 a0 a1 u4 u6 n 0 (v7 + 1) ar sc)))) ∧ (¬ (v5 = 0) → (q_Mo_walk_50 a0 a1 u4 u6 n 1 (v7 + 1) ar sc))))
def g_Mo_walk_9 (a0 : Int64) (a1 : Int32)  : Nat → Int32 → Int32 → Int32 → (Nat → Nat → Int32) → (Nat → Int32) → Int32 × Int32 × Int32 × (Nat → Nat → Int32) × (Nat → Int32)
  | 0, v4, v5, v6, ar, sc => (v4, v5, v6, ar, sc)
  | n + 1, v4, v5, v6, ar, sc =>
    if a1 ≤ v6 then
      (v4, v5, v6, ar, sc)
    else
      if 7 ≤ v6 then
        (v4, v5, v6, ar, sc)
      else
        if v4 = 0 then
          if (f_Mo_isPoint ar sc (f_Mo_placeOf a0 v6)) = 0 then
            g_Mo_walk_9 a0 a1 n 1 ((g_Mo_walk_50 a0 a1 1 v6 200 v5 0 ar sc).1) (v6 + 1) ((g_Mo_walk_50 a0 a1 1 v6 200 v5 0 ar sc).2.2.1) ((g_Mo_walk_50 a0 a1 1 v6 200 v5 0 ar sc).2.2.2)
          else
            g_Mo_walk_9 a0 a1 n 0 ((g_Mo_walk_50 a0 a1 0 v6 200 v5 0 ar sc).1) (v6 + 1) ((g_Mo_walk_50 a0 a1 0 v6 200 v5 0 ar sc).2.2.1) ((g_Mo_walk_50 a0 a1 0 v6 200 v5 0 ar sc).2.2.2)
        else
          g_Mo_walk_9 a0 a1 n 1 ((g_Mo_walk_50 a0 a1 1 v6 200 v5 0 ar sc).1) (v6 + 1) ((g_Mo_walk_50 a0 a1 1 v6 200 v5 0 ar sc).2.2.1) ((g_Mo_walk_50 a0 a1 1 v6 200 v5 0 ar sc).2.2.2)
def q_Mo_walk_9 (a0 : Int64) (a1 : Int32)  : Nat → Int32 → Int32 → Int32 → (Nat → Nat → Int32) → (Nat → Int32) → Prop
  | 0, _, _, _, _, _ => False
  | n + 1, v4, v5, v6, ar, sc =>
    (a1 ≤ v6 → True) ∧ (¬ (a1 ≤ v6) → ((7 ≤ v6 → True) ∧ (¬ (7 ≤ v6) → ((v4 = 0 → (((f_Mo_isPoint ar sc (f_Mo_placeOf a0 v6)) = 0 → ((q_Mo_walk_50 a0 a1 1 v6 200 v5 0 ar sc) ∧ (q_Mo_walk_9 a0 a1 n 1 ((g_Mo_walk_50 a0 a1 1 v6 200 v5 0 ar sc).1) (v6 + 1) ((g_Mo_walk_50 a0 a1 1 v6 200 v5 0 ar sc).2.2.1) ((g_Mo_walk_50 a0 a1 1 v6 200 v5 0 ar sc).2.2.2)))) ∧ (¬ ((f_Mo_isPoint ar sc (f_Mo_placeOf a0 v6)) = 0) → ((q_Mo_walk_50 a0 a1 0 v6 200 v5 0 ar sc) ∧ (q_Mo_walk_9 a0 a1 n 0 ((g_Mo_walk_50 a0 a1 0 v6 200 v5 0 ar sc).1) (v6 + 1) ((g_Mo_walk_50 a0 a1 0 v6 200 v5 0 ar sc).2.2.1) ((g_Mo_walk_50 a0 a1 0 v6 200 v5 0 ar sc).2.2.2)))))) ∧ (¬ (v4 = 0) → ((q_Mo_walk_50 a0 a1 1 v6 200 v5 0 ar sc) ∧ (q_Mo_walk_9 a0 a1 n 1 ((g_Mo_walk_50 a0 a1 1 v6 200 v5 0 ar sc).1) (v6 + 1) ((g_Mo_walk_50 a0 a1 1 v6 200 v5 0 ar sc).2.2.1) ((g_Mo_walk_50 a0 a1 1 v6 200 v5 0 ar sc).2.2.2))))))))
def g_Mo_walk_131 (a0 : Int64) (a1 : Int32) (u4 : Int32) (u5 : Int32) : Nat → Int32 → (Nat → Nat → Int32) → (Nat → Int32) → Int32 × (Nat → Nat → Int32) × (Nat → Int32)
  | 0, v6, ar, sc => (v6, ar, sc)
  | n + 1, v6, ar, sc =>
    if a1 ≤ v6 then
      (v6, ar, sc)
    else
      g_Mo_walk_131 a0 a1 u4 u5 n (v6 + 1) (s2 ar 20 v6.toNatClampNeg (f_Mo_placeOf a0 v6)) sc
def q_Mo_walk_131 (a0 : Int64) (a1 : Int32) (u4 : Int32) (u5 : Int32) : Nat → Int32 → (Nat → Nat → Int32) → (Nat → Int32) → Prop
  | 0, _, _, _ => False
  | n + 1, v6, ar, sc =>
    (a1 ≤ v6 → True) ∧ (¬ (a1 ≤ v6) → ((vp_in v6 7) ∧ (q_Mo_walk_131 a0 a1 u4 u5 n (v6 + 1) (s2 ar 20 v6.toNatClampNeg (f_Mo_placeOf a0 v6)) sc)))
def g_Mo_walk_176 (a0 : Int64) (a1 : Int32) (u4 : Int32) (u5 : Int32) : Nat → Int32 → Int32 → (Nat → Nat → Int32) → (Nat → Int32) → Int32 × Int32 × (Nat → Nat → Int32) × (Nat → Int32)
  | 0, v6, v7, ar, sc => (v6, v7, ar, sc)
  | n + 1, v6, v7, ar, sc =>
    if a1 ≤ v7 then
      (v6, v7, ar, sc)
    else
      if v6 ≤ ((f_Mo_home ar sc (ar 20 v7.toNatClampNeg)) + (ar 21 (((7 * ((1 : Int32) <<< (v7 &&& 31))) + v7).toNatClampNeg))) then
        g_Mo_walk_176 a0 a1 u4 u5 n v6 (v7 + 1) ar sc
      else
        g_Mo_walk_176 a0 a1 u4 u5 n ((f_Mo_home ar sc (ar 20 v7.toNatClampNeg)) + (ar 21 (((7 * ((1 : Int32) <<< (v7 &&& 31))) + v7).toNatClampNeg))) (v7 + 1) ar sc
def q_Mo_walk_176 (a0 : Int64) (a1 : Int32) (u4 : Int32) (u5 : Int32) : Nat → Int32 → Int32 → (Nat → Nat → Int32) → (Nat → Int32) → Prop
  | 0, _, _, _, _ => False
  | n + 1, v6, v7, ar, sc =>
    (a1 ≤ v7 → True) ∧ (¬ (a1 ≤ v7) → ((vp_in v7 7) ∧ ((p_Mo_home ar sc (ar 20 v7.toNatClampNeg)) ∧ ((vp_in ((7 * ((1 : Int32) <<< (v7 &&& 31))) + v7) 896) ∧ ((v6 ≤ ((f_Mo_home ar sc (ar 20 v7.toNatClampNeg)) + (ar 21 (((7 * ((1 : Int32) <<< (v7 &&& 31))) + v7).toNatClampNeg))) → (q_Mo_walk_176 a0 a1 u4 u5 n v6 (v7 + 1) ar sc)) ∧ (¬ (v6 ≤ ((f_Mo_home ar sc (ar 20 v7.toNatClampNeg)) + (ar 21 (((7 * ((1 : Int32) <<< (v7 &&& 31))) + v7).toNatClampNeg)))) → (q_Mo_walk_176 a0 a1 u4 u5 n ((f_Mo_home ar sc (ar 20 v7.toNatClampNeg)) + (ar 21 (((7 * ((1 : Int32) <<< (v7 &&& 31))) + v7).toNatClampNeg))) (v7 + 1) ar sc)))))))
def g_Mo_walk_268 (a0 : Int64) (a1 : Int32) (u4 : Int32) (u5 : Int32) (u6 : Int32) (u7 : Int32) (u8 : Int32) (u9 : Int32) (u10 : Int32) : Nat → Int32 → Int32 → Int32 → (Nat → Nat → Int32) → (Nat → Int32) → Int32 × Int32 × Int32 × (Nat → Nat → Int32) × (Nat → Int32)
  | 0, v11, v12, v13, ar, sc => (v11, v12, v13, ar, sc)
  | n + 1, v11, v12, v13, ar, sc =>
    if v13 < 0 then
      (v11, v12, v13, ar, sc)
    else
      if 0 ≤ u8 then
        if ((u7 >>> (v13 &&& 31)) &&& 1) = 0 then
          if ((f_Mo_between ar sc (ar 20 u8.toNatClampNeg) (ar 20 v13.toNatClampNeg)) + (ar 21 (((7 * (u7 ||| ((1 : Int32) <<< (v13 &&& 31)))) + v13).toNatClampNeg))) = u9 then
            g_Mo_walk_268 a0 a1 u4 u5 u6 u7 u8 u9 u10 n v13 (f_Mo_between ar sc (ar 20 u8.toNatClampNeg) (ar 20 v13.toNatClampNeg)) (v13 + (-1)) ar sc
          else
            g_Mo_walk_268 a0 a1 u4 u5 u6 u7 u8 u9 u10 n v11 v12 (v13 + (-1)) ar sc
        else
          g_Mo_walk_268 a0 a1 u4 u5 u6 u7 u8 u9 u10 n v11 v12 (v13 + (-1)) ar sc
      else
        if ((u7 >>> (v13 &&& 31)) &&& 1) = 0 then
          if ((f_Mo_home ar sc (ar 20 v13.toNatClampNeg)) + (ar 21 (((7 * (u7 ||| ((1 : Int32) <<< (v13 &&& 31)))) + v13).toNatClampNeg))) = u9 then
            g_Mo_walk_268 a0 a1 u4 u5 u6 u7 u8 u9 u10 n v13 (f_Mo_home ar sc (ar 20 v13.toNatClampNeg)) (v13 + (-1)) ar sc
          else
            g_Mo_walk_268 a0 a1 u4 u5 u6 u7 u8 u9 u10 n v11 v12 (v13 + (-1)) ar sc
        else
          g_Mo_walk_268 a0 a1 u4 u5 u6 u7 u8 u9 u10 n v11 v12 (v13 + (-1)) ar sc
def q_Mo_walk_268 (a0 : Int64) (a1 : Int32) (u4 : Int32) (u5 : Int32) (u6 : Int32) (u7 : Int32) (u8 : Int32) (u9 : Int32) (u10 : Int32) : Nat → Int32 → Int32 → Int32 → (Nat → Nat → Int32) → (Nat → Int32) → Prop
  | 0, _, _, _, _, _ => False
  | n + 1, v11, v12, v13, ar, sc =>
    (v13 < 0 → True) ∧ (¬ (v13 < 0) → ((0 ≤ u8 → ((vp_in u8 7) ∧ ((vp_in v13 7) ∧ ((p_Mo_between ar sc (ar 20 u8.toNatClampNeg) (ar 20 v13.toNatClampNeg)) ∧ ((((u7 >>> (v13 &&& 31)) &&& 1) = 0 → ((vp_in ((7 * (u7 ||| ((1 : Int32) <<< (v13 &&& 31)))) + v13) 896) ∧ ((((f_Mo_between ar sc (ar 20 u8.toNatClampNeg) (ar 20 v13.toNatClampNeg)) + (ar 21 (((7 * (u7 ||| ((1 : Int32) <<< (v13 &&& 31)))) + v13).toNatClampNeg))) = u9 → (q_Mo_walk_268 a0 a1 u4 u5 u6 u7 u8 u9 u10 n v13 (f_Mo_between ar sc (ar 20 u8.toNatClampNeg) (ar 20 v13.toNatClampNeg)) (v13 + (-1)) ar sc)) ∧ (¬ (((f_Mo_between ar sc (ar 20 u8.toNatClampNeg) (ar 20 v13.toNatClampNeg)) + (ar 21 (((7 * (u7 ||| ((1 : Int32) <<< (v13 &&& 31)))) + v13).toNatClampNeg))) = u9) → (q_Mo_walk_268 a0 a1 u4 u5 u6 u7 u8 u9 u10 n v11 v12 (v13 + (-1)) ar sc))))) ∧ (¬ (((u7 >>> (v13 &&& 31)) &&& 1) = 0) → (q_Mo_walk_268 a0 a1 u4 u5 u6 u7 u8 u9 u10 n v11 v12 (v13 + (-1)) ar sc))))))) ∧ (¬ (0 ≤ u8) → ((vp_in v13 7) ∧ ((p_Mo_home ar sc (ar 20 v13.toNatClampNeg)) ∧ ((((u7 >>> (v13 &&& 31)) &&& 1) = 0 → ((vp_in ((7 * (u7 ||| ((1 : Int32) <<< (v13 &&& 31)))) + v13) 896) ∧ ((((f_Mo_home ar sc (ar 20 v13.toNatClampNeg)) + (ar 21 (((7 * (u7 ||| ((1 : Int32) <<< (v13 &&& 31)))) + v13).toNatClampNeg))) = u9 → (q_Mo_walk_268 a0 a1 u4 u5 u6 u7 u8 u9 u10 n v13 (f_Mo_home ar sc (ar 20 v13.toNatClampNeg)) (v13 + (-1)) ar sc)) ∧ (¬ (((f_Mo_home ar sc (ar 20 v13.toNatClampNeg)) + (ar 21 (((7 * (u7 ||| ((1 : Int32) <<< (v13 &&& 31)))) + v13).toNatClampNeg))) = u9) → (q_Mo_walk_268 a0 a1 u4 u5 u6 u7 u8 u9 u10 n v11 v12 (v13 + (-1)) ar sc))))) ∧ (¬ (((u7 >>> (v13 &&& 31)) &&& 1) = 0) → (q_Mo_walk_268 a0 a1 u4 u5 u6 u7 u8 u9 u10 n v11 v12 (v13 + (-1)) ar sc))))))))
def g_Mo_walk_251 (a0 : Int64) (a1 : Int32) (u4 : Int32) (u5 : Int32) (u6 : Int32) : Nat → Int32 → Int32 → Int32 → Int32 → (Nat → Nat → Int32) → (Nat → Int32) → Int32 × Int32 × Int32 × Int32 × (Nat → Nat → Int32) × (Nat → Int32)
  | 0, v7, v8, v9, v10, ar, sc => (v7, v8, v9, v10, ar, sc)
  | n + 1, v7, v8, v9, v10, ar, sc =>
    if a1 ≤ v10 then
      (v7, v8, v9, v10, ar, sc)
    else
      g_Mo_walk_251 a0 a1 u4 u5 u6 n (v7 ||| ((1 : Int32) <<< (((g_Mo_walk_268 a0 a1 u4 u5 u6 v7 v8 v9 v10 200 (-1) 0 (a1 - 1) ar sc).1) &&& 31))) ((g_Mo_walk_268 a0 a1 u4 u5 u6 v7 v8 v9 v10 200 (-1) 0 (a1 - 1) ar sc).1) (v9 - ((g_Mo_walk_268 a0 a1 u4 u5 u6 v7 v8 v9 v10 200 (-1) 0 (a1 - 1) ar sc).2.1)) (v10 + 1) (s2 ((g_Mo_walk_268 a0 a1 u4 u5 u6 v7 v8 v9 v10 200 (-1) 0 (a1 - 1) ar sc).2.2.2.1) 19 v10.toNatClampNeg (((g_Mo_walk_268 a0 a1 u4 u5 u6 v7 v8 v9 v10 200 (-1) 0 (a1 - 1) ar sc).2.2.2.1) 20 (((g_Mo_walk_268 a0 a1 u4 u5 u6 v7 v8 v9 v10 200 (-1) 0 (a1 - 1) ar sc).1).toNatClampNeg))) ((g_Mo_walk_268 a0 a1 u4 u5 u6 v7 v8 v9 v10 200 (-1) 0 (a1 - 1) ar sc).2.2.2.2)
def q_Mo_walk_251 (a0 : Int64) (a1 : Int32) (u4 : Int32) (u5 : Int32) (u6 : Int32) : Nat → Int32 → Int32 → Int32 → Int32 → (Nat → Nat → Int32) → (Nat → Int32) → Prop
  | 0, _, _, _, _, _, _ => False
  | n + 1, v7, v8, v9, v10, ar, sc =>
    (a1 ≤ v10 → True) ∧ (¬ (a1 ≤ v10) → ((q_Mo_walk_268 a0 a1 u4 u5 u6 v7 v8 v9 v10 200 (-1) 0 (a1 - 1) ar sc) ∧ ((vp_in ((g_Mo_walk_268 a0 a1 u4 u5 u6 v7 v8 v9 v10 200 (-1) 0 (a1 - 1) ar sc).1) 7) ∧ ((vp_in v10 7) ∧ (q_Mo_walk_251 a0 a1 u4 u5 u6 n (v7 ||| ((1 : Int32) <<< (((g_Mo_walk_268 a0 a1 u4 u5 u6 v7 v8 v9 v10 200 (-1) 0 (a1 - 1) ar sc).1) &&& 31))) ((g_Mo_walk_268 a0 a1 u4 u5 u6 v7 v8 v9 v10 200 (-1) 0 (a1 - 1) ar sc).1) (v9 - ((g_Mo_walk_268 a0 a1 u4 u5 u6 v7 v8 v9 v10 200 (-1) 0 (a1 - 1) ar sc).2.1)) (v10 + 1) (s2 ((g_Mo_walk_268 a0 a1 u4 u5 u6 v7 v8 v9 v10 200 (-1) 0 (a1 - 1) ar sc).2.2.2.1) 19 v10.toNatClampNeg (((g_Mo_walk_268 a0 a1 u4 u5 u6 v7 v8 v9 v10 200 (-1) 0 (a1 - 1) ar sc).2.2.2.1) 20 (((g_Mo_walk_268 a0 a1 u4 u5 u6 v7 v8 v9 v10 200 (-1) 0 (a1 - 1) ar sc).1).toNatClampNeg))) ((g_Mo_walk_268 a0 a1 u4 u5 u6 v7 v8 v9 v10 200 (-1) 0 (a1 - 1) ar sc).2.2.2.2))))))
def k_Mo_walk_251 (a0 : Int64) (a1 : Int32) (v7 : Int32) (v8 : Int32) (v9 : Int32) (v10 : Int32) (u4 : Int32) (u5 : Int32) (u6 : Int32) (ar : Nat → Nat → Int32) (sc : Nat → Int32) : Int32 × (Nat → Nat → Int32) × (Nat → Int32) :=
  (u6, ar, sc)
def k_Mo_walk_176 (a0 : Int64) (a1 : Int32) (v6 : Int32) (v7 : Int32) (u4 : Int32) (u5 : Int32) (ar : Nat → Nat → Int32) (sc : Nat → Int32) : Int32 × (Nat → Nat → Int32) × (Nat → Int32) :=
  k_Mo_walk_251 a0 a1 ((g_Mo_walk_251 a0 a1 u4 u5 v6 200 0 (-1) v6 0 ar (sg sc 4 a1)).1) ((g_Mo_walk_251 a0 a1 u4 u5 v6 200 0 (-1) v6 0 ar (sg sc 4 a1)).2.1) ((g_Mo_walk_251 a0 a1 u4 u5 v6 200 0 (-1) v6 0 ar (sg sc 4 a1)).2.2.1) ((g_Mo_walk_251 a0 a1 u4 u5 v6 200 0 (-1) v6 0 ar (sg sc 4 a1)).2.2.2.1) u4 u5 v6 ((g_Mo_walk_251 a0 a1 u4 u5 v6 200 0 (-1) v6 0 ar (sg sc 4 a1)).2.2.2.2.1) ((g_Mo_walk_251 a0 a1 u4 u5 v6 200 0 (-1) v6 0 ar (sg sc 4 a1)).2.2.2.2.2)
def j_Mo_walk_176 (a0 : Int64) (a1 : Int32) (v6 : Int32) (v7 : Int32) (u4 : Int32) (u5 : Int32) (ar : Nat → Nat → Int32) (sc : Nat → Int32) : Prop :=
  q_Mo_walk_251 a0 a1 u4 u5 v6 200 0 (-1) v6 0 ar (sg sc 4 a1)
def k_Mo_walk_131 (a0 : Int64) (a1 : Int32) (v6 : Int32) (u4 : Int32) (u5 : Int32) (ar : Nat → Nat → Int32) (sc : Nat → Int32) : Int32 × (Nat → Nat → Int32) × (Nat → Int32) :=
  if a1 = 0 then
    k_Mo_walk_176 a0 a1 ((g_Mo_walk_176 a0 a1 u4 u5 200 0 0 ((f_Mo_reckon ar sc a1).1) ((f_Mo_reckon ar sc a1).2)).1) ((g_Mo_walk_176 a0 a1 u4 u5 200 0 0 ((f_Mo_reckon ar sc a1).1) ((f_Mo_reckon ar sc a1).2)).2.1) u4 u5 ((g_Mo_walk_176 a0 a1 u4 u5 200 0 0 ((f_Mo_reckon ar sc a1).1) ((f_Mo_reckon ar sc a1).2)).2.2.1) ((g_Mo_walk_176 a0 a1 u4 u5 200 0 0 ((f_Mo_reckon ar sc a1).1) ((f_Mo_reckon ar sc a1).2)).2.2.2)
  else
    k_Mo_walk_176 a0 a1 ((g_Mo_walk_176 a0 a1 u4 u5 200 1000000000 0 ((f_Mo_reckon ar sc a1).1) ((f_Mo_reckon ar sc a1).2)).1) ((g_Mo_walk_176 a0 a1 u4 u5 200 1000000000 0 ((f_Mo_reckon ar sc a1).1) ((f_Mo_reckon ar sc a1).2)).2.1) u4 u5 ((g_Mo_walk_176 a0 a1 u4 u5 200 1000000000 0 ((f_Mo_reckon ar sc a1).1) ((f_Mo_reckon ar sc a1).2)).2.2.1) ((g_Mo_walk_176 a0 a1 u4 u5 200 1000000000 0 ((f_Mo_reckon ar sc a1).1) ((f_Mo_reckon ar sc a1).2)).2.2.2)
def j_Mo_walk_131 (a0 : Int64) (a1 : Int32) (v6 : Int32) (u4 : Int32) (u5 : Int32) (ar : Nat → Nat → Int32) (sc : Nat → Int32) : Prop :=
  (p_Mo_reckon ar sc a1) ∧ ((a1 = 0 → ((q_Mo_walk_176 a0 a1 u4 u5 200 0 0 ((f_Mo_reckon ar sc a1).1) ((f_Mo_reckon ar sc a1).2)) ∧ (j_Mo_walk_176 a0 a1 ((g_Mo_walk_176 a0 a1 u4 u5 200 0 0 ((f_Mo_reckon ar sc a1).1) ((f_Mo_reckon ar sc a1).2)).1) ((g_Mo_walk_176 a0 a1 u4 u5 200 0 0 ((f_Mo_reckon ar sc a1).1) ((f_Mo_reckon ar sc a1).2)).2.1) u4 u5 ((g_Mo_walk_176 a0 a1 u4 u5 200 0 0 ((f_Mo_reckon ar sc a1).1) ((f_Mo_reckon ar sc a1).2)).2.2.1) ((g_Mo_walk_176 a0 a1 u4 u5 200 0 0 ((f_Mo_reckon ar sc a1).1) ((f_Mo_reckon ar sc a1).2)).2.2.2)))) ∧ (¬ (a1 = 0) → ((q_Mo_walk_176 a0 a1 u4 u5 200 1000000000 0 ((f_Mo_reckon ar sc a1).1) ((f_Mo_reckon ar sc a1).2)) ∧ (j_Mo_walk_176 a0 a1 ((g_Mo_walk_176 a0 a1 u4 u5 200 1000000000 0 ((f_Mo_reckon ar sc a1).1) ((f_Mo_reckon ar sc a1).2)).1) ((g_Mo_walk_176 a0 a1 u4 u5 200 1000000000 0 ((f_Mo_reckon ar sc a1).1) ((f_Mo_reckon ar sc a1).2)).2.1) u4 u5 ((g_Mo_walk_176 a0 a1 u4 u5 200 1000000000 0 ((f_Mo_reckon ar sc a1).1) ((f_Mo_reckon ar sc a1).2)).2.2.1) ((g_Mo_walk_176 a0 a1 u4 u5 200 1000000000 0 ((f_Mo_reckon ar sc a1).1) ((f_Mo_reckon ar sc a1).2)).2.2.2)))))
def k_Mo_walk_9 (a0 : Int64) (a1 : Int32) (v4 : Int32) (v5 : Int32) (v6 : Int32) (ar : Nat → Nat → Int32) (sc : Nat → Int32) : Int32 × (Nat → Nat → Int32) × (Nat → Int32) :=
  if (f_Mo_in a1 0 7) = 0 then
    if ((f_Mo_throwing ar sc v4 1 0).1) = 0 then
      k_Mo_walk_131 a0 a1 ((g_Mo_walk_131 a0 a1 v4 v5 200 0 ((f_Mo_throwing ar sc v4 1 0).2.1) ((f_Mo_throwing ar sc v4 1 0).2.2)).1) v4 v5 ((g_Mo_walk_131 a0 a1 v4 v5 200 0 ((f_Mo_throwing ar sc v4 1 0).2.1) ((f_Mo_throwing ar sc v4 1 0).2.2)).2.1) ((g_Mo_walk_131 a0 a1 v4 v5 200 0 ((f_Mo_throwing ar sc v4 1 0).2.1) ((f_Mo_throwing ar sc v4 1 0).2.2)).2.2)
    else
      (0, (f_Mo_throwing ar sc v4 1 0).2.1, (f_Mo_throwing ar sc v4 1 0).2.2)
  else
    if v5 = 0 then
      if ((f_Mo_throwing ar sc v4 0 0).1) = 0 then
        k_Mo_walk_131 a0 a1 ((g_Mo_walk_131 a0 a1 v4 v5 200 0 ((f_Mo_throwing ar sc v4 0 0).2.1) ((f_Mo_throwing ar sc v4 0 0).2.2)).1) v4 v5 ((g_Mo_walk_131 a0 a1 v4 v5 200 0 ((f_Mo_throwing ar sc v4 0 0).2.1) ((f_Mo_throwing ar sc v4 0 0).2.2)).2.1) ((g_Mo_walk_131 a0 a1 v4 v5 200 0 ((f_Mo_throwing ar sc v4 0 0).2.1) ((f_Mo_throwing ar sc v4 0 0).2.2)).2.2)
      else
        (0, (f_Mo_throwing ar sc v4 0 0).2.1, (f_Mo_throwing ar sc v4 0 0).2.2)
    else
      if ((f_Mo_throwing ar sc v4 1 0).1) = 0 then
        k_Mo_walk_131 a0 a1 ((g_Mo_walk_131 a0 a1 v4 v5 200 0 ((f_Mo_throwing ar sc v4 1 0).2.1) ((f_Mo_throwing ar sc v4 1 0).2.2)).1) v4 v5 ((g_Mo_walk_131 a0 a1 v4 v5 200 0 ((f_Mo_throwing ar sc v4 1 0).2.1) ((f_Mo_throwing ar sc v4 1 0).2.2)).2.1) ((g_Mo_walk_131 a0 a1 v4 v5 200 0 ((f_Mo_throwing ar sc v4 1 0).2.1) ((f_Mo_throwing ar sc v4 1 0).2.2)).2.2)
      else
        (0, (f_Mo_throwing ar sc v4 1 0).2.1, (f_Mo_throwing ar sc v4 1 0).2.2)
def j_Mo_walk_9 (a0 : Int64) (a1 : Int32) (v4 : Int32) (v5 : Int32) (v6 : Int32) (ar : Nat → Nat → Int32) (sc : Nat → Int32) : Prop :=
  ((f_Mo_in a1 0 7) = 0 → ((((f_Mo_throwing ar sc v4 1 0).1) = 0 → ((q_Mo_walk_131 a0 a1 v4 v5 200 0 ((f_Mo_throwing ar sc v4 1 0).2.1) ((f_Mo_throwing ar sc v4 1 0).2.2)) ∧ (j_Mo_walk_131 a0 a1 ((g_Mo_walk_131 a0 a1 v4 v5 200 0 ((f_Mo_throwing ar sc v4 1 0).2.1) ((f_Mo_throwing ar sc v4 1 0).2.2)).1) v4 v5 ((g_Mo_walk_131 a0 a1 v4 v5 200 0 ((f_Mo_throwing ar sc v4 1 0).2.1) ((f_Mo_throwing ar sc v4 1 0).2.2)).2.1) ((g_Mo_walk_131 a0 a1 v4 v5 200 0 ((f_Mo_throwing ar sc v4 1 0).2.1) ((f_Mo_throwing ar sc v4 1 0).2.2)).2.2)))) ∧ (¬ (((f_Mo_throwing ar sc v4 1 0).1) = 0) → True))) ∧ (¬ ((f_Mo_in a1 0 7) = 0) → ((v5 = 0 → ((((f_Mo_throwing ar sc v4 0 0).1) = 0 → ((q_Mo_walk_131 a0 a1 v4 v5 200 0 ((f_Mo_throwing ar sc v4 0 0).2.1) ((f_Mo_throwing ar sc v4 0 0).2.2)) ∧ (j_Mo_walk_131 a0 a1 ((g_Mo_walk_131 a0 a1 v4 v5 200 0 ((f_Mo_throwing ar sc v4 0 0).2.1) ((f_Mo_throwing ar sc v4 0 0).2.2)).1) v4 v5 ((g_Mo_walk_131 a0 a1 v4 v5 200 0 ((f_Mo_throwing ar sc v4 0 0).2.1) ((f_Mo_throwing ar sc v4 0 0).2.2)).2.1) ((g_Mo_walk_131 a0 a1 v4 v5 200 0 ((f_Mo_throwing ar sc v4 0 0).2.1) ((f_Mo_throwing ar sc v4 0 0).2.2)).2.2)))) ∧ (¬ (((f_Mo_throwing ar sc v4 0 0).1) = 0) → True))) ∧ (¬ (v5 = 0) → ((((f_Mo_throwing ar sc v4 1 0).1) = 0 → ((q_Mo_walk_131 a0 a1 v4 v5 200 0 ((f_Mo_throwing ar sc v4 1 0).2.1) ((f_Mo_throwing ar sc v4 1 0).2.2)) ∧ (j_Mo_walk_131 a0 a1 ((g_Mo_walk_131 a0 a1 v4 v5 200 0 ((f_Mo_throwing ar sc v4 1 0).2.1) ((f_Mo_throwing ar sc v4 1 0).2.2)).1) v4 v5 ((g_Mo_walk_131 a0 a1 v4 v5 200 0 ((f_Mo_throwing ar sc v4 1 0).2.1) ((f_Mo_throwing ar sc v4 1 0).2.2)).2.1) ((g_Mo_walk_131 a0 a1 v4 v5 200 0 ((f_Mo_throwing ar sc v4 1 0).2.1) ((f_Mo_throwing ar sc v4 1 0).2.2)).2.2)))) ∧ (¬ (((f_Mo_throwing ar sc v4 1 0).1) = 0) → True)))))
def f_Mo_walk (ar : Nat → Nat → Int32) (sc : Nat → Int32) (a0 : Int64) (a1 : Int32) : Int32 × (Nat → Nat → Int32) × (Nat → Int32) :=
  k_Mo_walk_9 a0 a1 ((g_Mo_walk_9 a0 a1 200 0 0 0 ar sc).1) ((g_Mo_walk_9 a0 a1 200 0 0 0 ar sc).2.1) ((g_Mo_walk_9 a0 a1 200 0 0 0 ar sc).2.2.1) ((g_Mo_walk_9 a0 a1 200 0 0 0 ar sc).2.2.2.1) ((g_Mo_walk_9 a0 a1 200 0 0 0 ar sc).2.2.2.2)
def p_Mo_walk (ar : Nat → Nat → Int32) (sc : Nat → Int32) (a0 : Int64) (a1 : Int32) : Prop :=
  (q_Mo_walk_9 a0 a1 200 0 0 0 ar sc) ∧ (j_Mo_walk_9 a0 a1 ((g_Mo_walk_9 a0 a1 200 0 0 0 ar sc).1) ((g_Mo_walk_9 a0 a1 200 0 0 0 ar sc).2.1) ((g_Mo_walk_9 a0 a1 200 0 0 0 ar sc).2.2.1) ((g_Mo_walk_9 a0 a1 200 0 0 0 ar sc).2.2.2.1) ((g_Mo_walk_9 a0 a1 200 0 0 0 ar sc).2.2.2.2))
def f_Mo_stop (ar : Nat → Nat → Int32) (sc : Nat → Int32) (a0 : Int32) : Int32 × (Nat → Nat → Int32) × (Nat → Int32) :=
  if 0 ≤ a0 then
    if ((f_Mo_throwing ar sc 0 0 0).1) = 0 then
      if (((f_Mo_throwing ar sc 0 0 0).2.2) 4) ≤ a0 then
        ((-1), (f_Mo_throwing ar sc 0 0 0).2.1, (f_Mo_throwing ar sc 0 0 0).2.2)
      else
        (((f_Mo_throwing ar sc 0 0 0).2.1) 19 a0.toNatClampNeg, (f_Mo_throwing ar sc 0 0 0).2.1, (f_Mo_throwing ar sc 0 0 0).2.2)
    else
      (0, (f_Mo_throwing ar sc 0 0 0).2.1, (f_Mo_throwing ar sc 0 0 0).2.2)
  else
    if ((f_Mo_throwing ar sc 1 0 0).1) = 0 then
      if (((f_Mo_throwing ar sc 1 0 0).2.2) 4) ≤ a0 then
        ((-1), (f_Mo_throwing ar sc 1 0 0).2.1, (f_Mo_throwing ar sc 1 0 0).2.2)
      else
        (((f_Mo_throwing ar sc 1 0 0).2.1) 19 a0.toNatClampNeg, (f_Mo_throwing ar sc 1 0 0).2.1, (f_Mo_throwing ar sc 1 0 0).2.2)
    else
      (0, (f_Mo_throwing ar sc 1 0 0).2.1, (f_Mo_throwing ar sc 1 0 0).2.2)
def p_Mo_stop (ar : Nat → Nat → Int32) (sc : Nat → Int32) (a0 : Int32) : Prop :=
  (0 ≤ a0 → ((((f_Mo_throwing ar sc 0 0 0).1) = 0 → (((((f_Mo_throwing ar sc 0 0 0).2.2) 4) ≤ a0 → True) ∧ (¬ ((((f_Mo_throwing ar sc 0 0 0).2.2) 4) ≤ a0) → (vp_in a0 7)))) ∧ (¬ (((f_Mo_throwing ar sc 0 0 0).1) = 0) → True))) ∧ (¬ (0 ≤ a0) → ((((f_Mo_throwing ar sc 1 0 0).1) = 0 → (((((f_Mo_throwing ar sc 1 0 0).2.2) 4) ≤ a0 → True) ∧ (¬ ((((f_Mo_throwing ar sc 1 0 0).2.2) 4) ≤ a0) → (vp_in a0 7)))) ∧ (¬ (((f_Mo_throwing ar sc 1 0 0).1) = 0) → True)))
def f_Mo_rules (ar : Nat → Nat → Int32) (sc : Nat → Int32) (a0 : Int32) (a1 : Int32) : (Nat → Nat → Int32) × (Nat → Int32) :=
  if (f_Mo_in a0 0 10000000) = 0 then
    if ((f_Mo_throwing ar sc 1 0 0).1) = 0 then
      ((f_Mo_throwing ar sc 1 0 0).2.1, sg (sg ((f_Mo_throwing ar sc 1 0 0).2.2) 5 a0) 6 a1)
    else
      ((f_Mo_throwing ar sc 1 0 0).2.1, (f_Mo_throwing ar sc 1 0 0).2.2)
  else
    if (f_Mo_in a1 0 1000000) = 0 then
      if ((f_Mo_throwing ar sc 1 0 0).1) = 0 then
        ((f_Mo_throwing ar sc 1 0 0).2.1, sg (sg ((f_Mo_throwing ar sc 1 0 0).2.2) 5 a0) 6 a1)
      else
        ((f_Mo_throwing ar sc 1 0 0).2.1, (f_Mo_throwing ar sc 1 0 0).2.2)
    else
      if ((f_Mo_throwing ar sc 0 0 0).1) = 0 then
        ((f_Mo_throwing ar sc 0 0 0).2.1, sg (sg ((f_Mo_throwing ar sc 0 0 0).2.2) 5 a0) 6 a1)
      else
        ((f_Mo_throwing ar sc 0 0 0).2.1, (f_Mo_throwing ar sc 0 0 0).2.2)
def g_Mo_permit_103 (a0 : Int32) (a1 : Int32) (a2 : Int32) (u4 : Int32) : Nat → Int32 → (Nat → Nat → Int32) → (Nat → Int32) → Int32 × (Nat → Nat → Int32) × (Nat → Int32)
  | 0, v5, ar, sc => (v5, ar, sc)
  | n + 1, v5, ar, sc =>
    if 4 ≤ v5 then
      (v5, ar, sc)
    else
      g_Mo_permit_103 a0 a1 a2 u4 n (v5 + 1) (s2 ar 22 (((4 * (sc 8)) + v5).toNatClampNeg) (ar 22 ((120 + v5 : Int32).toNatClampNeg))) sc
def q_Mo_permit_103 (a0 : Int32) (a1 : Int32) (a2 : Int32) (u4 : Int32) : Nat → Int32 → (Nat → Nat → Int32) → (Nat → Int32) → Prop
  | 0, _, _, _ => False
  | n + 1, v5, ar, sc =>
    (4 ≤ v5 → True) ∧ (¬ (4 ≤ v5) → ((vp_in (120 + v5) 124) ∧ ((vp_in ((4 * (sc 8)) + v5) 124) ∧ (q_Mo_permit_103 a0 a1 a2 u4 n (v5 + 1) (s2 ar 22 (((4 * (sc 8)) + v5).toNatClampNeg) (ar 22 ((120 + v5 : Int32).toNatClampNeg))) sc))))
def f_Mo_permit (ar : Nat → Nat → Int32) (sc : Nat → Int32) (a0 : Int32) (a1 : Int32) (a2 : Int32) : Int32 × (Nat → Nat → Int32) × (Nat → Int32) :=
  if (f_Mo_in a0 0 9999999) = 0 then
    if ((sg sc 9 (sc 9)) 9) = (-1) then
      if ((sg sc 9 (sc 9)) 8) = 30 then
        if ((f_Mo_throwing ar (sg sc 9 (sc 9)) 1 0 1).1) = 0 then
          (((sg ((g_Mo_permit_103 a0 a1 a2 1 200 0 ((f_Mo_throwing ar (sg sc 9 (sc 9)) 1 0 1).2.1) ((f_Mo_throwing ar (sg sc 9 (sc 9)) 1 0 1).2.2)).2.2) 8 ((((g_Mo_permit_103 a0 a1 a2 1 200 0 ((f_Mo_throwing ar (sg sc 9 (sc 9)) 1 0 1).2.1) ((f_Mo_throwing ar (sg sc 9 (sc 9)) 1 0 1).2.2)).2.2) 8) + 1)) 8) - 1, s2 (s2 ((g_Mo_permit_103 a0 a1 a2 1 200 0 ((f_Mo_throwing ar (sg sc 9 (sc 9)) 1 0 1).2.1) ((f_Mo_throwing ar (sg sc 9 (sc 9)) 1 0 1).2.2)).2.1) 23 ((((g_Mo_permit_103 a0 a1 a2 1 200 0 ((f_Mo_throwing ar (sg sc 9 (sc 9)) 1 0 1).2.1) ((f_Mo_throwing ar (sg sc 9 (sc 9)) 1 0 1).2.2)).2.2) 8).toNatClampNeg) a0) 24 ((((g_Mo_permit_103 a0 a1 a2 1 200 0 ((f_Mo_throwing ar (sg sc 9 (sc 9)) 1 0 1).2.1) ((f_Mo_throwing ar (sg sc 9 (sc 9)) 1 0 1).2.2)).2.2) 8).toNatClampNeg) a1, sg ((g_Mo_permit_103 a0 a1 a2 1 200 0 ((f_Mo_throwing ar (sg sc 9 (sc 9)) 1 0 1).2.1) ((f_Mo_throwing ar (sg sc 9 (sc 9)) 1 0 1).2.2)).2.2) 8 ((((g_Mo_permit_103 a0 a1 a2 1 200 0 ((f_Mo_throwing ar (sg sc 9 (sc 9)) 1 0 1).2.1) ((f_Mo_throwing ar (sg sc 9 (sc 9)) 1 0 1).2.2)).2.2) 8) + 1))
        else
          (0, (f_Mo_throwing ar (sg sc 9 (sc 9)) 1 0 1).2.1, (f_Mo_throwing ar (sg sc 9 (sc 9)) 1 0 1).2.2)
      else
        if ((f_Mo_throwing ar (sg sc 9 (sc 9)) 1 0 0).1) = 0 then
          (((sg ((g_Mo_permit_103 a0 a1 a2 1 200 0 ((f_Mo_throwing ar (sg sc 9 (sc 9)) 1 0 0).2.1) ((f_Mo_throwing ar (sg sc 9 (sc 9)) 1 0 0).2.2)).2.2) 8 ((((g_Mo_permit_103 a0 a1 a2 1 200 0 ((f_Mo_throwing ar (sg sc 9 (sc 9)) 1 0 0).2.1) ((f_Mo_throwing ar (sg sc 9 (sc 9)) 1 0 0).2.2)).2.2) 8) + 1)) 8) - 1, s2 (s2 ((g_Mo_permit_103 a0 a1 a2 1 200 0 ((f_Mo_throwing ar (sg sc 9 (sc 9)) 1 0 0).2.1) ((f_Mo_throwing ar (sg sc 9 (sc 9)) 1 0 0).2.2)).2.1) 23 ((((g_Mo_permit_103 a0 a1 a2 1 200 0 ((f_Mo_throwing ar (sg sc 9 (sc 9)) 1 0 0).2.1) ((f_Mo_throwing ar (sg sc 9 (sc 9)) 1 0 0).2.2)).2.2) 8).toNatClampNeg) a0) 24 ((((g_Mo_permit_103 a0 a1 a2 1 200 0 ((f_Mo_throwing ar (sg sc 9 (sc 9)) 1 0 0).2.1) ((f_Mo_throwing ar (sg sc 9 (sc 9)) 1 0 0).2.2)).2.2) 8).toNatClampNeg) a1, sg ((g_Mo_permit_103 a0 a1 a2 1 200 0 ((f_Mo_throwing ar (sg sc 9 (sc 9)) 1 0 0).2.1) ((f_Mo_throwing ar (sg sc 9 (sc 9)) 1 0 0).2.2)).2.2) 8 ((((g_Mo_permit_103 a0 a1 a2 1 200 0 ((f_Mo_throwing ar (sg sc 9 (sc 9)) 1 0 0).2.1) ((f_Mo_throwing ar (sg sc 9 (sc 9)) 1 0 0).2.2)).2.2) 8) + 1))
        else
          (0, (f_Mo_throwing ar (sg sc 9 (sc 9)) 1 0 0).2.1, (f_Mo_throwing ar (sg sc 9 (sc 9)) 1 0 0).2.2)
    else
      if ((sg sc 9 (sc 9)) 8) = 30 then
        if ((f_Mo_throwing ar (sg sc 9 (sc 9)) 1 1 1).1) = 0 then
          (((sg ((g_Mo_permit_103 a0 a1 a2 1 200 0 ((f_Mo_throwing ar (sg sc 9 (sc 9)) 1 1 1).2.1) ((f_Mo_throwing ar (sg sc 9 (sc 9)) 1 1 1).2.2)).2.2) 8 ((((g_Mo_permit_103 a0 a1 a2 1 200 0 ((f_Mo_throwing ar (sg sc 9 (sc 9)) 1 1 1).2.1) ((f_Mo_throwing ar (sg sc 9 (sc 9)) 1 1 1).2.2)).2.2) 8) + 1)) 8) - 1, s2 (s2 ((g_Mo_permit_103 a0 a1 a2 1 200 0 ((f_Mo_throwing ar (sg sc 9 (sc 9)) 1 1 1).2.1) ((f_Mo_throwing ar (sg sc 9 (sc 9)) 1 1 1).2.2)).2.1) 23 ((((g_Mo_permit_103 a0 a1 a2 1 200 0 ((f_Mo_throwing ar (sg sc 9 (sc 9)) 1 1 1).2.1) ((f_Mo_throwing ar (sg sc 9 (sc 9)) 1 1 1).2.2)).2.2) 8).toNatClampNeg) a0) 24 ((((g_Mo_permit_103 a0 a1 a2 1 200 0 ((f_Mo_throwing ar (sg sc 9 (sc 9)) 1 1 1).2.1) ((f_Mo_throwing ar (sg sc 9 (sc 9)) 1 1 1).2.2)).2.2) 8).toNatClampNeg) a1, sg ((g_Mo_permit_103 a0 a1 a2 1 200 0 ((f_Mo_throwing ar (sg sc 9 (sc 9)) 1 1 1).2.1) ((f_Mo_throwing ar (sg sc 9 (sc 9)) 1 1 1).2.2)).2.2) 8 ((((g_Mo_permit_103 a0 a1 a2 1 200 0 ((f_Mo_throwing ar (sg sc 9 (sc 9)) 1 1 1).2.1) ((f_Mo_throwing ar (sg sc 9 (sc 9)) 1 1 1).2.2)).2.2) 8) + 1))
        else
          (0, (f_Mo_throwing ar (sg sc 9 (sc 9)) 1 1 1).2.1, (f_Mo_throwing ar (sg sc 9 (sc 9)) 1 1 1).2.2)
      else
        if ((f_Mo_throwing ar (sg sc 9 (sc 9)) 1 1 0).1) = 0 then
          (((sg ((g_Mo_permit_103 a0 a1 a2 1 200 0 ((f_Mo_throwing ar (sg sc 9 (sc 9)) 1 1 0).2.1) ((f_Mo_throwing ar (sg sc 9 (sc 9)) 1 1 0).2.2)).2.2) 8 ((((g_Mo_permit_103 a0 a1 a2 1 200 0 ((f_Mo_throwing ar (sg sc 9 (sc 9)) 1 1 0).2.1) ((f_Mo_throwing ar (sg sc 9 (sc 9)) 1 1 0).2.2)).2.2) 8) + 1)) 8) - 1, s2 (s2 ((g_Mo_permit_103 a0 a1 a2 1 200 0 ((f_Mo_throwing ar (sg sc 9 (sc 9)) 1 1 0).2.1) ((f_Mo_throwing ar (sg sc 9 (sc 9)) 1 1 0).2.2)).2.1) 23 ((((g_Mo_permit_103 a0 a1 a2 1 200 0 ((f_Mo_throwing ar (sg sc 9 (sc 9)) 1 1 0).2.1) ((f_Mo_throwing ar (sg sc 9 (sc 9)) 1 1 0).2.2)).2.2) 8).toNatClampNeg) a0) 24 ((((g_Mo_permit_103 a0 a1 a2 1 200 0 ((f_Mo_throwing ar (sg sc 9 (sc 9)) 1 1 0).2.1) ((f_Mo_throwing ar (sg sc 9 (sc 9)) 1 1 0).2.2)).2.2) 8).toNatClampNeg) a1, sg ((g_Mo_permit_103 a0 a1 a2 1 200 0 ((f_Mo_throwing ar (sg sc 9 (sc 9)) 1 1 0).2.1) ((f_Mo_throwing ar (sg sc 9 (sc 9)) 1 1 0).2.2)).2.2) 8 ((((g_Mo_permit_103 a0 a1 a2 1 200 0 ((f_Mo_throwing ar (sg sc 9 (sc 9)) 1 1 0).2.1) ((f_Mo_throwing ar (sg sc 9 (sc 9)) 1 1 0).2.2)).2.2) 8) + 1))
        else
          (0, (f_Mo_throwing ar (sg sc 9 (sc 9)) 1 1 0).2.1, (f_Mo_throwing ar (sg sc 9 (sc 9)) 1 1 0).2.2)
  else
    if (f_Mo_in a1 (a0 + 1) 9999999) = 0 then
      if ((sg sc 9 (sc 9)) 9) = (-1) then
        if ((sg sc 9 (sc 9)) 8) = 30 then
          if ((f_Mo_throwing ar (sg sc 9 (sc 9)) 1 0 1).1) = 0 then
            (((sg ((g_Mo_permit_103 a0 a1 a2 1 200 0 ((f_Mo_throwing ar (sg sc 9 (sc 9)) 1 0 1).2.1) ((f_Mo_throwing ar (sg sc 9 (sc 9)) 1 0 1).2.2)).2.2) 8 ((((g_Mo_permit_103 a0 a1 a2 1 200 0 ((f_Mo_throwing ar (sg sc 9 (sc 9)) 1 0 1).2.1) ((f_Mo_throwing ar (sg sc 9 (sc 9)) 1 0 1).2.2)).2.2) 8) + 1)) 8) - 1, s2 (s2 ((g_Mo_permit_103 a0 a1 a2 1 200 0 ((f_Mo_throwing ar (sg sc 9 (sc 9)) 1 0 1).2.1) ((f_Mo_throwing ar (sg sc 9 (sc 9)) 1 0 1).2.2)).2.1) 23 ((((g_Mo_permit_103 a0 a1 a2 1 200 0 ((f_Mo_throwing ar (sg sc 9 (sc 9)) 1 0 1).2.1) ((f_Mo_throwing ar (sg sc 9 (sc 9)) 1 0 1).2.2)).2.2) 8).toNatClampNeg) a0) 24 ((((g_Mo_permit_103 a0 a1 a2 1 200 0 ((f_Mo_throwing ar (sg sc 9 (sc 9)) 1 0 1).2.1) ((f_Mo_throwing ar (sg sc 9 (sc 9)) 1 0 1).2.2)).2.2) 8).toNatClampNeg) a1, sg ((g_Mo_permit_103 a0 a1 a2 1 200 0 ((f_Mo_throwing ar (sg sc 9 (sc 9)) 1 0 1).2.1) ((f_Mo_throwing ar (sg sc 9 (sc 9)) 1 0 1).2.2)).2.2) 8 ((((g_Mo_permit_103 a0 a1 a2 1 200 0 ((f_Mo_throwing ar (sg sc 9 (sc 9)) 1 0 1).2.1) ((f_Mo_throwing ar (sg sc 9 (sc 9)) 1 0 1).2.2)).2.2) 8) + 1))
          else
            (0, (f_Mo_throwing ar (sg sc 9 (sc 9)) 1 0 1).2.1, (f_Mo_throwing ar (sg sc 9 (sc 9)) 1 0 1).2.2)
        else
          if ((f_Mo_throwing ar (sg sc 9 (sc 9)) 1 0 0).1) = 0 then
            (((sg ((g_Mo_permit_103 a0 a1 a2 1 200 0 ((f_Mo_throwing ar (sg sc 9 (sc 9)) 1 0 0).2.1) ((f_Mo_throwing ar (sg sc 9 (sc 9)) 1 0 0).2.2)).2.2) 8 ((((g_Mo_permit_103 a0 a1 a2 1 200 0 ((f_Mo_throwing ar (sg sc 9 (sc 9)) 1 0 0).2.1) ((f_Mo_throwing ar (sg sc 9 (sc 9)) 1 0 0).2.2)).2.2) 8) + 1)) 8) - 1, s2 (s2 ((g_Mo_permit_103 a0 a1 a2 1 200 0 ((f_Mo_throwing ar (sg sc 9 (sc 9)) 1 0 0).2.1) ((f_Mo_throwing ar (sg sc 9 (sc 9)) 1 0 0).2.2)).2.1) 23 ((((g_Mo_permit_103 a0 a1 a2 1 200 0 ((f_Mo_throwing ar (sg sc 9 (sc 9)) 1 0 0).2.1) ((f_Mo_throwing ar (sg sc 9 (sc 9)) 1 0 0).2.2)).2.2) 8).toNatClampNeg) a0) 24 ((((g_Mo_permit_103 a0 a1 a2 1 200 0 ((f_Mo_throwing ar (sg sc 9 (sc 9)) 1 0 0).2.1) ((f_Mo_throwing ar (sg sc 9 (sc 9)) 1 0 0).2.2)).2.2) 8).toNatClampNeg) a1, sg ((g_Mo_permit_103 a0 a1 a2 1 200 0 ((f_Mo_throwing ar (sg sc 9 (sc 9)) 1 0 0).2.1) ((f_Mo_throwing ar (sg sc 9 (sc 9)) 1 0 0).2.2)).2.2) 8 ((((g_Mo_permit_103 a0 a1 a2 1 200 0 ((f_Mo_throwing ar (sg sc 9 (sc 9)) 1 0 0).2.1) ((f_Mo_throwing ar (sg sc 9 (sc 9)) 1 0 0).2.2)).2.2) 8) + 1))
          else
            (0, (f_Mo_throwing ar (sg sc 9 (sc 9)) 1 0 0).2.1, (f_Mo_throwing ar (sg sc 9 (sc 9)) 1 0 0).2.2)
      else
        if ((sg sc 9 (sc 9)) 8) = 30 then
          if ((f_Mo_throwing ar (sg sc 9 (sc 9)) 1 1 1).1) = 0 then
            (((sg ((g_Mo_permit_103 a0 a1 a2 1 200 0 ((f_Mo_throwing ar (sg sc 9 (sc 9)) 1 1 1).2.1) ((f_Mo_throwing ar (sg sc 9 (sc 9)) 1 1 1).2.2)).2.2) 8 ((((g_Mo_permit_103 a0 a1 a2 1 200 0 ((f_Mo_throwing ar (sg sc 9 (sc 9)) 1 1 1).2.1) ((f_Mo_throwing ar (sg sc 9 (sc 9)) 1 1 1).2.2)).2.2) 8) + 1)) 8) - 1, s2 (s2 ((g_Mo_permit_103 a0 a1 a2 1 200 0 ((f_Mo_throwing ar (sg sc 9 (sc 9)) 1 1 1).2.1) ((f_Mo_throwing ar (sg sc 9 (sc 9)) 1 1 1).2.2)).2.1) 23 ((((g_Mo_permit_103 a0 a1 a2 1 200 0 ((f_Mo_throwing ar (sg sc 9 (sc 9)) 1 1 1).2.1) ((f_Mo_throwing ar (sg sc 9 (sc 9)) 1 1 1).2.2)).2.2) 8).toNatClampNeg) a0) 24 ((((g_Mo_permit_103 a0 a1 a2 1 200 0 ((f_Mo_throwing ar (sg sc 9 (sc 9)) 1 1 1).2.1) ((f_Mo_throwing ar (sg sc 9 (sc 9)) 1 1 1).2.2)).2.2) 8).toNatClampNeg) a1, sg ((g_Mo_permit_103 a0 a1 a2 1 200 0 ((f_Mo_throwing ar (sg sc 9 (sc 9)) 1 1 1).2.1) ((f_Mo_throwing ar (sg sc 9 (sc 9)) 1 1 1).2.2)).2.2) 8 ((((g_Mo_permit_103 a0 a1 a2 1 200 0 ((f_Mo_throwing ar (sg sc 9 (sc 9)) 1 1 1).2.1) ((f_Mo_throwing ar (sg sc 9 (sc 9)) 1 1 1).2.2)).2.2) 8) + 1))
          else
            (0, (f_Mo_throwing ar (sg sc 9 (sc 9)) 1 1 1).2.1, (f_Mo_throwing ar (sg sc 9 (sc 9)) 1 1 1).2.2)
        else
          if ((f_Mo_throwing ar (sg sc 9 (sc 9)) 1 1 0).1) = 0 then
            (((sg ((g_Mo_permit_103 a0 a1 a2 1 200 0 ((f_Mo_throwing ar (sg sc 9 (sc 9)) 1 1 0).2.1) ((f_Mo_throwing ar (sg sc 9 (sc 9)) 1 1 0).2.2)).2.2) 8 ((((g_Mo_permit_103 a0 a1 a2 1 200 0 ((f_Mo_throwing ar (sg sc 9 (sc 9)) 1 1 0).2.1) ((f_Mo_throwing ar (sg sc 9 (sc 9)) 1 1 0).2.2)).2.2) 8) + 1)) 8) - 1, s2 (s2 ((g_Mo_permit_103 a0 a1 a2 1 200 0 ((f_Mo_throwing ar (sg sc 9 (sc 9)) 1 1 0).2.1) ((f_Mo_throwing ar (sg sc 9 (sc 9)) 1 1 0).2.2)).2.1) 23 ((((g_Mo_permit_103 a0 a1 a2 1 200 0 ((f_Mo_throwing ar (sg sc 9 (sc 9)) 1 1 0).2.1) ((f_Mo_throwing ar (sg sc 9 (sc 9)) 1 1 0).2.2)).2.2) 8).toNatClampNeg) a0) 24 ((((g_Mo_permit_103 a0 a1 a2 1 200 0 ((f_Mo_throwing ar (sg sc 9 (sc 9)) 1 1 0).2.1) ((f_Mo_throwing ar (sg sc 9 (sc 9)) 1 1 0).2.2)).2.2) 8).toNatClampNeg) a1, sg ((g_Mo_permit_103 a0 a1 a2 1 200 0 ((f_Mo_throwing ar (sg sc 9 (sc 9)) 1 1 0).2.1) ((f_Mo_throwing ar (sg sc 9 (sc 9)) 1 1 0).2.2)).2.2) 8 ((((g_Mo_permit_103 a0 a1 a2 1 200 0 ((f_Mo_throwing ar (sg sc 9 (sc 9)) 1 1 0).2.1) ((f_Mo_throwing ar (sg sc 9 (sc 9)) 1 1 0).2.2)).2.2) 8) + 1))
          else
            (0, (f_Mo_throwing ar (sg sc 9 (sc 9)) 1 1 0).2.1, (f_Mo_throwing ar (sg sc 9 (sc 9)) 1 1 0).2.2)
    else
      if (f_Mo_in a2 1 1000000) = 0 then
        if ((sg sc 9 (sc 9)) 9) = (-1) then
          if ((sg sc 9 (sc 9)) 8) = 30 then
            if ((f_Mo_throwing ar (sg sc 9 (sc 9)) 1 0 1).1) = 0 then
              (((sg ((g_Mo_permit_103 a0 a1 a2 1 200 0 ((f_Mo_throwing ar (sg sc 9 (sc 9)) 1 0 1).2.1) ((f_Mo_throwing ar (sg sc 9 (sc 9)) 1 0 1).2.2)).2.2) 8 ((((g_Mo_permit_103 a0 a1 a2 1 200 0 ((f_Mo_throwing ar (sg sc 9 (sc 9)) 1 0 1).2.1) ((f_Mo_throwing ar (sg sc 9 (sc 9)) 1 0 1).2.2)).2.2) 8) + 1)) 8) - 1, s2 (s2 ((g_Mo_permit_103 a0 a1 a2 1 200 0 ((f_Mo_throwing ar (sg sc 9 (sc 9)) 1 0 1).2.1) ((f_Mo_throwing ar (sg sc 9 (sc 9)) 1 0 1).2.2)).2.1) 23 ((((g_Mo_permit_103 a0 a1 a2 1 200 0 ((f_Mo_throwing ar (sg sc 9 (sc 9)) 1 0 1).2.1) ((f_Mo_throwing ar (sg sc 9 (sc 9)) 1 0 1).2.2)).2.2) 8).toNatClampNeg) a0) 24 ((((g_Mo_permit_103 a0 a1 a2 1 200 0 ((f_Mo_throwing ar (sg sc 9 (sc 9)) 1 0 1).2.1) ((f_Mo_throwing ar (sg sc 9 (sc 9)) 1 0 1).2.2)).2.2) 8).toNatClampNeg) a1, sg ((g_Mo_permit_103 a0 a1 a2 1 200 0 ((f_Mo_throwing ar (sg sc 9 (sc 9)) 1 0 1).2.1) ((f_Mo_throwing ar (sg sc 9 (sc 9)) 1 0 1).2.2)).2.2) 8 ((((g_Mo_permit_103 a0 a1 a2 1 200 0 ((f_Mo_throwing ar (sg sc 9 (sc 9)) 1 0 1).2.1) ((f_Mo_throwing ar (sg sc 9 (sc 9)) 1 0 1).2.2)).2.2) 8) + 1))
            else
              (0, (f_Mo_throwing ar (sg sc 9 (sc 9)) 1 0 1).2.1, (f_Mo_throwing ar (sg sc 9 (sc 9)) 1 0 1).2.2)
          else
            if ((f_Mo_throwing ar (sg sc 9 (sc 9)) 1 0 0).1) = 0 then
              (((sg ((g_Mo_permit_103 a0 a1 a2 1 200 0 ((f_Mo_throwing ar (sg sc 9 (sc 9)) 1 0 0).2.1) ((f_Mo_throwing ar (sg sc 9 (sc 9)) 1 0 0).2.2)).2.2) 8 ((((g_Mo_permit_103 a0 a1 a2 1 200 0 ((f_Mo_throwing ar (sg sc 9 (sc 9)) 1 0 0).2.1) ((f_Mo_throwing ar (sg sc 9 (sc 9)) 1 0 0).2.2)).2.2) 8) + 1)) 8) - 1, s2 (s2 ((g_Mo_permit_103 a0 a1 a2 1 200 0 ((f_Mo_throwing ar (sg sc 9 (sc 9)) 1 0 0).2.1) ((f_Mo_throwing ar (sg sc 9 (sc 9)) 1 0 0).2.2)).2.1) 23 ((((g_Mo_permit_103 a0 a1 a2 1 200 0 ((f_Mo_throwing ar (sg sc 9 (sc 9)) 1 0 0).2.1) ((f_Mo_throwing ar (sg sc 9 (sc 9)) 1 0 0).2.2)).2.2) 8).toNatClampNeg) a0) 24 ((((g_Mo_permit_103 a0 a1 a2 1 200 0 ((f_Mo_throwing ar (sg sc 9 (sc 9)) 1 0 0).2.1) ((f_Mo_throwing ar (sg sc 9 (sc 9)) 1 0 0).2.2)).2.2) 8).toNatClampNeg) a1, sg ((g_Mo_permit_103 a0 a1 a2 1 200 0 ((f_Mo_throwing ar (sg sc 9 (sc 9)) 1 0 0).2.1) ((f_Mo_throwing ar (sg sc 9 (sc 9)) 1 0 0).2.2)).2.2) 8 ((((g_Mo_permit_103 a0 a1 a2 1 200 0 ((f_Mo_throwing ar (sg sc 9 (sc 9)) 1 0 0).2.1) ((f_Mo_throwing ar (sg sc 9 (sc 9)) 1 0 0).2.2)).2.2) 8) + 1))
            else
              (0, (f_Mo_throwing ar (sg sc 9 (sc 9)) 1 0 0).2.1, (f_Mo_throwing ar (sg sc 9 (sc 9)) 1 0 0).2.2)
        else
          if ((sg sc 9 (sc 9)) 8) = 30 then
            if ((f_Mo_throwing ar (sg sc 9 (sc 9)) 1 1 1).1) = 0 then
              (((sg ((g_Mo_permit_103 a0 a1 a2 1 200 0 ((f_Mo_throwing ar (sg sc 9 (sc 9)) 1 1 1).2.1) ((f_Mo_throwing ar (sg sc 9 (sc 9)) 1 1 1).2.2)).2.2) 8 ((((g_Mo_permit_103 a0 a1 a2 1 200 0 ((f_Mo_throwing ar (sg sc 9 (sc 9)) 1 1 1).2.1) ((f_Mo_throwing ar (sg sc 9 (sc 9)) 1 1 1).2.2)).2.2) 8) + 1)) 8) - 1, s2 (s2 ((g_Mo_permit_103 a0 a1 a2 1 200 0 ((f_Mo_throwing ar (sg sc 9 (sc 9)) 1 1 1).2.1) ((f_Mo_throwing ar (sg sc 9 (sc 9)) 1 1 1).2.2)).2.1) 23 ((((g_Mo_permit_103 a0 a1 a2 1 200 0 ((f_Mo_throwing ar (sg sc 9 (sc 9)) 1 1 1).2.1) ((f_Mo_throwing ar (sg sc 9 (sc 9)) 1 1 1).2.2)).2.2) 8).toNatClampNeg) a0) 24 ((((g_Mo_permit_103 a0 a1 a2 1 200 0 ((f_Mo_throwing ar (sg sc 9 (sc 9)) 1 1 1).2.1) ((f_Mo_throwing ar (sg sc 9 (sc 9)) 1 1 1).2.2)).2.2) 8).toNatClampNeg) a1, sg ((g_Mo_permit_103 a0 a1 a2 1 200 0 ((f_Mo_throwing ar (sg sc 9 (sc 9)) 1 1 1).2.1) ((f_Mo_throwing ar (sg sc 9 (sc 9)) 1 1 1).2.2)).2.2) 8 ((((g_Mo_permit_103 a0 a1 a2 1 200 0 ((f_Mo_throwing ar (sg sc 9 (sc 9)) 1 1 1).2.1) ((f_Mo_throwing ar (sg sc 9 (sc 9)) 1 1 1).2.2)).2.2) 8) + 1))
            else
              (0, (f_Mo_throwing ar (sg sc 9 (sc 9)) 1 1 1).2.1, (f_Mo_throwing ar (sg sc 9 (sc 9)) 1 1 1).2.2)
          else
            if ((f_Mo_throwing ar (sg sc 9 (sc 9)) 1 1 0).1) = 0 then
              (((sg ((g_Mo_permit_103 a0 a1 a2 1 200 0 ((f_Mo_throwing ar (sg sc 9 (sc 9)) 1 1 0).2.1) ((f_Mo_throwing ar (sg sc 9 (sc 9)) 1 1 0).2.2)).2.2) 8 ((((g_Mo_permit_103 a0 a1 a2 1 200 0 ((f_Mo_throwing ar (sg sc 9 (sc 9)) 1 1 0).2.1) ((f_Mo_throwing ar (sg sc 9 (sc 9)) 1 1 0).2.2)).2.2) 8) + 1)) 8) - 1, s2 (s2 ((g_Mo_permit_103 a0 a1 a2 1 200 0 ((f_Mo_throwing ar (sg sc 9 (sc 9)) 1 1 0).2.1) ((f_Mo_throwing ar (sg sc 9 (sc 9)) 1 1 0).2.2)).2.1) 23 ((((g_Mo_permit_103 a0 a1 a2 1 200 0 ((f_Mo_throwing ar (sg sc 9 (sc 9)) 1 1 0).2.1) ((f_Mo_throwing ar (sg sc 9 (sc 9)) 1 1 0).2.2)).2.2) 8).toNatClampNeg) a0) 24 ((((g_Mo_permit_103 a0 a1 a2 1 200 0 ((f_Mo_throwing ar (sg sc 9 (sc 9)) 1 1 0).2.1) ((f_Mo_throwing ar (sg sc 9 (sc 9)) 1 1 0).2.2)).2.2) 8).toNatClampNeg) a1, sg ((g_Mo_permit_103 a0 a1 a2 1 200 0 ((f_Mo_throwing ar (sg sc 9 (sc 9)) 1 1 0).2.1) ((f_Mo_throwing ar (sg sc 9 (sc 9)) 1 1 0).2.2)).2.2) 8 ((((g_Mo_permit_103 a0 a1 a2 1 200 0 ((f_Mo_throwing ar (sg sc 9 (sc 9)) 1 1 0).2.1) ((f_Mo_throwing ar (sg sc 9 (sc 9)) 1 1 0).2.2)).2.2) 8) + 1))
            else
              (0, (f_Mo_throwing ar (sg sc 9 (sc 9)) 1 1 0).2.1, (f_Mo_throwing ar (sg sc 9 (sc 9)) 1 1 0).2.2)
      else
        if ((sg sc 9 (f_Mo_refusal ar sc a0 a1 a2)) 9) = (-1) then
          if ((sg sc 9 (f_Mo_refusal ar sc a0 a1 a2)) 8) = 30 then
            if ((f_Mo_throwing ar (sg sc 9 (f_Mo_refusal ar sc a0 a1 a2)) 0 0 1).1) = 0 then
              (((sg ((g_Mo_permit_103 a0 a1 a2 0 200 0 ((f_Mo_throwing ar (sg sc 9 (f_Mo_refusal ar sc a0 a1 a2)) 0 0 1).2.1) ((f_Mo_throwing ar (sg sc 9 (f_Mo_refusal ar sc a0 a1 a2)) 0 0 1).2.2)).2.2) 8 ((((g_Mo_permit_103 a0 a1 a2 0 200 0 ((f_Mo_throwing ar (sg sc 9 (f_Mo_refusal ar sc a0 a1 a2)) 0 0 1).2.1) ((f_Mo_throwing ar (sg sc 9 (f_Mo_refusal ar sc a0 a1 a2)) 0 0 1).2.2)).2.2) 8) + 1)) 8) - 1, s2 (s2 ((g_Mo_permit_103 a0 a1 a2 0 200 0 ((f_Mo_throwing ar (sg sc 9 (f_Mo_refusal ar sc a0 a1 a2)) 0 0 1).2.1) ((f_Mo_throwing ar (sg sc 9 (f_Mo_refusal ar sc a0 a1 a2)) 0 0 1).2.2)).2.1) 23 ((((g_Mo_permit_103 a0 a1 a2 0 200 0 ((f_Mo_throwing ar (sg sc 9 (f_Mo_refusal ar sc a0 a1 a2)) 0 0 1).2.1) ((f_Mo_throwing ar (sg sc 9 (f_Mo_refusal ar sc a0 a1 a2)) 0 0 1).2.2)).2.2) 8).toNatClampNeg) a0) 24 ((((g_Mo_permit_103 a0 a1 a2 0 200 0 ((f_Mo_throwing ar (sg sc 9 (f_Mo_refusal ar sc a0 a1 a2)) 0 0 1).2.1) ((f_Mo_throwing ar (sg sc 9 (f_Mo_refusal ar sc a0 a1 a2)) 0 0 1).2.2)).2.2) 8).toNatClampNeg) a1, sg ((g_Mo_permit_103 a0 a1 a2 0 200 0 ((f_Mo_throwing ar (sg sc 9 (f_Mo_refusal ar sc a0 a1 a2)) 0 0 1).2.1) ((f_Mo_throwing ar (sg sc 9 (f_Mo_refusal ar sc a0 a1 a2)) 0 0 1).2.2)).2.2) 8 ((((g_Mo_permit_103 a0 a1 a2 0 200 0 ((f_Mo_throwing ar (sg sc 9 (f_Mo_refusal ar sc a0 a1 a2)) 0 0 1).2.1) ((f_Mo_throwing ar (sg sc 9 (f_Mo_refusal ar sc a0 a1 a2)) 0 0 1).2.2)).2.2) 8) + 1))
            else
              (0, (f_Mo_throwing ar (sg sc 9 (f_Mo_refusal ar sc a0 a1 a2)) 0 0 1).2.1, (f_Mo_throwing ar (sg sc 9 (f_Mo_refusal ar sc a0 a1 a2)) 0 0 1).2.2)
          else
            if ((f_Mo_throwing ar (sg sc 9 (f_Mo_refusal ar sc a0 a1 a2)) 0 0 0).1) = 0 then
              (((sg ((g_Mo_permit_103 a0 a1 a2 0 200 0 ((f_Mo_throwing ar (sg sc 9 (f_Mo_refusal ar sc a0 a1 a2)) 0 0 0).2.1) ((f_Mo_throwing ar (sg sc 9 (f_Mo_refusal ar sc a0 a1 a2)) 0 0 0).2.2)).2.2) 8 ((((g_Mo_permit_103 a0 a1 a2 0 200 0 ((f_Mo_throwing ar (sg sc 9 (f_Mo_refusal ar sc a0 a1 a2)) 0 0 0).2.1) ((f_Mo_throwing ar (sg sc 9 (f_Mo_refusal ar sc a0 a1 a2)) 0 0 0).2.2)).2.2) 8) + 1)) 8) - 1, s2 (s2 ((g_Mo_permit_103 a0 a1 a2 0 200 0 ((f_Mo_throwing ar (sg sc 9 (f_Mo_refusal ar sc a0 a1 a2)) 0 0 0).2.1) ((f_Mo_throwing ar (sg sc 9 (f_Mo_refusal ar sc a0 a1 a2)) 0 0 0).2.2)).2.1) 23 ((((g_Mo_permit_103 a0 a1 a2 0 200 0 ((f_Mo_throwing ar (sg sc 9 (f_Mo_refusal ar sc a0 a1 a2)) 0 0 0).2.1) ((f_Mo_throwing ar (sg sc 9 (f_Mo_refusal ar sc a0 a1 a2)) 0 0 0).2.2)).2.2) 8).toNatClampNeg) a0) 24 ((((g_Mo_permit_103 a0 a1 a2 0 200 0 ((f_Mo_throwing ar (sg sc 9 (f_Mo_refusal ar sc a0 a1 a2)) 0 0 0).2.1) ((f_Mo_throwing ar (sg sc 9 (f_Mo_refusal ar sc a0 a1 a2)) 0 0 0).2.2)).2.2) 8).toNatClampNeg) a1, sg ((g_Mo_permit_103 a0 a1 a2 0 200 0 ((f_Mo_throwing ar (sg sc 9 (f_Mo_refusal ar sc a0 a1 a2)) 0 0 0).2.1) ((f_Mo_throwing ar (sg sc 9 (f_Mo_refusal ar sc a0 a1 a2)) 0 0 0).2.2)).2.2) 8 ((((g_Mo_permit_103 a0 a1 a2 0 200 0 ((f_Mo_throwing ar (sg sc 9 (f_Mo_refusal ar sc a0 a1 a2)) 0 0 0).2.1) ((f_Mo_throwing ar (sg sc 9 (f_Mo_refusal ar sc a0 a1 a2)) 0 0 0).2.2)).2.2) 8) + 1))
            else
              (0, (f_Mo_throwing ar (sg sc 9 (f_Mo_refusal ar sc a0 a1 a2)) 0 0 0).2.1, (f_Mo_throwing ar (sg sc 9 (f_Mo_refusal ar sc a0 a1 a2)) 0 0 0).2.2)
        else
          if ((sg sc 9 (f_Mo_refusal ar sc a0 a1 a2)) 8) = 30 then
            if ((f_Mo_throwing ar (sg sc 9 (f_Mo_refusal ar sc a0 a1 a2)) 0 1 1).1) = 0 then
              (((sg ((g_Mo_permit_103 a0 a1 a2 0 200 0 ((f_Mo_throwing ar (sg sc 9 (f_Mo_refusal ar sc a0 a1 a2)) 0 1 1).2.1) ((f_Mo_throwing ar (sg sc 9 (f_Mo_refusal ar sc a0 a1 a2)) 0 1 1).2.2)).2.2) 8 ((((g_Mo_permit_103 a0 a1 a2 0 200 0 ((f_Mo_throwing ar (sg sc 9 (f_Mo_refusal ar sc a0 a1 a2)) 0 1 1).2.1) ((f_Mo_throwing ar (sg sc 9 (f_Mo_refusal ar sc a0 a1 a2)) 0 1 1).2.2)).2.2) 8) + 1)) 8) - 1, s2 (s2 ((g_Mo_permit_103 a0 a1 a2 0 200 0 ((f_Mo_throwing ar (sg sc 9 (f_Mo_refusal ar sc a0 a1 a2)) 0 1 1).2.1) ((f_Mo_throwing ar (sg sc 9 (f_Mo_refusal ar sc a0 a1 a2)) 0 1 1).2.2)).2.1) 23 ((((g_Mo_permit_103 a0 a1 a2 0 200 0 ((f_Mo_throwing ar (sg sc 9 (f_Mo_refusal ar sc a0 a1 a2)) 0 1 1).2.1) ((f_Mo_throwing ar (sg sc 9 (f_Mo_refusal ar sc a0 a1 a2)) 0 1 1).2.2)).2.2) 8).toNatClampNeg) a0) 24 ((((g_Mo_permit_103 a0 a1 a2 0 200 0 ((f_Mo_throwing ar (sg sc 9 (f_Mo_refusal ar sc a0 a1 a2)) 0 1 1).2.1) ((f_Mo_throwing ar (sg sc 9 (f_Mo_refusal ar sc a0 a1 a2)) 0 1 1).2.2)).2.2) 8).toNatClampNeg) a1, sg ((g_Mo_permit_103 a0 a1 a2 0 200 0 ((f_Mo_throwing ar (sg sc 9 (f_Mo_refusal ar sc a0 a1 a2)) 0 1 1).2.1) ((f_Mo_throwing ar (sg sc 9 (f_Mo_refusal ar sc a0 a1 a2)) 0 1 1).2.2)).2.2) 8 ((((g_Mo_permit_103 a0 a1 a2 0 200 0 ((f_Mo_throwing ar (sg sc 9 (f_Mo_refusal ar sc a0 a1 a2)) 0 1 1).2.1) ((f_Mo_throwing ar (sg sc 9 (f_Mo_refusal ar sc a0 a1 a2)) 0 1 1).2.2)).2.2) 8) + 1))
            else
              (0, (f_Mo_throwing ar (sg sc 9 (f_Mo_refusal ar sc a0 a1 a2)) 0 1 1).2.1, (f_Mo_throwing ar (sg sc 9 (f_Mo_refusal ar sc a0 a1 a2)) 0 1 1).2.2)
          else
            if ((f_Mo_throwing ar (sg sc 9 (f_Mo_refusal ar sc a0 a1 a2)) 0 1 0).1) = 0 then
              (((sg ((g_Mo_permit_103 a0 a1 a2 0 200 0 ((f_Mo_throwing ar (sg sc 9 (f_Mo_refusal ar sc a0 a1 a2)) 0 1 0).2.1) ((f_Mo_throwing ar (sg sc 9 (f_Mo_refusal ar sc a0 a1 a2)) 0 1 0).2.2)).2.2) 8 ((((g_Mo_permit_103 a0 a1 a2 0 200 0 ((f_Mo_throwing ar (sg sc 9 (f_Mo_refusal ar sc a0 a1 a2)) 0 1 0).2.1) ((f_Mo_throwing ar (sg sc 9 (f_Mo_refusal ar sc a0 a1 a2)) 0 1 0).2.2)).2.2) 8) + 1)) 8) - 1, s2 (s2 ((g_Mo_permit_103 a0 a1 a2 0 200 0 ((f_Mo_throwing ar (sg sc 9 (f_Mo_refusal ar sc a0 a1 a2)) 0 1 0).2.1) ((f_Mo_throwing ar (sg sc 9 (f_Mo_refusal ar sc a0 a1 a2)) 0 1 0).2.2)).2.1) 23 ((((g_Mo_permit_103 a0 a1 a2 0 200 0 ((f_Mo_throwing ar (sg sc 9 (f_Mo_refusal ar sc a0 a1 a2)) 0 1 0).2.1) ((f_Mo_throwing ar (sg sc 9 (f_Mo_refusal ar sc a0 a1 a2)) 0 1 0).2.2)).2.2) 8).toNatClampNeg) a0) 24 ((((g_Mo_permit_103 a0 a1 a2 0 200 0 ((f_Mo_throwing ar (sg sc 9 (f_Mo_refusal ar sc a0 a1 a2)) 0 1 0).2.1) ((f_Mo_throwing ar (sg sc 9 (f_Mo_refusal ar sc a0 a1 a2)) 0 1 0).2.2)).2.2) 8).toNatClampNeg) a1, sg ((g_Mo_permit_103 a0 a1 a2 0 200 0 ((f_Mo_throwing ar (sg sc 9 (f_Mo_refusal ar sc a0 a1 a2)) 0 1 0).2.1) ((f_Mo_throwing ar (sg sc 9 (f_Mo_refusal ar sc a0 a1 a2)) 0 1 0).2.2)).2.2) 8 ((((g_Mo_permit_103 a0 a1 a2 0 200 0 ((f_Mo_throwing ar (sg sc 9 (f_Mo_refusal ar sc a0 a1 a2)) 0 1 0).2.1) ((f_Mo_throwing ar (sg sc 9 (f_Mo_refusal ar sc a0 a1 a2)) 0 1 0).2.2)).2.2) 8) + 1))
            else
              (0, (f_Mo_throwing ar (sg sc 9 (f_Mo_refusal ar sc a0 a1 a2)) 0 1 0).2.1, (f_Mo_throwing ar (sg sc 9 (f_Mo_refusal ar sc a0 a1 a2)) 0 1 0).2.2)
def p_Mo_permit (ar : Nat → Nat → Int32) (sc : Nat → Int32) (a0 : Int32) (a1 : Int32) (a2 : Int32) : Prop :=
  ((f_Mo_in a0 0 9999999) = 0 → ((((sg sc 9 (sc 9)) 9) = (-1) → ((((sg sc 9 (sc 9)) 8) = 30 → ((((f_Mo_throwing ar (sg sc 9 (sc 9)) 1 0 1).1) = 0 → ((q_Mo_permit_103 a0 a1 a2 1 200 0 ((f_Mo_throwing ar (sg sc 9 (sc 9)) 1 0 1).2.1) ((f_Mo_throwing ar (sg sc 9 (sc 9)) 1 0 1).2.2)) ∧ ((vp_in (((g_Mo_permit_103 a0 a1 a2 1 200 0 ((f_Mo_throwing ar (sg sc 9 (sc 9)) 1 0 1).2.1) ((f_Mo_throwing ar (sg sc 9 (sc 9)) 1 0 1).2.2)).2.2) 8) 30) ∧ (vp_in (((g_Mo_permit_103 a0 a1 a2 1 200 0 ((f_Mo_throwing ar (sg sc 9 (sc 9)) 1 0 1).2.1) ((f_Mo_throwing ar (sg sc 9 (sc 9)) 1 0 1).2.2)).2.2) 8) 30)))) ∧ (¬ (((f_Mo_throwing ar (sg sc 9 (sc 9)) 1 0 1).1) = 0) → True))) ∧ (¬ (((sg sc 9 (sc 9)) 8) = 30) → ((((f_Mo_throwing ar (sg sc 9 (sc 9)) 1 0 0).1) = 0 → ((q_Mo_permit_103 a0 a1 a2 1 200 0 ((f_Mo_throwing ar (sg sc 9 (sc 9)) 1 0 0).2.1) ((f_Mo_throwing ar (sg sc 9 (sc 9)) 1 0 0).2.2)) ∧ ((vp_in (((g_Mo_permit_103 a0 a1 a2 1 200 0 ((f_Mo_throwing ar (sg sc 9 (sc 9)) 1 0 0).2.1) ((f_Mo_throwing ar (sg sc 9 (sc 9)) 1 0 0).2.2)).2.2) 8) 30) ∧ (vp_in (((g_Mo_permit_103 a0 a1 a2 1 200 0 ((f_Mo_throwing ar (sg sc 9 (sc 9)) 1 0 0).2.1) ((f_Mo_throwing ar (sg sc 9 (sc 9)) 1 0 0).2.2)).2.2) 8) 30)))) ∧ (¬ (((f_Mo_throwing ar (sg sc 9 (sc 9)) 1 0 0).1) = 0) → True))))) ∧ (¬ (((sg sc 9 (sc 9)) 9) = (-1)) → ((((sg sc 9 (sc 9)) 8) = 30 → ((((f_Mo_throwing ar (sg sc 9 (sc 9)) 1 1 1).1) = 0 → ((q_Mo_permit_103 a0 a1 a2 1 200 0 ((f_Mo_throwing ar (sg sc 9 (sc 9)) 1 1 1).2.1) ((f_Mo_throwing ar (sg sc 9 (sc 9)) 1 1 1).2.2)) ∧ ((vp_in (((g_Mo_permit_103 a0 a1 a2 1 200 0 ((f_Mo_throwing ar (sg sc 9 (sc 9)) 1 1 1).2.1) ((f_Mo_throwing ar (sg sc 9 (sc 9)) 1 1 1).2.2)).2.2) 8) 30) ∧ (vp_in (((g_Mo_permit_103 a0 a1 a2 1 200 0 ((f_Mo_throwing ar (sg sc 9 (sc 9)) 1 1 1).2.1) ((f_Mo_throwing ar (sg sc 9 (sc 9)) 1 1 1).2.2)).2.2) 8) 30)))) ∧ (¬ (((f_Mo_throwing ar (sg sc 9 (sc 9)) 1 1 1).1) = 0) → True))) ∧ (¬ (((sg sc 9 (sc 9)) 8) = 30) → ((((f_Mo_throwing ar (sg sc 9 (sc 9)) 1 1 0).1) = 0 → ((q_Mo_permit_103 a0 a1 a2 1 200 0 ((f_Mo_throwing ar (sg sc 9 (sc 9)) 1 1 0).2.1) ((f_Mo_throwing ar (sg sc 9 (sc 9)) 1 1 0).2.2)) ∧ ((vp_in (((g_Mo_permit_103 a0 a1 a2 1 200 0 ((f_Mo_throwing ar (sg sc 9 (sc 9)) 1 1 0).2.1) ((f_Mo_throwing ar (sg sc 9 (sc 9)) 1 1 0).2.2)).2.2) 8) 30) ∧ (vp_in (((g_Mo_permit_103 a0 a1 a2 1 200 0 ((f_Mo_throwing ar (sg sc 9 (sc 9)) 1 1 0).2.1) ((f_Mo_throwing ar (sg sc 9 (sc 9)) 1 1 0).2.2)).2.2) 8) 30)))) ∧ (¬ (((f_Mo_throwing ar (sg sc 9 (sc 9)) 1 1 0).1) = 0) → True))))))) ∧ (¬ ((f_Mo_in a0 0 9999999) = 0) → (((f_Mo_in a1 (a0 + 1) 9999999) = 0 → ((((sg sc 9 (sc 9)) 9) = (-1) → ((((sg sc 9 (sc 9)) 8) = 30 → ((((f_Mo_throwing ar (sg sc 9 (sc 9)) 1 0 1).1) = 0 → ((q_Mo_permit_103 a0 a1 a2 1 200 0 ((f_Mo_throwing ar (sg sc 9 (sc 9)) 1 0 1).2.1) ((f_Mo_throwing ar (sg sc 9 (sc 9)) 1 0 1).2.2)) ∧ ((vp_in (((g_Mo_permit_103 a0 a1 a2 1 200 0 ((f_Mo_throwing ar (sg sc 9 (sc 9)) 1 0 1).2.1) ((f_Mo_throwing ar (sg sc 9 (sc 9)) 1 0 1).2.2)).2.2) 8) 30) ∧ (vp_in (((g_Mo_permit_103 a0 a1 a2 1 200 0 ((f_Mo_throwing ar (sg sc 9 (sc 9)) 1 0 1).2.1) ((f_Mo_throwing ar (sg sc 9 (sc 9)) 1 0 1).2.2)).2.2) 8) 30)))) ∧ (¬ (((f_Mo_throwing ar (sg sc 9 (sc 9)) 1 0 1).1) = 0) → True))) ∧ (¬ (((sg sc 9 (sc 9)) 8) = 30) → ((((f_Mo_throwing ar (sg sc 9 (sc 9)) 1 0 0).1) = 0 → ((q_Mo_permit_103 a0 a1 a2 1 200 0 ((f_Mo_throwing ar (sg sc 9 (sc 9)) 1 0 0).2.1) ((f_Mo_throwing ar (sg sc 9 (sc 9)) 1 0 0).2.2)) ∧ ((vp_in (((g_Mo_permit_103 a0 a1 a2 1 200 0 ((f_Mo_throwing ar (sg sc 9 (sc 9)) 1 0 0).2.1) ((f_Mo_throwing ar (sg sc 9 (sc 9)) 1 0 0).2.2)).2.2) 8) 30) ∧ (vp_in (((g_Mo_permit_103 a0 a1 a2 1 200 0 ((f_Mo_throwing ar (sg sc 9 (sc 9)) 1 0 0).2.1) ((f_Mo_throwing ar (sg sc 9 (sc 9)) 1 0 0).2.2)).2.2) 8) 30)))) ∧ (¬ (((f_Mo_throwing ar (sg sc 9 (sc 9)) 1 0 0).1) = 0) → True))))) ∧ (¬ (((sg sc 9 (sc 9)) 9) = (-1)) → ((((sg sc 9 (sc 9)) 8) = 30 → ((((f_Mo_throwing ar (sg sc 9 (sc 9)) 1 1 1).1) = 0 → ((q_Mo_permit_103 a0 a1 a2 1 200 0 ((f_Mo_throwing ar (sg sc 9 (sc 9)) 1 1 1).2.1) ((f_Mo_throwing ar (sg sc 9 (sc 9)) 1 1 1).2.2)) ∧ ((vp_in (((g_Mo_permit_103 a0 a1 a2 1 200 0 ((f_Mo_throwing ar (sg sc 9 (sc 9)) 1 1 1).2.1) ((f_Mo_throwing ar (sg sc 9 (sc 9)) 1 1 1).2.2)).2.2) 8) 30) ∧ (vp_in (((g_Mo_permit_103 a0 a1 a2 1 200 0 ((f_Mo_throwing ar (sg sc 9 (sc 9)) 1 1 1).2.1) ((f_Mo_throwing ar (sg sc 9 (sc 9)) 1 1 1).2.2)).2.2) 8) 30)))) ∧ (¬ (((f_Mo_throwing ar (sg sc 9 (sc 9)) 1 1 1).1) = 0) → True))) ∧ (¬ (((sg sc 9 (sc 9)) 8) = 30) → ((((f_Mo_throwing ar (sg sc 9 (sc 9)) 1 1 0).1) = 0 → ((q_Mo_permit_103 a0 a1 a2 1 200 0 ((f_Mo_throwing ar (sg sc 9 (sc 9)) 1 1 0).2.1) ((f_Mo_throwing ar (sg sc 9 (sc 9)) 1 1 0).2.2)) ∧ ((vp_in (((g_Mo_permit_103 a0 a1 a2 1 200 0 ((f_Mo_throwing ar (sg sc 9 (sc 9)) 1 1 0).2.1) ((f_Mo_throwing ar (sg sc 9 (sc 9)) 1 1 0).2.2)).2.2) 8) 30) ∧ (vp_in (((g_Mo_permit_103 a0 a1 a2 1 200 0 ((f_Mo_throwing ar (sg sc 9 (sc 9)) 1 1 0).2.1) ((f_Mo_throwing ar (sg sc 9 (sc 9)) 1 1 0).2.2)).2.2) 8) 30)))) ∧ (¬ (((f_Mo_throwing ar (sg sc 9 (sc 9)) 1 1 0).1) = 0) → True))))))) ∧ (¬ ((f_Mo_in a1 (a0 + 1) 9999999) = 0) → (((f_Mo_in a2 1 1000000) = 0 → ((((sg sc 9 (sc 9)) 9) = (-1) → ((((sg sc 9 (sc 9)) 8) = 30 → ((((f_Mo_throwing ar (sg sc 9 (sc 9)) 1 0 1).1) = 0 → ((q_Mo_permit_103 a0 a1 a2 1 200 0 ((f_Mo_throwing ar (sg sc 9 (sc 9)) 1 0 1).2.1) ((f_Mo_throwing ar (sg sc 9 (sc 9)) 1 0 1).2.2)) ∧ ((vp_in (((g_Mo_permit_103 a0 a1 a2 1 200 0 ((f_Mo_throwing ar (sg sc 9 (sc 9)) 1 0 1).2.1) ((f_Mo_throwing ar (sg sc 9 (sc 9)) 1 0 1).2.2)).2.2) 8) 30) ∧ (vp_in (((g_Mo_permit_103 a0 a1 a2 1 200 0 ((f_Mo_throwing ar (sg sc 9 (sc 9)) 1 0 1).2.1) ((f_Mo_throwing ar (sg sc 9 (sc 9)) 1 0 1).2.2)).2.2) 8) 30)))) ∧ (¬ (((f_Mo_throwing ar (sg sc 9 (sc 9)) 1 0 1).1) = 0) → True))) ∧ (¬ (((sg sc 9 (sc 9)) 8) = 30) → ((((f_Mo_throwing ar (sg sc 9 (sc 9)) 1 0 0).1) = 0 → ((q_Mo_permit_103 a0 a1 a2 1 200 0 ((f_Mo_throwing ar (sg sc 9 (sc 9)) 1 0 0).2.1) ((f_Mo_throwing ar (sg sc 9 (sc 9)) 1 0 0).2.2)) ∧ ((vp_in (((g_Mo_permit_103 a0 a1 a2 1 200 0 ((f_Mo_throwing ar (sg sc 9 (sc 9)) 1 0 0).2.1) ((f_Mo_throwing ar (sg sc 9 (sc 9)) 1 0 0).2.2)).2.2) 8) 30) ∧ (vp_in (((g_Mo_permit_103 a0 a1 a2 1 200 0 ((f_Mo_throwing ar (sg sc 9 (sc 9)) 1 0 0).2.1) ((f_Mo_throwing ar (sg sc 9 (sc 9)) 1 0 0).2.2)).2.2) 8) 30)))) ∧ (¬ (((f_Mo_throwing ar (sg sc 9 (sc 9)) 1 0 0).1) = 0) → True))))) ∧ (¬ (((sg sc 9 (sc 9)) 9) = (-1)) → ((((sg sc 9 (sc 9)) 8) = 30 → ((((f_Mo_throwing ar (sg sc 9 (sc 9)) 1 1 1).1) = 0 → ((q_Mo_permit_103 a0 a1 a2 1 200 0 ((f_Mo_throwing ar (sg sc 9 (sc 9)) 1 1 1).2.1) ((f_Mo_throwing ar (sg sc 9 (sc 9)) 1 1 1).2.2)) ∧ ((vp_in (((g_Mo_permit_103 a0 a1 a2 1 200 0 ((f_Mo_throwing ar (sg sc 9 (sc 9)) 1 1 1).2.1) ((f_Mo_throwing ar (sg sc 9 (sc 9)) 1 1 1).2.2)).2.2) 8) 30) ∧ (vp_in (((g_Mo_permit_103 a0 a1 a2 1 200 0 ((f_Mo_throwing ar (sg sc 9 (sc 9)) 1 1 1).2.1) ((f_Mo_throwing ar (sg sc 9 (sc 9)) 1 1 1).2.2)).2.2) 8) 30)))) ∧ (¬ (((f_Mo_throwing ar (sg sc 9 (sc 9)) 1 1 1).1) = 0) → True))) ∧ (¬ (((sg sc 9 (sc 9)) 8) = 30) → ((((f_Mo_throwing ar (sg sc 9 (sc 9)) 1 1 0).1) = 0 → ((q_Mo_permit_103 a0 a1 a2 1 200 0 ((f_Mo_throwing ar (sg sc 9 (sc 9)) 1 1 0).2.1) ((f_Mo_throwing ar (sg sc 9 (sc 9)) 1 1 0).2.2)) ∧ ((vp_in (((g_Mo_permit_103 a0 a1 a2 1 200 0 ((f_Mo_throwing ar (sg sc 9 (sc 9)) 1 1 0).2.1) ((f_Mo_throwing ar (sg sc 9 (sc 9)) 1 1 0).2.2)).2.2) 8) 30) ∧ (vp_in (((g_Mo_permit_103 a0 a1 a2 1 200 0 ((f_Mo_throwing ar (sg sc 9 (sc 9)) 1 1 0).2.1) ((f_Mo_throwing ar (sg sc 9 (sc 9)) 1 1 0).2.2)).2.2) 8) 30)))) ∧ (¬ (((f_Mo_throwing ar (sg sc 9 (sc 9)) 1 1 0).1) = 0) → True))))))) ∧ (¬ ((f_Mo_in a2 1 1000000) = 0) → ((p_Mo_refusal ar sc a0 a1 a2) ∧ ((((sg sc 9 (f_Mo_refusal ar sc a0 a1 a2)) 9) = (-1) → ((((sg sc 9 (f_Mo_refusal ar sc a0 a1 a2)) 8) = 30 → ((((f_Mo_throwing ar (sg sc 9 (f_Mo_refusal ar sc a0 a1 a2)) 0 0 1).1) = 0 → ((q_Mo_permit_103 a0 a1 a2 0 200 0 ((f_Mo_throwing ar (sg sc 9 (f_Mo_refusal ar sc a0 a1 a2)) 0 0 1).2.1) ((f_Mo_throwing ar (sg sc 9 (f_Mo_refusal ar sc a0 a1 a2)) 0 0 1).2.2)) ∧ ((vp_in (((g_Mo_permit_103 a0 a1 a2 0 200 0 ((f_Mo_throwing ar (sg sc 9 (f_Mo_refusal ar sc a0 a1 a2)) 0 0 1).2.1) ((f_Mo_throwing ar (sg sc 9 (f_Mo_refusal ar sc a0 a1 a2)) 0 0 1).2.2)).2.2) 8) 30) ∧ (vp_in (((g_Mo_permit_103 a0 a1 a2 0 200 0 ((f_Mo_throwing ar (sg sc 9 (f_Mo_refusal ar sc a0 a1 a2)) 0 0 1).2.1) ((f_Mo_throwing ar (sg sc 9 (f_Mo_refusal ar sc a0 a1 a2)) 0 0 1).2.2)).2.2) 8) 30)))) ∧ (¬ (((f_Mo_throwing ar (sg sc 9 (f_Mo_refusal ar sc a0 a1 a2)) 0 0 1).1) = 0) → True))) ∧ (¬ (((sg sc 9 (f_Mo_refusal ar sc a0 a1 a2)) 8) = 30) → ((((f_Mo_throwing ar (sg sc 9 (f_Mo_refusal ar sc a0 a1 a2)) 0 0 0).1) = 0 → ((q_Mo_permit_103 a0 a1 a2 0 200 0 ((f_Mo_throwing ar (sg sc 9 (f_Mo_refusal ar sc a0 a1 a2)) 0 0 0).2.1) ((f_Mo_throwing ar (sg sc 9 (f_Mo_refusal ar sc a0 a1 a2)) 0 0 0).2.2)) ∧ ((vp_in (((g_Mo_permit_103 a0 a1 a2 0 200 0 ((f_Mo_throwing ar (sg sc 9 (f_Mo_refusal ar sc a0 a1 a2)) 0 0 0).2.1) ((f_Mo_throwing ar (sg sc 9 (f_Mo_refusal ar sc a0 a1 a2)) 0 0 0).2.2)).2.2) 8) 30) ∧ (vp_in (((g_Mo_permit_103 a0 a1 a2 0 200 0 ((f_Mo_throwing ar (sg sc 9 (f_Mo_refusal ar sc a0 a1 a2)) 0 0 0).2.1) ((f_Mo_throwing ar (sg sc 9 (f_Mo_refusal ar sc a0 a1 a2)) 0 0 0).2.2)).2.2) 8) 30)))) ∧ (¬ (((f_Mo_throwing ar (sg sc 9 (f_Mo_refusal ar sc a0 a1 a2)) 0 0 0).1) = 0) → True))))) ∧ (¬ (((sg sc 9 (f_Mo_refusal ar sc a0 a1 a2)) 9) = (-1)) → ((((sg sc 9 (f_Mo_refusal ar sc a0 a1 a2)) 8) = 30 → ((((f_Mo_throwing ar (sg sc 9 (f_Mo_refusal ar sc a0 a1 a2)) 0 1 1).1) = 0 → ((q_Mo_permit_103 a0 a1 a2 0 200 0 ((f_Mo_throwing ar (sg sc 9 (f_Mo_refusal ar sc a0 a1 a2)) 0 1 1).2.1) ((f_Mo_throwing ar (sg sc 9 (f_Mo_refusal ar sc a0 a1 a2)) 0 1 1).2.2)) ∧ ((vp_in (((g_Mo_permit_103 a0 a1 a2 0 200 0 ((f_Mo_throwing ar (sg sc 9 (f_Mo_refusal ar sc a0 a1 a2)) 0 1 1).2.1) ((f_Mo_throwing ar (sg sc 9 (f_Mo_refusal ar sc a0 a1 a2)) 0 1 1).2.2)).2.2) 8) 30) ∧ (vp_in (((g_Mo_permit_103 a0 a1 a2 0 200 0 ((f_Mo_throwing ar (sg sc 9 (f_Mo_refusal ar sc a0 a1 a2)) 0 1 1).2.1) ((f_Mo_throwing ar (sg sc 9 (f_Mo_refusal ar sc a0 a1 a2)) 0 1 1).2.2)).2.2) 8) 30)))) ∧ (¬ (((f_Mo_throwing ar (sg sc 9 (f_Mo_refusal ar sc a0 a1 a2)) 0 1 1).1) = 0) → True))) ∧ (¬ (((sg sc 9 (f_Mo_refusal ar sc a0 a1 a2)) 8) = 30) → ((((f_Mo_throwing ar (sg sc 9 (f_Mo_refusal ar sc a0 a1 a2)) 0 1 0).1) = 0 → ((q_Mo_permit_103 a0 a1 a2 0 200 0 ((f_Mo_throwing ar (sg sc 9 (f_Mo_refusal ar sc a0 a1 a2)) 0 1 0).2.1) ((f_Mo_throwing ar (sg sc 9 (f_Mo_refusal ar sc a0 a1 a2)) 0 1 0).2.2)) ∧ ((vp_in (((g_Mo_permit_103 a0 a1 a2 0 200 0 ((f_Mo_throwing ar (sg sc 9 (f_Mo_refusal ar sc a0 a1 a2)) 0 1 0).2.1) ((f_Mo_throwing ar (sg sc 9 (f_Mo_refusal ar sc a0 a1 a2)) 0 1 0).2.2)).2.2) 8) 30) ∧ (vp_in (((g_Mo_permit_103 a0 a1 a2 0 200 0 ((f_Mo_throwing ar (sg sc 9 (f_Mo_refusal ar sc a0 a1 a2)) 0 1 0).2.1) ((f_Mo_throwing ar (sg sc 9 (f_Mo_refusal ar sc a0 a1 a2)) 0 1 0).2.2)).2.2) 8) 30)))) ∧ (¬ (((f_Mo_throwing ar (sg sc 9 (f_Mo_refusal ar sc a0 a1 a2)) 0 1 0).1) = 0) → True))))))))))))
def f_Mo_ground (ar : Nat → Nat → Int32) (sc : Nat → Int32) (a0 : Int32) (a1 : Int32) (a2 : Int32) (a3 : Int32) : (Nat → Nat → Int32) × (Nat → Int32) :=
  if (f_Mo_isPlace a0) = 0 then
    if ((f_Mo_throwing ar sc 1 0 0).1) = 0 then
      (s2 (s2 (s2 (s2 ((f_Mo_throwing ar sc 1 0 0).2.1) 22 ((120 : Int32).toNatClampNeg) a0) 22 (((120 : Int32) + (1 : Int32)).toNatClampNeg) a1) 22 (((120 : Int32) + (2 : Int32)).toNatClampNeg) a2) 22 (((120 : Int32) + (3 : Int32)).toNatClampNeg) a3, sg ((f_Mo_throwing ar sc 1 0 0).2.2) 7 1)
    else
      ((f_Mo_throwing ar sc 1 0 0).2.1, (f_Mo_throwing ar sc 1 0 0).2.2)
  else
    if (f_Mo_isPlace a1) = 0 then
      if ((f_Mo_throwing ar sc 1 0 0).1) = 0 then
        (s2 (s2 (s2 (s2 ((f_Mo_throwing ar sc 1 0 0).2.1) 22 ((120 : Int32).toNatClampNeg) a0) 22 (((120 : Int32) + (1 : Int32)).toNatClampNeg) a1) 22 (((120 : Int32) + (2 : Int32)).toNatClampNeg) a2) 22 (((120 : Int32) + (3 : Int32)).toNatClampNeg) a3, sg ((f_Mo_throwing ar sc 1 0 0).2.2) 7 1)
      else
        ((f_Mo_throwing ar sc 1 0 0).2.1, (f_Mo_throwing ar sc 1 0 0).2.2)
    else
      if (f_Mo_isPlace a2) = 0 then
        if ((f_Mo_throwing ar sc 1 0 0).1) = 0 then
          (s2 (s2 (s2 (s2 ((f_Mo_throwing ar sc 1 0 0).2.1) 22 ((120 : Int32).toNatClampNeg) a0) 22 (((120 : Int32) + (1 : Int32)).toNatClampNeg) a1) 22 (((120 : Int32) + (2 : Int32)).toNatClampNeg) a2) 22 (((120 : Int32) + (3 : Int32)).toNatClampNeg) a3, sg ((f_Mo_throwing ar sc 1 0 0).2.2) 7 1)
        else
          ((f_Mo_throwing ar sc 1 0 0).2.1, (f_Mo_throwing ar sc 1 0 0).2.2)
      else
        if (f_Mo_isPlace a3) = 0 then
          if ((f_Mo_throwing ar sc 1 0 0).1) = 0 then
            (s2 (s2 (s2 (s2 ((f_Mo_throwing ar sc 1 0 0).2.1) 22 ((120 : Int32).toNatClampNeg) a0) 22 (((120 : Int32) + (1 : Int32)).toNatClampNeg) a1) 22 (((120 : Int32) + (2 : Int32)).toNatClampNeg) a2) 22 (((120 : Int32) + (3 : Int32)).toNatClampNeg) a3, sg ((f_Mo_throwing ar sc 1 0 0).2.2) 7 1)
          else
            ((f_Mo_throwing ar sc 1 0 0).2.1, (f_Mo_throwing ar sc 1 0 0).2.2)
        else
          if a2 ≤ a0 then
            if ((f_Mo_throwing ar sc 1 0 0).1) = 0 then
              (s2 (s2 (s2 (s2 ((f_Mo_throwing ar sc 1 0 0).2.1) 22 ((120 : Int32).toNatClampNeg) a0) 22 (((120 : Int32) + (1 : Int32)).toNatClampNeg) a1) 22 (((120 : Int32) + (2 : Int32)).toNatClampNeg) a2) 22 (((120 : Int32) + (3 : Int32)).toNatClampNeg) a3, sg ((f_Mo_throwing ar sc 1 0 0).2.2) 7 1)
            else
              ((f_Mo_throwing ar sc 1 0 0).2.1, (f_Mo_throwing ar sc 1 0 0).2.2)
          else
            if a3 ≤ a1 then
              if ((f_Mo_throwing ar sc 1 0 0).1) = 0 then
                (s2 (s2 (s2 (s2 ((f_Mo_throwing ar sc 1 0 0).2.1) 22 ((120 : Int32).toNatClampNeg) a0) 22 (((120 : Int32) + (1 : Int32)).toNatClampNeg) a1) 22 (((120 : Int32) + (2 : Int32)).toNatClampNeg) a2) 22 (((120 : Int32) + (3 : Int32)).toNatClampNeg) a3, sg ((f_Mo_throwing ar sc 1 0 0).2.2) 7 1)
              else
                ((f_Mo_throwing ar sc 1 0 0).2.1, (f_Mo_throwing ar sc 1 0 0).2.2)
            else
              if ((f_Mo_throwing ar sc 0 0 0).1) = 0 then
                (s2 (s2 (s2 (s2 ((f_Mo_throwing ar sc 0 0 0).2.1) 22 ((120 : Int32).toNatClampNeg) a0) 22 (((120 : Int32) + (1 : Int32)).toNatClampNeg) a1) 22 (((120 : Int32) + (2 : Int32)).toNatClampNeg) a2) 22 (((120 : Int32) + (3 : Int32)).toNatClampNeg) a3, sg ((f_Mo_throwing ar sc 0 0 0).2.2) 7 1)
              else
                ((f_Mo_throwing ar sc 0 0 0).2.1, (f_Mo_throwing ar sc 0 0 0).2.2)
def p_Mo_ground (ar : Nat → Nat → Int32) (sc : Nat → Int32) (a0 : Int32) (a1 : Int32) (a2 : Int32) (a3 : Int32) : Prop :=
  ((f_Mo_isPlace a0) = 0 → ((((f_Mo_throwing ar sc 1 0 0).1) = 0 → ((vp_in 120 124) ∧ ((vp_in ((120 : Int32) + (1 : Int32)) 124) ∧ ((vp_in ((120 : Int32) + (2 : Int32)) 124) ∧ (vp_in ((120 : Int32) + (3 : Int32)) 124))))) ∧ (¬ (((f_Mo_throwing ar sc 1 0 0).1) = 0) → True))) ∧ (¬ ((f_Mo_isPlace a0) = 0) → (((f_Mo_isPlace a1) = 0 → ((((f_Mo_throwing ar sc 1 0 0).1) = 0 → ((vp_in 120 124) ∧ ((vp_in ((120 : Int32) + (1 : Int32)) 124) ∧ ((vp_in ((120 : Int32) + (2 : Int32)) 124) ∧ (vp_in ((120 : Int32) + (3 : Int32)) 124))))) ∧ (¬ (((f_Mo_throwing ar sc 1 0 0).1) = 0) → True))) ∧ (¬ ((f_Mo_isPlace a1) = 0) → (((f_Mo_isPlace a2) = 0 → ((((f_Mo_throwing ar sc 1 0 0).1) = 0 → ((vp_in 120 124) ∧ ((vp_in ((120 : Int32) + (1 : Int32)) 124) ∧ ((vp_in ((120 : Int32) + (2 : Int32)) 124) ∧ (vp_in ((120 : Int32) + (3 : Int32)) 124))))) ∧ (¬ (((f_Mo_throwing ar sc 1 0 0).1) = 0) → True))) ∧ (¬ ((f_Mo_isPlace a2) = 0) → (((f_Mo_isPlace a3) = 0 → ((((f_Mo_throwing ar sc 1 0 0).1) = 0 → ((vp_in 120 124) ∧ ((vp_in ((120 : Int32) + (1 : Int32)) 124) ∧ ((vp_in ((120 : Int32) + (2 : Int32)) 124) ∧ (vp_in ((120 : Int32) + (3 : Int32)) 124))))) ∧ (¬ (((f_Mo_throwing ar sc 1 0 0).1) = 0) → True))) ∧ (¬ ((f_Mo_isPlace a3) = 0) → ((a2 ≤ a0 → ((((f_Mo_throwing ar sc 1 0 0).1) = 0 → ((vp_in 120 124) ∧ ((vp_in ((120 : Int32) + (1 : Int32)) 124) ∧ ((vp_in ((120 : Int32) + (2 : Int32)) 124) ∧ (vp_in ((120 : Int32) + (3 : Int32)) 124))))) ∧ (¬ (((f_Mo_throwing ar sc 1 0 0).1) = 0) → True))) ∧ (¬ (a2 ≤ a0) → ((a3 ≤ a1 → ((((f_Mo_throwing ar sc 1 0 0).1) = 0 → ((vp_in 120 124) ∧ ((vp_in ((120 : Int32) + (1 : Int32)) 124) ∧ ((vp_in ((120 : Int32) + (2 : Int32)) 124) ∧ (vp_in ((120 : Int32) + (3 : Int32)) 124))))) ∧ (¬ (((f_Mo_throwing ar sc 1 0 0).1) = 0) → True))) ∧ (¬ (a3 ≤ a1) → ((((f_Mo_throwing ar sc 0 0 0).1) = 0 → ((vp_in 120 124) ∧ ((vp_in ((120 : Int32) + (1 : Int32)) 124) ∧ ((vp_in ((120 : Int32) + (2 : Int32)) 124) ∧ (vp_in ((120 : Int32) + (3 : Int32)) 124))))) ∧ (¬ (((f_Mo_throwing ar sc 0 0 0).1) = 0) → True)))))))))))))
def f_Mo_clash (ar : Nat → Nat → Int32) (sc : Nat → Int32)  : Int32 × (Nat → Nat → Int32) × (Nat → Int32) :=
  ((sg sc 0 0) 9, ar, sg sc 0 0)
def f_Mo_touches (ar : Nat → Nat → Int32) (sc : Nat → Int32) (a0 : Int32) : Int32 × (Nat → Nat → Int32) × (Nat → Int32) :=
  if (f_Mo_in a0 0 ((sc 8) - 1)) = 0 then
    if ((f_Mo_throwing ar sc 1 0 0).1) = 0 then
      (((((((f_Mo_throwing ar sc 1 0 0).2.1) 24 a0.toNatClampNeg) - 1) / 1440) - ((((f_Mo_throwing ar sc 1 0 0).2.1) 23 a0.toNatClampNeg) / 1440)) + 1, (f_Mo_throwing ar sc 1 0 0).2.1, (f_Mo_throwing ar sc 1 0 0).2.2)
    else
      (0, (f_Mo_throwing ar sc 1 0 0).2.1, (f_Mo_throwing ar sc 1 0 0).2.2)
  else
    if ((f_Mo_throwing ar sc 0 0 0).1) = 0 then
      (((((((f_Mo_throwing ar sc 0 0 0).2.1) 24 a0.toNatClampNeg) - 1) / 1440) - ((((f_Mo_throwing ar sc 0 0 0).2.1) 23 a0.toNatClampNeg) / 1440)) + 1, (f_Mo_throwing ar sc 0 0 0).2.1, (f_Mo_throwing ar sc 0 0 0).2.2)
    else
      (0, (f_Mo_throwing ar sc 0 0 0).2.1, (f_Mo_throwing ar sc 0 0 0).2.2)
def p_Mo_touches (ar : Nat → Nat → Int32) (sc : Nat → Int32) (a0 : Int32) : Prop :=
  ((f_Mo_in a0 0 ((sc 8) - 1)) = 0 → ((((f_Mo_throwing ar sc 1 0 0).1) = 0 → ((vp_in a0 30) ∧ (vp_in a0 30))) ∧ (¬ (((f_Mo_throwing ar sc 1 0 0).1) = 0) → True))) ∧ (¬ ((f_Mo_in a0 0 ((sc 8) - 1)) = 0) → ((((f_Mo_throwing ar sc 0 0 0).1) = 0 → ((vp_in a0 30) ∧ (vp_in a0 30))) ∧ (¬ (((f_Mo_throwing ar sc 0 0 0).1) = 0) → True)))
def f_Mo_surprise (ar : Nat → Nat → Int32) (sc : Nat → Int32) (a0 : Int32) : Int32 × (Nat → Nat → Int32) × (Nat → Int32) :=
  if (sc 2) = 0 then
    if ((f_Mo_throwing ar sc 1 0 0).1) = 0 then
      (((((a0 * 1103515245) + 12345).toUInt32 >>> ((8 : Int32).toUInt32 &&& Int32.toUInt32 31)).toInt32) - ((((a0 * 1103515245) + 12345).toUInt32 >>> ((8 : Int32).toUInt32 &&& Int32.toUInt32 31)).toInt32) / (((f_Mo_throwing ar sc 1 0 0).2.2) 2) * (((f_Mo_throwing ar sc 1 0 0).2.2) 2), (f_Mo_throwing ar sc 1 0 0).2.1, (f_Mo_throwing ar sc 1 0 0).2.2)
    else
      (0, (f_Mo_throwing ar sc 1 0 0).2.1, (f_Mo_throwing ar sc 1 0 0).2.2)
  else
    if ((f_Mo_throwing ar sc 0 0 0).1) = 0 then
      (((((a0 * 1103515245) + 12345).toUInt32 >>> ((8 : Int32).toUInt32 &&& Int32.toUInt32 31)).toInt32) - ((((a0 * 1103515245) + 12345).toUInt32 >>> ((8 : Int32).toUInt32 &&& Int32.toUInt32 31)).toInt32) / (((f_Mo_throwing ar sc 0 0 0).2.2) 2) * (((f_Mo_throwing ar sc 0 0 0).2.2) 2), (f_Mo_throwing ar sc 0 0 0).2.1, (f_Mo_throwing ar sc 0 0 0).2.2)
    else
      (0, (f_Mo_throwing ar sc 0 0 0).2.1, (f_Mo_throwing ar sc 0 0 0).2.2)
def p_Mo_surprise (ar : Nat → Nat → Int32) (sc : Nat → Int32) (a0 : Int32) : Prop :=
  ((sc 2) = 0 → ((((f_Mo_throwing ar sc 1 0 0).1) = 0 → (¬ (((f_Mo_throwing ar sc 1 0 0).2.2) 2) = 0)) ∧ (¬ (((f_Mo_throwing ar sc 1 0 0).1) = 0) → True))) ∧ (¬ ((sc 2) = 0) → ((((f_Mo_throwing ar sc 0 0 0).1) = 0 → (¬ (((f_Mo_throwing ar sc 0 0 0).2.2) 2) = 0)) ∧ (¬ (((f_Mo_throwing ar sc 0 0 0).1) = 0) → True)))

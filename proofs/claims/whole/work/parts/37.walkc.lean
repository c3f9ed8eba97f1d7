
theorem s2_ne {ar : Nat → Nat → Int32} {k k' i : Nat} {x : Int32} (h : k' ≠ k) : s2 ar k i x k' = ar k' := by
  have hb : Nat.beq k' k = false := by
    cases e : Nat.beq k' k
    · rfl
    · exact absurd (Nat.eq_of_beq_eq_true e) h
  unfold s2
  rw [hb]
  rfl
theorem s2_eq {ar : Nat → Nat → Int32} {k i : Nat} {x : Int32} : s2 ar k i x k = upd (ar k) i x := by
  have hk : Nat.beq k k = true := by simp
  unfold s2; rw [hk]; rfl
theorem szc {u v : Int32} (hu : -10000 ≤ u.toInt ∧ u.toInt ≤ 10000) (hv : -10000 ≤ v.toInt ∧ v.toInt ≤ 10000) : (if 0 ≤ u - v then u - v else 0 - (u - v)) = nI (u.toInt - v.toInt).natAbs ∧ f_Mo_size (u - v) = nI (u.toInt - v.toInt).natAbs ∧ (u.toInt - v.toInt).natAbs ≤ 20000 := by
  have e := @subI u v (by omega) (by omega)
  have hb : (u.toInt - v.toInt).natAbs ≤ 20000 := by omega
  unfold f_Mo_size
  by_cases c : 0 ≤ u - v
  · rw [if_pos c, if_pos c]
    rw [Int32.le_iff_toInt_le, iz, e] at c
    have h1 : u - v = nI (u.toInt - v.toInt).natAbs := Int32.toInt_inj.mp (by rw [e, nI_toInt (by omega)]; omega)
    exact ⟨h1, h1, hb⟩
  · rw [if_neg c, if_neg c]
    rw [Int32.le_iff_toInt_le, iz, e] at c
    have h2 : (0 - (u - v)).toInt = 0 - (u.toInt - v.toInt) := by
      rw [subI (by rw [iz, e]; omega) (by rw [iz, e]; omega), iz, e]
    have h1 : 0 - (u - v) = nI (u.toInt - v.toInt).natAbs := Int32.toInt_inj.mp (by rw [h2, nI_toInt (by omega)]; omega)
    exact ⟨h1, by rw [← Int32.zero_sub]; exact h1, hb⟩
theorem sz0 {u : Int32} (hu : -10000 ≤ u.toInt ∧ u.toInt ≤ 10000) : f_Mo_size u = nI (u.toInt - (0 : Int32).toInt).natAbs := by
  have := (szc hu (v := 0) (by decide)).2.1
  rw [Int32.sub_zero] at this
  exact this
def cx (R : Nat → Int32) (t : Nat → Nat) (m j : Nat) : Int32 := if j < m then R (t j) else 0
def lgf (X Y : Nat → Int32) (t : Nat → Nat) (m x y : Nat) : Nat := ((cx X t m x).toInt - (cx X t m y).toInt).natAbs + ((cx Y t m x).toInt - (cx Y t m y).toInt).natAbs
theorem cx_b {R : Nat → Int32} {t : Nat → Nat} {m : Nat} (h : ∀ j, j < m → -10000 ≤ (R (t j)).toInt ∧ (R (t j)).toInt ≤ 10000) (j : Nat) : -10000 ≤ (cx R t m j).toInt ∧ (cx R t m j).toInt ≤ 10000 := by
  unfold cx
  by_cases c : j < m
  · rw [if_pos c]; exact h j c
  · rw [if_neg c]; decide
theorem lg_b {X Y : Nat → Int32} {t : Nat → Nat} {m : Nat} (hX : ∀ j, j < m → -10000 ≤ (X (t j)).toInt ∧ (X (t j)).toInt ≤ 10000) (hY : ∀ j, j < m → -10000 ≤ (Y (t j)).toInt ∧ (Y (t j)).toInt ≤ 10000) (x y : Nat) : lgf X Y t m x y ≤ 40000 := by
  have a := (szc (cx_b hX x) (cx_b hX y)).2.2
  have b := (szc (cx_b hY x) (cx_b hY y)).2.2
  unfold lgf
  omega
theorem lg_c (X Y : Nat → Int32) (t : Nat → Nat) (m x y : Nat) : lgf X Y t m x y = lgf X Y t m y x := by
  unfold lgf
  omega
def TI (ar0 : Nat → Nat → Int32) (t : Nat → Nat) (i : Nat) (ar : Nat → Nat → Int32) : Prop := (∀ k, (k < 24 ∨ 27 ≤ k) → ar k = ar0 k) ∧ ∀ j, j < i → ar 24 j = nI (t j) ∧ ar 25 j = ar0 9 (t j) ∧ ar 26 j = ar0 10 (t j)
theorem tl {a : Int64} {m : Nat} (hm : m < 8) (t : Nat → Nat) (ht : ∀ j, j < m → f_Ir_toldPoint a (nI j) = nI (t j) ∧ t j < 30) {ar0 : Nat → Nat → Int32} {sc : Nat → Int32} : ∀ n i ar, i ≤ m → m - i < n → TI ar0 t i ar → q_Ir_walk_35 a (nI m) n (nI i) ar sc ∧ ∃ ar', g_Ir_walk_35 a (nI m) n (nI i) ar sc = (nI m, ar', sc) ∧ TI ar0 t m ar' := by
  intro n
  induction n with
  | zero => intro i ar h1 h2; omega
  | succ n ih =>
    intro i ar h1 h2 hI
    rw [q_Ir_walk_35, g_Ir_walk_35]
    by_cases c : i = m
    · have c' : nI m ≤ nI i := nI_le (by omega) (by omega)
      rw [if_pos c', c]
      rw [c] at hI
      exact ⟨⟨fun _ => trivial, fun h => absurd (nI_le (Nat.le_refl m) (by omega)) h⟩, ar, rfl, hI⟩
    · have c' : ¬ nI m ≤ nI i := nI_ge (by omega) (by omega)
      obtain ⟨t1, t2⟩ := ht i (by omega)
      have hc : (nI i).toNatClampNeg = i := nI_clamp (by omega)
      have hct : (nI (t i)).toNatClampNeg = t i := nI_clamp (by omega)
      rw [if_neg c', nI_1, t1, hct]
      unfold f_Route_tell p_Route_tell
      rw [hc]
      dsimp only
      obtain ⟨I1, ar', I2, I3⟩ := ih (i + 1) (s2 (s2 (s2 ar 24 i (nI (t i))) 25 i (ar 9 (t i))) 26 i (ar 10 (t i))) (by omega) (by omega) (by
        refine ⟨fun k hk => ?_, fun j hj => ?_⟩
        · rw [s2_ne (by omega), s2_ne (by omega), s2_ne (by omega)]; exact hI.1 k hk
        · have f9 : ar 9 = ar0 9 := hI.1 9 (by omega)
          have f10 : ar 10 = ar0 10 := hI.1 10 (by omega)
          show upd (ar 24) i (nI (t i)) j = nI (t j) ∧ upd (ar 25) i (ar 9 (t i)) j = ar0 9 (t j) ∧ upd (ar 26) i (ar 10 (t i)) j = ar0 10 (t j)
          by_cases e : j = i
          · rw [e, us, us, us, f9, f10]; exact ⟨rfl, rfl, rfl⟩
          · rw [un e, un e, un e]; exact hI.2 j (by omega))
      exact ⟨⟨fun h => absurd h c', fun _ => ⟨vp_in_nI t2 (by omega), vp_in_nI t2 (by omega), ⟨vp_in_nI (by omega) (by omega), vp_in_nI (by omega) (by omega), vp_in_nI (by omega) (by omega)⟩, I1⟩⟩, ar', I2, I3⟩
def LE (ar1 : Nat → Nat → Int32) (m : Nat) (lg : Nat → Nat → Nat) (a b : Nat) (ar : Nat → Nat → Int32) : Prop := (∀ k, k ≠ 27 → ar k = ar1 k) ∧ ∀ x y, (x < a ∨ (x = a ∧ y < b)) → x ≤ m → y ≤ m → ar 27 (x * 8 + y) = nI (lg x y)
def LV (ar1 : Nat → Nat → Int32) (m : Nat) (lg : Nat → Nat → Nat) : Prop := ∀ x y, x ≤ m → y ≤ m → (if 0 ≤ (ar1 25 x - ar1 25 y) then (ar1 25 x - ar1 25 y) else 0 - (ar1 25 x - ar1 25 y)) + (if 0 ≤ (ar1 26 x - ar1 26 y) then (ar1 26 x - ar1 26 y) else 0 - (ar1 26 x - ar1 26 y)) = nI (lg x y)
theorem lgi {ar1 : Nat → Nat → Int32} {sc : Nat → Int32} {m : Nat} {lg : Nat → Nat → Nat} (hm : m < 8) (hsc : sc 4 = nI m) (hv : LV ar1 m lg) {a : Nat} (ha : a ≤ m) : ∀ n b ar, b ≤ m + 1 → m + 1 - b < n → LE ar1 m lg a b ar → q_Route_fillLegs_12 (nI a) n (nI b) ar sc ∧ ∃ ar', g_Route_fillLegs_12 (nI a) n (nI b) ar sc = (nI (m + 1), ar', sc) ∧ LE ar1 m lg a (m + 1) ar' := by
  intro n
  induction n with
  | zero => intro b ar h1 h2; omega
  | succ n ih =>
    intro b ar h1 h2 hI
    rw [q_Route_fillLegs_12, g_Route_fillLegs_12, hsc]
    by_cases c : b = m + 1
    · have c' : nI m < nI b := nI_lt (by omega) (by omega)
      rw [if_pos c']
      refine ⟨⟨fun _ => trivial, fun h => absurd c' h⟩, ar, by rw [c], ?_⟩
      rw [c] at hI
      exact hI
    · have c' : ¬ nI m < nI b := nI_nlt (by omega) (by omega)
      have hca : (nI a).toNatClampNeg = a := nI_clamp (by omega)
      have hcb : (nI b).toNatClampNeg = b := nI_clamp (by omega)
      have e25 : ar 25 = ar1 25 := hI.1 25 (by omega)
      have e26 : ar 26 = ar1 26 := hI.1 26 (by omega)
      rw [if_neg c', nI_1, hca, hcb, i8, nI_clamp (by omega), e25, e26, hv a b ha (by omega)]
      obtain ⟨I1, ar', I2, I3⟩ := ih (b + 1) (s2 ar 27 (a * 8 + b) (nI (lg a b))) (by omega) (by omega) (by
        refine ⟨fun k hk => ?_, fun x y hxy hx hy => ?_⟩
        · rw [s2_ne hk]; exact hI.1 k hk
        · show upd (ar 27) (a * 8 + b) (nI (lg a b)) (x * 8 + y) = _
          by_cases e : x = a ∧ y = b
          · rw [e.1, e.2, us]
          · rw [un (by omega)]; exact hI.2 x y (by omega) hx hy)
      exact ⟨⟨fun h => absurd h c', fun _ => ⟨vp_in_nI (by omega) (by omega), vp_in_nI (by omega) (by omega), vp_in_nI (by omega) (by omega), vp_in_nI (by omega) (by omega), vp_in_nI (by omega) (by omega), I1⟩⟩, ar', I2, I3⟩
theorem lgo {ar1 : Nat → Nat → Int32} {sc : Nat → Int32} {m : Nat} {lg : Nat → Nat → Nat} (hm : m < 8) (hsc : sc 4 = nI m) (hv : LV ar1 m lg) : ∀ n a ar, a ≤ m + 1 → m + 1 - a < n → LE ar1 m lg a 0 ar → q_Route_fillLegs_2 n (nI a) ar sc ∧ ∃ ar', g_Route_fillLegs_2 n (nI a) ar sc = (nI (m + 1), ar', sc) ∧ LE ar1 m lg (m + 1) 0 ar' := by
  intro n
  induction n with
  | zero => intro a ar h1 h2; omega
  | succ n ih =>
    intro a ar h1 h2 hI
    by_cases c : a = m + 1
    · rw [q_Route_fillLegs_2, g_Route_fillLegs_2, hsc]
      have c' : nI m < nI a := nI_lt (by omega) (by omega)
      rw [if_pos c']
      refine ⟨⟨fun _ => trivial, fun h => absurd c' h⟩, ar, by rw [c], ?_⟩
      rw [c] at hI
      exact hI
    · have c' : ¬ nI m < nI a := nI_nlt (by omega) (by omega)
      obtain ⟨J1, ar2, J2, J3⟩ := lgi hm hsc hv (show a ≤ m by omega) 200 0 ar (by omega) (by omega) hI
      rw [nI_0] at J1 J2
      rw [q_Route_fillLegs_2, g_Route_fillLegs_2, J2, hsc, if_neg c', nI_1]
      dsimp only
      obtain ⟨I1, ar', I2, I3⟩ := ih (a + 1) ar2 (by omega) (by omega) ⟨J3.1, fun x y hxy hx hy => J3.2 x y (by omega) hx hy⟩
      exact ⟨⟨fun h => absurd h c', fun _ => ⟨J1, I1⟩⟩, ar', I2, I3⟩
def HE (ar2 : Nat → Nat → Int32) (m : Nat) (T : Nat → Nat → Nat) (g p : Nat) (ar : Nat → Nat → Int32) : Prop := (∀ k, k ≠ 28 → ar k = ar2 k) ∧ ∀ x y, (g < x ∨ (x = g ∧ y < p)) → x < 2 ^ m → y ≤ m → ar 28 (x * 8 + y) = nI (T x y)
theorem HE_s {ar2 ar : Nat → Nat → Int32} {m g p : Nat} {T : Nat → Nat → Nat} (hm : m < 8) (hp : p ≤ m) (hI : HE ar2 m T g p ar) : HE ar2 m T g (p + 1) (s2 ar 28 (g * 8 + p) (nI (T g p))) := by
  refine ⟨fun k hk => ?_, fun x y hxy hx hy => ?_⟩
  · rw [s2_ne hk]; exact hI.1 k hk
  · show upd (ar 28) (g * 8 + p) (nI (T g p)) (x * 8 + y) = _
    by_cases e : x = g ∧ y = p
    · rw [e.1, e.2, us]
    · rw [un (by omega)]; exact hI.2 x y (by omega) hx hy
theorem he1 {ar2 : Nat → Nat → Int32} {sc : Nat → Int32} {m : Nat} {lg T : Nat → Nat → Nat} (hm : m < 8) (hT : TT lg m T) (hsc : sc 4 = nI m) (h27 : ∀ x y, x ≤ m → y ≤ m → ar2 27 (x * 8 + y) = nI (lg x y)) : ∀ n p ar, p ≤ m + 1 → m + 1 - p < n → HE ar2 m T (2 ^ m - 1) p ar → q_Route_fillLeastHome_11 (nI (2 ^ m - 1)) n (nI p) ar sc ∧ ∃ ar', g_Route_fillLeastHome_11 (nI (2 ^ m - 1)) n (nI p) ar sc = (nI (m + 1), ar', sc) ∧ HE ar2 m T (2 ^ m - 1) (m + 1) ar' := by
  intro n
  have h7 := p_7 hm
  have hpos : 0 < 2 ^ m := Nat.pow_pos (by decide)
  induction n with
  | zero => intro p ar h1 h2; omega
  | succ n ih =>
    intro p ar h1 h2 hI
    rw [q_Route_fillLeastHome_11, g_Route_fillLeastHome_11, hsc]
    by_cases c : p = m + 1
    · have c' : nI m < nI p := nI_lt (by omega) (by omega)
      rw [if_pos c']
      refine ⟨⟨fun _ => trivial, fun h => absurd c' h⟩, ar, by rw [c], ?_⟩
      rw [c] at hI
      exact hI
    · have c' : ¬ nI m < nI p := nI_nlt (by omega) (by omega)
      have e27 : ar 27 = ar2 27 := hI.1 27 (by omega)
      rw [if_neg c', nI_1, i8, i8, nI_clamp (by omega), nI_clamp (by omega), e27, h27 p m (by omega) (Nat.le_refl m), ← hT.1 p (by omega)]
      obtain ⟨I1, ar', I2, I3⟩ := ih (p + 1) _ (by omega) (by omega) (HE_s hm (show p ≤ m by omega) hI)
      exact ⟨⟨fun h => absurd h c', fun _ => ⟨vp_in_nI (by omega) (by omega), vp_in_nI (by omega) (by omega), I1⟩⟩, ar', I2, I3⟩
theorem he2 {ar2 : Nat → Nat → Int32} {sc : Nat → Int32} {m : Nat} {lg T : Nat → Nat → Nat} (hm : m < 8) (hl : ∀ p j, p ≤ m → j ≤ m → lg p j ≤ 40000) (hT : TT lg m T) (hsc : sc 4 = nI m) (h27 : ∀ x y, x ≤ m → y ≤ m → ar2 27 (x * 8 + y) = nI (lg x y)) {u : Int32} {g : Nat} (hg : g + 1 < 2 ^ m) : ∀ n p ar, p ≤ m + 1 → m + 1 - p < n → HE ar2 m T g p ar → q_Route_fillLeastHome_60 u (nI g) n (nI p) ar sc ∧ ∃ ar', g_Route_fillLeastHome_60 u (nI g) n (nI p) ar sc = (nI (m + 1), ar', sc) ∧ HE ar2 m T g (m + 1) ar' := by
  intro n
  have h7 := p_7 hm
  induction n with
  | zero => intro p ar h1 h2; omega
  | succ n ih =>
    intro p ar h1 h2 hI
    rw [q_Route_fillLeastHome_60, g_Route_fillLeastHome_60, hsc]
    by_cases c : p = m + 1
    · have c' : nI m < nI p := nI_lt (by omega) (by omega)
      rw [if_pos c']
      refine ⟨⟨fun _ => trivial, fun h => absurd c' h⟩, ar, by rw [c], ?_⟩
      rw [c] at hI
      exact hI
    · have c' : ¬ nI m < nI p := nI_nlt (by omega) (by omega)
      have e27 : ar 27 = ar2 27 := hI.1 27 (by omega)
      have hD : DP ar m lg T (g + 1) := ⟨fun x y hx hy => by rw [e27]; exact h27 x y hx hy, fun x y h1 h2 h3 => hI.2 x y (by omega) h2 h3⟩
      obtain ⟨f1, b, f2, f3⟩ := fln (sc := sc) hm hl hT hD hsc hg (Nat.le_refl _) (show p ≤ m by omega)
      obtain ⟨e1, e2, e3⟩ := mb (sc := sc) hm hl hT hD (show g < 2 ^ m by omega) (Nat.le_refl _) (show p ≤ m by omega) f3.1 f3.2.1
      rw [if_neg c', nI_1, f2, e1, i8, nI_clamp (by omega), f3.2.2.1]
      obtain ⟨I1, ar', I2, I3⟩ := ih (p + 1) _ (by omega) (by omega) (HE_s hm (show p ≤ m by omega) hI)
      exact ⟨⟨fun h => absurd h c', fun _ => ⟨f1, e2, vp_in_nI (by omega) (by omega), I1⟩⟩, ar', I2, I3⟩
def dn (k : Nat) : Int32 := nI k + (-1)
theorem dn_s (k : Nat) : dn (k + 1) = nI k := by
  unfold dn
  rw [nI_succ, Int32.add_assoc, show (1 : Int32) + -1 = 0 from by decide, Int32.add_zero]
theorem dn_0 : dn 0 < 0 := by decide
def HF (ar2 : Nat → Nat → Int32) (m : Nat) (T : Nat → Nat → Nat) (k : Nat) (ar : Nat → Nat → Int32) : Prop := (∀ r, r ≠ 28 → ar r = ar2 r) ∧ ∀ x y, k ≤ x → x < 2 ^ m → y ≤ m → ar 28 (x * 8 + y) = nI (T x y)
theorem he3 {ar2 : Nat → Nat → Int32} {sc : Nat → Int32} {m : Nat} {lg T : Nat → Nat → Nat} (hm : m < 8) (hl : ∀ p j, p ≤ m → j ≤ m → lg p j ≤ 40000) (hT : TT lg m T) (hsc : sc 4 = nI m) (h27 : ∀ x y, x ≤ m → y ≤ m → ar2 27 (x * 8 + y) = nI (lg x y)) {u : Int32} : ∀ n k ar, k < n → k < 2 ^ m → HF ar2 m T k ar → q_Route_fillLeastHome_54 u n (dn k) ar sc ∧ ∃ ar', g_Route_fillLeastHome_54 u n (dn k) ar sc = (dn 0, ar', sc) ∧ HF ar2 m T 0 ar' := by
  intro n
  have h7 := p_7 hm
  induction n with
  | zero => intro k ar h1; omega
  | succ n ih =>
    intro k ar h1 h2 hI
    cases k with
    | zero =>
      rw [q_Route_fillLeastHome_54, g_Route_fillLeastHome_54, if_pos dn_0]
      exact ⟨⟨fun _ => trivial, fun h => absurd dn_0 h⟩, ar, rfl, hI⟩
    | succ k =>
      have c' : ¬ nI k < 0 := nI_pos (by omega)
      obtain ⟨J1, ar3, J2, J3⟩ := he2 (u := u) hm hl hT hsc h27 (show k + 1 < 2 ^ m from h2) 200 0 ar (by omega) (by omega) ⟨hI.1, fun x y hxy hx hy => hI.2 x y (by omega) hx hy⟩
      rw [nI_0] at J1 J2
      rw [dn_s, q_Route_fillLeastHome_54, g_Route_fillLeastHome_54, J2, if_neg c', show nI k + (-1) = dn k from rfl]
      dsimp only
      obtain ⟨I1, ar', I2, I3⟩ := ih k ar3 (by omega) (by omega) ⟨J3.1, fun x y h1 h2 h3 => J3.2 x y (by omega) h2 h3⟩
      exact ⟨⟨fun h => absurd h c', fun _ => ⟨J1, I1⟩⟩, ar', I2, I3⟩
theorem croute {a : Int64} {m : Nat} (hm : m < 8) (t : Nat → Nat) (ht : ∀ j, j < m → f_Ir_toldPoint a (nI j) = nI (t j) ∧ t j < 30) {ar0 : Nat → Nat → Int32} {sc : Nat → Int32} (hX : ∀ j, j < m → -10000 ≤ (ar0 9 (t j)).toInt ∧ (ar0 9 (t j)).toInt ≤ 10000) (hY : ∀ j, j < m → -10000 ≤ (ar0 10 (t j)).toInt ∧ (ar0 10 (t j)).toInt ≤ 10000) {T : Nat → Nat → Nat} (hT : TT (lgf (ar0 9) (ar0 10) t m) m T) : q_Ir_walk_35 a (nI m) 200 0 ar0 sc ∧ ∃ ar1, g_Ir_walk_35 a (nI m) 200 0 ar0 sc = (nI m, ar1, sc) ∧ p_Route_fillLegs (s2 (s2 ar1 25 (nI m).toNatClampNeg 0) 26 (nI m).toNatClampNeg 0) (sg sc 4 (nI m)) ∧ ∃ ar2, f_Route_fillLegs (s2 (s2 ar1 25 (nI m).toNatClampNeg 0) 26 (nI m).toNatClampNeg 0) (sg sc 4 (nI m)) = (ar2, sg sc 4 (nI m)) ∧ p_Route_fillLeastHome ar2 (sg sc 4 (nI m)) ∧ ∃ ar3, f_Route_fillLeastHome ar2 (sg sc 4 (nI m)) = (ar3, sg sc 4 (nI m)) ∧ DP ar3 m (lgf (ar0 9) (ar0 10) t m) T 0 ∧ (∀ k, (k < 24 ∨ 29 ≤ k) → ar3 k = ar0 k) ∧ ∀ j, j < m → ar3 24 j = nI (t j) := by
  have hpos : 0 < 2 ^ m := Nat.pow_pos (by decide)
  have h7 := p_7 hm
  obtain ⟨A1, ar1, A2, A3⟩ := tl hm t ht (ar0 := ar0) (sc := sc) 200 0 ar0 (by omega) (by omega) ⟨fun k _ => rfl, fun j hj => by omega⟩
  rw [nI_0] at A1 A2
  refine ⟨A1, ar1, A2, ?_⟩
  rw [nI_clamp (show m < 2 ^ 31 by omega)]
  have hsc : (sg sc 4 (nI m)) 4 = nI m := rfl
  have c25 : ∀ j, j ≤ m → upd (ar1 25) m 0 j = cx (ar0 9) t m j := by
    intro j hj
    unfold cx
    by_cases c : j < m
    · rw [if_pos c, un (by omega)]; exact (A3.2 j c).2.1
    · rw [if_neg c, show j = m by omega, us]
  have c26 : ∀ j, j ≤ m → upd (ar1 26) m 0 j = cx (ar0 10) t m j := by
    intro j hj
    unfold cx
    by_cases c : j < m
    · rw [if_pos c, un (by omega)]; exact (A3.2 j c).2.2
    · rw [if_neg c, show j = m by omega, us]
  have hv : LV (s2 (s2 ar1 25 m 0) 26 m 0) m (lgf (ar0 9) (ar0 10) t m) := by
    intro x y hx hy
    show (if 0 ≤ (upd (ar1 25) m 0 x - upd (ar1 25) m 0 y) then (upd (ar1 25) m 0 x - upd (ar1 25) m 0 y) else 0 - (upd (ar1 25) m 0 x - upd (ar1 25) m 0 y)) + (if 0 ≤ (upd (ar1 26) m 0 x - upd (ar1 26) m 0 y) then (upd (ar1 26) m 0 x - upd (ar1 26) m 0 y) else 0 - (upd (ar1 26) m 0 x - upd (ar1 26) m 0 y)) = _
    rw [c25 x hx, c25 y hy, c26 x hx, c26 y hy, (szc (cx_b hX x) (cx_b hX y)).1, (szc (cx_b hY x) (cx_b hY y)).1, nI_add]
    rfl
  obtain ⟨B1, ar2, B2, B3⟩ := lgo hm hsc hv 200 0 (s2 (s2 ar1 25 m 0) 26 m 0) (by omega) (by omega) ⟨fun k _ => rfl, fun x y hxy => by omega⟩
  rw [nI_0] at B1 B2
  have hl : ∀ p j, p ≤ m → j ≤ m → lgf (ar0 9) (ar0 10) t m p j ≤ 40000 := fun p j _ _ => lg_b hX hY p j
  have h27 : ∀ x y, x ≤ m → y ≤ m → ar2 27 (x * 8 + y) = nI (lgf (ar0 9) (ar0 10) t m x y) := fun x y hx hy => B3.2 x y (by omega) hx hy
  refine ⟨B1, ar2, ?_, ?_⟩
  · unfold f_Route_fillLegs
    rw [B2]
  · obtain ⟨C1, ar3, C2, C3⟩ := he1 hm hT hsc h27 200 0 ar2 (by omega) (by omega) ⟨fun k _ => rfl, fun x y hxy => by omega⟩
    rw [nI_0] at C1 C2
    obtain ⟨D1, ar4, D2, D3⟩ := he3 (u := nI (2 ^ m - 1)) hm hl hT hsc h27 200 (2 ^ m - 1) ar3 (by omega) (by omega) ⟨C3.1, fun x y h1 h2 h3 => C3.2 x y (by omega) h2 h3⟩
    have ea : (1 : Int32) <<< ((sg sc 4 (nI m)) 4 &&& 31) - 1 = nI (2 ^ m - 1) := l_a m hm
    have eb : nI (2 ^ m - 1) - 1 = dn (2 ^ m - 1) := Int32.sub_eq_add_neg _ _
    refine ⟨?_, ar4, ?_, ⟨?_, ?_⟩, ?_, ?_⟩
    · unfold p_Route_fillLeastHome
      rw [ea, eb, C2]
      exact ⟨C1, D1⟩
    · unfold f_Route_fillLeastHome
      rw [ea, eb, C2]
      dsimp only
      rw [D2]
    · intro x y hx hy
      rw [D3.1 27 (by omega)]
      exact h27 x y hx hy
    · intro x y h1 h2 h3
      exact D3.2 x y h1 h2 h3
    · intro k hk
      rw [D3.1 k (by omega), B3.1 k (by omega), s2_ne (by omega), s2_ne (by omega)]
      exact A3.1 k (by omega)
    · intro j hj
      rw [D3.1 24 (by omega), B3.1 24 (by omega)]
      exact (A3.2 j hj).1



def MI (br0 : Nat → Nat → Int32) (t : Nat → Nat) (i : Nat) (br : Nat → Nat → Int32) : Prop := (∀ k, k ≠ 20 → br k = br0 k) ∧ ∀ j, j < i → br 20 j = nI (t j)
theorem ml {a : Int64} {m : Nat} {u4 u5 : Int32} (hm : m < 8) (t : Nat → Nat) (ht : ∀ j, j < m → f_Mo_placeOf a (nI j) = nI (t j)) {br0 : Nat → Nat → Int32} {bc : Nat → Int32} : ∀ n i br, i ≤ m → m - i < n → MI br0 t i br → q_Mo_walk_131 a (nI m) u4 u5 n (nI i) br bc ∧ ∃ br', g_Mo_walk_131 a (nI m) u4 u5 n (nI i) br bc = (nI m, br', bc) ∧ MI br0 t m br' := by
  intro n
  induction n with
  | zero => intro i br h1 h2; omega
  | succ n ih =>
    intro i br h1 h2 hI
    rw [q_Mo_walk_131, g_Mo_walk_131]
    by_cases c : i = m
    · have c' : nI m ≤ nI i := nI_le (by omega) (by omega)
      rw [if_pos c']
      refine ⟨⟨fun _ => trivial, fun h => absurd c' h⟩, br, by rw [c], ?_⟩
      rw [c] at hI
      exact hI
    · have c' : ¬ nI m ≤ nI i := nI_ge (by omega) (by omega)
      rw [if_neg c', nI_1, ht i (by omega), nI_clamp (show i < 2 ^ 31 by omega)]
      obtain ⟨I1, br', I2, I3⟩ := ih (i + 1) (s2 br 20 i (nI (t i))) (by omega) (by omega) (by
        refine ⟨fun k hk => ?_, fun j hj => ?_⟩
        · rw [s2_ne hk]; exact hI.1 k hk
        · show upd (br 20) i (nI (t i)) j = nI (t j)
          by_cases e : j = i
          · rw [e, us]
          · rw [un e]; exact hI.2 j (by omega))
      exact ⟨⟨fun h => absurd h c', fun _ => ⟨vp_in_nI (by omega) (by omega), I1⟩⟩, br', I2, I3⟩
def GM (br : Nat → Nat → Int32) (m : Nat) (lg : Nat → Nat → Nat) : Prop := ∀ bc : Nat → Int32, (∀ x y, x < m → y < m → f_Mo_between br bc (br 20 x) (br 20 y) = nI (lg x y) ∧ p_Mo_between br bc (br 20 x) (br 20 y)) ∧ ∀ x, x < m → f_Mo_home br bc (br 20 x) = nI (lg x m) ∧ p_Mo_home br bc (br 20 x)
theorem GM_t {br br1 : Nat → Nat → Int32} {m : Nat} {lg : Nat → Nat → Nat} (h8 : br 8 = br1 8) (h9 : br 9 = br1 9) (h20 : br 20 = br1 20) (h : GM br1 m lg) : GM br m lg := by
  intro bc
  unfold f_Mo_between f_Mo_home
  rw [h8, h9, h20]
  exact h bc
theorem GM_i {br : Nat → Nat → Int32} {m : Nat} {t : Nat → Nat} (ht : ∀ j, j < m → br 20 j = nI (t j) ∧ t j < 30) (hX : ∀ j, j < m → -10000 ≤ (br 8 (t j)).toInt ∧ (br 8 (t j)).toInt ≤ 10000) (hY : ∀ j, j < m → -10000 ≤ (br 9 (t j)).toInt ∧ (br 9 (t j)).toInt ≤ 10000) : GM br m (lgf (br 8) (br 9) t m) := by
  intro bc
  refine ⟨fun x y hx hy => ?_, fun x hx => ?_⟩
  · obtain ⟨x1, x2⟩ := ht x hx
    obtain ⟨y1, y2⟩ := ht y hy
    have vx : vp_in (nI (t x)) 30 := vp_in_nI x2 (by omega)
    have vy : vp_in (nI (t y)) 30 := vp_in_nI y2 (by omega)
    rw [x1, y1]
    refine ⟨?_, ⟨vx, vy, vx, vy⟩⟩
    unfold f_Mo_between lgf cx
    rw [if_pos hx, if_pos hy, if_pos hx, if_pos hy, nI_clamp (show t x < 2 ^ 31 by omega), nI_clamp (show t y < 2 ^ 31 by omega), (szc (hX x hx) (hX y hy)).2.1, (szc (hY x hx) (hY y hy)).2.1, nI_add]
  · obtain ⟨x1, x2⟩ := ht x hx
    have vx : vp_in (nI (t x)) 30 := vp_in_nI x2 (by omega)
    rw [x1]
    refine ⟨?_, ⟨vx, vx⟩⟩
    unfold f_Mo_home lgf cx
    rw [if_pos hx, if_pos hx, if_neg (Nat.lt_irrefl m), if_neg (Nat.lt_irrefl m), nI_clamp (show t x < 2 ^ 31 by omega), sz0 (hX x hx), sz0 (hY x hx), nI_add]
def RJ (f : Nat → Nat) (g j v0 v : Nat) : Prop := v ≤ v0 ∧ (∀ x, x < j → g.testBit x = false → v ≤ f x) ∧ (v = v0 ∨ ∃ x, x < j ∧ g.testBit x = false ∧ f x = v)
theorem RJ_k {f : Nat → Nat} {g j v0 v : Nat} (h : RJ f g j v0 v) (k : g.testBit j = false → v ≤ f j) : RJ f g (j + 1) v0 v := by
  refine ⟨h.1, fun x x1 x2 => ?_, ?_⟩
  · rcases Nat.lt_or_eq_of_le (Nat.le_of_lt_succ x1) with h9 | h9
    · exact h.2.1 x h9 x2
    · rw [h9]; rw [h9] at x2; exact k x2
  · rcases h.2.2 with h9 | ⟨x, x1, x2, x3⟩
    · exact Or.inl h9
    · exact Or.inr ⟨x, by omega, x2, x3⟩
theorem RJ_s {f : Nat → Nat} {g j v0 v : Nat} (h : RJ f g j v0 v) (d : g.testBit j = false) (k : f j < v) : RJ f g (j + 1) v0 (f j) := by
  refine ⟨by have := h.1; omega, fun x x1 x2 => ?_, Or.inr ⟨j, by omega, d, rfl⟩⟩
  rcases Nat.lt_or_eq_of_le (Nat.le_of_lt_succ x1) with h9 | h9
  · have := h.2.1 x h9 x2; omega
  · rw [h9]; exact Nat.le_refl _
def HM (br1 : Nat → Nat → Int32) (m : Nat) (T : Nat → Nat → Nat) (k : Nat) (br : Nat → Nat → Int32) : Prop := (∀ r, r ≠ 21 → br r = br1 r) ∧ ∀ x y, k < x → x < 2 ^ m → y < m → br 21 (7 * x + y) = nI (T x y)
theorem mv {br : Nat → Nat → Int32} {m : Nat} {lg T : Nat → Nat → Nat} (hm : m < 8) (hT : TT lg m T) {g j : Nat} (hH : ∀ x y, g < x → x < 2 ^ m → y < m → br 21 (7 * x + y) = nI (T x y)) (hg : g < 2 ^ m) (hj : j < m) (d : g.testBit j = false) : br 21 (7 * (nI g ||| (1 : Int32) <<< (nI j &&& 31)) + nI j).toNatClampNeg = nI (T (g ||| 2 ^ j) j) ∧ vp_in (7 * (nI g ||| (1 : Int32) <<< (nI j &&& 31)) + nI j) 896 ∧ T (g ||| 2 ^ j) j ≤ 5120000 := by
  have h7 := p_7 hm
  have a1 := l_gt g (by omega) j (by omega) d
  have a2 := l_lt (g := g) (m := m) (j := j) hg hj
  rw [l_1 j (by omega), l_or g (by omega) j (by omega), i7, nI_clamp (by omega), hH _ j a1 a2 hj]
  exact ⟨rfl, vp_in_nI (by omega) (by omega), TT_b hm hT a2 (by omega)⟩
theorem rk1 {br : Nat → Nat → Int32} {bc : Nat → Int32} {m : Nat} {lg T : Nat → Nat → Nat} (hm : m < 8) (hl : ∀ p j, p ≤ m → j ≤ m → lg p j ≤ 40000) (hT : TT lg m T) (hG : GM br m lg) {u : Int32} {g k v0 : Nat} (hk : k < m) (hg : g < 2 ^ m) (hH : ∀ x y, g < x → x < 2 ^ m → y < m → br 21 (7 * x + y) = nI (T x y)) (h0 : v0 ≤ 1000000000) : ∀ n j v, j ≤ m → m - j < n → RJ (fun j => lg k j + T (g ||| 2 ^ j) j) g j v0 v → q_Mo_reckon_47 (nI m) u (nI g) (nI k) n (nI v) (nI j) br bc ∧ ∃ v', g_Mo_reckon_47 (nI m) u (nI g) (nI k) n (nI v) (nI j) br bc = (nI v', nI m, br, bc) ∧ RJ (fun j => lg k j + T (g ||| 2 ^ j) j) g m v0 v' := by
  intro n
  have h7 := p_7 hm
  induction n with
  | zero => intro j v h1 h2; omega
  | succ n ih =>
    intro j v h1 h2 hI
    have hv : v ≤ 1000000000 := by have := hI.1; omega
    rw [q_Mo_reckon_47, g_Mo_reckon_47]
    by_cases c : j = m
    · have c' : nI m ≤ nI j := nI_le (by omega) (by omega)
      rw [if_pos c']
      refine ⟨⟨fun _ => trivial, fun h => absurd c' h⟩, v, by rw [c], ?_⟩
      rw [c] at hI
      exact hI
    · have c' : ¬ nI m ≤ nI j := nI_ge (by omega) (by omega)
      rw [if_neg c', nI_1, nI_clamp (show k < 2 ^ 31 by omega), nI_clamp (show j < 2 ^ 31 by omega)]
      by_cases d : g.testBit j = false
      · have d' : ¬ (nI g >>> (nI j &&& 31)) &&& 1 = 1 := fun h => by
          rw [(l_bit g (by omega) j (by omega)).mp h] at d
          exact absurd d (by decide)
        obtain ⟨e1, e2, e3⟩ := mv hm hT hH hg (show j < m by omega) d
        obtain ⟨b1, b2⟩ := (hG bc).1 k j hk (by omega)
        have e4 := hl k j (by omega) (by omega)
        rw [if_neg d', b1, e1, nI_add]
        have A := fun h : v ≤ lg k j + T (g ||| 2 ^ j) j => ih (j + 1) v (by omega) (by omega) (RJ_k hI (fun _ => h))
        have B := fun h : lg k j + T (g ||| 2 ^ j) j < v => ih (j + 1) (lg k j + T (g ||| 2 ^ j) j) (by omega) (by omega) (RJ_s hI d h)
        have hle := nI_leI (show v < 2 ^ 31 by omega) (show lg k j + T (g ||| 2 ^ j) j < 2 ^ 31 by omega)
        refine ⟨⟨fun h => absurd h c', fun _ => ⟨fun h => absurd h d', fun _ => ⟨vp_in_nI (by omega) (by omega), vp_in_nI (by omega) (by omega), b2, e2, fun h => (A (hle.mp h)).1, fun h => (B (by have : ¬ v ≤ lg k j + T (g ||| 2 ^ j) j := (fun h9 => h (hle.mpr h9)); omega)).1⟩⟩⟩, ?_⟩
        by_cases q : v ≤ lg k j + T (g ||| 2 ^ j) j
        · rw [if_pos (hle.mpr q)]; exact (A q).2
        · rw [if_neg (fun h => q (hle.mp h))]; exact (B (by omega)).2
      · have d' := (l_bit g (by omega) j (by omega)).mpr (bno d)
        have hle : nI v ≤ (1000000000 : Int32) := show nI v ≤ nI 1000000000 from nI_le hv (by omega)
        rw [if_pos d', if_pos hle]
        have A := ih (j + 1) v (by omega) (by omega) (RJ_k hI (fun h => absurd h d))
        exact ⟨⟨fun h => absurd h c', fun _ => ⟨fun _ => ⟨fun _ => A.1, fun h => absurd hle h⟩, fun h => absurd d' h⟩⟩, A.2⟩
def RE (br1 : Nat → Nat → Int32) (m : Nat) (T : Nat → Nat → Nat) (g k : Nat) (br : Nat → Nat → Int32) : Prop := (∀ r, r ≠ 21 → br r = br1 r) ∧ ∀ x y, (g < x ∨ (x = g ∧ y < k)) → x < 2 ^ m → y < m → br 21 (7 * x + y) = nI (T x y)
theorem RE_s {br1 br : Nat → Nat → Int32} {m g k : Nat} {T : Nat → Nat → Nat} (hm : m < 8) (hk : k < m) (hI : RE br1 m T g k br) : RE br1 m T g (k + 1) (s2 br 21 (7 * g + k) (nI (T g k))) := by
  refine ⟨fun r hr => ?_, fun x y hxy hx hy => ?_⟩
  · rw [s2_ne hr]; exact hI.1 r hr
  · show upd (br 21) (7 * g + k) (nI (T g k)) (7 * x + y) = _
    by_cases e : x = g ∧ y = k
    · rw [e.1, e.2, us]
    · rw [un (by omega)]; exact hI.2 x y (by omega) hx hy
theorem rk2 {br1 : Nat → Nat → Int32} {bc : Nat → Int32} {m : Nat} {lg T : Nat → Nat → Nat} (hm : m < 8) (hl : ∀ p j, p ≤ m → j ≤ m → lg p j ≤ 40000) (hT : TT lg m T) (hG : GM br1 m lg) {g : Nat} (hg : g < 2 ^ m) : ∀ n k br, k ≤ m → m - k < n → RE br1 m T g k br → q_Mo_reckon_15 (nI m) (nI (2 ^ m - 1)) (nI g) n (nI k) br bc ∧ ∃ br', g_Mo_reckon_15 (nI m) (nI (2 ^ m - 1)) (nI g) n (nI k) br bc = (nI m, br', bc) ∧ RE br1 m T g m br' := by
  intro n
  have h7 := p_7 hm
  have hpos : 0 < 2 ^ m := Nat.pow_pos (by decide)
  induction n with
  | zero => intro k br h1 h2; omega
  | succ n ih =>
    intro k br h1 h2 hI
    by_cases c : k = m
    · rw [q_Mo_reckon_15, g_Mo_reckon_15]
      have c' : nI m ≤ nI k := nI_le (by omega) (by omega)
      rw [if_pos c']
      refine ⟨⟨fun _ => trivial, fun h => absurd c' h⟩, br, by rw [c], ?_⟩
      rw [c] at hI
      exact hI
    · have c' : ¬ nI m ≤ nI k := nI_ge (by omega) (by omega)
      have hk : k < m := by omega
      have hG' : GM br m lg := GM_t (hI.1 8 (by omega)) (hI.1 9 (by omega)) (hI.1 20 (by omega)) hG
      have hH : ∀ x y, g < x → x < 2 ^ m → y < m → br 21 (7 * x + y) = nI (T x y) := fun x y h1 h2 h3 => hI.2 x y (by omega) h2 h3
      obtain ⟨I1, br', I2, I3⟩ := ih (k + 1) _ (by omega) (by omega) (RE_s hm hk hI)
      have hvk : vp_in (nI k) 7 := vp_in_nI (by omega) (by omega)
      have hvi : vp_in (nI (7 * g + k)) 896 := vp_in_nI (by omega) (by omega)
      by_cases e : g = 2 ^ m - 1
      · have e' : nI g = nI (2 ^ m - 1) := by rw [e]
        obtain ⟨b1, b2⟩ := (hG' bc).2 k hk
        obtain ⟨J1, v, J2, J3⟩ := rk1 (bc := bc) (u := nI (2 ^ m - 1)) (v0 := lg k m) hm hl hT hG' hk hg hH (by have := hl k m (by omega) (Nat.le_refl m); omega) 200 0 (lg k m) (by omega) (by omega) ⟨Nat.le_refl _, fun x hx => by omega, Or.inl rfl⟩
        rw [nI_0] at J1 J2
        have ev : v = T g k := by
          rcases J3.2.2 with h9 | ⟨x, x1, x2, _⟩
          · rw [h9, e, hT.1 k (by omega)]
          · rw [e, l_fu m hm x x1] at x2
            exact absurd x2 (by decide)
        rw [ev] at J2
        rw [q_Mo_reckon_15, g_Mo_reckon_15, if_neg c', if_pos e', nI_1, nI_clamp (show k < 2 ^ 31 by omega), b1, J2, i7, nI_clamp (by omega)]
        dsimp only
        exact ⟨⟨fun h => absurd h c', fun _ => ⟨fun _ => ⟨hvk, b2, J1, hvi, I1⟩, fun h => absurd e' h⟩⟩, br', I2, I3⟩
      · have e' : ¬ nI g = nI (2 ^ m - 1) := fun h => e ((nI_eq (by omega) (by omega)).mp h)
        obtain ⟨J1, v, J2, J3⟩ := rk1 (bc := bc) (u := nI (2 ^ m - 1)) (v0 := 1000000000) hm hl hT hG' hk hg hH (Nat.le_refl _) 200 0 1000000000 (by omega) (by omega) ⟨Nat.le_refl _, fun x hx => by omega, Or.inl rfl⟩
        rw [nI_0, show nI 1000000000 = (1000000000 : Int32) from rfl] at J1 J2
        have ev : v = T g k := by
          obtain ⟨x, x1, x2⟩ := l_ex m hm g hg (by omega)
          have x3 := J3.2.1 x x1 x2
          have x4 : lg k x ≤ 40000 := hl k x (by omega) (by omega)
          have x5 := TT_b hm hT (l_lt (g := g) (m := m) (j := x) hg x1) (show x ≤ m by omega)
          have x3' : v ≤ lg k x + T (g ||| 2 ^ x) x := x3
          rcases J3.2.2 with h9 | ⟨y, y1, y2, y3⟩
          · omega
          · exact IM_u ⟨⟨y, ⟨y1, y2⟩, y3⟩, fun z hz => J3.2.1 z hz.1 hz.2⟩ (hT.2.1 g k (by omega) (by omega))
        rw [ev] at J2
        rw [q_Mo_reckon_15, g_Mo_reckon_15, if_neg c', if_neg e', nI_1, J2, i7, nI_clamp (show 7 * g + k < 2 ^ 31 by omega)]
        dsimp only
        exact ⟨⟨fun h => absurd h c', fun _ => ⟨fun h => absurd h e', fun _ => ⟨J1, hvi, I1⟩⟩⟩, br', I2, I3⟩
theorem rk3 {br1 : Nat → Nat → Int32} {bc : Nat → Int32} {m : Nat} {lg T : Nat → Nat → Nat} (hm : m < 8) (hl : ∀ p j, p ≤ m → j ≤ m → lg p j ≤ 40000) (hT : TT lg m T) (hG : GM br1 m lg) : ∀ n k br, k < n → k < 2 ^ m → HM br1 m T k br → q_Mo_reckon_8 (nI m) (nI (2 ^ m - 1)) n (nI k) br bc ∧ ∃ br', g_Mo_reckon_8 (nI m) (nI (2 ^ m - 1)) n (nI k) br bc = (nI 0, br', bc) ∧ HM br1 m T 0 br' := by
  intro n
  have h7 := p_7 hm
  induction n with
  | zero => intro k br h1; omega
  | succ n ih =>
    intro k br h1 h2 hI
    cases k with
    | zero =>
      have c' : nI 0 ≤ 0 := by decide
      rw [q_Mo_reckon_8, g_Mo_reckon_8, if_pos c']
      exact ⟨⟨fun _ => trivial, fun h => absurd c' h⟩, br, rfl, hI⟩
    | succ k =>
      have c' : ¬ nI (k + 1) ≤ 0 := nI_nle (by omega) (by omega)
      obtain ⟨J1, br2, J2, J3⟩ := rk2 (bc := bc) hm hl hT hG h2 200 0 br (by omega) (by omega) ⟨hI.1, fun x y hxy hx hy => hI.2 x y (by omega) hx hy⟩
      rw [nI_0] at J1 J2
      rw [q_Mo_reckon_8, g_Mo_reckon_8, J2, if_neg c', show nI (k + 1) + (-1) = nI k from dn_s k]
      dsimp only
      obtain ⟨I1, br', I2, I3⟩ := ih k br2 (by omega) (by omega) ⟨J3.1, fun x y h1 h2 h3 => J3.2 x y (by omega) h2 h3⟩
      exact ⟨⟨fun h => absurd h c', fun _ => ⟨J1, I1⟩⟩, br', I2, I3⟩
theorem mt1 {br : Nat → Nat → Int32} {bc : Nat → Int32} {m : Nat} {lg T : Nat → Nat → Nat} (hm : m < 8) (hl : ∀ p j, p ≤ m → j ≤ m → lg p j ≤ 40000) (hc : ∀ x y, lg x y = lg y x) (hT : TT lg m T) (hG : GM br m lg) (hH : ∀ x y, 0 < x → x < 2 ^ m → y < m → br 21 (7 * x + y) = nI (T x y)) {a : Int64} {u4 u5 : Int32} {v0 : Nat} (h0 : v0 ≤ 1000000000) : ∀ n j v, j ≤ m → m - j < n → RJ (fun j => lg m j + T (0 ||| 2 ^ j) j) 0 j v0 v → q_Mo_walk_176 a (nI m) u4 u5 n (nI v) (nI j) br bc ∧ ∃ v', g_Mo_walk_176 a (nI m) u4 u5 n (nI v) (nI j) br bc = (nI v', nI m, br, bc) ∧ RJ (fun j => lg m j + T (0 ||| 2 ^ j) j) 0 m v0 v' := by
  intro n
  have h7 := p_7 hm
  have hpos : 0 < 2 ^ m := Nat.pow_pos (by decide)
  induction n with
  | zero => intro j v h1 h2; omega
  | succ n ih =>
    intro j v h1 h2 hI
    have hv : v ≤ 1000000000 := by have := hI.1; omega
    rw [q_Mo_walk_176, g_Mo_walk_176]
    by_cases c : j = m
    · have c' : nI m ≤ nI j := nI_le (by omega) (by omega)
      rw [if_pos c']
      refine ⟨⟨fun _ => trivial, fun h => absurd c' h⟩, v, by rw [c], ?_⟩
      rw [c] at hI
      exact hI
    · have c' : ¬ nI m ≤ nI j := nI_ge (by omega) (by omega)
      have hj : j < m := by omega
      have hp2 : 2 ^ j < 2 ^ m := Nat.pow_lt_pow_right (by decide) hj
      have hp0 : 0 < 2 ^ j := Nat.pow_pos (by decide)
      obtain ⟨b1, b2⟩ := (hG bc).2 j hj
      have e4 := hl m j (Nat.le_refl m) (by omega)
      have e3 := TT_b hm hT hp2 (show j ≤ m by omega)
      have ez : T (0 ||| 2 ^ j) j = T (2 ^ j) j := by rw [Nat.zero_or]
      rw [if_neg c', nI_1, nI_clamp (show j < 2 ^ 31 by omega), b1, l_1 j (by omega), i7, nI_clamp (by omega), hH _ j hp0 hp2 hj, nI_add, hc j m, ← ez]
      have A := fun h : v ≤ lg m j + T (0 ||| 2 ^ j) j => ih (j + 1) v (by omega) (by omega) (RJ_k hI (fun _ => h))
      have B := fun h : lg m j + T (0 ||| 2 ^ j) j < v => ih (j + 1) (lg m j + T (0 ||| 2 ^ j) j) (by omega) (by omega) (RJ_s hI (Nat.zero_testBit j) h)
      have hle := nI_leI (show v < 2 ^ 31 by omega) (show lg m j + T (0 ||| 2 ^ j) j < 2 ^ 31 by omega)
      refine ⟨⟨fun h => absurd h c', fun _ => ⟨vp_in_nI (by omega) (by omega), b2, vp_in_nI (by omega) (by omega), fun h => (A (hle.mp h)).1, fun h => (B (by have : ¬ v ≤ lg m j + T (0 ||| 2 ^ j) j := (fun h9 => h (hle.mpr h9)); omega)).1⟩⟩, ?_⟩
      by_cases q : v ≤ lg m j + T (0 ||| 2 ^ j) j
      · rw [if_pos (hle.mpr q)]; exact (A q).2
      · rw [if_neg (fun h => q (hle.mp h))]; exact (B (by omega)).2
def SI (lg T : Nat → Nat → Nat) (m g p k : Nat) (v11 v12 : Int32) : Prop := (v11 = -1 ∧ ∀ x, k ≤ x → x < m → g.testBit x = false → ¬ lg p x + T (g ||| 2 ^ x) x = T g p) ∨ ∃ b, k ≤ b ∧ b < m ∧ g.testBit b = false ∧ lg p b + T (g ||| 2 ^ b) b = T g p ∧ v11 = nI b ∧ v12 = nI (lg p b) ∧ ∀ x, k ≤ x → x < b → g.testBit x = false → ¬ lg p x + T (g ||| 2 ^ x) x = T g p
theorem st1 {br : Nat → Nat → Int32} {bc : Nat → Int32} {m : Nat} {lg T : Nat → Nat → Nat} (hm : m < 8) (hl : ∀ p j, p ≤ m → j ≤ m → lg p j ≤ 40000) (hc : ∀ x y, lg x y = lg y x) (hT : TT lg m T) (hG : GM br m lg) (hH : ∀ x y, 0 < x → x < 2 ^ m → y < m → br 21 (7 * x + y) = nI (T x y)) {a : Int64} {u4 u5 u6 u8 u10 : Int32} {g p : Nat} (hg : g < 2 ^ m) (hp : p ≤ m) (hu : (u8 = -1 ∧ p = m) ∨ (u8 = nI p ∧ p < m)) : ∀ n k v11 v12, k ≤ m → k < n → SI lg T m g p k v11 v12 → q_Mo_walk_268 a (nI m) u4 u5 u6 (nI g) u8 (nI (T g p)) u10 n v11 v12 (dn k) br bc ∧ ∃ v11' v12', g_Mo_walk_268 a (nI m) u4 u5 u6 (nI g) u8 (nI (T g p)) u10 n v11 v12 (dn k) br bc = (v11', v12', dn 0, br, bc) ∧ SI lg T m g p 0 v11' v12' := by
  intro n
  have h7 := p_7 hm
  have hTg := TT_b hm hT hg hp
  induction n with
  | zero => intro k v11 v12 h1 h2; omega
  | succ n ih =>
    intro k v11 v12 h1 h2 hI
    cases k with
    | zero =>
      rw [q_Mo_walk_268, g_Mo_walk_268, if_pos dn_0]
      exact ⟨⟨fun _ => trivial, fun h => absurd dn_0 h⟩, v11, v12, rfl, hI⟩
    | succ k =>
      have c' : ¬ nI k < 0 := nI_pos (by omega)
      have hk : k < m := by omega
      have e4 := hl p k hp (by omega)
      rw [dn_s, q_Mo_walk_268, g_Mo_walk_268, if_neg c', show nI k + (-1) = dn k from rfl, nI_clamp (show k < 2 ^ 31 by omega)]
      have hvk : vp_in (nI k) 7 := vp_in_nI (by omega) (by omega)
      have keep : (g.testBit k = false → ¬ lg p k + T (g ||| 2 ^ k) k = T g p) → SI lg T m g p k v11 v12 := by
        intro hk'
        rcases hI with ⟨i1, i2⟩ | ⟨b, b1, b2, b3, b4, b5, b6, b7⟩
        · refine Or.inl ⟨i1, fun x x1 x2 x3 => ?_⟩
          rcases Nat.lt_or_eq_of_le x1 with h9 | h9
          · exact i2 x h9 x2 x3
          · rw [← h9]; rw [← h9] at x3; exact hk' x3
        · refine Or.inr ⟨b, by omega, b2, b3, b4, b5, b6, fun x x1 x2 x3 => ?_⟩
          rcases Nat.lt_or_eq_of_le x1 with h9 | h9
          · exact b7 x h9 x2 x3
          · rw [← h9]; rw [← h9] at x3; exact hk' x3
      have swap : g.testBit k = false → lg p k + T (g ||| 2 ^ k) k = T g p → SI lg T m g p k (nI k) (nI (lg p k)) := fun d e => Or.inr ⟨k, Nat.le_refl k, hk, d, e, rfl, rfl, fun x x1 x2 => by omega⟩
      have A := fun h => ih k v11 v12 (by omega) (by omega) (keep h)
      have B := fun d e => ih k (nI k) (nI (lg p k)) (by omega) (by omega) (swap d e)
      rcases hu with ⟨u1, u2⟩ | ⟨u1, u2⟩
      · have hn : ¬ 0 ≤ u8 := by rw [u1]; decide
        obtain ⟨b1, b2⟩ := (hG bc).2 k hk
        have b1' : f_Mo_home br bc (br 20 k) = nI (lg p k) := by rw [b1, hc k m, u2]
        rw [if_neg hn, b1']
        by_cases d : g.testBit k = false
        · have d' := (l_bi0 g (by omega) k (by omega)).mpr d
          obtain ⟨e1, e2, e3⟩ := mv hm hT (fun x y h1 h2 h3 => hH x y (by omega) h2 h3) hg hk d
          have he : (nI (lg p k + T (g ||| 2 ^ k) k) = nI (T g p)) ↔ lg p k + T (g ||| 2 ^ k) k = T g p := nI_eq (by omega) (by omega)
          rw [if_pos d', e1, nI_add]
          refine ⟨⟨fun h => absurd h c', fun _ => ⟨fun h => absurd h hn, fun _ => ⟨hvk, b2, fun _ => ⟨e2, fun h => (B d (he.mp h)).1, fun h => (A (fun _ h9 => h (he.mpr h9))).1⟩, fun h => absurd d' h⟩⟩⟩, ?_⟩
          by_cases q : lg p k + T (g ||| 2 ^ k) k = T g p
          · rw [if_pos (he.mpr q)]; exact (B d q).2
          · rw [if_neg (fun h => q (he.mp h))]; exact (A (fun _ => q)).2
        · have d' : ¬ (nI g >>> (nI k &&& 31)) &&& 1 = 0 := fun h => d ((l_bi0 g (by omega) k (by omega)).mp h)
          rw [if_neg d']
          have A' := A (fun h => absurd h d)
          exact ⟨⟨fun h => absurd h c', fun _ => ⟨fun h => absurd h hn, fun _ => ⟨hvk, b2, fun h => absurd h d', fun _ => A'.1⟩⟩⟩, A'.2⟩
      · have hn : 0 ≤ u8 := by rw [u1]; exact nI_pos' (by omega)
        obtain ⟨b1, b2⟩ := (hG bc).1 p k u2 hk
        have hcp : u8.toNatClampNeg = p := by rw [u1]; exact nI_clamp (by omega)
        have hvp : vp_in u8 7 := by rw [u1]; exact vp_in_nI (by omega) (by omega)
        rw [if_pos hn, hcp, b1]
        by_cases d : g.testBit k = false
        · have d' := (l_bi0 g (by omega) k (by omega)).mpr d
          obtain ⟨e1, e2, e3⟩ := mv hm hT (fun x y h1 h2 h3 => hH x y (by omega) h2 h3) hg hk d
          have he : (nI (lg p k + T (g ||| 2 ^ k) k) = nI (T g p)) ↔ lg p k + T (g ||| 2 ^ k) k = T g p := nI_eq (by omega) (by omega)
          rw [if_pos d', e1, nI_add]
          refine ⟨⟨fun h => absurd h c', fun _ => ⟨fun _ => ⟨hvp, hvk, b2, fun _ => ⟨e2, fun h => (B d (he.mp h)).1, fun h => (A (fun _ h9 => h (he.mpr h9))).1⟩, fun h => absurd d' h⟩, fun h => absurd hn h⟩⟩, ?_⟩
          by_cases q : lg p k + T (g ||| 2 ^ k) k = T g p
          · rw [if_pos (he.mpr q)]; exact (B d q).2
          · rw [if_neg (fun h => q (he.mp h))]; exact (A (fun _ => q)).2
        · have d' : ¬ (nI g >>> (nI k &&& 31)) &&& 1 = 0 := fun h => d ((l_bi0 g (by omega) k (by omega)).mp h)
          rw [if_neg d']
          have A' := A (fun h => absurd h d)
          exact ⟨⟨fun h => absurd h c', fun _ => ⟨fun _ => ⟨hvp, hvk, b2, fun h => absurd h d', fun _ => A'.1⟩, fun h => absurd hn h⟩⟩, A'.2⟩



def IM (f : Nat → Nat) (ok : Nat → Prop) (v : Nat) : Prop := (∃ j, ok j ∧ f j = v) ∧ ∀ j, ok j → v ≤ f j
theorem IM_u {f : Nat → Nat} {ok : Nat → Prop} {v w : Nat} (h : IM f ok v) (k : IM f ok w) : v = w := by
  obtain ⟨⟨a, a1, a2⟩, a3⟩ := h
  obtain ⟨⟨b, b1, b2⟩, b3⟩ := k
  have := a3 b b1
  have := b3 a a1
  omega
theorem IM_c {f f' : Nat → Nat} {ok : Nat → Prop} {v : Nat} (e : ∀ j, ok j → f j = f' j) (h : IM f ok v) : IM f' ok v := by
  obtain ⟨⟨a, a1, a2⟩, a3⟩ := h
  refine ⟨⟨a, a1, ?_⟩, fun j hj => ?_⟩
  · rw [← e a a1]; exact a2
  · rw [← e j hj]; exact a3 j hj
theorem IM_ex (f : Nat → Nat) (ok : Nat → Prop) : ∀ m, (∃ j, j < m ∧ ok j) → ∃ v, IM f (fun j => j < m ∧ ok j) v := by
  intro m
  induction m with
  | zero => intro ⟨j, j1, _⟩; omega
  | succ m ih =>
    intro ⟨j, j1, j2⟩
    by_cases h : ∃ j, j < m ∧ ok j
    · obtain ⟨v, ⟨a, a1, a2⟩, a3⟩ := ih h
      by_cases k : ok m ∧ f m < v
      · refine ⟨f m, ⟨m, ⟨by omega, k.1⟩, rfl⟩, fun x hx => ?_⟩
        rcases Nat.lt_or_eq_of_le (Nat.le_of_lt_succ hx.1) with h9 | h9
        · have := a3 x ⟨h9, hx.2⟩; omega
        · rw [h9]; omega
      · refine ⟨v, ⟨a, ⟨by omega, a1.2⟩, a2⟩, fun x hx => ?_⟩
        rcases Nat.lt_or_eq_of_le (Nat.le_of_lt_succ hx.1) with h9 | h9
        · exact a3 x ⟨h9, hx.2⟩
        · rw [h9] at hx
          rw [h9]
          have : ¬ f m < v := fun h8 => k ⟨hx.2, h8⟩
          omega
    · have hj : j = m := by
        rcases Nat.lt_or_eq_of_le (Nat.le_of_lt_succ j1) with h9 | h9
        · exact absurd ⟨j, h9, j2⟩ h
        · exact h9
      refine ⟨f m, ⟨m, ⟨by omega, by rw [← hj]; exact j2⟩, rfl⟩, fun x hx => ?_⟩
      rcases Nat.lt_or_eq_of_le (Nat.le_of_lt_succ hx.1) with h9 | h9
      · exact absurd ⟨x, h9, hx.2⟩ h
      · rw [h9]; omega
def TT (lg : Nat → Nat → Nat) (m : Nat) (T : Nat → Nat → Nat) : Prop := (∀ p, p ≤ m → T (2 ^ m - 1) p = lg p m) ∧ (∀ g p, g + 1 < 2 ^ m → p ≤ m → IM (fun j => lg p j + T (g ||| 2 ^ j) j) (fun j => j < m ∧ g.testBit j = false) (T g p)) ∧ (∀ g p, g < 2 ^ m → p ≤ m → T g p ≤ 40000 * (2 ^ m - g))
theorem exT (lg : Nat → Nat → Nat) {m : Nat} (hm : m < 8) (hl : ∀ p j, p ≤ m → j ≤ m → lg p j ≤ 40000) : ∃ T, TT lg m T := by
  have h7 := p_7 hm
  have hpos : 0 < 2 ^ m := Nat.pow_pos (by decide)
  have key : ∀ d, d ≤ 2 ^ m - 1 → ∃ T : Nat → Nat → Nat, (∀ p, p ≤ m → T (2 ^ m - 1) p = lg p m) ∧ (∀ g p, 2 ^ m - 1 - d ≤ g → g + 1 < 2 ^ m → p ≤ m → IM (fun j => lg p j + T (g ||| 2 ^ j) j) (fun j => j < m ∧ g.testBit j = false) (T g p)) ∧ (∀ g p, 2 ^ m - 1 - d ≤ g → g < 2 ^ m → p ≤ m → T g p ≤ 40000 * (2 ^ m - g)) := by
    intro d
    induction d with
    | zero =>
      intro _
      refine ⟨fun _ p => lg p m, fun _ _ => rfl, fun g p h1 h2 => by omega, fun g p h1 h2 h3 => ?_⟩
      have := hl p m h3 (Nat.le_refl m)
      show lg p m ≤ 40000 * (2 ^ m - g)
      omega
    | succ d ih =>
      intro hd
      obtain ⟨T, T1, T2, T3⟩ := ih (by omega)
      have hg0 : 2 ^ m - 1 - (d + 1) + 1 < 2 ^ m := by omega
      generalize hG : 2 ^ m - 1 - (d + 1) = g0 at hg0
      have hx : ∀ p, ∃ v, IM (fun j => lg p j + T (g0 ||| 2 ^ j) j) (fun j => j < m ∧ g0.testBit j = false) v := fun p => IM_ex _ _ m (l_ex m hm g0 (by omega) hg0)
      obtain ⟨V, hV⟩ := Classical.axiomOfChoice hx
      have hne : ∀ g j, g0 ≤ g → g < 2 ^ m → j < m → g.testBit j = false → ¬ (g ||| 2 ^ j) = g0 := by
        intro g j h1 h2 h3 h4 h5
        have := l_gt g (by omega) j (by omega) h4
        omega
      refine ⟨fun g p => if g = g0 then V p else T g p, fun p hp => ?_, fun g p h1 h2 h3 => ?_, fun g p h1 h2 h3 => ?_⟩
      · show (if 2 ^ m - 1 = g0 then V p else T (2 ^ m - 1) p) = _
        rw [if_neg (by omega)]; exact T1 p hp
      · show IM _ _ (if g = g0 then V p else T g p)
        by_cases e : g = g0
        · rw [if_pos e, e]
          refine IM_c (fun j hj => ?_) (hV p)
          show _ = lg p j + (if g0 ||| 2 ^ j = g0 then V j else T (g0 ||| 2 ^ j) j)
          rw [if_neg (hne g0 j (Nat.le_refl _) (by omega) hj.1 hj.2)]
        · rw [if_neg e]
          refine IM_c (fun j hj => ?_) (T2 g p (by omega) h2 h3)
          show _ = lg p j + (if g ||| 2 ^ j = g0 then V j else T (g ||| 2 ^ j) j)
          rw [if_neg (hne g j (by omega) (by omega) hj.1 hj.2)]
      · show (if g = g0 then V p else T g p) ≤ _
        by_cases e : g = g0
        · rw [if_pos e, e]
          obtain ⟨⟨j, j1, j2⟩, _⟩ := hV p
          have a1 := l_gt g0 (by omega) j (by omega) j1.2
          have a2 := l_lt (g := g0) (m := m) (j := j) (by omega) j1.1
          have a3 := T3 (g0 ||| 2 ^ j) j (by omega) a2 (by omega)
          have a4 := hl p j h3 (by omega)
          have j2' : lg p j + T (g0 ||| 2 ^ j) j = V p := j2
          omega
        · rw [if_neg e]
          exact T3 g p (by omega) h2 h3
  obtain ⟨T, T1, T2, T3⟩ := key (2 ^ m - 1) (Nat.le_refl _)
  exact ⟨T, T1, fun g p h1 h2 => T2 g p (by omega) h1 h2, fun g p h1 h2 => T3 g p (by omega) h1 h2⟩
theorem TT_b {lg T : Nat → Nat → Nat} {m : Nat} (hm : m < 8) (hT : TT lg m T) {g p : Nat} (hg : g < 2 ^ m) (hp : p ≤ m) : T g p ≤ 5120000 := by
  have h7 := p_7 hm
  have := hT.2.2 g p hg hp
  omega
def DP (ar : Nat → Nat → Int32) (m : Nat) (lg T : Nat → Nat → Nat) (lo : Nat) : Prop := (∀ x y, x ≤ m → y ≤ m → ar 27 (x * 8 + y) = nI (lg x y)) ∧ (∀ x y, lo ≤ x → x < 2 ^ m → y ≤ m → ar 28 (x * 8 + y) = nI (T x y))
theorem i8 (a b : Nat) : nI a * 8 + nI b = nI (a * 8 + b) := by
  rw [show (8 : Int32) = nI 8 from rfl, nI_mul, nI_add]
theorem i7 (a b : Nat) : 7 * nI a + nI b = nI (7 * a + b) := by
  rw [show (7 : Int32) = nI 7 from rfl, nI_mul, nI_add]
theorem mb {ar : Nat → Nat → Int32} {sc : Nat → Int32} {m lo : Nat} {lg T : Nat → Nat → Nat} (hm : m < 8) (hl : ∀ p j, p ≤ m → j ≤ m → lg p j ≤ 40000) (hT : TT lg m T) (hD : DP ar m lg T lo) {g p j : Nat} (hg : g < 2 ^ m) (hlo : lo ≤ g + 1) (hp : p ≤ m) (hj : j < m) (hf : g.testBit j = false) : f_Route_metresBy ar sc (nI g) (nI p) (nI j) = nI (lg p j + T (g ||| 2 ^ j) j) ∧ p_Route_metresBy ar sc (nI g) (nI p) (nI j) ∧ lg p j + T (g ||| 2 ^ j) j < 1000000000 := by
  have h7 := p_7 hm
  have a1 := l_gt g (by omega) j (by omega) hf
  have a2 := l_lt (g := g) (m := m) (j := j) hg hj
  have a3 := TT_b hm hT a2 (show j ≤ m by omega)
  have a4 := hl p j hp (by omega)
  unfold f_Route_metresBy p_Route_metresBy
  rw [l_1 j (by omega), l_or g (by omega) j (by omega), i8, i8, nI_clamp (by omega), nI_clamp (by omega), hD.1 p j hp (by omega), hD.2 _ j (by omega) a2 (by omega), nI_add]
  exact ⟨rfl, ⟨vp_in_nI (by omega) (by omega), vp_in_nI (by omega) (by omega)⟩, by omega⟩
def FI (f : Nat → Nat) (g m i : Nat) (v3 v4 : Int32) : Prop := (v3 = nI m ∧ v4 = 2147483647 ∧ ∀ j, j < i → g.testBit j = true) ∨ (∃ b, b < i ∧ g.testBit b = false ∧ v3 = nI b ∧ v4 = nI (f b) ∧ (∀ j, j < i → g.testBit j = false → f b ≤ f j) ∧ ∀ j, j < b → g.testBit j = false → f b < f j)
theorem bno {b : Bool} (h : ¬ b = false) : b = true := by cases b <;> first | rfl | exact absurd rfl h
theorem fll {ar : Nat → Nat → Int32} {sc : Nat → Int32} {m lo : Nat} {lg T : Nat → Nat → Nat} (hm : m < 8) (hl : ∀ p j, p ≤ m → j ≤ m → lg p j ≤ 40000) (hT : TT lg m T) (hD : DP ar m lg T lo) (hsc : sc 4 = nI m) {g p : Nat} (hg : g < 2 ^ m) (hlo : lo ≤ g + 1) (hp : p ≤ m) : ∀ n i v3 v4, i ≤ m → m - i < n → FI (fun j => lg p j + T (g ||| 2 ^ j) j) g m i v3 v4 → q_Route_firstLeastNext_12 ar sc (nI g) (nI p) n v3 v4 (nI i) ∧ ∃ v3' v4', g_Route_firstLeastNext_12 ar sc (nI g) (nI p) n v3 v4 (nI i) = (v3', v4', nI m) ∧ FI (fun j => lg p j + T (g ||| 2 ^ j) j) g m m v3' v4' := by
  intro n
  induction n with
  | zero => intro i v3 v4 h1 h2; omega
  | succ n ih =>
    intro i v3 v4 h1 h2 hI
    have h7 := p_7 hm
    rw [q_Route_firstLeastNext_12, g_Route_firstLeastNext_12, hsc]
    by_cases c : i = m
    · have c' : nI m ≤ nI i := nI_le (by omega) (by omega)
      rw [if_pos c']
      refine ⟨⟨fun _ => trivial, fun h => absurd c' h⟩, v3, v4, by rw [c], ?_⟩
      rw [c] at hI
      exact hI
    · have c' : ¬ nI m ≤ nI i := nI_ge (by omega) (by omega)
      rw [if_neg c', nI_1, l_1 i (by omega)]
      by_cases d : g.testBit i = false
      · have d' := (l_and g (by omega) i (by omega)).mpr d
        obtain ⟨e1, e2, e3⟩ := mb (sc := sc) hm hl hT hD hg hlo hp (show i < m by omega) d
        rw [if_pos d', e1]
        have keep : v4 ≤ nI (lg p i + T (g ||| 2 ^ i) i) → FI (fun j => lg p j + T (g ||| 2 ^ j) j) g m (i + 1) v3 v4 := by
          intro hk
          rcases hI with ⟨k1, k2, k3⟩ | ⟨b, b1, b2, b3, b4, b5, b6⟩
          · rw [k2, Int32.le_iff_toInt_le, nI_toInt (by omega), show (2147483647 : Int32).toInt = 2147483647 from rfl] at hk
            omega
          · have b0 := b5 b b1 b2
            have hb := (mb (sc := sc) hm hl hT hD hg hlo hp (show b < m by omega) b2).2.2
            rw [b4] at hk
            have hk' := (nI_leI (show lg p b + T (g ||| 2 ^ b) b < 2 ^ 31 by omega) (by omega)).mp hk
            refine Or.inr ⟨b, by omega, b2, b3, b4, fun j j1 j2 => ?_, b6⟩
            rcases Nat.lt_or_eq_of_le (Nat.le_of_lt_succ j1) with h9 | h9
            · exact b5 j h9 j2
            · rw [h9]; exact hk'
        have swap : ¬ v4 ≤ nI (lg p i + T (g ||| 2 ^ i) i) → FI (fun j => lg p j + T (g ||| 2 ^ j) j) g m (i + 1) (nI i) (nI (lg p i + T (g ||| 2 ^ i) i)) := by
          intro hk
          refine Or.inr ⟨i, by omega, d, rfl, rfl, ?_, ?_⟩
          · intro j j1 j2
            rcases Nat.lt_or_eq_of_le (Nat.le_of_lt_succ j1) with h9 | h9
            · rcases hI with ⟨k1, k2, k3⟩ | ⟨b, b1, b2, b3, b4, b5, b6⟩
              · rw [k3 j h9] at j2; exact absurd j2 (by decide)
              · have hb := (mb (sc := sc) hm hl hT hD hg hlo hp (show b < m by omega) b2).2.2
                rw [b4] at hk
                have hk' : ¬ lg p b + T (g ||| 2 ^ b) b ≤ lg p i + T (g ||| 2 ^ i) i := fun h8 => hk ((nI_leI (show lg p b + T (g ||| 2 ^ b) b < 2 ^ 31 by omega) (by omega)).mpr h8)
                have b7 : lg p b + T (g ||| 2 ^ b) b ≤ lg p j + T (g ||| 2 ^ j) j := b5 j h9 j2
                show lg p i + T (g ||| 2 ^ i) i ≤ lg p j + T (g ||| 2 ^ j) j
                omega
            · rw [h9]; exact Nat.le_refl _
          · intro j j1 j2
            rcases hI with ⟨k1, k2, k3⟩ | ⟨b, b1, b2, b3, b4, b5, b6⟩
            · rw [k3 j j1] at j2; exact absurd j2 (by decide)
            · have hb := (mb (sc := sc) hm hl hT hD hg hlo hp (show b < m by omega) b2).2.2
              rw [b4] at hk
              have hk' : ¬ lg p b + T (g ||| 2 ^ b) b ≤ lg p i + T (g ||| 2 ^ i) i := fun h8 => hk ((nI_leI (show lg p b + T (g ||| 2 ^ b) b < 2 ^ 31 by omega) (by omega)).mpr h8)
              have b7 : lg p b + T (g ||| 2 ^ b) b ≤ lg p j + T (g ||| 2 ^ j) j := b5 j j1 j2
              show lg p i + T (g ||| 2 ^ i) i < lg p j + T (g ||| 2 ^ j) j
              omega
        have A := fun h => ih (i + 1) v3 v4 (by omega) (by omega) (keep h)
        have B := fun h => ih (i + 1) (nI i) (nI (lg p i + T (g ||| 2 ^ i) i)) (by omega) (by omega) (swap h)
        refine ⟨⟨fun h => absurd h c', fun _ => ⟨fun _ => ⟨e2, fun h => (A h).1, fun h => (B h).1⟩, fun h => absurd d' h⟩⟩, ?_⟩
        by_cases k : v4 ≤ nI (lg p i + T (g ||| 2 ^ i) i)
        · rw [if_pos k]; exact (A k).2
        · rw [if_neg k]; exact (B k).2
      · have d' : ¬ nI g &&& nI (2 ^ i) = 0 := fun h => d ((l_and g (by omega) i (by omega)).mp h)
        have dt := bno d
        rw [if_neg d']
        have I := ih (i + 1) v3 v4 (by omega) (by omega) (by
          rcases hI with ⟨k1, k2, k3⟩ | ⟨b, b1, b2, b3, b4, b5, b6⟩
          · refine Or.inl ⟨k1, k2, fun j j1 => ?_⟩
            rcases Nat.lt_or_eq_of_le (Nat.le_of_lt_succ j1) with h9 | h9
            · exact k3 j h9
            · rw [h9]; exact dt
          · refine Or.inr ⟨b, by omega, b2, b3, b4, fun j j1 j2 => ?_, b6⟩
            rcases Nat.lt_or_eq_of_le (Nat.le_of_lt_succ j1) with h9 | h9
            · exact b5 j h9 j2
            · rw [h9] at j2; exact absurd j2 d)
        exact ⟨⟨fun h => absurd h c', fun _ => ⟨fun h => absurd h d', fun _ => I.1⟩⟩, I.2⟩
def PK (lg T : Nat → Nat → Nat) (m g p b : Nat) : Prop := b < m ∧ g.testBit b = false ∧ lg p b + T (g ||| 2 ^ b) b = T g p ∧ ∀ j, j < b → g.testBit j = false → T g p < lg p j + T (g ||| 2 ^ j) j
theorem PK_u {lg T : Nat → Nat → Nat} {m g p b c : Nat} (h : PK lg T m g p b) (k : PK lg T m g p c) : b = c := by
  rcases Nat.lt_or_ge b c with h9 | h9
  · have := k.2.2.2 b h9 h.2.1
    have := h.2.2.1
    omega
  · rcases Nat.lt_or_eq_of_le h9 with h8 | h8
    · have := h.2.2.2 c h8 k.2.1
      have := k.2.2.1
      omega
    · exact h8.symm
theorem fln {ar : Nat → Nat → Int32} {sc : Nat → Int32} {m lo : Nat} {lg T : Nat → Nat → Nat} (hm : m < 8) (hl : ∀ p j, p ≤ m → j ≤ m → lg p j ≤ 40000) (hT : TT lg m T) (hD : DP ar m lg T lo) (hsc : sc 4 = nI m) {g p : Nat} (hg : g + 1 < 2 ^ m) (hlo : lo ≤ g + 1) (hp : p ≤ m) : p_Route_firstLeastNext ar sc (nI g) (nI p) ∧ ∃ b, f_Route_firstLeastNext ar sc (nI g) (nI p) = nI b ∧ PK lg T m g p b := by
  obtain ⟨h1, v3, v4, h2, h3⟩ := fll (sc := sc) hm hl hT hD hsc (show g < 2 ^ m by omega) hlo hp 200 0 (nI m) 2147483647 (by omega) (by omega) (Or.inl ⟨rfl, rfl, fun j hj => by omega⟩)
  rw [nI_0] at h1 h2
  refine ⟨?_, ?_⟩
  · unfold p_Route_firstLeastNext
    rw [hsc]; exact h1
  · obtain ⟨j, j1, j2⟩ := l_ex m hm g (by omega) hg
    rcases h3 with ⟨k1, k2, k3⟩ | ⟨b, b1, b2, b3, b4, b5, b6⟩
    · rw [k3 j j1] at j2; exact absurd j2 (by decide)
    · have e : T g p = lg p b + T (g ||| 2 ^ b) b := IM_u (hT.2.1 g p hg hp) ⟨⟨b, ⟨b1, b2⟩, rfl⟩, fun x hx => b5 x hx.1 hx.2⟩
      refine ⟨b, ?_, b1, b2, e.symm, ?_⟩
      · unfold f_Route_firstLeastNext
        rw [hsc, h2]
        exact b3
      · intro x x1 x2
        rw [e]
        exact b6 x x1 x2


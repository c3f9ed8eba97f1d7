
theorem sl64 : ∀ k, k < 64 → (((nI k).toInt64 &&& 63).toBitVec.smod 64).toNat = k := by decide +kernel
theorem su64 : ∀ k, k < 64 → (((nI k).toInt64.toUInt64 &&& Int64.toUInt64 63).toBitVec % 64).toNat = k := by decide +kernel
theorem b_31 : ∀ i, i < 32 → bt 31 i = decide (i < 5) := by decide +kernel
theorem b_one : ∀ k, k < 32 → ∀ x, x < 32 → bt ((1 : Int32) <<< (nI k &&& 31)) x = decide (x = k) := by decide +kernel
theorem l_1 : ∀ j, j < 8 → (1 : Int32) <<< (nI j &&& 31) = nI (2 ^ j) := by decide +kernel
theorem l_a : ∀ m, m < 8 → (1 : Int32) <<< (nI m &&& 31) - 1 = nI (2 ^ m - 1) := by decide +kernel
theorem l_or : ∀ g, g < 128 → ∀ j, j < 7 → nI g ||| nI (2 ^ j) = nI (g ||| 2 ^ j) := by decide +kernel
theorem l_and : ∀ g, g < 128 → ∀ j, j < 7 → (nI g &&& nI (2 ^ j) = 0 ↔ g.testBit j = false) := by decide +kernel
theorem l_bit : ∀ g, g < 128 → ∀ j, j < 7 → ((nI g >>> (nI j &&& 31)) &&& 1 = 1 ↔ g.testBit j = true) := by decide +kernel
theorem l_bi0 : ∀ g, g < 128 → ∀ j, j < 7 → ((nI g >>> (nI j &&& 31)) &&& 1 = 0 ↔ g.testBit j = false) := by decide +kernel
theorem l_gt : ∀ g, g < 128 → ∀ j, j < 7 → g.testBit j = false → g < g ||| 2 ^ j := by decide +kernel
theorem l_lt {g m j : Nat} (hg : g < 2 ^ m) (hj : j < m) : g ||| 2 ^ j < 2 ^ m := Nat.or_lt_two_pow hg (Nat.pow_lt_pow_right (by decide) hj)
def cb (g : Nat) : Nat → Nat
  | 0 => 0
  | m + 1 => cb g m + (if g.testBit m then 1 else 0)
theorem cb_s : ∀ m, m < 8 → ∀ g, g < 2 ^ m → ∀ b, b < m → g.testBit b = false → cb (g ||| 2 ^ b) m = cb g m + 1 := by decide +kernel
theorem cb_l : ∀ m, m < 8 → ∀ g, g < 2 ^ m → cb g m < m → g + 1 < 2 ^ m := by decide +kernel
theorem cb_0 : ∀ m, m < 8 → cb 0 m = 0 := by decide +kernel
theorem l_ex : ∀ m, m < 8 → ∀ g, g < 2 ^ m → g + 1 < 2 ^ m → ∃ j, j < m ∧ g.testBit j = false := by decide +kernel
theorem l_fu : ∀ m, m < 8 → ∀ j, j < m → (2 ^ m - 1).testBit j = true := by decide +kernel
theorem p_7 {m : Nat} (h : m < 8) : 2 ^ m ≤ 128 := by
  have := Nat.pow_le_pow_right (n := 2) (by decide) (show m ≤ 7 by omega)
  omega
theorem tp_eq {i : Nat} (hi : i < 7) (a : Int64) : f_Ir_toldPoint a (nI i) = f_Mo_placeOf a (nI i) := by
  unfold f_Ir_toldPoint f_Mo_placeOf
  have e5 : 5 * nI i = nI (5 * i) := by rw [show (5 : Int32) = nI 5 from rfl, nI_mul]
  rw [e5]
  apply b_ext
  intro j hj
  rw [b_and, b_and, b_31 j hj]
  by_cases h : j < 5
  · have e1 : bt ((a.toUInt64 >>> ((nI (5 * i)).toInt64.toUInt64 &&& Int64.toUInt64 63)).toInt64.toInt32) j = a.toBitVec.getLsbD (5 * i + j) := by
      unfold bt
      rw [Int64.toBitVec_toInt32, BitVec.getLsbD_signExtend]
      show (decide (j < 32) && if j < 64 then ((a.toUInt64 >>> ((nI (5 * i)).toInt64.toUInt64 &&& Int64.toUInt64 63)).toBitVec).getLsbD j else _) = _
      rw [UInt64.toBitVec_shiftRight]
      show (decide (j < 32) && if j < 64 then (a.toUInt64.toBitVec >>> (((nI (5 * i)).toInt64.toUInt64 &&& Int64.toUInt64 63).toBitVec % 64).toNat).getLsbD j else _) = _
      rw [su64 (5 * i) (by omega), BitVec.getLsbD_ushiftRight, if_pos (by omega), decide_eq_true hj, Bool.true_and]
      rfl
    have e2 : bt ((a >>> ((nI (5 * i)).toInt64 &&& 63)).toInt32) j = a.toBitVec.getLsbD (5 * i + j) := by
      unfold bt
      rw [Int64.toBitVec_toInt32, BitVec.getLsbD_signExtend, Int64.toBitVec_shiftRight]
      show (decide (j < 32) && if j < 64 then (a.toBitVec.sshiftRight (((nI (5 * i)).toInt64 &&& 63).toBitVec.smod 64).toNat).getLsbD j else _) = _
      rw [sl64 (5 * i) (by omega), BitVec.getLsbD_sshiftRight, if_pos (by omega), decide_eq_true hj, Bool.true_and]
      simp only [show 5 * i + j < 64 from by omega, if_true, show ¬ 64 ≤ j from by omega, decide_false, Bool.not_false, Bool.true_and]
    rw [e1, e2]
  · simp [h]
theorem pl_nI {i : Nat} (a : Int64) : ∃ t, t < 32 ∧ f_Mo_placeOf a (nI i) = nI t := by
  have h := pk_andIn ((a >>> ((5 * nI i).toInt64 &&& 63)).toInt32) (m := 31) 5 (by decide) (by omega)
  obtain ⟨t, t1, t2⟩ := vp_in_of h (by decide)
  exact ⟨t, t1, t2⟩
theorem ap {ar : Nat → Nat → Int32} {sc : Nat → Int32} {a : Int64} {b : Int32} {N : Nat} (hN : N ≤ 7) (hb : ∀ i, i ≤ 7 → (b ≤ nI i ↔ N ≤ i)) : ∀ n i, i ≤ N → N - i < n → q_Ir_areAllPoints_3 ar sc a b n (nI i) ∧ (g_Ir_areAllPoints_3 ar sc a b n (nI i) = 0 ↔ ∃ j, i ≤ j ∧ j < N ∧ f_Ir_isPoint ar sc (f_Ir_toldPoint a (nI j)) = 0) := by
  intro n
  induction n with
  | zero => intro i h1 h2; omega
  | succ n ih =>
    intro i h1 h2
    rw [q_Ir_areAllPoints_3, g_Ir_areAllPoints_3]
    by_cases c : N ≤ i
    · have c' : b ≤ nI i := (hb i (by omega)).mpr c
      refine ⟨⟨fun _ => trivial, fun h => absurd c' h⟩, ?_⟩
      rw [if_pos c']
      constructor
      · intro h; exact absurd h i10
      · intro ⟨j, j1, j2, _⟩; omega
    · have c' : ¬ b ≤ nI i := fun h => c ((hb i (by omega)).mp h)
      rw [if_neg c', nI_1]
      by_cases d : f_Ir_isPoint ar sc (f_Ir_toldPoint a (nI i)) = 0
      · rw [if_pos d]
        refine ⟨⟨fun h => absurd h c', fun _ => ⟨fun _ => trivial, fun h => absurd d h⟩⟩, ?_⟩
        exact ⟨fun _ => ⟨i, by omega, by omega, d⟩, fun _ => rfl⟩
      · rw [if_neg d]
        obtain ⟨I1, I2⟩ := ih (i + 1) (by omega) (by omega)
        refine ⟨⟨fun h => absurd h c', fun _ => ⟨fun h => absurd h d, fun _ => I1⟩⟩, ?_⟩
        rw [I2]
        constructor
        · intro ⟨j, j1, j2, j3⟩; exact ⟨j, by omega, j2, j3⟩
        · intro ⟨j, j1, j2, j3⟩
          refine ⟨j, ?_, j2, j3⟩
          rcases Nat.lt_or_eq_of_le j1 with h | h
          · omega
          · rw [← h] at j3; exact absurd j3 d
theorem an_0 {s : Int32} {k : Nat} (hk : k < 32) : (s &&& ((1 : Int32) <<< (nI k &&& 31))) = 0 ↔ bt s k = false := by
  constructor
  · intro h
    have := congrArg (fun z => bt z k) h
    simp only [b_and, b_one k hk k hk, b_0, decide_true, Bool.and_true] at this
    exact this
  · intro h
    apply b_ext
    intro i hi
    rw [b_and, b_one k hk i hi, b_0]
    by_cases e : i = k
    · rw [e, h]; rfl
    · simp [e]
theorem adf {a : Int64} {m : Nat} (hm : m ≤ 7) (t : Nat → Nat) (ht : ∀ j, j < m → f_Ir_toldPoint a (nI j) = nI (t j) ∧ t j < 32) : ∀ n i s, i ≤ m → m - i < n → (∀ x, x < 32 → (bt s x = true ↔ ∃ j, j < i ∧ t j = x)) → q_Ir_areAllDifferent_5 a (nI m) n s (nI i) ∧ (g_Ir_areAllDifferent_5 a (nI m) n s (nI i) = 0 ↔ ∃ j k, j < k ∧ i ≤ k ∧ k < m ∧ t j = t k) := by
  intro n
  induction n with
  | zero => intro i s h1 h2; omega
  | succ n ih =>
    intro i s h1 h2 hs
    rw [q_Ir_areAllDifferent_5, g_Ir_areAllDifferent_5]
    by_cases c : i = m
    · have c' : nI m ≤ nI i := nI_le (by omega) (by omega)
      refine ⟨⟨fun _ => trivial, fun h => absurd c' h⟩, ?_⟩
      rw [if_pos c']
      constructor
      · intro h; exact absurd h i10
      · intro ⟨j, k, k1, k2, k3, _⟩; omega
    · have c' : ¬ nI m ≤ nI i := nI_ge (by omega) (by omega)
      obtain ⟨t1, t2⟩ := ht i (by omega)
      rw [if_neg c', nI_1, t1]
      by_cases d : (s &&& ((1 : Int32) <<< (nI (t i) &&& 31))) = 0
      · rw [if_pos d]
        have d' := (an_0 t2).mp d
        obtain ⟨I1, I2⟩ := ih (i + 1) (s ||| ((1 : Int32) <<< (nI (t i) &&& 31))) (by omega) (by omega) (fun x hx => by
          rw [b_or, b_one _ t2 x hx]
          constructor
          · intro h
            rcases Bool.or_eq_true_iff.mp h with h | h
            · obtain ⟨j, j1, j2⟩ := (hs x hx).mp h; exact ⟨j, by omega, j2⟩
            · exact ⟨i, by omega, (of_decide_eq_true h).symm⟩
          · intro ⟨j, j1, j2⟩
            apply Bool.or_eq_true_iff.mpr
            rcases Nat.lt_or_eq_of_le (Nat.le_of_lt_succ j1) with h | h
            · exact Or.inl ((hs x hx).mpr ⟨j, h, j2⟩)
            · exact Or.inr (decide_eq_true (by rw [← j2, h])))
        refine ⟨⟨fun h => absurd h c', fun _ => ⟨fun _ => I1, fun h => absurd d h⟩⟩, ?_⟩
        rw [I2]
        constructor
        · intro ⟨j, k, k1, k2, k3, k4⟩; exact ⟨j, k, k1, by omega, k3, k4⟩
        · intro ⟨j, k, k1, k2, k3, k4⟩
          refine ⟨j, k, k1, ?_, k3, k4⟩
          rcases Nat.lt_or_eq_of_le k2 with h | h
          · omega
          · have := (hs (t i) t2).mpr ⟨j, by omega, by rw [k4, h]⟩
            rw [d'] at this
            exact absurd this (by decide)
      · rw [if_neg d]
        refine ⟨⟨fun h => absurd h c', fun _ => ⟨fun h => absurd h d, fun _ => trivial⟩⟩, fun _ => ?_, fun _ => rfl⟩
        have d' : bt s (t i) = true := by
          cases h : bt s (t i)
          · exact absurd ((an_0 t2).mpr h) d
          · rfl
        obtain ⟨j, j1, j2⟩ := (hs (t i) t2).mp d'
        exact ⟨j, i, j1, by omega, by omega, j2⟩
theorem w50 {br : Nat → Nat → Int32} {bc : Nat → Int32} {a : Int64} {a1 u4 : Int32} {k : Nat} (hk : k < 7) (t : Nat → Nat) (ht : ∀ j, j < 7 → f_Mo_placeOf a (nI j) = nI (t j) ∧ t j < 32) : ∀ n j v, j ≤ k → k - j < n → (v = 0 ∨ v = 1) → q_Mo_walk_50 a a1 u4 (nI k) n v (nI j) br bc ∧ ∃ v', g_Mo_walk_50 a a1 u4 (nI k) n v (nI j) br bc = (v', nI k, br, bc) ∧ (v' = 0 ∨ v' = 1) ∧ (v' = 0 ↔ (v = 0 ∧ ∀ x, j ≤ x → x < k → ¬ t x = t k)) := by
  intro n
  induction n with
  | zero => intro j v h1 h2; omega
  | succ n ih =>
    intro j v h1 h2 hv
    rw [q_Mo_walk_50, g_Mo_walk_50]
    by_cases c : j = k
    · have c' : nI k ≤ nI j := nI_le (by omega) (by omega)
      refine ⟨⟨fun _ => trivial, fun h => absurd c' h⟩, v, ?_, hv, ?_⟩
      · rw [if_pos c', c]
      · exact ⟨fun h => ⟨h, fun x x1 x2 => by omega⟩, fun h => h.1⟩
    · have c' : ¬ nI k ≤ nI j := nI_ge (by omega) (by omega)
      rw [if_neg c', nI_1, (ht j (by omega)).1, (ht k hk).1]
      obtain ⟨A1, va, A2, A3, A4⟩ := ih (j + 1) 0 (by omega) (by omega) (Or.inl rfl)
      obtain ⟨B1, vb, B2, B3, B4⟩ := ih (j + 1) 1 (by omega) (by omega) (Or.inr rfl)
      have vb0 : ¬ vb = 0 := fun h => i10 (B4.mp h).1
      refine ⟨⟨fun h => absurd h c', fun _ => ⟨fun _ => ⟨fun _ => B1, fun _ => A1⟩, fun _ => B1⟩⟩, ?_⟩
      by_cases d : v = 0
      · rw [if_pos d]
        by_cases e : nI (t j) = nI (t k)
        · rw [if_pos e]
          have e' : t j = t k := (nI_eq (by have := (ht j (by omega)).2; omega) (by have := (ht k hk).2; omega)).mp e
          exact ⟨vb, B2, B3, fun h => absurd h vb0, fun h => absurd e' (h.2 j (by omega) (by omega))⟩
        · rw [if_neg e]
          have e' : ¬ t j = t k := fun h => e (by rw [h])
          refine ⟨va, A2, A3, ?_⟩
          rw [A4]
          constructor
          · intro h
            refine ⟨d, fun x x1 x2 => ?_⟩
            rcases Nat.lt_or_eq_of_le x1 with h9 | h9
            · exact h.2 x (by omega) x2
            · rw [← h9]; exact e'
          · intro h; exact ⟨rfl, fun x x1 x2 => h.2 x (by omega) x2⟩
      · rw [if_neg d]
        exact ⟨vb, B2, B3, fun h => absurd h vb0, fun h => absurd h.1 d⟩
theorem w9 {br : Nat → Nat → Int32} {bc : Nat → Int32} {a : Int64} {a1 : Int32} {N : Nat} (hN : N ≤ 7) (hb : ∀ i, i ≤ 7 → ((a1 ≤ nI i ∨ (7 : Int32) ≤ nI i) ↔ N ≤ i)) (t : Nat → Nat) (ht : ∀ j, j < 7 → f_Mo_placeOf a (nI j) = nI (t j) ∧ t j < 32) : ∀ n i v w, i ≤ N → N - i < n → (v = 0 ∨ v = 1) → (w = 0 ∨ w = 1) → q_Mo_walk_9 a a1 n v w (nI i) br bc ∧ ∃ v' w' z, g_Mo_walk_9 a a1 n v w (nI i) br bc = (v', w', z, br, bc) ∧ (v' = 0 ∨ v' = 1) ∧ (w' = 0 ∨ w' = 1) ∧ (v' = 0 ↔ (v = 0 ∧ ∀ x, i ≤ x → x < N → ¬ f_Mo_isPoint br bc (f_Mo_placeOf a (nI x)) = 0)) ∧ (w' = 0 ↔ (w = 0 ∧ ∀ x y, x < y → i ≤ y → y < N → ¬ t x = t y)) := by
  intro n
  induction n with
  | zero => intro i v w h1 h2; omega
  | succ n ih =>
    intro i v w h1 h2 hv hw
    rw [q_Mo_walk_9, g_Mo_walk_9]
    by_cases c : N ≤ i
    · have fin : (v = 0 ↔ (v = 0 ∧ ∀ x, i ≤ x → x < N → ¬ f_Mo_isPoint br bc (f_Mo_placeOf a (nI x)) = 0)) ∧ (w = 0 ↔ (w = 0 ∧ ∀ x y, x < y → i ≤ y → y < N → ¬ t x = t y)) := ⟨⟨fun h => ⟨h, fun x x1 x2 => by omega⟩, fun h => h.1⟩, ⟨fun h => ⟨h, fun x y y1 y2 y3 => by omega⟩, fun h => h.1⟩⟩
      by_cases d : a1 ≤ nI i
      · rw [if_pos d]
        exact ⟨⟨fun _ => trivial, fun h => absurd d h⟩, v, w, nI i, rfl, hv, hw, fin⟩
      · have d' := ((hb i (by omega)).mpr c).resolve_left d
        rw [if_neg d, if_pos d']
        exact ⟨⟨fun h => absurd h d, fun _ => ⟨fun _ => trivial, fun h => absurd d' h⟩⟩, v, w, nI i, rfl, hv, hw, fin⟩
    · have d1 : ¬ a1 ≤ nI i := fun h => c ((hb i (by omega)).mp (Or.inl h))
      have d2 : ¬ (7 : Int32) ≤ nI i := fun h => c ((hb i (by omega)).mp (Or.inr h))
      rw [if_neg d1, if_neg d2, nI_1]
      obtain ⟨A1, wa, A2, A3, A4⟩ := w50 (br := br) (bc := bc) (a := a) (a1 := a1) (u4 := 1) (k := i) (by omega) t ht 200 0 w (by omega) (by omega) hw
      obtain ⟨B1, wb, B2, B3, B4⟩ := w50 (br := br) (bc := bc) (a := a) (a1 := a1) (u4 := 0) (k := i) (by omega) t ht 200 0 w (by omega) (by omega) hw
      rw [nI_0] at A1 A2 B1 B2
      rw [A2, B2]
      dsimp only
      obtain ⟨P1, v1, w1, z1, P2, P3, P4, P5, P6⟩ := ih (i + 1) 1 wa (by omega) (by omega) (Or.inr rfl) A3
      obtain ⟨Q1, v2, w2, z2, Q2, Q3, Q4, Q5, Q6⟩ := ih (i + 1) 0 wb (by omega) (by omega) (Or.inl rfl) B3
      have v10 : ¬ v1 = 0 := fun h => i10 (P5.mp h).1
      have join : ∀ ww : Int32, (ww = 0 ↔ (w = 0 ∧ ∀ x, 0 ≤ x → x < i → ¬ t x = t i)) → ((ww = 0 ∧ ∀ x y, x < y → i + 1 ≤ y → y < N → ¬ t x = t y) ↔ (w = 0 ∧ ∀ x y, x < y → i ≤ y → y < N → ¬ t x = t y)) := by
        intro ww hww
        rw [hww]
        constructor
        · intro h
          refine ⟨h.1.1, fun x y y1 y2 y3 => ?_⟩
          rcases Nat.lt_or_eq_of_le y2 with h9 | h9
          · exact h.2 x y y1 h9 y3
          · rw [← h9]; exact h.1.2 x (by omega) (by omega)
        · intro h
          exact ⟨⟨h.1, fun x x1 x2 => h.2 x i x2 (by omega) (by omega)⟩, fun x y y1 y2 y3 => h.2 x y y1 (by omega) y3⟩
      refine ⟨⟨fun h => absurd h d1, fun _ => ⟨fun h => absurd h d2, fun _ => ⟨fun _ => ⟨fun _ => ⟨A1, P1⟩, fun _ => ⟨B1, Q1⟩⟩, fun _ => ⟨A1, P1⟩⟩⟩⟩, ?_⟩
      by_cases e : v = 0
      · rw [if_pos e]
        by_cases g : f_Mo_isPoint br bc (f_Mo_placeOf a (nI i)) = 0
        · rw [if_pos g]
          exact ⟨v1, w1, z1, P2, P3, P4, ⟨fun h => absurd h v10, fun h => absurd g (h.2 i (by omega) (by omega))⟩, P6.trans (join wa A4)⟩
        · rw [if_neg g]
          refine ⟨v2, w2, z2, Q2, Q3, Q4, ?_, Q6.trans (join wb B4)⟩
          rw [Q5]
          constructor
          · intro h
            refine ⟨e, fun x x1 x2 => ?_⟩
            rcases Nat.lt_or_eq_of_le x1 with h9 | h9
            · exact h.2 x h9 x2
            · rw [← h9]; exact g
          · intro h; exact ⟨rfl, fun x x1 x2 => h.2 x (by omega) x2⟩
      · rw [if_neg e]
        exact ⟨v1, w1, z1, P2, P3, P4, ⟨fun h => absurd h v10, fun h => absurd h.1 e⟩, P6.trans (join wa A4)⟩



theorem sg_ne {α : Type} {f : Nat → α} {k j : Nat} {v : α} (h : j ≠ k) : sg f k v j = f j := by
  have hb : Nat.beq j k = false := by
    cases e : Nat.beq j k
    · rfl
    · exact absurd (Nat.eq_of_beq_eq_true e) h
  unfold sg
  rw [hb]
  rfl


def CA (ar : Nat → Nat → Int32) (m : Nat) (lg T : Nat → Nat → Nat) (t : Nat → Nat) : Prop := DP ar m lg T 0 ∧ ∀ j, j < m → ar 24 j = nI (t j)
def MA (br : Nat → Nat → Int32) (m : Nat) (lg T : Nat → Nat → Nat) (t : Nat → Nat) : Prop := GM br m lg ∧ (∀ x y, 0 < x → x < 2 ^ m → y < m → br 21 (7 * x + y) = nI (T x y)) ∧ ∀ j, j < m → br 20 j = nI (t j)
theorem CA_t {ar ar' : Nat → Nat → Int32} {m : Nat} {lg T : Nat → Nat → Nat} {t : Nat → Nat} (e : ∀ k, k ≠ 29 → ar' k = ar k) (h : CA ar m lg T t) : CA ar' m lg T t := by
  unfold CA DP
  rw [e 27 (by omega), e 28 (by omega), e 24 (by omega)]
  exact h
theorem MA_t {br br' : Nat → Nat → Int32} {m : Nat} {lg T : Nat → Nat → Nat} {t : Nat → Nat} (e : ∀ k, k ≠ 19 → br' k = br k) (h : MA br m lg T t) : MA br' m lg T t := by
  refine ⟨GM_t (e 8 (by omega)) (e 9 (by omega)) (e 20 (by omega)) h.1, ?_, ?_⟩
  · rw [e 21 (by omega)]; exact h.2.1
  · rw [e 20 (by omega)]; exact h.2.2
theorem stj {sc bc : Nat → Int32} {m : Nat} {lg T : Nat → Nat → Nat} {t : Nat → Nat} (hm : m < 8) (hl : ∀ p j, p ≤ m → j ≤ m → lg p j ≤ 40000) (hc : ∀ x y, lg x y = lg y x) (hT : TT lg m T) (hsc : sc 4 = nI m) {a : Int64} {u4 u5 u6 : Int32} : ∀ n i g p u8 ar br, i ≤ m → m - i < n → g < 2 ^ m → cb g m = i → p ≤ m → ((u8 = -1 ∧ p = m) ∨ (u8 = nI p ∧ p < m)) → ar 29 = br 19 → CA ar m lg T t → MA br m lg T t → q_Route_fillStops_9 n (nI g) (nI p) (nI i) ar sc ∧ q_Mo_walk_251 a (nI m) u4 u5 u6 n (nI g) u8 (nI (T g p)) (nI i) br bc ∧ ∃ x1 x2 x3 ar' y1 y2 y3 y4 br', g_Route_fillStops_9 n (nI g) (nI p) (nI i) ar sc = (x1, x2, x3, ar', sc) ∧ g_Mo_walk_251 a (nI m) u4 u5 u6 n (nI g) u8 (nI (T g p)) (nI i) br bc = (y1, y2, y3, y4, br', bc) ∧ ar' 29 = br' 19 ∧ (∀ k, k ≠ 29 → ar' k = ar k) ∧ (∀ k, k ≠ 19 → br' k = br k) := by
  intro n
  have h7 := p_7 hm
  induction n with
  | zero => intro i g p u8 ar br h1 h2; omega
  | succ n ih =>
    intro i g p u8 ar br h1 h2 hg hcb hp hu he hA hB
    by_cases c : i = m
    · rw [q_Route_fillStops_9, q_Mo_walk_251, g_Route_fillStops_9, g_Mo_walk_251, hsc]
      have c' : nI m ≤ nI i := nI_le (by omega) (by omega)
      rw [if_pos c', if_pos c']
      exact ⟨⟨fun _ => trivial, fun h => absurd c' h⟩, ⟨fun _ => trivial, fun h => absurd c' h⟩, _, _, _, ar, _, _, _, _, br, rfl, rfl, he, fun _ _ => rfl, fun _ _ => rfl⟩
    · have c' : ¬ nI m ≤ nI i := nI_ge (by omega) (by omega)
      have hg1 : g + 1 < 2 ^ m := cb_l m hm g hg (by omega)
      obtain ⟨f1, b, f2, f3⟩ := fln (sc := sc) hm hl hT hA.1 hsc hg1 (Nat.zero_le _) hp
      obtain ⟨s1, v11, v12, s2', s3⟩ := st1 (bc := bc) (a := a) (u4 := u4) (u5 := u5) (u6 := u6) (u8 := u8) (u10 := nI i) hm hl hc hT hB.1 hB.2.1 hg hp hu 200 m (-1) 0 (Nat.le_refl m) (by omega) (Or.inl ⟨rfl, fun x x1 x2 => by omega⟩)
      have hmin := hT.2.1 g p hg1 hp
      have hb : v11 = nI b ∧ v12 = nI (lg p b) := by
        rcases s3 with ⟨_, k2⟩ | ⟨d, d1, d2, d3, d4, d5, d6, d7⟩
        · exact absurd f3.2.2.1 (k2 b (Nat.zero_le _) f3.1 f3.2.1)
        · have hd : PK lg T m g p d := ⟨d2, d3, d4, fun j j1 j2 => by
            have q1 : T g p ≤ lg p j + T (g ||| 2 ^ j) j := hmin.2 j ⟨by omega, j2⟩
            have q2 := d7 j (Nat.zero_le _) j1 j2
            omega⟩
          have e := PK_u f3 hd
          rw [e]
          exact ⟨d5, d6⟩
      rw [hb.1, hb.2] at s2'
      have hbm := f3.1
      have hg' : g ||| 2 ^ b < 2 ^ m := l_lt hg hbm
      have hcb' := cb_s m hm g hg b hbm f3.2.1
      have ew : nI (T g p) - nI (lg p b) = nI (T (g ||| 2 ^ b) b) := by
        rw [← f3.2.2.1, ← nI_add, Int32.add_comm, Int32.add_sub_cancel]
      have ed : nI m - 1 = dn m := Int32.sub_eq_add_neg _ _
      have eo : nI g ||| (1 : Int32) <<< (nI b &&& 31) = nI (g ||| 2 ^ b) := by rw [l_1 b (by omega), l_or g (by omega) b (by omega)]
      have kb : (nI b).toNatClampNeg = b := nI_clamp (by omega)
      have ki : (nI i).toNatClampNeg = i := nI_clamp (by omega)
      have vb : vp_in (nI b) 7 := vp_in_nI (by omega) (by omega)
      have vi : vp_in (nI i) 7 := vp_in_nI (by omega) (by omega)
      obtain ⟨I1, I2, x1, x2, x3, ar', y1, y2, y3, y4, br', I3, I4, I5, I6, I7⟩ := ih (i + 1) (g ||| 2 ^ b) b (nI b) (s2 ar 29 i (nI (t b))) (s2 br 19 i (nI (t b))) (by omega) (by omega) hg' (by omega) (by omega) (Or.inr ⟨rfl, hbm⟩) (by
        show upd (ar 29) i _ = upd (br 19) i _
        rw [he]) (CA_t (fun k hk => s2_ne hk) hA) (MA_t (fun k hk => s2_ne hk) hB)
      rw [q_Route_fillStops_9, q_Mo_walk_251, g_Route_fillStops_9, g_Mo_walk_251, ed, s2', hsc, if_neg c', if_neg c', f2]
      dsimp only
      rw [eo, kb, ki, nI_1, ew, hA.2 b hbm, hB.2.2 b hbm]
      exact ⟨⟨fun h => absurd h c', fun _ => ⟨f1, vb, vi, I1⟩⟩, ⟨fun h => absurd h c', fun _ => ⟨s1, vb, vi, I2⟩⟩, x1, x2, x3, ar', y1, y2, y3, y4, br', I3, I4, I5, fun k hk => by rw [I6 k hk, s2_ne hk], fun k hk => by rw [I7 k hk, s2_ne hk]⟩
theorem rl_w {ar ar' br br' : Nat → Nat → Int32} {sc sc' bc bc' : Nat → Int32} (hR : RL ar sc br bc) (hA : ∀ k, (k < 24 ∨ 30 ≤ k) → ar' k = ar k) (hB : ∀ k, (k < 19 ∨ 22 ≤ k) → br' k = br k) (hs : ∀ k, k ≠ 4 → sc' k = sc k) (hb : ∀ k, k ≠ 0 → k ≠ 4 → bc' k = bc k) (h29 : ar' 29 = br' 19) (h4 : sc' 4 = bc' 4) (h4b : 0 ≤ (sc' 4).toInt ∧ (sc' 4).toInt ≤ 7) : RL ar' sc' br' bc' := by
  have a := fun k h => hA k (Or.inl h)
  have a' := fun k h => hA k (Or.inr h)
  have b := fun k h => hB k (Or.inl h)
  have b' := fun k h => hB k (Or.inr h)
  unfold RL RA RS RI
  rw [a 2 (by omega), a 3 (by omega), a 4 (by omega), a 5 (by omega), a 7 (by omega), a 9 (by omega), a 10 (by omega), a 11 (by omega), a 13 (by omega), a 14 (by omega), a 15 (by omega), a 16 (by omega), a 18 (by omega), a 19 (by omega), a 20 (by omega), a 21 (by omega), a' 31 (by omega), a' 32 (by omega), a' 33 (by omega), a' 34 (by omega), a' 35 (by omega), a' 36 (by omega), a 8 (by omega), b 1 (by omega), b 2 (by omega), b 3 (by omega), b 4 (by omega), b 5 (by omega), b 6 (by omega), b 7 (by omega), b 8 (by omega), b 9 (by omega), b 10 (by omega), b 11 (by omega), b 12 (by omega), b 13 (by omega), b 14 (by omega), b 15 (by omega), b 16 (by omega), b 17 (by omega), b 18 (by omega), b' 22 (by omega), b' 23 (by omega), b' 24 (by omega), hs 0 (by omega), hs 1 (by omega), hs 2 (by omega), hs 5 (by omega), hs 6 (by omega), hs 7 (by omega), hs 8 (by omega), hs 9 (by omega), hs 10 (by omega), hs 11 (by omega), hs 12 (by omega), hs 13 (by omega), hb 1 (by omega) (by omega), hb 2 (by omega) (by omega), hb 3 (by omega) (by omega), hb 8 (by omega) (by omega), hb 7 (by omega) (by omega), hb 5 (by omega) (by omega), hb 6 (by omega) (by omega), hb 9 (by omega) (by omega)]
  exact ⟨⟨hR.1.1, hR.1.2.1, hR.1.2.2.1, hR.1.2.2.2.1, hR.1.2.2.2.2.1, hR.1.2.2.2.2.2.1, hR.1.2.2.2.2.2.2.1, hR.1.2.2.2.2.2.2.2.1, hR.1.2.2.2.2.2.2.2.2.1, hR.1.2.2.2.2.2.2.2.2.2.1, hR.1.2.2.2.2.2.2.2.2.2.2.1, hR.1.2.2.2.2.2.2.2.2.2.2.2.1, hR.1.2.2.2.2.2.2.2.2.2.2.2.2.1, hR.1.2.2.2.2.2.2.2.2.2.2.2.2.2.1, hR.1.2.2.2.2.2.2.2.2.2.2.2.2.2.2.1, hR.1.2.2.2.2.2.2.2.2.2.2.2.2.2.2.2.1, hR.1.2.2.2.2.2.2.2.2.2.2.2.2.2.2.2.2.1, h29, hR.1.2.2.2.2.2.2.2.2.2.2.2.2.2.2.2.2.2.2.1, hR.1.2.2.2.2.2.2.2.2.2.2.2.2.2.2.2.2.2.2.2.1, hR.1.2.2.2.2.2.2.2.2.2.2.2.2.2.2.2.2.2.2.2.2⟩, ⟨hR.2.1.1, hR.2.1.2.1, hR.2.1.2.2.1, h4, hR.2.1.2.2.2.2.1, hR.2.1.2.2.2.2.2.1, hR.2.1.2.2.2.2.2.2.1, hR.2.1.2.2.2.2.2.2.2.1, hR.2.1.2.2.2.2.2.2.2.2.1, hR.2.1.2.2.2.2.2.2.2.2.2.1, hR.2.1.2.2.2.2.2.2.2.2.2.2.1, hR.2.1.2.2.2.2.2.2.2.2.2.2.2.1, hR.2.1.2.2.2.2.2.2.2.2.2.2.2.2⟩, ⟨hR.2.2.1, hR.2.2.2.1, hR.2.2.2.2.1, h4b, hR.2.2.2.2.2.2.1, hR.2.2.2.2.2.2.2.1, hR.2.2.2.2.2.2.2.2.1, hR.2.2.2.2.2.2.2.2.2.1, hR.2.2.2.2.2.2.2.2.2.2.1, hR.2.2.2.2.2.2.2.2.2.2.2.1, hR.2.2.2.2.2.2.2.2.2.2.2.2.1, hR.2.2.2.2.2.2.2.2.2.2.2.2.2.1, hR.2.2.2.2.2.2.2.2.2.2.2.2.2.2⟩⟩
theorem sub_r {m : Nat} {a1 : Int32} (hN : a1 = nI m) (hm : m ≤ 7) : ∀ i, i ≤ 7 → ((a1 ≤ nI i ∨ (7 : Int32) ≤ nI i) ↔ m ≤ i) := by
  intro i hi
  rw [hN, nI_leI (by omega) (by omega), show ((7 : Int32) ≤ nI i) ↔ (nI 7 ≤ nI i) from Iff.rfl, nI_leI (by omega) (by omega)]
  omega
theorem cutN (a1 : Int32) : ∃ N : Nat, N ≤ 7 ∧ (∀ i, i ≤ 7 → ((if 7 < a1 then 7 else a1) ≤ nI i ↔ N ≤ i)) ∧ (∀ i, i ≤ 7 → ((a1 ≤ nI i ∨ (7 : Int32) ≤ nI i) ↔ N ≤ i)) ∧ (¬ f_Mo_in a1 0 7 = 0 → a1 = nI N) := by
  have e7 : (7 : Int32).toInt = 7 := rfl
  by_cases c1 : a1 < 0
  · refine ⟨0, by omega, fun i hi => ?_, fun i hi => ?_, fun h => ?_⟩
    · rw [Int32.lt_iff_toInt_lt, iz] at c1
      rw [if_neg (by rw [Int32.lt_iff_toInt_lt, e7]; omega), Int32.le_iff_toInt_le, nI_toInt (by omega)]
      omega
    · rw [Int32.lt_iff_toInt_lt, iz] at c1
      rw [Int32.le_iff_toInt_le, nI_toInt (by omega)]
      constructor
      · intro _; omega
      · intro _; exact Or.inl (by omega)
    · have := in_no h
      rw [Int32.lt_iff_toInt_lt, iz] at c1
      rw [iz] at this
      omega
  · by_cases c2 : 7 < a1
    · refine ⟨7, by omega, fun i hi => ?_, fun i hi => ?_, fun h => ?_⟩
      · rw [if_pos c2, show ((7 : Int32) ≤ nI i) ↔ (nI 7 ≤ nI i) from Iff.rfl, nI_leI (by omega) (by omega)]
      · rw [Int32.lt_iff_toInt_lt, e7] at c2
        rw [show ((7 : Int32) ≤ nI i) ↔ (nI 7 ≤ nI i) from Iff.rfl, nI_leI (by omega) (by omega), Int32.le_iff_toInt_le, nI_toInt (by omega)]
        omega
      · have := in_no h
        rw [Int32.lt_iff_toInt_lt, e7] at c2
        rw [e7] at this
        omega
    · have h0 : 0 ≤ a1.toInt := by rw [Int32.lt_iff_toInt_lt, iz] at c1; omega
      have h1 : a1.toInt ≤ 7 := by rw [Int32.lt_iff_toInt_lt, e7] at c2; omega
      obtain ⟨N, n1, n2, n3⟩ := ex_nI h0 h1
      refine ⟨N, by omega, fun i hi => ?_, sub_r n3 (by omega), fun _ => n3⟩
      rw [if_neg c2, n3, nI_leI (by omega) (by omega)]


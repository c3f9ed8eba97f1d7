
theorem subI {x y : Int32} (h0 : -2147483648 ≤ x.toInt - y.toInt) (h1 : x.toInt - y.toInt < 2147483648) : (x - y).toInt = x.toInt - y.toInt := by
  rw [Int32.toInt_sub]
  exact Int.bmod_eq_of_le (by omega) (by omega)
theorem addI {x y : Int32} (h0 : -2147483648 ≤ x.toInt + y.toInt) (h1 : x.toInt + y.toInt < 2147483648) : (x + y).toInt = x.toInt + y.toInt := by
  rw [Int32.toInt_add]
  exact Int.bmod_eq_of_le (by omega) (by omega)
theorem nI_mul (a b : Nat) : nI a * nI b = nI (a * b) := by
  unfold nI
  exact (Int32.ofNat_mul a b).symm
theorem gap_eq {a b c d : Int32} (h1 : -10000000 ≤ a.toInt ∧ a.toInt ≤ b.toInt ∧ b.toInt ≤ 10000000) (h2 : -10000000 ≤ c.toInt ∧ c.toInt ≤ d.toInt ∧ d.toInt ≤ 10000000) : f_Permits_gap a b c d = f_Mo_apart a b c d := by
  have e1 := @subI c b (by omega) (by omega)
  have e2 := @subI a d (by omega) (by omega)
  unfold f_Permits_gap f_Mo_apart
  by_cases k1 : c ≤ b
  · rw [if_pos k1]
    rw [Int32.le_iff_toInt_le] at k1
    by_cases k2 : a ≤ d
    · rw [if_pos k2]
      rw [Int32.le_iff_toInt_le] at k2
      by_cases k3 : c - b < a - d
      · rw [if_pos k3, if_neg (show ¬ (0 : Int32) < a - d by rw [Int32.lt_iff_toInt_lt, e2, iz]; omega)]; rfl
      · rw [if_neg k3, if_neg (show ¬ (0 : Int32) < c - b by rw [Int32.lt_iff_toInt_lt, e1, iz]; omega)]; rfl
    · rw [if_neg k2]
      rw [Int32.le_iff_toInt_le] at k2
      rw [if_pos (show c - b < a - d by rw [Int32.lt_iff_toInt_lt, e1, e2]; omega), if_pos (show (0 : Int32) < a - d by rw [Int32.lt_iff_toInt_lt, e2, iz]; omega)]
  · rw [if_neg k1]
    rw [Int32.le_iff_toInt_le] at k1
    rw [if_neg (show ¬ c - b < a - d by rw [Int32.lt_iff_toInt_lt, e1, e2]; omega), if_pos (show (0 : Int32) < c - b by rw [Int32.lt_iff_toInt_lt, e1, iz]; omega)]
theorem ix_4 {p : Nat} (k : Nat) (hp : p < 30) (hk : k < 4) : (4 * nI p + nI k).toNatClampNeg = 4 * p + k ∧ vp_in (4 * nI p + nI k) 124 := by
  have e : 4 * nI p + nI k = nI (4 * p + k) := by rw [show (4 : Int32) = nI 4 from rfl, nI_mul, nI_add]
  rw [e]
  exact ⟨nI_clamp (by omega), vp_in_nI (by omega) (by omega)⟩
theorem ix_0 {p : Nat} (hp : p < 30) : (4 * nI p).toNatClampNeg = 4 * p ∧ vp_in (4 * nI p) 124 := by
  have e : 4 * nI p = nI (4 * p) := by rw [show (4 : Int32) = nI 4 from rfl, nI_mul]
  rw [e]
  exact ⟨nI_clamp (by omega), vp_in_nI (by omega) (by omega)⟩
theorem w_120 : vp_in 120 124 := by unfold vp_in; decide
theorem w_121 : vp_in 121 124 := by unfold vp_in; decide
theorem w_122 : vp_in 122 124 := by unfold vp_in; decide
theorem w_123 : vp_in 123 124 := by unfold vp_in; decide
theorem z_121 : ((121 : Int32)).toNatClampNeg = 121 := by decide
theorem z_122 : ((122 : Int32)).toNatClampNeg = 122 := by decide
theorem z_123 : ((123 : Int32)).toNatClampNeg = 123 := by decide
theorem near {ar br : Nat → Nat → Int32} {sc bc : Nat → Int32} (hR : RL ar sc br bc) {p : Nat} (hp : (p : Int) < (sc 5).toInt) : f_Permits_isTooNear ar sc (nI p) = f_Mo_isNear br bc (nI p) ∧ p_Permits_isTooNear ar sc (nI p) ∧ p_Mo_isNear br bc (nI p) := by
  have hb := v_ipm hR
  have hp30 : p < 30 := by omega
  have hc : (nI p).toNatClampNeg = p := nI_clamp (by omega)
  have hv : vp_in (nI p) 30 := vp_in_nI (by omega) (by omega)
  have i0 := ix_0 hp30
  have i1 := ix_4 1 hp30 (by omega)
  have i2 := ix_4 2 hp30 (by omega)
  have i3 := ix_4 3 hp30 (by omega)
  have hg := v_kgr hR
  have hk := v_kpg hR p hp
  have hm := v_pg hR p hp30
  refine ⟨?_, ⟨hv, hv, hv, hv⟩, ⟨w_120, w_122, i0.2, i2.2, w_121, w_123, i1.2, i3.2⟩⟩
  unfold f_Permits_isTooNear f_Mo_isNear
  rw [show (4 * nI p + 1) = (4 * nI p + nI 1) from rfl, show (4 * nI p + 2) = (4 * nI p + nI 2) from rfl, show (4 * nI p + 3) = (4 * nI p + nI 3) from rfl, i0.1, i1.1, i2.1, i3.1, hc, gu_0, z_121, z_122, z_123, gap_eq hg.1 hk.1, gap_eq hg.2 hk.2, ← hm.1, ← hm.2.1, ← hm.2.2.1, ← hm.2.2.2, ← v_g1 hR, ← v_g2 hR, ← v_g3 hR, ← v_g4 hR, v_di hR]
theorem fcl {ar br : Nat → Nat → Int32} {sc bc : Nat → Int32} (hR : RL ar sc br bc) (a0 a1 a2 : Int32) (u : Int64) {P : Nat} (hP : sc 5 = nI P) (hP1 : P ≤ 30) : ∀ n i, i ≤ P → P - i < n → q_Permits_findClash_32 ar sc a0 a1 a2 n (nI i) ∧ q_Mo_refusal_65 br bc a0 a1 a2 u n (nI i) ∧ g_Permits_findClash_32 ar sc a0 a1 a2 n (nI i) = g_Mo_refusal_65 br bc a0 a1 a2 u n (nI i) := by
  intro n
  induction n with
  | zero => intro i h1 h2; omega
  | succ n ih =>
    intro i h1 h2
    have hB : bc 8 = nI P := by rw [← v_pm hR]; exact hP
    have hPi : (sc 5).toInt = P := by rw [hP, nI_toInt (by omega)]
    rw [q_Permits_findClash_32, q_Mo_refusal_65, g_Permits_findClash_32, g_Mo_refusal_65, hP, hB]
    by_cases k : i = P
    · have c' : nI P ≤ nI i := nI_le (by omega) (by omega)
      refine ⟨⟨fun _ => trivial, fun h => absurd c' h⟩, ⟨fun _ => trivial, fun h => absurd c' h⟩, ?_⟩
      rw [if_pos c', if_pos c']
    · have c' : ¬ nI P ≤ nI i := nI_ge (by omega) (by omega)
      have hv : vp_in (nI i) 30 := vp_in_nI (by omega) (by omega)
      obtain ⟨e1, e2, e3⟩ := near hR (p := i) (by omega)
      obtain ⟨g1, g2, g3⟩ := ih (i + 1) (by omega) (by omega)
      rw [nI_1, if_neg c', if_neg c', e1, v_pf hR, v_pt hR, g3]
      refine ⟨⟨fun h => absurd h c', fun _ => ⟨hv, fun _ => g1, fun _ => ⟨hv, fun _ => g1, fun _ => ⟨e2, fun _ => g1, fun _ => trivial⟩⟩⟩⟩, ⟨fun h => absurd h c', fun _ => ⟨hv, fun _ => g2, fun _ => ⟨hv, fun _ => g2, fun _ => ⟨e3, fun _ => g2, fun _ => trivial⟩⟩⟩⟩, ?_⟩
      by_cases x : br 24 (nI i).toNatClampNeg ≤ a0
      · rw [if_pos x, if_pos x, ite_self]
      · rw [if_neg x, if_neg x]
theorem rfs {ar br : Nat → Nat → Int32} {sc bc : Nat → Int32} (hR : RL ar sc br bc) (a0 a1 a2 : Int32) : f_Permits_findClash ar sc a0 a1 a2 = f_Mo_refusal br bc a0 a1 a2 ∧ p_Permits_findClash ar sc a0 a1 a2 ∧ p_Mo_refusal br bc a0 a1 a2 := by
  obtain ⟨P, p1, p2, p3⟩ := ex_nI (v_ipm hR).1 (v_ipm hR).2
  have L := fun u => fcl hR a0 a1 a2 u p3 (by omega) 200 0 (by omega) (by omega)
  rw [nI_0] at L
  refine ⟨?_, ?_, ?_⟩
  · unfold f_Permits_findClash f_Mo_refusal f_Permits_groundArea
    rw [gu_0, z_121, z_122, z_123, ← v_g1 hR, ← v_g2 hR, ← v_g3 hR, ← v_g4 hR, v_gt hR, v_sa hR, Int64.mul_comm a2.toInt64, (L (((sc 9 - sc 7).toInt64) * ((sc 10 - sc 8).toInt64))).2.2]
  · unfold p_Permits_findClash
    exact ⟨fun _ => trivial, fun _ => ⟨fun _ => (L 0).1, fun _ => trivial⟩⟩
  · unfold p_Mo_refusal
    exact ⟨fun _ => trivial, fun _ => ⟨w_122, w_120, w_123, w_121, fun _ => (L _).2.1, fun _ => trivial⟩⟩
theorem pcp {br : Nat → Nat → Int32} {bc : Nat → Int32} (a0 a1 a2 u : Int32) {P : Nat} (hP : bc 8 = nI P) (hP1 : P < 30) : ∀ n k F, k ≤ 4 → 4 - k < n → q_Mo_permit_103 a0 a1 a2 u n (nI k) (sg br 22 F) bc ∧ ∃ F', g_Mo_permit_103 a0 a1 a2 u n (nI k) (sg br 22 F) bc = (nI 4, sg br 22 F', bc) ∧ ∀ j, F' j = if 4 * P + k ≤ j ∧ j < 4 * P + 4 then F (120 + (j - 4 * P)) else F j := by
  intro n
  induction n with
  | zero => intro k F h1 h2; omega
  | succ n ih =>
    intro k F h1 h2
    rw [q_Mo_permit_103, g_Mo_permit_103, hP]
    by_cases c : k = 4
    · have c' : (4 : Int32) ≤ nI k := show nI 4 ≤ nI k from nI_le (by omega) (by omega)
      refine ⟨⟨fun _ => trivial, fun h => absurd c' h⟩, F, ?_, ?_⟩
      · rw [if_pos c', c]
      · intro j; rw [if_neg (by omega)]
    · have c' : ¬ (4 : Int32) ≤ nI k := show ¬ nI 4 ≤ nI k from nI_ge (by omega) (by omega)
      have i1 := ix_4 (p := P) k hP1 (by omega)
      have e2 : 120 + nI k = nI (120 + k) := by rw [show (120 : Int32) = nI 120 from rfl, nI_add]
      have hc : (nI (120 + k)).toNatClampNeg = 120 + k := nI_clamp (by omega)
      have hv : vp_in (nI (120 + k)) 124 := vp_in_nI (by omega) (by omega)
      rw [nI_1, e2, hc, i1.1, s2_sg]
      obtain ⟨hq, F', e3, e4⟩ := ih (k + 1) (upd F (4 * P + k) (F (120 + k))) (by omega) (by omega)
      refine ⟨⟨fun h => absurd h c', fun _ => ⟨hv, i1.2, hq⟩⟩, F', ?_, ?_⟩
      · rw [if_neg c']; exact e3
      · intro j
        rw [e4 j]
        by_cases h3 : 4 * P + (k + 1) ≤ j ∧ j < 4 * P + 4
        · rw [if_pos h3, if_pos (by omega), un (by omega)]
        · rw [if_neg h3]
          by_cases hj : j = 4 * P + k
          · rw [hj, us, if_pos (by omega)]
            exact congrArg F (by omega)
          · rw [un hj, if_neg (by omega)]


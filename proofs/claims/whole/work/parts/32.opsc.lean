
theorem im_eq {ar br : Nat → Nat → Int32} {sc bc : Nat → Int32} (hR : RL ar sc br bc) (x : Int32) : f_Findings_isMissed ar sc x (sc 0) = f_Mo_isMissed br bc x := by
  unfold f_Findings_isMissed f_Mo_isMissed f_Findings_isOpen
  rw [v_fp hR, v_fd hR, v_dy hR]
  by_cases c : br 14 x.toNatClampNeg = 0
  · rw [if_pos c, if_pos c, if_neg i10]
  · rw [if_neg c, if_neg c, if_pos rfl]
theorem in_sub {x N : Int32} (h0 : 0 ≤ N.toInt) (h1 : N.toInt ≤ 1000) : f_Mo_in x 0 (N - 1) = 0 ↔ (x < 0 ∨ N ≤ x) := by
  rw [in_iff, sub1 h0 h1, Int32.lt_iff_toInt_lt, Int32.le_iff_toInt_le]
  constructor <;> intro h <;> omega
theorem sd_iff {x y : Int32} : f_Ir_isSide x y = 0 ↔ ¬ (-10000000 ≤ x.toInt ∧ x.toInt < y.toInt ∧ y.toInt ≤ 10000000) := by
  have e1 : (-10000000 : Int32).toInt = -10000000 := rfl
  have e2 : (10000000 : Int32).toInt = 10000000 := rfl
  unfold f_Ir_isSide
  by_cases c1 : x < -10000000
  · rw [if_pos c1]; rw [Int32.lt_iff_toInt_lt] at c1
    constructor
    · intro _; omega
    · intro _; rfl
  · rw [if_neg c1]; rw [Int32.lt_iff_toInt_lt] at c1
    by_cases c2 : y ≤ x
    · rw [if_pos c2]; rw [Int32.le_iff_toInt_le] at c2
      constructor
      · intro _; omega
      · intro _; rfl
    · rw [if_neg c2]; rw [Int32.le_iff_toInt_le] at c2
      by_cases c3 : 10000000 < y
      · rw [if_pos c3]; rw [Int32.lt_iff_toInt_lt] at c3
        constructor
        · intro _; omega
        · intro _; rfl
      · rw [if_neg c3]; rw [Int32.lt_iff_toInt_lt] at c3
        constructor
        · intro h; exact absurd h i10
        · intro h; omega
theorem ip_iff {x : Int32} : f_Mo_isPlace x = 0 ↔ (x.toInt < -10000000 ∨ 10000000 < x.toInt) := by
  unfold f_Mo_isPlace
  rw [in_iff]
  exact Iff.rfl
theorem gu_0 : ((120 : Int32)).toNatClampNeg = 120 := by decide
theorem gu_1 : ((120 : Int32) + (1 : Int32)).toNatClampNeg = 121 := by decide
theorem gu_2 : ((120 : Int32) + (2 : Int32)).toNatClampNeg = 122 := by decide
theorem gu_3 : ((120 : Int32) + (3 : Int32)).toNatClampNeg = 123 := by decide
theorem cl_0 {q x : Int32} : f_Ir_canLead q x = 0 ↔ (¬ x = -1 ∧ f_Mo_in x (q + 1) 15 = 0) := by
  unfold f_Ir_canLead
  by_cases c : x = -1
  · rw [if_pos c]; simp [c, i10]
  · rw [if_neg c, iw_eq]
    by_cases d : f_Mo_in x (q + 1) 15 = 0
    · rw [if_pos d]; simp [c, d]
    · rw [if_neg d]; simp [c, d, i10]

set_option maxHeartbeats 4000000 in
set_option maxRecDepth 100000 in
theorem eq_findingAt {ar : Nat → Nat → Int32} {sc : Nat → Int32} {br : Nat → Nat → Int32} {bc : Nat → Int32} (hR : RL ar sc br bc) (a0 : Int32) (a1 : Int32) : (p_Ir_findingAt ar sc a0 a1) ∧ (p_Mo_findingAt br bc a0 a1) ∧ f_Mo_thrown ((f_Mo_findingAt br bc a0 a1).2.1) ((f_Mo_findingAt br bc a0 a1).2.2) = kc_findingAt (f_Ir_findingAt ar sc a0 a1).1 ∧ ((f_Ir_findingAt ar sc a0 a1).1 = none → (f_Ir_findingAt ar sc a0 a1).2.1 = (f_Mo_findingAt br bc a0 a1).1) ∧ RL (f_Ir_findingAt ar sc a0 a1).2.2.1 (f_Ir_findingAt ar sc a0 a1).2.2.2 ((f_Mo_findingAt br bc a0 a1).2.1) ((f_Mo_findingAt br bc a0 a1).2.2) := by
  have e := isFd hR a0
  by_cases c1 : f_Ir_isFinding ar sc a0 = 0
  · simp [f_Ir_findingAt, p_Ir_findingAt, f_Mo_findingAt, p_Mo_findingAt, iw_eq, e, tw_100, th_0, kc_findingAt, i10, c1] <;> exact hR
  · have h1 := isFd_no c1
    have h2 := v_ifn hR
    have hv : vp_in a0 100 := vin h1.1 (by omega)
    have hpo : p_Findings_isOpen ar sc a0 := hv
    have hpm : p_Findings_isMissed ar sc a0 (sc 0) := ⟨hv, fun _ => trivial, fun _ => hv⟩
    have im := im_eq hR a0
    have ep := v_fp hR
    have eo := v_fo hR
    have ed := v_fd hR
    by_cases c2 : f_Mo_in a1 0 4 = 0
    · simp [f_Ir_findingAt, p_Ir_findingAt, f_Mo_findingAt, p_Mo_findingAt, iw_eq, e, tw_100, th_0, kc_findingAt, i10, c1, c2] <;> exact hR
    · have q1 : f_Mo_isMissed br (sg bc 0 0) a0 = f_Mo_isMissed br bc a0 := rfl
      have q2 : p_Mo_isMissed br (sg bc 0 0) a0 := ⟨hv, fun _ => hv, fun _ => trivial⟩
      by_cases d0 : a1 = 0
      · subst d0; simp [f_Ir_findingAt, p_Ir_findingAt, f_Mo_findingAt, p_Mo_findingAt, iw_eq, tw_000, th_0, kc_findingAt, e, c1, c2, hv, eo] <;> exact hR
      · by_cases d1 : a1 = 1
        · subst d1
          by_cases d5 : br 14 a0.toNatClampNeg = 0
          · have d6 : f_Findings_isOpen ar sc a0 = 1 := by unfold f_Findings_isOpen; rw [ep, if_pos d5]
            simp [f_Ir_findingAt, p_Ir_findingAt, f_Mo_findingAt, p_Mo_findingAt, iw_eq, tw_000, th_0, kc_findingAt, e, c1, c2, hv, hpo, d5, d6, i10] <;> exact hR
          · have d6 : f_Findings_isOpen ar sc a0 = 0 := by unfold f_Findings_isOpen; rw [ep, if_neg d5]
            simp [f_Ir_findingAt, p_Ir_findingAt, f_Mo_findingAt, p_Mo_findingAt, iw_eq, tw_000, th_0, kc_findingAt, e, c1, c2, hv, hpo, d5, d6, i10] <;> exact hR
        · by_cases d2 : a1 = 2
          · subst d2
            by_cases d5 : f_Mo_isMissed br bc a0 = 0
            · simp [f_Ir_findingAt, p_Ir_findingAt, f_Mo_findingAt, p_Mo_findingAt, iw_eq, tw_000, th_0, kc_findingAt, e, c1, c2, hv, hpm, im, q1, q2, d5, i10] <;> exact hR
            · simp [f_Ir_findingAt, p_Ir_findingAt, f_Mo_findingAt, p_Mo_findingAt, iw_eq, tw_000, th_0, kc_findingAt, e, c1, c2, hv, hpm, im, q1, q2, d5, i10] <;> exact hR
          · by_cases d3 : a1 = 3
            · subst d3; simp [f_Ir_findingAt, p_Ir_findingAt, f_Mo_findingAt, p_Mo_findingAt, iw_eq, tw_000, th_0, kc_findingAt, e, c1, c2, hv, ed] <;> exact hR
            · simp [f_Ir_findingAt, p_Ir_findingAt, f_Mo_findingAt, p_Mo_findingAt, iw_eq, tw_000, th_0, kc_findingAt, e, c1, c2, d0, d1, d2, d3, hv, ep] <;> exact hR

set_option maxHeartbeats 4000000 in
set_option maxRecDepth 100000 in
theorem eq_touches {ar : Nat → Nat → Int32} {sc : Nat → Int32} {br : Nat → Nat → Int32} {bc : Nat → Int32} (hR : RL ar sc br bc) (a0 : Int32) : (p_Ir_touches ar sc a0) ∧ (p_Mo_touches br bc a0) ∧ f_Mo_thrown ((f_Mo_touches br bc a0).2.1) ((f_Mo_touches br bc a0).2.2) = kc_touches (f_Ir_touches ar sc a0).1 ∧ ((f_Ir_touches ar sc a0).1 = none → (f_Ir_touches ar sc a0).2.1 = (f_Mo_touches br bc a0).1) ∧ RL (f_Ir_touches ar sc a0).2.2.1 (f_Ir_touches ar sc a0).2.2.2 ((f_Mo_touches br bc a0).2.1) ((f_Mo_touches br bc a0).2.2) := by
  have e := v_pm hR
  have h := v_ipm hR
  have hs := @in_sub a0 (bc 8) (by rw [← e]; exact h.1) (by rw [← e]; omega)
  by_cases c1 : a0 < 0
  · have c0 := hs.mpr (Or.inl c1)
    simp [f_Ir_touches, p_Ir_touches, f_Mo_touches, p_Mo_touches, c0, c1, tw_100, th_0, kc_touches, i10] <;> exact hR
  · by_cases c2 : sc 5 ≤ a0
    · have c0 := hs.mpr (Or.inr (e ▸ c2))
      simp [f_Ir_touches, p_Ir_touches, f_Mo_touches, p_Mo_touches, c0, c1, c2, tw_100, th_0, kc_touches, i10] <;> exact hR
    · have c0 : ¬ f_Mo_in a0 0 (bc 8 - 1) = 0 := by
        rw [hs, ← e]; intro h9; exact h9.elim c1 c2
      have hv : vp_in a0 30 := by
        rw [Int32.le_iff_toInt_le] at c2
        rw [Int32.lt_iff_toInt_lt, iz] at c1
        exact vin (by omega) (by omega)
      simp [f_Ir_touches, p_Ir_touches, f_Mo_touches, p_Mo_touches, c0, c1, c2, tw_000, th_0, kc_touches, i10, hv, v_pf hR, v_pt hR] <;> exact hR

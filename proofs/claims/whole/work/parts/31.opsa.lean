set_option maxHeartbeats 4000000 in
set_option maxRecDepth 100000 in
theorem eq_weight {ar : Nat → Nat → Int32} {sc : Nat → Int32} {br : Nat → Nat → Int32} {bc : Nat → Int32} (hR : RL ar sc br bc) (a0 : Int32) (a1 : Int32) : (p_Ir_weight ar sc a0 a1) ∧ (p_Mo_weight br bc a0 a1) ∧ f_Mo_thrown ((f_Mo_weight br bc a0 a1).1) ((f_Mo_weight br bc a0 a1).2) = kc_weight (f_Ir_weight ar sc a0 a1).1 ∧ True ∧ RL (f_Ir_weight ar sc a0 a1).2.2.1 (f_Ir_weight ar sc a0 a1).2.2.2 ((f_Mo_weight br bc a0 a1).1) ((f_Mo_weight br bc a0 a1).2) := by
  by_cases c1 : f_Mo_in a0 0 4 = 0
  · by_cases c2 : f_Mo_in a1 0 100 = 0 <;> simp [f_Ir_weight, p_Ir_weight, f_Mo_weight, p_Mo_weight, ik_eq, iw_eq, c1, c2, tw_110, tw_100, th_0, kc_weight, i10] <;> exact hR
  · by_cases c2 : f_Mo_in a1 0 100 = 0
    · simp [f_Ir_weight, p_Ir_weight, f_Mo_weight, p_Mo_weight, ik_eq, iw_eq, c1, c2, tw_010, th_0, kc_weight, i10]; exact hR
    · have h1 := in_no c1
      have hv : vp_in a0 5 := vin (by have := h1.1; exact this) (by have := h1.2; have e : (4 : Int32).toInt = 4 := rfl; omega)
      simp [f_Ir_weight, p_Ir_weight, f_Mo_weight, p_Mo_weight, ik_eq, iw_eq, c1, c2, tw_000, th_0, kc_weight, hv]
      exact ⟨⟨(by show upd (ar 2) _ _ = upd (br 1) _ _; rw [v_wt hR]), hR.1.2.1, hR.1.2.2.1, hR.1.2.2.2.1, hR.1.2.2.2.2.1, hR.1.2.2.2.2.2.1, hR.1.2.2.2.2.2.2.1, hR.1.2.2.2.2.2.2.2.1, hR.1.2.2.2.2.2.2.2.2.1, hR.1.2.2.2.2.2.2.2.2.2.1, hR.1.2.2.2.2.2.2.2.2.2.2.1, hR.1.2.2.2.2.2.2.2.2.2.2.2.1, hR.1.2.2.2.2.2.2.2.2.2.2.2.2.1, hR.1.2.2.2.2.2.2.2.2.2.2.2.2.2.1, hR.1.2.2.2.2.2.2.2.2.2.2.2.2.2.2.1, hR.1.2.2.2.2.2.2.2.2.2.2.2.2.2.2.2.1, hR.1.2.2.2.2.2.2.2.2.2.2.2.2.2.2.2.2.1, hR.1.2.2.2.2.2.2.2.2.2.2.2.2.2.2.2.2.2.1, hR.1.2.2.2.2.2.2.2.2.2.2.2.2.2.2.2.2.2.2.1, hR.1.2.2.2.2.2.2.2.2.2.2.2.2.2.2.2.2.2.2.2.1, hR.1.2.2.2.2.2.2.2.2.2.2.2.2.2.2.2.2.2.2.2.2⟩, ⟨hR.2.1.1, hR.2.1.2.1, hR.2.1.2.2.1, hR.2.1.2.2.2.1, hR.2.1.2.2.2.2.1, hR.2.1.2.2.2.2.2.1, hR.2.1.2.2.2.2.2.2.1, hR.2.1.2.2.2.2.2.2.2.1, hR.2.1.2.2.2.2.2.2.2.2.1, hR.2.1.2.2.2.2.2.2.2.2.2.1, hR.2.1.2.2.2.2.2.2.2.2.2.2.1, hR.2.1.2.2.2.2.2.2.2.2.2.2.2.1, hR.2.1.2.2.2.2.2.2.2.2.2.2.2.2⟩, ⟨hR.2.2.1, hR.2.2.2.1, hR.2.2.2.2.1, hR.2.2.2.2.2.1, hR.2.2.2.2.2.2.1, hR.2.2.2.2.2.2.2.1, hR.2.2.2.2.2.2.2.2.1, hR.2.2.2.2.2.2.2.2.2.1, hR.2.2.2.2.2.2.2.2.2.2.1, hR.2.2.2.2.2.2.2.2.2.2.2.1, hR.2.2.2.2.2.2.2.2.2.2.2.2.1, hR.2.2.2.2.2.2.2.2.2.2.2.2.2.1, hR.2.2.2.2.2.2.2.2.2.2.2.2.2.2⟩⟩
set_option maxHeartbeats 4000000 in
set_option maxRecDepth 100000 in
theorem eq_steps {ar : Nat → Nat → Int32} {sc : Nat → Int32} {br : Nat → Nat → Int32} {bc : Nat → Int32} (hR : RL ar sc br bc) (a0 : Int32) (a1 : Int32) (a2 : Int32) : (p_Ir_steps ar sc a0 a1 a2) ∧ (p_Mo_steps br bc a0 a1 a2) ∧ f_Mo_thrown ((f_Mo_steps br bc a0 a1 a2).1) ((f_Mo_steps br bc a0 a1 a2).2) = kc_steps (f_Ir_steps ar sc a0 a1 a2).1 ∧ True ∧ RL (f_Ir_steps ar sc a0 a1 a2).2.2.1 (f_Ir_steps ar sc a0 a1 a2).2.2.2 ((f_Mo_steps br bc a0 a1 a2).1) ((f_Mo_steps br bc a0 a1 a2).2) := by
  have e0 : vp_in 0 3 := by unfold vp_in; decide
  have e1 : vp_in 1 3 := by unfold vp_in; decide
  have e2 : vp_in 2 3 := by unfold vp_in; decide
  by_cases c1 : a0 < 0
  · simp [f_Ir_steps, p_Ir_steps, f_Mo_steps, p_Mo_steps, c1, tw_100, th_0, kc_steps, i10]; exact hR
  · by_cases c2 : a1 < a0
    · simp [f_Ir_steps, p_Ir_steps, f_Mo_steps, p_Mo_steps, c1, c2, tw_100, th_0, kc_steps, i10]; exact hR
    · by_cases c3 : a2 < a1
      · simp [f_Ir_steps, p_Ir_steps, f_Mo_steps, p_Mo_steps, c1, c2, c3, tw_100, th_0, kc_steps, i10]; exact hR
      · by_cases c4 : 100000 < a2
        · have c5 : ¬ a2 ≤ 100000 := Int32.not_le.mpr c4
          simp [f_Ir_steps, p_Ir_steps, f_Mo_steps, p_Mo_steps, c1, c2, c3, c4, c5, tw_100, th_0, kc_steps, i10]; exact hR
        · have c5 : a2 ≤ 100000 := Int32.not_lt.mp c4
          simp [f_Ir_steps, p_Ir_steps, f_Mo_steps, p_Mo_steps, c1, c2, c3, c4, c5, tw_000, th_0, kc_steps, e0, e1, e2]
          exact ⟨⟨hR.1.1, (by show upd (upd (upd (ar 3) _ _) _ _) _ _ = upd (upd (upd (br 2) _ _) _ _) _ _; rw [v_st hR]), hR.1.2.2.1, hR.1.2.2.2.1, hR.1.2.2.2.2.1, hR.1.2.2.2.2.2.1, hR.1.2.2.2.2.2.2.1, hR.1.2.2.2.2.2.2.2.1, hR.1.2.2.2.2.2.2.2.2.1, hR.1.2.2.2.2.2.2.2.2.2.1, hR.1.2.2.2.2.2.2.2.2.2.2.1, hR.1.2.2.2.2.2.2.2.2.2.2.2.1, hR.1.2.2.2.2.2.2.2.2.2.2.2.2.1, hR.1.2.2.2.2.2.2.2.2.2.2.2.2.2.1, hR.1.2.2.2.2.2.2.2.2.2.2.2.2.2.2.1, hR.1.2.2.2.2.2.2.2.2.2.2.2.2.2.2.2.1, hR.1.2.2.2.2.2.2.2.2.2.2.2.2.2.2.2.2.1, hR.1.2.2.2.2.2.2.2.2.2.2.2.2.2.2.2.2.2.1, hR.1.2.2.2.2.2.2.2.2.2.2.2.2.2.2.2.2.2.2.1, hR.1.2.2.2.2.2.2.2.2.2.2.2.2.2.2.2.2.2.2.2.1, hR.1.2.2.2.2.2.2.2.2.2.2.2.2.2.2.2.2.2.2.2.2⟩, ⟨hR.2.1.1, hR.2.1.2.1, hR.2.1.2.2.1, hR.2.1.2.2.2.1, hR.2.1.2.2.2.2.1, hR.2.1.2.2.2.2.2.1, hR.2.1.2.2.2.2.2.2.1, hR.2.1.2.2.2.2.2.2.2.1, hR.2.1.2.2.2.2.2.2.2.2.1, hR.2.1.2.2.2.2.2.2.2.2.2.1, hR.2.1.2.2.2.2.2.2.2.2.2.2.1, hR.2.1.2.2.2.2.2.2.2.2.2.2.2.1, hR.2.1.2.2.2.2.2.2.2.2.2.2.2.2⟩, ⟨hR.2.2.1, hR.2.2.2.1, hR.2.2.2.2.1, hR.2.2.2.2.2.1, hR.2.2.2.2.2.2.1, hR.2.2.2.2.2.2.2.1, hR.2.2.2.2.2.2.2.2.1, hR.2.2.2.2.2.2.2.2.2.1, hR.2.2.2.2.2.2.2.2.2.2.1, hR.2.2.2.2.2.2.2.2.2.2.2.1, hR.2.2.2.2.2.2.2.2.2.2.2.2.1, hR.2.2.2.2.2.2.2.2.2.2.2.2.2.1, hR.2.2.2.2.2.2.2.2.2.2.2.2.2.2⟩⟩
set_option maxHeartbeats 4000000 in
set_option maxRecDepth 100000 in
theorem eq_interval {ar : Nat → Nat → Int32} {sc : Nat → Int32} {br : Nat → Nat → Int32} {bc : Nat → Int32} (hR : RL ar sc br bc) (a0 : Int32) (a1 : Int32) (a2 : Int32) : (p_Ir_interval ar sc a0 a1 a2) ∧ (p_Mo_interval br bc a0 a1 a2) ∧ f_Mo_thrown ((f_Mo_interval br bc a0 a1 a2).1) ((f_Mo_interval br bc a0 a1 a2).2) = kc_interval (f_Ir_interval ar sc a0 a1 a2).1 ∧ True ∧ RL (f_Ir_interval ar sc a0 a1 a2).2.2.1 (f_Ir_interval ar sc a0 a1 a2).2.2.2 ((f_Mo_interval br bc a0 a1 a2).1) ((f_Mo_interval br bc a0 a1 a2).2) := by
  by_cases c1 : f_Mo_in a0 0 3 = 0
  · by_cases c2 : f_Mo_in a1 1 4000 = 0
    · simp [f_Ir_interval, p_Ir_interval, f_Mo_interval, p_Mo_interval, iw_eq, c1, c2, tw_110, tw_100, th_0, kc_interval, i10]; exact hR
    · by_cases c3 : f_Mo_in a2 0 1000 = 0 <;> simp [f_Ir_interval, p_Ir_interval, f_Mo_interval, p_Mo_interval, iw_eq, c1, c2, c3, tw_110, tw_100, th_0, kc_interval, i10] <;> exact hR
  · by_cases c2 : f_Mo_in a1 1 4000 = 0
    · simp [f_Ir_interval, p_Ir_interval, f_Mo_interval, p_Mo_interval, iw_eq, c1, c2, tw_010, th_0, kc_interval, i10]; exact hR
    · by_cases c3 : f_Mo_in a2 0 1000 = 0
      · simp [f_Ir_interval, p_Ir_interval, f_Mo_interval, p_Mo_interval, iw_eq, c1, c2, c3, tw_010, th_0, kc_interval, i10]; exact hR
      · have h1 := in_no c1
        have hv : vp_in a0 4 := vin h1.1 (by have := h1.2; have e : (3 : Int32).toInt = 3 := rfl; omega)
        simp [f_Ir_interval, p_Ir_interval, f_Mo_interval, p_Mo_interval, iw_eq, c1, c2, c3, tw_000, th_0, kc_interval, i10, hv]
        exact ⟨⟨hR.1.1, hR.1.2.1, (by show upd (ar 4) _ _ = upd (br 3) _ _; rw [v_iv hR]), (by show upd (ar 5) _ _ = upd (br 4) _ _; rw [v_tm hR]), hR.1.2.2.2.2.1, hR.1.2.2.2.2.2.1, hR.1.2.2.2.2.2.2.1, hR.1.2.2.2.2.2.2.2.1, hR.1.2.2.2.2.2.2.2.2.1, hR.1.2.2.2.2.2.2.2.2.2.1, hR.1.2.2.2.2.2.2.2.2.2.2.1, hR.1.2.2.2.2.2.2.2.2.2.2.2.1, hR.1.2.2.2.2.2.2.2.2.2.2.2.2.1, hR.1.2.2.2.2.2.2.2.2.2.2.2.2.2.1, hR.1.2.2.2.2.2.2.2.2.2.2.2.2.2.2.1, hR.1.2.2.2.2.2.2.2.2.2.2.2.2.2.2.2.1, hR.1.2.2.2.2.2.2.2.2.2.2.2.2.2.2.2.2.1, hR.1.2.2.2.2.2.2.2.2.2.2.2.2.2.2.2.2.2.1, hR.1.2.2.2.2.2.2.2.2.2.2.2.2.2.2.2.2.2.2.1, hR.1.2.2.2.2.2.2.2.2.2.2.2.2.2.2.2.2.2.2.2.1, hR.1.2.2.2.2.2.2.2.2.2.2.2.2.2.2.2.2.2.2.2.2⟩, ⟨hR.2.1.1, hR.2.1.2.1, hR.2.1.2.2.1, hR.2.1.2.2.2.1, hR.2.1.2.2.2.2.1, hR.2.1.2.2.2.2.2.1, hR.2.1.2.2.2.2.2.2.1, hR.2.1.2.2.2.2.2.2.2.1, hR.2.1.2.2.2.2.2.2.2.2.1, hR.2.1.2.2.2.2.2.2.2.2.2.1, hR.2.1.2.2.2.2.2.2.2.2.2.2.1, hR.2.1.2.2.2.2.2.2.2.2.2.2.2.1, hR.2.1.2.2.2.2.2.2.2.2.2.2.2.2⟩, ⟨hR.2.2.1, hR.2.2.2.1, hR.2.2.2.2.1, hR.2.2.2.2.2.1, hR.2.2.2.2.2.2.1, hR.2.2.2.2.2.2.2.1, hR.2.2.2.2.2.2.2.2.1, hR.2.2.2.2.2.2.2.2.2.1, hR.2.2.2.2.2.2.2.2.2.2.1, hR.2.2.2.2.2.2.2.2.2.2.2.1, hR.2.2.2.2.2.2.2.2.2.2.2.2.1, hR.2.2.2.2.2.2.2.2.2.2.2.2.2.1, hR.2.2.2.2.2.2.2.2.2.2.2.2.2.2⟩⟩
set_option maxHeartbeats 4000000 in
set_option maxRecDepth 100000 in
theorem eq_day {ar : Nat → Nat → Int32} {sc : Nat → Int32} {br : Nat → Nat → Int32} {bc : Nat → Int32} (hR : RL ar sc br bc) (a0 : Int32) : (True) ∧ (True) ∧ f_Mo_thrown ((f_Mo_day br bc a0).1) ((f_Mo_day br bc a0).2) = kc_day (f_Ir_day ar sc a0).1 ∧ True ∧ RL (f_Ir_day ar sc a0).2.2.1 (f_Ir_day ar sc a0).2.2.2 ((f_Mo_day br bc a0).1) ((f_Mo_day br bc a0).2) := by
  have e := v_dy hR
  by_cases c1 : a0 < bc 1
  · have c0 : f_Ir_isWithin a0 (sc 0) 99999 = 0 := by rw [e]; unfold f_Ir_isWithin; rw [if_pos c1]
    simp [f_Ir_day, f_Mo_day, c1, c0, tw_100, th_0, kc_day, i10]; exact hR
  · by_cases c2 : 99999 < a0
    · have c0 : f_Ir_isWithin a0 (sc 0) 99999 = 0 := by rw [e]; unfold f_Ir_isWithin; rw [if_neg c1, if_pos c2]
      have c5 : ¬ a0 ≤ 99999 := Int32.not_le.mpr c2
      simp [f_Ir_day, f_Mo_day, c1, c2, c5, c0, tw_100, th_0, kc_day, i10]; exact hR
    · have c0 : f_Ir_isWithin a0 (sc 0) 99999 = 1 := by rw [e]; unfold f_Ir_isWithin; rw [if_neg c1, if_neg c2]
      have c5 : a0 ≤ 99999 := Int32.not_lt.mp c2
      simp [f_Ir_day, f_Mo_day, c1, c2, c5, c0, tw_000, th_0, kc_day, i10]
      have hd := v_idy hR
      rw [Int32.lt_iff_toInt_lt, ← e] at c1
      rw [Int32.lt_iff_toInt_lt, show (99999 : Int32).toInt = 99999 from rfl] at c2
      refine ⟨rfl, ?_⟩
      exact ⟨⟨hR.1.1, hR.1.2.1, hR.1.2.2.1, hR.1.2.2.2.1, hR.1.2.2.2.2.1, hR.1.2.2.2.2.2.1, hR.1.2.2.2.2.2.2.1, hR.1.2.2.2.2.2.2.2.1, hR.1.2.2.2.2.2.2.2.2.1, hR.1.2.2.2.2.2.2.2.2.2.1, hR.1.2.2.2.2.2.2.2.2.2.2.1, hR.1.2.2.2.2.2.2.2.2.2.2.2.1, hR.1.2.2.2.2.2.2.2.2.2.2.2.2.1, hR.1.2.2.2.2.2.2.2.2.2.2.2.2.2.1, hR.1.2.2.2.2.2.2.2.2.2.2.2.2.2.2.1, hR.1.2.2.2.2.2.2.2.2.2.2.2.2.2.2.2.1, hR.1.2.2.2.2.2.2.2.2.2.2.2.2.2.2.2.2.1, hR.1.2.2.2.2.2.2.2.2.2.2.2.2.2.2.2.2.2.1, hR.1.2.2.2.2.2.2.2.2.2.2.2.2.2.2.2.2.2.2.1, hR.1.2.2.2.2.2.2.2.2.2.2.2.2.2.2.2.2.2.2.2.1, hR.1.2.2.2.2.2.2.2.2.2.2.2.2.2.2.2.2.2.2.2.2⟩, ⟨rfl, hR.2.1.2.1, hR.2.1.2.2.1, hR.2.1.2.2.2.1, hR.2.1.2.2.2.2.1, hR.2.1.2.2.2.2.2.1, hR.2.1.2.2.2.2.2.2.1, hR.2.1.2.2.2.2.2.2.2.1, hR.2.1.2.2.2.2.2.2.2.2.1, hR.2.1.2.2.2.2.2.2.2.2.2.1, hR.2.1.2.2.2.2.2.2.2.2.2.2.1, hR.2.1.2.2.2.2.2.2.2.2.2.2.2.1, hR.2.1.2.2.2.2.2.2.2.2.2.2.2.2⟩, ⟨⟨by show 0 ≤ a0.toInt; omega, by show a0.toInt ≤ 99999; omega⟩, hR.2.2.2.1, hR.2.2.2.2.1, hR.2.2.2.2.2.1, hR.2.2.2.2.2.2.1, hR.2.2.2.2.2.2.2.1, hR.2.2.2.2.2.2.2.2.1, hR.2.2.2.2.2.2.2.2.2.1, hR.2.2.2.2.2.2.2.2.2.2.1, hR.2.2.2.2.2.2.2.2.2.2.2.1, hR.2.2.2.2.2.2.2.2.2.2.2.2.1, hR.2.2.2.2.2.2.2.2.2.2.2.2.2.1, hR.2.2.2.2.2.2.2.2.2.2.2.2.2.2⟩⟩
set_option maxHeartbeats 4000000 in
set_option maxRecDepth 100000 in
theorem eq_visit {ar : Nat → Nat → Int32} {sc : Nat → Int32} {br : Nat → Nat → Int32} {bc : Nat → Int32} (hR : RL ar sc br bc) (a0 : Int32) : (p_Ir_visit ar sc a0) ∧ (p_Mo_visit br bc a0) ∧ f_Mo_thrown ((f_Mo_visit br bc a0).1) ((f_Mo_visit br bc a0).2) = kc_visit (f_Ir_visit ar sc a0).1 ∧ True ∧ RL (f_Ir_visit ar sc a0).2.2.1 (f_Ir_visit ar sc a0).2.2.2 ((f_Mo_visit br bc a0).1) ((f_Mo_visit br bc a0).2) := by
  have e := isP hR a0
  by_cases c1 : f_Ir_isPoint ar sc a0 = 0
  · simp [f_Ir_visit, p_Ir_visit, f_Mo_visit, p_Mo_visit, e, c1, tw_100, th_0, kc_visit, i10]; exact hR
  · have h1 := isP_no c1
    have h2 := v_ipn hR
    have hv : vp_in a0 30 := vin h1.1 (by omega)
    simp [f_Ir_visit, p_Ir_visit, f_Mo_visit, p_Mo_visit, e, c1, tw_000, th_0, kc_visit, i10, hv]
    exact ⟨⟨hR.1.1, hR.1.2.1, hR.1.2.2.1, hR.1.2.2.2.1, hR.1.2.2.2.2.1, hR.1.2.2.2.2.2.1, hR.1.2.2.2.2.2.2.1, hR.1.2.2.2.2.2.2.2.1, (by show upd (ar 11) _ (sc 0) = upd (br 10) _ (bc 1); rw [v_vi hR, v_dy hR]), hR.1.2.2.2.2.2.2.2.2.2.1, hR.1.2.2.2.2.2.2.2.2.2.2.1, hR.1.2.2.2.2.2.2.2.2.2.2.2.1, hR.1.2.2.2.2.2.2.2.2.2.2.2.2.1, hR.1.2.2.2.2.2.2.2.2.2.2.2.2.2.1, hR.1.2.2.2.2.2.2.2.2.2.2.2.2.2.2.1, hR.1.2.2.2.2.2.2.2.2.2.2.2.2.2.2.2.1, hR.1.2.2.2.2.2.2.2.2.2.2.2.2.2.2.2.2.1, hR.1.2.2.2.2.2.2.2.2.2.2.2.2.2.2.2.2.2.1, hR.1.2.2.2.2.2.2.2.2.2.2.2.2.2.2.2.2.2.2.1, hR.1.2.2.2.2.2.2.2.2.2.2.2.2.2.2.2.2.2.2.2.1, hR.1.2.2.2.2.2.2.2.2.2.2.2.2.2.2.2.2.2.2.2.2⟩, ⟨hR.2.1.1, hR.2.1.2.1, hR.2.1.2.2.1, hR.2.1.2.2.2.1, hR.2.1.2.2.2.2.1, hR.2.1.2.2.2.2.2.1, hR.2.1.2.2.2.2.2.2.1, hR.2.1.2.2.2.2.2.2.2.1, hR.2.1.2.2.2.2.2.2.2.2.1, hR.2.1.2.2.2.2.2.2.2.2.2.1, hR.2.1.2.2.2.2.2.2.2.2.2.2.1, hR.2.1.2.2.2.2.2.2.2.2.2.2.2.1, hR.2.1.2.2.2.2.2.2.2.2.2.2.2.2⟩, ⟨hR.2.2.1, hR.2.2.2.1, hR.2.2.2.2.1, hR.2.2.2.2.2.1, hR.2.2.2.2.2.2.1, hR.2.2.2.2.2.2.2.1, hR.2.2.2.2.2.2.2.2.1, (fun j hj => by
        show upd (ar 11) a0.toNatClampNeg (sc 0) j = -1 ∨ 0 ≤ (upd (ar 11) a0.toNatClampNeg (sc 0) j).toInt
        by_cases hja : j = a0.toNatClampNeg
        · rw [hja, us]; exact Or.inr (v_idy hR).1
        · rw [un hja]; exact v_kvi hR j hj), hR.2.2.2.2.2.2.2.2.2.2.1, hR.2.2.2.2.2.2.2.2.2.2.2.1, hR.2.2.2.2.2.2.2.2.2.2.2.2.1, hR.2.2.2.2.2.2.2.2.2.2.2.2.2.1, hR.2.2.2.2.2.2.2.2.2.2.2.2.2.2⟩⟩
set_option maxHeartbeats 4000000 in
set_option maxRecDepth 100000 in
theorem eq_done {ar : Nat → Nat → Int32} {sc : Nat → Int32} {br : Nat → Nat → Int32} {bc : Nat → Int32} (hR : RL ar sc br bc) (a0 : Int32) (a1 : Int32) : (p_Ir_done ar sc a0 a1) ∧ (p_Mo_done br bc a0 a1) ∧ f_Mo_thrown ((f_Mo_done br bc a0 a1).1) ((f_Mo_done br bc a0 a1).2) = kc_done (f_Ir_done ar sc a0 a1).1 ∧ True ∧ RL (f_Ir_done ar sc a0 a1).2.2.1 (f_Ir_done ar sc a0 a1).2.2.2 ((f_Mo_done br bc a0 a1).1) ((f_Mo_done br bc a0 a1).2) := by
  have e := isFd hR a0
  have ep := v_fp hR
  by_cases c1 : f_Ir_isFinding ar sc a0 = 0
  · by_cases c2 : f_Mo_in a1 1 9999 = 0 <;> simp [f_Ir_done, p_Ir_done, f_Mo_done, p_Mo_done, iw_eq, e, c1, c2, tw_110, tw_100, th_0, kc_done, i10] <;> exact hR
  · have h1 := isFd_no c1
    have h2 := v_ifn hR
    have hv : vp_in a0 100 := vin h1.1 (by omega)
    have hpo : p_Findings_isOpen ar sc a0 := hv
    have h3 := v_kfp hR a0.toNatClampNeg
    by_cases c3 : ar 16 a0.toNatClampNeg = 0
    · have co : f_Findings_isOpen ar sc a0 = 1 := by unfold f_Findings_isOpen; rw [if_pos c3]
      have cm : br 14 a0.toNatClampNeg ≤ 0 := by rw [← ep, c3]; decide
      by_cases c2 : f_Mo_in a1 1 9999 = 0
      · simp [f_Ir_done, p_Ir_done, f_Mo_done, p_Mo_done, iw_eq, e, c1, c2, co, cm, hv, hpo, tw_010, th_0, kc_done, i10]; exact hR
      · simp [f_Ir_done, p_Ir_done, f_Mo_done, p_Mo_done, iw_eq, e, c1, c2, co, cm, hv, hpo, tw_000, th_0, kc_done, i10]
        have h4 := in_no c2
        exact ⟨⟨hR.1.1, hR.1.2.1, hR.1.2.2.1, hR.1.2.2.2.1, hR.1.2.2.2.2.1, hR.1.2.2.2.2.2.1, hR.1.2.2.2.2.2.2.1, hR.1.2.2.2.2.2.2.2.1, hR.1.2.2.2.2.2.2.2.2.1, hR.1.2.2.2.2.2.2.2.2.2.1, hR.1.2.2.2.2.2.2.2.2.2.2.1, hR.1.2.2.2.2.2.2.2.2.2.2.2.1, (by show upd (ar 16) _ _ = upd (br 14) _ _; rw [v_fp hR]), hR.1.2.2.2.2.2.2.2.2.2.2.2.2.2.1, hR.1.2.2.2.2.2.2.2.2.2.2.2.2.2.2.1, hR.1.2.2.2.2.2.2.2.2.2.2.2.2.2.2.2.1, hR.1.2.2.2.2.2.2.2.2.2.2.2.2.2.2.2.2.1, hR.1.2.2.2.2.2.2.2.2.2.2.2.2.2.2.2.2.2.1, hR.1.2.2.2.2.2.2.2.2.2.2.2.2.2.2.2.2.2.2.1, hR.1.2.2.2.2.2.2.2.2.2.2.2.2.2.2.2.2.2.2.2.1, hR.1.2.2.2.2.2.2.2.2.2.2.2.2.2.2.2.2.2.2.2.2⟩, ⟨hR.2.1.1, hR.2.1.2.1, hR.2.1.2.2.1, hR.2.1.2.2.2.1, hR.2.1.2.2.2.2.1, hR.2.1.2.2.2.2.2.1, hR.2.1.2.2.2.2.2.2.1, hR.2.1.2.2.2.2.2.2.2.1, hR.2.1.2.2.2.2.2.2.2.2.1, hR.2.1.2.2.2.2.2.2.2.2.2.1, hR.2.1.2.2.2.2.2.2.2.2.2.2.1, hR.2.1.2.2.2.2.2.2.2.2.2.2.2.1, hR.2.1.2.2.2.2.2.2.2.2.2.2.2.2⟩, ⟨hR.2.2.1, hR.2.2.2.1, hR.2.2.2.2.1, hR.2.2.2.2.2.1, hR.2.2.2.2.2.2.1, hR.2.2.2.2.2.2.2.1, hR.2.2.2.2.2.2.2.2.1, hR.2.2.2.2.2.2.2.2.2.1, hR.2.2.2.2.2.2.2.2.2.2.1, (fun j => by
          show 0 ≤ (upd (ar 16) a0.toNatClampNeg a1 j).toInt
          by_cases hja : j = a0.toNatClampNeg
          · rw [hja, us]; have e1 : (1 : Int32).toInt = 1 := rfl; omega
          · rw [un hja]; exact v_kfp hR j), hR.2.2.2.2.2.2.2.2.2.2.2.2.1, hR.2.2.2.2.2.2.2.2.2.2.2.2.2.1, hR.2.2.2.2.2.2.2.2.2.2.2.2.2.2⟩⟩
    · have co : f_Findings_isOpen ar sc a0 = 0 := by unfold f_Findings_isOpen; rw [if_neg c3]
      have cm : ¬ br 14 a0.toNatClampNeg ≤ 0 := by
        rw [← ep, Int32.le_iff_toInt_le, show (0 : Int32).toInt = 0 from rfl]
        intro h9
        exact c3 (Int32.toInt_inj.mp (by rw [show (0 : Int32).toInt = 0 from rfl]; omega))
      by_cases c2 : f_Mo_in a1 1 9999 = 0 <;> simp [f_Ir_done, p_Ir_done, f_Mo_done, p_Mo_done, iw_eq, e, c1, c2, co, cm, hv, hpo, tw_011, tw_001, th_0, kc_done, i10] <;> exact hR

set_option maxHeartbeats 4000000 in
set_option maxRecDepth 100000 in
theorem eq_stop {ar : Nat → Nat → Int32} {sc : Nat → Int32} {br : Nat → Nat → Int32} {bc : Nat → Int32} (hR : RL ar sc br bc) (a0 : Int32) : (p_Ir_stop ar sc a0) ∧ (p_Mo_stop br bc a0) ∧ f_Mo_thrown ((f_Mo_stop br bc a0).2.1) ((f_Mo_stop br bc a0).2.2) = kc_stop (f_Ir_stop ar sc a0).1 ∧ ((f_Ir_stop ar sc a0).1 = none → (f_Ir_stop ar sc a0).2.1 = (f_Mo_stop br bc a0).1) ∧ RL (f_Ir_stop ar sc a0).2.2.1 (f_Ir_stop ar sc a0).2.2.2 ((f_Mo_stop br bc a0).2.1) ((f_Mo_stop br bc a0).2.2) := by
  have e := v_sn hR
  have h := v_isn hR
  by_cases c1 : a0 < 0
  · have c9 : ¬ 0 ≤ a0 := Int32.not_le.mpr c1
    simp [f_Ir_stop, p_Ir_stop, f_Mo_stop, p_Mo_stop, c1, c9, tw_100, th_0, kc_stop, i10]; exact hR
  · have c9 : 0 ≤ a0 := Int32.not_lt.mp c1
    have s4 : (sg bc 0 0) 4 = bc 4 := rfl
    by_cases c2 : sc 4 ≤ a0
    · have c3 : bc 4 ≤ a0 := by rw [← e]; exact c2
      simp [f_Ir_stop, p_Ir_stop, f_Mo_stop, p_Mo_stop, c1, c9, c2, c3, s4, tw_000, th_0, kc_stop, i10]; exact hR
    · have c3 : ¬ bc 4 ≤ a0 := by rw [← e]; exact c2
      have hv : vp_in a0 7 := by
        rw [Int32.le_iff_toInt_le] at c2
        rw [Int32.lt_iff_toInt_lt, show (0 : Int32).toInt = 0 from rfl] at c1
        exact vin (by omega) (by omega)
      simp [f_Ir_stop, p_Ir_stop, f_Mo_stop, p_Mo_stop, c1, c9, c2, c3, s4, tw_000, th_0, kc_stop, i10, hv, v_sp hR]; exact hR
set_option maxHeartbeats 4000000 in
set_option maxRecDepth 100000 in
theorem eq_rules {ar : Nat → Nat → Int32} {sc : Nat → Int32} {br : Nat → Nat → Int32} {bc : Nat → Int32} (hR : RL ar sc br bc) (a0 : Int32) (a1 : Int32) : (True) ∧ (True) ∧ f_Mo_thrown ((f_Mo_rules br bc a0 a1).1) ((f_Mo_rules br bc a0 a1).2) = kc_rules (f_Ir_rules ar sc a0 a1).1 ∧ True ∧ RL (f_Ir_rules ar sc a0 a1).2.2.1 (f_Ir_rules ar sc a0 a1).2.2.2 ((f_Mo_rules br bc a0 a1).1) ((f_Mo_rules br bc a0 a1).2) := by
  by_cases c1 : f_Mo_in a0 0 10000000 = 0
  · simp [f_Ir_rules, f_Mo_rules, iw_eq, c1, tw_100, th_0, kc_rules, i10]; exact hR
  · by_cases c2 : f_Mo_in a1 0 1000000 = 0
    · simp [f_Ir_rules, f_Mo_rules, iw_eq, c1, c2, tw_100, th_0, kc_rules, i10]; exact hR
    · simp [f_Ir_rules, f_Mo_rules, iw_eq, c1, c2, tw_000, th_0, kc_rules, i10]
      refine ⟨rfl, ?_⟩
      exact ⟨⟨hR.1.1, hR.1.2.1, hR.1.2.2.1, hR.1.2.2.2.1, hR.1.2.2.2.2.1, hR.1.2.2.2.2.2.1, hR.1.2.2.2.2.2.2.1, hR.1.2.2.2.2.2.2.2.1, hR.1.2.2.2.2.2.2.2.2.1, hR.1.2.2.2.2.2.2.2.2.2.1, hR.1.2.2.2.2.2.2.2.2.2.2.1, hR.1.2.2.2.2.2.2.2.2.2.2.2.1, hR.1.2.2.2.2.2.2.2.2.2.2.2.2.1, hR.1.2.2.2.2.2.2.2.2.2.2.2.2.2.1, hR.1.2.2.2.2.2.2.2.2.2.2.2.2.2.2.1, hR.1.2.2.2.2.2.2.2.2.2.2.2.2.2.2.2.1, hR.1.2.2.2.2.2.2.2.2.2.2.2.2.2.2.2.2.1, hR.1.2.2.2.2.2.2.2.2.2.2.2.2.2.2.2.2.2.1, hR.1.2.2.2.2.2.2.2.2.2.2.2.2.2.2.2.2.2.2.1, hR.1.2.2.2.2.2.2.2.2.2.2.2.2.2.2.2.2.2.2.2.1, hR.1.2.2.2.2.2.2.2.2.2.2.2.2.2.2.2.2.2.2.2.2⟩, ⟨hR.2.1.1, hR.2.1.2.1, hR.2.1.2.2.1, hR.2.1.2.2.2.1, hR.2.1.2.2.2.2.1, hR.2.1.2.2.2.2.2.1, hR.2.1.2.2.2.2.2.2.1, hR.2.1.2.2.2.2.2.2.2.1, hR.2.1.2.2.2.2.2.2.2.2.1, hR.2.1.2.2.2.2.2.2.2.2.2.1, rfl, rfl, hR.2.1.2.2.2.2.2.2.2.2.2.2.2.2⟩, ⟨hR.2.2.1, hR.2.2.2.1, hR.2.2.2.2.1, hR.2.2.2.2.2.1, hR.2.2.2.2.2.2.1, hR.2.2.2.2.2.2.2.1, hR.2.2.2.2.2.2.2.2.1, hR.2.2.2.2.2.2.2.2.2.1, hR.2.2.2.2.2.2.2.2.2.2.1, hR.2.2.2.2.2.2.2.2.2.2.2.1, hR.2.2.2.2.2.2.2.2.2.2.2.2.1, hR.2.2.2.2.2.2.2.2.2.2.2.2.2.1, hR.2.2.2.2.2.2.2.2.2.2.2.2.2.2⟩⟩
set_option maxHeartbeats 4000000 in
set_option maxRecDepth 100000 in
theorem eq_clash {ar : Nat → Nat → Int32} {sc : Nat → Int32} {br : Nat → Nat → Int32} {bc : Nat → Int32} (hR : RL ar sc br bc)  : (True) ∧ (True) ∧ True ∧ (f_Ir_clash ar sc ).2.1 = (f_Mo_clash br bc ).1 ∧ RL (f_Ir_clash ar sc ).2.2.1 (f_Ir_clash ar sc ).2.2.2 ((f_Mo_clash br bc ).2.1) ((f_Mo_clash br bc ).2.2) := by
  exact ⟨trivial, trivial, trivial, v_cl hR, hR⟩
set_option maxHeartbeats 4000000 in
set_option maxRecDepth 100000 in
theorem eq_surprise {ar : Nat → Nat → Int32} {sc : Nat → Int32} {br : Nat → Nat → Int32} {bc : Nat → Int32} (hR : RL ar sc br bc) (a0 : Int32) : (p_Ir_surprise ar sc a0) ∧ (p_Mo_surprise br bc a0) ∧ f_Mo_thrown ((f_Mo_surprise br bc a0).2.1) ((f_Mo_surprise br bc a0).2.2) = kc_surprise (f_Ir_surprise ar sc a0).1 ∧ ((f_Ir_surprise ar sc a0).1 = none → (f_Ir_surprise ar sc a0).2.1 = (f_Mo_surprise br bc a0).1) ∧ RL (f_Ir_surprise ar sc a0).2.2.1 (f_Ir_surprise ar sc a0).2.2.2 ((f_Mo_surprise br bc a0).2.1) ((f_Mo_surprise br bc a0).2.2) := by
  have e := v_pn hR
  have h := v_ipn hR
  by_cases c1 : bc 2 = 0
  · have c2 : sc 1 ≤ 0 := by rw [e, c1]; decide
    simp [f_Ir_surprise, p_Ir_surprise, f_Mo_surprise, p_Mo_surprise, c1, c2, tw_100, th_0, kc_surprise, i10]; exact hR
  · have c2 : ¬ sc 1 ≤ 0 := by
      rw [Int32.le_iff_toInt_le, show (0 : Int32).toInt = 0 from rfl]
      intro h9
      exact c1 (Int32.toInt_inj.mp (by rw [← e, show (0 : Int32).toInt = 0 from rfl]; omega))
    have c3 : ¬ sc 1 = 0 := by rw [e]; exact c1
    have s2 : (sg bc 0 0) 2 = bc 2 := rfl
    simp only [f_Ir_surprise, p_Ir_surprise, f_Mo_surprise, p_Mo_surprise, if_neg c1, if_neg c2, tw_000, th_0, kc_surprise, s2]
    refine ⟨⟨fun h => absurd h c2, fun _ => c3⟩, ⟨fun h => absurd h c1, fun _ => ⟨fun _ => c1, fun h => absurd trivial h⟩⟩, by simp [th_0], fun _ => ?_, hR⟩
    simp [e]

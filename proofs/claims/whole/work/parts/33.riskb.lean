set_option maxHeartbeats 4000000 in
set_option maxRecDepth 100000 in
theorem eq_finding {ar : Nat → Nat → Int32} {sc : Nat → Int32} {br : Nat → Nat → Int32} {bc : Nat → Int32} (hR : RL ar sc br bc) (a0 : Int32) (a1 : Int32) (a2 : Int32) : (p_Ir_finding ar sc a0 a1 a2) ∧ (p_Mo_finding br bc a0 a1 a2) ∧ f_Mo_thrown ((f_Mo_finding br bc a0 a1 a2).2.1) ((f_Mo_finding br bc a0 a1 a2).2.2) = kc_finding (f_Ir_finding ar sc a0 a1 a2).1 ∧ ((f_Ir_finding ar sc a0 a1 a2).1 = none → (f_Ir_finding ar sc a0 a1 a2).2.1 = (f_Mo_finding br bc a0 a1 a2).1) ∧ RL (f_Ir_finding ar sc a0 a1 a2).2.2.1 (f_Ir_finding ar sc a0 a1 a2).2.2.2 ((f_Mo_finding br bc a0 a1 a2).2.1) ((f_Mo_finding br bc a0 a1 a2).2.2) := by
  have e := isP hR a0
  by_cases c6 : bc 3 = 100
  · have c7 : 100 ≤ sc 2 := by rw [v_fn hR, c6]; decide
    by_cases c1 : f_Ir_isPoint ar sc a0 = 0
    · by_cases c2 : f_Mo_in a1 1 50 = 0
      · simp [f_Ir_finding, p_Ir_finding, f_Mo_finding, p_Mo_finding, iw_eq, e, tw_111, tw_110, tw_101, tw_100, tw_011, tw_010, tw_001, th_0, kc_finding, i10, c7, c6, c1, c2] <;> exact hR
      · by_cases m3 : f_Mo_in a2 (-1) 1000 = 0
        · simp [f_Ir_finding, p_Ir_finding, f_Mo_finding, p_Mo_finding, iw_eq, e, tw_111, tw_110, tw_101, tw_100, tw_011, tw_010, tw_001, th_0, kc_finding, i10, c7, c6, c1, c2, m3] <;> exact hR
        · simp [f_Ir_finding, p_Ir_finding, f_Mo_finding, p_Mo_finding, iw_eq, e, tw_111, tw_110, tw_101, tw_100, tw_011, tw_010, tw_001, th_0, kc_finding, i10, c7, c6, c1, c2, m3] <;> exact hR
    · by_cases c2 : f_Mo_in a1 1 50 = 0
      · simp [f_Ir_finding, p_Ir_finding, f_Mo_finding, p_Mo_finding, iw_eq, e, tw_111, tw_110, tw_101, tw_100, tw_011, tw_010, tw_001, th_0, kc_finding, i10, c7, c6, c1, c2] <;> exact hR
      · by_cases c3 : a2 = -1
        · have m3 := (mi_1 c3).1
          have c9 := (mi_1 c3).2
          simp [f_Ir_finding, p_Ir_finding, f_Mo_finding, p_Mo_finding, iw_eq, e, tw_111, tw_110, tw_101, tw_100, tw_011, tw_010, tw_001, th_0, kc_finding, i10, c7, c6, c1, c2, eq_true c3, m3, c9] <;> exact hR
        · by_cases c4 : f_Mo_in a2 0 1000 = 0
          · have m3 := (mi_2 c3).mpr c4
            simp [f_Ir_finding, p_Ir_finding, f_Mo_finding, p_Mo_finding, iw_eq, e, tw_111, tw_110, tw_101, tw_100, tw_011, tw_010, tw_001, th_0, kc_finding, i10, c7, c6, c1, c2, c3, c4, m3] <;> exact hR
          · have m3 : ¬ f_Mo_in a2 (-1) 1000 = 0 := fun h => c4 ((mi_2 c3).mp h)
            have c9 := mi_3 c4
            simp [f_Ir_finding, p_Ir_finding, f_Mo_finding, p_Mo_finding, iw_eq, e, tw_111, tw_110, tw_101, tw_100, tw_011, tw_010, tw_001, th_0, kc_finding, i10, c7, c6, c1, c2, c3, c4, m3, c9] <;> exact hR
  · have c7 : ¬ 100 ≤ sc 2 := by
      rw [Int32.le_iff_toInt_le, show (100 : Int32).toInt = 100 from rfl]
      intro h9
      exact c6 (Int32.toInt_inj.mp (by rw [← v_fn hR, show (100 : Int32).toInt = 100 from rfl]; have := (v_ifn hR).2; omega))
    by_cases c1 : f_Ir_isPoint ar sc a0 = 0
    · by_cases c2 : f_Mo_in a1 1 50 = 0
      · simp [f_Ir_finding, p_Ir_finding, f_Mo_finding, p_Mo_finding, iw_eq, e, tw_111, tw_110, tw_101, tw_100, tw_011, tw_010, tw_001, th_0, kc_finding, i10, c7, c6, c1, c2] <;> exact hR
      · by_cases m3 : f_Mo_in a2 (-1) 1000 = 0
        · simp [f_Ir_finding, p_Ir_finding, f_Mo_finding, p_Mo_finding, iw_eq, e, tw_111, tw_110, tw_101, tw_100, tw_011, tw_010, tw_001, th_0, kc_finding, i10, c7, c6, c1, c2, m3] <;> exact hR
        · simp [f_Ir_finding, p_Ir_finding, f_Mo_finding, p_Mo_finding, iw_eq, e, tw_111, tw_110, tw_101, tw_100, tw_011, tw_010, tw_001, th_0, kc_finding, i10, c7, c6, c1, c2, m3] <;> exact hR
    · by_cases c2 : f_Mo_in a1 1 50 = 0
      · simp [f_Ir_finding, p_Ir_finding, f_Mo_finding, p_Mo_finding, iw_eq, e, tw_111, tw_110, tw_101, tw_100, tw_011, tw_010, tw_001, th_0, kc_finding, i10, c7, c6, c1, c2] <;> exact hR
      · by_cases c3 : a2 = -1
        · have m3 := (mi_1 c3).1
          have c9 := (mi_1 c3).2
          have h1 := isP_no c1
          obtain ⟨p, p1, p2, rfl⟩ := ex_nI h1.1 (Int.le_of_lt h1.2)
          have hp : (p : Int) < (sc 1).toInt := by rw [nI_toInt p1] at h1; exact h1.2
          have hR0 : RL ar sc br (sg bc 0 0) := hR
          obtain ⟨k1, ⟨F, k2⟩, k3, k4⟩ := cls hR0 hp
          have hf : (sc 2).toInt < 100 := by rw [Int32.le_iff_toInt_le, show (100 : Int32).toInt = 100 from rfl] at c7; omega
          have hv : vp_in (sc 2) 100 := vin (v_ifn hR).1 (by omega)
          have hw : vp_in (bc 3) 100 := v_fn hR ▸ hv
          have hw' : vp_in ((sg bc 0 0) 3) 100 := hw
          have hR1 : RL (sg ar 37 F) sc br (sg bc 0 0) := hR
          have el : sc 0 + ar 5 (f_Mo_classOf br (sg bc 0 0) (nI p)).toNatClampNeg = bc 1 + br 4 (f_Mo_classOf br (sg bc 0 0) (nI p)).toNatClampNeg := by rw [v_dy hR, v_tm hR]
          have eI : f_Ir_finding ar sc (nI p) a1 a2 = (none, f_Findings_add (sg ar 37 F) sc (nI p) a1 (sc 0 + ar 5 (f_Mo_classOf br (sg bc 0 0) (nI p)).toNatClampNeg)) := by
            unfold f_Ir_finding
            rw [if_neg c1, iw_eq a1 1 50, if_neg c2, if_pos c3, if_neg c7, if_pos c3, k2] <;> rfl
          have eM : f_Mo_finding br bc (nI p) a1 a2 = (bc 3 + 1 - 1, f_Mo_add br (sg bc 0 0) (nI p) a1 (bc 1 + br 4 (f_Mo_classOf br (sg bc 0 0) (nI p)).toNatClampNeg)) := by
            unfold f_Mo_finding
            rw [e, if_neg c1, if_neg c2, if_neg m3, if_neg c6, tw_000, if_neg c9] <;> rfl
          have pa : ∀ l, p_Findings_add (sg ar 37 F) sc (nI p) a1 l := fun _ => ⟨hv, hv, hv, hv⟩
          have pb : ∀ l, p_Mo_add br (sg bc 0 0) (nI p) a1 l := fun _ => ⟨hw', hw', hw', hw'⟩
          refine ⟨?_, ?_, ?_, ?_, ?_⟩
          · simp [p_Ir_finding, iw_eq, c1, c2, c7, k1, k2, k4, pa, eq_true c3]
          · simp [p_Mo_finding, e, c1, c2, m3, c6, c9, tw_000, k3, k4, pb]
          · rw [eI, eM]; rfl
          · rw [eI, eM]; intro _; show sc 2 = bc 3 + 1 - 1; rw [v_fn hR, Int32.add_sub_cancel]
          · rw [eI, eM, el]
            exact rl_add hR1 a1 _ h1 hf
        · by_cases c4 : f_Mo_in a2 0 1000 = 0
          · have m3 := (mi_2 c3).mpr c4
            simp [f_Ir_finding, p_Ir_finding, f_Mo_finding, p_Mo_finding, iw_eq, e, tw_111, tw_110, tw_101, tw_100, tw_011, tw_010, tw_001, th_0, kc_finding, i10, c7, c6, c1, c2, c3, c4, m3] <;> exact hR
          · have m3 : ¬ f_Mo_in a2 (-1) 1000 = 0 := fun h => c4 ((mi_2 c3).mp h)
            have c9 := mi_3 c4
            have h1 := isP_no c1
            obtain ⟨p, p1, p2, rfl⟩ := ex_nI h1.1 (Int.le_of_lt h1.2)
            have hp : (p : Int) < (sc 1).toInt := by rw [nI_toInt p1] at h1; exact h1.2
            have hR0 : RL ar sc br (sg bc 0 0) := hR
            obtain ⟨k1, ⟨F, k2⟩, k3, k4⟩ := cls hR0 hp
            have hf : (sc 2).toInt < 100 := by rw [Int32.le_iff_toInt_le, show (100 : Int32).toInt = 100 from rfl] at c7; omega
            have hv : vp_in (sc 2) 100 := vin (v_ifn hR).1 (by omega)
            have hw : vp_in (bc 3) 100 := v_fn hR ▸ hv
            have hw' : vp_in ((sg bc 0 0) 3) 100 := hw
            have hR1 : RL ar sc br (sg bc 0 0) := hR
            have el : sc 0 + a2 = bc 1 + a2 := by rw [v_dy hR]
            have eI : f_Ir_finding ar sc (nI p) a1 a2 = (none, f_Findings_add ar sc (nI p) a1 (sc 0 + a2)) := by
              unfold f_Ir_finding
              rw [if_neg c1, iw_eq a1 1 50, if_neg c2, if_neg c3, iw_eq a2 0 1000, if_neg c4, if_neg c7, if_neg c3] <;> rfl
            have eM : f_Mo_finding br bc (nI p) a1 a2 = (bc 3 + 1 - 1, f_Mo_add br (sg bc 0 0) (nI p) a1 (bc 1 + a2)) := by
              unfold f_Mo_finding
              rw [e, if_neg c1, if_neg c2, if_neg m3, if_neg c6, tw_000, if_pos c9] <;> rfl
            have pa : ∀ l, p_Findings_add ar sc (nI p) a1 l := fun _ => ⟨hv, hv, hv, hv⟩
            have pb : ∀ l, p_Mo_add br (sg bc 0 0) (nI p) a1 l := fun _ => ⟨hw', hw', hw', hw'⟩
            refine ⟨?_, ?_, ?_, ?_, ?_⟩
            · simp [p_Ir_finding, iw_eq, c1, c2, c7, k1, k2, k4, pa, c3, c4]
            · simp [p_Mo_finding, e, c1, c2, m3, c6, c9, tw_000, k3, k4, pb]
            · rw [eI, eM]; rfl
            · rw [eI, eM]; intro _; show sc 2 = bc 3 + 1 - 1; rw [v_fn hR, Int32.add_sub_cancel]
            · rw [eI, eM, el]
              exact rl_add hR1 a1 _ h1 hf


set_option maxHeartbeats 4000000 in
set_option maxRecDepth 100000 in
theorem eq_point {ar : Nat → Nat → Int32} {sc : Nat → Int32} {br : Nat → Nat → Int32} {bc : Nat → Int32} (hR : RL ar sc br bc) (a0 : Int32) (a1 : Int32) (a2 : Int32) (a3 : Int32) (a4 : Int32) : (p_Ir_point ar sc a0 a1 a2 a3 a4) ∧ (p_Mo_point br bc a0 a1 a2 a3 a4) ∧ f_Mo_thrown ((f_Mo_point br bc a0 a1 a2 a3 a4).2.1) ((f_Mo_point br bc a0 a1 a2 a3 a4).2.2) = kc_point (f_Ir_point ar sc a0 a1 a2 a3 a4).1 ∧ ((f_Ir_point ar sc a0 a1 a2 a3 a4).1 = none → (f_Ir_point ar sc a0 a1 a2 a3 a4).2.1 = (f_Mo_point br bc a0 a1 a2 a3 a4).1) ∧ RL (f_Ir_point ar sc a0 a1 a2 a3 a4).2.2.1 (f_Ir_point ar sc a0 a1 a2 a3 a4).2.2.2 ((f_Mo_point br bc a0 a1 a2 a3 a4).2.1) ((f_Mo_point br bc a0 a1 a2 a3 a4).2.2) := by
  have e := v_pn hR
  have h := v_ipn hR
  by_cases c6 : bc 2 = 30
  · have c7 : 30 ≤ sc 1 := by rw [e, c6]; decide
    by_cases c0 : f_Mo_in a0 0 4 = 0
    · by_cases c1 : f_Mo_in a1 0 3000 = 0
      · simp [f_Ir_point, p_Ir_point, f_Mo_point, p_Mo_point, ik_eq, iw_eq, tw_111, tw_110, tw_101, tw_100, tw_011, tw_010, tw_001, tw_000, c7, c6, c0, c1, th_0, kc_point, i10] <;> exact hR
      · by_cases c2 : f_Mo_in a2 0 100000 = 0
        · simp [f_Ir_point, p_Ir_point, f_Mo_point, p_Mo_point, ik_eq, iw_eq, tw_111, tw_110, tw_101, tw_100, tw_011, tw_010, tw_001, tw_000, c7, c6, c0, c1, c2, th_0, kc_point, i10] <;> exact hR
        · by_cases c3 : f_Mo_in a3 (-10000) 10000 = 0
          · simp [f_Ir_point, p_Ir_point, f_Mo_point, p_Mo_point, ik_eq, iw_eq, tw_111, tw_110, tw_101, tw_100, tw_011, tw_010, tw_001, tw_000, c7, c6, c0, c1, c2, c3, th_0, kc_point, i10] <;> exact hR
          · by_cases c4 : f_Mo_in a4 (-10000) 10000 = 0
            · simp [f_Ir_point, p_Ir_point, f_Mo_point, p_Mo_point, ik_eq, iw_eq, tw_111, tw_110, tw_101, tw_100, tw_011, tw_010, tw_001, tw_000, c7, c6, c0, c1, c2, c3, c4, th_0, kc_point, i10] <;> exact hR
            · simp [f_Ir_point, p_Ir_point, f_Mo_point, p_Mo_point, ik_eq, iw_eq, tw_111, tw_110, tw_101, tw_100, tw_011, tw_010, tw_001, tw_000, c7, c6, c0, c1, c2, c3, c4, th_0, kc_point, i10] <;> exact hR
    · by_cases c1 : f_Mo_in a1 0 3000 = 0
      · simp [f_Ir_point, p_Ir_point, f_Mo_point, p_Mo_point, ik_eq, iw_eq, tw_111, tw_110, tw_101, tw_100, tw_011, tw_010, tw_001, tw_000, c7, c6, c0, c1, th_0, kc_point, i10] <;> exact hR
      · by_cases c2 : f_Mo_in a2 0 100000 = 0
        · simp [f_Ir_point, p_Ir_point, f_Mo_point, p_Mo_point, ik_eq, iw_eq, tw_111, tw_110, tw_101, tw_100, tw_011, tw_010, tw_001, tw_000, c7, c6, c0, c1, c2, th_0, kc_point, i10] <;> exact hR
        · by_cases c3 : f_Mo_in a3 (-10000) 10000 = 0
          · simp [f_Ir_point, p_Ir_point, f_Mo_point, p_Mo_point, ik_eq, iw_eq, tw_111, tw_110, tw_101, tw_100, tw_011, tw_010, tw_001, tw_000, c7, c6, c0, c1, c2, c3, th_0, kc_point, i10] <;> exact hR
          · by_cases c4 : f_Mo_in a4 (-10000) 10000 = 0
            · simp [f_Ir_point, p_Ir_point, f_Mo_point, p_Mo_point, ik_eq, iw_eq, tw_111, tw_110, tw_101, tw_100, tw_011, tw_010, tw_001, tw_000, c7, c6, c0, c1, c2, c3, c4, th_0, kc_point, i10] <;> exact hR
            · simp [f_Ir_point, p_Ir_point, f_Mo_point, p_Mo_point, ik_eq, iw_eq, tw_111, tw_110, tw_101, tw_100, tw_011, tw_010, tw_001, tw_000, c7, c6, c0, c1, c2, c3, c4, th_0, kc_point, i10] <;> exact hR
  · have c7 : ¬ 30 ≤ sc 1 := by
      rw [Int32.le_iff_toInt_le, show (30 : Int32).toInt = 30 from rfl]
      intro h9
      exact c6 (Int32.toInt_inj.mp (by rw [← e, show (30 : Int32).toInt = 30 from rfl]; omega))
    by_cases c0 : f_Mo_in a0 0 4 = 0
    · by_cases c1 : f_Mo_in a1 0 3000 = 0
      · simp [f_Ir_point, p_Ir_point, f_Mo_point, p_Mo_point, ik_eq, iw_eq, tw_111, tw_110, tw_101, tw_100, tw_011, tw_010, tw_001, tw_000, c7, c6, c0, c1, th_0, kc_point, i10] <;> exact hR
      · by_cases c2 : f_Mo_in a2 0 100000 = 0
        · simp [f_Ir_point, p_Ir_point, f_Mo_point, p_Mo_point, ik_eq, iw_eq, tw_111, tw_110, tw_101, tw_100, tw_011, tw_010, tw_001, tw_000, c7, c6, c0, c1, c2, th_0, kc_point, i10] <;> exact hR
        · by_cases c3 : f_Mo_in a3 (-10000) 10000 = 0
          · simp [f_Ir_point, p_Ir_point, f_Mo_point, p_Mo_point, ik_eq, iw_eq, tw_111, tw_110, tw_101, tw_100, tw_011, tw_010, tw_001, tw_000, c7, c6, c0, c1, c2, c3, th_0, kc_point, i10] <;> exact hR
          · by_cases c4 : f_Mo_in a4 (-10000) 10000 = 0
            · simp [f_Ir_point, p_Ir_point, f_Mo_point, p_Mo_point, ik_eq, iw_eq, tw_111, tw_110, tw_101, tw_100, tw_011, tw_010, tw_001, tw_000, c7, c6, c0, c1, c2, c3, c4, th_0, kc_point, i10] <;> exact hR
            · simp [f_Ir_point, p_Ir_point, f_Mo_point, p_Mo_point, ik_eq, iw_eq, tw_111, tw_110, tw_101, tw_100, tw_011, tw_010, tw_001, tw_000, c7, c6, c0, c1, c2, c3, c4, th_0, kc_point, i10] <;> exact hR
    · by_cases c1 : f_Mo_in a1 0 3000 = 0
      · simp [f_Ir_point, p_Ir_point, f_Mo_point, p_Mo_point, ik_eq, iw_eq, tw_111, tw_110, tw_101, tw_100, tw_011, tw_010, tw_001, tw_000, c7, c6, c0, c1, th_0, kc_point, i10] <;> exact hR
      · by_cases c2 : f_Mo_in a2 0 100000 = 0
        · simp [f_Ir_point, p_Ir_point, f_Mo_point, p_Mo_point, ik_eq, iw_eq, tw_111, tw_110, tw_101, tw_100, tw_011, tw_010, tw_001, tw_000, c7, c6, c0, c1, c2, th_0, kc_point, i10] <;> exact hR
        · by_cases c3 : f_Mo_in a3 (-10000) 10000 = 0
          · simp [f_Ir_point, p_Ir_point, f_Mo_point, p_Mo_point, ik_eq, iw_eq, tw_111, tw_110, tw_101, tw_100, tw_011, tw_010, tw_001, tw_000, c7, c6, c0, c1, c2, c3, th_0, kc_point, i10] <;> exact hR
          · by_cases c4 : f_Mo_in a4 (-10000) 10000 = 0
            · simp [f_Ir_point, p_Ir_point, f_Mo_point, p_Mo_point, ik_eq, iw_eq, tw_111, tw_110, tw_101, tw_100, tw_011, tw_010, tw_001, tw_000, c7, c6, c0, c1, c2, c3, c4, th_0, kc_point, i10] <;> exact hR
            · have h2 : (sc 1).toInt < 30 := by rw [Int32.le_iff_toInt_le, show (30 : Int32).toInt = 30 from rfl] at c7; omega
              have hv : vp_in (sc 1) 30 := vin h.1 (by omega)
              have hw : vp_in (bc 2) 30 := e ▸ hv
              have a1' := add1 h.1 (by omega)
              have n0 := in_no c0
              have n3 := in_no c3
              have n4 := in_no c4
              rw [show (-10000 : Int32).toInt = -10000 from rfl, show (10000 : Int32).toInt = 10000 from rfl] at n3 n4
              rw [show (0 : Int32).toInt = 0 from rfl, show (4 : Int32).toInt = 4 from rfl] at n0
              have hk := clN h.1
              have eI : f_Ir_point ar sc a0 a1 a2 a3 a4 = (none, f_Points_add ar sc a0 (a1 / 30 + a2 / 100) a3 a4) := by simp [f_Ir_point, ik_eq, iw_eq, c0, c1, c2, c3, c4, c7] <;> rfl
              have eM : f_Mo_point br bc a0 a1 a2 a3 a4 = (bc 2 + 1 - 1, s2 (s2 (s2 (s2 (s2 (s2 br 5 (bc 2).toNatClampNeg a0) 6 (bc 2).toNatClampNeg a1) 7 (bc 2).toNatClampNeg a2) 8 (bc 2).toNatClampNeg a3) 9 (bc 2).toNatClampNeg a4) 10 (bc 2).toNatClampNeg (-1), sg (sg bc 0 0) 2 (bc 2 + 1)) := by
                unfold f_Mo_point
                rw [if_neg c1, if_neg c2, if_neg c3, if_neg c4, if_neg c0, if_neg c6, tw_000]
                rfl
              refine ⟨?_, ?_, ?_, ?_, ?_⟩
              · simp [p_Ir_point, p_Points_add, ik_eq, iw_eq, c0, c1, c2, c3, c4, c7, hv]
              · have s2' : (sg bc 0 0) 2 = bc 2 := rfl
                simp [p_Mo_point, c0, c1, c2, c3, c4, c6, tw_000, s2', hw]
              · rw [eI, eM]; rfl
              · rw [eI, eM]; intro _; show sc 1 = bc 2 + 1 - 1; rw [e, Int32.add_sub_cancel]
              · rw [eI, eM]
                exact ⟨⟨hR.1.1, hR.1.2.1, hR.1.2.2.1, hR.1.2.2.2.1, (by show upd (ar 7) _ _ = upd (br 5) _ _; rw [v_kd hR, e]), (fun j => by
                    show upd (ar 8) (sc 1).toNatClampNeg (a1 / 30 + a2 / 100) j = upd (br 6) (bc 2).toNatClampNeg a1 j / 30 + upd (br 7) (bc 2).toNatClampNeg a2 j / 100
                    rw [e]
                    by_cases hj : j = (bc 2).toNatClampNeg
                    · rw [hj, us, us, us]
                    · rw [un hj, un hj, un hj]; exact v_ow hR j), (by show upd (ar 9) _ _ = upd (br 8) _ _; rw [v_px hR, e]), (by show upd (ar 10) _ _ = upd (br 9) _ _; rw [v_py hR, e]), (by show upd (ar 11) _ _ = upd (br 10) _ _; rw [v_vi hR, e]), hR.1.2.2.2.2.2.2.2.2.2.1, hR.1.2.2.2.2.2.2.2.2.2.2.1, hR.1.2.2.2.2.2.2.2.2.2.2.2.1, hR.1.2.2.2.2.2.2.2.2.2.2.2.2.1, hR.1.2.2.2.2.2.2.2.2.2.2.2.2.2.1, hR.1.2.2.2.2.2.2.2.2.2.2.2.2.2.2.1, hR.1.2.2.2.2.2.2.2.2.2.2.2.2.2.2.2.1, hR.1.2.2.2.2.2.2.2.2.2.2.2.2.2.2.2.2.1, hR.1.2.2.2.2.2.2.2.2.2.2.2.2.2.2.2.2.2.1, hR.1.2.2.2.2.2.2.2.2.2.2.2.2.2.2.2.2.2.2.1, hR.1.2.2.2.2.2.2.2.2.2.2.2.2.2.2.2.2.2.2.2.1, hR.1.2.2.2.2.2.2.2.2.2.2.2.2.2.2.2.2.2.2.2.2⟩, ⟨hR.2.1.1, (by show sc 1 + 1 = bc 2 + 1; rw [e]), hR.2.1.2.2.1, hR.2.1.2.2.2.1, hR.2.1.2.2.2.2.1, hR.2.1.2.2.2.2.2.1, hR.2.1.2.2.2.2.2.2.1, hR.2.1.2.2.2.2.2.2.2.1, hR.2.1.2.2.2.2.2.2.2.2.1, hR.2.1.2.2.2.2.2.2.2.2.2.1, hR.2.1.2.2.2.2.2.2.2.2.2.2.1, hR.2.1.2.2.2.2.2.2.2.2.2.2.2.1, hR.2.1.2.2.2.2.2.2.2.2.2.2.2.2⟩, ⟨hR.2.2.1, (by show 0 ≤ (sc 1 + 1).toInt ∧ (sc 1 + 1).toInt ≤ 30; rw [a1']; omega), hR.2.2.2.2.1, hR.2.2.2.2.2.1, hR.2.2.2.2.2.2.1, (fun j hj => by
                    have hj' : (j : Int) < (sc 1 + 1).toInt := hj
                    show 0 ≤ (upd (ar 7) (sc 1).toNatClampNeg a0 j).toInt ∧ (upd (ar 7) (sc 1).toNatClampNeg a0 j).toInt < 5
                    by_cases hq : j = (sc 1).toNatClampNeg
                    · rw [hq, us]; omega
                    · rw [un hq]; exact v_kkd hR j (by omega)), (fun j hj => by
                    have hj' : (j : Int) < (sc 1 + 1).toInt := hj
                    show (-10000 ≤ (upd (ar 9) (sc 1).toNatClampNeg a3 j).toInt ∧ (upd (ar 9) (sc 1).toNatClampNeg a3 j).toInt ≤ 10000) ∧ -10000 ≤ (upd (ar 10) (sc 1).toNatClampNeg a4 j).toInt ∧ (upd (ar 10) (sc 1).toNatClampNeg a4 j).toInt ≤ 10000
                    by_cases hq : j = (sc 1).toNatClampNeg
                    · rw [hq, us, us]; omega
                    · rw [un hq, un hq]; exact v_kxy hR j (by omega)), (fun j hj => by
                    have hj' : (j : Int) < (sc 1 + 1).toInt := hj
                    show upd (ar 11) (sc 1).toNatClampNeg (-1) j = -1 ∨ 0 ≤ (upd (ar 11) (sc 1).toNatClampNeg (-1) j).toInt
                    by_cases hq : j = (sc 1).toNatClampNeg
                    · rw [hq, us]; exact Or.inl rfl
                    · rw [un hq]; exact v_kvi hR j (by omega)), (fun j hj => by
                    have h9 := v_kfo hR j hj
                    show 0 ≤ (ar 13 j).toInt ∧ (ar 13 j).toInt < (sc 1 + 1).toInt
                    omega), hR.2.2.2.2.2.2.2.2.2.2.2.1, hR.2.2.2.2.2.2.2.2.2.2.2.2.1, hR.2.2.2.2.2.2.2.2.2.2.2.2.2.1, hR.2.2.2.2.2.2.2.2.2.2.2.2.2.2⟩⟩


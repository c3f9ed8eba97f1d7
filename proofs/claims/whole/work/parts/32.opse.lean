set_option maxHeartbeats 4000000 in
set_option maxRecDepth 100000 in
theorem eq_ground {ar : Nat → Nat → Int32} {sc : Nat → Int32} {br : Nat → Nat → Int32} {bc : Nat → Int32} (hR : RL ar sc br bc) (a0 : Int32) (a1 : Int32) (a2 : Int32) (a3 : Int32) : (True) ∧ (p_Mo_ground br bc a0 a1 a2 a3) ∧ f_Mo_thrown ((f_Mo_ground br bc a0 a1 a2 a3).1) ((f_Mo_ground br bc a0 a1 a2 a3).2) = kc_ground (f_Ir_ground ar sc a0 a1 a2 a3).1 ∧ True ∧ RL (f_Ir_ground ar sc a0 a1 a2 a3).2.2.1 (f_Ir_ground ar sc a0 a1 a2 a3).2.2.2 ((f_Mo_ground br bc a0 a1 a2 a3).1) ((f_Mo_ground br bc a0 a1 a2 a3).2) := by
  by_cases d1 : f_Mo_isPlace a0 = 0
  · have cF : f_Ir_isSide a0 a2 = 0 ∨ f_Ir_isSide a1 a3 = 0 := by
      rw [sd_iff, sd_iff]
      rw [ip_iff] at d1
      omega
    have eI : f_Ir_ground ar sc a0 a1 a2 a3 = (some "java/lang/IndexOutOfBoundsException", 0, ar, sc) := by
      unfold f_Ir_ground
      by_cases g0 : f_Ir_isSide a0 a2 = 0
      · rw [if_pos g0]
      · rw [if_neg g0, if_pos (cF.resolve_left g0)]
    rw [eI]
    simp [f_Mo_ground, p_Mo_ground, d1, tw_100, th_0, kc_ground, i10] <;> exact hR
  · by_cases d2 : f_Mo_isPlace a1 = 0
    · have cF : f_Ir_isSide a0 a2 = 0 ∨ f_Ir_isSide a1 a3 = 0 := by
        rw [sd_iff, sd_iff]
        rw [ip_iff] at d1
        rw [ip_iff] at d2
        omega
      have eI : f_Ir_ground ar sc a0 a1 a2 a3 = (some "java/lang/IndexOutOfBoundsException", 0, ar, sc) := by
        unfold f_Ir_ground
        by_cases g0 : f_Ir_isSide a0 a2 = 0
        · rw [if_pos g0]
        · rw [if_neg g0, if_pos (cF.resolve_left g0)]
      rw [eI]
      simp [f_Mo_ground, p_Mo_ground, d1, d2, tw_100, th_0, kc_ground, i10] <;> exact hR
    · by_cases d3 : f_Mo_isPlace a2 = 0
      · have cF : f_Ir_isSide a0 a2 = 0 ∨ f_Ir_isSide a1 a3 = 0 := by
          rw [sd_iff, sd_iff]
          rw [ip_iff] at d1
          rw [ip_iff] at d2
          rw [ip_iff] at d3
          omega
        have eI : f_Ir_ground ar sc a0 a1 a2 a3 = (some "java/lang/IndexOutOfBoundsException", 0, ar, sc) := by
          unfold f_Ir_ground
          by_cases g0 : f_Ir_isSide a0 a2 = 0
          · rw [if_pos g0]
          · rw [if_neg g0, if_pos (cF.resolve_left g0)]
        rw [eI]
        simp [f_Mo_ground, p_Mo_ground, d1, d2, d3, tw_100, th_0, kc_ground, i10] <;> exact hR
      · by_cases d4 : f_Mo_isPlace a3 = 0
        · have cF : f_Ir_isSide a0 a2 = 0 ∨ f_Ir_isSide a1 a3 = 0 := by
            rw [sd_iff, sd_iff]
            rw [ip_iff] at d1
            rw [ip_iff] at d2
            rw [ip_iff] at d3
            rw [ip_iff] at d4
            omega
          have eI : f_Ir_ground ar sc a0 a1 a2 a3 = (some "java/lang/IndexOutOfBoundsException", 0, ar, sc) := by
            unfold f_Ir_ground
            by_cases g0 : f_Ir_isSide a0 a2 = 0
            · rw [if_pos g0]
            · rw [if_neg g0, if_pos (cF.resolve_left g0)]
          rw [eI]
          simp [f_Mo_ground, p_Mo_ground, d1, d2, d3, d4, tw_100, th_0, kc_ground, i10] <;> exact hR
        · by_cases d5 : a2 ≤ a0
          · have cF : f_Ir_isSide a0 a2 = 0 ∨ f_Ir_isSide a1 a3 = 0 := by
              rw [sd_iff, sd_iff]
              rw [ip_iff] at d1
              rw [ip_iff] at d2
              rw [ip_iff] at d3
              rw [ip_iff] at d4
              rw [Int32.le_iff_toInt_le] at d5
              omega
            have eI : f_Ir_ground ar sc a0 a1 a2 a3 = (some "java/lang/IndexOutOfBoundsException", 0, ar, sc) := by
              unfold f_Ir_ground
              by_cases g0 : f_Ir_isSide a0 a2 = 0
              · rw [if_pos g0]
              · rw [if_neg g0, if_pos (cF.resolve_left g0)]
            rw [eI]
            simp [f_Mo_ground, p_Mo_ground, d1, d2, d3, d4, d5, tw_100, th_0, kc_ground, i10] <;> exact hR
          · by_cases d6 : a3 ≤ a1
            · have cF : f_Ir_isSide a0 a2 = 0 ∨ f_Ir_isSide a1 a3 = 0 := by
                rw [sd_iff, sd_iff]
                rw [ip_iff] at d1
                rw [ip_iff] at d2
                rw [ip_iff] at d3
                rw [ip_iff] at d4
                rw [Int32.le_iff_toInt_le] at d5
                rw [Int32.le_iff_toInt_le] at d6
                omega
              have eI : f_Ir_ground ar sc a0 a1 a2 a3 = (some "java/lang/IndexOutOfBoundsException", 0, ar, sc) := by
                unfold f_Ir_ground
                by_cases g0 : f_Ir_isSide a0 a2 = 0
                · rw [if_pos g0]
                · rw [if_neg g0, if_pos (cF.resolve_left g0)]
              rw [eI]
              simp [f_Mo_ground, p_Mo_ground, d1, d2, d3, d4, d5, d6, tw_100, th_0, kc_ground, i10] <;> exact hR
            · have g0 : ¬ f_Ir_isSide a0 a2 = 0 := by
                rw [sd_iff]
                rw [ip_iff] at d1
                rw [ip_iff] at d2
                rw [ip_iff] at d3
                rw [ip_iff] at d4
                rw [Int32.le_iff_toInt_le] at d5
                rw [Int32.le_iff_toInt_le] at d6
                omega
              have g1 : ¬ f_Ir_isSide a1 a3 = 0 := by
                rw [sd_iff]
                rw [ip_iff] at d1
                rw [ip_iff] at d2
                rw [ip_iff] at d3
                rw [ip_iff] at d4
                rw [Int32.le_iff_toInt_le] at d5
                rw [Int32.le_iff_toInt_le] at d6
                omega
              have eI : f_Ir_ground ar sc a0 a1 a2 a3 = (none, 0, f_Permits_tellGround ar sc a0 a1 a2 a3) := by
                unfold f_Ir_ground; rw [if_neg g0, if_neg g1]
              have eM : f_Mo_ground br bc a0 a1 a2 a3 = (s2 (s2 (s2 (s2 br 22 120 a0) 22 121 a1) 22 122 a2) 22 123 a3, sg (sg bc 0 0) 7 1) := by
                unfold f_Mo_ground
                rw [if_neg d1, if_neg d2, if_neg d3, if_neg d4, if_neg d5, if_neg d6, tw_000, gu_0, gu_1, gu_2, gu_3]
                rfl
              have w0 : vp_in 120 124 := by unfold vp_in; decide
              have w1 : vp_in ((120 : Int32) + (1 : Int32)) 124 := by unfold vp_in; decide
              have w2 : vp_in ((120 : Int32) + (2 : Int32)) 124 := by unfold vp_in; decide
              have w3 : vp_in ((120 : Int32) + (3 : Int32)) 124 := by unfold vp_in; decide
              have b1 := g0
              have b2 := g1
              rw [sd_iff] at b1 b2
              refine ⟨trivial, ?_, ?_, trivial, ?_⟩
              · unfold p_Mo_ground
                simp only [d1, d2, d3, d4, d5, d6, tw_000]
                exact ⟨nofun, fun _ => ⟨nofun, fun _ => ⟨nofun, fun _ => ⟨nofun, fun _ => ⟨nofun, fun _ => ⟨nofun, fun _ => ⟨fun _ => ⟨w0, w1, w2, w3⟩, fun h => absurd trivial h⟩⟩⟩⟩⟩⟩⟩
              · rw [eI, eM]; rfl
              · rw [eI, eM]
                exact ⟨⟨hR.1.1, hR.1.2.1, hR.1.2.2.1, hR.1.2.2.2.1, hR.1.2.2.2.2.1, hR.1.2.2.2.2.2.1, hR.1.2.2.2.2.2.2.1, hR.1.2.2.2.2.2.2.2.1, hR.1.2.2.2.2.2.2.2.2.1, hR.1.2.2.2.2.2.2.2.2.2.1, hR.1.2.2.2.2.2.2.2.2.2.2.1, hR.1.2.2.2.2.2.2.2.2.2.2.2.1, hR.1.2.2.2.2.2.2.2.2.2.2.2.2.1, hR.1.2.2.2.2.2.2.2.2.2.2.2.2.2.1, hR.1.2.2.2.2.2.2.2.2.2.2.2.2.2.2.1, hR.1.2.2.2.2.2.2.2.2.2.2.2.2.2.2.2.1, hR.1.2.2.2.2.2.2.2.2.2.2.2.2.2.2.2.2.1, hR.1.2.2.2.2.2.2.2.2.2.2.2.2.2.2.2.2.2.1, hR.1.2.2.2.2.2.2.2.2.2.2.2.2.2.2.2.2.2.2.1, hR.1.2.2.2.2.2.2.2.2.2.2.2.2.2.2.2.2.2.2.2.1, (fun p hp => by
                    have h9 := v_pg hR p hp
                    have k1 : ∀ j, j < 120 → upd (upd (upd (upd (br 22) 120 a0) 121 a1) 122 a2) 123 a3 j = br 22 j := fun j hj => by rw [un (by omega), un (by omega), un (by omega), un (by omega)]
                    show ar 31 p = upd (upd (upd (upd (br 22) 120 a0) 121 a1) 122 a2) 123 a3 (4 * p) ∧ ar 32 p = upd (upd (upd (upd (br 22) 120 a0) 121 a1) 122 a2) 123 a3 (4 * p + 1) ∧ ar 33 p = upd (upd (upd (upd (br 22) 120 a0) 121 a1) 122 a2) 123 a3 (4 * p + 2) ∧ ar 34 p = upd (upd (upd (upd (br 22) 120 a0) 121 a1) 122 a2) 123 a3 (4 * p + 3)
                    rw [k1 _ (by omega), k1 _ (by omega), k1 _ (by omega), k1 _ (by omega)]
                    exact h9)⟩, ⟨hR.2.1.1, hR.2.1.2.1, hR.2.1.2.2.1, hR.2.1.2.2.2.1, hR.2.1.2.2.2.2.1, rfl, rfl, rfl, rfl, rfl, hR.2.1.2.2.2.2.2.2.2.2.2.2.1, hR.2.1.2.2.2.2.2.2.2.2.2.2.2.1, hR.2.1.2.2.2.2.2.2.2.2.2.2.2.2⟩, ⟨hR.2.2.1, hR.2.2.2.1, hR.2.2.2.2.1, hR.2.2.2.2.2.1, hR.2.2.2.2.2.2.1, hR.2.2.2.2.2.2.2.1, hR.2.2.2.2.2.2.2.2.1, hR.2.2.2.2.2.2.2.2.2.1, hR.2.2.2.2.2.2.2.2.2.2.1, hR.2.2.2.2.2.2.2.2.2.2.2.1, hR.2.2.2.2.2.2.2.2.2.2.2.2.1, (by show (-10000000 ≤ a0.toInt ∧ a0.toInt ≤ a2.toInt ∧ a2.toInt ≤ 10000000) ∧ -10000000 ≤ a1.toInt ∧ a1.toInt ≤ a3.toInt ∧ a3.toInt ≤ 10000000; omega), hR.2.2.2.2.2.2.2.2.2.2.2.2.2.2⟩⟩


set_option maxHeartbeats 4000000 in
set_option maxRecDepth 100000 in
theorem eq_question {ar : Nat → Nat → Int32} {sc : Nat → Int32} {br : Nat → Nat → Int32} {bc : Nat → Int32} (hR : RL ar sc br bc) (a0 : Int32) (a1 : Int32) (a2 : Int32) (a3 : Int32) : (p_Ir_question ar sc a0 a1 a2 a3) ∧ (p_Mo_question br bc a0 a1 a2 a3) ∧ f_Mo_thrown ((f_Mo_question br bc a0 a1 a2 a3).1) ((f_Mo_question br bc a0 a1 a2 a3).2) = kc_question (f_Ir_question ar sc a0 a1 a2 a3).1 ∧ True ∧ RL (f_Ir_question ar sc a0 a1 a2 a3).2.2.1 (f_Ir_question ar sc a0 a1 a2 a3).2.2.2 ((f_Mo_question br bc a0 a1 a2 a3).1) ((f_Mo_question br bc a0 a1 a2 a3).2) := by
  by_cases c0 : f_Mo_in a0 0 15 = 0
  · by_cases y1 : a1 = -1
    · have l1 : ¬ f_Ir_canLead a0 a1 = 0 := by rw [cl_0]; exact fun h => h.1 y1
      by_cases n1 : a2 = -1
      · have l2 : ¬ f_Ir_canLead a0 a2 = 0 := by rw [cl_0]; exact fun h => h.1 n1
        by_cases w : f_Mo_in a3 0 50 = 0
        · simp [f_Ir_question, p_Ir_question, f_Mo_question, p_Mo_question, iw_eq, tw_110, tw_100, tw_010, th_0, kc_question, i10, c0, y1, l1, n1, l2, w] <;> exact hR
        · simp [f_Ir_question, p_Ir_question, f_Mo_question, p_Mo_question, iw_eq, tw_110, tw_100, tw_010, th_0, kc_question, i10, c0, y1, l1, n1, l2, w] <;> exact hR
      · by_cases n2 : f_Mo_in a2 (a0 + 1) 15 = 0
        · have l2 : f_Ir_canLead a0 a2 = 0 := by rw [cl_0]; exact ⟨n1, n2⟩
          simp [f_Ir_question, p_Ir_question, f_Mo_question, p_Mo_question, iw_eq, tw_110, tw_100, tw_010, th_0, kc_question, i10, c0, y1, l1, n1, n2, l2] <;> exact hR
        · have l2 : ¬ f_Ir_canLead a0 a2 = 0 := by rw [cl_0]; exact fun h => n2 h.2
          by_cases w : f_Mo_in a3 0 50 = 0
          · simp [f_Ir_question, p_Ir_question, f_Mo_question, p_Mo_question, iw_eq, tw_110, tw_100, tw_010, th_0, kc_question, i10, c0, y1, l1, n1, n2, l2, w] <;> exact hR
          · simp [f_Ir_question, p_Ir_question, f_Mo_question, p_Mo_question, iw_eq, tw_110, tw_100, tw_010, th_0, kc_question, i10, c0, y1, l1, n1, n2, l2, w] <;> exact hR
    · by_cases y2 : f_Mo_in a1 (a0 + 1) 15 = 0
      · have l1 : f_Ir_canLead a0 a1 = 0 := by rw [cl_0]; exact ⟨y1, y2⟩
        simp [f_Ir_question, p_Ir_question, f_Mo_question, p_Mo_question, iw_eq, tw_110, tw_100, tw_010, th_0, kc_question, i10, c0, y1, y2, l1] <;> exact hR
      · have l1 : ¬ f_Ir_canLead a0 a1 = 0 := by rw [cl_0]; exact fun h => y2 h.2
        by_cases n1 : a2 = -1
        · have l2 : ¬ f_Ir_canLead a0 a2 = 0 := by rw [cl_0]; exact fun h => h.1 n1
          by_cases w : f_Mo_in a3 0 50 = 0
          · simp [f_Ir_question, p_Ir_question, f_Mo_question, p_Mo_question, iw_eq, tw_110, tw_100, tw_010, th_0, kc_question, i10, c0, y1, y2, l1, n1, l2, w] <;> exact hR
          · simp [f_Ir_question, p_Ir_question, f_Mo_question, p_Mo_question, iw_eq, tw_110, tw_100, tw_010, th_0, kc_question, i10, c0, y1, y2, l1, n1, l2, w] <;> exact hR
        · by_cases n2 : f_Mo_in a2 (a0 + 1) 15 = 0
          · have l2 : f_Ir_canLead a0 a2 = 0 := by rw [cl_0]; exact ⟨n1, n2⟩
            simp [f_Ir_question, p_Ir_question, f_Mo_question, p_Mo_question, iw_eq, tw_110, tw_100, tw_010, th_0, kc_question, i10, c0, y1, y2, l1, n1, n2, l2] <;> exact hR
          · have l2 : ¬ f_Ir_canLead a0 a2 = 0 := by rw [cl_0]; exact fun h => n2 h.2
            by_cases w : f_Mo_in a3 0 50 = 0
            · simp [f_Ir_question, p_Ir_question, f_Mo_question, p_Mo_question, iw_eq, tw_110, tw_100, tw_010, th_0, kc_question, i10, c0, y1, y2, l1, n1, n2, l2, w] <;> exact hR
            · simp [f_Ir_question, p_Ir_question, f_Mo_question, p_Mo_question, iw_eq, tw_110, tw_100, tw_010, th_0, kc_question, i10, c0, y1, y2, l1, n1, n2, l2, w] <;> exact hR
  · by_cases y1 : a1 = -1
    · have l1 : ¬ f_Ir_canLead a0 a1 = 0 := by rw [cl_0]; exact fun h => h.1 y1
      by_cases n1 : a2 = -1
      · have l2 : ¬ f_Ir_canLead a0 a2 = 0 := by rw [cl_0]; exact fun h => h.1 n1
        by_cases w : f_Mo_in a3 0 50 = 0
        · simp [f_Ir_question, p_Ir_question, f_Mo_question, p_Mo_question, iw_eq, tw_110, tw_100, tw_010, th_0, kc_question, i10, c0, y1, l1, n1, l2, w] <;> exact hR
        · have n0 := in_no c0
          rw [show (0 : Int32).toInt = 0 from rfl, show (15 : Int32).toInt = 15 from rfl] at n0
          have hv : vp_in a0 16 := vin n0.1 (by omega)
          have ea := add1 n0.1 (by omega)
          have hk := clN n0.1
          have eI : f_Ir_question ar sc a0 a1 a2 a3 = (none, 0, f_Questions_tell ar sc a0 a1 a2 a3) := by unfold f_Ir_question; rw [iw_eq, iw_eq, if_neg c0, if_neg l1, if_neg l2, if_neg w]
          have eM : f_Mo_question br bc a0 a1 a2 a3 = (s2 (s2 (s2 (s2 br 15 a0.toNatClampNeg (vp_nar .boolean 1)) 16 a0.toNatClampNeg a1) 17 a0.toNatClampNeg a2) 18 a0.toNatClampNeg a3, sg bc 0 0) := by
            unfold f_Mo_question
            simp only [c0, y1, n1, w, if_true, if_false, tw_000]
          refine ⟨?_, ?_, ?_, trivial, ?_⟩
          · simp [p_Ir_question, p_Questions_tell, iw_eq, c0, l1, l2, w, hv]
          · simp [p_Mo_question, c0, y1, n1, w, tw_000, hv]
          · rw [eI, eM]; rfl
          · rw [eI, eM]
            have k1 : a1 = -1 ∨ (a0.toInt < a1.toInt ∧ a1.toInt ≤ 15) := Or.inl y1
            have k2 : a2 = -1 ∨ (a0.toInt < a2.toInt ∧ a2.toInt ≤ 15) := Or.inl n1
            exact ⟨⟨hR.1.1, hR.1.2.1, hR.1.2.2.1, hR.1.2.2.2.1, hR.1.2.2.2.2.1, hR.1.2.2.2.2.2.1, hR.1.2.2.2.2.2.2.1, hR.1.2.2.2.2.2.2.2.1, hR.1.2.2.2.2.2.2.2.2.1, hR.1.2.2.2.2.2.2.2.2.2.1, hR.1.2.2.2.2.2.2.2.2.2.2.1, hR.1.2.2.2.2.2.2.2.2.2.2.2.1, hR.1.2.2.2.2.2.2.2.2.2.2.2.2.1, (by show upd (ar 18) _ _ = upd (br 15) _ _; rw [v_qt hR]), (by show upd (ar 19) _ _ = upd (br 16) _ _; rw [v_qy hR]), (by show upd (ar 20) _ _ = upd (br 17) _ _; rw [v_qn hR]), (by show upd (ar 21) _ _ = upd (br 18) _ _; rw [v_qw hR]), hR.1.2.2.2.2.2.2.2.2.2.2.2.2.2.2.2.2.2.1, hR.1.2.2.2.2.2.2.2.2.2.2.2.2.2.2.2.2.2.2.1, hR.1.2.2.2.2.2.2.2.2.2.2.2.2.2.2.2.2.2.2.2.1, hR.1.2.2.2.2.2.2.2.2.2.2.2.2.2.2.2.2.2.2.2.2⟩, ⟨hR.2.1.1, hR.2.1.2.1, hR.2.1.2.2.1, hR.2.1.2.2.2.1, hR.2.1.2.2.2.2.1, hR.2.1.2.2.2.2.2.1, hR.2.1.2.2.2.2.2.2.1, hR.2.1.2.2.2.2.2.2.2.1, hR.2.1.2.2.2.2.2.2.2.2.1, hR.2.1.2.2.2.2.2.2.2.2.2.1, hR.2.1.2.2.2.2.2.2.2.2.2.2.1, hR.2.1.2.2.2.2.2.2.2.2.2.2.2.1, hR.2.1.2.2.2.2.2.2.2.2.2.2.2.2⟩, ⟨hR.2.2.1, hR.2.2.2.1, hR.2.2.2.2.1, hR.2.2.2.2.2.1, hR.2.2.2.2.2.2.1, hR.2.2.2.2.2.2.2.1, hR.2.2.2.2.2.2.2.2.1, hR.2.2.2.2.2.2.2.2.2.1, hR.2.2.2.2.2.2.2.2.2.2.1, hR.2.2.2.2.2.2.2.2.2.2.2.1, (fun q hq => by
                show upd (ar 18) a0.toNatClampNeg (vp_nar .boolean 1) q ≠ 0 → (upd (ar 19) a0.toNatClampNeg a1 q = -1 ∨ ((q : Int) < (upd (ar 19) a0.toNatClampNeg a1 q).toInt ∧ (upd (ar 19) a0.toNatClampNeg a1 q).toInt ≤ 15)) ∧ (upd (ar 20) a0.toNatClampNeg a2 q = -1 ∨ ((q : Int) < (upd (ar 20) a0.toNatClampNeg a2 q).toInt ∧ (upd (ar 20) a0.toNatClampNeg a2 q).toInt ≤ 15))
                by_cases hj : q = a0.toNatClampNeg
                · rw [hj, us, us, us, hk]; intro _; exact ⟨k1, k2⟩
                · rw [un hj, un hj, un hj]; exact v_kqu hR q hq), hR.2.2.2.2.2.2.2.2.2.2.2.2.2.1, hR.2.2.2.2.2.2.2.2.2.2.2.2.2.2⟩⟩
      · by_cases n2 : f_Mo_in a2 (a0 + 1) 15 = 0
        · have l2 : f_Ir_canLead a0 a2 = 0 := by rw [cl_0]; exact ⟨n1, n2⟩
          simp [f_Ir_question, p_Ir_question, f_Mo_question, p_Mo_question, iw_eq, tw_110, tw_100, tw_010, th_0, kc_question, i10, c0, y1, l1, n1, n2, l2] <;> exact hR
        · have l2 : ¬ f_Ir_canLead a0 a2 = 0 := by rw [cl_0]; exact fun h => n2 h.2
          by_cases w : f_Mo_in a3 0 50 = 0
          · simp [f_Ir_question, p_Ir_question, f_Mo_question, p_Mo_question, iw_eq, tw_110, tw_100, tw_010, th_0, kc_question, i10, c0, y1, l1, n1, n2, l2, w] <;> exact hR
          · have n0 := in_no c0
            rw [show (0 : Int32).toInt = 0 from rfl, show (15 : Int32).toInt = 15 from rfl] at n0
            have hv : vp_in a0 16 := vin n0.1 (by omega)
            have ea := add1 n0.1 (by omega)
            have hk := clN n0.1
            have eI : f_Ir_question ar sc a0 a1 a2 a3 = (none, 0, f_Questions_tell ar sc a0 a1 a2 a3) := by unfold f_Ir_question; rw [iw_eq, iw_eq, if_neg c0, if_neg l1, if_neg l2, if_neg w]
            have eM : f_Mo_question br bc a0 a1 a2 a3 = (s2 (s2 (s2 (s2 br 15 a0.toNatClampNeg (vp_nar .boolean 1)) 16 a0.toNatClampNeg a1) 17 a0.toNatClampNeg a2) 18 a0.toNatClampNeg a3, sg bc 0 0) := by
              unfold f_Mo_question
              simp only [c0, y1, n1, n2, w, if_true, if_false, tw_000]
            refine ⟨?_, ?_, ?_, trivial, ?_⟩
            · simp [p_Ir_question, p_Questions_tell, iw_eq, c0, l1, l2, w, hv]
            · simp [p_Mo_question, c0, y1, n1, n2, w, tw_000, hv]
            · rw [eI, eM]; rfl
            · rw [eI, eM]
              have k1 : a1 = -1 ∨ (a0.toInt < a1.toInt ∧ a1.toInt ≤ 15) := Or.inl y1
              have k2 : a2 = -1 ∨ (a0.toInt < a2.toInt ∧ a2.toInt ≤ 15) := (by have := in_no n2; rw [ea, show (15 : Int32).toInt = 15 from rfl] at this; exact Or.inr (by omega))
              exact ⟨⟨hR.1.1, hR.1.2.1, hR.1.2.2.1, hR.1.2.2.2.1, hR.1.2.2.2.2.1, hR.1.2.2.2.2.2.1, hR.1.2.2.2.2.2.2.1, hR.1.2.2.2.2.2.2.2.1, hR.1.2.2.2.2.2.2.2.2.1, hR.1.2.2.2.2.2.2.2.2.2.1, hR.1.2.2.2.2.2.2.2.2.2.2.1, hR.1.2.2.2.2.2.2.2.2.2.2.2.1, hR.1.2.2.2.2.2.2.2.2.2.2.2.2.1, (by show upd (ar 18) _ _ = upd (br 15) _ _; rw [v_qt hR]), (by show upd (ar 19) _ _ = upd (br 16) _ _; rw [v_qy hR]), (by show upd (ar 20) _ _ = upd (br 17) _ _; rw [v_qn hR]), (by show upd (ar 21) _ _ = upd (br 18) _ _; rw [v_qw hR]), hR.1.2.2.2.2.2.2.2.2.2.2.2.2.2.2.2.2.2.1, hR.1.2.2.2.2.2.2.2.2.2.2.2.2.2.2.2.2.2.2.1, hR.1.2.2.2.2.2.2.2.2.2.2.2.2.2.2.2.2.2.2.2.1, hR.1.2.2.2.2.2.2.2.2.2.2.2.2.2.2.2.2.2.2.2.2⟩, ⟨hR.2.1.1, hR.2.1.2.1, hR.2.1.2.2.1, hR.2.1.2.2.2.1, hR.2.1.2.2.2.2.1, hR.2.1.2.2.2.2.2.1, hR.2.1.2.2.2.2.2.2.1, hR.2.1.2.2.2.2.2.2.2.1, hR.2.1.2.2.2.2.2.2.2.2.1, hR.2.1.2.2.2.2.2.2.2.2.2.1, hR.2.1.2.2.2.2.2.2.2.2.2.2.1, hR.2.1.2.2.2.2.2.2.2.2.2.2.2.1, hR.2.1.2.2.2.2.2.2.2.2.2.2.2.2⟩, ⟨hR.2.2.1, hR.2.2.2.1, hR.2.2.2.2.1, hR.2.2.2.2.2.1, hR.2.2.2.2.2.2.1, hR.2.2.2.2.2.2.2.1, hR.2.2.2.2.2.2.2.2.1, hR.2.2.2.2.2.2.2.2.2.1, hR.2.2.2.2.2.2.2.2.2.2.1, hR.2.2.2.2.2.2.2.2.2.2.2.1, (fun q hq => by
                  show upd (ar 18) a0.toNatClampNeg (vp_nar .boolean 1) q ≠ 0 → (upd (ar 19) a0.toNatClampNeg a1 q = -1 ∨ ((q : Int) < (upd (ar 19) a0.toNatClampNeg a1 q).toInt ∧ (upd (ar 19) a0.toNatClampNeg a1 q).toInt ≤ 15)) ∧ (upd (ar 20) a0.toNatClampNeg a2 q = -1 ∨ ((q : Int) < (upd (ar 20) a0.toNatClampNeg a2 q).toInt ∧ (upd (ar 20) a0.toNatClampNeg a2 q).toInt ≤ 15))
                  by_cases hj : q = a0.toNatClampNeg
                  · rw [hj, us, us, us, hk]; intro _; exact ⟨k1, k2⟩
                  · rw [un hj, un hj, un hj]; exact v_kqu hR q hq), hR.2.2.2.2.2.2.2.2.2.2.2.2.2.1, hR.2.2.2.2.2.2.2.2.2.2.2.2.2.2⟩⟩
    · by_cases y2 : f_Mo_in a1 (a0 + 1) 15 = 0
      · have l1 : f_Ir_canLead a0 a1 = 0 := by rw [cl_0]; exact ⟨y1, y2⟩
        simp [f_Ir_question, p_Ir_question, f_Mo_question, p_Mo_question, iw_eq, tw_110, tw_100, tw_010, th_0, kc_question, i10, c0, y1, y2, l1] <;> exact hR
      · have l1 : ¬ f_Ir_canLead a0 a1 = 0 := by rw [cl_0]; exact fun h => y2 h.2
        by_cases n1 : a2 = -1
        · have l2 : ¬ f_Ir_canLead a0 a2 = 0 := by rw [cl_0]; exact fun h => h.1 n1
          by_cases w : f_Mo_in a3 0 50 = 0
          · simp [f_Ir_question, p_Ir_question, f_Mo_question, p_Mo_question, iw_eq, tw_110, tw_100, tw_010, th_0, kc_question, i10, c0, y1, y2, l1, n1, l2, w] <;> exact hR
          · have n0 := in_no c0
            rw [show (0 : Int32).toInt = 0 from rfl, show (15 : Int32).toInt = 15 from rfl] at n0
            have hv : vp_in a0 16 := vin n0.1 (by omega)
            have ea := add1 n0.1 (by omega)
            have hk := clN n0.1
            have eI : f_Ir_question ar sc a0 a1 a2 a3 = (none, 0, f_Questions_tell ar sc a0 a1 a2 a3) := by unfold f_Ir_question; rw [iw_eq, iw_eq, if_neg c0, if_neg l1, if_neg l2, if_neg w]
            have eM : f_Mo_question br bc a0 a1 a2 a3 = (s2 (s2 (s2 (s2 br 15 a0.toNatClampNeg (vp_nar .boolean 1)) 16 a0.toNatClampNeg a1) 17 a0.toNatClampNeg a2) 18 a0.toNatClampNeg a3, sg bc 0 0) := by
              unfold f_Mo_question
              simp only [c0, y1, y2, n1, w, if_true, if_false, tw_000]
            refine ⟨?_, ?_, ?_, trivial, ?_⟩
            · simp [p_Ir_question, p_Questions_tell, iw_eq, c0, l1, l2, w, hv]
            · simp [p_Mo_question, c0, y1, y2, n1, w, tw_000, hv]
            · rw [eI, eM]; rfl
            · rw [eI, eM]
              have k1 : a1 = -1 ∨ (a0.toInt < a1.toInt ∧ a1.toInt ≤ 15) := (by have := in_no y2; rw [ea, show (15 : Int32).toInt = 15 from rfl] at this; exact Or.inr (by omega))
              have k2 : a2 = -1 ∨ (a0.toInt < a2.toInt ∧ a2.toInt ≤ 15) := Or.inl n1
              exact ⟨⟨hR.1.1, hR.1.2.1, hR.1.2.2.1, hR.1.2.2.2.1, hR.1.2.2.2.2.1, hR.1.2.2.2.2.2.1, hR.1.2.2.2.2.2.2.1, hR.1.2.2.2.2.2.2.2.1, hR.1.2.2.2.2.2.2.2.2.1, hR.1.2.2.2.2.2.2.2.2.2.1, hR.1.2.2.2.2.2.2.2.2.2.2.1, hR.1.2.2.2.2.2.2.2.2.2.2.2.1, hR.1.2.2.2.2.2.2.2.2.2.2.2.2.1, (by show upd (ar 18) _ _ = upd (br 15) _ _; rw [v_qt hR]), (by show upd (ar 19) _ _ = upd (br 16) _ _; rw [v_qy hR]), (by show upd (ar 20) _ _ = upd (br 17) _ _; rw [v_qn hR]), (by show upd (ar 21) _ _ = upd (br 18) _ _; rw [v_qw hR]), hR.1.2.2.2.2.2.2.2.2.2.2.2.2.2.2.2.2.2.1, hR.1.2.2.2.2.2.2.2.2.2.2.2.2.2.2.2.2.2.2.1, hR.1.2.2.2.2.2.2.2.2.2.2.2.2.2.2.2.2.2.2.2.1, hR.1.2.2.2.2.2.2.2.2.2.2.2.2.2.2.2.2.2.2.2.2⟩, ⟨hR.2.1.1, hR.2.1.2.1, hR.2.1.2.2.1, hR.2.1.2.2.2.1, hR.2.1.2.2.2.2.1, hR.2.1.2.2.2.2.2.1, hR.2.1.2.2.2.2.2.2.1, hR.2.1.2.2.2.2.2.2.2.1, hR.2.1.2.2.2.2.2.2.2.2.1, hR.2.1.2.2.2.2.2.2.2.2.2.1, hR.2.1.2.2.2.2.2.2.2.2.2.2.1, hR.2.1.2.2.2.2.2.2.2.2.2.2.2.1, hR.2.1.2.2.2.2.2.2.2.2.2.2.2.2⟩, ⟨hR.2.2.1, hR.2.2.2.1, hR.2.2.2.2.1, hR.2.2.2.2.2.1, hR.2.2.2.2.2.2.1, hR.2.2.2.2.2.2.2.1, hR.2.2.2.2.2.2.2.2.1, hR.2.2.2.2.2.2.2.2.2.1, hR.2.2.2.2.2.2.2.2.2.2.1, hR.2.2.2.2.2.2.2.2.2.2.2.1, (fun q hq => by
                  show upd (ar 18) a0.toNatClampNeg (vp_nar .boolean 1) q ≠ 0 → (upd (ar 19) a0.toNatClampNeg a1 q = -1 ∨ ((q : Int) < (upd (ar 19) a0.toNatClampNeg a1 q).toInt ∧ (upd (ar 19) a0.toNatClampNeg a1 q).toInt ≤ 15)) ∧ (upd (ar 20) a0.toNatClampNeg a2 q = -1 ∨ ((q : Int) < (upd (ar 20) a0.toNatClampNeg a2 q).toInt ∧ (upd (ar 20) a0.toNatClampNeg a2 q).toInt ≤ 15))
                  by_cases hj : q = a0.toNatClampNeg
                  · rw [hj, us, us, us, hk]; intro _; exact ⟨k1, k2⟩
                  · rw [un hj, un hj, un hj]; exact v_kqu hR q hq), hR.2.2.2.2.2.2.2.2.2.2.2.2.2.1, hR.2.2.2.2.2.2.2.2.2.2.2.2.2.2⟩⟩
        · by_cases n2 : f_Mo_in a2 (a0 + 1) 15 = 0
          · have l2 : f_Ir_canLead a0 a2 = 0 := by rw [cl_0]; exact ⟨n1, n2⟩
            simp [f_Ir_question, p_Ir_question, f_Mo_question, p_Mo_question, iw_eq, tw_110, tw_100, tw_010, th_0, kc_question, i10, c0, y1, y2, l1, n1, n2, l2] <;> exact hR
          · have l2 : ¬ f_Ir_canLead a0 a2 = 0 := by rw [cl_0]; exact fun h => n2 h.2
            by_cases w : f_Mo_in a3 0 50 = 0
            · simp [f_Ir_question, p_Ir_question, f_Mo_question, p_Mo_question, iw_eq, tw_110, tw_100, tw_010, th_0, kc_question, i10, c0, y1, y2, l1, n1, n2, l2, w] <;> exact hR
            · have n0 := in_no c0
              rw [show (0 : Int32).toInt = 0 from rfl, show (15 : Int32).toInt = 15 from rfl] at n0
              have hv : vp_in a0 16 := vin n0.1 (by omega)
              have ea := add1 n0.1 (by omega)
              have hk := clN n0.1
              have eI : f_Ir_question ar sc a0 a1 a2 a3 = (none, 0, f_Questions_tell ar sc a0 a1 a2 a3) := by unfold f_Ir_question; rw [iw_eq, iw_eq, if_neg c0, if_neg l1, if_neg l2, if_neg w]
              have eM : f_Mo_question br bc a0 a1 a2 a3 = (s2 (s2 (s2 (s2 br 15 a0.toNatClampNeg (vp_nar .boolean 1)) 16 a0.toNatClampNeg a1) 17 a0.toNatClampNeg a2) 18 a0.toNatClampNeg a3, sg bc 0 0) := by
                unfold f_Mo_question
                simp only [c0, y1, y2, n1, n2, w, if_true, if_false, tw_000]
              refine ⟨?_, ?_, ?_, trivial, ?_⟩
              · simp [p_Ir_question, p_Questions_tell, iw_eq, c0, l1, l2, w, hv]
              · simp [p_Mo_question, c0, y1, y2, n1, n2, w, tw_000, hv]
              · rw [eI, eM]; rfl
              · rw [eI, eM]
                have k1 : a1 = -1 ∨ (a0.toInt < a1.toInt ∧ a1.toInt ≤ 15) := (by have := in_no y2; rw [ea, show (15 : Int32).toInt = 15 from rfl] at this; exact Or.inr (by omega))
                have k2 : a2 = -1 ∨ (a0.toInt < a2.toInt ∧ a2.toInt ≤ 15) := (by have := in_no n2; rw [ea, show (15 : Int32).toInt = 15 from rfl] at this; exact Or.inr (by omega))
                exact ⟨⟨hR.1.1, hR.1.2.1, hR.1.2.2.1, hR.1.2.2.2.1, hR.1.2.2.2.2.1, hR.1.2.2.2.2.2.1, hR.1.2.2.2.2.2.2.1, hR.1.2.2.2.2.2.2.2.1, hR.1.2.2.2.2.2.2.2.2.1, hR.1.2.2.2.2.2.2.2.2.2.1, hR.1.2.2.2.2.2.2.2.2.2.2.1, hR.1.2.2.2.2.2.2.2.2.2.2.2.1, hR.1.2.2.2.2.2.2.2.2.2.2.2.2.1, (by show upd (ar 18) _ _ = upd (br 15) _ _; rw [v_qt hR]), (by show upd (ar 19) _ _ = upd (br 16) _ _; rw [v_qy hR]), (by show upd (ar 20) _ _ = upd (br 17) _ _; rw [v_qn hR]), (by show upd (ar 21) _ _ = upd (br 18) _ _; rw [v_qw hR]), hR.1.2.2.2.2.2.2.2.2.2.2.2.2.2.2.2.2.2.1, hR.1.2.2.2.2.2.2.2.2.2.2.2.2.2.2.2.2.2.2.1, hR.1.2.2.2.2.2.2.2.2.2.2.2.2.2.2.2.2.2.2.2.1, hR.1.2.2.2.2.2.2.2.2.2.2.2.2.2.2.2.2.2.2.2.2⟩, ⟨hR.2.1.1, hR.2.1.2.1, hR.2.1.2.2.1, hR.2.1.2.2.2.1, hR.2.1.2.2.2.2.1, hR.2.1.2.2.2.2.2.1, hR.2.1.2.2.2.2.2.2.1, hR.2.1.2.2.2.2.2.2.2.1, hR.2.1.2.2.2.2.2.2.2.2.1, hR.2.1.2.2.2.2.2.2.2.2.2.1, hR.2.1.2.2.2.2.2.2.2.2.2.2.1, hR.2.1.2.2.2.2.2.2.2.2.2.2.2.1, hR.2.1.2.2.2.2.2.2.2.2.2.2.2.2⟩, ⟨hR.2.2.1, hR.2.2.2.1, hR.2.2.2.2.1, hR.2.2.2.2.2.1, hR.2.2.2.2.2.2.1, hR.2.2.2.2.2.2.2.1, hR.2.2.2.2.2.2.2.2.1, hR.2.2.2.2.2.2.2.2.2.1, hR.2.2.2.2.2.2.2.2.2.2.1, hR.2.2.2.2.2.2.2.2.2.2.2.1, (fun q hq => by
                    show upd (ar 18) a0.toNatClampNeg (vp_nar .boolean 1) q ≠ 0 → (upd (ar 19) a0.toNatClampNeg a1 q = -1 ∨ ((q : Int) < (upd (ar 19) a0.toNatClampNeg a1 q).toInt ∧ (upd (ar 19) a0.toNatClampNeg a1 q).toInt ≤ 15)) ∧ (upd (ar 20) a0.toNatClampNeg a2 q = -1 ∨ ((q : Int) < (upd (ar 20) a0.toNatClampNeg a2 q).toInt ∧ (upd (ar 20) a0.toNatClampNeg a2 q).toInt ≤ 15))
                    by_cases hj : q = a0.toNatClampNeg
                    · rw [hj, us, us, us, hk]; intro _; exact ⟨k1, k2⟩
                    · rw [un hj, un hj, un hj]; exact v_kqu hR q hq), hR.2.2.2.2.2.2.2.2.2.2.2.2.2.1, hR.2.2.2.2.2.2.2.2.2.2.2.2.2.2⟩⟩


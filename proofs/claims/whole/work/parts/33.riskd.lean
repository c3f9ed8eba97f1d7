set_option maxHeartbeats 4000000 in
set_option maxRecDepth 100000 in
theorem eq_pointAt {ar : Nat → Nat → Int32} {sc : Nat → Int32} {br : Nat → Nat → Int32} {bc : Nat → Int32} (hR : RL ar sc br bc) (a0 : Int32) (a1 : Int32) : (p_Ir_pointAt ar sc a0 a1) ∧ (p_Mo_pointAt br bc a0 a1) ∧ f_Mo_thrown ((f_Mo_pointAt br bc a0 a1).2.1) ((f_Mo_pointAt br bc a0 a1).2.2) = kc_pointAt (f_Ir_pointAt ar sc a0 a1).1 ∧ ((f_Ir_pointAt ar sc a0 a1).1 = none → (f_Ir_pointAt ar sc a0 a1).2.1 = (f_Mo_pointAt br bc a0 a1).1) ∧ RL (f_Ir_pointAt ar sc a0 a1).2.2.1 (f_Ir_pointAt ar sc a0 a1).2.2.2 ((f_Mo_pointAt br bc a0 a1).2.1) ((f_Mo_pointAt br bc a0 a1).2.2) := by
  have e := isP hR a0
  by_cases c1 : f_Ir_isPoint ar sc a0 = 0
  · simp [f_Ir_pointAt, p_Ir_pointAt, f_Mo_pointAt, p_Mo_pointAt, iw_eq, e, tw_100, th_0, kc_pointAt, i10, c1] <;> exact hR
  · by_cases c2 : f_Mo_in a1 0 4 = 0
    · simp [f_Ir_pointAt, p_Ir_pointAt, f_Mo_pointAt, p_Mo_pointAt, iw_eq, e, tw_100, th_0, kc_pointAt, i10, c1, c2] <;> exact hR
    · have h1 := isP_no c1
      obtain ⟨p, p1, p2, rfl⟩ := ex_nI h1.1 (Int.le_of_lt h1.2)
      have hp : (p : Int) < (sc 1).toInt := by rw [nI_toInt p1] at h1; exact h1.2
      have hR0 : RL ar sc br (sg bc 0 0) := hR
      have hb := v_ipn hR
      have hc : (nI p).toNatClampNeg = p := nI_clamp (by omega)
      have hv : vp_in (nI p) 30 := vp_in_nI (by omega) (by omega)
      obtain ⟨N, n1, n2, n3⟩ := ex_nI (v_ifn hR).1 (v_ifn hR).2
      obtain ⟨w1, w2, w3⟩ := co hR0 (nI p) a1 n3 (by omega) 200 0 0 (by omega) (by omega)
      rw [nI_0] at w1 w2 w3
      obtain ⟨k1, ⟨F, k2⟩, k3, k4⟩ := cls hR0 hp
      obtain ⟨l1, G, l2, l3⟩ := fr hR0
      obtain ⟨f1, f2, f3⟩ := fd_eq hR0 l3 hp
      have kr := prk hR0 hp
      have er : f_Ir_riskOf ar sc (nI p) = (f_Mo_riskOf br (sg bc 0 0) (nI p), sg ar 37 G, sc) := by
        unfold f_Ir_riskOf
        rw [l2, hc]
        show (G p, sg ar 37 G, sc) = _
        rw [l3 p hp]
      have pr : p_Ir_riskOf ar sc (nI p) := ⟨l1, hv⟩
      have pc : p_Findings_countOpen ar sc (nI p) := w1
      have ec : f_Findings_countOpen ar sc (nI p) = (g_Findings_countOpen_4 ar sc (nI p) 200 0 0).1 := rfl
      have ev := v_vi hR
      have hp' : f_Ir_pointAt ar sc (nI p) a1 = if a1 = 0 then (none, f_Ir_riskOf ar sc (nI p)) else if a1 = 1 then (none, f_Ir_classOf ar sc (nI p)) else if a1 = 2 then (none, ar 11 p, ar, sc) else if a1 = 3 then (none, f_Ir_firstDueDay (f_Ir_fillRisks ar sc).1 (f_Ir_fillRisks ar sc).2 (nI p), f_Ir_fillRisks ar sc) else (none, f_Findings_countOpen ar sc (nI p), ar, sc) := by
        unfold f_Ir_pointAt
        rw [if_neg c1, iw_eq a1 0 4, if_neg c2, hc] <;> rfl
      have hm : f_Mo_pointAt br bc (nI p) a1 = if a1 = 0 then (f_Mo_riskOf br (sg bc 0 0) (nI p), br, sg bc 0 0) else if a1 = 1 then (f_Mo_classOf br (sg bc 0 0) (nI p), br, sg bc 0 0) else if a1 = 2 then (br 10 p, br, sg bc 0 0) else if a1 = 3 then (f_Mo_dueFrom br (sg bc 0 0) (nI p), br, sg bc 0 0) else ((g_Findings_countOpen_4 ar sc (nI p) 200 0 0).1, br, sg bc 0 0) := by
        unfold f_Mo_pointAt
        rw [e, if_neg c1, if_neg c2, tw_000, hc]
        show (if a1 = 0 then (f_Mo_riskOf (g_Mo_pointAt_38 (nI p) a1 200 0 0 br (sg bc 0 0)).2.2.1 (g_Mo_pointAt_38 (nI p) a1 200 0 0 br (sg bc 0 0)).2.2.2 (nI p), (g_Mo_pointAt_38 (nI p) a1 200 0 0 br (sg bc 0 0)).2.2.1, (g_Mo_pointAt_38 (nI p) a1 200 0 0 br (sg bc 0 0)).2.2.2) else if a1 = 1 then (f_Mo_classOf (g_Mo_pointAt_38 (nI p) a1 200 0 0 br (sg bc 0 0)).2.2.1 (g_Mo_pointAt_38 (nI p) a1 200 0 0 br (sg bc 0 0)).2.2.2 (nI p), (g_Mo_pointAt_38 (nI p) a1 200 0 0 br (sg bc 0 0)).2.2.1, (g_Mo_pointAt_38 (nI p) a1 200 0 0 br (sg bc 0 0)).2.2.2) else if a1 = 2 then ((g_Mo_pointAt_38 (nI p) a1 200 0 0 br (sg bc 0 0)).2.2.1 10 p, (g_Mo_pointAt_38 (nI p) a1 200 0 0 br (sg bc 0 0)).2.2.1, (g_Mo_pointAt_38 (nI p) a1 200 0 0 br (sg bc 0 0)).2.2.2) else if a1 = 3 then (f_Mo_dueFrom (g_Mo_pointAt_38 (nI p) a1 200 0 0 br (sg bc 0 0)).2.2.1 (g_Mo_pointAt_38 (nI p) a1 200 0 0 br (sg bc 0 0)).2.2.2 (nI p), (g_Mo_pointAt_38 (nI p) a1 200 0 0 br (sg bc 0 0)).2.2.1, (g_Mo_pointAt_38 (nI p) a1 200 0 0 br (sg bc 0 0)).2.2.2) else ((g_Mo_pointAt_38 (nI p) a1 200 0 0 br (sg bc 0 0)).1, (g_Mo_pointAt_38 (nI p) a1 200 0 0 br (sg bc 0 0)).2.2.1, (g_Mo_pointAt_38 (nI p) a1 200 0 0 br (sg bc 0 0)).2.2.2)) = _
        rw [w3]
      have pI : p_Ir_pointAt ar sc (nI p) a1 := by
        unfold p_Ir_pointAt
        refine ⟨fun _ => trivial, fun _ => ⟨fun _ => trivial, fun _ => ⟨fun _ => pr, fun _ => ⟨fun _ => k1, fun _ => ⟨fun _ => hv, fun _ => ⟨fun _ => ⟨l1, ?_⟩, fun _ => pc⟩⟩⟩⟩⟩⟩
        rw [l2]; exact f2
      have pM : p_Mo_pointAt br bc (nI p) a1 := by
        unfold p_Mo_pointAt
        rw [e, tw_000]
        refine ⟨fun h => absurd h c1, fun _ => ⟨fun h => absurd h c2, fun _ => ⟨fun _ => ?_, fun _ => trivial⟩⟩⟩
        show q_Mo_pointAt_38 (nI p) a1 200 0 0 br (sg bc 0 0) ∧ _
        rw [w3]
        exact ⟨w2, fun _ => kr, fun _ => ⟨fun _ => k3, fun _ => ⟨fun _ => hv, fun _ => ⟨fun _ => f3, fun _ => trivial⟩⟩⟩⟩
      refine ⟨pI, pM, ?_⟩
      rw [hp', hm, er, k2, l2]
      by_cases d0 : a1 = 0
      · rw [if_pos d0, if_pos d0]; exact ⟨rfl, fun _ => rfl, hR⟩
      · rw [if_neg d0, if_neg d0]
        by_cases d1 : a1 = 1
        · rw [if_pos d1, if_pos d1]; exact ⟨rfl, fun _ => rfl, hR⟩
        · rw [if_neg d1, if_neg d1]
          by_cases d2 : a1 = 2
          · rw [if_pos d2, if_pos d2, ev]; exact ⟨rfl, fun _ => rfl, hR⟩
          · rw [if_neg d2, if_neg d2]
            by_cases d3 : a1 = 3
            · rw [if_pos d3, if_pos d3]; exact ⟨rfl, fun _ => f1, hR⟩
            · rw [if_neg d3, if_neg d3]; exact ⟨rfl, fun _ => ec, hR⟩


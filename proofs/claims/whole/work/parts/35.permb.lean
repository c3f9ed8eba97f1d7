set_option maxHeartbeats 4000000 in
set_option maxRecDepth 100000 in
theorem eq_permit {ar : Nat → Nat → Int32} {sc : Nat → Int32} {br : Nat → Nat → Int32} {bc : Nat → Int32} (hR : RL ar sc br bc) (a0 : Int32) (a1 : Int32) (a2 : Int32) : (p_Ir_permit ar sc a0 a1 a2) ∧ (p_Mo_permit br bc a0 a1 a2) ∧ f_Mo_thrown ((f_Mo_permit br bc a0 a1 a2).2.1) ((f_Mo_permit br bc a0 a1 a2).2.2) = kc_permit (f_Ir_permit ar sc a0 a1 a2).1 ∧ ((f_Ir_permit ar sc a0 a1 a2).1 = none → (f_Ir_permit ar sc a0 a1 a2).2.1 = (f_Mo_permit br bc a0 a1 a2).1) ∧ RL (f_Ir_permit ar sc a0 a1 a2).2.2.1 (f_Ir_permit ar sc a0 a1 a2).2.2.2 ((f_Mo_permit br bc a0 a1 a2).2.1) ((f_Mo_permit br bc a0 a1 a2).2.2) := by
  by_cases d1 : f_Mo_in a0 0 9999999 = 0
  · have cR : a0 < 0 ∨ a1 ≤ a0 ∨ 9999999 < a1 ∨ f_Mo_in a2 1 1000000 = 0 := by
      rw [in_iff, iz, show (9999999 : Int32).toInt = 9999999 from rfl] at d1
      rw [Int32.lt_iff_toInt_lt, Int32.le_iff_toInt_le, Int32.lt_iff_toInt_lt, iz, show (9999999 : Int32).toInt = 9999999 from rfl]
      omega
    have eI : f_Ir_permit ar sc a0 a1 a2 = (some "java/lang/IndexOutOfBoundsException", 0, ar, sc) := by
      unfold f_Ir_permit
      by_cases x1 : a0 < 0
      · rw [if_pos x1]
      · rw [if_neg x1]
        by_cases x2 : a1 ≤ a0
        · rw [if_pos x2]
        · rw [if_neg x2]
          by_cases x3 : 9999999 < a1
          · rw [if_pos x3]
          · rw [if_neg x3, iw_eq, if_pos (((cR.resolve_left x1).resolve_left x2).resolve_left x3)]
    have pI : p_Ir_permit ar sc a0 a1 a2 := ⟨fun _ => trivial, fun x1 => ⟨fun _ => trivial, fun x2 => ⟨fun _ => trivial, fun x3 x4 => absurd (((cR.resolve_left x1).resolve_left x2).resolve_left x3) x4⟩⟩⟩
    rw [eI]
    refine ⟨pI, ?_⟩
    simp [f_Mo_permit, p_Mo_permit, sg_id, tw_111, tw_110, tw_101, tw_100, th_0, kc_permit, i10, d1] <;> exact hR
  · by_cases d2 : f_Mo_in a1 (a0 + 1) 9999999 = 0
    · have cR : a0 < 0 ∨ a1 ≤ a0 ∨ 9999999 < a1 ∨ f_Mo_in a2 1 1000000 = 0 := by
        have n1 := in_no d1
        rw [iz, show (9999999 : Int32).toInt = 9999999 from rfl] at n1
        have e1 := @addI a0 1 (by rw [show (1 : Int32).toInt = 1 from rfl]; omega) (by rw [show (1 : Int32).toInt = 1 from rfl]; omega)
        rw [show (1 : Int32).toInt = 1 from rfl] at e1
        rw [in_iff, e1, show (9999999 : Int32).toInt = 9999999 from rfl] at d2
        rw [Int32.lt_iff_toInt_lt, Int32.le_iff_toInt_le, Int32.lt_iff_toInt_lt, iz, show (9999999 : Int32).toInt = 9999999 from rfl]
        omega
      have eI : f_Ir_permit ar sc a0 a1 a2 = (some "java/lang/IndexOutOfBoundsException", 0, ar, sc) := by
        unfold f_Ir_permit
        by_cases x1 : a0 < 0
        · rw [if_pos x1]
        · rw [if_neg x1]
          by_cases x2 : a1 ≤ a0
          · rw [if_pos x2]
          · rw [if_neg x2]
            by_cases x3 : 9999999 < a1
            · rw [if_pos x3]
            · rw [if_neg x3, iw_eq, if_pos (((cR.resolve_left x1).resolve_left x2).resolve_left x3)]
      have pI : p_Ir_permit ar sc a0 a1 a2 := ⟨fun _ => trivial, fun x1 => ⟨fun _ => trivial, fun x2 => ⟨fun _ => trivial, fun x3 x4 => absurd (((cR.resolve_left x1).resolve_left x2).resolve_left x3) x4⟩⟩⟩
      rw [eI]
      refine ⟨pI, ?_⟩
      simp [f_Mo_permit, p_Mo_permit, sg_id, tw_111, tw_110, tw_101, tw_100, th_0, kc_permit, i10, d1, d2] <;> exact hR
    · by_cases d3 : f_Mo_in a2 1 1000000 = 0
      · have cR : a0 < 0 ∨ a1 ≤ a0 ∨ 9999999 < a1 ∨ f_Mo_in a2 1 1000000 = 0 := by
          exact Or.inr (Or.inr (Or.inr d3))
        have eI : f_Ir_permit ar sc a0 a1 a2 = (some "java/lang/IndexOutOfBoundsException", 0, ar, sc) := by
          unfold f_Ir_permit
          by_cases x1 : a0 < 0
          · rw [if_pos x1]
          · rw [if_neg x1]
            by_cases x2 : a1 ≤ a0
            · rw [if_pos x2]
            · rw [if_neg x2]
              by_cases x3 : 9999999 < a1
              · rw [if_pos x3]
              · rw [if_neg x3, iw_eq, if_pos (((cR.resolve_left x1).resolve_left x2).resolve_left x3)]
        have pI : p_Ir_permit ar sc a0 a1 a2 := ⟨fun _ => trivial, fun x1 => ⟨fun _ => trivial, fun x2 => ⟨fun _ => trivial, fun x3 x4 => absurd (((cR.resolve_left x1).resolve_left x2).resolve_left x3) x4⟩⟩⟩
        rw [eI]
        refine ⟨pI, ?_⟩
        simp [f_Mo_permit, p_Mo_permit, sg_id, tw_111, tw_110, tw_101, tw_100, th_0, kc_permit, i10, d1, d2, d3] <;> exact hR
      · have n1 := in_no d1
        rw [iz, show (9999999 : Int32).toInt = 9999999 from rfl] at n1
        have e1 := @addI a0 1 (by rw [show (1 : Int32).toInt = 1 from rfl]; omega) (by rw [show (1 : Int32).toInt = 1 from rfl]; omega)
        rw [show (1 : Int32).toInt = 1 from rfl] at e1
        have n2 := in_no d2
        rw [e1, show (9999999 : Int32).toInt = 9999999 from rfl] at n2
        have x1 : ¬ a0 < 0 := by rw [Int32.lt_iff_toInt_lt, iz]; omega
        have x2 : ¬ a1 ≤ a0 := by rw [Int32.le_iff_toInt_le]; omega
        have x3 : ¬ 9999999 < a1 := by rw [Int32.lt_iff_toInt_lt, show (9999999 : Int32).toInt = 9999999 from rfl]; omega
        obtain ⟨r1, r2, r3⟩ := rfs hR a0 a1 a2
        have s9 : ∀ V, (sg bc 9 V) 9 = V := fun _ => rfl
        have s8 : ∀ V, (sg bc 9 V) 8 = bc 8 := fun _ => rfl
        have t13 : ∀ V, (sg sc 13 V) 13 = V := fun _ => rfl
        have t5 : ∀ V, (sg sc 13 V) 5 = sc 5 := fun _ => rfl
        have e := v_pm hR
        have h := v_ipm hR
        by_cases v : f_Mo_refusal br bc a0 a1 a2 = -1
        · by_cases c6 : bc 8 = 30
          · have c7 : 30 ≤ sc 5 := by rw [e, c6]; decide
            simp [f_Ir_permit, p_Ir_permit, f_Mo_permit, p_Mo_permit, iw_eq, d1, d2, d3, x1, x2, x3, r1, r2, r3, s9, s8, t13, t5, v, c6, c7, tw_001, th_0, kc_permit, i10]
            exact ⟨⟨hR.1.1, hR.1.2.1, hR.1.2.2.1, hR.1.2.2.2.1, hR.1.2.2.2.2.1, hR.1.2.2.2.2.2.1, hR.1.2.2.2.2.2.2.1, hR.1.2.2.2.2.2.2.2.1, hR.1.2.2.2.2.2.2.2.2.1, hR.1.2.2.2.2.2.2.2.2.2.1, hR.1.2.2.2.2.2.2.2.2.2.2.1, hR.1.2.2.2.2.2.2.2.2.2.2.2.1, hR.1.2.2.2.2.2.2.2.2.2.2.2.2.1, hR.1.2.2.2.2.2.2.2.2.2.2.2.2.2.1, hR.1.2.2.2.2.2.2.2.2.2.2.2.2.2.2.1, hR.1.2.2.2.2.2.2.2.2.2.2.2.2.2.2.2.1, hR.1.2.2.2.2.2.2.2.2.2.2.2.2.2.2.2.2.1, hR.1.2.2.2.2.2.2.2.2.2.2.2.2.2.2.2.2.2.1, hR.1.2.2.2.2.2.2.2.2.2.2.2.2.2.2.2.2.2.2.1, hR.1.2.2.2.2.2.2.2.2.2.2.2.2.2.2.2.2.2.2.2.1, hR.1.2.2.2.2.2.2.2.2.2.2.2.2.2.2.2.2.2.2.2.2⟩, ⟨hR.2.1.1, hR.2.1.2.1, hR.2.1.2.2.1, hR.2.1.2.2.2.1, hR.2.1.2.2.2.2.1, hR.2.1.2.2.2.2.2.1, hR.2.1.2.2.2.2.2.2.1, hR.2.1.2.2.2.2.2.2.2.1, hR.2.1.2.2.2.2.2.2.2.2.1, hR.2.1.2.2.2.2.2.2.2.2.2.1, hR.2.1.2.2.2.2.2.2.2.2.2.2.1, hR.2.1.2.2.2.2.2.2.2.2.2.2.2.1, rfl⟩, ⟨hR.2.2.1, hR.2.2.2.1, hR.2.2.2.2.1, hR.2.2.2.2.2.1, hR.2.2.2.2.2.2.1, hR.2.2.2.2.2.2.2.1, hR.2.2.2.2.2.2.2.2.1, hR.2.2.2.2.2.2.2.2.2.1, hR.2.2.2.2.2.2.2.2.2.2.1, hR.2.2.2.2.2.2.2.2.2.2.2.1, hR.2.2.2.2.2.2.2.2.2.2.2.2.1, hR.2.2.2.2.2.2.2.2.2.2.2.2.2.1, hR.2.2.2.2.2.2.2.2.2.2.2.2.2.2⟩⟩
          · have c7 : ¬ 30 ≤ sc 5 := by
              rw [Int32.le_iff_toInt_le, show (30 : Int32).toInt = 30 from rfl]
              intro h9
              exact c6 (Int32.toInt_inj.mp (by rw [← e, show (30 : Int32).toInt = 30 from rfl]; omega))
            have h5 : (sc 5).toInt < 30 := by rw [Int32.le_iff_toInt_le, show (30 : Int32).toInt = 30 from rfl] at c7; omega
            obtain ⟨P, p1, p2, p3⟩ := ex_nI h.1 h.2
            have hPi : (sc 5).toInt = P := by rw [p3, nI_toInt p1]
            have hB : bc 8 = nI P := by rw [← e]; exact p3
            have hc : (nI P).toNatClampNeg = P := nI_clamp p1
            have hv : vp_in (nI P) 30 := vp_in_nI (by omega) (by omega)
            have hB' : (sg (sg bc 9 (-1)) 0 0) 8 = nI P := hB
            obtain ⟨w1, G, w2, w3⟩ := pcp (br := br) (bc := sg (sg bc 9 (-1)) 0 0) a0 a1 a2 0 hB' (by omega) 200 0 (br 22) (by omega) (by omega)
            rw [sg_id, nI_0] at w1 w2
            have hv5 : vp_in (sc 5) 30 := by rw [p3]; exact hv
            have eI : f_Ir_permit ar sc a0 a1 a2 = (none, f_Permits_add ar (sg sc 13 (-1)) a0 a1) := by
              unfold f_Ir_permit
              rw [if_neg x1, if_neg x2, if_neg x3, iw_eq, if_neg d3, r1, v, if_pos (t13 _), if_neg (show ¬ 30 ≤ (sg sc 13 (-1)) 5 from c7)] <;> rfl
            have eM : f_Mo_permit br bc a0 a1 a2 = (nI P + 1 - 1, s2 (s2 (sg br 22 G) 23 P a0) 24 P a1, sg (sg (sg bc 9 (-1)) 0 0) 8 (nI P + 1)) := by
              unfold f_Mo_permit
              rw [if_neg d1, if_neg d2, if_neg d3, v, if_pos (s9 _), if_neg (show ¬ (sg bc 9 (-1)) 8 = 30 from c6), tw_000]
              dsimp only
              rw [if_pos rfl, w2]
              dsimp only
              rw [hB', hc]
              rfl
            refine ⟨?_, ?_, ?_, ?_, ?_⟩
            · unfold p_Ir_permit
              rw [r1, v]
              exact ⟨fun _ => trivial, fun _ => ⟨fun _ => trivial, fun _ => ⟨fun _ => trivial, fun _ _ => ⟨r2, fun _ => ⟨fun _ => trivial, fun _ => ⟨hv5, hv5, hv5, hv5, hv5, hv5⟩⟩, fun _ => trivial⟩⟩⟩⟩
            · unfold p_Mo_permit
              refine ⟨fun h => absurd h d1, fun _ => ⟨fun h => absurd h d2, fun _ => ⟨fun h => absurd h d3, fun _ => ⟨r3, fun _ => ⟨fun h => absurd h c6, fun _ => ⟨fun _ => ?_, fun _ => trivial⟩⟩, fun h => absurd v h⟩⟩⟩⟩
              rw [v, tw_000]
              dsimp only
              rw [w2]
              dsimp only
              rw [hB']
              exact ⟨w1, hv, hv⟩
            · rw [eI, eM]; rfl
            · rw [eI, eM]; intro _; show sc 5 = nI P + 1 - 1; rw [p3, Int32.add_sub_cancel]
            · rw [eI, eM]
              have a1' := add1 h.1 (by omega)
              have hk : (sc 5).toNatClampNeg = P := by rw [p3]; exact hc
              have g0 : ∀ j, 120 ≤ j → G j = br 22 j := fun j hj => by rw [w3 j, if_neg (by omega)]
              exact ⟨⟨hR.1.1, hR.1.2.1, hR.1.2.2.1, hR.1.2.2.2.1, hR.1.2.2.2.2.1, hR.1.2.2.2.2.2.1, hR.1.2.2.2.2.2.2.1, hR.1.2.2.2.2.2.2.2.1, hR.1.2.2.2.2.2.2.2.2.1, hR.1.2.2.2.2.2.2.2.2.2.1, hR.1.2.2.2.2.2.2.2.2.2.2.1, hR.1.2.2.2.2.2.2.2.2.2.2.2.1, hR.1.2.2.2.2.2.2.2.2.2.2.2.2.1, hR.1.2.2.2.2.2.2.2.2.2.2.2.2.2.1, hR.1.2.2.2.2.2.2.2.2.2.2.2.2.2.2.1, hR.1.2.2.2.2.2.2.2.2.2.2.2.2.2.2.2.1, hR.1.2.2.2.2.2.2.2.2.2.2.2.2.2.2.2.2.1, hR.1.2.2.2.2.2.2.2.2.2.2.2.2.2.2.2.2.2.1, (by show upd (ar 35) _ _ = upd (br 23) _ _; rw [v_pf hR]; show upd (br 23) (sc 5).toNatClampNeg a0 = _; rw [hk]), (by show upd (ar 36) _ _ = upd (br 24) _ _; rw [v_pt hR]; show upd (br 24) (sc 5).toNatClampNeg a1 = _; rw [hk]), (fun p hp => by
                  show upd (ar 31) (sc 5).toNatClampNeg (sc 7) p = G (4 * p) ∧ upd (ar 32) (sc 5).toNatClampNeg (sc 8) p = G (4 * p + 1) ∧ upd (ar 33) (sc 5).toNatClampNeg (sc 9) p = G (4 * p + 2) ∧ upd (ar 34) (sc 5).toNatClampNeg (sc 10) p = G (4 * p + 3)
                  rw [hk, w3, w3, w3, w3]
                  by_cases hq : p = P
                  · rw [hq, us, us, us, us, if_pos (by omega), if_pos (by omega), if_pos (by omega), if_pos (by omega)]
                    refine ⟨?_, ?_, ?_, ?_⟩
                    · rw [v_g1 hR]; exact congrArg (br 22) (by omega)
                    · rw [v_g2 hR]; exact congrArg (br 22) (by omega)
                    · rw [v_g3 hR]; exact congrArg (br 22) (by omega)
                    · rw [v_g4 hR]; exact congrArg (br 22) (by omega)
                  · rw [un hq, un hq, un hq, un hq, if_neg (by omega), if_neg (by omega), if_neg (by omega), if_neg (by omega)]
                    exact v_pg hR p hp)⟩, ⟨hR.2.1.1, hR.2.1.2.1, hR.2.1.2.2.1, hR.2.1.2.2.2.1, (by show sc 5 + 1 = nI P + 1; rw [p3]), hR.2.1.2.2.2.2.2.1, (by show sc 7 = G 120; rw [g0 _ (by omega)]; exact v_g1 hR), (by show sc 8 = G 121; rw [g0 _ (by omega)]; exact v_g2 hR), (by show sc 9 = G 122; rw [g0 _ (by omega)]; exact v_g3 hR), (by show sc 10 = G 123; rw [g0 _ (by omega)]; exact v_g4 hR), hR.2.1.2.2.2.2.2.2.2.2.2.2.1, hR.2.1.2.2.2.2.2.2.2.2.2.2.2.1, rfl⟩, ⟨hR.2.2.1, hR.2.2.2.1, hR.2.2.2.2.1, hR.2.2.2.2.2.1, (by show 0 ≤ (sc 5 + 1).toInt ∧ (sc 5 + 1).toInt ≤ 30; rw [a1']; omega), hR.2.2.2.2.2.2.2.1, hR.2.2.2.2.2.2.2.2.1, hR.2.2.2.2.2.2.2.2.2.1, hR.2.2.2.2.2.2.2.2.2.2.1, hR.2.2.2.2.2.2.2.2.2.2.2.1, hR.2.2.2.2.2.2.2.2.2.2.2.2.1, hR.2.2.2.2.2.2.2.2.2.2.2.2.2.1, (fun p hp => by
                  have hp' : (p : Int) < (sc 5 + 1).toInt := hp
                  rw [a1'] at hp'
                  show (-10000000 ≤ (upd (ar 31) (sc 5).toNatClampNeg (sc 7) p).toInt ∧ (upd (ar 31) (sc 5).toNatClampNeg (sc 7) p).toInt ≤ (upd (ar 33) (sc 5).toNatClampNeg (sc 9) p).toInt ∧ (upd (ar 33) (sc 5).toNatClampNeg (sc 9) p).toInt ≤ 10000000) ∧ -10000000 ≤ (upd (ar 32) (sc 5).toNatClampNeg (sc 8) p).toInt ∧ (upd (ar 32) (sc 5).toNatClampNeg (sc 8) p).toInt ≤ (upd (ar 34) (sc 5).toNatClampNeg (sc 10) p).toInt ∧ (upd (ar 34) (sc 5).toNatClampNeg (sc 10) p).toInt ≤ 10000000
                  rw [hk]
                  by_cases hq : p = P
                  · rw [hq, us, us, us, us]; exact v_kgr hR
                  · rw [un hq, un hq, un hq, un hq]; exact v_kpg hR p (by omega))⟩⟩
        · by_cases c6 : bc 8 = 30
          · simp [f_Ir_permit, p_Ir_permit, f_Mo_permit, p_Mo_permit, iw_eq, d1, d2, d3, x1, x2, x3, r1, r2, r3, s9, s8, t13, t5, v, c6, tw_011, th_0, kc_permit, i10]
            exact ⟨⟨hR.1.1, hR.1.2.1, hR.1.2.2.1, hR.1.2.2.2.1, hR.1.2.2.2.2.1, hR.1.2.2.2.2.2.1, hR.1.2.2.2.2.2.2.1, hR.1.2.2.2.2.2.2.2.1, hR.1.2.2.2.2.2.2.2.2.1, hR.1.2.2.2.2.2.2.2.2.2.1, hR.1.2.2.2.2.2.2.2.2.2.2.1, hR.1.2.2.2.2.2.2.2.2.2.2.2.1, hR.1.2.2.2.2.2.2.2.2.2.2.2.2.1, hR.1.2.2.2.2.2.2.2.2.2.2.2.2.2.1, hR.1.2.2.2.2.2.2.2.2.2.2.2.2.2.2.1, hR.1.2.2.2.2.2.2.2.2.2.2.2.2.2.2.2.1, hR.1.2.2.2.2.2.2.2.2.2.2.2.2.2.2.2.2.1, hR.1.2.2.2.2.2.2.2.2.2.2.2.2.2.2.2.2.2.1, hR.1.2.2.2.2.2.2.2.2.2.2.2.2.2.2.2.2.2.2.1, hR.1.2.2.2.2.2.2.2.2.2.2.2.2.2.2.2.2.2.2.2.1, hR.1.2.2.2.2.2.2.2.2.2.2.2.2.2.2.2.2.2.2.2.2⟩, ⟨hR.2.1.1, hR.2.1.2.1, hR.2.1.2.2.1, hR.2.1.2.2.2.1, hR.2.1.2.2.2.2.1, hR.2.1.2.2.2.2.2.1, hR.2.1.2.2.2.2.2.2.1, hR.2.1.2.2.2.2.2.2.2.1, hR.2.1.2.2.2.2.2.2.2.2.1, hR.2.1.2.2.2.2.2.2.2.2.2.1, hR.2.1.2.2.2.2.2.2.2.2.2.2.1, hR.2.1.2.2.2.2.2.2.2.2.2.2.2.1, rfl⟩, ⟨hR.2.2.1, hR.2.2.2.1, hR.2.2.2.2.1, hR.2.2.2.2.2.1, hR.2.2.2.2.2.2.1, hR.2.2.2.2.2.2.2.1, hR.2.2.2.2.2.2.2.2.1, hR.2.2.2.2.2.2.2.2.2.1, hR.2.2.2.2.2.2.2.2.2.2.1, hR.2.2.2.2.2.2.2.2.2.2.2.1, hR.2.2.2.2.2.2.2.2.2.2.2.2.1, hR.2.2.2.2.2.2.2.2.2.2.2.2.2.1, hR.2.2.2.2.2.2.2.2.2.2.2.2.2.2⟩⟩
          · simp [f_Ir_permit, p_Ir_permit, f_Mo_permit, p_Mo_permit, iw_eq, d1, d2, d3, x1, x2, x3, r1, r2, r3, s9, s8, t13, t5, v, c6, tw_010, th_0, kc_permit, i10]
            exact ⟨⟨hR.1.1, hR.1.2.1, hR.1.2.2.1, hR.1.2.2.2.1, hR.1.2.2.2.2.1, hR.1.2.2.2.2.2.1, hR.1.2.2.2.2.2.2.1, hR.1.2.2.2.2.2.2.2.1, hR.1.2.2.2.2.2.2.2.2.1, hR.1.2.2.2.2.2.2.2.2.2.1, hR.1.2.2.2.2.2.2.2.2.2.2.1, hR.1.2.2.2.2.2.2.2.2.2.2.2.1, hR.1.2.2.2.2.2.2.2.2.2.2.2.2.1, hR.1.2.2.2.2.2.2.2.2.2.2.2.2.2.1, hR.1.2.2.2.2.2.2.2.2.2.2.2.2.2.2.1, hR.1.2.2.2.2.2.2.2.2.2.2.2.2.2.2.2.1, hR.1.2.2.2.2.2.2.2.2.2.2.2.2.2.2.2.2.1, hR.1.2.2.2.2.2.2.2.2.2.2.2.2.2.2.2.2.2.1, hR.1.2.2.2.2.2.2.2.2.2.2.2.2.2.2.2.2.2.2.1, hR.1.2.2.2.2.2.2.2.2.2.2.2.2.2.2.2.2.2.2.2.1, hR.1.2.2.2.2.2.2.2.2.2.2.2.2.2.2.2.2.2.2.2.2⟩, ⟨hR.2.1.1, hR.2.1.2.1, hR.2.1.2.2.1, hR.2.1.2.2.2.1, hR.2.1.2.2.2.2.1, hR.2.1.2.2.2.2.2.1, hR.2.1.2.2.2.2.2.2.1, hR.2.1.2.2.2.2.2.2.2.1, hR.2.1.2.2.2.2.2.2.2.2.1, hR.2.1.2.2.2.2.2.2.2.2.2.1, hR.2.1.2.2.2.2.2.2.2.2.2.2.1, hR.2.1.2.2.2.2.2.2.2.2.2.2.2.1, rfl⟩, ⟨hR.2.2.1, hR.2.2.2.1, hR.2.2.2.2.1, hR.2.2.2.2.2.1, hR.2.2.2.2.2.2.1, hR.2.2.2.2.2.2.2.1, hR.2.2.2.2.2.2.2.2.1, hR.2.2.2.2.2.2.2.2.2.1, hR.2.2.2.2.2.2.2.2.2.2.1, hR.2.2.2.2.2.2.2.2.2.2.2.1, hR.2.2.2.2.2.2.2.2.2.2.2.2.1, hR.2.2.2.2.2.2.2.2.2.2.2.2.2.1, hR.2.2.2.2.2.2.2.2.2.2.2.2.2.2⟩⟩


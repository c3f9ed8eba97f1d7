set_option maxHeartbeats 4000000 in
set_option maxRecDepth 100000 in
theorem eq_list {ar : Nat → Nat → Int32} {sc : Nat → Int32} {br : Nat → Nat → Int32} {bc : Nat → Int32} (hR : RL ar sc br bc) (a0 : Int32) (a1 : Int32) : (p_Ir_list ar sc a0 a1) ∧ (p_Mo_list br bc a0 a1) ∧ f_Mo_thrown ((f_Mo_list br bc a0 a1).2.1) ((f_Mo_list br bc a0 a1).2.2) = kc_list (f_Ir_list ar sc a0 a1).1 ∧ ((f_Ir_list ar sc a0 a1).1 = none → (f_Ir_list ar sc a0 a1).2.1 = (f_Mo_list br bc a0 a1).1) ∧ RL (f_Ir_list ar sc a0 a1).2.2.1 (f_Ir_list ar sc a0 a1).2.2.2 ((f_Mo_list br bc a0 a1).2.1) ((f_Mo_list br bc a0 a1).2.2) := by
  have e := isP hR a0
  have hw : wq (br 15) (br 16) (br 17) := by
    have h := v_kqu hR
    rw [v_qt hR, v_qy hR, v_qn hR] at h
    exact h
  have hw' : wq (ar 18) (ar 19) (ar 20) := v_kqu hR
  have hk : qk 200 (0 : Int32) := Or.inr ⟨by decide, by decide, by decide⟩
  obtain ⟨pg, g0⟩ := go0 (br := br) (bc := bc) a0 a1 0 hw 200 0 0 hk
  have A := an (ar := ar) (sc := sc) a1 hw' 200 0 0 (ar 22) 0 hk (Or.inr (by decide)) (by omega) (by omega)
  rw [sg_id, nI_0, v_qt hR, v_qy hR, v_qn hR, v_qw hR] at A
  have pa : p_Questions_answer ar sc a1 := A.1
  have pg' : p_Mo_go br bc a0 a1 0 0 := pg
  have g0' : f_Mo_go br bc a0 a1 0 0 = (wn 0 (wl (br 15) (br 16) (br 17) (br 18) a1 200 0), br, bc) := g0
  cases hW : wl (br 15) (br 16) (br 17) (br 18) a1 200 0 with
  | none =>
    obtain ⟨F, d, hA⟩ := A.2.1 hW
    have eA : f_Questions_answer ar sc a1 = (0, sg ar 22 F, sg sc 3 d) := hA
    have eG : f_Mo_go br bc a0 a1 0 0 = (-1, br, bc) := by rw [g0', hW]; rfl
    have c9 : ¬ (0 : Int32) ≤ -1 := by decide
    by_cases c1 : f_Ir_isPoint ar sc a0 = 0
    · by_cases c2 : bc 3 + -1 ≤ 100
      · simp only [f_Ir_list, p_Ir_list, f_Mo_list, p_Mo_list, eG, e, c1, c2, c9, tw_110, th_0, kc_list, i10, if_true, if_false, pg'] <;> exact ⟨by simp, by simp, trivial, by simp, hR⟩
      · simp only [f_Ir_list, p_Ir_list, f_Mo_list, p_Mo_list, eG, e, c1, c2, c9, tw_111, th_0, kc_list, i10, if_true, if_false, pg'] <;> exact ⟨by simp, by simp, trivial, by simp, hR⟩
    · by_cases c2 : bc 3 + -1 ≤ 100
      · simp only [f_Ir_list, p_Ir_list, f_Mo_list, p_Mo_list, eA, eG, e, c1, c2, c9, tw_010, th_0, kc_list, i10, if_true, if_false, pa, pg'] <;> exact ⟨by simp, by simp, rfl, by simp, hR⟩
      · simp only [f_Ir_list, p_Ir_list, f_Mo_list, p_Mo_list, eA, eG, e, c1, c2, c9, tw_011, th_0, kc_list, i10, if_true, if_false, pa, pg'] <;> exact ⟨by simp, by simp, rfl, by simp, hR⟩
  | some M =>
    obtain ⟨hl, F, hA, _, hF⟩ := A.2.2 M hW
    rw [Nat.zero_add] at hl hA
    have eA : f_Questions_answer ar sc a1 = (1, sg ar 22 F, sg sc 3 (nI M.length)) := hA
    have eG : f_Mo_go br bc a0 a1 0 0 = (nI M.length, br, bc) := by
      rw [g0', hW]
      show (0 + nI M.length, br, bc) = _
      rw [Int32.zero_add]
    have c9 : (0 : Int32) ≤ nI M.length := nI_pos' (by omega)
    have hn := v_ifn hR
    have en := v_fn hR
    have hs : (sc 2 + nI M.length).toInt = (sc 2).toInt + M.length := by
      rw [addI (by rw [nI_toInt (by omega)]; omega) (by rw [nI_toInt (by omega)]; omega), nI_toInt (by omega)]
    by_cases c1 : f_Ir_isPoint ar sc a0 = 0
    · by_cases c2 : bc 3 + nI M.length ≤ 100
      · simp only [f_Ir_list, p_Ir_list, f_Mo_list, p_Mo_list, eG, e, c1, c2, c9, tw_100, th_0, kc_list, i10, if_true, if_false, pg'] <;> exact ⟨by simp, by simp, trivial, by simp, hR⟩
      · simp only [f_Ir_list, p_Ir_list, f_Mo_list, p_Mo_list, eG, e, c1, c2, c9, tw_101, th_0, kc_list, i10, if_true, if_false, pg'] <;> exact ⟨by simp, by simp, trivial, by simp, hR⟩
    · by_cases c2 : bc 3 + nI M.length ≤ 100
      · have h1 := isP_no c1
        obtain ⟨p, p1, p2, rfl⟩ := ex_nI h1.1 (Int.le_of_lt h1.2)
        have hp : (p : Int) < (sc 1).toInt := by rw [nI_toInt p1] at h1; exact h1.2
        have hr : (sc 2).toInt + (M.length : Int) ≤ 100 := by
          rw [← en, Int32.le_iff_toInt_le, hs, show (100 : Int32).toInt = 100 from rfl] at c2
          exact c2
        have c3 : ¬ (100 : Int32) < (sg sc 3 (nI M.length)) 2 + (sg sc 3 (nI M.length)) 3 := by
          show ¬ (100 : Int32) < sc 2 + nI M.length
          rw [Int32.lt_iff_toInt_lt, hs, show (100 : Int32).toInt = 100 from rfl]; omega
        have hR1 : RL (sg ar 22 F) (sg sc 3 (nI M.length)) br (sg bc 0 0) := hR
        obtain ⟨k1, ⟨G, k2⟩, k3, k4⟩ := cls hR1 hp
        have hR2 : RL (sg (sg ar 22 F) 37 G) (sg sc 3 (nI M.length)) br (sg bc 0 0) := hR
        have el : (sg sc 3 (nI M.length)) 0 + (sg (sg ar 22 F) 37 G) 5 (f_Mo_classOf br (sg bc 0 0) (nI p)).toNatClampNeg = bc 1 + br 4 (f_Mo_classOf br (sg bc 0 0) (nI p)).toNatClampNeg := by
          show sc 0 + ar 5 _ = _
          rw [v_dy hR, v_tm hR]
        obtain ⟨l1, l2, l3⟩ := ld (nI p) a1 (bc 1 + br 4 (f_Mo_classOf br (sg bc 0 0) (nI p)).toNatClampNeg) M.length hl M 200 0 (sg (sg ar 22 F) 37 G) (sg sc 3 (nI M.length)) rfl (by omega) (by omega) (fun j hj => by rw [Nat.zero_add]; have := hF j hj; rw [Nat.zero_add] at this; exact this) hn.1 hr
        rw [nI_0] at l1 l2
        obtain ⟨m1, m2⟩ := go1 (nI p) a1 (bc 1 + br 4 (f_Mo_classOf br (sg bc 0 0) (nI p)).toNatClampNeg) (br 15) (br 16) (br 17) (br 18) hw 200 0 0 br (sg bc 0 0) M rfl rfl rfl rfl hk hW (by show 0 ≤ (bc 3).toInt; rw [← en]; exact hn.1) (by show (bc 3).toInt + _ ≤ 100; rw [← en]; exact hr)
        rw [Int32.zero_add] at m2
        have m2' : f_Mo_go br (sg bc 0 0) (nI p) a1 1 (bc 1 + br 4 (f_Mo_classOf br (sg bc 0 0) (nI p)).toNatClampNeg) = (nI M.length, mfold (nI p) (bc 1 + br 4 (f_Mo_classOf br (sg bc 0 0) (nI p)).toNatClampNeg) M br (sg bc 0 0)) := m2
        have m1' : p_Mo_go br (sg bc 0 0) (nI p) a1 1 (bc 1 + br 4 (f_Mo_classOf br (sg bc 0 0) (nI p)).toNatClampNeg) := m1
        have eI : f_Ir_list ar sc (nI p) a1 = (none, nI M.length, cfold (nI p) (bc 1 + br 4 (f_Mo_classOf br (sg bc 0 0) (nI p)).toNatClampNeg) M (sg (sg ar 22 F) 37 G) (sg sc 3 (nI M.length))) := by
          unfold f_Ir_list
          rw [if_neg c1, eA]
          dsimp only
          rw [if_neg i10, if_neg c3, k2]
          dsimp only
          rw [el, l2]
          dsimp only
          rw [l3]
        have eM : f_Mo_list br bc (nI p) a1 = (nI M.length, mfold (nI p) (bc 1 + br 4 (f_Mo_classOf br (sg bc 0 0) (nI p)).toNatClampNeg) M br (sg bc 0 0)) := by
          unfold f_Mo_list
          rw [eG]
          dsimp only
          rw [e, if_neg c1, if_pos c9, if_pos c2, tw_000]
          dsimp only
          rw [if_pos rfl, show (sg bc 0 0) 1 = bc 1 from rfl, m2']
        refine ⟨?_, ?_, ?_, ?_, ?_⟩
        · unfold p_Ir_list
          rw [eA]
          dsimp only
          rw [k2]
          dsimp only
          rw [el]
          exact fun _ => ⟨pa, fun _ => ⟨fun _ => trivial, fun _ => ⟨k1, k4, l1⟩⟩⟩
        · unfold p_Mo_list
          rw [eG]
          dsimp only
          rw [e]
          refine ⟨pg', fun h => absurd h c1, fun _ => ⟨fun _ => ⟨fun _ => ?_, fun h => absurd c2 h⟩, fun h => absurd c9 h⟩⟩
          rw [tw_000]
          exact ⟨fun _ => ⟨k3, k4, m1'⟩, fun _ => trivial⟩
        · rw [eI, eM]; exact mf_0 _ _ _ _ _
        · rw [eI, eM]; exact fun _ => rfl
        · rw [eI, eM]; exact rl_fold _ M _ _ _ _ hR2 h1 hr
      · have c3 : (100 : Int32) < (sg sc 3 (nI M.length)) 2 + (sg sc 3 (nI M.length)) 3 := by
          show (100 : Int32) < sc 2 + nI M.length
          rw [en]
          exact Int32.not_le.mp c2
        simp only [f_Ir_list, p_Ir_list, f_Mo_list, p_Mo_list, eA, eG, e, c1, c2, c3, c9, tw_001, th_0, kc_list, i10, if_true, if_false, pa, pg'] <;> exact ⟨by simp, by simp, rfl, by simp, hR⟩

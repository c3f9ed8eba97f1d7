
theorem ex_nI {x : Int32} {N : Int} (h0 : 0 ≤ x.toInt) (h1 : x.toInt ≤ N) : ∃ k : Nat, k < 2 ^ 31 ∧ (k : Int) ≤ N ∧ x = nI k := by
  obtain ⟨j, hj, e⟩ := nI_of (x := x) (by rw [Int32.lt_iff_toInt_lt, iz]; omega)
  refine ⟨j, hj, ?_, e⟩
  rw [e, nI_toInt hj] at h1; exact h1
theorem sg_eq {α : Type} (f : Nat → α) (k : Nat) (v : α) : sg f k v k = v := by
  have hk : Nat.beq k k = true := by simp
  unfold sg; rw [hk]; rfl
theorem s2_sg {ar : Nat → Nat → Int32} {F : Nat → Int32} {k i : Nat} {x : Int32} : s2 (sg ar k F) k i x = sg ar k (upd F i x) := by
  funext j
  unfold s2
  rw [sg_eq]
  unfold sg
  cases Nat.beq j k <;> rfl
theorem sg_id {α : Type} (f : Nat → α) (k : Nat) : sg f k (f k) = f := by
  funext j
  unfold sg
  cases h : Nat.beq j k
  · rfl
  · rw [Nat.eq_of_beq_eq_true h]; rfl
theorem sg_sg {α : Type} (f : Nat → α) (k : Nat) (v w : α) : sg (sg f k v) k w = sg f k w := by
  funext j
  unfold sg
  cases Nat.beq j k <;> rfl
theorem fr2 {ar : Nat → Nat → Int32} {sc : Nat → Int32} {P : Nat} (hP : sc 1 = nI P) (hP30 : P ≤ 30) (hk : ∀ j, j < P → 0 ≤ (ar 7 j).toInt ∧ (ar 7 j).toInt < 5) : ∀ n i F, i ≤ P → P - i < n → q_Ir_fillRisks_2 n (nI i) (sg ar 37 F) sc ∧ ∃ F', g_Ir_fillRisks_2 n (nI i) (sg ar 37 F) sc = (nI P, sg ar 37 F', sc) ∧ ∀ j, F' j = if i ≤ j ∧ j < P then ar 2 (ar 7 j).toNatClampNeg + ar 8 j else F j := by
  intro n
  induction n with
  | zero => intro i F h1 h2; omega
  | succ n ih =>
    intro i F h1 h2
    rw [q_Ir_fillRisks_2, g_Ir_fillRisks_2, hP]
    by_cases c : i = P
    · have c' : nI P ≤ nI i := nI_le (by omega) (by omega)
      refine ⟨⟨fun _ => trivial, fun h => absurd c' h⟩, F, ?_, ?_⟩
      · rw [if_pos c', c]
      · intro j; rw [if_neg (by omega)]
    · have c' : ¬ nI P ≤ nI i := nI_ge (by omega) (by omega)
      have hc : (nI i).toNatClampNeg = i := nI_clamp (by omega)
      have hv : vp_in (nI i) 30 := vp_in_nI (by omega) (by omega)
      have hki := hk i (by omega)
      rw [hc, nI_1, s2_sg]
      obtain ⟨hq, F', e1, e2⟩ := ih (i + 1) (upd F i (ar 2 (ar 7 i).toNatClampNeg + ar 8 i)) (by omega) (by omega)
      refine ⟨⟨fun h => absurd h c', fun _ => ⟨hv, vin hki.1 hki.2, hv, hv, hq⟩⟩, F', ?_, ?_⟩
      · rw [if_neg c']; exact e1
      · intro j
        rw [e2 j]
        by_cases hj : j = i
        · rw [hj, us, if_neg (by omega), if_pos (by omega)]
        · rw [un hj]
          by_cases h3 : i ≤ j ∧ j < P
          · rw [if_pos (by omega), if_pos h3]
          · rw [if_neg (by omega), if_neg h3]
theorem rO {ar br : Nat → Nat → Int32} {sc bc : Nat → Int32} (hR : RL ar sc br bc) {i : Nat} (hi : i < 100) : f_Findings_riskOn ar sc (nI i) (sc 0) = if br 14 i = 0 then (if f_Mo_isMissed br bc (nI i) = 0 then br 12 i else 2 * br 12 i) else 0 := by
  have hc : (nI i).toNatClampNeg = i := nI_clamp (by omega)
  unfold f_Findings_riskOn
  rw [im_eq hR, hc]
  unfold f_Findings_isOpen
  rw [hc, v_fp hR, v_fw hR]
  by_cases o : br 14 i = 0
  · rw [if_pos o, if_pos o, if_neg i10]
  · rw [if_neg o, if_neg o, if_pos rfl]
theorem fr54 {ar br : Nat → Nat → Int32} {sc bc : Nat → Int32} (hR : RL ar sc br bc) {N : Nat} (hN : sc 2 = nI N) (hN1 : N ≤ 100) : ∀ n i F, i ≤ N → N - i < n → q_Ir_fillRisks_54 n (nI i) (sg ar 37 F) sc ∧ ∃ F', g_Ir_fillRisks_54 n (nI i) (sg ar 37 F) sc = (nI N, sg ar 37 F', sc) ∧ ∀ p, p < 30 → F' p = (g_Mo_riskOf_34 br bc (nI p) n (F p) (nI i)).1 := by
  intro n
  induction n with
  | zero => intro i F h1 h2; omega
  | succ n ih =>
    intro i F h1 h2
    have hB : bc 3 = nI N := by rw [← v_fn hR]; exact hN
    rw [q_Ir_fillRisks_54, g_Ir_fillRisks_54, hN]
    by_cases c : i = N
    · have c' : nI N ≤ nI i := nI_le (by omega) (by omega)
      refine ⟨⟨fun _ => trivial, fun h => absurd c' h⟩, F, ?_, ?_⟩
      · rw [if_pos c', c]
      · intro p _; rw [g_Mo_riskOf_34, hB, if_pos c']
    · have c' : ¬ nI N ≤ nI i := nI_ge (by omega) (by omega)
      have hc : (nI i).toNatClampNeg = i := nI_clamp (by omega)
      have hv : vp_in (nI i) 100 := vp_in_nI (by omega) (by omega)
      have hk := v_kfo hR i (by rw [hN, nI_toInt (by omega)]; omega)
      have hk2 := v_ipn hR
      have hk3 := clN hk.1
      have hk4 : ar 13 i = nI (ar 13 i).toNatClampNeg := by
        obtain ⟨k, k1, k2, k3⟩ := ex_nI (N := 30) hk.1 (by omega)
        rw [k3, nI_clamp k1]
      have hw : vp_in (ar 13 i) 30 := vin hk.1 (by omega)
      have hro := rO hR (i := i) (by omega)
      have hpr : p_Findings_riskOn ar sc (nI i) (sc 0) := ⟨hv, fun _ => trivial, fun _ => ⟨⟨hv, fun _ => trivial, fun _ => hv⟩, fun _ => hv, fun _ => hv⟩⟩
      rw [hc, nI_1, show (sg ar 37 F) 13 = ar 13 from rfl, s2_sg]
      obtain ⟨hq, F', e1, e2⟩ := ih (i + 1) (upd F (ar 13 i).toNatClampNeg (F (ar 13 i).toNatClampNeg + f_Findings_riskOn ar sc (nI i) (sc 0))) (by omega) (by omega)
      refine ⟨⟨fun h => absurd h c', fun _ => ⟨hv, hw, hpr, hw, hq⟩⟩, F', ?_, ?_⟩
      · rw [if_neg c']; exact e1
      · intro p hp
        rw [e2 p hp, g_Mo_riskOf_34, hB, if_neg c', hc, nI_1, ← v_fo hR, hro]
        by_cases hpk : p = (ar 13 i).toNatClampNeg
        · have hx : ar 13 i = nI p := by rw [hpk]; exact hk4
          rw [if_pos hx, hpk, us]
          by_cases o : br 14 i = 0
          · rw [if_pos o, if_pos o]
            by_cases m : f_Mo_isMissed br bc (nI i) = 0
            · rw [if_pos m, if_pos m]
            · rw [if_neg m, if_neg m]
          · rw [if_neg o, if_neg o, Int32.add_zero]
        · have hx : ¬ ar 13 i = nI p := by
            intro h
            rw [h] at hpk
            exact hpk (nI_clamp (by omega)).symm
          rw [un hpk, if_neg hx]
theorem rq {ar : Nat → Nat → Int32} {sc : Nat → Int32} {a0 : Int32} {N : Nat} (hN : sc 3 = nI N) (hN1 : N ≤ 100) : ∀ n i r, i ≤ N → N - i < n → q_Mo_riskOf_34 ar sc a0 n r (nI i) := by
  intro n
  induction n with
  | zero => intro i r h1 h2; omega
  | succ n ih =>
    intro i r h1 h2
    rw [q_Mo_riskOf_34, hN]
    by_cases c : i = N
    · have c' : nI N ≤ nI i := nI_le (by omega) (by omega)
      exact ⟨fun _ => trivial, fun h => absurd c' h⟩
    · have c' : ¬ nI N ≤ nI i := nI_ge (by omega) (by omega)
      have hv : vp_in (nI i) 100 := vp_in_nI (by omega) (by omega)
      rw [nI_1]
      have g := fun r => ih (i + 1) r (by omega) (by omega)
      exact ⟨fun h => absurd h c', fun _ => ⟨hv, fun _ => ⟨hv, fun _ => ⟨⟨hv, fun _ => hv, fun _ => trivial⟩, fun _ => ⟨hv, g _⟩, fun _ => ⟨hv, g _⟩⟩, fun _ => g _⟩, fun _ => g _⟩⟩
theorem prk {ar br : Nat → Nat → Int32} {sc bc : Nat → Int32} (hR : RL ar sc br bc) {p : Nat} (hp : (p : Int) < (sc 1).toInt) : p_Mo_riskOf br bc (nI p) := by
  have h1 := v_ipn hR
  have h2 := v_ifn hR
  obtain ⟨N, k1, k2, k3⟩ := ex_nI h2.1 h2.2
  have hv : vp_in (nI p) 30 := vp_in_nI (by omega) (by omega)
  have hc : (nI p).toNatClampNeg = p := nI_clamp (by omega)
  have h3 := v_kkd hR p hp
  have h4 := @rq br bc (nI p) N (by rw [← v_fn hR]; exact k3) (by omega) 200 0
  unfold p_Mo_riskOf
  rw [hc]
  rw [v_kd hR] at h3
  exact ⟨hv, vin h3.1 h3.2, hv, hv, h4 _ (by omega) (by omega)⟩
theorem fr {ar br : Nat → Nat → Int32} {sc bc : Nat → Int32} (hR : RL ar sc br bc) : p_Ir_fillRisks ar sc ∧ ∃ F, f_Ir_fillRisks ar sc = (sg ar 37 F, sc) ∧ ∀ p : Nat, (p : Int) < (sc 1).toInt → F p = f_Mo_riskOf br bc (nI p) := by
  have h1 := v_ipn hR
  have h2 := v_ifn hR
  obtain ⟨P, p1, p2, p3⟩ := ex_nI h1.1 h1.2
  obtain ⟨N, k1, k2, k3⟩ := ex_nI h2.1 h2.2
  have hP : (sc 1).toInt = P := by rw [p3, nI_toInt p1]
  obtain ⟨q2, F1, e1, g1⟩ := fr2 (ar := ar) p3 (by omega) (fun j hj => v_kkd hR j (by omega)) 200 0 (ar 37) (by omega) (by omega)
  obtain ⟨q5, F2, e2, g2⟩ := fr54 hR k3 (by omega) 200 0 F1 (by omega) (by omega)
  rw [sg_id, nI_0] at q2 e1
  rw [nI_0] at q5 e2
  refine ⟨?_, F2, ?_, ?_⟩
  · unfold p_Ir_fillRisks
    rw [e1]
    exact ⟨q2, q5⟩
  · unfold f_Ir_fillRisks
    rw [e1]
    show ((g_Ir_fillRisks_54 200 0 (sg ar 37 F1) sc).2.1, (g_Ir_fillRisks_54 200 0 (sg ar 37 F1) sc).2.2) = _
    rw [e2]
  · intro p hp
    have hc : (nI p).toNatClampNeg = p := nI_clamp (by omega)
    rw [g2 p (by omega), g1 p, if_pos (by omega), nI_0]
    unfold f_Mo_riskOf
    rw [hc, ← v_wt hR, ← v_kd hR, v_ow hR p, Int32.add_assoc]
theorem cf_eq {ar br : Nat → Nat → Int32} {sc bc : Nat → Int32} (h : ar 3 = br 2) (x p : Int32) : ∀ n c v, g_Scale_classFor_4 ar sc x n c v = g_Mo_classOf_11 br bc p x n c v := by
  intro n
  induction n with
  | zero => intro c v; rfl
  | succ n ih =>
    intro c v
    rw [g_Scale_classFor_4, g_Mo_classOf_11, h, ih, ih, Int32.add_zero]
theorem cf_r {ar : Nat → Nat → Int32} {sc : Nat → Int32} (x : Int32) : ∀ n i c, i ≤ 3 → 3 - i < n → c + (3 - i) ≤ 100 → q_Scale_classFor_4 ar sc x n (nI c) (nI i) ∧ ∃ k, k ≤ c + (3 - i) ∧ (g_Scale_classFor_4 ar sc x n (nI c) (nI i)).1 = nI k := by
  intro n
  induction n with
  | zero => intro i c h1 h2 h3; omega
  | succ n ih =>
    intro i c h1 h2 h3
    rw [q_Scale_classFor_4, g_Scale_classFor_4, show (3 : Int32) = nI 3 from rfl]
    by_cases d : i = 3
    · have c' : nI 3 ≤ nI i := nI_le (by omega) (by omega)
      refine ⟨⟨fun _ => trivial, fun h => absurd c' h⟩, c, by omega, ?_⟩
      rw [if_pos c']
    · have c' : ¬ nI 3 ≤ nI i := nI_ge (by omega) (by omega)
      have hv : vp_in (nI i) 3 := vp_in_nI (by omega) (by omega)
      rw [nI_1, nI_1, if_neg c']
      obtain ⟨a1, k1, a2, a3⟩ := ih (i + 1) c (by omega) (by omega) (by omega)
      obtain ⟨b1, k2, b2, b3⟩ := ih (i + 1) (c + 1) (by omega) (by omega) (by omega)
      refine ⟨⟨fun h => absurd h c', fun _ => ⟨hv, fun _ => a1, fun _ => b1⟩⟩, ?_⟩
      by_cases l : x < ar 3 (nI i).toNatClampNeg
      · rw [if_pos l]; exact ⟨k1, by omega, a3⟩
      · rw [if_neg l]; exact ⟨k2, by omega, b3⟩
theorem cfq {ar : Nat → Nat → Int32} {sc : Nat → Int32} (p x : Int32) : ∀ n i c, i ≤ 3 → 3 - i < n → q_Mo_classOf_11 ar sc p x n c (nI i) := by
  intro n
  induction n with
  | zero => intro i c h1 h2; omega
  | succ n ih =>
    intro i c h1 h2
    rw [q_Mo_classOf_11, show (3 : Int32) = nI 3 from rfl]
    by_cases d : i = 3
    · have c' : nI 3 ≤ nI i := nI_le (by omega) (by omega)
      exact ⟨fun _ => trivial, fun h => absurd c' h⟩
    · have c' : ¬ nI 3 ≤ nI i := nI_ge (by omega) (by omega)
      have hv : vp_in (nI i) 3 := vp_in_nI (by omega) (by omega)
      rw [nI_1]
      exact ⟨fun h => absurd h c', fun _ => ⟨hv, fun _ => ih (i + 1) _ (by omega) (by omega), fun _ => ih (i + 1) _ (by omega) (by omega)⟩⟩
theorem cF {ar br : Nat → Nat → Int32} {sc bc : Nat → Int32} (hR : RL ar sc br bc) {p : Nat} (hp : (p : Int) < (sc 1).toInt) : f_Scale_classFor ar sc (f_Mo_riskOf br bc (nI p)) = f_Mo_classOf br bc (nI p) ∧ (∀ x, p_Scale_classFor ar sc x) ∧ p_Mo_classOf br bc (nI p) ∧ vp_in (f_Mo_classOf br bc (nI p)) 4 := by
  have e : f_Scale_classFor ar sc (f_Mo_riskOf br bc (nI p)) = f_Mo_classOf br bc (nI p) := by
    unfold f_Scale_classFor f_Mo_classOf
    rw [cf_eq (v_st hR) _ (nI p)]
  refine ⟨e, fun x => ?_, ⟨prk hR hp, ?_⟩, ?_⟩
  · have h := (cf_r (ar := ar) (sc := sc) x 200 0 0 (by omega) (by omega) (by omega)).1
    rw [nI_0] at h
    exact h
  · have h := cfq (ar := br) (sc := bc) (nI p) (f_Mo_riskOf br bc (nI p)) 200 0 0 (by omega) (by omega)
    rw [nI_0] at h
    exact h
  · obtain ⟨_, k, k1, k2⟩ := cf_r (ar := ar) (sc := sc) (f_Mo_riskOf br bc (nI p)) 200 0 0 (by omega) (by omega) (by omega)
    rw [nI_0] at k2
    rw [← e]
    unfold f_Scale_classFor
    rw [k2]
    exact vp_in_nI (by omega) (by omega)
theorem cls {ar br : Nat → Nat → Int32} {sc bc : Nat → Int32} (hR : RL ar sc br bc) {p : Nat} (hp : (p : Int) < (sc 1).toInt) : p_Ir_classOf ar sc (nI p) ∧ (∃ F, f_Ir_classOf ar sc (nI p) = (f_Mo_classOf br bc (nI p), sg ar 37 F, sc)) ∧ p_Mo_classOf br bc (nI p) ∧ vp_in (f_Mo_classOf br bc (nI p)) 4 := by
  obtain ⟨h1, F, h2, h3⟩ := fr hR
  have hb := v_ipn hR
  have hR' : RL (sg ar 37 F) sc br bc := hR
  obtain ⟨c1, c2, c3, c4⟩ := cF hR' hp
  have hc : (nI p).toNatClampNeg = p := nI_clamp (by omega)
  have hv : vp_in (nI p) 30 := vp_in_nI (by omega) (by omega)
  have e : f_Ir_riskOf ar sc (nI p) = (f_Mo_riskOf br bc (nI p), sg ar 37 F, sc) := by
    unfold f_Ir_riskOf
    rw [h2, hc]
    show (F p, sg ar 37 F, sc) = _
    rw [h3 p hp]
  refine ⟨⟨⟨h1, hv⟩, ?_⟩, ⟨F, ?_⟩, c3, c4⟩
  · rw [e]; exact c2 _
  · unfold f_Ir_classOf
    rw [e]
    show (f_Scale_classFor (sg ar 37 F) sc (f_Mo_riskOf br bc (nI p)), sg ar 37 F, sc) = _
    rw [c1]
theorem rl_add {ar br : Nat → Nat → Int32} {sc bc : Nat → Int32} (hR : RL ar sc br bc) {p : Int32} (w l : Int32) (hp : 0 ≤ p.toInt ∧ p.toInt < (sc 1).toInt) (hf : (sc 2).toInt < 100) : RL (f_Findings_add ar sc p w l).2.1 (f_Findings_add ar sc p w l).2.2 (f_Mo_add br bc p w l).1 (f_Mo_add br bc p w l).2 := by
  have e := v_fn hR
  have h := v_ifn hR
  have a1 := add1 h.1 (by omega)
  have hk := clN h.1
  exact ⟨⟨hR.1.1, hR.1.2.1, hR.1.2.2.1, hR.1.2.2.2.1, hR.1.2.2.2.2.1, hR.1.2.2.2.2.2.1, hR.1.2.2.2.2.2.2.1, hR.1.2.2.2.2.2.2.2.1, hR.1.2.2.2.2.2.2.2.2.1, (by show upd (ar 13) _ _ = upd (br 11) _ _; rw [v_fo hR, e]), (by show upd (ar 14) _ _ = upd (br 12) _ _; rw [v_fw hR, e]), (by show upd (ar 15) _ _ = upd (br 13) _ _; rw [v_fd hR, e]), (by show upd (ar 16) _ _ = upd (br 14) _ _; rw [v_fp hR, e]), hR.1.2.2.2.2.2.2.2.2.2.2.2.2.2.1, hR.1.2.2.2.2.2.2.2.2.2.2.2.2.2.2.1, hR.1.2.2.2.2.2.2.2.2.2.2.2.2.2.2.2.1, hR.1.2.2.2.2.2.2.2.2.2.2.2.2.2.2.2.2.1, hR.1.2.2.2.2.2.2.2.2.2.2.2.2.2.2.2.2.2.1, hR.1.2.2.2.2.2.2.2.2.2.2.2.2.2.2.2.2.2.2.1, hR.1.2.2.2.2.2.2.2.2.2.2.2.2.2.2.2.2.2.2.2.1, hR.1.2.2.2.2.2.2.2.2.2.2.2.2.2.2.2.2.2.2.2.2⟩, ⟨hR.2.1.1, hR.2.1.2.1, (by show sc 2 + 1 = bc 3 + 1; rw [e]), hR.2.1.2.2.2.1, hR.2.1.2.2.2.2.1, hR.2.1.2.2.2.2.2.1, hR.2.1.2.2.2.2.2.2.1, hR.2.1.2.2.2.2.2.2.2.1, hR.2.1.2.2.2.2.2.2.2.2.1, hR.2.1.2.2.2.2.2.2.2.2.2.1, hR.2.1.2.2.2.2.2.2.2.2.2.2.1, hR.2.1.2.2.2.2.2.2.2.2.2.2.2.1, hR.2.1.2.2.2.2.2.2.2.2.2.2.2.2⟩, ⟨hR.2.2.1, hR.2.2.2.1, (by show 0 ≤ (sc 2 + 1).toInt ∧ (sc 2 + 1).toInt ≤ 100; rw [a1]; omega), hR.2.2.2.2.2.1, hR.2.2.2.2.2.2.1, hR.2.2.2.2.2.2.2.1, hR.2.2.2.2.2.2.2.2.1, hR.2.2.2.2.2.2.2.2.2.1, (fun j hj => by
      have hj' : (j : Int) < (sc 2 + 1).toInt := hj
      show 0 ≤ (upd (ar 13) (sc 2).toNatClampNeg p j).toInt ∧ (upd (ar 13) (sc 2).toNatClampNeg p j).toInt < (sc 1).toInt
      by_cases hq : j = (sc 2).toNatClampNeg
      · rw [hq, us]; exact hp
      · rw [un hq]; exact v_kfo hR j (by omega)), (fun j => by
      show 0 ≤ (upd (ar 16) (sc 2).toNatClampNeg 0 j).toInt
      by_cases hq : j = (sc 2).toNatClampNeg
      · rw [hq, us]; decide
      · rw [un hq]; exact v_kfp hR j), hR.2.2.2.2.2.2.2.2.2.2.2.2.1, hR.2.2.2.2.2.2.2.2.2.2.2.2.2.1, hR.2.2.2.2.2.2.2.2.2.2.2.2.2.2⟩⟩
theorem mi_1 {x : Int32} (h : x = -1) : ¬ f_Mo_in x (-1) 1000 = 0 ∧ ¬ 0 ≤ x := by
  rw [h]; constructor <;> decide
theorem mi_2 {x : Int32} (h : ¬ x = -1) : f_Mo_in x (-1) 1000 = 0 ↔ f_Mo_in x 0 1000 = 0 := by
  rw [in_iff, in_iff, show (-1 : Int32).toInt = -1 from rfl, iz]
  have h9 : ¬ x.toInt = -1 := fun h8 => h (Int32.toInt_inj.mp (by rw [h8]; rfl))
  constructor <;> intro h7 <;> omega
theorem mi_3 {x : Int32} (h : ¬ f_Mo_in x 0 1000 = 0) : 0 ≤ x := by
  have := in_no h
  rw [Int32.le_iff_toInt_le]; exact this.1



theorem ah_eq {ar br : Nat → Nat → Int32} {sc bc : Nat → Int32} (hR : RL ar sc br bc) {F : Nat → Int32} (hF : ∀ p : Nat, (p : Int) < (sc 1).toInt → F p = f_Mo_riskOf br bc (nI p)) {p q : Nat} (hp : (p : Int) < (sc 1).toInt) (hq : (q : Int) < (sc 1).toInt) : f_Ir_isAhead (sg ar 37 F) sc (nI q) (nI p) = f_Mo_isAhead br bc (nI q) (nI p) ∧ p_Ir_isAhead (sg ar 37 F) sc (nI q) (nI p) ∧ p_Mo_isAhead br bc (nI q) (nI p) := by
  have hb := v_ipn hR
  have hcp : (nI p).toNatClampNeg = p := nI_clamp (by omega)
  have hcq : (nI q).toNatClampNeg = q := nI_clamp (by omega)
  have hv : vp_in (nI p) 30 := vp_in_nI (by omega) (by omega)
  have hw : vp_in (nI q) 30 := vp_in_nI (by omega) (by omega)
  have e1 : (sg ar 37 F) 37 p = f_Mo_riskOf br bc (nI p) := hF p hp
  have e2 : (sg ar 37 F) 37 q = f_Mo_riskOf br bc (nI q) := hF q hq
  refine ⟨?_, ⟨hw, hv, fun _ => ⟨hw, hv, fun _ => trivial, fun _ => ⟨hw, hv⟩⟩, fun _ => ⟨hw, hv⟩⟩, ⟨prk hR hq, prk hR hp, fun _ => ⟨hw, hv, fun _ => trivial, fun _ => ⟨hw, hv⟩⟩, fun _ => trivial⟩⟩
  unfold f_Ir_isAhead f_Mo_isAhead
  rw [hcp, hcq, e1, e2, show (sg ar 37 F) 11 = ar 11 from rfl, v_vi hR]
  by_cases s : f_Mo_riskOf br bc (nI q) = f_Mo_riskOf br bc (nI p)
  · rw [if_pos s, if_pos s]
    by_cases t : br 10 q = br 10 p
    · rw [if_pos t, if_neg (show ¬ br 10 q < br 10 p by rw [t]; exact Int32.lt_irrefl), if_pos t]
    · rw [if_neg t]
      by_cases u : br 10 q < br 10 p
      · rw [if_pos u, if_neg (Int32.not_le.mpr u)]
      · rw [if_neg u, if_neg t, if_pos (Int32.not_lt.mp u)]
  · rw [if_neg s, if_neg s]
theorem ah_s {ar : Nat → Nat → Int32} {sc : Nat → Int32} (a : Int32) : f_Ir_isAhead ar sc a a = 0 := by
  unfold f_Ir_isAhead
  rw [if_pos rfl, if_pos rfl, if_pos (Int32.le_refl a)]
theorem ca {ar br : Nat → Nat → Int32} {sc bc : Nat → Int32} (hR : RL ar sc br bc) {F : Nat → Int32} (hF : ∀ p : Nat, (p : Int) < (sc 1).toInt → F p = f_Mo_riskOf br bc (nI p)) {P : Nat} (hP : sc 1 = nI P) (hP1 : P ≤ 30) (d a1 : Int32) {p : Nat} (hp : p < P) : ∀ n i c, i ≤ P → P - i < n → q_Ir_countDueAhead_5 (sg ar 37 F) sc (nI p) d n c (nI i) ∧ q_Mo_due_49 d a1 (nI p) n c (nI i) br bc ∧ g_Mo_due_49 d a1 (nI p) n c (nI i) br bc = ((g_Ir_countDueAhead_5 (sg ar 37 F) sc (nI p) d n c (nI i)).1, nI P, br, bc) := by
  intro n
  induction n with
  | zero => intro i c h1 h2; omega
  | succ n ih =>
    intro i c h1 h2
    have hB : bc 2 = nI P := by rw [← v_pn hR]; exact hP
    have hPi : (sc 1).toInt = P := by rw [hP, nI_toInt (by omega)]
    rw [q_Ir_countDueAhead_5, q_Mo_due_49, g_Mo_due_49, g_Ir_countDueAhead_5, hP, hB]
    by_cases k : i = P
    · have c' : nI P ≤ nI i := nI_le (by omega) (by omega)
      refine ⟨⟨fun _ => trivial, fun h => absurd c' h⟩, ⟨fun _ => trivial, fun h => absurd c' h⟩, ?_⟩
      rw [if_pos c', if_pos c', k]
    · have c' : ¬ nI P ≤ nI i := nI_ge (by omega) (by omega)
      obtain ⟨a1', a2, a3⟩ := ah_eq hR hF (p := p) (q := i) (by omega) (by omega)
      obtain ⟨d1, d2, d3⟩ := fd_eq hR hF (p := i) (by omega)
      have hz : i = p → f_Mo_isAhead br bc (nI i) (nI p) = 0 := by
        intro h
        rw [← a1', h]
        exact ah_s _
      rw [nI_1, if_neg c', if_neg c', a1', d1, Int32.add_zero]
      have g := fun c => ih (i + 1) c (by omega) (by omega)
      refine ⟨⟨fun h => absurd h c', fun _ => ⟨a2, fun _ => (g _).1, fun _ => ⟨d2, fun _ => (g _).1, fun _ => (g _).1⟩⟩⟩, ⟨fun h => absurd h c', fun _ => ⟨fun _ => (g _).2.1, fun _ => ⟨d3, fun _ => (g _).2.1, fun _ => ⟨a3, fun _ => (g _).2.1, fun _ => (g _).2.1⟩⟩⟩⟩, ?_⟩
      by_cases s : i = p
      · rw [if_pos (show nI i = nI p by rw [s]), if_pos (hz s)]; exact (g _).2.2
      · rw [if_neg (show ¬ nI i = nI p by rw [nI_eq (by omega) (by omega)]; exact s)]
        by_cases u : d < f_Mo_dueFrom br bc (nI i)
        · rw [if_pos u, if_pos u, ite_self]; exact (g _).2.2
        · rw [if_neg u, if_neg u]
          by_cases w : f_Mo_isAhead br bc (nI i) (nI p) = 0
          · rw [if_pos w, if_pos w]; exact (g _).2.2
          · rw [if_neg w, if_neg w]; exact (g _).2.2
theorem du {ar br : Nat → Nat → Int32} {sc bc : Nat → Int32} (hR : RL ar sc br bc) {F : Nat → Int32} (hF : ∀ p : Nat, (p : Int) < (sc 1).toInt → F p = f_Mo_riskOf br bc (nI p)) {P : Nat} (hP : sc 1 = nI P) (hP1 : P ≤ 30) (d a1 : Int32) : ∀ n i, i ≤ P → P - i < n → q_Ir_due_31 d a1 n (nI i) (sg ar 37 F) sc ∧ q_Mo_due_35 d a1 n (nI i) br bc ∧ ∃ r, g_Ir_due_31 d a1 n (nI i) (sg ar 37 F) sc = (none, r, sg ar 37 F, sc) ∧ g_Mo_due_35 d a1 n (nI i) br bc = (r, br, bc) := by
  intro n
  induction n with
  | zero => intro i h1 h2; omega
  | succ n ih =>
    intro i h1 h2
    have hB : bc 2 = nI P := by rw [← v_pn hR]; exact hP
    have hPi : (sc 1).toInt = P := by rw [hP, nI_toInt (by omega)]
    by_cases k : i = P
    · rw [q_Ir_due_31, q_Mo_due_35, g_Ir_due_31, g_Mo_due_35, hP, hB]
      have c' : nI P ≤ nI i := nI_le (by omega) (by omega)
      exact ⟨⟨fun _ => trivial, fun h => absurd c' h⟩, ⟨fun _ => trivial, fun h => absurd c' h⟩, -1, by rw [if_pos c'], by rw [if_pos c']⟩
    · have c' : ¬ nI P ≤ nI i := nI_ge (by omega) (by omega)
      obtain ⟨d1, d2, d3⟩ := fd_eq hR hF (p := i) (by omega)
      obtain ⟨w1, w2, w3⟩ := ca hR hF hP hP1 d a1 (p := i) (by omega) 200 0 0 (by omega) (by omega)
      rw [nI_0] at w1 w2 w3
      have w4 : f_Ir_countDueAhead (sg ar 37 F) sc (nI i) d = (g_Ir_countDueAhead_5 (sg ar 37 F) sc (nI i) d 200 0 0).1 := rfl
      have w5 : p_Ir_countDueAhead (sg ar 37 F) sc (nI i) d := w1
      obtain ⟨b1, b2, r, b3, b4⟩ := ih (i + 1) (by omega) (by omega)
      rw [q_Ir_due_31, q_Mo_due_35, g_Ir_due_31, g_Mo_due_35, w3, hP, hB, nI_1, d1, w4, if_neg c', if_neg c']
      dsimp only
      refine ⟨⟨fun h => absurd h c', fun _ => ⟨d2, fun _ => b1, fun _ => ⟨w5, fun _ => trivial, fun _ => b1⟩⟩⟩, ⟨fun h => absurd h c', fun _ => ⟨w2, d3, fun _ => b2, fun _ => ⟨fun _ => trivial, fun _ => b2⟩⟩⟩, ?_⟩
      by_cases u : d < f_Mo_dueFrom br bc (nI i)
      · rw [if_pos u, if_pos u]; exact ⟨r, b3, b4⟩
      · rw [if_neg u, if_neg u]
        by_cases v : (g_Ir_countDueAhead_5 (sg ar 37 F) sc (nI i) d 200 0 0).1 = a1
        · rw [if_pos v, if_pos v]; exact ⟨nI i, rfl, rfl⟩
        · rw [if_neg v, if_neg v]; exact ⟨r, b3, b4⟩

set_option maxHeartbeats 4000000 in
set_option maxRecDepth 100000 in
theorem eq_due {ar : Nat → Nat → Int32} {sc : Nat → Int32} {br : Nat → Nat → Int32} {bc : Nat → Int32} (hR : RL ar sc br bc) (a0 : Int32) (a1 : Int32) : (p_Ir_due ar sc a0 a1) ∧ (p_Mo_due br bc a0 a1) ∧ f_Mo_thrown ((f_Mo_due br bc a0 a1).2.1) ((f_Mo_due br bc a0 a1).2.2) = kc_due (f_Ir_due ar sc a0 a1).1 ∧ ((f_Ir_due ar sc a0 a1).1 = none → (f_Ir_due ar sc a0 a1).2.1 = (f_Mo_due br bc a0 a1).1) ∧ RL (f_Ir_due ar sc a0 a1).2.2.1 (f_Ir_due ar sc a0 a1).2.2.2 ((f_Mo_due br bc a0 a1).2.1) ((f_Mo_due br bc a0 a1).2.2) := by
  have e := v_dy hR
  by_cases c1 : f_Mo_in a0 (bc 1) 99999 = 0
  · simp [f_Ir_due, p_Ir_due, f_Mo_due, p_Mo_due, iw_eq, e, c1, tw_100, th_0, kc_due, i10] <;> exact hR
  · by_cases c2 : a1 < 0
    · have c9 : ¬ 0 ≤ a1 := Int32.not_le.mpr c2
      simp [f_Ir_due, p_Ir_due, f_Mo_due, p_Mo_due, iw_eq, e, c1, c2, c9, tw_100, th_0, kc_due, i10] <;> exact hR
    · have c9 : 0 ≤ a1 := Int32.not_lt.mp c2
      have hR0 : RL ar sc br (sg bc 0 0) := hR
      obtain ⟨P, p1, p2, p3⟩ := ex_nI (v_ipn hR).1 (v_ipn hR).2
      obtain ⟨l1, F, l2, l3⟩ := fr hR0
      obtain ⟨b1, b2, r, b3, b4⟩ := du hR0 l3 p3 (by omega) a0 a1 200 0 (by omega) (by omega)
      rw [nI_0] at b1 b2 b3 b4
      have eI : f_Ir_due ar sc a0 a1 = (none, r, sg ar 37 F, sc) := by
        unfold f_Ir_due
        rw [iw_eq, e, if_neg c1, if_neg c2, l2]
        exact b3
      have eM : f_Mo_due br bc a0 a1 = (r, br, sg bc 0 0) := by
        unfold f_Mo_due
        rw [if_neg c1, if_pos c9, tw_000]
        exact b4
      refine ⟨?_, ?_, ?_, ?_, ?_⟩
      · unfold p_Ir_due
        rw [l2]
        exact ⟨fun _ => trivial, fun _ => ⟨fun _ => trivial, fun _ => ⟨l1, b1⟩⟩⟩
      · unfold p_Mo_due
        rw [tw_000]
        exact ⟨fun h => absurd h c1, fun _ => ⟨fun _ => ⟨fun _ => b2, fun _ => trivial⟩, fun h => absurd c9 h⟩⟩
      · rw [eI, eM]; rfl
      · rw [eI, eM]; exact fun _ => rfl
      · rw [eI, eM]; exact hR

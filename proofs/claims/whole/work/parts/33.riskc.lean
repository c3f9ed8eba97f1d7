
theorem co {ar br : Nat → Nat → Int32} {sc bc : Nat → Int32} (hR : RL ar sc br bc) (a0 a1 : Int32) {N : Nat} (hN : sc 2 = nI N) (hN1 : N ≤ 100) : ∀ n i c, i ≤ N → N - i < n → q_Findings_countOpen_4 ar sc a0 n c (nI i) ∧ q_Mo_pointAt_38 a0 a1 n c (nI i) br bc ∧ g_Mo_pointAt_38 a0 a1 n c (nI i) br bc = ((g_Findings_countOpen_4 ar sc a0 n c (nI i)).1, nI N, br, bc) := by
  intro n
  induction n with
  | zero => intro i c h1 h2; omega
  | succ n ih =>
    intro i c h1 h2
    have hB : bc 3 = nI N := by rw [← v_fn hR]; exact hN
    rw [q_Findings_countOpen_4, q_Mo_pointAt_38, g_Mo_pointAt_38, g_Findings_countOpen_4, hN, hB]
    by_cases d : i = N
    · have c' : nI N ≤ nI i := nI_le (by omega) (by omega)
      refine ⟨⟨fun _ => trivial, fun h => absurd c' h⟩, ⟨fun _ => trivial, fun h => absurd c' h⟩, ?_⟩
      rw [if_pos c', if_pos c', d]
    · have c' : ¬ nI N ≤ nI i := nI_ge (by omega) (by omega)
      have hc : (nI i).toNatClampNeg = i := nI_clamp (by omega)
      have hv : vp_in (nI i) 100 := vp_in_nI (by omega) (by omega)
      rw [nI_1, if_neg c', if_neg c', hc, Int32.add_zero]
      have g := fun c => ih (i + 1) c (by omega) (by omega)
      refine ⟨⟨fun h => absurd h c', fun _ => ⟨hv, fun _ => ⟨hv, fun _ => (g _).1, fun _ => (g _).1⟩, fun _ => (g _).1⟩⟩, ⟨fun h => absurd h c', fun _ => ⟨hv, fun _ => ⟨hv, fun _ => (g _).2.1, fun _ => (g _).2.1⟩, fun _ => (g _).2.1⟩⟩, ?_⟩
      unfold f_Findings_isOpen
      rw [hc, v_fo hR, v_fp hR]
      by_cases k : br 11 i = a0
      · rw [if_pos k, if_pos k]
        by_cases o : br 14 i = 0
        · rw [if_pos o, if_pos o, if_neg i10]; exact (g _).2.2
        · rw [if_neg o, if_neg o, if_pos rfl]; exact (g _).2.2
      · rw [if_neg k, if_neg k]; exact (g _).2.2
theorem fd_eq {ar br : Nat → Nat → Int32} {sc bc : Nat → Int32} (hR : RL ar sc br bc) {F : Nat → Int32} (hF : ∀ p : Nat, (p : Int) < (sc 1).toInt → F p = f_Mo_riskOf br bc (nI p)) {p : Nat} (hp : (p : Int) < (sc 1).toInt) : f_Ir_firstDueDay (sg ar 37 F) sc (nI p) = f_Mo_dueFrom br bc (nI p) ∧ p_Ir_firstDueDay (sg ar 37 F) sc (nI p) ∧ p_Mo_dueFrom br bc (nI p) := by
  have hb := v_ipn hR
  have hR' : RL (sg ar 37 F) sc br bc := hR
  obtain ⟨c1, c2, c3, c4⟩ := cF hR' hp
  have hc : (nI p).toNatClampNeg = p := nI_clamp (by omega)
  have hv : vp_in (nI p) 30 := vp_in_nI (by omega) (by omega)
  have hk := v_kvi hR p hp
  have e37 : (sg ar 37 F) 37 p = f_Mo_riskOf br bc (nI p) := hF p hp
  refine ⟨?_, ?_, ?_⟩
  · unfold f_Ir_firstDueDay f_Mo_dueFrom
    rw [hc, e37, c1, show (sg ar 37 F) 11 = ar 11 from rfl, show (sg ar 37 F) 4 = ar 4 from rfl, ← v_vi hR, v_iv hR]
    by_cases d : ar 11 p = -1
    · rw [if_pos d, if_neg (by rw [d]; decide)]
    · rw [if_neg d, if_pos (by rw [Int32.le_iff_toInt_le, iz]; exact hk.resolve_left d)]
  · unfold p_Ir_firstDueDay
    rw [hc, e37]
    exact ⟨hv, fun _ => trivial, fun _ => ⟨hv, c2 _, by rw [c1]; exact c4⟩⟩
  · exact ⟨hv, fun _ => ⟨hv, c3, c4⟩, fun _ => trivial⟩


set_option maxHeartbeats 4000000 in
set_option maxRecDepth 100000 in
theorem eq_walk {ar : Nat → Nat → Int32} {sc : Nat → Int32} {br : Nat → Nat → Int32} {bc : Nat → Int32} (hR : RL ar sc br bc) (a0 : Int64) (a1 : Int32) : (p_Ir_walk ar sc a0 a1) ∧ (p_Mo_walk br bc a0 a1) ∧ f_Mo_thrown ((f_Mo_walk br bc a0 a1).2.1) ((f_Mo_walk br bc a0 a1).2.2) = kc_walk (f_Ir_walk ar sc a0 a1).1 ∧ ((f_Ir_walk ar sc a0 a1).1 = none → (f_Ir_walk ar sc a0 a1).2.1 = (f_Mo_walk br bc a0 a1).1) ∧ RL (f_Ir_walk ar sc a0 a1).2.2.1 (f_Ir_walk ar sc a0 a1).2.2.2 ((f_Mo_walk br bc a0 a1).2.1) ((f_Mo_walk br bc a0 a1).2.2) := by
  obtain ⟨N, hN, hb1, hb2, hn⟩ := cutN a1
  have tex : ∃ t : Nat → Nat, ∀ j, t j < 32 ∧ f_Mo_placeOf a0 (nI j) = nI (t j) := by
    have h : ∀ j : Nat, ∃ t, t < 32 ∧ f_Mo_placeOf a0 (nI j) = nI t := fun j => pl_nI a0
    exact Classical.axiomOfChoice h
  obtain ⟨t, ht⟩ := tex
  have htp : ∀ j, j < 7 → f_Ir_toldPoint a0 (nI j) = nI (t j) := fun j hj => by rw [tp_eq hj]; exact (ht j).2
  obtain ⟨P1, P2⟩ := ap (ar := ar) (sc := sc) (a := a0) hN hb1 200 0 (by omega) (by omega)
  rw [nI_0] at P1 P2
  obtain ⟨W1, v4, v5, z, W2, W3, W4, W5, W6⟩ := w9 (br := br) (bc := bc) (a := a0) (a1 := a1) hN hb2 t (fun j hj => ⟨(ht j).2, (ht j).1⟩) 200 0 0 0 (by omega) (by omega) (Or.inl rfl) (Or.inl rfl)
  rw [nI_0] at W1 W2
  have P2' : f_Ir_areAllPoints ar sc a0 (if 7 < a1 then 7 else a1) = 0 ↔ ∃ j, 0 ≤ j ∧ j < N ∧ f_Ir_isPoint ar sc (f_Ir_toldPoint a0 (nI j)) = 0 := P2
  have eM0 : f_Mo_walk br bc a0 a1 = k_Mo_walk_9 a0 a1 v4 v5 z br bc := by unfold f_Mo_walk; rw [W2]
  have pM0 : p_Mo_walk br bc a0 a1 = (q_Mo_walk_9 a0 a1 200 0 0 0 br bc ∧ j_Mo_walk_9 a0 a1 v4 v5 z br bc) := by unfold p_Mo_walk; rw [W2]
  rw [eM0, pM0]
  by_cases c1 : f_Ir_areAllPoints ar sc a0 (if 7 < a1 then 7 else a1) = 0
  · obtain ⟨j, j0, j1, j2⟩ := P2'.mp c1
    have hv : v4 = 1 := by
      rcases W3 with h | h
      · have := (W5.mp h).2 j j0 j1
        rw [isP hR, ← tp_eq (by omega)] at this
        exact absurd j2 this
      · exact h
    have eI : f_Ir_walk ar sc a0 a1 = (some "java/lang/IllegalArgumentException", 0, ar, sc) := by unfold f_Ir_walk; rw [if_pos c1]
    have pI : p_Ir_walk ar sc a0 a1 := ⟨P1, fun h => absurd c1 h⟩
    rw [eI, hv]
    have jM : j_Mo_walk_9 a0 a1 1 v5 z br bc := by
      unfold j_Mo_walk_9
      rw [tw_110, tw_100]
      exact ⟨fun _ => ⟨fun h => absurd h i10, fun _ => trivial⟩, fun _ => ⟨fun _ => ⟨fun h => absurd h i10, fun _ => trivial⟩, fun _ => ⟨fun h => absurd h i10, fun _ => trivial⟩⟩⟩
    have kM : k_Mo_walk_9 a0 a1 1 v5 z br bc = (0, br, sg bc 0 1) := by
      unfold k_Mo_walk_9
      rw [tw_110, tw_100]
      dsimp only
      rw [if_neg i10, ite_self, ite_self]
    rw [kM]
    exact ⟨pI, ⟨W1, jM⟩, rfl, (fun h => nomatch h), hR⟩
  · have hv : v4 = 0 := W5.mpr ⟨rfl, fun x x0 x1 h => c1 (P2'.mpr ⟨x, x0, x1, by rw [tp_eq (by omega), ← isP hR]; exact h⟩)⟩
    rw [hv]
    by_cases c2 : f_Mo_in a1 0 7 = 0
    · have eI : f_Ir_walk ar sc a0 a1 = (some "java/lang/IndexOutOfBoundsException", 0, ar, sc) := by unfold f_Ir_walk; rw [if_neg c1, iw_eq, if_pos c2]
      have pI : p_Ir_walk ar sc a0 a1 := ⟨P1, fun _ h => absurd c2 h⟩
      have jM : j_Mo_walk_9 a0 a1 0 v5 z br bc := by
        unfold j_Mo_walk_9
        rw [tw_010]
        exact ⟨fun _ => ⟨fun h => absurd h i10, fun _ => trivial⟩, fun h => absurd c2 h⟩
      have kM : k_Mo_walk_9 a0 a1 0 v5 z br bc = (0, br, sg bc 0 2) := by
        unfold k_Mo_walk_9
        rw [if_pos c2, tw_010]
        dsimp only
        rw [if_neg i10]
      rw [eI, kM]
      exact ⟨pI, ⟨W1, jM⟩, rfl, (fun h => nomatch h), hR⟩
    · have ea := hn c2
      obtain ⟨A1, A2⟩ := adf (a := a0) hN t (fun j hj => ⟨htp j (by omega), (ht j).1⟩) 200 0 0 (by omega) (by omega) (fun x _ => ⟨fun h => by rw [b_0] at h; exact absurd h (by decide), fun h => by obtain ⟨j, j1, _⟩ := h; omega⟩)
      rw [nI_0] at A1 A2
      rw [← ea] at A1 A2
      have A2' : f_Ir_areAllDifferent a0 a1 = 0 ↔ ∃ j k, j < k ∧ 0 ≤ k ∧ k < N ∧ t j = t k := A2
      by_cases c3 : f_Ir_areAllDifferent a0 a1 = 0
      · obtain ⟨j, k, k1, k2, k3, k4⟩ := A2'.mp c3
        have hw : ¬ v5 = 0 := fun h => (W6.mp h).2 j k k1 k2 k3 k4
        have eI : f_Ir_walk ar sc a0 a1 = (some "java/lang/IndexOutOfBoundsException", 0, ar, sc) := by unfold f_Ir_walk; rw [if_neg c1, iw_eq, if_neg c2, if_pos c3]
        have pI : p_Ir_walk ar sc a0 a1 := ⟨P1, fun _ _ => ⟨A1, fun h => absurd c3 h⟩⟩
        have jM : j_Mo_walk_9 a0 a1 0 v5 z br bc := by
          unfold j_Mo_walk_9
          rw [tw_010]
          exact ⟨fun h => absurd h c2, fun _ => ⟨fun h => absurd h hw, fun _ => ⟨fun h => absurd h i10, fun _ => trivial⟩⟩⟩
        have kM : k_Mo_walk_9 a0 a1 0 v5 z br bc = (0, br, sg bc 0 2) := by
          unfold k_Mo_walk_9
          rw [if_neg c2, if_neg hw, tw_010]
          dsimp only
          rw [if_neg i10]
        rw [eI, kM]
        exact ⟨pI, ⟨W1, jM⟩, rfl, (fun h => nomatch h), hR⟩
      · have hw : v5 = 0 := W6.mpr ⟨rfl, fun x y x1 x2 x3 x4 => c3 (A2'.mpr ⟨x, y, x1, x2, x3, x4⟩)⟩
        have hm : N < 8 := by omega
        have hpn := v_ipn hR
        have htP : ∀ j, j < N → (t j : Int) < (sc 1).toInt := by
          intro j hj
          have hj' : ¬ f_Ir_isPoint ar sc (nI (t j)) = 0 := fun h => c1 (P2'.mpr ⟨j, Nat.zero_le _, hj, by rw [htp j (by omega)]; exact h⟩)
          have := (isP_no hj').2
          rw [nI_toInt (by have := (ht j).1; omega)] at this
          exact this
        have hX : ∀ j, j < N → -10000 ≤ (ar 9 (t j)).toInt ∧ (ar 9 (t j)).toInt ≤ 10000 := fun j hj => (v_kxy hR _ (htP j hj)).1
        have hY : ∀ j, j < N → -10000 ≤ (ar 10 (t j)).toInt ∧ (ar 10 (t j)).toInt ≤ 10000 := fun j hj => (v_kxy hR _ (htP j hj)).2
        have ht30 : ∀ j, j < N → t j < 30 := fun j hj => by have := htP j hj; omega
        have hl : ∀ p j, p ≤ N → j ≤ N → lgf (ar 9) (ar 10) t N p j ≤ 40000 := fun p j _ _ => lg_b hX hY p j
        have hlc : ∀ x y, lgf (ar 9) (ar 10) t N x y = lgf (ar 9) (ar 10) t N y x := fun x y => lg_c _ _ _ _ x y
        obtain ⟨T, hT⟩ := exT (lgf (ar 9) (ar 10) t N) hm hl
        obtain ⟨C1, ar1, C2, C3, ar2, C4, C5, ar3, C6, C7, C8, C9⟩ := croute (a := a0) hm t (fun j hj => ⟨htp j (by omega), ht30 j hj⟩) (ar0 := ar) (sc := sc) hX hY hT
        obtain ⟨M1, br1, M2, M3⟩ := ml (a := a0) (u4 := 0) (u5 := 0) hm t (fun j _ => (ht j).2) (br0 := br) (bc := sg bc 0 0) 200 0 br (by omega) (by omega) ⟨fun _ _ => rfl, fun j hj => by omega⟩
        rw [nI_0] at M1 M2
        have b8 : br1 8 = ar 9 := by rw [M3.1 8 (by omega)]; exact (v_px hR).symm
        have b9 : br1 9 = ar 10 := by rw [M3.1 9 (by omega)]; exact (v_py hR).symm
        have hG : GM br1 N (lgf (ar 9) (ar 10) t N) := by
          rw [← b8, ← b9]
          exact GM_i (fun j hj => ⟨M3.2 j hj, ht30 j hj⟩) (by rw [b8]; exact hX) (by rw [b9]; exact hY)
        have hpos : 0 < 2 ^ N := Nat.pow_pos (by decide)
        have h7 := p_7 hm
        obtain ⟨R1, br2, R2, R3⟩ := rk3 (bc := sg bc 0 0) hm hl hT hG 200 (2 ^ N - 1) br1 (by omega) (by omega) ⟨fun _ _ => rfl, fun x y h1 h2 => by omega⟩
        have eL : (1 : Int32) <<< (nI N &&& 31) - 1 = nI (2 ^ N - 1) := l_a N hm
        have eR : f_Mo_reckon br1 (sg bc 0 0) (nI N) = (br2, sg bc 0 0) := by unfold f_Mo_reckon; rw [eL, R2]
        have pR : p_Mo_reckon br1 (sg bc 0 0) (nI N) := by unfold p_Mo_reckon; rw [eL]; exact R1
        have hG2 : GM br2 N (lgf (ar 9) (ar 10) t N) := GM_t (R3.1 8 (by omega)) (R3.1 9 (by omega)) (R3.1 20 (by omega)) hG
        have hMA : MA br2 N (lgf (ar 9) (ar 10) t N) T t := ⟨hG2, R3.2, fun j hj => by rw [R3.1 20 (by omega)]; exact M3.2 j hj⟩
        have e29 : ar3 29 = br2 19 := by rw [C8 29 (by omega), R3.1 19 (by omega), M3.1 19 (by omega)]; exact v_sp hR
        obtain ⟨S1, S2, x1, x2, x3, ar4, y1, y2, y3, y4, br3, S3, S4, S5, S6, S7⟩ := stj (sc := sg sc 4 (nI N)) (bc := sg (sg bc 0 0) 4 (nI N)) (t := t) hm hl hlc hT rfl (a := a0) (u4 := 0) (u5 := 0) (u6 := nI (T 0 N)) 200 0 0 N (-1) ar3 br2 (by omega) (by omega) hpos (cb_0 N hm) (Nat.le_refl N) (Or.inl ⟨rfl, rfl⟩) e29 ⟨C7, C9⟩ hMA
        rw [nI_0] at S1 S2 S3 S4
        have hmt : (q_Mo_walk_176 a0 (nI N) 0 0 200 (if nI N = 0 then 0 else 1000000000) 0 br2 (sg bc 0 0)) ∧ g_Mo_walk_176 a0 (nI N) 0 0 200 (if nI N = 0 then 0 else 1000000000) 0 br2 (sg bc 0 0) = (nI (T 0 N), nI N, br2, sg bc 0 0) := by
          by_cases e0 : N = 0
          · obtain ⟨J1, v, J2, J3⟩ := mt1 (bc := sg bc 0 0) (a := a0) (u4 := 0) (u5 := 0) (v0 := 0) hm hl hlc hT hG2 R3.2 (by omega) 200 0 0 (by omega) (by omega) ⟨Nat.le_refl _, fun x hx => by omega, Or.inl rfl⟩
            have ev : v = T 0 N := by
              have hz : T (2 ^ N - 1) N = lgf (ar 9) (ar 10) t N N N := hT.1 N (Nat.le_refl N)
              have hl0 : lgf (ar 9) (ar 10) t N N N = 0 := by unfold lgf; omega
              rw [e0, show 2 ^ 0 - 1 = 0 from rfl] at hz
              rw [e0] at hl0
              have := J3.1
              rw [e0, hz, hl0]
              omega
            rw [ev] at J2
            rw [nI_0] at J1 J2
            rw [if_pos (by rw [e0]; rfl)]
            exact ⟨J1, J2⟩
          · obtain ⟨J1, v, J2, J3⟩ := mt1 (bc := sg bc 0 0) (a := a0) (u4 := 0) (u5 := 0) (v0 := 1000000000) hm hl hlc hT hG2 R3.2 (Nat.le_refl _) 200 0 1000000000 (by omega) (by omega) ⟨Nat.le_refl _, fun x hx => by omega, Or.inl rfl⟩
            have hp1 : 0 + 1 < 2 ^ N := by
              have := Nat.pow_lt_pow_right (a := 2) (by decide) (show 0 < N by omega)
              omega
            have ev : v = T 0 N := by
              have x3 : v ≤ lgf (ar 9) (ar 10) t N N 0 + T (0 ||| 2 ^ 0) 0 := J3.2.1 0 (by omega) (Nat.zero_testBit 0)
              have x4 := hl N 0 (Nat.le_refl N) (by omega)
              have x5 := TT_b hm hT (l_lt (g := 0) (m := N) (j := 0) hpos (by omega)) (show 0 ≤ N by omega)
              rcases J3.2.2 with h9 | ⟨y, y1, y2, y3⟩
              · omega
              · exact IM_u ⟨⟨y, ⟨y1, y2⟩, y3⟩, fun w hw => J3.2.1 w hw.1 hw.2⟩ (hT.2.1 0 N hp1 (Nat.le_refl N))
            rw [ev] at J2
            rw [nI_0, show nI 1000000000 = (1000000000 : Int32) from rfl] at J1 J2
            rw [if_neg (nI_ne0 (by omega) (by omega))]
            exact ⟨J1, J2⟩
        have kM : k_Mo_walk_9 a0 a1 0 0 z br bc = (nI (T 0 N), br3, sg (sg bc 0 0) 4 (nI N)) := by
          unfold k_Mo_walk_9
          rw [if_neg c2, if_pos rfl, tw_000]
          dsimp only
          rw [if_pos rfl, ea, M2]
          dsimp only
          unfold k_Mo_walk_131
          rw [eR]
          dsimp only
          by_cases e0 : nI N = 0
          · rw [if_pos e0]
            rw [if_pos e0] at hmt
            rw [hmt.2]
            unfold k_Mo_walk_176 k_Mo_walk_251
            dsimp only
            rw [S4]
          · rw [if_neg e0]
            rw [if_neg e0] at hmt
            rw [hmt.2]
            unfold k_Mo_walk_176 k_Mo_walk_251
            dsimp only
            rw [S4]
        have jM : j_Mo_walk_9 a0 a1 0 0 z br bc := by
          unfold j_Mo_walk_9
          rw [tw_000, ea, M2]
          dsimp only
          rw [ea] at c2
          refine ⟨fun h => absurd h c2, fun _ => ⟨fun _ => ⟨fun _ => ⟨M1, ?_⟩, fun _ => trivial⟩, fun h => absurd rfl h⟩⟩
          unfold j_Mo_walk_131
          rw [eR]
          dsimp only
          refine ⟨pR, fun e0 => ?_, fun e0 => ?_⟩
          · rw [if_pos e0] at hmt
            rw [hmt.2]
            exact ⟨hmt.1, S2⟩
          · rw [if_neg e0] at hmt
            rw [hmt.2]
            exact ⟨hmt.1, S2⟩
        have eF : f_Route_fillStops ar3 (sg sc 4 (nI N)) = (ar4, sg sc 4 (nI N)) := by
          unfold f_Route_fillStops
          rw [show (sg sc 4 (nI N)) 4 = nI N from rfl, S3]
        have pF : p_Route_fillStops ar3 (sg sc 4 (nI N)) := by
          unfold p_Route_fillStops
          exact S1
        have e28 : ar4 28 N = nI (T 0 N) := by
          rw [S6 28 (by omega)]
          have := C7.2 0 N (Nat.le_refl 0) hpos (Nat.le_refl N)
          rw [Nat.zero_mul, Nat.zero_add] at this
          exact this
        have kN : (nI N).toNatClampNeg = N := nI_clamp (by omega)
        have v8 : vp_in (nI N) 8 := vp_in_nI (by omega) (by omega)
        have eI : f_Ir_walk ar sc a0 a1 = (none, nI (T 0 N), ar4, sg sc 4 (nI N)) := by
          unfold f_Ir_walk
          rw [if_neg c1, iw_eq, if_neg c2, if_neg c3, ea, C2]
          dsimp only
          unfold f_Route_findLeast
          rw [C4]
          dsimp only
          rw [C6]
          dsimp only
          rw [eF]
          dsimp only
          rw [show (sg sc 4 (nI N)) 4 = nI N from rfl, kN, e28]
        have pI : p_Ir_walk ar sc a0 a1 := by
          refine ⟨P1, fun _ _ => ⟨A1, fun _ => ?_⟩⟩
          rw [ea, C2]
          refine ⟨C1, ?_⟩
          unfold p_Route_findLeast
          dsimp only
          rw [C4]
          dsimp only
          rw [C6]
          dsimp only
          rw [eF]
          exact ⟨v8, v8, C3, C5, pF, vp_in_nI (by omega) (by omega)⟩
        rw [hw, eI, kM]
        refine ⟨pI, ⟨W1, jM⟩, rfl, fun _ => rfl, ?_⟩
        refine rl_w hR (fun k hk => ?_) (fun k hk => ?_) (fun k hk => ?_) (fun k h0 h4 => ?_) S5 rfl ?_
        · show ar4 k = ar k
          rw [S6 k (by omega)]; exact C8 k (by omega)
        · show br3 k = br k
          rw [S7 k (by omega), R3.1 k (by omega)]; exact M3.1 k (by omega)
        · exact sg_ne hk
        · show sg (sg bc 0 0) 4 (nI N) k = bc k
          rw [sg_ne h4, sg_ne h0]
        · show 0 ≤ (nI N).toInt ∧ (nI N).toInt ≤ 7
          rw [nI_toInt (by omega)]
          omega

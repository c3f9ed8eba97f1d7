
theorem b_1 : ∀ i, i < 32 → bt 1 i = decide (i = 0) := by decide +kernel
theorem bit_eq {k : Nat} (hk : k < 16) (a : Int32) : ((a.toUInt32 >>> ((nI k).toUInt32 &&& Int32.toUInt32 31)).toInt32) &&& 1 = (a >>> (nI k &&& 31)) &&& 1 := by
  apply b_ext
  intro i hi
  rw [b_and, b_and, b_ushr k (by omega), b_sshr k (by omega) a hi, b_1 i hi]
  by_cases h : i = 0
  · rw [h, if_pos (by omega)]
  · simp [h]
def wl (t y o b : Nat → Int32) (a : Int32) : Nat → Int32 → Option (List Int32)
  | 0, _ => none
  | n + 1, q => if q < 0 then some [] else if t q.toNatClampNeg = 0 then none else if ((a >>> (q &&& 31)) &&& 1) = 1 then wl t y o b a n (y q.toNatClampNeg) else if b q.toNatClampNeg ≤ 0 then wl t y o b a n (o q.toNatClampNeg) else (wl t y o b a n (o q.toNatClampNeg)).map (fun M => b q.toNatClampNeg :: M)
def wq (t y o : Nat → Int32) : Prop := ∀ q : Nat, q < 16 → t q ≠ 0 → (y q = -1 ∨ ((q : Int) < (y q).toInt ∧ (y q).toInt ≤ 15)) ∧ (o q = -1 ∨ ((q : Int) < (o q).toInt ∧ (o q).toInt ≤ 15))
def qk (n : Nat) (q : Int32) : Prop := (q = -1 ∧ 0 < n) ∨ (0 ≤ q.toInt ∧ q.toInt ≤ 15 ∧ 16 - q.toInt < n)
theorem qk_0 {q : Int32} (h : qk 0 q) : False := by
  rcases h with h | h
  · omega
  · omega
theorem qk_p {n : Nat} {q : Int32} (h : qk (n + 1) q) (hq : ¬ q < 0) : ∃ k : Nat, k < 16 ∧ q = nI k ∧ 16 - k < n + 1 := by
  rcases h with h | h
  · exact absurd (by rw [h.1]; decide) hq
  · obtain ⟨k, k1, k2, k3⟩ := ex_nI h.1 h.2.1
    have e : q.toInt = k := by rw [k3, nI_toInt k1]
    exact ⟨k, by omega, k3, by omega⟩
theorem qk_s {t y o : Nat → Int32} (hw : wq t y o) {n k : Nat} (hk : k < 16) (hn : 16 - k < n + 1) (ht : ¬ t k = 0) : qk n (y k) ∧ qk n (o k) := by
  obtain ⟨h1, h2⟩ := hw k hk ht
  constructor
  · rcases h1 with h | h
    · exact Or.inl ⟨h, by omega⟩
    · exact Or.inr ⟨by omega, by omega, by omega⟩
  · rcases h2 with h | h
    · exact Or.inl ⟨h, by omega⟩
    · exact Or.inr ⟨by omega, by omega, by omega⟩
def wn (v : Int32) : Option (List Int32) → Int32
  | none => -1
  | some M => v + nI M.length
theorem wn_s (v w : Int32) (W : Option (List Int32)) : wn (v + 1) W = wn v (W.map (fun M => w :: M)) := by
  cases W with
  | none => rfl
  | some M =>
    show v + 1 + nI M.length = v + nI (M.length + 1)
    rw [nI_succ, Int32.add_assoc, Int32.add_comm 1]
theorem go0 {br : Nat → Nat → Int32} {bc : Nat → Int32} (p a l : Int32) (hw : wq (br 15) (br 16) (br 17)) : ∀ n q v, qk n q → q_Mo_go_6 p a 0 l n q v br bc ∧ g_Mo_go_6 p a 0 l n q v br bc = (wn v (wl (br 15) (br 16) (br 17) (br 18) a n q), br, bc) := by
  intro n
  induction n with
  | zero => intro q v h; exact (qk_0 h).elim
  | succ n ih =>
    intro q v h
    rw [q_Mo_go_6, g_Mo_go_6, wl]
    by_cases c : q < 0
    · rw [if_pos c, if_pos c]
      refine ⟨⟨fun _ => trivial, fun h => absurd c h⟩, ?_⟩
      show (v, br, bc) = (v + nI 0, br, bc)
      rw [nI_0, Int32.add_zero]
    · rw [if_neg c, if_neg c]
      obtain ⟨k, k1, k2, k3⟩ := qk_p h c
      have hc : q.toNatClampNeg = k := by rw [k2]; exact nI_clamp (by omega)
      have hv : vp_in q 16 := by rw [k2]; exact vp_in_nI (by omega) (by omega)
      rw [hc]
      by_cases t : br 15 k = 0
      · rw [if_pos t, if_pos t]
        exact ⟨⟨fun h => absurd h c, fun _ => ⟨hv, fun _ => trivial, fun h => absurd t h⟩⟩, rfl⟩
      · rw [if_neg t, if_neg t]
        obtain ⟨y1, y2⟩ := qk_s hw k1 k3 t
        refine ⟨⟨fun h => absurd h c, fun _ => ⟨hv, fun h => absurd h t, fun _ => ⟨fun _ => ⟨hv, (ih _ _ y1).1⟩, fun _ => ⟨hv, fun _ => ⟨hv, (ih _ _ y2).1⟩, fun _ => ⟨fun _ => ⟨hv, (ih _ _ y2).1⟩, fun h => absurd rfl h⟩⟩⟩⟩⟩, ?_⟩
        by_cases b : ((a >>> (q &&& 31)) &&& 1) = 1
        · rw [if_pos b, if_pos b]; exact (ih _ _ y1).2
        · rw [if_neg b, if_neg b]
          by_cases d : br 18 k ≤ 0
          · rw [if_pos d, if_pos d]; exact (ih _ _ y2).2
          · rw [if_neg d, if_neg d, if_pos rfl, ← wn_s]; exact (ih _ _ y2).2
def mfold (p l : Int32) : List Int32 → (Nat → Nat → Int32) → (Nat → Int32) → (Nat → Nat → Int32) × (Nat → Int32)
  | [], br, bc => (br, bc)
  | w :: M, br, bc => mfold p l M (f_Mo_add br bc p w l).1 (f_Mo_add br bc p w l).2
def cfold (p l : Int32) : List Int32 → (Nat → Nat → Int32) → (Nat → Int32) → (Nat → Nat → Int32) × (Nat → Int32)
  | [], ar, sc => (ar, sc)
  | w :: M, ar, sc => cfold p l M (f_Findings_add ar sc p w l).2.1 (f_Findings_add ar sc p w l).2.2
theorem go1 (p a l : Int32) (t y o b : Nat → Int32) (hw : wq t y o) : ∀ n q v br bc M, br 15 = t → br 16 = y → br 17 = o → br 18 = b → qk n q → wl t y o b a n q = some M → 0 ≤ (bc 3).toInt → (bc 3).toInt + (M.length : Int) ≤ 100 → q_Mo_go_6 p a 1 l n q v br bc ∧ g_Mo_go_6 p a 1 l n q v br bc = (v + nI M.length, mfold p l M br bc) := by
  intro n
  induction n with
  | zero => intro q v br bc M e1 e2 e3 e4 h; exact (qk_0 h).elim
  | succ n ih =>
    intro q v br bc M e1 e2 e3 e4 h hM h0 h1
    rw [wl] at hM
    rw [q_Mo_go_6, g_Mo_go_6]
    by_cases c : q < 0
    · rw [if_pos c] at hM
      rw [if_pos c]
      refine ⟨⟨fun _ => trivial, fun h => absurd c h⟩, ?_⟩
      rw [← Option.some.inj hM]
      show (v, br, bc) = (v + nI 0, br, bc)
      rw [nI_0, Int32.add_zero]
    · rw [if_neg c] at hM
      rw [if_neg c]
      obtain ⟨k, k1, k2, k3⟩ := qk_p h c
      have hc : q.toNatClampNeg = k := by rw [k2]; exact nI_clamp (by omega)
      have hv : vp_in q 16 := by rw [k2]; exact vp_in_nI (by omega) (by omega)
      rw [hc] at hM
      rw [hc]
      by_cases d : t k = 0
      · rw [if_pos d] at hM; cases hM
      · rw [if_neg d] at hM
        obtain ⟨y1, y2⟩ := qk_s hw k1 k3 d
        have d' : ¬ br 15 k = 0 := by rw [e1]; exact d
        rw [if_neg d']
        by_cases g : ((a >>> (q &&& 31)) &&& 1) = 1
        · rw [if_pos g] at hM
          rw [if_pos g]
          have I := ih (br 16 k) v br bc M e1 e2 e3 e4 (by rw [e2]; exact y1) (by rw [e2]; exact hM) h0 h1
          exact ⟨⟨fun h => absurd h c, fun _ => ⟨hv, fun h => absurd h d', fun _ => ⟨fun _ => ⟨hv, I.1⟩, fun h => absurd g h⟩⟩⟩, I.2⟩
        · rw [if_neg g] at hM
          rw [if_neg g]
          by_cases z : b k ≤ 0
          · rw [if_pos z] at hM
            have z' : br 18 k ≤ 0 := by rw [e4]; exact z
            rw [if_pos z']
            have I := ih (br 17 k) v br bc M e1 e2 e3 e4 (by rw [e3]; exact y2) (by rw [e3]; exact hM) h0 h1
            exact ⟨⟨fun h => absurd h c, fun _ => ⟨hv, fun h => absurd h d', fun _ => ⟨fun h => absurd h g, fun _ => ⟨hv, fun _ => ⟨hv, I.1⟩, fun h => absurd z' h⟩⟩⟩⟩, I.2⟩
          · rw [if_neg z] at hM
            have z' : ¬ br 18 k ≤ 0 := by rw [e4]; exact z
            rw [if_neg z', if_neg i10]
            cases hW : wl t y o b a n (o k) with
            | none => rw [hW] at hM; cases hM
            | some M' =>
              rw [hW] at hM
              have hM2 : b k :: M' = M := Option.some.inj hM
              have hl : M.length = M'.length + 1 := by rw [← hM2]; rfl
              have hadd : (bc 3 + 1).toInt = (bc 3).toInt + 1 := add1 h0 (by omega)
              have hv3 : vp_in (bc 3) 100 := vin h0 (by omega)
              have I := ih (br 17 k) (v + 1) (f_Mo_add br bc p (br 18 k) l).1 (f_Mo_add br bc p (br 18 k) l).2 M' e1 e2 e3 e4 (by rw [e3]; exact y2) (by rw [e3]; exact hW) (by show 0 ≤ (bc 3 + 1).toInt; omega) (by show (bc 3 + 1).toInt + _ ≤ 100; omega)
              refine ⟨⟨fun h => absurd h c, fun _ => ⟨hv, fun h => absurd h d', fun _ => ⟨fun h => absurd h g, fun _ => ⟨hv, fun h => absurd h z', fun _ => ⟨fun h => absurd h i10, fun _ => ⟨hv, ⟨hv3, hv3, hv3, hv3⟩, hv, I.1⟩⟩⟩⟩⟩⟩, ?_⟩
              rw [hl, nI_succ, Int32.add_comm (nI M'.length), ← Int32.add_assoc, ← hM2, ← e4]
              exact I.2
theorem an {ar : Nat → Nat → Int32} {sc : Nat → Int32} (a : Int32) (hw : wq (ar 18) (ar 19) (ar 20)) : ∀ (n : Nat) (q : Int32) (g : Nat) (F : Nat → Int32) (c : Nat), qk n q → (q = -1 ∨ (g : Int) ≤ q.toInt) → c ≤ g → g ≤ 16 → q_Questions_answer_9 a n q (nI g) (sg ar 22 F) (sg sc 3 (nI c)) ∧ (wl (ar 18) (ar 19) (ar 20) (ar 21) a n q = none → ∃ F' d, g_Questions_answer_9 a n q (nI g) (sg ar 22 F) (sg sc 3 (nI c)) = (0, sg ar 22 F', sg sc 3 d)) ∧ (∀ M, wl (ar 18) (ar 19) (ar 20) (ar 21) a n q = some M → c + M.length ≤ 16 ∧ ∃ F', g_Questions_answer_9 a n q (nI g) (sg ar 22 F) (sg sc 3 (nI c)) = (1, sg ar 22 F', sg sc 3 (nI (c + M.length))) ∧ (∀ j, j < c → F' j = F j) ∧ ∀ j, j < M.length → F' (c + j) = M.getD j 0) := by
  intro n
  induction n with
  | zero => intro q g F c h; exact (qk_0 h).elim
  | succ n ih =>
    intro q g F c h hg hcg hg16
    rw [q_Questions_answer_9, g_Questions_answer_9, wl, show (sg ar 22 F) 18 = ar 18 from rfl, show (sg ar 22 F) 19 = ar 19 from rfl, show (sg ar 22 F) 20 = ar 20 from rfl, show (sg ar 22 F) 21 = ar 21 from rfl, show (sg sc 3 (nI c)) 3 = nI c from rfl]
    by_cases cq : q < 0
    · have e1 : q = -1 := by
        rcases h with h | h
        · exact h.1
        · rw [Int32.lt_iff_toInt_lt, iz] at cq; omega
      rw [if_pos cq]
      have hr : (if 16 ≤ nI g then ((1 : Int32), sg ar 22 F, sg sc 3 (nI c)) else if q = -1 then (1, sg ar 22 F, sg sc 3 (nI c)) else if ar 18 q.toNatClampNeg = 0 then (0, sg ar 22 F, sg sc 3 (nI c)) else if (((a.toUInt32 >>> (q.toUInt32 &&& Int32.toUInt32 31)).toInt32) &&& 1) = 1 then g_Questions_answer_9 a n (ar 19 q.toNatClampNeg) (nI g + 1) (sg ar 22 F) (sg sc 3 (nI c)) else if ar 21 q.toNatClampNeg ≤ 0 then g_Questions_answer_9 a n (ar 20 q.toNatClampNeg) (nI g + 1) (sg ar 22 F) (sg sc 3 (nI c)) else g_Questions_answer_9 a n ((s2 (sg ar 22 F) 22 ((nI c).toNatClampNeg) (ar 21 q.toNatClampNeg)) 20 q.toNatClampNeg) (nI g + 1) (s2 (sg ar 22 F) 22 ((nI c).toNatClampNeg) (ar 21 q.toNatClampNeg)) (sg (sg sc 3 (nI c)) 3 (nI c + 1))) = (1, sg ar 22 F, sg sc 3 (nI c)) := by
        rw [if_pos e1, ite_self]
      refine ⟨⟨fun _ => trivial, fun _ => ⟨fun _ => trivial, fun h => absurd e1 h⟩⟩, (fun h => nomatch h), ?_⟩
      intro M hM
      rw [← Option.some.inj hM]
      exact ⟨by show c + 0 ≤ 16; omega, F, hr, fun j _ => rfl, fun j hj => absurd hj (Nat.not_lt_zero j)⟩
    · rw [if_neg cq]
      obtain ⟨k, k1, k2, k3⟩ := qk_p h cq
      have hc : q.toNatClampNeg = k := by rw [k2]; exact nI_clamp (by omega)
      have hv : vp_in q 16 := by rw [k2]; exact vp_in_nI (by omega) (by omega)
      have hm : ¬ q = -1 := by intro h9; exact cq (by rw [h9]; decide)
      have hgk : g ≤ k := by
        have := hg.resolve_left hm
        rw [k2, nI_toInt (by omega)] at this
        omega
      have h16 : ¬ (16 : Int32) ≤ nI g := show ¬ nI 16 ≤ nI g from nI_ge (by omega) (by omega)
      have hcc : (nI c).toNatClampNeg = c := nI_clamp (by omega)
      have hvc : vp_in (nI c) 16 := vp_in_nI (by omega) (by omega)
      have hb : ((a.toUInt32 >>> (q.toUInt32 &&& Int32.toUInt32 31)).toInt32) &&& 1 = (a >>> (q &&& 31)) &&& 1 := by rw [k2]; exact bit_eq k1 a
      rw [if_neg h16, if_neg hm, hc, hb, hcc, nI_1, nI_1, s2_sg, sg_sg, show (sg ar 22 (upd F c (ar 21 k))) 20 = ar 20 from rfl]
      by_cases t : ar 18 k = 0
      · rw [if_pos t, if_pos t]
        exact ⟨⟨fun h => absurd h h16, fun _ => ⟨fun h => absurd h hm, fun _ => ⟨hv, fun _ => trivial, fun h => absurd t h⟩⟩⟩, fun _ => ⟨F, nI c, rfl⟩, fun M hM => nomatch hM⟩
      · rw [if_neg t, if_neg t]
        obtain ⟨y1, y2⟩ := qk_s hw k1 k3 t
        obtain ⟨x1, x2⟩ := hw k k1 t
        have gy : ar 19 k = -1 ∨ ((g + 1 : Nat) : Int) ≤ (ar 19 k).toInt := x1.imp id (fun h => by omega)
        have gn : ar 20 k = -1 ∨ ((g + 1 : Nat) : Int) ≤ (ar 20 k).toInt := x2.imp id (fun h => by omega)
        have A := ih (ar 19 k) (g + 1) F c y1 gy (by omega) (by omega)
        have B := ih (ar 20 k) (g + 1) F c y2 gn (by omega) (by omega)
        have C := ih (ar 20 k) (g + 1) (upd F c (ar 21 k)) (c + 1) y2 gn (by omega) (by omega)
        refine ⟨⟨fun h => absurd h h16, fun _ => ⟨fun h => absurd h hm, fun _ => ⟨hv, fun h => absurd h t, fun _ => ⟨fun _ => ⟨hv, A.1⟩, fun _ => ⟨hv, fun _ => ⟨hv, B.1⟩, fun _ => ⟨hv, hvc, hv, C.1⟩⟩⟩⟩⟩⟩, ?_⟩
        by_cases b : ((a >>> (q &&& 31)) &&& 1) = 1
        · rw [if_pos b, if_pos b]; exact A.2
        · rw [if_neg b, if_neg b]
          by_cases d : ar 21 k ≤ 0
          · rw [if_pos d, if_pos d]; exact B.2
          · rw [if_neg d, if_neg d]
            cases hW : wl (ar 18) (ar 19) (ar 20) (ar 21) a n (ar 20 k) with
            | none => exact ⟨fun _ => C.2.1 hW, fun M hM => nomatch hM⟩
            | some M' =>
              refine ⟨fun h => (nomatch h), fun M hM => ?_⟩
              have hM2 : ar 21 k :: M' = M := Option.some.inj hM
              have hl : M.length = M'.length + 1 := by rw [← hM2]; rfl
              obtain ⟨z1, F', z2, z3, z4⟩ := C.2.2 M' hW
              refine ⟨by omega, F', ?_, ?_, ?_⟩
              · rw [z2, hl]
                have e9 : c + 1 + M'.length = c + (M'.length + 1) := by omega
                rw [e9]
              · intro j hj
                rw [z3 j (by omega), un (by omega)]
              · intro j hj
                rw [← hM2]
                cases j with
                | zero => rw [Nat.add_zero, z3 c (by omega), us]; rfl
                | succ j =>
                  have e9 : c + (j + 1) = c + 1 + j := by omega
                  rw [e9, z4 j (by omega)]
                  rfl
theorem ld (p a l : Int32) (c : Nat) (hc16 : c ≤ 16) : ∀ M n i ar sc, sc 3 = nI c → i + List.length M = c → List.length M < n → (∀ j, j < M.length → ar 22 (i + j) = M.getD j 0) → 0 ≤ (sc 2).toInt → (sc 2).toInt + (M.length : Int) ≤ 100 → q_Ir_list_69 p a l n (nI i) ar sc ∧ g_Ir_list_69 p a l n (nI i) ar sc = (nI c, cfold p l M ar sc) ∧ (cfold p l M ar sc).2 3 = nI c := by
  intro M
  induction M with
  | nil =>
    intro n i ar sc h3 hi hn hF h0 h1
    cases n with
    | zero => exact absurd hn (Nat.not_lt_zero _)
    | succ n =>
      have hi' : i = c := hi
      rw [q_Ir_list_69, g_Ir_list_69, h3]
      have c' : nI c ≤ nI i := nI_le (by omega) (by omega)
      refine ⟨⟨fun _ => trivial, fun h => absurd c' h⟩, ?_, h3⟩
      rw [if_pos c', hi']
      rfl
  | cons w M ih =>
    intro n i ar sc h3 hi hn hF h0 h1
    have hi' : i + (M.length + 1) = c := hi
    have h1' : (sc 2).toInt + ((M.length + 1 : Nat) : Int) ≤ 100 := h1
    cases n with
    | zero => exact absurd hn (Nat.not_lt_zero _)
    | succ n =>
      have hn' : M.length + 1 < n + 1 := hn
      rw [q_Ir_list_69, g_Ir_list_69, h3]
      have c' : ¬ nI c ≤ nI i := nI_ge (by omega) (by omega)
      have hcc : (nI i).toNatClampNeg = i := nI_clamp (by omega)
      have hv : vp_in (nI i) 16 := vp_in_nI (by omega) (by omega)
      have hv3 : vp_in (sc 2) 100 := vin h0 (by omega)
      have hw : ar 22 i = w := hF 0 (by show 0 < M.length + 1; omega)
      have hadd : (sc 2 + 1).toInt = (sc 2).toInt + 1 := add1 h0 (by omega)
      rw [if_neg c', hcc, nI_1, hw]
      obtain ⟨I1, I2, I3⟩ := ih n (i + 1) (f_Findings_add ar sc p w l).2.1 (f_Findings_add ar sc p w l).2.2 h3 (by omega) (by omega) (fun j hj => by
        have := hF (j + 1) (by show j + 1 < M.length + 1; omega)
        rw [show i + 1 + j = i + (j + 1) by omega]
        exact this) (by show 0 ≤ (sc 2 + 1).toInt; omega) (by show (sc 2 + 1).toInt + _ ≤ 100; omega)
      exact ⟨⟨fun h => absurd h c', fun _ => ⟨hv, ⟨hv3, hv3, hv3, hv3⟩, I1⟩⟩, I2, I3⟩
theorem rl_fold {p : Int32} (l : Int32) : ∀ M ar sc br bc, RL ar sc br bc → 0 ≤ p.toInt ∧ p.toInt < (sc 1).toInt → (sc 2).toInt + (List.length M : Int) ≤ 100 → RL (cfold p l M ar sc).1 (cfold p l M ar sc).2 (mfold p l M br bc).1 (mfold p l M br bc).2 := by
  intro M
  induction M with
  | nil => intro ar sc br bc hR _ _; exact hR
  | cons w M ih =>
    intro ar sc br bc hR hp h1
    have h1' : (sc 2).toInt + ((M.length + 1 : Nat) : Int) ≤ 100 := h1
    have h0 := v_ifn hR
    have hadd : (sc 2 + 1).toInt = (sc 2).toInt + 1 := add1 h0.1 (by omega)
    exact ih _ _ _ _ (rl_add hR w l hp (by omega)) hp (by show (sc 2 + 1).toInt + _ ≤ 100; omega)
theorem mf_0 (p l : Int32) : ∀ M br bc, (mfold p l M br bc).2 0 = bc 0 := by
  intro M
  induction M with
  | nil => intro br bc; rfl
  | cons w M ih => intro br bc; exact ih _ _


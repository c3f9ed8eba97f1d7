theorem m_595 : (Cond.methodLink R_Lw 90 y_Lw_weight) ∈ w_all := List.mem_filter.mpr ⟨List.mem_of_getElem? (i := 283) (by decide +kernel), by decide +kernel⟩
theorem m_596 : (Cond.methodLink R_Lw 95 y_Mo_weight) ∈ w_all := List.mem_filter.mpr ⟨List.mem_of_getElem? (i := 830) (by decide +kernel), by decide +kernel⟩
theorem m_597 : (Cond.methodLink R_Lw 96 y_Mo_thrown) ∈ w_all := List.mem_filter.mpr ⟨List.mem_of_getElem? (i := 826) (by decide +kernel), by decide +kernel⟩
theorem m_598 : (Cond.methodLink R_Lw 100 y_Lw_steps) ∈ w_all := List.mem_filter.mpr ⟨List.mem_of_getElem? (i := 389) (by decide +kernel), by decide +kernel⟩
theorem m_599 : (Cond.methodLink R_Lw 103 y_Mo_steps) ∈ w_all := List.mem_filter.mpr ⟨List.mem_of_getElem? (i := 841) (by decide +kernel), by decide +kernel⟩
theorem m_600 : (Cond.methodLink R_Lw 104 y_Lw_interval) ∈ w_all := List.mem_filter.mpr ⟨List.mem_of_getElem? (i := 397) (by decide +kernel), by decide +kernel⟩
theorem m_601 : (Cond.methodLink R_Lw 106 y_Mo_interval) ∈ w_all := List.mem_filter.mpr ⟨List.mem_of_getElem? (i := 846) (by decide +kernel), by decide +kernel⟩
theorem m_602 : (Cond.methodLink R_Lw 107 y_Lw_point) ∈ w_all := List.mem_filter.mpr ⟨List.mem_of_getElem? (i := 404) (by decide +kernel), by decide +kernel⟩
theorem m_603 : (Cond.methodLink R_Lw 110 y_Mo_point) ∈ w_all := List.mem_filter.mpr ⟨List.mem_of_getElem? (i := 850) (by decide +kernel), by decide +kernel⟩
theorem m_604 : (Cond.methodLink R_Lw 111 y_Lw_day) ∈ w_all := List.mem_filter.mpr ⟨List.mem_of_getElem? (i := 435) (by decide +kernel), by decide +kernel⟩
theorem m_605 : (Cond.methodLink R_Lw 114 y_Mo_day) ∈ w_all := List.mem_filter.mpr ⟨List.mem_of_getElem? (i := 854) (by decide +kernel), by decide +kernel⟩
theorem m_606 : (Cond.methodLink R_Lw 115 y_Lw_visit) ∈ w_all := List.mem_filter.mpr ⟨List.mem_of_getElem? (i := 443) (by decide +kernel), by decide +kernel⟩
theorem m_607 : (Cond.methodLink R_Lw 117 y_Mo_visit) ∈ w_all := List.mem_filter.mpr ⟨List.mem_of_getElem? (i := 859) (by decide +kernel), by decide +kernel⟩
theorem m_608 : (Cond.methodLink R_Lw 118 y_Lw_finding) ∈ w_all := List.mem_filter.mpr ⟨List.mem_of_getElem? (i := 454) (by decide +kernel), by decide +kernel⟩
theorem m_609 : (Cond.methodLink R_Lw 121 y_Mo_finding) ∈ w_all := List.mem_filter.mpr ⟨List.mem_of_getElem? (i := 867) (by decide +kernel), by decide +kernel⟩
theorem m_610 : (Cond.methodLink R_Lw 122 y_Lw_done) ∈ w_all := List.mem_filter.mpr ⟨List.mem_of_getElem? (i := 493) (by decide +kernel), by decide +kernel⟩
theorem m_611 : (Cond.methodLink R_Lw 124 y_Mo_done) ∈ w_all := List.mem_filter.mpr ⟨List.mem_of_getElem? (i := 887) (by decide +kernel), by decide +kernel⟩
theorem m_612 : (Cond.methodLink R_Lw 125 y_Lw_findingAt) ∈ w_all := List.mem_filter.mpr ⟨List.mem_of_getElem? (i := 525) (by decide +kernel), by decide +kernel⟩
theorem m_613 : (Cond.methodLink R_Lw 128 y_Mo_findingAt) ∈ w_all := List.mem_filter.mpr ⟨List.mem_of_getElem? (i := 891) (by decide +kernel), by decide +kernel⟩
theorem m_614 : (Cond.methodLink R_Lw 129 y_Lw_pointAt) ∈ w_all := List.mem_filter.mpr ⟨List.mem_of_getElem? (i := 533) (by decide +kernel), by decide +kernel⟩
theorem m_615 : (Cond.methodLink R_Lw 131 y_Mo_pointAt) ∈ w_all := List.mem_filter.mpr ⟨List.mem_of_getElem? (i := 895) (by decide +kernel), by decide +kernel⟩
set_option maxHeartbeats 4000000 in
set_option maxRecDepth 100000 in
theorem lc_weight {p : Program} {l : Launch} {e : Env} {s : State} {m : MethodId} {args : Array Value} {below : List Frame} {meth : Method} {c : Code} {Q : State → Prop} {b Ln cn sn : Nat} {xs : Nat → Int32} {x4 : Int32} {ls : Array Slot} {dC : Nat → ClassId} {dI : Nat → Nat → Nat} {L : Nat → Nat} {cA : Nat → ClassId} {M : Nat → Nat} {cM : Nat → ClassId} {qo : Nat} {cO : ClassId} {sa : Nat → Nat} {ar : Nat → Nat → Int32} {sc : Nat → Int32} {br : Nat → Nat → Int32} {bc : Nat → Int32} {fo : Nat → Int64} {H : Heap} {locs : List Loc} (hlt : l.stackTraces = false) (hC : CallFix p m c code 7 s args w_all R_Lw) (hX : va_X b Ln xs s s.heap) (hbl : b < s.heap.size) (hF : lwF s dC dI L cA M cM qo cO sa) (hW : lwS s dC dI L cA M cM qo cO ar sc br bc fo H locs) (hR : RL ar sc br bc) (hi1 : vp_in (x4 + 1) Ln) (hi2 : vp_in (x4 + 2) Ln) (hi3 : vp_in (x4 + 3) Ln) (hi4 : vp_in (x4 + 4) Ln) (hi5 : vp_in (x4 + 5) Ln) (hcn : cn + 1 ≤ 1092) (hsn : sn + 6 ≤ 12030) (hl : lv_has ls 7 [(0, .ref b), (1, .ref (L 0)), (2, .ref (M 0)), (3, .ref qo), (4, .int x4)])
    (kk : ∀ (H1 : Heap) (locs1 : List Loc) (ar1 : Nat → Nat → Int32) (sc1 : Nat → Int32) (br1 : Nat → Nat → Int32) (bc1 : Nat → Int32) (fo1 : Nat → Int64) (ls1 : Array Slot), lwS s dC dI L cA M cM qo cO ar1 sc1 br1 bc1 fo1 H1 locs1 → RL ar1 sc1 br1 bc1 → lv_has ls1 7 [(0, .ref b), (1, .ref (L 0)), (2, .ref (M 0)), (3, .ref qo), (4, .int x4)] → W p l e room_1 s m args below meth c H1 locs1 (cn + 1) (sn + 6) Q (F0 m 1437 ls1 [])) : W p l e room_1 s m args below meth c H locs cn sn Q (F0 m 140 ls []) := by
  have hx := hC.1
  have hb := hC.2.1
  have hown := hC.2.2.2.1
  have hts := hC.2.2.2.2
  have hbA : ¬ (fun q : Nat => s.heap.size ≤ q) b := Nat.not_le.mpr hbl
  obtain ⟨hp1, hp2, hq, hval, hR2⟩ := eq_weight hR (xs (x4 + 1).toNatClampNeg) (xs (x4 + 2).toNatClampNeg)
  refine lv_aload_n hx hb d_Law_140 rfl (lv_at hl 1 rfl) ?_
  refine lv_aload_n hx hb d_Law_141 rfl (lv_at hl 0 rfl) ?_
  refine lv_iload hx hb d_Law_142 (lv_at hl 4 rfl) ?_
  refine lv_iconst (v := 1) hx hb d_Law_144 (by decide) ?_
  refine lv_iadd hx hb d_Law_145 ?_
  refine va_sld hx hb hX hbl hbA hW.2.2.2 hi1 d_Law_146 ?_
  refine lv_aload_n hx hb d_Law_147 rfl (lv_at hl 0 rfl) ?_
  refine lv_iload hx hb d_Law_148 (lv_at hl 4 rfl) ?_
  refine lv_iconst (v := 2) hx hb d_Law_150 (by decide) ?_
  refine lv_iadd hx hb d_Law_151 ?_
  refine va_sld hx hb hX hbl hbA hW.2.2.2 hi2 d_Law_152 ?_
  refine rl_weight hC hF hW hlt hp1 m_595 hl.1 ⟨Nat.le_of_ble_eq_true rfl, Nat.le_of_ble_eq_true rfl⟩ ⟨hcn, hsn⟩ (Nat.le_of_ble_eq_true rfl) d_Law_153 (fun H locs hW => ?_)
  refine lv_istore (lv' := [(5, .int (kc_weight (f_Ir_weight ar sc (xs (x4 + 1).toNatClampNeg) (xs (x4 + 2).toNatClampNeg)).1)), (0, .ref b), (1, .ref (L 0)), (2, .ref (M 0)), (3, .ref qo), (4, .int x4)]) hx hb d_Law_156 hl (by decide) rfl (fun ls hl => ?_)
  refine lv_aload_n hx hb d_Law_158 rfl (lv_at hl 3 rfl) ?_
  refine lv_aload_n hx hb d_Law_159 rfl (lv_at hl 1 rfl) ?_
  refine lv_iload hx hb d_Law_160 (lv_at hl 5 rfl) ?_
  refine lv_iconst (v := 1) hx hb d_Law_162 (by decide) ?_
  refine lv_iadd hx hb d_Law_163 ?_
  refine va_sld hx hb hX hbl hbA hW.2.2.2 hi1 d_Law_164 ?_
  refine lv_aload_n hx hb d_Law_165 rfl (lv_at hl 1 rfl) ?_
  refine lv_iload hx hb d_Law_166 (lv_at hl 5 rfl) ?_
  refine lv_iconst (v := 2) hx hb d_Law_168 (by decide) ?_
  refine lv_iadd hx hb d_Law_169 ?_
  refine va_sld hx hb hX hbl hbA hW.2.2.2 hi2 d_Law_170 ?_
  refine rm_weight hC hF hW hp2 m_596 hl.1 ⟨Nat.le_of_ble_eq_true rfl, Nat.le_of_ble_eq_true rfl⟩ ⟨hcn, hsn⟩ (Nat.le_of_ble_eq_true rfl) d_Law_171 (fun H locs hW => ?_)
  refine lv_aload_n hx hb d_Law_174 rfl (lv_at hl 3 rfl) ?_
  refine r_Mo_thrown hC hF.2.1 hW.2.1 m_597 hl.1 ⟨Nat.le_of_ble_eq_true rfl, Nat.le_of_ble_eq_true rfl⟩ ⟨hcn, hsn⟩ (Nat.le_of_ble_eq_true rfl) d_Law_175 ?_
  refine lv_iload hx hb d_Law_178 (lv_at hl 0 rfl) ?_
  refine lv_icmp_eq (tgt := 185) hx hb d_Law_180 (by decide) (fun _ => ?_) (fun c9 => absurd hq c9)
  refine lv_goto (tgt := 1437) hx hb d_Law_185 (by decide) ?_
  exact kk _ _ _ _ _ _ _ _ hW hR2 (lv_sub hl [1, 2, 3, 4, 5] rfl)
set_option maxHeartbeats 4000000 in
set_option maxRecDepth 100000 in
theorem lc_steps {p : Program} {l : Launch} {e : Env} {s : State} {m : MethodId} {args : Array Value} {below : List Frame} {meth : Method} {c : Code} {Q : State → Prop} {b Ln cn sn : Nat} {xs : Nat → Int32} {x4 : Int32} {ls : Array Slot} {dC : Nat → ClassId} {dI : Nat → Nat → Nat} {L : Nat → Nat} {cA : Nat → ClassId} {M : Nat → Nat} {cM : Nat → ClassId} {qo : Nat} {cO : ClassId} {sa : Nat → Nat} {ar : Nat → Nat → Int32} {sc : Nat → Int32} {br : Nat → Nat → Int32} {bc : Nat → Int32} {fo : Nat → Int64} {H : Heap} {locs : List Loc} (hlt : l.stackTraces = false) (hC : CallFix p m c code 7 s args w_all R_Lw) (hX : va_X b Ln xs s s.heap) (hbl : b < s.heap.size) (hF : lwF s dC dI L cA M cM qo cO sa) (hW : lwS s dC dI L cA M cM qo cO ar sc br bc fo H locs) (hR : RL ar sc br bc) (hi1 : vp_in (x4 + 1) Ln) (hi2 : vp_in (x4 + 2) Ln) (hi3 : vp_in (x4 + 3) Ln) (hi4 : vp_in (x4 + 4) Ln) (hi5 : vp_in (x4 + 5) Ln) (hcn : cn + 1 ≤ 1092) (hsn : sn + 6 ≤ 12030) (hl : lv_has ls 7 [(0, .ref b), (1, .ref (L 0)), (2, .ref (M 0)), (3, .ref qo), (4, .int x4)])
    (kk : ∀ (H1 : Heap) (locs1 : List Loc) (ar1 : Nat → Nat → Int32) (sc1 : Nat → Int32) (br1 : Nat → Nat → Int32) (bc1 : Nat → Int32) (fo1 : Nat → Int64) (ls1 : Array Slot), lwS s dC dI L cA M cM qo cO ar1 sc1 br1 bc1 fo1 H1 locs1 → RL ar1 sc1 br1 bc1 → lv_has ls1 7 [(0, .ref b), (1, .ref (L 0)), (2, .ref (M 0)), (3, .ref qo), (4, .int x4)] → W p l e room_1 s m args below meth c H1 locs1 (cn + 1) (sn + 6) Q (F0 m 1437 ls1 [])) : W p l e room_1 s m args below meth c H locs cn sn Q (F0 m 188 ls []) := by
  have hx := hC.1
  have hb := hC.2.1
  have hown := hC.2.2.2.1
  have hts := hC.2.2.2.2
  have hbA : ¬ (fun q : Nat => s.heap.size ≤ q) b := Nat.not_le.mpr hbl
  obtain ⟨hp1, hp2, hq, hval, hR2⟩ := eq_steps hR (xs (x4 + 1).toNatClampNeg) (xs (x4 + 2).toNatClampNeg) (xs (x4 + 3).toNatClampNeg)
  refine lv_aload_n hx hb d_Law_188 rfl (lv_at hl 1 rfl) ?_
  refine lv_aload_n hx hb d_Law_189 rfl (lv_at hl 0 rfl) ?_
  refine lv_iload hx hb d_Law_190 (lv_at hl 4 rfl) ?_
  refine lv_iconst (v := 1) hx hb d_Law_192 (by decide) ?_
  refine lv_iadd hx hb d_Law_193 ?_
  refine va_sld hx hb hX hbl hbA hW.2.2.2 hi1 d_Law_194 ?_
  refine lv_aload_n hx hb d_Law_195 rfl (lv_at hl 0 rfl) ?_
  refine lv_iload hx hb d_Law_196 (lv_at hl 4 rfl) ?_
  refine lv_iconst (v := 2) hx hb d_Law_198 (by decide) ?_
  refine lv_iadd hx hb d_Law_199 ?_
  refine va_sld hx hb hX hbl hbA hW.2.2.2 hi2 d_Law_200 ?_
  refine lv_aload_n hx hb d_Law_201 rfl (lv_at hl 0 rfl) ?_
  refine lv_iload hx hb d_Law_202 (lv_at hl 4 rfl) ?_
  refine lv_iconst (v := 3) hx hb d_Law_204 (by decide) ?_
  refine lv_iadd hx hb d_Law_205 ?_
  refine va_sld hx hb hX hbl hbA hW.2.2.2 hi3 d_Law_206 ?_
  refine rl_steps hC hF hW hlt hp1 m_598 hl.1 ⟨Nat.le_of_ble_eq_true rfl, Nat.le_of_ble_eq_true rfl⟩ ⟨hcn, hsn⟩ (Nat.le_of_ble_eq_true rfl) d_Law_207 (fun H locs hW => ?_)
  refine lv_istore (lv' := [(5, .int (kc_steps (f_Ir_steps ar sc (xs (x4 + 1).toNatClampNeg) (xs (x4 + 2).toNatClampNeg) (xs (x4 + 3).toNatClampNeg)).1)), (0, .ref b), (1, .ref (L 0)), (2, .ref (M 0)), (3, .ref qo), (4, .int x4)]) hx hb d_Law_210 hl (by decide) rfl (fun ls hl => ?_)
  refine lv_aload_n hx hb d_Law_212 rfl (lv_at hl 3 rfl) ?_
  refine lv_aload_n hx hb d_Law_213 rfl (lv_at hl 1 rfl) ?_
  refine lv_iload hx hb d_Law_214 (lv_at hl 5 rfl) ?_
  refine lv_iconst (v := 1) hx hb d_Law_216 (by decide) ?_
  refine lv_iadd hx hb d_Law_217 ?_
  refine va_sld hx hb hX hbl hbA hW.2.2.2 hi1 d_Law_218 ?_
  refine lv_aload_n hx hb d_Law_219 rfl (lv_at hl 1 rfl) ?_
  refine lv_iload hx hb d_Law_220 (lv_at hl 5 rfl) ?_
  refine lv_iconst (v := 2) hx hb d_Law_222 (by decide) ?_
  refine lv_iadd hx hb d_Law_223 ?_
  refine va_sld hx hb hX hbl hbA hW.2.2.2 hi2 d_Law_224 ?_
  refine lv_aload_n hx hb d_Law_225 rfl (lv_at hl 1 rfl) ?_
  refine lv_iload hx hb d_Law_226 (lv_at hl 5 rfl) ?_
  refine lv_iconst (v := 3) hx hb d_Law_228 (by decide) ?_
  refine lv_iadd hx hb d_Law_229 ?_
  refine va_sld hx hb hX hbl hbA hW.2.2.2 hi3 d_Law_230 ?_
  refine rm_steps hC hF hW hp2 m_599 hl.1 ⟨Nat.le_of_ble_eq_true rfl, Nat.le_of_ble_eq_true rfl⟩ ⟨hcn, hsn⟩ (Nat.le_of_ble_eq_true rfl) d_Law_231 (fun H locs hW => ?_)
  refine lv_aload_n hx hb d_Law_234 rfl (lv_at hl 3 rfl) ?_
  refine r_Mo_thrown hC hF.2.1 hW.2.1 m_597 hl.1 ⟨Nat.le_of_ble_eq_true rfl, Nat.le_of_ble_eq_true rfl⟩ ⟨hcn, hsn⟩ (Nat.le_of_ble_eq_true rfl) d_Law_235 ?_
  refine lv_iload hx hb d_Law_238 (lv_at hl 0 rfl) ?_
  refine lv_icmp_eq (tgt := 245) hx hb d_Law_240 (by decide) (fun _ => ?_) (fun c9 => absurd hq c9)
  refine lv_goto (tgt := 1437) hx hb d_Law_245 (by decide) ?_
  exact kk _ _ _ _ _ _ _ _ hW hR2 (lv_sub hl [1, 2, 3, 4, 5] rfl)
set_option maxHeartbeats 4000000 in
set_option maxRecDepth 100000 in
theorem lc_interval {p : Program} {l : Launch} {e : Env} {s : State} {m : MethodId} {args : Array Value} {below : List Frame} {meth : Method} {c : Code} {Q : State → Prop} {b Ln cn sn : Nat} {xs : Nat → Int32} {x4 : Int32} {ls : Array Slot} {dC : Nat → ClassId} {dI : Nat → Nat → Nat} {L : Nat → Nat} {cA : Nat → ClassId} {M : Nat → Nat} {cM : Nat → ClassId} {qo : Nat} {cO : ClassId} {sa : Nat → Nat} {ar : Nat → Nat → Int32} {sc : Nat → Int32} {br : Nat → Nat → Int32} {bc : Nat → Int32} {fo : Nat → Int64} {H : Heap} {locs : List Loc} (hlt : l.stackTraces = false) (hC : CallFix p m c code 7 s args w_all R_Lw) (hX : va_X b Ln xs s s.heap) (hbl : b < s.heap.size) (hF : lwF s dC dI L cA M cM qo cO sa) (hW : lwS s dC dI L cA M cM qo cO ar sc br bc fo H locs) (hR : RL ar sc br bc) (hi1 : vp_in (x4 + 1) Ln) (hi2 : vp_in (x4 + 2) Ln) (hi3 : vp_in (x4 + 3) Ln) (hi4 : vp_in (x4 + 4) Ln) (hi5 : vp_in (x4 + 5) Ln) (hcn : cn + 1 ≤ 1092) (hsn : sn + 6 ≤ 12030) (hl : lv_has ls 7 [(0, .ref b), (1, .ref (L 0)), (2, .ref (M 0)), (3, .ref qo), (4, .int x4)])
    (kk : ∀ (H1 : Heap) (locs1 : List Loc) (ar1 : Nat → Nat → Int32) (sc1 : Nat → Int32) (br1 : Nat → Nat → Int32) (bc1 : Nat → Int32) (fo1 : Nat → Int64) (ls1 : Array Slot), lwS s dC dI L cA M cM qo cO ar1 sc1 br1 bc1 fo1 H1 locs1 → RL ar1 sc1 br1 bc1 → lv_has ls1 7 [(0, .ref b), (1, .ref (L 0)), (2, .ref (M 0)), (3, .ref qo), (4, .int x4)] → W p l e room_1 s m args below meth c H1 locs1 (cn + 1) (sn + 6) Q (F0 m 1437 ls1 [])) : W p l e room_1 s m args below meth c H locs cn sn Q (F0 m 248 ls []) := by
  have hx := hC.1
  have hb := hC.2.1
  have hown := hC.2.2.2.1
  have hts := hC.2.2.2.2
  have hbA : ¬ (fun q : Nat => s.heap.size ≤ q) b := Nat.not_le.mpr hbl
  obtain ⟨hp1, hp2, hq, hval, hR2⟩ := eq_interval hR (xs (x4 + 1).toNatClampNeg) (xs (x4 + 2).toNatClampNeg) (xs (x4 + 3).toNatClampNeg)
  refine lv_aload_n hx hb d_Law_248 rfl (lv_at hl 1 rfl) ?_
  refine lv_aload_n hx hb d_Law_249 rfl (lv_at hl 0 rfl) ?_
  refine lv_iload hx hb d_Law_250 (lv_at hl 4 rfl) ?_
  refine lv_iconst (v := 1) hx hb d_Law_252 (by decide) ?_
  refine lv_iadd hx hb d_Law_253 ?_
  refine va_sld hx hb hX hbl hbA hW.2.2.2 hi1 d_Law_254 ?_
  refine lv_aload_n hx hb d_Law_255 rfl (lv_at hl 0 rfl) ?_
  refine lv_iload hx hb d_Law_256 (lv_at hl 4 rfl) ?_
  refine lv_iconst (v := 2) hx hb d_Law_258 (by decide) ?_
  refine lv_iadd hx hb d_Law_259 ?_
  refine va_sld hx hb hX hbl hbA hW.2.2.2 hi2 d_Law_260 ?_
  refine lv_aload_n hx hb d_Law_261 rfl (lv_at hl 0 rfl) ?_
  refine lv_iload hx hb d_Law_262 (lv_at hl 4 rfl) ?_
  refine lv_iconst (v := 3) hx hb d_Law_264 (by decide) ?_
  refine lv_iadd hx hb d_Law_265 ?_
  refine va_sld hx hb hX hbl hbA hW.2.2.2 hi3 d_Law_266 ?_
  refine rl_interval hC hF hW hlt hp1 m_600 hl.1 ⟨Nat.le_of_ble_eq_true rfl, Nat.le_of_ble_eq_true rfl⟩ ⟨hcn, hsn⟩ (Nat.le_of_ble_eq_true rfl) d_Law_267 (fun H locs hW => ?_)
  refine lv_istore (lv' := [(5, .int (kc_interval (f_Ir_interval ar sc (xs (x4 + 1).toNatClampNeg) (xs (x4 + 2).toNatClampNeg) (xs (x4 + 3).toNatClampNeg)).1)), (0, .ref b), (1, .ref (L 0)), (2, .ref (M 0)), (3, .ref qo), (4, .int x4)]) hx hb d_Law_270 hl (by decide) rfl (fun ls hl => ?_)
  refine lv_aload_n hx hb d_Law_272 rfl (lv_at hl 3 rfl) ?_
  refine lv_aload_n hx hb d_Law_273 rfl (lv_at hl 1 rfl) ?_
  refine lv_iload hx hb d_Law_274 (lv_at hl 5 rfl) ?_
  refine lv_iconst (v := 1) hx hb d_Law_276 (by decide) ?_
  refine lv_iadd hx hb d_Law_277 ?_
  refine va_sld hx hb hX hbl hbA hW.2.2.2 hi1 d_Law_278 ?_
  refine lv_aload_n hx hb d_Law_279 rfl (lv_at hl 1 rfl) ?_
  refine lv_iload hx hb d_Law_280 (lv_at hl 5 rfl) ?_
  refine lv_iconst (v := 2) hx hb d_Law_282 (by decide) ?_
  refine lv_iadd hx hb d_Law_283 ?_
  refine va_sld hx hb hX hbl hbA hW.2.2.2 hi2 d_Law_284 ?_
  refine lv_aload_n hx hb d_Law_285 rfl (lv_at hl 1 rfl) ?_
  refine lv_iload hx hb d_Law_286 (lv_at hl 5 rfl) ?_
  refine lv_iconst (v := 3) hx hb d_Law_288 (by decide) ?_
  refine lv_iadd hx hb d_Law_289 ?_
  refine va_sld hx hb hX hbl hbA hW.2.2.2 hi3 d_Law_290 ?_
  refine rm_interval hC hF hW hp2 m_601 hl.1 ⟨Nat.le_of_ble_eq_true rfl, Nat.le_of_ble_eq_true rfl⟩ ⟨hcn, hsn⟩ (Nat.le_of_ble_eq_true rfl) d_Law_291 (fun H locs hW => ?_)
  refine lv_aload_n hx hb d_Law_294 rfl (lv_at hl 3 rfl) ?_
  refine r_Mo_thrown hC hF.2.1 hW.2.1 m_597 hl.1 ⟨Nat.le_of_ble_eq_true rfl, Nat.le_of_ble_eq_true rfl⟩ ⟨hcn, hsn⟩ (Nat.le_of_ble_eq_true rfl) d_Law_295 ?_
  refine lv_iload hx hb d_Law_298 (lv_at hl 0 rfl) ?_
  refine lv_icmp_eq (tgt := 305) hx hb d_Law_300 (by decide) (fun _ => ?_) (fun c9 => absurd hq c9)
  refine lv_goto (tgt := 1437) hx hb d_Law_305 (by decide) ?_
  exact kk _ _ _ _ _ _ _ _ hW hR2 (lv_sub hl [1, 2, 3, 4, 5] rfl)
set_option maxHeartbeats 4000000 in
set_option maxRecDepth 100000 in
theorem lc_point {p : Program} {l : Launch} {e : Env} {s : State} {m : MethodId} {args : Array Value} {below : List Frame} {meth : Method} {c : Code} {Q : State → Prop} {b Ln cn sn : Nat} {xs : Nat → Int32} {x4 : Int32} {ls : Array Slot} {dC : Nat → ClassId} {dI : Nat → Nat → Nat} {L : Nat → Nat} {cA : Nat → ClassId} {M : Nat → Nat} {cM : Nat → ClassId} {qo : Nat} {cO : ClassId} {sa : Nat → Nat} {ar : Nat → Nat → Int32} {sc : Nat → Int32} {br : Nat → Nat → Int32} {bc : Nat → Int32} {fo : Nat → Int64} {H : Heap} {locs : List Loc} (hlt : l.stackTraces = false) (hC : CallFix p m c code 7 s args w_all R_Lw) (hX : va_X b Ln xs s s.heap) (hbl : b < s.heap.size) (hF : lwF s dC dI L cA M cM qo cO sa) (hW : lwS s dC dI L cA M cM qo cO ar sc br bc fo H locs) (hR : RL ar sc br bc) (hi1 : vp_in (x4 + 1) Ln) (hi2 : vp_in (x4 + 2) Ln) (hi3 : vp_in (x4 + 3) Ln) (hi4 : vp_in (x4 + 4) Ln) (hi5 : vp_in (x4 + 5) Ln) (hcn : cn + 1 ≤ 1092) (hsn : sn + 6 ≤ 12030) (hl : lv_has ls 7 [(0, .ref b), (1, .ref (L 0)), (2, .ref (M 0)), (3, .ref qo), (4, .int x4)])
    (kk : ∀ (H1 : Heap) (locs1 : List Loc) (ar1 : Nat → Nat → Int32) (sc1 : Nat → Int32) (br1 : Nat → Nat → Int32) (bc1 : Nat → Int32) (fo1 : Nat → Int64) (ls1 : Array Slot), lwS s dC dI L cA M cM qo cO ar1 sc1 br1 bc1 fo1 H1 locs1 → RL ar1 sc1 br1 bc1 → lv_has ls1 7 [(0, .ref b), (1, .ref (L 0)), (2, .ref (M 0)), (3, .ref qo), (4, .int x4)] → W p l e room_1 s m args below meth c H1 locs1 (cn + 1) (sn + 6) Q (F0 m 1437 ls1 [])) : W p l e room_1 s m args below meth c H locs cn sn Q (F0 m 308 ls []) := by
  have hx := hC.1
  have hb := hC.2.1
  have hown := hC.2.2.2.1
  have hts := hC.2.2.2.2
  have hbA : ¬ (fun q : Nat => s.heap.size ≤ q) b := Nat.not_le.mpr hbl
  obtain ⟨hp1, hp2, hq, hval, hR2⟩ := eq_point hR (xs (x4 + 1).toNatClampNeg) (xs (x4 + 2).toNatClampNeg) (xs (x4 + 3).toNatClampNeg) (xs (x4 + 4).toNatClampNeg) (xs (x4 + 5).toNatClampNeg)
  refine lv_aload_n hx hb d_Law_308 rfl (lv_at hl 1 rfl) ?_
  refine lv_aload_n hx hb d_Law_309 rfl (lv_at hl 0 rfl) ?_
  refine lv_iload hx hb d_Law_310 (lv_at hl 4 rfl) ?_
  refine lv_iconst (v := 1) hx hb d_Law_312 (by decide) ?_
  refine lv_iadd hx hb d_Law_313 ?_
  refine va_sld hx hb hX hbl hbA hW.2.2.2 hi1 d_Law_314 ?_
  refine lv_aload_n hx hb d_Law_315 rfl (lv_at hl 0 rfl) ?_
  refine lv_iload hx hb d_Law_316 (lv_at hl 4 rfl) ?_
  refine lv_iconst (v := 2) hx hb d_Law_318 (by decide) ?_
  refine lv_iadd hx hb d_Law_319 ?_
  refine va_sld hx hb hX hbl hbA hW.2.2.2 hi2 d_Law_320 ?_
  refine lv_aload_n hx hb d_Law_321 rfl (lv_at hl 0 rfl) ?_
  refine lv_iload hx hb d_Law_322 (lv_at hl 4 rfl) ?_
  refine lv_iconst (v := 3) hx hb d_Law_324 (by decide) ?_
  refine lv_iadd hx hb d_Law_325 ?_
  refine va_sld hx hb hX hbl hbA hW.2.2.2 hi3 d_Law_326 ?_
  refine lv_aload_n hx hb d_Law_327 rfl (lv_at hl 0 rfl) ?_
  refine lv_iload hx hb d_Law_328 (lv_at hl 4 rfl) ?_
  refine lv_iconst (v := 4) hx hb d_Law_330 (by decide) ?_
  refine lv_iadd hx hb d_Law_331 ?_
  refine va_sld hx hb hX hbl hbA hW.2.2.2 hi4 d_Law_332 ?_
  refine lv_aload_n hx hb d_Law_333 rfl (lv_at hl 0 rfl) ?_
  refine lv_iload hx hb d_Law_334 (lv_at hl 4 rfl) ?_
  refine lv_iconst (v := 5) hx hb d_Law_336 (by decide) ?_
  refine lv_iadd hx hb d_Law_337 ?_
  refine va_sld hx hb hX hbl hbA hW.2.2.2 hi5 d_Law_338 ?_
  refine lv_aload_n hx hb d_Law_339 rfl (lv_at hl 3 rfl) ?_
  refine rl_point hC hF hW hlt hp1 m_602 hl.1 ⟨Nat.le_of_ble_eq_true rfl, Nat.le_of_ble_eq_true rfl⟩ ⟨hcn, hsn⟩ (Nat.le_of_ble_eq_true rfl) d_Law_340 (fun H locs hW => ?_)
  refine lv_istore (lv' := [(5, .int (kc_point (f_Ir_point ar sc (xs (x4 + 1).toNatClampNeg) (xs (x4 + 2).toNatClampNeg) (xs (x4 + 3).toNatClampNeg) (xs (x4 + 4).toNatClampNeg) (xs (x4 + 5).toNatClampNeg)).1)), (0, .ref b), (1, .ref (L 0)), (2, .ref (M 0)), (3, .ref qo), (4, .int x4)]) hx hb d_Law_343 hl (by decide) rfl (fun ls hl => ?_)
  refine lv_aload_n hx hb d_Law_345 rfl (lv_at hl 3 rfl) ?_
  refine lv_aload_n hx hb d_Law_346 rfl (lv_at hl 1 rfl) ?_
  refine lv_iload hx hb d_Law_347 (lv_at hl 5 rfl) ?_
  refine lv_iconst (v := 1) hx hb d_Law_349 (by decide) ?_
  refine lv_iadd hx hb d_Law_350 ?_
  refine va_sld hx hb hX hbl hbA hW.2.2.2 hi1 d_Law_351 ?_
  refine lv_aload_n hx hb d_Law_352 rfl (lv_at hl 1 rfl) ?_
  refine lv_iload hx hb d_Law_353 (lv_at hl 5 rfl) ?_
  refine lv_iconst (v := 2) hx hb d_Law_355 (by decide) ?_
  refine lv_iadd hx hb d_Law_356 ?_
  refine va_sld hx hb hX hbl hbA hW.2.2.2 hi2 d_Law_357 ?_
  refine lv_aload_n hx hb d_Law_358 rfl (lv_at hl 1 rfl) ?_
  refine lv_iload hx hb d_Law_359 (lv_at hl 5 rfl) ?_
  refine lv_iconst (v := 3) hx hb d_Law_361 (by decide) ?_
  refine lv_iadd hx hb d_Law_362 ?_
  refine va_sld hx hb hX hbl hbA hW.2.2.2 hi3 d_Law_363 ?_
  refine lv_aload_n hx hb d_Law_364 rfl (lv_at hl 1 rfl) ?_
  refine lv_iload hx hb d_Law_365 (lv_at hl 5 rfl) ?_
  refine lv_iconst (v := 4) hx hb d_Law_367 (by decide) ?_
  refine lv_iadd hx hb d_Law_368 ?_
  refine va_sld hx hb hX hbl hbA hW.2.2.2 hi4 d_Law_369 ?_
  refine lv_aload_n hx hb d_Law_370 rfl (lv_at hl 1 rfl) ?_
  refine lv_iload hx hb d_Law_371 (lv_at hl 5 rfl) ?_
  refine lv_iconst (v := 5) hx hb d_Law_373 (by decide) ?_
  refine lv_iadd hx hb d_Law_374 ?_
  refine va_sld hx hb hX hbl hbA hW.2.2.2 hi5 d_Law_375 ?_
  refine rm_point hC hF hW hp2 m_603 hl.1 ⟨Nat.le_of_ble_eq_true rfl, Nat.le_of_ble_eq_true rfl⟩ ⟨hcn, hsn⟩ (Nat.le_of_ble_eq_true rfl) d_Law_376 (fun H locs hW => ?_)
  refine lv_istore (lv' := [(6, .int ((f_Mo_point br bc (xs (x4 + 1).toNatClampNeg) (xs (x4 + 2).toNatClampNeg) (xs (x4 + 3).toNatClampNeg) (xs (x4 + 4).toNatClampNeg) (xs (x4 + 5).toNatClampNeg)).1)), (5, .int (kc_point (f_Ir_point ar sc (xs (x4 + 1).toNatClampNeg) (xs (x4 + 2).toNatClampNeg) (xs (x4 + 3).toNatClampNeg) (xs (x4 + 4).toNatClampNeg) (xs (x4 + 5).toNatClampNeg)).1)), (0, .ref b), (1, .ref (L 0)), (2, .ref (M 0)), (3, .ref qo), (4, .int x4)]) hx hb d_Law_379 hl (by decide) rfl (fun ls hl => ?_)
  refine lv_aload_n hx hb d_Law_381 rfl (lv_at hl 4 rfl) ?_
  refine r_Mo_thrown hC hF.2.1 hW.2.1 m_597 hl.1 ⟨Nat.le_of_ble_eq_true rfl, Nat.le_of_ble_eq_true rfl⟩ ⟨hcn, hsn⟩ (Nat.le_of_ble_eq_true rfl) d_Law_382 ?_
  refine lv_iload hx hb d_Law_385 (lv_at hl 1 rfl) ?_
  refine lv_icmp_eq (tgt := 392) hx hb d_Law_387 (by decide) (fun _ => ?_) (fun c9 => absurd hq c9)
  refine lv_iload hx hb d_Law_392 (lv_at hl 1 rfl) ?_
  refine lv_if_ne (tgt := 409) hx hb d_Law_394 (by decide) (fun _ => ?_) (fun c9 => ?_)
  · refine lv_goto (tgt := 1437) hx hb d_Law_409 (by decide) ?_
    exact kk _ _ _ _ _ _ _ _ hW hR2 (lv_sub hl [2, 3, 4, 5, 6] rfl)
  · have hN : (f_Ir_point ar sc (xs (x4 + 1).toNatClampNeg) (xs (x4 + 2).toNatClampNeg) (xs (x4 + 3).toNatClampNeg) (xs (x4 + 4).toNatClampNeg) (xs (x4 + 5).toNatClampNeg)).1 = none := by
      rcases ex_Ir_point ar sc (xs (x4 + 1).toNatClampNeg) (xs (x4 + 2).toNatClampNeg) (xs (x4 + 3).toNatClampNeg) (xs (x4 + 4).toNatClampNeg) (xs (x4 + 5).toNatClampNeg) with hN | hN | hN | hN
      · exact hN
      · rw [hN] at c9; exact absurd c9 (by decide)
      · rw [hN] at c9; exact absurd c9 (by decide)
      · rw [hN] at c9; exact absurd c9 (by decide)
    refine lv_aload_n hx hb d_Law_397 rfl (lv_at hl 5 rfl) ?_
    refine lv_iconst (v := 0) hx hb d_Law_398 (by decide) ?_
    refine va_lald hx hb hF.2.2.1 hW.2.2.1 0 0 rfl rfl (by unfold vp_in; decide) d_Law_399 ?_
    refine lv_iload hx hb d_Law_400 (lv_at hl 0 rfl) ?_
    refine lv_i2l hx hb d_Law_402 rfl ?_
    refine W.lcmp hx hb d_Law_403 ?_
    refine lv_if_eq (tgt := 409) hx hb d_Law_404 (by decide) (fun _ => ?_) (fun c9 => absurd (by rw [if_pos hN, hval hN]; exact lg_self _) c9)
    refine lv_goto (tgt := 1437) hx hb d_Law_409 (by decide) ?_
    exact kk _ _ _ _ _ _ _ _ hW hR2 (lv_sub hl [2, 3, 4, 5, 6] rfl)
set_option maxHeartbeats 4000000 in
set_option maxRecDepth 100000 in
theorem lc_day {p : Program} {l : Launch} {e : Env} {s : State} {m : MethodId} {args : Array Value} {below : List Frame} {meth : Method} {c : Code} {Q : State → Prop} {b Ln cn sn : Nat} {xs : Nat → Int32} {x4 : Int32} {ls : Array Slot} {dC : Nat → ClassId} {dI : Nat → Nat → Nat} {L : Nat → Nat} {cA : Nat → ClassId} {M : Nat → Nat} {cM : Nat → ClassId} {qo : Nat} {cO : ClassId} {sa : Nat → Nat} {ar : Nat → Nat → Int32} {sc : Nat → Int32} {br : Nat → Nat → Int32} {bc : Nat → Int32} {fo : Nat → Int64} {H : Heap} {locs : List Loc} (hlt : l.stackTraces = false) (hC : CallFix p m c code 7 s args w_all R_Lw) (hX : va_X b Ln xs s s.heap) (hbl : b < s.heap.size) (hF : lwF s dC dI L cA M cM qo cO sa) (hW : lwS s dC dI L cA M cM qo cO ar sc br bc fo H locs) (hR : RL ar sc br bc) (hi1 : vp_in (x4 + 1) Ln) (hi2 : vp_in (x4 + 2) Ln) (hi3 : vp_in (x4 + 3) Ln) (hi4 : vp_in (x4 + 4) Ln) (hi5 : vp_in (x4 + 5) Ln) (hcn : cn + 1 ≤ 1092) (hsn : sn + 6 ≤ 12030) (hl : lv_has ls 7 [(0, .ref b), (1, .ref (L 0)), (2, .ref (M 0)), (3, .ref qo), (4, .int x4)])
    (kk : ∀ (H1 : Heap) (locs1 : List Loc) (ar1 : Nat → Nat → Int32) (sc1 : Nat → Int32) (br1 : Nat → Nat → Int32) (bc1 : Nat → Int32) (fo1 : Nat → Int64) (ls1 : Array Slot), lwS s dC dI L cA M cM qo cO ar1 sc1 br1 bc1 fo1 H1 locs1 → RL ar1 sc1 br1 bc1 → lv_has ls1 7 [(0, .ref b), (1, .ref (L 0)), (2, .ref (M 0)), (3, .ref qo), (4, .int x4)] → W p l e room_1 s m args below meth c H1 locs1 (cn + 1) (sn + 6) Q (F0 m 1437 ls1 [])) : W p l e room_1 s m args below meth c H locs cn sn Q (F0 m 412 ls []) := by
  have hx := hC.1
  have hb := hC.2.1
  have hown := hC.2.2.2.1
  have hts := hC.2.2.2.2
  have hbA : ¬ (fun q : Nat => s.heap.size ≤ q) b := Nat.not_le.mpr hbl
  obtain ⟨hp1, hp2, hq, hval, hR2⟩ := eq_day hR (xs (x4 + 1).toNatClampNeg)
  refine lv_aload_n hx hb d_Law_412 rfl (lv_at hl 1 rfl) ?_
  refine lv_aload_n hx hb d_Law_413 rfl (lv_at hl 0 rfl) ?_
  refine lv_iload hx hb d_Law_414 (lv_at hl 4 rfl) ?_
  refine lv_iconst (v := 1) hx hb d_Law_416 (by decide) ?_
  refine lv_iadd hx hb d_Law_417 ?_
  refine va_sld hx hb hX hbl hbA hW.2.2.2 hi1 d_Law_418 ?_
  refine rl_day hC hF hW hlt m_604 hl.1 ⟨Nat.le_of_ble_eq_true rfl, Nat.le_of_ble_eq_true rfl⟩ ⟨hcn, hsn⟩ (Nat.le_of_ble_eq_true rfl) d_Law_419 (fun H locs hW => ?_)
  refine lv_istore (lv' := [(5, .int (kc_day (f_Ir_day ar sc (xs (x4 + 1).toNatClampNeg)).1)), (0, .ref b), (1, .ref (L 0)), (2, .ref (M 0)), (3, .ref qo), (4, .int x4)]) hx hb d_Law_422 hl (by decide) rfl (fun ls hl => ?_)
  refine lv_aload_n hx hb d_Law_424 rfl (lv_at hl 3 rfl) ?_
  refine lv_aload_n hx hb d_Law_425 rfl (lv_at hl 1 rfl) ?_
  refine lv_iload hx hb d_Law_426 (lv_at hl 5 rfl) ?_
  refine lv_iconst (v := 1) hx hb d_Law_428 (by decide) ?_
  refine lv_iadd hx hb d_Law_429 ?_
  refine va_sld hx hb hX hbl hbA hW.2.2.2 hi1 d_Law_430 ?_
  refine rm_day hC hF hW m_605 hl.1 ⟨Nat.le_of_ble_eq_true rfl, Nat.le_of_ble_eq_true rfl⟩ ⟨hcn, hsn⟩ (Nat.le_of_ble_eq_true rfl) d_Law_431 (fun H locs hW => ?_)
  refine lv_aload_n hx hb d_Law_434 rfl (lv_at hl 3 rfl) ?_
  refine r_Mo_thrown hC hF.2.1 hW.2.1 m_597 hl.1 ⟨Nat.le_of_ble_eq_true rfl, Nat.le_of_ble_eq_true rfl⟩ ⟨hcn, hsn⟩ (Nat.le_of_ble_eq_true rfl) d_Law_435 ?_
  refine lv_iload hx hb d_Law_438 (lv_at hl 0 rfl) ?_
  refine lv_icmp_eq (tgt := 445) hx hb d_Law_440 (by decide) (fun _ => ?_) (fun c9 => absurd hq c9)
  refine lv_goto (tgt := 1437) hx hb d_Law_445 (by decide) ?_
  exact kk _ _ _ _ _ _ _ _ hW hR2 (lv_sub hl [1, 2, 3, 4, 5] rfl)
set_option maxHeartbeats 4000000 in
set_option maxRecDepth 100000 in
theorem lc_visit {p : Program} {l : Launch} {e : Env} {s : State} {m : MethodId} {args : Array Value} {below : List Frame} {meth : Method} {c : Code} {Q : State → Prop} {b Ln cn sn : Nat} {xs : Nat → Int32} {x4 : Int32} {ls : Array Slot} {dC : Nat → ClassId} {dI : Nat → Nat → Nat} {L : Nat → Nat} {cA : Nat → ClassId} {M : Nat → Nat} {cM : Nat → ClassId} {qo : Nat} {cO : ClassId} {sa : Nat → Nat} {ar : Nat → Nat → Int32} {sc : Nat → Int32} {br : Nat → Nat → Int32} {bc : Nat → Int32} {fo : Nat → Int64} {H : Heap} {locs : List Loc} (hlt : l.stackTraces = false) (hC : CallFix p m c code 7 s args w_all R_Lw) (hX : va_X b Ln xs s s.heap) (hbl : b < s.heap.size) (hF : lwF s dC dI L cA M cM qo cO sa) (hW : lwS s dC dI L cA M cM qo cO ar sc br bc fo H locs) (hR : RL ar sc br bc) (hi1 : vp_in (x4 + 1) Ln) (hi2 : vp_in (x4 + 2) Ln) (hi3 : vp_in (x4 + 3) Ln) (hi4 : vp_in (x4 + 4) Ln) (hi5 : vp_in (x4 + 5) Ln) (hcn : cn + 1 ≤ 1092) (hsn : sn + 6 ≤ 12030) (hl : lv_has ls 7 [(0, .ref b), (1, .ref (L 0)), (2, .ref (M 0)), (3, .ref qo), (4, .int x4)])
    (kk : ∀ (H1 : Heap) (locs1 : List Loc) (ar1 : Nat → Nat → Int32) (sc1 : Nat → Int32) (br1 : Nat → Nat → Int32) (bc1 : Nat → Int32) (fo1 : Nat → Int64) (ls1 : Array Slot), lwS s dC dI L cA M cM qo cO ar1 sc1 br1 bc1 fo1 H1 locs1 → RL ar1 sc1 br1 bc1 → lv_has ls1 7 [(0, .ref b), (1, .ref (L 0)), (2, .ref (M 0)), (3, .ref qo), (4, .int x4)] → W p l e room_1 s m args below meth c H1 locs1 (cn + 1) (sn + 6) Q (F0 m 1437 ls1 [])) : W p l e room_1 s m args below meth c H locs cn sn Q (F0 m 448 ls []) := by
  have hx := hC.1
  have hb := hC.2.1
  have hown := hC.2.2.2.1
  have hts := hC.2.2.2.2
  have hbA : ¬ (fun q : Nat => s.heap.size ≤ q) b := Nat.not_le.mpr hbl
  obtain ⟨hp1, hp2, hq, hval, hR2⟩ := eq_visit hR (xs (x4 + 1).toNatClampNeg)
  refine lv_aload_n hx hb d_Law_448 rfl (lv_at hl 1 rfl) ?_
  refine lv_aload_n hx hb d_Law_449 rfl (lv_at hl 0 rfl) ?_
  refine lv_iload hx hb d_Law_450 (lv_at hl 4 rfl) ?_
  refine lv_iconst (v := 1) hx hb d_Law_452 (by decide) ?_
  refine lv_iadd hx hb d_Law_453 ?_
  refine va_sld hx hb hX hbl hbA hW.2.2.2 hi1 d_Law_454 ?_
  refine rl_visit hC hF hW hlt hp1 m_606 hl.1 ⟨Nat.le_of_ble_eq_true rfl, Nat.le_of_ble_eq_true rfl⟩ ⟨hcn, hsn⟩ (Nat.le_of_ble_eq_true rfl) d_Law_455 (fun H locs hW => ?_)
  refine lv_istore (lv' := [(5, .int (kc_visit (f_Ir_visit ar sc (xs (x4 + 1).toNatClampNeg)).1)), (0, .ref b), (1, .ref (L 0)), (2, .ref (M 0)), (3, .ref qo), (4, .int x4)]) hx hb d_Law_458 hl (by decide) rfl (fun ls hl => ?_)
  refine lv_aload_n hx hb d_Law_460 rfl (lv_at hl 3 rfl) ?_
  refine lv_aload_n hx hb d_Law_461 rfl (lv_at hl 1 rfl) ?_
  refine lv_iload hx hb d_Law_462 (lv_at hl 5 rfl) ?_
  refine lv_iconst (v := 1) hx hb d_Law_464 (by decide) ?_
  refine lv_iadd hx hb d_Law_465 ?_
  refine va_sld hx hb hX hbl hbA hW.2.2.2 hi1 d_Law_466 ?_
  refine rm_visit hC hF hW hp2 m_607 hl.1 ⟨Nat.le_of_ble_eq_true rfl, Nat.le_of_ble_eq_true rfl⟩ ⟨hcn, hsn⟩ (Nat.le_of_ble_eq_true rfl) d_Law_467 (fun H locs hW => ?_)
  refine lv_aload_n hx hb d_Law_470 rfl (lv_at hl 3 rfl) ?_
  refine r_Mo_thrown hC hF.2.1 hW.2.1 m_597 hl.1 ⟨Nat.le_of_ble_eq_true rfl, Nat.le_of_ble_eq_true rfl⟩ ⟨hcn, hsn⟩ (Nat.le_of_ble_eq_true rfl) d_Law_471 ?_
  refine lv_iload hx hb d_Law_474 (lv_at hl 0 rfl) ?_
  refine lv_icmp_eq (tgt := 481) hx hb d_Law_476 (by decide) (fun _ => ?_) (fun c9 => absurd hq c9)
  refine lv_goto (tgt := 1437) hx hb d_Law_481 (by decide) ?_
  exact kk _ _ _ _ _ _ _ _ hW hR2 (lv_sub hl [1, 2, 3, 4, 5] rfl)
set_option maxHeartbeats 4000000 in
set_option maxRecDepth 100000 in
theorem lc_finding {p : Program} {l : Launch} {e : Env} {s : State} {m : MethodId} {args : Array Value} {below : List Frame} {meth : Method} {c : Code} {Q : State → Prop} {b Ln cn sn : Nat} {xs : Nat → Int32} {x4 : Int32} {ls : Array Slot} {dC : Nat → ClassId} {dI : Nat → Nat → Nat} {L : Nat → Nat} {cA : Nat → ClassId} {M : Nat → Nat} {cM : Nat → ClassId} {qo : Nat} {cO : ClassId} {sa : Nat → Nat} {ar : Nat → Nat → Int32} {sc : Nat → Int32} {br : Nat → Nat → Int32} {bc : Nat → Int32} {fo : Nat → Int64} {H : Heap} {locs : List Loc} (hlt : l.stackTraces = false) (hC : CallFix p m c code 7 s args w_all R_Lw) (hX : va_X b Ln xs s s.heap) (hbl : b < s.heap.size) (hF : lwF s dC dI L cA M cM qo cO sa) (hW : lwS s dC dI L cA M cM qo cO ar sc br bc fo H locs) (hR : RL ar sc br bc) (hi1 : vp_in (x4 + 1) Ln) (hi2 : vp_in (x4 + 2) Ln) (hi3 : vp_in (x4 + 3) Ln) (hi4 : vp_in (x4 + 4) Ln) (hi5 : vp_in (x4 + 5) Ln) (hcn : cn + 1 ≤ 1092) (hsn : sn + 6 ≤ 12030) (hl : lv_has ls 7 [(0, .ref b), (1, .ref (L 0)), (2, .ref (M 0)), (3, .ref qo), (4, .int x4)])
    (kk : ∀ (H1 : Heap) (locs1 : List Loc) (ar1 : Nat → Nat → Int32) (sc1 : Nat → Int32) (br1 : Nat → Nat → Int32) (bc1 : Nat → Int32) (fo1 : Nat → Int64) (ls1 : Array Slot), lwS s dC dI L cA M cM qo cO ar1 sc1 br1 bc1 fo1 H1 locs1 → RL ar1 sc1 br1 bc1 → lv_has ls1 7 [(0, .ref b), (1, .ref (L 0)), (2, .ref (M 0)), (3, .ref qo), (4, .int x4)] → W p l e room_1 s m args below meth c H1 locs1 (cn + 1) (sn + 6) Q (F0 m 1437 ls1 [])) : W p l e room_1 s m args below meth c H locs cn sn Q (F0 m 484 ls []) := by
  have hx := hC.1
  have hb := hC.2.1
  have hown := hC.2.2.2.1
  have hts := hC.2.2.2.2
  have hbA : ¬ (fun q : Nat => s.heap.size ≤ q) b := Nat.not_le.mpr hbl
  obtain ⟨hp1, hp2, hq, hval, hR2⟩ := eq_finding hR (xs (x4 + 1).toNatClampNeg) (xs (x4 + 2).toNatClampNeg) (xs (x4 + 3).toNatClampNeg)
  refine lv_aload_n hx hb d_Law_484 rfl (lv_at hl 1 rfl) ?_
  refine lv_aload_n hx hb d_Law_485 rfl (lv_at hl 0 rfl) ?_
  refine lv_iload hx hb d_Law_486 (lv_at hl 4 rfl) ?_
  refine lv_iconst (v := 1) hx hb d_Law_488 (by decide) ?_
  refine lv_iadd hx hb d_Law_489 ?_
  refine va_sld hx hb hX hbl hbA hW.2.2.2 hi1 d_Law_490 ?_
  refine lv_aload_n hx hb d_Law_491 rfl (lv_at hl 0 rfl) ?_
  refine lv_iload hx hb d_Law_492 (lv_at hl 4 rfl) ?_
  refine lv_iconst (v := 2) hx hb d_Law_494 (by decide) ?_
  refine lv_iadd hx hb d_Law_495 ?_
  refine va_sld hx hb hX hbl hbA hW.2.2.2 hi2 d_Law_496 ?_
  refine lv_aload_n hx hb d_Law_497 rfl (lv_at hl 0 rfl) ?_
  refine lv_iload hx hb d_Law_498 (lv_at hl 4 rfl) ?_
  refine lv_iconst (v := 3) hx hb d_Law_500 (by decide) ?_
  refine lv_iadd hx hb d_Law_501 ?_
  refine va_sld hx hb hX hbl hbA hW.2.2.2 hi3 d_Law_502 ?_
  refine lv_aload_n hx hb d_Law_503 rfl (lv_at hl 3 rfl) ?_
  refine rl_finding hC hF hW hlt hp1 m_608 hl.1 ⟨Nat.le_of_ble_eq_true rfl, Nat.le_of_ble_eq_true rfl⟩ ⟨hcn, hsn⟩ (Nat.le_of_ble_eq_true rfl) d_Law_504 (fun H locs hW => ?_)
  refine lv_istore (lv' := [(5, .int (kc_finding (f_Ir_finding ar sc (xs (x4 + 1).toNatClampNeg) (xs (x4 + 2).toNatClampNeg) (xs (x4 + 3).toNatClampNeg)).1)), (0, .ref b), (1, .ref (L 0)), (2, .ref (M 0)), (3, .ref qo), (4, .int x4)]) hx hb d_Law_507 hl (by decide) rfl (fun ls hl => ?_)
  refine lv_aload_n hx hb d_Law_509 rfl (lv_at hl 3 rfl) ?_
  refine lv_aload_n hx hb d_Law_510 rfl (lv_at hl 1 rfl) ?_
  refine lv_iload hx hb d_Law_511 (lv_at hl 5 rfl) ?_
  refine lv_iconst (v := 1) hx hb d_Law_513 (by decide) ?_
  refine lv_iadd hx hb d_Law_514 ?_
  refine va_sld hx hb hX hbl hbA hW.2.2.2 hi1 d_Law_515 ?_
  refine lv_aload_n hx hb d_Law_516 rfl (lv_at hl 1 rfl) ?_
  refine lv_iload hx hb d_Law_517 (lv_at hl 5 rfl) ?_
  refine lv_iconst (v := 2) hx hb d_Law_519 (by decide) ?_
  refine lv_iadd hx hb d_Law_520 ?_
  refine va_sld hx hb hX hbl hbA hW.2.2.2 hi2 d_Law_521 ?_
  refine lv_aload_n hx hb d_Law_522 rfl (lv_at hl 1 rfl) ?_
  refine lv_iload hx hb d_Law_523 (lv_at hl 5 rfl) ?_
  refine lv_iconst (v := 3) hx hb d_Law_525 (by decide) ?_
  refine lv_iadd hx hb d_Law_526 ?_
  refine va_sld hx hb hX hbl hbA hW.2.2.2 hi3 d_Law_527 ?_
  refine rm_finding hC hF hW hp2 m_609 hl.1 ⟨Nat.le_of_ble_eq_true rfl, Nat.le_of_ble_eq_true rfl⟩ ⟨hcn, hsn⟩ (Nat.le_of_ble_eq_true rfl) d_Law_528 (fun H locs hW => ?_)
  refine lv_istore (lv' := [(6, .int ((f_Mo_finding br bc (xs (x4 + 1).toNatClampNeg) (xs (x4 + 2).toNatClampNeg) (xs (x4 + 3).toNatClampNeg)).1)), (5, .int (kc_finding (f_Ir_finding ar sc (xs (x4 + 1).toNatClampNeg) (xs (x4 + 2).toNatClampNeg) (xs (x4 + 3).toNatClampNeg)).1)), (0, .ref b), (1, .ref (L 0)), (2, .ref (M 0)), (3, .ref qo), (4, .int x4)]) hx hb d_Law_531 hl (by decide) rfl (fun ls hl => ?_)
  refine lv_aload_n hx hb d_Law_533 rfl (lv_at hl 4 rfl) ?_
  refine r_Mo_thrown hC hF.2.1 hW.2.1 m_597 hl.1 ⟨Nat.le_of_ble_eq_true rfl, Nat.le_of_ble_eq_true rfl⟩ ⟨hcn, hsn⟩ (Nat.le_of_ble_eq_true rfl) d_Law_534 ?_
  refine lv_iload hx hb d_Law_537 (lv_at hl 1 rfl) ?_
  refine lv_icmp_eq (tgt := 544) hx hb d_Law_539 (by decide) (fun _ => ?_) (fun c9 => absurd hq c9)
  refine lv_iload hx hb d_Law_544 (lv_at hl 1 rfl) ?_
  refine lv_if_ne (tgt := 561) hx hb d_Law_546 (by decide) (fun _ => ?_) (fun c9 => ?_)
  · refine lv_goto (tgt := 1437) hx hb d_Law_561 (by decide) ?_
    exact kk _ _ _ _ _ _ _ _ hW hR2 (lv_sub hl [2, 3, 4, 5, 6] rfl)
  · have hN : (f_Ir_finding ar sc (xs (x4 + 1).toNatClampNeg) (xs (x4 + 2).toNatClampNeg) (xs (x4 + 3).toNatClampNeg)).1 = none := by
      rcases ex_Ir_finding ar sc (xs (x4 + 1).toNatClampNeg) (xs (x4 + 2).toNatClampNeg) (xs (x4 + 3).toNatClampNeg) with hN | hN | hN | hN
      · exact hN
      · rw [hN] at c9; exact absurd c9 (by decide)
      · rw [hN] at c9; exact absurd c9 (by decide)
      · rw [hN] at c9; exact absurd c9 (by decide)
    refine lv_aload_n hx hb d_Law_549 rfl (lv_at hl 5 rfl) ?_
    refine lv_iconst (v := 0) hx hb d_Law_550 (by decide) ?_
    refine va_lald hx hb hF.2.2.1 hW.2.2.1 0 0 rfl rfl (by unfold vp_in; decide) d_Law_551 ?_
    refine lv_iload hx hb d_Law_552 (lv_at hl 0 rfl) ?_
    refine lv_i2l hx hb d_Law_554 rfl ?_
    refine W.lcmp hx hb d_Law_555 ?_
    refine lv_if_eq (tgt := 561) hx hb d_Law_556 (by decide) (fun _ => ?_) (fun c9 => absurd (by rw [if_pos hN, hval hN]; exact lg_self _) c9)
    refine lv_goto (tgt := 1437) hx hb d_Law_561 (by decide) ?_
    exact kk _ _ _ _ _ _ _ _ hW hR2 (lv_sub hl [2, 3, 4, 5, 6] rfl)
set_option maxHeartbeats 4000000 in
set_option maxRecDepth 100000 in
theorem lc_done {p : Program} {l : Launch} {e : Env} {s : State} {m : MethodId} {args : Array Value} {below : List Frame} {meth : Method} {c : Code} {Q : State → Prop} {b Ln cn sn : Nat} {xs : Nat → Int32} {x4 : Int32} {ls : Array Slot} {dC : Nat → ClassId} {dI : Nat → Nat → Nat} {L : Nat → Nat} {cA : Nat → ClassId} {M : Nat → Nat} {cM : Nat → ClassId} {qo : Nat} {cO : ClassId} {sa : Nat → Nat} {ar : Nat → Nat → Int32} {sc : Nat → Int32} {br : Nat → Nat → Int32} {bc : Nat → Int32} {fo : Nat → Int64} {H : Heap} {locs : List Loc} (hlt : l.stackTraces = false) (hC : CallFix p m c code 7 s args w_all R_Lw) (hX : va_X b Ln xs s s.heap) (hbl : b < s.heap.size) (hF : lwF s dC dI L cA M cM qo cO sa) (hW : lwS s dC dI L cA M cM qo cO ar sc br bc fo H locs) (hR : RL ar sc br bc) (hi1 : vp_in (x4 + 1) Ln) (hi2 : vp_in (x4 + 2) Ln) (hi3 : vp_in (x4 + 3) Ln) (hi4 : vp_in (x4 + 4) Ln) (hi5 : vp_in (x4 + 5) Ln) (hcn : cn + 1 ≤ 1092) (hsn : sn + 6 ≤ 12030) (hl : lv_has ls 7 [(0, .ref b), (1, .ref (L 0)), (2, .ref (M 0)), (3, .ref qo), (4, .int x4)])
    (kk : ∀ (H1 : Heap) (locs1 : List Loc) (ar1 : Nat → Nat → Int32) (sc1 : Nat → Int32) (br1 : Nat → Nat → Int32) (bc1 : Nat → Int32) (fo1 : Nat → Int64) (ls1 : Array Slot), lwS s dC dI L cA M cM qo cO ar1 sc1 br1 bc1 fo1 H1 locs1 → RL ar1 sc1 br1 bc1 → lv_has ls1 7 [(0, .ref b), (1, .ref (L 0)), (2, .ref (M 0)), (3, .ref qo), (4, .int x4)] → W p l e room_1 s m args below meth c H1 locs1 (cn + 1) (sn + 6) Q (F0 m 1437 ls1 [])) : W p l e room_1 s m args below meth c H locs cn sn Q (F0 m 564 ls []) := by
  have hx := hC.1
  have hb := hC.2.1
  have hown := hC.2.2.2.1
  have hts := hC.2.2.2.2
  have hbA : ¬ (fun q : Nat => s.heap.size ≤ q) b := Nat.not_le.mpr hbl
  obtain ⟨hp1, hp2, hq, hval, hR2⟩ := eq_done hR (xs (x4 + 1).toNatClampNeg) (xs (x4 + 2).toNatClampNeg)
  refine lv_aload_n hx hb d_Law_564 rfl (lv_at hl 1 rfl) ?_
  refine lv_aload_n hx hb d_Law_565 rfl (lv_at hl 0 rfl) ?_
  refine lv_iload hx hb d_Law_566 (lv_at hl 4 rfl) ?_
  refine lv_iconst (v := 1) hx hb d_Law_568 (by decide) ?_
  refine lv_iadd hx hb d_Law_569 ?_
  refine va_sld hx hb hX hbl hbA hW.2.2.2 hi1 d_Law_570 ?_
  refine lv_aload_n hx hb d_Law_571 rfl (lv_at hl 0 rfl) ?_
  refine lv_iload hx hb d_Law_572 (lv_at hl 4 rfl) ?_
  refine lv_iconst (v := 2) hx hb d_Law_574 (by decide) ?_
  refine lv_iadd hx hb d_Law_575 ?_
  refine va_sld hx hb hX hbl hbA hW.2.2.2 hi2 d_Law_576 ?_
  refine rl_done hC hF hW hlt hp1 m_610 hl.1 ⟨Nat.le_of_ble_eq_true rfl, Nat.le_of_ble_eq_true rfl⟩ ⟨hcn, hsn⟩ (Nat.le_of_ble_eq_true rfl) d_Law_577 (fun H locs hW => ?_)
  refine lv_istore (lv' := [(5, .int (kc_done (f_Ir_done ar sc (xs (x4 + 1).toNatClampNeg) (xs (x4 + 2).toNatClampNeg)).1)), (0, .ref b), (1, .ref (L 0)), (2, .ref (M 0)), (3, .ref qo), (4, .int x4)]) hx hb d_Law_580 hl (by decide) rfl (fun ls hl => ?_)
  refine lv_aload_n hx hb d_Law_582 rfl (lv_at hl 3 rfl) ?_
  refine lv_aload_n hx hb d_Law_583 rfl (lv_at hl 1 rfl) ?_
  refine lv_iload hx hb d_Law_584 (lv_at hl 5 rfl) ?_
  refine lv_iconst (v := 1) hx hb d_Law_586 (by decide) ?_
  refine lv_iadd hx hb d_Law_587 ?_
  refine va_sld hx hb hX hbl hbA hW.2.2.2 hi1 d_Law_588 ?_
  refine lv_aload_n hx hb d_Law_589 rfl (lv_at hl 1 rfl) ?_
  refine lv_iload hx hb d_Law_590 (lv_at hl 5 rfl) ?_
  refine lv_iconst (v := 2) hx hb d_Law_592 (by decide) ?_
  refine lv_iadd hx hb d_Law_593 ?_
  refine va_sld hx hb hX hbl hbA hW.2.2.2 hi2 d_Law_594 ?_
  refine rm_done hC hF hW hp2 m_611 hl.1 ⟨Nat.le_of_ble_eq_true rfl, Nat.le_of_ble_eq_true rfl⟩ ⟨hcn, hsn⟩ (Nat.le_of_ble_eq_true rfl) d_Law_595 (fun H locs hW => ?_)
  refine lv_aload_n hx hb d_Law_598 rfl (lv_at hl 3 rfl) ?_
  refine r_Mo_thrown hC hF.2.1 hW.2.1 m_597 hl.1 ⟨Nat.le_of_ble_eq_true rfl, Nat.le_of_ble_eq_true rfl⟩ ⟨hcn, hsn⟩ (Nat.le_of_ble_eq_true rfl) d_Law_599 ?_
  refine lv_iload hx hb d_Law_602 (lv_at hl 0 rfl) ?_
  refine lv_icmp_eq (tgt := 609) hx hb d_Law_604 (by decide) (fun _ => ?_) (fun c9 => absurd hq c9)
  refine lv_goto (tgt := 1437) hx hb d_Law_609 (by decide) ?_
  exact kk _ _ _ _ _ _ _ _ hW hR2 (lv_sub hl [1, 2, 3, 4, 5] rfl)
set_option maxHeartbeats 4000000 in
set_option maxRecDepth 100000 in
theorem lc_findingAt {p : Program} {l : Launch} {e : Env} {s : State} {m : MethodId} {args : Array Value} {below : List Frame} {meth : Method} {c : Code} {Q : State → Prop} {b Ln cn sn : Nat} {xs : Nat → Int32} {x4 : Int32} {ls : Array Slot} {dC : Nat → ClassId} {dI : Nat → Nat → Nat} {L : Nat → Nat} {cA : Nat → ClassId} {M : Nat → Nat} {cM : Nat → ClassId} {qo : Nat} {cO : ClassId} {sa : Nat → Nat} {ar : Nat → Nat → Int32} {sc : Nat → Int32} {br : Nat → Nat → Int32} {bc : Nat → Int32} {fo : Nat → Int64} {H : Heap} {locs : List Loc} (hlt : l.stackTraces = false) (hC : CallFix p m c code 7 s args w_all R_Lw) (hX : va_X b Ln xs s s.heap) (hbl : b < s.heap.size) (hF : lwF s dC dI L cA M cM qo cO sa) (hW : lwS s dC dI L cA M cM qo cO ar sc br bc fo H locs) (hR : RL ar sc br bc) (hi1 : vp_in (x4 + 1) Ln) (hi2 : vp_in (x4 + 2) Ln) (hi3 : vp_in (x4 + 3) Ln) (hi4 : vp_in (x4 + 4) Ln) (hi5 : vp_in (x4 + 5) Ln) (hcn : cn + 1 ≤ 1092) (hsn : sn + 6 ≤ 12030) (hl : lv_has ls 7 [(0, .ref b), (1, .ref (L 0)), (2, .ref (M 0)), (3, .ref qo), (4, .int x4)])
    (kk : ∀ (H1 : Heap) (locs1 : List Loc) (ar1 : Nat → Nat → Int32) (sc1 : Nat → Int32) (br1 : Nat → Nat → Int32) (bc1 : Nat → Int32) (fo1 : Nat → Int64) (ls1 : Array Slot), lwS s dC dI L cA M cM qo cO ar1 sc1 br1 bc1 fo1 H1 locs1 → RL ar1 sc1 br1 bc1 → lv_has ls1 7 [(0, .ref b), (1, .ref (L 0)), (2, .ref (M 0)), (3, .ref qo), (4, .int x4)] → W p l e room_1 s m args below meth c H1 locs1 (cn + 1) (sn + 6) Q (F0 m 1437 ls1 [])) : W p l e room_1 s m args below meth c H locs cn sn Q (F0 m 612 ls []) := by
  have hx := hC.1
  have hb := hC.2.1
  have hown := hC.2.2.2.1
  have hts := hC.2.2.2.2
  have hbA : ¬ (fun q : Nat => s.heap.size ≤ q) b := Nat.not_le.mpr hbl
  obtain ⟨hp1, hp2, hq, hval, hR2⟩ := eq_findingAt hR (xs (x4 + 1).toNatClampNeg) (xs (x4 + 2).toNatClampNeg)
  refine lv_aload_n hx hb d_Law_612 rfl (lv_at hl 1 rfl) ?_
  refine lv_aload_n hx hb d_Law_613 rfl (lv_at hl 0 rfl) ?_
  refine lv_iload hx hb d_Law_614 (lv_at hl 4 rfl) ?_
  refine lv_iconst (v := 1) hx hb d_Law_616 (by decide) ?_
  refine lv_iadd hx hb d_Law_617 ?_
  refine va_sld hx hb hX hbl hbA hW.2.2.2 hi1 d_Law_618 ?_
  refine lv_aload_n hx hb d_Law_619 rfl (lv_at hl 0 rfl) ?_
  refine lv_iload hx hb d_Law_620 (lv_at hl 4 rfl) ?_
  refine lv_iconst (v := 2) hx hb d_Law_622 (by decide) ?_
  refine lv_iadd hx hb d_Law_623 ?_
  refine va_sld hx hb hX hbl hbA hW.2.2.2 hi2 d_Law_624 ?_
  refine lv_aload_n hx hb d_Law_625 rfl (lv_at hl 3 rfl) ?_
  refine rl_findingAt hC hF hW hlt hp1 m_612 hl.1 ⟨Nat.le_of_ble_eq_true rfl, Nat.le_of_ble_eq_true rfl⟩ ⟨hcn, hsn⟩ (Nat.le_of_ble_eq_true rfl) d_Law_626 (fun H locs hW => ?_)
  refine lv_istore (lv' := [(5, .int (kc_findingAt (f_Ir_findingAt ar sc (xs (x4 + 1).toNatClampNeg) (xs (x4 + 2).toNatClampNeg)).1)), (0, .ref b), (1, .ref (L 0)), (2, .ref (M 0)), (3, .ref qo), (4, .int x4)]) hx hb d_Law_629 hl (by decide) rfl (fun ls hl => ?_)
  refine lv_aload_n hx hb d_Law_631 rfl (lv_at hl 3 rfl) ?_
  refine lv_aload_n hx hb d_Law_632 rfl (lv_at hl 1 rfl) ?_
  refine lv_iload hx hb d_Law_633 (lv_at hl 5 rfl) ?_
  refine lv_iconst (v := 1) hx hb d_Law_635 (by decide) ?_
  refine lv_iadd hx hb d_Law_636 ?_
  refine va_sld hx hb hX hbl hbA hW.2.2.2 hi1 d_Law_637 ?_
  refine lv_aload_n hx hb d_Law_638 rfl (lv_at hl 1 rfl) ?_
  refine lv_iload hx hb d_Law_639 (lv_at hl 5 rfl) ?_
  refine lv_iconst (v := 2) hx hb d_Law_641 (by decide) ?_
  refine lv_iadd hx hb d_Law_642 ?_
  refine va_sld hx hb hX hbl hbA hW.2.2.2 hi2 d_Law_643 ?_
  refine rm_findingAt hC hF hW hp2 m_613 hl.1 ⟨Nat.le_of_ble_eq_true rfl, Nat.le_of_ble_eq_true rfl⟩ ⟨hcn, hsn⟩ (Nat.le_of_ble_eq_true rfl) d_Law_644 (fun H locs hW => ?_)
  refine lv_istore (lv' := [(6, .int ((f_Mo_findingAt br bc (xs (x4 + 1).toNatClampNeg) (xs (x4 + 2).toNatClampNeg)).1)), (5, .int (kc_findingAt (f_Ir_findingAt ar sc (xs (x4 + 1).toNatClampNeg) (xs (x4 + 2).toNatClampNeg)).1)), (0, .ref b), (1, .ref (L 0)), (2, .ref (M 0)), (3, .ref qo), (4, .int x4)]) hx hb d_Law_647 hl (by decide) rfl (fun ls hl => ?_)
  refine lv_aload_n hx hb d_Law_649 rfl (lv_at hl 4 rfl) ?_
  refine r_Mo_thrown hC hF.2.1 hW.2.1 m_597 hl.1 ⟨Nat.le_of_ble_eq_true rfl, Nat.le_of_ble_eq_true rfl⟩ ⟨hcn, hsn⟩ (Nat.le_of_ble_eq_true rfl) d_Law_650 ?_
  refine lv_iload hx hb d_Law_653 (lv_at hl 1 rfl) ?_
  refine lv_icmp_eq (tgt := 660) hx hb d_Law_655 (by decide) (fun _ => ?_) (fun c9 => absurd hq c9)
  refine lv_iload hx hb d_Law_660 (lv_at hl 1 rfl) ?_
  refine lv_if_ne (tgt := 677) hx hb d_Law_662 (by decide) (fun _ => ?_) (fun c9 => ?_)
  · refine lv_goto (tgt := 1437) hx hb d_Law_677 (by decide) ?_
    exact kk _ _ _ _ _ _ _ _ hW hR2 (lv_sub hl [2, 3, 4, 5, 6] rfl)
  · have hN : (f_Ir_findingAt ar sc (xs (x4 + 1).toNatClampNeg) (xs (x4 + 2).toNatClampNeg)).1 = none := by
      rcases ex_Ir_findingAt ar sc (xs (x4 + 1).toNatClampNeg) (xs (x4 + 2).toNatClampNeg) with hN | hN
      · exact hN
      · rw [hN] at c9; exact absurd c9 (by decide)
    refine lv_aload_n hx hb d_Law_665 rfl (lv_at hl 5 rfl) ?_
    refine lv_iconst (v := 0) hx hb d_Law_666 (by decide) ?_
    refine va_lald hx hb hF.2.2.1 hW.2.2.1 0 0 rfl rfl (by unfold vp_in; decide) d_Law_667 ?_
    refine lv_iload hx hb d_Law_668 (lv_at hl 0 rfl) ?_
    refine lv_i2l hx hb d_Law_670 rfl ?_
    refine W.lcmp hx hb d_Law_671 ?_
    refine lv_if_eq (tgt := 677) hx hb d_Law_672 (by decide) (fun _ => ?_) (fun c9 => absurd (by rw [if_pos hN, hval hN]; exact lg_self _) c9)
    refine lv_goto (tgt := 1437) hx hb d_Law_677 (by decide) ?_
    exact kk _ _ _ _ _ _ _ _ hW hR2 (lv_sub hl [2, 3, 4, 5, 6] rfl)
set_option maxHeartbeats 4000000 in
set_option maxRecDepth 100000 in
theorem lc_pointAt {p : Program} {l : Launch} {e : Env} {s : State} {m : MethodId} {args : Array Value} {below : List Frame} {meth : Method} {c : Code} {Q : State → Prop} {b Ln cn sn : Nat} {xs : Nat → Int32} {x4 : Int32} {ls : Array Slot} {dC : Nat → ClassId} {dI : Nat → Nat → Nat} {L : Nat → Nat} {cA : Nat → ClassId} {M : Nat → Nat} {cM : Nat → ClassId} {qo : Nat} {cO : ClassId} {sa : Nat → Nat} {ar : Nat → Nat → Int32} {sc : Nat → Int32} {br : Nat → Nat → Int32} {bc : Nat → Int32} {fo : Nat → Int64} {H : Heap} {locs : List Loc} (hlt : l.stackTraces = false) (hC : CallFix p m c code 7 s args w_all R_Lw) (hX : va_X b Ln xs s s.heap) (hbl : b < s.heap.size) (hF : lwF s dC dI L cA M cM qo cO sa) (hW : lwS s dC dI L cA M cM qo cO ar sc br bc fo H locs) (hR : RL ar sc br bc) (hi1 : vp_in (x4 + 1) Ln) (hi2 : vp_in (x4 + 2) Ln) (hi3 : vp_in (x4 + 3) Ln) (hi4 : vp_in (x4 + 4) Ln) (hi5 : vp_in (x4 + 5) Ln) (hcn : cn + 1 ≤ 1092) (hsn : sn + 6 ≤ 12030) (hl : lv_has ls 7 [(0, .ref b), (1, .ref (L 0)), (2, .ref (M 0)), (3, .ref qo), (4, .int x4)])
    (kk : ∀ (H1 : Heap) (locs1 : List Loc) (ar1 : Nat → Nat → Int32) (sc1 : Nat → Int32) (br1 : Nat → Nat → Int32) (bc1 : Nat → Int32) (fo1 : Nat → Int64) (ls1 : Array Slot), lwS s dC dI L cA M cM qo cO ar1 sc1 br1 bc1 fo1 H1 locs1 → RL ar1 sc1 br1 bc1 → lv_has ls1 7 [(0, .ref b), (1, .ref (L 0)), (2, .ref (M 0)), (3, .ref qo), (4, .int x4)] → W p l e room_1 s m args below meth c H1 locs1 (cn + 1) (sn + 6) Q (F0 m 1437 ls1 [])) : W p l e room_1 s m args below meth c H locs cn sn Q (F0 m 680 ls []) := by
  have hx := hC.1
  have hb := hC.2.1
  have hown := hC.2.2.2.1
  have hts := hC.2.2.2.2
  have hbA : ¬ (fun q : Nat => s.heap.size ≤ q) b := Nat.not_le.mpr hbl
  obtain ⟨hp1, hp2, hq, hval, hR2⟩ := eq_pointAt hR (xs (x4 + 1).toNatClampNeg) (xs (x4 + 2).toNatClampNeg)
  refine lv_aload_n hx hb d_Law_680 rfl (lv_at hl 1 rfl) ?_
  refine lv_aload_n hx hb d_Law_681 rfl (lv_at hl 0 rfl) ?_
  refine lv_iload hx hb d_Law_682 (lv_at hl 4 rfl) ?_
  refine lv_iconst (v := 1) hx hb d_Law_684 (by decide) ?_
  refine lv_iadd hx hb d_Law_685 ?_
  refine va_sld hx hb hX hbl hbA hW.2.2.2 hi1 d_Law_686 ?_
  refine lv_aload_n hx hb d_Law_687 rfl (lv_at hl 0 rfl) ?_
  refine lv_iload hx hb d_Law_688 (lv_at hl 4 rfl) ?_
  refine lv_iconst (v := 2) hx hb d_Law_690 (by decide) ?_
  refine lv_iadd hx hb d_Law_691 ?_
  refine va_sld hx hb hX hbl hbA hW.2.2.2 hi2 d_Law_692 ?_
  refine lv_aload_n hx hb d_Law_693 rfl (lv_at hl 3 rfl) ?_
  refine rl_pointAt hC hF hW hlt hp1 m_614 hl.1 ⟨Nat.le_of_ble_eq_true rfl, Nat.le_of_ble_eq_true rfl⟩ ⟨hcn, hsn⟩ (Nat.le_of_ble_eq_true rfl) d_Law_694 (fun H locs hW => ?_)
  refine lv_istore (lv' := [(5, .int (kc_pointAt (f_Ir_pointAt ar sc (xs (x4 + 1).toNatClampNeg) (xs (x4 + 2).toNatClampNeg)).1)), (0, .ref b), (1, .ref (L 0)), (2, .ref (M 0)), (3, .ref qo), (4, .int x4)]) hx hb d_Law_697 hl (by decide) rfl (fun ls hl => ?_)
  refine lv_aload_n hx hb d_Law_699 rfl (lv_at hl 3 rfl) ?_
  refine lv_aload_n hx hb d_Law_700 rfl (lv_at hl 1 rfl) ?_
  refine lv_iload hx hb d_Law_701 (lv_at hl 5 rfl) ?_
  refine lv_iconst (v := 1) hx hb d_Law_703 (by decide) ?_
  refine lv_iadd hx hb d_Law_704 ?_
  refine va_sld hx hb hX hbl hbA hW.2.2.2 hi1 d_Law_705 ?_
  refine lv_aload_n hx hb d_Law_706 rfl (lv_at hl 1 rfl) ?_
  refine lv_iload hx hb d_Law_707 (lv_at hl 5 rfl) ?_
  refine lv_iconst (v := 2) hx hb d_Law_709 (by decide) ?_
  refine lv_iadd hx hb d_Law_710 ?_
  refine va_sld hx hb hX hbl hbA hW.2.2.2 hi2 d_Law_711 ?_
  refine rm_pointAt hC hF hW hp2 m_615 hl.1 ⟨Nat.le_of_ble_eq_true rfl, Nat.le_of_ble_eq_true rfl⟩ ⟨hcn, hsn⟩ (Nat.le_of_ble_eq_true rfl) d_Law_712 (fun H locs hW => ?_)
  refine lv_istore (lv' := [(6, .int ((f_Mo_pointAt br bc (xs (x4 + 1).toNatClampNeg) (xs (x4 + 2).toNatClampNeg)).1)), (5, .int (kc_pointAt (f_Ir_pointAt ar sc (xs (x4 + 1).toNatClampNeg) (xs (x4 + 2).toNatClampNeg)).1)), (0, .ref b), (1, .ref (L 0)), (2, .ref (M 0)), (3, .ref qo), (4, .int x4)]) hx hb d_Law_715 hl (by decide) rfl (fun ls hl => ?_)
  refine lv_aload_n hx hb d_Law_717 rfl (lv_at hl 4 rfl) ?_
  refine r_Mo_thrown hC hF.2.1 hW.2.1 m_597 hl.1 ⟨Nat.le_of_ble_eq_true rfl, Nat.le_of_ble_eq_true rfl⟩ ⟨hcn, hsn⟩ (Nat.le_of_ble_eq_true rfl) d_Law_718 ?_
  refine lv_iload hx hb d_Law_721 (lv_at hl 1 rfl) ?_
  refine lv_icmp_eq (tgt := 728) hx hb d_Law_723 (by decide) (fun _ => ?_) (fun c9 => absurd hq c9)
  refine lv_iload hx hb d_Law_728 (lv_at hl 1 rfl) ?_
  refine lv_if_ne (tgt := 745) hx hb d_Law_730 (by decide) (fun _ => ?_) (fun c9 => ?_)
  · refine lv_goto (tgt := 1437) hx hb d_Law_745 (by decide) ?_
    exact kk _ _ _ _ _ _ _ _ hW hR2 (lv_sub hl [2, 3, 4, 5, 6] rfl)
  · have hN : (f_Ir_pointAt ar sc (xs (x4 + 1).toNatClampNeg) (xs (x4 + 2).toNatClampNeg)).1 = none := by
      rcases ex_Ir_pointAt ar sc (xs (x4 + 1).toNatClampNeg) (xs (x4 + 2).toNatClampNeg) with hN | hN
      · exact hN
      · rw [hN] at c9; exact absurd c9 (by decide)
    refine lv_aload_n hx hb d_Law_733 rfl (lv_at hl 5 rfl) ?_
    refine lv_iconst (v := 0) hx hb d_Law_734 (by decide) ?_
    refine va_lald hx hb hF.2.2.1 hW.2.2.1 0 0 rfl rfl (by unfold vp_in; decide) d_Law_735 ?_
    refine lv_iload hx hb d_Law_736 (lv_at hl 0 rfl) ?_
    refine lv_i2l hx hb d_Law_738 rfl ?_
    refine W.lcmp hx hb d_Law_739 ?_
    refine lv_if_eq (tgt := 745) hx hb d_Law_740 (by decide) (fun _ => ?_) (fun c9 => absurd (by rw [if_pos hN, hval hN]; exact lg_self _) c9)
    refine lv_goto (tgt := 1437) hx hb d_Law_745 (by decide) ?_
    exact kk _ _ _ _ _ _ _ _ hW hR2 (lv_sub hl [2, 3, 4, 5, 6] rfl)

theorem m_128 : (Cond.static y_Ir_isWithin) ∈ w_all := List.mem_filter.mpr ⟨List.mem_of_getElem? (i := 296) (by decide +kernel), by decide +kernel⟩
theorem m_129 : (Cond.initialized R_Ir) ∈ w_all := List.mem_filter.mpr ⟨List.mem_of_getElem? (i := 32) (by decide +kernel), by decide +kernel⟩
theorem m_130 : (Cond.code y_Ir_isWithin b_Ir_isWithin 3 (some .boolean)) ∈ w_all := List.mem_filter.mpr ⟨List.mem_of_getElem? (i := 297) (by decide +kernel), by decide +kernel⟩
theorem m_131 : (Cond.methodLink R_Ir 67 y_Ir_isWithin) ∈ w_all := List.mem_filter.mpr ⟨List.mem_of_getElem? (i := 295) (by decide +kernel), by decide +kernel⟩
theorem m_132 : (Cond.static y_Ir_isKind) ∈ w_all := List.mem_filter.mpr ⟨List.mem_of_getElem? (i := 293) (by decide +kernel), by decide +kernel⟩
theorem m_133 : (Cond.code y_Ir_isKind b_Ir_isKind 1 (some .boolean)) ∈ w_all := List.mem_filter.mpr ⟨List.mem_of_getElem? (i := 294) (by decide +kernel), by decide +kernel⟩
theorem m_134 : (Cond.fieldLink R_Ir 19 "InspectRows" "points" "LInspectRows$Points;") ∈ w_all := List.mem_filter.mpr ⟨List.mem_of_getElem? (i := 255) (by decide +kernel), by decide +kernel⟩
theorem m_135 : (Cond.instanceMethod y_Ir_isPoint) ∈ w_all := List.mem_filter.mpr ⟨List.mem_of_getElem? (i := 452) (by decide +kernel), by decide +kernel⟩
theorem m_136 : (Cond.selects R_Ir y_Ir_isPoint y_Ir_isPoint) ∈ w_all := List.mem_filter.mpr ⟨List.mem_of_getElem? (i := 1) (by decide +kernel), by decide +kernel⟩
theorem m_137 : (Cond.code y_Ir_isPoint b_Ir_isPoint 2 (some .boolean)) ∈ w_all := List.mem_filter.mpr ⟨List.mem_of_getElem? (i := 453) (by decide +kernel), by decide +kernel⟩
theorem m_138 : (Cond.fieldLink R_Ir 26 "InspectRows" "findings" "LInspectRows$Findings;") ∈ w_all := List.mem_filter.mpr ⟨List.mem_of_getElem? (i := 256) (by decide +kernel), by decide +kernel⟩
theorem m_139 : (Cond.instanceMethod y_Ir_isFinding) ∈ w_all := List.mem_filter.mpr ⟨List.mem_of_getElem? (i := 503) (by decide +kernel), by decide +kernel⟩
theorem m_140 : (Cond.selects R_Ir y_Ir_isFinding y_Ir_isFinding) ∈ w_all := List.mem_filter.mpr ⟨List.mem_of_getElem? (i := 5) (by decide +kernel), by decide +kernel⟩
theorem m_141 : (Cond.code y_Ir_isFinding b_Ir_isFinding 2 (some .boolean)) ∈ w_all := List.mem_filter.mpr ⟨List.mem_of_getElem? (i := 504) (by decide +kernel), by decide +kernel⟩
theorem m_142 : (Cond.constant R_Ir 248 (-10000000)) ∈ w_all := List.mem_filter.mpr ⟨List.mem_of_getElem? (i := 696) (by decide +kernel), by decide +kernel⟩
theorem m_143 : (Cond.constant R_Ir 195 10000000) ∈ w_all := List.mem_filter.mpr ⟨List.mem_of_getElem? (i := 654) (by decide +kernel), by decide +kernel⟩
theorem m_144 : (Cond.static y_Ir_isSide) ∈ w_all := List.mem_filter.mpr ⟨List.mem_of_getElem? (i := 694) (by decide +kernel), by decide +kernel⟩
theorem m_145 : (Cond.code y_Ir_isSide b_Ir_isSide 2 (some .boolean)) ∈ w_all := List.mem_filter.mpr ⟨List.mem_of_getElem? (i := 695) (by decide +kernel), by decide +kernel⟩
theorem m_146 : (Cond.static y_Ir_canLead) ∈ w_all := List.mem_filter.mpr ⟨List.mem_of_getElem? (i := 571) (by decide +kernel), by decide +kernel⟩
theorem m_147 : (Cond.code y_Ir_canLead b_Ir_canLead 2 (some .boolean)) ∈ w_all := List.mem_filter.mpr ⟨List.mem_of_getElem? (i := 572) (by decide +kernel), by decide +kernel⟩
theorem m_148 : (Cond.static y_Ir_toldPoint) ∈ w_all := List.mem_filter.mpr ⟨List.mem_of_getElem? (i := 603) (by decide +kernel), by decide +kernel⟩
theorem m_149 : (Cond.code y_Ir_toldPoint b_Ir_toldPoint 3 (some .int)) ∈ w_all := List.mem_filter.mpr ⟨List.mem_of_getElem? (i := 604) (by decide +kernel), by decide +kernel⟩
theorem m_150 : (Cond.methodLink R_Ir 177 y_Ir_toldPoint) ∈ w_all := List.mem_filter.mpr ⟨List.mem_of_getElem? (i := 602) (by decide +kernel), by decide +kernel⟩
theorem m_151 : (Cond.methodLink R_Ir 98 y_Ir_isPoint) ∈ w_all := List.mem_filter.mpr ⟨List.mem_of_getElem? (i := 450) (by decide +kernel), by decide +kernel⟩
theorem m_152 : (Cond.instanceMethod y_Ir_areAllPoints) ∈ w_all := List.mem_filter.mpr ⟨List.mem_of_getElem? (i := 600) (by decide +kernel), by decide +kernel⟩
theorem m_153 : (Cond.selects R_Ir y_Ir_areAllPoints y_Ir_areAllPoints) ∈ w_all := List.mem_filter.mpr ⟨List.mem_of_getElem? (i := 9) (by decide +kernel), by decide +kernel⟩
theorem m_154 : (Cond.code y_Ir_areAllPoints b_Ir_areAllPoints 5 (some .boolean)) ∈ w_all := List.mem_filter.mpr ⟨List.mem_of_getElem? (i := 601) (by decide +kernel), by decide +kernel⟩
theorem m_155 : (Cond.static y_Ir_areAllDifferent) ∈ w_all := List.mem_filter.mpr ⟨List.mem_of_getElem? (i := 606) (by decide +kernel), by decide +kernel⟩
theorem m_156 : (Cond.code y_Ir_areAllDifferent b_Ir_areAllDifferent 6 (some .boolean)) ∈ w_all := List.mem_filter.mpr ⟨List.mem_of_getElem? (i := 607) (by decide +kernel), by decide +kernel⟩
theorem m_157 : (Cond.fieldLink R_Ir 51 "InspectRows" "risks" "[I") ∈ w_all := List.mem_filter.mpr ⟨List.mem_of_getElem? (i := 260) (by decide +kernel), by decide +kernel⟩
theorem m_158 : (Cond.fieldLink R_Ir 10 "InspectRows" "scale" "LInspectRows$Scale;") ∈ w_all := List.mem_filter.mpr ⟨List.mem_of_getElem? (i := 254) (by decide +kernel), by decide +kernel⟩
theorem m_159 : (Cond.fieldLink R_Ir 55 "InspectRows" "today" "I") ∈ w_all := List.mem_filter.mpr ⟨List.mem_of_getElem? (i := 261) (by decide +kernel), by decide +kernel⟩
theorem m_160 : (Cond.methodLink R_Ir 255 y_Findings_riskOn) ∈ w_all := List.mem_filter.mpr ⟨List.mem_of_getElem? (i := 473) (by decide +kernel), by decide +kernel⟩
theorem m_161 : (Cond.instanceMethod y_Ir_fillRisks) ∈ w_all := List.mem_filter.mpr ⟨List.mem_of_getElem? (i := 471) (by decide +kernel), by decide +kernel⟩
theorem m_162 : (Cond.selects R_Ir y_Ir_fillRisks y_Ir_fillRisks) ∈ w_all := List.mem_filter.mpr ⟨List.mem_of_getElem? (i := 4) (by decide +kernel), by decide +kernel⟩
theorem m_163 : (Cond.code y_Ir_fillRisks b_Ir_fillRisks 2 none) ∈ w_all := List.mem_filter.mpr ⟨List.mem_of_getElem? (i := 472) (by decide +kernel), by decide +kernel⟩
theorem m_164 : (Cond.methodLink R_Ir 136 y_Ir_fillRisks) ∈ w_all := List.mem_filter.mpr ⟨List.mem_of_getElem? (i := 469) (by decide +kernel), by decide +kernel⟩
theorem m_165 : (Cond.instanceMethod y_Ir_riskOf) ∈ w_all := List.mem_filter.mpr ⟨List.mem_of_getElem? (i := 467) (by decide +kernel), by decide +kernel⟩
theorem m_166 : (Cond.selects R_Ir y_Ir_riskOf y_Ir_riskOf) ∈ w_all := List.mem_filter.mpr ⟨List.mem_of_getElem? (i := 3) (by decide +kernel), by decide +kernel⟩
theorem m_167 : (Cond.code y_Ir_riskOf b_Ir_riskOf 2 (some .int)) ∈ w_all := List.mem_filter.mpr ⟨List.mem_of_getElem? (i := 468) (by decide +kernel), by decide +kernel⟩
theorem m_168 : (Cond.methodLink R_Ir 133 y_Ir_riskOf) ∈ w_all := List.mem_filter.mpr ⟨List.mem_of_getElem? (i := 465) (by decide +kernel), by decide +kernel⟩
theorem m_169 : (Cond.methodLink R_Ir 258 y_Scale_classFor) ∈ w_all := List.mem_filter.mpr ⟨List.mem_of_getElem? (i := 485) (by decide +kernel), by decide +kernel⟩
theorem m_170 : (Cond.instanceMethod y_Ir_classOf) ∈ w_all := List.mem_filter.mpr ⟨List.mem_of_getElem? (i := 463) (by decide +kernel), by decide +kernel⟩
theorem m_171 : (Cond.selects R_Ir y_Ir_classOf y_Ir_classOf) ∈ w_all := List.mem_filter.mpr ⟨List.mem_of_getElem? (i := 2) (by decide +kernel), by decide +kernel⟩
theorem m_172 : (Cond.code y_Ir_classOf b_Ir_classOf 2 (some .int)) ∈ w_all := List.mem_filter.mpr ⟨List.mem_of_getElem? (i := 464) (by decide +kernel), by decide +kernel⟩
theorem m_173 : (Cond.instanceMethod y_Ir_firstDueDay) ∈ w_all := List.mem_filter.mpr ⟨List.mem_of_getElem? (i := 542) (by decide +kernel), by decide +kernel⟩
theorem m_174 : (Cond.selects R_Ir y_Ir_firstDueDay y_Ir_firstDueDay) ∈ w_all := List.mem_filter.mpr ⟨List.mem_of_getElem? (i := 6) (by decide +kernel), by decide +kernel⟩
theorem m_175 : (Cond.code y_Ir_firstDueDay b_Ir_firstDueDay 3 (some .int)) ∈ w_all := List.mem_filter.mpr ⟨List.mem_of_getElem? (i := 543) (by decide +kernel), by decide +kernel⟩
theorem m_176 : (Cond.instanceMethod y_Ir_isAhead) ∈ w_all := List.mem_filter.mpr ⟨List.mem_of_getElem? (i := 561) (by decide +kernel), by decide +kernel⟩
theorem m_177 : (Cond.selects R_Ir y_Ir_isAhead y_Ir_isAhead) ∈ w_all := List.mem_filter.mpr ⟨List.mem_of_getElem? (i := 8) (by decide +kernel), by decide +kernel⟩
theorem m_178 : (Cond.code y_Ir_isAhead b_Ir_isAhead 3 (some .boolean)) ∈ w_all := List.mem_filter.mpr ⟨List.mem_of_getElem? (i := 562) (by decide +kernel), by decide +kernel⟩
theorem m_179 : (Cond.methodLink R_Ir 261 y_Ir_isAhead) ∈ w_all := List.mem_filter.mpr ⟨List.mem_of_getElem? (i := 559) (by decide +kernel), by decide +kernel⟩
theorem m_180 : (Cond.methodLink R_Ir 139 y_Ir_firstDueDay) ∈ w_all := List.mem_filter.mpr ⟨List.mem_of_getElem? (i := 540) (by decide +kernel), by decide +kernel⟩
theorem m_181 : (Cond.instanceMethod y_Ir_countDueAhead) ∈ w_all := List.mem_filter.mpr ⟨List.mem_of_getElem? (i := 557) (by decide +kernel), by decide +kernel⟩
theorem m_182 : (Cond.selects R_Ir y_Ir_countDueAhead y_Ir_countDueAhead) ∈ w_all := List.mem_filter.mpr ⟨List.mem_of_getElem? (i := 7) (by decide +kernel), by decide +kernel⟩
theorem m_183 : (Cond.code y_Ir_countDueAhead b_Ir_countDueAhead 5 (some .int)) ∈ w_all := List.mem_filter.mpr ⟨List.mem_of_getElem? (i := 558) (by decide +kernel), by decide +kernel⟩
theorem mn_0 : (Cond.fieldLinkNest R_Ir 87 "InspectRows$Points" "count" "I" "InspectRows") ∈ nw_all := List.mem_filter.mpr ⟨List.mem_of_getElem? (i := 97) (by decide +kernel), by decide +kernel⟩
theorem mn_1 : (Cond.fieldLinkNest R_Ir 104 "InspectRows$Findings" "count" "I" "InspectRows") ∈ nw_all := List.mem_filter.mpr ⟨List.mem_of_getElem? (i := 125) (by decide +kernel), by decide +kernel⟩
theorem mn_2 : (Cond.fieldLinkNest R_Ir 74 "InspectRows$Scale" "kindWeights" "[I" "InspectRows") ∈ nw_all := List.mem_filter.mpr ⟨List.mem_of_getElem? (i := 63) (by decide +kernel), by decide +kernel⟩
theorem mn_3 : (Cond.fieldLinkNest R_Ir 249 "InspectRows$Points" "kinds" "[I" "InspectRows") ∈ nw_all := List.mem_filter.mpr ⟨List.mem_of_getElem? (i := 87) (by decide +kernel), by decide +kernel⟩
theorem mn_4 : (Cond.fieldLinkNest R_Ir 252 "InspectRows$Points" "ownRisks" "[I" "InspectRows") ∈ nw_all := List.mem_filter.mpr ⟨List.mem_of_getElem? (i := 89) (by decide +kernel), by decide +kernel⟩
theorem mn_5 : (Cond.fieldLinkNest R_Ir 124 "InspectRows$Findings" "points" "[I" "InspectRows") ∈ nw_all := List.mem_filter.mpr ⟨List.mem_of_getElem? (i := 118) (by decide +kernel), by decide +kernel⟩
theorem mn_6 : (Cond.fieldLinkNest R_Ir 101 "InspectRows$Points" "visits" "[I" "InspectRows") ∈ nw_all := List.mem_filter.mpr ⟨List.mem_of_getElem? (i := 95) (by decide +kernel), by decide +kernel⟩
theorem mn_7 : (Cond.fieldLinkNest R_Ir 81 "InspectRows$Scale" "intervals" "[I" "InspectRows") ∈ nw_all := List.mem_filter.mpr ⟨List.mem_of_getElem? (i := 67) (by decide +kernel), by decide +kernel⟩
theorem d_Ir_isWithin_0 : decode b_Ir_isWithin 0 = .ok (.iload_n 0, 1) := by decide +kernel
theorem d_Ir_isWithin_1 : decode b_Ir_isWithin 1 = .ok (.iload_n 1, 1) := by decide +kernel
theorem d_Ir_isWithin_2 : decode b_Ir_isWithin 2 = .ok (.if_icmp .lt 12, 3) := by decide +kernel
theorem d_Ir_isWithin_5 : decode b_Ir_isWithin 5 = .ok (.iload_n 0, 1) := by decide +kernel
theorem d_Ir_isWithin_6 : decode b_Ir_isWithin 6 = .ok (.iload_n 2, 1) := by decide +kernel
theorem d_Ir_isWithin_7 : decode b_Ir_isWithin 7 = .ok (.if_icmp .gt 7, 3) := by decide +kernel
theorem d_Ir_isWithin_10 : decode b_Ir_isWithin 10 = .ok (.iconst 1, 1) := by decide +kernel
theorem d_Ir_isWithin_11 : decode b_Ir_isWithin 11 = .ok (.goto 4, 3) := by decide +kernel
theorem d_Ir_isWithin_14 : decode b_Ir_isWithin 14 = .ok (.iconst 0, 1) := by decide +kernel
theorem d_Ir_isWithin_15 : decode b_Ir_isWithin 15 = .ok (.ireturn, 1) := by decide +kernel
set_option maxHeartbeats 4000000 in
set_option maxRecDepth 100000 in
theorem c_Ir_isWithin (l : Launch) (a0 : Int32) (a1 : Int32) (a2 : Int32) : Met l y_Ir_isWithin z_Ir_isWithin (rmD 0) (fun v _ => v = ([.int a0, .int a1, .int a2] : List Value).toArray) (QcRead (f_Ir_isWithin a0 a1 a2)) 0 0 (fun _ => False) := by
  refine Met.ofW (cc := b_Ir_isWithin) (maxL := 3) (ret := (some .boolean)) (by decide) rfl ?_
  intro p e s m args below meth c s₁ B hml hv
  obtain rfl := hv
  have hx := B.exec
  have hb := B.bytes
  have hr := B.returns
  have hts : ∀ w ∈ w_all, w.before _ s = true := fun w hw => atoms_spec (ws := z_Ir_isWithin) B.pre w (List.mem_cons_of_mem _ hw)
  have hown : s.vm.findClass R_Ir = some m.cls := findClass_of_methodNamed B.named
  have hlocks := B.notSynchronized
  have hF : CallFix p m c b_Ir_isWithin 3 s _ w_all R_Ir := ⟨hx, hb, hml, hown, hts⟩
  have hl := lv_entry ([.int a0, .int a1, .int a2]) (n := 3) (Nat.le_of_ble_eq_true rfl)
  rw [lg_entry_eq]
  generalize (lg_sl ([.int a0, .int a1, .int a2]) ++ List.replicate (3 - (lg_sl ([.int a0, .int a1, .int a2])).length) Slot.unset).toArray = ls at hl ⊢
  have hl : lv_has ls 3 [(0, .int a0), (1, .int a1), (2, .int a2)] := hl
  refine lv_iload_n hx hb d_Ir_isWithin_0 rfl (lv_at hl 0 rfl) ?_
  refine lv_iload_n hx hb d_Ir_isWithin_1 rfl (lv_at hl 1 rfl) ?_
  refine lv_icmp_lt (tgt := 14) hx hb d_Ir_isWithin_2 (by decide) (fun c2 => ?_) (fun c2 => ?_)
  · refine lv_iconst (v := 0) hx hb d_Ir_isWithin_14 (by decide) ?_
    have hv : (0 : Int32) = f_Ir_isWithin a0 a1 a2 := by rw [f_Ir_isWithin, if_pos c2]
    exact W.zret (ty := .boolean) (v := 0) hx hb hr rfl (fun t ht hW => ⟨congrArg (fun z => Outcome.returned (some (Value.int z))) hv, ht⟩) (fun _ h9 => nomatch h9) d_Ir_isWithin_15
  · refine lv_iload_n hx hb d_Ir_isWithin_5 rfl (lv_at hl 0 rfl) ?_
    refine lv_iload_n hx hb d_Ir_isWithin_6 rfl (lv_at hl 2 rfl) ?_
    refine lv_icmp_gt (tgt := 14) hx hb d_Ir_isWithin_7 (by decide) (fun c7 => ?_) (fun c7 => ?_)
    · refine lv_iconst (v := 0) hx hb d_Ir_isWithin_14 (by decide) ?_
      have hv : (0 : Int32) = f_Ir_isWithin a0 a1 a2 := by rw [f_Ir_isWithin, if_neg c2, if_pos c7]
      exact W.zret (ty := .boolean) (v := 0) hx hb hr rfl (fun t ht hW => ⟨congrArg (fun z => Outcome.returned (some (Value.int z))) hv, ht⟩) (fun _ h9 => nomatch h9) d_Ir_isWithin_15
    · refine lv_iconst (v := 1) hx hb d_Ir_isWithin_10 (by decide) ?_
      refine lv_goto (tgt := 15) hx hb d_Ir_isWithin_11 (by decide) ?_
      have hv : (1 : Int32) = f_Ir_isWithin a0 a1 a2 := by rw [f_Ir_isWithin, if_neg c2, if_neg c7]
      exact W.zret (ty := .boolean) (v := 1) hx hb hr rfl (fun t ht hW => ⟨congrArg (fun z => Outcome.returned (some (Value.int z))) hv, ht⟩) (fun _ h9 => nomatch h9) d_Ir_isWithin_15
set_option maxHeartbeats 1000000 in
theorem r_Ir_isWithin {p : Program} {l : Launch} {e : Env} {R : Room} {s : State} {m : MethodId} {args : Array Value} {below : List Frame} {meth : Method} {c : Code} {H : Heap} {locs : List Loc} {cells slots : Nat} {Q : State → Prop} {cc : ByteArray} {nL pc idx : Nat} {ls : Array Slot} {rest : List Value} {a0 : Int32} {a1 : Int32} {a2 : Int32} (hF : CallFix p m c cc nL s args w_all R_Ir) (hlk : Cond.methodLink R_Ir idx y_Ir_isWithin ∈ w_all) (hsz : ls.size = nL) (hR : (rmD 0).frames + 1 ≤ R.frames ∧ 8 + (3 + 11) + (rmD 0).locals ≤ R.locals) (hc : cells ≤ R.cells ∧ slots ≤ R.slots) (hrs : (rest.map fun v => v.category).sum ≤ 8) (hdg : decode cc pc = .ok (.invokestatic idx, 3)) (kk : W p l e R s m args below meth c H locs cells slots Q (F0 m (pc + 3) ls (.int (f_Ir_isWithin a0 a1 a2) :: rest))) : W p l e R s m args below meth c H locs cells slots Q (F0 m pc ls (.int a2 :: .int a1 :: .int a0 :: rest)) :=
  W.callR (W.runS (As := [.int a0, .int a1, .int a2]) (rest := rest) hF (c_Ir_isWithin l a0 a1 a2) (cwS 3 hF.2.2.2.2 (gS hlk m_128 m_129 m_130) rfl rfl rfl (by decide +kernel) hR) preEq rfl rfl hsz rfl (lv_room hrs) hdg hc) kk
theorem d_Ir_isKind_0 : decode b_Ir_isKind 0 = .ok (.iload_n 0, 1) := by decide +kernel
theorem d_Ir_isKind_1 : decode b_Ir_isKind 1 = .ok (.iconst 0, 1) := by decide +kernel
theorem d_Ir_isKind_2 : decode b_Ir_isKind 2 = .ok (.iconst 4, 1) := by decide +kernel
theorem d_Ir_isKind_3 : decode b_Ir_isKind 3 = .ok (.invokestatic 67, 3) := by decide +kernel
theorem d_Ir_isKind_6 : decode b_Ir_isKind 6 = .ok (.ireturn, 1) := by decide +kernel
set_option maxHeartbeats 4000000 in
set_option maxRecDepth 100000 in
theorem c_Ir_isKind (l : Launch) (a0 : Int32) : Met l y_Ir_isKind z_Ir_isKind (rmD 1) (fun v _ => v = ([.int a0] : List Value).toArray) (QcRead (f_Ir_isKind a0)) 0 0 (fun _ => False) := by
  refine Met.ofW (cc := b_Ir_isKind) (maxL := 1) (ret := (some .boolean)) (by decide) rfl ?_
  intro p e s m args below meth c s₁ B hml hv
  obtain rfl := hv
  have hx := B.exec
  have hb := B.bytes
  have hr := B.returns
  have hts : ∀ w ∈ w_all, w.before _ s = true := fun w hw => atoms_spec (ws := z_Ir_isKind) B.pre w (List.mem_cons_of_mem _ hw)
  have hown : s.vm.findClass R_Ir = some m.cls := findClass_of_methodNamed B.named
  have hlocks := B.notSynchronized
  have hF : CallFix p m c b_Ir_isKind 1 s _ w_all R_Ir := ⟨hx, hb, hml, hown, hts⟩
  have hl := lv_entry ([.int a0]) (n := 1) (Nat.le_of_ble_eq_true rfl)
  rw [lg_entry_eq]
  generalize (lg_sl ([.int a0]) ++ List.replicate (1 - (lg_sl ([.int a0])).length) Slot.unset).toArray = ls at hl ⊢
  have hl : lv_has ls 1 [(0, .int a0)] := hl
  refine lv_iload_n hx hb d_Ir_isKind_0 rfl (lv_at hl 0 rfl) ?_
  refine lv_iconst (v := 0) hx hb d_Ir_isKind_1 (by decide) ?_
  refine lv_iconst (v := 4) hx hb d_Ir_isKind_2 (by decide) ?_
  refine r_Ir_isWithin hF m_131 hl.1 ⟨Nat.le_of_ble_eq_true rfl, Nat.le_of_ble_eq_true rfl⟩ ⟨Nat.zero_le _, Nat.zero_le _⟩ (Nat.le_of_ble_eq_true rfl) d_Ir_isKind_3 ?_
  have hv : (f_Ir_isWithin a0 0 4 : Int32) = f_Ir_isKind a0 := by rw [f_Ir_isKind]
  exact W.zret (ty := .boolean) (v := f_Ir_isWithin a0 0 4) hx hb hr (by unfold f_Ir_isWithin; (repeat' split) <;> rfl) (fun t ht hW => ⟨congrArg (fun z => Outcome.returned (some (Value.int z))) hv, ht⟩) (fun _ h9 => nomatch h9) d_Ir_isKind_6
set_option maxHeartbeats 1000000 in
theorem r_Ir_isKind {p : Program} {l : Launch} {e : Env} {R : Room} {s : State} {m : MethodId} {args : Array Value} {below : List Frame} {meth : Method} {c : Code} {H : Heap} {locs : List Loc} {cells slots : Nat} {Q : State → Prop} {cc : ByteArray} {nL pc idx : Nat} {ls : Array Slot} {rest : List Value} {a0 : Int32} (hF : CallFix p m c cc nL s args w_all R_Ir) (hlk : Cond.methodLink R_Ir idx y_Ir_isKind ∈ w_all) (hsz : ls.size = nL) (hR : (rmD 1).frames + 1 ≤ R.frames ∧ 8 + (1 + 11) + (rmD 1).locals ≤ R.locals) (hc : cells ≤ R.cells ∧ slots ≤ R.slots) (hrs : (rest.map fun v => v.category).sum ≤ 8) (hdg : decode cc pc = .ok (.invokestatic idx, 3)) (kk : W p l e R s m args below meth c H locs cells slots Q (F0 m (pc + 3) ls (.int (f_Ir_isKind a0) :: rest))) : W p l e R s m args below meth c H locs cells slots Q (F0 m pc ls (.int a0 :: rest)) :=
  W.callR (W.runS (As := [.int a0]) (rest := rest) hF (c_Ir_isKind l a0) (cwS 1 hF.2.2.2.2 (gS hlk m_132 m_129 m_133) rfl rfl rfl (by decide +kernel) hR) preEq rfl rfl hsz rfl (lv_room hrs) hdg hc) kk
theorem d_Ir_isPoint_0 : decode b_Ir_isPoint 0 = .ok (.iload_n 1, 1) := by decide +kernel
theorem d_Ir_isPoint_1 : decode b_Ir_isPoint 1 = .ok (.ifCond .lt 18, 3) := by decide +kernel
theorem d_Ir_isPoint_4 : decode b_Ir_isPoint 4 = .ok (.iload_n 1, 1) := by decide +kernel
theorem d_Ir_isPoint_5 : decode b_Ir_isPoint 5 = .ok (.aload_n 0, 1) := by decide +kernel
theorem d_Ir_isPoint_6 : decode b_Ir_isPoint 6 = .ok (.getfield 19, 3) := by decide +kernel
theorem d_Ir_isPoint_9 : decode b_Ir_isPoint 9 = .ok (.getfield 87, 3) := by decide +kernel
theorem d_Ir_isPoint_12 : decode b_Ir_isPoint 12 = .ok (.if_icmp .ge 7, 3) := by decide +kernel
theorem d_Ir_isPoint_15 : decode b_Ir_isPoint 15 = .ok (.iconst 1, 1) := by decide +kernel
theorem d_Ir_isPoint_16 : decode b_Ir_isPoint 16 = .ok (.goto 4, 3) := by decide +kernel
theorem d_Ir_isPoint_19 : decode b_Ir_isPoint 19 = .ok (.iconst 0, 1) := by decide +kernel
theorem d_Ir_isPoint_20 : decode b_Ir_isPoint 20 = .ok (.ireturn, 1) := by decide +kernel
set_option maxHeartbeats 4000000 in
set_option maxRecDepth 100000 in
theorem c_Ir_isPoint (l : Launch) (dC : Nat → ClassId) (dI : Nat → Nat → Nat) (L : Nat → Nat) (cA : Nat → ClassId) (ar : Nat → Nat → Int32) (sc : Nat → Int32) (a0 : Int32) : Met l y_Ir_isPoint z_Ir_isPoint (rmD 0) (va_Pc [.ref (L 0), .int a0] (fun U => xw_I dC dI L cA ar sc U)) (QcRead (f_Ir_isPoint ar sc a0)) 0 0 (fun _ => False) := by
  refine Met.ofW (cc := b_Ir_isPoint) (maxL := 2) (ret := (some .boolean)) (by decide) rfl ?_
  intro p e s m args below meth c s₁ B hml hv
  obtain ⟨rfl, ⟨hP, hK⟩⟩ := hv
  have hx := B.exec
  have hb := B.bytes
  have hr := B.returns
  have hts : ∀ w ∈ w_all, w.before _ s = true := fun w hw => atoms_spec (ws := z_Ir_isPoint) B.pre w (List.mem_cons_of_mem _ hw)
  have hown : s.vm.findClass R_Ir = some m.cls := findClass_of_methodNamed B.named
  have hlocks := B.notSynchronized
  have hF : CallFix p m c b_Ir_isPoint 2 s _ w_all R_Ir := ⟨hx, hb, hml, hown, hts⟩
  have hl := lv_entry ([.ref (L 0), .int a0]) (n := 2) (Nat.le_of_ble_eq_true rfl)
  rw [lg_entry_eq]
  generalize (lg_sl ([.ref (L 0), .int a0]) ++ List.replicate (2 - (lg_sl ([.ref (L 0), .int a0])).length) Slot.unset).toArray = ls at hl ⊢
  have hl : lv_has ls 2 [(0, .ref (L 0)), (1, .int a0)] := hl
  refine lv_iload_n hx hb d_Ir_isPoint_0 rfl (lv_at hl 1 rfl) ?_
  refine lv_if_lt (tgt := 19) hx hb d_Ir_isPoint_1 (by decide) (fun c1 => ?_) (fun c1 => ?_)
  · refine lv_iconst (v := 0) hx hb d_Ir_isPoint_19 (by decide) ?_
    have hv : (0 : Int32) = f_Ir_isPoint ar sc a0 := by rw [f_Ir_isPoint, if_pos c1]
    exact W.zret (ty := .boolean) (v := 0) hx hb hr rfl (fun t ht hW => ⟨congrArg (fun z => Outcome.returned (some (Value.int z))) hv, ht⟩) (fun _ h9 => nomatch h9) d_Ir_isPoint_20
  · refine lv_iload_n hx hb d_Ir_isPoint_4 rfl (lv_at hl 1 rfl) ?_
    refine lv_aload_n hx hb d_Ir_isPoint_5 rfl (lv_at hl 0 rfl) ?_
    refine gf_Ir_points hF hK hP m_134 d_Ir_isPoint_6 ?_
    refine gn_Points_count hF hK hP mn_0 d_Ir_isPoint_9 ?_
    refine lv_icmp_ge (tgt := 19) hx hb d_Ir_isPoint_12 (by decide) (fun c12 => ?_) (fun c12 => ?_)
    · refine lv_iconst (v := 0) hx hb d_Ir_isPoint_19 (by decide) ?_
      have hv : (0 : Int32) = f_Ir_isPoint ar sc a0 := by rw [f_Ir_isPoint, if_neg c1, if_pos c12]
      exact W.zret (ty := .boolean) (v := 0) hx hb hr rfl (fun t ht hW => ⟨congrArg (fun z => Outcome.returned (some (Value.int z))) hv, ht⟩) (fun _ h9 => nomatch h9) d_Ir_isPoint_20
    · refine lv_iconst (v := 1) hx hb d_Ir_isPoint_15 (by decide) ?_
      refine lv_goto (tgt := 20) hx hb d_Ir_isPoint_16 (by decide) ?_
      have hv : (1 : Int32) = f_Ir_isPoint ar sc a0 := by rw [f_Ir_isPoint, if_neg c1, if_neg c12]
      exact W.zret (ty := .boolean) (v := 1) hx hb hr rfl (fun t ht hW => ⟨congrArg (fun z => Outcome.returned (some (Value.int z))) hv, ht⟩) (fun _ h9 => nomatch h9) d_Ir_isPoint_20
set_option maxHeartbeats 1000000 in
theorem r_Ir_isPoint {p : Program} {l : Launch} {e : Env} {R : Room} {s : State} {m : MethodId} {args : Array Value} {below : List Frame} {meth : Method} {c : Code} {H : Heap} {locs : List Loc} {cells slots : Nat} {Q : State → Prop} {cc : ByteArray} {nL pc idx : Nat} {ls : Array Slot} {rest : List Value} {own : String} {dC : Nat → ClassId} {dI : Nat → Nat → Nat} {L : Nat → Nat} {cA : Nat → ClassId} {ar : Nat → Nat → Int32} {sc : Nat → Int32} {a0 : Int32} (hF : CallFix p m c cc nL s args w_all own) (hK : kW_I dC dI cA s) (hP : va_P (dC, dI) classes (wI L cA ar sc) H) (hlk : Cond.methodLink own idx y_Ir_isPoint ∈ w_all) (hsz : ls.size = nL) (hR : (rmD 0).frames + 1 ≤ R.frames ∧ 8 + (2 + 11) + (rmD 0).locals ≤ R.locals) (hc : cells ≤ R.cells ∧ slots ≤ R.slots) (hrs : (rest.map fun v => v.category).sum ≤ 8) (hdg : decode cc pc = .ok (.invokevirtual idx, 3)) (kk : W p l e R s m args below meth c H locs cells slots Q (F0 m (pc + 3) ls (.int (f_Ir_isPoint ar sc a0) :: rest))) : W p l e R s m args below meth c H locs cells slots Q (F0 m pc ls (.int a0 :: .ref (L 0) :: rest)) :=
  W.callR (W.runV (As := [.int a0]) (rest := rest) hF (c_Ir_isPoint l dC dI L cA ar sc a0) (cwV 1 hF.2.2.2.2 (gV hlk m_135 m_136 m_129 m_137) rfl rfl rfl (by decide +kernel) hR) ⟨xb_I, va_recv hK.1 hP (ci := 0) (q0 := 0) rfl rfl, fun U hU hW => ⟨rfl, by rw [hU]; exact hP, kW_I_warm hW hK⟩⟩ rfl rfl hsz rfl (lv_room hrs) hdg hc) kk
theorem d_Ir_isFinding_0 : decode b_Ir_isFinding 0 = .ok (.iload_n 1, 1) := by decide +kernel
theorem d_Ir_isFinding_1 : decode b_Ir_isFinding 1 = .ok (.ifCond .lt 18, 3) := by decide +kernel
theorem d_Ir_isFinding_4 : decode b_Ir_isFinding 4 = .ok (.iload_n 1, 1) := by decide +kernel
theorem d_Ir_isFinding_5 : decode b_Ir_isFinding 5 = .ok (.aload_n 0, 1) := by decide +kernel
theorem d_Ir_isFinding_6 : decode b_Ir_isFinding 6 = .ok (.getfield 26, 3) := by decide +kernel
theorem d_Ir_isFinding_9 : decode b_Ir_isFinding 9 = .ok (.getfield 104, 3) := by decide +kernel
theorem d_Ir_isFinding_12 : decode b_Ir_isFinding 12 = .ok (.if_icmp .ge 7, 3) := by decide +kernel
theorem d_Ir_isFinding_15 : decode b_Ir_isFinding 15 = .ok (.iconst 1, 1) := by decide +kernel
theorem d_Ir_isFinding_16 : decode b_Ir_isFinding 16 = .ok (.goto 4, 3) := by decide +kernel
theorem d_Ir_isFinding_19 : decode b_Ir_isFinding 19 = .ok (.iconst 0, 1) := by decide +kernel
theorem d_Ir_isFinding_20 : decode b_Ir_isFinding 20 = .ok (.ireturn, 1) := by decide +kernel
set_option maxHeartbeats 4000000 in
set_option maxRecDepth 100000 in
theorem c_Ir_isFinding (l : Launch) (dC : Nat → ClassId) (dI : Nat → Nat → Nat) (L : Nat → Nat) (cA : Nat → ClassId) (ar : Nat → Nat → Int32) (sc : Nat → Int32) (a0 : Int32) : Met l y_Ir_isFinding z_Ir_isFinding (rmD 0) (va_Pc [.ref (L 0), .int a0] (fun U => xw_I dC dI L cA ar sc U)) (QcRead (f_Ir_isFinding ar sc a0)) 0 0 (fun _ => False) := by
  refine Met.ofW (cc := b_Ir_isFinding) (maxL := 2) (ret := (some .boolean)) (by decide) rfl ?_
  intro p e s m args below meth c s₁ B hml hv
  obtain ⟨rfl, ⟨hP, hK⟩⟩ := hv
  have hx := B.exec
  have hb := B.bytes
  have hr := B.returns
  have hts : ∀ w ∈ w_all, w.before _ s = true := fun w hw => atoms_spec (ws := z_Ir_isFinding) B.pre w (List.mem_cons_of_mem _ hw)
  have hown : s.vm.findClass R_Ir = some m.cls := findClass_of_methodNamed B.named
  have hlocks := B.notSynchronized
  have hF : CallFix p m c b_Ir_isFinding 2 s _ w_all R_Ir := ⟨hx, hb, hml, hown, hts⟩
  have hl := lv_entry ([.ref (L 0), .int a0]) (n := 2) (Nat.le_of_ble_eq_true rfl)
  rw [lg_entry_eq]
  generalize (lg_sl ([.ref (L 0), .int a0]) ++ List.replicate (2 - (lg_sl ([.ref (L 0), .int a0])).length) Slot.unset).toArray = ls at hl ⊢
  have hl : lv_has ls 2 [(0, .ref (L 0)), (1, .int a0)] := hl
  refine lv_iload_n hx hb d_Ir_isFinding_0 rfl (lv_at hl 1 rfl) ?_
  refine lv_if_lt (tgt := 19) hx hb d_Ir_isFinding_1 (by decide) (fun c1 => ?_) (fun c1 => ?_)
  · refine lv_iconst (v := 0) hx hb d_Ir_isFinding_19 (by decide) ?_
    have hv : (0 : Int32) = f_Ir_isFinding ar sc a0 := by rw [f_Ir_isFinding, if_pos c1]
    exact W.zret (ty := .boolean) (v := 0) hx hb hr rfl (fun t ht hW => ⟨congrArg (fun z => Outcome.returned (some (Value.int z))) hv, ht⟩) (fun _ h9 => nomatch h9) d_Ir_isFinding_20
  · refine lv_iload_n hx hb d_Ir_isFinding_4 rfl (lv_at hl 1 rfl) ?_
    refine lv_aload_n hx hb d_Ir_isFinding_5 rfl (lv_at hl 0 rfl) ?_
    refine gf_Ir_findings hF hK hP m_138 d_Ir_isFinding_6 ?_
    refine gn_Findings_count hF hK hP mn_1 d_Ir_isFinding_9 ?_
    refine lv_icmp_ge (tgt := 19) hx hb d_Ir_isFinding_12 (by decide) (fun c12 => ?_) (fun c12 => ?_)
    · refine lv_iconst (v := 0) hx hb d_Ir_isFinding_19 (by decide) ?_
      have hv : (0 : Int32) = f_Ir_isFinding ar sc a0 := by rw [f_Ir_isFinding, if_neg c1, if_pos c12]
      exact W.zret (ty := .boolean) (v := 0) hx hb hr rfl (fun t ht hW => ⟨congrArg (fun z => Outcome.returned (some (Value.int z))) hv, ht⟩) (fun _ h9 => nomatch h9) d_Ir_isFinding_20
    · refine lv_iconst (v := 1) hx hb d_Ir_isFinding_15 (by decide) ?_
      refine lv_goto (tgt := 20) hx hb d_Ir_isFinding_16 (by decide) ?_
      have hv : (1 : Int32) = f_Ir_isFinding ar sc a0 := by rw [f_Ir_isFinding, if_neg c1, if_neg c12]
      exact W.zret (ty := .boolean) (v := 1) hx hb hr rfl (fun t ht hW => ⟨congrArg (fun z => Outcome.returned (some (Value.int z))) hv, ht⟩) (fun _ h9 => nomatch h9) d_Ir_isFinding_20
set_option maxHeartbeats 1000000 in
theorem r_Ir_isFinding {p : Program} {l : Launch} {e : Env} {R : Room} {s : State} {m : MethodId} {args : Array Value} {below : List Frame} {meth : Method} {c : Code} {H : Heap} {locs : List Loc} {cells slots : Nat} {Q : State → Prop} {cc : ByteArray} {nL pc idx : Nat} {ls : Array Slot} {rest : List Value} {own : String} {dC : Nat → ClassId} {dI : Nat → Nat → Nat} {L : Nat → Nat} {cA : Nat → ClassId} {ar : Nat → Nat → Int32} {sc : Nat → Int32} {a0 : Int32} (hF : CallFix p m c cc nL s args w_all own) (hK : kW_I dC dI cA s) (hP : va_P (dC, dI) classes (wI L cA ar sc) H) (hlk : Cond.methodLink own idx y_Ir_isFinding ∈ w_all) (hsz : ls.size = nL) (hR : (rmD 0).frames + 1 ≤ R.frames ∧ 8 + (2 + 11) + (rmD 0).locals ≤ R.locals) (hc : cells ≤ R.cells ∧ slots ≤ R.slots) (hrs : (rest.map fun v => v.category).sum ≤ 8) (hdg : decode cc pc = .ok (.invokevirtual idx, 3)) (kk : W p l e R s m args below meth c H locs cells slots Q (F0 m (pc + 3) ls (.int (f_Ir_isFinding ar sc a0) :: rest))) : W p l e R s m args below meth c H locs cells slots Q (F0 m pc ls (.int a0 :: .ref (L 0) :: rest)) :=
  W.callR (W.runV (As := [.int a0]) (rest := rest) hF (c_Ir_isFinding l dC dI L cA ar sc a0) (cwV 1 hF.2.2.2.2 (gV hlk m_139 m_140 m_129 m_141) rfl rfl rfl (by decide +kernel) hR) ⟨xb_I, va_recv hK.1 hP (ci := 0) (q0 := 0) rfl rfl, fun U hU hW => ⟨rfl, by rw [hU]; exact hP, kW_I_warm hW hK⟩⟩ rfl rfl hsz rfl (lv_room hrs) hdg hc) kk
theorem d_Ir_isSide_0 : decode b_Ir_isSide 0 = .ok (.iload_n 0, 1) := by decide +kernel
theorem d_Ir_isSide_1 : decode b_Ir_isSide 1 = .ok (.ldc 248, 2) := by decide +kernel
theorem d_Ir_isSide_3 : decode b_Ir_isSide 3 = .ok (.if_icmp .lt 18, 3) := by decide +kernel
theorem d_Ir_isSide_6 : decode b_Ir_isSide 6 = .ok (.iload_n 0, 1) := by decide +kernel
theorem d_Ir_isSide_7 : decode b_Ir_isSide 7 = .ok (.iload_n 1, 1) := by decide +kernel
theorem d_Ir_isSide_8 : decode b_Ir_isSide 8 = .ok (.if_icmp .ge 13, 3) := by decide +kernel
theorem d_Ir_isSide_11 : decode b_Ir_isSide 11 = .ok (.iload_n 1, 1) := by decide +kernel
theorem d_Ir_isSide_12 : decode b_Ir_isSide 12 = .ok (.ldc 195, 2) := by decide +kernel
theorem d_Ir_isSide_14 : decode b_Ir_isSide 14 = .ok (.if_icmp .gt 7, 3) := by decide +kernel
theorem d_Ir_isSide_17 : decode b_Ir_isSide 17 = .ok (.iconst 1, 1) := by decide +kernel
theorem d_Ir_isSide_18 : decode b_Ir_isSide 18 = .ok (.goto 4, 3) := by decide +kernel
theorem d_Ir_isSide_21 : decode b_Ir_isSide 21 = .ok (.iconst 0, 1) := by decide +kernel
theorem d_Ir_isSide_22 : decode b_Ir_isSide 22 = .ok (.ireturn, 1) := by decide +kernel
set_option maxHeartbeats 4000000 in
set_option maxRecDepth 100000 in
theorem c_Ir_isSide (l : Launch) (a0 : Int32) (a1 : Int32) : Met l y_Ir_isSide z_Ir_isSide (rmD 0) (fun v _ => v = ([.int a0, .int a1] : List Value).toArray) (QcRead (f_Ir_isSide a0 a1)) 0 0 (fun _ => False) := by
  refine Met.ofW (cc := b_Ir_isSide) (maxL := 2) (ret := (some .boolean)) (by decide) rfl ?_
  intro p e s m args below meth c s₁ B hml hv
  obtain rfl := hv
  have hx := B.exec
  have hb := B.bytes
  have hr := B.returns
  have hts : ∀ w ∈ w_all, w.before _ s = true := fun w hw => atoms_spec (ws := z_Ir_isSide) B.pre w (List.mem_cons_of_mem _ hw)
  have hown : s.vm.findClass R_Ir = some m.cls := findClass_of_methodNamed B.named
  have hlocks := B.notSynchronized
  have hF : CallFix p m c b_Ir_isSide 2 s _ w_all R_Ir := ⟨hx, hb, hml, hown, hts⟩
  have hl := lv_entry ([.int a0, .int a1]) (n := 2) (Nat.le_of_ble_eq_true rfl)
  rw [lg_entry_eq]
  generalize (lg_sl ([.int a0, .int a1]) ++ List.replicate (2 - (lg_sl ([.int a0, .int a1])).length) Slot.unset).toArray = ls at hl ⊢
  have hl : lv_has ls 2 [(0, .int a0), (1, .int a1)] := hl
  refine lv_iload_n hx hb d_Ir_isSide_0 rfl (lv_at hl 0 rfl) ?_
  refine lv_ldc (v := (-10000000)) hx hb hown (hts _ m_142) d_Ir_isSide_1 ?_
  refine lv_icmp_lt (tgt := 21) hx hb d_Ir_isSide_3 (by decide) (fun c3 => ?_) (fun c3 => ?_)
  · refine lv_iconst (v := 0) hx hb d_Ir_isSide_21 (by decide) ?_
    have hv : (0 : Int32) = f_Ir_isSide a0 a1 := by rw [f_Ir_isSide, if_pos c3]
    exact W.zret (ty := .boolean) (v := 0) hx hb hr rfl (fun t ht hW => ⟨congrArg (fun z => Outcome.returned (some (Value.int z))) hv, ht⟩) (fun _ h9 => nomatch h9) d_Ir_isSide_22
  · refine lv_iload_n hx hb d_Ir_isSide_6 rfl (lv_at hl 0 rfl) ?_
    refine lv_iload_n hx hb d_Ir_isSide_7 rfl (lv_at hl 1 rfl) ?_
    refine lv_icmp_ge (tgt := 21) hx hb d_Ir_isSide_8 (by decide) (fun c8 => ?_) (fun c8 => ?_)
    · refine lv_iconst (v := 0) hx hb d_Ir_isSide_21 (by decide) ?_
      have hv : (0 : Int32) = f_Ir_isSide a0 a1 := by rw [f_Ir_isSide, if_neg c3, if_pos c8]
      exact W.zret (ty := .boolean) (v := 0) hx hb hr rfl (fun t ht hW => ⟨congrArg (fun z => Outcome.returned (some (Value.int z))) hv, ht⟩) (fun _ h9 => nomatch h9) d_Ir_isSide_22
    · refine lv_iload_n hx hb d_Ir_isSide_11 rfl (lv_at hl 1 rfl) ?_
      refine lv_ldc (v := 10000000) hx hb hown (hts _ m_143) d_Ir_isSide_12 ?_
      refine lv_icmp_gt (tgt := 21) hx hb d_Ir_isSide_14 (by decide) (fun c14 => ?_) (fun c14 => ?_)
      · refine lv_iconst (v := 0) hx hb d_Ir_isSide_21 (by decide) ?_
        have hv : (0 : Int32) = f_Ir_isSide a0 a1 := by rw [f_Ir_isSide, if_neg c3, if_neg c8, if_pos c14]
        exact W.zret (ty := .boolean) (v := 0) hx hb hr rfl (fun t ht hW => ⟨congrArg (fun z => Outcome.returned (some (Value.int z))) hv, ht⟩) (fun _ h9 => nomatch h9) d_Ir_isSide_22
      · refine lv_iconst (v := 1) hx hb d_Ir_isSide_17 (by decide) ?_
        refine lv_goto (tgt := 22) hx hb d_Ir_isSide_18 (by decide) ?_
        have hv : (1 : Int32) = f_Ir_isSide a0 a1 := by rw [f_Ir_isSide, if_neg c3, if_neg c8, if_neg c14]
        exact W.zret (ty := .boolean) (v := 1) hx hb hr rfl (fun t ht hW => ⟨congrArg (fun z => Outcome.returned (some (Value.int z))) hv, ht⟩) (fun _ h9 => nomatch h9) d_Ir_isSide_22
set_option maxHeartbeats 1000000 in
theorem r_Ir_isSide {p : Program} {l : Launch} {e : Env} {R : Room} {s : State} {m : MethodId} {args : Array Value} {below : List Frame} {meth : Method} {c : Code} {H : Heap} {locs : List Loc} {cells slots : Nat} {Q : State → Prop} {cc : ByteArray} {nL pc idx : Nat} {ls : Array Slot} {rest : List Value} {a0 : Int32} {a1 : Int32} (hF : CallFix p m c cc nL s args w_all R_Ir) (hlk : Cond.methodLink R_Ir idx y_Ir_isSide ∈ w_all) (hsz : ls.size = nL) (hR : (rmD 0).frames + 1 ≤ R.frames ∧ 8 + (2 + 11) + (rmD 0).locals ≤ R.locals) (hc : cells ≤ R.cells ∧ slots ≤ R.slots) (hrs : (rest.map fun v => v.category).sum ≤ 8) (hdg : decode cc pc = .ok (.invokestatic idx, 3)) (kk : W p l e R s m args below meth c H locs cells slots Q (F0 m (pc + 3) ls (.int (f_Ir_isSide a0 a1) :: rest))) : W p l e R s m args below meth c H locs cells slots Q (F0 m pc ls (.int a1 :: .int a0 :: rest)) :=
  W.callR (W.runS (As := [.int a0, .int a1]) (rest := rest) hF (c_Ir_isSide l a0 a1) (cwS 2 hF.2.2.2.2 (gS hlk m_144 m_129 m_145) rfl rfl rfl (by decide +kernel) hR) preEq rfl rfl hsz rfl (lv_room hrs) hdg hc) kk
theorem d_Ir_canLead_0 : decode b_Ir_canLead 0 = .ok (.iload_n 1, 1) := by decide +kernel
theorem d_Ir_canLead_1 : decode b_Ir_canLead 1 = .ok (.iconst (-1), 1) := by decide +kernel
theorem d_Ir_canLead_2 : decode b_Ir_canLead 2 = .ok (.if_icmp .eq 15, 3) := by decide +kernel
theorem d_Ir_canLead_5 : decode b_Ir_canLead 5 = .ok (.iload_n 1, 1) := by decide +kernel
theorem d_Ir_canLead_6 : decode b_Ir_canLead 6 = .ok (.iload_n 0, 1) := by decide +kernel
theorem d_Ir_canLead_7 : decode b_Ir_canLead 7 = .ok (.iconst 1, 1) := by decide +kernel
theorem d_Ir_canLead_8 : decode b_Ir_canLead 8 = .ok (.iadd, 1) := by decide +kernel
theorem d_Ir_canLead_9 : decode b_Ir_canLead 9 = .ok (.bipush 15, 2) := by decide +kernel
theorem d_Ir_canLead_11 : decode b_Ir_canLead 11 = .ok (.invokestatic 67, 3) := by decide +kernel
theorem d_Ir_canLead_14 : decode b_Ir_canLead 14 = .ok (.ifCond .eq 7, 3) := by decide +kernel
theorem d_Ir_canLead_17 : decode b_Ir_canLead 17 = .ok (.iconst 1, 1) := by decide +kernel
theorem d_Ir_canLead_18 : decode b_Ir_canLead 18 = .ok (.goto 4, 3) := by decide +kernel
theorem d_Ir_canLead_21 : decode b_Ir_canLead 21 = .ok (.iconst 0, 1) := by decide +kernel
theorem d_Ir_canLead_22 : decode b_Ir_canLead 22 = .ok (.ireturn, 1) := by decide +kernel
set_option maxHeartbeats 4000000 in
set_option maxRecDepth 100000 in
theorem c_Ir_canLead (l : Launch) (a0 : Int32) (a1 : Int32) : Met l y_Ir_canLead z_Ir_canLead (rmD 1) (fun v _ => v = ([.int a0, .int a1] : List Value).toArray) (QcRead (f_Ir_canLead a0 a1)) 0 0 (fun _ => False) := by
  refine Met.ofW (cc := b_Ir_canLead) (maxL := 2) (ret := (some .boolean)) (by decide) rfl ?_
  intro p e s m args below meth c s₁ B hml hv
  obtain rfl := hv
  have hx := B.exec
  have hb := B.bytes
  have hr := B.returns
  have hts : ∀ w ∈ w_all, w.before _ s = true := fun w hw => atoms_spec (ws := z_Ir_canLead) B.pre w (List.mem_cons_of_mem _ hw)
  have hown : s.vm.findClass R_Ir = some m.cls := findClass_of_methodNamed B.named
  have hlocks := B.notSynchronized
  have hF : CallFix p m c b_Ir_canLead 2 s _ w_all R_Ir := ⟨hx, hb, hml, hown, hts⟩
  have hl := lv_entry ([.int a0, .int a1]) (n := 2) (Nat.le_of_ble_eq_true rfl)
  rw [lg_entry_eq]
  generalize (lg_sl ([.int a0, .int a1]) ++ List.replicate (2 - (lg_sl ([.int a0, .int a1])).length) Slot.unset).toArray = ls at hl ⊢
  have hl : lv_has ls 2 [(0, .int a0), (1, .int a1)] := hl
  refine lv_iload_n hx hb d_Ir_canLead_0 rfl (lv_at hl 1 rfl) ?_
  refine lv_iconst (v := (-1)) hx hb d_Ir_canLead_1 (by decide) ?_
  refine lv_icmp_eq (tgt := 17) hx hb d_Ir_canLead_2 (by decide) (fun c2 => ?_) (fun c2 => ?_)
  · refine lv_iconst (v := 1) hx hb d_Ir_canLead_17 (by decide) ?_
    refine lv_goto (tgt := 22) hx hb d_Ir_canLead_18 (by decide) ?_
    have hv : (1 : Int32) = f_Ir_canLead a0 a1 := by rw [f_Ir_canLead, if_pos c2]
    exact W.zret (ty := .boolean) (v := 1) hx hb hr rfl (fun t ht hW => ⟨congrArg (fun z => Outcome.returned (some (Value.int z))) hv, ht⟩) (fun _ h9 => nomatch h9) d_Ir_canLead_22
  · refine lv_iload_n hx hb d_Ir_canLead_5 rfl (lv_at hl 1 rfl) ?_
    refine lv_iload_n hx hb d_Ir_canLead_6 rfl (lv_at hl 0 rfl) ?_
    refine lv_iconst (v := 1) hx hb d_Ir_canLead_7 (by decide) ?_
    refine lv_iadd hx hb d_Ir_canLead_8 ?_
    refine lv_bipush (v := 15) hx hb d_Ir_canLead_9 (by decide) ?_
    refine r_Ir_isWithin hF m_131 hl.1 ⟨Nat.le_of_ble_eq_true rfl, Nat.le_of_ble_eq_true rfl⟩ ⟨Nat.zero_le _, Nat.zero_le _⟩ (Nat.le_of_ble_eq_true rfl) d_Ir_canLead_11 ?_
    refine lv_if_eq (tgt := 21) hx hb d_Ir_canLead_14 (by decide) (fun c14 => ?_) (fun c14 => ?_)
    · refine lv_iconst (v := 0) hx hb d_Ir_canLead_21 (by decide) ?_
      have hv : (0 : Int32) = f_Ir_canLead a0 a1 := by rw [f_Ir_canLead, if_neg c2, if_pos c14]
      exact W.zret (ty := .boolean) (v := 0) hx hb hr rfl (fun t ht hW => ⟨congrArg (fun z => Outcome.returned (some (Value.int z))) hv, ht⟩) (fun _ h9 => nomatch h9) d_Ir_canLead_22
    · refine lv_iconst (v := 1) hx hb d_Ir_canLead_17 (by decide) ?_
      refine lv_goto (tgt := 22) hx hb d_Ir_canLead_18 (by decide) ?_
      have hv : (1 : Int32) = f_Ir_canLead a0 a1 := by rw [f_Ir_canLead, if_neg c2, if_neg c14]
      exact W.zret (ty := .boolean) (v := 1) hx hb hr rfl (fun t ht hW => ⟨congrArg (fun z => Outcome.returned (some (Value.int z))) hv, ht⟩) (fun _ h9 => nomatch h9) d_Ir_canLead_22
set_option maxHeartbeats 1000000 in
theorem r_Ir_canLead {p : Program} {l : Launch} {e : Env} {R : Room} {s : State} {m : MethodId} {args : Array Value} {below : List Frame} {meth : Method} {c : Code} {H : Heap} {locs : List Loc} {cells slots : Nat} {Q : State → Prop} {cc : ByteArray} {nL pc idx : Nat} {ls : Array Slot} {rest : List Value} {a0 : Int32} {a1 : Int32} (hF : CallFix p m c cc nL s args w_all R_Ir) (hlk : Cond.methodLink R_Ir idx y_Ir_canLead ∈ w_all) (hsz : ls.size = nL) (hR : (rmD 1).frames + 1 ≤ R.frames ∧ 8 + (2 + 11) + (rmD 1).locals ≤ R.locals) (hc : cells ≤ R.cells ∧ slots ≤ R.slots) (hrs : (rest.map fun v => v.category).sum ≤ 8) (hdg : decode cc pc = .ok (.invokestatic idx, 3)) (kk : W p l e R s m args below meth c H locs cells slots Q (F0 m (pc + 3) ls (.int (f_Ir_canLead a0 a1) :: rest))) : W p l e R s m args below meth c H locs cells slots Q (F0 m pc ls (.int a1 :: .int a0 :: rest)) :=
  W.callR (W.runS (As := [.int a0, .int a1]) (rest := rest) hF (c_Ir_canLead l a0 a1) (cwS 2 hF.2.2.2.2 (gS hlk m_146 m_129 m_147) rfl rfl rfl (by decide +kernel) hR) preEq rfl rfl hsz rfl (lv_room hrs) hdg hc) kk
theorem d_Ir_toldPoint_0 : decode b_Ir_toldPoint 0 = .ok (.lload_n 0, 1) := by decide +kernel
theorem d_Ir_toldPoint_1 : decode b_Ir_toldPoint 1 = .ok (.iconst 5, 1) := by decide +kernel
theorem d_Ir_toldPoint_2 : decode b_Ir_toldPoint 2 = .ok (.iload_n 2, 1) := by decide +kernel
theorem d_Ir_toldPoint_3 : decode b_Ir_toldPoint 3 = .ok (.imul, 1) := by decide +kernel
theorem d_Ir_toldPoint_4 : decode b_Ir_toldPoint 4 = .ok (.lushr, 1) := by decide +kernel
theorem d_Ir_toldPoint_5 : decode b_Ir_toldPoint 5 = .ok (.l2i, 1) := by decide +kernel
theorem d_Ir_toldPoint_6 : decode b_Ir_toldPoint 6 = .ok (.bipush 31, 2) := by decide +kernel
theorem d_Ir_toldPoint_8 : decode b_Ir_toldPoint 8 = .ok (.iand, 1) := by decide +kernel
theorem d_Ir_toldPoint_9 : decode b_Ir_toldPoint 9 = .ok (.ireturn, 1) := by decide +kernel
set_option maxHeartbeats 4000000 in
set_option maxRecDepth 100000 in
theorem c_Ir_toldPoint (l : Launch) (a0 : Int64) (a1 : Int32) : Met l y_Ir_toldPoint z_Ir_toldPoint (rmD 0) (fun v _ => v = ([.long a0, .int a1] : List Value).toArray) (QcRead (f_Ir_toldPoint a0 a1)) 0 0 (fun _ => False) := by
  refine Met.ofW (cc := b_Ir_toldPoint) (maxL := 3) (ret := (some .int)) (by decide) rfl ?_
  intro p e s m args below meth c s₁ B hml hv
  obtain rfl := hv
  have hx := B.exec
  have hb := B.bytes
  have hr := B.returns
  have hts : ∀ w ∈ w_all, w.before _ s = true := fun w hw => atoms_spec (ws := z_Ir_toldPoint) B.pre w (List.mem_cons_of_mem _ hw)
  have hown : s.vm.findClass R_Ir = some m.cls := findClass_of_methodNamed B.named
  have hlocks := B.notSynchronized
  have hF : CallFix p m c b_Ir_toldPoint 3 s _ w_all R_Ir := ⟨hx, hb, hml, hown, hts⟩
  have hl := lv_entry ([.long a0, .int a1]) (n := 3) (Nat.le_of_ble_eq_true rfl)
  rw [lg_entry_eq]
  generalize (lg_sl ([.long a0, .int a1]) ++ List.replicate (3 - (lg_sl ([.long a0, .int a1])).length) Slot.unset).toArray = ls at hl ⊢
  have hl : lv_has ls 3 [(0, .long a0), (2, .int a1)] := hl
  refine lv_lload_n hx hb d_Ir_toldPoint_0 rfl (lv_at hl 0 rfl) ?_
  refine lv_iconst (v := 5) hx hb d_Ir_toldPoint_1 (by decide) ?_
  refine lv_iload_n hx hb d_Ir_toldPoint_2 rfl (lv_at hl 1 rfl) ?_
  refine lv_imul hx hb d_Ir_toldPoint_3 ?_
  refine lv_lushr hx hb d_Ir_toldPoint_4 rfl ?_
  refine lv_l2i hx hb d_Ir_toldPoint_5 rfl ?_
  refine lv_bipush (v := 31) hx hb d_Ir_toldPoint_6 (by decide) ?_
  refine lv_iand hx hb d_Ir_toldPoint_8 ?_
  have hv : ((((a0.toUInt64 >>> ((5 * a1).toInt64.toUInt64 &&& Int64.toUInt64 63)).toInt64).toInt32) &&& 31 : Int32) = f_Ir_toldPoint a0 a1 := by rw [f_Ir_toldPoint]
  exact W.iret (v := (((a0.toUInt64 >>> ((5 * a1).toInt64.toUInt64 &&& Int64.toUInt64 63)).toInt64).toInt32) &&& 31) hx hb hr (fun t ht hW => ⟨congrArg (fun z => Outcome.returned (some (Value.int z))) hv, ht⟩) (fun _ h9 => nomatch h9) d_Ir_toldPoint_9
set_option maxHeartbeats 1000000 in
theorem r_Ir_toldPoint {p : Program} {l : Launch} {e : Env} {R : Room} {s : State} {m : MethodId} {args : Array Value} {below : List Frame} {meth : Method} {c : Code} {H : Heap} {locs : List Loc} {cells slots : Nat} {Q : State → Prop} {cc : ByteArray} {nL pc idx : Nat} {ls : Array Slot} {rest : List Value} {a0 : Int64} {a1 : Int32} (hF : CallFix p m c cc nL s args w_all R_Ir) (hlk : Cond.methodLink R_Ir idx y_Ir_toldPoint ∈ w_all) (hsz : ls.size = nL) (hR : (rmD 0).frames + 1 ≤ R.frames ∧ 8 + (3 + 11) + (rmD 0).locals ≤ R.locals) (hc : cells ≤ R.cells ∧ slots ≤ R.slots) (hrs : (rest.map fun v => v.category).sum ≤ 8) (hdg : decode cc pc = .ok (.invokestatic idx, 3)) (kk : W p l e R s m args below meth c H locs cells slots Q (F0 m (pc + 3) ls (.int (f_Ir_toldPoint a0 a1) :: rest))) : W p l e R s m args below meth c H locs cells slots Q (F0 m pc ls (.int a1 :: .long a0 :: rest)) :=
  W.callR (W.runS (As := [.long a0, .int a1]) (rest := rest) hF (c_Ir_toldPoint l a0 a1) (cwS 2 hF.2.2.2.2 (gS hlk m_148 m_129 m_149) rfl rfl rfl (by decide +kernel) hR) preEq rfl rfl hsz rfl (lv_room hrs) hdg hc) kk
theorem d_Ir_areAllPoints_0 : decode b_Ir_areAllPoints 0 = .ok (.iconst 0, 1) := by decide +kernel
theorem d_Ir_areAllPoints_1 : decode b_Ir_areAllPoints 1 = .ok (.istore 4, 2) := by decide +kernel
theorem d_Ir_areAllPoints_3 : decode b_Ir_areAllPoints 3 = .ok (.iload 4, 2) := by decide +kernel
theorem d_Ir_areAllPoints_5 : decode b_Ir_areAllPoints 5 = .ok (.iload_n 3, 1) := by decide +kernel
theorem d_Ir_areAllPoints_6 : decode b_Ir_areAllPoints 6 = .ok (.if_icmp .ge 24, 3) := by decide +kernel
theorem d_Ir_areAllPoints_9 : decode b_Ir_areAllPoints 9 = .ok (.aload_n 0, 1) := by decide +kernel
theorem d_Ir_areAllPoints_10 : decode b_Ir_areAllPoints 10 = .ok (.lload_n 1, 1) := by decide +kernel
theorem d_Ir_areAllPoints_11 : decode b_Ir_areAllPoints 11 = .ok (.iload 4, 2) := by decide +kernel
theorem d_Ir_areAllPoints_13 : decode b_Ir_areAllPoints 13 = .ok (.invokestatic 177, 3) := by decide +kernel
theorem d_Ir_areAllPoints_16 : decode b_Ir_areAllPoints 16 = .ok (.invokevirtual 98, 3) := by decide +kernel
theorem d_Ir_areAllPoints_19 : decode b_Ir_areAllPoints 19 = .ok (.ifCond .ne 5, 3) := by decide +kernel
theorem d_Ir_areAllPoints_22 : decode b_Ir_areAllPoints 22 = .ok (.iconst 0, 1) := by decide +kernel
theorem d_Ir_areAllPoints_23 : decode b_Ir_areAllPoints 23 = .ok (.ireturn, 1) := by decide +kernel
theorem d_Ir_areAllPoints_24 : decode b_Ir_areAllPoints 24 = .ok (.iinc 4 1, 3) := by decide +kernel
theorem d_Ir_areAllPoints_27 : decode b_Ir_areAllPoints 27 = .ok (.goto (-24), 3) := by decide +kernel
theorem d_Ir_areAllPoints_30 : decode b_Ir_areAllPoints 30 = .ok (.iconst 1, 1) := by decide +kernel
theorem d_Ir_areAllPoints_31 : decode b_Ir_areAllPoints 31 = .ok (.ireturn, 1) := by decide +kernel
set_option maxHeartbeats 4000000 in
set_option maxRecDepth 100000 in
theorem l_Ir_areAllPoints_3 {p : Program} {l : Launch} {e : Env} {s : State} {m : MethodId} {args : Array Value} {below : List Frame} {meth : Method} {c : Code} {dC : Nat → ClassId} {dI : Nat → Nat → Nat} {L : Nat → Nat} {cA : Nat → ClassId} {ar : Nat → Nat → Int32} {sc : Nat → Int32} (a0 : Int64) (a1 : Int32)  (hF : CallFix p m c b_Ir_areAllPoints 5 s args w_all R_Ir) (hK : kW_I dC dI cA s) (hP : va_P (dC, dI) classes (wI L cA ar sc) s.heap) (hr : meth.sig.returnType = (some .boolean)) (hlocks : meth.locks = false) : ∀ (n : Nat) (v4 : Int32), q_Ir_areAllPoints_3 ar sc a0 a1 n v4 → ∀ (ls : Array Slot), lv_has ls 5 [(4, .int v4), (0, .ref (L 0)), (1, .long a0), (3, .int a1)] → W p l e (rmD 1) s m args below meth c s.heap [] 0 0 (MQ below (QcRead (g_Ir_areAllPoints_3 ar sc a0 a1 n v4)) args s 0 0 (fun _ => False)) (F0 m 3 ls []) := by
  have hx := hF.1
  have hb := hF.2.1
  have hown := hF.2.2.2.1
  have hts := hF.2.2.2.2
  intro n
  induction n with
  | zero => intro v4 h; exact False.elim h
  | succ n ih =>
    intro v4 h ls hl
    rw [q_Ir_areAllPoints_3] at h
    refine lv_iload hx hb d_Ir_areAllPoints_3 (lv_at hl 0 rfl) ?_
    refine lv_iload_n hx hb d_Ir_areAllPoints_5 rfl (lv_at hl 3 rfl) ?_
    refine lv_icmp_ge (tgt := 30) hx hb d_Ir_areAllPoints_6 (by decide) (fun c6 => ?_) (fun c6 => ?_)
    · have h := h.1 c6
      refine lv_iconst (v := 1) hx hb d_Ir_areAllPoints_30 (by decide) ?_
      have hv : (1 : Int32) = g_Ir_areAllPoints_3 ar sc a0 a1 (n + 1) v4 := by rw [g_Ir_areAllPoints_3, if_pos c6]
      exact W.zret (ty := .boolean) (v := 1) hx hb hr rfl (fun t ht hW => ⟨congrArg (fun z => Outcome.returned (some (Value.int z))) hv, ht⟩) (fun _ h9 => nomatch h9) d_Ir_areAllPoints_31
    · have h := h.2 c6
      refine lv_aload_n hx hb d_Ir_areAllPoints_9 rfl (lv_at hl 1 rfl) ?_
      refine lv_lload_n hx hb d_Ir_areAllPoints_10 rfl (lv_at hl 2 rfl) ?_
      refine lv_iload hx hb d_Ir_areAllPoints_11 (lv_at hl 0 rfl) ?_
      refine r_Ir_toldPoint hF m_150 hl.1 ⟨Nat.le_of_ble_eq_true rfl, Nat.le_of_ble_eq_true rfl⟩ ⟨Nat.zero_le _, Nat.zero_le _⟩ (Nat.le_of_ble_eq_true rfl) d_Ir_areAllPoints_13 ?_
      refine r_Ir_isPoint hF hK hP m_151 hl.1 ⟨Nat.le_of_ble_eq_true rfl, Nat.le_of_ble_eq_true rfl⟩ ⟨Nat.zero_le _, Nat.zero_le _⟩ (Nat.le_of_ble_eq_true rfl) d_Ir_areAllPoints_16 ?_
      refine lv_if_ne (tgt := 24) hx hb d_Ir_areAllPoints_19 (by decide) (fun c19 => ?_) (fun c19 => ?_)
      · have h := h.2 c19
        refine lv_iinc (v := v4 + 1) (lv' := [(4, .int (v4 + 1)), (0, .ref (L 0)), (1, .long a0), (3, .int a1)]) hx hb d_Ir_areAllPoints_24 hl (k := 0) rfl rfl (by decide) rfl (fun ls hl => ?_)
        refine lv_goto (tgt := 3) hx hb d_Ir_areAllPoints_27 (by decide) ?_
        have hv : g_Ir_areAllPoints_3 ar sc a0 a1 (n + 1) v4 = g_Ir_areAllPoints_3 ar sc a0 a1 n (v4 + 1) := by rw [g_Ir_areAllPoints_3, if_neg c6, if_neg c19]
        rw [hv]
        exact ih (v4 + 1) h ls (lv_sub hl [0, 1, 2, 3] rfl)
      · have h := h.1 c19
        refine lv_iconst (v := 0) hx hb d_Ir_areAllPoints_22 (by decide) ?_
        have hv : (0 : Int32) = g_Ir_areAllPoints_3 ar sc a0 a1 (n + 1) v4 := by rw [g_Ir_areAllPoints_3, if_neg c6, if_pos c19]
        exact W.zret (ty := .boolean) (v := 0) hx hb hr rfl (fun t ht hW => ⟨congrArg (fun z => Outcome.returned (some (Value.int z))) hv, ht⟩) (fun _ h9 => nomatch h9) d_Ir_areAllPoints_23
set_option maxHeartbeats 4000000 in
set_option maxRecDepth 100000 in
theorem c_Ir_areAllPoints (l : Launch) (dC : Nat → ClassId) (dI : Nat → Nat → Nat) (L : Nat → Nat) (cA : Nat → ClassId) (ar : Nat → Nat → Int32) (sc : Nat → Int32) (a0 : Int64) (a1 : Int32) (h : p_Ir_areAllPoints ar sc a0 a1) : Met l y_Ir_areAllPoints z_Ir_areAllPoints (rmD 1) (va_Pc [.ref (L 0), .long a0, .int a1] (fun U => xw_I dC dI L cA ar sc U)) (QcRead (f_Ir_areAllPoints ar sc a0 a1)) 0 0 (fun _ => False) := by
  refine Met.ofW (cc := b_Ir_areAllPoints) (maxL := 5) (ret := (some .boolean)) (by decide) rfl ?_
  intro p e s m args below meth c s₁ B hml hv
  obtain ⟨rfl, ⟨hP, hK⟩⟩ := hv
  have hx := B.exec
  have hb := B.bytes
  have hr := B.returns
  have hts : ∀ w ∈ w_all, w.before _ s = true := fun w hw => atoms_spec (ws := z_Ir_areAllPoints) B.pre w (List.mem_cons_of_mem _ hw)
  have hown : s.vm.findClass R_Ir = some m.cls := findClass_of_methodNamed B.named
  have hlocks := B.notSynchronized
  have hF : CallFix p m c b_Ir_areAllPoints 5 s _ w_all R_Ir := ⟨hx, hb, hml, hown, hts⟩
  have hl := lv_entry ([.ref (L 0), .long a0, .int a1]) (n := 5) (Nat.le_of_ble_eq_true rfl)
  rw [lg_entry_eq]
  generalize (lg_sl ([.ref (L 0), .long a0, .int a1]) ++ List.replicate (5 - (lg_sl ([.ref (L 0), .long a0, .int a1])).length) Slot.unset).toArray = ls at hl ⊢
  have hl : lv_has ls 5 [(0, .ref (L 0)), (1, .long a0), (3, .int a1)] := hl
  unfold p_Ir_areAllPoints at h
  refine lv_iconst (v := 0) hx hb d_Ir_areAllPoints_0 (by decide) ?_
  refine lv_istore (lv' := [(4, .int 0), (0, .ref (L 0)), (1, .long a0), (3, .int a1)]) hx hb d_Ir_areAllPoints_1 hl (by decide) rfl (fun ls hl => ?_)
  have kL3 := h
  have hv : f_Ir_areAllPoints ar sc a0 a1 = g_Ir_areAllPoints_3 ar sc a0 a1 200 0 := by rw [f_Ir_areAllPoints]
  rw [hv]
  exact l_Ir_areAllPoints_3 a0 a1 hF hK hP hr hlocks 200 0 kL3 ls (lv_sub hl [0, 1, 2, 3] rfl)
set_option maxHeartbeats 1000000 in
theorem r_Ir_areAllPoints {p : Program} {l : Launch} {e : Env} {R : Room} {s : State} {m : MethodId} {args : Array Value} {below : List Frame} {meth : Method} {c : Code} {H : Heap} {locs : List Loc} {cells slots : Nat} {Q : State → Prop} {cc : ByteArray} {nL pc idx : Nat} {ls : Array Slot} {rest : List Value} {own : String} {dC : Nat → ClassId} {dI : Nat → Nat → Nat} {L : Nat → Nat} {cA : Nat → ClassId} {ar : Nat → Nat → Int32} {sc : Nat → Int32} {a0 : Int64} {a1 : Int32} (hF : CallFix p m c cc nL s args w_all own) (hK : kW_I dC dI cA s) (hP : va_P (dC, dI) classes (wI L cA ar sc) H) (h : p_Ir_areAllPoints ar sc a0 a1) (hlk : Cond.methodLink own idx y_Ir_areAllPoints ∈ w_all) (hsz : ls.size = nL) (hR : (rmD 1).frames + 1 ≤ R.frames ∧ 8 + (5 + 11) + (rmD 1).locals ≤ R.locals) (hc : cells ≤ R.cells ∧ slots ≤ R.slots) (hrs : (rest.map fun v => v.category).sum ≤ 8) (hdg : decode cc pc = .ok (.invokevirtual idx, 3)) (kk : W p l e R s m args below meth c H locs cells slots Q (F0 m (pc + 3) ls (.int (f_Ir_areAllPoints ar sc a0 a1) :: rest))) : W p l e R s m args below meth c H locs cells slots Q (F0 m pc ls (.int a1 :: .long a0 :: .ref (L 0) :: rest)) :=
  W.callR (W.runV (As := [.long a0, .int a1]) (rest := rest) hF (c_Ir_areAllPoints l dC dI L cA ar sc a0 a1 h) (cwV 2 hF.2.2.2.2 (gV hlk m_152 m_153 m_129 m_154) rfl rfl rfl (by decide +kernel) hR) ⟨xb_I, va_recv hK.1 hP (ci := 0) (q0 := 0) rfl rfl, fun U hU hW => ⟨rfl, by rw [hU]; exact hP, kW_I_warm hW hK⟩⟩ rfl rfl hsz rfl (lv_room hrs) hdg hc) kk
theorem d_Ir_areAllDifferent_0 : decode b_Ir_areAllDifferent 0 = .ok (.iconst 0, 1) := by decide +kernel
theorem d_Ir_areAllDifferent_1 : decode b_Ir_areAllDifferent 1 = .ok (.istore_n 3, 1) := by decide +kernel
theorem d_Ir_areAllDifferent_2 : decode b_Ir_areAllDifferent 2 = .ok (.iconst 0, 1) := by decide +kernel
theorem d_Ir_areAllDifferent_3 : decode b_Ir_areAllDifferent 3 = .ok (.istore 4, 2) := by decide +kernel
theorem d_Ir_areAllDifferent_5 : decode b_Ir_areAllDifferent 5 = .ok (.iload 4, 2) := by decide +kernel
theorem d_Ir_areAllDifferent_7 : decode b_Ir_areAllDifferent 7 = .ok (.iload_n 2, 1) := by decide +kernel
theorem d_Ir_areAllDifferent_8 : decode b_Ir_areAllDifferent 8 = .ok (.if_icmp .ge 33, 3) := by decide +kernel
theorem d_Ir_areAllDifferent_11 : decode b_Ir_areAllDifferent 11 = .ok (.iconst 1, 1) := by decide +kernel
theorem d_Ir_areAllDifferent_12 : decode b_Ir_areAllDifferent 12 = .ok (.lload_n 0, 1) := by decide +kernel
theorem d_Ir_areAllDifferent_13 : decode b_Ir_areAllDifferent 13 = .ok (.iload 4, 2) := by decide +kernel
theorem d_Ir_areAllDifferent_15 : decode b_Ir_areAllDifferent 15 = .ok (.invokestatic 177, 3) := by decide +kernel
theorem d_Ir_areAllDifferent_18 : decode b_Ir_areAllDifferent 18 = .ok (.ishl, 1) := by decide +kernel
theorem d_Ir_areAllDifferent_19 : decode b_Ir_areAllDifferent 19 = .ok (.istore 5, 2) := by decide +kernel
theorem d_Ir_areAllDifferent_21 : decode b_Ir_areAllDifferent 21 = .ok (.iload_n 3, 1) := by decide +kernel
theorem d_Ir_areAllDifferent_22 : decode b_Ir_areAllDifferent 22 = .ok (.iload 5, 2) := by decide +kernel
theorem d_Ir_areAllDifferent_24 : decode b_Ir_areAllDifferent 24 = .ok (.iand, 1) := by decide +kernel
theorem d_Ir_areAllDifferent_25 : decode b_Ir_areAllDifferent 25 = .ok (.ifCond .eq 5, 3) := by decide +kernel
theorem d_Ir_areAllDifferent_28 : decode b_Ir_areAllDifferent 28 = .ok (.iconst 0, 1) := by decide +kernel
theorem d_Ir_areAllDifferent_29 : decode b_Ir_areAllDifferent 29 = .ok (.ireturn, 1) := by decide +kernel
theorem d_Ir_areAllDifferent_30 : decode b_Ir_areAllDifferent 30 = .ok (.iload_n 3, 1) := by decide +kernel
theorem d_Ir_areAllDifferent_31 : decode b_Ir_areAllDifferent 31 = .ok (.iload 5, 2) := by decide +kernel
theorem d_Ir_areAllDifferent_33 : decode b_Ir_areAllDifferent 33 = .ok (.ior, 1) := by decide +kernel
theorem d_Ir_areAllDifferent_34 : decode b_Ir_areAllDifferent 34 = .ok (.istore_n 3, 1) := by decide +kernel
theorem d_Ir_areAllDifferent_35 : decode b_Ir_areAllDifferent 35 = .ok (.iinc 4 1, 3) := by decide +kernel
theorem d_Ir_areAllDifferent_38 : decode b_Ir_areAllDifferent 38 = .ok (.goto (-33), 3) := by decide +kernel
theorem d_Ir_areAllDifferent_41 : decode b_Ir_areAllDifferent 41 = .ok (.iconst 1, 1) := by decide +kernel
theorem d_Ir_areAllDifferent_42 : decode b_Ir_areAllDifferent 42 = .ok (.ireturn, 1) := by decide +kernel
set_option maxHeartbeats 4000000 in
set_option maxRecDepth 100000 in
theorem l_Ir_areAllDifferent_5 {p : Program} {l : Launch} {e : Env} {s : State} {m : MethodId} {args : Array Value} {below : List Frame} {meth : Method} {c : Code} (a0 : Int64) (a1 : Int32)  (hF : CallFix p m c b_Ir_areAllDifferent 6 s args w_all R_Ir) (hr : meth.sig.returnType = (some .boolean)) (hlocks : meth.locks = false) : ∀ (n : Nat) (v3 : Int32) (v4 : Int32), q_Ir_areAllDifferent_5 a0 a1 n v3 v4 → ∀ (ls : Array Slot), lv_has ls 6 [(3, .int v3), (4, .int v4), (0, .long a0), (2, .int a1)] → W p l e (rmD 1) s m args below meth c s.heap [] 0 0 (MQ below (QcRead (g_Ir_areAllDifferent_5 a0 a1 n v3 v4)) args s 0 0 (fun _ => False)) (F0 m 5 ls []) := by
  have hx := hF.1
  have hb := hF.2.1
  have hown := hF.2.2.2.1
  have hts := hF.2.2.2.2
  intro n
  induction n with
  | zero => intro v3 v4 h; exact False.elim h
  | succ n ih =>
    intro v3 v4 h ls hl
    rw [q_Ir_areAllDifferent_5] at h
    refine lv_iload hx hb d_Ir_areAllDifferent_5 (lv_at hl 1 rfl) ?_
    refine lv_iload_n hx hb d_Ir_areAllDifferent_7 rfl (lv_at hl 3 rfl) ?_
    refine lv_icmp_ge (tgt := 41) hx hb d_Ir_areAllDifferent_8 (by decide) (fun c8 => ?_) (fun c8 => ?_)
    · have h := h.1 c8
      refine lv_iconst (v := 1) hx hb d_Ir_areAllDifferent_41 (by decide) ?_
      have hv : (1 : Int32) = g_Ir_areAllDifferent_5 a0 a1 (n + 1) v3 v4 := by rw [g_Ir_areAllDifferent_5, if_pos c8]
      exact W.zret (ty := .boolean) (v := 1) hx hb hr rfl (fun t ht hW => ⟨congrArg (fun z => Outcome.returned (some (Value.int z))) hv, ht⟩) (fun _ h9 => nomatch h9) d_Ir_areAllDifferent_42
    · have h := h.2 c8
      refine lv_iconst (v := 1) hx hb d_Ir_areAllDifferent_11 (by decide) ?_
      refine lv_lload_n hx hb d_Ir_areAllDifferent_12 rfl (lv_at hl 2 rfl) ?_
      refine lv_iload hx hb d_Ir_areAllDifferent_13 (lv_at hl 1 rfl) ?_
      refine r_Ir_toldPoint hF m_150 hl.1 ⟨Nat.le_of_ble_eq_true rfl, Nat.le_of_ble_eq_true rfl⟩ ⟨Nat.zero_le _, Nat.zero_le _⟩ (Nat.le_of_ble_eq_true rfl) d_Ir_areAllDifferent_15 ?_
      refine lv_ishl hx hb d_Ir_areAllDifferent_18 ?_
      refine lv_istore (lv' := [(5, .int ((1 : Int32) <<< ((f_Ir_toldPoint a0 v4) &&& 31))), (3, .int v3), (4, .int v4), (0, .long a0), (2, .int a1)]) hx hb d_Ir_areAllDifferent_19 hl (by decide) rfl (fun ls hl => ?_)
      refine lv_iload_n hx hb d_Ir_areAllDifferent_21 rfl (lv_at hl 1 rfl) ?_
      refine lv_iload hx hb d_Ir_areAllDifferent_22 (lv_at hl 0 rfl) ?_
      refine lv_iand hx hb d_Ir_areAllDifferent_24 ?_
      refine lv_if_eq (tgt := 30) hx hb d_Ir_areAllDifferent_25 (by decide) (fun c25 => ?_) (fun c25 => ?_)
      · have h := h.1 c25
        refine lv_iload_n hx hb d_Ir_areAllDifferent_30 rfl (lv_at hl 1 rfl) ?_
        refine lv_iload hx hb d_Ir_areAllDifferent_31 (lv_at hl 0 rfl) ?_
        refine lv_ior hx hb d_Ir_areAllDifferent_33 ?_
        refine lv_istore_n (lv' := [(3, .int (v3 ||| ((1 : Int32) <<< ((f_Ir_toldPoint a0 v4) &&& 31)))), (5, .int ((1 : Int32) <<< ((f_Ir_toldPoint a0 v4) &&& 31))), (4, .int v4), (0, .long a0), (2, .int a1)]) hx hb d_Ir_areAllDifferent_34 rfl hl (by decide) rfl (fun ls hl => ?_)
        refine lv_iinc (v := v4 + 1) (lv' := [(4, .int (v4 + 1)), (3, .int (v3 ||| ((1 : Int32) <<< ((f_Ir_toldPoint a0 v4) &&& 31)))), (5, .int ((1 : Int32) <<< ((f_Ir_toldPoint a0 v4) &&& 31))), (0, .long a0), (2, .int a1)]) hx hb d_Ir_areAllDifferent_35 hl (k := 2) rfl rfl (by decide) rfl (fun ls hl => ?_)
        refine lv_goto (tgt := 5) hx hb d_Ir_areAllDifferent_38 (by decide) ?_
        have hv : g_Ir_areAllDifferent_5 a0 a1 (n + 1) v3 v4 = g_Ir_areAllDifferent_5 a0 a1 n (v3 ||| ((1 : Int32) <<< ((f_Ir_toldPoint a0 v4) &&& 31))) (v4 + 1) := by rw [g_Ir_areAllDifferent_5, if_neg c8, if_pos c25]
        rw [hv]
        exact ih (v3 ||| ((1 : Int32) <<< ((f_Ir_toldPoint a0 v4) &&& 31))) (v4 + 1) h ls (lv_sub hl [1, 0, 3, 4] rfl)
      · have h := h.2 c25
        refine lv_iconst (v := 0) hx hb d_Ir_areAllDifferent_28 (by decide) ?_
        have hv : (0 : Int32) = g_Ir_areAllDifferent_5 a0 a1 (n + 1) v3 v4 := by rw [g_Ir_areAllDifferent_5, if_neg c8, if_neg c25]
        exact W.zret (ty := .boolean) (v := 0) hx hb hr rfl (fun t ht hW => ⟨congrArg (fun z => Outcome.returned (some (Value.int z))) hv, ht⟩) (fun _ h9 => nomatch h9) d_Ir_areAllDifferent_29
set_option maxHeartbeats 4000000 in
set_option maxRecDepth 100000 in
theorem c_Ir_areAllDifferent (l : Launch) (a0 : Int64) (a1 : Int32) (h : p_Ir_areAllDifferent a0 a1) : Met l y_Ir_areAllDifferent z_Ir_areAllDifferent (rmD 1) (fun v _ => v = ([.long a0, .int a1] : List Value).toArray) (QcRead (f_Ir_areAllDifferent a0 a1)) 0 0 (fun _ => False) := by
  refine Met.ofW (cc := b_Ir_areAllDifferent) (maxL := 6) (ret := (some .boolean)) (by decide) rfl ?_
  intro p e s m args below meth c s₁ B hml hv
  obtain rfl := hv
  have hx := B.exec
  have hb := B.bytes
  have hr := B.returns
  have hts : ∀ w ∈ w_all, w.before _ s = true := fun w hw => atoms_spec (ws := z_Ir_areAllDifferent) B.pre w (List.mem_cons_of_mem _ hw)
  have hown : s.vm.findClass R_Ir = some m.cls := findClass_of_methodNamed B.named
  have hlocks := B.notSynchronized
  have hF : CallFix p m c b_Ir_areAllDifferent 6 s _ w_all R_Ir := ⟨hx, hb, hml, hown, hts⟩
  have hl := lv_entry ([.long a0, .int a1]) (n := 6) (Nat.le_of_ble_eq_true rfl)
  rw [lg_entry_eq]
  generalize (lg_sl ([.long a0, .int a1]) ++ List.replicate (6 - (lg_sl ([.long a0, .int a1])).length) Slot.unset).toArray = ls at hl ⊢
  have hl : lv_has ls 6 [(0, .long a0), (2, .int a1)] := hl
  unfold p_Ir_areAllDifferent at h
  refine lv_iconst (v := 0) hx hb d_Ir_areAllDifferent_0 (by decide) ?_
  refine lv_istore_n (lv' := [(3, .int 0), (0, .long a0), (2, .int a1)]) hx hb d_Ir_areAllDifferent_1 rfl hl (by decide) rfl (fun ls hl => ?_)
  refine lv_iconst (v := 0) hx hb d_Ir_areAllDifferent_2 (by decide) ?_
  refine lv_istore (lv' := [(4, .int 0), (3, .int 0), (0, .long a0), (2, .int a1)]) hx hb d_Ir_areAllDifferent_3 hl (by decide) rfl (fun ls hl => ?_)
  have kL5 := h
  have hv : f_Ir_areAllDifferent a0 a1 = g_Ir_areAllDifferent_5 a0 a1 200 0 0 := by rw [f_Ir_areAllDifferent]
  rw [hv]
  exact l_Ir_areAllDifferent_5 a0 a1 hF hr hlocks 200 0 0 kL5 ls (lv_sub hl [1, 0, 2, 3] rfl)
set_option maxHeartbeats 1000000 in
theorem r_Ir_areAllDifferent {p : Program} {l : Launch} {e : Env} {R : Room} {s : State} {m : MethodId} {args : Array Value} {below : List Frame} {meth : Method} {c : Code} {H : Heap} {locs : List Loc} {cells slots : Nat} {Q : State → Prop} {cc : ByteArray} {nL pc idx : Nat} {ls : Array Slot} {rest : List Value} {a0 : Int64} {a1 : Int32} (hF : CallFix p m c cc nL s args w_all R_Ir) (h : p_Ir_areAllDifferent a0 a1) (hlk : Cond.methodLink R_Ir idx y_Ir_areAllDifferent ∈ w_all) (hsz : ls.size = nL) (hR : (rmD 1).frames + 1 ≤ R.frames ∧ 8 + (6 + 11) + (rmD 1).locals ≤ R.locals) (hc : cells ≤ R.cells ∧ slots ≤ R.slots) (hrs : (rest.map fun v => v.category).sum ≤ 8) (hdg : decode cc pc = .ok (.invokestatic idx, 3)) (kk : W p l e R s m args below meth c H locs cells slots Q (F0 m (pc + 3) ls (.int (f_Ir_areAllDifferent a0 a1) :: rest))) : W p l e R s m args below meth c H locs cells slots Q (F0 m pc ls (.int a1 :: .long a0 :: rest)) :=
  W.callR (W.runS (As := [.long a0, .int a1]) (rest := rest) hF (c_Ir_areAllDifferent l a0 a1 h) (cwS 2 hF.2.2.2.2 (gS hlk m_155 m_129 m_156) rfl rfl rfl (by decide +kernel) hR) preEq rfl rfl hsz rfl (lv_room hrs) hdg hc) kk
theorem d_Ir_fillRisks_0 : decode b_Ir_fillRisks 0 = .ok (.iconst 0, 1) := by decide +kernel
theorem d_Ir_fillRisks_1 : decode b_Ir_fillRisks 1 = .ok (.istore_n 1, 1) := by decide +kernel
theorem d_Ir_fillRisks_2 : decode b_Ir_fillRisks 2 = .ok (.iload_n 1, 1) := by decide +kernel
theorem d_Ir_fillRisks_3 : decode b_Ir_fillRisks 3 = .ok (.aload_n 0, 1) := by decide +kernel
theorem d_Ir_fillRisks_4 : decode b_Ir_fillRisks 4 = .ok (.getfield 19, 3) := by decide +kernel
theorem d_Ir_fillRisks_7 : decode b_Ir_fillRisks 7 = .ok (.getfield 87, 3) := by decide +kernel
theorem d_Ir_fillRisks_10 : decode b_Ir_fillRisks 10 = .ok (.if_icmp .ge 42, 3) := by decide +kernel
theorem d_Ir_fillRisks_13 : decode b_Ir_fillRisks 13 = .ok (.aload_n 0, 1) := by decide +kernel
theorem d_Ir_fillRisks_14 : decode b_Ir_fillRisks 14 = .ok (.getfield 51, 3) := by decide +kernel
theorem d_Ir_fillRisks_17 : decode b_Ir_fillRisks 17 = .ok (.iload_n 1, 1) := by decide +kernel
theorem d_Ir_fillRisks_18 : decode b_Ir_fillRisks 18 = .ok (.aload_n 0, 1) := by decide +kernel
theorem d_Ir_fillRisks_19 : decode b_Ir_fillRisks 19 = .ok (.getfield 10, 3) := by decide +kernel
theorem d_Ir_fillRisks_22 : decode b_Ir_fillRisks 22 = .ok (.getfield 74, 3) := by decide +kernel
theorem d_Ir_fillRisks_25 : decode b_Ir_fillRisks 25 = .ok (.aload_n 0, 1) := by decide +kernel
theorem d_Ir_fillRisks_26 : decode b_Ir_fillRisks 26 = .ok (.getfield 19, 3) := by decide +kernel
theorem d_Ir_fillRisks_29 : decode b_Ir_fillRisks 29 = .ok (.getfield 249, 3) := by decide +kernel
theorem d_Ir_fillRisks_32 : decode b_Ir_fillRisks 32 = .ok (.iload_n 1, 1) := by decide +kernel
theorem d_Ir_fillRisks_33 : decode b_Ir_fillRisks 33 = .ok (.iaload, 1) := by decide +kernel
theorem d_Ir_fillRisks_34 : decode b_Ir_fillRisks 34 = .ok (.iaload, 1) := by decide +kernel
theorem d_Ir_fillRisks_35 : decode b_Ir_fillRisks 35 = .ok (.aload_n 0, 1) := by decide +kernel
theorem d_Ir_fillRisks_36 : decode b_Ir_fillRisks 36 = .ok (.getfield 19, 3) := by decide +kernel
theorem d_Ir_fillRisks_39 : decode b_Ir_fillRisks 39 = .ok (.getfield 252, 3) := by decide +kernel
theorem d_Ir_fillRisks_42 : decode b_Ir_fillRisks 42 = .ok (.iload_n 1, 1) := by decide +kernel
theorem d_Ir_fillRisks_43 : decode b_Ir_fillRisks 43 = .ok (.iaload, 1) := by decide +kernel
theorem d_Ir_fillRisks_44 : decode b_Ir_fillRisks 44 = .ok (.iadd, 1) := by decide +kernel
theorem d_Ir_fillRisks_45 : decode b_Ir_fillRisks 45 = .ok (.iastore, 1) := by decide +kernel
theorem d_Ir_fillRisks_46 : decode b_Ir_fillRisks 46 = .ok (.iinc 1 1, 3) := by decide +kernel
theorem d_Ir_fillRisks_49 : decode b_Ir_fillRisks 49 = .ok (.goto (-47), 3) := by decide +kernel
theorem d_Ir_fillRisks_52 : decode b_Ir_fillRisks 52 = .ok (.iconst 0, 1) := by decide +kernel
theorem d_Ir_fillRisks_53 : decode b_Ir_fillRisks 53 = .ok (.istore_n 1, 1) := by decide +kernel
theorem d_Ir_fillRisks_54 : decode b_Ir_fillRisks 54 = .ok (.iload_n 1, 1) := by decide +kernel
theorem d_Ir_fillRisks_55 : decode b_Ir_fillRisks 55 = .ok (.aload_n 0, 1) := by decide +kernel
theorem d_Ir_fillRisks_56 : decode b_Ir_fillRisks 56 = .ok (.getfield 26, 3) := by decide +kernel
theorem d_Ir_fillRisks_59 : decode b_Ir_fillRisks 59 = .ok (.getfield 104, 3) := by decide +kernel
theorem d_Ir_fillRisks_62 : decode b_Ir_fillRisks 62 = .ok (.if_icmp .ge 38, 3) := by decide +kernel
theorem d_Ir_fillRisks_65 : decode b_Ir_fillRisks 65 = .ok (.aload_n 0, 1) := by decide +kernel
theorem d_Ir_fillRisks_66 : decode b_Ir_fillRisks 66 = .ok (.getfield 51, 3) := by decide +kernel
theorem d_Ir_fillRisks_69 : decode b_Ir_fillRisks 69 = .ok (.aload_n 0, 1) := by decide +kernel
theorem d_Ir_fillRisks_70 : decode b_Ir_fillRisks 70 = .ok (.getfield 26, 3) := by decide +kernel
theorem d_Ir_fillRisks_73 : decode b_Ir_fillRisks 73 = .ok (.getfield 124, 3) := by decide +kernel
theorem d_Ir_fillRisks_76 : decode b_Ir_fillRisks 76 = .ok (.iload_n 1, 1) := by decide +kernel
theorem d_Ir_fillRisks_77 : decode b_Ir_fillRisks 77 = .ok (.iaload, 1) := by decide +kernel
theorem d_Ir_fillRisks_78 : decode b_Ir_fillRisks 78 = .ok (.dup2, 1) := by decide +kernel
theorem d_Ir_fillRisks_79 : decode b_Ir_fillRisks 79 = .ok (.iaload, 1) := by decide +kernel
theorem d_Ir_fillRisks_80 : decode b_Ir_fillRisks 80 = .ok (.aload_n 0, 1) := by decide +kernel
theorem d_Ir_fillRisks_81 : decode b_Ir_fillRisks 81 = .ok (.getfield 26, 3) := by decide +kernel
theorem d_Ir_fillRisks_84 : decode b_Ir_fillRisks 84 = .ok (.iload_n 1, 1) := by decide +kernel
theorem d_Ir_fillRisks_85 : decode b_Ir_fillRisks 85 = .ok (.aload_n 0, 1) := by decide +kernel
theorem d_Ir_fillRisks_86 : decode b_Ir_fillRisks 86 = .ok (.getfield 55, 3) := by decide +kernel
theorem d_Ir_fillRisks_89 : decode b_Ir_fillRisks 89 = .ok (.invokevirtual 255, 3) := by decide +kernel
theorem d_Ir_fillRisks_92 : decode b_Ir_fillRisks 92 = .ok (.iadd, 1) := by decide +kernel
theorem d_Ir_fillRisks_93 : decode b_Ir_fillRisks 93 = .ok (.iastore, 1) := by decide +kernel
theorem d_Ir_fillRisks_94 : decode b_Ir_fillRisks 94 = .ok (.iinc 1 1, 3) := by decide +kernel
theorem d_Ir_fillRisks_97 : decode b_Ir_fillRisks 97 = .ok (.goto (-43), 3) := by decide +kernel
theorem d_Ir_fillRisks_100 : decode b_Ir_fillRisks 100 = .ok (.return_, 1) := by decide +kernel
set_option maxHeartbeats 4000000 in
set_option maxRecDepth 100000 in
theorem l_Ir_fillRisks_2 {p : Program} {l : Launch} {e : Env} {s : State} {m : MethodId} {args : Array Value} {below : List Frame} {meth : Method} {c : Code} {dC : Nat → ClassId} {dI : Nat → Nat → Nat} {L : Nat → Nat} {cA : Nat → ClassId} {Q : State → Prop}   (hF : CallFix p m c b_Ir_fillRisks 2 s args w_all R_Ir) (hK : kW_I dC dI cA s) (hL : ij 38 L) : ∀ (n : Nat) (v1 : Int32) (ar : Nat → Nat → Int32) (sc : Nat → Int32), q_Ir_fillRisks_2 n v1 ar sc → ∀ (H : Heap) (locs : List Loc), va_P (dC, dI) classes (wI L cA ar sc) H → va_S (aI L) s.heap H locs → ∀ (ls : Array Slot), lv_has ls 2 [(1, .int v1), (0, .ref (L 0))] → (∀ (H : Heap) (locs : List Loc) (ls : Array Slot), va_P (dC, dI) classes (wI L cA ((g_Ir_fillRisks_2 n v1 ar sc).2.1) ((g_Ir_fillRisks_2 n v1 ar sc).2.2)) H → va_S (aI L) s.heap H locs → lv_has ls 2 [(1, .int ((g_Ir_fillRisks_2 n v1 ar sc).1)), (0, .ref (L 0))] → W p l e (rmD 3) s m args below meth c H locs 0 0 Q (F0 m 52 ls [])) → W p l e (rmD 3) s m args below meth c H locs 0 0 Q (F0 m 2 ls []) := by
  have hx := hF.1
  have hb := hF.2.1
  have hown := hF.2.2.2.1
  have hts := hF.2.2.2.2
  intro n
  induction n with
  | zero => intro v1 ar sc h; exact False.elim h
  | succ n ih =>
    intro v1 ar sc h H locs hP hS ls hl hk
    rw [q_Ir_fillRisks_2] at h
    refine lv_iload_n hx hb d_Ir_fillRisks_2 rfl (lv_at hl 0 rfl) ?_
    refine lv_aload_n hx hb d_Ir_fillRisks_3 rfl (lv_at hl 1 rfl) ?_
    refine gf_Ir_points hF hK hP m_134 d_Ir_fillRisks_4 ?_
    refine gn_Points_count hF hK hP mn_0 d_Ir_fillRisks_7 ?_
    refine lv_icmp_ge (tgt := 52) hx hb d_Ir_fillRisks_10 (by decide) (fun c10 => ?_) (fun c10 => ?_)
    · have h := h.1 c10
      have hv : g_Ir_fillRisks_2 (n + 1) v1 ar sc = ((v1, ar, sc) : Int32 × (Nat → Nat → Int32) × (Nat → Int32)) := by rw [g_Ir_fillRisks_2, if_pos c10]
      rw [hv] at hk
      exact hk _ _ ls hP hS (lv_sub hl [0, 1] rfl)
    · have h := h.2 c10
      refine lv_aload_n hx hb d_Ir_fillRisks_13 rfl (lv_at hl 1 rfl) ?_
      refine gf_Ir_risks hF hK hP m_157 d_Ir_fillRisks_14 ?_
      refine lv_iload_n hx hb d_Ir_fillRisks_17 rfl (lv_at hl 0 rfl) ?_
      refine lv_aload_n hx hb d_Ir_fillRisks_18 rfl (lv_at hl 1 rfl) ?_
      refine gf_Ir_scale hF hK hP m_158 d_Ir_fillRisks_19 ?_
      refine gn_Scale_kindWeights hF hK hP mn_2 d_Ir_fillRisks_22 ?_
      refine lv_aload_n hx hb d_Ir_fillRisks_25 rfl (lv_at hl 1 rfl) ?_
      refine gf_Ir_points hF hK hP m_134 d_Ir_fillRisks_26 ?_
      refine gn_Points_kinds hF hK hP mn_3 d_Ir_fillRisks_29 ?_
      refine lv_iload_n hx hb d_Ir_fillRisks_32 rfl (lv_at hl 0 rfl) ?_
      have k33 := h.1
      have h := h.2
      refine alI_7 hF hK hP k33 d_Ir_fillRisks_33 ?_
      have k34 := h.1
      have h := h.2
      refine alI_2 hF hK hP k34 d_Ir_fillRisks_34 ?_
      refine lv_aload_n hx hb d_Ir_fillRisks_35 rfl (lv_at hl 1 rfl) ?_
      refine gf_Ir_points hF hK hP m_134 d_Ir_fillRisks_36 ?_
      refine gn_Points_ownRisks hF hK hP mn_4 d_Ir_fillRisks_39 ?_
      refine lv_iload_n hx hb d_Ir_fillRisks_42 rfl (lv_at hl 0 rfl) ?_
      have k43 := h.1
      have h := h.2
      refine alI_8 hF hK hP k43 d_Ir_fillRisks_43 ?_
      refine lv_iadd hx hb d_Ir_fillRisks_44 ?_
      have k45 := h.1
      have h := h.2
      refine asI_37 hF hK hP hL hS k45 d_Ir_fillRisks_45 (fun H locs hP hS => ?_)
      refine lv_iinc (v := v1 + 1) (lv' := [(1, .int (v1 + 1)), (0, .ref (L 0))]) hx hb d_Ir_fillRisks_46 hl (k := 0) rfl rfl (by decide) rfl (fun ls hl => ?_)
      refine lv_goto (tgt := 2) hx hb d_Ir_fillRisks_49 (by decide) ?_
      have hv : g_Ir_fillRisks_2 (n + 1) v1 ar sc = g_Ir_fillRisks_2 n (v1 + 1) (s2 ar 37 v1.toNatClampNeg ((ar 2 ((ar 7 v1.toNatClampNeg).toNatClampNeg)) + (ar 8 v1.toNatClampNeg))) sc := by rw [g_Ir_fillRisks_2, if_neg c10]
      rw [hv] at hk
      exact ih (v1 + 1) (s2 ar 37 v1.toNatClampNeg ((ar 2 ((ar 7 v1.toNatClampNeg).toNatClampNeg)) + (ar 8 v1.toNatClampNeg))) sc h _ _ hP hS ls (lv_sub hl [0, 1] rfl) hk
set_option maxHeartbeats 4000000 in
set_option maxRecDepth 100000 in
theorem l_Ir_fillRisks_54 {p : Program} {l : Launch} {e : Env} {s : State} {m : MethodId} {args : Array Value} {below : List Frame} {meth : Method} {c : Code} {dC : Nat → ClassId} {dI : Nat → Nat → Nat} {L : Nat → Nat} {cA : Nat → ClassId} {Q : State → Prop}   (hF : CallFix p m c b_Ir_fillRisks 2 s args w_all R_Ir) (hK : kW_I dC dI cA s) (hL : ij 38 L) : ∀ (n : Nat) (v1 : Int32) (ar : Nat → Nat → Int32) (sc : Nat → Int32), q_Ir_fillRisks_54 n v1 ar sc → ∀ (H : Heap) (locs : List Loc), va_P (dC, dI) classes (wI L cA ar sc) H → va_S (aI L) s.heap H locs → ∀ (ls : Array Slot), lv_has ls 2 [(1, .int v1), (0, .ref (L 0))] → (∀ (H : Heap) (locs : List Loc) (ls : Array Slot), va_P (dC, dI) classes (wI L cA ((g_Ir_fillRisks_54 n v1 ar sc).2.1) ((g_Ir_fillRisks_54 n v1 ar sc).2.2)) H → va_S (aI L) s.heap H locs → lv_has ls 2 [(1, .int ((g_Ir_fillRisks_54 n v1 ar sc).1)), (0, .ref (L 0))] → W p l e (rmD 3) s m args below meth c H locs 0 0 Q (F0 m 100 ls [])) → W p l e (rmD 3) s m args below meth c H locs 0 0 Q (F0 m 54 ls []) := by
  have hx := hF.1
  have hb := hF.2.1
  have hown := hF.2.2.2.1
  have hts := hF.2.2.2.2
  intro n
  induction n with
  | zero => intro v1 ar sc h; exact False.elim h
  | succ n ih =>
    intro v1 ar sc h H locs hP hS ls hl hk
    rw [q_Ir_fillRisks_54] at h
    refine lv_iload_n hx hb d_Ir_fillRisks_54 rfl (lv_at hl 0 rfl) ?_
    refine lv_aload_n hx hb d_Ir_fillRisks_55 rfl (lv_at hl 1 rfl) ?_
    refine gf_Ir_findings hF hK hP m_138 d_Ir_fillRisks_56 ?_
    refine gn_Findings_count hF hK hP mn_1 d_Ir_fillRisks_59 ?_
    refine lv_icmp_ge (tgt := 100) hx hb d_Ir_fillRisks_62 (by decide) (fun c62 => ?_) (fun c62 => ?_)
    · have h := h.1 c62
      have hv : g_Ir_fillRisks_54 (n + 1) v1 ar sc = ((v1, ar, sc) : Int32 × (Nat → Nat → Int32) × (Nat → Int32)) := by rw [g_Ir_fillRisks_54, if_pos c62]
      rw [hv] at hk
      exact hk _ _ ls hP hS (lv_sub hl [0, 1] rfl)
    · have h := h.2 c62
      refine lv_aload_n hx hb d_Ir_fillRisks_65 rfl (lv_at hl 1 rfl) ?_
      refine gf_Ir_risks hF hK hP m_157 d_Ir_fillRisks_66 ?_
      refine lv_aload_n hx hb d_Ir_fillRisks_69 rfl (lv_at hl 1 rfl) ?_
      refine gf_Ir_findings hF hK hP m_138 d_Ir_fillRisks_70 ?_
      refine gn_Findings_points hF hK hP mn_5 d_Ir_fillRisks_73 ?_
      refine lv_iload_n hx hb d_Ir_fillRisks_76 rfl (lv_at hl 0 rfl) ?_
      have k77 := h.1
      have h := h.2
      refine alI_13 hF hK hP k77 d_Ir_fillRisks_77 ?_
      refine lv_dup2_11 hx hb d_Ir_fillRisks_78 rfl rfl ?_
      have k79 := h.1
      have h := h.2
      refine alI_37 hF hK hP k79 d_Ir_fillRisks_79 ?_
      refine lv_aload_n hx hb d_Ir_fillRisks_80 rfl (lv_at hl 1 rfl) ?_
      refine gf_Ir_findings hF hK hP m_138 d_Ir_fillRisks_81 ?_
      refine lv_iload_n hx hb d_Ir_fillRisks_84 rfl (lv_at hl 0 rfl) ?_
      refine lv_aload_n hx hb d_Ir_fillRisks_85 rfl (lv_at hl 1 rfl) ?_
      refine gf_Ir_today hF hK hP m_159 d_Ir_fillRisks_86 ?_
      have k89 := h.1
      have h := h.2
      refine r_Findings_riskOn hF hK hP k89 m_160 hl.1 ⟨Nat.le_of_ble_eq_true rfl, Nat.le_of_ble_eq_true rfl⟩ ⟨Nat.zero_le _, Nat.zero_le _⟩ (Nat.le_of_ble_eq_true rfl) d_Ir_fillRisks_89 ?_
      refine lv_iadd hx hb d_Ir_fillRisks_92 ?_
      have k93 := h.1
      have h := h.2
      refine asI_37 hF hK hP hL hS k93 d_Ir_fillRisks_93 (fun H locs hP hS => ?_)
      refine lv_iinc (v := v1 + 1) (lv' := [(1, .int (v1 + 1)), (0, .ref (L 0))]) hx hb d_Ir_fillRisks_94 hl (k := 0) rfl rfl (by decide) rfl (fun ls hl => ?_)
      refine lv_goto (tgt := 54) hx hb d_Ir_fillRisks_97 (by decide) ?_
      have hv : g_Ir_fillRisks_54 (n + 1) v1 ar sc = g_Ir_fillRisks_54 n (v1 + 1) (s2 ar 37 ((ar 13 v1.toNatClampNeg).toNatClampNeg) ((ar 37 ((ar 13 v1.toNatClampNeg).toNatClampNeg)) + (f_Findings_riskOn ar sc v1 (sc 0)))) sc := by rw [g_Ir_fillRisks_54, if_neg c62]
      rw [hv] at hk
      exact ih (v1 + 1) (s2 ar 37 ((ar 13 v1.toNatClampNeg).toNatClampNeg) ((ar 37 ((ar 13 v1.toNatClampNeg).toNatClampNeg)) + (f_Findings_riskOn ar sc v1 (sc 0)))) sc h _ _ hP hS ls (lv_sub hl [0, 1] rfl) hk
set_option maxHeartbeats 4000000 in
set_option maxRecDepth 100000 in
theorem c_Ir_fillRisks (l : Launch) (dC : Nat → ClassId) (dI : Nat → Nat → Nat) (L : Nat → Nat) (cA : Nat → ClassId) (ar : Nat → Nat → Int32) (sc : Nat → Int32) (hL : ij 38 L) (h : p_Ir_fillRisks ar sc ) : Met l y_Ir_fillRisks z_Ir_fillRisks (rmD 3) (va_Pc [.ref (L 0)] (fun U => xw_I dC dI L cA ar sc U)) (va_Qv (fun u : oS => (u.1, u.2) = f_Ir_fillRisks ar sc ) (fun u t => va_P (dC, dI) classes (wI L cA u.1 u.2) t.heap) (aI L)) 0 0 (aI L) := by
  refine Met.ofW (cc := b_Ir_fillRisks) (maxL := 2) (ret := none) (by decide) rfl ?_
  intro p e s m args below meth c s₁ B hml hv
  obtain ⟨rfl, ⟨hP, hK⟩⟩ := hv
  have hx := B.exec
  have hb := B.bytes
  have hr := B.returns
  have hts : ∀ w ∈ w_all, w.before _ s = true := fun w hw => atoms_spec (ws := z_Ir_fillRisks) B.pre w (List.mem_cons_of_mem _ hw)
  have hown : s.vm.findClass R_Ir = some m.cls := findClass_of_methodNamed B.named
  have hlocks := B.notSynchronized
  have hF : CallFix p m c b_Ir_fillRisks 2 s _ w_all R_Ir := ⟨hx, hb, hml, hown, hts⟩
  have hS : va_S (aI L) s.heap s.heap [] := va_S.rf
  have hl := lv_entry ([.ref (L 0)]) (n := 2) (Nat.le_of_ble_eq_true rfl)
  rw [lg_entry_eq]
  generalize (lg_sl ([.ref (L 0)]) ++ List.replicate (2 - (lg_sl ([.ref (L 0)])).length) Slot.unset).toArray = ls at hl ⊢
  have hl : lv_has ls 2 [(0, .ref (L 0))] := hl
  unfold p_Ir_fillRisks at h
  refine lv_iconst (v := 0) hx hb d_Ir_fillRisks_0 (by decide) ?_
  refine lv_istore_n (lv' := [(1, .int 0), (0, .ref (L 0))]) hx hb d_Ir_fillRisks_1 rfl hl (by decide) rfl (fun ls hl => ?_)
  have kL2 := h.1
  have h := h.2
  refine l_Ir_fillRisks_2 hF hK hL 200 0 ar sc kL2 _ _ hP hS ls (lv_sub hl [0, 1] rfl) (fun H locs ls hP hS hl => ?_)
  refine lv_iconst (v := 0) hx hb d_Ir_fillRisks_52 (by decide) ?_
  refine lv_istore_n (lv' := [(1, .int 0), (0, .ref (L 0))]) hx hb d_Ir_fillRisks_53 rfl hl (by decide) rfl (fun ls hl => ?_)
  have kL54 := h
  refine l_Ir_fillRisks_54 hF hK hL 200 0 ((g_Ir_fillRisks_2 200 0 ar sc).2.1) ((g_Ir_fillRisks_2 200 0 ar sc).2.2) kL54 _ _ hP hS ls (lv_sub hl [0, 1] rfl) (fun H locs ls hP hS hl => ?_)
  have hv : (((g_Ir_fillRisks_54 200 0 ((g_Ir_fillRisks_2 200 0 ar sc).2.1) ((g_Ir_fillRisks_2 200 0 ar sc).2.2)).2.1, (g_Ir_fillRisks_54 200 0 ((g_Ir_fillRisks_2 200 0 ar sc).2.1) ((g_Ir_fillRisks_2 200 0 ar sc).2.2)).2.2) : (Nat → Nat → Int32) × (Nat → Int32)) = f_Ir_fillRisks ar sc  := by rw [f_Ir_fillRisks]
  exact W.vret hx hb hr (fun t ht hW => ⟨⟨((g_Ir_fillRisks_54 200 0 ((g_Ir_fillRisks_2 200 0 ar sc).2.1) ((g_Ir_fillRisks_2 200 0 ar sc).2.2)).2.1, (g_Ir_fillRisks_54 200 0 ((g_Ir_fillRisks_2 200 0 ar sc).2.1) ((g_Ir_fillRisks_2 200 0 ar sc).2.2)).2.2), rfl, hv, by dsimp only; rw [ht]; exact hP⟩, hS.F ht⟩) hS.2.2 d_Ir_fillRisks_100
set_option maxHeartbeats 1000000 in
theorem r_Ir_fillRisks {p : Program} {l : Launch} {e : Env} {R : Room} {s : State} {m : MethodId} {args : Array Value} {below : List Frame} {meth : Method} {c : Code} {H : Heap} {locs : List Loc} {cells slots : Nat} {Q : State → Prop} {cc : ByteArray} {nL pc idx : Nat} {ls : Array Slot} {rest : List Value} {own : String} {dC : Nat → ClassId} {dI : Nat → Nat → Nat} {L : Nat → Nat} {cA : Nat → ClassId} {ar : Nat → Nat → Int32} {sc : Nat → Int32} {H0 : Heap}  (hF : CallFix p m c cc nL s args w_all own) (hK : kW_I dC dI cA s) (hP : va_P (dC, dI) classes (wI L cA ar sc) H) (hL : ij 38 L) (hS : va_S (aI L) H0 H locs) (h : p_Ir_fillRisks ar sc ) (hlk : Cond.methodLink own idx y_Ir_fillRisks ∈ w_all) (hsz : ls.size = nL) (hR : (rmD 3).frames + 1 ≤ R.frames ∧ 8 + (2 + 11) + (rmD 3).locals ≤ R.locals) (hc : cells ≤ R.cells ∧ slots ≤ R.slots) (hrs : (rest.map fun v => v.category).sum ≤ 8) (hdg : decode cc pc = .ok (.invokevirtual idx, 3)) (kk : ∀ (H1 : Heap) (locs1 : List Loc), va_P (dC, dI) classes (wI L cA ((f_Ir_fillRisks ar sc ).1) ((f_Ir_fillRisks ar sc ).2)) H1 → va_S (aI L) H0 H1 locs1 → W p l e R s m args below meth c H1 locs1 cells slots Q (F0 m (pc + 3) ls (rest))) : W p l e R s m args below meth c H locs cells slots Q (F0 m pc ls (.ref (L 0) :: rest)) :=
  va_callv (va_runV (As := []) (rest := rest) hF (c_Ir_fillRisks l dC dI L cA ar sc  hL h) (cwV 0 hF.2.2.2.2 (gV hlk m_161 m_162 m_129 m_163) rfl rfl rfl (by decide +kernel) hR) ⟨xb_I, va_recv hK.1 hP (ci := 0) (q0 := 0) rfl rfl, fun U hU hW => ⟨rfl, by rw [hU]; exact hP, kW_I_warm hW hK⟩⟩ rfl rfl hsz rfl (lv_room hrs) hdg hc) hS (fun q _ h9 => h9) (fun q h9 => h9) (fun u t H1 locs1 ht hvm hw hB hz1 hk1 hS1 => by
    have hk9 := kk H1 locs1 (by rw [← hw, ← ht]; exact hB) hS1
    exact hk9)
theorem d_Ir_riskOf_0 : decode b_Ir_riskOf 0 = .ok (.aload_n 0, 1) := by decide +kernel
theorem d_Ir_riskOf_1 : decode b_Ir_riskOf 1 = .ok (.invokevirtual 136, 3) := by decide +kernel
theorem d_Ir_riskOf_4 : decode b_Ir_riskOf 4 = .ok (.aload_n 0, 1) := by decide +kernel
theorem d_Ir_riskOf_5 : decode b_Ir_riskOf 5 = .ok (.getfield 51, 3) := by decide +kernel
theorem d_Ir_riskOf_8 : decode b_Ir_riskOf 8 = .ok (.iload_n 1, 1) := by decide +kernel
theorem d_Ir_riskOf_9 : decode b_Ir_riskOf 9 = .ok (.iaload, 1) := by decide +kernel
theorem d_Ir_riskOf_10 : decode b_Ir_riskOf 10 = .ok (.ireturn, 1) := by decide +kernel
set_option maxHeartbeats 4000000 in
set_option maxRecDepth 100000 in
theorem c_Ir_riskOf (l : Launch) (dC : Nat → ClassId) (dI : Nat → Nat → Nat) (L : Nat → Nat) (cA : Nat → ClassId) (ar : Nat → Nat → Int32) (sc : Nat → Int32) (a0 : Int32) (hL : ij 38 L) (h : p_Ir_riskOf ar sc a0) : Met l y_Ir_riskOf z_Ir_riskOf (rmD 4) (va_Pc [.ref (L 0), .int a0] (fun U => xw_I dC dI L cA ar sc U)) (va_Qi (fun (r : Int32) (u : oS) => (r, u.1, u.2) = f_Ir_riskOf ar sc a0) (fun u t => va_P (dC, dI) classes (wI L cA u.1 u.2) t.heap) (aI L)) 0 0 (aI L) := by
  refine Met.ofW (cc := b_Ir_riskOf) (maxL := 2) (ret := (some .int)) (by decide) rfl ?_
  intro p e s m args below meth c s₁ B hml hv
  obtain ⟨rfl, ⟨hP, hK⟩⟩ := hv
  have hx := B.exec
  have hb := B.bytes
  have hr := B.returns
  have hts : ∀ w ∈ w_all, w.before _ s = true := fun w hw => atoms_spec (ws := z_Ir_riskOf) B.pre w (List.mem_cons_of_mem _ hw)
  have hown : s.vm.findClass R_Ir = some m.cls := findClass_of_methodNamed B.named
  have hlocks := B.notSynchronized
  have hF : CallFix p m c b_Ir_riskOf 2 s _ w_all R_Ir := ⟨hx, hb, hml, hown, hts⟩
  have hS : va_S (aI L) s.heap s.heap [] := va_S.rf
  have hl := lv_entry ([.ref (L 0), .int a0]) (n := 2) (Nat.le_of_ble_eq_true rfl)
  rw [lg_entry_eq]
  generalize (lg_sl ([.ref (L 0), .int a0]) ++ List.replicate (2 - (lg_sl ([.ref (L 0), .int a0])).length) Slot.unset).toArray = ls at hl ⊢
  have hl : lv_has ls 2 [(0, .ref (L 0)), (1, .int a0)] := hl
  unfold p_Ir_riskOf at h
  refine lv_aload_n hx hb d_Ir_riskOf_0 rfl (lv_at hl 0 rfl) ?_
  have k1 := h.1
  have h := h.2
  refine r_Ir_fillRisks hF hK hP hL hS k1 m_164 hl.1 ⟨Nat.le_of_ble_eq_true rfl, Nat.le_of_ble_eq_true rfl⟩ ⟨Nat.zero_le _, Nat.zero_le _⟩ (Nat.le_of_ble_eq_true rfl) d_Ir_riskOf_1 (fun H locs hP hS => ?_)
  refine lv_aload_n hx hb d_Ir_riskOf_4 rfl (lv_at hl 0 rfl) ?_
  refine gf_Ir_risks hF hK hP m_157 d_Ir_riskOf_5 ?_
  refine lv_iload_n hx hb d_Ir_riskOf_8 rfl (lv_at hl 1 rfl) ?_
  have k9 := h
  refine alI_37 hF hK hP k9 d_Ir_riskOf_9 ?_
  have hv : ((((f_Ir_fillRisks ar sc ).1) 37 a0.toNatClampNeg, (f_Ir_fillRisks ar sc ).1, (f_Ir_fillRisks ar sc ).2) : Int32 × (Nat → Nat → Int32) × (Nat → Int32)) = f_Ir_riskOf ar sc a0 := by rw [f_Ir_riskOf]
  exact W.iret (v := ((f_Ir_fillRisks ar sc ).1) 37 a0.toNatClampNeg) hx hb hr (fun t ht hW => ⟨⟨((f_Ir_fillRisks ar sc ).1) 37 a0.toNatClampNeg, ((f_Ir_fillRisks ar sc ).1, (f_Ir_fillRisks ar sc ).2), rfl, hv, by dsimp only; rw [ht]; exact hP⟩, hS.F ht⟩) hS.2.2 d_Ir_riskOf_10
set_option maxHeartbeats 1000000 in
theorem r_Ir_riskOf {p : Program} {l : Launch} {e : Env} {R : Room} {s : State} {m : MethodId} {args : Array Value} {below : List Frame} {meth : Method} {c : Code} {H : Heap} {locs : List Loc} {cells slots : Nat} {Q : State → Prop} {cc : ByteArray} {nL pc idx : Nat} {ls : Array Slot} {rest : List Value} {own : String} {dC : Nat → ClassId} {dI : Nat → Nat → Nat} {L : Nat → Nat} {cA : Nat → ClassId} {ar : Nat → Nat → Int32} {sc : Nat → Int32} {H0 : Heap} {a0 : Int32} (hF : CallFix p m c cc nL s args w_all own) (hK : kW_I dC dI cA s) (hP : va_P (dC, dI) classes (wI L cA ar sc) H) (hL : ij 38 L) (hS : va_S (aI L) H0 H locs) (h : p_Ir_riskOf ar sc a0) (hlk : Cond.methodLink own idx y_Ir_riskOf ∈ w_all) (hsz : ls.size = nL) (hR : (rmD 4).frames + 1 ≤ R.frames ∧ 8 + (2 + 11) + (rmD 4).locals ≤ R.locals) (hc : cells ≤ R.cells ∧ slots ≤ R.slots) (hrs : (rest.map fun v => v.category).sum ≤ 8) (hdg : decode cc pc = .ok (.invokevirtual idx, 3)) (kk : ∀ (H1 : Heap) (locs1 : List Loc), va_P (dC, dI) classes (wI L cA ((f_Ir_riskOf ar sc a0).2.1) ((f_Ir_riskOf ar sc a0).2.2)) H1 → va_S (aI L) H0 H1 locs1 → W p l e R s m args below meth c H1 locs1 cells slots Q (F0 m (pc + 3) ls (.int (f_Ir_riskOf ar sc a0).1 :: rest))) : W p l e R s m args below meth c H locs cells slots Q (F0 m pc ls (.int a0 :: .ref (L 0) :: rest)) :=
  va_calli (va_runV (As := [.int a0]) (rest := rest) hF (c_Ir_riskOf l dC dI L cA ar sc a0 hL h) (cwV 1 hF.2.2.2.2 (gV hlk m_165 m_166 m_129 m_167) rfl rfl rfl (by decide +kernel) hR) ⟨xb_I, va_recv hK.1 hP (ci := 0) (q0 := 0) rfl rfl, fun U hU hW => ⟨rfl, by rw [hU]; exact hP, kW_I_warm hW hK⟩⟩ rfl rfl hsz rfl (lv_room hrs) hdg hc) hS (fun q _ h9 => h9) (fun q h9 => h9) (fun r u t H1 locs1 ht hvm hw hB hz1 hk1 hS1 => by
    have hk9 := kk H1 locs1 (by rw [← hw, ← ht]; exact hB) hS1
    rw [← hw] at hk9
    exact hk9)
theorem d_Ir_classOf_0 : decode b_Ir_classOf 0 = .ok (.aload_n 0, 1) := by decide +kernel
theorem d_Ir_classOf_1 : decode b_Ir_classOf 1 = .ok (.getfield 10, 3) := by decide +kernel
theorem d_Ir_classOf_4 : decode b_Ir_classOf 4 = .ok (.aload_n 0, 1) := by decide +kernel
theorem d_Ir_classOf_5 : decode b_Ir_classOf 5 = .ok (.iload_n 1, 1) := by decide +kernel
theorem d_Ir_classOf_6 : decode b_Ir_classOf 6 = .ok (.invokevirtual 133, 3) := by decide +kernel
theorem d_Ir_classOf_9 : decode b_Ir_classOf 9 = .ok (.invokevirtual 258, 3) := by decide +kernel
theorem d_Ir_classOf_12 : decode b_Ir_classOf 12 = .ok (.ireturn, 1) := by decide +kernel
set_option maxHeartbeats 4000000 in
set_option maxRecDepth 100000 in
theorem c_Ir_classOf (l : Launch) (dC : Nat → ClassId) (dI : Nat → Nat → Nat) (L : Nat → Nat) (cA : Nat → ClassId) (ar : Nat → Nat → Int32) (sc : Nat → Int32) (a0 : Int32) (hL : ij 38 L) (h : p_Ir_classOf ar sc a0) : Met l y_Ir_classOf z_Ir_classOf (rmD 5) (va_Pc [.ref (L 0), .int a0] (fun U => xw_I dC dI L cA ar sc U)) (va_Qi (fun (r : Int32) (u : oS) => (r, u.1, u.2) = f_Ir_classOf ar sc a0) (fun u t => va_P (dC, dI) classes (wI L cA u.1 u.2) t.heap) (aI L)) 0 0 (aI L) := by
  refine Met.ofW (cc := b_Ir_classOf) (maxL := 2) (ret := (some .int)) (by decide) rfl ?_
  intro p e s m args below meth c s₁ B hml hv
  obtain ⟨rfl, ⟨hP, hK⟩⟩ := hv
  have hx := B.exec
  have hb := B.bytes
  have hr := B.returns
  have hts : ∀ w ∈ w_all, w.before _ s = true := fun w hw => atoms_spec (ws := z_Ir_classOf) B.pre w (List.mem_cons_of_mem _ hw)
  have hown : s.vm.findClass R_Ir = some m.cls := findClass_of_methodNamed B.named
  have hlocks := B.notSynchronized
  have hF : CallFix p m c b_Ir_classOf 2 s _ w_all R_Ir := ⟨hx, hb, hml, hown, hts⟩
  have hS : va_S (aI L) s.heap s.heap [] := va_S.rf
  have hl := lv_entry ([.ref (L 0), .int a0]) (n := 2) (Nat.le_of_ble_eq_true rfl)
  rw [lg_entry_eq]
  generalize (lg_sl ([.ref (L 0), .int a0]) ++ List.replicate (2 - (lg_sl ([.ref (L 0), .int a0])).length) Slot.unset).toArray = ls at hl ⊢
  have hl : lv_has ls 2 [(0, .ref (L 0)), (1, .int a0)] := hl
  unfold p_Ir_classOf at h
  refine lv_aload_n hx hb d_Ir_classOf_0 rfl (lv_at hl 0 rfl) ?_
  refine gf_Ir_scale hF hK hP m_158 d_Ir_classOf_1 ?_
  refine lv_aload_n hx hb d_Ir_classOf_4 rfl (lv_at hl 0 rfl) ?_
  refine lv_iload_n hx hb d_Ir_classOf_5 rfl (lv_at hl 1 rfl) ?_
  have k6 := h.1
  have h := h.2
  refine r_Ir_riskOf hF hK hP hL hS k6 m_168 hl.1 ⟨Nat.le_of_ble_eq_true rfl, Nat.le_of_ble_eq_true rfl⟩ ⟨Nat.zero_le _, Nat.zero_le _⟩ (Nat.le_of_ble_eq_true rfl) d_Ir_classOf_6 (fun H locs hP hS => ?_)
  have k9 := h
  refine r_Scale_classFor hF hK hP k9 m_169 hl.1 ⟨Nat.le_of_ble_eq_true rfl, Nat.le_of_ble_eq_true rfl⟩ ⟨Nat.zero_le _, Nat.zero_le _⟩ (Nat.le_of_ble_eq_true rfl) d_Ir_classOf_9 ?_
  have hv : ((f_Scale_classFor ((f_Ir_riskOf ar sc a0).2.1) ((f_Ir_riskOf ar sc a0).2.2) ((f_Ir_riskOf ar sc a0).1), (f_Ir_riskOf ar sc a0).2.1, (f_Ir_riskOf ar sc a0).2.2) : Int32 × (Nat → Nat → Int32) × (Nat → Int32)) = f_Ir_classOf ar sc a0 := by rw [f_Ir_classOf]
  exact W.iret (v := f_Scale_classFor ((f_Ir_riskOf ar sc a0).2.1) ((f_Ir_riskOf ar sc a0).2.2) ((f_Ir_riskOf ar sc a0).1)) hx hb hr (fun t ht hW => ⟨⟨f_Scale_classFor ((f_Ir_riskOf ar sc a0).2.1) ((f_Ir_riskOf ar sc a0).2.2) ((f_Ir_riskOf ar sc a0).1), ((f_Ir_riskOf ar sc a0).2.1, (f_Ir_riskOf ar sc a0).2.2), rfl, hv, by dsimp only; rw [ht]; exact hP⟩, hS.F ht⟩) hS.2.2 d_Ir_classOf_12
set_option maxHeartbeats 1000000 in
theorem r_Ir_classOf {p : Program} {l : Launch} {e : Env} {R : Room} {s : State} {m : MethodId} {args : Array Value} {below : List Frame} {meth : Method} {c : Code} {H : Heap} {locs : List Loc} {cells slots : Nat} {Q : State → Prop} {cc : ByteArray} {nL pc idx : Nat} {ls : Array Slot} {rest : List Value} {own : String} {dC : Nat → ClassId} {dI : Nat → Nat → Nat} {L : Nat → Nat} {cA : Nat → ClassId} {ar : Nat → Nat → Int32} {sc : Nat → Int32} {H0 : Heap} {a0 : Int32} (hF : CallFix p m c cc nL s args w_all own) (hK : kW_I dC dI cA s) (hP : va_P (dC, dI) classes (wI L cA ar sc) H) (hL : ij 38 L) (hS : va_S (aI L) H0 H locs) (h : p_Ir_classOf ar sc a0) (hlk : Cond.methodLink own idx y_Ir_classOf ∈ w_all) (hsz : ls.size = nL) (hR : (rmD 5).frames + 1 ≤ R.frames ∧ 8 + (2 + 11) + (rmD 5).locals ≤ R.locals) (hc : cells ≤ R.cells ∧ slots ≤ R.slots) (hrs : (rest.map fun v => v.category).sum ≤ 8) (hdg : decode cc pc = .ok (.invokevirtual idx, 3)) (kk : ∀ (H1 : Heap) (locs1 : List Loc), va_P (dC, dI) classes (wI L cA ((f_Ir_classOf ar sc a0).2.1) ((f_Ir_classOf ar sc a0).2.2)) H1 → va_S (aI L) H0 H1 locs1 → W p l e R s m args below meth c H1 locs1 cells slots Q (F0 m (pc + 3) ls (.int (f_Ir_classOf ar sc a0).1 :: rest))) : W p l e R s m args below meth c H locs cells slots Q (F0 m pc ls (.int a0 :: .ref (L 0) :: rest)) :=
  va_calli (va_runV (As := [.int a0]) (rest := rest) hF (c_Ir_classOf l dC dI L cA ar sc a0 hL h) (cwV 1 hF.2.2.2.2 (gV hlk m_170 m_171 m_129 m_172) rfl rfl rfl (by decide +kernel) hR) ⟨xb_I, va_recv hK.1 hP (ci := 0) (q0 := 0) rfl rfl, fun U hU hW => ⟨rfl, by rw [hU]; exact hP, kW_I_warm hW hK⟩⟩ rfl rfl hsz rfl (lv_room hrs) hdg hc) hS (fun q _ h9 => h9) (fun q h9 => h9) (fun r u t H1 locs1 ht hvm hw hB hz1 hk1 hS1 => by
    have hk9 := kk H1 locs1 (by rw [← hw, ← ht]; exact hB) hS1
    rw [← hw] at hk9
    exact hk9)
theorem d_Ir_firstDueDay_0 : decode b_Ir_firstDueDay 0 = .ok (.aload_n 0, 1) := by decide +kernel
theorem d_Ir_firstDueDay_1 : decode b_Ir_firstDueDay 1 = .ok (.getfield 19, 3) := by decide +kernel
theorem d_Ir_firstDueDay_4 : decode b_Ir_firstDueDay 4 = .ok (.getfield 101, 3) := by decide +kernel
theorem d_Ir_firstDueDay_7 : decode b_Ir_firstDueDay 7 = .ok (.iload_n 1, 1) := by decide +kernel
theorem d_Ir_firstDueDay_8 : decode b_Ir_firstDueDay 8 = .ok (.iaload, 1) := by decide +kernel
theorem d_Ir_firstDueDay_9 : decode b_Ir_firstDueDay 9 = .ok (.istore_n 2, 1) := by decide +kernel
theorem d_Ir_firstDueDay_10 : decode b_Ir_firstDueDay 10 = .ok (.iload_n 2, 1) := by decide +kernel
theorem d_Ir_firstDueDay_11 : decode b_Ir_firstDueDay 11 = .ok (.iconst (-1), 1) := by decide +kernel
theorem d_Ir_firstDueDay_12 : decode b_Ir_firstDueDay 12 = .ok (.if_icmp .ne 7, 3) := by decide +kernel
theorem d_Ir_firstDueDay_15 : decode b_Ir_firstDueDay 15 = .ok (.iconst 0, 1) := by decide +kernel
theorem d_Ir_firstDueDay_16 : decode b_Ir_firstDueDay 16 = .ok (.goto 26, 3) := by decide +kernel
theorem d_Ir_firstDueDay_19 : decode b_Ir_firstDueDay 19 = .ok (.iload_n 2, 1) := by decide +kernel
theorem d_Ir_firstDueDay_20 : decode b_Ir_firstDueDay 20 = .ok (.aload_n 0, 1) := by decide +kernel
theorem d_Ir_firstDueDay_21 : decode b_Ir_firstDueDay 21 = .ok (.getfield 10, 3) := by decide +kernel
theorem d_Ir_firstDueDay_24 : decode b_Ir_firstDueDay 24 = .ok (.getfield 81, 3) := by decide +kernel
theorem d_Ir_firstDueDay_27 : decode b_Ir_firstDueDay 27 = .ok (.aload_n 0, 1) := by decide +kernel
theorem d_Ir_firstDueDay_28 : decode b_Ir_firstDueDay 28 = .ok (.getfield 10, 3) := by decide +kernel
theorem d_Ir_firstDueDay_31 : decode b_Ir_firstDueDay 31 = .ok (.aload_n 0, 1) := by decide +kernel
theorem d_Ir_firstDueDay_32 : decode b_Ir_firstDueDay 32 = .ok (.getfield 51, 3) := by decide +kernel
theorem d_Ir_firstDueDay_35 : decode b_Ir_firstDueDay 35 = .ok (.iload_n 1, 1) := by decide +kernel
theorem d_Ir_firstDueDay_36 : decode b_Ir_firstDueDay 36 = .ok (.iaload, 1) := by decide +kernel
theorem d_Ir_firstDueDay_37 : decode b_Ir_firstDueDay 37 = .ok (.invokevirtual 258, 3) := by decide +kernel
theorem d_Ir_firstDueDay_40 : decode b_Ir_firstDueDay 40 = .ok (.iaload, 1) := by decide +kernel
theorem d_Ir_firstDueDay_41 : decode b_Ir_firstDueDay 41 = .ok (.iadd, 1) := by decide +kernel
theorem d_Ir_firstDueDay_42 : decode b_Ir_firstDueDay 42 = .ok (.ireturn, 1) := by decide +kernel
set_option maxHeartbeats 4000000 in
set_option maxRecDepth 100000 in
theorem c_Ir_firstDueDay (l : Launch) (dC : Nat → ClassId) (dI : Nat → Nat → Nat) (L : Nat → Nat) (cA : Nat → ClassId) (ar : Nat → Nat → Int32) (sc : Nat → Int32) (a0 : Int32) (h : p_Ir_firstDueDay ar sc a0) : Met l y_Ir_firstDueDay z_Ir_firstDueDay (rmD 1) (va_Pc [.ref (L 0), .int a0] (fun U => xw_I dC dI L cA ar sc U)) (QcRead (f_Ir_firstDueDay ar sc a0)) 0 0 (fun _ => False) := by
  refine Met.ofW (cc := b_Ir_firstDueDay) (maxL := 3) (ret := (some .int)) (by decide) rfl ?_
  intro p e s m args below meth c s₁ B hml hv
  obtain ⟨rfl, ⟨hP, hK⟩⟩ := hv
  have hx := B.exec
  have hb := B.bytes
  have hr := B.returns
  have hts : ∀ w ∈ w_all, w.before _ s = true := fun w hw => atoms_spec (ws := z_Ir_firstDueDay) B.pre w (List.mem_cons_of_mem _ hw)
  have hown : s.vm.findClass R_Ir = some m.cls := findClass_of_methodNamed B.named
  have hlocks := B.notSynchronized
  have hF : CallFix p m c b_Ir_firstDueDay 3 s _ w_all R_Ir := ⟨hx, hb, hml, hown, hts⟩
  have hl := lv_entry ([.ref (L 0), .int a0]) (n := 3) (Nat.le_of_ble_eq_true rfl)
  rw [lg_entry_eq]
  generalize (lg_sl ([.ref (L 0), .int a0]) ++ List.replicate (3 - (lg_sl ([.ref (L 0), .int a0])).length) Slot.unset).toArray = ls at hl ⊢
  have hl : lv_has ls 3 [(0, .ref (L 0)), (1, .int a0)] := hl
  unfold p_Ir_firstDueDay at h
  refine lv_aload_n hx hb d_Ir_firstDueDay_0 rfl (lv_at hl 0 rfl) ?_
  refine gf_Ir_points hF hK hP m_134 d_Ir_firstDueDay_1 ?_
  refine gn_Points_visits hF hK hP mn_6 d_Ir_firstDueDay_4 ?_
  refine lv_iload_n hx hb d_Ir_firstDueDay_7 rfl (lv_at hl 1 rfl) ?_
  have k8 := h.1
  have h := h.2
  refine alI_11 hF hK hP k8 d_Ir_firstDueDay_8 ?_
  refine lv_istore_n (lv' := [(2, .int (ar 11 a0.toNatClampNeg)), (0, .ref (L 0)), (1, .int a0)]) hx hb d_Ir_firstDueDay_9 rfl hl (by decide) rfl (fun ls hl => ?_)
  refine lv_iload_n hx hb d_Ir_firstDueDay_10 rfl (lv_at hl 0 rfl) ?_
  refine lv_iconst (v := (-1)) hx hb d_Ir_firstDueDay_11 (by decide) ?_
  refine lv_icmp_ne (tgt := 19) hx hb d_Ir_firstDueDay_12 (by decide) (fun c12 => ?_) (fun c12 => ?_)
  · have h := h.2 c12
    refine lv_iload_n hx hb d_Ir_firstDueDay_19 rfl (lv_at hl 0 rfl) ?_
    refine lv_aload_n hx hb d_Ir_firstDueDay_20 rfl (lv_at hl 1 rfl) ?_
    refine gf_Ir_scale hF hK hP m_158 d_Ir_firstDueDay_21 ?_
    refine gn_Scale_intervals hF hK hP mn_7 d_Ir_firstDueDay_24 ?_
    refine lv_aload_n hx hb d_Ir_firstDueDay_27 rfl (lv_at hl 1 rfl) ?_
    refine gf_Ir_scale hF hK hP m_158 d_Ir_firstDueDay_28 ?_
    refine lv_aload_n hx hb d_Ir_firstDueDay_31 rfl (lv_at hl 1 rfl) ?_
    refine gf_Ir_risks hF hK hP m_157 d_Ir_firstDueDay_32 ?_
    refine lv_iload_n hx hb d_Ir_firstDueDay_35 rfl (lv_at hl 2 rfl) ?_
    have k36 := h.1
    have h := h.2
    refine alI_37 hF hK hP k36 d_Ir_firstDueDay_36 ?_
    have k37 := h.1
    have h := h.2
    refine r_Scale_classFor hF hK hP k37 m_169 hl.1 ⟨Nat.le_of_ble_eq_true rfl, Nat.le_of_ble_eq_true rfl⟩ ⟨Nat.zero_le _, Nat.zero_le _⟩ (Nat.le_of_ble_eq_true rfl) d_Ir_firstDueDay_37 ?_
    have k40 := h
    refine alI_4 hF hK hP k40 d_Ir_firstDueDay_40 ?_
    refine lv_iadd hx hb d_Ir_firstDueDay_41 ?_
    have hv : ((ar 11 a0.toNatClampNeg) + (ar 4 ((f_Scale_classFor ar sc (ar 37 a0.toNatClampNeg)).toNatClampNeg)) : Int32) = f_Ir_firstDueDay ar sc a0 := by rw [f_Ir_firstDueDay, if_neg c12]
    exact W.iret (v := (ar 11 a0.toNatClampNeg) + (ar 4 ((f_Scale_classFor ar sc (ar 37 a0.toNatClampNeg)).toNatClampNeg))) hx hb hr (fun t ht hW => ⟨congrArg (fun z => Outcome.returned (some (Value.int z))) hv, ht⟩) (fun _ h9 => nomatch h9) d_Ir_firstDueDay_42
  · have h := h.1 c12
    refine lv_iconst (v := 0) hx hb d_Ir_firstDueDay_15 (by decide) ?_
    refine lv_goto (tgt := 42) hx hb d_Ir_firstDueDay_16 (by decide) ?_
    have hv : (0 : Int32) = f_Ir_firstDueDay ar sc a0 := by rw [f_Ir_firstDueDay, if_pos c12]
    exact W.iret (v := 0) hx hb hr (fun t ht hW => ⟨congrArg (fun z => Outcome.returned (some (Value.int z))) hv, ht⟩) (fun _ h9 => nomatch h9) d_Ir_firstDueDay_42
set_option maxHeartbeats 1000000 in
theorem r_Ir_firstDueDay {p : Program} {l : Launch} {e : Env} {R : Room} {s : State} {m : MethodId} {args : Array Value} {below : List Frame} {meth : Method} {c : Code} {H : Heap} {locs : List Loc} {cells slots : Nat} {Q : State → Prop} {cc : ByteArray} {nL pc idx : Nat} {ls : Array Slot} {rest : List Value} {own : String} {dC : Nat → ClassId} {dI : Nat → Nat → Nat} {L : Nat → Nat} {cA : Nat → ClassId} {ar : Nat → Nat → Int32} {sc : Nat → Int32} {a0 : Int32} (hF : CallFix p m c cc nL s args w_all own) (hK : kW_I dC dI cA s) (hP : va_P (dC, dI) classes (wI L cA ar sc) H) (h : p_Ir_firstDueDay ar sc a0) (hlk : Cond.methodLink own idx y_Ir_firstDueDay ∈ w_all) (hsz : ls.size = nL) (hR : (rmD 1).frames + 1 ≤ R.frames ∧ 8 + (3 + 11) + (rmD 1).locals ≤ R.locals) (hc : cells ≤ R.cells ∧ slots ≤ R.slots) (hrs : (rest.map fun v => v.category).sum ≤ 8) (hdg : decode cc pc = .ok (.invokevirtual idx, 3)) (kk : W p l e R s m args below meth c H locs cells slots Q (F0 m (pc + 3) ls (.int (f_Ir_firstDueDay ar sc a0) :: rest))) : W p l e R s m args below meth c H locs cells slots Q (F0 m pc ls (.int a0 :: .ref (L 0) :: rest)) :=
  W.callR (W.runV (As := [.int a0]) (rest := rest) hF (c_Ir_firstDueDay l dC dI L cA ar sc a0 h) (cwV 1 hF.2.2.2.2 (gV hlk m_173 m_174 m_129 m_175) rfl rfl rfl (by decide +kernel) hR) ⟨xb_I, va_recv hK.1 hP (ci := 0) (q0 := 0) rfl rfl, fun U hU hW => ⟨rfl, by rw [hU]; exact hP, kW_I_warm hW hK⟩⟩ rfl rfl hsz rfl (lv_room hrs) hdg hc) kk
theorem d_Ir_isAhead_0 : decode b_Ir_isAhead 0 = .ok (.aload_n 0, 1) := by decide +kernel
theorem d_Ir_isAhead_1 : decode b_Ir_isAhead 1 = .ok (.getfield 51, 3) := by decide +kernel
theorem d_Ir_isAhead_4 : decode b_Ir_isAhead 4 = .ok (.iload_n 1, 1) := by decide +kernel
theorem d_Ir_isAhead_5 : decode b_Ir_isAhead 5 = .ok (.iaload, 1) := by decide +kernel
theorem d_Ir_isAhead_6 : decode b_Ir_isAhead 6 = .ok (.aload_n 0, 1) := by decide +kernel
theorem d_Ir_isAhead_7 : decode b_Ir_isAhead 7 = .ok (.getfield 51, 3) := by decide +kernel
theorem d_Ir_isAhead_10 : decode b_Ir_isAhead 10 = .ok (.iload_n 2, 1) := by decide +kernel
theorem d_Ir_isAhead_11 : decode b_Ir_isAhead 11 = .ok (.iaload, 1) := by decide +kernel
theorem d_Ir_isAhead_12 : decode b_Ir_isAhead 12 = .ok (.if_icmp .eq 24, 3) := by decide +kernel
theorem d_Ir_isAhead_15 : decode b_Ir_isAhead 15 = .ok (.aload_n 0, 1) := by decide +kernel
theorem d_Ir_isAhead_16 : decode b_Ir_isAhead 16 = .ok (.getfield 51, 3) := by decide +kernel
theorem d_Ir_isAhead_19 : decode b_Ir_isAhead 19 = .ok (.iload_n 1, 1) := by decide +kernel
theorem d_Ir_isAhead_20 : decode b_Ir_isAhead 20 = .ok (.iaload, 1) := by decide +kernel
theorem d_Ir_isAhead_21 : decode b_Ir_isAhead 21 = .ok (.aload_n 0, 1) := by decide +kernel
theorem d_Ir_isAhead_22 : decode b_Ir_isAhead 22 = .ok (.getfield 51, 3) := by decide +kernel
theorem d_Ir_isAhead_25 : decode b_Ir_isAhead 25 = .ok (.iload_n 2, 1) := by decide +kernel
theorem d_Ir_isAhead_26 : decode b_Ir_isAhead 26 = .ok (.iaload, 1) := by decide +kernel
theorem d_Ir_isAhead_27 : decode b_Ir_isAhead 27 = .ok (.if_icmp .le 7, 3) := by decide +kernel
theorem d_Ir_isAhead_30 : decode b_Ir_isAhead 30 = .ok (.iconst 1, 1) := by decide +kernel
theorem d_Ir_isAhead_31 : decode b_Ir_isAhead 31 = .ok (.goto 4, 3) := by decide +kernel
theorem d_Ir_isAhead_34 : decode b_Ir_isAhead 34 = .ok (.iconst 0, 1) := by decide +kernel
theorem d_Ir_isAhead_35 : decode b_Ir_isAhead 35 = .ok (.ireturn, 1) := by decide +kernel
theorem d_Ir_isAhead_36 : decode b_Ir_isAhead 36 = .ok (.aload_n 0, 1) := by decide +kernel
theorem d_Ir_isAhead_37 : decode b_Ir_isAhead 37 = .ok (.getfield 19, 3) := by decide +kernel
theorem d_Ir_isAhead_40 : decode b_Ir_isAhead 40 = .ok (.getfield 101, 3) := by decide +kernel
theorem d_Ir_isAhead_43 : decode b_Ir_isAhead 43 = .ok (.iload_n 1, 1) := by decide +kernel
theorem d_Ir_isAhead_44 : decode b_Ir_isAhead 44 = .ok (.iaload, 1) := by decide +kernel
theorem d_Ir_isAhead_45 : decode b_Ir_isAhead 45 = .ok (.aload_n 0, 1) := by decide +kernel
theorem d_Ir_isAhead_46 : decode b_Ir_isAhead 46 = .ok (.getfield 19, 3) := by decide +kernel
theorem d_Ir_isAhead_49 : decode b_Ir_isAhead 49 = .ok (.getfield 101, 3) := by decide +kernel
theorem d_Ir_isAhead_52 : decode b_Ir_isAhead 52 = .ok (.iload_n 2, 1) := by decide +kernel
theorem d_Ir_isAhead_53 : decode b_Ir_isAhead 53 = .ok (.iaload, 1) := by decide +kernel
theorem d_Ir_isAhead_54 : decode b_Ir_isAhead 54 = .ok (.if_icmp .eq 30, 3) := by decide +kernel
theorem d_Ir_isAhead_57 : decode b_Ir_isAhead 57 = .ok (.aload_n 0, 1) := by decide +kernel
theorem d_Ir_isAhead_58 : decode b_Ir_isAhead 58 = .ok (.getfield 19, 3) := by decide +kernel
theorem d_Ir_isAhead_61 : decode b_Ir_isAhead 61 = .ok (.getfield 101, 3) := by decide +kernel
theorem d_Ir_isAhead_64 : decode b_Ir_isAhead 64 = .ok (.iload_n 1, 1) := by decide +kernel
theorem d_Ir_isAhead_65 : decode b_Ir_isAhead 65 = .ok (.iaload, 1) := by decide +kernel
theorem d_Ir_isAhead_66 : decode b_Ir_isAhead 66 = .ok (.aload_n 0, 1) := by decide +kernel
theorem d_Ir_isAhead_67 : decode b_Ir_isAhead 67 = .ok (.getfield 19, 3) := by decide +kernel
theorem d_Ir_isAhead_70 : decode b_Ir_isAhead 70 = .ok (.getfield 101, 3) := by decide +kernel
theorem d_Ir_isAhead_73 : decode b_Ir_isAhead 73 = .ok (.iload_n 2, 1) := by decide +kernel
theorem d_Ir_isAhead_74 : decode b_Ir_isAhead 74 = .ok (.iaload, 1) := by decide +kernel
theorem d_Ir_isAhead_75 : decode b_Ir_isAhead 75 = .ok (.if_icmp .ge 7, 3) := by decide +kernel
theorem d_Ir_isAhead_78 : decode b_Ir_isAhead 78 = .ok (.iconst 1, 1) := by decide +kernel
theorem d_Ir_isAhead_79 : decode b_Ir_isAhead 79 = .ok (.goto 4, 3) := by decide +kernel
theorem d_Ir_isAhead_82 : decode b_Ir_isAhead 82 = .ok (.iconst 0, 1) := by decide +kernel
theorem d_Ir_isAhead_83 : decode b_Ir_isAhead 83 = .ok (.ireturn, 1) := by decide +kernel
theorem d_Ir_isAhead_84 : decode b_Ir_isAhead 84 = .ok (.iload_n 1, 1) := by decide +kernel
theorem d_Ir_isAhead_85 : decode b_Ir_isAhead 85 = .ok (.iload_n 2, 1) := by decide +kernel
theorem d_Ir_isAhead_86 : decode b_Ir_isAhead 86 = .ok (.if_icmp .ge 7, 3) := by decide +kernel
theorem d_Ir_isAhead_89 : decode b_Ir_isAhead 89 = .ok (.iconst 1, 1) := by decide +kernel
theorem d_Ir_isAhead_90 : decode b_Ir_isAhead 90 = .ok (.goto 4, 3) := by decide +kernel
theorem d_Ir_isAhead_93 : decode b_Ir_isAhead 93 = .ok (.iconst 0, 1) := by decide +kernel
theorem d_Ir_isAhead_94 : decode b_Ir_isAhead 94 = .ok (.ireturn, 1) := by decide +kernel
set_option maxHeartbeats 4000000 in
set_option maxRecDepth 100000 in
theorem c_Ir_isAhead (l : Launch) (dC : Nat → ClassId) (dI : Nat → Nat → Nat) (L : Nat → Nat) (cA : Nat → ClassId) (ar : Nat → Nat → Int32) (sc : Nat → Int32) (a0 : Int32) (a1 : Int32) (h : p_Ir_isAhead ar sc a0 a1) : Met l y_Ir_isAhead z_Ir_isAhead (rmD 0) (va_Pc [.ref (L 0), .int a0, .int a1] (fun U => xw_I dC dI L cA ar sc U)) (QcRead (f_Ir_isAhead ar sc a0 a1)) 0 0 (fun _ => False) := by
  refine Met.ofW (cc := b_Ir_isAhead) (maxL := 3) (ret := (some .boolean)) (by decide) rfl ?_
  intro p e s m args below meth c s₁ B hml hv
  obtain ⟨rfl, ⟨hP, hK⟩⟩ := hv
  have hx := B.exec
  have hb := B.bytes
  have hr := B.returns
  have hts : ∀ w ∈ w_all, w.before _ s = true := fun w hw => atoms_spec (ws := z_Ir_isAhead) B.pre w (List.mem_cons_of_mem _ hw)
  have hown : s.vm.findClass R_Ir = some m.cls := findClass_of_methodNamed B.named
  have hlocks := B.notSynchronized
  have hF : CallFix p m c b_Ir_isAhead 3 s _ w_all R_Ir := ⟨hx, hb, hml, hown, hts⟩
  have hl := lv_entry ([.ref (L 0), .int a0, .int a1]) (n := 3) (Nat.le_of_ble_eq_true rfl)
  rw [lg_entry_eq]
  generalize (lg_sl ([.ref (L 0), .int a0, .int a1]) ++ List.replicate (3 - (lg_sl ([.ref (L 0), .int a0, .int a1])).length) Slot.unset).toArray = ls at hl ⊢
  have hl : lv_has ls 3 [(0, .ref (L 0)), (1, .int a0), (2, .int a1)] := hl
  unfold p_Ir_isAhead at h
  refine lv_aload_n hx hb d_Ir_isAhead_0 rfl (lv_at hl 0 rfl) ?_
  refine gf_Ir_risks hF hK hP m_157 d_Ir_isAhead_1 ?_
  refine lv_iload_n hx hb d_Ir_isAhead_4 rfl (lv_at hl 1 rfl) ?_
  have k5 := h.1
  have h := h.2
  refine alI_37 hF hK hP k5 d_Ir_isAhead_5 ?_
  refine lv_aload_n hx hb d_Ir_isAhead_6 rfl (lv_at hl 0 rfl) ?_
  refine gf_Ir_risks hF hK hP m_157 d_Ir_isAhead_7 ?_
  refine lv_iload_n hx hb d_Ir_isAhead_10 rfl (lv_at hl 2 rfl) ?_
  have k11 := h.1
  have h := h.2
  refine alI_37 hF hK hP k11 d_Ir_isAhead_11 ?_
  refine lv_icmp_eq (tgt := 36) hx hb d_Ir_isAhead_12 (by decide) (fun c12 => ?_) (fun c12 => ?_)
  · have h := h.1 c12
    refine lv_aload_n hx hb d_Ir_isAhead_36 rfl (lv_at hl 0 rfl) ?_
    refine gf_Ir_points hF hK hP m_134 d_Ir_isAhead_37 ?_
    refine gn_Points_visits hF hK hP mn_6 d_Ir_isAhead_40 ?_
    refine lv_iload_n hx hb d_Ir_isAhead_43 rfl (lv_at hl 1 rfl) ?_
    have k44 := h.1
    have h := h.2
    refine alI_11 hF hK hP k44 d_Ir_isAhead_44 ?_
    refine lv_aload_n hx hb d_Ir_isAhead_45 rfl (lv_at hl 0 rfl) ?_
    refine gf_Ir_points hF hK hP m_134 d_Ir_isAhead_46 ?_
    refine gn_Points_visits hF hK hP mn_6 d_Ir_isAhead_49 ?_
    refine lv_iload_n hx hb d_Ir_isAhead_52 rfl (lv_at hl 2 rfl) ?_
    have k53 := h.1
    have h := h.2
    refine alI_11 hF hK hP k53 d_Ir_isAhead_53 ?_
    refine lv_icmp_eq (tgt := 84) hx hb d_Ir_isAhead_54 (by decide) (fun c54 => ?_) (fun c54 => ?_)
    · have h := h.1 c54
      refine lv_iload_n hx hb d_Ir_isAhead_84 rfl (lv_at hl 1 rfl) ?_
      refine lv_iload_n hx hb d_Ir_isAhead_85 rfl (lv_at hl 2 rfl) ?_
      refine lv_icmp_ge (tgt := 93) hx hb d_Ir_isAhead_86 (by decide) (fun c86 => ?_) (fun c86 => ?_)
      · refine lv_iconst (v := 0) hx hb d_Ir_isAhead_93 (by decide) ?_
        have hv : (0 : Int32) = f_Ir_isAhead ar sc a0 a1 := by rw [f_Ir_isAhead, if_pos c12, if_pos c54, if_pos c86]
        exact W.zret (ty := .boolean) (v := 0) hx hb hr rfl (fun t ht hW => ⟨congrArg (fun z => Outcome.returned (some (Value.int z))) hv, ht⟩) (fun _ h9 => nomatch h9) d_Ir_isAhead_94
      · refine lv_iconst (v := 1) hx hb d_Ir_isAhead_89 (by decide) ?_
        refine lv_goto (tgt := 94) hx hb d_Ir_isAhead_90 (by decide) ?_
        have hv : (1 : Int32) = f_Ir_isAhead ar sc a0 a1 := by rw [f_Ir_isAhead, if_pos c12, if_pos c54, if_neg c86]
        exact W.zret (ty := .boolean) (v := 1) hx hb hr rfl (fun t ht hW => ⟨congrArg (fun z => Outcome.returned (some (Value.int z))) hv, ht⟩) (fun _ h9 => nomatch h9) d_Ir_isAhead_94
    · have h := h.2 c54
      refine lv_aload_n hx hb d_Ir_isAhead_57 rfl (lv_at hl 0 rfl) ?_
      refine gf_Ir_points hF hK hP m_134 d_Ir_isAhead_58 ?_
      refine gn_Points_visits hF hK hP mn_6 d_Ir_isAhead_61 ?_
      refine lv_iload_n hx hb d_Ir_isAhead_64 rfl (lv_at hl 1 rfl) ?_
      have k65 := h.1
      have h := h.2
      refine alI_11 hF hK hP k65 d_Ir_isAhead_65 ?_
      refine lv_aload_n hx hb d_Ir_isAhead_66 rfl (lv_at hl 0 rfl) ?_
      refine gf_Ir_points hF hK hP m_134 d_Ir_isAhead_67 ?_
      refine gn_Points_visits hF hK hP mn_6 d_Ir_isAhead_70 ?_
      refine lv_iload_n hx hb d_Ir_isAhead_73 rfl (lv_at hl 2 rfl) ?_
      have k74 := h
      refine alI_11 hF hK hP k74 d_Ir_isAhead_74 ?_
      refine lv_icmp_ge (tgt := 82) hx hb d_Ir_isAhead_75 (by decide) (fun c75 => ?_) (fun c75 => ?_)
      · refine lv_iconst (v := 0) hx hb d_Ir_isAhead_82 (by decide) ?_
        have hv : (0 : Int32) = f_Ir_isAhead ar sc a0 a1 := by rw [f_Ir_isAhead, if_pos c12, if_neg c54, if_pos c75]
        exact W.zret (ty := .boolean) (v := 0) hx hb hr rfl (fun t ht hW => ⟨congrArg (fun z => Outcome.returned (some (Value.int z))) hv, ht⟩) (fun _ h9 => nomatch h9) d_Ir_isAhead_83
      · refine lv_iconst (v := 1) hx hb d_Ir_isAhead_78 (by decide) ?_
        refine lv_goto (tgt := 83) hx hb d_Ir_isAhead_79 (by decide) ?_
        have hv : (1 : Int32) = f_Ir_isAhead ar sc a0 a1 := by rw [f_Ir_isAhead, if_pos c12, if_neg c54, if_neg c75]
        exact W.zret (ty := .boolean) (v := 1) hx hb hr rfl (fun t ht hW => ⟨congrArg (fun z => Outcome.returned (some (Value.int z))) hv, ht⟩) (fun _ h9 => nomatch h9) d_Ir_isAhead_83
  · have h := h.2 c12
    refine lv_aload_n hx hb d_Ir_isAhead_15 rfl (lv_at hl 0 rfl) ?_
    refine gf_Ir_risks hF hK hP m_157 d_Ir_isAhead_16 ?_
    refine lv_iload_n hx hb d_Ir_isAhead_19 rfl (lv_at hl 1 rfl) ?_
    have k20 := h.1
    have h := h.2
    refine alI_37 hF hK hP k20 d_Ir_isAhead_20 ?_
    refine lv_aload_n hx hb d_Ir_isAhead_21 rfl (lv_at hl 0 rfl) ?_
    refine gf_Ir_risks hF hK hP m_157 d_Ir_isAhead_22 ?_
    refine lv_iload_n hx hb d_Ir_isAhead_25 rfl (lv_at hl 2 rfl) ?_
    have k26 := h
    refine alI_37 hF hK hP k26 d_Ir_isAhead_26 ?_
    refine lv_icmp_le (tgt := 34) hx hb d_Ir_isAhead_27 (by decide) (fun c27 => ?_) (fun c27 => ?_)
    · refine lv_iconst (v := 0) hx hb d_Ir_isAhead_34 (by decide) ?_
      have hv : (0 : Int32) = f_Ir_isAhead ar sc a0 a1 := by rw [f_Ir_isAhead, if_neg c12, if_pos c27]
      exact W.zret (ty := .boolean) (v := 0) hx hb hr rfl (fun t ht hW => ⟨congrArg (fun z => Outcome.returned (some (Value.int z))) hv, ht⟩) (fun _ h9 => nomatch h9) d_Ir_isAhead_35
    · refine lv_iconst (v := 1) hx hb d_Ir_isAhead_30 (by decide) ?_
      refine lv_goto (tgt := 35) hx hb d_Ir_isAhead_31 (by decide) ?_
      have hv : (1 : Int32) = f_Ir_isAhead ar sc a0 a1 := by rw [f_Ir_isAhead, if_neg c12, if_neg c27]
      exact W.zret (ty := .boolean) (v := 1) hx hb hr rfl (fun t ht hW => ⟨congrArg (fun z => Outcome.returned (some (Value.int z))) hv, ht⟩) (fun _ h9 => nomatch h9) d_Ir_isAhead_35
set_option maxHeartbeats 1000000 in
theorem r_Ir_isAhead {p : Program} {l : Launch} {e : Env} {R : Room} {s : State} {m : MethodId} {args : Array Value} {below : List Frame} {meth : Method} {c : Code} {H : Heap} {locs : List Loc} {cells slots : Nat} {Q : State → Prop} {cc : ByteArray} {nL pc idx : Nat} {ls : Array Slot} {rest : List Value} {own : String} {dC : Nat → ClassId} {dI : Nat → Nat → Nat} {L : Nat → Nat} {cA : Nat → ClassId} {ar : Nat → Nat → Int32} {sc : Nat → Int32} {a0 : Int32} {a1 : Int32} (hF : CallFix p m c cc nL s args w_all own) (hK : kW_I dC dI cA s) (hP : va_P (dC, dI) classes (wI L cA ar sc) H) (h : p_Ir_isAhead ar sc a0 a1) (hlk : Cond.methodLink own idx y_Ir_isAhead ∈ w_all) (hsz : ls.size = nL) (hR : (rmD 0).frames + 1 ≤ R.frames ∧ 8 + (3 + 11) + (rmD 0).locals ≤ R.locals) (hc : cells ≤ R.cells ∧ slots ≤ R.slots) (hrs : (rest.map fun v => v.category).sum ≤ 8) (hdg : decode cc pc = .ok (.invokevirtual idx, 3)) (kk : W p l e R s m args below meth c H locs cells slots Q (F0 m (pc + 3) ls (.int (f_Ir_isAhead ar sc a0 a1) :: rest))) : W p l e R s m args below meth c H locs cells slots Q (F0 m pc ls (.int a1 :: .int a0 :: .ref (L 0) :: rest)) :=
  W.callR (W.runV (As := [.int a0, .int a1]) (rest := rest) hF (c_Ir_isAhead l dC dI L cA ar sc a0 a1 h) (cwV 2 hF.2.2.2.2 (gV hlk m_176 m_177 m_129 m_178) rfl rfl rfl (by decide +kernel) hR) ⟨xb_I, va_recv hK.1 hP (ci := 0) (q0 := 0) rfl rfl, fun U hU hW => ⟨rfl, by rw [hU]; exact hP, kW_I_warm hW hK⟩⟩ rfl rfl hsz rfl (lv_room hrs) hdg hc) kk
theorem d_Ir_countDueAhead_0 : decode b_Ir_countDueAhead 0 = .ok (.iconst 0, 1) := by decide +kernel
theorem d_Ir_countDueAhead_1 : decode b_Ir_countDueAhead 1 = .ok (.istore_n 3, 1) := by decide +kernel
theorem d_Ir_countDueAhead_2 : decode b_Ir_countDueAhead 2 = .ok (.iconst 0, 1) := by decide +kernel
theorem d_Ir_countDueAhead_3 : decode b_Ir_countDueAhead 3 = .ok (.istore 4, 2) := by decide +kernel
theorem d_Ir_countDueAhead_5 : decode b_Ir_countDueAhead 5 = .ok (.iload 4, 2) := by decide +kernel
theorem d_Ir_countDueAhead_7 : decode b_Ir_countDueAhead 7 = .ok (.aload_n 0, 1) := by decide +kernel
theorem d_Ir_countDueAhead_8 : decode b_Ir_countDueAhead 8 = .ok (.getfield 19, 3) := by decide +kernel
theorem d_Ir_countDueAhead_11 : decode b_Ir_countDueAhead 11 = .ok (.getfield 87, 3) := by decide +kernel
theorem d_Ir_countDueAhead_14 : decode b_Ir_countDueAhead 14 = .ok (.if_icmp .ge 32, 3) := by decide +kernel
theorem d_Ir_countDueAhead_17 : decode b_Ir_countDueAhead 17 = .ok (.aload_n 0, 1) := by decide +kernel
theorem d_Ir_countDueAhead_18 : decode b_Ir_countDueAhead 18 = .ok (.iload 4, 2) := by decide +kernel
theorem d_Ir_countDueAhead_20 : decode b_Ir_countDueAhead 20 = .ok (.iload_n 1, 1) := by decide +kernel
theorem d_Ir_countDueAhead_21 : decode b_Ir_countDueAhead 21 = .ok (.invokevirtual 261, 3) := by decide +kernel
theorem d_Ir_countDueAhead_24 : decode b_Ir_countDueAhead 24 = .ok (.ifCond .eq 16, 3) := by decide +kernel
theorem d_Ir_countDueAhead_27 : decode b_Ir_countDueAhead 27 = .ok (.aload_n 0, 1) := by decide +kernel
theorem d_Ir_countDueAhead_28 : decode b_Ir_countDueAhead 28 = .ok (.iload 4, 2) := by decide +kernel
theorem d_Ir_countDueAhead_30 : decode b_Ir_countDueAhead 30 = .ok (.invokevirtual 139, 3) := by decide +kernel
theorem d_Ir_countDueAhead_33 : decode b_Ir_countDueAhead 33 = .ok (.iload_n 2, 1) := by decide +kernel
theorem d_Ir_countDueAhead_34 : decode b_Ir_countDueAhead 34 = .ok (.if_icmp .gt 6, 3) := by decide +kernel
theorem d_Ir_countDueAhead_37 : decode b_Ir_countDueAhead 37 = .ok (.iinc 3 1, 3) := by decide +kernel
theorem d_Ir_countDueAhead_40 : decode b_Ir_countDueAhead 40 = .ok (.iinc 4 1, 3) := by decide +kernel
theorem d_Ir_countDueAhead_43 : decode b_Ir_countDueAhead 43 = .ok (.goto (-38), 3) := by decide +kernel
theorem d_Ir_countDueAhead_46 : decode b_Ir_countDueAhead 46 = .ok (.iload_n 3, 1) := by decide +kernel
theorem d_Ir_countDueAhead_47 : decode b_Ir_countDueAhead 47 = .ok (.ireturn, 1) := by decide +kernel
set_option maxHeartbeats 4000000 in
set_option maxRecDepth 100000 in
theorem l_Ir_countDueAhead_5 {p : Program} {l : Launch} {e : Env} {s : State} {m : MethodId} {args : Array Value} {below : List Frame} {meth : Method} {c : Code} {dC : Nat → ClassId} {dI : Nat → Nat → Nat} {L : Nat → Nat} {cA : Nat → ClassId} {ar : Nat → Nat → Int32} {sc : Nat → Int32} {Q : State → Prop} {H : Heap} {locs : List Loc} (a0 : Int32) (a1 : Int32)  (hF : CallFix p m c b_Ir_countDueAhead 5 s args w_all R_Ir) (hK : kW_I dC dI cA s) (hP : va_P (dC, dI) classes (wI L cA ar sc) H) : ∀ (n : Nat) (v3 : Int32) (v4 : Int32), q_Ir_countDueAhead_5 ar sc a0 a1 n v3 v4 → ∀ (ls : Array Slot), lv_has ls 5 [(3, .int v3), (4, .int v4), (0, .ref (L 0)), (1, .int a0), (2, .int a1)] → (∀ (ls : Array Slot), lv_has ls 5 [(3, .int ((g_Ir_countDueAhead_5 ar sc a0 a1 n v3 v4).1)), (4, .int ((g_Ir_countDueAhead_5 ar sc a0 a1 n v3 v4).2)), (0, .ref (L 0)), (1, .int a0), (2, .int a1)] → W p l e (rmD 2) s m args below meth c H locs 0 0 Q (F0 m 46 ls [])) → W p l e (rmD 2) s m args below meth c H locs 0 0 Q (F0 m 5 ls []) := by
  have hx := hF.1
  have hb := hF.2.1
  have hown := hF.2.2.2.1
  have hts := hF.2.2.2.2
  intro n
  induction n with
  | zero => intro v3 v4 h; exact False.elim h
  | succ n ih =>
    intro v3 v4 h ls hl hk
    rw [q_Ir_countDueAhead_5] at h
    refine lv_iload hx hb d_Ir_countDueAhead_5 (lv_at hl 1 rfl) ?_
    refine lv_aload_n hx hb d_Ir_countDueAhead_7 rfl (lv_at hl 2 rfl) ?_
    refine gf_Ir_points hF hK hP m_134 d_Ir_countDueAhead_8 ?_
    refine gn_Points_count hF hK hP mn_0 d_Ir_countDueAhead_11 ?_
    refine lv_icmp_ge (tgt := 46) hx hb d_Ir_countDueAhead_14 (by decide) (fun c14 => ?_) (fun c14 => ?_)
    · have h := h.1 c14
      have hv : g_Ir_countDueAhead_5 ar sc a0 a1 (n + 1) v3 v4 = ((v3, v4) : Int32 × Int32) := by rw [g_Ir_countDueAhead_5, if_pos c14]
      rw [hv] at hk
      exact hk ls (lv_sub hl [0, 1, 2, 3, 4] rfl)
    · have h := h.2 c14
      refine lv_aload_n hx hb d_Ir_countDueAhead_17 rfl (lv_at hl 2 rfl) ?_
      refine lv_iload hx hb d_Ir_countDueAhead_18 (lv_at hl 1 rfl) ?_
      refine lv_iload_n hx hb d_Ir_countDueAhead_20 rfl (lv_at hl 3 rfl) ?_
      have k21 := h.1
      have h := h.2
      refine r_Ir_isAhead hF hK hP k21 m_179 hl.1 ⟨Nat.le_of_ble_eq_true rfl, Nat.le_of_ble_eq_true rfl⟩ ⟨Nat.zero_le _, Nat.zero_le _⟩ (Nat.le_of_ble_eq_true rfl) d_Ir_countDueAhead_21 ?_
      refine lv_if_eq (tgt := 40) hx hb d_Ir_countDueAhead_24 (by decide) (fun c24 => ?_) (fun c24 => ?_)
      · have h := h.1 c24
        refine lv_iinc (v := v4 + 1) (lv' := [(4, .int (v4 + 1)), (3, .int v3), (0, .ref (L 0)), (1, .int a0), (2, .int a1)]) hx hb d_Ir_countDueAhead_40 hl (k := 1) rfl rfl (by decide) rfl (fun ls hl => ?_)
        refine lv_goto (tgt := 5) hx hb d_Ir_countDueAhead_43 (by decide) ?_
        have hv : g_Ir_countDueAhead_5 ar sc a0 a1 (n + 1) v3 v4 = g_Ir_countDueAhead_5 ar sc a0 a1 n v3 (v4 + 1) := by rw [g_Ir_countDueAhead_5, if_neg c14, if_pos c24]
        rw [hv] at hk
        exact ih v3 (v4 + 1) h ls (lv_sub hl [1, 0, 2, 3, 4] rfl) hk
      · have h := h.2 c24
        refine lv_aload_n hx hb d_Ir_countDueAhead_27 rfl (lv_at hl 2 rfl) ?_
        refine lv_iload hx hb d_Ir_countDueAhead_28 (lv_at hl 1 rfl) ?_
        have k30 := h.1
        have h := h.2
        refine r_Ir_firstDueDay hF hK hP k30 m_180 hl.1 ⟨Nat.le_of_ble_eq_true rfl, Nat.le_of_ble_eq_true rfl⟩ ⟨Nat.zero_le _, Nat.zero_le _⟩ (Nat.le_of_ble_eq_true rfl) d_Ir_countDueAhead_30 ?_
        refine lv_iload_n hx hb d_Ir_countDueAhead_33 rfl (lv_at hl 4 rfl) ?_
        refine lv_icmp_gt (tgt := 40) hx hb d_Ir_countDueAhead_34 (by decide) (fun c34 => ?_) (fun c34 => ?_)
        · have h := h.1 c34
          refine lv_iinc (v := v4 + 1) (lv' := [(4, .int (v4 + 1)), (3, .int v3), (0, .ref (L 0)), (1, .int a0), (2, .int a1)]) hx hb d_Ir_countDueAhead_40 hl (k := 1) rfl rfl (by decide) rfl (fun ls hl => ?_)
          refine lv_goto (tgt := 5) hx hb d_Ir_countDueAhead_43 (by decide) ?_
          have hv : g_Ir_countDueAhead_5 ar sc a0 a1 (n + 1) v3 v4 = g_Ir_countDueAhead_5 ar sc a0 a1 n v3 (v4 + 1) := by rw [g_Ir_countDueAhead_5, if_neg c14, if_neg c24, if_pos c34]
          rw [hv] at hk
          exact ih v3 (v4 + 1) h ls (lv_sub hl [1, 0, 2, 3, 4] rfl) hk
        · have h := h.2 c34
          refine lv_iinc (v := v3 + 1) (lv' := [(3, .int (v3 + 1)), (4, .int v4), (0, .ref (L 0)), (1, .int a0), (2, .int a1)]) hx hb d_Ir_countDueAhead_37 hl (k := 0) rfl rfl (by decide) rfl (fun ls hl => ?_)
          refine lv_iinc (v := v4 + 1) (lv' := [(4, .int (v4 + 1)), (3, .int (v3 + 1)), (0, .ref (L 0)), (1, .int a0), (2, .int a1)]) hx hb d_Ir_countDueAhead_40 hl (k := 1) rfl rfl (by decide) rfl (fun ls hl => ?_)
          refine lv_goto (tgt := 5) hx hb d_Ir_countDueAhead_43 (by decide) ?_
          have hv : g_Ir_countDueAhead_5 ar sc a0 a1 (n + 1) v3 v4 = g_Ir_countDueAhead_5 ar sc a0 a1 n (v3 + 1) (v4 + 1) := by rw [g_Ir_countDueAhead_5, if_neg c14, if_neg c24, if_neg c34]
          rw [hv] at hk
          exact ih (v3 + 1) (v4 + 1) h ls (lv_sub hl [1, 0, 2, 3, 4] rfl) hk
set_option maxHeartbeats 4000000 in
set_option maxRecDepth 100000 in
theorem c_Ir_countDueAhead (l : Launch) (dC : Nat → ClassId) (dI : Nat → Nat → Nat) (L : Nat → Nat) (cA : Nat → ClassId) (ar : Nat → Nat → Int32) (sc : Nat → Int32) (a0 : Int32) (a1 : Int32) (h : p_Ir_countDueAhead ar sc a0 a1) : Met l y_Ir_countDueAhead z_Ir_countDueAhead (rmD 2) (va_Pc [.ref (L 0), .int a0, .int a1] (fun U => xw_I dC dI L cA ar sc U)) (QcRead (f_Ir_countDueAhead ar sc a0 a1)) 0 0 (fun _ => False) := by
  refine Met.ofW (cc := b_Ir_countDueAhead) (maxL := 5) (ret := (some .int)) (by decide) rfl ?_
  intro p e s m args below meth c s₁ B hml hv
  obtain ⟨rfl, ⟨hP, hK⟩⟩ := hv
  have hx := B.exec
  have hb := B.bytes
  have hr := B.returns
  have hts : ∀ w ∈ w_all, w.before _ s = true := fun w hw => atoms_spec (ws := z_Ir_countDueAhead) B.pre w (List.mem_cons_of_mem _ hw)
  have hown : s.vm.findClass R_Ir = some m.cls := findClass_of_methodNamed B.named
  have hlocks := B.notSynchronized
  have hF : CallFix p m c b_Ir_countDueAhead 5 s _ w_all R_Ir := ⟨hx, hb, hml, hown, hts⟩
  have hl := lv_entry ([.ref (L 0), .int a0, .int a1]) (n := 5) (Nat.le_of_ble_eq_true rfl)
  rw [lg_entry_eq]
  generalize (lg_sl ([.ref (L 0), .int a0, .int a1]) ++ List.replicate (5 - (lg_sl ([.ref (L 0), .int a0, .int a1])).length) Slot.unset).toArray = ls at hl ⊢
  have hl : lv_has ls 5 [(0, .ref (L 0)), (1, .int a0), (2, .int a1)] := hl
  unfold p_Ir_countDueAhead at h
  refine lv_iconst (v := 0) hx hb d_Ir_countDueAhead_0 (by decide) ?_
  refine lv_istore_n (lv' := [(3, .int 0), (0, .ref (L 0)), (1, .int a0), (2, .int a1)]) hx hb d_Ir_countDueAhead_1 rfl hl (by decide) rfl (fun ls hl => ?_)
  refine lv_iconst (v := 0) hx hb d_Ir_countDueAhead_2 (by decide) ?_
  refine lv_istore (lv' := [(4, .int 0), (3, .int 0), (0, .ref (L 0)), (1, .int a0), (2, .int a1)]) hx hb d_Ir_countDueAhead_3 hl (by decide) rfl (fun ls hl => ?_)
  have kL5 := h
  refine l_Ir_countDueAhead_5 a0 a1 hF hK hP 200 0 0 kL5 ls (lv_sub hl [1, 0, 2, 3, 4] rfl) (fun ls hl => ?_)
  refine lv_iload_n hx hb d_Ir_countDueAhead_46 rfl (lv_at hl 0 rfl) ?_
  have hv : ((g_Ir_countDueAhead_5 ar sc a0 a1 200 0 0).1 : Int32) = f_Ir_countDueAhead ar sc a0 a1 := by rw [f_Ir_countDueAhead]
  exact W.iret (v := (g_Ir_countDueAhead_5 ar sc a0 a1 200 0 0).1) hx hb hr (fun t ht hW => ⟨congrArg (fun z => Outcome.returned (some (Value.int z))) hv, ht⟩) (fun _ h9 => nomatch h9) d_Ir_countDueAhead_47
set_option maxHeartbeats 1000000 in
theorem r_Ir_countDueAhead {p : Program} {l : Launch} {e : Env} {R : Room} {s : State} {m : MethodId} {args : Array Value} {below : List Frame} {meth : Method} {c : Code} {H : Heap} {locs : List Loc} {cells slots : Nat} {Q : State → Prop} {cc : ByteArray} {nL pc idx : Nat} {ls : Array Slot} {rest : List Value} {own : String} {dC : Nat → ClassId} {dI : Nat → Nat → Nat} {L : Nat → Nat} {cA : Nat → ClassId} {ar : Nat → Nat → Int32} {sc : Nat → Int32} {a0 : Int32} {a1 : Int32} (hF : CallFix p m c cc nL s args w_all own) (hK : kW_I dC dI cA s) (hP : va_P (dC, dI) classes (wI L cA ar sc) H) (h : p_Ir_countDueAhead ar sc a0 a1) (hlk : Cond.methodLink own idx y_Ir_countDueAhead ∈ w_all) (hsz : ls.size = nL) (hR : (rmD 2).frames + 1 ≤ R.frames ∧ 8 + (5 + 11) + (rmD 2).locals ≤ R.locals) (hc : cells ≤ R.cells ∧ slots ≤ R.slots) (hrs : (rest.map fun v => v.category).sum ≤ 8) (hdg : decode cc pc = .ok (.invokevirtual idx, 3)) (kk : W p l e R s m args below meth c H locs cells slots Q (F0 m (pc + 3) ls (.int (f_Ir_countDueAhead ar sc a0 a1) :: rest))) : W p l e R s m args below meth c H locs cells slots Q (F0 m pc ls (.int a1 :: .int a0 :: .ref (L 0) :: rest)) :=
  W.callR (W.runV (As := [.int a0, .int a1]) (rest := rest) hF (c_Ir_countDueAhead l dC dI L cA ar sc a0 a1 h) (cwV 2 hF.2.2.2.2 (gV hlk m_181 m_182 m_129 m_183) rfl rfl rfl (by decide +kernel) hR) ⟨xb_I, va_recv hK.1 hP (ci := 0) (q0 := 0) rfl rfl, fun U hU hW => ⟨rfl, by rw [hU]; exact hP, kW_I_warm hW hK⟩⟩ rfl rfl hsz rfl (lv_room hrs) hdg hc) kk

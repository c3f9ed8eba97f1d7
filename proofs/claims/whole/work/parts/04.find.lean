theorem m_0 : (Cond.fieldLink R_Findings 21 "InspectRows$Findings" "proofs" "[I") ∈ w_all := List.mem_filter.mpr ⟨List.mem_of_getElem? (i := 122) (by decide +kernel), by decide +kernel⟩
theorem m_1 : (Cond.instanceMethod y_Findings_isOpen) ∈ w_all := List.mem_filter.mpr ⟨List.mem_of_getElem? (i := 478) (by decide +kernel), by decide +kernel⟩
theorem m_2 : (Cond.selects R_Findings y_Findings_isOpen y_Findings_isOpen) ∈ w_all := List.mem_filter.mpr ⟨List.mem_of_getElem? (i := 479) (by decide +kernel), by decide +kernel⟩
theorem m_3 : (Cond.initialized R_Findings) ∈ w_all := List.mem_filter.mpr ⟨List.mem_of_getElem? (i := 35) (by decide +kernel), by decide +kernel⟩
theorem m_4 : (Cond.code y_Findings_isOpen b_Findings_isOpen 2 (some .boolean)) ∈ w_all := List.mem_filter.mpr ⟨List.mem_of_getElem? (i := 480) (by decide +kernel), by decide +kernel⟩
theorem m_5 : (Cond.methodLink R_Findings 28 y_Findings_isOpen) ∈ w_all := List.mem_filter.mpr ⟨List.mem_of_getElem? (i := 477) (by decide +kernel), by decide +kernel⟩
theorem m_6 : (Cond.fieldLink R_Findings 18 "InspectRows$Findings" "days" "[I") ∈ w_all := List.mem_filter.mpr ⟨List.mem_of_getElem? (i := 120) (by decide +kernel), by decide +kernel⟩
theorem m_7 : (Cond.instanceMethod y_Findings_isMissed) ∈ w_all := List.mem_filter.mpr ⟨List.mem_of_getElem? (i := 482) (by decide +kernel), by decide +kernel⟩
theorem m_8 : (Cond.selects R_Findings y_Findings_isMissed y_Findings_isMissed) ∈ w_all := List.mem_filter.mpr ⟨List.mem_of_getElem? (i := 483) (by decide +kernel), by decide +kernel⟩
theorem m_9 : (Cond.code y_Findings_isMissed b_Findings_isMissed 3 (some .boolean)) ∈ w_all := List.mem_filter.mpr ⟨List.mem_of_getElem? (i := 484) (by decide +kernel), by decide +kernel⟩
theorem m_10 : (Cond.methodLink R_Findings 32 y_Findings_isMissed) ∈ w_all := List.mem_filter.mpr ⟨List.mem_of_getElem? (i := 481) (by decide +kernel), by decide +kernel⟩
theorem m_11 : (Cond.fieldLink R_Findings 15 "InspectRows$Findings" "weights" "[I") ∈ w_all := List.mem_filter.mpr ⟨List.mem_of_getElem? (i := 119) (by decide +kernel), by decide +kernel⟩
theorem m_12 : (Cond.instanceMethod y_Findings_riskOn) ∈ w_all := List.mem_filter.mpr ⟨List.mem_of_getElem? (i := 474) (by decide +kernel), by decide +kernel⟩
theorem m_13 : (Cond.selects R_Findings y_Findings_riskOn y_Findings_riskOn) ∈ w_all := List.mem_filter.mpr ⟨List.mem_of_getElem? (i := 475) (by decide +kernel), by decide +kernel⟩
theorem m_14 : (Cond.code y_Findings_riskOn b_Findings_riskOn 3 (some .int)) ∈ w_all := List.mem_filter.mpr ⟨List.mem_of_getElem? (i := 476) (by decide +kernel), by decide +kernel⟩
theorem m_15 : (Cond.fieldLink R_Findings 24 "InspectRows$Findings" "count" "I") ∈ w_all := List.mem_filter.mpr ⟨List.mem_of_getElem? (i := 124) (by decide +kernel), by decide +kernel⟩
theorem m_16 : (Cond.fieldLink R_Findings 9 "InspectRows$Findings" "points" "[I") ∈ w_all := List.mem_filter.mpr ⟨List.mem_of_getElem? (i := 117) (by decide +kernel), by decide +kernel⟩
theorem m_17 : (Cond.instanceMethod y_Findings_countOpen) ∈ w_all := List.mem_filter.mpr ⟨List.mem_of_getElem? (i := 545) (by decide +kernel), by decide +kernel⟩
theorem m_18 : (Cond.selects R_Findings y_Findings_countOpen y_Findings_countOpen) ∈ w_all := List.mem_filter.mpr ⟨List.mem_of_getElem? (i := 546) (by decide +kernel), by decide +kernel⟩
theorem m_19 : (Cond.code y_Findings_countOpen b_Findings_countOpen 4 (some .int)) ∈ w_all := List.mem_filter.mpr ⟨List.mem_of_getElem? (i := 547) (by decide +kernel), by decide +kernel⟩
theorem m_20 : (Cond.instanceMethod y_Findings_add) ∈ w_all := List.mem_filter.mpr ⟨List.mem_of_getElem? (i := 490) (by decide +kernel), by decide +kernel⟩
theorem m_21 : (Cond.selects R_Findings y_Findings_add y_Findings_add) ∈ w_all := List.mem_filter.mpr ⟨List.mem_of_getElem? (i := 491) (by decide +kernel), by decide +kernel⟩
theorem m_22 : (Cond.code y_Findings_add b_Findings_add 5 (some .int)) ∈ w_all := List.mem_filter.mpr ⟨List.mem_of_getElem? (i := 492) (by decide +kernel), by decide +kernel⟩
theorem d_Findings_isOpen_0 : decode b_Findings_isOpen 0 = .ok (.aload_n 0, 1) := by decide +kernel
theorem d_Findings_isOpen_1 : decode b_Findings_isOpen 1 = .ok (.getfield 21, 3) := by decide +kernel
theorem d_Findings_isOpen_4 : decode b_Findings_isOpen 4 = .ok (.iload_n 1, 1) := by decide +kernel
theorem d_Findings_isOpen_5 : decode b_Findings_isOpen 5 = .ok (.iaload, 1) := by decide +kernel
theorem d_Findings_isOpen_6 : decode b_Findings_isOpen 6 = .ok (.ifCond .ne 7, 3) := by decide +kernel
theorem d_Findings_isOpen_9 : decode b_Findings_isOpen 9 = .ok (.iconst 1, 1) := by decide +kernel
theorem d_Findings_isOpen_10 : decode b_Findings_isOpen 10 = .ok (.goto 4, 3) := by decide +kernel
theorem d_Findings_isOpen_13 : decode b_Findings_isOpen 13 = .ok (.iconst 0, 1) := by decide +kernel
theorem d_Findings_isOpen_14 : decode b_Findings_isOpen 14 = .ok (.ireturn, 1) := by decide +kernel
set_option maxHeartbeats 4000000 in
set_option maxRecDepth 100000 in
theorem c_Findings_isOpen (l : Launch) (dC : Nat → ClassId) (dI : Nat → Nat → Nat) (L : Nat → Nat) (cA : Nat → ClassId) (ar : Nat → Nat → Int32) (sc : Nat → Int32) (a0 : Int32) (h : p_Findings_isOpen ar sc a0) : Met l y_Findings_isOpen z_Findings_isOpen (rmD 0) (va_Pc [.ref (L 12), .int a0] (fun U => xw_I dC dI L cA ar sc U)) (QcRead (f_Findings_isOpen ar sc a0)) 0 0 (fun _ => False) := by
  refine Met.ofW (cc := b_Findings_isOpen) (maxL := 2) (ret := (some .boolean)) (by decide) rfl ?_
  intro p e s m args below meth c s₁ B hml hv
  obtain ⟨rfl, ⟨hP, hK⟩⟩ := hv
  have hx := B.exec
  have hb := B.bytes
  have hr := B.returns
  have hts : ∀ w ∈ w_all, w.before _ s = true := fun w hw => atoms_spec (ws := z_Findings_isOpen) B.pre w (List.mem_cons_of_mem _ hw)
  have hown : s.vm.findClass R_Findings = some m.cls := findClass_of_methodNamed B.named
  have hlocks := B.notSynchronized
  have hF : CallFix p m c b_Findings_isOpen 2 s _ w_all R_Findings := ⟨hx, hb, hml, hown, hts⟩
  have hl := lv_entry ([.ref (L 12), .int a0]) (n := 2) (Nat.le_of_ble_eq_true rfl)
  rw [lg_entry_eq]
  generalize (lg_sl ([.ref (L 12), .int a0]) ++ List.replicate (2 - (lg_sl ([.ref (L 12), .int a0])).length) Slot.unset).toArray = ls at hl ⊢
  have hl : lv_has ls 2 [(0, .ref (L 12)), (1, .int a0)] := hl
  unfold p_Findings_isOpen at h
  refine lv_aload_n hx hb d_Findings_isOpen_0 rfl (lv_at hl 0 rfl) ?_
  refine gf_Findings_proofs hF hK hP m_0 d_Findings_isOpen_1 ?_
  refine lv_iload_n hx hb d_Findings_isOpen_4 rfl (lv_at hl 1 rfl) ?_
  have k5 := h
  refine alI_16 hF hK hP k5 d_Findings_isOpen_5 ?_
  refine lv_if_ne (tgt := 13) hx hb d_Findings_isOpen_6 (by decide) (fun c6 => ?_) (fun c6 => ?_)
  · refine lv_iconst (v := 0) hx hb d_Findings_isOpen_13 (by decide) ?_
    have hv : (0 : Int32) = f_Findings_isOpen ar sc a0 := by rw [f_Findings_isOpen, if_neg c6]
    exact W.zret (ty := .boolean) (v := 0) hx hb hr rfl (fun t ht hW => ⟨congrArg (fun z => Outcome.returned (some (Value.int z))) hv, ht⟩) (fun _ h9 => nomatch h9) d_Findings_isOpen_14
  · refine lv_iconst (v := 1) hx hb d_Findings_isOpen_9 (by decide) ?_
    refine lv_goto (tgt := 14) hx hb d_Findings_isOpen_10 (by decide) ?_
    have hv : (1 : Int32) = f_Findings_isOpen ar sc a0 := by rw [f_Findings_isOpen, if_pos c6]
    exact W.zret (ty := .boolean) (v := 1) hx hb hr rfl (fun t ht hW => ⟨congrArg (fun z => Outcome.returned (some (Value.int z))) hv, ht⟩) (fun _ h9 => nomatch h9) d_Findings_isOpen_14
set_option maxHeartbeats 1000000 in
theorem r_Findings_isOpen {p : Program} {l : Launch} {e : Env} {R : Room} {s : State} {m : MethodId} {args : Array Value} {below : List Frame} {meth : Method} {c : Code} {H : Heap} {locs : List Loc} {cells slots : Nat} {Q : State → Prop} {cc : ByteArray} {nL pc idx : Nat} {ls : Array Slot} {rest : List Value} {own : String} {dC : Nat → ClassId} {dI : Nat → Nat → Nat} {L : Nat → Nat} {cA : Nat → ClassId} {ar : Nat → Nat → Int32} {sc : Nat → Int32} {a0 : Int32} (hF : CallFix p m c cc nL s args w_all own) (hK : kW_I dC dI cA s) (hP : va_P (dC, dI) classes (wI L cA ar sc) H) (h : p_Findings_isOpen ar sc a0) (hlk : Cond.methodLink own idx y_Findings_isOpen ∈ w_all) (hsz : ls.size = nL) (hR : (rmD 0).frames + 1 ≤ R.frames ∧ 8 + (2 + 11) + (rmD 0).locals ≤ R.locals) (hc : cells ≤ R.cells ∧ slots ≤ R.slots) (hrs : (rest.map fun v => v.category).sum ≤ 8) (hdg : decode cc pc = .ok (.invokevirtual idx, 3)) (kk : W p l e R s m args below meth c H locs cells slots Q (F0 m (pc + 3) ls (.int (f_Findings_isOpen ar sc a0) :: rest))) : W p l e R s m args below meth c H locs cells slots Q (F0 m pc ls (.int a0 :: .ref (L 12) :: rest)) :=
  W.callR (W.runV (As := [.int a0]) (rest := rest) hF (c_Findings_isOpen l dC dI L cA ar sc a0 h) (cwV 1 hF.2.2.2.2 (gV hlk m_1 m_2 m_3 m_4) rfl rfl rfl (by decide +kernel) hR) ⟨xb_I, va_recv hK.1 hP (ci := 3) (q0 := 12) rfl rfl, fun U hU hW => ⟨rfl, by rw [hU]; exact hP, kW_I_warm hW hK⟩⟩ rfl rfl hsz rfl (lv_room hrs) hdg hc) kk
theorem d_Findings_isMissed_0 : decode b_Findings_isMissed 0 = .ok (.aload_n 0, 1) := by decide +kernel
theorem d_Findings_isMissed_1 : decode b_Findings_isMissed 1 = .ok (.iload_n 1, 1) := by decide +kernel
theorem d_Findings_isMissed_2 : decode b_Findings_isMissed 2 = .ok (.invokevirtual 28, 3) := by decide +kernel
theorem d_Findings_isMissed_5 : decode b_Findings_isMissed 5 = .ok (.ifCond .eq 17, 3) := by decide +kernel
theorem d_Findings_isMissed_8 : decode b_Findings_isMissed 8 = .ok (.aload_n 0, 1) := by decide +kernel
theorem d_Findings_isMissed_9 : decode b_Findings_isMissed 9 = .ok (.getfield 18, 3) := by decide +kernel
theorem d_Findings_isMissed_12 : decode b_Findings_isMissed 12 = .ok (.iload_n 1, 1) := by decide +kernel
theorem d_Findings_isMissed_13 : decode b_Findings_isMissed 13 = .ok (.iaload, 1) := by decide +kernel
theorem d_Findings_isMissed_14 : decode b_Findings_isMissed 14 = .ok (.iload_n 2, 1) := by decide +kernel
theorem d_Findings_isMissed_15 : decode b_Findings_isMissed 15 = .ok (.if_icmp .ge 7, 3) := by decide +kernel
theorem d_Findings_isMissed_18 : decode b_Findings_isMissed 18 = .ok (.iconst 1, 1) := by decide +kernel
theorem d_Findings_isMissed_19 : decode b_Findings_isMissed 19 = .ok (.goto 4, 3) := by decide +kernel
theorem d_Findings_isMissed_22 : decode b_Findings_isMissed 22 = .ok (.iconst 0, 1) := by decide +kernel
theorem d_Findings_isMissed_23 : decode b_Findings_isMissed 23 = .ok (.ireturn, 1) := by decide +kernel
set_option maxHeartbeats 4000000 in
set_option maxRecDepth 100000 in
theorem c_Findings_isMissed (l : Launch) (dC : Nat → ClassId) (dI : Nat → Nat → Nat) (L : Nat → Nat) (cA : Nat → ClassId) (ar : Nat → Nat → Int32) (sc : Nat → Int32) (a0 : Int32) (a1 : Int32) (h : p_Findings_isMissed ar sc a0 a1) : Met l y_Findings_isMissed z_Findings_isMissed (rmD 1) (va_Pc [.ref (L 12), .int a0, .int a1] (fun U => xw_I dC dI L cA ar sc U)) (QcRead (f_Findings_isMissed ar sc a0 a1)) 0 0 (fun _ => False) := by
  refine Met.ofW (cc := b_Findings_isMissed) (maxL := 3) (ret := (some .boolean)) (by decide) rfl ?_
  intro p e s m args below meth c s₁ B hml hv
  obtain ⟨rfl, ⟨hP, hK⟩⟩ := hv
  have hx := B.exec
  have hb := B.bytes
  have hr := B.returns
  have hts : ∀ w ∈ w_all, w.before _ s = true := fun w hw => atoms_spec (ws := z_Findings_isMissed) B.pre w (List.mem_cons_of_mem _ hw)
  have hown : s.vm.findClass R_Findings = some m.cls := findClass_of_methodNamed B.named
  have hlocks := B.notSynchronized
  have hF : CallFix p m c b_Findings_isMissed 3 s _ w_all R_Findings := ⟨hx, hb, hml, hown, hts⟩
  have hl := lv_entry ([.ref (L 12), .int a0, .int a1]) (n := 3) (Nat.le_of_ble_eq_true rfl)
  rw [lg_entry_eq]
  generalize (lg_sl ([.ref (L 12), .int a0, .int a1]) ++ List.replicate (3 - (lg_sl ([.ref (L 12), .int a0, .int a1])).length) Slot.unset).toArray = ls at hl ⊢
  have hl : lv_has ls 3 [(0, .ref (L 12)), (1, .int a0), (2, .int a1)] := hl
  unfold p_Findings_isMissed at h
  refine lv_aload_n hx hb d_Findings_isMissed_0 rfl (lv_at hl 0 rfl) ?_
  refine lv_iload_n hx hb d_Findings_isMissed_1 rfl (lv_at hl 1 rfl) ?_
  have k2 := h.1
  have h := h.2
  refine r_Findings_isOpen hF hK hP k2 m_5 hl.1 ⟨Nat.le_of_ble_eq_true rfl, Nat.le_of_ble_eq_true rfl⟩ ⟨Nat.zero_le _, Nat.zero_le _⟩ (Nat.le_of_ble_eq_true rfl) d_Findings_isMissed_2 ?_
  refine lv_if_eq (tgt := 22) hx hb d_Findings_isMissed_5 (by decide) (fun c5 => ?_) (fun c5 => ?_)
  · have h := h.1 c5
    refine lv_iconst (v := 0) hx hb d_Findings_isMissed_22 (by decide) ?_
    have hv : (0 : Int32) = f_Findings_isMissed ar sc a0 a1 := by rw [f_Findings_isMissed, if_pos c5]
    exact W.zret (ty := .boolean) (v := 0) hx hb hr rfl (fun t ht hW => ⟨congrArg (fun z => Outcome.returned (some (Value.int z))) hv, ht⟩) (fun _ h9 => nomatch h9) d_Findings_isMissed_23
  · have h := h.2 c5
    refine lv_aload_n hx hb d_Findings_isMissed_8 rfl (lv_at hl 0 rfl) ?_
    refine gf_Findings_days hF hK hP m_6 d_Findings_isMissed_9 ?_
    refine lv_iload_n hx hb d_Findings_isMissed_12 rfl (lv_at hl 1 rfl) ?_
    have k13 := h
    refine alI_15 hF hK hP k13 d_Findings_isMissed_13 ?_
    refine lv_iload_n hx hb d_Findings_isMissed_14 rfl (lv_at hl 2 rfl) ?_
    refine lv_icmp_ge (tgt := 22) hx hb d_Findings_isMissed_15 (by decide) (fun c15 => ?_) (fun c15 => ?_)
    · refine lv_iconst (v := 0) hx hb d_Findings_isMissed_22 (by decide) ?_
      have hv : (0 : Int32) = f_Findings_isMissed ar sc a0 a1 := by rw [f_Findings_isMissed, if_neg c5, if_pos c15]
      exact W.zret (ty := .boolean) (v := 0) hx hb hr rfl (fun t ht hW => ⟨congrArg (fun z => Outcome.returned (some (Value.int z))) hv, ht⟩) (fun _ h9 => nomatch h9) d_Findings_isMissed_23
    · refine lv_iconst (v := 1) hx hb d_Findings_isMissed_18 (by decide) ?_
      refine lv_goto (tgt := 23) hx hb d_Findings_isMissed_19 (by decide) ?_
      have hv : (1 : Int32) = f_Findings_isMissed ar sc a0 a1 := by rw [f_Findings_isMissed, if_neg c5, if_neg c15]
      exact W.zret (ty := .boolean) (v := 1) hx hb hr rfl (fun t ht hW => ⟨congrArg (fun z => Outcome.returned (some (Value.int z))) hv, ht⟩) (fun _ h9 => nomatch h9) d_Findings_isMissed_23
set_option maxHeartbeats 1000000 in
theorem r_Findings_isMissed {p : Program} {l : Launch} {e : Env} {R : Room} {s : State} {m : MethodId} {args : Array Value} {below : List Frame} {meth : Method} {c : Code} {H : Heap} {locs : List Loc} {cells slots : Nat} {Q : State → Prop} {cc : ByteArray} {nL pc idx : Nat} {ls : Array Slot} {rest : List Value} {own : String} {dC : Nat → ClassId} {dI : Nat → Nat → Nat} {L : Nat → Nat} {cA : Nat → ClassId} {ar : Nat → Nat → Int32} {sc : Nat → Int32} {a0 : Int32} {a1 : Int32} (hF : CallFix p m c cc nL s args w_all own) (hK : kW_I dC dI cA s) (hP : va_P (dC, dI) classes (wI L cA ar sc) H) (h : p_Findings_isMissed ar sc a0 a1) (hlk : Cond.methodLink own idx y_Findings_isMissed ∈ w_all) (hsz : ls.size = nL) (hR : (rmD 1).frames + 1 ≤ R.frames ∧ 8 + (3 + 11) + (rmD 1).locals ≤ R.locals) (hc : cells ≤ R.cells ∧ slots ≤ R.slots) (hrs : (rest.map fun v => v.category).sum ≤ 8) (hdg : decode cc pc = .ok (.invokevirtual idx, 3)) (kk : W p l e R s m args below meth c H locs cells slots Q (F0 m (pc + 3) ls (.int (f_Findings_isMissed ar sc a0 a1) :: rest))) : W p l e R s m args below meth c H locs cells slots Q (F0 m pc ls (.int a1 :: .int a0 :: .ref (L 12) :: rest)) :=
  W.callR (W.runV (As := [.int a0, .int a1]) (rest := rest) hF (c_Findings_isMissed l dC dI L cA ar sc a0 a1 h) (cwV 2 hF.2.2.2.2 (gV hlk m_7 m_8 m_3 m_9) rfl rfl rfl (by decide +kernel) hR) ⟨xb_I, va_recv hK.1 hP (ci := 3) (q0 := 12) rfl rfl, fun U hU hW => ⟨rfl, by rw [hU]; exact hP, kW_I_warm hW hK⟩⟩ rfl rfl hsz rfl (lv_room hrs) hdg hc) kk
theorem d_Findings_riskOn_0 : decode b_Findings_riskOn 0 = .ok (.aload_n 0, 1) := by decide +kernel
theorem d_Findings_riskOn_1 : decode b_Findings_riskOn 1 = .ok (.iload_n 1, 1) := by decide +kernel
theorem d_Findings_riskOn_2 : decode b_Findings_riskOn 2 = .ok (.invokevirtual 28, 3) := by decide +kernel
theorem d_Findings_riskOn_5 : decode b_Findings_riskOn 5 = .ok (.ifCond .ne 5, 3) := by decide +kernel
theorem d_Findings_riskOn_8 : decode b_Findings_riskOn 8 = .ok (.iconst 0, 1) := by decide +kernel
theorem d_Findings_riskOn_9 : decode b_Findings_riskOn 9 = .ok (.ireturn, 1) := by decide +kernel
theorem d_Findings_riskOn_10 : decode b_Findings_riskOn 10 = .ok (.aload_n 0, 1) := by decide +kernel
theorem d_Findings_riskOn_11 : decode b_Findings_riskOn 11 = .ok (.iload_n 1, 1) := by decide +kernel
theorem d_Findings_riskOn_12 : decode b_Findings_riskOn 12 = .ok (.iload_n 2, 1) := by decide +kernel
theorem d_Findings_riskOn_13 : decode b_Findings_riskOn 13 = .ok (.invokevirtual 32, 3) := by decide +kernel
theorem d_Findings_riskOn_16 : decode b_Findings_riskOn 16 = .ok (.ifCond .eq 14, 3) := by decide +kernel
theorem d_Findings_riskOn_19 : decode b_Findings_riskOn 19 = .ok (.iconst 2, 1) := by decide +kernel
theorem d_Findings_riskOn_20 : decode b_Findings_riskOn 20 = .ok (.aload_n 0, 1) := by decide +kernel
theorem d_Findings_riskOn_21 : decode b_Findings_riskOn 21 = .ok (.getfield 15, 3) := by decide +kernel
theorem d_Findings_riskOn_24 : decode b_Findings_riskOn 24 = .ok (.iload_n 1, 1) := by decide +kernel
theorem d_Findings_riskOn_25 : decode b_Findings_riskOn 25 = .ok (.iaload, 1) := by decide +kernel
theorem d_Findings_riskOn_26 : decode b_Findings_riskOn 26 = .ok (.imul, 1) := by decide +kernel
theorem d_Findings_riskOn_27 : decode b_Findings_riskOn 27 = .ok (.goto 9, 3) := by decide +kernel
theorem d_Findings_riskOn_30 : decode b_Findings_riskOn 30 = .ok (.aload_n 0, 1) := by decide +kernel
theorem d_Findings_riskOn_31 : decode b_Findings_riskOn 31 = .ok (.getfield 15, 3) := by decide +kernel
theorem d_Findings_riskOn_34 : decode b_Findings_riskOn 34 = .ok (.iload_n 1, 1) := by decide +kernel
theorem d_Findings_riskOn_35 : decode b_Findings_riskOn 35 = .ok (.iaload, 1) := by decide +kernel
theorem d_Findings_riskOn_36 : decode b_Findings_riskOn 36 = .ok (.ireturn, 1) := by decide +kernel
set_option maxHeartbeats 4000000 in
set_option maxRecDepth 100000 in
theorem c_Findings_riskOn (l : Launch) (dC : Nat → ClassId) (dI : Nat → Nat → Nat) (L : Nat → Nat) (cA : Nat → ClassId) (ar : Nat → Nat → Int32) (sc : Nat → Int32) (a0 : Int32) (a1 : Int32) (h : p_Findings_riskOn ar sc a0 a1) : Met l y_Findings_riskOn z_Findings_riskOn (rmD 2) (va_Pc [.ref (L 12), .int a0, .int a1] (fun U => xw_I dC dI L cA ar sc U)) (QcRead (f_Findings_riskOn ar sc a0 a1)) 0 0 (fun _ => False) := by
  refine Met.ofW (cc := b_Findings_riskOn) (maxL := 3) (ret := (some .int)) (by decide) rfl ?_
  intro p e s m args below meth c s₁ B hml hv
  obtain ⟨rfl, ⟨hP, hK⟩⟩ := hv
  have hx := B.exec
  have hb := B.bytes
  have hr := B.returns
  have hts : ∀ w ∈ w_all, w.before _ s = true := fun w hw => atoms_spec (ws := z_Findings_riskOn) B.pre w (List.mem_cons_of_mem _ hw)
  have hown : s.vm.findClass R_Findings = some m.cls := findClass_of_methodNamed B.named
  have hlocks := B.notSynchronized
  have hF : CallFix p m c b_Findings_riskOn 3 s _ w_all R_Findings := ⟨hx, hb, hml, hown, hts⟩
  have hl := lv_entry ([.ref (L 12), .int a0, .int a1]) (n := 3) (Nat.le_of_ble_eq_true rfl)
  rw [lg_entry_eq]
  generalize (lg_sl ([.ref (L 12), .int a0, .int a1]) ++ List.replicate (3 - (lg_sl ([.ref (L 12), .int a0, .int a1])).length) Slot.unset).toArray = ls at hl ⊢
  have hl : lv_has ls 3 [(0, .ref (L 12)), (1, .int a0), (2, .int a1)] := hl
  unfold p_Findings_riskOn at h
  refine lv_aload_n hx hb d_Findings_riskOn_0 rfl (lv_at hl 0 rfl) ?_
  refine lv_iload_n hx hb d_Findings_riskOn_1 rfl (lv_at hl 1 rfl) ?_
  have k2 := h.1
  have h := h.2
  refine r_Findings_isOpen hF hK hP k2 m_5 hl.1 ⟨Nat.le_of_ble_eq_true rfl, Nat.le_of_ble_eq_true rfl⟩ ⟨Nat.zero_le _, Nat.zero_le _⟩ (Nat.le_of_ble_eq_true rfl) d_Findings_riskOn_2 ?_
  refine lv_if_ne (tgt := 10) hx hb d_Findings_riskOn_5 (by decide) (fun c5 => ?_) (fun c5 => ?_)
  · have h := h.2 c5
    refine lv_aload_n hx hb d_Findings_riskOn_10 rfl (lv_at hl 0 rfl) ?_
    refine lv_iload_n hx hb d_Findings_riskOn_11 rfl (lv_at hl 1 rfl) ?_
    refine lv_iload_n hx hb d_Findings_riskOn_12 rfl (lv_at hl 2 rfl) ?_
    have k13 := h.1
    have h := h.2
    refine r_Findings_isMissed hF hK hP k13 m_10 hl.1 ⟨Nat.le_of_ble_eq_true rfl, Nat.le_of_ble_eq_true rfl⟩ ⟨Nat.zero_le _, Nat.zero_le _⟩ (Nat.le_of_ble_eq_true rfl) d_Findings_riskOn_13 ?_
    refine lv_if_eq (tgt := 30) hx hb d_Findings_riskOn_16 (by decide) (fun c16 => ?_) (fun c16 => ?_)
    · have h := h.1 c16
      refine lv_aload_n hx hb d_Findings_riskOn_30 rfl (lv_at hl 0 rfl) ?_
      refine gf_Findings_weights hF hK hP m_11 d_Findings_riskOn_31 ?_
      refine lv_iload_n hx hb d_Findings_riskOn_34 rfl (lv_at hl 1 rfl) ?_
      have k35 := h
      refine alI_14 hF hK hP k35 d_Findings_riskOn_35 ?_
      have hv : (ar 14 a0.toNatClampNeg : Int32) = f_Findings_riskOn ar sc a0 a1 := by rw [f_Findings_riskOn, if_neg c5, if_pos c16]
      exact W.iret (v := ar 14 a0.toNatClampNeg) hx hb hr (fun t ht hW => ⟨congrArg (fun z => Outcome.returned (some (Value.int z))) hv, ht⟩) (fun _ h9 => nomatch h9) d_Findings_riskOn_36
    · have h := h.2 c16
      refine lv_iconst (v := 2) hx hb d_Findings_riskOn_19 (by decide) ?_
      refine lv_aload_n hx hb d_Findings_riskOn_20 rfl (lv_at hl 0 rfl) ?_
      refine gf_Findings_weights hF hK hP m_11 d_Findings_riskOn_21 ?_
      refine lv_iload_n hx hb d_Findings_riskOn_24 rfl (lv_at hl 1 rfl) ?_
      have k25 := h
      refine alI_14 hF hK hP k25 d_Findings_riskOn_25 ?_
      refine lv_imul hx hb d_Findings_riskOn_26 ?_
      refine lv_goto (tgt := 36) hx hb d_Findings_riskOn_27 (by decide) ?_
      have hv : (2 * (ar 14 a0.toNatClampNeg) : Int32) = f_Findings_riskOn ar sc a0 a1 := by rw [f_Findings_riskOn, if_neg c5, if_neg c16]
      exact W.iret (v := 2 * (ar 14 a0.toNatClampNeg)) hx hb hr (fun t ht hW => ⟨congrArg (fun z => Outcome.returned (some (Value.int z))) hv, ht⟩) (fun _ h9 => nomatch h9) d_Findings_riskOn_36
  · have h := h.1 c5
    refine lv_iconst (v := 0) hx hb d_Findings_riskOn_8 (by decide) ?_
    have hv : (0 : Int32) = f_Findings_riskOn ar sc a0 a1 := by rw [f_Findings_riskOn, if_pos c5]
    exact W.iret (v := 0) hx hb hr (fun t ht hW => ⟨congrArg (fun z => Outcome.returned (some (Value.int z))) hv, ht⟩) (fun _ h9 => nomatch h9) d_Findings_riskOn_9
set_option maxHeartbeats 1000000 in
theorem r_Findings_riskOn {p : Program} {l : Launch} {e : Env} {R : Room} {s : State} {m : MethodId} {args : Array Value} {below : List Frame} {meth : Method} {c : Code} {H : Heap} {locs : List Loc} {cells slots : Nat} {Q : State → Prop} {cc : ByteArray} {nL pc idx : Nat} {ls : Array Slot} {rest : List Value} {own : String} {dC : Nat → ClassId} {dI : Nat → Nat → Nat} {L : Nat → Nat} {cA : Nat → ClassId} {ar : Nat → Nat → Int32} {sc : Nat → Int32} {a0 : Int32} {a1 : Int32} (hF : CallFix p m c cc nL s args w_all own) (hK : kW_I dC dI cA s) (hP : va_P (dC, dI) classes (wI L cA ar sc) H) (h : p_Findings_riskOn ar sc a0 a1) (hlk : Cond.methodLink own idx y_Findings_riskOn ∈ w_all) (hsz : ls.size = nL) (hR : (rmD 2).frames + 1 ≤ R.frames ∧ 8 + (3 + 11) + (rmD 2).locals ≤ R.locals) (hc : cells ≤ R.cells ∧ slots ≤ R.slots) (hrs : (rest.map fun v => v.category).sum ≤ 8) (hdg : decode cc pc = .ok (.invokevirtual idx, 3)) (kk : W p l e R s m args below meth c H locs cells slots Q (F0 m (pc + 3) ls (.int (f_Findings_riskOn ar sc a0 a1) :: rest))) : W p l e R s m args below meth c H locs cells slots Q (F0 m pc ls (.int a1 :: .int a0 :: .ref (L 12) :: rest)) :=
  W.callR (W.runV (As := [.int a0, .int a1]) (rest := rest) hF (c_Findings_riskOn l dC dI L cA ar sc a0 a1 h) (cwV 2 hF.2.2.2.2 (gV hlk m_12 m_13 m_3 m_14) rfl rfl rfl (by decide +kernel) hR) ⟨xb_I, va_recv hK.1 hP (ci := 3) (q0 := 12) rfl rfl, fun U hU hW => ⟨rfl, by rw [hU]; exact hP, kW_I_warm hW hK⟩⟩ rfl rfl hsz rfl (lv_room hrs) hdg hc) kk
theorem d_Findings_countOpen_0 : decode b_Findings_countOpen 0 = .ok (.iconst 0, 1) := by decide +kernel
theorem d_Findings_countOpen_1 : decode b_Findings_countOpen 1 = .ok (.istore_n 2, 1) := by decide +kernel
theorem d_Findings_countOpen_2 : decode b_Findings_countOpen 2 = .ok (.iconst 0, 1) := by decide +kernel
theorem d_Findings_countOpen_3 : decode b_Findings_countOpen 3 = .ok (.istore_n 3, 1) := by decide +kernel
theorem d_Findings_countOpen_4 : decode b_Findings_countOpen 4 = .ok (.iload_n 3, 1) := by decide +kernel
theorem d_Findings_countOpen_5 : decode b_Findings_countOpen 5 = .ok (.aload_n 0, 1) := by decide +kernel
theorem d_Findings_countOpen_6 : decode b_Findings_countOpen 6 = .ok (.getfield 24, 3) := by decide +kernel
theorem d_Findings_countOpen_9 : decode b_Findings_countOpen 9 = .ok (.if_icmp .ge 30, 3) := by decide +kernel
theorem d_Findings_countOpen_12 : decode b_Findings_countOpen 12 = .ok (.aload_n 0, 1) := by decide +kernel
theorem d_Findings_countOpen_13 : decode b_Findings_countOpen 13 = .ok (.getfield 9, 3) := by decide +kernel
theorem d_Findings_countOpen_16 : decode b_Findings_countOpen 16 = .ok (.iload_n 3, 1) := by decide +kernel
theorem d_Findings_countOpen_17 : decode b_Findings_countOpen 17 = .ok (.iaload, 1) := by decide +kernel
theorem d_Findings_countOpen_18 : decode b_Findings_countOpen 18 = .ok (.iload_n 1, 1) := by decide +kernel
theorem d_Findings_countOpen_19 : decode b_Findings_countOpen 19 = .ok (.if_icmp .ne 14, 3) := by decide +kernel
theorem d_Findings_countOpen_22 : decode b_Findings_countOpen 22 = .ok (.aload_n 0, 1) := by decide +kernel
theorem d_Findings_countOpen_23 : decode b_Findings_countOpen 23 = .ok (.iload_n 3, 1) := by decide +kernel
theorem d_Findings_countOpen_24 : decode b_Findings_countOpen 24 = .ok (.invokevirtual 28, 3) := by decide +kernel
theorem d_Findings_countOpen_27 : decode b_Findings_countOpen 27 = .ok (.ifCond .eq 6, 3) := by decide +kernel
theorem d_Findings_countOpen_30 : decode b_Findings_countOpen 30 = .ok (.iinc 2 1, 3) := by decide +kernel
theorem d_Findings_countOpen_33 : decode b_Findings_countOpen 33 = .ok (.iinc 3 1, 3) := by decide +kernel
theorem d_Findings_countOpen_36 : decode b_Findings_countOpen 36 = .ok (.goto (-32), 3) := by decide +kernel
theorem d_Findings_countOpen_39 : decode b_Findings_countOpen 39 = .ok (.iload_n 2, 1) := by decide +kernel
theorem d_Findings_countOpen_40 : decode b_Findings_countOpen 40 = .ok (.ireturn, 1) := by decide +kernel
set_option maxHeartbeats 4000000 in
set_option maxRecDepth 100000 in
theorem l_Findings_countOpen_4 {p : Program} {l : Launch} {e : Env} {s : State} {m : MethodId} {args : Array Value} {below : List Frame} {meth : Method} {c : Code} {dC : Nat → ClassId} {dI : Nat → Nat → Nat} {L : Nat → Nat} {cA : Nat → ClassId} {ar : Nat → Nat → Int32} {sc : Nat → Int32} {Q : State → Prop} {H : Heap} {locs : List Loc} (a0 : Int32)  (hF : CallFix p m c b_Findings_countOpen 4 s args w_all R_Findings) (hK : kW_I dC dI cA s) (hP : va_P (dC, dI) classes (wI L cA ar sc) H) : ∀ (n : Nat) (v2 : Int32) (v3 : Int32), q_Findings_countOpen_4 ar sc a0 n v2 v3 → ∀ (ls : Array Slot), lv_has ls 4 [(2, .int v2), (3, .int v3), (0, .ref (L 12)), (1, .int a0)] → (∀ (ls : Array Slot), lv_has ls 4 [(2, .int ((g_Findings_countOpen_4 ar sc a0 n v2 v3).1)), (3, .int ((g_Findings_countOpen_4 ar sc a0 n v2 v3).2)), (0, .ref (L 12)), (1, .int a0)] → W p l e (rmD 1) s m args below meth c H locs 0 0 Q (F0 m 39 ls [])) → W p l e (rmD 1) s m args below meth c H locs 0 0 Q (F0 m 4 ls []) := by
  have hx := hF.1
  have hb := hF.2.1
  have hown := hF.2.2.2.1
  have hts := hF.2.2.2.2
  intro n
  induction n with
  | zero => intro v2 v3 h; exact False.elim h
  | succ n ih =>
    intro v2 v3 h ls hl hk
    rw [q_Findings_countOpen_4] at h
    refine lv_iload_n hx hb d_Findings_countOpen_4 rfl (lv_at hl 1 rfl) ?_
    refine lv_aload_n hx hb d_Findings_countOpen_5 rfl (lv_at hl 2 rfl) ?_
    refine gf_Findings_count hF hK hP m_15 d_Findings_countOpen_6 ?_
    refine lv_icmp_ge (tgt := 39) hx hb d_Findings_countOpen_9 (by decide) (fun c9 => ?_) (fun c9 => ?_)
    · have h := h.1 c9
      have hv : g_Findings_countOpen_4 ar sc a0 (n + 1) v2 v3 = ((v2, v3) : Int32 × Int32) := by rw [g_Findings_countOpen_4, if_pos c9]
      rw [hv] at hk
      exact hk ls (lv_sub hl [0, 1, 2, 3] rfl)
    · have h := h.2 c9
      refine lv_aload_n hx hb d_Findings_countOpen_12 rfl (lv_at hl 2 rfl) ?_
      refine gf_Findings_points hF hK hP m_16 d_Findings_countOpen_13 ?_
      refine lv_iload_n hx hb d_Findings_countOpen_16 rfl (lv_at hl 1 rfl) ?_
      have k17 := h.1
      have h := h.2
      refine alI_13 hF hK hP k17 d_Findings_countOpen_17 ?_
      refine lv_iload_n hx hb d_Findings_countOpen_18 rfl (lv_at hl 3 rfl) ?_
      refine lv_icmp_ne (tgt := 33) hx hb d_Findings_countOpen_19 (by decide) (fun c19 => ?_) (fun c19 => ?_)
      · have h := h.2 c19
        refine lv_iinc (v := v3 + 1) (lv' := [(3, .int (v3 + 1)), (2, .int v2), (0, .ref (L 12)), (1, .int a0)]) hx hb d_Findings_countOpen_33 hl (k := 1) rfl rfl (by decide) rfl (fun ls hl => ?_)
        refine lv_goto (tgt := 4) hx hb d_Findings_countOpen_36 (by decide) ?_
        have hv : g_Findings_countOpen_4 ar sc a0 (n + 1) v2 v3 = g_Findings_countOpen_4 ar sc a0 n v2 (v3 + 1) := by rw [g_Findings_countOpen_4, if_neg c9, if_neg c19]
        rw [hv] at hk
        exact ih v2 (v3 + 1) h ls (lv_sub hl [1, 0, 2, 3] rfl) hk
      · have h := h.1 c19
        refine lv_aload_n hx hb d_Findings_countOpen_22 rfl (lv_at hl 2 rfl) ?_
        refine lv_iload_n hx hb d_Findings_countOpen_23 rfl (lv_at hl 1 rfl) ?_
        have k24 := h.1
        have h := h.2
        refine r_Findings_isOpen hF hK hP k24 m_5 hl.1 ⟨Nat.le_of_ble_eq_true rfl, Nat.le_of_ble_eq_true rfl⟩ ⟨Nat.zero_le _, Nat.zero_le _⟩ (Nat.le_of_ble_eq_true rfl) d_Findings_countOpen_24 ?_
        refine lv_if_eq (tgt := 33) hx hb d_Findings_countOpen_27 (by decide) (fun c27 => ?_) (fun c27 => ?_)
        · have h := h.1 c27
          refine lv_iinc (v := v3 + 1) (lv' := [(3, .int (v3 + 1)), (2, .int v2), (0, .ref (L 12)), (1, .int a0)]) hx hb d_Findings_countOpen_33 hl (k := 1) rfl rfl (by decide) rfl (fun ls hl => ?_)
          refine lv_goto (tgt := 4) hx hb d_Findings_countOpen_36 (by decide) ?_
          have hv : g_Findings_countOpen_4 ar sc a0 (n + 1) v2 v3 = g_Findings_countOpen_4 ar sc a0 n v2 (v3 + 1) := by rw [g_Findings_countOpen_4, if_neg c9, if_pos c19, if_pos c27]
          rw [hv] at hk
          exact ih v2 (v3 + 1) h ls (lv_sub hl [1, 0, 2, 3] rfl) hk
        · have h := h.2 c27
          refine lv_iinc (v := v2 + 1) (lv' := [(2, .int (v2 + 1)), (3, .int v3), (0, .ref (L 12)), (1, .int a0)]) hx hb d_Findings_countOpen_30 hl (k := 0) rfl rfl (by decide) rfl (fun ls hl => ?_)
          refine lv_iinc (v := v3 + 1) (lv' := [(3, .int (v3 + 1)), (2, .int (v2 + 1)), (0, .ref (L 12)), (1, .int a0)]) hx hb d_Findings_countOpen_33 hl (k := 1) rfl rfl (by decide) rfl (fun ls hl => ?_)
          refine lv_goto (tgt := 4) hx hb d_Findings_countOpen_36 (by decide) ?_
          have hv : g_Findings_countOpen_4 ar sc a0 (n + 1) v2 v3 = g_Findings_countOpen_4 ar sc a0 n (v2 + 1) (v3 + 1) := by rw [g_Findings_countOpen_4, if_neg c9, if_pos c19, if_neg c27]
          rw [hv] at hk
          exact ih (v2 + 1) (v3 + 1) h ls (lv_sub hl [1, 0, 2, 3] rfl) hk
set_option maxHeartbeats 4000000 in
set_option maxRecDepth 100000 in
theorem c_Findings_countOpen (l : Launch) (dC : Nat → ClassId) (dI : Nat → Nat → Nat) (L : Nat → Nat) (cA : Nat → ClassId) (ar : Nat → Nat → Int32) (sc : Nat → Int32) (a0 : Int32) (h : p_Findings_countOpen ar sc a0) : Met l y_Findings_countOpen z_Findings_countOpen (rmD 1) (va_Pc [.ref (L 12), .int a0] (fun U => xw_I dC dI L cA ar sc U)) (QcRead (f_Findings_countOpen ar sc a0)) 0 0 (fun _ => False) := by
  refine Met.ofW (cc := b_Findings_countOpen) (maxL := 4) (ret := (some .int)) (by decide) rfl ?_
  intro p e s m args below meth c s₁ B hml hv
  obtain ⟨rfl, ⟨hP, hK⟩⟩ := hv
  have hx := B.exec
  have hb := B.bytes
  have hr := B.returns
  have hts : ∀ w ∈ w_all, w.before _ s = true := fun w hw => atoms_spec (ws := z_Findings_countOpen) B.pre w (List.mem_cons_of_mem _ hw)
  have hown : s.vm.findClass R_Findings = some m.cls := findClass_of_methodNamed B.named
  have hlocks := B.notSynchronized
  have hF : CallFix p m c b_Findings_countOpen 4 s _ w_all R_Findings := ⟨hx, hb, hml, hown, hts⟩
  have hl := lv_entry ([.ref (L 12), .int a0]) (n := 4) (Nat.le_of_ble_eq_true rfl)
  rw [lg_entry_eq]
  generalize (lg_sl ([.ref (L 12), .int a0]) ++ List.replicate (4 - (lg_sl ([.ref (L 12), .int a0])).length) Slot.unset).toArray = ls at hl ⊢
  have hl : lv_has ls 4 [(0, .ref (L 12)), (1, .int a0)] := hl
  unfold p_Findings_countOpen at h
  refine lv_iconst (v := 0) hx hb d_Findings_countOpen_0 (by decide) ?_
  refine lv_istore_n (lv' := [(2, .int 0), (0, .ref (L 12)), (1, .int a0)]) hx hb d_Findings_countOpen_1 rfl hl (by decide) rfl (fun ls hl => ?_)
  refine lv_iconst (v := 0) hx hb d_Findings_countOpen_2 (by decide) ?_
  refine lv_istore_n (lv' := [(3, .int 0), (2, .int 0), (0, .ref (L 12)), (1, .int a0)]) hx hb d_Findings_countOpen_3 rfl hl (by decide) rfl (fun ls hl => ?_)
  have kL4 := h
  refine l_Findings_countOpen_4 a0 hF hK hP 200 0 0 kL4 ls (lv_sub hl [1, 0, 2, 3] rfl) (fun ls hl => ?_)
  refine lv_iload_n hx hb d_Findings_countOpen_39 rfl (lv_at hl 0 rfl) ?_
  have hv : ((g_Findings_countOpen_4 ar sc a0 200 0 0).1 : Int32) = f_Findings_countOpen ar sc a0 := by rw [f_Findings_countOpen]
  exact W.iret (v := (g_Findings_countOpen_4 ar sc a0 200 0 0).1) hx hb hr (fun t ht hW => ⟨congrArg (fun z => Outcome.returned (some (Value.int z))) hv, ht⟩) (fun _ h9 => nomatch h9) d_Findings_countOpen_40
set_option maxHeartbeats 1000000 in
theorem r_Findings_countOpen {p : Program} {l : Launch} {e : Env} {R : Room} {s : State} {m : MethodId} {args : Array Value} {below : List Frame} {meth : Method} {c : Code} {H : Heap} {locs : List Loc} {cells slots : Nat} {Q : State → Prop} {cc : ByteArray} {nL pc idx : Nat} {ls : Array Slot} {rest : List Value} {own : String} {dC : Nat → ClassId} {dI : Nat → Nat → Nat} {L : Nat → Nat} {cA : Nat → ClassId} {ar : Nat → Nat → Int32} {sc : Nat → Int32} {a0 : Int32} (hF : CallFix p m c cc nL s args w_all own) (hK : kW_I dC dI cA s) (hP : va_P (dC, dI) classes (wI L cA ar sc) H) (h : p_Findings_countOpen ar sc a0) (hlk : Cond.methodLink own idx y_Findings_countOpen ∈ w_all) (hsz : ls.size = nL) (hR : (rmD 1).frames + 1 ≤ R.frames ∧ 8 + (4 + 11) + (rmD 1).locals ≤ R.locals) (hc : cells ≤ R.cells ∧ slots ≤ R.slots) (hrs : (rest.map fun v => v.category).sum ≤ 8) (hdg : decode cc pc = .ok (.invokevirtual idx, 3)) (kk : W p l e R s m args below meth c H locs cells slots Q (F0 m (pc + 3) ls (.int (f_Findings_countOpen ar sc a0) :: rest))) : W p l e R s m args below meth c H locs cells slots Q (F0 m pc ls (.int a0 :: .ref (L 12) :: rest)) :=
  W.callR (W.runV (As := [.int a0]) (rest := rest) hF (c_Findings_countOpen l dC dI L cA ar sc a0 h) (cwV 1 hF.2.2.2.2 (gV hlk m_17 m_18 m_3 m_19) rfl rfl rfl (by decide +kernel) hR) ⟨xb_I, va_recv hK.1 hP (ci := 3) (q0 := 12) rfl rfl, fun U hU hW => ⟨rfl, by rw [hU]; exact hP, kW_I_warm hW hK⟩⟩ rfl rfl hsz rfl (lv_room hrs) hdg hc) kk
theorem d_Findings_add_0 : decode b_Findings_add 0 = .ok (.aload_n 0, 1) := by decide +kernel
theorem d_Findings_add_1 : decode b_Findings_add 1 = .ok (.getfield 24, 3) := by decide +kernel
theorem d_Findings_add_4 : decode b_Findings_add 4 = .ok (.istore 4, 2) := by decide +kernel
theorem d_Findings_add_6 : decode b_Findings_add 6 = .ok (.aload_n 0, 1) := by decide +kernel
theorem d_Findings_add_7 : decode b_Findings_add 7 = .ok (.getfield 9, 3) := by decide +kernel
theorem d_Findings_add_10 : decode b_Findings_add 10 = .ok (.iload 4, 2) := by decide +kernel
theorem d_Findings_add_12 : decode b_Findings_add 12 = .ok (.iload_n 1, 1) := by decide +kernel
theorem d_Findings_add_13 : decode b_Findings_add 13 = .ok (.iastore, 1) := by decide +kernel
theorem d_Findings_add_14 : decode b_Findings_add 14 = .ok (.aload_n 0, 1) := by decide +kernel
theorem d_Findings_add_15 : decode b_Findings_add 15 = .ok (.getfield 15, 3) := by decide +kernel
theorem d_Findings_add_18 : decode b_Findings_add 18 = .ok (.iload 4, 2) := by decide +kernel
theorem d_Findings_add_20 : decode b_Findings_add 20 = .ok (.iload_n 2, 1) := by decide +kernel
theorem d_Findings_add_21 : decode b_Findings_add 21 = .ok (.iastore, 1) := by decide +kernel
theorem d_Findings_add_22 : decode b_Findings_add 22 = .ok (.aload_n 0, 1) := by decide +kernel
theorem d_Findings_add_23 : decode b_Findings_add 23 = .ok (.getfield 18, 3) := by decide +kernel
theorem d_Findings_add_26 : decode b_Findings_add 26 = .ok (.iload 4, 2) := by decide +kernel
theorem d_Findings_add_28 : decode b_Findings_add 28 = .ok (.iload_n 3, 1) := by decide +kernel
theorem d_Findings_add_29 : decode b_Findings_add 29 = .ok (.iastore, 1) := by decide +kernel
theorem d_Findings_add_30 : decode b_Findings_add 30 = .ok (.aload_n 0, 1) := by decide +kernel
theorem d_Findings_add_31 : decode b_Findings_add 31 = .ok (.getfield 21, 3) := by decide +kernel
theorem d_Findings_add_34 : decode b_Findings_add 34 = .ok (.iload 4, 2) := by decide +kernel
theorem d_Findings_add_36 : decode b_Findings_add 36 = .ok (.iconst 0, 1) := by decide +kernel
theorem d_Findings_add_37 : decode b_Findings_add 37 = .ok (.iastore, 1) := by decide +kernel
theorem d_Findings_add_38 : decode b_Findings_add 38 = .ok (.aload_n 0, 1) := by decide +kernel
theorem d_Findings_add_39 : decode b_Findings_add 39 = .ok (.dup, 1) := by decide +kernel
theorem d_Findings_add_40 : decode b_Findings_add 40 = .ok (.getfield 24, 3) := by decide +kernel
theorem d_Findings_add_43 : decode b_Findings_add 43 = .ok (.iconst 1, 1) := by decide +kernel
theorem d_Findings_add_44 : decode b_Findings_add 44 = .ok (.iadd, 1) := by decide +kernel
theorem d_Findings_add_45 : decode b_Findings_add 45 = .ok (.putfield 24, 3) := by decide +kernel
theorem d_Findings_add_48 : decode b_Findings_add 48 = .ok (.iload 4, 2) := by decide +kernel
theorem d_Findings_add_50 : decode b_Findings_add 50 = .ok (.ireturn, 1) := by decide +kernel
set_option maxHeartbeats 4000000 in
set_option maxRecDepth 100000 in
theorem c_Findings_add (l : Launch) (dC : Nat → ClassId) (dI : Nat → Nat → Nat) (L : Nat → Nat) (cA : Nat → ClassId) (ar : Nat → Nat → Int32) (sc : Nat → Int32) (a0 : Int32) (a1 : Int32) (a2 : Int32) (hL : ij 38 L) (h : p_Findings_add ar sc a0 a1 a2) : Met l y_Findings_add z_Findings_add (rmD 0) (va_Pc [.ref (L 12), .int a0, .int a1, .int a2] (fun U => xw_I dC dI L cA ar sc U)) (va_Qi (fun (r : Int32) (u : oS) => (r, u.1, u.2) = f_Findings_add ar sc a0 a1 a2) (fun u t => va_P (dC, dI) classes (wI L cA u.1 u.2) t.heap) (aI L)) 0 0 (aI L) := by
  refine Met.ofW (cc := b_Findings_add) (maxL := 5) (ret := (some .int)) (by decide) rfl ?_
  intro p e s m args below meth c s₁ B hml hv
  obtain ⟨rfl, ⟨hP, hK⟩⟩ := hv
  have hx := B.exec
  have hb := B.bytes
  have hr := B.returns
  have hts : ∀ w ∈ w_all, w.before _ s = true := fun w hw => atoms_spec (ws := z_Findings_add) B.pre w (List.mem_cons_of_mem _ hw)
  have hown : s.vm.findClass R_Findings = some m.cls := findClass_of_methodNamed B.named
  have hlocks := B.notSynchronized
  have hF : CallFix p m c b_Findings_add 5 s _ w_all R_Findings := ⟨hx, hb, hml, hown, hts⟩
  have hS : va_S (aI L) s.heap s.heap [] := va_S.rf
  have hl := lv_entry ([.ref (L 12), .int a0, .int a1, .int a2]) (n := 5) (Nat.le_of_ble_eq_true rfl)
  rw [lg_entry_eq]
  generalize (lg_sl ([.ref (L 12), .int a0, .int a1, .int a2]) ++ List.replicate (5 - (lg_sl ([.ref (L 12), .int a0, .int a1, .int a2])).length) Slot.unset).toArray = ls at hl ⊢
  have hl : lv_has ls 5 [(0, .ref (L 12)), (1, .int a0), (2, .int a1), (3, .int a2)] := hl
  unfold p_Findings_add at h
  refine lv_aload_n hx hb d_Findings_add_0 rfl (lv_at hl 0 rfl) ?_
  refine gf_Findings_count hF hK hP m_15 d_Findings_add_1 ?_
  refine lv_istore (lv' := [(4, .int (sc 2)), (0, .ref (L 12)), (1, .int a0), (2, .int a1), (3, .int a2)]) hx hb d_Findings_add_4 hl (by decide) rfl (fun ls hl => ?_)
  refine lv_aload_n hx hb d_Findings_add_6 rfl (lv_at hl 1 rfl) ?_
  refine gf_Findings_points hF hK hP m_16 d_Findings_add_7 ?_
  refine lv_iload hx hb d_Findings_add_10 (lv_at hl 0 rfl) ?_
  refine lv_iload_n hx hb d_Findings_add_12 rfl (lv_at hl 2 rfl) ?_
  have k13 := h.1
  have h := h.2
  refine asI_13 hF hK hP hL hS k13 d_Findings_add_13 (fun H locs hP hS => ?_)
  refine lv_aload_n hx hb d_Findings_add_14 rfl (lv_at hl 1 rfl) ?_
  refine gf_Findings_weights hF hK hP m_11 d_Findings_add_15 ?_
  refine lv_iload hx hb d_Findings_add_18 (lv_at hl 0 rfl) ?_
  refine lv_iload_n hx hb d_Findings_add_20 rfl (lv_at hl 3 rfl) ?_
  have k21 := h.1
  have h := h.2
  refine asI_14 hF hK hP hL hS k21 d_Findings_add_21 (fun H locs hP hS => ?_)
  refine lv_aload_n hx hb d_Findings_add_22 rfl (lv_at hl 1 rfl) ?_
  refine gf_Findings_days hF hK hP m_6 d_Findings_add_23 ?_
  refine lv_iload hx hb d_Findings_add_26 (lv_at hl 0 rfl) ?_
  refine lv_iload_n hx hb d_Findings_add_28 rfl (lv_at hl 4 rfl) ?_
  have k29 := h.1
  have h := h.2
  refine asI_15 hF hK hP hL hS k29 d_Findings_add_29 (fun H locs hP hS => ?_)
  refine lv_aload_n hx hb d_Findings_add_30 rfl (lv_at hl 1 rfl) ?_
  refine gf_Findings_proofs hF hK hP m_0 d_Findings_add_31 ?_
  refine lv_iload hx hb d_Findings_add_34 (lv_at hl 0 rfl) ?_
  refine lv_iconst (v := 0) hx hb d_Findings_add_36 (by decide) ?_
  have k37 := h
  refine asI_16 hF hK hP hL hS k37 d_Findings_add_37 (fun H locs hP hS => ?_)
  refine lv_aload_n hx hb d_Findings_add_38 rfl (lv_at hl 1 rfl) ?_
  refine lv_dup hx hb d_Findings_add_39 rfl ?_
  refine gf_Findings_count hF hK hP m_15 d_Findings_add_40 ?_
  refine lv_iconst (v := 1) hx hb d_Findings_add_43 (by decide) ?_
  refine lv_iadd hx hb d_Findings_add_44 ?_
  refine pf_Findings_count hF hK hP hL hS m_15 d_Findings_add_45 (fun H locs hP hS => ?_)
  refine lv_iload hx hb d_Findings_add_48 (lv_at hl 0 rfl) ?_
  have hv : ((sc 2, s2 (s2 (s2 (s2 ar 13 ((sc 2).toNatClampNeg) a0) 14 ((sc 2).toNatClampNeg) a1) 15 ((sc 2).toNatClampNeg) a2) 16 ((sc 2).toNatClampNeg) 0, sg sc 2 ((sc 2) + 1)) : Int32 × (Nat → Nat → Int32) × (Nat → Int32)) = f_Findings_add ar sc a0 a1 a2 := by rw [f_Findings_add]
  exact W.iret (v := sc 2) hx hb hr (fun t ht hW => ⟨⟨sc 2, (s2 (s2 (s2 (s2 ar 13 ((sc 2).toNatClampNeg) a0) 14 ((sc 2).toNatClampNeg) a1) 15 ((sc 2).toNatClampNeg) a2) 16 ((sc 2).toNatClampNeg) 0, sg sc 2 ((sc 2) + 1)), rfl, hv, by dsimp only; rw [ht]; exact hP⟩, hS.F ht⟩) hS.2.2 d_Findings_add_50
set_option maxHeartbeats 1000000 in
theorem r_Findings_add {p : Program} {l : Launch} {e : Env} {R : Room} {s : State} {m : MethodId} {args : Array Value} {below : List Frame} {meth : Method} {c : Code} {H : Heap} {locs : List Loc} {cells slots : Nat} {Q : State → Prop} {cc : ByteArray} {nL pc idx : Nat} {ls : Array Slot} {rest : List Value} {own : String} {dC : Nat → ClassId} {dI : Nat → Nat → Nat} {L : Nat → Nat} {cA : Nat → ClassId} {ar : Nat → Nat → Int32} {sc : Nat → Int32} {H0 : Heap} {a0 : Int32} {a1 : Int32} {a2 : Int32} (hF : CallFix p m c cc nL s args w_all own) (hK : kW_I dC dI cA s) (hP : va_P (dC, dI) classes (wI L cA ar sc) H) (hL : ij 38 L) (hS : va_S (aI L) H0 H locs) (h : p_Findings_add ar sc a0 a1 a2) (hlk : Cond.methodLink own idx y_Findings_add ∈ w_all) (hsz : ls.size = nL) (hR : (rmD 0).frames + 1 ≤ R.frames ∧ 8 + (5 + 11) + (rmD 0).locals ≤ R.locals) (hc : cells ≤ R.cells ∧ slots ≤ R.slots) (hrs : (rest.map fun v => v.category).sum ≤ 8) (hdg : decode cc pc = .ok (.invokevirtual idx, 3)) (kk : ∀ (H1 : Heap) (locs1 : List Loc), va_P (dC, dI) classes (wI L cA ((f_Findings_add ar sc a0 a1 a2).2.1) ((f_Findings_add ar sc a0 a1 a2).2.2)) H1 → va_S (aI L) H0 H1 locs1 → W p l e R s m args below meth c H1 locs1 cells slots Q (F0 m (pc + 3) ls (.int (f_Findings_add ar sc a0 a1 a2).1 :: rest))) : W p l e R s m args below meth c H locs cells slots Q (F0 m pc ls (.int a2 :: .int a1 :: .int a0 :: .ref (L 12) :: rest)) :=
  va_calli (va_runV (As := [.int a0, .int a1, .int a2]) (rest := rest) hF (c_Findings_add l dC dI L cA ar sc a0 a1 a2 hL h) (cwV 3 hF.2.2.2.2 (gV hlk m_20 m_21 m_3 m_22) rfl rfl rfl (by decide +kernel) hR) ⟨xb_I, va_recv hK.1 hP (ci := 3) (q0 := 12) rfl rfl, fun U hU hW => ⟨rfl, by rw [hU]; exact hP, kW_I_warm hW hK⟩⟩ rfl rfl hsz rfl (lv_room hrs) hdg hc) hS (fun q _ h9 => h9) (fun q h9 => h9) (fun r u t H1 locs1 ht hvm hw hB hz1 hk1 hS1 => by
    have hk9 := kk H1 locs1 (by rw [← hw, ← ht]; exact hB) hS1
    rw [← hw] at hk9
    exact hk9)

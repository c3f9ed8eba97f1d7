theorem m_51 : (Cond.methodLink R_Permits 72 Lib.Math.max.name) ∈ w_all := List.mem_filter.mpr ⟨List.mem_of_getElem? (i := 679) (by decide +kernel), by decide +kernel⟩
theorem m_52 : (Cond.static Lib.Math.max.name) ∈ w_all := List.mem_filter.mpr ⟨List.mem_of_getElem? (i := 680) (by decide +kernel), by decide +kernel⟩
theorem m_53 : (Cond.initialized "java/lang/Math") ∈ w_all := List.mem_filter.mpr ⟨List.mem_of_getElem? (i := 47) (by decide +kernel), by decide +kernel⟩
theorem m_54 : (Cond.code Lib.Math.max.name Lib.Math.max.code 2 (some .int)) ∈ w_all := List.mem_filter.mpr ⟨List.mem_of_getElem? (i := 681) (by decide +kernel), by decide +kernel⟩
theorem m_55 : (Cond.static y_Permits_gap) ∈ w_all := List.mem_filter.mpr ⟨List.mem_of_getElem? (i := 677) (by decide +kernel), by decide +kernel⟩
theorem m_56 : (Cond.initialized R_Permits) ∈ w_all := List.mem_filter.mpr ⟨List.mem_of_getElem? (i := 38) (by decide +kernel), by decide +kernel⟩
theorem m_57 : (Cond.code y_Permits_gap b_Permits_gap 4 (some .long)) ∈ w_all := List.mem_filter.mpr ⟨List.mem_of_getElem? (i := 678) (by decide +kernel), by decide +kernel⟩
theorem m_58 : (Cond.fieldLink R_Permits 54 "InspectRows$Permits" "groundX2" "I") ∈ w_all := List.mem_filter.mpr ⟨List.mem_of_getElem? (i := 215) (by decide +kernel), by decide +kernel⟩
theorem m_59 : (Cond.fieldLink R_Permits 48 "InspectRows$Permits" "groundX1" "I") ∈ w_all := List.mem_filter.mpr ⟨List.mem_of_getElem? (i := 213) (by decide +kernel), by decide +kernel⟩
theorem m_60 : (Cond.fieldLink R_Permits 57 "InspectRows$Permits" "groundY2" "I") ∈ w_all := List.mem_filter.mpr ⟨List.mem_of_getElem? (i := 216) (by decide +kernel), by decide +kernel⟩
theorem m_61 : (Cond.fieldLink R_Permits 51 "InspectRows$Permits" "groundY1" "I") ∈ w_all := List.mem_filter.mpr ⟨List.mem_of_getElem? (i := 214) (by decide +kernel), by decide +kernel⟩
theorem m_62 : (Cond.instanceMethod y_Permits_groundArea) ∈ w_all := List.mem_filter.mpr ⟨List.mem_of_getElem? (i := 670) (by decide +kernel), by decide +kernel⟩
theorem m_63 : (Cond.selects R_Permits y_Permits_groundArea y_Permits_groundArea) ∈ w_all := List.mem_filter.mpr ⟨List.mem_of_getElem? (i := 15) (by decide +kernel), by decide +kernel⟩
theorem m_64 : (Cond.code y_Permits_groundArea b_Permits_groundArea 1 (some .long)) ∈ w_all := List.mem_filter.mpr ⟨List.mem_of_getElem? (i := 671) (by decide +kernel), by decide +kernel⟩
theorem m_65 : (Cond.fieldLink R_Permits 9 "InspectRows$Permits" "x1s" "[I") ∈ w_all := List.mem_filter.mpr ⟨List.mem_of_getElem? (i := 202) (by decide +kernel), by decide +kernel⟩
theorem m_66 : (Cond.fieldLink R_Permits 18 "InspectRows$Permits" "x2s" "[I") ∈ w_all := List.mem_filter.mpr ⟨List.mem_of_getElem? (i := 204) (by decide +kernel), by decide +kernel⟩
theorem m_67 : (Cond.methodLink R_Permits 68 y_Permits_gap) ∈ w_all := List.mem_filter.mpr ⟨List.mem_of_getElem? (i := 676) (by decide +kernel), by decide +kernel⟩
theorem m_68 : (Cond.fieldLink R_Permits 15 "InspectRows$Permits" "y1s" "[I") ∈ w_all := List.mem_filter.mpr ⟨List.mem_of_getElem? (i := 203) (by decide +kernel), by decide +kernel⟩
theorem m_69 : (Cond.fieldLink R_Permits 21 "InspectRows$Permits" "y2s" "[I") ∈ w_all := List.mem_filter.mpr ⟨List.mem_of_getElem? (i := 205) (by decide +kernel), by decide +kernel⟩
theorem m_70 : (Cond.fieldLink R_Permits 42 "InspectRows$Permits" "distance" "I") ∈ w_all := List.mem_filter.mpr ⟨List.mem_of_getElem? (i := 219) (by decide +kernel), by decide +kernel⟩
theorem m_71 : (Cond.instanceMethod y_Permits_isTooNear) ∈ w_all := List.mem_filter.mpr ⟨List.mem_of_getElem? (i := 674) (by decide +kernel), by decide +kernel⟩
theorem m_72 : (Cond.selects R_Permits y_Permits_isTooNear y_Permits_isTooNear) ∈ w_all := List.mem_filter.mpr ⟨List.mem_of_getElem? (i := 16) (by decide +kernel), by decide +kernel⟩
theorem m_73 : (Cond.code y_Permits_isTooNear b_Permits_isTooNear 6 (some .boolean)) ∈ w_all := List.mem_filter.mpr ⟨List.mem_of_getElem? (i := 675) (by decide +kernel), by decide +kernel⟩
theorem m_74 : (Cond.fieldLink R_Permits 30 "InspectRows$Permits" "count" "I") ∈ w_all := List.mem_filter.mpr ⟨List.mem_of_getElem? (i := 210) (by decide +kernel), by decide +kernel⟩
theorem m_75 : (Cond.fieldLink R_Permits 27 "InspectRows$Permits" "tos" "[I") ∈ w_all := List.mem_filter.mpr ⟨List.mem_of_getElem? (i := 208) (by decide +kernel), by decide +kernel⟩
theorem m_76 : (Cond.fieldLink R_Permits 24 "InspectRows$Permits" "froms" "[I") ∈ w_all := List.mem_filter.mpr ⟨List.mem_of_getElem? (i := 206) (by decide +kernel), by decide +kernel⟩
theorem m_77 : (Cond.methodLink R_Permits 64 y_Permits_isTooNear) ∈ w_all := List.mem_filter.mpr ⟨List.mem_of_getElem? (i := 672) (by decide +kernel), by decide +kernel⟩
theorem m_78 : (Cond.fieldLink R_Permits 34 "InspectRows$Permits" "groundTold" "Z") ∈ w_all := List.mem_filter.mpr ⟨List.mem_of_getElem? (i := 212) (by decide +kernel), by decide +kernel⟩
theorem m_79 : (Cond.methodLink R_Permits 60 y_Permits_groundArea) ∈ w_all := List.mem_filter.mpr ⟨List.mem_of_getElem? (i := 668) (by decide +kernel), by decide +kernel⟩
theorem m_80 : (Cond.fieldLink R_Permits 39 "InspectRows$Permits" "space" "I") ∈ w_all := List.mem_filter.mpr ⟨List.mem_of_getElem? (i := 217) (by decide +kernel), by decide +kernel⟩
theorem m_81 : (Cond.instanceMethod y_Permits_findClash) ∈ w_all := List.mem_filter.mpr ⟨List.mem_of_getElem? (i := 665) (by decide +kernel), by decide +kernel⟩
theorem m_82 : (Cond.selects R_Permits y_Permits_findClash y_Permits_findClash) ∈ w_all := List.mem_filter.mpr ⟨List.mem_of_getElem? (i := 666) (by decide +kernel), by decide +kernel⟩
theorem m_83 : (Cond.code y_Permits_findClash b_Permits_findClash 6 (some .int)) ∈ w_all := List.mem_filter.mpr ⟨List.mem_of_getElem? (i := 667) (by decide +kernel), by decide +kernel⟩
theorem m_84 : (Cond.instanceMethod y_Permits_tellGround) ∈ w_all := List.mem_filter.mpr ⟨List.mem_of_getElem? (i := 698) (by decide +kernel), by decide +kernel⟩
theorem m_85 : (Cond.selects R_Permits y_Permits_tellGround y_Permits_tellGround) ∈ w_all := List.mem_filter.mpr ⟨List.mem_of_getElem? (i := 699) (by decide +kernel), by decide +kernel⟩
theorem m_86 : (Cond.code y_Permits_tellGround b_Permits_tellGround 5 none) ∈ w_all := List.mem_filter.mpr ⟨List.mem_of_getElem? (i := 700) (by decide +kernel), by decide +kernel⟩
theorem m_87 : (Cond.instanceMethod y_Permits_add) ∈ w_all := List.mem_filter.mpr ⟨List.mem_of_getElem? (i := 683) (by decide +kernel), by decide +kernel⟩
theorem m_88 : (Cond.selects R_Permits y_Permits_add y_Permits_add) ∈ w_all := List.mem_filter.mpr ⟨List.mem_of_getElem? (i := 684) (by decide +kernel), by decide +kernel⟩
theorem m_89 : (Cond.code y_Permits_add b_Permits_add 4 (some .int)) ∈ w_all := List.mem_filter.mpr ⟨List.mem_of_getElem? (i := 685) (by decide +kernel), by decide +kernel⟩
theorem d_Permits_gap_0 : decode b_Permits_gap 0 = .ok (.iconst 0, 1) := by decide +kernel
theorem d_Permits_gap_1 : decode b_Permits_gap 1 = .ok (.iload_n 2, 1) := by decide +kernel
theorem d_Permits_gap_2 : decode b_Permits_gap 2 = .ok (.iload_n 1, 1) := by decide +kernel
theorem d_Permits_gap_3 : decode b_Permits_gap 3 = .ok (.isub, 1) := by decide +kernel
theorem d_Permits_gap_4 : decode b_Permits_gap 4 = .ok (.iload_n 0, 1) := by decide +kernel
theorem d_Permits_gap_5 : decode b_Permits_gap 5 = .ok (.iload_n 3, 1) := by decide +kernel
theorem d_Permits_gap_6 : decode b_Permits_gap 6 = .ok (.isub, 1) := by decide +kernel
theorem d_Permits_gap_7 : decode b_Permits_gap 7 = .ok (.invokestatic 72, 3) := by decide +kernel
theorem d_Permits_gap_10 : decode b_Permits_gap 10 = .ok (.invokestatic 72, 3) := by decide +kernel
theorem d_Permits_gap_13 : decode b_Permits_gap 13 = .ok (.i2l, 1) := by decide +kernel
theorem d_Permits_gap_14 : decode b_Permits_gap 14 = .ok (.lreturn, 1) := by decide +kernel
set_option maxHeartbeats 4000000 in
set_option maxRecDepth 100000 in
theorem c_Permits_gap (l : Launch) (a0 : Int32) (a1 : Int32) (a2 : Int32) (a3 : Int32) : Met l y_Permits_gap z_Permits_gap (rmD 1) (fun v _ => v = ([.int a0, .int a1, .int a2, .int a3] : List Value).toArray) (QcReadL (f_Permits_gap a0 a1 a2 a3)) 0 0 (fun _ => False) := by
  refine Met.ofW (cc := b_Permits_gap) (maxL := 4) (ret := (some .long)) (by decide) rfl ?_
  intro p e s m args below meth c s₁ B hml hv
  obtain rfl := hv
  have hx := B.exec
  have hb := B.bytes
  have hr := B.returns
  have hts : ∀ w ∈ w_all, w.before _ s = true := fun w hw => atoms_spec (ws := z_Permits_gap) B.pre w (List.mem_cons_of_mem _ hw)
  have hown : s.vm.findClass R_Permits = some m.cls := findClass_of_methodNamed B.named
  have hlocks := B.notSynchronized
  have hF : CallFix p m c b_Permits_gap 4 s _ w_all R_Permits := ⟨hx, hb, hml, hown, hts⟩
  have hl := lv_entry ([.int a0, .int a1, .int a2, .int a3]) (n := 4) (Nat.le_of_ble_eq_true rfl)
  rw [lg_entry_eq]
  generalize (lg_sl ([.int a0, .int a1, .int a2, .int a3]) ++ List.replicate (4 - (lg_sl ([.int a0, .int a1, .int a2, .int a3])).length) Slot.unset).toArray = ls at hl ⊢
  have hl : lv_has ls 4 [(0, .int a0), (1, .int a1), (2, .int a2), (3, .int a3)] := hl
  refine lv_iconst (v := 0) hx hb d_Permits_gap_0 (by decide) ?_
  refine lv_iload_n hx hb d_Permits_gap_1 rfl (lv_at hl 2 rfl) ?_
  refine lv_iload_n hx hb d_Permits_gap_2 rfl (lv_at hl 1 rfl) ?_
  refine lv_isub hx hb d_Permits_gap_3 ?_
  refine lv_iload_n hx hb d_Permits_gap_4 rfl (lv_at hl 0 rfl) ?_
  refine lv_iload_n hx hb d_Permits_gap_5 rfl (lv_at hl 3 rfl) ?_
  refine lv_isub hx hb d_Permits_gap_6 ?_
  refine va_mmax hx hb (hF.2.2.1.trans hl.1.symm) hown (hts _ m_51) (hts _ m_52) (hts _ m_53) (hts _ m_54) (Nat.le_of_ble_eq_true rfl) (Nat.le_of_ble_eq_true rfl) (Nat.zero_le _) (Nat.zero_le _) d_Permits_gap_7 ?_
  refine va_mmax hx hb (hF.2.2.1.trans hl.1.symm) hown (hts _ m_51) (hts _ m_52) (hts _ m_53) (hts _ m_54) (Nat.le_of_ble_eq_true rfl) (Nat.le_of_ble_eq_true rfl) (Nat.zero_le _) (Nat.zero_le _) d_Permits_gap_10 ?_
  refine lv_i2l hx hb d_Permits_gap_13 rfl ?_
  have hv : ((if 0 < (if (a2 - a1) < (a0 - a3) then (a0 - a3) else (a2 - a1)) then (if (a2 - a1) < (a0 - a3) then (a0 - a3) else (a2 - a1)) else 0).toInt64 : Int64) = f_Permits_gap a0 a1 a2 a3 := by rw [f_Permits_gap]
  exact W.lret (v := (if 0 < (if (a2 - a1) < (a0 - a3) then (a0 - a3) else (a2 - a1)) then (if (a2 - a1) < (a0 - a3) then (a0 - a3) else (a2 - a1)) else 0).toInt64) hx hb hr (fun t ht hW => ⟨congrArg (fun z => Outcome.returned (some (Value.long z))) hv, ht⟩) (fun _ h9 => nomatch h9) d_Permits_gap_14
set_option maxHeartbeats 1000000 in
theorem r_Permits_gap {p : Program} {l : Launch} {e : Env} {R : Room} {s : State} {m : MethodId} {args : Array Value} {below : List Frame} {meth : Method} {c : Code} {H : Heap} {locs : List Loc} {cells slots : Nat} {Q : State → Prop} {cc : ByteArray} {nL pc idx : Nat} {ls : Array Slot} {rest : List Value} {a0 : Int32} {a1 : Int32} {a2 : Int32} {a3 : Int32} (hF : CallFix p m c cc nL s args w_all R_Permits) (hlk : Cond.methodLink R_Permits idx y_Permits_gap ∈ w_all) (hsz : ls.size = nL) (hR : (rmD 1).frames + 1 ≤ R.frames ∧ 8 + (4 + 11) + (rmD 1).locals ≤ R.locals) (hc : cells ≤ R.cells ∧ slots ≤ R.slots) (hrs : (rest.map fun v => v.category).sum ≤ 8) (hdg : decode cc pc = .ok (.invokestatic idx, 3)) (kk : W p l e R s m args below meth c H locs cells slots Q (F0 m (pc + 3) ls (.long (f_Permits_gap a0 a1 a2 a3) :: rest))) : W p l e R s m args below meth c H locs cells slots Q (F0 m pc ls (.int a3 :: .int a2 :: .int a1 :: .int a0 :: rest)) :=
  cv_callL (W.runS (As := [.int a0, .int a1, .int a2, .int a3]) (rest := rest) hF (c_Permits_gap l a0 a1 a2 a3) (cwS 4 hF.2.2.2.2 (gS hlk m_55 m_56 m_57) rfl rfl rfl (by decide +kernel) hR) preEq rfl rfl hsz rfl (lv_room hrs) hdg hc) kk
theorem d_Permits_groundArea_0 : decode b_Permits_groundArea 0 = .ok (.aload_n 0, 1) := by decide +kernel
theorem d_Permits_groundArea_1 : decode b_Permits_groundArea 1 = .ok (.getfield 54, 3) := by decide +kernel
theorem d_Permits_groundArea_4 : decode b_Permits_groundArea 4 = .ok (.aload_n 0, 1) := by decide +kernel
theorem d_Permits_groundArea_5 : decode b_Permits_groundArea 5 = .ok (.getfield 48, 3) := by decide +kernel
theorem d_Permits_groundArea_8 : decode b_Permits_groundArea 8 = .ok (.isub, 1) := by decide +kernel
theorem d_Permits_groundArea_9 : decode b_Permits_groundArea 9 = .ok (.i2l, 1) := by decide +kernel
theorem d_Permits_groundArea_10 : decode b_Permits_groundArea 10 = .ok (.aload_n 0, 1) := by decide +kernel
theorem d_Permits_groundArea_11 : decode b_Permits_groundArea 11 = .ok (.getfield 57, 3) := by decide +kernel
theorem d_Permits_groundArea_14 : decode b_Permits_groundArea 14 = .ok (.aload_n 0, 1) := by decide +kernel
theorem d_Permits_groundArea_15 : decode b_Permits_groundArea 15 = .ok (.getfield 51, 3) := by decide +kernel
theorem d_Permits_groundArea_18 : decode b_Permits_groundArea 18 = .ok (.isub, 1) := by decide +kernel
theorem d_Permits_groundArea_19 : decode b_Permits_groundArea 19 = .ok (.i2l, 1) := by decide +kernel
theorem d_Permits_groundArea_20 : decode b_Permits_groundArea 20 = .ok (.lmul, 1) := by decide +kernel
theorem d_Permits_groundArea_21 : decode b_Permits_groundArea 21 = .ok (.lreturn, 1) := by decide +kernel
set_option maxHeartbeats 4000000 in
set_option maxRecDepth 100000 in
theorem c_Permits_groundArea (l : Launch) (dC : Nat → ClassId) (dI : Nat → Nat → Nat) (L : Nat → Nat) (cA : Nat → ClassId) (ar : Nat → Nat → Int32) (sc : Nat → Int32) : Met l y_Permits_groundArea z_Permits_groundArea (rmD 0) (va_Pc [.ref (L 30)] (fun U => xw_I dC dI L cA ar sc U)) (QcReadL (f_Permits_groundArea ar sc )) 0 0 (fun _ => False) := by
  refine Met.ofW (cc := b_Permits_groundArea) (maxL := 1) (ret := (some .long)) (by decide) rfl ?_
  intro p e s m args below meth c s₁ B hml hv
  obtain ⟨rfl, ⟨hP, hK⟩⟩ := hv
  have hx := B.exec
  have hb := B.bytes
  have hr := B.returns
  have hts : ∀ w ∈ w_all, w.before _ s = true := fun w hw => atoms_spec (ws := z_Permits_groundArea) B.pre w (List.mem_cons_of_mem _ hw)
  have hown : s.vm.findClass R_Permits = some m.cls := findClass_of_methodNamed B.named
  have hlocks := B.notSynchronized
  have hF : CallFix p m c b_Permits_groundArea 1 s _ w_all R_Permits := ⟨hx, hb, hml, hown, hts⟩
  have hl := lv_entry ([.ref (L 30)]) (n := 1) (Nat.le_of_ble_eq_true rfl)
  rw [lg_entry_eq]
  generalize (lg_sl ([.ref (L 30)]) ++ List.replicate (1 - (lg_sl ([.ref (L 30)])).length) Slot.unset).toArray = ls at hl ⊢
  have hl : lv_has ls 1 [(0, .ref (L 30))] := hl
  refine lv_aload_n hx hb d_Permits_groundArea_0 rfl (lv_at hl 0 rfl) ?_
  refine gf_Permits_groundX2 hF hK hP m_58 d_Permits_groundArea_1 ?_
  refine lv_aload_n hx hb d_Permits_groundArea_4 rfl (lv_at hl 0 rfl) ?_
  refine gf_Permits_groundX1 hF hK hP m_59 d_Permits_groundArea_5 ?_
  refine lv_isub hx hb d_Permits_groundArea_8 ?_
  refine lv_i2l hx hb d_Permits_groundArea_9 rfl ?_
  refine lv_aload_n hx hb d_Permits_groundArea_10 rfl (lv_at hl 0 rfl) ?_
  refine gf_Permits_groundY2 hF hK hP m_60 d_Permits_groundArea_11 ?_
  refine lv_aload_n hx hb d_Permits_groundArea_14 rfl (lv_at hl 0 rfl) ?_
  refine gf_Permits_groundY1 hF hK hP m_61 d_Permits_groundArea_15 ?_
  refine lv_isub hx hb d_Permits_groundArea_18 ?_
  refine lv_i2l hx hb d_Permits_groundArea_19 rfl ?_
  refine lv_lmul hx hb d_Permits_groundArea_20 ?_
  have hv : ((((sc 9) - (sc 7)).toInt64) * (((sc 10) - (sc 8)).toInt64) : Int64) = f_Permits_groundArea ar sc  := by rw [f_Permits_groundArea]
  exact W.lret (v := (((sc 9) - (sc 7)).toInt64) * (((sc 10) - (sc 8)).toInt64)) hx hb hr (fun t ht hW => ⟨congrArg (fun z => Outcome.returned (some (Value.long z))) hv, ht⟩) (fun _ h9 => nomatch h9) d_Permits_groundArea_21
set_option maxHeartbeats 1000000 in
theorem r_Permits_groundArea {p : Program} {l : Launch} {e : Env} {R : Room} {s : State} {m : MethodId} {args : Array Value} {below : List Frame} {meth : Method} {c : Code} {H : Heap} {locs : List Loc} {cells slots : Nat} {Q : State → Prop} {cc : ByteArray} {nL pc idx : Nat} {ls : Array Slot} {rest : List Value} {own : String} {dC : Nat → ClassId} {dI : Nat → Nat → Nat} {L : Nat → Nat} {cA : Nat → ClassId} {ar : Nat → Nat → Int32} {sc : Nat → Int32}  (hF : CallFix p m c cc nL s args w_all own) (hK : kW_I dC dI cA s) (hP : va_P (dC, dI) classes (wI L cA ar sc) H) (hlk : Cond.methodLink own idx y_Permits_groundArea ∈ w_all) (hsz : ls.size = nL) (hR : (rmD 0).frames + 1 ≤ R.frames ∧ 8 + (1 + 11) + (rmD 0).locals ≤ R.locals) (hc : cells ≤ R.cells ∧ slots ≤ R.slots) (hrs : (rest.map fun v => v.category).sum ≤ 8) (hdg : decode cc pc = .ok (.invokevirtual idx, 3)) (kk : W p l e R s m args below meth c H locs cells slots Q (F0 m (pc + 3) ls (.long (f_Permits_groundArea ar sc ) :: rest))) : W p l e R s m args below meth c H locs cells slots Q (F0 m pc ls (.ref (L 30) :: rest)) :=
  cv_callL (W.runV (As := []) (rest := rest) hF (c_Permits_groundArea l dC dI L cA ar sc ) (cwV 0 hF.2.2.2.2 (gV hlk m_62 m_63 m_56 m_64) rfl rfl rfl (by decide +kernel) hR) ⟨xb_I, va_recv hK.1 hP (ci := 6) (q0 := 30) rfl rfl, fun U hU hW => ⟨rfl, by rw [hU]; exact hP, kW_I_warm hW hK⟩⟩ rfl rfl hsz rfl (lv_room hrs) hdg hc) kk
theorem d_Permits_isTooNear_0 : decode b_Permits_isTooNear 0 = .ok (.aload_n 0, 1) := by decide +kernel
theorem d_Permits_isTooNear_1 : decode b_Permits_isTooNear 1 = .ok (.getfield 48, 3) := by decide +kernel
theorem d_Permits_isTooNear_4 : decode b_Permits_isTooNear 4 = .ok (.aload_n 0, 1) := by decide +kernel
theorem d_Permits_isTooNear_5 : decode b_Permits_isTooNear 5 = .ok (.getfield 54, 3) := by decide +kernel
theorem d_Permits_isTooNear_8 : decode b_Permits_isTooNear 8 = .ok (.aload_n 0, 1) := by decide +kernel
theorem d_Permits_isTooNear_9 : decode b_Permits_isTooNear 9 = .ok (.getfield 9, 3) := by decide +kernel
theorem d_Permits_isTooNear_12 : decode b_Permits_isTooNear 12 = .ok (.iload_n 1, 1) := by decide +kernel
theorem d_Permits_isTooNear_13 : decode b_Permits_isTooNear 13 = .ok (.iaload, 1) := by decide +kernel
theorem d_Permits_isTooNear_14 : decode b_Permits_isTooNear 14 = .ok (.aload_n 0, 1) := by decide +kernel
theorem d_Permits_isTooNear_15 : decode b_Permits_isTooNear 15 = .ok (.getfield 18, 3) := by decide +kernel
theorem d_Permits_isTooNear_18 : decode b_Permits_isTooNear 18 = .ok (.iload_n 1, 1) := by decide +kernel
theorem d_Permits_isTooNear_19 : decode b_Permits_isTooNear 19 = .ok (.iaload, 1) := by decide +kernel
theorem d_Permits_isTooNear_20 : decode b_Permits_isTooNear 20 = .ok (.invokestatic 68, 3) := by decide +kernel
theorem d_Permits_isTooNear_23 : decode b_Permits_isTooNear 23 = .ok (.lstore_n 2, 1) := by decide +kernel
theorem d_Permits_isTooNear_24 : decode b_Permits_isTooNear 24 = .ok (.aload_n 0, 1) := by decide +kernel
theorem d_Permits_isTooNear_25 : decode b_Permits_isTooNear 25 = .ok (.getfield 51, 3) := by decide +kernel
theorem d_Permits_isTooNear_28 : decode b_Permits_isTooNear 28 = .ok (.aload_n 0, 1) := by decide +kernel
theorem d_Permits_isTooNear_29 : decode b_Permits_isTooNear 29 = .ok (.getfield 57, 3) := by decide +kernel
theorem d_Permits_isTooNear_32 : decode b_Permits_isTooNear 32 = .ok (.aload_n 0, 1) := by decide +kernel
theorem d_Permits_isTooNear_33 : decode b_Permits_isTooNear 33 = .ok (.getfield 15, 3) := by decide +kernel
theorem d_Permits_isTooNear_36 : decode b_Permits_isTooNear 36 = .ok (.iload_n 1, 1) := by decide +kernel
theorem d_Permits_isTooNear_37 : decode b_Permits_isTooNear 37 = .ok (.iaload, 1) := by decide +kernel
theorem d_Permits_isTooNear_38 : decode b_Permits_isTooNear 38 = .ok (.aload_n 0, 1) := by decide +kernel
theorem d_Permits_isTooNear_39 : decode b_Permits_isTooNear 39 = .ok (.getfield 21, 3) := by decide +kernel
theorem d_Permits_isTooNear_42 : decode b_Permits_isTooNear 42 = .ok (.iload_n 1, 1) := by decide +kernel
theorem d_Permits_isTooNear_43 : decode b_Permits_isTooNear 43 = .ok (.iaload, 1) := by decide +kernel
theorem d_Permits_isTooNear_44 : decode b_Permits_isTooNear 44 = .ok (.invokestatic 68, 3) := by decide +kernel
theorem d_Permits_isTooNear_47 : decode b_Permits_isTooNear 47 = .ok (.lstore 4, 2) := by decide +kernel
theorem d_Permits_isTooNear_49 : decode b_Permits_isTooNear 49 = .ok (.lload_n 2, 1) := by decide +kernel
theorem d_Permits_isTooNear_50 : decode b_Permits_isTooNear 50 = .ok (.lload_n 2, 1) := by decide +kernel
theorem d_Permits_isTooNear_51 : decode b_Permits_isTooNear 51 = .ok (.lmul, 1) := by decide +kernel
theorem d_Permits_isTooNear_52 : decode b_Permits_isTooNear 52 = .ok (.lload 4, 2) := by decide +kernel
theorem d_Permits_isTooNear_54 : decode b_Permits_isTooNear 54 = .ok (.lload 4, 2) := by decide +kernel
theorem d_Permits_isTooNear_56 : decode b_Permits_isTooNear 56 = .ok (.lmul, 1) := by decide +kernel
theorem d_Permits_isTooNear_57 : decode b_Permits_isTooNear 57 = .ok (.ladd, 1) := by decide +kernel
theorem d_Permits_isTooNear_58 : decode b_Permits_isTooNear 58 = .ok (.aload_n 0, 1) := by decide +kernel
theorem d_Permits_isTooNear_59 : decode b_Permits_isTooNear 59 = .ok (.getfield 42, 3) := by decide +kernel
theorem d_Permits_isTooNear_62 : decode b_Permits_isTooNear 62 = .ok (.i2l, 1) := by decide +kernel
theorem d_Permits_isTooNear_63 : decode b_Permits_isTooNear 63 = .ok (.aload_n 0, 1) := by decide +kernel
theorem d_Permits_isTooNear_64 : decode b_Permits_isTooNear 64 = .ok (.getfield 42, 3) := by decide +kernel
theorem d_Permits_isTooNear_67 : decode b_Permits_isTooNear 67 = .ok (.i2l, 1) := by decide +kernel
theorem d_Permits_isTooNear_68 : decode b_Permits_isTooNear 68 = .ok (.lmul, 1) := by decide +kernel
theorem d_Permits_isTooNear_69 : decode b_Permits_isTooNear 69 = .ok (.lcmp, 1) := by decide +kernel
theorem d_Permits_isTooNear_70 : decode b_Permits_isTooNear 70 = .ok (.ifCond .ge 7, 3) := by decide +kernel
theorem d_Permits_isTooNear_73 : decode b_Permits_isTooNear 73 = .ok (.iconst 1, 1) := by decide +kernel
theorem d_Permits_isTooNear_74 : decode b_Permits_isTooNear 74 = .ok (.goto 4, 3) := by decide +kernel
theorem d_Permits_isTooNear_77 : decode b_Permits_isTooNear 77 = .ok (.iconst 0, 1) := by decide +kernel
theorem d_Permits_isTooNear_78 : decode b_Permits_isTooNear 78 = .ok (.ireturn, 1) := by decide +kernel
set_option maxHeartbeats 4000000 in
set_option maxRecDepth 100000 in
theorem c_Permits_isTooNear (l : Launch) (dC : Nat → ClassId) (dI : Nat → Nat → Nat) (L : Nat → Nat) (cA : Nat → ClassId) (ar : Nat → Nat → Int32) (sc : Nat → Int32) (a0 : Int32) (h : p_Permits_isTooNear ar sc a0) : Met l y_Permits_isTooNear z_Permits_isTooNear (rmD 2) (va_Pc [.ref (L 30), .int a0] (fun U => xw_I dC dI L cA ar sc U)) (QcRead (f_Permits_isTooNear ar sc a0)) 0 0 (fun _ => False) := by
  refine Met.ofW (cc := b_Permits_isTooNear) (maxL := 6) (ret := (some .boolean)) (by decide) rfl ?_
  intro p e s m args below meth c s₁ B hml hv
  obtain ⟨rfl, ⟨hP, hK⟩⟩ := hv
  have hx := B.exec
  have hb := B.bytes
  have hr := B.returns
  have hts : ∀ w ∈ w_all, w.before _ s = true := fun w hw => atoms_spec (ws := z_Permits_isTooNear) B.pre w (List.mem_cons_of_mem _ hw)
  have hown : s.vm.findClass R_Permits = some m.cls := findClass_of_methodNamed B.named
  have hlocks := B.notSynchronized
  have hF : CallFix p m c b_Permits_isTooNear 6 s _ w_all R_Permits := ⟨hx, hb, hml, hown, hts⟩
  have hl := lv_entry ([.ref (L 30), .int a0]) (n := 6) (Nat.le_of_ble_eq_true rfl)
  rw [lg_entry_eq]
  generalize (lg_sl ([.ref (L 30), .int a0]) ++ List.replicate (6 - (lg_sl ([.ref (L 30), .int a0])).length) Slot.unset).toArray = ls at hl ⊢
  have hl : lv_has ls 6 [(0, .ref (L 30)), (1, .int a0)] := hl
  unfold p_Permits_isTooNear at h
  refine lv_aload_n hx hb d_Permits_isTooNear_0 rfl (lv_at hl 0 rfl) ?_
  refine gf_Permits_groundX1 hF hK hP m_59 d_Permits_isTooNear_1 ?_
  refine lv_aload_n hx hb d_Permits_isTooNear_4 rfl (lv_at hl 0 rfl) ?_
  refine gf_Permits_groundX2 hF hK hP m_58 d_Permits_isTooNear_5 ?_
  refine lv_aload_n hx hb d_Permits_isTooNear_8 rfl (lv_at hl 0 rfl) ?_
  refine gf_Permits_x1s hF hK hP m_65 d_Permits_isTooNear_9 ?_
  refine lv_iload_n hx hb d_Permits_isTooNear_12 rfl (lv_at hl 1 rfl) ?_
  have k13 := h.1
  have h := h.2
  refine alI_31 hF hK hP k13 d_Permits_isTooNear_13 ?_
  refine lv_aload_n hx hb d_Permits_isTooNear_14 rfl (lv_at hl 0 rfl) ?_
  refine gf_Permits_x2s hF hK hP m_66 d_Permits_isTooNear_15 ?_
  refine lv_iload_n hx hb d_Permits_isTooNear_18 rfl (lv_at hl 1 rfl) ?_
  have k19 := h.1
  have h := h.2
  refine alI_33 hF hK hP k19 d_Permits_isTooNear_19 ?_
  refine r_Permits_gap hF m_67 hl.1 ⟨Nat.le_of_ble_eq_true rfl, Nat.le_of_ble_eq_true rfl⟩ ⟨Nat.zero_le _, Nat.zero_le _⟩ (Nat.le_of_ble_eq_true rfl) d_Permits_isTooNear_20 ?_
  refine lv_lstore_n (lv' := [(2, .long (f_Permits_gap (sc 7) (sc 9) (ar 31 a0.toNatClampNeg) (ar 33 a0.toNatClampNeg))), (0, .ref (L 30)), (1, .int a0)]) hx hb d_Permits_isTooNear_23 rfl hl (by decide) rfl (fun ls hl => ?_)
  refine lv_aload_n hx hb d_Permits_isTooNear_24 rfl (lv_at hl 1 rfl) ?_
  refine gf_Permits_groundY1 hF hK hP m_61 d_Permits_isTooNear_25 ?_
  refine lv_aload_n hx hb d_Permits_isTooNear_28 rfl (lv_at hl 1 rfl) ?_
  refine gf_Permits_groundY2 hF hK hP m_60 d_Permits_isTooNear_29 ?_
  refine lv_aload_n hx hb d_Permits_isTooNear_32 rfl (lv_at hl 1 rfl) ?_
  refine gf_Permits_y1s hF hK hP m_68 d_Permits_isTooNear_33 ?_
  refine lv_iload_n hx hb d_Permits_isTooNear_36 rfl (lv_at hl 2 rfl) ?_
  have k37 := h.1
  have h := h.2
  refine alI_32 hF hK hP k37 d_Permits_isTooNear_37 ?_
  refine lv_aload_n hx hb d_Permits_isTooNear_38 rfl (lv_at hl 1 rfl) ?_
  refine gf_Permits_y2s hF hK hP m_69 d_Permits_isTooNear_39 ?_
  refine lv_iload_n hx hb d_Permits_isTooNear_42 rfl (lv_at hl 2 rfl) ?_
  have k43 := h
  refine alI_34 hF hK hP k43 d_Permits_isTooNear_43 ?_
  refine r_Permits_gap hF m_67 hl.1 ⟨Nat.le_of_ble_eq_true rfl, Nat.le_of_ble_eq_true rfl⟩ ⟨Nat.zero_le _, Nat.zero_le _⟩ (Nat.le_of_ble_eq_true rfl) d_Permits_isTooNear_44 ?_
  refine lv_lstore (lv' := [(4, .long (f_Permits_gap (sc 8) (sc 10) (ar 32 a0.toNatClampNeg) (ar 34 a0.toNatClampNeg))), (2, .long (f_Permits_gap (sc 7) (sc 9) (ar 31 a0.toNatClampNeg) (ar 33 a0.toNatClampNeg))), (0, .ref (L 30)), (1, .int a0)]) hx hb d_Permits_isTooNear_47 hl (by decide) rfl (fun ls hl => ?_)
  refine lv_lload_n hx hb d_Permits_isTooNear_49 rfl (lv_at hl 1 rfl) ?_
  refine lv_lload_n hx hb d_Permits_isTooNear_50 rfl (lv_at hl 1 rfl) ?_
  refine lv_lmul hx hb d_Permits_isTooNear_51 ?_
  refine lv_lload hx hb d_Permits_isTooNear_52 (lv_at hl 0 rfl) ?_
  refine lv_lload hx hb d_Permits_isTooNear_54 (lv_at hl 0 rfl) ?_
  refine lv_lmul hx hb d_Permits_isTooNear_56 ?_
  refine lv_ladd hx hb d_Permits_isTooNear_57 ?_
  refine lv_aload_n hx hb d_Permits_isTooNear_58 rfl (lv_at hl 2 rfl) ?_
  refine gf_Permits_distance hF hK hP m_70 d_Permits_isTooNear_59 ?_
  refine lv_i2l hx hb d_Permits_isTooNear_62 rfl ?_
  refine lv_aload_n hx hb d_Permits_isTooNear_63 rfl (lv_at hl 2 rfl) ?_
  refine gf_Permits_distance hF hK hP m_70 d_Permits_isTooNear_64 ?_
  refine lv_i2l hx hb d_Permits_isTooNear_67 rfl ?_
  refine lv_lmul hx hb d_Permits_isTooNear_68 ?_
  refine W.lcmp hx hb d_Permits_isTooNear_69 ?_
  refine lv_if_ge (tgt := 77) hx hb d_Permits_isTooNear_70 (by decide) (fun c70 => ?_) (fun c70 => ?_)
  · refine lv_iconst (v := 0) hx hb d_Permits_isTooNear_77 (by decide) ?_
    have hv : (0 : Int32) = f_Permits_isTooNear ar sc a0 := by rw [f_Permits_isTooNear, if_pos c70]
    exact W.zret (ty := .boolean) (v := 0) hx hb hr rfl (fun t ht hW => ⟨congrArg (fun z => Outcome.returned (some (Value.int z))) hv, ht⟩) (fun _ h9 => nomatch h9) d_Permits_isTooNear_78
  · refine lv_iconst (v := 1) hx hb d_Permits_isTooNear_73 (by decide) ?_
    refine lv_goto (tgt := 78) hx hb d_Permits_isTooNear_74 (by decide) ?_
    have hv : (1 : Int32) = f_Permits_isTooNear ar sc a0 := by rw [f_Permits_isTooNear, if_neg c70]
    exact W.zret (ty := .boolean) (v := 1) hx hb hr rfl (fun t ht hW => ⟨congrArg (fun z => Outcome.returned (some (Value.int z))) hv, ht⟩) (fun _ h9 => nomatch h9) d_Permits_isTooNear_78
set_option maxHeartbeats 1000000 in
theorem r_Permits_isTooNear {p : Program} {l : Launch} {e : Env} {R : Room} {s : State} {m : MethodId} {args : Array Value} {below : List Frame} {meth : Method} {c : Code} {H : Heap} {locs : List Loc} {cells slots : Nat} {Q : State → Prop} {cc : ByteArray} {nL pc idx : Nat} {ls : Array Slot} {rest : List Value} {own : String} {dC : Nat → ClassId} {dI : Nat → Nat → Nat} {L : Nat → Nat} {cA : Nat → ClassId} {ar : Nat → Nat → Int32} {sc : Nat → Int32} {a0 : Int32} (hF : CallFix p m c cc nL s args w_all own) (hK : kW_I dC dI cA s) (hP : va_P (dC, dI) classes (wI L cA ar sc) H) (h : p_Permits_isTooNear ar sc a0) (hlk : Cond.methodLink own idx y_Permits_isTooNear ∈ w_all) (hsz : ls.size = nL) (hR : (rmD 2).frames + 1 ≤ R.frames ∧ 8 + (6 + 11) + (rmD 2).locals ≤ R.locals) (hc : cells ≤ R.cells ∧ slots ≤ R.slots) (hrs : (rest.map fun v => v.category).sum ≤ 8) (hdg : decode cc pc = .ok (.invokevirtual idx, 3)) (kk : W p l e R s m args below meth c H locs cells slots Q (F0 m (pc + 3) ls (.int (f_Permits_isTooNear ar sc a0) :: rest))) : W p l e R s m args below meth c H locs cells slots Q (F0 m pc ls (.int a0 :: .ref (L 30) :: rest)) :=
  W.callR (W.runV (As := [.int a0]) (rest := rest) hF (c_Permits_isTooNear l dC dI L cA ar sc a0 h) (cwV 1 hF.2.2.2.2 (gV hlk m_71 m_72 m_56 m_73) rfl rfl rfl (by decide +kernel) hR) ⟨xb_I, va_recv hK.1 hP (ci := 6) (q0 := 30) rfl rfl, fun U hU hW => ⟨rfl, by rw [hU]; exact hP, kW_I_warm hW hK⟩⟩ rfl rfl hsz rfl (lv_room hrs) hdg hc) kk
theorem d_Permits_findClash_0 : decode b_Permits_findClash 0 = .ok (.aload_n 0, 1) := by decide +kernel
theorem d_Permits_findClash_1 : decode b_Permits_findClash 1 = .ok (.getfield 34, 3) := by decide +kernel
theorem d_Permits_findClash_4 : decode b_Permits_findClash 4 = .ok (.ifCond .ne 6, 3) := by decide +kernel
theorem d_Permits_findClash_7 : decode b_Permits_findClash 7 = .ok (.bipush (-2), 2) := by decide +kernel
theorem d_Permits_findClash_9 : decode b_Permits_findClash 9 = .ok (.ireturn, 1) := by decide +kernel
theorem d_Permits_findClash_10 : decode b_Permits_findClash 10 = .ok (.aload_n 0, 1) := by decide +kernel
theorem d_Permits_findClash_11 : decode b_Permits_findClash 11 = .ok (.invokevirtual 60, 3) := by decide +kernel
theorem d_Permits_findClash_14 : decode b_Permits_findClash 14 = .ok (.iload_n 3, 1) := by decide +kernel
theorem d_Permits_findClash_15 : decode b_Permits_findClash 15 = .ok (.i2l, 1) := by decide +kernel
theorem d_Permits_findClash_16 : decode b_Permits_findClash 16 = .ok (.aload_n 0, 1) := by decide +kernel
theorem d_Permits_findClash_17 : decode b_Permits_findClash 17 = .ok (.getfield 39, 3) := by decide +kernel
theorem d_Permits_findClash_20 : decode b_Permits_findClash 20 = .ok (.i2l, 1) := by decide +kernel
theorem d_Permits_findClash_21 : decode b_Permits_findClash 21 = .ok (.lmul, 1) := by decide +kernel
theorem d_Permits_findClash_22 : decode b_Permits_findClash 22 = .ok (.lcmp, 1) := by decide +kernel
theorem d_Permits_findClash_23 : decode b_Permits_findClash 23 = .ok (.ifCond .ge 6, 3) := by decide +kernel
theorem d_Permits_findClash_26 : decode b_Permits_findClash 26 = .ok (.bipush (-3), 2) := by decide +kernel
theorem d_Permits_findClash_28 : decode b_Permits_findClash 28 = .ok (.ireturn, 1) := by decide +kernel
theorem d_Permits_findClash_29 : decode b_Permits_findClash 29 = .ok (.iconst 0, 1) := by decide +kernel
theorem d_Permits_findClash_30 : decode b_Permits_findClash 30 = .ok (.istore 4, 2) := by decide +kernel
theorem d_Permits_findClash_32 : decode b_Permits_findClash 32 = .ok (.iload 4, 2) := by decide +kernel
theorem d_Permits_findClash_34 : decode b_Permits_findClash 34 = .ok (.aload_n 0, 1) := by decide +kernel
theorem d_Permits_findClash_35 : decode b_Permits_findClash 35 = .ok (.getfield 30, 3) := by decide +kernel
theorem d_Permits_findClash_38 : decode b_Permits_findClash 38 = .ok (.if_icmp .ge 55, 3) := by decide +kernel
theorem d_Permits_findClash_41 : decode b_Permits_findClash 41 = .ok (.iload_n 1, 1) := by decide +kernel
theorem d_Permits_findClash_42 : decode b_Permits_findClash 42 = .ok (.aload_n 0, 1) := by decide +kernel
theorem d_Permits_findClash_43 : decode b_Permits_findClash 43 = .ok (.getfield 27, 3) := by decide +kernel
theorem d_Permits_findClash_46 : decode b_Permits_findClash 46 = .ok (.iload 4, 2) := by decide +kernel
theorem d_Permits_findClash_48 : decode b_Permits_findClash 48 = .ok (.iaload, 1) := by decide +kernel
theorem d_Permits_findClash_49 : decode b_Permits_findClash 49 = .ok (.if_icmp .ge 18, 3) := by decide +kernel
theorem d_Permits_findClash_52 : decode b_Permits_findClash 52 = .ok (.aload_n 0, 1) := by decide +kernel
theorem d_Permits_findClash_53 : decode b_Permits_findClash 53 = .ok (.getfield 24, 3) := by decide +kernel
theorem d_Permits_findClash_56 : decode b_Permits_findClash 56 = .ok (.iload 4, 2) := by decide +kernel
theorem d_Permits_findClash_58 : decode b_Permits_findClash 58 = .ok (.iaload, 1) := by decide +kernel
theorem d_Permits_findClash_59 : decode b_Permits_findClash 59 = .ok (.iload_n 2, 1) := by decide +kernel
theorem d_Permits_findClash_60 : decode b_Permits_findClash 60 = .ok (.if_icmp .ge 7, 3) := by decide +kernel
theorem d_Permits_findClash_63 : decode b_Permits_findClash 63 = .ok (.iconst 1, 1) := by decide +kernel
theorem d_Permits_findClash_64 : decode b_Permits_findClash 64 = .ok (.goto 4, 3) := by decide +kernel
theorem d_Permits_findClash_67 : decode b_Permits_findClash 67 = .ok (.iconst 0, 1) := by decide +kernel
theorem d_Permits_findClash_68 : decode b_Permits_findClash 68 = .ok (.istore 5, 2) := by decide +kernel
theorem d_Permits_findClash_70 : decode b_Permits_findClash 70 = .ok (.iload 5, 2) := by decide +kernel
theorem d_Permits_findClash_72 : decode b_Permits_findClash 72 = .ok (.ifCond .eq 15, 3) := by decide +kernel
theorem d_Permits_findClash_75 : decode b_Permits_findClash 75 = .ok (.aload_n 0, 1) := by decide +kernel
theorem d_Permits_findClash_76 : decode b_Permits_findClash 76 = .ok (.iload 4, 2) := by decide +kernel
theorem d_Permits_findClash_78 : decode b_Permits_findClash 78 = .ok (.invokevirtual 64, 3) := by decide +kernel
theorem d_Permits_findClash_81 : decode b_Permits_findClash 81 = .ok (.ifCond .eq 6, 3) := by decide +kernel
theorem d_Permits_findClash_84 : decode b_Permits_findClash 84 = .ok (.iload 4, 2) := by decide +kernel
theorem d_Permits_findClash_86 : decode b_Permits_findClash 86 = .ok (.ireturn, 1) := by decide +kernel
theorem d_Permits_findClash_87 : decode b_Permits_findClash 87 = .ok (.iinc 4 1, 3) := by decide +kernel
theorem d_Permits_findClash_90 : decode b_Permits_findClash 90 = .ok (.goto (-58), 3) := by decide +kernel
theorem d_Permits_findClash_93 : decode b_Permits_findClash 93 = .ok (.iconst (-1), 1) := by decide +kernel
theorem d_Permits_findClash_94 : decode b_Permits_findClash 94 = .ok (.ireturn, 1) := by decide +kernel
set_option maxHeartbeats 4000000 in
set_option maxRecDepth 100000 in
theorem l_Permits_findClash_32 {p : Program} {l : Launch} {e : Env} {s : State} {m : MethodId} {args : Array Value} {below : List Frame} {meth : Method} {c : Code} {dC : Nat → ClassId} {dI : Nat → Nat → Nat} {L : Nat → Nat} {cA : Nat → ClassId} {ar : Nat → Nat → Int32} {sc : Nat → Int32} (a0 : Int32) (a1 : Int32) (a2 : Int32)  (hF : CallFix p m c b_Permits_findClash 6 s args w_all R_Permits) (hK : kW_I dC dI cA s) (hP : va_P (dC, dI) classes (wI L cA ar sc) s.heap) (hr : meth.sig.returnType = (some .int)) (hlocks : meth.locks = false) : ∀ (n : Nat) (v4 : Int32), q_Permits_findClash_32 ar sc a0 a1 a2 n v4 → ∀ (ls : Array Slot), lv_has ls 6 [(4, .int v4), (0, .ref (L 30)), (1, .int a0), (2, .int a1), (3, .int a2)] → W p l e (rmD 3) s m args below meth c s.heap [] 0 0 (MQ below (QcRead (g_Permits_findClash_32 ar sc a0 a1 a2 n v4)) args s 0 0 (fun _ => False)) (F0 m 32 ls []) := by
  have hx := hF.1
  have hb := hF.2.1
  have hown := hF.2.2.2.1
  have hts := hF.2.2.2.2
  intro n
  induction n with
  | zero => intro v4 h; exact False.elim h
  | succ n ih =>
    intro v4 h ls hl
    rw [q_Permits_findClash_32] at h
    refine lv_iload hx hb d_Permits_findClash_32 (lv_at hl 0 rfl) ?_
    refine lv_aload_n hx hb d_Permits_findClash_34 rfl (lv_at hl 1 rfl) ?_
    refine gf_Permits_count hF hK hP m_74 d_Permits_findClash_35 ?_
    refine lv_icmp_ge (tgt := 93) hx hb d_Permits_findClash_38 (by decide) (fun c38 => ?_) (fun c38 => ?_)
    · have h := h.1 c38
      refine lv_iconst (v := (-1)) hx hb d_Permits_findClash_93 (by decide) ?_
      have hv : ((-1) : Int32) = g_Permits_findClash_32 ar sc a0 a1 a2 (n + 1) v4 := by rw [g_Permits_findClash_32, if_pos c38]
      exact W.iret (v := (-1)) hx hb hr (fun t ht hW => ⟨congrArg (fun z => Outcome.returned (some (Value.int z))) hv, ht⟩) (fun _ h9 => nomatch h9) d_Permits_findClash_94
    · have h := h.2 c38
      refine lv_iload_n hx hb d_Permits_findClash_41 rfl (lv_at hl 2 rfl) ?_
      refine lv_aload_n hx hb d_Permits_findClash_42 rfl (lv_at hl 1 rfl) ?_
      refine gf_Permits_tos hF hK hP m_75 d_Permits_findClash_43 ?_
      refine lv_iload hx hb d_Permits_findClash_46 (lv_at hl 0 rfl) ?_
      have k48 := h.1
      have h := h.2
      refine alI_36 hF hK hP k48 d_Permits_findClash_48 ?_
      refine lv_icmp_ge (tgt := 67) hx hb d_Permits_findClash_49 (by decide) (fun c49 => ?_) (fun c49 => ?_)
      · have h := h.1 c49
        refine lv_iconst (v := 0) hx hb d_Permits_findClash_67 (by decide) ?_
        refine lv_istore (lv' := [(5, .int 0), (4, .int v4), (0, .ref (L 30)), (1, .int a0), (2, .int a1), (3, .int a2)]) hx hb d_Permits_findClash_68 hl (by decide) rfl (fun ls hl => ?_)
        refine lv_iload hx hb d_Permits_findClash_70 (lv_at hl 0 rfl) ?_
        refine lv_if_eq (tgt := 87) hx hb d_Permits_findClash_72 (by decide) (fun _ => ?_) (fun c9 => absurd c9 (by decide))
        refine lv_iinc (v := v4 + 1) (lv' := [(4, .int (v4 + 1)), (5, .int 0), (0, .ref (L 30)), (1, .int a0), (2, .int a1), (3, .int a2)]) hx hb d_Permits_findClash_87 hl (k := 1) rfl rfl (by decide) rfl (fun ls hl => ?_)
        refine lv_goto (tgt := 32) hx hb d_Permits_findClash_90 (by decide) ?_
        have hv : g_Permits_findClash_32 ar sc a0 a1 a2 (n + 1) v4 = g_Permits_findClash_32 ar sc a0 a1 a2 n (v4 + 1) := by rw [g_Permits_findClash_32, if_neg c38, if_pos c49]
        rw [hv]
        exact ih (v4 + 1) h ls (lv_sub hl [0, 2, 3, 4, 5] rfl)
      · have h := h.2 c49
        refine lv_aload_n hx hb d_Permits_findClash_52 rfl (lv_at hl 1 rfl) ?_
        refine gf_Permits_froms hF hK hP m_76 d_Permits_findClash_53 ?_
        refine lv_iload hx hb d_Permits_findClash_56 (lv_at hl 0 rfl) ?_
        have k58 := h.1
        have h := h.2
        refine alI_35 hF hK hP k58 d_Permits_findClash_58 ?_
        refine lv_iload_n hx hb d_Permits_findClash_59 rfl (lv_at hl 3 rfl) ?_
        refine lv_icmp_ge (tgt := 67) hx hb d_Permits_findClash_60 (by decide) (fun c60 => ?_) (fun c60 => ?_)
        · have h := h.1 c60
          refine lv_iconst (v := 0) hx hb d_Permits_findClash_67 (by decide) ?_
          refine lv_istore (lv' := [(5, .int 0), (4, .int v4), (0, .ref (L 30)), (1, .int a0), (2, .int a1), (3, .int a2)]) hx hb d_Permits_findClash_68 hl (by decide) rfl (fun ls hl => ?_)
          refine lv_iload hx hb d_Permits_findClash_70 (lv_at hl 0 rfl) ?_
          refine lv_if_eq (tgt := 87) hx hb d_Permits_findClash_72 (by decide) (fun _ => ?_) (fun c9 => absurd c9 (by decide))
          refine lv_iinc (v := v4 + 1) (lv' := [(4, .int (v4 + 1)), (5, .int 0), (0, .ref (L 30)), (1, .int a0), (2, .int a1), (3, .int a2)]) hx hb d_Permits_findClash_87 hl (k := 1) rfl rfl (by decide) rfl (fun ls hl => ?_)
          refine lv_goto (tgt := 32) hx hb d_Permits_findClash_90 (by decide) ?_
          have hv : g_Permits_findClash_32 ar sc a0 a1 a2 (n + 1) v4 = g_Permits_findClash_32 ar sc a0 a1 a2 n (v4 + 1) := by rw [g_Permits_findClash_32, if_neg c38, if_neg c49, if_pos c60]
          rw [hv]
          exact ih (v4 + 1) h ls (lv_sub hl [0, 2, 3, 4, 5] rfl)
        · have h := h.2 c60
          refine lv_iconst (v := 1) hx hb d_Permits_findClash_63 (by decide) ?_
          refine lv_goto (tgt := 68) hx hb d_Permits_findClash_64 (by decide) ?_
          refine lv_istore (lv' := [(5, .int 1), (4, .int v4), (0, .ref (L 30)), (1, .int a0), (2, .int a1), (3, .int a2)]) hx hb d_Permits_findClash_68 hl (by decide) rfl (fun ls hl => ?_)
          refine lv_iload hx hb d_Permits_findClash_70 (lv_at hl 0 rfl) ?_
          refine lv_if_eq (tgt := 87) hx hb d_Permits_findClash_72 (by decide) (fun c9 => absurd c9 (by decide)) (fun _ => ?_)
          refine lv_aload_n hx hb d_Permits_findClash_75 rfl (lv_at hl 2 rfl) ?_
          refine lv_iload hx hb d_Permits_findClash_76 (lv_at hl 1 rfl) ?_
          have k78 := h.1
          have h := h.2
          refine r_Permits_isTooNear hF hK hP k78 m_77 hl.1 ⟨Nat.le_of_ble_eq_true rfl, Nat.le_of_ble_eq_true rfl⟩ ⟨Nat.zero_le _, Nat.zero_le _⟩ (Nat.le_of_ble_eq_true rfl) d_Permits_findClash_78 ?_
          refine lv_if_eq (tgt := 87) hx hb d_Permits_findClash_81 (by decide) (fun c81 => ?_) (fun c81 => ?_)
          · have h := h.1 c81
            refine lv_iinc (v := v4 + 1) (lv' := [(4, .int (v4 + 1)), (5, .int 1), (0, .ref (L 30)), (1, .int a0), (2, .int a1), (3, .int a2)]) hx hb d_Permits_findClash_87 hl (k := 1) rfl rfl (by decide) rfl (fun ls hl => ?_)
            refine lv_goto (tgt := 32) hx hb d_Permits_findClash_90 (by decide) ?_
            have hv : g_Permits_findClash_32 ar sc a0 a1 a2 (n + 1) v4 = g_Permits_findClash_32 ar sc a0 a1 a2 n (v4 + 1) := by rw [g_Permits_findClash_32, if_neg c38, if_neg c49, if_neg c60, if_pos c81]
            rw [hv]
            exact ih (v4 + 1) h ls (lv_sub hl [0, 2, 3, 4, 5] rfl)
          · have h := h.2 c81
            refine lv_iload hx hb d_Permits_findClash_84 (lv_at hl 1 rfl) ?_
            have hv : (v4 : Int32) = g_Permits_findClash_32 ar sc a0 a1 a2 (n + 1) v4 := by rw [g_Permits_findClash_32, if_neg c38, if_neg c49, if_neg c60, if_neg c81]
            exact W.iret (v := v4) hx hb hr (fun t ht hW => ⟨congrArg (fun z => Outcome.returned (some (Value.int z))) hv, ht⟩) (fun _ h9 => nomatch h9) d_Permits_findClash_86
set_option maxHeartbeats 4000000 in
set_option maxRecDepth 100000 in
theorem c_Permits_findClash (l : Launch) (dC : Nat → ClassId) (dI : Nat → Nat → Nat) (L : Nat → Nat) (cA : Nat → ClassId) (ar : Nat → Nat → Int32) (sc : Nat → Int32) (a0 : Int32) (a1 : Int32) (a2 : Int32) (h : p_Permits_findClash ar sc a0 a1 a2) : Met l y_Permits_findClash z_Permits_findClash (rmD 3) (va_Pc [.ref (L 30), .int a0, .int a1, .int a2] (fun U => xw_I dC dI L cA ar sc U)) (QcRead (f_Permits_findClash ar sc a0 a1 a2)) 0 0 (fun _ => False) := by
  refine Met.ofW (cc := b_Permits_findClash) (maxL := 6) (ret := (some .int)) (by decide) rfl ?_
  intro p e s m args below meth c s₁ B hml hv
  obtain ⟨rfl, ⟨hP, hK⟩⟩ := hv
  have hx := B.exec
  have hb := B.bytes
  have hr := B.returns
  have hts : ∀ w ∈ w_all, w.before _ s = true := fun w hw => atoms_spec (ws := z_Permits_findClash) B.pre w (List.mem_cons_of_mem _ hw)
  have hown : s.vm.findClass R_Permits = some m.cls := findClass_of_methodNamed B.named
  have hlocks := B.notSynchronized
  have hF : CallFix p m c b_Permits_findClash 6 s _ w_all R_Permits := ⟨hx, hb, hml, hown, hts⟩
  have hl := lv_entry ([.ref (L 30), .int a0, .int a1, .int a2]) (n := 6) (Nat.le_of_ble_eq_true rfl)
  rw [lg_entry_eq]
  generalize (lg_sl ([.ref (L 30), .int a0, .int a1, .int a2]) ++ List.replicate (6 - (lg_sl ([.ref (L 30), .int a0, .int a1, .int a2])).length) Slot.unset).toArray = ls at hl ⊢
  have hl : lv_has ls 6 [(0, .ref (L 30)), (1, .int a0), (2, .int a1), (3, .int a2)] := hl
  unfold p_Permits_findClash at h
  refine lv_aload_n hx hb d_Permits_findClash_0 rfl (lv_at hl 0 rfl) ?_
  refine gf_Permits_groundTold hF hK hP m_78 d_Permits_findClash_1 ?_
  refine lv_if_ne (tgt := 10) hx hb d_Permits_findClash_4 (by decide) (fun c4 => ?_) (fun c4 => ?_)
  · have h := h.2 c4
    refine lv_aload_n hx hb d_Permits_findClash_10 rfl (lv_at hl 0 rfl) ?_
    refine r_Permits_groundArea hF hK hP m_79 hl.1 ⟨Nat.le_of_ble_eq_true rfl, Nat.le_of_ble_eq_true rfl⟩ ⟨Nat.zero_le _, Nat.zero_le _⟩ (Nat.le_of_ble_eq_true rfl) d_Permits_findClash_11 ?_
    refine lv_iload_n hx hb d_Permits_findClash_14 rfl (lv_at hl 3 rfl) ?_
    refine lv_i2l hx hb d_Permits_findClash_15 rfl ?_
    refine lv_aload_n hx hb d_Permits_findClash_16 rfl (lv_at hl 0 rfl) ?_
    refine gf_Permits_space hF hK hP m_80 d_Permits_findClash_17 ?_
    refine lv_i2l hx hb d_Permits_findClash_20 rfl ?_
    refine lv_lmul hx hb d_Permits_findClash_21 ?_
    refine W.lcmp hx hb d_Permits_findClash_22 ?_
    refine lv_if_ge (tgt := 29) hx hb d_Permits_findClash_23 (by decide) (fun c23 => ?_) (fun c23 => ?_)
    · have h := h.1 c23
      refine lv_iconst (v := 0) hx hb d_Permits_findClash_29 (by decide) ?_
      refine lv_istore (lv' := [(4, .int 0), (0, .ref (L 30)), (1, .int a0), (2, .int a1), (3, .int a2)]) hx hb d_Permits_findClash_30 hl (by decide) rfl (fun ls hl => ?_)
      have kL32 := h
      have hv : f_Permits_findClash ar sc a0 a1 a2 = g_Permits_findClash_32 ar sc a0 a1 a2 200 0 := by rw [f_Permits_findClash, if_neg c4, if_pos c23]
      rw [hv]
      exact l_Permits_findClash_32 a0 a1 a2 hF hK hP hr hlocks 200 0 kL32 ls (lv_sub hl [0, 1, 2, 3, 4] rfl)
    · have h := h.2 c23
      refine lv_bipush (v := (-3)) hx hb d_Permits_findClash_26 (by decide) ?_
      have hv : ((-3) : Int32) = f_Permits_findClash ar sc a0 a1 a2 := by rw [f_Permits_findClash, if_neg c4, if_neg c23]
      exact W.iret (v := (-3)) hx hb hr (fun t ht hW => ⟨congrArg (fun z => Outcome.returned (some (Value.int z))) hv, ht⟩) (fun _ h9 => nomatch h9) d_Permits_findClash_28
  · have h := h.1 c4
    refine lv_bipush (v := (-2)) hx hb d_Permits_findClash_7 (by decide) ?_
    have hv : ((-2) : Int32) = f_Permits_findClash ar sc a0 a1 a2 := by rw [f_Permits_findClash, if_pos c4]
    exact W.iret (v := (-2)) hx hb hr (fun t ht hW => ⟨congrArg (fun z => Outcome.returned (some (Value.int z))) hv, ht⟩) (fun _ h9 => nomatch h9) d_Permits_findClash_9
set_option maxHeartbeats 1000000 in
theorem r_Permits_findClash {p : Program} {l : Launch} {e : Env} {R : Room} {s : State} {m : MethodId} {args : Array Value} {below : List Frame} {meth : Method} {c : Code} {H : Heap} {locs : List Loc} {cells slots : Nat} {Q : State → Prop} {cc : ByteArray} {nL pc idx : Nat} {ls : Array Slot} {rest : List Value} {own : String} {dC : Nat → ClassId} {dI : Nat → Nat → Nat} {L : Nat → Nat} {cA : Nat → ClassId} {ar : Nat → Nat → Int32} {sc : Nat → Int32} {a0 : Int32} {a1 : Int32} {a2 : Int32} (hF : CallFix p m c cc nL s args w_all own) (hK : kW_I dC dI cA s) (hP : va_P (dC, dI) classes (wI L cA ar sc) H) (h : p_Permits_findClash ar sc a0 a1 a2) (hlk : Cond.methodLink own idx y_Permits_findClash ∈ w_all) (hsz : ls.size = nL) (hR : (rmD 3).frames + 1 ≤ R.frames ∧ 8 + (6 + 11) + (rmD 3).locals ≤ R.locals) (hc : cells ≤ R.cells ∧ slots ≤ R.slots) (hrs : (rest.map fun v => v.category).sum ≤ 8) (hdg : decode cc pc = .ok (.invokevirtual idx, 3)) (kk : W p l e R s m args below meth c H locs cells slots Q (F0 m (pc + 3) ls (.int (f_Permits_findClash ar sc a0 a1 a2) :: rest))) : W p l e R s m args below meth c H locs cells slots Q (F0 m pc ls (.int a2 :: .int a1 :: .int a0 :: .ref (L 30) :: rest)) :=
  W.callR (W.runV (As := [.int a0, .int a1, .int a2]) (rest := rest) hF (c_Permits_findClash l dC dI L cA ar sc a0 a1 a2 h) (cwV 3 hF.2.2.2.2 (gV hlk m_81 m_82 m_56 m_83) rfl rfl rfl (by decide +kernel) hR) ⟨xb_I, va_recv hK.1 hP (ci := 6) (q0 := 30) rfl rfl, fun U hU hW => ⟨rfl, by rw [hU]; exact hP, kW_I_warm hW hK⟩⟩ rfl rfl hsz rfl (lv_room hrs) hdg hc) kk
theorem d_Permits_tellGround_0 : decode b_Permits_tellGround 0 = .ok (.aload_n 0, 1) := by decide +kernel
theorem d_Permits_tellGround_1 : decode b_Permits_tellGround 1 = .ok (.iconst 1, 1) := by decide +kernel
theorem d_Permits_tellGround_2 : decode b_Permits_tellGround 2 = .ok (.putfield 34, 3) := by decide +kernel
theorem d_Permits_tellGround_5 : decode b_Permits_tellGround 5 = .ok (.aload_n 0, 1) := by decide +kernel
theorem d_Permits_tellGround_6 : decode b_Permits_tellGround 6 = .ok (.iload_n 1, 1) := by decide +kernel
theorem d_Permits_tellGround_7 : decode b_Permits_tellGround 7 = .ok (.putfield 48, 3) := by decide +kernel
theorem d_Permits_tellGround_10 : decode b_Permits_tellGround 10 = .ok (.aload_n 0, 1) := by decide +kernel
theorem d_Permits_tellGround_11 : decode b_Permits_tellGround 11 = .ok (.iload_n 2, 1) := by decide +kernel
theorem d_Permits_tellGround_12 : decode b_Permits_tellGround 12 = .ok (.putfield 51, 3) := by decide +kernel
theorem d_Permits_tellGround_15 : decode b_Permits_tellGround 15 = .ok (.aload_n 0, 1) := by decide +kernel
theorem d_Permits_tellGround_16 : decode b_Permits_tellGround 16 = .ok (.iload_n 3, 1) := by decide +kernel
theorem d_Permits_tellGround_17 : decode b_Permits_tellGround 17 = .ok (.putfield 54, 3) := by decide +kernel
theorem d_Permits_tellGround_20 : decode b_Permits_tellGround 20 = .ok (.aload_n 0, 1) := by decide +kernel
theorem d_Permits_tellGround_21 : decode b_Permits_tellGround 21 = .ok (.iload 4, 2) := by decide +kernel
theorem d_Permits_tellGround_23 : decode b_Permits_tellGround 23 = .ok (.putfield 57, 3) := by decide +kernel
theorem d_Permits_tellGround_26 : decode b_Permits_tellGround 26 = .ok (.return_, 1) := by decide +kernel
set_option maxHeartbeats 4000000 in
set_option maxRecDepth 100000 in
theorem c_Permits_tellGround (l : Launch) (dC : Nat → ClassId) (dI : Nat → Nat → Nat) (L : Nat → Nat) (cA : Nat → ClassId) (ar : Nat → Nat → Int32) (sc : Nat → Int32) (a0 : Int32) (a1 : Int32) (a2 : Int32) (a3 : Int32) (hL : ij 38 L) : Met l y_Permits_tellGround z_Permits_tellGround (rmD 0) (va_Pc [.ref (L 30), .int a0, .int a1, .int a2, .int a3] (fun U => xw_I dC dI L cA ar sc U)) (va_Qv (fun u : oS => (u.1, u.2) = f_Permits_tellGround ar sc a0 a1 a2 a3) (fun u t => va_P (dC, dI) classes (wI L cA u.1 u.2) t.heap) (aI L)) 0 0 (aI L) := by
  refine Met.ofW (cc := b_Permits_tellGround) (maxL := 5) (ret := none) (by decide) rfl ?_
  intro p e s m args below meth c s₁ B hml hv
  obtain ⟨rfl, ⟨hP, hK⟩⟩ := hv
  have hx := B.exec
  have hb := B.bytes
  have hr := B.returns
  have hts : ∀ w ∈ w_all, w.before _ s = true := fun w hw => atoms_spec (ws := z_Permits_tellGround) B.pre w (List.mem_cons_of_mem _ hw)
  have hown : s.vm.findClass R_Permits = some m.cls := findClass_of_methodNamed B.named
  have hlocks := B.notSynchronized
  have hF : CallFix p m c b_Permits_tellGround 5 s _ w_all R_Permits := ⟨hx, hb, hml, hown, hts⟩
  have hS : va_S (aI L) s.heap s.heap [] := va_S.rf
  have hl := lv_entry ([.ref (L 30), .int a0, .int a1, .int a2, .int a3]) (n := 5) (Nat.le_of_ble_eq_true rfl)
  rw [lg_entry_eq]
  generalize (lg_sl ([.ref (L 30), .int a0, .int a1, .int a2, .int a3]) ++ List.replicate (5 - (lg_sl ([.ref (L 30), .int a0, .int a1, .int a2, .int a3])).length) Slot.unset).toArray = ls at hl ⊢
  have hl : lv_has ls 5 [(0, .ref (L 30)), (1, .int a0), (2, .int a1), (3, .int a2), (4, .int a3)] := hl
  refine lv_aload_n hx hb d_Permits_tellGround_0 rfl (lv_at hl 0 rfl) ?_
  refine lv_iconst (v := 1) hx hb d_Permits_tellGround_1 (by decide) ?_
  refine pf_Permits_groundTold hF hK hP hL hS rfl rfl m_78 d_Permits_tellGround_2 (fun H locs hP hS => ?_)
  refine lv_aload_n hx hb d_Permits_tellGround_5 rfl (lv_at hl 0 rfl) ?_
  refine lv_iload_n hx hb d_Permits_tellGround_6 rfl (lv_at hl 1 rfl) ?_
  refine pf_Permits_groundX1 hF hK hP hL hS m_59 d_Permits_tellGround_7 (fun H locs hP hS => ?_)
  refine lv_aload_n hx hb d_Permits_tellGround_10 rfl (lv_at hl 0 rfl) ?_
  refine lv_iload_n hx hb d_Permits_tellGround_11 rfl (lv_at hl 2 rfl) ?_
  refine pf_Permits_groundY1 hF hK hP hL hS m_61 d_Permits_tellGround_12 (fun H locs hP hS => ?_)
  refine lv_aload_n hx hb d_Permits_tellGround_15 rfl (lv_at hl 0 rfl) ?_
  refine lv_iload_n hx hb d_Permits_tellGround_16 rfl (lv_at hl 3 rfl) ?_
  refine pf_Permits_groundX2 hF hK hP hL hS m_58 d_Permits_tellGround_17 (fun H locs hP hS => ?_)
  refine lv_aload_n hx hb d_Permits_tellGround_20 rfl (lv_at hl 0 rfl) ?_
  refine lv_iload hx hb d_Permits_tellGround_21 (lv_at hl 4 rfl) ?_
  refine pf_Permits_groundY2 hF hK hP hL hS m_60 d_Permits_tellGround_23 (fun H locs hP hS => ?_)
  have hv : ((ar, sg (sg (sg (sg (sg sc 6 1) 7 a0) 8 a1) 9 a2) 10 a3) : (Nat → Nat → Int32) × (Nat → Int32)) = f_Permits_tellGround ar sc a0 a1 a2 a3 := by rw [f_Permits_tellGround]
  exact W.vret hx hb hr (fun t ht hW => ⟨⟨(ar, sg (sg (sg (sg (sg sc 6 1) 7 a0) 8 a1) 9 a2) 10 a3), rfl, hv, by dsimp only; rw [ht]; exact hP⟩, hS.F ht⟩) hS.2.2 d_Permits_tellGround_26
set_option maxHeartbeats 1000000 in
theorem r_Permits_tellGround {p : Program} {l : Launch} {e : Env} {R : Room} {s : State} {m : MethodId} {args : Array Value} {below : List Frame} {meth : Method} {c : Code} {H : Heap} {locs : List Loc} {cells slots : Nat} {Q : State → Prop} {cc : ByteArray} {nL pc idx : Nat} {ls : Array Slot} {rest : List Value} {own : String} {dC : Nat → ClassId} {dI : Nat → Nat → Nat} {L : Nat → Nat} {cA : Nat → ClassId} {ar : Nat → Nat → Int32} {sc : Nat → Int32} {H0 : Heap} {a0 : Int32} {a1 : Int32} {a2 : Int32} {a3 : Int32} (hF : CallFix p m c cc nL s args w_all own) (hK : kW_I dC dI cA s) (hP : va_P (dC, dI) classes (wI L cA ar sc) H) (hL : ij 38 L) (hS : va_S (aI L) H0 H locs) (hlk : Cond.methodLink own idx y_Permits_tellGround ∈ w_all) (hsz : ls.size = nL) (hR : (rmD 0).frames + 1 ≤ R.frames ∧ 8 + (5 + 11) + (rmD 0).locals ≤ R.locals) (hc : cells ≤ R.cells ∧ slots ≤ R.slots) (hrs : (rest.map fun v => v.category).sum ≤ 8) (hdg : decode cc pc = .ok (.invokevirtual idx, 3)) (kk : ∀ (H1 : Heap) (locs1 : List Loc), va_P (dC, dI) classes (wI L cA ((f_Permits_tellGround ar sc a0 a1 a2 a3).1) ((f_Permits_tellGround ar sc a0 a1 a2 a3).2)) H1 → va_S (aI L) H0 H1 locs1 → W p l e R s m args below meth c H1 locs1 cells slots Q (F0 m (pc + 3) ls (rest))) : W p l e R s m args below meth c H locs cells slots Q (F0 m pc ls (.int a3 :: .int a2 :: .int a1 :: .int a0 :: .ref (L 30) :: rest)) :=
  va_callv (va_runV (As := [.int a0, .int a1, .int a2, .int a3]) (rest := rest) hF (c_Permits_tellGround l dC dI L cA ar sc a0 a1 a2 a3 hL) (cwV 4 hF.2.2.2.2 (gV hlk m_84 m_85 m_56 m_86) rfl rfl rfl (by decide +kernel) hR) ⟨xb_I, va_recv hK.1 hP (ci := 6) (q0 := 30) rfl rfl, fun U hU hW => ⟨rfl, by rw [hU]; exact hP, kW_I_warm hW hK⟩⟩ rfl rfl hsz rfl (lv_room hrs) hdg hc) hS (fun q _ h9 => h9) (fun q h9 => h9) (fun u t H1 locs1 ht hvm hw hB hz1 hk1 hS1 => by
    have hk9 := kk H1 locs1 (by rw [← hw, ← ht]; exact hB) hS1
    exact hk9)
theorem d_Permits_add_0 : decode b_Permits_add 0 = .ok (.aload_n 0, 1) := by decide +kernel
theorem d_Permits_add_1 : decode b_Permits_add 1 = .ok (.getfield 30, 3) := by decide +kernel
theorem d_Permits_add_4 : decode b_Permits_add 4 = .ok (.istore_n 3, 1) := by decide +kernel
theorem d_Permits_add_5 : decode b_Permits_add 5 = .ok (.aload_n 0, 1) := by decide +kernel
theorem d_Permits_add_6 : decode b_Permits_add 6 = .ok (.getfield 9, 3) := by decide +kernel
theorem d_Permits_add_9 : decode b_Permits_add 9 = .ok (.iload_n 3, 1) := by decide +kernel
theorem d_Permits_add_10 : decode b_Permits_add 10 = .ok (.aload_n 0, 1) := by decide +kernel
theorem d_Permits_add_11 : decode b_Permits_add 11 = .ok (.getfield 48, 3) := by decide +kernel
theorem d_Permits_add_14 : decode b_Permits_add 14 = .ok (.iastore, 1) := by decide +kernel
theorem d_Permits_add_15 : decode b_Permits_add 15 = .ok (.aload_n 0, 1) := by decide +kernel
theorem d_Permits_add_16 : decode b_Permits_add 16 = .ok (.getfield 15, 3) := by decide +kernel
theorem d_Permits_add_19 : decode b_Permits_add 19 = .ok (.iload_n 3, 1) := by decide +kernel
theorem d_Permits_add_20 : decode b_Permits_add 20 = .ok (.aload_n 0, 1) := by decide +kernel
theorem d_Permits_add_21 : decode b_Permits_add 21 = .ok (.getfield 51, 3) := by decide +kernel
theorem d_Permits_add_24 : decode b_Permits_add 24 = .ok (.iastore, 1) := by decide +kernel
theorem d_Permits_add_25 : decode b_Permits_add 25 = .ok (.aload_n 0, 1) := by decide +kernel
theorem d_Permits_add_26 : decode b_Permits_add 26 = .ok (.getfield 18, 3) := by decide +kernel
theorem d_Permits_add_29 : decode b_Permits_add 29 = .ok (.iload_n 3, 1) := by decide +kernel
theorem d_Permits_add_30 : decode b_Permits_add 30 = .ok (.aload_n 0, 1) := by decide +kernel
theorem d_Permits_add_31 : decode b_Permits_add 31 = .ok (.getfield 54, 3) := by decide +kernel
theorem d_Permits_add_34 : decode b_Permits_add 34 = .ok (.iastore, 1) := by decide +kernel
theorem d_Permits_add_35 : decode b_Permits_add 35 = .ok (.aload_n 0, 1) := by decide +kernel
theorem d_Permits_add_36 : decode b_Permits_add 36 = .ok (.getfield 21, 3) := by decide +kernel
theorem d_Permits_add_39 : decode b_Permits_add 39 = .ok (.iload_n 3, 1) := by decide +kernel
theorem d_Permits_add_40 : decode b_Permits_add 40 = .ok (.aload_n 0, 1) := by decide +kernel
theorem d_Permits_add_41 : decode b_Permits_add 41 = .ok (.getfield 57, 3) := by decide +kernel
theorem d_Permits_add_44 : decode b_Permits_add 44 = .ok (.iastore, 1) := by decide +kernel
theorem d_Permits_add_45 : decode b_Permits_add 45 = .ok (.aload_n 0, 1) := by decide +kernel
theorem d_Permits_add_46 : decode b_Permits_add 46 = .ok (.getfield 24, 3) := by decide +kernel
theorem d_Permits_add_49 : decode b_Permits_add 49 = .ok (.iload_n 3, 1) := by decide +kernel
theorem d_Permits_add_50 : decode b_Permits_add 50 = .ok (.iload_n 1, 1) := by decide +kernel
theorem d_Permits_add_51 : decode b_Permits_add 51 = .ok (.iastore, 1) := by decide +kernel
theorem d_Permits_add_52 : decode b_Permits_add 52 = .ok (.aload_n 0, 1) := by decide +kernel
theorem d_Permits_add_53 : decode b_Permits_add 53 = .ok (.getfield 27, 3) := by decide +kernel
theorem d_Permits_add_56 : decode b_Permits_add 56 = .ok (.iload_n 3, 1) := by decide +kernel
theorem d_Permits_add_57 : decode b_Permits_add 57 = .ok (.iload_n 2, 1) := by decide +kernel
theorem d_Permits_add_58 : decode b_Permits_add 58 = .ok (.iastore, 1) := by decide +kernel
theorem d_Permits_add_59 : decode b_Permits_add 59 = .ok (.aload_n 0, 1) := by decide +kernel
theorem d_Permits_add_60 : decode b_Permits_add 60 = .ok (.dup, 1) := by decide +kernel
theorem d_Permits_add_61 : decode b_Permits_add 61 = .ok (.getfield 30, 3) := by decide +kernel
theorem d_Permits_add_64 : decode b_Permits_add 64 = .ok (.iconst 1, 1) := by decide +kernel
theorem d_Permits_add_65 : decode b_Permits_add 65 = .ok (.iadd, 1) := by decide +kernel
theorem d_Permits_add_66 : decode b_Permits_add 66 = .ok (.putfield 30, 3) := by decide +kernel
theorem d_Permits_add_69 : decode b_Permits_add 69 = .ok (.iload_n 3, 1) := by decide +kernel
theorem d_Permits_add_70 : decode b_Permits_add 70 = .ok (.ireturn, 1) := by decide +kernel
set_option maxHeartbeats 4000000 in
set_option maxRecDepth 100000 in
theorem c_Permits_add (l : Launch) (dC : Nat → ClassId) (dI : Nat → Nat → Nat) (L : Nat → Nat) (cA : Nat → ClassId) (ar : Nat → Nat → Int32) (sc : Nat → Int32) (a0 : Int32) (a1 : Int32) (hL : ij 38 L) (h : p_Permits_add ar sc a0 a1) : Met l y_Permits_add z_Permits_add (rmD 0) (va_Pc [.ref (L 30), .int a0, .int a1] (fun U => xw_I dC dI L cA ar sc U)) (va_Qi (fun (r : Int32) (u : oS) => (r, u.1, u.2) = f_Permits_add ar sc a0 a1) (fun u t => va_P (dC, dI) classes (wI L cA u.1 u.2) t.heap) (aI L)) 0 0 (aI L) := by
  refine Met.ofW (cc := b_Permits_add) (maxL := 4) (ret := (some .int)) (by decide) rfl ?_
  intro p e s m args below meth c s₁ B hml hv
  obtain ⟨rfl, ⟨hP, hK⟩⟩ := hv
  have hx := B.exec
  have hb := B.bytes
  have hr := B.returns
  have hts : ∀ w ∈ w_all, w.before _ s = true := fun w hw => atoms_spec (ws := z_Permits_add) B.pre w (List.mem_cons_of_mem _ hw)
  have hown : s.vm.findClass R_Permits = some m.cls := findClass_of_methodNamed B.named
  have hlocks := B.notSynchronized
  have hF : CallFix p m c b_Permits_add 4 s _ w_all R_Permits := ⟨hx, hb, hml, hown, hts⟩
  have hS : va_S (aI L) s.heap s.heap [] := va_S.rf
  have hl := lv_entry ([.ref (L 30), .int a0, .int a1]) (n := 4) (Nat.le_of_ble_eq_true rfl)
  rw [lg_entry_eq]
  generalize (lg_sl ([.ref (L 30), .int a0, .int a1]) ++ List.replicate (4 - (lg_sl ([.ref (L 30), .int a0, .int a1])).length) Slot.unset).toArray = ls at hl ⊢
  have hl : lv_has ls 4 [(0, .ref (L 30)), (1, .int a0), (2, .int a1)] := hl
  unfold p_Permits_add at h
  refine lv_aload_n hx hb d_Permits_add_0 rfl (lv_at hl 0 rfl) ?_
  refine gf_Permits_count hF hK hP m_74 d_Permits_add_1 ?_
  refine lv_istore_n (lv' := [(3, .int (sc 5)), (0, .ref (L 30)), (1, .int a0), (2, .int a1)]) hx hb d_Permits_add_4 rfl hl (by decide) rfl (fun ls hl => ?_)
  refine lv_aload_n hx hb d_Permits_add_5 rfl (lv_at hl 1 rfl) ?_
  refine gf_Permits_x1s hF hK hP m_65 d_Permits_add_6 ?_
  refine lv_iload_n hx hb d_Permits_add_9 rfl (lv_at hl 0 rfl) ?_
  refine lv_aload_n hx hb d_Permits_add_10 rfl (lv_at hl 1 rfl) ?_
  refine gf_Permits_groundX1 hF hK hP m_59 d_Permits_add_11 ?_
  have k14 := h.1
  have h := h.2
  refine asI_31 hF hK hP hL hS k14 d_Permits_add_14 (fun H locs hP hS => ?_)
  refine lv_aload_n hx hb d_Permits_add_15 rfl (lv_at hl 1 rfl) ?_
  refine gf_Permits_y1s hF hK hP m_68 d_Permits_add_16 ?_
  refine lv_iload_n hx hb d_Permits_add_19 rfl (lv_at hl 0 rfl) ?_
  refine lv_aload_n hx hb d_Permits_add_20 rfl (lv_at hl 1 rfl) ?_
  refine gf_Permits_groundY1 hF hK hP m_61 d_Permits_add_21 ?_
  have k24 := h.1
  have h := h.2
  refine asI_32 hF hK hP hL hS k24 d_Permits_add_24 (fun H locs hP hS => ?_)
  refine lv_aload_n hx hb d_Permits_add_25 rfl (lv_at hl 1 rfl) ?_
  refine gf_Permits_x2s hF hK hP m_66 d_Permits_add_26 ?_
  refine lv_iload_n hx hb d_Permits_add_29 rfl (lv_at hl 0 rfl) ?_
  refine lv_aload_n hx hb d_Permits_add_30 rfl (lv_at hl 1 rfl) ?_
  refine gf_Permits_groundX2 hF hK hP m_58 d_Permits_add_31 ?_
  have k34 := h.1
  have h := h.2
  refine asI_33 hF hK hP hL hS k34 d_Permits_add_34 (fun H locs hP hS => ?_)
  refine lv_aload_n hx hb d_Permits_add_35 rfl (lv_at hl 1 rfl) ?_
  refine gf_Permits_y2s hF hK hP m_69 d_Permits_add_36 ?_
  refine lv_iload_n hx hb d_Permits_add_39 rfl (lv_at hl 0 rfl) ?_
  refine lv_aload_n hx hb d_Permits_add_40 rfl (lv_at hl 1 rfl) ?_
  refine gf_Permits_groundY2 hF hK hP m_60 d_Permits_add_41 ?_
  have k44 := h.1
  have h := h.2
  refine asI_34 hF hK hP hL hS k44 d_Permits_add_44 (fun H locs hP hS => ?_)
  refine lv_aload_n hx hb d_Permits_add_45 rfl (lv_at hl 1 rfl) ?_
  refine gf_Permits_froms hF hK hP m_76 d_Permits_add_46 ?_
  refine lv_iload_n hx hb d_Permits_add_49 rfl (lv_at hl 0 rfl) ?_
  refine lv_iload_n hx hb d_Permits_add_50 rfl (lv_at hl 2 rfl) ?_
  have k51 := h.1
  have h := h.2
  refine asI_35 hF hK hP hL hS k51 d_Permits_add_51 (fun H locs hP hS => ?_)
  refine lv_aload_n hx hb d_Permits_add_52 rfl (lv_at hl 1 rfl) ?_
  refine gf_Permits_tos hF hK hP m_75 d_Permits_add_53 ?_
  refine lv_iload_n hx hb d_Permits_add_56 rfl (lv_at hl 0 rfl) ?_
  refine lv_iload_n hx hb d_Permits_add_57 rfl (lv_at hl 3 rfl) ?_
  have k58 := h
  refine asI_36 hF hK hP hL hS k58 d_Permits_add_58 (fun H locs hP hS => ?_)
  refine lv_aload_n hx hb d_Permits_add_59 rfl (lv_at hl 1 rfl) ?_
  refine lv_dup hx hb d_Permits_add_60 rfl ?_
  refine gf_Permits_count hF hK hP m_74 d_Permits_add_61 ?_
  refine lv_iconst (v := 1) hx hb d_Permits_add_64 (by decide) ?_
  refine lv_iadd hx hb d_Permits_add_65 ?_
  refine pf_Permits_count hF hK hP hL hS m_74 d_Permits_add_66 (fun H locs hP hS => ?_)
  refine lv_iload_n hx hb d_Permits_add_69 rfl (lv_at hl 0 rfl) ?_
  have hv : ((sc 5, s2 (s2 (s2 (s2 (s2 (s2 ar 31 ((sc 5).toNatClampNeg) (sc 7)) 32 ((sc 5).toNatClampNeg) (sc 8)) 33 ((sc 5).toNatClampNeg) (sc 9)) 34 ((sc 5).toNatClampNeg) (sc 10)) 35 ((sc 5).toNatClampNeg) a0) 36 ((sc 5).toNatClampNeg) a1, sg sc 5 ((sc 5) + 1)) : Int32 × (Nat → Nat → Int32) × (Nat → Int32)) = f_Permits_add ar sc a0 a1 := by rw [f_Permits_add]
  exact W.iret (v := sc 5) hx hb hr (fun t ht hW => ⟨⟨sc 5, (s2 (s2 (s2 (s2 (s2 (s2 ar 31 ((sc 5).toNatClampNeg) (sc 7)) 32 ((sc 5).toNatClampNeg) (sc 8)) 33 ((sc 5).toNatClampNeg) (sc 9)) 34 ((sc 5).toNatClampNeg) (sc 10)) 35 ((sc 5).toNatClampNeg) a0) 36 ((sc 5).toNatClampNeg) a1, sg sc 5 ((sc 5) + 1)), rfl, hv, by dsimp only; rw [ht]; exact hP⟩, hS.F ht⟩) hS.2.2 d_Permits_add_70
set_option maxHeartbeats 1000000 in
theorem r_Permits_add {p : Program} {l : Launch} {e : Env} {R : Room} {s : State} {m : MethodId} {args : Array Value} {below : List Frame} {meth : Method} {c : Code} {H : Heap} {locs : List Loc} {cells slots : Nat} {Q : State → Prop} {cc : ByteArray} {nL pc idx : Nat} {ls : Array Slot} {rest : List Value} {own : String} {dC : Nat → ClassId} {dI : Nat → Nat → Nat} {L : Nat → Nat} {cA : Nat → ClassId} {ar : Nat → Nat → Int32} {sc : Nat → Int32} {H0 : Heap} {a0 : Int32} {a1 : Int32} (hF : CallFix p m c cc nL s args w_all own) (hK : kW_I dC dI cA s) (hP : va_P (dC, dI) classes (wI L cA ar sc) H) (hL : ij 38 L) (hS : va_S (aI L) H0 H locs) (h : p_Permits_add ar sc a0 a1) (hlk : Cond.methodLink own idx y_Permits_add ∈ w_all) (hsz : ls.size = nL) (hR : (rmD 0).frames + 1 ≤ R.frames ∧ 8 + (4 + 11) + (rmD 0).locals ≤ R.locals) (hc : cells ≤ R.cells ∧ slots ≤ R.slots) (hrs : (rest.map fun v => v.category).sum ≤ 8) (hdg : decode cc pc = .ok (.invokevirtual idx, 3)) (kk : ∀ (H1 : Heap) (locs1 : List Loc), va_P (dC, dI) classes (wI L cA ((f_Permits_add ar sc a0 a1).2.1) ((f_Permits_add ar sc a0 a1).2.2)) H1 → va_S (aI L) H0 H1 locs1 → W p l e R s m args below meth c H1 locs1 cells slots Q (F0 m (pc + 3) ls (.int (f_Permits_add ar sc a0 a1).1 :: rest))) : W p l e R s m args below meth c H locs cells slots Q (F0 m pc ls (.int a1 :: .int a0 :: .ref (L 30) :: rest)) :=
  va_calli (va_runV (As := [.int a0, .int a1]) (rest := rest) hF (c_Permits_add l dC dI L cA ar sc a0 a1 hL h) (cwV 2 hF.2.2.2.2 (gV hlk m_87 m_88 m_56 m_89) rfl rfl rfl (by decide +kernel) hR) ⟨xb_I, va_recv hK.1 hP (ci := 6) (q0 := 30) rfl rfl, fun U hU hW => ⟨rfl, by rw [hU]; exact hP, kW_I_warm hW hK⟩⟩ rfl rfl hsz rfl (lv_room hrs) hdg hc) hS (fun q _ h9 => h9) (fun q h9 => h9) (fun r u t H1 locs1 ht hvm hw hB hz1 hk1 hS1 => by
    have hk9 := kk H1 locs1 (by rw [← hw, ← ht]; exact hB) hS1
    rw [← hw] at hk9
    exact hk9)

theorem m_90 : (Cond.fieldLink R_Route 21 "InspectRows$Route" "legs" "[I") ∈ w_all := List.mem_filter.mpr ⟨List.mem_of_getElem? (i := 174) (by decide +kernel), by decide +kernel⟩
theorem m_91 : (Cond.fieldLink R_Route 24 "InspectRows$Route" "leastHome" "[I") ∈ w_all := List.mem_filter.mpr ⟨List.mem_of_getElem? (i := 175) (by decide +kernel), by decide +kernel⟩
theorem m_92 : (Cond.instanceMethod y_Route_metresBy) ∈ w_all := List.mem_filter.mpr ⟨List.mem_of_getElem? (i := 634) (by decide +kernel), by decide +kernel⟩
theorem m_93 : (Cond.selects R_Route y_Route_metresBy y_Route_metresBy) ∈ w_all := List.mem_filter.mpr ⟨List.mem_of_getElem? (i := 13) (by decide +kernel), by decide +kernel⟩
theorem m_94 : (Cond.initialized R_Route) ∈ w_all := List.mem_filter.mpr ⟨List.mem_of_getElem? (i := 37) (by decide +kernel), by decide +kernel⟩
theorem m_95 : (Cond.code y_Route_metresBy b_Route_metresBy 5 (some .int)) ∈ w_all := List.mem_filter.mpr ⟨List.mem_of_getElem? (i := 635) (by decide +kernel), by decide +kernel⟩
theorem m_96 : (Cond.fieldLink R_Route 30 "InspectRows$Route" "count" "I") ∈ w_all := List.mem_filter.mpr ⟨List.mem_of_getElem? (i := 178) (by decide +kernel), by decide +kernel⟩
theorem m_97 : (Cond.methodLink R_Route 53 y_Route_metresBy) ∈ w_all := List.mem_filter.mpr ⟨List.mem_of_getElem? (i := 632) (by decide +kernel), by decide +kernel⟩
theorem m_98 : (Cond.constant R_Route 59 2147483647) ∈ w_all := List.mem_filter.mpr ⟨List.mem_of_getElem? (i := 631) (by decide +kernel), by decide +kernel⟩
theorem m_99 : (Cond.instanceMethod y_Route_firstLeastNext) ∈ w_all := List.mem_filter.mpr ⟨List.mem_of_getElem? (i := 629) (by decide +kernel), by decide +kernel⟩
theorem m_100 : (Cond.selects R_Route y_Route_firstLeastNext y_Route_firstLeastNext) ∈ w_all := List.mem_filter.mpr ⟨List.mem_of_getElem? (i := 12) (by decide +kernel), by decide +kernel⟩
theorem m_101 : (Cond.code y_Route_firstLeastNext b_Route_firstLeastNext 7 (some .int)) ∈ w_all := List.mem_filter.mpr ⟨List.mem_of_getElem? (i := 630) (by decide +kernel), by decide +kernel⟩
theorem m_102 : (Cond.fieldLink R_Route 9 "InspectRows$Route" "told" "[I") ∈ w_all := List.mem_filter.mpr ⟨List.mem_of_getElem? (i := 171) (by decide +kernel), by decide +kernel⟩
theorem m_103 : (Cond.fieldLink R_Route 15 "InspectRows$Route" "xs" "[I") ∈ w_all := List.mem_filter.mpr ⟨List.mem_of_getElem? (i := 172) (by decide +kernel), by decide +kernel⟩
theorem m_104 : (Cond.fieldLink R_Route 18 "InspectRows$Route" "ys" "[I") ∈ w_all := List.mem_filter.mpr ⟨List.mem_of_getElem? (i := 173) (by decide +kernel), by decide +kernel⟩
theorem m_105 : (Cond.instanceMethod y_Route_tell) ∈ w_all := List.mem_filter.mpr ⟨List.mem_of_getElem? (i := 609) (by decide +kernel), by decide +kernel⟩
theorem m_106 : (Cond.selects R_Route y_Route_tell y_Route_tell) ∈ w_all := List.mem_filter.mpr ⟨List.mem_of_getElem? (i := 610) (by decide +kernel), by decide +kernel⟩
theorem m_107 : (Cond.code y_Route_tell b_Route_tell 5 none) ∈ w_all := List.mem_filter.mpr ⟨List.mem_of_getElem? (i := 611) (by decide +kernel), by decide +kernel⟩
theorem m_108 : (Cond.methodLink R_Route 43 Lib.Math.abs.name) ∈ w_all := List.mem_filter.mpr ⟨List.mem_of_getElem? (i := 620) (by decide +kernel), by decide +kernel⟩
theorem m_109 : (Cond.static Lib.Math.abs.name) ∈ w_all := List.mem_filter.mpr ⟨List.mem_of_getElem? (i := 621) (by decide +kernel), by decide +kernel⟩
theorem m_110 : (Cond.code Lib.Math.abs.name Lib.Math.abs.code 1 (some .int)) ∈ w_all := List.mem_filter.mpr ⟨List.mem_of_getElem? (i := 622) (by decide +kernel), by decide +kernel⟩
theorem m_111 : (Cond.instanceMethod y_Route_fillLegs) ∈ w_all := List.mem_filter.mpr ⟨List.mem_of_getElem? (i := 618) (by decide +kernel), by decide +kernel⟩
theorem m_112 : (Cond.selects R_Route y_Route_fillLegs y_Route_fillLegs) ∈ w_all := List.mem_filter.mpr ⟨List.mem_of_getElem? (i := 10) (by decide +kernel), by decide +kernel⟩
theorem m_113 : (Cond.code y_Route_fillLegs b_Route_fillLegs 3 none) ∈ w_all := List.mem_filter.mpr ⟨List.mem_of_getElem? (i := 619) (by decide +kernel), by decide +kernel⟩
theorem m_114 : (Cond.methodLink R_Route 49 y_Route_firstLeastNext) ∈ w_all := List.mem_filter.mpr ⟨List.mem_of_getElem? (i := 627) (by decide +kernel), by decide +kernel⟩
theorem m_115 : (Cond.instanceMethod y_Route_fillLeastHome) ∈ w_all := List.mem_filter.mpr ⟨List.mem_of_getElem? (i := 625) (by decide +kernel), by decide +kernel⟩
theorem m_116 : (Cond.selects R_Route y_Route_fillLeastHome y_Route_fillLeastHome) ∈ w_all := List.mem_filter.mpr ⟨List.mem_of_getElem? (i := 11) (by decide +kernel), by decide +kernel⟩
theorem m_117 : (Cond.code y_Route_fillLeastHome b_Route_fillLeastHome 5 none) ∈ w_all := List.mem_filter.mpr ⟨List.mem_of_getElem? (i := 626) (by decide +kernel), by decide +kernel⟩
theorem m_118 : (Cond.fieldLink R_Route 27 "InspectRows$Route" "stops" "[I") ∈ w_all := List.mem_filter.mpr ⟨List.mem_of_getElem? (i := 176) (by decide +kernel), by decide +kernel⟩
theorem m_119 : (Cond.instanceMethod y_Route_fillStops) ∈ w_all := List.mem_filter.mpr ⟨List.mem_of_getElem? (i := 638) (by decide +kernel), by decide +kernel⟩
theorem m_120 : (Cond.selects R_Route y_Route_fillStops y_Route_fillStops) ∈ w_all := List.mem_filter.mpr ⟨List.mem_of_getElem? (i := 14) (by decide +kernel), by decide +kernel⟩
theorem m_121 : (Cond.code y_Route_fillStops b_Route_fillStops 4 none) ∈ w_all := List.mem_filter.mpr ⟨List.mem_of_getElem? (i := 639) (by decide +kernel), by decide +kernel⟩
theorem m_122 : (Cond.methodLink R_Route 34 y_Route_fillLegs) ∈ w_all := List.mem_filter.mpr ⟨List.mem_of_getElem? (i := 616) (by decide +kernel), by decide +kernel⟩
theorem m_123 : (Cond.methodLink R_Route 37 y_Route_fillLeastHome) ∈ w_all := List.mem_filter.mpr ⟨List.mem_of_getElem? (i := 623) (by decide +kernel), by decide +kernel⟩
theorem m_124 : (Cond.methodLink R_Route 40 y_Route_fillStops) ∈ w_all := List.mem_filter.mpr ⟨List.mem_of_getElem? (i := 636) (by decide +kernel), by decide +kernel⟩
theorem m_125 : (Cond.instanceMethod y_Route_findLeast) ∈ w_all := List.mem_filter.mpr ⟨List.mem_of_getElem? (i := 613) (by decide +kernel), by decide +kernel⟩
theorem m_126 : (Cond.selects R_Route y_Route_findLeast y_Route_findLeast) ∈ w_all := List.mem_filter.mpr ⟨List.mem_of_getElem? (i := 614) (by decide +kernel), by decide +kernel⟩
theorem m_127 : (Cond.code y_Route_findLeast b_Route_findLeast 2 (some .int)) ∈ w_all := List.mem_filter.mpr ⟨List.mem_of_getElem? (i := 615) (by decide +kernel), by decide +kernel⟩
theorem d_Route_metresBy_0 : decode b_Route_metresBy 0 = .ok (.iload_n 1, 1) := by decide +kernel
theorem d_Route_metresBy_1 : decode b_Route_metresBy 1 = .ok (.iconst 1, 1) := by decide +kernel
theorem d_Route_metresBy_2 : decode b_Route_metresBy 2 = .ok (.iload_n 3, 1) := by decide +kernel
theorem d_Route_metresBy_3 : decode b_Route_metresBy 3 = .ok (.ishl, 1) := by decide +kernel
theorem d_Route_metresBy_4 : decode b_Route_metresBy 4 = .ok (.ior, 1) := by decide +kernel
theorem d_Route_metresBy_5 : decode b_Route_metresBy 5 = .ok (.istore 4, 2) := by decide +kernel
theorem d_Route_metresBy_7 : decode b_Route_metresBy 7 = .ok (.aload_n 0, 1) := by decide +kernel
theorem d_Route_metresBy_8 : decode b_Route_metresBy 8 = .ok (.getfield 21, 3) := by decide +kernel
theorem d_Route_metresBy_11 : decode b_Route_metresBy 11 = .ok (.iload_n 2, 1) := by decide +kernel
theorem d_Route_metresBy_12 : decode b_Route_metresBy 12 = .ok (.bipush 8, 2) := by decide +kernel
theorem d_Route_metresBy_14 : decode b_Route_metresBy 14 = .ok (.imul, 1) := by decide +kernel
theorem d_Route_metresBy_15 : decode b_Route_metresBy 15 = .ok (.iload_n 3, 1) := by decide +kernel
theorem d_Route_metresBy_16 : decode b_Route_metresBy 16 = .ok (.iadd, 1) := by decide +kernel
theorem d_Route_metresBy_17 : decode b_Route_metresBy 17 = .ok (.iaload, 1) := by decide +kernel
theorem d_Route_metresBy_18 : decode b_Route_metresBy 18 = .ok (.aload_n 0, 1) := by decide +kernel
theorem d_Route_metresBy_19 : decode b_Route_metresBy 19 = .ok (.getfield 24, 3) := by decide +kernel
theorem d_Route_metresBy_22 : decode b_Route_metresBy 22 = .ok (.iload 4, 2) := by decide +kernel
theorem d_Route_metresBy_24 : decode b_Route_metresBy 24 = .ok (.bipush 8, 2) := by decide +kernel
theorem d_Route_metresBy_26 : decode b_Route_metresBy 26 = .ok (.imul, 1) := by decide +kernel
theorem d_Route_metresBy_27 : decode b_Route_metresBy 27 = .ok (.iload_n 3, 1) := by decide +kernel
theorem d_Route_metresBy_28 : decode b_Route_metresBy 28 = .ok (.iadd, 1) := by decide +kernel
theorem d_Route_metresBy_29 : decode b_Route_metresBy 29 = .ok (.iaload, 1) := by decide +kernel
theorem d_Route_metresBy_30 : decode b_Route_metresBy 30 = .ok (.iadd, 1) := by decide +kernel
theorem d_Route_metresBy_31 : decode b_Route_metresBy 31 = .ok (.ireturn, 1) := by decide +kernel
set_option maxHeartbeats 4000000 in
set_option maxRecDepth 100000 in
theorem c_Route_metresBy (l : Launch) (dC : Nat → ClassId) (dI : Nat → Nat → Nat) (L : Nat → Nat) (cA : Nat → ClassId) (ar : Nat → Nat → Int32) (sc : Nat → Int32) (a0 : Int32) (a1 : Int32) (a2 : Int32) (h : p_Route_metresBy ar sc a0 a1 a2) : Met l y_Route_metresBy z_Route_metresBy (rmD 0) (va_Pc [.ref (L 23), .int a0, .int a1, .int a2] (fun U => xw_I dC dI L cA ar sc U)) (QcRead (f_Route_metresBy ar sc a0 a1 a2)) 0 0 (fun _ => False) := by
  refine Met.ofW (cc := b_Route_metresBy) (maxL := 5) (ret := (some .int)) (by decide) rfl ?_
  intro p e s m args below meth c s₁ B hml hv
  obtain ⟨rfl, ⟨hP, hK⟩⟩ := hv
  have hx := B.exec
  have hb := B.bytes
  have hr := B.returns
  have hts : ∀ w ∈ w_all, w.before _ s = true := fun w hw => atoms_spec (ws := z_Route_metresBy) B.pre w (List.mem_cons_of_mem _ hw)
  have hown : s.vm.findClass R_Route = some m.cls := findClass_of_methodNamed B.named
  have hlocks := B.notSynchronized
  have hF : CallFix p m c b_Route_metresBy 5 s _ w_all R_Route := ⟨hx, hb, hml, hown, hts⟩
  have hl := lv_entry ([.ref (L 23), .int a0, .int a1, .int a2]) (n := 5) (Nat.le_of_ble_eq_true rfl)
  rw [lg_entry_eq]
  generalize (lg_sl ([.ref (L 23), .int a0, .int a1, .int a2]) ++ List.replicate (5 - (lg_sl ([.ref (L 23), .int a0, .int a1, .int a2])).length) Slot.unset).toArray = ls at hl ⊢
  have hl : lv_has ls 5 [(0, .ref (L 23)), (1, .int a0), (2, .int a1), (3, .int a2)] := hl
  unfold p_Route_metresBy at h
  refine lv_iload_n hx hb d_Route_metresBy_0 rfl (lv_at hl 1 rfl) ?_
  refine lv_iconst (v := 1) hx hb d_Route_metresBy_1 (by decide) ?_
  refine lv_iload_n hx hb d_Route_metresBy_2 rfl (lv_at hl 3 rfl) ?_
  refine lv_ishl hx hb d_Route_metresBy_3 ?_
  refine lv_ior hx hb d_Route_metresBy_4 ?_
  refine lv_istore (lv' := [(4, .int (a0 ||| ((1 : Int32) <<< (a2 &&& 31)))), (0, .ref (L 23)), (1, .int a0), (2, .int a1), (3, .int a2)]) hx hb d_Route_metresBy_5 hl (by decide) rfl (fun ls hl => ?_)
  refine lv_aload_n hx hb d_Route_metresBy_7 rfl (lv_at hl 1 rfl) ?_
  refine gf_Route_legs hF hK hP m_90 d_Route_metresBy_8 ?_
  refine lv_iload_n hx hb d_Route_metresBy_11 rfl (lv_at hl 3 rfl) ?_
  refine lv_bipush (v := 8) hx hb d_Route_metresBy_12 (by decide) ?_
  refine lv_imul hx hb d_Route_metresBy_14 ?_
  refine lv_iload_n hx hb d_Route_metresBy_15 rfl (lv_at hl 4 rfl) ?_
  refine lv_iadd hx hb d_Route_metresBy_16 ?_
  have k17 := h.1
  have h := h.2
  refine alI_27 hF hK hP k17 d_Route_metresBy_17 ?_
  refine lv_aload_n hx hb d_Route_metresBy_18 rfl (lv_at hl 1 rfl) ?_
  refine gf_Route_leastHome hF hK hP m_91 d_Route_metresBy_19 ?_
  refine lv_iload hx hb d_Route_metresBy_22 (lv_at hl 0 rfl) ?_
  refine lv_bipush (v := 8) hx hb d_Route_metresBy_24 (by decide) ?_
  refine lv_imul hx hb d_Route_metresBy_26 ?_
  refine lv_iload_n hx hb d_Route_metresBy_27 rfl (lv_at hl 4 rfl) ?_
  refine lv_iadd hx hb d_Route_metresBy_28 ?_
  have k29 := h
  refine alI_28 hF hK hP k29 d_Route_metresBy_29 ?_
  refine lv_iadd hx hb d_Route_metresBy_30 ?_
  have hv : ((ar 27 (((a1 * 8) + a2).toNatClampNeg)) + (ar 28 ((((a0 ||| ((1 : Int32) <<< (a2 &&& 31))) * 8) + a2).toNatClampNeg)) : Int32) = f_Route_metresBy ar sc a0 a1 a2 := by rw [f_Route_metresBy]
  exact W.iret (v := (ar 27 (((a1 * 8) + a2).toNatClampNeg)) + (ar 28 ((((a0 ||| ((1 : Int32) <<< (a2 &&& 31))) * 8) + a2).toNatClampNeg))) hx hb hr (fun t ht hW => ⟨congrArg (fun z => Outcome.returned (some (Value.int z))) hv, ht⟩) (fun _ h9 => nomatch h9) d_Route_metresBy_31
set_option maxHeartbeats 1000000 in
theorem r_Route_metresBy {p : Program} {l : Launch} {e : Env} {R : Room} {s : State} {m : MethodId} {args : Array Value} {below : List Frame} {meth : Method} {c : Code} {H : Heap} {locs : List Loc} {cells slots : Nat} {Q : State → Prop} {cc : ByteArray} {nL pc idx : Nat} {ls : Array Slot} {rest : List Value} {own : String} {dC : Nat → ClassId} {dI : Nat → Nat → Nat} {L : Nat → Nat} {cA : Nat → ClassId} {ar : Nat → Nat → Int32} {sc : Nat → Int32} {a0 : Int32} {a1 : Int32} {a2 : Int32} (hF : CallFix p m c cc nL s args w_all own) (hK : kW_I dC dI cA s) (hP : va_P (dC, dI) classes (wI L cA ar sc) H) (h : p_Route_metresBy ar sc a0 a1 a2) (hlk : Cond.methodLink own idx y_Route_metresBy ∈ w_all) (hsz : ls.size = nL) (hR : (rmD 0).frames + 1 ≤ R.frames ∧ 8 + (5 + 11) + (rmD 0).locals ≤ R.locals) (hc : cells ≤ R.cells ∧ slots ≤ R.slots) (hrs : (rest.map fun v => v.category).sum ≤ 8) (hdg : decode cc pc = .ok (.invokevirtual idx, 3)) (kk : W p l e R s m args below meth c H locs cells slots Q (F0 m (pc + 3) ls (.int (f_Route_metresBy ar sc a0 a1 a2) :: rest))) : W p l e R s m args below meth c H locs cells slots Q (F0 m pc ls (.int a2 :: .int a1 :: .int a0 :: .ref (L 23) :: rest)) :=
  W.callR (W.runV (As := [.int a0, .int a1, .int a2]) (rest := rest) hF (c_Route_metresBy l dC dI L cA ar sc a0 a1 a2 h) (cwV 3 hF.2.2.2.2 (gV hlk m_92 m_93 m_94 m_95) rfl rfl rfl (by decide +kernel) hR) ⟨xb_I, va_recv hK.1 hP (ci := 5) (q0 := 23) rfl rfl, fun U hU hW => ⟨rfl, by rw [hU]; exact hP, kW_I_warm hW hK⟩⟩ rfl rfl hsz rfl (lv_room hrs) hdg hc) kk
theorem d_Route_firstLeastNext_0 : decode b_Route_firstLeastNext 0 = .ok (.aload_n 0, 1) := by decide +kernel
theorem d_Route_firstLeastNext_1 : decode b_Route_firstLeastNext 1 = .ok (.getfield 30, 3) := by decide +kernel
theorem d_Route_firstLeastNext_4 : decode b_Route_firstLeastNext 4 = .ok (.istore_n 3, 1) := by decide +kernel
theorem d_Route_firstLeastNext_5 : decode b_Route_firstLeastNext 5 = .ok (.ldc 59, 2) := by decide +kernel
theorem d_Route_firstLeastNext_7 : decode b_Route_firstLeastNext 7 = .ok (.istore 4, 2) := by decide +kernel
theorem d_Route_firstLeastNext_9 : decode b_Route_firstLeastNext 9 = .ok (.iconst 0, 1) := by decide +kernel
theorem d_Route_firstLeastNext_10 : decode b_Route_firstLeastNext 10 = .ok (.istore 5, 2) := by decide +kernel
theorem d_Route_firstLeastNext_12 : decode b_Route_firstLeastNext 12 = .ok (.iload 5, 2) := by decide +kernel
theorem d_Route_firstLeastNext_14 : decode b_Route_firstLeastNext 14 = .ok (.aload_n 0, 1) := by decide +kernel
theorem d_Route_firstLeastNext_15 : decode b_Route_firstLeastNext 15 = .ok (.getfield 30, 3) := by decide +kernel
theorem d_Route_firstLeastNext_18 : decode b_Route_firstLeastNext 18 = .ok (.if_icmp .ge 42, 3) := by decide +kernel
theorem d_Route_firstLeastNext_21 : decode b_Route_firstLeastNext 21 = .ok (.iload_n 1, 1) := by decide +kernel
theorem d_Route_firstLeastNext_22 : decode b_Route_firstLeastNext 22 = .ok (.iconst 1, 1) := by decide +kernel
theorem d_Route_firstLeastNext_23 : decode b_Route_firstLeastNext 23 = .ok (.iload 5, 2) := by decide +kernel
theorem d_Route_firstLeastNext_25 : decode b_Route_firstLeastNext 25 = .ok (.ishl, 1) := by decide +kernel
theorem d_Route_firstLeastNext_26 : decode b_Route_firstLeastNext 26 = .ok (.iand, 1) := by decide +kernel
theorem d_Route_firstLeastNext_27 : decode b_Route_firstLeastNext 27 = .ok (.ifCond .ne 27, 3) := by decide +kernel
theorem d_Route_firstLeastNext_30 : decode b_Route_firstLeastNext 30 = .ok (.aload_n 0, 1) := by decide +kernel
theorem d_Route_firstLeastNext_31 : decode b_Route_firstLeastNext 31 = .ok (.iload_n 1, 1) := by decide +kernel
theorem d_Route_firstLeastNext_32 : decode b_Route_firstLeastNext 32 = .ok (.iload_n 2, 1) := by decide +kernel
theorem d_Route_firstLeastNext_33 : decode b_Route_firstLeastNext 33 = .ok (.iload 5, 2) := by decide +kernel
theorem d_Route_firstLeastNext_35 : decode b_Route_firstLeastNext 35 = .ok (.invokevirtual 53, 3) := by decide +kernel
theorem d_Route_firstLeastNext_38 : decode b_Route_firstLeastNext 38 = .ok (.istore 6, 2) := by decide +kernel
theorem d_Route_firstLeastNext_40 : decode b_Route_firstLeastNext 40 = .ok (.iload 6, 2) := by decide +kernel
theorem d_Route_firstLeastNext_42 : decode b_Route_firstLeastNext 42 = .ok (.iload 4, 2) := by decide +kernel
theorem d_Route_firstLeastNext_44 : decode b_Route_firstLeastNext 44 = .ok (.if_icmp .ge 10, 3) := by decide +kernel
theorem d_Route_firstLeastNext_47 : decode b_Route_firstLeastNext 47 = .ok (.iload 5, 2) := by decide +kernel
theorem d_Route_firstLeastNext_49 : decode b_Route_firstLeastNext 49 = .ok (.istore_n 3, 1) := by decide +kernel
theorem d_Route_firstLeastNext_50 : decode b_Route_firstLeastNext 50 = .ok (.iload 6, 2) := by decide +kernel
theorem d_Route_firstLeastNext_52 : decode b_Route_firstLeastNext 52 = .ok (.istore 4, 2) := by decide +kernel
theorem d_Route_firstLeastNext_54 : decode b_Route_firstLeastNext 54 = .ok (.iinc 5 1, 3) := by decide +kernel
theorem d_Route_firstLeastNext_57 : decode b_Route_firstLeastNext 57 = .ok (.goto (-45), 3) := by decide +kernel
theorem d_Route_firstLeastNext_60 : decode b_Route_firstLeastNext 60 = .ok (.iload_n 3, 1) := by decide +kernel
theorem d_Route_firstLeastNext_61 : decode b_Route_firstLeastNext 61 = .ok (.ireturn, 1) := by decide +kernel
set_option maxHeartbeats 4000000 in
set_option maxRecDepth 100000 in
theorem l_Route_firstLeastNext_12 {p : Program} {l : Launch} {e : Env} {s : State} {m : MethodId} {args : Array Value} {below : List Frame} {meth : Method} {c : Code} {dC : Nat → ClassId} {dI : Nat → Nat → Nat} {L : Nat → Nat} {cA : Nat → ClassId} {ar : Nat → Nat → Int32} {sc : Nat → Int32} {Q : State → Prop} {H : Heap} {locs : List Loc} (a0 : Int32) (a1 : Int32)  (hF : CallFix p m c b_Route_firstLeastNext 7 s args w_all R_Route) (hK : kW_I dC dI cA s) (hP : va_P (dC, dI) classes (wI L cA ar sc) H) : ∀ (n : Nat) (v3 : Int32) (v4 : Int32) (v5 : Int32), q_Route_firstLeastNext_12 ar sc a0 a1 n v3 v4 v5 → ∀ (ls : Array Slot), lv_has ls 7 [(3, .int v3), (4, .int v4), (5, .int v5), (0, .ref (L 23)), (1, .int a0), (2, .int a1)] → (∀ (ls : Array Slot), lv_has ls 7 [(3, .int ((g_Route_firstLeastNext_12 ar sc a0 a1 n v3 v4 v5).1)), (4, .int ((g_Route_firstLeastNext_12 ar sc a0 a1 n v3 v4 v5).2.1)), (5, .int ((g_Route_firstLeastNext_12 ar sc a0 a1 n v3 v4 v5).2.2)), (0, .ref (L 23)), (1, .int a0), (2, .int a1)] → W p l e (rmD 1) s m args below meth c H locs 0 0 Q (F0 m 60 ls [])) → W p l e (rmD 1) s m args below meth c H locs 0 0 Q (F0 m 12 ls []) := by
  have hx := hF.1
  have hb := hF.2.1
  have hown := hF.2.2.2.1
  have hts := hF.2.2.2.2
  intro n
  induction n with
  | zero => intro v3 v4 v5 h; exact False.elim h
  | succ n ih =>
    intro v3 v4 v5 h ls hl hk
    rw [q_Route_firstLeastNext_12] at h
    refine lv_iload hx hb d_Route_firstLeastNext_12 (lv_at hl 2 rfl) ?_
    refine lv_aload_n hx hb d_Route_firstLeastNext_14 rfl (lv_at hl 3 rfl) ?_
    refine gf_Route_count hF hK hP m_96 d_Route_firstLeastNext_15 ?_
    refine lv_icmp_ge (tgt := 60) hx hb d_Route_firstLeastNext_18 (by decide) (fun c18 => ?_) (fun c18 => ?_)
    · have h := h.1 c18
      have hv : g_Route_firstLeastNext_12 ar sc a0 a1 (n + 1) v3 v4 v5 = ((v3, v4, v5) : Int32 × Int32 × Int32) := by rw [g_Route_firstLeastNext_12, if_pos c18]
      rw [hv] at hk
      exact hk ls (lv_sub hl [0, 1, 2, 3, 4, 5] rfl)
    · have h := h.2 c18
      refine lv_iload_n hx hb d_Route_firstLeastNext_21 rfl (lv_at hl 4 rfl) ?_
      refine lv_iconst (v := 1) hx hb d_Route_firstLeastNext_22 (by decide) ?_
      refine lv_iload hx hb d_Route_firstLeastNext_23 (lv_at hl 2 rfl) ?_
      refine lv_ishl hx hb d_Route_firstLeastNext_25 ?_
      refine lv_iand hx hb d_Route_firstLeastNext_26 ?_
      refine lv_if_ne (tgt := 54) hx hb d_Route_firstLeastNext_27 (by decide) (fun c27 => ?_) (fun c27 => ?_)
      · have h := h.2 c27
        refine lv_iinc (v := v5 + 1) (lv' := [(5, .int (v5 + 1)), (3, .int v3), (4, .int v4), (0, .ref (L 23)), (1, .int a0), (2, .int a1)]) hx hb d_Route_firstLeastNext_54 hl (k := 2) rfl rfl (by decide) rfl (fun ls hl => ?_)
        refine lv_goto (tgt := 12) hx hb d_Route_firstLeastNext_57 (by decide) ?_
        have hv : g_Route_firstLeastNext_12 ar sc a0 a1 (n + 1) v3 v4 v5 = g_Route_firstLeastNext_12 ar sc a0 a1 n v3 v4 (v5 + 1) := by rw [g_Route_firstLeastNext_12, if_neg c18, if_neg c27]
        rw [hv] at hk
        exact ih v3 v4 (v5 + 1) h ls (lv_sub hl [1, 2, 0, 3, 4, 5] rfl) hk
      · have h := h.1 c27
        refine lv_aload_n hx hb d_Route_firstLeastNext_30 rfl (lv_at hl 3 rfl) ?_
        refine lv_iload_n hx hb d_Route_firstLeastNext_31 rfl (lv_at hl 4 rfl) ?_
        refine lv_iload_n hx hb d_Route_firstLeastNext_32 rfl (lv_at hl 5 rfl) ?_
        refine lv_iload hx hb d_Route_firstLeastNext_33 (lv_at hl 2 rfl) ?_
        have k35 := h.1
        have h := h.2
        refine r_Route_metresBy hF hK hP k35 m_97 hl.1 ⟨Nat.le_of_ble_eq_true rfl, Nat.le_of_ble_eq_true rfl⟩ ⟨Nat.zero_le _, Nat.zero_le _⟩ (Nat.le_of_ble_eq_true rfl) d_Route_firstLeastNext_35 ?_
        refine lv_istore (lv' := [(6, .int (f_Route_metresBy ar sc a0 a1 v5)), (3, .int v3), (4, .int v4), (5, .int v5), (0, .ref (L 23)), (1, .int a0), (2, .int a1)]) hx hb d_Route_firstLeastNext_38 hl (by decide) rfl (fun ls hl => ?_)
        refine lv_iload hx hb d_Route_firstLeastNext_40 (lv_at hl 0 rfl) ?_
        refine lv_iload hx hb d_Route_firstLeastNext_42 (lv_at hl 2 rfl) ?_
        refine lv_icmp_ge (tgt := 54) hx hb d_Route_firstLeastNext_44 (by decide) (fun c44 => ?_) (fun c44 => ?_)
        · have h := h.1 c44
          refine lv_iinc (v := v5 + 1) (lv' := [(5, .int (v5 + 1)), (6, .int (f_Route_metresBy ar sc a0 a1 v5)), (3, .int v3), (4, .int v4), (0, .ref (L 23)), (1, .int a0), (2, .int a1)]) hx hb d_Route_firstLeastNext_54 hl (k := 3) rfl rfl (by decide) rfl (fun ls hl => ?_)
          refine lv_goto (tgt := 12) hx hb d_Route_firstLeastNext_57 (by decide) ?_
          have hv : g_Route_firstLeastNext_12 ar sc a0 a1 (n + 1) v3 v4 v5 = g_Route_firstLeastNext_12 ar sc a0 a1 n v3 v4 (v5 + 1) := by rw [g_Route_firstLeastNext_12, if_neg c18, if_pos c27, if_pos c44]
          rw [hv] at hk
          exact ih v3 v4 (v5 + 1) h ls (lv_sub hl [2, 3, 0, 4, 5, 6] rfl) hk
        · have h := h.2 c44
          refine lv_iload hx hb d_Route_firstLeastNext_47 (lv_at hl 3 rfl) ?_
          refine lv_istore_n (lv' := [(3, .int v5), (6, .int (f_Route_metresBy ar sc a0 a1 v5)), (4, .int v4), (5, .int v5), (0, .ref (L 23)), (1, .int a0), (2, .int a1)]) hx hb d_Route_firstLeastNext_49 rfl hl (by decide) rfl (fun ls hl => ?_)
          refine lv_iload hx hb d_Route_firstLeastNext_50 (lv_at hl 1 rfl) ?_
          refine lv_istore (lv' := [(4, .int (f_Route_metresBy ar sc a0 a1 v5)), (3, .int v5), (6, .int (f_Route_metresBy ar sc a0 a1 v5)), (5, .int v5), (0, .ref (L 23)), (1, .int a0), (2, .int a1)]) hx hb d_Route_firstLeastNext_52 hl (by decide) rfl (fun ls hl => ?_)
          refine lv_iinc (v := v5 + 1) (lv' := [(5, .int (v5 + 1)), (4, .int (f_Route_metresBy ar sc a0 a1 v5)), (3, .int v5), (6, .int (f_Route_metresBy ar sc a0 a1 v5)), (0, .ref (L 23)), (1, .int a0), (2, .int a1)]) hx hb d_Route_firstLeastNext_54 hl (k := 3) rfl rfl (by decide) rfl (fun ls hl => ?_)
          refine lv_goto (tgt := 12) hx hb d_Route_firstLeastNext_57 (by decide) ?_
          have hv : g_Route_firstLeastNext_12 ar sc a0 a1 (n + 1) v3 v4 v5 = g_Route_firstLeastNext_12 ar sc a0 a1 n v5 (f_Route_metresBy ar sc a0 a1 v5) (v5 + 1) := by rw [g_Route_firstLeastNext_12, if_neg c18, if_pos c27, if_neg c44]
          rw [hv] at hk
          exact ih v5 (f_Route_metresBy ar sc a0 a1 v5) (v5 + 1) h ls (lv_sub hl [2, 1, 0, 4, 5, 6] rfl) hk
set_option maxHeartbeats 4000000 in
set_option maxRecDepth 100000 in
theorem c_Route_firstLeastNext (l : Launch) (dC : Nat → ClassId) (dI : Nat → Nat → Nat) (L : Nat → Nat) (cA : Nat → ClassId) (ar : Nat → Nat → Int32) (sc : Nat → Int32) (a0 : Int32) (a1 : Int32) (h : p_Route_firstLeastNext ar sc a0 a1) : Met l y_Route_firstLeastNext z_Route_firstLeastNext (rmD 1) (va_Pc [.ref (L 23), .int a0, .int a1] (fun U => xw_I dC dI L cA ar sc U)) (QcRead (f_Route_firstLeastNext ar sc a0 a1)) 0 0 (fun _ => False) := by
  refine Met.ofW (cc := b_Route_firstLeastNext) (maxL := 7) (ret := (some .int)) (by decide) rfl ?_
  intro p e s m args below meth c s₁ B hml hv
  obtain ⟨rfl, ⟨hP, hK⟩⟩ := hv
  have hx := B.exec
  have hb := B.bytes
  have hr := B.returns
  have hts : ∀ w ∈ w_all, w.before _ s = true := fun w hw => atoms_spec (ws := z_Route_firstLeastNext) B.pre w (List.mem_cons_of_mem _ hw)
  have hown : s.vm.findClass R_Route = some m.cls := findClass_of_methodNamed B.named
  have hlocks := B.notSynchronized
  have hF : CallFix p m c b_Route_firstLeastNext 7 s _ w_all R_Route := ⟨hx, hb, hml, hown, hts⟩
  have hl := lv_entry ([.ref (L 23), .int a0, .int a1]) (n := 7) (Nat.le_of_ble_eq_true rfl)
  rw [lg_entry_eq]
  generalize (lg_sl ([.ref (L 23), .int a0, .int a1]) ++ List.replicate (7 - (lg_sl ([.ref (L 23), .int a0, .int a1])).length) Slot.unset).toArray = ls at hl ⊢
  have hl : lv_has ls 7 [(0, .ref (L 23)), (1, .int a0), (2, .int a1)] := hl
  unfold p_Route_firstLeastNext at h
  refine lv_aload_n hx hb d_Route_firstLeastNext_0 rfl (lv_at hl 0 rfl) ?_
  refine gf_Route_count hF hK hP m_96 d_Route_firstLeastNext_1 ?_
  refine lv_istore_n (lv' := [(3, .int (sc 4)), (0, .ref (L 23)), (1, .int a0), (2, .int a1)]) hx hb d_Route_firstLeastNext_4 rfl hl (by decide) rfl (fun ls hl => ?_)
  refine lv_ldc (v := 2147483647) hx hb hown (hts _ m_98) d_Route_firstLeastNext_5 ?_
  refine lv_istore (lv' := [(4, .int 2147483647), (3, .int (sc 4)), (0, .ref (L 23)), (1, .int a0), (2, .int a1)]) hx hb d_Route_firstLeastNext_7 hl (by decide) rfl (fun ls hl => ?_)
  refine lv_iconst (v := 0) hx hb d_Route_firstLeastNext_9 (by decide) ?_
  refine lv_istore (lv' := [(5, .int 0), (4, .int 2147483647), (3, .int (sc 4)), (0, .ref (L 23)), (1, .int a0), (2, .int a1)]) hx hb d_Route_firstLeastNext_10 hl (by decide) rfl (fun ls hl => ?_)
  have kL12 := h
  refine l_Route_firstLeastNext_12 a0 a1 hF hK hP 200 (sc 4) 2147483647 0 kL12 ls (lv_sub hl [2, 1, 0, 3, 4, 5] rfl) (fun ls hl => ?_)
  refine lv_iload_n hx hb d_Route_firstLeastNext_60 rfl (lv_at hl 0 rfl) ?_
  have hv : ((g_Route_firstLeastNext_12 ar sc a0 a1 200 (sc 4) 2147483647 0).1 : Int32) = f_Route_firstLeastNext ar sc a0 a1 := by rw [f_Route_firstLeastNext]
  exact W.iret (v := (g_Route_firstLeastNext_12 ar sc a0 a1 200 (sc 4) 2147483647 0).1) hx hb hr (fun t ht hW => ⟨congrArg (fun z => Outcome.returned (some (Value.int z))) hv, ht⟩) (fun _ h9 => nomatch h9) d_Route_firstLeastNext_61
set_option maxHeartbeats 1000000 in
theorem r_Route_firstLeastNext {p : Program} {l : Launch} {e : Env} {R : Room} {s : State} {m : MethodId} {args : Array Value} {below : List Frame} {meth : Method} {c : Code} {H : Heap} {locs : List Loc} {cells slots : Nat} {Q : State → Prop} {cc : ByteArray} {nL pc idx : Nat} {ls : Array Slot} {rest : List Value} {own : String} {dC : Nat → ClassId} {dI : Nat → Nat → Nat} {L : Nat → Nat} {cA : Nat → ClassId} {ar : Nat → Nat → Int32} {sc : Nat → Int32} {a0 : Int32} {a1 : Int32} (hF : CallFix p m c cc nL s args w_all own) (hK : kW_I dC dI cA s) (hP : va_P (dC, dI) classes (wI L cA ar sc) H) (h : p_Route_firstLeastNext ar sc a0 a1) (hlk : Cond.methodLink own idx y_Route_firstLeastNext ∈ w_all) (hsz : ls.size = nL) (hR : (rmD 1).frames + 1 ≤ R.frames ∧ 8 + (7 + 11) + (rmD 1).locals ≤ R.locals) (hc : cells ≤ R.cells ∧ slots ≤ R.slots) (hrs : (rest.map fun v => v.category).sum ≤ 8) (hdg : decode cc pc = .ok (.invokevirtual idx, 3)) (kk : W p l e R s m args below meth c H locs cells slots Q (F0 m (pc + 3) ls (.int (f_Route_firstLeastNext ar sc a0 a1) :: rest))) : W p l e R s m args below meth c H locs cells slots Q (F0 m pc ls (.int a1 :: .int a0 :: .ref (L 23) :: rest)) :=
  W.callR (W.runV (As := [.int a0, .int a1]) (rest := rest) hF (c_Route_firstLeastNext l dC dI L cA ar sc a0 a1 h) (cwV 2 hF.2.2.2.2 (gV hlk m_99 m_100 m_94 m_101) rfl rfl rfl (by decide +kernel) hR) ⟨xb_I, va_recv hK.1 hP (ci := 5) (q0 := 23) rfl rfl, fun U hU hW => ⟨rfl, by rw [hU]; exact hP, kW_I_warm hW hK⟩⟩ rfl rfl hsz rfl (lv_room hrs) hdg hc) kk
theorem d_Route_tell_0 : decode b_Route_tell 0 = .ok (.aload_n 0, 1) := by decide +kernel
theorem d_Route_tell_1 : decode b_Route_tell 1 = .ok (.getfield 9, 3) := by decide +kernel
theorem d_Route_tell_4 : decode b_Route_tell 4 = .ok (.iload_n 1, 1) := by decide +kernel
theorem d_Route_tell_5 : decode b_Route_tell 5 = .ok (.iload_n 2, 1) := by decide +kernel
theorem d_Route_tell_6 : decode b_Route_tell 6 = .ok (.iastore, 1) := by decide +kernel
theorem d_Route_tell_7 : decode b_Route_tell 7 = .ok (.aload_n 0, 1) := by decide +kernel
theorem d_Route_tell_8 : decode b_Route_tell 8 = .ok (.getfield 15, 3) := by decide +kernel
theorem d_Route_tell_11 : decode b_Route_tell 11 = .ok (.iload_n 1, 1) := by decide +kernel
theorem d_Route_tell_12 : decode b_Route_tell 12 = .ok (.iload_n 3, 1) := by decide +kernel
theorem d_Route_tell_13 : decode b_Route_tell 13 = .ok (.iastore, 1) := by decide +kernel
theorem d_Route_tell_14 : decode b_Route_tell 14 = .ok (.aload_n 0, 1) := by decide +kernel
theorem d_Route_tell_15 : decode b_Route_tell 15 = .ok (.getfield 18, 3) := by decide +kernel
theorem d_Route_tell_18 : decode b_Route_tell 18 = .ok (.iload_n 1, 1) := by decide +kernel
theorem d_Route_tell_19 : decode b_Route_tell 19 = .ok (.iload 4, 2) := by decide +kernel
theorem d_Route_tell_21 : decode b_Route_tell 21 = .ok (.iastore, 1) := by decide +kernel
theorem d_Route_tell_22 : decode b_Route_tell 22 = .ok (.return_, 1) := by decide +kernel
set_option maxHeartbeats 4000000 in
set_option maxRecDepth 100000 in
theorem c_Route_tell (l : Launch) (dC : Nat → ClassId) (dI : Nat → Nat → Nat) (L : Nat → Nat) (cA : Nat → ClassId) (ar : Nat → Nat → Int32) (sc : Nat → Int32) (a0 : Int32) (a1 : Int32) (a2 : Int32) (a3 : Int32) (hL : ij 38 L) (h : p_Route_tell ar sc a0 a1 a2 a3) : Met l y_Route_tell z_Route_tell (rmD 0) (va_Pc [.ref (L 23), .int a0, .int a1, .int a2, .int a3] (fun U => xw_I dC dI L cA ar sc U)) (va_Qv (fun u : oS => (u.1, u.2) = f_Route_tell ar sc a0 a1 a2 a3) (fun u t => va_P (dC, dI) classes (wI L cA u.1 u.2) t.heap) (aI L)) 0 0 (aI L) := by
  refine Met.ofW (cc := b_Route_tell) (maxL := 5) (ret := none) (by decide) rfl ?_
  intro p e s m args below meth c s₁ B hml hv
  obtain ⟨rfl, ⟨hP, hK⟩⟩ := hv
  have hx := B.exec
  have hb := B.bytes
  have hr := B.returns
  have hts : ∀ w ∈ w_all, w.before _ s = true := fun w hw => atoms_spec (ws := z_Route_tell) B.pre w (List.mem_cons_of_mem _ hw)
  have hown : s.vm.findClass R_Route = some m.cls := findClass_of_methodNamed B.named
  have hlocks := B.notSynchronized
  have hF : CallFix p m c b_Route_tell 5 s _ w_all R_Route := ⟨hx, hb, hml, hown, hts⟩
  have hS : va_S (aI L) s.heap s.heap [] := va_S.rf
  have hl := lv_entry ([.ref (L 23), .int a0, .int a1, .int a2, .int a3]) (n := 5) (Nat.le_of_ble_eq_true rfl)
  rw [lg_entry_eq]
  generalize (lg_sl ([.ref (L 23), .int a0, .int a1, .int a2, .int a3]) ++ List.replicate (5 - (lg_sl ([.ref (L 23), .int a0, .int a1, .int a2, .int a3])).length) Slot.unset).toArray = ls at hl ⊢
  have hl : lv_has ls 5 [(0, .ref (L 23)), (1, .int a0), (2, .int a1), (3, .int a2), (4, .int a3)] := hl
  unfold p_Route_tell at h
  refine lv_aload_n hx hb d_Route_tell_0 rfl (lv_at hl 0 rfl) ?_
  refine gf_Route_told hF hK hP m_102 d_Route_tell_1 ?_
  refine lv_iload_n hx hb d_Route_tell_4 rfl (lv_at hl 1 rfl) ?_
  refine lv_iload_n hx hb d_Route_tell_5 rfl (lv_at hl 2 rfl) ?_
  have k6 := h.1
  have h := h.2
  refine asI_24 hF hK hP hL hS k6 d_Route_tell_6 (fun H locs hP hS => ?_)
  refine lv_aload_n hx hb d_Route_tell_7 rfl (lv_at hl 0 rfl) ?_
  refine gf_Route_xs hF hK hP m_103 d_Route_tell_8 ?_
  refine lv_iload_n hx hb d_Route_tell_11 rfl (lv_at hl 1 rfl) ?_
  refine lv_iload_n hx hb d_Route_tell_12 rfl (lv_at hl 3 rfl) ?_
  have k13 := h.1
  have h := h.2
  refine asI_25 hF hK hP hL hS k13 d_Route_tell_13 (fun H locs hP hS => ?_)
  refine lv_aload_n hx hb d_Route_tell_14 rfl (lv_at hl 0 rfl) ?_
  refine gf_Route_ys hF hK hP m_104 d_Route_tell_15 ?_
  refine lv_iload_n hx hb d_Route_tell_18 rfl (lv_at hl 1 rfl) ?_
  refine lv_iload hx hb d_Route_tell_19 (lv_at hl 4 rfl) ?_
  have k21 := h
  refine asI_26 hF hK hP hL hS k21 d_Route_tell_21 (fun H locs hP hS => ?_)
  have hv : ((s2 (s2 (s2 ar 24 a0.toNatClampNeg a1) 25 a0.toNatClampNeg a2) 26 a0.toNatClampNeg a3, sc) : (Nat → Nat → Int32) × (Nat → Int32)) = f_Route_tell ar sc a0 a1 a2 a3 := by rw [f_Route_tell]
  exact W.vret hx hb hr (fun t ht hW => ⟨⟨(s2 (s2 (s2 ar 24 a0.toNatClampNeg a1) 25 a0.toNatClampNeg a2) 26 a0.toNatClampNeg a3, sc), rfl, hv, by dsimp only; rw [ht]; exact hP⟩, hS.F ht⟩) hS.2.2 d_Route_tell_22
set_option maxHeartbeats 1000000 in
theorem r_Route_tell {p : Program} {l : Launch} {e : Env} {R : Room} {s : State} {m : MethodId} {args : Array Value} {below : List Frame} {meth : Method} {c : Code} {H : Heap} {locs : List Loc} {cells slots : Nat} {Q : State → Prop} {cc : ByteArray} {nL pc idx : Nat} {ls : Array Slot} {rest : List Value} {own : String} {dC : Nat → ClassId} {dI : Nat → Nat → Nat} {L : Nat → Nat} {cA : Nat → ClassId} {ar : Nat → Nat → Int32} {sc : Nat → Int32} {H0 : Heap} {a0 : Int32} {a1 : Int32} {a2 : Int32} {a3 : Int32} (hF : CallFix p m c cc nL s args w_all own) (hK : kW_I dC dI cA s) (hP : va_P (dC, dI) classes (wI L cA ar sc) H) (hL : ij 38 L) (hS : va_S (aI L) H0 H locs) (h : p_Route_tell ar sc a0 a1 a2 a3) (hlk : Cond.methodLink own idx y_Route_tell ∈ w_all) (hsz : ls.size = nL) (hR : (rmD 0).frames + 1 ≤ R.frames ∧ 8 + (5 + 11) + (rmD 0).locals ≤ R.locals) (hc : cells ≤ R.cells ∧ slots ≤ R.slots) (hrs : (rest.map fun v => v.category).sum ≤ 8) (hdg : decode cc pc = .ok (.invokevirtual idx, 3)) (kk : ∀ (H1 : Heap) (locs1 : List Loc), va_P (dC, dI) classes (wI L cA ((f_Route_tell ar sc a0 a1 a2 a3).1) ((f_Route_tell ar sc a0 a1 a2 a3).2)) H1 → va_S (aI L) H0 H1 locs1 → W p l e R s m args below meth c H1 locs1 cells slots Q (F0 m (pc + 3) ls (rest))) : W p l e R s m args below meth c H locs cells slots Q (F0 m pc ls (.int a3 :: .int a2 :: .int a1 :: .int a0 :: .ref (L 23) :: rest)) :=
  va_callv (va_runV (As := [.int a0, .int a1, .int a2, .int a3]) (rest := rest) hF (c_Route_tell l dC dI L cA ar sc a0 a1 a2 a3 hL h) (cwV 4 hF.2.2.2.2 (gV hlk m_105 m_106 m_94 m_107) rfl rfl rfl (by decide +kernel) hR) ⟨xb_I, va_recv hK.1 hP (ci := 5) (q0 := 23) rfl rfl, fun U hU hW => ⟨rfl, by rw [hU]; exact hP, kW_I_warm hW hK⟩⟩ rfl rfl hsz rfl (lv_room hrs) hdg hc) hS (fun q _ h9 => h9) (fun q h9 => h9) (fun u t H1 locs1 ht hvm hw hB hz1 hk1 hS1 => by
    have hk9 := kk H1 locs1 (by rw [← hw, ← ht]; exact hB) hS1
    exact hk9)
theorem d_Route_fillLegs_0 : decode b_Route_fillLegs 0 = .ok (.iconst 0, 1) := by decide +kernel
theorem d_Route_fillLegs_1 : decode b_Route_fillLegs 1 = .ok (.istore_n 1, 1) := by decide +kernel
theorem d_Route_fillLegs_2 : decode b_Route_fillLegs 2 = .ok (.iload_n 1, 1) := by decide +kernel
theorem d_Route_fillLegs_3 : decode b_Route_fillLegs 3 = .ok (.aload_n 0, 1) := by decide +kernel
theorem d_Route_fillLegs_4 : decode b_Route_fillLegs 4 = .ok (.getfield 30, 3) := by decide +kernel
theorem d_Route_fillLegs_7 : decode b_Route_fillLegs 7 = .ok (.if_icmp .gt 69, 3) := by decide +kernel
theorem d_Route_fillLegs_10 : decode b_Route_fillLegs 10 = .ok (.iconst 0, 1) := by decide +kernel
theorem d_Route_fillLegs_11 : decode b_Route_fillLegs 11 = .ok (.istore_n 2, 1) := by decide +kernel
theorem d_Route_fillLegs_12 : decode b_Route_fillLegs 12 = .ok (.iload_n 2, 1) := by decide +kernel
theorem d_Route_fillLegs_13 : decode b_Route_fillLegs 13 = .ok (.aload_n 0, 1) := by decide +kernel
theorem d_Route_fillLegs_14 : decode b_Route_fillLegs 14 = .ok (.getfield 30, 3) := by decide +kernel
theorem d_Route_fillLegs_17 : decode b_Route_fillLegs 17 = .ok (.if_icmp .gt 53, 3) := by decide +kernel
theorem d_Route_fillLegs_20 : decode b_Route_fillLegs 20 = .ok (.aload_n 0, 1) := by decide +kernel
theorem d_Route_fillLegs_21 : decode b_Route_fillLegs 21 = .ok (.getfield 21, 3) := by decide +kernel
theorem d_Route_fillLegs_24 : decode b_Route_fillLegs 24 = .ok (.iload_n 1, 1) := by decide +kernel
theorem d_Route_fillLegs_25 : decode b_Route_fillLegs 25 = .ok (.bipush 8, 2) := by decide +kernel
theorem d_Route_fillLegs_27 : decode b_Route_fillLegs 27 = .ok (.imul, 1) := by decide +kernel
theorem d_Route_fillLegs_28 : decode b_Route_fillLegs 28 = .ok (.iload_n 2, 1) := by decide +kernel
theorem d_Route_fillLegs_29 : decode b_Route_fillLegs 29 = .ok (.iadd, 1) := by decide +kernel
theorem d_Route_fillLegs_30 : decode b_Route_fillLegs 30 = .ok (.aload_n 0, 1) := by decide +kernel
theorem d_Route_fillLegs_31 : decode b_Route_fillLegs 31 = .ok (.getfield 15, 3) := by decide +kernel
theorem d_Route_fillLegs_34 : decode b_Route_fillLegs 34 = .ok (.iload_n 1, 1) := by decide +kernel
theorem d_Route_fillLegs_35 : decode b_Route_fillLegs 35 = .ok (.iaload, 1) := by decide +kernel
theorem d_Route_fillLegs_36 : decode b_Route_fillLegs 36 = .ok (.aload_n 0, 1) := by decide +kernel
theorem d_Route_fillLegs_37 : decode b_Route_fillLegs 37 = .ok (.getfield 15, 3) := by decide +kernel
theorem d_Route_fillLegs_40 : decode b_Route_fillLegs 40 = .ok (.iload_n 2, 1) := by decide +kernel
theorem d_Route_fillLegs_41 : decode b_Route_fillLegs 41 = .ok (.iaload, 1) := by decide +kernel
theorem d_Route_fillLegs_42 : decode b_Route_fillLegs 42 = .ok (.isub, 1) := by decide +kernel
theorem d_Route_fillLegs_43 : decode b_Route_fillLegs 43 = .ok (.invokestatic 43, 3) := by decide +kernel
theorem d_Route_fillLegs_46 : decode b_Route_fillLegs 46 = .ok (.aload_n 0, 1) := by decide +kernel
theorem d_Route_fillLegs_47 : decode b_Route_fillLegs 47 = .ok (.getfield 18, 3) := by decide +kernel
theorem d_Route_fillLegs_50 : decode b_Route_fillLegs 50 = .ok (.iload_n 1, 1) := by decide +kernel
theorem d_Route_fillLegs_51 : decode b_Route_fillLegs 51 = .ok (.iaload, 1) := by decide +kernel
theorem d_Route_fillLegs_52 : decode b_Route_fillLegs 52 = .ok (.aload_n 0, 1) := by decide +kernel
theorem d_Route_fillLegs_53 : decode b_Route_fillLegs 53 = .ok (.getfield 18, 3) := by decide +kernel
theorem d_Route_fillLegs_56 : decode b_Route_fillLegs 56 = .ok (.iload_n 2, 1) := by decide +kernel
theorem d_Route_fillLegs_57 : decode b_Route_fillLegs 57 = .ok (.iaload, 1) := by decide +kernel
theorem d_Route_fillLegs_58 : decode b_Route_fillLegs 58 = .ok (.isub, 1) := by decide +kernel
theorem d_Route_fillLegs_59 : decode b_Route_fillLegs 59 = .ok (.invokestatic 43, 3) := by decide +kernel
theorem d_Route_fillLegs_62 : decode b_Route_fillLegs 62 = .ok (.iadd, 1) := by decide +kernel
theorem d_Route_fillLegs_63 : decode b_Route_fillLegs 63 = .ok (.iastore, 1) := by decide +kernel
theorem d_Route_fillLegs_64 : decode b_Route_fillLegs 64 = .ok (.iinc 2 1, 3) := by decide +kernel
theorem d_Route_fillLegs_67 : decode b_Route_fillLegs 67 = .ok (.goto (-55), 3) := by decide +kernel
theorem d_Route_fillLegs_70 : decode b_Route_fillLegs 70 = .ok (.iinc 1 1, 3) := by decide +kernel
theorem d_Route_fillLegs_73 : decode b_Route_fillLegs 73 = .ok (.goto (-71), 3) := by decide +kernel
theorem d_Route_fillLegs_76 : decode b_Route_fillLegs 76 = .ok (.return_, 1) := by decide +kernel
set_option maxHeartbeats 4000000 in
set_option maxRecDepth 100000 in
theorem l_Route_fillLegs_12 {p : Program} {l : Launch} {e : Env} {s : State} {m : MethodId} {args : Array Value} {below : List Frame} {meth : Method} {c : Code} {dC : Nat → ClassId} {dI : Nat → Nat → Nat} {L : Nat → Nat} {cA : Nat → ClassId} {Q : State → Prop}  (u1 : Int32) (hF : CallFix p m c b_Route_fillLegs 3 s args w_all R_Route) (hK : kW_I dC dI cA s) (hL : ij 38 L) : ∀ (n : Nat) (v2 : Int32) (ar : Nat → Nat → Int32) (sc : Nat → Int32), q_Route_fillLegs_12 u1 n v2 ar sc → ∀ (H : Heap) (locs : List Loc), va_P (dC, dI) classes (wI L cA ar sc) H → va_S (aI L) s.heap H locs → ∀ (ls : Array Slot), lv_has ls 3 [(2, .int v2), (0, .ref (L 23)), (1, .int u1)] → (∀ (H : Heap) (locs : List Loc) (ls : Array Slot), va_P (dC, dI) classes (wI L cA ((g_Route_fillLegs_12 u1 n v2 ar sc).2.1) ((g_Route_fillLegs_12 u1 n v2 ar sc).2.2)) H → va_S (aI L) s.heap H locs → lv_has ls 3 [(2, .int ((g_Route_fillLegs_12 u1 n v2 ar sc).1)), (0, .ref (L 23)), (1, .int u1)] → W p l e (rmD 1) s m args below meth c H locs 0 0 Q (F0 m 70 ls [])) → W p l e (rmD 1) s m args below meth c H locs 0 0 Q (F0 m 12 ls []) := by
  have hx := hF.1
  have hb := hF.2.1
  have hown := hF.2.2.2.1
  have hts := hF.2.2.2.2
  intro n
  induction n with
  | zero => intro v2 ar sc h; exact False.elim h
  | succ n ih =>
    intro v2 ar sc h H locs hP hS ls hl hk
    rw [q_Route_fillLegs_12] at h
    refine lv_iload_n hx hb d_Route_fillLegs_12 rfl (lv_at hl 0 rfl) ?_
    refine lv_aload_n hx hb d_Route_fillLegs_13 rfl (lv_at hl 1 rfl) ?_
    refine gf_Route_count hF hK hP m_96 d_Route_fillLegs_14 ?_
    refine lv_icmp_gt (tgt := 70) hx hb d_Route_fillLegs_17 (by decide) (fun c17 => ?_) (fun c17 => ?_)
    · have h := h.1 c17
      have hv : g_Route_fillLegs_12 u1 (n + 1) v2 ar sc = ((v2, ar, sc) : Int32 × (Nat → Nat → Int32) × (Nat → Int32)) := by rw [g_Route_fillLegs_12, if_pos c17]
      rw [hv] at hk
      exact hk _ _ ls hP hS (lv_sub hl [0, 1, 2] rfl)
    · have h := h.2 c17
      refine lv_aload_n hx hb d_Route_fillLegs_20 rfl (lv_at hl 1 rfl) ?_
      refine gf_Route_legs hF hK hP m_90 d_Route_fillLegs_21 ?_
      refine lv_iload_n hx hb d_Route_fillLegs_24 rfl (lv_at hl 2 rfl) ?_
      refine lv_bipush (v := 8) hx hb d_Route_fillLegs_25 (by decide) ?_
      refine lv_imul hx hb d_Route_fillLegs_27 ?_
      refine lv_iload_n hx hb d_Route_fillLegs_28 rfl (lv_at hl 0 rfl) ?_
      refine lv_iadd hx hb d_Route_fillLegs_29 ?_
      refine lv_aload_n hx hb d_Route_fillLegs_30 rfl (lv_at hl 1 rfl) ?_
      refine gf_Route_xs hF hK hP m_103 d_Route_fillLegs_31 ?_
      refine lv_iload_n hx hb d_Route_fillLegs_34 rfl (lv_at hl 2 rfl) ?_
      have k35 := h.1
      have h := h.2
      refine alI_25 hF hK hP k35 d_Route_fillLegs_35 ?_
      refine lv_aload_n hx hb d_Route_fillLegs_36 rfl (lv_at hl 1 rfl) ?_
      refine gf_Route_xs hF hK hP m_103 d_Route_fillLegs_37 ?_
      refine lv_iload_n hx hb d_Route_fillLegs_40 rfl (lv_at hl 0 rfl) ?_
      have k41 := h.1
      have h := h.2
      refine alI_25 hF hK hP k41 d_Route_fillLegs_41 ?_
      refine lv_isub hx hb d_Route_fillLegs_42 ?_
      refine va_mabs hx hb (hF.2.2.1.trans hl.1.symm) hown (hts _ m_108) (hts _ m_109) (hts _ m_53) (hts _ m_110) (Nat.le_of_ble_eq_true rfl) (Nat.le_of_ble_eq_true rfl) (Nat.zero_le _) (Nat.zero_le _) d_Route_fillLegs_43 ?_
      refine lv_aload_n hx hb d_Route_fillLegs_46 rfl (lv_at hl 1 rfl) ?_
      refine gf_Route_ys hF hK hP m_104 d_Route_fillLegs_47 ?_
      refine lv_iload_n hx hb d_Route_fillLegs_50 rfl (lv_at hl 2 rfl) ?_
      have k51 := h.1
      have h := h.2
      refine alI_26 hF hK hP k51 d_Route_fillLegs_51 ?_
      refine lv_aload_n hx hb d_Route_fillLegs_52 rfl (lv_at hl 1 rfl) ?_
      refine gf_Route_ys hF hK hP m_104 d_Route_fillLegs_53 ?_
      refine lv_iload_n hx hb d_Route_fillLegs_56 rfl (lv_at hl 0 rfl) ?_
      have k57 := h.1
      have h := h.2
      refine alI_26 hF hK hP k57 d_Route_fillLegs_57 ?_
      refine lv_isub hx hb d_Route_fillLegs_58 ?_
      refine va_mabs hx hb (hF.2.2.1.trans hl.1.symm) hown (hts _ m_108) (hts _ m_109) (hts _ m_53) (hts _ m_110) (Nat.le_of_ble_eq_true rfl) (Nat.le_of_ble_eq_true rfl) (Nat.zero_le _) (Nat.zero_le _) d_Route_fillLegs_59 ?_
      refine lv_iadd hx hb d_Route_fillLegs_62 ?_
      have k63 := h.1
      have h := h.2
      refine asI_27 hF hK hP hL hS k63 d_Route_fillLegs_63 (fun H locs hP hS => ?_)
      refine lv_iinc (v := v2 + 1) (lv' := [(2, .int (v2 + 1)), (0, .ref (L 23)), (1, .int u1)]) hx hb d_Route_fillLegs_64 hl (k := 0) rfl rfl (by decide) rfl (fun ls hl => ?_)
      refine lv_goto (tgt := 12) hx hb d_Route_fillLegs_67 (by decide) ?_
      have hv : g_Route_fillLegs_12 u1 (n + 1) v2 ar sc = g_Route_fillLegs_12 u1 n (v2 + 1) (s2 ar 27 (((u1 * 8) + v2).toNatClampNeg) ((if 0 ≤ ((ar 25 u1.toNatClampNeg) - (ar 25 v2.toNatClampNeg)) then ((ar 25 u1.toNatClampNeg) - (ar 25 v2.toNatClampNeg)) else 0 - ((ar 25 u1.toNatClampNeg) - (ar 25 v2.toNatClampNeg))) + (if 0 ≤ ((ar 26 u1.toNatClampNeg) - (ar 26 v2.toNatClampNeg)) then ((ar 26 u1.toNatClampNeg) - (ar 26 v2.toNatClampNeg)) else 0 - ((ar 26 u1.toNatClampNeg) - (ar 26 v2.toNatClampNeg))))) sc := by rw [g_Route_fillLegs_12, if_neg c17]
      rw [hv] at hk
      exact ih (v2 + 1) (s2 ar 27 (((u1 * 8) + v2).toNatClampNeg) ((if 0 ≤ ((ar 25 u1.toNatClampNeg) - (ar 25 v2.toNatClampNeg)) then ((ar 25 u1.toNatClampNeg) - (ar 25 v2.toNatClampNeg)) else 0 - ((ar 25 u1.toNatClampNeg) - (ar 25 v2.toNatClampNeg))) + (if 0 ≤ ((ar 26 u1.toNatClampNeg) - (ar 26 v2.toNatClampNeg)) then ((ar 26 u1.toNatClampNeg) - (ar 26 v2.toNatClampNeg)) else 0 - ((ar 26 u1.toNatClampNeg) - (ar 26 v2.toNatClampNeg))))) sc h _ _ hP hS ls (lv_sub hl [0, 1, 2] rfl) hk
set_option maxHeartbeats 4000000 in
set_option maxRecDepth 100000 in
theorem l_Route_fillLegs_2 {p : Program} {l : Launch} {e : Env} {s : State} {m : MethodId} {args : Array Value} {below : List Frame} {meth : Method} {c : Code} {dC : Nat → ClassId} {dI : Nat → Nat → Nat} {L : Nat → Nat} {cA : Nat → ClassId} {Q : State → Prop}   (hF : CallFix p m c b_Route_fillLegs 3 s args w_all R_Route) (hK : kW_I dC dI cA s) (hL : ij 38 L) : ∀ (n : Nat) (v1 : Int32) (ar : Nat → Nat → Int32) (sc : Nat → Int32), q_Route_fillLegs_2 n v1 ar sc → ∀ (H : Heap) (locs : List Loc), va_P (dC, dI) classes (wI L cA ar sc) H → va_S (aI L) s.heap H locs → ∀ (ls : Array Slot), lv_has ls 3 [(1, .int v1), (0, .ref (L 23))] → (∀ (H : Heap) (locs : List Loc) (ls : Array Slot), va_P (dC, dI) classes (wI L cA ((g_Route_fillLegs_2 n v1 ar sc).2.1) ((g_Route_fillLegs_2 n v1 ar sc).2.2)) H → va_S (aI L) s.heap H locs → lv_has ls 3 [(1, .int ((g_Route_fillLegs_2 n v1 ar sc).1)), (0, .ref (L 23))] → W p l e (rmD 1) s m args below meth c H locs 0 0 Q (F0 m 76 ls [])) → W p l e (rmD 1) s m args below meth c H locs 0 0 Q (F0 m 2 ls []) := by
  have hx := hF.1
  have hb := hF.2.1
  have hown := hF.2.2.2.1
  have hts := hF.2.2.2.2
  intro n
  induction n with
  | zero => intro v1 ar sc h; exact False.elim h
  | succ n ih =>
    intro v1 ar sc h H locs hP hS ls hl hk
    rw [q_Route_fillLegs_2] at h
    refine lv_iload_n hx hb d_Route_fillLegs_2 rfl (lv_at hl 0 rfl) ?_
    refine lv_aload_n hx hb d_Route_fillLegs_3 rfl (lv_at hl 1 rfl) ?_
    refine gf_Route_count hF hK hP m_96 d_Route_fillLegs_4 ?_
    refine lv_icmp_gt (tgt := 76) hx hb d_Route_fillLegs_7 (by decide) (fun c7 => ?_) (fun c7 => ?_)
    · have h := h.1 c7
      have hv : g_Route_fillLegs_2 (n + 1) v1 ar sc = ((v1, ar, sc) : Int32 × (Nat → Nat → Int32) × (Nat → Int32)) := by rw [g_Route_fillLegs_2, if_pos c7]
      rw [hv] at hk
      exact hk _ _ ls hP hS (lv_sub hl [0, 1] rfl)
    · have h := h.2 c7
      refine lv_iconst (v := 0) hx hb d_Route_fillLegs_10 (by decide) ?_
      refine lv_istore_n (lv' := [(2, .int 0), (1, .int v1), (0, .ref (L 23))]) hx hb d_Route_fillLegs_11 rfl hl (by decide) rfl (fun ls hl => ?_)
      have kL12 := h.1
      have h := h.2
      refine l_Route_fillLegs_12 v1 hF hK hL 200 0 ar sc kL12 _ _ hP hS ls (lv_sub hl [0, 2, 1] rfl) (fun H locs ls hP hS hl => ?_)
      refine lv_iinc (v := v1 + 1) (lv' := [(1, .int (v1 + 1)), (2, .int ((g_Route_fillLegs_12 v1 200 0 ar sc).1)), (0, .ref (L 23))]) hx hb d_Route_fillLegs_70 hl (k := 2) rfl rfl (by decide) rfl (fun ls hl => ?_)
      refine lv_goto (tgt := 2) hx hb d_Route_fillLegs_73 (by decide) ?_
      have hv : g_Route_fillLegs_2 (n + 1) v1 ar sc = g_Route_fillLegs_2 n (v1 + 1) ((g_Route_fillLegs_12 v1 200 0 ar sc).2.1) ((g_Route_fillLegs_12 v1 200 0 ar sc).2.2) := by rw [g_Route_fillLegs_2, if_neg c7]
      rw [hv] at hk
      exact ih (v1 + 1) ((g_Route_fillLegs_12 v1 200 0 ar sc).2.1) ((g_Route_fillLegs_12 v1 200 0 ar sc).2.2) h _ _ hP hS ls (lv_sub hl [0, 2] rfl) hk
set_option maxHeartbeats 4000000 in
set_option maxRecDepth 100000 in
theorem c_Route_fillLegs (l : Launch) (dC : Nat → ClassId) (dI : Nat → Nat → Nat) (L : Nat → Nat) (cA : Nat → ClassId) (ar : Nat → Nat → Int32) (sc : Nat → Int32) (hL : ij 38 L) (h : p_Route_fillLegs ar sc ) : Met l y_Route_fillLegs z_Route_fillLegs (rmD 1) (va_Pc [.ref (L 23)] (fun U => xw_I dC dI L cA ar sc U)) (va_Qv (fun u : oS => (u.1, u.2) = f_Route_fillLegs ar sc ) (fun u t => va_P (dC, dI) classes (wI L cA u.1 u.2) t.heap) (aI L)) 0 0 (aI L) := by
  refine Met.ofW (cc := b_Route_fillLegs) (maxL := 3) (ret := none) (by decide) rfl ?_
  intro p e s m args below meth c s₁ B hml hv
  obtain ⟨rfl, ⟨hP, hK⟩⟩ := hv
  have hx := B.exec
  have hb := B.bytes
  have hr := B.returns
  have hts : ∀ w ∈ w_all, w.before _ s = true := fun w hw => atoms_spec (ws := z_Route_fillLegs) B.pre w (List.mem_cons_of_mem _ hw)
  have hown : s.vm.findClass R_Route = some m.cls := findClass_of_methodNamed B.named
  have hlocks := B.notSynchronized
  have hF : CallFix p m c b_Route_fillLegs 3 s _ w_all R_Route := ⟨hx, hb, hml, hown, hts⟩
  have hS : va_S (aI L) s.heap s.heap [] := va_S.rf
  have hl := lv_entry ([.ref (L 23)]) (n := 3) (Nat.le_of_ble_eq_true rfl)
  rw [lg_entry_eq]
  generalize (lg_sl ([.ref (L 23)]) ++ List.replicate (3 - (lg_sl ([.ref (L 23)])).length) Slot.unset).toArray = ls at hl ⊢
  have hl : lv_has ls 3 [(0, .ref (L 23))] := hl
  unfold p_Route_fillLegs at h
  refine lv_iconst (v := 0) hx hb d_Route_fillLegs_0 (by decide) ?_
  refine lv_istore_n (lv' := [(1, .int 0), (0, .ref (L 23))]) hx hb d_Route_fillLegs_1 rfl hl (by decide) rfl (fun ls hl => ?_)
  have kL2 := h
  refine l_Route_fillLegs_2 hF hK hL 200 0 ar sc kL2 _ _ hP hS ls (lv_sub hl [0, 1] rfl) (fun H locs ls hP hS hl => ?_)
  have hv : (((g_Route_fillLegs_2 200 0 ar sc).2.1, (g_Route_fillLegs_2 200 0 ar sc).2.2) : (Nat → Nat → Int32) × (Nat → Int32)) = f_Route_fillLegs ar sc  := by rw [f_Route_fillLegs]
  exact W.vret hx hb hr (fun t ht hW => ⟨⟨((g_Route_fillLegs_2 200 0 ar sc).2.1, (g_Route_fillLegs_2 200 0 ar sc).2.2), rfl, hv, by dsimp only; rw [ht]; exact hP⟩, hS.F ht⟩) hS.2.2 d_Route_fillLegs_76
set_option maxHeartbeats 1000000 in
theorem r_Route_fillLegs {p : Program} {l : Launch} {e : Env} {R : Room} {s : State} {m : MethodId} {args : Array Value} {below : List Frame} {meth : Method} {c : Code} {H : Heap} {locs : List Loc} {cells slots : Nat} {Q : State → Prop} {cc : ByteArray} {nL pc idx : Nat} {ls : Array Slot} {rest : List Value} {own : String} {dC : Nat → ClassId} {dI : Nat → Nat → Nat} {L : Nat → Nat} {cA : Nat → ClassId} {ar : Nat → Nat → Int32} {sc : Nat → Int32} {H0 : Heap}  (hF : CallFix p m c cc nL s args w_all own) (hK : kW_I dC dI cA s) (hP : va_P (dC, dI) classes (wI L cA ar sc) H) (hL : ij 38 L) (hS : va_S (aI L) H0 H locs) (h : p_Route_fillLegs ar sc ) (hlk : Cond.methodLink own idx y_Route_fillLegs ∈ w_all) (hsz : ls.size = nL) (hR : (rmD 1).frames + 1 ≤ R.frames ∧ 8 + (3 + 11) + (rmD 1).locals ≤ R.locals) (hc : cells ≤ R.cells ∧ slots ≤ R.slots) (hrs : (rest.map fun v => v.category).sum ≤ 8) (hdg : decode cc pc = .ok (.invokevirtual idx, 3)) (kk : ∀ (H1 : Heap) (locs1 : List Loc), va_P (dC, dI) classes (wI L cA ((f_Route_fillLegs ar sc ).1) ((f_Route_fillLegs ar sc ).2)) H1 → va_S (aI L) H0 H1 locs1 → W p l e R s m args below meth c H1 locs1 cells slots Q (F0 m (pc + 3) ls (rest))) : W p l e R s m args below meth c H locs cells slots Q (F0 m pc ls (.ref (L 23) :: rest)) :=
  va_callv (va_runV (As := []) (rest := rest) hF (c_Route_fillLegs l dC dI L cA ar sc  hL h) (cwV 0 hF.2.2.2.2 (gV hlk m_111 m_112 m_94 m_113) rfl rfl rfl (by decide +kernel) hR) ⟨xb_I, va_recv hK.1 hP (ci := 5) (q0 := 23) rfl rfl, fun U hU hW => ⟨rfl, by rw [hU]; exact hP, kW_I_warm hW hK⟩⟩ rfl rfl hsz rfl (lv_room hrs) hdg hc) hS (fun q _ h9 => h9) (fun q h9 => h9) (fun u t H1 locs1 ht hvm hw hB hz1 hk1 hS1 => by
    have hk9 := kk H1 locs1 (by rw [← hw, ← ht]; exact hB) hS1
    exact hk9)
theorem d_Route_fillLeastHome_0 : decode b_Route_fillLeastHome 0 = .ok (.iconst 1, 1) := by decide +kernel
theorem d_Route_fillLeastHome_1 : decode b_Route_fillLeastHome 1 = .ok (.aload_n 0, 1) := by decide +kernel
theorem d_Route_fillLeastHome_2 : decode b_Route_fillLeastHome 2 = .ok (.getfield 30, 3) := by decide +kernel
theorem d_Route_fillLeastHome_5 : decode b_Route_fillLeastHome 5 = .ok (.ishl, 1) := by decide +kernel
theorem d_Route_fillLeastHome_6 : decode b_Route_fillLeastHome 6 = .ok (.iconst 1, 1) := by decide +kernel
theorem d_Route_fillLeastHome_7 : decode b_Route_fillLeastHome 7 = .ok (.isub, 1) := by decide +kernel
theorem d_Route_fillLeastHome_8 : decode b_Route_fillLeastHome 8 = .ok (.istore_n 1, 1) := by decide +kernel
theorem d_Route_fillLeastHome_9 : decode b_Route_fillLeastHome 9 = .ok (.iconst 0, 1) := by decide +kernel
theorem d_Route_fillLeastHome_10 : decode b_Route_fillLeastHome 10 = .ok (.istore_n 2, 1) := by decide +kernel
theorem d_Route_fillLeastHome_11 : decode b_Route_fillLeastHome 11 = .ok (.iload_n 2, 1) := by decide +kernel
theorem d_Route_fillLeastHome_12 : decode b_Route_fillLeastHome 12 = .ok (.aload_n 0, 1) := by decide +kernel
theorem d_Route_fillLeastHome_13 : decode b_Route_fillLeastHome 13 = .ok (.getfield 30, 3) := by decide +kernel
theorem d_Route_fillLeastHome_16 : decode b_Route_fillLeastHome 16 = .ok (.if_icmp .gt 34, 3) := by decide +kernel
theorem d_Route_fillLeastHome_19 : decode b_Route_fillLeastHome 19 = .ok (.aload_n 0, 1) := by decide +kernel
theorem d_Route_fillLeastHome_20 : decode b_Route_fillLeastHome 20 = .ok (.getfield 24, 3) := by decide +kernel
theorem d_Route_fillLeastHome_23 : decode b_Route_fillLeastHome 23 = .ok (.iload_n 1, 1) := by decide +kernel
theorem d_Route_fillLeastHome_24 : decode b_Route_fillLeastHome 24 = .ok (.bipush 8, 2) := by decide +kernel
theorem d_Route_fillLeastHome_26 : decode b_Route_fillLeastHome 26 = .ok (.imul, 1) := by decide +kernel
theorem d_Route_fillLeastHome_27 : decode b_Route_fillLeastHome 27 = .ok (.iload_n 2, 1) := by decide +kernel
theorem d_Route_fillLeastHome_28 : decode b_Route_fillLeastHome 28 = .ok (.iadd, 1) := by decide +kernel
theorem d_Route_fillLeastHome_29 : decode b_Route_fillLeastHome 29 = .ok (.aload_n 0, 1) := by decide +kernel
theorem d_Route_fillLeastHome_30 : decode b_Route_fillLeastHome 30 = .ok (.getfield 21, 3) := by decide +kernel
theorem d_Route_fillLeastHome_33 : decode b_Route_fillLeastHome 33 = .ok (.iload_n 2, 1) := by decide +kernel
theorem d_Route_fillLeastHome_34 : decode b_Route_fillLeastHome 34 = .ok (.bipush 8, 2) := by decide +kernel
theorem d_Route_fillLeastHome_36 : decode b_Route_fillLeastHome 36 = .ok (.imul, 1) := by decide +kernel
theorem d_Route_fillLeastHome_37 : decode b_Route_fillLeastHome 37 = .ok (.aload_n 0, 1) := by decide +kernel
theorem d_Route_fillLeastHome_38 : decode b_Route_fillLeastHome 38 = .ok (.getfield 30, 3) := by decide +kernel
theorem d_Route_fillLeastHome_41 : decode b_Route_fillLeastHome 41 = .ok (.iadd, 1) := by decide +kernel
theorem d_Route_fillLeastHome_42 : decode b_Route_fillLeastHome 42 = .ok (.iaload, 1) := by decide +kernel
theorem d_Route_fillLeastHome_43 : decode b_Route_fillLeastHome 43 = .ok (.iastore, 1) := by decide +kernel
theorem d_Route_fillLeastHome_44 : decode b_Route_fillLeastHome 44 = .ok (.iinc 2 1, 3) := by decide +kernel
theorem d_Route_fillLeastHome_47 : decode b_Route_fillLeastHome 47 = .ok (.goto (-36), 3) := by decide +kernel
theorem d_Route_fillLeastHome_50 : decode b_Route_fillLeastHome 50 = .ok (.iload_n 1, 1) := by decide +kernel
theorem d_Route_fillLeastHome_51 : decode b_Route_fillLeastHome 51 = .ok (.iconst 1, 1) := by decide +kernel
theorem d_Route_fillLeastHome_52 : decode b_Route_fillLeastHome 52 = .ok (.isub, 1) := by decide +kernel
theorem d_Route_fillLeastHome_53 : decode b_Route_fillLeastHome 53 = .ok (.istore_n 2, 1) := by decide +kernel
theorem d_Route_fillLeastHome_54 : decode b_Route_fillLeastHome 54 = .ok (.iload_n 2, 1) := by decide +kernel
theorem d_Route_fillLeastHome_55 : decode b_Route_fillLeastHome 55 = .ok (.ifCond .lt 52, 3) := by decide +kernel
theorem d_Route_fillLeastHome_58 : decode b_Route_fillLeastHome 58 = .ok (.iconst 0, 1) := by decide +kernel
theorem d_Route_fillLeastHome_59 : decode b_Route_fillLeastHome 59 = .ok (.istore_n 3, 1) := by decide +kernel
theorem d_Route_fillLeastHome_60 : decode b_Route_fillLeastHome 60 = .ok (.iload_n 3, 1) := by decide +kernel
theorem d_Route_fillLeastHome_61 : decode b_Route_fillLeastHome 61 = .ok (.aload_n 0, 1) := by decide +kernel
theorem d_Route_fillLeastHome_62 : decode b_Route_fillLeastHome 62 = .ok (.getfield 30, 3) := by decide +kernel
theorem d_Route_fillLeastHome_65 : decode b_Route_fillLeastHome 65 = .ok (.if_icmp .gt 36, 3) := by decide +kernel
theorem d_Route_fillLeastHome_68 : decode b_Route_fillLeastHome 68 = .ok (.aload_n 0, 1) := by decide +kernel
theorem d_Route_fillLeastHome_69 : decode b_Route_fillLeastHome 69 = .ok (.iload_n 2, 1) := by decide +kernel
theorem d_Route_fillLeastHome_70 : decode b_Route_fillLeastHome 70 = .ok (.iload_n 3, 1) := by decide +kernel
theorem d_Route_fillLeastHome_71 : decode b_Route_fillLeastHome 71 = .ok (.invokevirtual 49, 3) := by decide +kernel
theorem d_Route_fillLeastHome_74 : decode b_Route_fillLeastHome 74 = .ok (.istore 4, 2) := by decide +kernel
theorem d_Route_fillLeastHome_76 : decode b_Route_fillLeastHome 76 = .ok (.aload_n 0, 1) := by decide +kernel
theorem d_Route_fillLeastHome_77 : decode b_Route_fillLeastHome 77 = .ok (.getfield 24, 3) := by decide +kernel
theorem d_Route_fillLeastHome_80 : decode b_Route_fillLeastHome 80 = .ok (.iload_n 2, 1) := by decide +kernel
theorem d_Route_fillLeastHome_81 : decode b_Route_fillLeastHome 81 = .ok (.bipush 8, 2) := by decide +kernel
theorem d_Route_fillLeastHome_83 : decode b_Route_fillLeastHome 83 = .ok (.imul, 1) := by decide +kernel
theorem d_Route_fillLeastHome_84 : decode b_Route_fillLeastHome 84 = .ok (.iload_n 3, 1) := by decide +kernel
theorem d_Route_fillLeastHome_85 : decode b_Route_fillLeastHome 85 = .ok (.iadd, 1) := by decide +kernel
theorem d_Route_fillLeastHome_86 : decode b_Route_fillLeastHome 86 = .ok (.aload_n 0, 1) := by decide +kernel
theorem d_Route_fillLeastHome_87 : decode b_Route_fillLeastHome 87 = .ok (.iload_n 2, 1) := by decide +kernel
theorem d_Route_fillLeastHome_88 : decode b_Route_fillLeastHome 88 = .ok (.iload_n 3, 1) := by decide +kernel
theorem d_Route_fillLeastHome_89 : decode b_Route_fillLeastHome 89 = .ok (.iload 4, 2) := by decide +kernel
theorem d_Route_fillLeastHome_91 : decode b_Route_fillLeastHome 91 = .ok (.invokevirtual 53, 3) := by decide +kernel
theorem d_Route_fillLeastHome_94 : decode b_Route_fillLeastHome 94 = .ok (.iastore, 1) := by decide +kernel
theorem d_Route_fillLeastHome_95 : decode b_Route_fillLeastHome 95 = .ok (.iinc 3 1, 3) := by decide +kernel
theorem d_Route_fillLeastHome_98 : decode b_Route_fillLeastHome 98 = .ok (.goto (-38), 3) := by decide +kernel
theorem d_Route_fillLeastHome_101 : decode b_Route_fillLeastHome 101 = .ok (.iinc 2 (-1), 3) := by decide +kernel
theorem d_Route_fillLeastHome_104 : decode b_Route_fillLeastHome 104 = .ok (.goto (-50), 3) := by decide +kernel
theorem d_Route_fillLeastHome_107 : decode b_Route_fillLeastHome 107 = .ok (.return_, 1) := by decide +kernel
set_option maxHeartbeats 4000000 in
set_option maxRecDepth 100000 in
theorem l_Route_fillLeastHome_11 {p : Program} {l : Launch} {e : Env} {s : State} {m : MethodId} {args : Array Value} {below : List Frame} {meth : Method} {c : Code} {dC : Nat → ClassId} {dI : Nat → Nat → Nat} {L : Nat → Nat} {cA : Nat → ClassId} {Q : State → Prop}  (u1 : Int32) (hF : CallFix p m c b_Route_fillLeastHome 5 s args w_all R_Route) (hK : kW_I dC dI cA s) (hL : ij 38 L) : ∀ (n : Nat) (v2 : Int32) (ar : Nat → Nat → Int32) (sc : Nat → Int32), q_Route_fillLeastHome_11 u1 n v2 ar sc → ∀ (H : Heap) (locs : List Loc), va_P (dC, dI) classes (wI L cA ar sc) H → va_S (aI L) s.heap H locs → ∀ (ls : Array Slot), lv_has ls 5 [(2, .int v2), (0, .ref (L 23)), (1, .int u1)] → (∀ (H : Heap) (locs : List Loc) (ls : Array Slot), va_P (dC, dI) classes (wI L cA ((g_Route_fillLeastHome_11 u1 n v2 ar sc).2.1) ((g_Route_fillLeastHome_11 u1 n v2 ar sc).2.2)) H → va_S (aI L) s.heap H locs → lv_has ls 5 [(2, .int ((g_Route_fillLeastHome_11 u1 n v2 ar sc).1)), (0, .ref (L 23)), (1, .int u1)] → W p l e (rmD 2) s m args below meth c H locs 0 0 Q (F0 m 50 ls [])) → W p l e (rmD 2) s m args below meth c H locs 0 0 Q (F0 m 11 ls []) := by
  have hx := hF.1
  have hb := hF.2.1
  have hown := hF.2.2.2.1
  have hts := hF.2.2.2.2
  intro n
  induction n with
  | zero => intro v2 ar sc h; exact False.elim h
  | succ n ih =>
    intro v2 ar sc h H locs hP hS ls hl hk
    rw [q_Route_fillLeastHome_11] at h
    refine lv_iload_n hx hb d_Route_fillLeastHome_11 rfl (lv_at hl 0 rfl) ?_
    refine lv_aload_n hx hb d_Route_fillLeastHome_12 rfl (lv_at hl 1 rfl) ?_
    refine gf_Route_count hF hK hP m_96 d_Route_fillLeastHome_13 ?_
    refine lv_icmp_gt (tgt := 50) hx hb d_Route_fillLeastHome_16 (by decide) (fun c16 => ?_) (fun c16 => ?_)
    · have h := h.1 c16
      have hv : g_Route_fillLeastHome_11 u1 (n + 1) v2 ar sc = ((v2, ar, sc) : Int32 × (Nat → Nat → Int32) × (Nat → Int32)) := by rw [g_Route_fillLeastHome_11, if_pos c16]
      rw [hv] at hk
      exact hk _ _ ls hP hS (lv_sub hl [0, 1, 2] rfl)
    · have h := h.2 c16
      refine lv_aload_n hx hb d_Route_fillLeastHome_19 rfl (lv_at hl 1 rfl) ?_
      refine gf_Route_leastHome hF hK hP m_91 d_Route_fillLeastHome_20 ?_
      refine lv_iload_n hx hb d_Route_fillLeastHome_23 rfl (lv_at hl 2 rfl) ?_
      refine lv_bipush (v := 8) hx hb d_Route_fillLeastHome_24 (by decide) ?_
      refine lv_imul hx hb d_Route_fillLeastHome_26 ?_
      refine lv_iload_n hx hb d_Route_fillLeastHome_27 rfl (lv_at hl 0 rfl) ?_
      refine lv_iadd hx hb d_Route_fillLeastHome_28 ?_
      refine lv_aload_n hx hb d_Route_fillLeastHome_29 rfl (lv_at hl 1 rfl) ?_
      refine gf_Route_legs hF hK hP m_90 d_Route_fillLeastHome_30 ?_
      refine lv_iload_n hx hb d_Route_fillLeastHome_33 rfl (lv_at hl 0 rfl) ?_
      refine lv_bipush (v := 8) hx hb d_Route_fillLeastHome_34 (by decide) ?_
      refine lv_imul hx hb d_Route_fillLeastHome_36 ?_
      refine lv_aload_n hx hb d_Route_fillLeastHome_37 rfl (lv_at hl 1 rfl) ?_
      refine gf_Route_count hF hK hP m_96 d_Route_fillLeastHome_38 ?_
      refine lv_iadd hx hb d_Route_fillLeastHome_41 ?_
      have k42 := h.1
      have h := h.2
      refine alI_27 hF hK hP k42 d_Route_fillLeastHome_42 ?_
      have k43 := h.1
      have h := h.2
      refine asI_28 hF hK hP hL hS k43 d_Route_fillLeastHome_43 (fun H locs hP hS => ?_)
      refine lv_iinc (v := v2 + 1) (lv' := [(2, .int (v2 + 1)), (0, .ref (L 23)), (1, .int u1)]) hx hb d_Route_fillLeastHome_44 hl (k := 0) rfl rfl (by decide) rfl (fun ls hl => ?_)
      refine lv_goto (tgt := 11) hx hb d_Route_fillLeastHome_47 (by decide) ?_
      have hv : g_Route_fillLeastHome_11 u1 (n + 1) v2 ar sc = g_Route_fillLeastHome_11 u1 n (v2 + 1) (s2 ar 28 (((u1 * 8) + v2).toNatClampNeg) (ar 27 (((v2 * 8) + (sc 4)).toNatClampNeg))) sc := by rw [g_Route_fillLeastHome_11, if_neg c16]
      rw [hv] at hk
      exact ih (v2 + 1) (s2 ar 28 (((u1 * 8) + v2).toNatClampNeg) (ar 27 (((v2 * 8) + (sc 4)).toNatClampNeg))) sc h _ _ hP hS ls (lv_sub hl [0, 1, 2] rfl) hk
set_option maxHeartbeats 4000000 in
set_option maxRecDepth 100000 in
theorem l_Route_fillLeastHome_60 {p : Program} {l : Launch} {e : Env} {s : State} {m : MethodId} {args : Array Value} {below : List Frame} {meth : Method} {c : Code} {dC : Nat → ClassId} {dI : Nat → Nat → Nat} {L : Nat → Nat} {cA : Nat → ClassId} {Q : State → Prop}  (u1 : Int32) (u2 : Int32) (hF : CallFix p m c b_Route_fillLeastHome 5 s args w_all R_Route) (hK : kW_I dC dI cA s) (hL : ij 38 L) : ∀ (n : Nat) (v3 : Int32) (ar : Nat → Nat → Int32) (sc : Nat → Int32), q_Route_fillLeastHome_60 u1 u2 n v3 ar sc → ∀ (H : Heap) (locs : List Loc), va_P (dC, dI) classes (wI L cA ar sc) H → va_S (aI L) s.heap H locs → ∀ (ls : Array Slot), lv_has ls 5 [(3, .int v3), (0, .ref (L 23)), (1, .int u1), (2, .int u2)] → (∀ (H : Heap) (locs : List Loc) (ls : Array Slot), va_P (dC, dI) classes (wI L cA ((g_Route_fillLeastHome_60 u1 u2 n v3 ar sc).2.1) ((g_Route_fillLeastHome_60 u1 u2 n v3 ar sc).2.2)) H → va_S (aI L) s.heap H locs → lv_has ls 5 [(3, .int ((g_Route_fillLeastHome_60 u1 u2 n v3 ar sc).1)), (0, .ref (L 23)), (1, .int u1), (2, .int u2)] → W p l e (rmD 2) s m args below meth c H locs 0 0 Q (F0 m 101 ls [])) → W p l e (rmD 2) s m args below meth c H locs 0 0 Q (F0 m 60 ls []) := by
  have hx := hF.1
  have hb := hF.2.1
  have hown := hF.2.2.2.1
  have hts := hF.2.2.2.2
  intro n
  induction n with
  | zero => intro v3 ar sc h; exact False.elim h
  | succ n ih =>
    intro v3 ar sc h H locs hP hS ls hl hk
    rw [q_Route_fillLeastHome_60] at h
    refine lv_iload_n hx hb d_Route_fillLeastHome_60 rfl (lv_at hl 0 rfl) ?_
    refine lv_aload_n hx hb d_Route_fillLeastHome_61 rfl (lv_at hl 1 rfl) ?_
    refine gf_Route_count hF hK hP m_96 d_Route_fillLeastHome_62 ?_
    refine lv_icmp_gt (tgt := 101) hx hb d_Route_fillLeastHome_65 (by decide) (fun c65 => ?_) (fun c65 => ?_)
    · have h := h.1 c65
      have hv : g_Route_fillLeastHome_60 u1 u2 (n + 1) v3 ar sc = ((v3, ar, sc) : Int32 × (Nat → Nat → Int32) × (Nat → Int32)) := by rw [g_Route_fillLeastHome_60, if_pos c65]
      rw [hv] at hk
      exact hk _ _ ls hP hS (lv_sub hl [0, 1, 2, 3] rfl)
    · have h := h.2 c65
      refine lv_aload_n hx hb d_Route_fillLeastHome_68 rfl (lv_at hl 1 rfl) ?_
      refine lv_iload_n hx hb d_Route_fillLeastHome_69 rfl (lv_at hl 3 rfl) ?_
      refine lv_iload_n hx hb d_Route_fillLeastHome_70 rfl (lv_at hl 0 rfl) ?_
      have k71 := h.1
      have h := h.2
      refine r_Route_firstLeastNext hF hK hP k71 m_114 hl.1 ⟨Nat.le_of_ble_eq_true rfl, Nat.le_of_ble_eq_true rfl⟩ ⟨Nat.zero_le _, Nat.zero_le _⟩ (Nat.le_of_ble_eq_true rfl) d_Route_fillLeastHome_71 ?_
      refine lv_istore (lv' := [(4, .int (f_Route_firstLeastNext ar sc u2 v3)), (3, .int v3), (0, .ref (L 23)), (1, .int u1), (2, .int u2)]) hx hb d_Route_fillLeastHome_74 hl (by decide) rfl (fun ls hl => ?_)
      refine lv_aload_n hx hb d_Route_fillLeastHome_76 rfl (lv_at hl 2 rfl) ?_
      refine gf_Route_leastHome hF hK hP m_91 d_Route_fillLeastHome_77 ?_
      refine lv_iload_n hx hb d_Route_fillLeastHome_80 rfl (lv_at hl 4 rfl) ?_
      refine lv_bipush (v := 8) hx hb d_Route_fillLeastHome_81 (by decide) ?_
      refine lv_imul hx hb d_Route_fillLeastHome_83 ?_
      refine lv_iload_n hx hb d_Route_fillLeastHome_84 rfl (lv_at hl 1 rfl) ?_
      refine lv_iadd hx hb d_Route_fillLeastHome_85 ?_
      refine lv_aload_n hx hb d_Route_fillLeastHome_86 rfl (lv_at hl 2 rfl) ?_
      refine lv_iload_n hx hb d_Route_fillLeastHome_87 rfl (lv_at hl 4 rfl) ?_
      refine lv_iload_n hx hb d_Route_fillLeastHome_88 rfl (lv_at hl 1 rfl) ?_
      refine lv_iload hx hb d_Route_fillLeastHome_89 (lv_at hl 0 rfl) ?_
      have k91 := h.1
      have h := h.2
      refine r_Route_metresBy hF hK hP k91 m_97 hl.1 ⟨Nat.le_of_ble_eq_true rfl, Nat.le_of_ble_eq_true rfl⟩ ⟨Nat.zero_le _, Nat.zero_le _⟩ (Nat.le_of_ble_eq_true rfl) d_Route_fillLeastHome_91 ?_
      have k94 := h.1
      have h := h.2
      refine asI_28 hF hK hP hL hS k94 d_Route_fillLeastHome_94 (fun H locs hP hS => ?_)
      refine lv_iinc (v := v3 + 1) (lv' := [(3, .int (v3 + 1)), (4, .int (f_Route_firstLeastNext ar sc u2 v3)), (0, .ref (L 23)), (1, .int u1), (2, .int u2)]) hx hb d_Route_fillLeastHome_95 hl (k := 1) rfl rfl (by decide) rfl (fun ls hl => ?_)
      refine lv_goto (tgt := 60) hx hb d_Route_fillLeastHome_98 (by decide) ?_
      have hv : g_Route_fillLeastHome_60 u1 u2 (n + 1) v3 ar sc = g_Route_fillLeastHome_60 u1 u2 n (v3 + 1) (s2 ar 28 (((u2 * 8) + v3).toNatClampNeg) (f_Route_metresBy ar sc u2 v3 (f_Route_firstLeastNext ar sc u2 v3))) sc := by rw [g_Route_fillLeastHome_60, if_neg c65]
      rw [hv] at hk
      exact ih (v3 + 1) (s2 ar 28 (((u2 * 8) + v3).toNatClampNeg) (f_Route_metresBy ar sc u2 v3 (f_Route_firstLeastNext ar sc u2 v3))) sc h _ _ hP hS ls (lv_sub hl [0, 2, 3, 4] rfl) hk
set_option maxHeartbeats 4000000 in
set_option maxRecDepth 100000 in
theorem l_Route_fillLeastHome_54 {p : Program} {l : Launch} {e : Env} {s : State} {m : MethodId} {args : Array Value} {below : List Frame} {meth : Method} {c : Code} {dC : Nat → ClassId} {dI : Nat → Nat → Nat} {L : Nat → Nat} {cA : Nat → ClassId} {Q : State → Prop}  (u1 : Int32) (hF : CallFix p m c b_Route_fillLeastHome 5 s args w_all R_Route) (hK : kW_I dC dI cA s) (hL : ij 38 L) : ∀ (n : Nat) (v2 : Int32) (ar : Nat → Nat → Int32) (sc : Nat → Int32), q_Route_fillLeastHome_54 u1 n v2 ar sc → ∀ (H : Heap) (locs : List Loc), va_P (dC, dI) classes (wI L cA ar sc) H → va_S (aI L) s.heap H locs → ∀ (ls : Array Slot), lv_has ls 5 [(2, .int v2), (0, .ref (L 23)), (1, .int u1)] → (∀ (H : Heap) (locs : List Loc) (ls : Array Slot), va_P (dC, dI) classes (wI L cA ((g_Route_fillLeastHome_54 u1 n v2 ar sc).2.1) ((g_Route_fillLeastHome_54 u1 n v2 ar sc).2.2)) H → va_S (aI L) s.heap H locs → lv_has ls 5 [(2, .int ((g_Route_fillLeastHome_54 u1 n v2 ar sc).1)), (0, .ref (L 23)), (1, .int u1)] → W p l e (rmD 2) s m args below meth c H locs 0 0 Q (F0 m 107 ls [])) → W p l e (rmD 2) s m args below meth c H locs 0 0 Q (F0 m 54 ls []) := by
  have hx := hF.1
  have hb := hF.2.1
  have hown := hF.2.2.2.1
  have hts := hF.2.2.2.2
  intro n
  induction n with
  | zero => intro v2 ar sc h; exact False.elim h
  | succ n ih =>
    intro v2 ar sc h H locs hP hS ls hl hk
    rw [q_Route_fillLeastHome_54] at h
    refine lv_iload_n hx hb d_Route_fillLeastHome_54 rfl (lv_at hl 0 rfl) ?_
    refine lv_if_lt (tgt := 107) hx hb d_Route_fillLeastHome_55 (by decide) (fun c55 => ?_) (fun c55 => ?_)
    · have h := h.1 c55
      have hv : g_Route_fillLeastHome_54 u1 (n + 1) v2 ar sc = ((v2, ar, sc) : Int32 × (Nat → Nat → Int32) × (Nat → Int32)) := by rw [g_Route_fillLeastHome_54, if_pos c55]
      rw [hv] at hk
      exact hk _ _ ls hP hS (lv_sub hl [0, 1, 2] rfl)
    · have h := h.2 c55
      refine lv_iconst (v := 0) hx hb d_Route_fillLeastHome_58 (by decide) ?_
      refine lv_istore_n (lv' := [(3, .int 0), (2, .int v2), (0, .ref (L 23)), (1, .int u1)]) hx hb d_Route_fillLeastHome_59 rfl hl (by decide) rfl (fun ls hl => ?_)
      have kL60 := h.1
      have h := h.2
      refine l_Route_fillLeastHome_60 u1 v2 hF hK hL 200 0 ar sc kL60 _ _ hP hS ls (lv_sub hl [0, 2, 3, 1] rfl) (fun H locs ls hP hS hl => ?_)
      refine lv_iinc (v := v2 + (-1)) (lv' := [(2, .int (v2 + (-1))), (3, .int ((g_Route_fillLeastHome_60 u1 v2 200 0 ar sc).1)), (0, .ref (L 23)), (1, .int u1)]) hx hb d_Route_fillLeastHome_101 hl (k := 3) rfl (congrArg (fun z => v2 + z) (by decide)) (by decide) rfl (fun ls hl => ?_)
      refine lv_goto (tgt := 54) hx hb d_Route_fillLeastHome_104 (by decide) ?_
      have hv : g_Route_fillLeastHome_54 u1 (n + 1) v2 ar sc = g_Route_fillLeastHome_54 u1 n (v2 + (-1)) ((g_Route_fillLeastHome_60 u1 v2 200 0 ar sc).2.1) ((g_Route_fillLeastHome_60 u1 v2 200 0 ar sc).2.2) := by rw [g_Route_fillLeastHome_54, if_neg c55]
      rw [hv] at hk
      exact ih (v2 + (-1)) ((g_Route_fillLeastHome_60 u1 v2 200 0 ar sc).2.1) ((g_Route_fillLeastHome_60 u1 v2 200 0 ar sc).2.2) h _ _ hP hS ls (lv_sub hl [0, 2, 3] rfl) hk
set_option maxHeartbeats 4000000 in
set_option maxRecDepth 100000 in
theorem c_Route_fillLeastHome (l : Launch) (dC : Nat → ClassId) (dI : Nat → Nat → Nat) (L : Nat → Nat) (cA : Nat → ClassId) (ar : Nat → Nat → Int32) (sc : Nat → Int32) (hL : ij 38 L) (h : p_Route_fillLeastHome ar sc ) : Met l y_Route_fillLeastHome z_Route_fillLeastHome (rmD 2) (va_Pc [.ref (L 23)] (fun U => xw_I dC dI L cA ar sc U)) (va_Qv (fun u : oS => (u.1, u.2) = f_Route_fillLeastHome ar sc ) (fun u t => va_P (dC, dI) classes (wI L cA u.1 u.2) t.heap) (aI L)) 0 0 (aI L) := by
  refine Met.ofW (cc := b_Route_fillLeastHome) (maxL := 5) (ret := none) (by decide) rfl ?_
  intro p e s m args below meth c s₁ B hml hv
  obtain ⟨rfl, ⟨hP, hK⟩⟩ := hv
  have hx := B.exec
  have hb := B.bytes
  have hr := B.returns
  have hts : ∀ w ∈ w_all, w.before _ s = true := fun w hw => atoms_spec (ws := z_Route_fillLeastHome) B.pre w (List.mem_cons_of_mem _ hw)
  have hown : s.vm.findClass R_Route = some m.cls := findClass_of_methodNamed B.named
  have hlocks := B.notSynchronized
  have hF : CallFix p m c b_Route_fillLeastHome 5 s _ w_all R_Route := ⟨hx, hb, hml, hown, hts⟩
  have hS : va_S (aI L) s.heap s.heap [] := va_S.rf
  have hl := lv_entry ([.ref (L 23)]) (n := 5) (Nat.le_of_ble_eq_true rfl)
  rw [lg_entry_eq]
  generalize (lg_sl ([.ref (L 23)]) ++ List.replicate (5 - (lg_sl ([.ref (L 23)])).length) Slot.unset).toArray = ls at hl ⊢
  have hl : lv_has ls 5 [(0, .ref (L 23))] := hl
  unfold p_Route_fillLeastHome at h
  refine lv_iconst (v := 1) hx hb d_Route_fillLeastHome_0 (by decide) ?_
  refine lv_aload_n hx hb d_Route_fillLeastHome_1 rfl (lv_at hl 0 rfl) ?_
  refine gf_Route_count hF hK hP m_96 d_Route_fillLeastHome_2 ?_
  refine lv_ishl hx hb d_Route_fillLeastHome_5 ?_
  refine lv_iconst (v := 1) hx hb d_Route_fillLeastHome_6 (by decide) ?_
  refine lv_isub hx hb d_Route_fillLeastHome_7 ?_
  refine lv_istore_n (lv' := [(1, .int (((1 : Int32) <<< ((sc 4) &&& 31)) - 1)), (0, .ref (L 23))]) hx hb d_Route_fillLeastHome_8 rfl hl (by decide) rfl (fun ls hl => ?_)
  refine lv_iconst (v := 0) hx hb d_Route_fillLeastHome_9 (by decide) ?_
  refine lv_istore_n (lv' := [(2, .int 0), (1, .int (((1 : Int32) <<< ((sc 4) &&& 31)) - 1)), (0, .ref (L 23))]) hx hb d_Route_fillLeastHome_10 rfl hl (by decide) rfl (fun ls hl => ?_)
  have kL11 := h.1
  have h := h.2
  refine l_Route_fillLeastHome_11 (((1 : Int32) <<< ((sc 4) &&& 31)) - 1) hF hK hL 200 0 ar sc kL11 _ _ hP hS ls (lv_sub hl [0, 2, 1] rfl) (fun H locs ls hP hS hl => ?_)
  refine lv_iload_n hx hb d_Route_fillLeastHome_50 rfl (lv_at hl 2 rfl) ?_
  refine lv_iconst (v := 1) hx hb d_Route_fillLeastHome_51 (by decide) ?_
  refine lv_isub hx hb d_Route_fillLeastHome_52 ?_
  refine lv_istore_n (lv' := [(2, .int ((((1 : Int32) <<< ((sc 4) &&& 31)) - 1) - 1)), (0, .ref (L 23)), (1, .int (((1 : Int32) <<< ((sc 4) &&& 31)) - 1))]) hx hb d_Route_fillLeastHome_53 rfl hl (by decide) rfl (fun ls hl => ?_)
  have kL54 := h
  refine l_Route_fillLeastHome_54 (((1 : Int32) <<< ((sc 4) &&& 31)) - 1) hF hK hL 200 ((((1 : Int32) <<< ((sc 4) &&& 31)) - 1) - 1) ((g_Route_fillLeastHome_11 (((1 : Int32) <<< ((sc 4) &&& 31)) - 1) 200 0 ar sc).2.1) ((g_Route_fillLeastHome_11 (((1 : Int32) <<< ((sc 4) &&& 31)) - 1) 200 0 ar sc).2.2) kL54 _ _ hP hS ls (lv_sub hl [0, 1, 2] rfl) (fun H locs ls hP hS hl => ?_)
  have hv : (((g_Route_fillLeastHome_54 (((1 : Int32) <<< ((sc 4) &&& 31)) - 1) 200 ((((1 : Int32) <<< ((sc 4) &&& 31)) - 1) - 1) ((g_Route_fillLeastHome_11 (((1 : Int32) <<< ((sc 4) &&& 31)) - 1) 200 0 ar sc).2.1) ((g_Route_fillLeastHome_11 (((1 : Int32) <<< ((sc 4) &&& 31)) - 1) 200 0 ar sc).2.2)).2.1, (g_Route_fillLeastHome_54 (((1 : Int32) <<< ((sc 4) &&& 31)) - 1) 200 ((((1 : Int32) <<< ((sc 4) &&& 31)) - 1) - 1) ((g_Route_fillLeastHome_11 (((1 : Int32) <<< ((sc 4) &&& 31)) - 1) 200 0 ar sc).2.1) ((g_Route_fillLeastHome_11 (((1 : Int32) <<< ((sc 4) &&& 31)) - 1) 200 0 ar sc).2.2)).2.2) : (Nat → Nat → Int32) × (Nat → Int32)) = f_Route_fillLeastHome ar sc  := by rw [f_Route_fillLeastHome]
  exact W.vret hx hb hr (fun t ht hW => ⟨⟨((g_Route_fillLeastHome_54 (((1 : Int32) <<< ((sc 4) &&& 31)) - 1) 200 ((((1 : Int32) <<< ((sc 4) &&& 31)) - 1) - 1) ((g_Route_fillLeastHome_11 (((1 : Int32) <<< ((sc 4) &&& 31)) - 1) 200 0 ar sc).2.1) ((g_Route_fillLeastHome_11 (((1 : Int32) <<< ((sc 4) &&& 31)) - 1) 200 0 ar sc).2.2)).2.1, (g_Route_fillLeastHome_54 (((1 : Int32) <<< ((sc 4) &&& 31)) - 1) 200 ((((1 : Int32) <<< ((sc 4) &&& 31)) - 1) - 1) ((g_Route_fillLeastHome_11 (((1 : Int32) <<< ((sc 4) &&& 31)) - 1) 200 0 ar sc).2.1) ((g_Route_fillLeastHome_11 (((1 : Int32) <<< ((sc 4) &&& 31)) - 1) 200 0 ar sc).2.2)).2.2), rfl, hv, by dsimp only; rw [ht]; exact hP⟩, hS.F ht⟩) hS.2.2 d_Route_fillLeastHome_107
set_option maxHeartbeats 1000000 in
theorem r_Route_fillLeastHome {p : Program} {l : Launch} {e : Env} {R : Room} {s : State} {m : MethodId} {args : Array Value} {below : List Frame} {meth : Method} {c : Code} {H : Heap} {locs : List Loc} {cells slots : Nat} {Q : State → Prop} {cc : ByteArray} {nL pc idx : Nat} {ls : Array Slot} {rest : List Value} {own : String} {dC : Nat → ClassId} {dI : Nat → Nat → Nat} {L : Nat → Nat} {cA : Nat → ClassId} {ar : Nat → Nat → Int32} {sc : Nat → Int32} {H0 : Heap}  (hF : CallFix p m c cc nL s args w_all own) (hK : kW_I dC dI cA s) (hP : va_P (dC, dI) classes (wI L cA ar sc) H) (hL : ij 38 L) (hS : va_S (aI L) H0 H locs) (h : p_Route_fillLeastHome ar sc ) (hlk : Cond.methodLink own idx y_Route_fillLeastHome ∈ w_all) (hsz : ls.size = nL) (hR : (rmD 2).frames + 1 ≤ R.frames ∧ 8 + (5 + 11) + (rmD 2).locals ≤ R.locals) (hc : cells ≤ R.cells ∧ slots ≤ R.slots) (hrs : (rest.map fun v => v.category).sum ≤ 8) (hdg : decode cc pc = .ok (.invokevirtual idx, 3)) (kk : ∀ (H1 : Heap) (locs1 : List Loc), va_P (dC, dI) classes (wI L cA ((f_Route_fillLeastHome ar sc ).1) ((f_Route_fillLeastHome ar sc ).2)) H1 → va_S (aI L) H0 H1 locs1 → W p l e R s m args below meth c H1 locs1 cells slots Q (F0 m (pc + 3) ls (rest))) : W p l e R s m args below meth c H locs cells slots Q (F0 m pc ls (.ref (L 23) :: rest)) :=
  va_callv (va_runV (As := []) (rest := rest) hF (c_Route_fillLeastHome l dC dI L cA ar sc  hL h) (cwV 0 hF.2.2.2.2 (gV hlk m_115 m_116 m_94 m_117) rfl rfl rfl (by decide +kernel) hR) ⟨xb_I, va_recv hK.1 hP (ci := 5) (q0 := 23) rfl rfl, fun U hU hW => ⟨rfl, by rw [hU]; exact hP, kW_I_warm hW hK⟩⟩ rfl rfl hsz rfl (lv_room hrs) hdg hc) hS (fun q _ h9 => h9) (fun q h9 => h9) (fun u t H1 locs1 ht hvm hw hB hz1 hk1 hS1 => by
    have hk9 := kk H1 locs1 (by rw [← hw, ← ht]; exact hB) hS1
    exact hk9)
theorem d_Route_fillStops_0 : decode b_Route_fillStops 0 = .ok (.iconst 0, 1) := by decide +kernel
theorem d_Route_fillStops_1 : decode b_Route_fillStops 1 = .ok (.istore_n 1, 1) := by decide +kernel
theorem d_Route_fillStops_2 : decode b_Route_fillStops 2 = .ok (.aload_n 0, 1) := by decide +kernel
theorem d_Route_fillStops_3 : decode b_Route_fillStops 3 = .ok (.getfield 30, 3) := by decide +kernel
theorem d_Route_fillStops_6 : decode b_Route_fillStops 6 = .ok (.istore_n 2, 1) := by decide +kernel
theorem d_Route_fillStops_7 : decode b_Route_fillStops 7 = .ok (.iconst 0, 1) := by decide +kernel
theorem d_Route_fillStops_8 : decode b_Route_fillStops 8 = .ok (.istore_n 3, 1) := by decide +kernel
theorem d_Route_fillStops_9 : decode b_Route_fillStops 9 = .ok (.iload_n 3, 1) := by decide +kernel
theorem d_Route_fillStops_10 : decode b_Route_fillStops 10 = .ok (.aload_n 0, 1) := by decide +kernel
theorem d_Route_fillStops_11 : decode b_Route_fillStops 11 = .ok (.getfield 30, 3) := by decide +kernel
theorem d_Route_fillStops_14 : decode b_Route_fillStops 14 = .ok (.if_icmp .ge 34, 3) := by decide +kernel
theorem d_Route_fillStops_17 : decode b_Route_fillStops 17 = .ok (.aload_n 0, 1) := by decide +kernel
theorem d_Route_fillStops_18 : decode b_Route_fillStops 18 = .ok (.iload_n 1, 1) := by decide +kernel
theorem d_Route_fillStops_19 : decode b_Route_fillStops 19 = .ok (.iload_n 2, 1) := by decide +kernel
theorem d_Route_fillStops_20 : decode b_Route_fillStops 20 = .ok (.invokevirtual 49, 3) := by decide +kernel
theorem d_Route_fillStops_23 : decode b_Route_fillStops 23 = .ok (.istore_n 2, 1) := by decide +kernel
theorem d_Route_fillStops_24 : decode b_Route_fillStops 24 = .ok (.iload_n 1, 1) := by decide +kernel
theorem d_Route_fillStops_25 : decode b_Route_fillStops 25 = .ok (.iconst 1, 1) := by decide +kernel
theorem d_Route_fillStops_26 : decode b_Route_fillStops 26 = .ok (.iload_n 2, 1) := by decide +kernel
theorem d_Route_fillStops_27 : decode b_Route_fillStops 27 = .ok (.ishl, 1) := by decide +kernel
theorem d_Route_fillStops_28 : decode b_Route_fillStops 28 = .ok (.ior, 1) := by decide +kernel
theorem d_Route_fillStops_29 : decode b_Route_fillStops 29 = .ok (.istore_n 1, 1) := by decide +kernel
theorem d_Route_fillStops_30 : decode b_Route_fillStops 30 = .ok (.aload_n 0, 1) := by decide +kernel
theorem d_Route_fillStops_31 : decode b_Route_fillStops 31 = .ok (.getfield 27, 3) := by decide +kernel
theorem d_Route_fillStops_34 : decode b_Route_fillStops 34 = .ok (.iload_n 3, 1) := by decide +kernel
theorem d_Route_fillStops_35 : decode b_Route_fillStops 35 = .ok (.aload_n 0, 1) := by decide +kernel
theorem d_Route_fillStops_36 : decode b_Route_fillStops 36 = .ok (.getfield 9, 3) := by decide +kernel
theorem d_Route_fillStops_39 : decode b_Route_fillStops 39 = .ok (.iload_n 2, 1) := by decide +kernel
theorem d_Route_fillStops_40 : decode b_Route_fillStops 40 = .ok (.iaload, 1) := by decide +kernel
theorem d_Route_fillStops_41 : decode b_Route_fillStops 41 = .ok (.iastore, 1) := by decide +kernel
theorem d_Route_fillStops_42 : decode b_Route_fillStops 42 = .ok (.iinc 3 1, 3) := by decide +kernel
theorem d_Route_fillStops_45 : decode b_Route_fillStops 45 = .ok (.goto (-36), 3) := by decide +kernel
theorem d_Route_fillStops_48 : decode b_Route_fillStops 48 = .ok (.return_, 1) := by decide +kernel
set_option maxHeartbeats 4000000 in
set_option maxRecDepth 100000 in
theorem l_Route_fillStops_9 {p : Program} {l : Launch} {e : Env} {s : State} {m : MethodId} {args : Array Value} {below : List Frame} {meth : Method} {c : Code} {dC : Nat → ClassId} {dI : Nat → Nat → Nat} {L : Nat → Nat} {cA : Nat → ClassId} {Q : State → Prop}   (hF : CallFix p m c b_Route_fillStops 4 s args w_all R_Route) (hK : kW_I dC dI cA s) (hL : ij 38 L) : ∀ (n : Nat) (v1 : Int32) (v2 : Int32) (v3 : Int32) (ar : Nat → Nat → Int32) (sc : Nat → Int32), q_Route_fillStops_9 n v1 v2 v3 ar sc → ∀ (H : Heap) (locs : List Loc), va_P (dC, dI) classes (wI L cA ar sc) H → va_S (aI L) s.heap H locs → ∀ (ls : Array Slot), lv_has ls 4 [(1, .int v1), (2, .int v2), (3, .int v3), (0, .ref (L 23))] → (∀ (H : Heap) (locs : List Loc) (ls : Array Slot), va_P (dC, dI) classes (wI L cA ((g_Route_fillStops_9 n v1 v2 v3 ar sc).2.2.2.1) ((g_Route_fillStops_9 n v1 v2 v3 ar sc).2.2.2.2)) H → va_S (aI L) s.heap H locs → lv_has ls 4 [(1, .int ((g_Route_fillStops_9 n v1 v2 v3 ar sc).1)), (2, .int ((g_Route_fillStops_9 n v1 v2 v3 ar sc).2.1)), (3, .int ((g_Route_fillStops_9 n v1 v2 v3 ar sc).2.2.1)), (0, .ref (L 23))] → W p l e (rmD 2) s m args below meth c H locs 0 0 Q (F0 m 48 ls [])) → W p l e (rmD 2) s m args below meth c H locs 0 0 Q (F0 m 9 ls []) := by
  have hx := hF.1
  have hb := hF.2.1
  have hown := hF.2.2.2.1
  have hts := hF.2.2.2.2
  intro n
  induction n with
  | zero => intro v1 v2 v3 ar sc h; exact False.elim h
  | succ n ih =>
    intro v1 v2 v3 ar sc h H locs hP hS ls hl hk
    rw [q_Route_fillStops_9] at h
    refine lv_iload_n hx hb d_Route_fillStops_9 rfl (lv_at hl 2 rfl) ?_
    refine lv_aload_n hx hb d_Route_fillStops_10 rfl (lv_at hl 3 rfl) ?_
    refine gf_Route_count hF hK hP m_96 d_Route_fillStops_11 ?_
    refine lv_icmp_ge (tgt := 48) hx hb d_Route_fillStops_14 (by decide) (fun c14 => ?_) (fun c14 => ?_)
    · have h := h.1 c14
      have hv : g_Route_fillStops_9 (n + 1) v1 v2 v3 ar sc = ((v1, v2, v3, ar, sc) : Int32 × Int32 × Int32 × (Nat → Nat → Int32) × (Nat → Int32)) := by rw [g_Route_fillStops_9, if_pos c14]
      rw [hv] at hk
      exact hk _ _ ls hP hS (lv_sub hl [0, 1, 2, 3] rfl)
    · have h := h.2 c14
      refine lv_aload_n hx hb d_Route_fillStops_17 rfl (lv_at hl 3 rfl) ?_
      refine lv_iload_n hx hb d_Route_fillStops_18 rfl (lv_at hl 0 rfl) ?_
      refine lv_iload_n hx hb d_Route_fillStops_19 rfl (lv_at hl 1 rfl) ?_
      have k20 := h.1
      have h := h.2
      refine r_Route_firstLeastNext hF hK hP k20 m_114 hl.1 ⟨Nat.le_of_ble_eq_true rfl, Nat.le_of_ble_eq_true rfl⟩ ⟨Nat.zero_le _, Nat.zero_le _⟩ (Nat.le_of_ble_eq_true rfl) d_Route_fillStops_20 ?_
      refine lv_istore_n (lv' := [(2, .int (f_Route_firstLeastNext ar sc v1 v2)), (1, .int v1), (3, .int v3), (0, .ref (L 23))]) hx hb d_Route_fillStops_23 rfl hl (by decide) rfl (fun ls hl => ?_)
      refine lv_iload_n hx hb d_Route_fillStops_24 rfl (lv_at hl 1 rfl) ?_
      refine lv_iconst (v := 1) hx hb d_Route_fillStops_25 (by decide) ?_
      refine lv_iload_n hx hb d_Route_fillStops_26 rfl (lv_at hl 0 rfl) ?_
      refine lv_ishl hx hb d_Route_fillStops_27 ?_
      refine lv_ior hx hb d_Route_fillStops_28 ?_
      refine lv_istore_n (lv' := [(1, .int (v1 ||| ((1 : Int32) <<< ((f_Route_firstLeastNext ar sc v1 v2) &&& 31)))), (2, .int (f_Route_firstLeastNext ar sc v1 v2)), (3, .int v3), (0, .ref (L 23))]) hx hb d_Route_fillStops_29 rfl hl (by decide) rfl (fun ls hl => ?_)
      refine lv_aload_n hx hb d_Route_fillStops_30 rfl (lv_at hl 3 rfl) ?_
      refine gf_Route_stops hF hK hP m_118 d_Route_fillStops_31 ?_
      refine lv_iload_n hx hb d_Route_fillStops_34 rfl (lv_at hl 2 rfl) ?_
      refine lv_aload_n hx hb d_Route_fillStops_35 rfl (lv_at hl 3 rfl) ?_
      refine gf_Route_told hF hK hP m_102 d_Route_fillStops_36 ?_
      refine lv_iload_n hx hb d_Route_fillStops_39 rfl (lv_at hl 1 rfl) ?_
      have k40 := h.1
      have h := h.2
      refine alI_24 hF hK hP k40 d_Route_fillStops_40 ?_
      have k41 := h.1
      have h := h.2
      refine asI_29 hF hK hP hL hS k41 d_Route_fillStops_41 (fun H locs hP hS => ?_)
      refine lv_iinc (v := v3 + 1) (lv' := [(3, .int (v3 + 1)), (1, .int (v1 ||| ((1 : Int32) <<< ((f_Route_firstLeastNext ar sc v1 v2) &&& 31)))), (2, .int (f_Route_firstLeastNext ar sc v1 v2)), (0, .ref (L 23))]) hx hb d_Route_fillStops_42 hl (k := 2) rfl rfl (by decide) rfl (fun ls hl => ?_)
      refine lv_goto (tgt := 9) hx hb d_Route_fillStops_45 (by decide) ?_
      have hv : g_Route_fillStops_9 (n + 1) v1 v2 v3 ar sc = g_Route_fillStops_9 n (v1 ||| ((1 : Int32) <<< ((f_Route_firstLeastNext ar sc v1 v2) &&& 31))) (f_Route_firstLeastNext ar sc v1 v2) (v3 + 1) (s2 ar 29 v3.toNatClampNeg (ar 24 ((f_Route_firstLeastNext ar sc v1 v2).toNatClampNeg))) sc := by rw [g_Route_fillStops_9, if_neg c14]
      rw [hv] at hk
      exact ih (v1 ||| ((1 : Int32) <<< ((f_Route_firstLeastNext ar sc v1 v2) &&& 31))) (f_Route_firstLeastNext ar sc v1 v2) (v3 + 1) (s2 ar 29 v3.toNatClampNeg (ar 24 ((f_Route_firstLeastNext ar sc v1 v2).toNatClampNeg))) sc h _ _ hP hS ls (lv_sub hl [1, 2, 0, 3] rfl) hk
set_option maxHeartbeats 4000000 in
set_option maxRecDepth 100000 in
theorem c_Route_fillStops (l : Launch) (dC : Nat → ClassId) (dI : Nat → Nat → Nat) (L : Nat → Nat) (cA : Nat → ClassId) (ar : Nat → Nat → Int32) (sc : Nat → Int32) (hL : ij 38 L) (h : p_Route_fillStops ar sc ) : Met l y_Route_fillStops z_Route_fillStops (rmD 2) (va_Pc [.ref (L 23)] (fun U => xw_I dC dI L cA ar sc U)) (va_Qv (fun u : oS => (u.1, u.2) = f_Route_fillStops ar sc ) (fun u t => va_P (dC, dI) classes (wI L cA u.1 u.2) t.heap) (aI L)) 0 0 (aI L) := by
  refine Met.ofW (cc := b_Route_fillStops) (maxL := 4) (ret := none) (by decide) rfl ?_
  intro p e s m args below meth c s₁ B hml hv
  obtain ⟨rfl, ⟨hP, hK⟩⟩ := hv
  have hx := B.exec
  have hb := B.bytes
  have hr := B.returns
  have hts : ∀ w ∈ w_all, w.before _ s = true := fun w hw => atoms_spec (ws := z_Route_fillStops) B.pre w (List.mem_cons_of_mem _ hw)
  have hown : s.vm.findClass R_Route = some m.cls := findClass_of_methodNamed B.named
  have hlocks := B.notSynchronized
  have hF : CallFix p m c b_Route_fillStops 4 s _ w_all R_Route := ⟨hx, hb, hml, hown, hts⟩
  have hS : va_S (aI L) s.heap s.heap [] := va_S.rf
  have hl := lv_entry ([.ref (L 23)]) (n := 4) (Nat.le_of_ble_eq_true rfl)
  rw [lg_entry_eq]
  generalize (lg_sl ([.ref (L 23)]) ++ List.replicate (4 - (lg_sl ([.ref (L 23)])).length) Slot.unset).toArray = ls at hl ⊢
  have hl : lv_has ls 4 [(0, .ref (L 23))] := hl
  unfold p_Route_fillStops at h
  refine lv_iconst (v := 0) hx hb d_Route_fillStops_0 (by decide) ?_
  refine lv_istore_n (lv' := [(1, .int 0), (0, .ref (L 23))]) hx hb d_Route_fillStops_1 rfl hl (by decide) rfl (fun ls hl => ?_)
  refine lv_aload_n hx hb d_Route_fillStops_2 rfl (lv_at hl 1 rfl) ?_
  refine gf_Route_count hF hK hP m_96 d_Route_fillStops_3 ?_
  refine lv_istore_n (lv' := [(2, .int (sc 4)), (1, .int 0), (0, .ref (L 23))]) hx hb d_Route_fillStops_6 rfl hl (by decide) rfl (fun ls hl => ?_)
  refine lv_iconst (v := 0) hx hb d_Route_fillStops_7 (by decide) ?_
  refine lv_istore_n (lv' := [(3, .int 0), (2, .int (sc 4)), (1, .int 0), (0, .ref (L 23))]) hx hb d_Route_fillStops_8 rfl hl (by decide) rfl (fun ls hl => ?_)
  have kL9 := h
  refine l_Route_fillStops_9 hF hK hL 200 0 (sc 4) 0 ar sc kL9 _ _ hP hS ls (lv_sub hl [2, 1, 0, 3] rfl) (fun H locs ls hP hS hl => ?_)
  have hv : (((g_Route_fillStops_9 200 0 (sc 4) 0 ar sc).2.2.2.1, (g_Route_fillStops_9 200 0 (sc 4) 0 ar sc).2.2.2.2) : (Nat → Nat → Int32) × (Nat → Int32)) = f_Route_fillStops ar sc  := by rw [f_Route_fillStops]
  exact W.vret hx hb hr (fun t ht hW => ⟨⟨((g_Route_fillStops_9 200 0 (sc 4) 0 ar sc).2.2.2.1, (g_Route_fillStops_9 200 0 (sc 4) 0 ar sc).2.2.2.2), rfl, hv, by dsimp only; rw [ht]; exact hP⟩, hS.F ht⟩) hS.2.2 d_Route_fillStops_48
set_option maxHeartbeats 1000000 in
theorem r_Route_fillStops {p : Program} {l : Launch} {e : Env} {R : Room} {s : State} {m : MethodId} {args : Array Value} {below : List Frame} {meth : Method} {c : Code} {H : Heap} {locs : List Loc} {cells slots : Nat} {Q : State → Prop} {cc : ByteArray} {nL pc idx : Nat} {ls : Array Slot} {rest : List Value} {own : String} {dC : Nat → ClassId} {dI : Nat → Nat → Nat} {L : Nat → Nat} {cA : Nat → ClassId} {ar : Nat → Nat → Int32} {sc : Nat → Int32} {H0 : Heap}  (hF : CallFix p m c cc nL s args w_all own) (hK : kW_I dC dI cA s) (hP : va_P (dC, dI) classes (wI L cA ar sc) H) (hL : ij 38 L) (hS : va_S (aI L) H0 H locs) (h : p_Route_fillStops ar sc ) (hlk : Cond.methodLink own idx y_Route_fillStops ∈ w_all) (hsz : ls.size = nL) (hR : (rmD 2).frames + 1 ≤ R.frames ∧ 8 + (4 + 11) + (rmD 2).locals ≤ R.locals) (hc : cells ≤ R.cells ∧ slots ≤ R.slots) (hrs : (rest.map fun v => v.category).sum ≤ 8) (hdg : decode cc pc = .ok (.invokevirtual idx, 3)) (kk : ∀ (H1 : Heap) (locs1 : List Loc), va_P (dC, dI) classes (wI L cA ((f_Route_fillStops ar sc ).1) ((f_Route_fillStops ar sc ).2)) H1 → va_S (aI L) H0 H1 locs1 → W p l e R s m args below meth c H1 locs1 cells slots Q (F0 m (pc + 3) ls (rest))) : W p l e R s m args below meth c H locs cells slots Q (F0 m pc ls (.ref (L 23) :: rest)) :=
  va_callv (va_runV (As := []) (rest := rest) hF (c_Route_fillStops l dC dI L cA ar sc  hL h) (cwV 0 hF.2.2.2.2 (gV hlk m_119 m_120 m_94 m_121) rfl rfl rfl (by decide +kernel) hR) ⟨xb_I, va_recv hK.1 hP (ci := 5) (q0 := 23) rfl rfl, fun U hU hW => ⟨rfl, by rw [hU]; exact hP, kW_I_warm hW hK⟩⟩ rfl rfl hsz rfl (lv_room hrs) hdg hc) hS (fun q _ h9 => h9) (fun q h9 => h9) (fun u t H1 locs1 ht hvm hw hB hz1 hk1 hS1 => by
    have hk9 := kk H1 locs1 (by rw [← hw, ← ht]; exact hB) hS1
    exact hk9)
theorem d_Route_findLeast_0 : decode b_Route_findLeast 0 = .ok (.aload_n 0, 1) := by decide +kernel
theorem d_Route_findLeast_1 : decode b_Route_findLeast 1 = .ok (.getfield 15, 3) := by decide +kernel
theorem d_Route_findLeast_4 : decode b_Route_findLeast 4 = .ok (.iload_n 1, 1) := by decide +kernel
theorem d_Route_findLeast_5 : decode b_Route_findLeast 5 = .ok (.iconst 0, 1) := by decide +kernel
theorem d_Route_findLeast_6 : decode b_Route_findLeast 6 = .ok (.iastore, 1) := by decide +kernel
theorem d_Route_findLeast_7 : decode b_Route_findLeast 7 = .ok (.aload_n 0, 1) := by decide +kernel
theorem d_Route_findLeast_8 : decode b_Route_findLeast 8 = .ok (.getfield 18, 3) := by decide +kernel
theorem d_Route_findLeast_11 : decode b_Route_findLeast 11 = .ok (.iload_n 1, 1) := by decide +kernel
theorem d_Route_findLeast_12 : decode b_Route_findLeast 12 = .ok (.iconst 0, 1) := by decide +kernel
theorem d_Route_findLeast_13 : decode b_Route_findLeast 13 = .ok (.iastore, 1) := by decide +kernel
theorem d_Route_findLeast_14 : decode b_Route_findLeast 14 = .ok (.aload_n 0, 1) := by decide +kernel
theorem d_Route_findLeast_15 : decode b_Route_findLeast 15 = .ok (.iload_n 1, 1) := by decide +kernel
theorem d_Route_findLeast_16 : decode b_Route_findLeast 16 = .ok (.putfield 30, 3) := by decide +kernel
theorem d_Route_findLeast_19 : decode b_Route_findLeast 19 = .ok (.aload_n 0, 1) := by decide +kernel
theorem d_Route_findLeast_20 : decode b_Route_findLeast 20 = .ok (.invokevirtual 34, 3) := by decide +kernel
theorem d_Route_findLeast_23 : decode b_Route_findLeast 23 = .ok (.aload_n 0, 1) := by decide +kernel
theorem d_Route_findLeast_24 : decode b_Route_findLeast 24 = .ok (.invokevirtual 37, 3) := by decide +kernel
theorem d_Route_findLeast_27 : decode b_Route_findLeast 27 = .ok (.aload_n 0, 1) := by decide +kernel
theorem d_Route_findLeast_28 : decode b_Route_findLeast 28 = .ok (.invokevirtual 40, 3) := by decide +kernel
theorem d_Route_findLeast_31 : decode b_Route_findLeast 31 = .ok (.aload_n 0, 1) := by decide +kernel
theorem d_Route_findLeast_32 : decode b_Route_findLeast 32 = .ok (.getfield 24, 3) := by decide +kernel
theorem d_Route_findLeast_35 : decode b_Route_findLeast 35 = .ok (.aload_n 0, 1) := by decide +kernel
theorem d_Route_findLeast_36 : decode b_Route_findLeast 36 = .ok (.getfield 30, 3) := by decide +kernel
theorem d_Route_findLeast_39 : decode b_Route_findLeast 39 = .ok (.iaload, 1) := by decide +kernel
theorem d_Route_findLeast_40 : decode b_Route_findLeast 40 = .ok (.ireturn, 1) := by decide +kernel
set_option maxHeartbeats 4000000 in
set_option maxRecDepth 100000 in
theorem c_Route_findLeast (l : Launch) (dC : Nat → ClassId) (dI : Nat → Nat → Nat) (L : Nat → Nat) (cA : Nat → ClassId) (ar : Nat → Nat → Int32) (sc : Nat → Int32) (a0 : Int32) (hL : ij 38 L) (h : p_Route_findLeast ar sc a0) : Met l y_Route_findLeast z_Route_findLeast (rmD 3) (va_Pc [.ref (L 23), .int a0] (fun U => xw_I dC dI L cA ar sc U)) (va_Qi (fun (r : Int32) (u : oS) => (r, u.1, u.2) = f_Route_findLeast ar sc a0) (fun u t => va_P (dC, dI) classes (wI L cA u.1 u.2) t.heap) (aI L)) 0 0 (aI L) := by
  refine Met.ofW (cc := b_Route_findLeast) (maxL := 2) (ret := (some .int)) (by decide) rfl ?_
  intro p e s m args below meth c s₁ B hml hv
  obtain ⟨rfl, ⟨hP, hK⟩⟩ := hv
  have hx := B.exec
  have hb := B.bytes
  have hr := B.returns
  have hts : ∀ w ∈ w_all, w.before _ s = true := fun w hw => atoms_spec (ws := z_Route_findLeast) B.pre w (List.mem_cons_of_mem _ hw)
  have hown : s.vm.findClass R_Route = some m.cls := findClass_of_methodNamed B.named
  have hlocks := B.notSynchronized
  have hF : CallFix p m c b_Route_findLeast 2 s _ w_all R_Route := ⟨hx, hb, hml, hown, hts⟩
  have hS : va_S (aI L) s.heap s.heap [] := va_S.rf
  have hl := lv_entry ([.ref (L 23), .int a0]) (n := 2) (Nat.le_of_ble_eq_true rfl)
  rw [lg_entry_eq]
  generalize (lg_sl ([.ref (L 23), .int a0]) ++ List.replicate (2 - (lg_sl ([.ref (L 23), .int a0])).length) Slot.unset).toArray = ls at hl ⊢
  have hl : lv_has ls 2 [(0, .ref (L 23)), (1, .int a0)] := hl
  unfold p_Route_findLeast at h
  refine lv_aload_n hx hb d_Route_findLeast_0 rfl (lv_at hl 0 rfl) ?_
  refine gf_Route_xs hF hK hP m_103 d_Route_findLeast_1 ?_
  refine lv_iload_n hx hb d_Route_findLeast_4 rfl (lv_at hl 1 rfl) ?_
  refine lv_iconst (v := 0) hx hb d_Route_findLeast_5 (by decide) ?_
  have k6 := h.1
  have h := h.2
  refine asI_25 hF hK hP hL hS k6 d_Route_findLeast_6 (fun H locs hP hS => ?_)
  refine lv_aload_n hx hb d_Route_findLeast_7 rfl (lv_at hl 0 rfl) ?_
  refine gf_Route_ys hF hK hP m_104 d_Route_findLeast_8 ?_
  refine lv_iload_n hx hb d_Route_findLeast_11 rfl (lv_at hl 1 rfl) ?_
  refine lv_iconst (v := 0) hx hb d_Route_findLeast_12 (by decide) ?_
  have k13 := h.1
  have h := h.2
  refine asI_26 hF hK hP hL hS k13 d_Route_findLeast_13 (fun H locs hP hS => ?_)
  refine lv_aload_n hx hb d_Route_findLeast_14 rfl (lv_at hl 0 rfl) ?_
  refine lv_iload_n hx hb d_Route_findLeast_15 rfl (lv_at hl 1 rfl) ?_
  refine pf_Route_count hF hK hP hL hS m_96 d_Route_findLeast_16 (fun H locs hP hS => ?_)
  refine lv_aload_n hx hb d_Route_findLeast_19 rfl (lv_at hl 0 rfl) ?_
  have k20 := h.1
  have h := h.2
  refine r_Route_fillLegs hF hK hP hL hS k20 m_122 hl.1 ⟨Nat.le_of_ble_eq_true rfl, Nat.le_of_ble_eq_true rfl⟩ ⟨Nat.zero_le _, Nat.zero_le _⟩ (Nat.le_of_ble_eq_true rfl) d_Route_findLeast_20 (fun H locs hP hS => ?_)
  refine lv_aload_n hx hb d_Route_findLeast_23 rfl (lv_at hl 0 rfl) ?_
  have k24 := h.1
  have h := h.2
  refine r_Route_fillLeastHome hF hK hP hL hS k24 m_123 hl.1 ⟨Nat.le_of_ble_eq_true rfl, Nat.le_of_ble_eq_true rfl⟩ ⟨Nat.zero_le _, Nat.zero_le _⟩ (Nat.le_of_ble_eq_true rfl) d_Route_findLeast_24 (fun H locs hP hS => ?_)
  refine lv_aload_n hx hb d_Route_findLeast_27 rfl (lv_at hl 0 rfl) ?_
  have k28 := h.1
  have h := h.2
  refine r_Route_fillStops hF hK hP hL hS k28 m_124 hl.1 ⟨Nat.le_of_ble_eq_true rfl, Nat.le_of_ble_eq_true rfl⟩ ⟨Nat.zero_le _, Nat.zero_le _⟩ (Nat.le_of_ble_eq_true rfl) d_Route_findLeast_28 (fun H locs hP hS => ?_)
  refine lv_aload_n hx hb d_Route_findLeast_31 rfl (lv_at hl 0 rfl) ?_
  refine gf_Route_leastHome hF hK hP m_91 d_Route_findLeast_32 ?_
  refine lv_aload_n hx hb d_Route_findLeast_35 rfl (lv_at hl 0 rfl) ?_
  refine gf_Route_count hF hK hP m_96 d_Route_findLeast_36 ?_
  have k39 := h
  refine alI_28 hF hK hP k39 d_Route_findLeast_39 ?_
  have hv : ((((f_Route_fillStops ((f_Route_fillLeastHome ((f_Route_fillLegs (s2 (s2 ar 25 a0.toNatClampNeg 0) 26 a0.toNatClampNeg 0) (sg sc 4 a0) ).1) ((f_Route_fillLegs (s2 (s2 ar 25 a0.toNatClampNeg 0) 26 a0.toNatClampNeg 0) (sg sc 4 a0) ).2) ).1) ((f_Route_fillLeastHome ((f_Route_fillLegs (s2 (s2 ar 25 a0.toNatClampNeg 0) 26 a0.toNatClampNeg 0) (sg sc 4 a0) ).1) ((f_Route_fillLegs (s2 (s2 ar 25 a0.toNatClampNeg 0) 26 a0.toNatClampNeg 0) (sg sc 4 a0) ).2) ).2) ).1) 28 ((((f_Route_fillStops ((f_Route_fillLeastHome ((f_Route_fillLegs (s2 (s2 ar 25 a0.toNatClampNeg 0) 26 a0.toNatClampNeg 0) (sg sc 4 a0) ).1) ((f_Route_fillLegs (s2 (s2 ar 25 a0.toNatClampNeg 0) 26 a0.toNatClampNeg 0) (sg sc 4 a0) ).2) ).1) ((f_Route_fillLeastHome ((f_Route_fillLegs (s2 (s2 ar 25 a0.toNatClampNeg 0) 26 a0.toNatClampNeg 0) (sg sc 4 a0) ).1) ((f_Route_fillLegs (s2 (s2 ar 25 a0.toNatClampNeg 0) 26 a0.toNatClampNeg 0) (sg sc 4 a0) ).2) ).2) ).2) 4).toNatClampNeg), (f_Route_fillStops ((f_Route_fillLeastHome ((f_Route_fillLegs (s2 (s2 ar 25 a0.toNatClampNeg 0) 26 a0.toNatClampNeg 0) (sg sc 4 a0) ).1) ((f_Route_fillLegs (s2 (s2 ar 25 a0.toNatClampNeg 0) 26 a0.toNatClampNeg 0) (sg sc 4 a0) ).2) ).1) ((f_Route_fillLeastHome ((f_Route_fillLegs (s2 (s2 ar 25 a0.toNatClampNeg 0) 26 a0.toNatClampNeg 0) (sg sc 4 a0) ).1) ((f_Route_fillLegs (s2 (s2 ar 25 a0.toNatClampNeg 0) 26 a0.toNatClampNeg 0) (sg sc 4 a0) ).2) ).2) ).1, (f_Route_fillStops ((f_Route_fillLeastHome ((f_Route_fillLegs (s2 (s2 ar 25 a0.toNatClampNeg 0) 26 a0.toNatClampNeg 0) (sg sc 4 a0) ).1) ((f_Route_fillLegs (s2 (s2 ar 25 a0.toNatClampNeg 0) 26 a0.toNatClampNeg 0) (sg sc 4 a0) ).2) ).1) ((f_Route_fillLeastHome ((f_Route_fillLegs (s2 (s2 ar 25 a0.toNatClampNeg 0) 26 a0.toNatClampNeg 0) (sg sc 4 a0) ).1) ((f_Route_fillLegs (s2 (s2 ar 25 a0.toNatClampNeg 0) 26 a0.toNatClampNeg 0) (sg sc 4 a0) ).2) ).2) ).2) : Int32 × (Nat → Nat → Int32) × (Nat → Int32)) = f_Route_findLeast ar sc a0 := by rw [f_Route_findLeast]
  exact W.iret (v := ((f_Route_fillStops ((f_Route_fillLeastHome ((f_Route_fillLegs (s2 (s2 ar 25 a0.toNatClampNeg 0) 26 a0.toNatClampNeg 0) (sg sc 4 a0) ).1) ((f_Route_fillLegs (s2 (s2 ar 25 a0.toNatClampNeg 0) 26 a0.toNatClampNeg 0) (sg sc 4 a0) ).2) ).1) ((f_Route_fillLeastHome ((f_Route_fillLegs (s2 (s2 ar 25 a0.toNatClampNeg 0) 26 a0.toNatClampNeg 0) (sg sc 4 a0) ).1) ((f_Route_fillLegs (s2 (s2 ar 25 a0.toNatClampNeg 0) 26 a0.toNatClampNeg 0) (sg sc 4 a0) ).2) ).2) ).1) 28 ((((f_Route_fillStops ((f_Route_fillLeastHome ((f_Route_fillLegs (s2 (s2 ar 25 a0.toNatClampNeg 0) 26 a0.toNatClampNeg 0) (sg sc 4 a0) ).1) ((f_Route_fillLegs (s2 (s2 ar 25 a0.toNatClampNeg 0) 26 a0.toNatClampNeg 0) (sg sc 4 a0) ).2) ).1) ((f_Route_fillLeastHome ((f_Route_fillLegs (s2 (s2 ar 25 a0.toNatClampNeg 0) 26 a0.toNatClampNeg 0) (sg sc 4 a0) ).1) ((f_Route_fillLegs (s2 (s2 ar 25 a0.toNatClampNeg 0) 26 a0.toNatClampNeg 0) (sg sc 4 a0) ).2) ).2) ).2) 4).toNatClampNeg)) hx hb hr (fun t ht hW => ⟨⟨((f_Route_fillStops ((f_Route_fillLeastHome ((f_Route_fillLegs (s2 (s2 ar 25 a0.toNatClampNeg 0) 26 a0.toNatClampNeg 0) (sg sc 4 a0) ).1) ((f_Route_fillLegs (s2 (s2 ar 25 a0.toNatClampNeg 0) 26 a0.toNatClampNeg 0) (sg sc 4 a0) ).2) ).1) ((f_Route_fillLeastHome ((f_Route_fillLegs (s2 (s2 ar 25 a0.toNatClampNeg 0) 26 a0.toNatClampNeg 0) (sg sc 4 a0) ).1) ((f_Route_fillLegs (s2 (s2 ar 25 a0.toNatClampNeg 0) 26 a0.toNatClampNeg 0) (sg sc 4 a0) ).2) ).2) ).1) 28 ((((f_Route_fillStops ((f_Route_fillLeastHome ((f_Route_fillLegs (s2 (s2 ar 25 a0.toNatClampNeg 0) 26 a0.toNatClampNeg 0) (sg sc 4 a0) ).1) ((f_Route_fillLegs (s2 (s2 ar 25 a0.toNatClampNeg 0) 26 a0.toNatClampNeg 0) (sg sc 4 a0) ).2) ).1) ((f_Route_fillLeastHome ((f_Route_fillLegs (s2 (s2 ar 25 a0.toNatClampNeg 0) 26 a0.toNatClampNeg 0) (sg sc 4 a0) ).1) ((f_Route_fillLegs (s2 (s2 ar 25 a0.toNatClampNeg 0) 26 a0.toNatClampNeg 0) (sg sc 4 a0) ).2) ).2) ).2) 4).toNatClampNeg), ((f_Route_fillStops ((f_Route_fillLeastHome ((f_Route_fillLegs (s2 (s2 ar 25 a0.toNatClampNeg 0) 26 a0.toNatClampNeg 0) (sg sc 4 a0) ).1) ((f_Route_fillLegs (s2 (s2 ar 25 a0.toNatClampNeg 0) 26 a0.toNatClampNeg 0) (sg sc 4 a0) ).2) ).1) ((f_Route_fillLeastHome ((f_Route_fillLegs (s2 (s2 ar 25 a0.toNatClampNeg 0) 26 a0.toNatClampNeg 0) (sg sc 4 a0) ).1) ((f_Route_fillLegs (s2 (s2 ar 25 a0.toNatClampNeg 0) 26 a0.toNatClampNeg 0) (sg sc 4 a0) ).2) ).2) ).1, (f_Route_fillStops ((f_Route_fillLeastHome ((f_Route_fillLegs (s2 (s2 ar 25 a0.toNatClampNeg 0) 26 a0.toNatClampNeg 0) (sg sc 4 a0) ).1) ((f_Route_fillLegs (s2 (s2 ar 25 a0.toNatClampNeg 0) 26 a0.toNatClampNeg 0) (sg sc 4 a0) ).2) ).1) ((f_Route_fillLeastHome ((f_Route_fillLegs (s2 (s2 ar 25 a0.toNatClampNeg 0) 26 a0.toNatClampNeg 0) (sg sc 4 a0) ).1) ((f_Route_fillLegs (s2 (s2 ar 25 a0.toNatClampNeg 0) 26 a0.toNatClampNeg 0) (sg sc 4 a0) ).2) ).2) ).2), rfl, hv, by dsimp only; rw [ht]; exact hP⟩, hS.F ht⟩) hS.2.2 d_Route_findLeast_40
set_option maxHeartbeats 1000000 in
theorem r_Route_findLeast {p : Program} {l : Launch} {e : Env} {R : Room} {s : State} {m : MethodId} {args : Array Value} {below : List Frame} {meth : Method} {c : Code} {H : Heap} {locs : List Loc} {cells slots : Nat} {Q : State → Prop} {cc : ByteArray} {nL pc idx : Nat} {ls : Array Slot} {rest : List Value} {own : String} {dC : Nat → ClassId} {dI : Nat → Nat → Nat} {L : Nat → Nat} {cA : Nat → ClassId} {ar : Nat → Nat → Int32} {sc : Nat → Int32} {H0 : Heap} {a0 : Int32} (hF : CallFix p m c cc nL s args w_all own) (hK : kW_I dC dI cA s) (hP : va_P (dC, dI) classes (wI L cA ar sc) H) (hL : ij 38 L) (hS : va_S (aI L) H0 H locs) (h : p_Route_findLeast ar sc a0) (hlk : Cond.methodLink own idx y_Route_findLeast ∈ w_all) (hsz : ls.size = nL) (hR : (rmD 3).frames + 1 ≤ R.frames ∧ 8 + (2 + 11) + (rmD 3).locals ≤ R.locals) (hc : cells ≤ R.cells ∧ slots ≤ R.slots) (hrs : (rest.map fun v => v.category).sum ≤ 8) (hdg : decode cc pc = .ok (.invokevirtual idx, 3)) (kk : ∀ (H1 : Heap) (locs1 : List Loc), va_P (dC, dI) classes (wI L cA ((f_Route_findLeast ar sc a0).2.1) ((f_Route_findLeast ar sc a0).2.2)) H1 → va_S (aI L) H0 H1 locs1 → W p l e R s m args below meth c H1 locs1 cells slots Q (F0 m (pc + 3) ls (.int (f_Route_findLeast ar sc a0).1 :: rest))) : W p l e R s m args below meth c H locs cells slots Q (F0 m pc ls (.int a0 :: .ref (L 23) :: rest)) :=
  va_calli (va_runV (As := [.int a0]) (rest := rest) hF (c_Route_findLeast l dC dI L cA ar sc a0 hL h) (cwV 1 hF.2.2.2.2 (gV hlk m_125 m_126 m_94 m_127) rfl rfl rfl (by decide +kernel) hR) ⟨xb_I, va_recv hK.1 hP (ci := 5) (q0 := 23) rfl rfl, fun U hU hW => ⟨rfl, by rw [hU]; exact hP, kW_I_warm hW hK⟩⟩ rfl rfl hsz rfl (lv_room hrs) hdg hc) hS (fun q _ h9 => h9) (fun q h9 => h9) (fun r u t H1 locs1 ht hvm hw hB hz1 hk1 hS1 => by
    have hk9 := kk H1 locs1 (by rw [← hw, ← ht]; exact hB) hS1
    rw [← hw] at hk9
    exact hk9)

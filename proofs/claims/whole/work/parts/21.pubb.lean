theorem m_444 : (Cond.methodLink R_Ir 112 y_Ir_isFinding) ∈ w_all := List.mem_filter.mpr ⟨List.mem_of_getElem? (i := 501) (by decide +kernel), by decide +kernel⟩
theorem m_445 : (Cond.methodLink R_Ir 115 y_Findings_isOpen) ∈ w_all := List.mem_filter.mpr ⟨List.mem_of_getElem? (i := 505) (by decide +kernel), by decide +kernel⟩
theorem m_446 : (Cond.methodLink R_Ir 118 y_Ir_requireState) ∈ w_all := List.mem_filter.mpr ⟨List.mem_of_getElem? (i := 506) (by decide +kernel), by decide +kernel⟩
theorem m_447 : (Cond.methodLink R_Ir 126 y_Findings_isMissed) ∈ w_all := List.mem_filter.mpr ⟨List.mem_of_getElem? (i := 532) (by decide +kernel), by decide +kernel⟩
theorem m_448 : (Cond.methodLink R_Ir 142 y_Findings_countOpen) ∈ w_all := List.mem_filter.mpr ⟨List.mem_of_getElem? (i := 544) (by decide +kernel), by decide +kernel⟩
theorem m_449 : (Cond.methodLink R_Ir 145 y_Ir_countDueAhead) ∈ w_all := List.mem_filter.mpr ⟨List.mem_of_getElem? (i := 555) (by decide +kernel), by decide +kernel⟩
theorem m_450 : (Cond.methodLink R_Ir 149 y_Ir_canLead) ∈ w_all := List.mem_filter.mpr ⟨List.mem_of_getElem? (i := 570) (by decide +kernel), by decide +kernel⟩
theorem m_451 : (Cond.methodLink R_Ir 152 y_Questions_tell) ∈ w_all := List.mem_filter.mpr ⟨List.mem_of_getElem? (i := 573) (by decide +kernel), by decide +kernel⟩
theorem m_452 : (Cond.methodLink R_Ir 156 y_Questions_answer) ∈ w_all := List.mem_filter.mpr ⟨List.mem_of_getElem? (i := 584) (by decide +kernel), by decide +kernel⟩
theorem m_453 : (Cond.methodLink R_Ir 187 y_Route_tell) ∈ w_all := List.mem_filter.mpr ⟨List.mem_of_getElem? (i := 608) (by decide +kernel), by decide +kernel⟩
theorem m_454 : (Cond.methodLink R_Ir 165 Lib.Math.min.name) ∈ w_all := List.mem_filter.mpr ⟨List.mem_of_getElem? (i := 595) (by decide +kernel), by decide +kernel⟩
theorem m_455 : (Cond.static Lib.Math.min.name) ∈ w_all := List.mem_filter.mpr ⟨List.mem_of_getElem? (i := 596) (by decide +kernel), by decide +kernel⟩
theorem m_456 : (Cond.code Lib.Math.min.name Lib.Math.min.code 2 (some .int)) ∈ w_all := List.mem_filter.mpr ⟨List.mem_of_getElem? (i := 597) (by decide +kernel), by decide +kernel⟩
theorem m_457 : (Cond.methodLink R_Ir 170 y_Ir_areAllPoints) ∈ w_all := List.mem_filter.mpr ⟨List.mem_of_getElem? (i := 598) (by decide +kernel), by decide +kernel⟩
theorem m_458 : (Cond.methodLink R_Ir 174 y_Ir_areAllDifferent) ∈ w_all := List.mem_filter.mpr ⟨List.mem_of_getElem? (i := 605) (by decide +kernel), by decide +kernel⟩
theorem m_459 : (Cond.methodLink R_Ir 188 y_Route_findLeast) ∈ w_all := List.mem_filter.mpr ⟨List.mem_of_getElem? (i := 612) (by decide +kernel), by decide +kernel⟩
theorem mn_10 : (Cond.fieldLinkNest R_Ir 121 "InspectRows$Findings" "proofs" "[I" "InspectRows") ∈ nw_all := List.mem_filter.mpr ⟨List.mem_of_getElem? (i := 123) (by decide +kernel), by decide +kernel⟩
theorem mn_11 : (Cond.fieldLinkNest R_Ir 130 "InspectRows$Findings" "days" "[I" "InspectRows") ∈ nw_all := List.mem_filter.mpr ⟨List.mem_of_getElem? (i := 121) (by decide +kernel), by decide +kernel⟩
theorem mn_12 : (Cond.fieldLinkNest R_Ir 159 "InspectRows$Questions" "foundCount" "I" "InspectRows") ∈ nw_all := List.mem_filter.mpr ⟨List.mem_of_getElem? (i := 150) (by decide +kernel), by decide +kernel⟩
theorem mn_13 : (Cond.fieldLinkNest R_Ir 162 "InspectRows$Questions" "found" "[I" "InspectRows") ∈ nw_all := List.mem_filter.mpr ⟨List.mem_of_getElem? (i := 148) (by decide +kernel), by decide +kernel⟩
theorem mn_14 : (Cond.fieldLinkNest R_Ir 181 "InspectRows$Points" "xs" "[I" "InspectRows") ∈ nw_all := List.mem_filter.mpr ⟨List.mem_of_getElem? (i := 91) (by decide +kernel), by decide +kernel⟩
theorem mn_15 : (Cond.fieldLinkNest R_Ir 184 "InspectRows$Points" "ys" "[I" "InspectRows") ∈ nw_all := List.mem_filter.mpr ⟨List.mem_of_getElem? (i := 93) (by decide +kernel), by decide +kernel⟩
theorem d_Ir_done_0 : decode b_Ir_done 0 = .ok (.aload_n 0, 1) := by decide +kernel
theorem d_Ir_done_1 : decode b_Ir_done 1 = .ok (.iload_n 1, 1) := by decide +kernel
theorem d_Ir_done_2 : decode b_Ir_done 2 = .ok (.invokevirtual 112, 3) := by decide +kernel
theorem d_Ir_done_5 : decode b_Ir_done 5 = .ok (.invokestatic 63, 3) := by decide +kernel
theorem d_Ir_done_8 : decode b_Ir_done 8 = .ok (.iload_n 2, 1) := by decide +kernel
theorem d_Ir_done_9 : decode b_Ir_done 9 = .ok (.iconst 1, 1) := by decide +kernel
theorem d_Ir_done_10 : decode b_Ir_done 10 = .ok (.sipush 9999, 3) := by decide +kernel
theorem d_Ir_done_13 : decode b_Ir_done 13 = .ok (.invokestatic 67, 3) := by decide +kernel
theorem d_Ir_done_16 : decode b_Ir_done 16 = .ok (.invokestatic 71, 3) := by decide +kernel
theorem d_Ir_done_19 : decode b_Ir_done 19 = .ok (.aload_n 0, 1) := by decide +kernel
theorem d_Ir_done_20 : decode b_Ir_done 20 = .ok (.getfield 26, 3) := by decide +kernel
theorem d_Ir_done_23 : decode b_Ir_done 23 = .ok (.iload_n 1, 1) := by decide +kernel
theorem d_Ir_done_24 : decode b_Ir_done 24 = .ok (.invokevirtual 115, 3) := by decide +kernel
theorem d_Ir_done_27 : decode b_Ir_done 27 = .ok (.invokestatic 118, 3) := by decide +kernel
theorem d_Ir_done_30 : decode b_Ir_done 30 = .ok (.aload_n 0, 1) := by decide +kernel
theorem d_Ir_done_31 : decode b_Ir_done 31 = .ok (.getfield 26, 3) := by decide +kernel
theorem d_Ir_done_34 : decode b_Ir_done 34 = .ok (.getfield 121, 3) := by decide +kernel
theorem d_Ir_done_37 : decode b_Ir_done 37 = .ok (.iload_n 1, 1) := by decide +kernel
theorem d_Ir_done_38 : decode b_Ir_done 38 = .ok (.iload_n 2, 1) := by decide +kernel
theorem d_Ir_done_39 : decode b_Ir_done 39 = .ok (.iastore, 1) := by decide +kernel
theorem d_Ir_done_40 : decode b_Ir_done 40 = .ok (.return_, 1) := by decide +kernel
set_option maxHeartbeats 4000000 in
set_option maxRecDepth 100000 in
theorem c_Ir_done (l : Launch) (hlt : l.stackTraces = false) (sa : Nat → Nat) (dC : Nat → ClassId) (dI : Nat → Nat → Nat) (L : Nat → Nat) (cA : Nat → ClassId) (ar : Nat → Nat → Int32) (sc : Nat → Int32) (a0 : Int32) (a1 : Int32) (hL : ij 38 L) (h : p_Ir_done ar sc a0 a1) : th_Both l y_Ir_done z_Ir_done (rmX 8) (va_Pc [.ref (L 0), .int a0, .int a1] (fun U => xw_I dC dI L cA ar sc U ∧ xz_I L sa U)) (va_Qv (fun u : oS => (none, 0, u.1, u.2) = f_Ir_done ar sc a0 a1) (fun u t => va_P (dC, dI) classes (wI L cA u.1 u.2) t.heap) (aI L)) (xC_I dC dI L cA (f_Ir_done ar sc a0 a1)) 1 6 (aI L) := by
  refine th_ofW (cc := b_Ir_done) (maxL := 3) (ret := none) (by decide) rfl ?_
  intro p e s m args below meth c s₁ B hml hnx hv
  obtain ⟨rfl, ⟨hP, hK⟩, hz⟩ := hv
  have hx := B.exec
  have hb := B.bytes
  have hr := B.returns
  have hts : ∀ w ∈ w_all, w.before _ s = true := fun w hw => atoms_spec (ws := z_Ir_done) B.pre w (List.mem_cons_of_mem _ hw)
  have hown : s.vm.findClass R_Ir = some m.cls := findClass_of_methodNamed B.named
  have hlocks := B.notSynchronized
  have hF : CallFix p m c b_Ir_done 3 s _ w_all R_Ir := ⟨hx, hb, hml, hown, hts⟩
  have hS : va_S (aI L) s.heap s.heap [] := va_S.rf
  have hl := lv_entry ([.ref (L 0), .int a0, .int a1]) (n := 3) (Nat.le_of_ble_eq_true rfl)
  rw [lg_entry_eq]
  generalize (lg_sl ([.ref (L 0), .int a0, .int a1]) ++ List.replicate (3 - (lg_sl ([.ref (L 0), .int a0, .int a1])).length) Slot.unset).toArray = ls at hl ⊢
  have hl : lv_has ls 3 [(0, .ref (L 0)), (1, .int a0), (2, .int a1)] := hl
  unfold p_Ir_done at h
  refine lv_aload_n hx hb d_Ir_done_0 rfl (lv_at hl 0 rfl) ?_
  refine lv_iload_n hx hb d_Ir_done_1 rfl (lv_at hl 1 rfl) ?_
  refine r_Ir_isFinding hF hK hP m_444 hl.1 ⟨Nat.le_of_ble_eq_true rfl, Nat.le_of_ble_eq_true rfl⟩ ⟨Nat.zero_le _, Nat.zero_le _⟩ (Nat.le_of_ble_eq_true rfl) d_Ir_done_2 ?_
  refine rq_requireKnown hF hK hlt hz hS hl.1 hlocks hnx m_436 ⟨Nat.le_of_ble_eq_true rfl, Nat.le_of_ble_eq_true rfl⟩ ⟨Nat.le_refl _, Nat.le_refl _⟩ d_Ir_done_5 (fun c5 => xc_I hP hS (by rw [f_Ir_done, if_pos c5])) (fun c5 => ?_)
  have h := h c5
  refine lv_iload_n hx hb d_Ir_done_8 rfl (lv_at hl 2 rfl) ?_
  refine lv_iconst (v := 1) hx hb d_Ir_done_9 (by decide) ?_
  refine lv_sipush (v := 9999) hx hb d_Ir_done_10 (by decide) ?_
  refine r_Ir_isWithin hF m_131 hl.1 ⟨Nat.le_of_ble_eq_true rfl, Nat.le_of_ble_eq_true rfl⟩ ⟨Nat.zero_le _, Nat.zero_le _⟩ (Nat.le_of_ble_eq_true rfl) d_Ir_done_13 ?_
  refine rq_requireRange hF hK hlt hz hS hl.1 hlocks hnx m_437 ⟨Nat.le_of_ble_eq_true rfl, Nat.le_of_ble_eq_true rfl⟩ ⟨Nat.le_refl _, Nat.le_refl _⟩ d_Ir_done_16 (fun c16 => xc_I hP hS (by rw [f_Ir_done, if_neg c5, if_pos c16])) (fun c16 => ?_)
  have h := h c16
  refine lv_aload_n hx hb d_Ir_done_19 rfl (lv_at hl 0 rfl) ?_
  refine gf_Ir_findings hF hK hP m_138 d_Ir_done_20 ?_
  refine lv_iload_n hx hb d_Ir_done_23 rfl (lv_at hl 1 rfl) ?_
  have k24 := h.1
  have h := h.2
  refine r_Findings_isOpen hF hK hP k24 m_445 hl.1 ⟨Nat.le_of_ble_eq_true rfl, Nat.le_of_ble_eq_true rfl⟩ ⟨Nat.zero_le _, Nat.zero_le _⟩ (Nat.le_of_ble_eq_true rfl) d_Ir_done_24 ?_
  refine rq_requireState hF hK hlt hz hS hl.1 hlocks hnx m_446 ⟨Nat.le_of_ble_eq_true rfl, Nat.le_of_ble_eq_true rfl⟩ ⟨Nat.le_refl _, Nat.le_refl _⟩ d_Ir_done_27 (fun c27 => xc_I hP hS (by rw [f_Ir_done, if_neg c5, if_neg c16, if_pos c27])) (fun c27 => ?_)
  have h := h c27
  refine lv_aload_n hx hb d_Ir_done_30 rfl (lv_at hl 0 rfl) ?_
  refine gf_Ir_findings hF hK hP m_138 d_Ir_done_31 ?_
  refine gn_Findings_proofs hF hK hP mn_10 d_Ir_done_34 ?_
  refine lv_iload_n hx hb d_Ir_done_37 rfl (lv_at hl 1 rfl) ?_
  refine lv_iload_n hx hb d_Ir_done_38 rfl (lv_at hl 2 rfl) ?_
  have k39 := h
  refine asI_16 hF hK hP hL hS k39 d_Ir_done_39 (fun H locs hP hS => ?_)
  have hv : ((none, 0, s2 ar 16 a0.toNatClampNeg a1, sc) : Option String × Int32 × (Nat → Nat → Int32) × (Nat → Int32)) = f_Ir_done ar sc a0 a1 := by rw [f_Ir_done, if_neg c5, if_neg c16, if_neg c27]
  exact W.widen (k := 1) (n := 6) (Nat.zero_le _) (Nat.zero_le _) (th_ret (W.vret hx hb hr (fun t ht hW => ⟨⟨(s2 ar 16 a0.toNatClampNeg a1, sc), rfl, hv, by dsimp only; rw [ht]; exact hP⟩, hS.F ht⟩) hS.2.2 d_Ir_done_40))
theorem d_Ir_findingAt_0 : decode b_Ir_findingAt 0 = .ok (.aload_n 0, 1) := by decide +kernel
theorem d_Ir_findingAt_1 : decode b_Ir_findingAt 1 = .ok (.iload_n 1, 1) := by decide +kernel
theorem d_Ir_findingAt_2 : decode b_Ir_findingAt 2 = .ok (.invokevirtual 112, 3) := by decide +kernel
theorem d_Ir_findingAt_5 : decode b_Ir_findingAt 5 = .ok (.ifCond .eq 16, 3) := by decide +kernel
theorem d_Ir_findingAt_8 : decode b_Ir_findingAt 8 = .ok (.iload_n 2, 1) := by decide +kernel
theorem d_Ir_findingAt_9 : decode b_Ir_findingAt 9 = .ok (.iconst 0, 1) := by decide +kernel
theorem d_Ir_findingAt_10 : decode b_Ir_findingAt 10 = .ok (.iconst 4, 1) := by decide +kernel
theorem d_Ir_findingAt_11 : decode b_Ir_findingAt 11 = .ok (.invokestatic 67, 3) := by decide +kernel
theorem d_Ir_findingAt_14 : decode b_Ir_findingAt 14 = .ok (.ifCond .eq 7, 3) := by decide +kernel
theorem d_Ir_findingAt_17 : decode b_Ir_findingAt 17 = .ok (.iconst 1, 1) := by decide +kernel
theorem d_Ir_findingAt_18 : decode b_Ir_findingAt 18 = .ok (.goto 4, 3) := by decide +kernel
theorem d_Ir_findingAt_21 : decode b_Ir_findingAt 21 = .ok (.iconst 0, 1) := by decide +kernel
theorem d_Ir_findingAt_22 : decode b_Ir_findingAt 22 = .ok (.invokestatic 63, 3) := by decide +kernel
theorem d_Ir_findingAt_25 : decode b_Ir_findingAt 25 = .ok (.iload_n 2, 1) := by decide +kernel
theorem d_Ir_findingAt_26 : decode b_Ir_findingAt 26 = .ok (.tableswitch 88 0 3 #[30, 40, 57, 78], 30) := by decide +kernel
theorem d_Ir_findingAt_56 : decode b_Ir_findingAt 56 = .ok (.aload_n 0, 1) := by decide +kernel
theorem d_Ir_findingAt_57 : decode b_Ir_findingAt 57 = .ok (.getfield 26, 3) := by decide +kernel
theorem d_Ir_findingAt_60 : decode b_Ir_findingAt 60 = .ok (.getfield 124, 3) := by decide +kernel
theorem d_Ir_findingAt_63 : decode b_Ir_findingAt 63 = .ok (.iload_n 1, 1) := by decide +kernel
theorem d_Ir_findingAt_64 : decode b_Ir_findingAt 64 = .ok (.iaload, 1) := by decide +kernel
theorem d_Ir_findingAt_65 : decode b_Ir_findingAt 65 = .ok (.ireturn, 1) := by decide +kernel
theorem d_Ir_findingAt_66 : decode b_Ir_findingAt 66 = .ok (.aload_n 0, 1) := by decide +kernel
theorem d_Ir_findingAt_67 : decode b_Ir_findingAt 67 = .ok (.getfield 26, 3) := by decide +kernel
theorem d_Ir_findingAt_70 : decode b_Ir_findingAt 70 = .ok (.iload_n 1, 1) := by decide +kernel
theorem d_Ir_findingAt_71 : decode b_Ir_findingAt 71 = .ok (.invokevirtual 115, 3) := by decide +kernel
theorem d_Ir_findingAt_74 : decode b_Ir_findingAt 74 = .ok (.ifCond .eq 7, 3) := by decide +kernel
theorem d_Ir_findingAt_77 : decode b_Ir_findingAt 77 = .ok (.iconst 1, 1) := by decide +kernel
theorem d_Ir_findingAt_78 : decode b_Ir_findingAt 78 = .ok (.goto 4, 3) := by decide +kernel
theorem d_Ir_findingAt_81 : decode b_Ir_findingAt 81 = .ok (.iconst 0, 1) := by decide +kernel
theorem d_Ir_findingAt_82 : decode b_Ir_findingAt 82 = .ok (.ireturn, 1) := by decide +kernel
theorem d_Ir_findingAt_83 : decode b_Ir_findingAt 83 = .ok (.aload_n 0, 1) := by decide +kernel
theorem d_Ir_findingAt_84 : decode b_Ir_findingAt 84 = .ok (.getfield 26, 3) := by decide +kernel
theorem d_Ir_findingAt_87 : decode b_Ir_findingAt 87 = .ok (.iload_n 1, 1) := by decide +kernel
theorem d_Ir_findingAt_88 : decode b_Ir_findingAt 88 = .ok (.aload_n 0, 1) := by decide +kernel
theorem d_Ir_findingAt_89 : decode b_Ir_findingAt 89 = .ok (.getfield 55, 3) := by decide +kernel
theorem d_Ir_findingAt_92 : decode b_Ir_findingAt 92 = .ok (.invokevirtual 126, 3) := by decide +kernel
theorem d_Ir_findingAt_95 : decode b_Ir_findingAt 95 = .ok (.ifCond .eq 7, 3) := by decide +kernel
theorem d_Ir_findingAt_98 : decode b_Ir_findingAt 98 = .ok (.iconst 1, 1) := by decide +kernel
theorem d_Ir_findingAt_99 : decode b_Ir_findingAt 99 = .ok (.goto 4, 3) := by decide +kernel
theorem d_Ir_findingAt_102 : decode b_Ir_findingAt 102 = .ok (.iconst 0, 1) := by decide +kernel
theorem d_Ir_findingAt_103 : decode b_Ir_findingAt 103 = .ok (.ireturn, 1) := by decide +kernel
theorem d_Ir_findingAt_104 : decode b_Ir_findingAt 104 = .ok (.aload_n 0, 1) := by decide +kernel
theorem d_Ir_findingAt_105 : decode b_Ir_findingAt 105 = .ok (.getfield 26, 3) := by decide +kernel
theorem d_Ir_findingAt_108 : decode b_Ir_findingAt 108 = .ok (.getfield 130, 3) := by decide +kernel
theorem d_Ir_findingAt_111 : decode b_Ir_findingAt 111 = .ok (.iload_n 1, 1) := by decide +kernel
theorem d_Ir_findingAt_112 : decode b_Ir_findingAt 112 = .ok (.iaload, 1) := by decide +kernel
theorem d_Ir_findingAt_113 : decode b_Ir_findingAt 113 = .ok (.ireturn, 1) := by decide +kernel
theorem d_Ir_findingAt_114 : decode b_Ir_findingAt 114 = .ok (.aload_n 0, 1) := by decide +kernel
theorem d_Ir_findingAt_115 : decode b_Ir_findingAt 115 = .ok (.getfield 26, 3) := by decide +kernel
theorem d_Ir_findingAt_118 : decode b_Ir_findingAt 118 = .ok (.getfield 121, 3) := by decide +kernel
theorem d_Ir_findingAt_121 : decode b_Ir_findingAt 121 = .ok (.iload_n 1, 1) := by decide +kernel
theorem d_Ir_findingAt_122 : decode b_Ir_findingAt 122 = .ok (.iaload, 1) := by decide +kernel
theorem d_Ir_findingAt_123 : decode b_Ir_findingAt 123 = .ok (.ireturn, 1) := by decide +kernel
set_option maxHeartbeats 4000000 in
set_option maxRecDepth 100000 in
theorem c_Ir_findingAt (l : Launch) (hlt : l.stackTraces = false) (sa : Nat → Nat) (dC : Nat → ClassId) (dI : Nat → Nat → Nat) (L : Nat → Nat) (cA : Nat → ClassId) (ar : Nat → Nat → Int32) (sc : Nat → Int32) (a0 : Int32) (a1 : Int32) (hL : ij 38 L) (h : p_Ir_findingAt ar sc a0 a1) : th_Both l y_Ir_findingAt z_Ir_findingAt (rmX 8) (va_Pc [.ref (L 0), .int a0, .int a1] (fun U => xw_I dC dI L cA ar sc U ∧ xz_I L sa U)) (va_Qi (fun (r : Int32) (u : oS) => (none, r, u.1, u.2) = f_Ir_findingAt ar sc a0 a1) (fun u t => va_P (dC, dI) classes (wI L cA u.1 u.2) t.heap) (aI L)) (xC_I dC dI L cA (f_Ir_findingAt ar sc a0 a1)) 1 6 (aI L) := by
  refine th_ofW (cc := b_Ir_findingAt) (maxL := 3) (ret := (some .int)) (by decide) rfl ?_
  intro p e s m args below meth c s₁ B hml hnx hv
  obtain ⟨rfl, ⟨hP, hK⟩, hz⟩ := hv
  have hx := B.exec
  have hb := B.bytes
  have hr := B.returns
  have hts : ∀ w ∈ w_all, w.before _ s = true := fun w hw => atoms_spec (ws := z_Ir_findingAt) B.pre w (List.mem_cons_of_mem _ hw)
  have hown : s.vm.findClass R_Ir = some m.cls := findClass_of_methodNamed B.named
  have hlocks := B.notSynchronized
  have hF : CallFix p m c b_Ir_findingAt 3 s _ w_all R_Ir := ⟨hx, hb, hml, hown, hts⟩
  have hS : va_S (aI L) s.heap s.heap [] := va_S.rf
  have hl := lv_entry ([.ref (L 0), .int a0, .int a1]) (n := 3) (Nat.le_of_ble_eq_true rfl)
  rw [lg_entry_eq]
  generalize (lg_sl ([.ref (L 0), .int a0, .int a1]) ++ List.replicate (3 - (lg_sl ([.ref (L 0), .int a0, .int a1])).length) Slot.unset).toArray = ls at hl ⊢
  have hl : lv_has ls 3 [(0, .ref (L 0)), (1, .int a0), (2, .int a1)] := hl
  unfold p_Ir_findingAt at h
  refine lv_aload_n hx hb d_Ir_findingAt_0 rfl (lv_at hl 0 rfl) ?_
  refine lv_iload_n hx hb d_Ir_findingAt_1 rfl (lv_at hl 1 rfl) ?_
  refine r_Ir_isFinding hF hK hP m_444 hl.1 ⟨Nat.le_of_ble_eq_true rfl, Nat.le_of_ble_eq_true rfl⟩ ⟨Nat.zero_le _, Nat.zero_le _⟩ (Nat.le_of_ble_eq_true rfl) d_Ir_findingAt_2 ?_
  refine lv_if_eq (tgt := 21) hx hb d_Ir_findingAt_5 (by decide) (fun c5 => ?_) (fun c5 => ?_)
  · have h := h.1 c5
    refine lv_iconst (v := 0) hx hb d_Ir_findingAt_21 (by decide) ?_
    refine rq_requireKnown hF hK hlt hz hS hl.1 hlocks hnx m_436 ⟨Nat.le_of_ble_eq_true rfl, Nat.le_of_ble_eq_true rfl⟩ ⟨Nat.le_refl _, Nat.le_refl _⟩ d_Ir_findingAt_22 (fun c22 => xc_I hP hS (by rw [f_Ir_findingAt, if_pos c5])) (fun c22 => absurd rfl c22)
  · have h := h.2 c5
    refine lv_iload_n hx hb d_Ir_findingAt_8 rfl (lv_at hl 2 rfl) ?_
    refine lv_iconst (v := 0) hx hb d_Ir_findingAt_9 (by decide) ?_
    refine lv_iconst (v := 4) hx hb d_Ir_findingAt_10 (by decide) ?_
    refine r_Ir_isWithin hF m_131 hl.1 ⟨Nat.le_of_ble_eq_true rfl, Nat.le_of_ble_eq_true rfl⟩ ⟨Nat.zero_le _, Nat.zero_le _⟩ (Nat.le_of_ble_eq_true rfl) d_Ir_findingAt_11 ?_
    refine lv_if_eq (tgt := 21) hx hb d_Ir_findingAt_14 (by decide) (fun c14 => ?_) (fun c14 => ?_)
    · have h := h.1 c14
      refine lv_iconst (v := 0) hx hb d_Ir_findingAt_21 (by decide) ?_
      refine rq_requireKnown hF hK hlt hz hS hl.1 hlocks hnx m_436 ⟨Nat.le_of_ble_eq_true rfl, Nat.le_of_ble_eq_true rfl⟩ ⟨Nat.le_refl _, Nat.le_refl _⟩ d_Ir_findingAt_22 (fun c22 => xc_I hP hS (by rw [f_Ir_findingAt, if_neg c5, if_pos c14])) (fun c22 => absurd rfl c22)
    · have h := h.2 c14
      refine lv_iconst (v := 1) hx hb d_Ir_findingAt_17 (by decide) ?_
      refine lv_goto (tgt := 22) hx hb d_Ir_findingAt_18 (by decide) ?_
      refine rq_requireKnown hF hK hlt hz hS hl.1 hlocks hnx m_436 ⟨Nat.le_of_ble_eq_true rfl, Nat.le_of_ble_eq_true rfl⟩ ⟨Nat.le_refl _, Nat.le_refl _⟩ d_Ir_findingAt_22 (fun c22 => absurd c22 (by decide)) (fun c22 => ?_)
      refine lv_iload_n hx hb d_Ir_findingAt_25 rfl (lv_at hl 2 rfl) ?_
      by_cases c26_0 : a1 = 0
      · have h := h.1 c26_0
        refine lv_tableIn (off := 30) (tgt := 56) hx hb d_Ir_findingAt_26 (by rw [c26_0]; decide) (by rw [c26_0]; decide) (by rw [c26_0]; decide) (by decide) ?_
        refine lv_aload_n hx hb d_Ir_findingAt_56 rfl (lv_at hl 0 rfl) ?_
        refine gf_Ir_findings hF hK hP m_138 d_Ir_findingAt_57 ?_
        refine gn_Findings_points hF hK hP mn_5 d_Ir_findingAt_60 ?_
        refine lv_iload_n hx hb d_Ir_findingAt_63 rfl (lv_at hl 1 rfl) ?_
        have k64 := h
        refine alI_13 hF hK hP k64 d_Ir_findingAt_64 ?_
        have hv : ((none, ar 13 a0.toNatClampNeg, ar, sc) : Option String × Int32 × (Nat → Nat → Int32) × (Nat → Int32)) = f_Ir_findingAt ar sc a0 a1 := by rw [f_Ir_findingAt, if_neg c5, if_neg c14, if_pos c26_0]
        exact W.widen (k := 1) (n := 6) (Nat.zero_le _) (Nat.zero_le _) (th_ret (W.iret (v := ar 13 a0.toNatClampNeg) hx hb hr (fun t ht hW => ⟨⟨ar 13 a0.toNatClampNeg, (ar, sc), rfl, hv, by dsimp only; rw [ht]; exact hP⟩, hS.F ht⟩) hS.2.2 d_Ir_findingAt_65))
      · have h := h.2 c26_0
        by_cases c26_1 : a1 = 1
        · have h := h.1 c26_1
          refine lv_tableIn (off := 40) (tgt := 66) hx hb d_Ir_findingAt_26 (by rw [c26_1]; decide) (by rw [c26_1]; decide) (by rw [c26_1]; decide) (by decide) ?_
          refine lv_aload_n hx hb d_Ir_findingAt_66 rfl (lv_at hl 0 rfl) ?_
          refine gf_Ir_findings hF hK hP m_138 d_Ir_findingAt_67 ?_
          refine lv_iload_n hx hb d_Ir_findingAt_70 rfl (lv_at hl 1 rfl) ?_
          have k71 := h
          refine r_Findings_isOpen hF hK hP k71 m_445 hl.1 ⟨Nat.le_of_ble_eq_true rfl, Nat.le_of_ble_eq_true rfl⟩ ⟨Nat.zero_le _, Nat.zero_le _⟩ (Nat.le_of_ble_eq_true rfl) d_Ir_findingAt_71 ?_
          refine lv_if_eq (tgt := 81) hx hb d_Ir_findingAt_74 (by decide) (fun c74 => ?_) (fun c74 => ?_)
          · refine lv_iconst (v := 0) hx hb d_Ir_findingAt_81 (by decide) ?_
            have hv : ((none, 0, ar, sc) : Option String × Int32 × (Nat → Nat → Int32) × (Nat → Int32)) = f_Ir_findingAt ar sc a0 a1 := by rw [f_Ir_findingAt, if_neg c5, if_neg c14, if_neg c26_0, if_pos c26_1, if_pos c74]
            exact W.widen (k := 1) (n := 6) (Nat.zero_le _) (Nat.zero_le _) (th_ret (W.iret (v := 0) hx hb hr (fun t ht hW => ⟨⟨0, (ar, sc), rfl, hv, by dsimp only; rw [ht]; exact hP⟩, hS.F ht⟩) hS.2.2 d_Ir_findingAt_82))
          · refine lv_iconst (v := 1) hx hb d_Ir_findingAt_77 (by decide) ?_
            refine lv_goto (tgt := 82) hx hb d_Ir_findingAt_78 (by decide) ?_
            have hv : ((none, 1, ar, sc) : Option String × Int32 × (Nat → Nat → Int32) × (Nat → Int32)) = f_Ir_findingAt ar sc a0 a1 := by rw [f_Ir_findingAt, if_neg c5, if_neg c14, if_neg c26_0, if_pos c26_1, if_neg c74]
            exact W.widen (k := 1) (n := 6) (Nat.zero_le _) (Nat.zero_le _) (th_ret (W.iret (v := 1) hx hb hr (fun t ht hW => ⟨⟨1, (ar, sc), rfl, hv, by dsimp only; rw [ht]; exact hP⟩, hS.F ht⟩) hS.2.2 d_Ir_findingAt_82))
        · have h := h.2 c26_1
          by_cases c26_2 : a1 = 2
          · have h := h.1 c26_2
            refine lv_tableIn (off := 57) (tgt := 83) hx hb d_Ir_findingAt_26 (by rw [c26_2]; decide) (by rw [c26_2]; decide) (by rw [c26_2]; decide) (by decide) ?_
            refine lv_aload_n hx hb d_Ir_findingAt_83 rfl (lv_at hl 0 rfl) ?_
            refine gf_Ir_findings hF hK hP m_138 d_Ir_findingAt_84 ?_
            refine lv_iload_n hx hb d_Ir_findingAt_87 rfl (lv_at hl 1 rfl) ?_
            refine lv_aload_n hx hb d_Ir_findingAt_88 rfl (lv_at hl 0 rfl) ?_
            refine gf_Ir_today hF hK hP m_159 d_Ir_findingAt_89 ?_
            have k92 := h
            refine r_Findings_isMissed hF hK hP k92 m_447 hl.1 ⟨Nat.le_of_ble_eq_true rfl, Nat.le_of_ble_eq_true rfl⟩ ⟨Nat.zero_le _, Nat.zero_le _⟩ (Nat.le_of_ble_eq_true rfl) d_Ir_findingAt_92 ?_
            refine lv_if_eq (tgt := 102) hx hb d_Ir_findingAt_95 (by decide) (fun c95 => ?_) (fun c95 => ?_)
            · refine lv_iconst (v := 0) hx hb d_Ir_findingAt_102 (by decide) ?_
              have hv : ((none, 0, ar, sc) : Option String × Int32 × (Nat → Nat → Int32) × (Nat → Int32)) = f_Ir_findingAt ar sc a0 a1 := by rw [f_Ir_findingAt, if_neg c5, if_neg c14, if_neg c26_0, if_neg c26_1, if_pos c26_2, if_pos c95]
              exact W.widen (k := 1) (n := 6) (Nat.zero_le _) (Nat.zero_le _) (th_ret (W.iret (v := 0) hx hb hr (fun t ht hW => ⟨⟨0, (ar, sc), rfl, hv, by dsimp only; rw [ht]; exact hP⟩, hS.F ht⟩) hS.2.2 d_Ir_findingAt_103))
            · refine lv_iconst (v := 1) hx hb d_Ir_findingAt_98 (by decide) ?_
              refine lv_goto (tgt := 103) hx hb d_Ir_findingAt_99 (by decide) ?_
              have hv : ((none, 1, ar, sc) : Option String × Int32 × (Nat → Nat → Int32) × (Nat → Int32)) = f_Ir_findingAt ar sc a0 a1 := by rw [f_Ir_findingAt, if_neg c5, if_neg c14, if_neg c26_0, if_neg c26_1, if_pos c26_2, if_neg c95]
              exact W.widen (k := 1) (n := 6) (Nat.zero_le _) (Nat.zero_le _) (th_ret (W.iret (v := 1) hx hb hr (fun t ht hW => ⟨⟨1, (ar, sc), rfl, hv, by dsimp only; rw [ht]; exact hP⟩, hS.F ht⟩) hS.2.2 d_Ir_findingAt_103))
          · have h := h.2 c26_2
            by_cases c26_3 : a1 = 3
            · have h := h.1 c26_3
              refine lv_tableIn (off := 78) (tgt := 104) hx hb d_Ir_findingAt_26 (by rw [c26_3]; decide) (by rw [c26_3]; decide) (by rw [c26_3]; decide) (by decide) ?_
              refine lv_aload_n hx hb d_Ir_findingAt_104 rfl (lv_at hl 0 rfl) ?_
              refine gf_Ir_findings hF hK hP m_138 d_Ir_findingAt_105 ?_
              refine gn_Findings_days hF hK hP mn_11 d_Ir_findingAt_108 ?_
              refine lv_iload_n hx hb d_Ir_findingAt_111 rfl (lv_at hl 1 rfl) ?_
              have k112 := h
              refine alI_15 hF hK hP k112 d_Ir_findingAt_112 ?_
              have hv : ((none, ar 15 a0.toNatClampNeg, ar, sc) : Option String × Int32 × (Nat → Nat → Int32) × (Nat → Int32)) = f_Ir_findingAt ar sc a0 a1 := by rw [f_Ir_findingAt, if_neg c5, if_neg c14, if_neg c26_0, if_neg c26_1, if_neg c26_2, if_pos c26_3]
              exact W.widen (k := 1) (n := 6) (Nat.zero_le _) (Nat.zero_le _) (th_ret (W.iret (v := ar 15 a0.toNatClampNeg) hx hb hr (fun t ht hW => ⟨⟨ar 15 a0.toNatClampNeg, (ar, sc), rfl, hv, by dsimp only; rw [ht]; exact hP⟩, hS.F ht⟩) hS.2.2 d_Ir_findingAt_113))
            · have h := h.2 c26_3
              refine lv_tableOut (tgt := 114) hx hb d_Ir_findingAt_26 (by have h0 := lv_neT (a := 0) c26_0 rfl; have h1 := lv_neT (a := 1) c26_1 rfl; have h2 := lv_neT (a := 2) c26_2 rfl; have h3 := lv_neT (a := 3) c26_3 rfl; omega) (by decide) ?_
              refine lv_aload_n hx hb d_Ir_findingAt_114 rfl (lv_at hl 0 rfl) ?_
              refine gf_Ir_findings hF hK hP m_138 d_Ir_findingAt_115 ?_
              refine gn_Findings_proofs hF hK hP mn_10 d_Ir_findingAt_118 ?_
              refine lv_iload_n hx hb d_Ir_findingAt_121 rfl (lv_at hl 1 rfl) ?_
              have k122 := h
              refine alI_16 hF hK hP k122 d_Ir_findingAt_122 ?_
              have hv : ((none, ar 16 a0.toNatClampNeg, ar, sc) : Option String × Int32 × (Nat → Nat → Int32) × (Nat → Int32)) = f_Ir_findingAt ar sc a0 a1 := by rw [f_Ir_findingAt, if_neg c5, if_neg c14, if_neg c26_0, if_neg c26_1, if_neg c26_2, if_neg c26_3]
              exact W.widen (k := 1) (n := 6) (Nat.zero_le _) (Nat.zero_le _) (th_ret (W.iret (v := ar 16 a0.toNatClampNeg) hx hb hr (fun t ht hW => ⟨⟨ar 16 a0.toNatClampNeg, (ar, sc), rfl, hv, by dsimp only; rw [ht]; exact hP⟩, hS.F ht⟩) hS.2.2 d_Ir_findingAt_123))
theorem d_Ir_pointAt_0 : decode b_Ir_pointAt 0 = .ok (.aload_n 0, 1) := by decide +kernel
theorem d_Ir_pointAt_1 : decode b_Ir_pointAt 1 = .ok (.iload_n 1, 1) := by decide +kernel
theorem d_Ir_pointAt_2 : decode b_Ir_pointAt 2 = .ok (.invokevirtual 98, 3) := by decide +kernel
theorem d_Ir_pointAt_5 : decode b_Ir_pointAt 5 = .ok (.ifCond .eq 16, 3) := by decide +kernel
theorem d_Ir_pointAt_8 : decode b_Ir_pointAt 8 = .ok (.iload_n 2, 1) := by decide +kernel
theorem d_Ir_pointAt_9 : decode b_Ir_pointAt 9 = .ok (.iconst 0, 1) := by decide +kernel
theorem d_Ir_pointAt_10 : decode b_Ir_pointAt 10 = .ok (.iconst 4, 1) := by decide +kernel
theorem d_Ir_pointAt_11 : decode b_Ir_pointAt 11 = .ok (.invokestatic 67, 3) := by decide +kernel
theorem d_Ir_pointAt_14 : decode b_Ir_pointAt 14 = .ok (.ifCond .eq 7, 3) := by decide +kernel
theorem d_Ir_pointAt_17 : decode b_Ir_pointAt 17 = .ok (.iconst 1, 1) := by decide +kernel
theorem d_Ir_pointAt_18 : decode b_Ir_pointAt 18 = .ok (.goto 4, 3) := by decide +kernel
theorem d_Ir_pointAt_21 : decode b_Ir_pointAt 21 = .ok (.iconst 0, 1) := by decide +kernel
theorem d_Ir_pointAt_22 : decode b_Ir_pointAt 22 = .ok (.invokestatic 63, 3) := by decide +kernel
theorem d_Ir_pointAt_25 : decode b_Ir_pointAt 25 = .ok (.iload_n 2, 1) := by decide +kernel
theorem d_Ir_pointAt_26 : decode b_Ir_pointAt 26 = .ok (.tableswitch 62 0 3 #[30, 36, 42, 52], 30) := by decide +kernel
theorem d_Ir_pointAt_56 : decode b_Ir_pointAt 56 = .ok (.aload_n 0, 1) := by decide +kernel
theorem d_Ir_pointAt_57 : decode b_Ir_pointAt 57 = .ok (.iload_n 1, 1) := by decide +kernel
theorem d_Ir_pointAt_58 : decode b_Ir_pointAt 58 = .ok (.invokevirtual 133, 3) := by decide +kernel
theorem d_Ir_pointAt_61 : decode b_Ir_pointAt 61 = .ok (.ireturn, 1) := by decide +kernel
theorem d_Ir_pointAt_62 : decode b_Ir_pointAt 62 = .ok (.aload_n 0, 1) := by decide +kernel
theorem d_Ir_pointAt_63 : decode b_Ir_pointAt 63 = .ok (.iload_n 1, 1) := by decide +kernel
theorem d_Ir_pointAt_64 : decode b_Ir_pointAt 64 = .ok (.invokevirtual 105, 3) := by decide +kernel
theorem d_Ir_pointAt_67 : decode b_Ir_pointAt 67 = .ok (.ireturn, 1) := by decide +kernel
theorem d_Ir_pointAt_68 : decode b_Ir_pointAt 68 = .ok (.aload_n 0, 1) := by decide +kernel
theorem d_Ir_pointAt_69 : decode b_Ir_pointAt 69 = .ok (.getfield 19, 3) := by decide +kernel
theorem d_Ir_pointAt_72 : decode b_Ir_pointAt 72 = .ok (.getfield 101, 3) := by decide +kernel
theorem d_Ir_pointAt_75 : decode b_Ir_pointAt 75 = .ok (.iload_n 1, 1) := by decide +kernel
theorem d_Ir_pointAt_76 : decode b_Ir_pointAt 76 = .ok (.iaload, 1) := by decide +kernel
theorem d_Ir_pointAt_77 : decode b_Ir_pointAt 77 = .ok (.ireturn, 1) := by decide +kernel
theorem d_Ir_pointAt_78 : decode b_Ir_pointAt 78 = .ok (.aload_n 0, 1) := by decide +kernel
theorem d_Ir_pointAt_79 : decode b_Ir_pointAt 79 = .ok (.invokevirtual 136, 3) := by decide +kernel
theorem d_Ir_pointAt_82 : decode b_Ir_pointAt 82 = .ok (.aload_n 0, 1) := by decide +kernel
theorem d_Ir_pointAt_83 : decode b_Ir_pointAt 83 = .ok (.iload_n 1, 1) := by decide +kernel
theorem d_Ir_pointAt_84 : decode b_Ir_pointAt 84 = .ok (.invokevirtual 139, 3) := by decide +kernel
theorem d_Ir_pointAt_87 : decode b_Ir_pointAt 87 = .ok (.ireturn, 1) := by decide +kernel
theorem d_Ir_pointAt_88 : decode b_Ir_pointAt 88 = .ok (.aload_n 0, 1) := by decide +kernel
theorem d_Ir_pointAt_89 : decode b_Ir_pointAt 89 = .ok (.getfield 26, 3) := by decide +kernel
theorem d_Ir_pointAt_92 : decode b_Ir_pointAt 92 = .ok (.iload_n 1, 1) := by decide +kernel
theorem d_Ir_pointAt_93 : decode b_Ir_pointAt 93 = .ok (.invokevirtual 142, 3) := by decide +kernel
theorem d_Ir_pointAt_96 : decode b_Ir_pointAt 96 = .ok (.ireturn, 1) := by decide +kernel
set_option maxHeartbeats 4000000 in
set_option maxRecDepth 100000 in
theorem c_Ir_pointAt (l : Launch) (hlt : l.stackTraces = false) (sa : Nat → Nat) (dC : Nat → ClassId) (dI : Nat → Nat → Nat) (L : Nat → Nat) (cA : Nat → ClassId) (ar : Nat → Nat → Int32) (sc : Nat → Int32) (a0 : Int32) (a1 : Int32) (hL : ij 38 L) (h : p_Ir_pointAt ar sc a0 a1) : th_Both l y_Ir_pointAt z_Ir_pointAt (rmX 8) (va_Pc [.ref (L 0), .int a0, .int a1] (fun U => xw_I dC dI L cA ar sc U ∧ xz_I L sa U)) (va_Qi (fun (r : Int32) (u : oS) => (none, r, u.1, u.2) = f_Ir_pointAt ar sc a0 a1) (fun u t => va_P (dC, dI) classes (wI L cA u.1 u.2) t.heap) (aI L)) (xC_I dC dI L cA (f_Ir_pointAt ar sc a0 a1)) 1 6 (aI L) := by
  refine th_ofW (cc := b_Ir_pointAt) (maxL := 3) (ret := (some .int)) (by decide) rfl ?_
  intro p e s m args below meth c s₁ B hml hnx hv
  obtain ⟨rfl, ⟨hP, hK⟩, hz⟩ := hv
  have hx := B.exec
  have hb := B.bytes
  have hr := B.returns
  have hts : ∀ w ∈ w_all, w.before _ s = true := fun w hw => atoms_spec (ws := z_Ir_pointAt) B.pre w (List.mem_cons_of_mem _ hw)
  have hown : s.vm.findClass R_Ir = some m.cls := findClass_of_methodNamed B.named
  have hlocks := B.notSynchronized
  have hF : CallFix p m c b_Ir_pointAt 3 s _ w_all R_Ir := ⟨hx, hb, hml, hown, hts⟩
  have hS : va_S (aI L) s.heap s.heap [] := va_S.rf
  have hl := lv_entry ([.ref (L 0), .int a0, .int a1]) (n := 3) (Nat.le_of_ble_eq_true rfl)
  rw [lg_entry_eq]
  generalize (lg_sl ([.ref (L 0), .int a0, .int a1]) ++ List.replicate (3 - (lg_sl ([.ref (L 0), .int a0, .int a1])).length) Slot.unset).toArray = ls at hl ⊢
  have hl : lv_has ls 3 [(0, .ref (L 0)), (1, .int a0), (2, .int a1)] := hl
  unfold p_Ir_pointAt at h
  refine lv_aload_n hx hb d_Ir_pointAt_0 rfl (lv_at hl 0 rfl) ?_
  refine lv_iload_n hx hb d_Ir_pointAt_1 rfl (lv_at hl 1 rfl) ?_
  refine r_Ir_isPoint hF hK hP m_151 hl.1 ⟨Nat.le_of_ble_eq_true rfl, Nat.le_of_ble_eq_true rfl⟩ ⟨Nat.zero_le _, Nat.zero_le _⟩ (Nat.le_of_ble_eq_true rfl) d_Ir_pointAt_2 ?_
  refine lv_if_eq (tgt := 21) hx hb d_Ir_pointAt_5 (by decide) (fun c5 => ?_) (fun c5 => ?_)
  · have h := h.1 c5
    refine lv_iconst (v := 0) hx hb d_Ir_pointAt_21 (by decide) ?_
    refine rq_requireKnown hF hK hlt hz hS hl.1 hlocks hnx m_436 ⟨Nat.le_of_ble_eq_true rfl, Nat.le_of_ble_eq_true rfl⟩ ⟨Nat.le_refl _, Nat.le_refl _⟩ d_Ir_pointAt_22 (fun c22 => xc_I hP hS (by rw [f_Ir_pointAt, if_pos c5])) (fun c22 => absurd rfl c22)
  · have h := h.2 c5
    refine lv_iload_n hx hb d_Ir_pointAt_8 rfl (lv_at hl 2 rfl) ?_
    refine lv_iconst (v := 0) hx hb d_Ir_pointAt_9 (by decide) ?_
    refine lv_iconst (v := 4) hx hb d_Ir_pointAt_10 (by decide) ?_
    refine r_Ir_isWithin hF m_131 hl.1 ⟨Nat.le_of_ble_eq_true rfl, Nat.le_of_ble_eq_true rfl⟩ ⟨Nat.zero_le _, Nat.zero_le _⟩ (Nat.le_of_ble_eq_true rfl) d_Ir_pointAt_11 ?_
    refine lv_if_eq (tgt := 21) hx hb d_Ir_pointAt_14 (by decide) (fun c14 => ?_) (fun c14 => ?_)
    · have h := h.1 c14
      refine lv_iconst (v := 0) hx hb d_Ir_pointAt_21 (by decide) ?_
      refine rq_requireKnown hF hK hlt hz hS hl.1 hlocks hnx m_436 ⟨Nat.le_of_ble_eq_true rfl, Nat.le_of_ble_eq_true rfl⟩ ⟨Nat.le_refl _, Nat.le_refl _⟩ d_Ir_pointAt_22 (fun c22 => xc_I hP hS (by rw [f_Ir_pointAt, if_neg c5, if_pos c14])) (fun c22 => absurd rfl c22)
    · have h := h.2 c14
      refine lv_iconst (v := 1) hx hb d_Ir_pointAt_17 (by decide) ?_
      refine lv_goto (tgt := 22) hx hb d_Ir_pointAt_18 (by decide) ?_
      refine rq_requireKnown hF hK hlt hz hS hl.1 hlocks hnx m_436 ⟨Nat.le_of_ble_eq_true rfl, Nat.le_of_ble_eq_true rfl⟩ ⟨Nat.le_refl _, Nat.le_refl _⟩ d_Ir_pointAt_22 (fun c22 => absurd c22 (by decide)) (fun c22 => ?_)
      refine lv_iload_n hx hb d_Ir_pointAt_25 rfl (lv_at hl 2 rfl) ?_
      by_cases c26_0 : a1 = 0
      · have h := h.1 c26_0
        refine lv_tableIn (off := 30) (tgt := 56) hx hb d_Ir_pointAt_26 (by rw [c26_0]; decide) (by rw [c26_0]; decide) (by rw [c26_0]; decide) (by decide) ?_
        refine lv_aload_n hx hb d_Ir_pointAt_56 rfl (lv_at hl 0 rfl) ?_
        refine lv_iload_n hx hb d_Ir_pointAt_57 rfl (lv_at hl 1 rfl) ?_
        have k58 := h
        refine r_Ir_riskOf hF hK hP hL hS k58 m_168 hl.1 ⟨Nat.le_of_ble_eq_true rfl, Nat.le_of_ble_eq_true rfl⟩ ⟨Nat.zero_le _, Nat.zero_le _⟩ (Nat.le_of_ble_eq_true rfl) d_Ir_pointAt_58 (fun H locs hP hS => ?_)
        have hv : ((none, (f_Ir_riskOf ar sc a0).1, (f_Ir_riskOf ar sc a0).2.1, (f_Ir_riskOf ar sc a0).2.2) : Option String × Int32 × (Nat → Nat → Int32) × (Nat → Int32)) = f_Ir_pointAt ar sc a0 a1 := by rw [f_Ir_pointAt, if_neg c5, if_neg c14, if_pos c26_0]
        exact W.widen (k := 1) (n := 6) (Nat.zero_le _) (Nat.zero_le _) (th_ret (W.iret (v := (f_Ir_riskOf ar sc a0).1) hx hb hr (fun t ht hW => ⟨⟨(f_Ir_riskOf ar sc a0).1, ((f_Ir_riskOf ar sc a0).2.1, (f_Ir_riskOf ar sc a0).2.2), rfl, hv, by dsimp only; rw [ht]; exact hP⟩, hS.F ht⟩) hS.2.2 d_Ir_pointAt_61))
      · have h := h.2 c26_0
        by_cases c26_1 : a1 = 1
        · have h := h.1 c26_1
          refine lv_tableIn (off := 36) (tgt := 62) hx hb d_Ir_pointAt_26 (by rw [c26_1]; decide) (by rw [c26_1]; decide) (by rw [c26_1]; decide) (by decide) ?_
          refine lv_aload_n hx hb d_Ir_pointAt_62 rfl (lv_at hl 0 rfl) ?_
          refine lv_iload_n hx hb d_Ir_pointAt_63 rfl (lv_at hl 1 rfl) ?_
          have k64 := h
          refine r_Ir_classOf hF hK hP hL hS k64 m_443 hl.1 ⟨Nat.le_of_ble_eq_true rfl, Nat.le_of_ble_eq_true rfl⟩ ⟨Nat.zero_le _, Nat.zero_le _⟩ (Nat.le_of_ble_eq_true rfl) d_Ir_pointAt_64 (fun H locs hP hS => ?_)
          have hv : ((none, (f_Ir_classOf ar sc a0).1, (f_Ir_classOf ar sc a0).2.1, (f_Ir_classOf ar sc a0).2.2) : Option String × Int32 × (Nat → Nat → Int32) × (Nat → Int32)) = f_Ir_pointAt ar sc a0 a1 := by rw [f_Ir_pointAt, if_neg c5, if_neg c14, if_neg c26_0, if_pos c26_1]
          exact W.widen (k := 1) (n := 6) (Nat.zero_le _) (Nat.zero_le _) (th_ret (W.iret (v := (f_Ir_classOf ar sc a0).1) hx hb hr (fun t ht hW => ⟨⟨(f_Ir_classOf ar sc a0).1, ((f_Ir_classOf ar sc a0).2.1, (f_Ir_classOf ar sc a0).2.2), rfl, hv, by dsimp only; rw [ht]; exact hP⟩, hS.F ht⟩) hS.2.2 d_Ir_pointAt_67))
        · have h := h.2 c26_1
          by_cases c26_2 : a1 = 2
          · have h := h.1 c26_2
            refine lv_tableIn (off := 42) (tgt := 68) hx hb d_Ir_pointAt_26 (by rw [c26_2]; decide) (by rw [c26_2]; decide) (by rw [c26_2]; decide) (by decide) ?_
            refine lv_aload_n hx hb d_Ir_pointAt_68 rfl (lv_at hl 0 rfl) ?_
            refine gf_Ir_points hF hK hP m_134 d_Ir_pointAt_69 ?_
            refine gn_Points_visits hF hK hP mn_6 d_Ir_pointAt_72 ?_
            refine lv_iload_n hx hb d_Ir_pointAt_75 rfl (lv_at hl 1 rfl) ?_
            have k76 := h
            refine alI_11 hF hK hP k76 d_Ir_pointAt_76 ?_
            have hv : ((none, ar 11 a0.toNatClampNeg, ar, sc) : Option String × Int32 × (Nat → Nat → Int32) × (Nat → Int32)) = f_Ir_pointAt ar sc a0 a1 := by rw [f_Ir_pointAt, if_neg c5, if_neg c14, if_neg c26_0, if_neg c26_1, if_pos c26_2]
            exact W.widen (k := 1) (n := 6) (Nat.zero_le _) (Nat.zero_le _) (th_ret (W.iret (v := ar 11 a0.toNatClampNeg) hx hb hr (fun t ht hW => ⟨⟨ar 11 a0.toNatClampNeg, (ar, sc), rfl, hv, by dsimp only; rw [ht]; exact hP⟩, hS.F ht⟩) hS.2.2 d_Ir_pointAt_77))
          · have h := h.2 c26_2
            by_cases c26_3 : a1 = 3
            · have h := h.1 c26_3
              refine lv_tableIn (off := 52) (tgt := 78) hx hb d_Ir_pointAt_26 (by rw [c26_3]; decide) (by rw [c26_3]; decide) (by rw [c26_3]; decide) (by decide) ?_
              refine lv_aload_n hx hb d_Ir_pointAt_78 rfl (lv_at hl 0 rfl) ?_
              have k79 := h.1
              have h := h.2
              refine r_Ir_fillRisks hF hK hP hL hS k79 m_164 hl.1 ⟨Nat.le_of_ble_eq_true rfl, Nat.le_of_ble_eq_true rfl⟩ ⟨Nat.zero_le _, Nat.zero_le _⟩ (Nat.le_of_ble_eq_true rfl) d_Ir_pointAt_79 (fun H locs hP hS => ?_)
              refine lv_aload_n hx hb d_Ir_pointAt_82 rfl (lv_at hl 0 rfl) ?_
              refine lv_iload_n hx hb d_Ir_pointAt_83 rfl (lv_at hl 1 rfl) ?_
              have k84 := h
              refine r_Ir_firstDueDay hF hK hP k84 m_180 hl.1 ⟨Nat.le_of_ble_eq_true rfl, Nat.le_of_ble_eq_true rfl⟩ ⟨Nat.zero_le _, Nat.zero_le _⟩ (Nat.le_of_ble_eq_true rfl) d_Ir_pointAt_84 ?_
              have hv : ((none, f_Ir_firstDueDay ((f_Ir_fillRisks ar sc ).1) ((f_Ir_fillRisks ar sc ).2) a0, (f_Ir_fillRisks ar sc ).1, (f_Ir_fillRisks ar sc ).2) : Option String × Int32 × (Nat → Nat → Int32) × (Nat → Int32)) = f_Ir_pointAt ar sc a0 a1 := by rw [f_Ir_pointAt, if_neg c5, if_neg c14, if_neg c26_0, if_neg c26_1, if_neg c26_2, if_pos c26_3]
              exact W.widen (k := 1) (n := 6) (Nat.zero_le _) (Nat.zero_le _) (th_ret (W.iret (v := f_Ir_firstDueDay ((f_Ir_fillRisks ar sc ).1) ((f_Ir_fillRisks ar sc ).2) a0) hx hb hr (fun t ht hW => ⟨⟨f_Ir_firstDueDay ((f_Ir_fillRisks ar sc ).1) ((f_Ir_fillRisks ar sc ).2) a0, ((f_Ir_fillRisks ar sc ).1, (f_Ir_fillRisks ar sc ).2), rfl, hv, by dsimp only; rw [ht]; exact hP⟩, hS.F ht⟩) hS.2.2 d_Ir_pointAt_87))
            · have h := h.2 c26_3
              refine lv_tableOut (tgt := 88) hx hb d_Ir_pointAt_26 (by have h0 := lv_neT (a := 0) c26_0 rfl; have h1 := lv_neT (a := 1) c26_1 rfl; have h2 := lv_neT (a := 2) c26_2 rfl; have h3 := lv_neT (a := 3) c26_3 rfl; omega) (by decide) ?_
              refine lv_aload_n hx hb d_Ir_pointAt_88 rfl (lv_at hl 0 rfl) ?_
              refine gf_Ir_findings hF hK hP m_138 d_Ir_pointAt_89 ?_
              refine lv_iload_n hx hb d_Ir_pointAt_92 rfl (lv_at hl 1 rfl) ?_
              have k93 := h
              refine r_Findings_countOpen hF hK hP k93 m_448 hl.1 ⟨Nat.le_of_ble_eq_true rfl, Nat.le_of_ble_eq_true rfl⟩ ⟨Nat.zero_le _, Nat.zero_le _⟩ (Nat.le_of_ble_eq_true rfl) d_Ir_pointAt_93 ?_
              have hv : ((none, f_Findings_countOpen ar sc a0, ar, sc) : Option String × Int32 × (Nat → Nat → Int32) × (Nat → Int32)) = f_Ir_pointAt ar sc a0 a1 := by rw [f_Ir_pointAt, if_neg c5, if_neg c14, if_neg c26_0, if_neg c26_1, if_neg c26_2, if_neg c26_3]
              exact W.widen (k := 1) (n := 6) (Nat.zero_le _) (Nat.zero_le _) (th_ret (W.iret (v := f_Findings_countOpen ar sc a0) hx hb hr (fun t ht hW => ⟨⟨f_Findings_countOpen ar sc a0, (ar, sc), rfl, hv, by dsimp only; rw [ht]; exact hP⟩, hS.F ht⟩) hS.2.2 d_Ir_pointAt_96))
theorem d_Ir_due_0 : decode b_Ir_due 0 = .ok (.iload_n 1, 1) := by decide +kernel
theorem d_Ir_due_1 : decode b_Ir_due 1 = .ok (.aload_n 0, 1) := by decide +kernel
theorem d_Ir_due_2 : decode b_Ir_due 2 = .ok (.getfield 55, 3) := by decide +kernel
theorem d_Ir_due_5 : decode b_Ir_due 5 = .ok (.ldc 97, 2) := by decide +kernel
theorem d_Ir_due_7 : decode b_Ir_due 7 = .ok (.invokestatic 67, 3) := by decide +kernel
theorem d_Ir_due_10 : decode b_Ir_due 10 = .ok (.ifCond .eq 11, 3) := by decide +kernel
theorem d_Ir_due_13 : decode b_Ir_due 13 = .ok (.iload_n 2, 1) := by decide +kernel
theorem d_Ir_due_14 : decode b_Ir_due 14 = .ok (.ifCond .lt 7, 3) := by decide +kernel
theorem d_Ir_due_17 : decode b_Ir_due 17 = .ok (.iconst 1, 1) := by decide +kernel
theorem d_Ir_due_18 : decode b_Ir_due 18 = .ok (.goto 4, 3) := by decide +kernel
theorem d_Ir_due_21 : decode b_Ir_due 21 = .ok (.iconst 0, 1) := by decide +kernel
theorem d_Ir_due_22 : decode b_Ir_due 22 = .ok (.invokestatic 71, 3) := by decide +kernel
theorem d_Ir_due_25 : decode b_Ir_due 25 = .ok (.aload_n 0, 1) := by decide +kernel
theorem d_Ir_due_26 : decode b_Ir_due 26 = .ok (.invokevirtual 136, 3) := by decide +kernel
theorem d_Ir_due_29 : decode b_Ir_due 29 = .ok (.iconst 0, 1) := by decide +kernel
theorem d_Ir_due_30 : decode b_Ir_due 30 = .ok (.istore_n 3, 1) := by decide +kernel
theorem d_Ir_due_31 : decode b_Ir_due 31 = .ok (.iload_n 3, 1) := by decide +kernel
theorem d_Ir_due_32 : decode b_Ir_due 32 = .ok (.aload_n 0, 1) := by decide +kernel
theorem d_Ir_due_33 : decode b_Ir_due 33 = .ok (.getfield 19, 3) := by decide +kernel
theorem d_Ir_due_36 : decode b_Ir_due 36 = .ok (.getfield 87, 3) := by decide +kernel
theorem d_Ir_due_39 : decode b_Ir_due 39 = .ok (.if_icmp .ge 30, 3) := by decide +kernel
theorem d_Ir_due_42 : decode b_Ir_due 42 = .ok (.aload_n 0, 1) := by decide +kernel
theorem d_Ir_due_43 : decode b_Ir_due 43 = .ok (.iload_n 3, 1) := by decide +kernel
theorem d_Ir_due_44 : decode b_Ir_due 44 = .ok (.invokevirtual 139, 3) := by decide +kernel
theorem d_Ir_due_47 : decode b_Ir_due 47 = .ok (.iload_n 1, 1) := by decide +kernel
theorem d_Ir_due_48 : decode b_Ir_due 48 = .ok (.if_icmp .gt 15, 3) := by decide +kernel
theorem d_Ir_due_51 : decode b_Ir_due 51 = .ok (.aload_n 0, 1) := by decide +kernel
theorem d_Ir_due_52 : decode b_Ir_due 52 = .ok (.iload_n 3, 1) := by decide +kernel
theorem d_Ir_due_53 : decode b_Ir_due 53 = .ok (.iload_n 1, 1) := by decide +kernel
theorem d_Ir_due_54 : decode b_Ir_due 54 = .ok (.invokevirtual 145, 3) := by decide +kernel
theorem d_Ir_due_57 : decode b_Ir_due 57 = .ok (.iload_n 2, 1) := by decide +kernel
theorem d_Ir_due_58 : decode b_Ir_due 58 = .ok (.if_icmp .ne 5, 3) := by decide +kernel
theorem d_Ir_due_61 : decode b_Ir_due 61 = .ok (.iload_n 3, 1) := by decide +kernel
theorem d_Ir_due_62 : decode b_Ir_due 62 = .ok (.ireturn, 1) := by decide +kernel
theorem d_Ir_due_63 : decode b_Ir_due 63 = .ok (.iinc 3 1, 3) := by decide +kernel
theorem d_Ir_due_66 : decode b_Ir_due 66 = .ok (.goto (-35), 3) := by decide +kernel
theorem d_Ir_due_69 : decode b_Ir_due 69 = .ok (.iconst (-1), 1) := by decide +kernel
theorem d_Ir_due_70 : decode b_Ir_due 70 = .ok (.ireturn, 1) := by decide +kernel
set_option maxHeartbeats 4000000 in
set_option maxRecDepth 100000 in
theorem l_Ir_due_31 {p : Program} {l : Launch} {e : Env} {s : State} {m : MethodId} {args : Array Value} {below : List Frame} {meth : Method} {c : Code} {dC : Nat → ClassId} {dI : Nat → Nat → Nat} {L : Nat → Nat} {cA : Nat → ClassId} (a0 : Int32) (a1 : Int32)  (hF : CallFix p m c b_Ir_due 4 s args w_all R_Ir) (hK : kW_I dC dI cA s) (hL : ij 38 L) (hr : meth.sig.returnType = (some .int)) (hlocks : meth.locks = false) {sa : Nat → Nat} (hlt : l.stackTraces = false) (hz : xz_I L sa s) (hnx : ∀ x ∈ c.exceptionTable.toList, False) : ∀ (n : Nat) (v3 : Int32) (ar : Nat → Nat → Int32) (sc : Nat → Int32), q_Ir_due_31 a0 a1 n v3 ar sc → ∀ (H : Heap) (locs : List Loc), va_P (dC, dI) classes (wI L cA ar sc) H → va_S (aI L) s.heap H locs → ∀ (ls : Array Slot), lv_has ls 4 [(3, .int v3), (0, .ref (L 0)), (1, .int a0), (2, .int a1)] → W p l e (rmX 8) s m args below meth c H locs 0 0 (th_MQ below (va_Qi (fun (r : Int32) (u : oS) => (none, r, u.1, u.2) = g_Ir_due_31 a0 a1 n v3 ar sc) (fun u t => va_P (dC, dI) classes (wI L cA u.1 u.2) t.heap) (aI L)) (xC_I dC dI L cA (g_Ir_due_31 a0 a1 n v3 ar sc)) args s 1 6 (aI L)) (F0 m 31 ls []) := by
  have hx := hF.1
  have hb := hF.2.1
  have hown := hF.2.2.2.1
  have hts := hF.2.2.2.2
  intro n
  induction n with
  | zero => intro v3 ar sc h; exact False.elim h
  | succ n ih =>
    intro v3 ar sc h H locs hP hS ls hl
    rw [q_Ir_due_31] at h
    refine lv_iload_n hx hb d_Ir_due_31 rfl (lv_at hl 0 rfl) ?_
    refine lv_aload_n hx hb d_Ir_due_32 rfl (lv_at hl 1 rfl) ?_
    refine gf_Ir_points hF hK hP m_134 d_Ir_due_33 ?_
    refine gn_Points_count hF hK hP mn_0 d_Ir_due_36 ?_
    refine lv_icmp_ge (tgt := 69) hx hb d_Ir_due_39 (by decide) (fun c39 => ?_) (fun c39 => ?_)
    · have h := h.1 c39
      refine lv_iconst (v := (-1)) hx hb d_Ir_due_69 (by decide) ?_
      have hv : ((none, (-1), ar, sc) : Option String × Int32 × (Nat → Nat → Int32) × (Nat → Int32)) = g_Ir_due_31 a0 a1 (n + 1) v3 ar sc := by rw [g_Ir_due_31, if_pos c39]
      exact W.widen (k := 1) (n := 6) (Nat.zero_le _) (Nat.zero_le _) (th_ret (W.iret (v := (-1)) hx hb hr (fun t ht hW => ⟨⟨(-1), (ar, sc), rfl, hv, by dsimp only; rw [ht]; exact hP⟩, hS.F ht⟩) hS.2.2 d_Ir_due_70))
    · have h := h.2 c39
      refine lv_aload_n hx hb d_Ir_due_42 rfl (lv_at hl 1 rfl) ?_
      refine lv_iload_n hx hb d_Ir_due_43 rfl (lv_at hl 0 rfl) ?_
      have k44 := h.1
      have h := h.2
      refine r_Ir_firstDueDay hF hK hP k44 m_180 hl.1 ⟨Nat.le_of_ble_eq_true rfl, Nat.le_of_ble_eq_true rfl⟩ ⟨Nat.zero_le _, Nat.zero_le _⟩ (Nat.le_of_ble_eq_true rfl) d_Ir_due_44 ?_
      refine lv_iload_n hx hb d_Ir_due_47 rfl (lv_at hl 2 rfl) ?_
      refine lv_icmp_gt (tgt := 63) hx hb d_Ir_due_48 (by decide) (fun c48 => ?_) (fun c48 => ?_)
      · have h := h.1 c48
        refine lv_iinc (v := v3 + 1) (lv' := [(3, .int (v3 + 1)), (0, .ref (L 0)), (1, .int a0), (2, .int a1)]) hx hb d_Ir_due_63 hl (k := 0) rfl rfl (by decide) rfl (fun ls hl => ?_)
        refine lv_goto (tgt := 31) hx hb d_Ir_due_66 (by decide) ?_
        have hv : g_Ir_due_31 a0 a1 (n + 1) v3 ar sc = g_Ir_due_31 a0 a1 n (v3 + 1) ar sc := by rw [g_Ir_due_31, if_neg c39, if_pos c48]
        rw [hv]
        exact ih (v3 + 1) ar sc h _ _ hP hS ls (lv_sub hl [0, 1, 2, 3] rfl)
      · have h := h.2 c48
        refine lv_aload_n hx hb d_Ir_due_51 rfl (lv_at hl 1 rfl) ?_
        refine lv_iload_n hx hb d_Ir_due_52 rfl (lv_at hl 0 rfl) ?_
        refine lv_iload_n hx hb d_Ir_due_53 rfl (lv_at hl 2 rfl) ?_
        have k54 := h.1
        have h := h.2
        refine r_Ir_countDueAhead hF hK hP k54 m_449 hl.1 ⟨Nat.le_of_ble_eq_true rfl, Nat.le_of_ble_eq_true rfl⟩ ⟨Nat.zero_le _, Nat.zero_le _⟩ (Nat.le_of_ble_eq_true rfl) d_Ir_due_54 ?_
        refine lv_iload_n hx hb d_Ir_due_57 rfl (lv_at hl 3 rfl) ?_
        refine lv_icmp_ne (tgt := 63) hx hb d_Ir_due_58 (by decide) (fun c58 => ?_) (fun c58 => ?_)
        · have h := h.2 c58
          refine lv_iinc (v := v3 + 1) (lv' := [(3, .int (v3 + 1)), (0, .ref (L 0)), (1, .int a0), (2, .int a1)]) hx hb d_Ir_due_63 hl (k := 0) rfl rfl (by decide) rfl (fun ls hl => ?_)
          refine lv_goto (tgt := 31) hx hb d_Ir_due_66 (by decide) ?_
          have hv : g_Ir_due_31 a0 a1 (n + 1) v3 ar sc = g_Ir_due_31 a0 a1 n (v3 + 1) ar sc := by rw [g_Ir_due_31, if_neg c39, if_neg c48, if_neg c58]
          rw [hv]
          exact ih (v3 + 1) ar sc h _ _ hP hS ls (lv_sub hl [0, 1, 2, 3] rfl)
        · have h := h.1 c58
          refine lv_iload_n hx hb d_Ir_due_61 rfl (lv_at hl 0 rfl) ?_
          have hv : ((none, v3, ar, sc) : Option String × Int32 × (Nat → Nat → Int32) × (Nat → Int32)) = g_Ir_due_31 a0 a1 (n + 1) v3 ar sc := by rw [g_Ir_due_31, if_neg c39, if_neg c48, if_pos c58]
          exact W.widen (k := 1) (n := 6) (Nat.zero_le _) (Nat.zero_le _) (th_ret (W.iret (v := v3) hx hb hr (fun t ht hW => ⟨⟨v3, (ar, sc), rfl, hv, by dsimp only; rw [ht]; exact hP⟩, hS.F ht⟩) hS.2.2 d_Ir_due_62))
set_option maxHeartbeats 4000000 in
set_option maxRecDepth 100000 in
theorem c_Ir_due (l : Launch) (hlt : l.stackTraces = false) (sa : Nat → Nat) (dC : Nat → ClassId) (dI : Nat → Nat → Nat) (L : Nat → Nat) (cA : Nat → ClassId) (ar : Nat → Nat → Int32) (sc : Nat → Int32) (a0 : Int32) (a1 : Int32) (hL : ij 38 L) (h : p_Ir_due ar sc a0 a1) : th_Both l y_Ir_due z_Ir_due (rmX 8) (va_Pc [.ref (L 0), .int a0, .int a1] (fun U => xw_I dC dI L cA ar sc U ∧ xz_I L sa U)) (va_Qi (fun (r : Int32) (u : oS) => (none, r, u.1, u.2) = f_Ir_due ar sc a0 a1) (fun u t => va_P (dC, dI) classes (wI L cA u.1 u.2) t.heap) (aI L)) (xC_I dC dI L cA (f_Ir_due ar sc a0 a1)) 1 6 (aI L) := by
  refine th_ofW (cc := b_Ir_due) (maxL := 4) (ret := (some .int)) (by decide) rfl ?_
  intro p e s m args below meth c s₁ B hml hnx hv
  obtain ⟨rfl, ⟨hP, hK⟩, hz⟩ := hv
  have hx := B.exec
  have hb := B.bytes
  have hr := B.returns
  have hts : ∀ w ∈ w_all, w.before _ s = true := fun w hw => atoms_spec (ws := z_Ir_due) B.pre w (List.mem_cons_of_mem _ hw)
  have hown : s.vm.findClass R_Ir = some m.cls := findClass_of_methodNamed B.named
  have hlocks := B.notSynchronized
  have hF : CallFix p m c b_Ir_due 4 s _ w_all R_Ir := ⟨hx, hb, hml, hown, hts⟩
  have hS : va_S (aI L) s.heap s.heap [] := va_S.rf
  have hl := lv_entry ([.ref (L 0), .int a0, .int a1]) (n := 4) (Nat.le_of_ble_eq_true rfl)
  rw [lg_entry_eq]
  generalize (lg_sl ([.ref (L 0), .int a0, .int a1]) ++ List.replicate (4 - (lg_sl ([.ref (L 0), .int a0, .int a1])).length) Slot.unset).toArray = ls at hl ⊢
  have hl : lv_has ls 4 [(0, .ref (L 0)), (1, .int a0), (2, .int a1)] := hl
  unfold p_Ir_due at h
  refine lv_iload_n hx hb d_Ir_due_0 rfl (lv_at hl 1 rfl) ?_
  refine lv_aload_n hx hb d_Ir_due_1 rfl (lv_at hl 0 rfl) ?_
  refine gf_Ir_today hF hK hP m_159 d_Ir_due_2 ?_
  refine lv_ldc (v := 99999) hx hb hown (hts _ m_441) d_Ir_due_5 ?_
  refine r_Ir_isWithin hF m_131 hl.1 ⟨Nat.le_of_ble_eq_true rfl, Nat.le_of_ble_eq_true rfl⟩ ⟨Nat.zero_le _, Nat.zero_le _⟩ (Nat.le_of_ble_eq_true rfl) d_Ir_due_7 ?_
  refine lv_if_eq (tgt := 21) hx hb d_Ir_due_10 (by decide) (fun c10 => ?_) (fun c10 => ?_)
  · have h := h.1 c10
    refine lv_iconst (v := 0) hx hb d_Ir_due_21 (by decide) ?_
    refine rq_requireRange hF hK hlt hz hS hl.1 hlocks hnx m_437 ⟨Nat.le_of_ble_eq_true rfl, Nat.le_of_ble_eq_true rfl⟩ ⟨Nat.le_refl _, Nat.le_refl _⟩ d_Ir_due_22 (fun c22 => xc_I hP hS (by rw [f_Ir_due, if_pos c10])) (fun c22 => absurd rfl c22)
  · have h := h.2 c10
    refine lv_iload_n hx hb d_Ir_due_13 rfl (lv_at hl 2 rfl) ?_
    refine lv_if_lt (tgt := 21) hx hb d_Ir_due_14 (by decide) (fun c14 => ?_) (fun c14 => ?_)
    · have h := h.1 c14
      refine lv_iconst (v := 0) hx hb d_Ir_due_21 (by decide) ?_
      refine rq_requireRange hF hK hlt hz hS hl.1 hlocks hnx m_437 ⟨Nat.le_of_ble_eq_true rfl, Nat.le_of_ble_eq_true rfl⟩ ⟨Nat.le_refl _, Nat.le_refl _⟩ d_Ir_due_22 (fun c22 => xc_I hP hS (by rw [f_Ir_due, if_neg c10, if_pos c14])) (fun c22 => absurd rfl c22)
    · have h := h.2 c14
      refine lv_iconst (v := 1) hx hb d_Ir_due_17 (by decide) ?_
      refine lv_goto (tgt := 22) hx hb d_Ir_due_18 (by decide) ?_
      refine rq_requireRange hF hK hlt hz hS hl.1 hlocks hnx m_437 ⟨Nat.le_of_ble_eq_true rfl, Nat.le_of_ble_eq_true rfl⟩ ⟨Nat.le_refl _, Nat.le_refl _⟩ d_Ir_due_22 (fun c22 => absurd c22 (by decide)) (fun c22 => ?_)
      refine lv_aload_n hx hb d_Ir_due_25 rfl (lv_at hl 0 rfl) ?_
      have k26 := h.1
      have h := h.2
      refine r_Ir_fillRisks hF hK hP hL hS k26 m_164 hl.1 ⟨Nat.le_of_ble_eq_true rfl, Nat.le_of_ble_eq_true rfl⟩ ⟨Nat.zero_le _, Nat.zero_le _⟩ (Nat.le_of_ble_eq_true rfl) d_Ir_due_26 (fun H locs hP hS => ?_)
      refine lv_iconst (v := 0) hx hb d_Ir_due_29 (by decide) ?_
      refine lv_istore_n (lv' := [(3, .int 0), (0, .ref (L 0)), (1, .int a0), (2, .int a1)]) hx hb d_Ir_due_30 rfl hl (by decide) rfl (fun ls hl => ?_)
      have kL31 := h
      have hv : f_Ir_due ar sc a0 a1 = g_Ir_due_31 a0 a1 200 0 ((f_Ir_fillRisks ar sc ).1) ((f_Ir_fillRisks ar sc ).2) := by rw [f_Ir_due, if_neg c10, if_neg c14]
      rw [hv]
      exact l_Ir_due_31 a0 a1 hF hK hL hr hlocks hlt hz hnx 200 0 ((f_Ir_fillRisks ar sc ).1) ((f_Ir_fillRisks ar sc ).2) kL31 _ _ hP hS ls (lv_sub hl [0, 1, 2, 3] rfl)
theorem d_Ir_question_0 : decode b_Ir_question 0 = .ok (.iload_n 1, 1) := by decide +kernel
theorem d_Ir_question_1 : decode b_Ir_question 1 = .ok (.iconst 0, 1) := by decide +kernel
theorem d_Ir_question_2 : decode b_Ir_question 2 = .ok (.bipush 15, 2) := by decide +kernel
theorem d_Ir_question_4 : decode b_Ir_question 4 = .ok (.invokestatic 67, 3) := by decide +kernel
theorem d_Ir_question_7 : decode b_Ir_question 7 = .ok (.invokestatic 63, 3) := by decide +kernel
theorem d_Ir_question_10 : decode b_Ir_question 10 = .ok (.iload_n 1, 1) := by decide +kernel
theorem d_Ir_question_11 : decode b_Ir_question 11 = .ok (.iload_n 2, 1) := by decide +kernel
theorem d_Ir_question_12 : decode b_Ir_question 12 = .ok (.invokestatic 149, 3) := by decide +kernel
theorem d_Ir_question_15 : decode b_Ir_question 15 = .ok (.ifCond .eq 15, 3) := by decide +kernel
theorem d_Ir_question_18 : decode b_Ir_question 18 = .ok (.iload_n 1, 1) := by decide +kernel
theorem d_Ir_question_19 : decode b_Ir_question 19 = .ok (.iload_n 3, 1) := by decide +kernel
theorem d_Ir_question_20 : decode b_Ir_question 20 = .ok (.invokestatic 149, 3) := by decide +kernel
theorem d_Ir_question_23 : decode b_Ir_question 23 = .ok (.ifCond .eq 7, 3) := by decide +kernel
theorem d_Ir_question_26 : decode b_Ir_question 26 = .ok (.iconst 1, 1) := by decide +kernel
theorem d_Ir_question_27 : decode b_Ir_question 27 = .ok (.goto 4, 3) := by decide +kernel
theorem d_Ir_question_30 : decode b_Ir_question 30 = .ok (.iconst 0, 1) := by decide +kernel
theorem d_Ir_question_31 : decode b_Ir_question 31 = .ok (.invokestatic 71, 3) := by decide +kernel
theorem d_Ir_question_34 : decode b_Ir_question 34 = .ok (.iload 4, 2) := by decide +kernel
theorem d_Ir_question_36 : decode b_Ir_question 36 = .ok (.iconst 0, 1) := by decide +kernel
theorem d_Ir_question_37 : decode b_Ir_question 37 = .ok (.bipush 50, 2) := by decide +kernel
theorem d_Ir_question_39 : decode b_Ir_question 39 = .ok (.invokestatic 67, 3) := by decide +kernel
theorem d_Ir_question_42 : decode b_Ir_question 42 = .ok (.invokestatic 71, 3) := by decide +kernel
theorem d_Ir_question_45 : decode b_Ir_question 45 = .ok (.aload_n 0, 1) := by decide +kernel
theorem d_Ir_question_46 : decode b_Ir_question 46 = .ok (.getfield 33, 3) := by decide +kernel
theorem d_Ir_question_49 : decode b_Ir_question 49 = .ok (.iload_n 1, 1) := by decide +kernel
theorem d_Ir_question_50 : decode b_Ir_question 50 = .ok (.iload_n 2, 1) := by decide +kernel
theorem d_Ir_question_51 : decode b_Ir_question 51 = .ok (.iload_n 3, 1) := by decide +kernel
theorem d_Ir_question_52 : decode b_Ir_question 52 = .ok (.iload 4, 2) := by decide +kernel
theorem d_Ir_question_54 : decode b_Ir_question 54 = .ok (.invokevirtual 152, 3) := by decide +kernel
theorem d_Ir_question_57 : decode b_Ir_question 57 = .ok (.return_, 1) := by decide +kernel
set_option maxHeartbeats 4000000 in
set_option maxRecDepth 100000 in
theorem c_Ir_question (l : Launch) (hlt : l.stackTraces = false) (sa : Nat → Nat) (dC : Nat → ClassId) (dI : Nat → Nat → Nat) (L : Nat → Nat) (cA : Nat → ClassId) (ar : Nat → Nat → Int32) (sc : Nat → Int32) (a0 : Int32) (a1 : Int32) (a2 : Int32) (a3 : Int32) (hL : ij 38 L) (h : p_Ir_question ar sc a0 a1 a2 a3) : th_Both l y_Ir_question z_Ir_question (rmX 8) (va_Pc [.ref (L 0), .int a0, .int a1, .int a2, .int a3] (fun U => xw_I dC dI L cA ar sc U ∧ xz_I L sa U)) (va_Qv (fun u : oS => (none, 0, u.1, u.2) = f_Ir_question ar sc a0 a1 a2 a3) (fun u t => va_P (dC, dI) classes (wI L cA u.1 u.2) t.heap) (aI L)) (xC_I dC dI L cA (f_Ir_question ar sc a0 a1 a2 a3)) 1 6 (aI L) := by
  refine th_ofW (cc := b_Ir_question) (maxL := 5) (ret := none) (by decide) rfl ?_
  intro p e s m args below meth c s₁ B hml hnx hv
  obtain ⟨rfl, ⟨hP, hK⟩, hz⟩ := hv
  have hx := B.exec
  have hb := B.bytes
  have hr := B.returns
  have hts : ∀ w ∈ w_all, w.before _ s = true := fun w hw => atoms_spec (ws := z_Ir_question) B.pre w (List.mem_cons_of_mem _ hw)
  have hown : s.vm.findClass R_Ir = some m.cls := findClass_of_methodNamed B.named
  have hlocks := B.notSynchronized
  have hF : CallFix p m c b_Ir_question 5 s _ w_all R_Ir := ⟨hx, hb, hml, hown, hts⟩
  have hS : va_S (aI L) s.heap s.heap [] := va_S.rf
  have hl := lv_entry ([.ref (L 0), .int a0, .int a1, .int a2, .int a3]) (n := 5) (Nat.le_of_ble_eq_true rfl)
  rw [lg_entry_eq]
  generalize (lg_sl ([.ref (L 0), .int a0, .int a1, .int a2, .int a3]) ++ List.replicate (5 - (lg_sl ([.ref (L 0), .int a0, .int a1, .int a2, .int a3])).length) Slot.unset).toArray = ls at hl ⊢
  have hl : lv_has ls 5 [(0, .ref (L 0)), (1, .int a0), (2, .int a1), (3, .int a2), (4, .int a3)] := hl
  unfold p_Ir_question at h
  refine lv_iload_n hx hb d_Ir_question_0 rfl (lv_at hl 1 rfl) ?_
  refine lv_iconst (v := 0) hx hb d_Ir_question_1 (by decide) ?_
  refine lv_bipush (v := 15) hx hb d_Ir_question_2 (by decide) ?_
  refine r_Ir_isWithin hF m_131 hl.1 ⟨Nat.le_of_ble_eq_true rfl, Nat.le_of_ble_eq_true rfl⟩ ⟨Nat.zero_le _, Nat.zero_le _⟩ (Nat.le_of_ble_eq_true rfl) d_Ir_question_4 ?_
  refine rq_requireKnown hF hK hlt hz hS hl.1 hlocks hnx m_436 ⟨Nat.le_of_ble_eq_true rfl, Nat.le_of_ble_eq_true rfl⟩ ⟨Nat.le_refl _, Nat.le_refl _⟩ d_Ir_question_7 (fun c7 => xc_I hP hS (by rw [f_Ir_question, if_pos c7])) (fun c7 => ?_)
  have h := h c7
  refine lv_iload_n hx hb d_Ir_question_10 rfl (lv_at hl 1 rfl) ?_
  refine lv_iload_n hx hb d_Ir_question_11 rfl (lv_at hl 2 rfl) ?_
  refine r_Ir_canLead hF m_450 hl.1 ⟨Nat.le_of_ble_eq_true rfl, Nat.le_of_ble_eq_true rfl⟩ ⟨Nat.zero_le _, Nat.zero_le _⟩ (Nat.le_of_ble_eq_true rfl) d_Ir_question_12 ?_
  refine lv_if_eq (tgt := 30) hx hb d_Ir_question_15 (by decide) (fun c15 => ?_) (fun c15 => ?_)
  · have h := h.1 c15
    refine lv_iconst (v := 0) hx hb d_Ir_question_30 (by decide) ?_
    refine rq_requireRange hF hK hlt hz hS hl.1 hlocks hnx m_437 ⟨Nat.le_of_ble_eq_true rfl, Nat.le_of_ble_eq_true rfl⟩ ⟨Nat.le_refl _, Nat.le_refl _⟩ d_Ir_question_31 (fun c31 => xc_I hP hS (by rw [f_Ir_question, if_neg c7, if_pos c15])) (fun c31 => absurd rfl c31)
  · have h := h.2 c15
    refine lv_iload_n hx hb d_Ir_question_18 rfl (lv_at hl 1 rfl) ?_
    refine lv_iload_n hx hb d_Ir_question_19 rfl (lv_at hl 3 rfl) ?_
    refine r_Ir_canLead hF m_450 hl.1 ⟨Nat.le_of_ble_eq_true rfl, Nat.le_of_ble_eq_true rfl⟩ ⟨Nat.zero_le _, Nat.zero_le _⟩ (Nat.le_of_ble_eq_true rfl) d_Ir_question_20 ?_
    refine lv_if_eq (tgt := 30) hx hb d_Ir_question_23 (by decide) (fun c23 => ?_) (fun c23 => ?_)
    · have h := h.1 c23
      refine lv_iconst (v := 0) hx hb d_Ir_question_30 (by decide) ?_
      refine rq_requireRange hF hK hlt hz hS hl.1 hlocks hnx m_437 ⟨Nat.le_of_ble_eq_true rfl, Nat.le_of_ble_eq_true rfl⟩ ⟨Nat.le_refl _, Nat.le_refl _⟩ d_Ir_question_31 (fun c31 => xc_I hP hS (by rw [f_Ir_question, if_neg c7, if_neg c15, if_pos c23])) (fun c31 => absurd rfl c31)
    · have h := h.2 c23
      refine lv_iconst (v := 1) hx hb d_Ir_question_26 (by decide) ?_
      refine lv_goto (tgt := 31) hx hb d_Ir_question_27 (by decide) ?_
      refine rq_requireRange hF hK hlt hz hS hl.1 hlocks hnx m_437 ⟨Nat.le_of_ble_eq_true rfl, Nat.le_of_ble_eq_true rfl⟩ ⟨Nat.le_refl _, Nat.le_refl _⟩ d_Ir_question_31 (fun c31 => absurd c31 (by decide)) (fun c31 => ?_)
      refine lv_iload hx hb d_Ir_question_34 (lv_at hl 4 rfl) ?_
      refine lv_iconst (v := 0) hx hb d_Ir_question_36 (by decide) ?_
      refine lv_bipush (v := 50) hx hb d_Ir_question_37 (by decide) ?_
      refine r_Ir_isWithin hF m_131 hl.1 ⟨Nat.le_of_ble_eq_true rfl, Nat.le_of_ble_eq_true rfl⟩ ⟨Nat.zero_le _, Nat.zero_le _⟩ (Nat.le_of_ble_eq_true rfl) d_Ir_question_39 ?_
      refine rq_requireRange hF hK hlt hz hS hl.1 hlocks hnx m_437 ⟨Nat.le_of_ble_eq_true rfl, Nat.le_of_ble_eq_true rfl⟩ ⟨Nat.le_refl _, Nat.le_refl _⟩ d_Ir_question_42 (fun c42 => xc_I hP hS (by rw [f_Ir_question, if_neg c7, if_neg c15, if_neg c23, if_pos c42])) (fun c42 => ?_)
      have h := h c42
      refine lv_aload_n hx hb d_Ir_question_45 rfl (lv_at hl 0 rfl) ?_
      refine gf_Ir_questions hF hK hP m_400 d_Ir_question_46 ?_
      refine lv_iload_n hx hb d_Ir_question_49 rfl (lv_at hl 1 rfl) ?_
      refine lv_iload_n hx hb d_Ir_question_50 rfl (lv_at hl 2 rfl) ?_
      refine lv_iload_n hx hb d_Ir_question_51 rfl (lv_at hl 3 rfl) ?_
      refine lv_iload hx hb d_Ir_question_52 (lv_at hl 4 rfl) ?_
      have k54 := h
      refine r_Questions_tell hF hK hP hL hS k54 m_451 hl.1 ⟨Nat.le_of_ble_eq_true rfl, Nat.le_of_ble_eq_true rfl⟩ ⟨Nat.zero_le _, Nat.zero_le _⟩ (Nat.le_of_ble_eq_true rfl) d_Ir_question_54 (fun H locs hP hS => ?_)
      have hv : ((none, 0, (f_Questions_tell ar sc a0 a1 a2 a3).1, (f_Questions_tell ar sc a0 a1 a2 a3).2) : Option String × Int32 × (Nat → Nat → Int32) × (Nat → Int32)) = f_Ir_question ar sc a0 a1 a2 a3 := by rw [f_Ir_question, if_neg c7, if_neg c15, if_neg c23, if_neg c42]
      exact W.widen (k := 1) (n := 6) (Nat.zero_le _) (Nat.zero_le _) (th_ret (W.vret hx hb hr (fun t ht hW => ⟨⟨((f_Questions_tell ar sc a0 a1 a2 a3).1, (f_Questions_tell ar sc a0 a1 a2 a3).2), rfl, hv, by dsimp only; rw [ht]; exact hP⟩, hS.F ht⟩) hS.2.2 d_Ir_question_57))
theorem d_Ir_list_0 : decode b_Ir_list 0 = .ok (.aload_n 0, 1) := by decide +kernel
theorem d_Ir_list_1 : decode b_Ir_list 1 = .ok (.iload_n 1, 1) := by decide +kernel
theorem d_Ir_list_2 : decode b_Ir_list 2 = .ok (.invokevirtual 98, 3) := by decide +kernel
theorem d_Ir_list_5 : decode b_Ir_list 5 = .ok (.invokestatic 63, 3) := by decide +kernel
theorem d_Ir_list_8 : decode b_Ir_list 8 = .ok (.aload_n 0, 1) := by decide +kernel
theorem d_Ir_list_9 : decode b_Ir_list 9 = .ok (.getfield 33, 3) := by decide +kernel
theorem d_Ir_list_12 : decode b_Ir_list 12 = .ok (.iload_n 2, 1) := by decide +kernel
theorem d_Ir_list_13 : decode b_Ir_list 13 = .ok (.invokevirtual 156, 3) := by decide +kernel
theorem d_Ir_list_16 : decode b_Ir_list 16 = .ok (.invokestatic 118, 3) := by decide +kernel
theorem d_Ir_list_19 : decode b_Ir_list 19 = .ok (.aload_n 0, 1) := by decide +kernel
theorem d_Ir_list_20 : decode b_Ir_list 20 = .ok (.getfield 26, 3) := by decide +kernel
theorem d_Ir_list_23 : decode b_Ir_list 23 = .ok (.getfield 104, 3) := by decide +kernel
theorem d_Ir_list_26 : decode b_Ir_list 26 = .ok (.aload_n 0, 1) := by decide +kernel
theorem d_Ir_list_27 : decode b_Ir_list 27 = .ok (.getfield 33, 3) := by decide +kernel
theorem d_Ir_list_30 : decode b_Ir_list 30 = .ok (.getfield 159, 3) := by decide +kernel
theorem d_Ir_list_33 : decode b_Ir_list 33 = .ok (.iadd, 1) := by decide +kernel
theorem d_Ir_list_34 : decode b_Ir_list 34 = .ok (.bipush 100, 2) := by decide +kernel
theorem d_Ir_list_36 : decode b_Ir_list 36 = .ok (.if_icmp .gt 7, 3) := by decide +kernel
theorem d_Ir_list_39 : decode b_Ir_list 39 = .ok (.iconst 1, 1) := by decide +kernel
theorem d_Ir_list_40 : decode b_Ir_list 40 = .ok (.goto 4, 3) := by decide +kernel
theorem d_Ir_list_43 : decode b_Ir_list 43 = .ok (.iconst 0, 1) := by decide +kernel
theorem d_Ir_list_44 : decode b_Ir_list 44 = .ok (.invokestatic 90, 3) := by decide +kernel
theorem d_Ir_list_47 : decode b_Ir_list 47 = .ok (.aload_n 0, 1) := by decide +kernel
theorem d_Ir_list_48 : decode b_Ir_list 48 = .ok (.getfield 55, 3) := by decide +kernel
theorem d_Ir_list_51 : decode b_Ir_list 51 = .ok (.aload_n 0, 1) := by decide +kernel
theorem d_Ir_list_52 : decode b_Ir_list 52 = .ok (.getfield 10, 3) := by decide +kernel
theorem d_Ir_list_55 : decode b_Ir_list 55 = .ok (.getfield 84, 3) := by decide +kernel
theorem d_Ir_list_58 : decode b_Ir_list 58 = .ok (.aload_n 0, 1) := by decide +kernel
theorem d_Ir_list_59 : decode b_Ir_list 59 = .ok (.iload_n 1, 1) := by decide +kernel
theorem d_Ir_list_60 : decode b_Ir_list 60 = .ok (.invokevirtual 105, 3) := by decide +kernel
theorem d_Ir_list_63 : decode b_Ir_list 63 = .ok (.iaload, 1) := by decide +kernel
theorem d_Ir_list_64 : decode b_Ir_list 64 = .ok (.iadd, 1) := by decide +kernel
theorem d_Ir_list_65 : decode b_Ir_list 65 = .ok (.istore_n 3, 1) := by decide +kernel
theorem d_Ir_list_66 : decode b_Ir_list 66 = .ok (.iconst 0, 1) := by decide +kernel
theorem d_Ir_list_67 : decode b_Ir_list 67 = .ok (.istore 4, 2) := by decide +kernel
theorem d_Ir_list_69 : decode b_Ir_list 69 = .ok (.iload 4, 2) := by decide +kernel
theorem d_Ir_list_71 : decode b_Ir_list 71 = .ok (.aload_n 0, 1) := by decide +kernel
theorem d_Ir_list_72 : decode b_Ir_list 72 = .ok (.getfield 33, 3) := by decide +kernel
theorem d_Ir_list_75 : decode b_Ir_list 75 = .ok (.getfield 159, 3) := by decide +kernel
theorem d_Ir_list_78 : decode b_Ir_list 78 = .ok (.if_icmp .ge 29, 3) := by decide +kernel
theorem d_Ir_list_81 : decode b_Ir_list 81 = .ok (.aload_n 0, 1) := by decide +kernel
theorem d_Ir_list_82 : decode b_Ir_list 82 = .ok (.getfield 26, 3) := by decide +kernel
theorem d_Ir_list_85 : decode b_Ir_list 85 = .ok (.iload_n 1, 1) := by decide +kernel
theorem d_Ir_list_86 : decode b_Ir_list 86 = .ok (.aload_n 0, 1) := by decide +kernel
theorem d_Ir_list_87 : decode b_Ir_list 87 = .ok (.getfield 33, 3) := by decide +kernel
theorem d_Ir_list_90 : decode b_Ir_list 90 = .ok (.getfield 162, 3) := by decide +kernel
theorem d_Ir_list_93 : decode b_Ir_list 93 = .ok (.iload 4, 2) := by decide +kernel
theorem d_Ir_list_95 : decode b_Ir_list 95 = .ok (.iaload, 1) := by decide +kernel
theorem d_Ir_list_96 : decode b_Ir_list 96 = .ok (.iload_n 3, 1) := by decide +kernel
theorem d_Ir_list_97 : decode b_Ir_list 97 = .ok (.invokevirtual 109, 3) := by decide +kernel
theorem d_Ir_list_100 : decode b_Ir_list 100 = .ok (.pop, 1) := by decide +kernel
theorem d_Ir_list_101 : decode b_Ir_list 101 = .ok (.iinc 4 1, 3) := by decide +kernel
theorem d_Ir_list_104 : decode b_Ir_list 104 = .ok (.goto (-35), 3) := by decide +kernel
theorem d_Ir_list_107 : decode b_Ir_list 107 = .ok (.aload_n 0, 1) := by decide +kernel
theorem d_Ir_list_108 : decode b_Ir_list 108 = .ok (.getfield 33, 3) := by decide +kernel
theorem d_Ir_list_111 : decode b_Ir_list 111 = .ok (.getfield 159, 3) := by decide +kernel
theorem d_Ir_list_114 : decode b_Ir_list 114 = .ok (.ireturn, 1) := by decide +kernel
set_option maxHeartbeats 4000000 in
set_option maxRecDepth 100000 in
theorem l_Ir_list_69 {p : Program} {l : Launch} {e : Env} {s : State} {m : MethodId} {args : Array Value} {below : List Frame} {meth : Method} {c : Code} {dC : Nat → ClassId} {dI : Nat → Nat → Nat} {L : Nat → Nat} {cA : Nat → ClassId} {Q : State → Prop} (a0 : Int32) (a1 : Int32) (u3 : Int32) (hF : CallFix p m c b_Ir_list 5 s args w_all R_Ir) (hK : kW_I dC dI cA s) (hL : ij 38 L) {sa : Nat → Nat} (hlt : l.stackTraces = false) (hz : xz_I L sa s) (hnx : ∀ x ∈ c.exceptionTable.toList, False) : ∀ (n : Nat) (v4 : Int32) (ar : Nat → Nat → Int32) (sc : Nat → Int32), q_Ir_list_69 a0 a1 u3 n v4 ar sc → ∀ (H : Heap) (locs : List Loc), va_P (dC, dI) classes (wI L cA ar sc) H → va_S (aI L) s.heap H locs → ∀ (ls : Array Slot), lv_has ls 5 [(4, .int v4), (0, .ref (L 0)), (1, .int a0), (2, .int a1), (3, .int u3)] → (∀ (H : Heap) (locs : List Loc) (ls : Array Slot), va_P (dC, dI) classes (wI L cA ((g_Ir_list_69 a0 a1 u3 n v4 ar sc).2.1) ((g_Ir_list_69 a0 a1 u3 n v4 ar sc).2.2)) H → va_S (aI L) s.heap H locs → lv_has ls 5 [(4, .int ((g_Ir_list_69 a0 a1 u3 n v4 ar sc).1)), (0, .ref (L 0)), (1, .int a0), (2, .int a1), (3, .int u3)] → W p l e (rmX 8) s m args below meth c H locs 0 0 Q (F0 m 107 ls [])) → W p l e (rmX 8) s m args below meth c H locs 0 0 Q (F0 m 69 ls []) := by
  have hx := hF.1
  have hb := hF.2.1
  have hown := hF.2.2.2.1
  have hts := hF.2.2.2.2
  intro n
  induction n with
  | zero => intro v4 ar sc h; exact False.elim h
  | succ n ih =>
    intro v4 ar sc h H locs hP hS ls hl hk
    rw [q_Ir_list_69] at h
    refine lv_iload hx hb d_Ir_list_69 (lv_at hl 0 rfl) ?_
    refine lv_aload_n hx hb d_Ir_list_71 rfl (lv_at hl 1 rfl) ?_
    refine gf_Ir_questions hF hK hP m_400 d_Ir_list_72 ?_
    refine gn_Questions_foundCount hF hK hP mn_12 d_Ir_list_75 ?_
    refine lv_icmp_ge (tgt := 107) hx hb d_Ir_list_78 (by decide) (fun c78 => ?_) (fun c78 => ?_)
    · have h := h.1 c78
      have hv : g_Ir_list_69 a0 a1 u3 (n + 1) v4 ar sc = ((v4, ar, sc) : Int32 × (Nat → Nat → Int32) × (Nat → Int32)) := by rw [g_Ir_list_69, if_pos c78]
      rw [hv] at hk
      exact hk _ _ ls hP hS (lv_sub hl [0, 1, 2, 3, 4] rfl)
    · have h := h.2 c78
      refine lv_aload_n hx hb d_Ir_list_81 rfl (lv_at hl 1 rfl) ?_
      refine gf_Ir_findings hF hK hP m_138 d_Ir_list_82 ?_
      refine lv_iload_n hx hb d_Ir_list_85 rfl (lv_at hl 2 rfl) ?_
      refine lv_aload_n hx hb d_Ir_list_86 rfl (lv_at hl 1 rfl) ?_
      refine gf_Ir_questions hF hK hP m_400 d_Ir_list_87 ?_
      refine gn_Questions_found hF hK hP mn_13 d_Ir_list_90 ?_
      refine lv_iload hx hb d_Ir_list_93 (lv_at hl 0 rfl) ?_
      have k95 := h.1
      have h := h.2
      refine alI_22 hF hK hP k95 d_Ir_list_95 ?_
      refine lv_iload_n hx hb d_Ir_list_96 rfl (lv_at hl 4 rfl) ?_
      have k97 := h.1
      have h := h.2
      refine r_Findings_add hF hK hP hL hS k97 m_442 hl.1 ⟨Nat.le_of_ble_eq_true rfl, Nat.le_of_ble_eq_true rfl⟩ ⟨Nat.zero_le _, Nat.zero_le _⟩ (Nat.le_of_ble_eq_true rfl) d_Ir_list_97 (fun H locs hP hS => ?_)
      refine lv_pop hx hb d_Ir_list_100 rfl ?_
      refine lv_iinc (v := v4 + 1) (lv' := [(4, .int (v4 + 1)), (0, .ref (L 0)), (1, .int a0), (2, .int a1), (3, .int u3)]) hx hb d_Ir_list_101 hl (k := 0) rfl rfl (by decide) rfl (fun ls hl => ?_)
      refine lv_goto (tgt := 69) hx hb d_Ir_list_104 (by decide) ?_
      have hv : g_Ir_list_69 a0 a1 u3 (n + 1) v4 ar sc = g_Ir_list_69 a0 a1 u3 n (v4 + 1) ((f_Findings_add ar sc a0 (ar 22 v4.toNatClampNeg) u3).2.1) ((f_Findings_add ar sc a0 (ar 22 v4.toNatClampNeg) u3).2.2) := by rw [g_Ir_list_69, if_neg c78]
      rw [hv] at hk
      exact ih (v4 + 1) ((f_Findings_add ar sc a0 (ar 22 v4.toNatClampNeg) u3).2.1) ((f_Findings_add ar sc a0 (ar 22 v4.toNatClampNeg) u3).2.2) h _ _ hP hS ls (lv_sub hl [0, 1, 2, 3, 4] rfl) hk
set_option maxHeartbeats 4000000 in
set_option maxRecDepth 100000 in
theorem c_Ir_list (l : Launch) (hlt : l.stackTraces = false) (sa : Nat → Nat) (dC : Nat → ClassId) (dI : Nat → Nat → Nat) (L : Nat → Nat) (cA : Nat → ClassId) (ar : Nat → Nat → Int32) (sc : Nat → Int32) (a0 : Int32) (a1 : Int32) (hL : ij 38 L) (h : p_Ir_list ar sc a0 a1) : th_Both l y_Ir_list z_Ir_list (rmX 8) (va_Pc [.ref (L 0), .int a0, .int a1] (fun U => xw_I dC dI L cA ar sc U ∧ xz_I L sa U)) (va_Qi (fun (r : Int32) (u : oS) => (none, r, u.1, u.2) = f_Ir_list ar sc a0 a1) (fun u t => va_P (dC, dI) classes (wI L cA u.1 u.2) t.heap) (aI L)) (xC_I dC dI L cA (f_Ir_list ar sc a0 a1)) 1 6 (aI L) := by
  refine th_ofW (cc := b_Ir_list) (maxL := 5) (ret := (some .int)) (by decide) rfl ?_
  intro p e s m args below meth c s₁ B hml hnx hv
  obtain ⟨rfl, ⟨hP, hK⟩, hz⟩ := hv
  have hx := B.exec
  have hb := B.bytes
  have hr := B.returns
  have hts : ∀ w ∈ w_all, w.before _ s = true := fun w hw => atoms_spec (ws := z_Ir_list) B.pre w (List.mem_cons_of_mem _ hw)
  have hown : s.vm.findClass R_Ir = some m.cls := findClass_of_methodNamed B.named
  have hlocks := B.notSynchronized
  have hF : CallFix p m c b_Ir_list 5 s _ w_all R_Ir := ⟨hx, hb, hml, hown, hts⟩
  have hS : va_S (aI L) s.heap s.heap [] := va_S.rf
  have hl := lv_entry ([.ref (L 0), .int a0, .int a1]) (n := 5) (Nat.le_of_ble_eq_true rfl)
  rw [lg_entry_eq]
  generalize (lg_sl ([.ref (L 0), .int a0, .int a1]) ++ List.replicate (5 - (lg_sl ([.ref (L 0), .int a0, .int a1])).length) Slot.unset).toArray = ls at hl ⊢
  have hl : lv_has ls 5 [(0, .ref (L 0)), (1, .int a0), (2, .int a1)] := hl
  unfold p_Ir_list at h
  refine lv_aload_n hx hb d_Ir_list_0 rfl (lv_at hl 0 rfl) ?_
  refine lv_iload_n hx hb d_Ir_list_1 rfl (lv_at hl 1 rfl) ?_
  refine r_Ir_isPoint hF hK hP m_151 hl.1 ⟨Nat.le_of_ble_eq_true rfl, Nat.le_of_ble_eq_true rfl⟩ ⟨Nat.zero_le _, Nat.zero_le _⟩ (Nat.le_of_ble_eq_true rfl) d_Ir_list_2 ?_
  refine rq_requireKnown hF hK hlt hz hS hl.1 hlocks hnx m_436 ⟨Nat.le_of_ble_eq_true rfl, Nat.le_of_ble_eq_true rfl⟩ ⟨Nat.le_refl _, Nat.le_refl _⟩ d_Ir_list_5 (fun c5 => xc_I hP hS (by rw [f_Ir_list, if_pos c5])) (fun c5 => ?_)
  have h := h c5
  refine lv_aload_n hx hb d_Ir_list_8 rfl (lv_at hl 0 rfl) ?_
  refine gf_Ir_questions hF hK hP m_400 d_Ir_list_9 ?_
  refine lv_iload_n hx hb d_Ir_list_12 rfl (lv_at hl 2 rfl) ?_
  have k13 := h.1
  have h := h.2
  refine r_Questions_answer hF hK hP hL hS k13 m_452 hl.1 ⟨Nat.le_of_ble_eq_true rfl, Nat.le_of_ble_eq_true rfl⟩ ⟨Nat.zero_le _, Nat.zero_le _⟩ (Nat.le_of_ble_eq_true rfl) d_Ir_list_13 (fun H locs hP hS => ?_)
  refine rq_requireState hF hK hlt hz hS hl.1 hlocks hnx m_446 ⟨Nat.le_of_ble_eq_true rfl, Nat.le_of_ble_eq_true rfl⟩ ⟨Nat.le_refl _, Nat.le_refl _⟩ d_Ir_list_16 (fun c16 => xc_I hP hS (by rw [f_Ir_list, if_neg c5, if_pos c16])) (fun c16 => ?_)
  have h := h c16
  refine lv_aload_n hx hb d_Ir_list_19 rfl (lv_at hl 0 rfl) ?_
  refine gf_Ir_findings hF hK hP m_138 d_Ir_list_20 ?_
  refine gn_Findings_count hF hK hP mn_1 d_Ir_list_23 ?_
  refine lv_aload_n hx hb d_Ir_list_26 rfl (lv_at hl 0 rfl) ?_
  refine gf_Ir_questions hF hK hP m_400 d_Ir_list_27 ?_
  refine gn_Questions_foundCount hF hK hP mn_12 d_Ir_list_30 ?_
  refine lv_iadd hx hb d_Ir_list_33 ?_
  refine lv_bipush (v := 100) hx hb d_Ir_list_34 (by decide) ?_
  refine lv_icmp_gt (tgt := 43) hx hb d_Ir_list_36 (by decide) (fun c36 => ?_) (fun c36 => ?_)
  · have h := h.1 c36
    refine lv_iconst (v := 0) hx hb d_Ir_list_43 (by decide) ?_
    refine rq_requireRoom hF hK hlt hz hS hl.1 hlocks hnx m_439 ⟨Nat.le_of_ble_eq_true rfl, Nat.le_of_ble_eq_true rfl⟩ ⟨Nat.le_refl _, Nat.le_refl _⟩ d_Ir_list_44 (fun c44 => xc_I hP hS (by rw [f_Ir_list, if_neg c5, if_neg c16, if_pos c36])) (fun c44 => absurd rfl c44)
  · have h := h.2 c36
    refine lv_iconst (v := 1) hx hb d_Ir_list_39 (by decide) ?_
    refine lv_goto (tgt := 44) hx hb d_Ir_list_40 (by decide) ?_
    refine rq_requireRoom hF hK hlt hz hS hl.1 hlocks hnx m_439 ⟨Nat.le_of_ble_eq_true rfl, Nat.le_of_ble_eq_true rfl⟩ ⟨Nat.le_refl _, Nat.le_refl _⟩ d_Ir_list_44 (fun c44 => absurd c44 (by decide)) (fun c44 => ?_)
    refine lv_aload_n hx hb d_Ir_list_47 rfl (lv_at hl 0 rfl) ?_
    refine gf_Ir_today hF hK hP m_159 d_Ir_list_48 ?_
    refine lv_aload_n hx hb d_Ir_list_51 rfl (lv_at hl 0 rfl) ?_
    refine gf_Ir_scale hF hK hP m_158 d_Ir_list_52 ?_
    refine gn_Scale_times hF hK hP mn_9 d_Ir_list_55 ?_
    refine lv_aload_n hx hb d_Ir_list_58 rfl (lv_at hl 0 rfl) ?_
    refine lv_iload_n hx hb d_Ir_list_59 rfl (lv_at hl 1 rfl) ?_
    have k60 := h.1
    have h := h.2
    refine r_Ir_classOf hF hK hP hL hS k60 m_443 hl.1 ⟨Nat.le_of_ble_eq_true rfl, Nat.le_of_ble_eq_true rfl⟩ ⟨Nat.zero_le _, Nat.zero_le _⟩ (Nat.le_of_ble_eq_true rfl) d_Ir_list_60 (fun H locs hP hS => ?_)
    have k63 := h.1
    have h := h.2
    refine alI_5 hF hK hP k63 d_Ir_list_63 ?_
    refine lv_iadd hx hb d_Ir_list_64 ?_
    refine lv_istore_n (lv' := [(3, .int ((((f_Questions_answer ar sc a1).2.2) 0) + (((f_Ir_classOf ((f_Questions_answer ar sc a1).2.1) ((f_Questions_answer ar sc a1).2.2) a0).2.1) 5 (((f_Ir_classOf ((f_Questions_answer ar sc a1).2.1) ((f_Questions_answer ar sc a1).2.2) a0).1).toNatClampNeg)))), (0, .ref (L 0)), (1, .int a0), (2, .int a1)]) hx hb d_Ir_list_65 rfl hl (by decide) rfl (fun ls hl => ?_)
    refine lv_iconst (v := 0) hx hb d_Ir_list_66 (by decide) ?_
    refine lv_istore (lv' := [(4, .int 0), (3, .int ((((f_Questions_answer ar sc a1).2.2) 0) + (((f_Ir_classOf ((f_Questions_answer ar sc a1).2.1) ((f_Questions_answer ar sc a1).2.2) a0).2.1) 5 (((f_Ir_classOf ((f_Questions_answer ar sc a1).2.1) ((f_Questions_answer ar sc a1).2.2) a0).1).toNatClampNeg)))), (0, .ref (L 0)), (1, .int a0), (2, .int a1)]) hx hb d_Ir_list_67 hl (by decide) rfl (fun ls hl => ?_)
    have kL69 := h
    refine l_Ir_list_69 a0 a1 ((((f_Questions_answer ar sc a1).2.2) 0) + (((f_Ir_classOf ((f_Questions_answer ar sc a1).2.1) ((f_Questions_answer ar sc a1).2.2) a0).2.1) 5 (((f_Ir_classOf ((f_Questions_answer ar sc a1).2.1) ((f_Questions_answer ar sc a1).2.2) a0).1).toNatClampNeg))) hF hK hL hlt hz hnx 200 0 ((f_Ir_classOf ((f_Questions_answer ar sc a1).2.1) ((f_Questions_answer ar sc a1).2.2) a0).2.1) ((f_Ir_classOf ((f_Questions_answer ar sc a1).2.1) ((f_Questions_answer ar sc a1).2.2) a0).2.2) kL69 _ _ hP hS ls (lv_sub hl [0, 2, 3, 4, 1] rfl) (fun H locs ls hP hS hl => ?_)
    refine lv_aload_n hx hb d_Ir_list_107 rfl (lv_at hl 1 rfl) ?_
    refine gf_Ir_questions hF hK hP m_400 d_Ir_list_108 ?_
    refine gn_Questions_foundCount hF hK hP mn_12 d_Ir_list_111 ?_
    have hv : ((none, ((g_Ir_list_69 a0 a1 ((((f_Questions_answer ar sc a1).2.2) 0) + (((f_Ir_classOf ((f_Questions_answer ar sc a1).2.1) ((f_Questions_answer ar sc a1).2.2) a0).2.1) 5 (((f_Ir_classOf ((f_Questions_answer ar sc a1).2.1) ((f_Questions_answer ar sc a1).2.2) a0).1).toNatClampNeg))) 200 0 ((f_Ir_classOf ((f_Questions_answer ar sc a1).2.1) ((f_Questions_answer ar sc a1).2.2) a0).2.1) ((f_Ir_classOf ((f_Questions_answer ar sc a1).2.1) ((f_Questions_answer ar sc a1).2.2) a0).2.2)).2.2) 3, (g_Ir_list_69 a0 a1 ((((f_Questions_answer ar sc a1).2.2) 0) + (((f_Ir_classOf ((f_Questions_answer ar sc a1).2.1) ((f_Questions_answer ar sc a1).2.2) a0).2.1) 5 (((f_Ir_classOf ((f_Questions_answer ar sc a1).2.1) ((f_Questions_answer ar sc a1).2.2) a0).1).toNatClampNeg))) 200 0 ((f_Ir_classOf ((f_Questions_answer ar sc a1).2.1) ((f_Questions_answer ar sc a1).2.2) a0).2.1) ((f_Ir_classOf ((f_Questions_answer ar sc a1).2.1) ((f_Questions_answer ar sc a1).2.2) a0).2.2)).2.1, (g_Ir_list_69 a0 a1 ((((f_Questions_answer ar sc a1).2.2) 0) + (((f_Ir_classOf ((f_Questions_answer ar sc a1).2.1) ((f_Questions_answer ar sc a1).2.2) a0).2.1) 5 (((f_Ir_classOf ((f_Questions_answer ar sc a1).2.1) ((f_Questions_answer ar sc a1).2.2) a0).1).toNatClampNeg))) 200 0 ((f_Ir_classOf ((f_Questions_answer ar sc a1).2.1) ((f_Questions_answer ar sc a1).2.2) a0).2.1) ((f_Ir_classOf ((f_Questions_answer ar sc a1).2.1) ((f_Questions_answer ar sc a1).2.2) a0).2.2)).2.2) : Option String × Int32 × (Nat → Nat → Int32) × (Nat → Int32)) = f_Ir_list ar sc a0 a1 := by rw [f_Ir_list, if_neg c5, if_neg c16, if_neg c36]
    exact W.widen (k := 1) (n := 6) (Nat.zero_le _) (Nat.zero_le _) (th_ret (W.iret (v := ((g_Ir_list_69 a0 a1 ((((f_Questions_answer ar sc a1).2.2) 0) + (((f_Ir_classOf ((f_Questions_answer ar sc a1).2.1) ((f_Questions_answer ar sc a1).2.2) a0).2.1) 5 (((f_Ir_classOf ((f_Questions_answer ar sc a1).2.1) ((f_Questions_answer ar sc a1).2.2) a0).1).toNatClampNeg))) 200 0 ((f_Ir_classOf ((f_Questions_answer ar sc a1).2.1) ((f_Questions_answer ar sc a1).2.2) a0).2.1) ((f_Ir_classOf ((f_Questions_answer ar sc a1).2.1) ((f_Questions_answer ar sc a1).2.2) a0).2.2)).2.2) 3) hx hb hr (fun t ht hW => ⟨⟨((g_Ir_list_69 a0 a1 ((((f_Questions_answer ar sc a1).2.2) 0) + (((f_Ir_classOf ((f_Questions_answer ar sc a1).2.1) ((f_Questions_answer ar sc a1).2.2) a0).2.1) 5 (((f_Ir_classOf ((f_Questions_answer ar sc a1).2.1) ((f_Questions_answer ar sc a1).2.2) a0).1).toNatClampNeg))) 200 0 ((f_Ir_classOf ((f_Questions_answer ar sc a1).2.1) ((f_Questions_answer ar sc a1).2.2) a0).2.1) ((f_Ir_classOf ((f_Questions_answer ar sc a1).2.1) ((f_Questions_answer ar sc a1).2.2) a0).2.2)).2.2) 3, ((g_Ir_list_69 a0 a1 ((((f_Questions_answer ar sc a1).2.2) 0) + (((f_Ir_classOf ((f_Questions_answer ar sc a1).2.1) ((f_Questions_answer ar sc a1).2.2) a0).2.1) 5 (((f_Ir_classOf ((f_Questions_answer ar sc a1).2.1) ((f_Questions_answer ar sc a1).2.2) a0).1).toNatClampNeg))) 200 0 ((f_Ir_classOf ((f_Questions_answer ar sc a1).2.1) ((f_Questions_answer ar sc a1).2.2) a0).2.1) ((f_Ir_classOf ((f_Questions_answer ar sc a1).2.1) ((f_Questions_answer ar sc a1).2.2) a0).2.2)).2.1, (g_Ir_list_69 a0 a1 ((((f_Questions_answer ar sc a1).2.2) 0) + (((f_Ir_classOf ((f_Questions_answer ar sc a1).2.1) ((f_Questions_answer ar sc a1).2.2) a0).2.1) 5 (((f_Ir_classOf ((f_Questions_answer ar sc a1).2.1) ((f_Questions_answer ar sc a1).2.2) a0).1).toNatClampNeg))) 200 0 ((f_Ir_classOf ((f_Questions_answer ar sc a1).2.1) ((f_Questions_answer ar sc a1).2.2) a0).2.1) ((f_Ir_classOf ((f_Questions_answer ar sc a1).2.1) ((f_Questions_answer ar sc a1).2.2) a0).2.2)).2.2), rfl, hv, by dsimp only; rw [ht]; exact hP⟩, hS.F ht⟩) hS.2.2 d_Ir_list_114))
theorem d_Ir_walk_0 : decode b_Ir_walk 0 = .ok (.aload_n 0, 1) := by decide +kernel
theorem d_Ir_walk_1 : decode b_Ir_walk 1 = .ok (.lload_n 1, 1) := by decide +kernel
theorem d_Ir_walk_2 : decode b_Ir_walk 2 = .ok (.iload_n 3, 1) := by decide +kernel
theorem d_Ir_walk_3 : decode b_Ir_walk 3 = .ok (.bipush 7, 2) := by decide +kernel
theorem d_Ir_walk_5 : decode b_Ir_walk 5 = .ok (.invokestatic 165, 3) := by decide +kernel
theorem d_Ir_walk_8 : decode b_Ir_walk 8 = .ok (.invokevirtual 170, 3) := by decide +kernel
theorem d_Ir_walk_11 : decode b_Ir_walk 11 = .ok (.invokestatic 63, 3) := by decide +kernel
theorem d_Ir_walk_14 : decode b_Ir_walk 14 = .ok (.iload_n 3, 1) := by decide +kernel
theorem d_Ir_walk_15 : decode b_Ir_walk 15 = .ok (.iconst 0, 1) := by decide +kernel
theorem d_Ir_walk_16 : decode b_Ir_walk 16 = .ok (.bipush 7, 2) := by decide +kernel
theorem d_Ir_walk_18 : decode b_Ir_walk 18 = .ok (.invokestatic 67, 3) := by decide +kernel
theorem d_Ir_walk_21 : decode b_Ir_walk 21 = .ok (.invokestatic 71, 3) := by decide +kernel
theorem d_Ir_walk_24 : decode b_Ir_walk 24 = .ok (.lload_n 1, 1) := by decide +kernel
theorem d_Ir_walk_25 : decode b_Ir_walk 25 = .ok (.iload_n 3, 1) := by decide +kernel
theorem d_Ir_walk_26 : decode b_Ir_walk 26 = .ok (.invokestatic 174, 3) := by decide +kernel
theorem d_Ir_walk_29 : decode b_Ir_walk 29 = .ok (.invokestatic 71, 3) := by decide +kernel
theorem d_Ir_walk_32 : decode b_Ir_walk 32 = .ok (.iconst 0, 1) := by decide +kernel
theorem d_Ir_walk_33 : decode b_Ir_walk 33 = .ok (.istore 4, 2) := by decide +kernel
theorem d_Ir_walk_35 : decode b_Ir_walk 35 = .ok (.iload 4, 2) := by decide +kernel
theorem d_Ir_walk_37 : decode b_Ir_walk 37 = .ok (.iload_n 3, 1) := by decide +kernel
theorem d_Ir_walk_38 : decode b_Ir_walk 38 = .ok (.if_icmp .ge 48, 3) := by decide +kernel
theorem d_Ir_walk_41 : decode b_Ir_walk 41 = .ok (.lload_n 1, 1) := by decide +kernel
theorem d_Ir_walk_42 : decode b_Ir_walk 42 = .ok (.iload 4, 2) := by decide +kernel
theorem d_Ir_walk_44 : decode b_Ir_walk 44 = .ok (.invokestatic 177, 3) := by decide +kernel
theorem d_Ir_walk_47 : decode b_Ir_walk 47 = .ok (.istore 5, 2) := by decide +kernel
theorem d_Ir_walk_49 : decode b_Ir_walk 49 = .ok (.aload_n 0, 1) := by decide +kernel
theorem d_Ir_walk_50 : decode b_Ir_walk 50 = .ok (.getfield 40, 3) := by decide +kernel
theorem d_Ir_walk_53 : decode b_Ir_walk 53 = .ok (.iload 4, 2) := by decide +kernel
theorem d_Ir_walk_55 : decode b_Ir_walk 55 = .ok (.iload 5, 2) := by decide +kernel
theorem d_Ir_walk_57 : decode b_Ir_walk 57 = .ok (.aload_n 0, 1) := by decide +kernel
theorem d_Ir_walk_58 : decode b_Ir_walk 58 = .ok (.getfield 19, 3) := by decide +kernel
theorem d_Ir_walk_61 : decode b_Ir_walk 61 = .ok (.getfield 181, 3) := by decide +kernel
theorem d_Ir_walk_64 : decode b_Ir_walk 64 = .ok (.iload 5, 2) := by decide +kernel
theorem d_Ir_walk_66 : decode b_Ir_walk 66 = .ok (.iaload, 1) := by decide +kernel
theorem d_Ir_walk_67 : decode b_Ir_walk 67 = .ok (.aload_n 0, 1) := by decide +kernel
theorem d_Ir_walk_68 : decode b_Ir_walk 68 = .ok (.getfield 19, 3) := by decide +kernel
theorem d_Ir_walk_71 : decode b_Ir_walk 71 = .ok (.getfield 184, 3) := by decide +kernel
theorem d_Ir_walk_74 : decode b_Ir_walk 74 = .ok (.iload 5, 2) := by decide +kernel
theorem d_Ir_walk_76 : decode b_Ir_walk 76 = .ok (.iaload, 1) := by decide +kernel
theorem d_Ir_walk_77 : decode b_Ir_walk 77 = .ok (.invokevirtual 187, 3) := by decide +kernel
theorem d_Ir_walk_80 : decode b_Ir_walk 80 = .ok (.iinc 4 1, 3) := by decide +kernel
theorem d_Ir_walk_83 : decode b_Ir_walk 83 = .ok (.goto (-48), 3) := by decide +kernel
theorem d_Ir_walk_86 : decode b_Ir_walk 86 = .ok (.aload_n 0, 1) := by decide +kernel
theorem d_Ir_walk_87 : decode b_Ir_walk 87 = .ok (.getfield 40, 3) := by decide +kernel
theorem d_Ir_walk_90 : decode b_Ir_walk 90 = .ok (.iload_n 3, 1) := by decide +kernel
theorem d_Ir_walk_91 : decode b_Ir_walk 91 = .ok (.invokevirtual 188, 3) := by decide +kernel
theorem d_Ir_walk_94 : decode b_Ir_walk 94 = .ok (.ireturn, 1) := by decide +kernel
set_option maxHeartbeats 4000000 in
set_option maxRecDepth 100000 in
theorem l_Ir_walk_35 {p : Program} {l : Launch} {e : Env} {s : State} {m : MethodId} {args : Array Value} {below : List Frame} {meth : Method} {c : Code} {dC : Nat → ClassId} {dI : Nat → Nat → Nat} {L : Nat → Nat} {cA : Nat → ClassId} {Q : State → Prop} (a0 : Int64) (a1 : Int32)  (hF : CallFix p m c b_Ir_walk 6 s args w_all R_Ir) (hK : kW_I dC dI cA s) (hL : ij 38 L) {sa : Nat → Nat} (hlt : l.stackTraces = false) (hz : xz_I L sa s) (hnx : ∀ x ∈ c.exceptionTable.toList, False) : ∀ (n : Nat) (v4 : Int32) (ar : Nat → Nat → Int32) (sc : Nat → Int32), q_Ir_walk_35 a0 a1 n v4 ar sc → ∀ (H : Heap) (locs : List Loc), va_P (dC, dI) classes (wI L cA ar sc) H → va_S (aI L) s.heap H locs → ∀ (ls : Array Slot), lv_has ls 6 [(4, .int v4), (0, .ref (L 0)), (1, .long a0), (3, .int a1)] → (∀ (H : Heap) (locs : List Loc) (ls : Array Slot), va_P (dC, dI) classes (wI L cA ((g_Ir_walk_35 a0 a1 n v4 ar sc).2.1) ((g_Ir_walk_35 a0 a1 n v4 ar sc).2.2)) H → va_S (aI L) s.heap H locs → lv_has ls 6 [(4, .int ((g_Ir_walk_35 a0 a1 n v4 ar sc).1)), (0, .ref (L 0)), (1, .long a0), (3, .int a1)] → W p l e (rmX 8) s m args below meth c H locs 0 0 Q (F0 m 86 ls [])) → W p l e (rmX 8) s m args below meth c H locs 0 0 Q (F0 m 35 ls []) := by
  have hx := hF.1
  have hb := hF.2.1
  have hown := hF.2.2.2.1
  have hts := hF.2.2.2.2
  intro n
  induction n with
  | zero => intro v4 ar sc h; exact False.elim h
  | succ n ih =>
    intro v4 ar sc h H locs hP hS ls hl hk
    rw [q_Ir_walk_35] at h
    refine lv_iload hx hb d_Ir_walk_35 (lv_at hl 0 rfl) ?_
    refine lv_iload_n hx hb d_Ir_walk_37 rfl (lv_at hl 3 rfl) ?_
    refine lv_icmp_ge (tgt := 86) hx hb d_Ir_walk_38 (by decide) (fun c38 => ?_) (fun c38 => ?_)
    · have h := h.1 c38
      have hv : g_Ir_walk_35 a0 a1 (n + 1) v4 ar sc = ((v4, ar, sc) : Int32 × (Nat → Nat → Int32) × (Nat → Int32)) := by rw [g_Ir_walk_35, if_pos c38]
      rw [hv] at hk
      exact hk _ _ ls hP hS (lv_sub hl [0, 1, 2, 3] rfl)
    · have h := h.2 c38
      refine lv_lload_n hx hb d_Ir_walk_41 rfl (lv_at hl 2 rfl) ?_
      refine lv_iload hx hb d_Ir_walk_42 (lv_at hl 0 rfl) ?_
      refine r_Ir_toldPoint hF m_150 hl.1 ⟨Nat.le_of_ble_eq_true rfl, Nat.le_of_ble_eq_true rfl⟩ ⟨Nat.zero_le _, Nat.zero_le _⟩ (Nat.le_of_ble_eq_true rfl) d_Ir_walk_44 ?_
      refine lv_istore (lv' := [(5, .int (f_Ir_toldPoint a0 v4)), (4, .int v4), (0, .ref (L 0)), (1, .long a0), (3, .int a1)]) hx hb d_Ir_walk_47 hl (by decide) rfl (fun ls hl => ?_)
      refine lv_aload_n hx hb d_Ir_walk_49 rfl (lv_at hl 2 rfl) ?_
      refine gf_Ir_route hF hK hP m_406 d_Ir_walk_50 ?_
      refine lv_iload hx hb d_Ir_walk_53 (lv_at hl 1 rfl) ?_
      refine lv_iload hx hb d_Ir_walk_55 (lv_at hl 0 rfl) ?_
      refine lv_aload_n hx hb d_Ir_walk_57 rfl (lv_at hl 2 rfl) ?_
      refine gf_Ir_points hF hK hP m_134 d_Ir_walk_58 ?_
      refine gn_Points_xs hF hK hP mn_14 d_Ir_walk_61 ?_
      refine lv_iload hx hb d_Ir_walk_64 (lv_at hl 0 rfl) ?_
      have k66 := h.1
      have h := h.2
      refine alI_9 hF hK hP k66 d_Ir_walk_66 ?_
      refine lv_aload_n hx hb d_Ir_walk_67 rfl (lv_at hl 2 rfl) ?_
      refine gf_Ir_points hF hK hP m_134 d_Ir_walk_68 ?_
      refine gn_Points_ys hF hK hP mn_15 d_Ir_walk_71 ?_
      refine lv_iload hx hb d_Ir_walk_74 (lv_at hl 0 rfl) ?_
      have k76 := h.1
      have h := h.2
      refine alI_10 hF hK hP k76 d_Ir_walk_76 ?_
      have k77 := h.1
      have h := h.2
      refine r_Route_tell hF hK hP hL hS k77 m_453 hl.1 ⟨Nat.le_of_ble_eq_true rfl, Nat.le_of_ble_eq_true rfl⟩ ⟨Nat.zero_le _, Nat.zero_le _⟩ (Nat.le_of_ble_eq_true rfl) d_Ir_walk_77 (fun H locs hP hS => ?_)
      refine lv_iinc (v := v4 + 1) (lv' := [(4, .int (v4 + 1)), (5, .int (f_Ir_toldPoint a0 v4)), (0, .ref (L 0)), (1, .long a0), (3, .int a1)]) hx hb d_Ir_walk_80 hl (k := 1) rfl rfl (by decide) rfl (fun ls hl => ?_)
      refine lv_goto (tgt := 35) hx hb d_Ir_walk_83 (by decide) ?_
      have hv : g_Ir_walk_35 a0 a1 (n + 1) v4 ar sc = g_Ir_walk_35 a0 a1 n (v4 + 1) ((f_Route_tell ar sc v4 (f_Ir_toldPoint a0 v4) (ar 9 ((f_Ir_toldPoint a0 v4).toNatClampNeg)) (ar 10 ((f_Ir_toldPoint a0 v4).toNatClampNeg))).1) ((f_Route_tell ar sc v4 (f_Ir_toldPoint a0 v4) (ar 9 ((f_Ir_toldPoint a0 v4).toNatClampNeg)) (ar 10 ((f_Ir_toldPoint a0 v4).toNatClampNeg))).2) := by rw [g_Ir_walk_35, if_neg c38]
      rw [hv] at hk
      exact ih (v4 + 1) ((f_Route_tell ar sc v4 (f_Ir_toldPoint a0 v4) (ar 9 ((f_Ir_toldPoint a0 v4).toNatClampNeg)) (ar 10 ((f_Ir_toldPoint a0 v4).toNatClampNeg))).1) ((f_Route_tell ar sc v4 (f_Ir_toldPoint a0 v4) (ar 9 ((f_Ir_toldPoint a0 v4).toNatClampNeg)) (ar 10 ((f_Ir_toldPoint a0 v4).toNatClampNeg))).2) h _ _ hP hS ls (lv_sub hl [0, 2, 3, 4] rfl) hk
set_option maxHeartbeats 4000000 in
set_option maxRecDepth 100000 in
theorem c_Ir_walk (l : Launch) (hlt : l.stackTraces = false) (sa : Nat → Nat) (dC : Nat → ClassId) (dI : Nat → Nat → Nat) (L : Nat → Nat) (cA : Nat → ClassId) (ar : Nat → Nat → Int32) (sc : Nat → Int32) (a0 : Int64) (a1 : Int32) (hL : ij 38 L) (h : p_Ir_walk ar sc a0 a1) : th_Both l y_Ir_walk z_Ir_walk (rmX 8) (va_Pc [.ref (L 0), .long a0, .int a1] (fun U => xw_I dC dI L cA ar sc U ∧ xz_I L sa U)) (va_Qi (fun (r : Int32) (u : oS) => (none, r, u.1, u.2) = f_Ir_walk ar sc a0 a1) (fun u t => va_P (dC, dI) classes (wI L cA u.1 u.2) t.heap) (aI L)) (xC_I dC dI L cA (f_Ir_walk ar sc a0 a1)) 1 6 (aI L) := by
  refine th_ofW (cc := b_Ir_walk) (maxL := 6) (ret := (some .int)) (by decide) rfl ?_
  intro p e s m args below meth c s₁ B hml hnx hv
  obtain ⟨rfl, ⟨hP, hK⟩, hz⟩ := hv
  have hx := B.exec
  have hb := B.bytes
  have hr := B.returns
  have hts : ∀ w ∈ w_all, w.before _ s = true := fun w hw => atoms_spec (ws := z_Ir_walk) B.pre w (List.mem_cons_of_mem _ hw)
  have hown : s.vm.findClass R_Ir = some m.cls := findClass_of_methodNamed B.named
  have hlocks := B.notSynchronized
  have hF : CallFix p m c b_Ir_walk 6 s _ w_all R_Ir := ⟨hx, hb, hml, hown, hts⟩
  have hS : va_S (aI L) s.heap s.heap [] := va_S.rf
  have hl := lv_entry ([.ref (L 0), .long a0, .int a1]) (n := 6) (Nat.le_of_ble_eq_true rfl)
  rw [lg_entry_eq]
  generalize (lg_sl ([.ref (L 0), .long a0, .int a1]) ++ List.replicate (6 - (lg_sl ([.ref (L 0), .long a0, .int a1])).length) Slot.unset).toArray = ls at hl ⊢
  have hl : lv_has ls 6 [(0, .ref (L 0)), (1, .long a0), (3, .int a1)] := hl
  unfold p_Ir_walk at h
  refine lv_aload_n hx hb d_Ir_walk_0 rfl (lv_at hl 0 rfl) ?_
  refine lv_lload_n hx hb d_Ir_walk_1 rfl (lv_at hl 1 rfl) ?_
  refine lv_iload_n hx hb d_Ir_walk_2 rfl (lv_at hl 2 rfl) ?_
  refine lv_bipush (v := 7) hx hb d_Ir_walk_3 (by decide) ?_
  refine va_mmin hx hb (hF.2.2.1.trans hl.1.symm) hown (hts _ m_454) (hts _ m_455) (hts _ m_53) (hts _ m_456) (Nat.le_of_ble_eq_true rfl) (Nat.le_of_ble_eq_true rfl) (Nat.zero_le _) (Nat.zero_le _) d_Ir_walk_5 ?_
  have k8 := h.1
  have h := h.2
  refine r_Ir_areAllPoints hF hK hP k8 m_457 hl.1 ⟨Nat.le_of_ble_eq_true rfl, Nat.le_of_ble_eq_true rfl⟩ ⟨Nat.zero_le _, Nat.zero_le _⟩ (Nat.le_of_ble_eq_true rfl) d_Ir_walk_8 ?_
  refine rq_requireKnown hF hK hlt hz hS hl.1 hlocks hnx m_436 ⟨Nat.le_of_ble_eq_true rfl, Nat.le_of_ble_eq_true rfl⟩ ⟨Nat.le_refl _, Nat.le_refl _⟩ d_Ir_walk_11 (fun c11 => xc_I hP hS (by rw [f_Ir_walk, if_pos c11])) (fun c11 => ?_)
  have h := h c11
  refine lv_iload_n hx hb d_Ir_walk_14 rfl (lv_at hl 2 rfl) ?_
  refine lv_iconst (v := 0) hx hb d_Ir_walk_15 (by decide) ?_
  refine lv_bipush (v := 7) hx hb d_Ir_walk_16 (by decide) ?_
  refine r_Ir_isWithin hF m_131 hl.1 ⟨Nat.le_of_ble_eq_true rfl, Nat.le_of_ble_eq_true rfl⟩ ⟨Nat.zero_le _, Nat.zero_le _⟩ (Nat.le_of_ble_eq_true rfl) d_Ir_walk_18 ?_
  refine rq_requireRange hF hK hlt hz hS hl.1 hlocks hnx m_437 ⟨Nat.le_of_ble_eq_true rfl, Nat.le_of_ble_eq_true rfl⟩ ⟨Nat.le_refl _, Nat.le_refl _⟩ d_Ir_walk_21 (fun c21 => xc_I hP hS (by rw [f_Ir_walk, if_neg c11, if_pos c21])) (fun c21 => ?_)
  have h := h c21
  refine lv_lload_n hx hb d_Ir_walk_24 rfl (lv_at hl 1 rfl) ?_
  refine lv_iload_n hx hb d_Ir_walk_25 rfl (lv_at hl 2 rfl) ?_
  have k26 := h.1
  have h := h.2
  refine r_Ir_areAllDifferent hF k26 m_458 hl.1 ⟨Nat.le_of_ble_eq_true rfl, Nat.le_of_ble_eq_true rfl⟩ ⟨Nat.zero_le _, Nat.zero_le _⟩ (Nat.le_of_ble_eq_true rfl) d_Ir_walk_26 ?_
  refine rq_requireRange hF hK hlt hz hS hl.1 hlocks hnx m_437 ⟨Nat.le_of_ble_eq_true rfl, Nat.le_of_ble_eq_true rfl⟩ ⟨Nat.le_refl _, Nat.le_refl _⟩ d_Ir_walk_29 (fun c29 => xc_I hP hS (by rw [f_Ir_walk, if_neg c11, if_neg c21, if_pos c29])) (fun c29 => ?_)
  have h := h c29
  refine lv_iconst (v := 0) hx hb d_Ir_walk_32 (by decide) ?_
  refine lv_istore (lv' := [(4, .int 0), (0, .ref (L 0)), (1, .long a0), (3, .int a1)]) hx hb d_Ir_walk_33 hl (by decide) rfl (fun ls hl => ?_)
  have kL35 := h.1
  have h := h.2
  refine l_Ir_walk_35 a0 a1 hF hK hL hlt hz hnx 200 0 ar sc kL35 _ _ hP hS ls (lv_sub hl [0, 1, 2, 3] rfl) (fun H locs ls hP hS hl => ?_)
  refine lv_aload_n hx hb d_Ir_walk_86 rfl (lv_at hl 1 rfl) ?_
  refine gf_Ir_route hF hK hP m_406 d_Ir_walk_87 ?_
  refine lv_iload_n hx hb d_Ir_walk_90 rfl (lv_at hl 3 rfl) ?_
  have k91 := h
  refine r_Route_findLeast hF hK hP hL hS k91 m_459 hl.1 ⟨Nat.le_of_ble_eq_true rfl, Nat.le_of_ble_eq_true rfl⟩ ⟨Nat.zero_le _, Nat.zero_le _⟩ (Nat.le_of_ble_eq_true rfl) d_Ir_walk_91 (fun H locs hP hS => ?_)
  have hv : ((none, (f_Route_findLeast ((g_Ir_walk_35 a0 a1 200 0 ar sc).2.1) ((g_Ir_walk_35 a0 a1 200 0 ar sc).2.2) a1).1, (f_Route_findLeast ((g_Ir_walk_35 a0 a1 200 0 ar sc).2.1) ((g_Ir_walk_35 a0 a1 200 0 ar sc).2.2) a1).2.1, (f_Route_findLeast ((g_Ir_walk_35 a0 a1 200 0 ar sc).2.1) ((g_Ir_walk_35 a0 a1 200 0 ar sc).2.2) a1).2.2) : Option String × Int32 × (Nat → Nat → Int32) × (Nat → Int32)) = f_Ir_walk ar sc a0 a1 := by rw [f_Ir_walk, if_neg c11, if_neg c21, if_neg c29]
  exact W.widen (k := 1) (n := 6) (Nat.zero_le _) (Nat.zero_le _) (th_ret (W.iret (v := (f_Route_findLeast ((g_Ir_walk_35 a0 a1 200 0 ar sc).2.1) ((g_Ir_walk_35 a0 a1 200 0 ar sc).2.2) a1).1) hx hb hr (fun t ht hW => ⟨⟨(f_Route_findLeast ((g_Ir_walk_35 a0 a1 200 0 ar sc).2.1) ((g_Ir_walk_35 a0 a1 200 0 ar sc).2.2) a1).1, ((f_Route_findLeast ((g_Ir_walk_35 a0 a1 200 0 ar sc).2.1) ((g_Ir_walk_35 a0 a1 200 0 ar sc).2.2) a1).2.1, (f_Route_findLeast ((g_Ir_walk_35 a0 a1 200 0 ar sc).2.1) ((g_Ir_walk_35 a0 a1 200 0 ar sc).2.2) a1).2.2), rfl, hv, by dsimp only; rw [ht]; exact hP⟩, hS.F ht⟩) hS.2.2 d_Ir_walk_94))

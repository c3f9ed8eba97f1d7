theorem m_460 : (Cond.constant R_Ir 196 1000000) ∈ w_all := List.mem_filter.mpr ⟨List.mem_of_getElem? (i := 655) (by decide +kernel), by decide +kernel⟩
theorem m_461 : (Cond.constant R_Ir 203 9999999) ∈ w_all := List.mem_filter.mpr ⟨List.mem_of_getElem? (i := 663) (by decide +kernel), by decide +kernel⟩
theorem m_462 : (Cond.methodLink R_Ir 204 y_Permits_findClash) ∈ w_all := List.mem_filter.mpr ⟨List.mem_of_getElem? (i := 664) (by decide +kernel), by decide +kernel⟩
theorem m_463 : (Cond.methodLink R_Ir 211 y_Permits_add) ∈ w_all := List.mem_filter.mpr ⟨List.mem_of_getElem? (i := 682) (by decide +kernel), by decide +kernel⟩
theorem m_464 : (Cond.methodLink R_Ir 213 y_Ir_isSide) ∈ w_all := List.mem_filter.mpr ⟨List.mem_of_getElem? (i := 693) (by decide +kernel), by decide +kernel⟩
theorem m_465 : (Cond.methodLink R_Ir 216 y_Permits_tellGround) ∈ w_all := List.mem_filter.mpr ⟨List.mem_of_getElem? (i := 697) (by decide +kernel), by decide +kernel⟩
theorem m_466 : (Cond.constant R_Ir 225 1103515245) ∈ w_all := List.mem_filter.mpr ⟨List.mem_of_getElem? (i := 715) (by decide +kernel), by decide +kernel⟩
theorem mn_16 : (Cond.fieldLinkNest R_Ir 191 "InspectRows$Route" "count" "I" "InspectRows") ∈ nw_all := List.mem_filter.mpr ⟨List.mem_of_getElem? (i := 179) (by decide +kernel), by decide +kernel⟩
theorem mn_17 : (Cond.fieldLinkNest R_Ir 192 "InspectRows$Route" "stops" "[I" "InspectRows") ∈ nw_all := List.mem_filter.mpr ⟨List.mem_of_getElem? (i := 177) (by decide +kernel), by decide +kernel⟩
theorem mn_18 : (Cond.fieldLinkNest R_Ir 197 "InspectRows$Permits" "space" "I" "InspectRows") ∈ nw_all := List.mem_filter.mpr ⟨List.mem_of_getElem? (i := 218) (by decide +kernel), by decide +kernel⟩
theorem mn_19 : (Cond.fieldLinkNest R_Ir 200 "InspectRows$Permits" "distance" "I" "InspectRows") ∈ nw_all := List.mem_filter.mpr ⟨List.mem_of_getElem? (i := 220) (by decide +kernel), by decide +kernel⟩
theorem mn_20 : (Cond.fieldLinkNest R_Ir 207 "InspectRows$Permits" "clash" "I" "InspectRows") ∈ nw_all := List.mem_filter.mpr ⟨List.mem_of_getElem? (i := 222) (by decide +kernel), by decide +kernel⟩
theorem mn_21 : (Cond.fieldLinkNest R_Ir 210 "InspectRows$Permits" "count" "I" "InspectRows") ∈ nw_all := List.mem_filter.mpr ⟨List.mem_of_getElem? (i := 211) (by decide +kernel), by decide +kernel⟩
theorem mn_22 : (Cond.fieldLinkNest R_Ir 219 "InspectRows$Permits" "froms" "[I" "InspectRows") ∈ nw_all := List.mem_filter.mpr ⟨List.mem_of_getElem? (i := 207) (by decide +kernel), by decide +kernel⟩
theorem mn_23 : (Cond.fieldLinkNest R_Ir 222 "InspectRows$Permits" "tos" "[I" "InspectRows") ∈ nw_all := List.mem_filter.mpr ⟨List.mem_of_getElem? (i := 209) (by decide +kernel), by decide +kernel⟩
theorem d_Ir_stop_0 : decode b_Ir_stop 0 = .ok (.iload_n 1, 1) := by decide +kernel
theorem d_Ir_stop_1 : decode b_Ir_stop 1 = .ok (.ifCond .lt 7, 3) := by decide +kernel
theorem d_Ir_stop_4 : decode b_Ir_stop 4 = .ok (.iconst 1, 1) := by decide +kernel
theorem d_Ir_stop_5 : decode b_Ir_stop 5 = .ok (.goto 4, 3) := by decide +kernel
theorem d_Ir_stop_8 : decode b_Ir_stop 8 = .ok (.iconst 0, 1) := by decide +kernel
theorem d_Ir_stop_9 : decode b_Ir_stop 9 = .ok (.invokestatic 71, 3) := by decide +kernel
theorem d_Ir_stop_12 : decode b_Ir_stop 12 = .ok (.iload_n 1, 1) := by decide +kernel
theorem d_Ir_stop_13 : decode b_Ir_stop 13 = .ok (.aload_n 0, 1) := by decide +kernel
theorem d_Ir_stop_14 : decode b_Ir_stop 14 = .ok (.getfield 40, 3) := by decide +kernel
theorem d_Ir_stop_17 : decode b_Ir_stop 17 = .ok (.getfield 191, 3) := by decide +kernel
theorem d_Ir_stop_20 : decode b_Ir_stop 20 = .ok (.if_icmp .ge 15, 3) := by decide +kernel
theorem d_Ir_stop_23 : decode b_Ir_stop 23 = .ok (.aload_n 0, 1) := by decide +kernel
theorem d_Ir_stop_24 : decode b_Ir_stop 24 = .ok (.getfield 40, 3) := by decide +kernel
theorem d_Ir_stop_27 : decode b_Ir_stop 27 = .ok (.getfield 192, 3) := by decide +kernel
theorem d_Ir_stop_30 : decode b_Ir_stop 30 = .ok (.iload_n 1, 1) := by decide +kernel
theorem d_Ir_stop_31 : decode b_Ir_stop 31 = .ok (.iaload, 1) := by decide +kernel
theorem d_Ir_stop_32 : decode b_Ir_stop 32 = .ok (.goto 4, 3) := by decide +kernel
theorem d_Ir_stop_35 : decode b_Ir_stop 35 = .ok (.iconst (-1), 1) := by decide +kernel
theorem d_Ir_stop_36 : decode b_Ir_stop 36 = .ok (.ireturn, 1) := by decide +kernel
set_option maxHeartbeats 4000000 in
set_option maxRecDepth 100000 in
theorem c_Ir_stop (l : Launch) (hlt : l.stackTraces = false) (sa : Nat → Nat) (dC : Nat → ClassId) (dI : Nat → Nat → Nat) (L : Nat → Nat) (cA : Nat → ClassId) (ar : Nat → Nat → Int32) (sc : Nat → Int32) (a0 : Int32) (hL : ij 38 L) (h : p_Ir_stop ar sc a0) : th_Both l y_Ir_stop z_Ir_stop (rmX 8) (va_Pc [.ref (L 0), .int a0] (fun U => xw_I dC dI L cA ar sc U ∧ xz_I L sa U)) (va_Qi (fun (r : Int32) (u : oS) => (none, r, u.1, u.2) = f_Ir_stop ar sc a0) (fun u t => va_P (dC, dI) classes (wI L cA u.1 u.2) t.heap) (aI L)) (xC_I dC dI L cA (f_Ir_stop ar sc a0)) 1 6 (aI L) := by
  refine th_ofW (cc := b_Ir_stop) (maxL := 2) (ret := (some .int)) (by decide) rfl ?_
  intro p e s m args below meth c s₁ B hml hnx hv
  obtain ⟨rfl, ⟨hP, hK⟩, hz⟩ := hv
  have hx := B.exec
  have hb := B.bytes
  have hr := B.returns
  have hts : ∀ w ∈ w_all, w.before _ s = true := fun w hw => atoms_spec (ws := z_Ir_stop) B.pre w (List.mem_cons_of_mem _ hw)
  have hown : s.vm.findClass R_Ir = some m.cls := findClass_of_methodNamed B.named
  have hlocks := B.notSynchronized
  have hF : CallFix p m c b_Ir_stop 2 s _ w_all R_Ir := ⟨hx, hb, hml, hown, hts⟩
  have hS : va_S (aI L) s.heap s.heap [] := va_S.rf
  have hl := lv_entry ([.ref (L 0), .int a0]) (n := 2) (Nat.le_of_ble_eq_true rfl)
  rw [lg_entry_eq]
  generalize (lg_sl ([.ref (L 0), .int a0]) ++ List.replicate (2 - (lg_sl ([.ref (L 0), .int a0])).length) Slot.unset).toArray = ls at hl ⊢
  have hl : lv_has ls 2 [(0, .ref (L 0)), (1, .int a0)] := hl
  unfold p_Ir_stop at h
  refine lv_iload_n hx hb d_Ir_stop_0 rfl (lv_at hl 1 rfl) ?_
  refine lv_if_lt (tgt := 8) hx hb d_Ir_stop_1 (by decide) (fun c1 => ?_) (fun c1 => ?_)
  · have h := h.1 c1
    refine lv_iconst (v := 0) hx hb d_Ir_stop_8 (by decide) ?_
    refine rq_requireRange hF hK hlt hz hS hl.1 hlocks hnx m_437 ⟨Nat.le_of_ble_eq_true rfl, Nat.le_of_ble_eq_true rfl⟩ ⟨Nat.le_refl _, Nat.le_refl _⟩ d_Ir_stop_9 (fun c9 => xc_I hP hS (by rw [f_Ir_stop, if_pos c1])) (fun c9 => absurd rfl c9)
  · have h := h.2 c1
    refine lv_iconst (v := 1) hx hb d_Ir_stop_4 (by decide) ?_
    refine lv_goto (tgt := 9) hx hb d_Ir_stop_5 (by decide) ?_
    refine rq_requireRange hF hK hlt hz hS hl.1 hlocks hnx m_437 ⟨Nat.le_of_ble_eq_true rfl, Nat.le_of_ble_eq_true rfl⟩ ⟨Nat.le_refl _, Nat.le_refl _⟩ d_Ir_stop_9 (fun c9 => absurd c9 (by decide)) (fun c9 => ?_)
    refine lv_iload_n hx hb d_Ir_stop_12 rfl (lv_at hl 1 rfl) ?_
    refine lv_aload_n hx hb d_Ir_stop_13 rfl (lv_at hl 0 rfl) ?_
    refine gf_Ir_route hF hK hP m_406 d_Ir_stop_14 ?_
    refine gn_Route_count hF hK hP mn_16 d_Ir_stop_17 ?_
    refine lv_icmp_ge (tgt := 35) hx hb d_Ir_stop_20 (by decide) (fun c20 => ?_) (fun c20 => ?_)
    · have h := h.1 c20
      refine lv_iconst (v := (-1)) hx hb d_Ir_stop_35 (by decide) ?_
      have hv : ((none, (-1), ar, sc) : Option String × Int32 × (Nat → Nat → Int32) × (Nat → Int32)) = f_Ir_stop ar sc a0 := by rw [f_Ir_stop, if_neg c1, if_pos c20]
      exact W.widen (k := 1) (n := 6) (Nat.zero_le _) (Nat.zero_le _) (th_ret (W.iret (v := (-1)) hx hb hr (fun t ht hW => ⟨⟨(-1), (ar, sc), rfl, hv, by dsimp only; rw [ht]; exact hP⟩, hS.F ht⟩) hS.2.2 d_Ir_stop_36))
    · have h := h.2 c20
      refine lv_aload_n hx hb d_Ir_stop_23 rfl (lv_at hl 0 rfl) ?_
      refine gf_Ir_route hF hK hP m_406 d_Ir_stop_24 ?_
      refine gn_Route_stops hF hK hP mn_17 d_Ir_stop_27 ?_
      refine lv_iload_n hx hb d_Ir_stop_30 rfl (lv_at hl 1 rfl) ?_
      have k31 := h
      refine alI_29 hF hK hP k31 d_Ir_stop_31 ?_
      refine lv_goto (tgt := 36) hx hb d_Ir_stop_32 (by decide) ?_
      have hv : ((none, ar 29 a0.toNatClampNeg, ar, sc) : Option String × Int32 × (Nat → Nat → Int32) × (Nat → Int32)) = f_Ir_stop ar sc a0 := by rw [f_Ir_stop, if_neg c1, if_neg c20]
      exact W.widen (k := 1) (n := 6) (Nat.zero_le _) (Nat.zero_le _) (th_ret (W.iret (v := ar 29 a0.toNatClampNeg) hx hb hr (fun t ht hW => ⟨⟨ar 29 a0.toNatClampNeg, (ar, sc), rfl, hv, by dsimp only; rw [ht]; exact hP⟩, hS.F ht⟩) hS.2.2 d_Ir_stop_36))
theorem d_Ir_rules_0 : decode b_Ir_rules 0 = .ok (.iload_n 1, 1) := by decide +kernel
theorem d_Ir_rules_1 : decode b_Ir_rules 1 = .ok (.iconst 0, 1) := by decide +kernel
theorem d_Ir_rules_2 : decode b_Ir_rules 2 = .ok (.ldc 195, 2) := by decide +kernel
theorem d_Ir_rules_4 : decode b_Ir_rules 4 = .ok (.invokestatic 67, 3) := by decide +kernel
theorem d_Ir_rules_7 : decode b_Ir_rules 7 = .ok (.ifCond .eq 17, 3) := by decide +kernel
theorem d_Ir_rules_10 : decode b_Ir_rules 10 = .ok (.iload_n 2, 1) := by decide +kernel
theorem d_Ir_rules_11 : decode b_Ir_rules 11 = .ok (.iconst 0, 1) := by decide +kernel
theorem d_Ir_rules_12 : decode b_Ir_rules 12 = .ok (.ldc 196, 2) := by decide +kernel
theorem d_Ir_rules_14 : decode b_Ir_rules 14 = .ok (.invokestatic 67, 3) := by decide +kernel
theorem d_Ir_rules_17 : decode b_Ir_rules 17 = .ok (.ifCond .eq 7, 3) := by decide +kernel
theorem d_Ir_rules_20 : decode b_Ir_rules 20 = .ok (.iconst 1, 1) := by decide +kernel
theorem d_Ir_rules_21 : decode b_Ir_rules 21 = .ok (.goto 4, 3) := by decide +kernel
theorem d_Ir_rules_24 : decode b_Ir_rules 24 = .ok (.iconst 0, 1) := by decide +kernel
theorem d_Ir_rules_25 : decode b_Ir_rules 25 = .ok (.invokestatic 71, 3) := by decide +kernel
theorem d_Ir_rules_28 : decode b_Ir_rules 28 = .ok (.aload_n 0, 1) := by decide +kernel
theorem d_Ir_rules_29 : decode b_Ir_rules 29 = .ok (.getfield 47, 3) := by decide +kernel
theorem d_Ir_rules_32 : decode b_Ir_rules 32 = .ok (.iload_n 1, 1) := by decide +kernel
theorem d_Ir_rules_33 : decode b_Ir_rules 33 = .ok (.putfield 197, 3) := by decide +kernel
theorem d_Ir_rules_36 : decode b_Ir_rules 36 = .ok (.aload_n 0, 1) := by decide +kernel
theorem d_Ir_rules_37 : decode b_Ir_rules 37 = .ok (.getfield 47, 3) := by decide +kernel
theorem d_Ir_rules_40 : decode b_Ir_rules 40 = .ok (.iload_n 2, 1) := by decide +kernel
theorem d_Ir_rules_41 : decode b_Ir_rules 41 = .ok (.putfield 200, 3) := by decide +kernel
theorem d_Ir_rules_44 : decode b_Ir_rules 44 = .ok (.return_, 1) := by decide +kernel
set_option maxHeartbeats 4000000 in
set_option maxRecDepth 100000 in
theorem c_Ir_rules (l : Launch) (hlt : l.stackTraces = false) (sa : Nat → Nat) (dC : Nat → ClassId) (dI : Nat → Nat → Nat) (L : Nat → Nat) (cA : Nat → ClassId) (ar : Nat → Nat → Int32) (sc : Nat → Int32) (a0 : Int32) (a1 : Int32) (hL : ij 38 L) : th_Both l y_Ir_rules z_Ir_rules (rmX 8) (va_Pc [.ref (L 0), .int a0, .int a1] (fun U => xw_I dC dI L cA ar sc U ∧ xz_I L sa U)) (va_Qv (fun u : oS => (none, 0, u.1, u.2) = f_Ir_rules ar sc a0 a1) (fun u t => va_P (dC, dI) classes (wI L cA u.1 u.2) t.heap) (aI L)) (xC_I dC dI L cA (f_Ir_rules ar sc a0 a1)) 1 6 (aI L) := by
  refine th_ofW (cc := b_Ir_rules) (maxL := 3) (ret := none) (by decide) rfl ?_
  intro p e s m args below meth c s₁ B hml hnx hv
  obtain ⟨rfl, ⟨hP, hK⟩, hz⟩ := hv
  have hx := B.exec
  have hb := B.bytes
  have hr := B.returns
  have hts : ∀ w ∈ w_all, w.before _ s = true := fun w hw => atoms_spec (ws := z_Ir_rules) B.pre w (List.mem_cons_of_mem _ hw)
  have hown : s.vm.findClass R_Ir = some m.cls := findClass_of_methodNamed B.named
  have hlocks := B.notSynchronized
  have hF : CallFix p m c b_Ir_rules 3 s _ w_all R_Ir := ⟨hx, hb, hml, hown, hts⟩
  have hS : va_S (aI L) s.heap s.heap [] := va_S.rf
  have hl := lv_entry ([.ref (L 0), .int a0, .int a1]) (n := 3) (Nat.le_of_ble_eq_true rfl)
  rw [lg_entry_eq]
  generalize (lg_sl ([.ref (L 0), .int a0, .int a1]) ++ List.replicate (3 - (lg_sl ([.ref (L 0), .int a0, .int a1])).length) Slot.unset).toArray = ls at hl ⊢
  have hl : lv_has ls 3 [(0, .ref (L 0)), (1, .int a0), (2, .int a1)] := hl
  refine lv_iload_n hx hb d_Ir_rules_0 rfl (lv_at hl 1 rfl) ?_
  refine lv_iconst (v := 0) hx hb d_Ir_rules_1 (by decide) ?_
  refine lv_ldc (v := 10000000) hx hb hown (hts _ m_143) d_Ir_rules_2 ?_
  refine r_Ir_isWithin hF m_131 hl.1 ⟨Nat.le_of_ble_eq_true rfl, Nat.le_of_ble_eq_true rfl⟩ ⟨Nat.zero_le _, Nat.zero_le _⟩ (Nat.le_of_ble_eq_true rfl) d_Ir_rules_4 ?_
  refine lv_if_eq (tgt := 24) hx hb d_Ir_rules_7 (by decide) (fun c7 => ?_) (fun c7 => ?_)
  · refine lv_iconst (v := 0) hx hb d_Ir_rules_24 (by decide) ?_
    refine rq_requireRange hF hK hlt hz hS hl.1 hlocks hnx m_437 ⟨Nat.le_of_ble_eq_true rfl, Nat.le_of_ble_eq_true rfl⟩ ⟨Nat.le_refl _, Nat.le_refl _⟩ d_Ir_rules_25 (fun c25 => xc_I hP hS (by rw [f_Ir_rules, if_pos c7])) (fun c25 => absurd rfl c25)
  · refine lv_iload_n hx hb d_Ir_rules_10 rfl (lv_at hl 2 rfl) ?_
    refine lv_iconst (v := 0) hx hb d_Ir_rules_11 (by decide) ?_
    refine lv_ldc (v := 1000000) hx hb hown (hts _ m_460) d_Ir_rules_12 ?_
    refine r_Ir_isWithin hF m_131 hl.1 ⟨Nat.le_of_ble_eq_true rfl, Nat.le_of_ble_eq_true rfl⟩ ⟨Nat.zero_le _, Nat.zero_le _⟩ (Nat.le_of_ble_eq_true rfl) d_Ir_rules_14 ?_
    refine lv_if_eq (tgt := 24) hx hb d_Ir_rules_17 (by decide) (fun c17 => ?_) (fun c17 => ?_)
    · refine lv_iconst (v := 0) hx hb d_Ir_rules_24 (by decide) ?_
      refine rq_requireRange hF hK hlt hz hS hl.1 hlocks hnx m_437 ⟨Nat.le_of_ble_eq_true rfl, Nat.le_of_ble_eq_true rfl⟩ ⟨Nat.le_refl _, Nat.le_refl _⟩ d_Ir_rules_25 (fun c25 => xc_I hP hS (by rw [f_Ir_rules, if_neg c7, if_pos c17])) (fun c25 => absurd rfl c25)
    · refine lv_iconst (v := 1) hx hb d_Ir_rules_20 (by decide) ?_
      refine lv_goto (tgt := 25) hx hb d_Ir_rules_21 (by decide) ?_
      refine rq_requireRange hF hK hlt hz hS hl.1 hlocks hnx m_437 ⟨Nat.le_of_ble_eq_true rfl, Nat.le_of_ble_eq_true rfl⟩ ⟨Nat.le_refl _, Nat.le_refl _⟩ d_Ir_rules_25 (fun c25 => absurd c25 (by decide)) (fun c25 => ?_)
      refine lv_aload_n hx hb d_Ir_rules_28 rfl (lv_at hl 0 rfl) ?_
      refine gf_Ir_permits hF hK hP m_412 d_Ir_rules_29 ?_
      refine lv_iload_n hx hb d_Ir_rules_32 rfl (lv_at hl 1 rfl) ?_
      refine pn_Permits_space hF hK hP hL hS mn_18 d_Ir_rules_33 (fun H locs hP hS => ?_)
      refine lv_aload_n hx hb d_Ir_rules_36 rfl (lv_at hl 0 rfl) ?_
      refine gf_Ir_permits hF hK hP m_412 d_Ir_rules_37 ?_
      refine lv_iload_n hx hb d_Ir_rules_40 rfl (lv_at hl 2 rfl) ?_
      refine pn_Permits_distance hF hK hP hL hS mn_19 d_Ir_rules_41 (fun H locs hP hS => ?_)
      have hv : ((none, 0, ar, sg (sg sc 11 a0) 12 a1) : Option String × Int32 × (Nat → Nat → Int32) × (Nat → Int32)) = f_Ir_rules ar sc a0 a1 := by rw [f_Ir_rules, if_neg c7, if_neg c17]
      exact W.widen (k := 1) (n := 6) (Nat.zero_le _) (Nat.zero_le _) (th_ret (W.vret hx hb hr (fun t ht hW => ⟨⟨(ar, sg (sg sc 11 a0) 12 a1), rfl, hv, by dsimp only; rw [ht]; exact hP⟩, hS.F ht⟩) hS.2.2 d_Ir_rules_44))
theorem d_Ir_permit_0 : decode b_Ir_permit 0 = .ok (.iload_n 1, 1) := by decide +kernel
theorem d_Ir_permit_1 : decode b_Ir_permit 1 = .ok (.ifCond .lt 18, 3) := by decide +kernel
theorem d_Ir_permit_4 : decode b_Ir_permit 4 = .ok (.iload_n 1, 1) := by decide +kernel
theorem d_Ir_permit_5 : decode b_Ir_permit 5 = .ok (.iload_n 2, 1) := by decide +kernel
theorem d_Ir_permit_6 : decode b_Ir_permit 6 = .ok (.if_icmp .ge 13, 3) := by decide +kernel
theorem d_Ir_permit_9 : decode b_Ir_permit 9 = .ok (.iload_n 2, 1) := by decide +kernel
theorem d_Ir_permit_10 : decode b_Ir_permit 10 = .ok (.ldc 203, 2) := by decide +kernel
theorem d_Ir_permit_12 : decode b_Ir_permit 12 = .ok (.if_icmp .gt 7, 3) := by decide +kernel
theorem d_Ir_permit_15 : decode b_Ir_permit 15 = .ok (.iconst 1, 1) := by decide +kernel
theorem d_Ir_permit_16 : decode b_Ir_permit 16 = .ok (.goto 4, 3) := by decide +kernel
theorem d_Ir_permit_19 : decode b_Ir_permit 19 = .ok (.iconst 0, 1) := by decide +kernel
theorem d_Ir_permit_20 : decode b_Ir_permit 20 = .ok (.invokestatic 71, 3) := by decide +kernel
theorem d_Ir_permit_23 : decode b_Ir_permit 23 = .ok (.iload_n 3, 1) := by decide +kernel
theorem d_Ir_permit_24 : decode b_Ir_permit 24 = .ok (.iconst 1, 1) := by decide +kernel
theorem d_Ir_permit_25 : decode b_Ir_permit 25 = .ok (.ldc 196, 2) := by decide +kernel
theorem d_Ir_permit_27 : decode b_Ir_permit 27 = .ok (.invokestatic 67, 3) := by decide +kernel
theorem d_Ir_permit_30 : decode b_Ir_permit 30 = .ok (.invokestatic 71, 3) := by decide +kernel
theorem d_Ir_permit_33 : decode b_Ir_permit 33 = .ok (.aload_n 0, 1) := by decide +kernel
theorem d_Ir_permit_34 : decode b_Ir_permit 34 = .ok (.getfield 47, 3) := by decide +kernel
theorem d_Ir_permit_37 : decode b_Ir_permit 37 = .ok (.aload_n 0, 1) := by decide +kernel
theorem d_Ir_permit_38 : decode b_Ir_permit 38 = .ok (.getfield 47, 3) := by decide +kernel
theorem d_Ir_permit_41 : decode b_Ir_permit 41 = .ok (.iload_n 1, 1) := by decide +kernel
theorem d_Ir_permit_42 : decode b_Ir_permit 42 = .ok (.iload_n 2, 1) := by decide +kernel
theorem d_Ir_permit_43 : decode b_Ir_permit 43 = .ok (.iload_n 3, 1) := by decide +kernel
theorem d_Ir_permit_44 : decode b_Ir_permit 44 = .ok (.invokevirtual 204, 3) := by decide +kernel
theorem d_Ir_permit_47 : decode b_Ir_permit 47 = .ok (.putfield 207, 3) := by decide +kernel
theorem d_Ir_permit_50 : decode b_Ir_permit 50 = .ok (.aload_n 0, 1) := by decide +kernel
theorem d_Ir_permit_51 : decode b_Ir_permit 51 = .ok (.getfield 47, 3) := by decide +kernel
theorem d_Ir_permit_54 : decode b_Ir_permit 54 = .ok (.getfield 207, 3) := by decide +kernel
theorem d_Ir_permit_57 : decode b_Ir_permit 57 = .ok (.iconst (-1), 1) := by decide +kernel
theorem d_Ir_permit_58 : decode b_Ir_permit 58 = .ok (.if_icmp .ne 7, 3) := by decide +kernel
theorem d_Ir_permit_61 : decode b_Ir_permit 61 = .ok (.iconst 1, 1) := by decide +kernel
theorem d_Ir_permit_62 : decode b_Ir_permit 62 = .ok (.goto 4, 3) := by decide +kernel
theorem d_Ir_permit_65 : decode b_Ir_permit 65 = .ok (.iconst 0, 1) := by decide +kernel
theorem d_Ir_permit_66 : decode b_Ir_permit 66 = .ok (.invokestatic 118, 3) := by decide +kernel
theorem d_Ir_permit_69 : decode b_Ir_permit 69 = .ok (.aload_n 0, 1) := by decide +kernel
theorem d_Ir_permit_70 : decode b_Ir_permit 70 = .ok (.getfield 47, 3) := by decide +kernel
theorem d_Ir_permit_73 : decode b_Ir_permit 73 = .ok (.getfield 210, 3) := by decide +kernel
theorem d_Ir_permit_76 : decode b_Ir_permit 76 = .ok (.bipush 30, 2) := by decide +kernel
theorem d_Ir_permit_78 : decode b_Ir_permit 78 = .ok (.if_icmp .ge 7, 3) := by decide +kernel
theorem d_Ir_permit_81 : decode b_Ir_permit 81 = .ok (.iconst 1, 1) := by decide +kernel
theorem d_Ir_permit_82 : decode b_Ir_permit 82 = .ok (.goto 4, 3) := by decide +kernel
theorem d_Ir_permit_85 : decode b_Ir_permit 85 = .ok (.iconst 0, 1) := by decide +kernel
theorem d_Ir_permit_86 : decode b_Ir_permit 86 = .ok (.invokestatic 90, 3) := by decide +kernel
theorem d_Ir_permit_89 : decode b_Ir_permit 89 = .ok (.aload_n 0, 1) := by decide +kernel
theorem d_Ir_permit_90 : decode b_Ir_permit 90 = .ok (.getfield 47, 3) := by decide +kernel
theorem d_Ir_permit_93 : decode b_Ir_permit 93 = .ok (.iload_n 1, 1) := by decide +kernel
theorem d_Ir_permit_94 : decode b_Ir_permit 94 = .ok (.iload_n 2, 1) := by decide +kernel
theorem d_Ir_permit_95 : decode b_Ir_permit 95 = .ok (.invokevirtual 211, 3) := by decide +kernel
theorem d_Ir_permit_98 : decode b_Ir_permit 98 = .ok (.ireturn, 1) := by decide +kernel
set_option maxHeartbeats 4000000 in
set_option maxRecDepth 100000 in
theorem c_Ir_permit (l : Launch) (hlt : l.stackTraces = false) (sa : Nat → Nat) (dC : Nat → ClassId) (dI : Nat → Nat → Nat) (L : Nat → Nat) (cA : Nat → ClassId) (ar : Nat → Nat → Int32) (sc : Nat → Int32) (a0 : Int32) (a1 : Int32) (a2 : Int32) (hL : ij 38 L) (h : p_Ir_permit ar sc a0 a1 a2) : th_Both l y_Ir_permit z_Ir_permit (rmX 8) (va_Pc [.ref (L 0), .int a0, .int a1, .int a2] (fun U => xw_I dC dI L cA ar sc U ∧ xz_I L sa U)) (va_Qi (fun (r : Int32) (u : oS) => (none, r, u.1, u.2) = f_Ir_permit ar sc a0 a1 a2) (fun u t => va_P (dC, dI) classes (wI L cA u.1 u.2) t.heap) (aI L)) (xC_I dC dI L cA (f_Ir_permit ar sc a0 a1 a2)) 1 6 (aI L) := by
  refine th_ofW (cc := b_Ir_permit) (maxL := 4) (ret := (some .int)) (by decide) rfl ?_
  intro p e s m args below meth c s₁ B hml hnx hv
  obtain ⟨rfl, ⟨hP, hK⟩, hz⟩ := hv
  have hx := B.exec
  have hb := B.bytes
  have hr := B.returns
  have hts : ∀ w ∈ w_all, w.before _ s = true := fun w hw => atoms_spec (ws := z_Ir_permit) B.pre w (List.mem_cons_of_mem _ hw)
  have hown : s.vm.findClass R_Ir = some m.cls := findClass_of_methodNamed B.named
  have hlocks := B.notSynchronized
  have hF : CallFix p m c b_Ir_permit 4 s _ w_all R_Ir := ⟨hx, hb, hml, hown, hts⟩
  have hS : va_S (aI L) s.heap s.heap [] := va_S.rf
  have hl := lv_entry ([.ref (L 0), .int a0, .int a1, .int a2]) (n := 4) (Nat.le_of_ble_eq_true rfl)
  rw [lg_entry_eq]
  generalize (lg_sl ([.ref (L 0), .int a0, .int a1, .int a2]) ++ List.replicate (4 - (lg_sl ([.ref (L 0), .int a0, .int a1, .int a2])).length) Slot.unset).toArray = ls at hl ⊢
  have hl : lv_has ls 4 [(0, .ref (L 0)), (1, .int a0), (2, .int a1), (3, .int a2)] := hl
  unfold p_Ir_permit at h
  refine lv_iload_n hx hb d_Ir_permit_0 rfl (lv_at hl 1 rfl) ?_
  refine lv_if_lt (tgt := 19) hx hb d_Ir_permit_1 (by decide) (fun c1 => ?_) (fun c1 => ?_)
  · have h := h.1 c1
    refine lv_iconst (v := 0) hx hb d_Ir_permit_19 (by decide) ?_
    refine rq_requireRange hF hK hlt hz hS hl.1 hlocks hnx m_437 ⟨Nat.le_of_ble_eq_true rfl, Nat.le_of_ble_eq_true rfl⟩ ⟨Nat.le_refl _, Nat.le_refl _⟩ d_Ir_permit_20 (fun c20 => xc_I hP hS (by rw [f_Ir_permit, if_pos c1])) (fun c20 => absurd rfl c20)
  · have h := h.2 c1
    refine lv_iload_n hx hb d_Ir_permit_4 rfl (lv_at hl 1 rfl) ?_
    refine lv_iload_n hx hb d_Ir_permit_5 rfl (lv_at hl 2 rfl) ?_
    refine lv_icmp_ge (tgt := 19) hx hb d_Ir_permit_6 (by decide) (fun c6 => ?_) (fun c6 => ?_)
    · have h := h.1 c6
      refine lv_iconst (v := 0) hx hb d_Ir_permit_19 (by decide) ?_
      refine rq_requireRange hF hK hlt hz hS hl.1 hlocks hnx m_437 ⟨Nat.le_of_ble_eq_true rfl, Nat.le_of_ble_eq_true rfl⟩ ⟨Nat.le_refl _, Nat.le_refl _⟩ d_Ir_permit_20 (fun c20 => xc_I hP hS (by rw [f_Ir_permit, if_neg c1, if_pos c6])) (fun c20 => absurd rfl c20)
    · have h := h.2 c6
      refine lv_iload_n hx hb d_Ir_permit_9 rfl (lv_at hl 2 rfl) ?_
      refine lv_ldc (v := 9999999) hx hb hown (hts _ m_461) d_Ir_permit_10 ?_
      refine lv_icmp_gt (tgt := 19) hx hb d_Ir_permit_12 (by decide) (fun c12 => ?_) (fun c12 => ?_)
      · have h := h.1 c12
        refine lv_iconst (v := 0) hx hb d_Ir_permit_19 (by decide) ?_
        refine rq_requireRange hF hK hlt hz hS hl.1 hlocks hnx m_437 ⟨Nat.le_of_ble_eq_true rfl, Nat.le_of_ble_eq_true rfl⟩ ⟨Nat.le_refl _, Nat.le_refl _⟩ d_Ir_permit_20 (fun c20 => xc_I hP hS (by rw [f_Ir_permit, if_neg c1, if_neg c6, if_pos c12])) (fun c20 => absurd rfl c20)
      · have h := h.2 c12
        refine lv_iconst (v := 1) hx hb d_Ir_permit_15 (by decide) ?_
        refine lv_goto (tgt := 20) hx hb d_Ir_permit_16 (by decide) ?_
        refine rq_requireRange hF hK hlt hz hS hl.1 hlocks hnx m_437 ⟨Nat.le_of_ble_eq_true rfl, Nat.le_of_ble_eq_true rfl⟩ ⟨Nat.le_refl _, Nat.le_refl _⟩ d_Ir_permit_20 (fun c20 => absurd c20 (by decide)) (fun c20 => ?_)
        refine lv_iload_n hx hb d_Ir_permit_23 rfl (lv_at hl 3 rfl) ?_
        refine lv_iconst (v := 1) hx hb d_Ir_permit_24 (by decide) ?_
        refine lv_ldc (v := 1000000) hx hb hown (hts _ m_460) d_Ir_permit_25 ?_
        refine r_Ir_isWithin hF m_131 hl.1 ⟨Nat.le_of_ble_eq_true rfl, Nat.le_of_ble_eq_true rfl⟩ ⟨Nat.zero_le _, Nat.zero_le _⟩ (Nat.le_of_ble_eq_true rfl) d_Ir_permit_27 ?_
        refine rq_requireRange hF hK hlt hz hS hl.1 hlocks hnx m_437 ⟨Nat.le_of_ble_eq_true rfl, Nat.le_of_ble_eq_true rfl⟩ ⟨Nat.le_refl _, Nat.le_refl _⟩ d_Ir_permit_30 (fun c30 => xc_I hP hS (by rw [f_Ir_permit, if_neg c1, if_neg c6, if_neg c12, if_pos c30])) (fun c30 => ?_)
        have h := h c30
        refine lv_aload_n hx hb d_Ir_permit_33 rfl (lv_at hl 0 rfl) ?_
        refine gf_Ir_permits hF hK hP m_412 d_Ir_permit_34 ?_
        refine lv_aload_n hx hb d_Ir_permit_37 rfl (lv_at hl 0 rfl) ?_
        refine gf_Ir_permits hF hK hP m_412 d_Ir_permit_38 ?_
        refine lv_iload_n hx hb d_Ir_permit_41 rfl (lv_at hl 1 rfl) ?_
        refine lv_iload_n hx hb d_Ir_permit_42 rfl (lv_at hl 2 rfl) ?_
        refine lv_iload_n hx hb d_Ir_permit_43 rfl (lv_at hl 3 rfl) ?_
        have k44 := h.1
        have h := h.2
        refine r_Permits_findClash hF hK hP k44 m_462 hl.1 ⟨Nat.le_of_ble_eq_true rfl, Nat.le_of_ble_eq_true rfl⟩ ⟨Nat.zero_le _, Nat.zero_le _⟩ (Nat.le_of_ble_eq_true rfl) d_Ir_permit_44 ?_
        refine pn_Permits_clash hF hK hP hL hS mn_20 d_Ir_permit_47 (fun H locs hP hS => ?_)
        refine lv_aload_n hx hb d_Ir_permit_50 rfl (lv_at hl 0 rfl) ?_
        refine gf_Ir_permits hF hK hP m_412 d_Ir_permit_51 ?_
        refine gn_Permits_clash hF hK hP mn_20 d_Ir_permit_54 ?_
        refine lv_iconst (v := (-1)) hx hb d_Ir_permit_57 (by decide) ?_
        refine lv_icmp_ne (tgt := 65) hx hb d_Ir_permit_58 (by decide) (fun c58 => ?_) (fun c58 => ?_)
        · have h := h.2 c58
          refine lv_iconst (v := 0) hx hb d_Ir_permit_65 (by decide) ?_
          refine rq_requireState hF hK hlt hz hS hl.1 hlocks hnx m_446 ⟨Nat.le_of_ble_eq_true rfl, Nat.le_of_ble_eq_true rfl⟩ ⟨Nat.le_refl _, Nat.le_refl _⟩ d_Ir_permit_66 (fun c66 => xc_I hP hS (by rw [f_Ir_permit, if_neg c1, if_neg c6, if_neg c12, if_neg c30, if_neg c58])) (fun c66 => absurd rfl c66)
        · have h := h.1 c58
          refine lv_iconst (v := 1) hx hb d_Ir_permit_61 (by decide) ?_
          refine lv_goto (tgt := 66) hx hb d_Ir_permit_62 (by decide) ?_
          refine rq_requireState hF hK hlt hz hS hl.1 hlocks hnx m_446 ⟨Nat.le_of_ble_eq_true rfl, Nat.le_of_ble_eq_true rfl⟩ ⟨Nat.le_refl _, Nat.le_refl _⟩ d_Ir_permit_66 (fun c66 => absurd c66 (by decide)) (fun c66 => ?_)
          refine lv_aload_n hx hb d_Ir_permit_69 rfl (lv_at hl 0 rfl) ?_
          refine gf_Ir_permits hF hK hP m_412 d_Ir_permit_70 ?_
          refine gn_Permits_count hF hK hP mn_21 d_Ir_permit_73 ?_
          refine lv_bipush (v := 30) hx hb d_Ir_permit_76 (by decide) ?_
          refine lv_icmp_ge (tgt := 85) hx hb d_Ir_permit_78 (by decide) (fun c78 => ?_) (fun c78 => ?_)
          · have h := h.1 c78
            refine lv_iconst (v := 0) hx hb d_Ir_permit_85 (by decide) ?_
            refine rq_requireRoom hF hK hlt hz hS hl.1 hlocks hnx m_439 ⟨Nat.le_of_ble_eq_true rfl, Nat.le_of_ble_eq_true rfl⟩ ⟨Nat.le_refl _, Nat.le_refl _⟩ d_Ir_permit_86 (fun c86 => xc_I hP hS (by rw [f_Ir_permit, if_neg c1, if_neg c6, if_neg c12, if_neg c30, if_pos c58, if_pos c78])) (fun c86 => absurd rfl c86)
          · have h := h.2 c78
            refine lv_iconst (v := 1) hx hb d_Ir_permit_81 (by decide) ?_
            refine lv_goto (tgt := 86) hx hb d_Ir_permit_82 (by decide) ?_
            refine rq_requireRoom hF hK hlt hz hS hl.1 hlocks hnx m_439 ⟨Nat.le_of_ble_eq_true rfl, Nat.le_of_ble_eq_true rfl⟩ ⟨Nat.le_refl _, Nat.le_refl _⟩ d_Ir_permit_86 (fun c86 => absurd c86 (by decide)) (fun c86 => ?_)
            refine lv_aload_n hx hb d_Ir_permit_89 rfl (lv_at hl 0 rfl) ?_
            refine gf_Ir_permits hF hK hP m_412 d_Ir_permit_90 ?_
            refine lv_iload_n hx hb d_Ir_permit_93 rfl (lv_at hl 1 rfl) ?_
            refine lv_iload_n hx hb d_Ir_permit_94 rfl (lv_at hl 2 rfl) ?_
            have k95 := h
            refine r_Permits_add hF hK hP hL hS k95 m_463 hl.1 ⟨Nat.le_of_ble_eq_true rfl, Nat.le_of_ble_eq_true rfl⟩ ⟨Nat.zero_le _, Nat.zero_le _⟩ (Nat.le_of_ble_eq_true rfl) d_Ir_permit_95 (fun H locs hP hS => ?_)
            have hv : ((none, (f_Permits_add ar (sg sc 13 (f_Permits_findClash ar sc a0 a1 a2)) a0 a1).1, (f_Permits_add ar (sg sc 13 (f_Permits_findClash ar sc a0 a1 a2)) a0 a1).2.1, (f_Permits_add ar (sg sc 13 (f_Permits_findClash ar sc a0 a1 a2)) a0 a1).2.2) : Option String × Int32 × (Nat → Nat → Int32) × (Nat → Int32)) = f_Ir_permit ar sc a0 a1 a2 := by rw [f_Ir_permit, if_neg c1, if_neg c6, if_neg c12, if_neg c30, if_pos c58, if_neg c78]
            exact W.widen (k := 1) (n := 6) (Nat.zero_le _) (Nat.zero_le _) (th_ret (W.iret (v := (f_Permits_add ar (sg sc 13 (f_Permits_findClash ar sc a0 a1 a2)) a0 a1).1) hx hb hr (fun t ht hW => ⟨⟨(f_Permits_add ar (sg sc 13 (f_Permits_findClash ar sc a0 a1 a2)) a0 a1).1, ((f_Permits_add ar (sg sc 13 (f_Permits_findClash ar sc a0 a1 a2)) a0 a1).2.1, (f_Permits_add ar (sg sc 13 (f_Permits_findClash ar sc a0 a1 a2)) a0 a1).2.2), rfl, hv, by dsimp only; rw [ht]; exact hP⟩, hS.F ht⟩) hS.2.2 d_Ir_permit_98))
theorem d_Ir_ground_0 : decode b_Ir_ground 0 = .ok (.iload_n 1, 1) := by decide +kernel
theorem d_Ir_ground_1 : decode b_Ir_ground 1 = .ok (.iload_n 3, 1) := by decide +kernel
theorem d_Ir_ground_2 : decode b_Ir_ground 2 = .ok (.invokestatic 213, 3) := by decide +kernel
theorem d_Ir_ground_5 : decode b_Ir_ground 5 = .ok (.ifCond .eq 16, 3) := by decide +kernel
theorem d_Ir_ground_8 : decode b_Ir_ground 8 = .ok (.iload_n 2, 1) := by decide +kernel
theorem d_Ir_ground_9 : decode b_Ir_ground 9 = .ok (.iload 4, 2) := by decide +kernel
theorem d_Ir_ground_11 : decode b_Ir_ground 11 = .ok (.invokestatic 213, 3) := by decide +kernel
theorem d_Ir_ground_14 : decode b_Ir_ground 14 = .ok (.ifCond .eq 7, 3) := by decide +kernel
theorem d_Ir_ground_17 : decode b_Ir_ground 17 = .ok (.iconst 1, 1) := by decide +kernel
theorem d_Ir_ground_18 : decode b_Ir_ground 18 = .ok (.goto 4, 3) := by decide +kernel
theorem d_Ir_ground_21 : decode b_Ir_ground 21 = .ok (.iconst 0, 1) := by decide +kernel
theorem d_Ir_ground_22 : decode b_Ir_ground 22 = .ok (.invokestatic 71, 3) := by decide +kernel
theorem d_Ir_ground_25 : decode b_Ir_ground 25 = .ok (.aload_n 0, 1) := by decide +kernel
theorem d_Ir_ground_26 : decode b_Ir_ground 26 = .ok (.getfield 47, 3) := by decide +kernel
theorem d_Ir_ground_29 : decode b_Ir_ground 29 = .ok (.iload_n 1, 1) := by decide +kernel
theorem d_Ir_ground_30 : decode b_Ir_ground 30 = .ok (.iload_n 2, 1) := by decide +kernel
theorem d_Ir_ground_31 : decode b_Ir_ground 31 = .ok (.iload_n 3, 1) := by decide +kernel
theorem d_Ir_ground_32 : decode b_Ir_ground 32 = .ok (.iload 4, 2) := by decide +kernel
theorem d_Ir_ground_34 : decode b_Ir_ground 34 = .ok (.invokevirtual 216, 3) := by decide +kernel
theorem d_Ir_ground_37 : decode b_Ir_ground 37 = .ok (.return_, 1) := by decide +kernel
set_option maxHeartbeats 4000000 in
set_option maxRecDepth 100000 in
theorem c_Ir_ground (l : Launch) (hlt : l.stackTraces = false) (sa : Nat → Nat) (dC : Nat → ClassId) (dI : Nat → Nat → Nat) (L : Nat → Nat) (cA : Nat → ClassId) (ar : Nat → Nat → Int32) (sc : Nat → Int32) (a0 : Int32) (a1 : Int32) (a2 : Int32) (a3 : Int32) (hL : ij 38 L) : th_Both l y_Ir_ground z_Ir_ground (rmX 8) (va_Pc [.ref (L 0), .int a0, .int a1, .int a2, .int a3] (fun U => xw_I dC dI L cA ar sc U ∧ xz_I L sa U)) (va_Qv (fun u : oS => (none, 0, u.1, u.2) = f_Ir_ground ar sc a0 a1 a2 a3) (fun u t => va_P (dC, dI) classes (wI L cA u.1 u.2) t.heap) (aI L)) (xC_I dC dI L cA (f_Ir_ground ar sc a0 a1 a2 a3)) 1 6 (aI L) := by
  refine th_ofW (cc := b_Ir_ground) (maxL := 5) (ret := none) (by decide) rfl ?_
  intro p e s m args below meth c s₁ B hml hnx hv
  obtain ⟨rfl, ⟨hP, hK⟩, hz⟩ := hv
  have hx := B.exec
  have hb := B.bytes
  have hr := B.returns
  have hts : ∀ w ∈ w_all, w.before _ s = true := fun w hw => atoms_spec (ws := z_Ir_ground) B.pre w (List.mem_cons_of_mem _ hw)
  have hown : s.vm.findClass R_Ir = some m.cls := findClass_of_methodNamed B.named
  have hlocks := B.notSynchronized
  have hF : CallFix p m c b_Ir_ground 5 s _ w_all R_Ir := ⟨hx, hb, hml, hown, hts⟩
  have hS : va_S (aI L) s.heap s.heap [] := va_S.rf
  have hl := lv_entry ([.ref (L 0), .int a0, .int a1, .int a2, .int a3]) (n := 5) (Nat.le_of_ble_eq_true rfl)
  rw [lg_entry_eq]
  generalize (lg_sl ([.ref (L 0), .int a0, .int a1, .int a2, .int a3]) ++ List.replicate (5 - (lg_sl ([.ref (L 0), .int a0, .int a1, .int a2, .int a3])).length) Slot.unset).toArray = ls at hl ⊢
  have hl : lv_has ls 5 [(0, .ref (L 0)), (1, .int a0), (2, .int a1), (3, .int a2), (4, .int a3)] := hl
  refine lv_iload_n hx hb d_Ir_ground_0 rfl (lv_at hl 1 rfl) ?_
  refine lv_iload_n hx hb d_Ir_ground_1 rfl (lv_at hl 3 rfl) ?_
  refine r_Ir_isSide hF m_464 hl.1 ⟨Nat.le_of_ble_eq_true rfl, Nat.le_of_ble_eq_true rfl⟩ ⟨Nat.zero_le _, Nat.zero_le _⟩ (Nat.le_of_ble_eq_true rfl) d_Ir_ground_2 ?_
  refine lv_if_eq (tgt := 21) hx hb d_Ir_ground_5 (by decide) (fun c5 => ?_) (fun c5 => ?_)
  · refine lv_iconst (v := 0) hx hb d_Ir_ground_21 (by decide) ?_
    refine rq_requireRange hF hK hlt hz hS hl.1 hlocks hnx m_437 ⟨Nat.le_of_ble_eq_true rfl, Nat.le_of_ble_eq_true rfl⟩ ⟨Nat.le_refl _, Nat.le_refl _⟩ d_Ir_ground_22 (fun c22 => xc_I hP hS (by rw [f_Ir_ground, if_pos c5])) (fun c22 => absurd rfl c22)
  · refine lv_iload_n hx hb d_Ir_ground_8 rfl (lv_at hl 2 rfl) ?_
    refine lv_iload hx hb d_Ir_ground_9 (lv_at hl 4 rfl) ?_
    refine r_Ir_isSide hF m_464 hl.1 ⟨Nat.le_of_ble_eq_true rfl, Nat.le_of_ble_eq_true rfl⟩ ⟨Nat.zero_le _, Nat.zero_le _⟩ (Nat.le_of_ble_eq_true rfl) d_Ir_ground_11 ?_
    refine lv_if_eq (tgt := 21) hx hb d_Ir_ground_14 (by decide) (fun c14 => ?_) (fun c14 => ?_)
    · refine lv_iconst (v := 0) hx hb d_Ir_ground_21 (by decide) ?_
      refine rq_requireRange hF hK hlt hz hS hl.1 hlocks hnx m_437 ⟨Nat.le_of_ble_eq_true rfl, Nat.le_of_ble_eq_true rfl⟩ ⟨Nat.le_refl _, Nat.le_refl _⟩ d_Ir_ground_22 (fun c22 => xc_I hP hS (by rw [f_Ir_ground, if_neg c5, if_pos c14])) (fun c22 => absurd rfl c22)
    · refine lv_iconst (v := 1) hx hb d_Ir_ground_17 (by decide) ?_
      refine lv_goto (tgt := 22) hx hb d_Ir_ground_18 (by decide) ?_
      refine rq_requireRange hF hK hlt hz hS hl.1 hlocks hnx m_437 ⟨Nat.le_of_ble_eq_true rfl, Nat.le_of_ble_eq_true rfl⟩ ⟨Nat.le_refl _, Nat.le_refl _⟩ d_Ir_ground_22 (fun c22 => absurd c22 (by decide)) (fun c22 => ?_)
      refine lv_aload_n hx hb d_Ir_ground_25 rfl (lv_at hl 0 rfl) ?_
      refine gf_Ir_permits hF hK hP m_412 d_Ir_ground_26 ?_
      refine lv_iload_n hx hb d_Ir_ground_29 rfl (lv_at hl 1 rfl) ?_
      refine lv_iload_n hx hb d_Ir_ground_30 rfl (lv_at hl 2 rfl) ?_
      refine lv_iload_n hx hb d_Ir_ground_31 rfl (lv_at hl 3 rfl) ?_
      refine lv_iload hx hb d_Ir_ground_32 (lv_at hl 4 rfl) ?_
      refine r_Permits_tellGround hF hK hP hL hS m_465 hl.1 ⟨Nat.le_of_ble_eq_true rfl, Nat.le_of_ble_eq_true rfl⟩ ⟨Nat.zero_le _, Nat.zero_le _⟩ (Nat.le_of_ble_eq_true rfl) d_Ir_ground_34 (fun H locs hP hS => ?_)
      have hv : ((none, 0, (f_Permits_tellGround ar sc a0 a1 a2 a3).1, (f_Permits_tellGround ar sc a0 a1 a2 a3).2) : Option String × Int32 × (Nat → Nat → Int32) × (Nat → Int32)) = f_Ir_ground ar sc a0 a1 a2 a3 := by rw [f_Ir_ground, if_neg c5, if_neg c14]
      exact W.widen (k := 1) (n := 6) (Nat.zero_le _) (Nat.zero_le _) (th_ret (W.vret hx hb hr (fun t ht hW => ⟨⟨((f_Permits_tellGround ar sc a0 a1 a2 a3).1, (f_Permits_tellGround ar sc a0 a1 a2 a3).2), rfl, hv, by dsimp only; rw [ht]; exact hP⟩, hS.F ht⟩) hS.2.2 d_Ir_ground_37))
theorem d_Ir_clash_0 : decode b_Ir_clash 0 = .ok (.aload_n 0, 1) := by decide +kernel
theorem d_Ir_clash_1 : decode b_Ir_clash 1 = .ok (.getfield 47, 3) := by decide +kernel
theorem d_Ir_clash_4 : decode b_Ir_clash 4 = .ok (.getfield 207, 3) := by decide +kernel
theorem d_Ir_clash_7 : decode b_Ir_clash 7 = .ok (.ireturn, 1) := by decide +kernel
set_option maxHeartbeats 4000000 in
set_option maxRecDepth 100000 in
theorem c_Ir_clash (l : Launch) (hlt : l.stackTraces = false) (sa : Nat → Nat) (dC : Nat → ClassId) (dI : Nat → Nat → Nat) (L : Nat → Nat) (cA : Nat → ClassId) (ar : Nat → Nat → Int32) (sc : Nat → Int32) (hL : ij 38 L) : th_Both l y_Ir_clash z_Ir_clash (rmX 8) (va_Pc [.ref (L 0)] (fun U => xw_I dC dI L cA ar sc U ∧ xz_I L sa U)) (va_Qi (fun (r : Int32) (u : oS) => (none, r, u.1, u.2) = f_Ir_clash ar sc ) (fun u t => va_P (dC, dI) classes (wI L cA u.1 u.2) t.heap) (aI L)) (xC_I dC dI L cA (f_Ir_clash ar sc )) 1 6 (aI L) := by
  refine th_ofW (cc := b_Ir_clash) (maxL := 1) (ret := (some .int)) (by decide) rfl ?_
  intro p e s m args below meth c s₁ B hml hnx hv
  obtain ⟨rfl, ⟨hP, hK⟩, hz⟩ := hv
  have hx := B.exec
  have hb := B.bytes
  have hr := B.returns
  have hts : ∀ w ∈ w_all, w.before _ s = true := fun w hw => atoms_spec (ws := z_Ir_clash) B.pre w (List.mem_cons_of_mem _ hw)
  have hown : s.vm.findClass R_Ir = some m.cls := findClass_of_methodNamed B.named
  have hlocks := B.notSynchronized
  have hF : CallFix p m c b_Ir_clash 1 s _ w_all R_Ir := ⟨hx, hb, hml, hown, hts⟩
  have hS : va_S (aI L) s.heap s.heap [] := va_S.rf
  have hl := lv_entry ([.ref (L 0)]) (n := 1) (Nat.le_of_ble_eq_true rfl)
  rw [lg_entry_eq]
  generalize (lg_sl ([.ref (L 0)]) ++ List.replicate (1 - (lg_sl ([.ref (L 0)])).length) Slot.unset).toArray = ls at hl ⊢
  have hl : lv_has ls 1 [(0, .ref (L 0))] := hl
  refine lv_aload_n hx hb d_Ir_clash_0 rfl (lv_at hl 0 rfl) ?_
  refine gf_Ir_permits hF hK hP m_412 d_Ir_clash_1 ?_
  refine gn_Permits_clash hF hK hP mn_20 d_Ir_clash_4 ?_
  have hv : ((none, sc 13, ar, sc) : Option String × Int32 × (Nat → Nat → Int32) × (Nat → Int32)) = f_Ir_clash ar sc  := by rw [f_Ir_clash]
  exact W.widen (k := 1) (n := 6) (Nat.zero_le _) (Nat.zero_le _) (th_ret (W.iret (v := sc 13) hx hb hr (fun t ht hW => ⟨⟨sc 13, (ar, sc), rfl, hv, by dsimp only; rw [ht]; exact hP⟩, hS.F ht⟩) hS.2.2 d_Ir_clash_7))
theorem d_Ir_touches_0 : decode b_Ir_touches 0 = .ok (.iload_n 1, 1) := by decide +kernel
theorem d_Ir_touches_1 : decode b_Ir_touches 1 = .ok (.ifCond .lt 18, 3) := by decide +kernel
theorem d_Ir_touches_4 : decode b_Ir_touches 4 = .ok (.iload_n 1, 1) := by decide +kernel
theorem d_Ir_touches_5 : decode b_Ir_touches 5 = .ok (.aload_n 0, 1) := by decide +kernel
theorem d_Ir_touches_6 : decode b_Ir_touches 6 = .ok (.getfield 47, 3) := by decide +kernel
theorem d_Ir_touches_9 : decode b_Ir_touches 9 = .ok (.getfield 210, 3) := by decide +kernel
theorem d_Ir_touches_12 : decode b_Ir_touches 12 = .ok (.if_icmp .ge 7, 3) := by decide +kernel
theorem d_Ir_touches_15 : decode b_Ir_touches 15 = .ok (.iconst 1, 1) := by decide +kernel
theorem d_Ir_touches_16 : decode b_Ir_touches 16 = .ok (.goto 4, 3) := by decide +kernel
theorem d_Ir_touches_19 : decode b_Ir_touches 19 = .ok (.iconst 0, 1) := by decide +kernel
theorem d_Ir_touches_20 : decode b_Ir_touches 20 = .ok (.invokestatic 63, 3) := by decide +kernel
theorem d_Ir_touches_23 : decode b_Ir_touches 23 = .ok (.aload_n 0, 1) := by decide +kernel
theorem d_Ir_touches_24 : decode b_Ir_touches 24 = .ok (.getfield 47, 3) := by decide +kernel
theorem d_Ir_touches_27 : decode b_Ir_touches 27 = .ok (.getfield 219, 3) := by decide +kernel
theorem d_Ir_touches_30 : decode b_Ir_touches 30 = .ok (.iload_n 1, 1) := by decide +kernel
theorem d_Ir_touches_31 : decode b_Ir_touches 31 = .ok (.iaload, 1) := by decide +kernel
theorem d_Ir_touches_32 : decode b_Ir_touches 32 = .ok (.sipush 1440, 3) := by decide +kernel
theorem d_Ir_touches_35 : decode b_Ir_touches 35 = .ok (.idiv, 1) := by decide +kernel
theorem d_Ir_touches_36 : decode b_Ir_touches 36 = .ok (.istore_n 2, 1) := by decide +kernel
theorem d_Ir_touches_37 : decode b_Ir_touches 37 = .ok (.aload_n 0, 1) := by decide +kernel
theorem d_Ir_touches_38 : decode b_Ir_touches 38 = .ok (.getfield 47, 3) := by decide +kernel
theorem d_Ir_touches_41 : decode b_Ir_touches 41 = .ok (.getfield 222, 3) := by decide +kernel
theorem d_Ir_touches_44 : decode b_Ir_touches 44 = .ok (.iload_n 1, 1) := by decide +kernel
theorem d_Ir_touches_45 : decode b_Ir_touches 45 = .ok (.iaload, 1) := by decide +kernel
theorem d_Ir_touches_46 : decode b_Ir_touches 46 = .ok (.iconst 1, 1) := by decide +kernel
theorem d_Ir_touches_47 : decode b_Ir_touches 47 = .ok (.isub, 1) := by decide +kernel
theorem d_Ir_touches_48 : decode b_Ir_touches 48 = .ok (.sipush 1440, 3) := by decide +kernel
theorem d_Ir_touches_51 : decode b_Ir_touches 51 = .ok (.idiv, 1) := by decide +kernel
theorem d_Ir_touches_52 : decode b_Ir_touches 52 = .ok (.istore_n 3, 1) := by decide +kernel
theorem d_Ir_touches_53 : decode b_Ir_touches 53 = .ok (.iload_n 3, 1) := by decide +kernel
theorem d_Ir_touches_54 : decode b_Ir_touches 54 = .ok (.iload_n 2, 1) := by decide +kernel
theorem d_Ir_touches_55 : decode b_Ir_touches 55 = .ok (.isub, 1) := by decide +kernel
theorem d_Ir_touches_56 : decode b_Ir_touches 56 = .ok (.iconst 1, 1) := by decide +kernel
theorem d_Ir_touches_57 : decode b_Ir_touches 57 = .ok (.iadd, 1) := by decide +kernel
theorem d_Ir_touches_58 : decode b_Ir_touches 58 = .ok (.ireturn, 1) := by decide +kernel
set_option maxHeartbeats 4000000 in
set_option maxRecDepth 100000 in
theorem c_Ir_touches (l : Launch) (hlt : l.stackTraces = false) (sa : Nat → Nat) (dC : Nat → ClassId) (dI : Nat → Nat → Nat) (L : Nat → Nat) (cA : Nat → ClassId) (ar : Nat → Nat → Int32) (sc : Nat → Int32) (a0 : Int32) (hL : ij 38 L) (h : p_Ir_touches ar sc a0) : th_Both l y_Ir_touches z_Ir_touches (rmX 8) (va_Pc [.ref (L 0), .int a0] (fun U => xw_I dC dI L cA ar sc U ∧ xz_I L sa U)) (va_Qi (fun (r : Int32) (u : oS) => (none, r, u.1, u.2) = f_Ir_touches ar sc a0) (fun u t => va_P (dC, dI) classes (wI L cA u.1 u.2) t.heap) (aI L)) (xC_I dC dI L cA (f_Ir_touches ar sc a0)) 1 6 (aI L) := by
  refine th_ofW (cc := b_Ir_touches) (maxL := 4) (ret := (some .int)) (by decide) rfl ?_
  intro p e s m args below meth c s₁ B hml hnx hv
  obtain ⟨rfl, ⟨hP, hK⟩, hz⟩ := hv
  have hx := B.exec
  have hb := B.bytes
  have hr := B.returns
  have hts : ∀ w ∈ w_all, w.before _ s = true := fun w hw => atoms_spec (ws := z_Ir_touches) B.pre w (List.mem_cons_of_mem _ hw)
  have hown : s.vm.findClass R_Ir = some m.cls := findClass_of_methodNamed B.named
  have hlocks := B.notSynchronized
  have hF : CallFix p m c b_Ir_touches 4 s _ w_all R_Ir := ⟨hx, hb, hml, hown, hts⟩
  have hS : va_S (aI L) s.heap s.heap [] := va_S.rf
  have hl := lv_entry ([.ref (L 0), .int a0]) (n := 4) (Nat.le_of_ble_eq_true rfl)
  rw [lg_entry_eq]
  generalize (lg_sl ([.ref (L 0), .int a0]) ++ List.replicate (4 - (lg_sl ([.ref (L 0), .int a0])).length) Slot.unset).toArray = ls at hl ⊢
  have hl : lv_has ls 4 [(0, .ref (L 0)), (1, .int a0)] := hl
  unfold p_Ir_touches at h
  refine lv_iload_n hx hb d_Ir_touches_0 rfl (lv_at hl 1 rfl) ?_
  refine lv_if_lt (tgt := 19) hx hb d_Ir_touches_1 (by decide) (fun c1 => ?_) (fun c1 => ?_)
  · have h := h.1 c1
    refine lv_iconst (v := 0) hx hb d_Ir_touches_19 (by decide) ?_
    refine rq_requireKnown hF hK hlt hz hS hl.1 hlocks hnx m_436 ⟨Nat.le_of_ble_eq_true rfl, Nat.le_of_ble_eq_true rfl⟩ ⟨Nat.le_refl _, Nat.le_refl _⟩ d_Ir_touches_20 (fun c20 => xc_I hP hS (by rw [f_Ir_touches, if_pos c1])) (fun c20 => absurd rfl c20)
  · have h := h.2 c1
    refine lv_iload_n hx hb d_Ir_touches_4 rfl (lv_at hl 1 rfl) ?_
    refine lv_aload_n hx hb d_Ir_touches_5 rfl (lv_at hl 0 rfl) ?_
    refine gf_Ir_permits hF hK hP m_412 d_Ir_touches_6 ?_
    refine gn_Permits_count hF hK hP mn_21 d_Ir_touches_9 ?_
    refine lv_icmp_ge (tgt := 19) hx hb d_Ir_touches_12 (by decide) (fun c12 => ?_) (fun c12 => ?_)
    · have h := h.1 c12
      refine lv_iconst (v := 0) hx hb d_Ir_touches_19 (by decide) ?_
      refine rq_requireKnown hF hK hlt hz hS hl.1 hlocks hnx m_436 ⟨Nat.le_of_ble_eq_true rfl, Nat.le_of_ble_eq_true rfl⟩ ⟨Nat.le_refl _, Nat.le_refl _⟩ d_Ir_touches_20 (fun c20 => xc_I hP hS (by rw [f_Ir_touches, if_neg c1, if_pos c12])) (fun c20 => absurd rfl c20)
    · have h := h.2 c12
      refine lv_iconst (v := 1) hx hb d_Ir_touches_15 (by decide) ?_
      refine lv_goto (tgt := 20) hx hb d_Ir_touches_16 (by decide) ?_
      refine rq_requireKnown hF hK hlt hz hS hl.1 hlocks hnx m_436 ⟨Nat.le_of_ble_eq_true rfl, Nat.le_of_ble_eq_true rfl⟩ ⟨Nat.le_refl _, Nat.le_refl _⟩ d_Ir_touches_20 (fun c20 => absurd c20 (by decide)) (fun c20 => ?_)
      refine lv_aload_n hx hb d_Ir_touches_23 rfl (lv_at hl 0 rfl) ?_
      refine gf_Ir_permits hF hK hP m_412 d_Ir_touches_24 ?_
      refine gn_Permits_froms hF hK hP mn_22 d_Ir_touches_27 ?_
      refine lv_iload_n hx hb d_Ir_touches_30 rfl (lv_at hl 1 rfl) ?_
      have k31 := h.1
      have h := h.2
      refine alI_35 hF hK hP k31 d_Ir_touches_31 ?_
      refine lv_sipush (v := 1440) hx hb d_Ir_touches_32 (by decide) ?_
      refine lv_idiv hx hb d_Ir_touches_35 (by decide) ?_
      refine lv_istore_n (lv' := [(2, .int ((ar 35 a0.toNatClampNeg) / 1440)), (0, .ref (L 0)), (1, .int a0)]) hx hb d_Ir_touches_36 rfl hl (by decide) rfl (fun ls hl => ?_)
      refine lv_aload_n hx hb d_Ir_touches_37 rfl (lv_at hl 1 rfl) ?_
      refine gf_Ir_permits hF hK hP m_412 d_Ir_touches_38 ?_
      refine gn_Permits_tos hF hK hP mn_23 d_Ir_touches_41 ?_
      refine lv_iload_n hx hb d_Ir_touches_44 rfl (lv_at hl 2 rfl) ?_
      have k45 := h
      refine alI_36 hF hK hP k45 d_Ir_touches_45 ?_
      refine lv_iconst (v := 1) hx hb d_Ir_touches_46 (by decide) ?_
      refine lv_isub hx hb d_Ir_touches_47 ?_
      refine lv_sipush (v := 1440) hx hb d_Ir_touches_48 (by decide) ?_
      refine lv_idiv hx hb d_Ir_touches_51 (by decide) ?_
      refine lv_istore_n (lv' := [(3, .int (((ar 36 a0.toNatClampNeg) - 1) / 1440)), (2, .int ((ar 35 a0.toNatClampNeg) / 1440)), (0, .ref (L 0)), (1, .int a0)]) hx hb d_Ir_touches_52 rfl hl (by decide) rfl (fun ls hl => ?_)
      refine lv_iload_n hx hb d_Ir_touches_53 rfl (lv_at hl 0 rfl) ?_
      refine lv_iload_n hx hb d_Ir_touches_54 rfl (lv_at hl 1 rfl) ?_
      refine lv_isub hx hb d_Ir_touches_55 ?_
      refine lv_iconst (v := 1) hx hb d_Ir_touches_56 (by decide) ?_
      refine lv_iadd hx hb d_Ir_touches_57 ?_
      have hv : ((none, ((((ar 36 a0.toNatClampNeg) - 1) / 1440) - ((ar 35 a0.toNatClampNeg) / 1440)) + 1, ar, sc) : Option String × Int32 × (Nat → Nat → Int32) × (Nat → Int32)) = f_Ir_touches ar sc a0 := by rw [f_Ir_touches, if_neg c1, if_neg c12]
      exact W.widen (k := 1) (n := 6) (Nat.zero_le _) (Nat.zero_le _) (th_ret (W.iret (v := ((((ar 36 a0.toNatClampNeg) - 1) / 1440) - ((ar 35 a0.toNatClampNeg) / 1440)) + 1) hx hb hr (fun t ht hW => ⟨⟨((((ar 36 a0.toNatClampNeg) - 1) / 1440) - ((ar 35 a0.toNatClampNeg) / 1440)) + 1, (ar, sc), rfl, hv, by dsimp only; rw [ht]; exact hP⟩, hS.F ht⟩) hS.2.2 d_Ir_touches_58))
theorem d_Ir_surprise_0 : decode b_Ir_surprise 0 = .ok (.aload_n 0, 1) := by decide +kernel
theorem d_Ir_surprise_1 : decode b_Ir_surprise 1 = .ok (.getfield 19, 3) := by decide +kernel
theorem d_Ir_surprise_4 : decode b_Ir_surprise 4 = .ok (.getfield 87, 3) := by decide +kernel
theorem d_Ir_surprise_7 : decode b_Ir_surprise 7 = .ok (.ifCond .le 7, 3) := by decide +kernel
theorem d_Ir_surprise_10 : decode b_Ir_surprise 10 = .ok (.iconst 1, 1) := by decide +kernel
theorem d_Ir_surprise_11 : decode b_Ir_surprise 11 = .ok (.goto 4, 3) := by decide +kernel
theorem d_Ir_surprise_14 : decode b_Ir_surprise 14 = .ok (.iconst 0, 1) := by decide +kernel
theorem d_Ir_surprise_15 : decode b_Ir_surprise 15 = .ok (.invokestatic 118, 3) := by decide +kernel
theorem d_Ir_surprise_18 : decode b_Ir_surprise 18 = .ok (.iload_n 1, 1) := by decide +kernel
theorem d_Ir_surprise_19 : decode b_Ir_surprise 19 = .ok (.ldc 225, 2) := by decide +kernel
theorem d_Ir_surprise_21 : decode b_Ir_surprise 21 = .ok (.imul, 1) := by decide +kernel
theorem d_Ir_surprise_22 : decode b_Ir_surprise 22 = .ok (.sipush 12345, 3) := by decide +kernel
theorem d_Ir_surprise_25 : decode b_Ir_surprise 25 = .ok (.iadd, 1) := by decide +kernel
theorem d_Ir_surprise_26 : decode b_Ir_surprise 26 = .ok (.istore_n 2, 1) := by decide +kernel
theorem d_Ir_surprise_27 : decode b_Ir_surprise 27 = .ok (.iload_n 2, 1) := by decide +kernel
theorem d_Ir_surprise_28 : decode b_Ir_surprise 28 = .ok (.bipush 8, 2) := by decide +kernel
theorem d_Ir_surprise_30 : decode b_Ir_surprise 30 = .ok (.iushr, 1) := by decide +kernel
theorem d_Ir_surprise_31 : decode b_Ir_surprise 31 = .ok (.aload_n 0, 1) := by decide +kernel
theorem d_Ir_surprise_32 : decode b_Ir_surprise 32 = .ok (.getfield 19, 3) := by decide +kernel
theorem d_Ir_surprise_35 : decode b_Ir_surprise 35 = .ok (.getfield 87, 3) := by decide +kernel
theorem d_Ir_surprise_38 : decode b_Ir_surprise 38 = .ok (.irem, 1) := by decide +kernel
theorem d_Ir_surprise_39 : decode b_Ir_surprise 39 = .ok (.ireturn, 1) := by decide +kernel
set_option maxHeartbeats 4000000 in
set_option maxRecDepth 100000 in
theorem c_Ir_surprise (l : Launch) (hlt : l.stackTraces = false) (sa : Nat → Nat) (dC : Nat → ClassId) (dI : Nat → Nat → Nat) (L : Nat → Nat) (cA : Nat → ClassId) (ar : Nat → Nat → Int32) (sc : Nat → Int32) (a0 : Int32) (hL : ij 38 L) (h : p_Ir_surprise ar sc a0) : th_Both l y_Ir_surprise z_Ir_surprise (rmX 8) (va_Pc [.ref (L 0), .int a0] (fun U => xw_I dC dI L cA ar sc U ∧ xz_I L sa U)) (va_Qi (fun (r : Int32) (u : oS) => (none, r, u.1, u.2) = f_Ir_surprise ar sc a0) (fun u t => va_P (dC, dI) classes (wI L cA u.1 u.2) t.heap) (aI L)) (xC_I dC dI L cA (f_Ir_surprise ar sc a0)) 1 6 (aI L) := by
  refine th_ofW (cc := b_Ir_surprise) (maxL := 3) (ret := (some .int)) (by decide) rfl ?_
  intro p e s m args below meth c s₁ B hml hnx hv
  obtain ⟨rfl, ⟨hP, hK⟩, hz⟩ := hv
  have hx := B.exec
  have hb := B.bytes
  have hr := B.returns
  have hts : ∀ w ∈ w_all, w.before _ s = true := fun w hw => atoms_spec (ws := z_Ir_surprise) B.pre w (List.mem_cons_of_mem _ hw)
  have hown : s.vm.findClass R_Ir = some m.cls := findClass_of_methodNamed B.named
  have hlocks := B.notSynchronized
  have hF : CallFix p m c b_Ir_surprise 3 s _ w_all R_Ir := ⟨hx, hb, hml, hown, hts⟩
  have hS : va_S (aI L) s.heap s.heap [] := va_S.rf
  have hl := lv_entry ([.ref (L 0), .int a0]) (n := 3) (Nat.le_of_ble_eq_true rfl)
  rw [lg_entry_eq]
  generalize (lg_sl ([.ref (L 0), .int a0]) ++ List.replicate (3 - (lg_sl ([.ref (L 0), .int a0])).length) Slot.unset).toArray = ls at hl ⊢
  have hl : lv_has ls 3 [(0, .ref (L 0)), (1, .int a0)] := hl
  unfold p_Ir_surprise at h
  refine lv_aload_n hx hb d_Ir_surprise_0 rfl (lv_at hl 0 rfl) ?_
  refine gf_Ir_points hF hK hP m_134 d_Ir_surprise_1 ?_
  refine gn_Points_count hF hK hP mn_0 d_Ir_surprise_4 ?_
  refine lv_if_le (tgt := 14) hx hb d_Ir_surprise_7 (by decide) (fun c7 => ?_) (fun c7 => ?_)
  · have h := h.1 c7
    refine lv_iconst (v := 0) hx hb d_Ir_surprise_14 (by decide) ?_
    refine rq_requireState hF hK hlt hz hS hl.1 hlocks hnx m_446 ⟨Nat.le_of_ble_eq_true rfl, Nat.le_of_ble_eq_true rfl⟩ ⟨Nat.le_refl _, Nat.le_refl _⟩ d_Ir_surprise_15 (fun c15 => xc_I hP hS (by rw [f_Ir_surprise, if_pos c7])) (fun c15 => absurd rfl c15)
  · have h := h.2 c7
    refine lv_iconst (v := 1) hx hb d_Ir_surprise_10 (by decide) ?_
    refine lv_goto (tgt := 15) hx hb d_Ir_surprise_11 (by decide) ?_
    refine rq_requireState hF hK hlt hz hS hl.1 hlocks hnx m_446 ⟨Nat.le_of_ble_eq_true rfl, Nat.le_of_ble_eq_true rfl⟩ ⟨Nat.le_refl _, Nat.le_refl _⟩ d_Ir_surprise_15 (fun c15 => absurd c15 (by decide)) (fun c15 => ?_)
    refine lv_iload_n hx hb d_Ir_surprise_18 rfl (lv_at hl 1 rfl) ?_
    refine lv_ldc (v := 1103515245) hx hb hown (hts _ m_466) d_Ir_surprise_19 ?_
    refine lv_imul hx hb d_Ir_surprise_21 ?_
    refine lv_sipush (v := 12345) hx hb d_Ir_surprise_22 (by decide) ?_
    refine lv_iadd hx hb d_Ir_surprise_25 ?_
    refine lv_istore_n (lv' := [(2, .int ((a0 * 1103515245) + 12345)), (0, .ref (L 0)), (1, .int a0)]) hx hb d_Ir_surprise_26 rfl hl (by decide) rfl (fun ls hl => ?_)
    refine lv_iload_n hx hb d_Ir_surprise_27 rfl (lv_at hl 0 rfl) ?_
    refine lv_bipush (v := 8) hx hb d_Ir_surprise_28 (by decide) ?_
    refine lv_iushr hx hb d_Ir_surprise_30 rfl ?_
    refine lv_aload_n hx hb d_Ir_surprise_31 rfl (lv_at hl 1 rfl) ?_
    refine gf_Ir_points hF hK hP m_134 d_Ir_surprise_32 ?_
    refine gn_Points_count hF hK hP mn_0 d_Ir_surprise_35 ?_
    have k38 := h
    refine lv_irem hx hb d_Ir_surprise_38 k38 ?_
    have hv : ((none, ((((a0 * 1103515245) + 12345).toUInt32 >>> ((8 : Int32).toUInt32 &&& Int32.toUInt32 31)).toInt32) - ((((a0 * 1103515245) + 12345).toUInt32 >>> ((8 : Int32).toUInt32 &&& Int32.toUInt32 31)).toInt32) / (sc 1) * (sc 1), ar, sc) : Option String × Int32 × (Nat → Nat → Int32) × (Nat → Int32)) = f_Ir_surprise ar sc a0 := by rw [f_Ir_surprise, if_neg c7]
    exact W.widen (k := 1) (n := 6) (Nat.zero_le _) (Nat.zero_le _) (th_ret (W.iret (v := ((((a0 * 1103515245) + 12345).toUInt32 >>> ((8 : Int32).toUInt32 &&& Int32.toUInt32 31)).toInt32) - ((((a0 * 1103515245) + 12345).toUInt32 >>> ((8 : Int32).toUInt32 &&& Int32.toUInt32 31)).toInt32) / (sc 1) * (sc 1)) hx hb hr (fun t ht hW => ⟨⟨((((a0 * 1103515245) + 12345).toUInt32 >>> ((8 : Int32).toUInt32 &&& Int32.toUInt32 31)).toInt32) - ((((a0 * 1103515245) + 12345).toUInt32 >>> ((8 : Int32).toUInt32 &&& Int32.toUInt32 31)).toInt32) / (sc 1) * (sc 1), (ar, sc), rfl, hv, by dsimp only; rw [ht]; exact hP⟩, hS.F ht⟩) hS.2.2 d_Ir_surprise_39))

theorem m_435 : (Cond.methodLink R_Ir 59 y_Ir_isKind) ∈ w_all := List.mem_filter.mpr ⟨List.mem_of_getElem? (i := 292) (by decide +kernel), by decide +kernel⟩
theorem m_436 : (Cond.methodLink R_Ir 63 y_Ir_requireKnown) ∈ w_all := List.mem_filter.mpr ⟨List.mem_of_getElem? (i := 298) (by decide +kernel), by decide +kernel⟩
theorem m_437 : (Cond.methodLink R_Ir 71 y_Ir_requireRange) ∈ w_all := List.mem_filter.mpr ⟨List.mem_of_getElem? (i := 370) (by decide +kernel), by decide +kernel⟩
theorem m_438 : (Cond.constant R_Ir 77 100000) ∈ w_all := List.mem_filter.mpr ⟨List.mem_of_getElem? (i := 396) (by decide +kernel), by decide +kernel⟩
theorem m_439 : (Cond.methodLink R_Ir 90 y_Ir_requireRoom) ∈ w_all := List.mem_filter.mpr ⟨List.mem_of_getElem? (i := 412) (by decide +kernel), by decide +kernel⟩
theorem m_440 : (Cond.methodLink R_Ir 93 y_Points_add) ∈ w_all := List.mem_filter.mpr ⟨List.mem_of_getElem? (i := 431) (by decide +kernel), by decide +kernel⟩
theorem m_441 : (Cond.constant R_Ir 97 99999) ∈ w_all := List.mem_filter.mpr ⟨List.mem_of_getElem? (i := 442) (by decide +kernel), by decide +kernel⟩
theorem m_442 : (Cond.methodLink R_Ir 109 y_Findings_add) ∈ w_all := List.mem_filter.mpr ⟨List.mem_of_getElem? (i := 489) (by decide +kernel), by decide +kernel⟩
theorem m_443 : (Cond.methodLink R_Ir 105 y_Ir_classOf) ∈ w_all := List.mem_filter.mpr ⟨List.mem_of_getElem? (i := 461) (by decide +kernel), by decide +kernel⟩
theorem mn_8 : (Cond.fieldLinkNest R_Ir 78 "InspectRows$Scale" "steps" "[I" "InspectRows") ∈ nw_all := List.mem_filter.mpr ⟨List.mem_of_getElem? (i := 65) (by decide +kernel), by decide +kernel⟩
theorem mn_9 : (Cond.fieldLinkNest R_Ir 84 "InspectRows$Scale" "times" "[I" "InspectRows") ∈ nw_all := List.mem_filter.mpr ⟨List.mem_of_getElem? (i := 69) (by decide +kernel), by decide +kernel⟩
theorem d_Ir_weight_0 : decode b_Ir_weight 0 = .ok (.iload_n 1, 1) := by decide +kernel
theorem d_Ir_weight_1 : decode b_Ir_weight 1 = .ok (.invokestatic 59, 3) := by decide +kernel
theorem d_Ir_weight_4 : decode b_Ir_weight 4 = .ok (.invokestatic 63, 3) := by decide +kernel
theorem d_Ir_weight_7 : decode b_Ir_weight 7 = .ok (.iload_n 2, 1) := by decide +kernel
theorem d_Ir_weight_8 : decode b_Ir_weight 8 = .ok (.iconst 0, 1) := by decide +kernel
theorem d_Ir_weight_9 : decode b_Ir_weight 9 = .ok (.bipush 100, 2) := by decide +kernel
theorem d_Ir_weight_11 : decode b_Ir_weight 11 = .ok (.invokestatic 67, 3) := by decide +kernel
theorem d_Ir_weight_14 : decode b_Ir_weight 14 = .ok (.invokestatic 71, 3) := by decide +kernel
theorem d_Ir_weight_17 : decode b_Ir_weight 17 = .ok (.aload_n 0, 1) := by decide +kernel
theorem d_Ir_weight_18 : decode b_Ir_weight 18 = .ok (.getfield 10, 3) := by decide +kernel
theorem d_Ir_weight_21 : decode b_Ir_weight 21 = .ok (.getfield 74, 3) := by decide +kernel
theorem d_Ir_weight_24 : decode b_Ir_weight 24 = .ok (.iload_n 1, 1) := by decide +kernel
theorem d_Ir_weight_25 : decode b_Ir_weight 25 = .ok (.iload_n 2, 1) := by decide +kernel
theorem d_Ir_weight_26 : decode b_Ir_weight 26 = .ok (.iastore, 1) := by decide +kernel
theorem d_Ir_weight_27 : decode b_Ir_weight 27 = .ok (.return_, 1) := by decide +kernel
set_option maxHeartbeats 4000000 in
set_option maxRecDepth 100000 in
theorem c_Ir_weight (l : Launch) (hlt : l.stackTraces = false) (sa : Nat → Nat) (dC : Nat → ClassId) (dI : Nat → Nat → Nat) (L : Nat → Nat) (cA : Nat → ClassId) (ar : Nat → Nat → Int32) (sc : Nat → Int32) (a0 : Int32) (a1 : Int32) (hL : ij 38 L) (h : p_Ir_weight ar sc a0 a1) : th_Both l y_Ir_weight z_Ir_weight (rmX 8) (va_Pc [.ref (L 0), .int a0, .int a1] (fun U => xw_I dC dI L cA ar sc U ∧ xz_I L sa U)) (va_Qv (fun u : oS => (none, 0, u.1, u.2) = f_Ir_weight ar sc a0 a1) (fun u t => va_P (dC, dI) classes (wI L cA u.1 u.2) t.heap) (aI L)) (xC_I dC dI L cA (f_Ir_weight ar sc a0 a1)) 1 6 (aI L) := by
  refine th_ofW (cc := b_Ir_weight) (maxL := 3) (ret := none) (by decide) rfl ?_
  intro p e s m args below meth c s₁ B hml hnx hv
  obtain ⟨rfl, ⟨hP, hK⟩, hz⟩ := hv
  have hx := B.exec
  have hb := B.bytes
  have hr := B.returns
  have hts : ∀ w ∈ w_all, w.before _ s = true := fun w hw => atoms_spec (ws := z_Ir_weight) B.pre w (List.mem_cons_of_mem _ hw)
  have hown : s.vm.findClass R_Ir = some m.cls := findClass_of_methodNamed B.named
  have hlocks := B.notSynchronized
  have hF : CallFix p m c b_Ir_weight 3 s _ w_all R_Ir := ⟨hx, hb, hml, hown, hts⟩
  have hS : va_S (aI L) s.heap s.heap [] := va_S.rf
  have hl := lv_entry ([.ref (L 0), .int a0, .int a1]) (n := 3) (Nat.le_of_ble_eq_true rfl)
  rw [lg_entry_eq]
  generalize (lg_sl ([.ref (L 0), .int a0, .int a1]) ++ List.replicate (3 - (lg_sl ([.ref (L 0), .int a0, .int a1])).length) Slot.unset).toArray = ls at hl ⊢
  have hl : lv_has ls 3 [(0, .ref (L 0)), (1, .int a0), (2, .int a1)] := hl
  unfold p_Ir_weight at h
  refine lv_iload_n hx hb d_Ir_weight_0 rfl (lv_at hl 1 rfl) ?_
  refine r_Ir_isKind hF m_435 hl.1 ⟨Nat.le_of_ble_eq_true rfl, Nat.le_of_ble_eq_true rfl⟩ ⟨Nat.zero_le _, Nat.zero_le _⟩ (Nat.le_of_ble_eq_true rfl) d_Ir_weight_1 ?_
  refine rq_requireKnown hF hK hlt hz hS hl.1 hlocks hnx m_436 ⟨Nat.le_of_ble_eq_true rfl, Nat.le_of_ble_eq_true rfl⟩ ⟨Nat.le_refl _, Nat.le_refl _⟩ d_Ir_weight_4 (fun c4 => xc_I hP hS (by rw [f_Ir_weight, if_pos c4])) (fun c4 => ?_)
  have h := h c4
  refine lv_iload_n hx hb d_Ir_weight_7 rfl (lv_at hl 2 rfl) ?_
  refine lv_iconst (v := 0) hx hb d_Ir_weight_8 (by decide) ?_
  refine lv_bipush (v := 100) hx hb d_Ir_weight_9 (by decide) ?_
  refine r_Ir_isWithin hF m_131 hl.1 ⟨Nat.le_of_ble_eq_true rfl, Nat.le_of_ble_eq_true rfl⟩ ⟨Nat.zero_le _, Nat.zero_le _⟩ (Nat.le_of_ble_eq_true rfl) d_Ir_weight_11 ?_
  refine rq_requireRange hF hK hlt hz hS hl.1 hlocks hnx m_437 ⟨Nat.le_of_ble_eq_true rfl, Nat.le_of_ble_eq_true rfl⟩ ⟨Nat.le_refl _, Nat.le_refl _⟩ d_Ir_weight_14 (fun c14 => xc_I hP hS (by rw [f_Ir_weight, if_neg c4, if_pos c14])) (fun c14 => ?_)
  have h := h c14
  refine lv_aload_n hx hb d_Ir_weight_17 rfl (lv_at hl 0 rfl) ?_
  refine gf_Ir_scale hF hK hP m_158 d_Ir_weight_18 ?_
  refine gn_Scale_kindWeights hF hK hP mn_2 d_Ir_weight_21 ?_
  refine lv_iload_n hx hb d_Ir_weight_24 rfl (lv_at hl 1 rfl) ?_
  refine lv_iload_n hx hb d_Ir_weight_25 rfl (lv_at hl 2 rfl) ?_
  have k26 := h
  refine asI_2 hF hK hP hL hS k26 d_Ir_weight_26 (fun H locs hP hS => ?_)
  have hv : ((none, 0, s2 ar 2 a0.toNatClampNeg a1, sc) : Option String × Int32 × (Nat → Nat → Int32) × (Nat → Int32)) = f_Ir_weight ar sc a0 a1 := by rw [f_Ir_weight, if_neg c4, if_neg c14]
  exact W.widen (k := 1) (n := 6) (Nat.zero_le _) (Nat.zero_le _) (th_ret (W.vret hx hb hr (fun t ht hW => ⟨⟨(s2 ar 2 a0.toNatClampNeg a1, sc), rfl, hv, by dsimp only; rw [ht]; exact hP⟩, hS.F ht⟩) hS.2.2 d_Ir_weight_27))
theorem d_Ir_steps_0 : decode b_Ir_steps 0 = .ok (.iload_n 1, 1) := by decide +kernel
theorem d_Ir_steps_1 : decode b_Ir_steps 1 = .ok (.ifCond .lt 23, 3) := by decide +kernel
theorem d_Ir_steps_4 : decode b_Ir_steps 4 = .ok (.iload_n 1, 1) := by decide +kernel
theorem d_Ir_steps_5 : decode b_Ir_steps 5 = .ok (.iload_n 2, 1) := by decide +kernel
theorem d_Ir_steps_6 : decode b_Ir_steps 6 = .ok (.if_icmp .gt 18, 3) := by decide +kernel
theorem d_Ir_steps_9 : decode b_Ir_steps 9 = .ok (.iload_n 2, 1) := by decide +kernel
theorem d_Ir_steps_10 : decode b_Ir_steps 10 = .ok (.iload_n 3, 1) := by decide +kernel
theorem d_Ir_steps_11 : decode b_Ir_steps 11 = .ok (.if_icmp .gt 13, 3) := by decide +kernel
theorem d_Ir_steps_14 : decode b_Ir_steps 14 = .ok (.iload_n 3, 1) := by decide +kernel
theorem d_Ir_steps_15 : decode b_Ir_steps 15 = .ok (.ldc 77, 2) := by decide +kernel
theorem d_Ir_steps_17 : decode b_Ir_steps 17 = .ok (.if_icmp .gt 7, 3) := by decide +kernel
theorem d_Ir_steps_20 : decode b_Ir_steps 20 = .ok (.iconst 1, 1) := by decide +kernel
theorem d_Ir_steps_21 : decode b_Ir_steps 21 = .ok (.goto 4, 3) := by decide +kernel
theorem d_Ir_steps_24 : decode b_Ir_steps 24 = .ok (.iconst 0, 1) := by decide +kernel
theorem d_Ir_steps_25 : decode b_Ir_steps 25 = .ok (.invokestatic 71, 3) := by decide +kernel
theorem d_Ir_steps_28 : decode b_Ir_steps 28 = .ok (.aload_n 0, 1) := by decide +kernel
theorem d_Ir_steps_29 : decode b_Ir_steps 29 = .ok (.getfield 10, 3) := by decide +kernel
theorem d_Ir_steps_32 : decode b_Ir_steps 32 = .ok (.getfield 78, 3) := by decide +kernel
theorem d_Ir_steps_35 : decode b_Ir_steps 35 = .ok (.iconst 0, 1) := by decide +kernel
theorem d_Ir_steps_36 : decode b_Ir_steps 36 = .ok (.iload_n 1, 1) := by decide +kernel
theorem d_Ir_steps_37 : decode b_Ir_steps 37 = .ok (.iastore, 1) := by decide +kernel
theorem d_Ir_steps_38 : decode b_Ir_steps 38 = .ok (.aload_n 0, 1) := by decide +kernel
theorem d_Ir_steps_39 : decode b_Ir_steps 39 = .ok (.getfield 10, 3) := by decide +kernel
theorem d_Ir_steps_42 : decode b_Ir_steps 42 = .ok (.getfield 78, 3) := by decide +kernel
theorem d_Ir_steps_45 : decode b_Ir_steps 45 = .ok (.iconst 1, 1) := by decide +kernel
theorem d_Ir_steps_46 : decode b_Ir_steps 46 = .ok (.iload_n 2, 1) := by decide +kernel
theorem d_Ir_steps_47 : decode b_Ir_steps 47 = .ok (.iastore, 1) := by decide +kernel
theorem d_Ir_steps_48 : decode b_Ir_steps 48 = .ok (.aload_n 0, 1) := by decide +kernel
theorem d_Ir_steps_49 : decode b_Ir_steps 49 = .ok (.getfield 10, 3) := by decide +kernel
theorem d_Ir_steps_52 : decode b_Ir_steps 52 = .ok (.getfield 78, 3) := by decide +kernel
theorem d_Ir_steps_55 : decode b_Ir_steps 55 = .ok (.iconst 2, 1) := by decide +kernel
theorem d_Ir_steps_56 : decode b_Ir_steps 56 = .ok (.iload_n 3, 1) := by decide +kernel
theorem d_Ir_steps_57 : decode b_Ir_steps 57 = .ok (.iastore, 1) := by decide +kernel
theorem d_Ir_steps_58 : decode b_Ir_steps 58 = .ok (.return_, 1) := by decide +kernel
set_option maxHeartbeats 4000000 in
set_option maxRecDepth 100000 in
theorem c_Ir_steps (l : Launch) (hlt : l.stackTraces = false) (sa : Nat → Nat) (dC : Nat → ClassId) (dI : Nat → Nat → Nat) (L : Nat → Nat) (cA : Nat → ClassId) (ar : Nat → Nat → Int32) (sc : Nat → Int32) (a0 : Int32) (a1 : Int32) (a2 : Int32) (hL : ij 38 L) (h : p_Ir_steps ar sc a0 a1 a2) : th_Both l y_Ir_steps z_Ir_steps (rmX 8) (va_Pc [.ref (L 0), .int a0, .int a1, .int a2] (fun U => xw_I dC dI L cA ar sc U ∧ xz_I L sa U)) (va_Qv (fun u : oS => (none, 0, u.1, u.2) = f_Ir_steps ar sc a0 a1 a2) (fun u t => va_P (dC, dI) classes (wI L cA u.1 u.2) t.heap) (aI L)) (xC_I dC dI L cA (f_Ir_steps ar sc a0 a1 a2)) 1 6 (aI L) := by
  refine th_ofW (cc := b_Ir_steps) (maxL := 4) (ret := none) (by decide) rfl ?_
  intro p e s m args below meth c s₁ B hml hnx hv
  obtain ⟨rfl, ⟨hP, hK⟩, hz⟩ := hv
  have hx := B.exec
  have hb := B.bytes
  have hr := B.returns
  have hts : ∀ w ∈ w_all, w.before _ s = true := fun w hw => atoms_spec (ws := z_Ir_steps) B.pre w (List.mem_cons_of_mem _ hw)
  have hown : s.vm.findClass R_Ir = some m.cls := findClass_of_methodNamed B.named
  have hlocks := B.notSynchronized
  have hF : CallFix p m c b_Ir_steps 4 s _ w_all R_Ir := ⟨hx, hb, hml, hown, hts⟩
  have hS : va_S (aI L) s.heap s.heap [] := va_S.rf
  have hl := lv_entry ([.ref (L 0), .int a0, .int a1, .int a2]) (n := 4) (Nat.le_of_ble_eq_true rfl)
  rw [lg_entry_eq]
  generalize (lg_sl ([.ref (L 0), .int a0, .int a1, .int a2]) ++ List.replicate (4 - (lg_sl ([.ref (L 0), .int a0, .int a1, .int a2])).length) Slot.unset).toArray = ls at hl ⊢
  have hl : lv_has ls 4 [(0, .ref (L 0)), (1, .int a0), (2, .int a1), (3, .int a2)] := hl
  unfold p_Ir_steps at h
  refine lv_iload_n hx hb d_Ir_steps_0 rfl (lv_at hl 1 rfl) ?_
  refine lv_if_lt (tgt := 24) hx hb d_Ir_steps_1 (by decide) (fun c1 => ?_) (fun c1 => ?_)
  · have h := h.1 c1
    refine lv_iconst (v := 0) hx hb d_Ir_steps_24 (by decide) ?_
    refine rq_requireRange hF hK hlt hz hS hl.1 hlocks hnx m_437 ⟨Nat.le_of_ble_eq_true rfl, Nat.le_of_ble_eq_true rfl⟩ ⟨Nat.le_refl _, Nat.le_refl _⟩ d_Ir_steps_25 (fun c25 => xc_I hP hS (by rw [f_Ir_steps, if_pos c1])) (fun c25 => absurd rfl c25)
  · have h := h.2 c1
    refine lv_iload_n hx hb d_Ir_steps_4 rfl (lv_at hl 1 rfl) ?_
    refine lv_iload_n hx hb d_Ir_steps_5 rfl (lv_at hl 2 rfl) ?_
    refine lv_icmp_gt (tgt := 24) hx hb d_Ir_steps_6 (by decide) (fun c6 => ?_) (fun c6 => ?_)
    · have h := h.1 c6
      refine lv_iconst (v := 0) hx hb d_Ir_steps_24 (by decide) ?_
      refine rq_requireRange hF hK hlt hz hS hl.1 hlocks hnx m_437 ⟨Nat.le_of_ble_eq_true rfl, Nat.le_of_ble_eq_true rfl⟩ ⟨Nat.le_refl _, Nat.le_refl _⟩ d_Ir_steps_25 (fun c25 => xc_I hP hS (by rw [f_Ir_steps, if_neg c1, if_pos c6])) (fun c25 => absurd rfl c25)
    · have h := h.2 c6
      refine lv_iload_n hx hb d_Ir_steps_9 rfl (lv_at hl 2 rfl) ?_
      refine lv_iload_n hx hb d_Ir_steps_10 rfl (lv_at hl 3 rfl) ?_
      refine lv_icmp_gt (tgt := 24) hx hb d_Ir_steps_11 (by decide) (fun c11 => ?_) (fun c11 => ?_)
      · have h := h.1 c11
        refine lv_iconst (v := 0) hx hb d_Ir_steps_24 (by decide) ?_
        refine rq_requireRange hF hK hlt hz hS hl.1 hlocks hnx m_437 ⟨Nat.le_of_ble_eq_true rfl, Nat.le_of_ble_eq_true rfl⟩ ⟨Nat.le_refl _, Nat.le_refl _⟩ d_Ir_steps_25 (fun c25 => xc_I hP hS (by rw [f_Ir_steps, if_neg c1, if_neg c6, if_pos c11])) (fun c25 => absurd rfl c25)
      · have h := h.2 c11
        refine lv_iload_n hx hb d_Ir_steps_14 rfl (lv_at hl 3 rfl) ?_
        refine lv_ldc (v := 100000) hx hb hown (hts _ m_438) d_Ir_steps_15 ?_
        refine lv_icmp_gt (tgt := 24) hx hb d_Ir_steps_17 (by decide) (fun c17 => ?_) (fun c17 => ?_)
        · have h := h.1 c17
          refine lv_iconst (v := 0) hx hb d_Ir_steps_24 (by decide) ?_
          refine rq_requireRange hF hK hlt hz hS hl.1 hlocks hnx m_437 ⟨Nat.le_of_ble_eq_true rfl, Nat.le_of_ble_eq_true rfl⟩ ⟨Nat.le_refl _, Nat.le_refl _⟩ d_Ir_steps_25 (fun c25 => xc_I hP hS (by rw [f_Ir_steps, if_neg c1, if_neg c6, if_neg c11, if_pos c17])) (fun c25 => absurd rfl c25)
        · have h := h.2 c17
          refine lv_iconst (v := 1) hx hb d_Ir_steps_20 (by decide) ?_
          refine lv_goto (tgt := 25) hx hb d_Ir_steps_21 (by decide) ?_
          refine rq_requireRange hF hK hlt hz hS hl.1 hlocks hnx m_437 ⟨Nat.le_of_ble_eq_true rfl, Nat.le_of_ble_eq_true rfl⟩ ⟨Nat.le_refl _, Nat.le_refl _⟩ d_Ir_steps_25 (fun c25 => absurd c25 (by decide)) (fun c25 => ?_)
          refine lv_aload_n hx hb d_Ir_steps_28 rfl (lv_at hl 0 rfl) ?_
          refine gf_Ir_scale hF hK hP m_158 d_Ir_steps_29 ?_
          refine gn_Scale_steps hF hK hP mn_8 d_Ir_steps_32 ?_
          refine lv_iconst (v := 0) hx hb d_Ir_steps_35 (by decide) ?_
          refine lv_iload_n hx hb d_Ir_steps_36 rfl (lv_at hl 1 rfl) ?_
          have k37 := h.1
          have h := h.2
          refine asI_3 hF hK hP hL hS k37 d_Ir_steps_37 (fun H locs hP hS => ?_)
          refine lv_aload_n hx hb d_Ir_steps_38 rfl (lv_at hl 0 rfl) ?_
          refine gf_Ir_scale hF hK hP m_158 d_Ir_steps_39 ?_
          refine gn_Scale_steps hF hK hP mn_8 d_Ir_steps_42 ?_
          refine lv_iconst (v := 1) hx hb d_Ir_steps_45 (by decide) ?_
          refine lv_iload_n hx hb d_Ir_steps_46 rfl (lv_at hl 2 rfl) ?_
          have k47 := h.1
          have h := h.2
          refine asI_3 hF hK hP hL hS k47 d_Ir_steps_47 (fun H locs hP hS => ?_)
          refine lv_aload_n hx hb d_Ir_steps_48 rfl (lv_at hl 0 rfl) ?_
          refine gf_Ir_scale hF hK hP m_158 d_Ir_steps_49 ?_
          refine gn_Scale_steps hF hK hP mn_8 d_Ir_steps_52 ?_
          refine lv_iconst (v := 2) hx hb d_Ir_steps_55 (by decide) ?_
          refine lv_iload_n hx hb d_Ir_steps_56 rfl (lv_at hl 3 rfl) ?_
          have k57 := h
          refine asI_3 hF hK hP hL hS k57 d_Ir_steps_57 (fun H locs hP hS => ?_)
          have hv : ((none, 0, s2 (s2 (s2 ar 3 ((0 : Int32).toNatClampNeg) a0) 3 ((1 : Int32).toNatClampNeg) a1) 3 ((2 : Int32).toNatClampNeg) a2, sc) : Option String × Int32 × (Nat → Nat → Int32) × (Nat → Int32)) = f_Ir_steps ar sc a0 a1 a2 := by rw [f_Ir_steps, if_neg c1, if_neg c6, if_neg c11, if_neg c17]
          exact W.widen (k := 1) (n := 6) (Nat.zero_le _) (Nat.zero_le _) (th_ret (W.vret hx hb hr (fun t ht hW => ⟨⟨(s2 (s2 (s2 ar 3 ((0 : Int32).toNatClampNeg) a0) 3 ((1 : Int32).toNatClampNeg) a1) 3 ((2 : Int32).toNatClampNeg) a2, sc), rfl, hv, by dsimp only; rw [ht]; exact hP⟩, hS.F ht⟩) hS.2.2 d_Ir_steps_58))
theorem d_Ir_interval_0 : decode b_Ir_interval 0 = .ok (.iload_n 1, 1) := by decide +kernel
theorem d_Ir_interval_1 : decode b_Ir_interval 1 = .ok (.iconst 0, 1) := by decide +kernel
theorem d_Ir_interval_2 : decode b_Ir_interval 2 = .ok (.iconst 3, 1) := by decide +kernel
theorem d_Ir_interval_3 : decode b_Ir_interval 3 = .ok (.invokestatic 67, 3) := by decide +kernel
theorem d_Ir_interval_6 : decode b_Ir_interval 6 = .ok (.invokestatic 63, 3) := by decide +kernel
theorem d_Ir_interval_9 : decode b_Ir_interval 9 = .ok (.iload_n 2, 1) := by decide +kernel
theorem d_Ir_interval_10 : decode b_Ir_interval 10 = .ok (.iconst 1, 1) := by decide +kernel
theorem d_Ir_interval_11 : decode b_Ir_interval 11 = .ok (.sipush 4000, 3) := by decide +kernel
theorem d_Ir_interval_14 : decode b_Ir_interval 14 = .ok (.invokestatic 67, 3) := by decide +kernel
theorem d_Ir_interval_17 : decode b_Ir_interval 17 = .ok (.ifCond .eq 18, 3) := by decide +kernel
theorem d_Ir_interval_20 : decode b_Ir_interval 20 = .ok (.iload_n 3, 1) := by decide +kernel
theorem d_Ir_interval_21 : decode b_Ir_interval 21 = .ok (.iconst 0, 1) := by decide +kernel
theorem d_Ir_interval_22 : decode b_Ir_interval 22 = .ok (.sipush 1000, 3) := by decide +kernel
theorem d_Ir_interval_25 : decode b_Ir_interval 25 = .ok (.invokestatic 67, 3) := by decide +kernel
theorem d_Ir_interval_28 : decode b_Ir_interval 28 = .ok (.ifCond .eq 7, 3) := by decide +kernel
theorem d_Ir_interval_31 : decode b_Ir_interval 31 = .ok (.iconst 1, 1) := by decide +kernel
theorem d_Ir_interval_32 : decode b_Ir_interval 32 = .ok (.goto 4, 3) := by decide +kernel
theorem d_Ir_interval_35 : decode b_Ir_interval 35 = .ok (.iconst 0, 1) := by decide +kernel
theorem d_Ir_interval_36 : decode b_Ir_interval 36 = .ok (.invokestatic 71, 3) := by decide +kernel
theorem d_Ir_interval_39 : decode b_Ir_interval 39 = .ok (.aload_n 0, 1) := by decide +kernel
theorem d_Ir_interval_40 : decode b_Ir_interval 40 = .ok (.getfield 10, 3) := by decide +kernel
theorem d_Ir_interval_43 : decode b_Ir_interval 43 = .ok (.getfield 81, 3) := by decide +kernel
theorem d_Ir_interval_46 : decode b_Ir_interval 46 = .ok (.iload_n 1, 1) := by decide +kernel
theorem d_Ir_interval_47 : decode b_Ir_interval 47 = .ok (.iload_n 2, 1) := by decide +kernel
theorem d_Ir_interval_48 : decode b_Ir_interval 48 = .ok (.iastore, 1) := by decide +kernel
theorem d_Ir_interval_49 : decode b_Ir_interval 49 = .ok (.aload_n 0, 1) := by decide +kernel
theorem d_Ir_interval_50 : decode b_Ir_interval 50 = .ok (.getfield 10, 3) := by decide +kernel
theorem d_Ir_interval_53 : decode b_Ir_interval 53 = .ok (.getfield 84, 3) := by decide +kernel
theorem d_Ir_interval_56 : decode b_Ir_interval 56 = .ok (.iload_n 1, 1) := by decide +kernel
theorem d_Ir_interval_57 : decode b_Ir_interval 57 = .ok (.iload_n 3, 1) := by decide +kernel
theorem d_Ir_interval_58 : decode b_Ir_interval 58 = .ok (.iastore, 1) := by decide +kernel
theorem d_Ir_interval_59 : decode b_Ir_interval 59 = .ok (.return_, 1) := by decide +kernel
set_option maxHeartbeats 4000000 in
set_option maxRecDepth 100000 in
theorem c_Ir_interval (l : Launch) (hlt : l.stackTraces = false) (sa : Nat → Nat) (dC : Nat → ClassId) (dI : Nat → Nat → Nat) (L : Nat → Nat) (cA : Nat → ClassId) (ar : Nat → Nat → Int32) (sc : Nat → Int32) (a0 : Int32) (a1 : Int32) (a2 : Int32) (hL : ij 38 L) (h : p_Ir_interval ar sc a0 a1 a2) : th_Both l y_Ir_interval z_Ir_interval (rmX 8) (va_Pc [.ref (L 0), .int a0, .int a1, .int a2] (fun U => xw_I dC dI L cA ar sc U ∧ xz_I L sa U)) (va_Qv (fun u : oS => (none, 0, u.1, u.2) = f_Ir_interval ar sc a0 a1 a2) (fun u t => va_P (dC, dI) classes (wI L cA u.1 u.2) t.heap) (aI L)) (xC_I dC dI L cA (f_Ir_interval ar sc a0 a1 a2)) 1 6 (aI L) := by
  refine th_ofW (cc := b_Ir_interval) (maxL := 4) (ret := none) (by decide) rfl ?_
  intro p e s m args below meth c s₁ B hml hnx hv
  obtain ⟨rfl, ⟨hP, hK⟩, hz⟩ := hv
  have hx := B.exec
  have hb := B.bytes
  have hr := B.returns
  have hts : ∀ w ∈ w_all, w.before _ s = true := fun w hw => atoms_spec (ws := z_Ir_interval) B.pre w (List.mem_cons_of_mem _ hw)
  have hown : s.vm.findClass R_Ir = some m.cls := findClass_of_methodNamed B.named
  have hlocks := B.notSynchronized
  have hF : CallFix p m c b_Ir_interval 4 s _ w_all R_Ir := ⟨hx, hb, hml, hown, hts⟩
  have hS : va_S (aI L) s.heap s.heap [] := va_S.rf
  have hl := lv_entry ([.ref (L 0), .int a0, .int a1, .int a2]) (n := 4) (Nat.le_of_ble_eq_true rfl)
  rw [lg_entry_eq]
  generalize (lg_sl ([.ref (L 0), .int a0, .int a1, .int a2]) ++ List.replicate (4 - (lg_sl ([.ref (L 0), .int a0, .int a1, .int a2])).length) Slot.unset).toArray = ls at hl ⊢
  have hl : lv_has ls 4 [(0, .ref (L 0)), (1, .int a0), (2, .int a1), (3, .int a2)] := hl
  unfold p_Ir_interval at h
  refine lv_iload_n hx hb d_Ir_interval_0 rfl (lv_at hl 1 rfl) ?_
  refine lv_iconst (v := 0) hx hb d_Ir_interval_1 (by decide) ?_
  refine lv_iconst (v := 3) hx hb d_Ir_interval_2 (by decide) ?_
  refine r_Ir_isWithin hF m_131 hl.1 ⟨Nat.le_of_ble_eq_true rfl, Nat.le_of_ble_eq_true rfl⟩ ⟨Nat.zero_le _, Nat.zero_le _⟩ (Nat.le_of_ble_eq_true rfl) d_Ir_interval_3 ?_
  refine rq_requireKnown hF hK hlt hz hS hl.1 hlocks hnx m_436 ⟨Nat.le_of_ble_eq_true rfl, Nat.le_of_ble_eq_true rfl⟩ ⟨Nat.le_refl _, Nat.le_refl _⟩ d_Ir_interval_6 (fun c6 => xc_I hP hS (by rw [f_Ir_interval, if_pos c6])) (fun c6 => ?_)
  have h := h c6
  refine lv_iload_n hx hb d_Ir_interval_9 rfl (lv_at hl 2 rfl) ?_
  refine lv_iconst (v := 1) hx hb d_Ir_interval_10 (by decide) ?_
  refine lv_sipush (v := 4000) hx hb d_Ir_interval_11 (by decide) ?_
  refine r_Ir_isWithin hF m_131 hl.1 ⟨Nat.le_of_ble_eq_true rfl, Nat.le_of_ble_eq_true rfl⟩ ⟨Nat.zero_le _, Nat.zero_le _⟩ (Nat.le_of_ble_eq_true rfl) d_Ir_interval_14 ?_
  refine lv_if_eq (tgt := 35) hx hb d_Ir_interval_17 (by decide) (fun c17 => ?_) (fun c17 => ?_)
  · have h := h.1 c17
    refine lv_iconst (v := 0) hx hb d_Ir_interval_35 (by decide) ?_
    refine rq_requireRange hF hK hlt hz hS hl.1 hlocks hnx m_437 ⟨Nat.le_of_ble_eq_true rfl, Nat.le_of_ble_eq_true rfl⟩ ⟨Nat.le_refl _, Nat.le_refl _⟩ d_Ir_interval_36 (fun c36 => xc_I hP hS (by rw [f_Ir_interval, if_neg c6, if_pos c17])) (fun c36 => absurd rfl c36)
  · have h := h.2 c17
    refine lv_iload_n hx hb d_Ir_interval_20 rfl (lv_at hl 3 rfl) ?_
    refine lv_iconst (v := 0) hx hb d_Ir_interval_21 (by decide) ?_
    refine lv_sipush (v := 1000) hx hb d_Ir_interval_22 (by decide) ?_
    refine r_Ir_isWithin hF m_131 hl.1 ⟨Nat.le_of_ble_eq_true rfl, Nat.le_of_ble_eq_true rfl⟩ ⟨Nat.zero_le _, Nat.zero_le _⟩ (Nat.le_of_ble_eq_true rfl) d_Ir_interval_25 ?_
    refine lv_if_eq (tgt := 35) hx hb d_Ir_interval_28 (by decide) (fun c28 => ?_) (fun c28 => ?_)
    · have h := h.1 c28
      refine lv_iconst (v := 0) hx hb d_Ir_interval_35 (by decide) ?_
      refine rq_requireRange hF hK hlt hz hS hl.1 hlocks hnx m_437 ⟨Nat.le_of_ble_eq_true rfl, Nat.le_of_ble_eq_true rfl⟩ ⟨Nat.le_refl _, Nat.le_refl _⟩ d_Ir_interval_36 (fun c36 => xc_I hP hS (by rw [f_Ir_interval, if_neg c6, if_neg c17, if_pos c28])) (fun c36 => absurd rfl c36)
    · have h := h.2 c28
      refine lv_iconst (v := 1) hx hb d_Ir_interval_31 (by decide) ?_
      refine lv_goto (tgt := 36) hx hb d_Ir_interval_32 (by decide) ?_
      refine rq_requireRange hF hK hlt hz hS hl.1 hlocks hnx m_437 ⟨Nat.le_of_ble_eq_true rfl, Nat.le_of_ble_eq_true rfl⟩ ⟨Nat.le_refl _, Nat.le_refl _⟩ d_Ir_interval_36 (fun c36 => absurd c36 (by decide)) (fun c36 => ?_)
      refine lv_aload_n hx hb d_Ir_interval_39 rfl (lv_at hl 0 rfl) ?_
      refine gf_Ir_scale hF hK hP m_158 d_Ir_interval_40 ?_
      refine gn_Scale_intervals hF hK hP mn_7 d_Ir_interval_43 ?_
      refine lv_iload_n hx hb d_Ir_interval_46 rfl (lv_at hl 1 rfl) ?_
      refine lv_iload_n hx hb d_Ir_interval_47 rfl (lv_at hl 2 rfl) ?_
      have k48 := h.1
      have h := h.2
      refine asI_4 hF hK hP hL hS k48 d_Ir_interval_48 (fun H locs hP hS => ?_)
      refine lv_aload_n hx hb d_Ir_interval_49 rfl (lv_at hl 0 rfl) ?_
      refine gf_Ir_scale hF hK hP m_158 d_Ir_interval_50 ?_
      refine gn_Scale_times hF hK hP mn_9 d_Ir_interval_53 ?_
      refine lv_iload_n hx hb d_Ir_interval_56 rfl (lv_at hl 1 rfl) ?_
      refine lv_iload_n hx hb d_Ir_interval_57 rfl (lv_at hl 3 rfl) ?_
      have k58 := h
      refine asI_5 hF hK hP hL hS k58 d_Ir_interval_58 (fun H locs hP hS => ?_)
      have hv : ((none, 0, s2 (s2 ar 4 a0.toNatClampNeg a1) 5 a0.toNatClampNeg a2, sc) : Option String × Int32 × (Nat → Nat → Int32) × (Nat → Int32)) = f_Ir_interval ar sc a0 a1 a2 := by rw [f_Ir_interval, if_neg c6, if_neg c17, if_neg c28]
      exact W.widen (k := 1) (n := 6) (Nat.zero_le _) (Nat.zero_le _) (th_ret (W.vret hx hb hr (fun t ht hW => ⟨⟨(s2 (s2 ar 4 a0.toNatClampNeg a1) 5 a0.toNatClampNeg a2, sc), rfl, hv, by dsimp only; rw [ht]; exact hP⟩, hS.F ht⟩) hS.2.2 d_Ir_interval_59))
theorem d_Ir_point_0 : decode b_Ir_point 0 = .ok (.iload_n 1, 1) := by decide +kernel
theorem d_Ir_point_1 : decode b_Ir_point 1 = .ok (.invokestatic 59, 3) := by decide +kernel
theorem d_Ir_point_4 : decode b_Ir_point 4 = .ok (.invokestatic 63, 3) := by decide +kernel
theorem d_Ir_point_7 : decode b_Ir_point 7 = .ok (.iload_n 2, 1) := by decide +kernel
theorem d_Ir_point_8 : decode b_Ir_point 8 = .ok (.iconst 0, 1) := by decide +kernel
theorem d_Ir_point_9 : decode b_Ir_point 9 = .ok (.sipush 3000, 3) := by decide +kernel
theorem d_Ir_point_12 : decode b_Ir_point 12 = .ok (.invokestatic 67, 3) := by decide +kernel
theorem d_Ir_point_15 : decode b_Ir_point 15 = .ok (.ifCond .eq 17, 3) := by decide +kernel
theorem d_Ir_point_18 : decode b_Ir_point 18 = .ok (.iload_n 3, 1) := by decide +kernel
theorem d_Ir_point_19 : decode b_Ir_point 19 = .ok (.iconst 0, 1) := by decide +kernel
theorem d_Ir_point_20 : decode b_Ir_point 20 = .ok (.ldc 77, 2) := by decide +kernel
theorem d_Ir_point_22 : decode b_Ir_point 22 = .ok (.invokestatic 67, 3) := by decide +kernel
theorem d_Ir_point_25 : decode b_Ir_point 25 = .ok (.ifCond .eq 7, 3) := by decide +kernel
theorem d_Ir_point_28 : decode b_Ir_point 28 = .ok (.iconst 1, 1) := by decide +kernel
theorem d_Ir_point_29 : decode b_Ir_point 29 = .ok (.goto 4, 3) := by decide +kernel
theorem d_Ir_point_32 : decode b_Ir_point 32 = .ok (.iconst 0, 1) := by decide +kernel
theorem d_Ir_point_33 : decode b_Ir_point 33 = .ok (.invokestatic 71, 3) := by decide +kernel
theorem d_Ir_point_36 : decode b_Ir_point 36 = .ok (.iload 4, 2) := by decide +kernel
theorem d_Ir_point_38 : decode b_Ir_point 38 = .ok (.sipush (-10000), 3) := by decide +kernel
theorem d_Ir_point_41 : decode b_Ir_point 41 = .ok (.sipush 10000, 3) := by decide +kernel
theorem d_Ir_point_44 : decode b_Ir_point 44 = .ok (.invokestatic 67, 3) := by decide +kernel
theorem d_Ir_point_47 : decode b_Ir_point 47 = .ok (.ifCond .eq 21, 3) := by decide +kernel
theorem d_Ir_point_50 : decode b_Ir_point 50 = .ok (.iload 5, 2) := by decide +kernel
theorem d_Ir_point_52 : decode b_Ir_point 52 = .ok (.sipush (-10000), 3) := by decide +kernel
theorem d_Ir_point_55 : decode b_Ir_point 55 = .ok (.sipush 10000, 3) := by decide +kernel
theorem d_Ir_point_58 : decode b_Ir_point 58 = .ok (.invokestatic 67, 3) := by decide +kernel
theorem d_Ir_point_61 : decode b_Ir_point 61 = .ok (.ifCond .eq 7, 3) := by decide +kernel
theorem d_Ir_point_64 : decode b_Ir_point 64 = .ok (.iconst 1, 1) := by decide +kernel
theorem d_Ir_point_65 : decode b_Ir_point 65 = .ok (.goto 4, 3) := by decide +kernel
theorem d_Ir_point_68 : decode b_Ir_point 68 = .ok (.iconst 0, 1) := by decide +kernel
theorem d_Ir_point_69 : decode b_Ir_point 69 = .ok (.invokestatic 71, 3) := by decide +kernel
theorem d_Ir_point_72 : decode b_Ir_point 72 = .ok (.aload_n 0, 1) := by decide +kernel
theorem d_Ir_point_73 : decode b_Ir_point 73 = .ok (.getfield 19, 3) := by decide +kernel
theorem d_Ir_point_76 : decode b_Ir_point 76 = .ok (.getfield 87, 3) := by decide +kernel
theorem d_Ir_point_79 : decode b_Ir_point 79 = .ok (.bipush 30, 2) := by decide +kernel
theorem d_Ir_point_81 : decode b_Ir_point 81 = .ok (.if_icmp .ge 7, 3) := by decide +kernel
theorem d_Ir_point_84 : decode b_Ir_point 84 = .ok (.iconst 1, 1) := by decide +kernel
theorem d_Ir_point_85 : decode b_Ir_point 85 = .ok (.goto 4, 3) := by decide +kernel
theorem d_Ir_point_88 : decode b_Ir_point 88 = .ok (.iconst 0, 1) := by decide +kernel
theorem d_Ir_point_89 : decode b_Ir_point 89 = .ok (.invokestatic 90, 3) := by decide +kernel
theorem d_Ir_point_92 : decode b_Ir_point 92 = .ok (.aload_n 0, 1) := by decide +kernel
theorem d_Ir_point_93 : decode b_Ir_point 93 = .ok (.getfield 19, 3) := by decide +kernel
theorem d_Ir_point_96 : decode b_Ir_point 96 = .ok (.iload_n 1, 1) := by decide +kernel
theorem d_Ir_point_97 : decode b_Ir_point 97 = .ok (.iload_n 2, 1) := by decide +kernel
theorem d_Ir_point_98 : decode b_Ir_point 98 = .ok (.bipush 30, 2) := by decide +kernel
theorem d_Ir_point_100 : decode b_Ir_point 100 = .ok (.idiv, 1) := by decide +kernel
theorem d_Ir_point_101 : decode b_Ir_point 101 = .ok (.iload_n 3, 1) := by decide +kernel
theorem d_Ir_point_102 : decode b_Ir_point 102 = .ok (.bipush 100, 2) := by decide +kernel
theorem d_Ir_point_104 : decode b_Ir_point 104 = .ok (.idiv, 1) := by decide +kernel
theorem d_Ir_point_105 : decode b_Ir_point 105 = .ok (.iadd, 1) := by decide +kernel
theorem d_Ir_point_106 : decode b_Ir_point 106 = .ok (.iload 4, 2) := by decide +kernel
theorem d_Ir_point_108 : decode b_Ir_point 108 = .ok (.iload 5, 2) := by decide +kernel
theorem d_Ir_point_110 : decode b_Ir_point 110 = .ok (.invokevirtual 93, 3) := by decide +kernel
theorem d_Ir_point_113 : decode b_Ir_point 113 = .ok (.ireturn, 1) := by decide +kernel
set_option maxHeartbeats 4000000 in
set_option maxRecDepth 100000 in
theorem c_Ir_point (l : Launch) (hlt : l.stackTraces = false) (sa : Nat → Nat) (dC : Nat → ClassId) (dI : Nat → Nat → Nat) (L : Nat → Nat) (cA : Nat → ClassId) (ar : Nat → Nat → Int32) (sc : Nat → Int32) (a0 : Int32) (a1 : Int32) (a2 : Int32) (a3 : Int32) (a4 : Int32) (hL : ij 38 L) (h : p_Ir_point ar sc a0 a1 a2 a3 a4) : th_Both l y_Ir_point z_Ir_point (rmX 8) (va_Pc [.ref (L 0), .int a0, .int a1, .int a2, .int a3, .int a4] (fun U => xw_I dC dI L cA ar sc U ∧ xz_I L sa U)) (va_Qi (fun (r : Int32) (u : oS) => (none, r, u.1, u.2) = f_Ir_point ar sc a0 a1 a2 a3 a4) (fun u t => va_P (dC, dI) classes (wI L cA u.1 u.2) t.heap) (aI L)) (xC_I dC dI L cA (f_Ir_point ar sc a0 a1 a2 a3 a4)) 1 6 (aI L) := by
  refine th_ofW (cc := b_Ir_point) (maxL := 6) (ret := (some .int)) (by decide) rfl ?_
  intro p e s m args below meth c s₁ B hml hnx hv
  obtain ⟨rfl, ⟨hP, hK⟩, hz⟩ := hv
  have hx := B.exec
  have hb := B.bytes
  have hr := B.returns
  have hts : ∀ w ∈ w_all, w.before _ s = true := fun w hw => atoms_spec (ws := z_Ir_point) B.pre w (List.mem_cons_of_mem _ hw)
  have hown : s.vm.findClass R_Ir = some m.cls := findClass_of_methodNamed B.named
  have hlocks := B.notSynchronized
  have hF : CallFix p m c b_Ir_point 6 s _ w_all R_Ir := ⟨hx, hb, hml, hown, hts⟩
  have hS : va_S (aI L) s.heap s.heap [] := va_S.rf
  have hl := lv_entry ([.ref (L 0), .int a0, .int a1, .int a2, .int a3, .int a4]) (n := 6) (Nat.le_of_ble_eq_true rfl)
  rw [lg_entry_eq]
  generalize (lg_sl ([.ref (L 0), .int a0, .int a1, .int a2, .int a3, .int a4]) ++ List.replicate (6 - (lg_sl ([.ref (L 0), .int a0, .int a1, .int a2, .int a3, .int a4])).length) Slot.unset).toArray = ls at hl ⊢
  have hl : lv_has ls 6 [(0, .ref (L 0)), (1, .int a0), (2, .int a1), (3, .int a2), (4, .int a3), (5, .int a4)] := hl
  unfold p_Ir_point at h
  refine lv_iload_n hx hb d_Ir_point_0 rfl (lv_at hl 1 rfl) ?_
  refine r_Ir_isKind hF m_435 hl.1 ⟨Nat.le_of_ble_eq_true rfl, Nat.le_of_ble_eq_true rfl⟩ ⟨Nat.zero_le _, Nat.zero_le _⟩ (Nat.le_of_ble_eq_true rfl) d_Ir_point_1 ?_
  refine rq_requireKnown hF hK hlt hz hS hl.1 hlocks hnx m_436 ⟨Nat.le_of_ble_eq_true rfl, Nat.le_of_ble_eq_true rfl⟩ ⟨Nat.le_refl _, Nat.le_refl _⟩ d_Ir_point_4 (fun c4 => xc_I hP hS (by rw [f_Ir_point, if_pos c4])) (fun c4 => ?_)
  have h := h c4
  refine lv_iload_n hx hb d_Ir_point_7 rfl (lv_at hl 2 rfl) ?_
  refine lv_iconst (v := 0) hx hb d_Ir_point_8 (by decide) ?_
  refine lv_sipush (v := 3000) hx hb d_Ir_point_9 (by decide) ?_
  refine r_Ir_isWithin hF m_131 hl.1 ⟨Nat.le_of_ble_eq_true rfl, Nat.le_of_ble_eq_true rfl⟩ ⟨Nat.zero_le _, Nat.zero_le _⟩ (Nat.le_of_ble_eq_true rfl) d_Ir_point_12 ?_
  refine lv_if_eq (tgt := 32) hx hb d_Ir_point_15 (by decide) (fun c15 => ?_) (fun c15 => ?_)
  · have h := h.1 c15
    refine lv_iconst (v := 0) hx hb d_Ir_point_32 (by decide) ?_
    refine rq_requireRange hF hK hlt hz hS hl.1 hlocks hnx m_437 ⟨Nat.le_of_ble_eq_true rfl, Nat.le_of_ble_eq_true rfl⟩ ⟨Nat.le_refl _, Nat.le_refl _⟩ d_Ir_point_33 (fun c33 => xc_I hP hS (by rw [f_Ir_point, if_neg c4, if_pos c15])) (fun c33 => absurd rfl c33)
  · have h := h.2 c15
    refine lv_iload_n hx hb d_Ir_point_18 rfl (lv_at hl 3 rfl) ?_
    refine lv_iconst (v := 0) hx hb d_Ir_point_19 (by decide) ?_
    refine lv_ldc (v := 100000) hx hb hown (hts _ m_438) d_Ir_point_20 ?_
    refine r_Ir_isWithin hF m_131 hl.1 ⟨Nat.le_of_ble_eq_true rfl, Nat.le_of_ble_eq_true rfl⟩ ⟨Nat.zero_le _, Nat.zero_le _⟩ (Nat.le_of_ble_eq_true rfl) d_Ir_point_22 ?_
    refine lv_if_eq (tgt := 32) hx hb d_Ir_point_25 (by decide) (fun c25 => ?_) (fun c25 => ?_)
    · have h := h.1 c25
      refine lv_iconst (v := 0) hx hb d_Ir_point_32 (by decide) ?_
      refine rq_requireRange hF hK hlt hz hS hl.1 hlocks hnx m_437 ⟨Nat.le_of_ble_eq_true rfl, Nat.le_of_ble_eq_true rfl⟩ ⟨Nat.le_refl _, Nat.le_refl _⟩ d_Ir_point_33 (fun c33 => xc_I hP hS (by rw [f_Ir_point, if_neg c4, if_neg c15, if_pos c25])) (fun c33 => absurd rfl c33)
    · have h := h.2 c25
      refine lv_iconst (v := 1) hx hb d_Ir_point_28 (by decide) ?_
      refine lv_goto (tgt := 33) hx hb d_Ir_point_29 (by decide) ?_
      refine rq_requireRange hF hK hlt hz hS hl.1 hlocks hnx m_437 ⟨Nat.le_of_ble_eq_true rfl, Nat.le_of_ble_eq_true rfl⟩ ⟨Nat.le_refl _, Nat.le_refl _⟩ d_Ir_point_33 (fun c33 => absurd c33 (by decide)) (fun c33 => ?_)
      refine lv_iload hx hb d_Ir_point_36 (lv_at hl 4 rfl) ?_
      refine lv_sipush (v := (-10000)) hx hb d_Ir_point_38 (by decide) ?_
      refine lv_sipush (v := 10000) hx hb d_Ir_point_41 (by decide) ?_
      refine r_Ir_isWithin hF m_131 hl.1 ⟨Nat.le_of_ble_eq_true rfl, Nat.le_of_ble_eq_true rfl⟩ ⟨Nat.zero_le _, Nat.zero_le _⟩ (Nat.le_of_ble_eq_true rfl) d_Ir_point_44 ?_
      refine lv_if_eq (tgt := 68) hx hb d_Ir_point_47 (by decide) (fun c47 => ?_) (fun c47 => ?_)
      · have h := h.1 c47
        refine lv_iconst (v := 0) hx hb d_Ir_point_68 (by decide) ?_
        refine rq_requireRange hF hK hlt hz hS hl.1 hlocks hnx m_437 ⟨Nat.le_of_ble_eq_true rfl, Nat.le_of_ble_eq_true rfl⟩ ⟨Nat.le_refl _, Nat.le_refl _⟩ d_Ir_point_69 (fun c69 => xc_I hP hS (by rw [f_Ir_point, if_neg c4, if_neg c15, if_neg c25, if_pos c47])) (fun c69 => absurd rfl c69)
      · have h := h.2 c47
        refine lv_iload hx hb d_Ir_point_50 (lv_at hl 5 rfl) ?_
        refine lv_sipush (v := (-10000)) hx hb d_Ir_point_52 (by decide) ?_
        refine lv_sipush (v := 10000) hx hb d_Ir_point_55 (by decide) ?_
        refine r_Ir_isWithin hF m_131 hl.1 ⟨Nat.le_of_ble_eq_true rfl, Nat.le_of_ble_eq_true rfl⟩ ⟨Nat.zero_le _, Nat.zero_le _⟩ (Nat.le_of_ble_eq_true rfl) d_Ir_point_58 ?_
        refine lv_if_eq (tgt := 68) hx hb d_Ir_point_61 (by decide) (fun c61 => ?_) (fun c61 => ?_)
        · have h := h.1 c61
          refine lv_iconst (v := 0) hx hb d_Ir_point_68 (by decide) ?_
          refine rq_requireRange hF hK hlt hz hS hl.1 hlocks hnx m_437 ⟨Nat.le_of_ble_eq_true rfl, Nat.le_of_ble_eq_true rfl⟩ ⟨Nat.le_refl _, Nat.le_refl _⟩ d_Ir_point_69 (fun c69 => xc_I hP hS (by rw [f_Ir_point, if_neg c4, if_neg c15, if_neg c25, if_neg c47, if_pos c61])) (fun c69 => absurd rfl c69)
        · have h := h.2 c61
          refine lv_iconst (v := 1) hx hb d_Ir_point_64 (by decide) ?_
          refine lv_goto (tgt := 69) hx hb d_Ir_point_65 (by decide) ?_
          refine rq_requireRange hF hK hlt hz hS hl.1 hlocks hnx m_437 ⟨Nat.le_of_ble_eq_true rfl, Nat.le_of_ble_eq_true rfl⟩ ⟨Nat.le_refl _, Nat.le_refl _⟩ d_Ir_point_69 (fun c69 => absurd c69 (by decide)) (fun c69 => ?_)
          refine lv_aload_n hx hb d_Ir_point_72 rfl (lv_at hl 0 rfl) ?_
          refine gf_Ir_points hF hK hP m_134 d_Ir_point_73 ?_
          refine gn_Points_count hF hK hP mn_0 d_Ir_point_76 ?_
          refine lv_bipush (v := 30) hx hb d_Ir_point_79 (by decide) ?_
          refine lv_icmp_ge (tgt := 88) hx hb d_Ir_point_81 (by decide) (fun c81 => ?_) (fun c81 => ?_)
          · have h := h.1 c81
            refine lv_iconst (v := 0) hx hb d_Ir_point_88 (by decide) ?_
            refine rq_requireRoom hF hK hlt hz hS hl.1 hlocks hnx m_439 ⟨Nat.le_of_ble_eq_true rfl, Nat.le_of_ble_eq_true rfl⟩ ⟨Nat.le_refl _, Nat.le_refl _⟩ d_Ir_point_89 (fun c89 => xc_I hP hS (by rw [f_Ir_point, if_neg c4, if_neg c15, if_neg c25, if_neg c47, if_neg c61, if_pos c81])) (fun c89 => absurd rfl c89)
          · have h := h.2 c81
            refine lv_iconst (v := 1) hx hb d_Ir_point_84 (by decide) ?_
            refine lv_goto (tgt := 89) hx hb d_Ir_point_85 (by decide) ?_
            refine rq_requireRoom hF hK hlt hz hS hl.1 hlocks hnx m_439 ⟨Nat.le_of_ble_eq_true rfl, Nat.le_of_ble_eq_true rfl⟩ ⟨Nat.le_refl _, Nat.le_refl _⟩ d_Ir_point_89 (fun c89 => absurd c89 (by decide)) (fun c89 => ?_)
            refine lv_aload_n hx hb d_Ir_point_92 rfl (lv_at hl 0 rfl) ?_
            refine gf_Ir_points hF hK hP m_134 d_Ir_point_93 ?_
            refine lv_iload_n hx hb d_Ir_point_96 rfl (lv_at hl 1 rfl) ?_
            refine lv_iload_n hx hb d_Ir_point_97 rfl (lv_at hl 2 rfl) ?_
            refine lv_bipush (v := 30) hx hb d_Ir_point_98 (by decide) ?_
            refine lv_idiv hx hb d_Ir_point_100 (by decide) ?_
            refine lv_iload_n hx hb d_Ir_point_101 rfl (lv_at hl 3 rfl) ?_
            refine lv_bipush (v := 100) hx hb d_Ir_point_102 (by decide) ?_
            refine lv_idiv hx hb d_Ir_point_104 (by decide) ?_
            refine lv_iadd hx hb d_Ir_point_105 ?_
            refine lv_iload hx hb d_Ir_point_106 (lv_at hl 4 rfl) ?_
            refine lv_iload hx hb d_Ir_point_108 (lv_at hl 5 rfl) ?_
            have k110 := h
            refine r_Points_add hF hK hP hL hS k110 m_440 hl.1 ⟨Nat.le_of_ble_eq_true rfl, Nat.le_of_ble_eq_true rfl⟩ ⟨Nat.zero_le _, Nat.zero_le _⟩ (Nat.le_of_ble_eq_true rfl) d_Ir_point_110 (fun H locs hP hS => ?_)
            have hv : ((none, (f_Points_add ar sc a0 ((a1 / 30) + (a2 / 100)) a3 a4).1, (f_Points_add ar sc a0 ((a1 / 30) + (a2 / 100)) a3 a4).2.1, (f_Points_add ar sc a0 ((a1 / 30) + (a2 / 100)) a3 a4).2.2) : Option String × Int32 × (Nat → Nat → Int32) × (Nat → Int32)) = f_Ir_point ar sc a0 a1 a2 a3 a4 := by rw [f_Ir_point, if_neg c4, if_neg c15, if_neg c25, if_neg c47, if_neg c61, if_neg c81]
            exact W.widen (k := 1) (n := 6) (Nat.zero_le _) (Nat.zero_le _) (th_ret (W.iret (v := (f_Points_add ar sc a0 ((a1 / 30) + (a2 / 100)) a3 a4).1) hx hb hr (fun t ht hW => ⟨⟨(f_Points_add ar sc a0 ((a1 / 30) + (a2 / 100)) a3 a4).1, ((f_Points_add ar sc a0 ((a1 / 30) + (a2 / 100)) a3 a4).2.1, (f_Points_add ar sc a0 ((a1 / 30) + (a2 / 100)) a3 a4).2.2), rfl, hv, by dsimp only; rw [ht]; exact hP⟩, hS.F ht⟩) hS.2.2 d_Ir_point_113))
theorem d_Ir_day_0 : decode b_Ir_day 0 = .ok (.iload_n 1, 1) := by decide +kernel
theorem d_Ir_day_1 : decode b_Ir_day 1 = .ok (.aload_n 0, 1) := by decide +kernel
theorem d_Ir_day_2 : decode b_Ir_day 2 = .ok (.getfield 55, 3) := by decide +kernel
theorem d_Ir_day_5 : decode b_Ir_day 5 = .ok (.ldc 97, 2) := by decide +kernel
theorem d_Ir_day_7 : decode b_Ir_day 7 = .ok (.invokestatic 67, 3) := by decide +kernel
theorem d_Ir_day_10 : decode b_Ir_day 10 = .ok (.invokestatic 71, 3) := by decide +kernel
theorem d_Ir_day_13 : decode b_Ir_day 13 = .ok (.aload_n 0, 1) := by decide +kernel
theorem d_Ir_day_14 : decode b_Ir_day 14 = .ok (.iload_n 1, 1) := by decide +kernel
theorem d_Ir_day_15 : decode b_Ir_day 15 = .ok (.putfield 55, 3) := by decide +kernel
theorem d_Ir_day_18 : decode b_Ir_day 18 = .ok (.return_, 1) := by decide +kernel
set_option maxHeartbeats 4000000 in
set_option maxRecDepth 100000 in
theorem c_Ir_day (l : Launch) (hlt : l.stackTraces = false) (sa : Nat → Nat) (dC : Nat → ClassId) (dI : Nat → Nat → Nat) (L : Nat → Nat) (cA : Nat → ClassId) (ar : Nat → Nat → Int32) (sc : Nat → Int32) (a0 : Int32) (hL : ij 38 L) : th_Both l y_Ir_day z_Ir_day (rmX 8) (va_Pc [.ref (L 0), .int a0] (fun U => xw_I dC dI L cA ar sc U ∧ xz_I L sa U)) (va_Qv (fun u : oS => (none, 0, u.1, u.2) = f_Ir_day ar sc a0) (fun u t => va_P (dC, dI) classes (wI L cA u.1 u.2) t.heap) (aI L)) (xC_I dC dI L cA (f_Ir_day ar sc a0)) 1 6 (aI L) := by
  refine th_ofW (cc := b_Ir_day) (maxL := 2) (ret := none) (by decide) rfl ?_
  intro p e s m args below meth c s₁ B hml hnx hv
  obtain ⟨rfl, ⟨hP, hK⟩, hz⟩ := hv
  have hx := B.exec
  have hb := B.bytes
  have hr := B.returns
  have hts : ∀ w ∈ w_all, w.before _ s = true := fun w hw => atoms_spec (ws := z_Ir_day) B.pre w (List.mem_cons_of_mem _ hw)
  have hown : s.vm.findClass R_Ir = some m.cls := findClass_of_methodNamed B.named
  have hlocks := B.notSynchronized
  have hF : CallFix p m c b_Ir_day 2 s _ w_all R_Ir := ⟨hx, hb, hml, hown, hts⟩
  have hS : va_S (aI L) s.heap s.heap [] := va_S.rf
  have hl := lv_entry ([.ref (L 0), .int a0]) (n := 2) (Nat.le_of_ble_eq_true rfl)
  rw [lg_entry_eq]
  generalize (lg_sl ([.ref (L 0), .int a0]) ++ List.replicate (2 - (lg_sl ([.ref (L 0), .int a0])).length) Slot.unset).toArray = ls at hl ⊢
  have hl : lv_has ls 2 [(0, .ref (L 0)), (1, .int a0)] := hl
  refine lv_iload_n hx hb d_Ir_day_0 rfl (lv_at hl 1 rfl) ?_
  refine lv_aload_n hx hb d_Ir_day_1 rfl (lv_at hl 0 rfl) ?_
  refine gf_Ir_today hF hK hP m_159 d_Ir_day_2 ?_
  refine lv_ldc (v := 99999) hx hb hown (hts _ m_441) d_Ir_day_5 ?_
  refine r_Ir_isWithin hF m_131 hl.1 ⟨Nat.le_of_ble_eq_true rfl, Nat.le_of_ble_eq_true rfl⟩ ⟨Nat.zero_le _, Nat.zero_le _⟩ (Nat.le_of_ble_eq_true rfl) d_Ir_day_7 ?_
  refine rq_requireRange hF hK hlt hz hS hl.1 hlocks hnx m_437 ⟨Nat.le_of_ble_eq_true rfl, Nat.le_of_ble_eq_true rfl⟩ ⟨Nat.le_refl _, Nat.le_refl _⟩ d_Ir_day_10 (fun c10 => xc_I hP hS (by rw [f_Ir_day, if_pos c10])) (fun c10 => ?_)
  refine lv_aload_n hx hb d_Ir_day_13 rfl (lv_at hl 0 rfl) ?_
  refine lv_iload_n hx hb d_Ir_day_14 rfl (lv_at hl 1 rfl) ?_
  refine pf_Ir_today hF hK hP hL hS m_159 d_Ir_day_15 (fun H locs hP hS => ?_)
  have hv : ((none, 0, ar, sg sc 0 a0) : Option String × Int32 × (Nat → Nat → Int32) × (Nat → Int32)) = f_Ir_day ar sc a0 := by rw [f_Ir_day, if_neg c10]
  exact W.widen (k := 1) (n := 6) (Nat.zero_le _) (Nat.zero_le _) (th_ret (W.vret hx hb hr (fun t ht hW => ⟨⟨(ar, sg sc 0 a0), rfl, hv, by dsimp only; rw [ht]; exact hP⟩, hS.F ht⟩) hS.2.2 d_Ir_day_18))
theorem d_Ir_visit_0 : decode b_Ir_visit 0 = .ok (.aload_n 0, 1) := by decide +kernel
theorem d_Ir_visit_1 : decode b_Ir_visit 1 = .ok (.iload_n 1, 1) := by decide +kernel
theorem d_Ir_visit_2 : decode b_Ir_visit 2 = .ok (.invokevirtual 98, 3) := by decide +kernel
theorem d_Ir_visit_5 : decode b_Ir_visit 5 = .ok (.invokestatic 63, 3) := by decide +kernel
theorem d_Ir_visit_8 : decode b_Ir_visit 8 = .ok (.aload_n 0, 1) := by decide +kernel
theorem d_Ir_visit_9 : decode b_Ir_visit 9 = .ok (.getfield 19, 3) := by decide +kernel
theorem d_Ir_visit_12 : decode b_Ir_visit 12 = .ok (.getfield 101, 3) := by decide +kernel
theorem d_Ir_visit_15 : decode b_Ir_visit 15 = .ok (.iload_n 1, 1) := by decide +kernel
theorem d_Ir_visit_16 : decode b_Ir_visit 16 = .ok (.aload_n 0, 1) := by decide +kernel
theorem d_Ir_visit_17 : decode b_Ir_visit 17 = .ok (.getfield 55, 3) := by decide +kernel
theorem d_Ir_visit_20 : decode b_Ir_visit 20 = .ok (.iastore, 1) := by decide +kernel
theorem d_Ir_visit_21 : decode b_Ir_visit 21 = .ok (.return_, 1) := by decide +kernel
set_option maxHeartbeats 4000000 in
set_option maxRecDepth 100000 in
theorem c_Ir_visit (l : Launch) (hlt : l.stackTraces = false) (sa : Nat → Nat) (dC : Nat → ClassId) (dI : Nat → Nat → Nat) (L : Nat → Nat) (cA : Nat → ClassId) (ar : Nat → Nat → Int32) (sc : Nat → Int32) (a0 : Int32) (hL : ij 38 L) (h : p_Ir_visit ar sc a0) : th_Both l y_Ir_visit z_Ir_visit (rmX 8) (va_Pc [.ref (L 0), .int a0] (fun U => xw_I dC dI L cA ar sc U ∧ xz_I L sa U)) (va_Qv (fun u : oS => (none, 0, u.1, u.2) = f_Ir_visit ar sc a0) (fun u t => va_P (dC, dI) classes (wI L cA u.1 u.2) t.heap) (aI L)) (xC_I dC dI L cA (f_Ir_visit ar sc a0)) 1 6 (aI L) := by
  refine th_ofW (cc := b_Ir_visit) (maxL := 2) (ret := none) (by decide) rfl ?_
  intro p e s m args below meth c s₁ B hml hnx hv
  obtain ⟨rfl, ⟨hP, hK⟩, hz⟩ := hv
  have hx := B.exec
  have hb := B.bytes
  have hr := B.returns
  have hts : ∀ w ∈ w_all, w.before _ s = true := fun w hw => atoms_spec (ws := z_Ir_visit) B.pre w (List.mem_cons_of_mem _ hw)
  have hown : s.vm.findClass R_Ir = some m.cls := findClass_of_methodNamed B.named
  have hlocks := B.notSynchronized
  have hF : CallFix p m c b_Ir_visit 2 s _ w_all R_Ir := ⟨hx, hb, hml, hown, hts⟩
  have hS : va_S (aI L) s.heap s.heap [] := va_S.rf
  have hl := lv_entry ([.ref (L 0), .int a0]) (n := 2) (Nat.le_of_ble_eq_true rfl)
  rw [lg_entry_eq]
  generalize (lg_sl ([.ref (L 0), .int a0]) ++ List.replicate (2 - (lg_sl ([.ref (L 0), .int a0])).length) Slot.unset).toArray = ls at hl ⊢
  have hl : lv_has ls 2 [(0, .ref (L 0)), (1, .int a0)] := hl
  unfold p_Ir_visit at h
  refine lv_aload_n hx hb d_Ir_visit_0 rfl (lv_at hl 0 rfl) ?_
  refine lv_iload_n hx hb d_Ir_visit_1 rfl (lv_at hl 1 rfl) ?_
  refine r_Ir_isPoint hF hK hP m_151 hl.1 ⟨Nat.le_of_ble_eq_true rfl, Nat.le_of_ble_eq_true rfl⟩ ⟨Nat.zero_le _, Nat.zero_le _⟩ (Nat.le_of_ble_eq_true rfl) d_Ir_visit_2 ?_
  refine rq_requireKnown hF hK hlt hz hS hl.1 hlocks hnx m_436 ⟨Nat.le_of_ble_eq_true rfl, Nat.le_of_ble_eq_true rfl⟩ ⟨Nat.le_refl _, Nat.le_refl _⟩ d_Ir_visit_5 (fun c5 => xc_I hP hS (by rw [f_Ir_visit, if_pos c5])) (fun c5 => ?_)
  have h := h c5
  refine lv_aload_n hx hb d_Ir_visit_8 rfl (lv_at hl 0 rfl) ?_
  refine gf_Ir_points hF hK hP m_134 d_Ir_visit_9 ?_
  refine gn_Points_visits hF hK hP mn_6 d_Ir_visit_12 ?_
  refine lv_iload_n hx hb d_Ir_visit_15 rfl (lv_at hl 1 rfl) ?_
  refine lv_aload_n hx hb d_Ir_visit_16 rfl (lv_at hl 0 rfl) ?_
  refine gf_Ir_today hF hK hP m_159 d_Ir_visit_17 ?_
  have k20 := h
  refine asI_11 hF hK hP hL hS k20 d_Ir_visit_20 (fun H locs hP hS => ?_)
  have hv : ((none, 0, s2 ar 11 a0.toNatClampNeg (sc 0), sc) : Option String × Int32 × (Nat → Nat → Int32) × (Nat → Int32)) = f_Ir_visit ar sc a0 := by rw [f_Ir_visit, if_neg c5]
  exact W.widen (k := 1) (n := 6) (Nat.zero_le _) (Nat.zero_le _) (th_ret (W.vret hx hb hr (fun t ht hW => ⟨⟨(s2 ar 11 a0.toNatClampNeg (sc 0), sc), rfl, hv, by dsimp only; rw [ht]; exact hP⟩, hS.F ht⟩) hS.2.2 d_Ir_visit_21))
theorem d_Ir_finding_0 : decode b_Ir_finding 0 = .ok (.aload_n 0, 1) := by decide +kernel
theorem d_Ir_finding_1 : decode b_Ir_finding 1 = .ok (.iload_n 1, 1) := by decide +kernel
theorem d_Ir_finding_2 : decode b_Ir_finding 2 = .ok (.invokevirtual 98, 3) := by decide +kernel
theorem d_Ir_finding_5 : decode b_Ir_finding 5 = .ok (.invokestatic 63, 3) := by decide +kernel
theorem d_Ir_finding_8 : decode b_Ir_finding 8 = .ok (.iload_n 2, 1) := by decide +kernel
theorem d_Ir_finding_9 : decode b_Ir_finding 9 = .ok (.iconst 1, 1) := by decide +kernel
theorem d_Ir_finding_10 : decode b_Ir_finding 10 = .ok (.bipush 50, 2) := by decide +kernel
theorem d_Ir_finding_12 : decode b_Ir_finding 12 = .ok (.invokestatic 67, 3) := by decide +kernel
theorem d_Ir_finding_15 : decode b_Ir_finding 15 = .ok (.invokestatic 71, 3) := by decide +kernel
theorem d_Ir_finding_18 : decode b_Ir_finding 18 = .ok (.iload_n 3, 1) := by decide +kernel
theorem d_Ir_finding_19 : decode b_Ir_finding 19 = .ok (.iconst (-1), 1) := by decide +kernel
theorem d_Ir_finding_20 : decode b_Ir_finding 20 = .ok (.if_icmp .eq 14, 3) := by decide +kernel
theorem d_Ir_finding_23 : decode b_Ir_finding 23 = .ok (.iload_n 3, 1) := by decide +kernel
theorem d_Ir_finding_24 : decode b_Ir_finding 24 = .ok (.iconst 0, 1) := by decide +kernel
theorem d_Ir_finding_25 : decode b_Ir_finding 25 = .ok (.sipush 1000, 3) := by decide +kernel
theorem d_Ir_finding_28 : decode b_Ir_finding 28 = .ok (.invokestatic 67, 3) := by decide +kernel
theorem d_Ir_finding_31 : decode b_Ir_finding 31 = .ok (.ifCond .eq 7, 3) := by decide +kernel
theorem d_Ir_finding_34 : decode b_Ir_finding 34 = .ok (.iconst 1, 1) := by decide +kernel
theorem d_Ir_finding_35 : decode b_Ir_finding 35 = .ok (.goto 4, 3) := by decide +kernel
theorem d_Ir_finding_38 : decode b_Ir_finding 38 = .ok (.iconst 0, 1) := by decide +kernel
theorem d_Ir_finding_39 : decode b_Ir_finding 39 = .ok (.invokestatic 71, 3) := by decide +kernel
theorem d_Ir_finding_42 : decode b_Ir_finding 42 = .ok (.aload_n 0, 1) := by decide +kernel
theorem d_Ir_finding_43 : decode b_Ir_finding 43 = .ok (.getfield 26, 3) := by decide +kernel
theorem d_Ir_finding_46 : decode b_Ir_finding 46 = .ok (.getfield 104, 3) := by decide +kernel
theorem d_Ir_finding_49 : decode b_Ir_finding 49 = .ok (.bipush 100, 2) := by decide +kernel
theorem d_Ir_finding_51 : decode b_Ir_finding 51 = .ok (.if_icmp .ge 7, 3) := by decide +kernel
theorem d_Ir_finding_54 : decode b_Ir_finding 54 = .ok (.iconst 1, 1) := by decide +kernel
theorem d_Ir_finding_55 : decode b_Ir_finding 55 = .ok (.goto 4, 3) := by decide +kernel
theorem d_Ir_finding_58 : decode b_Ir_finding 58 = .ok (.iconst 0, 1) := by decide +kernel
theorem d_Ir_finding_59 : decode b_Ir_finding 59 = .ok (.invokestatic 90, 3) := by decide +kernel
theorem d_Ir_finding_62 : decode b_Ir_finding 62 = .ok (.iload_n 3, 1) := by decide +kernel
theorem d_Ir_finding_63 : decode b_Ir_finding 63 = .ok (.iconst (-1), 1) := by decide +kernel
theorem d_Ir_finding_64 : decode b_Ir_finding 64 = .ok (.if_icmp .ne 19, 3) := by decide +kernel
theorem d_Ir_finding_67 : decode b_Ir_finding 67 = .ok (.aload_n 0, 1) := by decide +kernel
theorem d_Ir_finding_68 : decode b_Ir_finding 68 = .ok (.getfield 10, 3) := by decide +kernel
theorem d_Ir_finding_71 : decode b_Ir_finding 71 = .ok (.getfield 84, 3) := by decide +kernel
theorem d_Ir_finding_74 : decode b_Ir_finding 74 = .ok (.aload_n 0, 1) := by decide +kernel
theorem d_Ir_finding_75 : decode b_Ir_finding 75 = .ok (.iload_n 1, 1) := by decide +kernel
theorem d_Ir_finding_76 : decode b_Ir_finding 76 = .ok (.invokevirtual 105, 3) := by decide +kernel
theorem d_Ir_finding_79 : decode b_Ir_finding 79 = .ok (.iaload, 1) := by decide +kernel
theorem d_Ir_finding_80 : decode b_Ir_finding 80 = .ok (.goto 4, 3) := by decide +kernel
theorem d_Ir_finding_83 : decode b_Ir_finding 83 = .ok (.iload_n 3, 1) := by decide +kernel
theorem d_Ir_finding_84 : decode b_Ir_finding 84 = .ok (.istore 4, 2) := by decide +kernel
theorem d_Ir_finding_86 : decode b_Ir_finding 86 = .ok (.aload_n 0, 1) := by decide +kernel
theorem d_Ir_finding_87 : decode b_Ir_finding 87 = .ok (.getfield 26, 3) := by decide +kernel
theorem d_Ir_finding_90 : decode b_Ir_finding 90 = .ok (.iload_n 1, 1) := by decide +kernel
theorem d_Ir_finding_91 : decode b_Ir_finding 91 = .ok (.iload_n 2, 1) := by decide +kernel
theorem d_Ir_finding_92 : decode b_Ir_finding 92 = .ok (.aload_n 0, 1) := by decide +kernel
theorem d_Ir_finding_93 : decode b_Ir_finding 93 = .ok (.getfield 55, 3) := by decide +kernel
theorem d_Ir_finding_96 : decode b_Ir_finding 96 = .ok (.iload 4, 2) := by decide +kernel
theorem d_Ir_finding_98 : decode b_Ir_finding 98 = .ok (.iadd, 1) := by decide +kernel
theorem d_Ir_finding_99 : decode b_Ir_finding 99 = .ok (.invokevirtual 109, 3) := by decide +kernel
theorem d_Ir_finding_102 : decode b_Ir_finding 102 = .ok (.ireturn, 1) := by decide +kernel
set_option maxHeartbeats 4000000 in
set_option maxRecDepth 100000 in
theorem c_Ir_finding (l : Launch) (hlt : l.stackTraces = false) (sa : Nat → Nat) (dC : Nat → ClassId) (dI : Nat → Nat → Nat) (L : Nat → Nat) (cA : Nat → ClassId) (ar : Nat → Nat → Int32) (sc : Nat → Int32) (a0 : Int32) (a1 : Int32) (a2 : Int32) (hL : ij 38 L) (h : p_Ir_finding ar sc a0 a1 a2) : th_Both l y_Ir_finding z_Ir_finding (rmX 8) (va_Pc [.ref (L 0), .int a0, .int a1, .int a2] (fun U => xw_I dC dI L cA ar sc U ∧ xz_I L sa U)) (va_Qi (fun (r : Int32) (u : oS) => (none, r, u.1, u.2) = f_Ir_finding ar sc a0 a1 a2) (fun u t => va_P (dC, dI) classes (wI L cA u.1 u.2) t.heap) (aI L)) (xC_I dC dI L cA (f_Ir_finding ar sc a0 a1 a2)) 1 6 (aI L) := by
  refine th_ofW (cc := b_Ir_finding) (maxL := 5) (ret := (some .int)) (by decide) rfl ?_
  intro p e s m args below meth c s₁ B hml hnx hv
  obtain ⟨rfl, ⟨hP, hK⟩, hz⟩ := hv
  have hx := B.exec
  have hb := B.bytes
  have hr := B.returns
  have hts : ∀ w ∈ w_all, w.before _ s = true := fun w hw => atoms_spec (ws := z_Ir_finding) B.pre w (List.mem_cons_of_mem _ hw)
  have hown : s.vm.findClass R_Ir = some m.cls := findClass_of_methodNamed B.named
  have hlocks := B.notSynchronized
  have hF : CallFix p m c b_Ir_finding 5 s _ w_all R_Ir := ⟨hx, hb, hml, hown, hts⟩
  have hS : va_S (aI L) s.heap s.heap [] := va_S.rf
  have hl := lv_entry ([.ref (L 0), .int a0, .int a1, .int a2]) (n := 5) (Nat.le_of_ble_eq_true rfl)
  rw [lg_entry_eq]
  generalize (lg_sl ([.ref (L 0), .int a0, .int a1, .int a2]) ++ List.replicate (5 - (lg_sl ([.ref (L 0), .int a0, .int a1, .int a2])).length) Slot.unset).toArray = ls at hl ⊢
  have hl : lv_has ls 5 [(0, .ref (L 0)), (1, .int a0), (2, .int a1), (3, .int a2)] := hl
  unfold p_Ir_finding at h
  refine lv_aload_n hx hb d_Ir_finding_0 rfl (lv_at hl 0 rfl) ?_
  refine lv_iload_n hx hb d_Ir_finding_1 rfl (lv_at hl 1 rfl) ?_
  refine r_Ir_isPoint hF hK hP m_151 hl.1 ⟨Nat.le_of_ble_eq_true rfl, Nat.le_of_ble_eq_true rfl⟩ ⟨Nat.zero_le _, Nat.zero_le _⟩ (Nat.le_of_ble_eq_true rfl) d_Ir_finding_2 ?_
  refine rq_requireKnown hF hK hlt hz hS hl.1 hlocks hnx m_436 ⟨Nat.le_of_ble_eq_true rfl, Nat.le_of_ble_eq_true rfl⟩ ⟨Nat.le_refl _, Nat.le_refl _⟩ d_Ir_finding_5 (fun c5 => xc_I hP hS (by rw [f_Ir_finding, if_pos c5])) (fun c5 => ?_)
  have h := h c5
  refine lv_iload_n hx hb d_Ir_finding_8 rfl (lv_at hl 2 rfl) ?_
  refine lv_iconst (v := 1) hx hb d_Ir_finding_9 (by decide) ?_
  refine lv_bipush (v := 50) hx hb d_Ir_finding_10 (by decide) ?_
  refine r_Ir_isWithin hF m_131 hl.1 ⟨Nat.le_of_ble_eq_true rfl, Nat.le_of_ble_eq_true rfl⟩ ⟨Nat.zero_le _, Nat.zero_le _⟩ (Nat.le_of_ble_eq_true rfl) d_Ir_finding_12 ?_
  refine rq_requireRange hF hK hlt hz hS hl.1 hlocks hnx m_437 ⟨Nat.le_of_ble_eq_true rfl, Nat.le_of_ble_eq_true rfl⟩ ⟨Nat.le_refl _, Nat.le_refl _⟩ d_Ir_finding_15 (fun c15 => xc_I hP hS (by rw [f_Ir_finding, if_neg c5, if_pos c15])) (fun c15 => ?_)
  have h := h c15
  refine lv_iload_n hx hb d_Ir_finding_18 rfl (lv_at hl 3 rfl) ?_
  refine lv_iconst (v := (-1)) hx hb d_Ir_finding_19 (by decide) ?_
  refine lv_icmp_eq (tgt := 34) hx hb d_Ir_finding_20 (by decide) (fun c20 => ?_) (fun c20 => ?_)
  · have h := h.1 c20
    refine lv_iconst (v := 1) hx hb d_Ir_finding_34 (by decide) ?_
    refine lv_goto (tgt := 39) hx hb d_Ir_finding_35 (by decide) ?_
    refine rq_requireRange hF hK hlt hz hS hl.1 hlocks hnx m_437 ⟨Nat.le_of_ble_eq_true rfl, Nat.le_of_ble_eq_true rfl⟩ ⟨Nat.le_refl _, Nat.le_refl _⟩ d_Ir_finding_39 (fun c39 => absurd c39 (by decide)) (fun c39 => ?_)
    refine lv_aload_n hx hb d_Ir_finding_42 rfl (lv_at hl 0 rfl) ?_
    refine gf_Ir_findings hF hK hP m_138 d_Ir_finding_43 ?_
    refine gn_Findings_count hF hK hP mn_1 d_Ir_finding_46 ?_
    refine lv_bipush (v := 100) hx hb d_Ir_finding_49 (by decide) ?_
    refine lv_icmp_ge (tgt := 58) hx hb d_Ir_finding_51 (by decide) (fun c51 => ?_) (fun c51 => ?_)
    · have h := h.1 c51
      refine lv_iconst (v := 0) hx hb d_Ir_finding_58 (by decide) ?_
      refine rq_requireRoom hF hK hlt hz hS hl.1 hlocks hnx m_439 ⟨Nat.le_of_ble_eq_true rfl, Nat.le_of_ble_eq_true rfl⟩ ⟨Nat.le_refl _, Nat.le_refl _⟩ d_Ir_finding_59 (fun c59 => xc_I hP hS (by rw [f_Ir_finding, if_neg c5, if_neg c15, if_pos c20, if_pos c51])) (fun c59 => absurd rfl c59)
    · have h := h.2 c51
      refine lv_iconst (v := 1) hx hb d_Ir_finding_54 (by decide) ?_
      refine lv_goto (tgt := 59) hx hb d_Ir_finding_55 (by decide) ?_
      refine rq_requireRoom hF hK hlt hz hS hl.1 hlocks hnx m_439 ⟨Nat.le_of_ble_eq_true rfl, Nat.le_of_ble_eq_true rfl⟩ ⟨Nat.le_refl _, Nat.le_refl _⟩ d_Ir_finding_59 (fun c59 => absurd c59 (by decide)) (fun c59 => ?_)
      refine lv_iload_n hx hb d_Ir_finding_62 rfl (lv_at hl 3 rfl) ?_
      refine lv_iconst (v := (-1)) hx hb d_Ir_finding_63 (by decide) ?_
      refine lv_icmp_ne (tgt := 83) hx hb d_Ir_finding_64 (by decide) (fun c64 => ?_) (fun c64 => ?_)
      · have h := h.2 c64
        refine lv_iload_n hx hb d_Ir_finding_83 rfl (lv_at hl 3 rfl) ?_
        refine lv_istore (lv' := [(4, .int a2), (0, .ref (L 0)), (1, .int a0), (2, .int a1), (3, .int a2)]) hx hb d_Ir_finding_84 hl (by decide) rfl (fun ls hl => ?_)
        refine lv_aload_n hx hb d_Ir_finding_86 rfl (lv_at hl 1 rfl) ?_
        refine gf_Ir_findings hF hK hP m_138 d_Ir_finding_87 ?_
        refine lv_iload_n hx hb d_Ir_finding_90 rfl (lv_at hl 2 rfl) ?_
        refine lv_iload_n hx hb d_Ir_finding_91 rfl (lv_at hl 3 rfl) ?_
        refine lv_aload_n hx hb d_Ir_finding_92 rfl (lv_at hl 1 rfl) ?_
        refine gf_Ir_today hF hK hP m_159 d_Ir_finding_93 ?_
        refine lv_iload hx hb d_Ir_finding_96 (lv_at hl 0 rfl) ?_
        refine lv_iadd hx hb d_Ir_finding_98 ?_
        have k99 := h
        refine r_Findings_add hF hK hP hL hS k99 m_442 hl.1 ⟨Nat.le_of_ble_eq_true rfl, Nat.le_of_ble_eq_true rfl⟩ ⟨Nat.zero_le _, Nat.zero_le _⟩ (Nat.le_of_ble_eq_true rfl) d_Ir_finding_99 (fun H locs hP hS => ?_)
        have hv : ((none, (f_Findings_add ar sc a0 a1 ((sc 0) + a2)).1, (f_Findings_add ar sc a0 a1 ((sc 0) + a2)).2.1, (f_Findings_add ar sc a0 a1 ((sc 0) + a2)).2.2) : Option String × Int32 × (Nat → Nat → Int32) × (Nat → Int32)) = f_Ir_finding ar sc a0 a1 a2 := by rw [f_Ir_finding, if_neg c5, if_neg c15, if_pos c20, if_neg c51, if_neg c64]
        exact W.widen (k := 1) (n := 6) (Nat.zero_le _) (Nat.zero_le _) (th_ret (W.iret (v := (f_Findings_add ar sc a0 a1 ((sc 0) + a2)).1) hx hb hr (fun t ht hW => ⟨⟨(f_Findings_add ar sc a0 a1 ((sc 0) + a2)).1, ((f_Findings_add ar sc a0 a1 ((sc 0) + a2)).2.1, (f_Findings_add ar sc a0 a1 ((sc 0) + a2)).2.2), rfl, hv, by dsimp only; rw [ht]; exact hP⟩, hS.F ht⟩) hS.2.2 d_Ir_finding_102))
      · have h := h.1 c64
        refine lv_aload_n hx hb d_Ir_finding_67 rfl (lv_at hl 0 rfl) ?_
        refine gf_Ir_scale hF hK hP m_158 d_Ir_finding_68 ?_
        refine gn_Scale_times hF hK hP mn_9 d_Ir_finding_71 ?_
        refine lv_aload_n hx hb d_Ir_finding_74 rfl (lv_at hl 0 rfl) ?_
        refine lv_iload_n hx hb d_Ir_finding_75 rfl (lv_at hl 1 rfl) ?_
        have k76 := h.1
        have h := h.2
        refine r_Ir_classOf hF hK hP hL hS k76 m_443 hl.1 ⟨Nat.le_of_ble_eq_true rfl, Nat.le_of_ble_eq_true rfl⟩ ⟨Nat.zero_le _, Nat.zero_le _⟩ (Nat.le_of_ble_eq_true rfl) d_Ir_finding_76 (fun H locs hP hS => ?_)
        have k79 := h.1
        have h := h.2
        refine alI_5 hF hK hP k79 d_Ir_finding_79 ?_
        refine lv_goto (tgt := 84) hx hb d_Ir_finding_80 (by decide) ?_
        refine lv_istore (lv' := [(4, .int (((f_Ir_classOf ar sc a0).2.1) 5 (((f_Ir_classOf ar sc a0).1).toNatClampNeg))), (0, .ref (L 0)), (1, .int a0), (2, .int a1), (3, .int a2)]) hx hb d_Ir_finding_84 hl (by decide) rfl (fun ls hl => ?_)
        refine lv_aload_n hx hb d_Ir_finding_86 rfl (lv_at hl 1 rfl) ?_
        refine gf_Ir_findings hF hK hP m_138 d_Ir_finding_87 ?_
        refine lv_iload_n hx hb d_Ir_finding_90 rfl (lv_at hl 2 rfl) ?_
        refine lv_iload_n hx hb d_Ir_finding_91 rfl (lv_at hl 3 rfl) ?_
        refine lv_aload_n hx hb d_Ir_finding_92 rfl (lv_at hl 1 rfl) ?_
        refine gf_Ir_today hF hK hP m_159 d_Ir_finding_93 ?_
        refine lv_iload hx hb d_Ir_finding_96 (lv_at hl 0 rfl) ?_
        refine lv_iadd hx hb d_Ir_finding_98 ?_
        have k99 := h
        refine r_Findings_add hF hK hP hL hS k99 m_442 hl.1 ⟨Nat.le_of_ble_eq_true rfl, Nat.le_of_ble_eq_true rfl⟩ ⟨Nat.zero_le _, Nat.zero_le _⟩ (Nat.le_of_ble_eq_true rfl) d_Ir_finding_99 (fun H locs hP hS => ?_)
        have hv : ((none, (f_Findings_add ((f_Ir_classOf ar sc a0).2.1) ((f_Ir_classOf ar sc a0).2.2) a0 a1 ((((f_Ir_classOf ar sc a0).2.2) 0) + (((f_Ir_classOf ar sc a0).2.1) 5 (((f_Ir_classOf ar sc a0).1).toNatClampNeg)))).1, (f_Findings_add ((f_Ir_classOf ar sc a0).2.1) ((f_Ir_classOf ar sc a0).2.2) a0 a1 ((((f_Ir_classOf ar sc a0).2.2) 0) + (((f_Ir_classOf ar sc a0).2.1) 5 (((f_Ir_classOf ar sc a0).1).toNatClampNeg)))).2.1, (f_Findings_add ((f_Ir_classOf ar sc a0).2.1) ((f_Ir_classOf ar sc a0).2.2) a0 a1 ((((f_Ir_classOf ar sc a0).2.2) 0) + (((f_Ir_classOf ar sc a0).2.1) 5 (((f_Ir_classOf ar sc a0).1).toNatClampNeg)))).2.2) : Option String × Int32 × (Nat → Nat → Int32) × (Nat → Int32)) = f_Ir_finding ar sc a0 a1 a2 := by rw [f_Ir_finding, if_neg c5, if_neg c15, if_pos c20, if_neg c51, if_pos c64]
        exact W.widen (k := 1) (n := 6) (Nat.zero_le _) (Nat.zero_le _) (th_ret (W.iret (v := (f_Findings_add ((f_Ir_classOf ar sc a0).2.1) ((f_Ir_classOf ar sc a0).2.2) a0 a1 ((((f_Ir_classOf ar sc a0).2.2) 0) + (((f_Ir_classOf ar sc a0).2.1) 5 (((f_Ir_classOf ar sc a0).1).toNatClampNeg)))).1) hx hb hr (fun t ht hW => ⟨⟨(f_Findings_add ((f_Ir_classOf ar sc a0).2.1) ((f_Ir_classOf ar sc a0).2.2) a0 a1 ((((f_Ir_classOf ar sc a0).2.2) 0) + (((f_Ir_classOf ar sc a0).2.1) 5 (((f_Ir_classOf ar sc a0).1).toNatClampNeg)))).1, ((f_Findings_add ((f_Ir_classOf ar sc a0).2.1) ((f_Ir_classOf ar sc a0).2.2) a0 a1 ((((f_Ir_classOf ar sc a0).2.2) 0) + (((f_Ir_classOf ar sc a0).2.1) 5 (((f_Ir_classOf ar sc a0).1).toNatClampNeg)))).2.1, (f_Findings_add ((f_Ir_classOf ar sc a0).2.1) ((f_Ir_classOf ar sc a0).2.2) a0 a1 ((((f_Ir_classOf ar sc a0).2.2) 0) + (((f_Ir_classOf ar sc a0).2.1) 5 (((f_Ir_classOf ar sc a0).1).toNatClampNeg)))).2.2), rfl, hv, by dsimp only; rw [ht]; exact hP⟩, hS.F ht⟩) hS.2.2 d_Ir_finding_102))
  · have h := h.2 c20
    refine lv_iload_n hx hb d_Ir_finding_23 rfl (lv_at hl 3 rfl) ?_
    refine lv_iconst (v := 0) hx hb d_Ir_finding_24 (by decide) ?_
    refine lv_sipush (v := 1000) hx hb d_Ir_finding_25 (by decide) ?_
    refine r_Ir_isWithin hF m_131 hl.1 ⟨Nat.le_of_ble_eq_true rfl, Nat.le_of_ble_eq_true rfl⟩ ⟨Nat.zero_le _, Nat.zero_le _⟩ (Nat.le_of_ble_eq_true rfl) d_Ir_finding_28 ?_
    refine lv_if_eq (tgt := 38) hx hb d_Ir_finding_31 (by decide) (fun c31 => ?_) (fun c31 => ?_)
    · have h := h.1 c31
      refine lv_iconst (v := 0) hx hb d_Ir_finding_38 (by decide) ?_
      refine rq_requireRange hF hK hlt hz hS hl.1 hlocks hnx m_437 ⟨Nat.le_of_ble_eq_true rfl, Nat.le_of_ble_eq_true rfl⟩ ⟨Nat.le_refl _, Nat.le_refl _⟩ d_Ir_finding_39 (fun c39 => xc_I hP hS (by rw [f_Ir_finding, if_neg c5, if_neg c15, if_neg c20, if_pos c31])) (fun c39 => absurd rfl c39)
    · have h := h.2 c31
      refine lv_iconst (v := 1) hx hb d_Ir_finding_34 (by decide) ?_
      refine lv_goto (tgt := 39) hx hb d_Ir_finding_35 (by decide) ?_
      refine rq_requireRange hF hK hlt hz hS hl.1 hlocks hnx m_437 ⟨Nat.le_of_ble_eq_true rfl, Nat.le_of_ble_eq_true rfl⟩ ⟨Nat.le_refl _, Nat.le_refl _⟩ d_Ir_finding_39 (fun c39 => absurd c39 (by decide)) (fun c39 => ?_)
      refine lv_aload_n hx hb d_Ir_finding_42 rfl (lv_at hl 0 rfl) ?_
      refine gf_Ir_findings hF hK hP m_138 d_Ir_finding_43 ?_
      refine gn_Findings_count hF hK hP mn_1 d_Ir_finding_46 ?_
      refine lv_bipush (v := 100) hx hb d_Ir_finding_49 (by decide) ?_
      refine lv_icmp_ge (tgt := 58) hx hb d_Ir_finding_51 (by decide) (fun c51 => ?_) (fun c51 => ?_)
      · have h := h.1 c51
        refine lv_iconst (v := 0) hx hb d_Ir_finding_58 (by decide) ?_
        refine rq_requireRoom hF hK hlt hz hS hl.1 hlocks hnx m_439 ⟨Nat.le_of_ble_eq_true rfl, Nat.le_of_ble_eq_true rfl⟩ ⟨Nat.le_refl _, Nat.le_refl _⟩ d_Ir_finding_59 (fun c59 => xc_I hP hS (by rw [f_Ir_finding, if_neg c5, if_neg c15, if_neg c20, if_neg c31, if_pos c51])) (fun c59 => absurd rfl c59)
      · have h := h.2 c51
        refine lv_iconst (v := 1) hx hb d_Ir_finding_54 (by decide) ?_
        refine lv_goto (tgt := 59) hx hb d_Ir_finding_55 (by decide) ?_
        refine rq_requireRoom hF hK hlt hz hS hl.1 hlocks hnx m_439 ⟨Nat.le_of_ble_eq_true rfl, Nat.le_of_ble_eq_true rfl⟩ ⟨Nat.le_refl _, Nat.le_refl _⟩ d_Ir_finding_59 (fun c59 => absurd c59 (by decide)) (fun c59 => ?_)
        refine lv_iload_n hx hb d_Ir_finding_62 rfl (lv_at hl 3 rfl) ?_
        refine lv_iconst (v := (-1)) hx hb d_Ir_finding_63 (by decide) ?_
        refine lv_icmp_ne (tgt := 83) hx hb d_Ir_finding_64 (by decide) (fun c64 => ?_) (fun c64 => ?_)
        · have h := h.2 c64
          refine lv_iload_n hx hb d_Ir_finding_83 rfl (lv_at hl 3 rfl) ?_
          refine lv_istore (lv' := [(4, .int a2), (0, .ref (L 0)), (1, .int a0), (2, .int a1), (3, .int a2)]) hx hb d_Ir_finding_84 hl (by decide) rfl (fun ls hl => ?_)
          refine lv_aload_n hx hb d_Ir_finding_86 rfl (lv_at hl 1 rfl) ?_
          refine gf_Ir_findings hF hK hP m_138 d_Ir_finding_87 ?_
          refine lv_iload_n hx hb d_Ir_finding_90 rfl (lv_at hl 2 rfl) ?_
          refine lv_iload_n hx hb d_Ir_finding_91 rfl (lv_at hl 3 rfl) ?_
          refine lv_aload_n hx hb d_Ir_finding_92 rfl (lv_at hl 1 rfl) ?_
          refine gf_Ir_today hF hK hP m_159 d_Ir_finding_93 ?_
          refine lv_iload hx hb d_Ir_finding_96 (lv_at hl 0 rfl) ?_
          refine lv_iadd hx hb d_Ir_finding_98 ?_
          have k99 := h
          refine r_Findings_add hF hK hP hL hS k99 m_442 hl.1 ⟨Nat.le_of_ble_eq_true rfl, Nat.le_of_ble_eq_true rfl⟩ ⟨Nat.zero_le _, Nat.zero_le _⟩ (Nat.le_of_ble_eq_true rfl) d_Ir_finding_99 (fun H locs hP hS => ?_)
          have hv : ((none, (f_Findings_add ar sc a0 a1 ((sc 0) + a2)).1, (f_Findings_add ar sc a0 a1 ((sc 0) + a2)).2.1, (f_Findings_add ar sc a0 a1 ((sc 0) + a2)).2.2) : Option String × Int32 × (Nat → Nat → Int32) × (Nat → Int32)) = f_Ir_finding ar sc a0 a1 a2 := by rw [f_Ir_finding, if_neg c5, if_neg c15, if_neg c20, if_neg c31, if_neg c51, if_neg c64]
          exact W.widen (k := 1) (n := 6) (Nat.zero_le _) (Nat.zero_le _) (th_ret (W.iret (v := (f_Findings_add ar sc a0 a1 ((sc 0) + a2)).1) hx hb hr (fun t ht hW => ⟨⟨(f_Findings_add ar sc a0 a1 ((sc 0) + a2)).1, ((f_Findings_add ar sc a0 a1 ((sc 0) + a2)).2.1, (f_Findings_add ar sc a0 a1 ((sc 0) + a2)).2.2), rfl, hv, by dsimp only; rw [ht]; exact hP⟩, hS.F ht⟩) hS.2.2 d_Ir_finding_102))
        · have h := h.1 c64
          refine lv_aload_n hx hb d_Ir_finding_67 rfl (lv_at hl 0 rfl) ?_
          refine gf_Ir_scale hF hK hP m_158 d_Ir_finding_68 ?_
          refine gn_Scale_times hF hK hP mn_9 d_Ir_finding_71 ?_
          refine lv_aload_n hx hb d_Ir_finding_74 rfl (lv_at hl 0 rfl) ?_
          refine lv_iload_n hx hb d_Ir_finding_75 rfl (lv_at hl 1 rfl) ?_
          have k76 := h.1
          have h := h.2
          refine r_Ir_classOf hF hK hP hL hS k76 m_443 hl.1 ⟨Nat.le_of_ble_eq_true rfl, Nat.le_of_ble_eq_true rfl⟩ ⟨Nat.zero_le _, Nat.zero_le _⟩ (Nat.le_of_ble_eq_true rfl) d_Ir_finding_76 (fun H locs hP hS => ?_)
          have k79 := h.1
          have h := h.2
          refine alI_5 hF hK hP k79 d_Ir_finding_79 ?_
          refine lv_goto (tgt := 84) hx hb d_Ir_finding_80 (by decide) ?_
          refine lv_istore (lv' := [(4, .int (((f_Ir_classOf ar sc a0).2.1) 5 (((f_Ir_classOf ar sc a0).1).toNatClampNeg))), (0, .ref (L 0)), (1, .int a0), (2, .int a1), (3, .int a2)]) hx hb d_Ir_finding_84 hl (by decide) rfl (fun ls hl => ?_)
          refine lv_aload_n hx hb d_Ir_finding_86 rfl (lv_at hl 1 rfl) ?_
          refine gf_Ir_findings hF hK hP m_138 d_Ir_finding_87 ?_
          refine lv_iload_n hx hb d_Ir_finding_90 rfl (lv_at hl 2 rfl) ?_
          refine lv_iload_n hx hb d_Ir_finding_91 rfl (lv_at hl 3 rfl) ?_
          refine lv_aload_n hx hb d_Ir_finding_92 rfl (lv_at hl 1 rfl) ?_
          refine gf_Ir_today hF hK hP m_159 d_Ir_finding_93 ?_
          refine lv_iload hx hb d_Ir_finding_96 (lv_at hl 0 rfl) ?_
          refine lv_iadd hx hb d_Ir_finding_98 ?_
          have k99 := h
          refine r_Findings_add hF hK hP hL hS k99 m_442 hl.1 ⟨Nat.le_of_ble_eq_true rfl, Nat.le_of_ble_eq_true rfl⟩ ⟨Nat.zero_le _, Nat.zero_le _⟩ (Nat.le_of_ble_eq_true rfl) d_Ir_finding_99 (fun H locs hP hS => ?_)
          have hv : ((none, (f_Findings_add ((f_Ir_classOf ar sc a0).2.1) ((f_Ir_classOf ar sc a0).2.2) a0 a1 ((((f_Ir_classOf ar sc a0).2.2) 0) + (((f_Ir_classOf ar sc a0).2.1) 5 (((f_Ir_classOf ar sc a0).1).toNatClampNeg)))).1, (f_Findings_add ((f_Ir_classOf ar sc a0).2.1) ((f_Ir_classOf ar sc a0).2.2) a0 a1 ((((f_Ir_classOf ar sc a0).2.2) 0) + (((f_Ir_classOf ar sc a0).2.1) 5 (((f_Ir_classOf ar sc a0).1).toNatClampNeg)))).2.1, (f_Findings_add ((f_Ir_classOf ar sc a0).2.1) ((f_Ir_classOf ar sc a0).2.2) a0 a1 ((((f_Ir_classOf ar sc a0).2.2) 0) + (((f_Ir_classOf ar sc a0).2.1) 5 (((f_Ir_classOf ar sc a0).1).toNatClampNeg)))).2.2) : Option String × Int32 × (Nat → Nat → Int32) × (Nat → Int32)) = f_Ir_finding ar sc a0 a1 a2 := by rw [f_Ir_finding, if_neg c5, if_neg c15, if_neg c20, if_neg c31, if_neg c51, if_pos c64]
          exact W.widen (k := 1) (n := 6) (Nat.zero_le _) (Nat.zero_le _) (th_ret (W.iret (v := (f_Findings_add ((f_Ir_classOf ar sc a0).2.1) ((f_Ir_classOf ar sc a0).2.2) a0 a1 ((((f_Ir_classOf ar sc a0).2.2) 0) + (((f_Ir_classOf ar sc a0).2.1) 5 (((f_Ir_classOf ar sc a0).1).toNatClampNeg)))).1) hx hb hr (fun t ht hW => ⟨⟨(f_Findings_add ((f_Ir_classOf ar sc a0).2.1) ((f_Ir_classOf ar sc a0).2.2) a0 a1 ((((f_Ir_classOf ar sc a0).2.2) 0) + (((f_Ir_classOf ar sc a0).2.1) 5 (((f_Ir_classOf ar sc a0).1).toNatClampNeg)))).1, ((f_Findings_add ((f_Ir_classOf ar sc a0).2.1) ((f_Ir_classOf ar sc a0).2.2) a0 a1 ((((f_Ir_classOf ar sc a0).2.2) 0) + (((f_Ir_classOf ar sc a0).2.1) 5 (((f_Ir_classOf ar sc a0).1).toNatClampNeg)))).2.1, (f_Findings_add ((f_Ir_classOf ar sc a0).2.1) ((f_Ir_classOf ar sc a0).2.2) a0 a1 ((((f_Ir_classOf ar sc a0).2.2) 0) + (((f_Ir_classOf ar sc a0).2.1) 5 (((f_Ir_classOf ar sc a0).1).toNatClampNeg)))).2.2), rfl, hv, by dsimp only; rw [ht]; exact hP⟩, hS.F ht⟩) hS.2.2 d_Ir_finding_102))

theorem m_283 : (Cond.methodLink R_Mo 104 y_Mo_throwing) ∈ w_all := List.mem_filter.mpr ⟨List.mem_of_getElem? (i := 837) (by decide +kernel), by decide +kernel⟩
theorem m_284 : (Cond.instanceMethod y_Mo_weight) ∈ w_all := List.mem_filter.mpr ⟨List.mem_of_getElem? (i := 831) (by decide +kernel), by decide +kernel⟩
theorem m_285 : (Cond.selects R_Mo y_Mo_weight y_Mo_weight) ∈ w_all := List.mem_filter.mpr ⟨List.mem_of_getElem? (i := 832) (by decide +kernel), by decide +kernel⟩
theorem m_286 : (Cond.code y_Mo_weight b_Mo_weight 3 none) ∈ w_all := List.mem_filter.mpr ⟨List.mem_of_getElem? (i := 833) (by decide +kernel), by decide +kernel⟩
theorem m_287 : (Cond.constant R_Mo 108 100000) ∈ w_all := List.mem_filter.mpr ⟨List.mem_of_getElem? (i := 845) (by decide +kernel), by decide +kernel⟩
theorem m_288 : (Cond.instanceMethod y_Mo_steps) ∈ w_all := List.mem_filter.mpr ⟨List.mem_of_getElem? (i := 842) (by decide +kernel), by decide +kernel⟩
theorem m_289 : (Cond.selects R_Mo y_Mo_steps y_Mo_steps) ∈ w_all := List.mem_filter.mpr ⟨List.mem_of_getElem? (i := 843) (by decide +kernel), by decide +kernel⟩
theorem m_290 : (Cond.code y_Mo_steps b_Mo_steps 4 none) ∈ w_all := List.mem_filter.mpr ⟨List.mem_of_getElem? (i := 844) (by decide +kernel), by decide +kernel⟩
theorem m_291 : (Cond.fieldLink R_Mo 19 "InspectRowsModel" "time" "[I") ∈ w_all := List.mem_filter.mpr ⟨List.mem_of_getElem? (i := 728) (by decide +kernel), by decide +kernel⟩
theorem m_292 : (Cond.instanceMethod y_Mo_interval) ∈ w_all := List.mem_filter.mpr ⟨List.mem_of_getElem? (i := 847) (by decide +kernel), by decide +kernel⟩
theorem m_293 : (Cond.selects R_Mo y_Mo_interval y_Mo_interval) ∈ w_all := List.mem_filter.mpr ⟨List.mem_of_getElem? (i := 848) (by decide +kernel), by decide +kernel⟩
theorem m_294 : (Cond.code y_Mo_interval b_Mo_interval 4 none) ∈ w_all := List.mem_filter.mpr ⟨List.mem_of_getElem? (i := 849) (by decide +kernel), by decide +kernel⟩
theorem m_295 : (Cond.instanceMethod y_Mo_point) ∈ w_all := List.mem_filter.mpr ⟨List.mem_of_getElem? (i := 851) (by decide +kernel), by decide +kernel⟩
theorem m_296 : (Cond.selects R_Mo y_Mo_point y_Mo_point) ∈ w_all := List.mem_filter.mpr ⟨List.mem_of_getElem? (i := 852) (by decide +kernel), by decide +kernel⟩
theorem m_297 : (Cond.code y_Mo_point b_Mo_point 7 (some .int)) ∈ w_all := List.mem_filter.mpr ⟨List.mem_of_getElem? (i := 853) (by decide +kernel), by decide +kernel⟩
theorem m_298 : (Cond.constant R_Mo 112 99999) ∈ w_all := List.mem_filter.mpr ⟨List.mem_of_getElem? (i := 858) (by decide +kernel), by decide +kernel⟩
theorem m_299 : (Cond.instanceMethod y_Mo_day) ∈ w_all := List.mem_filter.mpr ⟨List.mem_of_getElem? (i := 855) (by decide +kernel), by decide +kernel⟩
theorem m_300 : (Cond.selects R_Mo y_Mo_day y_Mo_day) ∈ w_all := List.mem_filter.mpr ⟨List.mem_of_getElem? (i := 856) (by decide +kernel), by decide +kernel⟩
theorem m_301 : (Cond.code y_Mo_day b_Mo_day 2 none) ∈ w_all := List.mem_filter.mpr ⟨List.mem_of_getElem? (i := 857) (by decide +kernel), by decide +kernel⟩
theorem m_302 : (Cond.methodLink R_Mo 113 y_Mo_isPoint) ∈ w_all := List.mem_filter.mpr ⟨List.mem_of_getElem? (i := 863) (by decide +kernel), by decide +kernel⟩
theorem m_303 : (Cond.instanceMethod y_Mo_visit) ∈ w_all := List.mem_filter.mpr ⟨List.mem_of_getElem? (i := 860) (by decide +kernel), by decide +kernel⟩
theorem m_304 : (Cond.selects R_Mo y_Mo_visit y_Mo_visit) ∈ w_all := List.mem_filter.mpr ⟨List.mem_of_getElem? (i := 861) (by decide +kernel), by decide +kernel⟩
theorem m_305 : (Cond.code y_Mo_visit b_Mo_visit 2 none) ∈ w_all := List.mem_filter.mpr ⟨List.mem_of_getElem? (i := 862) (by decide +kernel), by decide +kernel⟩
theorem m_306 : (Cond.instanceMethod y_Mo_finding) ∈ w_all := List.mem_filter.mpr ⟨List.mem_of_getElem? (i := 868) (by decide +kernel), by decide +kernel⟩
theorem m_307 : (Cond.selects R_Mo y_Mo_finding y_Mo_finding) ∈ w_all := List.mem_filter.mpr ⟨List.mem_of_getElem? (i := 869) (by decide +kernel), by decide +kernel⟩
theorem m_308 : (Cond.code y_Mo_finding b_Mo_finding 4 (some .int)) ∈ w_all := List.mem_filter.mpr ⟨List.mem_of_getElem? (i := 870) (by decide +kernel), by decide +kernel⟩
theorem d_Mo_weight_0 : decode b_Mo_weight 0 = .ok (.aload_n 0, 1) := by decide +kernel
theorem d_Mo_weight_1 : decode b_Mo_weight 1 = .ok (.iload_n 1, 1) := by decide +kernel
theorem d_Mo_weight_2 : decode b_Mo_weight 2 = .ok (.iconst 0, 1) := by decide +kernel
theorem d_Mo_weight_3 : decode b_Mo_weight 3 = .ok (.iconst 4, 1) := by decide +kernel
theorem d_Mo_weight_4 : decode b_Mo_weight 4 = .ok (.invokestatic 100, 3) := by decide +kernel
theorem d_Mo_weight_7 : decode b_Mo_weight 7 = .ok (.ifCond .ne 7, 3) := by decide +kernel
theorem d_Mo_weight_10 : decode b_Mo_weight 10 = .ok (.iconst 1, 1) := by decide +kernel
theorem d_Mo_weight_11 : decode b_Mo_weight 11 = .ok (.goto 4, 3) := by decide +kernel
theorem d_Mo_weight_14 : decode b_Mo_weight 14 = .ok (.iconst 0, 1) := by decide +kernel
theorem d_Mo_weight_15 : decode b_Mo_weight 15 = .ok (.iload_n 2, 1) := by decide +kernel
theorem d_Mo_weight_16 : decode b_Mo_weight 16 = .ok (.iconst 0, 1) := by decide +kernel
theorem d_Mo_weight_17 : decode b_Mo_weight 17 = .ok (.bipush 100, 2) := by decide +kernel
theorem d_Mo_weight_19 : decode b_Mo_weight 19 = .ok (.invokestatic 100, 3) := by decide +kernel
theorem d_Mo_weight_22 : decode b_Mo_weight 22 = .ok (.ifCond .ne 7, 3) := by decide +kernel
theorem d_Mo_weight_25 : decode b_Mo_weight 25 = .ok (.iconst 1, 1) := by decide +kernel
theorem d_Mo_weight_26 : decode b_Mo_weight 26 = .ok (.goto 4, 3) := by decide +kernel
theorem d_Mo_weight_29 : decode b_Mo_weight 29 = .ok (.iconst 0, 1) := by decide +kernel
theorem d_Mo_weight_30 : decode b_Mo_weight 30 = .ok (.iconst 0, 1) := by decide +kernel
theorem d_Mo_weight_31 : decode b_Mo_weight 31 = .ok (.invokevirtual 104, 3) := by decide +kernel
theorem d_Mo_weight_34 : decode b_Mo_weight 34 = .ok (.ifCond .eq 4, 3) := by decide +kernel
theorem d_Mo_weight_37 : decode b_Mo_weight 37 = .ok (.return_, 1) := by decide +kernel
theorem d_Mo_weight_38 : decode b_Mo_weight 38 = .ok (.aload_n 0, 1) := by decide +kernel
theorem d_Mo_weight_39 : decode b_Mo_weight 39 = .ok (.getfield 7, 3) := by decide +kernel
theorem d_Mo_weight_42 : decode b_Mo_weight 42 = .ok (.iload_n 1, 1) := by decide +kernel
theorem d_Mo_weight_43 : decode b_Mo_weight 43 = .ok (.iload_n 2, 1) := by decide +kernel
theorem d_Mo_weight_44 : decode b_Mo_weight 44 = .ok (.iastore, 1) := by decide +kernel
theorem d_Mo_weight_45 : decode b_Mo_weight 45 = .ok (.return_, 1) := by decide +kernel
set_option maxHeartbeats 4000000 in
set_option maxRecDepth 100000 in
theorem c_Mo_weight (l : Launch) (dC : Nat → ClassId) (dI : Nat → Nat → Nat) (L : Nat → Nat) (cA : Nat → ClassId) (ar : Nat → Nat → Int32) (sc : Nat → Int32) (a0 : Int32) (a1 : Int32) (hL : ij 25 L) (h : p_Mo_weight ar sc a0 a1) : Met l y_Mo_weight z_Mo_weight (rmD 5) (va_Pc [.ref (L 0), .int a0, .int a1] (fun U => xw_M dC dI L cA ar sc U)) (va_Qv (fun u : oS => (u.1, u.2) = f_Mo_weight ar sc a0 a1) (fun u t => va_P (dC, dI) classes (wM L cA u.1 u.2) t.heap) (aM L)) 0 0 (aM L) := by
  refine Met.ofW (cc := b_Mo_weight) (maxL := 3) (ret := none) (by decide) rfl ?_
  intro p e s m args below meth c s₁ B hml hv
  obtain ⟨rfl, ⟨hP, hK⟩⟩ := hv
  have hx := B.exec
  have hb := B.bytes
  have hr := B.returns
  have hts : ∀ w ∈ w_all, w.before _ s = true := fun w hw => atoms_spec (ws := z_Mo_weight) B.pre w (List.mem_cons_of_mem _ hw)
  have hown : s.vm.findClass R_Mo = some m.cls := findClass_of_methodNamed B.named
  have hlocks := B.notSynchronized
  have hF : CallFix p m c b_Mo_weight 3 s _ w_all R_Mo := ⟨hx, hb, hml, hown, hts⟩
  have hS : va_S (aM L) s.heap s.heap [] := va_S.rf
  have hl := lv_entry ([.ref (L 0), .int a0, .int a1]) (n := 3) (Nat.le_of_ble_eq_true rfl)
  rw [lg_entry_eq]
  generalize (lg_sl ([.ref (L 0), .int a0, .int a1]) ++ List.replicate (3 - (lg_sl ([.ref (L 0), .int a0, .int a1])).length) Slot.unset).toArray = ls at hl ⊢
  have hl : lv_has ls 3 [(0, .ref (L 0)), (1, .int a0), (2, .int a1)] := hl
  unfold p_Mo_weight at h
  refine lv_aload_n hx hb d_Mo_weight_0 rfl (lv_at hl 0 rfl) ?_
  refine lv_iload_n hx hb d_Mo_weight_1 rfl (lv_at hl 1 rfl) ?_
  refine lv_iconst (v := 0) hx hb d_Mo_weight_2 (by decide) ?_
  refine lv_iconst (v := 4) hx hb d_Mo_weight_3 (by decide) ?_
  refine r_Mo_in hF m_195 hl.1 ⟨Nat.le_of_ble_eq_true rfl, Nat.le_of_ble_eq_true rfl⟩ ⟨Nat.zero_le _, Nat.zero_le _⟩ (Nat.le_of_ble_eq_true rfl) d_Mo_weight_4 ?_
  refine lv_if_ne (tgt := 14) hx hb d_Mo_weight_7 (by decide) (fun c7 => ?_) (fun c7 => ?_)
  · have h := h.2 c7
    refine lv_iconst (v := 0) hx hb d_Mo_weight_14 (by decide) ?_
    refine lv_iload_n hx hb d_Mo_weight_15 rfl (lv_at hl 2 rfl) ?_
    refine lv_iconst (v := 0) hx hb d_Mo_weight_16 (by decide) ?_
    refine lv_bipush (v := 100) hx hb d_Mo_weight_17 (by decide) ?_
    refine r_Mo_in hF m_195 hl.1 ⟨Nat.le_of_ble_eq_true rfl, Nat.le_of_ble_eq_true rfl⟩ ⟨Nat.zero_le _, Nat.zero_le _⟩ (Nat.le_of_ble_eq_true rfl) d_Mo_weight_19 ?_
    refine lv_if_ne (tgt := 29) hx hb d_Mo_weight_22 (by decide) (fun c22 => ?_) (fun c22 => ?_)
    · have h := h.2 c22
      refine lv_iconst (v := 0) hx hb d_Mo_weight_29 (by decide) ?_
      refine lv_iconst (v := 0) hx hb d_Mo_weight_30 (by decide) ?_
      refine r_Mo_throwing hF hK hP hL hS m_283 hl.1 ⟨Nat.le_of_ble_eq_true rfl, Nat.le_of_ble_eq_true rfl⟩ ⟨Nat.zero_le _, Nat.zero_le _⟩ (Nat.le_of_ble_eq_true rfl) d_Mo_weight_31 (fun H locs hP hS => ?_)
      refine lv_if_eq (tgt := 38) hx hb d_Mo_weight_34 (by decide) (fun c34 => ?_) (fun c34 => ?_)
      · have h := h.1 c34
        refine lv_aload_n hx hb d_Mo_weight_38 rfl (lv_at hl 0 rfl) ?_
        refine gf_Mo_weight hF hK hP m_209 d_Mo_weight_39 ?_
        refine lv_iload_n hx hb d_Mo_weight_42 rfl (lv_at hl 1 rfl) ?_
        refine lv_iload_n hx hb d_Mo_weight_43 rfl (lv_at hl 2 rfl) ?_
        have k44 := h
        refine asM_1 hF hK hP hL hS k44 d_Mo_weight_44 (fun H locs hP hS => ?_)
        have hv : ((s2 ((f_Mo_throwing ar sc 0 0 0).2.1) 1 a0.toNatClampNeg a1, (f_Mo_throwing ar sc 0 0 0).2.2) : (Nat → Nat → Int32) × (Nat → Int32)) = f_Mo_weight ar sc a0 a1 := by rw [f_Mo_weight, if_neg c7, if_neg c22, if_pos c34]
        exact W.vret hx hb hr (fun t ht hW => ⟨⟨(s2 ((f_Mo_throwing ar sc 0 0 0).2.1) 1 a0.toNatClampNeg a1, (f_Mo_throwing ar sc 0 0 0).2.2), rfl, hv, by dsimp only; rw [ht]; exact hP⟩, hS.F ht⟩) hS.2.2 d_Mo_weight_45
      · have h := h.2 c34
        have hv : (((f_Mo_throwing ar sc 0 0 0).2.1, (f_Mo_throwing ar sc 0 0 0).2.2) : (Nat → Nat → Int32) × (Nat → Int32)) = f_Mo_weight ar sc a0 a1 := by rw [f_Mo_weight, if_neg c7, if_neg c22, if_neg c34]
        exact W.vret hx hb hr (fun t ht hW => ⟨⟨((f_Mo_throwing ar sc 0 0 0).2.1, (f_Mo_throwing ar sc 0 0 0).2.2), rfl, hv, by dsimp only; rw [ht]; exact hP⟩, hS.F ht⟩) hS.2.2 d_Mo_weight_37
    · have h := h.1 c22
      refine lv_iconst (v := 1) hx hb d_Mo_weight_25 (by decide) ?_
      refine lv_goto (tgt := 30) hx hb d_Mo_weight_26 (by decide) ?_
      refine lv_iconst (v := 0) hx hb d_Mo_weight_30 (by decide) ?_
      refine r_Mo_throwing hF hK hP hL hS m_283 hl.1 ⟨Nat.le_of_ble_eq_true rfl, Nat.le_of_ble_eq_true rfl⟩ ⟨Nat.zero_le _, Nat.zero_le _⟩ (Nat.le_of_ble_eq_true rfl) d_Mo_weight_31 (fun H locs hP hS => ?_)
      refine lv_if_eq (tgt := 38) hx hb d_Mo_weight_34 (by decide) (fun c34 => ?_) (fun c34 => ?_)
      · have h := h.1 c34
        refine lv_aload_n hx hb d_Mo_weight_38 rfl (lv_at hl 0 rfl) ?_
        refine gf_Mo_weight hF hK hP m_209 d_Mo_weight_39 ?_
        refine lv_iload_n hx hb d_Mo_weight_42 rfl (lv_at hl 1 rfl) ?_
        refine lv_iload_n hx hb d_Mo_weight_43 rfl (lv_at hl 2 rfl) ?_
        have k44 := h
        refine asM_1 hF hK hP hL hS k44 d_Mo_weight_44 (fun H locs hP hS => ?_)
        have hv : ((s2 ((f_Mo_throwing ar sc 0 1 0).2.1) 1 a0.toNatClampNeg a1, (f_Mo_throwing ar sc 0 1 0).2.2) : (Nat → Nat → Int32) × (Nat → Int32)) = f_Mo_weight ar sc a0 a1 := by rw [f_Mo_weight, if_neg c7, if_pos c22, if_pos c34]
        exact W.vret hx hb hr (fun t ht hW => ⟨⟨(s2 ((f_Mo_throwing ar sc 0 1 0).2.1) 1 a0.toNatClampNeg a1, (f_Mo_throwing ar sc 0 1 0).2.2), rfl, hv, by dsimp only; rw [ht]; exact hP⟩, hS.F ht⟩) hS.2.2 d_Mo_weight_45
      · have h := h.2 c34
        have hv : (((f_Mo_throwing ar sc 0 1 0).2.1, (f_Mo_throwing ar sc 0 1 0).2.2) : (Nat → Nat → Int32) × (Nat → Int32)) = f_Mo_weight ar sc a0 a1 := by rw [f_Mo_weight, if_neg c7, if_pos c22, if_neg c34]
        exact W.vret hx hb hr (fun t ht hW => ⟨⟨((f_Mo_throwing ar sc 0 1 0).2.1, (f_Mo_throwing ar sc 0 1 0).2.2), rfl, hv, by dsimp only; rw [ht]; exact hP⟩, hS.F ht⟩) hS.2.2 d_Mo_weight_37
  · have h := h.1 c7
    refine lv_iconst (v := 1) hx hb d_Mo_weight_10 (by decide) ?_
    refine lv_goto (tgt := 15) hx hb d_Mo_weight_11 (by decide) ?_
    refine lv_iload_n hx hb d_Mo_weight_15 rfl (lv_at hl 2 rfl) ?_
    refine lv_iconst (v := 0) hx hb d_Mo_weight_16 (by decide) ?_
    refine lv_bipush (v := 100) hx hb d_Mo_weight_17 (by decide) ?_
    refine r_Mo_in hF m_195 hl.1 ⟨Nat.le_of_ble_eq_true rfl, Nat.le_of_ble_eq_true rfl⟩ ⟨Nat.zero_le _, Nat.zero_le _⟩ (Nat.le_of_ble_eq_true rfl) d_Mo_weight_19 ?_
    refine lv_if_ne (tgt := 29) hx hb d_Mo_weight_22 (by decide) (fun c22 => ?_) (fun c22 => ?_)
    · have h := h.2 c22
      refine lv_iconst (v := 0) hx hb d_Mo_weight_29 (by decide) ?_
      refine lv_iconst (v := 0) hx hb d_Mo_weight_30 (by decide) ?_
      refine r_Mo_throwing hF hK hP hL hS m_283 hl.1 ⟨Nat.le_of_ble_eq_true rfl, Nat.le_of_ble_eq_true rfl⟩ ⟨Nat.zero_le _, Nat.zero_le _⟩ (Nat.le_of_ble_eq_true rfl) d_Mo_weight_31 (fun H locs hP hS => ?_)
      refine lv_if_eq (tgt := 38) hx hb d_Mo_weight_34 (by decide) (fun c34 => ?_) (fun c34 => ?_)
      · have h := h.1 c34
        refine lv_aload_n hx hb d_Mo_weight_38 rfl (lv_at hl 0 rfl) ?_
        refine gf_Mo_weight hF hK hP m_209 d_Mo_weight_39 ?_
        refine lv_iload_n hx hb d_Mo_weight_42 rfl (lv_at hl 1 rfl) ?_
        refine lv_iload_n hx hb d_Mo_weight_43 rfl (lv_at hl 2 rfl) ?_
        have k44 := h
        refine asM_1 hF hK hP hL hS k44 d_Mo_weight_44 (fun H locs hP hS => ?_)
        have hv : ((s2 ((f_Mo_throwing ar sc 1 0 0).2.1) 1 a0.toNatClampNeg a1, (f_Mo_throwing ar sc 1 0 0).2.2) : (Nat → Nat → Int32) × (Nat → Int32)) = f_Mo_weight ar sc a0 a1 := by rw [f_Mo_weight, if_pos c7, if_neg c22, if_pos c34]
        exact W.vret hx hb hr (fun t ht hW => ⟨⟨(s2 ((f_Mo_throwing ar sc 1 0 0).2.1) 1 a0.toNatClampNeg a1, (f_Mo_throwing ar sc 1 0 0).2.2), rfl, hv, by dsimp only; rw [ht]; exact hP⟩, hS.F ht⟩) hS.2.2 d_Mo_weight_45
      · have h := h.2 c34
        have hv : (((f_Mo_throwing ar sc 1 0 0).2.1, (f_Mo_throwing ar sc 1 0 0).2.2) : (Nat → Nat → Int32) × (Nat → Int32)) = f_Mo_weight ar sc a0 a1 := by rw [f_Mo_weight, if_pos c7, if_neg c22, if_neg c34]
        exact W.vret hx hb hr (fun t ht hW => ⟨⟨((f_Mo_throwing ar sc 1 0 0).2.1, (f_Mo_throwing ar sc 1 0 0).2.2), rfl, hv, by dsimp only; rw [ht]; exact hP⟩, hS.F ht⟩) hS.2.2 d_Mo_weight_37
    · have h := h.1 c22
      refine lv_iconst (v := 1) hx hb d_Mo_weight_25 (by decide) ?_
      refine lv_goto (tgt := 30) hx hb d_Mo_weight_26 (by decide) ?_
      refine lv_iconst (v := 0) hx hb d_Mo_weight_30 (by decide) ?_
      refine r_Mo_throwing hF hK hP hL hS m_283 hl.1 ⟨Nat.le_of_ble_eq_true rfl, Nat.le_of_ble_eq_true rfl⟩ ⟨Nat.zero_le _, Nat.zero_le _⟩ (Nat.le_of_ble_eq_true rfl) d_Mo_weight_31 (fun H locs hP hS => ?_)
      refine lv_if_eq (tgt := 38) hx hb d_Mo_weight_34 (by decide) (fun c34 => ?_) (fun c34 => ?_)
      · have h := h.1 c34
        refine lv_aload_n hx hb d_Mo_weight_38 rfl (lv_at hl 0 rfl) ?_
        refine gf_Mo_weight hF hK hP m_209 d_Mo_weight_39 ?_
        refine lv_iload_n hx hb d_Mo_weight_42 rfl (lv_at hl 1 rfl) ?_
        refine lv_iload_n hx hb d_Mo_weight_43 rfl (lv_at hl 2 rfl) ?_
        have k44 := h
        refine asM_1 hF hK hP hL hS k44 d_Mo_weight_44 (fun H locs hP hS => ?_)
        have hv : ((s2 ((f_Mo_throwing ar sc 1 1 0).2.1) 1 a0.toNatClampNeg a1, (f_Mo_throwing ar sc 1 1 0).2.2) : (Nat → Nat → Int32) × (Nat → Int32)) = f_Mo_weight ar sc a0 a1 := by rw [f_Mo_weight, if_pos c7, if_pos c22, if_pos c34]
        exact W.vret hx hb hr (fun t ht hW => ⟨⟨(s2 ((f_Mo_throwing ar sc 1 1 0).2.1) 1 a0.toNatClampNeg a1, (f_Mo_throwing ar sc 1 1 0).2.2), rfl, hv, by dsimp only; rw [ht]; exact hP⟩, hS.F ht⟩) hS.2.2 d_Mo_weight_45
      · have h := h.2 c34
        have hv : (((f_Mo_throwing ar sc 1 1 0).2.1, (f_Mo_throwing ar sc 1 1 0).2.2) : (Nat → Nat → Int32) × (Nat → Int32)) = f_Mo_weight ar sc a0 a1 := by rw [f_Mo_weight, if_pos c7, if_pos c22, if_neg c34]
        exact W.vret hx hb hr (fun t ht hW => ⟨⟨((f_Mo_throwing ar sc 1 1 0).2.1, (f_Mo_throwing ar sc 1 1 0).2.2), rfl, hv, by dsimp only; rw [ht]; exact hP⟩, hS.F ht⟩) hS.2.2 d_Mo_weight_37
set_option maxHeartbeats 1000000 in
theorem r_Mo_weight {p : Program} {l : Launch} {e : Env} {R : Room} {s : State} {m : MethodId} {args : Array Value} {below : List Frame} {meth : Method} {c : Code} {H : Heap} {locs : List Loc} {cells slots : Nat} {Q : State → Prop} {cc : ByteArray} {nL pc idx : Nat} {ls : Array Slot} {rest : List Value} {own : String} {dC : Nat → ClassId} {dI : Nat → Nat → Nat} {L : Nat → Nat} {cA : Nat → ClassId} {ar : Nat → Nat → Int32} {sc : Nat → Int32} {H0 : Heap} {a0 : Int32} {a1 : Int32} (hF : CallFix p m c cc nL s args w_all own) (hK : kW_M dC dI cA s) (hP : va_P (dC, dI) classes (wM L cA ar sc) H) (hL : ij 25 L) (hS : va_S (aM L) H0 H locs) (h : p_Mo_weight ar sc a0 a1) (hlk : Cond.methodLink own idx y_Mo_weight ∈ w_all) (hsz : ls.size = nL) (hR : (rmD 5).frames + 1 ≤ R.frames ∧ 8 + (3 + 11) + (rmD 5).locals ≤ R.locals) (hc : cells ≤ R.cells ∧ slots ≤ R.slots) (hrs : (rest.map fun v => v.category).sum ≤ 8) (hdg : decode cc pc = .ok (.invokevirtual idx, 3)) (kk : ∀ (H1 : Heap) (locs1 : List Loc), va_P (dC, dI) classes (wM L cA ((f_Mo_weight ar sc a0 a1).1) ((f_Mo_weight ar sc a0 a1).2)) H1 → va_S (aM L) H0 H1 locs1 → W p l e R s m args below meth c H1 locs1 cells slots Q (F0 m (pc + 3) ls (rest))) : W p l e R s m args below meth c H locs cells slots Q (F0 m pc ls (.int a1 :: .int a0 :: .ref (L 0) :: rest)) :=
  va_callv (va_runV (As := [.int a0, .int a1]) (rest := rest) hF (c_Mo_weight l dC dI L cA ar sc a0 a1 hL h) (cwV 2 hF.2.2.2.2 (gV hlk m_284 m_285 m_187 m_286) rfl rfl rfl (by decide +kernel) hR) ⟨xb_M, va_recv hK.1 hP (ci := 7) (q0 := 0) rfl rfl, fun U hU hW => ⟨rfl, by rw [hU]; exact hP, kW_M_warm hW hK⟩⟩ rfl rfl hsz rfl (lv_room hrs) hdg hc) hS (fun q _ h9 => h9) (fun q h9 => h9) (fun u t H1 locs1 ht hvm hw hB hz1 hk1 hS1 => by
    have hk9 := kk H1 locs1 (by rw [← hw, ← ht]; exact hB) hS1
    exact hk9)
theorem d_Mo_steps_0 : decode b_Mo_steps 0 = .ok (.aload_n 0, 1) := by decide +kernel
theorem d_Mo_steps_1 : decode b_Mo_steps 1 = .ok (.iload_n 1, 1) := by decide +kernel
theorem d_Mo_steps_2 : decode b_Mo_steps 2 = .ok (.ifCond .lt 19, 3) := by decide +kernel
theorem d_Mo_steps_5 : decode b_Mo_steps 5 = .ok (.iload_n 1, 1) := by decide +kernel
theorem d_Mo_steps_6 : decode b_Mo_steps 6 = .ok (.iload_n 2, 1) := by decide +kernel
theorem d_Mo_steps_7 : decode b_Mo_steps 7 = .ok (.if_icmp .gt 14, 3) := by decide +kernel
theorem d_Mo_steps_10 : decode b_Mo_steps 10 = .ok (.iload_n 2, 1) := by decide +kernel
theorem d_Mo_steps_11 : decode b_Mo_steps 11 = .ok (.iload_n 3, 1) := by decide +kernel
theorem d_Mo_steps_12 : decode b_Mo_steps 12 = .ok (.if_icmp .gt 9, 3) := by decide +kernel
theorem d_Mo_steps_15 : decode b_Mo_steps 15 = .ok (.iload_n 3, 1) := by decide +kernel
theorem d_Mo_steps_16 : decode b_Mo_steps 16 = .ok (.ldc 108, 2) := by decide +kernel
theorem d_Mo_steps_18 : decode b_Mo_steps 18 = .ok (.if_icmp .le 7, 3) := by decide +kernel
theorem d_Mo_steps_21 : decode b_Mo_steps 21 = .ok (.iconst 1, 1) := by decide +kernel
theorem d_Mo_steps_22 : decode b_Mo_steps 22 = .ok (.goto 4, 3) := by decide +kernel
theorem d_Mo_steps_25 : decode b_Mo_steps 25 = .ok (.iconst 0, 1) := by decide +kernel
theorem d_Mo_steps_26 : decode b_Mo_steps 26 = .ok (.iconst 0, 1) := by decide +kernel
theorem d_Mo_steps_27 : decode b_Mo_steps 27 = .ok (.iconst 0, 1) := by decide +kernel
theorem d_Mo_steps_28 : decode b_Mo_steps 28 = .ok (.invokevirtual 104, 3) := by decide +kernel
theorem d_Mo_steps_31 : decode b_Mo_steps 31 = .ok (.ifCond .eq 4, 3) := by decide +kernel
theorem d_Mo_steps_34 : decode b_Mo_steps 34 = .ok (.return_, 1) := by decide +kernel
theorem d_Mo_steps_35 : decode b_Mo_steps 35 = .ok (.aload_n 0, 1) := by decide +kernel
theorem d_Mo_steps_36 : decode b_Mo_steps 36 = .ok (.getfield 13, 3) := by decide +kernel
theorem d_Mo_steps_39 : decode b_Mo_steps 39 = .ok (.iconst 0, 1) := by decide +kernel
theorem d_Mo_steps_40 : decode b_Mo_steps 40 = .ok (.iload_n 1, 1) := by decide +kernel
theorem d_Mo_steps_41 : decode b_Mo_steps 41 = .ok (.iastore, 1) := by decide +kernel
theorem d_Mo_steps_42 : decode b_Mo_steps 42 = .ok (.aload_n 0, 1) := by decide +kernel
theorem d_Mo_steps_43 : decode b_Mo_steps 43 = .ok (.getfield 13, 3) := by decide +kernel
theorem d_Mo_steps_46 : decode b_Mo_steps 46 = .ok (.iconst 1, 1) := by decide +kernel
theorem d_Mo_steps_47 : decode b_Mo_steps 47 = .ok (.iload_n 2, 1) := by decide +kernel
theorem d_Mo_steps_48 : decode b_Mo_steps 48 = .ok (.iastore, 1) := by decide +kernel
theorem d_Mo_steps_49 : decode b_Mo_steps 49 = .ok (.aload_n 0, 1) := by decide +kernel
theorem d_Mo_steps_50 : decode b_Mo_steps 50 = .ok (.getfield 13, 3) := by decide +kernel
theorem d_Mo_steps_53 : decode b_Mo_steps 53 = .ok (.iconst 2, 1) := by decide +kernel
theorem d_Mo_steps_54 : decode b_Mo_steps 54 = .ok (.iload_n 3, 1) := by decide +kernel
theorem d_Mo_steps_55 : decode b_Mo_steps 55 = .ok (.iastore, 1) := by decide +kernel
theorem d_Mo_steps_56 : decode b_Mo_steps 56 = .ok (.return_, 1) := by decide +kernel
set_option maxHeartbeats 4000000 in
set_option maxRecDepth 100000 in
theorem c_Mo_steps (l : Launch) (dC : Nat → ClassId) (dI : Nat → Nat → Nat) (L : Nat → Nat) (cA : Nat → ClassId) (ar : Nat → Nat → Int32) (sc : Nat → Int32) (a0 : Int32) (a1 : Int32) (a2 : Int32) (hL : ij 25 L) (h : p_Mo_steps ar sc a0 a1 a2) : Met l y_Mo_steps z_Mo_steps (rmD 5) (va_Pc [.ref (L 0), .int a0, .int a1, .int a2] (fun U => xw_M dC dI L cA ar sc U)) (va_Qv (fun u : oS => (u.1, u.2) = f_Mo_steps ar sc a0 a1 a2) (fun u t => va_P (dC, dI) classes (wM L cA u.1 u.2) t.heap) (aM L)) 0 0 (aM L) := by
  refine Met.ofW (cc := b_Mo_steps) (maxL := 4) (ret := none) (by decide) rfl ?_
  intro p e s m args below meth c s₁ B hml hv
  obtain ⟨rfl, ⟨hP, hK⟩⟩ := hv
  have hx := B.exec
  have hb := B.bytes
  have hr := B.returns
  have hts : ∀ w ∈ w_all, w.before _ s = true := fun w hw => atoms_spec (ws := z_Mo_steps) B.pre w (List.mem_cons_of_mem _ hw)
  have hown : s.vm.findClass R_Mo = some m.cls := findClass_of_methodNamed B.named
  have hlocks := B.notSynchronized
  have hF : CallFix p m c b_Mo_steps 4 s _ w_all R_Mo := ⟨hx, hb, hml, hown, hts⟩
  have hS : va_S (aM L) s.heap s.heap [] := va_S.rf
  have hl := lv_entry ([.ref (L 0), .int a0, .int a1, .int a2]) (n := 4) (Nat.le_of_ble_eq_true rfl)
  rw [lg_entry_eq]
  generalize (lg_sl ([.ref (L 0), .int a0, .int a1, .int a2]) ++ List.replicate (4 - (lg_sl ([.ref (L 0), .int a0, .int a1, .int a2])).length) Slot.unset).toArray = ls at hl ⊢
  have hl : lv_has ls 4 [(0, .ref (L 0)), (1, .int a0), (2, .int a1), (3, .int a2)] := hl
  unfold p_Mo_steps at h
  refine lv_aload_n hx hb d_Mo_steps_0 rfl (lv_at hl 0 rfl) ?_
  refine lv_iload_n hx hb d_Mo_steps_1 rfl (lv_at hl 1 rfl) ?_
  refine lv_if_lt (tgt := 21) hx hb d_Mo_steps_2 (by decide) (fun c2 => ?_) (fun c2 => ?_)
  · have h := h.1 c2
    refine lv_iconst (v := 1) hx hb d_Mo_steps_21 (by decide) ?_
    refine lv_goto (tgt := 26) hx hb d_Mo_steps_22 (by decide) ?_
    refine lv_iconst (v := 0) hx hb d_Mo_steps_26 (by decide) ?_
    refine lv_iconst (v := 0) hx hb d_Mo_steps_27 (by decide) ?_
    refine r_Mo_throwing hF hK hP hL hS m_283 hl.1 ⟨Nat.le_of_ble_eq_true rfl, Nat.le_of_ble_eq_true rfl⟩ ⟨Nat.zero_le _, Nat.zero_le _⟩ (Nat.le_of_ble_eq_true rfl) d_Mo_steps_28 (fun H locs hP hS => ?_)
    refine lv_if_eq (tgt := 35) hx hb d_Mo_steps_31 (by decide) (fun c31 => ?_) (fun c31 => ?_)
    · have h := h.1 c31
      refine lv_aload_n hx hb d_Mo_steps_35 rfl (lv_at hl 0 rfl) ?_
      refine gf_Mo_step hF hK hP m_216 d_Mo_steps_36 ?_
      refine lv_iconst (v := 0) hx hb d_Mo_steps_39 (by decide) ?_
      refine lv_iload_n hx hb d_Mo_steps_40 rfl (lv_at hl 1 rfl) ?_
      have k41 := h.1
      have h := h.2
      refine asM_2 hF hK hP hL hS k41 d_Mo_steps_41 (fun H locs hP hS => ?_)
      refine lv_aload_n hx hb d_Mo_steps_42 rfl (lv_at hl 0 rfl) ?_
      refine gf_Mo_step hF hK hP m_216 d_Mo_steps_43 ?_
      refine lv_iconst (v := 1) hx hb d_Mo_steps_46 (by decide) ?_
      refine lv_iload_n hx hb d_Mo_steps_47 rfl (lv_at hl 2 rfl) ?_
      have k48 := h.1
      have h := h.2
      refine asM_2 hF hK hP hL hS k48 d_Mo_steps_48 (fun H locs hP hS => ?_)
      refine lv_aload_n hx hb d_Mo_steps_49 rfl (lv_at hl 0 rfl) ?_
      refine gf_Mo_step hF hK hP m_216 d_Mo_steps_50 ?_
      refine lv_iconst (v := 2) hx hb d_Mo_steps_53 (by decide) ?_
      refine lv_iload_n hx hb d_Mo_steps_54 rfl (lv_at hl 3 rfl) ?_
      have k55 := h
      refine asM_2 hF hK hP hL hS k55 d_Mo_steps_55 (fun H locs hP hS => ?_)
      have hv : ((s2 (s2 (s2 ((f_Mo_throwing ar sc 1 0 0).2.1) 2 ((0 : Int32).toNatClampNeg) a0) 2 ((1 : Int32).toNatClampNeg) a1) 2 ((2 : Int32).toNatClampNeg) a2, (f_Mo_throwing ar sc 1 0 0).2.2) : (Nat → Nat → Int32) × (Nat → Int32)) = f_Mo_steps ar sc a0 a1 a2 := by rw [f_Mo_steps, if_pos c2, if_pos c31]
      exact W.vret hx hb hr (fun t ht hW => ⟨⟨(s2 (s2 (s2 ((f_Mo_throwing ar sc 1 0 0).2.1) 2 ((0 : Int32).toNatClampNeg) a0) 2 ((1 : Int32).toNatClampNeg) a1) 2 ((2 : Int32).toNatClampNeg) a2, (f_Mo_throwing ar sc 1 0 0).2.2), rfl, hv, by dsimp only; rw [ht]; exact hP⟩, hS.F ht⟩) hS.2.2 d_Mo_steps_56
    · have h := h.2 c31
      have hv : (((f_Mo_throwing ar sc 1 0 0).2.1, (f_Mo_throwing ar sc 1 0 0).2.2) : (Nat → Nat → Int32) × (Nat → Int32)) = f_Mo_steps ar sc a0 a1 a2 := by rw [f_Mo_steps, if_pos c2, if_neg c31]
      exact W.vret hx hb hr (fun t ht hW => ⟨⟨((f_Mo_throwing ar sc 1 0 0).2.1, (f_Mo_throwing ar sc 1 0 0).2.2), rfl, hv, by dsimp only; rw [ht]; exact hP⟩, hS.F ht⟩) hS.2.2 d_Mo_steps_34
  · have h := h.2 c2
    refine lv_iload_n hx hb d_Mo_steps_5 rfl (lv_at hl 1 rfl) ?_
    refine lv_iload_n hx hb d_Mo_steps_6 rfl (lv_at hl 2 rfl) ?_
    refine lv_icmp_gt (tgt := 21) hx hb d_Mo_steps_7 (by decide) (fun c7 => ?_) (fun c7 => ?_)
    · have h := h.1 c7
      refine lv_iconst (v := 1) hx hb d_Mo_steps_21 (by decide) ?_
      refine lv_goto (tgt := 26) hx hb d_Mo_steps_22 (by decide) ?_
      refine lv_iconst (v := 0) hx hb d_Mo_steps_26 (by decide) ?_
      refine lv_iconst (v := 0) hx hb d_Mo_steps_27 (by decide) ?_
      refine r_Mo_throwing hF hK hP hL hS m_283 hl.1 ⟨Nat.le_of_ble_eq_true rfl, Nat.le_of_ble_eq_true rfl⟩ ⟨Nat.zero_le _, Nat.zero_le _⟩ (Nat.le_of_ble_eq_true rfl) d_Mo_steps_28 (fun H locs hP hS => ?_)
      refine lv_if_eq (tgt := 35) hx hb d_Mo_steps_31 (by decide) (fun c31 => ?_) (fun c31 => ?_)
      · have h := h.1 c31
        refine lv_aload_n hx hb d_Mo_steps_35 rfl (lv_at hl 0 rfl) ?_
        refine gf_Mo_step hF hK hP m_216 d_Mo_steps_36 ?_
        refine lv_iconst (v := 0) hx hb d_Mo_steps_39 (by decide) ?_
        refine lv_iload_n hx hb d_Mo_steps_40 rfl (lv_at hl 1 rfl) ?_
        have k41 := h.1
        have h := h.2
        refine asM_2 hF hK hP hL hS k41 d_Mo_steps_41 (fun H locs hP hS => ?_)
        refine lv_aload_n hx hb d_Mo_steps_42 rfl (lv_at hl 0 rfl) ?_
        refine gf_Mo_step hF hK hP m_216 d_Mo_steps_43 ?_
        refine lv_iconst (v := 1) hx hb d_Mo_steps_46 (by decide) ?_
        refine lv_iload_n hx hb d_Mo_steps_47 rfl (lv_at hl 2 rfl) ?_
        have k48 := h.1
        have h := h.2
        refine asM_2 hF hK hP hL hS k48 d_Mo_steps_48 (fun H locs hP hS => ?_)
        refine lv_aload_n hx hb d_Mo_steps_49 rfl (lv_at hl 0 rfl) ?_
        refine gf_Mo_step hF hK hP m_216 d_Mo_steps_50 ?_
        refine lv_iconst (v := 2) hx hb d_Mo_steps_53 (by decide) ?_
        refine lv_iload_n hx hb d_Mo_steps_54 rfl (lv_at hl 3 rfl) ?_
        have k55 := h
        refine asM_2 hF hK hP hL hS k55 d_Mo_steps_55 (fun H locs hP hS => ?_)
        have hv : ((s2 (s2 (s2 ((f_Mo_throwing ar sc 1 0 0).2.1) 2 ((0 : Int32).toNatClampNeg) a0) 2 ((1 : Int32).toNatClampNeg) a1) 2 ((2 : Int32).toNatClampNeg) a2, (f_Mo_throwing ar sc 1 0 0).2.2) : (Nat → Nat → Int32) × (Nat → Int32)) = f_Mo_steps ar sc a0 a1 a2 := by rw [f_Mo_steps, if_neg c2, if_pos c7, if_pos c31]
        exact W.vret hx hb hr (fun t ht hW => ⟨⟨(s2 (s2 (s2 ((f_Mo_throwing ar sc 1 0 0).2.1) 2 ((0 : Int32).toNatClampNeg) a0) 2 ((1 : Int32).toNatClampNeg) a1) 2 ((2 : Int32).toNatClampNeg) a2, (f_Mo_throwing ar sc 1 0 0).2.2), rfl, hv, by dsimp only; rw [ht]; exact hP⟩, hS.F ht⟩) hS.2.2 d_Mo_steps_56
      · have h := h.2 c31
        have hv : (((f_Mo_throwing ar sc 1 0 0).2.1, (f_Mo_throwing ar sc 1 0 0).2.2) : (Nat → Nat → Int32) × (Nat → Int32)) = f_Mo_steps ar sc a0 a1 a2 := by rw [f_Mo_steps, if_neg c2, if_pos c7, if_neg c31]
        exact W.vret hx hb hr (fun t ht hW => ⟨⟨((f_Mo_throwing ar sc 1 0 0).2.1, (f_Mo_throwing ar sc 1 0 0).2.2), rfl, hv, by dsimp only; rw [ht]; exact hP⟩, hS.F ht⟩) hS.2.2 d_Mo_steps_34
    · have h := h.2 c7
      refine lv_iload_n hx hb d_Mo_steps_10 rfl (lv_at hl 2 rfl) ?_
      refine lv_iload_n hx hb d_Mo_steps_11 rfl (lv_at hl 3 rfl) ?_
      refine lv_icmp_gt (tgt := 21) hx hb d_Mo_steps_12 (by decide) (fun c12 => ?_) (fun c12 => ?_)
      · have h := h.1 c12
        refine lv_iconst (v := 1) hx hb d_Mo_steps_21 (by decide) ?_
        refine lv_goto (tgt := 26) hx hb d_Mo_steps_22 (by decide) ?_
        refine lv_iconst (v := 0) hx hb d_Mo_steps_26 (by decide) ?_
        refine lv_iconst (v := 0) hx hb d_Mo_steps_27 (by decide) ?_
        refine r_Mo_throwing hF hK hP hL hS m_283 hl.1 ⟨Nat.le_of_ble_eq_true rfl, Nat.le_of_ble_eq_true rfl⟩ ⟨Nat.zero_le _, Nat.zero_le _⟩ (Nat.le_of_ble_eq_true rfl) d_Mo_steps_28 (fun H locs hP hS => ?_)
        refine lv_if_eq (tgt := 35) hx hb d_Mo_steps_31 (by decide) (fun c31 => ?_) (fun c31 => ?_)
        · have h := h.1 c31
          refine lv_aload_n hx hb d_Mo_steps_35 rfl (lv_at hl 0 rfl) ?_
          refine gf_Mo_step hF hK hP m_216 d_Mo_steps_36 ?_
          refine lv_iconst (v := 0) hx hb d_Mo_steps_39 (by decide) ?_
          refine lv_iload_n hx hb d_Mo_steps_40 rfl (lv_at hl 1 rfl) ?_
          have k41 := h.1
          have h := h.2
          refine asM_2 hF hK hP hL hS k41 d_Mo_steps_41 (fun H locs hP hS => ?_)
          refine lv_aload_n hx hb d_Mo_steps_42 rfl (lv_at hl 0 rfl) ?_
          refine gf_Mo_step hF hK hP m_216 d_Mo_steps_43 ?_
          refine lv_iconst (v := 1) hx hb d_Mo_steps_46 (by decide) ?_
          refine lv_iload_n hx hb d_Mo_steps_47 rfl (lv_at hl 2 rfl) ?_
          have k48 := h.1
          have h := h.2
          refine asM_2 hF hK hP hL hS k48 d_Mo_steps_48 (fun H locs hP hS => ?_)
          refine lv_aload_n hx hb d_Mo_steps_49 rfl (lv_at hl 0 rfl) ?_
          refine gf_Mo_step hF hK hP m_216 d_Mo_steps_50 ?_
          refine lv_iconst (v := 2) hx hb d_Mo_steps_53 (by decide) ?_
          refine lv_iload_n hx hb d_Mo_steps_54 rfl (lv_at hl 3 rfl) ?_
          have k55 := h
          refine asM_2 hF hK hP hL hS k55 d_Mo_steps_55 (fun H locs hP hS => ?_)
          have hv : ((s2 (s2 (s2 ((f_Mo_throwing ar sc 1 0 0).2.1) 2 ((0 : Int32).toNatClampNeg) a0) 2 ((1 : Int32).toNatClampNeg) a1) 2 ((2 : Int32).toNatClampNeg) a2, (f_Mo_throwing ar sc 1 0 0).2.2) : (Nat → Nat → Int32) × (Nat → Int32)) = f_Mo_steps ar sc a0 a1 a2 := by rw [f_Mo_steps, if_neg c2, if_neg c7, if_pos c12, if_pos c31]
          exact W.vret hx hb hr (fun t ht hW => ⟨⟨(s2 (s2 (s2 ((f_Mo_throwing ar sc 1 0 0).2.1) 2 ((0 : Int32).toNatClampNeg) a0) 2 ((1 : Int32).toNatClampNeg) a1) 2 ((2 : Int32).toNatClampNeg) a2, (f_Mo_throwing ar sc 1 0 0).2.2), rfl, hv, by dsimp only; rw [ht]; exact hP⟩, hS.F ht⟩) hS.2.2 d_Mo_steps_56
        · have h := h.2 c31
          have hv : (((f_Mo_throwing ar sc 1 0 0).2.1, (f_Mo_throwing ar sc 1 0 0).2.2) : (Nat → Nat → Int32) × (Nat → Int32)) = f_Mo_steps ar sc a0 a1 a2 := by rw [f_Mo_steps, if_neg c2, if_neg c7, if_pos c12, if_neg c31]
          exact W.vret hx hb hr (fun t ht hW => ⟨⟨((f_Mo_throwing ar sc 1 0 0).2.1, (f_Mo_throwing ar sc 1 0 0).2.2), rfl, hv, by dsimp only; rw [ht]; exact hP⟩, hS.F ht⟩) hS.2.2 d_Mo_steps_34
      · have h := h.2 c12
        refine lv_iload_n hx hb d_Mo_steps_15 rfl (lv_at hl 3 rfl) ?_
        refine lv_ldc (v := 100000) hx hb hown (hts _ m_287) d_Mo_steps_16 ?_
        refine lv_icmp_le (tgt := 25) hx hb d_Mo_steps_18 (by decide) (fun c18 => ?_) (fun c18 => ?_)
        · have h := h.1 c18
          refine lv_iconst (v := 0) hx hb d_Mo_steps_25 (by decide) ?_
          refine lv_iconst (v := 0) hx hb d_Mo_steps_26 (by decide) ?_
          refine lv_iconst (v := 0) hx hb d_Mo_steps_27 (by decide) ?_
          refine r_Mo_throwing hF hK hP hL hS m_283 hl.1 ⟨Nat.le_of_ble_eq_true rfl, Nat.le_of_ble_eq_true rfl⟩ ⟨Nat.zero_le _, Nat.zero_le _⟩ (Nat.le_of_ble_eq_true rfl) d_Mo_steps_28 (fun H locs hP hS => ?_)
          refine lv_if_eq (tgt := 35) hx hb d_Mo_steps_31 (by decide) (fun c31 => ?_) (fun c31 => ?_)
          · have h := h.1 c31
            refine lv_aload_n hx hb d_Mo_steps_35 rfl (lv_at hl 0 rfl) ?_
            refine gf_Mo_step hF hK hP m_216 d_Mo_steps_36 ?_
            refine lv_iconst (v := 0) hx hb d_Mo_steps_39 (by decide) ?_
            refine lv_iload_n hx hb d_Mo_steps_40 rfl (lv_at hl 1 rfl) ?_
            have k41 := h.1
            have h := h.2
            refine asM_2 hF hK hP hL hS k41 d_Mo_steps_41 (fun H locs hP hS => ?_)
            refine lv_aload_n hx hb d_Mo_steps_42 rfl (lv_at hl 0 rfl) ?_
            refine gf_Mo_step hF hK hP m_216 d_Mo_steps_43 ?_
            refine lv_iconst (v := 1) hx hb d_Mo_steps_46 (by decide) ?_
            refine lv_iload_n hx hb d_Mo_steps_47 rfl (lv_at hl 2 rfl) ?_
            have k48 := h.1
            have h := h.2
            refine asM_2 hF hK hP hL hS k48 d_Mo_steps_48 (fun H locs hP hS => ?_)
            refine lv_aload_n hx hb d_Mo_steps_49 rfl (lv_at hl 0 rfl) ?_
            refine gf_Mo_step hF hK hP m_216 d_Mo_steps_50 ?_
            refine lv_iconst (v := 2) hx hb d_Mo_steps_53 (by decide) ?_
            refine lv_iload_n hx hb d_Mo_steps_54 rfl (lv_at hl 3 rfl) ?_
            have k55 := h
            refine asM_2 hF hK hP hL hS k55 d_Mo_steps_55 (fun H locs hP hS => ?_)
            have hv : ((s2 (s2 (s2 ((f_Mo_throwing ar sc 0 0 0).2.1) 2 ((0 : Int32).toNatClampNeg) a0) 2 ((1 : Int32).toNatClampNeg) a1) 2 ((2 : Int32).toNatClampNeg) a2, (f_Mo_throwing ar sc 0 0 0).2.2) : (Nat → Nat → Int32) × (Nat → Int32)) = f_Mo_steps ar sc a0 a1 a2 := by rw [f_Mo_steps, if_neg c2, if_neg c7, if_neg c12, if_pos c18, if_pos c31]
            exact W.vret hx hb hr (fun t ht hW => ⟨⟨(s2 (s2 (s2 ((f_Mo_throwing ar sc 0 0 0).2.1) 2 ((0 : Int32).toNatClampNeg) a0) 2 ((1 : Int32).toNatClampNeg) a1) 2 ((2 : Int32).toNatClampNeg) a2, (f_Mo_throwing ar sc 0 0 0).2.2), rfl, hv, by dsimp only; rw [ht]; exact hP⟩, hS.F ht⟩) hS.2.2 d_Mo_steps_56
          · have h := h.2 c31
            have hv : (((f_Mo_throwing ar sc 0 0 0).2.1, (f_Mo_throwing ar sc 0 0 0).2.2) : (Nat → Nat → Int32) × (Nat → Int32)) = f_Mo_steps ar sc a0 a1 a2 := by rw [f_Mo_steps, if_neg c2, if_neg c7, if_neg c12, if_pos c18, if_neg c31]
            exact W.vret hx hb hr (fun t ht hW => ⟨⟨((f_Mo_throwing ar sc 0 0 0).2.1, (f_Mo_throwing ar sc 0 0 0).2.2), rfl, hv, by dsimp only; rw [ht]; exact hP⟩, hS.F ht⟩) hS.2.2 d_Mo_steps_34
        · have h := h.2 c18
          refine lv_iconst (v := 1) hx hb d_Mo_steps_21 (by decide) ?_
          refine lv_goto (tgt := 26) hx hb d_Mo_steps_22 (by decide) ?_
          refine lv_iconst (v := 0) hx hb d_Mo_steps_26 (by decide) ?_
          refine lv_iconst (v := 0) hx hb d_Mo_steps_27 (by decide) ?_
          refine r_Mo_throwing hF hK hP hL hS m_283 hl.1 ⟨Nat.le_of_ble_eq_true rfl, Nat.le_of_ble_eq_true rfl⟩ ⟨Nat.zero_le _, Nat.zero_le _⟩ (Nat.le_of_ble_eq_true rfl) d_Mo_steps_28 (fun H locs hP hS => ?_)
          refine lv_if_eq (tgt := 35) hx hb d_Mo_steps_31 (by decide) (fun c31 => ?_) (fun c31 => ?_)
          · have h := h.1 c31
            refine lv_aload_n hx hb d_Mo_steps_35 rfl (lv_at hl 0 rfl) ?_
            refine gf_Mo_step hF hK hP m_216 d_Mo_steps_36 ?_
            refine lv_iconst (v := 0) hx hb d_Mo_steps_39 (by decide) ?_
            refine lv_iload_n hx hb d_Mo_steps_40 rfl (lv_at hl 1 rfl) ?_
            have k41 := h.1
            have h := h.2
            refine asM_2 hF hK hP hL hS k41 d_Mo_steps_41 (fun H locs hP hS => ?_)
            refine lv_aload_n hx hb d_Mo_steps_42 rfl (lv_at hl 0 rfl) ?_
            refine gf_Mo_step hF hK hP m_216 d_Mo_steps_43 ?_
            refine lv_iconst (v := 1) hx hb d_Mo_steps_46 (by decide) ?_
            refine lv_iload_n hx hb d_Mo_steps_47 rfl (lv_at hl 2 rfl) ?_
            have k48 := h.1
            have h := h.2
            refine asM_2 hF hK hP hL hS k48 d_Mo_steps_48 (fun H locs hP hS => ?_)
            refine lv_aload_n hx hb d_Mo_steps_49 rfl (lv_at hl 0 rfl) ?_
            refine gf_Mo_step hF hK hP m_216 d_Mo_steps_50 ?_
            refine lv_iconst (v := 2) hx hb d_Mo_steps_53 (by decide) ?_
            refine lv_iload_n hx hb d_Mo_steps_54 rfl (lv_at hl 3 rfl) ?_
            have k55 := h
            refine asM_2 hF hK hP hL hS k55 d_Mo_steps_55 (fun H locs hP hS => ?_)
            have hv : ((s2 (s2 (s2 ((f_Mo_throwing ar sc 1 0 0).2.1) 2 ((0 : Int32).toNatClampNeg) a0) 2 ((1 : Int32).toNatClampNeg) a1) 2 ((2 : Int32).toNatClampNeg) a2, (f_Mo_throwing ar sc 1 0 0).2.2) : (Nat → Nat → Int32) × (Nat → Int32)) = f_Mo_steps ar sc a0 a1 a2 := by rw [f_Mo_steps, if_neg c2, if_neg c7, if_neg c12, if_neg c18, if_pos c31]
            exact W.vret hx hb hr (fun t ht hW => ⟨⟨(s2 (s2 (s2 ((f_Mo_throwing ar sc 1 0 0).2.1) 2 ((0 : Int32).toNatClampNeg) a0) 2 ((1 : Int32).toNatClampNeg) a1) 2 ((2 : Int32).toNatClampNeg) a2, (f_Mo_throwing ar sc 1 0 0).2.2), rfl, hv, by dsimp only; rw [ht]; exact hP⟩, hS.F ht⟩) hS.2.2 d_Mo_steps_56
          · have h := h.2 c31
            have hv : (((f_Mo_throwing ar sc 1 0 0).2.1, (f_Mo_throwing ar sc 1 0 0).2.2) : (Nat → Nat → Int32) × (Nat → Int32)) = f_Mo_steps ar sc a0 a1 a2 := by rw [f_Mo_steps, if_neg c2, if_neg c7, if_neg c12, if_neg c18, if_neg c31]
            exact W.vret hx hb hr (fun t ht hW => ⟨⟨((f_Mo_throwing ar sc 1 0 0).2.1, (f_Mo_throwing ar sc 1 0 0).2.2), rfl, hv, by dsimp only; rw [ht]; exact hP⟩, hS.F ht⟩) hS.2.2 d_Mo_steps_34
set_option maxHeartbeats 1000000 in
theorem r_Mo_steps {p : Program} {l : Launch} {e : Env} {R : Room} {s : State} {m : MethodId} {args : Array Value} {below : List Frame} {meth : Method} {c : Code} {H : Heap} {locs : List Loc} {cells slots : Nat} {Q : State → Prop} {cc : ByteArray} {nL pc idx : Nat} {ls : Array Slot} {rest : List Value} {own : String} {dC : Nat → ClassId} {dI : Nat → Nat → Nat} {L : Nat → Nat} {cA : Nat → ClassId} {ar : Nat → Nat → Int32} {sc : Nat → Int32} {H0 : Heap} {a0 : Int32} {a1 : Int32} {a2 : Int32} (hF : CallFix p m c cc nL s args w_all own) (hK : kW_M dC dI cA s) (hP : va_P (dC, dI) classes (wM L cA ar sc) H) (hL : ij 25 L) (hS : va_S (aM L) H0 H locs) (h : p_Mo_steps ar sc a0 a1 a2) (hlk : Cond.methodLink own idx y_Mo_steps ∈ w_all) (hsz : ls.size = nL) (hR : (rmD 5).frames + 1 ≤ R.frames ∧ 8 + (4 + 11) + (rmD 5).locals ≤ R.locals) (hc : cells ≤ R.cells ∧ slots ≤ R.slots) (hrs : (rest.map fun v => v.category).sum ≤ 8) (hdg : decode cc pc = .ok (.invokevirtual idx, 3)) (kk : ∀ (H1 : Heap) (locs1 : List Loc), va_P (dC, dI) classes (wM L cA ((f_Mo_steps ar sc a0 a1 a2).1) ((f_Mo_steps ar sc a0 a1 a2).2)) H1 → va_S (aM L) H0 H1 locs1 → W p l e R s m args below meth c H1 locs1 cells slots Q (F0 m (pc + 3) ls (rest))) : W p l e R s m args below meth c H locs cells slots Q (F0 m pc ls (.int a2 :: .int a1 :: .int a0 :: .ref (L 0) :: rest)) :=
  va_callv (va_runV (As := [.int a0, .int a1, .int a2]) (rest := rest) hF (c_Mo_steps l dC dI L cA ar sc a0 a1 a2 hL h) (cwV 3 hF.2.2.2.2 (gV hlk m_288 m_289 m_187 m_290) rfl rfl rfl (by decide +kernel) hR) ⟨xb_M, va_recv hK.1 hP (ci := 7) (q0 := 0) rfl rfl, fun U hU hW => ⟨rfl, by rw [hU]; exact hP, kW_M_warm hW hK⟩⟩ rfl rfl hsz rfl (lv_room hrs) hdg hc) hS (fun q _ h9 => h9) (fun q h9 => h9) (fun u t H1 locs1 ht hvm hw hB hz1 hk1 hS1 => by
    have hk9 := kk H1 locs1 (by rw [← hw, ← ht]; exact hB) hS1
    exact hk9)
theorem d_Mo_interval_0 : decode b_Mo_interval 0 = .ok (.aload_n 0, 1) := by decide +kernel
theorem d_Mo_interval_1 : decode b_Mo_interval 1 = .ok (.iload_n 1, 1) := by decide +kernel
theorem d_Mo_interval_2 : decode b_Mo_interval 2 = .ok (.iconst 0, 1) := by decide +kernel
theorem d_Mo_interval_3 : decode b_Mo_interval 3 = .ok (.iconst 3, 1) := by decide +kernel
theorem d_Mo_interval_4 : decode b_Mo_interval 4 = .ok (.invokestatic 100, 3) := by decide +kernel
theorem d_Mo_interval_7 : decode b_Mo_interval 7 = .ok (.ifCond .ne 7, 3) := by decide +kernel
theorem d_Mo_interval_10 : decode b_Mo_interval 10 = .ok (.iconst 1, 1) := by decide +kernel
theorem d_Mo_interval_11 : decode b_Mo_interval 11 = .ok (.goto 4, 3) := by decide +kernel
theorem d_Mo_interval_14 : decode b_Mo_interval 14 = .ok (.iconst 0, 1) := by decide +kernel
theorem d_Mo_interval_15 : decode b_Mo_interval 15 = .ok (.iload_n 2, 1) := by decide +kernel
theorem d_Mo_interval_16 : decode b_Mo_interval 16 = .ok (.iconst 1, 1) := by decide +kernel
theorem d_Mo_interval_17 : decode b_Mo_interval 17 = .ok (.sipush 4000, 3) := by decide +kernel
theorem d_Mo_interval_20 : decode b_Mo_interval 20 = .ok (.invokestatic 100, 3) := by decide +kernel
theorem d_Mo_interval_23 : decode b_Mo_interval 23 = .ok (.ifCond .eq 14, 3) := by decide +kernel
theorem d_Mo_interval_26 : decode b_Mo_interval 26 = .ok (.iload_n 3, 1) := by decide +kernel
theorem d_Mo_interval_27 : decode b_Mo_interval 27 = .ok (.iconst 0, 1) := by decide +kernel
theorem d_Mo_interval_28 : decode b_Mo_interval 28 = .ok (.sipush 1000, 3) := by decide +kernel
theorem d_Mo_interval_31 : decode b_Mo_interval 31 = .ok (.invokestatic 100, 3) := by decide +kernel
theorem d_Mo_interval_34 : decode b_Mo_interval 34 = .ok (.ifCond .ne 7, 3) := by decide +kernel
theorem d_Mo_interval_37 : decode b_Mo_interval 37 = .ok (.iconst 1, 1) := by decide +kernel
theorem d_Mo_interval_38 : decode b_Mo_interval 38 = .ok (.goto 4, 3) := by decide +kernel
theorem d_Mo_interval_41 : decode b_Mo_interval 41 = .ok (.iconst 0, 1) := by decide +kernel
theorem d_Mo_interval_42 : decode b_Mo_interval 42 = .ok (.iconst 0, 1) := by decide +kernel
theorem d_Mo_interval_43 : decode b_Mo_interval 43 = .ok (.invokevirtual 104, 3) := by decide +kernel
theorem d_Mo_interval_46 : decode b_Mo_interval 46 = .ok (.ifCond .eq 4, 3) := by decide +kernel
theorem d_Mo_interval_49 : decode b_Mo_interval 49 = .ok (.return_, 1) := by decide +kernel
theorem d_Mo_interval_50 : decode b_Mo_interval 50 = .ok (.aload_n 0, 1) := by decide +kernel
theorem d_Mo_interval_51 : decode b_Mo_interval 51 = .ok (.getfield 16, 3) := by decide +kernel
theorem d_Mo_interval_54 : decode b_Mo_interval 54 = .ok (.iload_n 1, 1) := by decide +kernel
theorem d_Mo_interval_55 : decode b_Mo_interval 55 = .ok (.iload_n 2, 1) := by decide +kernel
theorem d_Mo_interval_56 : decode b_Mo_interval 56 = .ok (.iastore, 1) := by decide +kernel
theorem d_Mo_interval_57 : decode b_Mo_interval 57 = .ok (.aload_n 0, 1) := by decide +kernel
theorem d_Mo_interval_58 : decode b_Mo_interval 58 = .ok (.getfield 19, 3) := by decide +kernel
theorem d_Mo_interval_61 : decode b_Mo_interval 61 = .ok (.iload_n 1, 1) := by decide +kernel
theorem d_Mo_interval_62 : decode b_Mo_interval 62 = .ok (.iload_n 3, 1) := by decide +kernel
theorem d_Mo_interval_63 : decode b_Mo_interval 63 = .ok (.iastore, 1) := by decide +kernel
theorem d_Mo_interval_64 : decode b_Mo_interval 64 = .ok (.return_, 1) := by decide +kernel
set_option maxHeartbeats 4000000 in
set_option maxRecDepth 100000 in
theorem c_Mo_interval (l : Launch) (dC : Nat → ClassId) (dI : Nat → Nat → Nat) (L : Nat → Nat) (cA : Nat → ClassId) (ar : Nat → Nat → Int32) (sc : Nat → Int32) (a0 : Int32) (a1 : Int32) (a2 : Int32) (hL : ij 25 L) (h : p_Mo_interval ar sc a0 a1 a2) : Met l y_Mo_interval z_Mo_interval (rmD 5) (va_Pc [.ref (L 0), .int a0, .int a1, .int a2] (fun U => xw_M dC dI L cA ar sc U)) (va_Qv (fun u : oS => (u.1, u.2) = f_Mo_interval ar sc a0 a1 a2) (fun u t => va_P (dC, dI) classes (wM L cA u.1 u.2) t.heap) (aM L)) 0 0 (aM L) := by
  refine Met.ofW (cc := b_Mo_interval) (maxL := 4) (ret := none) (by decide) rfl ?_
  intro p e s m args below meth c s₁ B hml hv
  obtain ⟨rfl, ⟨hP, hK⟩⟩ := hv
  have hx := B.exec
  have hb := B.bytes
  have hr := B.returns
  have hts : ∀ w ∈ w_all, w.before _ s = true := fun w hw => atoms_spec (ws := z_Mo_interval) B.pre w (List.mem_cons_of_mem _ hw)
  have hown : s.vm.findClass R_Mo = some m.cls := findClass_of_methodNamed B.named
  have hlocks := B.notSynchronized
  have hF : CallFix p m c b_Mo_interval 4 s _ w_all R_Mo := ⟨hx, hb, hml, hown, hts⟩
  have hS : va_S (aM L) s.heap s.heap [] := va_S.rf
  have hl := lv_entry ([.ref (L 0), .int a0, .int a1, .int a2]) (n := 4) (Nat.le_of_ble_eq_true rfl)
  rw [lg_entry_eq]
  generalize (lg_sl ([.ref (L 0), .int a0, .int a1, .int a2]) ++ List.replicate (4 - (lg_sl ([.ref (L 0), .int a0, .int a1, .int a2])).length) Slot.unset).toArray = ls at hl ⊢
  have hl : lv_has ls 4 [(0, .ref (L 0)), (1, .int a0), (2, .int a1), (3, .int a2)] := hl
  unfold p_Mo_interval at h
  refine lv_aload_n hx hb d_Mo_interval_0 rfl (lv_at hl 0 rfl) ?_
  refine lv_iload_n hx hb d_Mo_interval_1 rfl (lv_at hl 1 rfl) ?_
  refine lv_iconst (v := 0) hx hb d_Mo_interval_2 (by decide) ?_
  refine lv_iconst (v := 3) hx hb d_Mo_interval_3 (by decide) ?_
  refine r_Mo_in hF m_195 hl.1 ⟨Nat.le_of_ble_eq_true rfl, Nat.le_of_ble_eq_true rfl⟩ ⟨Nat.zero_le _, Nat.zero_le _⟩ (Nat.le_of_ble_eq_true rfl) d_Mo_interval_4 ?_
  refine lv_if_ne (tgt := 14) hx hb d_Mo_interval_7 (by decide) (fun c7 => ?_) (fun c7 => ?_)
  · have h := h.2 c7
    refine lv_iconst (v := 0) hx hb d_Mo_interval_14 (by decide) ?_
    refine lv_iload_n hx hb d_Mo_interval_15 rfl (lv_at hl 2 rfl) ?_
    refine lv_iconst (v := 1) hx hb d_Mo_interval_16 (by decide) ?_
    refine lv_sipush (v := 4000) hx hb d_Mo_interval_17 (by decide) ?_
    refine r_Mo_in hF m_195 hl.1 ⟨Nat.le_of_ble_eq_true rfl, Nat.le_of_ble_eq_true rfl⟩ ⟨Nat.zero_le _, Nat.zero_le _⟩ (Nat.le_of_ble_eq_true rfl) d_Mo_interval_20 ?_
    refine lv_if_eq (tgt := 37) hx hb d_Mo_interval_23 (by decide) (fun c23 => ?_) (fun c23 => ?_)
    · have h := h.1 c23
      refine lv_iconst (v := 1) hx hb d_Mo_interval_37 (by decide) ?_
      refine lv_goto (tgt := 42) hx hb d_Mo_interval_38 (by decide) ?_
      refine lv_iconst (v := 0) hx hb d_Mo_interval_42 (by decide) ?_
      refine r_Mo_throwing hF hK hP hL hS m_283 hl.1 ⟨Nat.le_of_ble_eq_true rfl, Nat.le_of_ble_eq_true rfl⟩ ⟨Nat.zero_le _, Nat.zero_le _⟩ (Nat.le_of_ble_eq_true rfl) d_Mo_interval_43 (fun H locs hP hS => ?_)
      refine lv_if_eq (tgt := 50) hx hb d_Mo_interval_46 (by decide) (fun c46 => ?_) (fun c46 => ?_)
      · have h := h.1 c46
        refine lv_aload_n hx hb d_Mo_interval_50 rfl (lv_at hl 0 rfl) ?_
        refine gf_Mo_interval hF hK hP m_225 d_Mo_interval_51 ?_
        refine lv_iload_n hx hb d_Mo_interval_54 rfl (lv_at hl 1 rfl) ?_
        refine lv_iload_n hx hb d_Mo_interval_55 rfl (lv_at hl 2 rfl) ?_
        have k56 := h.1
        have h := h.2
        refine asM_3 hF hK hP hL hS k56 d_Mo_interval_56 (fun H locs hP hS => ?_)
        refine lv_aload_n hx hb d_Mo_interval_57 rfl (lv_at hl 0 rfl) ?_
        refine gf_Mo_time hF hK hP m_291 d_Mo_interval_58 ?_
        refine lv_iload_n hx hb d_Mo_interval_61 rfl (lv_at hl 1 rfl) ?_
        refine lv_iload_n hx hb d_Mo_interval_62 rfl (lv_at hl 3 rfl) ?_
        have k63 := h
        refine asM_4 hF hK hP hL hS k63 d_Mo_interval_63 (fun H locs hP hS => ?_)
        have hv : ((s2 (s2 ((f_Mo_throwing ar sc 0 1 0).2.1) 3 a0.toNatClampNeg a1) 4 a0.toNatClampNeg a2, (f_Mo_throwing ar sc 0 1 0).2.2) : (Nat → Nat → Int32) × (Nat → Int32)) = f_Mo_interval ar sc a0 a1 a2 := by rw [f_Mo_interval, if_neg c7, if_pos c23, if_pos c46]
        exact W.vret hx hb hr (fun t ht hW => ⟨⟨(s2 (s2 ((f_Mo_throwing ar sc 0 1 0).2.1) 3 a0.toNatClampNeg a1) 4 a0.toNatClampNeg a2, (f_Mo_throwing ar sc 0 1 0).2.2), rfl, hv, by dsimp only; rw [ht]; exact hP⟩, hS.F ht⟩) hS.2.2 d_Mo_interval_64
      · have h := h.2 c46
        have hv : (((f_Mo_throwing ar sc 0 1 0).2.1, (f_Mo_throwing ar sc 0 1 0).2.2) : (Nat → Nat → Int32) × (Nat → Int32)) = f_Mo_interval ar sc a0 a1 a2 := by rw [f_Mo_interval, if_neg c7, if_pos c23, if_neg c46]
        exact W.vret hx hb hr (fun t ht hW => ⟨⟨((f_Mo_throwing ar sc 0 1 0).2.1, (f_Mo_throwing ar sc 0 1 0).2.2), rfl, hv, by dsimp only; rw [ht]; exact hP⟩, hS.F ht⟩) hS.2.2 d_Mo_interval_49
    · have h := h.2 c23
      refine lv_iload_n hx hb d_Mo_interval_26 rfl (lv_at hl 3 rfl) ?_
      refine lv_iconst (v := 0) hx hb d_Mo_interval_27 (by decide) ?_
      refine lv_sipush (v := 1000) hx hb d_Mo_interval_28 (by decide) ?_
      refine r_Mo_in hF m_195 hl.1 ⟨Nat.le_of_ble_eq_true rfl, Nat.le_of_ble_eq_true rfl⟩ ⟨Nat.zero_le _, Nat.zero_le _⟩ (Nat.le_of_ble_eq_true rfl) d_Mo_interval_31 ?_
      refine lv_if_ne (tgt := 41) hx hb d_Mo_interval_34 (by decide) (fun c34 => ?_) (fun c34 => ?_)
      · have h := h.2 c34
        refine lv_iconst (v := 0) hx hb d_Mo_interval_41 (by decide) ?_
        refine lv_iconst (v := 0) hx hb d_Mo_interval_42 (by decide) ?_
        refine r_Mo_throwing hF hK hP hL hS m_283 hl.1 ⟨Nat.le_of_ble_eq_true rfl, Nat.le_of_ble_eq_true rfl⟩ ⟨Nat.zero_le _, Nat.zero_le _⟩ (Nat.le_of_ble_eq_true rfl) d_Mo_interval_43 (fun H locs hP hS => ?_)
        refine lv_if_eq (tgt := 50) hx hb d_Mo_interval_46 (by decide) (fun c46 => ?_) (fun c46 => ?_)
        · have h := h.1 c46
          refine lv_aload_n hx hb d_Mo_interval_50 rfl (lv_at hl 0 rfl) ?_
          refine gf_Mo_interval hF hK hP m_225 d_Mo_interval_51 ?_
          refine lv_iload_n hx hb d_Mo_interval_54 rfl (lv_at hl 1 rfl) ?_
          refine lv_iload_n hx hb d_Mo_interval_55 rfl (lv_at hl 2 rfl) ?_
          have k56 := h.1
          have h := h.2
          refine asM_3 hF hK hP hL hS k56 d_Mo_interval_56 (fun H locs hP hS => ?_)
          refine lv_aload_n hx hb d_Mo_interval_57 rfl (lv_at hl 0 rfl) ?_
          refine gf_Mo_time hF hK hP m_291 d_Mo_interval_58 ?_
          refine lv_iload_n hx hb d_Mo_interval_61 rfl (lv_at hl 1 rfl) ?_
          refine lv_iload_n hx hb d_Mo_interval_62 rfl (lv_at hl 3 rfl) ?_
          have k63 := h
          refine asM_4 hF hK hP hL hS k63 d_Mo_interval_63 (fun H locs hP hS => ?_)
          have hv : ((s2 (s2 ((f_Mo_throwing ar sc 0 0 0).2.1) 3 a0.toNatClampNeg a1) 4 a0.toNatClampNeg a2, (f_Mo_throwing ar sc 0 0 0).2.2) : (Nat → Nat → Int32) × (Nat → Int32)) = f_Mo_interval ar sc a0 a1 a2 := by rw [f_Mo_interval, if_neg c7, if_neg c23, if_neg c34, if_pos c46]
          exact W.vret hx hb hr (fun t ht hW => ⟨⟨(s2 (s2 ((f_Mo_throwing ar sc 0 0 0).2.1) 3 a0.toNatClampNeg a1) 4 a0.toNatClampNeg a2, (f_Mo_throwing ar sc 0 0 0).2.2), rfl, hv, by dsimp only; rw [ht]; exact hP⟩, hS.F ht⟩) hS.2.2 d_Mo_interval_64
        · have h := h.2 c46
          have hv : (((f_Mo_throwing ar sc 0 0 0).2.1, (f_Mo_throwing ar sc 0 0 0).2.2) : (Nat → Nat → Int32) × (Nat → Int32)) = f_Mo_interval ar sc a0 a1 a2 := by rw [f_Mo_interval, if_neg c7, if_neg c23, if_neg c34, if_neg c46]
          exact W.vret hx hb hr (fun t ht hW => ⟨⟨((f_Mo_throwing ar sc 0 0 0).2.1, (f_Mo_throwing ar sc 0 0 0).2.2), rfl, hv, by dsimp only; rw [ht]; exact hP⟩, hS.F ht⟩) hS.2.2 d_Mo_interval_49
      · have h := h.1 c34
        refine lv_iconst (v := 1) hx hb d_Mo_interval_37 (by decide) ?_
        refine lv_goto (tgt := 42) hx hb d_Mo_interval_38 (by decide) ?_
        refine lv_iconst (v := 0) hx hb d_Mo_interval_42 (by decide) ?_
        refine r_Mo_throwing hF hK hP hL hS m_283 hl.1 ⟨Nat.le_of_ble_eq_true rfl, Nat.le_of_ble_eq_true rfl⟩ ⟨Nat.zero_le _, Nat.zero_le _⟩ (Nat.le_of_ble_eq_true rfl) d_Mo_interval_43 (fun H locs hP hS => ?_)
        refine lv_if_eq (tgt := 50) hx hb d_Mo_interval_46 (by decide) (fun c46 => ?_) (fun c46 => ?_)
        · have h := h.1 c46
          refine lv_aload_n hx hb d_Mo_interval_50 rfl (lv_at hl 0 rfl) ?_
          refine gf_Mo_interval hF hK hP m_225 d_Mo_interval_51 ?_
          refine lv_iload_n hx hb d_Mo_interval_54 rfl (lv_at hl 1 rfl) ?_
          refine lv_iload_n hx hb d_Mo_interval_55 rfl (lv_at hl 2 rfl) ?_
          have k56 := h.1
          have h := h.2
          refine asM_3 hF hK hP hL hS k56 d_Mo_interval_56 (fun H locs hP hS => ?_)
          refine lv_aload_n hx hb d_Mo_interval_57 rfl (lv_at hl 0 rfl) ?_
          refine gf_Mo_time hF hK hP m_291 d_Mo_interval_58 ?_
          refine lv_iload_n hx hb d_Mo_interval_61 rfl (lv_at hl 1 rfl) ?_
          refine lv_iload_n hx hb d_Mo_interval_62 rfl (lv_at hl 3 rfl) ?_
          have k63 := h
          refine asM_4 hF hK hP hL hS k63 d_Mo_interval_63 (fun H locs hP hS => ?_)
          have hv : ((s2 (s2 ((f_Mo_throwing ar sc 0 1 0).2.1) 3 a0.toNatClampNeg a1) 4 a0.toNatClampNeg a2, (f_Mo_throwing ar sc 0 1 0).2.2) : (Nat → Nat → Int32) × (Nat → Int32)) = f_Mo_interval ar sc a0 a1 a2 := by rw [f_Mo_interval, if_neg c7, if_neg c23, if_pos c34, if_pos c46]
          exact W.vret hx hb hr (fun t ht hW => ⟨⟨(s2 (s2 ((f_Mo_throwing ar sc 0 1 0).2.1) 3 a0.toNatClampNeg a1) 4 a0.toNatClampNeg a2, (f_Mo_throwing ar sc 0 1 0).2.2), rfl, hv, by dsimp only; rw [ht]; exact hP⟩, hS.F ht⟩) hS.2.2 d_Mo_interval_64
        · have h := h.2 c46
          have hv : (((f_Mo_throwing ar sc 0 1 0).2.1, (f_Mo_throwing ar sc 0 1 0).2.2) : (Nat → Nat → Int32) × (Nat → Int32)) = f_Mo_interval ar sc a0 a1 a2 := by rw [f_Mo_interval, if_neg c7, if_neg c23, if_pos c34, if_neg c46]
          exact W.vret hx hb hr (fun t ht hW => ⟨⟨((f_Mo_throwing ar sc 0 1 0).2.1, (f_Mo_throwing ar sc 0 1 0).2.2), rfl, hv, by dsimp only; rw [ht]; exact hP⟩, hS.F ht⟩) hS.2.2 d_Mo_interval_49
  · have h := h.1 c7
    refine lv_iconst (v := 1) hx hb d_Mo_interval_10 (by decide) ?_
    refine lv_goto (tgt := 15) hx hb d_Mo_interval_11 (by decide) ?_
    refine lv_iload_n hx hb d_Mo_interval_15 rfl (lv_at hl 2 rfl) ?_
    refine lv_iconst (v := 1) hx hb d_Mo_interval_16 (by decide) ?_
    refine lv_sipush (v := 4000) hx hb d_Mo_interval_17 (by decide) ?_
    refine r_Mo_in hF m_195 hl.1 ⟨Nat.le_of_ble_eq_true rfl, Nat.le_of_ble_eq_true rfl⟩ ⟨Nat.zero_le _, Nat.zero_le _⟩ (Nat.le_of_ble_eq_true rfl) d_Mo_interval_20 ?_
    refine lv_if_eq (tgt := 37) hx hb d_Mo_interval_23 (by decide) (fun c23 => ?_) (fun c23 => ?_)
    · have h := h.1 c23
      refine lv_iconst (v := 1) hx hb d_Mo_interval_37 (by decide) ?_
      refine lv_goto (tgt := 42) hx hb d_Mo_interval_38 (by decide) ?_
      refine lv_iconst (v := 0) hx hb d_Mo_interval_42 (by decide) ?_
      refine r_Mo_throwing hF hK hP hL hS m_283 hl.1 ⟨Nat.le_of_ble_eq_true rfl, Nat.le_of_ble_eq_true rfl⟩ ⟨Nat.zero_le _, Nat.zero_le _⟩ (Nat.le_of_ble_eq_true rfl) d_Mo_interval_43 (fun H locs hP hS => ?_)
      refine lv_if_eq (tgt := 50) hx hb d_Mo_interval_46 (by decide) (fun c46 => ?_) (fun c46 => ?_)
      · have h := h.1 c46
        refine lv_aload_n hx hb d_Mo_interval_50 rfl (lv_at hl 0 rfl) ?_
        refine gf_Mo_interval hF hK hP m_225 d_Mo_interval_51 ?_
        refine lv_iload_n hx hb d_Mo_interval_54 rfl (lv_at hl 1 rfl) ?_
        refine lv_iload_n hx hb d_Mo_interval_55 rfl (lv_at hl 2 rfl) ?_
        have k56 := h.1
        have h := h.2
        refine asM_3 hF hK hP hL hS k56 d_Mo_interval_56 (fun H locs hP hS => ?_)
        refine lv_aload_n hx hb d_Mo_interval_57 rfl (lv_at hl 0 rfl) ?_
        refine gf_Mo_time hF hK hP m_291 d_Mo_interval_58 ?_
        refine lv_iload_n hx hb d_Mo_interval_61 rfl (lv_at hl 1 rfl) ?_
        refine lv_iload_n hx hb d_Mo_interval_62 rfl (lv_at hl 3 rfl) ?_
        have k63 := h
        refine asM_4 hF hK hP hL hS k63 d_Mo_interval_63 (fun H locs hP hS => ?_)
        have hv : ((s2 (s2 ((f_Mo_throwing ar sc 1 1 0).2.1) 3 a0.toNatClampNeg a1) 4 a0.toNatClampNeg a2, (f_Mo_throwing ar sc 1 1 0).2.2) : (Nat → Nat → Int32) × (Nat → Int32)) = f_Mo_interval ar sc a0 a1 a2 := by rw [f_Mo_interval, if_pos c7, if_pos c23, if_pos c46]
        exact W.vret hx hb hr (fun t ht hW => ⟨⟨(s2 (s2 ((f_Mo_throwing ar sc 1 1 0).2.1) 3 a0.toNatClampNeg a1) 4 a0.toNatClampNeg a2, (f_Mo_throwing ar sc 1 1 0).2.2), rfl, hv, by dsimp only; rw [ht]; exact hP⟩, hS.F ht⟩) hS.2.2 d_Mo_interval_64
      · have h := h.2 c46
        have hv : (((f_Mo_throwing ar sc 1 1 0).2.1, (f_Mo_throwing ar sc 1 1 0).2.2) : (Nat → Nat → Int32) × (Nat → Int32)) = f_Mo_interval ar sc a0 a1 a2 := by rw [f_Mo_interval, if_pos c7, if_pos c23, if_neg c46]
        exact W.vret hx hb hr (fun t ht hW => ⟨⟨((f_Mo_throwing ar sc 1 1 0).2.1, (f_Mo_throwing ar sc 1 1 0).2.2), rfl, hv, by dsimp only; rw [ht]; exact hP⟩, hS.F ht⟩) hS.2.2 d_Mo_interval_49
    · have h := h.2 c23
      refine lv_iload_n hx hb d_Mo_interval_26 rfl (lv_at hl 3 rfl) ?_
      refine lv_iconst (v := 0) hx hb d_Mo_interval_27 (by decide) ?_
      refine lv_sipush (v := 1000) hx hb d_Mo_interval_28 (by decide) ?_
      refine r_Mo_in hF m_195 hl.1 ⟨Nat.le_of_ble_eq_true rfl, Nat.le_of_ble_eq_true rfl⟩ ⟨Nat.zero_le _, Nat.zero_le _⟩ (Nat.le_of_ble_eq_true rfl) d_Mo_interval_31 ?_
      refine lv_if_ne (tgt := 41) hx hb d_Mo_interval_34 (by decide) (fun c34 => ?_) (fun c34 => ?_)
      · have h := h.2 c34
        refine lv_iconst (v := 0) hx hb d_Mo_interval_41 (by decide) ?_
        refine lv_iconst (v := 0) hx hb d_Mo_interval_42 (by decide) ?_
        refine r_Mo_throwing hF hK hP hL hS m_283 hl.1 ⟨Nat.le_of_ble_eq_true rfl, Nat.le_of_ble_eq_true rfl⟩ ⟨Nat.zero_le _, Nat.zero_le _⟩ (Nat.le_of_ble_eq_true rfl) d_Mo_interval_43 (fun H locs hP hS => ?_)
        refine lv_if_eq (tgt := 50) hx hb d_Mo_interval_46 (by decide) (fun c46 => ?_) (fun c46 => ?_)
        · have h := h.1 c46
          refine lv_aload_n hx hb d_Mo_interval_50 rfl (lv_at hl 0 rfl) ?_
          refine gf_Mo_interval hF hK hP m_225 d_Mo_interval_51 ?_
          refine lv_iload_n hx hb d_Mo_interval_54 rfl (lv_at hl 1 rfl) ?_
          refine lv_iload_n hx hb d_Mo_interval_55 rfl (lv_at hl 2 rfl) ?_
          have k56 := h.1
          have h := h.2
          refine asM_3 hF hK hP hL hS k56 d_Mo_interval_56 (fun H locs hP hS => ?_)
          refine lv_aload_n hx hb d_Mo_interval_57 rfl (lv_at hl 0 rfl) ?_
          refine gf_Mo_time hF hK hP m_291 d_Mo_interval_58 ?_
          refine lv_iload_n hx hb d_Mo_interval_61 rfl (lv_at hl 1 rfl) ?_
          refine lv_iload_n hx hb d_Mo_interval_62 rfl (lv_at hl 3 rfl) ?_
          have k63 := h
          refine asM_4 hF hK hP hL hS k63 d_Mo_interval_63 (fun H locs hP hS => ?_)
          have hv : ((s2 (s2 ((f_Mo_throwing ar sc 1 0 0).2.1) 3 a0.toNatClampNeg a1) 4 a0.toNatClampNeg a2, (f_Mo_throwing ar sc 1 0 0).2.2) : (Nat → Nat → Int32) × (Nat → Int32)) = f_Mo_interval ar sc a0 a1 a2 := by rw [f_Mo_interval, if_pos c7, if_neg c23, if_neg c34, if_pos c46]
          exact W.vret hx hb hr (fun t ht hW => ⟨⟨(s2 (s2 ((f_Mo_throwing ar sc 1 0 0).2.1) 3 a0.toNatClampNeg a1) 4 a0.toNatClampNeg a2, (f_Mo_throwing ar sc 1 0 0).2.2), rfl, hv, by dsimp only; rw [ht]; exact hP⟩, hS.F ht⟩) hS.2.2 d_Mo_interval_64
        · have h := h.2 c46
          have hv : (((f_Mo_throwing ar sc 1 0 0).2.1, (f_Mo_throwing ar sc 1 0 0).2.2) : (Nat → Nat → Int32) × (Nat → Int32)) = f_Mo_interval ar sc a0 a1 a2 := by rw [f_Mo_interval, if_pos c7, if_neg c23, if_neg c34, if_neg c46]
          exact W.vret hx hb hr (fun t ht hW => ⟨⟨((f_Mo_throwing ar sc 1 0 0).2.1, (f_Mo_throwing ar sc 1 0 0).2.2), rfl, hv, by dsimp only; rw [ht]; exact hP⟩, hS.F ht⟩) hS.2.2 d_Mo_interval_49
      · have h := h.1 c34
        refine lv_iconst (v := 1) hx hb d_Mo_interval_37 (by decide) ?_
        refine lv_goto (tgt := 42) hx hb d_Mo_interval_38 (by decide) ?_
        refine lv_iconst (v := 0) hx hb d_Mo_interval_42 (by decide) ?_
        refine r_Mo_throwing hF hK hP hL hS m_283 hl.1 ⟨Nat.le_of_ble_eq_true rfl, Nat.le_of_ble_eq_true rfl⟩ ⟨Nat.zero_le _, Nat.zero_le _⟩ (Nat.le_of_ble_eq_true rfl) d_Mo_interval_43 (fun H locs hP hS => ?_)
        refine lv_if_eq (tgt := 50) hx hb d_Mo_interval_46 (by decide) (fun c46 => ?_) (fun c46 => ?_)
        · have h := h.1 c46
          refine lv_aload_n hx hb d_Mo_interval_50 rfl (lv_at hl 0 rfl) ?_
          refine gf_Mo_interval hF hK hP m_225 d_Mo_interval_51 ?_
          refine lv_iload_n hx hb d_Mo_interval_54 rfl (lv_at hl 1 rfl) ?_
          refine lv_iload_n hx hb d_Mo_interval_55 rfl (lv_at hl 2 rfl) ?_
          have k56 := h.1
          have h := h.2
          refine asM_3 hF hK hP hL hS k56 d_Mo_interval_56 (fun H locs hP hS => ?_)
          refine lv_aload_n hx hb d_Mo_interval_57 rfl (lv_at hl 0 rfl) ?_
          refine gf_Mo_time hF hK hP m_291 d_Mo_interval_58 ?_
          refine lv_iload_n hx hb d_Mo_interval_61 rfl (lv_at hl 1 rfl) ?_
          refine lv_iload_n hx hb d_Mo_interval_62 rfl (lv_at hl 3 rfl) ?_
          have k63 := h
          refine asM_4 hF hK hP hL hS k63 d_Mo_interval_63 (fun H locs hP hS => ?_)
          have hv : ((s2 (s2 ((f_Mo_throwing ar sc 1 1 0).2.1) 3 a0.toNatClampNeg a1) 4 a0.toNatClampNeg a2, (f_Mo_throwing ar sc 1 1 0).2.2) : (Nat → Nat → Int32) × (Nat → Int32)) = f_Mo_interval ar sc a0 a1 a2 := by rw [f_Mo_interval, if_pos c7, if_neg c23, if_pos c34, if_pos c46]
          exact W.vret hx hb hr (fun t ht hW => ⟨⟨(s2 (s2 ((f_Mo_throwing ar sc 1 1 0).2.1) 3 a0.toNatClampNeg a1) 4 a0.toNatClampNeg a2, (f_Mo_throwing ar sc 1 1 0).2.2), rfl, hv, by dsimp only; rw [ht]; exact hP⟩, hS.F ht⟩) hS.2.2 d_Mo_interval_64
        · have h := h.2 c46
          have hv : (((f_Mo_throwing ar sc 1 1 0).2.1, (f_Mo_throwing ar sc 1 1 0).2.2) : (Nat → Nat → Int32) × (Nat → Int32)) = f_Mo_interval ar sc a0 a1 a2 := by rw [f_Mo_interval, if_pos c7, if_neg c23, if_pos c34, if_neg c46]
          exact W.vret hx hb hr (fun t ht hW => ⟨⟨((f_Mo_throwing ar sc 1 1 0).2.1, (f_Mo_throwing ar sc 1 1 0).2.2), rfl, hv, by dsimp only; rw [ht]; exact hP⟩, hS.F ht⟩) hS.2.2 d_Mo_interval_49
set_option maxHeartbeats 1000000 in
theorem r_Mo_interval {p : Program} {l : Launch} {e : Env} {R : Room} {s : State} {m : MethodId} {args : Array Value} {below : List Frame} {meth : Method} {c : Code} {H : Heap} {locs : List Loc} {cells slots : Nat} {Q : State → Prop} {cc : ByteArray} {nL pc idx : Nat} {ls : Array Slot} {rest : List Value} {own : String} {dC : Nat → ClassId} {dI : Nat → Nat → Nat} {L : Nat → Nat} {cA : Nat → ClassId} {ar : Nat → Nat → Int32} {sc : Nat → Int32} {H0 : Heap} {a0 : Int32} {a1 : Int32} {a2 : Int32} (hF : CallFix p m c cc nL s args w_all own) (hK : kW_M dC dI cA s) (hP : va_P (dC, dI) classes (wM L cA ar sc) H) (hL : ij 25 L) (hS : va_S (aM L) H0 H locs) (h : p_Mo_interval ar sc a0 a1 a2) (hlk : Cond.methodLink own idx y_Mo_interval ∈ w_all) (hsz : ls.size = nL) (hR : (rmD 5).frames + 1 ≤ R.frames ∧ 8 + (4 + 11) + (rmD 5).locals ≤ R.locals) (hc : cells ≤ R.cells ∧ slots ≤ R.slots) (hrs : (rest.map fun v => v.category).sum ≤ 8) (hdg : decode cc pc = .ok (.invokevirtual idx, 3)) (kk : ∀ (H1 : Heap) (locs1 : List Loc), va_P (dC, dI) classes (wM L cA ((f_Mo_interval ar sc a0 a1 a2).1) ((f_Mo_interval ar sc a0 a1 a2).2)) H1 → va_S (aM L) H0 H1 locs1 → W p l e R s m args below meth c H1 locs1 cells slots Q (F0 m (pc + 3) ls (rest))) : W p l e R s m args below meth c H locs cells slots Q (F0 m pc ls (.int a2 :: .int a1 :: .int a0 :: .ref (L 0) :: rest)) :=
  va_callv (va_runV (As := [.int a0, .int a1, .int a2]) (rest := rest) hF (c_Mo_interval l dC dI L cA ar sc a0 a1 a2 hL h) (cwV 3 hF.2.2.2.2 (gV hlk m_292 m_293 m_187 m_294) rfl rfl rfl (by decide +kernel) hR) ⟨xb_M, va_recv hK.1 hP (ci := 7) (q0 := 0) rfl rfl, fun U hU hW => ⟨rfl, by rw [hU]; exact hP, kW_M_warm hW hK⟩⟩ rfl rfl hsz rfl (lv_room hrs) hdg hc) hS (fun q _ h9 => h9) (fun q h9 => h9) (fun u t H1 locs1 ht hvm hw hB hz1 hk1 hS1 => by
    have hk9 := kk H1 locs1 (by rw [← hw, ← ht]; exact hB) hS1
    exact hk9)
theorem d_Mo_point_0 : decode b_Mo_point 0 = .ok (.iload_n 2, 1) := by decide +kernel
theorem d_Mo_point_1 : decode b_Mo_point 1 = .ok (.iconst 0, 1) := by decide +kernel
theorem d_Mo_point_2 : decode b_Mo_point 2 = .ok (.sipush 3000, 3) := by decide +kernel
theorem d_Mo_point_5 : decode b_Mo_point 5 = .ok (.invokestatic 100, 3) := by decide +kernel
theorem d_Mo_point_8 : decode b_Mo_point 8 = .ok (.ifCond .eq 41, 3) := by decide +kernel
theorem d_Mo_point_11 : decode b_Mo_point 11 = .ok (.iload_n 3, 1) := by decide +kernel
theorem d_Mo_point_12 : decode b_Mo_point 12 = .ok (.iconst 0, 1) := by decide +kernel
theorem d_Mo_point_13 : decode b_Mo_point 13 = .ok (.ldc 108, 2) := by decide +kernel
theorem d_Mo_point_15 : decode b_Mo_point 15 = .ok (.invokestatic 100, 3) := by decide +kernel
theorem d_Mo_point_18 : decode b_Mo_point 18 = .ok (.ifCond .eq 31, 3) := by decide +kernel
theorem d_Mo_point_21 : decode b_Mo_point 21 = .ok (.iload 4, 2) := by decide +kernel
theorem d_Mo_point_23 : decode b_Mo_point 23 = .ok (.sipush (-10000), 3) := by decide +kernel
theorem d_Mo_point_26 : decode b_Mo_point 26 = .ok (.sipush 10000, 3) := by decide +kernel
theorem d_Mo_point_29 : decode b_Mo_point 29 = .ok (.invokestatic 100, 3) := by decide +kernel
theorem d_Mo_point_32 : decode b_Mo_point 32 = .ok (.ifCond .eq 17, 3) := by decide +kernel
theorem d_Mo_point_35 : decode b_Mo_point 35 = .ok (.iload 5, 2) := by decide +kernel
theorem d_Mo_point_37 : decode b_Mo_point 37 = .ok (.sipush (-10000), 3) := by decide +kernel
theorem d_Mo_point_40 : decode b_Mo_point 40 = .ok (.sipush 10000, 3) := by decide +kernel
theorem d_Mo_point_43 : decode b_Mo_point 43 = .ok (.invokestatic 100, 3) := by decide +kernel
theorem d_Mo_point_46 : decode b_Mo_point 46 = .ok (.ifCond .ne 7, 3) := by decide +kernel
theorem d_Mo_point_49 : decode b_Mo_point 49 = .ok (.iconst 1, 1) := by decide +kernel
theorem d_Mo_point_50 : decode b_Mo_point 50 = .ok (.goto 4, 3) := by decide +kernel
theorem d_Mo_point_53 : decode b_Mo_point 53 = .ok (.iconst 0, 1) := by decide +kernel
theorem d_Mo_point_54 : decode b_Mo_point 54 = .ok (.istore 6, 2) := by decide +kernel
theorem d_Mo_point_56 : decode b_Mo_point 56 = .ok (.aload_n 0, 1) := by decide +kernel
theorem d_Mo_point_57 : decode b_Mo_point 57 = .ok (.iload_n 1, 1) := by decide +kernel
theorem d_Mo_point_58 : decode b_Mo_point 58 = .ok (.iconst 0, 1) := by decide +kernel
theorem d_Mo_point_59 : decode b_Mo_point 59 = .ok (.iconst 4, 1) := by decide +kernel
theorem d_Mo_point_60 : decode b_Mo_point 60 = .ok (.invokestatic 100, 3) := by decide +kernel
theorem d_Mo_point_63 : decode b_Mo_point 63 = .ok (.ifCond .ne 7, 3) := by decide +kernel
theorem d_Mo_point_66 : decode b_Mo_point 66 = .ok (.iconst 1, 1) := by decide +kernel
theorem d_Mo_point_67 : decode b_Mo_point 67 = .ok (.goto 4, 3) := by decide +kernel
theorem d_Mo_point_70 : decode b_Mo_point 70 = .ok (.iconst 0, 1) := by decide +kernel
theorem d_Mo_point_71 : decode b_Mo_point 71 = .ok (.iload 6, 2) := by decide +kernel
theorem d_Mo_point_73 : decode b_Mo_point 73 = .ok (.aload_n 0, 1) := by decide +kernel
theorem d_Mo_point_74 : decode b_Mo_point 74 = .ok (.getfield 97, 3) := by decide +kernel
theorem d_Mo_point_77 : decode b_Mo_point 77 = .ok (.bipush 30, 2) := by decide +kernel
theorem d_Mo_point_79 : decode b_Mo_point 79 = .ok (.if_icmp .ne 7, 3) := by decide +kernel
theorem d_Mo_point_82 : decode b_Mo_point 82 = .ok (.iconst 1, 1) := by decide +kernel
theorem d_Mo_point_83 : decode b_Mo_point 83 = .ok (.goto 4, 3) := by decide +kernel
theorem d_Mo_point_86 : decode b_Mo_point 86 = .ok (.iconst 0, 1) := by decide +kernel
theorem d_Mo_point_87 : decode b_Mo_point 87 = .ok (.invokevirtual 104, 3) := by decide +kernel
theorem d_Mo_point_90 : decode b_Mo_point 90 = .ok (.ifCond .eq 5, 3) := by decide +kernel
theorem d_Mo_point_93 : decode b_Mo_point 93 = .ok (.iconst 0, 1) := by decide +kernel
theorem d_Mo_point_94 : decode b_Mo_point 94 = .ok (.ireturn, 1) := by decide +kernel
theorem d_Mo_point_95 : decode b_Mo_point 95 = .ok (.aload_n 0, 1) := by decide +kernel
theorem d_Mo_point_96 : decode b_Mo_point 96 = .ok (.getfield 22, 3) := by decide +kernel
theorem d_Mo_point_99 : decode b_Mo_point 99 = .ok (.aload_n 0, 1) := by decide +kernel
theorem d_Mo_point_100 : decode b_Mo_point 100 = .ok (.getfield 97, 3) := by decide +kernel
theorem d_Mo_point_103 : decode b_Mo_point 103 = .ok (.iload_n 1, 1) := by decide +kernel
theorem d_Mo_point_104 : decode b_Mo_point 104 = .ok (.iastore, 1) := by decide +kernel
theorem d_Mo_point_105 : decode b_Mo_point 105 = .ok (.aload_n 0, 1) := by decide +kernel
theorem d_Mo_point_106 : decode b_Mo_point 106 = .ok (.getfield 25, 3) := by decide +kernel
theorem d_Mo_point_109 : decode b_Mo_point 109 = .ok (.aload_n 0, 1) := by decide +kernel
theorem d_Mo_point_110 : decode b_Mo_point 110 = .ok (.getfield 97, 3) := by decide +kernel
theorem d_Mo_point_113 : decode b_Mo_point 113 = .ok (.iload_n 2, 1) := by decide +kernel
theorem d_Mo_point_114 : decode b_Mo_point 114 = .ok (.iastore, 1) := by decide +kernel
theorem d_Mo_point_115 : decode b_Mo_point 115 = .ok (.aload_n 0, 1) := by decide +kernel
theorem d_Mo_point_116 : decode b_Mo_point 116 = .ok (.getfield 28, 3) := by decide +kernel
theorem d_Mo_point_119 : decode b_Mo_point 119 = .ok (.aload_n 0, 1) := by decide +kernel
theorem d_Mo_point_120 : decode b_Mo_point 120 = .ok (.getfield 97, 3) := by decide +kernel
theorem d_Mo_point_123 : decode b_Mo_point 123 = .ok (.iload_n 3, 1) := by decide +kernel
theorem d_Mo_point_124 : decode b_Mo_point 124 = .ok (.iastore, 1) := by decide +kernel
theorem d_Mo_point_125 : decode b_Mo_point 125 = .ok (.aload_n 0, 1) := by decide +kernel
theorem d_Mo_point_126 : decode b_Mo_point 126 = .ok (.getfield 31, 3) := by decide +kernel
theorem d_Mo_point_129 : decode b_Mo_point 129 = .ok (.aload_n 0, 1) := by decide +kernel
theorem d_Mo_point_130 : decode b_Mo_point 130 = .ok (.getfield 97, 3) := by decide +kernel
theorem d_Mo_point_133 : decode b_Mo_point 133 = .ok (.iload 4, 2) := by decide +kernel
theorem d_Mo_point_135 : decode b_Mo_point 135 = .ok (.iastore, 1) := by decide +kernel
theorem d_Mo_point_136 : decode b_Mo_point 136 = .ok (.aload_n 0, 1) := by decide +kernel
theorem d_Mo_point_137 : decode b_Mo_point 137 = .ok (.getfield 34, 3) := by decide +kernel
theorem d_Mo_point_140 : decode b_Mo_point 140 = .ok (.aload_n 0, 1) := by decide +kernel
theorem d_Mo_point_141 : decode b_Mo_point 141 = .ok (.getfield 97, 3) := by decide +kernel
theorem d_Mo_point_144 : decode b_Mo_point 144 = .ok (.iload 5, 2) := by decide +kernel
theorem d_Mo_point_146 : decode b_Mo_point 146 = .ok (.iastore, 1) := by decide +kernel
theorem d_Mo_point_147 : decode b_Mo_point 147 = .ok (.aload_n 0, 1) := by decide +kernel
theorem d_Mo_point_148 : decode b_Mo_point 148 = .ok (.getfield 37, 3) := by decide +kernel
theorem d_Mo_point_151 : decode b_Mo_point 151 = .ok (.aload_n 0, 1) := by decide +kernel
theorem d_Mo_point_152 : decode b_Mo_point 152 = .ok (.getfield 97, 3) := by decide +kernel
theorem d_Mo_point_155 : decode b_Mo_point 155 = .ok (.iconst (-1), 1) := by decide +kernel
theorem d_Mo_point_156 : decode b_Mo_point 156 = .ok (.iastore, 1) := by decide +kernel
theorem d_Mo_point_157 : decode b_Mo_point 157 = .ok (.aload_n 0, 1) := by decide +kernel
theorem d_Mo_point_158 : decode b_Mo_point 158 = .ok (.dup, 1) := by decide +kernel
theorem d_Mo_point_159 : decode b_Mo_point 159 = .ok (.getfield 97, 3) := by decide +kernel
theorem d_Mo_point_162 : decode b_Mo_point 162 = .ok (.iconst 1, 1) := by decide +kernel
theorem d_Mo_point_163 : decode b_Mo_point 163 = .ok (.iadd, 1) := by decide +kernel
theorem d_Mo_point_164 : decode b_Mo_point 164 = .ok (.putfield 97, 3) := by decide +kernel
theorem d_Mo_point_167 : decode b_Mo_point 167 = .ok (.aload_n 0, 1) := by decide +kernel
theorem d_Mo_point_168 : decode b_Mo_point 168 = .ok (.getfield 97, 3) := by decide +kernel
theorem d_Mo_point_171 : decode b_Mo_point 171 = .ok (.iconst 1, 1) := by decide +kernel
theorem d_Mo_point_172 : decode b_Mo_point 172 = .ok (.isub, 1) := by decide +kernel
theorem d_Mo_point_173 : decode b_Mo_point 173 = .ok (.ireturn, 1) := by decide +kernel
set_option maxHeartbeats 4000000 in
set_option maxRecDepth 100000 in
theorem c_Mo_point (l : Launch) (dC : Nat → ClassId) (dI : Nat → Nat → Nat) (L : Nat → Nat) (cA : Nat → ClassId) (ar : Nat → Nat → Int32) (sc : Nat → Int32) (a0 : Int32) (a1 : Int32) (a2 : Int32) (a3 : Int32) (a4 : Int32) (hL : ij 25 L) (h : p_Mo_point ar sc a0 a1 a2 a3 a4) : Met l y_Mo_point z_Mo_point (rmD 5) (va_Pc [.ref (L 0), .int a0, .int a1, .int a2, .int a3, .int a4] (fun U => xw_M dC dI L cA ar sc U)) (va_Qi (fun (r : Int32) (u : oS) => (r, u.1, u.2) = f_Mo_point ar sc a0 a1 a2 a3 a4) (fun u t => va_P (dC, dI) classes (wM L cA u.1 u.2) t.heap) (aM L)) 0 0 (aM L) := by
  refine Met.ofW (cc := b_Mo_point) (maxL := 7) (ret := (some .int)) (by decide) rfl ?_
  intro p e s m args below meth c s₁ B hml hv
  obtain ⟨rfl, ⟨hP, hK⟩⟩ := hv
  have hx := B.exec
  have hb := B.bytes
  have hr := B.returns
  have hts : ∀ w ∈ w_all, w.before _ s = true := fun w hw => atoms_spec (ws := z_Mo_point) B.pre w (List.mem_cons_of_mem _ hw)
  have hown : s.vm.findClass R_Mo = some m.cls := findClass_of_methodNamed B.named
  have hlocks := B.notSynchronized
  have hF : CallFix p m c b_Mo_point 7 s _ w_all R_Mo := ⟨hx, hb, hml, hown, hts⟩
  have hS : va_S (aM L) s.heap s.heap [] := va_S.rf
  have hl := lv_entry ([.ref (L 0), .int a0, .int a1, .int a2, .int a3, .int a4]) (n := 7) (Nat.le_of_ble_eq_true rfl)
  rw [lg_entry_eq]
  generalize (lg_sl ([.ref (L 0), .int a0, .int a1, .int a2, .int a3, .int a4]) ++ List.replicate (7 - (lg_sl ([.ref (L 0), .int a0, .int a1, .int a2, .int a3, .int a4])).length) Slot.unset).toArray = ls at hl ⊢
  have hl : lv_has ls 7 [(0, .ref (L 0)), (1, .int a0), (2, .int a1), (3, .int a2), (4, .int a3), (5, .int a4)] := hl
  unfold p_Mo_point at h
  refine lv_iload_n hx hb d_Mo_point_0 rfl (lv_at hl 2 rfl) ?_
  refine lv_iconst (v := 0) hx hb d_Mo_point_1 (by decide) ?_
  refine lv_sipush (v := 3000) hx hb d_Mo_point_2 (by decide) ?_
  refine r_Mo_in hF m_195 hl.1 ⟨Nat.le_of_ble_eq_true rfl, Nat.le_of_ble_eq_true rfl⟩ ⟨Nat.zero_le _, Nat.zero_le _⟩ (Nat.le_of_ble_eq_true rfl) d_Mo_point_5 ?_
  refine lv_if_eq (tgt := 49) hx hb d_Mo_point_8 (by decide) (fun c8 => ?_) (fun c8 => ?_)
  · have h := h.1 c8
    refine lv_iconst (v := 1) hx hb d_Mo_point_49 (by decide) ?_
    refine lv_goto (tgt := 54) hx hb d_Mo_point_50 (by decide) ?_
    refine lv_istore (lv' := [(6, .int 1), (0, .ref (L 0)), (1, .int a0), (2, .int a1), (3, .int a2), (4, .int a3), (5, .int a4)]) hx hb d_Mo_point_54 hl (by decide) rfl (fun ls hl => ?_)
    refine lv_aload_n hx hb d_Mo_point_56 rfl (lv_at hl 1 rfl) ?_
    refine lv_iload_n hx hb d_Mo_point_57 rfl (lv_at hl 2 rfl) ?_
    refine lv_iconst (v := 0) hx hb d_Mo_point_58 (by decide) ?_
    refine lv_iconst (v := 4) hx hb d_Mo_point_59 (by decide) ?_
    refine r_Mo_in hF m_195 hl.1 ⟨Nat.le_of_ble_eq_true rfl, Nat.le_of_ble_eq_true rfl⟩ ⟨Nat.zero_le _, Nat.zero_le _⟩ (Nat.le_of_ble_eq_true rfl) d_Mo_point_60 ?_
    refine lv_if_ne (tgt := 70) hx hb d_Mo_point_63 (by decide) (fun c63 => ?_) (fun c63 => ?_)
    · have h := h.2 c63
      refine lv_iconst (v := 0) hx hb d_Mo_point_70 (by decide) ?_
      refine lv_iload hx hb d_Mo_point_71 (lv_at hl 0 rfl) ?_
      refine lv_aload_n hx hb d_Mo_point_73 rfl (lv_at hl 1 rfl) ?_
      refine gf_Mo_points hF hK hP m_194 d_Mo_point_74 ?_
      refine lv_bipush (v := 30) hx hb d_Mo_point_77 (by decide) ?_
      refine lv_icmp_ne (tgt := 86) hx hb d_Mo_point_79 (by decide) (fun c79 => ?_) (fun c79 => ?_)
      · have h := h.2 c79
        refine lv_iconst (v := 0) hx hb d_Mo_point_86 (by decide) ?_
        refine r_Mo_throwing hF hK hP hL hS m_283 hl.1 ⟨Nat.le_of_ble_eq_true rfl, Nat.le_of_ble_eq_true rfl⟩ ⟨Nat.zero_le _, Nat.zero_le _⟩ (Nat.le_of_ble_eq_true rfl) d_Mo_point_87 (fun H locs hP hS => ?_)
        refine lv_if_eq (tgt := 95) hx hb d_Mo_point_90 (by decide) (fun c90 => ?_) (fun c90 => ?_)
        · have h := h.1 c90
          refine lv_aload_n hx hb d_Mo_point_95 rfl (lv_at hl 1 rfl) ?_
          refine gf_Mo_kind hF hK hP m_210 d_Mo_point_96 ?_
          refine lv_aload_n hx hb d_Mo_point_99 rfl (lv_at hl 1 rfl) ?_
          refine gf_Mo_points hF hK hP m_194 d_Mo_point_100 ?_
          refine lv_iload_n hx hb d_Mo_point_103 rfl (lv_at hl 2 rfl) ?_
          have k104 := h.1
          have h := h.2
          refine asM_5 hF hK hP hL hS k104 d_Mo_point_104 (fun H locs hP hS => ?_)
          refine lv_aload_n hx hb d_Mo_point_105 rfl (lv_at hl 1 rfl) ?_
          refine gf_Mo_height hF hK hP m_211 d_Mo_point_106 ?_
          refine lv_aload_n hx hb d_Mo_point_109 rfl (lv_at hl 1 rfl) ?_
          refine gf_Mo_points hF hK hP m_194 d_Mo_point_110 ?_
          refine lv_iload_n hx hb d_Mo_point_113 rfl (lv_at hl 3 rfl) ?_
          have k114 := h.1
          have h := h.2
          refine asM_6 hF hK hP hL hS k114 d_Mo_point_114 (fun H locs hP hS => ?_)
          refine lv_aload_n hx hb d_Mo_point_115 rfl (lv_at hl 1 rfl) ?_
          refine gf_Mo_people hF hK hP m_212 d_Mo_point_116 ?_
          refine lv_aload_n hx hb d_Mo_point_119 rfl (lv_at hl 1 rfl) ?_
          refine gf_Mo_points hF hK hP m_194 d_Mo_point_120 ?_
          refine lv_iload_n hx hb d_Mo_point_123 rfl (lv_at hl 4 rfl) ?_
          have k124 := h.1
          have h := h.2
          refine asM_7 hF hK hP hL hS k124 d_Mo_point_124 (fun H locs hP hS => ?_)
          refine lv_aload_n hx hb d_Mo_point_125 rfl (lv_at hl 1 rfl) ?_
          refine gf_Mo_px hF hK hP m_243 d_Mo_point_126 ?_
          refine lv_aload_n hx hb d_Mo_point_129 rfl (lv_at hl 1 rfl) ?_
          refine gf_Mo_points hF hK hP m_194 d_Mo_point_130 ?_
          refine lv_iload hx hb d_Mo_point_133 (lv_at hl 5 rfl) ?_
          have k135 := h.1
          have h := h.2
          refine asM_8 hF hK hP hL hS k135 d_Mo_point_135 (fun H locs hP hS => ?_)
          refine lv_aload_n hx hb d_Mo_point_136 rfl (lv_at hl 1 rfl) ?_
          refine gf_Mo_py hF hK hP m_245 d_Mo_point_137 ?_
          refine lv_aload_n hx hb d_Mo_point_140 rfl (lv_at hl 1 rfl) ?_
          refine gf_Mo_points hF hK hP m_194 d_Mo_point_141 ?_
          refine lv_iload hx hb d_Mo_point_144 (lv_at hl 6 rfl) ?_
          have k146 := h.1
          have h := h.2
          refine asM_9 hF hK hP hL hS k146 d_Mo_point_146 (fun H locs hP hS => ?_)
          refine lv_aload_n hx hb d_Mo_point_147 rfl (lv_at hl 1 rfl) ?_
          refine gf_Mo_visited hF hK hP m_224 d_Mo_point_148 ?_
          refine lv_aload_n hx hb d_Mo_point_151 rfl (lv_at hl 1 rfl) ?_
          refine gf_Mo_points hF hK hP m_194 d_Mo_point_152 ?_
          refine lv_iconst (v := (-1)) hx hb d_Mo_point_155 (by decide) ?_
          have k156 := h
          refine asM_10 hF hK hP hL hS k156 d_Mo_point_156 (fun H locs hP hS => ?_)
          refine lv_aload_n hx hb d_Mo_point_157 rfl (lv_at hl 1 rfl) ?_
          refine lv_dup hx hb d_Mo_point_158 rfl ?_
          refine gf_Mo_points hF hK hP m_194 d_Mo_point_159 ?_
          refine lv_iconst (v := 1) hx hb d_Mo_point_162 (by decide) ?_
          refine lv_iadd hx hb d_Mo_point_163 ?_
          refine pf_Mo_points hF hK hP hL hS m_194 d_Mo_point_164 (fun H locs hP hS => ?_)
          refine lv_aload_n hx hb d_Mo_point_167 rfl (lv_at hl 1 rfl) ?_
          refine gf_Mo_points hF hK hP m_194 d_Mo_point_168 ?_
          refine lv_iconst (v := 1) hx hb d_Mo_point_171 (by decide) ?_
          refine lv_isub hx hb d_Mo_point_172 ?_
          have hv : ((((sg ((f_Mo_throwing ar sc 0 1 0).2.2) 2 ((((f_Mo_throwing ar sc 0 1 0).2.2) 2) + 1)) 2) - 1, s2 (s2 (s2 (s2 (s2 (s2 ((f_Mo_throwing ar sc 0 1 0).2.1) 5 ((((f_Mo_throwing ar sc 0 1 0).2.2) 2).toNatClampNeg) a0) 6 ((((f_Mo_throwing ar sc 0 1 0).2.2) 2).toNatClampNeg) a1) 7 ((((f_Mo_throwing ar sc 0 1 0).2.2) 2).toNatClampNeg) a2) 8 ((((f_Mo_throwing ar sc 0 1 0).2.2) 2).toNatClampNeg) a3) 9 ((((f_Mo_throwing ar sc 0 1 0).2.2) 2).toNatClampNeg) a4) 10 ((((f_Mo_throwing ar sc 0 1 0).2.2) 2).toNatClampNeg) (-1), sg ((f_Mo_throwing ar sc 0 1 0).2.2) 2 ((((f_Mo_throwing ar sc 0 1 0).2.2) 2) + 1)) : Int32 × (Nat → Nat → Int32) × (Nat → Int32)) = f_Mo_point ar sc a0 a1 a2 a3 a4 := by rw [f_Mo_point, if_pos c8, if_neg c63, if_neg c79, if_pos c90]
          exact W.iret (v := ((sg ((f_Mo_throwing ar sc 0 1 0).2.2) 2 ((((f_Mo_throwing ar sc 0 1 0).2.2) 2) + 1)) 2) - 1) hx hb hr (fun t ht hW => ⟨⟨((sg ((f_Mo_throwing ar sc 0 1 0).2.2) 2 ((((f_Mo_throwing ar sc 0 1 0).2.2) 2) + 1)) 2) - 1, (s2 (s2 (s2 (s2 (s2 (s2 ((f_Mo_throwing ar sc 0 1 0).2.1) 5 ((((f_Mo_throwing ar sc 0 1 0).2.2) 2).toNatClampNeg) a0) 6 ((((f_Mo_throwing ar sc 0 1 0).2.2) 2).toNatClampNeg) a1) 7 ((((f_Mo_throwing ar sc 0 1 0).2.2) 2).toNatClampNeg) a2) 8 ((((f_Mo_throwing ar sc 0 1 0).2.2) 2).toNatClampNeg) a3) 9 ((((f_Mo_throwing ar sc 0 1 0).2.2) 2).toNatClampNeg) a4) 10 ((((f_Mo_throwing ar sc 0 1 0).2.2) 2).toNatClampNeg) (-1), sg ((f_Mo_throwing ar sc 0 1 0).2.2) 2 ((((f_Mo_throwing ar sc 0 1 0).2.2) 2) + 1)), rfl, hv, by dsimp only; rw [ht]; exact hP⟩, hS.F ht⟩) hS.2.2 d_Mo_point_173
        · have h := h.2 c90
          refine lv_iconst (v := 0) hx hb d_Mo_point_93 (by decide) ?_
          have hv : ((0, (f_Mo_throwing ar sc 0 1 0).2.1, (f_Mo_throwing ar sc 0 1 0).2.2) : Int32 × (Nat → Nat → Int32) × (Nat → Int32)) = f_Mo_point ar sc a0 a1 a2 a3 a4 := by rw [f_Mo_point, if_pos c8, if_neg c63, if_neg c79, if_neg c90]
          exact W.iret (v := 0) hx hb hr (fun t ht hW => ⟨⟨0, ((f_Mo_throwing ar sc 0 1 0).2.1, (f_Mo_throwing ar sc 0 1 0).2.2), rfl, hv, by dsimp only; rw [ht]; exact hP⟩, hS.F ht⟩) hS.2.2 d_Mo_point_94
      · have h := h.1 c79
        refine lv_iconst (v := 1) hx hb d_Mo_point_82 (by decide) ?_
        refine lv_goto (tgt := 87) hx hb d_Mo_point_83 (by decide) ?_
        refine r_Mo_throwing hF hK hP hL hS m_283 hl.1 ⟨Nat.le_of_ble_eq_true rfl, Nat.le_of_ble_eq_true rfl⟩ ⟨Nat.zero_le _, Nat.zero_le _⟩ (Nat.le_of_ble_eq_true rfl) d_Mo_point_87 (fun H locs hP hS => ?_)
        refine lv_if_eq (tgt := 95) hx hb d_Mo_point_90 (by decide) (fun c90 => ?_) (fun c90 => ?_)
        · have h := h.1 c90
          refine lv_aload_n hx hb d_Mo_point_95 rfl (lv_at hl 1 rfl) ?_
          refine gf_Mo_kind hF hK hP m_210 d_Mo_point_96 ?_
          refine lv_aload_n hx hb d_Mo_point_99 rfl (lv_at hl 1 rfl) ?_
          refine gf_Mo_points hF hK hP m_194 d_Mo_point_100 ?_
          refine lv_iload_n hx hb d_Mo_point_103 rfl (lv_at hl 2 rfl) ?_
          have k104 := h.1
          have h := h.2
          refine asM_5 hF hK hP hL hS k104 d_Mo_point_104 (fun H locs hP hS => ?_)
          refine lv_aload_n hx hb d_Mo_point_105 rfl (lv_at hl 1 rfl) ?_
          refine gf_Mo_height hF hK hP m_211 d_Mo_point_106 ?_
          refine lv_aload_n hx hb d_Mo_point_109 rfl (lv_at hl 1 rfl) ?_
          refine gf_Mo_points hF hK hP m_194 d_Mo_point_110 ?_
          refine lv_iload_n hx hb d_Mo_point_113 rfl (lv_at hl 3 rfl) ?_
          have k114 := h.1
          have h := h.2
          refine asM_6 hF hK hP hL hS k114 d_Mo_point_114 (fun H locs hP hS => ?_)
          refine lv_aload_n hx hb d_Mo_point_115 rfl (lv_at hl 1 rfl) ?_
          refine gf_Mo_people hF hK hP m_212 d_Mo_point_116 ?_
          refine lv_aload_n hx hb d_Mo_point_119 rfl (lv_at hl 1 rfl) ?_
          refine gf_Mo_points hF hK hP m_194 d_Mo_point_120 ?_
          refine lv_iload_n hx hb d_Mo_point_123 rfl (lv_at hl 4 rfl) ?_
          have k124 := h.1
          have h := h.2
          refine asM_7 hF hK hP hL hS k124 d_Mo_point_124 (fun H locs hP hS => ?_)
          refine lv_aload_n hx hb d_Mo_point_125 rfl (lv_at hl 1 rfl) ?_
          refine gf_Mo_px hF hK hP m_243 d_Mo_point_126 ?_
          refine lv_aload_n hx hb d_Mo_point_129 rfl (lv_at hl 1 rfl) ?_
          refine gf_Mo_points hF hK hP m_194 d_Mo_point_130 ?_
          refine lv_iload hx hb d_Mo_point_133 (lv_at hl 5 rfl) ?_
          have k135 := h.1
          have h := h.2
          refine asM_8 hF hK hP hL hS k135 d_Mo_point_135 (fun H locs hP hS => ?_)
          refine lv_aload_n hx hb d_Mo_point_136 rfl (lv_at hl 1 rfl) ?_
          refine gf_Mo_py hF hK hP m_245 d_Mo_point_137 ?_
          refine lv_aload_n hx hb d_Mo_point_140 rfl (lv_at hl 1 rfl) ?_
          refine gf_Mo_points hF hK hP m_194 d_Mo_point_141 ?_
          refine lv_iload hx hb d_Mo_point_144 (lv_at hl 6 rfl) ?_
          have k146 := h.1
          have h := h.2
          refine asM_9 hF hK hP hL hS k146 d_Mo_point_146 (fun H locs hP hS => ?_)
          refine lv_aload_n hx hb d_Mo_point_147 rfl (lv_at hl 1 rfl) ?_
          refine gf_Mo_visited hF hK hP m_224 d_Mo_point_148 ?_
          refine lv_aload_n hx hb d_Mo_point_151 rfl (lv_at hl 1 rfl) ?_
          refine gf_Mo_points hF hK hP m_194 d_Mo_point_152 ?_
          refine lv_iconst (v := (-1)) hx hb d_Mo_point_155 (by decide) ?_
          have k156 := h
          refine asM_10 hF hK hP hL hS k156 d_Mo_point_156 (fun H locs hP hS => ?_)
          refine lv_aload_n hx hb d_Mo_point_157 rfl (lv_at hl 1 rfl) ?_
          refine lv_dup hx hb d_Mo_point_158 rfl ?_
          refine gf_Mo_points hF hK hP m_194 d_Mo_point_159 ?_
          refine lv_iconst (v := 1) hx hb d_Mo_point_162 (by decide) ?_
          refine lv_iadd hx hb d_Mo_point_163 ?_
          refine pf_Mo_points hF hK hP hL hS m_194 d_Mo_point_164 (fun H locs hP hS => ?_)
          refine lv_aload_n hx hb d_Mo_point_167 rfl (lv_at hl 1 rfl) ?_
          refine gf_Mo_points hF hK hP m_194 d_Mo_point_168 ?_
          refine lv_iconst (v := 1) hx hb d_Mo_point_171 (by decide) ?_
          refine lv_isub hx hb d_Mo_point_172 ?_
          have hv : ((((sg ((f_Mo_throwing ar sc 0 1 1).2.2) 2 ((((f_Mo_throwing ar sc 0 1 1).2.2) 2) + 1)) 2) - 1, s2 (s2 (s2 (s2 (s2 (s2 ((f_Mo_throwing ar sc 0 1 1).2.1) 5 ((((f_Mo_throwing ar sc 0 1 1).2.2) 2).toNatClampNeg) a0) 6 ((((f_Mo_throwing ar sc 0 1 1).2.2) 2).toNatClampNeg) a1) 7 ((((f_Mo_throwing ar sc 0 1 1).2.2) 2).toNatClampNeg) a2) 8 ((((f_Mo_throwing ar sc 0 1 1).2.2) 2).toNatClampNeg) a3) 9 ((((f_Mo_throwing ar sc 0 1 1).2.2) 2).toNatClampNeg) a4) 10 ((((f_Mo_throwing ar sc 0 1 1).2.2) 2).toNatClampNeg) (-1), sg ((f_Mo_throwing ar sc 0 1 1).2.2) 2 ((((f_Mo_throwing ar sc 0 1 1).2.2) 2) + 1)) : Int32 × (Nat → Nat → Int32) × (Nat → Int32)) = f_Mo_point ar sc a0 a1 a2 a3 a4 := by rw [f_Mo_point, if_pos c8, if_neg c63, if_pos c79, if_pos c90]
          exact W.iret (v := ((sg ((f_Mo_throwing ar sc 0 1 1).2.2) 2 ((((f_Mo_throwing ar sc 0 1 1).2.2) 2) + 1)) 2) - 1) hx hb hr (fun t ht hW => ⟨⟨((sg ((f_Mo_throwing ar sc 0 1 1).2.2) 2 ((((f_Mo_throwing ar sc 0 1 1).2.2) 2) + 1)) 2) - 1, (s2 (s2 (s2 (s2 (s2 (s2 ((f_Mo_throwing ar sc 0 1 1).2.1) 5 ((((f_Mo_throwing ar sc 0 1 1).2.2) 2).toNatClampNeg) a0) 6 ((((f_Mo_throwing ar sc 0 1 1).2.2) 2).toNatClampNeg) a1) 7 ((((f_Mo_throwing ar sc 0 1 1).2.2) 2).toNatClampNeg) a2) 8 ((((f_Mo_throwing ar sc 0 1 1).2.2) 2).toNatClampNeg) a3) 9 ((((f_Mo_throwing ar sc 0 1 1).2.2) 2).toNatClampNeg) a4) 10 ((((f_Mo_throwing ar sc 0 1 1).2.2) 2).toNatClampNeg) (-1), sg ((f_Mo_throwing ar sc 0 1 1).2.2) 2 ((((f_Mo_throwing ar sc 0 1 1).2.2) 2) + 1)), rfl, hv, by dsimp only; rw [ht]; exact hP⟩, hS.F ht⟩) hS.2.2 d_Mo_point_173
        · have h := h.2 c90
          refine lv_iconst (v := 0) hx hb d_Mo_point_93 (by decide) ?_
          have hv : ((0, (f_Mo_throwing ar sc 0 1 1).2.1, (f_Mo_throwing ar sc 0 1 1).2.2) : Int32 × (Nat → Nat → Int32) × (Nat → Int32)) = f_Mo_point ar sc a0 a1 a2 a3 a4 := by rw [f_Mo_point, if_pos c8, if_neg c63, if_pos c79, if_neg c90]
          exact W.iret (v := 0) hx hb hr (fun t ht hW => ⟨⟨0, ((f_Mo_throwing ar sc 0 1 1).2.1, (f_Mo_throwing ar sc 0 1 1).2.2), rfl, hv, by dsimp only; rw [ht]; exact hP⟩, hS.F ht⟩) hS.2.2 d_Mo_point_94
    · have h := h.1 c63
      refine lv_iconst (v := 1) hx hb d_Mo_point_66 (by decide) ?_
      refine lv_goto (tgt := 71) hx hb d_Mo_point_67 (by decide) ?_
      refine lv_iload hx hb d_Mo_point_71 (lv_at hl 0 rfl) ?_
      refine lv_aload_n hx hb d_Mo_point_73 rfl (lv_at hl 1 rfl) ?_
      refine gf_Mo_points hF hK hP m_194 d_Mo_point_74 ?_
      refine lv_bipush (v := 30) hx hb d_Mo_point_77 (by decide) ?_
      refine lv_icmp_ne (tgt := 86) hx hb d_Mo_point_79 (by decide) (fun c79 => ?_) (fun c79 => ?_)
      · have h := h.2 c79
        refine lv_iconst (v := 0) hx hb d_Mo_point_86 (by decide) ?_
        refine r_Mo_throwing hF hK hP hL hS m_283 hl.1 ⟨Nat.le_of_ble_eq_true rfl, Nat.le_of_ble_eq_true rfl⟩ ⟨Nat.zero_le _, Nat.zero_le _⟩ (Nat.le_of_ble_eq_true rfl) d_Mo_point_87 (fun H locs hP hS => ?_)
        refine lv_if_eq (tgt := 95) hx hb d_Mo_point_90 (by decide) (fun c90 => ?_) (fun c90 => ?_)
        · have h := h.1 c90
          refine lv_aload_n hx hb d_Mo_point_95 rfl (lv_at hl 1 rfl) ?_
          refine gf_Mo_kind hF hK hP m_210 d_Mo_point_96 ?_
          refine lv_aload_n hx hb d_Mo_point_99 rfl (lv_at hl 1 rfl) ?_
          refine gf_Mo_points hF hK hP m_194 d_Mo_point_100 ?_
          refine lv_iload_n hx hb d_Mo_point_103 rfl (lv_at hl 2 rfl) ?_
          have k104 := h.1
          have h := h.2
          refine asM_5 hF hK hP hL hS k104 d_Mo_point_104 (fun H locs hP hS => ?_)
          refine lv_aload_n hx hb d_Mo_point_105 rfl (lv_at hl 1 rfl) ?_
          refine gf_Mo_height hF hK hP m_211 d_Mo_point_106 ?_
          refine lv_aload_n hx hb d_Mo_point_109 rfl (lv_at hl 1 rfl) ?_
          refine gf_Mo_points hF hK hP m_194 d_Mo_point_110 ?_
          refine lv_iload_n hx hb d_Mo_point_113 rfl (lv_at hl 3 rfl) ?_
          have k114 := h.1
          have h := h.2
          refine asM_6 hF hK hP hL hS k114 d_Mo_point_114 (fun H locs hP hS => ?_)
          refine lv_aload_n hx hb d_Mo_point_115 rfl (lv_at hl 1 rfl) ?_
          refine gf_Mo_people hF hK hP m_212 d_Mo_point_116 ?_
          refine lv_aload_n hx hb d_Mo_point_119 rfl (lv_at hl 1 rfl) ?_
          refine gf_Mo_points hF hK hP m_194 d_Mo_point_120 ?_
          refine lv_iload_n hx hb d_Mo_point_123 rfl (lv_at hl 4 rfl) ?_
          have k124 := h.1
          have h := h.2
          refine asM_7 hF hK hP hL hS k124 d_Mo_point_124 (fun H locs hP hS => ?_)
          refine lv_aload_n hx hb d_Mo_point_125 rfl (lv_at hl 1 rfl) ?_
          refine gf_Mo_px hF hK hP m_243 d_Mo_point_126 ?_
          refine lv_aload_n hx hb d_Mo_point_129 rfl (lv_at hl 1 rfl) ?_
          refine gf_Mo_points hF hK hP m_194 d_Mo_point_130 ?_
          refine lv_iload hx hb d_Mo_point_133 (lv_at hl 5 rfl) ?_
          have k135 := h.1
          have h := h.2
          refine asM_8 hF hK hP hL hS k135 d_Mo_point_135 (fun H locs hP hS => ?_)
          refine lv_aload_n hx hb d_Mo_point_136 rfl (lv_at hl 1 rfl) ?_
          refine gf_Mo_py hF hK hP m_245 d_Mo_point_137 ?_
          refine lv_aload_n hx hb d_Mo_point_140 rfl (lv_at hl 1 rfl) ?_
          refine gf_Mo_points hF hK hP m_194 d_Mo_point_141 ?_
          refine lv_iload hx hb d_Mo_point_144 (lv_at hl 6 rfl) ?_
          have k146 := h.1
          have h := h.2
          refine asM_9 hF hK hP hL hS k146 d_Mo_point_146 (fun H locs hP hS => ?_)
          refine lv_aload_n hx hb d_Mo_point_147 rfl (lv_at hl 1 rfl) ?_
          refine gf_Mo_visited hF hK hP m_224 d_Mo_point_148 ?_
          refine lv_aload_n hx hb d_Mo_point_151 rfl (lv_at hl 1 rfl) ?_
          refine gf_Mo_points hF hK hP m_194 d_Mo_point_152 ?_
          refine lv_iconst (v := (-1)) hx hb d_Mo_point_155 (by decide) ?_
          have k156 := h
          refine asM_10 hF hK hP hL hS k156 d_Mo_point_156 (fun H locs hP hS => ?_)
          refine lv_aload_n hx hb d_Mo_point_157 rfl (lv_at hl 1 rfl) ?_
          refine lv_dup hx hb d_Mo_point_158 rfl ?_
          refine gf_Mo_points hF hK hP m_194 d_Mo_point_159 ?_
          refine lv_iconst (v := 1) hx hb d_Mo_point_162 (by decide) ?_
          refine lv_iadd hx hb d_Mo_point_163 ?_
          refine pf_Mo_points hF hK hP hL hS m_194 d_Mo_point_164 (fun H locs hP hS => ?_)
          refine lv_aload_n hx hb d_Mo_point_167 rfl (lv_at hl 1 rfl) ?_
          refine gf_Mo_points hF hK hP m_194 d_Mo_point_168 ?_
          refine lv_iconst (v := 1) hx hb d_Mo_point_171 (by decide) ?_
          refine lv_isub hx hb d_Mo_point_172 ?_
          have hv : ((((sg ((f_Mo_throwing ar sc 1 1 0).2.2) 2 ((((f_Mo_throwing ar sc 1 1 0).2.2) 2) + 1)) 2) - 1, s2 (s2 (s2 (s2 (s2 (s2 ((f_Mo_throwing ar sc 1 1 0).2.1) 5 ((((f_Mo_throwing ar sc 1 1 0).2.2) 2).toNatClampNeg) a0) 6 ((((f_Mo_throwing ar sc 1 1 0).2.2) 2).toNatClampNeg) a1) 7 ((((f_Mo_throwing ar sc 1 1 0).2.2) 2).toNatClampNeg) a2) 8 ((((f_Mo_throwing ar sc 1 1 0).2.2) 2).toNatClampNeg) a3) 9 ((((f_Mo_throwing ar sc 1 1 0).2.2) 2).toNatClampNeg) a4) 10 ((((f_Mo_throwing ar sc 1 1 0).2.2) 2).toNatClampNeg) (-1), sg ((f_Mo_throwing ar sc 1 1 0).2.2) 2 ((((f_Mo_throwing ar sc 1 1 0).2.2) 2) + 1)) : Int32 × (Nat → Nat → Int32) × (Nat → Int32)) = f_Mo_point ar sc a0 a1 a2 a3 a4 := by rw [f_Mo_point, if_pos c8, if_pos c63, if_neg c79, if_pos c90]
          exact W.iret (v := ((sg ((f_Mo_throwing ar sc 1 1 0).2.2) 2 ((((f_Mo_throwing ar sc 1 1 0).2.2) 2) + 1)) 2) - 1) hx hb hr (fun t ht hW => ⟨⟨((sg ((f_Mo_throwing ar sc 1 1 0).2.2) 2 ((((f_Mo_throwing ar sc 1 1 0).2.2) 2) + 1)) 2) - 1, (s2 (s2 (s2 (s2 (s2 (s2 ((f_Mo_throwing ar sc 1 1 0).2.1) 5 ((((f_Mo_throwing ar sc 1 1 0).2.2) 2).toNatClampNeg) a0) 6 ((((f_Mo_throwing ar sc 1 1 0).2.2) 2).toNatClampNeg) a1) 7 ((((f_Mo_throwing ar sc 1 1 0).2.2) 2).toNatClampNeg) a2) 8 ((((f_Mo_throwing ar sc 1 1 0).2.2) 2).toNatClampNeg) a3) 9 ((((f_Mo_throwing ar sc 1 1 0).2.2) 2).toNatClampNeg) a4) 10 ((((f_Mo_throwing ar sc 1 1 0).2.2) 2).toNatClampNeg) (-1), sg ((f_Mo_throwing ar sc 1 1 0).2.2) 2 ((((f_Mo_throwing ar sc 1 1 0).2.2) 2) + 1)), rfl, hv, by dsimp only; rw [ht]; exact hP⟩, hS.F ht⟩) hS.2.2 d_Mo_point_173
        · have h := h.2 c90
          refine lv_iconst (v := 0) hx hb d_Mo_point_93 (by decide) ?_
          have hv : ((0, (f_Mo_throwing ar sc 1 1 0).2.1, (f_Mo_throwing ar sc 1 1 0).2.2) : Int32 × (Nat → Nat → Int32) × (Nat → Int32)) = f_Mo_point ar sc a0 a1 a2 a3 a4 := by rw [f_Mo_point, if_pos c8, if_pos c63, if_neg c79, if_neg c90]
          exact W.iret (v := 0) hx hb hr (fun t ht hW => ⟨⟨0, ((f_Mo_throwing ar sc 1 1 0).2.1, (f_Mo_throwing ar sc 1 1 0).2.2), rfl, hv, by dsimp only; rw [ht]; exact hP⟩, hS.F ht⟩) hS.2.2 d_Mo_point_94
      · have h := h.1 c79
        refine lv_iconst (v := 1) hx hb d_Mo_point_82 (by decide) ?_
        refine lv_goto (tgt := 87) hx hb d_Mo_point_83 (by decide) ?_
        refine r_Mo_throwing hF hK hP hL hS m_283 hl.1 ⟨Nat.le_of_ble_eq_true rfl, Nat.le_of_ble_eq_true rfl⟩ ⟨Nat.zero_le _, Nat.zero_le _⟩ (Nat.le_of_ble_eq_true rfl) d_Mo_point_87 (fun H locs hP hS => ?_)
        refine lv_if_eq (tgt := 95) hx hb d_Mo_point_90 (by decide) (fun c90 => ?_) (fun c90 => ?_)
        · have h := h.1 c90
          refine lv_aload_n hx hb d_Mo_point_95 rfl (lv_at hl 1 rfl) ?_
          refine gf_Mo_kind hF hK hP m_210 d_Mo_point_96 ?_
          refine lv_aload_n hx hb d_Mo_point_99 rfl (lv_at hl 1 rfl) ?_
          refine gf_Mo_points hF hK hP m_194 d_Mo_point_100 ?_
          refine lv_iload_n hx hb d_Mo_point_103 rfl (lv_at hl 2 rfl) ?_
          have k104 := h.1
          have h := h.2
          refine asM_5 hF hK hP hL hS k104 d_Mo_point_104 (fun H locs hP hS => ?_)
          refine lv_aload_n hx hb d_Mo_point_105 rfl (lv_at hl 1 rfl) ?_
          refine gf_Mo_height hF hK hP m_211 d_Mo_point_106 ?_
          refine lv_aload_n hx hb d_Mo_point_109 rfl (lv_at hl 1 rfl) ?_
          refine gf_Mo_points hF hK hP m_194 d_Mo_point_110 ?_
          refine lv_iload_n hx hb d_Mo_point_113 rfl (lv_at hl 3 rfl) ?_
          have k114 := h.1
          have h := h.2
          refine asM_6 hF hK hP hL hS k114 d_Mo_point_114 (fun H locs hP hS => ?_)
          refine lv_aload_n hx hb d_Mo_point_115 rfl (lv_at hl 1 rfl) ?_
          refine gf_Mo_people hF hK hP m_212 d_Mo_point_116 ?_
          refine lv_aload_n hx hb d_Mo_point_119 rfl (lv_at hl 1 rfl) ?_
          refine gf_Mo_points hF hK hP m_194 d_Mo_point_120 ?_
          refine lv_iload_n hx hb d_Mo_point_123 rfl (lv_at hl 4 rfl) ?_
          have k124 := h.1
          have h := h.2
          refine asM_7 hF hK hP hL hS k124 d_Mo_point_124 (fun H locs hP hS => ?_)
          refine lv_aload_n hx hb d_Mo_point_125 rfl (lv_at hl 1 rfl) ?_
          refine gf_Mo_px hF hK hP m_243 d_Mo_point_126 ?_
          refine lv_aload_n hx hb d_Mo_point_129 rfl (lv_at hl 1 rfl) ?_
          refine gf_Mo_points hF hK hP m_194 d_Mo_point_130 ?_
          refine lv_iload hx hb d_Mo_point_133 (lv_at hl 5 rfl) ?_
          have k135 := h.1
          have h := h.2
          refine asM_8 hF hK hP hL hS k135 d_Mo_point_135 (fun H locs hP hS => ?_)
          refine lv_aload_n hx hb d_Mo_point_136 rfl (lv_at hl 1 rfl) ?_
          refine gf_Mo_py hF hK hP m_245 d_Mo_point_137 ?_
          refine lv_aload_n hx hb d_Mo_point_140 rfl (lv_at hl 1 rfl) ?_
          refine gf_Mo_points hF hK hP m_194 d_Mo_point_141 ?_
          refine lv_iload hx hb d_Mo_point_144 (lv_at hl 6 rfl) ?_
          have k146 := h.1
          have h := h.2
          refine asM_9 hF hK hP hL hS k146 d_Mo_point_146 (fun H locs hP hS => ?_)
          refine lv_aload_n hx hb d_Mo_point_147 rfl (lv_at hl 1 rfl) ?_
          refine gf_Mo_visited hF hK hP m_224 d_Mo_point_148 ?_
          refine lv_aload_n hx hb d_Mo_point_151 rfl (lv_at hl 1 rfl) ?_
          refine gf_Mo_points hF hK hP m_194 d_Mo_point_152 ?_
          refine lv_iconst (v := (-1)) hx hb d_Mo_point_155 (by decide) ?_
          have k156 := h
          refine asM_10 hF hK hP hL hS k156 d_Mo_point_156 (fun H locs hP hS => ?_)
          refine lv_aload_n hx hb d_Mo_point_157 rfl (lv_at hl 1 rfl) ?_
          refine lv_dup hx hb d_Mo_point_158 rfl ?_
          refine gf_Mo_points hF hK hP m_194 d_Mo_point_159 ?_
          refine lv_iconst (v := 1) hx hb d_Mo_point_162 (by decide) ?_
          refine lv_iadd hx hb d_Mo_point_163 ?_
          refine pf_Mo_points hF hK hP hL hS m_194 d_Mo_point_164 (fun H locs hP hS => ?_)
          refine lv_aload_n hx hb d_Mo_point_167 rfl (lv_at hl 1 rfl) ?_
          refine gf_Mo_points hF hK hP m_194 d_Mo_point_168 ?_
          refine lv_iconst (v := 1) hx hb d_Mo_point_171 (by decide) ?_
          refine lv_isub hx hb d_Mo_point_172 ?_
          have hv : ((((sg ((f_Mo_throwing ar sc 1 1 1).2.2) 2 ((((f_Mo_throwing ar sc 1 1 1).2.2) 2) + 1)) 2) - 1, s2 (s2 (s2 (s2 (s2 (s2 ((f_Mo_throwing ar sc 1 1 1).2.1) 5 ((((f_Mo_throwing ar sc 1 1 1).2.2) 2).toNatClampNeg) a0) 6 ((((f_Mo_throwing ar sc 1 1 1).2.2) 2).toNatClampNeg) a1) 7 ((((f_Mo_throwing ar sc 1 1 1).2.2) 2).toNatClampNeg) a2) 8 ((((f_Mo_throwing ar sc 1 1 1).2.2) 2).toNatClampNeg) a3) 9 ((((f_Mo_throwing ar sc 1 1 1).2.2) 2).toNatClampNeg) a4) 10 ((((f_Mo_throwing ar sc 1 1 1).2.2) 2).toNatClampNeg) (-1), sg ((f_Mo_throwing ar sc 1 1 1).2.2) 2 ((((f_Mo_throwing ar sc 1 1 1).2.2) 2) + 1)) : Int32 × (Nat → Nat → Int32) × (Nat → Int32)) = f_Mo_point ar sc a0 a1 a2 a3 a4 := by rw [f_Mo_point, if_pos c8, if_pos c63, if_pos c79, if_pos c90]
          exact W.iret (v := ((sg ((f_Mo_throwing ar sc 1 1 1).2.2) 2 ((((f_Mo_throwing ar sc 1 1 1).2.2) 2) + 1)) 2) - 1) hx hb hr (fun t ht hW => ⟨⟨((sg ((f_Mo_throwing ar sc 1 1 1).2.2) 2 ((((f_Mo_throwing ar sc 1 1 1).2.2) 2) + 1)) 2) - 1, (s2 (s2 (s2 (s2 (s2 (s2 ((f_Mo_throwing ar sc 1 1 1).2.1) 5 ((((f_Mo_throwing ar sc 1 1 1).2.2) 2).toNatClampNeg) a0) 6 ((((f_Mo_throwing ar sc 1 1 1).2.2) 2).toNatClampNeg) a1) 7 ((((f_Mo_throwing ar sc 1 1 1).2.2) 2).toNatClampNeg) a2) 8 ((((f_Mo_throwing ar sc 1 1 1).2.2) 2).toNatClampNeg) a3) 9 ((((f_Mo_throwing ar sc 1 1 1).2.2) 2).toNatClampNeg) a4) 10 ((((f_Mo_throwing ar sc 1 1 1).2.2) 2).toNatClampNeg) (-1), sg ((f_Mo_throwing ar sc 1 1 1).2.2) 2 ((((f_Mo_throwing ar sc 1 1 1).2.2) 2) + 1)), rfl, hv, by dsimp only; rw [ht]; exact hP⟩, hS.F ht⟩) hS.2.2 d_Mo_point_173
        · have h := h.2 c90
          refine lv_iconst (v := 0) hx hb d_Mo_point_93 (by decide) ?_
          have hv : ((0, (f_Mo_throwing ar sc 1 1 1).2.1, (f_Mo_throwing ar sc 1 1 1).2.2) : Int32 × (Nat → Nat → Int32) × (Nat → Int32)) = f_Mo_point ar sc a0 a1 a2 a3 a4 := by rw [f_Mo_point, if_pos c8, if_pos c63, if_pos c79, if_neg c90]
          exact W.iret (v := 0) hx hb hr (fun t ht hW => ⟨⟨0, ((f_Mo_throwing ar sc 1 1 1).2.1, (f_Mo_throwing ar sc 1 1 1).2.2), rfl, hv, by dsimp only; rw [ht]; exact hP⟩, hS.F ht⟩) hS.2.2 d_Mo_point_94
  · have h := h.2 c8
    refine lv_iload_n hx hb d_Mo_point_11 rfl (lv_at hl 3 rfl) ?_
    refine lv_iconst (v := 0) hx hb d_Mo_point_12 (by decide) ?_
    refine lv_ldc (v := 100000) hx hb hown (hts _ m_287) d_Mo_point_13 ?_
    refine r_Mo_in hF m_195 hl.1 ⟨Nat.le_of_ble_eq_true rfl, Nat.le_of_ble_eq_true rfl⟩ ⟨Nat.zero_le _, Nat.zero_le _⟩ (Nat.le_of_ble_eq_true rfl) d_Mo_point_15 ?_
    refine lv_if_eq (tgt := 49) hx hb d_Mo_point_18 (by decide) (fun c18 => ?_) (fun c18 => ?_)
    · have h := h.1 c18
      refine lv_iconst (v := 1) hx hb d_Mo_point_49 (by decide) ?_
      refine lv_goto (tgt := 54) hx hb d_Mo_point_50 (by decide) ?_
      refine lv_istore (lv' := [(6, .int 1), (0, .ref (L 0)), (1, .int a0), (2, .int a1), (3, .int a2), (4, .int a3), (5, .int a4)]) hx hb d_Mo_point_54 hl (by decide) rfl (fun ls hl => ?_)
      refine lv_aload_n hx hb d_Mo_point_56 rfl (lv_at hl 1 rfl) ?_
      refine lv_iload_n hx hb d_Mo_point_57 rfl (lv_at hl 2 rfl) ?_
      refine lv_iconst (v := 0) hx hb d_Mo_point_58 (by decide) ?_
      refine lv_iconst (v := 4) hx hb d_Mo_point_59 (by decide) ?_
      refine r_Mo_in hF m_195 hl.1 ⟨Nat.le_of_ble_eq_true rfl, Nat.le_of_ble_eq_true rfl⟩ ⟨Nat.zero_le _, Nat.zero_le _⟩ (Nat.le_of_ble_eq_true rfl) d_Mo_point_60 ?_
      refine lv_if_ne (tgt := 70) hx hb d_Mo_point_63 (by decide) (fun c63 => ?_) (fun c63 => ?_)
      · have h := h.2 c63
        refine lv_iconst (v := 0) hx hb d_Mo_point_70 (by decide) ?_
        refine lv_iload hx hb d_Mo_point_71 (lv_at hl 0 rfl) ?_
        refine lv_aload_n hx hb d_Mo_point_73 rfl (lv_at hl 1 rfl) ?_
        refine gf_Mo_points hF hK hP m_194 d_Mo_point_74 ?_
        refine lv_bipush (v := 30) hx hb d_Mo_point_77 (by decide) ?_
        refine lv_icmp_ne (tgt := 86) hx hb d_Mo_point_79 (by decide) (fun c79 => ?_) (fun c79 => ?_)
        · have h := h.2 c79
          refine lv_iconst (v := 0) hx hb d_Mo_point_86 (by decide) ?_
          refine r_Mo_throwing hF hK hP hL hS m_283 hl.1 ⟨Nat.le_of_ble_eq_true rfl, Nat.le_of_ble_eq_true rfl⟩ ⟨Nat.zero_le _, Nat.zero_le _⟩ (Nat.le_of_ble_eq_true rfl) d_Mo_point_87 (fun H locs hP hS => ?_)
          refine lv_if_eq (tgt := 95) hx hb d_Mo_point_90 (by decide) (fun c90 => ?_) (fun c90 => ?_)
          · have h := h.1 c90
            refine lv_aload_n hx hb d_Mo_point_95 rfl (lv_at hl 1 rfl) ?_
            refine gf_Mo_kind hF hK hP m_210 d_Mo_point_96 ?_
            refine lv_aload_n hx hb d_Mo_point_99 rfl (lv_at hl 1 rfl) ?_
            refine gf_Mo_points hF hK hP m_194 d_Mo_point_100 ?_
            refine lv_iload_n hx hb d_Mo_point_103 rfl (lv_at hl 2 rfl) ?_
            have k104 := h.1
            have h := h.2
            refine asM_5 hF hK hP hL hS k104 d_Mo_point_104 (fun H locs hP hS => ?_)
            refine lv_aload_n hx hb d_Mo_point_105 rfl (lv_at hl 1 rfl) ?_
            refine gf_Mo_height hF hK hP m_211 d_Mo_point_106 ?_
            refine lv_aload_n hx hb d_Mo_point_109 rfl (lv_at hl 1 rfl) ?_
            refine gf_Mo_points hF hK hP m_194 d_Mo_point_110 ?_
            refine lv_iload_n hx hb d_Mo_point_113 rfl (lv_at hl 3 rfl) ?_
            have k114 := h.1
            have h := h.2
            refine asM_6 hF hK hP hL hS k114 d_Mo_point_114 (fun H locs hP hS => ?_)
            refine lv_aload_n hx hb d_Mo_point_115 rfl (lv_at hl 1 rfl) ?_
            refine gf_Mo_people hF hK hP m_212 d_Mo_point_116 ?_
            refine lv_aload_n hx hb d_Mo_point_119 rfl (lv_at hl 1 rfl) ?_
            refine gf_Mo_points hF hK hP m_194 d_Mo_point_120 ?_
            refine lv_iload_n hx hb d_Mo_point_123 rfl (lv_at hl 4 rfl) ?_
            have k124 := h.1
            have h := h.2
            refine asM_7 hF hK hP hL hS k124 d_Mo_point_124 (fun H locs hP hS => ?_)
            refine lv_aload_n hx hb d_Mo_point_125 rfl (lv_at hl 1 rfl) ?_
            refine gf_Mo_px hF hK hP m_243 d_Mo_point_126 ?_
            refine lv_aload_n hx hb d_Mo_point_129 rfl (lv_at hl 1 rfl) ?_
            refine gf_Mo_points hF hK hP m_194 d_Mo_point_130 ?_
            refine lv_iload hx hb d_Mo_point_133 (lv_at hl 5 rfl) ?_
            have k135 := h.1
            have h := h.2
            refine asM_8 hF hK hP hL hS k135 d_Mo_point_135 (fun H locs hP hS => ?_)
            refine lv_aload_n hx hb d_Mo_point_136 rfl (lv_at hl 1 rfl) ?_
            refine gf_Mo_py hF hK hP m_245 d_Mo_point_137 ?_
            refine lv_aload_n hx hb d_Mo_point_140 rfl (lv_at hl 1 rfl) ?_
            refine gf_Mo_points hF hK hP m_194 d_Mo_point_141 ?_
            refine lv_iload hx hb d_Mo_point_144 (lv_at hl 6 rfl) ?_
            have k146 := h.1
            have h := h.2
            refine asM_9 hF hK hP hL hS k146 d_Mo_point_146 (fun H locs hP hS => ?_)
            refine lv_aload_n hx hb d_Mo_point_147 rfl (lv_at hl 1 rfl) ?_
            refine gf_Mo_visited hF hK hP m_224 d_Mo_point_148 ?_
            refine lv_aload_n hx hb d_Mo_point_151 rfl (lv_at hl 1 rfl) ?_
            refine gf_Mo_points hF hK hP m_194 d_Mo_point_152 ?_
            refine lv_iconst (v := (-1)) hx hb d_Mo_point_155 (by decide) ?_
            have k156 := h
            refine asM_10 hF hK hP hL hS k156 d_Mo_point_156 (fun H locs hP hS => ?_)
            refine lv_aload_n hx hb d_Mo_point_157 rfl (lv_at hl 1 rfl) ?_
            refine lv_dup hx hb d_Mo_point_158 rfl ?_
            refine gf_Mo_points hF hK hP m_194 d_Mo_point_159 ?_
            refine lv_iconst (v := 1) hx hb d_Mo_point_162 (by decide) ?_
            refine lv_iadd hx hb d_Mo_point_163 ?_
            refine pf_Mo_points hF hK hP hL hS m_194 d_Mo_point_164 (fun H locs hP hS => ?_)
            refine lv_aload_n hx hb d_Mo_point_167 rfl (lv_at hl 1 rfl) ?_
            refine gf_Mo_points hF hK hP m_194 d_Mo_point_168 ?_
            refine lv_iconst (v := 1) hx hb d_Mo_point_171 (by decide) ?_
            refine lv_isub hx hb d_Mo_point_172 ?_
            have hv : ((((sg ((f_Mo_throwing ar sc 0 1 0).2.2) 2 ((((f_Mo_throwing ar sc 0 1 0).2.2) 2) + 1)) 2) - 1, s2 (s2 (s2 (s2 (s2 (s2 ((f_Mo_throwing ar sc 0 1 0).2.1) 5 ((((f_Mo_throwing ar sc 0 1 0).2.2) 2).toNatClampNeg) a0) 6 ((((f_Mo_throwing ar sc 0 1 0).2.2) 2).toNatClampNeg) a1) 7 ((((f_Mo_throwing ar sc 0 1 0).2.2) 2).toNatClampNeg) a2) 8 ((((f_Mo_throwing ar sc 0 1 0).2.2) 2).toNatClampNeg) a3) 9 ((((f_Mo_throwing ar sc 0 1 0).2.2) 2).toNatClampNeg) a4) 10 ((((f_Mo_throwing ar sc 0 1 0).2.2) 2).toNatClampNeg) (-1), sg ((f_Mo_throwing ar sc 0 1 0).2.2) 2 ((((f_Mo_throwing ar sc 0 1 0).2.2) 2) + 1)) : Int32 × (Nat → Nat → Int32) × (Nat → Int32)) = f_Mo_point ar sc a0 a1 a2 a3 a4 := by rw [f_Mo_point, if_neg c8, if_pos c18, if_neg c63, if_neg c79, if_pos c90]
            exact W.iret (v := ((sg ((f_Mo_throwing ar sc 0 1 0).2.2) 2 ((((f_Mo_throwing ar sc 0 1 0).2.2) 2) + 1)) 2) - 1) hx hb hr (fun t ht hW => ⟨⟨((sg ((f_Mo_throwing ar sc 0 1 0).2.2) 2 ((((f_Mo_throwing ar sc 0 1 0).2.2) 2) + 1)) 2) - 1, (s2 (s2 (s2 (s2 (s2 (s2 ((f_Mo_throwing ar sc 0 1 0).2.1) 5 ((((f_Mo_throwing ar sc 0 1 0).2.2) 2).toNatClampNeg) a0) 6 ((((f_Mo_throwing ar sc 0 1 0).2.2) 2).toNatClampNeg) a1) 7 ((((f_Mo_throwing ar sc 0 1 0).2.2) 2).toNatClampNeg) a2) 8 ((((f_Mo_throwing ar sc 0 1 0).2.2) 2).toNatClampNeg) a3) 9 ((((f_Mo_throwing ar sc 0 1 0).2.2) 2).toNatClampNeg) a4) 10 ((((f_Mo_throwing ar sc 0 1 0).2.2) 2).toNatClampNeg) (-1), sg ((f_Mo_throwing ar sc 0 1 0).2.2) 2 ((((f_Mo_throwing ar sc 0 1 0).2.2) 2) + 1)), rfl, hv, by dsimp only; rw [ht]; exact hP⟩, hS.F ht⟩) hS.2.2 d_Mo_point_173
          · have h := h.2 c90
            refine lv_iconst (v := 0) hx hb d_Mo_point_93 (by decide) ?_
            have hv : ((0, (f_Mo_throwing ar sc 0 1 0).2.1, (f_Mo_throwing ar sc 0 1 0).2.2) : Int32 × (Nat → Nat → Int32) × (Nat → Int32)) = f_Mo_point ar sc a0 a1 a2 a3 a4 := by rw [f_Mo_point, if_neg c8, if_pos c18, if_neg c63, if_neg c79, if_neg c90]
            exact W.iret (v := 0) hx hb hr (fun t ht hW => ⟨⟨0, ((f_Mo_throwing ar sc 0 1 0).2.1, (f_Mo_throwing ar sc 0 1 0).2.2), rfl, hv, by dsimp only; rw [ht]; exact hP⟩, hS.F ht⟩) hS.2.2 d_Mo_point_94
        · have h := h.1 c79
          refine lv_iconst (v := 1) hx hb d_Mo_point_82 (by decide) ?_
          refine lv_goto (tgt := 87) hx hb d_Mo_point_83 (by decide) ?_
          refine r_Mo_throwing hF hK hP hL hS m_283 hl.1 ⟨Nat.le_of_ble_eq_true rfl, Nat.le_of_ble_eq_true rfl⟩ ⟨Nat.zero_le _, Nat.zero_le _⟩ (Nat.le_of_ble_eq_true rfl) d_Mo_point_87 (fun H locs hP hS => ?_)
          refine lv_if_eq (tgt := 95) hx hb d_Mo_point_90 (by decide) (fun c90 => ?_) (fun c90 => ?_)
          · have h := h.1 c90
            refine lv_aload_n hx hb d_Mo_point_95 rfl (lv_at hl 1 rfl) ?_
            refine gf_Mo_kind hF hK hP m_210 d_Mo_point_96 ?_
            refine lv_aload_n hx hb d_Mo_point_99 rfl (lv_at hl 1 rfl) ?_
            refine gf_Mo_points hF hK hP m_194 d_Mo_point_100 ?_
            refine lv_iload_n hx hb d_Mo_point_103 rfl (lv_at hl 2 rfl) ?_
            have k104 := h.1
            have h := h.2
            refine asM_5 hF hK hP hL hS k104 d_Mo_point_104 (fun H locs hP hS => ?_)
            refine lv_aload_n hx hb d_Mo_point_105 rfl (lv_at hl 1 rfl) ?_
            refine gf_Mo_height hF hK hP m_211 d_Mo_point_106 ?_
            refine lv_aload_n hx hb d_Mo_point_109 rfl (lv_at hl 1 rfl) ?_
            refine gf_Mo_points hF hK hP m_194 d_Mo_point_110 ?_
            refine lv_iload_n hx hb d_Mo_point_113 rfl (lv_at hl 3 rfl) ?_
            have k114 := h.1
            have h := h.2
            refine asM_6 hF hK hP hL hS k114 d_Mo_point_114 (fun H locs hP hS => ?_)
            refine lv_aload_n hx hb d_Mo_point_115 rfl (lv_at hl 1 rfl) ?_
            refine gf_Mo_people hF hK hP m_212 d_Mo_point_116 ?_
            refine lv_aload_n hx hb d_Mo_point_119 rfl (lv_at hl 1 rfl) ?_
            refine gf_Mo_points hF hK hP m_194 d_Mo_point_120 ?_
            refine lv_iload_n hx hb d_Mo_point_123 rfl (lv_at hl 4 rfl) ?_
            have k124 := h.1
            have h := h.2
            refine asM_7 hF hK hP hL hS k124 d_Mo_point_124 (fun H locs hP hS => ?_)
            refine lv_aload_n hx hb d_Mo_point_125 rfl (lv_at hl 1 rfl) ?_
            refine gf_Mo_px hF hK hP m_243 d_Mo_point_126 ?_
            refine lv_aload_n hx hb d_Mo_point_129 rfl (lv_at hl 1 rfl) ?_
            refine gf_Mo_points hF hK hP m_194 d_Mo_point_130 ?_
            refine lv_iload hx hb d_Mo_point_133 (lv_at hl 5 rfl) ?_
            have k135 := h.1
            have h := h.2
            refine asM_8 hF hK hP hL hS k135 d_Mo_point_135 (fun H locs hP hS => ?_)
            refine lv_aload_n hx hb d_Mo_point_136 rfl (lv_at hl 1 rfl) ?_
            refine gf_Mo_py hF hK hP m_245 d_Mo_point_137 ?_
            refine lv_aload_n hx hb d_Mo_point_140 rfl (lv_at hl 1 rfl) ?_
            refine gf_Mo_points hF hK hP m_194 d_Mo_point_141 ?_
            refine lv_iload hx hb d_Mo_point_144 (lv_at hl 6 rfl) ?_
            have k146 := h.1
            have h := h.2
            refine asM_9 hF hK hP hL hS k146 d_Mo_point_146 (fun H locs hP hS => ?_)
            refine lv_aload_n hx hb d_Mo_point_147 rfl (lv_at hl 1 rfl) ?_
            refine gf_Mo_visited hF hK hP m_224 d_Mo_point_148 ?_
            refine lv_aload_n hx hb d_Mo_point_151 rfl (lv_at hl 1 rfl) ?_
            refine gf_Mo_points hF hK hP m_194 d_Mo_point_152 ?_
            refine lv_iconst (v := (-1)) hx hb d_Mo_point_155 (by decide) ?_
            have k156 := h
            refine asM_10 hF hK hP hL hS k156 d_Mo_point_156 (fun H locs hP hS => ?_)
            refine lv_aload_n hx hb d_Mo_point_157 rfl (lv_at hl 1 rfl) ?_
            refine lv_dup hx hb d_Mo_point_158 rfl ?_
            refine gf_Mo_points hF hK hP m_194 d_Mo_point_159 ?_
            refine lv_iconst (v := 1) hx hb d_Mo_point_162 (by decide) ?_
            refine lv_iadd hx hb d_Mo_point_163 ?_
            refine pf_Mo_points hF hK hP hL hS m_194 d_Mo_point_164 (fun H locs hP hS => ?_)
            refine lv_aload_n hx hb d_Mo_point_167 rfl (lv_at hl 1 rfl) ?_
            refine gf_Mo_points hF hK hP m_194 d_Mo_point_168 ?_
            refine lv_iconst (v := 1) hx hb d_Mo_point_171 (by decide) ?_
            refine lv_isub hx hb d_Mo_point_172 ?_
            have hv : ((((sg ((f_Mo_throwing ar sc 0 1 1).2.2) 2 ((((f_Mo_throwing ar sc 0 1 1).2.2) 2) + 1)) 2) - 1, s2 (s2 (s2 (s2 (s2 (s2 ((f_Mo_throwing ar sc 0 1 1).2.1) 5 ((((f_Mo_throwing ar sc 0 1 1).2.2) 2).toNatClampNeg) a0) 6 ((((f_Mo_throwing ar sc 0 1 1).2.2) 2).toNatClampNeg) a1) 7 ((((f_Mo_throwing ar sc 0 1 1).2.2) 2).toNatClampNeg) a2) 8 ((((f_Mo_throwing ar sc 0 1 1).2.2) 2).toNatClampNeg) a3) 9 ((((f_Mo_throwing ar sc 0 1 1).2.2) 2).toNatClampNeg) a4) 10 ((((f_Mo_throwing ar sc 0 1 1).2.2) 2).toNatClampNeg) (-1), sg ((f_Mo_throwing ar sc 0 1 1).2.2) 2 ((((f_Mo_throwing ar sc 0 1 1).2.2) 2) + 1)) : Int32 × (Nat → Nat → Int32) × (Nat → Int32)) = f_Mo_point ar sc a0 a1 a2 a3 a4 := by rw [f_Mo_point, if_neg c8, if_pos c18, if_neg c63, if_pos c79, if_pos c90]
            exact W.iret (v := ((sg ((f_Mo_throwing ar sc 0 1 1).2.2) 2 ((((f_Mo_throwing ar sc 0 1 1).2.2) 2) + 1)) 2) - 1) hx hb hr (fun t ht hW => ⟨⟨((sg ((f_Mo_throwing ar sc 0 1 1).2.2) 2 ((((f_Mo_throwing ar sc 0 1 1).2.2) 2) + 1)) 2) - 1, (s2 (s2 (s2 (s2 (s2 (s2 ((f_Mo_throwing ar sc 0 1 1).2.1) 5 ((((f_Mo_throwing ar sc 0 1 1).2.2) 2).toNatClampNeg) a0) 6 ((((f_Mo_throwing ar sc 0 1 1).2.2) 2).toNatClampNeg) a1) 7 ((((f_Mo_throwing ar sc 0 1 1).2.2) 2).toNatClampNeg) a2) 8 ((((f_Mo_throwing ar sc 0 1 1).2.2) 2).toNatClampNeg) a3) 9 ((((f_Mo_throwing ar sc 0 1 1).2.2) 2).toNatClampNeg) a4) 10 ((((f_Mo_throwing ar sc 0 1 1).2.2) 2).toNatClampNeg) (-1), sg ((f_Mo_throwing ar sc 0 1 1).2.2) 2 ((((f_Mo_throwing ar sc 0 1 1).2.2) 2) + 1)), rfl, hv, by dsimp only; rw [ht]; exact hP⟩, hS.F ht⟩) hS.2.2 d_Mo_point_173
          · have h := h.2 c90
            refine lv_iconst (v := 0) hx hb d_Mo_point_93 (by decide) ?_
            have hv : ((0, (f_Mo_throwing ar sc 0 1 1).2.1, (f_Mo_throwing ar sc 0 1 1).2.2) : Int32 × (Nat → Nat → Int32) × (Nat → Int32)) = f_Mo_point ar sc a0 a1 a2 a3 a4 := by rw [f_Mo_point, if_neg c8, if_pos c18, if_neg c63, if_pos c79, if_neg c90]
            exact W.iret (v := 0) hx hb hr (fun t ht hW => ⟨⟨0, ((f_Mo_throwing ar sc 0 1 1).2.1, (f_Mo_throwing ar sc 0 1 1).2.2), rfl, hv, by dsimp only; rw [ht]; exact hP⟩, hS.F ht⟩) hS.2.2 d_Mo_point_94
      · have h := h.1 c63
        refine lv_iconst (v := 1) hx hb d_Mo_point_66 (by decide) ?_
        refine lv_goto (tgt := 71) hx hb d_Mo_point_67 (by decide) ?_
        refine lv_iload hx hb d_Mo_point_71 (lv_at hl 0 rfl) ?_
        refine lv_aload_n hx hb d_Mo_point_73 rfl (lv_at hl 1 rfl) ?_
        refine gf_Mo_points hF hK hP m_194 d_Mo_point_74 ?_
        refine lv_bipush (v := 30) hx hb d_Mo_point_77 (by decide) ?_
        refine lv_icmp_ne (tgt := 86) hx hb d_Mo_point_79 (by decide) (fun c79 => ?_) (fun c79 => ?_)
        · have h := h.2 c79
          refine lv_iconst (v := 0) hx hb d_Mo_point_86 (by decide) ?_
          refine r_Mo_throwing hF hK hP hL hS m_283 hl.1 ⟨Nat.le_of_ble_eq_true rfl, Nat.le_of_ble_eq_true rfl⟩ ⟨Nat.zero_le _, Nat.zero_le _⟩ (Nat.le_of_ble_eq_true rfl) d_Mo_point_87 (fun H locs hP hS => ?_)
          refine lv_if_eq (tgt := 95) hx hb d_Mo_point_90 (by decide) (fun c90 => ?_) (fun c90 => ?_)
          · have h := h.1 c90
            refine lv_aload_n hx hb d_Mo_point_95 rfl (lv_at hl 1 rfl) ?_
            refine gf_Mo_kind hF hK hP m_210 d_Mo_point_96 ?_
            refine lv_aload_n hx hb d_Mo_point_99 rfl (lv_at hl 1 rfl) ?_
            refine gf_Mo_points hF hK hP m_194 d_Mo_point_100 ?_
            refine lv_iload_n hx hb d_Mo_point_103 rfl (lv_at hl 2 rfl) ?_
            have k104 := h.1
            have h := h.2
            refine asM_5 hF hK hP hL hS k104 d_Mo_point_104 (fun H locs hP hS => ?_)
            refine lv_aload_n hx hb d_Mo_point_105 rfl (lv_at hl 1 rfl) ?_
            refine gf_Mo_height hF hK hP m_211 d_Mo_point_106 ?_
            refine lv_aload_n hx hb d_Mo_point_109 rfl (lv_at hl 1 rfl) ?_
            refine gf_Mo_points hF hK hP m_194 d_Mo_point_110 ?_
            refine lv_iload_n hx hb d_Mo_point_113 rfl (lv_at hl 3 rfl) ?_
            have k114 := h.1
            have h := h.2
            refine asM_6 hF hK hP hL hS k114 d_Mo_point_114 (fun H locs hP hS => ?_)
            refine lv_aload_n hx hb d_Mo_point_115 rfl (lv_at hl 1 rfl) ?_
            refine gf_Mo_people hF hK hP m_212 d_Mo_point_116 ?_
            refine lv_aload_n hx hb d_Mo_point_119 rfl (lv_at hl 1 rfl) ?_
            refine gf_Mo_points hF hK hP m_194 d_Mo_point_120 ?_
            refine lv_iload_n hx hb d_Mo_point_123 rfl (lv_at hl 4 rfl) ?_
            have k124 := h.1
            have h := h.2
            refine asM_7 hF hK hP hL hS k124 d_Mo_point_124 (fun H locs hP hS => ?_)
            refine lv_aload_n hx hb d_Mo_point_125 rfl (lv_at hl 1 rfl) ?_
            refine gf_Mo_px hF hK hP m_243 d_Mo_point_126 ?_
            refine lv_aload_n hx hb d_Mo_point_129 rfl (lv_at hl 1 rfl) ?_
            refine gf_Mo_points hF hK hP m_194 d_Mo_point_130 ?_
            refine lv_iload hx hb d_Mo_point_133 (lv_at hl 5 rfl) ?_
            have k135 := h.1
            have h := h.2
            refine asM_8 hF hK hP hL hS k135 d_Mo_point_135 (fun H locs hP hS => ?_)
            refine lv_aload_n hx hb d_Mo_point_136 rfl (lv_at hl 1 rfl) ?_
            refine gf_Mo_py hF hK hP m_245 d_Mo_point_137 ?_
            refine lv_aload_n hx hb d_Mo_point_140 rfl (lv_at hl 1 rfl) ?_
            refine gf_Mo_points hF hK hP m_194 d_Mo_point_141 ?_
            refine lv_iload hx hb d_Mo_point_144 (lv_at hl 6 rfl) ?_
            have k146 := h.1
            have h := h.2
            refine asM_9 hF hK hP hL hS k146 d_Mo_point_146 (fun H locs hP hS => ?_)
            refine lv_aload_n hx hb d_Mo_point_147 rfl (lv_at hl 1 rfl) ?_
            refine gf_Mo_visited hF hK hP m_224 d_Mo_point_148 ?_
            refine lv_aload_n hx hb d_Mo_point_151 rfl (lv_at hl 1 rfl) ?_
            refine gf_Mo_points hF hK hP m_194 d_Mo_point_152 ?_
            refine lv_iconst (v := (-1)) hx hb d_Mo_point_155 (by decide) ?_
            have k156 := h
            refine asM_10 hF hK hP hL hS k156 d_Mo_point_156 (fun H locs hP hS => ?_)
            refine lv_aload_n hx hb d_Mo_point_157 rfl (lv_at hl 1 rfl) ?_
            refine lv_dup hx hb d_Mo_point_158 rfl ?_
            refine gf_Mo_points hF hK hP m_194 d_Mo_point_159 ?_
            refine lv_iconst (v := 1) hx hb d_Mo_point_162 (by decide) ?_
            refine lv_iadd hx hb d_Mo_point_163 ?_
            refine pf_Mo_points hF hK hP hL hS m_194 d_Mo_point_164 (fun H locs hP hS => ?_)
            refine lv_aload_n hx hb d_Mo_point_167 rfl (lv_at hl 1 rfl) ?_
            refine gf_Mo_points hF hK hP m_194 d_Mo_point_168 ?_
            refine lv_iconst (v := 1) hx hb d_Mo_point_171 (by decide) ?_
            refine lv_isub hx hb d_Mo_point_172 ?_
            have hv : ((((sg ((f_Mo_throwing ar sc 1 1 0).2.2) 2 ((((f_Mo_throwing ar sc 1 1 0).2.2) 2) + 1)) 2) - 1, s2 (s2 (s2 (s2 (s2 (s2 ((f_Mo_throwing ar sc 1 1 0).2.1) 5 ((((f_Mo_throwing ar sc 1 1 0).2.2) 2).toNatClampNeg) a0) 6 ((((f_Mo_throwing ar sc 1 1 0).2.2) 2).toNatClampNeg) a1) 7 ((((f_Mo_throwing ar sc 1 1 0).2.2) 2).toNatClampNeg) a2) 8 ((((f_Mo_throwing ar sc 1 1 0).2.2) 2).toNatClampNeg) a3) 9 ((((f_Mo_throwing ar sc 1 1 0).2.2) 2).toNatClampNeg) a4) 10 ((((f_Mo_throwing ar sc 1 1 0).2.2) 2).toNatClampNeg) (-1), sg ((f_Mo_throwing ar sc 1 1 0).2.2) 2 ((((f_Mo_throwing ar sc 1 1 0).2.2) 2) + 1)) : Int32 × (Nat → Nat → Int32) × (Nat → Int32)) = f_Mo_point ar sc a0 a1 a2 a3 a4 := by rw [f_Mo_point, if_neg c8, if_pos c18, if_pos c63, if_neg c79, if_pos c90]
            exact W.iret (v := ((sg ((f_Mo_throwing ar sc 1 1 0).2.2) 2 ((((f_Mo_throwing ar sc 1 1 0).2.2) 2) + 1)) 2) - 1) hx hb hr (fun t ht hW => ⟨⟨((sg ((f_Mo_throwing ar sc 1 1 0).2.2) 2 ((((f_Mo_throwing ar sc 1 1 0).2.2) 2) + 1)) 2) - 1, (s2 (s2 (s2 (s2 (s2 (s2 ((f_Mo_throwing ar sc 1 1 0).2.1) 5 ((((f_Mo_throwing ar sc 1 1 0).2.2) 2).toNatClampNeg) a0) 6 ((((f_Mo_throwing ar sc 1 1 0).2.2) 2).toNatClampNeg) a1) 7 ((((f_Mo_throwing ar sc 1 1 0).2.2) 2).toNatClampNeg) a2) 8 ((((f_Mo_throwing ar sc 1 1 0).2.2) 2).toNatClampNeg) a3) 9 ((((f_Mo_throwing ar sc 1 1 0).2.2) 2).toNatClampNeg) a4) 10 ((((f_Mo_throwing ar sc 1 1 0).2.2) 2).toNatClampNeg) (-1), sg ((f_Mo_throwing ar sc 1 1 0).2.2) 2 ((((f_Mo_throwing ar sc 1 1 0).2.2) 2) + 1)), rfl, hv, by dsimp only; rw [ht]; exact hP⟩, hS.F ht⟩) hS.2.2 d_Mo_point_173
          · have h := h.2 c90
            refine lv_iconst (v := 0) hx hb d_Mo_point_93 (by decide) ?_
            have hv : ((0, (f_Mo_throwing ar sc 1 1 0).2.1, (f_Mo_throwing ar sc 1 1 0).2.2) : Int32 × (Nat → Nat → Int32) × (Nat → Int32)) = f_Mo_point ar sc a0 a1 a2 a3 a4 := by rw [f_Mo_point, if_neg c8, if_pos c18, if_pos c63, if_neg c79, if_neg c90]
            exact W.iret (v := 0) hx hb hr (fun t ht hW => ⟨⟨0, ((f_Mo_throwing ar sc 1 1 0).2.1, (f_Mo_throwing ar sc 1 1 0).2.2), rfl, hv, by dsimp only; rw [ht]; exact hP⟩, hS.F ht⟩) hS.2.2 d_Mo_point_94
        · have h := h.1 c79
          refine lv_iconst (v := 1) hx hb d_Mo_point_82 (by decide) ?_
          refine lv_goto (tgt := 87) hx hb d_Mo_point_83 (by decide) ?_
          refine r_Mo_throwing hF hK hP hL hS m_283 hl.1 ⟨Nat.le_of_ble_eq_true rfl, Nat.le_of_ble_eq_true rfl⟩ ⟨Nat.zero_le _, Nat.zero_le _⟩ (Nat.le_of_ble_eq_true rfl) d_Mo_point_87 (fun H locs hP hS => ?_)
          refine lv_if_eq (tgt := 95) hx hb d_Mo_point_90 (by decide) (fun c90 => ?_) (fun c90 => ?_)
          · have h := h.1 c90
            refine lv_aload_n hx hb d_Mo_point_95 rfl (lv_at hl 1 rfl) ?_
            refine gf_Mo_kind hF hK hP m_210 d_Mo_point_96 ?_
            refine lv_aload_n hx hb d_Mo_point_99 rfl (lv_at hl 1 rfl) ?_
            refine gf_Mo_points hF hK hP m_194 d_Mo_point_100 ?_
            refine lv_iload_n hx hb d_Mo_point_103 rfl (lv_at hl 2 rfl) ?_
            have k104 := h.1
            have h := h.2
            refine asM_5 hF hK hP hL hS k104 d_Mo_point_104 (fun H locs hP hS => ?_)
            refine lv_aload_n hx hb d_Mo_point_105 rfl (lv_at hl 1 rfl) ?_
            refine gf_Mo_height hF hK hP m_211 d_Mo_point_106 ?_
            refine lv_aload_n hx hb d_Mo_point_109 rfl (lv_at hl 1 rfl) ?_
            refine gf_Mo_points hF hK hP m_194 d_Mo_point_110 ?_
            refine lv_iload_n hx hb d_Mo_point_113 rfl (lv_at hl 3 rfl) ?_
            have k114 := h.1
            have h := h.2
            refine asM_6 hF hK hP hL hS k114 d_Mo_point_114 (fun H locs hP hS => ?_)
            refine lv_aload_n hx hb d_Mo_point_115 rfl (lv_at hl 1 rfl) ?_
            refine gf_Mo_people hF hK hP m_212 d_Mo_point_116 ?_
            refine lv_aload_n hx hb d_Mo_point_119 rfl (lv_at hl 1 rfl) ?_
            refine gf_Mo_points hF hK hP m_194 d_Mo_point_120 ?_
            refine lv_iload_n hx hb d_Mo_point_123 rfl (lv_at hl 4 rfl) ?_
            have k124 := h.1
            have h := h.2
            refine asM_7 hF hK hP hL hS k124 d_Mo_point_124 (fun H locs hP hS => ?_)
            refine lv_aload_n hx hb d_Mo_point_125 rfl (lv_at hl 1 rfl) ?_
            refine gf_Mo_px hF hK hP m_243 d_Mo_point_126 ?_
            refine lv_aload_n hx hb d_Mo_point_129 rfl (lv_at hl 1 rfl) ?_
            refine gf_Mo_points hF hK hP m_194 d_Mo_point_130 ?_
            refine lv_iload hx hb d_Mo_point_133 (lv_at hl 5 rfl) ?_
            have k135 := h.1
            have h := h.2
            refine asM_8 hF hK hP hL hS k135 d_Mo_point_135 (fun H locs hP hS => ?_)
            refine lv_aload_n hx hb d_Mo_point_136 rfl (lv_at hl 1 rfl) ?_
            refine gf_Mo_py hF hK hP m_245 d_Mo_point_137 ?_
            refine lv_aload_n hx hb d_Mo_point_140 rfl (lv_at hl 1 rfl) ?_
            refine gf_Mo_points hF hK hP m_194 d_Mo_point_141 ?_
            refine lv_iload hx hb d_Mo_point_144 (lv_at hl 6 rfl) ?_
            have k146 := h.1
            have h := h.2
            refine asM_9 hF hK hP hL hS k146 d_Mo_point_146 (fun H locs hP hS => ?_)
            refine lv_aload_n hx hb d_Mo_point_147 rfl (lv_at hl 1 rfl) ?_
            refine gf_Mo_visited hF hK hP m_224 d_Mo_point_148 ?_
            refine lv_aload_n hx hb d_Mo_point_151 rfl (lv_at hl 1 rfl) ?_
            refine gf_Mo_points hF hK hP m_194 d_Mo_point_152 ?_
            refine lv_iconst (v := (-1)) hx hb d_Mo_point_155 (by decide) ?_
            have k156 := h
            refine asM_10 hF hK hP hL hS k156 d_Mo_point_156 (fun H locs hP hS => ?_)
            refine lv_aload_n hx hb d_Mo_point_157 rfl (lv_at hl 1 rfl) ?_
            refine lv_dup hx hb d_Mo_point_158 rfl ?_
            refine gf_Mo_points hF hK hP m_194 d_Mo_point_159 ?_
            refine lv_iconst (v := 1) hx hb d_Mo_point_162 (by decide) ?_
            refine lv_iadd hx hb d_Mo_point_163 ?_
            refine pf_Mo_points hF hK hP hL hS m_194 d_Mo_point_164 (fun H locs hP hS => ?_)
            refine lv_aload_n hx hb d_Mo_point_167 rfl (lv_at hl 1 rfl) ?_
            refine gf_Mo_points hF hK hP m_194 d_Mo_point_168 ?_
            refine lv_iconst (v := 1) hx hb d_Mo_point_171 (by decide) ?_
            refine lv_isub hx hb d_Mo_point_172 ?_
            have hv : ((((sg ((f_Mo_throwing ar sc 1 1 1).2.2) 2 ((((f_Mo_throwing ar sc 1 1 1).2.2) 2) + 1)) 2) - 1, s2 (s2 (s2 (s2 (s2 (s2 ((f_Mo_throwing ar sc 1 1 1).2.1) 5 ((((f_Mo_throwing ar sc 1 1 1).2.2) 2).toNatClampNeg) a0) 6 ((((f_Mo_throwing ar sc 1 1 1).2.2) 2).toNatClampNeg) a1) 7 ((((f_Mo_throwing ar sc 1 1 1).2.2) 2).toNatClampNeg) a2) 8 ((((f_Mo_throwing ar sc 1 1 1).2.2) 2).toNatClampNeg) a3) 9 ((((f_Mo_throwing ar sc 1 1 1).2.2) 2).toNatClampNeg) a4) 10 ((((f_Mo_throwing ar sc 1 1 1).2.2) 2).toNatClampNeg) (-1), sg ((f_Mo_throwing ar sc 1 1 1).2.2) 2 ((((f_Mo_throwing ar sc 1 1 1).2.2) 2) + 1)) : Int32 × (Nat → Nat → Int32) × (Nat → Int32)) = f_Mo_point ar sc a0 a1 a2 a3 a4 := by rw [f_Mo_point, if_neg c8, if_pos c18, if_pos c63, if_pos c79, if_pos c90]
            exact W.iret (v := ((sg ((f_Mo_throwing ar sc 1 1 1).2.2) 2 ((((f_Mo_throwing ar sc 1 1 1).2.2) 2) + 1)) 2) - 1) hx hb hr (fun t ht hW => ⟨⟨((sg ((f_Mo_throwing ar sc 1 1 1).2.2) 2 ((((f_Mo_throwing ar sc 1 1 1).2.2) 2) + 1)) 2) - 1, (s2 (s2 (s2 (s2 (s2 (s2 ((f_Mo_throwing ar sc 1 1 1).2.1) 5 ((((f_Mo_throwing ar sc 1 1 1).2.2) 2).toNatClampNeg) a0) 6 ((((f_Mo_throwing ar sc 1 1 1).2.2) 2).toNatClampNeg) a1) 7 ((((f_Mo_throwing ar sc 1 1 1).2.2) 2).toNatClampNeg) a2) 8 ((((f_Mo_throwing ar sc 1 1 1).2.2) 2).toNatClampNeg) a3) 9 ((((f_Mo_throwing ar sc 1 1 1).2.2) 2).toNatClampNeg) a4) 10 ((((f_Mo_throwing ar sc 1 1 1).2.2) 2).toNatClampNeg) (-1), sg ((f_Mo_throwing ar sc 1 1 1).2.2) 2 ((((f_Mo_throwing ar sc 1 1 1).2.2) 2) + 1)), rfl, hv, by dsimp only; rw [ht]; exact hP⟩, hS.F ht⟩) hS.2.2 d_Mo_point_173
          · have h := h.2 c90
            refine lv_iconst (v := 0) hx hb d_Mo_point_93 (by decide) ?_
            have hv : ((0, (f_Mo_throwing ar sc 1 1 1).2.1, (f_Mo_throwing ar sc 1 1 1).2.2) : Int32 × (Nat → Nat → Int32) × (Nat → Int32)) = f_Mo_point ar sc a0 a1 a2 a3 a4 := by rw [f_Mo_point, if_neg c8, if_pos c18, if_pos c63, if_pos c79, if_neg c90]
            exact W.iret (v := 0) hx hb hr (fun t ht hW => ⟨⟨0, ((f_Mo_throwing ar sc 1 1 1).2.1, (f_Mo_throwing ar sc 1 1 1).2.2), rfl, hv, by dsimp only; rw [ht]; exact hP⟩, hS.F ht⟩) hS.2.2 d_Mo_point_94
    · have h := h.2 c18
      refine lv_iload hx hb d_Mo_point_21 (lv_at hl 4 rfl) ?_
      refine lv_sipush (v := (-10000)) hx hb d_Mo_point_23 (by decide) ?_
      refine lv_sipush (v := 10000) hx hb d_Mo_point_26 (by decide) ?_
      refine r_Mo_in hF m_195 hl.1 ⟨Nat.le_of_ble_eq_true rfl, Nat.le_of_ble_eq_true rfl⟩ ⟨Nat.zero_le _, Nat.zero_le _⟩ (Nat.le_of_ble_eq_true rfl) d_Mo_point_29 ?_
      refine lv_if_eq (tgt := 49) hx hb d_Mo_point_32 (by decide) (fun c32 => ?_) (fun c32 => ?_)
      · have h := h.1 c32
        refine lv_iconst (v := 1) hx hb d_Mo_point_49 (by decide) ?_
        refine lv_goto (tgt := 54) hx hb d_Mo_point_50 (by decide) ?_
        refine lv_istore (lv' := [(6, .int 1), (0, .ref (L 0)), (1, .int a0), (2, .int a1), (3, .int a2), (4, .int a3), (5, .int a4)]) hx hb d_Mo_point_54 hl (by decide) rfl (fun ls hl => ?_)
        refine lv_aload_n hx hb d_Mo_point_56 rfl (lv_at hl 1 rfl) ?_
        refine lv_iload_n hx hb d_Mo_point_57 rfl (lv_at hl 2 rfl) ?_
        refine lv_iconst (v := 0) hx hb d_Mo_point_58 (by decide) ?_
        refine lv_iconst (v := 4) hx hb d_Mo_point_59 (by decide) ?_
        refine r_Mo_in hF m_195 hl.1 ⟨Nat.le_of_ble_eq_true rfl, Nat.le_of_ble_eq_true rfl⟩ ⟨Nat.zero_le _, Nat.zero_le _⟩ (Nat.le_of_ble_eq_true rfl) d_Mo_point_60 ?_
        refine lv_if_ne (tgt := 70) hx hb d_Mo_point_63 (by decide) (fun c63 => ?_) (fun c63 => ?_)
        · have h := h.2 c63
          refine lv_iconst (v := 0) hx hb d_Mo_point_70 (by decide) ?_
          refine lv_iload hx hb d_Mo_point_71 (lv_at hl 0 rfl) ?_
          refine lv_aload_n hx hb d_Mo_point_73 rfl (lv_at hl 1 rfl) ?_
          refine gf_Mo_points hF hK hP m_194 d_Mo_point_74 ?_
          refine lv_bipush (v := 30) hx hb d_Mo_point_77 (by decide) ?_
          refine lv_icmp_ne (tgt := 86) hx hb d_Mo_point_79 (by decide) (fun c79 => ?_) (fun c79 => ?_)
          · have h := h.2 c79
            refine lv_iconst (v := 0) hx hb d_Mo_point_86 (by decide) ?_
            refine r_Mo_throwing hF hK hP hL hS m_283 hl.1 ⟨Nat.le_of_ble_eq_true rfl, Nat.le_of_ble_eq_true rfl⟩ ⟨Nat.zero_le _, Nat.zero_le _⟩ (Nat.le_of_ble_eq_true rfl) d_Mo_point_87 (fun H locs hP hS => ?_)
            refine lv_if_eq (tgt := 95) hx hb d_Mo_point_90 (by decide) (fun c90 => ?_) (fun c90 => ?_)
            · have h := h.1 c90
              refine lv_aload_n hx hb d_Mo_point_95 rfl (lv_at hl 1 rfl) ?_
              refine gf_Mo_kind hF hK hP m_210 d_Mo_point_96 ?_
              refine lv_aload_n hx hb d_Mo_point_99 rfl (lv_at hl 1 rfl) ?_
              refine gf_Mo_points hF hK hP m_194 d_Mo_point_100 ?_
              refine lv_iload_n hx hb d_Mo_point_103 rfl (lv_at hl 2 rfl) ?_
              have k104 := h.1
              have h := h.2
              refine asM_5 hF hK hP hL hS k104 d_Mo_point_104 (fun H locs hP hS => ?_)
              refine lv_aload_n hx hb d_Mo_point_105 rfl (lv_at hl 1 rfl) ?_
              refine gf_Mo_height hF hK hP m_211 d_Mo_point_106 ?_
              refine lv_aload_n hx hb d_Mo_point_109 rfl (lv_at hl 1 rfl) ?_
              refine gf_Mo_points hF hK hP m_194 d_Mo_point_110 ?_
              refine lv_iload_n hx hb d_Mo_point_113 rfl (lv_at hl 3 rfl) ?_
              have k114 := h.1
              have h := h.2
              refine asM_6 hF hK hP hL hS k114 d_Mo_point_114 (fun H locs hP hS => ?_)
              refine lv_aload_n hx hb d_Mo_point_115 rfl (lv_at hl 1 rfl) ?_
              refine gf_Mo_people hF hK hP m_212 d_Mo_point_116 ?_
              refine lv_aload_n hx hb d_Mo_point_119 rfl (lv_at hl 1 rfl) ?_
              refine gf_Mo_points hF hK hP m_194 d_Mo_point_120 ?_
              refine lv_iload_n hx hb d_Mo_point_123 rfl (lv_at hl 4 rfl) ?_
              have k124 := h.1
              have h := h.2
              refine asM_7 hF hK hP hL hS k124 d_Mo_point_124 (fun H locs hP hS => ?_)
              refine lv_aload_n hx hb d_Mo_point_125 rfl (lv_at hl 1 rfl) ?_
              refine gf_Mo_px hF hK hP m_243 d_Mo_point_126 ?_
              refine lv_aload_n hx hb d_Mo_point_129 rfl (lv_at hl 1 rfl) ?_
              refine gf_Mo_points hF hK hP m_194 d_Mo_point_130 ?_
              refine lv_iload hx hb d_Mo_point_133 (lv_at hl 5 rfl) ?_
              have k135 := h.1
              have h := h.2
              refine asM_8 hF hK hP hL hS k135 d_Mo_point_135 (fun H locs hP hS => ?_)
              refine lv_aload_n hx hb d_Mo_point_136 rfl (lv_at hl 1 rfl) ?_
              refine gf_Mo_py hF hK hP m_245 d_Mo_point_137 ?_
              refine lv_aload_n hx hb d_Mo_point_140 rfl (lv_at hl 1 rfl) ?_
              refine gf_Mo_points hF hK hP m_194 d_Mo_point_141 ?_
              refine lv_iload hx hb d_Mo_point_144 (lv_at hl 6 rfl) ?_
              have k146 := h.1
              have h := h.2
              refine asM_9 hF hK hP hL hS k146 d_Mo_point_146 (fun H locs hP hS => ?_)
              refine lv_aload_n hx hb d_Mo_point_147 rfl (lv_at hl 1 rfl) ?_
              refine gf_Mo_visited hF hK hP m_224 d_Mo_point_148 ?_
              refine lv_aload_n hx hb d_Mo_point_151 rfl (lv_at hl 1 rfl) ?_
              refine gf_Mo_points hF hK hP m_194 d_Mo_point_152 ?_
              refine lv_iconst (v := (-1)) hx hb d_Mo_point_155 (by decide) ?_
              have k156 := h
              refine asM_10 hF hK hP hL hS k156 d_Mo_point_156 (fun H locs hP hS => ?_)
              refine lv_aload_n hx hb d_Mo_point_157 rfl (lv_at hl 1 rfl) ?_
              refine lv_dup hx hb d_Mo_point_158 rfl ?_
              refine gf_Mo_points hF hK hP m_194 d_Mo_point_159 ?_
              refine lv_iconst (v := 1) hx hb d_Mo_point_162 (by decide) ?_
              refine lv_iadd hx hb d_Mo_point_163 ?_
              refine pf_Mo_points hF hK hP hL hS m_194 d_Mo_point_164 (fun H locs hP hS => ?_)
              refine lv_aload_n hx hb d_Mo_point_167 rfl (lv_at hl 1 rfl) ?_
              refine gf_Mo_points hF hK hP m_194 d_Mo_point_168 ?_
              refine lv_iconst (v := 1) hx hb d_Mo_point_171 (by decide) ?_
              refine lv_isub hx hb d_Mo_point_172 ?_
              have hv : ((((sg ((f_Mo_throwing ar sc 0 1 0).2.2) 2 ((((f_Mo_throwing ar sc 0 1 0).2.2) 2) + 1)) 2) - 1, s2 (s2 (s2 (s2 (s2 (s2 ((f_Mo_throwing ar sc 0 1 0).2.1) 5 ((((f_Mo_throwing ar sc 0 1 0).2.2) 2).toNatClampNeg) a0) 6 ((((f_Mo_throwing ar sc 0 1 0).2.2) 2).toNatClampNeg) a1) 7 ((((f_Mo_throwing ar sc 0 1 0).2.2) 2).toNatClampNeg) a2) 8 ((((f_Mo_throwing ar sc 0 1 0).2.2) 2).toNatClampNeg) a3) 9 ((((f_Mo_throwing ar sc 0 1 0).2.2) 2).toNatClampNeg) a4) 10 ((((f_Mo_throwing ar sc 0 1 0).2.2) 2).toNatClampNeg) (-1), sg ((f_Mo_throwing ar sc 0 1 0).2.2) 2 ((((f_Mo_throwing ar sc 0 1 0).2.2) 2) + 1)) : Int32 × (Nat → Nat → Int32) × (Nat → Int32)) = f_Mo_point ar sc a0 a1 a2 a3 a4 := by rw [f_Mo_point, if_neg c8, if_neg c18, if_pos c32, if_neg c63, if_neg c79, if_pos c90]
              exact W.iret (v := ((sg ((f_Mo_throwing ar sc 0 1 0).2.2) 2 ((((f_Mo_throwing ar sc 0 1 0).2.2) 2) + 1)) 2) - 1) hx hb hr (fun t ht hW => ⟨⟨((sg ((f_Mo_throwing ar sc 0 1 0).2.2) 2 ((((f_Mo_throwing ar sc 0 1 0).2.2) 2) + 1)) 2) - 1, (s2 (s2 (s2 (s2 (s2 (s2 ((f_Mo_throwing ar sc 0 1 0).2.1) 5 ((((f_Mo_throwing ar sc 0 1 0).2.2) 2).toNatClampNeg) a0) 6 ((((f_Mo_throwing ar sc 0 1 0).2.2) 2).toNatClampNeg) a1) 7 ((((f_Mo_throwing ar sc 0 1 0).2.2) 2).toNatClampNeg) a2) 8 ((((f_Mo_throwing ar sc 0 1 0).2.2) 2).toNatClampNeg) a3) 9 ((((f_Mo_throwing ar sc 0 1 0).2.2) 2).toNatClampNeg) a4) 10 ((((f_Mo_throwing ar sc 0 1 0).2.2) 2).toNatClampNeg) (-1), sg ((f_Mo_throwing ar sc 0 1 0).2.2) 2 ((((f_Mo_throwing ar sc 0 1 0).2.2) 2) + 1)), rfl, hv, by dsimp only; rw [ht]; exact hP⟩, hS.F ht⟩) hS.2.2 d_Mo_point_173
            · have h := h.2 c90
              refine lv_iconst (v := 0) hx hb d_Mo_point_93 (by decide) ?_
              have hv : ((0, (f_Mo_throwing ar sc 0 1 0).2.1, (f_Mo_throwing ar sc 0 1 0).2.2) : Int32 × (Nat → Nat → Int32) × (Nat → Int32)) = f_Mo_point ar sc a0 a1 a2 a3 a4 := by rw [f_Mo_point, if_neg c8, if_neg c18, if_pos c32, if_neg c63, if_neg c79, if_neg c90]
              exact W.iret (v := 0) hx hb hr (fun t ht hW => ⟨⟨0, ((f_Mo_throwing ar sc 0 1 0).2.1, (f_Mo_throwing ar sc 0 1 0).2.2), rfl, hv, by dsimp only; rw [ht]; exact hP⟩, hS.F ht⟩) hS.2.2 d_Mo_point_94
          · have h := h.1 c79
            refine lv_iconst (v := 1) hx hb d_Mo_point_82 (by decide) ?_
            refine lv_goto (tgt := 87) hx hb d_Mo_point_83 (by decide) ?_
            refine r_Mo_throwing hF hK hP hL hS m_283 hl.1 ⟨Nat.le_of_ble_eq_true rfl, Nat.le_of_ble_eq_true rfl⟩ ⟨Nat.zero_le _, Nat.zero_le _⟩ (Nat.le_of_ble_eq_true rfl) d_Mo_point_87 (fun H locs hP hS => ?_)
            refine lv_if_eq (tgt := 95) hx hb d_Mo_point_90 (by decide) (fun c90 => ?_) (fun c90 => ?_)
            · have h := h.1 c90
              refine lv_aload_n hx hb d_Mo_point_95 rfl (lv_at hl 1 rfl) ?_
              refine gf_Mo_kind hF hK hP m_210 d_Mo_point_96 ?_
              refine lv_aload_n hx hb d_Mo_point_99 rfl (lv_at hl 1 rfl) ?_
              refine gf_Mo_points hF hK hP m_194 d_Mo_point_100 ?_
              refine lv_iload_n hx hb d_Mo_point_103 rfl (lv_at hl 2 rfl) ?_
              have k104 := h.1
              have h := h.2
              refine asM_5 hF hK hP hL hS k104 d_Mo_point_104 (fun H locs hP hS => ?_)
              refine lv_aload_n hx hb d_Mo_point_105 rfl (lv_at hl 1 rfl) ?_
              refine gf_Mo_height hF hK hP m_211 d_Mo_point_106 ?_
              refine lv_aload_n hx hb d_Mo_point_109 rfl (lv_at hl 1 rfl) ?_
              refine gf_Mo_points hF hK hP m_194 d_Mo_point_110 ?_
              refine lv_iload_n hx hb d_Mo_point_113 rfl (lv_at hl 3 rfl) ?_
              have k114 := h.1
              have h := h.2
              refine asM_6 hF hK hP hL hS k114 d_Mo_point_114 (fun H locs hP hS => ?_)
              refine lv_aload_n hx hb d_Mo_point_115 rfl (lv_at hl 1 rfl) ?_
              refine gf_Mo_people hF hK hP m_212 d_Mo_point_116 ?_
              refine lv_aload_n hx hb d_Mo_point_119 rfl (lv_at hl 1 rfl) ?_
              refine gf_Mo_points hF hK hP m_194 d_Mo_point_120 ?_
              refine lv_iload_n hx hb d_Mo_point_123 rfl (lv_at hl 4 rfl) ?_
              have k124 := h.1
              have h := h.2
              refine asM_7 hF hK hP hL hS k124 d_Mo_point_124 (fun H locs hP hS => ?_)
              refine lv_aload_n hx hb d_Mo_point_125 rfl (lv_at hl 1 rfl) ?_
              refine gf_Mo_px hF hK hP m_243 d_Mo_point_126 ?_
              refine lv_aload_n hx hb d_Mo_point_129 rfl (lv_at hl 1 rfl) ?_
              refine gf_Mo_points hF hK hP m_194 d_Mo_point_130 ?_
              refine lv_iload hx hb d_Mo_point_133 (lv_at hl 5 rfl) ?_
              have k135 := h.1
              have h := h.2
              refine asM_8 hF hK hP hL hS k135 d_Mo_point_135 (fun H locs hP hS => ?_)
              refine lv_aload_n hx hb d_Mo_point_136 rfl (lv_at hl 1 rfl) ?_
              refine gf_Mo_py hF hK hP m_245 d_Mo_point_137 ?_
              refine lv_aload_n hx hb d_Mo_point_140 rfl (lv_at hl 1 rfl) ?_
              refine gf_Mo_points hF hK hP m_194 d_Mo_point_141 ?_
              refine lv_iload hx hb d_Mo_point_144 (lv_at hl 6 rfl) ?_
              have k146 := h.1
              have h := h.2
              refine asM_9 hF hK hP hL hS k146 d_Mo_point_146 (fun H locs hP hS => ?_)
              refine lv_aload_n hx hb d_Mo_point_147 rfl (lv_at hl 1 rfl) ?_
              refine gf_Mo_visited hF hK hP m_224 d_Mo_point_148 ?_
              refine lv_aload_n hx hb d_Mo_point_151 rfl (lv_at hl 1 rfl) ?_
              refine gf_Mo_points hF hK hP m_194 d_Mo_point_152 ?_
              refine lv_iconst (v := (-1)) hx hb d_Mo_point_155 (by decide) ?_
              have k156 := h
              refine asM_10 hF hK hP hL hS k156 d_Mo_point_156 (fun H locs hP hS => ?_)
              refine lv_aload_n hx hb d_Mo_point_157 rfl (lv_at hl 1 rfl) ?_
              refine lv_dup hx hb d_Mo_point_158 rfl ?_
              refine gf_Mo_points hF hK hP m_194 d_Mo_point_159 ?_
              refine lv_iconst (v := 1) hx hb d_Mo_point_162 (by decide) ?_
              refine lv_iadd hx hb d_Mo_point_163 ?_
              refine pf_Mo_points hF hK hP hL hS m_194 d_Mo_point_164 (fun H locs hP hS => ?_)
              refine lv_aload_n hx hb d_Mo_point_167 rfl (lv_at hl 1 rfl) ?_
              refine gf_Mo_points hF hK hP m_194 d_Mo_point_168 ?_
              refine lv_iconst (v := 1) hx hb d_Mo_point_171 (by decide) ?_
              refine lv_isub hx hb d_Mo_point_172 ?_
              have hv : ((((sg ((f_Mo_throwing ar sc 0 1 1).2.2) 2 ((((f_Mo_throwing ar sc 0 1 1).2.2) 2) + 1)) 2) - 1, s2 (s2 (s2 (s2 (s2 (s2 ((f_Mo_throwing ar sc 0 1 1).2.1) 5 ((((f_Mo_throwing ar sc 0 1 1).2.2) 2).toNatClampNeg) a0) 6 ((((f_Mo_throwing ar sc 0 1 1).2.2) 2).toNatClampNeg) a1) 7 ((((f_Mo_throwing ar sc 0 1 1).2.2) 2).toNatClampNeg) a2) 8 ((((f_Mo_throwing ar sc 0 1 1).2.2) 2).toNatClampNeg) a3) 9 ((((f_Mo_throwing ar sc 0 1 1).2.2) 2).toNatClampNeg) a4) 10 ((((f_Mo_throwing ar sc 0 1 1).2.2) 2).toNatClampNeg) (-1), sg ((f_Mo_throwing ar sc 0 1 1).2.2) 2 ((((f_Mo_throwing ar sc 0 1 1).2.2) 2) + 1)) : Int32 × (Nat → Nat → Int32) × (Nat → Int32)) = f_Mo_point ar sc a0 a1 a2 a3 a4 := by rw [f_Mo_point, if_neg c8, if_neg c18, if_pos c32, if_neg c63, if_pos c79, if_pos c90]
              exact W.iret (v := ((sg ((f_Mo_throwing ar sc 0 1 1).2.2) 2 ((((f_Mo_throwing ar sc 0 1 1).2.2) 2) + 1)) 2) - 1) hx hb hr (fun t ht hW => ⟨⟨((sg ((f_Mo_throwing ar sc 0 1 1).2.2) 2 ((((f_Mo_throwing ar sc 0 1 1).2.2) 2) + 1)) 2) - 1, (s2 (s2 (s2 (s2 (s2 (s2 ((f_Mo_throwing ar sc 0 1 1).2.1) 5 ((((f_Mo_throwing ar sc 0 1 1).2.2) 2).toNatClampNeg) a0) 6 ((((f_Mo_throwing ar sc 0 1 1).2.2) 2).toNatClampNeg) a1) 7 ((((f_Mo_throwing ar sc 0 1 1).2.2) 2).toNatClampNeg) a2) 8 ((((f_Mo_throwing ar sc 0 1 1).2.2) 2).toNatClampNeg) a3) 9 ((((f_Mo_throwing ar sc 0 1 1).2.2) 2).toNatClampNeg) a4) 10 ((((f_Mo_throwing ar sc 0 1 1).2.2) 2).toNatClampNeg) (-1), sg ((f_Mo_throwing ar sc 0 1 1).2.2) 2 ((((f_Mo_throwing ar sc 0 1 1).2.2) 2) + 1)), rfl, hv, by dsimp only; rw [ht]; exact hP⟩, hS.F ht⟩) hS.2.2 d_Mo_point_173
            · have h := h.2 c90
              refine lv_iconst (v := 0) hx hb d_Mo_point_93 (by decide) ?_
              have hv : ((0, (f_Mo_throwing ar sc 0 1 1).2.1, (f_Mo_throwing ar sc 0 1 1).2.2) : Int32 × (Nat → Nat → Int32) × (Nat → Int32)) = f_Mo_point ar sc a0 a1 a2 a3 a4 := by rw [f_Mo_point, if_neg c8, if_neg c18, if_pos c32, if_neg c63, if_pos c79, if_neg c90]
              exact W.iret (v := 0) hx hb hr (fun t ht hW => ⟨⟨0, ((f_Mo_throwing ar sc 0 1 1).2.1, (f_Mo_throwing ar sc 0 1 1).2.2), rfl, hv, by dsimp only; rw [ht]; exact hP⟩, hS.F ht⟩) hS.2.2 d_Mo_point_94
        · have h := h.1 c63
          refine lv_iconst (v := 1) hx hb d_Mo_point_66 (by decide) ?_
          refine lv_goto (tgt := 71) hx hb d_Mo_point_67 (by decide) ?_
          refine lv_iload hx hb d_Mo_point_71 (lv_at hl 0 rfl) ?_
          refine lv_aload_n hx hb d_Mo_point_73 rfl (lv_at hl 1 rfl) ?_
          refine gf_Mo_points hF hK hP m_194 d_Mo_point_74 ?_
          refine lv_bipush (v := 30) hx hb d_Mo_point_77 (by decide) ?_
          refine lv_icmp_ne (tgt := 86) hx hb d_Mo_point_79 (by decide) (fun c79 => ?_) (fun c79 => ?_)
          · have h := h.2 c79
            refine lv_iconst (v := 0) hx hb d_Mo_point_86 (by decide) ?_
            refine r_Mo_throwing hF hK hP hL hS m_283 hl.1 ⟨Nat.le_of_ble_eq_true rfl, Nat.le_of_ble_eq_true rfl⟩ ⟨Nat.zero_le _, Nat.zero_le _⟩ (Nat.le_of_ble_eq_true rfl) d_Mo_point_87 (fun H locs hP hS => ?_)
            refine lv_if_eq (tgt := 95) hx hb d_Mo_point_90 (by decide) (fun c90 => ?_) (fun c90 => ?_)
            · have h := h.1 c90
              refine lv_aload_n hx hb d_Mo_point_95 rfl (lv_at hl 1 rfl) ?_
              refine gf_Mo_kind hF hK hP m_210 d_Mo_point_96 ?_
              refine lv_aload_n hx hb d_Mo_point_99 rfl (lv_at hl 1 rfl) ?_
              refine gf_Mo_points hF hK hP m_194 d_Mo_point_100 ?_
              refine lv_iload_n hx hb d_Mo_point_103 rfl (lv_at hl 2 rfl) ?_
              have k104 := h.1
              have h := h.2
              refine asM_5 hF hK hP hL hS k104 d_Mo_point_104 (fun H locs hP hS => ?_)
              refine lv_aload_n hx hb d_Mo_point_105 rfl (lv_at hl 1 rfl) ?_
              refine gf_Mo_height hF hK hP m_211 d_Mo_point_106 ?_
              refine lv_aload_n hx hb d_Mo_point_109 rfl (lv_at hl 1 rfl) ?_
              refine gf_Mo_points hF hK hP m_194 d_Mo_point_110 ?_
              refine lv_iload_n hx hb d_Mo_point_113 rfl (lv_at hl 3 rfl) ?_
              have k114 := h.1
              have h := h.2
              refine asM_6 hF hK hP hL hS k114 d_Mo_point_114 (fun H locs hP hS => ?_)
              refine lv_aload_n hx hb d_Mo_point_115 rfl (lv_at hl 1 rfl) ?_
              refine gf_Mo_people hF hK hP m_212 d_Mo_point_116 ?_
              refine lv_aload_n hx hb d_Mo_point_119 rfl (lv_at hl 1 rfl) ?_
              refine gf_Mo_points hF hK hP m_194 d_Mo_point_120 ?_
              refine lv_iload_n hx hb d_Mo_point_123 rfl (lv_at hl 4 rfl) ?_
              have k124 := h.1
              have h := h.2
              refine asM_7 hF hK hP hL hS k124 d_Mo_point_124 (fun H locs hP hS => ?_)
              refine lv_aload_n hx hb d_Mo_point_125 rfl (lv_at hl 1 rfl) ?_
              refine gf_Mo_px hF hK hP m_243 d_Mo_point_126 ?_
              refine lv_aload_n hx hb d_Mo_point_129 rfl (lv_at hl 1 rfl) ?_
              refine gf_Mo_points hF hK hP m_194 d_Mo_point_130 ?_
              refine lv_iload hx hb d_Mo_point_133 (lv_at hl 5 rfl) ?_
              have k135 := h.1
              have h := h.2
              refine asM_8 hF hK hP hL hS k135 d_Mo_point_135 (fun H locs hP hS => ?_)
              refine lv_aload_n hx hb d_Mo_point_136 rfl (lv_at hl 1 rfl) ?_
              refine gf_Mo_py hF hK hP m_245 d_Mo_point_137 ?_
              refine lv_aload_n hx hb d_Mo_point_140 rfl (lv_at hl 1 rfl) ?_
              refine gf_Mo_points hF hK hP m_194 d_Mo_point_141 ?_
              refine lv_iload hx hb d_Mo_point_144 (lv_at hl 6 rfl) ?_
              have k146 := h.1
              have h := h.2
              refine asM_9 hF hK hP hL hS k146 d_Mo_point_146 (fun H locs hP hS => ?_)
              refine lv_aload_n hx hb d_Mo_point_147 rfl (lv_at hl 1 rfl) ?_
              refine gf_Mo_visited hF hK hP m_224 d_Mo_point_148 ?_
              refine lv_aload_n hx hb d_Mo_point_151 rfl (lv_at hl 1 rfl) ?_
              refine gf_Mo_points hF hK hP m_194 d_Mo_point_152 ?_
              refine lv_iconst (v := (-1)) hx hb d_Mo_point_155 (by decide) ?_
              have k156 := h
              refine asM_10 hF hK hP hL hS k156 d_Mo_point_156 (fun H locs hP hS => ?_)
              refine lv_aload_n hx hb d_Mo_point_157 rfl (lv_at hl 1 rfl) ?_
              refine lv_dup hx hb d_Mo_point_158 rfl ?_
              refine gf_Mo_points hF hK hP m_194 d_Mo_point_159 ?_
              refine lv_iconst (v := 1) hx hb d_Mo_point_162 (by decide) ?_
              refine lv_iadd hx hb d_Mo_point_163 ?_
              refine pf_Mo_points hF hK hP hL hS m_194 d_Mo_point_164 (fun H locs hP hS => ?_)
              refine lv_aload_n hx hb d_Mo_point_167 rfl (lv_at hl 1 rfl) ?_
              refine gf_Mo_points hF hK hP m_194 d_Mo_point_168 ?_
              refine lv_iconst (v := 1) hx hb d_Mo_point_171 (by decide) ?_
              refine lv_isub hx hb d_Mo_point_172 ?_
              have hv : ((((sg ((f_Mo_throwing ar sc 1 1 0).2.2) 2 ((((f_Mo_throwing ar sc 1 1 0).2.2) 2) + 1)) 2) - 1, s2 (s2 (s2 (s2 (s2 (s2 ((f_Mo_throwing ar sc 1 1 0).2.1) 5 ((((f_Mo_throwing ar sc 1 1 0).2.2) 2).toNatClampNeg) a0) 6 ((((f_Mo_throwing ar sc 1 1 0).2.2) 2).toNatClampNeg) a1) 7 ((((f_Mo_throwing ar sc 1 1 0).2.2) 2).toNatClampNeg) a2) 8 ((((f_Mo_throwing ar sc 1 1 0).2.2) 2).toNatClampNeg) a3) 9 ((((f_Mo_throwing ar sc 1 1 0).2.2) 2).toNatClampNeg) a4) 10 ((((f_Mo_throwing ar sc 1 1 0).2.2) 2).toNatClampNeg) (-1), sg ((f_Mo_throwing ar sc 1 1 0).2.2) 2 ((((f_Mo_throwing ar sc 1 1 0).2.2) 2) + 1)) : Int32 × (Nat → Nat → Int32) × (Nat → Int32)) = f_Mo_point ar sc a0 a1 a2 a3 a4 := by rw [f_Mo_point, if_neg c8, if_neg c18, if_pos c32, if_pos c63, if_neg c79, if_pos c90]
              exact W.iret (v := ((sg ((f_Mo_throwing ar sc 1 1 0).2.2) 2 ((((f_Mo_throwing ar sc 1 1 0).2.2) 2) + 1)) 2) - 1) hx hb hr (fun t ht hW => ⟨⟨((sg ((f_Mo_throwing ar sc 1 1 0).2.2) 2 ((((f_Mo_throwing ar sc 1 1 0).2.2) 2) + 1)) 2) - 1, (s2 (s2 (s2 (s2 (s2 (s2 ((f_Mo_throwing ar sc 1 1 0).2.1) 5 ((((f_Mo_throwing ar sc 1 1 0).2.2) 2).toNatClampNeg) a0) 6 ((((f_Mo_throwing ar sc 1 1 0).2.2) 2).toNatClampNeg) a1) 7 ((((f_Mo_throwing ar sc 1 1 0).2.2) 2).toNatClampNeg) a2) 8 ((((f_Mo_throwing ar sc 1 1 0).2.2) 2).toNatClampNeg) a3) 9 ((((f_Mo_throwing ar sc 1 1 0).2.2) 2).toNatClampNeg) a4) 10 ((((f_Mo_throwing ar sc 1 1 0).2.2) 2).toNatClampNeg) (-1), sg ((f_Mo_throwing ar sc 1 1 0).2.2) 2 ((((f_Mo_throwing ar sc 1 1 0).2.2) 2) + 1)), rfl, hv, by dsimp only; rw [ht]; exact hP⟩, hS.F ht⟩) hS.2.2 d_Mo_point_173
            · have h := h.2 c90
              refine lv_iconst (v := 0) hx hb d_Mo_point_93 (by decide) ?_
              have hv : ((0, (f_Mo_throwing ar sc 1 1 0).2.1, (f_Mo_throwing ar sc 1 1 0).2.2) : Int32 × (Nat → Nat → Int32) × (Nat → Int32)) = f_Mo_point ar sc a0 a1 a2 a3 a4 := by rw [f_Mo_point, if_neg c8, if_neg c18, if_pos c32, if_pos c63, if_neg c79, if_neg c90]
              exact W.iret (v := 0) hx hb hr (fun t ht hW => ⟨⟨0, ((f_Mo_throwing ar sc 1 1 0).2.1, (f_Mo_throwing ar sc 1 1 0).2.2), rfl, hv, by dsimp only; rw [ht]; exact hP⟩, hS.F ht⟩) hS.2.2 d_Mo_point_94
          · have h := h.1 c79
            refine lv_iconst (v := 1) hx hb d_Mo_point_82 (by decide) ?_
            refine lv_goto (tgt := 87) hx hb d_Mo_point_83 (by decide) ?_
            refine r_Mo_throwing hF hK hP hL hS m_283 hl.1 ⟨Nat.le_of_ble_eq_true rfl, Nat.le_of_ble_eq_true rfl⟩ ⟨Nat.zero_le _, Nat.zero_le _⟩ (Nat.le_of_ble_eq_true rfl) d_Mo_point_87 (fun H locs hP hS => ?_)
            refine lv_if_eq (tgt := 95) hx hb d_Mo_point_90 (by decide) (fun c90 => ?_) (fun c90 => ?_)
            · have h := h.1 c90
              refine lv_aload_n hx hb d_Mo_point_95 rfl (lv_at hl 1 rfl) ?_
              refine gf_Mo_kind hF hK hP m_210 d_Mo_point_96 ?_
              refine lv_aload_n hx hb d_Mo_point_99 rfl (lv_at hl 1 rfl) ?_
              refine gf_Mo_points hF hK hP m_194 d_Mo_point_100 ?_
              refine lv_iload_n hx hb d_Mo_point_103 rfl (lv_at hl 2 rfl) ?_
              have k104 := h.1
              have h := h.2
              refine asM_5 hF hK hP hL hS k104 d_Mo_point_104 (fun H locs hP hS => ?_)
              refine lv_aload_n hx hb d_Mo_point_105 rfl (lv_at hl 1 rfl) ?_
              refine gf_Mo_height hF hK hP m_211 d_Mo_point_106 ?_
              refine lv_aload_n hx hb d_Mo_point_109 rfl (lv_at hl 1 rfl) ?_
              refine gf_Mo_points hF hK hP m_194 d_Mo_point_110 ?_
              refine lv_iload_n hx hb d_Mo_point_113 rfl (lv_at hl 3 rfl) ?_
              have k114 := h.1
              have h := h.2
              refine asM_6 hF hK hP hL hS k114 d_Mo_point_114 (fun H locs hP hS => ?_)
              refine lv_aload_n hx hb d_Mo_point_115 rfl (lv_at hl 1 rfl) ?_
              refine gf_Mo_people hF hK hP m_212 d_Mo_point_116 ?_
              refine lv_aload_n hx hb d_Mo_point_119 rfl (lv_at hl 1 rfl) ?_
              refine gf_Mo_points hF hK hP m_194 d_Mo_point_120 ?_
              refine lv_iload_n hx hb d_Mo_point_123 rfl (lv_at hl 4 rfl) ?_
              have k124 := h.1
              have h := h.2
              refine asM_7 hF hK hP hL hS k124 d_Mo_point_124 (fun H locs hP hS => ?_)
              refine lv_aload_n hx hb d_Mo_point_125 rfl (lv_at hl 1 rfl) ?_
              refine gf_Mo_px hF hK hP m_243 d_Mo_point_126 ?_
              refine lv_aload_n hx hb d_Mo_point_129 rfl (lv_at hl 1 rfl) ?_
              refine gf_Mo_points hF hK hP m_194 d_Mo_point_130 ?_
              refine lv_iload hx hb d_Mo_point_133 (lv_at hl 5 rfl) ?_
              have k135 := h.1
              have h := h.2
              refine asM_8 hF hK hP hL hS k135 d_Mo_point_135 (fun H locs hP hS => ?_)
              refine lv_aload_n hx hb d_Mo_point_136 rfl (lv_at hl 1 rfl) ?_
              refine gf_Mo_py hF hK hP m_245 d_Mo_point_137 ?_
              refine lv_aload_n hx hb d_Mo_point_140 rfl (lv_at hl 1 rfl) ?_
              refine gf_Mo_points hF hK hP m_194 d_Mo_point_141 ?_
              refine lv_iload hx hb d_Mo_point_144 (lv_at hl 6 rfl) ?_
              have k146 := h.1
              have h := h.2
              refine asM_9 hF hK hP hL hS k146 d_Mo_point_146 (fun H locs hP hS => ?_)
              refine lv_aload_n hx hb d_Mo_point_147 rfl (lv_at hl 1 rfl) ?_
              refine gf_Mo_visited hF hK hP m_224 d_Mo_point_148 ?_
              refine lv_aload_n hx hb d_Mo_point_151 rfl (lv_at hl 1 rfl) ?_
              refine gf_Mo_points hF hK hP m_194 d_Mo_point_152 ?_
              refine lv_iconst (v := (-1)) hx hb d_Mo_point_155 (by decide) ?_
              have k156 := h
              refine asM_10 hF hK hP hL hS k156 d_Mo_point_156 (fun H locs hP hS => ?_)
              refine lv_aload_n hx hb d_Mo_point_157 rfl (lv_at hl 1 rfl) ?_
              refine lv_dup hx hb d_Mo_point_158 rfl ?_
              refine gf_Mo_points hF hK hP m_194 d_Mo_point_159 ?_
              refine lv_iconst (v := 1) hx hb d_Mo_point_162 (by decide) ?_
              refine lv_iadd hx hb d_Mo_point_163 ?_
              refine pf_Mo_points hF hK hP hL hS m_194 d_Mo_point_164 (fun H locs hP hS => ?_)
              refine lv_aload_n hx hb d_Mo_point_167 rfl (lv_at hl 1 rfl) ?_
              refine gf_Mo_points hF hK hP m_194 d_Mo_point_168 ?_
              refine lv_iconst (v := 1) hx hb d_Mo_point_171 (by decide) ?_
              refine lv_isub hx hb d_Mo_point_172 ?_
              have hv : ((((sg ((f_Mo_throwing ar sc 1 1 1).2.2) 2 ((((f_Mo_throwing ar sc 1 1 1).2.2) 2) + 1)) 2) - 1, s2 (s2 (s2 (s2 (s2 (s2 ((f_Mo_throwing ar sc 1 1 1).2.1) 5 ((((f_Mo_throwing ar sc 1 1 1).2.2) 2).toNatClampNeg) a0) 6 ((((f_Mo_throwing ar sc 1 1 1).2.2) 2).toNatClampNeg) a1) 7 ((((f_Mo_throwing ar sc 1 1 1).2.2) 2).toNatClampNeg) a2) 8 ((((f_Mo_throwing ar sc 1 1 1).2.2) 2).toNatClampNeg) a3) 9 ((((f_Mo_throwing ar sc 1 1 1).2.2) 2).toNatClampNeg) a4) 10 ((((f_Mo_throwing ar sc 1 1 1).2.2) 2).toNatClampNeg) (-1), sg ((f_Mo_throwing ar sc 1 1 1).2.2) 2 ((((f_Mo_throwing ar sc 1 1 1).2.2) 2) + 1)) : Int32 × (Nat → Nat → Int32) × (Nat → Int32)) = f_Mo_point ar sc a0 a1 a2 a3 a4 := by rw [f_Mo_point, if_neg c8, if_neg c18, if_pos c32, if_pos c63, if_pos c79, if_pos c90]
              exact W.iret (v := ((sg ((f_Mo_throwing ar sc 1 1 1).2.2) 2 ((((f_Mo_throwing ar sc 1 1 1).2.2) 2) + 1)) 2) - 1) hx hb hr (fun t ht hW => ⟨⟨((sg ((f_Mo_throwing ar sc 1 1 1).2.2) 2 ((((f_Mo_throwing ar sc 1 1 1).2.2) 2) + 1)) 2) - 1, (s2 (s2 (s2 (s2 (s2 (s2 ((f_Mo_throwing ar sc 1 1 1).2.1) 5 ((((f_Mo_throwing ar sc 1 1 1).2.2) 2).toNatClampNeg) a0) 6 ((((f_Mo_throwing ar sc 1 1 1).2.2) 2).toNatClampNeg) a1) 7 ((((f_Mo_throwing ar sc 1 1 1).2.2) 2).toNatClampNeg) a2) 8 ((((f_Mo_throwing ar sc 1 1 1).2.2) 2).toNatClampNeg) a3) 9 ((((f_Mo_throwing ar sc 1 1 1).2.2) 2).toNatClampNeg) a4) 10 ((((f_Mo_throwing ar sc 1 1 1).2.2) 2).toNatClampNeg) (-1), sg ((f_Mo_throwing ar sc 1 1 1).2.2) 2 ((((f_Mo_throwing ar sc 1 1 1).2.2) 2) + 1)), rfl, hv, by dsimp only; rw [ht]; exact hP⟩, hS.F ht⟩) hS.2.2 d_Mo_point_173
            · have h := h.2 c90
              refine lv_iconst (v := 0) hx hb d_Mo_point_93 (by decide) ?_
              have hv : ((0, (f_Mo_throwing ar sc 1 1 1).2.1, (f_Mo_throwing ar sc 1 1 1).2.2) : Int32 × (Nat → Nat → Int32) × (Nat → Int32)) = f_Mo_point ar sc a0 a1 a2 a3 a4 := by rw [f_Mo_point, if_neg c8, if_neg c18, if_pos c32, if_pos c63, if_pos c79, if_neg c90]
              exact W.iret (v := 0) hx hb hr (fun t ht hW => ⟨⟨0, ((f_Mo_throwing ar sc 1 1 1).2.1, (f_Mo_throwing ar sc 1 1 1).2.2), rfl, hv, by dsimp only; rw [ht]; exact hP⟩, hS.F ht⟩) hS.2.2 d_Mo_point_94
      · have h := h.2 c32
        refine lv_iload hx hb d_Mo_point_35 (lv_at hl 5 rfl) ?_
        refine lv_sipush (v := (-10000)) hx hb d_Mo_point_37 (by decide) ?_
        refine lv_sipush (v := 10000) hx hb d_Mo_point_40 (by decide) ?_
        refine r_Mo_in hF m_195 hl.1 ⟨Nat.le_of_ble_eq_true rfl, Nat.le_of_ble_eq_true rfl⟩ ⟨Nat.zero_le _, Nat.zero_le _⟩ (Nat.le_of_ble_eq_true rfl) d_Mo_point_43 ?_
        refine lv_if_ne (tgt := 53) hx hb d_Mo_point_46 (by decide) (fun c46 => ?_) (fun c46 => ?_)
        · have h := h.2 c46
          refine lv_iconst (v := 0) hx hb d_Mo_point_53 (by decide) ?_
          refine lv_istore (lv' := [(6, .int 0), (0, .ref (L 0)), (1, .int a0), (2, .int a1), (3, .int a2), (4, .int a3), (5, .int a4)]) hx hb d_Mo_point_54 hl (by decide) rfl (fun ls hl => ?_)
          refine lv_aload_n hx hb d_Mo_point_56 rfl (lv_at hl 1 rfl) ?_
          refine lv_iload_n hx hb d_Mo_point_57 rfl (lv_at hl 2 rfl) ?_
          refine lv_iconst (v := 0) hx hb d_Mo_point_58 (by decide) ?_
          refine lv_iconst (v := 4) hx hb d_Mo_point_59 (by decide) ?_
          refine r_Mo_in hF m_195 hl.1 ⟨Nat.le_of_ble_eq_true rfl, Nat.le_of_ble_eq_true rfl⟩ ⟨Nat.zero_le _, Nat.zero_le _⟩ (Nat.le_of_ble_eq_true rfl) d_Mo_point_60 ?_
          refine lv_if_ne (tgt := 70) hx hb d_Mo_point_63 (by decide) (fun c63 => ?_) (fun c63 => ?_)
          · have h := h.2 c63
            refine lv_iconst (v := 0) hx hb d_Mo_point_70 (by decide) ?_
            refine lv_iload hx hb d_Mo_point_71 (lv_at hl 0 rfl) ?_
            refine lv_aload_n hx hb d_Mo_point_73 rfl (lv_at hl 1 rfl) ?_
            refine gf_Mo_points hF hK hP m_194 d_Mo_point_74 ?_
            refine lv_bipush (v := 30) hx hb d_Mo_point_77 (by decide) ?_
            refine lv_icmp_ne (tgt := 86) hx hb d_Mo_point_79 (by decide) (fun c79 => ?_) (fun c79 => ?_)
            · have h := h.2 c79
              refine lv_iconst (v := 0) hx hb d_Mo_point_86 (by decide) ?_
              refine r_Mo_throwing hF hK hP hL hS m_283 hl.1 ⟨Nat.le_of_ble_eq_true rfl, Nat.le_of_ble_eq_true rfl⟩ ⟨Nat.zero_le _, Nat.zero_le _⟩ (Nat.le_of_ble_eq_true rfl) d_Mo_point_87 (fun H locs hP hS => ?_)
              refine lv_if_eq (tgt := 95) hx hb d_Mo_point_90 (by decide) (fun c90 => ?_) (fun c90 => ?_)
              · have h := h.1 c90
                refine lv_aload_n hx hb d_Mo_point_95 rfl (lv_at hl 1 rfl) ?_
                refine gf_Mo_kind hF hK hP m_210 d_Mo_point_96 ?_
                refine lv_aload_n hx hb d_Mo_point_99 rfl (lv_at hl 1 rfl) ?_
                refine gf_Mo_points hF hK hP m_194 d_Mo_point_100 ?_
                refine lv_iload_n hx hb d_Mo_point_103 rfl (lv_at hl 2 rfl) ?_
                have k104 := h.1
                have h := h.2
                refine asM_5 hF hK hP hL hS k104 d_Mo_point_104 (fun H locs hP hS => ?_)
                refine lv_aload_n hx hb d_Mo_point_105 rfl (lv_at hl 1 rfl) ?_
                refine gf_Mo_height hF hK hP m_211 d_Mo_point_106 ?_
                refine lv_aload_n hx hb d_Mo_point_109 rfl (lv_at hl 1 rfl) ?_
                refine gf_Mo_points hF hK hP m_194 d_Mo_point_110 ?_
                refine lv_iload_n hx hb d_Mo_point_113 rfl (lv_at hl 3 rfl) ?_
                have k114 := h.1
                have h := h.2
                refine asM_6 hF hK hP hL hS k114 d_Mo_point_114 (fun H locs hP hS => ?_)
                refine lv_aload_n hx hb d_Mo_point_115 rfl (lv_at hl 1 rfl) ?_
                refine gf_Mo_people hF hK hP m_212 d_Mo_point_116 ?_
                refine lv_aload_n hx hb d_Mo_point_119 rfl (lv_at hl 1 rfl) ?_
                refine gf_Mo_points hF hK hP m_194 d_Mo_point_120 ?_
                refine lv_iload_n hx hb d_Mo_point_123 rfl (lv_at hl 4 rfl) ?_
                have k124 := h.1
                have h := h.2
                refine asM_7 hF hK hP hL hS k124 d_Mo_point_124 (fun H locs hP hS => ?_)
                refine lv_aload_n hx hb d_Mo_point_125 rfl (lv_at hl 1 rfl) ?_
                refine gf_Mo_px hF hK hP m_243 d_Mo_point_126 ?_
                refine lv_aload_n hx hb d_Mo_point_129 rfl (lv_at hl 1 rfl) ?_
                refine gf_Mo_points hF hK hP m_194 d_Mo_point_130 ?_
                refine lv_iload hx hb d_Mo_point_133 (lv_at hl 5 rfl) ?_
                have k135 := h.1
                have h := h.2
                refine asM_8 hF hK hP hL hS k135 d_Mo_point_135 (fun H locs hP hS => ?_)
                refine lv_aload_n hx hb d_Mo_point_136 rfl (lv_at hl 1 rfl) ?_
                refine gf_Mo_py hF hK hP m_245 d_Mo_point_137 ?_
                refine lv_aload_n hx hb d_Mo_point_140 rfl (lv_at hl 1 rfl) ?_
                refine gf_Mo_points hF hK hP m_194 d_Mo_point_141 ?_
                refine lv_iload hx hb d_Mo_point_144 (lv_at hl 6 rfl) ?_
                have k146 := h.1
                have h := h.2
                refine asM_9 hF hK hP hL hS k146 d_Mo_point_146 (fun H locs hP hS => ?_)
                refine lv_aload_n hx hb d_Mo_point_147 rfl (lv_at hl 1 rfl) ?_
                refine gf_Mo_visited hF hK hP m_224 d_Mo_point_148 ?_
                refine lv_aload_n hx hb d_Mo_point_151 rfl (lv_at hl 1 rfl) ?_
                refine gf_Mo_points hF hK hP m_194 d_Mo_point_152 ?_
                refine lv_iconst (v := (-1)) hx hb d_Mo_point_155 (by decide) ?_
                have k156 := h
                refine asM_10 hF hK hP hL hS k156 d_Mo_point_156 (fun H locs hP hS => ?_)
                refine lv_aload_n hx hb d_Mo_point_157 rfl (lv_at hl 1 rfl) ?_
                refine lv_dup hx hb d_Mo_point_158 rfl ?_
                refine gf_Mo_points hF hK hP m_194 d_Mo_point_159 ?_
                refine lv_iconst (v := 1) hx hb d_Mo_point_162 (by decide) ?_
                refine lv_iadd hx hb d_Mo_point_163 ?_
                refine pf_Mo_points hF hK hP hL hS m_194 d_Mo_point_164 (fun H locs hP hS => ?_)
                refine lv_aload_n hx hb d_Mo_point_167 rfl (lv_at hl 1 rfl) ?_
                refine gf_Mo_points hF hK hP m_194 d_Mo_point_168 ?_
                refine lv_iconst (v := 1) hx hb d_Mo_point_171 (by decide) ?_
                refine lv_isub hx hb d_Mo_point_172 ?_
                have hv : ((((sg ((f_Mo_throwing ar sc 0 0 0).2.2) 2 ((((f_Mo_throwing ar sc 0 0 0).2.2) 2) + 1)) 2) - 1, s2 (s2 (s2 (s2 (s2 (s2 ((f_Mo_throwing ar sc 0 0 0).2.1) 5 ((((f_Mo_throwing ar sc 0 0 0).2.2) 2).toNatClampNeg) a0) 6 ((((f_Mo_throwing ar sc 0 0 0).2.2) 2).toNatClampNeg) a1) 7 ((((f_Mo_throwing ar sc 0 0 0).2.2) 2).toNatClampNeg) a2) 8 ((((f_Mo_throwing ar sc 0 0 0).2.2) 2).toNatClampNeg) a3) 9 ((((f_Mo_throwing ar sc 0 0 0).2.2) 2).toNatClampNeg) a4) 10 ((((f_Mo_throwing ar sc 0 0 0).2.2) 2).toNatClampNeg) (-1), sg ((f_Mo_throwing ar sc 0 0 0).2.2) 2 ((((f_Mo_throwing ar sc 0 0 0).2.2) 2) + 1)) : Int32 × (Nat → Nat → Int32) × (Nat → Int32)) = f_Mo_point ar sc a0 a1 a2 a3 a4 := by rw [f_Mo_point, if_neg c8, if_neg c18, if_neg c32, if_neg c46, if_neg c63, if_neg c79, if_pos c90]
                exact W.iret (v := ((sg ((f_Mo_throwing ar sc 0 0 0).2.2) 2 ((((f_Mo_throwing ar sc 0 0 0).2.2) 2) + 1)) 2) - 1) hx hb hr (fun t ht hW => ⟨⟨((sg ((f_Mo_throwing ar sc 0 0 0).2.2) 2 ((((f_Mo_throwing ar sc 0 0 0).2.2) 2) + 1)) 2) - 1, (s2 (s2 (s2 (s2 (s2 (s2 ((f_Mo_throwing ar sc 0 0 0).2.1) 5 ((((f_Mo_throwing ar sc 0 0 0).2.2) 2).toNatClampNeg) a0) 6 ((((f_Mo_throwing ar sc 0 0 0).2.2) 2).toNatClampNeg) a1) 7 ((((f_Mo_throwing ar sc 0 0 0).2.2) 2).toNatClampNeg) a2) 8 ((((f_Mo_throwing ar sc 0 0 0).2.2) 2).toNatClampNeg) a3) 9 ((((f_Mo_throwing ar sc 0 0 0).2.2) 2).toNatClampNeg) a4) 10 ((((f_Mo_throwing ar sc 0 0 0).2.2) 2).toNatClampNeg) (-1), sg ((f_Mo_throwing ar sc 0 0 0).2.2) 2 ((((f_Mo_throwing ar sc 0 0 0).2.2) 2) + 1)), rfl, hv, by dsimp only; rw [ht]; exact hP⟩, hS.F ht⟩) hS.2.2 d_Mo_point_173
              · have h := h.2 c90
                refine lv_iconst (v := 0) hx hb d_Mo_point_93 (by decide) ?_
                have hv : ((0, (f_Mo_throwing ar sc 0 0 0).2.1, (f_Mo_throwing ar sc 0 0 0).2.2) : Int32 × (Nat → Nat → Int32) × (Nat → Int32)) = f_Mo_point ar sc a0 a1 a2 a3 a4 := by rw [f_Mo_point, if_neg c8, if_neg c18, if_neg c32, if_neg c46, if_neg c63, if_neg c79, if_neg c90]
                exact W.iret (v := 0) hx hb hr (fun t ht hW => ⟨⟨0, ((f_Mo_throwing ar sc 0 0 0).2.1, (f_Mo_throwing ar sc 0 0 0).2.2), rfl, hv, by dsimp only; rw [ht]; exact hP⟩, hS.F ht⟩) hS.2.2 d_Mo_point_94
            · have h := h.1 c79
              refine lv_iconst (v := 1) hx hb d_Mo_point_82 (by decide) ?_
              refine lv_goto (tgt := 87) hx hb d_Mo_point_83 (by decide) ?_
              refine r_Mo_throwing hF hK hP hL hS m_283 hl.1 ⟨Nat.le_of_ble_eq_true rfl, Nat.le_of_ble_eq_true rfl⟩ ⟨Nat.zero_le _, Nat.zero_le _⟩ (Nat.le_of_ble_eq_true rfl) d_Mo_point_87 (fun H locs hP hS => ?_)
              refine lv_if_eq (tgt := 95) hx hb d_Mo_point_90 (by decide) (fun c90 => ?_) (fun c90 => ?_)
              · have h := h.1 c90
                refine lv_aload_n hx hb d_Mo_point_95 rfl (lv_at hl 1 rfl) ?_
                refine gf_Mo_kind hF hK hP m_210 d_Mo_point_96 ?_
                refine lv_aload_n hx hb d_Mo_point_99 rfl (lv_at hl 1 rfl) ?_
                refine gf_Mo_points hF hK hP m_194 d_Mo_point_100 ?_
                refine lv_iload_n hx hb d_Mo_point_103 rfl (lv_at hl 2 rfl) ?_
                have k104 := h.1
                have h := h.2
                refine asM_5 hF hK hP hL hS k104 d_Mo_point_104 (fun H locs hP hS => ?_)
                refine lv_aload_n hx hb d_Mo_point_105 rfl (lv_at hl 1 rfl) ?_
                refine gf_Mo_height hF hK hP m_211 d_Mo_point_106 ?_
                refine lv_aload_n hx hb d_Mo_point_109 rfl (lv_at hl 1 rfl) ?_
                refine gf_Mo_points hF hK hP m_194 d_Mo_point_110 ?_
                refine lv_iload_n hx hb d_Mo_point_113 rfl (lv_at hl 3 rfl) ?_
                have k114 := h.1
                have h := h.2
                refine asM_6 hF hK hP hL hS k114 d_Mo_point_114 (fun H locs hP hS => ?_)
                refine lv_aload_n hx hb d_Mo_point_115 rfl (lv_at hl 1 rfl) ?_
                refine gf_Mo_people hF hK hP m_212 d_Mo_point_116 ?_
                refine lv_aload_n hx hb d_Mo_point_119 rfl (lv_at hl 1 rfl) ?_
                refine gf_Mo_points hF hK hP m_194 d_Mo_point_120 ?_
                refine lv_iload_n hx hb d_Mo_point_123 rfl (lv_at hl 4 rfl) ?_
                have k124 := h.1
                have h := h.2
                refine asM_7 hF hK hP hL hS k124 d_Mo_point_124 (fun H locs hP hS => ?_)
                refine lv_aload_n hx hb d_Mo_point_125 rfl (lv_at hl 1 rfl) ?_
                refine gf_Mo_px hF hK hP m_243 d_Mo_point_126 ?_
                refine lv_aload_n hx hb d_Mo_point_129 rfl (lv_at hl 1 rfl) ?_
                refine gf_Mo_points hF hK hP m_194 d_Mo_point_130 ?_
                refine lv_iload hx hb d_Mo_point_133 (lv_at hl 5 rfl) ?_
                have k135 := h.1
                have h := h.2
                refine asM_8 hF hK hP hL hS k135 d_Mo_point_135 (fun H locs hP hS => ?_)
                refine lv_aload_n hx hb d_Mo_point_136 rfl (lv_at hl 1 rfl) ?_
                refine gf_Mo_py hF hK hP m_245 d_Mo_point_137 ?_
                refine lv_aload_n hx hb d_Mo_point_140 rfl (lv_at hl 1 rfl) ?_
                refine gf_Mo_points hF hK hP m_194 d_Mo_point_141 ?_
                refine lv_iload hx hb d_Mo_point_144 (lv_at hl 6 rfl) ?_
                have k146 := h.1
                have h := h.2
                refine asM_9 hF hK hP hL hS k146 d_Mo_point_146 (fun H locs hP hS => ?_)
                refine lv_aload_n hx hb d_Mo_point_147 rfl (lv_at hl 1 rfl) ?_
                refine gf_Mo_visited hF hK hP m_224 d_Mo_point_148 ?_
                refine lv_aload_n hx hb d_Mo_point_151 rfl (lv_at hl 1 rfl) ?_
                refine gf_Mo_points hF hK hP m_194 d_Mo_point_152 ?_
                refine lv_iconst (v := (-1)) hx hb d_Mo_point_155 (by decide) ?_
                have k156 := h
                refine asM_10 hF hK hP hL hS k156 d_Mo_point_156 (fun H locs hP hS => ?_)
                refine lv_aload_n hx hb d_Mo_point_157 rfl (lv_at hl 1 rfl) ?_
                refine lv_dup hx hb d_Mo_point_158 rfl ?_
                refine gf_Mo_points hF hK hP m_194 d_Mo_point_159 ?_
                refine lv_iconst (v := 1) hx hb d_Mo_point_162 (by decide) ?_
                refine lv_iadd hx hb d_Mo_point_163 ?_
                refine pf_Mo_points hF hK hP hL hS m_194 d_Mo_point_164 (fun H locs hP hS => ?_)
                refine lv_aload_n hx hb d_Mo_point_167 rfl (lv_at hl 1 rfl) ?_
                refine gf_Mo_points hF hK hP m_194 d_Mo_point_168 ?_
                refine lv_iconst (v := 1) hx hb d_Mo_point_171 (by decide) ?_
                refine lv_isub hx hb d_Mo_point_172 ?_
                have hv : ((((sg ((f_Mo_throwing ar sc 0 0 1).2.2) 2 ((((f_Mo_throwing ar sc 0 0 1).2.2) 2) + 1)) 2) - 1, s2 (s2 (s2 (s2 (s2 (s2 ((f_Mo_throwing ar sc 0 0 1).2.1) 5 ((((f_Mo_throwing ar sc 0 0 1).2.2) 2).toNatClampNeg) a0) 6 ((((f_Mo_throwing ar sc 0 0 1).2.2) 2).toNatClampNeg) a1) 7 ((((f_Mo_throwing ar sc 0 0 1).2.2) 2).toNatClampNeg) a2) 8 ((((f_Mo_throwing ar sc 0 0 1).2.2) 2).toNatClampNeg) a3) 9 ((((f_Mo_throwing ar sc 0 0 1).2.2) 2).toNatClampNeg) a4) 10 ((((f_Mo_throwing ar sc 0 0 1).2.2) 2).toNatClampNeg) (-1), sg ((f_Mo_throwing ar sc 0 0 1).2.2) 2 ((((f_Mo_throwing ar sc 0 0 1).2.2) 2) + 1)) : Int32 × (Nat → Nat → Int32) × (Nat → Int32)) = f_Mo_point ar sc a0 a1 a2 a3 a4 := by rw [f_Mo_point, if_neg c8, if_neg c18, if_neg c32, if_neg c46, if_neg c63, if_pos c79, if_pos c90]
                exact W.iret (v := ((sg ((f_Mo_throwing ar sc 0 0 1).2.2) 2 ((((f_Mo_throwing ar sc 0 0 1).2.2) 2) + 1)) 2) - 1) hx hb hr (fun t ht hW => ⟨⟨((sg ((f_Mo_throwing ar sc 0 0 1).2.2) 2 ((((f_Mo_throwing ar sc 0 0 1).2.2) 2) + 1)) 2) - 1, (s2 (s2 (s2 (s2 (s2 (s2 ((f_Mo_throwing ar sc 0 0 1).2.1) 5 ((((f_Mo_throwing ar sc 0 0 1).2.2) 2).toNatClampNeg) a0) 6 ((((f_Mo_throwing ar sc 0 0 1).2.2) 2).toNatClampNeg) a1) 7 ((((f_Mo_throwing ar sc 0 0 1).2.2) 2).toNatClampNeg) a2) 8 ((((f_Mo_throwing ar sc 0 0 1).2.2) 2).toNatClampNeg) a3) 9 ((((f_Mo_throwing ar sc 0 0 1).2.2) 2).toNatClampNeg) a4) 10 ((((f_Mo_throwing ar sc 0 0 1).2.2) 2).toNatClampNeg) (-1), sg ((f_Mo_throwing ar sc 0 0 1).2.2) 2 ((((f_Mo_throwing ar sc 0 0 1).2.2) 2) + 1)), rfl, hv, by dsimp only; rw [ht]; exact hP⟩, hS.F ht⟩) hS.2.2 d_Mo_point_173
              · have h := h.2 c90
                refine lv_iconst (v := 0) hx hb d_Mo_point_93 (by decide) ?_
                have hv : ((0, (f_Mo_throwing ar sc 0 0 1).2.1, (f_Mo_throwing ar sc 0 0 1).2.2) : Int32 × (Nat → Nat → Int32) × (Nat → Int32)) = f_Mo_point ar sc a0 a1 a2 a3 a4 := by rw [f_Mo_point, if_neg c8, if_neg c18, if_neg c32, if_neg c46, if_neg c63, if_pos c79, if_neg c90]
                exact W.iret (v := 0) hx hb hr (fun t ht hW => ⟨⟨0, ((f_Mo_throwing ar sc 0 0 1).2.1, (f_Mo_throwing ar sc 0 0 1).2.2), rfl, hv, by dsimp only; rw [ht]; exact hP⟩, hS.F ht⟩) hS.2.2 d_Mo_point_94
          · have h := h.1 c63
            refine lv_iconst (v := 1) hx hb d_Mo_point_66 (by decide) ?_
            refine lv_goto (tgt := 71) hx hb d_Mo_point_67 (by decide) ?_
            refine lv_iload hx hb d_Mo_point_71 (lv_at hl 0 rfl) ?_
            refine lv_aload_n hx hb d_Mo_point_73 rfl (lv_at hl 1 rfl) ?_
            refine gf_Mo_points hF hK hP m_194 d_Mo_point_74 ?_
            refine lv_bipush (v := 30) hx hb d_Mo_point_77 (by decide) ?_
            refine lv_icmp_ne (tgt := 86) hx hb d_Mo_point_79 (by decide) (fun c79 => ?_) (fun c79 => ?_)
            · have h := h.2 c79
              refine lv_iconst (v := 0) hx hb d_Mo_point_86 (by decide) ?_
              refine r_Mo_throwing hF hK hP hL hS m_283 hl.1 ⟨Nat.le_of_ble_eq_true rfl, Nat.le_of_ble_eq_true rfl⟩ ⟨Nat.zero_le _, Nat.zero_le _⟩ (Nat.le_of_ble_eq_true rfl) d_Mo_point_87 (fun H locs hP hS => ?_)
              refine lv_if_eq (tgt := 95) hx hb d_Mo_point_90 (by decide) (fun c90 => ?_) (fun c90 => ?_)
              · have h := h.1 c90
                refine lv_aload_n hx hb d_Mo_point_95 rfl (lv_at hl 1 rfl) ?_
                refine gf_Mo_kind hF hK hP m_210 d_Mo_point_96 ?_
                refine lv_aload_n hx hb d_Mo_point_99 rfl (lv_at hl 1 rfl) ?_
                refine gf_Mo_points hF hK hP m_194 d_Mo_point_100 ?_
                refine lv_iload_n hx hb d_Mo_point_103 rfl (lv_at hl 2 rfl) ?_
                have k104 := h.1
                have h := h.2
                refine asM_5 hF hK hP hL hS k104 d_Mo_point_104 (fun H locs hP hS => ?_)
                refine lv_aload_n hx hb d_Mo_point_105 rfl (lv_at hl 1 rfl) ?_
                refine gf_Mo_height hF hK hP m_211 d_Mo_point_106 ?_
                refine lv_aload_n hx hb d_Mo_point_109 rfl (lv_at hl 1 rfl) ?_
                refine gf_Mo_points hF hK hP m_194 d_Mo_point_110 ?_
                refine lv_iload_n hx hb d_Mo_point_113 rfl (lv_at hl 3 rfl) ?_
                have k114 := h.1
                have h := h.2
                refine asM_6 hF hK hP hL hS k114 d_Mo_point_114 (fun H locs hP hS => ?_)
                refine lv_aload_n hx hb d_Mo_point_115 rfl (lv_at hl 1 rfl) ?_
                refine gf_Mo_people hF hK hP m_212 d_Mo_point_116 ?_
                refine lv_aload_n hx hb d_Mo_point_119 rfl (lv_at hl 1 rfl) ?_
                refine gf_Mo_points hF hK hP m_194 d_Mo_point_120 ?_
                refine lv_iload_n hx hb d_Mo_point_123 rfl (lv_at hl 4 rfl) ?_
                have k124 := h.1
                have h := h.2
                refine asM_7 hF hK hP hL hS k124 d_Mo_point_124 (fun H locs hP hS => ?_)
                refine lv_aload_n hx hb d_Mo_point_125 rfl (lv_at hl 1 rfl) ?_
                refine gf_Mo_px hF hK hP m_243 d_Mo_point_126 ?_
                refine lv_aload_n hx hb d_Mo_point_129 rfl (lv_at hl 1 rfl) ?_
                refine gf_Mo_points hF hK hP m_194 d_Mo_point_130 ?_
                refine lv_iload hx hb d_Mo_point_133 (lv_at hl 5 rfl) ?_
                have k135 := h.1
                have h := h.2
                refine asM_8 hF hK hP hL hS k135 d_Mo_point_135 (fun H locs hP hS => ?_)
                refine lv_aload_n hx hb d_Mo_point_136 rfl (lv_at hl 1 rfl) ?_
                refine gf_Mo_py hF hK hP m_245 d_Mo_point_137 ?_
                refine lv_aload_n hx hb d_Mo_point_140 rfl (lv_at hl 1 rfl) ?_
                refine gf_Mo_points hF hK hP m_194 d_Mo_point_141 ?_
                refine lv_iload hx hb d_Mo_point_144 (lv_at hl 6 rfl) ?_
                have k146 := h.1
                have h := h.2
                refine asM_9 hF hK hP hL hS k146 d_Mo_point_146 (fun H locs hP hS => ?_)
                refine lv_aload_n hx hb d_Mo_point_147 rfl (lv_at hl 1 rfl) ?_
                refine gf_Mo_visited hF hK hP m_224 d_Mo_point_148 ?_
                refine lv_aload_n hx hb d_Mo_point_151 rfl (lv_at hl 1 rfl) ?_
                refine gf_Mo_points hF hK hP m_194 d_Mo_point_152 ?_
                refine lv_iconst (v := (-1)) hx hb d_Mo_point_155 (by decide) ?_
                have k156 := h
                refine asM_10 hF hK hP hL hS k156 d_Mo_point_156 (fun H locs hP hS => ?_)
                refine lv_aload_n hx hb d_Mo_point_157 rfl (lv_at hl 1 rfl) ?_
                refine lv_dup hx hb d_Mo_point_158 rfl ?_
                refine gf_Mo_points hF hK hP m_194 d_Mo_point_159 ?_
                refine lv_iconst (v := 1) hx hb d_Mo_point_162 (by decide) ?_
                refine lv_iadd hx hb d_Mo_point_163 ?_
                refine pf_Mo_points hF hK hP hL hS m_194 d_Mo_point_164 (fun H locs hP hS => ?_)
                refine lv_aload_n hx hb d_Mo_point_167 rfl (lv_at hl 1 rfl) ?_
                refine gf_Mo_points hF hK hP m_194 d_Mo_point_168 ?_
                refine lv_iconst (v := 1) hx hb d_Mo_point_171 (by decide) ?_
                refine lv_isub hx hb d_Mo_point_172 ?_
                have hv : ((((sg ((f_Mo_throwing ar sc 1 0 0).2.2) 2 ((((f_Mo_throwing ar sc 1 0 0).2.2) 2) + 1)) 2) - 1, s2 (s2 (s2 (s2 (s2 (s2 ((f_Mo_throwing ar sc 1 0 0).2.1) 5 ((((f_Mo_throwing ar sc 1 0 0).2.2) 2).toNatClampNeg) a0) 6 ((((f_Mo_throwing ar sc 1 0 0).2.2) 2).toNatClampNeg) a1) 7 ((((f_Mo_throwing ar sc 1 0 0).2.2) 2).toNatClampNeg) a2) 8 ((((f_Mo_throwing ar sc 1 0 0).2.2) 2).toNatClampNeg) a3) 9 ((((f_Mo_throwing ar sc 1 0 0).2.2) 2).toNatClampNeg) a4) 10 ((((f_Mo_throwing ar sc 1 0 0).2.2) 2).toNatClampNeg) (-1), sg ((f_Mo_throwing ar sc 1 0 0).2.2) 2 ((((f_Mo_throwing ar sc 1 0 0).2.2) 2) + 1)) : Int32 × (Nat → Nat → Int32) × (Nat → Int32)) = f_Mo_point ar sc a0 a1 a2 a3 a4 := by rw [f_Mo_point, if_neg c8, if_neg c18, if_neg c32, if_neg c46, if_pos c63, if_neg c79, if_pos c90]
                exact W.iret (v := ((sg ((f_Mo_throwing ar sc 1 0 0).2.2) 2 ((((f_Mo_throwing ar sc 1 0 0).2.2) 2) + 1)) 2) - 1) hx hb hr (fun t ht hW => ⟨⟨((sg ((f_Mo_throwing ar sc 1 0 0).2.2) 2 ((((f_Mo_throwing ar sc 1 0 0).2.2) 2) + 1)) 2) - 1, (s2 (s2 (s2 (s2 (s2 (s2 ((f_Mo_throwing ar sc 1 0 0).2.1) 5 ((((f_Mo_throwing ar sc 1 0 0).2.2) 2).toNatClampNeg) a0) 6 ((((f_Mo_throwing ar sc 1 0 0).2.2) 2).toNatClampNeg) a1) 7 ((((f_Mo_throwing ar sc 1 0 0).2.2) 2).toNatClampNeg) a2) 8 ((((f_Mo_throwing ar sc 1 0 0).2.2) 2).toNatClampNeg) a3) 9 ((((f_Mo_throwing ar sc 1 0 0).2.2) 2).toNatClampNeg) a4) 10 ((((f_Mo_throwing ar sc 1 0 0).2.2) 2).toNatClampNeg) (-1), sg ((f_Mo_throwing ar sc 1 0 0).2.2) 2 ((((f_Mo_throwing ar sc 1 0 0).2.2) 2) + 1)), rfl, hv, by dsimp only; rw [ht]; exact hP⟩, hS.F ht⟩) hS.2.2 d_Mo_point_173
              · have h := h.2 c90
                refine lv_iconst (v := 0) hx hb d_Mo_point_93 (by decide) ?_
                have hv : ((0, (f_Mo_throwing ar sc 1 0 0).2.1, (f_Mo_throwing ar sc 1 0 0).2.2) : Int32 × (Nat → Nat → Int32) × (Nat → Int32)) = f_Mo_point ar sc a0 a1 a2 a3 a4 := by rw [f_Mo_point, if_neg c8, if_neg c18, if_neg c32, if_neg c46, if_pos c63, if_neg c79, if_neg c90]
                exact W.iret (v := 0) hx hb hr (fun t ht hW => ⟨⟨0, ((f_Mo_throwing ar sc 1 0 0).2.1, (f_Mo_throwing ar sc 1 0 0).2.2), rfl, hv, by dsimp only; rw [ht]; exact hP⟩, hS.F ht⟩) hS.2.2 d_Mo_point_94
            · have h := h.1 c79
              refine lv_iconst (v := 1) hx hb d_Mo_point_82 (by decide) ?_
              refine lv_goto (tgt := 87) hx hb d_Mo_point_83 (by decide) ?_
              refine r_Mo_throwing hF hK hP hL hS m_283 hl.1 ⟨Nat.le_of_ble_eq_true rfl, Nat.le_of_ble_eq_true rfl⟩ ⟨Nat.zero_le _, Nat.zero_le _⟩ (Nat.le_of_ble_eq_true rfl) d_Mo_point_87 (fun H locs hP hS => ?_)
              refine lv_if_eq (tgt := 95) hx hb d_Mo_point_90 (by decide) (fun c90 => ?_) (fun c90 => ?_)
              · have h := h.1 c90
                refine lv_aload_n hx hb d_Mo_point_95 rfl (lv_at hl 1 rfl) ?_
                refine gf_Mo_kind hF hK hP m_210 d_Mo_point_96 ?_
                refine lv_aload_n hx hb d_Mo_point_99 rfl (lv_at hl 1 rfl) ?_
                refine gf_Mo_points hF hK hP m_194 d_Mo_point_100 ?_
                refine lv_iload_n hx hb d_Mo_point_103 rfl (lv_at hl 2 rfl) ?_
                have k104 := h.1
                have h := h.2
                refine asM_5 hF hK hP hL hS k104 d_Mo_point_104 (fun H locs hP hS => ?_)
                refine lv_aload_n hx hb d_Mo_point_105 rfl (lv_at hl 1 rfl) ?_
                refine gf_Mo_height hF hK hP m_211 d_Mo_point_106 ?_
                refine lv_aload_n hx hb d_Mo_point_109 rfl (lv_at hl 1 rfl) ?_
                refine gf_Mo_points hF hK hP m_194 d_Mo_point_110 ?_
                refine lv_iload_n hx hb d_Mo_point_113 rfl (lv_at hl 3 rfl) ?_
                have k114 := h.1
                have h := h.2
                refine asM_6 hF hK hP hL hS k114 d_Mo_point_114 (fun H locs hP hS => ?_)
                refine lv_aload_n hx hb d_Mo_point_115 rfl (lv_at hl 1 rfl) ?_
                refine gf_Mo_people hF hK hP m_212 d_Mo_point_116 ?_
                refine lv_aload_n hx hb d_Mo_point_119 rfl (lv_at hl 1 rfl) ?_
                refine gf_Mo_points hF hK hP m_194 d_Mo_point_120 ?_
                refine lv_iload_n hx hb d_Mo_point_123 rfl (lv_at hl 4 rfl) ?_
                have k124 := h.1
                have h := h.2
                refine asM_7 hF hK hP hL hS k124 d_Mo_point_124 (fun H locs hP hS => ?_)
                refine lv_aload_n hx hb d_Mo_point_125 rfl (lv_at hl 1 rfl) ?_
                refine gf_Mo_px hF hK hP m_243 d_Mo_point_126 ?_
                refine lv_aload_n hx hb d_Mo_point_129 rfl (lv_at hl 1 rfl) ?_
                refine gf_Mo_points hF hK hP m_194 d_Mo_point_130 ?_
                refine lv_iload hx hb d_Mo_point_133 (lv_at hl 5 rfl) ?_
                have k135 := h.1
                have h := h.2
                refine asM_8 hF hK hP hL hS k135 d_Mo_point_135 (fun H locs hP hS => ?_)
                refine lv_aload_n hx hb d_Mo_point_136 rfl (lv_at hl 1 rfl) ?_
                refine gf_Mo_py hF hK hP m_245 d_Mo_point_137 ?_
                refine lv_aload_n hx hb d_Mo_point_140 rfl (lv_at hl 1 rfl) ?_
                refine gf_Mo_points hF hK hP m_194 d_Mo_point_141 ?_
                refine lv_iload hx hb d_Mo_point_144 (lv_at hl 6 rfl) ?_
                have k146 := h.1
                have h := h.2
                refine asM_9 hF hK hP hL hS k146 d_Mo_point_146 (fun H locs hP hS => ?_)
                refine lv_aload_n hx hb d_Mo_point_147 rfl (lv_at hl 1 rfl) ?_
                refine gf_Mo_visited hF hK hP m_224 d_Mo_point_148 ?_
                refine lv_aload_n hx hb d_Mo_point_151 rfl (lv_at hl 1 rfl) ?_
                refine gf_Mo_points hF hK hP m_194 d_Mo_point_152 ?_
                refine lv_iconst (v := (-1)) hx hb d_Mo_point_155 (by decide) ?_
                have k156 := h
                refine asM_10 hF hK hP hL hS k156 d_Mo_point_156 (fun H locs hP hS => ?_)
                refine lv_aload_n hx hb d_Mo_point_157 rfl (lv_at hl 1 rfl) ?_
                refine lv_dup hx hb d_Mo_point_158 rfl ?_
                refine gf_Mo_points hF hK hP m_194 d_Mo_point_159 ?_
                refine lv_iconst (v := 1) hx hb d_Mo_point_162 (by decide) ?_
                refine lv_iadd hx hb d_Mo_point_163 ?_
                refine pf_Mo_points hF hK hP hL hS m_194 d_Mo_point_164 (fun H locs hP hS => ?_)
                refine lv_aload_n hx hb d_Mo_point_167 rfl (lv_at hl 1 rfl) ?_
                refine gf_Mo_points hF hK hP m_194 d_Mo_point_168 ?_
                refine lv_iconst (v := 1) hx hb d_Mo_point_171 (by decide) ?_
                refine lv_isub hx hb d_Mo_point_172 ?_
                have hv : ((((sg ((f_Mo_throwing ar sc 1 0 1).2.2) 2 ((((f_Mo_throwing ar sc 1 0 1).2.2) 2) + 1)) 2) - 1, s2 (s2 (s2 (s2 (s2 (s2 ((f_Mo_throwing ar sc 1 0 1).2.1) 5 ((((f_Mo_throwing ar sc 1 0 1).2.2) 2).toNatClampNeg) a0) 6 ((((f_Mo_throwing ar sc 1 0 1).2.2) 2).toNatClampNeg) a1) 7 ((((f_Mo_throwing ar sc 1 0 1).2.2) 2).toNatClampNeg) a2) 8 ((((f_Mo_throwing ar sc 1 0 1).2.2) 2).toNatClampNeg) a3) 9 ((((f_Mo_throwing ar sc 1 0 1).2.2) 2).toNatClampNeg) a4) 10 ((((f_Mo_throwing ar sc 1 0 1).2.2) 2).toNatClampNeg) (-1), sg ((f_Mo_throwing ar sc 1 0 1).2.2) 2 ((((f_Mo_throwing ar sc 1 0 1).2.2) 2) + 1)) : Int32 × (Nat → Nat → Int32) × (Nat → Int32)) = f_Mo_point ar sc a0 a1 a2 a3 a4 := by rw [f_Mo_point, if_neg c8, if_neg c18, if_neg c32, if_neg c46, if_pos c63, if_pos c79, if_pos c90]
                exact W.iret (v := ((sg ((f_Mo_throwing ar sc 1 0 1).2.2) 2 ((((f_Mo_throwing ar sc 1 0 1).2.2) 2) + 1)) 2) - 1) hx hb hr (fun t ht hW => ⟨⟨((sg ((f_Mo_throwing ar sc 1 0 1).2.2) 2 ((((f_Mo_throwing ar sc 1 0 1).2.2) 2) + 1)) 2) - 1, (s2 (s2 (s2 (s2 (s2 (s2 ((f_Mo_throwing ar sc 1 0 1).2.1) 5 ((((f_Mo_throwing ar sc 1 0 1).2.2) 2).toNatClampNeg) a0) 6 ((((f_Mo_throwing ar sc 1 0 1).2.2) 2).toNatClampNeg) a1) 7 ((((f_Mo_throwing ar sc 1 0 1).2.2) 2).toNatClampNeg) a2) 8 ((((f_Mo_throwing ar sc 1 0 1).2.2) 2).toNatClampNeg) a3) 9 ((((f_Mo_throwing ar sc 1 0 1).2.2) 2).toNatClampNeg) a4) 10 ((((f_Mo_throwing ar sc 1 0 1).2.2) 2).toNatClampNeg) (-1), sg ((f_Mo_throwing ar sc 1 0 1).2.2) 2 ((((f_Mo_throwing ar sc 1 0 1).2.2) 2) + 1)), rfl, hv, by dsimp only; rw [ht]; exact hP⟩, hS.F ht⟩) hS.2.2 d_Mo_point_173
              · have h := h.2 c90
                refine lv_iconst (v := 0) hx hb d_Mo_point_93 (by decide) ?_
                have hv : ((0, (f_Mo_throwing ar sc 1 0 1).2.1, (f_Mo_throwing ar sc 1 0 1).2.2) : Int32 × (Nat → Nat → Int32) × (Nat → Int32)) = f_Mo_point ar sc a0 a1 a2 a3 a4 := by rw [f_Mo_point, if_neg c8, if_neg c18, if_neg c32, if_neg c46, if_pos c63, if_pos c79, if_neg c90]
                exact W.iret (v := 0) hx hb hr (fun t ht hW => ⟨⟨0, ((f_Mo_throwing ar sc 1 0 1).2.1, (f_Mo_throwing ar sc 1 0 1).2.2), rfl, hv, by dsimp only; rw [ht]; exact hP⟩, hS.F ht⟩) hS.2.2 d_Mo_point_94
        · have h := h.1 c46
          refine lv_iconst (v := 1) hx hb d_Mo_point_49 (by decide) ?_
          refine lv_goto (tgt := 54) hx hb d_Mo_point_50 (by decide) ?_
          refine lv_istore (lv' := [(6, .int 1), (0, .ref (L 0)), (1, .int a0), (2, .int a1), (3, .int a2), (4, .int a3), (5, .int a4)]) hx hb d_Mo_point_54 hl (by decide) rfl (fun ls hl => ?_)
          refine lv_aload_n hx hb d_Mo_point_56 rfl (lv_at hl 1 rfl) ?_
          refine lv_iload_n hx hb d_Mo_point_57 rfl (lv_at hl 2 rfl) ?_
          refine lv_iconst (v := 0) hx hb d_Mo_point_58 (by decide) ?_
          refine lv_iconst (v := 4) hx hb d_Mo_point_59 (by decide) ?_
          refine r_Mo_in hF m_195 hl.1 ⟨Nat.le_of_ble_eq_true rfl, Nat.le_of_ble_eq_true rfl⟩ ⟨Nat.zero_le _, Nat.zero_le _⟩ (Nat.le_of_ble_eq_true rfl) d_Mo_point_60 ?_
          refine lv_if_ne (tgt := 70) hx hb d_Mo_point_63 (by decide) (fun c63 => ?_) (fun c63 => ?_)
          · have h := h.2 c63
            refine lv_iconst (v := 0) hx hb d_Mo_point_70 (by decide) ?_
            refine lv_iload hx hb d_Mo_point_71 (lv_at hl 0 rfl) ?_
            refine lv_aload_n hx hb d_Mo_point_73 rfl (lv_at hl 1 rfl) ?_
            refine gf_Mo_points hF hK hP m_194 d_Mo_point_74 ?_
            refine lv_bipush (v := 30) hx hb d_Mo_point_77 (by decide) ?_
            refine lv_icmp_ne (tgt := 86) hx hb d_Mo_point_79 (by decide) (fun c79 => ?_) (fun c79 => ?_)
            · have h := h.2 c79
              refine lv_iconst (v := 0) hx hb d_Mo_point_86 (by decide) ?_
              refine r_Mo_throwing hF hK hP hL hS m_283 hl.1 ⟨Nat.le_of_ble_eq_true rfl, Nat.le_of_ble_eq_true rfl⟩ ⟨Nat.zero_le _, Nat.zero_le _⟩ (Nat.le_of_ble_eq_true rfl) d_Mo_point_87 (fun H locs hP hS => ?_)
              refine lv_if_eq (tgt := 95) hx hb d_Mo_point_90 (by decide) (fun c90 => ?_) (fun c90 => ?_)
              · have h := h.1 c90
                refine lv_aload_n hx hb d_Mo_point_95 rfl (lv_at hl 1 rfl) ?_
                refine gf_Mo_kind hF hK hP m_210 d_Mo_point_96 ?_
                refine lv_aload_n hx hb d_Mo_point_99 rfl (lv_at hl 1 rfl) ?_
                refine gf_Mo_points hF hK hP m_194 d_Mo_point_100 ?_
                refine lv_iload_n hx hb d_Mo_point_103 rfl (lv_at hl 2 rfl) ?_
                have k104 := h.1
                have h := h.2
                refine asM_5 hF hK hP hL hS k104 d_Mo_point_104 (fun H locs hP hS => ?_)
                refine lv_aload_n hx hb d_Mo_point_105 rfl (lv_at hl 1 rfl) ?_
                refine gf_Mo_height hF hK hP m_211 d_Mo_point_106 ?_
                refine lv_aload_n hx hb d_Mo_point_109 rfl (lv_at hl 1 rfl) ?_
                refine gf_Mo_points hF hK hP m_194 d_Mo_point_110 ?_
                refine lv_iload_n hx hb d_Mo_point_113 rfl (lv_at hl 3 rfl) ?_
                have k114 := h.1
                have h := h.2
                refine asM_6 hF hK hP hL hS k114 d_Mo_point_114 (fun H locs hP hS => ?_)
                refine lv_aload_n hx hb d_Mo_point_115 rfl (lv_at hl 1 rfl) ?_
                refine gf_Mo_people hF hK hP m_212 d_Mo_point_116 ?_
                refine lv_aload_n hx hb d_Mo_point_119 rfl (lv_at hl 1 rfl) ?_
                refine gf_Mo_points hF hK hP m_194 d_Mo_point_120 ?_
                refine lv_iload_n hx hb d_Mo_point_123 rfl (lv_at hl 4 rfl) ?_
                have k124 := h.1
                have h := h.2
                refine asM_7 hF hK hP hL hS k124 d_Mo_point_124 (fun H locs hP hS => ?_)
                refine lv_aload_n hx hb d_Mo_point_125 rfl (lv_at hl 1 rfl) ?_
                refine gf_Mo_px hF hK hP m_243 d_Mo_point_126 ?_
                refine lv_aload_n hx hb d_Mo_point_129 rfl (lv_at hl 1 rfl) ?_
                refine gf_Mo_points hF hK hP m_194 d_Mo_point_130 ?_
                refine lv_iload hx hb d_Mo_point_133 (lv_at hl 5 rfl) ?_
                have k135 := h.1
                have h := h.2
                refine asM_8 hF hK hP hL hS k135 d_Mo_point_135 (fun H locs hP hS => ?_)
                refine lv_aload_n hx hb d_Mo_point_136 rfl (lv_at hl 1 rfl) ?_
                refine gf_Mo_py hF hK hP m_245 d_Mo_point_137 ?_
                refine lv_aload_n hx hb d_Mo_point_140 rfl (lv_at hl 1 rfl) ?_
                refine gf_Mo_points hF hK hP m_194 d_Mo_point_141 ?_
                refine lv_iload hx hb d_Mo_point_144 (lv_at hl 6 rfl) ?_
                have k146 := h.1
                have h := h.2
                refine asM_9 hF hK hP hL hS k146 d_Mo_point_146 (fun H locs hP hS => ?_)
                refine lv_aload_n hx hb d_Mo_point_147 rfl (lv_at hl 1 rfl) ?_
                refine gf_Mo_visited hF hK hP m_224 d_Mo_point_148 ?_
                refine lv_aload_n hx hb d_Mo_point_151 rfl (lv_at hl 1 rfl) ?_
                refine gf_Mo_points hF hK hP m_194 d_Mo_point_152 ?_
                refine lv_iconst (v := (-1)) hx hb d_Mo_point_155 (by decide) ?_
                have k156 := h
                refine asM_10 hF hK hP hL hS k156 d_Mo_point_156 (fun H locs hP hS => ?_)
                refine lv_aload_n hx hb d_Mo_point_157 rfl (lv_at hl 1 rfl) ?_
                refine lv_dup hx hb d_Mo_point_158 rfl ?_
                refine gf_Mo_points hF hK hP m_194 d_Mo_point_159 ?_
                refine lv_iconst (v := 1) hx hb d_Mo_point_162 (by decide) ?_
                refine lv_iadd hx hb d_Mo_point_163 ?_
                refine pf_Mo_points hF hK hP hL hS m_194 d_Mo_point_164 (fun H locs hP hS => ?_)
                refine lv_aload_n hx hb d_Mo_point_167 rfl (lv_at hl 1 rfl) ?_
                refine gf_Mo_points hF hK hP m_194 d_Mo_point_168 ?_
                refine lv_iconst (v := 1) hx hb d_Mo_point_171 (by decide) ?_
                refine lv_isub hx hb d_Mo_point_172 ?_
                have hv : ((((sg ((f_Mo_throwing ar sc 0 1 0).2.2) 2 ((((f_Mo_throwing ar sc 0 1 0).2.2) 2) + 1)) 2) - 1, s2 (s2 (s2 (s2 (s2 (s2 ((f_Mo_throwing ar sc 0 1 0).2.1) 5 ((((f_Mo_throwing ar sc 0 1 0).2.2) 2).toNatClampNeg) a0) 6 ((((f_Mo_throwing ar sc 0 1 0).2.2) 2).toNatClampNeg) a1) 7 ((((f_Mo_throwing ar sc 0 1 0).2.2) 2).toNatClampNeg) a2) 8 ((((f_Mo_throwing ar sc 0 1 0).2.2) 2).toNatClampNeg) a3) 9 ((((f_Mo_throwing ar sc 0 1 0).2.2) 2).toNatClampNeg) a4) 10 ((((f_Mo_throwing ar sc 0 1 0).2.2) 2).toNatClampNeg) (-1), sg ((f_Mo_throwing ar sc 0 1 0).2.2) 2 ((((f_Mo_throwing ar sc 0 1 0).2.2) 2) + 1)) : Int32 × (Nat → Nat → Int32) × (Nat → Int32)) = f_Mo_point ar sc a0 a1 a2 a3 a4 := by rw [f_Mo_point, if_neg c8, if_neg c18, if_neg c32, if_pos c46, if_neg c63, if_neg c79, if_pos c90]
                exact W.iret (v := ((sg ((f_Mo_throwing ar sc 0 1 0).2.2) 2 ((((f_Mo_throwing ar sc 0 1 0).2.2) 2) + 1)) 2) - 1) hx hb hr (fun t ht hW => ⟨⟨((sg ((f_Mo_throwing ar sc 0 1 0).2.2) 2 ((((f_Mo_throwing ar sc 0 1 0).2.2) 2) + 1)) 2) - 1, (s2 (s2 (s2 (s2 (s2 (s2 ((f_Mo_throwing ar sc 0 1 0).2.1) 5 ((((f_Mo_throwing ar sc 0 1 0).2.2) 2).toNatClampNeg) a0) 6 ((((f_Mo_throwing ar sc 0 1 0).2.2) 2).toNatClampNeg) a1) 7 ((((f_Mo_throwing ar sc 0 1 0).2.2) 2).toNatClampNeg) a2) 8 ((((f_Mo_throwing ar sc 0 1 0).2.2) 2).toNatClampNeg) a3) 9 ((((f_Mo_throwing ar sc 0 1 0).2.2) 2).toNatClampNeg) a4) 10 ((((f_Mo_throwing ar sc 0 1 0).2.2) 2).toNatClampNeg) (-1), sg ((f_Mo_throwing ar sc 0 1 0).2.2) 2 ((((f_Mo_throwing ar sc 0 1 0).2.2) 2) + 1)), rfl, hv, by dsimp only; rw [ht]; exact hP⟩, hS.F ht⟩) hS.2.2 d_Mo_point_173
              · have h := h.2 c90
                refine lv_iconst (v := 0) hx hb d_Mo_point_93 (by decide) ?_
                have hv : ((0, (f_Mo_throwing ar sc 0 1 0).2.1, (f_Mo_throwing ar sc 0 1 0).2.2) : Int32 × (Nat → Nat → Int32) × (Nat → Int32)) = f_Mo_point ar sc a0 a1 a2 a3 a4 := by rw [f_Mo_point, if_neg c8, if_neg c18, if_neg c32, if_pos c46, if_neg c63, if_neg c79, if_neg c90]
                exact W.iret (v := 0) hx hb hr (fun t ht hW => ⟨⟨0, ((f_Mo_throwing ar sc 0 1 0).2.1, (f_Mo_throwing ar sc 0 1 0).2.2), rfl, hv, by dsimp only; rw [ht]; exact hP⟩, hS.F ht⟩) hS.2.2 d_Mo_point_94
            · have h := h.1 c79
              refine lv_iconst (v := 1) hx hb d_Mo_point_82 (by decide) ?_
              refine lv_goto (tgt := 87) hx hb d_Mo_point_83 (by decide) ?_
              refine r_Mo_throwing hF hK hP hL hS m_283 hl.1 ⟨Nat.le_of_ble_eq_true rfl, Nat.le_of_ble_eq_true rfl⟩ ⟨Nat.zero_le _, Nat.zero_le _⟩ (Nat.le_of_ble_eq_true rfl) d_Mo_point_87 (fun H locs hP hS => ?_)
              refine lv_if_eq (tgt := 95) hx hb d_Mo_point_90 (by decide) (fun c90 => ?_) (fun c90 => ?_)
              · have h := h.1 c90
                refine lv_aload_n hx hb d_Mo_point_95 rfl (lv_at hl 1 rfl) ?_
                refine gf_Mo_kind hF hK hP m_210 d_Mo_point_96 ?_
                refine lv_aload_n hx hb d_Mo_point_99 rfl (lv_at hl 1 rfl) ?_
                refine gf_Mo_points hF hK hP m_194 d_Mo_point_100 ?_
                refine lv_iload_n hx hb d_Mo_point_103 rfl (lv_at hl 2 rfl) ?_
                have k104 := h.1
                have h := h.2
                refine asM_5 hF hK hP hL hS k104 d_Mo_point_104 (fun H locs hP hS => ?_)
                refine lv_aload_n hx hb d_Mo_point_105 rfl (lv_at hl 1 rfl) ?_
                refine gf_Mo_height hF hK hP m_211 d_Mo_point_106 ?_
                refine lv_aload_n hx hb d_Mo_point_109 rfl (lv_at hl 1 rfl) ?_
                refine gf_Mo_points hF hK hP m_194 d_Mo_point_110 ?_
                refine lv_iload_n hx hb d_Mo_point_113 rfl (lv_at hl 3 rfl) ?_
                have k114 := h.1
                have h := h.2
                refine asM_6 hF hK hP hL hS k114 d_Mo_point_114 (fun H locs hP hS => ?_)
                refine lv_aload_n hx hb d_Mo_point_115 rfl (lv_at hl 1 rfl) ?_
                refine gf_Mo_people hF hK hP m_212 d_Mo_point_116 ?_
                refine lv_aload_n hx hb d_Mo_point_119 rfl (lv_at hl 1 rfl) ?_
                refine gf_Mo_points hF hK hP m_194 d_Mo_point_120 ?_
                refine lv_iload_n hx hb d_Mo_point_123 rfl (lv_at hl 4 rfl) ?_
                have k124 := h.1
                have h := h.2
                refine asM_7 hF hK hP hL hS k124 d_Mo_point_124 (fun H locs hP hS => ?_)
                refine lv_aload_n hx hb d_Mo_point_125 rfl (lv_at hl 1 rfl) ?_
                refine gf_Mo_px hF hK hP m_243 d_Mo_point_126 ?_
                refine lv_aload_n hx hb d_Mo_point_129 rfl (lv_at hl 1 rfl) ?_
                refine gf_Mo_points hF hK hP m_194 d_Mo_point_130 ?_
                refine lv_iload hx hb d_Mo_point_133 (lv_at hl 5 rfl) ?_
                have k135 := h.1
                have h := h.2
                refine asM_8 hF hK hP hL hS k135 d_Mo_point_135 (fun H locs hP hS => ?_)
                refine lv_aload_n hx hb d_Mo_point_136 rfl (lv_at hl 1 rfl) ?_
                refine gf_Mo_py hF hK hP m_245 d_Mo_point_137 ?_
                refine lv_aload_n hx hb d_Mo_point_140 rfl (lv_at hl 1 rfl) ?_
                refine gf_Mo_points hF hK hP m_194 d_Mo_point_141 ?_
                refine lv_iload hx hb d_Mo_point_144 (lv_at hl 6 rfl) ?_
                have k146 := h.1
                have h := h.2
                refine asM_9 hF hK hP hL hS k146 d_Mo_point_146 (fun H locs hP hS => ?_)
                refine lv_aload_n hx hb d_Mo_point_147 rfl (lv_at hl 1 rfl) ?_
                refine gf_Mo_visited hF hK hP m_224 d_Mo_point_148 ?_
                refine lv_aload_n hx hb d_Mo_point_151 rfl (lv_at hl 1 rfl) ?_
                refine gf_Mo_points hF hK hP m_194 d_Mo_point_152 ?_
                refine lv_iconst (v := (-1)) hx hb d_Mo_point_155 (by decide) ?_
                have k156 := h
                refine asM_10 hF hK hP hL hS k156 d_Mo_point_156 (fun H locs hP hS => ?_)
                refine lv_aload_n hx hb d_Mo_point_157 rfl (lv_at hl 1 rfl) ?_
                refine lv_dup hx hb d_Mo_point_158 rfl ?_
                refine gf_Mo_points hF hK hP m_194 d_Mo_point_159 ?_
                refine lv_iconst (v := 1) hx hb d_Mo_point_162 (by decide) ?_
                refine lv_iadd hx hb d_Mo_point_163 ?_
                refine pf_Mo_points hF hK hP hL hS m_194 d_Mo_point_164 (fun H locs hP hS => ?_)
                refine lv_aload_n hx hb d_Mo_point_167 rfl (lv_at hl 1 rfl) ?_
                refine gf_Mo_points hF hK hP m_194 d_Mo_point_168 ?_
                refine lv_iconst (v := 1) hx hb d_Mo_point_171 (by decide) ?_
                refine lv_isub hx hb d_Mo_point_172 ?_
                have hv : ((((sg ((f_Mo_throwing ar sc 0 1 1).2.2) 2 ((((f_Mo_throwing ar sc 0 1 1).2.2) 2) + 1)) 2) - 1, s2 (s2 (s2 (s2 (s2 (s2 ((f_Mo_throwing ar sc 0 1 1).2.1) 5 ((((f_Mo_throwing ar sc 0 1 1).2.2) 2).toNatClampNeg) a0) 6 ((((f_Mo_throwing ar sc 0 1 1).2.2) 2).toNatClampNeg) a1) 7 ((((f_Mo_throwing ar sc 0 1 1).2.2) 2).toNatClampNeg) a2) 8 ((((f_Mo_throwing ar sc 0 1 1).2.2) 2).toNatClampNeg) a3) 9 ((((f_Mo_throwing ar sc 0 1 1).2.2) 2).toNatClampNeg) a4) 10 ((((f_Mo_throwing ar sc 0 1 1).2.2) 2).toNatClampNeg) (-1), sg ((f_Mo_throwing ar sc 0 1 1).2.2) 2 ((((f_Mo_throwing ar sc 0 1 1).2.2) 2) + 1)) : Int32 × (Nat → Nat → Int32) × (Nat → Int32)) = f_Mo_point ar sc a0 a1 a2 a3 a4 := by rw [f_Mo_point, if_neg c8, if_neg c18, if_neg c32, if_pos c46, if_neg c63, if_pos c79, if_pos c90]
                exact W.iret (v := ((sg ((f_Mo_throwing ar sc 0 1 1).2.2) 2 ((((f_Mo_throwing ar sc 0 1 1).2.2) 2) + 1)) 2) - 1) hx hb hr (fun t ht hW => ⟨⟨((sg ((f_Mo_throwing ar sc 0 1 1).2.2) 2 ((((f_Mo_throwing ar sc 0 1 1).2.2) 2) + 1)) 2) - 1, (s2 (s2 (s2 (s2 (s2 (s2 ((f_Mo_throwing ar sc 0 1 1).2.1) 5 ((((f_Mo_throwing ar sc 0 1 1).2.2) 2).toNatClampNeg) a0) 6 ((((f_Mo_throwing ar sc 0 1 1).2.2) 2).toNatClampNeg) a1) 7 ((((f_Mo_throwing ar sc 0 1 1).2.2) 2).toNatClampNeg) a2) 8 ((((f_Mo_throwing ar sc 0 1 1).2.2) 2).toNatClampNeg) a3) 9 ((((f_Mo_throwing ar sc 0 1 1).2.2) 2).toNatClampNeg) a4) 10 ((((f_Mo_throwing ar sc 0 1 1).2.2) 2).toNatClampNeg) (-1), sg ((f_Mo_throwing ar sc 0 1 1).2.2) 2 ((((f_Mo_throwing ar sc 0 1 1).2.2) 2) + 1)), rfl, hv, by dsimp only; rw [ht]; exact hP⟩, hS.F ht⟩) hS.2.2 d_Mo_point_173
              · have h := h.2 c90
                refine lv_iconst (v := 0) hx hb d_Mo_point_93 (by decide) ?_
                have hv : ((0, (f_Mo_throwing ar sc 0 1 1).2.1, (f_Mo_throwing ar sc 0 1 1).2.2) : Int32 × (Nat → Nat → Int32) × (Nat → Int32)) = f_Mo_point ar sc a0 a1 a2 a3 a4 := by rw [f_Mo_point, if_neg c8, if_neg c18, if_neg c32, if_pos c46, if_neg c63, if_pos c79, if_neg c90]
                exact W.iret (v := 0) hx hb hr (fun t ht hW => ⟨⟨0, ((f_Mo_throwing ar sc 0 1 1).2.1, (f_Mo_throwing ar sc 0 1 1).2.2), rfl, hv, by dsimp only; rw [ht]; exact hP⟩, hS.F ht⟩) hS.2.2 d_Mo_point_94
          · have h := h.1 c63
            refine lv_iconst (v := 1) hx hb d_Mo_point_66 (by decide) ?_
            refine lv_goto (tgt := 71) hx hb d_Mo_point_67 (by decide) ?_
            refine lv_iload hx hb d_Mo_point_71 (lv_at hl 0 rfl) ?_
            refine lv_aload_n hx hb d_Mo_point_73 rfl (lv_at hl 1 rfl) ?_
            refine gf_Mo_points hF hK hP m_194 d_Mo_point_74 ?_
            refine lv_bipush (v := 30) hx hb d_Mo_point_77 (by decide) ?_
            refine lv_icmp_ne (tgt := 86) hx hb d_Mo_point_79 (by decide) (fun c79 => ?_) (fun c79 => ?_)
            · have h := h.2 c79
              refine lv_iconst (v := 0) hx hb d_Mo_point_86 (by decide) ?_
              refine r_Mo_throwing hF hK hP hL hS m_283 hl.1 ⟨Nat.le_of_ble_eq_true rfl, Nat.le_of_ble_eq_true rfl⟩ ⟨Nat.zero_le _, Nat.zero_le _⟩ (Nat.le_of_ble_eq_true rfl) d_Mo_point_87 (fun H locs hP hS => ?_)
              refine lv_if_eq (tgt := 95) hx hb d_Mo_point_90 (by decide) (fun c90 => ?_) (fun c90 => ?_)
              · have h := h.1 c90
                refine lv_aload_n hx hb d_Mo_point_95 rfl (lv_at hl 1 rfl) ?_
                refine gf_Mo_kind hF hK hP m_210 d_Mo_point_96 ?_
                refine lv_aload_n hx hb d_Mo_point_99 rfl (lv_at hl 1 rfl) ?_
                refine gf_Mo_points hF hK hP m_194 d_Mo_point_100 ?_
                refine lv_iload_n hx hb d_Mo_point_103 rfl (lv_at hl 2 rfl) ?_
                have k104 := h.1
                have h := h.2
                refine asM_5 hF hK hP hL hS k104 d_Mo_point_104 (fun H locs hP hS => ?_)
                refine lv_aload_n hx hb d_Mo_point_105 rfl (lv_at hl 1 rfl) ?_
                refine gf_Mo_height hF hK hP m_211 d_Mo_point_106 ?_
                refine lv_aload_n hx hb d_Mo_point_109 rfl (lv_at hl 1 rfl) ?_
                refine gf_Mo_points hF hK hP m_194 d_Mo_point_110 ?_
                refine lv_iload_n hx hb d_Mo_point_113 rfl (lv_at hl 3 rfl) ?_
                have k114 := h.1
                have h := h.2
                refine asM_6 hF hK hP hL hS k114 d_Mo_point_114 (fun H locs hP hS => ?_)
                refine lv_aload_n hx hb d_Mo_point_115 rfl (lv_at hl 1 rfl) ?_
                refine gf_Mo_people hF hK hP m_212 d_Mo_point_116 ?_
                refine lv_aload_n hx hb d_Mo_point_119 rfl (lv_at hl 1 rfl) ?_
                refine gf_Mo_points hF hK hP m_194 d_Mo_point_120 ?_
                refine lv_iload_n hx hb d_Mo_point_123 rfl (lv_at hl 4 rfl) ?_
                have k124 := h.1
                have h := h.2
                refine asM_7 hF hK hP hL hS k124 d_Mo_point_124 (fun H locs hP hS => ?_)
                refine lv_aload_n hx hb d_Mo_point_125 rfl (lv_at hl 1 rfl) ?_
                refine gf_Mo_px hF hK hP m_243 d_Mo_point_126 ?_
                refine lv_aload_n hx hb d_Mo_point_129 rfl (lv_at hl 1 rfl) ?_
                refine gf_Mo_points hF hK hP m_194 d_Mo_point_130 ?_
                refine lv_iload hx hb d_Mo_point_133 (lv_at hl 5 rfl) ?_
                have k135 := h.1
                have h := h.2
                refine asM_8 hF hK hP hL hS k135 d_Mo_point_135 (fun H locs hP hS => ?_)
                refine lv_aload_n hx hb d_Mo_point_136 rfl (lv_at hl 1 rfl) ?_
                refine gf_Mo_py hF hK hP m_245 d_Mo_point_137 ?_
                refine lv_aload_n hx hb d_Mo_point_140 rfl (lv_at hl 1 rfl) ?_
                refine gf_Mo_points hF hK hP m_194 d_Mo_point_141 ?_
                refine lv_iload hx hb d_Mo_point_144 (lv_at hl 6 rfl) ?_
                have k146 := h.1
                have h := h.2
                refine asM_9 hF hK hP hL hS k146 d_Mo_point_146 (fun H locs hP hS => ?_)
                refine lv_aload_n hx hb d_Mo_point_147 rfl (lv_at hl 1 rfl) ?_
                refine gf_Mo_visited hF hK hP m_224 d_Mo_point_148 ?_
                refine lv_aload_n hx hb d_Mo_point_151 rfl (lv_at hl 1 rfl) ?_
                refine gf_Mo_points hF hK hP m_194 d_Mo_point_152 ?_
                refine lv_iconst (v := (-1)) hx hb d_Mo_point_155 (by decide) ?_
                have k156 := h
                refine asM_10 hF hK hP hL hS k156 d_Mo_point_156 (fun H locs hP hS => ?_)
                refine lv_aload_n hx hb d_Mo_point_157 rfl (lv_at hl 1 rfl) ?_
                refine lv_dup hx hb d_Mo_point_158 rfl ?_
                refine gf_Mo_points hF hK hP m_194 d_Mo_point_159 ?_
                refine lv_iconst (v := 1) hx hb d_Mo_point_162 (by decide) ?_
                refine lv_iadd hx hb d_Mo_point_163 ?_
                refine pf_Mo_points hF hK hP hL hS m_194 d_Mo_point_164 (fun H locs hP hS => ?_)
                refine lv_aload_n hx hb d_Mo_point_167 rfl (lv_at hl 1 rfl) ?_
                refine gf_Mo_points hF hK hP m_194 d_Mo_point_168 ?_
                refine lv_iconst (v := 1) hx hb d_Mo_point_171 (by decide) ?_
                refine lv_isub hx hb d_Mo_point_172 ?_
                have hv : ((((sg ((f_Mo_throwing ar sc 1 1 0).2.2) 2 ((((f_Mo_throwing ar sc 1 1 0).2.2) 2) + 1)) 2) - 1, s2 (s2 (s2 (s2 (s2 (s2 ((f_Mo_throwing ar sc 1 1 0).2.1) 5 ((((f_Mo_throwing ar sc 1 1 0).2.2) 2).toNatClampNeg) a0) 6 ((((f_Mo_throwing ar sc 1 1 0).2.2) 2).toNatClampNeg) a1) 7 ((((f_Mo_throwing ar sc 1 1 0).2.2) 2).toNatClampNeg) a2) 8 ((((f_Mo_throwing ar sc 1 1 0).2.2) 2).toNatClampNeg) a3) 9 ((((f_Mo_throwing ar sc 1 1 0).2.2) 2).toNatClampNeg) a4) 10 ((((f_Mo_throwing ar sc 1 1 0).2.2) 2).toNatClampNeg) (-1), sg ((f_Mo_throwing ar sc 1 1 0).2.2) 2 ((((f_Mo_throwing ar sc 1 1 0).2.2) 2) + 1)) : Int32 × (Nat → Nat → Int32) × (Nat → Int32)) = f_Mo_point ar sc a0 a1 a2 a3 a4 := by rw [f_Mo_point, if_neg c8, if_neg c18, if_neg c32, if_pos c46, if_pos c63, if_neg c79, if_pos c90]
                exact W.iret (v := ((sg ((f_Mo_throwing ar sc 1 1 0).2.2) 2 ((((f_Mo_throwing ar sc 1 1 0).2.2) 2) + 1)) 2) - 1) hx hb hr (fun t ht hW => ⟨⟨((sg ((f_Mo_throwing ar sc 1 1 0).2.2) 2 ((((f_Mo_throwing ar sc 1 1 0).2.2) 2) + 1)) 2) - 1, (s2 (s2 (s2 (s2 (s2 (s2 ((f_Mo_throwing ar sc 1 1 0).2.1) 5 ((((f_Mo_throwing ar sc 1 1 0).2.2) 2).toNatClampNeg) a0) 6 ((((f_Mo_throwing ar sc 1 1 0).2.2) 2).toNatClampNeg) a1) 7 ((((f_Mo_throwing ar sc 1 1 0).2.2) 2).toNatClampNeg) a2) 8 ((((f_Mo_throwing ar sc 1 1 0).2.2) 2).toNatClampNeg) a3) 9 ((((f_Mo_throwing ar sc 1 1 0).2.2) 2).toNatClampNeg) a4) 10 ((((f_Mo_throwing ar sc 1 1 0).2.2) 2).toNatClampNeg) (-1), sg ((f_Mo_throwing ar sc 1 1 0).2.2) 2 ((((f_Mo_throwing ar sc 1 1 0).2.2) 2) + 1)), rfl, hv, by dsimp only; rw [ht]; exact hP⟩, hS.F ht⟩) hS.2.2 d_Mo_point_173
              · have h := h.2 c90
                refine lv_iconst (v := 0) hx hb d_Mo_point_93 (by decide) ?_
                have hv : ((0, (f_Mo_throwing ar sc 1 1 0).2.1, (f_Mo_throwing ar sc 1 1 0).2.2) : Int32 × (Nat → Nat → Int32) × (Nat → Int32)) = f_Mo_point ar sc a0 a1 a2 a3 a4 := by rw [f_Mo_point, if_neg c8, if_neg c18, if_neg c32, if_pos c46, if_pos c63, if_neg c79, if_neg c90]
                exact W.iret (v := 0) hx hb hr (fun t ht hW => ⟨⟨0, ((f_Mo_throwing ar sc 1 1 0).2.1, (f_Mo_throwing ar sc 1 1 0).2.2), rfl, hv, by dsimp only; rw [ht]; exact hP⟩, hS.F ht⟩) hS.2.2 d_Mo_point_94
            · have h := h.1 c79
              refine lv_iconst (v := 1) hx hb d_Mo_point_82 (by decide) ?_
              refine lv_goto (tgt := 87) hx hb d_Mo_point_83 (by decide) ?_
              refine r_Mo_throwing hF hK hP hL hS m_283 hl.1 ⟨Nat.le_of_ble_eq_true rfl, Nat.le_of_ble_eq_true rfl⟩ ⟨Nat.zero_le _, Nat.zero_le _⟩ (Nat.le_of_ble_eq_true rfl) d_Mo_point_87 (fun H locs hP hS => ?_)
              refine lv_if_eq (tgt := 95) hx hb d_Mo_point_90 (by decide) (fun c90 => ?_) (fun c90 => ?_)
              · have h := h.1 c90
                refine lv_aload_n hx hb d_Mo_point_95 rfl (lv_at hl 1 rfl) ?_
                refine gf_Mo_kind hF hK hP m_210 d_Mo_point_96 ?_
                refine lv_aload_n hx hb d_Mo_point_99 rfl (lv_at hl 1 rfl) ?_
                refine gf_Mo_points hF hK hP m_194 d_Mo_point_100 ?_
                refine lv_iload_n hx hb d_Mo_point_103 rfl (lv_at hl 2 rfl) ?_
                have k104 := h.1
                have h := h.2
                refine asM_5 hF hK hP hL hS k104 d_Mo_point_104 (fun H locs hP hS => ?_)
                refine lv_aload_n hx hb d_Mo_point_105 rfl (lv_at hl 1 rfl) ?_
                refine gf_Mo_height hF hK hP m_211 d_Mo_point_106 ?_
                refine lv_aload_n hx hb d_Mo_point_109 rfl (lv_at hl 1 rfl) ?_
                refine gf_Mo_points hF hK hP m_194 d_Mo_point_110 ?_
                refine lv_iload_n hx hb d_Mo_point_113 rfl (lv_at hl 3 rfl) ?_
                have k114 := h.1
                have h := h.2
                refine asM_6 hF hK hP hL hS k114 d_Mo_point_114 (fun H locs hP hS => ?_)
                refine lv_aload_n hx hb d_Mo_point_115 rfl (lv_at hl 1 rfl) ?_
                refine gf_Mo_people hF hK hP m_212 d_Mo_point_116 ?_
                refine lv_aload_n hx hb d_Mo_point_119 rfl (lv_at hl 1 rfl) ?_
                refine gf_Mo_points hF hK hP m_194 d_Mo_point_120 ?_
                refine lv_iload_n hx hb d_Mo_point_123 rfl (lv_at hl 4 rfl) ?_
                have k124 := h.1
                have h := h.2
                refine asM_7 hF hK hP hL hS k124 d_Mo_point_124 (fun H locs hP hS => ?_)
                refine lv_aload_n hx hb d_Mo_point_125 rfl (lv_at hl 1 rfl) ?_
                refine gf_Mo_px hF hK hP m_243 d_Mo_point_126 ?_
                refine lv_aload_n hx hb d_Mo_point_129 rfl (lv_at hl 1 rfl) ?_
                refine gf_Mo_points hF hK hP m_194 d_Mo_point_130 ?_
                refine lv_iload hx hb d_Mo_point_133 (lv_at hl 5 rfl) ?_
                have k135 := h.1
                have h := h.2
                refine asM_8 hF hK hP hL hS k135 d_Mo_point_135 (fun H locs hP hS => ?_)
                refine lv_aload_n hx hb d_Mo_point_136 rfl (lv_at hl 1 rfl) ?_
                refine gf_Mo_py hF hK hP m_245 d_Mo_point_137 ?_
                refine lv_aload_n hx hb d_Mo_point_140 rfl (lv_at hl 1 rfl) ?_
                refine gf_Mo_points hF hK hP m_194 d_Mo_point_141 ?_
                refine lv_iload hx hb d_Mo_point_144 (lv_at hl 6 rfl) ?_
                have k146 := h.1
                have h := h.2
                refine asM_9 hF hK hP hL hS k146 d_Mo_point_146 (fun H locs hP hS => ?_)
                refine lv_aload_n hx hb d_Mo_point_147 rfl (lv_at hl 1 rfl) ?_
                refine gf_Mo_visited hF hK hP m_224 d_Mo_point_148 ?_
                refine lv_aload_n hx hb d_Mo_point_151 rfl (lv_at hl 1 rfl) ?_
                refine gf_Mo_points hF hK hP m_194 d_Mo_point_152 ?_
                refine lv_iconst (v := (-1)) hx hb d_Mo_point_155 (by decide) ?_
                have k156 := h
                refine asM_10 hF hK hP hL hS k156 d_Mo_point_156 (fun H locs hP hS => ?_)
                refine lv_aload_n hx hb d_Mo_point_157 rfl (lv_at hl 1 rfl) ?_
                refine lv_dup hx hb d_Mo_point_158 rfl ?_
                refine gf_Mo_points hF hK hP m_194 d_Mo_point_159 ?_
                refine lv_iconst (v := 1) hx hb d_Mo_point_162 (by decide) ?_
                refine lv_iadd hx hb d_Mo_point_163 ?_
                refine pf_Mo_points hF hK hP hL hS m_194 d_Mo_point_164 (fun H locs hP hS => ?_)
                refine lv_aload_n hx hb d_Mo_point_167 rfl (lv_at hl 1 rfl) ?_
                refine gf_Mo_points hF hK hP m_194 d_Mo_point_168 ?_
                refine lv_iconst (v := 1) hx hb d_Mo_point_171 (by decide) ?_
                refine lv_isub hx hb d_Mo_point_172 ?_
                have hv : ((((sg ((f_Mo_throwing ar sc 1 1 1).2.2) 2 ((((f_Mo_throwing ar sc 1 1 1).2.2) 2) + 1)) 2) - 1, s2 (s2 (s2 (s2 (s2 (s2 ((f_Mo_throwing ar sc 1 1 1).2.1) 5 ((((f_Mo_throwing ar sc 1 1 1).2.2) 2).toNatClampNeg) a0) 6 ((((f_Mo_throwing ar sc 1 1 1).2.2) 2).toNatClampNeg) a1) 7 ((((f_Mo_throwing ar sc 1 1 1).2.2) 2).toNatClampNeg) a2) 8 ((((f_Mo_throwing ar sc 1 1 1).2.2) 2).toNatClampNeg) a3) 9 ((((f_Mo_throwing ar sc 1 1 1).2.2) 2).toNatClampNeg) a4) 10 ((((f_Mo_throwing ar sc 1 1 1).2.2) 2).toNatClampNeg) (-1), sg ((f_Mo_throwing ar sc 1 1 1).2.2) 2 ((((f_Mo_throwing ar sc 1 1 1).2.2) 2) + 1)) : Int32 × (Nat → Nat → Int32) × (Nat → Int32)) = f_Mo_point ar sc a0 a1 a2 a3 a4 := by rw [f_Mo_point, if_neg c8, if_neg c18, if_neg c32, if_pos c46, if_pos c63, if_pos c79, if_pos c90]
                exact W.iret (v := ((sg ((f_Mo_throwing ar sc 1 1 1).2.2) 2 ((((f_Mo_throwing ar sc 1 1 1).2.2) 2) + 1)) 2) - 1) hx hb hr (fun t ht hW => ⟨⟨((sg ((f_Mo_throwing ar sc 1 1 1).2.2) 2 ((((f_Mo_throwing ar sc 1 1 1).2.2) 2) + 1)) 2) - 1, (s2 (s2 (s2 (s2 (s2 (s2 ((f_Mo_throwing ar sc 1 1 1).2.1) 5 ((((f_Mo_throwing ar sc 1 1 1).2.2) 2).toNatClampNeg) a0) 6 ((((f_Mo_throwing ar sc 1 1 1).2.2) 2).toNatClampNeg) a1) 7 ((((f_Mo_throwing ar sc 1 1 1).2.2) 2).toNatClampNeg) a2) 8 ((((f_Mo_throwing ar sc 1 1 1).2.2) 2).toNatClampNeg) a3) 9 ((((f_Mo_throwing ar sc 1 1 1).2.2) 2).toNatClampNeg) a4) 10 ((((f_Mo_throwing ar sc 1 1 1).2.2) 2).toNatClampNeg) (-1), sg ((f_Mo_throwing ar sc 1 1 1).2.2) 2 ((((f_Mo_throwing ar sc 1 1 1).2.2) 2) + 1)), rfl, hv, by dsimp only; rw [ht]; exact hP⟩, hS.F ht⟩) hS.2.2 d_Mo_point_173
              · have h := h.2 c90
                refine lv_iconst (v := 0) hx hb d_Mo_point_93 (by decide) ?_
                have hv : ((0, (f_Mo_throwing ar sc 1 1 1).2.1, (f_Mo_throwing ar sc 1 1 1).2.2) : Int32 × (Nat → Nat → Int32) × (Nat → Int32)) = f_Mo_point ar sc a0 a1 a2 a3 a4 := by rw [f_Mo_point, if_neg c8, if_neg c18, if_neg c32, if_pos c46, if_pos c63, if_pos c79, if_neg c90]
                exact W.iret (v := 0) hx hb hr (fun t ht hW => ⟨⟨0, ((f_Mo_throwing ar sc 1 1 1).2.1, (f_Mo_throwing ar sc 1 1 1).2.2), rfl, hv, by dsimp only; rw [ht]; exact hP⟩, hS.F ht⟩) hS.2.2 d_Mo_point_94
set_option maxHeartbeats 1000000 in
theorem r_Mo_point {p : Program} {l : Launch} {e : Env} {R : Room} {s : State} {m : MethodId} {args : Array Value} {below : List Frame} {meth : Method} {c : Code} {H : Heap} {locs : List Loc} {cells slots : Nat} {Q : State → Prop} {cc : ByteArray} {nL pc idx : Nat} {ls : Array Slot} {rest : List Value} {own : String} {dC : Nat → ClassId} {dI : Nat → Nat → Nat} {L : Nat → Nat} {cA : Nat → ClassId} {ar : Nat → Nat → Int32} {sc : Nat → Int32} {H0 : Heap} {a0 : Int32} {a1 : Int32} {a2 : Int32} {a3 : Int32} {a4 : Int32} (hF : CallFix p m c cc nL s args w_all own) (hK : kW_M dC dI cA s) (hP : va_P (dC, dI) classes (wM L cA ar sc) H) (hL : ij 25 L) (hS : va_S (aM L) H0 H locs) (h : p_Mo_point ar sc a0 a1 a2 a3 a4) (hlk : Cond.methodLink own idx y_Mo_point ∈ w_all) (hsz : ls.size = nL) (hR : (rmD 5).frames + 1 ≤ R.frames ∧ 8 + (7 + 11) + (rmD 5).locals ≤ R.locals) (hc : cells ≤ R.cells ∧ slots ≤ R.slots) (hrs : (rest.map fun v => v.category).sum ≤ 8) (hdg : decode cc pc = .ok (.invokevirtual idx, 3)) (kk : ∀ (H1 : Heap) (locs1 : List Loc), va_P (dC, dI) classes (wM L cA ((f_Mo_point ar sc a0 a1 a2 a3 a4).2.1) ((f_Mo_point ar sc a0 a1 a2 a3 a4).2.2)) H1 → va_S (aM L) H0 H1 locs1 → W p l e R s m args below meth c H1 locs1 cells slots Q (F0 m (pc + 3) ls (.int (f_Mo_point ar sc a0 a1 a2 a3 a4).1 :: rest))) : W p l e R s m args below meth c H locs cells slots Q (F0 m pc ls (.int a4 :: .int a3 :: .int a2 :: .int a1 :: .int a0 :: .ref (L 0) :: rest)) :=
  va_calli (va_runV (As := [.int a0, .int a1, .int a2, .int a3, .int a4]) (rest := rest) hF (c_Mo_point l dC dI L cA ar sc a0 a1 a2 a3 a4 hL h) (cwV 5 hF.2.2.2.2 (gV hlk m_295 m_296 m_187 m_297) rfl rfl rfl (by decide +kernel) hR) ⟨xb_M, va_recv hK.1 hP (ci := 7) (q0 := 0) rfl rfl, fun U hU hW => ⟨rfl, by rw [hU]; exact hP, kW_M_warm hW hK⟩⟩ rfl rfl hsz rfl (lv_room hrs) hdg hc) hS (fun q _ h9 => h9) (fun q h9 => h9) (fun r u t H1 locs1 ht hvm hw hB hz1 hk1 hS1 => by
    have hk9 := kk H1 locs1 (by rw [← hw, ← ht]; exact hB) hS1
    rw [← hw] at hk9
    exact hk9)
theorem d_Mo_day_0 : decode b_Mo_day 0 = .ok (.aload_n 0, 1) := by decide +kernel
theorem d_Mo_day_1 : decode b_Mo_day 1 = .ok (.iload_n 1, 1) := by decide +kernel
theorem d_Mo_day_2 : decode b_Mo_day 2 = .ok (.aload_n 0, 1) := by decide +kernel
theorem d_Mo_day_3 : decode b_Mo_day 3 = .ok (.getfield 109, 3) := by decide +kernel
theorem d_Mo_day_6 : decode b_Mo_day 6 = .ok (.if_icmp .lt 9, 3) := by decide +kernel
theorem d_Mo_day_9 : decode b_Mo_day 9 = .ok (.iload_n 1, 1) := by decide +kernel
theorem d_Mo_day_10 : decode b_Mo_day 10 = .ok (.ldc 112, 2) := by decide +kernel
theorem d_Mo_day_12 : decode b_Mo_day 12 = .ok (.if_icmp .le 7, 3) := by decide +kernel
theorem d_Mo_day_15 : decode b_Mo_day 15 = .ok (.iconst 1, 1) := by decide +kernel
theorem d_Mo_day_16 : decode b_Mo_day 16 = .ok (.goto 4, 3) := by decide +kernel
theorem d_Mo_day_19 : decode b_Mo_day 19 = .ok (.iconst 0, 1) := by decide +kernel
theorem d_Mo_day_20 : decode b_Mo_day 20 = .ok (.iconst 0, 1) := by decide +kernel
theorem d_Mo_day_21 : decode b_Mo_day 21 = .ok (.iconst 0, 1) := by decide +kernel
theorem d_Mo_day_22 : decode b_Mo_day 22 = .ok (.invokevirtual 104, 3) := by decide +kernel
theorem d_Mo_day_25 : decode b_Mo_day 25 = .ok (.ifCond .eq 4, 3) := by decide +kernel
theorem d_Mo_day_28 : decode b_Mo_day 28 = .ok (.return_, 1) := by decide +kernel
theorem d_Mo_day_29 : decode b_Mo_day 29 = .ok (.aload_n 0, 1) := by decide +kernel
theorem d_Mo_day_30 : decode b_Mo_day 30 = .ok (.iload_n 1, 1) := by decide +kernel
theorem d_Mo_day_31 : decode b_Mo_day 31 = .ok (.putfield 109, 3) := by decide +kernel
theorem d_Mo_day_34 : decode b_Mo_day 34 = .ok (.return_, 1) := by decide +kernel
set_option maxHeartbeats 4000000 in
set_option maxRecDepth 100000 in
theorem c_Mo_day (l : Launch) (dC : Nat → ClassId) (dI : Nat → Nat → Nat) (L : Nat → Nat) (cA : Nat → ClassId) (ar : Nat → Nat → Int32) (sc : Nat → Int32) (a0 : Int32) (hL : ij 25 L) : Met l y_Mo_day z_Mo_day (rmD 5) (va_Pc [.ref (L 0), .int a0] (fun U => xw_M dC dI L cA ar sc U)) (va_Qv (fun u : oS => (u.1, u.2) = f_Mo_day ar sc a0) (fun u t => va_P (dC, dI) classes (wM L cA u.1 u.2) t.heap) (aM L)) 0 0 (aM L) := by
  refine Met.ofW (cc := b_Mo_day) (maxL := 2) (ret := none) (by decide) rfl ?_
  intro p e s m args below meth c s₁ B hml hv
  obtain ⟨rfl, ⟨hP, hK⟩⟩ := hv
  have hx := B.exec
  have hb := B.bytes
  have hr := B.returns
  have hts : ∀ w ∈ w_all, w.before _ s = true := fun w hw => atoms_spec (ws := z_Mo_day) B.pre w (List.mem_cons_of_mem _ hw)
  have hown : s.vm.findClass R_Mo = some m.cls := findClass_of_methodNamed B.named
  have hlocks := B.notSynchronized
  have hF : CallFix p m c b_Mo_day 2 s _ w_all R_Mo := ⟨hx, hb, hml, hown, hts⟩
  have hS : va_S (aM L) s.heap s.heap [] := va_S.rf
  have hl := lv_entry ([.ref (L 0), .int a0]) (n := 2) (Nat.le_of_ble_eq_true rfl)
  rw [lg_entry_eq]
  generalize (lg_sl ([.ref (L 0), .int a0]) ++ List.replicate (2 - (lg_sl ([.ref (L 0), .int a0])).length) Slot.unset).toArray = ls at hl ⊢
  have hl : lv_has ls 2 [(0, .ref (L 0)), (1, .int a0)] := hl
  refine lv_aload_n hx hb d_Mo_day_0 rfl (lv_at hl 0 rfl) ?_
  refine lv_iload_n hx hb d_Mo_day_1 rfl (lv_at hl 1 rfl) ?_
  refine lv_aload_n hx hb d_Mo_day_2 rfl (lv_at hl 0 rfl) ?_
  refine gf_Mo_day hF hK hP m_200 d_Mo_day_3 ?_
  refine lv_icmp_lt (tgt := 15) hx hb d_Mo_day_6 (by decide) (fun c6 => ?_) (fun c6 => ?_)
  · refine lv_iconst (v := 1) hx hb d_Mo_day_15 (by decide) ?_
    refine lv_goto (tgt := 20) hx hb d_Mo_day_16 (by decide) ?_
    refine lv_iconst (v := 0) hx hb d_Mo_day_20 (by decide) ?_
    refine lv_iconst (v := 0) hx hb d_Mo_day_21 (by decide) ?_
    refine r_Mo_throwing hF hK hP hL hS m_283 hl.1 ⟨Nat.le_of_ble_eq_true rfl, Nat.le_of_ble_eq_true rfl⟩ ⟨Nat.zero_le _, Nat.zero_le _⟩ (Nat.le_of_ble_eq_true rfl) d_Mo_day_22 (fun H locs hP hS => ?_)
    refine lv_if_eq (tgt := 29) hx hb d_Mo_day_25 (by decide) (fun c25 => ?_) (fun c25 => ?_)
    · refine lv_aload_n hx hb d_Mo_day_29 rfl (lv_at hl 0 rfl) ?_
      refine lv_iload_n hx hb d_Mo_day_30 rfl (lv_at hl 1 rfl) ?_
      refine pf_Mo_day hF hK hP hL hS m_200 d_Mo_day_31 (fun H locs hP hS => ?_)
      have hv : (((f_Mo_throwing ar sc 1 0 0).2.1, sg ((f_Mo_throwing ar sc 1 0 0).2.2) 1 a0) : (Nat → Nat → Int32) × (Nat → Int32)) = f_Mo_day ar sc a0 := by rw [f_Mo_day, if_pos c6, if_pos c25]
      exact W.vret hx hb hr (fun t ht hW => ⟨⟨((f_Mo_throwing ar sc 1 0 0).2.1, sg ((f_Mo_throwing ar sc 1 0 0).2.2) 1 a0), rfl, hv, by dsimp only; rw [ht]; exact hP⟩, hS.F ht⟩) hS.2.2 d_Mo_day_34
    · have hv : (((f_Mo_throwing ar sc 1 0 0).2.1, (f_Mo_throwing ar sc 1 0 0).2.2) : (Nat → Nat → Int32) × (Nat → Int32)) = f_Mo_day ar sc a0 := by rw [f_Mo_day, if_pos c6, if_neg c25]
      exact W.vret hx hb hr (fun t ht hW => ⟨⟨((f_Mo_throwing ar sc 1 0 0).2.1, (f_Mo_throwing ar sc 1 0 0).2.2), rfl, hv, by dsimp only; rw [ht]; exact hP⟩, hS.F ht⟩) hS.2.2 d_Mo_day_28
  · refine lv_iload_n hx hb d_Mo_day_9 rfl (lv_at hl 1 rfl) ?_
    refine lv_ldc (v := 99999) hx hb hown (hts _ m_298) d_Mo_day_10 ?_
    refine lv_icmp_le (tgt := 19) hx hb d_Mo_day_12 (by decide) (fun c12 => ?_) (fun c12 => ?_)
    · refine lv_iconst (v := 0) hx hb d_Mo_day_19 (by decide) ?_
      refine lv_iconst (v := 0) hx hb d_Mo_day_20 (by decide) ?_
      refine lv_iconst (v := 0) hx hb d_Mo_day_21 (by decide) ?_
      refine r_Mo_throwing hF hK hP hL hS m_283 hl.1 ⟨Nat.le_of_ble_eq_true rfl, Nat.le_of_ble_eq_true rfl⟩ ⟨Nat.zero_le _, Nat.zero_le _⟩ (Nat.le_of_ble_eq_true rfl) d_Mo_day_22 (fun H locs hP hS => ?_)
      refine lv_if_eq (tgt := 29) hx hb d_Mo_day_25 (by decide) (fun c25 => ?_) (fun c25 => ?_)
      · refine lv_aload_n hx hb d_Mo_day_29 rfl (lv_at hl 0 rfl) ?_
        refine lv_iload_n hx hb d_Mo_day_30 rfl (lv_at hl 1 rfl) ?_
        refine pf_Mo_day hF hK hP hL hS m_200 d_Mo_day_31 (fun H locs hP hS => ?_)
        have hv : (((f_Mo_throwing ar sc 0 0 0).2.1, sg ((f_Mo_throwing ar sc 0 0 0).2.2) 1 a0) : (Nat → Nat → Int32) × (Nat → Int32)) = f_Mo_day ar sc a0 := by rw [f_Mo_day, if_neg c6, if_pos c12, if_pos c25]
        exact W.vret hx hb hr (fun t ht hW => ⟨⟨((f_Mo_throwing ar sc 0 0 0).2.1, sg ((f_Mo_throwing ar sc 0 0 0).2.2) 1 a0), rfl, hv, by dsimp only; rw [ht]; exact hP⟩, hS.F ht⟩) hS.2.2 d_Mo_day_34
      · have hv : (((f_Mo_throwing ar sc 0 0 0).2.1, (f_Mo_throwing ar sc 0 0 0).2.2) : (Nat → Nat → Int32) × (Nat → Int32)) = f_Mo_day ar sc a0 := by rw [f_Mo_day, if_neg c6, if_pos c12, if_neg c25]
        exact W.vret hx hb hr (fun t ht hW => ⟨⟨((f_Mo_throwing ar sc 0 0 0).2.1, (f_Mo_throwing ar sc 0 0 0).2.2), rfl, hv, by dsimp only; rw [ht]; exact hP⟩, hS.F ht⟩) hS.2.2 d_Mo_day_28
    · refine lv_iconst (v := 1) hx hb d_Mo_day_15 (by decide) ?_
      refine lv_goto (tgt := 20) hx hb d_Mo_day_16 (by decide) ?_
      refine lv_iconst (v := 0) hx hb d_Mo_day_20 (by decide) ?_
      refine lv_iconst (v := 0) hx hb d_Mo_day_21 (by decide) ?_
      refine r_Mo_throwing hF hK hP hL hS m_283 hl.1 ⟨Nat.le_of_ble_eq_true rfl, Nat.le_of_ble_eq_true rfl⟩ ⟨Nat.zero_le _, Nat.zero_le _⟩ (Nat.le_of_ble_eq_true rfl) d_Mo_day_22 (fun H locs hP hS => ?_)
      refine lv_if_eq (tgt := 29) hx hb d_Mo_day_25 (by decide) (fun c25 => ?_) (fun c25 => ?_)
      · refine lv_aload_n hx hb d_Mo_day_29 rfl (lv_at hl 0 rfl) ?_
        refine lv_iload_n hx hb d_Mo_day_30 rfl (lv_at hl 1 rfl) ?_
        refine pf_Mo_day hF hK hP hL hS m_200 d_Mo_day_31 (fun H locs hP hS => ?_)
        have hv : (((f_Mo_throwing ar sc 1 0 0).2.1, sg ((f_Mo_throwing ar sc 1 0 0).2.2) 1 a0) : (Nat → Nat → Int32) × (Nat → Int32)) = f_Mo_day ar sc a0 := by rw [f_Mo_day, if_neg c6, if_neg c12, if_pos c25]
        exact W.vret hx hb hr (fun t ht hW => ⟨⟨((f_Mo_throwing ar sc 1 0 0).2.1, sg ((f_Mo_throwing ar sc 1 0 0).2.2) 1 a0), rfl, hv, by dsimp only; rw [ht]; exact hP⟩, hS.F ht⟩) hS.2.2 d_Mo_day_34
      · have hv : (((f_Mo_throwing ar sc 1 0 0).2.1, (f_Mo_throwing ar sc 1 0 0).2.2) : (Nat → Nat → Int32) × (Nat → Int32)) = f_Mo_day ar sc a0 := by rw [f_Mo_day, if_neg c6, if_neg c12, if_neg c25]
        exact W.vret hx hb hr (fun t ht hW => ⟨⟨((f_Mo_throwing ar sc 1 0 0).2.1, (f_Mo_throwing ar sc 1 0 0).2.2), rfl, hv, by dsimp only; rw [ht]; exact hP⟩, hS.F ht⟩) hS.2.2 d_Mo_day_28
set_option maxHeartbeats 1000000 in
theorem r_Mo_day {p : Program} {l : Launch} {e : Env} {R : Room} {s : State} {m : MethodId} {args : Array Value} {below : List Frame} {meth : Method} {c : Code} {H : Heap} {locs : List Loc} {cells slots : Nat} {Q : State → Prop} {cc : ByteArray} {nL pc idx : Nat} {ls : Array Slot} {rest : List Value} {own : String} {dC : Nat → ClassId} {dI : Nat → Nat → Nat} {L : Nat → Nat} {cA : Nat → ClassId} {ar : Nat → Nat → Int32} {sc : Nat → Int32} {H0 : Heap} {a0 : Int32} (hF : CallFix p m c cc nL s args w_all own) (hK : kW_M dC dI cA s) (hP : va_P (dC, dI) classes (wM L cA ar sc) H) (hL : ij 25 L) (hS : va_S (aM L) H0 H locs) (hlk : Cond.methodLink own idx y_Mo_day ∈ w_all) (hsz : ls.size = nL) (hR : (rmD 5).frames + 1 ≤ R.frames ∧ 8 + (2 + 11) + (rmD 5).locals ≤ R.locals) (hc : cells ≤ R.cells ∧ slots ≤ R.slots) (hrs : (rest.map fun v => v.category).sum ≤ 8) (hdg : decode cc pc = .ok (.invokevirtual idx, 3)) (kk : ∀ (H1 : Heap) (locs1 : List Loc), va_P (dC, dI) classes (wM L cA ((f_Mo_day ar sc a0).1) ((f_Mo_day ar sc a0).2)) H1 → va_S (aM L) H0 H1 locs1 → W p l e R s m args below meth c H1 locs1 cells slots Q (F0 m (pc + 3) ls (rest))) : W p l e R s m args below meth c H locs cells slots Q (F0 m pc ls (.int a0 :: .ref (L 0) :: rest)) :=
  va_callv (va_runV (As := [.int a0]) (rest := rest) hF (c_Mo_day l dC dI L cA ar sc a0 hL) (cwV 1 hF.2.2.2.2 (gV hlk m_299 m_300 m_187 m_301) rfl rfl rfl (by decide +kernel) hR) ⟨xb_M, va_recv hK.1 hP (ci := 7) (q0 := 0) rfl rfl, fun U hU hW => ⟨rfl, by rw [hU]; exact hP, kW_M_warm hW hK⟩⟩ rfl rfl hsz rfl (lv_room hrs) hdg hc) hS (fun q _ h9 => h9) (fun q h9 => h9) (fun u t H1 locs1 ht hvm hw hB hz1 hk1 hS1 => by
    have hk9 := kk H1 locs1 (by rw [← hw, ← ht]; exact hB) hS1
    exact hk9)
theorem d_Mo_visit_0 : decode b_Mo_visit 0 = .ok (.aload_n 0, 1) := by decide +kernel
theorem d_Mo_visit_1 : decode b_Mo_visit 1 = .ok (.aload_n 0, 1) := by decide +kernel
theorem d_Mo_visit_2 : decode b_Mo_visit 2 = .ok (.iload_n 1, 1) := by decide +kernel
theorem d_Mo_visit_3 : decode b_Mo_visit 3 = .ok (.invokevirtual 113, 3) := by decide +kernel
theorem d_Mo_visit_6 : decode b_Mo_visit 6 = .ok (.ifCond .ne 7, 3) := by decide +kernel
theorem d_Mo_visit_9 : decode b_Mo_visit 9 = .ok (.iconst 1, 1) := by decide +kernel
theorem d_Mo_visit_10 : decode b_Mo_visit 10 = .ok (.goto 4, 3) := by decide +kernel
theorem d_Mo_visit_13 : decode b_Mo_visit 13 = .ok (.iconst 0, 1) := by decide +kernel
theorem d_Mo_visit_14 : decode b_Mo_visit 14 = .ok (.iconst 0, 1) := by decide +kernel
theorem d_Mo_visit_15 : decode b_Mo_visit 15 = .ok (.iconst 0, 1) := by decide +kernel
theorem d_Mo_visit_16 : decode b_Mo_visit 16 = .ok (.invokevirtual 104, 3) := by decide +kernel
theorem d_Mo_visit_19 : decode b_Mo_visit 19 = .ok (.ifCond .eq 4, 3) := by decide +kernel
theorem d_Mo_visit_22 : decode b_Mo_visit 22 = .ok (.return_, 1) := by decide +kernel
theorem d_Mo_visit_23 : decode b_Mo_visit 23 = .ok (.aload_n 0, 1) := by decide +kernel
theorem d_Mo_visit_24 : decode b_Mo_visit 24 = .ok (.getfield 37, 3) := by decide +kernel
theorem d_Mo_visit_27 : decode b_Mo_visit 27 = .ok (.iload_n 1, 1) := by decide +kernel
theorem d_Mo_visit_28 : decode b_Mo_visit 28 = .ok (.aload_n 0, 1) := by decide +kernel
theorem d_Mo_visit_29 : decode b_Mo_visit 29 = .ok (.getfield 109, 3) := by decide +kernel
theorem d_Mo_visit_32 : decode b_Mo_visit 32 = .ok (.iastore, 1) := by decide +kernel
theorem d_Mo_visit_33 : decode b_Mo_visit 33 = .ok (.return_, 1) := by decide +kernel
set_option maxHeartbeats 4000000 in
set_option maxRecDepth 100000 in
theorem c_Mo_visit (l : Launch) (dC : Nat → ClassId) (dI : Nat → Nat → Nat) (L : Nat → Nat) (cA : Nat → ClassId) (ar : Nat → Nat → Int32) (sc : Nat → Int32) (a0 : Int32) (hL : ij 25 L) (h : p_Mo_visit ar sc a0) : Met l y_Mo_visit z_Mo_visit (rmD 5) (va_Pc [.ref (L 0), .int a0] (fun U => xw_M dC dI L cA ar sc U)) (va_Qv (fun u : oS => (u.1, u.2) = f_Mo_visit ar sc a0) (fun u t => va_P (dC, dI) classes (wM L cA u.1 u.2) t.heap) (aM L)) 0 0 (aM L) := by
  refine Met.ofW (cc := b_Mo_visit) (maxL := 2) (ret := none) (by decide) rfl ?_
  intro p e s m args below meth c s₁ B hml hv
  obtain ⟨rfl, ⟨hP, hK⟩⟩ := hv
  have hx := B.exec
  have hb := B.bytes
  have hr := B.returns
  have hts : ∀ w ∈ w_all, w.before _ s = true := fun w hw => atoms_spec (ws := z_Mo_visit) B.pre w (List.mem_cons_of_mem _ hw)
  have hown : s.vm.findClass R_Mo = some m.cls := findClass_of_methodNamed B.named
  have hlocks := B.notSynchronized
  have hF : CallFix p m c b_Mo_visit 2 s _ w_all R_Mo := ⟨hx, hb, hml, hown, hts⟩
  have hS : va_S (aM L) s.heap s.heap [] := va_S.rf
  have hl := lv_entry ([.ref (L 0), .int a0]) (n := 2) (Nat.le_of_ble_eq_true rfl)
  rw [lg_entry_eq]
  generalize (lg_sl ([.ref (L 0), .int a0]) ++ List.replicate (2 - (lg_sl ([.ref (L 0), .int a0])).length) Slot.unset).toArray = ls at hl ⊢
  have hl : lv_has ls 2 [(0, .ref (L 0)), (1, .int a0)] := hl
  unfold p_Mo_visit at h
  refine lv_aload_n hx hb d_Mo_visit_0 rfl (lv_at hl 0 rfl) ?_
  refine lv_aload_n hx hb d_Mo_visit_1 rfl (lv_at hl 0 rfl) ?_
  refine lv_iload_n hx hb d_Mo_visit_2 rfl (lv_at hl 1 rfl) ?_
  refine r_Mo_isPoint hF hK hP m_302 hl.1 ⟨Nat.le_of_ble_eq_true rfl, Nat.le_of_ble_eq_true rfl⟩ ⟨Nat.zero_le _, Nat.zero_le _⟩ (Nat.le_of_ble_eq_true rfl) d_Mo_visit_3 ?_
  refine lv_if_ne (tgt := 13) hx hb d_Mo_visit_6 (by decide) (fun c6 => ?_) (fun c6 => ?_)
  · have h := h.2 c6
    refine lv_iconst (v := 0) hx hb d_Mo_visit_13 (by decide) ?_
    refine lv_iconst (v := 0) hx hb d_Mo_visit_14 (by decide) ?_
    refine lv_iconst (v := 0) hx hb d_Mo_visit_15 (by decide) ?_
    refine r_Mo_throwing hF hK hP hL hS m_283 hl.1 ⟨Nat.le_of_ble_eq_true rfl, Nat.le_of_ble_eq_true rfl⟩ ⟨Nat.zero_le _, Nat.zero_le _⟩ (Nat.le_of_ble_eq_true rfl) d_Mo_visit_16 (fun H locs hP hS => ?_)
    refine lv_if_eq (tgt := 23) hx hb d_Mo_visit_19 (by decide) (fun c19 => ?_) (fun c19 => ?_)
    · have h := h.1 c19
      refine lv_aload_n hx hb d_Mo_visit_23 rfl (lv_at hl 0 rfl) ?_
      refine gf_Mo_visited hF hK hP m_224 d_Mo_visit_24 ?_
      refine lv_iload_n hx hb d_Mo_visit_27 rfl (lv_at hl 1 rfl) ?_
      refine lv_aload_n hx hb d_Mo_visit_28 rfl (lv_at hl 0 rfl) ?_
      refine gf_Mo_day hF hK hP m_200 d_Mo_visit_29 ?_
      have k32 := h
      refine asM_10 hF hK hP hL hS k32 d_Mo_visit_32 (fun H locs hP hS => ?_)
      have hv : ((s2 ((f_Mo_throwing ar sc 0 0 0).2.1) 10 a0.toNatClampNeg (((f_Mo_throwing ar sc 0 0 0).2.2) 1), (f_Mo_throwing ar sc 0 0 0).2.2) : (Nat → Nat → Int32) × (Nat → Int32)) = f_Mo_visit ar sc a0 := by rw [f_Mo_visit, if_neg c6, if_pos c19]
      exact W.vret hx hb hr (fun t ht hW => ⟨⟨(s2 ((f_Mo_throwing ar sc 0 0 0).2.1) 10 a0.toNatClampNeg (((f_Mo_throwing ar sc 0 0 0).2.2) 1), (f_Mo_throwing ar sc 0 0 0).2.2), rfl, hv, by dsimp only; rw [ht]; exact hP⟩, hS.F ht⟩) hS.2.2 d_Mo_visit_33
    · have h := h.2 c19
      have hv : (((f_Mo_throwing ar sc 0 0 0).2.1, (f_Mo_throwing ar sc 0 0 0).2.2) : (Nat → Nat → Int32) × (Nat → Int32)) = f_Mo_visit ar sc a0 := by rw [f_Mo_visit, if_neg c6, if_neg c19]
      exact W.vret hx hb hr (fun t ht hW => ⟨⟨((f_Mo_throwing ar sc 0 0 0).2.1, (f_Mo_throwing ar sc 0 0 0).2.2), rfl, hv, by dsimp only; rw [ht]; exact hP⟩, hS.F ht⟩) hS.2.2 d_Mo_visit_22
  · have h := h.1 c6
    refine lv_iconst (v := 1) hx hb d_Mo_visit_9 (by decide) ?_
    refine lv_goto (tgt := 14) hx hb d_Mo_visit_10 (by decide) ?_
    refine lv_iconst (v := 0) hx hb d_Mo_visit_14 (by decide) ?_
    refine lv_iconst (v := 0) hx hb d_Mo_visit_15 (by decide) ?_
    refine r_Mo_throwing hF hK hP hL hS m_283 hl.1 ⟨Nat.le_of_ble_eq_true rfl, Nat.le_of_ble_eq_true rfl⟩ ⟨Nat.zero_le _, Nat.zero_le _⟩ (Nat.le_of_ble_eq_true rfl) d_Mo_visit_16 (fun H locs hP hS => ?_)
    refine lv_if_eq (tgt := 23) hx hb d_Mo_visit_19 (by decide) (fun c19 => ?_) (fun c19 => ?_)
    · have h := h.1 c19
      refine lv_aload_n hx hb d_Mo_visit_23 rfl (lv_at hl 0 rfl) ?_
      refine gf_Mo_visited hF hK hP m_224 d_Mo_visit_24 ?_
      refine lv_iload_n hx hb d_Mo_visit_27 rfl (lv_at hl 1 rfl) ?_
      refine lv_aload_n hx hb d_Mo_visit_28 rfl (lv_at hl 0 rfl) ?_
      refine gf_Mo_day hF hK hP m_200 d_Mo_visit_29 ?_
      have k32 := h
      refine asM_10 hF hK hP hL hS k32 d_Mo_visit_32 (fun H locs hP hS => ?_)
      have hv : ((s2 ((f_Mo_throwing ar sc 1 0 0).2.1) 10 a0.toNatClampNeg (((f_Mo_throwing ar sc 1 0 0).2.2) 1), (f_Mo_throwing ar sc 1 0 0).2.2) : (Nat → Nat → Int32) × (Nat → Int32)) = f_Mo_visit ar sc a0 := by rw [f_Mo_visit, if_pos c6, if_pos c19]
      exact W.vret hx hb hr (fun t ht hW => ⟨⟨(s2 ((f_Mo_throwing ar sc 1 0 0).2.1) 10 a0.toNatClampNeg (((f_Mo_throwing ar sc 1 0 0).2.2) 1), (f_Mo_throwing ar sc 1 0 0).2.2), rfl, hv, by dsimp only; rw [ht]; exact hP⟩, hS.F ht⟩) hS.2.2 d_Mo_visit_33
    · have h := h.2 c19
      have hv : (((f_Mo_throwing ar sc 1 0 0).2.1, (f_Mo_throwing ar sc 1 0 0).2.2) : (Nat → Nat → Int32) × (Nat → Int32)) = f_Mo_visit ar sc a0 := by rw [f_Mo_visit, if_pos c6, if_neg c19]
      exact W.vret hx hb hr (fun t ht hW => ⟨⟨((f_Mo_throwing ar sc 1 0 0).2.1, (f_Mo_throwing ar sc 1 0 0).2.2), rfl, hv, by dsimp only; rw [ht]; exact hP⟩, hS.F ht⟩) hS.2.2 d_Mo_visit_22
set_option maxHeartbeats 1000000 in
theorem r_Mo_visit {p : Program} {l : Launch} {e : Env} {R : Room} {s : State} {m : MethodId} {args : Array Value} {below : List Frame} {meth : Method} {c : Code} {H : Heap} {locs : List Loc} {cells slots : Nat} {Q : State → Prop} {cc : ByteArray} {nL pc idx : Nat} {ls : Array Slot} {rest : List Value} {own : String} {dC : Nat → ClassId} {dI : Nat → Nat → Nat} {L : Nat → Nat} {cA : Nat → ClassId} {ar : Nat → Nat → Int32} {sc : Nat → Int32} {H0 : Heap} {a0 : Int32} (hF : CallFix p m c cc nL s args w_all own) (hK : kW_M dC dI cA s) (hP : va_P (dC, dI) classes (wM L cA ar sc) H) (hL : ij 25 L) (hS : va_S (aM L) H0 H locs) (h : p_Mo_visit ar sc a0) (hlk : Cond.methodLink own idx y_Mo_visit ∈ w_all) (hsz : ls.size = nL) (hR : (rmD 5).frames + 1 ≤ R.frames ∧ 8 + (2 + 11) + (rmD 5).locals ≤ R.locals) (hc : cells ≤ R.cells ∧ slots ≤ R.slots) (hrs : (rest.map fun v => v.category).sum ≤ 8) (hdg : decode cc pc = .ok (.invokevirtual idx, 3)) (kk : ∀ (H1 : Heap) (locs1 : List Loc), va_P (dC, dI) classes (wM L cA ((f_Mo_visit ar sc a0).1) ((f_Mo_visit ar sc a0).2)) H1 → va_S (aM L) H0 H1 locs1 → W p l e R s m args below meth c H1 locs1 cells slots Q (F0 m (pc + 3) ls (rest))) : W p l e R s m args below meth c H locs cells slots Q (F0 m pc ls (.int a0 :: .ref (L 0) :: rest)) :=
  va_callv (va_runV (As := [.int a0]) (rest := rest) hF (c_Mo_visit l dC dI L cA ar sc a0 hL h) (cwV 1 hF.2.2.2.2 (gV hlk m_303 m_304 m_187 m_305) rfl rfl rfl (by decide +kernel) hR) ⟨xb_M, va_recv hK.1 hP (ci := 7) (q0 := 0) rfl rfl, fun U hU hW => ⟨rfl, by rw [hU]; exact hP, kW_M_warm hW hK⟩⟩ rfl rfl hsz rfl (lv_room hrs) hdg hc) hS (fun q _ h9 => h9) (fun q h9 => h9) (fun u t H1 locs1 ht hvm hw hB hz1 hk1 hS1 => by
    have hk9 := kk H1 locs1 (by rw [← hw, ← ht]; exact hB) hS1
    exact hk9)
theorem d_Mo_finding_0 : decode b_Mo_finding 0 = .ok (.aload_n 0, 1) := by decide +kernel
theorem d_Mo_finding_1 : decode b_Mo_finding 1 = .ok (.aload_n 0, 1) := by decide +kernel
theorem d_Mo_finding_2 : decode b_Mo_finding 2 = .ok (.iload_n 1, 1) := by decide +kernel
theorem d_Mo_finding_3 : decode b_Mo_finding 3 = .ok (.invokevirtual 113, 3) := by decide +kernel
theorem d_Mo_finding_6 : decode b_Mo_finding 6 = .ok (.ifCond .ne 7, 3) := by decide +kernel
theorem d_Mo_finding_9 : decode b_Mo_finding 9 = .ok (.iconst 1, 1) := by decide +kernel
theorem d_Mo_finding_10 : decode b_Mo_finding 10 = .ok (.goto 4, 3) := by decide +kernel
theorem d_Mo_finding_13 : decode b_Mo_finding 13 = .ok (.iconst 0, 1) := by decide +kernel
theorem d_Mo_finding_14 : decode b_Mo_finding 14 = .ok (.iload_n 2, 1) := by decide +kernel
theorem d_Mo_finding_15 : decode b_Mo_finding 15 = .ok (.iconst 1, 1) := by decide +kernel
theorem d_Mo_finding_16 : decode b_Mo_finding 16 = .ok (.bipush 50, 2) := by decide +kernel
theorem d_Mo_finding_18 : decode b_Mo_finding 18 = .ok (.invokestatic 100, 3) := by decide +kernel
theorem d_Mo_finding_21 : decode b_Mo_finding 21 = .ok (.ifCond .eq 14, 3) := by decide +kernel
theorem d_Mo_finding_24 : decode b_Mo_finding 24 = .ok (.iload_n 3, 1) := by decide +kernel
theorem d_Mo_finding_25 : decode b_Mo_finding 25 = .ok (.iconst (-1), 1) := by decide +kernel
theorem d_Mo_finding_26 : decode b_Mo_finding 26 = .ok (.sipush 1000, 3) := by decide +kernel
theorem d_Mo_finding_29 : decode b_Mo_finding 29 = .ok (.invokestatic 100, 3) := by decide +kernel
theorem d_Mo_finding_32 : decode b_Mo_finding 32 = .ok (.ifCond .ne 7, 3) := by decide +kernel
theorem d_Mo_finding_35 : decode b_Mo_finding 35 = .ok (.iconst 1, 1) := by decide +kernel
theorem d_Mo_finding_36 : decode b_Mo_finding 36 = .ok (.goto 4, 3) := by decide +kernel
theorem d_Mo_finding_39 : decode b_Mo_finding 39 = .ok (.iconst 0, 1) := by decide +kernel
theorem d_Mo_finding_40 : decode b_Mo_finding 40 = .ok (.aload_n 0, 1) := by decide +kernel
theorem d_Mo_finding_41 : decode b_Mo_finding 41 = .ok (.getfield 117, 3) := by decide +kernel
theorem d_Mo_finding_44 : decode b_Mo_finding 44 = .ok (.bipush 100, 2) := by decide +kernel
theorem d_Mo_finding_46 : decode b_Mo_finding 46 = .ok (.if_icmp .ne 7, 3) := by decide +kernel
theorem d_Mo_finding_49 : decode b_Mo_finding 49 = .ok (.iconst 1, 1) := by decide +kernel
theorem d_Mo_finding_50 : decode b_Mo_finding 50 = .ok (.goto 4, 3) := by decide +kernel
theorem d_Mo_finding_53 : decode b_Mo_finding 53 = .ok (.iconst 0, 1) := by decide +kernel
theorem d_Mo_finding_54 : decode b_Mo_finding 54 = .ok (.invokevirtual 104, 3) := by decide +kernel
theorem d_Mo_finding_57 : decode b_Mo_finding 57 = .ok (.ifCond .eq 5, 3) := by decide +kernel
theorem d_Mo_finding_60 : decode b_Mo_finding 60 = .ok (.iconst 0, 1) := by decide +kernel
theorem d_Mo_finding_61 : decode b_Mo_finding 61 = .ok (.ireturn, 1) := by decide +kernel
theorem d_Mo_finding_62 : decode b_Mo_finding 62 = .ok (.aload_n 0, 1) := by decide +kernel
theorem d_Mo_finding_63 : decode b_Mo_finding 63 = .ok (.iload_n 1, 1) := by decide +kernel
theorem d_Mo_finding_64 : decode b_Mo_finding 64 = .ok (.iload_n 2, 1) := by decide +kernel
theorem d_Mo_finding_65 : decode b_Mo_finding 65 = .ok (.aload_n 0, 1) := by decide +kernel
theorem d_Mo_finding_66 : decode b_Mo_finding 66 = .ok (.getfield 109, 3) := by decide +kernel
theorem d_Mo_finding_69 : decode b_Mo_finding 69 = .ok (.iload_n 3, 1) := by decide +kernel
theorem d_Mo_finding_70 : decode b_Mo_finding 70 = .ok (.ifCond .ge 16, 3) := by decide +kernel
theorem d_Mo_finding_73 : decode b_Mo_finding 73 = .ok (.aload_n 0, 1) := by decide +kernel
theorem d_Mo_finding_74 : decode b_Mo_finding 74 = .ok (.getfield 19, 3) := by decide +kernel
theorem d_Mo_finding_77 : decode b_Mo_finding 77 = .ok (.aload_n 0, 1) := by decide +kernel
theorem d_Mo_finding_78 : decode b_Mo_finding 78 = .ok (.iload_n 1, 1) := by decide +kernel
theorem d_Mo_finding_79 : decode b_Mo_finding 79 = .ok (.invokevirtual 127, 3) := by decide +kernel
theorem d_Mo_finding_82 : decode b_Mo_finding 82 = .ok (.iaload, 1) := by decide +kernel
theorem d_Mo_finding_83 : decode b_Mo_finding 83 = .ok (.goto 4, 3) := by decide +kernel
theorem d_Mo_finding_86 : decode b_Mo_finding 86 = .ok (.iload_n 3, 1) := by decide +kernel
theorem d_Mo_finding_87 : decode b_Mo_finding 87 = .ok (.iadd, 1) := by decide +kernel
theorem d_Mo_finding_88 : decode b_Mo_finding 88 = .ok (.invokevirtual 130, 3) := by decide +kernel
theorem d_Mo_finding_91 : decode b_Mo_finding 91 = .ok (.aload_n 0, 1) := by decide +kernel
theorem d_Mo_finding_92 : decode b_Mo_finding 92 = .ok (.getfield 117, 3) := by decide +kernel
theorem d_Mo_finding_95 : decode b_Mo_finding 95 = .ok (.iconst 1, 1) := by decide +kernel
theorem d_Mo_finding_96 : decode b_Mo_finding 96 = .ok (.isub, 1) := by decide +kernel
theorem d_Mo_finding_97 : decode b_Mo_finding 97 = .ok (.ireturn, 1) := by decide +kernel
set_option maxHeartbeats 4000000 in
set_option maxRecDepth 100000 in
theorem c_Mo_finding (l : Launch) (dC : Nat → ClassId) (dI : Nat → Nat → Nat) (L : Nat → Nat) (cA : Nat → ClassId) (ar : Nat → Nat → Int32) (sc : Nat → Int32) (a0 : Int32) (a1 : Int32) (a2 : Int32) (hL : ij 25 L) (h : p_Mo_finding ar sc a0 a1 a2) : Met l y_Mo_finding z_Mo_finding (rmD 5) (va_Pc [.ref (L 0), .int a0, .int a1, .int a2] (fun U => xw_M dC dI L cA ar sc U)) (va_Qi (fun (r : Int32) (u : oS) => (r, u.1, u.2) = f_Mo_finding ar sc a0 a1 a2) (fun u t => va_P (dC, dI) classes (wM L cA u.1 u.2) t.heap) (aM L)) 0 0 (aM L) := by
  refine Met.ofW (cc := b_Mo_finding) (maxL := 4) (ret := (some .int)) (by decide) rfl ?_
  intro p e s m args below meth c s₁ B hml hv
  obtain ⟨rfl, ⟨hP, hK⟩⟩ := hv
  have hx := B.exec
  have hb := B.bytes
  have hr := B.returns
  have hts : ∀ w ∈ w_all, w.before _ s = true := fun w hw => atoms_spec (ws := z_Mo_finding) B.pre w (List.mem_cons_of_mem _ hw)
  have hown : s.vm.findClass R_Mo = some m.cls := findClass_of_methodNamed B.named
  have hlocks := B.notSynchronized
  have hF : CallFix p m c b_Mo_finding 4 s _ w_all R_Mo := ⟨hx, hb, hml, hown, hts⟩
  have hS : va_S (aM L) s.heap s.heap [] := va_S.rf
  have hl := lv_entry ([.ref (L 0), .int a0, .int a1, .int a2]) (n := 4) (Nat.le_of_ble_eq_true rfl)
  rw [lg_entry_eq]
  generalize (lg_sl ([.ref (L 0), .int a0, .int a1, .int a2]) ++ List.replicate (4 - (lg_sl ([.ref (L 0), .int a0, .int a1, .int a2])).length) Slot.unset).toArray = ls at hl ⊢
  have hl : lv_has ls 4 [(0, .ref (L 0)), (1, .int a0), (2, .int a1), (3, .int a2)] := hl
  unfold p_Mo_finding at h
  refine lv_aload_n hx hb d_Mo_finding_0 rfl (lv_at hl 0 rfl) ?_
  refine lv_aload_n hx hb d_Mo_finding_1 rfl (lv_at hl 0 rfl) ?_
  refine lv_iload_n hx hb d_Mo_finding_2 rfl (lv_at hl 1 rfl) ?_
  refine r_Mo_isPoint hF hK hP m_302 hl.1 ⟨Nat.le_of_ble_eq_true rfl, Nat.le_of_ble_eq_true rfl⟩ ⟨Nat.zero_le _, Nat.zero_le _⟩ (Nat.le_of_ble_eq_true rfl) d_Mo_finding_3 ?_
  refine lv_if_ne (tgt := 13) hx hb d_Mo_finding_6 (by decide) (fun c6 => ?_) (fun c6 => ?_)
  · have h := h.2 c6
    refine lv_iconst (v := 0) hx hb d_Mo_finding_13 (by decide) ?_
    refine lv_iload_n hx hb d_Mo_finding_14 rfl (lv_at hl 2 rfl) ?_
    refine lv_iconst (v := 1) hx hb d_Mo_finding_15 (by decide) ?_
    refine lv_bipush (v := 50) hx hb d_Mo_finding_16 (by decide) ?_
    refine r_Mo_in hF m_195 hl.1 ⟨Nat.le_of_ble_eq_true rfl, Nat.le_of_ble_eq_true rfl⟩ ⟨Nat.zero_le _, Nat.zero_le _⟩ (Nat.le_of_ble_eq_true rfl) d_Mo_finding_18 ?_
    refine lv_if_eq (tgt := 35) hx hb d_Mo_finding_21 (by decide) (fun c21 => ?_) (fun c21 => ?_)
    · have h := h.1 c21
      refine lv_iconst (v := 1) hx hb d_Mo_finding_35 (by decide) ?_
      refine lv_goto (tgt := 40) hx hb d_Mo_finding_36 (by decide) ?_
      refine lv_aload_n hx hb d_Mo_finding_40 rfl (lv_at hl 0 rfl) ?_
      refine gf_Mo_findings hF hK hP m_205 d_Mo_finding_41 ?_
      refine lv_bipush (v := 100) hx hb d_Mo_finding_44 (by decide) ?_
      refine lv_icmp_ne (tgt := 53) hx hb d_Mo_finding_46 (by decide) (fun c46 => ?_) (fun c46 => ?_)
      · have h := h.2 c46
        refine lv_iconst (v := 0) hx hb d_Mo_finding_53 (by decide) ?_
        refine r_Mo_throwing hF hK hP hL hS m_283 hl.1 ⟨Nat.le_of_ble_eq_true rfl, Nat.le_of_ble_eq_true rfl⟩ ⟨Nat.zero_le _, Nat.zero_le _⟩ (Nat.le_of_ble_eq_true rfl) d_Mo_finding_54 (fun H locs hP hS => ?_)
        refine lv_if_eq (tgt := 62) hx hb d_Mo_finding_57 (by decide) (fun c57 => ?_) (fun c57 => ?_)
        · have h := h.1 c57
          refine lv_aload_n hx hb d_Mo_finding_62 rfl (lv_at hl 0 rfl) ?_
          refine lv_iload_n hx hb d_Mo_finding_63 rfl (lv_at hl 1 rfl) ?_
          refine lv_iload_n hx hb d_Mo_finding_64 rfl (lv_at hl 2 rfl) ?_
          refine lv_aload_n hx hb d_Mo_finding_65 rfl (lv_at hl 0 rfl) ?_
          refine gf_Mo_day hF hK hP m_200 d_Mo_finding_66 ?_
          refine lv_iload_n hx hb d_Mo_finding_69 rfl (lv_at hl 3 rfl) ?_
          refine lv_if_ge (tgt := 86) hx hb d_Mo_finding_70 (by decide) (fun c70 => ?_) (fun c70 => ?_)
          · have h := h.1 c70
            refine lv_iload_n hx hb d_Mo_finding_86 rfl (lv_at hl 3 rfl) ?_
            refine lv_iadd hx hb d_Mo_finding_87 ?_
            have k88 := h
            refine r_Mo_add hF hK hP hL hS k88 m_236 hl.1 ⟨Nat.le_of_ble_eq_true rfl, Nat.le_of_ble_eq_true rfl⟩ ⟨Nat.zero_le _, Nat.zero_le _⟩ (Nat.le_of_ble_eq_true rfl) d_Mo_finding_88 (fun H locs hP hS => ?_)
            refine lv_aload_n hx hb d_Mo_finding_91 rfl (lv_at hl 0 rfl) ?_
            refine gf_Mo_findings hF hK hP m_205 d_Mo_finding_92 ?_
            refine lv_iconst (v := 1) hx hb d_Mo_finding_95 (by decide) ?_
            refine lv_isub hx hb d_Mo_finding_96 ?_
            have hv : (((((f_Mo_add ((f_Mo_throwing ar sc 0 1 0).2.1) ((f_Mo_throwing ar sc 0 1 0).2.2) a0 a1 ((((f_Mo_throwing ar sc 0 1 0).2.2) 1) + a2)).2) 3) - 1, (f_Mo_add ((f_Mo_throwing ar sc 0 1 0).2.1) ((f_Mo_throwing ar sc 0 1 0).2.2) a0 a1 ((((f_Mo_throwing ar sc 0 1 0).2.2) 1) + a2)).1, (f_Mo_add ((f_Mo_throwing ar sc 0 1 0).2.1) ((f_Mo_throwing ar sc 0 1 0).2.2) a0 a1 ((((f_Mo_throwing ar sc 0 1 0).2.2) 1) + a2)).2) : Int32 × (Nat → Nat → Int32) × (Nat → Int32)) = f_Mo_finding ar sc a0 a1 a2 := by rw [f_Mo_finding, if_neg c6, if_pos c21, if_neg c46, if_pos c57, if_pos c70]
            exact W.iret (v := (((f_Mo_add ((f_Mo_throwing ar sc 0 1 0).2.1) ((f_Mo_throwing ar sc 0 1 0).2.2) a0 a1 ((((f_Mo_throwing ar sc 0 1 0).2.2) 1) + a2)).2) 3) - 1) hx hb hr (fun t ht hW => ⟨⟨(((f_Mo_add ((f_Mo_throwing ar sc 0 1 0).2.1) ((f_Mo_throwing ar sc 0 1 0).2.2) a0 a1 ((((f_Mo_throwing ar sc 0 1 0).2.2) 1) + a2)).2) 3) - 1, ((f_Mo_add ((f_Mo_throwing ar sc 0 1 0).2.1) ((f_Mo_throwing ar sc 0 1 0).2.2) a0 a1 ((((f_Mo_throwing ar sc 0 1 0).2.2) 1) + a2)).1, (f_Mo_add ((f_Mo_throwing ar sc 0 1 0).2.1) ((f_Mo_throwing ar sc 0 1 0).2.2) a0 a1 ((((f_Mo_throwing ar sc 0 1 0).2.2) 1) + a2)).2), rfl, hv, by dsimp only; rw [ht]; exact hP⟩, hS.F ht⟩) hS.2.2 d_Mo_finding_97
          · have h := h.2 c70
            refine lv_aload_n hx hb d_Mo_finding_73 rfl (lv_at hl 0 rfl) ?_
            refine gf_Mo_time hF hK hP m_291 d_Mo_finding_74 ?_
            refine lv_aload_n hx hb d_Mo_finding_77 rfl (lv_at hl 0 rfl) ?_
            refine lv_iload_n hx hb d_Mo_finding_78 rfl (lv_at hl 1 rfl) ?_
            have k79 := h.1
            have h := h.2
            refine r_Mo_classOf hF hK hP k79 m_226 hl.1 ⟨Nat.le_of_ble_eq_true rfl, Nat.le_of_ble_eq_true rfl⟩ ⟨Nat.zero_le _, Nat.zero_le _⟩ (Nat.le_of_ble_eq_true rfl) d_Mo_finding_79 ?_
            have k82 := h.1
            have h := h.2
            refine alM_4 hF hK hP k82 d_Mo_finding_82 ?_
            refine lv_goto (tgt := 87) hx hb d_Mo_finding_83 (by decide) ?_
            refine lv_iadd hx hb d_Mo_finding_87 ?_
            have k88 := h
            refine r_Mo_add hF hK hP hL hS k88 m_236 hl.1 ⟨Nat.le_of_ble_eq_true rfl, Nat.le_of_ble_eq_true rfl⟩ ⟨Nat.zero_le _, Nat.zero_le _⟩ (Nat.le_of_ble_eq_true rfl) d_Mo_finding_88 (fun H locs hP hS => ?_)
            refine lv_aload_n hx hb d_Mo_finding_91 rfl (lv_at hl 0 rfl) ?_
            refine gf_Mo_findings hF hK hP m_205 d_Mo_finding_92 ?_
            refine lv_iconst (v := 1) hx hb d_Mo_finding_95 (by decide) ?_
            refine lv_isub hx hb d_Mo_finding_96 ?_
            have hv : (((((f_Mo_add ((f_Mo_throwing ar sc 0 1 0).2.1) ((f_Mo_throwing ar sc 0 1 0).2.2) a0 a1 ((((f_Mo_throwing ar sc 0 1 0).2.2) 1) + (((f_Mo_throwing ar sc 0 1 0).2.1) 4 ((f_Mo_classOf ((f_Mo_throwing ar sc 0 1 0).2.1) ((f_Mo_throwing ar sc 0 1 0).2.2) a0).toNatClampNeg)))).2) 3) - 1, (f_Mo_add ((f_Mo_throwing ar sc 0 1 0).2.1) ((f_Mo_throwing ar sc 0 1 0).2.2) a0 a1 ((((f_Mo_throwing ar sc 0 1 0).2.2) 1) + (((f_Mo_throwing ar sc 0 1 0).2.1) 4 ((f_Mo_classOf ((f_Mo_throwing ar sc 0 1 0).2.1) ((f_Mo_throwing ar sc 0 1 0).2.2) a0).toNatClampNeg)))).1, (f_Mo_add ((f_Mo_throwing ar sc 0 1 0).2.1) ((f_Mo_throwing ar sc 0 1 0).2.2) a0 a1 ((((f_Mo_throwing ar sc 0 1 0).2.2) 1) + (((f_Mo_throwing ar sc 0 1 0).2.1) 4 ((f_Mo_classOf ((f_Mo_throwing ar sc 0 1 0).2.1) ((f_Mo_throwing ar sc 0 1 0).2.2) a0).toNatClampNeg)))).2) : Int32 × (Nat → Nat → Int32) × (Nat → Int32)) = f_Mo_finding ar sc a0 a1 a2 := by rw [f_Mo_finding, if_neg c6, if_pos c21, if_neg c46, if_pos c57, if_neg c70]
            exact W.iret (v := (((f_Mo_add ((f_Mo_throwing ar sc 0 1 0).2.1) ((f_Mo_throwing ar sc 0 1 0).2.2) a0 a1 ((((f_Mo_throwing ar sc 0 1 0).2.2) 1) + (((f_Mo_throwing ar sc 0 1 0).2.1) 4 ((f_Mo_classOf ((f_Mo_throwing ar sc 0 1 0).2.1) ((f_Mo_throwing ar sc 0 1 0).2.2) a0).toNatClampNeg)))).2) 3) - 1) hx hb hr (fun t ht hW => ⟨⟨(((f_Mo_add ((f_Mo_throwing ar sc 0 1 0).2.1) ((f_Mo_throwing ar sc 0 1 0).2.2) a0 a1 ((((f_Mo_throwing ar sc 0 1 0).2.2) 1) + (((f_Mo_throwing ar sc 0 1 0).2.1) 4 ((f_Mo_classOf ((f_Mo_throwing ar sc 0 1 0).2.1) ((f_Mo_throwing ar sc 0 1 0).2.2) a0).toNatClampNeg)))).2) 3) - 1, ((f_Mo_add ((f_Mo_throwing ar sc 0 1 0).2.1) ((f_Mo_throwing ar sc 0 1 0).2.2) a0 a1 ((((f_Mo_throwing ar sc 0 1 0).2.2) 1) + (((f_Mo_throwing ar sc 0 1 0).2.1) 4 ((f_Mo_classOf ((f_Mo_throwing ar sc 0 1 0).2.1) ((f_Mo_throwing ar sc 0 1 0).2.2) a0).toNatClampNeg)))).1, (f_Mo_add ((f_Mo_throwing ar sc 0 1 0).2.1) ((f_Mo_throwing ar sc 0 1 0).2.2) a0 a1 ((((f_Mo_throwing ar sc 0 1 0).2.2) 1) + (((f_Mo_throwing ar sc 0 1 0).2.1) 4 ((f_Mo_classOf ((f_Mo_throwing ar sc 0 1 0).2.1) ((f_Mo_throwing ar sc 0 1 0).2.2) a0).toNatClampNeg)))).2), rfl, hv, by dsimp only; rw [ht]; exact hP⟩, hS.F ht⟩) hS.2.2 d_Mo_finding_97
        · have h := h.2 c57
          refine lv_iconst (v := 0) hx hb d_Mo_finding_60 (by decide) ?_
          have hv : ((0, (f_Mo_throwing ar sc 0 1 0).2.1, (f_Mo_throwing ar sc 0 1 0).2.2) : Int32 × (Nat → Nat → Int32) × (Nat → Int32)) = f_Mo_finding ar sc a0 a1 a2 := by rw [f_Mo_finding, if_neg c6, if_pos c21, if_neg c46, if_neg c57]
          exact W.iret (v := 0) hx hb hr (fun t ht hW => ⟨⟨0, ((f_Mo_throwing ar sc 0 1 0).2.1, (f_Mo_throwing ar sc 0 1 0).2.2), rfl, hv, by dsimp only; rw [ht]; exact hP⟩, hS.F ht⟩) hS.2.2 d_Mo_finding_61
      · have h := h.1 c46
        refine lv_iconst (v := 1) hx hb d_Mo_finding_49 (by decide) ?_
        refine lv_goto (tgt := 54) hx hb d_Mo_finding_50 (by decide) ?_
        refine r_Mo_throwing hF hK hP hL hS m_283 hl.1 ⟨Nat.le_of_ble_eq_true rfl, Nat.le_of_ble_eq_true rfl⟩ ⟨Nat.zero_le _, Nat.zero_le _⟩ (Nat.le_of_ble_eq_true rfl) d_Mo_finding_54 (fun H locs hP hS => ?_)
        refine lv_if_eq (tgt := 62) hx hb d_Mo_finding_57 (by decide) (fun c57 => ?_) (fun c57 => ?_)
        · have h := h.1 c57
          refine lv_aload_n hx hb d_Mo_finding_62 rfl (lv_at hl 0 rfl) ?_
          refine lv_iload_n hx hb d_Mo_finding_63 rfl (lv_at hl 1 rfl) ?_
          refine lv_iload_n hx hb d_Mo_finding_64 rfl (lv_at hl 2 rfl) ?_
          refine lv_aload_n hx hb d_Mo_finding_65 rfl (lv_at hl 0 rfl) ?_
          refine gf_Mo_day hF hK hP m_200 d_Mo_finding_66 ?_
          refine lv_iload_n hx hb d_Mo_finding_69 rfl (lv_at hl 3 rfl) ?_
          refine lv_if_ge (tgt := 86) hx hb d_Mo_finding_70 (by decide) (fun c70 => ?_) (fun c70 => ?_)
          · have h := h.1 c70
            refine lv_iload_n hx hb d_Mo_finding_86 rfl (lv_at hl 3 rfl) ?_
            refine lv_iadd hx hb d_Mo_finding_87 ?_
            have k88 := h
            refine r_Mo_add hF hK hP hL hS k88 m_236 hl.1 ⟨Nat.le_of_ble_eq_true rfl, Nat.le_of_ble_eq_true rfl⟩ ⟨Nat.zero_le _, Nat.zero_le _⟩ (Nat.le_of_ble_eq_true rfl) d_Mo_finding_88 (fun H locs hP hS => ?_)
            refine lv_aload_n hx hb d_Mo_finding_91 rfl (lv_at hl 0 rfl) ?_
            refine gf_Mo_findings hF hK hP m_205 d_Mo_finding_92 ?_
            refine lv_iconst (v := 1) hx hb d_Mo_finding_95 (by decide) ?_
            refine lv_isub hx hb d_Mo_finding_96 ?_
            have hv : (((((f_Mo_add ((f_Mo_throwing ar sc 0 1 1).2.1) ((f_Mo_throwing ar sc 0 1 1).2.2) a0 a1 ((((f_Mo_throwing ar sc 0 1 1).2.2) 1) + a2)).2) 3) - 1, (f_Mo_add ((f_Mo_throwing ar sc 0 1 1).2.1) ((f_Mo_throwing ar sc 0 1 1).2.2) a0 a1 ((((f_Mo_throwing ar sc 0 1 1).2.2) 1) + a2)).1, (f_Mo_add ((f_Mo_throwing ar sc 0 1 1).2.1) ((f_Mo_throwing ar sc 0 1 1).2.2) a0 a1 ((((f_Mo_throwing ar sc 0 1 1).2.2) 1) + a2)).2) : Int32 × (Nat → Nat → Int32) × (Nat → Int32)) = f_Mo_finding ar sc a0 a1 a2 := by rw [f_Mo_finding, if_neg c6, if_pos c21, if_pos c46, if_pos c57, if_pos c70]
            exact W.iret (v := (((f_Mo_add ((f_Mo_throwing ar sc 0 1 1).2.1) ((f_Mo_throwing ar sc 0 1 1).2.2) a0 a1 ((((f_Mo_throwing ar sc 0 1 1).2.2) 1) + a2)).2) 3) - 1) hx hb hr (fun t ht hW => ⟨⟨(((f_Mo_add ((f_Mo_throwing ar sc 0 1 1).2.1) ((f_Mo_throwing ar sc 0 1 1).2.2) a0 a1 ((((f_Mo_throwing ar sc 0 1 1).2.2) 1) + a2)).2) 3) - 1, ((f_Mo_add ((f_Mo_throwing ar sc 0 1 1).2.1) ((f_Mo_throwing ar sc 0 1 1).2.2) a0 a1 ((((f_Mo_throwing ar sc 0 1 1).2.2) 1) + a2)).1, (f_Mo_add ((f_Mo_throwing ar sc 0 1 1).2.1) ((f_Mo_throwing ar sc 0 1 1).2.2) a0 a1 ((((f_Mo_throwing ar sc 0 1 1).2.2) 1) + a2)).2), rfl, hv, by dsimp only; rw [ht]; exact hP⟩, hS.F ht⟩) hS.2.2 d_Mo_finding_97
          · have h := h.2 c70
            refine lv_aload_n hx hb d_Mo_finding_73 rfl (lv_at hl 0 rfl) ?_
            refine gf_Mo_time hF hK hP m_291 d_Mo_finding_74 ?_
            refine lv_aload_n hx hb d_Mo_finding_77 rfl (lv_at hl 0 rfl) ?_
            refine lv_iload_n hx hb d_Mo_finding_78 rfl (lv_at hl 1 rfl) ?_
            have k79 := h.1
            have h := h.2
            refine r_Mo_classOf hF hK hP k79 m_226 hl.1 ⟨Nat.le_of_ble_eq_true rfl, Nat.le_of_ble_eq_true rfl⟩ ⟨Nat.zero_le _, Nat.zero_le _⟩ (Nat.le_of_ble_eq_true rfl) d_Mo_finding_79 ?_
            have k82 := h.1
            have h := h.2
            refine alM_4 hF hK hP k82 d_Mo_finding_82 ?_
            refine lv_goto (tgt := 87) hx hb d_Mo_finding_83 (by decide) ?_
            refine lv_iadd hx hb d_Mo_finding_87 ?_
            have k88 := h
            refine r_Mo_add hF hK hP hL hS k88 m_236 hl.1 ⟨Nat.le_of_ble_eq_true rfl, Nat.le_of_ble_eq_true rfl⟩ ⟨Nat.zero_le _, Nat.zero_le _⟩ (Nat.le_of_ble_eq_true rfl) d_Mo_finding_88 (fun H locs hP hS => ?_)
            refine lv_aload_n hx hb d_Mo_finding_91 rfl (lv_at hl 0 rfl) ?_
            refine gf_Mo_findings hF hK hP m_205 d_Mo_finding_92 ?_
            refine lv_iconst (v := 1) hx hb d_Mo_finding_95 (by decide) ?_
            refine lv_isub hx hb d_Mo_finding_96 ?_
            have hv : (((((f_Mo_add ((f_Mo_throwing ar sc 0 1 1).2.1) ((f_Mo_throwing ar sc 0 1 1).2.2) a0 a1 ((((f_Mo_throwing ar sc 0 1 1).2.2) 1) + (((f_Mo_throwing ar sc 0 1 1).2.1) 4 ((f_Mo_classOf ((f_Mo_throwing ar sc 0 1 1).2.1) ((f_Mo_throwing ar sc 0 1 1).2.2) a0).toNatClampNeg)))).2) 3) - 1, (f_Mo_add ((f_Mo_throwing ar sc 0 1 1).2.1) ((f_Mo_throwing ar sc 0 1 1).2.2) a0 a1 ((((f_Mo_throwing ar sc 0 1 1).2.2) 1) + (((f_Mo_throwing ar sc 0 1 1).2.1) 4 ((f_Mo_classOf ((f_Mo_throwing ar sc 0 1 1).2.1) ((f_Mo_throwing ar sc 0 1 1).2.2) a0).toNatClampNeg)))).1, (f_Mo_add ((f_Mo_throwing ar sc 0 1 1).2.1) ((f_Mo_throwing ar sc 0 1 1).2.2) a0 a1 ((((f_Mo_throwing ar sc 0 1 1).2.2) 1) + (((f_Mo_throwing ar sc 0 1 1).2.1) 4 ((f_Mo_classOf ((f_Mo_throwing ar sc 0 1 1).2.1) ((f_Mo_throwing ar sc 0 1 1).2.2) a0).toNatClampNeg)))).2) : Int32 × (Nat → Nat → Int32) × (Nat → Int32)) = f_Mo_finding ar sc a0 a1 a2 := by rw [f_Mo_finding, if_neg c6, if_pos c21, if_pos c46, if_pos c57, if_neg c70]
            exact W.iret (v := (((f_Mo_add ((f_Mo_throwing ar sc 0 1 1).2.1) ((f_Mo_throwing ar sc 0 1 1).2.2) a0 a1 ((((f_Mo_throwing ar sc 0 1 1).2.2) 1) + (((f_Mo_throwing ar sc 0 1 1).2.1) 4 ((f_Mo_classOf ((f_Mo_throwing ar sc 0 1 1).2.1) ((f_Mo_throwing ar sc 0 1 1).2.2) a0).toNatClampNeg)))).2) 3) - 1) hx hb hr (fun t ht hW => ⟨⟨(((f_Mo_add ((f_Mo_throwing ar sc 0 1 1).2.1) ((f_Mo_throwing ar sc 0 1 1).2.2) a0 a1 ((((f_Mo_throwing ar sc 0 1 1).2.2) 1) + (((f_Mo_throwing ar sc 0 1 1).2.1) 4 ((f_Mo_classOf ((f_Mo_throwing ar sc 0 1 1).2.1) ((f_Mo_throwing ar sc 0 1 1).2.2) a0).toNatClampNeg)))).2) 3) - 1, ((f_Mo_add ((f_Mo_throwing ar sc 0 1 1).2.1) ((f_Mo_throwing ar sc 0 1 1).2.2) a0 a1 ((((f_Mo_throwing ar sc 0 1 1).2.2) 1) + (((f_Mo_throwing ar sc 0 1 1).2.1) 4 ((f_Mo_classOf ((f_Mo_throwing ar sc 0 1 1).2.1) ((f_Mo_throwing ar sc 0 1 1).2.2) a0).toNatClampNeg)))).1, (f_Mo_add ((f_Mo_throwing ar sc 0 1 1).2.1) ((f_Mo_throwing ar sc 0 1 1).2.2) a0 a1 ((((f_Mo_throwing ar sc 0 1 1).2.2) 1) + (((f_Mo_throwing ar sc 0 1 1).2.1) 4 ((f_Mo_classOf ((f_Mo_throwing ar sc 0 1 1).2.1) ((f_Mo_throwing ar sc 0 1 1).2.2) a0).toNatClampNeg)))).2), rfl, hv, by dsimp only; rw [ht]; exact hP⟩, hS.F ht⟩) hS.2.2 d_Mo_finding_97
        · have h := h.2 c57
          refine lv_iconst (v := 0) hx hb d_Mo_finding_60 (by decide) ?_
          have hv : ((0, (f_Mo_throwing ar sc 0 1 1).2.1, (f_Mo_throwing ar sc 0 1 1).2.2) : Int32 × (Nat → Nat → Int32) × (Nat → Int32)) = f_Mo_finding ar sc a0 a1 a2 := by rw [f_Mo_finding, if_neg c6, if_pos c21, if_pos c46, if_neg c57]
          exact W.iret (v := 0) hx hb hr (fun t ht hW => ⟨⟨0, ((f_Mo_throwing ar sc 0 1 1).2.1, (f_Mo_throwing ar sc 0 1 1).2.2), rfl, hv, by dsimp only; rw [ht]; exact hP⟩, hS.F ht⟩) hS.2.2 d_Mo_finding_61
    · have h := h.2 c21
      refine lv_iload_n hx hb d_Mo_finding_24 rfl (lv_at hl 3 rfl) ?_
      refine lv_iconst (v := (-1)) hx hb d_Mo_finding_25 (by decide) ?_
      refine lv_sipush (v := 1000) hx hb d_Mo_finding_26 (by decide) ?_
      refine r_Mo_in hF m_195 hl.1 ⟨Nat.le_of_ble_eq_true rfl, Nat.le_of_ble_eq_true rfl⟩ ⟨Nat.zero_le _, Nat.zero_le _⟩ (Nat.le_of_ble_eq_true rfl) d_Mo_finding_29 ?_
      refine lv_if_ne (tgt := 39) hx hb d_Mo_finding_32 (by decide) (fun c32 => ?_) (fun c32 => ?_)
      · have h := h.2 c32
        refine lv_iconst (v := 0) hx hb d_Mo_finding_39 (by decide) ?_
        refine lv_aload_n hx hb d_Mo_finding_40 rfl (lv_at hl 0 rfl) ?_
        refine gf_Mo_findings hF hK hP m_205 d_Mo_finding_41 ?_
        refine lv_bipush (v := 100) hx hb d_Mo_finding_44 (by decide) ?_
        refine lv_icmp_ne (tgt := 53) hx hb d_Mo_finding_46 (by decide) (fun c46 => ?_) (fun c46 => ?_)
        · have h := h.2 c46
          refine lv_iconst (v := 0) hx hb d_Mo_finding_53 (by decide) ?_
          refine r_Mo_throwing hF hK hP hL hS m_283 hl.1 ⟨Nat.le_of_ble_eq_true rfl, Nat.le_of_ble_eq_true rfl⟩ ⟨Nat.zero_le _, Nat.zero_le _⟩ (Nat.le_of_ble_eq_true rfl) d_Mo_finding_54 (fun H locs hP hS => ?_)
          refine lv_if_eq (tgt := 62) hx hb d_Mo_finding_57 (by decide) (fun c57 => ?_) (fun c57 => ?_)
          · have h := h.1 c57
            refine lv_aload_n hx hb d_Mo_finding_62 rfl (lv_at hl 0 rfl) ?_
            refine lv_iload_n hx hb d_Mo_finding_63 rfl (lv_at hl 1 rfl) ?_
            refine lv_iload_n hx hb d_Mo_finding_64 rfl (lv_at hl 2 rfl) ?_
            refine lv_aload_n hx hb d_Mo_finding_65 rfl (lv_at hl 0 rfl) ?_
            refine gf_Mo_day hF hK hP m_200 d_Mo_finding_66 ?_
            refine lv_iload_n hx hb d_Mo_finding_69 rfl (lv_at hl 3 rfl) ?_
            refine lv_if_ge (tgt := 86) hx hb d_Mo_finding_70 (by decide) (fun c70 => ?_) (fun c70 => ?_)
            · have h := h.1 c70
              refine lv_iload_n hx hb d_Mo_finding_86 rfl (lv_at hl 3 rfl) ?_
              refine lv_iadd hx hb d_Mo_finding_87 ?_
              have k88 := h
              refine r_Mo_add hF hK hP hL hS k88 m_236 hl.1 ⟨Nat.le_of_ble_eq_true rfl, Nat.le_of_ble_eq_true rfl⟩ ⟨Nat.zero_le _, Nat.zero_le _⟩ (Nat.le_of_ble_eq_true rfl) d_Mo_finding_88 (fun H locs hP hS => ?_)
              refine lv_aload_n hx hb d_Mo_finding_91 rfl (lv_at hl 0 rfl) ?_
              refine gf_Mo_findings hF hK hP m_205 d_Mo_finding_92 ?_
              refine lv_iconst (v := 1) hx hb d_Mo_finding_95 (by decide) ?_
              refine lv_isub hx hb d_Mo_finding_96 ?_
              have hv : (((((f_Mo_add ((f_Mo_throwing ar sc 0 0 0).2.1) ((f_Mo_throwing ar sc 0 0 0).2.2) a0 a1 ((((f_Mo_throwing ar sc 0 0 0).2.2) 1) + a2)).2) 3) - 1, (f_Mo_add ((f_Mo_throwing ar sc 0 0 0).2.1) ((f_Mo_throwing ar sc 0 0 0).2.2) a0 a1 ((((f_Mo_throwing ar sc 0 0 0).2.2) 1) + a2)).1, (f_Mo_add ((f_Mo_throwing ar sc 0 0 0).2.1) ((f_Mo_throwing ar sc 0 0 0).2.2) a0 a1 ((((f_Mo_throwing ar sc 0 0 0).2.2) 1) + a2)).2) : Int32 × (Nat → Nat → Int32) × (Nat → Int32)) = f_Mo_finding ar sc a0 a1 a2 := by rw [f_Mo_finding, if_neg c6, if_neg c21, if_neg c32, if_neg c46, if_pos c57, if_pos c70]
              exact W.iret (v := (((f_Mo_add ((f_Mo_throwing ar sc 0 0 0).2.1) ((f_Mo_throwing ar sc 0 0 0).2.2) a0 a1 ((((f_Mo_throwing ar sc 0 0 0).2.2) 1) + a2)).2) 3) - 1) hx hb hr (fun t ht hW => ⟨⟨(((f_Mo_add ((f_Mo_throwing ar sc 0 0 0).2.1) ((f_Mo_throwing ar sc 0 0 0).2.2) a0 a1 ((((f_Mo_throwing ar sc 0 0 0).2.2) 1) + a2)).2) 3) - 1, ((f_Mo_add ((f_Mo_throwing ar sc 0 0 0).2.1) ((f_Mo_throwing ar sc 0 0 0).2.2) a0 a1 ((((f_Mo_throwing ar sc 0 0 0).2.2) 1) + a2)).1, (f_Mo_add ((f_Mo_throwing ar sc 0 0 0).2.1) ((f_Mo_throwing ar sc 0 0 0).2.2) a0 a1 ((((f_Mo_throwing ar sc 0 0 0).2.2) 1) + a2)).2), rfl, hv, by dsimp only; rw [ht]; exact hP⟩, hS.F ht⟩) hS.2.2 d_Mo_finding_97
            · have h := h.2 c70
              refine lv_aload_n hx hb d_Mo_finding_73 rfl (lv_at hl 0 rfl) ?_
              refine gf_Mo_time hF hK hP m_291 d_Mo_finding_74 ?_
              refine lv_aload_n hx hb d_Mo_finding_77 rfl (lv_at hl 0 rfl) ?_
              refine lv_iload_n hx hb d_Mo_finding_78 rfl (lv_at hl 1 rfl) ?_
              have k79 := h.1
              have h := h.2
              refine r_Mo_classOf hF hK hP k79 m_226 hl.1 ⟨Nat.le_of_ble_eq_true rfl, Nat.le_of_ble_eq_true rfl⟩ ⟨Nat.zero_le _, Nat.zero_le _⟩ (Nat.le_of_ble_eq_true rfl) d_Mo_finding_79 ?_
              have k82 := h.1
              have h := h.2
              refine alM_4 hF hK hP k82 d_Mo_finding_82 ?_
              refine lv_goto (tgt := 87) hx hb d_Mo_finding_83 (by decide) ?_
              refine lv_iadd hx hb d_Mo_finding_87 ?_
              have k88 := h
              refine r_Mo_add hF hK hP hL hS k88 m_236 hl.1 ⟨Nat.le_of_ble_eq_true rfl, Nat.le_of_ble_eq_true rfl⟩ ⟨Nat.zero_le _, Nat.zero_le _⟩ (Nat.le_of_ble_eq_true rfl) d_Mo_finding_88 (fun H locs hP hS => ?_)
              refine lv_aload_n hx hb d_Mo_finding_91 rfl (lv_at hl 0 rfl) ?_
              refine gf_Mo_findings hF hK hP m_205 d_Mo_finding_92 ?_
              refine lv_iconst (v := 1) hx hb d_Mo_finding_95 (by decide) ?_
              refine lv_isub hx hb d_Mo_finding_96 ?_
              have hv : (((((f_Mo_add ((f_Mo_throwing ar sc 0 0 0).2.1) ((f_Mo_throwing ar sc 0 0 0).2.2) a0 a1 ((((f_Mo_throwing ar sc 0 0 0).2.2) 1) + (((f_Mo_throwing ar sc 0 0 0).2.1) 4 ((f_Mo_classOf ((f_Mo_throwing ar sc 0 0 0).2.1) ((f_Mo_throwing ar sc 0 0 0).2.2) a0).toNatClampNeg)))).2) 3) - 1, (f_Mo_add ((f_Mo_throwing ar sc 0 0 0).2.1) ((f_Mo_throwing ar sc 0 0 0).2.2) a0 a1 ((((f_Mo_throwing ar sc 0 0 0).2.2) 1) + (((f_Mo_throwing ar sc 0 0 0).2.1) 4 ((f_Mo_classOf ((f_Mo_throwing ar sc 0 0 0).2.1) ((f_Mo_throwing ar sc 0 0 0).2.2) a0).toNatClampNeg)))).1, (f_Mo_add ((f_Mo_throwing ar sc 0 0 0).2.1) ((f_Mo_throwing ar sc 0 0 0).2.2) a0 a1 ((((f_Mo_throwing ar sc 0 0 0).2.2) 1) + (((f_Mo_throwing ar sc 0 0 0).2.1) 4 ((f_Mo_classOf ((f_Mo_throwing ar sc 0 0 0).2.1) ((f_Mo_throwing ar sc 0 0 0).2.2) a0).toNatClampNeg)))).2) : Int32 × (Nat → Nat → Int32) × (Nat → Int32)) = f_Mo_finding ar sc a0 a1 a2 := by rw [f_Mo_finding, if_neg c6, if_neg c21, if_neg c32, if_neg c46, if_pos c57, if_neg c70]
              exact W.iret (v := (((f_Mo_add ((f_Mo_throwing ar sc 0 0 0).2.1) ((f_Mo_throwing ar sc 0 0 0).2.2) a0 a1 ((((f_Mo_throwing ar sc 0 0 0).2.2) 1) + (((f_Mo_throwing ar sc 0 0 0).2.1) 4 ((f_Mo_classOf ((f_Mo_throwing ar sc 0 0 0).2.1) ((f_Mo_throwing ar sc 0 0 0).2.2) a0).toNatClampNeg)))).2) 3) - 1) hx hb hr (fun t ht hW => ⟨⟨(((f_Mo_add ((f_Mo_throwing ar sc 0 0 0).2.1) ((f_Mo_throwing ar sc 0 0 0).2.2) a0 a1 ((((f_Mo_throwing ar sc 0 0 0).2.2) 1) + (((f_Mo_throwing ar sc 0 0 0).2.1) 4 ((f_Mo_classOf ((f_Mo_throwing ar sc 0 0 0).2.1) ((f_Mo_throwing ar sc 0 0 0).2.2) a0).toNatClampNeg)))).2) 3) - 1, ((f_Mo_add ((f_Mo_throwing ar sc 0 0 0).2.1) ((f_Mo_throwing ar sc 0 0 0).2.2) a0 a1 ((((f_Mo_throwing ar sc 0 0 0).2.2) 1) + (((f_Mo_throwing ar sc 0 0 0).2.1) 4 ((f_Mo_classOf ((f_Mo_throwing ar sc 0 0 0).2.1) ((f_Mo_throwing ar sc 0 0 0).2.2) a0).toNatClampNeg)))).1, (f_Mo_add ((f_Mo_throwing ar sc 0 0 0).2.1) ((f_Mo_throwing ar sc 0 0 0).2.2) a0 a1 ((((f_Mo_throwing ar sc 0 0 0).2.2) 1) + (((f_Mo_throwing ar sc 0 0 0).2.1) 4 ((f_Mo_classOf ((f_Mo_throwing ar sc 0 0 0).2.1) ((f_Mo_throwing ar sc 0 0 0).2.2) a0).toNatClampNeg)))).2), rfl, hv, by dsimp only; rw [ht]; exact hP⟩, hS.F ht⟩) hS.2.2 d_Mo_finding_97
          · have h := h.2 c57
            refine lv_iconst (v := 0) hx hb d_Mo_finding_60 (by decide) ?_
            have hv : ((0, (f_Mo_throwing ar sc 0 0 0).2.1, (f_Mo_throwing ar sc 0 0 0).2.2) : Int32 × (Nat → Nat → Int32) × (Nat → Int32)) = f_Mo_finding ar sc a0 a1 a2 := by rw [f_Mo_finding, if_neg c6, if_neg c21, if_neg c32, if_neg c46, if_neg c57]
            exact W.iret (v := 0) hx hb hr (fun t ht hW => ⟨⟨0, ((f_Mo_throwing ar sc 0 0 0).2.1, (f_Mo_throwing ar sc 0 0 0).2.2), rfl, hv, by dsimp only; rw [ht]; exact hP⟩, hS.F ht⟩) hS.2.2 d_Mo_finding_61
        · have h := h.1 c46
          refine lv_iconst (v := 1) hx hb d_Mo_finding_49 (by decide) ?_
          refine lv_goto (tgt := 54) hx hb d_Mo_finding_50 (by decide) ?_
          refine r_Mo_throwing hF hK hP hL hS m_283 hl.1 ⟨Nat.le_of_ble_eq_true rfl, Nat.le_of_ble_eq_true rfl⟩ ⟨Nat.zero_le _, Nat.zero_le _⟩ (Nat.le_of_ble_eq_true rfl) d_Mo_finding_54 (fun H locs hP hS => ?_)
          refine lv_if_eq (tgt := 62) hx hb d_Mo_finding_57 (by decide) (fun c57 => ?_) (fun c57 => ?_)
          · have h := h.1 c57
            refine lv_aload_n hx hb d_Mo_finding_62 rfl (lv_at hl 0 rfl) ?_
            refine lv_iload_n hx hb d_Mo_finding_63 rfl (lv_at hl 1 rfl) ?_
            refine lv_iload_n hx hb d_Mo_finding_64 rfl (lv_at hl 2 rfl) ?_
            refine lv_aload_n hx hb d_Mo_finding_65 rfl (lv_at hl 0 rfl) ?_
            refine gf_Mo_day hF hK hP m_200 d_Mo_finding_66 ?_
            refine lv_iload_n hx hb d_Mo_finding_69 rfl (lv_at hl 3 rfl) ?_
            refine lv_if_ge (tgt := 86) hx hb d_Mo_finding_70 (by decide) (fun c70 => ?_) (fun c70 => ?_)
            · have h := h.1 c70
              refine lv_iload_n hx hb d_Mo_finding_86 rfl (lv_at hl 3 rfl) ?_
              refine lv_iadd hx hb d_Mo_finding_87 ?_
              have k88 := h
              refine r_Mo_add hF hK hP hL hS k88 m_236 hl.1 ⟨Nat.le_of_ble_eq_true rfl, Nat.le_of_ble_eq_true rfl⟩ ⟨Nat.zero_le _, Nat.zero_le _⟩ (Nat.le_of_ble_eq_true rfl) d_Mo_finding_88 (fun H locs hP hS => ?_)
              refine lv_aload_n hx hb d_Mo_finding_91 rfl (lv_at hl 0 rfl) ?_
              refine gf_Mo_findings hF hK hP m_205 d_Mo_finding_92 ?_
              refine lv_iconst (v := 1) hx hb d_Mo_finding_95 (by decide) ?_
              refine lv_isub hx hb d_Mo_finding_96 ?_
              have hv : (((((f_Mo_add ((f_Mo_throwing ar sc 0 0 1).2.1) ((f_Mo_throwing ar sc 0 0 1).2.2) a0 a1 ((((f_Mo_throwing ar sc 0 0 1).2.2) 1) + a2)).2) 3) - 1, (f_Mo_add ((f_Mo_throwing ar sc 0 0 1).2.1) ((f_Mo_throwing ar sc 0 0 1).2.2) a0 a1 ((((f_Mo_throwing ar sc 0 0 1).2.2) 1) + a2)).1, (f_Mo_add ((f_Mo_throwing ar sc 0 0 1).2.1) ((f_Mo_throwing ar sc 0 0 1).2.2) a0 a1 ((((f_Mo_throwing ar sc 0 0 1).2.2) 1) + a2)).2) : Int32 × (Nat → Nat → Int32) × (Nat → Int32)) = f_Mo_finding ar sc a0 a1 a2 := by rw [f_Mo_finding, if_neg c6, if_neg c21, if_neg c32, if_pos c46, if_pos c57, if_pos c70]
              exact W.iret (v := (((f_Mo_add ((f_Mo_throwing ar sc 0 0 1).2.1) ((f_Mo_throwing ar sc 0 0 1).2.2) a0 a1 ((((f_Mo_throwing ar sc 0 0 1).2.2) 1) + a2)).2) 3) - 1) hx hb hr (fun t ht hW => ⟨⟨(((f_Mo_add ((f_Mo_throwing ar sc 0 0 1).2.1) ((f_Mo_throwing ar sc 0 0 1).2.2) a0 a1 ((((f_Mo_throwing ar sc 0 0 1).2.2) 1) + a2)).2) 3) - 1, ((f_Mo_add ((f_Mo_throwing ar sc 0 0 1).2.1) ((f_Mo_throwing ar sc 0 0 1).2.2) a0 a1 ((((f_Mo_throwing ar sc 0 0 1).2.2) 1) + a2)).1, (f_Mo_add ((f_Mo_throwing ar sc 0 0 1).2.1) ((f_Mo_throwing ar sc 0 0 1).2.2) a0 a1 ((((f_Mo_throwing ar sc 0 0 1).2.2) 1) + a2)).2), rfl, hv, by dsimp only; rw [ht]; exact hP⟩, hS.F ht⟩) hS.2.2 d_Mo_finding_97
            · have h := h.2 c70
              refine lv_aload_n hx hb d_Mo_finding_73 rfl (lv_at hl 0 rfl) ?_
              refine gf_Mo_time hF hK hP m_291 d_Mo_finding_74 ?_
              refine lv_aload_n hx hb d_Mo_finding_77 rfl (lv_at hl 0 rfl) ?_
              refine lv_iload_n hx hb d_Mo_finding_78 rfl (lv_at hl 1 rfl) ?_
              have k79 := h.1
              have h := h.2
              refine r_Mo_classOf hF hK hP k79 m_226 hl.1 ⟨Nat.le_of_ble_eq_true rfl, Nat.le_of_ble_eq_true rfl⟩ ⟨Nat.zero_le _, Nat.zero_le _⟩ (Nat.le_of_ble_eq_true rfl) d_Mo_finding_79 ?_
              have k82 := h.1
              have h := h.2
              refine alM_4 hF hK hP k82 d_Mo_finding_82 ?_
              refine lv_goto (tgt := 87) hx hb d_Mo_finding_83 (by decide) ?_
              refine lv_iadd hx hb d_Mo_finding_87 ?_
              have k88 := h
              refine r_Mo_add hF hK hP hL hS k88 m_236 hl.1 ⟨Nat.le_of_ble_eq_true rfl, Nat.le_of_ble_eq_true rfl⟩ ⟨Nat.zero_le _, Nat.zero_le _⟩ (Nat.le_of_ble_eq_true rfl) d_Mo_finding_88 (fun H locs hP hS => ?_)
              refine lv_aload_n hx hb d_Mo_finding_91 rfl (lv_at hl 0 rfl) ?_
              refine gf_Mo_findings hF hK hP m_205 d_Mo_finding_92 ?_
              refine lv_iconst (v := 1) hx hb d_Mo_finding_95 (by decide) ?_
              refine lv_isub hx hb d_Mo_finding_96 ?_
              have hv : (((((f_Mo_add ((f_Mo_throwing ar sc 0 0 1).2.1) ((f_Mo_throwing ar sc 0 0 1).2.2) a0 a1 ((((f_Mo_throwing ar sc 0 0 1).2.2) 1) + (((f_Mo_throwing ar sc 0 0 1).2.1) 4 ((f_Mo_classOf ((f_Mo_throwing ar sc 0 0 1).2.1) ((f_Mo_throwing ar sc 0 0 1).2.2) a0).toNatClampNeg)))).2) 3) - 1, (f_Mo_add ((f_Mo_throwing ar sc 0 0 1).2.1) ((f_Mo_throwing ar sc 0 0 1).2.2) a0 a1 ((((f_Mo_throwing ar sc 0 0 1).2.2) 1) + (((f_Mo_throwing ar sc 0 0 1).2.1) 4 ((f_Mo_classOf ((f_Mo_throwing ar sc 0 0 1).2.1) ((f_Mo_throwing ar sc 0 0 1).2.2) a0).toNatClampNeg)))).1, (f_Mo_add ((f_Mo_throwing ar sc 0 0 1).2.1) ((f_Mo_throwing ar sc 0 0 1).2.2) a0 a1 ((((f_Mo_throwing ar sc 0 0 1).2.2) 1) + (((f_Mo_throwing ar sc 0 0 1).2.1) 4 ((f_Mo_classOf ((f_Mo_throwing ar sc 0 0 1).2.1) ((f_Mo_throwing ar sc 0 0 1).2.2) a0).toNatClampNeg)))).2) : Int32 × (Nat → Nat → Int32) × (Nat → Int32)) = f_Mo_finding ar sc a0 a1 a2 := by rw [f_Mo_finding, if_neg c6, if_neg c21, if_neg c32, if_pos c46, if_pos c57, if_neg c70]
              exact W.iret (v := (((f_Mo_add ((f_Mo_throwing ar sc 0 0 1).2.1) ((f_Mo_throwing ar sc 0 0 1).2.2) a0 a1 ((((f_Mo_throwing ar sc 0 0 1).2.2) 1) + (((f_Mo_throwing ar sc 0 0 1).2.1) 4 ((f_Mo_classOf ((f_Mo_throwing ar sc 0 0 1).2.1) ((f_Mo_throwing ar sc 0 0 1).2.2) a0).toNatClampNeg)))).2) 3) - 1) hx hb hr (fun t ht hW => ⟨⟨(((f_Mo_add ((f_Mo_throwing ar sc 0 0 1).2.1) ((f_Mo_throwing ar sc 0 0 1).2.2) a0 a1 ((((f_Mo_throwing ar sc 0 0 1).2.2) 1) + (((f_Mo_throwing ar sc 0 0 1).2.1) 4 ((f_Mo_classOf ((f_Mo_throwing ar sc 0 0 1).2.1) ((f_Mo_throwing ar sc 0 0 1).2.2) a0).toNatClampNeg)))).2) 3) - 1, ((f_Mo_add ((f_Mo_throwing ar sc 0 0 1).2.1) ((f_Mo_throwing ar sc 0 0 1).2.2) a0 a1 ((((f_Mo_throwing ar sc 0 0 1).2.2) 1) + (((f_Mo_throwing ar sc 0 0 1).2.1) 4 ((f_Mo_classOf ((f_Mo_throwing ar sc 0 0 1).2.1) ((f_Mo_throwing ar sc 0 0 1).2.2) a0).toNatClampNeg)))).1, (f_Mo_add ((f_Mo_throwing ar sc 0 0 1).2.1) ((f_Mo_throwing ar sc 0 0 1).2.2) a0 a1 ((((f_Mo_throwing ar sc 0 0 1).2.2) 1) + (((f_Mo_throwing ar sc 0 0 1).2.1) 4 ((f_Mo_classOf ((f_Mo_throwing ar sc 0 0 1).2.1) ((f_Mo_throwing ar sc 0 0 1).2.2) a0).toNatClampNeg)))).2), rfl, hv, by dsimp only; rw [ht]; exact hP⟩, hS.F ht⟩) hS.2.2 d_Mo_finding_97
          · have h := h.2 c57
            refine lv_iconst (v := 0) hx hb d_Mo_finding_60 (by decide) ?_
            have hv : ((0, (f_Mo_throwing ar sc 0 0 1).2.1, (f_Mo_throwing ar sc 0 0 1).2.2) : Int32 × (Nat → Nat → Int32) × (Nat → Int32)) = f_Mo_finding ar sc a0 a1 a2 := by rw [f_Mo_finding, if_neg c6, if_neg c21, if_neg c32, if_pos c46, if_neg c57]
            exact W.iret (v := 0) hx hb hr (fun t ht hW => ⟨⟨0, ((f_Mo_throwing ar sc 0 0 1).2.1, (f_Mo_throwing ar sc 0 0 1).2.2), rfl, hv, by dsimp only; rw [ht]; exact hP⟩, hS.F ht⟩) hS.2.2 d_Mo_finding_61
      · have h := h.1 c32
        refine lv_iconst (v := 1) hx hb d_Mo_finding_35 (by decide) ?_
        refine lv_goto (tgt := 40) hx hb d_Mo_finding_36 (by decide) ?_
        refine lv_aload_n hx hb d_Mo_finding_40 rfl (lv_at hl 0 rfl) ?_
        refine gf_Mo_findings hF hK hP m_205 d_Mo_finding_41 ?_
        refine lv_bipush (v := 100) hx hb d_Mo_finding_44 (by decide) ?_
        refine lv_icmp_ne (tgt := 53) hx hb d_Mo_finding_46 (by decide) (fun c46 => ?_) (fun c46 => ?_)
        · have h := h.2 c46
          refine lv_iconst (v := 0) hx hb d_Mo_finding_53 (by decide) ?_
          refine r_Mo_throwing hF hK hP hL hS m_283 hl.1 ⟨Nat.le_of_ble_eq_true rfl, Nat.le_of_ble_eq_true rfl⟩ ⟨Nat.zero_le _, Nat.zero_le _⟩ (Nat.le_of_ble_eq_true rfl) d_Mo_finding_54 (fun H locs hP hS => ?_)
          refine lv_if_eq (tgt := 62) hx hb d_Mo_finding_57 (by decide) (fun c57 => ?_) (fun c57 => ?_)
          · have h := h.1 c57
            refine lv_aload_n hx hb d_Mo_finding_62 rfl (lv_at hl 0 rfl) ?_
            refine lv_iload_n hx hb d_Mo_finding_63 rfl (lv_at hl 1 rfl) ?_
            refine lv_iload_n hx hb d_Mo_finding_64 rfl (lv_at hl 2 rfl) ?_
            refine lv_aload_n hx hb d_Mo_finding_65 rfl (lv_at hl 0 rfl) ?_
            refine gf_Mo_day hF hK hP m_200 d_Mo_finding_66 ?_
            refine lv_iload_n hx hb d_Mo_finding_69 rfl (lv_at hl 3 rfl) ?_
            refine lv_if_ge (tgt := 86) hx hb d_Mo_finding_70 (by decide) (fun c70 => ?_) (fun c70 => ?_)
            · have h := h.1 c70
              refine lv_iload_n hx hb d_Mo_finding_86 rfl (lv_at hl 3 rfl) ?_
              refine lv_iadd hx hb d_Mo_finding_87 ?_
              have k88 := h
              refine r_Mo_add hF hK hP hL hS k88 m_236 hl.1 ⟨Nat.le_of_ble_eq_true rfl, Nat.le_of_ble_eq_true rfl⟩ ⟨Nat.zero_le _, Nat.zero_le _⟩ (Nat.le_of_ble_eq_true rfl) d_Mo_finding_88 (fun H locs hP hS => ?_)
              refine lv_aload_n hx hb d_Mo_finding_91 rfl (lv_at hl 0 rfl) ?_
              refine gf_Mo_findings hF hK hP m_205 d_Mo_finding_92 ?_
              refine lv_iconst (v := 1) hx hb d_Mo_finding_95 (by decide) ?_
              refine lv_isub hx hb d_Mo_finding_96 ?_
              have hv : (((((f_Mo_add ((f_Mo_throwing ar sc 0 1 0).2.1) ((f_Mo_throwing ar sc 0 1 0).2.2) a0 a1 ((((f_Mo_throwing ar sc 0 1 0).2.2) 1) + a2)).2) 3) - 1, (f_Mo_add ((f_Mo_throwing ar sc 0 1 0).2.1) ((f_Mo_throwing ar sc 0 1 0).2.2) a0 a1 ((((f_Mo_throwing ar sc 0 1 0).2.2) 1) + a2)).1, (f_Mo_add ((f_Mo_throwing ar sc 0 1 0).2.1) ((f_Mo_throwing ar sc 0 1 0).2.2) a0 a1 ((((f_Mo_throwing ar sc 0 1 0).2.2) 1) + a2)).2) : Int32 × (Nat → Nat → Int32) × (Nat → Int32)) = f_Mo_finding ar sc a0 a1 a2 := by rw [f_Mo_finding, if_neg c6, if_neg c21, if_pos c32, if_neg c46, if_pos c57, if_pos c70]
              exact W.iret (v := (((f_Mo_add ((f_Mo_throwing ar sc 0 1 0).2.1) ((f_Mo_throwing ar sc 0 1 0).2.2) a0 a1 ((((f_Mo_throwing ar sc 0 1 0).2.2) 1) + a2)).2) 3) - 1) hx hb hr (fun t ht hW => ⟨⟨(((f_Mo_add ((f_Mo_throwing ar sc 0 1 0).2.1) ((f_Mo_throwing ar sc 0 1 0).2.2) a0 a1 ((((f_Mo_throwing ar sc 0 1 0).2.2) 1) + a2)).2) 3) - 1, ((f_Mo_add ((f_Mo_throwing ar sc 0 1 0).2.1) ((f_Mo_throwing ar sc 0 1 0).2.2) a0 a1 ((((f_Mo_throwing ar sc 0 1 0).2.2) 1) + a2)).1, (f_Mo_add ((f_Mo_throwing ar sc 0 1 0).2.1) ((f_Mo_throwing ar sc 0 1 0).2.2) a0 a1 ((((f_Mo_throwing ar sc 0 1 0).2.2) 1) + a2)).2), rfl, hv, by dsimp only; rw [ht]; exact hP⟩, hS.F ht⟩) hS.2.2 d_Mo_finding_97
            · have h := h.2 c70
              refine lv_aload_n hx hb d_Mo_finding_73 rfl (lv_at hl 0 rfl) ?_
              refine gf_Mo_time hF hK hP m_291 d_Mo_finding_74 ?_
              refine lv_aload_n hx hb d_Mo_finding_77 rfl (lv_at hl 0 rfl) ?_
              refine lv_iload_n hx hb d_Mo_finding_78 rfl (lv_at hl 1 rfl) ?_
              have k79 := h.1
              have h := h.2
              refine r_Mo_classOf hF hK hP k79 m_226 hl.1 ⟨Nat.le_of_ble_eq_true rfl, Nat.le_of_ble_eq_true rfl⟩ ⟨Nat.zero_le _, Nat.zero_le _⟩ (Nat.le_of_ble_eq_true rfl) d_Mo_finding_79 ?_
              have k82 := h.1
              have h := h.2
              refine alM_4 hF hK hP k82 d_Mo_finding_82 ?_
              refine lv_goto (tgt := 87) hx hb d_Mo_finding_83 (by decide) ?_
              refine lv_iadd hx hb d_Mo_finding_87 ?_
              have k88 := h
              refine r_Mo_add hF hK hP hL hS k88 m_236 hl.1 ⟨Nat.le_of_ble_eq_true rfl, Nat.le_of_ble_eq_true rfl⟩ ⟨Nat.zero_le _, Nat.zero_le _⟩ (Nat.le_of_ble_eq_true rfl) d_Mo_finding_88 (fun H locs hP hS => ?_)
              refine lv_aload_n hx hb d_Mo_finding_91 rfl (lv_at hl 0 rfl) ?_
              refine gf_Mo_findings hF hK hP m_205 d_Mo_finding_92 ?_
              refine lv_iconst (v := 1) hx hb d_Mo_finding_95 (by decide) ?_
              refine lv_isub hx hb d_Mo_finding_96 ?_
              have hv : (((((f_Mo_add ((f_Mo_throwing ar sc 0 1 0).2.1) ((f_Mo_throwing ar sc 0 1 0).2.2) a0 a1 ((((f_Mo_throwing ar sc 0 1 0).2.2) 1) + (((f_Mo_throwing ar sc 0 1 0).2.1) 4 ((f_Mo_classOf ((f_Mo_throwing ar sc 0 1 0).2.1) ((f_Mo_throwing ar sc 0 1 0).2.2) a0).toNatClampNeg)))).2) 3) - 1, (f_Mo_add ((f_Mo_throwing ar sc 0 1 0).2.1) ((f_Mo_throwing ar sc 0 1 0).2.2) a0 a1 ((((f_Mo_throwing ar sc 0 1 0).2.2) 1) + (((f_Mo_throwing ar sc 0 1 0).2.1) 4 ((f_Mo_classOf ((f_Mo_throwing ar sc 0 1 0).2.1) ((f_Mo_throwing ar sc 0 1 0).2.2) a0).toNatClampNeg)))).1, (f_Mo_add ((f_Mo_throwing ar sc 0 1 0).2.1) ((f_Mo_throwing ar sc 0 1 0).2.2) a0 a1 ((((f_Mo_throwing ar sc 0 1 0).2.2) 1) + (((f_Mo_throwing ar sc 0 1 0).2.1) 4 ((f_Mo_classOf ((f_Mo_throwing ar sc 0 1 0).2.1) ((f_Mo_throwing ar sc 0 1 0).2.2) a0).toNatClampNeg)))).2) : Int32 × (Nat → Nat → Int32) × (Nat → Int32)) = f_Mo_finding ar sc a0 a1 a2 := by rw [f_Mo_finding, if_neg c6, if_neg c21, if_pos c32, if_neg c46, if_pos c57, if_neg c70]
              exact W.iret (v := (((f_Mo_add ((f_Mo_throwing ar sc 0 1 0).2.1) ((f_Mo_throwing ar sc 0 1 0).2.2) a0 a1 ((((f_Mo_throwing ar sc 0 1 0).2.2) 1) + (((f_Mo_throwing ar sc 0 1 0).2.1) 4 ((f_Mo_classOf ((f_Mo_throwing ar sc 0 1 0).2.1) ((f_Mo_throwing ar sc 0 1 0).2.2) a0).toNatClampNeg)))).2) 3) - 1) hx hb hr (fun t ht hW => ⟨⟨(((f_Mo_add ((f_Mo_throwing ar sc 0 1 0).2.1) ((f_Mo_throwing ar sc 0 1 0).2.2) a0 a1 ((((f_Mo_throwing ar sc 0 1 0).2.2) 1) + (((f_Mo_throwing ar sc 0 1 0).2.1) 4 ((f_Mo_classOf ((f_Mo_throwing ar sc 0 1 0).2.1) ((f_Mo_throwing ar sc 0 1 0).2.2) a0).toNatClampNeg)))).2) 3) - 1, ((f_Mo_add ((f_Mo_throwing ar sc 0 1 0).2.1) ((f_Mo_throwing ar sc 0 1 0).2.2) a0 a1 ((((f_Mo_throwing ar sc 0 1 0).2.2) 1) + (((f_Mo_throwing ar sc 0 1 0).2.1) 4 ((f_Mo_classOf ((f_Mo_throwing ar sc 0 1 0).2.1) ((f_Mo_throwing ar sc 0 1 0).2.2) a0).toNatClampNeg)))).1, (f_Mo_add ((f_Mo_throwing ar sc 0 1 0).2.1) ((f_Mo_throwing ar sc 0 1 0).2.2) a0 a1 ((((f_Mo_throwing ar sc 0 1 0).2.2) 1) + (((f_Mo_throwing ar sc 0 1 0).2.1) 4 ((f_Mo_classOf ((f_Mo_throwing ar sc 0 1 0).2.1) ((f_Mo_throwing ar sc 0 1 0).2.2) a0).toNatClampNeg)))).2), rfl, hv, by dsimp only; rw [ht]; exact hP⟩, hS.F ht⟩) hS.2.2 d_Mo_finding_97
          · have h := h.2 c57
            refine lv_iconst (v := 0) hx hb d_Mo_finding_60 (by decide) ?_
            have hv : ((0, (f_Mo_throwing ar sc 0 1 0).2.1, (f_Mo_throwing ar sc 0 1 0).2.2) : Int32 × (Nat → Nat → Int32) × (Nat → Int32)) = f_Mo_finding ar sc a0 a1 a2 := by rw [f_Mo_finding, if_neg c6, if_neg c21, if_pos c32, if_neg c46, if_neg c57]
            exact W.iret (v := 0) hx hb hr (fun t ht hW => ⟨⟨0, ((f_Mo_throwing ar sc 0 1 0).2.1, (f_Mo_throwing ar sc 0 1 0).2.2), rfl, hv, by dsimp only; rw [ht]; exact hP⟩, hS.F ht⟩) hS.2.2 d_Mo_finding_61
        · have h := h.1 c46
          refine lv_iconst (v := 1) hx hb d_Mo_finding_49 (by decide) ?_
          refine lv_goto (tgt := 54) hx hb d_Mo_finding_50 (by decide) ?_
          refine r_Mo_throwing hF hK hP hL hS m_283 hl.1 ⟨Nat.le_of_ble_eq_true rfl, Nat.le_of_ble_eq_true rfl⟩ ⟨Nat.zero_le _, Nat.zero_le _⟩ (Nat.le_of_ble_eq_true rfl) d_Mo_finding_54 (fun H locs hP hS => ?_)
          refine lv_if_eq (tgt := 62) hx hb d_Mo_finding_57 (by decide) (fun c57 => ?_) (fun c57 => ?_)
          · have h := h.1 c57
            refine lv_aload_n hx hb d_Mo_finding_62 rfl (lv_at hl 0 rfl) ?_
            refine lv_iload_n hx hb d_Mo_finding_63 rfl (lv_at hl 1 rfl) ?_
            refine lv_iload_n hx hb d_Mo_finding_64 rfl (lv_at hl 2 rfl) ?_
            refine lv_aload_n hx hb d_Mo_finding_65 rfl (lv_at hl 0 rfl) ?_
            refine gf_Mo_day hF hK hP m_200 d_Mo_finding_66 ?_
            refine lv_iload_n hx hb d_Mo_finding_69 rfl (lv_at hl 3 rfl) ?_
            refine lv_if_ge (tgt := 86) hx hb d_Mo_finding_70 (by decide) (fun c70 => ?_) (fun c70 => ?_)
            · have h := h.1 c70
              refine lv_iload_n hx hb d_Mo_finding_86 rfl (lv_at hl 3 rfl) ?_
              refine lv_iadd hx hb d_Mo_finding_87 ?_
              have k88 := h
              refine r_Mo_add hF hK hP hL hS k88 m_236 hl.1 ⟨Nat.le_of_ble_eq_true rfl, Nat.le_of_ble_eq_true rfl⟩ ⟨Nat.zero_le _, Nat.zero_le _⟩ (Nat.le_of_ble_eq_true rfl) d_Mo_finding_88 (fun H locs hP hS => ?_)
              refine lv_aload_n hx hb d_Mo_finding_91 rfl (lv_at hl 0 rfl) ?_
              refine gf_Mo_findings hF hK hP m_205 d_Mo_finding_92 ?_
              refine lv_iconst (v := 1) hx hb d_Mo_finding_95 (by decide) ?_
              refine lv_isub hx hb d_Mo_finding_96 ?_
              have hv : (((((f_Mo_add ((f_Mo_throwing ar sc 0 1 1).2.1) ((f_Mo_throwing ar sc 0 1 1).2.2) a0 a1 ((((f_Mo_throwing ar sc 0 1 1).2.2) 1) + a2)).2) 3) - 1, (f_Mo_add ((f_Mo_throwing ar sc 0 1 1).2.1) ((f_Mo_throwing ar sc 0 1 1).2.2) a0 a1 ((((f_Mo_throwing ar sc 0 1 1).2.2) 1) + a2)).1, (f_Mo_add ((f_Mo_throwing ar sc 0 1 1).2.1) ((f_Mo_throwing ar sc 0 1 1).2.2) a0 a1 ((((f_Mo_throwing ar sc 0 1 1).2.2) 1) + a2)).2) : Int32 × (Nat → Nat → Int32) × (Nat → Int32)) = f_Mo_finding ar sc a0 a1 a2 := by rw [f_Mo_finding, if_neg c6, if_neg c21, if_pos c32, if_pos c46, if_pos c57, if_pos c70]
              exact W.iret (v := (((f_Mo_add ((f_Mo_throwing ar sc 0 1 1).2.1) ((f_Mo_throwing ar sc 0 1 1).2.2) a0 a1 ((((f_Mo_throwing ar sc 0 1 1).2.2) 1) + a2)).2) 3) - 1) hx hb hr (fun t ht hW => ⟨⟨(((f_Mo_add ((f_Mo_throwing ar sc 0 1 1).2.1) ((f_Mo_throwing ar sc 0 1 1).2.2) a0 a1 ((((f_Mo_throwing ar sc 0 1 1).2.2) 1) + a2)).2) 3) - 1, ((f_Mo_add ((f_Mo_throwing ar sc 0 1 1).2.1) ((f_Mo_throwing ar sc 0 1 1).2.2) a0 a1 ((((f_Mo_throwing ar sc 0 1 1).2.2) 1) + a2)).1, (f_Mo_add ((f_Mo_throwing ar sc 0 1 1).2.1) ((f_Mo_throwing ar sc 0 1 1).2.2) a0 a1 ((((f_Mo_throwing ar sc 0 1 1).2.2) 1) + a2)).2), rfl, hv, by dsimp only; rw [ht]; exact hP⟩, hS.F ht⟩) hS.2.2 d_Mo_finding_97
            · have h := h.2 c70
              refine lv_aload_n hx hb d_Mo_finding_73 rfl (lv_at hl 0 rfl) ?_
              refine gf_Mo_time hF hK hP m_291 d_Mo_finding_74 ?_
              refine lv_aload_n hx hb d_Mo_finding_77 rfl (lv_at hl 0 rfl) ?_
              refine lv_iload_n hx hb d_Mo_finding_78 rfl (lv_at hl 1 rfl) ?_
              have k79 := h.1
              have h := h.2
              refine r_Mo_classOf hF hK hP k79 m_226 hl.1 ⟨Nat.le_of_ble_eq_true rfl, Nat.le_of_ble_eq_true rfl⟩ ⟨Nat.zero_le _, Nat.zero_le _⟩ (Nat.le_of_ble_eq_true rfl) d_Mo_finding_79 ?_
              have k82 := h.1
              have h := h.2
              refine alM_4 hF hK hP k82 d_Mo_finding_82 ?_
              refine lv_goto (tgt := 87) hx hb d_Mo_finding_83 (by decide) ?_
              refine lv_iadd hx hb d_Mo_finding_87 ?_
              have k88 := h
              refine r_Mo_add hF hK hP hL hS k88 m_236 hl.1 ⟨Nat.le_of_ble_eq_true rfl, Nat.le_of_ble_eq_true rfl⟩ ⟨Nat.zero_le _, Nat.zero_le _⟩ (Nat.le_of_ble_eq_true rfl) d_Mo_finding_88 (fun H locs hP hS => ?_)
              refine lv_aload_n hx hb d_Mo_finding_91 rfl (lv_at hl 0 rfl) ?_
              refine gf_Mo_findings hF hK hP m_205 d_Mo_finding_92 ?_
              refine lv_iconst (v := 1) hx hb d_Mo_finding_95 (by decide) ?_
              refine lv_isub hx hb d_Mo_finding_96 ?_
              have hv : (((((f_Mo_add ((f_Mo_throwing ar sc 0 1 1).2.1) ((f_Mo_throwing ar sc 0 1 1).2.2) a0 a1 ((((f_Mo_throwing ar sc 0 1 1).2.2) 1) + (((f_Mo_throwing ar sc 0 1 1).2.1) 4 ((f_Mo_classOf ((f_Mo_throwing ar sc 0 1 1).2.1) ((f_Mo_throwing ar sc 0 1 1).2.2) a0).toNatClampNeg)))).2) 3) - 1, (f_Mo_add ((f_Mo_throwing ar sc 0 1 1).2.1) ((f_Mo_throwing ar sc 0 1 1).2.2) a0 a1 ((((f_Mo_throwing ar sc 0 1 1).2.2) 1) + (((f_Mo_throwing ar sc 0 1 1).2.1) 4 ((f_Mo_classOf ((f_Mo_throwing ar sc 0 1 1).2.1) ((f_Mo_throwing ar sc 0 1 1).2.2) a0).toNatClampNeg)))).1, (f_Mo_add ((f_Mo_throwing ar sc 0 1 1).2.1) ((f_Mo_throwing ar sc 0 1 1).2.2) a0 a1 ((((f_Mo_throwing ar sc 0 1 1).2.2) 1) + (((f_Mo_throwing ar sc 0 1 1).2.1) 4 ((f_Mo_classOf ((f_Mo_throwing ar sc 0 1 1).2.1) ((f_Mo_throwing ar sc 0 1 1).2.2) a0).toNatClampNeg)))).2) : Int32 × (Nat → Nat → Int32) × (Nat → Int32)) = f_Mo_finding ar sc a0 a1 a2 := by rw [f_Mo_finding, if_neg c6, if_neg c21, if_pos c32, if_pos c46, if_pos c57, if_neg c70]
              exact W.iret (v := (((f_Mo_add ((f_Mo_throwing ar sc 0 1 1).2.1) ((f_Mo_throwing ar sc 0 1 1).2.2) a0 a1 ((((f_Mo_throwing ar sc 0 1 1).2.2) 1) + (((f_Mo_throwing ar sc 0 1 1).2.1) 4 ((f_Mo_classOf ((f_Mo_throwing ar sc 0 1 1).2.1) ((f_Mo_throwing ar sc 0 1 1).2.2) a0).toNatClampNeg)))).2) 3) - 1) hx hb hr (fun t ht hW => ⟨⟨(((f_Mo_add ((f_Mo_throwing ar sc 0 1 1).2.1) ((f_Mo_throwing ar sc 0 1 1).2.2) a0 a1 ((((f_Mo_throwing ar sc 0 1 1).2.2) 1) + (((f_Mo_throwing ar sc 0 1 1).2.1) 4 ((f_Mo_classOf ((f_Mo_throwing ar sc 0 1 1).2.1) ((f_Mo_throwing ar sc 0 1 1).2.2) a0).toNatClampNeg)))).2) 3) - 1, ((f_Mo_add ((f_Mo_throwing ar sc 0 1 1).2.1) ((f_Mo_throwing ar sc 0 1 1).2.2) a0 a1 ((((f_Mo_throwing ar sc 0 1 1).2.2) 1) + (((f_Mo_throwing ar sc 0 1 1).2.1) 4 ((f_Mo_classOf ((f_Mo_throwing ar sc 0 1 1).2.1) ((f_Mo_throwing ar sc 0 1 1).2.2) a0).toNatClampNeg)))).1, (f_Mo_add ((f_Mo_throwing ar sc 0 1 1).2.1) ((f_Mo_throwing ar sc 0 1 1).2.2) a0 a1 ((((f_Mo_throwing ar sc 0 1 1).2.2) 1) + (((f_Mo_throwing ar sc 0 1 1).2.1) 4 ((f_Mo_classOf ((f_Mo_throwing ar sc 0 1 1).2.1) ((f_Mo_throwing ar sc 0 1 1).2.2) a0).toNatClampNeg)))).2), rfl, hv, by dsimp only; rw [ht]; exact hP⟩, hS.F ht⟩) hS.2.2 d_Mo_finding_97
          · have h := h.2 c57
            refine lv_iconst (v := 0) hx hb d_Mo_finding_60 (by decide) ?_
            have hv : ((0, (f_Mo_throwing ar sc 0 1 1).2.1, (f_Mo_throwing ar sc 0 1 1).2.2) : Int32 × (Nat → Nat → Int32) × (Nat → Int32)) = f_Mo_finding ar sc a0 a1 a2 := by rw [f_Mo_finding, if_neg c6, if_neg c21, if_pos c32, if_pos c46, if_neg c57]
            exact W.iret (v := 0) hx hb hr (fun t ht hW => ⟨⟨0, ((f_Mo_throwing ar sc 0 1 1).2.1, (f_Mo_throwing ar sc 0 1 1).2.2), rfl, hv, by dsimp only; rw [ht]; exact hP⟩, hS.F ht⟩) hS.2.2 d_Mo_finding_61
  · have h := h.1 c6
    refine lv_iconst (v := 1) hx hb d_Mo_finding_9 (by decide) ?_
    refine lv_goto (tgt := 14) hx hb d_Mo_finding_10 (by decide) ?_
    refine lv_iload_n hx hb d_Mo_finding_14 rfl (lv_at hl 2 rfl) ?_
    refine lv_iconst (v := 1) hx hb d_Mo_finding_15 (by decide) ?_
    refine lv_bipush (v := 50) hx hb d_Mo_finding_16 (by decide) ?_
    refine r_Mo_in hF m_195 hl.1 ⟨Nat.le_of_ble_eq_true rfl, Nat.le_of_ble_eq_true rfl⟩ ⟨Nat.zero_le _, Nat.zero_le _⟩ (Nat.le_of_ble_eq_true rfl) d_Mo_finding_18 ?_
    refine lv_if_eq (tgt := 35) hx hb d_Mo_finding_21 (by decide) (fun c21 => ?_) (fun c21 => ?_)
    · have h := h.1 c21
      refine lv_iconst (v := 1) hx hb d_Mo_finding_35 (by decide) ?_
      refine lv_goto (tgt := 40) hx hb d_Mo_finding_36 (by decide) ?_
      refine lv_aload_n hx hb d_Mo_finding_40 rfl (lv_at hl 0 rfl) ?_
      refine gf_Mo_findings hF hK hP m_205 d_Mo_finding_41 ?_
      refine lv_bipush (v := 100) hx hb d_Mo_finding_44 (by decide) ?_
      refine lv_icmp_ne (tgt := 53) hx hb d_Mo_finding_46 (by decide) (fun c46 => ?_) (fun c46 => ?_)
      · have h := h.2 c46
        refine lv_iconst (v := 0) hx hb d_Mo_finding_53 (by decide) ?_
        refine r_Mo_throwing hF hK hP hL hS m_283 hl.1 ⟨Nat.le_of_ble_eq_true rfl, Nat.le_of_ble_eq_true rfl⟩ ⟨Nat.zero_le _, Nat.zero_le _⟩ (Nat.le_of_ble_eq_true rfl) d_Mo_finding_54 (fun H locs hP hS => ?_)
        refine lv_if_eq (tgt := 62) hx hb d_Mo_finding_57 (by decide) (fun c57 => ?_) (fun c57 => ?_)
        · have h := h.1 c57
          refine lv_aload_n hx hb d_Mo_finding_62 rfl (lv_at hl 0 rfl) ?_
          refine lv_iload_n hx hb d_Mo_finding_63 rfl (lv_at hl 1 rfl) ?_
          refine lv_iload_n hx hb d_Mo_finding_64 rfl (lv_at hl 2 rfl) ?_
          refine lv_aload_n hx hb d_Mo_finding_65 rfl (lv_at hl 0 rfl) ?_
          refine gf_Mo_day hF hK hP m_200 d_Mo_finding_66 ?_
          refine lv_iload_n hx hb d_Mo_finding_69 rfl (lv_at hl 3 rfl) ?_
          refine lv_if_ge (tgt := 86) hx hb d_Mo_finding_70 (by decide) (fun c70 => ?_) (fun c70 => ?_)
          · have h := h.1 c70
            refine lv_iload_n hx hb d_Mo_finding_86 rfl (lv_at hl 3 rfl) ?_
            refine lv_iadd hx hb d_Mo_finding_87 ?_
            have k88 := h
            refine r_Mo_add hF hK hP hL hS k88 m_236 hl.1 ⟨Nat.le_of_ble_eq_true rfl, Nat.le_of_ble_eq_true rfl⟩ ⟨Nat.zero_le _, Nat.zero_le _⟩ (Nat.le_of_ble_eq_true rfl) d_Mo_finding_88 (fun H locs hP hS => ?_)
            refine lv_aload_n hx hb d_Mo_finding_91 rfl (lv_at hl 0 rfl) ?_
            refine gf_Mo_findings hF hK hP m_205 d_Mo_finding_92 ?_
            refine lv_iconst (v := 1) hx hb d_Mo_finding_95 (by decide) ?_
            refine lv_isub hx hb d_Mo_finding_96 ?_
            have hv : (((((f_Mo_add ((f_Mo_throwing ar sc 1 1 0).2.1) ((f_Mo_throwing ar sc 1 1 0).2.2) a0 a1 ((((f_Mo_throwing ar sc 1 1 0).2.2) 1) + a2)).2) 3) - 1, (f_Mo_add ((f_Mo_throwing ar sc 1 1 0).2.1) ((f_Mo_throwing ar sc 1 1 0).2.2) a0 a1 ((((f_Mo_throwing ar sc 1 1 0).2.2) 1) + a2)).1, (f_Mo_add ((f_Mo_throwing ar sc 1 1 0).2.1) ((f_Mo_throwing ar sc 1 1 0).2.2) a0 a1 ((((f_Mo_throwing ar sc 1 1 0).2.2) 1) + a2)).2) : Int32 × (Nat → Nat → Int32) × (Nat → Int32)) = f_Mo_finding ar sc a0 a1 a2 := by rw [f_Mo_finding, if_pos c6, if_pos c21, if_neg c46, if_pos c57, if_pos c70]
            exact W.iret (v := (((f_Mo_add ((f_Mo_throwing ar sc 1 1 0).2.1) ((f_Mo_throwing ar sc 1 1 0).2.2) a0 a1 ((((f_Mo_throwing ar sc 1 1 0).2.2) 1) + a2)).2) 3) - 1) hx hb hr (fun t ht hW => ⟨⟨(((f_Mo_add ((f_Mo_throwing ar sc 1 1 0).2.1) ((f_Mo_throwing ar sc 1 1 0).2.2) a0 a1 ((((f_Mo_throwing ar sc 1 1 0).2.2) 1) + a2)).2) 3) - 1, ((f_Mo_add ((f_Mo_throwing ar sc 1 1 0).2.1) ((f_Mo_throwing ar sc 1 1 0).2.2) a0 a1 ((((f_Mo_throwing ar sc 1 1 0).2.2) 1) + a2)).1, (f_Mo_add ((f_Mo_throwing ar sc 1 1 0).2.1) ((f_Mo_throwing ar sc 1 1 0).2.2) a0 a1 ((((f_Mo_throwing ar sc 1 1 0).2.2) 1) + a2)).2), rfl, hv, by dsimp only; rw [ht]; exact hP⟩, hS.F ht⟩) hS.2.2 d_Mo_finding_97
          · have h := h.2 c70
            refine lv_aload_n hx hb d_Mo_finding_73 rfl (lv_at hl 0 rfl) ?_
            refine gf_Mo_time hF hK hP m_291 d_Mo_finding_74 ?_
            refine lv_aload_n hx hb d_Mo_finding_77 rfl (lv_at hl 0 rfl) ?_
            refine lv_iload_n hx hb d_Mo_finding_78 rfl (lv_at hl 1 rfl) ?_
            have k79 := h.1
            have h := h.2
            refine r_Mo_classOf hF hK hP k79 m_226 hl.1 ⟨Nat.le_of_ble_eq_true rfl, Nat.le_of_ble_eq_true rfl⟩ ⟨Nat.zero_le _, Nat.zero_le _⟩ (Nat.le_of_ble_eq_true rfl) d_Mo_finding_79 ?_
            have k82 := h.1
            have h := h.2
            refine alM_4 hF hK hP k82 d_Mo_finding_82 ?_
            refine lv_goto (tgt := 87) hx hb d_Mo_finding_83 (by decide) ?_
            refine lv_iadd hx hb d_Mo_finding_87 ?_
            have k88 := h
            refine r_Mo_add hF hK hP hL hS k88 m_236 hl.1 ⟨Nat.le_of_ble_eq_true rfl, Nat.le_of_ble_eq_true rfl⟩ ⟨Nat.zero_le _, Nat.zero_le _⟩ (Nat.le_of_ble_eq_true rfl) d_Mo_finding_88 (fun H locs hP hS => ?_)
            refine lv_aload_n hx hb d_Mo_finding_91 rfl (lv_at hl 0 rfl) ?_
            refine gf_Mo_findings hF hK hP m_205 d_Mo_finding_92 ?_
            refine lv_iconst (v := 1) hx hb d_Mo_finding_95 (by decide) ?_
            refine lv_isub hx hb d_Mo_finding_96 ?_
            have hv : (((((f_Mo_add ((f_Mo_throwing ar sc 1 1 0).2.1) ((f_Mo_throwing ar sc 1 1 0).2.2) a0 a1 ((((f_Mo_throwing ar sc 1 1 0).2.2) 1) + (((f_Mo_throwing ar sc 1 1 0).2.1) 4 ((f_Mo_classOf ((f_Mo_throwing ar sc 1 1 0).2.1) ((f_Mo_throwing ar sc 1 1 0).2.2) a0).toNatClampNeg)))).2) 3) - 1, (f_Mo_add ((f_Mo_throwing ar sc 1 1 0).2.1) ((f_Mo_throwing ar sc 1 1 0).2.2) a0 a1 ((((f_Mo_throwing ar sc 1 1 0).2.2) 1) + (((f_Mo_throwing ar sc 1 1 0).2.1) 4 ((f_Mo_classOf ((f_Mo_throwing ar sc 1 1 0).2.1) ((f_Mo_throwing ar sc 1 1 0).2.2) a0).toNatClampNeg)))).1, (f_Mo_add ((f_Mo_throwing ar sc 1 1 0).2.1) ((f_Mo_throwing ar sc 1 1 0).2.2) a0 a1 ((((f_Mo_throwing ar sc 1 1 0).2.2) 1) + (((f_Mo_throwing ar sc 1 1 0).2.1) 4 ((f_Mo_classOf ((f_Mo_throwing ar sc 1 1 0).2.1) ((f_Mo_throwing ar sc 1 1 0).2.2) a0).toNatClampNeg)))).2) : Int32 × (Nat → Nat → Int32) × (Nat → Int32)) = f_Mo_finding ar sc a0 a1 a2 := by rw [f_Mo_finding, if_pos c6, if_pos c21, if_neg c46, if_pos c57, if_neg c70]
            exact W.iret (v := (((f_Mo_add ((f_Mo_throwing ar sc 1 1 0).2.1) ((f_Mo_throwing ar sc 1 1 0).2.2) a0 a1 ((((f_Mo_throwing ar sc 1 1 0).2.2) 1) + (((f_Mo_throwing ar sc 1 1 0).2.1) 4 ((f_Mo_classOf ((f_Mo_throwing ar sc 1 1 0).2.1) ((f_Mo_throwing ar sc 1 1 0).2.2) a0).toNatClampNeg)))).2) 3) - 1) hx hb hr (fun t ht hW => ⟨⟨(((f_Mo_add ((f_Mo_throwing ar sc 1 1 0).2.1) ((f_Mo_throwing ar sc 1 1 0).2.2) a0 a1 ((((f_Mo_throwing ar sc 1 1 0).2.2) 1) + (((f_Mo_throwing ar sc 1 1 0).2.1) 4 ((f_Mo_classOf ((f_Mo_throwing ar sc 1 1 0).2.1) ((f_Mo_throwing ar sc 1 1 0).2.2) a0).toNatClampNeg)))).2) 3) - 1, ((f_Mo_add ((f_Mo_throwing ar sc 1 1 0).2.1) ((f_Mo_throwing ar sc 1 1 0).2.2) a0 a1 ((((f_Mo_throwing ar sc 1 1 0).2.2) 1) + (((f_Mo_throwing ar sc 1 1 0).2.1) 4 ((f_Mo_classOf ((f_Mo_throwing ar sc 1 1 0).2.1) ((f_Mo_throwing ar sc 1 1 0).2.2) a0).toNatClampNeg)))).1, (f_Mo_add ((f_Mo_throwing ar sc 1 1 0).2.1) ((f_Mo_throwing ar sc 1 1 0).2.2) a0 a1 ((((f_Mo_throwing ar sc 1 1 0).2.2) 1) + (((f_Mo_throwing ar sc 1 1 0).2.1) 4 ((f_Mo_classOf ((f_Mo_throwing ar sc 1 1 0).2.1) ((f_Mo_throwing ar sc 1 1 0).2.2) a0).toNatClampNeg)))).2), rfl, hv, by dsimp only; rw [ht]; exact hP⟩, hS.F ht⟩) hS.2.2 d_Mo_finding_97
        · have h := h.2 c57
          refine lv_iconst (v := 0) hx hb d_Mo_finding_60 (by decide) ?_
          have hv : ((0, (f_Mo_throwing ar sc 1 1 0).2.1, (f_Mo_throwing ar sc 1 1 0).2.2) : Int32 × (Nat → Nat → Int32) × (Nat → Int32)) = f_Mo_finding ar sc a0 a1 a2 := by rw [f_Mo_finding, if_pos c6, if_pos c21, if_neg c46, if_neg c57]
          exact W.iret (v := 0) hx hb hr (fun t ht hW => ⟨⟨0, ((f_Mo_throwing ar sc 1 1 0).2.1, (f_Mo_throwing ar sc 1 1 0).2.2), rfl, hv, by dsimp only; rw [ht]; exact hP⟩, hS.F ht⟩) hS.2.2 d_Mo_finding_61
      · have h := h.1 c46
        refine lv_iconst (v := 1) hx hb d_Mo_finding_49 (by decide) ?_
        refine lv_goto (tgt := 54) hx hb d_Mo_finding_50 (by decide) ?_
        refine r_Mo_throwing hF hK hP hL hS m_283 hl.1 ⟨Nat.le_of_ble_eq_true rfl, Nat.le_of_ble_eq_true rfl⟩ ⟨Nat.zero_le _, Nat.zero_le _⟩ (Nat.le_of_ble_eq_true rfl) d_Mo_finding_54 (fun H locs hP hS => ?_)
        refine lv_if_eq (tgt := 62) hx hb d_Mo_finding_57 (by decide) (fun c57 => ?_) (fun c57 => ?_)
        · have h := h.1 c57
          refine lv_aload_n hx hb d_Mo_finding_62 rfl (lv_at hl 0 rfl) ?_
          refine lv_iload_n hx hb d_Mo_finding_63 rfl (lv_at hl 1 rfl) ?_
          refine lv_iload_n hx hb d_Mo_finding_64 rfl (lv_at hl 2 rfl) ?_
          refine lv_aload_n hx hb d_Mo_finding_65 rfl (lv_at hl 0 rfl) ?_
          refine gf_Mo_day hF hK hP m_200 d_Mo_finding_66 ?_
          refine lv_iload_n hx hb d_Mo_finding_69 rfl (lv_at hl 3 rfl) ?_
          refine lv_if_ge (tgt := 86) hx hb d_Mo_finding_70 (by decide) (fun c70 => ?_) (fun c70 => ?_)
          · have h := h.1 c70
            refine lv_iload_n hx hb d_Mo_finding_86 rfl (lv_at hl 3 rfl) ?_
            refine lv_iadd hx hb d_Mo_finding_87 ?_
            have k88 := h
            refine r_Mo_add hF hK hP hL hS k88 m_236 hl.1 ⟨Nat.le_of_ble_eq_true rfl, Nat.le_of_ble_eq_true rfl⟩ ⟨Nat.zero_le _, Nat.zero_le _⟩ (Nat.le_of_ble_eq_true rfl) d_Mo_finding_88 (fun H locs hP hS => ?_)
            refine lv_aload_n hx hb d_Mo_finding_91 rfl (lv_at hl 0 rfl) ?_
            refine gf_Mo_findings hF hK hP m_205 d_Mo_finding_92 ?_
            refine lv_iconst (v := 1) hx hb d_Mo_finding_95 (by decide) ?_
            refine lv_isub hx hb d_Mo_finding_96 ?_
            have hv : (((((f_Mo_add ((f_Mo_throwing ar sc 1 1 1).2.1) ((f_Mo_throwing ar sc 1 1 1).2.2) a0 a1 ((((f_Mo_throwing ar sc 1 1 1).2.2) 1) + a2)).2) 3) - 1, (f_Mo_add ((f_Mo_throwing ar sc 1 1 1).2.1) ((f_Mo_throwing ar sc 1 1 1).2.2) a0 a1 ((((f_Mo_throwing ar sc 1 1 1).2.2) 1) + a2)).1, (f_Mo_add ((f_Mo_throwing ar sc 1 1 1).2.1) ((f_Mo_throwing ar sc 1 1 1).2.2) a0 a1 ((((f_Mo_throwing ar sc 1 1 1).2.2) 1) + a2)).2) : Int32 × (Nat → Nat → Int32) × (Nat → Int32)) = f_Mo_finding ar sc a0 a1 a2 := by rw [f_Mo_finding, if_pos c6, if_pos c21, if_pos c46, if_pos c57, if_pos c70]
            exact W.iret (v := (((f_Mo_add ((f_Mo_throwing ar sc 1 1 1).2.1) ((f_Mo_throwing ar sc 1 1 1).2.2) a0 a1 ((((f_Mo_throwing ar sc 1 1 1).2.2) 1) + a2)).2) 3) - 1) hx hb hr (fun t ht hW => ⟨⟨(((f_Mo_add ((f_Mo_throwing ar sc 1 1 1).2.1) ((f_Mo_throwing ar sc 1 1 1).2.2) a0 a1 ((((f_Mo_throwing ar sc 1 1 1).2.2) 1) + a2)).2) 3) - 1, ((f_Mo_add ((f_Mo_throwing ar sc 1 1 1).2.1) ((f_Mo_throwing ar sc 1 1 1).2.2) a0 a1 ((((f_Mo_throwing ar sc 1 1 1).2.2) 1) + a2)).1, (f_Mo_add ((f_Mo_throwing ar sc 1 1 1).2.1) ((f_Mo_throwing ar sc 1 1 1).2.2) a0 a1 ((((f_Mo_throwing ar sc 1 1 1).2.2) 1) + a2)).2), rfl, hv, by dsimp only; rw [ht]; exact hP⟩, hS.F ht⟩) hS.2.2 d_Mo_finding_97
          · have h := h.2 c70
            refine lv_aload_n hx hb d_Mo_finding_73 rfl (lv_at hl 0 rfl) ?_
            refine gf_Mo_time hF hK hP m_291 d_Mo_finding_74 ?_
            refine lv_aload_n hx hb d_Mo_finding_77 rfl (lv_at hl 0 rfl) ?_
            refine lv_iload_n hx hb d_Mo_finding_78 rfl (lv_at hl 1 rfl) ?_
            have k79 := h.1
            have h := h.2
            refine r_Mo_classOf hF hK hP k79 m_226 hl.1 ⟨Nat.le_of_ble_eq_true rfl, Nat.le_of_ble_eq_true rfl⟩ ⟨Nat.zero_le _, Nat.zero_le _⟩ (Nat.le_of_ble_eq_true rfl) d_Mo_finding_79 ?_
            have k82 := h.1
            have h := h.2
            refine alM_4 hF hK hP k82 d_Mo_finding_82 ?_
            refine lv_goto (tgt := 87) hx hb d_Mo_finding_83 (by decide) ?_
            refine lv_iadd hx hb d_Mo_finding_87 ?_
            have k88 := h
            refine r_Mo_add hF hK hP hL hS k88 m_236 hl.1 ⟨Nat.le_of_ble_eq_true rfl, Nat.le_of_ble_eq_true rfl⟩ ⟨Nat.zero_le _, Nat.zero_le _⟩ (Nat.le_of_ble_eq_true rfl) d_Mo_finding_88 (fun H locs hP hS => ?_)
            refine lv_aload_n hx hb d_Mo_finding_91 rfl (lv_at hl 0 rfl) ?_
            refine gf_Mo_findings hF hK hP m_205 d_Mo_finding_92 ?_
            refine lv_iconst (v := 1) hx hb d_Mo_finding_95 (by decide) ?_
            refine lv_isub hx hb d_Mo_finding_96 ?_
            have hv : (((((f_Mo_add ((f_Mo_throwing ar sc 1 1 1).2.1) ((f_Mo_throwing ar sc 1 1 1).2.2) a0 a1 ((((f_Mo_throwing ar sc 1 1 1).2.2) 1) + (((f_Mo_throwing ar sc 1 1 1).2.1) 4 ((f_Mo_classOf ((f_Mo_throwing ar sc 1 1 1).2.1) ((f_Mo_throwing ar sc 1 1 1).2.2) a0).toNatClampNeg)))).2) 3) - 1, (f_Mo_add ((f_Mo_throwing ar sc 1 1 1).2.1) ((f_Mo_throwing ar sc 1 1 1).2.2) a0 a1 ((((f_Mo_throwing ar sc 1 1 1).2.2) 1) + (((f_Mo_throwing ar sc 1 1 1).2.1) 4 ((f_Mo_classOf ((f_Mo_throwing ar sc 1 1 1).2.1) ((f_Mo_throwing ar sc 1 1 1).2.2) a0).toNatClampNeg)))).1, (f_Mo_add ((f_Mo_throwing ar sc 1 1 1).2.1) ((f_Mo_throwing ar sc 1 1 1).2.2) a0 a1 ((((f_Mo_throwing ar sc 1 1 1).2.2) 1) + (((f_Mo_throwing ar sc 1 1 1).2.1) 4 ((f_Mo_classOf ((f_Mo_throwing ar sc 1 1 1).2.1) ((f_Mo_throwing ar sc 1 1 1).2.2) a0).toNatClampNeg)))).2) : Int32 × (Nat → Nat → Int32) × (Nat → Int32)) = f_Mo_finding ar sc a0 a1 a2 := by rw [f_Mo_finding, if_pos c6, if_pos c21, if_pos c46, if_pos c57, if_neg c70]
            exact W.iret (v := (((f_Mo_add ((f_Mo_throwing ar sc 1 1 1).2.1) ((f_Mo_throwing ar sc 1 1 1).2.2) a0 a1 ((((f_Mo_throwing ar sc 1 1 1).2.2) 1) + (((f_Mo_throwing ar sc 1 1 1).2.1) 4 ((f_Mo_classOf ((f_Mo_throwing ar sc 1 1 1).2.1) ((f_Mo_throwing ar sc 1 1 1).2.2) a0).toNatClampNeg)))).2) 3) - 1) hx hb hr (fun t ht hW => ⟨⟨(((f_Mo_add ((f_Mo_throwing ar sc 1 1 1).2.1) ((f_Mo_throwing ar sc 1 1 1).2.2) a0 a1 ((((f_Mo_throwing ar sc 1 1 1).2.2) 1) + (((f_Mo_throwing ar sc 1 1 1).2.1) 4 ((f_Mo_classOf ((f_Mo_throwing ar sc 1 1 1).2.1) ((f_Mo_throwing ar sc 1 1 1).2.2) a0).toNatClampNeg)))).2) 3) - 1, ((f_Mo_add ((f_Mo_throwing ar sc 1 1 1).2.1) ((f_Mo_throwing ar sc 1 1 1).2.2) a0 a1 ((((f_Mo_throwing ar sc 1 1 1).2.2) 1) + (((f_Mo_throwing ar sc 1 1 1).2.1) 4 ((f_Mo_classOf ((f_Mo_throwing ar sc 1 1 1).2.1) ((f_Mo_throwing ar sc 1 1 1).2.2) a0).toNatClampNeg)))).1, (f_Mo_add ((f_Mo_throwing ar sc 1 1 1).2.1) ((f_Mo_throwing ar sc 1 1 1).2.2) a0 a1 ((((f_Mo_throwing ar sc 1 1 1).2.2) 1) + (((f_Mo_throwing ar sc 1 1 1).2.1) 4 ((f_Mo_classOf ((f_Mo_throwing ar sc 1 1 1).2.1) ((f_Mo_throwing ar sc 1 1 1).2.2) a0).toNatClampNeg)))).2), rfl, hv, by dsimp only; rw [ht]; exact hP⟩, hS.F ht⟩) hS.2.2 d_Mo_finding_97
        · have h := h.2 c57
          refine lv_iconst (v := 0) hx hb d_Mo_finding_60 (by decide) ?_
          have hv : ((0, (f_Mo_throwing ar sc 1 1 1).2.1, (f_Mo_throwing ar sc 1 1 1).2.2) : Int32 × (Nat → Nat → Int32) × (Nat → Int32)) = f_Mo_finding ar sc a0 a1 a2 := by rw [f_Mo_finding, if_pos c6, if_pos c21, if_pos c46, if_neg c57]
          exact W.iret (v := 0) hx hb hr (fun t ht hW => ⟨⟨0, ((f_Mo_throwing ar sc 1 1 1).2.1, (f_Mo_throwing ar sc 1 1 1).2.2), rfl, hv, by dsimp only; rw [ht]; exact hP⟩, hS.F ht⟩) hS.2.2 d_Mo_finding_61
    · have h := h.2 c21
      refine lv_iload_n hx hb d_Mo_finding_24 rfl (lv_at hl 3 rfl) ?_
      refine lv_iconst (v := (-1)) hx hb d_Mo_finding_25 (by decide) ?_
      refine lv_sipush (v := 1000) hx hb d_Mo_finding_26 (by decide) ?_
      refine r_Mo_in hF m_195 hl.1 ⟨Nat.le_of_ble_eq_true rfl, Nat.le_of_ble_eq_true rfl⟩ ⟨Nat.zero_le _, Nat.zero_le _⟩ (Nat.le_of_ble_eq_true rfl) d_Mo_finding_29 ?_
      refine lv_if_ne (tgt := 39) hx hb d_Mo_finding_32 (by decide) (fun c32 => ?_) (fun c32 => ?_)
      · have h := h.2 c32
        refine lv_iconst (v := 0) hx hb d_Mo_finding_39 (by decide) ?_
        refine lv_aload_n hx hb d_Mo_finding_40 rfl (lv_at hl 0 rfl) ?_
        refine gf_Mo_findings hF hK hP m_205 d_Mo_finding_41 ?_
        refine lv_bipush (v := 100) hx hb d_Mo_finding_44 (by decide) ?_
        refine lv_icmp_ne (tgt := 53) hx hb d_Mo_finding_46 (by decide) (fun c46 => ?_) (fun c46 => ?_)
        · have h := h.2 c46
          refine lv_iconst (v := 0) hx hb d_Mo_finding_53 (by decide) ?_
          refine r_Mo_throwing hF hK hP hL hS m_283 hl.1 ⟨Nat.le_of_ble_eq_true rfl, Nat.le_of_ble_eq_true rfl⟩ ⟨Nat.zero_le _, Nat.zero_le _⟩ (Nat.le_of_ble_eq_true rfl) d_Mo_finding_54 (fun H locs hP hS => ?_)
          refine lv_if_eq (tgt := 62) hx hb d_Mo_finding_57 (by decide) (fun c57 => ?_) (fun c57 => ?_)
          · have h := h.1 c57
            refine lv_aload_n hx hb d_Mo_finding_62 rfl (lv_at hl 0 rfl) ?_
            refine lv_iload_n hx hb d_Mo_finding_63 rfl (lv_at hl 1 rfl) ?_
            refine lv_iload_n hx hb d_Mo_finding_64 rfl (lv_at hl 2 rfl) ?_
            refine lv_aload_n hx hb d_Mo_finding_65 rfl (lv_at hl 0 rfl) ?_
            refine gf_Mo_day hF hK hP m_200 d_Mo_finding_66 ?_
            refine lv_iload_n hx hb d_Mo_finding_69 rfl (lv_at hl 3 rfl) ?_
            refine lv_if_ge (tgt := 86) hx hb d_Mo_finding_70 (by decide) (fun c70 => ?_) (fun c70 => ?_)
            · have h := h.1 c70
              refine lv_iload_n hx hb d_Mo_finding_86 rfl (lv_at hl 3 rfl) ?_
              refine lv_iadd hx hb d_Mo_finding_87 ?_
              have k88 := h
              refine r_Mo_add hF hK hP hL hS k88 m_236 hl.1 ⟨Nat.le_of_ble_eq_true rfl, Nat.le_of_ble_eq_true rfl⟩ ⟨Nat.zero_le _, Nat.zero_le _⟩ (Nat.le_of_ble_eq_true rfl) d_Mo_finding_88 (fun H locs hP hS => ?_)
              refine lv_aload_n hx hb d_Mo_finding_91 rfl (lv_at hl 0 rfl) ?_
              refine gf_Mo_findings hF hK hP m_205 d_Mo_finding_92 ?_
              refine lv_iconst (v := 1) hx hb d_Mo_finding_95 (by decide) ?_
              refine lv_isub hx hb d_Mo_finding_96 ?_
              have hv : (((((f_Mo_add ((f_Mo_throwing ar sc 1 0 0).2.1) ((f_Mo_throwing ar sc 1 0 0).2.2) a0 a1 ((((f_Mo_throwing ar sc 1 0 0).2.2) 1) + a2)).2) 3) - 1, (f_Mo_add ((f_Mo_throwing ar sc 1 0 0).2.1) ((f_Mo_throwing ar sc 1 0 0).2.2) a0 a1 ((((f_Mo_throwing ar sc 1 0 0).2.2) 1) + a2)).1, (f_Mo_add ((f_Mo_throwing ar sc 1 0 0).2.1) ((f_Mo_throwing ar sc 1 0 0).2.2) a0 a1 ((((f_Mo_throwing ar sc 1 0 0).2.2) 1) + a2)).2) : Int32 × (Nat → Nat → Int32) × (Nat → Int32)) = f_Mo_finding ar sc a0 a1 a2 := by rw [f_Mo_finding, if_pos c6, if_neg c21, if_neg c32, if_neg c46, if_pos c57, if_pos c70]
              exact W.iret (v := (((f_Mo_add ((f_Mo_throwing ar sc 1 0 0).2.1) ((f_Mo_throwing ar sc 1 0 0).2.2) a0 a1 ((((f_Mo_throwing ar sc 1 0 0).2.2) 1) + a2)).2) 3) - 1) hx hb hr (fun t ht hW => ⟨⟨(((f_Mo_add ((f_Mo_throwing ar sc 1 0 0).2.1) ((f_Mo_throwing ar sc 1 0 0).2.2) a0 a1 ((((f_Mo_throwing ar sc 1 0 0).2.2) 1) + a2)).2) 3) - 1, ((f_Mo_add ((f_Mo_throwing ar sc 1 0 0).2.1) ((f_Mo_throwing ar sc 1 0 0).2.2) a0 a1 ((((f_Mo_throwing ar sc 1 0 0).2.2) 1) + a2)).1, (f_Mo_add ((f_Mo_throwing ar sc 1 0 0).2.1) ((f_Mo_throwing ar sc 1 0 0).2.2) a0 a1 ((((f_Mo_throwing ar sc 1 0 0).2.2) 1) + a2)).2), rfl, hv, by dsimp only; rw [ht]; exact hP⟩, hS.F ht⟩) hS.2.2 d_Mo_finding_97
            · have h := h.2 c70
              refine lv_aload_n hx hb d_Mo_finding_73 rfl (lv_at hl 0 rfl) ?_
              refine gf_Mo_time hF hK hP m_291 d_Mo_finding_74 ?_
              refine lv_aload_n hx hb d_Mo_finding_77 rfl (lv_at hl 0 rfl) ?_
              refine lv_iload_n hx hb d_Mo_finding_78 rfl (lv_at hl 1 rfl) ?_
              have k79 := h.1
              have h := h.2
              refine r_Mo_classOf hF hK hP k79 m_226 hl.1 ⟨Nat.le_of_ble_eq_true rfl, Nat.le_of_ble_eq_true rfl⟩ ⟨Nat.zero_le _, Nat.zero_le _⟩ (Nat.le_of_ble_eq_true rfl) d_Mo_finding_79 ?_
              have k82 := h.1
              have h := h.2
              refine alM_4 hF hK hP k82 d_Mo_finding_82 ?_
              refine lv_goto (tgt := 87) hx hb d_Mo_finding_83 (by decide) ?_
              refine lv_iadd hx hb d_Mo_finding_87 ?_
              have k88 := h
              refine r_Mo_add hF hK hP hL hS k88 m_236 hl.1 ⟨Nat.le_of_ble_eq_true rfl, Nat.le_of_ble_eq_true rfl⟩ ⟨Nat.zero_le _, Nat.zero_le _⟩ (Nat.le_of_ble_eq_true rfl) d_Mo_finding_88 (fun H locs hP hS => ?_)
              refine lv_aload_n hx hb d_Mo_finding_91 rfl (lv_at hl 0 rfl) ?_
              refine gf_Mo_findings hF hK hP m_205 d_Mo_finding_92 ?_
              refine lv_iconst (v := 1) hx hb d_Mo_finding_95 (by decide) ?_
              refine lv_isub hx hb d_Mo_finding_96 ?_
              have hv : (((((f_Mo_add ((f_Mo_throwing ar sc 1 0 0).2.1) ((f_Mo_throwing ar sc 1 0 0).2.2) a0 a1 ((((f_Mo_throwing ar sc 1 0 0).2.2) 1) + (((f_Mo_throwing ar sc 1 0 0).2.1) 4 ((f_Mo_classOf ((f_Mo_throwing ar sc 1 0 0).2.1) ((f_Mo_throwing ar sc 1 0 0).2.2) a0).toNatClampNeg)))).2) 3) - 1, (f_Mo_add ((f_Mo_throwing ar sc 1 0 0).2.1) ((f_Mo_throwing ar sc 1 0 0).2.2) a0 a1 ((((f_Mo_throwing ar sc 1 0 0).2.2) 1) + (((f_Mo_throwing ar sc 1 0 0).2.1) 4 ((f_Mo_classOf ((f_Mo_throwing ar sc 1 0 0).2.1) ((f_Mo_throwing ar sc 1 0 0).2.2) a0).toNatClampNeg)))).1, (f_Mo_add ((f_Mo_throwing ar sc 1 0 0).2.1) ((f_Mo_throwing ar sc 1 0 0).2.2) a0 a1 ((((f_Mo_throwing ar sc 1 0 0).2.2) 1) + (((f_Mo_throwing ar sc 1 0 0).2.1) 4 ((f_Mo_classOf ((f_Mo_throwing ar sc 1 0 0).2.1) ((f_Mo_throwing ar sc 1 0 0).2.2) a0).toNatClampNeg)))).2) : Int32 × (Nat → Nat → Int32) × (Nat → Int32)) = f_Mo_finding ar sc a0 a1 a2 := by rw [f_Mo_finding, if_pos c6, if_neg c21, if_neg c32, if_neg c46, if_pos c57, if_neg c70]
              exact W.iret (v := (((f_Mo_add ((f_Mo_throwing ar sc 1 0 0).2.1) ((f_Mo_throwing ar sc 1 0 0).2.2) a0 a1 ((((f_Mo_throwing ar sc 1 0 0).2.2) 1) + (((f_Mo_throwing ar sc 1 0 0).2.1) 4 ((f_Mo_classOf ((f_Mo_throwing ar sc 1 0 0).2.1) ((f_Mo_throwing ar sc 1 0 0).2.2) a0).toNatClampNeg)))).2) 3) - 1) hx hb hr (fun t ht hW => ⟨⟨(((f_Mo_add ((f_Mo_throwing ar sc 1 0 0).2.1) ((f_Mo_throwing ar sc 1 0 0).2.2) a0 a1 ((((f_Mo_throwing ar sc 1 0 0).2.2) 1) + (((f_Mo_throwing ar sc 1 0 0).2.1) 4 ((f_Mo_classOf ((f_Mo_throwing ar sc 1 0 0).2.1) ((f_Mo_throwing ar sc 1 0 0).2.2) a0).toNatClampNeg)))).2) 3) - 1, ((f_Mo_add ((f_Mo_throwing ar sc 1 0 0).2.1) ((f_Mo_throwing ar sc 1 0 0).2.2) a0 a1 ((((f_Mo_throwing ar sc 1 0 0).2.2) 1) + (((f_Mo_throwing ar sc 1 0 0).2.1) 4 ((f_Mo_classOf ((f_Mo_throwing ar sc 1 0 0).2.1) ((f_Mo_throwing ar sc 1 0 0).2.2) a0).toNatClampNeg)))).1, (f_Mo_add ((f_Mo_throwing ar sc 1 0 0).2.1) ((f_Mo_throwing ar sc 1 0 0).2.2) a0 a1 ((((f_Mo_throwing ar sc 1 0 0).2.2) 1) + (((f_Mo_throwing ar sc 1 0 0).2.1) 4 ((f_Mo_classOf ((f_Mo_throwing ar sc 1 0 0).2.1) ((f_Mo_throwing ar sc 1 0 0).2.2) a0).toNatClampNeg)))).2), rfl, hv, by dsimp only; rw [ht]; exact hP⟩, hS.F ht⟩) hS.2.2 d_Mo_finding_97
          · have h := h.2 c57
            refine lv_iconst (v := 0) hx hb d_Mo_finding_60 (by decide) ?_
            have hv : ((0, (f_Mo_throwing ar sc 1 0 0).2.1, (f_Mo_throwing ar sc 1 0 0).2.2) : Int32 × (Nat → Nat → Int32) × (Nat → Int32)) = f_Mo_finding ar sc a0 a1 a2 := by rw [f_Mo_finding, if_pos c6, if_neg c21, if_neg c32, if_neg c46, if_neg c57]
            exact W.iret (v := 0) hx hb hr (fun t ht hW => ⟨⟨0, ((f_Mo_throwing ar sc 1 0 0).2.1, (f_Mo_throwing ar sc 1 0 0).2.2), rfl, hv, by dsimp only; rw [ht]; exact hP⟩, hS.F ht⟩) hS.2.2 d_Mo_finding_61
        · have h := h.1 c46
          refine lv_iconst (v := 1) hx hb d_Mo_finding_49 (by decide) ?_
          refine lv_goto (tgt := 54) hx hb d_Mo_finding_50 (by decide) ?_
          refine r_Mo_throwing hF hK hP hL hS m_283 hl.1 ⟨Nat.le_of_ble_eq_true rfl, Nat.le_of_ble_eq_true rfl⟩ ⟨Nat.zero_le _, Nat.zero_le _⟩ (Nat.le_of_ble_eq_true rfl) d_Mo_finding_54 (fun H locs hP hS => ?_)
          refine lv_if_eq (tgt := 62) hx hb d_Mo_finding_57 (by decide) (fun c57 => ?_) (fun c57 => ?_)
          · have h := h.1 c57
            refine lv_aload_n hx hb d_Mo_finding_62 rfl (lv_at hl 0 rfl) ?_
            refine lv_iload_n hx hb d_Mo_finding_63 rfl (lv_at hl 1 rfl) ?_
            refine lv_iload_n hx hb d_Mo_finding_64 rfl (lv_at hl 2 rfl) ?_
            refine lv_aload_n hx hb d_Mo_finding_65 rfl (lv_at hl 0 rfl) ?_
            refine gf_Mo_day hF hK hP m_200 d_Mo_finding_66 ?_
            refine lv_iload_n hx hb d_Mo_finding_69 rfl (lv_at hl 3 rfl) ?_
            refine lv_if_ge (tgt := 86) hx hb d_Mo_finding_70 (by decide) (fun c70 => ?_) (fun c70 => ?_)
            · have h := h.1 c70
              refine lv_iload_n hx hb d_Mo_finding_86 rfl (lv_at hl 3 rfl) ?_
              refine lv_iadd hx hb d_Mo_finding_87 ?_
              have k88 := h
              refine r_Mo_add hF hK hP hL hS k88 m_236 hl.1 ⟨Nat.le_of_ble_eq_true rfl, Nat.le_of_ble_eq_true rfl⟩ ⟨Nat.zero_le _, Nat.zero_le _⟩ (Nat.le_of_ble_eq_true rfl) d_Mo_finding_88 (fun H locs hP hS => ?_)
              refine lv_aload_n hx hb d_Mo_finding_91 rfl (lv_at hl 0 rfl) ?_
              refine gf_Mo_findings hF hK hP m_205 d_Mo_finding_92 ?_
              refine lv_iconst (v := 1) hx hb d_Mo_finding_95 (by decide) ?_
              refine lv_isub hx hb d_Mo_finding_96 ?_
              have hv : (((((f_Mo_add ((f_Mo_throwing ar sc 1 0 1).2.1) ((f_Mo_throwing ar sc 1 0 1).2.2) a0 a1 ((((f_Mo_throwing ar sc 1 0 1).2.2) 1) + a2)).2) 3) - 1, (f_Mo_add ((f_Mo_throwing ar sc 1 0 1).2.1) ((f_Mo_throwing ar sc 1 0 1).2.2) a0 a1 ((((f_Mo_throwing ar sc 1 0 1).2.2) 1) + a2)).1, (f_Mo_add ((f_Mo_throwing ar sc 1 0 1).2.1) ((f_Mo_throwing ar sc 1 0 1).2.2) a0 a1 ((((f_Mo_throwing ar sc 1 0 1).2.2) 1) + a2)).2) : Int32 × (Nat → Nat → Int32) × (Nat → Int32)) = f_Mo_finding ar sc a0 a1 a2 := by rw [f_Mo_finding, if_pos c6, if_neg c21, if_neg c32, if_pos c46, if_pos c57, if_pos c70]
              exact W.iret (v := (((f_Mo_add ((f_Mo_throwing ar sc 1 0 1).2.1) ((f_Mo_throwing ar sc 1 0 1).2.2) a0 a1 ((((f_Mo_throwing ar sc 1 0 1).2.2) 1) + a2)).2) 3) - 1) hx hb hr (fun t ht hW => ⟨⟨(((f_Mo_add ((f_Mo_throwing ar sc 1 0 1).2.1) ((f_Mo_throwing ar sc 1 0 1).2.2) a0 a1 ((((f_Mo_throwing ar sc 1 0 1).2.2) 1) + a2)).2) 3) - 1, ((f_Mo_add ((f_Mo_throwing ar sc 1 0 1).2.1) ((f_Mo_throwing ar sc 1 0 1).2.2) a0 a1 ((((f_Mo_throwing ar sc 1 0 1).2.2) 1) + a2)).1, (f_Mo_add ((f_Mo_throwing ar sc 1 0 1).2.1) ((f_Mo_throwing ar sc 1 0 1).2.2) a0 a1 ((((f_Mo_throwing ar sc 1 0 1).2.2) 1) + a2)).2), rfl, hv, by dsimp only; rw [ht]; exact hP⟩, hS.F ht⟩) hS.2.2 d_Mo_finding_97
            · have h := h.2 c70
              refine lv_aload_n hx hb d_Mo_finding_73 rfl (lv_at hl 0 rfl) ?_
              refine gf_Mo_time hF hK hP m_291 d_Mo_finding_74 ?_
              refine lv_aload_n hx hb d_Mo_finding_77 rfl (lv_at hl 0 rfl) ?_
              refine lv_iload_n hx hb d_Mo_finding_78 rfl (lv_at hl 1 rfl) ?_
              have k79 := h.1
              have h := h.2
              refine r_Mo_classOf hF hK hP k79 m_226 hl.1 ⟨Nat.le_of_ble_eq_true rfl, Nat.le_of_ble_eq_true rfl⟩ ⟨Nat.zero_le _, Nat.zero_le _⟩ (Nat.le_of_ble_eq_true rfl) d_Mo_finding_79 ?_
              have k82 := h.1
              have h := h.2
              refine alM_4 hF hK hP k82 d_Mo_finding_82 ?_
              refine lv_goto (tgt := 87) hx hb d_Mo_finding_83 (by decide) ?_
              refine lv_iadd hx hb d_Mo_finding_87 ?_
              have k88 := h
              refine r_Mo_add hF hK hP hL hS k88 m_236 hl.1 ⟨Nat.le_of_ble_eq_true rfl, Nat.le_of_ble_eq_true rfl⟩ ⟨Nat.zero_le _, Nat.zero_le _⟩ (Nat.le_of_ble_eq_true rfl) d_Mo_finding_88 (fun H locs hP hS => ?_)
              refine lv_aload_n hx hb d_Mo_finding_91 rfl (lv_at hl 0 rfl) ?_
              refine gf_Mo_findings hF hK hP m_205 d_Mo_finding_92 ?_
              refine lv_iconst (v := 1) hx hb d_Mo_finding_95 (by decide) ?_
              refine lv_isub hx hb d_Mo_finding_96 ?_
              have hv : (((((f_Mo_add ((f_Mo_throwing ar sc 1 0 1).2.1) ((f_Mo_throwing ar sc 1 0 1).2.2) a0 a1 ((((f_Mo_throwing ar sc 1 0 1).2.2) 1) + (((f_Mo_throwing ar sc 1 0 1).2.1) 4 ((f_Mo_classOf ((f_Mo_throwing ar sc 1 0 1).2.1) ((f_Mo_throwing ar sc 1 0 1).2.2) a0).toNatClampNeg)))).2) 3) - 1, (f_Mo_add ((f_Mo_throwing ar sc 1 0 1).2.1) ((f_Mo_throwing ar sc 1 0 1).2.2) a0 a1 ((((f_Mo_throwing ar sc 1 0 1).2.2) 1) + (((f_Mo_throwing ar sc 1 0 1).2.1) 4 ((f_Mo_classOf ((f_Mo_throwing ar sc 1 0 1).2.1) ((f_Mo_throwing ar sc 1 0 1).2.2) a0).toNatClampNeg)))).1, (f_Mo_add ((f_Mo_throwing ar sc 1 0 1).2.1) ((f_Mo_throwing ar sc 1 0 1).2.2) a0 a1 ((((f_Mo_throwing ar sc 1 0 1).2.2) 1) + (((f_Mo_throwing ar sc 1 0 1).2.1) 4 ((f_Mo_classOf ((f_Mo_throwing ar sc 1 0 1).2.1) ((f_Mo_throwing ar sc 1 0 1).2.2) a0).toNatClampNeg)))).2) : Int32 × (Nat → Nat → Int32) × (Nat → Int32)) = f_Mo_finding ar sc a0 a1 a2 := by rw [f_Mo_finding, if_pos c6, if_neg c21, if_neg c32, if_pos c46, if_pos c57, if_neg c70]
              exact W.iret (v := (((f_Mo_add ((f_Mo_throwing ar sc 1 0 1).2.1) ((f_Mo_throwing ar sc 1 0 1).2.2) a0 a1 ((((f_Mo_throwing ar sc 1 0 1).2.2) 1) + (((f_Mo_throwing ar sc 1 0 1).2.1) 4 ((f_Mo_classOf ((f_Mo_throwing ar sc 1 0 1).2.1) ((f_Mo_throwing ar sc 1 0 1).2.2) a0).toNatClampNeg)))).2) 3) - 1) hx hb hr (fun t ht hW => ⟨⟨(((f_Mo_add ((f_Mo_throwing ar sc 1 0 1).2.1) ((f_Mo_throwing ar sc 1 0 1).2.2) a0 a1 ((((f_Mo_throwing ar sc 1 0 1).2.2) 1) + (((f_Mo_throwing ar sc 1 0 1).2.1) 4 ((f_Mo_classOf ((f_Mo_throwing ar sc 1 0 1).2.1) ((f_Mo_throwing ar sc 1 0 1).2.2) a0).toNatClampNeg)))).2) 3) - 1, ((f_Mo_add ((f_Mo_throwing ar sc 1 0 1).2.1) ((f_Mo_throwing ar sc 1 0 1).2.2) a0 a1 ((((f_Mo_throwing ar sc 1 0 1).2.2) 1) + (((f_Mo_throwing ar sc 1 0 1).2.1) 4 ((f_Mo_classOf ((f_Mo_throwing ar sc 1 0 1).2.1) ((f_Mo_throwing ar sc 1 0 1).2.2) a0).toNatClampNeg)))).1, (f_Mo_add ((f_Mo_throwing ar sc 1 0 1).2.1) ((f_Mo_throwing ar sc 1 0 1).2.2) a0 a1 ((((f_Mo_throwing ar sc 1 0 1).2.2) 1) + (((f_Mo_throwing ar sc 1 0 1).2.1) 4 ((f_Mo_classOf ((f_Mo_throwing ar sc 1 0 1).2.1) ((f_Mo_throwing ar sc 1 0 1).2.2) a0).toNatClampNeg)))).2), rfl, hv, by dsimp only; rw [ht]; exact hP⟩, hS.F ht⟩) hS.2.2 d_Mo_finding_97
          · have h := h.2 c57
            refine lv_iconst (v := 0) hx hb d_Mo_finding_60 (by decide) ?_
            have hv : ((0, (f_Mo_throwing ar sc 1 0 1).2.1, (f_Mo_throwing ar sc 1 0 1).2.2) : Int32 × (Nat → Nat → Int32) × (Nat → Int32)) = f_Mo_finding ar sc a0 a1 a2 := by rw [f_Mo_finding, if_pos c6, if_neg c21, if_neg c32, if_pos c46, if_neg c57]
            exact W.iret (v := 0) hx hb hr (fun t ht hW => ⟨⟨0, ((f_Mo_throwing ar sc 1 0 1).2.1, (f_Mo_throwing ar sc 1 0 1).2.2), rfl, hv, by dsimp only; rw [ht]; exact hP⟩, hS.F ht⟩) hS.2.2 d_Mo_finding_61
      · have h := h.1 c32
        refine lv_iconst (v := 1) hx hb d_Mo_finding_35 (by decide) ?_
        refine lv_goto (tgt := 40) hx hb d_Mo_finding_36 (by decide) ?_
        refine lv_aload_n hx hb d_Mo_finding_40 rfl (lv_at hl 0 rfl) ?_
        refine gf_Mo_findings hF hK hP m_205 d_Mo_finding_41 ?_
        refine lv_bipush (v := 100) hx hb d_Mo_finding_44 (by decide) ?_
        refine lv_icmp_ne (tgt := 53) hx hb d_Mo_finding_46 (by decide) (fun c46 => ?_) (fun c46 => ?_)
        · have h := h.2 c46
          refine lv_iconst (v := 0) hx hb d_Mo_finding_53 (by decide) ?_
          refine r_Mo_throwing hF hK hP hL hS m_283 hl.1 ⟨Nat.le_of_ble_eq_true rfl, Nat.le_of_ble_eq_true rfl⟩ ⟨Nat.zero_le _, Nat.zero_le _⟩ (Nat.le_of_ble_eq_true rfl) d_Mo_finding_54 (fun H locs hP hS => ?_)
          refine lv_if_eq (tgt := 62) hx hb d_Mo_finding_57 (by decide) (fun c57 => ?_) (fun c57 => ?_)
          · have h := h.1 c57
            refine lv_aload_n hx hb d_Mo_finding_62 rfl (lv_at hl 0 rfl) ?_
            refine lv_iload_n hx hb d_Mo_finding_63 rfl (lv_at hl 1 rfl) ?_
            refine lv_iload_n hx hb d_Mo_finding_64 rfl (lv_at hl 2 rfl) ?_
            refine lv_aload_n hx hb d_Mo_finding_65 rfl (lv_at hl 0 rfl) ?_
            refine gf_Mo_day hF hK hP m_200 d_Mo_finding_66 ?_
            refine lv_iload_n hx hb d_Mo_finding_69 rfl (lv_at hl 3 rfl) ?_
            refine lv_if_ge (tgt := 86) hx hb d_Mo_finding_70 (by decide) (fun c70 => ?_) (fun c70 => ?_)
            · have h := h.1 c70
              refine lv_iload_n hx hb d_Mo_finding_86 rfl (lv_at hl 3 rfl) ?_
              refine lv_iadd hx hb d_Mo_finding_87 ?_
              have k88 := h
              refine r_Mo_add hF hK hP hL hS k88 m_236 hl.1 ⟨Nat.le_of_ble_eq_true rfl, Nat.le_of_ble_eq_true rfl⟩ ⟨Nat.zero_le _, Nat.zero_le _⟩ (Nat.le_of_ble_eq_true rfl) d_Mo_finding_88 (fun H locs hP hS => ?_)
              refine lv_aload_n hx hb d_Mo_finding_91 rfl (lv_at hl 0 rfl) ?_
              refine gf_Mo_findings hF hK hP m_205 d_Mo_finding_92 ?_
              refine lv_iconst (v := 1) hx hb d_Mo_finding_95 (by decide) ?_
              refine lv_isub hx hb d_Mo_finding_96 ?_
              have hv : (((((f_Mo_add ((f_Mo_throwing ar sc 1 1 0).2.1) ((f_Mo_throwing ar sc 1 1 0).2.2) a0 a1 ((((f_Mo_throwing ar sc 1 1 0).2.2) 1) + a2)).2) 3) - 1, (f_Mo_add ((f_Mo_throwing ar sc 1 1 0).2.1) ((f_Mo_throwing ar sc 1 1 0).2.2) a0 a1 ((((f_Mo_throwing ar sc 1 1 0).2.2) 1) + a2)).1, (f_Mo_add ((f_Mo_throwing ar sc 1 1 0).2.1) ((f_Mo_throwing ar sc 1 1 0).2.2) a0 a1 ((((f_Mo_throwing ar sc 1 1 0).2.2) 1) + a2)).2) : Int32 × (Nat → Nat → Int32) × (Nat → Int32)) = f_Mo_finding ar sc a0 a1 a2 := by rw [f_Mo_finding, if_pos c6, if_neg c21, if_pos c32, if_neg c46, if_pos c57, if_pos c70]
              exact W.iret (v := (((f_Mo_add ((f_Mo_throwing ar sc 1 1 0).2.1) ((f_Mo_throwing ar sc 1 1 0).2.2) a0 a1 ((((f_Mo_throwing ar sc 1 1 0).2.2) 1) + a2)).2) 3) - 1) hx hb hr (fun t ht hW => ⟨⟨(((f_Mo_add ((f_Mo_throwing ar sc 1 1 0).2.1) ((f_Mo_throwing ar sc 1 1 0).2.2) a0 a1 ((((f_Mo_throwing ar sc 1 1 0).2.2) 1) + a2)).2) 3) - 1, ((f_Mo_add ((f_Mo_throwing ar sc 1 1 0).2.1) ((f_Mo_throwing ar sc 1 1 0).2.2) a0 a1 ((((f_Mo_throwing ar sc 1 1 0).2.2) 1) + a2)).1, (f_Mo_add ((f_Mo_throwing ar sc 1 1 0).2.1) ((f_Mo_throwing ar sc 1 1 0).2.2) a0 a1 ((((f_Mo_throwing ar sc 1 1 0).2.2) 1) + a2)).2), rfl, hv, by dsimp only; rw [ht]; exact hP⟩, hS.F ht⟩) hS.2.2 d_Mo_finding_97
            · have h := h.2 c70
              refine lv_aload_n hx hb d_Mo_finding_73 rfl (lv_at hl 0 rfl) ?_
              refine gf_Mo_time hF hK hP m_291 d_Mo_finding_74 ?_
              refine lv_aload_n hx hb d_Mo_finding_77 rfl (lv_at hl 0 rfl) ?_
              refine lv_iload_n hx hb d_Mo_finding_78 rfl (lv_at hl 1 rfl) ?_
              have k79 := h.1
              have h := h.2
              refine r_Mo_classOf hF hK hP k79 m_226 hl.1 ⟨Nat.le_of_ble_eq_true rfl, Nat.le_of_ble_eq_true rfl⟩ ⟨Nat.zero_le _, Nat.zero_le _⟩ (Nat.le_of_ble_eq_true rfl) d_Mo_finding_79 ?_
              have k82 := h.1
              have h := h.2
              refine alM_4 hF hK hP k82 d_Mo_finding_82 ?_
              refine lv_goto (tgt := 87) hx hb d_Mo_finding_83 (by decide) ?_
              refine lv_iadd hx hb d_Mo_finding_87 ?_
              have k88 := h
              refine r_Mo_add hF hK hP hL hS k88 m_236 hl.1 ⟨Nat.le_of_ble_eq_true rfl, Nat.le_of_ble_eq_true rfl⟩ ⟨Nat.zero_le _, Nat.zero_le _⟩ (Nat.le_of_ble_eq_true rfl) d_Mo_finding_88 (fun H locs hP hS => ?_)
              refine lv_aload_n hx hb d_Mo_finding_91 rfl (lv_at hl 0 rfl) ?_
              refine gf_Mo_findings hF hK hP m_205 d_Mo_finding_92 ?_
              refine lv_iconst (v := 1) hx hb d_Mo_finding_95 (by decide) ?_
              refine lv_isub hx hb d_Mo_finding_96 ?_
              have hv : (((((f_Mo_add ((f_Mo_throwing ar sc 1 1 0).2.1) ((f_Mo_throwing ar sc 1 1 0).2.2) a0 a1 ((((f_Mo_throwing ar sc 1 1 0).2.2) 1) + (((f_Mo_throwing ar sc 1 1 0).2.1) 4 ((f_Mo_classOf ((f_Mo_throwing ar sc 1 1 0).2.1) ((f_Mo_throwing ar sc 1 1 0).2.2) a0).toNatClampNeg)))).2) 3) - 1, (f_Mo_add ((f_Mo_throwing ar sc 1 1 0).2.1) ((f_Mo_throwing ar sc 1 1 0).2.2) a0 a1 ((((f_Mo_throwing ar sc 1 1 0).2.2) 1) + (((f_Mo_throwing ar sc 1 1 0).2.1) 4 ((f_Mo_classOf ((f_Mo_throwing ar sc 1 1 0).2.1) ((f_Mo_throwing ar sc 1 1 0).2.2) a0).toNatClampNeg)))).1, (f_Mo_add ((f_Mo_throwing ar sc 1 1 0).2.1) ((f_Mo_throwing ar sc 1 1 0).2.2) a0 a1 ((((f_Mo_throwing ar sc 1 1 0).2.2) 1) + (((f_Mo_throwing ar sc 1 1 0).2.1) 4 ((f_Mo_classOf ((f_Mo_throwing ar sc 1 1 0).2.1) ((f_Mo_throwing ar sc 1 1 0).2.2) a0).toNatClampNeg)))).2) : Int32 × (Nat → Nat → Int32) × (Nat → Int32)) = f_Mo_finding ar sc a0 a1 a2 := by rw [f_Mo_finding, if_pos c6, if_neg c21, if_pos c32, if_neg c46, if_pos c57, if_neg c70]
              exact W.iret (v := (((f_Mo_add ((f_Mo_throwing ar sc 1 1 0).2.1) ((f_Mo_throwing ar sc 1 1 0).2.2) a0 a1 ((((f_Mo_throwing ar sc 1 1 0).2.2) 1) + (((f_Mo_throwing ar sc 1 1 0).2.1) 4 ((f_Mo_classOf ((f_Mo_throwing ar sc 1 1 0).2.1) ((f_Mo_throwing ar sc 1 1 0).2.2) a0).toNatClampNeg)))).2) 3) - 1) hx hb hr (fun t ht hW => ⟨⟨(((f_Mo_add ((f_Mo_throwing ar sc 1 1 0).2.1) ((f_Mo_throwing ar sc 1 1 0).2.2) a0 a1 ((((f_Mo_throwing ar sc 1 1 0).2.2) 1) + (((f_Mo_throwing ar sc 1 1 0).2.1) 4 ((f_Mo_classOf ((f_Mo_throwing ar sc 1 1 0).2.1) ((f_Mo_throwing ar sc 1 1 0).2.2) a0).toNatClampNeg)))).2) 3) - 1, ((f_Mo_add ((f_Mo_throwing ar sc 1 1 0).2.1) ((f_Mo_throwing ar sc 1 1 0).2.2) a0 a1 ((((f_Mo_throwing ar sc 1 1 0).2.2) 1) + (((f_Mo_throwing ar sc 1 1 0).2.1) 4 ((f_Mo_classOf ((f_Mo_throwing ar sc 1 1 0).2.1) ((f_Mo_throwing ar sc 1 1 0).2.2) a0).toNatClampNeg)))).1, (f_Mo_add ((f_Mo_throwing ar sc 1 1 0).2.1) ((f_Mo_throwing ar sc 1 1 0).2.2) a0 a1 ((((f_Mo_throwing ar sc 1 1 0).2.2) 1) + (((f_Mo_throwing ar sc 1 1 0).2.1) 4 ((f_Mo_classOf ((f_Mo_throwing ar sc 1 1 0).2.1) ((f_Mo_throwing ar sc 1 1 0).2.2) a0).toNatClampNeg)))).2), rfl, hv, by dsimp only; rw [ht]; exact hP⟩, hS.F ht⟩) hS.2.2 d_Mo_finding_97
          · have h := h.2 c57
            refine lv_iconst (v := 0) hx hb d_Mo_finding_60 (by decide) ?_
            have hv : ((0, (f_Mo_throwing ar sc 1 1 0).2.1, (f_Mo_throwing ar sc 1 1 0).2.2) : Int32 × (Nat → Nat → Int32) × (Nat → Int32)) = f_Mo_finding ar sc a0 a1 a2 := by rw [f_Mo_finding, if_pos c6, if_neg c21, if_pos c32, if_neg c46, if_neg c57]
            exact W.iret (v := 0) hx hb hr (fun t ht hW => ⟨⟨0, ((f_Mo_throwing ar sc 1 1 0).2.1, (f_Mo_throwing ar sc 1 1 0).2.2), rfl, hv, by dsimp only; rw [ht]; exact hP⟩, hS.F ht⟩) hS.2.2 d_Mo_finding_61
        · have h := h.1 c46
          refine lv_iconst (v := 1) hx hb d_Mo_finding_49 (by decide) ?_
          refine lv_goto (tgt := 54) hx hb d_Mo_finding_50 (by decide) ?_
          refine r_Mo_throwing hF hK hP hL hS m_283 hl.1 ⟨Nat.le_of_ble_eq_true rfl, Nat.le_of_ble_eq_true rfl⟩ ⟨Nat.zero_le _, Nat.zero_le _⟩ (Nat.le_of_ble_eq_true rfl) d_Mo_finding_54 (fun H locs hP hS => ?_)
          refine lv_if_eq (tgt := 62) hx hb d_Mo_finding_57 (by decide) (fun c57 => ?_) (fun c57 => ?_)
          · have h := h.1 c57
            refine lv_aload_n hx hb d_Mo_finding_62 rfl (lv_at hl 0 rfl) ?_
            refine lv_iload_n hx hb d_Mo_finding_63 rfl (lv_at hl 1 rfl) ?_
            refine lv_iload_n hx hb d_Mo_finding_64 rfl (lv_at hl 2 rfl) ?_
            refine lv_aload_n hx hb d_Mo_finding_65 rfl (lv_at hl 0 rfl) ?_
            refine gf_Mo_day hF hK hP m_200 d_Mo_finding_66 ?_
            refine lv_iload_n hx hb d_Mo_finding_69 rfl (lv_at hl 3 rfl) ?_
            refine lv_if_ge (tgt := 86) hx hb d_Mo_finding_70 (by decide) (fun c70 => ?_) (fun c70 => ?_)
            · have h := h.1 c70
              refine lv_iload_n hx hb d_Mo_finding_86 rfl (lv_at hl 3 rfl) ?_
              refine lv_iadd hx hb d_Mo_finding_87 ?_
              have k88 := h
              refine r_Mo_add hF hK hP hL hS k88 m_236 hl.1 ⟨Nat.le_of_ble_eq_true rfl, Nat.le_of_ble_eq_true rfl⟩ ⟨Nat.zero_le _, Nat.zero_le _⟩ (Nat.le_of_ble_eq_true rfl) d_Mo_finding_88 (fun H locs hP hS => ?_)
              refine lv_aload_n hx hb d_Mo_finding_91 rfl (lv_at hl 0 rfl) ?_
              refine gf_Mo_findings hF hK hP m_205 d_Mo_finding_92 ?_
              refine lv_iconst (v := 1) hx hb d_Mo_finding_95 (by decide) ?_
              refine lv_isub hx hb d_Mo_finding_96 ?_
              have hv : (((((f_Mo_add ((f_Mo_throwing ar sc 1 1 1).2.1) ((f_Mo_throwing ar sc 1 1 1).2.2) a0 a1 ((((f_Mo_throwing ar sc 1 1 1).2.2) 1) + a2)).2) 3) - 1, (f_Mo_add ((f_Mo_throwing ar sc 1 1 1).2.1) ((f_Mo_throwing ar sc 1 1 1).2.2) a0 a1 ((((f_Mo_throwing ar sc 1 1 1).2.2) 1) + a2)).1, (f_Mo_add ((f_Mo_throwing ar sc 1 1 1).2.1) ((f_Mo_throwing ar sc 1 1 1).2.2) a0 a1 ((((f_Mo_throwing ar sc 1 1 1).2.2) 1) + a2)).2) : Int32 × (Nat → Nat → Int32) × (Nat → Int32)) = f_Mo_finding ar sc a0 a1 a2 := by rw [f_Mo_finding, if_pos c6, if_neg c21, if_pos c32, if_pos c46, if_pos c57, if_pos c70]
              exact W.iret (v := (((f_Mo_add ((f_Mo_throwing ar sc 1 1 1).2.1) ((f_Mo_throwing ar sc 1 1 1).2.2) a0 a1 ((((f_Mo_throwing ar sc 1 1 1).2.2) 1) + a2)).2) 3) - 1) hx hb hr (fun t ht hW => ⟨⟨(((f_Mo_add ((f_Mo_throwing ar sc 1 1 1).2.1) ((f_Mo_throwing ar sc 1 1 1).2.2) a0 a1 ((((f_Mo_throwing ar sc 1 1 1).2.2) 1) + a2)).2) 3) - 1, ((f_Mo_add ((f_Mo_throwing ar sc 1 1 1).2.1) ((f_Mo_throwing ar sc 1 1 1).2.2) a0 a1 ((((f_Mo_throwing ar sc 1 1 1).2.2) 1) + a2)).1, (f_Mo_add ((f_Mo_throwing ar sc 1 1 1).2.1) ((f_Mo_throwing ar sc 1 1 1).2.2) a0 a1 ((((f_Mo_throwing ar sc 1 1 1).2.2) 1) + a2)).2), rfl, hv, by dsimp only; rw [ht]; exact hP⟩, hS.F ht⟩) hS.2.2 d_Mo_finding_97
            · have h := h.2 c70
              refine lv_aload_n hx hb d_Mo_finding_73 rfl (lv_at hl 0 rfl) ?_
              refine gf_Mo_time hF hK hP m_291 d_Mo_finding_74 ?_
              refine lv_aload_n hx hb d_Mo_finding_77 rfl (lv_at hl 0 rfl) ?_
              refine lv_iload_n hx hb d_Mo_finding_78 rfl (lv_at hl 1 rfl) ?_
              have k79 := h.1
              have h := h.2
              refine r_Mo_classOf hF hK hP k79 m_226 hl.1 ⟨Nat.le_of_ble_eq_true rfl, Nat.le_of_ble_eq_true rfl⟩ ⟨Nat.zero_le _, Nat.zero_le _⟩ (Nat.le_of_ble_eq_true rfl) d_Mo_finding_79 ?_
              have k82 := h.1
              have h := h.2
              refine alM_4 hF hK hP k82 d_Mo_finding_82 ?_
              refine lv_goto (tgt := 87) hx hb d_Mo_finding_83 (by decide) ?_
              refine lv_iadd hx hb d_Mo_finding_87 ?_
              have k88 := h
              refine r_Mo_add hF hK hP hL hS k88 m_236 hl.1 ⟨Nat.le_of_ble_eq_true rfl, Nat.le_of_ble_eq_true rfl⟩ ⟨Nat.zero_le _, Nat.zero_le _⟩ (Nat.le_of_ble_eq_true rfl) d_Mo_finding_88 (fun H locs hP hS => ?_)
              refine lv_aload_n hx hb d_Mo_finding_91 rfl (lv_at hl 0 rfl) ?_
              refine gf_Mo_findings hF hK hP m_205 d_Mo_finding_92 ?_
              refine lv_iconst (v := 1) hx hb d_Mo_finding_95 (by decide) ?_
              refine lv_isub hx hb d_Mo_finding_96 ?_
              have hv : (((((f_Mo_add ((f_Mo_throwing ar sc 1 1 1).2.1) ((f_Mo_throwing ar sc 1 1 1).2.2) a0 a1 ((((f_Mo_throwing ar sc 1 1 1).2.2) 1) + (((f_Mo_throwing ar sc 1 1 1).2.1) 4 ((f_Mo_classOf ((f_Mo_throwing ar sc 1 1 1).2.1) ((f_Mo_throwing ar sc 1 1 1).2.2) a0).toNatClampNeg)))).2) 3) - 1, (f_Mo_add ((f_Mo_throwing ar sc 1 1 1).2.1) ((f_Mo_throwing ar sc 1 1 1).2.2) a0 a1 ((((f_Mo_throwing ar sc 1 1 1).2.2) 1) + (((f_Mo_throwing ar sc 1 1 1).2.1) 4 ((f_Mo_classOf ((f_Mo_throwing ar sc 1 1 1).2.1) ((f_Mo_throwing ar sc 1 1 1).2.2) a0).toNatClampNeg)))).1, (f_Mo_add ((f_Mo_throwing ar sc 1 1 1).2.1) ((f_Mo_throwing ar sc 1 1 1).2.2) a0 a1 ((((f_Mo_throwing ar sc 1 1 1).2.2) 1) + (((f_Mo_throwing ar sc 1 1 1).2.1) 4 ((f_Mo_classOf ((f_Mo_throwing ar sc 1 1 1).2.1) ((f_Mo_throwing ar sc 1 1 1).2.2) a0).toNatClampNeg)))).2) : Int32 × (Nat → Nat → Int32) × (Nat → Int32)) = f_Mo_finding ar sc a0 a1 a2 := by rw [f_Mo_finding, if_pos c6, if_neg c21, if_pos c32, if_pos c46, if_pos c57, if_neg c70]
              exact W.iret (v := (((f_Mo_add ((f_Mo_throwing ar sc 1 1 1).2.1) ((f_Mo_throwing ar sc 1 1 1).2.2) a0 a1 ((((f_Mo_throwing ar sc 1 1 1).2.2) 1) + (((f_Mo_throwing ar sc 1 1 1).2.1) 4 ((f_Mo_classOf ((f_Mo_throwing ar sc 1 1 1).2.1) ((f_Mo_throwing ar sc 1 1 1).2.2) a0).toNatClampNeg)))).2) 3) - 1) hx hb hr (fun t ht hW => ⟨⟨(((f_Mo_add ((f_Mo_throwing ar sc 1 1 1).2.1) ((f_Mo_throwing ar sc 1 1 1).2.2) a0 a1 ((((f_Mo_throwing ar sc 1 1 1).2.2) 1) + (((f_Mo_throwing ar sc 1 1 1).2.1) 4 ((f_Mo_classOf ((f_Mo_throwing ar sc 1 1 1).2.1) ((f_Mo_throwing ar sc 1 1 1).2.2) a0).toNatClampNeg)))).2) 3) - 1, ((f_Mo_add ((f_Mo_throwing ar sc 1 1 1).2.1) ((f_Mo_throwing ar sc 1 1 1).2.2) a0 a1 ((((f_Mo_throwing ar sc 1 1 1).2.2) 1) + (((f_Mo_throwing ar sc 1 1 1).2.1) 4 ((f_Mo_classOf ((f_Mo_throwing ar sc 1 1 1).2.1) ((f_Mo_throwing ar sc 1 1 1).2.2) a0).toNatClampNeg)))).1, (f_Mo_add ((f_Mo_throwing ar sc 1 1 1).2.1) ((f_Mo_throwing ar sc 1 1 1).2.2) a0 a1 ((((f_Mo_throwing ar sc 1 1 1).2.2) 1) + (((f_Mo_throwing ar sc 1 1 1).2.1) 4 ((f_Mo_classOf ((f_Mo_throwing ar sc 1 1 1).2.1) ((f_Mo_throwing ar sc 1 1 1).2.2) a0).toNatClampNeg)))).2), rfl, hv, by dsimp only; rw [ht]; exact hP⟩, hS.F ht⟩) hS.2.2 d_Mo_finding_97
          · have h := h.2 c57
            refine lv_iconst (v := 0) hx hb d_Mo_finding_60 (by decide) ?_
            have hv : ((0, (f_Mo_throwing ar sc 1 1 1).2.1, (f_Mo_throwing ar sc 1 1 1).2.2) : Int32 × (Nat → Nat → Int32) × (Nat → Int32)) = f_Mo_finding ar sc a0 a1 a2 := by rw [f_Mo_finding, if_pos c6, if_neg c21, if_pos c32, if_pos c46, if_neg c57]
            exact W.iret (v := 0) hx hb hr (fun t ht hW => ⟨⟨0, ((f_Mo_throwing ar sc 1 1 1).2.1, (f_Mo_throwing ar sc 1 1 1).2.2), rfl, hv, by dsimp only; rw [ht]; exact hP⟩, hS.F ht⟩) hS.2.2 d_Mo_finding_61
set_option maxHeartbeats 1000000 in
theorem r_Mo_finding {p : Program} {l : Launch} {e : Env} {R : Room} {s : State} {m : MethodId} {args : Array Value} {below : List Frame} {meth : Method} {c : Code} {H : Heap} {locs : List Loc} {cells slots : Nat} {Q : State → Prop} {cc : ByteArray} {nL pc idx : Nat} {ls : Array Slot} {rest : List Value} {own : String} {dC : Nat → ClassId} {dI : Nat → Nat → Nat} {L : Nat → Nat} {cA : Nat → ClassId} {ar : Nat → Nat → Int32} {sc : Nat → Int32} {H0 : Heap} {a0 : Int32} {a1 : Int32} {a2 : Int32} (hF : CallFix p m c cc nL s args w_all own) (hK : kW_M dC dI cA s) (hP : va_P (dC, dI) classes (wM L cA ar sc) H) (hL : ij 25 L) (hS : va_S (aM L) H0 H locs) (h : p_Mo_finding ar sc a0 a1 a2) (hlk : Cond.methodLink own idx y_Mo_finding ∈ w_all) (hsz : ls.size = nL) (hR : (rmD 5).frames + 1 ≤ R.frames ∧ 8 + (4 + 11) + (rmD 5).locals ≤ R.locals) (hc : cells ≤ R.cells ∧ slots ≤ R.slots) (hrs : (rest.map fun v => v.category).sum ≤ 8) (hdg : decode cc pc = .ok (.invokevirtual idx, 3)) (kk : ∀ (H1 : Heap) (locs1 : List Loc), va_P (dC, dI) classes (wM L cA ((f_Mo_finding ar sc a0 a1 a2).2.1) ((f_Mo_finding ar sc a0 a1 a2).2.2)) H1 → va_S (aM L) H0 H1 locs1 → W p l e R s m args below meth c H1 locs1 cells slots Q (F0 m (pc + 3) ls (.int (f_Mo_finding ar sc a0 a1 a2).1 :: rest))) : W p l e R s m args below meth c H locs cells slots Q (F0 m pc ls (.int a2 :: .int a1 :: .int a0 :: .ref (L 0) :: rest)) :=
  va_calli (va_runV (As := [.int a0, .int a1, .int a2]) (rest := rest) hF (c_Mo_finding l dC dI L cA ar sc a0 a1 a2 hL h) (cwV 3 hF.2.2.2.2 (gV hlk m_306 m_307 m_187 m_308) rfl rfl rfl (by decide +kernel) hR) ⟨xb_M, va_recv hK.1 hP (ci := 7) (q0 := 0) rfl rfl, fun U hU hW => ⟨rfl, by rw [hU]; exact hP, kW_M_warm hW hK⟩⟩ rfl rfl hsz rfl (lv_room hrs) hdg hc) hS (fun q _ h9 => h9) (fun q h9 => h9) (fun r u t H1 locs1 ht hvm hw hB hz1 hk1 hS1 => by
    have hk9 := kk H1 locs1 (by rw [← hw, ← ht]; exact hB) hS1
    rw [← hw] at hk9
    exact hk9)

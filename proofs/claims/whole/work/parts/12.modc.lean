theorem m_309 : (Cond.instanceMethod y_Mo_done) ∈ w_all := List.mem_filter.mpr ⟨List.mem_of_getElem? (i := 888) (by decide +kernel), by decide +kernel⟩
theorem m_310 : (Cond.selects R_Mo y_Mo_done y_Mo_done) ∈ w_all := List.mem_filter.mpr ⟨List.mem_of_getElem? (i := 889) (by decide +kernel), by decide +kernel⟩
theorem m_311 : (Cond.code y_Mo_done b_Mo_done 4 none) ∈ w_all := List.mem_filter.mpr ⟨List.mem_of_getElem? (i := 890) (by decide +kernel), by decide +kernel⟩
theorem m_312 : (Cond.instanceMethod y_Mo_findingAt) ∈ w_all := List.mem_filter.mpr ⟨List.mem_of_getElem? (i := 892) (by decide +kernel), by decide +kernel⟩
theorem m_313 : (Cond.selects R_Mo y_Mo_findingAt y_Mo_findingAt) ∈ w_all := List.mem_filter.mpr ⟨List.mem_of_getElem? (i := 893) (by decide +kernel), by decide +kernel⟩
theorem m_314 : (Cond.code y_Mo_findingAt b_Mo_findingAt 3 (some .int)) ∈ w_all := List.mem_filter.mpr ⟨List.mem_of_getElem? (i := 894) (by decide +kernel), by decide +kernel⟩
theorem m_315 : (Cond.methodLink R_Mo 134 y_Mo_dueFrom) ∈ w_all := List.mem_filter.mpr ⟨List.mem_of_getElem? (i := 899) (by decide +kernel), by decide +kernel⟩
theorem m_316 : (Cond.instanceMethod y_Mo_pointAt) ∈ w_all := List.mem_filter.mpr ⟨List.mem_of_getElem? (i := 896) (by decide +kernel), by decide +kernel⟩
theorem m_317 : (Cond.selects R_Mo y_Mo_pointAt y_Mo_pointAt) ∈ w_all := List.mem_filter.mpr ⟨List.mem_of_getElem? (i := 897) (by decide +kernel), by decide +kernel⟩
theorem m_318 : (Cond.code y_Mo_pointAt b_Mo_pointAt 5 (some .int)) ∈ w_all := List.mem_filter.mpr ⟨List.mem_of_getElem? (i := 898) (by decide +kernel), by decide +kernel⟩
theorem m_319 : (Cond.methodLink R_Mo 137 y_Mo_isAhead) ∈ w_all := List.mem_filter.mpr ⟨List.mem_of_getElem? (i := 907) (by decide +kernel), by decide +kernel⟩
theorem m_320 : (Cond.instanceMethod y_Mo_due) ∈ w_all := List.mem_filter.mpr ⟨List.mem_of_getElem? (i := 904) (by decide +kernel), by decide +kernel⟩
theorem m_321 : (Cond.selects R_Mo y_Mo_due y_Mo_due) ∈ w_all := List.mem_filter.mpr ⟨List.mem_of_getElem? (i := 905) (by decide +kernel), by decide +kernel⟩
theorem m_322 : (Cond.code y_Mo_due b_Mo_due 6 (some .int)) ∈ w_all := List.mem_filter.mpr ⟨List.mem_of_getElem? (i := 906) (by decide +kernel), by decide +kernel⟩
theorem m_323 : (Cond.instanceMethod y_Mo_question) ∈ w_all := List.mem_filter.mpr ⟨List.mem_of_getElem? (i := 912) (by decide +kernel), by decide +kernel⟩
theorem m_324 : (Cond.selects R_Mo y_Mo_question y_Mo_question) ∈ w_all := List.mem_filter.mpr ⟨List.mem_of_getElem? (i := 913) (by decide +kernel), by decide +kernel⟩
theorem m_325 : (Cond.code y_Mo_question b_Mo_question 6 none) ∈ w_all := List.mem_filter.mpr ⟨List.mem_of_getElem? (i := 914) (by decide +kernel), by decide +kernel⟩
theorem m_326 : (Cond.methodLink R_Mo 141 y_Mo_go) ∈ w_all := List.mem_filter.mpr ⟨List.mem_of_getElem? (i := 919) (by decide +kernel), by decide +kernel⟩
theorem m_327 : (Cond.instanceMethod y_Mo_list) ∈ w_all := List.mem_filter.mpr ⟨List.mem_of_getElem? (i := 916) (by decide +kernel), by decide +kernel⟩
theorem m_328 : (Cond.selects R_Mo y_Mo_list y_Mo_list) ∈ w_all := List.mem_filter.mpr ⟨List.mem_of_getElem? (i := 917) (by decide +kernel), by decide +kernel⟩
theorem m_329 : (Cond.code y_Mo_list b_Mo_list 4 (some .int)) ∈ w_all := List.mem_filter.mpr ⟨List.mem_of_getElem? (i := 918) (by decide +kernel), by decide +kernel⟩
theorem d_Mo_done_0 : decode b_Mo_done 0 = .ok (.iload_n 1, 1) := by decide +kernel
theorem d_Mo_done_1 : decode b_Mo_done 1 = .ok (.iconst 0, 1) := by decide +kernel
theorem d_Mo_done_2 : decode b_Mo_done 2 = .ok (.aload_n 0, 1) := by decide +kernel
theorem d_Mo_done_3 : decode b_Mo_done 3 = .ok (.getfield 117, 3) := by decide +kernel
theorem d_Mo_done_6 : decode b_Mo_done 6 = .ok (.iconst 1, 1) := by decide +kernel
theorem d_Mo_done_7 : decode b_Mo_done 7 = .ok (.isub, 1) := by decide +kernel
theorem d_Mo_done_8 : decode b_Mo_done 8 = .ok (.invokestatic 100, 3) := by decide +kernel
theorem d_Mo_done_11 : decode b_Mo_done 11 = .ok (.ifCond .ne 7, 3) := by decide +kernel
theorem d_Mo_done_14 : decode b_Mo_done 14 = .ok (.iconst 1, 1) := by decide +kernel
theorem d_Mo_done_15 : decode b_Mo_done 15 = .ok (.goto 4, 3) := by decide +kernel
theorem d_Mo_done_18 : decode b_Mo_done 18 = .ok (.iconst 0, 1) := by decide +kernel
theorem d_Mo_done_19 : decode b_Mo_done 19 = .ok (.istore_n 3, 1) := by decide +kernel
theorem d_Mo_done_20 : decode b_Mo_done 20 = .ok (.aload_n 0, 1) := by decide +kernel
theorem d_Mo_done_21 : decode b_Mo_done 21 = .ok (.iload_n 3, 1) := by decide +kernel
theorem d_Mo_done_22 : decode b_Mo_done 22 = .ok (.iload_n 2, 1) := by decide +kernel
theorem d_Mo_done_23 : decode b_Mo_done 23 = .ok (.iconst 1, 1) := by decide +kernel
theorem d_Mo_done_24 : decode b_Mo_done 24 = .ok (.sipush 9999, 3) := by decide +kernel
theorem d_Mo_done_27 : decode b_Mo_done 27 = .ok (.invokestatic 100, 3) := by decide +kernel
theorem d_Mo_done_30 : decode b_Mo_done 30 = .ok (.ifCond .ne 7, 3) := by decide +kernel
theorem d_Mo_done_33 : decode b_Mo_done 33 = .ok (.iconst 1, 1) := by decide +kernel
theorem d_Mo_done_34 : decode b_Mo_done 34 = .ok (.goto 4, 3) := by decide +kernel
theorem d_Mo_done_37 : decode b_Mo_done 37 = .ok (.iconst 0, 1) := by decide +kernel
theorem d_Mo_done_38 : decode b_Mo_done 38 = .ok (.iload_n 3, 1) := by decide +kernel
theorem d_Mo_done_39 : decode b_Mo_done 39 = .ok (.ifCond .ne 24, 3) := by decide +kernel
theorem d_Mo_done_42 : decode b_Mo_done 42 = .ok (.aload_n 0, 1) := by decide +kernel
theorem d_Mo_done_43 : decode b_Mo_done 43 = .ok (.getfield 49, 3) := by decide +kernel
theorem d_Mo_done_46 : decode b_Mo_done 46 = .ok (.iload_n 3, 1) := by decide +kernel
theorem d_Mo_done_47 : decode b_Mo_done 47 = .ok (.ifCond .eq 7, 3) := by decide +kernel
theorem d_Mo_done_54 : decode b_Mo_done 54 = .ok (.iload_n 1, 1) := by decide +kernel
theorem d_Mo_done_55 : decode b_Mo_done 55 = .ok (.iaload, 1) := by decide +kernel
theorem d_Mo_done_56 : decode b_Mo_done 56 = .ok (.ifCond .le 7, 3) := by decide +kernel
theorem d_Mo_done_59 : decode b_Mo_done 59 = .ok (.iconst 1, 1) := by decide +kernel
theorem d_Mo_done_60 : decode b_Mo_done 60 = .ok (.goto 4, 3) := by decide +kernel
theorem d_Mo_done_63 : decode b_Mo_done 63 = .ok (.iconst 0, 1) := by decide +kernel
theorem d_Mo_done_64 : decode b_Mo_done 64 = .ok (.invokevirtual 104, 3) := by decide +kernel
theorem d_Mo_done_67 : decode b_Mo_done 67 = .ok (.ifCond .eq 4, 3) := by decide +kernel
theorem d_Mo_done_70 : decode b_Mo_done 70 = .ok (.return_, 1) := by decide +kernel
theorem d_Mo_done_71 : decode b_Mo_done 71 = .ok (.aload_n 0, 1) := by decide +kernel
theorem d_Mo_done_72 : decode b_Mo_done 72 = .ok (.getfield 49, 3) := by decide +kernel
theorem d_Mo_done_75 : decode b_Mo_done 75 = .ok (.iload_n 1, 1) := by decide +kernel
theorem d_Mo_done_76 : decode b_Mo_done 76 = .ok (.iload_n 2, 1) := by decide +kernel
theorem d_Mo_done_77 : decode b_Mo_done 77 = .ok (.iastore, 1) := by decide +kernel
theorem d_Mo_done_78 : decode b_Mo_done 78 = .ok (.return_, 1) := by decide +kernel
set_option maxHeartbeats 4000000 in
set_option maxRecDepth 100000 in
theorem c_Mo_done (l : Launch) (dC : Nat → ClassId) (dI : Nat → Nat → Nat) (L : Nat → Nat) (cA : Nat → ClassId) (ar : Nat → Nat → Int32) (sc : Nat → Int32) (a0 : Int32) (a1 : Int32) (hL : ij 25 L) (h : p_Mo_done ar sc a0 a1) : Met l y_Mo_done z_Mo_done (rmD 5) (va_Pc [.ref (L 0), .int a0, .int a1] (fun U => xw_M dC dI L cA ar sc U)) (va_Qv (fun u : oS => (u.1, u.2) = f_Mo_done ar sc a0 a1) (fun u t => va_P (dC, dI) classes (wM L cA u.1 u.2) t.heap) (aM L)) 0 0 (aM L) := by
  refine Met.ofW (cc := b_Mo_done) (maxL := 4) (ret := none) (by decide) rfl ?_
  intro p e s m args below meth c s₁ B hml hv
  obtain ⟨rfl, ⟨hP, hK⟩⟩ := hv
  have hx := B.exec
  have hb := B.bytes
  have hr := B.returns
  have hts : ∀ w ∈ w_all, w.before _ s = true := fun w hw => atoms_spec (ws := z_Mo_done) B.pre w (List.mem_cons_of_mem _ hw)
  have hown : s.vm.findClass R_Mo = some m.cls := findClass_of_methodNamed B.named
  have hlocks := B.notSynchronized
  have hF : CallFix p m c b_Mo_done 4 s _ w_all R_Mo := ⟨hx, hb, hml, hown, hts⟩
  have hS : va_S (aM L) s.heap s.heap [] := va_S.rf
  have hl := lv_entry ([.ref (L 0), .int a0, .int a1]) (n := 4) (Nat.le_of_ble_eq_true rfl)
  rw [lg_entry_eq]
  generalize (lg_sl ([.ref (L 0), .int a0, .int a1]) ++ List.replicate (4 - (lg_sl ([.ref (L 0), .int a0, .int a1])).length) Slot.unset).toArray = ls at hl ⊢
  have hl : lv_has ls 4 [(0, .ref (L 0)), (1, .int a0), (2, .int a1)] := hl
  unfold p_Mo_done at h
  refine lv_iload_n hx hb d_Mo_done_0 rfl (lv_at hl 1 rfl) ?_
  refine lv_iconst (v := 0) hx hb d_Mo_done_1 (by decide) ?_
  refine lv_aload_n hx hb d_Mo_done_2 rfl (lv_at hl 0 rfl) ?_
  refine gf_Mo_findings hF hK hP m_205 d_Mo_done_3 ?_
  refine lv_iconst (v := 1) hx hb d_Mo_done_6 (by decide) ?_
  refine lv_isub hx hb d_Mo_done_7 ?_
  refine r_Mo_in hF m_195 hl.1 ⟨Nat.le_of_ble_eq_true rfl, Nat.le_of_ble_eq_true rfl⟩ ⟨Nat.zero_le _, Nat.zero_le _⟩ (Nat.le_of_ble_eq_true rfl) d_Mo_done_8 ?_
  refine lv_if_ne (tgt := 18) hx hb d_Mo_done_11 (by decide) (fun c11 => ?_) (fun c11 => ?_)
  · have h := h.2 c11
    refine lv_iconst (v := 0) hx hb d_Mo_done_18 (by decide) ?_
    refine lv_istore_n (lv' := [(3, .int 0), (0, .ref (L 0)), (1, .int a0), (2, .int a1)]) hx hb d_Mo_done_19 rfl hl (by decide) rfl (fun ls hl => ?_)
    refine lv_aload_n hx hb d_Mo_done_20 rfl (lv_at hl 1 rfl) ?_
    refine lv_iload_n hx hb d_Mo_done_21 rfl (lv_at hl 0 rfl) ?_
    refine lv_iload_n hx hb d_Mo_done_22 rfl (lv_at hl 3 rfl) ?_
    refine lv_iconst (v := 1) hx hb d_Mo_done_23 (by decide) ?_
    refine lv_sipush (v := 9999) hx hb d_Mo_done_24 (by decide) ?_
    refine r_Mo_in hF m_195 hl.1 ⟨Nat.le_of_ble_eq_true rfl, Nat.le_of_ble_eq_true rfl⟩ ⟨Nat.zero_le _, Nat.zero_le _⟩ (Nat.le_of_ble_eq_true rfl) d_Mo_done_27 ?_
    refine lv_if_ne (tgt := 37) hx hb d_Mo_done_30 (by decide) (fun c30 => ?_) (fun c30 => ?_)
    · have h := h.2 c30
      refine lv_iconst (v := 0) hx hb d_Mo_done_37 (by decide) ?_
      refine lv_iload_n hx hb d_Mo_done_38 rfl (lv_at hl 0 rfl) ?_
      refine lv_if_ne (tgt := 63) hx hb d_Mo_done_39 (by decide) (fun c9 => absurd c9 (by decide)) (fun _ => ?_)
      refine lv_aload_n hx hb d_Mo_done_42 rfl (lv_at hl 1 rfl) ?_
      refine gf_Mo_proof hF hK hP m_199 d_Mo_done_43 ?_
      refine lv_iload_n hx hb d_Mo_done_46 rfl (lv_at hl 0 rfl) ?_
      refine lv_if_eq (tgt := 54) hx hb d_Mo_done_47 (by decide) (fun _ => ?_) (fun c9 => absurd c9 (by decide))
      refine lv_iload_n hx hb d_Mo_done_54 rfl (lv_at hl 2 rfl) ?_
      have k55 := h.1
      have h := h.2
      refine alM_14 hF hK hP k55 d_Mo_done_55 ?_
      refine lv_if_le (tgt := 63) hx hb d_Mo_done_56 (by decide) (fun c56 => ?_) (fun c56 => ?_)
      · have h := h.1 c56
        refine lv_iconst (v := 0) hx hb d_Mo_done_63 (by decide) ?_
        refine r_Mo_throwing hF hK hP hL hS m_283 hl.1 ⟨Nat.le_of_ble_eq_true rfl, Nat.le_of_ble_eq_true rfl⟩ ⟨Nat.zero_le _, Nat.zero_le _⟩ (Nat.le_of_ble_eq_true rfl) d_Mo_done_64 (fun H locs hP hS => ?_)
        refine lv_if_eq (tgt := 71) hx hb d_Mo_done_67 (by decide) (fun c67 => ?_) (fun c67 => ?_)
        · have h := h.1 c67
          refine lv_aload_n hx hb d_Mo_done_71 rfl (lv_at hl 1 rfl) ?_
          refine gf_Mo_proof hF hK hP m_199 d_Mo_done_72 ?_
          refine lv_iload_n hx hb d_Mo_done_75 rfl (lv_at hl 2 rfl) ?_
          refine lv_iload_n hx hb d_Mo_done_76 rfl (lv_at hl 3 rfl) ?_
          have k77 := h
          refine asM_14 hF hK hP hL hS k77 d_Mo_done_77 (fun H locs hP hS => ?_)
          have hv : ((s2 ((f_Mo_throwing ar sc 0 0 0).2.1) 14 a0.toNatClampNeg a1, (f_Mo_throwing ar sc 0 0 0).2.2) : (Nat → Nat → Int32) × (Nat → Int32)) = f_Mo_done ar sc a0 a1 := by rw [f_Mo_done, if_neg c11, if_neg c30, if_pos c56, if_pos c67]
          exact W.vret hx hb hr (fun t ht hW => ⟨⟨(s2 ((f_Mo_throwing ar sc 0 0 0).2.1) 14 a0.toNatClampNeg a1, (f_Mo_throwing ar sc 0 0 0).2.2), rfl, hv, by dsimp only; rw [ht]; exact hP⟩, hS.F ht⟩) hS.2.2 d_Mo_done_78
        · have h := h.2 c67
          have hv : (((f_Mo_throwing ar sc 0 0 0).2.1, (f_Mo_throwing ar sc 0 0 0).2.2) : (Nat → Nat → Int32) × (Nat → Int32)) = f_Mo_done ar sc a0 a1 := by rw [f_Mo_done, if_neg c11, if_neg c30, if_pos c56, if_neg c67]
          exact W.vret hx hb hr (fun t ht hW => ⟨⟨((f_Mo_throwing ar sc 0 0 0).2.1, (f_Mo_throwing ar sc 0 0 0).2.2), rfl, hv, by dsimp only; rw [ht]; exact hP⟩, hS.F ht⟩) hS.2.2 d_Mo_done_70
      · have h := h.2 c56
        refine lv_iconst (v := 1) hx hb d_Mo_done_59 (by decide) ?_
        refine lv_goto (tgt := 64) hx hb d_Mo_done_60 (by decide) ?_
        refine r_Mo_throwing hF hK hP hL hS m_283 hl.1 ⟨Nat.le_of_ble_eq_true rfl, Nat.le_of_ble_eq_true rfl⟩ ⟨Nat.zero_le _, Nat.zero_le _⟩ (Nat.le_of_ble_eq_true rfl) d_Mo_done_64 (fun H locs hP hS => ?_)
        refine lv_if_eq (tgt := 71) hx hb d_Mo_done_67 (by decide) (fun c67 => ?_) (fun c67 => ?_)
        · have h := h.1 c67
          refine lv_aload_n hx hb d_Mo_done_71 rfl (lv_at hl 1 rfl) ?_
          refine gf_Mo_proof hF hK hP m_199 d_Mo_done_72 ?_
          refine lv_iload_n hx hb d_Mo_done_75 rfl (lv_at hl 2 rfl) ?_
          refine lv_iload_n hx hb d_Mo_done_76 rfl (lv_at hl 3 rfl) ?_
          have k77 := h
          refine asM_14 hF hK hP hL hS k77 d_Mo_done_77 (fun H locs hP hS => ?_)
          have hv : ((s2 ((f_Mo_throwing ar sc 0 0 1).2.1) 14 a0.toNatClampNeg a1, (f_Mo_throwing ar sc 0 0 1).2.2) : (Nat → Nat → Int32) × (Nat → Int32)) = f_Mo_done ar sc a0 a1 := by rw [f_Mo_done, if_neg c11, if_neg c30, if_neg c56, if_pos c67]
          exact W.vret hx hb hr (fun t ht hW => ⟨⟨(s2 ((f_Mo_throwing ar sc 0 0 1).2.1) 14 a0.toNatClampNeg a1, (f_Mo_throwing ar sc 0 0 1).2.2), rfl, hv, by dsimp only; rw [ht]; exact hP⟩, hS.F ht⟩) hS.2.2 d_Mo_done_78
        · have h := h.2 c67
          have hv : (((f_Mo_throwing ar sc 0 0 1).2.1, (f_Mo_throwing ar sc 0 0 1).2.2) : (Nat → Nat → Int32) × (Nat → Int32)) = f_Mo_done ar sc a0 a1 := by rw [f_Mo_done, if_neg c11, if_neg c30, if_neg c56, if_neg c67]
          exact W.vret hx hb hr (fun t ht hW => ⟨⟨((f_Mo_throwing ar sc 0 0 1).2.1, (f_Mo_throwing ar sc 0 0 1).2.2), rfl, hv, by dsimp only; rw [ht]; exact hP⟩, hS.F ht⟩) hS.2.2 d_Mo_done_70
    · have h := h.1 c30
      refine lv_iconst (v := 1) hx hb d_Mo_done_33 (by decide) ?_
      refine lv_goto (tgt := 38) hx hb d_Mo_done_34 (by decide) ?_
      refine lv_iload_n hx hb d_Mo_done_38 rfl (lv_at hl 0 rfl) ?_
      refine lv_if_ne (tgt := 63) hx hb d_Mo_done_39 (by decide) (fun c9 => absurd c9 (by decide)) (fun _ => ?_)
      refine lv_aload_n hx hb d_Mo_done_42 rfl (lv_at hl 1 rfl) ?_
      refine gf_Mo_proof hF hK hP m_199 d_Mo_done_43 ?_
      refine lv_iload_n hx hb d_Mo_done_46 rfl (lv_at hl 0 rfl) ?_
      refine lv_if_eq (tgt := 54) hx hb d_Mo_done_47 (by decide) (fun _ => ?_) (fun c9 => absurd c9 (by decide))
      refine lv_iload_n hx hb d_Mo_done_54 rfl (lv_at hl 2 rfl) ?_
      have k55 := h.1
      have h := h.2
      refine alM_14 hF hK hP k55 d_Mo_done_55 ?_
      refine lv_if_le (tgt := 63) hx hb d_Mo_done_56 (by decide) (fun c56 => ?_) (fun c56 => ?_)
      · have h := h.1 c56
        refine lv_iconst (v := 0) hx hb d_Mo_done_63 (by decide) ?_
        refine r_Mo_throwing hF hK hP hL hS m_283 hl.1 ⟨Nat.le_of_ble_eq_true rfl, Nat.le_of_ble_eq_true rfl⟩ ⟨Nat.zero_le _, Nat.zero_le _⟩ (Nat.le_of_ble_eq_true rfl) d_Mo_done_64 (fun H locs hP hS => ?_)
        refine lv_if_eq (tgt := 71) hx hb d_Mo_done_67 (by decide) (fun c67 => ?_) (fun c67 => ?_)
        · have h := h.1 c67
          refine lv_aload_n hx hb d_Mo_done_71 rfl (lv_at hl 1 rfl) ?_
          refine gf_Mo_proof hF hK hP m_199 d_Mo_done_72 ?_
          refine lv_iload_n hx hb d_Mo_done_75 rfl (lv_at hl 2 rfl) ?_
          refine lv_iload_n hx hb d_Mo_done_76 rfl (lv_at hl 3 rfl) ?_
          have k77 := h
          refine asM_14 hF hK hP hL hS k77 d_Mo_done_77 (fun H locs hP hS => ?_)
          have hv : ((s2 ((f_Mo_throwing ar sc 0 1 0).2.1) 14 a0.toNatClampNeg a1, (f_Mo_throwing ar sc 0 1 0).2.2) : (Nat → Nat → Int32) × (Nat → Int32)) = f_Mo_done ar sc a0 a1 := by rw [f_Mo_done, if_neg c11, if_pos c30, if_pos c56, if_pos c67]
          exact W.vret hx hb hr (fun t ht hW => ⟨⟨(s2 ((f_Mo_throwing ar sc 0 1 0).2.1) 14 a0.toNatClampNeg a1, (f_Mo_throwing ar sc 0 1 0).2.2), rfl, hv, by dsimp only; rw [ht]; exact hP⟩, hS.F ht⟩) hS.2.2 d_Mo_done_78
        · have h := h.2 c67
          have hv : (((f_Mo_throwing ar sc 0 1 0).2.1, (f_Mo_throwing ar sc 0 1 0).2.2) : (Nat → Nat → Int32) × (Nat → Int32)) = f_Mo_done ar sc a0 a1 := by rw [f_Mo_done, if_neg c11, if_pos c30, if_pos c56, if_neg c67]
          exact W.vret hx hb hr (fun t ht hW => ⟨⟨((f_Mo_throwing ar sc 0 1 0).2.1, (f_Mo_throwing ar sc 0 1 0).2.2), rfl, hv, by dsimp only; rw [ht]; exact hP⟩, hS.F ht⟩) hS.2.2 d_Mo_done_70
      · have h := h.2 c56
        refine lv_iconst (v := 1) hx hb d_Mo_done_59 (by decide) ?_
        refine lv_goto (tgt := 64) hx hb d_Mo_done_60 (by decide) ?_
        refine r_Mo_throwing hF hK hP hL hS m_283 hl.1 ⟨Nat.le_of_ble_eq_true rfl, Nat.le_of_ble_eq_true rfl⟩ ⟨Nat.zero_le _, Nat.zero_le _⟩ (Nat.le_of_ble_eq_true rfl) d_Mo_done_64 (fun H locs hP hS => ?_)
        refine lv_if_eq (tgt := 71) hx hb d_Mo_done_67 (by decide) (fun c67 => ?_) (fun c67 => ?_)
        · have h := h.1 c67
          refine lv_aload_n hx hb d_Mo_done_71 rfl (lv_at hl 1 rfl) ?_
          refine gf_Mo_proof hF hK hP m_199 d_Mo_done_72 ?_
          refine lv_iload_n hx hb d_Mo_done_75 rfl (lv_at hl 2 rfl) ?_
          refine lv_iload_n hx hb d_Mo_done_76 rfl (lv_at hl 3 rfl) ?_
          have k77 := h
          refine asM_14 hF hK hP hL hS k77 d_Mo_done_77 (fun H locs hP hS => ?_)
          have hv : ((s2 ((f_Mo_throwing ar sc 0 1 1).2.1) 14 a0.toNatClampNeg a1, (f_Mo_throwing ar sc 0 1 1).2.2) : (Nat → Nat → Int32) × (Nat → Int32)) = f_Mo_done ar sc a0 a1 := by rw [f_Mo_done, if_neg c11, if_pos c30, if_neg c56, if_pos c67]
          exact W.vret hx hb hr (fun t ht hW => ⟨⟨(s2 ((f_Mo_throwing ar sc 0 1 1).2.1) 14 a0.toNatClampNeg a1, (f_Mo_throwing ar sc 0 1 1).2.2), rfl, hv, by dsimp only; rw [ht]; exact hP⟩, hS.F ht⟩) hS.2.2 d_Mo_done_78
        · have h := h.2 c67
          have hv : (((f_Mo_throwing ar sc 0 1 1).2.1, (f_Mo_throwing ar sc 0 1 1).2.2) : (Nat → Nat → Int32) × (Nat → Int32)) = f_Mo_done ar sc a0 a1 := by rw [f_Mo_done, if_neg c11, if_pos c30, if_neg c56, if_neg c67]
          exact W.vret hx hb hr (fun t ht hW => ⟨⟨((f_Mo_throwing ar sc 0 1 1).2.1, (f_Mo_throwing ar sc 0 1 1).2.2), rfl, hv, by dsimp only; rw [ht]; exact hP⟩, hS.F ht⟩) hS.2.2 d_Mo_done_70
  · have h := h.1 c11
    refine lv_iconst (v := 1) hx hb d_Mo_done_14 (by decide) ?_
    refine lv_goto (tgt := 19) hx hb d_Mo_done_15 (by decide) ?_
    refine lv_istore_n (lv' := [(3, .int 1), (0, .ref (L 0)), (1, .int a0), (2, .int a1)]) hx hb d_Mo_done_19 rfl hl (by decide) rfl (fun ls hl => ?_)
    refine lv_aload_n hx hb d_Mo_done_20 rfl (lv_at hl 1 rfl) ?_
    refine lv_iload_n hx hb d_Mo_done_21 rfl (lv_at hl 0 rfl) ?_
    refine lv_iload_n hx hb d_Mo_done_22 rfl (lv_at hl 3 rfl) ?_
    refine lv_iconst (v := 1) hx hb d_Mo_done_23 (by decide) ?_
    refine lv_sipush (v := 9999) hx hb d_Mo_done_24 (by decide) ?_
    refine r_Mo_in hF m_195 hl.1 ⟨Nat.le_of_ble_eq_true rfl, Nat.le_of_ble_eq_true rfl⟩ ⟨Nat.zero_le _, Nat.zero_le _⟩ (Nat.le_of_ble_eq_true rfl) d_Mo_done_27 ?_
    refine lv_if_ne (tgt := 37) hx hb d_Mo_done_30 (by decide) (fun c30 => ?_) (fun c30 => ?_)
    · have h := h.2 c30
      refine lv_iconst (v := 0) hx hb d_Mo_done_37 (by decide) ?_
      refine lv_iload_n hx hb d_Mo_done_38 rfl (lv_at hl 0 rfl) ?_
      refine lv_if_ne (tgt := 63) hx hb d_Mo_done_39 (by decide) (fun _ => ?_) (fun c9 => absurd c9 (by decide))
      refine lv_iconst (v := 0) hx hb d_Mo_done_63 (by decide) ?_
      refine r_Mo_throwing hF hK hP hL hS m_283 hl.1 ⟨Nat.le_of_ble_eq_true rfl, Nat.le_of_ble_eq_true rfl⟩ ⟨Nat.zero_le _, Nat.zero_le _⟩ (Nat.le_of_ble_eq_true rfl) d_Mo_done_64 (fun H locs hP hS => ?_)
      refine lv_if_eq (tgt := 71) hx hb d_Mo_done_67 (by decide) (fun c67 => ?_) (fun c67 => ?_)
      · have h := h.1 c67
        refine lv_aload_n hx hb d_Mo_done_71 rfl (lv_at hl 1 rfl) ?_
        refine gf_Mo_proof hF hK hP m_199 d_Mo_done_72 ?_
        refine lv_iload_n hx hb d_Mo_done_75 rfl (lv_at hl 2 rfl) ?_
        refine lv_iload_n hx hb d_Mo_done_76 rfl (lv_at hl 3 rfl) ?_
        have k77 := h
        refine asM_14 hF hK hP hL hS k77 d_Mo_done_77 (fun H locs hP hS => ?_)
        have hv : ((s2 ((f_Mo_throwing ar sc 1 0 0).2.1) 14 a0.toNatClampNeg a1, (f_Mo_throwing ar sc 1 0 0).2.2) : (Nat → Nat → Int32) × (Nat → Int32)) = f_Mo_done ar sc a0 a1 := by rw [f_Mo_done, if_pos c11, if_neg c30, if_pos c67]
        exact W.vret hx hb hr (fun t ht hW => ⟨⟨(s2 ((f_Mo_throwing ar sc 1 0 0).2.1) 14 a0.toNatClampNeg a1, (f_Mo_throwing ar sc 1 0 0).2.2), rfl, hv, by dsimp only; rw [ht]; exact hP⟩, hS.F ht⟩) hS.2.2 d_Mo_done_78
      · have h := h.2 c67
        have hv : (((f_Mo_throwing ar sc 1 0 0).2.1, (f_Mo_throwing ar sc 1 0 0).2.2) : (Nat → Nat → Int32) × (Nat → Int32)) = f_Mo_done ar sc a0 a1 := by rw [f_Mo_done, if_pos c11, if_neg c30, if_neg c67]
        exact W.vret hx hb hr (fun t ht hW => ⟨⟨((f_Mo_throwing ar sc 1 0 0).2.1, (f_Mo_throwing ar sc 1 0 0).2.2), rfl, hv, by dsimp only; rw [ht]; exact hP⟩, hS.F ht⟩) hS.2.2 d_Mo_done_70
    · have h := h.1 c30
      refine lv_iconst (v := 1) hx hb d_Mo_done_33 (by decide) ?_
      refine lv_goto (tgt := 38) hx hb d_Mo_done_34 (by decide) ?_
      refine lv_iload_n hx hb d_Mo_done_38 rfl (lv_at hl 0 rfl) ?_
      refine lv_if_ne (tgt := 63) hx hb d_Mo_done_39 (by decide) (fun _ => ?_) (fun c9 => absurd c9 (by decide))
      refine lv_iconst (v := 0) hx hb d_Mo_done_63 (by decide) ?_
      refine r_Mo_throwing hF hK hP hL hS m_283 hl.1 ⟨Nat.le_of_ble_eq_true rfl, Nat.le_of_ble_eq_true rfl⟩ ⟨Nat.zero_le _, Nat.zero_le _⟩ (Nat.le_of_ble_eq_true rfl) d_Mo_done_64 (fun H locs hP hS => ?_)
      refine lv_if_eq (tgt := 71) hx hb d_Mo_done_67 (by decide) (fun c67 => ?_) (fun c67 => ?_)
      · have h := h.1 c67
        refine lv_aload_n hx hb d_Mo_done_71 rfl (lv_at hl 1 rfl) ?_
        refine gf_Mo_proof hF hK hP m_199 d_Mo_done_72 ?_
        refine lv_iload_n hx hb d_Mo_done_75 rfl (lv_at hl 2 rfl) ?_
        refine lv_iload_n hx hb d_Mo_done_76 rfl (lv_at hl 3 rfl) ?_
        have k77 := h
        refine asM_14 hF hK hP hL hS k77 d_Mo_done_77 (fun H locs hP hS => ?_)
        have hv : ((s2 ((f_Mo_throwing ar sc 1 1 0).2.1) 14 a0.toNatClampNeg a1, (f_Mo_throwing ar sc 1 1 0).2.2) : (Nat → Nat → Int32) × (Nat → Int32)) = f_Mo_done ar sc a0 a1 := by rw [f_Mo_done, if_pos c11, if_pos c30, if_pos c67]
        exact W.vret hx hb hr (fun t ht hW => ⟨⟨(s2 ((f_Mo_throwing ar sc 1 1 0).2.1) 14 a0.toNatClampNeg a1, (f_Mo_throwing ar sc 1 1 0).2.2), rfl, hv, by dsimp only; rw [ht]; exact hP⟩, hS.F ht⟩) hS.2.2 d_Mo_done_78
      · have h := h.2 c67
        have hv : (((f_Mo_throwing ar sc 1 1 0).2.1, (f_Mo_throwing ar sc 1 1 0).2.2) : (Nat → Nat → Int32) × (Nat → Int32)) = f_Mo_done ar sc a0 a1 := by rw [f_Mo_done, if_pos c11, if_pos c30, if_neg c67]
        exact W.vret hx hb hr (fun t ht hW => ⟨⟨((f_Mo_throwing ar sc 1 1 0).2.1, (f_Mo_throwing ar sc 1 1 0).2.2), rfl, hv, by dsimp only; rw [ht]; exact hP⟩, hS.F ht⟩) hS.2.2 d_Mo_done_70
set_option maxHeartbeats 1000000 in
theorem r_Mo_done {p : Program} {l : Launch} {e : Env} {R : Room} {s : State} {m : MethodId} {args : Array Value} {below : List Frame} {meth : Method} {c : Code} {H : Heap} {locs : List Loc} {cells slots : Nat} {Q : State → Prop} {cc : ByteArray} {nL pc idx : Nat} {ls : Array Slot} {rest : List Value} {own : String} {dC : Nat → ClassId} {dI : Nat → Nat → Nat} {L : Nat → Nat} {cA : Nat → ClassId} {ar : Nat → Nat → Int32} {sc : Nat → Int32} {H0 : Heap} {a0 : Int32} {a1 : Int32} (hF : CallFix p m c cc nL s args w_all own) (hK : kW_M dC dI cA s) (hP : va_P (dC, dI) classes (wM L cA ar sc) H) (hL : ij 25 L) (hS : va_S (aM L) H0 H locs) (h : p_Mo_done ar sc a0 a1) (hlk : Cond.methodLink own idx y_Mo_done ∈ w_all) (hsz : ls.size = nL) (hR : (rmD 5).frames + 1 ≤ R.frames ∧ 8 + (4 + 11) + (rmD 5).locals ≤ R.locals) (hc : cells ≤ R.cells ∧ slots ≤ R.slots) (hrs : (rest.map fun v => v.category).sum ≤ 8) (hdg : decode cc pc = .ok (.invokevirtual idx, 3)) (kk : ∀ (H1 : Heap) (locs1 : List Loc), va_P (dC, dI) classes (wM L cA ((f_Mo_done ar sc a0 a1).1) ((f_Mo_done ar sc a0 a1).2)) H1 → va_S (aM L) H0 H1 locs1 → W p l e R s m args below meth c H1 locs1 cells slots Q (F0 m (pc + 3) ls (rest))) : W p l e R s m args below meth c H locs cells slots Q (F0 m pc ls (.int a1 :: .int a0 :: .ref (L 0) :: rest)) :=
  va_callv (va_runV (As := [.int a0, .int a1]) (rest := rest) hF (c_Mo_done l dC dI L cA ar sc a0 a1 hL h) (cwV 2 hF.2.2.2.2 (gV hlk m_309 m_310 m_187 m_311) rfl rfl rfl (by decide +kernel) hR) ⟨xb_M, va_recv hK.1 hP (ci := 7) (q0 := 0) rfl rfl, fun U hU hW => ⟨rfl, by rw [hU]; exact hP, kW_M_warm hW hK⟩⟩ rfl rfl hsz rfl (lv_room hrs) hdg hc) hS (fun q _ h9 => h9) (fun q h9 => h9) (fun u t H1 locs1 ht hvm hw hB hz1 hk1 hS1 => by
    have hk9 := kk H1 locs1 (by rw [← hw, ← ht]; exact hB) hS1
    exact hk9)
theorem d_Mo_findingAt_0 : decode b_Mo_findingAt 0 = .ok (.aload_n 0, 1) := by decide +kernel
theorem d_Mo_findingAt_1 : decode b_Mo_findingAt 1 = .ok (.iload_n 1, 1) := by decide +kernel
theorem d_Mo_findingAt_2 : decode b_Mo_findingAt 2 = .ok (.iconst 0, 1) := by decide +kernel
theorem d_Mo_findingAt_3 : decode b_Mo_findingAt 3 = .ok (.aload_n 0, 1) := by decide +kernel
theorem d_Mo_findingAt_4 : decode b_Mo_findingAt 4 = .ok (.getfield 117, 3) := by decide +kernel
theorem d_Mo_findingAt_7 : decode b_Mo_findingAt 7 = .ok (.iconst 1, 1) := by decide +kernel
theorem d_Mo_findingAt_8 : decode b_Mo_findingAt 8 = .ok (.isub, 1) := by decide +kernel
theorem d_Mo_findingAt_9 : decode b_Mo_findingAt 9 = .ok (.invokestatic 100, 3) := by decide +kernel
theorem d_Mo_findingAt_12 : decode b_Mo_findingAt 12 = .ok (.ifCond .eq 12, 3) := by decide +kernel
theorem d_Mo_findingAt_15 : decode b_Mo_findingAt 15 = .ok (.iload_n 2, 1) := by decide +kernel
theorem d_Mo_findingAt_16 : decode b_Mo_findingAt 16 = .ok (.iconst 0, 1) := by decide +kernel
theorem d_Mo_findingAt_17 : decode b_Mo_findingAt 17 = .ok (.iconst 4, 1) := by decide +kernel
theorem d_Mo_findingAt_18 : decode b_Mo_findingAt 18 = .ok (.invokestatic 100, 3) := by decide +kernel
theorem d_Mo_findingAt_21 : decode b_Mo_findingAt 21 = .ok (.ifCond .ne 7, 3) := by decide +kernel
theorem d_Mo_findingAt_24 : decode b_Mo_findingAt 24 = .ok (.iconst 1, 1) := by decide +kernel
theorem d_Mo_findingAt_25 : decode b_Mo_findingAt 25 = .ok (.goto 4, 3) := by decide +kernel
theorem d_Mo_findingAt_28 : decode b_Mo_findingAt 28 = .ok (.iconst 0, 1) := by decide +kernel
theorem d_Mo_findingAt_29 : decode b_Mo_findingAt 29 = .ok (.iconst 0, 1) := by decide +kernel
theorem d_Mo_findingAt_30 : decode b_Mo_findingAt 30 = .ok (.iconst 0, 1) := by decide +kernel
theorem d_Mo_findingAt_31 : decode b_Mo_findingAt 31 = .ok (.invokevirtual 104, 3) := by decide +kernel
theorem d_Mo_findingAt_34 : decode b_Mo_findingAt 34 = .ok (.ifCond .eq 5, 3) := by decide +kernel
theorem d_Mo_findingAt_37 : decode b_Mo_findingAt 37 = .ok (.iconst 0, 1) := by decide +kernel
theorem d_Mo_findingAt_38 : decode b_Mo_findingAt 38 = .ok (.ireturn, 1) := by decide +kernel
theorem d_Mo_findingAt_39 : decode b_Mo_findingAt 39 = .ok (.iload_n 2, 1) := by decide +kernel
theorem d_Mo_findingAt_40 : decode b_Mo_findingAt 40 = .ok (.tableswitch 75 0 3 #[32, 39, 54, 68], 32) := by decide +kernel
theorem d_Mo_findingAt_72 : decode b_Mo_findingAt 72 = .ok (.aload_n 0, 1) := by decide +kernel
theorem d_Mo_findingAt_73 : decode b_Mo_findingAt 73 = .ok (.getfield 40, 3) := by decide +kernel
theorem d_Mo_findingAt_76 : decode b_Mo_findingAt 76 = .ok (.iload_n 1, 1) := by decide +kernel
theorem d_Mo_findingAt_77 : decode b_Mo_findingAt 77 = .ok (.iaload, 1) := by decide +kernel
theorem d_Mo_findingAt_78 : decode b_Mo_findingAt 78 = .ok (.ireturn, 1) := by decide +kernel
theorem d_Mo_findingAt_79 : decode b_Mo_findingAt 79 = .ok (.aload_n 0, 1) := by decide +kernel
theorem d_Mo_findingAt_80 : decode b_Mo_findingAt 80 = .ok (.getfield 49, 3) := by decide +kernel
theorem d_Mo_findingAt_83 : decode b_Mo_findingAt 83 = .ok (.iload_n 1, 1) := by decide +kernel
theorem d_Mo_findingAt_84 : decode b_Mo_findingAt 84 = .ok (.iaload, 1) := by decide +kernel
theorem d_Mo_findingAt_85 : decode b_Mo_findingAt 85 = .ok (.ifCond .ne 7, 3) := by decide +kernel
theorem d_Mo_findingAt_88 : decode b_Mo_findingAt 88 = .ok (.iconst 1, 1) := by decide +kernel
theorem d_Mo_findingAt_89 : decode b_Mo_findingAt 89 = .ok (.goto 4, 3) := by decide +kernel
theorem d_Mo_findingAt_92 : decode b_Mo_findingAt 92 = .ok (.iconst 0, 1) := by decide +kernel
theorem d_Mo_findingAt_93 : decode b_Mo_findingAt 93 = .ok (.ireturn, 1) := by decide +kernel
theorem d_Mo_findingAt_94 : decode b_Mo_findingAt 94 = .ok (.aload_n 0, 1) := by decide +kernel
theorem d_Mo_findingAt_95 : decode b_Mo_findingAt 95 = .ok (.iload_n 1, 1) := by decide +kernel
theorem d_Mo_findingAt_96 : decode b_Mo_findingAt 96 = .ok (.invokevirtual 120, 3) := by decide +kernel
theorem d_Mo_findingAt_99 : decode b_Mo_findingAt 99 = .ok (.ifCond .eq 7, 3) := by decide +kernel
theorem d_Mo_findingAt_102 : decode b_Mo_findingAt 102 = .ok (.iconst 1, 1) := by decide +kernel
theorem d_Mo_findingAt_103 : decode b_Mo_findingAt 103 = .ok (.goto 4, 3) := by decide +kernel
theorem d_Mo_findingAt_106 : decode b_Mo_findingAt 106 = .ok (.iconst 0, 1) := by decide +kernel
theorem d_Mo_findingAt_107 : decode b_Mo_findingAt 107 = .ok (.ireturn, 1) := by decide +kernel
theorem d_Mo_findingAt_108 : decode b_Mo_findingAt 108 = .ok (.aload_n 0, 1) := by decide +kernel
theorem d_Mo_findingAt_109 : decode b_Mo_findingAt 109 = .ok (.getfield 46, 3) := by decide +kernel
theorem d_Mo_findingAt_112 : decode b_Mo_findingAt 112 = .ok (.iload_n 1, 1) := by decide +kernel
theorem d_Mo_findingAt_113 : decode b_Mo_findingAt 113 = .ok (.iaload, 1) := by decide +kernel
theorem d_Mo_findingAt_114 : decode b_Mo_findingAt 114 = .ok (.ireturn, 1) := by decide +kernel
theorem d_Mo_findingAt_115 : decode b_Mo_findingAt 115 = .ok (.aload_n 0, 1) := by decide +kernel
theorem d_Mo_findingAt_116 : decode b_Mo_findingAt 116 = .ok (.getfield 49, 3) := by decide +kernel
theorem d_Mo_findingAt_119 : decode b_Mo_findingAt 119 = .ok (.iload_n 1, 1) := by decide +kernel
theorem d_Mo_findingAt_120 : decode b_Mo_findingAt 120 = .ok (.iaload, 1) := by decide +kernel
theorem d_Mo_findingAt_121 : decode b_Mo_findingAt 121 = .ok (.ireturn, 1) := by decide +kernel
set_option maxHeartbeats 4000000 in
set_option maxRecDepth 100000 in
theorem c_Mo_findingAt (l : Launch) (dC : Nat → ClassId) (dI : Nat → Nat → Nat) (L : Nat → Nat) (cA : Nat → ClassId) (ar : Nat → Nat → Int32) (sc : Nat → Int32) (a0 : Int32) (a1 : Int32) (hL : ij 25 L) (h : p_Mo_findingAt ar sc a0 a1) : Met l y_Mo_findingAt z_Mo_findingAt (rmD 5) (va_Pc [.ref (L 0), .int a0, .int a1] (fun U => xw_M dC dI L cA ar sc U)) (va_Qi (fun (r : Int32) (u : oS) => (r, u.1, u.2) = f_Mo_findingAt ar sc a0 a1) (fun u t => va_P (dC, dI) classes (wM L cA u.1 u.2) t.heap) (aM L)) 0 0 (aM L) := by
  refine Met.ofW (cc := b_Mo_findingAt) (maxL := 3) (ret := (some .int)) (by decide) rfl ?_
  intro p e s m args below meth c s₁ B hml hv
  obtain ⟨rfl, ⟨hP, hK⟩⟩ := hv
  have hx := B.exec
  have hb := B.bytes
  have hr := B.returns
  have hts : ∀ w ∈ w_all, w.before _ s = true := fun w hw => atoms_spec (ws := z_Mo_findingAt) B.pre w (List.mem_cons_of_mem _ hw)
  have hown : s.vm.findClass R_Mo = some m.cls := findClass_of_methodNamed B.named
  have hlocks := B.notSynchronized
  have hF : CallFix p m c b_Mo_findingAt 3 s _ w_all R_Mo := ⟨hx, hb, hml, hown, hts⟩
  have hS : va_S (aM L) s.heap s.heap [] := va_S.rf
  have hl := lv_entry ([.ref (L 0), .int a0, .int a1]) (n := 3) (Nat.le_of_ble_eq_true rfl)
  rw [lg_entry_eq]
  generalize (lg_sl ([.ref (L 0), .int a0, .int a1]) ++ List.replicate (3 - (lg_sl ([.ref (L 0), .int a0, .int a1])).length) Slot.unset).toArray = ls at hl ⊢
  have hl : lv_has ls 3 [(0, .ref (L 0)), (1, .int a0), (2, .int a1)] := hl
  unfold p_Mo_findingAt at h
  refine lv_aload_n hx hb d_Mo_findingAt_0 rfl (lv_at hl 0 rfl) ?_
  refine lv_iload_n hx hb d_Mo_findingAt_1 rfl (lv_at hl 1 rfl) ?_
  refine lv_iconst (v := 0) hx hb d_Mo_findingAt_2 (by decide) ?_
  refine lv_aload_n hx hb d_Mo_findingAt_3 rfl (lv_at hl 0 rfl) ?_
  refine gf_Mo_findings hF hK hP m_205 d_Mo_findingAt_4 ?_
  refine lv_iconst (v := 1) hx hb d_Mo_findingAt_7 (by decide) ?_
  refine lv_isub hx hb d_Mo_findingAt_8 ?_
  refine r_Mo_in hF m_195 hl.1 ⟨Nat.le_of_ble_eq_true rfl, Nat.le_of_ble_eq_true rfl⟩ ⟨Nat.zero_le _, Nat.zero_le _⟩ (Nat.le_of_ble_eq_true rfl) d_Mo_findingAt_9 ?_
  refine lv_if_eq (tgt := 24) hx hb d_Mo_findingAt_12 (by decide) (fun c12 => ?_) (fun c12 => ?_)
  · have h := h.1 c12
    refine lv_iconst (v := 1) hx hb d_Mo_findingAt_24 (by decide) ?_
    refine lv_goto (tgt := 29) hx hb d_Mo_findingAt_25 (by decide) ?_
    refine lv_iconst (v := 0) hx hb d_Mo_findingAt_29 (by decide) ?_
    refine lv_iconst (v := 0) hx hb d_Mo_findingAt_30 (by decide) ?_
    refine r_Mo_throwing hF hK hP hL hS m_283 hl.1 ⟨Nat.le_of_ble_eq_true rfl, Nat.le_of_ble_eq_true rfl⟩ ⟨Nat.zero_le _, Nat.zero_le _⟩ (Nat.le_of_ble_eq_true rfl) d_Mo_findingAt_31 (fun H locs hP hS => ?_)
    refine lv_if_eq (tgt := 39) hx hb d_Mo_findingAt_34 (by decide) (fun c34 => ?_) (fun c34 => ?_)
    · have h := h.1 c34
      refine lv_iload_n hx hb d_Mo_findingAt_39 rfl (lv_at hl 2 rfl) ?_
      by_cases c40_0 : a1 = 0
      · have h := h.1 c40_0
        refine lv_tableIn (off := 32) (tgt := 72) hx hb d_Mo_findingAt_40 (by rw [c40_0]; decide) (by rw [c40_0]; decide) (by rw [c40_0]; decide) (by decide) ?_
        refine lv_aload_n hx hb d_Mo_findingAt_72 rfl (lv_at hl 0 rfl) ?_
        refine gf_Mo_of hF hK hP m_206 d_Mo_findingAt_73 ?_
        refine lv_iload_n hx hb d_Mo_findingAt_76 rfl (lv_at hl 1 rfl) ?_
        have k77 := h
        refine alM_11 hF hK hP k77 d_Mo_findingAt_77 ?_
        have hv : ((((f_Mo_throwing ar sc 1 0 0).2.1) 11 a0.toNatClampNeg, (f_Mo_throwing ar sc 1 0 0).2.1, (f_Mo_throwing ar sc 1 0 0).2.2) : Int32 × (Nat → Nat → Int32) × (Nat → Int32)) = f_Mo_findingAt ar sc a0 a1 := by rw [f_Mo_findingAt, if_pos c12, if_pos c34, if_pos c40_0]
        exact W.iret (v := ((f_Mo_throwing ar sc 1 0 0).2.1) 11 a0.toNatClampNeg) hx hb hr (fun t ht hW => ⟨⟨((f_Mo_throwing ar sc 1 0 0).2.1) 11 a0.toNatClampNeg, ((f_Mo_throwing ar sc 1 0 0).2.1, (f_Mo_throwing ar sc 1 0 0).2.2), rfl, hv, by dsimp only; rw [ht]; exact hP⟩, hS.F ht⟩) hS.2.2 d_Mo_findingAt_78
      · have h := h.2 c40_0
        by_cases c40_1 : a1 = 1
        · have h := h.1 c40_1
          refine lv_tableIn (off := 39) (tgt := 79) hx hb d_Mo_findingAt_40 (by rw [c40_1]; decide) (by rw [c40_1]; decide) (by rw [c40_1]; decide) (by decide) ?_
          refine lv_aload_n hx hb d_Mo_findingAt_79 rfl (lv_at hl 0 rfl) ?_
          refine gf_Mo_proof hF hK hP m_199 d_Mo_findingAt_80 ?_
          refine lv_iload_n hx hb d_Mo_findingAt_83 rfl (lv_at hl 1 rfl) ?_
          have k84 := h
          refine alM_14 hF hK hP k84 d_Mo_findingAt_84 ?_
          refine lv_if_ne (tgt := 92) hx hb d_Mo_findingAt_85 (by decide) (fun c85 => ?_) (fun c85 => ?_)
          · refine lv_iconst (v := 0) hx hb d_Mo_findingAt_92 (by decide) ?_
            have hv : ((0, (f_Mo_throwing ar sc 1 0 0).2.1, (f_Mo_throwing ar sc 1 0 0).2.2) : Int32 × (Nat → Nat → Int32) × (Nat → Int32)) = f_Mo_findingAt ar sc a0 a1 := by rw [f_Mo_findingAt, if_pos c12, if_pos c34, if_neg c40_0, if_pos c40_1, if_neg c85]
            exact W.iret (v := 0) hx hb hr (fun t ht hW => ⟨⟨0, ((f_Mo_throwing ar sc 1 0 0).2.1, (f_Mo_throwing ar sc 1 0 0).2.2), rfl, hv, by dsimp only; rw [ht]; exact hP⟩, hS.F ht⟩) hS.2.2 d_Mo_findingAt_93
          · refine lv_iconst (v := 1) hx hb d_Mo_findingAt_88 (by decide) ?_
            refine lv_goto (tgt := 93) hx hb d_Mo_findingAt_89 (by decide) ?_
            have hv : ((1, (f_Mo_throwing ar sc 1 0 0).2.1, (f_Mo_throwing ar sc 1 0 0).2.2) : Int32 × (Nat → Nat → Int32) × (Nat → Int32)) = f_Mo_findingAt ar sc a0 a1 := by rw [f_Mo_findingAt, if_pos c12, if_pos c34, if_neg c40_0, if_pos c40_1, if_pos c85]
            exact W.iret (v := 1) hx hb hr (fun t ht hW => ⟨⟨1, ((f_Mo_throwing ar sc 1 0 0).2.1, (f_Mo_throwing ar sc 1 0 0).2.2), rfl, hv, by dsimp only; rw [ht]; exact hP⟩, hS.F ht⟩) hS.2.2 d_Mo_findingAt_93
        · have h := h.2 c40_1
          by_cases c40_2 : a1 = 2
          · have h := h.1 c40_2
            refine lv_tableIn (off := 54) (tgt := 94) hx hb d_Mo_findingAt_40 (by rw [c40_2]; decide) (by rw [c40_2]; decide) (by rw [c40_2]; decide) (by decide) ?_
            refine lv_aload_n hx hb d_Mo_findingAt_94 rfl (lv_at hl 0 rfl) ?_
            refine lv_iload_n hx hb d_Mo_findingAt_95 rfl (lv_at hl 1 rfl) ?_
            have k96 := h
            refine r_Mo_isMissed hF hK hP k96 m_207 hl.1 ⟨Nat.le_of_ble_eq_true rfl, Nat.le_of_ble_eq_true rfl⟩ ⟨Nat.zero_le _, Nat.zero_le _⟩ (Nat.le_of_ble_eq_true rfl) d_Mo_findingAt_96 ?_
            refine lv_if_eq (tgt := 106) hx hb d_Mo_findingAt_99 (by decide) (fun c99 => ?_) (fun c99 => ?_)
            · refine lv_iconst (v := 0) hx hb d_Mo_findingAt_106 (by decide) ?_
              have hv : ((0, (f_Mo_throwing ar sc 1 0 0).2.1, (f_Mo_throwing ar sc 1 0 0).2.2) : Int32 × (Nat → Nat → Int32) × (Nat → Int32)) = f_Mo_findingAt ar sc a0 a1 := by rw [f_Mo_findingAt, if_pos c12, if_pos c34, if_neg c40_0, if_neg c40_1, if_pos c40_2, if_pos c99]
              exact W.iret (v := 0) hx hb hr (fun t ht hW => ⟨⟨0, ((f_Mo_throwing ar sc 1 0 0).2.1, (f_Mo_throwing ar sc 1 0 0).2.2), rfl, hv, by dsimp only; rw [ht]; exact hP⟩, hS.F ht⟩) hS.2.2 d_Mo_findingAt_107
            · refine lv_iconst (v := 1) hx hb d_Mo_findingAt_102 (by decide) ?_
              refine lv_goto (tgt := 107) hx hb d_Mo_findingAt_103 (by decide) ?_
              have hv : ((1, (f_Mo_throwing ar sc 1 0 0).2.1, (f_Mo_throwing ar sc 1 0 0).2.2) : Int32 × (Nat → Nat → Int32) × (Nat → Int32)) = f_Mo_findingAt ar sc a0 a1 := by rw [f_Mo_findingAt, if_pos c12, if_pos c34, if_neg c40_0, if_neg c40_1, if_pos c40_2, if_neg c99]
              exact W.iret (v := 1) hx hb hr (fun t ht hW => ⟨⟨1, ((f_Mo_throwing ar sc 1 0 0).2.1, (f_Mo_throwing ar sc 1 0 0).2.2), rfl, hv, by dsimp only; rw [ht]; exact hP⟩, hS.F ht⟩) hS.2.2 d_Mo_findingAt_107
          · have h := h.2 c40_2
            by_cases c40_3 : a1 = 3
            · have h := h.1 c40_3
              refine lv_tableIn (off := 68) (tgt := 108) hx hb d_Mo_findingAt_40 (by rw [c40_3]; decide) (by rw [c40_3]; decide) (by rw [c40_3]; decide) (by decide) ?_
              refine lv_aload_n hx hb d_Mo_findingAt_108 rfl (lv_at hl 0 rfl) ?_
              refine gf_Mo_until hF hK hP m_201 d_Mo_findingAt_109 ?_
              refine lv_iload_n hx hb d_Mo_findingAt_112 rfl (lv_at hl 1 rfl) ?_
              have k113 := h
              refine alM_13 hF hK hP k113 d_Mo_findingAt_113 ?_
              have hv : ((((f_Mo_throwing ar sc 1 0 0).2.1) 13 a0.toNatClampNeg, (f_Mo_throwing ar sc 1 0 0).2.1, (f_Mo_throwing ar sc 1 0 0).2.2) : Int32 × (Nat → Nat → Int32) × (Nat → Int32)) = f_Mo_findingAt ar sc a0 a1 := by rw [f_Mo_findingAt, if_pos c12, if_pos c34, if_neg c40_0, if_neg c40_1, if_neg c40_2, if_pos c40_3]
              exact W.iret (v := ((f_Mo_throwing ar sc 1 0 0).2.1) 13 a0.toNatClampNeg) hx hb hr (fun t ht hW => ⟨⟨((f_Mo_throwing ar sc 1 0 0).2.1) 13 a0.toNatClampNeg, ((f_Mo_throwing ar sc 1 0 0).2.1, (f_Mo_throwing ar sc 1 0 0).2.2), rfl, hv, by dsimp only; rw [ht]; exact hP⟩, hS.F ht⟩) hS.2.2 d_Mo_findingAt_114
            · have h := h.2 c40_3
              refine lv_tableOut (tgt := 115) hx hb d_Mo_findingAt_40 (by have h0 := lv_neT (a := 0) c40_0 rfl; have h1 := lv_neT (a := 1) c40_1 rfl; have h2 := lv_neT (a := 2) c40_2 rfl; have h3 := lv_neT (a := 3) c40_3 rfl; omega) (by decide) ?_
              refine lv_aload_n hx hb d_Mo_findingAt_115 rfl (lv_at hl 0 rfl) ?_
              refine gf_Mo_proof hF hK hP m_199 d_Mo_findingAt_116 ?_
              refine lv_iload_n hx hb d_Mo_findingAt_119 rfl (lv_at hl 1 rfl) ?_
              have k120 := h
              refine alM_14 hF hK hP k120 d_Mo_findingAt_120 ?_
              have hv : ((((f_Mo_throwing ar sc 1 0 0).2.1) 14 a0.toNatClampNeg, (f_Mo_throwing ar sc 1 0 0).2.1, (f_Mo_throwing ar sc 1 0 0).2.2) : Int32 × (Nat → Nat → Int32) × (Nat → Int32)) = f_Mo_findingAt ar sc a0 a1 := by rw [f_Mo_findingAt, if_pos c12, if_pos c34, if_neg c40_0, if_neg c40_1, if_neg c40_2, if_neg c40_3]
              exact W.iret (v := ((f_Mo_throwing ar sc 1 0 0).2.1) 14 a0.toNatClampNeg) hx hb hr (fun t ht hW => ⟨⟨((f_Mo_throwing ar sc 1 0 0).2.1) 14 a0.toNatClampNeg, ((f_Mo_throwing ar sc 1 0 0).2.1, (f_Mo_throwing ar sc 1 0 0).2.2), rfl, hv, by dsimp only; rw [ht]; exact hP⟩, hS.F ht⟩) hS.2.2 d_Mo_findingAt_121
    · have h := h.2 c34
      refine lv_iconst (v := 0) hx hb d_Mo_findingAt_37 (by decide) ?_
      have hv : ((0, (f_Mo_throwing ar sc 1 0 0).2.1, (f_Mo_throwing ar sc 1 0 0).2.2) : Int32 × (Nat → Nat → Int32) × (Nat → Int32)) = f_Mo_findingAt ar sc a0 a1 := by rw [f_Mo_findingAt, if_pos c12, if_neg c34]
      exact W.iret (v := 0) hx hb hr (fun t ht hW => ⟨⟨0, ((f_Mo_throwing ar sc 1 0 0).2.1, (f_Mo_throwing ar sc 1 0 0).2.2), rfl, hv, by dsimp only; rw [ht]; exact hP⟩, hS.F ht⟩) hS.2.2 d_Mo_findingAt_38
  · have h := h.2 c12
    refine lv_iload_n hx hb d_Mo_findingAt_15 rfl (lv_at hl 2 rfl) ?_
    refine lv_iconst (v := 0) hx hb d_Mo_findingAt_16 (by decide) ?_
    refine lv_iconst (v := 4) hx hb d_Mo_findingAt_17 (by decide) ?_
    refine r_Mo_in hF m_195 hl.1 ⟨Nat.le_of_ble_eq_true rfl, Nat.le_of_ble_eq_true rfl⟩ ⟨Nat.zero_le _, Nat.zero_le _⟩ (Nat.le_of_ble_eq_true rfl) d_Mo_findingAt_18 ?_
    refine lv_if_ne (tgt := 28) hx hb d_Mo_findingAt_21 (by decide) (fun c21 => ?_) (fun c21 => ?_)
    · have h := h.2 c21
      refine lv_iconst (v := 0) hx hb d_Mo_findingAt_28 (by decide) ?_
      refine lv_iconst (v := 0) hx hb d_Mo_findingAt_29 (by decide) ?_
      refine lv_iconst (v := 0) hx hb d_Mo_findingAt_30 (by decide) ?_
      refine r_Mo_throwing hF hK hP hL hS m_283 hl.1 ⟨Nat.le_of_ble_eq_true rfl, Nat.le_of_ble_eq_true rfl⟩ ⟨Nat.zero_le _, Nat.zero_le _⟩ (Nat.le_of_ble_eq_true rfl) d_Mo_findingAt_31 (fun H locs hP hS => ?_)
      refine lv_if_eq (tgt := 39) hx hb d_Mo_findingAt_34 (by decide) (fun c34 => ?_) (fun c34 => ?_)
      · have h := h.1 c34
        refine lv_iload_n hx hb d_Mo_findingAt_39 rfl (lv_at hl 2 rfl) ?_
        by_cases c40_0 : a1 = 0
        · have h := h.1 c40_0
          refine lv_tableIn (off := 32) (tgt := 72) hx hb d_Mo_findingAt_40 (by rw [c40_0]; decide) (by rw [c40_0]; decide) (by rw [c40_0]; decide) (by decide) ?_
          refine lv_aload_n hx hb d_Mo_findingAt_72 rfl (lv_at hl 0 rfl) ?_
          refine gf_Mo_of hF hK hP m_206 d_Mo_findingAt_73 ?_
          refine lv_iload_n hx hb d_Mo_findingAt_76 rfl (lv_at hl 1 rfl) ?_
          have k77 := h
          refine alM_11 hF hK hP k77 d_Mo_findingAt_77 ?_
          have hv : ((((f_Mo_throwing ar sc 0 0 0).2.1) 11 a0.toNatClampNeg, (f_Mo_throwing ar sc 0 0 0).2.1, (f_Mo_throwing ar sc 0 0 0).2.2) : Int32 × (Nat → Nat → Int32) × (Nat → Int32)) = f_Mo_findingAt ar sc a0 a1 := by rw [f_Mo_findingAt, if_neg c12, if_neg c21, if_pos c34, if_pos c40_0]
          exact W.iret (v := ((f_Mo_throwing ar sc 0 0 0).2.1) 11 a0.toNatClampNeg) hx hb hr (fun t ht hW => ⟨⟨((f_Mo_throwing ar sc 0 0 0).2.1) 11 a0.toNatClampNeg, ((f_Mo_throwing ar sc 0 0 0).2.1, (f_Mo_throwing ar sc 0 0 0).2.2), rfl, hv, by dsimp only; rw [ht]; exact hP⟩, hS.F ht⟩) hS.2.2 d_Mo_findingAt_78
        · have h := h.2 c40_0
          by_cases c40_1 : a1 = 1
          · have h := h.1 c40_1
            refine lv_tableIn (off := 39) (tgt := 79) hx hb d_Mo_findingAt_40 (by rw [c40_1]; decide) (by rw [c40_1]; decide) (by rw [c40_1]; decide) (by decide) ?_
            refine lv_aload_n hx hb d_Mo_findingAt_79 rfl (lv_at hl 0 rfl) ?_
            refine gf_Mo_proof hF hK hP m_199 d_Mo_findingAt_80 ?_
            refine lv_iload_n hx hb d_Mo_findingAt_83 rfl (lv_at hl 1 rfl) ?_
            have k84 := h
            refine alM_14 hF hK hP k84 d_Mo_findingAt_84 ?_
            refine lv_if_ne (tgt := 92) hx hb d_Mo_findingAt_85 (by decide) (fun c85 => ?_) (fun c85 => ?_)
            · refine lv_iconst (v := 0) hx hb d_Mo_findingAt_92 (by decide) ?_
              have hv : ((0, (f_Mo_throwing ar sc 0 0 0).2.1, (f_Mo_throwing ar sc 0 0 0).2.2) : Int32 × (Nat → Nat → Int32) × (Nat → Int32)) = f_Mo_findingAt ar sc a0 a1 := by rw [f_Mo_findingAt, if_neg c12, if_neg c21, if_pos c34, if_neg c40_0, if_pos c40_1, if_neg c85]
              exact W.iret (v := 0) hx hb hr (fun t ht hW => ⟨⟨0, ((f_Mo_throwing ar sc 0 0 0).2.1, (f_Mo_throwing ar sc 0 0 0).2.2), rfl, hv, by dsimp only; rw [ht]; exact hP⟩, hS.F ht⟩) hS.2.2 d_Mo_findingAt_93
            · refine lv_iconst (v := 1) hx hb d_Mo_findingAt_88 (by decide) ?_
              refine lv_goto (tgt := 93) hx hb d_Mo_findingAt_89 (by decide) ?_
              have hv : ((1, (f_Mo_throwing ar sc 0 0 0).2.1, (f_Mo_throwing ar sc 0 0 0).2.2) : Int32 × (Nat → Nat → Int32) × (Nat → Int32)) = f_Mo_findingAt ar sc a0 a1 := by rw [f_Mo_findingAt, if_neg c12, if_neg c21, if_pos c34, if_neg c40_0, if_pos c40_1, if_pos c85]
              exact W.iret (v := 1) hx hb hr (fun t ht hW => ⟨⟨1, ((f_Mo_throwing ar sc 0 0 0).2.1, (f_Mo_throwing ar sc 0 0 0).2.2), rfl, hv, by dsimp only; rw [ht]; exact hP⟩, hS.F ht⟩) hS.2.2 d_Mo_findingAt_93
          · have h := h.2 c40_1
            by_cases c40_2 : a1 = 2
            · have h := h.1 c40_2
              refine lv_tableIn (off := 54) (tgt := 94) hx hb d_Mo_findingAt_40 (by rw [c40_2]; decide) (by rw [c40_2]; decide) (by rw [c40_2]; decide) (by decide) ?_
              refine lv_aload_n hx hb d_Mo_findingAt_94 rfl (lv_at hl 0 rfl) ?_
              refine lv_iload_n hx hb d_Mo_findingAt_95 rfl (lv_at hl 1 rfl) ?_
              have k96 := h
              refine r_Mo_isMissed hF hK hP k96 m_207 hl.1 ⟨Nat.le_of_ble_eq_true rfl, Nat.le_of_ble_eq_true rfl⟩ ⟨Nat.zero_le _, Nat.zero_le _⟩ (Nat.le_of_ble_eq_true rfl) d_Mo_findingAt_96 ?_
              refine lv_if_eq (tgt := 106) hx hb d_Mo_findingAt_99 (by decide) (fun c99 => ?_) (fun c99 => ?_)
              · refine lv_iconst (v := 0) hx hb d_Mo_findingAt_106 (by decide) ?_
                have hv : ((0, (f_Mo_throwing ar sc 0 0 0).2.1, (f_Mo_throwing ar sc 0 0 0).2.2) : Int32 × (Nat → Nat → Int32) × (Nat → Int32)) = f_Mo_findingAt ar sc a0 a1 := by rw [f_Mo_findingAt, if_neg c12, if_neg c21, if_pos c34, if_neg c40_0, if_neg c40_1, if_pos c40_2, if_pos c99]
                exact W.iret (v := 0) hx hb hr (fun t ht hW => ⟨⟨0, ((f_Mo_throwing ar sc 0 0 0).2.1, (f_Mo_throwing ar sc 0 0 0).2.2), rfl, hv, by dsimp only; rw [ht]; exact hP⟩, hS.F ht⟩) hS.2.2 d_Mo_findingAt_107
              · refine lv_iconst (v := 1) hx hb d_Mo_findingAt_102 (by decide) ?_
                refine lv_goto (tgt := 107) hx hb d_Mo_findingAt_103 (by decide) ?_
                have hv : ((1, (f_Mo_throwing ar sc 0 0 0).2.1, (f_Mo_throwing ar sc 0 0 0).2.2) : Int32 × (Nat → Nat → Int32) × (Nat → Int32)) = f_Mo_findingAt ar sc a0 a1 := by rw [f_Mo_findingAt, if_neg c12, if_neg c21, if_pos c34, if_neg c40_0, if_neg c40_1, if_pos c40_2, if_neg c99]
                exact W.iret (v := 1) hx hb hr (fun t ht hW => ⟨⟨1, ((f_Mo_throwing ar sc 0 0 0).2.1, (f_Mo_throwing ar sc 0 0 0).2.2), rfl, hv, by dsimp only; rw [ht]; exact hP⟩, hS.F ht⟩) hS.2.2 d_Mo_findingAt_107
            · have h := h.2 c40_2
              by_cases c40_3 : a1 = 3
              · have h := h.1 c40_3
                refine lv_tableIn (off := 68) (tgt := 108) hx hb d_Mo_findingAt_40 (by rw [c40_3]; decide) (by rw [c40_3]; decide) (by rw [c40_3]; decide) (by decide) ?_
                refine lv_aload_n hx hb d_Mo_findingAt_108 rfl (lv_at hl 0 rfl) ?_
                refine gf_Mo_until hF hK hP m_201 d_Mo_findingAt_109 ?_
                refine lv_iload_n hx hb d_Mo_findingAt_112 rfl (lv_at hl 1 rfl) ?_
                have k113 := h
                refine alM_13 hF hK hP k113 d_Mo_findingAt_113 ?_
                have hv : ((((f_Mo_throwing ar sc 0 0 0).2.1) 13 a0.toNatClampNeg, (f_Mo_throwing ar sc 0 0 0).2.1, (f_Mo_throwing ar sc 0 0 0).2.2) : Int32 × (Nat → Nat → Int32) × (Nat → Int32)) = f_Mo_findingAt ar sc a0 a1 := by rw [f_Mo_findingAt, if_neg c12, if_neg c21, if_pos c34, if_neg c40_0, if_neg c40_1, if_neg c40_2, if_pos c40_3]
                exact W.iret (v := ((f_Mo_throwing ar sc 0 0 0).2.1) 13 a0.toNatClampNeg) hx hb hr (fun t ht hW => ⟨⟨((f_Mo_throwing ar sc 0 0 0).2.1) 13 a0.toNatClampNeg, ((f_Mo_throwing ar sc 0 0 0).2.1, (f_Mo_throwing ar sc 0 0 0).2.2), rfl, hv, by dsimp only; rw [ht]; exact hP⟩, hS.F ht⟩) hS.2.2 d_Mo_findingAt_114
              · have h := h.2 c40_3
                refine lv_tableOut (tgt := 115) hx hb d_Mo_findingAt_40 (by have h0 := lv_neT (a := 0) c40_0 rfl; have h1 := lv_neT (a := 1) c40_1 rfl; have h2 := lv_neT (a := 2) c40_2 rfl; have h3 := lv_neT (a := 3) c40_3 rfl; omega) (by decide) ?_
                refine lv_aload_n hx hb d_Mo_findingAt_115 rfl (lv_at hl 0 rfl) ?_
                refine gf_Mo_proof hF hK hP m_199 d_Mo_findingAt_116 ?_
                refine lv_iload_n hx hb d_Mo_findingAt_119 rfl (lv_at hl 1 rfl) ?_
                have k120 := h
                refine alM_14 hF hK hP k120 d_Mo_findingAt_120 ?_
                have hv : ((((f_Mo_throwing ar sc 0 0 0).2.1) 14 a0.toNatClampNeg, (f_Mo_throwing ar sc 0 0 0).2.1, (f_Mo_throwing ar sc 0 0 0).2.2) : Int32 × (Nat → Nat → Int32) × (Nat → Int32)) = f_Mo_findingAt ar sc a0 a1 := by rw [f_Mo_findingAt, if_neg c12, if_neg c21, if_pos c34, if_neg c40_0, if_neg c40_1, if_neg c40_2, if_neg c40_3]
                exact W.iret (v := ((f_Mo_throwing ar sc 0 0 0).2.1) 14 a0.toNatClampNeg) hx hb hr (fun t ht hW => ⟨⟨((f_Mo_throwing ar sc 0 0 0).2.1) 14 a0.toNatClampNeg, ((f_Mo_throwing ar sc 0 0 0).2.1, (f_Mo_throwing ar sc 0 0 0).2.2), rfl, hv, by dsimp only; rw [ht]; exact hP⟩, hS.F ht⟩) hS.2.2 d_Mo_findingAt_121
      · have h := h.2 c34
        refine lv_iconst (v := 0) hx hb d_Mo_findingAt_37 (by decide) ?_
        have hv : ((0, (f_Mo_throwing ar sc 0 0 0).2.1, (f_Mo_throwing ar sc 0 0 0).2.2) : Int32 × (Nat → Nat → Int32) × (Nat → Int32)) = f_Mo_findingAt ar sc a0 a1 := by rw [f_Mo_findingAt, if_neg c12, if_neg c21, if_neg c34]
        exact W.iret (v := 0) hx hb hr (fun t ht hW => ⟨⟨0, ((f_Mo_throwing ar sc 0 0 0).2.1, (f_Mo_throwing ar sc 0 0 0).2.2), rfl, hv, by dsimp only; rw [ht]; exact hP⟩, hS.F ht⟩) hS.2.2 d_Mo_findingAt_38
    · have h := h.1 c21
      refine lv_iconst (v := 1) hx hb d_Mo_findingAt_24 (by decide) ?_
      refine lv_goto (tgt := 29) hx hb d_Mo_findingAt_25 (by decide) ?_
      refine lv_iconst (v := 0) hx hb d_Mo_findingAt_29 (by decide) ?_
      refine lv_iconst (v := 0) hx hb d_Mo_findingAt_30 (by decide) ?_
      refine r_Mo_throwing hF hK hP hL hS m_283 hl.1 ⟨Nat.le_of_ble_eq_true rfl, Nat.le_of_ble_eq_true rfl⟩ ⟨Nat.zero_le _, Nat.zero_le _⟩ (Nat.le_of_ble_eq_true rfl) d_Mo_findingAt_31 (fun H locs hP hS => ?_)
      refine lv_if_eq (tgt := 39) hx hb d_Mo_findingAt_34 (by decide) (fun c34 => ?_) (fun c34 => ?_)
      · have h := h.1 c34
        refine lv_iload_n hx hb d_Mo_findingAt_39 rfl (lv_at hl 2 rfl) ?_
        by_cases c40_0 : a1 = 0
        · have h := h.1 c40_0
          refine lv_tableIn (off := 32) (tgt := 72) hx hb d_Mo_findingAt_40 (by rw [c40_0]; decide) (by rw [c40_0]; decide) (by rw [c40_0]; decide) (by decide) ?_
          refine lv_aload_n hx hb d_Mo_findingAt_72 rfl (lv_at hl 0 rfl) ?_
          refine gf_Mo_of hF hK hP m_206 d_Mo_findingAt_73 ?_
          refine lv_iload_n hx hb d_Mo_findingAt_76 rfl (lv_at hl 1 rfl) ?_
          have k77 := h
          refine alM_11 hF hK hP k77 d_Mo_findingAt_77 ?_
          have hv : ((((f_Mo_throwing ar sc 1 0 0).2.1) 11 a0.toNatClampNeg, (f_Mo_throwing ar sc 1 0 0).2.1, (f_Mo_throwing ar sc 1 0 0).2.2) : Int32 × (Nat → Nat → Int32) × (Nat → Int32)) = f_Mo_findingAt ar sc a0 a1 := by rw [f_Mo_findingAt, if_neg c12, if_pos c21, if_pos c34, if_pos c40_0]
          exact W.iret (v := ((f_Mo_throwing ar sc 1 0 0).2.1) 11 a0.toNatClampNeg) hx hb hr (fun t ht hW => ⟨⟨((f_Mo_throwing ar sc 1 0 0).2.1) 11 a0.toNatClampNeg, ((f_Mo_throwing ar sc 1 0 0).2.1, (f_Mo_throwing ar sc 1 0 0).2.2), rfl, hv, by dsimp only; rw [ht]; exact hP⟩, hS.F ht⟩) hS.2.2 d_Mo_findingAt_78
        · have h := h.2 c40_0
          by_cases c40_1 : a1 = 1
          · have h := h.1 c40_1
            refine lv_tableIn (off := 39) (tgt := 79) hx hb d_Mo_findingAt_40 (by rw [c40_1]; decide) (by rw [c40_1]; decide) (by rw [c40_1]; decide) (by decide) ?_
            refine lv_aload_n hx hb d_Mo_findingAt_79 rfl (lv_at hl 0 rfl) ?_
            refine gf_Mo_proof hF hK hP m_199 d_Mo_findingAt_80 ?_
            refine lv_iload_n hx hb d_Mo_findingAt_83 rfl (lv_at hl 1 rfl) ?_
            have k84 := h
            refine alM_14 hF hK hP k84 d_Mo_findingAt_84 ?_
            refine lv_if_ne (tgt := 92) hx hb d_Mo_findingAt_85 (by decide) (fun c85 => ?_) (fun c85 => ?_)
            · refine lv_iconst (v := 0) hx hb d_Mo_findingAt_92 (by decide) ?_
              have hv : ((0, (f_Mo_throwing ar sc 1 0 0).2.1, (f_Mo_throwing ar sc 1 0 0).2.2) : Int32 × (Nat → Nat → Int32) × (Nat → Int32)) = f_Mo_findingAt ar sc a0 a1 := by rw [f_Mo_findingAt, if_neg c12, if_pos c21, if_pos c34, if_neg c40_0, if_pos c40_1, if_neg c85]
              exact W.iret (v := 0) hx hb hr (fun t ht hW => ⟨⟨0, ((f_Mo_throwing ar sc 1 0 0).2.1, (f_Mo_throwing ar sc 1 0 0).2.2), rfl, hv, by dsimp only; rw [ht]; exact hP⟩, hS.F ht⟩) hS.2.2 d_Mo_findingAt_93
            · refine lv_iconst (v := 1) hx hb d_Mo_findingAt_88 (by decide) ?_
              refine lv_goto (tgt := 93) hx hb d_Mo_findingAt_89 (by decide) ?_
              have hv : ((1, (f_Mo_throwing ar sc 1 0 0).2.1, (f_Mo_throwing ar sc 1 0 0).2.2) : Int32 × (Nat → Nat → Int32) × (Nat → Int32)) = f_Mo_findingAt ar sc a0 a1 := by rw [f_Mo_findingAt, if_neg c12, if_pos c21, if_pos c34, if_neg c40_0, if_pos c40_1, if_pos c85]
              exact W.iret (v := 1) hx hb hr (fun t ht hW => ⟨⟨1, ((f_Mo_throwing ar sc 1 0 0).2.1, (f_Mo_throwing ar sc 1 0 0).2.2), rfl, hv, by dsimp only; rw [ht]; exact hP⟩, hS.F ht⟩) hS.2.2 d_Mo_findingAt_93
          · have h := h.2 c40_1
            by_cases c40_2 : a1 = 2
            · have h := h.1 c40_2
              refine lv_tableIn (off := 54) (tgt := 94) hx hb d_Mo_findingAt_40 (by rw [c40_2]; decide) (by rw [c40_2]; decide) (by rw [c40_2]; decide) (by decide) ?_
              refine lv_aload_n hx hb d_Mo_findingAt_94 rfl (lv_at hl 0 rfl) ?_
              refine lv_iload_n hx hb d_Mo_findingAt_95 rfl (lv_at hl 1 rfl) ?_
              have k96 := h
              refine r_Mo_isMissed hF hK hP k96 m_207 hl.1 ⟨Nat.le_of_ble_eq_true rfl, Nat.le_of_ble_eq_true rfl⟩ ⟨Nat.zero_le _, Nat.zero_le _⟩ (Nat.le_of_ble_eq_true rfl) d_Mo_findingAt_96 ?_
              refine lv_if_eq (tgt := 106) hx hb d_Mo_findingAt_99 (by decide) (fun c99 => ?_) (fun c99 => ?_)
              · refine lv_iconst (v := 0) hx hb d_Mo_findingAt_106 (by decide) ?_
                have hv : ((0, (f_Mo_throwing ar sc 1 0 0).2.1, (f_Mo_throwing ar sc 1 0 0).2.2) : Int32 × (Nat → Nat → Int32) × (Nat → Int32)) = f_Mo_findingAt ar sc a0 a1 := by rw [f_Mo_findingAt, if_neg c12, if_pos c21, if_pos c34, if_neg c40_0, if_neg c40_1, if_pos c40_2, if_pos c99]
                exact W.iret (v := 0) hx hb hr (fun t ht hW => ⟨⟨0, ((f_Mo_throwing ar sc 1 0 0).2.1, (f_Mo_throwing ar sc 1 0 0).2.2), rfl, hv, by dsimp only; rw [ht]; exact hP⟩, hS.F ht⟩) hS.2.2 d_Mo_findingAt_107
              · refine lv_iconst (v := 1) hx hb d_Mo_findingAt_102 (by decide) ?_
                refine lv_goto (tgt := 107) hx hb d_Mo_findingAt_103 (by decide) ?_
                have hv : ((1, (f_Mo_throwing ar sc 1 0 0).2.1, (f_Mo_throwing ar sc 1 0 0).2.2) : Int32 × (Nat → Nat → Int32) × (Nat → Int32)) = f_Mo_findingAt ar sc a0 a1 := by rw [f_Mo_findingAt, if_neg c12, if_pos c21, if_pos c34, if_neg c40_0, if_neg c40_1, if_pos c40_2, if_neg c99]
                exact W.iret (v := 1) hx hb hr (fun t ht hW => ⟨⟨1, ((f_Mo_throwing ar sc 1 0 0).2.1, (f_Mo_throwing ar sc 1 0 0).2.2), rfl, hv, by dsimp only; rw [ht]; exact hP⟩, hS.F ht⟩) hS.2.2 d_Mo_findingAt_107
            · have h := h.2 c40_2
              by_cases c40_3 : a1 = 3
              · have h := h.1 c40_3
                refine lv_tableIn (off := 68) (tgt := 108) hx hb d_Mo_findingAt_40 (by rw [c40_3]; decide) (by rw [c40_3]; decide) (by rw [c40_3]; decide) (by decide) ?_
                refine lv_aload_n hx hb d_Mo_findingAt_108 rfl (lv_at hl 0 rfl) ?_
                refine gf_Mo_until hF hK hP m_201 d_Mo_findingAt_109 ?_
                refine lv_iload_n hx hb d_Mo_findingAt_112 rfl (lv_at hl 1 rfl) ?_
                have k113 := h
                refine alM_13 hF hK hP k113 d_Mo_findingAt_113 ?_
                have hv : ((((f_Mo_throwing ar sc 1 0 0).2.1) 13 a0.toNatClampNeg, (f_Mo_throwing ar sc 1 0 0).2.1, (f_Mo_throwing ar sc 1 0 0).2.2) : Int32 × (Nat → Nat → Int32) × (Nat → Int32)) = f_Mo_findingAt ar sc a0 a1 := by rw [f_Mo_findingAt, if_neg c12, if_pos c21, if_pos c34, if_neg c40_0, if_neg c40_1, if_neg c40_2, if_pos c40_3]
                exact W.iret (v := ((f_Mo_throwing ar sc 1 0 0).2.1) 13 a0.toNatClampNeg) hx hb hr (fun t ht hW => ⟨⟨((f_Mo_throwing ar sc 1 0 0).2.1) 13 a0.toNatClampNeg, ((f_Mo_throwing ar sc 1 0 0).2.1, (f_Mo_throwing ar sc 1 0 0).2.2), rfl, hv, by dsimp only; rw [ht]; exact hP⟩, hS.F ht⟩) hS.2.2 d_Mo_findingAt_114
              · have h := h.2 c40_3
                refine lv_tableOut (tgt := 115) hx hb d_Mo_findingAt_40 (by have h0 := lv_neT (a := 0) c40_0 rfl; have h1 := lv_neT (a := 1) c40_1 rfl; have h2 := lv_neT (a := 2) c40_2 rfl; have h3 := lv_neT (a := 3) c40_3 rfl; omega) (by decide) ?_
                refine lv_aload_n hx hb d_Mo_findingAt_115 rfl (lv_at hl 0 rfl) ?_
                refine gf_Mo_proof hF hK hP m_199 d_Mo_findingAt_116 ?_
                refine lv_iload_n hx hb d_Mo_findingAt_119 rfl (lv_at hl 1 rfl) ?_
                have k120 := h
                refine alM_14 hF hK hP k120 d_Mo_findingAt_120 ?_
                have hv : ((((f_Mo_throwing ar sc 1 0 0).2.1) 14 a0.toNatClampNeg, (f_Mo_throwing ar sc 1 0 0).2.1, (f_Mo_throwing ar sc 1 0 0).2.2) : Int32 × (Nat → Nat → Int32) × (Nat → Int32)) = f_Mo_findingAt ar sc a0 a1 := by rw [f_Mo_findingAt, if_neg c12, if_pos c21, if_pos c34, if_neg c40_0, if_neg c40_1, if_neg c40_2, if_neg c40_3]
                exact W.iret (v := ((f_Mo_throwing ar sc 1 0 0).2.1) 14 a0.toNatClampNeg) hx hb hr (fun t ht hW => ⟨⟨((f_Mo_throwing ar sc 1 0 0).2.1) 14 a0.toNatClampNeg, ((f_Mo_throwing ar sc 1 0 0).2.1, (f_Mo_throwing ar sc 1 0 0).2.2), rfl, hv, by dsimp only; rw [ht]; exact hP⟩, hS.F ht⟩) hS.2.2 d_Mo_findingAt_121
      · have h := h.2 c34
        refine lv_iconst (v := 0) hx hb d_Mo_findingAt_37 (by decide) ?_
        have hv : ((0, (f_Mo_throwing ar sc 1 0 0).2.1, (f_Mo_throwing ar sc 1 0 0).2.2) : Int32 × (Nat → Nat → Int32) × (Nat → Int32)) = f_Mo_findingAt ar sc a0 a1 := by rw [f_Mo_findingAt, if_neg c12, if_pos c21, if_neg c34]
        exact W.iret (v := 0) hx hb hr (fun t ht hW => ⟨⟨0, ((f_Mo_throwing ar sc 1 0 0).2.1, (f_Mo_throwing ar sc 1 0 0).2.2), rfl, hv, by dsimp only; rw [ht]; exact hP⟩, hS.F ht⟩) hS.2.2 d_Mo_findingAt_38
set_option maxHeartbeats 1000000 in
theorem r_Mo_findingAt {p : Program} {l : Launch} {e : Env} {R : Room} {s : State} {m : MethodId} {args : Array Value} {below : List Frame} {meth : Method} {c : Code} {H : Heap} {locs : List Loc} {cells slots : Nat} {Q : State → Prop} {cc : ByteArray} {nL pc idx : Nat} {ls : Array Slot} {rest : List Value} {own : String} {dC : Nat → ClassId} {dI : Nat → Nat → Nat} {L : Nat → Nat} {cA : Nat → ClassId} {ar : Nat → Nat → Int32} {sc : Nat → Int32} {H0 : Heap} {a0 : Int32} {a1 : Int32} (hF : CallFix p m c cc nL s args w_all own) (hK : kW_M dC dI cA s) (hP : va_P (dC, dI) classes (wM L cA ar sc) H) (hL : ij 25 L) (hS : va_S (aM L) H0 H locs) (h : p_Mo_findingAt ar sc a0 a1) (hlk : Cond.methodLink own idx y_Mo_findingAt ∈ w_all) (hsz : ls.size = nL) (hR : (rmD 5).frames + 1 ≤ R.frames ∧ 8 + (3 + 11) + (rmD 5).locals ≤ R.locals) (hc : cells ≤ R.cells ∧ slots ≤ R.slots) (hrs : (rest.map fun v => v.category).sum ≤ 8) (hdg : decode cc pc = .ok (.invokevirtual idx, 3)) (kk : ∀ (H1 : Heap) (locs1 : List Loc), va_P (dC, dI) classes (wM L cA ((f_Mo_findingAt ar sc a0 a1).2.1) ((f_Mo_findingAt ar sc a0 a1).2.2)) H1 → va_S (aM L) H0 H1 locs1 → W p l e R s m args below meth c H1 locs1 cells slots Q (F0 m (pc + 3) ls (.int (f_Mo_findingAt ar sc a0 a1).1 :: rest))) : W p l e R s m args below meth c H locs cells slots Q (F0 m pc ls (.int a1 :: .int a0 :: .ref (L 0) :: rest)) :=
  va_calli (va_runV (As := [.int a0, .int a1]) (rest := rest) hF (c_Mo_findingAt l dC dI L cA ar sc a0 a1 hL h) (cwV 2 hF.2.2.2.2 (gV hlk m_312 m_313 m_187 m_314) rfl rfl rfl (by decide +kernel) hR) ⟨xb_M, va_recv hK.1 hP (ci := 7) (q0 := 0) rfl rfl, fun U hU hW => ⟨rfl, by rw [hU]; exact hP, kW_M_warm hW hK⟩⟩ rfl rfl hsz rfl (lv_room hrs) hdg hc) hS (fun q _ h9 => h9) (fun q h9 => h9) (fun r u t H1 locs1 ht hvm hw hB hz1 hk1 hS1 => by
    have hk9 := kk H1 locs1 (by rw [← hw, ← ht]; exact hB) hS1
    rw [← hw] at hk9
    exact hk9)
theorem d_Mo_pointAt_0 : decode b_Mo_pointAt 0 = .ok (.aload_n 0, 1) := by decide +kernel
theorem d_Mo_pointAt_1 : decode b_Mo_pointAt 1 = .ok (.aload_n 0, 1) := by decide +kernel
theorem d_Mo_pointAt_2 : decode b_Mo_pointAt 2 = .ok (.iload_n 1, 1) := by decide +kernel
theorem d_Mo_pointAt_3 : decode b_Mo_pointAt 3 = .ok (.invokevirtual 113, 3) := by decide +kernel
theorem d_Mo_pointAt_6 : decode b_Mo_pointAt 6 = .ok (.ifCond .eq 12, 3) := by decide +kernel
theorem d_Mo_pointAt_9 : decode b_Mo_pointAt 9 = .ok (.iload_n 2, 1) := by decide +kernel
theorem d_Mo_pointAt_10 : decode b_Mo_pointAt 10 = .ok (.iconst 0, 1) := by decide +kernel
theorem d_Mo_pointAt_11 : decode b_Mo_pointAt 11 = .ok (.iconst 4, 1) := by decide +kernel
theorem d_Mo_pointAt_12 : decode b_Mo_pointAt 12 = .ok (.invokestatic 100, 3) := by decide +kernel
theorem d_Mo_pointAt_15 : decode b_Mo_pointAt 15 = .ok (.ifCond .ne 7, 3) := by decide +kernel
theorem d_Mo_pointAt_18 : decode b_Mo_pointAt 18 = .ok (.iconst 1, 1) := by decide +kernel
theorem d_Mo_pointAt_19 : decode b_Mo_pointAt 19 = .ok (.goto 4, 3) := by decide +kernel
theorem d_Mo_pointAt_22 : decode b_Mo_pointAt 22 = .ok (.iconst 0, 1) := by decide +kernel
theorem d_Mo_pointAt_23 : decode b_Mo_pointAt 23 = .ok (.iconst 0, 1) := by decide +kernel
theorem d_Mo_pointAt_24 : decode b_Mo_pointAt 24 = .ok (.iconst 0, 1) := by decide +kernel
theorem d_Mo_pointAt_25 : decode b_Mo_pointAt 25 = .ok (.invokevirtual 104, 3) := by decide +kernel
theorem d_Mo_pointAt_28 : decode b_Mo_pointAt 28 = .ok (.ifCond .eq 5, 3) := by decide +kernel
theorem d_Mo_pointAt_31 : decode b_Mo_pointAt 31 = .ok (.iconst 0, 1) := by decide +kernel
theorem d_Mo_pointAt_32 : decode b_Mo_pointAt 32 = .ok (.ireturn, 1) := by decide +kernel
theorem d_Mo_pointAt_33 : decode b_Mo_pointAt 33 = .ok (.iconst 0, 1) := by decide +kernel
theorem d_Mo_pointAt_34 : decode b_Mo_pointAt 34 = .ok (.istore_n 3, 1) := by decide +kernel
theorem d_Mo_pointAt_35 : decode b_Mo_pointAt 35 = .ok (.iconst 0, 1) := by decide +kernel
theorem d_Mo_pointAt_36 : decode b_Mo_pointAt 36 = .ok (.istore 4, 2) := by decide +kernel
theorem d_Mo_pointAt_38 : decode b_Mo_pointAt 38 = .ok (.iload 4, 2) := by decide +kernel
theorem d_Mo_pointAt_40 : decode b_Mo_pointAt 40 = .ok (.aload_n 0, 1) := by decide +kernel
theorem d_Mo_pointAt_41 : decode b_Mo_pointAt 41 = .ok (.getfield 117, 3) := by decide +kernel
theorem d_Mo_pointAt_44 : decode b_Mo_pointAt 44 = .ok (.if_icmp .ge 38, 3) := by decide +kernel
theorem d_Mo_pointAt_47 : decode b_Mo_pointAt 47 = .ok (.iload_n 3, 1) := by decide +kernel
theorem d_Mo_pointAt_48 : decode b_Mo_pointAt 48 = .ok (.aload_n 0, 1) := by decide +kernel
theorem d_Mo_pointAt_49 : decode b_Mo_pointAt 49 = .ok (.getfield 40, 3) := by decide +kernel
theorem d_Mo_pointAt_52 : decode b_Mo_pointAt 52 = .ok (.iload 4, 2) := by decide +kernel
theorem d_Mo_pointAt_54 : decode b_Mo_pointAt 54 = .ok (.iaload, 1) := by decide +kernel
theorem d_Mo_pointAt_55 : decode b_Mo_pointAt 55 = .ok (.iload_n 1, 1) := by decide +kernel
theorem d_Mo_pointAt_56 : decode b_Mo_pointAt 56 = .ok (.if_icmp .ne 17, 3) := by decide +kernel
theorem d_Mo_pointAt_59 : decode b_Mo_pointAt 59 = .ok (.aload_n 0, 1) := by decide +kernel
theorem d_Mo_pointAt_60 : decode b_Mo_pointAt 60 = .ok (.getfield 49, 3) := by decide +kernel
theorem d_Mo_pointAt_63 : decode b_Mo_pointAt 63 = .ok (.iload 4, 2) := by decide +kernel
theorem d_Mo_pointAt_65 : decode b_Mo_pointAt 65 = .ok (.iaload, 1) := by decide +kernel
theorem d_Mo_pointAt_66 : decode b_Mo_pointAt 66 = .ok (.ifCond .ne 7, 3) := by decide +kernel
theorem d_Mo_pointAt_69 : decode b_Mo_pointAt 69 = .ok (.iconst 1, 1) := by decide +kernel
theorem d_Mo_pointAt_70 : decode b_Mo_pointAt 70 = .ok (.goto 4, 3) := by decide +kernel
theorem d_Mo_pointAt_73 : decode b_Mo_pointAt 73 = .ok (.iconst 0, 1) := by decide +kernel
theorem d_Mo_pointAt_74 : decode b_Mo_pointAt 74 = .ok (.iadd, 1) := by decide +kernel
theorem d_Mo_pointAt_75 : decode b_Mo_pointAt 75 = .ok (.istore_n 3, 1) := by decide +kernel
theorem d_Mo_pointAt_76 : decode b_Mo_pointAt 76 = .ok (.iinc 4 1, 3) := by decide +kernel
theorem d_Mo_pointAt_79 : decode b_Mo_pointAt 79 = .ok (.goto (-41), 3) := by decide +kernel
theorem d_Mo_pointAt_82 : decode b_Mo_pointAt 82 = .ok (.iload_n 2, 1) := by decide +kernel
theorem d_Mo_pointAt_83 : decode b_Mo_pointAt 83 = .ok (.ifCond .ne 11, 3) := by decide +kernel
theorem d_Mo_pointAt_86 : decode b_Mo_pointAt 86 = .ok (.aload_n 0, 1) := by decide +kernel
theorem d_Mo_pointAt_87 : decode b_Mo_pointAt 87 = .ok (.iload_n 1, 1) := by decide +kernel
theorem d_Mo_pointAt_88 : decode b_Mo_pointAt 88 = .ok (.invokevirtual 123, 3) := by decide +kernel
theorem d_Mo_pointAt_91 : decode b_Mo_pointAt 91 = .ok (.goto 44, 3) := by decide +kernel
theorem d_Mo_pointAt_94 : decode b_Mo_pointAt 94 = .ok (.iload_n 2, 1) := by decide +kernel
theorem d_Mo_pointAt_95 : decode b_Mo_pointAt 95 = .ok (.iconst 1, 1) := by decide +kernel
theorem d_Mo_pointAt_96 : decode b_Mo_pointAt 96 = .ok (.if_icmp .ne 11, 3) := by decide +kernel
theorem d_Mo_pointAt_99 : decode b_Mo_pointAt 99 = .ok (.aload_n 0, 1) := by decide +kernel
theorem d_Mo_pointAt_100 : decode b_Mo_pointAt 100 = .ok (.iload_n 1, 1) := by decide +kernel
theorem d_Mo_pointAt_101 : decode b_Mo_pointAt 101 = .ok (.invokevirtual 127, 3) := by decide +kernel
theorem d_Mo_pointAt_104 : decode b_Mo_pointAt 104 = .ok (.goto 31, 3) := by decide +kernel
theorem d_Mo_pointAt_107 : decode b_Mo_pointAt 107 = .ok (.iload_n 2, 1) := by decide +kernel
theorem d_Mo_pointAt_108 : decode b_Mo_pointAt 108 = .ok (.iconst 2, 1) := by decide +kernel
theorem d_Mo_pointAt_109 : decode b_Mo_pointAt 109 = .ok (.if_icmp .ne 12, 3) := by decide +kernel
theorem d_Mo_pointAt_112 : decode b_Mo_pointAt 112 = .ok (.aload_n 0, 1) := by decide +kernel
theorem d_Mo_pointAt_113 : decode b_Mo_pointAt 113 = .ok (.getfield 37, 3) := by decide +kernel
theorem d_Mo_pointAt_116 : decode b_Mo_pointAt 116 = .ok (.iload_n 1, 1) := by decide +kernel
theorem d_Mo_pointAt_117 : decode b_Mo_pointAt 117 = .ok (.iaload, 1) := by decide +kernel
theorem d_Mo_pointAt_118 : decode b_Mo_pointAt 118 = .ok (.goto 17, 3) := by decide +kernel
theorem d_Mo_pointAt_121 : decode b_Mo_pointAt 121 = .ok (.iload_n 2, 1) := by decide +kernel
theorem d_Mo_pointAt_122 : decode b_Mo_pointAt 122 = .ok (.iconst 3, 1) := by decide +kernel
theorem d_Mo_pointAt_123 : decode b_Mo_pointAt 123 = .ok (.if_icmp .ne 11, 3) := by decide +kernel
theorem d_Mo_pointAt_126 : decode b_Mo_pointAt 126 = .ok (.aload_n 0, 1) := by decide +kernel
theorem d_Mo_pointAt_127 : decode b_Mo_pointAt 127 = .ok (.iload_n 1, 1) := by decide +kernel
theorem d_Mo_pointAt_128 : decode b_Mo_pointAt 128 = .ok (.invokevirtual 134, 3) := by decide +kernel
theorem d_Mo_pointAt_131 : decode b_Mo_pointAt 131 = .ok (.goto 4, 3) := by decide +kernel
theorem d_Mo_pointAt_134 : decode b_Mo_pointAt 134 = .ok (.iload_n 3, 1) := by decide +kernel
theorem d_Mo_pointAt_135 : decode b_Mo_pointAt 135 = .ok (.ireturn, 1) := by decide +kernel
set_option maxHeartbeats 4000000 in
set_option maxRecDepth 100000 in
theorem l_Mo_pointAt_38 {p : Program} {l : Launch} {e : Env} {s : State} {m : MethodId} {args : Array Value} {below : List Frame} {meth : Method} {c : Code} {dC : Nat → ClassId} {dI : Nat → Nat → Nat} {L : Nat → Nat} {cA : Nat → ClassId} {Q : State → Prop} (a0 : Int32) (a1 : Int32)  (hF : CallFix p m c b_Mo_pointAt 5 s args w_all R_Mo) (hK : kW_M dC dI cA s) (hL : ij 25 L) : ∀ (n : Nat) (v3 : Int32) (v4 : Int32) (ar : Nat → Nat → Int32) (sc : Nat → Int32), q_Mo_pointAt_38 a0 a1 n v3 v4 ar sc → ∀ (H : Heap) (locs : List Loc), va_P (dC, dI) classes (wM L cA ar sc) H → va_S (aM L) s.heap H locs → ∀ (ls : Array Slot), lv_has ls 5 [(3, .int v3), (4, .int v4), (0, .ref (L 0)), (1, .int a0), (2, .int a1)] → (∀ (H : Heap) (locs : List Loc) (ls : Array Slot), va_P (dC, dI) classes (wM L cA ((g_Mo_pointAt_38 a0 a1 n v3 v4 ar sc).2.2.1) ((g_Mo_pointAt_38 a0 a1 n v3 v4 ar sc).2.2.2)) H → va_S (aM L) s.heap H locs → lv_has ls 5 [(3, .int ((g_Mo_pointAt_38 a0 a1 n v3 v4 ar sc).1)), (4, .int ((g_Mo_pointAt_38 a0 a1 n v3 v4 ar sc).2.1)), (0, .ref (L 0)), (1, .int a0), (2, .int a1)] → W p l e (rmD 5) s m args below meth c H locs 0 0 Q (F0 m 82 ls [])) → W p l e (rmD 5) s m args below meth c H locs 0 0 Q (F0 m 38 ls []) := by
  have hx := hF.1
  have hb := hF.2.1
  have hown := hF.2.2.2.1
  have hts := hF.2.2.2.2
  intro n
  induction n with
  | zero => intro v3 v4 ar sc h; exact False.elim h
  | succ n ih =>
    intro v3 v4 ar sc h H locs hP hS ls hl hk
    rw [q_Mo_pointAt_38] at h
    refine lv_iload hx hb d_Mo_pointAt_38 (lv_at hl 1 rfl) ?_
    refine lv_aload_n hx hb d_Mo_pointAt_40 rfl (lv_at hl 2 rfl) ?_
    refine gf_Mo_findings hF hK hP m_205 d_Mo_pointAt_41 ?_
    refine lv_icmp_ge (tgt := 82) hx hb d_Mo_pointAt_44 (by decide) (fun c44 => ?_) (fun c44 => ?_)
    · have h := h.1 c44
      have hv : g_Mo_pointAt_38 a0 a1 (n + 1) v3 v4 ar sc = ((v3, v4, ar, sc) : Int32 × Int32 × (Nat → Nat → Int32) × (Nat → Int32)) := by rw [g_Mo_pointAt_38, if_pos c44]
      rw [hv] at hk
      exact hk _ _ ls hP hS (lv_sub hl [0, 1, 2, 3, 4] rfl)
    · have h := h.2 c44
      refine lv_iload_n hx hb d_Mo_pointAt_47 rfl (lv_at hl 0 rfl) ?_
      refine lv_aload_n hx hb d_Mo_pointAt_48 rfl (lv_at hl 2 rfl) ?_
      refine gf_Mo_of hF hK hP m_206 d_Mo_pointAt_49 ?_
      refine lv_iload hx hb d_Mo_pointAt_52 (lv_at hl 1 rfl) ?_
      have k54 := h.1
      have h := h.2
      refine alM_11 hF hK hP k54 d_Mo_pointAt_54 ?_
      refine lv_iload_n hx hb d_Mo_pointAt_55 rfl (lv_at hl 3 rfl) ?_
      refine lv_icmp_ne (tgt := 73) hx hb d_Mo_pointAt_56 (by decide) (fun c56 => ?_) (fun c56 => ?_)
      · have h := h.2 c56
        refine lv_iconst (v := 0) hx hb d_Mo_pointAt_73 (by decide) ?_
        refine lv_iadd hx hb d_Mo_pointAt_74 ?_
        refine lv_istore_n (lv' := [(3, .int (v3 + 0)), (4, .int v4), (0, .ref (L 0)), (1, .int a0), (2, .int a1)]) hx hb d_Mo_pointAt_75 rfl hl (by decide) rfl (fun ls hl => ?_)
        refine lv_iinc (v := v4 + 1) (lv' := [(4, .int (v4 + 1)), (3, .int (v3 + 0)), (0, .ref (L 0)), (1, .int a0), (2, .int a1)]) hx hb d_Mo_pointAt_76 hl (k := 1) rfl rfl (by decide) rfl (fun ls hl => ?_)
        refine lv_goto (tgt := 38) hx hb d_Mo_pointAt_79 (by decide) ?_
        have hv : g_Mo_pointAt_38 a0 a1 (n + 1) v3 v4 ar sc = g_Mo_pointAt_38 a0 a1 n (v3 + 0) (v4 + 1) ar sc := by rw [g_Mo_pointAt_38, if_neg c44, if_neg c56]
        rw [hv] at hk
        exact ih (v3 + 0) (v4 + 1) ar sc h _ _ hP hS ls (lv_sub hl [1, 0, 2, 3, 4] rfl) hk
      · have h := h.1 c56
        refine lv_aload_n hx hb d_Mo_pointAt_59 rfl (lv_at hl 2 rfl) ?_
        refine gf_Mo_proof hF hK hP m_199 d_Mo_pointAt_60 ?_
        refine lv_iload hx hb d_Mo_pointAt_63 (lv_at hl 1 rfl) ?_
        have k65 := h.1
        have h := h.2
        refine alM_14 hF hK hP k65 d_Mo_pointAt_65 ?_
        refine lv_if_ne (tgt := 73) hx hb d_Mo_pointAt_66 (by decide) (fun c66 => ?_) (fun c66 => ?_)
        · have h := h.2 c66
          refine lv_iconst (v := 0) hx hb d_Mo_pointAt_73 (by decide) ?_
          refine lv_iadd hx hb d_Mo_pointAt_74 ?_
          refine lv_istore_n (lv' := [(3, .int (v3 + 0)), (4, .int v4), (0, .ref (L 0)), (1, .int a0), (2, .int a1)]) hx hb d_Mo_pointAt_75 rfl hl (by decide) rfl (fun ls hl => ?_)
          refine lv_iinc (v := v4 + 1) (lv' := [(4, .int (v4 + 1)), (3, .int (v3 + 0)), (0, .ref (L 0)), (1, .int a0), (2, .int a1)]) hx hb d_Mo_pointAt_76 hl (k := 1) rfl rfl (by decide) rfl (fun ls hl => ?_)
          refine lv_goto (tgt := 38) hx hb d_Mo_pointAt_79 (by decide) ?_
          have hv : g_Mo_pointAt_38 a0 a1 (n + 1) v3 v4 ar sc = g_Mo_pointAt_38 a0 a1 n (v3 + 0) (v4 + 1) ar sc := by rw [g_Mo_pointAt_38, if_neg c44, if_pos c56, if_neg c66]
          rw [hv] at hk
          exact ih (v3 + 0) (v4 + 1) ar sc h _ _ hP hS ls (lv_sub hl [1, 0, 2, 3, 4] rfl) hk
        · have h := h.1 c66
          refine lv_iconst (v := 1) hx hb d_Mo_pointAt_69 (by decide) ?_
          refine lv_goto (tgt := 74) hx hb d_Mo_pointAt_70 (by decide) ?_
          refine lv_iadd hx hb d_Mo_pointAt_74 ?_
          refine lv_istore_n (lv' := [(3, .int (v3 + 1)), (4, .int v4), (0, .ref (L 0)), (1, .int a0), (2, .int a1)]) hx hb d_Mo_pointAt_75 rfl hl (by decide) rfl (fun ls hl => ?_)
          refine lv_iinc (v := v4 + 1) (lv' := [(4, .int (v4 + 1)), (3, .int (v3 + 1)), (0, .ref (L 0)), (1, .int a0), (2, .int a1)]) hx hb d_Mo_pointAt_76 hl (k := 1) rfl rfl (by decide) rfl (fun ls hl => ?_)
          refine lv_goto (tgt := 38) hx hb d_Mo_pointAt_79 (by decide) ?_
          have hv : g_Mo_pointAt_38 a0 a1 (n + 1) v3 v4 ar sc = g_Mo_pointAt_38 a0 a1 n (v3 + 1) (v4 + 1) ar sc := by rw [g_Mo_pointAt_38, if_neg c44, if_pos c56, if_pos c66]
          rw [hv] at hk
          exact ih (v3 + 1) (v4 + 1) ar sc h _ _ hP hS ls (lv_sub hl [1, 0, 2, 3, 4] rfl) hk
set_option maxHeartbeats 4000000 in
set_option maxRecDepth 100000 in
theorem c_Mo_pointAt (l : Launch) (dC : Nat → ClassId) (dI : Nat → Nat → Nat) (L : Nat → Nat) (cA : Nat → ClassId) (ar : Nat → Nat → Int32) (sc : Nat → Int32) (a0 : Int32) (a1 : Int32) (hL : ij 25 L) (h : p_Mo_pointAt ar sc a0 a1) : Met l y_Mo_pointAt z_Mo_pointAt (rmD 5) (va_Pc [.ref (L 0), .int a0, .int a1] (fun U => xw_M dC dI L cA ar sc U)) (va_Qi (fun (r : Int32) (u : oS) => (r, u.1, u.2) = f_Mo_pointAt ar sc a0 a1) (fun u t => va_P (dC, dI) classes (wM L cA u.1 u.2) t.heap) (aM L)) 0 0 (aM L) := by
  refine Met.ofW (cc := b_Mo_pointAt) (maxL := 5) (ret := (some .int)) (by decide) rfl ?_
  intro p e s m args below meth c s₁ B hml hv
  obtain ⟨rfl, ⟨hP, hK⟩⟩ := hv
  have hx := B.exec
  have hb := B.bytes
  have hr := B.returns
  have hts : ∀ w ∈ w_all, w.before _ s = true := fun w hw => atoms_spec (ws := z_Mo_pointAt) B.pre w (List.mem_cons_of_mem _ hw)
  have hown : s.vm.findClass R_Mo = some m.cls := findClass_of_methodNamed B.named
  have hlocks := B.notSynchronized
  have hF : CallFix p m c b_Mo_pointAt 5 s _ w_all R_Mo := ⟨hx, hb, hml, hown, hts⟩
  have hS : va_S (aM L) s.heap s.heap [] := va_S.rf
  have hl := lv_entry ([.ref (L 0), .int a0, .int a1]) (n := 5) (Nat.le_of_ble_eq_true rfl)
  rw [lg_entry_eq]
  generalize (lg_sl ([.ref (L 0), .int a0, .int a1]) ++ List.replicate (5 - (lg_sl ([.ref (L 0), .int a0, .int a1])).length) Slot.unset).toArray = ls at hl ⊢
  have hl : lv_has ls 5 [(0, .ref (L 0)), (1, .int a0), (2, .int a1)] := hl
  unfold p_Mo_pointAt at h
  refine lv_aload_n hx hb d_Mo_pointAt_0 rfl (lv_at hl 0 rfl) ?_
  refine lv_aload_n hx hb d_Mo_pointAt_1 rfl (lv_at hl 0 rfl) ?_
  refine lv_iload_n hx hb d_Mo_pointAt_2 rfl (lv_at hl 1 rfl) ?_
  refine r_Mo_isPoint hF hK hP m_302 hl.1 ⟨Nat.le_of_ble_eq_true rfl, Nat.le_of_ble_eq_true rfl⟩ ⟨Nat.zero_le _, Nat.zero_le _⟩ (Nat.le_of_ble_eq_true rfl) d_Mo_pointAt_3 ?_
  refine lv_if_eq (tgt := 18) hx hb d_Mo_pointAt_6 (by decide) (fun c6 => ?_) (fun c6 => ?_)
  · have h := h.1 c6
    refine lv_iconst (v := 1) hx hb d_Mo_pointAt_18 (by decide) ?_
    refine lv_goto (tgt := 23) hx hb d_Mo_pointAt_19 (by decide) ?_
    refine lv_iconst (v := 0) hx hb d_Mo_pointAt_23 (by decide) ?_
    refine lv_iconst (v := 0) hx hb d_Mo_pointAt_24 (by decide) ?_
    refine r_Mo_throwing hF hK hP hL hS m_283 hl.1 ⟨Nat.le_of_ble_eq_true rfl, Nat.le_of_ble_eq_true rfl⟩ ⟨Nat.zero_le _, Nat.zero_le _⟩ (Nat.le_of_ble_eq_true rfl) d_Mo_pointAt_25 (fun H locs hP hS => ?_)
    refine lv_if_eq (tgt := 33) hx hb d_Mo_pointAt_28 (by decide) (fun c28 => ?_) (fun c28 => ?_)
    · have h := h.1 c28
      refine lv_iconst (v := 0) hx hb d_Mo_pointAt_33 (by decide) ?_
      refine lv_istore_n (lv' := [(3, .int 0), (0, .ref (L 0)), (1, .int a0), (2, .int a1)]) hx hb d_Mo_pointAt_34 rfl hl (by decide) rfl (fun ls hl => ?_)
      refine lv_iconst (v := 0) hx hb d_Mo_pointAt_35 (by decide) ?_
      refine lv_istore (lv' := [(4, .int 0), (3, .int 0), (0, .ref (L 0)), (1, .int a0), (2, .int a1)]) hx hb d_Mo_pointAt_36 hl (by decide) rfl (fun ls hl => ?_)
      have kL38 := h.1
      have h := h.2
      refine l_Mo_pointAt_38 a0 a1 hF hK hL 200 0 0 ((f_Mo_throwing ar sc 1 0 0).2.1) ((f_Mo_throwing ar sc 1 0 0).2.2) kL38 _ _ hP hS ls (lv_sub hl [1, 0, 2, 3, 4] rfl) (fun H locs ls hP hS hl => ?_)
      refine lv_iload_n hx hb d_Mo_pointAt_82 rfl (lv_at hl 4 rfl) ?_
      refine lv_if_ne (tgt := 94) hx hb d_Mo_pointAt_83 (by decide) (fun c83 => ?_) (fun c83 => ?_)
      · have h := h.2 c83
        refine lv_iload_n hx hb d_Mo_pointAt_94 rfl (lv_at hl 4 rfl) ?_
        refine lv_iconst (v := 1) hx hb d_Mo_pointAt_95 (by decide) ?_
        refine lv_icmp_ne (tgt := 107) hx hb d_Mo_pointAt_96 (by decide) (fun c96 => ?_) (fun c96 => ?_)
        · have h := h.2 c96
          refine lv_iload_n hx hb d_Mo_pointAt_107 rfl (lv_at hl 4 rfl) ?_
          refine lv_iconst (v := 2) hx hb d_Mo_pointAt_108 (by decide) ?_
          refine lv_icmp_ne (tgt := 121) hx hb d_Mo_pointAt_109 (by decide) (fun c109 => ?_) (fun c109 => ?_)
          · have h := h.2 c109
            refine lv_iload_n hx hb d_Mo_pointAt_121 rfl (lv_at hl 4 rfl) ?_
            refine lv_iconst (v := 3) hx hb d_Mo_pointAt_122 (by decide) ?_
            refine lv_icmp_ne (tgt := 134) hx hb d_Mo_pointAt_123 (by decide) (fun c123 => ?_) (fun c123 => ?_)
            · have h := h.2 c123
              refine lv_iload_n hx hb d_Mo_pointAt_134 rfl (lv_at hl 0 rfl) ?_
              have hv : (((g_Mo_pointAt_38 a0 a1 200 0 0 ((f_Mo_throwing ar sc 1 0 0).2.1) ((f_Mo_throwing ar sc 1 0 0).2.2)).1, (g_Mo_pointAt_38 a0 a1 200 0 0 ((f_Mo_throwing ar sc 1 0 0).2.1) ((f_Mo_throwing ar sc 1 0 0).2.2)).2.2.1, (g_Mo_pointAt_38 a0 a1 200 0 0 ((f_Mo_throwing ar sc 1 0 0).2.1) ((f_Mo_throwing ar sc 1 0 0).2.2)).2.2.2) : Int32 × (Nat → Nat → Int32) × (Nat → Int32)) = f_Mo_pointAt ar sc a0 a1 := by rw [f_Mo_pointAt, if_pos c6, if_pos c28, if_neg c83, if_neg c96, if_neg c109, if_neg c123]
              exact W.iret (v := (g_Mo_pointAt_38 a0 a1 200 0 0 ((f_Mo_throwing ar sc 1 0 0).2.1) ((f_Mo_throwing ar sc 1 0 0).2.2)).1) hx hb hr (fun t ht hW => ⟨⟨(g_Mo_pointAt_38 a0 a1 200 0 0 ((f_Mo_throwing ar sc 1 0 0).2.1) ((f_Mo_throwing ar sc 1 0 0).2.2)).1, ((g_Mo_pointAt_38 a0 a1 200 0 0 ((f_Mo_throwing ar sc 1 0 0).2.1) ((f_Mo_throwing ar sc 1 0 0).2.2)).2.2.1, (g_Mo_pointAt_38 a0 a1 200 0 0 ((f_Mo_throwing ar sc 1 0 0).2.1) ((f_Mo_throwing ar sc 1 0 0).2.2)).2.2.2), rfl, hv, by dsimp only; rw [ht]; exact hP⟩, hS.F ht⟩) hS.2.2 d_Mo_pointAt_135
            · have h := h.1 c123
              refine lv_aload_n hx hb d_Mo_pointAt_126 rfl (lv_at hl 2 rfl) ?_
              refine lv_iload_n hx hb d_Mo_pointAt_127 rfl (lv_at hl 3 rfl) ?_
              have k128 := h
              refine r_Mo_dueFrom hF hK hP k128 m_315 hl.1 ⟨Nat.le_of_ble_eq_true rfl, Nat.le_of_ble_eq_true rfl⟩ ⟨Nat.zero_le _, Nat.zero_le _⟩ (Nat.le_of_ble_eq_true rfl) d_Mo_pointAt_128 ?_
              refine lv_goto (tgt := 135) hx hb d_Mo_pointAt_131 (by decide) ?_
              have hv : ((f_Mo_dueFrom ((g_Mo_pointAt_38 a0 a1 200 0 0 ((f_Mo_throwing ar sc 1 0 0).2.1) ((f_Mo_throwing ar sc 1 0 0).2.2)).2.2.1) ((g_Mo_pointAt_38 a0 a1 200 0 0 ((f_Mo_throwing ar sc 1 0 0).2.1) ((f_Mo_throwing ar sc 1 0 0).2.2)).2.2.2) a0, (g_Mo_pointAt_38 a0 a1 200 0 0 ((f_Mo_throwing ar sc 1 0 0).2.1) ((f_Mo_throwing ar sc 1 0 0).2.2)).2.2.1, (g_Mo_pointAt_38 a0 a1 200 0 0 ((f_Mo_throwing ar sc 1 0 0).2.1) ((f_Mo_throwing ar sc 1 0 0).2.2)).2.2.2) : Int32 × (Nat → Nat → Int32) × (Nat → Int32)) = f_Mo_pointAt ar sc a0 a1 := by rw [f_Mo_pointAt, if_pos c6, if_pos c28, if_neg c83, if_neg c96, if_neg c109, if_pos c123]
              exact W.iret (v := f_Mo_dueFrom ((g_Mo_pointAt_38 a0 a1 200 0 0 ((f_Mo_throwing ar sc 1 0 0).2.1) ((f_Mo_throwing ar sc 1 0 0).2.2)).2.2.1) ((g_Mo_pointAt_38 a0 a1 200 0 0 ((f_Mo_throwing ar sc 1 0 0).2.1) ((f_Mo_throwing ar sc 1 0 0).2.2)).2.2.2) a0) hx hb hr (fun t ht hW => ⟨⟨f_Mo_dueFrom ((g_Mo_pointAt_38 a0 a1 200 0 0 ((f_Mo_throwing ar sc 1 0 0).2.1) ((f_Mo_throwing ar sc 1 0 0).2.2)).2.2.1) ((g_Mo_pointAt_38 a0 a1 200 0 0 ((f_Mo_throwing ar sc 1 0 0).2.1) ((f_Mo_throwing ar sc 1 0 0).2.2)).2.2.2) a0, ((g_Mo_pointAt_38 a0 a1 200 0 0 ((f_Mo_throwing ar sc 1 0 0).2.1) ((f_Mo_throwing ar sc 1 0 0).2.2)).2.2.1, (g_Mo_pointAt_38 a0 a1 200 0 0 ((f_Mo_throwing ar sc 1 0 0).2.1) ((f_Mo_throwing ar sc 1 0 0).2.2)).2.2.2), rfl, hv, by dsimp only; rw [ht]; exact hP⟩, hS.F ht⟩) hS.2.2 d_Mo_pointAt_135
          · have h := h.1 c109
            refine lv_aload_n hx hb d_Mo_pointAt_112 rfl (lv_at hl 2 rfl) ?_
            refine gf_Mo_visited hF hK hP m_224 d_Mo_pointAt_113 ?_
            refine lv_iload_n hx hb d_Mo_pointAt_116 rfl (lv_at hl 3 rfl) ?_
            have k117 := h
            refine alM_10 hF hK hP k117 d_Mo_pointAt_117 ?_
            refine lv_goto (tgt := 135) hx hb d_Mo_pointAt_118 (by decide) ?_
            have hv : ((((g_Mo_pointAt_38 a0 a1 200 0 0 ((f_Mo_throwing ar sc 1 0 0).2.1) ((f_Mo_throwing ar sc 1 0 0).2.2)).2.2.1) 10 a0.toNatClampNeg, (g_Mo_pointAt_38 a0 a1 200 0 0 ((f_Mo_throwing ar sc 1 0 0).2.1) ((f_Mo_throwing ar sc 1 0 0).2.2)).2.2.1, (g_Mo_pointAt_38 a0 a1 200 0 0 ((f_Mo_throwing ar sc 1 0 0).2.1) ((f_Mo_throwing ar sc 1 0 0).2.2)).2.2.2) : Int32 × (Nat → Nat → Int32) × (Nat → Int32)) = f_Mo_pointAt ar sc a0 a1 := by rw [f_Mo_pointAt, if_pos c6, if_pos c28, if_neg c83, if_neg c96, if_pos c109]
            exact W.iret (v := ((g_Mo_pointAt_38 a0 a1 200 0 0 ((f_Mo_throwing ar sc 1 0 0).2.1) ((f_Mo_throwing ar sc 1 0 0).2.2)).2.2.1) 10 a0.toNatClampNeg) hx hb hr (fun t ht hW => ⟨⟨((g_Mo_pointAt_38 a0 a1 200 0 0 ((f_Mo_throwing ar sc 1 0 0).2.1) ((f_Mo_throwing ar sc 1 0 0).2.2)).2.2.1) 10 a0.toNatClampNeg, ((g_Mo_pointAt_38 a0 a1 200 0 0 ((f_Mo_throwing ar sc 1 0 0).2.1) ((f_Mo_throwing ar sc 1 0 0).2.2)).2.2.1, (g_Mo_pointAt_38 a0 a1 200 0 0 ((f_Mo_throwing ar sc 1 0 0).2.1) ((f_Mo_throwing ar sc 1 0 0).2.2)).2.2.2), rfl, hv, by dsimp only; rw [ht]; exact hP⟩, hS.F ht⟩) hS.2.2 d_Mo_pointAt_135
        · have h := h.1 c96
          refine lv_aload_n hx hb d_Mo_pointAt_99 rfl (lv_at hl 2 rfl) ?_
          refine lv_iload_n hx hb d_Mo_pointAt_100 rfl (lv_at hl 3 rfl) ?_
          have k101 := h
          refine r_Mo_classOf hF hK hP k101 m_226 hl.1 ⟨Nat.le_of_ble_eq_true rfl, Nat.le_of_ble_eq_true rfl⟩ ⟨Nat.zero_le _, Nat.zero_le _⟩ (Nat.le_of_ble_eq_true rfl) d_Mo_pointAt_101 ?_
          refine lv_goto (tgt := 135) hx hb d_Mo_pointAt_104 (by decide) ?_
          have hv : ((f_Mo_classOf ((g_Mo_pointAt_38 a0 a1 200 0 0 ((f_Mo_throwing ar sc 1 0 0).2.1) ((f_Mo_throwing ar sc 1 0 0).2.2)).2.2.1) ((g_Mo_pointAt_38 a0 a1 200 0 0 ((f_Mo_throwing ar sc 1 0 0).2.1) ((f_Mo_throwing ar sc 1 0 0).2.2)).2.2.2) a0, (g_Mo_pointAt_38 a0 a1 200 0 0 ((f_Mo_throwing ar sc 1 0 0).2.1) ((f_Mo_throwing ar sc 1 0 0).2.2)).2.2.1, (g_Mo_pointAt_38 a0 a1 200 0 0 ((f_Mo_throwing ar sc 1 0 0).2.1) ((f_Mo_throwing ar sc 1 0 0).2.2)).2.2.2) : Int32 × (Nat → Nat → Int32) × (Nat → Int32)) = f_Mo_pointAt ar sc a0 a1 := by rw [f_Mo_pointAt, if_pos c6, if_pos c28, if_neg c83, if_pos c96]
          exact W.iret (v := f_Mo_classOf ((g_Mo_pointAt_38 a0 a1 200 0 0 ((f_Mo_throwing ar sc 1 0 0).2.1) ((f_Mo_throwing ar sc 1 0 0).2.2)).2.2.1) ((g_Mo_pointAt_38 a0 a1 200 0 0 ((f_Mo_throwing ar sc 1 0 0).2.1) ((f_Mo_throwing ar sc 1 0 0).2.2)).2.2.2) a0) hx hb hr (fun t ht hW => ⟨⟨f_Mo_classOf ((g_Mo_pointAt_38 a0 a1 200 0 0 ((f_Mo_throwing ar sc 1 0 0).2.1) ((f_Mo_throwing ar sc 1 0 0).2.2)).2.2.1) ((g_Mo_pointAt_38 a0 a1 200 0 0 ((f_Mo_throwing ar sc 1 0 0).2.1) ((f_Mo_throwing ar sc 1 0 0).2.2)).2.2.2) a0, ((g_Mo_pointAt_38 a0 a1 200 0 0 ((f_Mo_throwing ar sc 1 0 0).2.1) ((f_Mo_throwing ar sc 1 0 0).2.2)).2.2.1, (g_Mo_pointAt_38 a0 a1 200 0 0 ((f_Mo_throwing ar sc 1 0 0).2.1) ((f_Mo_throwing ar sc 1 0 0).2.2)).2.2.2), rfl, hv, by dsimp only; rw [ht]; exact hP⟩, hS.F ht⟩) hS.2.2 d_Mo_pointAt_135
      · have h := h.1 c83
        refine lv_aload_n hx hb d_Mo_pointAt_86 rfl (lv_at hl 2 rfl) ?_
        refine lv_iload_n hx hb d_Mo_pointAt_87 rfl (lv_at hl 3 rfl) ?_
        have k88 := h
        refine r_Mo_riskOf hF hK hP k88 m_217 hl.1 ⟨Nat.le_of_ble_eq_true rfl, Nat.le_of_ble_eq_true rfl⟩ ⟨Nat.zero_le _, Nat.zero_le _⟩ (Nat.le_of_ble_eq_true rfl) d_Mo_pointAt_88 ?_
        refine lv_goto (tgt := 135) hx hb d_Mo_pointAt_91 (by decide) ?_
        have hv : ((f_Mo_riskOf ((g_Mo_pointAt_38 a0 a1 200 0 0 ((f_Mo_throwing ar sc 1 0 0).2.1) ((f_Mo_throwing ar sc 1 0 0).2.2)).2.2.1) ((g_Mo_pointAt_38 a0 a1 200 0 0 ((f_Mo_throwing ar sc 1 0 0).2.1) ((f_Mo_throwing ar sc 1 0 0).2.2)).2.2.2) a0, (g_Mo_pointAt_38 a0 a1 200 0 0 ((f_Mo_throwing ar sc 1 0 0).2.1) ((f_Mo_throwing ar sc 1 0 0).2.2)).2.2.1, (g_Mo_pointAt_38 a0 a1 200 0 0 ((f_Mo_throwing ar sc 1 0 0).2.1) ((f_Mo_throwing ar sc 1 0 0).2.2)).2.2.2) : Int32 × (Nat → Nat → Int32) × (Nat → Int32)) = f_Mo_pointAt ar sc a0 a1 := by rw [f_Mo_pointAt, if_pos c6, if_pos c28, if_pos c83]
        exact W.iret (v := f_Mo_riskOf ((g_Mo_pointAt_38 a0 a1 200 0 0 ((f_Mo_throwing ar sc 1 0 0).2.1) ((f_Mo_throwing ar sc 1 0 0).2.2)).2.2.1) ((g_Mo_pointAt_38 a0 a1 200 0 0 ((f_Mo_throwing ar sc 1 0 0).2.1) ((f_Mo_throwing ar sc 1 0 0).2.2)).2.2.2) a0) hx hb hr (fun t ht hW => ⟨⟨f_Mo_riskOf ((g_Mo_pointAt_38 a0 a1 200 0 0 ((f_Mo_throwing ar sc 1 0 0).2.1) ((f_Mo_throwing ar sc 1 0 0).2.2)).2.2.1) ((g_Mo_pointAt_38 a0 a1 200 0 0 ((f_Mo_throwing ar sc 1 0 0).2.1) ((f_Mo_throwing ar sc 1 0 0).2.2)).2.2.2) a0, ((g_Mo_pointAt_38 a0 a1 200 0 0 ((f_Mo_throwing ar sc 1 0 0).2.1) ((f_Mo_throwing ar sc 1 0 0).2.2)).2.2.1, (g_Mo_pointAt_38 a0 a1 200 0 0 ((f_Mo_throwing ar sc 1 0 0).2.1) ((f_Mo_throwing ar sc 1 0 0).2.2)).2.2.2), rfl, hv, by dsimp only; rw [ht]; exact hP⟩, hS.F ht⟩) hS.2.2 d_Mo_pointAt_135
    · have h := h.2 c28
      refine lv_iconst (v := 0) hx hb d_Mo_pointAt_31 (by decide) ?_
      have hv : ((0, (f_Mo_throwing ar sc 1 0 0).2.1, (f_Mo_throwing ar sc 1 0 0).2.2) : Int32 × (Nat → Nat → Int32) × (Nat → Int32)) = f_Mo_pointAt ar sc a0 a1 := by rw [f_Mo_pointAt, if_pos c6, if_neg c28]
      exact W.iret (v := 0) hx hb hr (fun t ht hW => ⟨⟨0, ((f_Mo_throwing ar sc 1 0 0).2.1, (f_Mo_throwing ar sc 1 0 0).2.2), rfl, hv, by dsimp only; rw [ht]; exact hP⟩, hS.F ht⟩) hS.2.2 d_Mo_pointAt_32
  · have h := h.2 c6
    refine lv_iload_n hx hb d_Mo_pointAt_9 rfl (lv_at hl 2 rfl) ?_
    refine lv_iconst (v := 0) hx hb d_Mo_pointAt_10 (by decide) ?_
    refine lv_iconst (v := 4) hx hb d_Mo_pointAt_11 (by decide) ?_
    refine r_Mo_in hF m_195 hl.1 ⟨Nat.le_of_ble_eq_true rfl, Nat.le_of_ble_eq_true rfl⟩ ⟨Nat.zero_le _, Nat.zero_le _⟩ (Nat.le_of_ble_eq_true rfl) d_Mo_pointAt_12 ?_
    refine lv_if_ne (tgt := 22) hx hb d_Mo_pointAt_15 (by decide) (fun c15 => ?_) (fun c15 => ?_)
    · have h := h.2 c15
      refine lv_iconst (v := 0) hx hb d_Mo_pointAt_22 (by decide) ?_
      refine lv_iconst (v := 0) hx hb d_Mo_pointAt_23 (by decide) ?_
      refine lv_iconst (v := 0) hx hb d_Mo_pointAt_24 (by decide) ?_
      refine r_Mo_throwing hF hK hP hL hS m_283 hl.1 ⟨Nat.le_of_ble_eq_true rfl, Nat.le_of_ble_eq_true rfl⟩ ⟨Nat.zero_le _, Nat.zero_le _⟩ (Nat.le_of_ble_eq_true rfl) d_Mo_pointAt_25 (fun H locs hP hS => ?_)
      refine lv_if_eq (tgt := 33) hx hb d_Mo_pointAt_28 (by decide) (fun c28 => ?_) (fun c28 => ?_)
      · have h := h.1 c28
        refine lv_iconst (v := 0) hx hb d_Mo_pointAt_33 (by decide) ?_
        refine lv_istore_n (lv' := [(3, .int 0), (0, .ref (L 0)), (1, .int a0), (2, .int a1)]) hx hb d_Mo_pointAt_34 rfl hl (by decide) rfl (fun ls hl => ?_)
        refine lv_iconst (v := 0) hx hb d_Mo_pointAt_35 (by decide) ?_
        refine lv_istore (lv' := [(4, .int 0), (3, .int 0), (0, .ref (L 0)), (1, .int a0), (2, .int a1)]) hx hb d_Mo_pointAt_36 hl (by decide) rfl (fun ls hl => ?_)
        have kL38 := h.1
        have h := h.2
        refine l_Mo_pointAt_38 a0 a1 hF hK hL 200 0 0 ((f_Mo_throwing ar sc 0 0 0).2.1) ((f_Mo_throwing ar sc 0 0 0).2.2) kL38 _ _ hP hS ls (lv_sub hl [1, 0, 2, 3, 4] rfl) (fun H locs ls hP hS hl => ?_)
        refine lv_iload_n hx hb d_Mo_pointAt_82 rfl (lv_at hl 4 rfl) ?_
        refine lv_if_ne (tgt := 94) hx hb d_Mo_pointAt_83 (by decide) (fun c83 => ?_) (fun c83 => ?_)
        · have h := h.2 c83
          refine lv_iload_n hx hb d_Mo_pointAt_94 rfl (lv_at hl 4 rfl) ?_
          refine lv_iconst (v := 1) hx hb d_Mo_pointAt_95 (by decide) ?_
          refine lv_icmp_ne (tgt := 107) hx hb d_Mo_pointAt_96 (by decide) (fun c96 => ?_) (fun c96 => ?_)
          · have h := h.2 c96
            refine lv_iload_n hx hb d_Mo_pointAt_107 rfl (lv_at hl 4 rfl) ?_
            refine lv_iconst (v := 2) hx hb d_Mo_pointAt_108 (by decide) ?_
            refine lv_icmp_ne (tgt := 121) hx hb d_Mo_pointAt_109 (by decide) (fun c109 => ?_) (fun c109 => ?_)
            · have h := h.2 c109
              refine lv_iload_n hx hb d_Mo_pointAt_121 rfl (lv_at hl 4 rfl) ?_
              refine lv_iconst (v := 3) hx hb d_Mo_pointAt_122 (by decide) ?_
              refine lv_icmp_ne (tgt := 134) hx hb d_Mo_pointAt_123 (by decide) (fun c123 => ?_) (fun c123 => ?_)
              · have h := h.2 c123
                refine lv_iload_n hx hb d_Mo_pointAt_134 rfl (lv_at hl 0 rfl) ?_
                have hv : (((g_Mo_pointAt_38 a0 a1 200 0 0 ((f_Mo_throwing ar sc 0 0 0).2.1) ((f_Mo_throwing ar sc 0 0 0).2.2)).1, (g_Mo_pointAt_38 a0 a1 200 0 0 ((f_Mo_throwing ar sc 0 0 0).2.1) ((f_Mo_throwing ar sc 0 0 0).2.2)).2.2.1, (g_Mo_pointAt_38 a0 a1 200 0 0 ((f_Mo_throwing ar sc 0 0 0).2.1) ((f_Mo_throwing ar sc 0 0 0).2.2)).2.2.2) : Int32 × (Nat → Nat → Int32) × (Nat → Int32)) = f_Mo_pointAt ar sc a0 a1 := by rw [f_Mo_pointAt, if_neg c6, if_neg c15, if_pos c28, if_neg c83, if_neg c96, if_neg c109, if_neg c123]
                exact W.iret (v := (g_Mo_pointAt_38 a0 a1 200 0 0 ((f_Mo_throwing ar sc 0 0 0).2.1) ((f_Mo_throwing ar sc 0 0 0).2.2)).1) hx hb hr (fun t ht hW => ⟨⟨(g_Mo_pointAt_38 a0 a1 200 0 0 ((f_Mo_throwing ar sc 0 0 0).2.1) ((f_Mo_throwing ar sc 0 0 0).2.2)).1, ((g_Mo_pointAt_38 a0 a1 200 0 0 ((f_Mo_throwing ar sc 0 0 0).2.1) ((f_Mo_throwing ar sc 0 0 0).2.2)).2.2.1, (g_Mo_pointAt_38 a0 a1 200 0 0 ((f_Mo_throwing ar sc 0 0 0).2.1) ((f_Mo_throwing ar sc 0 0 0).2.2)).2.2.2), rfl, hv, by dsimp only; rw [ht]; exact hP⟩, hS.F ht⟩) hS.2.2 d_Mo_pointAt_135
              · have h := h.1 c123
                refine lv_aload_n hx hb d_Mo_pointAt_126 rfl (lv_at hl 2 rfl) ?_
                refine lv_iload_n hx hb d_Mo_pointAt_127 rfl (lv_at hl 3 rfl) ?_
                have k128 := h
                refine r_Mo_dueFrom hF hK hP k128 m_315 hl.1 ⟨Nat.le_of_ble_eq_true rfl, Nat.le_of_ble_eq_true rfl⟩ ⟨Nat.zero_le _, Nat.zero_le _⟩ (Nat.le_of_ble_eq_true rfl) d_Mo_pointAt_128 ?_
                refine lv_goto (tgt := 135) hx hb d_Mo_pointAt_131 (by decide) ?_
                have hv : ((f_Mo_dueFrom ((g_Mo_pointAt_38 a0 a1 200 0 0 ((f_Mo_throwing ar sc 0 0 0).2.1) ((f_Mo_throwing ar sc 0 0 0).2.2)).2.2.1) ((g_Mo_pointAt_38 a0 a1 200 0 0 ((f_Mo_throwing ar sc 0 0 0).2.1) ((f_Mo_throwing ar sc 0 0 0).2.2)).2.2.2) a0, (g_Mo_pointAt_38 a0 a1 200 0 0 ((f_Mo_throwing ar sc 0 0 0).2.1) ((f_Mo_throwing ar sc 0 0 0).2.2)).2.2.1, (g_Mo_pointAt_38 a0 a1 200 0 0 ((f_Mo_throwing ar sc 0 0 0).2.1) ((f_Mo_throwing ar sc 0 0 0).2.2)).2.2.2) : Int32 × (Nat → Nat → Int32) × (Nat → Int32)) = f_Mo_pointAt ar sc a0 a1 := by rw [f_Mo_pointAt, if_neg c6, if_neg c15, if_pos c28, if_neg c83, if_neg c96, if_neg c109, if_pos c123]
                exact W.iret (v := f_Mo_dueFrom ((g_Mo_pointAt_38 a0 a1 200 0 0 ((f_Mo_throwing ar sc 0 0 0).2.1) ((f_Mo_throwing ar sc 0 0 0).2.2)).2.2.1) ((g_Mo_pointAt_38 a0 a1 200 0 0 ((f_Mo_throwing ar sc 0 0 0).2.1) ((f_Mo_throwing ar sc 0 0 0).2.2)).2.2.2) a0) hx hb hr (fun t ht hW => ⟨⟨f_Mo_dueFrom ((g_Mo_pointAt_38 a0 a1 200 0 0 ((f_Mo_throwing ar sc 0 0 0).2.1) ((f_Mo_throwing ar sc 0 0 0).2.2)).2.2.1) ((g_Mo_pointAt_38 a0 a1 200 0 0 ((f_Mo_throwing ar sc 0 0 0).2.1) ((f_Mo_throwing ar sc 0 0 0).2.2)).2.2.2) a0, ((g_Mo_pointAt_38 a0 a1 200 0 0 ((f_Mo_throwing ar sc 0 0 0).2.1) ((f_Mo_throwing ar sc 0 0 0).2.2)).2.2.1, (g_Mo_pointAt_38 a0 a1 200 0 0 ((f_Mo_throwing ar sc 0 0 0).2.1) ((f_Mo_throwing ar sc 0 0 0).2.2)).2.2.2), rfl, hv, by dsimp only; rw [ht]; exact hP⟩, hS.F ht⟩) hS.2.2 d_Mo_pointAt_135
            · have h := h.1 c109
              refine lv_aload_n hx hb d_Mo_pointAt_112 rfl (lv_at hl 2 rfl) ?_
              refine gf_Mo_visited hF hK hP m_224 d_Mo_pointAt_113 ?_
              refine lv_iload_n hx hb d_Mo_pointAt_116 rfl (lv_at hl 3 rfl) ?_
              have k117 := h
              refine alM_10 hF hK hP k117 d_Mo_pointAt_117 ?_
              refine lv_goto (tgt := 135) hx hb d_Mo_pointAt_118 (by decide) ?_
              have hv : ((((g_Mo_pointAt_38 a0 a1 200 0 0 ((f_Mo_throwing ar sc 0 0 0).2.1) ((f_Mo_throwing ar sc 0 0 0).2.2)).2.2.1) 10 a0.toNatClampNeg, (g_Mo_pointAt_38 a0 a1 200 0 0 ((f_Mo_throwing ar sc 0 0 0).2.1) ((f_Mo_throwing ar sc 0 0 0).2.2)).2.2.1, (g_Mo_pointAt_38 a0 a1 200 0 0 ((f_Mo_throwing ar sc 0 0 0).2.1) ((f_Mo_throwing ar sc 0 0 0).2.2)).2.2.2) : Int32 × (Nat → Nat → Int32) × (Nat → Int32)) = f_Mo_pointAt ar sc a0 a1 := by rw [f_Mo_pointAt, if_neg c6, if_neg c15, if_pos c28, if_neg c83, if_neg c96, if_pos c109]
              exact W.iret (v := ((g_Mo_pointAt_38 a0 a1 200 0 0 ((f_Mo_throwing ar sc 0 0 0).2.1) ((f_Mo_throwing ar sc 0 0 0).2.2)).2.2.1) 10 a0.toNatClampNeg) hx hb hr (fun t ht hW => ⟨⟨((g_Mo_pointAt_38 a0 a1 200 0 0 ((f_Mo_throwing ar sc 0 0 0).2.1) ((f_Mo_throwing ar sc 0 0 0).2.2)).2.2.1) 10 a0.toNatClampNeg, ((g_Mo_pointAt_38 a0 a1 200 0 0 ((f_Mo_throwing ar sc 0 0 0).2.1) ((f_Mo_throwing ar sc 0 0 0).2.2)).2.2.1, (g_Mo_pointAt_38 a0 a1 200 0 0 ((f_Mo_throwing ar sc 0 0 0).2.1) ((f_Mo_throwing ar sc 0 0 0).2.2)).2.2.2), rfl, hv, by dsimp only; rw [ht]; exact hP⟩, hS.F ht⟩) hS.2.2 d_Mo_pointAt_135
          · have h := h.1 c96
            refine lv_aload_n hx hb d_Mo_pointAt_99 rfl (lv_at hl 2 rfl) ?_
            refine lv_iload_n hx hb d_Mo_pointAt_100 rfl (lv_at hl 3 rfl) ?_
            have k101 := h
            refine r_Mo_classOf hF hK hP k101 m_226 hl.1 ⟨Nat.le_of_ble_eq_true rfl, Nat.le_of_ble_eq_true rfl⟩ ⟨Nat.zero_le _, Nat.zero_le _⟩ (Nat.le_of_ble_eq_true rfl) d_Mo_pointAt_101 ?_
            refine lv_goto (tgt := 135) hx hb d_Mo_pointAt_104 (by decide) ?_
            have hv : ((f_Mo_classOf ((g_Mo_pointAt_38 a0 a1 200 0 0 ((f_Mo_throwing ar sc 0 0 0).2.1) ((f_Mo_throwing ar sc 0 0 0).2.2)).2.2.1) ((g_Mo_pointAt_38 a0 a1 200 0 0 ((f_Mo_throwing ar sc 0 0 0).2.1) ((f_Mo_throwing ar sc 0 0 0).2.2)).2.2.2) a0, (g_Mo_pointAt_38 a0 a1 200 0 0 ((f_Mo_throwing ar sc 0 0 0).2.1) ((f_Mo_throwing ar sc 0 0 0).2.2)).2.2.1, (g_Mo_pointAt_38 a0 a1 200 0 0 ((f_Mo_throwing ar sc 0 0 0).2.1) ((f_Mo_throwing ar sc 0 0 0).2.2)).2.2.2) : Int32 × (Nat → Nat → Int32) × (Nat → Int32)) = f_Mo_pointAt ar sc a0 a1 := by rw [f_Mo_pointAt, if_neg c6, if_neg c15, if_pos c28, if_neg c83, if_pos c96]
            exact W.iret (v := f_Mo_classOf ((g_Mo_pointAt_38 a0 a1 200 0 0 ((f_Mo_throwing ar sc 0 0 0).2.1) ((f_Mo_throwing ar sc 0 0 0).2.2)).2.2.1) ((g_Mo_pointAt_38 a0 a1 200 0 0 ((f_Mo_throwing ar sc 0 0 0).2.1) ((f_Mo_throwing ar sc 0 0 0).2.2)).2.2.2) a0) hx hb hr (fun t ht hW => ⟨⟨f_Mo_classOf ((g_Mo_pointAt_38 a0 a1 200 0 0 ((f_Mo_throwing ar sc 0 0 0).2.1) ((f_Mo_throwing ar sc 0 0 0).2.2)).2.2.1) ((g_Mo_pointAt_38 a0 a1 200 0 0 ((f_Mo_throwing ar sc 0 0 0).2.1) ((f_Mo_throwing ar sc 0 0 0).2.2)).2.2.2) a0, ((g_Mo_pointAt_38 a0 a1 200 0 0 ((f_Mo_throwing ar sc 0 0 0).2.1) ((f_Mo_throwing ar sc 0 0 0).2.2)).2.2.1, (g_Mo_pointAt_38 a0 a1 200 0 0 ((f_Mo_throwing ar sc 0 0 0).2.1) ((f_Mo_throwing ar sc 0 0 0).2.2)).2.2.2), rfl, hv, by dsimp only; rw [ht]; exact hP⟩, hS.F ht⟩) hS.2.2 d_Mo_pointAt_135
        · have h := h.1 c83
          refine lv_aload_n hx hb d_Mo_pointAt_86 rfl (lv_at hl 2 rfl) ?_
          refine lv_iload_n hx hb d_Mo_pointAt_87 rfl (lv_at hl 3 rfl) ?_
          have k88 := h
          refine r_Mo_riskOf hF hK hP k88 m_217 hl.1 ⟨Nat.le_of_ble_eq_true rfl, Nat.le_of_ble_eq_true rfl⟩ ⟨Nat.zero_le _, Nat.zero_le _⟩ (Nat.le_of_ble_eq_true rfl) d_Mo_pointAt_88 ?_
          refine lv_goto (tgt := 135) hx hb d_Mo_pointAt_91 (by decide) ?_
          have hv : ((f_Mo_riskOf ((g_Mo_pointAt_38 a0 a1 200 0 0 ((f_Mo_throwing ar sc 0 0 0).2.1) ((f_Mo_throwing ar sc 0 0 0).2.2)).2.2.1) ((g_Mo_pointAt_38 a0 a1 200 0 0 ((f_Mo_throwing ar sc 0 0 0).2.1) ((f_Mo_throwing ar sc 0 0 0).2.2)).2.2.2) a0, (g_Mo_pointAt_38 a0 a1 200 0 0 ((f_Mo_throwing ar sc 0 0 0).2.1) ((f_Mo_throwing ar sc 0 0 0).2.2)).2.2.1, (g_Mo_pointAt_38 a0 a1 200 0 0 ((f_Mo_throwing ar sc 0 0 0).2.1) ((f_Mo_throwing ar sc 0 0 0).2.2)).2.2.2) : Int32 × (Nat → Nat → Int32) × (Nat → Int32)) = f_Mo_pointAt ar sc a0 a1 := by rw [f_Mo_pointAt, if_neg c6, if_neg c15, if_pos c28, if_pos c83]
          exact W.iret (v := f_Mo_riskOf ((g_Mo_pointAt_38 a0 a1 200 0 0 ((f_Mo_throwing ar sc 0 0 0).2.1) ((f_Mo_throwing ar sc 0 0 0).2.2)).2.2.1) ((g_Mo_pointAt_38 a0 a1 200 0 0 ((f_Mo_throwing ar sc 0 0 0).2.1) ((f_Mo_throwing ar sc 0 0 0).2.2)).2.2.2) a0) hx hb hr (fun t ht hW => ⟨⟨f_Mo_riskOf ((g_Mo_pointAt_38 a0 a1 200 0 0 ((f_Mo_throwing ar sc 0 0 0).2.1) ((f_Mo_throwing ar sc 0 0 0).2.2)).2.2.1) ((g_Mo_pointAt_38 a0 a1 200 0 0 ((f_Mo_throwing ar sc 0 0 0).2.1) ((f_Mo_throwing ar sc 0 0 0).2.2)).2.2.2) a0, ((g_Mo_pointAt_38 a0 a1 200 0 0 ((f_Mo_throwing ar sc 0 0 0).2.1) ((f_Mo_throwing ar sc 0 0 0).2.2)).2.2.1, (g_Mo_pointAt_38 a0 a1 200 0 0 ((f_Mo_throwing ar sc 0 0 0).2.1) ((f_Mo_throwing ar sc 0 0 0).2.2)).2.2.2), rfl, hv, by dsimp only; rw [ht]; exact hP⟩, hS.F ht⟩) hS.2.2 d_Mo_pointAt_135
      · have h := h.2 c28
        refine lv_iconst (v := 0) hx hb d_Mo_pointAt_31 (by decide) ?_
        have hv : ((0, (f_Mo_throwing ar sc 0 0 0).2.1, (f_Mo_throwing ar sc 0 0 0).2.2) : Int32 × (Nat → Nat → Int32) × (Nat → Int32)) = f_Mo_pointAt ar sc a0 a1 := by rw [f_Mo_pointAt, if_neg c6, if_neg c15, if_neg c28]
        exact W.iret (v := 0) hx hb hr (fun t ht hW => ⟨⟨0, ((f_Mo_throwing ar sc 0 0 0).2.1, (f_Mo_throwing ar sc 0 0 0).2.2), rfl, hv, by dsimp only; rw [ht]; exact hP⟩, hS.F ht⟩) hS.2.2 d_Mo_pointAt_32
    · have h := h.1 c15
      refine lv_iconst (v := 1) hx hb d_Mo_pointAt_18 (by decide) ?_
      refine lv_goto (tgt := 23) hx hb d_Mo_pointAt_19 (by decide) ?_
      refine lv_iconst (v := 0) hx hb d_Mo_pointAt_23 (by decide) ?_
      refine lv_iconst (v := 0) hx hb d_Mo_pointAt_24 (by decide) ?_
      refine r_Mo_throwing hF hK hP hL hS m_283 hl.1 ⟨Nat.le_of_ble_eq_true rfl, Nat.le_of_ble_eq_true rfl⟩ ⟨Nat.zero_le _, Nat.zero_le _⟩ (Nat.le_of_ble_eq_true rfl) d_Mo_pointAt_25 (fun H locs hP hS => ?_)
      refine lv_if_eq (tgt := 33) hx hb d_Mo_pointAt_28 (by decide) (fun c28 => ?_) (fun c28 => ?_)
      · have h := h.1 c28
        refine lv_iconst (v := 0) hx hb d_Mo_pointAt_33 (by decide) ?_
        refine lv_istore_n (lv' := [(3, .int 0), (0, .ref (L 0)), (1, .int a0), (2, .int a1)]) hx hb d_Mo_pointAt_34 rfl hl (by decide) rfl (fun ls hl => ?_)
        refine lv_iconst (v := 0) hx hb d_Mo_pointAt_35 (by decide) ?_
        refine lv_istore (lv' := [(4, .int 0), (3, .int 0), (0, .ref (L 0)), (1, .int a0), (2, .int a1)]) hx hb d_Mo_pointAt_36 hl (by decide) rfl (fun ls hl => ?_)
        have kL38 := h.1
        have h := h.2
        refine l_Mo_pointAt_38 a0 a1 hF hK hL 200 0 0 ((f_Mo_throwing ar sc 1 0 0).2.1) ((f_Mo_throwing ar sc 1 0 0).2.2) kL38 _ _ hP hS ls (lv_sub hl [1, 0, 2, 3, 4] rfl) (fun H locs ls hP hS hl => ?_)
        refine lv_iload_n hx hb d_Mo_pointAt_82 rfl (lv_at hl 4 rfl) ?_
        refine lv_if_ne (tgt := 94) hx hb d_Mo_pointAt_83 (by decide) (fun c83 => ?_) (fun c83 => ?_)
        · have h := h.2 c83
          refine lv_iload_n hx hb d_Mo_pointAt_94 rfl (lv_at hl 4 rfl) ?_
          refine lv_iconst (v := 1) hx hb d_Mo_pointAt_95 (by decide) ?_
          refine lv_icmp_ne (tgt := 107) hx hb d_Mo_pointAt_96 (by decide) (fun c96 => ?_) (fun c96 => ?_)
          · have h := h.2 c96
            refine lv_iload_n hx hb d_Mo_pointAt_107 rfl (lv_at hl 4 rfl) ?_
            refine lv_iconst (v := 2) hx hb d_Mo_pointAt_108 (by decide) ?_
            refine lv_icmp_ne (tgt := 121) hx hb d_Mo_pointAt_109 (by decide) (fun c109 => ?_) (fun c109 => ?_)
            · have h := h.2 c109
              refine lv_iload_n hx hb d_Mo_pointAt_121 rfl (lv_at hl 4 rfl) ?_
              refine lv_iconst (v := 3) hx hb d_Mo_pointAt_122 (by decide) ?_
              refine lv_icmp_ne (tgt := 134) hx hb d_Mo_pointAt_123 (by decide) (fun c123 => ?_) (fun c123 => ?_)
              · have h := h.2 c123
                refine lv_iload_n hx hb d_Mo_pointAt_134 rfl (lv_at hl 0 rfl) ?_
                have hv : (((g_Mo_pointAt_38 a0 a1 200 0 0 ((f_Mo_throwing ar sc 1 0 0).2.1) ((f_Mo_throwing ar sc 1 0 0).2.2)).1, (g_Mo_pointAt_38 a0 a1 200 0 0 ((f_Mo_throwing ar sc 1 0 0).2.1) ((f_Mo_throwing ar sc 1 0 0).2.2)).2.2.1, (g_Mo_pointAt_38 a0 a1 200 0 0 ((f_Mo_throwing ar sc 1 0 0).2.1) ((f_Mo_throwing ar sc 1 0 0).2.2)).2.2.2) : Int32 × (Nat → Nat → Int32) × (Nat → Int32)) = f_Mo_pointAt ar sc a0 a1 := by rw [f_Mo_pointAt, if_neg c6, if_pos c15, if_pos c28, if_neg c83, if_neg c96, if_neg c109, if_neg c123]
                exact W.iret (v := (g_Mo_pointAt_38 a0 a1 200 0 0 ((f_Mo_throwing ar sc 1 0 0).2.1) ((f_Mo_throwing ar sc 1 0 0).2.2)).1) hx hb hr (fun t ht hW => ⟨⟨(g_Mo_pointAt_38 a0 a1 200 0 0 ((f_Mo_throwing ar sc 1 0 0).2.1) ((f_Mo_throwing ar sc 1 0 0).2.2)).1, ((g_Mo_pointAt_38 a0 a1 200 0 0 ((f_Mo_throwing ar sc 1 0 0).2.1) ((f_Mo_throwing ar sc 1 0 0).2.2)).2.2.1, (g_Mo_pointAt_38 a0 a1 200 0 0 ((f_Mo_throwing ar sc 1 0 0).2.1) ((f_Mo_throwing ar sc 1 0 0).2.2)).2.2.2), rfl, hv, by dsimp only; rw [ht]; exact hP⟩, hS.F ht⟩) hS.2.2 d_Mo_pointAt_135
              · have h := h.1 c123
                refine lv_aload_n hx hb d_Mo_pointAt_126 rfl (lv_at hl 2 rfl) ?_
                refine lv_iload_n hx hb d_Mo_pointAt_127 rfl (lv_at hl 3 rfl) ?_
                have k128 := h
                refine r_Mo_dueFrom hF hK hP k128 m_315 hl.1 ⟨Nat.le_of_ble_eq_true rfl, Nat.le_of_ble_eq_true rfl⟩ ⟨Nat.zero_le _, Nat.zero_le _⟩ (Nat.le_of_ble_eq_true rfl) d_Mo_pointAt_128 ?_
                refine lv_goto (tgt := 135) hx hb d_Mo_pointAt_131 (by decide) ?_
                have hv : ((f_Mo_dueFrom ((g_Mo_pointAt_38 a0 a1 200 0 0 ((f_Mo_throwing ar sc 1 0 0).2.1) ((f_Mo_throwing ar sc 1 0 0).2.2)).2.2.1) ((g_Mo_pointAt_38 a0 a1 200 0 0 ((f_Mo_throwing ar sc 1 0 0).2.1) ((f_Mo_throwing ar sc 1 0 0).2.2)).2.2.2) a0, (g_Mo_pointAt_38 a0 a1 200 0 0 ((f_Mo_throwing ar sc 1 0 0).2.1) ((f_Mo_throwing ar sc 1 0 0).2.2)).2.2.1, (g_Mo_pointAt_38 a0 a1 200 0 0 ((f_Mo_throwing ar sc 1 0 0).2.1) ((f_Mo_throwing ar sc 1 0 0).2.2)).2.2.2) : Int32 × (Nat → Nat → Int32) × (Nat → Int32)) = f_Mo_pointAt ar sc a0 a1 := by rw [f_Mo_pointAt, if_neg c6, if_pos c15, if_pos c28, if_neg c83, if_neg c96, if_neg c109, if_pos c123]
                exact W.iret (v := f_Mo_dueFrom ((g_Mo_pointAt_38 a0 a1 200 0 0 ((f_Mo_throwing ar sc 1 0 0).2.1) ((f_Mo_throwing ar sc 1 0 0).2.2)).2.2.1) ((g_Mo_pointAt_38 a0 a1 200 0 0 ((f_Mo_throwing ar sc 1 0 0).2.1) ((f_Mo_throwing ar sc 1 0 0).2.2)).2.2.2) a0) hx hb hr (fun t ht hW => ⟨⟨f_Mo_dueFrom ((g_Mo_pointAt_38 a0 a1 200 0 0 ((f_Mo_throwing ar sc 1 0 0).2.1) ((f_Mo_throwing ar sc 1 0 0).2.2)).2.2.1) ((g_Mo_pointAt_38 a0 a1 200 0 0 ((f_Mo_throwing ar sc 1 0 0).2.1) ((f_Mo_throwing ar sc 1 0 0).2.2)).2.2.2) a0, ((g_Mo_pointAt_38 a0 a1 200 0 0 ((f_Mo_throwing ar sc 1 0 0).2.1) ((f_Mo_throwing ar sc 1 0 0).2.2)).2.2.1, (g_Mo_pointAt_38 a0 a1 200 0 0 ((f_Mo_throwing ar sc 1 0 0).2.1) ((f_Mo_throwing ar sc 1 0 0).2.2)).2.2.2), rfl, hv, by dsimp only; rw [ht]; exact hP⟩, hS.F ht⟩) hS.2.2 d_Mo_pointAt_135
            · have h := h.1 c109
              refine lv_aload_n hx hb d_Mo_pointAt_112 rfl (lv_at hl 2 rfl) ?_
              refine gf_Mo_visited hF hK hP m_224 d_Mo_pointAt_113 ?_
              refine lv_iload_n hx hb d_Mo_pointAt_116 rfl (lv_at hl 3 rfl) ?_
              have k117 := h
              refine alM_10 hF hK hP k117 d_Mo_pointAt_117 ?_
              refine lv_goto (tgt := 135) hx hb d_Mo_pointAt_118 (by decide) ?_
              have hv : ((((g_Mo_pointAt_38 a0 a1 200 0 0 ((f_Mo_throwing ar sc 1 0 0).2.1) ((f_Mo_throwing ar sc 1 0 0).2.2)).2.2.1) 10 a0.toNatClampNeg, (g_Mo_pointAt_38 a0 a1 200 0 0 ((f_Mo_throwing ar sc 1 0 0).2.1) ((f_Mo_throwing ar sc 1 0 0).2.2)).2.2.1, (g_Mo_pointAt_38 a0 a1 200 0 0 ((f_Mo_throwing ar sc 1 0 0).2.1) ((f_Mo_throwing ar sc 1 0 0).2.2)).2.2.2) : Int32 × (Nat → Nat → Int32) × (Nat → Int32)) = f_Mo_pointAt ar sc a0 a1 := by rw [f_Mo_pointAt, if_neg c6, if_pos c15, if_pos c28, if_neg c83, if_neg c96, if_pos c109]
              exact W.iret (v := ((g_Mo_pointAt_38 a0 a1 200 0 0 ((f_Mo_throwing ar sc 1 0 0).2.1) ((f_Mo_throwing ar sc 1 0 0).2.2)).2.2.1) 10 a0.toNatClampNeg) hx hb hr (fun t ht hW => ⟨⟨((g_Mo_pointAt_38 a0 a1 200 0 0 ((f_Mo_throwing ar sc 1 0 0).2.1) ((f_Mo_throwing ar sc 1 0 0).2.2)).2.2.1) 10 a0.toNatClampNeg, ((g_Mo_pointAt_38 a0 a1 200 0 0 ((f_Mo_throwing ar sc 1 0 0).2.1) ((f_Mo_throwing ar sc 1 0 0).2.2)).2.2.1, (g_Mo_pointAt_38 a0 a1 200 0 0 ((f_Mo_throwing ar sc 1 0 0).2.1) ((f_Mo_throwing ar sc 1 0 0).2.2)).2.2.2), rfl, hv, by dsimp only; rw [ht]; exact hP⟩, hS.F ht⟩) hS.2.2 d_Mo_pointAt_135
          · have h := h.1 c96
            refine lv_aload_n hx hb d_Mo_pointAt_99 rfl (lv_at hl 2 rfl) ?_
            refine lv_iload_n hx hb d_Mo_pointAt_100 rfl (lv_at hl 3 rfl) ?_
            have k101 := h
            refine r_Mo_classOf hF hK hP k101 m_226 hl.1 ⟨Nat.le_of_ble_eq_true rfl, Nat.le_of_ble_eq_true rfl⟩ ⟨Nat.zero_le _, Nat.zero_le _⟩ (Nat.le_of_ble_eq_true rfl) d_Mo_pointAt_101 ?_
            refine lv_goto (tgt := 135) hx hb d_Mo_pointAt_104 (by decide) ?_
            have hv : ((f_Mo_classOf ((g_Mo_pointAt_38 a0 a1 200 0 0 ((f_Mo_throwing ar sc 1 0 0).2.1) ((f_Mo_throwing ar sc 1 0 0).2.2)).2.2.1) ((g_Mo_pointAt_38 a0 a1 200 0 0 ((f_Mo_throwing ar sc 1 0 0).2.1) ((f_Mo_throwing ar sc 1 0 0).2.2)).2.2.2) a0, (g_Mo_pointAt_38 a0 a1 200 0 0 ((f_Mo_throwing ar sc 1 0 0).2.1) ((f_Mo_throwing ar sc 1 0 0).2.2)).2.2.1, (g_Mo_pointAt_38 a0 a1 200 0 0 ((f_Mo_throwing ar sc 1 0 0).2.1) ((f_Mo_throwing ar sc 1 0 0).2.2)).2.2.2) : Int32 × (Nat → Nat → Int32) × (Nat → Int32)) = f_Mo_pointAt ar sc a0 a1 := by rw [f_Mo_pointAt, if_neg c6, if_pos c15, if_pos c28, if_neg c83, if_pos c96]
            exact W.iret (v := f_Mo_classOf ((g_Mo_pointAt_38 a0 a1 200 0 0 ((f_Mo_throwing ar sc 1 0 0).2.1) ((f_Mo_throwing ar sc 1 0 0).2.2)).2.2.1) ((g_Mo_pointAt_38 a0 a1 200 0 0 ((f_Mo_throwing ar sc 1 0 0).2.1) ((f_Mo_throwing ar sc 1 0 0).2.2)).2.2.2) a0) hx hb hr (fun t ht hW => ⟨⟨f_Mo_classOf ((g_Mo_pointAt_38 a0 a1 200 0 0 ((f_Mo_throwing ar sc 1 0 0).2.1) ((f_Mo_throwing ar sc 1 0 0).2.2)).2.2.1) ((g_Mo_pointAt_38 a0 a1 200 0 0 ((f_Mo_throwing ar sc 1 0 0).2.1) ((f_Mo_throwing ar sc 1 0 0).2.2)).2.2.2) a0, ((g_Mo_pointAt_38 a0 a1 200 0 0 ((f_Mo_throwing ar sc 1 0 0).2.1) ((f_Mo_throwing ar sc 1 0 0).2.2)).2.2.1, (g_Mo_pointAt_38 a0 a1 200 0 0 ((f_Mo_throwing ar sc 1 0 0).2.1) ((f_Mo_throwing ar sc 1 0 0).2.2)).2.2.2), rfl, hv, by dsimp only; rw [ht]; exact hP⟩, hS.F ht⟩) hS.2.2 d_Mo_pointAt_135
        · have h := h.1 c83
          refine lv_aload_n hx hb d_Mo_pointAt_86 rfl (lv_at hl 2 rfl) ?_
          refine lv_iload_n hx hb d_Mo_pointAt_87 rfl (lv_at hl 3 rfl) ?_
          have k88 := h
          refine r_Mo_riskOf hF hK hP k88 m_217 hl.1 ⟨Nat.le_of_ble_eq_true rfl, Nat.le_of_ble_eq_true rfl⟩ ⟨Nat.zero_le _, Nat.zero_le _⟩ (Nat.le_of_ble_eq_true rfl) d_Mo_pointAt_88 ?_
          refine lv_goto (tgt := 135) hx hb d_Mo_pointAt_91 (by decide) ?_
          have hv : ((f_Mo_riskOf ((g_Mo_pointAt_38 a0 a1 200 0 0 ((f_Mo_throwing ar sc 1 0 0).2.1) ((f_Mo_throwing ar sc 1 0 0).2.2)).2.2.1) ((g_Mo_pointAt_38 a0 a1 200 0 0 ((f_Mo_throwing ar sc 1 0 0).2.1) ((f_Mo_throwing ar sc 1 0 0).2.2)).2.2.2) a0, (g_Mo_pointAt_38 a0 a1 200 0 0 ((f_Mo_throwing ar sc 1 0 0).2.1) ((f_Mo_throwing ar sc 1 0 0).2.2)).2.2.1, (g_Mo_pointAt_38 a0 a1 200 0 0 ((f_Mo_throwing ar sc 1 0 0).2.1) ((f_Mo_throwing ar sc 1 0 0).2.2)).2.2.2) : Int32 × (Nat → Nat → Int32) × (Nat → Int32)) = f_Mo_pointAt ar sc a0 a1 := by rw [f_Mo_pointAt, if_neg c6, if_pos c15, if_pos c28, if_pos c83]
          exact W.iret (v := f_Mo_riskOf ((g_Mo_pointAt_38 a0 a1 200 0 0 ((f_Mo_throwing ar sc 1 0 0).2.1) ((f_Mo_throwing ar sc 1 0 0).2.2)).2.2.1) ((g_Mo_pointAt_38 a0 a1 200 0 0 ((f_Mo_throwing ar sc 1 0 0).2.1) ((f_Mo_throwing ar sc 1 0 0).2.2)).2.2.2) a0) hx hb hr (fun t ht hW => ⟨⟨f_Mo_riskOf ((g_Mo_pointAt_38 a0 a1 200 0 0 ((f_Mo_throwing ar sc 1 0 0).2.1) ((f_Mo_throwing ar sc 1 0 0).2.2)).2.2.1) ((g_Mo_pointAt_38 a0 a1 200 0 0 ((f_Mo_throwing ar sc 1 0 0).2.1) ((f_Mo_throwing ar sc 1 0 0).2.2)).2.2.2) a0, ((g_Mo_pointAt_38 a0 a1 200 0 0 ((f_Mo_throwing ar sc 1 0 0).2.1) ((f_Mo_throwing ar sc 1 0 0).2.2)).2.2.1, (g_Mo_pointAt_38 a0 a1 200 0 0 ((f_Mo_throwing ar sc 1 0 0).2.1) ((f_Mo_throwing ar sc 1 0 0).2.2)).2.2.2), rfl, hv, by dsimp only; rw [ht]; exact hP⟩, hS.F ht⟩) hS.2.2 d_Mo_pointAt_135
      · have h := h.2 c28
        refine lv_iconst (v := 0) hx hb d_Mo_pointAt_31 (by decide) ?_
        have hv : ((0, (f_Mo_throwing ar sc 1 0 0).2.1, (f_Mo_throwing ar sc 1 0 0).2.2) : Int32 × (Nat → Nat → Int32) × (Nat → Int32)) = f_Mo_pointAt ar sc a0 a1 := by rw [f_Mo_pointAt, if_neg c6, if_pos c15, if_neg c28]
        exact W.iret (v := 0) hx hb hr (fun t ht hW => ⟨⟨0, ((f_Mo_throwing ar sc 1 0 0).2.1, (f_Mo_throwing ar sc 1 0 0).2.2), rfl, hv, by dsimp only; rw [ht]; exact hP⟩, hS.F ht⟩) hS.2.2 d_Mo_pointAt_32
set_option maxHeartbeats 1000000 in
theorem r_Mo_pointAt {p : Program} {l : Launch} {e : Env} {R : Room} {s : State} {m : MethodId} {args : Array Value} {below : List Frame} {meth : Method} {c : Code} {H : Heap} {locs : List Loc} {cells slots : Nat} {Q : State → Prop} {cc : ByteArray} {nL pc idx : Nat} {ls : Array Slot} {rest : List Value} {own : String} {dC : Nat → ClassId} {dI : Nat → Nat → Nat} {L : Nat → Nat} {cA : Nat → ClassId} {ar : Nat → Nat → Int32} {sc : Nat → Int32} {H0 : Heap} {a0 : Int32} {a1 : Int32} (hF : CallFix p m c cc nL s args w_all own) (hK : kW_M dC dI cA s) (hP : va_P (dC, dI) classes (wM L cA ar sc) H) (hL : ij 25 L) (hS : va_S (aM L) H0 H locs) (h : p_Mo_pointAt ar sc a0 a1) (hlk : Cond.methodLink own idx y_Mo_pointAt ∈ w_all) (hsz : ls.size = nL) (hR : (rmD 5).frames + 1 ≤ R.frames ∧ 8 + (5 + 11) + (rmD 5).locals ≤ R.locals) (hc : cells ≤ R.cells ∧ slots ≤ R.slots) (hrs : (rest.map fun v => v.category).sum ≤ 8) (hdg : decode cc pc = .ok (.invokevirtual idx, 3)) (kk : ∀ (H1 : Heap) (locs1 : List Loc), va_P (dC, dI) classes (wM L cA ((f_Mo_pointAt ar sc a0 a1).2.1) ((f_Mo_pointAt ar sc a0 a1).2.2)) H1 → va_S (aM L) H0 H1 locs1 → W p l e R s m args below meth c H1 locs1 cells slots Q (F0 m (pc + 3) ls (.int (f_Mo_pointAt ar sc a0 a1).1 :: rest))) : W p l e R s m args below meth c H locs cells slots Q (F0 m pc ls (.int a1 :: .int a0 :: .ref (L 0) :: rest)) :=
  va_calli (va_runV (As := [.int a0, .int a1]) (rest := rest) hF (c_Mo_pointAt l dC dI L cA ar sc a0 a1 hL h) (cwV 2 hF.2.2.2.2 (gV hlk m_316 m_317 m_187 m_318) rfl rfl rfl (by decide +kernel) hR) ⟨xb_M, va_recv hK.1 hP (ci := 7) (q0 := 0) rfl rfl, fun U hU hW => ⟨rfl, by rw [hU]; exact hP, kW_M_warm hW hK⟩⟩ rfl rfl hsz rfl (lv_room hrs) hdg hc) hS (fun q _ h9 => h9) (fun q h9 => h9) (fun r u t H1 locs1 ht hvm hw hB hz1 hk1 hS1 => by
    have hk9 := kk H1 locs1 (by rw [← hw, ← ht]; exact hB) hS1
    rw [← hw] at hk9
    exact hk9)
theorem d_Mo_due_0 : decode b_Mo_due 0 = .ok (.aload_n 0, 1) := by decide +kernel
theorem d_Mo_due_1 : decode b_Mo_due 1 = .ok (.iload_n 1, 1) := by decide +kernel
theorem d_Mo_due_2 : decode b_Mo_due 2 = .ok (.aload_n 0, 1) := by decide +kernel
theorem d_Mo_due_3 : decode b_Mo_due 3 = .ok (.getfield 109, 3) := by decide +kernel
theorem d_Mo_due_6 : decode b_Mo_due 6 = .ok (.ldc 112, 2) := by decide +kernel
theorem d_Mo_due_8 : decode b_Mo_due 8 = .ok (.invokestatic 100, 3) := by decide +kernel
theorem d_Mo_due_11 : decode b_Mo_due 11 = .ok (.ifCond .eq 7, 3) := by decide +kernel
theorem d_Mo_due_14 : decode b_Mo_due 14 = .ok (.iload_n 2, 1) := by decide +kernel
theorem d_Mo_due_15 : decode b_Mo_due 15 = .ok (.ifCond .ge 7, 3) := by decide +kernel
theorem d_Mo_due_18 : decode b_Mo_due 18 = .ok (.iconst 1, 1) := by decide +kernel
theorem d_Mo_due_19 : decode b_Mo_due 19 = .ok (.goto 4, 3) := by decide +kernel
theorem d_Mo_due_22 : decode b_Mo_due 22 = .ok (.iconst 0, 1) := by decide +kernel
theorem d_Mo_due_23 : decode b_Mo_due 23 = .ok (.iconst 0, 1) := by decide +kernel
theorem d_Mo_due_24 : decode b_Mo_due 24 = .ok (.iconst 0, 1) := by decide +kernel
theorem d_Mo_due_25 : decode b_Mo_due 25 = .ok (.invokevirtual 104, 3) := by decide +kernel
theorem d_Mo_due_28 : decode b_Mo_due 28 = .ok (.ifCond .eq 5, 3) := by decide +kernel
theorem d_Mo_due_31 : decode b_Mo_due 31 = .ok (.iconst 0, 1) := by decide +kernel
theorem d_Mo_due_32 : decode b_Mo_due 32 = .ok (.ireturn, 1) := by decide +kernel
theorem d_Mo_due_33 : decode b_Mo_due 33 = .ok (.iconst 0, 1) := by decide +kernel
theorem d_Mo_due_34 : decode b_Mo_due 34 = .ok (.istore_n 3, 1) := by decide +kernel
theorem d_Mo_due_35 : decode b_Mo_due 35 = .ok (.iload_n 3, 1) := by decide +kernel
theorem d_Mo_due_36 : decode b_Mo_due 36 = .ok (.aload_n 0, 1) := by decide +kernel
theorem d_Mo_due_37 : decode b_Mo_due 37 = .ok (.getfield 97, 3) := by decide +kernel
theorem d_Mo_due_40 : decode b_Mo_due 40 = .ok (.if_icmp .ge 83, 3) := by decide +kernel
theorem d_Mo_due_43 : decode b_Mo_due 43 = .ok (.iconst 0, 1) := by decide +kernel
theorem d_Mo_due_44 : decode b_Mo_due 44 = .ok (.istore 4, 2) := by decide +kernel
theorem d_Mo_due_46 : decode b_Mo_due 46 = .ok (.iconst 0, 1) := by decide +kernel
theorem d_Mo_due_47 : decode b_Mo_due 47 = .ok (.istore 5, 2) := by decide +kernel
theorem d_Mo_due_49 : decode b_Mo_due 49 = .ok (.iload 5, 2) := by decide +kernel
theorem d_Mo_due_51 : decode b_Mo_due 51 = .ok (.aload_n 0, 1) := by decide +kernel
theorem d_Mo_due_52 : decode b_Mo_due 52 = .ok (.getfield 97, 3) := by decide +kernel
theorem d_Mo_due_55 : decode b_Mo_due 55 = .ok (.if_icmp .ge 45, 3) := by decide +kernel
theorem d_Mo_due_58 : decode b_Mo_due 58 = .ok (.iload 4, 2) := by decide +kernel
theorem d_Mo_due_60 : decode b_Mo_due 60 = .ok (.iload 5, 2) := by decide +kernel
theorem d_Mo_due_62 : decode b_Mo_due 62 = .ok (.iload_n 3, 1) := by decide +kernel
theorem d_Mo_due_63 : decode b_Mo_due 63 = .ok (.if_icmp .eq 27, 3) := by decide +kernel
theorem d_Mo_due_66 : decode b_Mo_due 66 = .ok (.aload_n 0, 1) := by decide +kernel
theorem d_Mo_due_67 : decode b_Mo_due 67 = .ok (.iload 5, 2) := by decide +kernel
theorem d_Mo_due_69 : decode b_Mo_due 69 = .ok (.invokevirtual 134, 3) := by decide +kernel
theorem d_Mo_due_72 : decode b_Mo_due 72 = .ok (.iload_n 1, 1) := by decide +kernel
theorem d_Mo_due_73 : decode b_Mo_due 73 = .ok (.if_icmp .gt 17, 3) := by decide +kernel
theorem d_Mo_due_76 : decode b_Mo_due 76 = .ok (.aload_n 0, 1) := by decide +kernel
theorem d_Mo_due_77 : decode b_Mo_due 77 = .ok (.iload 5, 2) := by decide +kernel
theorem d_Mo_due_79 : decode b_Mo_due 79 = .ok (.iload_n 3, 1) := by decide +kernel
theorem d_Mo_due_80 : decode b_Mo_due 80 = .ok (.invokevirtual 137, 3) := by decide +kernel
theorem d_Mo_due_83 : decode b_Mo_due 83 = .ok (.ifCond .eq 7, 3) := by decide +kernel
theorem d_Mo_due_86 : decode b_Mo_due 86 = .ok (.iconst 1, 1) := by decide +kernel
theorem d_Mo_due_87 : decode b_Mo_due 87 = .ok (.goto 4, 3) := by decide +kernel
theorem d_Mo_due_90 : decode b_Mo_due 90 = .ok (.iconst 0, 1) := by decide +kernel
theorem d_Mo_due_91 : decode b_Mo_due 91 = .ok (.iadd, 1) := by decide +kernel
theorem d_Mo_due_92 : decode b_Mo_due 92 = .ok (.istore 4, 2) := by decide +kernel
theorem d_Mo_due_94 : decode b_Mo_due 94 = .ok (.iinc 5 1, 3) := by decide +kernel
theorem d_Mo_due_97 : decode b_Mo_due 97 = .ok (.goto (-48), 3) := by decide +kernel
theorem d_Mo_due_100 : decode b_Mo_due 100 = .ok (.aload_n 0, 1) := by decide +kernel
theorem d_Mo_due_101 : decode b_Mo_due 101 = .ok (.iload_n 3, 1) := by decide +kernel
theorem d_Mo_due_102 : decode b_Mo_due 102 = .ok (.invokevirtual 134, 3) := by decide +kernel
theorem d_Mo_due_105 : decode b_Mo_due 105 = .ok (.iload_n 1, 1) := by decide +kernel
theorem d_Mo_due_106 : decode b_Mo_due 106 = .ok (.if_icmp .gt 11, 3) := by decide +kernel
theorem d_Mo_due_109 : decode b_Mo_due 109 = .ok (.iload 4, 2) := by decide +kernel
theorem d_Mo_due_111 : decode b_Mo_due 111 = .ok (.iload_n 2, 1) := by decide +kernel
theorem d_Mo_due_112 : decode b_Mo_due 112 = .ok (.if_icmp .ne 5, 3) := by decide +kernel
theorem d_Mo_due_115 : decode b_Mo_due 115 = .ok (.iload_n 3, 1) := by decide +kernel
theorem d_Mo_due_116 : decode b_Mo_due 116 = .ok (.ireturn, 1) := by decide +kernel
theorem d_Mo_due_117 : decode b_Mo_due 117 = .ok (.iinc 3 1, 3) := by decide +kernel
theorem d_Mo_due_120 : decode b_Mo_due 120 = .ok (.goto (-85), 3) := by decide +kernel
theorem d_Mo_due_123 : decode b_Mo_due 123 = .ok (.iconst (-1), 1) := by decide +kernel
theorem d_Mo_due_124 : decode b_Mo_due 124 = .ok (.ireturn, 1) := by decide +kernel
set_option maxHeartbeats 4000000 in
set_option maxRecDepth 100000 in
theorem l_Mo_due_49 {p : Program} {l : Launch} {e : Env} {s : State} {m : MethodId} {args : Array Value} {below : List Frame} {meth : Method} {c : Code} {dC : Nat → ClassId} {dI : Nat → Nat → Nat} {L : Nat → Nat} {cA : Nat → ClassId} {Q : State → Prop} (a0 : Int32) (a1 : Int32) (u3 : Int32) (hF : CallFix p m c b_Mo_due 6 s args w_all R_Mo) (hK : kW_M dC dI cA s) (hL : ij 25 L) : ∀ (n : Nat) (v4 : Int32) (v5 : Int32) (ar : Nat → Nat → Int32) (sc : Nat → Int32), q_Mo_due_49 a0 a1 u3 n v4 v5 ar sc → ∀ (H : Heap) (locs : List Loc), va_P (dC, dI) classes (wM L cA ar sc) H → va_S (aM L) s.heap H locs → ∀ (ls : Array Slot), lv_has ls 6 [(4, .int v4), (5, .int v5), (0, .ref (L 0)), (1, .int a0), (2, .int a1), (3, .int u3)] → (∀ (H : Heap) (locs : List Loc) (ls : Array Slot), va_P (dC, dI) classes (wM L cA ((g_Mo_due_49 a0 a1 u3 n v4 v5 ar sc).2.2.1) ((g_Mo_due_49 a0 a1 u3 n v4 v5 ar sc).2.2.2)) H → va_S (aM L) s.heap H locs → lv_has ls 6 [(4, .int ((g_Mo_due_49 a0 a1 u3 n v4 v5 ar sc).1)), (5, .int ((g_Mo_due_49 a0 a1 u3 n v4 v5 ar sc).2.1)), (0, .ref (L 0)), (1, .int a0), (2, .int a1), (3, .int u3)] → W p l e (rmD 5) s m args below meth c H locs 0 0 Q (F0 m 100 ls [])) → W p l e (rmD 5) s m args below meth c H locs 0 0 Q (F0 m 49 ls []) := by
  have hx := hF.1
  have hb := hF.2.1
  have hown := hF.2.2.2.1
  have hts := hF.2.2.2.2
  intro n
  induction n with
  | zero => intro v4 v5 ar sc h; exact False.elim h
  | succ n ih =>
    intro v4 v5 ar sc h H locs hP hS ls hl hk
    rw [q_Mo_due_49] at h
    refine lv_iload hx hb d_Mo_due_49 (lv_at hl 1 rfl) ?_
    refine lv_aload_n hx hb d_Mo_due_51 rfl (lv_at hl 2 rfl) ?_
    refine gf_Mo_points hF hK hP m_194 d_Mo_due_52 ?_
    refine lv_icmp_ge (tgt := 100) hx hb d_Mo_due_55 (by decide) (fun c55 => ?_) (fun c55 => ?_)
    · have h := h.1 c55
      have hv : g_Mo_due_49 a0 a1 u3 (n + 1) v4 v5 ar sc = ((v4, v5, ar, sc) : Int32 × Int32 × (Nat → Nat → Int32) × (Nat → Int32)) := by rw [g_Mo_due_49, if_pos c55]
      rw [hv] at hk
      exact hk _ _ ls hP hS (lv_sub hl [0, 1, 2, 3, 4, 5] rfl)
    · have h := h.2 c55
      refine lv_iload hx hb d_Mo_due_58 (lv_at hl 0 rfl) ?_
      refine lv_iload hx hb d_Mo_due_60 (lv_at hl 1 rfl) ?_
      refine lv_iload_n hx hb d_Mo_due_62 rfl (lv_at hl 5 rfl) ?_
      refine lv_icmp_eq (tgt := 90) hx hb d_Mo_due_63 (by decide) (fun c63 => ?_) (fun c63 => ?_)
      · have h := h.1 c63
        refine lv_iconst (v := 0) hx hb d_Mo_due_90 (by decide) ?_
        refine lv_iadd hx hb d_Mo_due_91 ?_
        refine lv_istore (lv' := [(4, .int (v4 + 0)), (5, .int v5), (0, .ref (L 0)), (1, .int a0), (2, .int a1), (3, .int u3)]) hx hb d_Mo_due_92 hl (by decide) rfl (fun ls hl => ?_)
        refine lv_iinc (v := v5 + 1) (lv' := [(5, .int (v5 + 1)), (4, .int (v4 + 0)), (0, .ref (L 0)), (1, .int a0), (2, .int a1), (3, .int u3)]) hx hb d_Mo_due_94 hl (k := 1) rfl rfl (by decide) rfl (fun ls hl => ?_)
        refine lv_goto (tgt := 49) hx hb d_Mo_due_97 (by decide) ?_
        have hv : g_Mo_due_49 a0 a1 u3 (n + 1) v4 v5 ar sc = g_Mo_due_49 a0 a1 u3 n (v4 + 0) (v5 + 1) ar sc := by rw [g_Mo_due_49, if_neg c55, if_pos c63]
        rw [hv] at hk
        exact ih (v4 + 0) (v5 + 1) ar sc h _ _ hP hS ls (lv_sub hl [1, 0, 2, 3, 4, 5] rfl) hk
      · have h := h.2 c63
        refine lv_aload_n hx hb d_Mo_due_66 rfl (lv_at hl 2 rfl) ?_
        refine lv_iload hx hb d_Mo_due_67 (lv_at hl 1 rfl) ?_
        have k69 := h.1
        have h := h.2
        refine r_Mo_dueFrom hF hK hP k69 m_315 hl.1 ⟨Nat.le_of_ble_eq_true rfl, Nat.le_of_ble_eq_true rfl⟩ ⟨Nat.zero_le _, Nat.zero_le _⟩ (Nat.le_of_ble_eq_true rfl) d_Mo_due_69 ?_
        refine lv_iload_n hx hb d_Mo_due_72 rfl (lv_at hl 3 rfl) ?_
        refine lv_icmp_gt (tgt := 90) hx hb d_Mo_due_73 (by decide) (fun c73 => ?_) (fun c73 => ?_)
        · have h := h.1 c73
          refine lv_iconst (v := 0) hx hb d_Mo_due_90 (by decide) ?_
          refine lv_iadd hx hb d_Mo_due_91 ?_
          refine lv_istore (lv' := [(4, .int (v4 + 0)), (5, .int v5), (0, .ref (L 0)), (1, .int a0), (2, .int a1), (3, .int u3)]) hx hb d_Mo_due_92 hl (by decide) rfl (fun ls hl => ?_)
          refine lv_iinc (v := v5 + 1) (lv' := [(5, .int (v5 + 1)), (4, .int (v4 + 0)), (0, .ref (L 0)), (1, .int a0), (2, .int a1), (3, .int u3)]) hx hb d_Mo_due_94 hl (k := 1) rfl rfl (by decide) rfl (fun ls hl => ?_)
          refine lv_goto (tgt := 49) hx hb d_Mo_due_97 (by decide) ?_
          have hv : g_Mo_due_49 a0 a1 u3 (n + 1) v4 v5 ar sc = g_Mo_due_49 a0 a1 u3 n (v4 + 0) (v5 + 1) ar sc := by rw [g_Mo_due_49, if_neg c55, if_neg c63, if_pos c73]
          rw [hv] at hk
          exact ih (v4 + 0) (v5 + 1) ar sc h _ _ hP hS ls (lv_sub hl [1, 0, 2, 3, 4, 5] rfl) hk
        · have h := h.2 c73
          refine lv_aload_n hx hb d_Mo_due_76 rfl (lv_at hl 2 rfl) ?_
          refine lv_iload hx hb d_Mo_due_77 (lv_at hl 1 rfl) ?_
          refine lv_iload_n hx hb d_Mo_due_79 rfl (lv_at hl 5 rfl) ?_
          have k80 := h.1
          have h := h.2
          refine r_Mo_isAhead hF hK hP k80 m_319 hl.1 ⟨Nat.le_of_ble_eq_true rfl, Nat.le_of_ble_eq_true rfl⟩ ⟨Nat.zero_le _, Nat.zero_le _⟩ (Nat.le_of_ble_eq_true rfl) d_Mo_due_80 ?_
          refine lv_if_eq (tgt := 90) hx hb d_Mo_due_83 (by decide) (fun c83 => ?_) (fun c83 => ?_)
          · have h := h.1 c83
            refine lv_iconst (v := 0) hx hb d_Mo_due_90 (by decide) ?_
            refine lv_iadd hx hb d_Mo_due_91 ?_
            refine lv_istore (lv' := [(4, .int (v4 + 0)), (5, .int v5), (0, .ref (L 0)), (1, .int a0), (2, .int a1), (3, .int u3)]) hx hb d_Mo_due_92 hl (by decide) rfl (fun ls hl => ?_)
            refine lv_iinc (v := v5 + 1) (lv' := [(5, .int (v5 + 1)), (4, .int (v4 + 0)), (0, .ref (L 0)), (1, .int a0), (2, .int a1), (3, .int u3)]) hx hb d_Mo_due_94 hl (k := 1) rfl rfl (by decide) rfl (fun ls hl => ?_)
            refine lv_goto (tgt := 49) hx hb d_Mo_due_97 (by decide) ?_
            have hv : g_Mo_due_49 a0 a1 u3 (n + 1) v4 v5 ar sc = g_Mo_due_49 a0 a1 u3 n (v4 + 0) (v5 + 1) ar sc := by rw [g_Mo_due_49, if_neg c55, if_neg c63, if_neg c73, if_pos c83]
            rw [hv] at hk
            exact ih (v4 + 0) (v5 + 1) ar sc h _ _ hP hS ls (lv_sub hl [1, 0, 2, 3, 4, 5] rfl) hk
          · have h := h.2 c83
            refine lv_iconst (v := 1) hx hb d_Mo_due_86 (by decide) ?_
            refine lv_goto (tgt := 91) hx hb d_Mo_due_87 (by decide) ?_
            refine lv_iadd hx hb d_Mo_due_91 ?_
            refine lv_istore (lv' := [(4, .int (v4 + 1)), (5, .int v5), (0, .ref (L 0)), (1, .int a0), (2, .int a1), (3, .int u3)]) hx hb d_Mo_due_92 hl (by decide) rfl (fun ls hl => ?_)
            refine lv_iinc (v := v5 + 1) (lv' := [(5, .int (v5 + 1)), (4, .int (v4 + 1)), (0, .ref (L 0)), (1, .int a0), (2, .int a1), (3, .int u3)]) hx hb d_Mo_due_94 hl (k := 1) rfl rfl (by decide) rfl (fun ls hl => ?_)
            refine lv_goto (tgt := 49) hx hb d_Mo_due_97 (by decide) ?_
            have hv : g_Mo_due_49 a0 a1 u3 (n + 1) v4 v5 ar sc = g_Mo_due_49 a0 a1 u3 n (v4 + 1) (v5 + 1) ar sc := by rw [g_Mo_due_49, if_neg c55, if_neg c63, if_neg c73, if_neg c83]
            rw [hv] at hk
            exact ih (v4 + 1) (v5 + 1) ar sc h _ _ hP hS ls (lv_sub hl [1, 0, 2, 3, 4, 5] rfl) hk
set_option maxHeartbeats 4000000 in
set_option maxRecDepth 100000 in
theorem l_Mo_due_35 {p : Program} {l : Launch} {e : Env} {s : State} {m : MethodId} {args : Array Value} {below : List Frame} {meth : Method} {c : Code} {dC : Nat → ClassId} {dI : Nat → Nat → Nat} {L : Nat → Nat} {cA : Nat → ClassId} (a0 : Int32) (a1 : Int32)  (hF : CallFix p m c b_Mo_due 6 s args w_all R_Mo) (hK : kW_M dC dI cA s) (hL : ij 25 L) (hr : meth.sig.returnType = (some .int)) (hlocks : meth.locks = false) : ∀ (n : Nat) (v3 : Int32) (ar : Nat → Nat → Int32) (sc : Nat → Int32), q_Mo_due_35 a0 a1 n v3 ar sc → ∀ (H : Heap) (locs : List Loc), va_P (dC, dI) classes (wM L cA ar sc) H → va_S (aM L) s.heap H locs → ∀ (ls : Array Slot), lv_has ls 6 [(3, .int v3), (0, .ref (L 0)), (1, .int a0), (2, .int a1)] → W p l e (rmD 5) s m args below meth c H locs 0 0 (MQ below (va_Qi (fun (r : Int32) (u : oS) => (r, u.1, u.2) = g_Mo_due_35 a0 a1 n v3 ar sc) (fun u t => va_P (dC, dI) classes (wM L cA u.1 u.2) t.heap) (aM L)) args s 0 0 (aM L)) (F0 m 35 ls []) := by
  have hx := hF.1
  have hb := hF.2.1
  have hown := hF.2.2.2.1
  have hts := hF.2.2.2.2
  intro n
  induction n with
  | zero => intro v3 ar sc h; exact False.elim h
  | succ n ih =>
    intro v3 ar sc h H locs hP hS ls hl
    rw [q_Mo_due_35] at h
    refine lv_iload_n hx hb d_Mo_due_35 rfl (lv_at hl 0 rfl) ?_
    refine lv_aload_n hx hb d_Mo_due_36 rfl (lv_at hl 1 rfl) ?_
    refine gf_Mo_points hF hK hP m_194 d_Mo_due_37 ?_
    refine lv_icmp_ge (tgt := 123) hx hb d_Mo_due_40 (by decide) (fun c40 => ?_) (fun c40 => ?_)
    · have h := h.1 c40
      refine lv_iconst (v := (-1)) hx hb d_Mo_due_123 (by decide) ?_
      have hv : (((-1), ar, sc) : Int32 × (Nat → Nat → Int32) × (Nat → Int32)) = g_Mo_due_35 a0 a1 (n + 1) v3 ar sc := by rw [g_Mo_due_35, if_pos c40]
      exact W.iret (v := (-1)) hx hb hr (fun t ht hW => ⟨⟨(-1), (ar, sc), rfl, hv, by dsimp only; rw [ht]; exact hP⟩, hS.F ht⟩) hS.2.2 d_Mo_due_124
    · have h := h.2 c40
      refine lv_iconst (v := 0) hx hb d_Mo_due_43 (by decide) ?_
      refine lv_istore (lv' := [(4, .int 0), (3, .int v3), (0, .ref (L 0)), (1, .int a0), (2, .int a1)]) hx hb d_Mo_due_44 hl (by decide) rfl (fun ls hl => ?_)
      refine lv_iconst (v := 0) hx hb d_Mo_due_46 (by decide) ?_
      refine lv_istore (lv' := [(5, .int 0), (4, .int 0), (3, .int v3), (0, .ref (L 0)), (1, .int a0), (2, .int a1)]) hx hb d_Mo_due_47 hl (by decide) rfl (fun ls hl => ?_)
      have kL49 := h.1
      have h := h.2
      refine l_Mo_due_49 a0 a1 v3 hF hK hL 200 0 0 ar sc kL49 _ _ hP hS ls (lv_sub hl [1, 0, 3, 4, 5, 2] rfl) (fun H locs ls hP hS hl => ?_)
      refine lv_aload_n hx hb d_Mo_due_100 rfl (lv_at hl 2 rfl) ?_
      refine lv_iload_n hx hb d_Mo_due_101 rfl (lv_at hl 5 rfl) ?_
      have k102 := h.1
      have h := h.2
      refine r_Mo_dueFrom hF hK hP k102 m_315 hl.1 ⟨Nat.le_of_ble_eq_true rfl, Nat.le_of_ble_eq_true rfl⟩ ⟨Nat.zero_le _, Nat.zero_le _⟩ (Nat.le_of_ble_eq_true rfl) d_Mo_due_102 ?_
      refine lv_iload_n hx hb d_Mo_due_105 rfl (lv_at hl 3 rfl) ?_
      refine lv_icmp_gt (tgt := 117) hx hb d_Mo_due_106 (by decide) (fun c106 => ?_) (fun c106 => ?_)
      · have h := h.1 c106
        refine lv_iinc (v := v3 + 1) (lv' := [(3, .int (v3 + 1)), (4, .int ((g_Mo_due_49 a0 a1 v3 200 0 0 ar sc).1)), (5, .int ((g_Mo_due_49 a0 a1 v3 200 0 0 ar sc).2.1)), (0, .ref (L 0)), (1, .int a0), (2, .int a1)]) hx hb d_Mo_due_117 hl (k := 5) rfl rfl (by decide) rfl (fun ls hl => ?_)
        refine lv_goto (tgt := 35) hx hb d_Mo_due_120 (by decide) ?_
        have hv : g_Mo_due_35 a0 a1 (n + 1) v3 ar sc = g_Mo_due_35 a0 a1 n (v3 + 1) ((g_Mo_due_49 a0 a1 v3 200 0 0 ar sc).2.2.1) ((g_Mo_due_49 a0 a1 v3 200 0 0 ar sc).2.2.2) := by rw [g_Mo_due_35, if_neg c40, if_pos c106]
        rw [hv]
        exact ih (v3 + 1) ((g_Mo_due_49 a0 a1 v3 200 0 0 ar sc).2.2.1) ((g_Mo_due_49 a0 a1 v3 200 0 0 ar sc).2.2.2) h _ _ hP hS ls (lv_sub hl [0, 3, 4, 5] rfl)
      · have h := h.2 c106
        refine lv_iload hx hb d_Mo_due_109 (lv_at hl 0 rfl) ?_
        refine lv_iload_n hx hb d_Mo_due_111 rfl (lv_at hl 4 rfl) ?_
        refine lv_icmp_ne (tgt := 117) hx hb d_Mo_due_112 (by decide) (fun c112 => ?_) (fun c112 => ?_)
        · have h := h.2 c112
          refine lv_iinc (v := v3 + 1) (lv' := [(3, .int (v3 + 1)), (4, .int ((g_Mo_due_49 a0 a1 v3 200 0 0 ar sc).1)), (5, .int ((g_Mo_due_49 a0 a1 v3 200 0 0 ar sc).2.1)), (0, .ref (L 0)), (1, .int a0), (2, .int a1)]) hx hb d_Mo_due_117 hl (k := 5) rfl rfl (by decide) rfl (fun ls hl => ?_)
          refine lv_goto (tgt := 35) hx hb d_Mo_due_120 (by decide) ?_
          have hv : g_Mo_due_35 a0 a1 (n + 1) v3 ar sc = g_Mo_due_35 a0 a1 n (v3 + 1) ((g_Mo_due_49 a0 a1 v3 200 0 0 ar sc).2.2.1) ((g_Mo_due_49 a0 a1 v3 200 0 0 ar sc).2.2.2) := by rw [g_Mo_due_35, if_neg c40, if_neg c106, if_neg c112]
          rw [hv]
          exact ih (v3 + 1) ((g_Mo_due_49 a0 a1 v3 200 0 0 ar sc).2.2.1) ((g_Mo_due_49 a0 a1 v3 200 0 0 ar sc).2.2.2) h _ _ hP hS ls (lv_sub hl [0, 3, 4, 5] rfl)
        · have h := h.1 c112
          refine lv_iload_n hx hb d_Mo_due_115 rfl (lv_at hl 5 rfl) ?_
          have hv : ((v3, (g_Mo_due_49 a0 a1 v3 200 0 0 ar sc).2.2.1, (g_Mo_due_49 a0 a1 v3 200 0 0 ar sc).2.2.2) : Int32 × (Nat → Nat → Int32) × (Nat → Int32)) = g_Mo_due_35 a0 a1 (n + 1) v3 ar sc := by rw [g_Mo_due_35, if_neg c40, if_neg c106, if_pos c112]
          exact W.iret (v := v3) hx hb hr (fun t ht hW => ⟨⟨v3, ((g_Mo_due_49 a0 a1 v3 200 0 0 ar sc).2.2.1, (g_Mo_due_49 a0 a1 v3 200 0 0 ar sc).2.2.2), rfl, hv, by dsimp only; rw [ht]; exact hP⟩, hS.F ht⟩) hS.2.2 d_Mo_due_116
set_option maxHeartbeats 4000000 in
set_option maxRecDepth 100000 in
theorem c_Mo_due (l : Launch) (dC : Nat → ClassId) (dI : Nat → Nat → Nat) (L : Nat → Nat) (cA : Nat → ClassId) (ar : Nat → Nat → Int32) (sc : Nat → Int32) (a0 : Int32) (a1 : Int32) (hL : ij 25 L) (h : p_Mo_due ar sc a0 a1) : Met l y_Mo_due z_Mo_due (rmD 5) (va_Pc [.ref (L 0), .int a0, .int a1] (fun U => xw_M dC dI L cA ar sc U)) (va_Qi (fun (r : Int32) (u : oS) => (r, u.1, u.2) = f_Mo_due ar sc a0 a1) (fun u t => va_P (dC, dI) classes (wM L cA u.1 u.2) t.heap) (aM L)) 0 0 (aM L) := by
  refine Met.ofW (cc := b_Mo_due) (maxL := 6) (ret := (some .int)) (by decide) rfl ?_
  intro p e s m args below meth c s₁ B hml hv
  obtain ⟨rfl, ⟨hP, hK⟩⟩ := hv
  have hx := B.exec
  have hb := B.bytes
  have hr := B.returns
  have hts : ∀ w ∈ w_all, w.before _ s = true := fun w hw => atoms_spec (ws := z_Mo_due) B.pre w (List.mem_cons_of_mem _ hw)
  have hown : s.vm.findClass R_Mo = some m.cls := findClass_of_methodNamed B.named
  have hlocks := B.notSynchronized
  have hF : CallFix p m c b_Mo_due 6 s _ w_all R_Mo := ⟨hx, hb, hml, hown, hts⟩
  have hS : va_S (aM L) s.heap s.heap [] := va_S.rf
  have hl := lv_entry ([.ref (L 0), .int a0, .int a1]) (n := 6) (Nat.le_of_ble_eq_true rfl)
  rw [lg_entry_eq]
  generalize (lg_sl ([.ref (L 0), .int a0, .int a1]) ++ List.replicate (6 - (lg_sl ([.ref (L 0), .int a0, .int a1])).length) Slot.unset).toArray = ls at hl ⊢
  have hl : lv_has ls 6 [(0, .ref (L 0)), (1, .int a0), (2, .int a1)] := hl
  unfold p_Mo_due at h
  refine lv_aload_n hx hb d_Mo_due_0 rfl (lv_at hl 0 rfl) ?_
  refine lv_iload_n hx hb d_Mo_due_1 rfl (lv_at hl 1 rfl) ?_
  refine lv_aload_n hx hb d_Mo_due_2 rfl (lv_at hl 0 rfl) ?_
  refine gf_Mo_day hF hK hP m_200 d_Mo_due_3 ?_
  refine lv_ldc (v := 99999) hx hb hown (hts _ m_298) d_Mo_due_6 ?_
  refine r_Mo_in hF m_195 hl.1 ⟨Nat.le_of_ble_eq_true rfl, Nat.le_of_ble_eq_true rfl⟩ ⟨Nat.zero_le _, Nat.zero_le _⟩ (Nat.le_of_ble_eq_true rfl) d_Mo_due_8 ?_
  refine lv_if_eq (tgt := 18) hx hb d_Mo_due_11 (by decide) (fun c11 => ?_) (fun c11 => ?_)
  · have h := h.1 c11
    refine lv_iconst (v := 1) hx hb d_Mo_due_18 (by decide) ?_
    refine lv_goto (tgt := 23) hx hb d_Mo_due_19 (by decide) ?_
    refine lv_iconst (v := 0) hx hb d_Mo_due_23 (by decide) ?_
    refine lv_iconst (v := 0) hx hb d_Mo_due_24 (by decide) ?_
    refine r_Mo_throwing hF hK hP hL hS m_283 hl.1 ⟨Nat.le_of_ble_eq_true rfl, Nat.le_of_ble_eq_true rfl⟩ ⟨Nat.zero_le _, Nat.zero_le _⟩ (Nat.le_of_ble_eq_true rfl) d_Mo_due_25 (fun H locs hP hS => ?_)
    refine lv_if_eq (tgt := 33) hx hb d_Mo_due_28 (by decide) (fun c28 => ?_) (fun c28 => ?_)
    · have h := h.1 c28
      refine lv_iconst (v := 0) hx hb d_Mo_due_33 (by decide) ?_
      refine lv_istore_n (lv' := [(3, .int 0), (0, .ref (L 0)), (1, .int a0), (2, .int a1)]) hx hb d_Mo_due_34 rfl hl (by decide) rfl (fun ls hl => ?_)
      have kL35 := h
      have hv : f_Mo_due ar sc a0 a1 = g_Mo_due_35 a0 a1 200 0 ((f_Mo_throwing ar sc 1 0 0).2.1) ((f_Mo_throwing ar sc 1 0 0).2.2) := by rw [f_Mo_due, if_pos c11, if_pos c28]
      rw [hv]
      exact l_Mo_due_35 a0 a1 hF hK hL hr hlocks 200 0 ((f_Mo_throwing ar sc 1 0 0).2.1) ((f_Mo_throwing ar sc 1 0 0).2.2) kL35 _ _ hP hS ls (lv_sub hl [0, 1, 2, 3] rfl)
    · have h := h.2 c28
      refine lv_iconst (v := 0) hx hb d_Mo_due_31 (by decide) ?_
      have hv : ((0, (f_Mo_throwing ar sc 1 0 0).2.1, (f_Mo_throwing ar sc 1 0 0).2.2) : Int32 × (Nat → Nat → Int32) × (Nat → Int32)) = f_Mo_due ar sc a0 a1 := by rw [f_Mo_due, if_pos c11, if_neg c28]
      exact W.iret (v := 0) hx hb hr (fun t ht hW => ⟨⟨0, ((f_Mo_throwing ar sc 1 0 0).2.1, (f_Mo_throwing ar sc 1 0 0).2.2), rfl, hv, by dsimp only; rw [ht]; exact hP⟩, hS.F ht⟩) hS.2.2 d_Mo_due_32
  · have h := h.2 c11
    refine lv_iload_n hx hb d_Mo_due_14 rfl (lv_at hl 2 rfl) ?_
    refine lv_if_ge (tgt := 22) hx hb d_Mo_due_15 (by decide) (fun c15 => ?_) (fun c15 => ?_)
    · have h := h.1 c15
      refine lv_iconst (v := 0) hx hb d_Mo_due_22 (by decide) ?_
      refine lv_iconst (v := 0) hx hb d_Mo_due_23 (by decide) ?_
      refine lv_iconst (v := 0) hx hb d_Mo_due_24 (by decide) ?_
      refine r_Mo_throwing hF hK hP hL hS m_283 hl.1 ⟨Nat.le_of_ble_eq_true rfl, Nat.le_of_ble_eq_true rfl⟩ ⟨Nat.zero_le _, Nat.zero_le _⟩ (Nat.le_of_ble_eq_true rfl) d_Mo_due_25 (fun H locs hP hS => ?_)
      refine lv_if_eq (tgt := 33) hx hb d_Mo_due_28 (by decide) (fun c28 => ?_) (fun c28 => ?_)
      · have h := h.1 c28
        refine lv_iconst (v := 0) hx hb d_Mo_due_33 (by decide) ?_
        refine lv_istore_n (lv' := [(3, .int 0), (0, .ref (L 0)), (1, .int a0), (2, .int a1)]) hx hb d_Mo_due_34 rfl hl (by decide) rfl (fun ls hl => ?_)
        have kL35 := h
        have hv : f_Mo_due ar sc a0 a1 = g_Mo_due_35 a0 a1 200 0 ((f_Mo_throwing ar sc 0 0 0).2.1) ((f_Mo_throwing ar sc 0 0 0).2.2) := by rw [f_Mo_due, if_neg c11, if_pos c15, if_pos c28]
        rw [hv]
        exact l_Mo_due_35 a0 a1 hF hK hL hr hlocks 200 0 ((f_Mo_throwing ar sc 0 0 0).2.1) ((f_Mo_throwing ar sc 0 0 0).2.2) kL35 _ _ hP hS ls (lv_sub hl [0, 1, 2, 3] rfl)
      · have h := h.2 c28
        refine lv_iconst (v := 0) hx hb d_Mo_due_31 (by decide) ?_
        have hv : ((0, (f_Mo_throwing ar sc 0 0 0).2.1, (f_Mo_throwing ar sc 0 0 0).2.2) : Int32 × (Nat → Nat → Int32) × (Nat → Int32)) = f_Mo_due ar sc a0 a1 := by rw [f_Mo_due, if_neg c11, if_pos c15, if_neg c28]
        exact W.iret (v := 0) hx hb hr (fun t ht hW => ⟨⟨0, ((f_Mo_throwing ar sc 0 0 0).2.1, (f_Mo_throwing ar sc 0 0 0).2.2), rfl, hv, by dsimp only; rw [ht]; exact hP⟩, hS.F ht⟩) hS.2.2 d_Mo_due_32
    · have h := h.2 c15
      refine lv_iconst (v := 1) hx hb d_Mo_due_18 (by decide) ?_
      refine lv_goto (tgt := 23) hx hb d_Mo_due_19 (by decide) ?_
      refine lv_iconst (v := 0) hx hb d_Mo_due_23 (by decide) ?_
      refine lv_iconst (v := 0) hx hb d_Mo_due_24 (by decide) ?_
      refine r_Mo_throwing hF hK hP hL hS m_283 hl.1 ⟨Nat.le_of_ble_eq_true rfl, Nat.le_of_ble_eq_true rfl⟩ ⟨Nat.zero_le _, Nat.zero_le _⟩ (Nat.le_of_ble_eq_true rfl) d_Mo_due_25 (fun H locs hP hS => ?_)
      refine lv_if_eq (tgt := 33) hx hb d_Mo_due_28 (by decide) (fun c28 => ?_) (fun c28 => ?_)
      · have h := h.1 c28
        refine lv_iconst (v := 0) hx hb d_Mo_due_33 (by decide) ?_
        refine lv_istore_n (lv' := [(3, .int 0), (0, .ref (L 0)), (1, .int a0), (2, .int a1)]) hx hb d_Mo_due_34 rfl hl (by decide) rfl (fun ls hl => ?_)
        have kL35 := h
        have hv : f_Mo_due ar sc a0 a1 = g_Mo_due_35 a0 a1 200 0 ((f_Mo_throwing ar sc 1 0 0).2.1) ((f_Mo_throwing ar sc 1 0 0).2.2) := by rw [f_Mo_due, if_neg c11, if_neg c15, if_pos c28]
        rw [hv]
        exact l_Mo_due_35 a0 a1 hF hK hL hr hlocks 200 0 ((f_Mo_throwing ar sc 1 0 0).2.1) ((f_Mo_throwing ar sc 1 0 0).2.2) kL35 _ _ hP hS ls (lv_sub hl [0, 1, 2, 3] rfl)
      · have h := h.2 c28
        refine lv_iconst (v := 0) hx hb d_Mo_due_31 (by decide) ?_
        have hv : ((0, (f_Mo_throwing ar sc 1 0 0).2.1, (f_Mo_throwing ar sc 1 0 0).2.2) : Int32 × (Nat → Nat → Int32) × (Nat → Int32)) = f_Mo_due ar sc a0 a1 := by rw [f_Mo_due, if_neg c11, if_neg c15, if_neg c28]
        exact W.iret (v := 0) hx hb hr (fun t ht hW => ⟨⟨0, ((f_Mo_throwing ar sc 1 0 0).2.1, (f_Mo_throwing ar sc 1 0 0).2.2), rfl, hv, by dsimp only; rw [ht]; exact hP⟩, hS.F ht⟩) hS.2.2 d_Mo_due_32
set_option maxHeartbeats 1000000 in
theorem r_Mo_due {p : Program} {l : Launch} {e : Env} {R : Room} {s : State} {m : MethodId} {args : Array Value} {below : List Frame} {meth : Method} {c : Code} {H : Heap} {locs : List Loc} {cells slots : Nat} {Q : State → Prop} {cc : ByteArray} {nL pc idx : Nat} {ls : Array Slot} {rest : List Value} {own : String} {dC : Nat → ClassId} {dI : Nat → Nat → Nat} {L : Nat → Nat} {cA : Nat → ClassId} {ar : Nat → Nat → Int32} {sc : Nat → Int32} {H0 : Heap} {a0 : Int32} {a1 : Int32} (hF : CallFix p m c cc nL s args w_all own) (hK : kW_M dC dI cA s) (hP : va_P (dC, dI) classes (wM L cA ar sc) H) (hL : ij 25 L) (hS : va_S (aM L) H0 H locs) (h : p_Mo_due ar sc a0 a1) (hlk : Cond.methodLink own idx y_Mo_due ∈ w_all) (hsz : ls.size = nL) (hR : (rmD 5).frames + 1 ≤ R.frames ∧ 8 + (6 + 11) + (rmD 5).locals ≤ R.locals) (hc : cells ≤ R.cells ∧ slots ≤ R.slots) (hrs : (rest.map fun v => v.category).sum ≤ 8) (hdg : decode cc pc = .ok (.invokevirtual idx, 3)) (kk : ∀ (H1 : Heap) (locs1 : List Loc), va_P (dC, dI) classes (wM L cA ((f_Mo_due ar sc a0 a1).2.1) ((f_Mo_due ar sc a0 a1).2.2)) H1 → va_S (aM L) H0 H1 locs1 → W p l e R s m args below meth c H1 locs1 cells slots Q (F0 m (pc + 3) ls (.int (f_Mo_due ar sc a0 a1).1 :: rest))) : W p l e R s m args below meth c H locs cells slots Q (F0 m pc ls (.int a1 :: .int a0 :: .ref (L 0) :: rest)) :=
  va_calli (va_runV (As := [.int a0, .int a1]) (rest := rest) hF (c_Mo_due l dC dI L cA ar sc a0 a1 hL h) (cwV 2 hF.2.2.2.2 (gV hlk m_320 m_321 m_187 m_322) rfl rfl rfl (by decide +kernel) hR) ⟨xb_M, va_recv hK.1 hP (ci := 7) (q0 := 0) rfl rfl, fun U hU hW => ⟨rfl, by rw [hU]; exact hP, kW_M_warm hW hK⟩⟩ rfl rfl hsz rfl (lv_room hrs) hdg hc) hS (fun q _ h9 => h9) (fun q h9 => h9) (fun r u t H1 locs1 ht hvm hw hB hz1 hk1 hS1 => by
    have hk9 := kk H1 locs1 (by rw [← hw, ← ht]; exact hB) hS1
    rw [← hw] at hk9
    exact hk9)
theorem d_Mo_question_0 : decode b_Mo_question 0 = .ok (.iload_n 2, 1) := by decide +kernel
theorem d_Mo_question_1 : decode b_Mo_question 1 = .ok (.iconst (-1), 1) := by decide +kernel
theorem d_Mo_question_2 : decode b_Mo_question 2 = .ok (.if_icmp .eq 15, 3) := by decide +kernel
theorem d_Mo_question_5 : decode b_Mo_question 5 = .ok (.iload_n 2, 1) := by decide +kernel
theorem d_Mo_question_6 : decode b_Mo_question 6 = .ok (.iload_n 1, 1) := by decide +kernel
theorem d_Mo_question_7 : decode b_Mo_question 7 = .ok (.iconst 1, 1) := by decide +kernel
theorem d_Mo_question_8 : decode b_Mo_question 8 = .ok (.iadd, 1) := by decide +kernel
theorem d_Mo_question_9 : decode b_Mo_question 9 = .ok (.bipush 15, 2) := by decide +kernel
theorem d_Mo_question_11 : decode b_Mo_question 11 = .ok (.invokestatic 100, 3) := by decide +kernel
theorem d_Mo_question_14 : decode b_Mo_question 14 = .ok (.ifCond .eq 31, 3) := by decide +kernel
theorem d_Mo_question_17 : decode b_Mo_question 17 = .ok (.iload_n 3, 1) := by decide +kernel
theorem d_Mo_question_18 : decode b_Mo_question 18 = .ok (.iconst (-1), 1) := by decide +kernel
theorem d_Mo_question_19 : decode b_Mo_question 19 = .ok (.if_icmp .eq 15, 3) := by decide +kernel
theorem d_Mo_question_22 : decode b_Mo_question 22 = .ok (.iload_n 3, 1) := by decide +kernel
theorem d_Mo_question_23 : decode b_Mo_question 23 = .ok (.iload_n 1, 1) := by decide +kernel
theorem d_Mo_question_24 : decode b_Mo_question 24 = .ok (.iconst 1, 1) := by decide +kernel
theorem d_Mo_question_25 : decode b_Mo_question 25 = .ok (.iadd, 1) := by decide +kernel
theorem d_Mo_question_26 : decode b_Mo_question 26 = .ok (.bipush 15, 2) := by decide +kernel
theorem d_Mo_question_28 : decode b_Mo_question 28 = .ok (.invokestatic 100, 3) := by decide +kernel
theorem d_Mo_question_31 : decode b_Mo_question 31 = .ok (.ifCond .eq 14, 3) := by decide +kernel
theorem d_Mo_question_34 : decode b_Mo_question 34 = .ok (.iload 4, 2) := by decide +kernel
theorem d_Mo_question_36 : decode b_Mo_question 36 = .ok (.iconst 0, 1) := by decide +kernel
theorem d_Mo_question_37 : decode b_Mo_question 37 = .ok (.bipush 50, 2) := by decide +kernel
theorem d_Mo_question_39 : decode b_Mo_question 39 = .ok (.invokestatic 100, 3) := by decide +kernel
theorem d_Mo_question_42 : decode b_Mo_question 42 = .ok (.ifCond .ne 7, 3) := by decide +kernel
theorem d_Mo_question_45 : decode b_Mo_question 45 = .ok (.iconst 1, 1) := by decide +kernel
theorem d_Mo_question_46 : decode b_Mo_question 46 = .ok (.goto 4, 3) := by decide +kernel
theorem d_Mo_question_49 : decode b_Mo_question 49 = .ok (.iconst 0, 1) := by decide +kernel
theorem d_Mo_question_50 : decode b_Mo_question 50 = .ok (.istore 5, 2) := by decide +kernel
theorem d_Mo_question_52 : decode b_Mo_question 52 = .ok (.aload_n 0, 1) := by decide +kernel
theorem d_Mo_question_53 : decode b_Mo_question 53 = .ok (.iload_n 1, 1) := by decide +kernel
theorem d_Mo_question_54 : decode b_Mo_question 54 = .ok (.iconst 0, 1) := by decide +kernel
theorem d_Mo_question_55 : decode b_Mo_question 55 = .ok (.bipush 15, 2) := by decide +kernel
theorem d_Mo_question_57 : decode b_Mo_question 57 = .ok (.invokestatic 100, 3) := by decide +kernel
theorem d_Mo_question_60 : decode b_Mo_question 60 = .ok (.ifCond .ne 7, 3) := by decide +kernel
theorem d_Mo_question_63 : decode b_Mo_question 63 = .ok (.iconst 1, 1) := by decide +kernel
theorem d_Mo_question_64 : decode b_Mo_question 64 = .ok (.goto 4, 3) := by decide +kernel
theorem d_Mo_question_67 : decode b_Mo_question 67 = .ok (.iconst 0, 1) := by decide +kernel
theorem d_Mo_question_68 : decode b_Mo_question 68 = .ok (.iload 5, 2) := by decide +kernel
theorem d_Mo_question_70 : decode b_Mo_question 70 = .ok (.iconst 0, 1) := by decide +kernel
theorem d_Mo_question_71 : decode b_Mo_question 71 = .ok (.invokevirtual 104, 3) := by decide +kernel
theorem d_Mo_question_74 : decode b_Mo_question 74 = .ok (.ifCond .eq 4, 3) := by decide +kernel
theorem d_Mo_question_77 : decode b_Mo_question 77 = .ok (.return_, 1) := by decide +kernel
theorem d_Mo_question_78 : decode b_Mo_question 78 = .ok (.aload_n 0, 1) := by decide +kernel
theorem d_Mo_question_79 : decode b_Mo_question 79 = .ok (.getfield 52, 3) := by decide +kernel
theorem d_Mo_question_82 : decode b_Mo_question 82 = .ok (.iload_n 1, 1) := by decide +kernel
theorem d_Mo_question_83 : decode b_Mo_question 83 = .ok (.iconst 1, 1) := by decide +kernel
theorem d_Mo_question_84 : decode b_Mo_question 84 = .ok (.bastore, 1) := by decide +kernel
theorem d_Mo_question_85 : decode b_Mo_question 85 = .ok (.aload_n 0, 1) := by decide +kernel
theorem d_Mo_question_86 : decode b_Mo_question 86 = .ok (.getfield 56, 3) := by decide +kernel
theorem d_Mo_question_89 : decode b_Mo_question 89 = .ok (.iload_n 1, 1) := by decide +kernel
theorem d_Mo_question_90 : decode b_Mo_question 90 = .ok (.iload_n 2, 1) := by decide +kernel
theorem d_Mo_question_91 : decode b_Mo_question 91 = .ok (.iastore, 1) := by decide +kernel
theorem d_Mo_question_92 : decode b_Mo_question 92 = .ok (.aload_n 0, 1) := by decide +kernel
theorem d_Mo_question_93 : decode b_Mo_question 93 = .ok (.getfield 59, 3) := by decide +kernel
theorem d_Mo_question_96 : decode b_Mo_question 96 = .ok (.iload_n 1, 1) := by decide +kernel
theorem d_Mo_question_97 : decode b_Mo_question 97 = .ok (.iload_n 3, 1) := by decide +kernel
theorem d_Mo_question_98 : decode b_Mo_question 98 = .ok (.iastore, 1) := by decide +kernel
theorem d_Mo_question_99 : decode b_Mo_question 99 = .ok (.aload_n 0, 1) := by decide +kernel
theorem d_Mo_question_100 : decode b_Mo_question 100 = .ok (.getfield 62, 3) := by decide +kernel
theorem d_Mo_question_103 : decode b_Mo_question 103 = .ok (.iload_n 1, 1) := by decide +kernel
theorem d_Mo_question_104 : decode b_Mo_question 104 = .ok (.iload 4, 2) := by decide +kernel
theorem d_Mo_question_106 : decode b_Mo_question 106 = .ok (.iastore, 1) := by decide +kernel
theorem d_Mo_question_107 : decode b_Mo_question 107 = .ok (.return_, 1) := by decide +kernel
set_option maxHeartbeats 4000000 in
set_option maxRecDepth 100000 in
theorem c_Mo_question (l : Launch) (dC : Nat → ClassId) (dI : Nat → Nat → Nat) (L : Nat → Nat) (cA : Nat → ClassId) (ar : Nat → Nat → Int32) (sc : Nat → Int32) (a0 : Int32) (a1 : Int32) (a2 : Int32) (a3 : Int32) (hL : ij 25 L) (h : p_Mo_question ar sc a0 a1 a2 a3) : Met l y_Mo_question z_Mo_question (rmD 5) (va_Pc [.ref (L 0), .int a0, .int a1, .int a2, .int a3] (fun U => xw_M dC dI L cA ar sc U)) (va_Qv (fun u : oS => (u.1, u.2) = f_Mo_question ar sc a0 a1 a2 a3) (fun u t => va_P (dC, dI) classes (wM L cA u.1 u.2) t.heap) (aM L)) 0 0 (aM L) := by
  refine Met.ofW (cc := b_Mo_question) (maxL := 6) (ret := none) (by decide) rfl ?_
  intro p e s m args below meth c s₁ B hml hv
  obtain ⟨rfl, ⟨hP, hK⟩⟩ := hv
  have hx := B.exec
  have hb := B.bytes
  have hr := B.returns
  have hts : ∀ w ∈ w_all, w.before _ s = true := fun w hw => atoms_spec (ws := z_Mo_question) B.pre w (List.mem_cons_of_mem _ hw)
  have hown : s.vm.findClass R_Mo = some m.cls := findClass_of_methodNamed B.named
  have hlocks := B.notSynchronized
  have hF : CallFix p m c b_Mo_question 6 s _ w_all R_Mo := ⟨hx, hb, hml, hown, hts⟩
  have hS : va_S (aM L) s.heap s.heap [] := va_S.rf
  have hl := lv_entry ([.ref (L 0), .int a0, .int a1, .int a2, .int a3]) (n := 6) (Nat.le_of_ble_eq_true rfl)
  rw [lg_entry_eq]
  generalize (lg_sl ([.ref (L 0), .int a0, .int a1, .int a2, .int a3]) ++ List.replicate (6 - (lg_sl ([.ref (L 0), .int a0, .int a1, .int a2, .int a3])).length) Slot.unset).toArray = ls at hl ⊢
  have hl : lv_has ls 6 [(0, .ref (L 0)), (1, .int a0), (2, .int a1), (3, .int a2), (4, .int a3)] := hl
  unfold p_Mo_question at h
  refine lv_iload_n hx hb d_Mo_question_0 rfl (lv_at hl 2 rfl) ?_
  refine lv_iconst (v := (-1)) hx hb d_Mo_question_1 (by decide) ?_
  refine lv_icmp_eq (tgt := 17) hx hb d_Mo_question_2 (by decide) (fun c2 => ?_) (fun c2 => ?_)
  · have h := h.1 c2
    refine lv_iload_n hx hb d_Mo_question_17 rfl (lv_at hl 3 rfl) ?_
    refine lv_iconst (v := (-1)) hx hb d_Mo_question_18 (by decide) ?_
    refine lv_icmp_eq (tgt := 34) hx hb d_Mo_question_19 (by decide) (fun c19 => ?_) (fun c19 => ?_)
    · have h := h.1 c19
      refine lv_iload hx hb d_Mo_question_34 (lv_at hl 4 rfl) ?_
      refine lv_iconst (v := 0) hx hb d_Mo_question_36 (by decide) ?_
      refine lv_bipush (v := 50) hx hb d_Mo_question_37 (by decide) ?_
      refine r_Mo_in hF m_195 hl.1 ⟨Nat.le_of_ble_eq_true rfl, Nat.le_of_ble_eq_true rfl⟩ ⟨Nat.zero_le _, Nat.zero_le _⟩ (Nat.le_of_ble_eq_true rfl) d_Mo_question_39 ?_
      refine lv_if_ne (tgt := 49) hx hb d_Mo_question_42 (by decide) (fun c42 => ?_) (fun c42 => ?_)
      · have h := h.2 c42
        refine lv_iconst (v := 0) hx hb d_Mo_question_49 (by decide) ?_
        refine lv_istore (lv' := [(5, .int 0), (0, .ref (L 0)), (1, .int a0), (2, .int a1), (3, .int a2), (4, .int a3)]) hx hb d_Mo_question_50 hl (by decide) rfl (fun ls hl => ?_)
        refine lv_aload_n hx hb d_Mo_question_52 rfl (lv_at hl 1 rfl) ?_
        refine lv_iload_n hx hb d_Mo_question_53 rfl (lv_at hl 2 rfl) ?_
        refine lv_iconst (v := 0) hx hb d_Mo_question_54 (by decide) ?_
        refine lv_bipush (v := 15) hx hb d_Mo_question_55 (by decide) ?_
        refine r_Mo_in hF m_195 hl.1 ⟨Nat.le_of_ble_eq_true rfl, Nat.le_of_ble_eq_true rfl⟩ ⟨Nat.zero_le _, Nat.zero_le _⟩ (Nat.le_of_ble_eq_true rfl) d_Mo_question_57 ?_
        refine lv_if_ne (tgt := 67) hx hb d_Mo_question_60 (by decide) (fun c60 => ?_) (fun c60 => ?_)
        · have h := h.2 c60
          refine lv_iconst (v := 0) hx hb d_Mo_question_67 (by decide) ?_
          refine lv_iload hx hb d_Mo_question_68 (lv_at hl 0 rfl) ?_
          refine lv_iconst (v := 0) hx hb d_Mo_question_70 (by decide) ?_
          refine r_Mo_throwing hF hK hP hL hS m_283 hl.1 ⟨Nat.le_of_ble_eq_true rfl, Nat.le_of_ble_eq_true rfl⟩ ⟨Nat.zero_le _, Nat.zero_le _⟩ (Nat.le_of_ble_eq_true rfl) d_Mo_question_71 (fun H locs hP hS => ?_)
          refine lv_if_eq (tgt := 78) hx hb d_Mo_question_74 (by decide) (fun c74 => ?_) (fun c74 => ?_)
          · have h := h.1 c74
            refine lv_aload_n hx hb d_Mo_question_78 rfl (lv_at hl 1 rfl) ?_
            refine gf_Mo_told hF hK hP m_233 d_Mo_question_79 ?_
            refine lv_iload_n hx hb d_Mo_question_82 rfl (lv_at hl 2 rfl) ?_
            refine lv_iconst (v := 1) hx hb d_Mo_question_83 (by decide) ?_
            have k84 := h.1
            have h := h.2
            refine asM_15 hF hK hP hL hS k84 d_Mo_question_84 (fun H locs hP hS => ?_)
            refine lv_aload_n hx hb d_Mo_question_85 rfl (lv_at hl 1 rfl) ?_
            refine gf_Mo_yes hF hK hP m_237 d_Mo_question_86 ?_
            refine lv_iload_n hx hb d_Mo_question_89 rfl (lv_at hl 2 rfl) ?_
            refine lv_iload_n hx hb d_Mo_question_90 rfl (lv_at hl 3 rfl) ?_
            have k91 := h.1
            have h := h.2
            refine asM_16 hF hK hP hL hS k91 d_Mo_question_91 (fun H locs hP hS => ?_)
            refine lv_aload_n hx hb d_Mo_question_92 rfl (lv_at hl 1 rfl) ?_
            refine gf_Mo_no hF hK hP m_235 d_Mo_question_93 ?_
            refine lv_iload_n hx hb d_Mo_question_96 rfl (lv_at hl 2 rfl) ?_
            refine lv_iload_n hx hb d_Mo_question_97 rfl (lv_at hl 4 rfl) ?_
            have k98 := h.1
            have h := h.2
            refine asM_17 hF hK hP hL hS k98 d_Mo_question_98 (fun H locs hP hS => ?_)
            refine lv_aload_n hx hb d_Mo_question_99 rfl (lv_at hl 1 rfl) ?_
            refine gf_Mo_bad hF hK hP m_234 d_Mo_question_100 ?_
            refine lv_iload_n hx hb d_Mo_question_103 rfl (lv_at hl 2 rfl) ?_
            refine lv_iload hx hb d_Mo_question_104 (lv_at hl 5 rfl) ?_
            have k106 := h
            refine asM_18 hF hK hP hL hS k106 d_Mo_question_106 (fun H locs hP hS => ?_)
            have hv : ((s2 (s2 (s2 (s2 ((f_Mo_throwing ar sc 0 0 0).2.1) 15 a0.toNatClampNeg (vp_nar .boolean 1)) 16 a0.toNatClampNeg a1) 17 a0.toNatClampNeg a2) 18 a0.toNatClampNeg a3, (f_Mo_throwing ar sc 0 0 0).2.2) : (Nat → Nat → Int32) × (Nat → Int32)) = f_Mo_question ar sc a0 a1 a2 a3 := by rw [f_Mo_question, if_pos c2, if_pos c19, if_neg c42, if_neg c60, if_pos c74]
            exact W.vret hx hb hr (fun t ht hW => ⟨⟨(s2 (s2 (s2 (s2 ((f_Mo_throwing ar sc 0 0 0).2.1) 15 a0.toNatClampNeg (vp_nar .boolean 1)) 16 a0.toNatClampNeg a1) 17 a0.toNatClampNeg a2) 18 a0.toNatClampNeg a3, (f_Mo_throwing ar sc 0 0 0).2.2), rfl, hv, by dsimp only; rw [ht]; exact hP⟩, hS.F ht⟩) hS.2.2 d_Mo_question_107
          · have h := h.2 c74
            have hv : (((f_Mo_throwing ar sc 0 0 0).2.1, (f_Mo_throwing ar sc 0 0 0).2.2) : (Nat → Nat → Int32) × (Nat → Int32)) = f_Mo_question ar sc a0 a1 a2 a3 := by rw [f_Mo_question, if_pos c2, if_pos c19, if_neg c42, if_neg c60, if_neg c74]
            exact W.vret hx hb hr (fun t ht hW => ⟨⟨((f_Mo_throwing ar sc 0 0 0).2.1, (f_Mo_throwing ar sc 0 0 0).2.2), rfl, hv, by dsimp only; rw [ht]; exact hP⟩, hS.F ht⟩) hS.2.2 d_Mo_question_77
        · have h := h.1 c60
          refine lv_iconst (v := 1) hx hb d_Mo_question_63 (by decide) ?_
          refine lv_goto (tgt := 68) hx hb d_Mo_question_64 (by decide) ?_
          refine lv_iload hx hb d_Mo_question_68 (lv_at hl 0 rfl) ?_
          refine lv_iconst (v := 0) hx hb d_Mo_question_70 (by decide) ?_
          refine r_Mo_throwing hF hK hP hL hS m_283 hl.1 ⟨Nat.le_of_ble_eq_true rfl, Nat.le_of_ble_eq_true rfl⟩ ⟨Nat.zero_le _, Nat.zero_le _⟩ (Nat.le_of_ble_eq_true rfl) d_Mo_question_71 (fun H locs hP hS => ?_)
          refine lv_if_eq (tgt := 78) hx hb d_Mo_question_74 (by decide) (fun c74 => ?_) (fun c74 => ?_)
          · have h := h.1 c74
            refine lv_aload_n hx hb d_Mo_question_78 rfl (lv_at hl 1 rfl) ?_
            refine gf_Mo_told hF hK hP m_233 d_Mo_question_79 ?_
            refine lv_iload_n hx hb d_Mo_question_82 rfl (lv_at hl 2 rfl) ?_
            refine lv_iconst (v := 1) hx hb d_Mo_question_83 (by decide) ?_
            have k84 := h.1
            have h := h.2
            refine asM_15 hF hK hP hL hS k84 d_Mo_question_84 (fun H locs hP hS => ?_)
            refine lv_aload_n hx hb d_Mo_question_85 rfl (lv_at hl 1 rfl) ?_
            refine gf_Mo_yes hF hK hP m_237 d_Mo_question_86 ?_
            refine lv_iload_n hx hb d_Mo_question_89 rfl (lv_at hl 2 rfl) ?_
            refine lv_iload_n hx hb d_Mo_question_90 rfl (lv_at hl 3 rfl) ?_
            have k91 := h.1
            have h := h.2
            refine asM_16 hF hK hP hL hS k91 d_Mo_question_91 (fun H locs hP hS => ?_)
            refine lv_aload_n hx hb d_Mo_question_92 rfl (lv_at hl 1 rfl) ?_
            refine gf_Mo_no hF hK hP m_235 d_Mo_question_93 ?_
            refine lv_iload_n hx hb d_Mo_question_96 rfl (lv_at hl 2 rfl) ?_
            refine lv_iload_n hx hb d_Mo_question_97 rfl (lv_at hl 4 rfl) ?_
            have k98 := h.1
            have h := h.2
            refine asM_17 hF hK hP hL hS k98 d_Mo_question_98 (fun H locs hP hS => ?_)
            refine lv_aload_n hx hb d_Mo_question_99 rfl (lv_at hl 1 rfl) ?_
            refine gf_Mo_bad hF hK hP m_234 d_Mo_question_100 ?_
            refine lv_iload_n hx hb d_Mo_question_103 rfl (lv_at hl 2 rfl) ?_
            refine lv_iload hx hb d_Mo_question_104 (lv_at hl 5 rfl) ?_
            have k106 := h
            refine asM_18 hF hK hP hL hS k106 d_Mo_question_106 (fun H locs hP hS => ?_)
            have hv : ((s2 (s2 (s2 (s2 ((f_Mo_throwing ar sc 1 0 0).2.1) 15 a0.toNatClampNeg (vp_nar .boolean 1)) 16 a0.toNatClampNeg a1) 17 a0.toNatClampNeg a2) 18 a0.toNatClampNeg a3, (f_Mo_throwing ar sc 1 0 0).2.2) : (Nat → Nat → Int32) × (Nat → Int32)) = f_Mo_question ar sc a0 a1 a2 a3 := by rw [f_Mo_question, if_pos c2, if_pos c19, if_neg c42, if_pos c60, if_pos c74]
            exact W.vret hx hb hr (fun t ht hW => ⟨⟨(s2 (s2 (s2 (s2 ((f_Mo_throwing ar sc 1 0 0).2.1) 15 a0.toNatClampNeg (vp_nar .boolean 1)) 16 a0.toNatClampNeg a1) 17 a0.toNatClampNeg a2) 18 a0.toNatClampNeg a3, (f_Mo_throwing ar sc 1 0 0).2.2), rfl, hv, by dsimp only; rw [ht]; exact hP⟩, hS.F ht⟩) hS.2.2 d_Mo_question_107
          · have h := h.2 c74
            have hv : (((f_Mo_throwing ar sc 1 0 0).2.1, (f_Mo_throwing ar sc 1 0 0).2.2) : (Nat → Nat → Int32) × (Nat → Int32)) = f_Mo_question ar sc a0 a1 a2 a3 := by rw [f_Mo_question, if_pos c2, if_pos c19, if_neg c42, if_pos c60, if_neg c74]
            exact W.vret hx hb hr (fun t ht hW => ⟨⟨((f_Mo_throwing ar sc 1 0 0).2.1, (f_Mo_throwing ar sc 1 0 0).2.2), rfl, hv, by dsimp only; rw [ht]; exact hP⟩, hS.F ht⟩) hS.2.2 d_Mo_question_77
      · have h := h.1 c42
        refine lv_iconst (v := 1) hx hb d_Mo_question_45 (by decide) ?_
        refine lv_goto (tgt := 50) hx hb d_Mo_question_46 (by decide) ?_
        refine lv_istore (lv' := [(5, .int 1), (0, .ref (L 0)), (1, .int a0), (2, .int a1), (3, .int a2), (4, .int a3)]) hx hb d_Mo_question_50 hl (by decide) rfl (fun ls hl => ?_)
        refine lv_aload_n hx hb d_Mo_question_52 rfl (lv_at hl 1 rfl) ?_
        refine lv_iload_n hx hb d_Mo_question_53 rfl (lv_at hl 2 rfl) ?_
        refine lv_iconst (v := 0) hx hb d_Mo_question_54 (by decide) ?_
        refine lv_bipush (v := 15) hx hb d_Mo_question_55 (by decide) ?_
        refine r_Mo_in hF m_195 hl.1 ⟨Nat.le_of_ble_eq_true rfl, Nat.le_of_ble_eq_true rfl⟩ ⟨Nat.zero_le _, Nat.zero_le _⟩ (Nat.le_of_ble_eq_true rfl) d_Mo_question_57 ?_
        refine lv_if_ne (tgt := 67) hx hb d_Mo_question_60 (by decide) (fun c60 => ?_) (fun c60 => ?_)
        · have h := h.2 c60
          refine lv_iconst (v := 0) hx hb d_Mo_question_67 (by decide) ?_
          refine lv_iload hx hb d_Mo_question_68 (lv_at hl 0 rfl) ?_
          refine lv_iconst (v := 0) hx hb d_Mo_question_70 (by decide) ?_
          refine r_Mo_throwing hF hK hP hL hS m_283 hl.1 ⟨Nat.le_of_ble_eq_true rfl, Nat.le_of_ble_eq_true rfl⟩ ⟨Nat.zero_le _, Nat.zero_le _⟩ (Nat.le_of_ble_eq_true rfl) d_Mo_question_71 (fun H locs hP hS => ?_)
          refine lv_if_eq (tgt := 78) hx hb d_Mo_question_74 (by decide) (fun c74 => ?_) (fun c74 => ?_)
          · have h := h.1 c74
            refine lv_aload_n hx hb d_Mo_question_78 rfl (lv_at hl 1 rfl) ?_
            refine gf_Mo_told hF hK hP m_233 d_Mo_question_79 ?_
            refine lv_iload_n hx hb d_Mo_question_82 rfl (lv_at hl 2 rfl) ?_
            refine lv_iconst (v := 1) hx hb d_Mo_question_83 (by decide) ?_
            have k84 := h.1
            have h := h.2
            refine asM_15 hF hK hP hL hS k84 d_Mo_question_84 (fun H locs hP hS => ?_)
            refine lv_aload_n hx hb d_Mo_question_85 rfl (lv_at hl 1 rfl) ?_
            refine gf_Mo_yes hF hK hP m_237 d_Mo_question_86 ?_
            refine lv_iload_n hx hb d_Mo_question_89 rfl (lv_at hl 2 rfl) ?_
            refine lv_iload_n hx hb d_Mo_question_90 rfl (lv_at hl 3 rfl) ?_
            have k91 := h.1
            have h := h.2
            refine asM_16 hF hK hP hL hS k91 d_Mo_question_91 (fun H locs hP hS => ?_)
            refine lv_aload_n hx hb d_Mo_question_92 rfl (lv_at hl 1 rfl) ?_
            refine gf_Mo_no hF hK hP m_235 d_Mo_question_93 ?_
            refine lv_iload_n hx hb d_Mo_question_96 rfl (lv_at hl 2 rfl) ?_
            refine lv_iload_n hx hb d_Mo_question_97 rfl (lv_at hl 4 rfl) ?_
            have k98 := h.1
            have h := h.2
            refine asM_17 hF hK hP hL hS k98 d_Mo_question_98 (fun H locs hP hS => ?_)
            refine lv_aload_n hx hb d_Mo_question_99 rfl (lv_at hl 1 rfl) ?_
            refine gf_Mo_bad hF hK hP m_234 d_Mo_question_100 ?_
            refine lv_iload_n hx hb d_Mo_question_103 rfl (lv_at hl 2 rfl) ?_
            refine lv_iload hx hb d_Mo_question_104 (lv_at hl 5 rfl) ?_
            have k106 := h
            refine asM_18 hF hK hP hL hS k106 d_Mo_question_106 (fun H locs hP hS => ?_)
            have hv : ((s2 (s2 (s2 (s2 ((f_Mo_throwing ar sc 0 1 0).2.1) 15 a0.toNatClampNeg (vp_nar .boolean 1)) 16 a0.toNatClampNeg a1) 17 a0.toNatClampNeg a2) 18 a0.toNatClampNeg a3, (f_Mo_throwing ar sc 0 1 0).2.2) : (Nat → Nat → Int32) × (Nat → Int32)) = f_Mo_question ar sc a0 a1 a2 a3 := by rw [f_Mo_question, if_pos c2, if_pos c19, if_pos c42, if_neg c60, if_pos c74]
            exact W.vret hx hb hr (fun t ht hW => ⟨⟨(s2 (s2 (s2 (s2 ((f_Mo_throwing ar sc 0 1 0).2.1) 15 a0.toNatClampNeg (vp_nar .boolean 1)) 16 a0.toNatClampNeg a1) 17 a0.toNatClampNeg a2) 18 a0.toNatClampNeg a3, (f_Mo_throwing ar sc 0 1 0).2.2), rfl, hv, by dsimp only; rw [ht]; exact hP⟩, hS.F ht⟩) hS.2.2 d_Mo_question_107
          · have h := h.2 c74
            have hv : (((f_Mo_throwing ar sc 0 1 0).2.1, (f_Mo_throwing ar sc 0 1 0).2.2) : (Nat → Nat → Int32) × (Nat → Int32)) = f_Mo_question ar sc a0 a1 a2 a3 := by rw [f_Mo_question, if_pos c2, if_pos c19, if_pos c42, if_neg c60, if_neg c74]
            exact W.vret hx hb hr (fun t ht hW => ⟨⟨((f_Mo_throwing ar sc 0 1 0).2.1, (f_Mo_throwing ar sc 0 1 0).2.2), rfl, hv, by dsimp only; rw [ht]; exact hP⟩, hS.F ht⟩) hS.2.2 d_Mo_question_77
        · have h := h.1 c60
          refine lv_iconst (v := 1) hx hb d_Mo_question_63 (by decide) ?_
          refine lv_goto (tgt := 68) hx hb d_Mo_question_64 (by decide) ?_
          refine lv_iload hx hb d_Mo_question_68 (lv_at hl 0 rfl) ?_
          refine lv_iconst (v := 0) hx hb d_Mo_question_70 (by decide) ?_
          refine r_Mo_throwing hF hK hP hL hS m_283 hl.1 ⟨Nat.le_of_ble_eq_true rfl, Nat.le_of_ble_eq_true rfl⟩ ⟨Nat.zero_le _, Nat.zero_le _⟩ (Nat.le_of_ble_eq_true rfl) d_Mo_question_71 (fun H locs hP hS => ?_)
          refine lv_if_eq (tgt := 78) hx hb d_Mo_question_74 (by decide) (fun c74 => ?_) (fun c74 => ?_)
          · have h := h.1 c74
            refine lv_aload_n hx hb d_Mo_question_78 rfl (lv_at hl 1 rfl) ?_
            refine gf_Mo_told hF hK hP m_233 d_Mo_question_79 ?_
            refine lv_iload_n hx hb d_Mo_question_82 rfl (lv_at hl 2 rfl) ?_
            refine lv_iconst (v := 1) hx hb d_Mo_question_83 (by decide) ?_
            have k84 := h.1
            have h := h.2
            refine asM_15 hF hK hP hL hS k84 d_Mo_question_84 (fun H locs hP hS => ?_)
            refine lv_aload_n hx hb d_Mo_question_85 rfl (lv_at hl 1 rfl) ?_
            refine gf_Mo_yes hF hK hP m_237 d_Mo_question_86 ?_
            refine lv_iload_n hx hb d_Mo_question_89 rfl (lv_at hl 2 rfl) ?_
            refine lv_iload_n hx hb d_Mo_question_90 rfl (lv_at hl 3 rfl) ?_
            have k91 := h.1
            have h := h.2
            refine asM_16 hF hK hP hL hS k91 d_Mo_question_91 (fun H locs hP hS => ?_)
            refine lv_aload_n hx hb d_Mo_question_92 rfl (lv_at hl 1 rfl) ?_
            refine gf_Mo_no hF hK hP m_235 d_Mo_question_93 ?_
            refine lv_iload_n hx hb d_Mo_question_96 rfl (lv_at hl 2 rfl) ?_
            refine lv_iload_n hx hb d_Mo_question_97 rfl (lv_at hl 4 rfl) ?_
            have k98 := h.1
            have h := h.2
            refine asM_17 hF hK hP hL hS k98 d_Mo_question_98 (fun H locs hP hS => ?_)
            refine lv_aload_n hx hb d_Mo_question_99 rfl (lv_at hl 1 rfl) ?_
            refine gf_Mo_bad hF hK hP m_234 d_Mo_question_100 ?_
            refine lv_iload_n hx hb d_Mo_question_103 rfl (lv_at hl 2 rfl) ?_
            refine lv_iload hx hb d_Mo_question_104 (lv_at hl 5 rfl) ?_
            have k106 := h
            refine asM_18 hF hK hP hL hS k106 d_Mo_question_106 (fun H locs hP hS => ?_)
            have hv : ((s2 (s2 (s2 (s2 ((f_Mo_throwing ar sc 1 1 0).2.1) 15 a0.toNatClampNeg (vp_nar .boolean 1)) 16 a0.toNatClampNeg a1) 17 a0.toNatClampNeg a2) 18 a0.toNatClampNeg a3, (f_Mo_throwing ar sc 1 1 0).2.2) : (Nat → Nat → Int32) × (Nat → Int32)) = f_Mo_question ar sc a0 a1 a2 a3 := by rw [f_Mo_question, if_pos c2, if_pos c19, if_pos c42, if_pos c60, if_pos c74]
            exact W.vret hx hb hr (fun t ht hW => ⟨⟨(s2 (s2 (s2 (s2 ((f_Mo_throwing ar sc 1 1 0).2.1) 15 a0.toNatClampNeg (vp_nar .boolean 1)) 16 a0.toNatClampNeg a1) 17 a0.toNatClampNeg a2) 18 a0.toNatClampNeg a3, (f_Mo_throwing ar sc 1 1 0).2.2), rfl, hv, by dsimp only; rw [ht]; exact hP⟩, hS.F ht⟩) hS.2.2 d_Mo_question_107
          · have h := h.2 c74
            have hv : (((f_Mo_throwing ar sc 1 1 0).2.1, (f_Mo_throwing ar sc 1 1 0).2.2) : (Nat → Nat → Int32) × (Nat → Int32)) = f_Mo_question ar sc a0 a1 a2 a3 := by rw [f_Mo_question, if_pos c2, if_pos c19, if_pos c42, if_pos c60, if_neg c74]
            exact W.vret hx hb hr (fun t ht hW => ⟨⟨((f_Mo_throwing ar sc 1 1 0).2.1, (f_Mo_throwing ar sc 1 1 0).2.2), rfl, hv, by dsimp only; rw [ht]; exact hP⟩, hS.F ht⟩) hS.2.2 d_Mo_question_77
    · have h := h.2 c19
      refine lv_iload_n hx hb d_Mo_question_22 rfl (lv_at hl 3 rfl) ?_
      refine lv_iload_n hx hb d_Mo_question_23 rfl (lv_at hl 1 rfl) ?_
      refine lv_iconst (v := 1) hx hb d_Mo_question_24 (by decide) ?_
      refine lv_iadd hx hb d_Mo_question_25 ?_
      refine lv_bipush (v := 15) hx hb d_Mo_question_26 (by decide) ?_
      refine r_Mo_in hF m_195 hl.1 ⟨Nat.le_of_ble_eq_true rfl, Nat.le_of_ble_eq_true rfl⟩ ⟨Nat.zero_le _, Nat.zero_le _⟩ (Nat.le_of_ble_eq_true rfl) d_Mo_question_28 ?_
      refine lv_if_eq (tgt := 45) hx hb d_Mo_question_31 (by decide) (fun c31 => ?_) (fun c31 => ?_)
      · have h := h.1 c31
        refine lv_iconst (v := 1) hx hb d_Mo_question_45 (by decide) ?_
        refine lv_goto (tgt := 50) hx hb d_Mo_question_46 (by decide) ?_
        refine lv_istore (lv' := [(5, .int 1), (0, .ref (L 0)), (1, .int a0), (2, .int a1), (3, .int a2), (4, .int a3)]) hx hb d_Mo_question_50 hl (by decide) rfl (fun ls hl => ?_)
        refine lv_aload_n hx hb d_Mo_question_52 rfl (lv_at hl 1 rfl) ?_
        refine lv_iload_n hx hb d_Mo_question_53 rfl (lv_at hl 2 rfl) ?_
        refine lv_iconst (v := 0) hx hb d_Mo_question_54 (by decide) ?_
        refine lv_bipush (v := 15) hx hb d_Mo_question_55 (by decide) ?_
        refine r_Mo_in hF m_195 hl.1 ⟨Nat.le_of_ble_eq_true rfl, Nat.le_of_ble_eq_true rfl⟩ ⟨Nat.zero_le _, Nat.zero_le _⟩ (Nat.le_of_ble_eq_true rfl) d_Mo_question_57 ?_
        refine lv_if_ne (tgt := 67) hx hb d_Mo_question_60 (by decide) (fun c60 => ?_) (fun c60 => ?_)
        · have h := h.2 c60
          refine lv_iconst (v := 0) hx hb d_Mo_question_67 (by decide) ?_
          refine lv_iload hx hb d_Mo_question_68 (lv_at hl 0 rfl) ?_
          refine lv_iconst (v := 0) hx hb d_Mo_question_70 (by decide) ?_
          refine r_Mo_throwing hF hK hP hL hS m_283 hl.1 ⟨Nat.le_of_ble_eq_true rfl, Nat.le_of_ble_eq_true rfl⟩ ⟨Nat.zero_le _, Nat.zero_le _⟩ (Nat.le_of_ble_eq_true rfl) d_Mo_question_71 (fun H locs hP hS => ?_)
          refine lv_if_eq (tgt := 78) hx hb d_Mo_question_74 (by decide) (fun c74 => ?_) (fun c74 => ?_)
          · have h := h.1 c74
            refine lv_aload_n hx hb d_Mo_question_78 rfl (lv_at hl 1 rfl) ?_
            refine gf_Mo_told hF hK hP m_233 d_Mo_question_79 ?_
            refine lv_iload_n hx hb d_Mo_question_82 rfl (lv_at hl 2 rfl) ?_
            refine lv_iconst (v := 1) hx hb d_Mo_question_83 (by decide) ?_
            have k84 := h.1
            have h := h.2
            refine asM_15 hF hK hP hL hS k84 d_Mo_question_84 (fun H locs hP hS => ?_)
            refine lv_aload_n hx hb d_Mo_question_85 rfl (lv_at hl 1 rfl) ?_
            refine gf_Mo_yes hF hK hP m_237 d_Mo_question_86 ?_
            refine lv_iload_n hx hb d_Mo_question_89 rfl (lv_at hl 2 rfl) ?_
            refine lv_iload_n hx hb d_Mo_question_90 rfl (lv_at hl 3 rfl) ?_
            have k91 := h.1
            have h := h.2
            refine asM_16 hF hK hP hL hS k91 d_Mo_question_91 (fun H locs hP hS => ?_)
            refine lv_aload_n hx hb d_Mo_question_92 rfl (lv_at hl 1 rfl) ?_
            refine gf_Mo_no hF hK hP m_235 d_Mo_question_93 ?_
            refine lv_iload_n hx hb d_Mo_question_96 rfl (lv_at hl 2 rfl) ?_
            refine lv_iload_n hx hb d_Mo_question_97 rfl (lv_at hl 4 rfl) ?_
            have k98 := h.1
            have h := h.2
            refine asM_17 hF hK hP hL hS k98 d_Mo_question_98 (fun H locs hP hS => ?_)
            refine lv_aload_n hx hb d_Mo_question_99 rfl (lv_at hl 1 rfl) ?_
            refine gf_Mo_bad hF hK hP m_234 d_Mo_question_100 ?_
            refine lv_iload_n hx hb d_Mo_question_103 rfl (lv_at hl 2 rfl) ?_
            refine lv_iload hx hb d_Mo_question_104 (lv_at hl 5 rfl) ?_
            have k106 := h
            refine asM_18 hF hK hP hL hS k106 d_Mo_question_106 (fun H locs hP hS => ?_)
            have hv : ((s2 (s2 (s2 (s2 ((f_Mo_throwing ar sc 0 1 0).2.1) 15 a0.toNatClampNeg (vp_nar .boolean 1)) 16 a0.toNatClampNeg a1) 17 a0.toNatClampNeg a2) 18 a0.toNatClampNeg a3, (f_Mo_throwing ar sc 0 1 0).2.2) : (Nat → Nat → Int32) × (Nat → Int32)) = f_Mo_question ar sc a0 a1 a2 a3 := by rw [f_Mo_question, if_pos c2, if_neg c19, if_pos c31, if_neg c60, if_pos c74]
            exact W.vret hx hb hr (fun t ht hW => ⟨⟨(s2 (s2 (s2 (s2 ((f_Mo_throwing ar sc 0 1 0).2.1) 15 a0.toNatClampNeg (vp_nar .boolean 1)) 16 a0.toNatClampNeg a1) 17 a0.toNatClampNeg a2) 18 a0.toNatClampNeg a3, (f_Mo_throwing ar sc 0 1 0).2.2), rfl, hv, by dsimp only; rw [ht]; exact hP⟩, hS.F ht⟩) hS.2.2 d_Mo_question_107
          · have h := h.2 c74
            have hv : (((f_Mo_throwing ar sc 0 1 0).2.1, (f_Mo_throwing ar sc 0 1 0).2.2) : (Nat → Nat → Int32) × (Nat → Int32)) = f_Mo_question ar sc a0 a1 a2 a3 := by rw [f_Mo_question, if_pos c2, if_neg c19, if_pos c31, if_neg c60, if_neg c74]
            exact W.vret hx hb hr (fun t ht hW => ⟨⟨((f_Mo_throwing ar sc 0 1 0).2.1, (f_Mo_throwing ar sc 0 1 0).2.2), rfl, hv, by dsimp only; rw [ht]; exact hP⟩, hS.F ht⟩) hS.2.2 d_Mo_question_77
        · have h := h.1 c60
          refine lv_iconst (v := 1) hx hb d_Mo_question_63 (by decide) ?_
          refine lv_goto (tgt := 68) hx hb d_Mo_question_64 (by decide) ?_
          refine lv_iload hx hb d_Mo_question_68 (lv_at hl 0 rfl) ?_
          refine lv_iconst (v := 0) hx hb d_Mo_question_70 (by decide) ?_
          refine r_Mo_throwing hF hK hP hL hS m_283 hl.1 ⟨Nat.le_of_ble_eq_true rfl, Nat.le_of_ble_eq_true rfl⟩ ⟨Nat.zero_le _, Nat.zero_le _⟩ (Nat.le_of_ble_eq_true rfl) d_Mo_question_71 (fun H locs hP hS => ?_)
          refine lv_if_eq (tgt := 78) hx hb d_Mo_question_74 (by decide) (fun c74 => ?_) (fun c74 => ?_)
          · have h := h.1 c74
            refine lv_aload_n hx hb d_Mo_question_78 rfl (lv_at hl 1 rfl) ?_
            refine gf_Mo_told hF hK hP m_233 d_Mo_question_79 ?_
            refine lv_iload_n hx hb d_Mo_question_82 rfl (lv_at hl 2 rfl) ?_
            refine lv_iconst (v := 1) hx hb d_Mo_question_83 (by decide) ?_
            have k84 := h.1
            have h := h.2
            refine asM_15 hF hK hP hL hS k84 d_Mo_question_84 (fun H locs hP hS => ?_)
            refine lv_aload_n hx hb d_Mo_question_85 rfl (lv_at hl 1 rfl) ?_
            refine gf_Mo_yes hF hK hP m_237 d_Mo_question_86 ?_
            refine lv_iload_n hx hb d_Mo_question_89 rfl (lv_at hl 2 rfl) ?_
            refine lv_iload_n hx hb d_Mo_question_90 rfl (lv_at hl 3 rfl) ?_
            have k91 := h.1
            have h := h.2
            refine asM_16 hF hK hP hL hS k91 d_Mo_question_91 (fun H locs hP hS => ?_)
            refine lv_aload_n hx hb d_Mo_question_92 rfl (lv_at hl 1 rfl) ?_
            refine gf_Mo_no hF hK hP m_235 d_Mo_question_93 ?_
            refine lv_iload_n hx hb d_Mo_question_96 rfl (lv_at hl 2 rfl) ?_
            refine lv_iload_n hx hb d_Mo_question_97 rfl (lv_at hl 4 rfl) ?_
            have k98 := h.1
            have h := h.2
            refine asM_17 hF hK hP hL hS k98 d_Mo_question_98 (fun H locs hP hS => ?_)
            refine lv_aload_n hx hb d_Mo_question_99 rfl (lv_at hl 1 rfl) ?_
            refine gf_Mo_bad hF hK hP m_234 d_Mo_question_100 ?_
            refine lv_iload_n hx hb d_Mo_question_103 rfl (lv_at hl 2 rfl) ?_
            refine lv_iload hx hb d_Mo_question_104 (lv_at hl 5 rfl) ?_
            have k106 := h
            refine asM_18 hF hK hP hL hS k106 d_Mo_question_106 (fun H locs hP hS => ?_)
            have hv : ((s2 (s2 (s2 (s2 ((f_Mo_throwing ar sc 1 1 0).2.1) 15 a0.toNatClampNeg (vp_nar .boolean 1)) 16 a0.toNatClampNeg a1) 17 a0.toNatClampNeg a2) 18 a0.toNatClampNeg a3, (f_Mo_throwing ar sc 1 1 0).2.2) : (Nat → Nat → Int32) × (Nat → Int32)) = f_Mo_question ar sc a0 a1 a2 a3 := by rw [f_Mo_question, if_pos c2, if_neg c19, if_pos c31, if_pos c60, if_pos c74]
            exact W.vret hx hb hr (fun t ht hW => ⟨⟨(s2 (s2 (s2 (s2 ((f_Mo_throwing ar sc 1 1 0).2.1) 15 a0.toNatClampNeg (vp_nar .boolean 1)) 16 a0.toNatClampNeg a1) 17 a0.toNatClampNeg a2) 18 a0.toNatClampNeg a3, (f_Mo_throwing ar sc 1 1 0).2.2), rfl, hv, by dsimp only; rw [ht]; exact hP⟩, hS.F ht⟩) hS.2.2 d_Mo_question_107
          · have h := h.2 c74
            have hv : (((f_Mo_throwing ar sc 1 1 0).2.1, (f_Mo_throwing ar sc 1 1 0).2.2) : (Nat → Nat → Int32) × (Nat → Int32)) = f_Mo_question ar sc a0 a1 a2 a3 := by rw [f_Mo_question, if_pos c2, if_neg c19, if_pos c31, if_pos c60, if_neg c74]
            exact W.vret hx hb hr (fun t ht hW => ⟨⟨((f_Mo_throwing ar sc 1 1 0).2.1, (f_Mo_throwing ar sc 1 1 0).2.2), rfl, hv, by dsimp only; rw [ht]; exact hP⟩, hS.F ht⟩) hS.2.2 d_Mo_question_77
      · have h := h.2 c31
        refine lv_iload hx hb d_Mo_question_34 (lv_at hl 4 rfl) ?_
        refine lv_iconst (v := 0) hx hb d_Mo_question_36 (by decide) ?_
        refine lv_bipush (v := 50) hx hb d_Mo_question_37 (by decide) ?_
        refine r_Mo_in hF m_195 hl.1 ⟨Nat.le_of_ble_eq_true rfl, Nat.le_of_ble_eq_true rfl⟩ ⟨Nat.zero_le _, Nat.zero_le _⟩ (Nat.le_of_ble_eq_true rfl) d_Mo_question_39 ?_
        refine lv_if_ne (tgt := 49) hx hb d_Mo_question_42 (by decide) (fun c42 => ?_) (fun c42 => ?_)
        · have h := h.2 c42
          refine lv_iconst (v := 0) hx hb d_Mo_question_49 (by decide) ?_
          refine lv_istore (lv' := [(5, .int 0), (0, .ref (L 0)), (1, .int a0), (2, .int a1), (3, .int a2), (4, .int a3)]) hx hb d_Mo_question_50 hl (by decide) rfl (fun ls hl => ?_)
          refine lv_aload_n hx hb d_Mo_question_52 rfl (lv_at hl 1 rfl) ?_
          refine lv_iload_n hx hb d_Mo_question_53 rfl (lv_at hl 2 rfl) ?_
          refine lv_iconst (v := 0) hx hb d_Mo_question_54 (by decide) ?_
          refine lv_bipush (v := 15) hx hb d_Mo_question_55 (by decide) ?_
          refine r_Mo_in hF m_195 hl.1 ⟨Nat.le_of_ble_eq_true rfl, Nat.le_of_ble_eq_true rfl⟩ ⟨Nat.zero_le _, Nat.zero_le _⟩ (Nat.le_of_ble_eq_true rfl) d_Mo_question_57 ?_
          refine lv_if_ne (tgt := 67) hx hb d_Mo_question_60 (by decide) (fun c60 => ?_) (fun c60 => ?_)
          · have h := h.2 c60
            refine lv_iconst (v := 0) hx hb d_Mo_question_67 (by decide) ?_
            refine lv_iload hx hb d_Mo_question_68 (lv_at hl 0 rfl) ?_
            refine lv_iconst (v := 0) hx hb d_Mo_question_70 (by decide) ?_
            refine r_Mo_throwing hF hK hP hL hS m_283 hl.1 ⟨Nat.le_of_ble_eq_true rfl, Nat.le_of_ble_eq_true rfl⟩ ⟨Nat.zero_le _, Nat.zero_le _⟩ (Nat.le_of_ble_eq_true rfl) d_Mo_question_71 (fun H locs hP hS => ?_)
            refine lv_if_eq (tgt := 78) hx hb d_Mo_question_74 (by decide) (fun c74 => ?_) (fun c74 => ?_)
            · have h := h.1 c74
              refine lv_aload_n hx hb d_Mo_question_78 rfl (lv_at hl 1 rfl) ?_
              refine gf_Mo_told hF hK hP m_233 d_Mo_question_79 ?_
              refine lv_iload_n hx hb d_Mo_question_82 rfl (lv_at hl 2 rfl) ?_
              refine lv_iconst (v := 1) hx hb d_Mo_question_83 (by decide) ?_
              have k84 := h.1
              have h := h.2
              refine asM_15 hF hK hP hL hS k84 d_Mo_question_84 (fun H locs hP hS => ?_)
              refine lv_aload_n hx hb d_Mo_question_85 rfl (lv_at hl 1 rfl) ?_
              refine gf_Mo_yes hF hK hP m_237 d_Mo_question_86 ?_
              refine lv_iload_n hx hb d_Mo_question_89 rfl (lv_at hl 2 rfl) ?_
              refine lv_iload_n hx hb d_Mo_question_90 rfl (lv_at hl 3 rfl) ?_
              have k91 := h.1
              have h := h.2
              refine asM_16 hF hK hP hL hS k91 d_Mo_question_91 (fun H locs hP hS => ?_)
              refine lv_aload_n hx hb d_Mo_question_92 rfl (lv_at hl 1 rfl) ?_
              refine gf_Mo_no hF hK hP m_235 d_Mo_question_93 ?_
              refine lv_iload_n hx hb d_Mo_question_96 rfl (lv_at hl 2 rfl) ?_
              refine lv_iload_n hx hb d_Mo_question_97 rfl (lv_at hl 4 rfl) ?_
              have k98 := h.1
              have h := h.2
              refine asM_17 hF hK hP hL hS k98 d_Mo_question_98 (fun H locs hP hS => ?_)
              refine lv_aload_n hx hb d_Mo_question_99 rfl (lv_at hl 1 rfl) ?_
              refine gf_Mo_bad hF hK hP m_234 d_Mo_question_100 ?_
              refine lv_iload_n hx hb d_Mo_question_103 rfl (lv_at hl 2 rfl) ?_
              refine lv_iload hx hb d_Mo_question_104 (lv_at hl 5 rfl) ?_
              have k106 := h
              refine asM_18 hF hK hP hL hS k106 d_Mo_question_106 (fun H locs hP hS => ?_)
              have hv : ((s2 (s2 (s2 (s2 ((f_Mo_throwing ar sc 0 0 0).2.1) 15 a0.toNatClampNeg (vp_nar .boolean 1)) 16 a0.toNatClampNeg a1) 17 a0.toNatClampNeg a2) 18 a0.toNatClampNeg a3, (f_Mo_throwing ar sc 0 0 0).2.2) : (Nat → Nat → Int32) × (Nat → Int32)) = f_Mo_question ar sc a0 a1 a2 a3 := by rw [f_Mo_question, if_pos c2, if_neg c19, if_neg c31, if_neg c42, if_neg c60, if_pos c74]
              exact W.vret hx hb hr (fun t ht hW => ⟨⟨(s2 (s2 (s2 (s2 ((f_Mo_throwing ar sc 0 0 0).2.1) 15 a0.toNatClampNeg (vp_nar .boolean 1)) 16 a0.toNatClampNeg a1) 17 a0.toNatClampNeg a2) 18 a0.toNatClampNeg a3, (f_Mo_throwing ar sc 0 0 0).2.2), rfl, hv, by dsimp only; rw [ht]; exact hP⟩, hS.F ht⟩) hS.2.2 d_Mo_question_107
            · have h := h.2 c74
              have hv : (((f_Mo_throwing ar sc 0 0 0).2.1, (f_Mo_throwing ar sc 0 0 0).2.2) : (Nat → Nat → Int32) × (Nat → Int32)) = f_Mo_question ar sc a0 a1 a2 a3 := by rw [f_Mo_question, if_pos c2, if_neg c19, if_neg c31, if_neg c42, if_neg c60, if_neg c74]
              exact W.vret hx hb hr (fun t ht hW => ⟨⟨((f_Mo_throwing ar sc 0 0 0).2.1, (f_Mo_throwing ar sc 0 0 0).2.2), rfl, hv, by dsimp only; rw [ht]; exact hP⟩, hS.F ht⟩) hS.2.2 d_Mo_question_77
          · have h := h.1 c60
            refine lv_iconst (v := 1) hx hb d_Mo_question_63 (by decide) ?_
            refine lv_goto (tgt := 68) hx hb d_Mo_question_64 (by decide) ?_
            refine lv_iload hx hb d_Mo_question_68 (lv_at hl 0 rfl) ?_
            refine lv_iconst (v := 0) hx hb d_Mo_question_70 (by decide) ?_
            refine r_Mo_throwing hF hK hP hL hS m_283 hl.1 ⟨Nat.le_of_ble_eq_true rfl, Nat.le_of_ble_eq_true rfl⟩ ⟨Nat.zero_le _, Nat.zero_le _⟩ (Nat.le_of_ble_eq_true rfl) d_Mo_question_71 (fun H locs hP hS => ?_)
            refine lv_if_eq (tgt := 78) hx hb d_Mo_question_74 (by decide) (fun c74 => ?_) (fun c74 => ?_)
            · have h := h.1 c74
              refine lv_aload_n hx hb d_Mo_question_78 rfl (lv_at hl 1 rfl) ?_
              refine gf_Mo_told hF hK hP m_233 d_Mo_question_79 ?_
              refine lv_iload_n hx hb d_Mo_question_82 rfl (lv_at hl 2 rfl) ?_
              refine lv_iconst (v := 1) hx hb d_Mo_question_83 (by decide) ?_
              have k84 := h.1
              have h := h.2
              refine asM_15 hF hK hP hL hS k84 d_Mo_question_84 (fun H locs hP hS => ?_)
              refine lv_aload_n hx hb d_Mo_question_85 rfl (lv_at hl 1 rfl) ?_
              refine gf_Mo_yes hF hK hP m_237 d_Mo_question_86 ?_
              refine lv_iload_n hx hb d_Mo_question_89 rfl (lv_at hl 2 rfl) ?_
              refine lv_iload_n hx hb d_Mo_question_90 rfl (lv_at hl 3 rfl) ?_
              have k91 := h.1
              have h := h.2
              refine asM_16 hF hK hP hL hS k91 d_Mo_question_91 (fun H locs hP hS => ?_)
              refine lv_aload_n hx hb d_Mo_question_92 rfl (lv_at hl 1 rfl) ?_
              refine gf_Mo_no hF hK hP m_235 d_Mo_question_93 ?_
              refine lv_iload_n hx hb d_Mo_question_96 rfl (lv_at hl 2 rfl) ?_
              refine lv_iload_n hx hb d_Mo_question_97 rfl (lv_at hl 4 rfl) ?_
              have k98 := h.1
              have h := h.2
              refine asM_17 hF hK hP hL hS k98 d_Mo_question_98 (fun H locs hP hS => ?_)
              refine lv_aload_n hx hb d_Mo_question_99 rfl (lv_at hl 1 rfl) ?_
              refine gf_Mo_bad hF hK hP m_234 d_Mo_question_100 ?_
              refine lv_iload_n hx hb d_Mo_question_103 rfl (lv_at hl 2 rfl) ?_
              refine lv_iload hx hb d_Mo_question_104 (lv_at hl 5 rfl) ?_
              have k106 := h
              refine asM_18 hF hK hP hL hS k106 d_Mo_question_106 (fun H locs hP hS => ?_)
              have hv : ((s2 (s2 (s2 (s2 ((f_Mo_throwing ar sc 1 0 0).2.1) 15 a0.toNatClampNeg (vp_nar .boolean 1)) 16 a0.toNatClampNeg a1) 17 a0.toNatClampNeg a2) 18 a0.toNatClampNeg a3, (f_Mo_throwing ar sc 1 0 0).2.2) : (Nat → Nat → Int32) × (Nat → Int32)) = f_Mo_question ar sc a0 a1 a2 a3 := by rw [f_Mo_question, if_pos c2, if_neg c19, if_neg c31, if_neg c42, if_pos c60, if_pos c74]
              exact W.vret hx hb hr (fun t ht hW => ⟨⟨(s2 (s2 (s2 (s2 ((f_Mo_throwing ar sc 1 0 0).2.1) 15 a0.toNatClampNeg (vp_nar .boolean 1)) 16 a0.toNatClampNeg a1) 17 a0.toNatClampNeg a2) 18 a0.toNatClampNeg a3, (f_Mo_throwing ar sc 1 0 0).2.2), rfl, hv, by dsimp only; rw [ht]; exact hP⟩, hS.F ht⟩) hS.2.2 d_Mo_question_107
            · have h := h.2 c74
              have hv : (((f_Mo_throwing ar sc 1 0 0).2.1, (f_Mo_throwing ar sc 1 0 0).2.2) : (Nat → Nat → Int32) × (Nat → Int32)) = f_Mo_question ar sc a0 a1 a2 a3 := by rw [f_Mo_question, if_pos c2, if_neg c19, if_neg c31, if_neg c42, if_pos c60, if_neg c74]
              exact W.vret hx hb hr (fun t ht hW => ⟨⟨((f_Mo_throwing ar sc 1 0 0).2.1, (f_Mo_throwing ar sc 1 0 0).2.2), rfl, hv, by dsimp only; rw [ht]; exact hP⟩, hS.F ht⟩) hS.2.2 d_Mo_question_77
        · have h := h.1 c42
          refine lv_iconst (v := 1) hx hb d_Mo_question_45 (by decide) ?_
          refine lv_goto (tgt := 50) hx hb d_Mo_question_46 (by decide) ?_
          refine lv_istore (lv' := [(5, .int 1), (0, .ref (L 0)), (1, .int a0), (2, .int a1), (3, .int a2), (4, .int a3)]) hx hb d_Mo_question_50 hl (by decide) rfl (fun ls hl => ?_)
          refine lv_aload_n hx hb d_Mo_question_52 rfl (lv_at hl 1 rfl) ?_
          refine lv_iload_n hx hb d_Mo_question_53 rfl (lv_at hl 2 rfl) ?_
          refine lv_iconst (v := 0) hx hb d_Mo_question_54 (by decide) ?_
          refine lv_bipush (v := 15) hx hb d_Mo_question_55 (by decide) ?_
          refine r_Mo_in hF m_195 hl.1 ⟨Nat.le_of_ble_eq_true rfl, Nat.le_of_ble_eq_true rfl⟩ ⟨Nat.zero_le _, Nat.zero_le _⟩ (Nat.le_of_ble_eq_true rfl) d_Mo_question_57 ?_
          refine lv_if_ne (tgt := 67) hx hb d_Mo_question_60 (by decide) (fun c60 => ?_) (fun c60 => ?_)
          · have h := h.2 c60
            refine lv_iconst (v := 0) hx hb d_Mo_question_67 (by decide) ?_
            refine lv_iload hx hb d_Mo_question_68 (lv_at hl 0 rfl) ?_
            refine lv_iconst (v := 0) hx hb d_Mo_question_70 (by decide) ?_
            refine r_Mo_throwing hF hK hP hL hS m_283 hl.1 ⟨Nat.le_of_ble_eq_true rfl, Nat.le_of_ble_eq_true rfl⟩ ⟨Nat.zero_le _, Nat.zero_le _⟩ (Nat.le_of_ble_eq_true rfl) d_Mo_question_71 (fun H locs hP hS => ?_)
            refine lv_if_eq (tgt := 78) hx hb d_Mo_question_74 (by decide) (fun c74 => ?_) (fun c74 => ?_)
            · have h := h.1 c74
              refine lv_aload_n hx hb d_Mo_question_78 rfl (lv_at hl 1 rfl) ?_
              refine gf_Mo_told hF hK hP m_233 d_Mo_question_79 ?_
              refine lv_iload_n hx hb d_Mo_question_82 rfl (lv_at hl 2 rfl) ?_
              refine lv_iconst (v := 1) hx hb d_Mo_question_83 (by decide) ?_
              have k84 := h.1
              have h := h.2
              refine asM_15 hF hK hP hL hS k84 d_Mo_question_84 (fun H locs hP hS => ?_)
              refine lv_aload_n hx hb d_Mo_question_85 rfl (lv_at hl 1 rfl) ?_
              refine gf_Mo_yes hF hK hP m_237 d_Mo_question_86 ?_
              refine lv_iload_n hx hb d_Mo_question_89 rfl (lv_at hl 2 rfl) ?_
              refine lv_iload_n hx hb d_Mo_question_90 rfl (lv_at hl 3 rfl) ?_
              have k91 := h.1
              have h := h.2
              refine asM_16 hF hK hP hL hS k91 d_Mo_question_91 (fun H locs hP hS => ?_)
              refine lv_aload_n hx hb d_Mo_question_92 rfl (lv_at hl 1 rfl) ?_
              refine gf_Mo_no hF hK hP m_235 d_Mo_question_93 ?_
              refine lv_iload_n hx hb d_Mo_question_96 rfl (lv_at hl 2 rfl) ?_
              refine lv_iload_n hx hb d_Mo_question_97 rfl (lv_at hl 4 rfl) ?_
              have k98 := h.1
              have h := h.2
              refine asM_17 hF hK hP hL hS k98 d_Mo_question_98 (fun H locs hP hS => ?_)
              refine lv_aload_n hx hb d_Mo_question_99 rfl (lv_at hl 1 rfl) ?_
              refine gf_Mo_bad hF hK hP m_234 d_Mo_question_100 ?_
              refine lv_iload_n hx hb d_Mo_question_103 rfl (lv_at hl 2 rfl) ?_
              refine lv_iload hx hb d_Mo_question_104 (lv_at hl 5 rfl) ?_
              have k106 := h
              refine asM_18 hF hK hP hL hS k106 d_Mo_question_106 (fun H locs hP hS => ?_)
              have hv : ((s2 (s2 (s2 (s2 ((f_Mo_throwing ar sc 0 1 0).2.1) 15 a0.toNatClampNeg (vp_nar .boolean 1)) 16 a0.toNatClampNeg a1) 17 a0.toNatClampNeg a2) 18 a0.toNatClampNeg a3, (f_Mo_throwing ar sc 0 1 0).2.2) : (Nat → Nat → Int32) × (Nat → Int32)) = f_Mo_question ar sc a0 a1 a2 a3 := by rw [f_Mo_question, if_pos c2, if_neg c19, if_neg c31, if_pos c42, if_neg c60, if_pos c74]
              exact W.vret hx hb hr (fun t ht hW => ⟨⟨(s2 (s2 (s2 (s2 ((f_Mo_throwing ar sc 0 1 0).2.1) 15 a0.toNatClampNeg (vp_nar .boolean 1)) 16 a0.toNatClampNeg a1) 17 a0.toNatClampNeg a2) 18 a0.toNatClampNeg a3, (f_Mo_throwing ar sc 0 1 0).2.2), rfl, hv, by dsimp only; rw [ht]; exact hP⟩, hS.F ht⟩) hS.2.2 d_Mo_question_107
            · have h := h.2 c74
              have hv : (((f_Mo_throwing ar sc 0 1 0).2.1, (f_Mo_throwing ar sc 0 1 0).2.2) : (Nat → Nat → Int32) × (Nat → Int32)) = f_Mo_question ar sc a0 a1 a2 a3 := by rw [f_Mo_question, if_pos c2, if_neg c19, if_neg c31, if_pos c42, if_neg c60, if_neg c74]
              exact W.vret hx hb hr (fun t ht hW => ⟨⟨((f_Mo_throwing ar sc 0 1 0).2.1, (f_Mo_throwing ar sc 0 1 0).2.2), rfl, hv, by dsimp only; rw [ht]; exact hP⟩, hS.F ht⟩) hS.2.2 d_Mo_question_77
          · have h := h.1 c60
            refine lv_iconst (v := 1) hx hb d_Mo_question_63 (by decide) ?_
            refine lv_goto (tgt := 68) hx hb d_Mo_question_64 (by decide) ?_
            refine lv_iload hx hb d_Mo_question_68 (lv_at hl 0 rfl) ?_
            refine lv_iconst (v := 0) hx hb d_Mo_question_70 (by decide) ?_
            refine r_Mo_throwing hF hK hP hL hS m_283 hl.1 ⟨Nat.le_of_ble_eq_true rfl, Nat.le_of_ble_eq_true rfl⟩ ⟨Nat.zero_le _, Nat.zero_le _⟩ (Nat.le_of_ble_eq_true rfl) d_Mo_question_71 (fun H locs hP hS => ?_)
            refine lv_if_eq (tgt := 78) hx hb d_Mo_question_74 (by decide) (fun c74 => ?_) (fun c74 => ?_)
            · have h := h.1 c74
              refine lv_aload_n hx hb d_Mo_question_78 rfl (lv_at hl 1 rfl) ?_
              refine gf_Mo_told hF hK hP m_233 d_Mo_question_79 ?_
              refine lv_iload_n hx hb d_Mo_question_82 rfl (lv_at hl 2 rfl) ?_
              refine lv_iconst (v := 1) hx hb d_Mo_question_83 (by decide) ?_
              have k84 := h.1
              have h := h.2
              refine asM_15 hF hK hP hL hS k84 d_Mo_question_84 (fun H locs hP hS => ?_)
              refine lv_aload_n hx hb d_Mo_question_85 rfl (lv_at hl 1 rfl) ?_
              refine gf_Mo_yes hF hK hP m_237 d_Mo_question_86 ?_
              refine lv_iload_n hx hb d_Mo_question_89 rfl (lv_at hl 2 rfl) ?_
              refine lv_iload_n hx hb d_Mo_question_90 rfl (lv_at hl 3 rfl) ?_
              have k91 := h.1
              have h := h.2
              refine asM_16 hF hK hP hL hS k91 d_Mo_question_91 (fun H locs hP hS => ?_)
              refine lv_aload_n hx hb d_Mo_question_92 rfl (lv_at hl 1 rfl) ?_
              refine gf_Mo_no hF hK hP m_235 d_Mo_question_93 ?_
              refine lv_iload_n hx hb d_Mo_question_96 rfl (lv_at hl 2 rfl) ?_
              refine lv_iload_n hx hb d_Mo_question_97 rfl (lv_at hl 4 rfl) ?_
              have k98 := h.1
              have h := h.2
              refine asM_17 hF hK hP hL hS k98 d_Mo_question_98 (fun H locs hP hS => ?_)
              refine lv_aload_n hx hb d_Mo_question_99 rfl (lv_at hl 1 rfl) ?_
              refine gf_Mo_bad hF hK hP m_234 d_Mo_question_100 ?_
              refine lv_iload_n hx hb d_Mo_question_103 rfl (lv_at hl 2 rfl) ?_
              refine lv_iload hx hb d_Mo_question_104 (lv_at hl 5 rfl) ?_
              have k106 := h
              refine asM_18 hF hK hP hL hS k106 d_Mo_question_106 (fun H locs hP hS => ?_)
              have hv : ((s2 (s2 (s2 (s2 ((f_Mo_throwing ar sc 1 1 0).2.1) 15 a0.toNatClampNeg (vp_nar .boolean 1)) 16 a0.toNatClampNeg a1) 17 a0.toNatClampNeg a2) 18 a0.toNatClampNeg a3, (f_Mo_throwing ar sc 1 1 0).2.2) : (Nat → Nat → Int32) × (Nat → Int32)) = f_Mo_question ar sc a0 a1 a2 a3 := by rw [f_Mo_question, if_pos c2, if_neg c19, if_neg c31, if_pos c42, if_pos c60, if_pos c74]
              exact W.vret hx hb hr (fun t ht hW => ⟨⟨(s2 (s2 (s2 (s2 ((f_Mo_throwing ar sc 1 1 0).2.1) 15 a0.toNatClampNeg (vp_nar .boolean 1)) 16 a0.toNatClampNeg a1) 17 a0.toNatClampNeg a2) 18 a0.toNatClampNeg a3, (f_Mo_throwing ar sc 1 1 0).2.2), rfl, hv, by dsimp only; rw [ht]; exact hP⟩, hS.F ht⟩) hS.2.2 d_Mo_question_107
            · have h := h.2 c74
              have hv : (((f_Mo_throwing ar sc 1 1 0).2.1, (f_Mo_throwing ar sc 1 1 0).2.2) : (Nat → Nat → Int32) × (Nat → Int32)) = f_Mo_question ar sc a0 a1 a2 a3 := by rw [f_Mo_question, if_pos c2, if_neg c19, if_neg c31, if_pos c42, if_pos c60, if_neg c74]
              exact W.vret hx hb hr (fun t ht hW => ⟨⟨((f_Mo_throwing ar sc 1 1 0).2.1, (f_Mo_throwing ar sc 1 1 0).2.2), rfl, hv, by dsimp only; rw [ht]; exact hP⟩, hS.F ht⟩) hS.2.2 d_Mo_question_77
  · have h := h.2 c2
    refine lv_iload_n hx hb d_Mo_question_5 rfl (lv_at hl 2 rfl) ?_
    refine lv_iload_n hx hb d_Mo_question_6 rfl (lv_at hl 1 rfl) ?_
    refine lv_iconst (v := 1) hx hb d_Mo_question_7 (by decide) ?_
    refine lv_iadd hx hb d_Mo_question_8 ?_
    refine lv_bipush (v := 15) hx hb d_Mo_question_9 (by decide) ?_
    refine r_Mo_in hF m_195 hl.1 ⟨Nat.le_of_ble_eq_true rfl, Nat.le_of_ble_eq_true rfl⟩ ⟨Nat.zero_le _, Nat.zero_le _⟩ (Nat.le_of_ble_eq_true rfl) d_Mo_question_11 ?_
    refine lv_if_eq (tgt := 45) hx hb d_Mo_question_14 (by decide) (fun c14 => ?_) (fun c14 => ?_)
    · have h := h.1 c14
      refine lv_iconst (v := 1) hx hb d_Mo_question_45 (by decide) ?_
      refine lv_goto (tgt := 50) hx hb d_Mo_question_46 (by decide) ?_
      refine lv_istore (lv' := [(5, .int 1), (0, .ref (L 0)), (1, .int a0), (2, .int a1), (3, .int a2), (4, .int a3)]) hx hb d_Mo_question_50 hl (by decide) rfl (fun ls hl => ?_)
      refine lv_aload_n hx hb d_Mo_question_52 rfl (lv_at hl 1 rfl) ?_
      refine lv_iload_n hx hb d_Mo_question_53 rfl (lv_at hl 2 rfl) ?_
      refine lv_iconst (v := 0) hx hb d_Mo_question_54 (by decide) ?_
      refine lv_bipush (v := 15) hx hb d_Mo_question_55 (by decide) ?_
      refine r_Mo_in hF m_195 hl.1 ⟨Nat.le_of_ble_eq_true rfl, Nat.le_of_ble_eq_true rfl⟩ ⟨Nat.zero_le _, Nat.zero_le _⟩ (Nat.le_of_ble_eq_true rfl) d_Mo_question_57 ?_
      refine lv_if_ne (tgt := 67) hx hb d_Mo_question_60 (by decide) (fun c60 => ?_) (fun c60 => ?_)
      · have h := h.2 c60
        refine lv_iconst (v := 0) hx hb d_Mo_question_67 (by decide) ?_
        refine lv_iload hx hb d_Mo_question_68 (lv_at hl 0 rfl) ?_
        refine lv_iconst (v := 0) hx hb d_Mo_question_70 (by decide) ?_
        refine r_Mo_throwing hF hK hP hL hS m_283 hl.1 ⟨Nat.le_of_ble_eq_true rfl, Nat.le_of_ble_eq_true rfl⟩ ⟨Nat.zero_le _, Nat.zero_le _⟩ (Nat.le_of_ble_eq_true rfl) d_Mo_question_71 (fun H locs hP hS => ?_)
        refine lv_if_eq (tgt := 78) hx hb d_Mo_question_74 (by decide) (fun c74 => ?_) (fun c74 => ?_)
        · have h := h.1 c74
          refine lv_aload_n hx hb d_Mo_question_78 rfl (lv_at hl 1 rfl) ?_
          refine gf_Mo_told hF hK hP m_233 d_Mo_question_79 ?_
          refine lv_iload_n hx hb d_Mo_question_82 rfl (lv_at hl 2 rfl) ?_
          refine lv_iconst (v := 1) hx hb d_Mo_question_83 (by decide) ?_
          have k84 := h.1
          have h := h.2
          refine asM_15 hF hK hP hL hS k84 d_Mo_question_84 (fun H locs hP hS => ?_)
          refine lv_aload_n hx hb d_Mo_question_85 rfl (lv_at hl 1 rfl) ?_
          refine gf_Mo_yes hF hK hP m_237 d_Mo_question_86 ?_
          refine lv_iload_n hx hb d_Mo_question_89 rfl (lv_at hl 2 rfl) ?_
          refine lv_iload_n hx hb d_Mo_question_90 rfl (lv_at hl 3 rfl) ?_
          have k91 := h.1
          have h := h.2
          refine asM_16 hF hK hP hL hS k91 d_Mo_question_91 (fun H locs hP hS => ?_)
          refine lv_aload_n hx hb d_Mo_question_92 rfl (lv_at hl 1 rfl) ?_
          refine gf_Mo_no hF hK hP m_235 d_Mo_question_93 ?_
          refine lv_iload_n hx hb d_Mo_question_96 rfl (lv_at hl 2 rfl) ?_
          refine lv_iload_n hx hb d_Mo_question_97 rfl (lv_at hl 4 rfl) ?_
          have k98 := h.1
          have h := h.2
          refine asM_17 hF hK hP hL hS k98 d_Mo_question_98 (fun H locs hP hS => ?_)
          refine lv_aload_n hx hb d_Mo_question_99 rfl (lv_at hl 1 rfl) ?_
          refine gf_Mo_bad hF hK hP m_234 d_Mo_question_100 ?_
          refine lv_iload_n hx hb d_Mo_question_103 rfl (lv_at hl 2 rfl) ?_
          refine lv_iload hx hb d_Mo_question_104 (lv_at hl 5 rfl) ?_
          have k106 := h
          refine asM_18 hF hK hP hL hS k106 d_Mo_question_106 (fun H locs hP hS => ?_)
          have hv : ((s2 (s2 (s2 (s2 ((f_Mo_throwing ar sc 0 1 0).2.1) 15 a0.toNatClampNeg (vp_nar .boolean 1)) 16 a0.toNatClampNeg a1) 17 a0.toNatClampNeg a2) 18 a0.toNatClampNeg a3, (f_Mo_throwing ar sc 0 1 0).2.2) : (Nat → Nat → Int32) × (Nat → Int32)) = f_Mo_question ar sc a0 a1 a2 a3 := by rw [f_Mo_question, if_neg c2, if_pos c14, if_neg c60, if_pos c74]
          exact W.vret hx hb hr (fun t ht hW => ⟨⟨(s2 (s2 (s2 (s2 ((f_Mo_throwing ar sc 0 1 0).2.1) 15 a0.toNatClampNeg (vp_nar .boolean 1)) 16 a0.toNatClampNeg a1) 17 a0.toNatClampNeg a2) 18 a0.toNatClampNeg a3, (f_Mo_throwing ar sc 0 1 0).2.2), rfl, hv, by dsimp only; rw [ht]; exact hP⟩, hS.F ht⟩) hS.2.2 d_Mo_question_107
        · have h := h.2 c74
          have hv : (((f_Mo_throwing ar sc 0 1 0).2.1, (f_Mo_throwing ar sc 0 1 0).2.2) : (Nat → Nat → Int32) × (Nat → Int32)) = f_Mo_question ar sc a0 a1 a2 a3 := by rw [f_Mo_question, if_neg c2, if_pos c14, if_neg c60, if_neg c74]
          exact W.vret hx hb hr (fun t ht hW => ⟨⟨((f_Mo_throwing ar sc 0 1 0).2.1, (f_Mo_throwing ar sc 0 1 0).2.2), rfl, hv, by dsimp only; rw [ht]; exact hP⟩, hS.F ht⟩) hS.2.2 d_Mo_question_77
      · have h := h.1 c60
        refine lv_iconst (v := 1) hx hb d_Mo_question_63 (by decide) ?_
        refine lv_goto (tgt := 68) hx hb d_Mo_question_64 (by decide) ?_
        refine lv_iload hx hb d_Mo_question_68 (lv_at hl 0 rfl) ?_
        refine lv_iconst (v := 0) hx hb d_Mo_question_70 (by decide) ?_
        refine r_Mo_throwing hF hK hP hL hS m_283 hl.1 ⟨Nat.le_of_ble_eq_true rfl, Nat.le_of_ble_eq_true rfl⟩ ⟨Nat.zero_le _, Nat.zero_le _⟩ (Nat.le_of_ble_eq_true rfl) d_Mo_question_71 (fun H locs hP hS => ?_)
        refine lv_if_eq (tgt := 78) hx hb d_Mo_question_74 (by decide) (fun c74 => ?_) (fun c74 => ?_)
        · have h := h.1 c74
          refine lv_aload_n hx hb d_Mo_question_78 rfl (lv_at hl 1 rfl) ?_
          refine gf_Mo_told hF hK hP m_233 d_Mo_question_79 ?_
          refine lv_iload_n hx hb d_Mo_question_82 rfl (lv_at hl 2 rfl) ?_
          refine lv_iconst (v := 1) hx hb d_Mo_question_83 (by decide) ?_
          have k84 := h.1
          have h := h.2
          refine asM_15 hF hK hP hL hS k84 d_Mo_question_84 (fun H locs hP hS => ?_)
          refine lv_aload_n hx hb d_Mo_question_85 rfl (lv_at hl 1 rfl) ?_
          refine gf_Mo_yes hF hK hP m_237 d_Mo_question_86 ?_
          refine lv_iload_n hx hb d_Mo_question_89 rfl (lv_at hl 2 rfl) ?_
          refine lv_iload_n hx hb d_Mo_question_90 rfl (lv_at hl 3 rfl) ?_
          have k91 := h.1
          have h := h.2
          refine asM_16 hF hK hP hL hS k91 d_Mo_question_91 (fun H locs hP hS => ?_)
          refine lv_aload_n hx hb d_Mo_question_92 rfl (lv_at hl 1 rfl) ?_
          refine gf_Mo_no hF hK hP m_235 d_Mo_question_93 ?_
          refine lv_iload_n hx hb d_Mo_question_96 rfl (lv_at hl 2 rfl) ?_
          refine lv_iload_n hx hb d_Mo_question_97 rfl (lv_at hl 4 rfl) ?_
          have k98 := h.1
          have h := h.2
          refine asM_17 hF hK hP hL hS k98 d_Mo_question_98 (fun H locs hP hS => ?_)
          refine lv_aload_n hx hb d_Mo_question_99 rfl (lv_at hl 1 rfl) ?_
          refine gf_Mo_bad hF hK hP m_234 d_Mo_question_100 ?_
          refine lv_iload_n hx hb d_Mo_question_103 rfl (lv_at hl 2 rfl) ?_
          refine lv_iload hx hb d_Mo_question_104 (lv_at hl 5 rfl) ?_
          have k106 := h
          refine asM_18 hF hK hP hL hS k106 d_Mo_question_106 (fun H locs hP hS => ?_)
          have hv : ((s2 (s2 (s2 (s2 ((f_Mo_throwing ar sc 1 1 0).2.1) 15 a0.toNatClampNeg (vp_nar .boolean 1)) 16 a0.toNatClampNeg a1) 17 a0.toNatClampNeg a2) 18 a0.toNatClampNeg a3, (f_Mo_throwing ar sc 1 1 0).2.2) : (Nat → Nat → Int32) × (Nat → Int32)) = f_Mo_question ar sc a0 a1 a2 a3 := by rw [f_Mo_question, if_neg c2, if_pos c14, if_pos c60, if_pos c74]
          exact W.vret hx hb hr (fun t ht hW => ⟨⟨(s2 (s2 (s2 (s2 ((f_Mo_throwing ar sc 1 1 0).2.1) 15 a0.toNatClampNeg (vp_nar .boolean 1)) 16 a0.toNatClampNeg a1) 17 a0.toNatClampNeg a2) 18 a0.toNatClampNeg a3, (f_Mo_throwing ar sc 1 1 0).2.2), rfl, hv, by dsimp only; rw [ht]; exact hP⟩, hS.F ht⟩) hS.2.2 d_Mo_question_107
        · have h := h.2 c74
          have hv : (((f_Mo_throwing ar sc 1 1 0).2.1, (f_Mo_throwing ar sc 1 1 0).2.2) : (Nat → Nat → Int32) × (Nat → Int32)) = f_Mo_question ar sc a0 a1 a2 a3 := by rw [f_Mo_question, if_neg c2, if_pos c14, if_pos c60, if_neg c74]
          exact W.vret hx hb hr (fun t ht hW => ⟨⟨((f_Mo_throwing ar sc 1 1 0).2.1, (f_Mo_throwing ar sc 1 1 0).2.2), rfl, hv, by dsimp only; rw [ht]; exact hP⟩, hS.F ht⟩) hS.2.2 d_Mo_question_77
    · have h := h.2 c14
      refine lv_iload_n hx hb d_Mo_question_17 rfl (lv_at hl 3 rfl) ?_
      refine lv_iconst (v := (-1)) hx hb d_Mo_question_18 (by decide) ?_
      refine lv_icmp_eq (tgt := 34) hx hb d_Mo_question_19 (by decide) (fun c19 => ?_) (fun c19 => ?_)
      · have h := h.1 c19
        refine lv_iload hx hb d_Mo_question_34 (lv_at hl 4 rfl) ?_
        refine lv_iconst (v := 0) hx hb d_Mo_question_36 (by decide) ?_
        refine lv_bipush (v := 50) hx hb d_Mo_question_37 (by decide) ?_
        refine r_Mo_in hF m_195 hl.1 ⟨Nat.le_of_ble_eq_true rfl, Nat.le_of_ble_eq_true rfl⟩ ⟨Nat.zero_le _, Nat.zero_le _⟩ (Nat.le_of_ble_eq_true rfl) d_Mo_question_39 ?_
        refine lv_if_ne (tgt := 49) hx hb d_Mo_question_42 (by decide) (fun c42 => ?_) (fun c42 => ?_)
        · have h := h.2 c42
          refine lv_iconst (v := 0) hx hb d_Mo_question_49 (by decide) ?_
          refine lv_istore (lv' := [(5, .int 0), (0, .ref (L 0)), (1, .int a0), (2, .int a1), (3, .int a2), (4, .int a3)]) hx hb d_Mo_question_50 hl (by decide) rfl (fun ls hl => ?_)
          refine lv_aload_n hx hb d_Mo_question_52 rfl (lv_at hl 1 rfl) ?_
          refine lv_iload_n hx hb d_Mo_question_53 rfl (lv_at hl 2 rfl) ?_
          refine lv_iconst (v := 0) hx hb d_Mo_question_54 (by decide) ?_
          refine lv_bipush (v := 15) hx hb d_Mo_question_55 (by decide) ?_
          refine r_Mo_in hF m_195 hl.1 ⟨Nat.le_of_ble_eq_true rfl, Nat.le_of_ble_eq_true rfl⟩ ⟨Nat.zero_le _, Nat.zero_le _⟩ (Nat.le_of_ble_eq_true rfl) d_Mo_question_57 ?_
          refine lv_if_ne (tgt := 67) hx hb d_Mo_question_60 (by decide) (fun c60 => ?_) (fun c60 => ?_)
          · have h := h.2 c60
            refine lv_iconst (v := 0) hx hb d_Mo_question_67 (by decide) ?_
            refine lv_iload hx hb d_Mo_question_68 (lv_at hl 0 rfl) ?_
            refine lv_iconst (v := 0) hx hb d_Mo_question_70 (by decide) ?_
            refine r_Mo_throwing hF hK hP hL hS m_283 hl.1 ⟨Nat.le_of_ble_eq_true rfl, Nat.le_of_ble_eq_true rfl⟩ ⟨Nat.zero_le _, Nat.zero_le _⟩ (Nat.le_of_ble_eq_true rfl) d_Mo_question_71 (fun H locs hP hS => ?_)
            refine lv_if_eq (tgt := 78) hx hb d_Mo_question_74 (by decide) (fun c74 => ?_) (fun c74 => ?_)
            · have h := h.1 c74
              refine lv_aload_n hx hb d_Mo_question_78 rfl (lv_at hl 1 rfl) ?_
              refine gf_Mo_told hF hK hP m_233 d_Mo_question_79 ?_
              refine lv_iload_n hx hb d_Mo_question_82 rfl (lv_at hl 2 rfl) ?_
              refine lv_iconst (v := 1) hx hb d_Mo_question_83 (by decide) ?_
              have k84 := h.1
              have h := h.2
              refine asM_15 hF hK hP hL hS k84 d_Mo_question_84 (fun H locs hP hS => ?_)
              refine lv_aload_n hx hb d_Mo_question_85 rfl (lv_at hl 1 rfl) ?_
              refine gf_Mo_yes hF hK hP m_237 d_Mo_question_86 ?_
              refine lv_iload_n hx hb d_Mo_question_89 rfl (lv_at hl 2 rfl) ?_
              refine lv_iload_n hx hb d_Mo_question_90 rfl (lv_at hl 3 rfl) ?_
              have k91 := h.1
              have h := h.2
              refine asM_16 hF hK hP hL hS k91 d_Mo_question_91 (fun H locs hP hS => ?_)
              refine lv_aload_n hx hb d_Mo_question_92 rfl (lv_at hl 1 rfl) ?_
              refine gf_Mo_no hF hK hP m_235 d_Mo_question_93 ?_
              refine lv_iload_n hx hb d_Mo_question_96 rfl (lv_at hl 2 rfl) ?_
              refine lv_iload_n hx hb d_Mo_question_97 rfl (lv_at hl 4 rfl) ?_
              have k98 := h.1
              have h := h.2
              refine asM_17 hF hK hP hL hS k98 d_Mo_question_98 (fun H locs hP hS => ?_)
              refine lv_aload_n hx hb d_Mo_question_99 rfl (lv_at hl 1 rfl) ?_
              refine gf_Mo_bad hF hK hP m_234 d_Mo_question_100 ?_
              refine lv_iload_n hx hb d_Mo_question_103 rfl (lv_at hl 2 rfl) ?_
              refine lv_iload hx hb d_Mo_question_104 (lv_at hl 5 rfl) ?_
              have k106 := h
              refine asM_18 hF hK hP hL hS k106 d_Mo_question_106 (fun H locs hP hS => ?_)
              have hv : ((s2 (s2 (s2 (s2 ((f_Mo_throwing ar sc 0 0 0).2.1) 15 a0.toNatClampNeg (vp_nar .boolean 1)) 16 a0.toNatClampNeg a1) 17 a0.toNatClampNeg a2) 18 a0.toNatClampNeg a3, (f_Mo_throwing ar sc 0 0 0).2.2) : (Nat → Nat → Int32) × (Nat → Int32)) = f_Mo_question ar sc a0 a1 a2 a3 := by rw [f_Mo_question, if_neg c2, if_neg c14, if_pos c19, if_neg c42, if_neg c60, if_pos c74]
              exact W.vret hx hb hr (fun t ht hW => ⟨⟨(s2 (s2 (s2 (s2 ((f_Mo_throwing ar sc 0 0 0).2.1) 15 a0.toNatClampNeg (vp_nar .boolean 1)) 16 a0.toNatClampNeg a1) 17 a0.toNatClampNeg a2) 18 a0.toNatClampNeg a3, (f_Mo_throwing ar sc 0 0 0).2.2), rfl, hv, by dsimp only; rw [ht]; exact hP⟩, hS.F ht⟩) hS.2.2 d_Mo_question_107
            · have h := h.2 c74
              have hv : (((f_Mo_throwing ar sc 0 0 0).2.1, (f_Mo_throwing ar sc 0 0 0).2.2) : (Nat → Nat → Int32) × (Nat → Int32)) = f_Mo_question ar sc a0 a1 a2 a3 := by rw [f_Mo_question, if_neg c2, if_neg c14, if_pos c19, if_neg c42, if_neg c60, if_neg c74]
              exact W.vret hx hb hr (fun t ht hW => ⟨⟨((f_Mo_throwing ar sc 0 0 0).2.1, (f_Mo_throwing ar sc 0 0 0).2.2), rfl, hv, by dsimp only; rw [ht]; exact hP⟩, hS.F ht⟩) hS.2.2 d_Mo_question_77
          · have h := h.1 c60
            refine lv_iconst (v := 1) hx hb d_Mo_question_63 (by decide) ?_
            refine lv_goto (tgt := 68) hx hb d_Mo_question_64 (by decide) ?_
            refine lv_iload hx hb d_Mo_question_68 (lv_at hl 0 rfl) ?_
            refine lv_iconst (v := 0) hx hb d_Mo_question_70 (by decide) ?_
            refine r_Mo_throwing hF hK hP hL hS m_283 hl.1 ⟨Nat.le_of_ble_eq_true rfl, Nat.le_of_ble_eq_true rfl⟩ ⟨Nat.zero_le _, Nat.zero_le _⟩ (Nat.le_of_ble_eq_true rfl) d_Mo_question_71 (fun H locs hP hS => ?_)
            refine lv_if_eq (tgt := 78) hx hb d_Mo_question_74 (by decide) (fun c74 => ?_) (fun c74 => ?_)
            · have h := h.1 c74
              refine lv_aload_n hx hb d_Mo_question_78 rfl (lv_at hl 1 rfl) ?_
              refine gf_Mo_told hF hK hP m_233 d_Mo_question_79 ?_
              refine lv_iload_n hx hb d_Mo_question_82 rfl (lv_at hl 2 rfl) ?_
              refine lv_iconst (v := 1) hx hb d_Mo_question_83 (by decide) ?_
              have k84 := h.1
              have h := h.2
              refine asM_15 hF hK hP hL hS k84 d_Mo_question_84 (fun H locs hP hS => ?_)
              refine lv_aload_n hx hb d_Mo_question_85 rfl (lv_at hl 1 rfl) ?_
              refine gf_Mo_yes hF hK hP m_237 d_Mo_question_86 ?_
              refine lv_iload_n hx hb d_Mo_question_89 rfl (lv_at hl 2 rfl) ?_
              refine lv_iload_n hx hb d_Mo_question_90 rfl (lv_at hl 3 rfl) ?_
              have k91 := h.1
              have h := h.2
              refine asM_16 hF hK hP hL hS k91 d_Mo_question_91 (fun H locs hP hS => ?_)
              refine lv_aload_n hx hb d_Mo_question_92 rfl (lv_at hl 1 rfl) ?_
              refine gf_Mo_no hF hK hP m_235 d_Mo_question_93 ?_
              refine lv_iload_n hx hb d_Mo_question_96 rfl (lv_at hl 2 rfl) ?_
              refine lv_iload_n hx hb d_Mo_question_97 rfl (lv_at hl 4 rfl) ?_
              have k98 := h.1
              have h := h.2
              refine asM_17 hF hK hP hL hS k98 d_Mo_question_98 (fun H locs hP hS => ?_)
              refine lv_aload_n hx hb d_Mo_question_99 rfl (lv_at hl 1 rfl) ?_
              refine gf_Mo_bad hF hK hP m_234 d_Mo_question_100 ?_
              refine lv_iload_n hx hb d_Mo_question_103 rfl (lv_at hl 2 rfl) ?_
              refine lv_iload hx hb d_Mo_question_104 (lv_at hl 5 rfl) ?_
              have k106 := h
              refine asM_18 hF hK hP hL hS k106 d_Mo_question_106 (fun H locs hP hS => ?_)
              have hv : ((s2 (s2 (s2 (s2 ((f_Mo_throwing ar sc 1 0 0).2.1) 15 a0.toNatClampNeg (vp_nar .boolean 1)) 16 a0.toNatClampNeg a1) 17 a0.toNatClampNeg a2) 18 a0.toNatClampNeg a3, (f_Mo_throwing ar sc 1 0 0).2.2) : (Nat → Nat → Int32) × (Nat → Int32)) = f_Mo_question ar sc a0 a1 a2 a3 := by rw [f_Mo_question, if_neg c2, if_neg c14, if_pos c19, if_neg c42, if_pos c60, if_pos c74]
              exact W.vret hx hb hr (fun t ht hW => ⟨⟨(s2 (s2 (s2 (s2 ((f_Mo_throwing ar sc 1 0 0).2.1) 15 a0.toNatClampNeg (vp_nar .boolean 1)) 16 a0.toNatClampNeg a1) 17 a0.toNatClampNeg a2) 18 a0.toNatClampNeg a3, (f_Mo_throwing ar sc 1 0 0).2.2), rfl, hv, by dsimp only; rw [ht]; exact hP⟩, hS.F ht⟩) hS.2.2 d_Mo_question_107
            · have h := h.2 c74
              have hv : (((f_Mo_throwing ar sc 1 0 0).2.1, (f_Mo_throwing ar sc 1 0 0).2.2) : (Nat → Nat → Int32) × (Nat → Int32)) = f_Mo_question ar sc a0 a1 a2 a3 := by rw [f_Mo_question, if_neg c2, if_neg c14, if_pos c19, if_neg c42, if_pos c60, if_neg c74]
              exact W.vret hx hb hr (fun t ht hW => ⟨⟨((f_Mo_throwing ar sc 1 0 0).2.1, (f_Mo_throwing ar sc 1 0 0).2.2), rfl, hv, by dsimp only; rw [ht]; exact hP⟩, hS.F ht⟩) hS.2.2 d_Mo_question_77
        · have h := h.1 c42
          refine lv_iconst (v := 1) hx hb d_Mo_question_45 (by decide) ?_
          refine lv_goto (tgt := 50) hx hb d_Mo_question_46 (by decide) ?_
          refine lv_istore (lv' := [(5, .int 1), (0, .ref (L 0)), (1, .int a0), (2, .int a1), (3, .int a2), (4, .int a3)]) hx hb d_Mo_question_50 hl (by decide) rfl (fun ls hl => ?_)
          refine lv_aload_n hx hb d_Mo_question_52 rfl (lv_at hl 1 rfl) ?_
          refine lv_iload_n hx hb d_Mo_question_53 rfl (lv_at hl 2 rfl) ?_
          refine lv_iconst (v := 0) hx hb d_Mo_question_54 (by decide) ?_
          refine lv_bipush (v := 15) hx hb d_Mo_question_55 (by decide) ?_
          refine r_Mo_in hF m_195 hl.1 ⟨Nat.le_of_ble_eq_true rfl, Nat.le_of_ble_eq_true rfl⟩ ⟨Nat.zero_le _, Nat.zero_le _⟩ (Nat.le_of_ble_eq_true rfl) d_Mo_question_57 ?_
          refine lv_if_ne (tgt := 67) hx hb d_Mo_question_60 (by decide) (fun c60 => ?_) (fun c60 => ?_)
          · have h := h.2 c60
            refine lv_iconst (v := 0) hx hb d_Mo_question_67 (by decide) ?_
            refine lv_iload hx hb d_Mo_question_68 (lv_at hl 0 rfl) ?_
            refine lv_iconst (v := 0) hx hb d_Mo_question_70 (by decide) ?_
            refine r_Mo_throwing hF hK hP hL hS m_283 hl.1 ⟨Nat.le_of_ble_eq_true rfl, Nat.le_of_ble_eq_true rfl⟩ ⟨Nat.zero_le _, Nat.zero_le _⟩ (Nat.le_of_ble_eq_true rfl) d_Mo_question_71 (fun H locs hP hS => ?_)
            refine lv_if_eq (tgt := 78) hx hb d_Mo_question_74 (by decide) (fun c74 => ?_) (fun c74 => ?_)
            · have h := h.1 c74
              refine lv_aload_n hx hb d_Mo_question_78 rfl (lv_at hl 1 rfl) ?_
              refine gf_Mo_told hF hK hP m_233 d_Mo_question_79 ?_
              refine lv_iload_n hx hb d_Mo_question_82 rfl (lv_at hl 2 rfl) ?_
              refine lv_iconst (v := 1) hx hb d_Mo_question_83 (by decide) ?_
              have k84 := h.1
              have h := h.2
              refine asM_15 hF hK hP hL hS k84 d_Mo_question_84 (fun H locs hP hS => ?_)
              refine lv_aload_n hx hb d_Mo_question_85 rfl (lv_at hl 1 rfl) ?_
              refine gf_Mo_yes hF hK hP m_237 d_Mo_question_86 ?_
              refine lv_iload_n hx hb d_Mo_question_89 rfl (lv_at hl 2 rfl) ?_
              refine lv_iload_n hx hb d_Mo_question_90 rfl (lv_at hl 3 rfl) ?_
              have k91 := h.1
              have h := h.2
              refine asM_16 hF hK hP hL hS k91 d_Mo_question_91 (fun H locs hP hS => ?_)
              refine lv_aload_n hx hb d_Mo_question_92 rfl (lv_at hl 1 rfl) ?_
              refine gf_Mo_no hF hK hP m_235 d_Mo_question_93 ?_
              refine lv_iload_n hx hb d_Mo_question_96 rfl (lv_at hl 2 rfl) ?_
              refine lv_iload_n hx hb d_Mo_question_97 rfl (lv_at hl 4 rfl) ?_
              have k98 := h.1
              have h := h.2
              refine asM_17 hF hK hP hL hS k98 d_Mo_question_98 (fun H locs hP hS => ?_)
              refine lv_aload_n hx hb d_Mo_question_99 rfl (lv_at hl 1 rfl) ?_
              refine gf_Mo_bad hF hK hP m_234 d_Mo_question_100 ?_
              refine lv_iload_n hx hb d_Mo_question_103 rfl (lv_at hl 2 rfl) ?_
              refine lv_iload hx hb d_Mo_question_104 (lv_at hl 5 rfl) ?_
              have k106 := h
              refine asM_18 hF hK hP hL hS k106 d_Mo_question_106 (fun H locs hP hS => ?_)
              have hv : ((s2 (s2 (s2 (s2 ((f_Mo_throwing ar sc 0 1 0).2.1) 15 a0.toNatClampNeg (vp_nar .boolean 1)) 16 a0.toNatClampNeg a1) 17 a0.toNatClampNeg a2) 18 a0.toNatClampNeg a3, (f_Mo_throwing ar sc 0 1 0).2.2) : (Nat → Nat → Int32) × (Nat → Int32)) = f_Mo_question ar sc a0 a1 a2 a3 := by rw [f_Mo_question, if_neg c2, if_neg c14, if_pos c19, if_pos c42, if_neg c60, if_pos c74]
              exact W.vret hx hb hr (fun t ht hW => ⟨⟨(s2 (s2 (s2 (s2 ((f_Mo_throwing ar sc 0 1 0).2.1) 15 a0.toNatClampNeg (vp_nar .boolean 1)) 16 a0.toNatClampNeg a1) 17 a0.toNatClampNeg a2) 18 a0.toNatClampNeg a3, (f_Mo_throwing ar sc 0 1 0).2.2), rfl, hv, by dsimp only; rw [ht]; exact hP⟩, hS.F ht⟩) hS.2.2 d_Mo_question_107
            · have h := h.2 c74
              have hv : (((f_Mo_throwing ar sc 0 1 0).2.1, (f_Mo_throwing ar sc 0 1 0).2.2) : (Nat → Nat → Int32) × (Nat → Int32)) = f_Mo_question ar sc a0 a1 a2 a3 := by rw [f_Mo_question, if_neg c2, if_neg c14, if_pos c19, if_pos c42, if_neg c60, if_neg c74]
              exact W.vret hx hb hr (fun t ht hW => ⟨⟨((f_Mo_throwing ar sc 0 1 0).2.1, (f_Mo_throwing ar sc 0 1 0).2.2), rfl, hv, by dsimp only; rw [ht]; exact hP⟩, hS.F ht⟩) hS.2.2 d_Mo_question_77
          · have h := h.1 c60
            refine lv_iconst (v := 1) hx hb d_Mo_question_63 (by decide) ?_
            refine lv_goto (tgt := 68) hx hb d_Mo_question_64 (by decide) ?_
            refine lv_iload hx hb d_Mo_question_68 (lv_at hl 0 rfl) ?_
            refine lv_iconst (v := 0) hx hb d_Mo_question_70 (by decide) ?_
            refine r_Mo_throwing hF hK hP hL hS m_283 hl.1 ⟨Nat.le_of_ble_eq_true rfl, Nat.le_of_ble_eq_true rfl⟩ ⟨Nat.zero_le _, Nat.zero_le _⟩ (Nat.le_of_ble_eq_true rfl) d_Mo_question_71 (fun H locs hP hS => ?_)
            refine lv_if_eq (tgt := 78) hx hb d_Mo_question_74 (by decide) (fun c74 => ?_) (fun c74 => ?_)
            · have h := h.1 c74
              refine lv_aload_n hx hb d_Mo_question_78 rfl (lv_at hl 1 rfl) ?_
              refine gf_Mo_told hF hK hP m_233 d_Mo_question_79 ?_
              refine lv_iload_n hx hb d_Mo_question_82 rfl (lv_at hl 2 rfl) ?_
              refine lv_iconst (v := 1) hx hb d_Mo_question_83 (by decide) ?_
              have k84 := h.1
              have h := h.2
              refine asM_15 hF hK hP hL hS k84 d_Mo_question_84 (fun H locs hP hS => ?_)
              refine lv_aload_n hx hb d_Mo_question_85 rfl (lv_at hl 1 rfl) ?_
              refine gf_Mo_yes hF hK hP m_237 d_Mo_question_86 ?_
              refine lv_iload_n hx hb d_Mo_question_89 rfl (lv_at hl 2 rfl) ?_
              refine lv_iload_n hx hb d_Mo_question_90 rfl (lv_at hl 3 rfl) ?_
              have k91 := h.1
              have h := h.2
              refine asM_16 hF hK hP hL hS k91 d_Mo_question_91 (fun H locs hP hS => ?_)
              refine lv_aload_n hx hb d_Mo_question_92 rfl (lv_at hl 1 rfl) ?_
              refine gf_Mo_no hF hK hP m_235 d_Mo_question_93 ?_
              refine lv_iload_n hx hb d_Mo_question_96 rfl (lv_at hl 2 rfl) ?_
              refine lv_iload_n hx hb d_Mo_question_97 rfl (lv_at hl 4 rfl) ?_
              have k98 := h.1
              have h := h.2
              refine asM_17 hF hK hP hL hS k98 d_Mo_question_98 (fun H locs hP hS => ?_)
              refine lv_aload_n hx hb d_Mo_question_99 rfl (lv_at hl 1 rfl) ?_
              refine gf_Mo_bad hF hK hP m_234 d_Mo_question_100 ?_
              refine lv_iload_n hx hb d_Mo_question_103 rfl (lv_at hl 2 rfl) ?_
              refine lv_iload hx hb d_Mo_question_104 (lv_at hl 5 rfl) ?_
              have k106 := h
              refine asM_18 hF hK hP hL hS k106 d_Mo_question_106 (fun H locs hP hS => ?_)
              have hv : ((s2 (s2 (s2 (s2 ((f_Mo_throwing ar sc 1 1 0).2.1) 15 a0.toNatClampNeg (vp_nar .boolean 1)) 16 a0.toNatClampNeg a1) 17 a0.toNatClampNeg a2) 18 a0.toNatClampNeg a3, (f_Mo_throwing ar sc 1 1 0).2.2) : (Nat → Nat → Int32) × (Nat → Int32)) = f_Mo_question ar sc a0 a1 a2 a3 := by rw [f_Mo_question, if_neg c2, if_neg c14, if_pos c19, if_pos c42, if_pos c60, if_pos c74]
              exact W.vret hx hb hr (fun t ht hW => ⟨⟨(s2 (s2 (s2 (s2 ((f_Mo_throwing ar sc 1 1 0).2.1) 15 a0.toNatClampNeg (vp_nar .boolean 1)) 16 a0.toNatClampNeg a1) 17 a0.toNatClampNeg a2) 18 a0.toNatClampNeg a3, (f_Mo_throwing ar sc 1 1 0).2.2), rfl, hv, by dsimp only; rw [ht]; exact hP⟩, hS.F ht⟩) hS.2.2 d_Mo_question_107
            · have h := h.2 c74
              have hv : (((f_Mo_throwing ar sc 1 1 0).2.1, (f_Mo_throwing ar sc 1 1 0).2.2) : (Nat → Nat → Int32) × (Nat → Int32)) = f_Mo_question ar sc a0 a1 a2 a3 := by rw [f_Mo_question, if_neg c2, if_neg c14, if_pos c19, if_pos c42, if_pos c60, if_neg c74]
              exact W.vret hx hb hr (fun t ht hW => ⟨⟨((f_Mo_throwing ar sc 1 1 0).2.1, (f_Mo_throwing ar sc 1 1 0).2.2), rfl, hv, by dsimp only; rw [ht]; exact hP⟩, hS.F ht⟩) hS.2.2 d_Mo_question_77
      · have h := h.2 c19
        refine lv_iload_n hx hb d_Mo_question_22 rfl (lv_at hl 3 rfl) ?_
        refine lv_iload_n hx hb d_Mo_question_23 rfl (lv_at hl 1 rfl) ?_
        refine lv_iconst (v := 1) hx hb d_Mo_question_24 (by decide) ?_
        refine lv_iadd hx hb d_Mo_question_25 ?_
        refine lv_bipush (v := 15) hx hb d_Mo_question_26 (by decide) ?_
        refine r_Mo_in hF m_195 hl.1 ⟨Nat.le_of_ble_eq_true rfl, Nat.le_of_ble_eq_true rfl⟩ ⟨Nat.zero_le _, Nat.zero_le _⟩ (Nat.le_of_ble_eq_true rfl) d_Mo_question_28 ?_
        refine lv_if_eq (tgt := 45) hx hb d_Mo_question_31 (by decide) (fun c31 => ?_) (fun c31 => ?_)
        · have h := h.1 c31
          refine lv_iconst (v := 1) hx hb d_Mo_question_45 (by decide) ?_
          refine lv_goto (tgt := 50) hx hb d_Mo_question_46 (by decide) ?_
          refine lv_istore (lv' := [(5, .int 1), (0, .ref (L 0)), (1, .int a0), (2, .int a1), (3, .int a2), (4, .int a3)]) hx hb d_Mo_question_50 hl (by decide) rfl (fun ls hl => ?_)
          refine lv_aload_n hx hb d_Mo_question_52 rfl (lv_at hl 1 rfl) ?_
          refine lv_iload_n hx hb d_Mo_question_53 rfl (lv_at hl 2 rfl) ?_
          refine lv_iconst (v := 0) hx hb d_Mo_question_54 (by decide) ?_
          refine lv_bipush (v := 15) hx hb d_Mo_question_55 (by decide) ?_
          refine r_Mo_in hF m_195 hl.1 ⟨Nat.le_of_ble_eq_true rfl, Nat.le_of_ble_eq_true rfl⟩ ⟨Nat.zero_le _, Nat.zero_le _⟩ (Nat.le_of_ble_eq_true rfl) d_Mo_question_57 ?_
          refine lv_if_ne (tgt := 67) hx hb d_Mo_question_60 (by decide) (fun c60 => ?_) (fun c60 => ?_)
          · have h := h.2 c60
            refine lv_iconst (v := 0) hx hb d_Mo_question_67 (by decide) ?_
            refine lv_iload hx hb d_Mo_question_68 (lv_at hl 0 rfl) ?_
            refine lv_iconst (v := 0) hx hb d_Mo_question_70 (by decide) ?_
            refine r_Mo_throwing hF hK hP hL hS m_283 hl.1 ⟨Nat.le_of_ble_eq_true rfl, Nat.le_of_ble_eq_true rfl⟩ ⟨Nat.zero_le _, Nat.zero_le _⟩ (Nat.le_of_ble_eq_true rfl) d_Mo_question_71 (fun H locs hP hS => ?_)
            refine lv_if_eq (tgt := 78) hx hb d_Mo_question_74 (by decide) (fun c74 => ?_) (fun c74 => ?_)
            · have h := h.1 c74
              refine lv_aload_n hx hb d_Mo_question_78 rfl (lv_at hl 1 rfl) ?_
              refine gf_Mo_told hF hK hP m_233 d_Mo_question_79 ?_
              refine lv_iload_n hx hb d_Mo_question_82 rfl (lv_at hl 2 rfl) ?_
              refine lv_iconst (v := 1) hx hb d_Mo_question_83 (by decide) ?_
              have k84 := h.1
              have h := h.2
              refine asM_15 hF hK hP hL hS k84 d_Mo_question_84 (fun H locs hP hS => ?_)
              refine lv_aload_n hx hb d_Mo_question_85 rfl (lv_at hl 1 rfl) ?_
              refine gf_Mo_yes hF hK hP m_237 d_Mo_question_86 ?_
              refine lv_iload_n hx hb d_Mo_question_89 rfl (lv_at hl 2 rfl) ?_
              refine lv_iload_n hx hb d_Mo_question_90 rfl (lv_at hl 3 rfl) ?_
              have k91 := h.1
              have h := h.2
              refine asM_16 hF hK hP hL hS k91 d_Mo_question_91 (fun H locs hP hS => ?_)
              refine lv_aload_n hx hb d_Mo_question_92 rfl (lv_at hl 1 rfl) ?_
              refine gf_Mo_no hF hK hP m_235 d_Mo_question_93 ?_
              refine lv_iload_n hx hb d_Mo_question_96 rfl (lv_at hl 2 rfl) ?_
              refine lv_iload_n hx hb d_Mo_question_97 rfl (lv_at hl 4 rfl) ?_
              have k98 := h.1
              have h := h.2
              refine asM_17 hF hK hP hL hS k98 d_Mo_question_98 (fun H locs hP hS => ?_)
              refine lv_aload_n hx hb d_Mo_question_99 rfl (lv_at hl 1 rfl) ?_
              refine gf_Mo_bad hF hK hP m_234 d_Mo_question_100 ?_
              refine lv_iload_n hx hb d_Mo_question_103 rfl (lv_at hl 2 rfl) ?_
              refine lv_iload hx hb d_Mo_question_104 (lv_at hl 5 rfl) ?_
              have k106 := h
              refine asM_18 hF hK hP hL hS k106 d_Mo_question_106 (fun H locs hP hS => ?_)
              have hv : ((s2 (s2 (s2 (s2 ((f_Mo_throwing ar sc 0 1 0).2.1) 15 a0.toNatClampNeg (vp_nar .boolean 1)) 16 a0.toNatClampNeg a1) 17 a0.toNatClampNeg a2) 18 a0.toNatClampNeg a3, (f_Mo_throwing ar sc 0 1 0).2.2) : (Nat → Nat → Int32) × (Nat → Int32)) = f_Mo_question ar sc a0 a1 a2 a3 := by rw [f_Mo_question, if_neg c2, if_neg c14, if_neg c19, if_pos c31, if_neg c60, if_pos c74]
              exact W.vret hx hb hr (fun t ht hW => ⟨⟨(s2 (s2 (s2 (s2 ((f_Mo_throwing ar sc 0 1 0).2.1) 15 a0.toNatClampNeg (vp_nar .boolean 1)) 16 a0.toNatClampNeg a1) 17 a0.toNatClampNeg a2) 18 a0.toNatClampNeg a3, (f_Mo_throwing ar sc 0 1 0).2.2), rfl, hv, by dsimp only; rw [ht]; exact hP⟩, hS.F ht⟩) hS.2.2 d_Mo_question_107
            · have h := h.2 c74
              have hv : (((f_Mo_throwing ar sc 0 1 0).2.1, (f_Mo_throwing ar sc 0 1 0).2.2) : (Nat → Nat → Int32) × (Nat → Int32)) = f_Mo_question ar sc a0 a1 a2 a3 := by rw [f_Mo_question, if_neg c2, if_neg c14, if_neg c19, if_pos c31, if_neg c60, if_neg c74]
              exact W.vret hx hb hr (fun t ht hW => ⟨⟨((f_Mo_throwing ar sc 0 1 0).2.1, (f_Mo_throwing ar sc 0 1 0).2.2), rfl, hv, by dsimp only; rw [ht]; exact hP⟩, hS.F ht⟩) hS.2.2 d_Mo_question_77
          · have h := h.1 c60
            refine lv_iconst (v := 1) hx hb d_Mo_question_63 (by decide) ?_
            refine lv_goto (tgt := 68) hx hb d_Mo_question_64 (by decide) ?_
            refine lv_iload hx hb d_Mo_question_68 (lv_at hl 0 rfl) ?_
            refine lv_iconst (v := 0) hx hb d_Mo_question_70 (by decide) ?_
            refine r_Mo_throwing hF hK hP hL hS m_283 hl.1 ⟨Nat.le_of_ble_eq_true rfl, Nat.le_of_ble_eq_true rfl⟩ ⟨Nat.zero_le _, Nat.zero_le _⟩ (Nat.le_of_ble_eq_true rfl) d_Mo_question_71 (fun H locs hP hS => ?_)
            refine lv_if_eq (tgt := 78) hx hb d_Mo_question_74 (by decide) (fun c74 => ?_) (fun c74 => ?_)
            · have h := h.1 c74
              refine lv_aload_n hx hb d_Mo_question_78 rfl (lv_at hl 1 rfl) ?_
              refine gf_Mo_told hF hK hP m_233 d_Mo_question_79 ?_
              refine lv_iload_n hx hb d_Mo_question_82 rfl (lv_at hl 2 rfl) ?_
              refine lv_iconst (v := 1) hx hb d_Mo_question_83 (by decide) ?_
              have k84 := h.1
              have h := h.2
              refine asM_15 hF hK hP hL hS k84 d_Mo_question_84 (fun H locs hP hS => ?_)
              refine lv_aload_n hx hb d_Mo_question_85 rfl (lv_at hl 1 rfl) ?_
              refine gf_Mo_yes hF hK hP m_237 d_Mo_question_86 ?_
              refine lv_iload_n hx hb d_Mo_question_89 rfl (lv_at hl 2 rfl) ?_
              refine lv_iload_n hx hb d_Mo_question_90 rfl (lv_at hl 3 rfl) ?_
              have k91 := h.1
              have h := h.2
              refine asM_16 hF hK hP hL hS k91 d_Mo_question_91 (fun H locs hP hS => ?_)
              refine lv_aload_n hx hb d_Mo_question_92 rfl (lv_at hl 1 rfl) ?_
              refine gf_Mo_no hF hK hP m_235 d_Mo_question_93 ?_
              refine lv_iload_n hx hb d_Mo_question_96 rfl (lv_at hl 2 rfl) ?_
              refine lv_iload_n hx hb d_Mo_question_97 rfl (lv_at hl 4 rfl) ?_
              have k98 := h.1
              have h := h.2
              refine asM_17 hF hK hP hL hS k98 d_Mo_question_98 (fun H locs hP hS => ?_)
              refine lv_aload_n hx hb d_Mo_question_99 rfl (lv_at hl 1 rfl) ?_
              refine gf_Mo_bad hF hK hP m_234 d_Mo_question_100 ?_
              refine lv_iload_n hx hb d_Mo_question_103 rfl (lv_at hl 2 rfl) ?_
              refine lv_iload hx hb d_Mo_question_104 (lv_at hl 5 rfl) ?_
              have k106 := h
              refine asM_18 hF hK hP hL hS k106 d_Mo_question_106 (fun H locs hP hS => ?_)
              have hv : ((s2 (s2 (s2 (s2 ((f_Mo_throwing ar sc 1 1 0).2.1) 15 a0.toNatClampNeg (vp_nar .boolean 1)) 16 a0.toNatClampNeg a1) 17 a0.toNatClampNeg a2) 18 a0.toNatClampNeg a3, (f_Mo_throwing ar sc 1 1 0).2.2) : (Nat → Nat → Int32) × (Nat → Int32)) = f_Mo_question ar sc a0 a1 a2 a3 := by rw [f_Mo_question, if_neg c2, if_neg c14, if_neg c19, if_pos c31, if_pos c60, if_pos c74]
              exact W.vret hx hb hr (fun t ht hW => ⟨⟨(s2 (s2 (s2 (s2 ((f_Mo_throwing ar sc 1 1 0).2.1) 15 a0.toNatClampNeg (vp_nar .boolean 1)) 16 a0.toNatClampNeg a1) 17 a0.toNatClampNeg a2) 18 a0.toNatClampNeg a3, (f_Mo_throwing ar sc 1 1 0).2.2), rfl, hv, by dsimp only; rw [ht]; exact hP⟩, hS.F ht⟩) hS.2.2 d_Mo_question_107
            · have h := h.2 c74
              have hv : (((f_Mo_throwing ar sc 1 1 0).2.1, (f_Mo_throwing ar sc 1 1 0).2.2) : (Nat → Nat → Int32) × (Nat → Int32)) = f_Mo_question ar sc a0 a1 a2 a3 := by rw [f_Mo_question, if_neg c2, if_neg c14, if_neg c19, if_pos c31, if_pos c60, if_neg c74]
              exact W.vret hx hb hr (fun t ht hW => ⟨⟨((f_Mo_throwing ar sc 1 1 0).2.1, (f_Mo_throwing ar sc 1 1 0).2.2), rfl, hv, by dsimp only; rw [ht]; exact hP⟩, hS.F ht⟩) hS.2.2 d_Mo_question_77
        · have h := h.2 c31
          refine lv_iload hx hb d_Mo_question_34 (lv_at hl 4 rfl) ?_
          refine lv_iconst (v := 0) hx hb d_Mo_question_36 (by decide) ?_
          refine lv_bipush (v := 50) hx hb d_Mo_question_37 (by decide) ?_
          refine r_Mo_in hF m_195 hl.1 ⟨Nat.le_of_ble_eq_true rfl, Nat.le_of_ble_eq_true rfl⟩ ⟨Nat.zero_le _, Nat.zero_le _⟩ (Nat.le_of_ble_eq_true rfl) d_Mo_question_39 ?_
          refine lv_if_ne (tgt := 49) hx hb d_Mo_question_42 (by decide) (fun c42 => ?_) (fun c42 => ?_)
          · have h := h.2 c42
            refine lv_iconst (v := 0) hx hb d_Mo_question_49 (by decide) ?_
            refine lv_istore (lv' := [(5, .int 0), (0, .ref (L 0)), (1, .int a0), (2, .int a1), (3, .int a2), (4, .int a3)]) hx hb d_Mo_question_50 hl (by decide) rfl (fun ls hl => ?_)
            refine lv_aload_n hx hb d_Mo_question_52 rfl (lv_at hl 1 rfl) ?_
            refine lv_iload_n hx hb d_Mo_question_53 rfl (lv_at hl 2 rfl) ?_
            refine lv_iconst (v := 0) hx hb d_Mo_question_54 (by decide) ?_
            refine lv_bipush (v := 15) hx hb d_Mo_question_55 (by decide) ?_
            refine r_Mo_in hF m_195 hl.1 ⟨Nat.le_of_ble_eq_true rfl, Nat.le_of_ble_eq_true rfl⟩ ⟨Nat.zero_le _, Nat.zero_le _⟩ (Nat.le_of_ble_eq_true rfl) d_Mo_question_57 ?_
            refine lv_if_ne (tgt := 67) hx hb d_Mo_question_60 (by decide) (fun c60 => ?_) (fun c60 => ?_)
            · have h := h.2 c60
              refine lv_iconst (v := 0) hx hb d_Mo_question_67 (by decide) ?_
              refine lv_iload hx hb d_Mo_question_68 (lv_at hl 0 rfl) ?_
              refine lv_iconst (v := 0) hx hb d_Mo_question_70 (by decide) ?_
              refine r_Mo_throwing hF hK hP hL hS m_283 hl.1 ⟨Nat.le_of_ble_eq_true rfl, Nat.le_of_ble_eq_true rfl⟩ ⟨Nat.zero_le _, Nat.zero_le _⟩ (Nat.le_of_ble_eq_true rfl) d_Mo_question_71 (fun H locs hP hS => ?_)
              refine lv_if_eq (tgt := 78) hx hb d_Mo_question_74 (by decide) (fun c74 => ?_) (fun c74 => ?_)
              · have h := h.1 c74
                refine lv_aload_n hx hb d_Mo_question_78 rfl (lv_at hl 1 rfl) ?_
                refine gf_Mo_told hF hK hP m_233 d_Mo_question_79 ?_
                refine lv_iload_n hx hb d_Mo_question_82 rfl (lv_at hl 2 rfl) ?_
                refine lv_iconst (v := 1) hx hb d_Mo_question_83 (by decide) ?_
                have k84 := h.1
                have h := h.2
                refine asM_15 hF hK hP hL hS k84 d_Mo_question_84 (fun H locs hP hS => ?_)
                refine lv_aload_n hx hb d_Mo_question_85 rfl (lv_at hl 1 rfl) ?_
                refine gf_Mo_yes hF hK hP m_237 d_Mo_question_86 ?_
                refine lv_iload_n hx hb d_Mo_question_89 rfl (lv_at hl 2 rfl) ?_
                refine lv_iload_n hx hb d_Mo_question_90 rfl (lv_at hl 3 rfl) ?_
                have k91 := h.1
                have h := h.2
                refine asM_16 hF hK hP hL hS k91 d_Mo_question_91 (fun H locs hP hS => ?_)
                refine lv_aload_n hx hb d_Mo_question_92 rfl (lv_at hl 1 rfl) ?_
                refine gf_Mo_no hF hK hP m_235 d_Mo_question_93 ?_
                refine lv_iload_n hx hb d_Mo_question_96 rfl (lv_at hl 2 rfl) ?_
                refine lv_iload_n hx hb d_Mo_question_97 rfl (lv_at hl 4 rfl) ?_
                have k98 := h.1
                have h := h.2
                refine asM_17 hF hK hP hL hS k98 d_Mo_question_98 (fun H locs hP hS => ?_)
                refine lv_aload_n hx hb d_Mo_question_99 rfl (lv_at hl 1 rfl) ?_
                refine gf_Mo_bad hF hK hP m_234 d_Mo_question_100 ?_
                refine lv_iload_n hx hb d_Mo_question_103 rfl (lv_at hl 2 rfl) ?_
                refine lv_iload hx hb d_Mo_question_104 (lv_at hl 5 rfl) ?_
                have k106 := h
                refine asM_18 hF hK hP hL hS k106 d_Mo_question_106 (fun H locs hP hS => ?_)
                have hv : ((s2 (s2 (s2 (s2 ((f_Mo_throwing ar sc 0 0 0).2.1) 15 a0.toNatClampNeg (vp_nar .boolean 1)) 16 a0.toNatClampNeg a1) 17 a0.toNatClampNeg a2) 18 a0.toNatClampNeg a3, (f_Mo_throwing ar sc 0 0 0).2.2) : (Nat → Nat → Int32) × (Nat → Int32)) = f_Mo_question ar sc a0 a1 a2 a3 := by rw [f_Mo_question, if_neg c2, if_neg c14, if_neg c19, if_neg c31, if_neg c42, if_neg c60, if_pos c74]
                exact W.vret hx hb hr (fun t ht hW => ⟨⟨(s2 (s2 (s2 (s2 ((f_Mo_throwing ar sc 0 0 0).2.1) 15 a0.toNatClampNeg (vp_nar .boolean 1)) 16 a0.toNatClampNeg a1) 17 a0.toNatClampNeg a2) 18 a0.toNatClampNeg a3, (f_Mo_throwing ar sc 0 0 0).2.2), rfl, hv, by dsimp only; rw [ht]; exact hP⟩, hS.F ht⟩) hS.2.2 d_Mo_question_107
              · have h := h.2 c74
                have hv : (((f_Mo_throwing ar sc 0 0 0).2.1, (f_Mo_throwing ar sc 0 0 0).2.2) : (Nat → Nat → Int32) × (Nat → Int32)) = f_Mo_question ar sc a0 a1 a2 a3 := by rw [f_Mo_question, if_neg c2, if_neg c14, if_neg c19, if_neg c31, if_neg c42, if_neg c60, if_neg c74]
                exact W.vret hx hb hr (fun t ht hW => ⟨⟨((f_Mo_throwing ar sc 0 0 0).2.1, (f_Mo_throwing ar sc 0 0 0).2.2), rfl, hv, by dsimp only; rw [ht]; exact hP⟩, hS.F ht⟩) hS.2.2 d_Mo_question_77
            · have h := h.1 c60
              refine lv_iconst (v := 1) hx hb d_Mo_question_63 (by decide) ?_
              refine lv_goto (tgt := 68) hx hb d_Mo_question_64 (by decide) ?_
              refine lv_iload hx hb d_Mo_question_68 (lv_at hl 0 rfl) ?_
              refine lv_iconst (v := 0) hx hb d_Mo_question_70 (by decide) ?_
              refine r_Mo_throwing hF hK hP hL hS m_283 hl.1 ⟨Nat.le_of_ble_eq_true rfl, Nat.le_of_ble_eq_true rfl⟩ ⟨Nat.zero_le _, Nat.zero_le _⟩ (Nat.le_of_ble_eq_true rfl) d_Mo_question_71 (fun H locs hP hS => ?_)
              refine lv_if_eq (tgt := 78) hx hb d_Mo_question_74 (by decide) (fun c74 => ?_) (fun c74 => ?_)
              · have h := h.1 c74
                refine lv_aload_n hx hb d_Mo_question_78 rfl (lv_at hl 1 rfl) ?_
                refine gf_Mo_told hF hK hP m_233 d_Mo_question_79 ?_
                refine lv_iload_n hx hb d_Mo_question_82 rfl (lv_at hl 2 rfl) ?_
                refine lv_iconst (v := 1) hx hb d_Mo_question_83 (by decide) ?_
                have k84 := h.1
                have h := h.2
                refine asM_15 hF hK hP hL hS k84 d_Mo_question_84 (fun H locs hP hS => ?_)
                refine lv_aload_n hx hb d_Mo_question_85 rfl (lv_at hl 1 rfl) ?_
                refine gf_Mo_yes hF hK hP m_237 d_Mo_question_86 ?_
                refine lv_iload_n hx hb d_Mo_question_89 rfl (lv_at hl 2 rfl) ?_
                refine lv_iload_n hx hb d_Mo_question_90 rfl (lv_at hl 3 rfl) ?_
                have k91 := h.1
                have h := h.2
                refine asM_16 hF hK hP hL hS k91 d_Mo_question_91 (fun H locs hP hS => ?_)
                refine lv_aload_n hx hb d_Mo_question_92 rfl (lv_at hl 1 rfl) ?_
                refine gf_Mo_no hF hK hP m_235 d_Mo_question_93 ?_
                refine lv_iload_n hx hb d_Mo_question_96 rfl (lv_at hl 2 rfl) ?_
                refine lv_iload_n hx hb d_Mo_question_97 rfl (lv_at hl 4 rfl) ?_
                have k98 := h.1
                have h := h.2
                refine asM_17 hF hK hP hL hS k98 d_Mo_question_98 (fun H locs hP hS => ?_)
                refine lv_aload_n hx hb d_Mo_question_99 rfl (lv_at hl 1 rfl) ?_
                refine gf_Mo_bad hF hK hP m_234 d_Mo_question_100 ?_
                refine lv_iload_n hx hb d_Mo_question_103 rfl (lv_at hl 2 rfl) ?_
                refine lv_iload hx hb d_Mo_question_104 (lv_at hl 5 rfl) ?_
                have k106 := h
                refine asM_18 hF hK hP hL hS k106 d_Mo_question_106 (fun H locs hP hS => ?_)
                have hv : ((s2 (s2 (s2 (s2 ((f_Mo_throwing ar sc 1 0 0).2.1) 15 a0.toNatClampNeg (vp_nar .boolean 1)) 16 a0.toNatClampNeg a1) 17 a0.toNatClampNeg a2) 18 a0.toNatClampNeg a3, (f_Mo_throwing ar sc 1 0 0).2.2) : (Nat → Nat → Int32) × (Nat → Int32)) = f_Mo_question ar sc a0 a1 a2 a3 := by rw [f_Mo_question, if_neg c2, if_neg c14, if_neg c19, if_neg c31, if_neg c42, if_pos c60, if_pos c74]
                exact W.vret hx hb hr (fun t ht hW => ⟨⟨(s2 (s2 (s2 (s2 ((f_Mo_throwing ar sc 1 0 0).2.1) 15 a0.toNatClampNeg (vp_nar .boolean 1)) 16 a0.toNatClampNeg a1) 17 a0.toNatClampNeg a2) 18 a0.toNatClampNeg a3, (f_Mo_throwing ar sc 1 0 0).2.2), rfl, hv, by dsimp only; rw [ht]; exact hP⟩, hS.F ht⟩) hS.2.2 d_Mo_question_107
              · have h := h.2 c74
                have hv : (((f_Mo_throwing ar sc 1 0 0).2.1, (f_Mo_throwing ar sc 1 0 0).2.2) : (Nat → Nat → Int32) × (Nat → Int32)) = f_Mo_question ar sc a0 a1 a2 a3 := by rw [f_Mo_question, if_neg c2, if_neg c14, if_neg c19, if_neg c31, if_neg c42, if_pos c60, if_neg c74]
                exact W.vret hx hb hr (fun t ht hW => ⟨⟨((f_Mo_throwing ar sc 1 0 0).2.1, (f_Mo_throwing ar sc 1 0 0).2.2), rfl, hv, by dsimp only; rw [ht]; exact hP⟩, hS.F ht⟩) hS.2.2 d_Mo_question_77
          · have h := h.1 c42
            refine lv_iconst (v := 1) hx hb d_Mo_question_45 (by decide) ?_
            refine lv_goto (tgt := 50) hx hb d_Mo_question_46 (by decide) ?_
            refine lv_istore (lv' := [(5, .int 1), (0, .ref (L 0)), (1, .int a0), (2, .int a1), (3, .int a2), (4, .int a3)]) hx hb d_Mo_question_50 hl (by decide) rfl (fun ls hl => ?_)
            refine lv_aload_n hx hb d_Mo_question_52 rfl (lv_at hl 1 rfl) ?_
            refine lv_iload_n hx hb d_Mo_question_53 rfl (lv_at hl 2 rfl) ?_
            refine lv_iconst (v := 0) hx hb d_Mo_question_54 (by decide) ?_
            refine lv_bipush (v := 15) hx hb d_Mo_question_55 (by decide) ?_
            refine r_Mo_in hF m_195 hl.1 ⟨Nat.le_of_ble_eq_true rfl, Nat.le_of_ble_eq_true rfl⟩ ⟨Nat.zero_le _, Nat.zero_le _⟩ (Nat.le_of_ble_eq_true rfl) d_Mo_question_57 ?_
            refine lv_if_ne (tgt := 67) hx hb d_Mo_question_60 (by decide) (fun c60 => ?_) (fun c60 => ?_)
            · have h := h.2 c60
              refine lv_iconst (v := 0) hx hb d_Mo_question_67 (by decide) ?_
              refine lv_iload hx hb d_Mo_question_68 (lv_at hl 0 rfl) ?_
              refine lv_iconst (v := 0) hx hb d_Mo_question_70 (by decide) ?_
              refine r_Mo_throwing hF hK hP hL hS m_283 hl.1 ⟨Nat.le_of_ble_eq_true rfl, Nat.le_of_ble_eq_true rfl⟩ ⟨Nat.zero_le _, Nat.zero_le _⟩ (Nat.le_of_ble_eq_true rfl) d_Mo_question_71 (fun H locs hP hS => ?_)
              refine lv_if_eq (tgt := 78) hx hb d_Mo_question_74 (by decide) (fun c74 => ?_) (fun c74 => ?_)
              · have h := h.1 c74
                refine lv_aload_n hx hb d_Mo_question_78 rfl (lv_at hl 1 rfl) ?_
                refine gf_Mo_told hF hK hP m_233 d_Mo_question_79 ?_
                refine lv_iload_n hx hb d_Mo_question_82 rfl (lv_at hl 2 rfl) ?_
                refine lv_iconst (v := 1) hx hb d_Mo_question_83 (by decide) ?_
                have k84 := h.1
                have h := h.2
                refine asM_15 hF hK hP hL hS k84 d_Mo_question_84 (fun H locs hP hS => ?_)
                refine lv_aload_n hx hb d_Mo_question_85 rfl (lv_at hl 1 rfl) ?_
                refine gf_Mo_yes hF hK hP m_237 d_Mo_question_86 ?_
                refine lv_iload_n hx hb d_Mo_question_89 rfl (lv_at hl 2 rfl) ?_
                refine lv_iload_n hx hb d_Mo_question_90 rfl (lv_at hl 3 rfl) ?_
                have k91 := h.1
                have h := h.2
                refine asM_16 hF hK hP hL hS k91 d_Mo_question_91 (fun H locs hP hS => ?_)
                refine lv_aload_n hx hb d_Mo_question_92 rfl (lv_at hl 1 rfl) ?_
                refine gf_Mo_no hF hK hP m_235 d_Mo_question_93 ?_
                refine lv_iload_n hx hb d_Mo_question_96 rfl (lv_at hl 2 rfl) ?_
                refine lv_iload_n hx hb d_Mo_question_97 rfl (lv_at hl 4 rfl) ?_
                have k98 := h.1
                have h := h.2
                refine asM_17 hF hK hP hL hS k98 d_Mo_question_98 (fun H locs hP hS => ?_)
                refine lv_aload_n hx hb d_Mo_question_99 rfl (lv_at hl 1 rfl) ?_
                refine gf_Mo_bad hF hK hP m_234 d_Mo_question_100 ?_
                refine lv_iload_n hx hb d_Mo_question_103 rfl (lv_at hl 2 rfl) ?_
                refine lv_iload hx hb d_Mo_question_104 (lv_at hl 5 rfl) ?_
                have k106 := h
                refine asM_18 hF hK hP hL hS k106 d_Mo_question_106 (fun H locs hP hS => ?_)
                have hv : ((s2 (s2 (s2 (s2 ((f_Mo_throwing ar sc 0 1 0).2.1) 15 a0.toNatClampNeg (vp_nar .boolean 1)) 16 a0.toNatClampNeg a1) 17 a0.toNatClampNeg a2) 18 a0.toNatClampNeg a3, (f_Mo_throwing ar sc 0 1 0).2.2) : (Nat → Nat → Int32) × (Nat → Int32)) = f_Mo_question ar sc a0 a1 a2 a3 := by rw [f_Mo_question, if_neg c2, if_neg c14, if_neg c19, if_neg c31, if_pos c42, if_neg c60, if_pos c74]
                exact W.vret hx hb hr (fun t ht hW => ⟨⟨(s2 (s2 (s2 (s2 ((f_Mo_throwing ar sc 0 1 0).2.1) 15 a0.toNatClampNeg (vp_nar .boolean 1)) 16 a0.toNatClampNeg a1) 17 a0.toNatClampNeg a2) 18 a0.toNatClampNeg a3, (f_Mo_throwing ar sc 0 1 0).2.2), rfl, hv, by dsimp only; rw [ht]; exact hP⟩, hS.F ht⟩) hS.2.2 d_Mo_question_107
              · have h := h.2 c74
                have hv : (((f_Mo_throwing ar sc 0 1 0).2.1, (f_Mo_throwing ar sc 0 1 0).2.2) : (Nat → Nat → Int32) × (Nat → Int32)) = f_Mo_question ar sc a0 a1 a2 a3 := by rw [f_Mo_question, if_neg c2, if_neg c14, if_neg c19, if_neg c31, if_pos c42, if_neg c60, if_neg c74]
                exact W.vret hx hb hr (fun t ht hW => ⟨⟨((f_Mo_throwing ar sc 0 1 0).2.1, (f_Mo_throwing ar sc 0 1 0).2.2), rfl, hv, by dsimp only; rw [ht]; exact hP⟩, hS.F ht⟩) hS.2.2 d_Mo_question_77
            · have h := h.1 c60
              refine lv_iconst (v := 1) hx hb d_Mo_question_63 (by decide) ?_
              refine lv_goto (tgt := 68) hx hb d_Mo_question_64 (by decide) ?_
              refine lv_iload hx hb d_Mo_question_68 (lv_at hl 0 rfl) ?_
              refine lv_iconst (v := 0) hx hb d_Mo_question_70 (by decide) ?_
              refine r_Mo_throwing hF hK hP hL hS m_283 hl.1 ⟨Nat.le_of_ble_eq_true rfl, Nat.le_of_ble_eq_true rfl⟩ ⟨Nat.zero_le _, Nat.zero_le _⟩ (Nat.le_of_ble_eq_true rfl) d_Mo_question_71 (fun H locs hP hS => ?_)
              refine lv_if_eq (tgt := 78) hx hb d_Mo_question_74 (by decide) (fun c74 => ?_) (fun c74 => ?_)
              · have h := h.1 c74
                refine lv_aload_n hx hb d_Mo_question_78 rfl (lv_at hl 1 rfl) ?_
                refine gf_Mo_told hF hK hP m_233 d_Mo_question_79 ?_
                refine lv_iload_n hx hb d_Mo_question_82 rfl (lv_at hl 2 rfl) ?_
                refine lv_iconst (v := 1) hx hb d_Mo_question_83 (by decide) ?_
                have k84 := h.1
                have h := h.2
                refine asM_15 hF hK hP hL hS k84 d_Mo_question_84 (fun H locs hP hS => ?_)
                refine lv_aload_n hx hb d_Mo_question_85 rfl (lv_at hl 1 rfl) ?_
                refine gf_Mo_yes hF hK hP m_237 d_Mo_question_86 ?_
                refine lv_iload_n hx hb d_Mo_question_89 rfl (lv_at hl 2 rfl) ?_
                refine lv_iload_n hx hb d_Mo_question_90 rfl (lv_at hl 3 rfl) ?_
                have k91 := h.1
                have h := h.2
                refine asM_16 hF hK hP hL hS k91 d_Mo_question_91 (fun H locs hP hS => ?_)
                refine lv_aload_n hx hb d_Mo_question_92 rfl (lv_at hl 1 rfl) ?_
                refine gf_Mo_no hF hK hP m_235 d_Mo_question_93 ?_
                refine lv_iload_n hx hb d_Mo_question_96 rfl (lv_at hl 2 rfl) ?_
                refine lv_iload_n hx hb d_Mo_question_97 rfl (lv_at hl 4 rfl) ?_
                have k98 := h.1
                have h := h.2
                refine asM_17 hF hK hP hL hS k98 d_Mo_question_98 (fun H locs hP hS => ?_)
                refine lv_aload_n hx hb d_Mo_question_99 rfl (lv_at hl 1 rfl) ?_
                refine gf_Mo_bad hF hK hP m_234 d_Mo_question_100 ?_
                refine lv_iload_n hx hb d_Mo_question_103 rfl (lv_at hl 2 rfl) ?_
                refine lv_iload hx hb d_Mo_question_104 (lv_at hl 5 rfl) ?_
                have k106 := h
                refine asM_18 hF hK hP hL hS k106 d_Mo_question_106 (fun H locs hP hS => ?_)
                have hv : ((s2 (s2 (s2 (s2 ((f_Mo_throwing ar sc 1 1 0).2.1) 15 a0.toNatClampNeg (vp_nar .boolean 1)) 16 a0.toNatClampNeg a1) 17 a0.toNatClampNeg a2) 18 a0.toNatClampNeg a3, (f_Mo_throwing ar sc 1 1 0).2.2) : (Nat → Nat → Int32) × (Nat → Int32)) = f_Mo_question ar sc a0 a1 a2 a3 := by rw [f_Mo_question, if_neg c2, if_neg c14, if_neg c19, if_neg c31, if_pos c42, if_pos c60, if_pos c74]
                exact W.vret hx hb hr (fun t ht hW => ⟨⟨(s2 (s2 (s2 (s2 ((f_Mo_throwing ar sc 1 1 0).2.1) 15 a0.toNatClampNeg (vp_nar .boolean 1)) 16 a0.toNatClampNeg a1) 17 a0.toNatClampNeg a2) 18 a0.toNatClampNeg a3, (f_Mo_throwing ar sc 1 1 0).2.2), rfl, hv, by dsimp only; rw [ht]; exact hP⟩, hS.F ht⟩) hS.2.2 d_Mo_question_107
              · have h := h.2 c74
                have hv : (((f_Mo_throwing ar sc 1 1 0).2.1, (f_Mo_throwing ar sc 1 1 0).2.2) : (Nat → Nat → Int32) × (Nat → Int32)) = f_Mo_question ar sc a0 a1 a2 a3 := by rw [f_Mo_question, if_neg c2, if_neg c14, if_neg c19, if_neg c31, if_pos c42, if_pos c60, if_neg c74]
                exact W.vret hx hb hr (fun t ht hW => ⟨⟨((f_Mo_throwing ar sc 1 1 0).2.1, (f_Mo_throwing ar sc 1 1 0).2.2), rfl, hv, by dsimp only; rw [ht]; exact hP⟩, hS.F ht⟩) hS.2.2 d_Mo_question_77
set_option maxHeartbeats 1000000 in
theorem r_Mo_question {p : Program} {l : Launch} {e : Env} {R : Room} {s : State} {m : MethodId} {args : Array Value} {below : List Frame} {meth : Method} {c : Code} {H : Heap} {locs : List Loc} {cells slots : Nat} {Q : State → Prop} {cc : ByteArray} {nL pc idx : Nat} {ls : Array Slot} {rest : List Value} {own : String} {dC : Nat → ClassId} {dI : Nat → Nat → Nat} {L : Nat → Nat} {cA : Nat → ClassId} {ar : Nat → Nat → Int32} {sc : Nat → Int32} {H0 : Heap} {a0 : Int32} {a1 : Int32} {a2 : Int32} {a3 : Int32} (hF : CallFix p m c cc nL s args w_all own) (hK : kW_M dC dI cA s) (hP : va_P (dC, dI) classes (wM L cA ar sc) H) (hL : ij 25 L) (hS : va_S (aM L) H0 H locs) (h : p_Mo_question ar sc a0 a1 a2 a3) (hlk : Cond.methodLink own idx y_Mo_question ∈ w_all) (hsz : ls.size = nL) (hR : (rmD 5).frames + 1 ≤ R.frames ∧ 8 + (6 + 11) + (rmD 5).locals ≤ R.locals) (hc : cells ≤ R.cells ∧ slots ≤ R.slots) (hrs : (rest.map fun v => v.category).sum ≤ 8) (hdg : decode cc pc = .ok (.invokevirtual idx, 3)) (kk : ∀ (H1 : Heap) (locs1 : List Loc), va_P (dC, dI) classes (wM L cA ((f_Mo_question ar sc a0 a1 a2 a3).1) ((f_Mo_question ar sc a0 a1 a2 a3).2)) H1 → va_S (aM L) H0 H1 locs1 → W p l e R s m args below meth c H1 locs1 cells slots Q (F0 m (pc + 3) ls (rest))) : W p l e R s m args below meth c H locs cells slots Q (F0 m pc ls (.int a3 :: .int a2 :: .int a1 :: .int a0 :: .ref (L 0) :: rest)) :=
  va_callv (va_runV (As := [.int a0, .int a1, .int a2, .int a3]) (rest := rest) hF (c_Mo_question l dC dI L cA ar sc a0 a1 a2 a3 hL h) (cwV 4 hF.2.2.2.2 (gV hlk m_323 m_324 m_187 m_325) rfl rfl rfl (by decide +kernel) hR) ⟨xb_M, va_recv hK.1 hP (ci := 7) (q0 := 0) rfl rfl, fun U hU hW => ⟨rfl, by rw [hU]; exact hP, kW_M_warm hW hK⟩⟩ rfl rfl hsz rfl (lv_room hrs) hdg hc) hS (fun q _ h9 => h9) (fun q h9 => h9) (fun u t H1 locs1 ht hvm hw hB hz1 hk1 hS1 => by
    have hk9 := kk H1 locs1 (by rw [← hw, ← ht]; exact hB) hS1
    exact hk9)
theorem d_Mo_list_0 : decode b_Mo_list 0 = .ok (.aload_n 0, 1) := by decide +kernel
theorem d_Mo_list_1 : decode b_Mo_list 1 = .ok (.iload_n 1, 1) := by decide +kernel
theorem d_Mo_list_2 : decode b_Mo_list 2 = .ok (.iload_n 2, 1) := by decide +kernel
theorem d_Mo_list_3 : decode b_Mo_list 3 = .ok (.iconst 0, 1) := by decide +kernel
theorem d_Mo_list_4 : decode b_Mo_list 4 = .ok (.iconst 0, 1) := by decide +kernel
theorem d_Mo_list_5 : decode b_Mo_list 5 = .ok (.invokevirtual 141, 3) := by decide +kernel
theorem d_Mo_list_8 : decode b_Mo_list 8 = .ok (.istore_n 3, 1) := by decide +kernel
theorem d_Mo_list_9 : decode b_Mo_list 9 = .ok (.aload_n 0, 1) := by decide +kernel
theorem d_Mo_list_10 : decode b_Mo_list 10 = .ok (.aload_n 0, 1) := by decide +kernel
theorem d_Mo_list_11 : decode b_Mo_list 11 = .ok (.iload_n 1, 1) := by decide +kernel
theorem d_Mo_list_12 : decode b_Mo_list 12 = .ok (.invokevirtual 113, 3) := by decide +kernel
theorem d_Mo_list_15 : decode b_Mo_list 15 = .ok (.ifCond .ne 7, 3) := by decide +kernel
theorem d_Mo_list_18 : decode b_Mo_list 18 = .ok (.iconst 1, 1) := by decide +kernel
theorem d_Mo_list_19 : decode b_Mo_list 19 = .ok (.goto 4, 3) := by decide +kernel
theorem d_Mo_list_22 : decode b_Mo_list 22 = .ok (.iconst 0, 1) := by decide +kernel
theorem d_Mo_list_23 : decode b_Mo_list 23 = .ok (.iload_n 3, 1) := by decide +kernel
theorem d_Mo_list_24 : decode b_Mo_list 24 = .ok (.ifCond .ge 7, 3) := by decide +kernel
theorem d_Mo_list_27 : decode b_Mo_list 27 = .ok (.iconst 1, 1) := by decide +kernel
theorem d_Mo_list_28 : decode b_Mo_list 28 = .ok (.goto 4, 3) := by decide +kernel
theorem d_Mo_list_31 : decode b_Mo_list 31 = .ok (.iconst 0, 1) := by decide +kernel
theorem d_Mo_list_32 : decode b_Mo_list 32 = .ok (.aload_n 0, 1) := by decide +kernel
theorem d_Mo_list_33 : decode b_Mo_list 33 = .ok (.getfield 117, 3) := by decide +kernel
theorem d_Mo_list_36 : decode b_Mo_list 36 = .ok (.iload_n 3, 1) := by decide +kernel
theorem d_Mo_list_37 : decode b_Mo_list 37 = .ok (.iadd, 1) := by decide +kernel
theorem d_Mo_list_38 : decode b_Mo_list 38 = .ok (.bipush 100, 2) := by decide +kernel
theorem d_Mo_list_40 : decode b_Mo_list 40 = .ok (.if_icmp .le 7, 3) := by decide +kernel
theorem d_Mo_list_43 : decode b_Mo_list 43 = .ok (.iconst 1, 1) := by decide +kernel
theorem d_Mo_list_44 : decode b_Mo_list 44 = .ok (.goto 4, 3) := by decide +kernel
theorem d_Mo_list_47 : decode b_Mo_list 47 = .ok (.iconst 0, 1) := by decide +kernel
theorem d_Mo_list_48 : decode b_Mo_list 48 = .ok (.invokevirtual 104, 3) := by decide +kernel
theorem d_Mo_list_51 : decode b_Mo_list 51 = .ok (.ifCond .eq 5, 3) := by decide +kernel
theorem d_Mo_list_54 : decode b_Mo_list 54 = .ok (.iconst 0, 1) := by decide +kernel
theorem d_Mo_list_55 : decode b_Mo_list 55 = .ok (.ireturn, 1) := by decide +kernel
theorem d_Mo_list_56 : decode b_Mo_list 56 = .ok (.aload_n 0, 1) := by decide +kernel
theorem d_Mo_list_57 : decode b_Mo_list 57 = .ok (.iload_n 1, 1) := by decide +kernel
theorem d_Mo_list_58 : decode b_Mo_list 58 = .ok (.iload_n 2, 1) := by decide +kernel
theorem d_Mo_list_59 : decode b_Mo_list 59 = .ok (.iconst 1, 1) := by decide +kernel
theorem d_Mo_list_60 : decode b_Mo_list 60 = .ok (.aload_n 0, 1) := by decide +kernel
theorem d_Mo_list_61 : decode b_Mo_list 61 = .ok (.getfield 109, 3) := by decide +kernel
theorem d_Mo_list_64 : decode b_Mo_list 64 = .ok (.aload_n 0, 1) := by decide +kernel
theorem d_Mo_list_65 : decode b_Mo_list 65 = .ok (.getfield 19, 3) := by decide +kernel
theorem d_Mo_list_68 : decode b_Mo_list 68 = .ok (.aload_n 0, 1) := by decide +kernel
theorem d_Mo_list_69 : decode b_Mo_list 69 = .ok (.iload_n 1, 1) := by decide +kernel
theorem d_Mo_list_70 : decode b_Mo_list 70 = .ok (.invokevirtual 127, 3) := by decide +kernel
theorem d_Mo_list_73 : decode b_Mo_list 73 = .ok (.iaload, 1) := by decide +kernel
theorem d_Mo_list_74 : decode b_Mo_list 74 = .ok (.iadd, 1) := by decide +kernel
theorem d_Mo_list_75 : decode b_Mo_list 75 = .ok (.invokevirtual 141, 3) := by decide +kernel
theorem d_Mo_list_78 : decode b_Mo_list 78 = .ok (.ireturn, 1) := by decide +kernel
set_option maxHeartbeats 4000000 in
set_option maxRecDepth 100000 in
theorem c_Mo_list (l : Launch) (dC : Nat → ClassId) (dI : Nat → Nat → Nat) (L : Nat → Nat) (cA : Nat → ClassId) (ar : Nat → Nat → Int32) (sc : Nat → Int32) (a0 : Int32) (a1 : Int32) (hL : ij 25 L) (h : p_Mo_list ar sc a0 a1) : Met l y_Mo_list z_Mo_list (rmD 5) (va_Pc [.ref (L 0), .int a0, .int a1] (fun U => xw_M dC dI L cA ar sc U)) (va_Qi (fun (r : Int32) (u : oS) => (r, u.1, u.2) = f_Mo_list ar sc a0 a1) (fun u t => va_P (dC, dI) classes (wM L cA u.1 u.2) t.heap) (aM L)) 0 0 (aM L) := by
  refine Met.ofW (cc := b_Mo_list) (maxL := 4) (ret := (some .int)) (by decide) rfl ?_
  intro p e s m args below meth c s₁ B hml hv
  obtain ⟨rfl, ⟨hP, hK⟩⟩ := hv
  have hx := B.exec
  have hb := B.bytes
  have hr := B.returns
  have hts : ∀ w ∈ w_all, w.before _ s = true := fun w hw => atoms_spec (ws := z_Mo_list) B.pre w (List.mem_cons_of_mem _ hw)
  have hown : s.vm.findClass R_Mo = some m.cls := findClass_of_methodNamed B.named
  have hlocks := B.notSynchronized
  have hF : CallFix p m c b_Mo_list 4 s _ w_all R_Mo := ⟨hx, hb, hml, hown, hts⟩
  have hS : va_S (aM L) s.heap s.heap [] := va_S.rf
  have hl := lv_entry ([.ref (L 0), .int a0, .int a1]) (n := 4) (Nat.le_of_ble_eq_true rfl)
  rw [lg_entry_eq]
  generalize (lg_sl ([.ref (L 0), .int a0, .int a1]) ++ List.replicate (4 - (lg_sl ([.ref (L 0), .int a0, .int a1])).length) Slot.unset).toArray = ls at hl ⊢
  have hl : lv_has ls 4 [(0, .ref (L 0)), (1, .int a0), (2, .int a1)] := hl
  unfold p_Mo_list at h
  refine lv_aload_n hx hb d_Mo_list_0 rfl (lv_at hl 0 rfl) ?_
  refine lv_iload_n hx hb d_Mo_list_1 rfl (lv_at hl 1 rfl) ?_
  refine lv_iload_n hx hb d_Mo_list_2 rfl (lv_at hl 2 rfl) ?_
  refine lv_iconst (v := 0) hx hb d_Mo_list_3 (by decide) ?_
  refine lv_iconst (v := 0) hx hb d_Mo_list_4 (by decide) ?_
  have k5 := h.1
  have h := h.2
  refine r_Mo_go hF hK hP hL hS k5 m_326 hl.1 ⟨Nat.le_of_ble_eq_true rfl, Nat.le_of_ble_eq_true rfl⟩ ⟨Nat.zero_le _, Nat.zero_le _⟩ (Nat.le_of_ble_eq_true rfl) d_Mo_list_5 (fun H locs hP hS => ?_)
  refine lv_istore_n (lv' := [(3, .int ((f_Mo_go ar sc a0 a1 0 0).1)), (0, .ref (L 0)), (1, .int a0), (2, .int a1)]) hx hb d_Mo_list_8 rfl hl (by decide) rfl (fun ls hl => ?_)
  refine lv_aload_n hx hb d_Mo_list_9 rfl (lv_at hl 1 rfl) ?_
  refine lv_aload_n hx hb d_Mo_list_10 rfl (lv_at hl 1 rfl) ?_
  refine lv_iload_n hx hb d_Mo_list_11 rfl (lv_at hl 2 rfl) ?_
  refine r_Mo_isPoint hF hK hP m_302 hl.1 ⟨Nat.le_of_ble_eq_true rfl, Nat.le_of_ble_eq_true rfl⟩ ⟨Nat.zero_le _, Nat.zero_le _⟩ (Nat.le_of_ble_eq_true rfl) d_Mo_list_12 ?_
  refine lv_if_ne (tgt := 22) hx hb d_Mo_list_15 (by decide) (fun c15 => ?_) (fun c15 => ?_)
  · have h := h.2 c15
    refine lv_iconst (v := 0) hx hb d_Mo_list_22 (by decide) ?_
    refine lv_iload_n hx hb d_Mo_list_23 rfl (lv_at hl 0 rfl) ?_
    refine lv_if_ge (tgt := 31) hx hb d_Mo_list_24 (by decide) (fun c24 => ?_) (fun c24 => ?_)
    · have h := h.1 c24
      refine lv_iconst (v := 0) hx hb d_Mo_list_31 (by decide) ?_
      refine lv_aload_n hx hb d_Mo_list_32 rfl (lv_at hl 1 rfl) ?_
      refine gf_Mo_findings hF hK hP m_205 d_Mo_list_33 ?_
      refine lv_iload_n hx hb d_Mo_list_36 rfl (lv_at hl 0 rfl) ?_
      refine lv_iadd hx hb d_Mo_list_37 ?_
      refine lv_bipush (v := 100) hx hb d_Mo_list_38 (by decide) ?_
      refine lv_icmp_le (tgt := 47) hx hb d_Mo_list_40 (by decide) (fun c40 => ?_) (fun c40 => ?_)
      · have h := h.1 c40
        refine lv_iconst (v := 0) hx hb d_Mo_list_47 (by decide) ?_
        refine r_Mo_throwing hF hK hP hL hS m_283 hl.1 ⟨Nat.le_of_ble_eq_true rfl, Nat.le_of_ble_eq_true rfl⟩ ⟨Nat.zero_le _, Nat.zero_le _⟩ (Nat.le_of_ble_eq_true rfl) d_Mo_list_48 (fun H locs hP hS => ?_)
        refine lv_if_eq (tgt := 56) hx hb d_Mo_list_51 (by decide) (fun c51 => ?_) (fun c51 => ?_)
        · have h := h.1 c51
          refine lv_aload_n hx hb d_Mo_list_56 rfl (lv_at hl 1 rfl) ?_
          refine lv_iload_n hx hb d_Mo_list_57 rfl (lv_at hl 2 rfl) ?_
          refine lv_iload_n hx hb d_Mo_list_58 rfl (lv_at hl 3 rfl) ?_
          refine lv_iconst (v := 1) hx hb d_Mo_list_59 (by decide) ?_
          refine lv_aload_n hx hb d_Mo_list_60 rfl (lv_at hl 1 rfl) ?_
          refine gf_Mo_day hF hK hP m_200 d_Mo_list_61 ?_
          refine lv_aload_n hx hb d_Mo_list_64 rfl (lv_at hl 1 rfl) ?_
          refine gf_Mo_time hF hK hP m_291 d_Mo_list_65 ?_
          refine lv_aload_n hx hb d_Mo_list_68 rfl (lv_at hl 1 rfl) ?_
          refine lv_iload_n hx hb d_Mo_list_69 rfl (lv_at hl 2 rfl) ?_
          have k70 := h.1
          have h := h.2
          refine r_Mo_classOf hF hK hP k70 m_226 hl.1 ⟨Nat.le_of_ble_eq_true rfl, Nat.le_of_ble_eq_true rfl⟩ ⟨Nat.zero_le _, Nat.zero_le _⟩ (Nat.le_of_ble_eq_true rfl) d_Mo_list_70 ?_
          have k73 := h.1
          have h := h.2
          refine alM_4 hF hK hP k73 d_Mo_list_73 ?_
          refine lv_iadd hx hb d_Mo_list_74 ?_
          have k75 := h
          refine r_Mo_go hF hK hP hL hS k75 m_326 hl.1 ⟨Nat.le_of_ble_eq_true rfl, Nat.le_of_ble_eq_true rfl⟩ ⟨Nat.zero_le _, Nat.zero_le _⟩ (Nat.le_of_ble_eq_true rfl) d_Mo_list_75 (fun H locs hP hS => ?_)
          have hv : (((f_Mo_go ((f_Mo_throwing ((f_Mo_go ar sc a0 a1 0 0).2.1) ((f_Mo_go ar sc a0 a1 0 0).2.2) 0 0 0).2.1) ((f_Mo_throwing ((f_Mo_go ar sc a0 a1 0 0).2.1) ((f_Mo_go ar sc a0 a1 0 0).2.2) 0 0 0).2.2) a0 a1 1 ((((f_Mo_throwing ((f_Mo_go ar sc a0 a1 0 0).2.1) ((f_Mo_go ar sc a0 a1 0 0).2.2) 0 0 0).2.2) 1) + (((f_Mo_throwing ((f_Mo_go ar sc a0 a1 0 0).2.1) ((f_Mo_go ar sc a0 a1 0 0).2.2) 0 0 0).2.1) 4 ((f_Mo_classOf ((f_Mo_throwing ((f_Mo_go ar sc a0 a1 0 0).2.1) ((f_Mo_go ar sc a0 a1 0 0).2.2) 0 0 0).2.1) ((f_Mo_throwing ((f_Mo_go ar sc a0 a1 0 0).2.1) ((f_Mo_go ar sc a0 a1 0 0).2.2) 0 0 0).2.2) a0).toNatClampNeg)))).1, (f_Mo_go ((f_Mo_throwing ((f_Mo_go ar sc a0 a1 0 0).2.1) ((f_Mo_go ar sc a0 a1 0 0).2.2) 0 0 0).2.1) ((f_Mo_throwing ((f_Mo_go ar sc a0 a1 0 0).2.1) ((f_Mo_go ar sc a0 a1 0 0).2.2) 0 0 0).2.2) a0 a1 1 ((((f_Mo_throwing ((f_Mo_go ar sc a0 a1 0 0).2.1) ((f_Mo_go ar sc a0 a1 0 0).2.2) 0 0 0).2.2) 1) + (((f_Mo_throwing ((f_Mo_go ar sc a0 a1 0 0).2.1) ((f_Mo_go ar sc a0 a1 0 0).2.2) 0 0 0).2.1) 4 ((f_Mo_classOf ((f_Mo_throwing ((f_Mo_go ar sc a0 a1 0 0).2.1) ((f_Mo_go ar sc a0 a1 0 0).2.2) 0 0 0).2.1) ((f_Mo_throwing ((f_Mo_go ar sc a0 a1 0 0).2.1) ((f_Mo_go ar sc a0 a1 0 0).2.2) 0 0 0).2.2) a0).toNatClampNeg)))).2.1, (f_Mo_go ((f_Mo_throwing ((f_Mo_go ar sc a0 a1 0 0).2.1) ((f_Mo_go ar sc a0 a1 0 0).2.2) 0 0 0).2.1) ((f_Mo_throwing ((f_Mo_go ar sc a0 a1 0 0).2.1) ((f_Mo_go ar sc a0 a1 0 0).2.2) 0 0 0).2.2) a0 a1 1 ((((f_Mo_throwing ((f_Mo_go ar sc a0 a1 0 0).2.1) ((f_Mo_go ar sc a0 a1 0 0).2.2) 0 0 0).2.2) 1) + (((f_Mo_throwing ((f_Mo_go ar sc a0 a1 0 0).2.1) ((f_Mo_go ar sc a0 a1 0 0).2.2) 0 0 0).2.1) 4 ((f_Mo_classOf ((f_Mo_throwing ((f_Mo_go ar sc a0 a1 0 0).2.1) ((f_Mo_go ar sc a0 a1 0 0).2.2) 0 0 0).2.1) ((f_Mo_throwing ((f_Mo_go ar sc a0 a1 0 0).2.1) ((f_Mo_go ar sc a0 a1 0 0).2.2) 0 0 0).2.2) a0).toNatClampNeg)))).2.2) : Int32 × (Nat → Nat → Int32) × (Nat → Int32)) = f_Mo_list ar sc a0 a1 := by rw [f_Mo_list, if_neg c15, if_pos c24, if_pos c40, if_pos c51]
          exact W.iret (v := (f_Mo_go ((f_Mo_throwing ((f_Mo_go ar sc a0 a1 0 0).2.1) ((f_Mo_go ar sc a0 a1 0 0).2.2) 0 0 0).2.1) ((f_Mo_throwing ((f_Mo_go ar sc a0 a1 0 0).2.1) ((f_Mo_go ar sc a0 a1 0 0).2.2) 0 0 0).2.2) a0 a1 1 ((((f_Mo_throwing ((f_Mo_go ar sc a0 a1 0 0).2.1) ((f_Mo_go ar sc a0 a1 0 0).2.2) 0 0 0).2.2) 1) + (((f_Mo_throwing ((f_Mo_go ar sc a0 a1 0 0).2.1) ((f_Mo_go ar sc a0 a1 0 0).2.2) 0 0 0).2.1) 4 ((f_Mo_classOf ((f_Mo_throwing ((f_Mo_go ar sc a0 a1 0 0).2.1) ((f_Mo_go ar sc a0 a1 0 0).2.2) 0 0 0).2.1) ((f_Mo_throwing ((f_Mo_go ar sc a0 a1 0 0).2.1) ((f_Mo_go ar sc a0 a1 0 0).2.2) 0 0 0).2.2) a0).toNatClampNeg)))).1) hx hb hr (fun t ht hW => ⟨⟨(f_Mo_go ((f_Mo_throwing ((f_Mo_go ar sc a0 a1 0 0).2.1) ((f_Mo_go ar sc a0 a1 0 0).2.2) 0 0 0).2.1) ((f_Mo_throwing ((f_Mo_go ar sc a0 a1 0 0).2.1) ((f_Mo_go ar sc a0 a1 0 0).2.2) 0 0 0).2.2) a0 a1 1 ((((f_Mo_throwing ((f_Mo_go ar sc a0 a1 0 0).2.1) ((f_Mo_go ar sc a0 a1 0 0).2.2) 0 0 0).2.2) 1) + (((f_Mo_throwing ((f_Mo_go ar sc a0 a1 0 0).2.1) ((f_Mo_go ar sc a0 a1 0 0).2.2) 0 0 0).2.1) 4 ((f_Mo_classOf ((f_Mo_throwing ((f_Mo_go ar sc a0 a1 0 0).2.1) ((f_Mo_go ar sc a0 a1 0 0).2.2) 0 0 0).2.1) ((f_Mo_throwing ((f_Mo_go ar sc a0 a1 0 0).2.1) ((f_Mo_go ar sc a0 a1 0 0).2.2) 0 0 0).2.2) a0).toNatClampNeg)))).1, ((f_Mo_go ((f_Mo_throwing ((f_Mo_go ar sc a0 a1 0 0).2.1) ((f_Mo_go ar sc a0 a1 0 0).2.2) 0 0 0).2.1) ((f_Mo_throwing ((f_Mo_go ar sc a0 a1 0 0).2.1) ((f_Mo_go ar sc a0 a1 0 0).2.2) 0 0 0).2.2) a0 a1 1 ((((f_Mo_throwing ((f_Mo_go ar sc a0 a1 0 0).2.1) ((f_Mo_go ar sc a0 a1 0 0).2.2) 0 0 0).2.2) 1) + (((f_Mo_throwing ((f_Mo_go ar sc a0 a1 0 0).2.1) ((f_Mo_go ar sc a0 a1 0 0).2.2) 0 0 0).2.1) 4 ((f_Mo_classOf ((f_Mo_throwing ((f_Mo_go ar sc a0 a1 0 0).2.1) ((f_Mo_go ar sc a0 a1 0 0).2.2) 0 0 0).2.1) ((f_Mo_throwing ((f_Mo_go ar sc a0 a1 0 0).2.1) ((f_Mo_go ar sc a0 a1 0 0).2.2) 0 0 0).2.2) a0).toNatClampNeg)))).2.1, (f_Mo_go ((f_Mo_throwing ((f_Mo_go ar sc a0 a1 0 0).2.1) ((f_Mo_go ar sc a0 a1 0 0).2.2) 0 0 0).2.1) ((f_Mo_throwing ((f_Mo_go ar sc a0 a1 0 0).2.1) ((f_Mo_go ar sc a0 a1 0 0).2.2) 0 0 0).2.2) a0 a1 1 ((((f_Mo_throwing ((f_Mo_go ar sc a0 a1 0 0).2.1) ((f_Mo_go ar sc a0 a1 0 0).2.2) 0 0 0).2.2) 1) + (((f_Mo_throwing ((f_Mo_go ar sc a0 a1 0 0).2.1) ((f_Mo_go ar sc a0 a1 0 0).2.2) 0 0 0).2.1) 4 ((f_Mo_classOf ((f_Mo_throwing ((f_Mo_go ar sc a0 a1 0 0).2.1) ((f_Mo_go ar sc a0 a1 0 0).2.2) 0 0 0).2.1) ((f_Mo_throwing ((f_Mo_go ar sc a0 a1 0 0).2.1) ((f_Mo_go ar sc a0 a1 0 0).2.2) 0 0 0).2.2) a0).toNatClampNeg)))).2.2), rfl, hv, by dsimp only; rw [ht]; exact hP⟩, hS.F ht⟩) hS.2.2 d_Mo_list_78
        · have h := h.2 c51
          refine lv_iconst (v := 0) hx hb d_Mo_list_54 (by decide) ?_
          have hv : ((0, (f_Mo_throwing ((f_Mo_go ar sc a0 a1 0 0).2.1) ((f_Mo_go ar sc a0 a1 0 0).2.2) 0 0 0).2.1, (f_Mo_throwing ((f_Mo_go ar sc a0 a1 0 0).2.1) ((f_Mo_go ar sc a0 a1 0 0).2.2) 0 0 0).2.2) : Int32 × (Nat → Nat → Int32) × (Nat → Int32)) = f_Mo_list ar sc a0 a1 := by rw [f_Mo_list, if_neg c15, if_pos c24, if_pos c40, if_neg c51]
          exact W.iret (v := 0) hx hb hr (fun t ht hW => ⟨⟨0, ((f_Mo_throwing ((f_Mo_go ar sc a0 a1 0 0).2.1) ((f_Mo_go ar sc a0 a1 0 0).2.2) 0 0 0).2.1, (f_Mo_throwing ((f_Mo_go ar sc a0 a1 0 0).2.1) ((f_Mo_go ar sc a0 a1 0 0).2.2) 0 0 0).2.2), rfl, hv, by dsimp only; rw [ht]; exact hP⟩, hS.F ht⟩) hS.2.2 d_Mo_list_55
      · have h := h.2 c40
        refine lv_iconst (v := 1) hx hb d_Mo_list_43 (by decide) ?_
        refine lv_goto (tgt := 48) hx hb d_Mo_list_44 (by decide) ?_
        refine r_Mo_throwing hF hK hP hL hS m_283 hl.1 ⟨Nat.le_of_ble_eq_true rfl, Nat.le_of_ble_eq_true rfl⟩ ⟨Nat.zero_le _, Nat.zero_le _⟩ (Nat.le_of_ble_eq_true rfl) d_Mo_list_48 (fun H locs hP hS => ?_)
        refine lv_if_eq (tgt := 56) hx hb d_Mo_list_51 (by decide) (fun c51 => ?_) (fun c51 => ?_)
        · have h := h.1 c51
          refine lv_aload_n hx hb d_Mo_list_56 rfl (lv_at hl 1 rfl) ?_
          refine lv_iload_n hx hb d_Mo_list_57 rfl (lv_at hl 2 rfl) ?_
          refine lv_iload_n hx hb d_Mo_list_58 rfl (lv_at hl 3 rfl) ?_
          refine lv_iconst (v := 1) hx hb d_Mo_list_59 (by decide) ?_
          refine lv_aload_n hx hb d_Mo_list_60 rfl (lv_at hl 1 rfl) ?_
          refine gf_Mo_day hF hK hP m_200 d_Mo_list_61 ?_
          refine lv_aload_n hx hb d_Mo_list_64 rfl (lv_at hl 1 rfl) ?_
          refine gf_Mo_time hF hK hP m_291 d_Mo_list_65 ?_
          refine lv_aload_n hx hb d_Mo_list_68 rfl (lv_at hl 1 rfl) ?_
          refine lv_iload_n hx hb d_Mo_list_69 rfl (lv_at hl 2 rfl) ?_
          have k70 := h.1
          have h := h.2
          refine r_Mo_classOf hF hK hP k70 m_226 hl.1 ⟨Nat.le_of_ble_eq_true rfl, Nat.le_of_ble_eq_true rfl⟩ ⟨Nat.zero_le _, Nat.zero_le _⟩ (Nat.le_of_ble_eq_true rfl) d_Mo_list_70 ?_
          have k73 := h.1
          have h := h.2
          refine alM_4 hF hK hP k73 d_Mo_list_73 ?_
          refine lv_iadd hx hb d_Mo_list_74 ?_
          have k75 := h
          refine r_Mo_go hF hK hP hL hS k75 m_326 hl.1 ⟨Nat.le_of_ble_eq_true rfl, Nat.le_of_ble_eq_true rfl⟩ ⟨Nat.zero_le _, Nat.zero_le _⟩ (Nat.le_of_ble_eq_true rfl) d_Mo_list_75 (fun H locs hP hS => ?_)
          have hv : (((f_Mo_go ((f_Mo_throwing ((f_Mo_go ar sc a0 a1 0 0).2.1) ((f_Mo_go ar sc a0 a1 0 0).2.2) 0 0 1).2.1) ((f_Mo_throwing ((f_Mo_go ar sc a0 a1 0 0).2.1) ((f_Mo_go ar sc a0 a1 0 0).2.2) 0 0 1).2.2) a0 a1 1 ((((f_Mo_throwing ((f_Mo_go ar sc a0 a1 0 0).2.1) ((f_Mo_go ar sc a0 a1 0 0).2.2) 0 0 1).2.2) 1) + (((f_Mo_throwing ((f_Mo_go ar sc a0 a1 0 0).2.1) ((f_Mo_go ar sc a0 a1 0 0).2.2) 0 0 1).2.1) 4 ((f_Mo_classOf ((f_Mo_throwing ((f_Mo_go ar sc a0 a1 0 0).2.1) ((f_Mo_go ar sc a0 a1 0 0).2.2) 0 0 1).2.1) ((f_Mo_throwing ((f_Mo_go ar sc a0 a1 0 0).2.1) ((f_Mo_go ar sc a0 a1 0 0).2.2) 0 0 1).2.2) a0).toNatClampNeg)))).1, (f_Mo_go ((f_Mo_throwing ((f_Mo_go ar sc a0 a1 0 0).2.1) ((f_Mo_go ar sc a0 a1 0 0).2.2) 0 0 1).2.1) ((f_Mo_throwing ((f_Mo_go ar sc a0 a1 0 0).2.1) ((f_Mo_go ar sc a0 a1 0 0).2.2) 0 0 1).2.2) a0 a1 1 ((((f_Mo_throwing ((f_Mo_go ar sc a0 a1 0 0).2.1) ((f_Mo_go ar sc a0 a1 0 0).2.2) 0 0 1).2.2) 1) + (((f_Mo_throwing ((f_Mo_go ar sc a0 a1 0 0).2.1) ((f_Mo_go ar sc a0 a1 0 0).2.2) 0 0 1).2.1) 4 ((f_Mo_classOf ((f_Mo_throwing ((f_Mo_go ar sc a0 a1 0 0).2.1) ((f_Mo_go ar sc a0 a1 0 0).2.2) 0 0 1).2.1) ((f_Mo_throwing ((f_Mo_go ar sc a0 a1 0 0).2.1) ((f_Mo_go ar sc a0 a1 0 0).2.2) 0 0 1).2.2) a0).toNatClampNeg)))).2.1, (f_Mo_go ((f_Mo_throwing ((f_Mo_go ar sc a0 a1 0 0).2.1) ((f_Mo_go ar sc a0 a1 0 0).2.2) 0 0 1).2.1) ((f_Mo_throwing ((f_Mo_go ar sc a0 a1 0 0).2.1) ((f_Mo_go ar sc a0 a1 0 0).2.2) 0 0 1).2.2) a0 a1 1 ((((f_Mo_throwing ((f_Mo_go ar sc a0 a1 0 0).2.1) ((f_Mo_go ar sc a0 a1 0 0).2.2) 0 0 1).2.2) 1) + (((f_Mo_throwing ((f_Mo_go ar sc a0 a1 0 0).2.1) ((f_Mo_go ar sc a0 a1 0 0).2.2) 0 0 1).2.1) 4 ((f_Mo_classOf ((f_Mo_throwing ((f_Mo_go ar sc a0 a1 0 0).2.1) ((f_Mo_go ar sc a0 a1 0 0).2.2) 0 0 1).2.1) ((f_Mo_throwing ((f_Mo_go ar sc a0 a1 0 0).2.1) ((f_Mo_go ar sc a0 a1 0 0).2.2) 0 0 1).2.2) a0).toNatClampNeg)))).2.2) : Int32 × (Nat → Nat → Int32) × (Nat → Int32)) = f_Mo_list ar sc a0 a1 := by rw [f_Mo_list, if_neg c15, if_pos c24, if_neg c40, if_pos c51]
          exact W.iret (v := (f_Mo_go ((f_Mo_throwing ((f_Mo_go ar sc a0 a1 0 0).2.1) ((f_Mo_go ar sc a0 a1 0 0).2.2) 0 0 1).2.1) ((f_Mo_throwing ((f_Mo_go ar sc a0 a1 0 0).2.1) ((f_Mo_go ar sc a0 a1 0 0).2.2) 0 0 1).2.2) a0 a1 1 ((((f_Mo_throwing ((f_Mo_go ar sc a0 a1 0 0).2.1) ((f_Mo_go ar sc a0 a1 0 0).2.2) 0 0 1).2.2) 1) + (((f_Mo_throwing ((f_Mo_go ar sc a0 a1 0 0).2.1) ((f_Mo_go ar sc a0 a1 0 0).2.2) 0 0 1).2.1) 4 ((f_Mo_classOf ((f_Mo_throwing ((f_Mo_go ar sc a0 a1 0 0).2.1) ((f_Mo_go ar sc a0 a1 0 0).2.2) 0 0 1).2.1) ((f_Mo_throwing ((f_Mo_go ar sc a0 a1 0 0).2.1) ((f_Mo_go ar sc a0 a1 0 0).2.2) 0 0 1).2.2) a0).toNatClampNeg)))).1) hx hb hr (fun t ht hW => ⟨⟨(f_Mo_go ((f_Mo_throwing ((f_Mo_go ar sc a0 a1 0 0).2.1) ((f_Mo_go ar sc a0 a1 0 0).2.2) 0 0 1).2.1) ((f_Mo_throwing ((f_Mo_go ar sc a0 a1 0 0).2.1) ((f_Mo_go ar sc a0 a1 0 0).2.2) 0 0 1).2.2) a0 a1 1 ((((f_Mo_throwing ((f_Mo_go ar sc a0 a1 0 0).2.1) ((f_Mo_go ar sc a0 a1 0 0).2.2) 0 0 1).2.2) 1) + (((f_Mo_throwing ((f_Mo_go ar sc a0 a1 0 0).2.1) ((f_Mo_go ar sc a0 a1 0 0).2.2) 0 0 1).2.1) 4 ((f_Mo_classOf ((f_Mo_throwing ((f_Mo_go ar sc a0 a1 0 0).2.1) ((f_Mo_go ar sc a0 a1 0 0).2.2) 0 0 1).2.1) ((f_Mo_throwing ((f_Mo_go ar sc a0 a1 0 0).2.1) ((f_Mo_go ar sc a0 a1 0 0).2.2) 0 0 1).2.2) a0).toNatClampNeg)))).1, ((f_Mo_go ((f_Mo_throwing ((f_Mo_go ar sc a0 a1 0 0).2.1) ((f_Mo_go ar sc a0 a1 0 0).2.2) 0 0 1).2.1) ((f_Mo_throwing ((f_Mo_go ar sc a0 a1 0 0).2.1) ((f_Mo_go ar sc a0 a1 0 0).2.2) 0 0 1).2.2) a0 a1 1 ((((f_Mo_throwing ((f_Mo_go ar sc a0 a1 0 0).2.1) ((f_Mo_go ar sc a0 a1 0 0).2.2) 0 0 1).2.2) 1) + (((f_Mo_throwing ((f_Mo_go ar sc a0 a1 0 0).2.1) ((f_Mo_go ar sc a0 a1 0 0).2.2) 0 0 1).2.1) 4 ((f_Mo_classOf ((f_Mo_throwing ((f_Mo_go ar sc a0 a1 0 0).2.1) ((f_Mo_go ar sc a0 a1 0 0).2.2) 0 0 1).2.1) ((f_Mo_throwing ((f_Mo_go ar sc a0 a1 0 0).2.1) ((f_Mo_go ar sc a0 a1 0 0).2.2) 0 0 1).2.2) a0).toNatClampNeg)))).2.1, (f_Mo_go ((f_Mo_throwing ((f_Mo_go ar sc a0 a1 0 0).2.1) ((f_Mo_go ar sc a0 a1 0 0).2.2) 0 0 1).2.1) ((f_Mo_throwing ((f_Mo_go ar sc a0 a1 0 0).2.1) ((f_Mo_go ar sc a0 a1 0 0).2.2) 0 0 1).2.2) a0 a1 1 ((((f_Mo_throwing ((f_Mo_go ar sc a0 a1 0 0).2.1) ((f_Mo_go ar sc a0 a1 0 0).2.2) 0 0 1).2.2) 1) + (((f_Mo_throwing ((f_Mo_go ar sc a0 a1 0 0).2.1) ((f_Mo_go ar sc a0 a1 0 0).2.2) 0 0 1).2.1) 4 ((f_Mo_classOf ((f_Mo_throwing ((f_Mo_go ar sc a0 a1 0 0).2.1) ((f_Mo_go ar sc a0 a1 0 0).2.2) 0 0 1).2.1) ((f_Mo_throwing ((f_Mo_go ar sc a0 a1 0 0).2.1) ((f_Mo_go ar sc a0 a1 0 0).2.2) 0 0 1).2.2) a0).toNatClampNeg)))).2.2), rfl, hv, by dsimp only; rw [ht]; exact hP⟩, hS.F ht⟩) hS.2.2 d_Mo_list_78
        · have h := h.2 c51
          refine lv_iconst (v := 0) hx hb d_Mo_list_54 (by decide) ?_
          have hv : ((0, (f_Mo_throwing ((f_Mo_go ar sc a0 a1 0 0).2.1) ((f_Mo_go ar sc a0 a1 0 0).2.2) 0 0 1).2.1, (f_Mo_throwing ((f_Mo_go ar sc a0 a1 0 0).2.1) ((f_Mo_go ar sc a0 a1 0 0).2.2) 0 0 1).2.2) : Int32 × (Nat → Nat → Int32) × (Nat → Int32)) = f_Mo_list ar sc a0 a1 := by rw [f_Mo_list, if_neg c15, if_pos c24, if_neg c40, if_neg c51]
          exact W.iret (v := 0) hx hb hr (fun t ht hW => ⟨⟨0, ((f_Mo_throwing ((f_Mo_go ar sc a0 a1 0 0).2.1) ((f_Mo_go ar sc a0 a1 0 0).2.2) 0 0 1).2.1, (f_Mo_throwing ((f_Mo_go ar sc a0 a1 0 0).2.1) ((f_Mo_go ar sc a0 a1 0 0).2.2) 0 0 1).2.2), rfl, hv, by dsimp only; rw [ht]; exact hP⟩, hS.F ht⟩) hS.2.2 d_Mo_list_55
    · have h := h.2 c24
      refine lv_iconst (v := 1) hx hb d_Mo_list_27 (by decide) ?_
      refine lv_goto (tgt := 32) hx hb d_Mo_list_28 (by decide) ?_
      refine lv_aload_n hx hb d_Mo_list_32 rfl (lv_at hl 1 rfl) ?_
      refine gf_Mo_findings hF hK hP m_205 d_Mo_list_33 ?_
      refine lv_iload_n hx hb d_Mo_list_36 rfl (lv_at hl 0 rfl) ?_
      refine lv_iadd hx hb d_Mo_list_37 ?_
      refine lv_bipush (v := 100) hx hb d_Mo_list_38 (by decide) ?_
      refine lv_icmp_le (tgt := 47) hx hb d_Mo_list_40 (by decide) (fun c40 => ?_) (fun c40 => ?_)
      · have h := h.1 c40
        refine lv_iconst (v := 0) hx hb d_Mo_list_47 (by decide) ?_
        refine r_Mo_throwing hF hK hP hL hS m_283 hl.1 ⟨Nat.le_of_ble_eq_true rfl, Nat.le_of_ble_eq_true rfl⟩ ⟨Nat.zero_le _, Nat.zero_le _⟩ (Nat.le_of_ble_eq_true rfl) d_Mo_list_48 (fun H locs hP hS => ?_)
        refine lv_if_eq (tgt := 56) hx hb d_Mo_list_51 (by decide) (fun c51 => ?_) (fun c51 => ?_)
        · have h := h.1 c51
          refine lv_aload_n hx hb d_Mo_list_56 rfl (lv_at hl 1 rfl) ?_
          refine lv_iload_n hx hb d_Mo_list_57 rfl (lv_at hl 2 rfl) ?_
          refine lv_iload_n hx hb d_Mo_list_58 rfl (lv_at hl 3 rfl) ?_
          refine lv_iconst (v := 1) hx hb d_Mo_list_59 (by decide) ?_
          refine lv_aload_n hx hb d_Mo_list_60 rfl (lv_at hl 1 rfl) ?_
          refine gf_Mo_day hF hK hP m_200 d_Mo_list_61 ?_
          refine lv_aload_n hx hb d_Mo_list_64 rfl (lv_at hl 1 rfl) ?_
          refine gf_Mo_time hF hK hP m_291 d_Mo_list_65 ?_
          refine lv_aload_n hx hb d_Mo_list_68 rfl (lv_at hl 1 rfl) ?_
          refine lv_iload_n hx hb d_Mo_list_69 rfl (lv_at hl 2 rfl) ?_
          have k70 := h.1
          have h := h.2
          refine r_Mo_classOf hF hK hP k70 m_226 hl.1 ⟨Nat.le_of_ble_eq_true rfl, Nat.le_of_ble_eq_true rfl⟩ ⟨Nat.zero_le _, Nat.zero_le _⟩ (Nat.le_of_ble_eq_true rfl) d_Mo_list_70 ?_
          have k73 := h.1
          have h := h.2
          refine alM_4 hF hK hP k73 d_Mo_list_73 ?_
          refine lv_iadd hx hb d_Mo_list_74 ?_
          have k75 := h
          refine r_Mo_go hF hK hP hL hS k75 m_326 hl.1 ⟨Nat.le_of_ble_eq_true rfl, Nat.le_of_ble_eq_true rfl⟩ ⟨Nat.zero_le _, Nat.zero_le _⟩ (Nat.le_of_ble_eq_true rfl) d_Mo_list_75 (fun H locs hP hS => ?_)
          have hv : (((f_Mo_go ((f_Mo_throwing ((f_Mo_go ar sc a0 a1 0 0).2.1) ((f_Mo_go ar sc a0 a1 0 0).2.2) 0 1 0).2.1) ((f_Mo_throwing ((f_Mo_go ar sc a0 a1 0 0).2.1) ((f_Mo_go ar sc a0 a1 0 0).2.2) 0 1 0).2.2) a0 a1 1 ((((f_Mo_throwing ((f_Mo_go ar sc a0 a1 0 0).2.1) ((f_Mo_go ar sc a0 a1 0 0).2.2) 0 1 0).2.2) 1) + (((f_Mo_throwing ((f_Mo_go ar sc a0 a1 0 0).2.1) ((f_Mo_go ar sc a0 a1 0 0).2.2) 0 1 0).2.1) 4 ((f_Mo_classOf ((f_Mo_throwing ((f_Mo_go ar sc a0 a1 0 0).2.1) ((f_Mo_go ar sc a0 a1 0 0).2.2) 0 1 0).2.1) ((f_Mo_throwing ((f_Mo_go ar sc a0 a1 0 0).2.1) ((f_Mo_go ar sc a0 a1 0 0).2.2) 0 1 0).2.2) a0).toNatClampNeg)))).1, (f_Mo_go ((f_Mo_throwing ((f_Mo_go ar sc a0 a1 0 0).2.1) ((f_Mo_go ar sc a0 a1 0 0).2.2) 0 1 0).2.1) ((f_Mo_throwing ((f_Mo_go ar sc a0 a1 0 0).2.1) ((f_Mo_go ar sc a0 a1 0 0).2.2) 0 1 0).2.2) a0 a1 1 ((((f_Mo_throwing ((f_Mo_go ar sc a0 a1 0 0).2.1) ((f_Mo_go ar sc a0 a1 0 0).2.2) 0 1 0).2.2) 1) + (((f_Mo_throwing ((f_Mo_go ar sc a0 a1 0 0).2.1) ((f_Mo_go ar sc a0 a1 0 0).2.2) 0 1 0).2.1) 4 ((f_Mo_classOf ((f_Mo_throwing ((f_Mo_go ar sc a0 a1 0 0).2.1) ((f_Mo_go ar sc a0 a1 0 0).2.2) 0 1 0).2.1) ((f_Mo_throwing ((f_Mo_go ar sc a0 a1 0 0).2.1) ((f_Mo_go ar sc a0 a1 0 0).2.2) 0 1 0).2.2) a0).toNatClampNeg)))).2.1, (f_Mo_go ((f_Mo_throwing ((f_Mo_go ar sc a0 a1 0 0).2.1) ((f_Mo_go ar sc a0 a1 0 0).2.2) 0 1 0).2.1) ((f_Mo_throwing ((f_Mo_go ar sc a0 a1 0 0).2.1) ((f_Mo_go ar sc a0 a1 0 0).2.2) 0 1 0).2.2) a0 a1 1 ((((f_Mo_throwing ((f_Mo_go ar sc a0 a1 0 0).2.1) ((f_Mo_go ar sc a0 a1 0 0).2.2) 0 1 0).2.2) 1) + (((f_Mo_throwing ((f_Mo_go ar sc a0 a1 0 0).2.1) ((f_Mo_go ar sc a0 a1 0 0).2.2) 0 1 0).2.1) 4 ((f_Mo_classOf ((f_Mo_throwing ((f_Mo_go ar sc a0 a1 0 0).2.1) ((f_Mo_go ar sc a0 a1 0 0).2.2) 0 1 0).2.1) ((f_Mo_throwing ((f_Mo_go ar sc a0 a1 0 0).2.1) ((f_Mo_go ar sc a0 a1 0 0).2.2) 0 1 0).2.2) a0).toNatClampNeg)))).2.2) : Int32 × (Nat → Nat → Int32) × (Nat → Int32)) = f_Mo_list ar sc a0 a1 := by rw [f_Mo_list, if_neg c15, if_neg c24, if_pos c40, if_pos c51]
          exact W.iret (v := (f_Mo_go ((f_Mo_throwing ((f_Mo_go ar sc a0 a1 0 0).2.1) ((f_Mo_go ar sc a0 a1 0 0).2.2) 0 1 0).2.1) ((f_Mo_throwing ((f_Mo_go ar sc a0 a1 0 0).2.1) ((f_Mo_go ar sc a0 a1 0 0).2.2) 0 1 0).2.2) a0 a1 1 ((((f_Mo_throwing ((f_Mo_go ar sc a0 a1 0 0).2.1) ((f_Mo_go ar sc a0 a1 0 0).2.2) 0 1 0).2.2) 1) + (((f_Mo_throwing ((f_Mo_go ar sc a0 a1 0 0).2.1) ((f_Mo_go ar sc a0 a1 0 0).2.2) 0 1 0).2.1) 4 ((f_Mo_classOf ((f_Mo_throwing ((f_Mo_go ar sc a0 a1 0 0).2.1) ((f_Mo_go ar sc a0 a1 0 0).2.2) 0 1 0).2.1) ((f_Mo_throwing ((f_Mo_go ar sc a0 a1 0 0).2.1) ((f_Mo_go ar sc a0 a1 0 0).2.2) 0 1 0).2.2) a0).toNatClampNeg)))).1) hx hb hr (fun t ht hW => ⟨⟨(f_Mo_go ((f_Mo_throwing ((f_Mo_go ar sc a0 a1 0 0).2.1) ((f_Mo_go ar sc a0 a1 0 0).2.2) 0 1 0).2.1) ((f_Mo_throwing ((f_Mo_go ar sc a0 a1 0 0).2.1) ((f_Mo_go ar sc a0 a1 0 0).2.2) 0 1 0).2.2) a0 a1 1 ((((f_Mo_throwing ((f_Mo_go ar sc a0 a1 0 0).2.1) ((f_Mo_go ar sc a0 a1 0 0).2.2) 0 1 0).2.2) 1) + (((f_Mo_throwing ((f_Mo_go ar sc a0 a1 0 0).2.1) ((f_Mo_go ar sc a0 a1 0 0).2.2) 0 1 0).2.1) 4 ((f_Mo_classOf ((f_Mo_throwing ((f_Mo_go ar sc a0 a1 0 0).2.1) ((f_Mo_go ar sc a0 a1 0 0).2.2) 0 1 0).2.1) ((f_Mo_throwing ((f_Mo_go ar sc a0 a1 0 0).2.1) ((f_Mo_go ar sc a0 a1 0 0).2.2) 0 1 0).2.2) a0).toNatClampNeg)))).1, ((f_Mo_go ((f_Mo_throwing ((f_Mo_go ar sc a0 a1 0 0).2.1) ((f_Mo_go ar sc a0 a1 0 0).2.2) 0 1 0).2.1) ((f_Mo_throwing ((f_Mo_go ar sc a0 a1 0 0).2.1) ((f_Mo_go ar sc a0 a1 0 0).2.2) 0 1 0).2.2) a0 a1 1 ((((f_Mo_throwing ((f_Mo_go ar sc a0 a1 0 0).2.1) ((f_Mo_go ar sc a0 a1 0 0).2.2) 0 1 0).2.2) 1) + (((f_Mo_throwing ((f_Mo_go ar sc a0 a1 0 0).2.1) ((f_Mo_go ar sc a0 a1 0 0).2.2) 0 1 0).2.1) 4 ((f_Mo_classOf ((f_Mo_throwing ((f_Mo_go ar sc a0 a1 0 0).2.1) ((f_Mo_go ar sc a0 a1 0 0).2.2) 0 1 0).2.1) ((f_Mo_throwing ((f_Mo_go ar sc a0 a1 0 0).2.1) ((f_Mo_go ar sc a0 a1 0 0).2.2) 0 1 0).2.2) a0).toNatClampNeg)))).2.1, (f_Mo_go ((f_Mo_throwing ((f_Mo_go ar sc a0 a1 0 0).2.1) ((f_Mo_go ar sc a0 a1 0 0).2.2) 0 1 0).2.1) ((f_Mo_throwing ((f_Mo_go ar sc a0 a1 0 0).2.1) ((f_Mo_go ar sc a0 a1 0 0).2.2) 0 1 0).2.2) a0 a1 1 ((((f_Mo_throwing ((f_Mo_go ar sc a0 a1 0 0).2.1) ((f_Mo_go ar sc a0 a1 0 0).2.2) 0 1 0).2.2) 1) + (((f_Mo_throwing ((f_Mo_go ar sc a0 a1 0 0).2.1) ((f_Mo_go ar sc a0 a1 0 0).2.2) 0 1 0).2.1) 4 ((f_Mo_classOf ((f_Mo_throwing ((f_Mo_go ar sc a0 a1 0 0).2.1) ((f_Mo_go ar sc a0 a1 0 0).2.2) 0 1 0).2.1) ((f_Mo_throwing ((f_Mo_go ar sc a0 a1 0 0).2.1) ((f_Mo_go ar sc a0 a1 0 0).2.2) 0 1 0).2.2) a0).toNatClampNeg)))).2.2), rfl, hv, by dsimp only; rw [ht]; exact hP⟩, hS.F ht⟩) hS.2.2 d_Mo_list_78
        · have h := h.2 c51
          refine lv_iconst (v := 0) hx hb d_Mo_list_54 (by decide) ?_
          have hv : ((0, (f_Mo_throwing ((f_Mo_go ar sc a0 a1 0 0).2.1) ((f_Mo_go ar sc a0 a1 0 0).2.2) 0 1 0).2.1, (f_Mo_throwing ((f_Mo_go ar sc a0 a1 0 0).2.1) ((f_Mo_go ar sc a0 a1 0 0).2.2) 0 1 0).2.2) : Int32 × (Nat → Nat → Int32) × (Nat → Int32)) = f_Mo_list ar sc a0 a1 := by rw [f_Mo_list, if_neg c15, if_neg c24, if_pos c40, if_neg c51]
          exact W.iret (v := 0) hx hb hr (fun t ht hW => ⟨⟨0, ((f_Mo_throwing ((f_Mo_go ar sc a0 a1 0 0).2.1) ((f_Mo_go ar sc a0 a1 0 0).2.2) 0 1 0).2.1, (f_Mo_throwing ((f_Mo_go ar sc a0 a1 0 0).2.1) ((f_Mo_go ar sc a0 a1 0 0).2.2) 0 1 0).2.2), rfl, hv, by dsimp only; rw [ht]; exact hP⟩, hS.F ht⟩) hS.2.2 d_Mo_list_55
      · have h := h.2 c40
        refine lv_iconst (v := 1) hx hb d_Mo_list_43 (by decide) ?_
        refine lv_goto (tgt := 48) hx hb d_Mo_list_44 (by decide) ?_
        refine r_Mo_throwing hF hK hP hL hS m_283 hl.1 ⟨Nat.le_of_ble_eq_true rfl, Nat.le_of_ble_eq_true rfl⟩ ⟨Nat.zero_le _, Nat.zero_le _⟩ (Nat.le_of_ble_eq_true rfl) d_Mo_list_48 (fun H locs hP hS => ?_)
        refine lv_if_eq (tgt := 56) hx hb d_Mo_list_51 (by decide) (fun c51 => ?_) (fun c51 => ?_)
        · have h := h.1 c51
          refine lv_aload_n hx hb d_Mo_list_56 rfl (lv_at hl 1 rfl) ?_
          refine lv_iload_n hx hb d_Mo_list_57 rfl (lv_at hl 2 rfl) ?_
          refine lv_iload_n hx hb d_Mo_list_58 rfl (lv_at hl 3 rfl) ?_
          refine lv_iconst (v := 1) hx hb d_Mo_list_59 (by decide) ?_
          refine lv_aload_n hx hb d_Mo_list_60 rfl (lv_at hl 1 rfl) ?_
          refine gf_Mo_day hF hK hP m_200 d_Mo_list_61 ?_
          refine lv_aload_n hx hb d_Mo_list_64 rfl (lv_at hl 1 rfl) ?_
          refine gf_Mo_time hF hK hP m_291 d_Mo_list_65 ?_
          refine lv_aload_n hx hb d_Mo_list_68 rfl (lv_at hl 1 rfl) ?_
          refine lv_iload_n hx hb d_Mo_list_69 rfl (lv_at hl 2 rfl) ?_
          have k70 := h.1
          have h := h.2
          refine r_Mo_classOf hF hK hP k70 m_226 hl.1 ⟨Nat.le_of_ble_eq_true rfl, Nat.le_of_ble_eq_true rfl⟩ ⟨Nat.zero_le _, Nat.zero_le _⟩ (Nat.le_of_ble_eq_true rfl) d_Mo_list_70 ?_
          have k73 := h.1
          have h := h.2
          refine alM_4 hF hK hP k73 d_Mo_list_73 ?_
          refine lv_iadd hx hb d_Mo_list_74 ?_
          have k75 := h
          refine r_Mo_go hF hK hP hL hS k75 m_326 hl.1 ⟨Nat.le_of_ble_eq_true rfl, Nat.le_of_ble_eq_true rfl⟩ ⟨Nat.zero_le _, Nat.zero_le _⟩ (Nat.le_of_ble_eq_true rfl) d_Mo_list_75 (fun H locs hP hS => ?_)
          have hv : (((f_Mo_go ((f_Mo_throwing ((f_Mo_go ar sc a0 a1 0 0).2.1) ((f_Mo_go ar sc a0 a1 0 0).2.2) 0 1 1).2.1) ((f_Mo_throwing ((f_Mo_go ar sc a0 a1 0 0).2.1) ((f_Mo_go ar sc a0 a1 0 0).2.2) 0 1 1).2.2) a0 a1 1 ((((f_Mo_throwing ((f_Mo_go ar sc a0 a1 0 0).2.1) ((f_Mo_go ar sc a0 a1 0 0).2.2) 0 1 1).2.2) 1) + (((f_Mo_throwing ((f_Mo_go ar sc a0 a1 0 0).2.1) ((f_Mo_go ar sc a0 a1 0 0).2.2) 0 1 1).2.1) 4 ((f_Mo_classOf ((f_Mo_throwing ((f_Mo_go ar sc a0 a1 0 0).2.1) ((f_Mo_go ar sc a0 a1 0 0).2.2) 0 1 1).2.1) ((f_Mo_throwing ((f_Mo_go ar sc a0 a1 0 0).2.1) ((f_Mo_go ar sc a0 a1 0 0).2.2) 0 1 1).2.2) a0).toNatClampNeg)))).1, (f_Mo_go ((f_Mo_throwing ((f_Mo_go ar sc a0 a1 0 0).2.1) ((f_Mo_go ar sc a0 a1 0 0).2.2) 0 1 1).2.1) ((f_Mo_throwing ((f_Mo_go ar sc a0 a1 0 0).2.1) ((f_Mo_go ar sc a0 a1 0 0).2.2) 0 1 1).2.2) a0 a1 1 ((((f_Mo_throwing ((f_Mo_go ar sc a0 a1 0 0).2.1) ((f_Mo_go ar sc a0 a1 0 0).2.2) 0 1 1).2.2) 1) + (((f_Mo_throwing ((f_Mo_go ar sc a0 a1 0 0).2.1) ((f_Mo_go ar sc a0 a1 0 0).2.2) 0 1 1).2.1) 4 ((f_Mo_classOf ((f_Mo_throwing ((f_Mo_go ar sc a0 a1 0 0).2.1) ((f_Mo_go ar sc a0 a1 0 0).2.2) 0 1 1).2.1) ((f_Mo_throwing ((f_Mo_go ar sc a0 a1 0 0).2.1) ((f_Mo_go ar sc a0 a1 0 0).2.2) 0 1 1).2.2) a0).toNatClampNeg)))).2.1, (f_Mo_go ((f_Mo_throwing ((f_Mo_go ar sc a0 a1 0 0).2.1) ((f_Mo_go ar sc a0 a1 0 0).2.2) 0 1 1).2.1) ((f_Mo_throwing ((f_Mo_go ar sc a0 a1 0 0).2.1) ((f_Mo_go ar sc a0 a1 0 0).2.2) 0 1 1).2.2) a0 a1 1 ((((f_Mo_throwing ((f_Mo_go ar sc a0 a1 0 0).2.1) ((f_Mo_go ar sc a0 a1 0 0).2.2) 0 1 1).2.2) 1) + (((f_Mo_throwing ((f_Mo_go ar sc a0 a1 0 0).2.1) ((f_Mo_go ar sc a0 a1 0 0).2.2) 0 1 1).2.1) 4 ((f_Mo_classOf ((f_Mo_throwing ((f_Mo_go ar sc a0 a1 0 0).2.1) ((f_Mo_go ar sc a0 a1 0 0).2.2) 0 1 1).2.1) ((f_Mo_throwing ((f_Mo_go ar sc a0 a1 0 0).2.1) ((f_Mo_go ar sc a0 a1 0 0).2.2) 0 1 1).2.2) a0).toNatClampNeg)))).2.2) : Int32 × (Nat → Nat → Int32) × (Nat → Int32)) = f_Mo_list ar sc a0 a1 := by rw [f_Mo_list, if_neg c15, if_neg c24, if_neg c40, if_pos c51]
          exact W.iret (v := (f_Mo_go ((f_Mo_throwing ((f_Mo_go ar sc a0 a1 0 0).2.1) ((f_Mo_go ar sc a0 a1 0 0).2.2) 0 1 1).2.1) ((f_Mo_throwing ((f_Mo_go ar sc a0 a1 0 0).2.1) ((f_Mo_go ar sc a0 a1 0 0).2.2) 0 1 1).2.2) a0 a1 1 ((((f_Mo_throwing ((f_Mo_go ar sc a0 a1 0 0).2.1) ((f_Mo_go ar sc a0 a1 0 0).2.2) 0 1 1).2.2) 1) + (((f_Mo_throwing ((f_Mo_go ar sc a0 a1 0 0).2.1) ((f_Mo_go ar sc a0 a1 0 0).2.2) 0 1 1).2.1) 4 ((f_Mo_classOf ((f_Mo_throwing ((f_Mo_go ar sc a0 a1 0 0).2.1) ((f_Mo_go ar sc a0 a1 0 0).2.2) 0 1 1).2.1) ((f_Mo_throwing ((f_Mo_go ar sc a0 a1 0 0).2.1) ((f_Mo_go ar sc a0 a1 0 0).2.2) 0 1 1).2.2) a0).toNatClampNeg)))).1) hx hb hr (fun t ht hW => ⟨⟨(f_Mo_go ((f_Mo_throwing ((f_Mo_go ar sc a0 a1 0 0).2.1) ((f_Mo_go ar sc a0 a1 0 0).2.2) 0 1 1).2.1) ((f_Mo_throwing ((f_Mo_go ar sc a0 a1 0 0).2.1) ((f_Mo_go ar sc a0 a1 0 0).2.2) 0 1 1).2.2) a0 a1 1 ((((f_Mo_throwing ((f_Mo_go ar sc a0 a1 0 0).2.1) ((f_Mo_go ar sc a0 a1 0 0).2.2) 0 1 1).2.2) 1) + (((f_Mo_throwing ((f_Mo_go ar sc a0 a1 0 0).2.1) ((f_Mo_go ar sc a0 a1 0 0).2.2) 0 1 1).2.1) 4 ((f_Mo_classOf ((f_Mo_throwing ((f_Mo_go ar sc a0 a1 0 0).2.1) ((f_Mo_go ar sc a0 a1 0 0).2.2) 0 1 1).2.1) ((f_Mo_throwing ((f_Mo_go ar sc a0 a1 0 0).2.1) ((f_Mo_go ar sc a0 a1 0 0).2.2) 0 1 1).2.2) a0).toNatClampNeg)))).1, ((f_Mo_go ((f_Mo_throwing ((f_Mo_go ar sc a0 a1 0 0).2.1) ((f_Mo_go ar sc a0 a1 0 0).2.2) 0 1 1).2.1) ((f_Mo_throwing ((f_Mo_go ar sc a0 a1 0 0).2.1) ((f_Mo_go ar sc a0 a1 0 0).2.2) 0 1 1).2.2) a0 a1 1 ((((f_Mo_throwing ((f_Mo_go ar sc a0 a1 0 0).2.1) ((f_Mo_go ar sc a0 a1 0 0).2.2) 0 1 1).2.2) 1) + (((f_Mo_throwing ((f_Mo_go ar sc a0 a1 0 0).2.1) ((f_Mo_go ar sc a0 a1 0 0).2.2) 0 1 1).2.1) 4 ((f_Mo_classOf ((f_Mo_throwing ((f_Mo_go ar sc a0 a1 0 0).2.1) ((f_Mo_go ar sc a0 a1 0 0).2.2) 0 1 1).2.1) ((f_Mo_throwing ((f_Mo_go ar sc a0 a1 0 0).2.1) ((f_Mo_go ar sc a0 a1 0 0).2.2) 0 1 1).2.2) a0).toNatClampNeg)))).2.1, (f_Mo_go ((f_Mo_throwing ((f_Mo_go ar sc a0 a1 0 0).2.1) ((f_Mo_go ar sc a0 a1 0 0).2.2) 0 1 1).2.1) ((f_Mo_throwing ((f_Mo_go ar sc a0 a1 0 0).2.1) ((f_Mo_go ar sc a0 a1 0 0).2.2) 0 1 1).2.2) a0 a1 1 ((((f_Mo_throwing ((f_Mo_go ar sc a0 a1 0 0).2.1) ((f_Mo_go ar sc a0 a1 0 0).2.2) 0 1 1).2.2) 1) + (((f_Mo_throwing ((f_Mo_go ar sc a0 a1 0 0).2.1) ((f_Mo_go ar sc a0 a1 0 0).2.2) 0 1 1).2.1) 4 ((f_Mo_classOf ((f_Mo_throwing ((f_Mo_go ar sc a0 a1 0 0).2.1) ((f_Mo_go ar sc a0 a1 0 0).2.2) 0 1 1).2.1) ((f_Mo_throwing ((f_Mo_go ar sc a0 a1 0 0).2.1) ((f_Mo_go ar sc a0 a1 0 0).2.2) 0 1 1).2.2) a0).toNatClampNeg)))).2.2), rfl, hv, by dsimp only; rw [ht]; exact hP⟩, hS.F ht⟩) hS.2.2 d_Mo_list_78
        · have h := h.2 c51
          refine lv_iconst (v := 0) hx hb d_Mo_list_54 (by decide) ?_
          have hv : ((0, (f_Mo_throwing ((f_Mo_go ar sc a0 a1 0 0).2.1) ((f_Mo_go ar sc a0 a1 0 0).2.2) 0 1 1).2.1, (f_Mo_throwing ((f_Mo_go ar sc a0 a1 0 0).2.1) ((f_Mo_go ar sc a0 a1 0 0).2.2) 0 1 1).2.2) : Int32 × (Nat → Nat → Int32) × (Nat → Int32)) = f_Mo_list ar sc a0 a1 := by rw [f_Mo_list, if_neg c15, if_neg c24, if_neg c40, if_neg c51]
          exact W.iret (v := 0) hx hb hr (fun t ht hW => ⟨⟨0, ((f_Mo_throwing ((f_Mo_go ar sc a0 a1 0 0).2.1) ((f_Mo_go ar sc a0 a1 0 0).2.2) 0 1 1).2.1, (f_Mo_throwing ((f_Mo_go ar sc a0 a1 0 0).2.1) ((f_Mo_go ar sc a0 a1 0 0).2.2) 0 1 1).2.2), rfl, hv, by dsimp only; rw [ht]; exact hP⟩, hS.F ht⟩) hS.2.2 d_Mo_list_55
  · have h := h.1 c15
    refine lv_iconst (v := 1) hx hb d_Mo_list_18 (by decide) ?_
    refine lv_goto (tgt := 23) hx hb d_Mo_list_19 (by decide) ?_
    refine lv_iload_n hx hb d_Mo_list_23 rfl (lv_at hl 0 rfl) ?_
    refine lv_if_ge (tgt := 31) hx hb d_Mo_list_24 (by decide) (fun c24 => ?_) (fun c24 => ?_)
    · have h := h.1 c24
      refine lv_iconst (v := 0) hx hb d_Mo_list_31 (by decide) ?_
      refine lv_aload_n hx hb d_Mo_list_32 rfl (lv_at hl 1 rfl) ?_
      refine gf_Mo_findings hF hK hP m_205 d_Mo_list_33 ?_
      refine lv_iload_n hx hb d_Mo_list_36 rfl (lv_at hl 0 rfl) ?_
      refine lv_iadd hx hb d_Mo_list_37 ?_
      refine lv_bipush (v := 100) hx hb d_Mo_list_38 (by decide) ?_
      refine lv_icmp_le (tgt := 47) hx hb d_Mo_list_40 (by decide) (fun c40 => ?_) (fun c40 => ?_)
      · have h := h.1 c40
        refine lv_iconst (v := 0) hx hb d_Mo_list_47 (by decide) ?_
        refine r_Mo_throwing hF hK hP hL hS m_283 hl.1 ⟨Nat.le_of_ble_eq_true rfl, Nat.le_of_ble_eq_true rfl⟩ ⟨Nat.zero_le _, Nat.zero_le _⟩ (Nat.le_of_ble_eq_true rfl) d_Mo_list_48 (fun H locs hP hS => ?_)
        refine lv_if_eq (tgt := 56) hx hb d_Mo_list_51 (by decide) (fun c51 => ?_) (fun c51 => ?_)
        · have h := h.1 c51
          refine lv_aload_n hx hb d_Mo_list_56 rfl (lv_at hl 1 rfl) ?_
          refine lv_iload_n hx hb d_Mo_list_57 rfl (lv_at hl 2 rfl) ?_
          refine lv_iload_n hx hb d_Mo_list_58 rfl (lv_at hl 3 rfl) ?_
          refine lv_iconst (v := 1) hx hb d_Mo_list_59 (by decide) ?_
          refine lv_aload_n hx hb d_Mo_list_60 rfl (lv_at hl 1 rfl) ?_
          refine gf_Mo_day hF hK hP m_200 d_Mo_list_61 ?_
          refine lv_aload_n hx hb d_Mo_list_64 rfl (lv_at hl 1 rfl) ?_
          refine gf_Mo_time hF hK hP m_291 d_Mo_list_65 ?_
          refine lv_aload_n hx hb d_Mo_list_68 rfl (lv_at hl 1 rfl) ?_
          refine lv_iload_n hx hb d_Mo_list_69 rfl (lv_at hl 2 rfl) ?_
          have k70 := h.1
          have h := h.2
          refine r_Mo_classOf hF hK hP k70 m_226 hl.1 ⟨Nat.le_of_ble_eq_true rfl, Nat.le_of_ble_eq_true rfl⟩ ⟨Nat.zero_le _, Nat.zero_le _⟩ (Nat.le_of_ble_eq_true rfl) d_Mo_list_70 ?_
          have k73 := h.1
          have h := h.2
          refine alM_4 hF hK hP k73 d_Mo_list_73 ?_
          refine lv_iadd hx hb d_Mo_list_74 ?_
          have k75 := h
          refine r_Mo_go hF hK hP hL hS k75 m_326 hl.1 ⟨Nat.le_of_ble_eq_true rfl, Nat.le_of_ble_eq_true rfl⟩ ⟨Nat.zero_le _, Nat.zero_le _⟩ (Nat.le_of_ble_eq_true rfl) d_Mo_list_75 (fun H locs hP hS => ?_)
          have hv : (((f_Mo_go ((f_Mo_throwing ((f_Mo_go ar sc a0 a1 0 0).2.1) ((f_Mo_go ar sc a0 a1 0 0).2.2) 1 0 0).2.1) ((f_Mo_throwing ((f_Mo_go ar sc a0 a1 0 0).2.1) ((f_Mo_go ar sc a0 a1 0 0).2.2) 1 0 0).2.2) a0 a1 1 ((((f_Mo_throwing ((f_Mo_go ar sc a0 a1 0 0).2.1) ((f_Mo_go ar sc a0 a1 0 0).2.2) 1 0 0).2.2) 1) + (((f_Mo_throwing ((f_Mo_go ar sc a0 a1 0 0).2.1) ((f_Mo_go ar sc a0 a1 0 0).2.2) 1 0 0).2.1) 4 ((f_Mo_classOf ((f_Mo_throwing ((f_Mo_go ar sc a0 a1 0 0).2.1) ((f_Mo_go ar sc a0 a1 0 0).2.2) 1 0 0).2.1) ((f_Mo_throwing ((f_Mo_go ar sc a0 a1 0 0).2.1) ((f_Mo_go ar sc a0 a1 0 0).2.2) 1 0 0).2.2) a0).toNatClampNeg)))).1, (f_Mo_go ((f_Mo_throwing ((f_Mo_go ar sc a0 a1 0 0).2.1) ((f_Mo_go ar sc a0 a1 0 0).2.2) 1 0 0).2.1) ((f_Mo_throwing ((f_Mo_go ar sc a0 a1 0 0).2.1) ((f_Mo_go ar sc a0 a1 0 0).2.2) 1 0 0).2.2) a0 a1 1 ((((f_Mo_throwing ((f_Mo_go ar sc a0 a1 0 0).2.1) ((f_Mo_go ar sc a0 a1 0 0).2.2) 1 0 0).2.2) 1) + (((f_Mo_throwing ((f_Mo_go ar sc a0 a1 0 0).2.1) ((f_Mo_go ar sc a0 a1 0 0).2.2) 1 0 0).2.1) 4 ((f_Mo_classOf ((f_Mo_throwing ((f_Mo_go ar sc a0 a1 0 0).2.1) ((f_Mo_go ar sc a0 a1 0 0).2.2) 1 0 0).2.1) ((f_Mo_throwing ((f_Mo_go ar sc a0 a1 0 0).2.1) ((f_Mo_go ar sc a0 a1 0 0).2.2) 1 0 0).2.2) a0).toNatClampNeg)))).2.1, (f_Mo_go ((f_Mo_throwing ((f_Mo_go ar sc a0 a1 0 0).2.1) ((f_Mo_go ar sc a0 a1 0 0).2.2) 1 0 0).2.1) ((f_Mo_throwing ((f_Mo_go ar sc a0 a1 0 0).2.1) ((f_Mo_go ar sc a0 a1 0 0).2.2) 1 0 0).2.2) a0 a1 1 ((((f_Mo_throwing ((f_Mo_go ar sc a0 a1 0 0).2.1) ((f_Mo_go ar sc a0 a1 0 0).2.2) 1 0 0).2.2) 1) + (((f_Mo_throwing ((f_Mo_go ar sc a0 a1 0 0).2.1) ((f_Mo_go ar sc a0 a1 0 0).2.2) 1 0 0).2.1) 4 ((f_Mo_classOf ((f_Mo_throwing ((f_Mo_go ar sc a0 a1 0 0).2.1) ((f_Mo_go ar sc a0 a1 0 0).2.2) 1 0 0).2.1) ((f_Mo_throwing ((f_Mo_go ar sc a0 a1 0 0).2.1) ((f_Mo_go ar sc a0 a1 0 0).2.2) 1 0 0).2.2) a0).toNatClampNeg)))).2.2) : Int32 × (Nat → Nat → Int32) × (Nat → Int32)) = f_Mo_list ar sc a0 a1 := by rw [f_Mo_list, if_pos c15, if_pos c24, if_pos c40, if_pos c51]
          exact W.iret (v := (f_Mo_go ((f_Mo_throwing ((f_Mo_go ar sc a0 a1 0 0).2.1) ((f_Mo_go ar sc a0 a1 0 0).2.2) 1 0 0).2.1) ((f_Mo_throwing ((f_Mo_go ar sc a0 a1 0 0).2.1) ((f_Mo_go ar sc a0 a1 0 0).2.2) 1 0 0).2.2) a0 a1 1 ((((f_Mo_throwing ((f_Mo_go ar sc a0 a1 0 0).2.1) ((f_Mo_go ar sc a0 a1 0 0).2.2) 1 0 0).2.2) 1) + (((f_Mo_throwing ((f_Mo_go ar sc a0 a1 0 0).2.1) ((f_Mo_go ar sc a0 a1 0 0).2.2) 1 0 0).2.1) 4 ((f_Mo_classOf ((f_Mo_throwing ((f_Mo_go ar sc a0 a1 0 0).2.1) ((f_Mo_go ar sc a0 a1 0 0).2.2) 1 0 0).2.1) ((f_Mo_throwing ((f_Mo_go ar sc a0 a1 0 0).2.1) ((f_Mo_go ar sc a0 a1 0 0).2.2) 1 0 0).2.2) a0).toNatClampNeg)))).1) hx hb hr (fun t ht hW => ⟨⟨(f_Mo_go ((f_Mo_throwing ((f_Mo_go ar sc a0 a1 0 0).2.1) ((f_Mo_go ar sc a0 a1 0 0).2.2) 1 0 0).2.1) ((f_Mo_throwing ((f_Mo_go ar sc a0 a1 0 0).2.1) ((f_Mo_go ar sc a0 a1 0 0).2.2) 1 0 0).2.2) a0 a1 1 ((((f_Mo_throwing ((f_Mo_go ar sc a0 a1 0 0).2.1) ((f_Mo_go ar sc a0 a1 0 0).2.2) 1 0 0).2.2) 1) + (((f_Mo_throwing ((f_Mo_go ar sc a0 a1 0 0).2.1) ((f_Mo_go ar sc a0 a1 0 0).2.2) 1 0 0).2.1) 4 ((f_Mo_classOf ((f_Mo_throwing ((f_Mo_go ar sc a0 a1 0 0).2.1) ((f_Mo_go ar sc a0 a1 0 0).2.2) 1 0 0).2.1) ((f_Mo_throwing ((f_Mo_go ar sc a0 a1 0 0).2.1) ((f_Mo_go ar sc a0 a1 0 0).2.2) 1 0 0).2.2) a0).toNatClampNeg)))).1, ((f_Mo_go ((f_Mo_throwing ((f_Mo_go ar sc a0 a1 0 0).2.1) ((f_Mo_go ar sc a0 a1 0 0).2.2) 1 0 0).2.1) ((f_Mo_throwing ((f_Mo_go ar sc a0 a1 0 0).2.1) ((f_Mo_go ar sc a0 a1 0 0).2.2) 1 0 0).2.2) a0 a1 1 ((((f_Mo_throwing ((f_Mo_go ar sc a0 a1 0 0).2.1) ((f_Mo_go ar sc a0 a1 0 0).2.2) 1 0 0).2.2) 1) + (((f_Mo_throwing ((f_Mo_go ar sc a0 a1 0 0).2.1) ((f_Mo_go ar sc a0 a1 0 0).2.2) 1 0 0).2.1) 4 ((f_Mo_classOf ((f_Mo_throwing ((f_Mo_go ar sc a0 a1 0 0).2.1) ((f_Mo_go ar sc a0 a1 0 0).2.2) 1 0 0).2.1) ((f_Mo_throwing ((f_Mo_go ar sc a0 a1 0 0).2.1) ((f_Mo_go ar sc a0 a1 0 0).2.2) 1 0 0).2.2) a0).toNatClampNeg)))).2.1, (f_Mo_go ((f_Mo_throwing ((f_Mo_go ar sc a0 a1 0 0).2.1) ((f_Mo_go ar sc a0 a1 0 0).2.2) 1 0 0).2.1) ((f_Mo_throwing ((f_Mo_go ar sc a0 a1 0 0).2.1) ((f_Mo_go ar sc a0 a1 0 0).2.2) 1 0 0).2.2) a0 a1 1 ((((f_Mo_throwing ((f_Mo_go ar sc a0 a1 0 0).2.1) ((f_Mo_go ar sc a0 a1 0 0).2.2) 1 0 0).2.2) 1) + (((f_Mo_throwing ((f_Mo_go ar sc a0 a1 0 0).2.1) ((f_Mo_go ar sc a0 a1 0 0).2.2) 1 0 0).2.1) 4 ((f_Mo_classOf ((f_Mo_throwing ((f_Mo_go ar sc a0 a1 0 0).2.1) ((f_Mo_go ar sc a0 a1 0 0).2.2) 1 0 0).2.1) ((f_Mo_throwing ((f_Mo_go ar sc a0 a1 0 0).2.1) ((f_Mo_go ar sc a0 a1 0 0).2.2) 1 0 0).2.2) a0).toNatClampNeg)))).2.2), rfl, hv, by dsimp only; rw [ht]; exact hP⟩, hS.F ht⟩) hS.2.2 d_Mo_list_78
        · have h := h.2 c51
          refine lv_iconst (v := 0) hx hb d_Mo_list_54 (by decide) ?_
          have hv : ((0, (f_Mo_throwing ((f_Mo_go ar sc a0 a1 0 0).2.1) ((f_Mo_go ar sc a0 a1 0 0).2.2) 1 0 0).2.1, (f_Mo_throwing ((f_Mo_go ar sc a0 a1 0 0).2.1) ((f_Mo_go ar sc a0 a1 0 0).2.2) 1 0 0).2.2) : Int32 × (Nat → Nat → Int32) × (Nat → Int32)) = f_Mo_list ar sc a0 a1 := by rw [f_Mo_list, if_pos c15, if_pos c24, if_pos c40, if_neg c51]
          exact W.iret (v := 0) hx hb hr (fun t ht hW => ⟨⟨0, ((f_Mo_throwing ((f_Mo_go ar sc a0 a1 0 0).2.1) ((f_Mo_go ar sc a0 a1 0 0).2.2) 1 0 0).2.1, (f_Mo_throwing ((f_Mo_go ar sc a0 a1 0 0).2.1) ((f_Mo_go ar sc a0 a1 0 0).2.2) 1 0 0).2.2), rfl, hv, by dsimp only; rw [ht]; exact hP⟩, hS.F ht⟩) hS.2.2 d_Mo_list_55
      · have h := h.2 c40
        refine lv_iconst (v := 1) hx hb d_Mo_list_43 (by decide) ?_
        refine lv_goto (tgt := 48) hx hb d_Mo_list_44 (by decide) ?_
        refine r_Mo_throwing hF hK hP hL hS m_283 hl.1 ⟨Nat.le_of_ble_eq_true rfl, Nat.le_of_ble_eq_true rfl⟩ ⟨Nat.zero_le _, Nat.zero_le _⟩ (Nat.le_of_ble_eq_true rfl) d_Mo_list_48 (fun H locs hP hS => ?_)
        refine lv_if_eq (tgt := 56) hx hb d_Mo_list_51 (by decide) (fun c51 => ?_) (fun c51 => ?_)
        · have h := h.1 c51
          refine lv_aload_n hx hb d_Mo_list_56 rfl (lv_at hl 1 rfl) ?_
          refine lv_iload_n hx hb d_Mo_list_57 rfl (lv_at hl 2 rfl) ?_
          refine lv_iload_n hx hb d_Mo_list_58 rfl (lv_at hl 3 rfl) ?_
          refine lv_iconst (v := 1) hx hb d_Mo_list_59 (by decide) ?_
          refine lv_aload_n hx hb d_Mo_list_60 rfl (lv_at hl 1 rfl) ?_
          refine gf_Mo_day hF hK hP m_200 d_Mo_list_61 ?_
          refine lv_aload_n hx hb d_Mo_list_64 rfl (lv_at hl 1 rfl) ?_
          refine gf_Mo_time hF hK hP m_291 d_Mo_list_65 ?_
          refine lv_aload_n hx hb d_Mo_list_68 rfl (lv_at hl 1 rfl) ?_
          refine lv_iload_n hx hb d_Mo_list_69 rfl (lv_at hl 2 rfl) ?_
          have k70 := h.1
          have h := h.2
          refine r_Mo_classOf hF hK hP k70 m_226 hl.1 ⟨Nat.le_of_ble_eq_true rfl, Nat.le_of_ble_eq_true rfl⟩ ⟨Nat.zero_le _, Nat.zero_le _⟩ (Nat.le_of_ble_eq_true rfl) d_Mo_list_70 ?_
          have k73 := h.1
          have h := h.2
          refine alM_4 hF hK hP k73 d_Mo_list_73 ?_
          refine lv_iadd hx hb d_Mo_list_74 ?_
          have k75 := h
          refine r_Mo_go hF hK hP hL hS k75 m_326 hl.1 ⟨Nat.le_of_ble_eq_true rfl, Nat.le_of_ble_eq_true rfl⟩ ⟨Nat.zero_le _, Nat.zero_le _⟩ (Nat.le_of_ble_eq_true rfl) d_Mo_list_75 (fun H locs hP hS => ?_)
          have hv : (((f_Mo_go ((f_Mo_throwing ((f_Mo_go ar sc a0 a1 0 0).2.1) ((f_Mo_go ar sc a0 a1 0 0).2.2) 1 0 1).2.1) ((f_Mo_throwing ((f_Mo_go ar sc a0 a1 0 0).2.1) ((f_Mo_go ar sc a0 a1 0 0).2.2) 1 0 1).2.2) a0 a1 1 ((((f_Mo_throwing ((f_Mo_go ar sc a0 a1 0 0).2.1) ((f_Mo_go ar sc a0 a1 0 0).2.2) 1 0 1).2.2) 1) + (((f_Mo_throwing ((f_Mo_go ar sc a0 a1 0 0).2.1) ((f_Mo_go ar sc a0 a1 0 0).2.2) 1 0 1).2.1) 4 ((f_Mo_classOf ((f_Mo_throwing ((f_Mo_go ar sc a0 a1 0 0).2.1) ((f_Mo_go ar sc a0 a1 0 0).2.2) 1 0 1).2.1) ((f_Mo_throwing ((f_Mo_go ar sc a0 a1 0 0).2.1) ((f_Mo_go ar sc a0 a1 0 0).2.2) 1 0 1).2.2) a0).toNatClampNeg)))).1, (f_Mo_go ((f_Mo_throwing ((f_Mo_go ar sc a0 a1 0 0).2.1) ((f_Mo_go ar sc a0 a1 0 0).2.2) 1 0 1).2.1) ((f_Mo_throwing ((f_Mo_go ar sc a0 a1 0 0).2.1) ((f_Mo_go ar sc a0 a1 0 0).2.2) 1 0 1).2.2) a0 a1 1 ((((f_Mo_throwing ((f_Mo_go ar sc a0 a1 0 0).2.1) ((f_Mo_go ar sc a0 a1 0 0).2.2) 1 0 1).2.2) 1) + (((f_Mo_throwing ((f_Mo_go ar sc a0 a1 0 0).2.1) ((f_Mo_go ar sc a0 a1 0 0).2.2) 1 0 1).2.1) 4 ((f_Mo_classOf ((f_Mo_throwing ((f_Mo_go ar sc a0 a1 0 0).2.1) ((f_Mo_go ar sc a0 a1 0 0).2.2) 1 0 1).2.1) ((f_Mo_throwing ((f_Mo_go ar sc a0 a1 0 0).2.1) ((f_Mo_go ar sc a0 a1 0 0).2.2) 1 0 1).2.2) a0).toNatClampNeg)))).2.1, (f_Mo_go ((f_Mo_throwing ((f_Mo_go ar sc a0 a1 0 0).2.1) ((f_Mo_go ar sc a0 a1 0 0).2.2) 1 0 1).2.1) ((f_Mo_throwing ((f_Mo_go ar sc a0 a1 0 0).2.1) ((f_Mo_go ar sc a0 a1 0 0).2.2) 1 0 1).2.2) a0 a1 1 ((((f_Mo_throwing ((f_Mo_go ar sc a0 a1 0 0).2.1) ((f_Mo_go ar sc a0 a1 0 0).2.2) 1 0 1).2.2) 1) + (((f_Mo_throwing ((f_Mo_go ar sc a0 a1 0 0).2.1) ((f_Mo_go ar sc a0 a1 0 0).2.2) 1 0 1).2.1) 4 ((f_Mo_classOf ((f_Mo_throwing ((f_Mo_go ar sc a0 a1 0 0).2.1) ((f_Mo_go ar sc a0 a1 0 0).2.2) 1 0 1).2.1) ((f_Mo_throwing ((f_Mo_go ar sc a0 a1 0 0).2.1) ((f_Mo_go ar sc a0 a1 0 0).2.2) 1 0 1).2.2) a0).toNatClampNeg)))).2.2) : Int32 × (Nat → Nat → Int32) × (Nat → Int32)) = f_Mo_list ar sc a0 a1 := by rw [f_Mo_list, if_pos c15, if_pos c24, if_neg c40, if_pos c51]
          exact W.iret (v := (f_Mo_go ((f_Mo_throwing ((f_Mo_go ar sc a0 a1 0 0).2.1) ((f_Mo_go ar sc a0 a1 0 0).2.2) 1 0 1).2.1) ((f_Mo_throwing ((f_Mo_go ar sc a0 a1 0 0).2.1) ((f_Mo_go ar sc a0 a1 0 0).2.2) 1 0 1).2.2) a0 a1 1 ((((f_Mo_throwing ((f_Mo_go ar sc a0 a1 0 0).2.1) ((f_Mo_go ar sc a0 a1 0 0).2.2) 1 0 1).2.2) 1) + (((f_Mo_throwing ((f_Mo_go ar sc a0 a1 0 0).2.1) ((f_Mo_go ar sc a0 a1 0 0).2.2) 1 0 1).2.1) 4 ((f_Mo_classOf ((f_Mo_throwing ((f_Mo_go ar sc a0 a1 0 0).2.1) ((f_Mo_go ar sc a0 a1 0 0).2.2) 1 0 1).2.1) ((f_Mo_throwing ((f_Mo_go ar sc a0 a1 0 0).2.1) ((f_Mo_go ar sc a0 a1 0 0).2.2) 1 0 1).2.2) a0).toNatClampNeg)))).1) hx hb hr (fun t ht hW => ⟨⟨(f_Mo_go ((f_Mo_throwing ((f_Mo_go ar sc a0 a1 0 0).2.1) ((f_Mo_go ar sc a0 a1 0 0).2.2) 1 0 1).2.1) ((f_Mo_throwing ((f_Mo_go ar sc a0 a1 0 0).2.1) ((f_Mo_go ar sc a0 a1 0 0).2.2) 1 0 1).2.2) a0 a1 1 ((((f_Mo_throwing ((f_Mo_go ar sc a0 a1 0 0).2.1) ((f_Mo_go ar sc a0 a1 0 0).2.2) 1 0 1).2.2) 1) + (((f_Mo_throwing ((f_Mo_go ar sc a0 a1 0 0).2.1) ((f_Mo_go ar sc a0 a1 0 0).2.2) 1 0 1).2.1) 4 ((f_Mo_classOf ((f_Mo_throwing ((f_Mo_go ar sc a0 a1 0 0).2.1) ((f_Mo_go ar sc a0 a1 0 0).2.2) 1 0 1).2.1) ((f_Mo_throwing ((f_Mo_go ar sc a0 a1 0 0).2.1) ((f_Mo_go ar sc a0 a1 0 0).2.2) 1 0 1).2.2) a0).toNatClampNeg)))).1, ((f_Mo_go ((f_Mo_throwing ((f_Mo_go ar sc a0 a1 0 0).2.1) ((f_Mo_go ar sc a0 a1 0 0).2.2) 1 0 1).2.1) ((f_Mo_throwing ((f_Mo_go ar sc a0 a1 0 0).2.1) ((f_Mo_go ar sc a0 a1 0 0).2.2) 1 0 1).2.2) a0 a1 1 ((((f_Mo_throwing ((f_Mo_go ar sc a0 a1 0 0).2.1) ((f_Mo_go ar sc a0 a1 0 0).2.2) 1 0 1).2.2) 1) + (((f_Mo_throwing ((f_Mo_go ar sc a0 a1 0 0).2.1) ((f_Mo_go ar sc a0 a1 0 0).2.2) 1 0 1).2.1) 4 ((f_Mo_classOf ((f_Mo_throwing ((f_Mo_go ar sc a0 a1 0 0).2.1) ((f_Mo_go ar sc a0 a1 0 0).2.2) 1 0 1).2.1) ((f_Mo_throwing ((f_Mo_go ar sc a0 a1 0 0).2.1) ((f_Mo_go ar sc a0 a1 0 0).2.2) 1 0 1).2.2) a0).toNatClampNeg)))).2.1, (f_Mo_go ((f_Mo_throwing ((f_Mo_go ar sc a0 a1 0 0).2.1) ((f_Mo_go ar sc a0 a1 0 0).2.2) 1 0 1).2.1) ((f_Mo_throwing ((f_Mo_go ar sc a0 a1 0 0).2.1) ((f_Mo_go ar sc a0 a1 0 0).2.2) 1 0 1).2.2) a0 a1 1 ((((f_Mo_throwing ((f_Mo_go ar sc a0 a1 0 0).2.1) ((f_Mo_go ar sc a0 a1 0 0).2.2) 1 0 1).2.2) 1) + (((f_Mo_throwing ((f_Mo_go ar sc a0 a1 0 0).2.1) ((f_Mo_go ar sc a0 a1 0 0).2.2) 1 0 1).2.1) 4 ((f_Mo_classOf ((f_Mo_throwing ((f_Mo_go ar sc a0 a1 0 0).2.1) ((f_Mo_go ar sc a0 a1 0 0).2.2) 1 0 1).2.1) ((f_Mo_throwing ((f_Mo_go ar sc a0 a1 0 0).2.1) ((f_Mo_go ar sc a0 a1 0 0).2.2) 1 0 1).2.2) a0).toNatClampNeg)))).2.2), rfl, hv, by dsimp only; rw [ht]; exact hP⟩, hS.F ht⟩) hS.2.2 d_Mo_list_78
        · have h := h.2 c51
          refine lv_iconst (v := 0) hx hb d_Mo_list_54 (by decide) ?_
          have hv : ((0, (f_Mo_throwing ((f_Mo_go ar sc a0 a1 0 0).2.1) ((f_Mo_go ar sc a0 a1 0 0).2.2) 1 0 1).2.1, (f_Mo_throwing ((f_Mo_go ar sc a0 a1 0 0).2.1) ((f_Mo_go ar sc a0 a1 0 0).2.2) 1 0 1).2.2) : Int32 × (Nat → Nat → Int32) × (Nat → Int32)) = f_Mo_list ar sc a0 a1 := by rw [f_Mo_list, if_pos c15, if_pos c24, if_neg c40, if_neg c51]
          exact W.iret (v := 0) hx hb hr (fun t ht hW => ⟨⟨0, ((f_Mo_throwing ((f_Mo_go ar sc a0 a1 0 0).2.1) ((f_Mo_go ar sc a0 a1 0 0).2.2) 1 0 1).2.1, (f_Mo_throwing ((f_Mo_go ar sc a0 a1 0 0).2.1) ((f_Mo_go ar sc a0 a1 0 0).2.2) 1 0 1).2.2), rfl, hv, by dsimp only; rw [ht]; exact hP⟩, hS.F ht⟩) hS.2.2 d_Mo_list_55
    · have h := h.2 c24
      refine lv_iconst (v := 1) hx hb d_Mo_list_27 (by decide) ?_
      refine lv_goto (tgt := 32) hx hb d_Mo_list_28 (by decide) ?_
      refine lv_aload_n hx hb d_Mo_list_32 rfl (lv_at hl 1 rfl) ?_
      refine gf_Mo_findings hF hK hP m_205 d_Mo_list_33 ?_
      refine lv_iload_n hx hb d_Mo_list_36 rfl (lv_at hl 0 rfl) ?_
      refine lv_iadd hx hb d_Mo_list_37 ?_
      refine lv_bipush (v := 100) hx hb d_Mo_list_38 (by decide) ?_
      refine lv_icmp_le (tgt := 47) hx hb d_Mo_list_40 (by decide) (fun c40 => ?_) (fun c40 => ?_)
      · have h := h.1 c40
        refine lv_iconst (v := 0) hx hb d_Mo_list_47 (by decide) ?_
        refine r_Mo_throwing hF hK hP hL hS m_283 hl.1 ⟨Nat.le_of_ble_eq_true rfl, Nat.le_of_ble_eq_true rfl⟩ ⟨Nat.zero_le _, Nat.zero_le _⟩ (Nat.le_of_ble_eq_true rfl) d_Mo_list_48 (fun H locs hP hS => ?_)
        refine lv_if_eq (tgt := 56) hx hb d_Mo_list_51 (by decide) (fun c51 => ?_) (fun c51 => ?_)
        · have h := h.1 c51
          refine lv_aload_n hx hb d_Mo_list_56 rfl (lv_at hl 1 rfl) ?_
          refine lv_iload_n hx hb d_Mo_list_57 rfl (lv_at hl 2 rfl) ?_
          refine lv_iload_n hx hb d_Mo_list_58 rfl (lv_at hl 3 rfl) ?_
          refine lv_iconst (v := 1) hx hb d_Mo_list_59 (by decide) ?_
          refine lv_aload_n hx hb d_Mo_list_60 rfl (lv_at hl 1 rfl) ?_
          refine gf_Mo_day hF hK hP m_200 d_Mo_list_61 ?_
          refine lv_aload_n hx hb d_Mo_list_64 rfl (lv_at hl 1 rfl) ?_
          refine gf_Mo_time hF hK hP m_291 d_Mo_list_65 ?_
          refine lv_aload_n hx hb d_Mo_list_68 rfl (lv_at hl 1 rfl) ?_
          refine lv_iload_n hx hb d_Mo_list_69 rfl (lv_at hl 2 rfl) ?_
          have k70 := h.1
          have h := h.2
          refine r_Mo_classOf hF hK hP k70 m_226 hl.1 ⟨Nat.le_of_ble_eq_true rfl, Nat.le_of_ble_eq_true rfl⟩ ⟨Nat.zero_le _, Nat.zero_le _⟩ (Nat.le_of_ble_eq_true rfl) d_Mo_list_70 ?_
          have k73 := h.1
          have h := h.2
          refine alM_4 hF hK hP k73 d_Mo_list_73 ?_
          refine lv_iadd hx hb d_Mo_list_74 ?_
          have k75 := h
          refine r_Mo_go hF hK hP hL hS k75 m_326 hl.1 ⟨Nat.le_of_ble_eq_true rfl, Nat.le_of_ble_eq_true rfl⟩ ⟨Nat.zero_le _, Nat.zero_le _⟩ (Nat.le_of_ble_eq_true rfl) d_Mo_list_75 (fun H locs hP hS => ?_)
          have hv : (((f_Mo_go ((f_Mo_throwing ((f_Mo_go ar sc a0 a1 0 0).2.1) ((f_Mo_go ar sc a0 a1 0 0).2.2) 1 1 0).2.1) ((f_Mo_throwing ((f_Mo_go ar sc a0 a1 0 0).2.1) ((f_Mo_go ar sc a0 a1 0 0).2.2) 1 1 0).2.2) a0 a1 1 ((((f_Mo_throwing ((f_Mo_go ar sc a0 a1 0 0).2.1) ((f_Mo_go ar sc a0 a1 0 0).2.2) 1 1 0).2.2) 1) + (((f_Mo_throwing ((f_Mo_go ar sc a0 a1 0 0).2.1) ((f_Mo_go ar sc a0 a1 0 0).2.2) 1 1 0).2.1) 4 ((f_Mo_classOf ((f_Mo_throwing ((f_Mo_go ar sc a0 a1 0 0).2.1) ((f_Mo_go ar sc a0 a1 0 0).2.2) 1 1 0).2.1) ((f_Mo_throwing ((f_Mo_go ar sc a0 a1 0 0).2.1) ((f_Mo_go ar sc a0 a1 0 0).2.2) 1 1 0).2.2) a0).toNatClampNeg)))).1, (f_Mo_go ((f_Mo_throwing ((f_Mo_go ar sc a0 a1 0 0).2.1) ((f_Mo_go ar sc a0 a1 0 0).2.2) 1 1 0).2.1) ((f_Mo_throwing ((f_Mo_go ar sc a0 a1 0 0).2.1) ((f_Mo_go ar sc a0 a1 0 0).2.2) 1 1 0).2.2) a0 a1 1 ((((f_Mo_throwing ((f_Mo_go ar sc a0 a1 0 0).2.1) ((f_Mo_go ar sc a0 a1 0 0).2.2) 1 1 0).2.2) 1) + (((f_Mo_throwing ((f_Mo_go ar sc a0 a1 0 0).2.1) ((f_Mo_go ar sc a0 a1 0 0).2.2) 1 1 0).2.1) 4 ((f_Mo_classOf ((f_Mo_throwing ((f_Mo_go ar sc a0 a1 0 0).2.1) ((f_Mo_go ar sc a0 a1 0 0).2.2) 1 1 0).2.1) ((f_Mo_throwing ((f_Mo_go ar sc a0 a1 0 0).2.1) ((f_Mo_go ar sc a0 a1 0 0).2.2) 1 1 0).2.2) a0).toNatClampNeg)))).2.1, (f_Mo_go ((f_Mo_throwing ((f_Mo_go ar sc a0 a1 0 0).2.1) ((f_Mo_go ar sc a0 a1 0 0).2.2) 1 1 0).2.1) ((f_Mo_throwing ((f_Mo_go ar sc a0 a1 0 0).2.1) ((f_Mo_go ar sc a0 a1 0 0).2.2) 1 1 0).2.2) a0 a1 1 ((((f_Mo_throwing ((f_Mo_go ar sc a0 a1 0 0).2.1) ((f_Mo_go ar sc a0 a1 0 0).2.2) 1 1 0).2.2) 1) + (((f_Mo_throwing ((f_Mo_go ar sc a0 a1 0 0).2.1) ((f_Mo_go ar sc a0 a1 0 0).2.2) 1 1 0).2.1) 4 ((f_Mo_classOf ((f_Mo_throwing ((f_Mo_go ar sc a0 a1 0 0).2.1) ((f_Mo_go ar sc a0 a1 0 0).2.2) 1 1 0).2.1) ((f_Mo_throwing ((f_Mo_go ar sc a0 a1 0 0).2.1) ((f_Mo_go ar sc a0 a1 0 0).2.2) 1 1 0).2.2) a0).toNatClampNeg)))).2.2) : Int32 × (Nat → Nat → Int32) × (Nat → Int32)) = f_Mo_list ar sc a0 a1 := by rw [f_Mo_list, if_pos c15, if_neg c24, if_pos c40, if_pos c51]
          exact W.iret (v := (f_Mo_go ((f_Mo_throwing ((f_Mo_go ar sc a0 a1 0 0).2.1) ((f_Mo_go ar sc a0 a1 0 0).2.2) 1 1 0).2.1) ((f_Mo_throwing ((f_Mo_go ar sc a0 a1 0 0).2.1) ((f_Mo_go ar sc a0 a1 0 0).2.2) 1 1 0).2.2) a0 a1 1 ((((f_Mo_throwing ((f_Mo_go ar sc a0 a1 0 0).2.1) ((f_Mo_go ar sc a0 a1 0 0).2.2) 1 1 0).2.2) 1) + (((f_Mo_throwing ((f_Mo_go ar sc a0 a1 0 0).2.1) ((f_Mo_go ar sc a0 a1 0 0).2.2) 1 1 0).2.1) 4 ((f_Mo_classOf ((f_Mo_throwing ((f_Mo_go ar sc a0 a1 0 0).2.1) ((f_Mo_go ar sc a0 a1 0 0).2.2) 1 1 0).2.1) ((f_Mo_throwing ((f_Mo_go ar sc a0 a1 0 0).2.1) ((f_Mo_go ar sc a0 a1 0 0).2.2) 1 1 0).2.2) a0).toNatClampNeg)))).1) hx hb hr (fun t ht hW => ⟨⟨(f_Mo_go ((f_Mo_throwing ((f_Mo_go ar sc a0 a1 0 0).2.1) ((f_Mo_go ar sc a0 a1 0 0).2.2) 1 1 0).2.1) ((f_Mo_throwing ((f_Mo_go ar sc a0 a1 0 0).2.1) ((f_Mo_go ar sc a0 a1 0 0).2.2) 1 1 0).2.2) a0 a1 1 ((((f_Mo_throwing ((f_Mo_go ar sc a0 a1 0 0).2.1) ((f_Mo_go ar sc a0 a1 0 0).2.2) 1 1 0).2.2) 1) + (((f_Mo_throwing ((f_Mo_go ar sc a0 a1 0 0).2.1) ((f_Mo_go ar sc a0 a1 0 0).2.2) 1 1 0).2.1) 4 ((f_Mo_classOf ((f_Mo_throwing ((f_Mo_go ar sc a0 a1 0 0).2.1) ((f_Mo_go ar sc a0 a1 0 0).2.2) 1 1 0).2.1) ((f_Mo_throwing ((f_Mo_go ar sc a0 a1 0 0).2.1) ((f_Mo_go ar sc a0 a1 0 0).2.2) 1 1 0).2.2) a0).toNatClampNeg)))).1, ((f_Mo_go ((f_Mo_throwing ((f_Mo_go ar sc a0 a1 0 0).2.1) ((f_Mo_go ar sc a0 a1 0 0).2.2) 1 1 0).2.1) ((f_Mo_throwing ((f_Mo_go ar sc a0 a1 0 0).2.1) ((f_Mo_go ar sc a0 a1 0 0).2.2) 1 1 0).2.2) a0 a1 1 ((((f_Mo_throwing ((f_Mo_go ar sc a0 a1 0 0).2.1) ((f_Mo_go ar sc a0 a1 0 0).2.2) 1 1 0).2.2) 1) + (((f_Mo_throwing ((f_Mo_go ar sc a0 a1 0 0).2.1) ((f_Mo_go ar sc a0 a1 0 0).2.2) 1 1 0).2.1) 4 ((f_Mo_classOf ((f_Mo_throwing ((f_Mo_go ar sc a0 a1 0 0).2.1) ((f_Mo_go ar sc a0 a1 0 0).2.2) 1 1 0).2.1) ((f_Mo_throwing ((f_Mo_go ar sc a0 a1 0 0).2.1) ((f_Mo_go ar sc a0 a1 0 0).2.2) 1 1 0).2.2) a0).toNatClampNeg)))).2.1, (f_Mo_go ((f_Mo_throwing ((f_Mo_go ar sc a0 a1 0 0).2.1) ((f_Mo_go ar sc a0 a1 0 0).2.2) 1 1 0).2.1) ((f_Mo_throwing ((f_Mo_go ar sc a0 a1 0 0).2.1) ((f_Mo_go ar sc a0 a1 0 0).2.2) 1 1 0).2.2) a0 a1 1 ((((f_Mo_throwing ((f_Mo_go ar sc a0 a1 0 0).2.1) ((f_Mo_go ar sc a0 a1 0 0).2.2) 1 1 0).2.2) 1) + (((f_Mo_throwing ((f_Mo_go ar sc a0 a1 0 0).2.1) ((f_Mo_go ar sc a0 a1 0 0).2.2) 1 1 0).2.1) 4 ((f_Mo_classOf ((f_Mo_throwing ((f_Mo_go ar sc a0 a1 0 0).2.1) ((f_Mo_go ar sc a0 a1 0 0).2.2) 1 1 0).2.1) ((f_Mo_throwing ((f_Mo_go ar sc a0 a1 0 0).2.1) ((f_Mo_go ar sc a0 a1 0 0).2.2) 1 1 0).2.2) a0).toNatClampNeg)))).2.2), rfl, hv, by dsimp only; rw [ht]; exact hP⟩, hS.F ht⟩) hS.2.2 d_Mo_list_78
        · have h := h.2 c51
          refine lv_iconst (v := 0) hx hb d_Mo_list_54 (by decide) ?_
          have hv : ((0, (f_Mo_throwing ((f_Mo_go ar sc a0 a1 0 0).2.1) ((f_Mo_go ar sc a0 a1 0 0).2.2) 1 1 0).2.1, (f_Mo_throwing ((f_Mo_go ar sc a0 a1 0 0).2.1) ((f_Mo_go ar sc a0 a1 0 0).2.2) 1 1 0).2.2) : Int32 × (Nat → Nat → Int32) × (Nat → Int32)) = f_Mo_list ar sc a0 a1 := by rw [f_Mo_list, if_pos c15, if_neg c24, if_pos c40, if_neg c51]
          exact W.iret (v := 0) hx hb hr (fun t ht hW => ⟨⟨0, ((f_Mo_throwing ((f_Mo_go ar sc a0 a1 0 0).2.1) ((f_Mo_go ar sc a0 a1 0 0).2.2) 1 1 0).2.1, (f_Mo_throwing ((f_Mo_go ar sc a0 a1 0 0).2.1) ((f_Mo_go ar sc a0 a1 0 0).2.2) 1 1 0).2.2), rfl, hv, by dsimp only; rw [ht]; exact hP⟩, hS.F ht⟩) hS.2.2 d_Mo_list_55
      · have h := h.2 c40
        refine lv_iconst (v := 1) hx hb d_Mo_list_43 (by decide) ?_
        refine lv_goto (tgt := 48) hx hb d_Mo_list_44 (by decide) ?_
        refine r_Mo_throwing hF hK hP hL hS m_283 hl.1 ⟨Nat.le_of_ble_eq_true rfl, Nat.le_of_ble_eq_true rfl⟩ ⟨Nat.zero_le _, Nat.zero_le _⟩ (Nat.le_of_ble_eq_true rfl) d_Mo_list_48 (fun H locs hP hS => ?_)
        refine lv_if_eq (tgt := 56) hx hb d_Mo_list_51 (by decide) (fun c51 => ?_) (fun c51 => ?_)
        · have h := h.1 c51
          refine lv_aload_n hx hb d_Mo_list_56 rfl (lv_at hl 1 rfl) ?_
          refine lv_iload_n hx hb d_Mo_list_57 rfl (lv_at hl 2 rfl) ?_
          refine lv_iload_n hx hb d_Mo_list_58 rfl (lv_at hl 3 rfl) ?_
          refine lv_iconst (v := 1) hx hb d_Mo_list_59 (by decide) ?_
          refine lv_aload_n hx hb d_Mo_list_60 rfl (lv_at hl 1 rfl) ?_
          refine gf_Mo_day hF hK hP m_200 d_Mo_list_61 ?_
          refine lv_aload_n hx hb d_Mo_list_64 rfl (lv_at hl 1 rfl) ?_
          refine gf_Mo_time hF hK hP m_291 d_Mo_list_65 ?_
          refine lv_aload_n hx hb d_Mo_list_68 rfl (lv_at hl 1 rfl) ?_
          refine lv_iload_n hx hb d_Mo_list_69 rfl (lv_at hl 2 rfl) ?_
          have k70 := h.1
          have h := h.2
          refine r_Mo_classOf hF hK hP k70 m_226 hl.1 ⟨Nat.le_of_ble_eq_true rfl, Nat.le_of_ble_eq_true rfl⟩ ⟨Nat.zero_le _, Nat.zero_le _⟩ (Nat.le_of_ble_eq_true rfl) d_Mo_list_70 ?_
          have k73 := h.1
          have h := h.2
          refine alM_4 hF hK hP k73 d_Mo_list_73 ?_
          refine lv_iadd hx hb d_Mo_list_74 ?_
          have k75 := h
          refine r_Mo_go hF hK hP hL hS k75 m_326 hl.1 ⟨Nat.le_of_ble_eq_true rfl, Nat.le_of_ble_eq_true rfl⟩ ⟨Nat.zero_le _, Nat.zero_le _⟩ (Nat.le_of_ble_eq_true rfl) d_Mo_list_75 (fun H locs hP hS => ?_)
          have hv : (((f_Mo_go ((f_Mo_throwing ((f_Mo_go ar sc a0 a1 0 0).2.1) ((f_Mo_go ar sc a0 a1 0 0).2.2) 1 1 1).2.1) ((f_Mo_throwing ((f_Mo_go ar sc a0 a1 0 0).2.1) ((f_Mo_go ar sc a0 a1 0 0).2.2) 1 1 1).2.2) a0 a1 1 ((((f_Mo_throwing ((f_Mo_go ar sc a0 a1 0 0).2.1) ((f_Mo_go ar sc a0 a1 0 0).2.2) 1 1 1).2.2) 1) + (((f_Mo_throwing ((f_Mo_go ar sc a0 a1 0 0).2.1) ((f_Mo_go ar sc a0 a1 0 0).2.2) 1 1 1).2.1) 4 ((f_Mo_classOf ((f_Mo_throwing ((f_Mo_go ar sc a0 a1 0 0).2.1) ((f_Mo_go ar sc a0 a1 0 0).2.2) 1 1 1).2.1) ((f_Mo_throwing ((f_Mo_go ar sc a0 a1 0 0).2.1) ((f_Mo_go ar sc a0 a1 0 0).2.2) 1 1 1).2.2) a0).toNatClampNeg)))).1, (f_Mo_go ((f_Mo_throwing ((f_Mo_go ar sc a0 a1 0 0).2.1) ((f_Mo_go ar sc a0 a1 0 0).2.2) 1 1 1).2.1) ((f_Mo_throwing ((f_Mo_go ar sc a0 a1 0 0).2.1) ((f_Mo_go ar sc a0 a1 0 0).2.2) 1 1 1).2.2) a0 a1 1 ((((f_Mo_throwing ((f_Mo_go ar sc a0 a1 0 0).2.1) ((f_Mo_go ar sc a0 a1 0 0).2.2) 1 1 1).2.2) 1) + (((f_Mo_throwing ((f_Mo_go ar sc a0 a1 0 0).2.1) ((f_Mo_go ar sc a0 a1 0 0).2.2) 1 1 1).2.1) 4 ((f_Mo_classOf ((f_Mo_throwing ((f_Mo_go ar sc a0 a1 0 0).2.1) ((f_Mo_go ar sc a0 a1 0 0).2.2) 1 1 1).2.1) ((f_Mo_throwing ((f_Mo_go ar sc a0 a1 0 0).2.1) ((f_Mo_go ar sc a0 a1 0 0).2.2) 1 1 1).2.2) a0).toNatClampNeg)))).2.1, (f_Mo_go ((f_Mo_throwing ((f_Mo_go ar sc a0 a1 0 0).2.1) ((f_Mo_go ar sc a0 a1 0 0).2.2) 1 1 1).2.1) ((f_Mo_throwing ((f_Mo_go ar sc a0 a1 0 0).2.1) ((f_Mo_go ar sc a0 a1 0 0).2.2) 1 1 1).2.2) a0 a1 1 ((((f_Mo_throwing ((f_Mo_go ar sc a0 a1 0 0).2.1) ((f_Mo_go ar sc a0 a1 0 0).2.2) 1 1 1).2.2) 1) + (((f_Mo_throwing ((f_Mo_go ar sc a0 a1 0 0).2.1) ((f_Mo_go ar sc a0 a1 0 0).2.2) 1 1 1).2.1) 4 ((f_Mo_classOf ((f_Mo_throwing ((f_Mo_go ar sc a0 a1 0 0).2.1) ((f_Mo_go ar sc a0 a1 0 0).2.2) 1 1 1).2.1) ((f_Mo_throwing ((f_Mo_go ar sc a0 a1 0 0).2.1) ((f_Mo_go ar sc a0 a1 0 0).2.2) 1 1 1).2.2) a0).toNatClampNeg)))).2.2) : Int32 × (Nat → Nat → Int32) × (Nat → Int32)) = f_Mo_list ar sc a0 a1 := by rw [f_Mo_list, if_pos c15, if_neg c24, if_neg c40, if_pos c51]
          exact W.iret (v := (f_Mo_go ((f_Mo_throwing ((f_Mo_go ar sc a0 a1 0 0).2.1) ((f_Mo_go ar sc a0 a1 0 0).2.2) 1 1 1).2.1) ((f_Mo_throwing ((f_Mo_go ar sc a0 a1 0 0).2.1) ((f_Mo_go ar sc a0 a1 0 0).2.2) 1 1 1).2.2) a0 a1 1 ((((f_Mo_throwing ((f_Mo_go ar sc a0 a1 0 0).2.1) ((f_Mo_go ar sc a0 a1 0 0).2.2) 1 1 1).2.2) 1) + (((f_Mo_throwing ((f_Mo_go ar sc a0 a1 0 0).2.1) ((f_Mo_go ar sc a0 a1 0 0).2.2) 1 1 1).2.1) 4 ((f_Mo_classOf ((f_Mo_throwing ((f_Mo_go ar sc a0 a1 0 0).2.1) ((f_Mo_go ar sc a0 a1 0 0).2.2) 1 1 1).2.1) ((f_Mo_throwing ((f_Mo_go ar sc a0 a1 0 0).2.1) ((f_Mo_go ar sc a0 a1 0 0).2.2) 1 1 1).2.2) a0).toNatClampNeg)))).1) hx hb hr (fun t ht hW => ⟨⟨(f_Mo_go ((f_Mo_throwing ((f_Mo_go ar sc a0 a1 0 0).2.1) ((f_Mo_go ar sc a0 a1 0 0).2.2) 1 1 1).2.1) ((f_Mo_throwing ((f_Mo_go ar sc a0 a1 0 0).2.1) ((f_Mo_go ar sc a0 a1 0 0).2.2) 1 1 1).2.2) a0 a1 1 ((((f_Mo_throwing ((f_Mo_go ar sc a0 a1 0 0).2.1) ((f_Mo_go ar sc a0 a1 0 0).2.2) 1 1 1).2.2) 1) + (((f_Mo_throwing ((f_Mo_go ar sc a0 a1 0 0).2.1) ((f_Mo_go ar sc a0 a1 0 0).2.2) 1 1 1).2.1) 4 ((f_Mo_classOf ((f_Mo_throwing ((f_Mo_go ar sc a0 a1 0 0).2.1) ((f_Mo_go ar sc a0 a1 0 0).2.2) 1 1 1).2.1) ((f_Mo_throwing ((f_Mo_go ar sc a0 a1 0 0).2.1) ((f_Mo_go ar sc a0 a1 0 0).2.2) 1 1 1).2.2) a0).toNatClampNeg)))).1, ((f_Mo_go ((f_Mo_throwing ((f_Mo_go ar sc a0 a1 0 0).2.1) ((f_Mo_go ar sc a0 a1 0 0).2.2) 1 1 1).2.1) ((f_Mo_throwing ((f_Mo_go ar sc a0 a1 0 0).2.1) ((f_Mo_go ar sc a0 a1 0 0).2.2) 1 1 1).2.2) a0 a1 1 ((((f_Mo_throwing ((f_Mo_go ar sc a0 a1 0 0).2.1) ((f_Mo_go ar sc a0 a1 0 0).2.2) 1 1 1).2.2) 1) + (((f_Mo_throwing ((f_Mo_go ar sc a0 a1 0 0).2.1) ((f_Mo_go ar sc a0 a1 0 0).2.2) 1 1 1).2.1) 4 ((f_Mo_classOf ((f_Mo_throwing ((f_Mo_go ar sc a0 a1 0 0).2.1) ((f_Mo_go ar sc a0 a1 0 0).2.2) 1 1 1).2.1) ((f_Mo_throwing ((f_Mo_go ar sc a0 a1 0 0).2.1) ((f_Mo_go ar sc a0 a1 0 0).2.2) 1 1 1).2.2) a0).toNatClampNeg)))).2.1, (f_Mo_go ((f_Mo_throwing ((f_Mo_go ar sc a0 a1 0 0).2.1) ((f_Mo_go ar sc a0 a1 0 0).2.2) 1 1 1).2.1) ((f_Mo_throwing ((f_Mo_go ar sc a0 a1 0 0).2.1) ((f_Mo_go ar sc a0 a1 0 0).2.2) 1 1 1).2.2) a0 a1 1 ((((f_Mo_throwing ((f_Mo_go ar sc a0 a1 0 0).2.1) ((f_Mo_go ar sc a0 a1 0 0).2.2) 1 1 1).2.2) 1) + (((f_Mo_throwing ((f_Mo_go ar sc a0 a1 0 0).2.1) ((f_Mo_go ar sc a0 a1 0 0).2.2) 1 1 1).2.1) 4 ((f_Mo_classOf ((f_Mo_throwing ((f_Mo_go ar sc a0 a1 0 0).2.1) ((f_Mo_go ar sc a0 a1 0 0).2.2) 1 1 1).2.1) ((f_Mo_throwing ((f_Mo_go ar sc a0 a1 0 0).2.1) ((f_Mo_go ar sc a0 a1 0 0).2.2) 1 1 1).2.2) a0).toNatClampNeg)))).2.2), rfl, hv, by dsimp only; rw [ht]; exact hP⟩, hS.F ht⟩) hS.2.2 d_Mo_list_78
        · have h := h.2 c51
          refine lv_iconst (v := 0) hx hb d_Mo_list_54 (by decide) ?_
          have hv : ((0, (f_Mo_throwing ((f_Mo_go ar sc a0 a1 0 0).2.1) ((f_Mo_go ar sc a0 a1 0 0).2.2) 1 1 1).2.1, (f_Mo_throwing ((f_Mo_go ar sc a0 a1 0 0).2.1) ((f_Mo_go ar sc a0 a1 0 0).2.2) 1 1 1).2.2) : Int32 × (Nat → Nat → Int32) × (Nat → Int32)) = f_Mo_list ar sc a0 a1 := by rw [f_Mo_list, if_pos c15, if_neg c24, if_neg c40, if_neg c51]
          exact W.iret (v := 0) hx hb hr (fun t ht hW => ⟨⟨0, ((f_Mo_throwing ((f_Mo_go ar sc a0 a1 0 0).2.1) ((f_Mo_go ar sc a0 a1 0 0).2.2) 1 1 1).2.1, (f_Mo_throwing ((f_Mo_go ar sc a0 a1 0 0).2.1) ((f_Mo_go ar sc a0 a1 0 0).2.2) 1 1 1).2.2), rfl, hv, by dsimp only; rw [ht]; exact hP⟩, hS.F ht⟩) hS.2.2 d_Mo_list_55
set_option maxHeartbeats 1000000 in
theorem r_Mo_list {p : Program} {l : Launch} {e : Env} {R : Room} {s : State} {m : MethodId} {args : Array Value} {below : List Frame} {meth : Method} {c : Code} {H : Heap} {locs : List Loc} {cells slots : Nat} {Q : State → Prop} {cc : ByteArray} {nL pc idx : Nat} {ls : Array Slot} {rest : List Value} {own : String} {dC : Nat → ClassId} {dI : Nat → Nat → Nat} {L : Nat → Nat} {cA : Nat → ClassId} {ar : Nat → Nat → Int32} {sc : Nat → Int32} {H0 : Heap} {a0 : Int32} {a1 : Int32} (hF : CallFix p m c cc nL s args w_all own) (hK : kW_M dC dI cA s) (hP : va_P (dC, dI) classes (wM L cA ar sc) H) (hL : ij 25 L) (hS : va_S (aM L) H0 H locs) (h : p_Mo_list ar sc a0 a1) (hlk : Cond.methodLink own idx y_Mo_list ∈ w_all) (hsz : ls.size = nL) (hR : (rmD 5).frames + 1 ≤ R.frames ∧ 8 + (4 + 11) + (rmD 5).locals ≤ R.locals) (hc : cells ≤ R.cells ∧ slots ≤ R.slots) (hrs : (rest.map fun v => v.category).sum ≤ 8) (hdg : decode cc pc = .ok (.invokevirtual idx, 3)) (kk : ∀ (H1 : Heap) (locs1 : List Loc), va_P (dC, dI) classes (wM L cA ((f_Mo_list ar sc a0 a1).2.1) ((f_Mo_list ar sc a0 a1).2.2)) H1 → va_S (aM L) H0 H1 locs1 → W p l e R s m args below meth c H1 locs1 cells slots Q (F0 m (pc + 3) ls (.int (f_Mo_list ar sc a0 a1).1 :: rest))) : W p l e R s m args below meth c H locs cells slots Q (F0 m pc ls (.int a1 :: .int a0 :: .ref (L 0) :: rest)) :=
  va_calli (va_runV (As := [.int a0, .int a1]) (rest := rest) hF (c_Mo_list l dC dI L cA ar sc a0 a1 hL h) (cwV 2 hF.2.2.2.2 (gV hlk m_327 m_328 m_187 m_329) rfl rfl rfl (by decide +kernel) hR) ⟨xb_M, va_recv hK.1 hP (ci := 7) (q0 := 0) rfl rfl, fun U hU hW => ⟨rfl, by rw [hU]; exact hP, kW_M_warm hW hK⟩⟩ rfl rfl hsz rfl (lv_room hrs) hdg hc) hS (fun q _ h9 => h9) (fun q h9 => h9) (fun r u t H1 locs1 ht hvm hw hB hz1 hk1 hS1 => by
    have hk9 := kk H1 locs1 (by rw [← hw, ← ht]; exact hB) hS1
    rw [← hw] at hk9
    exact hk9)

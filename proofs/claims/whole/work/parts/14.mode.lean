theorem m_337 : (Cond.instanceMethod y_Mo_stop) ∈ w_all := List.mem_filter.mpr ⟨List.mem_of_getElem? (i := 947) (by decide +kernel), by decide +kernel⟩
theorem m_338 : (Cond.selects R_Mo y_Mo_stop y_Mo_stop) ∈ w_all := List.mem_filter.mpr ⟨List.mem_of_getElem? (i := 948) (by decide +kernel), by decide +kernel⟩
theorem m_339 : (Cond.code y_Mo_stop b_Mo_stop 2 (some .int)) ∈ w_all := List.mem_filter.mpr ⟨List.mem_of_getElem? (i := 949) (by decide +kernel), by decide +kernel⟩
theorem m_340 : (Cond.constant R_Mo 168 1000000) ∈ w_all := List.mem_filter.mpr ⟨List.mem_of_getElem? (i := 955) (by decide +kernel), by decide +kernel⟩
theorem m_341 : (Cond.instanceMethod y_Mo_rules) ∈ w_all := List.mem_filter.mpr ⟨List.mem_of_getElem? (i := 951) (by decide +kernel), by decide +kernel⟩
theorem m_342 : (Cond.selects R_Mo y_Mo_rules y_Mo_rules) ∈ w_all := List.mem_filter.mpr ⟨List.mem_of_getElem? (i := 952) (by decide +kernel), by decide +kernel⟩
theorem m_343 : (Cond.code y_Mo_rules b_Mo_rules 3 none) ∈ w_all := List.mem_filter.mpr ⟨List.mem_of_getElem? (i := 953) (by decide +kernel), by decide +kernel⟩
theorem m_344 : (Cond.constant R_Mo 187 9999999) ∈ w_all := List.mem_filter.mpr ⟨List.mem_of_getElem? (i := 968) (by decide +kernel), by decide +kernel⟩
theorem m_345 : (Cond.fieldLink R_Mo 91 "InspectRowsModel" "clash" "I") ∈ w_all := List.mem_filter.mpr ⟨List.mem_of_getElem? (i := 756) (by decide +kernel), by decide +kernel⟩
theorem m_346 : (Cond.methodLink R_Mo 188 y_Mo_refusal) ∈ w_all := List.mem_filter.mpr ⟨List.mem_of_getElem? (i := 969) (by decide +kernel), by decide +kernel⟩
theorem m_347 : (Cond.instanceMethod y_Mo_permit) ∈ w_all := List.mem_filter.mpr ⟨List.mem_of_getElem? (i := 965) (by decide +kernel), by decide +kernel⟩
theorem m_348 : (Cond.selects R_Mo y_Mo_permit y_Mo_permit) ∈ w_all := List.mem_filter.mpr ⟨List.mem_of_getElem? (i := 966) (by decide +kernel), by decide +kernel⟩
theorem m_349 : (Cond.code y_Mo_permit b_Mo_permit 6 (some .int)) ∈ w_all := List.mem_filter.mpr ⟨List.mem_of_getElem? (i := 967) (by decide +kernel), by decide +kernel⟩
theorem m_350 : (Cond.methodLink R_Mo 170 y_Mo_isPlace) ∈ w_all := List.mem_filter.mpr ⟨List.mem_of_getElem? (i := 960) (by decide +kernel), by decide +kernel⟩
theorem m_351 : (Cond.instanceMethod y_Mo_ground) ∈ w_all := List.mem_filter.mpr ⟨List.mem_of_getElem? (i := 957) (by decide +kernel), by decide +kernel⟩
theorem m_352 : (Cond.selects R_Mo y_Mo_ground y_Mo_ground) ∈ w_all := List.mem_filter.mpr ⟨List.mem_of_getElem? (i := 958) (by decide +kernel), by decide +kernel⟩
theorem m_353 : (Cond.code y_Mo_ground b_Mo_ground 7 none) ∈ w_all := List.mem_filter.mpr ⟨List.mem_of_getElem? (i := 959) (by decide +kernel), by decide +kernel⟩
theorem m_354 : (Cond.instanceMethod y_Mo_clash) ∈ w_all := List.mem_filter.mpr ⟨List.mem_of_getElem? (i := 981) (by decide +kernel), by decide +kernel⟩
theorem m_355 : (Cond.selects R_Mo y_Mo_clash y_Mo_clash) ∈ w_all := List.mem_filter.mpr ⟨List.mem_of_getElem? (i := 982) (by decide +kernel), by decide +kernel⟩
theorem m_356 : (Cond.code y_Mo_clash b_Mo_clash 1 (some .int)) ∈ w_all := List.mem_filter.mpr ⟨List.mem_of_getElem? (i := 983) (by decide +kernel), by decide +kernel⟩
theorem m_357 : (Cond.instanceMethod y_Mo_touches) ∈ w_all := List.mem_filter.mpr ⟨List.mem_of_getElem? (i := 985) (by decide +kernel), by decide +kernel⟩
theorem m_358 : (Cond.selects R_Mo y_Mo_touches y_Mo_touches) ∈ w_all := List.mem_filter.mpr ⟨List.mem_of_getElem? (i := 986) (by decide +kernel), by decide +kernel⟩
theorem m_359 : (Cond.code y_Mo_touches b_Mo_touches 2 (some .int)) ∈ w_all := List.mem_filter.mpr ⟨List.mem_of_getElem? (i := 987) (by decide +kernel), by decide +kernel⟩
theorem m_360 : (Cond.constant R_Mo 192 1103515245) ∈ w_all := List.mem_filter.mpr ⟨List.mem_of_getElem? (i := 992) (by decide +kernel), by decide +kernel⟩
theorem m_361 : (Cond.instanceMethod y_Mo_surprise) ∈ w_all := List.mem_filter.mpr ⟨List.mem_of_getElem? (i := 989) (by decide +kernel), by decide +kernel⟩
theorem m_362 : (Cond.selects R_Mo y_Mo_surprise y_Mo_surprise) ∈ w_all := List.mem_filter.mpr ⟨List.mem_of_getElem? (i := 990) (by decide +kernel), by decide +kernel⟩
theorem m_363 : (Cond.code y_Mo_surprise b_Mo_surprise 3 (some .int)) ∈ w_all := List.mem_filter.mpr ⟨List.mem_of_getElem? (i := 991) (by decide +kernel), by decide +kernel⟩
theorem d_Mo_stop_0 : decode b_Mo_stop 0 = .ok (.aload_n 0, 1) := by decide +kernel
theorem d_Mo_stop_1 : decode b_Mo_stop 1 = .ok (.iload_n 1, 1) := by decide +kernel
theorem d_Mo_stop_2 : decode b_Mo_stop 2 = .ok (.ifCond .ge 7, 3) := by decide +kernel
theorem d_Mo_stop_5 : decode b_Mo_stop 5 = .ok (.iconst 1, 1) := by decide +kernel
theorem d_Mo_stop_6 : decode b_Mo_stop 6 = .ok (.goto 4, 3) := by decide +kernel
theorem d_Mo_stop_9 : decode b_Mo_stop 9 = .ok (.iconst 0, 1) := by decide +kernel
theorem d_Mo_stop_10 : decode b_Mo_stop 10 = .ok (.iconst 0, 1) := by decide +kernel
theorem d_Mo_stop_11 : decode b_Mo_stop 11 = .ok (.iconst 0, 1) := by decide +kernel
theorem d_Mo_stop_12 : decode b_Mo_stop 12 = .ok (.invokevirtual 104, 3) := by decide +kernel
theorem d_Mo_stop_15 : decode b_Mo_stop 15 = .ok (.ifCond .eq 5, 3) := by decide +kernel
theorem d_Mo_stop_18 : decode b_Mo_stop 18 = .ok (.iconst 0, 1) := by decide +kernel
theorem d_Mo_stop_19 : decode b_Mo_stop 19 = .ok (.ireturn, 1) := by decide +kernel
theorem d_Mo_stop_20 : decode b_Mo_stop 20 = .ok (.iload_n 1, 1) := by decide +kernel
theorem d_Mo_stop_21 : decode b_Mo_stop 21 = .ok (.aload_n 0, 1) := by decide +kernel
theorem d_Mo_stop_22 : decode b_Mo_stop 22 = .ok (.getfield 164, 3) := by decide +kernel
theorem d_Mo_stop_25 : decode b_Mo_stop 25 = .ok (.if_icmp .ge 12, 3) := by decide +kernel
theorem d_Mo_stop_28 : decode b_Mo_stop 28 = .ok (.aload_n 0, 1) := by decide +kernel
theorem d_Mo_stop_29 : decode b_Mo_stop 29 = .ok (.getfield 65, 3) := by decide +kernel
theorem d_Mo_stop_32 : decode b_Mo_stop 32 = .ok (.iload_n 1, 1) := by decide +kernel
theorem d_Mo_stop_33 : decode b_Mo_stop 33 = .ok (.iaload, 1) := by decide +kernel
theorem d_Mo_stop_34 : decode b_Mo_stop 34 = .ok (.goto 4, 3) := by decide +kernel
theorem d_Mo_stop_37 : decode b_Mo_stop 37 = .ok (.iconst (-1), 1) := by decide +kernel
theorem d_Mo_stop_38 : decode b_Mo_stop 38 = .ok (.ireturn, 1) := by decide +kernel
set_option maxHeartbeats 4000000 in
set_option maxRecDepth 100000 in
theorem c_Mo_stop (l : Launch) (dC : Nat → ClassId) (dI : Nat → Nat → Nat) (L : Nat → Nat) (cA : Nat → ClassId) (ar : Nat → Nat → Int32) (sc : Nat → Int32) (a0 : Int32) (hL : ij 25 L) (h : p_Mo_stop ar sc a0) : Met l y_Mo_stop z_Mo_stop (rmD 5) (va_Pc [.ref (L 0), .int a0] (fun U => xw_M dC dI L cA ar sc U)) (va_Qi (fun (r : Int32) (u : oS) => (r, u.1, u.2) = f_Mo_stop ar sc a0) (fun u t => va_P (dC, dI) classes (wM L cA u.1 u.2) t.heap) (aM L)) 0 0 (aM L) := by
  refine Met.ofW (cc := b_Mo_stop) (maxL := 2) (ret := (some .int)) (by decide) rfl ?_
  intro p e s m args below meth c s₁ B hml hv
  obtain ⟨rfl, ⟨hP, hK⟩⟩ := hv
  have hx := B.exec
  have hb := B.bytes
  have hr := B.returns
  have hts : ∀ w ∈ w_all, w.before _ s = true := fun w hw => atoms_spec (ws := z_Mo_stop) B.pre w (List.mem_cons_of_mem _ hw)
  have hown : s.vm.findClass R_Mo = some m.cls := findClass_of_methodNamed B.named
  have hlocks := B.notSynchronized
  have hF : CallFix p m c b_Mo_stop 2 s _ w_all R_Mo := ⟨hx, hb, hml, hown, hts⟩
  have hS : va_S (aM L) s.heap s.heap [] := va_S.rf
  have hl := lv_entry ([.ref (L 0), .int a0]) (n := 2) (Nat.le_of_ble_eq_true rfl)
  rw [lg_entry_eq]
  generalize (lg_sl ([.ref (L 0), .int a0]) ++ List.replicate (2 - (lg_sl ([.ref (L 0), .int a0])).length) Slot.unset).toArray = ls at hl ⊢
  have hl : lv_has ls 2 [(0, .ref (L 0)), (1, .int a0)] := hl
  unfold p_Mo_stop at h
  refine lv_aload_n hx hb d_Mo_stop_0 rfl (lv_at hl 0 rfl) ?_
  refine lv_iload_n hx hb d_Mo_stop_1 rfl (lv_at hl 1 rfl) ?_
  refine lv_if_ge (tgt := 9) hx hb d_Mo_stop_2 (by decide) (fun c2 => ?_) (fun c2 => ?_)
  · have h := h.1 c2
    refine lv_iconst (v := 0) hx hb d_Mo_stop_9 (by decide) ?_
    refine lv_iconst (v := 0) hx hb d_Mo_stop_10 (by decide) ?_
    refine lv_iconst (v := 0) hx hb d_Mo_stop_11 (by decide) ?_
    refine r_Mo_throwing hF hK hP hL hS m_283 hl.1 ⟨Nat.le_of_ble_eq_true rfl, Nat.le_of_ble_eq_true rfl⟩ ⟨Nat.zero_le _, Nat.zero_le _⟩ (Nat.le_of_ble_eq_true rfl) d_Mo_stop_12 (fun H locs hP hS => ?_)
    refine lv_if_eq (tgt := 20) hx hb d_Mo_stop_15 (by decide) (fun c15 => ?_) (fun c15 => ?_)
    · have h := h.1 c15
      refine lv_iload_n hx hb d_Mo_stop_20 rfl (lv_at hl 1 rfl) ?_
      refine lv_aload_n hx hb d_Mo_stop_21 rfl (lv_at hl 0 rfl) ?_
      refine gf_Mo_stops hF hK hP m_332 d_Mo_stop_22 ?_
      refine lv_icmp_ge (tgt := 37) hx hb d_Mo_stop_25 (by decide) (fun c25 => ?_) (fun c25 => ?_)
      · have h := h.1 c25
        refine lv_iconst (v := (-1)) hx hb d_Mo_stop_37 (by decide) ?_
        have hv : (((-1), (f_Mo_throwing ar sc 0 0 0).2.1, (f_Mo_throwing ar sc 0 0 0).2.2) : Int32 × (Nat → Nat → Int32) × (Nat → Int32)) = f_Mo_stop ar sc a0 := by rw [f_Mo_stop, if_pos c2, if_pos c15, if_pos c25]
        exact W.iret (v := (-1)) hx hb hr (fun t ht hW => ⟨⟨(-1), ((f_Mo_throwing ar sc 0 0 0).2.1, (f_Mo_throwing ar sc 0 0 0).2.2), rfl, hv, by dsimp only; rw [ht]; exact hP⟩, hS.F ht⟩) hS.2.2 d_Mo_stop_38
      · have h := h.2 c25
        refine lv_aload_n hx hb d_Mo_stop_28 rfl (lv_at hl 0 rfl) ?_
        refine gf_Mo_stop hF hK hP m_331 d_Mo_stop_29 ?_
        refine lv_iload_n hx hb d_Mo_stop_32 rfl (lv_at hl 1 rfl) ?_
        have k33 := h
        refine alM_19 hF hK hP k33 d_Mo_stop_33 ?_
        refine lv_goto (tgt := 38) hx hb d_Mo_stop_34 (by decide) ?_
        have hv : ((((f_Mo_throwing ar sc 0 0 0).2.1) 19 a0.toNatClampNeg, (f_Mo_throwing ar sc 0 0 0).2.1, (f_Mo_throwing ar sc 0 0 0).2.2) : Int32 × (Nat → Nat → Int32) × (Nat → Int32)) = f_Mo_stop ar sc a0 := by rw [f_Mo_stop, if_pos c2, if_pos c15, if_neg c25]
        exact W.iret (v := ((f_Mo_throwing ar sc 0 0 0).2.1) 19 a0.toNatClampNeg) hx hb hr (fun t ht hW => ⟨⟨((f_Mo_throwing ar sc 0 0 0).2.1) 19 a0.toNatClampNeg, ((f_Mo_throwing ar sc 0 0 0).2.1, (f_Mo_throwing ar sc 0 0 0).2.2), rfl, hv, by dsimp only; rw [ht]; exact hP⟩, hS.F ht⟩) hS.2.2 d_Mo_stop_38
    · have h := h.2 c15
      refine lv_iconst (v := 0) hx hb d_Mo_stop_18 (by decide) ?_
      have hv : ((0, (f_Mo_throwing ar sc 0 0 0).2.1, (f_Mo_throwing ar sc 0 0 0).2.2) : Int32 × (Nat → Nat → Int32) × (Nat → Int32)) = f_Mo_stop ar sc a0 := by rw [f_Mo_stop, if_pos c2, if_neg c15]
      exact W.iret (v := 0) hx hb hr (fun t ht hW => ⟨⟨0, ((f_Mo_throwing ar sc 0 0 0).2.1, (f_Mo_throwing ar sc 0 0 0).2.2), rfl, hv, by dsimp only; rw [ht]; exact hP⟩, hS.F ht⟩) hS.2.2 d_Mo_stop_19
  · have h := h.2 c2
    refine lv_iconst (v := 1) hx hb d_Mo_stop_5 (by decide) ?_
    refine lv_goto (tgt := 10) hx hb d_Mo_stop_6 (by decide) ?_
    refine lv_iconst (v := 0) hx hb d_Mo_stop_10 (by decide) ?_
    refine lv_iconst (v := 0) hx hb d_Mo_stop_11 (by decide) ?_
    refine r_Mo_throwing hF hK hP hL hS m_283 hl.1 ⟨Nat.le_of_ble_eq_true rfl, Nat.le_of_ble_eq_true rfl⟩ ⟨Nat.zero_le _, Nat.zero_le _⟩ (Nat.le_of_ble_eq_true rfl) d_Mo_stop_12 (fun H locs hP hS => ?_)
    refine lv_if_eq (tgt := 20) hx hb d_Mo_stop_15 (by decide) (fun c15 => ?_) (fun c15 => ?_)
    · have h := h.1 c15
      refine lv_iload_n hx hb d_Mo_stop_20 rfl (lv_at hl 1 rfl) ?_
      refine lv_aload_n hx hb d_Mo_stop_21 rfl (lv_at hl 0 rfl) ?_
      refine gf_Mo_stops hF hK hP m_332 d_Mo_stop_22 ?_
      refine lv_icmp_ge (tgt := 37) hx hb d_Mo_stop_25 (by decide) (fun c25 => ?_) (fun c25 => ?_)
      · have h := h.1 c25
        refine lv_iconst (v := (-1)) hx hb d_Mo_stop_37 (by decide) ?_
        have hv : (((-1), (f_Mo_throwing ar sc 1 0 0).2.1, (f_Mo_throwing ar sc 1 0 0).2.2) : Int32 × (Nat → Nat → Int32) × (Nat → Int32)) = f_Mo_stop ar sc a0 := by rw [f_Mo_stop, if_neg c2, if_pos c15, if_pos c25]
        exact W.iret (v := (-1)) hx hb hr (fun t ht hW => ⟨⟨(-1), ((f_Mo_throwing ar sc 1 0 0).2.1, (f_Mo_throwing ar sc 1 0 0).2.2), rfl, hv, by dsimp only; rw [ht]; exact hP⟩, hS.F ht⟩) hS.2.2 d_Mo_stop_38
      · have h := h.2 c25
        refine lv_aload_n hx hb d_Mo_stop_28 rfl (lv_at hl 0 rfl) ?_
        refine gf_Mo_stop hF hK hP m_331 d_Mo_stop_29 ?_
        refine lv_iload_n hx hb d_Mo_stop_32 rfl (lv_at hl 1 rfl) ?_
        have k33 := h
        refine alM_19 hF hK hP k33 d_Mo_stop_33 ?_
        refine lv_goto (tgt := 38) hx hb d_Mo_stop_34 (by decide) ?_
        have hv : ((((f_Mo_throwing ar sc 1 0 0).2.1) 19 a0.toNatClampNeg, (f_Mo_throwing ar sc 1 0 0).2.1, (f_Mo_throwing ar sc 1 0 0).2.2) : Int32 × (Nat → Nat → Int32) × (Nat → Int32)) = f_Mo_stop ar sc a0 := by rw [f_Mo_stop, if_neg c2, if_pos c15, if_neg c25]
        exact W.iret (v := ((f_Mo_throwing ar sc 1 0 0).2.1) 19 a0.toNatClampNeg) hx hb hr (fun t ht hW => ⟨⟨((f_Mo_throwing ar sc 1 0 0).2.1) 19 a0.toNatClampNeg, ((f_Mo_throwing ar sc 1 0 0).2.1, (f_Mo_throwing ar sc 1 0 0).2.2), rfl, hv, by dsimp only; rw [ht]; exact hP⟩, hS.F ht⟩) hS.2.2 d_Mo_stop_38
    · have h := h.2 c15
      refine lv_iconst (v := 0) hx hb d_Mo_stop_18 (by decide) ?_
      have hv : ((0, (f_Mo_throwing ar sc 1 0 0).2.1, (f_Mo_throwing ar sc 1 0 0).2.2) : Int32 × (Nat → Nat → Int32) × (Nat → Int32)) = f_Mo_stop ar sc a0 := by rw [f_Mo_stop, if_neg c2, if_neg c15]
      exact W.iret (v := 0) hx hb hr (fun t ht hW => ⟨⟨0, ((f_Mo_throwing ar sc 1 0 0).2.1, (f_Mo_throwing ar sc 1 0 0).2.2), rfl, hv, by dsimp only; rw [ht]; exact hP⟩, hS.F ht⟩) hS.2.2 d_Mo_stop_19
set_option maxHeartbeats 1000000 in
theorem r_Mo_stop {p : Program} {l : Launch} {e : Env} {R : Room} {s : State} {m : MethodId} {args : Array Value} {below : List Frame} {meth : Method} {c : Code} {H : Heap} {locs : List Loc} {cells slots : Nat} {Q : State → Prop} {cc : ByteArray} {nL pc idx : Nat} {ls : Array Slot} {rest : List Value} {own : String} {dC : Nat → ClassId} {dI : Nat → Nat → Nat} {L : Nat → Nat} {cA : Nat → ClassId} {ar : Nat → Nat → Int32} {sc : Nat → Int32} {H0 : Heap} {a0 : Int32} (hF : CallFix p m c cc nL s args w_all own) (hK : kW_M dC dI cA s) (hP : va_P (dC, dI) classes (wM L cA ar sc) H) (hL : ij 25 L) (hS : va_S (aM L) H0 H locs) (h : p_Mo_stop ar sc a0) (hlk : Cond.methodLink own idx y_Mo_stop ∈ w_all) (hsz : ls.size = nL) (hR : (rmD 5).frames + 1 ≤ R.frames ∧ 8 + (2 + 11) + (rmD 5).locals ≤ R.locals) (hc : cells ≤ R.cells ∧ slots ≤ R.slots) (hrs : (rest.map fun v => v.category).sum ≤ 8) (hdg : decode cc pc = .ok (.invokevirtual idx, 3)) (kk : ∀ (H1 : Heap) (locs1 : List Loc), va_P (dC, dI) classes (wM L cA ((f_Mo_stop ar sc a0).2.1) ((f_Mo_stop ar sc a0).2.2)) H1 → va_S (aM L) H0 H1 locs1 → W p l e R s m args below meth c H1 locs1 cells slots Q (F0 m (pc + 3) ls (.int (f_Mo_stop ar sc a0).1 :: rest))) : W p l e R s m args below meth c H locs cells slots Q (F0 m pc ls (.int a0 :: .ref (L 0) :: rest)) :=
  va_calli (va_runV (As := [.int a0]) (rest := rest) hF (c_Mo_stop l dC dI L cA ar sc a0 hL h) (cwV 1 hF.2.2.2.2 (gV hlk m_337 m_338 m_187 m_339) rfl rfl rfl (by decide +kernel) hR) ⟨xb_M, va_recv hK.1 hP (ci := 7) (q0 := 0) rfl rfl, fun U hU hW => ⟨rfl, by rw [hU]; exact hP, kW_M_warm hW hK⟩⟩ rfl rfl hsz rfl (lv_room hrs) hdg hc) hS (fun q _ h9 => h9) (fun q h9 => h9) (fun r u t H1 locs1 ht hvm hw hB hz1 hk1 hS1 => by
    have hk9 := kk H1 locs1 (by rw [← hw, ← ht]; exact hB) hS1
    rw [← hw] at hk9
    exact hk9)
theorem d_Mo_rules_0 : decode b_Mo_rules 0 = .ok (.aload_n 0, 1) := by decide +kernel
theorem d_Mo_rules_1 : decode b_Mo_rules 1 = .ok (.iload_n 1, 1) := by decide +kernel
theorem d_Mo_rules_2 : decode b_Mo_rules 2 = .ok (.iconst 0, 1) := by decide +kernel
theorem d_Mo_rules_3 : decode b_Mo_rules 3 = .ok (.ldc 167, 2) := by decide +kernel
theorem d_Mo_rules_5 : decode b_Mo_rules 5 = .ok (.invokestatic 100, 3) := by decide +kernel
theorem d_Mo_rules_8 : decode b_Mo_rules 8 = .ok (.ifCond .eq 13, 3) := by decide +kernel
theorem d_Mo_rules_11 : decode b_Mo_rules 11 = .ok (.iload_n 2, 1) := by decide +kernel
theorem d_Mo_rules_12 : decode b_Mo_rules 12 = .ok (.iconst 0, 1) := by decide +kernel
theorem d_Mo_rules_13 : decode b_Mo_rules 13 = .ok (.ldc 168, 2) := by decide +kernel
theorem d_Mo_rules_15 : decode b_Mo_rules 15 = .ok (.invokestatic 100, 3) := by decide +kernel
theorem d_Mo_rules_18 : decode b_Mo_rules 18 = .ok (.ifCond .ne 7, 3) := by decide +kernel
theorem d_Mo_rules_21 : decode b_Mo_rules 21 = .ok (.iconst 1, 1) := by decide +kernel
theorem d_Mo_rules_22 : decode b_Mo_rules 22 = .ok (.goto 4, 3) := by decide +kernel
theorem d_Mo_rules_25 : decode b_Mo_rules 25 = .ok (.iconst 0, 1) := by decide +kernel
theorem d_Mo_rules_26 : decode b_Mo_rules 26 = .ok (.iconst 0, 1) := by decide +kernel
theorem d_Mo_rules_27 : decode b_Mo_rules 27 = .ok (.iconst 0, 1) := by decide +kernel
theorem d_Mo_rules_28 : decode b_Mo_rules 28 = .ok (.invokevirtual 104, 3) := by decide +kernel
theorem d_Mo_rules_31 : decode b_Mo_rules 31 = .ok (.ifCond .eq 4, 3) := by decide +kernel
theorem d_Mo_rules_34 : decode b_Mo_rules 34 = .ok (.return_, 1) := by decide +kernel
theorem d_Mo_rules_35 : decode b_Mo_rules 35 = .ok (.aload_n 0, 1) := by decide +kernel
theorem d_Mo_rules_36 : decode b_Mo_rules 36 = .ok (.iload_n 1, 1) := by decide +kernel
theorem d_Mo_rules_37 : decode b_Mo_rules 37 = .ok (.putfield 75, 3) := by decide +kernel
theorem d_Mo_rules_40 : decode b_Mo_rules 40 = .ok (.aload_n 0, 1) := by decide +kernel
theorem d_Mo_rules_41 : decode b_Mo_rules 41 = .ok (.iload_n 2, 1) := by decide +kernel
theorem d_Mo_rules_42 : decode b_Mo_rules 42 = .ok (.putfield 79, 3) := by decide +kernel
theorem d_Mo_rules_45 : decode b_Mo_rules 45 = .ok (.return_, 1) := by decide +kernel
set_option maxHeartbeats 4000000 in
set_option maxRecDepth 100000 in
theorem c_Mo_rules (l : Launch) (dC : Nat → ClassId) (dI : Nat → Nat → Nat) (L : Nat → Nat) (cA : Nat → ClassId) (ar : Nat → Nat → Int32) (sc : Nat → Int32) (a0 : Int32) (a1 : Int32) (hL : ij 25 L) : Met l y_Mo_rules z_Mo_rules (rmD 5) (va_Pc [.ref (L 0), .int a0, .int a1] (fun U => xw_M dC dI L cA ar sc U)) (va_Qv (fun u : oS => (u.1, u.2) = f_Mo_rules ar sc a0 a1) (fun u t => va_P (dC, dI) classes (wM L cA u.1 u.2) t.heap) (aM L)) 0 0 (aM L) := by
  refine Met.ofW (cc := b_Mo_rules) (maxL := 3) (ret := none) (by decide) rfl ?_
  intro p e s m args below meth c s₁ B hml hv
  obtain ⟨rfl, ⟨hP, hK⟩⟩ := hv
  have hx := B.exec
  have hb := B.bytes
  have hr := B.returns
  have hts : ∀ w ∈ w_all, w.before _ s = true := fun w hw => atoms_spec (ws := z_Mo_rules) B.pre w (List.mem_cons_of_mem _ hw)
  have hown : s.vm.findClass R_Mo = some m.cls := findClass_of_methodNamed B.named
  have hlocks := B.notSynchronized
  have hF : CallFix p m c b_Mo_rules 3 s _ w_all R_Mo := ⟨hx, hb, hml, hown, hts⟩
  have hS : va_S (aM L) s.heap s.heap [] := va_S.rf
  have hl := lv_entry ([.ref (L 0), .int a0, .int a1]) (n := 3) (Nat.le_of_ble_eq_true rfl)
  rw [lg_entry_eq]
  generalize (lg_sl ([.ref (L 0), .int a0, .int a1]) ++ List.replicate (3 - (lg_sl ([.ref (L 0), .int a0, .int a1])).length) Slot.unset).toArray = ls at hl ⊢
  have hl : lv_has ls 3 [(0, .ref (L 0)), (1, .int a0), (2, .int a1)] := hl
  refine lv_aload_n hx hb d_Mo_rules_0 rfl (lv_at hl 0 rfl) ?_
  refine lv_iload_n hx hb d_Mo_rules_1 rfl (lv_at hl 1 rfl) ?_
  refine lv_iconst (v := 0) hx hb d_Mo_rules_2 (by decide) ?_
  refine lv_ldc (v := 10000000) hx hb hown (hts _ m_263) d_Mo_rules_3 ?_
  refine r_Mo_in hF m_195 hl.1 ⟨Nat.le_of_ble_eq_true rfl, Nat.le_of_ble_eq_true rfl⟩ ⟨Nat.zero_le _, Nat.zero_le _⟩ (Nat.le_of_ble_eq_true rfl) d_Mo_rules_5 ?_
  refine lv_if_eq (tgt := 21) hx hb d_Mo_rules_8 (by decide) (fun c8 => ?_) (fun c8 => ?_)
  · refine lv_iconst (v := 1) hx hb d_Mo_rules_21 (by decide) ?_
    refine lv_goto (tgt := 26) hx hb d_Mo_rules_22 (by decide) ?_
    refine lv_iconst (v := 0) hx hb d_Mo_rules_26 (by decide) ?_
    refine lv_iconst (v := 0) hx hb d_Mo_rules_27 (by decide) ?_
    refine r_Mo_throwing hF hK hP hL hS m_283 hl.1 ⟨Nat.le_of_ble_eq_true rfl, Nat.le_of_ble_eq_true rfl⟩ ⟨Nat.zero_le _, Nat.zero_le _⟩ (Nat.le_of_ble_eq_true rfl) d_Mo_rules_28 (fun H locs hP hS => ?_)
    refine lv_if_eq (tgt := 35) hx hb d_Mo_rules_31 (by decide) (fun c31 => ?_) (fun c31 => ?_)
    · refine lv_aload_n hx hb d_Mo_rules_35 rfl (lv_at hl 0 rfl) ?_
      refine lv_iload_n hx hb d_Mo_rules_36 rfl (lv_at hl 1 rfl) ?_
      refine pf_Mo_space hF hK hP hL hS m_279 d_Mo_rules_37 (fun H locs hP hS => ?_)
      refine lv_aload_n hx hb d_Mo_rules_40 rfl (lv_at hl 0 rfl) ?_
      refine lv_iload_n hx hb d_Mo_rules_41 rfl (lv_at hl 2 rfl) ?_
      refine pf_Mo_distance hF hK hP hL hS m_270 d_Mo_rules_42 (fun H locs hP hS => ?_)
      have hv : (((f_Mo_throwing ar sc 1 0 0).2.1, sg (sg ((f_Mo_throwing ar sc 1 0 0).2.2) 5 a0) 6 a1) : (Nat → Nat → Int32) × (Nat → Int32)) = f_Mo_rules ar sc a0 a1 := by rw [f_Mo_rules, if_pos c8, if_pos c31]
      exact W.vret hx hb hr (fun t ht hW => ⟨⟨((f_Mo_throwing ar sc 1 0 0).2.1, sg (sg ((f_Mo_throwing ar sc 1 0 0).2.2) 5 a0) 6 a1), rfl, hv, by dsimp only; rw [ht]; exact hP⟩, hS.F ht⟩) hS.2.2 d_Mo_rules_45
    · have hv : (((f_Mo_throwing ar sc 1 0 0).2.1, (f_Mo_throwing ar sc 1 0 0).2.2) : (Nat → Nat → Int32) × (Nat → Int32)) = f_Mo_rules ar sc a0 a1 := by rw [f_Mo_rules, if_pos c8, if_neg c31]
      exact W.vret hx hb hr (fun t ht hW => ⟨⟨((f_Mo_throwing ar sc 1 0 0).2.1, (f_Mo_throwing ar sc 1 0 0).2.2), rfl, hv, by dsimp only; rw [ht]; exact hP⟩, hS.F ht⟩) hS.2.2 d_Mo_rules_34
  · refine lv_iload_n hx hb d_Mo_rules_11 rfl (lv_at hl 2 rfl) ?_
    refine lv_iconst (v := 0) hx hb d_Mo_rules_12 (by decide) ?_
    refine lv_ldc (v := 1000000) hx hb hown (hts _ m_340) d_Mo_rules_13 ?_
    refine r_Mo_in hF m_195 hl.1 ⟨Nat.le_of_ble_eq_true rfl, Nat.le_of_ble_eq_true rfl⟩ ⟨Nat.zero_le _, Nat.zero_le _⟩ (Nat.le_of_ble_eq_true rfl) d_Mo_rules_15 ?_
    refine lv_if_ne (tgt := 25) hx hb d_Mo_rules_18 (by decide) (fun c18 => ?_) (fun c18 => ?_)
    · refine lv_iconst (v := 0) hx hb d_Mo_rules_25 (by decide) ?_
      refine lv_iconst (v := 0) hx hb d_Mo_rules_26 (by decide) ?_
      refine lv_iconst (v := 0) hx hb d_Mo_rules_27 (by decide) ?_
      refine r_Mo_throwing hF hK hP hL hS m_283 hl.1 ⟨Nat.le_of_ble_eq_true rfl, Nat.le_of_ble_eq_true rfl⟩ ⟨Nat.zero_le _, Nat.zero_le _⟩ (Nat.le_of_ble_eq_true rfl) d_Mo_rules_28 (fun H locs hP hS => ?_)
      refine lv_if_eq (tgt := 35) hx hb d_Mo_rules_31 (by decide) (fun c31 => ?_) (fun c31 => ?_)
      · refine lv_aload_n hx hb d_Mo_rules_35 rfl (lv_at hl 0 rfl) ?_
        refine lv_iload_n hx hb d_Mo_rules_36 rfl (lv_at hl 1 rfl) ?_
        refine pf_Mo_space hF hK hP hL hS m_279 d_Mo_rules_37 (fun H locs hP hS => ?_)
        refine lv_aload_n hx hb d_Mo_rules_40 rfl (lv_at hl 0 rfl) ?_
        refine lv_iload_n hx hb d_Mo_rules_41 rfl (lv_at hl 2 rfl) ?_
        refine pf_Mo_distance hF hK hP hL hS m_270 d_Mo_rules_42 (fun H locs hP hS => ?_)
        have hv : (((f_Mo_throwing ar sc 0 0 0).2.1, sg (sg ((f_Mo_throwing ar sc 0 0 0).2.2) 5 a0) 6 a1) : (Nat → Nat → Int32) × (Nat → Int32)) = f_Mo_rules ar sc a0 a1 := by rw [f_Mo_rules, if_neg c8, if_neg c18, if_pos c31]
        exact W.vret hx hb hr (fun t ht hW => ⟨⟨((f_Mo_throwing ar sc 0 0 0).2.1, sg (sg ((f_Mo_throwing ar sc 0 0 0).2.2) 5 a0) 6 a1), rfl, hv, by dsimp only; rw [ht]; exact hP⟩, hS.F ht⟩) hS.2.2 d_Mo_rules_45
      · have hv : (((f_Mo_throwing ar sc 0 0 0).2.1, (f_Mo_throwing ar sc 0 0 0).2.2) : (Nat → Nat → Int32) × (Nat → Int32)) = f_Mo_rules ar sc a0 a1 := by rw [f_Mo_rules, if_neg c8, if_neg c18, if_neg c31]
        exact W.vret hx hb hr (fun t ht hW => ⟨⟨((f_Mo_throwing ar sc 0 0 0).2.1, (f_Mo_throwing ar sc 0 0 0).2.2), rfl, hv, by dsimp only; rw [ht]; exact hP⟩, hS.F ht⟩) hS.2.2 d_Mo_rules_34
    · refine lv_iconst (v := 1) hx hb d_Mo_rules_21 (by decide) ?_
      refine lv_goto (tgt := 26) hx hb d_Mo_rules_22 (by decide) ?_
      refine lv_iconst (v := 0) hx hb d_Mo_rules_26 (by decide) ?_
      refine lv_iconst (v := 0) hx hb d_Mo_rules_27 (by decide) ?_
      refine r_Mo_throwing hF hK hP hL hS m_283 hl.1 ⟨Nat.le_of_ble_eq_true rfl, Nat.le_of_ble_eq_true rfl⟩ ⟨Nat.zero_le _, Nat.zero_le _⟩ (Nat.le_of_ble_eq_true rfl) d_Mo_rules_28 (fun H locs hP hS => ?_)
      refine lv_if_eq (tgt := 35) hx hb d_Mo_rules_31 (by decide) (fun c31 => ?_) (fun c31 => ?_)
      · refine lv_aload_n hx hb d_Mo_rules_35 rfl (lv_at hl 0 rfl) ?_
        refine lv_iload_n hx hb d_Mo_rules_36 rfl (lv_at hl 1 rfl) ?_
        refine pf_Mo_space hF hK hP hL hS m_279 d_Mo_rules_37 (fun H locs hP hS => ?_)
        refine lv_aload_n hx hb d_Mo_rules_40 rfl (lv_at hl 0 rfl) ?_
        refine lv_iload_n hx hb d_Mo_rules_41 rfl (lv_at hl 2 rfl) ?_
        refine pf_Mo_distance hF hK hP hL hS m_270 d_Mo_rules_42 (fun H locs hP hS => ?_)
        have hv : (((f_Mo_throwing ar sc 1 0 0).2.1, sg (sg ((f_Mo_throwing ar sc 1 0 0).2.2) 5 a0) 6 a1) : (Nat → Nat → Int32) × (Nat → Int32)) = f_Mo_rules ar sc a0 a1 := by rw [f_Mo_rules, if_neg c8, if_pos c18, if_pos c31]
        exact W.vret hx hb hr (fun t ht hW => ⟨⟨((f_Mo_throwing ar sc 1 0 0).2.1, sg (sg ((f_Mo_throwing ar sc 1 0 0).2.2) 5 a0) 6 a1), rfl, hv, by dsimp only; rw [ht]; exact hP⟩, hS.F ht⟩) hS.2.2 d_Mo_rules_45
      · have hv : (((f_Mo_throwing ar sc 1 0 0).2.1, (f_Mo_throwing ar sc 1 0 0).2.2) : (Nat → Nat → Int32) × (Nat → Int32)) = f_Mo_rules ar sc a0 a1 := by rw [f_Mo_rules, if_neg c8, if_pos c18, if_neg c31]
        exact W.vret hx hb hr (fun t ht hW => ⟨⟨((f_Mo_throwing ar sc 1 0 0).2.1, (f_Mo_throwing ar sc 1 0 0).2.2), rfl, hv, by dsimp only; rw [ht]; exact hP⟩, hS.F ht⟩) hS.2.2 d_Mo_rules_34
set_option maxHeartbeats 1000000 in
theorem r_Mo_rules {p : Program} {l : Launch} {e : Env} {R : Room} {s : State} {m : MethodId} {args : Array Value} {below : List Frame} {meth : Method} {c : Code} {H : Heap} {locs : List Loc} {cells slots : Nat} {Q : State → Prop} {cc : ByteArray} {nL pc idx : Nat} {ls : Array Slot} {rest : List Value} {own : String} {dC : Nat → ClassId} {dI : Nat → Nat → Nat} {L : Nat → Nat} {cA : Nat → ClassId} {ar : Nat → Nat → Int32} {sc : Nat → Int32} {H0 : Heap} {a0 : Int32} {a1 : Int32} (hF : CallFix p m c cc nL s args w_all own) (hK : kW_M dC dI cA s) (hP : va_P (dC, dI) classes (wM L cA ar sc) H) (hL : ij 25 L) (hS : va_S (aM L) H0 H locs) (hlk : Cond.methodLink own idx y_Mo_rules ∈ w_all) (hsz : ls.size = nL) (hR : (rmD 5).frames + 1 ≤ R.frames ∧ 8 + (3 + 11) + (rmD 5).locals ≤ R.locals) (hc : cells ≤ R.cells ∧ slots ≤ R.slots) (hrs : (rest.map fun v => v.category).sum ≤ 8) (hdg : decode cc pc = .ok (.invokevirtual idx, 3)) (kk : ∀ (H1 : Heap) (locs1 : List Loc), va_P (dC, dI) classes (wM L cA ((f_Mo_rules ar sc a0 a1).1) ((f_Mo_rules ar sc a0 a1).2)) H1 → va_S (aM L) H0 H1 locs1 → W p l e R s m args below meth c H1 locs1 cells slots Q (F0 m (pc + 3) ls (rest))) : W p l e R s m args below meth c H locs cells slots Q (F0 m pc ls (.int a1 :: .int a0 :: .ref (L 0) :: rest)) :=
  va_callv (va_runV (As := [.int a0, .int a1]) (rest := rest) hF (c_Mo_rules l dC dI L cA ar sc a0 a1 hL) (cwV 2 hF.2.2.2.2 (gV hlk m_341 m_342 m_187 m_343) rfl rfl rfl (by decide +kernel) hR) ⟨xb_M, va_recv hK.1 hP (ci := 7) (q0 := 0) rfl rfl, fun U hU hW => ⟨rfl, by rw [hU]; exact hP, kW_M_warm hW hK⟩⟩ rfl rfl hsz rfl (lv_room hrs) hdg hc) hS (fun q _ h9 => h9) (fun q h9 => h9) (fun u t H1 locs1 ht hvm hw hB hz1 hk1 hS1 => by
    have hk9 := kk H1 locs1 (by rw [← hw, ← ht]; exact hB) hS1
    exact hk9)
theorem d_Mo_permit_0 : decode b_Mo_permit 0 = .ok (.iload_n 1, 1) := by decide +kernel
theorem d_Mo_permit_1 : decode b_Mo_permit 1 = .ok (.iconst 0, 1) := by decide +kernel
theorem d_Mo_permit_2 : decode b_Mo_permit 2 = .ok (.ldc 187, 2) := by decide +kernel
theorem d_Mo_permit_4 : decode b_Mo_permit 4 = .ok (.invokestatic 100, 3) := by decide +kernel
theorem d_Mo_permit_7 : decode b_Mo_permit 7 = .ok (.ifCond .eq 25, 3) := by decide +kernel
theorem d_Mo_permit_10 : decode b_Mo_permit 10 = .ok (.iload_n 2, 1) := by decide +kernel
theorem d_Mo_permit_11 : decode b_Mo_permit 11 = .ok (.iload_n 1, 1) := by decide +kernel
theorem d_Mo_permit_12 : decode b_Mo_permit 12 = .ok (.iconst 1, 1) := by decide +kernel
theorem d_Mo_permit_13 : decode b_Mo_permit 13 = .ok (.iadd, 1) := by decide +kernel
theorem d_Mo_permit_14 : decode b_Mo_permit 14 = .ok (.ldc 187, 2) := by decide +kernel
theorem d_Mo_permit_16 : decode b_Mo_permit 16 = .ok (.invokestatic 100, 3) := by decide +kernel
theorem d_Mo_permit_19 : decode b_Mo_permit 19 = .ok (.ifCond .eq 13, 3) := by decide +kernel
theorem d_Mo_permit_22 : decode b_Mo_permit 22 = .ok (.iload_n 3, 1) := by decide +kernel
theorem d_Mo_permit_23 : decode b_Mo_permit 23 = .ok (.iconst 1, 1) := by decide +kernel
theorem d_Mo_permit_24 : decode b_Mo_permit 24 = .ok (.ldc 168, 2) := by decide +kernel
theorem d_Mo_permit_26 : decode b_Mo_permit 26 = .ok (.invokestatic 100, 3) := by decide +kernel
theorem d_Mo_permit_29 : decode b_Mo_permit 29 = .ok (.ifCond .ne 7, 3) := by decide +kernel
theorem d_Mo_permit_32 : decode b_Mo_permit 32 = .ok (.iconst 1, 1) := by decide +kernel
theorem d_Mo_permit_33 : decode b_Mo_permit 33 = .ok (.goto 4, 3) := by decide +kernel
theorem d_Mo_permit_36 : decode b_Mo_permit 36 = .ok (.iconst 0, 1) := by decide +kernel
theorem d_Mo_permit_37 : decode b_Mo_permit 37 = .ok (.istore 4, 2) := by decide +kernel
theorem d_Mo_permit_39 : decode b_Mo_permit 39 = .ok (.aload_n 0, 1) := by decide +kernel
theorem d_Mo_permit_40 : decode b_Mo_permit 40 = .ok (.iload 4, 2) := by decide +kernel
theorem d_Mo_permit_42 : decode b_Mo_permit 42 = .ok (.ifCond .eq 10, 3) := by decide +kernel
theorem d_Mo_permit_45 : decode b_Mo_permit 45 = .ok (.aload_n 0, 1) := by decide +kernel
theorem d_Mo_permit_46 : decode b_Mo_permit 46 = .ok (.getfield 91, 3) := by decide +kernel
theorem d_Mo_permit_49 : decode b_Mo_permit 49 = .ok (.goto 10, 3) := by decide +kernel
theorem d_Mo_permit_52 : decode b_Mo_permit 52 = .ok (.aload_n 0, 1) := by decide +kernel
theorem d_Mo_permit_53 : decode b_Mo_permit 53 = .ok (.iload_n 1, 1) := by decide +kernel
theorem d_Mo_permit_54 : decode b_Mo_permit 54 = .ok (.iload_n 2, 1) := by decide +kernel
theorem d_Mo_permit_55 : decode b_Mo_permit 55 = .ok (.iload_n 3, 1) := by decide +kernel
theorem d_Mo_permit_56 : decode b_Mo_permit 56 = .ok (.invokevirtual 188, 3) := by decide +kernel
theorem d_Mo_permit_59 : decode b_Mo_permit 59 = .ok (.putfield 91, 3) := by decide +kernel
theorem d_Mo_permit_62 : decode b_Mo_permit 62 = .ok (.aload_n 0, 1) := by decide +kernel
theorem d_Mo_permit_63 : decode b_Mo_permit 63 = .ok (.iload 4, 2) := by decide +kernel
theorem d_Mo_permit_65 : decode b_Mo_permit 65 = .ok (.aload_n 0, 1) := by decide +kernel
theorem d_Mo_permit_66 : decode b_Mo_permit 66 = .ok (.getfield 91, 3) := by decide +kernel
theorem d_Mo_permit_69 : decode b_Mo_permit 69 = .ok (.iconst (-1), 1) := by decide +kernel
theorem d_Mo_permit_70 : decode b_Mo_permit 70 = .ok (.if_icmp .eq 7, 3) := by decide +kernel
theorem d_Mo_permit_73 : decode b_Mo_permit 73 = .ok (.iconst 1, 1) := by decide +kernel
theorem d_Mo_permit_74 : decode b_Mo_permit 74 = .ok (.goto 4, 3) := by decide +kernel
theorem d_Mo_permit_77 : decode b_Mo_permit 77 = .ok (.iconst 0, 1) := by decide +kernel
theorem d_Mo_permit_78 : decode b_Mo_permit 78 = .ok (.aload_n 0, 1) := by decide +kernel
theorem d_Mo_permit_79 : decode b_Mo_permit 79 = .ok (.getfield 181, 3) := by decide +kernel
theorem d_Mo_permit_82 : decode b_Mo_permit 82 = .ok (.bipush 30, 2) := by decide +kernel
theorem d_Mo_permit_84 : decode b_Mo_permit 84 = .ok (.if_icmp .ne 7, 3) := by decide +kernel
theorem d_Mo_permit_87 : decode b_Mo_permit 87 = .ok (.iconst 1, 1) := by decide +kernel
theorem d_Mo_permit_88 : decode b_Mo_permit 88 = .ok (.goto 4, 3) := by decide +kernel
theorem d_Mo_permit_91 : decode b_Mo_permit 91 = .ok (.iconst 0, 1) := by decide +kernel
theorem d_Mo_permit_92 : decode b_Mo_permit 92 = .ok (.invokevirtual 104, 3) := by decide +kernel
theorem d_Mo_permit_95 : decode b_Mo_permit 95 = .ok (.ifCond .eq 5, 3) := by decide +kernel
theorem d_Mo_permit_98 : decode b_Mo_permit 98 = .ok (.iconst 0, 1) := by decide +kernel
theorem d_Mo_permit_99 : decode b_Mo_permit 99 = .ok (.ireturn, 1) := by decide +kernel
theorem d_Mo_permit_100 : decode b_Mo_permit 100 = .ok (.iconst 0, 1) := by decide +kernel
theorem d_Mo_permit_101 : decode b_Mo_permit 101 = .ok (.istore 5, 2) := by decide +kernel
theorem d_Mo_permit_103 : decode b_Mo_permit 103 = .ok (.iload 5, 2) := by decide +kernel
theorem d_Mo_permit_105 : decode b_Mo_permit 105 = .ok (.iconst 4, 1) := by decide +kernel
theorem d_Mo_permit_106 : decode b_Mo_permit 106 = .ok (.if_icmp .ge 33, 3) := by decide +kernel
theorem d_Mo_permit_109 : decode b_Mo_permit 109 = .ok (.aload_n 0, 1) := by decide +kernel
theorem d_Mo_permit_110 : decode b_Mo_permit 110 = .ok (.getfield 82, 3) := by decide +kernel
theorem d_Mo_permit_113 : decode b_Mo_permit 113 = .ok (.iconst 4, 1) := by decide +kernel
theorem d_Mo_permit_114 : decode b_Mo_permit 114 = .ok (.aload_n 0, 1) := by decide +kernel
theorem d_Mo_permit_115 : decode b_Mo_permit 115 = .ok (.getfield 181, 3) := by decide +kernel
theorem d_Mo_permit_118 : decode b_Mo_permit 118 = .ok (.imul, 1) := by decide +kernel
theorem d_Mo_permit_119 : decode b_Mo_permit 119 = .ok (.iload 5, 2) := by decide +kernel
theorem d_Mo_permit_121 : decode b_Mo_permit 121 = .ok (.iadd, 1) := by decide +kernel
theorem d_Mo_permit_122 : decode b_Mo_permit 122 = .ok (.aload_n 0, 1) := by decide +kernel
theorem d_Mo_permit_123 : decode b_Mo_permit 123 = .ok (.getfield 82, 3) := by decide +kernel
theorem d_Mo_permit_126 : decode b_Mo_permit 126 = .ok (.bipush 120, 2) := by decide +kernel
theorem d_Mo_permit_128 : decode b_Mo_permit 128 = .ok (.iload 5, 2) := by decide +kernel
theorem d_Mo_permit_130 : decode b_Mo_permit 130 = .ok (.iadd, 1) := by decide +kernel
theorem d_Mo_permit_131 : decode b_Mo_permit 131 = .ok (.iaload, 1) := by decide +kernel
theorem d_Mo_permit_132 : decode b_Mo_permit 132 = .ok (.iastore, 1) := by decide +kernel
theorem d_Mo_permit_133 : decode b_Mo_permit 133 = .ok (.iinc 5 1, 3) := by decide +kernel
theorem d_Mo_permit_136 : decode b_Mo_permit 136 = .ok (.goto (-33), 3) := by decide +kernel
theorem d_Mo_permit_139 : decode b_Mo_permit 139 = .ok (.aload_n 0, 1) := by decide +kernel
theorem d_Mo_permit_140 : decode b_Mo_permit 140 = .ok (.getfield 85, 3) := by decide +kernel
theorem d_Mo_permit_143 : decode b_Mo_permit 143 = .ok (.aload_n 0, 1) := by decide +kernel
theorem d_Mo_permit_144 : decode b_Mo_permit 144 = .ok (.getfield 181, 3) := by decide +kernel
theorem d_Mo_permit_147 : decode b_Mo_permit 147 = .ok (.iload_n 1, 1) := by decide +kernel
theorem d_Mo_permit_148 : decode b_Mo_permit 148 = .ok (.iastore, 1) := by decide +kernel
theorem d_Mo_permit_149 : decode b_Mo_permit 149 = .ok (.aload_n 0, 1) := by decide +kernel
theorem d_Mo_permit_150 : decode b_Mo_permit 150 = .ok (.getfield 88, 3) := by decide +kernel
theorem d_Mo_permit_153 : decode b_Mo_permit 153 = .ok (.aload_n 0, 1) := by decide +kernel
theorem d_Mo_permit_154 : decode b_Mo_permit 154 = .ok (.getfield 181, 3) := by decide +kernel
theorem d_Mo_permit_157 : decode b_Mo_permit 157 = .ok (.iload_n 2, 1) := by decide +kernel
theorem d_Mo_permit_158 : decode b_Mo_permit 158 = .ok (.iastore, 1) := by decide +kernel
theorem d_Mo_permit_159 : decode b_Mo_permit 159 = .ok (.aload_n 0, 1) := by decide +kernel
theorem d_Mo_permit_160 : decode b_Mo_permit 160 = .ok (.dup, 1) := by decide +kernel
theorem d_Mo_permit_161 : decode b_Mo_permit 161 = .ok (.getfield 181, 3) := by decide +kernel
theorem d_Mo_permit_164 : decode b_Mo_permit 164 = .ok (.iconst 1, 1) := by decide +kernel
theorem d_Mo_permit_165 : decode b_Mo_permit 165 = .ok (.iadd, 1) := by decide +kernel
theorem d_Mo_permit_166 : decode b_Mo_permit 166 = .ok (.putfield 181, 3) := by decide +kernel
theorem d_Mo_permit_169 : decode b_Mo_permit 169 = .ok (.aload_n 0, 1) := by decide +kernel
theorem d_Mo_permit_170 : decode b_Mo_permit 170 = .ok (.getfield 181, 3) := by decide +kernel
theorem d_Mo_permit_173 : decode b_Mo_permit 173 = .ok (.iconst 1, 1) := by decide +kernel
theorem d_Mo_permit_174 : decode b_Mo_permit 174 = .ok (.isub, 1) := by decide +kernel
theorem d_Mo_permit_175 : decode b_Mo_permit 175 = .ok (.ireturn, 1) := by decide +kernel
set_option maxHeartbeats 4000000 in
set_option maxRecDepth 100000 in
theorem l_Mo_permit_103 {p : Program} {l : Launch} {e : Env} {s : State} {m : MethodId} {args : Array Value} {below : List Frame} {meth : Method} {c : Code} {dC : Nat → ClassId} {dI : Nat → Nat → Nat} {L : Nat → Nat} {cA : Nat → ClassId} {Q : State → Prop} (a0 : Int32) (a1 : Int32) (a2 : Int32) (u4 : Int32) (hF : CallFix p m c b_Mo_permit 6 s args w_all R_Mo) (hK : kW_M dC dI cA s) (hL : ij 25 L) : ∀ (n : Nat) (v5 : Int32) (ar : Nat → Nat → Int32) (sc : Nat → Int32), q_Mo_permit_103 a0 a1 a2 u4 n v5 ar sc → ∀ (H : Heap) (locs : List Loc), va_P (dC, dI) classes (wM L cA ar sc) H → va_S (aM L) s.heap H locs → ∀ (ls : Array Slot), lv_has ls 6 [(5, .int v5), (0, .ref (L 0)), (1, .int a0), (2, .int a1), (3, .int a2), (4, .int u4)] → (∀ (H : Heap) (locs : List Loc) (ls : Array Slot), va_P (dC, dI) classes (wM L cA ((g_Mo_permit_103 a0 a1 a2 u4 n v5 ar sc).2.1) ((g_Mo_permit_103 a0 a1 a2 u4 n v5 ar sc).2.2)) H → va_S (aM L) s.heap H locs → lv_has ls 6 [(5, .int ((g_Mo_permit_103 a0 a1 a2 u4 n v5 ar sc).1)), (0, .ref (L 0)), (1, .int a0), (2, .int a1), (3, .int a2), (4, .int u4)] → W p l e (rmD 5) s m args below meth c H locs 0 0 Q (F0 m 139 ls [])) → W p l e (rmD 5) s m args below meth c H locs 0 0 Q (F0 m 103 ls []) := by
  have hx := hF.1
  have hb := hF.2.1
  have hown := hF.2.2.2.1
  have hts := hF.2.2.2.2
  intro n
  induction n with
  | zero => intro v5 ar sc h; exact False.elim h
  | succ n ih =>
    intro v5 ar sc h H locs hP hS ls hl hk
    rw [q_Mo_permit_103] at h
    refine lv_iload hx hb d_Mo_permit_103 (lv_at hl 0 rfl) ?_
    refine lv_iconst (v := 4) hx hb d_Mo_permit_105 (by decide) ?_
    refine lv_icmp_ge (tgt := 139) hx hb d_Mo_permit_106 (by decide) (fun c106 => ?_) (fun c106 => ?_)
    · have h := h.1 c106
      have hv : g_Mo_permit_103 a0 a1 a2 u4 (n + 1) v5 ar sc = ((v5, ar, sc) : Int32 × (Nat → Nat → Int32) × (Nat → Int32)) := by rw [g_Mo_permit_103, if_pos c106]
      rw [hv] at hk
      exact hk _ _ ls hP hS (lv_sub hl [0, 1, 2, 3, 4, 5] rfl)
    · have h := h.2 c106
      refine lv_aload_n hx hb d_Mo_permit_109 rfl (lv_at hl 1 rfl) ?_
      refine gf_Mo_grounds hF hK hP m_268 d_Mo_permit_110 ?_
      refine lv_iconst (v := 4) hx hb d_Mo_permit_113 (by decide) ?_
      refine lv_aload_n hx hb d_Mo_permit_114 rfl (lv_at hl 1 rfl) ?_
      refine gf_Mo_permits hF hK hP m_274 d_Mo_permit_115 ?_
      refine lv_imul hx hb d_Mo_permit_118 ?_
      refine lv_iload hx hb d_Mo_permit_119 (lv_at hl 0 rfl) ?_
      refine lv_iadd hx hb d_Mo_permit_121 ?_
      refine lv_aload_n hx hb d_Mo_permit_122 rfl (lv_at hl 1 rfl) ?_
      refine gf_Mo_grounds hF hK hP m_268 d_Mo_permit_123 ?_
      refine lv_bipush (v := 120) hx hb d_Mo_permit_126 (by decide) ?_
      refine lv_iload hx hb d_Mo_permit_128 (lv_at hl 0 rfl) ?_
      refine lv_iadd hx hb d_Mo_permit_130 ?_
      have k131 := h.1
      have h := h.2
      refine alM_22 hF hK hP k131 d_Mo_permit_131 ?_
      have k132 := h.1
      have h := h.2
      refine asM_22 hF hK hP hL hS k132 d_Mo_permit_132 (fun H locs hP hS => ?_)
      refine lv_iinc (v := v5 + 1) (lv' := [(5, .int (v5 + 1)), (0, .ref (L 0)), (1, .int a0), (2, .int a1), (3, .int a2), (4, .int u4)]) hx hb d_Mo_permit_133 hl (k := 0) rfl rfl (by decide) rfl (fun ls hl => ?_)
      refine lv_goto (tgt := 103) hx hb d_Mo_permit_136 (by decide) ?_
      have hv : g_Mo_permit_103 a0 a1 a2 u4 (n + 1) v5 ar sc = g_Mo_permit_103 a0 a1 a2 u4 n (v5 + 1) (s2 ar 22 (((4 * (sc 8)) + v5).toNatClampNeg) (ar 22 ((120 + v5 : Int32).toNatClampNeg))) sc := by rw [g_Mo_permit_103, if_neg c106]
      rw [hv] at hk
      exact ih (v5 + 1) (s2 ar 22 (((4 * (sc 8)) + v5).toNatClampNeg) (ar 22 ((120 + v5 : Int32).toNatClampNeg))) sc h _ _ hP hS ls (lv_sub hl [0, 1, 2, 3, 4, 5] rfl) hk
set_option maxHeartbeats 4000000 in
set_option maxRecDepth 100000 in
theorem c_Mo_permit (l : Launch) (dC : Nat → ClassId) (dI : Nat → Nat → Nat) (L : Nat → Nat) (cA : Nat → ClassId) (ar : Nat → Nat → Int32) (sc : Nat → Int32) (a0 : Int32) (a1 : Int32) (a2 : Int32) (hL : ij 25 L) (h : p_Mo_permit ar sc a0 a1 a2) : Met l y_Mo_permit z_Mo_permit (rmD 5) (va_Pc [.ref (L 0), .int a0, .int a1, .int a2] (fun U => xw_M dC dI L cA ar sc U)) (va_Qi (fun (r : Int32) (u : oS) => (r, u.1, u.2) = f_Mo_permit ar sc a0 a1 a2) (fun u t => va_P (dC, dI) classes (wM L cA u.1 u.2) t.heap) (aM L)) 0 0 (aM L) := by
  refine Met.ofW (cc := b_Mo_permit) (maxL := 6) (ret := (some .int)) (by decide) rfl ?_
  intro p e s m args below meth c s₁ B hml hv
  obtain ⟨rfl, ⟨hP, hK⟩⟩ := hv
  have hx := B.exec
  have hb := B.bytes
  have hr := B.returns
  have hts : ∀ w ∈ w_all, w.before _ s = true := fun w hw => atoms_spec (ws := z_Mo_permit) B.pre w (List.mem_cons_of_mem _ hw)
  have hown : s.vm.findClass R_Mo = some m.cls := findClass_of_methodNamed B.named
  have hlocks := B.notSynchronized
  have hF : CallFix p m c b_Mo_permit 6 s _ w_all R_Mo := ⟨hx, hb, hml, hown, hts⟩
  have hS : va_S (aM L) s.heap s.heap [] := va_S.rf
  have hl := lv_entry ([.ref (L 0), .int a0, .int a1, .int a2]) (n := 6) (Nat.le_of_ble_eq_true rfl)
  rw [lg_entry_eq]
  generalize (lg_sl ([.ref (L 0), .int a0, .int a1, .int a2]) ++ List.replicate (6 - (lg_sl ([.ref (L 0), .int a0, .int a1, .int a2])).length) Slot.unset).toArray = ls at hl ⊢
  have hl : lv_has ls 6 [(0, .ref (L 0)), (1, .int a0), (2, .int a1), (3, .int a2)] := hl
  unfold p_Mo_permit at h
  refine lv_iload_n hx hb d_Mo_permit_0 rfl (lv_at hl 1 rfl) ?_
  refine lv_iconst (v := 0) hx hb d_Mo_permit_1 (by decide) ?_
  refine lv_ldc (v := 9999999) hx hb hown (hts _ m_344) d_Mo_permit_2 ?_
  refine r_Mo_in hF m_195 hl.1 ⟨Nat.le_of_ble_eq_true rfl, Nat.le_of_ble_eq_true rfl⟩ ⟨Nat.zero_le _, Nat.zero_le _⟩ (Nat.le_of_ble_eq_true rfl) d_Mo_permit_4 ?_
  refine lv_if_eq (tgt := 32) hx hb d_Mo_permit_7 (by decide) (fun c7 => ?_) (fun c7 => ?_)
  · have h := h.1 c7
    refine lv_iconst (v := 1) hx hb d_Mo_permit_32 (by decide) ?_
    refine lv_goto (tgt := 37) hx hb d_Mo_permit_33 (by decide) ?_
    refine lv_istore (lv' := [(4, .int 1), (0, .ref (L 0)), (1, .int a0), (2, .int a1), (3, .int a2)]) hx hb d_Mo_permit_37 hl (by decide) rfl (fun ls hl => ?_)
    refine lv_aload_n hx hb d_Mo_permit_39 rfl (lv_at hl 1 rfl) ?_
    refine lv_iload hx hb d_Mo_permit_40 (lv_at hl 0 rfl) ?_
    refine lv_if_eq (tgt := 52) hx hb d_Mo_permit_42 (by decide) (fun c9 => absurd c9 (by decide)) (fun _ => ?_)
    refine lv_aload_n hx hb d_Mo_permit_45 rfl (lv_at hl 1 rfl) ?_
    refine gf_Mo_clash hF hK hP m_345 d_Mo_permit_46 ?_
    refine lv_goto (tgt := 59) hx hb d_Mo_permit_49 (by decide) ?_
    refine pf_Mo_clash hF hK hP hL hS m_345 d_Mo_permit_59 (fun H locs hP hS => ?_)
    refine lv_aload_n hx hb d_Mo_permit_62 rfl (lv_at hl 1 rfl) ?_
    refine lv_iload hx hb d_Mo_permit_63 (lv_at hl 0 rfl) ?_
    refine lv_aload_n hx hb d_Mo_permit_65 rfl (lv_at hl 1 rfl) ?_
    refine gf_Mo_clash hF hK hP m_345 d_Mo_permit_66 ?_
    refine lv_iconst (v := (-1)) hx hb d_Mo_permit_69 (by decide) ?_
    refine lv_icmp_eq (tgt := 77) hx hb d_Mo_permit_70 (by decide) (fun c70 => ?_) (fun c70 => ?_)
    · have h := h.1 c70
      refine lv_iconst (v := 0) hx hb d_Mo_permit_77 (by decide) ?_
      refine lv_aload_n hx hb d_Mo_permit_78 rfl (lv_at hl 1 rfl) ?_
      refine gf_Mo_permits hF hK hP m_274 d_Mo_permit_79 ?_
      refine lv_bipush (v := 30) hx hb d_Mo_permit_82 (by decide) ?_
      refine lv_icmp_ne (tgt := 91) hx hb d_Mo_permit_84 (by decide) (fun c84 => ?_) (fun c84 => ?_)
      · have h := h.2 c84
        refine lv_iconst (v := 0) hx hb d_Mo_permit_91 (by decide) ?_
        refine r_Mo_throwing hF hK hP hL hS m_283 hl.1 ⟨Nat.le_of_ble_eq_true rfl, Nat.le_of_ble_eq_true rfl⟩ ⟨Nat.zero_le _, Nat.zero_le _⟩ (Nat.le_of_ble_eq_true rfl) d_Mo_permit_92 (fun H locs hP hS => ?_)
        refine lv_if_eq (tgt := 100) hx hb d_Mo_permit_95 (by decide) (fun c95 => ?_) (fun c95 => ?_)
        · have h := h.1 c95
          refine lv_iconst (v := 0) hx hb d_Mo_permit_100 (by decide) ?_
          refine lv_istore (lv' := [(5, .int 0), (4, .int 1), (0, .ref (L 0)), (1, .int a0), (2, .int a1), (3, .int a2)]) hx hb d_Mo_permit_101 hl (by decide) rfl (fun ls hl => ?_)
          have kL103 := h.1
          have h := h.2
          refine l_Mo_permit_103 a0 a1 a2 1 hF hK hL 200 0 ((f_Mo_throwing ar (sg sc 9 (sc 9)) 1 0 0).2.1) ((f_Mo_throwing ar (sg sc 9 (sc 9)) 1 0 0).2.2) kL103 _ _ hP hS ls (lv_sub hl [0, 2, 3, 4, 5, 1] rfl) (fun H locs ls hP hS hl => ?_)
          refine lv_aload_n hx hb d_Mo_permit_139 rfl (lv_at hl 1 rfl) ?_
          refine gf_Mo_from hF hK hP m_275 d_Mo_permit_140 ?_
          refine lv_aload_n hx hb d_Mo_permit_143 rfl (lv_at hl 1 rfl) ?_
          refine gf_Mo_permits hF hK hP m_274 d_Mo_permit_144 ?_
          refine lv_iload_n hx hb d_Mo_permit_147 rfl (lv_at hl 2 rfl) ?_
          have k148 := h.1
          have h := h.2
          refine asM_23 hF hK hP hL hS k148 d_Mo_permit_148 (fun H locs hP hS => ?_)
          refine lv_aload_n hx hb d_Mo_permit_149 rfl (lv_at hl 1 rfl) ?_
          refine gf_Mo_to hF hK hP m_276 d_Mo_permit_150 ?_
          refine lv_aload_n hx hb d_Mo_permit_153 rfl (lv_at hl 1 rfl) ?_
          refine gf_Mo_permits hF hK hP m_274 d_Mo_permit_154 ?_
          refine lv_iload_n hx hb d_Mo_permit_157 rfl (lv_at hl 3 rfl) ?_
          have k158 := h
          refine asM_24 hF hK hP hL hS k158 d_Mo_permit_158 (fun H locs hP hS => ?_)
          refine lv_aload_n hx hb d_Mo_permit_159 rfl (lv_at hl 1 rfl) ?_
          refine lv_dup hx hb d_Mo_permit_160 rfl ?_
          refine gf_Mo_permits hF hK hP m_274 d_Mo_permit_161 ?_
          refine lv_iconst (v := 1) hx hb d_Mo_permit_164 (by decide) ?_
          refine lv_iadd hx hb d_Mo_permit_165 ?_
          refine pf_Mo_permits hF hK hP hL hS m_274 d_Mo_permit_166 (fun H locs hP hS => ?_)
          refine lv_aload_n hx hb d_Mo_permit_169 rfl (lv_at hl 1 rfl) ?_
          refine gf_Mo_permits hF hK hP m_274 d_Mo_permit_170 ?_
          refine lv_iconst (v := 1) hx hb d_Mo_permit_173 (by decide) ?_
          refine lv_isub hx hb d_Mo_permit_174 ?_
          have hv : ((((sg ((g_Mo_permit_103 a0 a1 a2 1 200 0 ((f_Mo_throwing ar (sg sc 9 (sc 9)) 1 0 0).2.1) ((f_Mo_throwing ar (sg sc 9 (sc 9)) 1 0 0).2.2)).2.2) 8 ((((g_Mo_permit_103 a0 a1 a2 1 200 0 ((f_Mo_throwing ar (sg sc 9 (sc 9)) 1 0 0).2.1) ((f_Mo_throwing ar (sg sc 9 (sc 9)) 1 0 0).2.2)).2.2) 8) + 1)) 8) - 1, s2 (s2 ((g_Mo_permit_103 a0 a1 a2 1 200 0 ((f_Mo_throwing ar (sg sc 9 (sc 9)) 1 0 0).2.1) ((f_Mo_throwing ar (sg sc 9 (sc 9)) 1 0 0).2.2)).2.1) 23 ((((g_Mo_permit_103 a0 a1 a2 1 200 0 ((f_Mo_throwing ar (sg sc 9 (sc 9)) 1 0 0).2.1) ((f_Mo_throwing ar (sg sc 9 (sc 9)) 1 0 0).2.2)).2.2) 8).toNatClampNeg) a0) 24 ((((g_Mo_permit_103 a0 a1 a2 1 200 0 ((f_Mo_throwing ar (sg sc 9 (sc 9)) 1 0 0).2.1) ((f_Mo_throwing ar (sg sc 9 (sc 9)) 1 0 0).2.2)).2.2) 8).toNatClampNeg) a1, sg ((g_Mo_permit_103 a0 a1 a2 1 200 0 ((f_Mo_throwing ar (sg sc 9 (sc 9)) 1 0 0).2.1) ((f_Mo_throwing ar (sg sc 9 (sc 9)) 1 0 0).2.2)).2.2) 8 ((((g_Mo_permit_103 a0 a1 a2 1 200 0 ((f_Mo_throwing ar (sg sc 9 (sc 9)) 1 0 0).2.1) ((f_Mo_throwing ar (sg sc 9 (sc 9)) 1 0 0).2.2)).2.2) 8) + 1)) : Int32 × (Nat → Nat → Int32) × (Nat → Int32)) = f_Mo_permit ar sc a0 a1 a2 := by rw [f_Mo_permit, if_pos c7, if_pos c70, if_neg c84, if_pos c95]
          exact W.iret (v := ((sg ((g_Mo_permit_103 a0 a1 a2 1 200 0 ((f_Mo_throwing ar (sg sc 9 (sc 9)) 1 0 0).2.1) ((f_Mo_throwing ar (sg sc 9 (sc 9)) 1 0 0).2.2)).2.2) 8 ((((g_Mo_permit_103 a0 a1 a2 1 200 0 ((f_Mo_throwing ar (sg sc 9 (sc 9)) 1 0 0).2.1) ((f_Mo_throwing ar (sg sc 9 (sc 9)) 1 0 0).2.2)).2.2) 8) + 1)) 8) - 1) hx hb hr (fun t ht hW => ⟨⟨((sg ((g_Mo_permit_103 a0 a1 a2 1 200 0 ((f_Mo_throwing ar (sg sc 9 (sc 9)) 1 0 0).2.1) ((f_Mo_throwing ar (sg sc 9 (sc 9)) 1 0 0).2.2)).2.2) 8 ((((g_Mo_permit_103 a0 a1 a2 1 200 0 ((f_Mo_throwing ar (sg sc 9 (sc 9)) 1 0 0).2.1) ((f_Mo_throwing ar (sg sc 9 (sc 9)) 1 0 0).2.2)).2.2) 8) + 1)) 8) - 1, (s2 (s2 ((g_Mo_permit_103 a0 a1 a2 1 200 0 ((f_Mo_throwing ar (sg sc 9 (sc 9)) 1 0 0).2.1) ((f_Mo_throwing ar (sg sc 9 (sc 9)) 1 0 0).2.2)).2.1) 23 ((((g_Mo_permit_103 a0 a1 a2 1 200 0 ((f_Mo_throwing ar (sg sc 9 (sc 9)) 1 0 0).2.1) ((f_Mo_throwing ar (sg sc 9 (sc 9)) 1 0 0).2.2)).2.2) 8).toNatClampNeg) a0) 24 ((((g_Mo_permit_103 a0 a1 a2 1 200 0 ((f_Mo_throwing ar (sg sc 9 (sc 9)) 1 0 0).2.1) ((f_Mo_throwing ar (sg sc 9 (sc 9)) 1 0 0).2.2)).2.2) 8).toNatClampNeg) a1, sg ((g_Mo_permit_103 a0 a1 a2 1 200 0 ((f_Mo_throwing ar (sg sc 9 (sc 9)) 1 0 0).2.1) ((f_Mo_throwing ar (sg sc 9 (sc 9)) 1 0 0).2.2)).2.2) 8 ((((g_Mo_permit_103 a0 a1 a2 1 200 0 ((f_Mo_throwing ar (sg sc 9 (sc 9)) 1 0 0).2.1) ((f_Mo_throwing ar (sg sc 9 (sc 9)) 1 0 0).2.2)).2.2) 8) + 1)), rfl, hv, by dsimp only; rw [ht]; exact hP⟩, hS.F ht⟩) hS.2.2 d_Mo_permit_175
        · have h := h.2 c95
          refine lv_iconst (v := 0) hx hb d_Mo_permit_98 (by decide) ?_
          have hv : ((0, (f_Mo_throwing ar (sg sc 9 (sc 9)) 1 0 0).2.1, (f_Mo_throwing ar (sg sc 9 (sc 9)) 1 0 0).2.2) : Int32 × (Nat → Nat → Int32) × (Nat → Int32)) = f_Mo_permit ar sc a0 a1 a2 := by rw [f_Mo_permit, if_pos c7, if_pos c70, if_neg c84, if_neg c95]
          exact W.iret (v := 0) hx hb hr (fun t ht hW => ⟨⟨0, ((f_Mo_throwing ar (sg sc 9 (sc 9)) 1 0 0).2.1, (f_Mo_throwing ar (sg sc 9 (sc 9)) 1 0 0).2.2), rfl, hv, by dsimp only; rw [ht]; exact hP⟩, hS.F ht⟩) hS.2.2 d_Mo_permit_99
      · have h := h.1 c84
        refine lv_iconst (v := 1) hx hb d_Mo_permit_87 (by decide) ?_
        refine lv_goto (tgt := 92) hx hb d_Mo_permit_88 (by decide) ?_
        refine r_Mo_throwing hF hK hP hL hS m_283 hl.1 ⟨Nat.le_of_ble_eq_true rfl, Nat.le_of_ble_eq_true rfl⟩ ⟨Nat.zero_le _, Nat.zero_le _⟩ (Nat.le_of_ble_eq_true rfl) d_Mo_permit_92 (fun H locs hP hS => ?_)
        refine lv_if_eq (tgt := 100) hx hb d_Mo_permit_95 (by decide) (fun c95 => ?_) (fun c95 => ?_)
        · have h := h.1 c95
          refine lv_iconst (v := 0) hx hb d_Mo_permit_100 (by decide) ?_
          refine lv_istore (lv' := [(5, .int 0), (4, .int 1), (0, .ref (L 0)), (1, .int a0), (2, .int a1), (3, .int a2)]) hx hb d_Mo_permit_101 hl (by decide) rfl (fun ls hl => ?_)
          have kL103 := h.1
          have h := h.2
          refine l_Mo_permit_103 a0 a1 a2 1 hF hK hL 200 0 ((f_Mo_throwing ar (sg sc 9 (sc 9)) 1 0 1).2.1) ((f_Mo_throwing ar (sg sc 9 (sc 9)) 1 0 1).2.2) kL103 _ _ hP hS ls (lv_sub hl [0, 2, 3, 4, 5, 1] rfl) (fun H locs ls hP hS hl => ?_)
          refine lv_aload_n hx hb d_Mo_permit_139 rfl (lv_at hl 1 rfl) ?_
          refine gf_Mo_from hF hK hP m_275 d_Mo_permit_140 ?_
          refine lv_aload_n hx hb d_Mo_permit_143 rfl (lv_at hl 1 rfl) ?_
          refine gf_Mo_permits hF hK hP m_274 d_Mo_permit_144 ?_
          refine lv_iload_n hx hb d_Mo_permit_147 rfl (lv_at hl 2 rfl) ?_
          have k148 := h.1
          have h := h.2
          refine asM_23 hF hK hP hL hS k148 d_Mo_permit_148 (fun H locs hP hS => ?_)
          refine lv_aload_n hx hb d_Mo_permit_149 rfl (lv_at hl 1 rfl) ?_
          refine gf_Mo_to hF hK hP m_276 d_Mo_permit_150 ?_
          refine lv_aload_n hx hb d_Mo_permit_153 rfl (lv_at hl 1 rfl) ?_
          refine gf_Mo_permits hF hK hP m_274 d_Mo_permit_154 ?_
          refine lv_iload_n hx hb d_Mo_permit_157 rfl (lv_at hl 3 rfl) ?_
          have k158 := h
          refine asM_24 hF hK hP hL hS k158 d_Mo_permit_158 (fun H locs hP hS => ?_)
          refine lv_aload_n hx hb d_Mo_permit_159 rfl (lv_at hl 1 rfl) ?_
          refine lv_dup hx hb d_Mo_permit_160 rfl ?_
          refine gf_Mo_permits hF hK hP m_274 d_Mo_permit_161 ?_
          refine lv_iconst (v := 1) hx hb d_Mo_permit_164 (by decide) ?_
          refine lv_iadd hx hb d_Mo_permit_165 ?_
          refine pf_Mo_permits hF hK hP hL hS m_274 d_Mo_permit_166 (fun H locs hP hS => ?_)
          refine lv_aload_n hx hb d_Mo_permit_169 rfl (lv_at hl 1 rfl) ?_
          refine gf_Mo_permits hF hK hP m_274 d_Mo_permit_170 ?_
          refine lv_iconst (v := 1) hx hb d_Mo_permit_173 (by decide) ?_
          refine lv_isub hx hb d_Mo_permit_174 ?_
          have hv : ((((sg ((g_Mo_permit_103 a0 a1 a2 1 200 0 ((f_Mo_throwing ar (sg sc 9 (sc 9)) 1 0 1).2.1) ((f_Mo_throwing ar (sg sc 9 (sc 9)) 1 0 1).2.2)).2.2) 8 ((((g_Mo_permit_103 a0 a1 a2 1 200 0 ((f_Mo_throwing ar (sg sc 9 (sc 9)) 1 0 1).2.1) ((f_Mo_throwing ar (sg sc 9 (sc 9)) 1 0 1).2.2)).2.2) 8) + 1)) 8) - 1, s2 (s2 ((g_Mo_permit_103 a0 a1 a2 1 200 0 ((f_Mo_throwing ar (sg sc 9 (sc 9)) 1 0 1).2.1) ((f_Mo_throwing ar (sg sc 9 (sc 9)) 1 0 1).2.2)).2.1) 23 ((((g_Mo_permit_103 a0 a1 a2 1 200 0 ((f_Mo_throwing ar (sg sc 9 (sc 9)) 1 0 1).2.1) ((f_Mo_throwing ar (sg sc 9 (sc 9)) 1 0 1).2.2)).2.2) 8).toNatClampNeg) a0) 24 ((((g_Mo_permit_103 a0 a1 a2 1 200 0 ((f_Mo_throwing ar (sg sc 9 (sc 9)) 1 0 1).2.1) ((f_Mo_throwing ar (sg sc 9 (sc 9)) 1 0 1).2.2)).2.2) 8).toNatClampNeg) a1, sg ((g_Mo_permit_103 a0 a1 a2 1 200 0 ((f_Mo_throwing ar (sg sc 9 (sc 9)) 1 0 1).2.1) ((f_Mo_throwing ar (sg sc 9 (sc 9)) 1 0 1).2.2)).2.2) 8 ((((g_Mo_permit_103 a0 a1 a2 1 200 0 ((f_Mo_throwing ar (sg sc 9 (sc 9)) 1 0 1).2.1) ((f_Mo_throwing ar (sg sc 9 (sc 9)) 1 0 1).2.2)).2.2) 8) + 1)) : Int32 × (Nat → Nat → Int32) × (Nat → Int32)) = f_Mo_permit ar sc a0 a1 a2 := by rw [f_Mo_permit, if_pos c7, if_pos c70, if_pos c84, if_pos c95]
          exact W.iret (v := ((sg ((g_Mo_permit_103 a0 a1 a2 1 200 0 ((f_Mo_throwing ar (sg sc 9 (sc 9)) 1 0 1).2.1) ((f_Mo_throwing ar (sg sc 9 (sc 9)) 1 0 1).2.2)).2.2) 8 ((((g_Mo_permit_103 a0 a1 a2 1 200 0 ((f_Mo_throwing ar (sg sc 9 (sc 9)) 1 0 1).2.1) ((f_Mo_throwing ar (sg sc 9 (sc 9)) 1 0 1).2.2)).2.2) 8) + 1)) 8) - 1) hx hb hr (fun t ht hW => ⟨⟨((sg ((g_Mo_permit_103 a0 a1 a2 1 200 0 ((f_Mo_throwing ar (sg sc 9 (sc 9)) 1 0 1).2.1) ((f_Mo_throwing ar (sg sc 9 (sc 9)) 1 0 1).2.2)).2.2) 8 ((((g_Mo_permit_103 a0 a1 a2 1 200 0 ((f_Mo_throwing ar (sg sc 9 (sc 9)) 1 0 1).2.1) ((f_Mo_throwing ar (sg sc 9 (sc 9)) 1 0 1).2.2)).2.2) 8) + 1)) 8) - 1, (s2 (s2 ((g_Mo_permit_103 a0 a1 a2 1 200 0 ((f_Mo_throwing ar (sg sc 9 (sc 9)) 1 0 1).2.1) ((f_Mo_throwing ar (sg sc 9 (sc 9)) 1 0 1).2.2)).2.1) 23 ((((g_Mo_permit_103 a0 a1 a2 1 200 0 ((f_Mo_throwing ar (sg sc 9 (sc 9)) 1 0 1).2.1) ((f_Mo_throwing ar (sg sc 9 (sc 9)) 1 0 1).2.2)).2.2) 8).toNatClampNeg) a0) 24 ((((g_Mo_permit_103 a0 a1 a2 1 200 0 ((f_Mo_throwing ar (sg sc 9 (sc 9)) 1 0 1).2.1) ((f_Mo_throwing ar (sg sc 9 (sc 9)) 1 0 1).2.2)).2.2) 8).toNatClampNeg) a1, sg ((g_Mo_permit_103 a0 a1 a2 1 200 0 ((f_Mo_throwing ar (sg sc 9 (sc 9)) 1 0 1).2.1) ((f_Mo_throwing ar (sg sc 9 (sc 9)) 1 0 1).2.2)).2.2) 8 ((((g_Mo_permit_103 a0 a1 a2 1 200 0 ((f_Mo_throwing ar (sg sc 9 (sc 9)) 1 0 1).2.1) ((f_Mo_throwing ar (sg sc 9 (sc 9)) 1 0 1).2.2)).2.2) 8) + 1)), rfl, hv, by dsimp only; rw [ht]; exact hP⟩, hS.F ht⟩) hS.2.2 d_Mo_permit_175
        · have h := h.2 c95
          refine lv_iconst (v := 0) hx hb d_Mo_permit_98 (by decide) ?_
          have hv : ((0, (f_Mo_throwing ar (sg sc 9 (sc 9)) 1 0 1).2.1, (f_Mo_throwing ar (sg sc 9 (sc 9)) 1 0 1).2.2) : Int32 × (Nat → Nat → Int32) × (Nat → Int32)) = f_Mo_permit ar sc a0 a1 a2 := by rw [f_Mo_permit, if_pos c7, if_pos c70, if_pos c84, if_neg c95]
          exact W.iret (v := 0) hx hb hr (fun t ht hW => ⟨⟨0, ((f_Mo_throwing ar (sg sc 9 (sc 9)) 1 0 1).2.1, (f_Mo_throwing ar (sg sc 9 (sc 9)) 1 0 1).2.2), rfl, hv, by dsimp only; rw [ht]; exact hP⟩, hS.F ht⟩) hS.2.2 d_Mo_permit_99
    · have h := h.2 c70
      refine lv_iconst (v := 1) hx hb d_Mo_permit_73 (by decide) ?_
      refine lv_goto (tgt := 78) hx hb d_Mo_permit_74 (by decide) ?_
      refine lv_aload_n hx hb d_Mo_permit_78 rfl (lv_at hl 1 rfl) ?_
      refine gf_Mo_permits hF hK hP m_274 d_Mo_permit_79 ?_
      refine lv_bipush (v := 30) hx hb d_Mo_permit_82 (by decide) ?_
      refine lv_icmp_ne (tgt := 91) hx hb d_Mo_permit_84 (by decide) (fun c84 => ?_) (fun c84 => ?_)
      · have h := h.2 c84
        refine lv_iconst (v := 0) hx hb d_Mo_permit_91 (by decide) ?_
        refine r_Mo_throwing hF hK hP hL hS m_283 hl.1 ⟨Nat.le_of_ble_eq_true rfl, Nat.le_of_ble_eq_true rfl⟩ ⟨Nat.zero_le _, Nat.zero_le _⟩ (Nat.le_of_ble_eq_true rfl) d_Mo_permit_92 (fun H locs hP hS => ?_)
        refine lv_if_eq (tgt := 100) hx hb d_Mo_permit_95 (by decide) (fun c95 => ?_) (fun c95 => ?_)
        · have h := h.1 c95
          refine lv_iconst (v := 0) hx hb d_Mo_permit_100 (by decide) ?_
          refine lv_istore (lv' := [(5, .int 0), (4, .int 1), (0, .ref (L 0)), (1, .int a0), (2, .int a1), (3, .int a2)]) hx hb d_Mo_permit_101 hl (by decide) rfl (fun ls hl => ?_)
          have kL103 := h.1
          have h := h.2
          refine l_Mo_permit_103 a0 a1 a2 1 hF hK hL 200 0 ((f_Mo_throwing ar (sg sc 9 (sc 9)) 1 1 0).2.1) ((f_Mo_throwing ar (sg sc 9 (sc 9)) 1 1 0).2.2) kL103 _ _ hP hS ls (lv_sub hl [0, 2, 3, 4, 5, 1] rfl) (fun H locs ls hP hS hl => ?_)
          refine lv_aload_n hx hb d_Mo_permit_139 rfl (lv_at hl 1 rfl) ?_
          refine gf_Mo_from hF hK hP m_275 d_Mo_permit_140 ?_
          refine lv_aload_n hx hb d_Mo_permit_143 rfl (lv_at hl 1 rfl) ?_
          refine gf_Mo_permits hF hK hP m_274 d_Mo_permit_144 ?_
          refine lv_iload_n hx hb d_Mo_permit_147 rfl (lv_at hl 2 rfl) ?_
          have k148 := h.1
          have h := h.2
          refine asM_23 hF hK hP hL hS k148 d_Mo_permit_148 (fun H locs hP hS => ?_)
          refine lv_aload_n hx hb d_Mo_permit_149 rfl (lv_at hl 1 rfl) ?_
          refine gf_Mo_to hF hK hP m_276 d_Mo_permit_150 ?_
          refine lv_aload_n hx hb d_Mo_permit_153 rfl (lv_at hl 1 rfl) ?_
          refine gf_Mo_permits hF hK hP m_274 d_Mo_permit_154 ?_
          refine lv_iload_n hx hb d_Mo_permit_157 rfl (lv_at hl 3 rfl) ?_
          have k158 := h
          refine asM_24 hF hK hP hL hS k158 d_Mo_permit_158 (fun H locs hP hS => ?_)
          refine lv_aload_n hx hb d_Mo_permit_159 rfl (lv_at hl 1 rfl) ?_
          refine lv_dup hx hb d_Mo_permit_160 rfl ?_
          refine gf_Mo_permits hF hK hP m_274 d_Mo_permit_161 ?_
          refine lv_iconst (v := 1) hx hb d_Mo_permit_164 (by decide) ?_
          refine lv_iadd hx hb d_Mo_permit_165 ?_
          refine pf_Mo_permits hF hK hP hL hS m_274 d_Mo_permit_166 (fun H locs hP hS => ?_)
          refine lv_aload_n hx hb d_Mo_permit_169 rfl (lv_at hl 1 rfl) ?_
          refine gf_Mo_permits hF hK hP m_274 d_Mo_permit_170 ?_
          refine lv_iconst (v := 1) hx hb d_Mo_permit_173 (by decide) ?_
          refine lv_isub hx hb d_Mo_permit_174 ?_
          have hv : ((((sg ((g_Mo_permit_103 a0 a1 a2 1 200 0 ((f_Mo_throwing ar (sg sc 9 (sc 9)) 1 1 0).2.1) ((f_Mo_throwing ar (sg sc 9 (sc 9)) 1 1 0).2.2)).2.2) 8 ((((g_Mo_permit_103 a0 a1 a2 1 200 0 ((f_Mo_throwing ar (sg sc 9 (sc 9)) 1 1 0).2.1) ((f_Mo_throwing ar (sg sc 9 (sc 9)) 1 1 0).2.2)).2.2) 8) + 1)) 8) - 1, s2 (s2 ((g_Mo_permit_103 a0 a1 a2 1 200 0 ((f_Mo_throwing ar (sg sc 9 (sc 9)) 1 1 0).2.1) ((f_Mo_throwing ar (sg sc 9 (sc 9)) 1 1 0).2.2)).2.1) 23 ((((g_Mo_permit_103 a0 a1 a2 1 200 0 ((f_Mo_throwing ar (sg sc 9 (sc 9)) 1 1 0).2.1) ((f_Mo_throwing ar (sg sc 9 (sc 9)) 1 1 0).2.2)).2.2) 8).toNatClampNeg) a0) 24 ((((g_Mo_permit_103 a0 a1 a2 1 200 0 ((f_Mo_throwing ar (sg sc 9 (sc 9)) 1 1 0).2.1) ((f_Mo_throwing ar (sg sc 9 (sc 9)) 1 1 0).2.2)).2.2) 8).toNatClampNeg) a1, sg ((g_Mo_permit_103 a0 a1 a2 1 200 0 ((f_Mo_throwing ar (sg sc 9 (sc 9)) 1 1 0).2.1) ((f_Mo_throwing ar (sg sc 9 (sc 9)) 1 1 0).2.2)).2.2) 8 ((((g_Mo_permit_103 a0 a1 a2 1 200 0 ((f_Mo_throwing ar (sg sc 9 (sc 9)) 1 1 0).2.1) ((f_Mo_throwing ar (sg sc 9 (sc 9)) 1 1 0).2.2)).2.2) 8) + 1)) : Int32 × (Nat → Nat → Int32) × (Nat → Int32)) = f_Mo_permit ar sc a0 a1 a2 := by rw [f_Mo_permit, if_pos c7, if_neg c70, if_neg c84, if_pos c95]
          exact W.iret (v := ((sg ((g_Mo_permit_103 a0 a1 a2 1 200 0 ((f_Mo_throwing ar (sg sc 9 (sc 9)) 1 1 0).2.1) ((f_Mo_throwing ar (sg sc 9 (sc 9)) 1 1 0).2.2)).2.2) 8 ((((g_Mo_permit_103 a0 a1 a2 1 200 0 ((f_Mo_throwing ar (sg sc 9 (sc 9)) 1 1 0).2.1) ((f_Mo_throwing ar (sg sc 9 (sc 9)) 1 1 0).2.2)).2.2) 8) + 1)) 8) - 1) hx hb hr (fun t ht hW => ⟨⟨((sg ((g_Mo_permit_103 a0 a1 a2 1 200 0 ((f_Mo_throwing ar (sg sc 9 (sc 9)) 1 1 0).2.1) ((f_Mo_throwing ar (sg sc 9 (sc 9)) 1 1 0).2.2)).2.2) 8 ((((g_Mo_permit_103 a0 a1 a2 1 200 0 ((f_Mo_throwing ar (sg sc 9 (sc 9)) 1 1 0).2.1) ((f_Mo_throwing ar (sg sc 9 (sc 9)) 1 1 0).2.2)).2.2) 8) + 1)) 8) - 1, (s2 (s2 ((g_Mo_permit_103 a0 a1 a2 1 200 0 ((f_Mo_throwing ar (sg sc 9 (sc 9)) 1 1 0).2.1) ((f_Mo_throwing ar (sg sc 9 (sc 9)) 1 1 0).2.2)).2.1) 23 ((((g_Mo_permit_103 a0 a1 a2 1 200 0 ((f_Mo_throwing ar (sg sc 9 (sc 9)) 1 1 0).2.1) ((f_Mo_throwing ar (sg sc 9 (sc 9)) 1 1 0).2.2)).2.2) 8).toNatClampNeg) a0) 24 ((((g_Mo_permit_103 a0 a1 a2 1 200 0 ((f_Mo_throwing ar (sg sc 9 (sc 9)) 1 1 0).2.1) ((f_Mo_throwing ar (sg sc 9 (sc 9)) 1 1 0).2.2)).2.2) 8).toNatClampNeg) a1, sg ((g_Mo_permit_103 a0 a1 a2 1 200 0 ((f_Mo_throwing ar (sg sc 9 (sc 9)) 1 1 0).2.1) ((f_Mo_throwing ar (sg sc 9 (sc 9)) 1 1 0).2.2)).2.2) 8 ((((g_Mo_permit_103 a0 a1 a2 1 200 0 ((f_Mo_throwing ar (sg sc 9 (sc 9)) 1 1 0).2.1) ((f_Mo_throwing ar (sg sc 9 (sc 9)) 1 1 0).2.2)).2.2) 8) + 1)), rfl, hv, by dsimp only; rw [ht]; exact hP⟩, hS.F ht⟩) hS.2.2 d_Mo_permit_175
        · have h := h.2 c95
          refine lv_iconst (v := 0) hx hb d_Mo_permit_98 (by decide) ?_
          have hv : ((0, (f_Mo_throwing ar (sg sc 9 (sc 9)) 1 1 0).2.1, (f_Mo_throwing ar (sg sc 9 (sc 9)) 1 1 0).2.2) : Int32 × (Nat → Nat → Int32) × (Nat → Int32)) = f_Mo_permit ar sc a0 a1 a2 := by rw [f_Mo_permit, if_pos c7, if_neg c70, if_neg c84, if_neg c95]
          exact W.iret (v := 0) hx hb hr (fun t ht hW => ⟨⟨0, ((f_Mo_throwing ar (sg sc 9 (sc 9)) 1 1 0).2.1, (f_Mo_throwing ar (sg sc 9 (sc 9)) 1 1 0).2.2), rfl, hv, by dsimp only; rw [ht]; exact hP⟩, hS.F ht⟩) hS.2.2 d_Mo_permit_99
      · have h := h.1 c84
        refine lv_iconst (v := 1) hx hb d_Mo_permit_87 (by decide) ?_
        refine lv_goto (tgt := 92) hx hb d_Mo_permit_88 (by decide) ?_
        refine r_Mo_throwing hF hK hP hL hS m_283 hl.1 ⟨Nat.le_of_ble_eq_true rfl, Nat.le_of_ble_eq_true rfl⟩ ⟨Nat.zero_le _, Nat.zero_le _⟩ (Nat.le_of_ble_eq_true rfl) d_Mo_permit_92 (fun H locs hP hS => ?_)
        refine lv_if_eq (tgt := 100) hx hb d_Mo_permit_95 (by decide) (fun c95 => ?_) (fun c95 => ?_)
        · have h := h.1 c95
          refine lv_iconst (v := 0) hx hb d_Mo_permit_100 (by decide) ?_
          refine lv_istore (lv' := [(5, .int 0), (4, .int 1), (0, .ref (L 0)), (1, .int a0), (2, .int a1), (3, .int a2)]) hx hb d_Mo_permit_101 hl (by decide) rfl (fun ls hl => ?_)
          have kL103 := h.1
          have h := h.2
          refine l_Mo_permit_103 a0 a1 a2 1 hF hK hL 200 0 ((f_Mo_throwing ar (sg sc 9 (sc 9)) 1 1 1).2.1) ((f_Mo_throwing ar (sg sc 9 (sc 9)) 1 1 1).2.2) kL103 _ _ hP hS ls (lv_sub hl [0, 2, 3, 4, 5, 1] rfl) (fun H locs ls hP hS hl => ?_)
          refine lv_aload_n hx hb d_Mo_permit_139 rfl (lv_at hl 1 rfl) ?_
          refine gf_Mo_from hF hK hP m_275 d_Mo_permit_140 ?_
          refine lv_aload_n hx hb d_Mo_permit_143 rfl (lv_at hl 1 rfl) ?_
          refine gf_Mo_permits hF hK hP m_274 d_Mo_permit_144 ?_
          refine lv_iload_n hx hb d_Mo_permit_147 rfl (lv_at hl 2 rfl) ?_
          have k148 := h.1
          have h := h.2
          refine asM_23 hF hK hP hL hS k148 d_Mo_permit_148 (fun H locs hP hS => ?_)
          refine lv_aload_n hx hb d_Mo_permit_149 rfl (lv_at hl 1 rfl) ?_
          refine gf_Mo_to hF hK hP m_276 d_Mo_permit_150 ?_
          refine lv_aload_n hx hb d_Mo_permit_153 rfl (lv_at hl 1 rfl) ?_
          refine gf_Mo_permits hF hK hP m_274 d_Mo_permit_154 ?_
          refine lv_iload_n hx hb d_Mo_permit_157 rfl (lv_at hl 3 rfl) ?_
          have k158 := h
          refine asM_24 hF hK hP hL hS k158 d_Mo_permit_158 (fun H locs hP hS => ?_)
          refine lv_aload_n hx hb d_Mo_permit_159 rfl (lv_at hl 1 rfl) ?_
          refine lv_dup hx hb d_Mo_permit_160 rfl ?_
          refine gf_Mo_permits hF hK hP m_274 d_Mo_permit_161 ?_
          refine lv_iconst (v := 1) hx hb d_Mo_permit_164 (by decide) ?_
          refine lv_iadd hx hb d_Mo_permit_165 ?_
          refine pf_Mo_permits hF hK hP hL hS m_274 d_Mo_permit_166 (fun H locs hP hS => ?_)
          refine lv_aload_n hx hb d_Mo_permit_169 rfl (lv_at hl 1 rfl) ?_
          refine gf_Mo_permits hF hK hP m_274 d_Mo_permit_170 ?_
          refine lv_iconst (v := 1) hx hb d_Mo_permit_173 (by decide) ?_
          refine lv_isub hx hb d_Mo_permit_174 ?_
          have hv : ((((sg ((g_Mo_permit_103 a0 a1 a2 1 200 0 ((f_Mo_throwing ar (sg sc 9 (sc 9)) 1 1 1).2.1) ((f_Mo_throwing ar (sg sc 9 (sc 9)) 1 1 1).2.2)).2.2) 8 ((((g_Mo_permit_103 a0 a1 a2 1 200 0 ((f_Mo_throwing ar (sg sc 9 (sc 9)) 1 1 1).2.1) ((f_Mo_throwing ar (sg sc 9 (sc 9)) 1 1 1).2.2)).2.2) 8) + 1)) 8) - 1, s2 (s2 ((g_Mo_permit_103 a0 a1 a2 1 200 0 ((f_Mo_throwing ar (sg sc 9 (sc 9)) 1 1 1).2.1) ((f_Mo_throwing ar (sg sc 9 (sc 9)) 1 1 1).2.2)).2.1) 23 ((((g_Mo_permit_103 a0 a1 a2 1 200 0 ((f_Mo_throwing ar (sg sc 9 (sc 9)) 1 1 1).2.1) ((f_Mo_throwing ar (sg sc 9 (sc 9)) 1 1 1).2.2)).2.2) 8).toNatClampNeg) a0) 24 ((((g_Mo_permit_103 a0 a1 a2 1 200 0 ((f_Mo_throwing ar (sg sc 9 (sc 9)) 1 1 1).2.1) ((f_Mo_throwing ar (sg sc 9 (sc 9)) 1 1 1).2.2)).2.2) 8).toNatClampNeg) a1, sg ((g_Mo_permit_103 a0 a1 a2 1 200 0 ((f_Mo_throwing ar (sg sc 9 (sc 9)) 1 1 1).2.1) ((f_Mo_throwing ar (sg sc 9 (sc 9)) 1 1 1).2.2)).2.2) 8 ((((g_Mo_permit_103 a0 a1 a2 1 200 0 ((f_Mo_throwing ar (sg sc 9 (sc 9)) 1 1 1).2.1) ((f_Mo_throwing ar (sg sc 9 (sc 9)) 1 1 1).2.2)).2.2) 8) + 1)) : Int32 × (Nat → Nat → Int32) × (Nat → Int32)) = f_Mo_permit ar sc a0 a1 a2 := by rw [f_Mo_permit, if_pos c7, if_neg c70, if_pos c84, if_pos c95]
          exact W.iret (v := ((sg ((g_Mo_permit_103 a0 a1 a2 1 200 0 ((f_Mo_throwing ar (sg sc 9 (sc 9)) 1 1 1).2.1) ((f_Mo_throwing ar (sg sc 9 (sc 9)) 1 1 1).2.2)).2.2) 8 ((((g_Mo_permit_103 a0 a1 a2 1 200 0 ((f_Mo_throwing ar (sg sc 9 (sc 9)) 1 1 1).2.1) ((f_Mo_throwing ar (sg sc 9 (sc 9)) 1 1 1).2.2)).2.2) 8) + 1)) 8) - 1) hx hb hr (fun t ht hW => ⟨⟨((sg ((g_Mo_permit_103 a0 a1 a2 1 200 0 ((f_Mo_throwing ar (sg sc 9 (sc 9)) 1 1 1).2.1) ((f_Mo_throwing ar (sg sc 9 (sc 9)) 1 1 1).2.2)).2.2) 8 ((((g_Mo_permit_103 a0 a1 a2 1 200 0 ((f_Mo_throwing ar (sg sc 9 (sc 9)) 1 1 1).2.1) ((f_Mo_throwing ar (sg sc 9 (sc 9)) 1 1 1).2.2)).2.2) 8) + 1)) 8) - 1, (s2 (s2 ((g_Mo_permit_103 a0 a1 a2 1 200 0 ((f_Mo_throwing ar (sg sc 9 (sc 9)) 1 1 1).2.1) ((f_Mo_throwing ar (sg sc 9 (sc 9)) 1 1 1).2.2)).2.1) 23 ((((g_Mo_permit_103 a0 a1 a2 1 200 0 ((f_Mo_throwing ar (sg sc 9 (sc 9)) 1 1 1).2.1) ((f_Mo_throwing ar (sg sc 9 (sc 9)) 1 1 1).2.2)).2.2) 8).toNatClampNeg) a0) 24 ((((g_Mo_permit_103 a0 a1 a2 1 200 0 ((f_Mo_throwing ar (sg sc 9 (sc 9)) 1 1 1).2.1) ((f_Mo_throwing ar (sg sc 9 (sc 9)) 1 1 1).2.2)).2.2) 8).toNatClampNeg) a1, sg ((g_Mo_permit_103 a0 a1 a2 1 200 0 ((f_Mo_throwing ar (sg sc 9 (sc 9)) 1 1 1).2.1) ((f_Mo_throwing ar (sg sc 9 (sc 9)) 1 1 1).2.2)).2.2) 8 ((((g_Mo_permit_103 a0 a1 a2 1 200 0 ((f_Mo_throwing ar (sg sc 9 (sc 9)) 1 1 1).2.1) ((f_Mo_throwing ar (sg sc 9 (sc 9)) 1 1 1).2.2)).2.2) 8) + 1)), rfl, hv, by dsimp only; rw [ht]; exact hP⟩, hS.F ht⟩) hS.2.2 d_Mo_permit_175
        · have h := h.2 c95
          refine lv_iconst (v := 0) hx hb d_Mo_permit_98 (by decide) ?_
          have hv : ((0, (f_Mo_throwing ar (sg sc 9 (sc 9)) 1 1 1).2.1, (f_Mo_throwing ar (sg sc 9 (sc 9)) 1 1 1).2.2) : Int32 × (Nat → Nat → Int32) × (Nat → Int32)) = f_Mo_permit ar sc a0 a1 a2 := by rw [f_Mo_permit, if_pos c7, if_neg c70, if_pos c84, if_neg c95]
          exact W.iret (v := 0) hx hb hr (fun t ht hW => ⟨⟨0, ((f_Mo_throwing ar (sg sc 9 (sc 9)) 1 1 1).2.1, (f_Mo_throwing ar (sg sc 9 (sc 9)) 1 1 1).2.2), rfl, hv, by dsimp only; rw [ht]; exact hP⟩, hS.F ht⟩) hS.2.2 d_Mo_permit_99
  · have h := h.2 c7
    refine lv_iload_n hx hb d_Mo_permit_10 rfl (lv_at hl 2 rfl) ?_
    refine lv_iload_n hx hb d_Mo_permit_11 rfl (lv_at hl 1 rfl) ?_
    refine lv_iconst (v := 1) hx hb d_Mo_permit_12 (by decide) ?_
    refine lv_iadd hx hb d_Mo_permit_13 ?_
    refine lv_ldc (v := 9999999) hx hb hown (hts _ m_344) d_Mo_permit_14 ?_
    refine r_Mo_in hF m_195 hl.1 ⟨Nat.le_of_ble_eq_true rfl, Nat.le_of_ble_eq_true rfl⟩ ⟨Nat.zero_le _, Nat.zero_le _⟩ (Nat.le_of_ble_eq_true rfl) d_Mo_permit_16 ?_
    refine lv_if_eq (tgt := 32) hx hb d_Mo_permit_19 (by decide) (fun c19 => ?_) (fun c19 => ?_)
    · have h := h.1 c19
      refine lv_iconst (v := 1) hx hb d_Mo_permit_32 (by decide) ?_
      refine lv_goto (tgt := 37) hx hb d_Mo_permit_33 (by decide) ?_
      refine lv_istore (lv' := [(4, .int 1), (0, .ref (L 0)), (1, .int a0), (2, .int a1), (3, .int a2)]) hx hb d_Mo_permit_37 hl (by decide) rfl (fun ls hl => ?_)
      refine lv_aload_n hx hb d_Mo_permit_39 rfl (lv_at hl 1 rfl) ?_
      refine lv_iload hx hb d_Mo_permit_40 (lv_at hl 0 rfl) ?_
      refine lv_if_eq (tgt := 52) hx hb d_Mo_permit_42 (by decide) (fun c9 => absurd c9 (by decide)) (fun _ => ?_)
      refine lv_aload_n hx hb d_Mo_permit_45 rfl (lv_at hl 1 rfl) ?_
      refine gf_Mo_clash hF hK hP m_345 d_Mo_permit_46 ?_
      refine lv_goto (tgt := 59) hx hb d_Mo_permit_49 (by decide) ?_
      refine pf_Mo_clash hF hK hP hL hS m_345 d_Mo_permit_59 (fun H locs hP hS => ?_)
      refine lv_aload_n hx hb d_Mo_permit_62 rfl (lv_at hl 1 rfl) ?_
      refine lv_iload hx hb d_Mo_permit_63 (lv_at hl 0 rfl) ?_
      refine lv_aload_n hx hb d_Mo_permit_65 rfl (lv_at hl 1 rfl) ?_
      refine gf_Mo_clash hF hK hP m_345 d_Mo_permit_66 ?_
      refine lv_iconst (v := (-1)) hx hb d_Mo_permit_69 (by decide) ?_
      refine lv_icmp_eq (tgt := 77) hx hb d_Mo_permit_70 (by decide) (fun c70 => ?_) (fun c70 => ?_)
      · have h := h.1 c70
        refine lv_iconst (v := 0) hx hb d_Mo_permit_77 (by decide) ?_
        refine lv_aload_n hx hb d_Mo_permit_78 rfl (lv_at hl 1 rfl) ?_
        refine gf_Mo_permits hF hK hP m_274 d_Mo_permit_79 ?_
        refine lv_bipush (v := 30) hx hb d_Mo_permit_82 (by decide) ?_
        refine lv_icmp_ne (tgt := 91) hx hb d_Mo_permit_84 (by decide) (fun c84 => ?_) (fun c84 => ?_)
        · have h := h.2 c84
          refine lv_iconst (v := 0) hx hb d_Mo_permit_91 (by decide) ?_
          refine r_Mo_throwing hF hK hP hL hS m_283 hl.1 ⟨Nat.le_of_ble_eq_true rfl, Nat.le_of_ble_eq_true rfl⟩ ⟨Nat.zero_le _, Nat.zero_le _⟩ (Nat.le_of_ble_eq_true rfl) d_Mo_permit_92 (fun H locs hP hS => ?_)
          refine lv_if_eq (tgt := 100) hx hb d_Mo_permit_95 (by decide) (fun c95 => ?_) (fun c95 => ?_)
          · have h := h.1 c95
            refine lv_iconst (v := 0) hx hb d_Mo_permit_100 (by decide) ?_
            refine lv_istore (lv' := [(5, .int 0), (4, .int 1), (0, .ref (L 0)), (1, .int a0), (2, .int a1), (3, .int a2)]) hx hb d_Mo_permit_101 hl (by decide) rfl (fun ls hl => ?_)
            have kL103 := h.1
            have h := h.2
            refine l_Mo_permit_103 a0 a1 a2 1 hF hK hL 200 0 ((f_Mo_throwing ar (sg sc 9 (sc 9)) 1 0 0).2.1) ((f_Mo_throwing ar (sg sc 9 (sc 9)) 1 0 0).2.2) kL103 _ _ hP hS ls (lv_sub hl [0, 2, 3, 4, 5, 1] rfl) (fun H locs ls hP hS hl => ?_)
            refine lv_aload_n hx hb d_Mo_permit_139 rfl (lv_at hl 1 rfl) ?_
            refine gf_Mo_from hF hK hP m_275 d_Mo_permit_140 ?_
            refine lv_aload_n hx hb d_Mo_permit_143 rfl (lv_at hl 1 rfl) ?_
            refine gf_Mo_permits hF hK hP m_274 d_Mo_permit_144 ?_
            refine lv_iload_n hx hb d_Mo_permit_147 rfl (lv_at hl 2 rfl) ?_
            have k148 := h.1
            have h := h.2
            refine asM_23 hF hK hP hL hS k148 d_Mo_permit_148 (fun H locs hP hS => ?_)
            refine lv_aload_n hx hb d_Mo_permit_149 rfl (lv_at hl 1 rfl) ?_
            refine gf_Mo_to hF hK hP m_276 d_Mo_permit_150 ?_
            refine lv_aload_n hx hb d_Mo_permit_153 rfl (lv_at hl 1 rfl) ?_
            refine gf_Mo_permits hF hK hP m_274 d_Mo_permit_154 ?_
            refine lv_iload_n hx hb d_Mo_permit_157 rfl (lv_at hl 3 rfl) ?_
            have k158 := h
            refine asM_24 hF hK hP hL hS k158 d_Mo_permit_158 (fun H locs hP hS => ?_)
            refine lv_aload_n hx hb d_Mo_permit_159 rfl (lv_at hl 1 rfl) ?_
            refine lv_dup hx hb d_Mo_permit_160 rfl ?_
            refine gf_Mo_permits hF hK hP m_274 d_Mo_permit_161 ?_
            refine lv_iconst (v := 1) hx hb d_Mo_permit_164 (by decide) ?_
            refine lv_iadd hx hb d_Mo_permit_165 ?_
            refine pf_Mo_permits hF hK hP hL hS m_274 d_Mo_permit_166 (fun H locs hP hS => ?_)
            refine lv_aload_n hx hb d_Mo_permit_169 rfl (lv_at hl 1 rfl) ?_
            refine gf_Mo_permits hF hK hP m_274 d_Mo_permit_170 ?_
            refine lv_iconst (v := 1) hx hb d_Mo_permit_173 (by decide) ?_
            refine lv_isub hx hb d_Mo_permit_174 ?_
            have hv : ((((sg ((g_Mo_permit_103 a0 a1 a2 1 200 0 ((f_Mo_throwing ar (sg sc 9 (sc 9)) 1 0 0).2.1) ((f_Mo_throwing ar (sg sc 9 (sc 9)) 1 0 0).2.2)).2.2) 8 ((((g_Mo_permit_103 a0 a1 a2 1 200 0 ((f_Mo_throwing ar (sg sc 9 (sc 9)) 1 0 0).2.1) ((f_Mo_throwing ar (sg sc 9 (sc 9)) 1 0 0).2.2)).2.2) 8) + 1)) 8) - 1, s2 (s2 ((g_Mo_permit_103 a0 a1 a2 1 200 0 ((f_Mo_throwing ar (sg sc 9 (sc 9)) 1 0 0).2.1) ((f_Mo_throwing ar (sg sc 9 (sc 9)) 1 0 0).2.2)).2.1) 23 ((((g_Mo_permit_103 a0 a1 a2 1 200 0 ((f_Mo_throwing ar (sg sc 9 (sc 9)) 1 0 0).2.1) ((f_Mo_throwing ar (sg sc 9 (sc 9)) 1 0 0).2.2)).2.2) 8).toNatClampNeg) a0) 24 ((((g_Mo_permit_103 a0 a1 a2 1 200 0 ((f_Mo_throwing ar (sg sc 9 (sc 9)) 1 0 0).2.1) ((f_Mo_throwing ar (sg sc 9 (sc 9)) 1 0 0).2.2)).2.2) 8).toNatClampNeg) a1, sg ((g_Mo_permit_103 a0 a1 a2 1 200 0 ((f_Mo_throwing ar (sg sc 9 (sc 9)) 1 0 0).2.1) ((f_Mo_throwing ar (sg sc 9 (sc 9)) 1 0 0).2.2)).2.2) 8 ((((g_Mo_permit_103 a0 a1 a2 1 200 0 ((f_Mo_throwing ar (sg sc 9 (sc 9)) 1 0 0).2.1) ((f_Mo_throwing ar (sg sc 9 (sc 9)) 1 0 0).2.2)).2.2) 8) + 1)) : Int32 × (Nat → Nat → Int32) × (Nat → Int32)) = f_Mo_permit ar sc a0 a1 a2 := by rw [f_Mo_permit, if_neg c7, if_pos c19, if_pos c70, if_neg c84, if_pos c95]
            exact W.iret (v := ((sg ((g_Mo_permit_103 a0 a1 a2 1 200 0 ((f_Mo_throwing ar (sg sc 9 (sc 9)) 1 0 0).2.1) ((f_Mo_throwing ar (sg sc 9 (sc 9)) 1 0 0).2.2)).2.2) 8 ((((g_Mo_permit_103 a0 a1 a2 1 200 0 ((f_Mo_throwing ar (sg sc 9 (sc 9)) 1 0 0).2.1) ((f_Mo_throwing ar (sg sc 9 (sc 9)) 1 0 0).2.2)).2.2) 8) + 1)) 8) - 1) hx hb hr (fun t ht hW => ⟨⟨((sg ((g_Mo_permit_103 a0 a1 a2 1 200 0 ((f_Mo_throwing ar (sg sc 9 (sc 9)) 1 0 0).2.1) ((f_Mo_throwing ar (sg sc 9 (sc 9)) 1 0 0).2.2)).2.2) 8 ((((g_Mo_permit_103 a0 a1 a2 1 200 0 ((f_Mo_throwing ar (sg sc 9 (sc 9)) 1 0 0).2.1) ((f_Mo_throwing ar (sg sc 9 (sc 9)) 1 0 0).2.2)).2.2) 8) + 1)) 8) - 1, (s2 (s2 ((g_Mo_permit_103 a0 a1 a2 1 200 0 ((f_Mo_throwing ar (sg sc 9 (sc 9)) 1 0 0).2.1) ((f_Mo_throwing ar (sg sc 9 (sc 9)) 1 0 0).2.2)).2.1) 23 ((((g_Mo_permit_103 a0 a1 a2 1 200 0 ((f_Mo_throwing ar (sg sc 9 (sc 9)) 1 0 0).2.1) ((f_Mo_throwing ar (sg sc 9 (sc 9)) 1 0 0).2.2)).2.2) 8).toNatClampNeg) a0) 24 ((((g_Mo_permit_103 a0 a1 a2 1 200 0 ((f_Mo_throwing ar (sg sc 9 (sc 9)) 1 0 0).2.1) ((f_Mo_throwing ar (sg sc 9 (sc 9)) 1 0 0).2.2)).2.2) 8).toNatClampNeg) a1, sg ((g_Mo_permit_103 a0 a1 a2 1 200 0 ((f_Mo_throwing ar (sg sc 9 (sc 9)) 1 0 0).2.1) ((f_Mo_throwing ar (sg sc 9 (sc 9)) 1 0 0).2.2)).2.2) 8 ((((g_Mo_permit_103 a0 a1 a2 1 200 0 ((f_Mo_throwing ar (sg sc 9 (sc 9)) 1 0 0).2.1) ((f_Mo_throwing ar (sg sc 9 (sc 9)) 1 0 0).2.2)).2.2) 8) + 1)), rfl, hv, by dsimp only; rw [ht]; exact hP⟩, hS.F ht⟩) hS.2.2 d_Mo_permit_175
          · have h := h.2 c95
            refine lv_iconst (v := 0) hx hb d_Mo_permit_98 (by decide) ?_
            have hv : ((0, (f_Mo_throwing ar (sg sc 9 (sc 9)) 1 0 0).2.1, (f_Mo_throwing ar (sg sc 9 (sc 9)) 1 0 0).2.2) : Int32 × (Nat → Nat → Int32) × (Nat → Int32)) = f_Mo_permit ar sc a0 a1 a2 := by rw [f_Mo_permit, if_neg c7, if_pos c19, if_pos c70, if_neg c84, if_neg c95]
            exact W.iret (v := 0) hx hb hr (fun t ht hW => ⟨⟨0, ((f_Mo_throwing ar (sg sc 9 (sc 9)) 1 0 0).2.1, (f_Mo_throwing ar (sg sc 9 (sc 9)) 1 0 0).2.2), rfl, hv, by dsimp only; rw [ht]; exact hP⟩, hS.F ht⟩) hS.2.2 d_Mo_permit_99
        · have h := h.1 c84
          refine lv_iconst (v := 1) hx hb d_Mo_permit_87 (by decide) ?_
          refine lv_goto (tgt := 92) hx hb d_Mo_permit_88 (by decide) ?_
          refine r_Mo_throwing hF hK hP hL hS m_283 hl.1 ⟨Nat.le_of_ble_eq_true rfl, Nat.le_of_ble_eq_true rfl⟩ ⟨Nat.zero_le _, Nat.zero_le _⟩ (Nat.le_of_ble_eq_true rfl) d_Mo_permit_92 (fun H locs hP hS => ?_)
          refine lv_if_eq (tgt := 100) hx hb d_Mo_permit_95 (by decide) (fun c95 => ?_) (fun c95 => ?_)
          · have h := h.1 c95
            refine lv_iconst (v := 0) hx hb d_Mo_permit_100 (by decide) ?_
            refine lv_istore (lv' := [(5, .int 0), (4, .int 1), (0, .ref (L 0)), (1, .int a0), (2, .int a1), (3, .int a2)]) hx hb d_Mo_permit_101 hl (by decide) rfl (fun ls hl => ?_)
            have kL103 := h.1
            have h := h.2
            refine l_Mo_permit_103 a0 a1 a2 1 hF hK hL 200 0 ((f_Mo_throwing ar (sg sc 9 (sc 9)) 1 0 1).2.1) ((f_Mo_throwing ar (sg sc 9 (sc 9)) 1 0 1).2.2) kL103 _ _ hP hS ls (lv_sub hl [0, 2, 3, 4, 5, 1] rfl) (fun H locs ls hP hS hl => ?_)
            refine lv_aload_n hx hb d_Mo_permit_139 rfl (lv_at hl 1 rfl) ?_
            refine gf_Mo_from hF hK hP m_275 d_Mo_permit_140 ?_
            refine lv_aload_n hx hb d_Mo_permit_143 rfl (lv_at hl 1 rfl) ?_
            refine gf_Mo_permits hF hK hP m_274 d_Mo_permit_144 ?_
            refine lv_iload_n hx hb d_Mo_permit_147 rfl (lv_at hl 2 rfl) ?_
            have k148 := h.1
            have h := h.2
            refine asM_23 hF hK hP hL hS k148 d_Mo_permit_148 (fun H locs hP hS => ?_)
            refine lv_aload_n hx hb d_Mo_permit_149 rfl (lv_at hl 1 rfl) ?_
            refine gf_Mo_to hF hK hP m_276 d_Mo_permit_150 ?_
            refine lv_aload_n hx hb d_Mo_permit_153 rfl (lv_at hl 1 rfl) ?_
            refine gf_Mo_permits hF hK hP m_274 d_Mo_permit_154 ?_
            refine lv_iload_n hx hb d_Mo_permit_157 rfl (lv_at hl 3 rfl) ?_
            have k158 := h
            refine asM_24 hF hK hP hL hS k158 d_Mo_permit_158 (fun H locs hP hS => ?_)
            refine lv_aload_n hx hb d_Mo_permit_159 rfl (lv_at hl 1 rfl) ?_
            refine lv_dup hx hb d_Mo_permit_160 rfl ?_
            refine gf_Mo_permits hF hK hP m_274 d_Mo_permit_161 ?_
            refine lv_iconst (v := 1) hx hb d_Mo_permit_164 (by decide) ?_
            refine lv_iadd hx hb d_Mo_permit_165 ?_
            refine pf_Mo_permits hF hK hP hL hS m_274 d_Mo_permit_166 (fun H locs hP hS => ?_)
            refine lv_aload_n hx hb d_Mo_permit_169 rfl (lv_at hl 1 rfl) ?_
            refine gf_Mo_permits hF hK hP m_274 d_Mo_permit_170 ?_
            refine lv_iconst (v := 1) hx hb d_Mo_permit_173 (by decide) ?_
            refine lv_isub hx hb d_Mo_permit_174 ?_
            have hv : ((((sg ((g_Mo_permit_103 a0 a1 a2 1 200 0 ((f_Mo_throwing ar (sg sc 9 (sc 9)) 1 0 1).2.1) ((f_Mo_throwing ar (sg sc 9 (sc 9)) 1 0 1).2.2)).2.2) 8 ((((g_Mo_permit_103 a0 a1 a2 1 200 0 ((f_Mo_throwing ar (sg sc 9 (sc 9)) 1 0 1).2.1) ((f_Mo_throwing ar (sg sc 9 (sc 9)) 1 0 1).2.2)).2.2) 8) + 1)) 8) - 1, s2 (s2 ((g_Mo_permit_103 a0 a1 a2 1 200 0 ((f_Mo_throwing ar (sg sc 9 (sc 9)) 1 0 1).2.1) ((f_Mo_throwing ar (sg sc 9 (sc 9)) 1 0 1).2.2)).2.1) 23 ((((g_Mo_permit_103 a0 a1 a2 1 200 0 ((f_Mo_throwing ar (sg sc 9 (sc 9)) 1 0 1).2.1) ((f_Mo_throwing ar (sg sc 9 (sc 9)) 1 0 1).2.2)).2.2) 8).toNatClampNeg) a0) 24 ((((g_Mo_permit_103 a0 a1 a2 1 200 0 ((f_Mo_throwing ar (sg sc 9 (sc 9)) 1 0 1).2.1) ((f_Mo_throwing ar (sg sc 9 (sc 9)) 1 0 1).2.2)).2.2) 8).toNatClampNeg) a1, sg ((g_Mo_permit_103 a0 a1 a2 1 200 0 ((f_Mo_throwing ar (sg sc 9 (sc 9)) 1 0 1).2.1) ((f_Mo_throwing ar (sg sc 9 (sc 9)) 1 0 1).2.2)).2.2) 8 ((((g_Mo_permit_103 a0 a1 a2 1 200 0 ((f_Mo_throwing ar (sg sc 9 (sc 9)) 1 0 1).2.1) ((f_Mo_throwing ar (sg sc 9 (sc 9)) 1 0 1).2.2)).2.2) 8) + 1)) : Int32 × (Nat → Nat → Int32) × (Nat → Int32)) = f_Mo_permit ar sc a0 a1 a2 := by rw [f_Mo_permit, if_neg c7, if_pos c19, if_pos c70, if_pos c84, if_pos c95]
            exact W.iret (v := ((sg ((g_Mo_permit_103 a0 a1 a2 1 200 0 ((f_Mo_throwing ar (sg sc 9 (sc 9)) 1 0 1).2.1) ((f_Mo_throwing ar (sg sc 9 (sc 9)) 1 0 1).2.2)).2.2) 8 ((((g_Mo_permit_103 a0 a1 a2 1 200 0 ((f_Mo_throwing ar (sg sc 9 (sc 9)) 1 0 1).2.1) ((f_Mo_throwing ar (sg sc 9 (sc 9)) 1 0 1).2.2)).2.2) 8) + 1)) 8) - 1) hx hb hr (fun t ht hW => ⟨⟨((sg ((g_Mo_permit_103 a0 a1 a2 1 200 0 ((f_Mo_throwing ar (sg sc 9 (sc 9)) 1 0 1).2.1) ((f_Mo_throwing ar (sg sc 9 (sc 9)) 1 0 1).2.2)).2.2) 8 ((((g_Mo_permit_103 a0 a1 a2 1 200 0 ((f_Mo_throwing ar (sg sc 9 (sc 9)) 1 0 1).2.1) ((f_Mo_throwing ar (sg sc 9 (sc 9)) 1 0 1).2.2)).2.2) 8) + 1)) 8) - 1, (s2 (s2 ((g_Mo_permit_103 a0 a1 a2 1 200 0 ((f_Mo_throwing ar (sg sc 9 (sc 9)) 1 0 1).2.1) ((f_Mo_throwing ar (sg sc 9 (sc 9)) 1 0 1).2.2)).2.1) 23 ((((g_Mo_permit_103 a0 a1 a2 1 200 0 ((f_Mo_throwing ar (sg sc 9 (sc 9)) 1 0 1).2.1) ((f_Mo_throwing ar (sg sc 9 (sc 9)) 1 0 1).2.2)).2.2) 8).toNatClampNeg) a0) 24 ((((g_Mo_permit_103 a0 a1 a2 1 200 0 ((f_Mo_throwing ar (sg sc 9 (sc 9)) 1 0 1).2.1) ((f_Mo_throwing ar (sg sc 9 (sc 9)) 1 0 1).2.2)).2.2) 8).toNatClampNeg) a1, sg ((g_Mo_permit_103 a0 a1 a2 1 200 0 ((f_Mo_throwing ar (sg sc 9 (sc 9)) 1 0 1).2.1) ((f_Mo_throwing ar (sg sc 9 (sc 9)) 1 0 1).2.2)).2.2) 8 ((((g_Mo_permit_103 a0 a1 a2 1 200 0 ((f_Mo_throwing ar (sg sc 9 (sc 9)) 1 0 1).2.1) ((f_Mo_throwing ar (sg sc 9 (sc 9)) 1 0 1).2.2)).2.2) 8) + 1)), rfl, hv, by dsimp only; rw [ht]; exact hP⟩, hS.F ht⟩) hS.2.2 d_Mo_permit_175
          · have h := h.2 c95
            refine lv_iconst (v := 0) hx hb d_Mo_permit_98 (by decide) ?_
            have hv : ((0, (f_Mo_throwing ar (sg sc 9 (sc 9)) 1 0 1).2.1, (f_Mo_throwing ar (sg sc 9 (sc 9)) 1 0 1).2.2) : Int32 × (Nat → Nat → Int32) × (Nat → Int32)) = f_Mo_permit ar sc a0 a1 a2 := by rw [f_Mo_permit, if_neg c7, if_pos c19, if_pos c70, if_pos c84, if_neg c95]
            exact W.iret (v := 0) hx hb hr (fun t ht hW => ⟨⟨0, ((f_Mo_throwing ar (sg sc 9 (sc 9)) 1 0 1).2.1, (f_Mo_throwing ar (sg sc 9 (sc 9)) 1 0 1).2.2), rfl, hv, by dsimp only; rw [ht]; exact hP⟩, hS.F ht⟩) hS.2.2 d_Mo_permit_99
      · have h := h.2 c70
        refine lv_iconst (v := 1) hx hb d_Mo_permit_73 (by decide) ?_
        refine lv_goto (tgt := 78) hx hb d_Mo_permit_74 (by decide) ?_
        refine lv_aload_n hx hb d_Mo_permit_78 rfl (lv_at hl 1 rfl) ?_
        refine gf_Mo_permits hF hK hP m_274 d_Mo_permit_79 ?_
        refine lv_bipush (v := 30) hx hb d_Mo_permit_82 (by decide) ?_
        refine lv_icmp_ne (tgt := 91) hx hb d_Mo_permit_84 (by decide) (fun c84 => ?_) (fun c84 => ?_)
        · have h := h.2 c84
          refine lv_iconst (v := 0) hx hb d_Mo_permit_91 (by decide) ?_
          refine r_Mo_throwing hF hK hP hL hS m_283 hl.1 ⟨Nat.le_of_ble_eq_true rfl, Nat.le_of_ble_eq_true rfl⟩ ⟨Nat.zero_le _, Nat.zero_le _⟩ (Nat.le_of_ble_eq_true rfl) d_Mo_permit_92 (fun H locs hP hS => ?_)
          refine lv_if_eq (tgt := 100) hx hb d_Mo_permit_95 (by decide) (fun c95 => ?_) (fun c95 => ?_)
          · have h := h.1 c95
            refine lv_iconst (v := 0) hx hb d_Mo_permit_100 (by decide) ?_
            refine lv_istore (lv' := [(5, .int 0), (4, .int 1), (0, .ref (L 0)), (1, .int a0), (2, .int a1), (3, .int a2)]) hx hb d_Mo_permit_101 hl (by decide) rfl (fun ls hl => ?_)
            have kL103 := h.1
            have h := h.2
            refine l_Mo_permit_103 a0 a1 a2 1 hF hK hL 200 0 ((f_Mo_throwing ar (sg sc 9 (sc 9)) 1 1 0).2.1) ((f_Mo_throwing ar (sg sc 9 (sc 9)) 1 1 0).2.2) kL103 _ _ hP hS ls (lv_sub hl [0, 2, 3, 4, 5, 1] rfl) (fun H locs ls hP hS hl => ?_)
            refine lv_aload_n hx hb d_Mo_permit_139 rfl (lv_at hl 1 rfl) ?_
            refine gf_Mo_from hF hK hP m_275 d_Mo_permit_140 ?_
            refine lv_aload_n hx hb d_Mo_permit_143 rfl (lv_at hl 1 rfl) ?_
            refine gf_Mo_permits hF hK hP m_274 d_Mo_permit_144 ?_
            refine lv_iload_n hx hb d_Mo_permit_147 rfl (lv_at hl 2 rfl) ?_
            have k148 := h.1
            have h := h.2
            refine asM_23 hF hK hP hL hS k148 d_Mo_permit_148 (fun H locs hP hS => ?_)
            refine lv_aload_n hx hb d_Mo_permit_149 rfl (lv_at hl 1 rfl) ?_
            refine gf_Mo_to hF hK hP m_276 d_Mo_permit_150 ?_
            refine lv_aload_n hx hb d_Mo_permit_153 rfl (lv_at hl 1 rfl) ?_
            refine gf_Mo_permits hF hK hP m_274 d_Mo_permit_154 ?_
            refine lv_iload_n hx hb d_Mo_permit_157 rfl (lv_at hl 3 rfl) ?_
            have k158 := h
            refine asM_24 hF hK hP hL hS k158 d_Mo_permit_158 (fun H locs hP hS => ?_)
            refine lv_aload_n hx hb d_Mo_permit_159 rfl (lv_at hl 1 rfl) ?_
            refine lv_dup hx hb d_Mo_permit_160 rfl ?_
            refine gf_Mo_permits hF hK hP m_274 d_Mo_permit_161 ?_
            refine lv_iconst (v := 1) hx hb d_Mo_permit_164 (by decide) ?_
            refine lv_iadd hx hb d_Mo_permit_165 ?_
            refine pf_Mo_permits hF hK hP hL hS m_274 d_Mo_permit_166 (fun H locs hP hS => ?_)
            refine lv_aload_n hx hb d_Mo_permit_169 rfl (lv_at hl 1 rfl) ?_
            refine gf_Mo_permits hF hK hP m_274 d_Mo_permit_170 ?_
            refine lv_iconst (v := 1) hx hb d_Mo_permit_173 (by decide) ?_
            refine lv_isub hx hb d_Mo_permit_174 ?_
            have hv : ((((sg ((g_Mo_permit_103 a0 a1 a2 1 200 0 ((f_Mo_throwing ar (sg sc 9 (sc 9)) 1 1 0).2.1) ((f_Mo_throwing ar (sg sc 9 (sc 9)) 1 1 0).2.2)).2.2) 8 ((((g_Mo_permit_103 a0 a1 a2 1 200 0 ((f_Mo_throwing ar (sg sc 9 (sc 9)) 1 1 0).2.1) ((f_Mo_throwing ar (sg sc 9 (sc 9)) 1 1 0).2.2)).2.2) 8) + 1)) 8) - 1, s2 (s2 ((g_Mo_permit_103 a0 a1 a2 1 200 0 ((f_Mo_throwing ar (sg sc 9 (sc 9)) 1 1 0).2.1) ((f_Mo_throwing ar (sg sc 9 (sc 9)) 1 1 0).2.2)).2.1) 23 ((((g_Mo_permit_103 a0 a1 a2 1 200 0 ((f_Mo_throwing ar (sg sc 9 (sc 9)) 1 1 0).2.1) ((f_Mo_throwing ar (sg sc 9 (sc 9)) 1 1 0).2.2)).2.2) 8).toNatClampNeg) a0) 24 ((((g_Mo_permit_103 a0 a1 a2 1 200 0 ((f_Mo_throwing ar (sg sc 9 (sc 9)) 1 1 0).2.1) ((f_Mo_throwing ar (sg sc 9 (sc 9)) 1 1 0).2.2)).2.2) 8).toNatClampNeg) a1, sg ((g_Mo_permit_103 a0 a1 a2 1 200 0 ((f_Mo_throwing ar (sg sc 9 (sc 9)) 1 1 0).2.1) ((f_Mo_throwing ar (sg sc 9 (sc 9)) 1 1 0).2.2)).2.2) 8 ((((g_Mo_permit_103 a0 a1 a2 1 200 0 ((f_Mo_throwing ar (sg sc 9 (sc 9)) 1 1 0).2.1) ((f_Mo_throwing ar (sg sc 9 (sc 9)) 1 1 0).2.2)).2.2) 8) + 1)) : Int32 × (Nat → Nat → Int32) × (Nat → Int32)) = f_Mo_permit ar sc a0 a1 a2 := by rw [f_Mo_permit, if_neg c7, if_pos c19, if_neg c70, if_neg c84, if_pos c95]
            exact W.iret (v := ((sg ((g_Mo_permit_103 a0 a1 a2 1 200 0 ((f_Mo_throwing ar (sg sc 9 (sc 9)) 1 1 0).2.1) ((f_Mo_throwing ar (sg sc 9 (sc 9)) 1 1 0).2.2)).2.2) 8 ((((g_Mo_permit_103 a0 a1 a2 1 200 0 ((f_Mo_throwing ar (sg sc 9 (sc 9)) 1 1 0).2.1) ((f_Mo_throwing ar (sg sc 9 (sc 9)) 1 1 0).2.2)).2.2) 8) + 1)) 8) - 1) hx hb hr (fun t ht hW => ⟨⟨((sg ((g_Mo_permit_103 a0 a1 a2 1 200 0 ((f_Mo_throwing ar (sg sc 9 (sc 9)) 1 1 0).2.1) ((f_Mo_throwing ar (sg sc 9 (sc 9)) 1 1 0).2.2)).2.2) 8 ((((g_Mo_permit_103 a0 a1 a2 1 200 0 ((f_Mo_throwing ar (sg sc 9 (sc 9)) 1 1 0).2.1) ((f_Mo_throwing ar (sg sc 9 (sc 9)) 1 1 0).2.2)).2.2) 8) + 1)) 8) - 1, (s2 (s2 ((g_Mo_permit_103 a0 a1 a2 1 200 0 ((f_Mo_throwing ar (sg sc 9 (sc 9)) 1 1 0).2.1) ((f_Mo_throwing ar (sg sc 9 (sc 9)) 1 1 0).2.2)).2.1) 23 ((((g_Mo_permit_103 a0 a1 a2 1 200 0 ((f_Mo_throwing ar (sg sc 9 (sc 9)) 1 1 0).2.1) ((f_Mo_throwing ar (sg sc 9 (sc 9)) 1 1 0).2.2)).2.2) 8).toNatClampNeg) a0) 24 ((((g_Mo_permit_103 a0 a1 a2 1 200 0 ((f_Mo_throwing ar (sg sc 9 (sc 9)) 1 1 0).2.1) ((f_Mo_throwing ar (sg sc 9 (sc 9)) 1 1 0).2.2)).2.2) 8).toNatClampNeg) a1, sg ((g_Mo_permit_103 a0 a1 a2 1 200 0 ((f_Mo_throwing ar (sg sc 9 (sc 9)) 1 1 0).2.1) ((f_Mo_throwing ar (sg sc 9 (sc 9)) 1 1 0).2.2)).2.2) 8 ((((g_Mo_permit_103 a0 a1 a2 1 200 0 ((f_Mo_throwing ar (sg sc 9 (sc 9)) 1 1 0).2.1) ((f_Mo_throwing ar (sg sc 9 (sc 9)) 1 1 0).2.2)).2.2) 8) + 1)), rfl, hv, by dsimp only; rw [ht]; exact hP⟩, hS.F ht⟩) hS.2.2 d_Mo_permit_175
          · have h := h.2 c95
            refine lv_iconst (v := 0) hx hb d_Mo_permit_98 (by decide) ?_
            have hv : ((0, (f_Mo_throwing ar (sg sc 9 (sc 9)) 1 1 0).2.1, (f_Mo_throwing ar (sg sc 9 (sc 9)) 1 1 0).2.2) : Int32 × (Nat → Nat → Int32) × (Nat → Int32)) = f_Mo_permit ar sc a0 a1 a2 := by rw [f_Mo_permit, if_neg c7, if_pos c19, if_neg c70, if_neg c84, if_neg c95]
            exact W.iret (v := 0) hx hb hr (fun t ht hW => ⟨⟨0, ((f_Mo_throwing ar (sg sc 9 (sc 9)) 1 1 0).2.1, (f_Mo_throwing ar (sg sc 9 (sc 9)) 1 1 0).2.2), rfl, hv, by dsimp only; rw [ht]; exact hP⟩, hS.F ht⟩) hS.2.2 d_Mo_permit_99
        · have h := h.1 c84
          refine lv_iconst (v := 1) hx hb d_Mo_permit_87 (by decide) ?_
          refine lv_goto (tgt := 92) hx hb d_Mo_permit_88 (by decide) ?_
          refine r_Mo_throwing hF hK hP hL hS m_283 hl.1 ⟨Nat.le_of_ble_eq_true rfl, Nat.le_of_ble_eq_true rfl⟩ ⟨Nat.zero_le _, Nat.zero_le _⟩ (Nat.le_of_ble_eq_true rfl) d_Mo_permit_92 (fun H locs hP hS => ?_)
          refine lv_if_eq (tgt := 100) hx hb d_Mo_permit_95 (by decide) (fun c95 => ?_) (fun c95 => ?_)
          · have h := h.1 c95
            refine lv_iconst (v := 0) hx hb d_Mo_permit_100 (by decide) ?_
            refine lv_istore (lv' := [(5, .int 0), (4, .int 1), (0, .ref (L 0)), (1, .int a0), (2, .int a1), (3, .int a2)]) hx hb d_Mo_permit_101 hl (by decide) rfl (fun ls hl => ?_)
            have kL103 := h.1
            have h := h.2
            refine l_Mo_permit_103 a0 a1 a2 1 hF hK hL 200 0 ((f_Mo_throwing ar (sg sc 9 (sc 9)) 1 1 1).2.1) ((f_Mo_throwing ar (sg sc 9 (sc 9)) 1 1 1).2.2) kL103 _ _ hP hS ls (lv_sub hl [0, 2, 3, 4, 5, 1] rfl) (fun H locs ls hP hS hl => ?_)
            refine lv_aload_n hx hb d_Mo_permit_139 rfl (lv_at hl 1 rfl) ?_
            refine gf_Mo_from hF hK hP m_275 d_Mo_permit_140 ?_
            refine lv_aload_n hx hb d_Mo_permit_143 rfl (lv_at hl 1 rfl) ?_
            refine gf_Mo_permits hF hK hP m_274 d_Mo_permit_144 ?_
            refine lv_iload_n hx hb d_Mo_permit_147 rfl (lv_at hl 2 rfl) ?_
            have k148 := h.1
            have h := h.2
            refine asM_23 hF hK hP hL hS k148 d_Mo_permit_148 (fun H locs hP hS => ?_)
            refine lv_aload_n hx hb d_Mo_permit_149 rfl (lv_at hl 1 rfl) ?_
            refine gf_Mo_to hF hK hP m_276 d_Mo_permit_150 ?_
            refine lv_aload_n hx hb d_Mo_permit_153 rfl (lv_at hl 1 rfl) ?_
            refine gf_Mo_permits hF hK hP m_274 d_Mo_permit_154 ?_
            refine lv_iload_n hx hb d_Mo_permit_157 rfl (lv_at hl 3 rfl) ?_
            have k158 := h
            refine asM_24 hF hK hP hL hS k158 d_Mo_permit_158 (fun H locs hP hS => ?_)
            refine lv_aload_n hx hb d_Mo_permit_159 rfl (lv_at hl 1 rfl) ?_
            refine lv_dup hx hb d_Mo_permit_160 rfl ?_
            refine gf_Mo_permits hF hK hP m_274 d_Mo_permit_161 ?_
            refine lv_iconst (v := 1) hx hb d_Mo_permit_164 (by decide) ?_
            refine lv_iadd hx hb d_Mo_permit_165 ?_
            refine pf_Mo_permits hF hK hP hL hS m_274 d_Mo_permit_166 (fun H locs hP hS => ?_)
            refine lv_aload_n hx hb d_Mo_permit_169 rfl (lv_at hl 1 rfl) ?_
            refine gf_Mo_permits hF hK hP m_274 d_Mo_permit_170 ?_
            refine lv_iconst (v := 1) hx hb d_Mo_permit_173 (by decide) ?_
            refine lv_isub hx hb d_Mo_permit_174 ?_
            have hv : ((((sg ((g_Mo_permit_103 a0 a1 a2 1 200 0 ((f_Mo_throwing ar (sg sc 9 (sc 9)) 1 1 1).2.1) ((f_Mo_throwing ar (sg sc 9 (sc 9)) 1 1 1).2.2)).2.2) 8 ((((g_Mo_permit_103 a0 a1 a2 1 200 0 ((f_Mo_throwing ar (sg sc 9 (sc 9)) 1 1 1).2.1) ((f_Mo_throwing ar (sg sc 9 (sc 9)) 1 1 1).2.2)).2.2) 8) + 1)) 8) - 1, s2 (s2 ((g_Mo_permit_103 a0 a1 a2 1 200 0 ((f_Mo_throwing ar (sg sc 9 (sc 9)) 1 1 1).2.1) ((f_Mo_throwing ar (sg sc 9 (sc 9)) 1 1 1).2.2)).2.1) 23 ((((g_Mo_permit_103 a0 a1 a2 1 200 0 ((f_Mo_throwing ar (sg sc 9 (sc 9)) 1 1 1).2.1) ((f_Mo_throwing ar (sg sc 9 (sc 9)) 1 1 1).2.2)).2.2) 8).toNatClampNeg) a0) 24 ((((g_Mo_permit_103 a0 a1 a2 1 200 0 ((f_Mo_throwing ar (sg sc 9 (sc 9)) 1 1 1).2.1) ((f_Mo_throwing ar (sg sc 9 (sc 9)) 1 1 1).2.2)).2.2) 8).toNatClampNeg) a1, sg ((g_Mo_permit_103 a0 a1 a2 1 200 0 ((f_Mo_throwing ar (sg sc 9 (sc 9)) 1 1 1).2.1) ((f_Mo_throwing ar (sg sc 9 (sc 9)) 1 1 1).2.2)).2.2) 8 ((((g_Mo_permit_103 a0 a1 a2 1 200 0 ((f_Mo_throwing ar (sg sc 9 (sc 9)) 1 1 1).2.1) ((f_Mo_throwing ar (sg sc 9 (sc 9)) 1 1 1).2.2)).2.2) 8) + 1)) : Int32 × (Nat → Nat → Int32) × (Nat → Int32)) = f_Mo_permit ar sc a0 a1 a2 := by rw [f_Mo_permit, if_neg c7, if_pos c19, if_neg c70, if_pos c84, if_pos c95]
            exact W.iret (v := ((sg ((g_Mo_permit_103 a0 a1 a2 1 200 0 ((f_Mo_throwing ar (sg sc 9 (sc 9)) 1 1 1).2.1) ((f_Mo_throwing ar (sg sc 9 (sc 9)) 1 1 1).2.2)).2.2) 8 ((((g_Mo_permit_103 a0 a1 a2 1 200 0 ((f_Mo_throwing ar (sg sc 9 (sc 9)) 1 1 1).2.1) ((f_Mo_throwing ar (sg sc 9 (sc 9)) 1 1 1).2.2)).2.2) 8) + 1)) 8) - 1) hx hb hr (fun t ht hW => ⟨⟨((sg ((g_Mo_permit_103 a0 a1 a2 1 200 0 ((f_Mo_throwing ar (sg sc 9 (sc 9)) 1 1 1).2.1) ((f_Mo_throwing ar (sg sc 9 (sc 9)) 1 1 1).2.2)).2.2) 8 ((((g_Mo_permit_103 a0 a1 a2 1 200 0 ((f_Mo_throwing ar (sg sc 9 (sc 9)) 1 1 1).2.1) ((f_Mo_throwing ar (sg sc 9 (sc 9)) 1 1 1).2.2)).2.2) 8) + 1)) 8) - 1, (s2 (s2 ((g_Mo_permit_103 a0 a1 a2 1 200 0 ((f_Mo_throwing ar (sg sc 9 (sc 9)) 1 1 1).2.1) ((f_Mo_throwing ar (sg sc 9 (sc 9)) 1 1 1).2.2)).2.1) 23 ((((g_Mo_permit_103 a0 a1 a2 1 200 0 ((f_Mo_throwing ar (sg sc 9 (sc 9)) 1 1 1).2.1) ((f_Mo_throwing ar (sg sc 9 (sc 9)) 1 1 1).2.2)).2.2) 8).toNatClampNeg) a0) 24 ((((g_Mo_permit_103 a0 a1 a2 1 200 0 ((f_Mo_throwing ar (sg sc 9 (sc 9)) 1 1 1).2.1) ((f_Mo_throwing ar (sg sc 9 (sc 9)) 1 1 1).2.2)).2.2) 8).toNatClampNeg) a1, sg ((g_Mo_permit_103 a0 a1 a2 1 200 0 ((f_Mo_throwing ar (sg sc 9 (sc 9)) 1 1 1).2.1) ((f_Mo_throwing ar (sg sc 9 (sc 9)) 1 1 1).2.2)).2.2) 8 ((((g_Mo_permit_103 a0 a1 a2 1 200 0 ((f_Mo_throwing ar (sg sc 9 (sc 9)) 1 1 1).2.1) ((f_Mo_throwing ar (sg sc 9 (sc 9)) 1 1 1).2.2)).2.2) 8) + 1)), rfl, hv, by dsimp only; rw [ht]; exact hP⟩, hS.F ht⟩) hS.2.2 d_Mo_permit_175
          · have h := h.2 c95
            refine lv_iconst (v := 0) hx hb d_Mo_permit_98 (by decide) ?_
            have hv : ((0, (f_Mo_throwing ar (sg sc 9 (sc 9)) 1 1 1).2.1, (f_Mo_throwing ar (sg sc 9 (sc 9)) 1 1 1).2.2) : Int32 × (Nat → Nat → Int32) × (Nat → Int32)) = f_Mo_permit ar sc a0 a1 a2 := by rw [f_Mo_permit, if_neg c7, if_pos c19, if_neg c70, if_pos c84, if_neg c95]
            exact W.iret (v := 0) hx hb hr (fun t ht hW => ⟨⟨0, ((f_Mo_throwing ar (sg sc 9 (sc 9)) 1 1 1).2.1, (f_Mo_throwing ar (sg sc 9 (sc 9)) 1 1 1).2.2), rfl, hv, by dsimp only; rw [ht]; exact hP⟩, hS.F ht⟩) hS.2.2 d_Mo_permit_99
    · have h := h.2 c19
      refine lv_iload_n hx hb d_Mo_permit_22 rfl (lv_at hl 3 rfl) ?_
      refine lv_iconst (v := 1) hx hb d_Mo_permit_23 (by decide) ?_
      refine lv_ldc (v := 1000000) hx hb hown (hts _ m_340) d_Mo_permit_24 ?_
      refine r_Mo_in hF m_195 hl.1 ⟨Nat.le_of_ble_eq_true rfl, Nat.le_of_ble_eq_true rfl⟩ ⟨Nat.zero_le _, Nat.zero_le _⟩ (Nat.le_of_ble_eq_true rfl) d_Mo_permit_26 ?_
      refine lv_if_ne (tgt := 36) hx hb d_Mo_permit_29 (by decide) (fun c29 => ?_) (fun c29 => ?_)
      · have h := h.2 c29
        refine lv_iconst (v := 0) hx hb d_Mo_permit_36 (by decide) ?_
        refine lv_istore (lv' := [(4, .int 0), (0, .ref (L 0)), (1, .int a0), (2, .int a1), (3, .int a2)]) hx hb d_Mo_permit_37 hl (by decide) rfl (fun ls hl => ?_)
        refine lv_aload_n hx hb d_Mo_permit_39 rfl (lv_at hl 1 rfl) ?_
        refine lv_iload hx hb d_Mo_permit_40 (lv_at hl 0 rfl) ?_
        refine lv_if_eq (tgt := 52) hx hb d_Mo_permit_42 (by decide) (fun _ => ?_) (fun c9 => absurd c9 (by decide))
        refine lv_aload_n hx hb d_Mo_permit_52 rfl (lv_at hl 1 rfl) ?_
        refine lv_iload_n hx hb d_Mo_permit_53 rfl (lv_at hl 2 rfl) ?_
        refine lv_iload_n hx hb d_Mo_permit_54 rfl (lv_at hl 3 rfl) ?_
        refine lv_iload_n hx hb d_Mo_permit_55 rfl (lv_at hl 4 rfl) ?_
        have k56 := h.1
        have h := h.2
        refine r_Mo_refusal hF hK hP k56 m_346 hl.1 ⟨Nat.le_of_ble_eq_true rfl, Nat.le_of_ble_eq_true rfl⟩ ⟨Nat.zero_le _, Nat.zero_le _⟩ (Nat.le_of_ble_eq_true rfl) d_Mo_permit_56 ?_
        refine pf_Mo_clash hF hK hP hL hS m_345 d_Mo_permit_59 (fun H locs hP hS => ?_)
        refine lv_aload_n hx hb d_Mo_permit_62 rfl (lv_at hl 1 rfl) ?_
        refine lv_iload hx hb d_Mo_permit_63 (lv_at hl 0 rfl) ?_
        refine lv_aload_n hx hb d_Mo_permit_65 rfl (lv_at hl 1 rfl) ?_
        refine gf_Mo_clash hF hK hP m_345 d_Mo_permit_66 ?_
        refine lv_iconst (v := (-1)) hx hb d_Mo_permit_69 (by decide) ?_
        refine lv_icmp_eq (tgt := 77) hx hb d_Mo_permit_70 (by decide) (fun c70 => ?_) (fun c70 => ?_)
        · have h := h.1 c70
          refine lv_iconst (v := 0) hx hb d_Mo_permit_77 (by decide) ?_
          refine lv_aload_n hx hb d_Mo_permit_78 rfl (lv_at hl 1 rfl) ?_
          refine gf_Mo_permits hF hK hP m_274 d_Mo_permit_79 ?_
          refine lv_bipush (v := 30) hx hb d_Mo_permit_82 (by decide) ?_
          refine lv_icmp_ne (tgt := 91) hx hb d_Mo_permit_84 (by decide) (fun c84 => ?_) (fun c84 => ?_)
          · have h := h.2 c84
            refine lv_iconst (v := 0) hx hb d_Mo_permit_91 (by decide) ?_
            refine r_Mo_throwing hF hK hP hL hS m_283 hl.1 ⟨Nat.le_of_ble_eq_true rfl, Nat.le_of_ble_eq_true rfl⟩ ⟨Nat.zero_le _, Nat.zero_le _⟩ (Nat.le_of_ble_eq_true rfl) d_Mo_permit_92 (fun H locs hP hS => ?_)
            refine lv_if_eq (tgt := 100) hx hb d_Mo_permit_95 (by decide) (fun c95 => ?_) (fun c95 => ?_)
            · have h := h.1 c95
              refine lv_iconst (v := 0) hx hb d_Mo_permit_100 (by decide) ?_
              refine lv_istore (lv' := [(5, .int 0), (4, .int 0), (0, .ref (L 0)), (1, .int a0), (2, .int a1), (3, .int a2)]) hx hb d_Mo_permit_101 hl (by decide) rfl (fun ls hl => ?_)
              have kL103 := h.1
              have h := h.2
              refine l_Mo_permit_103 a0 a1 a2 0 hF hK hL 200 0 ((f_Mo_throwing ar (sg sc 9 (f_Mo_refusal ar sc a0 a1 a2)) 0 0 0).2.1) ((f_Mo_throwing ar (sg sc 9 (f_Mo_refusal ar sc a0 a1 a2)) 0 0 0).2.2) kL103 _ _ hP hS ls (lv_sub hl [0, 2, 3, 4, 5, 1] rfl) (fun H locs ls hP hS hl => ?_)
              refine lv_aload_n hx hb d_Mo_permit_139 rfl (lv_at hl 1 rfl) ?_
              refine gf_Mo_from hF hK hP m_275 d_Mo_permit_140 ?_
              refine lv_aload_n hx hb d_Mo_permit_143 rfl (lv_at hl 1 rfl) ?_
              refine gf_Mo_permits hF hK hP m_274 d_Mo_permit_144 ?_
              refine lv_iload_n hx hb d_Mo_permit_147 rfl (lv_at hl 2 rfl) ?_
              have k148 := h.1
              have h := h.2
              refine asM_23 hF hK hP hL hS k148 d_Mo_permit_148 (fun H locs hP hS => ?_)
              refine lv_aload_n hx hb d_Mo_permit_149 rfl (lv_at hl 1 rfl) ?_
              refine gf_Mo_to hF hK hP m_276 d_Mo_permit_150 ?_
              refine lv_aload_n hx hb d_Mo_permit_153 rfl (lv_at hl 1 rfl) ?_
              refine gf_Mo_permits hF hK hP m_274 d_Mo_permit_154 ?_
              refine lv_iload_n hx hb d_Mo_permit_157 rfl (lv_at hl 3 rfl) ?_
              have k158 := h
              refine asM_24 hF hK hP hL hS k158 d_Mo_permit_158 (fun H locs hP hS => ?_)
              refine lv_aload_n hx hb d_Mo_permit_159 rfl (lv_at hl 1 rfl) ?_
              refine lv_dup hx hb d_Mo_permit_160 rfl ?_
              refine gf_Mo_permits hF hK hP m_274 d_Mo_permit_161 ?_
              refine lv_iconst (v := 1) hx hb d_Mo_permit_164 (by decide) ?_
              refine lv_iadd hx hb d_Mo_permit_165 ?_
              refine pf_Mo_permits hF hK hP hL hS m_274 d_Mo_permit_166 (fun H locs hP hS => ?_)
              refine lv_aload_n hx hb d_Mo_permit_169 rfl (lv_at hl 1 rfl) ?_
              refine gf_Mo_permits hF hK hP m_274 d_Mo_permit_170 ?_
              refine lv_iconst (v := 1) hx hb d_Mo_permit_173 (by decide) ?_
              refine lv_isub hx hb d_Mo_permit_174 ?_
              have hv : ((((sg ((g_Mo_permit_103 a0 a1 a2 0 200 0 ((f_Mo_throwing ar (sg sc 9 (f_Mo_refusal ar sc a0 a1 a2)) 0 0 0).2.1) ((f_Mo_throwing ar (sg sc 9 (f_Mo_refusal ar sc a0 a1 a2)) 0 0 0).2.2)).2.2) 8 ((((g_Mo_permit_103 a0 a1 a2 0 200 0 ((f_Mo_throwing ar (sg sc 9 (f_Mo_refusal ar sc a0 a1 a2)) 0 0 0).2.1) ((f_Mo_throwing ar (sg sc 9 (f_Mo_refusal ar sc a0 a1 a2)) 0 0 0).2.2)).2.2) 8) + 1)) 8) - 1, s2 (s2 ((g_Mo_permit_103 a0 a1 a2 0 200 0 ((f_Mo_throwing ar (sg sc 9 (f_Mo_refusal ar sc a0 a1 a2)) 0 0 0).2.1) ((f_Mo_throwing ar (sg sc 9 (f_Mo_refusal ar sc a0 a1 a2)) 0 0 0).2.2)).2.1) 23 ((((g_Mo_permit_103 a0 a1 a2 0 200 0 ((f_Mo_throwing ar (sg sc 9 (f_Mo_refusal ar sc a0 a1 a2)) 0 0 0).2.1) ((f_Mo_throwing ar (sg sc 9 (f_Mo_refusal ar sc a0 a1 a2)) 0 0 0).2.2)).2.2) 8).toNatClampNeg) a0) 24 ((((g_Mo_permit_103 a0 a1 a2 0 200 0 ((f_Mo_throwing ar (sg sc 9 (f_Mo_refusal ar sc a0 a1 a2)) 0 0 0).2.1) ((f_Mo_throwing ar (sg sc 9 (f_Mo_refusal ar sc a0 a1 a2)) 0 0 0).2.2)).2.2) 8).toNatClampNeg) a1, sg ((g_Mo_permit_103 a0 a1 a2 0 200 0 ((f_Mo_throwing ar (sg sc 9 (f_Mo_refusal ar sc a0 a1 a2)) 0 0 0).2.1) ((f_Mo_throwing ar (sg sc 9 (f_Mo_refusal ar sc a0 a1 a2)) 0 0 0).2.2)).2.2) 8 ((((g_Mo_permit_103 a0 a1 a2 0 200 0 ((f_Mo_throwing ar (sg sc 9 (f_Mo_refusal ar sc a0 a1 a2)) 0 0 0).2.1) ((f_Mo_throwing ar (sg sc 9 (f_Mo_refusal ar sc a0 a1 a2)) 0 0 0).2.2)).2.2) 8) + 1)) : Int32 × (Nat → Nat → Int32) × (Nat → Int32)) = f_Mo_permit ar sc a0 a1 a2 := by rw [f_Mo_permit, if_neg c7, if_neg c19, if_neg c29, if_pos c70, if_neg c84, if_pos c95]
              exact W.iret (v := ((sg ((g_Mo_permit_103 a0 a1 a2 0 200 0 ((f_Mo_throwing ar (sg sc 9 (f_Mo_refusal ar sc a0 a1 a2)) 0 0 0).2.1) ((f_Mo_throwing ar (sg sc 9 (f_Mo_refusal ar sc a0 a1 a2)) 0 0 0).2.2)).2.2) 8 ((((g_Mo_permit_103 a0 a1 a2 0 200 0 ((f_Mo_throwing ar (sg sc 9 (f_Mo_refusal ar sc a0 a1 a2)) 0 0 0).2.1) ((f_Mo_throwing ar (sg sc 9 (f_Mo_refusal ar sc a0 a1 a2)) 0 0 0).2.2)).2.2) 8) + 1)) 8) - 1) hx hb hr (fun t ht hW => ⟨⟨((sg ((g_Mo_permit_103 a0 a1 a2 0 200 0 ((f_Mo_throwing ar (sg sc 9 (f_Mo_refusal ar sc a0 a1 a2)) 0 0 0).2.1) ((f_Mo_throwing ar (sg sc 9 (f_Mo_refusal ar sc a0 a1 a2)) 0 0 0).2.2)).2.2) 8 ((((g_Mo_permit_103 a0 a1 a2 0 200 0 ((f_Mo_throwing ar (sg sc 9 (f_Mo_refusal ar sc a0 a1 a2)) 0 0 0).2.1) ((f_Mo_throwing ar (sg sc 9 (f_Mo_refusal ar sc a0 a1 a2)) 0 0 0).2.2)).2.2) 8) + 1)) 8) - 1, (s2 (s2 ((g_Mo_permit_103 a0 a1 a2 0 200 0 ((f_Mo_throwing ar (sg sc 9 (f_Mo_refusal ar sc a0 a1 a2)) 0 0 0).2.1) ((f_Mo_throwing ar (sg sc 9 (f_Mo_refusal ar sc a0 a1 a2)) 0 0 0).2.2)).2.1) 23 ((((g_Mo_permit_103 a0 a1 a2 0 200 0 ((f_Mo_throwing ar (sg sc 9 (f_Mo_refusal ar sc a0 a1 a2)) 0 0 0).2.1) ((f_Mo_throwing ar (sg sc 9 (f_Mo_refusal ar sc a0 a1 a2)) 0 0 0).2.2)).2.2) 8).toNatClampNeg) a0) 24 ((((g_Mo_permit_103 a0 a1 a2 0 200 0 ((f_Mo_throwing ar (sg sc 9 (f_Mo_refusal ar sc a0 a1 a2)) 0 0 0).2.1) ((f_Mo_throwing ar (sg sc 9 (f_Mo_refusal ar sc a0 a1 a2)) 0 0 0).2.2)).2.2) 8).toNatClampNeg) a1, sg ((g_Mo_permit_103 a0 a1 a2 0 200 0 ((f_Mo_throwing ar (sg sc 9 (f_Mo_refusal ar sc a0 a1 a2)) 0 0 0).2.1) ((f_Mo_throwing ar (sg sc 9 (f_Mo_refusal ar sc a0 a1 a2)) 0 0 0).2.2)).2.2) 8 ((((g_Mo_permit_103 a0 a1 a2 0 200 0 ((f_Mo_throwing ar (sg sc 9 (f_Mo_refusal ar sc a0 a1 a2)) 0 0 0).2.1) ((f_Mo_throwing ar (sg sc 9 (f_Mo_refusal ar sc a0 a1 a2)) 0 0 0).2.2)).2.2) 8) + 1)), rfl, hv, by dsimp only; rw [ht]; exact hP⟩, hS.F ht⟩) hS.2.2 d_Mo_permit_175
            · have h := h.2 c95
              refine lv_iconst (v := 0) hx hb d_Mo_permit_98 (by decide) ?_
              have hv : ((0, (f_Mo_throwing ar (sg sc 9 (f_Mo_refusal ar sc a0 a1 a2)) 0 0 0).2.1, (f_Mo_throwing ar (sg sc 9 (f_Mo_refusal ar sc a0 a1 a2)) 0 0 0).2.2) : Int32 × (Nat → Nat → Int32) × (Nat → Int32)) = f_Mo_permit ar sc a0 a1 a2 := by rw [f_Mo_permit, if_neg c7, if_neg c19, if_neg c29, if_pos c70, if_neg c84, if_neg c95]
              exact W.iret (v := 0) hx hb hr (fun t ht hW => ⟨⟨0, ((f_Mo_throwing ar (sg sc 9 (f_Mo_refusal ar sc a0 a1 a2)) 0 0 0).2.1, (f_Mo_throwing ar (sg sc 9 (f_Mo_refusal ar sc a0 a1 a2)) 0 0 0).2.2), rfl, hv, by dsimp only; rw [ht]; exact hP⟩, hS.F ht⟩) hS.2.2 d_Mo_permit_99
          · have h := h.1 c84
            refine lv_iconst (v := 1) hx hb d_Mo_permit_87 (by decide) ?_
            refine lv_goto (tgt := 92) hx hb d_Mo_permit_88 (by decide) ?_
            refine r_Mo_throwing hF hK hP hL hS m_283 hl.1 ⟨Nat.le_of_ble_eq_true rfl, Nat.le_of_ble_eq_true rfl⟩ ⟨Nat.zero_le _, Nat.zero_le _⟩ (Nat.le_of_ble_eq_true rfl) d_Mo_permit_92 (fun H locs hP hS => ?_)
            refine lv_if_eq (tgt := 100) hx hb d_Mo_permit_95 (by decide) (fun c95 => ?_) (fun c95 => ?_)
            · have h := h.1 c95
              refine lv_iconst (v := 0) hx hb d_Mo_permit_100 (by decide) ?_
              refine lv_istore (lv' := [(5, .int 0), (4, .int 0), (0, .ref (L 0)), (1, .int a0), (2, .int a1), (3, .int a2)]) hx hb d_Mo_permit_101 hl (by decide) rfl (fun ls hl => ?_)
              have kL103 := h.1
              have h := h.2
              refine l_Mo_permit_103 a0 a1 a2 0 hF hK hL 200 0 ((f_Mo_throwing ar (sg sc 9 (f_Mo_refusal ar sc a0 a1 a2)) 0 0 1).2.1) ((f_Mo_throwing ar (sg sc 9 (f_Mo_refusal ar sc a0 a1 a2)) 0 0 1).2.2) kL103 _ _ hP hS ls (lv_sub hl [0, 2, 3, 4, 5, 1] rfl) (fun H locs ls hP hS hl => ?_)
              refine lv_aload_n hx hb d_Mo_permit_139 rfl (lv_at hl 1 rfl) ?_
              refine gf_Mo_from hF hK hP m_275 d_Mo_permit_140 ?_
              refine lv_aload_n hx hb d_Mo_permit_143 rfl (lv_at hl 1 rfl) ?_
              refine gf_Mo_permits hF hK hP m_274 d_Mo_permit_144 ?_
              refine lv_iload_n hx hb d_Mo_permit_147 rfl (lv_at hl 2 rfl) ?_
              have k148 := h.1
              have h := h.2
              refine asM_23 hF hK hP hL hS k148 d_Mo_permit_148 (fun H locs hP hS => ?_)
              refine lv_aload_n hx hb d_Mo_permit_149 rfl (lv_at hl 1 rfl) ?_
              refine gf_Mo_to hF hK hP m_276 d_Mo_permit_150 ?_
              refine lv_aload_n hx hb d_Mo_permit_153 rfl (lv_at hl 1 rfl) ?_
              refine gf_Mo_permits hF hK hP m_274 d_Mo_permit_154 ?_
              refine lv_iload_n hx hb d_Mo_permit_157 rfl (lv_at hl 3 rfl) ?_
              have k158 := h
              refine asM_24 hF hK hP hL hS k158 d_Mo_permit_158 (fun H locs hP hS => ?_)
              refine lv_aload_n hx hb d_Mo_permit_159 rfl (lv_at hl 1 rfl) ?_
              refine lv_dup hx hb d_Mo_permit_160 rfl ?_
              refine gf_Mo_permits hF hK hP m_274 d_Mo_permit_161 ?_
              refine lv_iconst (v := 1) hx hb d_Mo_permit_164 (by decide) ?_
              refine lv_iadd hx hb d_Mo_permit_165 ?_
              refine pf_Mo_permits hF hK hP hL hS m_274 d_Mo_permit_166 (fun H locs hP hS => ?_)
              refine lv_aload_n hx hb d_Mo_permit_169 rfl (lv_at hl 1 rfl) ?_
              refine gf_Mo_permits hF hK hP m_274 d_Mo_permit_170 ?_
              refine lv_iconst (v := 1) hx hb d_Mo_permit_173 (by decide) ?_
              refine lv_isub hx hb d_Mo_permit_174 ?_
              have hv : ((((sg ((g_Mo_permit_103 a0 a1 a2 0 200 0 ((f_Mo_throwing ar (sg sc 9 (f_Mo_refusal ar sc a0 a1 a2)) 0 0 1).2.1) ((f_Mo_throwing ar (sg sc 9 (f_Mo_refusal ar sc a0 a1 a2)) 0 0 1).2.2)).2.2) 8 ((((g_Mo_permit_103 a0 a1 a2 0 200 0 ((f_Mo_throwing ar (sg sc 9 (f_Mo_refusal ar sc a0 a1 a2)) 0 0 1).2.1) ((f_Mo_throwing ar (sg sc 9 (f_Mo_refusal ar sc a0 a1 a2)) 0 0 1).2.2)).2.2) 8) + 1)) 8) - 1, s2 (s2 ((g_Mo_permit_103 a0 a1 a2 0 200 0 ((f_Mo_throwing ar (sg sc 9 (f_Mo_refusal ar sc a0 a1 a2)) 0 0 1).2.1) ((f_Mo_throwing ar (sg sc 9 (f_Mo_refusal ar sc a0 a1 a2)) 0 0 1).2.2)).2.1) 23 ((((g_Mo_permit_103 a0 a1 a2 0 200 0 ((f_Mo_throwing ar (sg sc 9 (f_Mo_refusal ar sc a0 a1 a2)) 0 0 1).2.1) ((f_Mo_throwing ar (sg sc 9 (f_Mo_refusal ar sc a0 a1 a2)) 0 0 1).2.2)).2.2) 8).toNatClampNeg) a0) 24 ((((g_Mo_permit_103 a0 a1 a2 0 200 0 ((f_Mo_throwing ar (sg sc 9 (f_Mo_refusal ar sc a0 a1 a2)) 0 0 1).2.1) ((f_Mo_throwing ar (sg sc 9 (f_Mo_refusal ar sc a0 a1 a2)) 0 0 1).2.2)).2.2) 8).toNatClampNeg) a1, sg ((g_Mo_permit_103 a0 a1 a2 0 200 0 ((f_Mo_throwing ar (sg sc 9 (f_Mo_refusal ar sc a0 a1 a2)) 0 0 1).2.1) ((f_Mo_throwing ar (sg sc 9 (f_Mo_refusal ar sc a0 a1 a2)) 0 0 1).2.2)).2.2) 8 ((((g_Mo_permit_103 a0 a1 a2 0 200 0 ((f_Mo_throwing ar (sg sc 9 (f_Mo_refusal ar sc a0 a1 a2)) 0 0 1).2.1) ((f_Mo_throwing ar (sg sc 9 (f_Mo_refusal ar sc a0 a1 a2)) 0 0 1).2.2)).2.2) 8) + 1)) : Int32 × (Nat → Nat → Int32) × (Nat → Int32)) = f_Mo_permit ar sc a0 a1 a2 := by rw [f_Mo_permit, if_neg c7, if_neg c19, if_neg c29, if_pos c70, if_pos c84, if_pos c95]
              exact W.iret (v := ((sg ((g_Mo_permit_103 a0 a1 a2 0 200 0 ((f_Mo_throwing ar (sg sc 9 (f_Mo_refusal ar sc a0 a1 a2)) 0 0 1).2.1) ((f_Mo_throwing ar (sg sc 9 (f_Mo_refusal ar sc a0 a1 a2)) 0 0 1).2.2)).2.2) 8 ((((g_Mo_permit_103 a0 a1 a2 0 200 0 ((f_Mo_throwing ar (sg sc 9 (f_Mo_refusal ar sc a0 a1 a2)) 0 0 1).2.1) ((f_Mo_throwing ar (sg sc 9 (f_Mo_refusal ar sc a0 a1 a2)) 0 0 1).2.2)).2.2) 8) + 1)) 8) - 1) hx hb hr (fun t ht hW => ⟨⟨((sg ((g_Mo_permit_103 a0 a1 a2 0 200 0 ((f_Mo_throwing ar (sg sc 9 (f_Mo_refusal ar sc a0 a1 a2)) 0 0 1).2.1) ((f_Mo_throwing ar (sg sc 9 (f_Mo_refusal ar sc a0 a1 a2)) 0 0 1).2.2)).2.2) 8 ((((g_Mo_permit_103 a0 a1 a2 0 200 0 ((f_Mo_throwing ar (sg sc 9 (f_Mo_refusal ar sc a0 a1 a2)) 0 0 1).2.1) ((f_Mo_throwing ar (sg sc 9 (f_Mo_refusal ar sc a0 a1 a2)) 0 0 1).2.2)).2.2) 8) + 1)) 8) - 1, (s2 (s2 ((g_Mo_permit_103 a0 a1 a2 0 200 0 ((f_Mo_throwing ar (sg sc 9 (f_Mo_refusal ar sc a0 a1 a2)) 0 0 1).2.1) ((f_Mo_throwing ar (sg sc 9 (f_Mo_refusal ar sc a0 a1 a2)) 0 0 1).2.2)).2.1) 23 ((((g_Mo_permit_103 a0 a1 a2 0 200 0 ((f_Mo_throwing ar (sg sc 9 (f_Mo_refusal ar sc a0 a1 a2)) 0 0 1).2.1) ((f_Mo_throwing ar (sg sc 9 (f_Mo_refusal ar sc a0 a1 a2)) 0 0 1).2.2)).2.2) 8).toNatClampNeg) a0) 24 ((((g_Mo_permit_103 a0 a1 a2 0 200 0 ((f_Mo_throwing ar (sg sc 9 (f_Mo_refusal ar sc a0 a1 a2)) 0 0 1).2.1) ((f_Mo_throwing ar (sg sc 9 (f_Mo_refusal ar sc a0 a1 a2)) 0 0 1).2.2)).2.2) 8).toNatClampNeg) a1, sg ((g_Mo_permit_103 a0 a1 a2 0 200 0 ((f_Mo_throwing ar (sg sc 9 (f_Mo_refusal ar sc a0 a1 a2)) 0 0 1).2.1) ((f_Mo_throwing ar (sg sc 9 (f_Mo_refusal ar sc a0 a1 a2)) 0 0 1).2.2)).2.2) 8 ((((g_Mo_permit_103 a0 a1 a2 0 200 0 ((f_Mo_throwing ar (sg sc 9 (f_Mo_refusal ar sc a0 a1 a2)) 0 0 1).2.1) ((f_Mo_throwing ar (sg sc 9 (f_Mo_refusal ar sc a0 a1 a2)) 0 0 1).2.2)).2.2) 8) + 1)), rfl, hv, by dsimp only; rw [ht]; exact hP⟩, hS.F ht⟩) hS.2.2 d_Mo_permit_175
            · have h := h.2 c95
              refine lv_iconst (v := 0) hx hb d_Mo_permit_98 (by decide) ?_
              have hv : ((0, (f_Mo_throwing ar (sg sc 9 (f_Mo_refusal ar sc a0 a1 a2)) 0 0 1).2.1, (f_Mo_throwing ar (sg sc 9 (f_Mo_refusal ar sc a0 a1 a2)) 0 0 1).2.2) : Int32 × (Nat → Nat → Int32) × (Nat → Int32)) = f_Mo_permit ar sc a0 a1 a2 := by rw [f_Mo_permit, if_neg c7, if_neg c19, if_neg c29, if_pos c70, if_pos c84, if_neg c95]
              exact W.iret (v := 0) hx hb hr (fun t ht hW => ⟨⟨0, ((f_Mo_throwing ar (sg sc 9 (f_Mo_refusal ar sc a0 a1 a2)) 0 0 1).2.1, (f_Mo_throwing ar (sg sc 9 (f_Mo_refusal ar sc a0 a1 a2)) 0 0 1).2.2), rfl, hv, by dsimp only; rw [ht]; exact hP⟩, hS.F ht⟩) hS.2.2 d_Mo_permit_99
        · have h := h.2 c70
          refine lv_iconst (v := 1) hx hb d_Mo_permit_73 (by decide) ?_
          refine lv_goto (tgt := 78) hx hb d_Mo_permit_74 (by decide) ?_
          refine lv_aload_n hx hb d_Mo_permit_78 rfl (lv_at hl 1 rfl) ?_
          refine gf_Mo_permits hF hK hP m_274 d_Mo_permit_79 ?_
          refine lv_bipush (v := 30) hx hb d_Mo_permit_82 (by decide) ?_
          refine lv_icmp_ne (tgt := 91) hx hb d_Mo_permit_84 (by decide) (fun c84 => ?_) (fun c84 => ?_)
          · have h := h.2 c84
            refine lv_iconst (v := 0) hx hb d_Mo_permit_91 (by decide) ?_
            refine r_Mo_throwing hF hK hP hL hS m_283 hl.1 ⟨Nat.le_of_ble_eq_true rfl, Nat.le_of_ble_eq_true rfl⟩ ⟨Nat.zero_le _, Nat.zero_le _⟩ (Nat.le_of_ble_eq_true rfl) d_Mo_permit_92 (fun H locs hP hS => ?_)
            refine lv_if_eq (tgt := 100) hx hb d_Mo_permit_95 (by decide) (fun c95 => ?_) (fun c95 => ?_)
            · have h := h.1 c95
              refine lv_iconst (v := 0) hx hb d_Mo_permit_100 (by decide) ?_
              refine lv_istore (lv' := [(5, .int 0), (4, .int 0), (0, .ref (L 0)), (1, .int a0), (2, .int a1), (3, .int a2)]) hx hb d_Mo_permit_101 hl (by decide) rfl (fun ls hl => ?_)
              have kL103 := h.1
              have h := h.2
              refine l_Mo_permit_103 a0 a1 a2 0 hF hK hL 200 0 ((f_Mo_throwing ar (sg sc 9 (f_Mo_refusal ar sc a0 a1 a2)) 0 1 0).2.1) ((f_Mo_throwing ar (sg sc 9 (f_Mo_refusal ar sc a0 a1 a2)) 0 1 0).2.2) kL103 _ _ hP hS ls (lv_sub hl [0, 2, 3, 4, 5, 1] rfl) (fun H locs ls hP hS hl => ?_)
              refine lv_aload_n hx hb d_Mo_permit_139 rfl (lv_at hl 1 rfl) ?_
              refine gf_Mo_from hF hK hP m_275 d_Mo_permit_140 ?_
              refine lv_aload_n hx hb d_Mo_permit_143 rfl (lv_at hl 1 rfl) ?_
              refine gf_Mo_permits hF hK hP m_274 d_Mo_permit_144 ?_
              refine lv_iload_n hx hb d_Mo_permit_147 rfl (lv_at hl 2 rfl) ?_
              have k148 := h.1
              have h := h.2
              refine asM_23 hF hK hP hL hS k148 d_Mo_permit_148 (fun H locs hP hS => ?_)
              refine lv_aload_n hx hb d_Mo_permit_149 rfl (lv_at hl 1 rfl) ?_
              refine gf_Mo_to hF hK hP m_276 d_Mo_permit_150 ?_
              refine lv_aload_n hx hb d_Mo_permit_153 rfl (lv_at hl 1 rfl) ?_
              refine gf_Mo_permits hF hK hP m_274 d_Mo_permit_154 ?_
              refine lv_iload_n hx hb d_Mo_permit_157 rfl (lv_at hl 3 rfl) ?_
              have k158 := h
              refine asM_24 hF hK hP hL hS k158 d_Mo_permit_158 (fun H locs hP hS => ?_)
              refine lv_aload_n hx hb d_Mo_permit_159 rfl (lv_at hl 1 rfl) ?_
              refine lv_dup hx hb d_Mo_permit_160 rfl ?_
              refine gf_Mo_permits hF hK hP m_274 d_Mo_permit_161 ?_
              refine lv_iconst (v := 1) hx hb d_Mo_permit_164 (by decide) ?_
              refine lv_iadd hx hb d_Mo_permit_165 ?_
              refine pf_Mo_permits hF hK hP hL hS m_274 d_Mo_permit_166 (fun H locs hP hS => ?_)
              refine lv_aload_n hx hb d_Mo_permit_169 rfl (lv_at hl 1 rfl) ?_
              refine gf_Mo_permits hF hK hP m_274 d_Mo_permit_170 ?_
              refine lv_iconst (v := 1) hx hb d_Mo_permit_173 (by decide) ?_
              refine lv_isub hx hb d_Mo_permit_174 ?_
              have hv : ((((sg ((g_Mo_permit_103 a0 a1 a2 0 200 0 ((f_Mo_throwing ar (sg sc 9 (f_Mo_refusal ar sc a0 a1 a2)) 0 1 0).2.1) ((f_Mo_throwing ar (sg sc 9 (f_Mo_refusal ar sc a0 a1 a2)) 0 1 0).2.2)).2.2) 8 ((((g_Mo_permit_103 a0 a1 a2 0 200 0 ((f_Mo_throwing ar (sg sc 9 (f_Mo_refusal ar sc a0 a1 a2)) 0 1 0).2.1) ((f_Mo_throwing ar (sg sc 9 (f_Mo_refusal ar sc a0 a1 a2)) 0 1 0).2.2)).2.2) 8) + 1)) 8) - 1, s2 (s2 ((g_Mo_permit_103 a0 a1 a2 0 200 0 ((f_Mo_throwing ar (sg sc 9 (f_Mo_refusal ar sc a0 a1 a2)) 0 1 0).2.1) ((f_Mo_throwing ar (sg sc 9 (f_Mo_refusal ar sc a0 a1 a2)) 0 1 0).2.2)).2.1) 23 ((((g_Mo_permit_103 a0 a1 a2 0 200 0 ((f_Mo_throwing ar (sg sc 9 (f_Mo_refusal ar sc a0 a1 a2)) 0 1 0).2.1) ((f_Mo_throwing ar (sg sc 9 (f_Mo_refusal ar sc a0 a1 a2)) 0 1 0).2.2)).2.2) 8).toNatClampNeg) a0) 24 ((((g_Mo_permit_103 a0 a1 a2 0 200 0 ((f_Mo_throwing ar (sg sc 9 (f_Mo_refusal ar sc a0 a1 a2)) 0 1 0).2.1) ((f_Mo_throwing ar (sg sc 9 (f_Mo_refusal ar sc a0 a1 a2)) 0 1 0).2.2)).2.2) 8).toNatClampNeg) a1, sg ((g_Mo_permit_103 a0 a1 a2 0 200 0 ((f_Mo_throwing ar (sg sc 9 (f_Mo_refusal ar sc a0 a1 a2)) 0 1 0).2.1) ((f_Mo_throwing ar (sg sc 9 (f_Mo_refusal ar sc a0 a1 a2)) 0 1 0).2.2)).2.2) 8 ((((g_Mo_permit_103 a0 a1 a2 0 200 0 ((f_Mo_throwing ar (sg sc 9 (f_Mo_refusal ar sc a0 a1 a2)) 0 1 0).2.1) ((f_Mo_throwing ar (sg sc 9 (f_Mo_refusal ar sc a0 a1 a2)) 0 1 0).2.2)).2.2) 8) + 1)) : Int32 × (Nat → Nat → Int32) × (Nat → Int32)) = f_Mo_permit ar sc a0 a1 a2 := by rw [f_Mo_permit, if_neg c7, if_neg c19, if_neg c29, if_neg c70, if_neg c84, if_pos c95]
              exact W.iret (v := ((sg ((g_Mo_permit_103 a0 a1 a2 0 200 0 ((f_Mo_throwing ar (sg sc 9 (f_Mo_refusal ar sc a0 a1 a2)) 0 1 0).2.1) ((f_Mo_throwing ar (sg sc 9 (f_Mo_refusal ar sc a0 a1 a2)) 0 1 0).2.2)).2.2) 8 ((((g_Mo_permit_103 a0 a1 a2 0 200 0 ((f_Mo_throwing ar (sg sc 9 (f_Mo_refusal ar sc a0 a1 a2)) 0 1 0).2.1) ((f_Mo_throwing ar (sg sc 9 (f_Mo_refusal ar sc a0 a1 a2)) 0 1 0).2.2)).2.2) 8) + 1)) 8) - 1) hx hb hr (fun t ht hW => ⟨⟨((sg ((g_Mo_permit_103 a0 a1 a2 0 200 0 ((f_Mo_throwing ar (sg sc 9 (f_Mo_refusal ar sc a0 a1 a2)) 0 1 0).2.1) ((f_Mo_throwing ar (sg sc 9 (f_Mo_refusal ar sc a0 a1 a2)) 0 1 0).2.2)).2.2) 8 ((((g_Mo_permit_103 a0 a1 a2 0 200 0 ((f_Mo_throwing ar (sg sc 9 (f_Mo_refusal ar sc a0 a1 a2)) 0 1 0).2.1) ((f_Mo_throwing ar (sg sc 9 (f_Mo_refusal ar sc a0 a1 a2)) 0 1 0).2.2)).2.2) 8) + 1)) 8) - 1, (s2 (s2 ((g_Mo_permit_103 a0 a1 a2 0 200 0 ((f_Mo_throwing ar (sg sc 9 (f_Mo_refusal ar sc a0 a1 a2)) 0 1 0).2.1) ((f_Mo_throwing ar (sg sc 9 (f_Mo_refusal ar sc a0 a1 a2)) 0 1 0).2.2)).2.1) 23 ((((g_Mo_permit_103 a0 a1 a2 0 200 0 ((f_Mo_throwing ar (sg sc 9 (f_Mo_refusal ar sc a0 a1 a2)) 0 1 0).2.1) ((f_Mo_throwing ar (sg sc 9 (f_Mo_refusal ar sc a0 a1 a2)) 0 1 0).2.2)).2.2) 8).toNatClampNeg) a0) 24 ((((g_Mo_permit_103 a0 a1 a2 0 200 0 ((f_Mo_throwing ar (sg sc 9 (f_Mo_refusal ar sc a0 a1 a2)) 0 1 0).2.1) ((f_Mo_throwing ar (sg sc 9 (f_Mo_refusal ar sc a0 a1 a2)) 0 1 0).2.2)).2.2) 8).toNatClampNeg) a1, sg ((g_Mo_permit_103 a0 a1 a2 0 200 0 ((f_Mo_throwing ar (sg sc 9 (f_Mo_refusal ar sc a0 a1 a2)) 0 1 0).2.1) ((f_Mo_throwing ar (sg sc 9 (f_Mo_refusal ar sc a0 a1 a2)) 0 1 0).2.2)).2.2) 8 ((((g_Mo_permit_103 a0 a1 a2 0 200 0 ((f_Mo_throwing ar (sg sc 9 (f_Mo_refusal ar sc a0 a1 a2)) 0 1 0).2.1) ((f_Mo_throwing ar (sg sc 9 (f_Mo_refusal ar sc a0 a1 a2)) 0 1 0).2.2)).2.2) 8) + 1)), rfl, hv, by dsimp only; rw [ht]; exact hP⟩, hS.F ht⟩) hS.2.2 d_Mo_permit_175
            · have h := h.2 c95
              refine lv_iconst (v := 0) hx hb d_Mo_permit_98 (by decide) ?_
              have hv : ((0, (f_Mo_throwing ar (sg sc 9 (f_Mo_refusal ar sc a0 a1 a2)) 0 1 0).2.1, (f_Mo_throwing ar (sg sc 9 (f_Mo_refusal ar sc a0 a1 a2)) 0 1 0).2.2) : Int32 × (Nat → Nat → Int32) × (Nat → Int32)) = f_Mo_permit ar sc a0 a1 a2 := by rw [f_Mo_permit, if_neg c7, if_neg c19, if_neg c29, if_neg c70, if_neg c84, if_neg c95]
              exact W.iret (v := 0) hx hb hr (fun t ht hW => ⟨⟨0, ((f_Mo_throwing ar (sg sc 9 (f_Mo_refusal ar sc a0 a1 a2)) 0 1 0).2.1, (f_Mo_throwing ar (sg sc 9 (f_Mo_refusal ar sc a0 a1 a2)) 0 1 0).2.2), rfl, hv, by dsimp only; rw [ht]; exact hP⟩, hS.F ht⟩) hS.2.2 d_Mo_permit_99
          · have h := h.1 c84
            refine lv_iconst (v := 1) hx hb d_Mo_permit_87 (by decide) ?_
            refine lv_goto (tgt := 92) hx hb d_Mo_permit_88 (by decide) ?_
            refine r_Mo_throwing hF hK hP hL hS m_283 hl.1 ⟨Nat.le_of_ble_eq_true rfl, Nat.le_of_ble_eq_true rfl⟩ ⟨Nat.zero_le _, Nat.zero_le _⟩ (Nat.le_of_ble_eq_true rfl) d_Mo_permit_92 (fun H locs hP hS => ?_)
            refine lv_if_eq (tgt := 100) hx hb d_Mo_permit_95 (by decide) (fun c95 => ?_) (fun c95 => ?_)
            · have h := h.1 c95
              refine lv_iconst (v := 0) hx hb d_Mo_permit_100 (by decide) ?_
              refine lv_istore (lv' := [(5, .int 0), (4, .int 0), (0, .ref (L 0)), (1, .int a0), (2, .int a1), (3, .int a2)]) hx hb d_Mo_permit_101 hl (by decide) rfl (fun ls hl => ?_)
              have kL103 := h.1
              have h := h.2
              refine l_Mo_permit_103 a0 a1 a2 0 hF hK hL 200 0 ((f_Mo_throwing ar (sg sc 9 (f_Mo_refusal ar sc a0 a1 a2)) 0 1 1).2.1) ((f_Mo_throwing ar (sg sc 9 (f_Mo_refusal ar sc a0 a1 a2)) 0 1 1).2.2) kL103 _ _ hP hS ls (lv_sub hl [0, 2, 3, 4, 5, 1] rfl) (fun H locs ls hP hS hl => ?_)
              refine lv_aload_n hx hb d_Mo_permit_139 rfl (lv_at hl 1 rfl) ?_
              refine gf_Mo_from hF hK hP m_275 d_Mo_permit_140 ?_
              refine lv_aload_n hx hb d_Mo_permit_143 rfl (lv_at hl 1 rfl) ?_
              refine gf_Mo_permits hF hK hP m_274 d_Mo_permit_144 ?_
              refine lv_iload_n hx hb d_Mo_permit_147 rfl (lv_at hl 2 rfl) ?_
              have k148 := h.1
              have h := h.2
              refine asM_23 hF hK hP hL hS k148 d_Mo_permit_148 (fun H locs hP hS => ?_)
              refine lv_aload_n hx hb d_Mo_permit_149 rfl (lv_at hl 1 rfl) ?_
              refine gf_Mo_to hF hK hP m_276 d_Mo_permit_150 ?_
              refine lv_aload_n hx hb d_Mo_permit_153 rfl (lv_at hl 1 rfl) ?_
              refine gf_Mo_permits hF hK hP m_274 d_Mo_permit_154 ?_
              refine lv_iload_n hx hb d_Mo_permit_157 rfl (lv_at hl 3 rfl) ?_
              have k158 := h
              refine asM_24 hF hK hP hL hS k158 d_Mo_permit_158 (fun H locs hP hS => ?_)
              refine lv_aload_n hx hb d_Mo_permit_159 rfl (lv_at hl 1 rfl) ?_
              refine lv_dup hx hb d_Mo_permit_160 rfl ?_
              refine gf_Mo_permits hF hK hP m_274 d_Mo_permit_161 ?_
              refine lv_iconst (v := 1) hx hb d_Mo_permit_164 (by decide) ?_
              refine lv_iadd hx hb d_Mo_permit_165 ?_
              refine pf_Mo_permits hF hK hP hL hS m_274 d_Mo_permit_166 (fun H locs hP hS => ?_)
              refine lv_aload_n hx hb d_Mo_permit_169 rfl (lv_at hl 1 rfl) ?_
              refine gf_Mo_permits hF hK hP m_274 d_Mo_permit_170 ?_
              refine lv_iconst (v := 1) hx hb d_Mo_permit_173 (by decide) ?_
              refine lv_isub hx hb d_Mo_permit_174 ?_
              have hv : ((((sg ((g_Mo_permit_103 a0 a1 a2 0 200 0 ((f_Mo_throwing ar (sg sc 9 (f_Mo_refusal ar sc a0 a1 a2)) 0 1 1).2.1) ((f_Mo_throwing ar (sg sc 9 (f_Mo_refusal ar sc a0 a1 a2)) 0 1 1).2.2)).2.2) 8 ((((g_Mo_permit_103 a0 a1 a2 0 200 0 ((f_Mo_throwing ar (sg sc 9 (f_Mo_refusal ar sc a0 a1 a2)) 0 1 1).2.1) ((f_Mo_throwing ar (sg sc 9 (f_Mo_refusal ar sc a0 a1 a2)) 0 1 1).2.2)).2.2) 8) + 1)) 8) - 1, s2 (s2 ((g_Mo_permit_103 a0 a1 a2 0 200 0 ((f_Mo_throwing ar (sg sc 9 (f_Mo_refusal ar sc a0 a1 a2)) 0 1 1).2.1) ((f_Mo_throwing ar (sg sc 9 (f_Mo_refusal ar sc a0 a1 a2)) 0 1 1).2.2)).2.1) 23 ((((g_Mo_permit_103 a0 a1 a2 0 200 0 ((f_Mo_throwing ar (sg sc 9 (f_Mo_refusal ar sc a0 a1 a2)) 0 1 1).2.1) ((f_Mo_throwing ar (sg sc 9 (f_Mo_refusal ar sc a0 a1 a2)) 0 1 1).2.2)).2.2) 8).toNatClampNeg) a0) 24 ((((g_Mo_permit_103 a0 a1 a2 0 200 0 ((f_Mo_throwing ar (sg sc 9 (f_Mo_refusal ar sc a0 a1 a2)) 0 1 1).2.1) ((f_Mo_throwing ar (sg sc 9 (f_Mo_refusal ar sc a0 a1 a2)) 0 1 1).2.2)).2.2) 8).toNatClampNeg) a1, sg ((g_Mo_permit_103 a0 a1 a2 0 200 0 ((f_Mo_throwing ar (sg sc 9 (f_Mo_refusal ar sc a0 a1 a2)) 0 1 1).2.1) ((f_Mo_throwing ar (sg sc 9 (f_Mo_refusal ar sc a0 a1 a2)) 0 1 1).2.2)).2.2) 8 ((((g_Mo_permit_103 a0 a1 a2 0 200 0 ((f_Mo_throwing ar (sg sc 9 (f_Mo_refusal ar sc a0 a1 a2)) 0 1 1).2.1) ((f_Mo_throwing ar (sg sc 9 (f_Mo_refusal ar sc a0 a1 a2)) 0 1 1).2.2)).2.2) 8) + 1)) : Int32 × (Nat → Nat → Int32) × (Nat → Int32)) = f_Mo_permit ar sc a0 a1 a2 := by rw [f_Mo_permit, if_neg c7, if_neg c19, if_neg c29, if_neg c70, if_pos c84, if_pos c95]
              exact W.iret (v := ((sg ((g_Mo_permit_103 a0 a1 a2 0 200 0 ((f_Mo_throwing ar (sg sc 9 (f_Mo_refusal ar sc a0 a1 a2)) 0 1 1).2.1) ((f_Mo_throwing ar (sg sc 9 (f_Mo_refusal ar sc a0 a1 a2)) 0 1 1).2.2)).2.2) 8 ((((g_Mo_permit_103 a0 a1 a2 0 200 0 ((f_Mo_throwing ar (sg sc 9 (f_Mo_refusal ar sc a0 a1 a2)) 0 1 1).2.1) ((f_Mo_throwing ar (sg sc 9 (f_Mo_refusal ar sc a0 a1 a2)) 0 1 1).2.2)).2.2) 8) + 1)) 8) - 1) hx hb hr (fun t ht hW => ⟨⟨((sg ((g_Mo_permit_103 a0 a1 a2 0 200 0 ((f_Mo_throwing ar (sg sc 9 (f_Mo_refusal ar sc a0 a1 a2)) 0 1 1).2.1) ((f_Mo_throwing ar (sg sc 9 (f_Mo_refusal ar sc a0 a1 a2)) 0 1 1).2.2)).2.2) 8 ((((g_Mo_permit_103 a0 a1 a2 0 200 0 ((f_Mo_throwing ar (sg sc 9 (f_Mo_refusal ar sc a0 a1 a2)) 0 1 1).2.1) ((f_Mo_throwing ar (sg sc 9 (f_Mo_refusal ar sc a0 a1 a2)) 0 1 1).2.2)).2.2) 8) + 1)) 8) - 1, (s2 (s2 ((g_Mo_permit_103 a0 a1 a2 0 200 0 ((f_Mo_throwing ar (sg sc 9 (f_Mo_refusal ar sc a0 a1 a2)) 0 1 1).2.1) ((f_Mo_throwing ar (sg sc 9 (f_Mo_refusal ar sc a0 a1 a2)) 0 1 1).2.2)).2.1) 23 ((((g_Mo_permit_103 a0 a1 a2 0 200 0 ((f_Mo_throwing ar (sg sc 9 (f_Mo_refusal ar sc a0 a1 a2)) 0 1 1).2.1) ((f_Mo_throwing ar (sg sc 9 (f_Mo_refusal ar sc a0 a1 a2)) 0 1 1).2.2)).2.2) 8).toNatClampNeg) a0) 24 ((((g_Mo_permit_103 a0 a1 a2 0 200 0 ((f_Mo_throwing ar (sg sc 9 (f_Mo_refusal ar sc a0 a1 a2)) 0 1 1).2.1) ((f_Mo_throwing ar (sg sc 9 (f_Mo_refusal ar sc a0 a1 a2)) 0 1 1).2.2)).2.2) 8).toNatClampNeg) a1, sg ((g_Mo_permit_103 a0 a1 a2 0 200 0 ((f_Mo_throwing ar (sg sc 9 (f_Mo_refusal ar sc a0 a1 a2)) 0 1 1).2.1) ((f_Mo_throwing ar (sg sc 9 (f_Mo_refusal ar sc a0 a1 a2)) 0 1 1).2.2)).2.2) 8 ((((g_Mo_permit_103 a0 a1 a2 0 200 0 ((f_Mo_throwing ar (sg sc 9 (f_Mo_refusal ar sc a0 a1 a2)) 0 1 1).2.1) ((f_Mo_throwing ar (sg sc 9 (f_Mo_refusal ar sc a0 a1 a2)) 0 1 1).2.2)).2.2) 8) + 1)), rfl, hv, by dsimp only; rw [ht]; exact hP⟩, hS.F ht⟩) hS.2.2 d_Mo_permit_175
            · have h := h.2 c95
              refine lv_iconst (v := 0) hx hb d_Mo_permit_98 (by decide) ?_
              have hv : ((0, (f_Mo_throwing ar (sg sc 9 (f_Mo_refusal ar sc a0 a1 a2)) 0 1 1).2.1, (f_Mo_throwing ar (sg sc 9 (f_Mo_refusal ar sc a0 a1 a2)) 0 1 1).2.2) : Int32 × (Nat → Nat → Int32) × (Nat → Int32)) = f_Mo_permit ar sc a0 a1 a2 := by rw [f_Mo_permit, if_neg c7, if_neg c19, if_neg c29, if_neg c70, if_pos c84, if_neg c95]
              exact W.iret (v := 0) hx hb hr (fun t ht hW => ⟨⟨0, ((f_Mo_throwing ar (sg sc 9 (f_Mo_refusal ar sc a0 a1 a2)) 0 1 1).2.1, (f_Mo_throwing ar (sg sc 9 (f_Mo_refusal ar sc a0 a1 a2)) 0 1 1).2.2), rfl, hv, by dsimp only; rw [ht]; exact hP⟩, hS.F ht⟩) hS.2.2 d_Mo_permit_99
      · have h := h.1 c29
        refine lv_iconst (v := 1) hx hb d_Mo_permit_32 (by decide) ?_
        refine lv_goto (tgt := 37) hx hb d_Mo_permit_33 (by decide) ?_
        refine lv_istore (lv' := [(4, .int 1), (0, .ref (L 0)), (1, .int a0), (2, .int a1), (3, .int a2)]) hx hb d_Mo_permit_37 hl (by decide) rfl (fun ls hl => ?_)
        refine lv_aload_n hx hb d_Mo_permit_39 rfl (lv_at hl 1 rfl) ?_
        refine lv_iload hx hb d_Mo_permit_40 (lv_at hl 0 rfl) ?_
        refine lv_if_eq (tgt := 52) hx hb d_Mo_permit_42 (by decide) (fun c9 => absurd c9 (by decide)) (fun _ => ?_)
        refine lv_aload_n hx hb d_Mo_permit_45 rfl (lv_at hl 1 rfl) ?_
        refine gf_Mo_clash hF hK hP m_345 d_Mo_permit_46 ?_
        refine lv_goto (tgt := 59) hx hb d_Mo_permit_49 (by decide) ?_
        refine pf_Mo_clash hF hK hP hL hS m_345 d_Mo_permit_59 (fun H locs hP hS => ?_)
        refine lv_aload_n hx hb d_Mo_permit_62 rfl (lv_at hl 1 rfl) ?_
        refine lv_iload hx hb d_Mo_permit_63 (lv_at hl 0 rfl) ?_
        refine lv_aload_n hx hb d_Mo_permit_65 rfl (lv_at hl 1 rfl) ?_
        refine gf_Mo_clash hF hK hP m_345 d_Mo_permit_66 ?_
        refine lv_iconst (v := (-1)) hx hb d_Mo_permit_69 (by decide) ?_
        refine lv_icmp_eq (tgt := 77) hx hb d_Mo_permit_70 (by decide) (fun c70 => ?_) (fun c70 => ?_)
        · have h := h.1 c70
          refine lv_iconst (v := 0) hx hb d_Mo_permit_77 (by decide) ?_
          refine lv_aload_n hx hb d_Mo_permit_78 rfl (lv_at hl 1 rfl) ?_
          refine gf_Mo_permits hF hK hP m_274 d_Mo_permit_79 ?_
          refine lv_bipush (v := 30) hx hb d_Mo_permit_82 (by decide) ?_
          refine lv_icmp_ne (tgt := 91) hx hb d_Mo_permit_84 (by decide) (fun c84 => ?_) (fun c84 => ?_)
          · have h := h.2 c84
            refine lv_iconst (v := 0) hx hb d_Mo_permit_91 (by decide) ?_
            refine r_Mo_throwing hF hK hP hL hS m_283 hl.1 ⟨Nat.le_of_ble_eq_true rfl, Nat.le_of_ble_eq_true rfl⟩ ⟨Nat.zero_le _, Nat.zero_le _⟩ (Nat.le_of_ble_eq_true rfl) d_Mo_permit_92 (fun H locs hP hS => ?_)
            refine lv_if_eq (tgt := 100) hx hb d_Mo_permit_95 (by decide) (fun c95 => ?_) (fun c95 => ?_)
            · have h := h.1 c95
              refine lv_iconst (v := 0) hx hb d_Mo_permit_100 (by decide) ?_
              refine lv_istore (lv' := [(5, .int 0), (4, .int 1), (0, .ref (L 0)), (1, .int a0), (2, .int a1), (3, .int a2)]) hx hb d_Mo_permit_101 hl (by decide) rfl (fun ls hl => ?_)
              have kL103 := h.1
              have h := h.2
              refine l_Mo_permit_103 a0 a1 a2 1 hF hK hL 200 0 ((f_Mo_throwing ar (sg sc 9 (sc 9)) 1 0 0).2.1) ((f_Mo_throwing ar (sg sc 9 (sc 9)) 1 0 0).2.2) kL103 _ _ hP hS ls (lv_sub hl [0, 2, 3, 4, 5, 1] rfl) (fun H locs ls hP hS hl => ?_)
              refine lv_aload_n hx hb d_Mo_permit_139 rfl (lv_at hl 1 rfl) ?_
              refine gf_Mo_from hF hK hP m_275 d_Mo_permit_140 ?_
              refine lv_aload_n hx hb d_Mo_permit_143 rfl (lv_at hl 1 rfl) ?_
              refine gf_Mo_permits hF hK hP m_274 d_Mo_permit_144 ?_
              refine lv_iload_n hx hb d_Mo_permit_147 rfl (lv_at hl 2 rfl) ?_
              have k148 := h.1
              have h := h.2
              refine asM_23 hF hK hP hL hS k148 d_Mo_permit_148 (fun H locs hP hS => ?_)
              refine lv_aload_n hx hb d_Mo_permit_149 rfl (lv_at hl 1 rfl) ?_
              refine gf_Mo_to hF hK hP m_276 d_Mo_permit_150 ?_
              refine lv_aload_n hx hb d_Mo_permit_153 rfl (lv_at hl 1 rfl) ?_
              refine gf_Mo_permits hF hK hP m_274 d_Mo_permit_154 ?_
              refine lv_iload_n hx hb d_Mo_permit_157 rfl (lv_at hl 3 rfl) ?_
              have k158 := h
              refine asM_24 hF hK hP hL hS k158 d_Mo_permit_158 (fun H locs hP hS => ?_)
              refine lv_aload_n hx hb d_Mo_permit_159 rfl (lv_at hl 1 rfl) ?_
              refine lv_dup hx hb d_Mo_permit_160 rfl ?_
              refine gf_Mo_permits hF hK hP m_274 d_Mo_permit_161 ?_
              refine lv_iconst (v := 1) hx hb d_Mo_permit_164 (by decide) ?_
              refine lv_iadd hx hb d_Mo_permit_165 ?_
              refine pf_Mo_permits hF hK hP hL hS m_274 d_Mo_permit_166 (fun H locs hP hS => ?_)
              refine lv_aload_n hx hb d_Mo_permit_169 rfl (lv_at hl 1 rfl) ?_
              refine gf_Mo_permits hF hK hP m_274 d_Mo_permit_170 ?_
              refine lv_iconst (v := 1) hx hb d_Mo_permit_173 (by decide) ?_
              refine lv_isub hx hb d_Mo_permit_174 ?_
              have hv : ((((sg ((g_Mo_permit_103 a0 a1 a2 1 200 0 ((f_Mo_throwing ar (sg sc 9 (sc 9)) 1 0 0).2.1) ((f_Mo_throwing ar (sg sc 9 (sc 9)) 1 0 0).2.2)).2.2) 8 ((((g_Mo_permit_103 a0 a1 a2 1 200 0 ((f_Mo_throwing ar (sg sc 9 (sc 9)) 1 0 0).2.1) ((f_Mo_throwing ar (sg sc 9 (sc 9)) 1 0 0).2.2)).2.2) 8) + 1)) 8) - 1, s2 (s2 ((g_Mo_permit_103 a0 a1 a2 1 200 0 ((f_Mo_throwing ar (sg sc 9 (sc 9)) 1 0 0).2.1) ((f_Mo_throwing ar (sg sc 9 (sc 9)) 1 0 0).2.2)).2.1) 23 ((((g_Mo_permit_103 a0 a1 a2 1 200 0 ((f_Mo_throwing ar (sg sc 9 (sc 9)) 1 0 0).2.1) ((f_Mo_throwing ar (sg sc 9 (sc 9)) 1 0 0).2.2)).2.2) 8).toNatClampNeg) a0) 24 ((((g_Mo_permit_103 a0 a1 a2 1 200 0 ((f_Mo_throwing ar (sg sc 9 (sc 9)) 1 0 0).2.1) ((f_Mo_throwing ar (sg sc 9 (sc 9)) 1 0 0).2.2)).2.2) 8).toNatClampNeg) a1, sg ((g_Mo_permit_103 a0 a1 a2 1 200 0 ((f_Mo_throwing ar (sg sc 9 (sc 9)) 1 0 0).2.1) ((f_Mo_throwing ar (sg sc 9 (sc 9)) 1 0 0).2.2)).2.2) 8 ((((g_Mo_permit_103 a0 a1 a2 1 200 0 ((f_Mo_throwing ar (sg sc 9 (sc 9)) 1 0 0).2.1) ((f_Mo_throwing ar (sg sc 9 (sc 9)) 1 0 0).2.2)).2.2) 8) + 1)) : Int32 × (Nat → Nat → Int32) × (Nat → Int32)) = f_Mo_permit ar sc a0 a1 a2 := by rw [f_Mo_permit, if_neg c7, if_neg c19, if_pos c29, if_pos c70, if_neg c84, if_pos c95]
              exact W.iret (v := ((sg ((g_Mo_permit_103 a0 a1 a2 1 200 0 ((f_Mo_throwing ar (sg sc 9 (sc 9)) 1 0 0).2.1) ((f_Mo_throwing ar (sg sc 9 (sc 9)) 1 0 0).2.2)).2.2) 8 ((((g_Mo_permit_103 a0 a1 a2 1 200 0 ((f_Mo_throwing ar (sg sc 9 (sc 9)) 1 0 0).2.1) ((f_Mo_throwing ar (sg sc 9 (sc 9)) 1 0 0).2.2)).2.2) 8) + 1)) 8) - 1) hx hb hr (fun t ht hW => ⟨⟨((sg ((g_Mo_permit_103 a0 a1 a2 1 200 0 ((f_Mo_throwing ar (sg sc 9 (sc 9)) 1 0 0).2.1) ((f_Mo_throwing ar (sg sc 9 (sc 9)) 1 0 0).2.2)).2.2) 8 ((((g_Mo_permit_103 a0 a1 a2 1 200 0 ((f_Mo_throwing ar (sg sc 9 (sc 9)) 1 0 0).2.1) ((f_Mo_throwing ar (sg sc 9 (sc 9)) 1 0 0).2.2)).2.2) 8) + 1)) 8) - 1, (s2 (s2 ((g_Mo_permit_103 a0 a1 a2 1 200 0 ((f_Mo_throwing ar (sg sc 9 (sc 9)) 1 0 0).2.1) ((f_Mo_throwing ar (sg sc 9 (sc 9)) 1 0 0).2.2)).2.1) 23 ((((g_Mo_permit_103 a0 a1 a2 1 200 0 ((f_Mo_throwing ar (sg sc 9 (sc 9)) 1 0 0).2.1) ((f_Mo_throwing ar (sg sc 9 (sc 9)) 1 0 0).2.2)).2.2) 8).toNatClampNeg) a0) 24 ((((g_Mo_permit_103 a0 a1 a2 1 200 0 ((f_Mo_throwing ar (sg sc 9 (sc 9)) 1 0 0).2.1) ((f_Mo_throwing ar (sg sc 9 (sc 9)) 1 0 0).2.2)).2.2) 8).toNatClampNeg) a1, sg ((g_Mo_permit_103 a0 a1 a2 1 200 0 ((f_Mo_throwing ar (sg sc 9 (sc 9)) 1 0 0).2.1) ((f_Mo_throwing ar (sg sc 9 (sc 9)) 1 0 0).2.2)).2.2) 8 ((((g_Mo_permit_103 a0 a1 a2 1 200 0 ((f_Mo_throwing ar (sg sc 9 (sc 9)) 1 0 0).2.1) ((f_Mo_throwing ar (sg sc 9 (sc 9)) 1 0 0).2.2)).2.2) 8) + 1)), rfl, hv, by dsimp only; rw [ht]; exact hP⟩, hS.F ht⟩) hS.2.2 d_Mo_permit_175
            · have h := h.2 c95
              refine lv_iconst (v := 0) hx hb d_Mo_permit_98 (by decide) ?_
              have hv : ((0, (f_Mo_throwing ar (sg sc 9 (sc 9)) 1 0 0).2.1, (f_Mo_throwing ar (sg sc 9 (sc 9)) 1 0 0).2.2) : Int32 × (Nat → Nat → Int32) × (Nat → Int32)) = f_Mo_permit ar sc a0 a1 a2 := by rw [f_Mo_permit, if_neg c7, if_neg c19, if_pos c29, if_pos c70, if_neg c84, if_neg c95]
              exact W.iret (v := 0) hx hb hr (fun t ht hW => ⟨⟨0, ((f_Mo_throwing ar (sg sc 9 (sc 9)) 1 0 0).2.1, (f_Mo_throwing ar (sg sc 9 (sc 9)) 1 0 0).2.2), rfl, hv, by dsimp only; rw [ht]; exact hP⟩, hS.F ht⟩) hS.2.2 d_Mo_permit_99
          · have h := h.1 c84
            refine lv_iconst (v := 1) hx hb d_Mo_permit_87 (by decide) ?_
            refine lv_goto (tgt := 92) hx hb d_Mo_permit_88 (by decide) ?_
            refine r_Mo_throwing hF hK hP hL hS m_283 hl.1 ⟨Nat.le_of_ble_eq_true rfl, Nat.le_of_ble_eq_true rfl⟩ ⟨Nat.zero_le _, Nat.zero_le _⟩ (Nat.le_of_ble_eq_true rfl) d_Mo_permit_92 (fun H locs hP hS => ?_)
            refine lv_if_eq (tgt := 100) hx hb d_Mo_permit_95 (by decide) (fun c95 => ?_) (fun c95 => ?_)
            · have h := h.1 c95
              refine lv_iconst (v := 0) hx hb d_Mo_permit_100 (by decide) ?_
              refine lv_istore (lv' := [(5, .int 0), (4, .int 1), (0, .ref (L 0)), (1, .int a0), (2, .int a1), (3, .int a2)]) hx hb d_Mo_permit_101 hl (by decide) rfl (fun ls hl => ?_)
              have kL103 := h.1
              have h := h.2
              refine l_Mo_permit_103 a0 a1 a2 1 hF hK hL 200 0 ((f_Mo_throwing ar (sg sc 9 (sc 9)) 1 0 1).2.1) ((f_Mo_throwing ar (sg sc 9 (sc 9)) 1 0 1).2.2) kL103 _ _ hP hS ls (lv_sub hl [0, 2, 3, 4, 5, 1] rfl) (fun H locs ls hP hS hl => ?_)
              refine lv_aload_n hx hb d_Mo_permit_139 rfl (lv_at hl 1 rfl) ?_
              refine gf_Mo_from hF hK hP m_275 d_Mo_permit_140 ?_
              refine lv_aload_n hx hb d_Mo_permit_143 rfl (lv_at hl 1 rfl) ?_
              refine gf_Mo_permits hF hK hP m_274 d_Mo_permit_144 ?_
              refine lv_iload_n hx hb d_Mo_permit_147 rfl (lv_at hl 2 rfl) ?_
              have k148 := h.1
              have h := h.2
              refine asM_23 hF hK hP hL hS k148 d_Mo_permit_148 (fun H locs hP hS => ?_)
              refine lv_aload_n hx hb d_Mo_permit_149 rfl (lv_at hl 1 rfl) ?_
              refine gf_Mo_to hF hK hP m_276 d_Mo_permit_150 ?_
              refine lv_aload_n hx hb d_Mo_permit_153 rfl (lv_at hl 1 rfl) ?_
              refine gf_Mo_permits hF hK hP m_274 d_Mo_permit_154 ?_
              refine lv_iload_n hx hb d_Mo_permit_157 rfl (lv_at hl 3 rfl) ?_
              have k158 := h
              refine asM_24 hF hK hP hL hS k158 d_Mo_permit_158 (fun H locs hP hS => ?_)
              refine lv_aload_n hx hb d_Mo_permit_159 rfl (lv_at hl 1 rfl) ?_
              refine lv_dup hx hb d_Mo_permit_160 rfl ?_
              refine gf_Mo_permits hF hK hP m_274 d_Mo_permit_161 ?_
              refine lv_iconst (v := 1) hx hb d_Mo_permit_164 (by decide) ?_
              refine lv_iadd hx hb d_Mo_permit_165 ?_
              refine pf_Mo_permits hF hK hP hL hS m_274 d_Mo_permit_166 (fun H locs hP hS => ?_)
              refine lv_aload_n hx hb d_Mo_permit_169 rfl (lv_at hl 1 rfl) ?_
              refine gf_Mo_permits hF hK hP m_274 d_Mo_permit_170 ?_
              refine lv_iconst (v := 1) hx hb d_Mo_permit_173 (by decide) ?_
              refine lv_isub hx hb d_Mo_permit_174 ?_
              have hv : ((((sg ((g_Mo_permit_103 a0 a1 a2 1 200 0 ((f_Mo_throwing ar (sg sc 9 (sc 9)) 1 0 1).2.1) ((f_Mo_throwing ar (sg sc 9 (sc 9)) 1 0 1).2.2)).2.2) 8 ((((g_Mo_permit_103 a0 a1 a2 1 200 0 ((f_Mo_throwing ar (sg sc 9 (sc 9)) 1 0 1).2.1) ((f_Mo_throwing ar (sg sc 9 (sc 9)) 1 0 1).2.2)).2.2) 8) + 1)) 8) - 1, s2 (s2 ((g_Mo_permit_103 a0 a1 a2 1 200 0 ((f_Mo_throwing ar (sg sc 9 (sc 9)) 1 0 1).2.1) ((f_Mo_throwing ar (sg sc 9 (sc 9)) 1 0 1).2.2)).2.1) 23 ((((g_Mo_permit_103 a0 a1 a2 1 200 0 ((f_Mo_throwing ar (sg sc 9 (sc 9)) 1 0 1).2.1) ((f_Mo_throwing ar (sg sc 9 (sc 9)) 1 0 1).2.2)).2.2) 8).toNatClampNeg) a0) 24 ((((g_Mo_permit_103 a0 a1 a2 1 200 0 ((f_Mo_throwing ar (sg sc 9 (sc 9)) 1 0 1).2.1) ((f_Mo_throwing ar (sg sc 9 (sc 9)) 1 0 1).2.2)).2.2) 8).toNatClampNeg) a1, sg ((g_Mo_permit_103 a0 a1 a2 1 200 0 ((f_Mo_throwing ar (sg sc 9 (sc 9)) 1 0 1).2.1) ((f_Mo_throwing ar (sg sc 9 (sc 9)) 1 0 1).2.2)).2.2) 8 ((((g_Mo_permit_103 a0 a1 a2 1 200 0 ((f_Mo_throwing ar (sg sc 9 (sc 9)) 1 0 1).2.1) ((f_Mo_throwing ar (sg sc 9 (sc 9)) 1 0 1).2.2)).2.2) 8) + 1)) : Int32 × (Nat → Nat → Int32) × (Nat → Int32)) = f_Mo_permit ar sc a0 a1 a2 := by rw [f_Mo_permit, if_neg c7, if_neg c19, if_pos c29, if_pos c70, if_pos c84, if_pos c95]
              exact W.iret (v := ((sg ((g_Mo_permit_103 a0 a1 a2 1 200 0 ((f_Mo_throwing ar (sg sc 9 (sc 9)) 1 0 1).2.1) ((f_Mo_throwing ar (sg sc 9 (sc 9)) 1 0 1).2.2)).2.2) 8 ((((g_Mo_permit_103 a0 a1 a2 1 200 0 ((f_Mo_throwing ar (sg sc 9 (sc 9)) 1 0 1).2.1) ((f_Mo_throwing ar (sg sc 9 (sc 9)) 1 0 1).2.2)).2.2) 8) + 1)) 8) - 1) hx hb hr (fun t ht hW => ⟨⟨((sg ((g_Mo_permit_103 a0 a1 a2 1 200 0 ((f_Mo_throwing ar (sg sc 9 (sc 9)) 1 0 1).2.1) ((f_Mo_throwing ar (sg sc 9 (sc 9)) 1 0 1).2.2)).2.2) 8 ((((g_Mo_permit_103 a0 a1 a2 1 200 0 ((f_Mo_throwing ar (sg sc 9 (sc 9)) 1 0 1).2.1) ((f_Mo_throwing ar (sg sc 9 (sc 9)) 1 0 1).2.2)).2.2) 8) + 1)) 8) - 1, (s2 (s2 ((g_Mo_permit_103 a0 a1 a2 1 200 0 ((f_Mo_throwing ar (sg sc 9 (sc 9)) 1 0 1).2.1) ((f_Mo_throwing ar (sg sc 9 (sc 9)) 1 0 1).2.2)).2.1) 23 ((((g_Mo_permit_103 a0 a1 a2 1 200 0 ((f_Mo_throwing ar (sg sc 9 (sc 9)) 1 0 1).2.1) ((f_Mo_throwing ar (sg sc 9 (sc 9)) 1 0 1).2.2)).2.2) 8).toNatClampNeg) a0) 24 ((((g_Mo_permit_103 a0 a1 a2 1 200 0 ((f_Mo_throwing ar (sg sc 9 (sc 9)) 1 0 1).2.1) ((f_Mo_throwing ar (sg sc 9 (sc 9)) 1 0 1).2.2)).2.2) 8).toNatClampNeg) a1, sg ((g_Mo_permit_103 a0 a1 a2 1 200 0 ((f_Mo_throwing ar (sg sc 9 (sc 9)) 1 0 1).2.1) ((f_Mo_throwing ar (sg sc 9 (sc 9)) 1 0 1).2.2)).2.2) 8 ((((g_Mo_permit_103 a0 a1 a2 1 200 0 ((f_Mo_throwing ar (sg sc 9 (sc 9)) 1 0 1).2.1) ((f_Mo_throwing ar (sg sc 9 (sc 9)) 1 0 1).2.2)).2.2) 8) + 1)), rfl, hv, by dsimp only; rw [ht]; exact hP⟩, hS.F ht⟩) hS.2.2 d_Mo_permit_175
            · have h := h.2 c95
              refine lv_iconst (v := 0) hx hb d_Mo_permit_98 (by decide) ?_
              have hv : ((0, (f_Mo_throwing ar (sg sc 9 (sc 9)) 1 0 1).2.1, (f_Mo_throwing ar (sg sc 9 (sc 9)) 1 0 1).2.2) : Int32 × (Nat → Nat → Int32) × (Nat → Int32)) = f_Mo_permit ar sc a0 a1 a2 := by rw [f_Mo_permit, if_neg c7, if_neg c19, if_pos c29, if_pos c70, if_pos c84, if_neg c95]
              exact W.iret (v := 0) hx hb hr (fun t ht hW => ⟨⟨0, ((f_Mo_throwing ar (sg sc 9 (sc 9)) 1 0 1).2.1, (f_Mo_throwing ar (sg sc 9 (sc 9)) 1 0 1).2.2), rfl, hv, by dsimp only; rw [ht]; exact hP⟩, hS.F ht⟩) hS.2.2 d_Mo_permit_99
        · have h := h.2 c70
          refine lv_iconst (v := 1) hx hb d_Mo_permit_73 (by decide) ?_
          refine lv_goto (tgt := 78) hx hb d_Mo_permit_74 (by decide) ?_
          refine lv_aload_n hx hb d_Mo_permit_78 rfl (lv_at hl 1 rfl) ?_
          refine gf_Mo_permits hF hK hP m_274 d_Mo_permit_79 ?_
          refine lv_bipush (v := 30) hx hb d_Mo_permit_82 (by decide) ?_
          refine lv_icmp_ne (tgt := 91) hx hb d_Mo_permit_84 (by decide) (fun c84 => ?_) (fun c84 => ?_)
          · have h := h.2 c84
            refine lv_iconst (v := 0) hx hb d_Mo_permit_91 (by decide) ?_
            refine r_Mo_throwing hF hK hP hL hS m_283 hl.1 ⟨Nat.le_of_ble_eq_true rfl, Nat.le_of_ble_eq_true rfl⟩ ⟨Nat.zero_le _, Nat.zero_le _⟩ (Nat.le_of_ble_eq_true rfl) d_Mo_permit_92 (fun H locs hP hS => ?_)
            refine lv_if_eq (tgt := 100) hx hb d_Mo_permit_95 (by decide) (fun c95 => ?_) (fun c95 => ?_)
            · have h := h.1 c95
              refine lv_iconst (v := 0) hx hb d_Mo_permit_100 (by decide) ?_
              refine lv_istore (lv' := [(5, .int 0), (4, .int 1), (0, .ref (L 0)), (1, .int a0), (2, .int a1), (3, .int a2)]) hx hb d_Mo_permit_101 hl (by decide) rfl (fun ls hl => ?_)
              have kL103 := h.1
              have h := h.2
              refine l_Mo_permit_103 a0 a1 a2 1 hF hK hL 200 0 ((f_Mo_throwing ar (sg sc 9 (sc 9)) 1 1 0).2.1) ((f_Mo_throwing ar (sg sc 9 (sc 9)) 1 1 0).2.2) kL103 _ _ hP hS ls (lv_sub hl [0, 2, 3, 4, 5, 1] rfl) (fun H locs ls hP hS hl => ?_)
              refine lv_aload_n hx hb d_Mo_permit_139 rfl (lv_at hl 1 rfl) ?_
              refine gf_Mo_from hF hK hP m_275 d_Mo_permit_140 ?_
              refine lv_aload_n hx hb d_Mo_permit_143 rfl (lv_at hl 1 rfl) ?_
              refine gf_Mo_permits hF hK hP m_274 d_Mo_permit_144 ?_
              refine lv_iload_n hx hb d_Mo_permit_147 rfl (lv_at hl 2 rfl) ?_
              have k148 := h.1
              have h := h.2
              refine asM_23 hF hK hP hL hS k148 d_Mo_permit_148 (fun H locs hP hS => ?_)
              refine lv_aload_n hx hb d_Mo_permit_149 rfl (lv_at hl 1 rfl) ?_
              refine gf_Mo_to hF hK hP m_276 d_Mo_permit_150 ?_
              refine lv_aload_n hx hb d_Mo_permit_153 rfl (lv_at hl 1 rfl) ?_
              refine gf_Mo_permits hF hK hP m_274 d_Mo_permit_154 ?_
              refine lv_iload_n hx hb d_Mo_permit_157 rfl (lv_at hl 3 rfl) ?_
              have k158 := h
              refine asM_24 hF hK hP hL hS k158 d_Mo_permit_158 (fun H locs hP hS => ?_)
              refine lv_aload_n hx hb d_Mo_permit_159 rfl (lv_at hl 1 rfl) ?_
              refine lv_dup hx hb d_Mo_permit_160 rfl ?_
              refine gf_Mo_permits hF hK hP m_274 d_Mo_permit_161 ?_
              refine lv_iconst (v := 1) hx hb d_Mo_permit_164 (by decide) ?_
              refine lv_iadd hx hb d_Mo_permit_165 ?_
              refine pf_Mo_permits hF hK hP hL hS m_274 d_Mo_permit_166 (fun H locs hP hS => ?_)
              refine lv_aload_n hx hb d_Mo_permit_169 rfl (lv_at hl 1 rfl) ?_
              refine gf_Mo_permits hF hK hP m_274 d_Mo_permit_170 ?_
              refine lv_iconst (v := 1) hx hb d_Mo_permit_173 (by decide) ?_
              refine lv_isub hx hb d_Mo_permit_174 ?_
              have hv : ((((sg ((g_Mo_permit_103 a0 a1 a2 1 200 0 ((f_Mo_throwing ar (sg sc 9 (sc 9)) 1 1 0).2.1) ((f_Mo_throwing ar (sg sc 9 (sc 9)) 1 1 0).2.2)).2.2) 8 ((((g_Mo_permit_103 a0 a1 a2 1 200 0 ((f_Mo_throwing ar (sg sc 9 (sc 9)) 1 1 0).2.1) ((f_Mo_throwing ar (sg sc 9 (sc 9)) 1 1 0).2.2)).2.2) 8) + 1)) 8) - 1, s2 (s2 ((g_Mo_permit_103 a0 a1 a2 1 200 0 ((f_Mo_throwing ar (sg sc 9 (sc 9)) 1 1 0).2.1) ((f_Mo_throwing ar (sg sc 9 (sc 9)) 1 1 0).2.2)).2.1) 23 ((((g_Mo_permit_103 a0 a1 a2 1 200 0 ((f_Mo_throwing ar (sg sc 9 (sc 9)) 1 1 0).2.1) ((f_Mo_throwing ar (sg sc 9 (sc 9)) 1 1 0).2.2)).2.2) 8).toNatClampNeg) a0) 24 ((((g_Mo_permit_103 a0 a1 a2 1 200 0 ((f_Mo_throwing ar (sg sc 9 (sc 9)) 1 1 0).2.1) ((f_Mo_throwing ar (sg sc 9 (sc 9)) 1 1 0).2.2)).2.2) 8).toNatClampNeg) a1, sg ((g_Mo_permit_103 a0 a1 a2 1 200 0 ((f_Mo_throwing ar (sg sc 9 (sc 9)) 1 1 0).2.1) ((f_Mo_throwing ar (sg sc 9 (sc 9)) 1 1 0).2.2)).2.2) 8 ((((g_Mo_permit_103 a0 a1 a2 1 200 0 ((f_Mo_throwing ar (sg sc 9 (sc 9)) 1 1 0).2.1) ((f_Mo_throwing ar (sg sc 9 (sc 9)) 1 1 0).2.2)).2.2) 8) + 1)) : Int32 × (Nat → Nat → Int32) × (Nat → Int32)) = f_Mo_permit ar sc a0 a1 a2 := by rw [f_Mo_permit, if_neg c7, if_neg c19, if_pos c29, if_neg c70, if_neg c84, if_pos c95]
              exact W.iret (v := ((sg ((g_Mo_permit_103 a0 a1 a2 1 200 0 ((f_Mo_throwing ar (sg sc 9 (sc 9)) 1 1 0).2.1) ((f_Mo_throwing ar (sg sc 9 (sc 9)) 1 1 0).2.2)).2.2) 8 ((((g_Mo_permit_103 a0 a1 a2 1 200 0 ((f_Mo_throwing ar (sg sc 9 (sc 9)) 1 1 0).2.1) ((f_Mo_throwing ar (sg sc 9 (sc 9)) 1 1 0).2.2)).2.2) 8) + 1)) 8) - 1) hx hb hr (fun t ht hW => ⟨⟨((sg ((g_Mo_permit_103 a0 a1 a2 1 200 0 ((f_Mo_throwing ar (sg sc 9 (sc 9)) 1 1 0).2.1) ((f_Mo_throwing ar (sg sc 9 (sc 9)) 1 1 0).2.2)).2.2) 8 ((((g_Mo_permit_103 a0 a1 a2 1 200 0 ((f_Mo_throwing ar (sg sc 9 (sc 9)) 1 1 0).2.1) ((f_Mo_throwing ar (sg sc 9 (sc 9)) 1 1 0).2.2)).2.2) 8) + 1)) 8) - 1, (s2 (s2 ((g_Mo_permit_103 a0 a1 a2 1 200 0 ((f_Mo_throwing ar (sg sc 9 (sc 9)) 1 1 0).2.1) ((f_Mo_throwing ar (sg sc 9 (sc 9)) 1 1 0).2.2)).2.1) 23 ((((g_Mo_permit_103 a0 a1 a2 1 200 0 ((f_Mo_throwing ar (sg sc 9 (sc 9)) 1 1 0).2.1) ((f_Mo_throwing ar (sg sc 9 (sc 9)) 1 1 0).2.2)).2.2) 8).toNatClampNeg) a0) 24 ((((g_Mo_permit_103 a0 a1 a2 1 200 0 ((f_Mo_throwing ar (sg sc 9 (sc 9)) 1 1 0).2.1) ((f_Mo_throwing ar (sg sc 9 (sc 9)) 1 1 0).2.2)).2.2) 8).toNatClampNeg) a1, sg ((g_Mo_permit_103 a0 a1 a2 1 200 0 ((f_Mo_throwing ar (sg sc 9 (sc 9)) 1 1 0).2.1) ((f_Mo_throwing ar (sg sc 9 (sc 9)) 1 1 0).2.2)).2.2) 8 ((((g_Mo_permit_103 a0 a1 a2 1 200 0 ((f_Mo_throwing ar (sg sc 9 (sc 9)) 1 1 0).2.1) ((f_Mo_throwing ar (sg sc 9 (sc 9)) 1 1 0).2.2)).2.2) 8) + 1)), rfl, hv, by dsimp only; rw [ht]; exact hP⟩, hS.F ht⟩) hS.2.2 d_Mo_permit_175
            · have h := h.2 c95
              refine lv_iconst (v := 0) hx hb d_Mo_permit_98 (by decide) ?_
              have hv : ((0, (f_Mo_throwing ar (sg sc 9 (sc 9)) 1 1 0).2.1, (f_Mo_throwing ar (sg sc 9 (sc 9)) 1 1 0).2.2) : Int32 × (Nat → Nat → Int32) × (Nat → Int32)) = f_Mo_permit ar sc a0 a1 a2 := by rw [f_Mo_permit, if_neg c7, if_neg c19, if_pos c29, if_neg c70, if_neg c84, if_neg c95]
              exact W.iret (v := 0) hx hb hr (fun t ht hW => ⟨⟨0, ((f_Mo_throwing ar (sg sc 9 (sc 9)) 1 1 0).2.1, (f_Mo_throwing ar (sg sc 9 (sc 9)) 1 1 0).2.2), rfl, hv, by dsimp only; rw [ht]; exact hP⟩, hS.F ht⟩) hS.2.2 d_Mo_permit_99
          · have h := h.1 c84
            refine lv_iconst (v := 1) hx hb d_Mo_permit_87 (by decide) ?_
            refine lv_goto (tgt := 92) hx hb d_Mo_permit_88 (by decide) ?_
            refine r_Mo_throwing hF hK hP hL hS m_283 hl.1 ⟨Nat.le_of_ble_eq_true rfl, Nat.le_of_ble_eq_true rfl⟩ ⟨Nat.zero_le _, Nat.zero_le _⟩ (Nat.le_of_ble_eq_true rfl) d_Mo_permit_92 (fun H locs hP hS => ?_)
            refine lv_if_eq (tgt := 100) hx hb d_Mo_permit_95 (by decide) (fun c95 => ?_) (fun c95 => ?_)
            · have h := h.1 c95
              refine lv_iconst (v := 0) hx hb d_Mo_permit_100 (by decide) ?_
              refine lv_istore (lv' := [(5, .int 0), (4, .int 1), (0, .ref (L 0)), (1, .int a0), (2, .int a1), (3, .int a2)]) hx hb d_Mo_permit_101 hl (by decide) rfl (fun ls hl => ?_)
              have kL103 := h.1
              have h := h.2
              refine l_Mo_permit_103 a0 a1 a2 1 hF hK hL 200 0 ((f_Mo_throwing ar (sg sc 9 (sc 9)) 1 1 1).2.1) ((f_Mo_throwing ar (sg sc 9 (sc 9)) 1 1 1).2.2) kL103 _ _ hP hS ls (lv_sub hl [0, 2, 3, 4, 5, 1] rfl) (fun H locs ls hP hS hl => ?_)
              refine lv_aload_n hx hb d_Mo_permit_139 rfl (lv_at hl 1 rfl) ?_
              refine gf_Mo_from hF hK hP m_275 d_Mo_permit_140 ?_
              refine lv_aload_n hx hb d_Mo_permit_143 rfl (lv_at hl 1 rfl) ?_
              refine gf_Mo_permits hF hK hP m_274 d_Mo_permit_144 ?_
              refine lv_iload_n hx hb d_Mo_permit_147 rfl (lv_at hl 2 rfl) ?_
              have k148 := h.1
              have h := h.2
              refine asM_23 hF hK hP hL hS k148 d_Mo_permit_148 (fun H locs hP hS => ?_)
              refine lv_aload_n hx hb d_Mo_permit_149 rfl (lv_at hl 1 rfl) ?_
              refine gf_Mo_to hF hK hP m_276 d_Mo_permit_150 ?_
              refine lv_aload_n hx hb d_Mo_permit_153 rfl (lv_at hl 1 rfl) ?_
              refine gf_Mo_permits hF hK hP m_274 d_Mo_permit_154 ?_
              refine lv_iload_n hx hb d_Mo_permit_157 rfl (lv_at hl 3 rfl) ?_
              have k158 := h
              refine asM_24 hF hK hP hL hS k158 d_Mo_permit_158 (fun H locs hP hS => ?_)
              refine lv_aload_n hx hb d_Mo_permit_159 rfl (lv_at hl 1 rfl) ?_
              refine lv_dup hx hb d_Mo_permit_160 rfl ?_
              refine gf_Mo_permits hF hK hP m_274 d_Mo_permit_161 ?_
              refine lv_iconst (v := 1) hx hb d_Mo_permit_164 (by decide) ?_
              refine lv_iadd hx hb d_Mo_permit_165 ?_
              refine pf_Mo_permits hF hK hP hL hS m_274 d_Mo_permit_166 (fun H locs hP hS => ?_)
              refine lv_aload_n hx hb d_Mo_permit_169 rfl (lv_at hl 1 rfl) ?_
              refine gf_Mo_permits hF hK hP m_274 d_Mo_permit_170 ?_
              refine lv_iconst (v := 1) hx hb d_Mo_permit_173 (by decide) ?_
              refine lv_isub hx hb d_Mo_permit_174 ?_
              have hv : ((((sg ((g_Mo_permit_103 a0 a1 a2 1 200 0 ((f_Mo_throwing ar (sg sc 9 (sc 9)) 1 1 1).2.1) ((f_Mo_throwing ar (sg sc 9 (sc 9)) 1 1 1).2.2)).2.2) 8 ((((g_Mo_permit_103 a0 a1 a2 1 200 0 ((f_Mo_throwing ar (sg sc 9 (sc 9)) 1 1 1).2.1) ((f_Mo_throwing ar (sg sc 9 (sc 9)) 1 1 1).2.2)).2.2) 8) + 1)) 8) - 1, s2 (s2 ((g_Mo_permit_103 a0 a1 a2 1 200 0 ((f_Mo_throwing ar (sg sc 9 (sc 9)) 1 1 1).2.1) ((f_Mo_throwing ar (sg sc 9 (sc 9)) 1 1 1).2.2)).2.1) 23 ((((g_Mo_permit_103 a0 a1 a2 1 200 0 ((f_Mo_throwing ar (sg sc 9 (sc 9)) 1 1 1).2.1) ((f_Mo_throwing ar (sg sc 9 (sc 9)) 1 1 1).2.2)).2.2) 8).toNatClampNeg) a0) 24 ((((g_Mo_permit_103 a0 a1 a2 1 200 0 ((f_Mo_throwing ar (sg sc 9 (sc 9)) 1 1 1).2.1) ((f_Mo_throwing ar (sg sc 9 (sc 9)) 1 1 1).2.2)).2.2) 8).toNatClampNeg) a1, sg ((g_Mo_permit_103 a0 a1 a2 1 200 0 ((f_Mo_throwing ar (sg sc 9 (sc 9)) 1 1 1).2.1) ((f_Mo_throwing ar (sg sc 9 (sc 9)) 1 1 1).2.2)).2.2) 8 ((((g_Mo_permit_103 a0 a1 a2 1 200 0 ((f_Mo_throwing ar (sg sc 9 (sc 9)) 1 1 1).2.1) ((f_Mo_throwing ar (sg sc 9 (sc 9)) 1 1 1).2.2)).2.2) 8) + 1)) : Int32 × (Nat → Nat → Int32) × (Nat → Int32)) = f_Mo_permit ar sc a0 a1 a2 := by rw [f_Mo_permit, if_neg c7, if_neg c19, if_pos c29, if_neg c70, if_pos c84, if_pos c95]
              exact W.iret (v := ((sg ((g_Mo_permit_103 a0 a1 a2 1 200 0 ((f_Mo_throwing ar (sg sc 9 (sc 9)) 1 1 1).2.1) ((f_Mo_throwing ar (sg sc 9 (sc 9)) 1 1 1).2.2)).2.2) 8 ((((g_Mo_permit_103 a0 a1 a2 1 200 0 ((f_Mo_throwing ar (sg sc 9 (sc 9)) 1 1 1).2.1) ((f_Mo_throwing ar (sg sc 9 (sc 9)) 1 1 1).2.2)).2.2) 8) + 1)) 8) - 1) hx hb hr (fun t ht hW => ⟨⟨((sg ((g_Mo_permit_103 a0 a1 a2 1 200 0 ((f_Mo_throwing ar (sg sc 9 (sc 9)) 1 1 1).2.1) ((f_Mo_throwing ar (sg sc 9 (sc 9)) 1 1 1).2.2)).2.2) 8 ((((g_Mo_permit_103 a0 a1 a2 1 200 0 ((f_Mo_throwing ar (sg sc 9 (sc 9)) 1 1 1).2.1) ((f_Mo_throwing ar (sg sc 9 (sc 9)) 1 1 1).2.2)).2.2) 8) + 1)) 8) - 1, (s2 (s2 ((g_Mo_permit_103 a0 a1 a2 1 200 0 ((f_Mo_throwing ar (sg sc 9 (sc 9)) 1 1 1).2.1) ((f_Mo_throwing ar (sg sc 9 (sc 9)) 1 1 1).2.2)).2.1) 23 ((((g_Mo_permit_103 a0 a1 a2 1 200 0 ((f_Mo_throwing ar (sg sc 9 (sc 9)) 1 1 1).2.1) ((f_Mo_throwing ar (sg sc 9 (sc 9)) 1 1 1).2.2)).2.2) 8).toNatClampNeg) a0) 24 ((((g_Mo_permit_103 a0 a1 a2 1 200 0 ((f_Mo_throwing ar (sg sc 9 (sc 9)) 1 1 1).2.1) ((f_Mo_throwing ar (sg sc 9 (sc 9)) 1 1 1).2.2)).2.2) 8).toNatClampNeg) a1, sg ((g_Mo_permit_103 a0 a1 a2 1 200 0 ((f_Mo_throwing ar (sg sc 9 (sc 9)) 1 1 1).2.1) ((f_Mo_throwing ar (sg sc 9 (sc 9)) 1 1 1).2.2)).2.2) 8 ((((g_Mo_permit_103 a0 a1 a2 1 200 0 ((f_Mo_throwing ar (sg sc 9 (sc 9)) 1 1 1).2.1) ((f_Mo_throwing ar (sg sc 9 (sc 9)) 1 1 1).2.2)).2.2) 8) + 1)), rfl, hv, by dsimp only; rw [ht]; exact hP⟩, hS.F ht⟩) hS.2.2 d_Mo_permit_175
            · have h := h.2 c95
              refine lv_iconst (v := 0) hx hb d_Mo_permit_98 (by decide) ?_
              have hv : ((0, (f_Mo_throwing ar (sg sc 9 (sc 9)) 1 1 1).2.1, (f_Mo_throwing ar (sg sc 9 (sc 9)) 1 1 1).2.2) : Int32 × (Nat → Nat → Int32) × (Nat → Int32)) = f_Mo_permit ar sc a0 a1 a2 := by rw [f_Mo_permit, if_neg c7, if_neg c19, if_pos c29, if_neg c70, if_pos c84, if_neg c95]
              exact W.iret (v := 0) hx hb hr (fun t ht hW => ⟨⟨0, ((f_Mo_throwing ar (sg sc 9 (sc 9)) 1 1 1).2.1, (f_Mo_throwing ar (sg sc 9 (sc 9)) 1 1 1).2.2), rfl, hv, by dsimp only; rw [ht]; exact hP⟩, hS.F ht⟩) hS.2.2 d_Mo_permit_99
set_option maxHeartbeats 1000000 in
theorem r_Mo_permit {p : Program} {l : Launch} {e : Env} {R : Room} {s : State} {m : MethodId} {args : Array Value} {below : List Frame} {meth : Method} {c : Code} {H : Heap} {locs : List Loc} {cells slots : Nat} {Q : State → Prop} {cc : ByteArray} {nL pc idx : Nat} {ls : Array Slot} {rest : List Value} {own : String} {dC : Nat → ClassId} {dI : Nat → Nat → Nat} {L : Nat → Nat} {cA : Nat → ClassId} {ar : Nat → Nat → Int32} {sc : Nat → Int32} {H0 : Heap} {a0 : Int32} {a1 : Int32} {a2 : Int32} (hF : CallFix p m c cc nL s args w_all own) (hK : kW_M dC dI cA s) (hP : va_P (dC, dI) classes (wM L cA ar sc) H) (hL : ij 25 L) (hS : va_S (aM L) H0 H locs) (h : p_Mo_permit ar sc a0 a1 a2) (hlk : Cond.methodLink own idx y_Mo_permit ∈ w_all) (hsz : ls.size = nL) (hR : (rmD 5).frames + 1 ≤ R.frames ∧ 8 + (6 + 11) + (rmD 5).locals ≤ R.locals) (hc : cells ≤ R.cells ∧ slots ≤ R.slots) (hrs : (rest.map fun v => v.category).sum ≤ 8) (hdg : decode cc pc = .ok (.invokevirtual idx, 3)) (kk : ∀ (H1 : Heap) (locs1 : List Loc), va_P (dC, dI) classes (wM L cA ((f_Mo_permit ar sc a0 a1 a2).2.1) ((f_Mo_permit ar sc a0 a1 a2).2.2)) H1 → va_S (aM L) H0 H1 locs1 → W p l e R s m args below meth c H1 locs1 cells slots Q (F0 m (pc + 3) ls (.int (f_Mo_permit ar sc a0 a1 a2).1 :: rest))) : W p l e R s m args below meth c H locs cells slots Q (F0 m pc ls (.int a2 :: .int a1 :: .int a0 :: .ref (L 0) :: rest)) :=
  va_calli (va_runV (As := [.int a0, .int a1, .int a2]) (rest := rest) hF (c_Mo_permit l dC dI L cA ar sc a0 a1 a2 hL h) (cwV 3 hF.2.2.2.2 (gV hlk m_347 m_348 m_187 m_349) rfl rfl rfl (by decide +kernel) hR) ⟨xb_M, va_recv hK.1 hP (ci := 7) (q0 := 0) rfl rfl, fun U hU hW => ⟨rfl, by rw [hU]; exact hP, kW_M_warm hW hK⟩⟩ rfl rfl hsz rfl (lv_room hrs) hdg hc) hS (fun q _ h9 => h9) (fun q h9 => h9) (fun r u t H1 locs1 ht hvm hw hB hz1 hk1 hS1 => by
    have hk9 := kk H1 locs1 (by rw [← hw, ← ht]; exact hB) hS1
    rw [← hw] at hk9
    exact hk9)
theorem d_Mo_ground_0 : decode b_Mo_ground 0 = .ok (.iload_n 1, 1) := by decide +kernel
theorem d_Mo_ground_1 : decode b_Mo_ground 1 = .ok (.invokestatic 170, 3) := by decide +kernel
theorem d_Mo_ground_4 : decode b_Mo_ground 4 = .ok (.ifCond .eq 40, 3) := by decide +kernel
theorem d_Mo_ground_7 : decode b_Mo_ground 7 = .ok (.iload_n 2, 1) := by decide +kernel
theorem d_Mo_ground_8 : decode b_Mo_ground 8 = .ok (.invokestatic 170, 3) := by decide +kernel
theorem d_Mo_ground_11 : decode b_Mo_ground 11 = .ok (.ifCond .eq 33, 3) := by decide +kernel
theorem d_Mo_ground_14 : decode b_Mo_ground 14 = .ok (.iload_n 3, 1) := by decide +kernel
theorem d_Mo_ground_15 : decode b_Mo_ground 15 = .ok (.invokestatic 170, 3) := by decide +kernel
theorem d_Mo_ground_18 : decode b_Mo_ground 18 = .ok (.ifCond .eq 26, 3) := by decide +kernel
theorem d_Mo_ground_21 : decode b_Mo_ground 21 = .ok (.iload 4, 2) := by decide +kernel
theorem d_Mo_ground_23 : decode b_Mo_ground 23 = .ok (.invokestatic 170, 3) := by decide +kernel
theorem d_Mo_ground_26 : decode b_Mo_ground 26 = .ok (.ifCond .eq 18, 3) := by decide +kernel
theorem d_Mo_ground_29 : decode b_Mo_ground 29 = .ok (.iload_n 1, 1) := by decide +kernel
theorem d_Mo_ground_30 : decode b_Mo_ground 30 = .ok (.iload_n 3, 1) := by decide +kernel
theorem d_Mo_ground_31 : decode b_Mo_ground 31 = .ok (.if_icmp .ge 13, 3) := by decide +kernel
theorem d_Mo_ground_34 : decode b_Mo_ground 34 = .ok (.iload_n 2, 1) := by decide +kernel
theorem d_Mo_ground_35 : decode b_Mo_ground 35 = .ok (.iload 4, 2) := by decide +kernel
theorem d_Mo_ground_37 : decode b_Mo_ground 37 = .ok (.if_icmp .ge 7, 3) := by decide +kernel
theorem d_Mo_ground_40 : decode b_Mo_ground 40 = .ok (.iconst 1, 1) := by decide +kernel
theorem d_Mo_ground_41 : decode b_Mo_ground 41 = .ok (.goto 4, 3) := by decide +kernel
theorem d_Mo_ground_44 : decode b_Mo_ground 44 = .ok (.iconst 0, 1) := by decide +kernel
theorem d_Mo_ground_45 : decode b_Mo_ground 45 = .ok (.istore 5, 2) := by decide +kernel
theorem d_Mo_ground_47 : decode b_Mo_ground 47 = .ok (.aload_n 0, 1) := by decide +kernel
theorem d_Mo_ground_48 : decode b_Mo_ground 48 = .ok (.iload 5, 2) := by decide +kernel
theorem d_Mo_ground_50 : decode b_Mo_ground 50 = .ok (.ifCond .ne 7, 3) := by decide +kernel
theorem d_Mo_ground_53 : decode b_Mo_ground 53 = .ok (.iconst 1, 1) := by decide +kernel
theorem d_Mo_ground_54 : decode b_Mo_ground 54 = .ok (.goto 4, 3) := by decide +kernel
theorem d_Mo_ground_57 : decode b_Mo_ground 57 = .ok (.iconst 0, 1) := by decide +kernel
theorem d_Mo_ground_58 : decode b_Mo_ground 58 = .ok (.iconst 0, 1) := by decide +kernel
theorem d_Mo_ground_59 : decode b_Mo_ground 59 = .ok (.iconst 0, 1) := by decide +kernel
theorem d_Mo_ground_60 : decode b_Mo_ground 60 = .ok (.invokevirtual 104, 3) := by decide +kernel
theorem d_Mo_ground_63 : decode b_Mo_ground 63 = .ok (.ifCond .eq 4, 3) := by decide +kernel
theorem d_Mo_ground_66 : decode b_Mo_ground 66 = .ok (.return_, 1) := by decide +kernel
theorem d_Mo_ground_67 : decode b_Mo_ground 67 = .ok (.aload_n 0, 1) := by decide +kernel
theorem d_Mo_ground_68 : decode b_Mo_ground 68 = .ok (.iconst 1, 1) := by decide +kernel
theorem d_Mo_ground_69 : decode b_Mo_ground 69 = .ok (.putfield 173, 3) := by decide +kernel
theorem d_Mo_ground_72 : decode b_Mo_ground 72 = .ok (.bipush 120, 2) := by decide +kernel
theorem d_Mo_ground_74 : decode b_Mo_ground 74 = .ok (.istore 6, 2) := by decide +kernel
theorem d_Mo_ground_76 : decode b_Mo_ground 76 = .ok (.aload_n 0, 1) := by decide +kernel
theorem d_Mo_ground_77 : decode b_Mo_ground 77 = .ok (.getfield 82, 3) := by decide +kernel
theorem d_Mo_ground_80 : decode b_Mo_ground 80 = .ok (.iload 6, 2) := by decide +kernel
theorem d_Mo_ground_82 : decode b_Mo_ground 82 = .ok (.iload_n 1, 1) := by decide +kernel
theorem d_Mo_ground_83 : decode b_Mo_ground 83 = .ok (.iastore, 1) := by decide +kernel
theorem d_Mo_ground_84 : decode b_Mo_ground 84 = .ok (.aload_n 0, 1) := by decide +kernel
theorem d_Mo_ground_85 : decode b_Mo_ground 85 = .ok (.getfield 82, 3) := by decide +kernel
theorem d_Mo_ground_88 : decode b_Mo_ground 88 = .ok (.iload 6, 2) := by decide +kernel
theorem d_Mo_ground_90 : decode b_Mo_ground 90 = .ok (.iconst 1, 1) := by decide +kernel
theorem d_Mo_ground_91 : decode b_Mo_ground 91 = .ok (.iadd, 1) := by decide +kernel
theorem d_Mo_ground_92 : decode b_Mo_ground 92 = .ok (.iload_n 2, 1) := by decide +kernel
theorem d_Mo_ground_93 : decode b_Mo_ground 93 = .ok (.iastore, 1) := by decide +kernel
theorem d_Mo_ground_94 : decode b_Mo_ground 94 = .ok (.aload_n 0, 1) := by decide +kernel
theorem d_Mo_ground_95 : decode b_Mo_ground 95 = .ok (.getfield 82, 3) := by decide +kernel
theorem d_Mo_ground_98 : decode b_Mo_ground 98 = .ok (.iload 6, 2) := by decide +kernel
theorem d_Mo_ground_100 : decode b_Mo_ground 100 = .ok (.iconst 2, 1) := by decide +kernel
theorem d_Mo_ground_101 : decode b_Mo_ground 101 = .ok (.iadd, 1) := by decide +kernel
theorem d_Mo_ground_102 : decode b_Mo_ground 102 = .ok (.iload_n 3, 1) := by decide +kernel
theorem d_Mo_ground_103 : decode b_Mo_ground 103 = .ok (.iastore, 1) := by decide +kernel
theorem d_Mo_ground_104 : decode b_Mo_ground 104 = .ok (.aload_n 0, 1) := by decide +kernel
theorem d_Mo_ground_105 : decode b_Mo_ground 105 = .ok (.getfield 82, 3) := by decide +kernel
theorem d_Mo_ground_108 : decode b_Mo_ground 108 = .ok (.iload 6, 2) := by decide +kernel
theorem d_Mo_ground_110 : decode b_Mo_ground 110 = .ok (.iconst 3, 1) := by decide +kernel
theorem d_Mo_ground_111 : decode b_Mo_ground 111 = .ok (.iadd, 1) := by decide +kernel
theorem d_Mo_ground_112 : decode b_Mo_ground 112 = .ok (.iload 4, 2) := by decide +kernel
theorem d_Mo_ground_114 : decode b_Mo_ground 114 = .ok (.iastore, 1) := by decide +kernel
theorem d_Mo_ground_115 : decode b_Mo_ground 115 = .ok (.return_, 1) := by decide +kernel
set_option maxHeartbeats 4000000 in
set_option maxRecDepth 100000 in
theorem c_Mo_ground (l : Launch) (dC : Nat → ClassId) (dI : Nat → Nat → Nat) (L : Nat → Nat) (cA : Nat → ClassId) (ar : Nat → Nat → Int32) (sc : Nat → Int32) (a0 : Int32) (a1 : Int32) (a2 : Int32) (a3 : Int32) (hL : ij 25 L) (h : p_Mo_ground ar sc a0 a1 a2 a3) : Met l y_Mo_ground z_Mo_ground (rmD 5) (va_Pc [.ref (L 0), .int a0, .int a1, .int a2, .int a3] (fun U => xw_M dC dI L cA ar sc U)) (va_Qv (fun u : oS => (u.1, u.2) = f_Mo_ground ar sc a0 a1 a2 a3) (fun u t => va_P (dC, dI) classes (wM L cA u.1 u.2) t.heap) (aM L)) 0 0 (aM L) := by
  refine Met.ofW (cc := b_Mo_ground) (maxL := 7) (ret := none) (by decide) rfl ?_
  intro p e s m args below meth c s₁ B hml hv
  obtain ⟨rfl, ⟨hP, hK⟩⟩ := hv
  have hx := B.exec
  have hb := B.bytes
  have hr := B.returns
  have hts : ∀ w ∈ w_all, w.before _ s = true := fun w hw => atoms_spec (ws := z_Mo_ground) B.pre w (List.mem_cons_of_mem _ hw)
  have hown : s.vm.findClass R_Mo = some m.cls := findClass_of_methodNamed B.named
  have hlocks := B.notSynchronized
  have hF : CallFix p m c b_Mo_ground 7 s _ w_all R_Mo := ⟨hx, hb, hml, hown, hts⟩
  have hS : va_S (aM L) s.heap s.heap [] := va_S.rf
  have hl := lv_entry ([.ref (L 0), .int a0, .int a1, .int a2, .int a3]) (n := 7) (Nat.le_of_ble_eq_true rfl)
  rw [lg_entry_eq]
  generalize (lg_sl ([.ref (L 0), .int a0, .int a1, .int a2, .int a3]) ++ List.replicate (7 - (lg_sl ([.ref (L 0), .int a0, .int a1, .int a2, .int a3])).length) Slot.unset).toArray = ls at hl ⊢
  have hl : lv_has ls 7 [(0, .ref (L 0)), (1, .int a0), (2, .int a1), (3, .int a2), (4, .int a3)] := hl
  unfold p_Mo_ground at h
  refine lv_iload_n hx hb d_Mo_ground_0 rfl (lv_at hl 1 rfl) ?_
  refine r_Mo_isPlace hF m_350 hl.1 ⟨Nat.le_of_ble_eq_true rfl, Nat.le_of_ble_eq_true rfl⟩ ⟨Nat.zero_le _, Nat.zero_le _⟩ (Nat.le_of_ble_eq_true rfl) d_Mo_ground_1 ?_
  refine lv_if_eq (tgt := 44) hx hb d_Mo_ground_4 (by decide) (fun c4 => ?_) (fun c4 => ?_)
  · have h := h.1 c4
    refine lv_iconst (v := 0) hx hb d_Mo_ground_44 (by decide) ?_
    refine lv_istore (lv' := [(5, .int 0), (0, .ref (L 0)), (1, .int a0), (2, .int a1), (3, .int a2), (4, .int a3)]) hx hb d_Mo_ground_45 hl (by decide) rfl (fun ls hl => ?_)
    refine lv_aload_n hx hb d_Mo_ground_47 rfl (lv_at hl 1 rfl) ?_
    refine lv_iload hx hb d_Mo_ground_48 (lv_at hl 0 rfl) ?_
    refine lv_if_ne (tgt := 57) hx hb d_Mo_ground_50 (by decide) (fun c9 => absurd c9 (by decide)) (fun _ => ?_)
    refine lv_iconst (v := 1) hx hb d_Mo_ground_53 (by decide) ?_
    refine lv_goto (tgt := 58) hx hb d_Mo_ground_54 (by decide) ?_
    refine lv_iconst (v := 0) hx hb d_Mo_ground_58 (by decide) ?_
    refine lv_iconst (v := 0) hx hb d_Mo_ground_59 (by decide) ?_
    refine r_Mo_throwing hF hK hP hL hS m_283 hl.1 ⟨Nat.le_of_ble_eq_true rfl, Nat.le_of_ble_eq_true rfl⟩ ⟨Nat.zero_le _, Nat.zero_le _⟩ (Nat.le_of_ble_eq_true rfl) d_Mo_ground_60 (fun H locs hP hS => ?_)
    refine lv_if_eq (tgt := 67) hx hb d_Mo_ground_63 (by decide) (fun c63 => ?_) (fun c63 => ?_)
    · have h := h.1 c63
      refine lv_aload_n hx hb d_Mo_ground_67 rfl (lv_at hl 1 rfl) ?_
      refine lv_iconst (v := 1) hx hb d_Mo_ground_68 (by decide) ?_
      refine pf_Mo_ground hF hK hP hL hS rfl rfl m_278 d_Mo_ground_69 (fun H locs hP hS => ?_)
      refine lv_bipush (v := 120) hx hb d_Mo_ground_72 (by decide) ?_
      refine lv_istore (lv' := [(6, .int 120), (5, .int 0), (0, .ref (L 0)), (1, .int a0), (2, .int a1), (3, .int a2), (4, .int a3)]) hx hb d_Mo_ground_74 hl (by decide) rfl (fun ls hl => ?_)
      refine lv_aload_n hx hb d_Mo_ground_76 rfl (lv_at hl 2 rfl) ?_
      refine gf_Mo_grounds hF hK hP m_268 d_Mo_ground_77 ?_
      refine lv_iload hx hb d_Mo_ground_80 (lv_at hl 0 rfl) ?_
      refine lv_iload_n hx hb d_Mo_ground_82 rfl (lv_at hl 3 rfl) ?_
      have k83 := h.1
      have h := h.2
      refine asM_22 hF hK hP hL hS k83 d_Mo_ground_83 (fun H locs hP hS => ?_)
      refine lv_aload_n hx hb d_Mo_ground_84 rfl (lv_at hl 2 rfl) ?_
      refine gf_Mo_grounds hF hK hP m_268 d_Mo_ground_85 ?_
      refine lv_iload hx hb d_Mo_ground_88 (lv_at hl 0 rfl) ?_
      refine lv_iconst (v := 1) hx hb d_Mo_ground_90 (by decide) ?_
      refine lv_iadd hx hb d_Mo_ground_91 ?_
      refine lv_iload_n hx hb d_Mo_ground_92 rfl (lv_at hl 4 rfl) ?_
      have k93 := h.1
      have h := h.2
      refine asM_22 hF hK hP hL hS k93 d_Mo_ground_93 (fun H locs hP hS => ?_)
      refine lv_aload_n hx hb d_Mo_ground_94 rfl (lv_at hl 2 rfl) ?_
      refine gf_Mo_grounds hF hK hP m_268 d_Mo_ground_95 ?_
      refine lv_iload hx hb d_Mo_ground_98 (lv_at hl 0 rfl) ?_
      refine lv_iconst (v := 2) hx hb d_Mo_ground_100 (by decide) ?_
      refine lv_iadd hx hb d_Mo_ground_101 ?_
      refine lv_iload_n hx hb d_Mo_ground_102 rfl (lv_at hl 5 rfl) ?_
      have k103 := h.1
      have h := h.2
      refine asM_22 hF hK hP hL hS k103 d_Mo_ground_103 (fun H locs hP hS => ?_)
      refine lv_aload_n hx hb d_Mo_ground_104 rfl (lv_at hl 2 rfl) ?_
      refine gf_Mo_grounds hF hK hP m_268 d_Mo_ground_105 ?_
      refine lv_iload hx hb d_Mo_ground_108 (lv_at hl 0 rfl) ?_
      refine lv_iconst (v := 3) hx hb d_Mo_ground_110 (by decide) ?_
      refine lv_iadd hx hb d_Mo_ground_111 ?_
      refine lv_iload hx hb d_Mo_ground_112 (lv_at hl 6 rfl) ?_
      have k114 := h
      refine asM_22 hF hK hP hL hS k114 d_Mo_ground_114 (fun H locs hP hS => ?_)
      have hv : ((s2 (s2 (s2 (s2 ((f_Mo_throwing ar sc 1 0 0).2.1) 22 ((120 : Int32).toNatClampNeg) a0) 22 (((120 : Int32) + (1 : Int32)).toNatClampNeg) a1) 22 (((120 : Int32) + (2 : Int32)).toNatClampNeg) a2) 22 (((120 : Int32) + (3 : Int32)).toNatClampNeg) a3, sg ((f_Mo_throwing ar sc 1 0 0).2.2) 7 1) : (Nat → Nat → Int32) × (Nat → Int32)) = f_Mo_ground ar sc a0 a1 a2 a3 := by rw [f_Mo_ground, if_pos c4, if_pos c63]
      exact W.vret hx hb hr (fun t ht hW => ⟨⟨(s2 (s2 (s2 (s2 ((f_Mo_throwing ar sc 1 0 0).2.1) 22 ((120 : Int32).toNatClampNeg) a0) 22 (((120 : Int32) + (1 : Int32)).toNatClampNeg) a1) 22 (((120 : Int32) + (2 : Int32)).toNatClampNeg) a2) 22 (((120 : Int32) + (3 : Int32)).toNatClampNeg) a3, sg ((f_Mo_throwing ar sc 1 0 0).2.2) 7 1), rfl, hv, by dsimp only; rw [ht]; exact hP⟩, hS.F ht⟩) hS.2.2 d_Mo_ground_115
    · have h := h.2 c63
      have hv : (((f_Mo_throwing ar sc 1 0 0).2.1, (f_Mo_throwing ar sc 1 0 0).2.2) : (Nat → Nat → Int32) × (Nat → Int32)) = f_Mo_ground ar sc a0 a1 a2 a3 := by rw [f_Mo_ground, if_pos c4, if_neg c63]
      exact W.vret hx hb hr (fun t ht hW => ⟨⟨((f_Mo_throwing ar sc 1 0 0).2.1, (f_Mo_throwing ar sc 1 0 0).2.2), rfl, hv, by dsimp only; rw [ht]; exact hP⟩, hS.F ht⟩) hS.2.2 d_Mo_ground_66
  · have h := h.2 c4
    refine lv_iload_n hx hb d_Mo_ground_7 rfl (lv_at hl 2 rfl) ?_
    refine r_Mo_isPlace hF m_350 hl.1 ⟨Nat.le_of_ble_eq_true rfl, Nat.le_of_ble_eq_true rfl⟩ ⟨Nat.zero_le _, Nat.zero_le _⟩ (Nat.le_of_ble_eq_true rfl) d_Mo_ground_8 ?_
    refine lv_if_eq (tgt := 44) hx hb d_Mo_ground_11 (by decide) (fun c11 => ?_) (fun c11 => ?_)
    · have h := h.1 c11
      refine lv_iconst (v := 0) hx hb d_Mo_ground_44 (by decide) ?_
      refine lv_istore (lv' := [(5, .int 0), (0, .ref (L 0)), (1, .int a0), (2, .int a1), (3, .int a2), (4, .int a3)]) hx hb d_Mo_ground_45 hl (by decide) rfl (fun ls hl => ?_)
      refine lv_aload_n hx hb d_Mo_ground_47 rfl (lv_at hl 1 rfl) ?_
      refine lv_iload hx hb d_Mo_ground_48 (lv_at hl 0 rfl) ?_
      refine lv_if_ne (tgt := 57) hx hb d_Mo_ground_50 (by decide) (fun c9 => absurd c9 (by decide)) (fun _ => ?_)
      refine lv_iconst (v := 1) hx hb d_Mo_ground_53 (by decide) ?_
      refine lv_goto (tgt := 58) hx hb d_Mo_ground_54 (by decide) ?_
      refine lv_iconst (v := 0) hx hb d_Mo_ground_58 (by decide) ?_
      refine lv_iconst (v := 0) hx hb d_Mo_ground_59 (by decide) ?_
      refine r_Mo_throwing hF hK hP hL hS m_283 hl.1 ⟨Nat.le_of_ble_eq_true rfl, Nat.le_of_ble_eq_true rfl⟩ ⟨Nat.zero_le _, Nat.zero_le _⟩ (Nat.le_of_ble_eq_true rfl) d_Mo_ground_60 (fun H locs hP hS => ?_)
      refine lv_if_eq (tgt := 67) hx hb d_Mo_ground_63 (by decide) (fun c63 => ?_) (fun c63 => ?_)
      · have h := h.1 c63
        refine lv_aload_n hx hb d_Mo_ground_67 rfl (lv_at hl 1 rfl) ?_
        refine lv_iconst (v := 1) hx hb d_Mo_ground_68 (by decide) ?_
        refine pf_Mo_ground hF hK hP hL hS rfl rfl m_278 d_Mo_ground_69 (fun H locs hP hS => ?_)
        refine lv_bipush (v := 120) hx hb d_Mo_ground_72 (by decide) ?_
        refine lv_istore (lv' := [(6, .int 120), (5, .int 0), (0, .ref (L 0)), (1, .int a0), (2, .int a1), (3, .int a2), (4, .int a3)]) hx hb d_Mo_ground_74 hl (by decide) rfl (fun ls hl => ?_)
        refine lv_aload_n hx hb d_Mo_ground_76 rfl (lv_at hl 2 rfl) ?_
        refine gf_Mo_grounds hF hK hP m_268 d_Mo_ground_77 ?_
        refine lv_iload hx hb d_Mo_ground_80 (lv_at hl 0 rfl) ?_
        refine lv_iload_n hx hb d_Mo_ground_82 rfl (lv_at hl 3 rfl) ?_
        have k83 := h.1
        have h := h.2
        refine asM_22 hF hK hP hL hS k83 d_Mo_ground_83 (fun H locs hP hS => ?_)
        refine lv_aload_n hx hb d_Mo_ground_84 rfl (lv_at hl 2 rfl) ?_
        refine gf_Mo_grounds hF hK hP m_268 d_Mo_ground_85 ?_
        refine lv_iload hx hb d_Mo_ground_88 (lv_at hl 0 rfl) ?_
        refine lv_iconst (v := 1) hx hb d_Mo_ground_90 (by decide) ?_
        refine lv_iadd hx hb d_Mo_ground_91 ?_
        refine lv_iload_n hx hb d_Mo_ground_92 rfl (lv_at hl 4 rfl) ?_
        have k93 := h.1
        have h := h.2
        refine asM_22 hF hK hP hL hS k93 d_Mo_ground_93 (fun H locs hP hS => ?_)
        refine lv_aload_n hx hb d_Mo_ground_94 rfl (lv_at hl 2 rfl) ?_
        refine gf_Mo_grounds hF hK hP m_268 d_Mo_ground_95 ?_
        refine lv_iload hx hb d_Mo_ground_98 (lv_at hl 0 rfl) ?_
        refine lv_iconst (v := 2) hx hb d_Mo_ground_100 (by decide) ?_
        refine lv_iadd hx hb d_Mo_ground_101 ?_
        refine lv_iload_n hx hb d_Mo_ground_102 rfl (lv_at hl 5 rfl) ?_
        have k103 := h.1
        have h := h.2
        refine asM_22 hF hK hP hL hS k103 d_Mo_ground_103 (fun H locs hP hS => ?_)
        refine lv_aload_n hx hb d_Mo_ground_104 rfl (lv_at hl 2 rfl) ?_
        refine gf_Mo_grounds hF hK hP m_268 d_Mo_ground_105 ?_
        refine lv_iload hx hb d_Mo_ground_108 (lv_at hl 0 rfl) ?_
        refine lv_iconst (v := 3) hx hb d_Mo_ground_110 (by decide) ?_
        refine lv_iadd hx hb d_Mo_ground_111 ?_
        refine lv_iload hx hb d_Mo_ground_112 (lv_at hl 6 rfl) ?_
        have k114 := h
        refine asM_22 hF hK hP hL hS k114 d_Mo_ground_114 (fun H locs hP hS => ?_)
        have hv : ((s2 (s2 (s2 (s2 ((f_Mo_throwing ar sc 1 0 0).2.1) 22 ((120 : Int32).toNatClampNeg) a0) 22 (((120 : Int32) + (1 : Int32)).toNatClampNeg) a1) 22 (((120 : Int32) + (2 : Int32)).toNatClampNeg) a2) 22 (((120 : Int32) + (3 : Int32)).toNatClampNeg) a3, sg ((f_Mo_throwing ar sc 1 0 0).2.2) 7 1) : (Nat → Nat → Int32) × (Nat → Int32)) = f_Mo_ground ar sc a0 a1 a2 a3 := by rw [f_Mo_ground, if_neg c4, if_pos c11, if_pos c63]
        exact W.vret hx hb hr (fun t ht hW => ⟨⟨(s2 (s2 (s2 (s2 ((f_Mo_throwing ar sc 1 0 0).2.1) 22 ((120 : Int32).toNatClampNeg) a0) 22 (((120 : Int32) + (1 : Int32)).toNatClampNeg) a1) 22 (((120 : Int32) + (2 : Int32)).toNatClampNeg) a2) 22 (((120 : Int32) + (3 : Int32)).toNatClampNeg) a3, sg ((f_Mo_throwing ar sc 1 0 0).2.2) 7 1), rfl, hv, by dsimp only; rw [ht]; exact hP⟩, hS.F ht⟩) hS.2.2 d_Mo_ground_115
      · have h := h.2 c63
        have hv : (((f_Mo_throwing ar sc 1 0 0).2.1, (f_Mo_throwing ar sc 1 0 0).2.2) : (Nat → Nat → Int32) × (Nat → Int32)) = f_Mo_ground ar sc a0 a1 a2 a3 := by rw [f_Mo_ground, if_neg c4, if_pos c11, if_neg c63]
        exact W.vret hx hb hr (fun t ht hW => ⟨⟨((f_Mo_throwing ar sc 1 0 0).2.1, (f_Mo_throwing ar sc 1 0 0).2.2), rfl, hv, by dsimp only; rw [ht]; exact hP⟩, hS.F ht⟩) hS.2.2 d_Mo_ground_66
    · have h := h.2 c11
      refine lv_iload_n hx hb d_Mo_ground_14 rfl (lv_at hl 3 rfl) ?_
      refine r_Mo_isPlace hF m_350 hl.1 ⟨Nat.le_of_ble_eq_true rfl, Nat.le_of_ble_eq_true rfl⟩ ⟨Nat.zero_le _, Nat.zero_le _⟩ (Nat.le_of_ble_eq_true rfl) d_Mo_ground_15 ?_
      refine lv_if_eq (tgt := 44) hx hb d_Mo_ground_18 (by decide) (fun c18 => ?_) (fun c18 => ?_)
      · have h := h.1 c18
        refine lv_iconst (v := 0) hx hb d_Mo_ground_44 (by decide) ?_
        refine lv_istore (lv' := [(5, .int 0), (0, .ref (L 0)), (1, .int a0), (2, .int a1), (3, .int a2), (4, .int a3)]) hx hb d_Mo_ground_45 hl (by decide) rfl (fun ls hl => ?_)
        refine lv_aload_n hx hb d_Mo_ground_47 rfl (lv_at hl 1 rfl) ?_
        refine lv_iload hx hb d_Mo_ground_48 (lv_at hl 0 rfl) ?_
        refine lv_if_ne (tgt := 57) hx hb d_Mo_ground_50 (by decide) (fun c9 => absurd c9 (by decide)) (fun _ => ?_)
        refine lv_iconst (v := 1) hx hb d_Mo_ground_53 (by decide) ?_
        refine lv_goto (tgt := 58) hx hb d_Mo_ground_54 (by decide) ?_
        refine lv_iconst (v := 0) hx hb d_Mo_ground_58 (by decide) ?_
        refine lv_iconst (v := 0) hx hb d_Mo_ground_59 (by decide) ?_
        refine r_Mo_throwing hF hK hP hL hS m_283 hl.1 ⟨Nat.le_of_ble_eq_true rfl, Nat.le_of_ble_eq_true rfl⟩ ⟨Nat.zero_le _, Nat.zero_le _⟩ (Nat.le_of_ble_eq_true rfl) d_Mo_ground_60 (fun H locs hP hS => ?_)
        refine lv_if_eq (tgt := 67) hx hb d_Mo_ground_63 (by decide) (fun c63 => ?_) (fun c63 => ?_)
        · have h := h.1 c63
          refine lv_aload_n hx hb d_Mo_ground_67 rfl (lv_at hl 1 rfl) ?_
          refine lv_iconst (v := 1) hx hb d_Mo_ground_68 (by decide) ?_
          refine pf_Mo_ground hF hK hP hL hS rfl rfl m_278 d_Mo_ground_69 (fun H locs hP hS => ?_)
          refine lv_bipush (v := 120) hx hb d_Mo_ground_72 (by decide) ?_
          refine lv_istore (lv' := [(6, .int 120), (5, .int 0), (0, .ref (L 0)), (1, .int a0), (2, .int a1), (3, .int a2), (4, .int a3)]) hx hb d_Mo_ground_74 hl (by decide) rfl (fun ls hl => ?_)
          refine lv_aload_n hx hb d_Mo_ground_76 rfl (lv_at hl 2 rfl) ?_
          refine gf_Mo_grounds hF hK hP m_268 d_Mo_ground_77 ?_
          refine lv_iload hx hb d_Mo_ground_80 (lv_at hl 0 rfl) ?_
          refine lv_iload_n hx hb d_Mo_ground_82 rfl (lv_at hl 3 rfl) ?_
          have k83 := h.1
          have h := h.2
          refine asM_22 hF hK hP hL hS k83 d_Mo_ground_83 (fun H locs hP hS => ?_)
          refine lv_aload_n hx hb d_Mo_ground_84 rfl (lv_at hl 2 rfl) ?_
          refine gf_Mo_grounds hF hK hP m_268 d_Mo_ground_85 ?_
          refine lv_iload hx hb d_Mo_ground_88 (lv_at hl 0 rfl) ?_
          refine lv_iconst (v := 1) hx hb d_Mo_ground_90 (by decide) ?_
          refine lv_iadd hx hb d_Mo_ground_91 ?_
          refine lv_iload_n hx hb d_Mo_ground_92 rfl (lv_at hl 4 rfl) ?_
          have k93 := h.1
          have h := h.2
          refine asM_22 hF hK hP hL hS k93 d_Mo_ground_93 (fun H locs hP hS => ?_)
          refine lv_aload_n hx hb d_Mo_ground_94 rfl (lv_at hl 2 rfl) ?_
          refine gf_Mo_grounds hF hK hP m_268 d_Mo_ground_95 ?_
          refine lv_iload hx hb d_Mo_ground_98 (lv_at hl 0 rfl) ?_
          refine lv_iconst (v := 2) hx hb d_Mo_ground_100 (by decide) ?_
          refine lv_iadd hx hb d_Mo_ground_101 ?_
          refine lv_iload_n hx hb d_Mo_ground_102 rfl (lv_at hl 5 rfl) ?_
          have k103 := h.1
          have h := h.2
          refine asM_22 hF hK hP hL hS k103 d_Mo_ground_103 (fun H locs hP hS => ?_)
          refine lv_aload_n hx hb d_Mo_ground_104 rfl (lv_at hl 2 rfl) ?_
          refine gf_Mo_grounds hF hK hP m_268 d_Mo_ground_105 ?_
          refine lv_iload hx hb d_Mo_ground_108 (lv_at hl 0 rfl) ?_
          refine lv_iconst (v := 3) hx hb d_Mo_ground_110 (by decide) ?_
          refine lv_iadd hx hb d_Mo_ground_111 ?_
          refine lv_iload hx hb d_Mo_ground_112 (lv_at hl 6 rfl) ?_
          have k114 := h
          refine asM_22 hF hK hP hL hS k114 d_Mo_ground_114 (fun H locs hP hS => ?_)
          have hv : ((s2 (s2 (s2 (s2 ((f_Mo_throwing ar sc 1 0 0).2.1) 22 ((120 : Int32).toNatClampNeg) a0) 22 (((120 : Int32) + (1 : Int32)).toNatClampNeg) a1) 22 (((120 : Int32) + (2 : Int32)).toNatClampNeg) a2) 22 (((120 : Int32) + (3 : Int32)).toNatClampNeg) a3, sg ((f_Mo_throwing ar sc 1 0 0).2.2) 7 1) : (Nat → Nat → Int32) × (Nat → Int32)) = f_Mo_ground ar sc a0 a1 a2 a3 := by rw [f_Mo_ground, if_neg c4, if_neg c11, if_pos c18, if_pos c63]
          exact W.vret hx hb hr (fun t ht hW => ⟨⟨(s2 (s2 (s2 (s2 ((f_Mo_throwing ar sc 1 0 0).2.1) 22 ((120 : Int32).toNatClampNeg) a0) 22 (((120 : Int32) + (1 : Int32)).toNatClampNeg) a1) 22 (((120 : Int32) + (2 : Int32)).toNatClampNeg) a2) 22 (((120 : Int32) + (3 : Int32)).toNatClampNeg) a3, sg ((f_Mo_throwing ar sc 1 0 0).2.2) 7 1), rfl, hv, by dsimp only; rw [ht]; exact hP⟩, hS.F ht⟩) hS.2.2 d_Mo_ground_115
        · have h := h.2 c63
          have hv : (((f_Mo_throwing ar sc 1 0 0).2.1, (f_Mo_throwing ar sc 1 0 0).2.2) : (Nat → Nat → Int32) × (Nat → Int32)) = f_Mo_ground ar sc a0 a1 a2 a3 := by rw [f_Mo_ground, if_neg c4, if_neg c11, if_pos c18, if_neg c63]
          exact W.vret hx hb hr (fun t ht hW => ⟨⟨((f_Mo_throwing ar sc 1 0 0).2.1, (f_Mo_throwing ar sc 1 0 0).2.2), rfl, hv, by dsimp only; rw [ht]; exact hP⟩, hS.F ht⟩) hS.2.2 d_Mo_ground_66
      · have h := h.2 c18
        refine lv_iload hx hb d_Mo_ground_21 (lv_at hl 4 rfl) ?_
        refine r_Mo_isPlace hF m_350 hl.1 ⟨Nat.le_of_ble_eq_true rfl, Nat.le_of_ble_eq_true rfl⟩ ⟨Nat.zero_le _, Nat.zero_le _⟩ (Nat.le_of_ble_eq_true rfl) d_Mo_ground_23 ?_
        refine lv_if_eq (tgt := 44) hx hb d_Mo_ground_26 (by decide) (fun c26 => ?_) (fun c26 => ?_)
        · have h := h.1 c26
          refine lv_iconst (v := 0) hx hb d_Mo_ground_44 (by decide) ?_
          refine lv_istore (lv' := [(5, .int 0), (0, .ref (L 0)), (1, .int a0), (2, .int a1), (3, .int a2), (4, .int a3)]) hx hb d_Mo_ground_45 hl (by decide) rfl (fun ls hl => ?_)
          refine lv_aload_n hx hb d_Mo_ground_47 rfl (lv_at hl 1 rfl) ?_
          refine lv_iload hx hb d_Mo_ground_48 (lv_at hl 0 rfl) ?_
          refine lv_if_ne (tgt := 57) hx hb d_Mo_ground_50 (by decide) (fun c9 => absurd c9 (by decide)) (fun _ => ?_)
          refine lv_iconst (v := 1) hx hb d_Mo_ground_53 (by decide) ?_
          refine lv_goto (tgt := 58) hx hb d_Mo_ground_54 (by decide) ?_
          refine lv_iconst (v := 0) hx hb d_Mo_ground_58 (by decide) ?_
          refine lv_iconst (v := 0) hx hb d_Mo_ground_59 (by decide) ?_
          refine r_Mo_throwing hF hK hP hL hS m_283 hl.1 ⟨Nat.le_of_ble_eq_true rfl, Nat.le_of_ble_eq_true rfl⟩ ⟨Nat.zero_le _, Nat.zero_le _⟩ (Nat.le_of_ble_eq_true rfl) d_Mo_ground_60 (fun H locs hP hS => ?_)
          refine lv_if_eq (tgt := 67) hx hb d_Mo_ground_63 (by decide) (fun c63 => ?_) (fun c63 => ?_)
          · have h := h.1 c63
            refine lv_aload_n hx hb d_Mo_ground_67 rfl (lv_at hl 1 rfl) ?_
            refine lv_iconst (v := 1) hx hb d_Mo_ground_68 (by decide) ?_
            refine pf_Mo_ground hF hK hP hL hS rfl rfl m_278 d_Mo_ground_69 (fun H locs hP hS => ?_)
            refine lv_bipush (v := 120) hx hb d_Mo_ground_72 (by decide) ?_
            refine lv_istore (lv' := [(6, .int 120), (5, .int 0), (0, .ref (L 0)), (1, .int a0), (2, .int a1), (3, .int a2), (4, .int a3)]) hx hb d_Mo_ground_74 hl (by decide) rfl (fun ls hl => ?_)
            refine lv_aload_n hx hb d_Mo_ground_76 rfl (lv_at hl 2 rfl) ?_
            refine gf_Mo_grounds hF hK hP m_268 d_Mo_ground_77 ?_
            refine lv_iload hx hb d_Mo_ground_80 (lv_at hl 0 rfl) ?_
            refine lv_iload_n hx hb d_Mo_ground_82 rfl (lv_at hl 3 rfl) ?_
            have k83 := h.1
            have h := h.2
            refine asM_22 hF hK hP hL hS k83 d_Mo_ground_83 (fun H locs hP hS => ?_)
            refine lv_aload_n hx hb d_Mo_ground_84 rfl (lv_at hl 2 rfl) ?_
            refine gf_Mo_grounds hF hK hP m_268 d_Mo_ground_85 ?_
            refine lv_iload hx hb d_Mo_ground_88 (lv_at hl 0 rfl) ?_
            refine lv_iconst (v := 1) hx hb d_Mo_ground_90 (by decide) ?_
            refine lv_iadd hx hb d_Mo_ground_91 ?_
            refine lv_iload_n hx hb d_Mo_ground_92 rfl (lv_at hl 4 rfl) ?_
            have k93 := h.1
            have h := h.2
            refine asM_22 hF hK hP hL hS k93 d_Mo_ground_93 (fun H locs hP hS => ?_)
            refine lv_aload_n hx hb d_Mo_ground_94 rfl (lv_at hl 2 rfl) ?_
            refine gf_Mo_grounds hF hK hP m_268 d_Mo_ground_95 ?_
            refine lv_iload hx hb d_Mo_ground_98 (lv_at hl 0 rfl) ?_
            refine lv_iconst (v := 2) hx hb d_Mo_ground_100 (by decide) ?_
            refine lv_iadd hx hb d_Mo_ground_101 ?_
            refine lv_iload_n hx hb d_Mo_ground_102 rfl (lv_at hl 5 rfl) ?_
            have k103 := h.1
            have h := h.2
            refine asM_22 hF hK hP hL hS k103 d_Mo_ground_103 (fun H locs hP hS => ?_)
            refine lv_aload_n hx hb d_Mo_ground_104 rfl (lv_at hl 2 rfl) ?_
            refine gf_Mo_grounds hF hK hP m_268 d_Mo_ground_105 ?_
            refine lv_iload hx hb d_Mo_ground_108 (lv_at hl 0 rfl) ?_
            refine lv_iconst (v := 3) hx hb d_Mo_ground_110 (by decide) ?_
            refine lv_iadd hx hb d_Mo_ground_111 ?_
            refine lv_iload hx hb d_Mo_ground_112 (lv_at hl 6 rfl) ?_
            have k114 := h
            refine asM_22 hF hK hP hL hS k114 d_Mo_ground_114 (fun H locs hP hS => ?_)
            have hv : ((s2 (s2 (s2 (s2 ((f_Mo_throwing ar sc 1 0 0).2.1) 22 ((120 : Int32).toNatClampNeg) a0) 22 (((120 : Int32) + (1 : Int32)).toNatClampNeg) a1) 22 (((120 : Int32) + (2 : Int32)).toNatClampNeg) a2) 22 (((120 : Int32) + (3 : Int32)).toNatClampNeg) a3, sg ((f_Mo_throwing ar sc 1 0 0).2.2) 7 1) : (Nat → Nat → Int32) × (Nat → Int32)) = f_Mo_ground ar sc a0 a1 a2 a3 := by rw [f_Mo_ground, if_neg c4, if_neg c11, if_neg c18, if_pos c26, if_pos c63]
            exact W.vret hx hb hr (fun t ht hW => ⟨⟨(s2 (s2 (s2 (s2 ((f_Mo_throwing ar sc 1 0 0).2.1) 22 ((120 : Int32).toNatClampNeg) a0) 22 (((120 : Int32) + (1 : Int32)).toNatClampNeg) a1) 22 (((120 : Int32) + (2 : Int32)).toNatClampNeg) a2) 22 (((120 : Int32) + (3 : Int32)).toNatClampNeg) a3, sg ((f_Mo_throwing ar sc 1 0 0).2.2) 7 1), rfl, hv, by dsimp only; rw [ht]; exact hP⟩, hS.F ht⟩) hS.2.2 d_Mo_ground_115
          · have h := h.2 c63
            have hv : (((f_Mo_throwing ar sc 1 0 0).2.1, (f_Mo_throwing ar sc 1 0 0).2.2) : (Nat → Nat → Int32) × (Nat → Int32)) = f_Mo_ground ar sc a0 a1 a2 a3 := by rw [f_Mo_ground, if_neg c4, if_neg c11, if_neg c18, if_pos c26, if_neg c63]
            exact W.vret hx hb hr (fun t ht hW => ⟨⟨((f_Mo_throwing ar sc 1 0 0).2.1, (f_Mo_throwing ar sc 1 0 0).2.2), rfl, hv, by dsimp only; rw [ht]; exact hP⟩, hS.F ht⟩) hS.2.2 d_Mo_ground_66
        · have h := h.2 c26
          refine lv_iload_n hx hb d_Mo_ground_29 rfl (lv_at hl 1 rfl) ?_
          refine lv_iload_n hx hb d_Mo_ground_30 rfl (lv_at hl 3 rfl) ?_
          refine lv_icmp_ge (tgt := 44) hx hb d_Mo_ground_31 (by decide) (fun c31 => ?_) (fun c31 => ?_)
          · have h := h.1 c31
            refine lv_iconst (v := 0) hx hb d_Mo_ground_44 (by decide) ?_
            refine lv_istore (lv' := [(5, .int 0), (0, .ref (L 0)), (1, .int a0), (2, .int a1), (3, .int a2), (4, .int a3)]) hx hb d_Mo_ground_45 hl (by decide) rfl (fun ls hl => ?_)
            refine lv_aload_n hx hb d_Mo_ground_47 rfl (lv_at hl 1 rfl) ?_
            refine lv_iload hx hb d_Mo_ground_48 (lv_at hl 0 rfl) ?_
            refine lv_if_ne (tgt := 57) hx hb d_Mo_ground_50 (by decide) (fun c9 => absurd c9 (by decide)) (fun _ => ?_)
            refine lv_iconst (v := 1) hx hb d_Mo_ground_53 (by decide) ?_
            refine lv_goto (tgt := 58) hx hb d_Mo_ground_54 (by decide) ?_
            refine lv_iconst (v := 0) hx hb d_Mo_ground_58 (by decide) ?_
            refine lv_iconst (v := 0) hx hb d_Mo_ground_59 (by decide) ?_
            refine r_Mo_throwing hF hK hP hL hS m_283 hl.1 ⟨Nat.le_of_ble_eq_true rfl, Nat.le_of_ble_eq_true rfl⟩ ⟨Nat.zero_le _, Nat.zero_le _⟩ (Nat.le_of_ble_eq_true rfl) d_Mo_ground_60 (fun H locs hP hS => ?_)
            refine lv_if_eq (tgt := 67) hx hb d_Mo_ground_63 (by decide) (fun c63 => ?_) (fun c63 => ?_)
            · have h := h.1 c63
              refine lv_aload_n hx hb d_Mo_ground_67 rfl (lv_at hl 1 rfl) ?_
              refine lv_iconst (v := 1) hx hb d_Mo_ground_68 (by decide) ?_
              refine pf_Mo_ground hF hK hP hL hS rfl rfl m_278 d_Mo_ground_69 (fun H locs hP hS => ?_)
              refine lv_bipush (v := 120) hx hb d_Mo_ground_72 (by decide) ?_
              refine lv_istore (lv' := [(6, .int 120), (5, .int 0), (0, .ref (L 0)), (1, .int a0), (2, .int a1), (3, .int a2), (4, .int a3)]) hx hb d_Mo_ground_74 hl (by decide) rfl (fun ls hl => ?_)
              refine lv_aload_n hx hb d_Mo_ground_76 rfl (lv_at hl 2 rfl) ?_
              refine gf_Mo_grounds hF hK hP m_268 d_Mo_ground_77 ?_
              refine lv_iload hx hb d_Mo_ground_80 (lv_at hl 0 rfl) ?_
              refine lv_iload_n hx hb d_Mo_ground_82 rfl (lv_at hl 3 rfl) ?_
              have k83 := h.1
              have h := h.2
              refine asM_22 hF hK hP hL hS k83 d_Mo_ground_83 (fun H locs hP hS => ?_)
              refine lv_aload_n hx hb d_Mo_ground_84 rfl (lv_at hl 2 rfl) ?_
              refine gf_Mo_grounds hF hK hP m_268 d_Mo_ground_85 ?_
              refine lv_iload hx hb d_Mo_ground_88 (lv_at hl 0 rfl) ?_
              refine lv_iconst (v := 1) hx hb d_Mo_ground_90 (by decide) ?_
              refine lv_iadd hx hb d_Mo_ground_91 ?_
              refine lv_iload_n hx hb d_Mo_ground_92 rfl (lv_at hl 4 rfl) ?_
              have k93 := h.1
              have h := h.2
              refine asM_22 hF hK hP hL hS k93 d_Mo_ground_93 (fun H locs hP hS => ?_)
              refine lv_aload_n hx hb d_Mo_ground_94 rfl (lv_at hl 2 rfl) ?_
              refine gf_Mo_grounds hF hK hP m_268 d_Mo_ground_95 ?_
              refine lv_iload hx hb d_Mo_ground_98 (lv_at hl 0 rfl) ?_
              refine lv_iconst (v := 2) hx hb d_Mo_ground_100 (by decide) ?_
              refine lv_iadd hx hb d_Mo_ground_101 ?_
              refine lv_iload_n hx hb d_Mo_ground_102 rfl (lv_at hl 5 rfl) ?_
              have k103 := h.1
              have h := h.2
              refine asM_22 hF hK hP hL hS k103 d_Mo_ground_103 (fun H locs hP hS => ?_)
              refine lv_aload_n hx hb d_Mo_ground_104 rfl (lv_at hl 2 rfl) ?_
              refine gf_Mo_grounds hF hK hP m_268 d_Mo_ground_105 ?_
              refine lv_iload hx hb d_Mo_ground_108 (lv_at hl 0 rfl) ?_
              refine lv_iconst (v := 3) hx hb d_Mo_ground_110 (by decide) ?_
              refine lv_iadd hx hb d_Mo_ground_111 ?_
              refine lv_iload hx hb d_Mo_ground_112 (lv_at hl 6 rfl) ?_
              have k114 := h
              refine asM_22 hF hK hP hL hS k114 d_Mo_ground_114 (fun H locs hP hS => ?_)
              have hv : ((s2 (s2 (s2 (s2 ((f_Mo_throwing ar sc 1 0 0).2.1) 22 ((120 : Int32).toNatClampNeg) a0) 22 (((120 : Int32) + (1 : Int32)).toNatClampNeg) a1) 22 (((120 : Int32) + (2 : Int32)).toNatClampNeg) a2) 22 (((120 : Int32) + (3 : Int32)).toNatClampNeg) a3, sg ((f_Mo_throwing ar sc 1 0 0).2.2) 7 1) : (Nat → Nat → Int32) × (Nat → Int32)) = f_Mo_ground ar sc a0 a1 a2 a3 := by rw [f_Mo_ground, if_neg c4, if_neg c11, if_neg c18, if_neg c26, if_pos c31, if_pos c63]
              exact W.vret hx hb hr (fun t ht hW => ⟨⟨(s2 (s2 (s2 (s2 ((f_Mo_throwing ar sc 1 0 0).2.1) 22 ((120 : Int32).toNatClampNeg) a0) 22 (((120 : Int32) + (1 : Int32)).toNatClampNeg) a1) 22 (((120 : Int32) + (2 : Int32)).toNatClampNeg) a2) 22 (((120 : Int32) + (3 : Int32)).toNatClampNeg) a3, sg ((f_Mo_throwing ar sc 1 0 0).2.2) 7 1), rfl, hv, by dsimp only; rw [ht]; exact hP⟩, hS.F ht⟩) hS.2.2 d_Mo_ground_115
            · have h := h.2 c63
              have hv : (((f_Mo_throwing ar sc 1 0 0).2.1, (f_Mo_throwing ar sc 1 0 0).2.2) : (Nat → Nat → Int32) × (Nat → Int32)) = f_Mo_ground ar sc a0 a1 a2 a3 := by rw [f_Mo_ground, if_neg c4, if_neg c11, if_neg c18, if_neg c26, if_pos c31, if_neg c63]
              exact W.vret hx hb hr (fun t ht hW => ⟨⟨((f_Mo_throwing ar sc 1 0 0).2.1, (f_Mo_throwing ar sc 1 0 0).2.2), rfl, hv, by dsimp only; rw [ht]; exact hP⟩, hS.F ht⟩) hS.2.2 d_Mo_ground_66
          · have h := h.2 c31
            refine lv_iload_n hx hb d_Mo_ground_34 rfl (lv_at hl 2 rfl) ?_
            refine lv_iload hx hb d_Mo_ground_35 (lv_at hl 4 rfl) ?_
            refine lv_icmp_ge (tgt := 44) hx hb d_Mo_ground_37 (by decide) (fun c37 => ?_) (fun c37 => ?_)
            · have h := h.1 c37
              refine lv_iconst (v := 0) hx hb d_Mo_ground_44 (by decide) ?_
              refine lv_istore (lv' := [(5, .int 0), (0, .ref (L 0)), (1, .int a0), (2, .int a1), (3, .int a2), (4, .int a3)]) hx hb d_Mo_ground_45 hl (by decide) rfl (fun ls hl => ?_)
              refine lv_aload_n hx hb d_Mo_ground_47 rfl (lv_at hl 1 rfl) ?_
              refine lv_iload hx hb d_Mo_ground_48 (lv_at hl 0 rfl) ?_
              refine lv_if_ne (tgt := 57) hx hb d_Mo_ground_50 (by decide) (fun c9 => absurd c9 (by decide)) (fun _ => ?_)
              refine lv_iconst (v := 1) hx hb d_Mo_ground_53 (by decide) ?_
              refine lv_goto (tgt := 58) hx hb d_Mo_ground_54 (by decide) ?_
              refine lv_iconst (v := 0) hx hb d_Mo_ground_58 (by decide) ?_
              refine lv_iconst (v := 0) hx hb d_Mo_ground_59 (by decide) ?_
              refine r_Mo_throwing hF hK hP hL hS m_283 hl.1 ⟨Nat.le_of_ble_eq_true rfl, Nat.le_of_ble_eq_true rfl⟩ ⟨Nat.zero_le _, Nat.zero_le _⟩ (Nat.le_of_ble_eq_true rfl) d_Mo_ground_60 (fun H locs hP hS => ?_)
              refine lv_if_eq (tgt := 67) hx hb d_Mo_ground_63 (by decide) (fun c63 => ?_) (fun c63 => ?_)
              · have h := h.1 c63
                refine lv_aload_n hx hb d_Mo_ground_67 rfl (lv_at hl 1 rfl) ?_
                refine lv_iconst (v := 1) hx hb d_Mo_ground_68 (by decide) ?_
                refine pf_Mo_ground hF hK hP hL hS rfl rfl m_278 d_Mo_ground_69 (fun H locs hP hS => ?_)
                refine lv_bipush (v := 120) hx hb d_Mo_ground_72 (by decide) ?_
                refine lv_istore (lv' := [(6, .int 120), (5, .int 0), (0, .ref (L 0)), (1, .int a0), (2, .int a1), (3, .int a2), (4, .int a3)]) hx hb d_Mo_ground_74 hl (by decide) rfl (fun ls hl => ?_)
                refine lv_aload_n hx hb d_Mo_ground_76 rfl (lv_at hl 2 rfl) ?_
                refine gf_Mo_grounds hF hK hP m_268 d_Mo_ground_77 ?_
                refine lv_iload hx hb d_Mo_ground_80 (lv_at hl 0 rfl) ?_
                refine lv_iload_n hx hb d_Mo_ground_82 rfl (lv_at hl 3 rfl) ?_
                have k83 := h.1
                have h := h.2
                refine asM_22 hF hK hP hL hS k83 d_Mo_ground_83 (fun H locs hP hS => ?_)
                refine lv_aload_n hx hb d_Mo_ground_84 rfl (lv_at hl 2 rfl) ?_
                refine gf_Mo_grounds hF hK hP m_268 d_Mo_ground_85 ?_
                refine lv_iload hx hb d_Mo_ground_88 (lv_at hl 0 rfl) ?_
                refine lv_iconst (v := 1) hx hb d_Mo_ground_90 (by decide) ?_
                refine lv_iadd hx hb d_Mo_ground_91 ?_
                refine lv_iload_n hx hb d_Mo_ground_92 rfl (lv_at hl 4 rfl) ?_
                have k93 := h.1
                have h := h.2
                refine asM_22 hF hK hP hL hS k93 d_Mo_ground_93 (fun H locs hP hS => ?_)
                refine lv_aload_n hx hb d_Mo_ground_94 rfl (lv_at hl 2 rfl) ?_
                refine gf_Mo_grounds hF hK hP m_268 d_Mo_ground_95 ?_
                refine lv_iload hx hb d_Mo_ground_98 (lv_at hl 0 rfl) ?_
                refine lv_iconst (v := 2) hx hb d_Mo_ground_100 (by decide) ?_
                refine lv_iadd hx hb d_Mo_ground_101 ?_
                refine lv_iload_n hx hb d_Mo_ground_102 rfl (lv_at hl 5 rfl) ?_
                have k103 := h.1
                have h := h.2
                refine asM_22 hF hK hP hL hS k103 d_Mo_ground_103 (fun H locs hP hS => ?_)
                refine lv_aload_n hx hb d_Mo_ground_104 rfl (lv_at hl 2 rfl) ?_
                refine gf_Mo_grounds hF hK hP m_268 d_Mo_ground_105 ?_
                refine lv_iload hx hb d_Mo_ground_108 (lv_at hl 0 rfl) ?_
                refine lv_iconst (v := 3) hx hb d_Mo_ground_110 (by decide) ?_
                refine lv_iadd hx hb d_Mo_ground_111 ?_
                refine lv_iload hx hb d_Mo_ground_112 (lv_at hl 6 rfl) ?_
                have k114 := h
                refine asM_22 hF hK hP hL hS k114 d_Mo_ground_114 (fun H locs hP hS => ?_)
                have hv : ((s2 (s2 (s2 (s2 ((f_Mo_throwing ar sc 1 0 0).2.1) 22 ((120 : Int32).toNatClampNeg) a0) 22 (((120 : Int32) + (1 : Int32)).toNatClampNeg) a1) 22 (((120 : Int32) + (2 : Int32)).toNatClampNeg) a2) 22 (((120 : Int32) + (3 : Int32)).toNatClampNeg) a3, sg ((f_Mo_throwing ar sc 1 0 0).2.2) 7 1) : (Nat → Nat → Int32) × (Nat → Int32)) = f_Mo_ground ar sc a0 a1 a2 a3 := by rw [f_Mo_ground, if_neg c4, if_neg c11, if_neg c18, if_neg c26, if_neg c31, if_pos c37, if_pos c63]
                exact W.vret hx hb hr (fun t ht hW => ⟨⟨(s2 (s2 (s2 (s2 ((f_Mo_throwing ar sc 1 0 0).2.1) 22 ((120 : Int32).toNatClampNeg) a0) 22 (((120 : Int32) + (1 : Int32)).toNatClampNeg) a1) 22 (((120 : Int32) + (2 : Int32)).toNatClampNeg) a2) 22 (((120 : Int32) + (3 : Int32)).toNatClampNeg) a3, sg ((f_Mo_throwing ar sc 1 0 0).2.2) 7 1), rfl, hv, by dsimp only; rw [ht]; exact hP⟩, hS.F ht⟩) hS.2.2 d_Mo_ground_115
              · have h := h.2 c63
                have hv : (((f_Mo_throwing ar sc 1 0 0).2.1, (f_Mo_throwing ar sc 1 0 0).2.2) : (Nat → Nat → Int32) × (Nat → Int32)) = f_Mo_ground ar sc a0 a1 a2 a3 := by rw [f_Mo_ground, if_neg c4, if_neg c11, if_neg c18, if_neg c26, if_neg c31, if_pos c37, if_neg c63]
                exact W.vret hx hb hr (fun t ht hW => ⟨⟨((f_Mo_throwing ar sc 1 0 0).2.1, (f_Mo_throwing ar sc 1 0 0).2.2), rfl, hv, by dsimp only; rw [ht]; exact hP⟩, hS.F ht⟩) hS.2.2 d_Mo_ground_66
            · have h := h.2 c37
              refine lv_iconst (v := 1) hx hb d_Mo_ground_40 (by decide) ?_
              refine lv_goto (tgt := 45) hx hb d_Mo_ground_41 (by decide) ?_
              refine lv_istore (lv' := [(5, .int 1), (0, .ref (L 0)), (1, .int a0), (2, .int a1), (3, .int a2), (4, .int a3)]) hx hb d_Mo_ground_45 hl (by decide) rfl (fun ls hl => ?_)
              refine lv_aload_n hx hb d_Mo_ground_47 rfl (lv_at hl 1 rfl) ?_
              refine lv_iload hx hb d_Mo_ground_48 (lv_at hl 0 rfl) ?_
              refine lv_if_ne (tgt := 57) hx hb d_Mo_ground_50 (by decide) (fun _ => ?_) (fun c9 => absurd c9 (by decide))
              refine lv_iconst (v := 0) hx hb d_Mo_ground_57 (by decide) ?_
              refine lv_iconst (v := 0) hx hb d_Mo_ground_58 (by decide) ?_
              refine lv_iconst (v := 0) hx hb d_Mo_ground_59 (by decide) ?_
              refine r_Mo_throwing hF hK hP hL hS m_283 hl.1 ⟨Nat.le_of_ble_eq_true rfl, Nat.le_of_ble_eq_true rfl⟩ ⟨Nat.zero_le _, Nat.zero_le _⟩ (Nat.le_of_ble_eq_true rfl) d_Mo_ground_60 (fun H locs hP hS => ?_)
              refine lv_if_eq (tgt := 67) hx hb d_Mo_ground_63 (by decide) (fun c63 => ?_) (fun c63 => ?_)
              · have h := h.1 c63
                refine lv_aload_n hx hb d_Mo_ground_67 rfl (lv_at hl 1 rfl) ?_
                refine lv_iconst (v := 1) hx hb d_Mo_ground_68 (by decide) ?_
                refine pf_Mo_ground hF hK hP hL hS rfl rfl m_278 d_Mo_ground_69 (fun H locs hP hS => ?_)
                refine lv_bipush (v := 120) hx hb d_Mo_ground_72 (by decide) ?_
                refine lv_istore (lv' := [(6, .int 120), (5, .int 1), (0, .ref (L 0)), (1, .int a0), (2, .int a1), (3, .int a2), (4, .int a3)]) hx hb d_Mo_ground_74 hl (by decide) rfl (fun ls hl => ?_)
                refine lv_aload_n hx hb d_Mo_ground_76 rfl (lv_at hl 2 rfl) ?_
                refine gf_Mo_grounds hF hK hP m_268 d_Mo_ground_77 ?_
                refine lv_iload hx hb d_Mo_ground_80 (lv_at hl 0 rfl) ?_
                refine lv_iload_n hx hb d_Mo_ground_82 rfl (lv_at hl 3 rfl) ?_
                have k83 := h.1
                have h := h.2
                refine asM_22 hF hK hP hL hS k83 d_Mo_ground_83 (fun H locs hP hS => ?_)
                refine lv_aload_n hx hb d_Mo_ground_84 rfl (lv_at hl 2 rfl) ?_
                refine gf_Mo_grounds hF hK hP m_268 d_Mo_ground_85 ?_
                refine lv_iload hx hb d_Mo_ground_88 (lv_at hl 0 rfl) ?_
                refine lv_iconst (v := 1) hx hb d_Mo_ground_90 (by decide) ?_
                refine lv_iadd hx hb d_Mo_ground_91 ?_
                refine lv_iload_n hx hb d_Mo_ground_92 rfl (lv_at hl 4 rfl) ?_
                have k93 := h.1
                have h := h.2
                refine asM_22 hF hK hP hL hS k93 d_Mo_ground_93 (fun H locs hP hS => ?_)
                refine lv_aload_n hx hb d_Mo_ground_94 rfl (lv_at hl 2 rfl) ?_
                refine gf_Mo_grounds hF hK hP m_268 d_Mo_ground_95 ?_
                refine lv_iload hx hb d_Mo_ground_98 (lv_at hl 0 rfl) ?_
                refine lv_iconst (v := 2) hx hb d_Mo_ground_100 (by decide) ?_
                refine lv_iadd hx hb d_Mo_ground_101 ?_
                refine lv_iload_n hx hb d_Mo_ground_102 rfl (lv_at hl 5 rfl) ?_
                have k103 := h.1
                have h := h.2
                refine asM_22 hF hK hP hL hS k103 d_Mo_ground_103 (fun H locs hP hS => ?_)
                refine lv_aload_n hx hb d_Mo_ground_104 rfl (lv_at hl 2 rfl) ?_
                refine gf_Mo_grounds hF hK hP m_268 d_Mo_ground_105 ?_
                refine lv_iload hx hb d_Mo_ground_108 (lv_at hl 0 rfl) ?_
                refine lv_iconst (v := 3) hx hb d_Mo_ground_110 (by decide) ?_
                refine lv_iadd hx hb d_Mo_ground_111 ?_
                refine lv_iload hx hb d_Mo_ground_112 (lv_at hl 6 rfl) ?_
                have k114 := h
                refine asM_22 hF hK hP hL hS k114 d_Mo_ground_114 (fun H locs hP hS => ?_)
                have hv : ((s2 (s2 (s2 (s2 ((f_Mo_throwing ar sc 0 0 0).2.1) 22 ((120 : Int32).toNatClampNeg) a0) 22 (((120 : Int32) + (1 : Int32)).toNatClampNeg) a1) 22 (((120 : Int32) + (2 : Int32)).toNatClampNeg) a2) 22 (((120 : Int32) + (3 : Int32)).toNatClampNeg) a3, sg ((f_Mo_throwing ar sc 0 0 0).2.2) 7 1) : (Nat → Nat → Int32) × (Nat → Int32)) = f_Mo_ground ar sc a0 a1 a2 a3 := by rw [f_Mo_ground, if_neg c4, if_neg c11, if_neg c18, if_neg c26, if_neg c31, if_neg c37, if_pos c63]
                exact W.vret hx hb hr (fun t ht hW => ⟨⟨(s2 (s2 (s2 (s2 ((f_Mo_throwing ar sc 0 0 0).2.1) 22 ((120 : Int32).toNatClampNeg) a0) 22 (((120 : Int32) + (1 : Int32)).toNatClampNeg) a1) 22 (((120 : Int32) + (2 : Int32)).toNatClampNeg) a2) 22 (((120 : Int32) + (3 : Int32)).toNatClampNeg) a3, sg ((f_Mo_throwing ar sc 0 0 0).2.2) 7 1), rfl, hv, by dsimp only; rw [ht]; exact hP⟩, hS.F ht⟩) hS.2.2 d_Mo_ground_115
              · have h := h.2 c63
                have hv : (((f_Mo_throwing ar sc 0 0 0).2.1, (f_Mo_throwing ar sc 0 0 0).2.2) : (Nat → Nat → Int32) × (Nat → Int32)) = f_Mo_ground ar sc a0 a1 a2 a3 := by rw [f_Mo_ground, if_neg c4, if_neg c11, if_neg c18, if_neg c26, if_neg c31, if_neg c37, if_neg c63]
                exact W.vret hx hb hr (fun t ht hW => ⟨⟨((f_Mo_throwing ar sc 0 0 0).2.1, (f_Mo_throwing ar sc 0 0 0).2.2), rfl, hv, by dsimp only; rw [ht]; exact hP⟩, hS.F ht⟩) hS.2.2 d_Mo_ground_66
set_option maxHeartbeats 1000000 in
theorem r_Mo_ground {p : Program} {l : Launch} {e : Env} {R : Room} {s : State} {m : MethodId} {args : Array Value} {below : List Frame} {meth : Method} {c : Code} {H : Heap} {locs : List Loc} {cells slots : Nat} {Q : State → Prop} {cc : ByteArray} {nL pc idx : Nat} {ls : Array Slot} {rest : List Value} {own : String} {dC : Nat → ClassId} {dI : Nat → Nat → Nat} {L : Nat → Nat} {cA : Nat → ClassId} {ar : Nat → Nat → Int32} {sc : Nat → Int32} {H0 : Heap} {a0 : Int32} {a1 : Int32} {a2 : Int32} {a3 : Int32} (hF : CallFix p m c cc nL s args w_all own) (hK : kW_M dC dI cA s) (hP : va_P (dC, dI) classes (wM L cA ar sc) H) (hL : ij 25 L) (hS : va_S (aM L) H0 H locs) (h : p_Mo_ground ar sc a0 a1 a2 a3) (hlk : Cond.methodLink own idx y_Mo_ground ∈ w_all) (hsz : ls.size = nL) (hR : (rmD 5).frames + 1 ≤ R.frames ∧ 8 + (7 + 11) + (rmD 5).locals ≤ R.locals) (hc : cells ≤ R.cells ∧ slots ≤ R.slots) (hrs : (rest.map fun v => v.category).sum ≤ 8) (hdg : decode cc pc = .ok (.invokevirtual idx, 3)) (kk : ∀ (H1 : Heap) (locs1 : List Loc), va_P (dC, dI) classes (wM L cA ((f_Mo_ground ar sc a0 a1 a2 a3).1) ((f_Mo_ground ar sc a0 a1 a2 a3).2)) H1 → va_S (aM L) H0 H1 locs1 → W p l e R s m args below meth c H1 locs1 cells slots Q (F0 m (pc + 3) ls (rest))) : W p l e R s m args below meth c H locs cells slots Q (F0 m pc ls (.int a3 :: .int a2 :: .int a1 :: .int a0 :: .ref (L 0) :: rest)) :=
  va_callv (va_runV (As := [.int a0, .int a1, .int a2, .int a3]) (rest := rest) hF (c_Mo_ground l dC dI L cA ar sc a0 a1 a2 a3 hL h) (cwV 4 hF.2.2.2.2 (gV hlk m_351 m_352 m_187 m_353) rfl rfl rfl (by decide +kernel) hR) ⟨xb_M, va_recv hK.1 hP (ci := 7) (q0 := 0) rfl rfl, fun U hU hW => ⟨rfl, by rw [hU]; exact hP, kW_M_warm hW hK⟩⟩ rfl rfl hsz rfl (lv_room hrs) hdg hc) hS (fun q _ h9 => h9) (fun q h9 => h9) (fun u t H1 locs1 ht hvm hw hB hz1 hk1 hS1 => by
    have hk9 := kk H1 locs1 (by rw [← hw, ← ht]; exact hB) hS1
    exact hk9)
theorem d_Mo_clash_0 : decode b_Mo_clash 0 = .ok (.aload_n 0, 1) := by decide +kernel
theorem d_Mo_clash_1 : decode b_Mo_clash 1 = .ok (.iconst 0, 1) := by decide +kernel
theorem d_Mo_clash_2 : decode b_Mo_clash 2 = .ok (.putfield 94, 3) := by decide +kernel
theorem d_Mo_clash_5 : decode b_Mo_clash 5 = .ok (.aload_n 0, 1) := by decide +kernel
theorem d_Mo_clash_6 : decode b_Mo_clash 6 = .ok (.getfield 91, 3) := by decide +kernel
theorem d_Mo_clash_9 : decode b_Mo_clash 9 = .ok (.ireturn, 1) := by decide +kernel
set_option maxHeartbeats 4000000 in
set_option maxRecDepth 100000 in
theorem c_Mo_clash (l : Launch) (dC : Nat → ClassId) (dI : Nat → Nat → Nat) (L : Nat → Nat) (cA : Nat → ClassId) (ar : Nat → Nat → Int32) (sc : Nat → Int32) (hL : ij 25 L) : Met l y_Mo_clash z_Mo_clash (rmD 5) (va_Pc [.ref (L 0)] (fun U => xw_M dC dI L cA ar sc U)) (va_Qi (fun (r : Int32) (u : oS) => (r, u.1, u.2) = f_Mo_clash ar sc ) (fun u t => va_P (dC, dI) classes (wM L cA u.1 u.2) t.heap) (aM L)) 0 0 (aM L) := by
  refine Met.ofW (cc := b_Mo_clash) (maxL := 1) (ret := (some .int)) (by decide) rfl ?_
  intro p e s m args below meth c s₁ B hml hv
  obtain ⟨rfl, ⟨hP, hK⟩⟩ := hv
  have hx := B.exec
  have hb := B.bytes
  have hr := B.returns
  have hts : ∀ w ∈ w_all, w.before _ s = true := fun w hw => atoms_spec (ws := z_Mo_clash) B.pre w (List.mem_cons_of_mem _ hw)
  have hown : s.vm.findClass R_Mo = some m.cls := findClass_of_methodNamed B.named
  have hlocks := B.notSynchronized
  have hF : CallFix p m c b_Mo_clash 1 s _ w_all R_Mo := ⟨hx, hb, hml, hown, hts⟩
  have hS : va_S (aM L) s.heap s.heap [] := va_S.rf
  have hl := lv_entry ([.ref (L 0)]) (n := 1) (Nat.le_of_ble_eq_true rfl)
  rw [lg_entry_eq]
  generalize (lg_sl ([.ref (L 0)]) ++ List.replicate (1 - (lg_sl ([.ref (L 0)])).length) Slot.unset).toArray = ls at hl ⊢
  have hl : lv_has ls 1 [(0, .ref (L 0))] := hl
  refine lv_aload_n hx hb d_Mo_clash_0 rfl (lv_at hl 0 rfl) ?_
  refine lv_iconst (v := 0) hx hb d_Mo_clash_1 (by decide) ?_
  refine pf_Mo_thrown hF hK hP hL hS m_184 d_Mo_clash_2 (fun H locs hP hS => ?_)
  refine lv_aload_n hx hb d_Mo_clash_5 rfl (lv_at hl 0 rfl) ?_
  refine gf_Mo_clash hF hK hP m_345 d_Mo_clash_6 ?_
  have hv : (((sg sc 0 0) 9, ar, sg sc 0 0) : Int32 × (Nat → Nat → Int32) × (Nat → Int32)) = f_Mo_clash ar sc  := by rw [f_Mo_clash]
  exact W.iret (v := (sg sc 0 0) 9) hx hb hr (fun t ht hW => ⟨⟨(sg sc 0 0) 9, (ar, sg sc 0 0), rfl, hv, by dsimp only; rw [ht]; exact hP⟩, hS.F ht⟩) hS.2.2 d_Mo_clash_9
set_option maxHeartbeats 1000000 in
theorem r_Mo_clash {p : Program} {l : Launch} {e : Env} {R : Room} {s : State} {m : MethodId} {args : Array Value} {below : List Frame} {meth : Method} {c : Code} {H : Heap} {locs : List Loc} {cells slots : Nat} {Q : State → Prop} {cc : ByteArray} {nL pc idx : Nat} {ls : Array Slot} {rest : List Value} {own : String} {dC : Nat → ClassId} {dI : Nat → Nat → Nat} {L : Nat → Nat} {cA : Nat → ClassId} {ar : Nat → Nat → Int32} {sc : Nat → Int32} {H0 : Heap}  (hF : CallFix p m c cc nL s args w_all own) (hK : kW_M dC dI cA s) (hP : va_P (dC, dI) classes (wM L cA ar sc) H) (hL : ij 25 L) (hS : va_S (aM L) H0 H locs) (hlk : Cond.methodLink own idx y_Mo_clash ∈ w_all) (hsz : ls.size = nL) (hR : (rmD 5).frames + 1 ≤ R.frames ∧ 8 + (1 + 11) + (rmD 5).locals ≤ R.locals) (hc : cells ≤ R.cells ∧ slots ≤ R.slots) (hrs : (rest.map fun v => v.category).sum ≤ 8) (hdg : decode cc pc = .ok (.invokevirtual idx, 3)) (kk : ∀ (H1 : Heap) (locs1 : List Loc), va_P (dC, dI) classes (wM L cA ((f_Mo_clash ar sc ).2.1) ((f_Mo_clash ar sc ).2.2)) H1 → va_S (aM L) H0 H1 locs1 → W p l e R s m args below meth c H1 locs1 cells slots Q (F0 m (pc + 3) ls (.int (f_Mo_clash ar sc ).1 :: rest))) : W p l e R s m args below meth c H locs cells slots Q (F0 m pc ls (.ref (L 0) :: rest)) :=
  va_calli (va_runV (As := []) (rest := rest) hF (c_Mo_clash l dC dI L cA ar sc  hL) (cwV 0 hF.2.2.2.2 (gV hlk m_354 m_355 m_187 m_356) rfl rfl rfl (by decide +kernel) hR) ⟨xb_M, va_recv hK.1 hP (ci := 7) (q0 := 0) rfl rfl, fun U hU hW => ⟨rfl, by rw [hU]; exact hP, kW_M_warm hW hK⟩⟩ rfl rfl hsz rfl (lv_room hrs) hdg hc) hS (fun q _ h9 => h9) (fun q h9 => h9) (fun r u t H1 locs1 ht hvm hw hB hz1 hk1 hS1 => by
    have hk9 := kk H1 locs1 (by rw [← hw, ← ht]; exact hB) hS1
    rw [← hw] at hk9
    exact hk9)
theorem d_Mo_touches_0 : decode b_Mo_touches 0 = .ok (.aload_n 0, 1) := by decide +kernel
theorem d_Mo_touches_1 : decode b_Mo_touches 1 = .ok (.iload_n 1, 1) := by decide +kernel
theorem d_Mo_touches_2 : decode b_Mo_touches 2 = .ok (.iconst 0, 1) := by decide +kernel
theorem d_Mo_touches_3 : decode b_Mo_touches 3 = .ok (.aload_n 0, 1) := by decide +kernel
theorem d_Mo_touches_4 : decode b_Mo_touches 4 = .ok (.getfield 181, 3) := by decide +kernel
theorem d_Mo_touches_7 : decode b_Mo_touches 7 = .ok (.iconst 1, 1) := by decide +kernel
theorem d_Mo_touches_8 : decode b_Mo_touches 8 = .ok (.isub, 1) := by decide +kernel
theorem d_Mo_touches_9 : decode b_Mo_touches 9 = .ok (.invokestatic 100, 3) := by decide +kernel
theorem d_Mo_touches_12 : decode b_Mo_touches 12 = .ok (.ifCond .ne 7, 3) := by decide +kernel
theorem d_Mo_touches_15 : decode b_Mo_touches 15 = .ok (.iconst 1, 1) := by decide +kernel
theorem d_Mo_touches_16 : decode b_Mo_touches 16 = .ok (.goto 4, 3) := by decide +kernel
theorem d_Mo_touches_19 : decode b_Mo_touches 19 = .ok (.iconst 0, 1) := by decide +kernel
theorem d_Mo_touches_20 : decode b_Mo_touches 20 = .ok (.iconst 0, 1) := by decide +kernel
theorem d_Mo_touches_21 : decode b_Mo_touches 21 = .ok (.iconst 0, 1) := by decide +kernel
theorem d_Mo_touches_22 : decode b_Mo_touches 22 = .ok (.invokevirtual 104, 3) := by decide +kernel
theorem d_Mo_touches_25 : decode b_Mo_touches 25 = .ok (.ifCond .eq 5, 3) := by decide +kernel
theorem d_Mo_touches_28 : decode b_Mo_touches 28 = .ok (.iconst 0, 1) := by decide +kernel
theorem d_Mo_touches_29 : decode b_Mo_touches 29 = .ok (.ireturn, 1) := by decide +kernel
theorem d_Mo_touches_30 : decode b_Mo_touches 30 = .ok (.aload_n 0, 1) := by decide +kernel
theorem d_Mo_touches_31 : decode b_Mo_touches 31 = .ok (.getfield 88, 3) := by decide +kernel
theorem d_Mo_touches_34 : decode b_Mo_touches 34 = .ok (.iload_n 1, 1) := by decide +kernel
theorem d_Mo_touches_35 : decode b_Mo_touches 35 = .ok (.iaload, 1) := by decide +kernel
theorem d_Mo_touches_36 : decode b_Mo_touches 36 = .ok (.iconst 1, 1) := by decide +kernel
theorem d_Mo_touches_37 : decode b_Mo_touches 37 = .ok (.isub, 1) := by decide +kernel
theorem d_Mo_touches_38 : decode b_Mo_touches 38 = .ok (.sipush 1440, 3) := by decide +kernel
theorem d_Mo_touches_41 : decode b_Mo_touches 41 = .ok (.idiv, 1) := by decide +kernel
theorem d_Mo_touches_42 : decode b_Mo_touches 42 = .ok (.aload_n 0, 1) := by decide +kernel
theorem d_Mo_touches_43 : decode b_Mo_touches 43 = .ok (.getfield 85, 3) := by decide +kernel
theorem d_Mo_touches_46 : decode b_Mo_touches 46 = .ok (.iload_n 1, 1) := by decide +kernel
theorem d_Mo_touches_47 : decode b_Mo_touches 47 = .ok (.iaload, 1) := by decide +kernel
theorem d_Mo_touches_48 : decode b_Mo_touches 48 = .ok (.sipush 1440, 3) := by decide +kernel
theorem d_Mo_touches_51 : decode b_Mo_touches 51 = .ok (.idiv, 1) := by decide +kernel
theorem d_Mo_touches_52 : decode b_Mo_touches 52 = .ok (.isub, 1) := by decide +kernel
theorem d_Mo_touches_53 : decode b_Mo_touches 53 = .ok (.iconst 1, 1) := by decide +kernel
theorem d_Mo_touches_54 : decode b_Mo_touches 54 = .ok (.iadd, 1) := by decide +kernel
theorem d_Mo_touches_55 : decode b_Mo_touches 55 = .ok (.ireturn, 1) := by decide +kernel
set_option maxHeartbeats 4000000 in
set_option maxRecDepth 100000 in
theorem c_Mo_touches (l : Launch) (dC : Nat → ClassId) (dI : Nat → Nat → Nat) (L : Nat → Nat) (cA : Nat → ClassId) (ar : Nat → Nat → Int32) (sc : Nat → Int32) (a0 : Int32) (hL : ij 25 L) (h : p_Mo_touches ar sc a0) : Met l y_Mo_touches z_Mo_touches (rmD 5) (va_Pc [.ref (L 0), .int a0] (fun U => xw_M dC dI L cA ar sc U)) (va_Qi (fun (r : Int32) (u : oS) => (r, u.1, u.2) = f_Mo_touches ar sc a0) (fun u t => va_P (dC, dI) classes (wM L cA u.1 u.2) t.heap) (aM L)) 0 0 (aM L) := by
  refine Met.ofW (cc := b_Mo_touches) (maxL := 2) (ret := (some .int)) (by decide) rfl ?_
  intro p e s m args below meth c s₁ B hml hv
  obtain ⟨rfl, ⟨hP, hK⟩⟩ := hv
  have hx := B.exec
  have hb := B.bytes
  have hr := B.returns
  have hts : ∀ w ∈ w_all, w.before _ s = true := fun w hw => atoms_spec (ws := z_Mo_touches) B.pre w (List.mem_cons_of_mem _ hw)
  have hown : s.vm.findClass R_Mo = some m.cls := findClass_of_methodNamed B.named
  have hlocks := B.notSynchronized
  have hF : CallFix p m c b_Mo_touches 2 s _ w_all R_Mo := ⟨hx, hb, hml, hown, hts⟩
  have hS : va_S (aM L) s.heap s.heap [] := va_S.rf
  have hl := lv_entry ([.ref (L 0), .int a0]) (n := 2) (Nat.le_of_ble_eq_true rfl)
  rw [lg_entry_eq]
  generalize (lg_sl ([.ref (L 0), .int a0]) ++ List.replicate (2 - (lg_sl ([.ref (L 0), .int a0])).length) Slot.unset).toArray = ls at hl ⊢
  have hl : lv_has ls 2 [(0, .ref (L 0)), (1, .int a0)] := hl
  unfold p_Mo_touches at h
  refine lv_aload_n hx hb d_Mo_touches_0 rfl (lv_at hl 0 rfl) ?_
  refine lv_iload_n hx hb d_Mo_touches_1 rfl (lv_at hl 1 rfl) ?_
  refine lv_iconst (v := 0) hx hb d_Mo_touches_2 (by decide) ?_
  refine lv_aload_n hx hb d_Mo_touches_3 rfl (lv_at hl 0 rfl) ?_
  refine gf_Mo_permits hF hK hP m_274 d_Mo_touches_4 ?_
  refine lv_iconst (v := 1) hx hb d_Mo_touches_7 (by decide) ?_
  refine lv_isub hx hb d_Mo_touches_8 ?_
  refine r_Mo_in hF m_195 hl.1 ⟨Nat.le_of_ble_eq_true rfl, Nat.le_of_ble_eq_true rfl⟩ ⟨Nat.zero_le _, Nat.zero_le _⟩ (Nat.le_of_ble_eq_true rfl) d_Mo_touches_9 ?_
  refine lv_if_ne (tgt := 19) hx hb d_Mo_touches_12 (by decide) (fun c12 => ?_) (fun c12 => ?_)
  · have h := h.2 c12
    refine lv_iconst (v := 0) hx hb d_Mo_touches_19 (by decide) ?_
    refine lv_iconst (v := 0) hx hb d_Mo_touches_20 (by decide) ?_
    refine lv_iconst (v := 0) hx hb d_Mo_touches_21 (by decide) ?_
    refine r_Mo_throwing hF hK hP hL hS m_283 hl.1 ⟨Nat.le_of_ble_eq_true rfl, Nat.le_of_ble_eq_true rfl⟩ ⟨Nat.zero_le _, Nat.zero_le _⟩ (Nat.le_of_ble_eq_true rfl) d_Mo_touches_22 (fun H locs hP hS => ?_)
    refine lv_if_eq (tgt := 30) hx hb d_Mo_touches_25 (by decide) (fun c25 => ?_) (fun c25 => ?_)
    · have h := h.1 c25
      refine lv_aload_n hx hb d_Mo_touches_30 rfl (lv_at hl 0 rfl) ?_
      refine gf_Mo_to hF hK hP m_276 d_Mo_touches_31 ?_
      refine lv_iload_n hx hb d_Mo_touches_34 rfl (lv_at hl 1 rfl) ?_
      have k35 := h.1
      have h := h.2
      refine alM_24 hF hK hP k35 d_Mo_touches_35 ?_
      refine lv_iconst (v := 1) hx hb d_Mo_touches_36 (by decide) ?_
      refine lv_isub hx hb d_Mo_touches_37 ?_
      refine lv_sipush (v := 1440) hx hb d_Mo_touches_38 (by decide) ?_
      refine lv_idiv hx hb d_Mo_touches_41 (by decide) ?_
      refine lv_aload_n hx hb d_Mo_touches_42 rfl (lv_at hl 0 rfl) ?_
      refine gf_Mo_from hF hK hP m_275 d_Mo_touches_43 ?_
      refine lv_iload_n hx hb d_Mo_touches_46 rfl (lv_at hl 1 rfl) ?_
      have k47 := h
      refine alM_23 hF hK hP k47 d_Mo_touches_47 ?_
      refine lv_sipush (v := 1440) hx hb d_Mo_touches_48 (by decide) ?_
      refine lv_idiv hx hb d_Mo_touches_51 (by decide) ?_
      refine lv_isub hx hb d_Mo_touches_52 ?_
      refine lv_iconst (v := 1) hx hb d_Mo_touches_53 (by decide) ?_
      refine lv_iadd hx hb d_Mo_touches_54 ?_
      have hv : ((((((((f_Mo_throwing ar sc 0 0 0).2.1) 24 a0.toNatClampNeg) - 1) / 1440) - ((((f_Mo_throwing ar sc 0 0 0).2.1) 23 a0.toNatClampNeg) / 1440)) + 1, (f_Mo_throwing ar sc 0 0 0).2.1, (f_Mo_throwing ar sc 0 0 0).2.2) : Int32 × (Nat → Nat → Int32) × (Nat → Int32)) = f_Mo_touches ar sc a0 := by rw [f_Mo_touches, if_neg c12, if_pos c25]
      exact W.iret (v := ((((((f_Mo_throwing ar sc 0 0 0).2.1) 24 a0.toNatClampNeg) - 1) / 1440) - ((((f_Mo_throwing ar sc 0 0 0).2.1) 23 a0.toNatClampNeg) / 1440)) + 1) hx hb hr (fun t ht hW => ⟨⟨((((((f_Mo_throwing ar sc 0 0 0).2.1) 24 a0.toNatClampNeg) - 1) / 1440) - ((((f_Mo_throwing ar sc 0 0 0).2.1) 23 a0.toNatClampNeg) / 1440)) + 1, ((f_Mo_throwing ar sc 0 0 0).2.1, (f_Mo_throwing ar sc 0 0 0).2.2), rfl, hv, by dsimp only; rw [ht]; exact hP⟩, hS.F ht⟩) hS.2.2 d_Mo_touches_55
    · have h := h.2 c25
      refine lv_iconst (v := 0) hx hb d_Mo_touches_28 (by decide) ?_
      have hv : ((0, (f_Mo_throwing ar sc 0 0 0).2.1, (f_Mo_throwing ar sc 0 0 0).2.2) : Int32 × (Nat → Nat → Int32) × (Nat → Int32)) = f_Mo_touches ar sc a0 := by rw [f_Mo_touches, if_neg c12, if_neg c25]
      exact W.iret (v := 0) hx hb hr (fun t ht hW => ⟨⟨0, ((f_Mo_throwing ar sc 0 0 0).2.1, (f_Mo_throwing ar sc 0 0 0).2.2), rfl, hv, by dsimp only; rw [ht]; exact hP⟩, hS.F ht⟩) hS.2.2 d_Mo_touches_29
  · have h := h.1 c12
    refine lv_iconst (v := 1) hx hb d_Mo_touches_15 (by decide) ?_
    refine lv_goto (tgt := 20) hx hb d_Mo_touches_16 (by decide) ?_
    refine lv_iconst (v := 0) hx hb d_Mo_touches_20 (by decide) ?_
    refine lv_iconst (v := 0) hx hb d_Mo_touches_21 (by decide) ?_
    refine r_Mo_throwing hF hK hP hL hS m_283 hl.1 ⟨Nat.le_of_ble_eq_true rfl, Nat.le_of_ble_eq_true rfl⟩ ⟨Nat.zero_le _, Nat.zero_le _⟩ (Nat.le_of_ble_eq_true rfl) d_Mo_touches_22 (fun H locs hP hS => ?_)
    refine lv_if_eq (tgt := 30) hx hb d_Mo_touches_25 (by decide) (fun c25 => ?_) (fun c25 => ?_)
    · have h := h.1 c25
      refine lv_aload_n hx hb d_Mo_touches_30 rfl (lv_at hl 0 rfl) ?_
      refine gf_Mo_to hF hK hP m_276 d_Mo_touches_31 ?_
      refine lv_iload_n hx hb d_Mo_touches_34 rfl (lv_at hl 1 rfl) ?_
      have k35 := h.1
      have h := h.2
      refine alM_24 hF hK hP k35 d_Mo_touches_35 ?_
      refine lv_iconst (v := 1) hx hb d_Mo_touches_36 (by decide) ?_
      refine lv_isub hx hb d_Mo_touches_37 ?_
      refine lv_sipush (v := 1440) hx hb d_Mo_touches_38 (by decide) ?_
      refine lv_idiv hx hb d_Mo_touches_41 (by decide) ?_
      refine lv_aload_n hx hb d_Mo_touches_42 rfl (lv_at hl 0 rfl) ?_
      refine gf_Mo_from hF hK hP m_275 d_Mo_touches_43 ?_
      refine lv_iload_n hx hb d_Mo_touches_46 rfl (lv_at hl 1 rfl) ?_
      have k47 := h
      refine alM_23 hF hK hP k47 d_Mo_touches_47 ?_
      refine lv_sipush (v := 1440) hx hb d_Mo_touches_48 (by decide) ?_
      refine lv_idiv hx hb d_Mo_touches_51 (by decide) ?_
      refine lv_isub hx hb d_Mo_touches_52 ?_
      refine lv_iconst (v := 1) hx hb d_Mo_touches_53 (by decide) ?_
      refine lv_iadd hx hb d_Mo_touches_54 ?_
      have hv : ((((((((f_Mo_throwing ar sc 1 0 0).2.1) 24 a0.toNatClampNeg) - 1) / 1440) - ((((f_Mo_throwing ar sc 1 0 0).2.1) 23 a0.toNatClampNeg) / 1440)) + 1, (f_Mo_throwing ar sc 1 0 0).2.1, (f_Mo_throwing ar sc 1 0 0).2.2) : Int32 × (Nat → Nat → Int32) × (Nat → Int32)) = f_Mo_touches ar sc a0 := by rw [f_Mo_touches, if_pos c12, if_pos c25]
      exact W.iret (v := ((((((f_Mo_throwing ar sc 1 0 0).2.1) 24 a0.toNatClampNeg) - 1) / 1440) - ((((f_Mo_throwing ar sc 1 0 0).2.1) 23 a0.toNatClampNeg) / 1440)) + 1) hx hb hr (fun t ht hW => ⟨⟨((((((f_Mo_throwing ar sc 1 0 0).2.1) 24 a0.toNatClampNeg) - 1) / 1440) - ((((f_Mo_throwing ar sc 1 0 0).2.1) 23 a0.toNatClampNeg) / 1440)) + 1, ((f_Mo_throwing ar sc 1 0 0).2.1, (f_Mo_throwing ar sc 1 0 0).2.2), rfl, hv, by dsimp only; rw [ht]; exact hP⟩, hS.F ht⟩) hS.2.2 d_Mo_touches_55
    · have h := h.2 c25
      refine lv_iconst (v := 0) hx hb d_Mo_touches_28 (by decide) ?_
      have hv : ((0, (f_Mo_throwing ar sc 1 0 0).2.1, (f_Mo_throwing ar sc 1 0 0).2.2) : Int32 × (Nat → Nat → Int32) × (Nat → Int32)) = f_Mo_touches ar sc a0 := by rw [f_Mo_touches, if_pos c12, if_neg c25]
      exact W.iret (v := 0) hx hb hr (fun t ht hW => ⟨⟨0, ((f_Mo_throwing ar sc 1 0 0).2.1, (f_Mo_throwing ar sc 1 0 0).2.2), rfl, hv, by dsimp only; rw [ht]; exact hP⟩, hS.F ht⟩) hS.2.2 d_Mo_touches_29
set_option maxHeartbeats 1000000 in
theorem r_Mo_touches {p : Program} {l : Launch} {e : Env} {R : Room} {s : State} {m : MethodId} {args : Array Value} {below : List Frame} {meth : Method} {c : Code} {H : Heap} {locs : List Loc} {cells slots : Nat} {Q : State → Prop} {cc : ByteArray} {nL pc idx : Nat} {ls : Array Slot} {rest : List Value} {own : String} {dC : Nat → ClassId} {dI : Nat → Nat → Nat} {L : Nat → Nat} {cA : Nat → ClassId} {ar : Nat → Nat → Int32} {sc : Nat → Int32} {H0 : Heap} {a0 : Int32} (hF : CallFix p m c cc nL s args w_all own) (hK : kW_M dC dI cA s) (hP : va_P (dC, dI) classes (wM L cA ar sc) H) (hL : ij 25 L) (hS : va_S (aM L) H0 H locs) (h : p_Mo_touches ar sc a0) (hlk : Cond.methodLink own idx y_Mo_touches ∈ w_all) (hsz : ls.size = nL) (hR : (rmD 5).frames + 1 ≤ R.frames ∧ 8 + (2 + 11) + (rmD 5).locals ≤ R.locals) (hc : cells ≤ R.cells ∧ slots ≤ R.slots) (hrs : (rest.map fun v => v.category).sum ≤ 8) (hdg : decode cc pc = .ok (.invokevirtual idx, 3)) (kk : ∀ (H1 : Heap) (locs1 : List Loc), va_P (dC, dI) classes (wM L cA ((f_Mo_touches ar sc a0).2.1) ((f_Mo_touches ar sc a0).2.2)) H1 → va_S (aM L) H0 H1 locs1 → W p l e R s m args below meth c H1 locs1 cells slots Q (F0 m (pc + 3) ls (.int (f_Mo_touches ar sc a0).1 :: rest))) : W p l e R s m args below meth c H locs cells slots Q (F0 m pc ls (.int a0 :: .ref (L 0) :: rest)) :=
  va_calli (va_runV (As := [.int a0]) (rest := rest) hF (c_Mo_touches l dC dI L cA ar sc a0 hL h) (cwV 1 hF.2.2.2.2 (gV hlk m_357 m_358 m_187 m_359) rfl rfl rfl (by decide +kernel) hR) ⟨xb_M, va_recv hK.1 hP (ci := 7) (q0 := 0) rfl rfl, fun U hU hW => ⟨rfl, by rw [hU]; exact hP, kW_M_warm hW hK⟩⟩ rfl rfl hsz rfl (lv_room hrs) hdg hc) hS (fun q _ h9 => h9) (fun q h9 => h9) (fun r u t H1 locs1 ht hvm hw hB hz1 hk1 hS1 => by
    have hk9 := kk H1 locs1 (by rw [← hw, ← ht]; exact hB) hS1
    rw [← hw] at hk9
    exact hk9)
theorem d_Mo_surprise_0 : decode b_Mo_surprise 0 = .ok (.aload_n 0, 1) := by decide +kernel
theorem d_Mo_surprise_1 : decode b_Mo_surprise 1 = .ok (.aload_n 0, 1) := by decide +kernel
theorem d_Mo_surprise_2 : decode b_Mo_surprise 2 = .ok (.getfield 97, 3) := by decide +kernel
theorem d_Mo_surprise_5 : decode b_Mo_surprise 5 = .ok (.ifCond .ne 7, 3) := by decide +kernel
theorem d_Mo_surprise_8 : decode b_Mo_surprise 8 = .ok (.iconst 1, 1) := by decide +kernel
theorem d_Mo_surprise_9 : decode b_Mo_surprise 9 = .ok (.goto 4, 3) := by decide +kernel
theorem d_Mo_surprise_12 : decode b_Mo_surprise 12 = .ok (.iconst 0, 1) := by decide +kernel
theorem d_Mo_surprise_13 : decode b_Mo_surprise 13 = .ok (.iconst 0, 1) := by decide +kernel
theorem d_Mo_surprise_14 : decode b_Mo_surprise 14 = .ok (.iconst 0, 1) := by decide +kernel
theorem d_Mo_surprise_15 : decode b_Mo_surprise 15 = .ok (.invokevirtual 104, 3) := by decide +kernel
theorem d_Mo_surprise_18 : decode b_Mo_surprise 18 = .ok (.ifCond .eq 5, 3) := by decide +kernel
theorem d_Mo_surprise_21 : decode b_Mo_surprise 21 = .ok (.iconst 0, 1) := by decide +kernel
theorem d_Mo_surprise_22 : decode b_Mo_surprise 22 = .ok (.ireturn, 1) := by decide +kernel
theorem d_Mo_surprise_23 : decode b_Mo_surprise 23 = .ok (.iload_n 1, 1) := by decide +kernel
theorem d_Mo_surprise_24 : decode b_Mo_surprise 24 = .ok (.ldc 192, 2) := by decide +kernel
theorem d_Mo_surprise_26 : decode b_Mo_surprise 26 = .ok (.imul, 1) := by decide +kernel
theorem d_Mo_surprise_27 : decode b_Mo_surprise 27 = .ok (.sipush 12345, 3) := by decide +kernel
theorem d_Mo_surprise_30 : decode b_Mo_surprise 30 = .ok (.iadd, 1) := by decide +kernel
theorem d_Mo_surprise_31 : decode b_Mo_surprise 31 = .ok (.istore_n 2, 1) := by decide +kernel
theorem d_Mo_surprise_32 : decode b_Mo_surprise 32 = .ok (.iload_n 2, 1) := by decide +kernel
theorem d_Mo_surprise_33 : decode b_Mo_surprise 33 = .ok (.bipush 8, 2) := by decide +kernel
theorem d_Mo_surprise_35 : decode b_Mo_surprise 35 = .ok (.iushr, 1) := by decide +kernel
theorem d_Mo_surprise_36 : decode b_Mo_surprise 36 = .ok (.aload_n 0, 1) := by decide +kernel
theorem d_Mo_surprise_37 : decode b_Mo_surprise 37 = .ok (.getfield 97, 3) := by decide +kernel
theorem d_Mo_surprise_40 : decode b_Mo_surprise 40 = .ok (.irem, 1) := by decide +kernel
theorem d_Mo_surprise_41 : decode b_Mo_surprise 41 = .ok (.ireturn, 1) := by decide +kernel
set_option maxHeartbeats 4000000 in
set_option maxRecDepth 100000 in
theorem c_Mo_surprise (l : Launch) (dC : Nat → ClassId) (dI : Nat → Nat → Nat) (L : Nat → Nat) (cA : Nat → ClassId) (ar : Nat → Nat → Int32) (sc : Nat → Int32) (a0 : Int32) (hL : ij 25 L) (h : p_Mo_surprise ar sc a0) : Met l y_Mo_surprise z_Mo_surprise (rmD 5) (va_Pc [.ref (L 0), .int a0] (fun U => xw_M dC dI L cA ar sc U)) (va_Qi (fun (r : Int32) (u : oS) => (r, u.1, u.2) = f_Mo_surprise ar sc a0) (fun u t => va_P (dC, dI) classes (wM L cA u.1 u.2) t.heap) (aM L)) 0 0 (aM L) := by
  refine Met.ofW (cc := b_Mo_surprise) (maxL := 3) (ret := (some .int)) (by decide) rfl ?_
  intro p e s m args below meth c s₁ B hml hv
  obtain ⟨rfl, ⟨hP, hK⟩⟩ := hv
  have hx := B.exec
  have hb := B.bytes
  have hr := B.returns
  have hts : ∀ w ∈ w_all, w.before _ s = true := fun w hw => atoms_spec (ws := z_Mo_surprise) B.pre w (List.mem_cons_of_mem _ hw)
  have hown : s.vm.findClass R_Mo = some m.cls := findClass_of_methodNamed B.named
  have hlocks := B.notSynchronized
  have hF : CallFix p m c b_Mo_surprise 3 s _ w_all R_Mo := ⟨hx, hb, hml, hown, hts⟩
  have hS : va_S (aM L) s.heap s.heap [] := va_S.rf
  have hl := lv_entry ([.ref (L 0), .int a0]) (n := 3) (Nat.le_of_ble_eq_true rfl)
  rw [lg_entry_eq]
  generalize (lg_sl ([.ref (L 0), .int a0]) ++ List.replicate (3 - (lg_sl ([.ref (L 0), .int a0])).length) Slot.unset).toArray = ls at hl ⊢
  have hl : lv_has ls 3 [(0, .ref (L 0)), (1, .int a0)] := hl
  unfold p_Mo_surprise at h
  refine lv_aload_n hx hb d_Mo_surprise_0 rfl (lv_at hl 0 rfl) ?_
  refine lv_aload_n hx hb d_Mo_surprise_1 rfl (lv_at hl 0 rfl) ?_
  refine gf_Mo_points hF hK hP m_194 d_Mo_surprise_2 ?_
  refine lv_if_ne (tgt := 12) hx hb d_Mo_surprise_5 (by decide) (fun c5 => ?_) (fun c5 => ?_)
  · have h := h.2 c5
    refine lv_iconst (v := 0) hx hb d_Mo_surprise_12 (by decide) ?_
    refine lv_iconst (v := 0) hx hb d_Mo_surprise_13 (by decide) ?_
    refine lv_iconst (v := 0) hx hb d_Mo_surprise_14 (by decide) ?_
    refine r_Mo_throwing hF hK hP hL hS m_283 hl.1 ⟨Nat.le_of_ble_eq_true rfl, Nat.le_of_ble_eq_true rfl⟩ ⟨Nat.zero_le _, Nat.zero_le _⟩ (Nat.le_of_ble_eq_true rfl) d_Mo_surprise_15 (fun H locs hP hS => ?_)
    refine lv_if_eq (tgt := 23) hx hb d_Mo_surprise_18 (by decide) (fun c18 => ?_) (fun c18 => ?_)
    · have h := h.1 c18
      refine lv_iload_n hx hb d_Mo_surprise_23 rfl (lv_at hl 1 rfl) ?_
      refine lv_ldc (v := 1103515245) hx hb hown (hts _ m_360) d_Mo_surprise_24 ?_
      refine lv_imul hx hb d_Mo_surprise_26 ?_
      refine lv_sipush (v := 12345) hx hb d_Mo_surprise_27 (by decide) ?_
      refine lv_iadd hx hb d_Mo_surprise_30 ?_
      refine lv_istore_n (lv' := [(2, .int ((a0 * 1103515245) + 12345)), (0, .ref (L 0)), (1, .int a0)]) hx hb d_Mo_surprise_31 rfl hl (by decide) rfl (fun ls hl => ?_)
      refine lv_iload_n hx hb d_Mo_surprise_32 rfl (lv_at hl 0 rfl) ?_
      refine lv_bipush (v := 8) hx hb d_Mo_surprise_33 (by decide) ?_
      refine lv_iushr hx hb d_Mo_surprise_35 rfl ?_
      refine lv_aload_n hx hb d_Mo_surprise_36 rfl (lv_at hl 1 rfl) ?_
      refine gf_Mo_points hF hK hP m_194 d_Mo_surprise_37 ?_
      have k40 := h
      refine lv_irem hx hb d_Mo_surprise_40 k40 ?_
      have hv : ((((((a0 * 1103515245) + 12345).toUInt32 >>> ((8 : Int32).toUInt32 &&& Int32.toUInt32 31)).toInt32) - ((((a0 * 1103515245) + 12345).toUInt32 >>> ((8 : Int32).toUInt32 &&& Int32.toUInt32 31)).toInt32) / (((f_Mo_throwing ar sc 0 0 0).2.2) 2) * (((f_Mo_throwing ar sc 0 0 0).2.2) 2), (f_Mo_throwing ar sc 0 0 0).2.1, (f_Mo_throwing ar sc 0 0 0).2.2) : Int32 × (Nat → Nat → Int32) × (Nat → Int32)) = f_Mo_surprise ar sc a0 := by rw [f_Mo_surprise, if_neg c5, if_pos c18]
      exact W.iret (v := ((((a0 * 1103515245) + 12345).toUInt32 >>> ((8 : Int32).toUInt32 &&& Int32.toUInt32 31)).toInt32) - ((((a0 * 1103515245) + 12345).toUInt32 >>> ((8 : Int32).toUInt32 &&& Int32.toUInt32 31)).toInt32) / (((f_Mo_throwing ar sc 0 0 0).2.2) 2) * (((f_Mo_throwing ar sc 0 0 0).2.2) 2)) hx hb hr (fun t ht hW => ⟨⟨((((a0 * 1103515245) + 12345).toUInt32 >>> ((8 : Int32).toUInt32 &&& Int32.toUInt32 31)).toInt32) - ((((a0 * 1103515245) + 12345).toUInt32 >>> ((8 : Int32).toUInt32 &&& Int32.toUInt32 31)).toInt32) / (((f_Mo_throwing ar sc 0 0 0).2.2) 2) * (((f_Mo_throwing ar sc 0 0 0).2.2) 2), ((f_Mo_throwing ar sc 0 0 0).2.1, (f_Mo_throwing ar sc 0 0 0).2.2), rfl, hv, by dsimp only; rw [ht]; exact hP⟩, hS.F ht⟩) hS.2.2 d_Mo_surprise_41
    · have h := h.2 c18
      refine lv_iconst (v := 0) hx hb d_Mo_surprise_21 (by decide) ?_
      have hv : ((0, (f_Mo_throwing ar sc 0 0 0).2.1, (f_Mo_throwing ar sc 0 0 0).2.2) : Int32 × (Nat → Nat → Int32) × (Nat → Int32)) = f_Mo_surprise ar sc a0 := by rw [f_Mo_surprise, if_neg c5, if_neg c18]
      exact W.iret (v := 0) hx hb hr (fun t ht hW => ⟨⟨0, ((f_Mo_throwing ar sc 0 0 0).2.1, (f_Mo_throwing ar sc 0 0 0).2.2), rfl, hv, by dsimp only; rw [ht]; exact hP⟩, hS.F ht⟩) hS.2.2 d_Mo_surprise_22
  · have h := h.1 c5
    refine lv_iconst (v := 1) hx hb d_Mo_surprise_8 (by decide) ?_
    refine lv_goto (tgt := 13) hx hb d_Mo_surprise_9 (by decide) ?_
    refine lv_iconst (v := 0) hx hb d_Mo_surprise_13 (by decide) ?_
    refine lv_iconst (v := 0) hx hb d_Mo_surprise_14 (by decide) ?_
    refine r_Mo_throwing hF hK hP hL hS m_283 hl.1 ⟨Nat.le_of_ble_eq_true rfl, Nat.le_of_ble_eq_true rfl⟩ ⟨Nat.zero_le _, Nat.zero_le _⟩ (Nat.le_of_ble_eq_true rfl) d_Mo_surprise_15 (fun H locs hP hS => ?_)
    refine lv_if_eq (tgt := 23) hx hb d_Mo_surprise_18 (by decide) (fun c18 => ?_) (fun c18 => ?_)
    · have h := h.1 c18
      refine lv_iload_n hx hb d_Mo_surprise_23 rfl (lv_at hl 1 rfl) ?_
      refine lv_ldc (v := 1103515245) hx hb hown (hts _ m_360) d_Mo_surprise_24 ?_
      refine lv_imul hx hb d_Mo_surprise_26 ?_
      refine lv_sipush (v := 12345) hx hb d_Mo_surprise_27 (by decide) ?_
      refine lv_iadd hx hb d_Mo_surprise_30 ?_
      refine lv_istore_n (lv' := [(2, .int ((a0 * 1103515245) + 12345)), (0, .ref (L 0)), (1, .int a0)]) hx hb d_Mo_surprise_31 rfl hl (by decide) rfl (fun ls hl => ?_)
      refine lv_iload_n hx hb d_Mo_surprise_32 rfl (lv_at hl 0 rfl) ?_
      refine lv_bipush (v := 8) hx hb d_Mo_surprise_33 (by decide) ?_
      refine lv_iushr hx hb d_Mo_surprise_35 rfl ?_
      refine lv_aload_n hx hb d_Mo_surprise_36 rfl (lv_at hl 1 rfl) ?_
      refine gf_Mo_points hF hK hP m_194 d_Mo_surprise_37 ?_
      have k40 := h
      refine lv_irem hx hb d_Mo_surprise_40 k40 ?_
      have hv : ((((((a0 * 1103515245) + 12345).toUInt32 >>> ((8 : Int32).toUInt32 &&& Int32.toUInt32 31)).toInt32) - ((((a0 * 1103515245) + 12345).toUInt32 >>> ((8 : Int32).toUInt32 &&& Int32.toUInt32 31)).toInt32) / (((f_Mo_throwing ar sc 1 0 0).2.2) 2) * (((f_Mo_throwing ar sc 1 0 0).2.2) 2), (f_Mo_throwing ar sc 1 0 0).2.1, (f_Mo_throwing ar sc 1 0 0).2.2) : Int32 × (Nat → Nat → Int32) × (Nat → Int32)) = f_Mo_surprise ar sc a0 := by rw [f_Mo_surprise, if_pos c5, if_pos c18]
      exact W.iret (v := ((((a0 * 1103515245) + 12345).toUInt32 >>> ((8 : Int32).toUInt32 &&& Int32.toUInt32 31)).toInt32) - ((((a0 * 1103515245) + 12345).toUInt32 >>> ((8 : Int32).toUInt32 &&& Int32.toUInt32 31)).toInt32) / (((f_Mo_throwing ar sc 1 0 0).2.2) 2) * (((f_Mo_throwing ar sc 1 0 0).2.2) 2)) hx hb hr (fun t ht hW => ⟨⟨((((a0 * 1103515245) + 12345).toUInt32 >>> ((8 : Int32).toUInt32 &&& Int32.toUInt32 31)).toInt32) - ((((a0 * 1103515245) + 12345).toUInt32 >>> ((8 : Int32).toUInt32 &&& Int32.toUInt32 31)).toInt32) / (((f_Mo_throwing ar sc 1 0 0).2.2) 2) * (((f_Mo_throwing ar sc 1 0 0).2.2) 2), ((f_Mo_throwing ar sc 1 0 0).2.1, (f_Mo_throwing ar sc 1 0 0).2.2), rfl, hv, by dsimp only; rw [ht]; exact hP⟩, hS.F ht⟩) hS.2.2 d_Mo_surprise_41
    · have h := h.2 c18
      refine lv_iconst (v := 0) hx hb d_Mo_surprise_21 (by decide) ?_
      have hv : ((0, (f_Mo_throwing ar sc 1 0 0).2.1, (f_Mo_throwing ar sc 1 0 0).2.2) : Int32 × (Nat → Nat → Int32) × (Nat → Int32)) = f_Mo_surprise ar sc a0 := by rw [f_Mo_surprise, if_pos c5, if_neg c18]
      exact W.iret (v := 0) hx hb hr (fun t ht hW => ⟨⟨0, ((f_Mo_throwing ar sc 1 0 0).2.1, (f_Mo_throwing ar sc 1 0 0).2.2), rfl, hv, by dsimp only; rw [ht]; exact hP⟩, hS.F ht⟩) hS.2.2 d_Mo_surprise_22
set_option maxHeartbeats 1000000 in
theorem r_Mo_surprise {p : Program} {l : Launch} {e : Env} {R : Room} {s : State} {m : MethodId} {args : Array Value} {below : List Frame} {meth : Method} {c : Code} {H : Heap} {locs : List Loc} {cells slots : Nat} {Q : State → Prop} {cc : ByteArray} {nL pc idx : Nat} {ls : Array Slot} {rest : List Value} {own : String} {dC : Nat → ClassId} {dI : Nat → Nat → Nat} {L : Nat → Nat} {cA : Nat → ClassId} {ar : Nat → Nat → Int32} {sc : Nat → Int32} {H0 : Heap} {a0 : Int32} (hF : CallFix p m c cc nL s args w_all own) (hK : kW_M dC dI cA s) (hP : va_P (dC, dI) classes (wM L cA ar sc) H) (hL : ij 25 L) (hS : va_S (aM L) H0 H locs) (h : p_Mo_surprise ar sc a0) (hlk : Cond.methodLink own idx y_Mo_surprise ∈ w_all) (hsz : ls.size = nL) (hR : (rmD 5).frames + 1 ≤ R.frames ∧ 8 + (3 + 11) + (rmD 5).locals ≤ R.locals) (hc : cells ≤ R.cells ∧ slots ≤ R.slots) (hrs : (rest.map fun v => v.category).sum ≤ 8) (hdg : decode cc pc = .ok (.invokevirtual idx, 3)) (kk : ∀ (H1 : Heap) (locs1 : List Loc), va_P (dC, dI) classes (wM L cA ((f_Mo_surprise ar sc a0).2.1) ((f_Mo_surprise ar sc a0).2.2)) H1 → va_S (aM L) H0 H1 locs1 → W p l e R s m args below meth c H1 locs1 cells slots Q (F0 m (pc + 3) ls (.int (f_Mo_surprise ar sc a0).1 :: rest))) : W p l e R s m args below meth c H locs cells slots Q (F0 m pc ls (.int a0 :: .ref (L 0) :: rest)) :=
  va_calli (va_runV (As := [.int a0]) (rest := rest) hF (c_Mo_surprise l dC dI L cA ar sc a0 hL h) (cwV 1 hF.2.2.2.2 (gV hlk m_361 m_362 m_187 m_363) rfl rfl rfl (by decide +kernel) hR) ⟨xb_M, va_recv hK.1 hP (ci := 7) (q0 := 0) rfl rfl, fun U hU hW => ⟨rfl, by rw [hU]; exact hP, kW_M_warm hW hK⟩⟩ rfl rfl hsz rfl (lv_room hrs) hdg hc) hS (fun q _ h9 => h9) (fun q h9 => h9) (fun r u t H1 locs1 ht hvm hw hB hz1 hk1 hS1 => by
    have hk9 := kk H1 locs1 (by rw [← hw, ← ht]; exact hB) hS1
    rw [← hw] at hk9
    exact hk9)

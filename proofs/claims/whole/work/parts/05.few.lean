theorem m_23 : (Cond.fieldLink R_Points 27 "InspectRows$Points" "count" "I") ∈ w_all := List.mem_filter.mpr ⟨List.mem_of_getElem? (i := 96) (by decide +kernel), by decide +kernel⟩
theorem m_24 : (Cond.fieldLink R_Points 9 "InspectRows$Points" "kinds" "[I") ∈ w_all := List.mem_filter.mpr ⟨List.mem_of_getElem? (i := 86) (by decide +kernel), by decide +kernel⟩
theorem m_25 : (Cond.fieldLink R_Points 15 "InspectRows$Points" "ownRisks" "[I") ∈ w_all := List.mem_filter.mpr ⟨List.mem_of_getElem? (i := 88) (by decide +kernel), by decide +kernel⟩
theorem m_26 : (Cond.fieldLink R_Points 18 "InspectRows$Points" "xs" "[I") ∈ w_all := List.mem_filter.mpr ⟨List.mem_of_getElem? (i := 90) (by decide +kernel), by decide +kernel⟩
theorem m_27 : (Cond.fieldLink R_Points 21 "InspectRows$Points" "ys" "[I") ∈ w_all := List.mem_filter.mpr ⟨List.mem_of_getElem? (i := 92) (by decide +kernel), by decide +kernel⟩
theorem m_28 : (Cond.fieldLink R_Points 24 "InspectRows$Points" "visits" "[I") ∈ w_all := List.mem_filter.mpr ⟨List.mem_of_getElem? (i := 94) (by decide +kernel), by decide +kernel⟩
theorem m_29 : (Cond.instanceMethod y_Points_add) ∈ w_all := List.mem_filter.mpr ⟨List.mem_of_getElem? (i := 432) (by decide +kernel), by decide +kernel⟩
theorem m_30 : (Cond.selects R_Points y_Points_add y_Points_add) ∈ w_all := List.mem_filter.mpr ⟨List.mem_of_getElem? (i := 433) (by decide +kernel), by decide +kernel⟩
theorem m_31 : (Cond.initialized R_Points) ∈ w_all := List.mem_filter.mpr ⟨List.mem_of_getElem? (i := 34) (by decide +kernel), by decide +kernel⟩
theorem m_32 : (Cond.code y_Points_add b_Points_add 6 (some .int)) ∈ w_all := List.mem_filter.mpr ⟨List.mem_of_getElem? (i := 434) (by decide +kernel), by decide +kernel⟩
theorem m_33 : (Cond.fieldLink R_Scale 15 "InspectRows$Scale" "steps" "[I") ∈ w_all := List.mem_filter.mpr ⟨List.mem_of_getElem? (i := 64) (by decide +kernel), by decide +kernel⟩
theorem m_34 : (Cond.instanceMethod y_Scale_classFor) ∈ w_all := List.mem_filter.mpr ⟨List.mem_of_getElem? (i := 486) (by decide +kernel), by decide +kernel⟩
theorem m_35 : (Cond.selects R_Scale y_Scale_classFor y_Scale_classFor) ∈ w_all := List.mem_filter.mpr ⟨List.mem_of_getElem? (i := 487) (by decide +kernel), by decide +kernel⟩
theorem m_36 : (Cond.initialized R_Scale) ∈ w_all := List.mem_filter.mpr ⟨List.mem_of_getElem? (i := 33) (by decide +kernel), by decide +kernel⟩
theorem m_37 : (Cond.code y_Scale_classFor b_Scale_classFor 4 (some .int)) ∈ w_all := List.mem_filter.mpr ⟨List.mem_of_getElem? (i := 488) (by decide +kernel), by decide +kernel⟩
theorem m_38 : (Cond.fieldLink R_Questions 9 "InspectRows$Questions" "told" "[Z") ∈ w_all := List.mem_filter.mpr ⟨List.mem_of_getElem? (i := 143) (by decide +kernel), by decide +kernel⟩
theorem m_39 : (Cond.fieldLink R_Questions 15 "InspectRows$Questions" "afterYes" "[I") ∈ w_all := List.mem_filter.mpr ⟨List.mem_of_getElem? (i := 144) (by decide +kernel), by decide +kernel⟩
theorem m_40 : (Cond.fieldLink R_Questions 19 "InspectRows$Questions" "afterNo" "[I") ∈ w_all := List.mem_filter.mpr ⟨List.mem_of_getElem? (i := 145) (by decide +kernel), by decide +kernel⟩
theorem m_41 : (Cond.fieldLink R_Questions 22 "InspectRows$Questions" "weights" "[I") ∈ w_all := List.mem_filter.mpr ⟨List.mem_of_getElem? (i := 146) (by decide +kernel), by decide +kernel⟩
theorem m_42 : (Cond.instanceMethod y_Questions_tell) ∈ w_all := List.mem_filter.mpr ⟨List.mem_of_getElem? (i := 574) (by decide +kernel), by decide +kernel⟩
theorem m_43 : (Cond.selects R_Questions y_Questions_tell y_Questions_tell) ∈ w_all := List.mem_filter.mpr ⟨List.mem_of_getElem? (i := 575) (by decide +kernel), by decide +kernel⟩
theorem m_44 : (Cond.initialized R_Questions) ∈ w_all := List.mem_filter.mpr ⟨List.mem_of_getElem? (i := 36) (by decide +kernel), by decide +kernel⟩
theorem m_45 : (Cond.code y_Questions_tell b_Questions_tell 5 none) ∈ w_all := List.mem_filter.mpr ⟨List.mem_of_getElem? (i := 576) (by decide +kernel), by decide +kernel⟩
theorem m_46 : (Cond.fieldLink R_Questions 25 "InspectRows$Questions" "found" "[I") ∈ w_all := List.mem_filter.mpr ⟨List.mem_of_getElem? (i := 147) (by decide +kernel), by decide +kernel⟩
theorem m_47 : (Cond.fieldLink R_Questions 28 "InspectRows$Questions" "foundCount" "I") ∈ w_all := List.mem_filter.mpr ⟨List.mem_of_getElem? (i := 149) (by decide +kernel), by decide +kernel⟩
theorem m_48 : (Cond.instanceMethod y_Questions_answer) ∈ w_all := List.mem_filter.mpr ⟨List.mem_of_getElem? (i := 585) (by decide +kernel), by decide +kernel⟩
theorem m_49 : (Cond.selects R_Questions y_Questions_answer y_Questions_answer) ∈ w_all := List.mem_filter.mpr ⟨List.mem_of_getElem? (i := 586) (by decide +kernel), by decide +kernel⟩
theorem m_50 : (Cond.code y_Questions_answer b_Questions_answer 6 (some .boolean)) ∈ w_all := List.mem_filter.mpr ⟨List.mem_of_getElem? (i := 587) (by decide +kernel), by decide +kernel⟩
theorem d_Points_add_0 : decode b_Points_add 0 = .ok (.aload_n 0, 1) := by decide +kernel
theorem d_Points_add_1 : decode b_Points_add 1 = .ok (.getfield 27, 3) := by decide +kernel
theorem d_Points_add_4 : decode b_Points_add 4 = .ok (.istore 5, 2) := by decide +kernel
theorem d_Points_add_6 : decode b_Points_add 6 = .ok (.aload_n 0, 1) := by decide +kernel
theorem d_Points_add_7 : decode b_Points_add 7 = .ok (.getfield 9, 3) := by decide +kernel
theorem d_Points_add_10 : decode b_Points_add 10 = .ok (.iload 5, 2) := by decide +kernel
theorem d_Points_add_12 : decode b_Points_add 12 = .ok (.iload_n 1, 1) := by decide +kernel
theorem d_Points_add_13 : decode b_Points_add 13 = .ok (.iastore, 1) := by decide +kernel
theorem d_Points_add_14 : decode b_Points_add 14 = .ok (.aload_n 0, 1) := by decide +kernel
theorem d_Points_add_15 : decode b_Points_add 15 = .ok (.getfield 15, 3) := by decide +kernel
theorem d_Points_add_18 : decode b_Points_add 18 = .ok (.iload 5, 2) := by decide +kernel
theorem d_Points_add_20 : decode b_Points_add 20 = .ok (.iload_n 2, 1) := by decide +kernel
theorem d_Points_add_21 : decode b_Points_add 21 = .ok (.iastore, 1) := by decide +kernel
theorem d_Points_add_22 : decode b_Points_add 22 = .ok (.aload_n 0, 1) := by decide +kernel
theorem d_Points_add_23 : decode b_Points_add 23 = .ok (.getfield 18, 3) := by decide +kernel
theorem d_Points_add_26 : decode b_Points_add 26 = .ok (.iload 5, 2) := by decide +kernel
theorem d_Points_add_28 : decode b_Points_add 28 = .ok (.iload_n 3, 1) := by decide +kernel
theorem d_Points_add_29 : decode b_Points_add 29 = .ok (.iastore, 1) := by decide +kernel
theorem d_Points_add_30 : decode b_Points_add 30 = .ok (.aload_n 0, 1) := by decide +kernel
theorem d_Points_add_31 : decode b_Points_add 31 = .ok (.getfield 21, 3) := by decide +kernel
theorem d_Points_add_34 : decode b_Points_add 34 = .ok (.iload 5, 2) := by decide +kernel
theorem d_Points_add_36 : decode b_Points_add 36 = .ok (.iload 4, 2) := by decide +kernel
theorem d_Points_add_38 : decode b_Points_add 38 = .ok (.iastore, 1) := by decide +kernel
theorem d_Points_add_39 : decode b_Points_add 39 = .ok (.aload_n 0, 1) := by decide +kernel
theorem d_Points_add_40 : decode b_Points_add 40 = .ok (.getfield 24, 3) := by decide +kernel
theorem d_Points_add_43 : decode b_Points_add 43 = .ok (.iload 5, 2) := by decide +kernel
theorem d_Points_add_45 : decode b_Points_add 45 = .ok (.iconst (-1), 1) := by decide +kernel
theorem d_Points_add_46 : decode b_Points_add 46 = .ok (.iastore, 1) := by decide +kernel
theorem d_Points_add_47 : decode b_Points_add 47 = .ok (.aload_n 0, 1) := by decide +kernel
theorem d_Points_add_48 : decode b_Points_add 48 = .ok (.dup, 1) := by decide +kernel
theorem d_Points_add_49 : decode b_Points_add 49 = .ok (.getfield 27, 3) := by decide +kernel
theorem d_Points_add_52 : decode b_Points_add 52 = .ok (.iconst 1, 1) := by decide +kernel
theorem d_Points_add_53 : decode b_Points_add 53 = .ok (.iadd, 1) := by decide +kernel
theorem d_Points_add_54 : decode b_Points_add 54 = .ok (.putfield 27, 3) := by decide +kernel
theorem d_Points_add_57 : decode b_Points_add 57 = .ok (.iload 5, 2) := by decide +kernel
theorem d_Points_add_59 : decode b_Points_add 59 = .ok (.ireturn, 1) := by decide +kernel
set_option maxHeartbeats 4000000 in
set_option maxRecDepth 100000 in
theorem c_Points_add (l : Launch) (dC : Nat → ClassId) (dI : Nat → Nat → Nat) (L : Nat → Nat) (cA : Nat → ClassId) (ar : Nat → Nat → Int32) (sc : Nat → Int32) (a0 : Int32) (a1 : Int32) (a2 : Int32) (a3 : Int32) (hL : ij 38 L) (h : p_Points_add ar sc a0 a1 a2 a3) : Met l y_Points_add z_Points_add (rmD 0) (va_Pc [.ref (L 6), .int a0, .int a1, .int a2, .int a3] (fun U => xw_I dC dI L cA ar sc U)) (va_Qi (fun (r : Int32) (u : oS) => (r, u.1, u.2) = f_Points_add ar sc a0 a1 a2 a3) (fun u t => va_P (dC, dI) classes (wI L cA u.1 u.2) t.heap) (aI L)) 0 0 (aI L) := by
  refine Met.ofW (cc := b_Points_add) (maxL := 6) (ret := (some .int)) (by decide) rfl ?_
  intro p e s m args below meth c s₁ B hml hv
  obtain ⟨rfl, ⟨hP, hK⟩⟩ := hv
  have hx := B.exec
  have hb := B.bytes
  have hr := B.returns
  have hts : ∀ w ∈ w_all, w.before _ s = true := fun w hw => atoms_spec (ws := z_Points_add) B.pre w (List.mem_cons_of_mem _ hw)
  have hown : s.vm.findClass R_Points = some m.cls := findClass_of_methodNamed B.named
  have hlocks := B.notSynchronized
  have hF : CallFix p m c b_Points_add 6 s _ w_all R_Points := ⟨hx, hb, hml, hown, hts⟩
  have hS : va_S (aI L) s.heap s.heap [] := va_S.rf
  have hl := lv_entry ([.ref (L 6), .int a0, .int a1, .int a2, .int a3]) (n := 6) (Nat.le_of_ble_eq_true rfl)
  rw [lg_entry_eq]
  generalize (lg_sl ([.ref (L 6), .int a0, .int a1, .int a2, .int a3]) ++ List.replicate (6 - (lg_sl ([.ref (L 6), .int a0, .int a1, .int a2, .int a3])).length) Slot.unset).toArray = ls at hl ⊢
  have hl : lv_has ls 6 [(0, .ref (L 6)), (1, .int a0), (2, .int a1), (3, .int a2), (4, .int a3)] := hl
  unfold p_Points_add at h
  refine lv_aload_n hx hb d_Points_add_0 rfl (lv_at hl 0 rfl) ?_
  refine gf_Points_count hF hK hP m_23 d_Points_add_1 ?_
  refine lv_istore (lv' := [(5, .int (sc 1)), (0, .ref (L 6)), (1, .int a0), (2, .int a1), (3, .int a2), (4, .int a3)]) hx hb d_Points_add_4 hl (by decide) rfl (fun ls hl => ?_)
  refine lv_aload_n hx hb d_Points_add_6 rfl (lv_at hl 1 rfl) ?_
  refine gf_Points_kinds hF hK hP m_24 d_Points_add_7 ?_
  refine lv_iload hx hb d_Points_add_10 (lv_at hl 0 rfl) ?_
  refine lv_iload_n hx hb d_Points_add_12 rfl (lv_at hl 2 rfl) ?_
  have k13 := h.1
  have h := h.2
  refine asI_7 hF hK hP hL hS k13 d_Points_add_13 (fun H locs hP hS => ?_)
  refine lv_aload_n hx hb d_Points_add_14 rfl (lv_at hl 1 rfl) ?_
  refine gf_Points_ownRisks hF hK hP m_25 d_Points_add_15 ?_
  refine lv_iload hx hb d_Points_add_18 (lv_at hl 0 rfl) ?_
  refine lv_iload_n hx hb d_Points_add_20 rfl (lv_at hl 3 rfl) ?_
  have k21 := h.1
  have h := h.2
  refine asI_8 hF hK hP hL hS k21 d_Points_add_21 (fun H locs hP hS => ?_)
  refine lv_aload_n hx hb d_Points_add_22 rfl (lv_at hl 1 rfl) ?_
  refine gf_Points_xs hF hK hP m_26 d_Points_add_23 ?_
  refine lv_iload hx hb d_Points_add_26 (lv_at hl 0 rfl) ?_
  refine lv_iload_n hx hb d_Points_add_28 rfl (lv_at hl 4 rfl) ?_
  have k29 := h.1
  have h := h.2
  refine asI_9 hF hK hP hL hS k29 d_Points_add_29 (fun H locs hP hS => ?_)
  refine lv_aload_n hx hb d_Points_add_30 rfl (lv_at hl 1 rfl) ?_
  refine gf_Points_ys hF hK hP m_27 d_Points_add_31 ?_
  refine lv_iload hx hb d_Points_add_34 (lv_at hl 0 rfl) ?_
  refine lv_iload hx hb d_Points_add_36 (lv_at hl 5 rfl) ?_
  have k38 := h.1
  have h := h.2
  refine asI_10 hF hK hP hL hS k38 d_Points_add_38 (fun H locs hP hS => ?_)
  refine lv_aload_n hx hb d_Points_add_39 rfl (lv_at hl 1 rfl) ?_
  refine gf_Points_visits hF hK hP m_28 d_Points_add_40 ?_
  refine lv_iload hx hb d_Points_add_43 (lv_at hl 0 rfl) ?_
  refine lv_iconst (v := (-1)) hx hb d_Points_add_45 (by decide) ?_
  have k46 := h
  refine asI_11 hF hK hP hL hS k46 d_Points_add_46 (fun H locs hP hS => ?_)
  refine lv_aload_n hx hb d_Points_add_47 rfl (lv_at hl 1 rfl) ?_
  refine lv_dup hx hb d_Points_add_48 rfl ?_
  refine gf_Points_count hF hK hP m_23 d_Points_add_49 ?_
  refine lv_iconst (v := 1) hx hb d_Points_add_52 (by decide) ?_
  refine lv_iadd hx hb d_Points_add_53 ?_
  refine pf_Points_count hF hK hP hL hS m_23 d_Points_add_54 (fun H locs hP hS => ?_)
  refine lv_iload hx hb d_Points_add_57 (lv_at hl 0 rfl) ?_
  have hv : ((sc 1, s2 (s2 (s2 (s2 (s2 ar 7 ((sc 1).toNatClampNeg) a0) 8 ((sc 1).toNatClampNeg) a1) 9 ((sc 1).toNatClampNeg) a2) 10 ((sc 1).toNatClampNeg) a3) 11 ((sc 1).toNatClampNeg) (-1), sg sc 1 ((sc 1) + 1)) : Int32 × (Nat → Nat → Int32) × (Nat → Int32)) = f_Points_add ar sc a0 a1 a2 a3 := by rw [f_Points_add]
  exact W.iret (v := sc 1) hx hb hr (fun t ht hW => ⟨⟨sc 1, (s2 (s2 (s2 (s2 (s2 ar 7 ((sc 1).toNatClampNeg) a0) 8 ((sc 1).toNatClampNeg) a1) 9 ((sc 1).toNatClampNeg) a2) 10 ((sc 1).toNatClampNeg) a3) 11 ((sc 1).toNatClampNeg) (-1), sg sc 1 ((sc 1) + 1)), rfl, hv, by dsimp only; rw [ht]; exact hP⟩, hS.F ht⟩) hS.2.2 d_Points_add_59
set_option maxHeartbeats 1000000 in
theorem r_Points_add {p : Program} {l : Launch} {e : Env} {R : Room} {s : State} {m : MethodId} {args : Array Value} {below : List Frame} {meth : Method} {c : Code} {H : Heap} {locs : List Loc} {cells slots : Nat} {Q : State → Prop} {cc : ByteArray} {nL pc idx : Nat} {ls : Array Slot} {rest : List Value} {own : String} {dC : Nat → ClassId} {dI : Nat → Nat → Nat} {L : Nat → Nat} {cA : Nat → ClassId} {ar : Nat → Nat → Int32} {sc : Nat → Int32} {H0 : Heap} {a0 : Int32} {a1 : Int32} {a2 : Int32} {a3 : Int32} (hF : CallFix p m c cc nL s args w_all own) (hK : kW_I dC dI cA s) (hP : va_P (dC, dI) classes (wI L cA ar sc) H) (hL : ij 38 L) (hS : va_S (aI L) H0 H locs) (h : p_Points_add ar sc a0 a1 a2 a3) (hlk : Cond.methodLink own idx y_Points_add ∈ w_all) (hsz : ls.size = nL) (hR : (rmD 0).frames + 1 ≤ R.frames ∧ 8 + (6 + 11) + (rmD 0).locals ≤ R.locals) (hc : cells ≤ R.cells ∧ slots ≤ R.slots) (hrs : (rest.map fun v => v.category).sum ≤ 8) (hdg : decode cc pc = .ok (.invokevirtual idx, 3)) (kk : ∀ (H1 : Heap) (locs1 : List Loc), va_P (dC, dI) classes (wI L cA ((f_Points_add ar sc a0 a1 a2 a3).2.1) ((f_Points_add ar sc a0 a1 a2 a3).2.2)) H1 → va_S (aI L) H0 H1 locs1 → W p l e R s m args below meth c H1 locs1 cells slots Q (F0 m (pc + 3) ls (.int (f_Points_add ar sc a0 a1 a2 a3).1 :: rest))) : W p l e R s m args below meth c H locs cells slots Q (F0 m pc ls (.int a3 :: .int a2 :: .int a1 :: .int a0 :: .ref (L 6) :: rest)) :=
  va_calli (va_runV (As := [.int a0, .int a1, .int a2, .int a3]) (rest := rest) hF (c_Points_add l dC dI L cA ar sc a0 a1 a2 a3 hL h) (cwV 4 hF.2.2.2.2 (gV hlk m_29 m_30 m_31 m_32) rfl rfl rfl (by decide +kernel) hR) ⟨xb_I, va_recv hK.1 hP (ci := 2) (q0 := 6) rfl rfl, fun U hU hW => ⟨rfl, by rw [hU]; exact hP, kW_I_warm hW hK⟩⟩ rfl rfl hsz rfl (lv_room hrs) hdg hc) hS (fun q _ h9 => h9) (fun q h9 => h9) (fun r u t H1 locs1 ht hvm hw hB hz1 hk1 hS1 => by
    have hk9 := kk H1 locs1 (by rw [← hw, ← ht]; exact hB) hS1
    rw [← hw] at hk9
    exact hk9)
theorem d_Scale_classFor_0 : decode b_Scale_classFor 0 = .ok (.iconst 0, 1) := by decide +kernel
theorem d_Scale_classFor_1 : decode b_Scale_classFor 1 = .ok (.istore_n 2, 1) := by decide +kernel
theorem d_Scale_classFor_2 : decode b_Scale_classFor 2 = .ok (.iconst 0, 1) := by decide +kernel
theorem d_Scale_classFor_3 : decode b_Scale_classFor 3 = .ok (.istore_n 3, 1) := by decide +kernel
theorem d_Scale_classFor_4 : decode b_Scale_classFor 4 = .ok (.iload_n 3, 1) := by decide +kernel
theorem d_Scale_classFor_5 : decode b_Scale_classFor 5 = .ok (.aload_n 0, 1) := by decide +kernel
theorem d_Scale_classFor_6 : decode b_Scale_classFor 6 = .ok (.getfield 15, 3) := by decide +kernel
theorem d_Scale_classFor_9 : decode b_Scale_classFor 9 = .ok (.arraylength, 1) := by decide +kernel
theorem d_Scale_classFor_10 : decode b_Scale_classFor 10 = .ok (.if_icmp .ge 22, 3) := by decide +kernel
theorem d_Scale_classFor_13 : decode b_Scale_classFor 13 = .ok (.aload_n 0, 1) := by decide +kernel
theorem d_Scale_classFor_14 : decode b_Scale_classFor 14 = .ok (.getfield 15, 3) := by decide +kernel
theorem d_Scale_classFor_17 : decode b_Scale_classFor 17 = .ok (.iload_n 3, 1) := by decide +kernel
theorem d_Scale_classFor_18 : decode b_Scale_classFor 18 = .ok (.iaload, 1) := by decide +kernel
theorem d_Scale_classFor_19 : decode b_Scale_classFor 19 = .ok (.iload_n 1, 1) := by decide +kernel
theorem d_Scale_classFor_20 : decode b_Scale_classFor 20 = .ok (.if_icmp .gt 6, 3) := by decide +kernel
theorem d_Scale_classFor_23 : decode b_Scale_classFor 23 = .ok (.iinc 2 1, 3) := by decide +kernel
theorem d_Scale_classFor_26 : decode b_Scale_classFor 26 = .ok (.iinc 3 1, 3) := by decide +kernel
theorem d_Scale_classFor_29 : decode b_Scale_classFor 29 = .ok (.goto (-25), 3) := by decide +kernel
theorem d_Scale_classFor_32 : decode b_Scale_classFor 32 = .ok (.iload_n 2, 1) := by decide +kernel
theorem d_Scale_classFor_33 : decode b_Scale_classFor 33 = .ok (.ireturn, 1) := by decide +kernel
set_option maxHeartbeats 4000000 in
set_option maxRecDepth 100000 in
theorem l_Scale_classFor_4 {p : Program} {l : Launch} {e : Env} {s : State} {m : MethodId} {args : Array Value} {below : List Frame} {meth : Method} {c : Code} {dC : Nat → ClassId} {dI : Nat → Nat → Nat} {L : Nat → Nat} {cA : Nat → ClassId} {ar : Nat → Nat → Int32} {sc : Nat → Int32} {Q : State → Prop} {H : Heap} {locs : List Loc} (a0 : Int32)  (hF : CallFix p m c b_Scale_classFor 4 s args w_all R_Scale) (hK : kW_I dC dI cA s) (hP : va_P (dC, dI) classes (wI L cA ar sc) H) : ∀ (n : Nat) (v2 : Int32) (v3 : Int32), q_Scale_classFor_4 ar sc a0 n v2 v3 → ∀ (ls : Array Slot), lv_has ls 4 [(2, .int v2), (3, .int v3), (0, .ref (L 1)), (1, .int a0)] → (∀ (ls : Array Slot), lv_has ls 4 [(2, .int ((g_Scale_classFor_4 ar sc a0 n v2 v3).1)), (3, .int ((g_Scale_classFor_4 ar sc a0 n v2 v3).2)), (0, .ref (L 1)), (1, .int a0)] → W p l e (rmD 0) s m args below meth c H locs 0 0 Q (F0 m 32 ls [])) → W p l e (rmD 0) s m args below meth c H locs 0 0 Q (F0 m 4 ls []) := by
  have hx := hF.1
  have hb := hF.2.1
  have hown := hF.2.2.2.1
  have hts := hF.2.2.2.2
  intro n
  induction n with
  | zero => intro v2 v3 h; exact False.elim h
  | succ n ih =>
    intro v2 v3 h ls hl hk
    rw [q_Scale_classFor_4] at h
    refine lv_iload_n hx hb d_Scale_classFor_4 rfl (lv_at hl 1 rfl) ?_
    refine lv_aload_n hx hb d_Scale_classFor_5 rfl (lv_at hl 2 rfl) ?_
    refine gf_Scale_steps hF hK hP m_33 d_Scale_classFor_6 ?_
    refine anI_3 hF hK hP d_Scale_classFor_9 ?_
    refine lv_icmp_ge (tgt := 32) hx hb d_Scale_classFor_10 (by decide) (fun c10 => ?_) (fun c10 => ?_)
    · have h := h.1 c10
      have hv : g_Scale_classFor_4 ar sc a0 (n + 1) v2 v3 = ((v2, v3) : Int32 × Int32) := by rw [g_Scale_classFor_4, if_pos c10]
      rw [hv] at hk
      exact hk ls (lv_sub hl [0, 1, 2, 3] rfl)
    · have h := h.2 c10
      refine lv_aload_n hx hb d_Scale_classFor_13 rfl (lv_at hl 2 rfl) ?_
      refine gf_Scale_steps hF hK hP m_33 d_Scale_classFor_14 ?_
      refine lv_iload_n hx hb d_Scale_classFor_17 rfl (lv_at hl 1 rfl) ?_
      have k18 := h.1
      have h := h.2
      refine alI_3 hF hK hP k18 d_Scale_classFor_18 ?_
      refine lv_iload_n hx hb d_Scale_classFor_19 rfl (lv_at hl 3 rfl) ?_
      refine lv_icmp_gt (tgt := 26) hx hb d_Scale_classFor_20 (by decide) (fun c20 => ?_) (fun c20 => ?_)
      · have h := h.1 c20
        refine lv_iinc (v := v3 + 1) (lv' := [(3, .int (v3 + 1)), (2, .int v2), (0, .ref (L 1)), (1, .int a0)]) hx hb d_Scale_classFor_26 hl (k := 1) rfl rfl (by decide) rfl (fun ls hl => ?_)
        refine lv_goto (tgt := 4) hx hb d_Scale_classFor_29 (by decide) ?_
        have hv : g_Scale_classFor_4 ar sc a0 (n + 1) v2 v3 = g_Scale_classFor_4 ar sc a0 n v2 (v3 + 1) := by rw [g_Scale_classFor_4, if_neg c10, if_pos c20]
        rw [hv] at hk
        exact ih v2 (v3 + 1) h ls (lv_sub hl [1, 0, 2, 3] rfl) hk
      · have h := h.2 c20
        refine lv_iinc (v := v2 + 1) (lv' := [(2, .int (v2 + 1)), (3, .int v3), (0, .ref (L 1)), (1, .int a0)]) hx hb d_Scale_classFor_23 hl (k := 0) rfl rfl (by decide) rfl (fun ls hl => ?_)
        refine lv_iinc (v := v3 + 1) (lv' := [(3, .int (v3 + 1)), (2, .int (v2 + 1)), (0, .ref (L 1)), (1, .int a0)]) hx hb d_Scale_classFor_26 hl (k := 1) rfl rfl (by decide) rfl (fun ls hl => ?_)
        refine lv_goto (tgt := 4) hx hb d_Scale_classFor_29 (by decide) ?_
        have hv : g_Scale_classFor_4 ar sc a0 (n + 1) v2 v3 = g_Scale_classFor_4 ar sc a0 n (v2 + 1) (v3 + 1) := by rw [g_Scale_classFor_4, if_neg c10, if_neg c20]
        rw [hv] at hk
        exact ih (v2 + 1) (v3 + 1) h ls (lv_sub hl [1, 0, 2, 3] rfl) hk
set_option maxHeartbeats 4000000 in
set_option maxRecDepth 100000 in
theorem c_Scale_classFor (l : Launch) (dC : Nat → ClassId) (dI : Nat → Nat → Nat) (L : Nat → Nat) (cA : Nat → ClassId) (ar : Nat → Nat → Int32) (sc : Nat → Int32) (a0 : Int32) (h : p_Scale_classFor ar sc a0) : Met l y_Scale_classFor z_Scale_classFor (rmD 0) (va_Pc [.ref (L 1), .int a0] (fun U => xw_I dC dI L cA ar sc U)) (QcRead (f_Scale_classFor ar sc a0)) 0 0 (fun _ => False) := by
  refine Met.ofW (cc := b_Scale_classFor) (maxL := 4) (ret := (some .int)) (by decide) rfl ?_
  intro p e s m args below meth c s₁ B hml hv
  obtain ⟨rfl, ⟨hP, hK⟩⟩ := hv
  have hx := B.exec
  have hb := B.bytes
  have hr := B.returns
  have hts : ∀ w ∈ w_all, w.before _ s = true := fun w hw => atoms_spec (ws := z_Scale_classFor) B.pre w (List.mem_cons_of_mem _ hw)
  have hown : s.vm.findClass R_Scale = some m.cls := findClass_of_methodNamed B.named
  have hlocks := B.notSynchronized
  have hF : CallFix p m c b_Scale_classFor 4 s _ w_all R_Scale := ⟨hx, hb, hml, hown, hts⟩
  have hl := lv_entry ([.ref (L 1), .int a0]) (n := 4) (Nat.le_of_ble_eq_true rfl)
  rw [lg_entry_eq]
  generalize (lg_sl ([.ref (L 1), .int a0]) ++ List.replicate (4 - (lg_sl ([.ref (L 1), .int a0])).length) Slot.unset).toArray = ls at hl ⊢
  have hl : lv_has ls 4 [(0, .ref (L 1)), (1, .int a0)] := hl
  unfold p_Scale_classFor at h
  refine lv_iconst (v := 0) hx hb d_Scale_classFor_0 (by decide) ?_
  refine lv_istore_n (lv' := [(2, .int 0), (0, .ref (L 1)), (1, .int a0)]) hx hb d_Scale_classFor_1 rfl hl (by decide) rfl (fun ls hl => ?_)
  refine lv_iconst (v := 0) hx hb d_Scale_classFor_2 (by decide) ?_
  refine lv_istore_n (lv' := [(3, .int 0), (2, .int 0), (0, .ref (L 1)), (1, .int a0)]) hx hb d_Scale_classFor_3 rfl hl (by decide) rfl (fun ls hl => ?_)
  have kL4 := h
  refine l_Scale_classFor_4 a0 hF hK hP 200 0 0 kL4 ls (lv_sub hl [1, 0, 2, 3] rfl) (fun ls hl => ?_)
  refine lv_iload_n hx hb d_Scale_classFor_32 rfl (lv_at hl 0 rfl) ?_
  have hv : ((g_Scale_classFor_4 ar sc a0 200 0 0).1 : Int32) = f_Scale_classFor ar sc a0 := by rw [f_Scale_classFor]
  exact W.iret (v := (g_Scale_classFor_4 ar sc a0 200 0 0).1) hx hb hr (fun t ht hW => ⟨congrArg (fun z => Outcome.returned (some (Value.int z))) hv, ht⟩) (fun _ h9 => nomatch h9) d_Scale_classFor_33
set_option maxHeartbeats 1000000 in
theorem r_Scale_classFor {p : Program} {l : Launch} {e : Env} {R : Room} {s : State} {m : MethodId} {args : Array Value} {below : List Frame} {meth : Method} {c : Code} {H : Heap} {locs : List Loc} {cells slots : Nat} {Q : State → Prop} {cc : ByteArray} {nL pc idx : Nat} {ls : Array Slot} {rest : List Value} {own : String} {dC : Nat → ClassId} {dI : Nat → Nat → Nat} {L : Nat → Nat} {cA : Nat → ClassId} {ar : Nat → Nat → Int32} {sc : Nat → Int32} {a0 : Int32} (hF : CallFix p m c cc nL s args w_all own) (hK : kW_I dC dI cA s) (hP : va_P (dC, dI) classes (wI L cA ar sc) H) (h : p_Scale_classFor ar sc a0) (hlk : Cond.methodLink own idx y_Scale_classFor ∈ w_all) (hsz : ls.size = nL) (hR : (rmD 0).frames + 1 ≤ R.frames ∧ 8 + (4 + 11) + (rmD 0).locals ≤ R.locals) (hc : cells ≤ R.cells ∧ slots ≤ R.slots) (hrs : (rest.map fun v => v.category).sum ≤ 8) (hdg : decode cc pc = .ok (.invokevirtual idx, 3)) (kk : W p l e R s m args below meth c H locs cells slots Q (F0 m (pc + 3) ls (.int (f_Scale_classFor ar sc a0) :: rest))) : W p l e R s m args below meth c H locs cells slots Q (F0 m pc ls (.int a0 :: .ref (L 1) :: rest)) :=
  W.callR (W.runV (As := [.int a0]) (rest := rest) hF (c_Scale_classFor l dC dI L cA ar sc a0 h) (cwV 1 hF.2.2.2.2 (gV hlk m_34 m_35 m_36 m_37) rfl rfl rfl (by decide +kernel) hR) ⟨xb_I, va_recv hK.1 hP (ci := 1) (q0 := 1) rfl rfl, fun U hU hW => ⟨rfl, by rw [hU]; exact hP, kW_I_warm hW hK⟩⟩ rfl rfl hsz rfl (lv_room hrs) hdg hc) kk
theorem d_Questions_tell_0 : decode b_Questions_tell 0 = .ok (.aload_n 0, 1) := by decide +kernel
theorem d_Questions_tell_1 : decode b_Questions_tell 1 = .ok (.getfield 9, 3) := by decide +kernel
theorem d_Questions_tell_4 : decode b_Questions_tell 4 = .ok (.iload_n 1, 1) := by decide +kernel
theorem d_Questions_tell_5 : decode b_Questions_tell 5 = .ok (.iconst 1, 1) := by decide +kernel
theorem d_Questions_tell_6 : decode b_Questions_tell 6 = .ok (.bastore, 1) := by decide +kernel
theorem d_Questions_tell_7 : decode b_Questions_tell 7 = .ok (.aload_n 0, 1) := by decide +kernel
theorem d_Questions_tell_8 : decode b_Questions_tell 8 = .ok (.getfield 15, 3) := by decide +kernel
theorem d_Questions_tell_11 : decode b_Questions_tell 11 = .ok (.iload_n 1, 1) := by decide +kernel
theorem d_Questions_tell_12 : decode b_Questions_tell 12 = .ok (.iload_n 2, 1) := by decide +kernel
theorem d_Questions_tell_13 : decode b_Questions_tell 13 = .ok (.iastore, 1) := by decide +kernel
theorem d_Questions_tell_14 : decode b_Questions_tell 14 = .ok (.aload_n 0, 1) := by decide +kernel
theorem d_Questions_tell_15 : decode b_Questions_tell 15 = .ok (.getfield 19, 3) := by decide +kernel
theorem d_Questions_tell_18 : decode b_Questions_tell 18 = .ok (.iload_n 1, 1) := by decide +kernel
theorem d_Questions_tell_19 : decode b_Questions_tell 19 = .ok (.iload_n 3, 1) := by decide +kernel
theorem d_Questions_tell_20 : decode b_Questions_tell 20 = .ok (.iastore, 1) := by decide +kernel
theorem d_Questions_tell_21 : decode b_Questions_tell 21 = .ok (.aload_n 0, 1) := by decide +kernel
theorem d_Questions_tell_22 : decode b_Questions_tell 22 = .ok (.getfield 22, 3) := by decide +kernel
theorem d_Questions_tell_25 : decode b_Questions_tell 25 = .ok (.iload_n 1, 1) := by decide +kernel
theorem d_Questions_tell_26 : decode b_Questions_tell 26 = .ok (.iload 4, 2) := by decide +kernel
theorem d_Questions_tell_28 : decode b_Questions_tell 28 = .ok (.iastore, 1) := by decide +kernel
theorem d_Questions_tell_29 : decode b_Questions_tell 29 = .ok (.return_, 1) := by decide +kernel
set_option maxHeartbeats 4000000 in
set_option maxRecDepth 100000 in
theorem c_Questions_tell (l : Launch) (dC : Nat → ClassId) (dI : Nat → Nat → Nat) (L : Nat → Nat) (cA : Nat → ClassId) (ar : Nat → Nat → Int32) (sc : Nat → Int32) (a0 : Int32) (a1 : Int32) (a2 : Int32) (a3 : Int32) (hL : ij 38 L) (h : p_Questions_tell ar sc a0 a1 a2 a3) : Met l y_Questions_tell z_Questions_tell (rmD 0) (va_Pc [.ref (L 17), .int a0, .int a1, .int a2, .int a3] (fun U => xw_I dC dI L cA ar sc U)) (va_Qv (fun u : oS => (u.1, u.2) = f_Questions_tell ar sc a0 a1 a2 a3) (fun u t => va_P (dC, dI) classes (wI L cA u.1 u.2) t.heap) (aI L)) 0 0 (aI L) := by
  refine Met.ofW (cc := b_Questions_tell) (maxL := 5) (ret := none) (by decide) rfl ?_
  intro p e s m args below meth c s₁ B hml hv
  obtain ⟨rfl, ⟨hP, hK⟩⟩ := hv
  have hx := B.exec
  have hb := B.bytes
  have hr := B.returns
  have hts : ∀ w ∈ w_all, w.before _ s = true := fun w hw => atoms_spec (ws := z_Questions_tell) B.pre w (List.mem_cons_of_mem _ hw)
  have hown : s.vm.findClass R_Questions = some m.cls := findClass_of_methodNamed B.named
  have hlocks := B.notSynchronized
  have hF : CallFix p m c b_Questions_tell 5 s _ w_all R_Questions := ⟨hx, hb, hml, hown, hts⟩
  have hS : va_S (aI L) s.heap s.heap [] := va_S.rf
  have hl := lv_entry ([.ref (L 17), .int a0, .int a1, .int a2, .int a3]) (n := 5) (Nat.le_of_ble_eq_true rfl)
  rw [lg_entry_eq]
  generalize (lg_sl ([.ref (L 17), .int a0, .int a1, .int a2, .int a3]) ++ List.replicate (5 - (lg_sl ([.ref (L 17), .int a0, .int a1, .int a2, .int a3])).length) Slot.unset).toArray = ls at hl ⊢
  have hl : lv_has ls 5 [(0, .ref (L 17)), (1, .int a0), (2, .int a1), (3, .int a2), (4, .int a3)] := hl
  unfold p_Questions_tell at h
  refine lv_aload_n hx hb d_Questions_tell_0 rfl (lv_at hl 0 rfl) ?_
  refine gf_Questions_told hF hK hP m_38 d_Questions_tell_1 ?_
  refine lv_iload_n hx hb d_Questions_tell_4 rfl (lv_at hl 1 rfl) ?_
  refine lv_iconst (v := 1) hx hb d_Questions_tell_5 (by decide) ?_
  have k6 := h.1
  have h := h.2
  refine asI_18 hF hK hP hL hS k6 d_Questions_tell_6 (fun H locs hP hS => ?_)
  refine lv_aload_n hx hb d_Questions_tell_7 rfl (lv_at hl 0 rfl) ?_
  refine gf_Questions_afterYes hF hK hP m_39 d_Questions_tell_8 ?_
  refine lv_iload_n hx hb d_Questions_tell_11 rfl (lv_at hl 1 rfl) ?_
  refine lv_iload_n hx hb d_Questions_tell_12 rfl (lv_at hl 2 rfl) ?_
  have k13 := h.1
  have h := h.2
  refine asI_19 hF hK hP hL hS k13 d_Questions_tell_13 (fun H locs hP hS => ?_)
  refine lv_aload_n hx hb d_Questions_tell_14 rfl (lv_at hl 0 rfl) ?_
  refine gf_Questions_afterNo hF hK hP m_40 d_Questions_tell_15 ?_
  refine lv_iload_n hx hb d_Questions_tell_18 rfl (lv_at hl 1 rfl) ?_
  refine lv_iload_n hx hb d_Questions_tell_19 rfl (lv_at hl 3 rfl) ?_
  have k20 := h.1
  have h := h.2
  refine asI_20 hF hK hP hL hS k20 d_Questions_tell_20 (fun H locs hP hS => ?_)
  refine lv_aload_n hx hb d_Questions_tell_21 rfl (lv_at hl 0 rfl) ?_
  refine gf_Questions_weights hF hK hP m_41 d_Questions_tell_22 ?_
  refine lv_iload_n hx hb d_Questions_tell_25 rfl (lv_at hl 1 rfl) ?_
  refine lv_iload hx hb d_Questions_tell_26 (lv_at hl 4 rfl) ?_
  have k28 := h
  refine asI_21 hF hK hP hL hS k28 d_Questions_tell_28 (fun H locs hP hS => ?_)
  have hv : ((s2 (s2 (s2 (s2 ar 18 a0.toNatClampNeg (vp_nar .boolean 1)) 19 a0.toNatClampNeg a1) 20 a0.toNatClampNeg a2) 21 a0.toNatClampNeg a3, sc) : (Nat → Nat → Int32) × (Nat → Int32)) = f_Questions_tell ar sc a0 a1 a2 a3 := by rw [f_Questions_tell]
  exact W.vret hx hb hr (fun t ht hW => ⟨⟨(s2 (s2 (s2 (s2 ar 18 a0.toNatClampNeg (vp_nar .boolean 1)) 19 a0.toNatClampNeg a1) 20 a0.toNatClampNeg a2) 21 a0.toNatClampNeg a3, sc), rfl, hv, by dsimp only; rw [ht]; exact hP⟩, hS.F ht⟩) hS.2.2 d_Questions_tell_29
set_option maxHeartbeats 1000000 in
theorem r_Questions_tell {p : Program} {l : Launch} {e : Env} {R : Room} {s : State} {m : MethodId} {args : Array Value} {below : List Frame} {meth : Method} {c : Code} {H : Heap} {locs : List Loc} {cells slots : Nat} {Q : State → Prop} {cc : ByteArray} {nL pc idx : Nat} {ls : Array Slot} {rest : List Value} {own : String} {dC : Nat → ClassId} {dI : Nat → Nat → Nat} {L : Nat → Nat} {cA : Nat → ClassId} {ar : Nat → Nat → Int32} {sc : Nat → Int32} {H0 : Heap} {a0 : Int32} {a1 : Int32} {a2 : Int32} {a3 : Int32} (hF : CallFix p m c cc nL s args w_all own) (hK : kW_I dC dI cA s) (hP : va_P (dC, dI) classes (wI L cA ar sc) H) (hL : ij 38 L) (hS : va_S (aI L) H0 H locs) (h : p_Questions_tell ar sc a0 a1 a2 a3) (hlk : Cond.methodLink own idx y_Questions_tell ∈ w_all) (hsz : ls.size = nL) (hR : (rmD 0).frames + 1 ≤ R.frames ∧ 8 + (5 + 11) + (rmD 0).locals ≤ R.locals) (hc : cells ≤ R.cells ∧ slots ≤ R.slots) (hrs : (rest.map fun v => v.category).sum ≤ 8) (hdg : decode cc pc = .ok (.invokevirtual idx, 3)) (kk : ∀ (H1 : Heap) (locs1 : List Loc), va_P (dC, dI) classes (wI L cA ((f_Questions_tell ar sc a0 a1 a2 a3).1) ((f_Questions_tell ar sc a0 a1 a2 a3).2)) H1 → va_S (aI L) H0 H1 locs1 → W p l e R s m args below meth c H1 locs1 cells slots Q (F0 m (pc + 3) ls (rest))) : W p l e R s m args below meth c H locs cells slots Q (F0 m pc ls (.int a3 :: .int a2 :: .int a1 :: .int a0 :: .ref (L 17) :: rest)) :=
  va_callv (va_runV (As := [.int a0, .int a1, .int a2, .int a3]) (rest := rest) hF (c_Questions_tell l dC dI L cA ar sc a0 a1 a2 a3 hL h) (cwV 4 hF.2.2.2.2 (gV hlk m_42 m_43 m_44 m_45) rfl rfl rfl (by decide +kernel) hR) ⟨xb_I, va_recv hK.1 hP (ci := 4) (q0 := 17) rfl rfl, fun U hU hW => ⟨rfl, by rw [hU]; exact hP, kW_I_warm hW hK⟩⟩ rfl rfl hsz rfl (lv_room hrs) hdg hc) hS (fun q _ h9 => h9) (fun q h9 => h9) (fun u t H1 locs1 ht hvm hw hB hz1 hk1 hS1 => by
    have hk9 := kk H1 locs1 (by rw [← hw, ← ht]; exact hB) hS1
    exact hk9)
theorem d_Questions_answer_0 : decode b_Questions_answer 0 = .ok (.aload_n 0, 1) := by decide +kernel
theorem d_Questions_answer_1 : decode b_Questions_answer 1 = .ok (.iconst 0, 1) := by decide +kernel
theorem d_Questions_answer_2 : decode b_Questions_answer 2 = .ok (.putfield 28, 3) := by decide +kernel
theorem d_Questions_answer_5 : decode b_Questions_answer 5 = .ok (.iconst 0, 1) := by decide +kernel
theorem d_Questions_answer_6 : decode b_Questions_answer 6 = .ok (.istore_n 2, 1) := by decide +kernel
theorem d_Questions_answer_7 : decode b_Questions_answer 7 = .ok (.iconst 0, 1) := by decide +kernel
theorem d_Questions_answer_8 : decode b_Questions_answer 8 = .ok (.istore_n 3, 1) := by decide +kernel
theorem d_Questions_answer_9 : decode b_Questions_answer 9 = .ok (.iload_n 3, 1) := by decide +kernel
theorem d_Questions_answer_10 : decode b_Questions_answer 10 = .ok (.bipush 16, 2) := by decide +kernel
theorem d_Questions_answer_12 : decode b_Questions_answer 12 = .ok (.if_icmp .ge 110, 3) := by decide +kernel
theorem d_Questions_answer_15 : decode b_Questions_answer 15 = .ok (.iload_n 2, 1) := by decide +kernel
theorem d_Questions_answer_16 : decode b_Questions_answer 16 = .ok (.iconst (-1), 1) := by decide +kernel
theorem d_Questions_answer_17 : decode b_Questions_answer 17 = .ok (.if_icmp .eq 105, 3) := by decide +kernel
theorem d_Questions_answer_20 : decode b_Questions_answer 20 = .ok (.iload_n 2, 1) := by decide +kernel
theorem d_Questions_answer_21 : decode b_Questions_answer 21 = .ok (.istore 4, 2) := by decide +kernel
theorem d_Questions_answer_23 : decode b_Questions_answer 23 = .ok (.aload_n 0, 1) := by decide +kernel
theorem d_Questions_answer_24 : decode b_Questions_answer 24 = .ok (.getfield 9, 3) := by decide +kernel
theorem d_Questions_answer_27 : decode b_Questions_answer 27 = .ok (.iload 4, 2) := by decide +kernel
theorem d_Questions_answer_29 : decode b_Questions_answer 29 = .ok (.baload, 1) := by decide +kernel
theorem d_Questions_answer_30 : decode b_Questions_answer 30 = .ok (.ifCond .ne 5, 3) := by decide +kernel
theorem d_Questions_answer_33 : decode b_Questions_answer 33 = .ok (.iconst 0, 1) := by decide +kernel
theorem d_Questions_answer_34 : decode b_Questions_answer 34 = .ok (.ireturn, 1) := by decide +kernel
theorem d_Questions_answer_35 : decode b_Questions_answer 35 = .ok (.iload_n 1, 1) := by decide +kernel
theorem d_Questions_answer_36 : decode b_Questions_answer 36 = .ok (.iload 4, 2) := by decide +kernel
theorem d_Questions_answer_38 : decode b_Questions_answer 38 = .ok (.iushr, 1) := by decide +kernel
theorem d_Questions_answer_39 : decode b_Questions_answer 39 = .ok (.iconst 1, 1) := by decide +kernel
theorem d_Questions_answer_40 : decode b_Questions_answer 40 = .ok (.iand, 1) := by decide +kernel
theorem d_Questions_answer_41 : decode b_Questions_answer 41 = .ok (.iconst 1, 1) := by decide +kernel
theorem d_Questions_answer_42 : decode b_Questions_answer 42 = .ok (.if_icmp .ne 7, 3) := by decide +kernel
theorem d_Questions_answer_45 : decode b_Questions_answer 45 = .ok (.iconst 1, 1) := by decide +kernel
theorem d_Questions_answer_46 : decode b_Questions_answer 46 = .ok (.goto 4, 3) := by decide +kernel
theorem d_Questions_answer_49 : decode b_Questions_answer 49 = .ok (.iconst 0, 1) := by decide +kernel
theorem d_Questions_answer_50 : decode b_Questions_answer 50 = .ok (.istore 5, 2) := by decide +kernel
theorem d_Questions_answer_52 : decode b_Questions_answer 52 = .ok (.iload 5, 2) := by decide +kernel
theorem d_Questions_answer_54 : decode b_Questions_answer 54 = .ok (.ifCond .ne 39, 3) := by decide +kernel
theorem d_Questions_answer_57 : decode b_Questions_answer 57 = .ok (.aload_n 0, 1) := by decide +kernel
theorem d_Questions_answer_58 : decode b_Questions_answer 58 = .ok (.getfield 22, 3) := by decide +kernel
theorem d_Questions_answer_61 : decode b_Questions_answer 61 = .ok (.iload 4, 2) := by decide +kernel
theorem d_Questions_answer_63 : decode b_Questions_answer 63 = .ok (.iaload, 1) := by decide +kernel
theorem d_Questions_answer_64 : decode b_Questions_answer 64 = .ok (.ifCond .le 29, 3) := by decide +kernel
theorem d_Questions_answer_67 : decode b_Questions_answer 67 = .ok (.aload_n 0, 1) := by decide +kernel
theorem d_Questions_answer_68 : decode b_Questions_answer 68 = .ok (.getfield 25, 3) := by decide +kernel
theorem d_Questions_answer_71 : decode b_Questions_answer 71 = .ok (.aload_n 0, 1) := by decide +kernel
theorem d_Questions_answer_72 : decode b_Questions_answer 72 = .ok (.getfield 28, 3) := by decide +kernel
theorem d_Questions_answer_75 : decode b_Questions_answer 75 = .ok (.aload_n 0, 1) := by decide +kernel
theorem d_Questions_answer_76 : decode b_Questions_answer 76 = .ok (.getfield 22, 3) := by decide +kernel
theorem d_Questions_answer_79 : decode b_Questions_answer 79 = .ok (.iload 4, 2) := by decide +kernel
theorem d_Questions_answer_81 : decode b_Questions_answer 81 = .ok (.iaload, 1) := by decide +kernel
theorem d_Questions_answer_82 : decode b_Questions_answer 82 = .ok (.iastore, 1) := by decide +kernel
theorem d_Questions_answer_83 : decode b_Questions_answer 83 = .ok (.aload_n 0, 1) := by decide +kernel
theorem d_Questions_answer_84 : decode b_Questions_answer 84 = .ok (.dup, 1) := by decide +kernel
theorem d_Questions_answer_85 : decode b_Questions_answer 85 = .ok (.getfield 28, 3) := by decide +kernel
theorem d_Questions_answer_88 : decode b_Questions_answer 88 = .ok (.iconst 1, 1) := by decide +kernel
theorem d_Questions_answer_89 : decode b_Questions_answer 89 = .ok (.iadd, 1) := by decide +kernel
theorem d_Questions_answer_90 : decode b_Questions_answer 90 = .ok (.putfield 28, 3) := by decide +kernel
theorem d_Questions_answer_93 : decode b_Questions_answer 93 = .ok (.iload 5, 2) := by decide +kernel
theorem d_Questions_answer_95 : decode b_Questions_answer 95 = .ok (.ifCond .eq 13, 3) := by decide +kernel
theorem d_Questions_answer_98 : decode b_Questions_answer 98 = .ok (.aload_n 0, 1) := by decide +kernel
theorem d_Questions_answer_99 : decode b_Questions_answer 99 = .ok (.getfield 15, 3) := by decide +kernel
theorem d_Questions_answer_102 : decode b_Questions_answer 102 = .ok (.iload 4, 2) := by decide +kernel
theorem d_Questions_answer_104 : decode b_Questions_answer 104 = .ok (.iaload, 1) := by decide +kernel
theorem d_Questions_answer_105 : decode b_Questions_answer 105 = .ok (.goto 10, 3) := by decide +kernel
theorem d_Questions_answer_108 : decode b_Questions_answer 108 = .ok (.aload_n 0, 1) := by decide +kernel
theorem d_Questions_answer_109 : decode b_Questions_answer 109 = .ok (.getfield 19, 3) := by decide +kernel
theorem d_Questions_answer_112 : decode b_Questions_answer 112 = .ok (.iload 4, 2) := by decide +kernel
theorem d_Questions_answer_114 : decode b_Questions_answer 114 = .ok (.iaload, 1) := by decide +kernel
theorem d_Questions_answer_115 : decode b_Questions_answer 115 = .ok (.istore_n 2, 1) := by decide +kernel
theorem d_Questions_answer_116 : decode b_Questions_answer 116 = .ok (.iinc 3 1, 3) := by decide +kernel
theorem d_Questions_answer_119 : decode b_Questions_answer 119 = .ok (.goto (-110), 3) := by decide +kernel
theorem d_Questions_answer_122 : decode b_Questions_answer 122 = .ok (.iconst 1, 1) := by decide +kernel
theorem d_Questions_answer_123 : decode b_Questions_answer 123 = .ok (.ireturn, 1) := by decide +kernel
set_option maxHeartbeats 4000000 in
set_option maxRecDepth 100000 in
theorem l_Questions_answer_9 {p : Program} {l : Launch} {e : Env} {s : State} {m : MethodId} {args : Array Value} {below : List Frame} {meth : Method} {c : Code} {dC : Nat → ClassId} {dI : Nat → Nat → Nat} {L : Nat → Nat} {cA : Nat → ClassId} (a0 : Int32)  (hF : CallFix p m c b_Questions_answer 6 s args w_all R_Questions) (hK : kW_I dC dI cA s) (hL : ij 38 L) (hr : meth.sig.returnType = (some .boolean)) (hlocks : meth.locks = false) : ∀ (n : Nat) (v2 : Int32) (v3 : Int32) (ar : Nat → Nat → Int32) (sc : Nat → Int32), q_Questions_answer_9 a0 n v2 v3 ar sc → ∀ (H : Heap) (locs : List Loc), va_P (dC, dI) classes (wI L cA ar sc) H → va_S (aI L) s.heap H locs → ∀ (ls : Array Slot), lv_has ls 6 [(2, .int v2), (3, .int v3), (0, .ref (L 17)), (1, .int a0)] → W p l e (rmD 0) s m args below meth c H locs 0 0 (MQ below (va_Qi (fun (r : Int32) (u : oS) => (r, u.1, u.2) = g_Questions_answer_9 a0 n v2 v3 ar sc) (fun u t => va_P (dC, dI) classes (wI L cA u.1 u.2) t.heap) (aI L)) args s 0 0 (aI L)) (F0 m 9 ls []) := by
  have hx := hF.1
  have hb := hF.2.1
  have hown := hF.2.2.2.1
  have hts := hF.2.2.2.2
  intro n
  induction n with
  | zero => intro v2 v3 ar sc h; exact False.elim h
  | succ n ih =>
    intro v2 v3 ar sc h H locs hP hS ls hl
    rw [q_Questions_answer_9] at h
    refine lv_iload_n hx hb d_Questions_answer_9 rfl (lv_at hl 1 rfl) ?_
    refine lv_bipush (v := 16) hx hb d_Questions_answer_10 (by decide) ?_
    refine lv_icmp_ge (tgt := 122) hx hb d_Questions_answer_12 (by decide) (fun c12 => ?_) (fun c12 => ?_)
    · have h := h.1 c12
      refine lv_iconst (v := 1) hx hb d_Questions_answer_122 (by decide) ?_
      have hv : ((1, ar, sc) : Int32 × (Nat → Nat → Int32) × (Nat → Int32)) = g_Questions_answer_9 a0 (n + 1) v2 v3 ar sc := by rw [g_Questions_answer_9, if_pos c12]
      exact W.zret (ty := .boolean) (v := 1) hx hb hr rfl (fun t ht hW => ⟨⟨1, (ar, sc), rfl, hv, by dsimp only; rw [ht]; exact hP⟩, hS.F ht⟩) hS.2.2 d_Questions_answer_123
    · have h := h.2 c12
      refine lv_iload_n hx hb d_Questions_answer_15 rfl (lv_at hl 0 rfl) ?_
      refine lv_iconst (v := (-1)) hx hb d_Questions_answer_16 (by decide) ?_
      refine lv_icmp_eq (tgt := 122) hx hb d_Questions_answer_17 (by decide) (fun c17 => ?_) (fun c17 => ?_)
      · have h := h.1 c17
        refine lv_iconst (v := 1) hx hb d_Questions_answer_122 (by decide) ?_
        have hv : ((1, ar, sc) : Int32 × (Nat → Nat → Int32) × (Nat → Int32)) = g_Questions_answer_9 a0 (n + 1) v2 v3 ar sc := by rw [g_Questions_answer_9, if_neg c12, if_pos c17]
        exact W.zret (ty := .boolean) (v := 1) hx hb hr rfl (fun t ht hW => ⟨⟨1, (ar, sc), rfl, hv, by dsimp only; rw [ht]; exact hP⟩, hS.F ht⟩) hS.2.2 d_Questions_answer_123
      · have h := h.2 c17
        refine lv_iload_n hx hb d_Questions_answer_20 rfl (lv_at hl 0 rfl) ?_
        refine lv_istore (lv' := [(4, .int v2), (2, .int v2), (3, .int v3), (0, .ref (L 17)), (1, .int a0)]) hx hb d_Questions_answer_21 hl (by decide) rfl (fun ls hl => ?_)
        refine lv_aload_n hx hb d_Questions_answer_23 rfl (lv_at hl 3 rfl) ?_
        refine gf_Questions_told hF hK hP m_38 d_Questions_answer_24 ?_
        refine lv_iload hx hb d_Questions_answer_27 (lv_at hl 0 rfl) ?_
        have k29 := h.1
        have h := h.2
        refine alI_18 hF hK hP k29 d_Questions_answer_29 ?_
        refine lv_if_ne (tgt := 35) hx hb d_Questions_answer_30 (by decide) (fun c30 => ?_) (fun c30 => ?_)
        · have h := h.2 c30
          refine lv_iload_n hx hb d_Questions_answer_35 rfl (lv_at hl 4 rfl) ?_
          refine lv_iload hx hb d_Questions_answer_36 (lv_at hl 0 rfl) ?_
          refine lv_iushr hx hb d_Questions_answer_38 rfl ?_
          refine lv_iconst (v := 1) hx hb d_Questions_answer_39 (by decide) ?_
          refine lv_iand hx hb d_Questions_answer_40 ?_
          refine lv_iconst (v := 1) hx hb d_Questions_answer_41 (by decide) ?_
          refine lv_icmp_ne (tgt := 49) hx hb d_Questions_answer_42 (by decide) (fun c42 => ?_) (fun c42 => ?_)
          · have h := h.2 c42
            refine lv_iconst (v := 0) hx hb d_Questions_answer_49 (by decide) ?_
            refine lv_istore (lv' := [(5, .int 0), (4, .int v2), (2, .int v2), (3, .int v3), (0, .ref (L 17)), (1, .int a0)]) hx hb d_Questions_answer_50 hl (by decide) rfl (fun ls hl => ?_)
            refine lv_iload hx hb d_Questions_answer_52 (lv_at hl 0 rfl) ?_
            refine lv_if_ne (tgt := 93) hx hb d_Questions_answer_54 (by decide) (fun c9 => absurd c9 (by decide)) (fun _ => ?_)
            refine lv_aload_n hx hb d_Questions_answer_57 rfl (lv_at hl 4 rfl) ?_
            refine gf_Questions_weights hF hK hP m_41 d_Questions_answer_58 ?_
            refine lv_iload hx hb d_Questions_answer_61 (lv_at hl 1 rfl) ?_
            have k63 := h.1
            have h := h.2
            refine alI_21 hF hK hP k63 d_Questions_answer_63 ?_
            refine lv_if_le (tgt := 93) hx hb d_Questions_answer_64 (by decide) (fun c64 => ?_) (fun c64 => ?_)
            · have h := h.1 c64
              refine lv_iload hx hb d_Questions_answer_93 (lv_at hl 0 rfl) ?_
              refine lv_if_eq (tgt := 108) hx hb d_Questions_answer_95 (by decide) (fun _ => ?_) (fun c9 => absurd c9 (by decide))
              refine lv_aload_n hx hb d_Questions_answer_108 rfl (lv_at hl 4 rfl) ?_
              refine gf_Questions_afterNo hF hK hP m_40 d_Questions_answer_109 ?_
              refine lv_iload hx hb d_Questions_answer_112 (lv_at hl 1 rfl) ?_
              have k114 := h.1
              have h := h.2
              refine alI_20 hF hK hP k114 d_Questions_answer_114 ?_
              refine lv_istore_n (lv' := [(2, .int (ar 20 v2.toNatClampNeg)), (5, .int 0), (4, .int v2), (3, .int v3), (0, .ref (L 17)), (1, .int a0)]) hx hb d_Questions_answer_115 rfl hl (by decide) rfl (fun ls hl => ?_)
              refine lv_iinc (v := v3 + 1) (lv' := [(3, .int (v3 + 1)), (2, .int (ar 20 v2.toNatClampNeg)), (5, .int 0), (4, .int v2), (0, .ref (L 17)), (1, .int a0)]) hx hb d_Questions_answer_116 hl (k := 3) rfl rfl (by decide) rfl (fun ls hl => ?_)
              refine lv_goto (tgt := 9) hx hb d_Questions_answer_119 (by decide) ?_
              have hv : g_Questions_answer_9 a0 (n + 1) v2 v3 ar sc = g_Questions_answer_9 a0 n (ar 20 v2.toNatClampNeg) (v3 + 1) ar sc := by rw [g_Questions_answer_9, if_neg c12, if_neg c17, if_neg c30, if_neg c42, if_pos c64]
              rw [hv]
              exact ih (ar 20 v2.toNatClampNeg) (v3 + 1) ar sc h _ _ hP hS ls (lv_sub hl [1, 0, 4, 5] rfl)
            · have h := h.2 c64
              refine lv_aload_n hx hb d_Questions_answer_67 rfl (lv_at hl 4 rfl) ?_
              refine gf_Questions_found hF hK hP m_46 d_Questions_answer_68 ?_
              refine lv_aload_n hx hb d_Questions_answer_71 rfl (lv_at hl 4 rfl) ?_
              refine gf_Questions_foundCount hF hK hP m_47 d_Questions_answer_72 ?_
              refine lv_aload_n hx hb d_Questions_answer_75 rfl (lv_at hl 4 rfl) ?_
              refine gf_Questions_weights hF hK hP m_41 d_Questions_answer_76 ?_
              refine lv_iload hx hb d_Questions_answer_79 (lv_at hl 1 rfl) ?_
              have k81 := h.1
              have h := h.2
              refine alI_21 hF hK hP k81 d_Questions_answer_81 ?_
              have k82 := h.1
              have h := h.2
              refine asI_22 hF hK hP hL hS k82 d_Questions_answer_82 (fun H locs hP hS => ?_)
              refine lv_aload_n hx hb d_Questions_answer_83 rfl (lv_at hl 4 rfl) ?_
              refine lv_dup hx hb d_Questions_answer_84 rfl ?_
              refine gf_Questions_foundCount hF hK hP m_47 d_Questions_answer_85 ?_
              refine lv_iconst (v := 1) hx hb d_Questions_answer_88 (by decide) ?_
              refine lv_iadd hx hb d_Questions_answer_89 ?_
              refine pf_Questions_foundCount hF hK hP hL hS m_47 d_Questions_answer_90 (fun H locs hP hS => ?_)
              refine lv_iload hx hb d_Questions_answer_93 (lv_at hl 0 rfl) ?_
              refine lv_if_eq (tgt := 108) hx hb d_Questions_answer_95 (by decide) (fun _ => ?_) (fun c9 => absurd c9 (by decide))
              refine lv_aload_n hx hb d_Questions_answer_108 rfl (lv_at hl 4 rfl) ?_
              refine gf_Questions_afterNo hF hK hP m_40 d_Questions_answer_109 ?_
              refine lv_iload hx hb d_Questions_answer_112 (lv_at hl 1 rfl) ?_
              have k114 := h.1
              have h := h.2
              refine alI_20 hF hK hP k114 d_Questions_answer_114 ?_
              refine lv_istore_n (lv' := [(2, .int ((s2 ar 22 ((sc 3).toNatClampNeg) (ar 21 v2.toNatClampNeg)) 20 v2.toNatClampNeg)), (5, .int 0), (4, .int v2), (3, .int v3), (0, .ref (L 17)), (1, .int a0)]) hx hb d_Questions_answer_115 rfl hl (by decide) rfl (fun ls hl => ?_)
              refine lv_iinc (v := v3 + 1) (lv' := [(3, .int (v3 + 1)), (2, .int ((s2 ar 22 ((sc 3).toNatClampNeg) (ar 21 v2.toNatClampNeg)) 20 v2.toNatClampNeg)), (5, .int 0), (4, .int v2), (0, .ref (L 17)), (1, .int a0)]) hx hb d_Questions_answer_116 hl (k := 3) rfl rfl (by decide) rfl (fun ls hl => ?_)
              refine lv_goto (tgt := 9) hx hb d_Questions_answer_119 (by decide) ?_
              have hv : g_Questions_answer_9 a0 (n + 1) v2 v3 ar sc = g_Questions_answer_9 a0 n ((s2 ar 22 ((sc 3).toNatClampNeg) (ar 21 v2.toNatClampNeg)) 20 v2.toNatClampNeg) (v3 + 1) (s2 ar 22 ((sc 3).toNatClampNeg) (ar 21 v2.toNatClampNeg)) (sg sc 3 ((sc 3) + 1)) := by rw [g_Questions_answer_9, if_neg c12, if_neg c17, if_neg c30, if_neg c42, if_neg c64]
              rw [hv]
              exact ih ((s2 ar 22 ((sc 3).toNatClampNeg) (ar 21 v2.toNatClampNeg)) 20 v2.toNatClampNeg) (v3 + 1) (s2 ar 22 ((sc 3).toNatClampNeg) (ar 21 v2.toNatClampNeg)) (sg sc 3 ((sc 3) + 1)) h _ _ hP hS ls (lv_sub hl [1, 0, 4, 5] rfl)
          · have h := h.1 c42
            refine lv_iconst (v := 1) hx hb d_Questions_answer_45 (by decide) ?_
            refine lv_goto (tgt := 50) hx hb d_Questions_answer_46 (by decide) ?_
            refine lv_istore (lv' := [(5, .int 1), (4, .int v2), (2, .int v2), (3, .int v3), (0, .ref (L 17)), (1, .int a0)]) hx hb d_Questions_answer_50 hl (by decide) rfl (fun ls hl => ?_)
            refine lv_iload hx hb d_Questions_answer_52 (lv_at hl 0 rfl) ?_
            refine lv_if_ne (tgt := 93) hx hb d_Questions_answer_54 (by decide) (fun _ => ?_) (fun c9 => absurd c9 (by decide))
            refine lv_iload hx hb d_Questions_answer_93 (lv_at hl 0 rfl) ?_
            refine lv_if_eq (tgt := 108) hx hb d_Questions_answer_95 (by decide) (fun c9 => absurd c9 (by decide)) (fun _ => ?_)
            refine lv_aload_n hx hb d_Questions_answer_98 rfl (lv_at hl 4 rfl) ?_
            refine gf_Questions_afterYes hF hK hP m_39 d_Questions_answer_99 ?_
            refine lv_iload hx hb d_Questions_answer_102 (lv_at hl 1 rfl) ?_
            have k104 := h.1
            have h := h.2
            refine alI_19 hF hK hP k104 d_Questions_answer_104 ?_
            refine lv_goto (tgt := 115) hx hb d_Questions_answer_105 (by decide) ?_
            refine lv_istore_n (lv' := [(2, .int (ar 19 v2.toNatClampNeg)), (5, .int 1), (4, .int v2), (3, .int v3), (0, .ref (L 17)), (1, .int a0)]) hx hb d_Questions_answer_115 rfl hl (by decide) rfl (fun ls hl => ?_)
            refine lv_iinc (v := v3 + 1) (lv' := [(3, .int (v3 + 1)), (2, .int (ar 19 v2.toNatClampNeg)), (5, .int 1), (4, .int v2), (0, .ref (L 17)), (1, .int a0)]) hx hb d_Questions_answer_116 hl (k := 3) rfl rfl (by decide) rfl (fun ls hl => ?_)
            refine lv_goto (tgt := 9) hx hb d_Questions_answer_119 (by decide) ?_
            have hv : g_Questions_answer_9 a0 (n + 1) v2 v3 ar sc = g_Questions_answer_9 a0 n (ar 19 v2.toNatClampNeg) (v3 + 1) ar sc := by rw [g_Questions_answer_9, if_neg c12, if_neg c17, if_neg c30, if_pos c42]
            rw [hv]
            exact ih (ar 19 v2.toNatClampNeg) (v3 + 1) ar sc h _ _ hP hS ls (lv_sub hl [1, 0, 4, 5] rfl)
        · have h := h.1 c30
          refine lv_iconst (v := 0) hx hb d_Questions_answer_33 (by decide) ?_
          have hv : ((0, ar, sc) : Int32 × (Nat → Nat → Int32) × (Nat → Int32)) = g_Questions_answer_9 a0 (n + 1) v2 v3 ar sc := by rw [g_Questions_answer_9, if_neg c12, if_neg c17, if_pos c30]
          exact W.zret (ty := .boolean) (v := 0) hx hb hr rfl (fun t ht hW => ⟨⟨0, (ar, sc), rfl, hv, by dsimp only; rw [ht]; exact hP⟩, hS.F ht⟩) hS.2.2 d_Questions_answer_34
set_option maxHeartbeats 4000000 in
set_option maxRecDepth 100000 in
theorem c_Questions_answer (l : Launch) (dC : Nat → ClassId) (dI : Nat → Nat → Nat) (L : Nat → Nat) (cA : Nat → ClassId) (ar : Nat → Nat → Int32) (sc : Nat → Int32) (a0 : Int32) (hL : ij 38 L) (h : p_Questions_answer ar sc a0) : Met l y_Questions_answer z_Questions_answer (rmD 0) (va_Pc [.ref (L 17), .int a0] (fun U => xw_I dC dI L cA ar sc U)) (va_Qi (fun (r : Int32) (u : oS) => (r, u.1, u.2) = f_Questions_answer ar sc a0) (fun u t => va_P (dC, dI) classes (wI L cA u.1 u.2) t.heap) (aI L)) 0 0 (aI L) := by
  refine Met.ofW (cc := b_Questions_answer) (maxL := 6) (ret := (some .boolean)) (by decide) rfl ?_
  intro p e s m args below meth c s₁ B hml hv
  obtain ⟨rfl, ⟨hP, hK⟩⟩ := hv
  have hx := B.exec
  have hb := B.bytes
  have hr := B.returns
  have hts : ∀ w ∈ w_all, w.before _ s = true := fun w hw => atoms_spec (ws := z_Questions_answer) B.pre w (List.mem_cons_of_mem _ hw)
  have hown : s.vm.findClass R_Questions = some m.cls := findClass_of_methodNamed B.named
  have hlocks := B.notSynchronized
  have hF : CallFix p m c b_Questions_answer 6 s _ w_all R_Questions := ⟨hx, hb, hml, hown, hts⟩
  have hS : va_S (aI L) s.heap s.heap [] := va_S.rf
  have hl := lv_entry ([.ref (L 17), .int a0]) (n := 6) (Nat.le_of_ble_eq_true rfl)
  rw [lg_entry_eq]
  generalize (lg_sl ([.ref (L 17), .int a0]) ++ List.replicate (6 - (lg_sl ([.ref (L 17), .int a0])).length) Slot.unset).toArray = ls at hl ⊢
  have hl : lv_has ls 6 [(0, .ref (L 17)), (1, .int a0)] := hl
  unfold p_Questions_answer at h
  refine lv_aload_n hx hb d_Questions_answer_0 rfl (lv_at hl 0 rfl) ?_
  refine lv_iconst (v := 0) hx hb d_Questions_answer_1 (by decide) ?_
  refine pf_Questions_foundCount hF hK hP hL hS m_47 d_Questions_answer_2 (fun H locs hP hS => ?_)
  refine lv_iconst (v := 0) hx hb d_Questions_answer_5 (by decide) ?_
  refine lv_istore_n (lv' := [(2, .int 0), (0, .ref (L 17)), (1, .int a0)]) hx hb d_Questions_answer_6 rfl hl (by decide) rfl (fun ls hl => ?_)
  refine lv_iconst (v := 0) hx hb d_Questions_answer_7 (by decide) ?_
  refine lv_istore_n (lv' := [(3, .int 0), (2, .int 0), (0, .ref (L 17)), (1, .int a0)]) hx hb d_Questions_answer_8 rfl hl (by decide) rfl (fun ls hl => ?_)
  have kL9 := h
  have hv : f_Questions_answer ar sc a0 = g_Questions_answer_9 a0 200 0 0 ar (sg sc 3 0) := by rw [f_Questions_answer]
  rw [hv]
  exact l_Questions_answer_9 a0 hF hK hL hr hlocks 200 0 0 ar (sg sc 3 0) kL9 _ _ hP hS ls (lv_sub hl [1, 0, 2, 3] rfl)
set_option maxHeartbeats 1000000 in
theorem r_Questions_answer {p : Program} {l : Launch} {e : Env} {R : Room} {s : State} {m : MethodId} {args : Array Value} {below : List Frame} {meth : Method} {c : Code} {H : Heap} {locs : List Loc} {cells slots : Nat} {Q : State → Prop} {cc : ByteArray} {nL pc idx : Nat} {ls : Array Slot} {rest : List Value} {own : String} {dC : Nat → ClassId} {dI : Nat → Nat → Nat} {L : Nat → Nat} {cA : Nat → ClassId} {ar : Nat → Nat → Int32} {sc : Nat → Int32} {H0 : Heap} {a0 : Int32} (hF : CallFix p m c cc nL s args w_all own) (hK : kW_I dC dI cA s) (hP : va_P (dC, dI) classes (wI L cA ar sc) H) (hL : ij 38 L) (hS : va_S (aI L) H0 H locs) (h : p_Questions_answer ar sc a0) (hlk : Cond.methodLink own idx y_Questions_answer ∈ w_all) (hsz : ls.size = nL) (hR : (rmD 0).frames + 1 ≤ R.frames ∧ 8 + (6 + 11) + (rmD 0).locals ≤ R.locals) (hc : cells ≤ R.cells ∧ slots ≤ R.slots) (hrs : (rest.map fun v => v.category).sum ≤ 8) (hdg : decode cc pc = .ok (.invokevirtual idx, 3)) (kk : ∀ (H1 : Heap) (locs1 : List Loc), va_P (dC, dI) classes (wI L cA ((f_Questions_answer ar sc a0).2.1) ((f_Questions_answer ar sc a0).2.2)) H1 → va_S (aI L) H0 H1 locs1 → W p l e R s m args below meth c H1 locs1 cells slots Q (F0 m (pc + 3) ls (.int (f_Questions_answer ar sc a0).1 :: rest))) : W p l e R s m args below meth c H locs cells slots Q (F0 m pc ls (.int a0 :: .ref (L 17) :: rest)) :=
  va_calli (va_runV (As := [.int a0]) (rest := rest) hF (c_Questions_answer l dC dI L cA ar sc a0 hL h) (cwV 1 hF.2.2.2.2 (gV hlk m_48 m_49 m_44 m_50) rfl rfl rfl (by decide +kernel) hR) ⟨xb_I, va_recv hK.1 hP (ci := 4) (q0 := 17) rfl rfl, fun U hU hW => ⟨rfl, by rw [hU]; exact hP, kW_I_warm hW hK⟩⟩ rfl rfl hsz rfl (lv_room hrs) hdg hc) hS (fun q _ h9 => h9) (fun q h9 => h9) (fun r u t H1 locs1 ht hvm hw hB hz1 hk1 hS1 => by
    have hk9 := kk H1 locs1 (by rw [← hw, ← ht]; exact hB) hS1
    rw [← hw] at hk9
    exact hk9)

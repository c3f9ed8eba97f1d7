theorem m_364 : (Cond.methodLink R_Scale 3 objectInit) ∈ w_all := List.mem_filter.mpr ⟨List.mem_of_getElem? (i := 61) (by decide +kernel), by decide +kernel⟩
theorem m_365 : (Cond.instanceMethod objectInit) ∈ w_all := List.mem_filter.mpr ⟨List.mem_of_getElem? (i := 54) (by decide +kernel), by decide +kernel⟩
theorem m_366 : (Cond.code objectInit ⟨#[0xb1]⟩ 1 none) ∈ w_all := List.mem_filter.mpr ⟨List.mem_of_getElem? (i := 55) (by decide +kernel), by decide +kernel⟩
theorem m_367 : (Cond.arrayClass .int) ∈ w_all := List.mem_filter.mpr ⟨List.mem_of_getElem? (i := 79) (by decide +kernel), by decide +kernel⟩
theorem m_368 : (Cond.fieldLink R_Scale 9 "InspectRows$Scale" "kindWeights" "[I") ∈ w_all := List.mem_filter.mpr ⟨List.mem_of_getElem? (i := 62) (by decide +kernel), by decide +kernel⟩
theorem m_369 : (Cond.fieldLink R_Scale 18 "InspectRows$Scale" "intervals" "[I") ∈ w_all := List.mem_filter.mpr ⟨List.mem_of_getElem? (i := 66) (by decide +kernel), by decide +kernel⟩
theorem m_370 : (Cond.fieldLink R_Scale 21 "InspectRows$Scale" "times" "[I") ∈ w_all := List.mem_filter.mpr ⟨List.mem_of_getElem? (i := 68) (by decide +kernel), by decide +kernel⟩
theorem m_371 : (Cond.methodLink R_Points 3 objectInit) ∈ w_all := List.mem_filter.mpr ⟨List.mem_of_getElem? (i := 85) (by decide +kernel), by decide +kernel⟩
theorem m_372 : (Cond.methodLink R_Findings 3 objectInit) ∈ w_all := List.mem_filter.mpr ⟨List.mem_of_getElem? (i := 116) (by decide +kernel), by decide +kernel⟩
theorem m_373 : (Cond.methodLink R_Questions 3 objectInit) ∈ w_all := List.mem_filter.mpr ⟨List.mem_of_getElem? (i := 142) (by decide +kernel), by decide +kernel⟩
theorem m_374 : (Cond.arrayClass .boolean) ∈ w_all := List.mem_filter.mpr ⟨List.mem_of_getElem? (i := 164) (by decide +kernel), by decide +kernel⟩
theorem m_375 : (Cond.methodLink R_Route 3 objectInit) ∈ w_all := List.mem_filter.mpr ⟨List.mem_of_getElem? (i := 170) (by decide +kernel), by decide +kernel⟩
theorem m_376 : (Cond.methodLink R_Permits 3 objectInit) ∈ w_all := List.mem_filter.mpr ⟨List.mem_of_getElem? (i := 200) (by decide +kernel), by decide +kernel⟩
theorem m_377 : (Cond.constant R_Permits 38 500000) ∈ w_all := List.mem_filter.mpr ⟨List.mem_of_getElem? (i := 201) (by decide +kernel), by decide +kernel⟩
theorem m_378 : (Cond.fieldLink R_Permits 45 "InspectRows$Permits" "clash" "I") ∈ w_all := List.mem_filter.mpr ⟨List.mem_of_getElem? (i := 221) (by decide +kernel), by decide +kernel⟩
theorem d_Scale_init_0 : decode b_Scale_init 0 = .ok (.aload_n 0, 1) := by decide +kernel
theorem d_Scale_init_1 : decode b_Scale_init 1 = .ok (.invokespecial 3, 3) := by decide +kernel
theorem d_Scale_init_4 : decode b_Scale_init 4 = .ok (.aload_n 0, 1) := by decide +kernel
theorem d_Scale_init_5 : decode b_Scale_init 5 = .ok (.iconst 5, 1) := by decide +kernel
theorem d_Scale_init_6 : decode b_Scale_init 6 = .ok (.newarray .int, 2) := by decide +kernel
theorem d_Scale_init_8 : decode b_Scale_init 8 = .ok (.putfield 9, 3) := by decide +kernel
theorem d_Scale_init_11 : decode b_Scale_init 11 = .ok (.aload_n 0, 1) := by decide +kernel
theorem d_Scale_init_12 : decode b_Scale_init 12 = .ok (.iconst 3, 1) := by decide +kernel
theorem d_Scale_init_13 : decode b_Scale_init 13 = .ok (.newarray .int, 2) := by decide +kernel
theorem d_Scale_init_15 : decode b_Scale_init 15 = .ok (.dup, 1) := by decide +kernel
theorem d_Scale_init_16 : decode b_Scale_init 16 = .ok (.iconst 0, 1) := by decide +kernel
theorem d_Scale_init_17 : decode b_Scale_init 17 = .ok (.bipush 10, 2) := by decide +kernel
theorem d_Scale_init_19 : decode b_Scale_init 19 = .ok (.iastore, 1) := by decide +kernel
theorem d_Scale_init_20 : decode b_Scale_init 20 = .ok (.dup, 1) := by decide +kernel
theorem d_Scale_init_21 : decode b_Scale_init 21 = .ok (.iconst 1, 1) := by decide +kernel
theorem d_Scale_init_22 : decode b_Scale_init 22 = .ok (.bipush 20, 2) := by decide +kernel
theorem d_Scale_init_24 : decode b_Scale_init 24 = .ok (.iastore, 1) := by decide +kernel
theorem d_Scale_init_25 : decode b_Scale_init 25 = .ok (.dup, 1) := by decide +kernel
theorem d_Scale_init_26 : decode b_Scale_init 26 = .ok (.iconst 2, 1) := by decide +kernel
theorem d_Scale_init_27 : decode b_Scale_init 27 = .ok (.bipush 30, 2) := by decide +kernel
theorem d_Scale_init_29 : decode b_Scale_init 29 = .ok (.iastore, 1) := by decide +kernel
theorem d_Scale_init_30 : decode b_Scale_init 30 = .ok (.putfield 15, 3) := by decide +kernel
theorem d_Scale_init_33 : decode b_Scale_init 33 = .ok (.aload_n 0, 1) := by decide +kernel
theorem d_Scale_init_34 : decode b_Scale_init 34 = .ok (.iconst 4, 1) := by decide +kernel
theorem d_Scale_init_35 : decode b_Scale_init 35 = .ok (.newarray .int, 2) := by decide +kernel
theorem d_Scale_init_37 : decode b_Scale_init 37 = .ok (.dup, 1) := by decide +kernel
theorem d_Scale_init_38 : decode b_Scale_init 38 = .ok (.iconst 0, 1) := by decide +kernel
theorem d_Scale_init_39 : decode b_Scale_init 39 = .ok (.sipush 1000, 3) := by decide +kernel
theorem d_Scale_init_42 : decode b_Scale_init 42 = .ok (.iastore, 1) := by decide +kernel
theorem d_Scale_init_43 : decode b_Scale_init 43 = .ok (.dup, 1) := by decide +kernel
theorem d_Scale_init_44 : decode b_Scale_init 44 = .ok (.iconst 1, 1) := by decide +kernel
theorem d_Scale_init_45 : decode b_Scale_init 45 = .ok (.sipush 500, 3) := by decide +kernel
theorem d_Scale_init_48 : decode b_Scale_init 48 = .ok (.iastore, 1) := by decide +kernel
theorem d_Scale_init_49 : decode b_Scale_init 49 = .ok (.dup, 1) := by decide +kernel
theorem d_Scale_init_50 : decode b_Scale_init 50 = .ok (.iconst 2, 1) := by decide +kernel
theorem d_Scale_init_51 : decode b_Scale_init 51 = .ok (.sipush 200, 3) := by decide +kernel
theorem d_Scale_init_54 : decode b_Scale_init 54 = .ok (.iastore, 1) := by decide +kernel
theorem d_Scale_init_55 : decode b_Scale_init 55 = .ok (.dup, 1) := by decide +kernel
theorem d_Scale_init_56 : decode b_Scale_init 56 = .ok (.iconst 3, 1) := by decide +kernel
theorem d_Scale_init_57 : decode b_Scale_init 57 = .ok (.bipush 100, 2) := by decide +kernel
theorem d_Scale_init_59 : decode b_Scale_init 59 = .ok (.iastore, 1) := by decide +kernel
theorem d_Scale_init_60 : decode b_Scale_init 60 = .ok (.putfield 18, 3) := by decide +kernel
theorem d_Scale_init_63 : decode b_Scale_init 63 = .ok (.aload_n 0, 1) := by decide +kernel
theorem d_Scale_init_64 : decode b_Scale_init 64 = .ok (.iconst 4, 1) := by decide +kernel
theorem d_Scale_init_65 : decode b_Scale_init 65 = .ok (.newarray .int, 2) := by decide +kernel
theorem d_Scale_init_67 : decode b_Scale_init 67 = .ok (.dup, 1) := by decide +kernel
theorem d_Scale_init_68 : decode b_Scale_init 68 = .ok (.iconst 0, 1) := by decide +kernel
theorem d_Scale_init_69 : decode b_Scale_init 69 = .ok (.bipush 30, 2) := by decide +kernel
theorem d_Scale_init_71 : decode b_Scale_init 71 = .ok (.iastore, 1) := by decide +kernel
theorem d_Scale_init_72 : decode b_Scale_init 72 = .ok (.dup, 1) := by decide +kernel
theorem d_Scale_init_73 : decode b_Scale_init 73 = .ok (.iconst 1, 1) := by decide +kernel
theorem d_Scale_init_74 : decode b_Scale_init 74 = .ok (.bipush 30, 2) := by decide +kernel
theorem d_Scale_init_76 : decode b_Scale_init 76 = .ok (.iastore, 1) := by decide +kernel
theorem d_Scale_init_77 : decode b_Scale_init 77 = .ok (.dup, 1) := by decide +kernel
theorem d_Scale_init_78 : decode b_Scale_init 78 = .ok (.iconst 2, 1) := by decide +kernel
theorem d_Scale_init_79 : decode b_Scale_init 79 = .ok (.bipush 30, 2) := by decide +kernel
theorem d_Scale_init_81 : decode b_Scale_init 81 = .ok (.iastore, 1) := by decide +kernel
theorem d_Scale_init_82 : decode b_Scale_init 82 = .ok (.dup, 1) := by decide +kernel
theorem d_Scale_init_83 : decode b_Scale_init 83 = .ok (.iconst 3, 1) := by decide +kernel
theorem d_Scale_init_84 : decode b_Scale_init 84 = .ok (.bipush 30, 2) := by decide +kernel
theorem d_Scale_init_86 : decode b_Scale_init 86 = .ok (.iastore, 1) := by decide +kernel
theorem d_Scale_init_87 : decode b_Scale_init 87 = .ok (.putfield 21, 3) := by decide +kernel
theorem d_Scale_init_90 : decode b_Scale_init 90 = .ok (.return_, 1) := by decide +kernel
set_option maxHeartbeats 8000000 in
set_option maxRecDepth 100000 in
theorem c_Scale_init (l : Launch) (dC : Nat → ClassId) (dI : Nat → Nat → Nat) (h0 : Nat) (sz : Nat) : Met l y_Scale_init z_Scale_init { frames := 2, cells := 4, slots := 16, locals := 60 } (va_Pc [.ref h0] (fun U => U.heap.size = sz ∧ va_P (dC, dI) classes [(h0, .inr (1, [.null, .null, .null, .null]))] U.heap ∧ va_K (dC, dI) classes [] U ∧ va_D (fun _ => True) [(h0, .inr (1, [.null, .null, .null, .null]))])) (va_Qv (fun _ : (Nat → Nat) × (Nat → ClassId) => True) (fun (u : (Nat → Nat) × (Nat → ClassId)) t => va_P (dC, dI) classes [(h0, .inr (1, [.ref (u.1 1), .ref (u.1 2), .ref (u.1 3), .ref (u.1 4)])), ((u.1 1), .inl ((u.2 1), 5, .inl (fun _ => 0))), ((u.1 2), .inl ((u.2 2), 3, .inl (upd (upd (upd (fun _ => 0) (0 : Int32).toNatClampNeg 10) (1 : Int32).toNatClampNeg 20) (2 : Int32).toNatClampNeg 30))), ((u.1 3), .inl ((u.2 3), 4, .inl (upd (upd (upd (upd (fun _ => 0) (0 : Int32).toNatClampNeg 1000) (1 : Int32).toNatClampNeg 500) (2 : Int32).toNatClampNeg 200) (3 : Int32).toNatClampNeg 100))), ((u.1 4), .inl ((u.2 4), 4, .inl (upd (upd (upd (upd (fun _ => 0) (0 : Int32).toNatClampNeg 30) (1 : Int32).toNatClampNeg 30) (2 : Int32).toNatClampNeg 30) (3 : Int32).toNatClampNeg 30)))] t.heap ∧ va_K (dC, dI) classes [(u.2 1, .int), (u.2 2, .int), (u.2 3, .int), (u.2 4, .int)] t ∧ va_D (va_A [(h0, .inr (1, [.null, .null, .null, .null]))] sz) [(h0, .inr (1, [.ref (u.1 1), .ref (u.1 2), .ref (u.1 3), .ref (u.1 4)])), ((u.1 1), .inl ((u.2 1), 5, .inl (fun _ => 0))), ((u.1 2), .inl ((u.2 2), 3, .inl (upd (upd (upd (fun _ => 0) (0 : Int32).toNatClampNeg 10) (1 : Int32).toNatClampNeg 20) (2 : Int32).toNatClampNeg 30))), ((u.1 3), .inl ((u.2 3), 4, .inl (upd (upd (upd (upd (fun _ => 0) (0 : Int32).toNatClampNeg 1000) (1 : Int32).toNatClampNeg 500) (2 : Int32).toNatClampNeg 200) (3 : Int32).toNatClampNeg 100))), ((u.1 4), .inl ((u.2 4), 4, .inl (upd (upd (upd (upd (fun _ => 0) (0 : Int32).toNatClampNeg 30) (1 : Int32).toNatClampNeg 30) (2 : Int32).toNatClampNeg 30) (3 : Int32).toNatClampNeg 30)))]) (va_A [(h0, .inr (1, [.null, .null, .null, .null]))] sz)) 4 16 (va_A [(h0, .inr (1, [.null, .null, .null, .null]))] sz) := by
  refine Met.ofW (cc := b_Scale_init) (maxL := 1) (ret := none) (by decide) rfl ?_
  intro p e s m args below meth c s₁ B hml hv
  obtain ⟨rfl, hsz, hP, hK, hD0⟩ := hv
  have hx := B.exec
  have hb := B.bytes
  have hr := B.returns
  have hts : ∀ w ∈ w_all, w.before _ s = true := fun w hw => atoms_spec (ws := z_Scale_init) B.pre w (List.mem_cons_of_mem _ hw)
  have hown : s.vm.findClass R_Scale = some m.cls := findClass_of_methodNamed B.named
  have hlocks := B.notSynchronized
  have hin : meth.name = "<init>" := (name_of_methodNamed B.named B.method).1
  subst hsz
  have hD := hD0.self (sz := s.heap.size)
  generalize hAe : va_A [(h0, .inr (1, [.null, .null, .null, .null]))] s.heap.size = A at hD ⊢
  have hA : ∀ q : Nat, s.heap.size ≤ q → A q := fun q h => by rw [← hAe]; exact Or.inr h
  have hS : va_S A s.heap s.heap [] := va_S.rf
  have hP : va_P (dC, dI) classes [(h0, .inr (1, [.null, .null, .null, .null]))] s.heap := hP
  have hl := lv_entry ([.ref h0]) (n := 1) (Nat.le_of_ble_eq_true rfl)
  rw [lg_entry_eq]
  generalize (lg_sl ([.ref h0]) ++ List.replicate (1 - (lg_sl ([.ref h0])).length) Slot.unset).toArray = ls at hl ⊢
  have hl : lv_has ls 1 [(0, .ref h0)] := hl
  refine lv_aload_n hx hb d_Scale_init_0 rfl (lv_at hl 0 rfl) ?_
  refine W.objInit hx hb hown (hts _ m_364) (hts _ m_365) (hts _ m_366) rfl (by rw [hml]; exact hl.1) rfl d_Scale_init_1 (Nat.le_of_ble_eq_true rfl) (Nat.le_of_ble_eq_true rfl) ?_
  refine W.eq (g2 := F0 m 4 ls []) rfl ?_
  refine lv_aload_n hx hb d_Scale_init_4 rfl (lv_at hl 0 rfl) ?_
  refine lv_iconst (v := 5) hx hb d_Scale_init_5 (by decide) ?_
  refine va_newa (atype := .int) (n := 5) (N' := 5) (a0 := (5, .inl (fun _ => 0))) hx hb (hts _ m_367) rfl hK hP hD hS hA (fun _ => rfl) (by decide) (by decide) (by decide) (Nat.le_of_ble_eq_true rfl) (Nat.le_of_ble_eq_true rfl) d_Scale_init_6 (fun q6 cA6 H hK hP hD hS => ?_)
  have hP : va_P (dC, dI) classes [(h0, .inr (1, [.null, .null, .null, .null])), (q6, .inl (cA6, 5, .inl (fun _ => 0)))] H := hP
  have hD : va_D A [(h0, .inr (1, [.null, .null, .null, .null])), (q6, .inl (cA6, 5, .inl (fun _ => 0)))] := hD
  have hK : va_K (dC, dI) classes [(cA6, .int)] s := hK
  refine W.widen (k := 1) (n := 5) (Nat.le_refl _) (Nat.le_refl _) ?_
  refine va_putF (D := (dC, dI)) (ci := 1) (v := .ref q6) (ty := (.array .int)) (C := R_Scale) (T := F_Scale) (N := 4) hx hb hts i_Scale t_Scale t_Scale_ok n_Scale hown hK hP hD hS 0 rfl rfl 0 (by decide) (hts _ m_368) (fun _ h9 => h9) rfl hin rfl (by decide +kernel) rfl rfl (Nat.le_of_ble_eq_true rfl) d_Scale_init_8 (fun H locs hP hD hS => ?_)
  have hP : va_P (dC, dI) classes [(h0, .inr (1, [.ref q6, .null, .null, .null])), (q6, .inl (cA6, 5, .inl (fun _ => 0)))] H := hP
  have hD : va_D A [(h0, .inr (1, [.ref q6, .null, .null, .null])), (q6, .inl (cA6, 5, .inl (fun _ => 0)))] := hD
  refine lv_aload_n hx hb d_Scale_init_11 rfl (lv_at hl 0 rfl) ?_
  refine lv_iconst (v := 3) hx hb d_Scale_init_12 (by decide) ?_
  refine va_newa (atype := .int) (n := 3) (N' := 3) (a0 := (3, .inl (fun _ => 0))) hx hb (hts _ m_367) rfl hK hP hD hS hA (fun _ => rfl) (by decide) (by decide) (by decide) (Nat.le_of_ble_eq_true rfl) (Nat.le_of_ble_eq_true rfl) d_Scale_init_13 (fun q13 cA13 H hK hP hD hS => ?_)
  have hP : va_P (dC, dI) classes [(h0, .inr (1, [.ref q6, .null, .null, .null])), (q6, .inl (cA6, 5, .inl (fun _ => 0))), (q13, .inl (cA13, 3, .inl (fun _ => 0)))] H := hP
  have hD : va_D A [(h0, .inr (1, [.ref q6, .null, .null, .null])), (q6, .inl (cA6, 5, .inl (fun _ => 0))), (q13, .inl (cA13, 3, .inl (fun _ => 0)))] := hD
  have hK : va_K (dC, dI) classes [(cA6, .int), (cA13, .int)] s := hK
  refine W.widen (k := 2) (n := 8) (Nat.le_refl _) (Nat.le_refl _) ?_
  refine lv_dup hx hb d_Scale_init_15 rfl ?_
  refine lv_iconst (v := 0) hx hb d_Scale_init_16 (by decide) ?_
  refine lv_bipush (v := 10) hx hb d_Scale_init_17 (by decide) ?_
  refine va_iast hx hb hK hP hD hS 2 1 rfl rfl (by unfold vp_in; decide) d_Scale_init_19 (fun H locs hP hD hS => ?_)
  have hP : va_P (dC, dI) classes [(h0, .inr (1, [.ref q6, .null, .null, .null])), (q6, .inl (cA6, 5, .inl (fun _ => 0))), (q13, .inl (cA13, 3, .inl (upd (fun _ => 0) (0 : Int32).toNatClampNeg 10)))] H := hP
  have hD : va_D A [(h0, .inr (1, [.ref q6, .null, .null, .null])), (q6, .inl (cA6, 5, .inl (fun _ => 0))), (q13, .inl (cA13, 3, .inl (upd (fun _ => 0) (0 : Int32).toNatClampNeg 10)))] := hD
  refine lv_dup hx hb d_Scale_init_20 rfl ?_
  refine lv_iconst (v := 1) hx hb d_Scale_init_21 (by decide) ?_
  refine lv_bipush (v := 20) hx hb d_Scale_init_22 (by decide) ?_
  refine va_iast hx hb hK hP hD hS 2 1 rfl rfl (by unfold vp_in; decide) d_Scale_init_24 (fun H locs hP hD hS => ?_)
  have hP : va_P (dC, dI) classes [(h0, .inr (1, [.ref q6, .null, .null, .null])), (q6, .inl (cA6, 5, .inl (fun _ => 0))), (q13, .inl (cA13, 3, .inl (upd (upd (fun _ => 0) (0 : Int32).toNatClampNeg 10) (1 : Int32).toNatClampNeg 20)))] H := hP
  have hD : va_D A [(h0, .inr (1, [.ref q6, .null, .null, .null])), (q6, .inl (cA6, 5, .inl (fun _ => 0))), (q13, .inl (cA13, 3, .inl (upd (upd (fun _ => 0) (0 : Int32).toNatClampNeg 10) (1 : Int32).toNatClampNeg 20)))] := hD
  refine lv_dup hx hb d_Scale_init_25 rfl ?_
  refine lv_iconst (v := 2) hx hb d_Scale_init_26 (by decide) ?_
  refine lv_bipush (v := 30) hx hb d_Scale_init_27 (by decide) ?_
  refine va_iast hx hb hK hP hD hS 2 1 rfl rfl (by unfold vp_in; decide) d_Scale_init_29 (fun H locs hP hD hS => ?_)
  have hP : va_P (dC, dI) classes [(h0, .inr (1, [.ref q6, .null, .null, .null])), (q6, .inl (cA6, 5, .inl (fun _ => 0))), (q13, .inl (cA13, 3, .inl (upd (upd (upd (fun _ => 0) (0 : Int32).toNatClampNeg 10) (1 : Int32).toNatClampNeg 20) (2 : Int32).toNatClampNeg 30)))] H := hP
  have hD : va_D A [(h0, .inr (1, [.ref q6, .null, .null, .null])), (q6, .inl (cA6, 5, .inl (fun _ => 0))), (q13, .inl (cA13, 3, .inl (upd (upd (upd (fun _ => 0) (0 : Int32).toNatClampNeg 10) (1 : Int32).toNatClampNeg 20) (2 : Int32).toNatClampNeg 30)))] := hD
  refine va_putF (D := (dC, dI)) (ci := 1) (v := .ref q13) (ty := (.array .int)) (C := R_Scale) (T := F_Scale) (N := 4) hx hb hts i_Scale t_Scale t_Scale_ok n_Scale hown hK hP hD hS 0 rfl rfl 1 (by decide) (hts _ m_33) (fun _ h9 => h9) rfl hin rfl (by decide +kernel) rfl rfl (Nat.le_of_ble_eq_true rfl) d_Scale_init_30 (fun H locs hP hD hS => ?_)
  have hP : va_P (dC, dI) classes [(h0, .inr (1, [.ref q6, .ref q13, .null, .null])), (q6, .inl (cA6, 5, .inl (fun _ => 0))), (q13, .inl (cA13, 3, .inl (upd (upd (upd (fun _ => 0) (0 : Int32).toNatClampNeg 10) (1 : Int32).toNatClampNeg 20) (2 : Int32).toNatClampNeg 30)))] H := hP
  have hD : va_D A [(h0, .inr (1, [.ref q6, .ref q13, .null, .null])), (q6, .inl (cA6, 5, .inl (fun _ => 0))), (q13, .inl (cA13, 3, .inl (upd (upd (upd (fun _ => 0) (0 : Int32).toNatClampNeg 10) (1 : Int32).toNatClampNeg 20) (2 : Int32).toNatClampNeg 30)))] := hD
  refine lv_aload_n hx hb d_Scale_init_33 rfl (lv_at hl 0 rfl) ?_
  refine lv_iconst (v := 4) hx hb d_Scale_init_34 (by decide) ?_
  refine va_newa (atype := .int) (n := 4) (N' := 4) (a0 := (4, .inl (fun _ => 0))) hx hb (hts _ m_367) rfl hK hP hD hS hA (fun _ => rfl) (by decide) (by decide) (by decide) (Nat.le_of_ble_eq_true rfl) (Nat.le_of_ble_eq_true rfl) d_Scale_init_35 (fun q35 cA35 H hK hP hD hS => ?_)
  have hP : va_P (dC, dI) classes [(h0, .inr (1, [.ref q6, .ref q13, .null, .null])), (q6, .inl (cA6, 5, .inl (fun _ => 0))), (q13, .inl (cA13, 3, .inl (upd (upd (upd (fun _ => 0) (0 : Int32).toNatClampNeg 10) (1 : Int32).toNatClampNeg 20) (2 : Int32).toNatClampNeg 30))), (q35, .inl (cA35, 4, .inl (fun _ => 0)))] H := hP
  have hD : va_D A [(h0, .inr (1, [.ref q6, .ref q13, .null, .null])), (q6, .inl (cA6, 5, .inl (fun _ => 0))), (q13, .inl (cA13, 3, .inl (upd (upd (upd (fun _ => 0) (0 : Int32).toNatClampNeg 10) (1 : Int32).toNatClampNeg 20) (2 : Int32).toNatClampNeg 30))), (q35, .inl (cA35, 4, .inl (fun _ => 0)))] := hD
  have hK : va_K (dC, dI) classes [(cA6, .int), (cA13, .int), (cA35, .int)] s := hK
  refine W.widen (k := 3) (n := 12) (Nat.le_refl _) (Nat.le_refl _) ?_
  refine lv_dup hx hb d_Scale_init_37 rfl ?_
  refine lv_iconst (v := 0) hx hb d_Scale_init_38 (by decide) ?_
  refine lv_sipush (v := 1000) hx hb d_Scale_init_39 (by decide) ?_
  refine va_iast hx hb hK hP hD hS 3 2 rfl rfl (by unfold vp_in; decide) d_Scale_init_42 (fun H locs hP hD hS => ?_)
  have hP : va_P (dC, dI) classes [(h0, .inr (1, [.ref q6, .ref q13, .null, .null])), (q6, .inl (cA6, 5, .inl (fun _ => 0))), (q13, .inl (cA13, 3, .inl (upd (upd (upd (fun _ => 0) (0 : Int32).toNatClampNeg 10) (1 : Int32).toNatClampNeg 20) (2 : Int32).toNatClampNeg 30))), (q35, .inl (cA35, 4, .inl (upd (fun _ => 0) (0 : Int32).toNatClampNeg 1000)))] H := hP
  have hD : va_D A [(h0, .inr (1, [.ref q6, .ref q13, .null, .null])), (q6, .inl (cA6, 5, .inl (fun _ => 0))), (q13, .inl (cA13, 3, .inl (upd (upd (upd (fun _ => 0) (0 : Int32).toNatClampNeg 10) (1 : Int32).toNatClampNeg 20) (2 : Int32).toNatClampNeg 30))), (q35, .inl (cA35, 4, .inl (upd (fun _ => 0) (0 : Int32).toNatClampNeg 1000)))] := hD
  refine lv_dup hx hb d_Scale_init_43 rfl ?_
  refine lv_iconst (v := 1) hx hb d_Scale_init_44 (by decide) ?_
  refine lv_sipush (v := 500) hx hb d_Scale_init_45 (by decide) ?_
  refine va_iast hx hb hK hP hD hS 3 2 rfl rfl (by unfold vp_in; decide) d_Scale_init_48 (fun H locs hP hD hS => ?_)
  have hP : va_P (dC, dI) classes [(h0, .inr (1, [.ref q6, .ref q13, .null, .null])), (q6, .inl (cA6, 5, .inl (fun _ => 0))), (q13, .inl (cA13, 3, .inl (upd (upd (upd (fun _ => 0) (0 : Int32).toNatClampNeg 10) (1 : Int32).toNatClampNeg 20) (2 : Int32).toNatClampNeg 30))), (q35, .inl (cA35, 4, .inl (upd (upd (fun _ => 0) (0 : Int32).toNatClampNeg 1000) (1 : Int32).toNatClampNeg 500)))] H := hP
  have hD : va_D A [(h0, .inr (1, [.ref q6, .ref q13, .null, .null])), (q6, .inl (cA6, 5, .inl (fun _ => 0))), (q13, .inl (cA13, 3, .inl (upd (upd (upd (fun _ => 0) (0 : Int32).toNatClampNeg 10) (1 : Int32).toNatClampNeg 20) (2 : Int32).toNatClampNeg 30))), (q35, .inl (cA35, 4, .inl (upd (upd (fun _ => 0) (0 : Int32).toNatClampNeg 1000) (1 : Int32).toNatClampNeg 500)))] := hD
  refine lv_dup hx hb d_Scale_init_49 rfl ?_
  refine lv_iconst (v := 2) hx hb d_Scale_init_50 (by decide) ?_
  refine lv_sipush (v := 200) hx hb d_Scale_init_51 (by decide) ?_
  refine va_iast hx hb hK hP hD hS 3 2 rfl rfl (by unfold vp_in; decide) d_Scale_init_54 (fun H locs hP hD hS => ?_)
  have hP : va_P (dC, dI) classes [(h0, .inr (1, [.ref q6, .ref q13, .null, .null])), (q6, .inl (cA6, 5, .inl (fun _ => 0))), (q13, .inl (cA13, 3, .inl (upd (upd (upd (fun _ => 0) (0 : Int32).toNatClampNeg 10) (1 : Int32).toNatClampNeg 20) (2 : Int32).toNatClampNeg 30))), (q35, .inl (cA35, 4, .inl (upd (upd (upd (fun _ => 0) (0 : Int32).toNatClampNeg 1000) (1 : Int32).toNatClampNeg 500) (2 : Int32).toNatClampNeg 200)))] H := hP
  have hD : va_D A [(h0, .inr (1, [.ref q6, .ref q13, .null, .null])), (q6, .inl (cA6, 5, .inl (fun _ => 0))), (q13, .inl (cA13, 3, .inl (upd (upd (upd (fun _ => 0) (0 : Int32).toNatClampNeg 10) (1 : Int32).toNatClampNeg 20) (2 : Int32).toNatClampNeg 30))), (q35, .inl (cA35, 4, .inl (upd (upd (upd (fun _ => 0) (0 : Int32).toNatClampNeg 1000) (1 : Int32).toNatClampNeg 500) (2 : Int32).toNatClampNeg 200)))] := hD
  refine lv_dup hx hb d_Scale_init_55 rfl ?_
  refine lv_iconst (v := 3) hx hb d_Scale_init_56 (by decide) ?_
  refine lv_bipush (v := 100) hx hb d_Scale_init_57 (by decide) ?_
  refine va_iast hx hb hK hP hD hS 3 2 rfl rfl (by unfold vp_in; decide) d_Scale_init_59 (fun H locs hP hD hS => ?_)
  have hP : va_P (dC, dI) classes [(h0, .inr (1, [.ref q6, .ref q13, .null, .null])), (q6, .inl (cA6, 5, .inl (fun _ => 0))), (q13, .inl (cA13, 3, .inl (upd (upd (upd (fun _ => 0) (0 : Int32).toNatClampNeg 10) (1 : Int32).toNatClampNeg 20) (2 : Int32).toNatClampNeg 30))), (q35, .inl (cA35, 4, .inl (upd (upd (upd (upd (fun _ => 0) (0 : Int32).toNatClampNeg 1000) (1 : Int32).toNatClampNeg 500) (2 : Int32).toNatClampNeg 200) (3 : Int32).toNatClampNeg 100)))] H := hP
  have hD : va_D A [(h0, .inr (1, [.ref q6, .ref q13, .null, .null])), (q6, .inl (cA6, 5, .inl (fun _ => 0))), (q13, .inl (cA13, 3, .inl (upd (upd (upd (fun _ => 0) (0 : Int32).toNatClampNeg 10) (1 : Int32).toNatClampNeg 20) (2 : Int32).toNatClampNeg 30))), (q35, .inl (cA35, 4, .inl (upd (upd (upd (upd (fun _ => 0) (0 : Int32).toNatClampNeg 1000) (1 : Int32).toNatClampNeg 500) (2 : Int32).toNatClampNeg 200) (3 : Int32).toNatClampNeg 100)))] := hD
  refine va_putF (D := (dC, dI)) (ci := 1) (v := .ref q35) (ty := (.array .int)) (C := R_Scale) (T := F_Scale) (N := 4) hx hb hts i_Scale t_Scale t_Scale_ok n_Scale hown hK hP hD hS 0 rfl rfl 2 (by decide) (hts _ m_369) (fun _ h9 => h9) rfl hin rfl (by decide +kernel) rfl rfl (Nat.le_of_ble_eq_true rfl) d_Scale_init_60 (fun H locs hP hD hS => ?_)
  have hP : va_P (dC, dI) classes [(h0, .inr (1, [.ref q6, .ref q13, .ref q35, .null])), (q6, .inl (cA6, 5, .inl (fun _ => 0))), (q13, .inl (cA13, 3, .inl (upd (upd (upd (fun _ => 0) (0 : Int32).toNatClampNeg 10) (1 : Int32).toNatClampNeg 20) (2 : Int32).toNatClampNeg 30))), (q35, .inl (cA35, 4, .inl (upd (upd (upd (upd (fun _ => 0) (0 : Int32).toNatClampNeg 1000) (1 : Int32).toNatClampNeg 500) (2 : Int32).toNatClampNeg 200) (3 : Int32).toNatClampNeg 100)))] H := hP
  have hD : va_D A [(h0, .inr (1, [.ref q6, .ref q13, .ref q35, .null])), (q6, .inl (cA6, 5, .inl (fun _ => 0))), (q13, .inl (cA13, 3, .inl (upd (upd (upd (fun _ => 0) (0 : Int32).toNatClampNeg 10) (1 : Int32).toNatClampNeg 20) (2 : Int32).toNatClampNeg 30))), (q35, .inl (cA35, 4, .inl (upd (upd (upd (upd (fun _ => 0) (0 : Int32).toNatClampNeg 1000) (1 : Int32).toNatClampNeg 500) (2 : Int32).toNatClampNeg 200) (3 : Int32).toNatClampNeg 100)))] := hD
  refine lv_aload_n hx hb d_Scale_init_63 rfl (lv_at hl 0 rfl) ?_
  refine lv_iconst (v := 4) hx hb d_Scale_init_64 (by decide) ?_
  refine va_newa (atype := .int) (n := 4) (N' := 4) (a0 := (4, .inl (fun _ => 0))) hx hb (hts _ m_367) rfl hK hP hD hS hA (fun _ => rfl) (by decide) (by decide) (by decide) (Nat.le_of_ble_eq_true rfl) (Nat.le_of_ble_eq_true rfl) d_Scale_init_65 (fun q65 cA65 H hK hP hD hS => ?_)
  have hP : va_P (dC, dI) classes [(h0, .inr (1, [.ref q6, .ref q13, .ref q35, .null])), (q6, .inl (cA6, 5, .inl (fun _ => 0))), (q13, .inl (cA13, 3, .inl (upd (upd (upd (fun _ => 0) (0 : Int32).toNatClampNeg 10) (1 : Int32).toNatClampNeg 20) (2 : Int32).toNatClampNeg 30))), (q35, .inl (cA35, 4, .inl (upd (upd (upd (upd (fun _ => 0) (0 : Int32).toNatClampNeg 1000) (1 : Int32).toNatClampNeg 500) (2 : Int32).toNatClampNeg 200) (3 : Int32).toNatClampNeg 100))), (q65, .inl (cA65, 4, .inl (fun _ => 0)))] H := hP
  have hD : va_D A [(h0, .inr (1, [.ref q6, .ref q13, .ref q35, .null])), (q6, .inl (cA6, 5, .inl (fun _ => 0))), (q13, .inl (cA13, 3, .inl (upd (upd (upd (fun _ => 0) (0 : Int32).toNatClampNeg 10) (1 : Int32).toNatClampNeg 20) (2 : Int32).toNatClampNeg 30))), (q35, .inl (cA35, 4, .inl (upd (upd (upd (upd (fun _ => 0) (0 : Int32).toNatClampNeg 1000) (1 : Int32).toNatClampNeg 500) (2 : Int32).toNatClampNeg 200) (3 : Int32).toNatClampNeg 100))), (q65, .inl (cA65, 4, .inl (fun _ => 0)))] := hD
  have hK : va_K (dC, dI) classes [(cA6, .int), (cA13, .int), (cA35, .int), (cA65, .int)] s := hK
  refine W.widen (k := 4) (n := 16) (Nat.le_refl _) (Nat.le_refl _) ?_
  refine lv_dup hx hb d_Scale_init_67 rfl ?_
  refine lv_iconst (v := 0) hx hb d_Scale_init_68 (by decide) ?_
  refine lv_bipush (v := 30) hx hb d_Scale_init_69 (by decide) ?_
  refine va_iast hx hb hK hP hD hS 4 3 rfl rfl (by unfold vp_in; decide) d_Scale_init_71 (fun H locs hP hD hS => ?_)
  have hP : va_P (dC, dI) classes [(h0, .inr (1, [.ref q6, .ref q13, .ref q35, .null])), (q6, .inl (cA6, 5, .inl (fun _ => 0))), (q13, .inl (cA13, 3, .inl (upd (upd (upd (fun _ => 0) (0 : Int32).toNatClampNeg 10) (1 : Int32).toNatClampNeg 20) (2 : Int32).toNatClampNeg 30))), (q35, .inl (cA35, 4, .inl (upd (upd (upd (upd (fun _ => 0) (0 : Int32).toNatClampNeg 1000) (1 : Int32).toNatClampNeg 500) (2 : Int32).toNatClampNeg 200) (3 : Int32).toNatClampNeg 100))), (q65, .inl (cA65, 4, .inl (upd (fun _ => 0) (0 : Int32).toNatClampNeg 30)))] H := hP
  have hD : va_D A [(h0, .inr (1, [.ref q6, .ref q13, .ref q35, .null])), (q6, .inl (cA6, 5, .inl (fun _ => 0))), (q13, .inl (cA13, 3, .inl (upd (upd (upd (fun _ => 0) (0 : Int32).toNatClampNeg 10) (1 : Int32).toNatClampNeg 20) (2 : Int32).toNatClampNeg 30))), (q35, .inl (cA35, 4, .inl (upd (upd (upd (upd (fun _ => 0) (0 : Int32).toNatClampNeg 1000) (1 : Int32).toNatClampNeg 500) (2 : Int32).toNatClampNeg 200) (3 : Int32).toNatClampNeg 100))), (q65, .inl (cA65, 4, .inl (upd (fun _ => 0) (0 : Int32).toNatClampNeg 30)))] := hD
  refine lv_dup hx hb d_Scale_init_72 rfl ?_
  refine lv_iconst (v := 1) hx hb d_Scale_init_73 (by decide) ?_
  refine lv_bipush (v := 30) hx hb d_Scale_init_74 (by decide) ?_
  refine va_iast hx hb hK hP hD hS 4 3 rfl rfl (by unfold vp_in; decide) d_Scale_init_76 (fun H locs hP hD hS => ?_)
  have hP : va_P (dC, dI) classes [(h0, .inr (1, [.ref q6, .ref q13, .ref q35, .null])), (q6, .inl (cA6, 5, .inl (fun _ => 0))), (q13, .inl (cA13, 3, .inl (upd (upd (upd (fun _ => 0) (0 : Int32).toNatClampNeg 10) (1 : Int32).toNatClampNeg 20) (2 : Int32).toNatClampNeg 30))), (q35, .inl (cA35, 4, .inl (upd (upd (upd (upd (fun _ => 0) (0 : Int32).toNatClampNeg 1000) (1 : Int32).toNatClampNeg 500) (2 : Int32).toNatClampNeg 200) (3 : Int32).toNatClampNeg 100))), (q65, .inl (cA65, 4, .inl (upd (upd (fun _ => 0) (0 : Int32).toNatClampNeg 30) (1 : Int32).toNatClampNeg 30)))] H := hP
  have hD : va_D A [(h0, .inr (1, [.ref q6, .ref q13, .ref q35, .null])), (q6, .inl (cA6, 5, .inl (fun _ => 0))), (q13, .inl (cA13, 3, .inl (upd (upd (upd (fun _ => 0) (0 : Int32).toNatClampNeg 10) (1 : Int32).toNatClampNeg 20) (2 : Int32).toNatClampNeg 30))), (q35, .inl (cA35, 4, .inl (upd (upd (upd (upd (fun _ => 0) (0 : Int32).toNatClampNeg 1000) (1 : Int32).toNatClampNeg 500) (2 : Int32).toNatClampNeg 200) (3 : Int32).toNatClampNeg 100))), (q65, .inl (cA65, 4, .inl (upd (upd (fun _ => 0) (0 : Int32).toNatClampNeg 30) (1 : Int32).toNatClampNeg 30)))] := hD
  refine lv_dup hx hb d_Scale_init_77 rfl ?_
  refine lv_iconst (v := 2) hx hb d_Scale_init_78 (by decide) ?_
  refine lv_bipush (v := 30) hx hb d_Scale_init_79 (by decide) ?_
  refine va_iast hx hb hK hP hD hS 4 3 rfl rfl (by unfold vp_in; decide) d_Scale_init_81 (fun H locs hP hD hS => ?_)
  have hP : va_P (dC, dI) classes [(h0, .inr (1, [.ref q6, .ref q13, .ref q35, .null])), (q6, .inl (cA6, 5, .inl (fun _ => 0))), (q13, .inl (cA13, 3, .inl (upd (upd (upd (fun _ => 0) (0 : Int32).toNatClampNeg 10) (1 : Int32).toNatClampNeg 20) (2 : Int32).toNatClampNeg 30))), (q35, .inl (cA35, 4, .inl (upd (upd (upd (upd (fun _ => 0) (0 : Int32).toNatClampNeg 1000) (1 : Int32).toNatClampNeg 500) (2 : Int32).toNatClampNeg 200) (3 : Int32).toNatClampNeg 100))), (q65, .inl (cA65, 4, .inl (upd (upd (upd (fun _ => 0) (0 : Int32).toNatClampNeg 30) (1 : Int32).toNatClampNeg 30) (2 : Int32).toNatClampNeg 30)))] H := hP
  have hD : va_D A [(h0, .inr (1, [.ref q6, .ref q13, .ref q35, .null])), (q6, .inl (cA6, 5, .inl (fun _ => 0))), (q13, .inl (cA13, 3, .inl (upd (upd (upd (fun _ => 0) (0 : Int32).toNatClampNeg 10) (1 : Int32).toNatClampNeg 20) (2 : Int32).toNatClampNeg 30))), (q35, .inl (cA35, 4, .inl (upd (upd (upd (upd (fun _ => 0) (0 : Int32).toNatClampNeg 1000) (1 : Int32).toNatClampNeg 500) (2 : Int32).toNatClampNeg 200) (3 : Int32).toNatClampNeg 100))), (q65, .inl (cA65, 4, .inl (upd (upd (upd (fun _ => 0) (0 : Int32).toNatClampNeg 30) (1 : Int32).toNatClampNeg 30) (2 : Int32).toNatClampNeg 30)))] := hD
  refine lv_dup hx hb d_Scale_init_82 rfl ?_
  refine lv_iconst (v := 3) hx hb d_Scale_init_83 (by decide) ?_
  refine lv_bipush (v := 30) hx hb d_Scale_init_84 (by decide) ?_
  refine va_iast hx hb hK hP hD hS 4 3 rfl rfl (by unfold vp_in; decide) d_Scale_init_86 (fun H locs hP hD hS => ?_)
  have hP : va_P (dC, dI) classes [(h0, .inr (1, [.ref q6, .ref q13, .ref q35, .null])), (q6, .inl (cA6, 5, .inl (fun _ => 0))), (q13, .inl (cA13, 3, .inl (upd (upd (upd (fun _ => 0) (0 : Int32).toNatClampNeg 10) (1 : Int32).toNatClampNeg 20) (2 : Int32).toNatClampNeg 30))), (q35, .inl (cA35, 4, .inl (upd (upd (upd (upd (fun _ => 0) (0 : Int32).toNatClampNeg 1000) (1 : Int32).toNatClampNeg 500) (2 : Int32).toNatClampNeg 200) (3 : Int32).toNatClampNeg 100))), (q65, .inl (cA65, 4, .inl (upd (upd (upd (upd (fun _ => 0) (0 : Int32).toNatClampNeg 30) (1 : Int32).toNatClampNeg 30) (2 : Int32).toNatClampNeg 30) (3 : Int32).toNatClampNeg 30)))] H := hP
  have hD : va_D A [(h0, .inr (1, [.ref q6, .ref q13, .ref q35, .null])), (q6, .inl (cA6, 5, .inl (fun _ => 0))), (q13, .inl (cA13, 3, .inl (upd (upd (upd (fun _ => 0) (0 : Int32).toNatClampNeg 10) (1 : Int32).toNatClampNeg 20) (2 : Int32).toNatClampNeg 30))), (q35, .inl (cA35, 4, .inl (upd (upd (upd (upd (fun _ => 0) (0 : Int32).toNatClampNeg 1000) (1 : Int32).toNatClampNeg 500) (2 : Int32).toNatClampNeg 200) (3 : Int32).toNatClampNeg 100))), (q65, .inl (cA65, 4, .inl (upd (upd (upd (upd (fun _ => 0) (0 : Int32).toNatClampNeg 30) (1 : Int32).toNatClampNeg 30) (2 : Int32).toNatClampNeg 30) (3 : Int32).toNatClampNeg 30)))] := hD
  refine va_putF (D := (dC, dI)) (ci := 1) (v := .ref q65) (ty := (.array .int)) (C := R_Scale) (T := F_Scale) (N := 4) hx hb hts i_Scale t_Scale t_Scale_ok n_Scale hown hK hP hD hS 0 rfl rfl 3 (by decide) (hts _ m_370) (fun _ h9 => h9) rfl hin rfl (by decide +kernel) rfl rfl (Nat.le_of_ble_eq_true rfl) d_Scale_init_87 (fun H locs hP hD hS => ?_)
  have hP : va_P (dC, dI) classes [(h0, .inr (1, [.ref q6, .ref q13, .ref q35, .ref q65])), (q6, .inl (cA6, 5, .inl (fun _ => 0))), (q13, .inl (cA13, 3, .inl (upd (upd (upd (fun _ => 0) (0 : Int32).toNatClampNeg 10) (1 : Int32).toNatClampNeg 20) (2 : Int32).toNatClampNeg 30))), (q35, .inl (cA35, 4, .inl (upd (upd (upd (upd (fun _ => 0) (0 : Int32).toNatClampNeg 1000) (1 : Int32).toNatClampNeg 500) (2 : Int32).toNatClampNeg 200) (3 : Int32).toNatClampNeg 100))), (q65, .inl (cA65, 4, .inl (upd (upd (upd (upd (fun _ => 0) (0 : Int32).toNatClampNeg 30) (1 : Int32).toNatClampNeg 30) (2 : Int32).toNatClampNeg 30) (3 : Int32).toNatClampNeg 30)))] H := hP
  have hD : va_D A [(h0, .inr (1, [.ref q6, .ref q13, .ref q35, .ref q65])), (q6, .inl (cA6, 5, .inl (fun _ => 0))), (q13, .inl (cA13, 3, .inl (upd (upd (upd (fun _ => 0) (0 : Int32).toNatClampNeg 10) (1 : Int32).toNatClampNeg 20) (2 : Int32).toNatClampNeg 30))), (q35, .inl (cA35, 4, .inl (upd (upd (upd (upd (fun _ => 0) (0 : Int32).toNatClampNeg 1000) (1 : Int32).toNatClampNeg 500) (2 : Int32).toNatClampNeg 200) (3 : Int32).toNatClampNeg 100))), (q65, .inl (cA65, 4, .inl (upd (upd (upd (upd (fun _ => 0) (0 : Int32).toNatClampNeg 30) (1 : Int32).toNatClampNeg 30) (2 : Int32).toNatClampNeg 30) (3 : Int32).toNatClampNeg 30)))] := hD
  exact W.vret hx hb hr (fun t ht hW => ⟨⟨((fun k => ([h0, q6, q13, q35, q65] : List Nat).getD k 0), (fun k => ([0, cA6, cA13, cA35, cA65] : List ClassId).getD k 0)), rfl, trivial, ⟨by rw [ht]; exact hP, va_K.moved hW.alike hK, hD⟩⟩, hS.F ht⟩) hS.2.2 d_Scale_init_90
theorem d_Points_init_0 : decode b_Points_init 0 = .ok (.aload_n 0, 1) := by decide +kernel
theorem d_Points_init_1 : decode b_Points_init 1 = .ok (.invokespecial 3, 3) := by decide +kernel
theorem d_Points_init_4 : decode b_Points_init 4 = .ok (.aload_n 0, 1) := by decide +kernel
theorem d_Points_init_5 : decode b_Points_init 5 = .ok (.bipush 30, 2) := by decide +kernel
theorem d_Points_init_7 : decode b_Points_init 7 = .ok (.newarray .int, 2) := by decide +kernel
theorem d_Points_init_9 : decode b_Points_init 9 = .ok (.putfield 9, 3) := by decide +kernel
theorem d_Points_init_12 : decode b_Points_init 12 = .ok (.aload_n 0, 1) := by decide +kernel
theorem d_Points_init_13 : decode b_Points_init 13 = .ok (.bipush 30, 2) := by decide +kernel
theorem d_Points_init_15 : decode b_Points_init 15 = .ok (.newarray .int, 2) := by decide +kernel
theorem d_Points_init_17 : decode b_Points_init 17 = .ok (.putfield 15, 3) := by decide +kernel
theorem d_Points_init_20 : decode b_Points_init 20 = .ok (.aload_n 0, 1) := by decide +kernel
theorem d_Points_init_21 : decode b_Points_init 21 = .ok (.bipush 30, 2) := by decide +kernel
theorem d_Points_init_23 : decode b_Points_init 23 = .ok (.newarray .int, 2) := by decide +kernel
theorem d_Points_init_25 : decode b_Points_init 25 = .ok (.putfield 18, 3) := by decide +kernel
theorem d_Points_init_28 : decode b_Points_init 28 = .ok (.aload_n 0, 1) := by decide +kernel
theorem d_Points_init_29 : decode b_Points_init 29 = .ok (.bipush 30, 2) := by decide +kernel
theorem d_Points_init_31 : decode b_Points_init 31 = .ok (.newarray .int, 2) := by decide +kernel
theorem d_Points_init_33 : decode b_Points_init 33 = .ok (.putfield 21, 3) := by decide +kernel
theorem d_Points_init_36 : decode b_Points_init 36 = .ok (.aload_n 0, 1) := by decide +kernel
theorem d_Points_init_37 : decode b_Points_init 37 = .ok (.bipush 30, 2) := by decide +kernel
theorem d_Points_init_39 : decode b_Points_init 39 = .ok (.newarray .int, 2) := by decide +kernel
theorem d_Points_init_41 : decode b_Points_init 41 = .ok (.putfield 24, 3) := by decide +kernel
theorem d_Points_init_44 : decode b_Points_init 44 = .ok (.aload_n 0, 1) := by decide +kernel
theorem d_Points_init_45 : decode b_Points_init 45 = .ok (.iconst 0, 1) := by decide +kernel
theorem d_Points_init_46 : decode b_Points_init 46 = .ok (.putfield 27, 3) := by decide +kernel
theorem d_Points_init_49 : decode b_Points_init 49 = .ok (.return_, 1) := by decide +kernel
set_option maxHeartbeats 8000000 in
set_option maxRecDepth 100000 in
theorem c_Points_init (l : Launch) (dC : Nat → ClassId) (dI : Nat → Nat → Nat) (h0 : Nat) (sz : Nat) : Met l y_Points_init z_Points_init { frames := 2, cells := 5, slots := 150, locals := 60 } (va_Pc [.ref h0] (fun U => U.heap.size = sz ∧ va_P (dC, dI) classes [(h0, .inr (2, [.null, .null, .null, .null, .null, .int 0]))] U.heap ∧ va_K (dC, dI) classes [] U ∧ va_D (fun _ => True) [(h0, .inr (2, [.null, .null, .null, .null, .null, .int 0]))])) (va_Qv (fun _ : (Nat → Nat) × (Nat → ClassId) => True) (fun (u : (Nat → Nat) × (Nat → ClassId)) t => va_P (dC, dI) classes [(h0, .inr (2, [.ref (u.1 1), .ref (u.1 2), .ref (u.1 3), .ref (u.1 4), .ref (u.1 5), .int 0])), ((u.1 1), .inl ((u.2 1), 30, .inl (fun _ => 0))), ((u.1 2), .inl ((u.2 2), 30, .inl (fun _ => 0))), ((u.1 3), .inl ((u.2 3), 30, .inl (fun _ => 0))), ((u.1 4), .inl ((u.2 4), 30, .inl (fun _ => 0))), ((u.1 5), .inl ((u.2 5), 30, .inl (fun _ => 0)))] t.heap ∧ va_K (dC, dI) classes [(u.2 1, .int), (u.2 2, .int), (u.2 3, .int), (u.2 4, .int), (u.2 5, .int)] t ∧ va_D (va_A [(h0, .inr (2, [.null, .null, .null, .null, .null, .int 0]))] sz) [(h0, .inr (2, [.ref (u.1 1), .ref (u.1 2), .ref (u.1 3), .ref (u.1 4), .ref (u.1 5), .int 0])), ((u.1 1), .inl ((u.2 1), 30, .inl (fun _ => 0))), ((u.1 2), .inl ((u.2 2), 30, .inl (fun _ => 0))), ((u.1 3), .inl ((u.2 3), 30, .inl (fun _ => 0))), ((u.1 4), .inl ((u.2 4), 30, .inl (fun _ => 0))), ((u.1 5), .inl ((u.2 5), 30, .inl (fun _ => 0)))]) (va_A [(h0, .inr (2, [.null, .null, .null, .null, .null, .int 0]))] sz)) 5 150 (va_A [(h0, .inr (2, [.null, .null, .null, .null, .null, .int 0]))] sz) := by
  refine Met.ofW (cc := b_Points_init) (maxL := 1) (ret := none) (by decide) rfl ?_
  intro p e s m args below meth c s₁ B hml hv
  obtain ⟨rfl, hsz, hP, hK, hD0⟩ := hv
  have hx := B.exec
  have hb := B.bytes
  have hr := B.returns
  have hts : ∀ w ∈ w_all, w.before _ s = true := fun w hw => atoms_spec (ws := z_Points_init) B.pre w (List.mem_cons_of_mem _ hw)
  have hown : s.vm.findClass R_Points = some m.cls := findClass_of_methodNamed B.named
  have hlocks := B.notSynchronized
  have hin : meth.name = "<init>" := (name_of_methodNamed B.named B.method).1
  subst hsz
  have hD := hD0.self (sz := s.heap.size)
  generalize hAe : va_A [(h0, .inr (2, [.null, .null, .null, .null, .null, .int 0]))] s.heap.size = A at hD ⊢
  have hA : ∀ q : Nat, s.heap.size ≤ q → A q := fun q h => by rw [← hAe]; exact Or.inr h
  have hS : va_S A s.heap s.heap [] := va_S.rf
  have hP : va_P (dC, dI) classes [(h0, .inr (2, [.null, .null, .null, .null, .null, .int 0]))] s.heap := hP
  have hl := lv_entry ([.ref h0]) (n := 1) (Nat.le_of_ble_eq_true rfl)
  rw [lg_entry_eq]
  generalize (lg_sl ([.ref h0]) ++ List.replicate (1 - (lg_sl ([.ref h0])).length) Slot.unset).toArray = ls at hl ⊢
  have hl : lv_has ls 1 [(0, .ref h0)] := hl
  refine lv_aload_n hx hb d_Points_init_0 rfl (lv_at hl 0 rfl) ?_
  refine W.objInit hx hb hown (hts _ m_371) (hts _ m_365) (hts _ m_366) rfl (by rw [hml]; exact hl.1) rfl d_Points_init_1 (Nat.le_of_ble_eq_true rfl) (Nat.le_of_ble_eq_true rfl) ?_
  refine W.eq (g2 := F0 m 4 ls []) rfl ?_
  refine lv_aload_n hx hb d_Points_init_4 rfl (lv_at hl 0 rfl) ?_
  refine lv_bipush (v := 30) hx hb d_Points_init_5 (by decide) ?_
  refine va_newa (atype := .int) (n := 30) (N' := 30) (a0 := (30, .inl (fun _ => 0))) hx hb (hts _ m_367) rfl hK hP hD hS hA (fun _ => rfl) (by decide) (by decide) (by decide) (Nat.le_of_ble_eq_true rfl) (Nat.le_of_ble_eq_true rfl) d_Points_init_7 (fun q7 cA7 H hK hP hD hS => ?_)
  have hP : va_P (dC, dI) classes [(h0, .inr (2, [.null, .null, .null, .null, .null, .int 0])), (q7, .inl (cA7, 30, .inl (fun _ => 0)))] H := hP
  have hD : va_D A [(h0, .inr (2, [.null, .null, .null, .null, .null, .int 0])), (q7, .inl (cA7, 30, .inl (fun _ => 0)))] := hD
  have hK : va_K (dC, dI) classes [(cA7, .int)] s := hK
  refine W.widen (k := 1) (n := 30) (Nat.le_refl _) (Nat.le_refl _) ?_
  refine va_putF (D := (dC, dI)) (ci := 2) (v := .ref q7) (ty := (.array .int)) (C := R_Points) (T := F_Points) (N := 6) hx hb hts i_Points t_Points t_Points_ok n_Points hown hK hP hD hS 0 rfl rfl 0 (by decide) (hts _ m_24) (fun _ h9 => h9) rfl hin rfl (by decide +kernel) rfl rfl (Nat.le_of_ble_eq_true rfl) d_Points_init_9 (fun H locs hP hD hS => ?_)
  have hP : va_P (dC, dI) classes [(h0, .inr (2, [.ref q7, .null, .null, .null, .null, .int 0])), (q7, .inl (cA7, 30, .inl (fun _ => 0)))] H := hP
  have hD : va_D A [(h0, .inr (2, [.ref q7, .null, .null, .null, .null, .int 0])), (q7, .inl (cA7, 30, .inl (fun _ => 0)))] := hD
  refine lv_aload_n hx hb d_Points_init_12 rfl (lv_at hl 0 rfl) ?_
  refine lv_bipush (v := 30) hx hb d_Points_init_13 (by decide) ?_
  refine va_newa (atype := .int) (n := 30) (N' := 30) (a0 := (30, .inl (fun _ => 0))) hx hb (hts _ m_367) rfl hK hP hD hS hA (fun _ => rfl) (by decide) (by decide) (by decide) (Nat.le_of_ble_eq_true rfl) (Nat.le_of_ble_eq_true rfl) d_Points_init_15 (fun q15 cA15 H hK hP hD hS => ?_)
  have hP : va_P (dC, dI) classes [(h0, .inr (2, [.ref q7, .null, .null, .null, .null, .int 0])), (q7, .inl (cA7, 30, .inl (fun _ => 0))), (q15, .inl (cA15, 30, .inl (fun _ => 0)))] H := hP
  have hD : va_D A [(h0, .inr (2, [.ref q7, .null, .null, .null, .null, .int 0])), (q7, .inl (cA7, 30, .inl (fun _ => 0))), (q15, .inl (cA15, 30, .inl (fun _ => 0)))] := hD
  have hK : va_K (dC, dI) classes [(cA7, .int), (cA15, .int)] s := hK
  refine W.widen (k := 2) (n := 60) (Nat.le_refl _) (Nat.le_refl _) ?_
  refine va_putF (D := (dC, dI)) (ci := 2) (v := .ref q15) (ty := (.array .int)) (C := R_Points) (T := F_Points) (N := 6) hx hb hts i_Points t_Points t_Points_ok n_Points hown hK hP hD hS 0 rfl rfl 1 (by decide) (hts _ m_25) (fun _ h9 => h9) rfl hin rfl (by decide +kernel) rfl rfl (Nat.le_of_ble_eq_true rfl) d_Points_init_17 (fun H locs hP hD hS => ?_)
  have hP : va_P (dC, dI) classes [(h0, .inr (2, [.ref q7, .ref q15, .null, .null, .null, .int 0])), (q7, .inl (cA7, 30, .inl (fun _ => 0))), (q15, .inl (cA15, 30, .inl (fun _ => 0)))] H := hP
  have hD : va_D A [(h0, .inr (2, [.ref q7, .ref q15, .null, .null, .null, .int 0])), (q7, .inl (cA7, 30, .inl (fun _ => 0))), (q15, .inl (cA15, 30, .inl (fun _ => 0)))] := hD
  refine lv_aload_n hx hb d_Points_init_20 rfl (lv_at hl 0 rfl) ?_
  refine lv_bipush (v := 30) hx hb d_Points_init_21 (by decide) ?_
  refine va_newa (atype := .int) (n := 30) (N' := 30) (a0 := (30, .inl (fun _ => 0))) hx hb (hts _ m_367) rfl hK hP hD hS hA (fun _ => rfl) (by decide) (by decide) (by decide) (Nat.le_of_ble_eq_true rfl) (Nat.le_of_ble_eq_true rfl) d_Points_init_23 (fun q23 cA23 H hK hP hD hS => ?_)
  have hP : va_P (dC, dI) classes [(h0, .inr (2, [.ref q7, .ref q15, .null, .null, .null, .int 0])), (q7, .inl (cA7, 30, .inl (fun _ => 0))), (q15, .inl (cA15, 30, .inl (fun _ => 0))), (q23, .inl (cA23, 30, .inl (fun _ => 0)))] H := hP
  have hD : va_D A [(h0, .inr (2, [.ref q7, .ref q15, .null, .null, .null, .int 0])), (q7, .inl (cA7, 30, .inl (fun _ => 0))), (q15, .inl (cA15, 30, .inl (fun _ => 0))), (q23, .inl (cA23, 30, .inl (fun _ => 0)))] := hD
  have hK : va_K (dC, dI) classes [(cA7, .int), (cA15, .int), (cA23, .int)] s := hK
  refine W.widen (k := 3) (n := 90) (Nat.le_refl _) (Nat.le_refl _) ?_
  refine va_putF (D := (dC, dI)) (ci := 2) (v := .ref q23) (ty := (.array .int)) (C := R_Points) (T := F_Points) (N := 6) hx hb hts i_Points t_Points t_Points_ok n_Points hown hK hP hD hS 0 rfl rfl 2 (by decide) (hts _ m_26) (fun _ h9 => h9) rfl hin rfl (by decide +kernel) rfl rfl (Nat.le_of_ble_eq_true rfl) d_Points_init_25 (fun H locs hP hD hS => ?_)
  have hP : va_P (dC, dI) classes [(h0, .inr (2, [.ref q7, .ref q15, .ref q23, .null, .null, .int 0])), (q7, .inl (cA7, 30, .inl (fun _ => 0))), (q15, .inl (cA15, 30, .inl (fun _ => 0))), (q23, .inl (cA23, 30, .inl (fun _ => 0)))] H := hP
  have hD : va_D A [(h0, .inr (2, [.ref q7, .ref q15, .ref q23, .null, .null, .int 0])), (q7, .inl (cA7, 30, .inl (fun _ => 0))), (q15, .inl (cA15, 30, .inl (fun _ => 0))), (q23, .inl (cA23, 30, .inl (fun _ => 0)))] := hD
  refine lv_aload_n hx hb d_Points_init_28 rfl (lv_at hl 0 rfl) ?_
  refine lv_bipush (v := 30) hx hb d_Points_init_29 (by decide) ?_
  refine va_newa (atype := .int) (n := 30) (N' := 30) (a0 := (30, .inl (fun _ => 0))) hx hb (hts _ m_367) rfl hK hP hD hS hA (fun _ => rfl) (by decide) (by decide) (by decide) (Nat.le_of_ble_eq_true rfl) (Nat.le_of_ble_eq_true rfl) d_Points_init_31 (fun q31 cA31 H hK hP hD hS => ?_)
  have hP : va_P (dC, dI) classes [(h0, .inr (2, [.ref q7, .ref q15, .ref q23, .null, .null, .int 0])), (q7, .inl (cA7, 30, .inl (fun _ => 0))), (q15, .inl (cA15, 30, .inl (fun _ => 0))), (q23, .inl (cA23, 30, .inl (fun _ => 0))), (q31, .inl (cA31, 30, .inl (fun _ => 0)))] H := hP
  have hD : va_D A [(h0, .inr (2, [.ref q7, .ref q15, .ref q23, .null, .null, .int 0])), (q7, .inl (cA7, 30, .inl (fun _ => 0))), (q15, .inl (cA15, 30, .inl (fun _ => 0))), (q23, .inl (cA23, 30, .inl (fun _ => 0))), (q31, .inl (cA31, 30, .inl (fun _ => 0)))] := hD
  have hK : va_K (dC, dI) classes [(cA7, .int), (cA15, .int), (cA23, .int), (cA31, .int)] s := hK
  refine W.widen (k := 4) (n := 120) (Nat.le_refl _) (Nat.le_refl _) ?_
  refine va_putF (D := (dC, dI)) (ci := 2) (v := .ref q31) (ty := (.array .int)) (C := R_Points) (T := F_Points) (N := 6) hx hb hts i_Points t_Points t_Points_ok n_Points hown hK hP hD hS 0 rfl rfl 3 (by decide) (hts _ m_27) (fun _ h9 => h9) rfl hin rfl (by decide +kernel) rfl rfl (Nat.le_of_ble_eq_true rfl) d_Points_init_33 (fun H locs hP hD hS => ?_)
  have hP : va_P (dC, dI) classes [(h0, .inr (2, [.ref q7, .ref q15, .ref q23, .ref q31, .null, .int 0])), (q7, .inl (cA7, 30, .inl (fun _ => 0))), (q15, .inl (cA15, 30, .inl (fun _ => 0))), (q23, .inl (cA23, 30, .inl (fun _ => 0))), (q31, .inl (cA31, 30, .inl (fun _ => 0)))] H := hP
  have hD : va_D A [(h0, .inr (2, [.ref q7, .ref q15, .ref q23, .ref q31, .null, .int 0])), (q7, .inl (cA7, 30, .inl (fun _ => 0))), (q15, .inl (cA15, 30, .inl (fun _ => 0))), (q23, .inl (cA23, 30, .inl (fun _ => 0))), (q31, .inl (cA31, 30, .inl (fun _ => 0)))] := hD
  refine lv_aload_n hx hb d_Points_init_36 rfl (lv_at hl 0 rfl) ?_
  refine lv_bipush (v := 30) hx hb d_Points_init_37 (by decide) ?_
  refine va_newa (atype := .int) (n := 30) (N' := 30) (a0 := (30, .inl (fun _ => 0))) hx hb (hts _ m_367) rfl hK hP hD hS hA (fun _ => rfl) (by decide) (by decide) (by decide) (Nat.le_of_ble_eq_true rfl) (Nat.le_of_ble_eq_true rfl) d_Points_init_39 (fun q39 cA39 H hK hP hD hS => ?_)
  have hP : va_P (dC, dI) classes [(h0, .inr (2, [.ref q7, .ref q15, .ref q23, .ref q31, .null, .int 0])), (q7, .inl (cA7, 30, .inl (fun _ => 0))), (q15, .inl (cA15, 30, .inl (fun _ => 0))), (q23, .inl (cA23, 30, .inl (fun _ => 0))), (q31, .inl (cA31, 30, .inl (fun _ => 0))), (q39, .inl (cA39, 30, .inl (fun _ => 0)))] H := hP
  have hD : va_D A [(h0, .inr (2, [.ref q7, .ref q15, .ref q23, .ref q31, .null, .int 0])), (q7, .inl (cA7, 30, .inl (fun _ => 0))), (q15, .inl (cA15, 30, .inl (fun _ => 0))), (q23, .inl (cA23, 30, .inl (fun _ => 0))), (q31, .inl (cA31, 30, .inl (fun _ => 0))), (q39, .inl (cA39, 30, .inl (fun _ => 0)))] := hD
  have hK : va_K (dC, dI) classes [(cA7, .int), (cA15, .int), (cA23, .int), (cA31, .int), (cA39, .int)] s := hK
  refine W.widen (k := 5) (n := 150) (Nat.le_refl _) (Nat.le_refl _) ?_
  refine va_putF (D := (dC, dI)) (ci := 2) (v := .ref q39) (ty := (.array .int)) (C := R_Points) (T := F_Points) (N := 6) hx hb hts i_Points t_Points t_Points_ok n_Points hown hK hP hD hS 0 rfl rfl 4 (by decide) (hts _ m_28) (fun _ h9 => h9) rfl hin rfl (by decide +kernel) rfl rfl (Nat.le_of_ble_eq_true rfl) d_Points_init_41 (fun H locs hP hD hS => ?_)
  have hP : va_P (dC, dI) classes [(h0, .inr (2, [.ref q7, .ref q15, .ref q23, .ref q31, .ref q39, .int 0])), (q7, .inl (cA7, 30, .inl (fun _ => 0))), (q15, .inl (cA15, 30, .inl (fun _ => 0))), (q23, .inl (cA23, 30, .inl (fun _ => 0))), (q31, .inl (cA31, 30, .inl (fun _ => 0))), (q39, .inl (cA39, 30, .inl (fun _ => 0)))] H := hP
  have hD : va_D A [(h0, .inr (2, [.ref q7, .ref q15, .ref q23, .ref q31, .ref q39, .int 0])), (q7, .inl (cA7, 30, .inl (fun _ => 0))), (q15, .inl (cA15, 30, .inl (fun _ => 0))), (q23, .inl (cA23, 30, .inl (fun _ => 0))), (q31, .inl (cA31, 30, .inl (fun _ => 0))), (q39, .inl (cA39, 30, .inl (fun _ => 0)))] := hD
  refine lv_aload_n hx hb d_Points_init_44 rfl (lv_at hl 0 rfl) ?_
  refine lv_iconst (v := 0) hx hb d_Points_init_45 (by decide) ?_
  refine va_put (D := (dC, dI)) (ci := 2) (v := .int 0) (ty := .int) (C := R_Points) (T := F_Points) (N := 6) hx hb hts i_Points t_Points t_Points_ok n_Points hown hK hP hD hS 0 rfl rfl 5 (by decide) (hts _ m_23) (fun _ h9 => h9) rfl (by decide +kernel) rfl rfl (Nat.le_of_ble_eq_true rfl) d_Points_init_46 (fun H locs hP hD hS => ?_)
  have hP : va_P (dC, dI) classes [(h0, .inr (2, [.ref q7, .ref q15, .ref q23, .ref q31, .ref q39, .int 0])), (q7, .inl (cA7, 30, .inl (fun _ => 0))), (q15, .inl (cA15, 30, .inl (fun _ => 0))), (q23, .inl (cA23, 30, .inl (fun _ => 0))), (q31, .inl (cA31, 30, .inl (fun _ => 0))), (q39, .inl (cA39, 30, .inl (fun _ => 0)))] H := hP
  have hD : va_D A [(h0, .inr (2, [.ref q7, .ref q15, .ref q23, .ref q31, .ref q39, .int 0])), (q7, .inl (cA7, 30, .inl (fun _ => 0))), (q15, .inl (cA15, 30, .inl (fun _ => 0))), (q23, .inl (cA23, 30, .inl (fun _ => 0))), (q31, .inl (cA31, 30, .inl (fun _ => 0))), (q39, .inl (cA39, 30, .inl (fun _ => 0)))] := hD
  exact W.vret hx hb hr (fun t ht hW => ⟨⟨((fun k => ([h0, q7, q15, q23, q31, q39] : List Nat).getD k 0), (fun k => ([0, cA7, cA15, cA23, cA31, cA39] : List ClassId).getD k 0)), rfl, trivial, ⟨by rw [ht]; exact hP, va_K.moved hW.alike hK, hD⟩⟩, hS.F ht⟩) hS.2.2 d_Points_init_49
theorem d_Findings_init_0 : decode b_Findings_init 0 = .ok (.aload_n 0, 1) := by decide +kernel
theorem d_Findings_init_1 : decode b_Findings_init 1 = .ok (.invokespecial 3, 3) := by decide +kernel
theorem d_Findings_init_4 : decode b_Findings_init 4 = .ok (.aload_n 0, 1) := by decide +kernel
theorem d_Findings_init_5 : decode b_Findings_init 5 = .ok (.bipush 100, 2) := by decide +kernel
theorem d_Findings_init_7 : decode b_Findings_init 7 = .ok (.newarray .int, 2) := by decide +kernel
theorem d_Findings_init_9 : decode b_Findings_init 9 = .ok (.putfield 9, 3) := by decide +kernel
theorem d_Findings_init_12 : decode b_Findings_init 12 = .ok (.aload_n 0, 1) := by decide +kernel
theorem d_Findings_init_13 : decode b_Findings_init 13 = .ok (.bipush 100, 2) := by decide +kernel
theorem d_Findings_init_15 : decode b_Findings_init 15 = .ok (.newarray .int, 2) := by decide +kernel
theorem d_Findings_init_17 : decode b_Findings_init 17 = .ok (.putfield 15, 3) := by decide +kernel
theorem d_Findings_init_20 : decode b_Findings_init 20 = .ok (.aload_n 0, 1) := by decide +kernel
theorem d_Findings_init_21 : decode b_Findings_init 21 = .ok (.bipush 100, 2) := by decide +kernel
theorem d_Findings_init_23 : decode b_Findings_init 23 = .ok (.newarray .int, 2) := by decide +kernel
theorem d_Findings_init_25 : decode b_Findings_init 25 = .ok (.putfield 18, 3) := by decide +kernel
theorem d_Findings_init_28 : decode b_Findings_init 28 = .ok (.aload_n 0, 1) := by decide +kernel
theorem d_Findings_init_29 : decode b_Findings_init 29 = .ok (.bipush 100, 2) := by decide +kernel
theorem d_Findings_init_31 : decode b_Findings_init 31 = .ok (.newarray .int, 2) := by decide +kernel
theorem d_Findings_init_33 : decode b_Findings_init 33 = .ok (.putfield 21, 3) := by decide +kernel
theorem d_Findings_init_36 : decode b_Findings_init 36 = .ok (.aload_n 0, 1) := by decide +kernel
theorem d_Findings_init_37 : decode b_Findings_init 37 = .ok (.iconst 0, 1) := by decide +kernel
theorem d_Findings_init_38 : decode b_Findings_init 38 = .ok (.putfield 24, 3) := by decide +kernel
theorem d_Findings_init_41 : decode b_Findings_init 41 = .ok (.return_, 1) := by decide +kernel
set_option maxHeartbeats 8000000 in
set_option maxRecDepth 100000 in
theorem c_Findings_init (l : Launch) (dC : Nat → ClassId) (dI : Nat → Nat → Nat) (h0 : Nat) (sz : Nat) : Met l y_Findings_init z_Findings_init { frames := 2, cells := 4, slots := 400, locals := 60 } (va_Pc [.ref h0] (fun U => U.heap.size = sz ∧ va_P (dC, dI) classes [(h0, .inr (3, [.null, .null, .null, .null, .int 0]))] U.heap ∧ va_K (dC, dI) classes [] U ∧ va_D (fun _ => True) [(h0, .inr (3, [.null, .null, .null, .null, .int 0]))])) (va_Qv (fun _ : (Nat → Nat) × (Nat → ClassId) => True) (fun (u : (Nat → Nat) × (Nat → ClassId)) t => va_P (dC, dI) classes [(h0, .inr (3, [.ref (u.1 1), .ref (u.1 2), .ref (u.1 3), .ref (u.1 4), .int 0])), ((u.1 1), .inl ((u.2 1), 100, .inl (fun _ => 0))), ((u.1 2), .inl ((u.2 2), 100, .inl (fun _ => 0))), ((u.1 3), .inl ((u.2 3), 100, .inl (fun _ => 0))), ((u.1 4), .inl ((u.2 4), 100, .inl (fun _ => 0)))] t.heap ∧ va_K (dC, dI) classes [(u.2 1, .int), (u.2 2, .int), (u.2 3, .int), (u.2 4, .int)] t ∧ va_D (va_A [(h0, .inr (3, [.null, .null, .null, .null, .int 0]))] sz) [(h0, .inr (3, [.ref (u.1 1), .ref (u.1 2), .ref (u.1 3), .ref (u.1 4), .int 0])), ((u.1 1), .inl ((u.2 1), 100, .inl (fun _ => 0))), ((u.1 2), .inl ((u.2 2), 100, .inl (fun _ => 0))), ((u.1 3), .inl ((u.2 3), 100, .inl (fun _ => 0))), ((u.1 4), .inl ((u.2 4), 100, .inl (fun _ => 0)))]) (va_A [(h0, .inr (3, [.null, .null, .null, .null, .int 0]))] sz)) 4 400 (va_A [(h0, .inr (3, [.null, .null, .null, .null, .int 0]))] sz) := by
  refine Met.ofW (cc := b_Findings_init) (maxL := 1) (ret := none) (by decide) rfl ?_
  intro p e s m args below meth c s₁ B hml hv
  obtain ⟨rfl, hsz, hP, hK, hD0⟩ := hv
  have hx := B.exec
  have hb := B.bytes
  have hr := B.returns
  have hts : ∀ w ∈ w_all, w.before _ s = true := fun w hw => atoms_spec (ws := z_Findings_init) B.pre w (List.mem_cons_of_mem _ hw)
  have hown : s.vm.findClass R_Findings = some m.cls := findClass_of_methodNamed B.named
  have hlocks := B.notSynchronized
  have hin : meth.name = "<init>" := (name_of_methodNamed B.named B.method).1
  subst hsz
  have hD := hD0.self (sz := s.heap.size)
  generalize hAe : va_A [(h0, .inr (3, [.null, .null, .null, .null, .int 0]))] s.heap.size = A at hD ⊢
  have hA : ∀ q : Nat, s.heap.size ≤ q → A q := fun q h => by rw [← hAe]; exact Or.inr h
  have hS : va_S A s.heap s.heap [] := va_S.rf
  have hP : va_P (dC, dI) classes [(h0, .inr (3, [.null, .null, .null, .null, .int 0]))] s.heap := hP
  have hl := lv_entry ([.ref h0]) (n := 1) (Nat.le_of_ble_eq_true rfl)
  rw [lg_entry_eq]
  generalize (lg_sl ([.ref h0]) ++ List.replicate (1 - (lg_sl ([.ref h0])).length) Slot.unset).toArray = ls at hl ⊢
  have hl : lv_has ls 1 [(0, .ref h0)] := hl
  refine lv_aload_n hx hb d_Findings_init_0 rfl (lv_at hl 0 rfl) ?_
  refine W.objInit hx hb hown (hts _ m_372) (hts _ m_365) (hts _ m_366) rfl (by rw [hml]; exact hl.1) rfl d_Findings_init_1 (Nat.le_of_ble_eq_true rfl) (Nat.le_of_ble_eq_true rfl) ?_
  refine W.eq (g2 := F0 m 4 ls []) rfl ?_
  refine lv_aload_n hx hb d_Findings_init_4 rfl (lv_at hl 0 rfl) ?_
  refine lv_bipush (v := 100) hx hb d_Findings_init_5 (by decide) ?_
  refine va_newa (atype := .int) (n := 100) (N' := 100) (a0 := (100, .inl (fun _ => 0))) hx hb (hts _ m_367) rfl hK hP hD hS hA (fun _ => rfl) (by decide) (by decide) (by decide) (Nat.le_of_ble_eq_true rfl) (Nat.le_of_ble_eq_true rfl) d_Findings_init_7 (fun q7 cA7 H hK hP hD hS => ?_)
  have hP : va_P (dC, dI) classes [(h0, .inr (3, [.null, .null, .null, .null, .int 0])), (q7, .inl (cA7, 100, .inl (fun _ => 0)))] H := hP
  have hD : va_D A [(h0, .inr (3, [.null, .null, .null, .null, .int 0])), (q7, .inl (cA7, 100, .inl (fun _ => 0)))] := hD
  have hK : va_K (dC, dI) classes [(cA7, .int)] s := hK
  refine W.widen (k := 1) (n := 100) (Nat.le_refl _) (Nat.le_refl _) ?_
  refine va_putF (D := (dC, dI)) (ci := 3) (v := .ref q7) (ty := (.array .int)) (C := R_Findings) (T := F_Findings) (N := 5) hx hb hts i_Findings t_Findings t_Findings_ok n_Findings hown hK hP hD hS 0 rfl rfl 0 (by decide) (hts _ m_16) (fun _ h9 => h9) rfl hin rfl (by decide +kernel) rfl rfl (Nat.le_of_ble_eq_true rfl) d_Findings_init_9 (fun H locs hP hD hS => ?_)
  have hP : va_P (dC, dI) classes [(h0, .inr (3, [.ref q7, .null, .null, .null, .int 0])), (q7, .inl (cA7, 100, .inl (fun _ => 0)))] H := hP
  have hD : va_D A [(h0, .inr (3, [.ref q7, .null, .null, .null, .int 0])), (q7, .inl (cA7, 100, .inl (fun _ => 0)))] := hD
  refine lv_aload_n hx hb d_Findings_init_12 rfl (lv_at hl 0 rfl) ?_
  refine lv_bipush (v := 100) hx hb d_Findings_init_13 (by decide) ?_
  refine va_newa (atype := .int) (n := 100) (N' := 100) (a0 := (100, .inl (fun _ => 0))) hx hb (hts _ m_367) rfl hK hP hD hS hA (fun _ => rfl) (by decide) (by decide) (by decide) (Nat.le_of_ble_eq_true rfl) (Nat.le_of_ble_eq_true rfl) d_Findings_init_15 (fun q15 cA15 H hK hP hD hS => ?_)
  have hP : va_P (dC, dI) classes [(h0, .inr (3, [.ref q7, .null, .null, .null, .int 0])), (q7, .inl (cA7, 100, .inl (fun _ => 0))), (q15, .inl (cA15, 100, .inl (fun _ => 0)))] H := hP
  have hD : va_D A [(h0, .inr (3, [.ref q7, .null, .null, .null, .int 0])), (q7, .inl (cA7, 100, .inl (fun _ => 0))), (q15, .inl (cA15, 100, .inl (fun _ => 0)))] := hD
  have hK : va_K (dC, dI) classes [(cA7, .int), (cA15, .int)] s := hK
  refine W.widen (k := 2) (n := 200) (Nat.le_refl _) (Nat.le_refl _) ?_
  refine va_putF (D := (dC, dI)) (ci := 3) (v := .ref q15) (ty := (.array .int)) (C := R_Findings) (T := F_Findings) (N := 5) hx hb hts i_Findings t_Findings t_Findings_ok n_Findings hown hK hP hD hS 0 rfl rfl 1 (by decide) (hts _ m_11) (fun _ h9 => h9) rfl hin rfl (by decide +kernel) rfl rfl (Nat.le_of_ble_eq_true rfl) d_Findings_init_17 (fun H locs hP hD hS => ?_)
  have hP : va_P (dC, dI) classes [(h0, .inr (3, [.ref q7, .ref q15, .null, .null, .int 0])), (q7, .inl (cA7, 100, .inl (fun _ => 0))), (q15, .inl (cA15, 100, .inl (fun _ => 0)))] H := hP
  have hD : va_D A [(h0, .inr (3, [.ref q7, .ref q15, .null, .null, .int 0])), (q7, .inl (cA7, 100, .inl (fun _ => 0))), (q15, .inl (cA15, 100, .inl (fun _ => 0)))] := hD
  refine lv_aload_n hx hb d_Findings_init_20 rfl (lv_at hl 0 rfl) ?_
  refine lv_bipush (v := 100) hx hb d_Findings_init_21 (by decide) ?_
  refine va_newa (atype := .int) (n := 100) (N' := 100) (a0 := (100, .inl (fun _ => 0))) hx hb (hts _ m_367) rfl hK hP hD hS hA (fun _ => rfl) (by decide) (by decide) (by decide) (Nat.le_of_ble_eq_true rfl) (Nat.le_of_ble_eq_true rfl) d_Findings_init_23 (fun q23 cA23 H hK hP hD hS => ?_)
  have hP : va_P (dC, dI) classes [(h0, .inr (3, [.ref q7, .ref q15, .null, .null, .int 0])), (q7, .inl (cA7, 100, .inl (fun _ => 0))), (q15, .inl (cA15, 100, .inl (fun _ => 0))), (q23, .inl (cA23, 100, .inl (fun _ => 0)))] H := hP
  have hD : va_D A [(h0, .inr (3, [.ref q7, .ref q15, .null, .null, .int 0])), (q7, .inl (cA7, 100, .inl (fun _ => 0))), (q15, .inl (cA15, 100, .inl (fun _ => 0))), (q23, .inl (cA23, 100, .inl (fun _ => 0)))] := hD
  have hK : va_K (dC, dI) classes [(cA7, .int), (cA15, .int), (cA23, .int)] s := hK
  refine W.widen (k := 3) (n := 300) (Nat.le_refl _) (Nat.le_refl _) ?_
  refine va_putF (D := (dC, dI)) (ci := 3) (v := .ref q23) (ty := (.array .int)) (C := R_Findings) (T := F_Findings) (N := 5) hx hb hts i_Findings t_Findings t_Findings_ok n_Findings hown hK hP hD hS 0 rfl rfl 2 (by decide) (hts _ m_6) (fun _ h9 => h9) rfl hin rfl (by decide +kernel) rfl rfl (Nat.le_of_ble_eq_true rfl) d_Findings_init_25 (fun H locs hP hD hS => ?_)
  have hP : va_P (dC, dI) classes [(h0, .inr (3, [.ref q7, .ref q15, .ref q23, .null, .int 0])), (q7, .inl (cA7, 100, .inl (fun _ => 0))), (q15, .inl (cA15, 100, .inl (fun _ => 0))), (q23, .inl (cA23, 100, .inl (fun _ => 0)))] H := hP
  have hD : va_D A [(h0, .inr (3, [.ref q7, .ref q15, .ref q23, .null, .int 0])), (q7, .inl (cA7, 100, .inl (fun _ => 0))), (q15, .inl (cA15, 100, .inl (fun _ => 0))), (q23, .inl (cA23, 100, .inl (fun _ => 0)))] := hD
  refine lv_aload_n hx hb d_Findings_init_28 rfl (lv_at hl 0 rfl) ?_
  refine lv_bipush (v := 100) hx hb d_Findings_init_29 (by decide) ?_
  refine va_newa (atype := .int) (n := 100) (N' := 100) (a0 := (100, .inl (fun _ => 0))) hx hb (hts _ m_367) rfl hK hP hD hS hA (fun _ => rfl) (by decide) (by decide) (by decide) (Nat.le_of_ble_eq_true rfl) (Nat.le_of_ble_eq_true rfl) d_Findings_init_31 (fun q31 cA31 H hK hP hD hS => ?_)
  have hP : va_P (dC, dI) classes [(h0, .inr (3, [.ref q7, .ref q15, .ref q23, .null, .int 0])), (q7, .inl (cA7, 100, .inl (fun _ => 0))), (q15, .inl (cA15, 100, .inl (fun _ => 0))), (q23, .inl (cA23, 100, .inl (fun _ => 0))), (q31, .inl (cA31, 100, .inl (fun _ => 0)))] H := hP
  have hD : va_D A [(h0, .inr (3, [.ref q7, .ref q15, .ref q23, .null, .int 0])), (q7, .inl (cA7, 100, .inl (fun _ => 0))), (q15, .inl (cA15, 100, .inl (fun _ => 0))), (q23, .inl (cA23, 100, .inl (fun _ => 0))), (q31, .inl (cA31, 100, .inl (fun _ => 0)))] := hD
  have hK : va_K (dC, dI) classes [(cA7, .int), (cA15, .int), (cA23, .int), (cA31, .int)] s := hK
  refine W.widen (k := 4) (n := 400) (Nat.le_refl _) (Nat.le_refl _) ?_
  refine va_putF (D := (dC, dI)) (ci := 3) (v := .ref q31) (ty := (.array .int)) (C := R_Findings) (T := F_Findings) (N := 5) hx hb hts i_Findings t_Findings t_Findings_ok n_Findings hown hK hP hD hS 0 rfl rfl 3 (by decide) (hts _ m_0) (fun _ h9 => h9) rfl hin rfl (by decide +kernel) rfl rfl (Nat.le_of_ble_eq_true rfl) d_Findings_init_33 (fun H locs hP hD hS => ?_)
  have hP : va_P (dC, dI) classes [(h0, .inr (3, [.ref q7, .ref q15, .ref q23, .ref q31, .int 0])), (q7, .inl (cA7, 100, .inl (fun _ => 0))), (q15, .inl (cA15, 100, .inl (fun _ => 0))), (q23, .inl (cA23, 100, .inl (fun _ => 0))), (q31, .inl (cA31, 100, .inl (fun _ => 0)))] H := hP
  have hD : va_D A [(h0, .inr (3, [.ref q7, .ref q15, .ref q23, .ref q31, .int 0])), (q7, .inl (cA7, 100, .inl (fun _ => 0))), (q15, .inl (cA15, 100, .inl (fun _ => 0))), (q23, .inl (cA23, 100, .inl (fun _ => 0))), (q31, .inl (cA31, 100, .inl (fun _ => 0)))] := hD
  refine lv_aload_n hx hb d_Findings_init_36 rfl (lv_at hl 0 rfl) ?_
  refine lv_iconst (v := 0) hx hb d_Findings_init_37 (by decide) ?_
  refine va_put (D := (dC, dI)) (ci := 3) (v := .int 0) (ty := .int) (C := R_Findings) (T := F_Findings) (N := 5) hx hb hts i_Findings t_Findings t_Findings_ok n_Findings hown hK hP hD hS 0 rfl rfl 4 (by decide) (hts _ m_15) (fun _ h9 => h9) rfl (by decide +kernel) rfl rfl (Nat.le_of_ble_eq_true rfl) d_Findings_init_38 (fun H locs hP hD hS => ?_)
  have hP : va_P (dC, dI) classes [(h0, .inr (3, [.ref q7, .ref q15, .ref q23, .ref q31, .int 0])), (q7, .inl (cA7, 100, .inl (fun _ => 0))), (q15, .inl (cA15, 100, .inl (fun _ => 0))), (q23, .inl (cA23, 100, .inl (fun _ => 0))), (q31, .inl (cA31, 100, .inl (fun _ => 0)))] H := hP
  have hD : va_D A [(h0, .inr (3, [.ref q7, .ref q15, .ref q23, .ref q31, .int 0])), (q7, .inl (cA7, 100, .inl (fun _ => 0))), (q15, .inl (cA15, 100, .inl (fun _ => 0))), (q23, .inl (cA23, 100, .inl (fun _ => 0))), (q31, .inl (cA31, 100, .inl (fun _ => 0)))] := hD
  exact W.vret hx hb hr (fun t ht hW => ⟨⟨((fun k => ([h0, q7, q15, q23, q31] : List Nat).getD k 0), (fun k => ([0, cA7, cA15, cA23, cA31] : List ClassId).getD k 0)), rfl, trivial, ⟨by rw [ht]; exact hP, va_K.moved hW.alike hK, hD⟩⟩, hS.F ht⟩) hS.2.2 d_Findings_init_41
theorem d_Questions_init_0 : decode b_Questions_init 0 = .ok (.aload_n 0, 1) := by decide +kernel
theorem d_Questions_init_1 : decode b_Questions_init 1 = .ok (.invokespecial 3, 3) := by decide +kernel
theorem d_Questions_init_4 : decode b_Questions_init 4 = .ok (.aload_n 0, 1) := by decide +kernel
theorem d_Questions_init_5 : decode b_Questions_init 5 = .ok (.bipush 16, 2) := by decide +kernel
theorem d_Questions_init_7 : decode b_Questions_init 7 = .ok (.newarray .boolean, 2) := by decide +kernel
theorem d_Questions_init_9 : decode b_Questions_init 9 = .ok (.putfield 9, 3) := by decide +kernel
theorem d_Questions_init_12 : decode b_Questions_init 12 = .ok (.aload_n 0, 1) := by decide +kernel
theorem d_Questions_init_13 : decode b_Questions_init 13 = .ok (.bipush 16, 2) := by decide +kernel
theorem d_Questions_init_15 : decode b_Questions_init 15 = .ok (.newarray .int, 2) := by decide +kernel
theorem d_Questions_init_17 : decode b_Questions_init 17 = .ok (.putfield 15, 3) := by decide +kernel
theorem d_Questions_init_20 : decode b_Questions_init 20 = .ok (.aload_n 0, 1) := by decide +kernel
theorem d_Questions_init_21 : decode b_Questions_init 21 = .ok (.bipush 16, 2) := by decide +kernel
theorem d_Questions_init_23 : decode b_Questions_init 23 = .ok (.newarray .int, 2) := by decide +kernel
theorem d_Questions_init_25 : decode b_Questions_init 25 = .ok (.putfield 19, 3) := by decide +kernel
theorem d_Questions_init_28 : decode b_Questions_init 28 = .ok (.aload_n 0, 1) := by decide +kernel
theorem d_Questions_init_29 : decode b_Questions_init 29 = .ok (.bipush 16, 2) := by decide +kernel
theorem d_Questions_init_31 : decode b_Questions_init 31 = .ok (.newarray .int, 2) := by decide +kernel
theorem d_Questions_init_33 : decode b_Questions_init 33 = .ok (.putfield 22, 3) := by decide +kernel
theorem d_Questions_init_36 : decode b_Questions_init 36 = .ok (.aload_n 0, 1) := by decide +kernel
theorem d_Questions_init_37 : decode b_Questions_init 37 = .ok (.bipush 16, 2) := by decide +kernel
theorem d_Questions_init_39 : decode b_Questions_init 39 = .ok (.newarray .int, 2) := by decide +kernel
theorem d_Questions_init_41 : decode b_Questions_init 41 = .ok (.putfield 25, 3) := by decide +kernel
theorem d_Questions_init_44 : decode b_Questions_init 44 = .ok (.aload_n 0, 1) := by decide +kernel
theorem d_Questions_init_45 : decode b_Questions_init 45 = .ok (.iconst 0, 1) := by decide +kernel
theorem d_Questions_init_46 : decode b_Questions_init 46 = .ok (.putfield 28, 3) := by decide +kernel
theorem d_Questions_init_49 : decode b_Questions_init 49 = .ok (.return_, 1) := by decide +kernel
set_option maxHeartbeats 8000000 in
set_option maxRecDepth 100000 in
theorem c_Questions_init (l : Launch) (dC : Nat → ClassId) (dI : Nat → Nat → Nat) (h0 : Nat) (sz : Nat) : Met l y_Questions_init z_Questions_init { frames := 2, cells := 5, slots := 80, locals := 60 } (va_Pc [.ref h0] (fun U => U.heap.size = sz ∧ va_P (dC, dI) classes [(h0, .inr (4, [.null, .null, .null, .null, .null, .int 0]))] U.heap ∧ va_K (dC, dI) classes [] U ∧ va_D (fun _ => True) [(h0, .inr (4, [.null, .null, .null, .null, .null, .int 0]))])) (va_Qv (fun _ : (Nat → Nat) × (Nat → ClassId) => True) (fun (u : (Nat → Nat) × (Nat → ClassId)) t => va_P (dC, dI) classes [(h0, .inr (4, [.ref (u.1 1), .ref (u.1 2), .ref (u.1 3), .ref (u.1 4), .ref (u.1 5), .int 0])), ((u.1 1), .inl ((u.2 1), 16, .inl (fun _ => 0))), ((u.1 2), .inl ((u.2 2), 16, .inl (fun _ => 0))), ((u.1 3), .inl ((u.2 3), 16, .inl (fun _ => 0))), ((u.1 4), .inl ((u.2 4), 16, .inl (fun _ => 0))), ((u.1 5), .inl ((u.2 5), 16, .inl (fun _ => 0)))] t.heap ∧ va_K (dC, dI) classes [(u.2 1, .boolean), (u.2 2, .int), (u.2 3, .int), (u.2 4, .int), (u.2 5, .int)] t ∧ va_D (va_A [(h0, .inr (4, [.null, .null, .null, .null, .null, .int 0]))] sz) [(h0, .inr (4, [.ref (u.1 1), .ref (u.1 2), .ref (u.1 3), .ref (u.1 4), .ref (u.1 5), .int 0])), ((u.1 1), .inl ((u.2 1), 16, .inl (fun _ => 0))), ((u.1 2), .inl ((u.2 2), 16, .inl (fun _ => 0))), ((u.1 3), .inl ((u.2 3), 16, .inl (fun _ => 0))), ((u.1 4), .inl ((u.2 4), 16, .inl (fun _ => 0))), ((u.1 5), .inl ((u.2 5), 16, .inl (fun _ => 0)))]) (va_A [(h0, .inr (4, [.null, .null, .null, .null, .null, .int 0]))] sz)) 5 80 (va_A [(h0, .inr (4, [.null, .null, .null, .null, .null, .int 0]))] sz) := by
  refine Met.ofW (cc := b_Questions_init) (maxL := 1) (ret := none) (by decide) rfl ?_
  intro p e s m args below meth c s₁ B hml hv
  obtain ⟨rfl, hsz, hP, hK, hD0⟩ := hv
  have hx := B.exec
  have hb := B.bytes
  have hr := B.returns
  have hts : ∀ w ∈ w_all, w.before _ s = true := fun w hw => atoms_spec (ws := z_Questions_init) B.pre w (List.mem_cons_of_mem _ hw)
  have hown : s.vm.findClass R_Questions = some m.cls := findClass_of_methodNamed B.named
  have hlocks := B.notSynchronized
  have hin : meth.name = "<init>" := (name_of_methodNamed B.named B.method).1
  subst hsz
  have hD := hD0.self (sz := s.heap.size)
  generalize hAe : va_A [(h0, .inr (4, [.null, .null, .null, .null, .null, .int 0]))] s.heap.size = A at hD ⊢
  have hA : ∀ q : Nat, s.heap.size ≤ q → A q := fun q h => by rw [← hAe]; exact Or.inr h
  have hS : va_S A s.heap s.heap [] := va_S.rf
  have hP : va_P (dC, dI) classes [(h0, .inr (4, [.null, .null, .null, .null, .null, .int 0]))] s.heap := hP
  have hl := lv_entry ([.ref h0]) (n := 1) (Nat.le_of_ble_eq_true rfl)
  rw [lg_entry_eq]
  generalize (lg_sl ([.ref h0]) ++ List.replicate (1 - (lg_sl ([.ref h0])).length) Slot.unset).toArray = ls at hl ⊢
  have hl : lv_has ls 1 [(0, .ref h0)] := hl
  refine lv_aload_n hx hb d_Questions_init_0 rfl (lv_at hl 0 rfl) ?_
  refine W.objInit hx hb hown (hts _ m_373) (hts _ m_365) (hts _ m_366) rfl (by rw [hml]; exact hl.1) rfl d_Questions_init_1 (Nat.le_of_ble_eq_true rfl) (Nat.le_of_ble_eq_true rfl) ?_
  refine W.eq (g2 := F0 m 4 ls []) rfl ?_
  refine lv_aload_n hx hb d_Questions_init_4 rfl (lv_at hl 0 rfl) ?_
  refine lv_bipush (v := 16) hx hb d_Questions_init_5 (by decide) ?_
  refine va_newa (atype := .boolean) (n := 16) (N' := 16) (a0 := (16, .inl (fun _ => 0))) hx hb (hts _ m_374) rfl hK hP hD hS hA (fun _ => rfl) (by decide) (by decide) (by decide) (Nat.le_of_ble_eq_true rfl) (Nat.le_of_ble_eq_true rfl) d_Questions_init_7 (fun q7 cA7 H hK hP hD hS => ?_)
  have hP : va_P (dC, dI) classes [(h0, .inr (4, [.null, .null, .null, .null, .null, .int 0])), (q7, .inl (cA7, 16, .inl (fun _ => 0)))] H := hP
  have hD : va_D A [(h0, .inr (4, [.null, .null, .null, .null, .null, .int 0])), (q7, .inl (cA7, 16, .inl (fun _ => 0)))] := hD
  have hK : va_K (dC, dI) classes [(cA7, .boolean)] s := hK
  refine W.widen (k := 1) (n := 16) (Nat.le_refl _) (Nat.le_refl _) ?_
  refine va_putF (D := (dC, dI)) (ci := 4) (v := .ref q7) (ty := (.array .boolean)) (C := R_Questions) (T := F_Questions) (N := 6) hx hb hts i_Questions t_Questions t_Questions_ok n_Questions hown hK hP hD hS 0 rfl rfl 0 (by decide) (hts _ m_38) (fun _ h9 => h9) rfl hin rfl (by decide +kernel) rfl rfl (Nat.le_of_ble_eq_true rfl) d_Questions_init_9 (fun H locs hP hD hS => ?_)
  have hP : va_P (dC, dI) classes [(h0, .inr (4, [.ref q7, .null, .null, .null, .null, .int 0])), (q7, .inl (cA7, 16, .inl (fun _ => 0)))] H := hP
  have hD : va_D A [(h0, .inr (4, [.ref q7, .null, .null, .null, .null, .int 0])), (q7, .inl (cA7, 16, .inl (fun _ => 0)))] := hD
  refine lv_aload_n hx hb d_Questions_init_12 rfl (lv_at hl 0 rfl) ?_
  refine lv_bipush (v := 16) hx hb d_Questions_init_13 (by decide) ?_
  refine va_newa (atype := .int) (n := 16) (N' := 16) (a0 := (16, .inl (fun _ => 0))) hx hb (hts _ m_367) rfl hK hP hD hS hA (fun _ => rfl) (by decide) (by decide) (by decide) (Nat.le_of_ble_eq_true rfl) (Nat.le_of_ble_eq_true rfl) d_Questions_init_15 (fun q15 cA15 H hK hP hD hS => ?_)
  have hP : va_P (dC, dI) classes [(h0, .inr (4, [.ref q7, .null, .null, .null, .null, .int 0])), (q7, .inl (cA7, 16, .inl (fun _ => 0))), (q15, .inl (cA15, 16, .inl (fun _ => 0)))] H := hP
  have hD : va_D A [(h0, .inr (4, [.ref q7, .null, .null, .null, .null, .int 0])), (q7, .inl (cA7, 16, .inl (fun _ => 0))), (q15, .inl (cA15, 16, .inl (fun _ => 0)))] := hD
  have hK : va_K (dC, dI) classes [(cA7, .boolean), (cA15, .int)] s := hK
  refine W.widen (k := 2) (n := 32) (Nat.le_refl _) (Nat.le_refl _) ?_
  refine va_putF (D := (dC, dI)) (ci := 4) (v := .ref q15) (ty := (.array .int)) (C := R_Questions) (T := F_Questions) (N := 6) hx hb hts i_Questions t_Questions t_Questions_ok n_Questions hown hK hP hD hS 0 rfl rfl 1 (by decide) (hts _ m_39) (fun _ h9 => h9) rfl hin rfl (by decide +kernel) rfl rfl (Nat.le_of_ble_eq_true rfl) d_Questions_init_17 (fun H locs hP hD hS => ?_)
  have hP : va_P (dC, dI) classes [(h0, .inr (4, [.ref q7, .ref q15, .null, .null, .null, .int 0])), (q7, .inl (cA7, 16, .inl (fun _ => 0))), (q15, .inl (cA15, 16, .inl (fun _ => 0)))] H := hP
  have hD : va_D A [(h0, .inr (4, [.ref q7, .ref q15, .null, .null, .null, .int 0])), (q7, .inl (cA7, 16, .inl (fun _ => 0))), (q15, .inl (cA15, 16, .inl (fun _ => 0)))] := hD
  refine lv_aload_n hx hb d_Questions_init_20 rfl (lv_at hl 0 rfl) ?_
  refine lv_bipush (v := 16) hx hb d_Questions_init_21 (by decide) ?_
  refine va_newa (atype := .int) (n := 16) (N' := 16) (a0 := (16, .inl (fun _ => 0))) hx hb (hts _ m_367) rfl hK hP hD hS hA (fun _ => rfl) (by decide) (by decide) (by decide) (Nat.le_of_ble_eq_true rfl) (Nat.le_of_ble_eq_true rfl) d_Questions_init_23 (fun q23 cA23 H hK hP hD hS => ?_)
  have hP : va_P (dC, dI) classes [(h0, .inr (4, [.ref q7, .ref q15, .null, .null, .null, .int 0])), (q7, .inl (cA7, 16, .inl (fun _ => 0))), (q15, .inl (cA15, 16, .inl (fun _ => 0))), (q23, .inl (cA23, 16, .inl (fun _ => 0)))] H := hP
  have hD : va_D A [(h0, .inr (4, [.ref q7, .ref q15, .null, .null, .null, .int 0])), (q7, .inl (cA7, 16, .inl (fun _ => 0))), (q15, .inl (cA15, 16, .inl (fun _ => 0))), (q23, .inl (cA23, 16, .inl (fun _ => 0)))] := hD
  have hK : va_K (dC, dI) classes [(cA7, .boolean), (cA15, .int), (cA23, .int)] s := hK
  refine W.widen (k := 3) (n := 48) (Nat.le_refl _) (Nat.le_refl _) ?_
  refine va_putF (D := (dC, dI)) (ci := 4) (v := .ref q23) (ty := (.array .int)) (C := R_Questions) (T := F_Questions) (N := 6) hx hb hts i_Questions t_Questions t_Questions_ok n_Questions hown hK hP hD hS 0 rfl rfl 2 (by decide) (hts _ m_40) (fun _ h9 => h9) rfl hin rfl (by decide +kernel) rfl rfl (Nat.le_of_ble_eq_true rfl) d_Questions_init_25 (fun H locs hP hD hS => ?_)
  have hP : va_P (dC, dI) classes [(h0, .inr (4, [.ref q7, .ref q15, .ref q23, .null, .null, .int 0])), (q7, .inl (cA7, 16, .inl (fun _ => 0))), (q15, .inl (cA15, 16, .inl (fun _ => 0))), (q23, .inl (cA23, 16, .inl (fun _ => 0)))] H := hP
  have hD : va_D A [(h0, .inr (4, [.ref q7, .ref q15, .ref q23, .null, .null, .int 0])), (q7, .inl (cA7, 16, .inl (fun _ => 0))), (q15, .inl (cA15, 16, .inl (fun _ => 0))), (q23, .inl (cA23, 16, .inl (fun _ => 0)))] := hD
  refine lv_aload_n hx hb d_Questions_init_28 rfl (lv_at hl 0 rfl) ?_
  refine lv_bipush (v := 16) hx hb d_Questions_init_29 (by decide) ?_
  refine va_newa (atype := .int) (n := 16) (N' := 16) (a0 := (16, .inl (fun _ => 0))) hx hb (hts _ m_367) rfl hK hP hD hS hA (fun _ => rfl) (by decide) (by decide) (by decide) (Nat.le_of_ble_eq_true rfl) (Nat.le_of_ble_eq_true rfl) d_Questions_init_31 (fun q31 cA31 H hK hP hD hS => ?_)
  have hP : va_P (dC, dI) classes [(h0, .inr (4, [.ref q7, .ref q15, .ref q23, .null, .null, .int 0])), (q7, .inl (cA7, 16, .inl (fun _ => 0))), (q15, .inl (cA15, 16, .inl (fun _ => 0))), (q23, .inl (cA23, 16, .inl (fun _ => 0))), (q31, .inl (cA31, 16, .inl (fun _ => 0)))] H := hP
  have hD : va_D A [(h0, .inr (4, [.ref q7, .ref q15, .ref q23, .null, .null, .int 0])), (q7, .inl (cA7, 16, .inl (fun _ => 0))), (q15, .inl (cA15, 16, .inl (fun _ => 0))), (q23, .inl (cA23, 16, .inl (fun _ => 0))), (q31, .inl (cA31, 16, .inl (fun _ => 0)))] := hD
  have hK : va_K (dC, dI) classes [(cA7, .boolean), (cA15, .int), (cA23, .int), (cA31, .int)] s := hK
  refine W.widen (k := 4) (n := 64) (Nat.le_refl _) (Nat.le_refl _) ?_
  refine va_putF (D := (dC, dI)) (ci := 4) (v := .ref q31) (ty := (.array .int)) (C := R_Questions) (T := F_Questions) (N := 6) hx hb hts i_Questions t_Questions t_Questions_ok n_Questions hown hK hP hD hS 0 rfl rfl 3 (by decide) (hts _ m_41) (fun _ h9 => h9) rfl hin rfl (by decide +kernel) rfl rfl (Nat.le_of_ble_eq_true rfl) d_Questions_init_33 (fun H locs hP hD hS => ?_)
  have hP : va_P (dC, dI) classes [(h0, .inr (4, [.ref q7, .ref q15, .ref q23, .ref q31, .null, .int 0])), (q7, .inl (cA7, 16, .inl (fun _ => 0))), (q15, .inl (cA15, 16, .inl (fun _ => 0))), (q23, .inl (cA23, 16, .inl (fun _ => 0))), (q31, .inl (cA31, 16, .inl (fun _ => 0)))] H := hP
  have hD : va_D A [(h0, .inr (4, [.ref q7, .ref q15, .ref q23, .ref q31, .null, .int 0])), (q7, .inl (cA7, 16, .inl (fun _ => 0))), (q15, .inl (cA15, 16, .inl (fun _ => 0))), (q23, .inl (cA23, 16, .inl (fun _ => 0))), (q31, .inl (cA31, 16, .inl (fun _ => 0)))] := hD
  refine lv_aload_n hx hb d_Questions_init_36 rfl (lv_at hl 0 rfl) ?_
  refine lv_bipush (v := 16) hx hb d_Questions_init_37 (by decide) ?_
  refine va_newa (atype := .int) (n := 16) (N' := 16) (a0 := (16, .inl (fun _ => 0))) hx hb (hts _ m_367) rfl hK hP hD hS hA (fun _ => rfl) (by decide) (by decide) (by decide) (Nat.le_of_ble_eq_true rfl) (Nat.le_of_ble_eq_true rfl) d_Questions_init_39 (fun q39 cA39 H hK hP hD hS => ?_)
  have hP : va_P (dC, dI) classes [(h0, .inr (4, [.ref q7, .ref q15, .ref q23, .ref q31, .null, .int 0])), (q7, .inl (cA7, 16, .inl (fun _ => 0))), (q15, .inl (cA15, 16, .inl (fun _ => 0))), (q23, .inl (cA23, 16, .inl (fun _ => 0))), (q31, .inl (cA31, 16, .inl (fun _ => 0))), (q39, .inl (cA39, 16, .inl (fun _ => 0)))] H := hP
  have hD : va_D A [(h0, .inr (4, [.ref q7, .ref q15, .ref q23, .ref q31, .null, .int 0])), (q7, .inl (cA7, 16, .inl (fun _ => 0))), (q15, .inl (cA15, 16, .inl (fun _ => 0))), (q23, .inl (cA23, 16, .inl (fun _ => 0))), (q31, .inl (cA31, 16, .inl (fun _ => 0))), (q39, .inl (cA39, 16, .inl (fun _ => 0)))] := hD
  have hK : va_K (dC, dI) classes [(cA7, .boolean), (cA15, .int), (cA23, .int), (cA31, .int), (cA39, .int)] s := hK
  refine W.widen (k := 5) (n := 80) (Nat.le_refl _) (Nat.le_refl _) ?_
  refine va_putF (D := (dC, dI)) (ci := 4) (v := .ref q39) (ty := (.array .int)) (C := R_Questions) (T := F_Questions) (N := 6) hx hb hts i_Questions t_Questions t_Questions_ok n_Questions hown hK hP hD hS 0 rfl rfl 4 (by decide) (hts _ m_46) (fun _ h9 => h9) rfl hin rfl (by decide +kernel) rfl rfl (Nat.le_of_ble_eq_true rfl) d_Questions_init_41 (fun H locs hP hD hS => ?_)
  have hP : va_P (dC, dI) classes [(h0, .inr (4, [.ref q7, .ref q15, .ref q23, .ref q31, .ref q39, .int 0])), (q7, .inl (cA7, 16, .inl (fun _ => 0))), (q15, .inl (cA15, 16, .inl (fun _ => 0))), (q23, .inl (cA23, 16, .inl (fun _ => 0))), (q31, .inl (cA31, 16, .inl (fun _ => 0))), (q39, .inl (cA39, 16, .inl (fun _ => 0)))] H := hP
  have hD : va_D A [(h0, .inr (4, [.ref q7, .ref q15, .ref q23, .ref q31, .ref q39, .int 0])), (q7, .inl (cA7, 16, .inl (fun _ => 0))), (q15, .inl (cA15, 16, .inl (fun _ => 0))), (q23, .inl (cA23, 16, .inl (fun _ => 0))), (q31, .inl (cA31, 16, .inl (fun _ => 0))), (q39, .inl (cA39, 16, .inl (fun _ => 0)))] := hD
  refine lv_aload_n hx hb d_Questions_init_44 rfl (lv_at hl 0 rfl) ?_
  refine lv_iconst (v := 0) hx hb d_Questions_init_45 (by decide) ?_
  refine va_put (D := (dC, dI)) (ci := 4) (v := .int 0) (ty := .int) (C := R_Questions) (T := F_Questions) (N := 6) hx hb hts i_Questions t_Questions t_Questions_ok n_Questions hown hK hP hD hS 0 rfl rfl 5 (by decide) (hts _ m_47) (fun _ h9 => h9) rfl (by decide +kernel) rfl rfl (Nat.le_of_ble_eq_true rfl) d_Questions_init_46 (fun H locs hP hD hS => ?_)
  have hP : va_P (dC, dI) classes [(h0, .inr (4, [.ref q7, .ref q15, .ref q23, .ref q31, .ref q39, .int 0])), (q7, .inl (cA7, 16, .inl (fun _ => 0))), (q15, .inl (cA15, 16, .inl (fun _ => 0))), (q23, .inl (cA23, 16, .inl (fun _ => 0))), (q31, .inl (cA31, 16, .inl (fun _ => 0))), (q39, .inl (cA39, 16, .inl (fun _ => 0)))] H := hP
  have hD : va_D A [(h0, .inr (4, [.ref q7, .ref q15, .ref q23, .ref q31, .ref q39, .int 0])), (q7, .inl (cA7, 16, .inl (fun _ => 0))), (q15, .inl (cA15, 16, .inl (fun _ => 0))), (q23, .inl (cA23, 16, .inl (fun _ => 0))), (q31, .inl (cA31, 16, .inl (fun _ => 0))), (q39, .inl (cA39, 16, .inl (fun _ => 0)))] := hD
  exact W.vret hx hb hr (fun t ht hW => ⟨⟨((fun k => ([h0, q7, q15, q23, q31, q39] : List Nat).getD k 0), (fun k => ([0, cA7, cA15, cA23, cA31, cA39] : List ClassId).getD k 0)), rfl, trivial, ⟨by rw [ht]; exact hP, va_K.moved hW.alike hK, hD⟩⟩, hS.F ht⟩) hS.2.2 d_Questions_init_49
theorem d_Route_init_0 : decode b_Route_init 0 = .ok (.aload_n 0, 1) := by decide +kernel
theorem d_Route_init_1 : decode b_Route_init 1 = .ok (.invokespecial 3, 3) := by decide +kernel
theorem d_Route_init_4 : decode b_Route_init 4 = .ok (.aload_n 0, 1) := by decide +kernel
theorem d_Route_init_5 : decode b_Route_init 5 = .ok (.bipush 7, 2) := by decide +kernel
theorem d_Route_init_7 : decode b_Route_init 7 = .ok (.newarray .int, 2) := by decide +kernel
theorem d_Route_init_9 : decode b_Route_init 9 = .ok (.putfield 9, 3) := by decide +kernel
theorem d_Route_init_12 : decode b_Route_init 12 = .ok (.aload_n 0, 1) := by decide +kernel
theorem d_Route_init_13 : decode b_Route_init 13 = .ok (.bipush 8, 2) := by decide +kernel
theorem d_Route_init_15 : decode b_Route_init 15 = .ok (.newarray .int, 2) := by decide +kernel
theorem d_Route_init_17 : decode b_Route_init 17 = .ok (.putfield 15, 3) := by decide +kernel
theorem d_Route_init_20 : decode b_Route_init 20 = .ok (.aload_n 0, 1) := by decide +kernel
theorem d_Route_init_21 : decode b_Route_init 21 = .ok (.bipush 8, 2) := by decide +kernel
theorem d_Route_init_23 : decode b_Route_init 23 = .ok (.newarray .int, 2) := by decide +kernel
theorem d_Route_init_25 : decode b_Route_init 25 = .ok (.putfield 18, 3) := by decide +kernel
theorem d_Route_init_28 : decode b_Route_init 28 = .ok (.aload_n 0, 1) := by decide +kernel
theorem d_Route_init_29 : decode b_Route_init 29 = .ok (.bipush 64, 2) := by decide +kernel
theorem d_Route_init_31 : decode b_Route_init 31 = .ok (.newarray .int, 2) := by decide +kernel
theorem d_Route_init_33 : decode b_Route_init 33 = .ok (.putfield 21, 3) := by decide +kernel
theorem d_Route_init_36 : decode b_Route_init 36 = .ok (.aload_n 0, 1) := by decide +kernel
theorem d_Route_init_37 : decode b_Route_init 37 = .ok (.sipush 1024, 3) := by decide +kernel
theorem d_Route_init_40 : decode b_Route_init 40 = .ok (.newarray .int, 2) := by decide +kernel
theorem d_Route_init_42 : decode b_Route_init 42 = .ok (.putfield 24, 3) := by decide +kernel
theorem d_Route_init_45 : decode b_Route_init 45 = .ok (.aload_n 0, 1) := by decide +kernel
theorem d_Route_init_46 : decode b_Route_init 46 = .ok (.bipush 7, 2) := by decide +kernel
theorem d_Route_init_48 : decode b_Route_init 48 = .ok (.newarray .int, 2) := by decide +kernel
theorem d_Route_init_50 : decode b_Route_init 50 = .ok (.putfield 27, 3) := by decide +kernel
theorem d_Route_init_53 : decode b_Route_init 53 = .ok (.aload_n 0, 1) := by decide +kernel
theorem d_Route_init_54 : decode b_Route_init 54 = .ok (.iconst 0, 1) := by decide +kernel
theorem d_Route_init_55 : decode b_Route_init 55 = .ok (.putfield 30, 3) := by decide +kernel
theorem d_Route_init_58 : decode b_Route_init 58 = .ok (.return_, 1) := by decide +kernel
set_option maxHeartbeats 8000000 in
set_option maxRecDepth 100000 in
theorem c_Route_init (l : Launch) (dC : Nat → ClassId) (dI : Nat → Nat → Nat) (h0 : Nat) (sz : Nat) : Met l y_Route_init z_Route_init { frames := 2, cells := 6, slots := 1118, locals := 60 } (va_Pc [.ref h0] (fun U => U.heap.size = sz ∧ va_P (dC, dI) classes [(h0, .inr (5, [.null, .null, .null, .null, .null, .null, .int 0]))] U.heap ∧ va_K (dC, dI) classes [] U ∧ va_D (fun _ => True) [(h0, .inr (5, [.null, .null, .null, .null, .null, .null, .int 0]))])) (va_Qv (fun _ : (Nat → Nat) × (Nat → ClassId) => True) (fun (u : (Nat → Nat) × (Nat → ClassId)) t => va_P (dC, dI) classes [(h0, .inr (5, [.ref (u.1 1), .ref (u.1 2), .ref (u.1 3), .ref (u.1 4), .ref (u.1 5), .ref (u.1 6), .int 0])), ((u.1 1), .inl ((u.2 1), 7, .inl (fun _ => 0))), ((u.1 2), .inl ((u.2 2), 8, .inl (fun _ => 0))), ((u.1 3), .inl ((u.2 3), 8, .inl (fun _ => 0))), ((u.1 4), .inl ((u.2 4), 64, .inl (fun _ => 0))), ((u.1 5), .inl ((u.2 5), 1024, .inl (fun _ => 0))), ((u.1 6), .inl ((u.2 6), 7, .inl (fun _ => 0)))] t.heap ∧ va_K (dC, dI) classes [(u.2 1, .int), (u.2 2, .int), (u.2 3, .int), (u.2 4, .int), (u.2 5, .int), (u.2 6, .int)] t ∧ va_D (va_A [(h0, .inr (5, [.null, .null, .null, .null, .null, .null, .int 0]))] sz) [(h0, .inr (5, [.ref (u.1 1), .ref (u.1 2), .ref (u.1 3), .ref (u.1 4), .ref (u.1 5), .ref (u.1 6), .int 0])), ((u.1 1), .inl ((u.2 1), 7, .inl (fun _ => 0))), ((u.1 2), .inl ((u.2 2), 8, .inl (fun _ => 0))), ((u.1 3), .inl ((u.2 3), 8, .inl (fun _ => 0))), ((u.1 4), .inl ((u.2 4), 64, .inl (fun _ => 0))), ((u.1 5), .inl ((u.2 5), 1024, .inl (fun _ => 0))), ((u.1 6), .inl ((u.2 6), 7, .inl (fun _ => 0)))]) (va_A [(h0, .inr (5, [.null, .null, .null, .null, .null, .null, .int 0]))] sz)) 6 1118 (va_A [(h0, .inr (5, [.null, .null, .null, .null, .null, .null, .int 0]))] sz) := by
  refine Met.ofW (cc := b_Route_init) (maxL := 1) (ret := none) (by decide) rfl ?_
  intro p e s m args below meth c s₁ B hml hv
  obtain ⟨rfl, hsz, hP, hK, hD0⟩ := hv
  have hx := B.exec
  have hb := B.bytes
  have hr := B.returns
  have hts : ∀ w ∈ w_all, w.before _ s = true := fun w hw => atoms_spec (ws := z_Route_init) B.pre w (List.mem_cons_of_mem _ hw)
  have hown : s.vm.findClass R_Route = some m.cls := findClass_of_methodNamed B.named
  have hlocks := B.notSynchronized
  have hin : meth.name = "<init>" := (name_of_methodNamed B.named B.method).1
  subst hsz
  have hD := hD0.self (sz := s.heap.size)
  generalize hAe : va_A [(h0, .inr (5, [.null, .null, .null, .null, .null, .null, .int 0]))] s.heap.size = A at hD ⊢
  have hA : ∀ q : Nat, s.heap.size ≤ q → A q := fun q h => by rw [← hAe]; exact Or.inr h
  have hS : va_S A s.heap s.heap [] := va_S.rf
  have hP : va_P (dC, dI) classes [(h0, .inr (5, [.null, .null, .null, .null, .null, .null, .int 0]))] s.heap := hP
  have hl := lv_entry ([.ref h0]) (n := 1) (Nat.le_of_ble_eq_true rfl)
  rw [lg_entry_eq]
  generalize (lg_sl ([.ref h0]) ++ List.replicate (1 - (lg_sl ([.ref h0])).length) Slot.unset).toArray = ls at hl ⊢
  have hl : lv_has ls 1 [(0, .ref h0)] := hl
  refine lv_aload_n hx hb d_Route_init_0 rfl (lv_at hl 0 rfl) ?_
  refine W.objInit hx hb hown (hts _ m_375) (hts _ m_365) (hts _ m_366) rfl (by rw [hml]; exact hl.1) rfl d_Route_init_1 (Nat.le_of_ble_eq_true rfl) (Nat.le_of_ble_eq_true rfl) ?_
  refine W.eq (g2 := F0 m 4 ls []) rfl ?_
  refine lv_aload_n hx hb d_Route_init_4 rfl (lv_at hl 0 rfl) ?_
  refine lv_bipush (v := 7) hx hb d_Route_init_5 (by decide) ?_
  refine va_newa (atype := .int) (n := 7) (N' := 7) (a0 := (7, .inl (fun _ => 0))) hx hb (hts _ m_367) rfl hK hP hD hS hA (fun _ => rfl) (by decide) (by decide) (by decide) (Nat.le_of_ble_eq_true rfl) (Nat.le_of_ble_eq_true rfl) d_Route_init_7 (fun q7 cA7 H hK hP hD hS => ?_)
  have hP : va_P (dC, dI) classes [(h0, .inr (5, [.null, .null, .null, .null, .null, .null, .int 0])), (q7, .inl (cA7, 7, .inl (fun _ => 0)))] H := hP
  have hD : va_D A [(h0, .inr (5, [.null, .null, .null, .null, .null, .null, .int 0])), (q7, .inl (cA7, 7, .inl (fun _ => 0)))] := hD
  have hK : va_K (dC, dI) classes [(cA7, .int)] s := hK
  refine W.widen (k := 1) (n := 7) (Nat.le_refl _) (Nat.le_refl _) ?_
  refine va_putF (D := (dC, dI)) (ci := 5) (v := .ref q7) (ty := (.array .int)) (C := R_Route) (T := F_Route) (N := 7) hx hb hts i_Route t_Route t_Route_ok n_Route hown hK hP hD hS 0 rfl rfl 0 (by decide) (hts _ m_102) (fun _ h9 => h9) rfl hin rfl (by decide +kernel) rfl rfl (Nat.le_of_ble_eq_true rfl) d_Route_init_9 (fun H locs hP hD hS => ?_)
  have hP : va_P (dC, dI) classes [(h0, .inr (5, [.ref q7, .null, .null, .null, .null, .null, .int 0])), (q7, .inl (cA7, 7, .inl (fun _ => 0)))] H := hP
  have hD : va_D A [(h0, .inr (5, [.ref q7, .null, .null, .null, .null, .null, .int 0])), (q7, .inl (cA7, 7, .inl (fun _ => 0)))] := hD
  refine lv_aload_n hx hb d_Route_init_12 rfl (lv_at hl 0 rfl) ?_
  refine lv_bipush (v := 8) hx hb d_Route_init_13 (by decide) ?_
  refine va_newa (atype := .int) (n := 8) (N' := 8) (a0 := (8, .inl (fun _ => 0))) hx hb (hts _ m_367) rfl hK hP hD hS hA (fun _ => rfl) (by decide) (by decide) (by decide) (Nat.le_of_ble_eq_true rfl) (Nat.le_of_ble_eq_true rfl) d_Route_init_15 (fun q15 cA15 H hK hP hD hS => ?_)
  have hP : va_P (dC, dI) classes [(h0, .inr (5, [.ref q7, .null, .null, .null, .null, .null, .int 0])), (q7, .inl (cA7, 7, .inl (fun _ => 0))), (q15, .inl (cA15, 8, .inl (fun _ => 0)))] H := hP
  have hD : va_D A [(h0, .inr (5, [.ref q7, .null, .null, .null, .null, .null, .int 0])), (q7, .inl (cA7, 7, .inl (fun _ => 0))), (q15, .inl (cA15, 8, .inl (fun _ => 0)))] := hD
  have hK : va_K (dC, dI) classes [(cA7, .int), (cA15, .int)] s := hK
  refine W.widen (k := 2) (n := 15) (Nat.le_refl _) (Nat.le_refl _) ?_
  refine va_putF (D := (dC, dI)) (ci := 5) (v := .ref q15) (ty := (.array .int)) (C := R_Route) (T := F_Route) (N := 7) hx hb hts i_Route t_Route t_Route_ok n_Route hown hK hP hD hS 0 rfl rfl 1 (by decide) (hts _ m_103) (fun _ h9 => h9) rfl hin rfl (by decide +kernel) rfl rfl (Nat.le_of_ble_eq_true rfl) d_Route_init_17 (fun H locs hP hD hS => ?_)
  have hP : va_P (dC, dI) classes [(h0, .inr (5, [.ref q7, .ref q15, .null, .null, .null, .null, .int 0])), (q7, .inl (cA7, 7, .inl (fun _ => 0))), (q15, .inl (cA15, 8, .inl (fun _ => 0)))] H := hP
  have hD : va_D A [(h0, .inr (5, [.ref q7, .ref q15, .null, .null, .null, .null, .int 0])), (q7, .inl (cA7, 7, .inl (fun _ => 0))), (q15, .inl (cA15, 8, .inl (fun _ => 0)))] := hD
  refine lv_aload_n hx hb d_Route_init_20 rfl (lv_at hl 0 rfl) ?_
  refine lv_bipush (v := 8) hx hb d_Route_init_21 (by decide) ?_
  refine va_newa (atype := .int) (n := 8) (N' := 8) (a0 := (8, .inl (fun _ => 0))) hx hb (hts _ m_367) rfl hK hP hD hS hA (fun _ => rfl) (by decide) (by decide) (by decide) (Nat.le_of_ble_eq_true rfl) (Nat.le_of_ble_eq_true rfl) d_Route_init_23 (fun q23 cA23 H hK hP hD hS => ?_)
  have hP : va_P (dC, dI) classes [(h0, .inr (5, [.ref q7, .ref q15, .null, .null, .null, .null, .int 0])), (q7, .inl (cA7, 7, .inl (fun _ => 0))), (q15, .inl (cA15, 8, .inl (fun _ => 0))), (q23, .inl (cA23, 8, .inl (fun _ => 0)))] H := hP
  have hD : va_D A [(h0, .inr (5, [.ref q7, .ref q15, .null, .null, .null, .null, .int 0])), (q7, .inl (cA7, 7, .inl (fun _ => 0))), (q15, .inl (cA15, 8, .inl (fun _ => 0))), (q23, .inl (cA23, 8, .inl (fun _ => 0)))] := hD
  have hK : va_K (dC, dI) classes [(cA7, .int), (cA15, .int), (cA23, .int)] s := hK
  refine W.widen (k := 3) (n := 23) (Nat.le_refl _) (Nat.le_refl _) ?_
  refine va_putF (D := (dC, dI)) (ci := 5) (v := .ref q23) (ty := (.array .int)) (C := R_Route) (T := F_Route) (N := 7) hx hb hts i_Route t_Route t_Route_ok n_Route hown hK hP hD hS 0 rfl rfl 2 (by decide) (hts _ m_104) (fun _ h9 => h9) rfl hin rfl (by decide +kernel) rfl rfl (Nat.le_of_ble_eq_true rfl) d_Route_init_25 (fun H locs hP hD hS => ?_)
  have hP : va_P (dC, dI) classes [(h0, .inr (5, [.ref q7, .ref q15, .ref q23, .null, .null, .null, .int 0])), (q7, .inl (cA7, 7, .inl (fun _ => 0))), (q15, .inl (cA15, 8, .inl (fun _ => 0))), (q23, .inl (cA23, 8, .inl (fun _ => 0)))] H := hP
  have hD : va_D A [(h0, .inr (5, [.ref q7, .ref q15, .ref q23, .null, .null, .null, .int 0])), (q7, .inl (cA7, 7, .inl (fun _ => 0))), (q15, .inl (cA15, 8, .inl (fun _ => 0))), (q23, .inl (cA23, 8, .inl (fun _ => 0)))] := hD
  refine lv_aload_n hx hb d_Route_init_28 rfl (lv_at hl 0 rfl) ?_
  refine lv_bipush (v := 64) hx hb d_Route_init_29 (by decide) ?_
  refine va_newa (atype := .int) (n := 64) (N' := 64) (a0 := (64, .inl (fun _ => 0))) hx hb (hts _ m_367) rfl hK hP hD hS hA (fun _ => rfl) (by decide) (by decide) (by decide) (Nat.le_of_ble_eq_true rfl) (Nat.le_of_ble_eq_true rfl) d_Route_init_31 (fun q31 cA31 H hK hP hD hS => ?_)
  have hP : va_P (dC, dI) classes [(h0, .inr (5, [.ref q7, .ref q15, .ref q23, .null, .null, .null, .int 0])), (q7, .inl (cA7, 7, .inl (fun _ => 0))), (q15, .inl (cA15, 8, .inl (fun _ => 0))), (q23, .inl (cA23, 8, .inl (fun _ => 0))), (q31, .inl (cA31, 64, .inl (fun _ => 0)))] H := hP
  have hD : va_D A [(h0, .inr (5, [.ref q7, .ref q15, .ref q23, .null, .null, .null, .int 0])), (q7, .inl (cA7, 7, .inl (fun _ => 0))), (q15, .inl (cA15, 8, .inl (fun _ => 0))), (q23, .inl (cA23, 8, .inl (fun _ => 0))), (q31, .inl (cA31, 64, .inl (fun _ => 0)))] := hD
  have hK : va_K (dC, dI) classes [(cA7, .int), (cA15, .int), (cA23, .int), (cA31, .int)] s := hK
  refine W.widen (k := 4) (n := 87) (Nat.le_refl _) (Nat.le_refl _) ?_
  refine va_putF (D := (dC, dI)) (ci := 5) (v := .ref q31) (ty := (.array .int)) (C := R_Route) (T := F_Route) (N := 7) hx hb hts i_Route t_Route t_Route_ok n_Route hown hK hP hD hS 0 rfl rfl 3 (by decide) (hts _ m_90) (fun _ h9 => h9) rfl hin rfl (by decide +kernel) rfl rfl (Nat.le_of_ble_eq_true rfl) d_Route_init_33 (fun H locs hP hD hS => ?_)
  have hP : va_P (dC, dI) classes [(h0, .inr (5, [.ref q7, .ref q15, .ref q23, .ref q31, .null, .null, .int 0])), (q7, .inl (cA7, 7, .inl (fun _ => 0))), (q15, .inl (cA15, 8, .inl (fun _ => 0))), (q23, .inl (cA23, 8, .inl (fun _ => 0))), (q31, .inl (cA31, 64, .inl (fun _ => 0)))] H := hP
  have hD : va_D A [(h0, .inr (5, [.ref q7, .ref q15, .ref q23, .ref q31, .null, .null, .int 0])), (q7, .inl (cA7, 7, .inl (fun _ => 0))), (q15, .inl (cA15, 8, .inl (fun _ => 0))), (q23, .inl (cA23, 8, .inl (fun _ => 0))), (q31, .inl (cA31, 64, .inl (fun _ => 0)))] := hD
  refine lv_aload_n hx hb d_Route_init_36 rfl (lv_at hl 0 rfl) ?_
  refine lv_sipush (v := 1024) hx hb d_Route_init_37 (by decide) ?_
  refine va_newa (atype := .int) (n := 1024) (N' := 1024) (a0 := (1024, .inl (fun _ => 0))) hx hb (hts _ m_367) rfl hK hP hD hS hA (fun _ => rfl) (by decide) (by decide) (by decide) (Nat.le_of_ble_eq_true rfl) (Nat.le_of_ble_eq_true rfl) d_Route_init_40 (fun q40 cA40 H hK hP hD hS => ?_)
  have hP : va_P (dC, dI) classes [(h0, .inr (5, [.ref q7, .ref q15, .ref q23, .ref q31, .null, .null, .int 0])), (q7, .inl (cA7, 7, .inl (fun _ => 0))), (q15, .inl (cA15, 8, .inl (fun _ => 0))), (q23, .inl (cA23, 8, .inl (fun _ => 0))), (q31, .inl (cA31, 64, .inl (fun _ => 0))), (q40, .inl (cA40, 1024, .inl (fun _ => 0)))] H := hP
  have hD : va_D A [(h0, .inr (5, [.ref q7, .ref q15, .ref q23, .ref q31, .null, .null, .int 0])), (q7, .inl (cA7, 7, .inl (fun _ => 0))), (q15, .inl (cA15, 8, .inl (fun _ => 0))), (q23, .inl (cA23, 8, .inl (fun _ => 0))), (q31, .inl (cA31, 64, .inl (fun _ => 0))), (q40, .inl (cA40, 1024, .inl (fun _ => 0)))] := hD
  have hK : va_K (dC, dI) classes [(cA7, .int), (cA15, .int), (cA23, .int), (cA31, .int), (cA40, .int)] s := hK
  refine W.widen (k := 5) (n := 1111) (Nat.le_refl _) (Nat.le_refl _) ?_
  refine va_putF (D := (dC, dI)) (ci := 5) (v := .ref q40) (ty := (.array .int)) (C := R_Route) (T := F_Route) (N := 7) hx hb hts i_Route t_Route t_Route_ok n_Route hown hK hP hD hS 0 rfl rfl 4 (by decide) (hts _ m_91) (fun _ h9 => h9) rfl hin rfl (by decide +kernel) rfl rfl (Nat.le_of_ble_eq_true rfl) d_Route_init_42 (fun H locs hP hD hS => ?_)
  have hP : va_P (dC, dI) classes [(h0, .inr (5, [.ref q7, .ref q15, .ref q23, .ref q31, .ref q40, .null, .int 0])), (q7, .inl (cA7, 7, .inl (fun _ => 0))), (q15, .inl (cA15, 8, .inl (fun _ => 0))), (q23, .inl (cA23, 8, .inl (fun _ => 0))), (q31, .inl (cA31, 64, .inl (fun _ => 0))), (q40, .inl (cA40, 1024, .inl (fun _ => 0)))] H := hP
  have hD : va_D A [(h0, .inr (5, [.ref q7, .ref q15, .ref q23, .ref q31, .ref q40, .null, .int 0])), (q7, .inl (cA7, 7, .inl (fun _ => 0))), (q15, .inl (cA15, 8, .inl (fun _ => 0))), (q23, .inl (cA23, 8, .inl (fun _ => 0))), (q31, .inl (cA31, 64, .inl (fun _ => 0))), (q40, .inl (cA40, 1024, .inl (fun _ => 0)))] := hD
  refine lv_aload_n hx hb d_Route_init_45 rfl (lv_at hl 0 rfl) ?_
  refine lv_bipush (v := 7) hx hb d_Route_init_46 (by decide) ?_
  refine va_newa (atype := .int) (n := 7) (N' := 7) (a0 := (7, .inl (fun _ => 0))) hx hb (hts _ m_367) rfl hK hP hD hS hA (fun _ => rfl) (by decide) (by decide) (by decide) (Nat.le_of_ble_eq_true rfl) (Nat.le_of_ble_eq_true rfl) d_Route_init_48 (fun q48 cA48 H hK hP hD hS => ?_)
  have hP : va_P (dC, dI) classes [(h0, .inr (5, [.ref q7, .ref q15, .ref q23, .ref q31, .ref q40, .null, .int 0])), (q7, .inl (cA7, 7, .inl (fun _ => 0))), (q15, .inl (cA15, 8, .inl (fun _ => 0))), (q23, .inl (cA23, 8, .inl (fun _ => 0))), (q31, .inl (cA31, 64, .inl (fun _ => 0))), (q40, .inl (cA40, 1024, .inl (fun _ => 0))), (q48, .inl (cA48, 7, .inl (fun _ => 0)))] H := hP
  have hD : va_D A [(h0, .inr (5, [.ref q7, .ref q15, .ref q23, .ref q31, .ref q40, .null, .int 0])), (q7, .inl (cA7, 7, .inl (fun _ => 0))), (q15, .inl (cA15, 8, .inl (fun _ => 0))), (q23, .inl (cA23, 8, .inl (fun _ => 0))), (q31, .inl (cA31, 64, .inl (fun _ => 0))), (q40, .inl (cA40, 1024, .inl (fun _ => 0))), (q48, .inl (cA48, 7, .inl (fun _ => 0)))] := hD
  have hK : va_K (dC, dI) classes [(cA7, .int), (cA15, .int), (cA23, .int), (cA31, .int), (cA40, .int), (cA48, .int)] s := hK
  refine W.widen (k := 6) (n := 1118) (Nat.le_refl _) (Nat.le_refl _) ?_
  refine va_putF (D := (dC, dI)) (ci := 5) (v := .ref q48) (ty := (.array .int)) (C := R_Route) (T := F_Route) (N := 7) hx hb hts i_Route t_Route t_Route_ok n_Route hown hK hP hD hS 0 rfl rfl 5 (by decide) (hts _ m_118) (fun _ h9 => h9) rfl hin rfl (by decide +kernel) rfl rfl (Nat.le_of_ble_eq_true rfl) d_Route_init_50 (fun H locs hP hD hS => ?_)
  have hP : va_P (dC, dI) classes [(h0, .inr (5, [.ref q7, .ref q15, .ref q23, .ref q31, .ref q40, .ref q48, .int 0])), (q7, .inl (cA7, 7, .inl (fun _ => 0))), (q15, .inl (cA15, 8, .inl (fun _ => 0))), (q23, .inl (cA23, 8, .inl (fun _ => 0))), (q31, .inl (cA31, 64, .inl (fun _ => 0))), (q40, .inl (cA40, 1024, .inl (fun _ => 0))), (q48, .inl (cA48, 7, .inl (fun _ => 0)))] H := hP
  have hD : va_D A [(h0, .inr (5, [.ref q7, .ref q15, .ref q23, .ref q31, .ref q40, .ref q48, .int 0])), (q7, .inl (cA7, 7, .inl (fun _ => 0))), (q15, .inl (cA15, 8, .inl (fun _ => 0))), (q23, .inl (cA23, 8, .inl (fun _ => 0))), (q31, .inl (cA31, 64, .inl (fun _ => 0))), (q40, .inl (cA40, 1024, .inl (fun _ => 0))), (q48, .inl (cA48, 7, .inl (fun _ => 0)))] := hD
  refine lv_aload_n hx hb d_Route_init_53 rfl (lv_at hl 0 rfl) ?_
  refine lv_iconst (v := 0) hx hb d_Route_init_54 (by decide) ?_
  refine va_put (D := (dC, dI)) (ci := 5) (v := .int 0) (ty := .int) (C := R_Route) (T := F_Route) (N := 7) hx hb hts i_Route t_Route t_Route_ok n_Route hown hK hP hD hS 0 rfl rfl 6 (by decide) (hts _ m_96) (fun _ h9 => h9) rfl (by decide +kernel) rfl rfl (Nat.le_of_ble_eq_true rfl) d_Route_init_55 (fun H locs hP hD hS => ?_)
  have hP : va_P (dC, dI) classes [(h0, .inr (5, [.ref q7, .ref q15, .ref q23, .ref q31, .ref q40, .ref q48, .int 0])), (q7, .inl (cA7, 7, .inl (fun _ => 0))), (q15, .inl (cA15, 8, .inl (fun _ => 0))), (q23, .inl (cA23, 8, .inl (fun _ => 0))), (q31, .inl (cA31, 64, .inl (fun _ => 0))), (q40, .inl (cA40, 1024, .inl (fun _ => 0))), (q48, .inl (cA48, 7, .inl (fun _ => 0)))] H := hP
  have hD : va_D A [(h0, .inr (5, [.ref q7, .ref q15, .ref q23, .ref q31, .ref q40, .ref q48, .int 0])), (q7, .inl (cA7, 7, .inl (fun _ => 0))), (q15, .inl (cA15, 8, .inl (fun _ => 0))), (q23, .inl (cA23, 8, .inl (fun _ => 0))), (q31, .inl (cA31, 64, .inl (fun _ => 0))), (q40, .inl (cA40, 1024, .inl (fun _ => 0))), (q48, .inl (cA48, 7, .inl (fun _ => 0)))] := hD
  exact W.vret hx hb hr (fun t ht hW => ⟨⟨((fun k => ([h0, q7, q15, q23, q31, q40, q48] : List Nat).getD k 0), (fun k => ([0, cA7, cA15, cA23, cA31, cA40, cA48] : List ClassId).getD k 0)), rfl, trivial, ⟨by rw [ht]; exact hP, va_K.moved hW.alike hK, hD⟩⟩, hS.F ht⟩) hS.2.2 d_Route_init_58
theorem d_Permits_init_0 : decode b_Permits_init 0 = .ok (.aload_n 0, 1) := by decide +kernel
theorem d_Permits_init_1 : decode b_Permits_init 1 = .ok (.invokespecial 3, 3) := by decide +kernel
theorem d_Permits_init_4 : decode b_Permits_init 4 = .ok (.aload_n 0, 1) := by decide +kernel
theorem d_Permits_init_5 : decode b_Permits_init 5 = .ok (.bipush 30, 2) := by decide +kernel
theorem d_Permits_init_7 : decode b_Permits_init 7 = .ok (.newarray .int, 2) := by decide +kernel
theorem d_Permits_init_9 : decode b_Permits_init 9 = .ok (.putfield 9, 3) := by decide +kernel
theorem d_Permits_init_12 : decode b_Permits_init 12 = .ok (.aload_n 0, 1) := by decide +kernel
theorem d_Permits_init_13 : decode b_Permits_init 13 = .ok (.bipush 30, 2) := by decide +kernel
theorem d_Permits_init_15 : decode b_Permits_init 15 = .ok (.newarray .int, 2) := by decide +kernel
theorem d_Permits_init_17 : decode b_Permits_init 17 = .ok (.putfield 15, 3) := by decide +kernel
theorem d_Permits_init_20 : decode b_Permits_init 20 = .ok (.aload_n 0, 1) := by decide +kernel
theorem d_Permits_init_21 : decode b_Permits_init 21 = .ok (.bipush 30, 2) := by decide +kernel
theorem d_Permits_init_23 : decode b_Permits_init 23 = .ok (.newarray .int, 2) := by decide +kernel
theorem d_Permits_init_25 : decode b_Permits_init 25 = .ok (.putfield 18, 3) := by decide +kernel
theorem d_Permits_init_28 : decode b_Permits_init 28 = .ok (.aload_n 0, 1) := by decide +kernel
theorem d_Permits_init_29 : decode b_Permits_init 29 = .ok (.bipush 30, 2) := by decide +kernel
theorem d_Permits_init_31 : decode b_Permits_init 31 = .ok (.newarray .int, 2) := by decide +kernel
theorem d_Permits_init_33 : decode b_Permits_init 33 = .ok (.putfield 21, 3) := by decide +kernel
theorem d_Permits_init_36 : decode b_Permits_init 36 = .ok (.aload_n 0, 1) := by decide +kernel
theorem d_Permits_init_37 : decode b_Permits_init 37 = .ok (.bipush 30, 2) := by decide +kernel
theorem d_Permits_init_39 : decode b_Permits_init 39 = .ok (.newarray .int, 2) := by decide +kernel
theorem d_Permits_init_41 : decode b_Permits_init 41 = .ok (.putfield 24, 3) := by decide +kernel
theorem d_Permits_init_44 : decode b_Permits_init 44 = .ok (.aload_n 0, 1) := by decide +kernel
theorem d_Permits_init_45 : decode b_Permits_init 45 = .ok (.bipush 30, 2) := by decide +kernel
theorem d_Permits_init_47 : decode b_Permits_init 47 = .ok (.newarray .int, 2) := by decide +kernel
theorem d_Permits_init_49 : decode b_Permits_init 49 = .ok (.putfield 27, 3) := by decide +kernel
theorem d_Permits_init_52 : decode b_Permits_init 52 = .ok (.aload_n 0, 1) := by decide +kernel
theorem d_Permits_init_53 : decode b_Permits_init 53 = .ok (.iconst 0, 1) := by decide +kernel
theorem d_Permits_init_54 : decode b_Permits_init 54 = .ok (.putfield 30, 3) := by decide +kernel
theorem d_Permits_init_57 : decode b_Permits_init 57 = .ok (.aload_n 0, 1) := by decide +kernel
theorem d_Permits_init_58 : decode b_Permits_init 58 = .ok (.iconst 0, 1) := by decide +kernel
theorem d_Permits_init_59 : decode b_Permits_init 59 = .ok (.putfield 34, 3) := by decide +kernel
theorem d_Permits_init_62 : decode b_Permits_init 62 = .ok (.aload_n 0, 1) := by decide +kernel
theorem d_Permits_init_63 : decode b_Permits_init 63 = .ok (.ldc 38, 2) := by decide +kernel
theorem d_Permits_init_65 : decode b_Permits_init 65 = .ok (.putfield 39, 3) := by decide +kernel
theorem d_Permits_init_68 : decode b_Permits_init 68 = .ok (.aload_n 0, 1) := by decide +kernel
theorem d_Permits_init_69 : decode b_Permits_init 69 = .ok (.sipush 5000, 3) := by decide +kernel
theorem d_Permits_init_72 : decode b_Permits_init 72 = .ok (.putfield 42, 3) := by decide +kernel
theorem d_Permits_init_75 : decode b_Permits_init 75 = .ok (.aload_n 0, 1) := by decide +kernel
theorem d_Permits_init_76 : decode b_Permits_init 76 = .ok (.iconst (-1), 1) := by decide +kernel
theorem d_Permits_init_77 : decode b_Permits_init 77 = .ok (.putfield 45, 3) := by decide +kernel
theorem d_Permits_init_80 : decode b_Permits_init 80 = .ok (.return_, 1) := by decide +kernel
set_option maxHeartbeats 8000000 in
set_option maxRecDepth 100000 in
theorem c_Permits_init (l : Launch) (dC : Nat → ClassId) (dI : Nat → Nat → Nat) (h0 : Nat) (sz : Nat) : Met l y_Permits_init z_Permits_init { frames := 2, cells := 6, slots := 180, locals := 60 } (va_Pc [.ref h0] (fun U => U.heap.size = sz ∧ va_P (dC, dI) classes [(h0, .inr (6, [.null, .null, .null, .null, .null, .null, .int 0, .int 0, .int 0, .int 0, .int 0, .int 0, .int 0, .int 0, .int 0]))] U.heap ∧ va_K (dC, dI) classes [] U ∧ va_D (fun _ => True) [(h0, .inr (6, [.null, .null, .null, .null, .null, .null, .int 0, .int 0, .int 0, .int 0, .int 0, .int 0, .int 0, .int 0, .int 0]))])) (va_Qv (fun _ : (Nat → Nat) × (Nat → ClassId) => True) (fun (u : (Nat → Nat) × (Nat → ClassId)) t => va_P (dC, dI) classes [(h0, .inr (6, [.ref (u.1 1), .ref (u.1 2), .ref (u.1 3), .ref (u.1 4), .ref (u.1 5), .ref (u.1 6), .int 0, .int 0, .int 0, .int 0, .int 0, .int 0, .int 500000, .int 5000, .int (-1)])), ((u.1 1), .inl ((u.2 1), 30, .inl (fun _ => 0))), ((u.1 2), .inl ((u.2 2), 30, .inl (fun _ => 0))), ((u.1 3), .inl ((u.2 3), 30, .inl (fun _ => 0))), ((u.1 4), .inl ((u.2 4), 30, .inl (fun _ => 0))), ((u.1 5), .inl ((u.2 5), 30, .inl (fun _ => 0))), ((u.1 6), .inl ((u.2 6), 30, .inl (fun _ => 0)))] t.heap ∧ va_K (dC, dI) classes [(u.2 1, .int), (u.2 2, .int), (u.2 3, .int), (u.2 4, .int), (u.2 5, .int), (u.2 6, .int)] t ∧ va_D (va_A [(h0, .inr (6, [.null, .null, .null, .null, .null, .null, .int 0, .int 0, .int 0, .int 0, .int 0, .int 0, .int 0, .int 0, .int 0]))] sz) [(h0, .inr (6, [.ref (u.1 1), .ref (u.1 2), .ref (u.1 3), .ref (u.1 4), .ref (u.1 5), .ref (u.1 6), .int 0, .int 0, .int 0, .int 0, .int 0, .int 0, .int 500000, .int 5000, .int (-1)])), ((u.1 1), .inl ((u.2 1), 30, .inl (fun _ => 0))), ((u.1 2), .inl ((u.2 2), 30, .inl (fun _ => 0))), ((u.1 3), .inl ((u.2 3), 30, .inl (fun _ => 0))), ((u.1 4), .inl ((u.2 4), 30, .inl (fun _ => 0))), ((u.1 5), .inl ((u.2 5), 30, .inl (fun _ => 0))), ((u.1 6), .inl ((u.2 6), 30, .inl (fun _ => 0)))]) (va_A [(h0, .inr (6, [.null, .null, .null, .null, .null, .null, .int 0, .int 0, .int 0, .int 0, .int 0, .int 0, .int 0, .int 0, .int 0]))] sz)) 6 180 (va_A [(h0, .inr (6, [.null, .null, .null, .null, .null, .null, .int 0, .int 0, .int 0, .int 0, .int 0, .int 0, .int 0, .int 0, .int 0]))] sz) := by
  refine Met.ofW (cc := b_Permits_init) (maxL := 1) (ret := none) (by decide) rfl ?_
  intro p e s m args below meth c s₁ B hml hv
  obtain ⟨rfl, hsz, hP, hK, hD0⟩ := hv
  have hx := B.exec
  have hb := B.bytes
  have hr := B.returns
  have hts : ∀ w ∈ w_all, w.before _ s = true := fun w hw => atoms_spec (ws := z_Permits_init) B.pre w (List.mem_cons_of_mem _ hw)
  have hown : s.vm.findClass R_Permits = some m.cls := findClass_of_methodNamed B.named
  have hlocks := B.notSynchronized
  have hin : meth.name = "<init>" := (name_of_methodNamed B.named B.method).1
  subst hsz
  have hD := hD0.self (sz := s.heap.size)
  generalize hAe : va_A [(h0, .inr (6, [.null, .null, .null, .null, .null, .null, .int 0, .int 0, .int 0, .int 0, .int 0, .int 0, .int 0, .int 0, .int 0]))] s.heap.size = A at hD ⊢
  have hA : ∀ q : Nat, s.heap.size ≤ q → A q := fun q h => by rw [← hAe]; exact Or.inr h
  have hS : va_S A s.heap s.heap [] := va_S.rf
  have hP : va_P (dC, dI) classes [(h0, .inr (6, [.null, .null, .null, .null, .null, .null, .int 0, .int 0, .int 0, .int 0, .int 0, .int 0, .int 0, .int 0, .int 0]))] s.heap := hP
  have hl := lv_entry ([.ref h0]) (n := 1) (Nat.le_of_ble_eq_true rfl)
  rw [lg_entry_eq]
  generalize (lg_sl ([.ref h0]) ++ List.replicate (1 - (lg_sl ([.ref h0])).length) Slot.unset).toArray = ls at hl ⊢
  have hl : lv_has ls 1 [(0, .ref h0)] := hl
  refine lv_aload_n hx hb d_Permits_init_0 rfl (lv_at hl 0 rfl) ?_
  refine W.objInit hx hb hown (hts _ m_376) (hts _ m_365) (hts _ m_366) rfl (by rw [hml]; exact hl.1) rfl d_Permits_init_1 (Nat.le_of_ble_eq_true rfl) (Nat.le_of_ble_eq_true rfl) ?_
  refine W.eq (g2 := F0 m 4 ls []) rfl ?_
  refine lv_aload_n hx hb d_Permits_init_4 rfl (lv_at hl 0 rfl) ?_
  refine lv_bipush (v := 30) hx hb d_Permits_init_5 (by decide) ?_
  refine va_newa (atype := .int) (n := 30) (N' := 30) (a0 := (30, .inl (fun _ => 0))) hx hb (hts _ m_367) rfl hK hP hD hS hA (fun _ => rfl) (by decide) (by decide) (by decide) (Nat.le_of_ble_eq_true rfl) (Nat.le_of_ble_eq_true rfl) d_Permits_init_7 (fun q7 cA7 H hK hP hD hS => ?_)
  have hP : va_P (dC, dI) classes [(h0, .inr (6, [.null, .null, .null, .null, .null, .null, .int 0, .int 0, .int 0, .int 0, .int 0, .int 0, .int 0, .int 0, .int 0])), (q7, .inl (cA7, 30, .inl (fun _ => 0)))] H := hP
  have hD : va_D A [(h0, .inr (6, [.null, .null, .null, .null, .null, .null, .int 0, .int 0, .int 0, .int 0, .int 0, .int 0, .int 0, .int 0, .int 0])), (q7, .inl (cA7, 30, .inl (fun _ => 0)))] := hD
  have hK : va_K (dC, dI) classes [(cA7, .int)] s := hK
  refine W.widen (k := 1) (n := 30) (Nat.le_refl _) (Nat.le_refl _) ?_
  refine va_putF (D := (dC, dI)) (ci := 6) (v := .ref q7) (ty := (.array .int)) (C := R_Permits) (T := F_Permits) (N := 15) hx hb hts i_Permits t_Permits t_Permits_ok n_Permits hown hK hP hD hS 0 rfl rfl 0 (by decide) (hts _ m_65) (fun _ h9 => h9) rfl hin rfl (by decide +kernel) rfl rfl (Nat.le_of_ble_eq_true rfl) d_Permits_init_9 (fun H locs hP hD hS => ?_)
  have hP : va_P (dC, dI) classes [(h0, .inr (6, [.ref q7, .null, .null, .null, .null, .null, .int 0, .int 0, .int 0, .int 0, .int 0, .int 0, .int 0, .int 0, .int 0])), (q7, .inl (cA7, 30, .inl (fun _ => 0)))] H := hP
  have hD : va_D A [(h0, .inr (6, [.ref q7, .null, .null, .null, .null, .null, .int 0, .int 0, .int 0, .int 0, .int 0, .int 0, .int 0, .int 0, .int 0])), (q7, .inl (cA7, 30, .inl (fun _ => 0)))] := hD
  refine lv_aload_n hx hb d_Permits_init_12 rfl (lv_at hl 0 rfl) ?_
  refine lv_bipush (v := 30) hx hb d_Permits_init_13 (by decide) ?_
  refine va_newa (atype := .int) (n := 30) (N' := 30) (a0 := (30, .inl (fun _ => 0))) hx hb (hts _ m_367) rfl hK hP hD hS hA (fun _ => rfl) (by decide) (by decide) (by decide) (Nat.le_of_ble_eq_true rfl) (Nat.le_of_ble_eq_true rfl) d_Permits_init_15 (fun q15 cA15 H hK hP hD hS => ?_)
  have hP : va_P (dC, dI) classes [(h0, .inr (6, [.ref q7, .null, .null, .null, .null, .null, .int 0, .int 0, .int 0, .int 0, .int 0, .int 0, .int 0, .int 0, .int 0])), (q7, .inl (cA7, 30, .inl (fun _ => 0))), (q15, .inl (cA15, 30, .inl (fun _ => 0)))] H := hP
  have hD : va_D A [(h0, .inr (6, [.ref q7, .null, .null, .null, .null, .null, .int 0, .int 0, .int 0, .int 0, .int 0, .int 0, .int 0, .int 0, .int 0])), (q7, .inl (cA7, 30, .inl (fun _ => 0))), (q15, .inl (cA15, 30, .inl (fun _ => 0)))] := hD
  have hK : va_K (dC, dI) classes [(cA7, .int), (cA15, .int)] s := hK
  refine W.widen (k := 2) (n := 60) (Nat.le_refl _) (Nat.le_refl _) ?_
  refine va_putF (D := (dC, dI)) (ci := 6) (v := .ref q15) (ty := (.array .int)) (C := R_Permits) (T := F_Permits) (N := 15) hx hb hts i_Permits t_Permits t_Permits_ok n_Permits hown hK hP hD hS 0 rfl rfl 1 (by decide) (hts _ m_68) (fun _ h9 => h9) rfl hin rfl (by decide +kernel) rfl rfl (Nat.le_of_ble_eq_true rfl) d_Permits_init_17 (fun H locs hP hD hS => ?_)
  have hP : va_P (dC, dI) classes [(h0, .inr (6, [.ref q7, .ref q15, .null, .null, .null, .null, .int 0, .int 0, .int 0, .int 0, .int 0, .int 0, .int 0, .int 0, .int 0])), (q7, .inl (cA7, 30, .inl (fun _ => 0))), (q15, .inl (cA15, 30, .inl (fun _ => 0)))] H := hP
  have hD : va_D A [(h0, .inr (6, [.ref q7, .ref q15, .null, .null, .null, .null, .int 0, .int 0, .int 0, .int 0, .int 0, .int 0, .int 0, .int 0, .int 0])), (q7, .inl (cA7, 30, .inl (fun _ => 0))), (q15, .inl (cA15, 30, .inl (fun _ => 0)))] := hD
  refine lv_aload_n hx hb d_Permits_init_20 rfl (lv_at hl 0 rfl) ?_
  refine lv_bipush (v := 30) hx hb d_Permits_init_21 (by decide) ?_
  refine va_newa (atype := .int) (n := 30) (N' := 30) (a0 := (30, .inl (fun _ => 0))) hx hb (hts _ m_367) rfl hK hP hD hS hA (fun _ => rfl) (by decide) (by decide) (by decide) (Nat.le_of_ble_eq_true rfl) (Nat.le_of_ble_eq_true rfl) d_Permits_init_23 (fun q23 cA23 H hK hP hD hS => ?_)
  have hP : va_P (dC, dI) classes [(h0, .inr (6, [.ref q7, .ref q15, .null, .null, .null, .null, .int 0, .int 0, .int 0, .int 0, .int 0, .int 0, .int 0, .int 0, .int 0])), (q7, .inl (cA7, 30, .inl (fun _ => 0))), (q15, .inl (cA15, 30, .inl (fun _ => 0))), (q23, .inl (cA23, 30, .inl (fun _ => 0)))] H := hP
  have hD : va_D A [(h0, .inr (6, [.ref q7, .ref q15, .null, .null, .null, .null, .int 0, .int 0, .int 0, .int 0, .int 0, .int 0, .int 0, .int 0, .int 0])), (q7, .inl (cA7, 30, .inl (fun _ => 0))), (q15, .inl (cA15, 30, .inl (fun _ => 0))), (q23, .inl (cA23, 30, .inl (fun _ => 0)))] := hD
  have hK : va_K (dC, dI) classes [(cA7, .int), (cA15, .int), (cA23, .int)] s := hK
  refine W.widen (k := 3) (n := 90) (Nat.le_refl _) (Nat.le_refl _) ?_
  refine va_putF (D := (dC, dI)) (ci := 6) (v := .ref q23) (ty := (.array .int)) (C := R_Permits) (T := F_Permits) (N := 15) hx hb hts i_Permits t_Permits t_Permits_ok n_Permits hown hK hP hD hS 0 rfl rfl 2 (by decide) (hts _ m_66) (fun _ h9 => h9) rfl hin rfl (by decide +kernel) rfl rfl (Nat.le_of_ble_eq_true rfl) d_Permits_init_25 (fun H locs hP hD hS => ?_)
  have hP : va_P (dC, dI) classes [(h0, .inr (6, [.ref q7, .ref q15, .ref q23, .null, .null, .null, .int 0, .int 0, .int 0, .int 0, .int 0, .int 0, .int 0, .int 0, .int 0])), (q7, .inl (cA7, 30, .inl (fun _ => 0))), (q15, .inl (cA15, 30, .inl (fun _ => 0))), (q23, .inl (cA23, 30, .inl (fun _ => 0)))] H := hP
  have hD : va_D A [(h0, .inr (6, [.ref q7, .ref q15, .ref q23, .null, .null, .null, .int 0, .int 0, .int 0, .int 0, .int 0, .int 0, .int 0, .int 0, .int 0])), (q7, .inl (cA7, 30, .inl (fun _ => 0))), (q15, .inl (cA15, 30, .inl (fun _ => 0))), (q23, .inl (cA23, 30, .inl (fun _ => 0)))] := hD
  refine lv_aload_n hx hb d_Permits_init_28 rfl (lv_at hl 0 rfl) ?_
  refine lv_bipush (v := 30) hx hb d_Permits_init_29 (by decide) ?_
  refine va_newa (atype := .int) (n := 30) (N' := 30) (a0 := (30, .inl (fun _ => 0))) hx hb (hts _ m_367) rfl hK hP hD hS hA (fun _ => rfl) (by decide) (by decide) (by decide) (Nat.le_of_ble_eq_true rfl) (Nat.le_of_ble_eq_true rfl) d_Permits_init_31 (fun q31 cA31 H hK hP hD hS => ?_)
  have hP : va_P (dC, dI) classes [(h0, .inr (6, [.ref q7, .ref q15, .ref q23, .null, .null, .null, .int 0, .int 0, .int 0, .int 0, .int 0, .int 0, .int 0, .int 0, .int 0])), (q7, .inl (cA7, 30, .inl (fun _ => 0))), (q15, .inl (cA15, 30, .inl (fun _ => 0))), (q23, .inl (cA23, 30, .inl (fun _ => 0))), (q31, .inl (cA31, 30, .inl (fun _ => 0)))] H := hP
  have hD : va_D A [(h0, .inr (6, [.ref q7, .ref q15, .ref q23, .null, .null, .null, .int 0, .int 0, .int 0, .int 0, .int 0, .int 0, .int 0, .int 0, .int 0])), (q7, .inl (cA7, 30, .inl (fun _ => 0))), (q15, .inl (cA15, 30, .inl (fun _ => 0))), (q23, .inl (cA23, 30, .inl (fun _ => 0))), (q31, .inl (cA31, 30, .inl (fun _ => 0)))] := hD
  have hK : va_K (dC, dI) classes [(cA7, .int), (cA15, .int), (cA23, .int), (cA31, .int)] s := hK
  refine W.widen (k := 4) (n := 120) (Nat.le_refl _) (Nat.le_refl _) ?_
  refine va_putF (D := (dC, dI)) (ci := 6) (v := .ref q31) (ty := (.array .int)) (C := R_Permits) (T := F_Permits) (N := 15) hx hb hts i_Permits t_Permits t_Permits_ok n_Permits hown hK hP hD hS 0 rfl rfl 3 (by decide) (hts _ m_69) (fun _ h9 => h9) rfl hin rfl (by decide +kernel) rfl rfl (Nat.le_of_ble_eq_true rfl) d_Permits_init_33 (fun H locs hP hD hS => ?_)
  have hP : va_P (dC, dI) classes [(h0, .inr (6, [.ref q7, .ref q15, .ref q23, .ref q31, .null, .null, .int 0, .int 0, .int 0, .int 0, .int 0, .int 0, .int 0, .int 0, .int 0])), (q7, .inl (cA7, 30, .inl (fun _ => 0))), (q15, .inl (cA15, 30, .inl (fun _ => 0))), (q23, .inl (cA23, 30, .inl (fun _ => 0))), (q31, .inl (cA31, 30, .inl (fun _ => 0)))] H := hP
  have hD : va_D A [(h0, .inr (6, [.ref q7, .ref q15, .ref q23, .ref q31, .null, .null, .int 0, .int 0, .int 0, .int 0, .int 0, .int 0, .int 0, .int 0, .int 0])), (q7, .inl (cA7, 30, .inl (fun _ => 0))), (q15, .inl (cA15, 30, .inl (fun _ => 0))), (q23, .inl (cA23, 30, .inl (fun _ => 0))), (q31, .inl (cA31, 30, .inl (fun _ => 0)))] := hD
  refine lv_aload_n hx hb d_Permits_init_36 rfl (lv_at hl 0 rfl) ?_
  refine lv_bipush (v := 30) hx hb d_Permits_init_37 (by decide) ?_
  refine va_newa (atype := .int) (n := 30) (N' := 30) (a0 := (30, .inl (fun _ => 0))) hx hb (hts _ m_367) rfl hK hP hD hS hA (fun _ => rfl) (by decide) (by decide) (by decide) (Nat.le_of_ble_eq_true rfl) (Nat.le_of_ble_eq_true rfl) d_Permits_init_39 (fun q39 cA39 H hK hP hD hS => ?_)
  have hP : va_P (dC, dI) classes [(h0, .inr (6, [.ref q7, .ref q15, .ref q23, .ref q31, .null, .null, .int 0, .int 0, .int 0, .int 0, .int 0, .int 0, .int 0, .int 0, .int 0])), (q7, .inl (cA7, 30, .inl (fun _ => 0))), (q15, .inl (cA15, 30, .inl (fun _ => 0))), (q23, .inl (cA23, 30, .inl (fun _ => 0))), (q31, .inl (cA31, 30, .inl (fun _ => 0))), (q39, .inl (cA39, 30, .inl (fun _ => 0)))] H := hP
  have hD : va_D A [(h0, .inr (6, [.ref q7, .ref q15, .ref q23, .ref q31, .null, .null, .int 0, .int 0, .int 0, .int 0, .int 0, .int 0, .int 0, .int 0, .int 0])), (q7, .inl (cA7, 30, .inl (fun _ => 0))), (q15, .inl (cA15, 30, .inl (fun _ => 0))), (q23, .inl (cA23, 30, .inl (fun _ => 0))), (q31, .inl (cA31, 30, .inl (fun _ => 0))), (q39, .inl (cA39, 30, .inl (fun _ => 0)))] := hD
  have hK : va_K (dC, dI) classes [(cA7, .int), (cA15, .int), (cA23, .int), (cA31, .int), (cA39, .int)] s := hK
  refine W.widen (k := 5) (n := 150) (Nat.le_refl _) (Nat.le_refl _) ?_
  refine va_putF (D := (dC, dI)) (ci := 6) (v := .ref q39) (ty := (.array .int)) (C := R_Permits) (T := F_Permits) (N := 15) hx hb hts i_Permits t_Permits t_Permits_ok n_Permits hown hK hP hD hS 0 rfl rfl 4 (by decide) (hts _ m_76) (fun _ h9 => h9) rfl hin rfl (by decide +kernel) rfl rfl (Nat.le_of_ble_eq_true rfl) d_Permits_init_41 (fun H locs hP hD hS => ?_)
  have hP : va_P (dC, dI) classes [(h0, .inr (6, [.ref q7, .ref q15, .ref q23, .ref q31, .ref q39, .null, .int 0, .int 0, .int 0, .int 0, .int 0, .int 0, .int 0, .int 0, .int 0])), (q7, .inl (cA7, 30, .inl (fun _ => 0))), (q15, .inl (cA15, 30, .inl (fun _ => 0))), (q23, .inl (cA23, 30, .inl (fun _ => 0))), (q31, .inl (cA31, 30, .inl (fun _ => 0))), (q39, .inl (cA39, 30, .inl (fun _ => 0)))] H := hP
  have hD : va_D A [(h0, .inr (6, [.ref q7, .ref q15, .ref q23, .ref q31, .ref q39, .null, .int 0, .int 0, .int 0, .int 0, .int 0, .int 0, .int 0, .int 0, .int 0])), (q7, .inl (cA7, 30, .inl (fun _ => 0))), (q15, .inl (cA15, 30, .inl (fun _ => 0))), (q23, .inl (cA23, 30, .inl (fun _ => 0))), (q31, .inl (cA31, 30, .inl (fun _ => 0))), (q39, .inl (cA39, 30, .inl (fun _ => 0)))] := hD
  refine lv_aload_n hx hb d_Permits_init_44 rfl (lv_at hl 0 rfl) ?_
  refine lv_bipush (v := 30) hx hb d_Permits_init_45 (by decide) ?_
  refine va_newa (atype := .int) (n := 30) (N' := 30) (a0 := (30, .inl (fun _ => 0))) hx hb (hts _ m_367) rfl hK hP hD hS hA (fun _ => rfl) (by decide) (by decide) (by decide) (Nat.le_of_ble_eq_true rfl) (Nat.le_of_ble_eq_true rfl) d_Permits_init_47 (fun q47 cA47 H hK hP hD hS => ?_)
  have hP : va_P (dC, dI) classes [(h0, .inr (6, [.ref q7, .ref q15, .ref q23, .ref q31, .ref q39, .null, .int 0, .int 0, .int 0, .int 0, .int 0, .int 0, .int 0, .int 0, .int 0])), (q7, .inl (cA7, 30, .inl (fun _ => 0))), (q15, .inl (cA15, 30, .inl (fun _ => 0))), (q23, .inl (cA23, 30, .inl (fun _ => 0))), (q31, .inl (cA31, 30, .inl (fun _ => 0))), (q39, .inl (cA39, 30, .inl (fun _ => 0))), (q47, .inl (cA47, 30, .inl (fun _ => 0)))] H := hP
  have hD : va_D A [(h0, .inr (6, [.ref q7, .ref q15, .ref q23, .ref q31, .ref q39, .null, .int 0, .int 0, .int 0, .int 0, .int 0, .int 0, .int 0, .int 0, .int 0])), (q7, .inl (cA7, 30, .inl (fun _ => 0))), (q15, .inl (cA15, 30, .inl (fun _ => 0))), (q23, .inl (cA23, 30, .inl (fun _ => 0))), (q31, .inl (cA31, 30, .inl (fun _ => 0))), (q39, .inl (cA39, 30, .inl (fun _ => 0))), (q47, .inl (cA47, 30, .inl (fun _ => 0)))] := hD
  have hK : va_K (dC, dI) classes [(cA7, .int), (cA15, .int), (cA23, .int), (cA31, .int), (cA39, .int), (cA47, .int)] s := hK
  refine W.widen (k := 6) (n := 180) (Nat.le_refl _) (Nat.le_refl _) ?_
  refine va_putF (D := (dC, dI)) (ci := 6) (v := .ref q47) (ty := (.array .int)) (C := R_Permits) (T := F_Permits) (N := 15) hx hb hts i_Permits t_Permits t_Permits_ok n_Permits hown hK hP hD hS 0 rfl rfl 5 (by decide) (hts _ m_75) (fun _ h9 => h9) rfl hin rfl (by decide +kernel) rfl rfl (Nat.le_of_ble_eq_true rfl) d_Permits_init_49 (fun H locs hP hD hS => ?_)
  have hP : va_P (dC, dI) classes [(h0, .inr (6, [.ref q7, .ref q15, .ref q23, .ref q31, .ref q39, .ref q47, .int 0, .int 0, .int 0, .int 0, .int 0, .int 0, .int 0, .int 0, .int 0])), (q7, .inl (cA7, 30, .inl (fun _ => 0))), (q15, .inl (cA15, 30, .inl (fun _ => 0))), (q23, .inl (cA23, 30, .inl (fun _ => 0))), (q31, .inl (cA31, 30, .inl (fun _ => 0))), (q39, .inl (cA39, 30, .inl (fun _ => 0))), (q47, .inl (cA47, 30, .inl (fun _ => 0)))] H := hP
  have hD : va_D A [(h0, .inr (6, [.ref q7, .ref q15, .ref q23, .ref q31, .ref q39, .ref q47, .int 0, .int 0, .int 0, .int 0, .int 0, .int 0, .int 0, .int 0, .int 0])), (q7, .inl (cA7, 30, .inl (fun _ => 0))), (q15, .inl (cA15, 30, .inl (fun _ => 0))), (q23, .inl (cA23, 30, .inl (fun _ => 0))), (q31, .inl (cA31, 30, .inl (fun _ => 0))), (q39, .inl (cA39, 30, .inl (fun _ => 0))), (q47, .inl (cA47, 30, .inl (fun _ => 0)))] := hD
  refine lv_aload_n hx hb d_Permits_init_52 rfl (lv_at hl 0 rfl) ?_
  refine lv_iconst (v := 0) hx hb d_Permits_init_53 (by decide) ?_
  refine va_put (D := (dC, dI)) (ci := 6) (v := .int 0) (ty := .int) (C := R_Permits) (T := F_Permits) (N := 15) hx hb hts i_Permits t_Permits t_Permits_ok n_Permits hown hK hP hD hS 0 rfl rfl 6 (by decide) (hts _ m_74) (fun _ h9 => h9) rfl (by decide +kernel) rfl rfl (Nat.le_of_ble_eq_true rfl) d_Permits_init_54 (fun H locs hP hD hS => ?_)
  have hP : va_P (dC, dI) classes [(h0, .inr (6, [.ref q7, .ref q15, .ref q23, .ref q31, .ref q39, .ref q47, .int 0, .int 0, .int 0, .int 0, .int 0, .int 0, .int 0, .int 0, .int 0])), (q7, .inl (cA7, 30, .inl (fun _ => 0))), (q15, .inl (cA15, 30, .inl (fun _ => 0))), (q23, .inl (cA23, 30, .inl (fun _ => 0))), (q31, .inl (cA31, 30, .inl (fun _ => 0))), (q39, .inl (cA39, 30, .inl (fun _ => 0))), (q47, .inl (cA47, 30, .inl (fun _ => 0)))] H := hP
  have hD : va_D A [(h0, .inr (6, [.ref q7, .ref q15, .ref q23, .ref q31, .ref q39, .ref q47, .int 0, .int 0, .int 0, .int 0, .int 0, .int 0, .int 0, .int 0, .int 0])), (q7, .inl (cA7, 30, .inl (fun _ => 0))), (q15, .inl (cA15, 30, .inl (fun _ => 0))), (q23, .inl (cA23, 30, .inl (fun _ => 0))), (q31, .inl (cA31, 30, .inl (fun _ => 0))), (q39, .inl (cA39, 30, .inl (fun _ => 0))), (q47, .inl (cA47, 30, .inl (fun _ => 0)))] := hD
  refine lv_aload_n hx hb d_Permits_init_57 rfl (lv_at hl 0 rfl) ?_
  refine lv_iconst (v := 0) hx hb d_Permits_init_58 (by decide) ?_
  refine va_put (D := (dC, dI)) (ci := 6) (v := .int 0) (ty := .boolean) (C := R_Permits) (T := F_Permits) (N := 15) hx hb hts i_Permits t_Permits t_Permits_ok n_Permits hown hK hP hD hS 0 rfl rfl 7 (by decide) (hts _ m_78) (fun _ h9 => h9) rfl (by decide +kernel) rfl rfl (Nat.le_of_ble_eq_true rfl) d_Permits_init_59 (fun H locs hP hD hS => ?_)
  have hP : va_P (dC, dI) classes [(h0, .inr (6, [.ref q7, .ref q15, .ref q23, .ref q31, .ref q39, .ref q47, .int 0, .int 0, .int 0, .int 0, .int 0, .int 0, .int 0, .int 0, .int 0])), (q7, .inl (cA7, 30, .inl (fun _ => 0))), (q15, .inl (cA15, 30, .inl (fun _ => 0))), (q23, .inl (cA23, 30, .inl (fun _ => 0))), (q31, .inl (cA31, 30, .inl (fun _ => 0))), (q39, .inl (cA39, 30, .inl (fun _ => 0))), (q47, .inl (cA47, 30, .inl (fun _ => 0)))] H := hP
  have hD : va_D A [(h0, .inr (6, [.ref q7, .ref q15, .ref q23, .ref q31, .ref q39, .ref q47, .int 0, .int 0, .int 0, .int 0, .int 0, .int 0, .int 0, .int 0, .int 0])), (q7, .inl (cA7, 30, .inl (fun _ => 0))), (q15, .inl (cA15, 30, .inl (fun _ => 0))), (q23, .inl (cA23, 30, .inl (fun _ => 0))), (q31, .inl (cA31, 30, .inl (fun _ => 0))), (q39, .inl (cA39, 30, .inl (fun _ => 0))), (q47, .inl (cA47, 30, .inl (fun _ => 0)))] := hD
  refine lv_aload_n hx hb d_Permits_init_62 rfl (lv_at hl 0 rfl) ?_
  refine lv_ldc (v := 500000) hx hb hown (hts _ m_377) d_Permits_init_63 ?_
  refine va_put (D := (dC, dI)) (ci := 6) (v := .int 500000) (ty := .int) (C := R_Permits) (T := F_Permits) (N := 15) hx hb hts i_Permits t_Permits t_Permits_ok n_Permits hown hK hP hD hS 0 rfl rfl 12 (by decide) (hts _ m_80) (fun _ h9 => h9) rfl (by decide +kernel) rfl rfl (Nat.le_of_ble_eq_true rfl) d_Permits_init_65 (fun H locs hP hD hS => ?_)
  have hP : va_P (dC, dI) classes [(h0, .inr (6, [.ref q7, .ref q15, .ref q23, .ref q31, .ref q39, .ref q47, .int 0, .int 0, .int 0, .int 0, .int 0, .int 0, .int 500000, .int 0, .int 0])), (q7, .inl (cA7, 30, .inl (fun _ => 0))), (q15, .inl (cA15, 30, .inl (fun _ => 0))), (q23, .inl (cA23, 30, .inl (fun _ => 0))), (q31, .inl (cA31, 30, .inl (fun _ => 0))), (q39, .inl (cA39, 30, .inl (fun _ => 0))), (q47, .inl (cA47, 30, .inl (fun _ => 0)))] H := hP
  have hD : va_D A [(h0, .inr (6, [.ref q7, .ref q15, .ref q23, .ref q31, .ref q39, .ref q47, .int 0, .int 0, .int 0, .int 0, .int 0, .int 0, .int 500000, .int 0, .int 0])), (q7, .inl (cA7, 30, .inl (fun _ => 0))), (q15, .inl (cA15, 30, .inl (fun _ => 0))), (q23, .inl (cA23, 30, .inl (fun _ => 0))), (q31, .inl (cA31, 30, .inl (fun _ => 0))), (q39, .inl (cA39, 30, .inl (fun _ => 0))), (q47, .inl (cA47, 30, .inl (fun _ => 0)))] := hD
  refine lv_aload_n hx hb d_Permits_init_68 rfl (lv_at hl 0 rfl) ?_
  refine lv_sipush (v := 5000) hx hb d_Permits_init_69 (by decide) ?_
  refine va_put (D := (dC, dI)) (ci := 6) (v := .int 5000) (ty := .int) (C := R_Permits) (T := F_Permits) (N := 15) hx hb hts i_Permits t_Permits t_Permits_ok n_Permits hown hK hP hD hS 0 rfl rfl 13 (by decide) (hts _ m_70) (fun _ h9 => h9) rfl (by decide +kernel) rfl rfl (Nat.le_of_ble_eq_true rfl) d_Permits_init_72 (fun H locs hP hD hS => ?_)
  have hP : va_P (dC, dI) classes [(h0, .inr (6, [.ref q7, .ref q15, .ref q23, .ref q31, .ref q39, .ref q47, .int 0, .int 0, .int 0, .int 0, .int 0, .int 0, .int 500000, .int 5000, .int 0])), (q7, .inl (cA7, 30, .inl (fun _ => 0))), (q15, .inl (cA15, 30, .inl (fun _ => 0))), (q23, .inl (cA23, 30, .inl (fun _ => 0))), (q31, .inl (cA31, 30, .inl (fun _ => 0))), (q39, .inl (cA39, 30, .inl (fun _ => 0))), (q47, .inl (cA47, 30, .inl (fun _ => 0)))] H := hP
  have hD : va_D A [(h0, .inr (6, [.ref q7, .ref q15, .ref q23, .ref q31, .ref q39, .ref q47, .int 0, .int 0, .int 0, .int 0, .int 0, .int 0, .int 500000, .int 5000, .int 0])), (q7, .inl (cA7, 30, .inl (fun _ => 0))), (q15, .inl (cA15, 30, .inl (fun _ => 0))), (q23, .inl (cA23, 30, .inl (fun _ => 0))), (q31, .inl (cA31, 30, .inl (fun _ => 0))), (q39, .inl (cA39, 30, .inl (fun _ => 0))), (q47, .inl (cA47, 30, .inl (fun _ => 0)))] := hD
  refine lv_aload_n hx hb d_Permits_init_75 rfl (lv_at hl 0 rfl) ?_
  refine lv_iconst (v := (-1)) hx hb d_Permits_init_76 (by decide) ?_
  refine va_put (D := (dC, dI)) (ci := 6) (v := .int (-1)) (ty := .int) (C := R_Permits) (T := F_Permits) (N := 15) hx hb hts i_Permits t_Permits t_Permits_ok n_Permits hown hK hP hD hS 0 rfl rfl 14 (by decide) (hts _ m_378) (fun _ h9 => h9) rfl (by decide +kernel) rfl rfl (Nat.le_of_ble_eq_true rfl) d_Permits_init_77 (fun H locs hP hD hS => ?_)
  have hP : va_P (dC, dI) classes [(h0, .inr (6, [.ref q7, .ref q15, .ref q23, .ref q31, .ref q39, .ref q47, .int 0, .int 0, .int 0, .int 0, .int 0, .int 0, .int 500000, .int 5000, .int (-1)])), (q7, .inl (cA7, 30, .inl (fun _ => 0))), (q15, .inl (cA15, 30, .inl (fun _ => 0))), (q23, .inl (cA23, 30, .inl (fun _ => 0))), (q31, .inl (cA31, 30, .inl (fun _ => 0))), (q39, .inl (cA39, 30, .inl (fun _ => 0))), (q47, .inl (cA47, 30, .inl (fun _ => 0)))] H := hP
  have hD : va_D A [(h0, .inr (6, [.ref q7, .ref q15, .ref q23, .ref q31, .ref q39, .ref q47, .int 0, .int 0, .int 0, .int 0, .int 0, .int 0, .int 500000, .int 5000, .int (-1)])), (q7, .inl (cA7, 30, .inl (fun _ => 0))), (q15, .inl (cA15, 30, .inl (fun _ => 0))), (q23, .inl (cA23, 30, .inl (fun _ => 0))), (q31, .inl (cA31, 30, .inl (fun _ => 0))), (q39, .inl (cA39, 30, .inl (fun _ => 0))), (q47, .inl (cA47, 30, .inl (fun _ => 0)))] := hD
  exact W.vret hx hb hr (fun t ht hW => ⟨⟨((fun k => ([h0, q7, q15, q23, q31, q39, q47] : List Nat).getD k 0), (fun k => ([0, cA7, cA15, cA23, cA31, cA39, cA47] : List ClassId).getD k 0)), rfl, trivial, ⟨by rw [ht]; exact hP, va_K.moved hW.alike hK, hD⟩⟩, hS.F ht⟩) hS.2.2 d_Permits_init_80

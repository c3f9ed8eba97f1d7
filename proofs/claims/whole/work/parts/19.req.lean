theorem m_415 : (Cond.classLink R_Ir 226 "java/lang/IllegalArgumentException") ∈ w_all := List.mem_filter.mpr ⟨List.mem_of_getElem? (i := 301) (by decide +kernel), by decide +kernel⟩
theorem m_416 : (Cond.instantiable "java/lang/IllegalArgumentException" 6) ∈ w_all := List.mem_filter.mpr ⟨List.mem_of_getElem? (i := 302) (by decide +kernel), by decide +kernel⟩
theorem m_417 : (Cond.initialized "java/lang/IllegalArgumentException") ∈ w_all := List.mem_filter.mpr ⟨List.mem_of_getElem? (i := 43) (by decide +kernel), by decide +kernel⟩
theorem m_418 : (Cond.static y_Ir_requireKnown) ∈ w_all := List.mem_filter.mpr ⟨List.mem_of_getElem? (i := 299) (by decide +kernel), by decide +kernel⟩
theorem m_419 : (Cond.code y_Ir_requireKnown b_Ir_requireKnown 1 none) ∈ w_all := List.mem_filter.mpr ⟨List.mem_of_getElem? (i := 300) (by decide +kernel), by decide +kernel⟩
theorem m_420 : (Cond.classLink R_Ir 233 "java/lang/IndexOutOfBoundsException") ∈ w_all := List.mem_filter.mpr ⟨List.mem_of_getElem? (i := 373) (by decide +kernel), by decide +kernel⟩
theorem m_421 : (Cond.instantiable "java/lang/IndexOutOfBoundsException" 6) ∈ w_all := List.mem_filter.mpr ⟨List.mem_of_getElem? (i := 374) (by decide +kernel), by decide +kernel⟩
theorem m_422 : (Cond.initialized "java/lang/IndexOutOfBoundsException") ∈ w_all := List.mem_filter.mpr ⟨List.mem_of_getElem? (i := 44) (by decide +kernel), by decide +kernel⟩
theorem m_423 : (Cond.static y_Ir_requireRange) ∈ w_all := List.mem_filter.mpr ⟨List.mem_of_getElem? (i := 371) (by decide +kernel), by decide +kernel⟩
theorem m_424 : (Cond.code y_Ir_requireRange b_Ir_requireRange 1 none) ∈ w_all := List.mem_filter.mpr ⟨List.mem_of_getElem? (i := 372) (by decide +kernel), by decide +kernel⟩
theorem m_425 : (Cond.classLink R_Ir 238 "java/lang/IllegalStateException") ∈ w_all := List.mem_filter.mpr ⟨List.mem_of_getElem? (i := 509) (by decide +kernel), by decide +kernel⟩
theorem m_426 : (Cond.instantiable "java/lang/IllegalStateException" 6) ∈ w_all := List.mem_filter.mpr ⟨List.mem_of_getElem? (i := 510) (by decide +kernel), by decide +kernel⟩
theorem m_427 : (Cond.initialized "java/lang/IllegalStateException") ∈ w_all := List.mem_filter.mpr ⟨List.mem_of_getElem? (i := 46) (by decide +kernel), by decide +kernel⟩
theorem m_428 : (Cond.static y_Ir_requireState) ∈ w_all := List.mem_filter.mpr ⟨List.mem_of_getElem? (i := 507) (by decide +kernel), by decide +kernel⟩
theorem m_429 : (Cond.code y_Ir_requireState b_Ir_requireState 1 none) ∈ w_all := List.mem_filter.mpr ⟨List.mem_of_getElem? (i := 508) (by decide +kernel), by decide +kernel⟩
theorem m_430 : (Cond.classLink R_Ir 243 "java/lang/UnsupportedOperationException") ∈ w_all := List.mem_filter.mpr ⟨List.mem_of_getElem? (i := 415) (by decide +kernel), by decide +kernel⟩
theorem m_431 : (Cond.instantiable "java/lang/UnsupportedOperationException" 6) ∈ w_all := List.mem_filter.mpr ⟨List.mem_of_getElem? (i := 416) (by decide +kernel), by decide +kernel⟩
theorem m_432 : (Cond.initialized "java/lang/UnsupportedOperationException") ∈ w_all := List.mem_filter.mpr ⟨List.mem_of_getElem? (i := 45) (by decide +kernel), by decide +kernel⟩
theorem m_433 : (Cond.static y_Ir_requireRoom) ∈ w_all := List.mem_filter.mpr ⟨List.mem_of_getElem? (i := 413) (by decide +kernel), by decide +kernel⟩
theorem m_434 : (Cond.code y_Ir_requireRoom b_Ir_requireRoom 1 none) ∈ w_all := List.mem_filter.mpr ⟨List.mem_of_getElem? (i := 414) (by decide +kernel), by decide +kernel⟩
theorem nw_tab {w : Cond} (h : nw_ok w = true) : w.onTables = true := by
  cases w <;> first | rfl | (simp [nw_ok] at h)
def b4_th : List Cond := [.isRef (.static Bundle.tN "UNASSIGNED_STACK" Bundle.steD), .isRef (.static Bundle.tN "SUPPRESSED_SENTINEL" Bundle.listD), .laysStatic Bundle.tN "UNASSIGNED_STACK" Bundle.steD, .laysStatic Bundle.tN "SUPPRESSED_SENTINEL" Bundle.listD]
theorem b4_ok {A : Nat → Prop} {s : State} {args : Array Value} (h1 : th_Z Bundle.tN "UNASSIGNED_STACK" Bundle.steD A s s.heap) (h2 : th_Z Bundle.tN "SUPPRESSED_SENTINEL" Bundle.listD A s s.heap) : ∀ w ∈ b4_th, w.before args s = true := by
  intro w hw
  simp only [b4_th, List.mem_cons, List.not_mem_nil, or_false] at hw
  rcases hw with e | e | e | e <;> rw [e]
  · exact h1.isRef
  · exact h2.isRef
  · exact h1.lays
  · exact h2.lays
def zx_I (sa : Nat → Nat) (A : Nat → Prop) (U : State) : Prop := th_Z Bundle.tN "UNASSIGNED_STACK" Bundle.steD A U U.heap ∧ th_Z Bundle.tN "SUPPRESSED_SENTINEL" Bundle.listD A U U.heap ∧ vk_R R_Ir 228 "there is none such" (sa 0) U ∧ vk_R R_Ir 235 "a number is outside its range" (sa 1) U ∧ vk_R R_Ir 240 "not in this state" (sa 2) U ∧ vk_R R_Ir 245 "there is no room" (sa 3) U
def xz_I (L : Nat → Nat) (sa : Nat → Nat) (U : State) : Prop := zx_I sa (aI L) U
theorem zx_I_to {L : Nat → Nat} {sa : Nat → Nat} {s U : State} {H : Heap} {locs : List Loc} (h : zx_I sa (aI L) s) (hS : va_S (aI L) s.heap H locs) (hU : U.heap = H) (hW : s.WarmedH U.vm) : zx_I sa (fun _ => False) U := by
  refine ⟨?_, ?_, vk_R.warm hW h.2.2.1, vk_R.warm hW h.2.2.2.1, vk_R.warm hW h.2.2.2.2.1, vk_R.warm hW h.2.2.2.2.2⟩
  · rw [hU]; exact th_Z.moved hW.alike ((h.1.kept hS.2.1).narrow (fun _ z => z.elim))
  · rw [hU]; exact th_Z.moved hW.alike ((h.2.1.kept hS.2.1).narrow (fun _ z => z.elim))
def xC_I (dC : Nat → ClassId) (dI : Nat → Nat → Nat) (L : Nat → Nat) (cA : Nat → ClassId) (F : Option String × Int32 × (Nat → Nat → Int32) × (Nat → Int32)) : String → State → State → Prop := fun E st t => ∃ u : oS, (some E, (0 : Int32), u.1, u.2) = F ∧ va_P (dC, dI) classes (wI L cA u.1 u.2) t.heap ∧ va_F (aI L) st t
theorem xc_I {s : State} {H : Heap} {locs : List Loc} {dC : Nat → ClassId} {dI : Nat → Nat → Nat} {L : Nat → Nat} {cA : Nat → ClassId} {ar : Nat → Nat → Int32} {sc : Nat → Int32} {E : String} {F : Option String × Int32 × (Nat → Nat → Int32) × (Nat → Int32)} (hP : va_P (dC, dI) classes (wI L cA ar sc) H) (hS : va_S (aI L) s.heap H locs) (hv : (some E, (0 : Int32), ar, sc) = F) : ∀ t : State, H.size ≤ t.heap.size → (∀ q : Nat, q < H.size → t.heap[q]? = H[q]?) → xC_I dC dI L cA F E s t := fun t hsz hk =>
  ⟨(ar, sc), hv, hP.kept (fun k q h9 => hk q.1 ((hP k q h9).lt)), ⟨Nat.le_trans hS.1 hsz, fun q h1 h2 => (hk q (Nat.lt_of_lt_of_le h1 hS.1)).trans (hS.2.1 q h1 h2)⟩⟩
def rmQ (c n : Nat) : Room := { frames := 6, cells := c, slots := n, locals := 90 }
theorem d_Ir_requireKnown_0 : decode b_Ir_requireKnown 0 = .ok (.iload_n 0, 1) := by decide +kernel
theorem d_Ir_requireKnown_1 : decode b_Ir_requireKnown 1 = .ok (.ifCond .ne 13, 3) := by decide +kernel
theorem d_Ir_requireKnown_4 : decode b_Ir_requireKnown 4 = .ok (.new 226, 3) := by decide +kernel
theorem d_Ir_requireKnown_7 : decode b_Ir_requireKnown 7 = .ok (.dup, 1) := by decide +kernel
theorem d_Ir_requireKnown_8 : decode b_Ir_requireKnown 8 = .ok (.ldc 228, 2) := by decide +kernel
theorem d_Ir_requireKnown_10 : decode b_Ir_requireKnown 10 = .ok (.invokespecial 230, 3) := by decide +kernel
theorem d_Ir_requireKnown_13 : decode b_Ir_requireKnown 13 = .ok (.athrow, 1) := by decide +kernel
theorem d_Ir_requireKnown_14 : decode b_Ir_requireKnown 14 = .ok (.return_, 1) := by decide +kernel
theorem a_Ir_requireKnown : ∀ w ∈ Bundle.ownAtoms R_Ir 230 "java/lang/IllegalArgumentException" ["java/lang/RuntimeException", "java/lang/Exception"], (w ∈ lw_tbl ∧ (goodWord w = true ∨ nw_ok w = true)) ∨ w ∈ b4_th := by decide +kernel
set_option maxHeartbeats 4000000 in
set_option maxRecDepth 100000 in
theorem c_Ir_requireKnown_ok (l : Launch) (k : Int32) (hk : ¬ k = 0) : Met l y_Ir_requireKnown z_Ir_requireKnown (rmQ 0 0) (fun v _ => v = ([.int k] : List Value).toArray) QcVoid 0 0 (fun _ => False) := by
  refine Met.ofW (cc := b_Ir_requireKnown) (maxL := 1) (ret := none) (by decide) rfl ?_
  intro p e s m args below meth c s₁ B hml hv
  obtain rfl := hv
  have hx := B.exec
  have hb := B.bytes
  have hr := B.returns
  have hts : ∀ w ∈ w_all, w.before _ s = true := fun w hw => atoms_spec (ws := z_Ir_requireKnown) B.pre w (List.mem_cons_of_mem _ hw)
  have hown : s.vm.findClass R_Ir = some m.cls := findClass_of_methodNamed B.named
  have hlocks := B.notSynchronized
  have hl := lv_entry ([.int k]) (n := 1) (Nat.le_of_ble_eq_true rfl)
  rw [lg_entry_eq]
  generalize (lg_sl ([.int k]) ++ List.replicate (1 - (lg_sl ([.int k])).length) Slot.unset).toArray = ls at hl ⊢
  have hl : lv_has ls 1 [(0, .int k)] := hl
  refine lv_iload_n hx hb d_Ir_requireKnown_0 rfl (lv_at hl 0 rfl) ?_
  refine lv_if_ne (tgt := 14) hx hb d_Ir_requireKnown_1 (by decide) (fun _ => ?_) (fun c9 => absurd c9 hk)
  exact W.vret hx hb hr (fun t ht hW => ⟨rfl, ht⟩) (fun _ h9 => nomatch h9) d_Ir_requireKnown_14
set_option maxHeartbeats 4000000 in
set_option maxRecDepth 100000 in
theorem c_Ir_requireKnown_no (l : Launch) (hlt : l.stackTraces = false) (sa : Nat → Nat) : th_Both l y_Ir_requireKnown z_Ir_requireKnown (rmQ 1 6) (va_Pc [.int 0] (fun U => zx_I sa (fun _ => False) U ∧ ∀ w ∈ nw_all, va_Nw w U)) (fun _ _ _ _ => False) (fun E st t => E = "java/lang/IllegalArgumentException" ∧ st.heap.size ≤ t.heap.size ∧ ∀ q : Nat, q < st.heap.size → t.heap[q]? = st.heap[q]?) 1 6 (fun _ => False) := by
  refine th_ofW (cc := b_Ir_requireKnown) (maxL := 1) (ret := none) (by decide) rfl ?_
  intro p e s m args below meth c s₁ B hml hnx hv
  obtain ⟨rfl, hz, hn⟩ := hv
  have hx := B.exec
  have hb := B.bytes
  have hr := B.returns
  have hts : ∀ w ∈ w_all, w.before _ s = true := fun w hw => atoms_spec (ws := z_Ir_requireKnown) B.pre w (List.mem_cons_of_mem _ hw)
  have hown : s.vm.findClass R_Ir = some m.cls := findClass_of_methodNamed B.named
  have hlocks := B.notSynchronized
  have hl := lv_entry ([.int 0]) (n := 1) (Nat.le_of_ble_eq_true rfl)
  rw [lg_entry_eq]
  generalize (lg_sl ([.int 0]) ++ List.replicate (1 - (lg_sl ([.int 0])).length) Slot.unset).toArray = ls at hl ⊢
  have hl : lv_has ls 1 [(0, .int 0)] := hl
  refine lv_iload_n hx hb d_Ir_requireKnown_0 rfl (lv_at hl 0 rfl) ?_
  refine lv_if_ne (tgt := 14) hx hb d_Ir_requireKnown_1 (by decide) (fun c9 => absurd rfl c9) (fun _ => ?_)
  refine W.newc hx hb (C := "java/lang/IllegalArgumentException") (index := 226) (n := 6) hown (hts _ m_415) (hts _ m_416) (hts _ m_417) rfl d_Ir_requireKnown_4 (Nat.le_refl _) (Nat.le_refl _) (fun cC kC hfX hkX _ _ => ?_)
  refine W.eq (g2 := F0 m 7 ls [.ref s.heap.size]) rfl ?_
  refine lv_dup hx hb d_Ir_requireKnown_7 rfl ?_
  refine va_ldcS hx hb hown hz.2.2.1 d_Ir_requireKnown_8 ?_
  exact th_ctor (own := R_Ir) (cls := "java/lang/IllegalArgumentException") (names := ["java/lang/RuntimeException", "java/lang/Exception"]) (ic := 230) hx hb hlt hown (by decide +kernel) (by decide +kernel) (fun w hw => (a_Ir_requireKnown w hw).elim (fun h => h.2.elim (fun g => hts w (List.mem_filter.mpr ⟨h.1, g⟩)) (fun g => va_Nw.use (nw_tab g) (hn w (List.mem_filter.mpr ⟨h.1, g⟩)))) (fun h => b4_ok hz.1 hz.2.1 w h)) hfX hkX (Array.getElem?_push_size) (Nat.le_refl _) (hl.1.trans hml.symm) d_Ir_requireKnown_10 d_Ir_requireKnown_13 hnx (Nat.le_of_ble_eq_true rfl) (Nat.le_of_ble_eq_true rfl) hlocks (fun t hvm hsz hq => ⟨rfl, hsz, hq⟩) (Nat.le_refl _) (Nat.le_refl _)
set_option maxHeartbeats 1000000 in
theorem rq_requireKnown {p : Program} {l : Launch} {e : Env} {R : Room} {s : State} {m : MethodId} {args : Array Value} {below : List Frame} {meth : Method} {c : Code} {H : Heap} {locs : List Loc} {cc : ByteArray} {nL pc idx : Nat} {ls : Array Slot} {dC : Nat → ClassId} {dI : Nat → Nat → Nat} {L : Nat → Nat} {cA : Nat → ClassId} {sa : Nat → Nat} {b : Int32} {Qc : Array Value → State → Outcome → State → Prop} {XC : String → State → State → Prop} (hF : CallFix p m c cc nL s args w_all R_Ir) (hK : kW_I dC dI cA s) (hlt : l.stackTraces = false) (hz : xz_I L sa s) (hS : va_S (aI L) s.heap H locs) (hsz : ls.size = nL) (hlocks : meth.locks = false) (hnx : ∀ x ∈ c.exceptionTable.toList, False) (hlk : Cond.methodLink R_Ir idx y_Ir_requireKnown ∈ w_all) (hR : 6 + 1 ≤ R.frames ∧ 8 + (1 + 11) + 90 ≤ R.locals) (hcs : 1 ≤ R.cells ∧ 6 ≤ R.slots) (hdg : decode cc pc = .ok (.invokestatic idx, 3)) (hthr : b = 0 → ∀ t : State, H.size ≤ t.heap.size → (∀ q : Nat, q < H.size → t.heap[q]? = H[q]?) → XC "java/lang/IllegalArgumentException" s t) (kk : ¬ b = 0 → W p l e R s m args below meth c H locs 0 0 (th_MQ below Qc XC args s 1 6 (aI L)) (F0 m (pc + 3) ls [])) : W p l e R s m args below meth c H locs 0 0 (th_MQ below Qc XC args s 1 6 (aI L)) (F0 m pc ls [.int b]) := by
  by_cases hb0 : b = 0
  · subst hb0
    refine th_callS (As := [.int 0]) (rest := []) hF (th_no (c_Ir_requireKnown_no l hlt sa) (fun _ _ h => h) (fun _ _ _ _ _ h => h)) (cwS 1 hF.2.2.2.2 (gS hlk m_418 m_129 m_419) rfl rfl rfl (by decide +kernel) hR) ⟨fun a U g mk q => ⟨q.1, ⟨th_Z.moved (Vm.Alike.refl U.vm) q.2.1.1, th_Z.moved (Vm.Alike.refl U.vm) q.2.1.2.1, vk_R.same rfl q.2.1.2.2.1, vk_R.same rfl q.2.1.2.2.2.1, vk_R.same rfl q.2.1.2.2.2.2.1, vk_R.same rfl q.2.1.2.2.2.2.2⟩, fun w hw => nw_same (u := U) (U := U.calling g mk a) (List.mem_filter.mp hw).2 rfl (q.2.2 w hw)⟩, fun U hU hW => ⟨rfl, zx_I_to hz hS hU hW, fun w hw => nw_warm (List.mem_filter.mp hw).2 hW (hK.2 w hw)⟩⟩ rfl hsz (Nat.le_of_ble_eq_true rfl) hdg hcs rfl (fun E ce q9 st t H1 Lo hst ht hvm hE hce hcv hcl hLo => ?_)
    obtain ⟨hE, hz1, hk1⟩ := hE
    subst hE
    rw [hst, ht] at hz1
    rw [hst, ht] at hk1
    exact th_out (fun x h9 => (hnx x h9).elim) hlocks hce hcv hcl (fun t2 ht2 _ => hthr rfl t2 (by rw [ht2]; exact hz1) (fun q hq => by rw [ht2]; exact hk1 q hq)) (fun z hz9 => (List.mem_append.mp hz9).elim (fun h => hS.2.2 z h) (fun h => (hLo z h).elim)) (Nat.le_refl _) (Nat.le_refl _)
  · exact cv_callV (W.runS (As := [.int b]) (rest := []) hF (c_Ir_requireKnown_ok l b hb0) (cwS 1 hF.2.2.2.2 (gS hlk m_418 m_129 m_419) rfl rfl rfl (by decide +kernel) hR) preEq rfl rfl hsz rfl (lv_room (Nat.le_of_ble_eq_true rfl)) hdg ⟨Nat.zero_le _, Nat.zero_le _⟩) (kk hb0)
theorem d_Ir_requireRange_0 : decode b_Ir_requireRange 0 = .ok (.iload_n 0, 1) := by decide +kernel
theorem d_Ir_requireRange_1 : decode b_Ir_requireRange 1 = .ok (.ifCond .ne 13, 3) := by decide +kernel
theorem d_Ir_requireRange_4 : decode b_Ir_requireRange 4 = .ok (.new 233, 3) := by decide +kernel
theorem d_Ir_requireRange_7 : decode b_Ir_requireRange 7 = .ok (.dup, 1) := by decide +kernel
theorem d_Ir_requireRange_8 : decode b_Ir_requireRange 8 = .ok (.ldc 235, 2) := by decide +kernel
theorem d_Ir_requireRange_10 : decode b_Ir_requireRange 10 = .ok (.invokespecial 237, 3) := by decide +kernel
theorem d_Ir_requireRange_13 : decode b_Ir_requireRange 13 = .ok (.athrow, 1) := by decide +kernel
theorem d_Ir_requireRange_14 : decode b_Ir_requireRange 14 = .ok (.return_, 1) := by decide +kernel
theorem a_Ir_requireRange : ∀ w ∈ Bundle.ownAtoms R_Ir 237 "java/lang/IndexOutOfBoundsException" ["java/lang/RuntimeException", "java/lang/Exception"], (w ∈ lw_tbl ∧ (goodWord w = true ∨ nw_ok w = true)) ∨ w ∈ b4_th := by decide +kernel
set_option maxHeartbeats 4000000 in
set_option maxRecDepth 100000 in
theorem c_Ir_requireRange_ok (l : Launch) (k : Int32) (hk : ¬ k = 0) : Met l y_Ir_requireRange z_Ir_requireRange (rmQ 0 0) (fun v _ => v = ([.int k] : List Value).toArray) QcVoid 0 0 (fun _ => False) := by
  refine Met.ofW (cc := b_Ir_requireRange) (maxL := 1) (ret := none) (by decide) rfl ?_
  intro p e s m args below meth c s₁ B hml hv
  obtain rfl := hv
  have hx := B.exec
  have hb := B.bytes
  have hr := B.returns
  have hts : ∀ w ∈ w_all, w.before _ s = true := fun w hw => atoms_spec (ws := z_Ir_requireRange) B.pre w (List.mem_cons_of_mem _ hw)
  have hown : s.vm.findClass R_Ir = some m.cls := findClass_of_methodNamed B.named
  have hlocks := B.notSynchronized
  have hl := lv_entry ([.int k]) (n := 1) (Nat.le_of_ble_eq_true rfl)
  rw [lg_entry_eq]
  generalize (lg_sl ([.int k]) ++ List.replicate (1 - (lg_sl ([.int k])).length) Slot.unset).toArray = ls at hl ⊢
  have hl : lv_has ls 1 [(0, .int k)] := hl
  refine lv_iload_n hx hb d_Ir_requireRange_0 rfl (lv_at hl 0 rfl) ?_
  refine lv_if_ne (tgt := 14) hx hb d_Ir_requireRange_1 (by decide) (fun _ => ?_) (fun c9 => absurd c9 hk)
  exact W.vret hx hb hr (fun t ht hW => ⟨rfl, ht⟩) (fun _ h9 => nomatch h9) d_Ir_requireRange_14
set_option maxHeartbeats 4000000 in
set_option maxRecDepth 100000 in
theorem c_Ir_requireRange_no (l : Launch) (hlt : l.stackTraces = false) (sa : Nat → Nat) : th_Both l y_Ir_requireRange z_Ir_requireRange (rmQ 1 6) (va_Pc [.int 0] (fun U => zx_I sa (fun _ => False) U ∧ ∀ w ∈ nw_all, va_Nw w U)) (fun _ _ _ _ => False) (fun E st t => E = "java/lang/IndexOutOfBoundsException" ∧ st.heap.size ≤ t.heap.size ∧ ∀ q : Nat, q < st.heap.size → t.heap[q]? = st.heap[q]?) 1 6 (fun _ => False) := by
  refine th_ofW (cc := b_Ir_requireRange) (maxL := 1) (ret := none) (by decide) rfl ?_
  intro p e s m args below meth c s₁ B hml hnx hv
  obtain ⟨rfl, hz, hn⟩ := hv
  have hx := B.exec
  have hb := B.bytes
  have hr := B.returns
  have hts : ∀ w ∈ w_all, w.before _ s = true := fun w hw => atoms_spec (ws := z_Ir_requireRange) B.pre w (List.mem_cons_of_mem _ hw)
  have hown : s.vm.findClass R_Ir = some m.cls := findClass_of_methodNamed B.named
  have hlocks := B.notSynchronized
  have hl := lv_entry ([.int 0]) (n := 1) (Nat.le_of_ble_eq_true rfl)
  rw [lg_entry_eq]
  generalize (lg_sl ([.int 0]) ++ List.replicate (1 - (lg_sl ([.int 0])).length) Slot.unset).toArray = ls at hl ⊢
  have hl : lv_has ls 1 [(0, .int 0)] := hl
  refine lv_iload_n hx hb d_Ir_requireRange_0 rfl (lv_at hl 0 rfl) ?_
  refine lv_if_ne (tgt := 14) hx hb d_Ir_requireRange_1 (by decide) (fun c9 => absurd rfl c9) (fun _ => ?_)
  refine W.newc hx hb (C := "java/lang/IndexOutOfBoundsException") (index := 233) (n := 6) hown (hts _ m_420) (hts _ m_421) (hts _ m_422) rfl d_Ir_requireRange_4 (Nat.le_refl _) (Nat.le_refl _) (fun cC kC hfX hkX _ _ => ?_)
  refine W.eq (g2 := F0 m 7 ls [.ref s.heap.size]) rfl ?_
  refine lv_dup hx hb d_Ir_requireRange_7 rfl ?_
  refine va_ldcS hx hb hown hz.2.2.2.1 d_Ir_requireRange_8 ?_
  exact th_ctor (own := R_Ir) (cls := "java/lang/IndexOutOfBoundsException") (names := ["java/lang/RuntimeException", "java/lang/Exception"]) (ic := 237) hx hb hlt hown (by decide +kernel) (by decide +kernel) (fun w hw => (a_Ir_requireRange w hw).elim (fun h => h.2.elim (fun g => hts w (List.mem_filter.mpr ⟨h.1, g⟩)) (fun g => va_Nw.use (nw_tab g) (hn w (List.mem_filter.mpr ⟨h.1, g⟩)))) (fun h => b4_ok hz.1 hz.2.1 w h)) hfX hkX (Array.getElem?_push_size) (Nat.le_refl _) (hl.1.trans hml.symm) d_Ir_requireRange_10 d_Ir_requireRange_13 hnx (Nat.le_of_ble_eq_true rfl) (Nat.le_of_ble_eq_true rfl) hlocks (fun t hvm hsz hq => ⟨rfl, hsz, hq⟩) (Nat.le_refl _) (Nat.le_refl _)
set_option maxHeartbeats 1000000 in
theorem rq_requireRange {p : Program} {l : Launch} {e : Env} {R : Room} {s : State} {m : MethodId} {args : Array Value} {below : List Frame} {meth : Method} {c : Code} {H : Heap} {locs : List Loc} {cc : ByteArray} {nL pc idx : Nat} {ls : Array Slot} {dC : Nat → ClassId} {dI : Nat → Nat → Nat} {L : Nat → Nat} {cA : Nat → ClassId} {sa : Nat → Nat} {b : Int32} {Qc : Array Value → State → Outcome → State → Prop} {XC : String → State → State → Prop} (hF : CallFix p m c cc nL s args w_all R_Ir) (hK : kW_I dC dI cA s) (hlt : l.stackTraces = false) (hz : xz_I L sa s) (hS : va_S (aI L) s.heap H locs) (hsz : ls.size = nL) (hlocks : meth.locks = false) (hnx : ∀ x ∈ c.exceptionTable.toList, False) (hlk : Cond.methodLink R_Ir idx y_Ir_requireRange ∈ w_all) (hR : 6 + 1 ≤ R.frames ∧ 8 + (1 + 11) + 90 ≤ R.locals) (hcs : 1 ≤ R.cells ∧ 6 ≤ R.slots) (hdg : decode cc pc = .ok (.invokestatic idx, 3)) (hthr : b = 0 → ∀ t : State, H.size ≤ t.heap.size → (∀ q : Nat, q < H.size → t.heap[q]? = H[q]?) → XC "java/lang/IndexOutOfBoundsException" s t) (kk : ¬ b = 0 → W p l e R s m args below meth c H locs 0 0 (th_MQ below Qc XC args s 1 6 (aI L)) (F0 m (pc + 3) ls [])) : W p l e R s m args below meth c H locs 0 0 (th_MQ below Qc XC args s 1 6 (aI L)) (F0 m pc ls [.int b]) := by
  by_cases hb0 : b = 0
  · subst hb0
    refine th_callS (As := [.int 0]) (rest := []) hF (th_no (c_Ir_requireRange_no l hlt sa) (fun _ _ h => h) (fun _ _ _ _ _ h => h)) (cwS 1 hF.2.2.2.2 (gS hlk m_423 m_129 m_424) rfl rfl rfl (by decide +kernel) hR) ⟨fun a U g mk q => ⟨q.1, ⟨th_Z.moved (Vm.Alike.refl U.vm) q.2.1.1, th_Z.moved (Vm.Alike.refl U.vm) q.2.1.2.1, vk_R.same rfl q.2.1.2.2.1, vk_R.same rfl q.2.1.2.2.2.1, vk_R.same rfl q.2.1.2.2.2.2.1, vk_R.same rfl q.2.1.2.2.2.2.2⟩, fun w hw => nw_same (u := U) (U := U.calling g mk a) (List.mem_filter.mp hw).2 rfl (q.2.2 w hw)⟩, fun U hU hW => ⟨rfl, zx_I_to hz hS hU hW, fun w hw => nw_warm (List.mem_filter.mp hw).2 hW (hK.2 w hw)⟩⟩ rfl hsz (Nat.le_of_ble_eq_true rfl) hdg hcs rfl (fun E ce q9 st t H1 Lo hst ht hvm hE hce hcv hcl hLo => ?_)
    obtain ⟨hE, hz1, hk1⟩ := hE
    subst hE
    rw [hst, ht] at hz1
    rw [hst, ht] at hk1
    exact th_out (fun x h9 => (hnx x h9).elim) hlocks hce hcv hcl (fun t2 ht2 _ => hthr rfl t2 (by rw [ht2]; exact hz1) (fun q hq => by rw [ht2]; exact hk1 q hq)) (fun z hz9 => (List.mem_append.mp hz9).elim (fun h => hS.2.2 z h) (fun h => (hLo z h).elim)) (Nat.le_refl _) (Nat.le_refl _)
  · exact cv_callV (W.runS (As := [.int b]) (rest := []) hF (c_Ir_requireRange_ok l b hb0) (cwS 1 hF.2.2.2.2 (gS hlk m_423 m_129 m_424) rfl rfl rfl (by decide +kernel) hR) preEq rfl rfl hsz rfl (lv_room (Nat.le_of_ble_eq_true rfl)) hdg ⟨Nat.zero_le _, Nat.zero_le _⟩) (kk hb0)
theorem d_Ir_requireState_0 : decode b_Ir_requireState 0 = .ok (.iload_n 0, 1) := by decide +kernel
theorem d_Ir_requireState_1 : decode b_Ir_requireState 1 = .ok (.ifCond .ne 13, 3) := by decide +kernel
theorem d_Ir_requireState_4 : decode b_Ir_requireState 4 = .ok (.new 238, 3) := by decide +kernel
theorem d_Ir_requireState_7 : decode b_Ir_requireState 7 = .ok (.dup, 1) := by decide +kernel
theorem d_Ir_requireState_8 : decode b_Ir_requireState 8 = .ok (.ldc 240, 2) := by decide +kernel
theorem d_Ir_requireState_10 : decode b_Ir_requireState 10 = .ok (.invokespecial 242, 3) := by decide +kernel
theorem d_Ir_requireState_13 : decode b_Ir_requireState 13 = .ok (.athrow, 1) := by decide +kernel
theorem d_Ir_requireState_14 : decode b_Ir_requireState 14 = .ok (.return_, 1) := by decide +kernel
theorem a_Ir_requireState : ∀ w ∈ Bundle.ownAtoms R_Ir 242 "java/lang/IllegalStateException" ["java/lang/RuntimeException", "java/lang/Exception"], (w ∈ lw_tbl ∧ (goodWord w = true ∨ nw_ok w = true)) ∨ w ∈ b4_th := by decide +kernel
set_option maxHeartbeats 4000000 in
set_option maxRecDepth 100000 in
theorem c_Ir_requireState_ok (l : Launch) (k : Int32) (hk : ¬ k = 0) : Met l y_Ir_requireState z_Ir_requireState (rmQ 0 0) (fun v _ => v = ([.int k] : List Value).toArray) QcVoid 0 0 (fun _ => False) := by
  refine Met.ofW (cc := b_Ir_requireState) (maxL := 1) (ret := none) (by decide) rfl ?_
  intro p e s m args below meth c s₁ B hml hv
  obtain rfl := hv
  have hx := B.exec
  have hb := B.bytes
  have hr := B.returns
  have hts : ∀ w ∈ w_all, w.before _ s = true := fun w hw => atoms_spec (ws := z_Ir_requireState) B.pre w (List.mem_cons_of_mem _ hw)
  have hown : s.vm.findClass R_Ir = some m.cls := findClass_of_methodNamed B.named
  have hlocks := B.notSynchronized
  have hl := lv_entry ([.int k]) (n := 1) (Nat.le_of_ble_eq_true rfl)
  rw [lg_entry_eq]
  generalize (lg_sl ([.int k]) ++ List.replicate (1 - (lg_sl ([.int k])).length) Slot.unset).toArray = ls at hl ⊢
  have hl : lv_has ls 1 [(0, .int k)] := hl
  refine lv_iload_n hx hb d_Ir_requireState_0 rfl (lv_at hl 0 rfl) ?_
  refine lv_if_ne (tgt := 14) hx hb d_Ir_requireState_1 (by decide) (fun _ => ?_) (fun c9 => absurd c9 hk)
  exact W.vret hx hb hr (fun t ht hW => ⟨rfl, ht⟩) (fun _ h9 => nomatch h9) d_Ir_requireState_14
set_option maxHeartbeats 4000000 in
set_option maxRecDepth 100000 in
theorem c_Ir_requireState_no (l : Launch) (hlt : l.stackTraces = false) (sa : Nat → Nat) : th_Both l y_Ir_requireState z_Ir_requireState (rmQ 1 6) (va_Pc [.int 0] (fun U => zx_I sa (fun _ => False) U ∧ ∀ w ∈ nw_all, va_Nw w U)) (fun _ _ _ _ => False) (fun E st t => E = "java/lang/IllegalStateException" ∧ st.heap.size ≤ t.heap.size ∧ ∀ q : Nat, q < st.heap.size → t.heap[q]? = st.heap[q]?) 1 6 (fun _ => False) := by
  refine th_ofW (cc := b_Ir_requireState) (maxL := 1) (ret := none) (by decide) rfl ?_
  intro p e s m args below meth c s₁ B hml hnx hv
  obtain ⟨rfl, hz, hn⟩ := hv
  have hx := B.exec
  have hb := B.bytes
  have hr := B.returns
  have hts : ∀ w ∈ w_all, w.before _ s = true := fun w hw => atoms_spec (ws := z_Ir_requireState) B.pre w (List.mem_cons_of_mem _ hw)
  have hown : s.vm.findClass R_Ir = some m.cls := findClass_of_methodNamed B.named
  have hlocks := B.notSynchronized
  have hl := lv_entry ([.int 0]) (n := 1) (Nat.le_of_ble_eq_true rfl)
  rw [lg_entry_eq]
  generalize (lg_sl ([.int 0]) ++ List.replicate (1 - (lg_sl ([.int 0])).length) Slot.unset).toArray = ls at hl ⊢
  have hl : lv_has ls 1 [(0, .int 0)] := hl
  refine lv_iload_n hx hb d_Ir_requireState_0 rfl (lv_at hl 0 rfl) ?_
  refine lv_if_ne (tgt := 14) hx hb d_Ir_requireState_1 (by decide) (fun c9 => absurd rfl c9) (fun _ => ?_)
  refine W.newc hx hb (C := "java/lang/IllegalStateException") (index := 238) (n := 6) hown (hts _ m_425) (hts _ m_426) (hts _ m_427) rfl d_Ir_requireState_4 (Nat.le_refl _) (Nat.le_refl _) (fun cC kC hfX hkX _ _ => ?_)
  refine W.eq (g2 := F0 m 7 ls [.ref s.heap.size]) rfl ?_
  refine lv_dup hx hb d_Ir_requireState_7 rfl ?_
  refine va_ldcS hx hb hown hz.2.2.2.2.1 d_Ir_requireState_8 ?_
  exact th_ctor (own := R_Ir) (cls := "java/lang/IllegalStateException") (names := ["java/lang/RuntimeException", "java/lang/Exception"]) (ic := 242) hx hb hlt hown (by decide +kernel) (by decide +kernel) (fun w hw => (a_Ir_requireState w hw).elim (fun h => h.2.elim (fun g => hts w (List.mem_filter.mpr ⟨h.1, g⟩)) (fun g => va_Nw.use (nw_tab g) (hn w (List.mem_filter.mpr ⟨h.1, g⟩)))) (fun h => b4_ok hz.1 hz.2.1 w h)) hfX hkX (Array.getElem?_push_size) (Nat.le_refl _) (hl.1.trans hml.symm) d_Ir_requireState_10 d_Ir_requireState_13 hnx (Nat.le_of_ble_eq_true rfl) (Nat.le_of_ble_eq_true rfl) hlocks (fun t hvm hsz hq => ⟨rfl, hsz, hq⟩) (Nat.le_refl _) (Nat.le_refl _)
set_option maxHeartbeats 1000000 in
theorem rq_requireState {p : Program} {l : Launch} {e : Env} {R : Room} {s : State} {m : MethodId} {args : Array Value} {below : List Frame} {meth : Method} {c : Code} {H : Heap} {locs : List Loc} {cc : ByteArray} {nL pc idx : Nat} {ls : Array Slot} {dC : Nat → ClassId} {dI : Nat → Nat → Nat} {L : Nat → Nat} {cA : Nat → ClassId} {sa : Nat → Nat} {b : Int32} {Qc : Array Value → State → Outcome → State → Prop} {XC : String → State → State → Prop} (hF : CallFix p m c cc nL s args w_all R_Ir) (hK : kW_I dC dI cA s) (hlt : l.stackTraces = false) (hz : xz_I L sa s) (hS : va_S (aI L) s.heap H locs) (hsz : ls.size = nL) (hlocks : meth.locks = false) (hnx : ∀ x ∈ c.exceptionTable.toList, False) (hlk : Cond.methodLink R_Ir idx y_Ir_requireState ∈ w_all) (hR : 6 + 1 ≤ R.frames ∧ 8 + (1 + 11) + 90 ≤ R.locals) (hcs : 1 ≤ R.cells ∧ 6 ≤ R.slots) (hdg : decode cc pc = .ok (.invokestatic idx, 3)) (hthr : b = 0 → ∀ t : State, H.size ≤ t.heap.size → (∀ q : Nat, q < H.size → t.heap[q]? = H[q]?) → XC "java/lang/IllegalStateException" s t) (kk : ¬ b = 0 → W p l e R s m args below meth c H locs 0 0 (th_MQ below Qc XC args s 1 6 (aI L)) (F0 m (pc + 3) ls [])) : W p l e R s m args below meth c H locs 0 0 (th_MQ below Qc XC args s 1 6 (aI L)) (F0 m pc ls [.int b]) := by
  by_cases hb0 : b = 0
  · subst hb0
    refine th_callS (As := [.int 0]) (rest := []) hF (th_no (c_Ir_requireState_no l hlt sa) (fun _ _ h => h) (fun _ _ _ _ _ h => h)) (cwS 1 hF.2.2.2.2 (gS hlk m_428 m_129 m_429) rfl rfl rfl (by decide +kernel) hR) ⟨fun a U g mk q => ⟨q.1, ⟨th_Z.moved (Vm.Alike.refl U.vm) q.2.1.1, th_Z.moved (Vm.Alike.refl U.vm) q.2.1.2.1, vk_R.same rfl q.2.1.2.2.1, vk_R.same rfl q.2.1.2.2.2.1, vk_R.same rfl q.2.1.2.2.2.2.1, vk_R.same rfl q.2.1.2.2.2.2.2⟩, fun w hw => nw_same (u := U) (U := U.calling g mk a) (List.mem_filter.mp hw).2 rfl (q.2.2 w hw)⟩, fun U hU hW => ⟨rfl, zx_I_to hz hS hU hW, fun w hw => nw_warm (List.mem_filter.mp hw).2 hW (hK.2 w hw)⟩⟩ rfl hsz (Nat.le_of_ble_eq_true rfl) hdg hcs rfl (fun E ce q9 st t H1 Lo hst ht hvm hE hce hcv hcl hLo => ?_)
    obtain ⟨hE, hz1, hk1⟩ := hE
    subst hE
    rw [hst, ht] at hz1
    rw [hst, ht] at hk1
    exact th_out (fun x h9 => (hnx x h9).elim) hlocks hce hcv hcl (fun t2 ht2 _ => hthr rfl t2 (by rw [ht2]; exact hz1) (fun q hq => by rw [ht2]; exact hk1 q hq)) (fun z hz9 => (List.mem_append.mp hz9).elim (fun h => hS.2.2 z h) (fun h => (hLo z h).elim)) (Nat.le_refl _) (Nat.le_refl _)
  · exact cv_callV (W.runS (As := [.int b]) (rest := []) hF (c_Ir_requireState_ok l b hb0) (cwS 1 hF.2.2.2.2 (gS hlk m_428 m_129 m_429) rfl rfl rfl (by decide +kernel) hR) preEq rfl rfl hsz rfl (lv_room (Nat.le_of_ble_eq_true rfl)) hdg ⟨Nat.zero_le _, Nat.zero_le _⟩) (kk hb0)
theorem d_Ir_requireRoom_0 : decode b_Ir_requireRoom 0 = .ok (.iload_n 0, 1) := by decide +kernel
theorem d_Ir_requireRoom_1 : decode b_Ir_requireRoom 1 = .ok (.ifCond .ne 13, 3) := by decide +kernel
theorem d_Ir_requireRoom_4 : decode b_Ir_requireRoom 4 = .ok (.new 243, 3) := by decide +kernel
theorem d_Ir_requireRoom_7 : decode b_Ir_requireRoom 7 = .ok (.dup, 1) := by decide +kernel
theorem d_Ir_requireRoom_8 : decode b_Ir_requireRoom 8 = .ok (.ldc 245, 2) := by decide +kernel
theorem d_Ir_requireRoom_10 : decode b_Ir_requireRoom 10 = .ok (.invokespecial 247, 3) := by decide +kernel
theorem d_Ir_requireRoom_13 : decode b_Ir_requireRoom 13 = .ok (.athrow, 1) := by decide +kernel
theorem d_Ir_requireRoom_14 : decode b_Ir_requireRoom 14 = .ok (.return_, 1) := by decide +kernel
theorem a_Ir_requireRoom : ∀ w ∈ Bundle.ownAtoms R_Ir 247 "java/lang/UnsupportedOperationException" ["java/lang/RuntimeException", "java/lang/Exception"], (w ∈ lw_tbl ∧ (goodWord w = true ∨ nw_ok w = true)) ∨ w ∈ b4_th := by decide +kernel
set_option maxHeartbeats 4000000 in
set_option maxRecDepth 100000 in
theorem c_Ir_requireRoom_ok (l : Launch) (k : Int32) (hk : ¬ k = 0) : Met l y_Ir_requireRoom z_Ir_requireRoom (rmQ 0 0) (fun v _ => v = ([.int k] : List Value).toArray) QcVoid 0 0 (fun _ => False) := by
  refine Met.ofW (cc := b_Ir_requireRoom) (maxL := 1) (ret := none) (by decide) rfl ?_
  intro p e s m args below meth c s₁ B hml hv
  obtain rfl := hv
  have hx := B.exec
  have hb := B.bytes
  have hr := B.returns
  have hts : ∀ w ∈ w_all, w.before _ s = true := fun w hw => atoms_spec (ws := z_Ir_requireRoom) B.pre w (List.mem_cons_of_mem _ hw)
  have hown : s.vm.findClass R_Ir = some m.cls := findClass_of_methodNamed B.named
  have hlocks := B.notSynchronized
  have hl := lv_entry ([.int k]) (n := 1) (Nat.le_of_ble_eq_true rfl)
  rw [lg_entry_eq]
  generalize (lg_sl ([.int k]) ++ List.replicate (1 - (lg_sl ([.int k])).length) Slot.unset).toArray = ls at hl ⊢
  have hl : lv_has ls 1 [(0, .int k)] := hl
  refine lv_iload_n hx hb d_Ir_requireRoom_0 rfl (lv_at hl 0 rfl) ?_
  refine lv_if_ne (tgt := 14) hx hb d_Ir_requireRoom_1 (by decide) (fun _ => ?_) (fun c9 => absurd c9 hk)
  exact W.vret hx hb hr (fun t ht hW => ⟨rfl, ht⟩) (fun _ h9 => nomatch h9) d_Ir_requireRoom_14
set_option maxHeartbeats 4000000 in
set_option maxRecDepth 100000 in
theorem c_Ir_requireRoom_no (l : Launch) (hlt : l.stackTraces = false) (sa : Nat → Nat) : th_Both l y_Ir_requireRoom z_Ir_requireRoom (rmQ 1 6) (va_Pc [.int 0] (fun U => zx_I sa (fun _ => False) U ∧ ∀ w ∈ nw_all, va_Nw w U)) (fun _ _ _ _ => False) (fun E st t => E = "java/lang/UnsupportedOperationException" ∧ st.heap.size ≤ t.heap.size ∧ ∀ q : Nat, q < st.heap.size → t.heap[q]? = st.heap[q]?) 1 6 (fun _ => False) := by
  refine th_ofW (cc := b_Ir_requireRoom) (maxL := 1) (ret := none) (by decide) rfl ?_
  intro p e s m args below meth c s₁ B hml hnx hv
  obtain ⟨rfl, hz, hn⟩ := hv
  have hx := B.exec
  have hb := B.bytes
  have hr := B.returns
  have hts : ∀ w ∈ w_all, w.before _ s = true := fun w hw => atoms_spec (ws := z_Ir_requireRoom) B.pre w (List.mem_cons_of_mem _ hw)
  have hown : s.vm.findClass R_Ir = some m.cls := findClass_of_methodNamed B.named
  have hlocks := B.notSynchronized
  have hl := lv_entry ([.int 0]) (n := 1) (Nat.le_of_ble_eq_true rfl)
  rw [lg_entry_eq]
  generalize (lg_sl ([.int 0]) ++ List.replicate (1 - (lg_sl ([.int 0])).length) Slot.unset).toArray = ls at hl ⊢
  have hl : lv_has ls 1 [(0, .int 0)] := hl
  refine lv_iload_n hx hb d_Ir_requireRoom_0 rfl (lv_at hl 0 rfl) ?_
  refine lv_if_ne (tgt := 14) hx hb d_Ir_requireRoom_1 (by decide) (fun c9 => absurd rfl c9) (fun _ => ?_)
  refine W.newc hx hb (C := "java/lang/UnsupportedOperationException") (index := 243) (n := 6) hown (hts _ m_430) (hts _ m_431) (hts _ m_432) rfl d_Ir_requireRoom_4 (Nat.le_refl _) (Nat.le_refl _) (fun cC kC hfX hkX _ _ => ?_)
  refine W.eq (g2 := F0 m 7 ls [.ref s.heap.size]) rfl ?_
  refine lv_dup hx hb d_Ir_requireRoom_7 rfl ?_
  refine va_ldcS hx hb hown hz.2.2.2.2.2 d_Ir_requireRoom_8 ?_
  exact th_ctor (own := R_Ir) (cls := "java/lang/UnsupportedOperationException") (names := ["java/lang/RuntimeException", "java/lang/Exception"]) (ic := 247) hx hb hlt hown (by decide +kernel) (by decide +kernel) (fun w hw => (a_Ir_requireRoom w hw).elim (fun h => h.2.elim (fun g => hts w (List.mem_filter.mpr ⟨h.1, g⟩)) (fun g => va_Nw.use (nw_tab g) (hn w (List.mem_filter.mpr ⟨h.1, g⟩)))) (fun h => b4_ok hz.1 hz.2.1 w h)) hfX hkX (Array.getElem?_push_size) (Nat.le_refl _) (hl.1.trans hml.symm) d_Ir_requireRoom_10 d_Ir_requireRoom_13 hnx (Nat.le_of_ble_eq_true rfl) (Nat.le_of_ble_eq_true rfl) hlocks (fun t hvm hsz hq => ⟨rfl, hsz, hq⟩) (Nat.le_refl _) (Nat.le_refl _)
set_option maxHeartbeats 1000000 in
theorem rq_requireRoom {p : Program} {l : Launch} {e : Env} {R : Room} {s : State} {m : MethodId} {args : Array Value} {below : List Frame} {meth : Method} {c : Code} {H : Heap} {locs : List Loc} {cc : ByteArray} {nL pc idx : Nat} {ls : Array Slot} {dC : Nat → ClassId} {dI : Nat → Nat → Nat} {L : Nat → Nat} {cA : Nat → ClassId} {sa : Nat → Nat} {b : Int32} {Qc : Array Value → State → Outcome → State → Prop} {XC : String → State → State → Prop} (hF : CallFix p m c cc nL s args w_all R_Ir) (hK : kW_I dC dI cA s) (hlt : l.stackTraces = false) (hz : xz_I L sa s) (hS : va_S (aI L) s.heap H locs) (hsz : ls.size = nL) (hlocks : meth.locks = false) (hnx : ∀ x ∈ c.exceptionTable.toList, False) (hlk : Cond.methodLink R_Ir idx y_Ir_requireRoom ∈ w_all) (hR : 6 + 1 ≤ R.frames ∧ 8 + (1 + 11) + 90 ≤ R.locals) (hcs : 1 ≤ R.cells ∧ 6 ≤ R.slots) (hdg : decode cc pc = .ok (.invokestatic idx, 3)) (hthr : b = 0 → ∀ t : State, H.size ≤ t.heap.size → (∀ q : Nat, q < H.size → t.heap[q]? = H[q]?) → XC "java/lang/UnsupportedOperationException" s t) (kk : ¬ b = 0 → W p l e R s m args below meth c H locs 0 0 (th_MQ below Qc XC args s 1 6 (aI L)) (F0 m (pc + 3) ls [])) : W p l e R s m args below meth c H locs 0 0 (th_MQ below Qc XC args s 1 6 (aI L)) (F0 m pc ls [.int b]) := by
  by_cases hb0 : b = 0
  · subst hb0
    refine th_callS (As := [.int 0]) (rest := []) hF (th_no (c_Ir_requireRoom_no l hlt sa) (fun _ _ h => h) (fun _ _ _ _ _ h => h)) (cwS 1 hF.2.2.2.2 (gS hlk m_433 m_129 m_434) rfl rfl rfl (by decide +kernel) hR) ⟨fun a U g mk q => ⟨q.1, ⟨th_Z.moved (Vm.Alike.refl U.vm) q.2.1.1, th_Z.moved (Vm.Alike.refl U.vm) q.2.1.2.1, vk_R.same rfl q.2.1.2.2.1, vk_R.same rfl q.2.1.2.2.2.1, vk_R.same rfl q.2.1.2.2.2.2.1, vk_R.same rfl q.2.1.2.2.2.2.2⟩, fun w hw => nw_same (u := U) (U := U.calling g mk a) (List.mem_filter.mp hw).2 rfl (q.2.2 w hw)⟩, fun U hU hW => ⟨rfl, zx_I_to hz hS hU hW, fun w hw => nw_warm (List.mem_filter.mp hw).2 hW (hK.2 w hw)⟩⟩ rfl hsz (Nat.le_of_ble_eq_true rfl) hdg hcs rfl (fun E ce q9 st t H1 Lo hst ht hvm hE hce hcv hcl hLo => ?_)
    obtain ⟨hE, hz1, hk1⟩ := hE
    subst hE
    rw [hst, ht] at hz1
    rw [hst, ht] at hk1
    exact th_out (fun x h9 => (hnx x h9).elim) hlocks hce hcv hcl (fun t2 ht2 _ => hthr rfl t2 (by rw [ht2]; exact hz1) (fun q hq => by rw [ht2]; exact hk1 q hq)) (fun z hz9 => (List.mem_append.mp hz9).elim (fun h => hS.2.2 z h) (fun h => (hLo z h).elim)) (Nat.le_refl _) (Nat.le_refl _)
  · exact cv_callV (W.runS (As := [.int b]) (rest := []) hF (c_Ir_requireRoom_ok l b hb0) (cwS 1 hF.2.2.2.2 (gS hlk m_433 m_129 m_434) rfl rfl rfl (by decide +kernel) hR) preEq rfl rfl hsz rfl (lv_room (Nat.le_of_ble_eq_true rfl)) hdg ⟨Nat.zero_le _, Nat.zero_le _⟩) (kk hb0)

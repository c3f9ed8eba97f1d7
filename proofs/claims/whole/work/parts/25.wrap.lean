def R_Lw : String := "InspectRowsLaw"
theorem m_530 : (Cond.methodLink R_Lw 7 y_Ir_weight) ∈ w_all := List.mem_filter.mpr ⟨List.mem_of_getElem? (i := 288) (by decide +kernel), by decide +kernel⟩
theorem m_531 : (Cond.classLink R_Lw 13 "java/lang/IllegalArgumentException") ∈ w_all := List.mem_filter.mpr ⟨List.mem_of_getElem? (i := 286) (by decide +kernel), by decide +kernel⟩
theorem m_532 : (Cond.classLink R_Lw 15 "java/lang/IndexOutOfBoundsException") ∈ w_all := List.mem_filter.mpr ⟨List.mem_of_getElem? (i := 287) (by decide +kernel), by decide +kernel⟩
theorem m_533 : (Cond.methodLink R_Lw 17 y_Ir_steps) ∈ w_all := List.mem_filter.mpr ⟨List.mem_of_getElem? (i := 392) (by decide +kernel), by decide +kernel⟩
theorem m_534 : (Cond.methodLink R_Lw 21 y_Ir_interval) ∈ w_all := List.mem_filter.mpr ⟨List.mem_of_getElem? (i := 400) (by decide +kernel), by decide +kernel⟩
theorem m_535 : (Cond.methodLink R_Lw 24 y_Ir_point) ∈ w_all := List.mem_filter.mpr ⟨List.mem_of_getElem? (i := 408) (by decide +kernel), by decide +kernel⟩
theorem m_536 : (Cond.classLink R_Lw 28 "java/lang/UnsupportedOperationException") ∈ w_all := List.mem_filter.mpr ⟨List.mem_of_getElem? (i := 407) (by decide +kernel), by decide +kernel⟩
theorem m_537 : (Cond.methodLink R_Lw 30 y_Ir_day) ∈ w_all := List.mem_filter.mpr ⟨List.mem_of_getElem? (i := 438) (by decide +kernel), by decide +kernel⟩
theorem m_538 : (Cond.methodLink R_Lw 34 y_Ir_visit) ∈ w_all := List.mem_filter.mpr ⟨List.mem_of_getElem? (i := 446) (by decide +kernel), by decide +kernel⟩
theorem m_539 : (Cond.methodLink R_Lw 37 y_Ir_finding) ∈ w_all := List.mem_filter.mpr ⟨List.mem_of_getElem? (i := 457) (by decide +kernel), by decide +kernel⟩
theorem m_540 : (Cond.methodLink R_Lw 41 y_Ir_done) ∈ w_all := List.mem_filter.mpr ⟨List.mem_of_getElem? (i := 497) (by decide +kernel), by decide +kernel⟩
theorem m_541 : (Cond.classLink R_Lw 44 "java/lang/IllegalStateException") ∈ w_all := List.mem_filter.mpr ⟨List.mem_of_getElem? (i := 496) (by decide +kernel), by decide +kernel⟩
theorem m_542 : (Cond.methodLink R_Lw 46 y_Ir_findingAt) ∈ w_all := List.mem_filter.mpr ⟨List.mem_of_getElem? (i := 528) (by decide +kernel), by decide +kernel⟩
theorem m_543 : (Cond.methodLink R_Lw 50 y_Ir_pointAt) ∈ w_all := List.mem_filter.mpr ⟨List.mem_of_getElem? (i := 536) (by decide +kernel), by decide +kernel⟩
theorem m_544 : (Cond.methodLink R_Lw 53 y_Ir_due) ∈ w_all := List.mem_filter.mpr ⟨List.mem_of_getElem? (i := 551) (by decide +kernel), by decide +kernel⟩
theorem m_545 : (Cond.methodLink R_Lw 56 y_Ir_question) ∈ w_all := List.mem_filter.mpr ⟨List.mem_of_getElem? (i := 566) (by decide +kernel), by decide +kernel⟩
theorem m_546 : (Cond.methodLink R_Lw 60 y_Ir_list) ∈ w_all := List.mem_filter.mpr ⟨List.mem_of_getElem? (i := 580) (by decide +kernel), by decide +kernel⟩
theorem m_547 : (Cond.methodLink R_Lw 63 y_Ir_walk) ∈ w_all := List.mem_filter.mpr ⟨List.mem_of_getElem? (i := 591) (by decide +kernel), by decide +kernel⟩
theorem m_548 : (Cond.methodLink R_Lw 67 y_Ir_stop) ∈ w_all := List.mem_filter.mpr ⟨List.mem_of_getElem? (i := 643) (by decide +kernel), by decide +kernel⟩
theorem m_549 : (Cond.methodLink R_Lw 71 y_Ir_rules) ∈ w_all := List.mem_filter.mpr ⟨List.mem_of_getElem? (i := 650) (by decide +kernel), by decide +kernel⟩
theorem m_550 : (Cond.methodLink R_Lw 74 y_Ir_permit) ∈ w_all := List.mem_filter.mpr ⟨List.mem_of_getElem? (i := 659) (by decide +kernel), by decide +kernel⟩
theorem m_551 : (Cond.methodLink R_Lw 77 y_Ir_ground) ∈ w_all := List.mem_filter.mpr ⟨List.mem_of_getElem? (i := 689) (by decide +kernel), by decide +kernel⟩
theorem m_552 : (Cond.methodLink R_Lw 80 y_Ir_touches) ∈ w_all := List.mem_filter.mpr ⟨List.mem_of_getElem? (i := 704) (by decide +kernel), by decide +kernel⟩
theorem m_553 : (Cond.methodLink R_Lw 83 y_Ir_surprise) ∈ w_all := List.mem_filter.mpr ⟨List.mem_of_getElem? (i := 711) (by decide +kernel), by decide +kernel⟩
theorem mn_24 : (Cond.castable "java/lang/IllegalArgumentException" "java/lang/IllegalArgumentException") ∈ nw_all := List.mem_filter.mpr ⟨List.mem_of_getElem? (i := 303) (by decide +kernel), by decide +kernel⟩
theorem mn_25 : (Cond.castable "java/lang/IndexOutOfBoundsException" "java/lang/IndexOutOfBoundsException") ∈ nw_all := List.mem_filter.mpr ⟨List.mem_of_getElem? (i := 375) (by decide +kernel), by decide +kernel⟩
theorem mn_26 : (Cond.castable "java/lang/UnsupportedOperationException" "java/lang/UnsupportedOperationException") ∈ nw_all := List.mem_filter.mpr ⟨List.mem_of_getElem? (i := 417) (by decide +kernel), by decide +kernel⟩
theorem mn_27 : (Cond.castable "java/lang/IllegalStateException" "java/lang/IllegalStateException") ∈ nw_all := List.mem_filter.mpr ⟨List.mem_of_getElem? (i := 511) (by decide +kernel), by decide +kernel⟩

def nc_th (U : State) : Prop := va_Nc "java/lang/IndexOutOfBoundsException" "java/lang/IllegalArgumentException" U ∧ va_Nc "java/lang/UnsupportedOperationException" "java/lang/IllegalArgumentException" U ∧ va_Nc "java/lang/UnsupportedOperationException" "java/lang/IndexOutOfBoundsException" U ∧ va_Nc "java/lang/IllegalStateException" "java/lang/IllegalArgumentException" U ∧ va_Nc "java/lang/IllegalStateException" "java/lang/IndexOutOfBoundsException" U ∧ va_Nc "java/lang/UnsupportedOperationException" "java/lang/IllegalStateException" U
theorem nc_th_moved {u U : State} (hvm : u.vm.Alike U.vm) (h : nc_th u) : nc_th U := ⟨va_Nc.moved hvm h.1, va_Nc.moved hvm h.2.1, va_Nc.moved hvm h.2.2.1, va_Nc.moved hvm h.2.2.2.1, va_Nc.moved hvm h.2.2.2.2.1, va_Nc.moved hvm h.2.2.2.2.2⟩
def aO (L : Nat → Nat) (qo : Nat) : Nat → Prop := fun q => aI L q ∨ q = qo

section TC
variable {p : Program} {l : Launch} {e : Env} {R : Room} {s : State} {m : MethodId} {args : Array Value} {below : List Frame} {meth : Method} {c : Code} {H : Heap} {locs : List Loc} {cells slots : Nat} {Q : State → Prop} {pc : Nat} {ls : Array Slot} {rest : List Value}
theorem th_row {ev : Env} {f : JFrame} {a : Addr} {S : State} {x : ExceptionTableEntry} {t : List ExceptionTableEntry} {d : ClassId} {ce : Cell} (hx : covers x f.pc = true) (h0 : x.catchType ≠ 0) (hl : S.vm.ClassLinks ev.platform f.method.cls x.catchType d) (hcell : S.heap[a]? = some ce) (hobj : ∀ k, ce.vm ≠ .statics k)
    (hk : ∃ k, S.vm.classes[ce.cls]? = some k) (hd : ∃ k, S.vm.classes[d]? = some k) (Q : Handler → Pre) (E : CtlPost) (b : Bool) (acts : List Action) :
    wp (findHandler.go f a (x :: t)) Q E ev b acts S ↔ if S.vm.assignable ce.cls d = true then Q (.found x.handlerPc) b acts (S.setVm (S.vm.noted f.method.cls x.catchType (.cls d))) else wp (findHandler.go f a t) Q E ev b acts (S.setVm (S.vm.noted f.method.cls x.catchType (.cls d))) := by
  obtain ⟨k1, hk1⟩ := hk
  obtain ⟨k2, hk2⟩ := hd
  have hal : S.vm.Alike (S.vm.noted f.method.cls x.catchType (.cls d)) := (Vm.Alike.refl S.vm).noted _ _ _
  obtain ⟨k1', hk1', -⟩ := hal.2.2 _ _ hk1
  obtain ⟨k2', hk2', -⟩ := hal.2.2 _ _ hk2
  obtain ⟨r1, r2⟩ := (resolveClass_links ev.toSetting hl).op (op := VmOp.resolveClass f.method.cls x.catchType) rfl
  simp only [covers] at hx
  cases hfit : S.vm.assignable ce.cls d
  · have hf' : (S.vm.noted f.method.cls x.catchType (.cls d)).assignable ce.cls d = false := by rw [hal.assignable]; exact hfit
    simp [findHandler.go, hx, h0, r1, r2, hcell, hobj, hk1', hk2', hf', VmOp.dirties, VmOp.acts]
  · have hf' : (S.vm.noted f.method.cls x.catchType (.cls d)).assignable ce.cls d = true := by rw [hal.assignable]; exact hfit
    simp [findHandler.go, hx, h0, r1, r2, hcell, hobj, hk1', hk2', hf', VmOp.dirties, VmOp.acts]
/-- the search for a handler goes by the rows of pre, whose classes don't fit, and stops at x, whose class fits -/
theorem th_rows {ev : Env} {s₀ : State} {f : JFrame} {a : Addr} {ce : Cell} (hobj : ∀ k, ce.vm ≠ .statics k) {k0 : Class} (hk0 : s₀.vm.classes[ce.cls]? = some k0) {x : ExceptionTableEntry} {suf : List ExceptionTableEntry} (hx : covers x f.pc = true) (h0 : x.catchType ≠ 0) {d : ClassId} (hl : s₀.vm.ClassLinks ev.platform f.method.cls x.catchType d) (hfit : s₀.vm.assignable ce.cls d = true) :
    ∀ (pre : List ExceptionTableEntry) (S : State), s₀.WarmedH S.vm → S.heap[a]? = some ce → (∀ z ∈ pre, z.catchType ≠ 0 ∧ ∃ d', s₀.vm.ClassLinks ev.platform f.method.cls z.catchType d' ∧ s₀.vm.assignable ce.cls d' = false) →
      ∃ vm', s₀.WarmedH vm' ∧ ∀ (Q : Handler → Pre) (E : CtlPost) (b : Bool) (acts : List Action), wp (findHandler.go f a (pre ++ x :: suf)) Q E ev b acts S ↔ Q (.found x.handlerPc) b acts (S.setVm vm') := by
  intro pre
  induction pre with
  | nil =>
    intro S hW hcell _
    obtain ⟨k0', hk0', -⟩ := hW.alike.2.2 _ _ hk0
    obtain ⟨dk, _, _, kt, hd, _, _, _, _, hkt, _, hopen⟩ := hl.here
    obtain ⟨kt', hkt', -⟩ := hW.alike.2.2 _ _ hkt
    refine ⟨_, hW.noted hd hopen (State.rightAt_cls hl), fun Q E b acts => ?_⟩
    rw [List.nil_append, th_row hx h0 (hW.classLinks hl) hcell hobj ⟨k0', hk0'⟩ ⟨kt', hkt'⟩ Q E b acts, if_pos (by rw [hW.alike.assignable]; exact hfit)]
  | cons z zs ih =>
    intro S hW hcell hpass
    have hzs := fun w hw => hpass w (List.mem_cons_of_mem _ hw)
    cases hcov : covers z f.pc
    · obtain ⟨vm', hW', hq⟩ := ih S hW hcell hzs
      exact ⟨vm', hW', fun Q E b acts => by rw [List.cons_append, W.findHandler_go_skip hcov]; exact hq Q E b acts⟩
    · obtain ⟨hz0, d', hl', hno⟩ := hpass z (List.mem_cons_self ..)
      obtain ⟨k0', hk0', -⟩ := hW.alike.2.2 _ _ hk0
      obtain ⟨dk, _, _, kt, hd, _, _, _, _, hkt, _, hopen⟩ := hl'.here
      obtain ⟨kt', hkt', -⟩ := hW.alike.2.2 _ _ hkt
      obtain ⟨vm', hW', hq⟩ := ih (S.setVm (S.vm.noted f.method.cls z.catchType (.cls d'))) (hW.noted hd hopen (State.rightAt_cls hl')) hcell hzs
      refine ⟨vm', hW', fun Q E b acts => ?_⟩
      rw [List.cons_append, th_row hcov hz0 (hW.classLinks hl') hcell hobj ⟨k0', hk0'⟩ ⟨kt', hkt'⟩ Q E b acts, if_neg (by rw [hW.alike.assignable, hno]; decide)]
      exact hq Q E b acts
theorem th_into {ev : Env} {tb : Tables} {S : State} {g : JFrame} {cd : Code} {bw : List Frame} {a : Addr} {vm' : Vm} {h : Nat} (hA : At S g.method cd bw)
    (hfind : ∀ (Q : Handler → Pre) (E : CtlPost) (b : Bool) (acts : List Action), wp (findHandler g a) Q E ev b acts ((S.setTop g).pushFrame (.throwing a)) ↔ Q (.found h) b acts (((S.setTop g).pushFrame (.throwing a)).setVm vm')) :
    Steps tb ev bw ((S.setTop g).pushFrame (.throwing a)) ((S.setVm vm').setTop { g with pc := h, stack := [.ref a] }) := by
  obtain ⟨hgo, hin⟩ := hA.throwing a
  obtain ⟨g₀, hg0⟩ := Option.isSome_iff_exists.mp hA.top
  obtain ⟨fs, hfs⟩ := State.topJava?_eq_some.mp hg0
  have hfs' : (S.setVm vm').frames = .java g₀ :: fs := hfs
  have hstep : (stepThrowing ev ((S.setTop g).pushFrame (.throwing a)) a (.java g :: S.frames.tail)).Is ((((S.setTop g).pushFrame (.throwing a)).setVm vm').setFrames (.java { g with pc := h, stack := [.ref a] } :: S.frames.tail)) [] := by
    simp only [stepThrowing, searchFrame, vmDo]
    generalize hr : Sem.go _ ev false [] _ = res
    obtain ⟨as, rfl, ha⟩ := Sem.eq_ok_of hr (a := Handler.found h) (s' := ((S.setTop g).pushFrame (.throwing a)).setVm vm') (acts' := []) (by simp [hfind _ _ _ _])
    exact ⟨rfl, ha⟩
  refine Steps.head hgo hin ?_
  rw [stepThread_throwing (frames_entered hA.top _), hstep.1, hfs, List.tail_cons, State.setTop_of_frames _ hfs']
  have e1 : (((S.setTop g).pushFrame (.throwing a)).setVm vm').setFrames (.java { g with pc := h, stack := [.ref a] } :: fs) = (S.setVm vm').setFrames (.java { g with pc := h, stack := [.ref a] } :: fs) := by
    rw [State.pushFrame, State.setTop_of_frames _ hfs]
    have e2 : ∀ (F G : List Frame), ((S.setFrames F).setFrames G).setVm vm' = ((S.setVm vm').setFrames F).setFrames G := fun _ _ => rfl
    rw [e2, State.setFrames_setFrames, State.setFrames_setFrames]
  rw [e1]
  exact Steps.refl _
theorem th_catch {own name E : String} {ce : Cell} {q : Addr} (hown : s.vm.findClass own = some m.cls) (pre : List ExceptionTableEntry) (x : ExceptionTableEntry) (suf : List ExceptionTableEntry) (hsplit : c.exceptionTable.toList = pre ++ x :: suf)
    (hpass : ∀ z ∈ pre, z.catchType ≠ 0 ∧ ∃ nm : String, (Cond.classLink own z.catchType nm).before args s = true ∧ va_Nc E nm s) (hx : covers x pc = true) (h0 : x.catchType ≠ 0) (hlink : (Cond.classLink own x.catchType name).before args s = true) (hcast : (Cond.castable E name).before args s = true)
    (hcell : H[q]? = some ce) (hv : ce.vm = .none) (hcl : s.vm.findClass E = some ce.cls) (kk : W p l e R s m args below meth c H locs cells slots Q (F0 m x.handlerPc ls [.ref q])) : th_W p l e R s m args below meth c H locs cells slots Q (F0 m pc ls rest) q := by
  intro T hT X
  have hpl : e.platform.magicAccessors = ({} : Platform).magicAccessors := by rw [X.admits.platform]
  obtain ⟨c3, c4, hc3, hc4, hasg⟩ := Cond.castable_spec hcast
  cases Option.some.inj (hc3.symm.trans hcl)
  obtain ⟨c5, hc5, hcl5⟩ := Cond.classLink_spec hown hlink e.platform hpl
  cases Option.some.inj (hc4.symm.trans hc5)
  obtain ⟨k9, hk9, -⟩ := Vm.findClass_spec hcl
  obtain ⟨vm', hW', hq⟩ := th_rows (ev := e) (s₀ := s) (f := F0 m pc ls rest) (a := q) (ce := ce) (fun k h9 => by rw [hv] at h9; cases h9) hk9 (x := x) (suf := suf) hx h0 hcl5 hasg pre ((T.setTop (F0 m pc ls rest)).pushFrame (.throwing q)) X.warmed (by show T.heap[q]? = some ce; rw [hT]; exact hcell)
    (fun z hz => by
      obtain ⟨hz0, nm, hl1, hn1⟩ := hpass z hz
      obtain ⟨c6, hc6, hcl6⟩ := Cond.classLink_spec hown hl1 e.platform hpl
      obtain ⟨a8, b8, h1, h2, h3⟩ := hn1
      cases Option.some.inj (h1.symm.trans hcl)
      cases Option.some.inj (h2.symm.trans hc6)
      exact ⟨hz0, _, hcl6, h3⟩)
  have X' : Stand p l e R s m args below meth c (T.setVm vm') locs cells slots := X.noted hW'
  have hm9 : ((T.setTop (F0 m pc ls rest)).pushFrame (.throwing q)).vm.method? m = some meth := X.method'
  have st : Steps p.tables e below ((T.setTop (F0 m pc ls rest)).pushFrame (.throwing q)) ((T.setVm vm').setTop (F0 m x.handlerPc ls [.ref q])) :=
    th_into (g := F0 m pc ls rest) X.here (fun Q E b acts => by
      rw [W.findHandler_eq (f := F0 m pc ls rest) hm9 X.code, hsplit]
      exact hq Q E b acts)
  obtain ⟨t, a1, b1⟩ := kk (T.setVm vm') hT X'
  exact ⟨t, st.trans a1, b1⟩
end TC
theorem tb_of {p : Program} {l : Launch} {y : MethodName} {S : Spec} {cc bytes : ByteArray} {maxL maxN : Nat} {ret rat : Option FieldType} {e : Env} {s s₁ : State} {m : MethodId} {args : Array Value} {below : List Frame} {meth : Method} {c : Code} {hh : List (Nat × Nat × Nat × Nat)}
    (B : BodyLoose p l y S cc maxL ret e s m args below meth c s₁) (h : (Cond.codeWith y bytes maxN rat hh).before args s = true) : c.exceptionTable.toList = tableOf hh := by
  obtain ⟨m9, meth9, c9, hn9, h1, h2, -, -, h6, -⟩ := Cond.codeWith_spec h
  cases Option.some.inj (hn9.symm.trans B.named)
  cases Option.some.inj (h1.symm.trans B.method)
  cases Option.some.inj (h2.symm.trans (Stand.of_body B).code)
  rw [← h6, table_eq]
theorem gW {y : MethodName} {b : ByteArray} {n : Nat} {r : Option FieldType} {hh : List (Nat × Nat × Nat × Nat)} (h5 : Cond.codeWith y b n r hh ∈ w_all) : GoodIn w_all (Cond.codeWith y b n r hh :: w_all) := fun w hw => (List.mem_cons.mp hw).elim (fun e => by rw [e]; exact g_one h5) (fun h => g_all w h)
section SW
variable {p : Program} {l : Launch} {e : Env} {R : Room} {s : State} {m : MethodId} {args : Array Value} {below : List Frame} {meth : Method} {c : Code} {H : Heap} {locs : List Loc} {cells slots : Nat} {Q : State → Prop} {pc : Nat} {ls : Array Slot} {rest As : List Value}
variable {y : MethodName} {bytes cc : ByteArray} {maxL nL mc ms n index : Nat} {ret : Option FieldType} {rm : Room} {Pc : Array Value → State → Prop} {Qc : Array Value → State → Outcome → State → Prop} {free : Addr → Prop} {own : String} {hh : List (Nat × Nat × Nat × Nat)}
theorem sw_run (S : CallFix p m c cc nL s args w_all own) (hM : Met l y (Cond.codeWith y bytes maxL ret hh :: w_all) rm Pc Qc mc ms free) (hlk : Cond.methodLink own index y ∈ w_all) (hst : Cond.static y ∈ w_all) (hin : Cond.initialized y.cls ∈ w_all) (hcd : Cond.codeWith y bytes maxL ret hh ∈ w_all)
    (hrc : rm.cells = mc) (hrs : rm.slots = ms) (hd : y.cls ≠ "java/lang/invoke/MethodHandle" ∧ y.cls ≠ "java/lang/invoke/VarHandle" ∧ (parseMethodDescriptor y.desc).map (fun d => d.parameters.length) = some n) (hR : rm.frames + 1 ≤ R.frames ∧ 8 + (maxL + 11) + rm.locals ≤ R.locals)
    (hp : PreS s H Pc As) (hn : As.length = n) (hsize : ls.size = nL) (hW : (rest.map fun v => v.category).sum ≤ 8) (hdg : decode cc pc = .ok (.invokestatic index, 3)) (hf : cells + mc ≤ R.cells ∧ slots + ms ≤ R.slots) {stk : List Value} (hstk : stk = As.reverse ++ rest) :
    va_Run p l e R s m args below meth c H locs cells slots mc ms (F0 m pc ls stk) rest (Qc As.toArray) free := by
  subst hstk
  have hT := S.2.2.2.2
  have hK : Back l R p e below s args y 3 8 (PreOf R mc ms Pc) (PostOf Qc mc ms free) := va_backW (hh := hh) (bytes := bytes) (maxL := maxL) (ret := ret) hM hp.1 hrc hrs hR.1 hR.2 (pay_in hT (gW hcd)) List.mem_cons_self (fun a' U hW => word_at hW (g_one hin).2 (hT _ hin))
  obtain ⟨hx, hb, hml, ho, -⟩ := S
  intro T hH X
  obtain ⟨mk, methM, cM, hnamed, hmethM, -, -, -, -, -, -, hsigM⟩ := Cond.codeWith_spec (hT _ hcd)
  have hstatic : methM.isStatic = true := Cond.static_spec hnamed hmethM (hT _ hst)
  obtain ⟨kP, hkP, -⟩ := className_of_methodNamed hnamed
  have hinitP : kP.init = .initialized := Cond.initialized_spec (findClass_of_methodNamed hnamed) hkP (hT _ hin)
  have hlen : As.length = methM.sig.parameters.length := by
    have h2 := hd.2.2
    rw [hsigM] at h2
    rw [hn]
    exact (Option.some.inj h2).symm
  obtain ⟨vm₁, X₁, hstep₁⟩ := X.invokestatic hx ho (hT _ hlk) hnamed hmethM hstatic hkP hinitP ⟨hd.1, hd.2.1⟩ (g := F0 m pc ls (As.reverse ++ rest)) rfl (argsL := As) (rest := rest) hlen rfl (by rw [hb]; exact hdg)
  obtain ⟨v, ⟨U', l2, c2, s2⟩, X', ⟨g', mk', t, L, e1, e2, hq, h1, hL, h2, h3⟩, hsteps⟩ := hK m meth c ⟨T.setVm vm₁, locs, cells, slots⟩ (F0 m pc ls rest) (.invokestatic index) mk As.toArray X₁ rfl (hsize.trans hml.symm) (by rw [hb]; exact hdg) (lv_room hW) (X₁.named hnamed) ⟨hf.1, hf.2, hp.2 (T.setVm vm₁) hH X₁.warmed⟩
  dsimp only [Pt.U, Pt.locs, Pt.cells, Pt.slots] at X' e1 e2 h1 h2 h3 hsteps
  subst h1; subst h2; subst h3
  exact ⟨v, (T.setVm vm₁).calling g' mk' As.toArray, t, U', L, hH, X', hL, e1, e2, hq, fun tg h9 => hstep₁ _ (fun acts => by rw [doInvoke_state]; exact hsteps.trans h9)⟩
end SW
section OUT
variable {p : Program} {l : Launch} {e : Env} {R : Room} {s : State} {m : MethodId} {args : Array Value} {below : List Frame} {meth : Method} {c : Code} {H H0 : Heap} {locs : List Loc} {cells slots : Nat} {Q : State → Prop} {pc : Nat} {ls : Array Slot} {rest : List Value} {cc : ByteArray}
variable {dC : Nat → ClassId} {dI : Nat → Nat → Nat} {L : Nat → Nat} {cA : Nat → ClassId} {ar : Nat → Nat → Int32} {sc : Nat → Int32} {qo : Nat} {cO : ClassId} {fo : Nat → Int64}
theorem st_out {x : Int64} (hx : p.tables.exec = Jvm.exec) (hb : c.code = cc) (hKo : va_K (dC, dI) classes [(cO, .long)] s) (hO : va_P (dC, dI) classes [(qo, .inl (cO, 1, .inr (.inl fo)))] H) (hP : va_P (dC, dI) classes (wI L cA ar sc) H) (hL : ij 38 L) (hqo : ¬ aI L qo) (hS : va_S (aO L qo) H0 H locs) (hdg : decode cc pc = .ok (.lastore, 1))
    (kk : ∀ (H1 : Heap) (locs1 : List Loc), va_P (dC, dI) classes [(qo, .inl (cO, 1, .inr (.inl (vp_updL fo 0 x))))] H1 → va_P (dC, dI) classes (wI L cA ar sc) H1 → va_S (aO L qo) H0 H1 locs1 → W p l e R s m args below meth c H1 locs1 cells slots Q (F0 m (pc + 1) ls rest)) :
    W p l e R s m args below meth c H locs cells slots Q (F0 m pc ls (.long x :: .int 0 :: .ref qo :: rest)) := by
  have hD1 : va_D (aO L qo) [((qo : Nat), (.inl (cO, 1, .inr (.inl fo)) : va_E))] := ⟨fun i j p q hp hq _ => by
      have hi := (List.getElem?_eq_some_iff.mp hp).1
      have hj := (List.getElem?_eq_some_iff.mp hq).1
      simp at hi hj
      omega, fun k q h => by
      have hk := (List.getElem?_eq_some_iff.mp h).1
      simp at hk
      subst hk
      cases h
      exact Or.inr rfl⟩
  have hD2 : va_D (aO L qo) (wI L cA ar sc) := (wI_D hL).weaken (fun _ _ _ h => Or.inl h)
  have hD : va_D (aO L qo) ([((qo : Nat), (.inl (cO, 1, .inr (.inl fo)) : va_E))] ++ wI L cA ar sc) := hD1.app hD2 (fun i j p q hp hq e9 => by
    have hi := (List.getElem?_eq_some_iff.mp hp).1
    simp at hi
    subst hi
    cases hp
    exact hqo ⟨j, (wI_at hq).1, by rw [← (wI_at hq).2]; exact e9.symm⟩)
  refine va_last hx hb hKo (hO.app hP) hD hS 0 0 rfl rfl (by unfold vp_in; decide) hdg (fun H1 locs1 h1 _ h3 => ?_)
  have h1 : va_P (dC, dI) classes ([((qo : Nat), (.inl (cO, 1, .inr (.inl (vp_updL fo 0 x))) : va_E))] ++ wI L cA ar sc) H1 := h1
  exact kk H1 locs1 (h1.sub [0] rfl) (fun k q h => h1 (k + 1) q h) h3
end OUT

def kc_weight (x : Option String) : Int32 := if x = some "java/lang/IllegalArgumentException" then 1 else if x = some "java/lang/IndexOutOfBoundsException" then 2 else 0
abbrev b_Lw_weight : ByteArray := method_3_code
def y_Lw_weight : MethodName := ⟨R_Lw, "weight", "(LInspectRows;II)I"⟩
abbrev z_Lw_weight : List Cond := Cond.codeWith y_Lw_weight b_Lw_weight 4 (some .int) [(0, 6, 9, 13), (0, 6, 12, 15)] :: w_all
theorem d_Lw_weight_0 : decode b_Lw_weight 0 = .ok (.aload_n 0, 1) := by decide +kernel
theorem d_Lw_weight_1 : decode b_Lw_weight 1 = .ok (.iload_n 1, 1) := by decide +kernel
theorem d_Lw_weight_2 : decode b_Lw_weight 2 = .ok (.iload_n 2, 1) := by decide +kernel
theorem d_Lw_weight_3 : decode b_Lw_weight 3 = .ok (.invokevirtual 7, 3) := by decide +kernel
theorem d_Lw_weight_6 : decode b_Lw_weight 6 = .ok (.goto 9, 3) := by decide +kernel
theorem d_Lw_weight_9 : decode b_Lw_weight 9 = .ok (.astore_n 3, 1) := by decide +kernel
theorem d_Lw_weight_10 : decode b_Lw_weight 10 = .ok (.iconst 1, 1) := by decide +kernel
theorem d_Lw_weight_11 : decode b_Lw_weight 11 = .ok (.ireturn, 1) := by decide +kernel
theorem d_Lw_weight_12 : decode b_Lw_weight 12 = .ok (.astore_n 3, 1) := by decide +kernel
theorem d_Lw_weight_13 : decode b_Lw_weight 13 = .ok (.iconst 2, 1) := by decide +kernel
theorem d_Lw_weight_14 : decode b_Lw_weight 14 = .ok (.ireturn, 1) := by decide +kernel
theorem d_Lw_weight_15 : decode b_Lw_weight 15 = .ok (.iconst 0, 1) := by decide +kernel
theorem d_Lw_weight_16 : decode b_Lw_weight 16 = .ok (.ireturn, 1) := by decide +kernel
set_option maxHeartbeats 4000000 in
set_option maxRecDepth 100000 in
theorem c_Lw_weight (l : Launch) (hlt : l.stackTraces = false) (sa : Nat → Nat) (dC : Nat → ClassId) (dI : Nat → Nat → Nat) (L : Nat → Nat) (cA : Nat → ClassId) (ar : Nat → Nat → Int32) (sc : Nat → Int32) (a0 : Int32) (a1 : Int32) (hL : ij 38 L) (h : p_Ir_weight ar sc a0 a1) : Met l y_Lw_weight z_Lw_weight (rmX 9) (va_Pc [.ref (L 0), .int a0, .int a1] (fun U => xw_I dC dI L cA ar sc U ∧ xz_I L sa U ∧ nc_th U)) (va_Qi (fun (r : Int32) (u : oS) => r = kc_weight (f_Ir_weight ar sc a0 a1).1 ∧ u = ((f_Ir_weight ar sc a0 a1).2.2.1, (f_Ir_weight ar sc a0 a1).2.2.2)) (fun (u : oS) t => va_P (dC, dI) classes (wI L cA u.1 u.2) t.heap) (aI L)) 1 6 (aI L) := by
  refine va_MetW (cc := b_Lw_weight) (maxL := 4) (ret := (some .int)) (hh := [(0, 6, 9, 13), (0, 6, 12, 15)]) (by decide) rfl ?_
  intro p e s m args below meth c s₁ B hml hv
  obtain ⟨rfl, ⟨hP, hK⟩, hz, hnc⟩ := hv
  have hx := B.exec
  have hb := B.bytes
  have hr := B.returns
  have hts : ∀ w ∈ w_all, w.before _ s = true := fun w hw => atoms_spec (ws := z_Lw_weight) B.pre w (List.mem_cons_of_mem _ hw)
  have hown : s.vm.findClass R_Lw = some m.cls := findClass_of_methodNamed B.named
  have hlocks := B.notSynchronized
  have hF : CallFix p m c b_Lw_weight 4 s _ w_all R_Lw := ⟨hx, hb, hml, hown, hts⟩
  have htab : c.exceptionTable.toList = tableOf [(0, 6, 9, 13), (0, 6, 12, 15)] := tb_of B (atoms_spec (ws := z_Lw_weight) B.pre _ List.mem_cons_self)
  have hS : va_S (aI L) s.heap s.heap [] := va_S.rf
  have hz0 : zx_I sa (aI L) (hpt s.heap s) := hz
  have hl := lv_entry ([.ref (L 0), .int a0, .int a1]) (n := 4) (Nat.le_of_ble_eq_true rfl)
  rw [lg_entry_eq]
  generalize (lg_sl ([.ref (L 0), .int a0, .int a1]) ++ List.replicate (4 - (lg_sl ([.ref (L 0), .int a0, .int a1])).length) Slot.unset).toArray = ls at hl ⊢
  have hl : lv_has ls 4 [(0, .ref (L 0)), (1, .int a0), (2, .int a1)] := hl
  rcases ex_Ir_weight ar sc a0 a1 with hN | hN | hN
  · refine lv_aload_n hx hb d_Lw_weight_0 rfl (lv_at hl 0 rfl) ?_
    refine lv_iload_n hx hb d_Lw_weight_1 rfl (lv_at hl 1 rfl) ?_
    refine lv_iload_n hx hb d_Lw_weight_2 rfl (lv_at hl 2 rfl) ?_
    refine ro_Ir_weight hF hK hP hL (fun q h9 => h9) hS hlt hz0 h hN m_530 hl.1 ⟨Nat.le_of_ble_eq_true rfl, Nat.le_of_ble_eq_true rfl⟩ ⟨Nat.le_refl _, Nat.le_refl _⟩ (Nat.le_of_ble_eq_true rfl) d_Lw_weight_3 (fun H locs hP hz1 hk1 hS => ?_)
    refine lv_goto (tgt := 15) hx hb d_Lw_weight_6 (by decide) ?_
    refine lv_iconst (v := 0) hx hb d_Lw_weight_15 (by decide) ?_
    exact W.iret (v := 0) hx hb hr (fun t ht hW => ⟨⟨0, ((f_Ir_weight ar sc a0 a1).2.2.1, (f_Ir_weight ar sc a0 a1).2.2.2), rfl, ⟨by rw [hN]; decide, rfl⟩, by dsimp only; rw [ht]; exact hP⟩, hS.F ht⟩) hS.2.2 d_Lw_weight_16
  · refine lv_aload_n hx hb d_Lw_weight_0 rfl (lv_at hl 0 rfl) ?_
    refine lv_iload_n hx hb d_Lw_weight_1 rfl (lv_at hl 1 rfl) ?_
    refine lv_iload_n hx hb d_Lw_weight_2 rfl (lv_at hl 2 rfl) ?_
    refine rt_Ir_weight hF hK hP hL (fun q h9 => h9) hS hlt hz0 h hN m_530 hl.1 ⟨Nat.le_of_ble_eq_true rfl, Nat.le_of_ble_eq_true rfl⟩ ⟨Nat.le_refl _, Nat.le_refl _⟩ (Nat.le_of_ble_eq_true rfl) d_Lw_weight_3 (fun ce q H locs hP hz1 hk1 hS hce hcv hcl => ?_)
    refine th_catch (own := R_Lw) (name := "java/lang/IllegalArgumentException") hown [] ⟨0, 6, 9, 13⟩ [⟨0, 6, 12, 15⟩] htab (fun _ h9 => absurd h9 List.not_mem_nil) rfl (by decide) (hts _ m_531) (va_Nw.use rfl (hK.2 _ mn_24)) hce hcv hcl ?_
    refine lv_astore_n (lv' := [(3, .ref q), (0, .ref (L 0)), (1, .int a0), (2, .int a1)]) hx hb d_Lw_weight_9 rfl hl (by decide) rfl (fun ls hl => ?_)
    refine lv_iconst (v := 1) hx hb d_Lw_weight_10 (by decide) ?_
    exact W.iret (v := 1) hx hb hr (fun t ht hW => ⟨⟨1, ((f_Ir_weight ar sc a0 a1).2.2.1, (f_Ir_weight ar sc a0 a1).2.2.2), rfl, ⟨by rw [hN]; decide, rfl⟩, by dsimp only; rw [ht]; exact hP⟩, hS.F ht⟩) hS.2.2 d_Lw_weight_11
  · refine lv_aload_n hx hb d_Lw_weight_0 rfl (lv_at hl 0 rfl) ?_
    refine lv_iload_n hx hb d_Lw_weight_1 rfl (lv_at hl 1 rfl) ?_
    refine lv_iload_n hx hb d_Lw_weight_2 rfl (lv_at hl 2 rfl) ?_
    refine rt_Ir_weight hF hK hP hL (fun q h9 => h9) hS hlt hz0 h hN m_530 hl.1 ⟨Nat.le_of_ble_eq_true rfl, Nat.le_of_ble_eq_true rfl⟩ ⟨Nat.le_refl _, Nat.le_refl _⟩ (Nat.le_of_ble_eq_true rfl) d_Lw_weight_3 (fun ce q H locs hP hz1 hk1 hS hce hcv hcl => ?_)
    refine th_catch (own := R_Lw) (name := "java/lang/IndexOutOfBoundsException") hown [⟨0, 6, 9, 13⟩] ⟨0, 6, 12, 15⟩ [] htab (List.forall_mem_cons.mpr ⟨⟨by decide, "java/lang/IllegalArgumentException", hts _ m_531, hnc.1⟩, fun _ h9 => absurd h9 List.not_mem_nil⟩) rfl (by decide) (hts _ m_532) (va_Nw.use rfl (hK.2 _ mn_25)) hce hcv hcl ?_
    refine lv_astore_n (lv' := [(3, .ref q), (0, .ref (L 0)), (1, .int a0), (2, .int a1)]) hx hb d_Lw_weight_12 rfl hl (by decide) rfl (fun ls hl => ?_)
    refine lv_iconst (v := 2) hx hb d_Lw_weight_13 (by decide) ?_
    exact W.iret (v := 2) hx hb hr (fun t ht hW => ⟨⟨2, ((f_Ir_weight ar sc a0 a1).2.2.1, (f_Ir_weight ar sc a0 a1).2.2.2), rfl, ⟨by rw [hN]; decide, rfl⟩, by dsimp only; rw [ht]; exact hP⟩, hS.F ht⟩) hS.2.2 d_Lw_weight_14
def kc_steps (x : Option String) : Int32 := if x = some "java/lang/IndexOutOfBoundsException" then 1 else 0
abbrev b_Lw_steps : ByteArray := method_4_code
def y_Lw_steps : MethodName := ⟨R_Lw, "steps", "(LInspectRows;III)I"⟩
abbrev z_Lw_steps : List Cond := Cond.codeWith y_Lw_steps b_Lw_steps 5 (some .int) [(0, 7, 10, 15)] :: w_all
theorem d_Lw_steps_0 : decode b_Lw_steps 0 = .ok (.aload_n 0, 1) := by decide +kernel
theorem d_Lw_steps_1 : decode b_Lw_steps 1 = .ok (.iload_n 1, 1) := by decide +kernel
theorem d_Lw_steps_2 : decode b_Lw_steps 2 = .ok (.iload_n 2, 1) := by decide +kernel
theorem d_Lw_steps_3 : decode b_Lw_steps 3 = .ok (.iload_n 3, 1) := by decide +kernel
theorem d_Lw_steps_4 : decode b_Lw_steps 4 = .ok (.invokevirtual 17, 3) := by decide +kernel
theorem d_Lw_steps_7 : decode b_Lw_steps 7 = .ok (.goto 7, 3) := by decide +kernel
theorem d_Lw_steps_10 : decode b_Lw_steps 10 = .ok (.astore 4, 2) := by decide +kernel
theorem d_Lw_steps_12 : decode b_Lw_steps 12 = .ok (.iconst 1, 1) := by decide +kernel
theorem d_Lw_steps_13 : decode b_Lw_steps 13 = .ok (.ireturn, 1) := by decide +kernel
theorem d_Lw_steps_14 : decode b_Lw_steps 14 = .ok (.iconst 0, 1) := by decide +kernel
theorem d_Lw_steps_15 : decode b_Lw_steps 15 = .ok (.ireturn, 1) := by decide +kernel
set_option maxHeartbeats 4000000 in
set_option maxRecDepth 100000 in
theorem c_Lw_steps (l : Launch) (hlt : l.stackTraces = false) (sa : Nat → Nat) (dC : Nat → ClassId) (dI : Nat → Nat → Nat) (L : Nat → Nat) (cA : Nat → ClassId) (ar : Nat → Nat → Int32) (sc : Nat → Int32) (a0 : Int32) (a1 : Int32) (a2 : Int32) (hL : ij 38 L) (h : p_Ir_steps ar sc a0 a1 a2) : Met l y_Lw_steps z_Lw_steps (rmX 9) (va_Pc [.ref (L 0), .int a0, .int a1, .int a2] (fun U => xw_I dC dI L cA ar sc U ∧ xz_I L sa U ∧ nc_th U)) (va_Qi (fun (r : Int32) (u : oS) => r = kc_steps (f_Ir_steps ar sc a0 a1 a2).1 ∧ u = ((f_Ir_steps ar sc a0 a1 a2).2.2.1, (f_Ir_steps ar sc a0 a1 a2).2.2.2)) (fun (u : oS) t => va_P (dC, dI) classes (wI L cA u.1 u.2) t.heap) (aI L)) 1 6 (aI L) := by
  refine va_MetW (cc := b_Lw_steps) (maxL := 5) (ret := (some .int)) (hh := [(0, 7, 10, 15)]) (by decide) rfl ?_
  intro p e s m args below meth c s₁ B hml hv
  obtain ⟨rfl, ⟨hP, hK⟩, hz, hnc⟩ := hv
  have hx := B.exec
  have hb := B.bytes
  have hr := B.returns
  have hts : ∀ w ∈ w_all, w.before _ s = true := fun w hw => atoms_spec (ws := z_Lw_steps) B.pre w (List.mem_cons_of_mem _ hw)
  have hown : s.vm.findClass R_Lw = some m.cls := findClass_of_methodNamed B.named
  have hlocks := B.notSynchronized
  have hF : CallFix p m c b_Lw_steps 5 s _ w_all R_Lw := ⟨hx, hb, hml, hown, hts⟩
  have htab : c.exceptionTable.toList = tableOf [(0, 7, 10, 15)] := tb_of B (atoms_spec (ws := z_Lw_steps) B.pre _ List.mem_cons_self)
  have hS : va_S (aI L) s.heap s.heap [] := va_S.rf
  have hz0 : zx_I sa (aI L) (hpt s.heap s) := hz
  have hl := lv_entry ([.ref (L 0), .int a0, .int a1, .int a2]) (n := 5) (Nat.le_of_ble_eq_true rfl)
  rw [lg_entry_eq]
  generalize (lg_sl ([.ref (L 0), .int a0, .int a1, .int a2]) ++ List.replicate (5 - (lg_sl ([.ref (L 0), .int a0, .int a1, .int a2])).length) Slot.unset).toArray = ls at hl ⊢
  have hl : lv_has ls 5 [(0, .ref (L 0)), (1, .int a0), (2, .int a1), (3, .int a2)] := hl
  rcases ex_Ir_steps ar sc a0 a1 a2 with hN | hN
  · refine lv_aload_n hx hb d_Lw_steps_0 rfl (lv_at hl 0 rfl) ?_
    refine lv_iload_n hx hb d_Lw_steps_1 rfl (lv_at hl 1 rfl) ?_
    refine lv_iload_n hx hb d_Lw_steps_2 rfl (lv_at hl 2 rfl) ?_
    refine lv_iload_n hx hb d_Lw_steps_3 rfl (lv_at hl 3 rfl) ?_
    refine ro_Ir_steps hF hK hP hL (fun q h9 => h9) hS hlt hz0 h hN m_533 hl.1 ⟨Nat.le_of_ble_eq_true rfl, Nat.le_of_ble_eq_true rfl⟩ ⟨Nat.le_refl _, Nat.le_refl _⟩ (Nat.le_of_ble_eq_true rfl) d_Lw_steps_4 (fun H locs hP hz1 hk1 hS => ?_)
    refine lv_goto (tgt := 14) hx hb d_Lw_steps_7 (by decide) ?_
    refine lv_iconst (v := 0) hx hb d_Lw_steps_14 (by decide) ?_
    exact W.iret (v := 0) hx hb hr (fun t ht hW => ⟨⟨0, ((f_Ir_steps ar sc a0 a1 a2).2.2.1, (f_Ir_steps ar sc a0 a1 a2).2.2.2), rfl, ⟨by rw [hN]; decide, rfl⟩, by dsimp only; rw [ht]; exact hP⟩, hS.F ht⟩) hS.2.2 d_Lw_steps_15
  · refine lv_aload_n hx hb d_Lw_steps_0 rfl (lv_at hl 0 rfl) ?_
    refine lv_iload_n hx hb d_Lw_steps_1 rfl (lv_at hl 1 rfl) ?_
    refine lv_iload_n hx hb d_Lw_steps_2 rfl (lv_at hl 2 rfl) ?_
    refine lv_iload_n hx hb d_Lw_steps_3 rfl (lv_at hl 3 rfl) ?_
    refine rt_Ir_steps hF hK hP hL (fun q h9 => h9) hS hlt hz0 h hN m_533 hl.1 ⟨Nat.le_of_ble_eq_true rfl, Nat.le_of_ble_eq_true rfl⟩ ⟨Nat.le_refl _, Nat.le_refl _⟩ (Nat.le_of_ble_eq_true rfl) d_Lw_steps_4 (fun ce q H locs hP hz1 hk1 hS hce hcv hcl => ?_)
    refine th_catch (own := R_Lw) (name := "java/lang/IndexOutOfBoundsException") hown [] ⟨0, 7, 10, 15⟩ [] htab (fun _ h9 => absurd h9 List.not_mem_nil) rfl (by decide) (hts _ m_532) (va_Nw.use rfl (hK.2 _ mn_25)) hce hcv hcl ?_
    refine lv_astore (lv' := [(4, .ref q), (0, .ref (L 0)), (1, .int a0), (2, .int a1), (3, .int a2)]) hx hb d_Lw_steps_10 hl (by decide) rfl (fun ls hl => ?_)
    refine lv_iconst (v := 1) hx hb d_Lw_steps_12 (by decide) ?_
    exact W.iret (v := 1) hx hb hr (fun t ht hW => ⟨⟨1, ((f_Ir_steps ar sc a0 a1 a2).2.2.1, (f_Ir_steps ar sc a0 a1 a2).2.2.2), rfl, ⟨by rw [hN]; decide, rfl⟩, by dsimp only; rw [ht]; exact hP⟩, hS.F ht⟩) hS.2.2 d_Lw_steps_13
def kc_interval (x : Option String) : Int32 := if x = some "java/lang/IllegalArgumentException" then 1 else if x = some "java/lang/IndexOutOfBoundsException" then 2 else 0
abbrev b_Lw_interval : ByteArray := method_5_code
def y_Lw_interval : MethodName := ⟨R_Lw, "interval", "(LInspectRows;III)I"⟩
abbrev z_Lw_interval : List Cond := Cond.codeWith y_Lw_interval b_Lw_interval 5 (some .int) [(0, 7, 10, 13), (0, 7, 14, 15)] :: w_all
theorem d_Lw_interval_0 : decode b_Lw_interval 0 = .ok (.aload_n 0, 1) := by decide +kernel
theorem d_Lw_interval_1 : decode b_Lw_interval 1 = .ok (.iload_n 1, 1) := by decide +kernel
theorem d_Lw_interval_2 : decode b_Lw_interval 2 = .ok (.iload_n 2, 1) := by decide +kernel
theorem d_Lw_interval_3 : decode b_Lw_interval 3 = .ok (.iload_n 3, 1) := by decide +kernel
theorem d_Lw_interval_4 : decode b_Lw_interval 4 = .ok (.invokevirtual 21, 3) := by decide +kernel
theorem d_Lw_interval_7 : decode b_Lw_interval 7 = .ok (.goto 11, 3) := by decide +kernel
theorem d_Lw_interval_10 : decode b_Lw_interval 10 = .ok (.astore 4, 2) := by decide +kernel
theorem d_Lw_interval_12 : decode b_Lw_interval 12 = .ok (.iconst 1, 1) := by decide +kernel
theorem d_Lw_interval_13 : decode b_Lw_interval 13 = .ok (.ireturn, 1) := by decide +kernel
theorem d_Lw_interval_14 : decode b_Lw_interval 14 = .ok (.astore 4, 2) := by decide +kernel
theorem d_Lw_interval_16 : decode b_Lw_interval 16 = .ok (.iconst 2, 1) := by decide +kernel
theorem d_Lw_interval_17 : decode b_Lw_interval 17 = .ok (.ireturn, 1) := by decide +kernel
theorem d_Lw_interval_18 : decode b_Lw_interval 18 = .ok (.iconst 0, 1) := by decide +kernel
theorem d_Lw_interval_19 : decode b_Lw_interval 19 = .ok (.ireturn, 1) := by decide +kernel
set_option maxHeartbeats 4000000 in
set_option maxRecDepth 100000 in
theorem c_Lw_interval (l : Launch) (hlt : l.stackTraces = false) (sa : Nat → Nat) (dC : Nat → ClassId) (dI : Nat → Nat → Nat) (L : Nat → Nat) (cA : Nat → ClassId) (ar : Nat → Nat → Int32) (sc : Nat → Int32) (a0 : Int32) (a1 : Int32) (a2 : Int32) (hL : ij 38 L) (h : p_Ir_interval ar sc a0 a1 a2) : Met l y_Lw_interval z_Lw_interval (rmX 9) (va_Pc [.ref (L 0), .int a0, .int a1, .int a2] (fun U => xw_I dC dI L cA ar sc U ∧ xz_I L sa U ∧ nc_th U)) (va_Qi (fun (r : Int32) (u : oS) => r = kc_interval (f_Ir_interval ar sc a0 a1 a2).1 ∧ u = ((f_Ir_interval ar sc a0 a1 a2).2.2.1, (f_Ir_interval ar sc a0 a1 a2).2.2.2)) (fun (u : oS) t => va_P (dC, dI) classes (wI L cA u.1 u.2) t.heap) (aI L)) 1 6 (aI L) := by
  refine va_MetW (cc := b_Lw_interval) (maxL := 5) (ret := (some .int)) (hh := [(0, 7, 10, 13), (0, 7, 14, 15)]) (by decide) rfl ?_
  intro p e s m args below meth c s₁ B hml hv
  obtain ⟨rfl, ⟨hP, hK⟩, hz, hnc⟩ := hv
  have hx := B.exec
  have hb := B.bytes
  have hr := B.returns
  have hts : ∀ w ∈ w_all, w.before _ s = true := fun w hw => atoms_spec (ws := z_Lw_interval) B.pre w (List.mem_cons_of_mem _ hw)
  have hown : s.vm.findClass R_Lw = some m.cls := findClass_of_methodNamed B.named
  have hlocks := B.notSynchronized
  have hF : CallFix p m c b_Lw_interval 5 s _ w_all R_Lw := ⟨hx, hb, hml, hown, hts⟩
  have htab : c.exceptionTable.toList = tableOf [(0, 7, 10, 13), (0, 7, 14, 15)] := tb_of B (atoms_spec (ws := z_Lw_interval) B.pre _ List.mem_cons_self)
  have hS : va_S (aI L) s.heap s.heap [] := va_S.rf
  have hz0 : zx_I sa (aI L) (hpt s.heap s) := hz
  have hl := lv_entry ([.ref (L 0), .int a0, .int a1, .int a2]) (n := 5) (Nat.le_of_ble_eq_true rfl)
  rw [lg_entry_eq]
  generalize (lg_sl ([.ref (L 0), .int a0, .int a1, .int a2]) ++ List.replicate (5 - (lg_sl ([.ref (L 0), .int a0, .int a1, .int a2])).length) Slot.unset).toArray = ls at hl ⊢
  have hl : lv_has ls 5 [(0, .ref (L 0)), (1, .int a0), (2, .int a1), (3, .int a2)] := hl
  rcases ex_Ir_interval ar sc a0 a1 a2 with hN | hN | hN
  · refine lv_aload_n hx hb d_Lw_interval_0 rfl (lv_at hl 0 rfl) ?_
    refine lv_iload_n hx hb d_Lw_interval_1 rfl (lv_at hl 1 rfl) ?_
    refine lv_iload_n hx hb d_Lw_interval_2 rfl (lv_at hl 2 rfl) ?_
    refine lv_iload_n hx hb d_Lw_interval_3 rfl (lv_at hl 3 rfl) ?_
    refine ro_Ir_interval hF hK hP hL (fun q h9 => h9) hS hlt hz0 h hN m_534 hl.1 ⟨Nat.le_of_ble_eq_true rfl, Nat.le_of_ble_eq_true rfl⟩ ⟨Nat.le_refl _, Nat.le_refl _⟩ (Nat.le_of_ble_eq_true rfl) d_Lw_interval_4 (fun H locs hP hz1 hk1 hS => ?_)
    refine lv_goto (tgt := 18) hx hb d_Lw_interval_7 (by decide) ?_
    refine lv_iconst (v := 0) hx hb d_Lw_interval_18 (by decide) ?_
    exact W.iret (v := 0) hx hb hr (fun t ht hW => ⟨⟨0, ((f_Ir_interval ar sc a0 a1 a2).2.2.1, (f_Ir_interval ar sc a0 a1 a2).2.2.2), rfl, ⟨by rw [hN]; decide, rfl⟩, by dsimp only; rw [ht]; exact hP⟩, hS.F ht⟩) hS.2.2 d_Lw_interval_19
  · refine lv_aload_n hx hb d_Lw_interval_0 rfl (lv_at hl 0 rfl) ?_
    refine lv_iload_n hx hb d_Lw_interval_1 rfl (lv_at hl 1 rfl) ?_
    refine lv_iload_n hx hb d_Lw_interval_2 rfl (lv_at hl 2 rfl) ?_
    refine lv_iload_n hx hb d_Lw_interval_3 rfl (lv_at hl 3 rfl) ?_
    refine rt_Ir_interval hF hK hP hL (fun q h9 => h9) hS hlt hz0 h hN m_534 hl.1 ⟨Nat.le_of_ble_eq_true rfl, Nat.le_of_ble_eq_true rfl⟩ ⟨Nat.le_refl _, Nat.le_refl _⟩ (Nat.le_of_ble_eq_true rfl) d_Lw_interval_4 (fun ce q H locs hP hz1 hk1 hS hce hcv hcl => ?_)
    refine th_catch (own := R_Lw) (name := "java/lang/IllegalArgumentException") hown [] ⟨0, 7, 10, 13⟩ [⟨0, 7, 14, 15⟩] htab (fun _ h9 => absurd h9 List.not_mem_nil) rfl (by decide) (hts _ m_531) (va_Nw.use rfl (hK.2 _ mn_24)) hce hcv hcl ?_
    refine lv_astore (lv' := [(4, .ref q), (0, .ref (L 0)), (1, .int a0), (2, .int a1), (3, .int a2)]) hx hb d_Lw_interval_10 hl (by decide) rfl (fun ls hl => ?_)
    refine lv_iconst (v := 1) hx hb d_Lw_interval_12 (by decide) ?_
    exact W.iret (v := 1) hx hb hr (fun t ht hW => ⟨⟨1, ((f_Ir_interval ar sc a0 a1 a2).2.2.1, (f_Ir_interval ar sc a0 a1 a2).2.2.2), rfl, ⟨by rw [hN]; decide, rfl⟩, by dsimp only; rw [ht]; exact hP⟩, hS.F ht⟩) hS.2.2 d_Lw_interval_13
  · refine lv_aload_n hx hb d_Lw_interval_0 rfl (lv_at hl 0 rfl) ?_
    refine lv_iload_n hx hb d_Lw_interval_1 rfl (lv_at hl 1 rfl) ?_
    refine lv_iload_n hx hb d_Lw_interval_2 rfl (lv_at hl 2 rfl) ?_
    refine lv_iload_n hx hb d_Lw_interval_3 rfl (lv_at hl 3 rfl) ?_
    refine rt_Ir_interval hF hK hP hL (fun q h9 => h9) hS hlt hz0 h hN m_534 hl.1 ⟨Nat.le_of_ble_eq_true rfl, Nat.le_of_ble_eq_true rfl⟩ ⟨Nat.le_refl _, Nat.le_refl _⟩ (Nat.le_of_ble_eq_true rfl) d_Lw_interval_4 (fun ce q H locs hP hz1 hk1 hS hce hcv hcl => ?_)
    refine th_catch (own := R_Lw) (name := "java/lang/IndexOutOfBoundsException") hown [⟨0, 7, 10, 13⟩] ⟨0, 7, 14, 15⟩ [] htab (List.forall_mem_cons.mpr ⟨⟨by decide, "java/lang/IllegalArgumentException", hts _ m_531, hnc.1⟩, fun _ h9 => absurd h9 List.not_mem_nil⟩) rfl (by decide) (hts _ m_532) (va_Nw.use rfl (hK.2 _ mn_25)) hce hcv hcl ?_
    refine lv_astore (lv' := [(4, .ref q), (0, .ref (L 0)), (1, .int a0), (2, .int a1), (3, .int a2)]) hx hb d_Lw_interval_14 hl (by decide) rfl (fun ls hl => ?_)
    refine lv_iconst (v := 2) hx hb d_Lw_interval_16 (by decide) ?_
    exact W.iret (v := 2) hx hb hr (fun t ht hW => ⟨⟨2, ((f_Ir_interval ar sc a0 a1 a2).2.2.1, (f_Ir_interval ar sc a0 a1 a2).2.2.2), rfl, ⟨by rw [hN]; decide, rfl⟩, by dsimp only; rw [ht]; exact hP⟩, hS.F ht⟩) hS.2.2 d_Lw_interval_17
def kc_point (x : Option String) : Int32 := if x = some "java/lang/IllegalArgumentException" then 1 else if x = some "java/lang/IndexOutOfBoundsException" then 2 else if x = some "java/lang/UnsupportedOperationException" then 3 else 0
abbrev b_Lw_point : ByteArray := method_6_code
def y_Lw_point : MethodName := ⟨R_Lw, "point", "(LInspectRows;IIIII[J)I"⟩
abbrev z_Lw_point : List Cond := Cond.codeWith y_Lw_point b_Lw_point 8 (some .int) [(0, 16, 19, 13), (0, 16, 23, 15), (0, 16, 27, 28)] :: w_all
theorem d_Lw_point_0 : decode b_Lw_point 0 = .ok (.aload 6, 2) := by decide +kernel
theorem d_Lw_point_2 : decode b_Lw_point 2 = .ok (.iconst 0, 1) := by decide +kernel
theorem d_Lw_point_3 : decode b_Lw_point 3 = .ok (.aload_n 0, 1) := by decide +kernel
theorem d_Lw_point_4 : decode b_Lw_point 4 = .ok (.iload_n 1, 1) := by decide +kernel
theorem d_Lw_point_5 : decode b_Lw_point 5 = .ok (.iload_n 2, 1) := by decide +kernel
theorem d_Lw_point_6 : decode b_Lw_point 6 = .ok (.iload_n 3, 1) := by decide +kernel
theorem d_Lw_point_7 : decode b_Lw_point 7 = .ok (.iload 4, 2) := by decide +kernel
theorem d_Lw_point_9 : decode b_Lw_point 9 = .ok (.iload 5, 2) := by decide +kernel
theorem d_Lw_point_11 : decode b_Lw_point 11 = .ok (.invokevirtual 24, 3) := by decide +kernel
theorem d_Lw_point_14 : decode b_Lw_point 14 = .ok (.i2l, 1) := by decide +kernel
theorem d_Lw_point_15 : decode b_Lw_point 15 = .ok (.lastore, 1) := by decide +kernel
theorem d_Lw_point_16 : decode b_Lw_point 16 = .ok (.goto 15, 3) := by decide +kernel
theorem d_Lw_point_19 : decode b_Lw_point 19 = .ok (.astore 7, 2) := by decide +kernel
theorem d_Lw_point_21 : decode b_Lw_point 21 = .ok (.iconst 1, 1) := by decide +kernel
theorem d_Lw_point_22 : decode b_Lw_point 22 = .ok (.ireturn, 1) := by decide +kernel
theorem d_Lw_point_23 : decode b_Lw_point 23 = .ok (.astore 7, 2) := by decide +kernel
theorem d_Lw_point_25 : decode b_Lw_point 25 = .ok (.iconst 2, 1) := by decide +kernel
theorem d_Lw_point_26 : decode b_Lw_point 26 = .ok (.ireturn, 1) := by decide +kernel
theorem d_Lw_point_27 : decode b_Lw_point 27 = .ok (.astore 7, 2) := by decide +kernel
theorem d_Lw_point_29 : decode b_Lw_point 29 = .ok (.iconst 3, 1) := by decide +kernel
theorem d_Lw_point_30 : decode b_Lw_point 30 = .ok (.ireturn, 1) := by decide +kernel
theorem d_Lw_point_31 : decode b_Lw_point 31 = .ok (.iconst 0, 1) := by decide +kernel
theorem d_Lw_point_32 : decode b_Lw_point 32 = .ok (.ireturn, 1) := by decide +kernel
set_option maxHeartbeats 4000000 in
set_option maxRecDepth 100000 in
theorem c_Lw_point (l : Launch) (hlt : l.stackTraces = false) (sa : Nat → Nat) (dC : Nat → ClassId) (dI : Nat → Nat → Nat) (L : Nat → Nat) (cA : Nat → ClassId) (ar : Nat → Nat → Int32) (sc : Nat → Int32) (a0 : Int32) (a1 : Int32) (a2 : Int32) (a3 : Int32) (a4 : Int32) (qo : Nat) (cO : ClassId) (fo : Nat → Int64) (hqo : ¬ aI L qo) (hL : ij 38 L) (h : p_Ir_point ar sc a0 a1 a2 a3 a4) : Met l y_Lw_point z_Lw_point (rmX 9) (va_Pc [.ref (L 0), .int a0, .int a1, .int a2, .int a3, .int a4, .ref qo] (fun U => xw_I dC dI L cA ar sc U ∧ xz_I L sa U ∧ nc_th U ∧ va_P (dC, dI) classes [(qo, .inl (cO, 1, .inr (.inl fo)))] U.heap ∧ va_K (dC, dI) classes [(cO, .long)] U)) (va_Qi (fun (r : Int32) (u : oS × (Nat → Int64)) => r = kc_point (f_Ir_point ar sc a0 a1 a2 a3 a4).1 ∧ u.1 = ((f_Ir_point ar sc a0 a1 a2 a3 a4).2.2.1, (f_Ir_point ar sc a0 a1 a2 a3 a4).2.2.2) ∧ u.2 = if (f_Ir_point ar sc a0 a1 a2 a3 a4).1 = none then vp_updL fo 0 (f_Ir_point ar sc a0 a1 a2 a3 a4).2.1.toInt64 else fo) (fun (u : oS × (Nat → Int64)) t => va_P (dC, dI) classes (wI L cA u.1.1 u.1.2) t.heap ∧ va_P (dC, dI) classes [(qo, .inl (cO, 1, .inr (.inl u.2)))] t.heap) (aO L qo)) 1 6 (aO L qo) := by
  refine va_MetW (cc := b_Lw_point) (maxL := 8) (ret := (some .int)) (hh := [(0, 16, 19, 13), (0, 16, 23, 15), (0, 16, 27, 28)]) (by decide) rfl ?_
  intro p e s m args below meth c s₁ B hml hv
  obtain ⟨rfl, ⟨hP, hK⟩, hz, hnc, hO, hKo⟩ := hv
  have hx := B.exec
  have hb := B.bytes
  have hr := B.returns
  have hts : ∀ w ∈ w_all, w.before _ s = true := fun w hw => atoms_spec (ws := z_Lw_point) B.pre w (List.mem_cons_of_mem _ hw)
  have hown : s.vm.findClass R_Lw = some m.cls := findClass_of_methodNamed B.named
  have hlocks := B.notSynchronized
  have hF : CallFix p m c b_Lw_point 8 s _ w_all R_Lw := ⟨hx, hb, hml, hown, hts⟩
  have htab : c.exceptionTable.toList = tableOf [(0, 16, 19, 13), (0, 16, 23, 15), (0, 16, 27, 28)] := tb_of B (atoms_spec (ws := z_Lw_point) B.pre _ List.mem_cons_self)
  have hS : va_S (aO L qo) s.heap s.heap [] := va_S.rf
  have hz0 : zx_I sa (aI L) (hpt s.heap s) := hz
  have hl := lv_entry ([.ref (L 0), .int a0, .int a1, .int a2, .int a3, .int a4, .ref qo]) (n := 8) (Nat.le_of_ble_eq_true rfl)
  rw [lg_entry_eq]
  generalize (lg_sl ([.ref (L 0), .int a0, .int a1, .int a2, .int a3, .int a4, .ref qo]) ++ List.replicate (8 - (lg_sl ([.ref (L 0), .int a0, .int a1, .int a2, .int a3, .int a4, .ref qo])).length) Slot.unset).toArray = ls at hl ⊢
  have hl : lv_has ls 8 [(0, .ref (L 0)), (1, .int a0), (2, .int a1), (3, .int a2), (4, .int a3), (5, .int a4), (6, .ref qo)] := hl
  rcases ex_Ir_point ar sc a0 a1 a2 a3 a4 with hN | hN | hN | hN
  · refine lv_aload hx hb d_Lw_point_0 (lv_at hl 6 rfl) ?_
    refine lv_iconst (v := 0) hx hb d_Lw_point_2 (by decide) ?_
    refine lv_aload_n hx hb d_Lw_point_3 rfl (lv_at hl 0 rfl) ?_
    refine lv_iload_n hx hb d_Lw_point_4 rfl (lv_at hl 1 rfl) ?_
    refine lv_iload_n hx hb d_Lw_point_5 rfl (lv_at hl 2 rfl) ?_
    refine lv_iload_n hx hb d_Lw_point_6 rfl (lv_at hl 3 rfl) ?_
    refine lv_iload hx hb d_Lw_point_7 (lv_at hl 4 rfl) ?_
    refine lv_iload hx hb d_Lw_point_9 (lv_at hl 5 rfl) ?_
    refine ro_Ir_point hF hK hP hL (fun q h9 => Or.inl h9) hS hlt hz0 h hN m_535 hl.1 ⟨Nat.le_of_ble_eq_true rfl, Nat.le_of_ble_eq_true rfl⟩ ⟨Nat.le_refl _, Nat.le_refl _⟩ (Nat.le_of_ble_eq_true rfl) d_Lw_point_11 (fun H locs hP hz1 hk1 hS => ?_)
    have hO : va_P (dC, dI) classes [(qo, .inl (cO, 1, .inr (.inl fo)))] H := hO.kept (fun k q h9 => hk1 q.1 ((hO k q h9).lt) (by have hk := (List.getElem?_eq_some_iff.mp h9).1; simp at hk; subst hk; cases h9; exact hqo))
    refine lv_i2l hx hb d_Lw_point_14 rfl ?_
    refine st_out hx hb hKo hO hP hL hqo hS d_Lw_point_15 (fun H locs hO hP hS => ?_)
    refine lv_goto (tgt := 31) hx hb d_Lw_point_16 (by decide) ?_
    refine lv_iconst (v := 0) hx hb d_Lw_point_31 (by decide) ?_
    exact W.iret (v := 0) hx hb hr (fun t ht hW => ⟨⟨0, (((f_Ir_point ar sc a0 a1 a2 a3 a4).2.2.1, (f_Ir_point ar sc a0 a1 a2 a3 a4).2.2.2), vp_updL fo 0 (f_Ir_point ar sc a0 a1 a2 a3 a4).2.1.toInt64), rfl, ⟨by rw [hN]; decide, rfl, by rw [hN]; rfl⟩, ⟨by dsimp only; rw [ht]; exact hP, by dsimp only; rw [ht]; exact hO⟩⟩, hS.F ht⟩) hS.2.2 d_Lw_point_32
  · refine lv_aload hx hb d_Lw_point_0 (lv_at hl 6 rfl) ?_
    refine lv_iconst (v := 0) hx hb d_Lw_point_2 (by decide) ?_
    refine lv_aload_n hx hb d_Lw_point_3 rfl (lv_at hl 0 rfl) ?_
    refine lv_iload_n hx hb d_Lw_point_4 rfl (lv_at hl 1 rfl) ?_
    refine lv_iload_n hx hb d_Lw_point_5 rfl (lv_at hl 2 rfl) ?_
    refine lv_iload_n hx hb d_Lw_point_6 rfl (lv_at hl 3 rfl) ?_
    refine lv_iload hx hb d_Lw_point_7 (lv_at hl 4 rfl) ?_
    refine lv_iload hx hb d_Lw_point_9 (lv_at hl 5 rfl) ?_
    refine rt_Ir_point hF hK hP hL (fun q h9 => Or.inl h9) hS hlt hz0 h hN m_535 hl.1 ⟨Nat.le_of_ble_eq_true rfl, Nat.le_of_ble_eq_true rfl⟩ ⟨Nat.le_refl _, Nat.le_refl _⟩ (Nat.le_of_ble_eq_true rfl) d_Lw_point_11 (fun ce q H locs hP hz1 hk1 hS hce hcv hcl => ?_)
    have hO : va_P (dC, dI) classes [(qo, .inl (cO, 1, .inr (.inl fo)))] H := hO.kept (fun k q h9 => hk1 q.1 ((hO k q h9).lt) (by have hk := (List.getElem?_eq_some_iff.mp h9).1; simp at hk; subst hk; cases h9; exact hqo))
    refine th_catch (own := R_Lw) (name := "java/lang/IllegalArgumentException") hown [] ⟨0, 16, 19, 13⟩ [⟨0, 16, 23, 15⟩, ⟨0, 16, 27, 28⟩] htab (fun _ h9 => absurd h9 List.not_mem_nil) rfl (by decide) (hts _ m_531) (va_Nw.use rfl (hK.2 _ mn_24)) hce hcv hcl ?_
    refine lv_astore (lv' := [(7, .ref q), (0, .ref (L 0)), (1, .int a0), (2, .int a1), (3, .int a2), (4, .int a3), (5, .int a4), (6, .ref qo)]) hx hb d_Lw_point_19 hl (by decide) rfl (fun ls hl => ?_)
    refine lv_iconst (v := 1) hx hb d_Lw_point_21 (by decide) ?_
    exact W.iret (v := 1) hx hb hr (fun t ht hW => ⟨⟨1, (((f_Ir_point ar sc a0 a1 a2 a3 a4).2.2.1, (f_Ir_point ar sc a0 a1 a2 a3 a4).2.2.2), fo), rfl, ⟨by rw [hN]; decide, rfl, by rw [hN]; rfl⟩, ⟨by dsimp only; rw [ht]; exact hP, by dsimp only; rw [ht]; exact hO⟩⟩, hS.F ht⟩) hS.2.2 d_Lw_point_22
  · refine lv_aload hx hb d_Lw_point_0 (lv_at hl 6 rfl) ?_
    refine lv_iconst (v := 0) hx hb d_Lw_point_2 (by decide) ?_
    refine lv_aload_n hx hb d_Lw_point_3 rfl (lv_at hl 0 rfl) ?_
    refine lv_iload_n hx hb d_Lw_point_4 rfl (lv_at hl 1 rfl) ?_
    refine lv_iload_n hx hb d_Lw_point_5 rfl (lv_at hl 2 rfl) ?_
    refine lv_iload_n hx hb d_Lw_point_6 rfl (lv_at hl 3 rfl) ?_
    refine lv_iload hx hb d_Lw_point_7 (lv_at hl 4 rfl) ?_
    refine lv_iload hx hb d_Lw_point_9 (lv_at hl 5 rfl) ?_
    refine rt_Ir_point hF hK hP hL (fun q h9 => Or.inl h9) hS hlt hz0 h hN m_535 hl.1 ⟨Nat.le_of_ble_eq_true rfl, Nat.le_of_ble_eq_true rfl⟩ ⟨Nat.le_refl _, Nat.le_refl _⟩ (Nat.le_of_ble_eq_true rfl) d_Lw_point_11 (fun ce q H locs hP hz1 hk1 hS hce hcv hcl => ?_)
    have hO : va_P (dC, dI) classes [(qo, .inl (cO, 1, .inr (.inl fo)))] H := hO.kept (fun k q h9 => hk1 q.1 ((hO k q h9).lt) (by have hk := (List.getElem?_eq_some_iff.mp h9).1; simp at hk; subst hk; cases h9; exact hqo))
    refine th_catch (own := R_Lw) (name := "java/lang/IndexOutOfBoundsException") hown [⟨0, 16, 19, 13⟩] ⟨0, 16, 23, 15⟩ [⟨0, 16, 27, 28⟩] htab (List.forall_mem_cons.mpr ⟨⟨by decide, "java/lang/IllegalArgumentException", hts _ m_531, hnc.1⟩, fun _ h9 => absurd h9 List.not_mem_nil⟩) rfl (by decide) (hts _ m_532) (va_Nw.use rfl (hK.2 _ mn_25)) hce hcv hcl ?_
    refine lv_astore (lv' := [(7, .ref q), (0, .ref (L 0)), (1, .int a0), (2, .int a1), (3, .int a2), (4, .int a3), (5, .int a4), (6, .ref qo)]) hx hb d_Lw_point_23 hl (by decide) rfl (fun ls hl => ?_)
    refine lv_iconst (v := 2) hx hb d_Lw_point_25 (by decide) ?_
    exact W.iret (v := 2) hx hb hr (fun t ht hW => ⟨⟨2, (((f_Ir_point ar sc a0 a1 a2 a3 a4).2.2.1, (f_Ir_point ar sc a0 a1 a2 a3 a4).2.2.2), fo), rfl, ⟨by rw [hN]; decide, rfl, by rw [hN]; rfl⟩, ⟨by dsimp only; rw [ht]; exact hP, by dsimp only; rw [ht]; exact hO⟩⟩, hS.F ht⟩) hS.2.2 d_Lw_point_26
  · refine lv_aload hx hb d_Lw_point_0 (lv_at hl 6 rfl) ?_
    refine lv_iconst (v := 0) hx hb d_Lw_point_2 (by decide) ?_
    refine lv_aload_n hx hb d_Lw_point_3 rfl (lv_at hl 0 rfl) ?_
    refine lv_iload_n hx hb d_Lw_point_4 rfl (lv_at hl 1 rfl) ?_
    refine lv_iload_n hx hb d_Lw_point_5 rfl (lv_at hl 2 rfl) ?_
    refine lv_iload_n hx hb d_Lw_point_6 rfl (lv_at hl 3 rfl) ?_
    refine lv_iload hx hb d_Lw_point_7 (lv_at hl 4 rfl) ?_
    refine lv_iload hx hb d_Lw_point_9 (lv_at hl 5 rfl) ?_
    refine rt_Ir_point hF hK hP hL (fun q h9 => Or.inl h9) hS hlt hz0 h hN m_535 hl.1 ⟨Nat.le_of_ble_eq_true rfl, Nat.le_of_ble_eq_true rfl⟩ ⟨Nat.le_refl _, Nat.le_refl _⟩ (Nat.le_of_ble_eq_true rfl) d_Lw_point_11 (fun ce q H locs hP hz1 hk1 hS hce hcv hcl => ?_)
    have hO : va_P (dC, dI) classes [(qo, .inl (cO, 1, .inr (.inl fo)))] H := hO.kept (fun k q h9 => hk1 q.1 ((hO k q h9).lt) (by have hk := (List.getElem?_eq_some_iff.mp h9).1; simp at hk; subst hk; cases h9; exact hqo))
    refine th_catch (own := R_Lw) (name := "java/lang/UnsupportedOperationException") hown [⟨0, 16, 19, 13⟩, ⟨0, 16, 23, 15⟩] ⟨0, 16, 27, 28⟩ [] htab (List.forall_mem_cons.mpr ⟨⟨by decide, "java/lang/IllegalArgumentException", hts _ m_531, hnc.2.1⟩, List.forall_mem_cons.mpr ⟨⟨by decide, "java/lang/IndexOutOfBoundsException", hts _ m_532, hnc.2.2.1⟩, fun _ h9 => absurd h9 List.not_mem_nil⟩⟩) rfl (by decide) (hts _ m_536) (va_Nw.use rfl (hK.2 _ mn_26)) hce hcv hcl ?_
    refine lv_astore (lv' := [(7, .ref q), (0, .ref (L 0)), (1, .int a0), (2, .int a1), (3, .int a2), (4, .int a3), (5, .int a4), (6, .ref qo)]) hx hb d_Lw_point_27 hl (by decide) rfl (fun ls hl => ?_)
    refine lv_iconst (v := 3) hx hb d_Lw_point_29 (by decide) ?_
    exact W.iret (v := 3) hx hb hr (fun t ht hW => ⟨⟨3, (((f_Ir_point ar sc a0 a1 a2 a3 a4).2.2.1, (f_Ir_point ar sc a0 a1 a2 a3 a4).2.2.2), fo), rfl, ⟨by rw [hN]; decide, rfl, by rw [hN]; rfl⟩, ⟨by dsimp only; rw [ht]; exact hP, by dsimp only; rw [ht]; exact hO⟩⟩, hS.F ht⟩) hS.2.2 d_Lw_point_30
def kc_day (x : Option String) : Int32 := if x = some "java/lang/IndexOutOfBoundsException" then 1 else 0
abbrev b_Lw_day : ByteArray := method_7_code
def y_Lw_day : MethodName := ⟨R_Lw, "day", "(LInspectRows;I)I"⟩
abbrev z_Lw_day : List Cond := Cond.codeWith y_Lw_day b_Lw_day 3 (some .int) [(0, 5, 8, 15)] :: w_all
theorem d_Lw_day_0 : decode b_Lw_day 0 = .ok (.aload_n 0, 1) := by decide +kernel
theorem d_Lw_day_1 : decode b_Lw_day 1 = .ok (.iload_n 1, 1) := by decide +kernel
theorem d_Lw_day_2 : decode b_Lw_day 2 = .ok (.invokevirtual 30, 3) := by decide +kernel
theorem d_Lw_day_5 : decode b_Lw_day 5 = .ok (.goto 6, 3) := by decide +kernel
theorem d_Lw_day_8 : decode b_Lw_day 8 = .ok (.astore_n 2, 1) := by decide +kernel
theorem d_Lw_day_9 : decode b_Lw_day 9 = .ok (.iconst 1, 1) := by decide +kernel
theorem d_Lw_day_10 : decode b_Lw_day 10 = .ok (.ireturn, 1) := by decide +kernel
theorem d_Lw_day_11 : decode b_Lw_day 11 = .ok (.iconst 0, 1) := by decide +kernel
theorem d_Lw_day_12 : decode b_Lw_day 12 = .ok (.ireturn, 1) := by decide +kernel
set_option maxHeartbeats 4000000 in
set_option maxRecDepth 100000 in
theorem c_Lw_day (l : Launch) (hlt : l.stackTraces = false) (sa : Nat → Nat) (dC : Nat → ClassId) (dI : Nat → Nat → Nat) (L : Nat → Nat) (cA : Nat → ClassId) (ar : Nat → Nat → Int32) (sc : Nat → Int32) (a0 : Int32) (hL : ij 38 L) : Met l y_Lw_day z_Lw_day (rmX 9) (va_Pc [.ref (L 0), .int a0] (fun U => xw_I dC dI L cA ar sc U ∧ xz_I L sa U ∧ nc_th U)) (va_Qi (fun (r : Int32) (u : oS) => r = kc_day (f_Ir_day ar sc a0).1 ∧ u = ((f_Ir_day ar sc a0).2.2.1, (f_Ir_day ar sc a0).2.2.2)) (fun (u : oS) t => va_P (dC, dI) classes (wI L cA u.1 u.2) t.heap) (aI L)) 1 6 (aI L) := by
  refine va_MetW (cc := b_Lw_day) (maxL := 3) (ret := (some .int)) (hh := [(0, 5, 8, 15)]) (by decide) rfl ?_
  intro p e s m args below meth c s₁ B hml hv
  obtain ⟨rfl, ⟨hP, hK⟩, hz, hnc⟩ := hv
  have hx := B.exec
  have hb := B.bytes
  have hr := B.returns
  have hts : ∀ w ∈ w_all, w.before _ s = true := fun w hw => atoms_spec (ws := z_Lw_day) B.pre w (List.mem_cons_of_mem _ hw)
  have hown : s.vm.findClass R_Lw = some m.cls := findClass_of_methodNamed B.named
  have hlocks := B.notSynchronized
  have hF : CallFix p m c b_Lw_day 3 s _ w_all R_Lw := ⟨hx, hb, hml, hown, hts⟩
  have htab : c.exceptionTable.toList = tableOf [(0, 5, 8, 15)] := tb_of B (atoms_spec (ws := z_Lw_day) B.pre _ List.mem_cons_self)
  have hS : va_S (aI L) s.heap s.heap [] := va_S.rf
  have hz0 : zx_I sa (aI L) (hpt s.heap s) := hz
  have hl := lv_entry ([.ref (L 0), .int a0]) (n := 3) (Nat.le_of_ble_eq_true rfl)
  rw [lg_entry_eq]
  generalize (lg_sl ([.ref (L 0), .int a0]) ++ List.replicate (3 - (lg_sl ([.ref (L 0), .int a0])).length) Slot.unset).toArray = ls at hl ⊢
  have hl : lv_has ls 3 [(0, .ref (L 0)), (1, .int a0)] := hl
  rcases ex_Ir_day ar sc a0 with hN | hN
  · refine lv_aload_n hx hb d_Lw_day_0 rfl (lv_at hl 0 rfl) ?_
    refine lv_iload_n hx hb d_Lw_day_1 rfl (lv_at hl 1 rfl) ?_
    refine ro_Ir_day hF hK hP hL (fun q h9 => h9) hS hlt hz0 hN m_537 hl.1 ⟨Nat.le_of_ble_eq_true rfl, Nat.le_of_ble_eq_true rfl⟩ ⟨Nat.le_refl _, Nat.le_refl _⟩ (Nat.le_of_ble_eq_true rfl) d_Lw_day_2 (fun H locs hP hz1 hk1 hS => ?_)
    refine lv_goto (tgt := 11) hx hb d_Lw_day_5 (by decide) ?_
    refine lv_iconst (v := 0) hx hb d_Lw_day_11 (by decide) ?_
    exact W.iret (v := 0) hx hb hr (fun t ht hW => ⟨⟨0, ((f_Ir_day ar sc a0).2.2.1, (f_Ir_day ar sc a0).2.2.2), rfl, ⟨by rw [hN]; decide, rfl⟩, by dsimp only; rw [ht]; exact hP⟩, hS.F ht⟩) hS.2.2 d_Lw_day_12
  · refine lv_aload_n hx hb d_Lw_day_0 rfl (lv_at hl 0 rfl) ?_
    refine lv_iload_n hx hb d_Lw_day_1 rfl (lv_at hl 1 rfl) ?_
    refine rt_Ir_day hF hK hP hL (fun q h9 => h9) hS hlt hz0 hN m_537 hl.1 ⟨Nat.le_of_ble_eq_true rfl, Nat.le_of_ble_eq_true rfl⟩ ⟨Nat.le_refl _, Nat.le_refl _⟩ (Nat.le_of_ble_eq_true rfl) d_Lw_day_2 (fun ce q H locs hP hz1 hk1 hS hce hcv hcl => ?_)
    refine th_catch (own := R_Lw) (name := "java/lang/IndexOutOfBoundsException") hown [] ⟨0, 5, 8, 15⟩ [] htab (fun _ h9 => absurd h9 List.not_mem_nil) rfl (by decide) (hts _ m_532) (va_Nw.use rfl (hK.2 _ mn_25)) hce hcv hcl ?_
    refine lv_astore_n (lv' := [(2, .ref q), (0, .ref (L 0)), (1, .int a0)]) hx hb d_Lw_day_8 rfl hl (by decide) rfl (fun ls hl => ?_)
    refine lv_iconst (v := 1) hx hb d_Lw_day_9 (by decide) ?_
    exact W.iret (v := 1) hx hb hr (fun t ht hW => ⟨⟨1, ((f_Ir_day ar sc a0).2.2.1, (f_Ir_day ar sc a0).2.2.2), rfl, ⟨by rw [hN]; decide, rfl⟩, by dsimp only; rw [ht]; exact hP⟩, hS.F ht⟩) hS.2.2 d_Lw_day_10
def kc_visit (x : Option String) : Int32 := if x = some "java/lang/IllegalArgumentException" then 1 else 0
abbrev b_Lw_visit : ByteArray := method_8_code
def y_Lw_visit : MethodName := ⟨R_Lw, "visit", "(LInspectRows;I)I"⟩
abbrev z_Lw_visit : List Cond := Cond.codeWith y_Lw_visit b_Lw_visit 3 (some .int) [(0, 5, 8, 13)] :: w_all
theorem d_Lw_visit_0 : decode b_Lw_visit 0 = .ok (.aload_n 0, 1) := by decide +kernel
theorem d_Lw_visit_1 : decode b_Lw_visit 1 = .ok (.iload_n 1, 1) := by decide +kernel
theorem d_Lw_visit_2 : decode b_Lw_visit 2 = .ok (.invokevirtual 34, 3) := by decide +kernel
theorem d_Lw_visit_5 : decode b_Lw_visit 5 = .ok (.goto 6, 3) := by decide +kernel
theorem d_Lw_visit_8 : decode b_Lw_visit 8 = .ok (.astore_n 2, 1) := by decide +kernel
theorem d_Lw_visit_9 : decode b_Lw_visit 9 = .ok (.iconst 1, 1) := by decide +kernel
theorem d_Lw_visit_10 : decode b_Lw_visit 10 = .ok (.ireturn, 1) := by decide +kernel
theorem d_Lw_visit_11 : decode b_Lw_visit 11 = .ok (.iconst 0, 1) := by decide +kernel
theorem d_Lw_visit_12 : decode b_Lw_visit 12 = .ok (.ireturn, 1) := by decide +kernel
set_option maxHeartbeats 4000000 in
set_option maxRecDepth 100000 in
theorem c_Lw_visit (l : Launch) (hlt : l.stackTraces = false) (sa : Nat → Nat) (dC : Nat → ClassId) (dI : Nat → Nat → Nat) (L : Nat → Nat) (cA : Nat → ClassId) (ar : Nat → Nat → Int32) (sc : Nat → Int32) (a0 : Int32) (hL : ij 38 L) (h : p_Ir_visit ar sc a0) : Met l y_Lw_visit z_Lw_visit (rmX 9) (va_Pc [.ref (L 0), .int a0] (fun U => xw_I dC dI L cA ar sc U ∧ xz_I L sa U ∧ nc_th U)) (va_Qi (fun (r : Int32) (u : oS) => r = kc_visit (f_Ir_visit ar sc a0).1 ∧ u = ((f_Ir_visit ar sc a0).2.2.1, (f_Ir_visit ar sc a0).2.2.2)) (fun (u : oS) t => va_P (dC, dI) classes (wI L cA u.1 u.2) t.heap) (aI L)) 1 6 (aI L) := by
  refine va_MetW (cc := b_Lw_visit) (maxL := 3) (ret := (some .int)) (hh := [(0, 5, 8, 13)]) (by decide) rfl ?_
  intro p e s m args below meth c s₁ B hml hv
  obtain ⟨rfl, ⟨hP, hK⟩, hz, hnc⟩ := hv
  have hx := B.exec
  have hb := B.bytes
  have hr := B.returns
  have hts : ∀ w ∈ w_all, w.before _ s = true := fun w hw => atoms_spec (ws := z_Lw_visit) B.pre w (List.mem_cons_of_mem _ hw)
  have hown : s.vm.findClass R_Lw = some m.cls := findClass_of_methodNamed B.named
  have hlocks := B.notSynchronized
  have hF : CallFix p m c b_Lw_visit 3 s _ w_all R_Lw := ⟨hx, hb, hml, hown, hts⟩
  have htab : c.exceptionTable.toList = tableOf [(0, 5, 8, 13)] := tb_of B (atoms_spec (ws := z_Lw_visit) B.pre _ List.mem_cons_self)
  have hS : va_S (aI L) s.heap s.heap [] := va_S.rf
  have hz0 : zx_I sa (aI L) (hpt s.heap s) := hz
  have hl := lv_entry ([.ref (L 0), .int a0]) (n := 3) (Nat.le_of_ble_eq_true rfl)
  rw [lg_entry_eq]
  generalize (lg_sl ([.ref (L 0), .int a0]) ++ List.replicate (3 - (lg_sl ([.ref (L 0), .int a0])).length) Slot.unset).toArray = ls at hl ⊢
  have hl : lv_has ls 3 [(0, .ref (L 0)), (1, .int a0)] := hl
  rcases ex_Ir_visit ar sc a0 with hN | hN
  · refine lv_aload_n hx hb d_Lw_visit_0 rfl (lv_at hl 0 rfl) ?_
    refine lv_iload_n hx hb d_Lw_visit_1 rfl (lv_at hl 1 rfl) ?_
    refine ro_Ir_visit hF hK hP hL (fun q h9 => h9) hS hlt hz0 h hN m_538 hl.1 ⟨Nat.le_of_ble_eq_true rfl, Nat.le_of_ble_eq_true rfl⟩ ⟨Nat.le_refl _, Nat.le_refl _⟩ (Nat.le_of_ble_eq_true rfl) d_Lw_visit_2 (fun H locs hP hz1 hk1 hS => ?_)
    refine lv_goto (tgt := 11) hx hb d_Lw_visit_5 (by decide) ?_
    refine lv_iconst (v := 0) hx hb d_Lw_visit_11 (by decide) ?_
    exact W.iret (v := 0) hx hb hr (fun t ht hW => ⟨⟨0, ((f_Ir_visit ar sc a0).2.2.1, (f_Ir_visit ar sc a0).2.2.2), rfl, ⟨by rw [hN]; decide, rfl⟩, by dsimp only; rw [ht]; exact hP⟩, hS.F ht⟩) hS.2.2 d_Lw_visit_12
  · refine lv_aload_n hx hb d_Lw_visit_0 rfl (lv_at hl 0 rfl) ?_
    refine lv_iload_n hx hb d_Lw_visit_1 rfl (lv_at hl 1 rfl) ?_
    refine rt_Ir_visit hF hK hP hL (fun q h9 => h9) hS hlt hz0 h hN m_538 hl.1 ⟨Nat.le_of_ble_eq_true rfl, Nat.le_of_ble_eq_true rfl⟩ ⟨Nat.le_refl _, Nat.le_refl _⟩ (Nat.le_of_ble_eq_true rfl) d_Lw_visit_2 (fun ce q H locs hP hz1 hk1 hS hce hcv hcl => ?_)
    refine th_catch (own := R_Lw) (name := "java/lang/IllegalArgumentException") hown [] ⟨0, 5, 8, 13⟩ [] htab (fun _ h9 => absurd h9 List.not_mem_nil) rfl (by decide) (hts _ m_531) (va_Nw.use rfl (hK.2 _ mn_24)) hce hcv hcl ?_
    refine lv_astore_n (lv' := [(2, .ref q), (0, .ref (L 0)), (1, .int a0)]) hx hb d_Lw_visit_8 rfl hl (by decide) rfl (fun ls hl => ?_)
    refine lv_iconst (v := 1) hx hb d_Lw_visit_9 (by decide) ?_
    exact W.iret (v := 1) hx hb hr (fun t ht hW => ⟨⟨1, ((f_Ir_visit ar sc a0).2.2.1, (f_Ir_visit ar sc a0).2.2.2), rfl, ⟨by rw [hN]; decide, rfl⟩, by dsimp only; rw [ht]; exact hP⟩, hS.F ht⟩) hS.2.2 d_Lw_visit_10
def kc_finding (x : Option String) : Int32 := if x = some "java/lang/IllegalArgumentException" then 1 else if x = some "java/lang/IndexOutOfBoundsException" then 2 else if x = some "java/lang/UnsupportedOperationException" then 3 else 0
abbrev b_Lw_finding : ByteArray := method_9_code
def y_Lw_finding : MethodName := ⟨R_Lw, "finding", "(LInspectRows;III[J)I"⟩
abbrev z_Lw_finding : List Cond := Cond.codeWith y_Lw_finding b_Lw_finding 6 (some .int) [(0, 12, 15, 13), (0, 12, 19, 15), (0, 12, 23, 28)] :: w_all
theorem d_Lw_finding_0 : decode b_Lw_finding 0 = .ok (.aload 4, 2) := by decide +kernel
theorem d_Lw_finding_2 : decode b_Lw_finding 2 = .ok (.iconst 0, 1) := by decide +kernel
theorem d_Lw_finding_3 : decode b_Lw_finding 3 = .ok (.aload_n 0, 1) := by decide +kernel
theorem d_Lw_finding_4 : decode b_Lw_finding 4 = .ok (.iload_n 1, 1) := by decide +kernel
theorem d_Lw_finding_5 : decode b_Lw_finding 5 = .ok (.iload_n 2, 1) := by decide +kernel
theorem d_Lw_finding_6 : decode b_Lw_finding 6 = .ok (.iload_n 3, 1) := by decide +kernel
theorem d_Lw_finding_7 : decode b_Lw_finding 7 = .ok (.invokevirtual 37, 3) := by decide +kernel
theorem d_Lw_finding_10 : decode b_Lw_finding 10 = .ok (.i2l, 1) := by decide +kernel
theorem d_Lw_finding_11 : decode b_Lw_finding 11 = .ok (.lastore, 1) := by decide +kernel
theorem d_Lw_finding_12 : decode b_Lw_finding 12 = .ok (.goto 15, 3) := by decide +kernel
theorem d_Lw_finding_15 : decode b_Lw_finding 15 = .ok (.astore 5, 2) := by decide +kernel
theorem d_Lw_finding_17 : decode b_Lw_finding 17 = .ok (.iconst 1, 1) := by decide +kernel
theorem d_Lw_finding_18 : decode b_Lw_finding 18 = .ok (.ireturn, 1) := by decide +kernel
theorem d_Lw_finding_19 : decode b_Lw_finding 19 = .ok (.astore 5, 2) := by decide +kernel
theorem d_Lw_finding_21 : decode b_Lw_finding 21 = .ok (.iconst 2, 1) := by decide +kernel
theorem d_Lw_finding_22 : decode b_Lw_finding 22 = .ok (.ireturn, 1) := by decide +kernel
theorem d_Lw_finding_23 : decode b_Lw_finding 23 = .ok (.astore 5, 2) := by decide +kernel
theorem d_Lw_finding_25 : decode b_Lw_finding 25 = .ok (.iconst 3, 1) := by decide +kernel
theorem d_Lw_finding_26 : decode b_Lw_finding 26 = .ok (.ireturn, 1) := by decide +kernel
theorem d_Lw_finding_27 : decode b_Lw_finding 27 = .ok (.iconst 0, 1) := by decide +kernel
theorem d_Lw_finding_28 : decode b_Lw_finding 28 = .ok (.ireturn, 1) := by decide +kernel
set_option maxHeartbeats 4000000 in
set_option maxRecDepth 100000 in
theorem c_Lw_finding (l : Launch) (hlt : l.stackTraces = false) (sa : Nat → Nat) (dC : Nat → ClassId) (dI : Nat → Nat → Nat) (L : Nat → Nat) (cA : Nat → ClassId) (ar : Nat → Nat → Int32) (sc : Nat → Int32) (a0 : Int32) (a1 : Int32) (a2 : Int32) (qo : Nat) (cO : ClassId) (fo : Nat → Int64) (hqo : ¬ aI L qo) (hL : ij 38 L) (h : p_Ir_finding ar sc a0 a1 a2) : Met l y_Lw_finding z_Lw_finding (rmX 9) (va_Pc [.ref (L 0), .int a0, .int a1, .int a2, .ref qo] (fun U => xw_I dC dI L cA ar sc U ∧ xz_I L sa U ∧ nc_th U ∧ va_P (dC, dI) classes [(qo, .inl (cO, 1, .inr (.inl fo)))] U.heap ∧ va_K (dC, dI) classes [(cO, .long)] U)) (va_Qi (fun (r : Int32) (u : oS × (Nat → Int64)) => r = kc_finding (f_Ir_finding ar sc a0 a1 a2).1 ∧ u.1 = ((f_Ir_finding ar sc a0 a1 a2).2.2.1, (f_Ir_finding ar sc a0 a1 a2).2.2.2) ∧ u.2 = if (f_Ir_finding ar sc a0 a1 a2).1 = none then vp_updL fo 0 (f_Ir_finding ar sc a0 a1 a2).2.1.toInt64 else fo) (fun (u : oS × (Nat → Int64)) t => va_P (dC, dI) classes (wI L cA u.1.1 u.1.2) t.heap ∧ va_P (dC, dI) classes [(qo, .inl (cO, 1, .inr (.inl u.2)))] t.heap) (aO L qo)) 1 6 (aO L qo) := by
  refine va_MetW (cc := b_Lw_finding) (maxL := 6) (ret := (some .int)) (hh := [(0, 12, 15, 13), (0, 12, 19, 15), (0, 12, 23, 28)]) (by decide) rfl ?_
  intro p e s m args below meth c s₁ B hml hv
  obtain ⟨rfl, ⟨hP, hK⟩, hz, hnc, hO, hKo⟩ := hv
  have hx := B.exec
  have hb := B.bytes
  have hr := B.returns
  have hts : ∀ w ∈ w_all, w.before _ s = true := fun w hw => atoms_spec (ws := z_Lw_finding) B.pre w (List.mem_cons_of_mem _ hw)
  have hown : s.vm.findClass R_Lw = some m.cls := findClass_of_methodNamed B.named
  have hlocks := B.notSynchronized
  have hF : CallFix p m c b_Lw_finding 6 s _ w_all R_Lw := ⟨hx, hb, hml, hown, hts⟩
  have htab : c.exceptionTable.toList = tableOf [(0, 12, 15, 13), (0, 12, 19, 15), (0, 12, 23, 28)] := tb_of B (atoms_spec (ws := z_Lw_finding) B.pre _ List.mem_cons_self)
  have hS : va_S (aO L qo) s.heap s.heap [] := va_S.rf
  have hz0 : zx_I sa (aI L) (hpt s.heap s) := hz
  have hl := lv_entry ([.ref (L 0), .int a0, .int a1, .int a2, .ref qo]) (n := 6) (Nat.le_of_ble_eq_true rfl)
  rw [lg_entry_eq]
  generalize (lg_sl ([.ref (L 0), .int a0, .int a1, .int a2, .ref qo]) ++ List.replicate (6 - (lg_sl ([.ref (L 0), .int a0, .int a1, .int a2, .ref qo])).length) Slot.unset).toArray = ls at hl ⊢
  have hl : lv_has ls 6 [(0, .ref (L 0)), (1, .int a0), (2, .int a1), (3, .int a2), (4, .ref qo)] := hl
  rcases ex_Ir_finding ar sc a0 a1 a2 with hN | hN | hN | hN
  · refine lv_aload hx hb d_Lw_finding_0 (lv_at hl 4 rfl) ?_
    refine lv_iconst (v := 0) hx hb d_Lw_finding_2 (by decide) ?_
    refine lv_aload_n hx hb d_Lw_finding_3 rfl (lv_at hl 0 rfl) ?_
    refine lv_iload_n hx hb d_Lw_finding_4 rfl (lv_at hl 1 rfl) ?_
    refine lv_iload_n hx hb d_Lw_finding_5 rfl (lv_at hl 2 rfl) ?_
    refine lv_iload_n hx hb d_Lw_finding_6 rfl (lv_at hl 3 rfl) ?_
    refine ro_Ir_finding hF hK hP hL (fun q h9 => Or.inl h9) hS hlt hz0 h hN m_539 hl.1 ⟨Nat.le_of_ble_eq_true rfl, Nat.le_of_ble_eq_true rfl⟩ ⟨Nat.le_refl _, Nat.le_refl _⟩ (Nat.le_of_ble_eq_true rfl) d_Lw_finding_7 (fun H locs hP hz1 hk1 hS => ?_)
    have hO : va_P (dC, dI) classes [(qo, .inl (cO, 1, .inr (.inl fo)))] H := hO.kept (fun k q h9 => hk1 q.1 ((hO k q h9).lt) (by have hk := (List.getElem?_eq_some_iff.mp h9).1; simp at hk; subst hk; cases h9; exact hqo))
    refine lv_i2l hx hb d_Lw_finding_10 rfl ?_
    refine st_out hx hb hKo hO hP hL hqo hS d_Lw_finding_11 (fun H locs hO hP hS => ?_)
    refine lv_goto (tgt := 27) hx hb d_Lw_finding_12 (by decide) ?_
    refine lv_iconst (v := 0) hx hb d_Lw_finding_27 (by decide) ?_
    exact W.iret (v := 0) hx hb hr (fun t ht hW => ⟨⟨0, (((f_Ir_finding ar sc a0 a1 a2).2.2.1, (f_Ir_finding ar sc a0 a1 a2).2.2.2), vp_updL fo 0 (f_Ir_finding ar sc a0 a1 a2).2.1.toInt64), rfl, ⟨by rw [hN]; decide, rfl, by rw [hN]; rfl⟩, ⟨by dsimp only; rw [ht]; exact hP, by dsimp only; rw [ht]; exact hO⟩⟩, hS.F ht⟩) hS.2.2 d_Lw_finding_28
  · refine lv_aload hx hb d_Lw_finding_0 (lv_at hl 4 rfl) ?_
    refine lv_iconst (v := 0) hx hb d_Lw_finding_2 (by decide) ?_
    refine lv_aload_n hx hb d_Lw_finding_3 rfl (lv_at hl 0 rfl) ?_
    refine lv_iload_n hx hb d_Lw_finding_4 rfl (lv_at hl 1 rfl) ?_
    refine lv_iload_n hx hb d_Lw_finding_5 rfl (lv_at hl 2 rfl) ?_
    refine lv_iload_n hx hb d_Lw_finding_6 rfl (lv_at hl 3 rfl) ?_
    refine rt_Ir_finding hF hK hP hL (fun q h9 => Or.inl h9) hS hlt hz0 h hN m_539 hl.1 ⟨Nat.le_of_ble_eq_true rfl, Nat.le_of_ble_eq_true rfl⟩ ⟨Nat.le_refl _, Nat.le_refl _⟩ (Nat.le_of_ble_eq_true rfl) d_Lw_finding_7 (fun ce q H locs hP hz1 hk1 hS hce hcv hcl => ?_)
    have hO : va_P (dC, dI) classes [(qo, .inl (cO, 1, .inr (.inl fo)))] H := hO.kept (fun k q h9 => hk1 q.1 ((hO k q h9).lt) (by have hk := (List.getElem?_eq_some_iff.mp h9).1; simp at hk; subst hk; cases h9; exact hqo))
    refine th_catch (own := R_Lw) (name := "java/lang/IllegalArgumentException") hown [] ⟨0, 12, 15, 13⟩ [⟨0, 12, 19, 15⟩, ⟨0, 12, 23, 28⟩] htab (fun _ h9 => absurd h9 List.not_mem_nil) rfl (by decide) (hts _ m_531) (va_Nw.use rfl (hK.2 _ mn_24)) hce hcv hcl ?_
    refine lv_astore (lv' := [(5, .ref q), (0, .ref (L 0)), (1, .int a0), (2, .int a1), (3, .int a2), (4, .ref qo)]) hx hb d_Lw_finding_15 hl (by decide) rfl (fun ls hl => ?_)
    refine lv_iconst (v := 1) hx hb d_Lw_finding_17 (by decide) ?_
    exact W.iret (v := 1) hx hb hr (fun t ht hW => ⟨⟨1, (((f_Ir_finding ar sc a0 a1 a2).2.2.1, (f_Ir_finding ar sc a0 a1 a2).2.2.2), fo), rfl, ⟨by rw [hN]; decide, rfl, by rw [hN]; rfl⟩, ⟨by dsimp only; rw [ht]; exact hP, by dsimp only; rw [ht]; exact hO⟩⟩, hS.F ht⟩) hS.2.2 d_Lw_finding_18
  · refine lv_aload hx hb d_Lw_finding_0 (lv_at hl 4 rfl) ?_
    refine lv_iconst (v := 0) hx hb d_Lw_finding_2 (by decide) ?_
    refine lv_aload_n hx hb d_Lw_finding_3 rfl (lv_at hl 0 rfl) ?_
    refine lv_iload_n hx hb d_Lw_finding_4 rfl (lv_at hl 1 rfl) ?_
    refine lv_iload_n hx hb d_Lw_finding_5 rfl (lv_at hl 2 rfl) ?_
    refine lv_iload_n hx hb d_Lw_finding_6 rfl (lv_at hl 3 rfl) ?_
    refine rt_Ir_finding hF hK hP hL (fun q h9 => Or.inl h9) hS hlt hz0 h hN m_539 hl.1 ⟨Nat.le_of_ble_eq_true rfl, Nat.le_of_ble_eq_true rfl⟩ ⟨Nat.le_refl _, Nat.le_refl _⟩ (Nat.le_of_ble_eq_true rfl) d_Lw_finding_7 (fun ce q H locs hP hz1 hk1 hS hce hcv hcl => ?_)
    have hO : va_P (dC, dI) classes [(qo, .inl (cO, 1, .inr (.inl fo)))] H := hO.kept (fun k q h9 => hk1 q.1 ((hO k q h9).lt) (by have hk := (List.getElem?_eq_some_iff.mp h9).1; simp at hk; subst hk; cases h9; exact hqo))
    refine th_catch (own := R_Lw) (name := "java/lang/IndexOutOfBoundsException") hown [⟨0, 12, 15, 13⟩] ⟨0, 12, 19, 15⟩ [⟨0, 12, 23, 28⟩] htab (List.forall_mem_cons.mpr ⟨⟨by decide, "java/lang/IllegalArgumentException", hts _ m_531, hnc.1⟩, fun _ h9 => absurd h9 List.not_mem_nil⟩) rfl (by decide) (hts _ m_532) (va_Nw.use rfl (hK.2 _ mn_25)) hce hcv hcl ?_
    refine lv_astore (lv' := [(5, .ref q), (0, .ref (L 0)), (1, .int a0), (2, .int a1), (3, .int a2), (4, .ref qo)]) hx hb d_Lw_finding_19 hl (by decide) rfl (fun ls hl => ?_)
    refine lv_iconst (v := 2) hx hb d_Lw_finding_21 (by decide) ?_
    exact W.iret (v := 2) hx hb hr (fun t ht hW => ⟨⟨2, (((f_Ir_finding ar sc a0 a1 a2).2.2.1, (f_Ir_finding ar sc a0 a1 a2).2.2.2), fo), rfl, ⟨by rw [hN]; decide, rfl, by rw [hN]; rfl⟩, ⟨by dsimp only; rw [ht]; exact hP, by dsimp only; rw [ht]; exact hO⟩⟩, hS.F ht⟩) hS.2.2 d_Lw_finding_22
  · refine lv_aload hx hb d_Lw_finding_0 (lv_at hl 4 rfl) ?_
    refine lv_iconst (v := 0) hx hb d_Lw_finding_2 (by decide) ?_
    refine lv_aload_n hx hb d_Lw_finding_3 rfl (lv_at hl 0 rfl) ?_
    refine lv_iload_n hx hb d_Lw_finding_4 rfl (lv_at hl 1 rfl) ?_
    refine lv_iload_n hx hb d_Lw_finding_5 rfl (lv_at hl 2 rfl) ?_
    refine lv_iload_n hx hb d_Lw_finding_6 rfl (lv_at hl 3 rfl) ?_
    refine rt_Ir_finding hF hK hP hL (fun q h9 => Or.inl h9) hS hlt hz0 h hN m_539 hl.1 ⟨Nat.le_of_ble_eq_true rfl, Nat.le_of_ble_eq_true rfl⟩ ⟨Nat.le_refl _, Nat.le_refl _⟩ (Nat.le_of_ble_eq_true rfl) d_Lw_finding_7 (fun ce q H locs hP hz1 hk1 hS hce hcv hcl => ?_)
    have hO : va_P (dC, dI) classes [(qo, .inl (cO, 1, .inr (.inl fo)))] H := hO.kept (fun k q h9 => hk1 q.1 ((hO k q h9).lt) (by have hk := (List.getElem?_eq_some_iff.mp h9).1; simp at hk; subst hk; cases h9; exact hqo))
    refine th_catch (own := R_Lw) (name := "java/lang/UnsupportedOperationException") hown [⟨0, 12, 15, 13⟩, ⟨0, 12, 19, 15⟩] ⟨0, 12, 23, 28⟩ [] htab (List.forall_mem_cons.mpr ⟨⟨by decide, "java/lang/IllegalArgumentException", hts _ m_531, hnc.2.1⟩, List.forall_mem_cons.mpr ⟨⟨by decide, "java/lang/IndexOutOfBoundsException", hts _ m_532, hnc.2.2.1⟩, fun _ h9 => absurd h9 List.not_mem_nil⟩⟩) rfl (by decide) (hts _ m_536) (va_Nw.use rfl (hK.2 _ mn_26)) hce hcv hcl ?_
    refine lv_astore (lv' := [(5, .ref q), (0, .ref (L 0)), (1, .int a0), (2, .int a1), (3, .int a2), (4, .ref qo)]) hx hb d_Lw_finding_23 hl (by decide) rfl (fun ls hl => ?_)
    refine lv_iconst (v := 3) hx hb d_Lw_finding_25 (by decide) ?_
    exact W.iret (v := 3) hx hb hr (fun t ht hW => ⟨⟨3, (((f_Ir_finding ar sc a0 a1 a2).2.2.1, (f_Ir_finding ar sc a0 a1 a2).2.2.2), fo), rfl, ⟨by rw [hN]; decide, rfl, by rw [hN]; rfl⟩, ⟨by dsimp only; rw [ht]; exact hP, by dsimp only; rw [ht]; exact hO⟩⟩, hS.F ht⟩) hS.2.2 d_Lw_finding_26
def kc_done (x : Option String) : Int32 := if x = some "java/lang/IllegalArgumentException" then 1 else if x = some "java/lang/IndexOutOfBoundsException" then 2 else if x = some "java/lang/IllegalStateException" then 3 else 0
abbrev b_Lw_done : ByteArray := method_10_code
def y_Lw_done : MethodName := ⟨R_Lw, "done", "(LInspectRows;II)I"⟩
abbrev z_Lw_done : List Cond := Cond.codeWith y_Lw_done b_Lw_done 4 (some .int) [(0, 6, 9, 13), (0, 6, 12, 15), (0, 6, 15, 44)] :: w_all
theorem d_Lw_done_0 : decode b_Lw_done 0 = .ok (.aload_n 0, 1) := by decide +kernel
theorem d_Lw_done_1 : decode b_Lw_done 1 = .ok (.iload_n 1, 1) := by decide +kernel
theorem d_Lw_done_2 : decode b_Lw_done 2 = .ok (.iload_n 2, 1) := by decide +kernel
theorem d_Lw_done_3 : decode b_Lw_done 3 = .ok (.invokevirtual 41, 3) := by decide +kernel
theorem d_Lw_done_6 : decode b_Lw_done 6 = .ok (.goto 12, 3) := by decide +kernel
theorem d_Lw_done_9 : decode b_Lw_done 9 = .ok (.astore_n 3, 1) := by decide +kernel
theorem d_Lw_done_10 : decode b_Lw_done 10 = .ok (.iconst 1, 1) := by decide +kernel
theorem d_Lw_done_11 : decode b_Lw_done 11 = .ok (.ireturn, 1) := by decide +kernel
theorem d_Lw_done_12 : decode b_Lw_done 12 = .ok (.astore_n 3, 1) := by decide +kernel
theorem d_Lw_done_13 : decode b_Lw_done 13 = .ok (.iconst 2, 1) := by decide +kernel
theorem d_Lw_done_14 : decode b_Lw_done 14 = .ok (.ireturn, 1) := by decide +kernel
theorem d_Lw_done_15 : decode b_Lw_done 15 = .ok (.astore_n 3, 1) := by decide +kernel
theorem d_Lw_done_16 : decode b_Lw_done 16 = .ok (.iconst 3, 1) := by decide +kernel
theorem d_Lw_done_17 : decode b_Lw_done 17 = .ok (.ireturn, 1) := by decide +kernel
theorem d_Lw_done_18 : decode b_Lw_done 18 = .ok (.iconst 0, 1) := by decide +kernel
theorem d_Lw_done_19 : decode b_Lw_done 19 = .ok (.ireturn, 1) := by decide +kernel
set_option maxHeartbeats 4000000 in
set_option maxRecDepth 100000 in
theorem c_Lw_done (l : Launch) (hlt : l.stackTraces = false) (sa : Nat → Nat) (dC : Nat → ClassId) (dI : Nat → Nat → Nat) (L : Nat → Nat) (cA : Nat → ClassId) (ar : Nat → Nat → Int32) (sc : Nat → Int32) (a0 : Int32) (a1 : Int32) (hL : ij 38 L) (h : p_Ir_done ar sc a0 a1) : Met l y_Lw_done z_Lw_done (rmX 9) (va_Pc [.ref (L 0), .int a0, .int a1] (fun U => xw_I dC dI L cA ar sc U ∧ xz_I L sa U ∧ nc_th U)) (va_Qi (fun (r : Int32) (u : oS) => r = kc_done (f_Ir_done ar sc a0 a1).1 ∧ u = ((f_Ir_done ar sc a0 a1).2.2.1, (f_Ir_done ar sc a0 a1).2.2.2)) (fun (u : oS) t => va_P (dC, dI) classes (wI L cA u.1 u.2) t.heap) (aI L)) 1 6 (aI L) := by
  refine va_MetW (cc := b_Lw_done) (maxL := 4) (ret := (some .int)) (hh := [(0, 6, 9, 13), (0, 6, 12, 15), (0, 6, 15, 44)]) (by decide) rfl ?_
  intro p e s m args below meth c s₁ B hml hv
  obtain ⟨rfl, ⟨hP, hK⟩, hz, hnc⟩ := hv
  have hx := B.exec
  have hb := B.bytes
  have hr := B.returns
  have hts : ∀ w ∈ w_all, w.before _ s = true := fun w hw => atoms_spec (ws := z_Lw_done) B.pre w (List.mem_cons_of_mem _ hw)
  have hown : s.vm.findClass R_Lw = some m.cls := findClass_of_methodNamed B.named
  have hlocks := B.notSynchronized
  have hF : CallFix p m c b_Lw_done 4 s _ w_all R_Lw := ⟨hx, hb, hml, hown, hts⟩
  have htab : c.exceptionTable.toList = tableOf [(0, 6, 9, 13), (0, 6, 12, 15), (0, 6, 15, 44)] := tb_of B (atoms_spec (ws := z_Lw_done) B.pre _ List.mem_cons_self)
  have hS : va_S (aI L) s.heap s.heap [] := va_S.rf
  have hz0 : zx_I sa (aI L) (hpt s.heap s) := hz
  have hl := lv_entry ([.ref (L 0), .int a0, .int a1]) (n := 4) (Nat.le_of_ble_eq_true rfl)
  rw [lg_entry_eq]
  generalize (lg_sl ([.ref (L 0), .int a0, .int a1]) ++ List.replicate (4 - (lg_sl ([.ref (L 0), .int a0, .int a1])).length) Slot.unset).toArray = ls at hl ⊢
  have hl : lv_has ls 4 [(0, .ref (L 0)), (1, .int a0), (2, .int a1)] := hl
  rcases ex_Ir_done ar sc a0 a1 with hN | hN | hN | hN
  · refine lv_aload_n hx hb d_Lw_done_0 rfl (lv_at hl 0 rfl) ?_
    refine lv_iload_n hx hb d_Lw_done_1 rfl (lv_at hl 1 rfl) ?_
    refine lv_iload_n hx hb d_Lw_done_2 rfl (lv_at hl 2 rfl) ?_
    refine ro_Ir_done hF hK hP hL (fun q h9 => h9) hS hlt hz0 h hN m_540 hl.1 ⟨Nat.le_of_ble_eq_true rfl, Nat.le_of_ble_eq_true rfl⟩ ⟨Nat.le_refl _, Nat.le_refl _⟩ (Nat.le_of_ble_eq_true rfl) d_Lw_done_3 (fun H locs hP hz1 hk1 hS => ?_)
    refine lv_goto (tgt := 18) hx hb d_Lw_done_6 (by decide) ?_
    refine lv_iconst (v := 0) hx hb d_Lw_done_18 (by decide) ?_
    exact W.iret (v := 0) hx hb hr (fun t ht hW => ⟨⟨0, ((f_Ir_done ar sc a0 a1).2.2.1, (f_Ir_done ar sc a0 a1).2.2.2), rfl, ⟨by rw [hN]; decide, rfl⟩, by dsimp only; rw [ht]; exact hP⟩, hS.F ht⟩) hS.2.2 d_Lw_done_19
  · refine lv_aload_n hx hb d_Lw_done_0 rfl (lv_at hl 0 rfl) ?_
    refine lv_iload_n hx hb d_Lw_done_1 rfl (lv_at hl 1 rfl) ?_
    refine lv_iload_n hx hb d_Lw_done_2 rfl (lv_at hl 2 rfl) ?_
    refine rt_Ir_done hF hK hP hL (fun q h9 => h9) hS hlt hz0 h hN m_540 hl.1 ⟨Nat.le_of_ble_eq_true rfl, Nat.le_of_ble_eq_true rfl⟩ ⟨Nat.le_refl _, Nat.le_refl _⟩ (Nat.le_of_ble_eq_true rfl) d_Lw_done_3 (fun ce q H locs hP hz1 hk1 hS hce hcv hcl => ?_)
    refine th_catch (own := R_Lw) (name := "java/lang/IllegalArgumentException") hown [] ⟨0, 6, 9, 13⟩ [⟨0, 6, 12, 15⟩, ⟨0, 6, 15, 44⟩] htab (fun _ h9 => absurd h9 List.not_mem_nil) rfl (by decide) (hts _ m_531) (va_Nw.use rfl (hK.2 _ mn_24)) hce hcv hcl ?_
    refine lv_astore_n (lv' := [(3, .ref q), (0, .ref (L 0)), (1, .int a0), (2, .int a1)]) hx hb d_Lw_done_9 rfl hl (by decide) rfl (fun ls hl => ?_)
    refine lv_iconst (v := 1) hx hb d_Lw_done_10 (by decide) ?_
    exact W.iret (v := 1) hx hb hr (fun t ht hW => ⟨⟨1, ((f_Ir_done ar sc a0 a1).2.2.1, (f_Ir_done ar sc a0 a1).2.2.2), rfl, ⟨by rw [hN]; decide, rfl⟩, by dsimp only; rw [ht]; exact hP⟩, hS.F ht⟩) hS.2.2 d_Lw_done_11
  · refine lv_aload_n hx hb d_Lw_done_0 rfl (lv_at hl 0 rfl) ?_
    refine lv_iload_n hx hb d_Lw_done_1 rfl (lv_at hl 1 rfl) ?_
    refine lv_iload_n hx hb d_Lw_done_2 rfl (lv_at hl 2 rfl) ?_
    refine rt_Ir_done hF hK hP hL (fun q h9 => h9) hS hlt hz0 h hN m_540 hl.1 ⟨Nat.le_of_ble_eq_true rfl, Nat.le_of_ble_eq_true rfl⟩ ⟨Nat.le_refl _, Nat.le_refl _⟩ (Nat.le_of_ble_eq_true rfl) d_Lw_done_3 (fun ce q H locs hP hz1 hk1 hS hce hcv hcl => ?_)
    refine th_catch (own := R_Lw) (name := "java/lang/IndexOutOfBoundsException") hown [⟨0, 6, 9, 13⟩] ⟨0, 6, 12, 15⟩ [⟨0, 6, 15, 44⟩] htab (List.forall_mem_cons.mpr ⟨⟨by decide, "java/lang/IllegalArgumentException", hts _ m_531, hnc.1⟩, fun _ h9 => absurd h9 List.not_mem_nil⟩) rfl (by decide) (hts _ m_532) (va_Nw.use rfl (hK.2 _ mn_25)) hce hcv hcl ?_
    refine lv_astore_n (lv' := [(3, .ref q), (0, .ref (L 0)), (1, .int a0), (2, .int a1)]) hx hb d_Lw_done_12 rfl hl (by decide) rfl (fun ls hl => ?_)
    refine lv_iconst (v := 2) hx hb d_Lw_done_13 (by decide) ?_
    exact W.iret (v := 2) hx hb hr (fun t ht hW => ⟨⟨2, ((f_Ir_done ar sc a0 a1).2.2.1, (f_Ir_done ar sc a0 a1).2.2.2), rfl, ⟨by rw [hN]; decide, rfl⟩, by dsimp only; rw [ht]; exact hP⟩, hS.F ht⟩) hS.2.2 d_Lw_done_14
  · refine lv_aload_n hx hb d_Lw_done_0 rfl (lv_at hl 0 rfl) ?_
    refine lv_iload_n hx hb d_Lw_done_1 rfl (lv_at hl 1 rfl) ?_
    refine lv_iload_n hx hb d_Lw_done_2 rfl (lv_at hl 2 rfl) ?_
    refine rt_Ir_done hF hK hP hL (fun q h9 => h9) hS hlt hz0 h hN m_540 hl.1 ⟨Nat.le_of_ble_eq_true rfl, Nat.le_of_ble_eq_true rfl⟩ ⟨Nat.le_refl _, Nat.le_refl _⟩ (Nat.le_of_ble_eq_true rfl) d_Lw_done_3 (fun ce q H locs hP hz1 hk1 hS hce hcv hcl => ?_)
    refine th_catch (own := R_Lw) (name := "java/lang/IllegalStateException") hown [⟨0, 6, 9, 13⟩, ⟨0, 6, 12, 15⟩] ⟨0, 6, 15, 44⟩ [] htab (List.forall_mem_cons.mpr ⟨⟨by decide, "java/lang/IllegalArgumentException", hts _ m_531, hnc.2.2.2.1⟩, List.forall_mem_cons.mpr ⟨⟨by decide, "java/lang/IndexOutOfBoundsException", hts _ m_532, hnc.2.2.2.2.1⟩, fun _ h9 => absurd h9 List.not_mem_nil⟩⟩) rfl (by decide) (hts _ m_541) (va_Nw.use rfl (hK.2 _ mn_27)) hce hcv hcl ?_
    refine lv_astore_n (lv' := [(3, .ref q), (0, .ref (L 0)), (1, .int a0), (2, .int a1)]) hx hb d_Lw_done_15 rfl hl (by decide) rfl (fun ls hl => ?_)
    refine lv_iconst (v := 3) hx hb d_Lw_done_16 (by decide) ?_
    exact W.iret (v := 3) hx hb hr (fun t ht hW => ⟨⟨3, ((f_Ir_done ar sc a0 a1).2.2.1, (f_Ir_done ar sc a0 a1).2.2.2), rfl, ⟨by rw [hN]; decide, rfl⟩, by dsimp only; rw [ht]; exact hP⟩, hS.F ht⟩) hS.2.2 d_Lw_done_17
def kc_findingAt (x : Option String) : Int32 := if x = some "java/lang/IllegalArgumentException" then 1 else 0
abbrev b_Lw_findingAt : ByteArray := method_11_code
def y_Lw_findingAt : MethodName := ⟨R_Lw, "findingAt", "(LInspectRows;II[J)I"⟩
abbrev z_Lw_findingAt : List Cond := Cond.codeWith y_Lw_findingAt b_Lw_findingAt 5 (some .int) [(0, 10, 13, 13)] :: w_all
theorem d_Lw_findingAt_0 : decode b_Lw_findingAt 0 = .ok (.aload_n 3, 1) := by decide +kernel
theorem d_Lw_findingAt_1 : decode b_Lw_findingAt 1 = .ok (.iconst 0, 1) := by decide +kernel
theorem d_Lw_findingAt_2 : decode b_Lw_findingAt 2 = .ok (.aload_n 0, 1) := by decide +kernel
theorem d_Lw_findingAt_3 : decode b_Lw_findingAt 3 = .ok (.iload_n 1, 1) := by decide +kernel
theorem d_Lw_findingAt_4 : decode b_Lw_findingAt 4 = .ok (.iload_n 2, 1) := by decide +kernel
theorem d_Lw_findingAt_5 : decode b_Lw_findingAt 5 = .ok (.invokevirtual 46, 3) := by decide +kernel
theorem d_Lw_findingAt_8 : decode b_Lw_findingAt 8 = .ok (.i2l, 1) := by decide +kernel
theorem d_Lw_findingAt_9 : decode b_Lw_findingAt 9 = .ok (.lastore, 1) := by decide +kernel
theorem d_Lw_findingAt_10 : decode b_Lw_findingAt 10 = .ok (.goto 7, 3) := by decide +kernel
theorem d_Lw_findingAt_13 : decode b_Lw_findingAt 13 = .ok (.astore 4, 2) := by decide +kernel
theorem d_Lw_findingAt_15 : decode b_Lw_findingAt 15 = .ok (.iconst 1, 1) := by decide +kernel
theorem d_Lw_findingAt_16 : decode b_Lw_findingAt 16 = .ok (.ireturn, 1) := by decide +kernel
theorem d_Lw_findingAt_17 : decode b_Lw_findingAt 17 = .ok (.iconst 0, 1) := by decide +kernel
theorem d_Lw_findingAt_18 : decode b_Lw_findingAt 18 = .ok (.ireturn, 1) := by decide +kernel
set_option maxHeartbeats 4000000 in
set_option maxRecDepth 100000 in
theorem c_Lw_findingAt (l : Launch) (hlt : l.stackTraces = false) (sa : Nat → Nat) (dC : Nat → ClassId) (dI : Nat → Nat → Nat) (L : Nat → Nat) (cA : Nat → ClassId) (ar : Nat → Nat → Int32) (sc : Nat → Int32) (a0 : Int32) (a1 : Int32) (qo : Nat) (cO : ClassId) (fo : Nat → Int64) (hqo : ¬ aI L qo) (hL : ij 38 L) (h : p_Ir_findingAt ar sc a0 a1) : Met l y_Lw_findingAt z_Lw_findingAt (rmX 9) (va_Pc [.ref (L 0), .int a0, .int a1, .ref qo] (fun U => xw_I dC dI L cA ar sc U ∧ xz_I L sa U ∧ nc_th U ∧ va_P (dC, dI) classes [(qo, .inl (cO, 1, .inr (.inl fo)))] U.heap ∧ va_K (dC, dI) classes [(cO, .long)] U)) (va_Qi (fun (r : Int32) (u : oS × (Nat → Int64)) => r = kc_findingAt (f_Ir_findingAt ar sc a0 a1).1 ∧ u.1 = ((f_Ir_findingAt ar sc a0 a1).2.2.1, (f_Ir_findingAt ar sc a0 a1).2.2.2) ∧ u.2 = if (f_Ir_findingAt ar sc a0 a1).1 = none then vp_updL fo 0 (f_Ir_findingAt ar sc a0 a1).2.1.toInt64 else fo) (fun (u : oS × (Nat → Int64)) t => va_P (dC, dI) classes (wI L cA u.1.1 u.1.2) t.heap ∧ va_P (dC, dI) classes [(qo, .inl (cO, 1, .inr (.inl u.2)))] t.heap) (aO L qo)) 1 6 (aO L qo) := by
  refine va_MetW (cc := b_Lw_findingAt) (maxL := 5) (ret := (some .int)) (hh := [(0, 10, 13, 13)]) (by decide) rfl ?_
  intro p e s m args below meth c s₁ B hml hv
  obtain ⟨rfl, ⟨hP, hK⟩, hz, hnc, hO, hKo⟩ := hv
  have hx := B.exec
  have hb := B.bytes
  have hr := B.returns
  have hts : ∀ w ∈ w_all, w.before _ s = true := fun w hw => atoms_spec (ws := z_Lw_findingAt) B.pre w (List.mem_cons_of_mem _ hw)
  have hown : s.vm.findClass R_Lw = some m.cls := findClass_of_methodNamed B.named
  have hlocks := B.notSynchronized
  have hF : CallFix p m c b_Lw_findingAt 5 s _ w_all R_Lw := ⟨hx, hb, hml, hown, hts⟩
  have htab : c.exceptionTable.toList = tableOf [(0, 10, 13, 13)] := tb_of B (atoms_spec (ws := z_Lw_findingAt) B.pre _ List.mem_cons_self)
  have hS : va_S (aO L qo) s.heap s.heap [] := va_S.rf
  have hz0 : zx_I sa (aI L) (hpt s.heap s) := hz
  have hl := lv_entry ([.ref (L 0), .int a0, .int a1, .ref qo]) (n := 5) (Nat.le_of_ble_eq_true rfl)
  rw [lg_entry_eq]
  generalize (lg_sl ([.ref (L 0), .int a0, .int a1, .ref qo]) ++ List.replicate (5 - (lg_sl ([.ref (L 0), .int a0, .int a1, .ref qo])).length) Slot.unset).toArray = ls at hl ⊢
  have hl : lv_has ls 5 [(0, .ref (L 0)), (1, .int a0), (2, .int a1), (3, .ref qo)] := hl
  rcases ex_Ir_findingAt ar sc a0 a1 with hN | hN
  · refine lv_aload_n hx hb d_Lw_findingAt_0 rfl (lv_at hl 3 rfl) ?_
    refine lv_iconst (v := 0) hx hb d_Lw_findingAt_1 (by decide) ?_
    refine lv_aload_n hx hb d_Lw_findingAt_2 rfl (lv_at hl 0 rfl) ?_
    refine lv_iload_n hx hb d_Lw_findingAt_3 rfl (lv_at hl 1 rfl) ?_
    refine lv_iload_n hx hb d_Lw_findingAt_4 rfl (lv_at hl 2 rfl) ?_
    refine ro_Ir_findingAt hF hK hP hL (fun q h9 => Or.inl h9) hS hlt hz0 h hN m_542 hl.1 ⟨Nat.le_of_ble_eq_true rfl, Nat.le_of_ble_eq_true rfl⟩ ⟨Nat.le_refl _, Nat.le_refl _⟩ (Nat.le_of_ble_eq_true rfl) d_Lw_findingAt_5 (fun H locs hP hz1 hk1 hS => ?_)
    have hO : va_P (dC, dI) classes [(qo, .inl (cO, 1, .inr (.inl fo)))] H := hO.kept (fun k q h9 => hk1 q.1 ((hO k q h9).lt) (by have hk := (List.getElem?_eq_some_iff.mp h9).1; simp at hk; subst hk; cases h9; exact hqo))
    refine lv_i2l hx hb d_Lw_findingAt_8 rfl ?_
    refine st_out hx hb hKo hO hP hL hqo hS d_Lw_findingAt_9 (fun H locs hO hP hS => ?_)
    refine lv_goto (tgt := 17) hx hb d_Lw_findingAt_10 (by decide) ?_
    refine lv_iconst (v := 0) hx hb d_Lw_findingAt_17 (by decide) ?_
    exact W.iret (v := 0) hx hb hr (fun t ht hW => ⟨⟨0, (((f_Ir_findingAt ar sc a0 a1).2.2.1, (f_Ir_findingAt ar sc a0 a1).2.2.2), vp_updL fo 0 (f_Ir_findingAt ar sc a0 a1).2.1.toInt64), rfl, ⟨by rw [hN]; decide, rfl, by rw [hN]; rfl⟩, ⟨by dsimp only; rw [ht]; exact hP, by dsimp only; rw [ht]; exact hO⟩⟩, hS.F ht⟩) hS.2.2 d_Lw_findingAt_18
  · refine lv_aload_n hx hb d_Lw_findingAt_0 rfl (lv_at hl 3 rfl) ?_
    refine lv_iconst (v := 0) hx hb d_Lw_findingAt_1 (by decide) ?_
    refine lv_aload_n hx hb d_Lw_findingAt_2 rfl (lv_at hl 0 rfl) ?_
    refine lv_iload_n hx hb d_Lw_findingAt_3 rfl (lv_at hl 1 rfl) ?_
    refine lv_iload_n hx hb d_Lw_findingAt_4 rfl (lv_at hl 2 rfl) ?_
    refine rt_Ir_findingAt hF hK hP hL (fun q h9 => Or.inl h9) hS hlt hz0 h hN m_542 hl.1 ⟨Nat.le_of_ble_eq_true rfl, Nat.le_of_ble_eq_true rfl⟩ ⟨Nat.le_refl _, Nat.le_refl _⟩ (Nat.le_of_ble_eq_true rfl) d_Lw_findingAt_5 (fun ce q H locs hP hz1 hk1 hS hce hcv hcl => ?_)
    have hO : va_P (dC, dI) classes [(qo, .inl (cO, 1, .inr (.inl fo)))] H := hO.kept (fun k q h9 => hk1 q.1 ((hO k q h9).lt) (by have hk := (List.getElem?_eq_some_iff.mp h9).1; simp at hk; subst hk; cases h9; exact hqo))
    refine th_catch (own := R_Lw) (name := "java/lang/IllegalArgumentException") hown [] ⟨0, 10, 13, 13⟩ [] htab (fun _ h9 => absurd h9 List.not_mem_nil) rfl (by decide) (hts _ m_531) (va_Nw.use rfl (hK.2 _ mn_24)) hce hcv hcl ?_
    refine lv_astore (lv' := [(4, .ref q), (0, .ref (L 0)), (1, .int a0), (2, .int a1), (3, .ref qo)]) hx hb d_Lw_findingAt_13 hl (by decide) rfl (fun ls hl => ?_)
    refine lv_iconst (v := 1) hx hb d_Lw_findingAt_15 (by decide) ?_
    exact W.iret (v := 1) hx hb hr (fun t ht hW => ⟨⟨1, (((f_Ir_findingAt ar sc a0 a1).2.2.1, (f_Ir_findingAt ar sc a0 a1).2.2.2), fo), rfl, ⟨by rw [hN]; decide, rfl, by rw [hN]; rfl⟩, ⟨by dsimp only; rw [ht]; exact hP, by dsimp only; rw [ht]; exact hO⟩⟩, hS.F ht⟩) hS.2.2 d_Lw_findingAt_16
def kc_pointAt (x : Option String) : Int32 := if x = some "java/lang/IllegalArgumentException" then 1 else 0
abbrev b_Lw_pointAt : ByteArray := method_12_code
def y_Lw_pointAt : MethodName := ⟨R_Lw, "pointAt", "(LInspectRows;II[J)I"⟩
abbrev z_Lw_pointAt : List Cond := Cond.codeWith y_Lw_pointAt b_Lw_pointAt 5 (some .int) [(0, 10, 13, 13)] :: w_all
theorem d_Lw_pointAt_0 : decode b_Lw_pointAt 0 = .ok (.aload_n 3, 1) := by decide +kernel
theorem d_Lw_pointAt_1 : decode b_Lw_pointAt 1 = .ok (.iconst 0, 1) := by decide +kernel
theorem d_Lw_pointAt_2 : decode b_Lw_pointAt 2 = .ok (.aload_n 0, 1) := by decide +kernel
theorem d_Lw_pointAt_3 : decode b_Lw_pointAt 3 = .ok (.iload_n 1, 1) := by decide +kernel
theorem d_Lw_pointAt_4 : decode b_Lw_pointAt 4 = .ok (.iload_n 2, 1) := by decide +kernel
theorem d_Lw_pointAt_5 : decode b_Lw_pointAt 5 = .ok (.invokevirtual 50, 3) := by decide +kernel
theorem d_Lw_pointAt_8 : decode b_Lw_pointAt 8 = .ok (.i2l, 1) := by decide +kernel
theorem d_Lw_pointAt_9 : decode b_Lw_pointAt 9 = .ok (.lastore, 1) := by decide +kernel
theorem d_Lw_pointAt_10 : decode b_Lw_pointAt 10 = .ok (.goto 7, 3) := by decide +kernel
theorem d_Lw_pointAt_13 : decode b_Lw_pointAt 13 = .ok (.astore 4, 2) := by decide +kernel
theorem d_Lw_pointAt_15 : decode b_Lw_pointAt 15 = .ok (.iconst 1, 1) := by decide +kernel
theorem d_Lw_pointAt_16 : decode b_Lw_pointAt 16 = .ok (.ireturn, 1) := by decide +kernel
theorem d_Lw_pointAt_17 : decode b_Lw_pointAt 17 = .ok (.iconst 0, 1) := by decide +kernel
theorem d_Lw_pointAt_18 : decode b_Lw_pointAt 18 = .ok (.ireturn, 1) := by decide +kernel
set_option maxHeartbeats 4000000 in
set_option maxRecDepth 100000 in
theorem c_Lw_pointAt (l : Launch) (hlt : l.stackTraces = false) (sa : Nat → Nat) (dC : Nat → ClassId) (dI : Nat → Nat → Nat) (L : Nat → Nat) (cA : Nat → ClassId) (ar : Nat → Nat → Int32) (sc : Nat → Int32) (a0 : Int32) (a1 : Int32) (qo : Nat) (cO : ClassId) (fo : Nat → Int64) (hqo : ¬ aI L qo) (hL : ij 38 L) (h : p_Ir_pointAt ar sc a0 a1) : Met l y_Lw_pointAt z_Lw_pointAt (rmX 9) (va_Pc [.ref (L 0), .int a0, .int a1, .ref qo] (fun U => xw_I dC dI L cA ar sc U ∧ xz_I L sa U ∧ nc_th U ∧ va_P (dC, dI) classes [(qo, .inl (cO, 1, .inr (.inl fo)))] U.heap ∧ va_K (dC, dI) classes [(cO, .long)] U)) (va_Qi (fun (r : Int32) (u : oS × (Nat → Int64)) => r = kc_pointAt (f_Ir_pointAt ar sc a0 a1).1 ∧ u.1 = ((f_Ir_pointAt ar sc a0 a1).2.2.1, (f_Ir_pointAt ar sc a0 a1).2.2.2) ∧ u.2 = if (f_Ir_pointAt ar sc a0 a1).1 = none then vp_updL fo 0 (f_Ir_pointAt ar sc a0 a1).2.1.toInt64 else fo) (fun (u : oS × (Nat → Int64)) t => va_P (dC, dI) classes (wI L cA u.1.1 u.1.2) t.heap ∧ va_P (dC, dI) classes [(qo, .inl (cO, 1, .inr (.inl u.2)))] t.heap) (aO L qo)) 1 6 (aO L qo) := by
  refine va_MetW (cc := b_Lw_pointAt) (maxL := 5) (ret := (some .int)) (hh := [(0, 10, 13, 13)]) (by decide) rfl ?_
  intro p e s m args below meth c s₁ B hml hv
  obtain ⟨rfl, ⟨hP, hK⟩, hz, hnc, hO, hKo⟩ := hv
  have hx := B.exec
  have hb := B.bytes
  have hr := B.returns
  have hts : ∀ w ∈ w_all, w.before _ s = true := fun w hw => atoms_spec (ws := z_Lw_pointAt) B.pre w (List.mem_cons_of_mem _ hw)
  have hown : s.vm.findClass R_Lw = some m.cls := findClass_of_methodNamed B.named
  have hlocks := B.notSynchronized
  have hF : CallFix p m c b_Lw_pointAt 5 s _ w_all R_Lw := ⟨hx, hb, hml, hown, hts⟩
  have htab : c.exceptionTable.toList = tableOf [(0, 10, 13, 13)] := tb_of B (atoms_spec (ws := z_Lw_pointAt) B.pre _ List.mem_cons_self)
  have hS : va_S (aO L qo) s.heap s.heap [] := va_S.rf
  have hz0 : zx_I sa (aI L) (hpt s.heap s) := hz
  have hl := lv_entry ([.ref (L 0), .int a0, .int a1, .ref qo]) (n := 5) (Nat.le_of_ble_eq_true rfl)
  rw [lg_entry_eq]
  generalize (lg_sl ([.ref (L 0), .int a0, .int a1, .ref qo]) ++ List.replicate (5 - (lg_sl ([.ref (L 0), .int a0, .int a1, .ref qo])).length) Slot.unset).toArray = ls at hl ⊢
  have hl : lv_has ls 5 [(0, .ref (L 0)), (1, .int a0), (2, .int a1), (3, .ref qo)] := hl
  rcases ex_Ir_pointAt ar sc a0 a1 with hN | hN
  · refine lv_aload_n hx hb d_Lw_pointAt_0 rfl (lv_at hl 3 rfl) ?_
    refine lv_iconst (v := 0) hx hb d_Lw_pointAt_1 (by decide) ?_
    refine lv_aload_n hx hb d_Lw_pointAt_2 rfl (lv_at hl 0 rfl) ?_
    refine lv_iload_n hx hb d_Lw_pointAt_3 rfl (lv_at hl 1 rfl) ?_
    refine lv_iload_n hx hb d_Lw_pointAt_4 rfl (lv_at hl 2 rfl) ?_
    refine ro_Ir_pointAt hF hK hP hL (fun q h9 => Or.inl h9) hS hlt hz0 h hN m_543 hl.1 ⟨Nat.le_of_ble_eq_true rfl, Nat.le_of_ble_eq_true rfl⟩ ⟨Nat.le_refl _, Nat.le_refl _⟩ (Nat.le_of_ble_eq_true rfl) d_Lw_pointAt_5 (fun H locs hP hz1 hk1 hS => ?_)
    have hO : va_P (dC, dI) classes [(qo, .inl (cO, 1, .inr (.inl fo)))] H := hO.kept (fun k q h9 => hk1 q.1 ((hO k q h9).lt) (by have hk := (List.getElem?_eq_some_iff.mp h9).1; simp at hk; subst hk; cases h9; exact hqo))
    refine lv_i2l hx hb d_Lw_pointAt_8 rfl ?_
    refine st_out hx hb hKo hO hP hL hqo hS d_Lw_pointAt_9 (fun H locs hO hP hS => ?_)
    refine lv_goto (tgt := 17) hx hb d_Lw_pointAt_10 (by decide) ?_
    refine lv_iconst (v := 0) hx hb d_Lw_pointAt_17 (by decide) ?_
    exact W.iret (v := 0) hx hb hr (fun t ht hW => ⟨⟨0, (((f_Ir_pointAt ar sc a0 a1).2.2.1, (f_Ir_pointAt ar sc a0 a1).2.2.2), vp_updL fo 0 (f_Ir_pointAt ar sc a0 a1).2.1.toInt64), rfl, ⟨by rw [hN]; decide, rfl, by rw [hN]; rfl⟩, ⟨by dsimp only; rw [ht]; exact hP, by dsimp only; rw [ht]; exact hO⟩⟩, hS.F ht⟩) hS.2.2 d_Lw_pointAt_18
  · refine lv_aload_n hx hb d_Lw_pointAt_0 rfl (lv_at hl 3 rfl) ?_
    refine lv_iconst (v := 0) hx hb d_Lw_pointAt_1 (by decide) ?_
    refine lv_aload_n hx hb d_Lw_pointAt_2 rfl (lv_at hl 0 rfl) ?_
    refine lv_iload_n hx hb d_Lw_pointAt_3 rfl (lv_at hl 1 rfl) ?_
    refine lv_iload_n hx hb d_Lw_pointAt_4 rfl (lv_at hl 2 rfl) ?_
    refine rt_Ir_pointAt hF hK hP hL (fun q h9 => Or.inl h9) hS hlt hz0 h hN m_543 hl.1 ⟨Nat.le_of_ble_eq_true rfl, Nat.le_of_ble_eq_true rfl⟩ ⟨Nat.le_refl _, Nat.le_refl _⟩ (Nat.le_of_ble_eq_true rfl) d_Lw_pointAt_5 (fun ce q H locs hP hz1 hk1 hS hce hcv hcl => ?_)
    have hO : va_P (dC, dI) classes [(qo, .inl (cO, 1, .inr (.inl fo)))] H := hO.kept (fun k q h9 => hk1 q.1 ((hO k q h9).lt) (by have hk := (List.getElem?_eq_some_iff.mp h9).1; simp at hk; subst hk; cases h9; exact hqo))
    refine th_catch (own := R_Lw) (name := "java/lang/IllegalArgumentException") hown [] ⟨0, 10, 13, 13⟩ [] htab (fun _ h9 => absurd h9 List.not_mem_nil) rfl (by decide) (hts _ m_531) (va_Nw.use rfl (hK.2 _ mn_24)) hce hcv hcl ?_
    refine lv_astore (lv' := [(4, .ref q), (0, .ref (L 0)), (1, .int a0), (2, .int a1), (3, .ref qo)]) hx hb d_Lw_pointAt_13 hl (by decide) rfl (fun ls hl => ?_)
    refine lv_iconst (v := 1) hx hb d_Lw_pointAt_15 (by decide) ?_
    exact W.iret (v := 1) hx hb hr (fun t ht hW => ⟨⟨1, (((f_Ir_pointAt ar sc a0 a1).2.2.1, (f_Ir_pointAt ar sc a0 a1).2.2.2), fo), rfl, ⟨by rw [hN]; decide, rfl, by rw [hN]; rfl⟩, ⟨by dsimp only; rw [ht]; exact hP, by dsimp only; rw [ht]; exact hO⟩⟩, hS.F ht⟩) hS.2.2 d_Lw_pointAt_16
def kc_due (x : Option String) : Int32 := if x = some "java/lang/IndexOutOfBoundsException" then 1 else 0
abbrev b_Lw_due : ByteArray := method_13_code
def y_Lw_due : MethodName := ⟨R_Lw, "due", "(LInspectRows;II[J)I"⟩
abbrev z_Lw_due : List Cond := Cond.codeWith y_Lw_due b_Lw_due 5 (some .int) [(0, 10, 13, 15)] :: w_all
theorem d_Lw_due_0 : decode b_Lw_due 0 = .ok (.aload_n 3, 1) := by decide +kernel
theorem d_Lw_due_1 : decode b_Lw_due 1 = .ok (.iconst 0, 1) := by decide +kernel
theorem d_Lw_due_2 : decode b_Lw_due 2 = .ok (.aload_n 0, 1) := by decide +kernel
theorem d_Lw_due_3 : decode b_Lw_due 3 = .ok (.iload_n 1, 1) := by decide +kernel
theorem d_Lw_due_4 : decode b_Lw_due 4 = .ok (.iload_n 2, 1) := by decide +kernel
theorem d_Lw_due_5 : decode b_Lw_due 5 = .ok (.invokevirtual 53, 3) := by decide +kernel
theorem d_Lw_due_8 : decode b_Lw_due 8 = .ok (.i2l, 1) := by decide +kernel
theorem d_Lw_due_9 : decode b_Lw_due 9 = .ok (.lastore, 1) := by decide +kernel
theorem d_Lw_due_10 : decode b_Lw_due 10 = .ok (.goto 7, 3) := by decide +kernel
theorem d_Lw_due_13 : decode b_Lw_due 13 = .ok (.astore 4, 2) := by decide +kernel
theorem d_Lw_due_15 : decode b_Lw_due 15 = .ok (.iconst 1, 1) := by decide +kernel
theorem d_Lw_due_16 : decode b_Lw_due 16 = .ok (.ireturn, 1) := by decide +kernel
theorem d_Lw_due_17 : decode b_Lw_due 17 = .ok (.iconst 0, 1) := by decide +kernel
theorem d_Lw_due_18 : decode b_Lw_due 18 = .ok (.ireturn, 1) := by decide +kernel
set_option maxHeartbeats 4000000 in
set_option maxRecDepth 100000 in
theorem c_Lw_due (l : Launch) (hlt : l.stackTraces = false) (sa : Nat → Nat) (dC : Nat → ClassId) (dI : Nat → Nat → Nat) (L : Nat → Nat) (cA : Nat → ClassId) (ar : Nat → Nat → Int32) (sc : Nat → Int32) (a0 : Int32) (a1 : Int32) (qo : Nat) (cO : ClassId) (fo : Nat → Int64) (hqo : ¬ aI L qo) (hL : ij 38 L) (h : p_Ir_due ar sc a0 a1) : Met l y_Lw_due z_Lw_due (rmX 9) (va_Pc [.ref (L 0), .int a0, .int a1, .ref qo] (fun U => xw_I dC dI L cA ar sc U ∧ xz_I L sa U ∧ nc_th U ∧ va_P (dC, dI) classes [(qo, .inl (cO, 1, .inr (.inl fo)))] U.heap ∧ va_K (dC, dI) classes [(cO, .long)] U)) (va_Qi (fun (r : Int32) (u : oS × (Nat → Int64)) => r = kc_due (f_Ir_due ar sc a0 a1).1 ∧ u.1 = ((f_Ir_due ar sc a0 a1).2.2.1, (f_Ir_due ar sc a0 a1).2.2.2) ∧ u.2 = if (f_Ir_due ar sc a0 a1).1 = none then vp_updL fo 0 (f_Ir_due ar sc a0 a1).2.1.toInt64 else fo) (fun (u : oS × (Nat → Int64)) t => va_P (dC, dI) classes (wI L cA u.1.1 u.1.2) t.heap ∧ va_P (dC, dI) classes [(qo, .inl (cO, 1, .inr (.inl u.2)))] t.heap) (aO L qo)) 1 6 (aO L qo) := by
  refine va_MetW (cc := b_Lw_due) (maxL := 5) (ret := (some .int)) (hh := [(0, 10, 13, 15)]) (by decide) rfl ?_
  intro p e s m args below meth c s₁ B hml hv
  obtain ⟨rfl, ⟨hP, hK⟩, hz, hnc, hO, hKo⟩ := hv
  have hx := B.exec
  have hb := B.bytes
  have hr := B.returns
  have hts : ∀ w ∈ w_all, w.before _ s = true := fun w hw => atoms_spec (ws := z_Lw_due) B.pre w (List.mem_cons_of_mem _ hw)
  have hown : s.vm.findClass R_Lw = some m.cls := findClass_of_methodNamed B.named
  have hlocks := B.notSynchronized
  have hF : CallFix p m c b_Lw_due 5 s _ w_all R_Lw := ⟨hx, hb, hml, hown, hts⟩
  have htab : c.exceptionTable.toList = tableOf [(0, 10, 13, 15)] := tb_of B (atoms_spec (ws := z_Lw_due) B.pre _ List.mem_cons_self)
  have hS : va_S (aO L qo) s.heap s.heap [] := va_S.rf
  have hz0 : zx_I sa (aI L) (hpt s.heap s) := hz
  have hl := lv_entry ([.ref (L 0), .int a0, .int a1, .ref qo]) (n := 5) (Nat.le_of_ble_eq_true rfl)
  rw [lg_entry_eq]
  generalize (lg_sl ([.ref (L 0), .int a0, .int a1, .ref qo]) ++ List.replicate (5 - (lg_sl ([.ref (L 0), .int a0, .int a1, .ref qo])).length) Slot.unset).toArray = ls at hl ⊢
  have hl : lv_has ls 5 [(0, .ref (L 0)), (1, .int a0), (2, .int a1), (3, .ref qo)] := hl
  rcases ex_Ir_due ar sc a0 a1 with hN | hN
  · refine lv_aload_n hx hb d_Lw_due_0 rfl (lv_at hl 3 rfl) ?_
    refine lv_iconst (v := 0) hx hb d_Lw_due_1 (by decide) ?_
    refine lv_aload_n hx hb d_Lw_due_2 rfl (lv_at hl 0 rfl) ?_
    refine lv_iload_n hx hb d_Lw_due_3 rfl (lv_at hl 1 rfl) ?_
    refine lv_iload_n hx hb d_Lw_due_4 rfl (lv_at hl 2 rfl) ?_
    refine ro_Ir_due hF hK hP hL (fun q h9 => Or.inl h9) hS hlt hz0 h hN m_544 hl.1 ⟨Nat.le_of_ble_eq_true rfl, Nat.le_of_ble_eq_true rfl⟩ ⟨Nat.le_refl _, Nat.le_refl _⟩ (Nat.le_of_ble_eq_true rfl) d_Lw_due_5 (fun H locs hP hz1 hk1 hS => ?_)
    have hO : va_P (dC, dI) classes [(qo, .inl (cO, 1, .inr (.inl fo)))] H := hO.kept (fun k q h9 => hk1 q.1 ((hO k q h9).lt) (by have hk := (List.getElem?_eq_some_iff.mp h9).1; simp at hk; subst hk; cases h9; exact hqo))
    refine lv_i2l hx hb d_Lw_due_8 rfl ?_
    refine st_out hx hb hKo hO hP hL hqo hS d_Lw_due_9 (fun H locs hO hP hS => ?_)
    refine lv_goto (tgt := 17) hx hb d_Lw_due_10 (by decide) ?_
    refine lv_iconst (v := 0) hx hb d_Lw_due_17 (by decide) ?_
    exact W.iret (v := 0) hx hb hr (fun t ht hW => ⟨⟨0, (((f_Ir_due ar sc a0 a1).2.2.1, (f_Ir_due ar sc a0 a1).2.2.2), vp_updL fo 0 (f_Ir_due ar sc a0 a1).2.1.toInt64), rfl, ⟨by rw [hN]; decide, rfl, by rw [hN]; rfl⟩, ⟨by dsimp only; rw [ht]; exact hP, by dsimp only; rw [ht]; exact hO⟩⟩, hS.F ht⟩) hS.2.2 d_Lw_due_18
  · refine lv_aload_n hx hb d_Lw_due_0 rfl (lv_at hl 3 rfl) ?_
    refine lv_iconst (v := 0) hx hb d_Lw_due_1 (by decide) ?_
    refine lv_aload_n hx hb d_Lw_due_2 rfl (lv_at hl 0 rfl) ?_
    refine lv_iload_n hx hb d_Lw_due_3 rfl (lv_at hl 1 rfl) ?_
    refine lv_iload_n hx hb d_Lw_due_4 rfl (lv_at hl 2 rfl) ?_
    refine rt_Ir_due hF hK hP hL (fun q h9 => Or.inl h9) hS hlt hz0 h hN m_544 hl.1 ⟨Nat.le_of_ble_eq_true rfl, Nat.le_of_ble_eq_true rfl⟩ ⟨Nat.le_refl _, Nat.le_refl _⟩ (Nat.le_of_ble_eq_true rfl) d_Lw_due_5 (fun ce q H locs hP hz1 hk1 hS hce hcv hcl => ?_)
    have hO : va_P (dC, dI) classes [(qo, .inl (cO, 1, .inr (.inl fo)))] H := hO.kept (fun k q h9 => hk1 q.1 ((hO k q h9).lt) (by have hk := (List.getElem?_eq_some_iff.mp h9).1; simp at hk; subst hk; cases h9; exact hqo))
    refine th_catch (own := R_Lw) (name := "java/lang/IndexOutOfBoundsException") hown [] ⟨0, 10, 13, 15⟩ [] htab (fun _ h9 => absurd h9 List.not_mem_nil) rfl (by decide) (hts _ m_532) (va_Nw.use rfl (hK.2 _ mn_25)) hce hcv hcl ?_
    refine lv_astore (lv' := [(4, .ref q), (0, .ref (L 0)), (1, .int a0), (2, .int a1), (3, .ref qo)]) hx hb d_Lw_due_13 hl (by decide) rfl (fun ls hl => ?_)
    refine lv_iconst (v := 1) hx hb d_Lw_due_15 (by decide) ?_
    exact W.iret (v := 1) hx hb hr (fun t ht hW => ⟨⟨1, (((f_Ir_due ar sc a0 a1).2.2.1, (f_Ir_due ar sc a0 a1).2.2.2), fo), rfl, ⟨by rw [hN]; decide, rfl, by rw [hN]; rfl⟩, ⟨by dsimp only; rw [ht]; exact hP, by dsimp only; rw [ht]; exact hO⟩⟩, hS.F ht⟩) hS.2.2 d_Lw_due_16
def kc_question (x : Option String) : Int32 := if x = some "java/lang/IllegalArgumentException" then 1 else if x = some "java/lang/IndexOutOfBoundsException" then 2 else 0
abbrev b_Lw_question : ByteArray := method_14_code
def y_Lw_question : MethodName := ⟨R_Lw, "question", "(LInspectRows;IIII)I"⟩
abbrev z_Lw_question : List Cond := Cond.codeWith y_Lw_question b_Lw_question 6 (some .int) [(0, 9, 12, 13), (0, 9, 16, 15)] :: w_all
theorem d_Lw_question_0 : decode b_Lw_question 0 = .ok (.aload_n 0, 1) := by decide +kernel
theorem d_Lw_question_1 : decode b_Lw_question 1 = .ok (.iload_n 1, 1) := by decide +kernel
theorem d_Lw_question_2 : decode b_Lw_question 2 = .ok (.iload_n 2, 1) := by decide +kernel
theorem d_Lw_question_3 : decode b_Lw_question 3 = .ok (.iload_n 3, 1) := by decide +kernel
theorem d_Lw_question_4 : decode b_Lw_question 4 = .ok (.iload 4, 2) := by decide +kernel
theorem d_Lw_question_6 : decode b_Lw_question 6 = .ok (.invokevirtual 56, 3) := by decide +kernel
theorem d_Lw_question_9 : decode b_Lw_question 9 = .ok (.goto 11, 3) := by decide +kernel
theorem d_Lw_question_12 : decode b_Lw_question 12 = .ok (.astore 5, 2) := by decide +kernel
theorem d_Lw_question_14 : decode b_Lw_question 14 = .ok (.iconst 1, 1) := by decide +kernel
theorem d_Lw_question_15 : decode b_Lw_question 15 = .ok (.ireturn, 1) := by decide +kernel
theorem d_Lw_question_16 : decode b_Lw_question 16 = .ok (.astore 5, 2) := by decide +kernel
theorem d_Lw_question_18 : decode b_Lw_question 18 = .ok (.iconst 2, 1) := by decide +kernel
theorem d_Lw_question_19 : decode b_Lw_question 19 = .ok (.ireturn, 1) := by decide +kernel
theorem d_Lw_question_20 : decode b_Lw_question 20 = .ok (.iconst 0, 1) := by decide +kernel
theorem d_Lw_question_21 : decode b_Lw_question 21 = .ok (.ireturn, 1) := by decide +kernel
set_option maxHeartbeats 4000000 in
set_option maxRecDepth 100000 in
theorem c_Lw_question (l : Launch) (hlt : l.stackTraces = false) (sa : Nat → Nat) (dC : Nat → ClassId) (dI : Nat → Nat → Nat) (L : Nat → Nat) (cA : Nat → ClassId) (ar : Nat → Nat → Int32) (sc : Nat → Int32) (a0 : Int32) (a1 : Int32) (a2 : Int32) (a3 : Int32) (hL : ij 38 L) (h : p_Ir_question ar sc a0 a1 a2 a3) : Met l y_Lw_question z_Lw_question (rmX 9) (va_Pc [.ref (L 0), .int a0, .int a1, .int a2, .int a3] (fun U => xw_I dC dI L cA ar sc U ∧ xz_I L sa U ∧ nc_th U)) (va_Qi (fun (r : Int32) (u : oS) => r = kc_question (f_Ir_question ar sc a0 a1 a2 a3).1 ∧ u = ((f_Ir_question ar sc a0 a1 a2 a3).2.2.1, (f_Ir_question ar sc a0 a1 a2 a3).2.2.2)) (fun (u : oS) t => va_P (dC, dI) classes (wI L cA u.1 u.2) t.heap) (aI L)) 1 6 (aI L) := by
  refine va_MetW (cc := b_Lw_question) (maxL := 6) (ret := (some .int)) (hh := [(0, 9, 12, 13), (0, 9, 16, 15)]) (by decide) rfl ?_
  intro p e s m args below meth c s₁ B hml hv
  obtain ⟨rfl, ⟨hP, hK⟩, hz, hnc⟩ := hv
  have hx := B.exec
  have hb := B.bytes
  have hr := B.returns
  have hts : ∀ w ∈ w_all, w.before _ s = true := fun w hw => atoms_spec (ws := z_Lw_question) B.pre w (List.mem_cons_of_mem _ hw)
  have hown : s.vm.findClass R_Lw = some m.cls := findClass_of_methodNamed B.named
  have hlocks := B.notSynchronized
  have hF : CallFix p m c b_Lw_question 6 s _ w_all R_Lw := ⟨hx, hb, hml, hown, hts⟩
  have htab : c.exceptionTable.toList = tableOf [(0, 9, 12, 13), (0, 9, 16, 15)] := tb_of B (atoms_spec (ws := z_Lw_question) B.pre _ List.mem_cons_self)
  have hS : va_S (aI L) s.heap s.heap [] := va_S.rf
  have hz0 : zx_I sa (aI L) (hpt s.heap s) := hz
  have hl := lv_entry ([.ref (L 0), .int a0, .int a1, .int a2, .int a3]) (n := 6) (Nat.le_of_ble_eq_true rfl)
  rw [lg_entry_eq]
  generalize (lg_sl ([.ref (L 0), .int a0, .int a1, .int a2, .int a3]) ++ List.replicate (6 - (lg_sl ([.ref (L 0), .int a0, .int a1, .int a2, .int a3])).length) Slot.unset).toArray = ls at hl ⊢
  have hl : lv_has ls 6 [(0, .ref (L 0)), (1, .int a0), (2, .int a1), (3, .int a2), (4, .int a3)] := hl
  rcases ex_Ir_question ar sc a0 a1 a2 a3 with hN | hN | hN
  · refine lv_aload_n hx hb d_Lw_question_0 rfl (lv_at hl 0 rfl) ?_
    refine lv_iload_n hx hb d_Lw_question_1 rfl (lv_at hl 1 rfl) ?_
    refine lv_iload_n hx hb d_Lw_question_2 rfl (lv_at hl 2 rfl) ?_
    refine lv_iload_n hx hb d_Lw_question_3 rfl (lv_at hl 3 rfl) ?_
    refine lv_iload hx hb d_Lw_question_4 (lv_at hl 4 rfl) ?_
    refine ro_Ir_question hF hK hP hL (fun q h9 => h9) hS hlt hz0 h hN m_545 hl.1 ⟨Nat.le_of_ble_eq_true rfl, Nat.le_of_ble_eq_true rfl⟩ ⟨Nat.le_refl _, Nat.le_refl _⟩ (Nat.le_of_ble_eq_true rfl) d_Lw_question_6 (fun H locs hP hz1 hk1 hS => ?_)
    refine lv_goto (tgt := 20) hx hb d_Lw_question_9 (by decide) ?_
    refine lv_iconst (v := 0) hx hb d_Lw_question_20 (by decide) ?_
    exact W.iret (v := 0) hx hb hr (fun t ht hW => ⟨⟨0, ((f_Ir_question ar sc a0 a1 a2 a3).2.2.1, (f_Ir_question ar sc a0 a1 a2 a3).2.2.2), rfl, ⟨by rw [hN]; decide, rfl⟩, by dsimp only; rw [ht]; exact hP⟩, hS.F ht⟩) hS.2.2 d_Lw_question_21
  · refine lv_aload_n hx hb d_Lw_question_0 rfl (lv_at hl 0 rfl) ?_
    refine lv_iload_n hx hb d_Lw_question_1 rfl (lv_at hl 1 rfl) ?_
    refine lv_iload_n hx hb d_Lw_question_2 rfl (lv_at hl 2 rfl) ?_
    refine lv_iload_n hx hb d_Lw_question_3 rfl (lv_at hl 3 rfl) ?_
    refine lv_iload hx hb d_Lw_question_4 (lv_at hl 4 rfl) ?_
    refine rt_Ir_question hF hK hP hL (fun q h9 => h9) hS hlt hz0 h hN m_545 hl.1 ⟨Nat.le_of_ble_eq_true rfl, Nat.le_of_ble_eq_true rfl⟩ ⟨Nat.le_refl _, Nat.le_refl _⟩ (Nat.le_of_ble_eq_true rfl) d_Lw_question_6 (fun ce q H locs hP hz1 hk1 hS hce hcv hcl => ?_)
    refine th_catch (own := R_Lw) (name := "java/lang/IllegalArgumentException") hown [] ⟨0, 9, 12, 13⟩ [⟨0, 9, 16, 15⟩] htab (fun _ h9 => absurd h9 List.not_mem_nil) rfl (by decide) (hts _ m_531) (va_Nw.use rfl (hK.2 _ mn_24)) hce hcv hcl ?_
    refine lv_astore (lv' := [(5, .ref q), (0, .ref (L 0)), (1, .int a0), (2, .int a1), (3, .int a2), (4, .int a3)]) hx hb d_Lw_question_12 hl (by decide) rfl (fun ls hl => ?_)
    refine lv_iconst (v := 1) hx hb d_Lw_question_14 (by decide) ?_
    exact W.iret (v := 1) hx hb hr (fun t ht hW => ⟨⟨1, ((f_Ir_question ar sc a0 a1 a2 a3).2.2.1, (f_Ir_question ar sc a0 a1 a2 a3).2.2.2), rfl, ⟨by rw [hN]; decide, rfl⟩, by dsimp only; rw [ht]; exact hP⟩, hS.F ht⟩) hS.2.2 d_Lw_question_15
  · refine lv_aload_n hx hb d_Lw_question_0 rfl (lv_at hl 0 rfl) ?_
    refine lv_iload_n hx hb d_Lw_question_1 rfl (lv_at hl 1 rfl) ?_
    refine lv_iload_n hx hb d_Lw_question_2 rfl (lv_at hl 2 rfl) ?_
    refine lv_iload_n hx hb d_Lw_question_3 rfl (lv_at hl 3 rfl) ?_
    refine lv_iload hx hb d_Lw_question_4 (lv_at hl 4 rfl) ?_
    refine rt_Ir_question hF hK hP hL (fun q h9 => h9) hS hlt hz0 h hN m_545 hl.1 ⟨Nat.le_of_ble_eq_true rfl, Nat.le_of_ble_eq_true rfl⟩ ⟨Nat.le_refl _, Nat.le_refl _⟩ (Nat.le_of_ble_eq_true rfl) d_Lw_question_6 (fun ce q H locs hP hz1 hk1 hS hce hcv hcl => ?_)
    refine th_catch (own := R_Lw) (name := "java/lang/IndexOutOfBoundsException") hown [⟨0, 9, 12, 13⟩] ⟨0, 9, 16, 15⟩ [] htab (List.forall_mem_cons.mpr ⟨⟨by decide, "java/lang/IllegalArgumentException", hts _ m_531, hnc.1⟩, fun _ h9 => absurd h9 List.not_mem_nil⟩) rfl (by decide) (hts _ m_532) (va_Nw.use rfl (hK.2 _ mn_25)) hce hcv hcl ?_
    refine lv_astore (lv' := [(5, .ref q), (0, .ref (L 0)), (1, .int a0), (2, .int a1), (3, .int a2), (4, .int a3)]) hx hb d_Lw_question_16 hl (by decide) rfl (fun ls hl => ?_)
    refine lv_iconst (v := 2) hx hb d_Lw_question_18 (by decide) ?_
    exact W.iret (v := 2) hx hb hr (fun t ht hW => ⟨⟨2, ((f_Ir_question ar sc a0 a1 a2 a3).2.2.1, (f_Ir_question ar sc a0 a1 a2 a3).2.2.2), rfl, ⟨by rw [hN]; decide, rfl⟩, by dsimp only; rw [ht]; exact hP⟩, hS.F ht⟩) hS.2.2 d_Lw_question_19
def kc_list (x : Option String) : Int32 := if x = some "java/lang/IllegalArgumentException" then 1 else if x = some "java/lang/IllegalStateException" then 2 else if x = some "java/lang/UnsupportedOperationException" then 3 else 0
abbrev b_Lw_list : ByteArray := method_15_code
def y_Lw_list : MethodName := ⟨R_Lw, "list", "(LInspectRows;II[J)I"⟩
abbrev z_Lw_list : List Cond := Cond.codeWith y_Lw_list b_Lw_list 5 (some .int) [(0, 10, 13, 13), (0, 10, 17, 44), (0, 10, 21, 28)] :: w_all
theorem d_Lw_list_0 : decode b_Lw_list 0 = .ok (.aload_n 3, 1) := by decide +kernel
theorem d_Lw_list_1 : decode b_Lw_list 1 = .ok (.iconst 0, 1) := by decide +kernel
theorem d_Lw_list_2 : decode b_Lw_list 2 = .ok (.aload_n 0, 1) := by decide +kernel
theorem d_Lw_list_3 : decode b_Lw_list 3 = .ok (.iload_n 1, 1) := by decide +kernel
theorem d_Lw_list_4 : decode b_Lw_list 4 = .ok (.iload_n 2, 1) := by decide +kernel
theorem d_Lw_list_5 : decode b_Lw_list 5 = .ok (.invokevirtual 60, 3) := by decide +kernel
theorem d_Lw_list_8 : decode b_Lw_list 8 = .ok (.i2l, 1) := by decide +kernel
theorem d_Lw_list_9 : decode b_Lw_list 9 = .ok (.lastore, 1) := by decide +kernel
theorem d_Lw_list_10 : decode b_Lw_list 10 = .ok (.goto 15, 3) := by decide +kernel
theorem d_Lw_list_13 : decode b_Lw_list 13 = .ok (.astore 4, 2) := by decide +kernel
theorem d_Lw_list_15 : decode b_Lw_list 15 = .ok (.iconst 1, 1) := by decide +kernel
theorem d_Lw_list_16 : decode b_Lw_list 16 = .ok (.ireturn, 1) := by decide +kernel
theorem d_Lw_list_17 : decode b_Lw_list 17 = .ok (.astore 4, 2) := by decide +kernel
theorem d_Lw_list_19 : decode b_Lw_list 19 = .ok (.iconst 2, 1) := by decide +kernel
theorem d_Lw_list_20 : decode b_Lw_list 20 = .ok (.ireturn, 1) := by decide +kernel
theorem d_Lw_list_21 : decode b_Lw_list 21 = .ok (.astore 4, 2) := by decide +kernel
theorem d_Lw_list_23 : decode b_Lw_list 23 = .ok (.iconst 3, 1) := by decide +kernel
theorem d_Lw_list_24 : decode b_Lw_list 24 = .ok (.ireturn, 1) := by decide +kernel
theorem d_Lw_list_25 : decode b_Lw_list 25 = .ok (.iconst 0, 1) := by decide +kernel
theorem d_Lw_list_26 : decode b_Lw_list 26 = .ok (.ireturn, 1) := by decide +kernel
set_option maxHeartbeats 4000000 in
set_option maxRecDepth 100000 in
theorem c_Lw_list (l : Launch) (hlt : l.stackTraces = false) (sa : Nat → Nat) (dC : Nat → ClassId) (dI : Nat → Nat → Nat) (L : Nat → Nat) (cA : Nat → ClassId) (ar : Nat → Nat → Int32) (sc : Nat → Int32) (a0 : Int32) (a1 : Int32) (qo : Nat) (cO : ClassId) (fo : Nat → Int64) (hqo : ¬ aI L qo) (hL : ij 38 L) (h : p_Ir_list ar sc a0 a1) : Met l y_Lw_list z_Lw_list (rmX 9) (va_Pc [.ref (L 0), .int a0, .int a1, .ref qo] (fun U => xw_I dC dI L cA ar sc U ∧ xz_I L sa U ∧ nc_th U ∧ va_P (dC, dI) classes [(qo, .inl (cO, 1, .inr (.inl fo)))] U.heap ∧ va_K (dC, dI) classes [(cO, .long)] U)) (va_Qi (fun (r : Int32) (u : oS × (Nat → Int64)) => r = kc_list (f_Ir_list ar sc a0 a1).1 ∧ u.1 = ((f_Ir_list ar sc a0 a1).2.2.1, (f_Ir_list ar sc a0 a1).2.2.2) ∧ u.2 = if (f_Ir_list ar sc a0 a1).1 = none then vp_updL fo 0 (f_Ir_list ar sc a0 a1).2.1.toInt64 else fo) (fun (u : oS × (Nat → Int64)) t => va_P (dC, dI) classes (wI L cA u.1.1 u.1.2) t.heap ∧ va_P (dC, dI) classes [(qo, .inl (cO, 1, .inr (.inl u.2)))] t.heap) (aO L qo)) 1 6 (aO L qo) := by
  refine va_MetW (cc := b_Lw_list) (maxL := 5) (ret := (some .int)) (hh := [(0, 10, 13, 13), (0, 10, 17, 44), (0, 10, 21, 28)]) (by decide) rfl ?_
  intro p e s m args below meth c s₁ B hml hv
  obtain ⟨rfl, ⟨hP, hK⟩, hz, hnc, hO, hKo⟩ := hv
  have hx := B.exec
  have hb := B.bytes
  have hr := B.returns
  have hts : ∀ w ∈ w_all, w.before _ s = true := fun w hw => atoms_spec (ws := z_Lw_list) B.pre w (List.mem_cons_of_mem _ hw)
  have hown : s.vm.findClass R_Lw = some m.cls := findClass_of_methodNamed B.named
  have hlocks := B.notSynchronized
  have hF : CallFix p m c b_Lw_list 5 s _ w_all R_Lw := ⟨hx, hb, hml, hown, hts⟩
  have htab : c.exceptionTable.toList = tableOf [(0, 10, 13, 13), (0, 10, 17, 44), (0, 10, 21, 28)] := tb_of B (atoms_spec (ws := z_Lw_list) B.pre _ List.mem_cons_self)
  have hS : va_S (aO L qo) s.heap s.heap [] := va_S.rf
  have hz0 : zx_I sa (aI L) (hpt s.heap s) := hz
  have hl := lv_entry ([.ref (L 0), .int a0, .int a1, .ref qo]) (n := 5) (Nat.le_of_ble_eq_true rfl)
  rw [lg_entry_eq]
  generalize (lg_sl ([.ref (L 0), .int a0, .int a1, .ref qo]) ++ List.replicate (5 - (lg_sl ([.ref (L 0), .int a0, .int a1, .ref qo])).length) Slot.unset).toArray = ls at hl ⊢
  have hl : lv_has ls 5 [(0, .ref (L 0)), (1, .int a0), (2, .int a1), (3, .ref qo)] := hl
  rcases ex_Ir_list ar sc a0 a1 with hN | hN | hN | hN
  · refine lv_aload_n hx hb d_Lw_list_0 rfl (lv_at hl 3 rfl) ?_
    refine lv_iconst (v := 0) hx hb d_Lw_list_1 (by decide) ?_
    refine lv_aload_n hx hb d_Lw_list_2 rfl (lv_at hl 0 rfl) ?_
    refine lv_iload_n hx hb d_Lw_list_3 rfl (lv_at hl 1 rfl) ?_
    refine lv_iload_n hx hb d_Lw_list_4 rfl (lv_at hl 2 rfl) ?_
    refine ro_Ir_list hF hK hP hL (fun q h9 => Or.inl h9) hS hlt hz0 h hN m_546 hl.1 ⟨Nat.le_of_ble_eq_true rfl, Nat.le_of_ble_eq_true rfl⟩ ⟨Nat.le_refl _, Nat.le_refl _⟩ (Nat.le_of_ble_eq_true rfl) d_Lw_list_5 (fun H locs hP hz1 hk1 hS => ?_)
    have hO : va_P (dC, dI) classes [(qo, .inl (cO, 1, .inr (.inl fo)))] H := hO.kept (fun k q h9 => hk1 q.1 ((hO k q h9).lt) (by have hk := (List.getElem?_eq_some_iff.mp h9).1; simp at hk; subst hk; cases h9; exact hqo))
    refine lv_i2l hx hb d_Lw_list_8 rfl ?_
    refine st_out hx hb hKo hO hP hL hqo hS d_Lw_list_9 (fun H locs hO hP hS => ?_)
    refine lv_goto (tgt := 25) hx hb d_Lw_list_10 (by decide) ?_
    refine lv_iconst (v := 0) hx hb d_Lw_list_25 (by decide) ?_
    exact W.iret (v := 0) hx hb hr (fun t ht hW => ⟨⟨0, (((f_Ir_list ar sc a0 a1).2.2.1, (f_Ir_list ar sc a0 a1).2.2.2), vp_updL fo 0 (f_Ir_list ar sc a0 a1).2.1.toInt64), rfl, ⟨by rw [hN]; decide, rfl, by rw [hN]; rfl⟩, ⟨by dsimp only; rw [ht]; exact hP, by dsimp only; rw [ht]; exact hO⟩⟩, hS.F ht⟩) hS.2.2 d_Lw_list_26
  · refine lv_aload_n hx hb d_Lw_list_0 rfl (lv_at hl 3 rfl) ?_
    refine lv_iconst (v := 0) hx hb d_Lw_list_1 (by decide) ?_
    refine lv_aload_n hx hb d_Lw_list_2 rfl (lv_at hl 0 rfl) ?_
    refine lv_iload_n hx hb d_Lw_list_3 rfl (lv_at hl 1 rfl) ?_
    refine lv_iload_n hx hb d_Lw_list_4 rfl (lv_at hl 2 rfl) ?_
    refine rt_Ir_list hF hK hP hL (fun q h9 => Or.inl h9) hS hlt hz0 h hN m_546 hl.1 ⟨Nat.le_of_ble_eq_true rfl, Nat.le_of_ble_eq_true rfl⟩ ⟨Nat.le_refl _, Nat.le_refl _⟩ (Nat.le_of_ble_eq_true rfl) d_Lw_list_5 (fun ce q H locs hP hz1 hk1 hS hce hcv hcl => ?_)
    have hO : va_P (dC, dI) classes [(qo, .inl (cO, 1, .inr (.inl fo)))] H := hO.kept (fun k q h9 => hk1 q.1 ((hO k q h9).lt) (by have hk := (List.getElem?_eq_some_iff.mp h9).1; simp at hk; subst hk; cases h9; exact hqo))
    refine th_catch (own := R_Lw) (name := "java/lang/IllegalArgumentException") hown [] ⟨0, 10, 13, 13⟩ [⟨0, 10, 17, 44⟩, ⟨0, 10, 21, 28⟩] htab (fun _ h9 => absurd h9 List.not_mem_nil) rfl (by decide) (hts _ m_531) (va_Nw.use rfl (hK.2 _ mn_24)) hce hcv hcl ?_
    refine lv_astore (lv' := [(4, .ref q), (0, .ref (L 0)), (1, .int a0), (2, .int a1), (3, .ref qo)]) hx hb d_Lw_list_13 hl (by decide) rfl (fun ls hl => ?_)
    refine lv_iconst (v := 1) hx hb d_Lw_list_15 (by decide) ?_
    exact W.iret (v := 1) hx hb hr (fun t ht hW => ⟨⟨1, (((f_Ir_list ar sc a0 a1).2.2.1, (f_Ir_list ar sc a0 a1).2.2.2), fo), rfl, ⟨by rw [hN]; decide, rfl, by rw [hN]; rfl⟩, ⟨by dsimp only; rw [ht]; exact hP, by dsimp only; rw [ht]; exact hO⟩⟩, hS.F ht⟩) hS.2.2 d_Lw_list_16
  · refine lv_aload_n hx hb d_Lw_list_0 rfl (lv_at hl 3 rfl) ?_
    refine lv_iconst (v := 0) hx hb d_Lw_list_1 (by decide) ?_
    refine lv_aload_n hx hb d_Lw_list_2 rfl (lv_at hl 0 rfl) ?_
    refine lv_iload_n hx hb d_Lw_list_3 rfl (lv_at hl 1 rfl) ?_
    refine lv_iload_n hx hb d_Lw_list_4 rfl (lv_at hl 2 rfl) ?_
    refine rt_Ir_list hF hK hP hL (fun q h9 => Or.inl h9) hS hlt hz0 h hN m_546 hl.1 ⟨Nat.le_of_ble_eq_true rfl, Nat.le_of_ble_eq_true rfl⟩ ⟨Nat.le_refl _, Nat.le_refl _⟩ (Nat.le_of_ble_eq_true rfl) d_Lw_list_5 (fun ce q H locs hP hz1 hk1 hS hce hcv hcl => ?_)
    have hO : va_P (dC, dI) classes [(qo, .inl (cO, 1, .inr (.inl fo)))] H := hO.kept (fun k q h9 => hk1 q.1 ((hO k q h9).lt) (by have hk := (List.getElem?_eq_some_iff.mp h9).1; simp at hk; subst hk; cases h9; exact hqo))
    refine th_catch (own := R_Lw) (name := "java/lang/IllegalStateException") hown [⟨0, 10, 13, 13⟩] ⟨0, 10, 17, 44⟩ [⟨0, 10, 21, 28⟩] htab (List.forall_mem_cons.mpr ⟨⟨by decide, "java/lang/IllegalArgumentException", hts _ m_531, hnc.2.2.2.1⟩, fun _ h9 => absurd h9 List.not_mem_nil⟩) rfl (by decide) (hts _ m_541) (va_Nw.use rfl (hK.2 _ mn_27)) hce hcv hcl ?_
    refine lv_astore (lv' := [(4, .ref q), (0, .ref (L 0)), (1, .int a0), (2, .int a1), (3, .ref qo)]) hx hb d_Lw_list_17 hl (by decide) rfl (fun ls hl => ?_)
    refine lv_iconst (v := 2) hx hb d_Lw_list_19 (by decide) ?_
    exact W.iret (v := 2) hx hb hr (fun t ht hW => ⟨⟨2, (((f_Ir_list ar sc a0 a1).2.2.1, (f_Ir_list ar sc a0 a1).2.2.2), fo), rfl, ⟨by rw [hN]; decide, rfl, by rw [hN]; rfl⟩, ⟨by dsimp only; rw [ht]; exact hP, by dsimp only; rw [ht]; exact hO⟩⟩, hS.F ht⟩) hS.2.2 d_Lw_list_20
  · refine lv_aload_n hx hb d_Lw_list_0 rfl (lv_at hl 3 rfl) ?_
    refine lv_iconst (v := 0) hx hb d_Lw_list_1 (by decide) ?_
    refine lv_aload_n hx hb d_Lw_list_2 rfl (lv_at hl 0 rfl) ?_
    refine lv_iload_n hx hb d_Lw_list_3 rfl (lv_at hl 1 rfl) ?_
    refine lv_iload_n hx hb d_Lw_list_4 rfl (lv_at hl 2 rfl) ?_
    refine rt_Ir_list hF hK hP hL (fun q h9 => Or.inl h9) hS hlt hz0 h hN m_546 hl.1 ⟨Nat.le_of_ble_eq_true rfl, Nat.le_of_ble_eq_true rfl⟩ ⟨Nat.le_refl _, Nat.le_refl _⟩ (Nat.le_of_ble_eq_true rfl) d_Lw_list_5 (fun ce q H locs hP hz1 hk1 hS hce hcv hcl => ?_)
    have hO : va_P (dC, dI) classes [(qo, .inl (cO, 1, .inr (.inl fo)))] H := hO.kept (fun k q h9 => hk1 q.1 ((hO k q h9).lt) (by have hk := (List.getElem?_eq_some_iff.mp h9).1; simp at hk; subst hk; cases h9; exact hqo))
    refine th_catch (own := R_Lw) (name := "java/lang/UnsupportedOperationException") hown [⟨0, 10, 13, 13⟩, ⟨0, 10, 17, 44⟩] ⟨0, 10, 21, 28⟩ [] htab (List.forall_mem_cons.mpr ⟨⟨by decide, "java/lang/IllegalArgumentException", hts _ m_531, hnc.2.1⟩, List.forall_mem_cons.mpr ⟨⟨by decide, "java/lang/IllegalStateException", hts _ m_541, hnc.2.2.2.2.2⟩, fun _ h9 => absurd h9 List.not_mem_nil⟩⟩) rfl (by decide) (hts _ m_536) (va_Nw.use rfl (hK.2 _ mn_26)) hce hcv hcl ?_
    refine lv_astore (lv' := [(4, .ref q), (0, .ref (L 0)), (1, .int a0), (2, .int a1), (3, .ref qo)]) hx hb d_Lw_list_21 hl (by decide) rfl (fun ls hl => ?_)
    refine lv_iconst (v := 3) hx hb d_Lw_list_23 (by decide) ?_
    exact W.iret (v := 3) hx hb hr (fun t ht hW => ⟨⟨3, (((f_Ir_list ar sc a0 a1).2.2.1, (f_Ir_list ar sc a0 a1).2.2.2), fo), rfl, ⟨by rw [hN]; decide, rfl, by rw [hN]; rfl⟩, ⟨by dsimp only; rw [ht]; exact hP, by dsimp only; rw [ht]; exact hO⟩⟩, hS.F ht⟩) hS.2.2 d_Lw_list_24
def kc_walk (x : Option String) : Int32 := if x = some "java/lang/IllegalArgumentException" then 1 else if x = some "java/lang/IndexOutOfBoundsException" then 2 else 0
abbrev b_Lw_walk : ByteArray := method_16_code
def y_Lw_walk : MethodName := ⟨R_Lw, "walk", "(LInspectRows;JI[J)I"⟩
abbrev z_Lw_walk : List Cond := Cond.codeWith y_Lw_walk b_Lw_walk 6 (some .int) [(0, 11, 14, 13), (0, 11, 18, 15)] :: w_all
theorem d_Lw_walk_0 : decode b_Lw_walk 0 = .ok (.aload 4, 2) := by decide +kernel
theorem d_Lw_walk_2 : decode b_Lw_walk 2 = .ok (.iconst 0, 1) := by decide +kernel
theorem d_Lw_walk_3 : decode b_Lw_walk 3 = .ok (.aload_n 0, 1) := by decide +kernel
theorem d_Lw_walk_4 : decode b_Lw_walk 4 = .ok (.lload_n 1, 1) := by decide +kernel
theorem d_Lw_walk_5 : decode b_Lw_walk 5 = .ok (.iload_n 3, 1) := by decide +kernel
theorem d_Lw_walk_6 : decode b_Lw_walk 6 = .ok (.invokevirtual 63, 3) := by decide +kernel
theorem d_Lw_walk_9 : decode b_Lw_walk 9 = .ok (.i2l, 1) := by decide +kernel
theorem d_Lw_walk_10 : decode b_Lw_walk 10 = .ok (.lastore, 1) := by decide +kernel
theorem d_Lw_walk_11 : decode b_Lw_walk 11 = .ok (.goto 11, 3) := by decide +kernel
theorem d_Lw_walk_14 : decode b_Lw_walk 14 = .ok (.astore 5, 2) := by decide +kernel
theorem d_Lw_walk_16 : decode b_Lw_walk 16 = .ok (.iconst 1, 1) := by decide +kernel
theorem d_Lw_walk_17 : decode b_Lw_walk 17 = .ok (.ireturn, 1) := by decide +kernel
theorem d_Lw_walk_18 : decode b_Lw_walk 18 = .ok (.astore 5, 2) := by decide +kernel
theorem d_Lw_walk_20 : decode b_Lw_walk 20 = .ok (.iconst 2, 1) := by decide +kernel
theorem d_Lw_walk_21 : decode b_Lw_walk 21 = .ok (.ireturn, 1) := by decide +kernel
theorem d_Lw_walk_22 : decode b_Lw_walk 22 = .ok (.iconst 0, 1) := by decide +kernel
theorem d_Lw_walk_23 : decode b_Lw_walk 23 = .ok (.ireturn, 1) := by decide +kernel
set_option maxHeartbeats 4000000 in
set_option maxRecDepth 100000 in
theorem c_Lw_walk (l : Launch) (hlt : l.stackTraces = false) (sa : Nat → Nat) (dC : Nat → ClassId) (dI : Nat → Nat → Nat) (L : Nat → Nat) (cA : Nat → ClassId) (ar : Nat → Nat → Int32) (sc : Nat → Int32) (a0 : Int64) (a1 : Int32) (qo : Nat) (cO : ClassId) (fo : Nat → Int64) (hqo : ¬ aI L qo) (hL : ij 38 L) (h : p_Ir_walk ar sc a0 a1) : Met l y_Lw_walk z_Lw_walk (rmX 9) (va_Pc [.ref (L 0), .long a0, .int a1, .ref qo] (fun U => xw_I dC dI L cA ar sc U ∧ xz_I L sa U ∧ nc_th U ∧ va_P (dC, dI) classes [(qo, .inl (cO, 1, .inr (.inl fo)))] U.heap ∧ va_K (dC, dI) classes [(cO, .long)] U)) (va_Qi (fun (r : Int32) (u : oS × (Nat → Int64)) => r = kc_walk (f_Ir_walk ar sc a0 a1).1 ∧ u.1 = ((f_Ir_walk ar sc a0 a1).2.2.1, (f_Ir_walk ar sc a0 a1).2.2.2) ∧ u.2 = if (f_Ir_walk ar sc a0 a1).1 = none then vp_updL fo 0 (f_Ir_walk ar sc a0 a1).2.1.toInt64 else fo) (fun (u : oS × (Nat → Int64)) t => va_P (dC, dI) classes (wI L cA u.1.1 u.1.2) t.heap ∧ va_P (dC, dI) classes [(qo, .inl (cO, 1, .inr (.inl u.2)))] t.heap) (aO L qo)) 1 6 (aO L qo) := by
  refine va_MetW (cc := b_Lw_walk) (maxL := 6) (ret := (some .int)) (hh := [(0, 11, 14, 13), (0, 11, 18, 15)]) (by decide) rfl ?_
  intro p e s m args below meth c s₁ B hml hv
  obtain ⟨rfl, ⟨hP, hK⟩, hz, hnc, hO, hKo⟩ := hv
  have hx := B.exec
  have hb := B.bytes
  have hr := B.returns
  have hts : ∀ w ∈ w_all, w.before _ s = true := fun w hw => atoms_spec (ws := z_Lw_walk) B.pre w (List.mem_cons_of_mem _ hw)
  have hown : s.vm.findClass R_Lw = some m.cls := findClass_of_methodNamed B.named
  have hlocks := B.notSynchronized
  have hF : CallFix p m c b_Lw_walk 6 s _ w_all R_Lw := ⟨hx, hb, hml, hown, hts⟩
  have htab : c.exceptionTable.toList = tableOf [(0, 11, 14, 13), (0, 11, 18, 15)] := tb_of B (atoms_spec (ws := z_Lw_walk) B.pre _ List.mem_cons_self)
  have hS : va_S (aO L qo) s.heap s.heap [] := va_S.rf
  have hz0 : zx_I sa (aI L) (hpt s.heap s) := hz
  have hl := lv_entry ([.ref (L 0), .long a0, .int a1, .ref qo]) (n := 6) (Nat.le_of_ble_eq_true rfl)
  rw [lg_entry_eq]
  generalize (lg_sl ([.ref (L 0), .long a0, .int a1, .ref qo]) ++ List.replicate (6 - (lg_sl ([.ref (L 0), .long a0, .int a1, .ref qo])).length) Slot.unset).toArray = ls at hl ⊢
  have hl : lv_has ls 6 [(0, .ref (L 0)), (1, .long a0), (3, .int a1), (4, .ref qo)] := hl
  rcases ex_Ir_walk ar sc a0 a1 with hN | hN | hN
  · refine lv_aload hx hb d_Lw_walk_0 (lv_at hl 3 rfl) ?_
    refine lv_iconst (v := 0) hx hb d_Lw_walk_2 (by decide) ?_
    refine lv_aload_n hx hb d_Lw_walk_3 rfl (lv_at hl 0 rfl) ?_
    refine lv_lload_n hx hb d_Lw_walk_4 rfl (lv_at hl 1 rfl) ?_
    refine lv_iload_n hx hb d_Lw_walk_5 rfl (lv_at hl 2 rfl) ?_
    refine ro_Ir_walk hF hK hP hL (fun q h9 => Or.inl h9) hS hlt hz0 h hN m_547 hl.1 ⟨Nat.le_of_ble_eq_true rfl, Nat.le_of_ble_eq_true rfl⟩ ⟨Nat.le_refl _, Nat.le_refl _⟩ (Nat.le_of_ble_eq_true rfl) d_Lw_walk_6 (fun H locs hP hz1 hk1 hS => ?_)
    have hO : va_P (dC, dI) classes [(qo, .inl (cO, 1, .inr (.inl fo)))] H := hO.kept (fun k q h9 => hk1 q.1 ((hO k q h9).lt) (by have hk := (List.getElem?_eq_some_iff.mp h9).1; simp at hk; subst hk; cases h9; exact hqo))
    refine lv_i2l hx hb d_Lw_walk_9 rfl ?_
    refine st_out hx hb hKo hO hP hL hqo hS d_Lw_walk_10 (fun H locs hO hP hS => ?_)
    refine lv_goto (tgt := 22) hx hb d_Lw_walk_11 (by decide) ?_
    refine lv_iconst (v := 0) hx hb d_Lw_walk_22 (by decide) ?_
    exact W.iret (v := 0) hx hb hr (fun t ht hW => ⟨⟨0, (((f_Ir_walk ar sc a0 a1).2.2.1, (f_Ir_walk ar sc a0 a1).2.2.2), vp_updL fo 0 (f_Ir_walk ar sc a0 a1).2.1.toInt64), rfl, ⟨by rw [hN]; decide, rfl, by rw [hN]; rfl⟩, ⟨by dsimp only; rw [ht]; exact hP, by dsimp only; rw [ht]; exact hO⟩⟩, hS.F ht⟩) hS.2.2 d_Lw_walk_23
  · refine lv_aload hx hb d_Lw_walk_0 (lv_at hl 3 rfl) ?_
    refine lv_iconst (v := 0) hx hb d_Lw_walk_2 (by decide) ?_
    refine lv_aload_n hx hb d_Lw_walk_3 rfl (lv_at hl 0 rfl) ?_
    refine lv_lload_n hx hb d_Lw_walk_4 rfl (lv_at hl 1 rfl) ?_
    refine lv_iload_n hx hb d_Lw_walk_5 rfl (lv_at hl 2 rfl) ?_
    refine rt_Ir_walk hF hK hP hL (fun q h9 => Or.inl h9) hS hlt hz0 h hN m_547 hl.1 ⟨Nat.le_of_ble_eq_true rfl, Nat.le_of_ble_eq_true rfl⟩ ⟨Nat.le_refl _, Nat.le_refl _⟩ (Nat.le_of_ble_eq_true rfl) d_Lw_walk_6 (fun ce q H locs hP hz1 hk1 hS hce hcv hcl => ?_)
    have hO : va_P (dC, dI) classes [(qo, .inl (cO, 1, .inr (.inl fo)))] H := hO.kept (fun k q h9 => hk1 q.1 ((hO k q h9).lt) (by have hk := (List.getElem?_eq_some_iff.mp h9).1; simp at hk; subst hk; cases h9; exact hqo))
    refine th_catch (own := R_Lw) (name := "java/lang/IllegalArgumentException") hown [] ⟨0, 11, 14, 13⟩ [⟨0, 11, 18, 15⟩] htab (fun _ h9 => absurd h9 List.not_mem_nil) rfl (by decide) (hts _ m_531) (va_Nw.use rfl (hK.2 _ mn_24)) hce hcv hcl ?_
    refine lv_astore (lv' := [(5, .ref q), (0, .ref (L 0)), (1, .long a0), (3, .int a1), (4, .ref qo)]) hx hb d_Lw_walk_14 hl (by decide) rfl (fun ls hl => ?_)
    refine lv_iconst (v := 1) hx hb d_Lw_walk_16 (by decide) ?_
    exact W.iret (v := 1) hx hb hr (fun t ht hW => ⟨⟨1, (((f_Ir_walk ar sc a0 a1).2.2.1, (f_Ir_walk ar sc a0 a1).2.2.2), fo), rfl, ⟨by rw [hN]; decide, rfl, by rw [hN]; rfl⟩, ⟨by dsimp only; rw [ht]; exact hP, by dsimp only; rw [ht]; exact hO⟩⟩, hS.F ht⟩) hS.2.2 d_Lw_walk_17
  · refine lv_aload hx hb d_Lw_walk_0 (lv_at hl 3 rfl) ?_
    refine lv_iconst (v := 0) hx hb d_Lw_walk_2 (by decide) ?_
    refine lv_aload_n hx hb d_Lw_walk_3 rfl (lv_at hl 0 rfl) ?_
    refine lv_lload_n hx hb d_Lw_walk_4 rfl (lv_at hl 1 rfl) ?_
    refine lv_iload_n hx hb d_Lw_walk_5 rfl (lv_at hl 2 rfl) ?_
    refine rt_Ir_walk hF hK hP hL (fun q h9 => Or.inl h9) hS hlt hz0 h hN m_547 hl.1 ⟨Nat.le_of_ble_eq_true rfl, Nat.le_of_ble_eq_true rfl⟩ ⟨Nat.le_refl _, Nat.le_refl _⟩ (Nat.le_of_ble_eq_true rfl) d_Lw_walk_6 (fun ce q H locs hP hz1 hk1 hS hce hcv hcl => ?_)
    have hO : va_P (dC, dI) classes [(qo, .inl (cO, 1, .inr (.inl fo)))] H := hO.kept (fun k q h9 => hk1 q.1 ((hO k q h9).lt) (by have hk := (List.getElem?_eq_some_iff.mp h9).1; simp at hk; subst hk; cases h9; exact hqo))
    refine th_catch (own := R_Lw) (name := "java/lang/IndexOutOfBoundsException") hown [⟨0, 11, 14, 13⟩] ⟨0, 11, 18, 15⟩ [] htab (List.forall_mem_cons.mpr ⟨⟨by decide, "java/lang/IllegalArgumentException", hts _ m_531, hnc.1⟩, fun _ h9 => absurd h9 List.not_mem_nil⟩) rfl (by decide) (hts _ m_532) (va_Nw.use rfl (hK.2 _ mn_25)) hce hcv hcl ?_
    refine lv_astore (lv' := [(5, .ref q), (0, .ref (L 0)), (1, .long a0), (3, .int a1), (4, .ref qo)]) hx hb d_Lw_walk_18 hl (by decide) rfl (fun ls hl => ?_)
    refine lv_iconst (v := 2) hx hb d_Lw_walk_20 (by decide) ?_
    exact W.iret (v := 2) hx hb hr (fun t ht hW => ⟨⟨2, (((f_Ir_walk ar sc a0 a1).2.2.1, (f_Ir_walk ar sc a0 a1).2.2.2), fo), rfl, ⟨by rw [hN]; decide, rfl, by rw [hN]; rfl⟩, ⟨by dsimp only; rw [ht]; exact hP, by dsimp only; rw [ht]; exact hO⟩⟩, hS.F ht⟩) hS.2.2 d_Lw_walk_21
def kc_stop (x : Option String) : Int32 := if x = some "java/lang/IndexOutOfBoundsException" then 1 else 0
abbrev b_Lw_stop : ByteArray := method_17_code
def y_Lw_stop : MethodName := ⟨R_Lw, "stop", "(LInspectRows;I[J)I"⟩
abbrev z_Lw_stop : List Cond := Cond.codeWith y_Lw_stop b_Lw_stop 4 (some .int) [(0, 9, 12, 15)] :: w_all
theorem d_Lw_stop_0 : decode b_Lw_stop 0 = .ok (.aload_n 2, 1) := by decide +kernel
theorem d_Lw_stop_1 : decode b_Lw_stop 1 = .ok (.iconst 0, 1) := by decide +kernel
theorem d_Lw_stop_2 : decode b_Lw_stop 2 = .ok (.aload_n 0, 1) := by decide +kernel
theorem d_Lw_stop_3 : decode b_Lw_stop 3 = .ok (.iload_n 1, 1) := by decide +kernel
theorem d_Lw_stop_4 : decode b_Lw_stop 4 = .ok (.invokevirtual 67, 3) := by decide +kernel
theorem d_Lw_stop_7 : decode b_Lw_stop 7 = .ok (.i2l, 1) := by decide +kernel
theorem d_Lw_stop_8 : decode b_Lw_stop 8 = .ok (.lastore, 1) := by decide +kernel
theorem d_Lw_stop_9 : decode b_Lw_stop 9 = .ok (.goto 6, 3) := by decide +kernel
theorem d_Lw_stop_12 : decode b_Lw_stop 12 = .ok (.astore_n 3, 1) := by decide +kernel
theorem d_Lw_stop_13 : decode b_Lw_stop 13 = .ok (.iconst 1, 1) := by decide +kernel
theorem d_Lw_stop_14 : decode b_Lw_stop 14 = .ok (.ireturn, 1) := by decide +kernel
theorem d_Lw_stop_15 : decode b_Lw_stop 15 = .ok (.iconst 0, 1) := by decide +kernel
theorem d_Lw_stop_16 : decode b_Lw_stop 16 = .ok (.ireturn, 1) := by decide +kernel
set_option maxHeartbeats 4000000 in
set_option maxRecDepth 100000 in
theorem c_Lw_stop (l : Launch) (hlt : l.stackTraces = false) (sa : Nat → Nat) (dC : Nat → ClassId) (dI : Nat → Nat → Nat) (L : Nat → Nat) (cA : Nat → ClassId) (ar : Nat → Nat → Int32) (sc : Nat → Int32) (a0 : Int32) (qo : Nat) (cO : ClassId) (fo : Nat → Int64) (hqo : ¬ aI L qo) (hL : ij 38 L) (h : p_Ir_stop ar sc a0) : Met l y_Lw_stop z_Lw_stop (rmX 9) (va_Pc [.ref (L 0), .int a0, .ref qo] (fun U => xw_I dC dI L cA ar sc U ∧ xz_I L sa U ∧ nc_th U ∧ va_P (dC, dI) classes [(qo, .inl (cO, 1, .inr (.inl fo)))] U.heap ∧ va_K (dC, dI) classes [(cO, .long)] U)) (va_Qi (fun (r : Int32) (u : oS × (Nat → Int64)) => r = kc_stop (f_Ir_stop ar sc a0).1 ∧ u.1 = ((f_Ir_stop ar sc a0).2.2.1, (f_Ir_stop ar sc a0).2.2.2) ∧ u.2 = if (f_Ir_stop ar sc a0).1 = none then vp_updL fo 0 (f_Ir_stop ar sc a0).2.1.toInt64 else fo) (fun (u : oS × (Nat → Int64)) t => va_P (dC, dI) classes (wI L cA u.1.1 u.1.2) t.heap ∧ va_P (dC, dI) classes [(qo, .inl (cO, 1, .inr (.inl u.2)))] t.heap) (aO L qo)) 1 6 (aO L qo) := by
  refine va_MetW (cc := b_Lw_stop) (maxL := 4) (ret := (some .int)) (hh := [(0, 9, 12, 15)]) (by decide) rfl ?_
  intro p e s m args below meth c s₁ B hml hv
  obtain ⟨rfl, ⟨hP, hK⟩, hz, hnc, hO, hKo⟩ := hv
  have hx := B.exec
  have hb := B.bytes
  have hr := B.returns
  have hts : ∀ w ∈ w_all, w.before _ s = true := fun w hw => atoms_spec (ws := z_Lw_stop) B.pre w (List.mem_cons_of_mem _ hw)
  have hown : s.vm.findClass R_Lw = some m.cls := findClass_of_methodNamed B.named
  have hlocks := B.notSynchronized
  have hF : CallFix p m c b_Lw_stop 4 s _ w_all R_Lw := ⟨hx, hb, hml, hown, hts⟩
  have htab : c.exceptionTable.toList = tableOf [(0, 9, 12, 15)] := tb_of B (atoms_spec (ws := z_Lw_stop) B.pre _ List.mem_cons_self)
  have hS : va_S (aO L qo) s.heap s.heap [] := va_S.rf
  have hz0 : zx_I sa (aI L) (hpt s.heap s) := hz
  have hl := lv_entry ([.ref (L 0), .int a0, .ref qo]) (n := 4) (Nat.le_of_ble_eq_true rfl)
  rw [lg_entry_eq]
  generalize (lg_sl ([.ref (L 0), .int a0, .ref qo]) ++ List.replicate (4 - (lg_sl ([.ref (L 0), .int a0, .ref qo])).length) Slot.unset).toArray = ls at hl ⊢
  have hl : lv_has ls 4 [(0, .ref (L 0)), (1, .int a0), (2, .ref qo)] := hl
  rcases ex_Ir_stop ar sc a0 with hN | hN
  · refine lv_aload_n hx hb d_Lw_stop_0 rfl (lv_at hl 2 rfl) ?_
    refine lv_iconst (v := 0) hx hb d_Lw_stop_1 (by decide) ?_
    refine lv_aload_n hx hb d_Lw_stop_2 rfl (lv_at hl 0 rfl) ?_
    refine lv_iload_n hx hb d_Lw_stop_3 rfl (lv_at hl 1 rfl) ?_
    refine ro_Ir_stop hF hK hP hL (fun q h9 => Or.inl h9) hS hlt hz0 h hN m_548 hl.1 ⟨Nat.le_of_ble_eq_true rfl, Nat.le_of_ble_eq_true rfl⟩ ⟨Nat.le_refl _, Nat.le_refl _⟩ (Nat.le_of_ble_eq_true rfl) d_Lw_stop_4 (fun H locs hP hz1 hk1 hS => ?_)
    have hO : va_P (dC, dI) classes [(qo, .inl (cO, 1, .inr (.inl fo)))] H := hO.kept (fun k q h9 => hk1 q.1 ((hO k q h9).lt) (by have hk := (List.getElem?_eq_some_iff.mp h9).1; simp at hk; subst hk; cases h9; exact hqo))
    refine lv_i2l hx hb d_Lw_stop_7 rfl ?_
    refine st_out hx hb hKo hO hP hL hqo hS d_Lw_stop_8 (fun H locs hO hP hS => ?_)
    refine lv_goto (tgt := 15) hx hb d_Lw_stop_9 (by decide) ?_
    refine lv_iconst (v := 0) hx hb d_Lw_stop_15 (by decide) ?_
    exact W.iret (v := 0) hx hb hr (fun t ht hW => ⟨⟨0, (((f_Ir_stop ar sc a0).2.2.1, (f_Ir_stop ar sc a0).2.2.2), vp_updL fo 0 (f_Ir_stop ar sc a0).2.1.toInt64), rfl, ⟨by rw [hN]; decide, rfl, by rw [hN]; rfl⟩, ⟨by dsimp only; rw [ht]; exact hP, by dsimp only; rw [ht]; exact hO⟩⟩, hS.F ht⟩) hS.2.2 d_Lw_stop_16
  · refine lv_aload_n hx hb d_Lw_stop_0 rfl (lv_at hl 2 rfl) ?_
    refine lv_iconst (v := 0) hx hb d_Lw_stop_1 (by decide) ?_
    refine lv_aload_n hx hb d_Lw_stop_2 rfl (lv_at hl 0 rfl) ?_
    refine lv_iload_n hx hb d_Lw_stop_3 rfl (lv_at hl 1 rfl) ?_
    refine rt_Ir_stop hF hK hP hL (fun q h9 => Or.inl h9) hS hlt hz0 h hN m_548 hl.1 ⟨Nat.le_of_ble_eq_true rfl, Nat.le_of_ble_eq_true rfl⟩ ⟨Nat.le_refl _, Nat.le_refl _⟩ (Nat.le_of_ble_eq_true rfl) d_Lw_stop_4 (fun ce q H locs hP hz1 hk1 hS hce hcv hcl => ?_)
    have hO : va_P (dC, dI) classes [(qo, .inl (cO, 1, .inr (.inl fo)))] H := hO.kept (fun k q h9 => hk1 q.1 ((hO k q h9).lt) (by have hk := (List.getElem?_eq_some_iff.mp h9).1; simp at hk; subst hk; cases h9; exact hqo))
    refine th_catch (own := R_Lw) (name := "java/lang/IndexOutOfBoundsException") hown [] ⟨0, 9, 12, 15⟩ [] htab (fun _ h9 => absurd h9 List.not_mem_nil) rfl (by decide) (hts _ m_532) (va_Nw.use rfl (hK.2 _ mn_25)) hce hcv hcl ?_
    refine lv_astore_n (lv' := [(3, .ref q), (0, .ref (L 0)), (1, .int a0), (2, .ref qo)]) hx hb d_Lw_stop_12 rfl hl (by decide) rfl (fun ls hl => ?_)
    refine lv_iconst (v := 1) hx hb d_Lw_stop_13 (by decide) ?_
    exact W.iret (v := 1) hx hb hr (fun t ht hW => ⟨⟨1, (((f_Ir_stop ar sc a0).2.2.1, (f_Ir_stop ar sc a0).2.2.2), fo), rfl, ⟨by rw [hN]; decide, rfl, by rw [hN]; rfl⟩, ⟨by dsimp only; rw [ht]; exact hP, by dsimp only; rw [ht]; exact hO⟩⟩, hS.F ht⟩) hS.2.2 d_Lw_stop_14
def kc_rules (x : Option String) : Int32 := if x = some "java/lang/IndexOutOfBoundsException" then 1 else 0
abbrev b_Lw_rules : ByteArray := method_18_code
def y_Lw_rules : MethodName := ⟨R_Lw, "rules", "(LInspectRows;II)I"⟩
abbrev z_Lw_rules : List Cond := Cond.codeWith y_Lw_rules b_Lw_rules 4 (some .int) [(0, 6, 9, 15)] :: w_all
theorem d_Lw_rules_0 : decode b_Lw_rules 0 = .ok (.aload_n 0, 1) := by decide +kernel
theorem d_Lw_rules_1 : decode b_Lw_rules 1 = .ok (.iload_n 1, 1) := by decide +kernel
theorem d_Lw_rules_2 : decode b_Lw_rules 2 = .ok (.iload_n 2, 1) := by decide +kernel
theorem d_Lw_rules_3 : decode b_Lw_rules 3 = .ok (.invokevirtual 71, 3) := by decide +kernel
theorem d_Lw_rules_6 : decode b_Lw_rules 6 = .ok (.goto 6, 3) := by decide +kernel
theorem d_Lw_rules_9 : decode b_Lw_rules 9 = .ok (.astore_n 3, 1) := by decide +kernel
theorem d_Lw_rules_10 : decode b_Lw_rules 10 = .ok (.iconst 1, 1) := by decide +kernel
theorem d_Lw_rules_11 : decode b_Lw_rules 11 = .ok (.ireturn, 1) := by decide +kernel
theorem d_Lw_rules_12 : decode b_Lw_rules 12 = .ok (.iconst 0, 1) := by decide +kernel
theorem d_Lw_rules_13 : decode b_Lw_rules 13 = .ok (.ireturn, 1) := by decide +kernel
set_option maxHeartbeats 4000000 in
set_option maxRecDepth 100000 in
theorem c_Lw_rules (l : Launch) (hlt : l.stackTraces = false) (sa : Nat → Nat) (dC : Nat → ClassId) (dI : Nat → Nat → Nat) (L : Nat → Nat) (cA : Nat → ClassId) (ar : Nat → Nat → Int32) (sc : Nat → Int32) (a0 : Int32) (a1 : Int32) (hL : ij 38 L) : Met l y_Lw_rules z_Lw_rules (rmX 9) (va_Pc [.ref (L 0), .int a0, .int a1] (fun U => xw_I dC dI L cA ar sc U ∧ xz_I L sa U ∧ nc_th U)) (va_Qi (fun (r : Int32) (u : oS) => r = kc_rules (f_Ir_rules ar sc a0 a1).1 ∧ u = ((f_Ir_rules ar sc a0 a1).2.2.1, (f_Ir_rules ar sc a0 a1).2.2.2)) (fun (u : oS) t => va_P (dC, dI) classes (wI L cA u.1 u.2) t.heap) (aI L)) 1 6 (aI L) := by
  refine va_MetW (cc := b_Lw_rules) (maxL := 4) (ret := (some .int)) (hh := [(0, 6, 9, 15)]) (by decide) rfl ?_
  intro p e s m args below meth c s₁ B hml hv
  obtain ⟨rfl, ⟨hP, hK⟩, hz, hnc⟩ := hv
  have hx := B.exec
  have hb := B.bytes
  have hr := B.returns
  have hts : ∀ w ∈ w_all, w.before _ s = true := fun w hw => atoms_spec (ws := z_Lw_rules) B.pre w (List.mem_cons_of_mem _ hw)
  have hown : s.vm.findClass R_Lw = some m.cls := findClass_of_methodNamed B.named
  have hlocks := B.notSynchronized
  have hF : CallFix p m c b_Lw_rules 4 s _ w_all R_Lw := ⟨hx, hb, hml, hown, hts⟩
  have htab : c.exceptionTable.toList = tableOf [(0, 6, 9, 15)] := tb_of B (atoms_spec (ws := z_Lw_rules) B.pre _ List.mem_cons_self)
  have hS : va_S (aI L) s.heap s.heap [] := va_S.rf
  have hz0 : zx_I sa (aI L) (hpt s.heap s) := hz
  have hl := lv_entry ([.ref (L 0), .int a0, .int a1]) (n := 4) (Nat.le_of_ble_eq_true rfl)
  rw [lg_entry_eq]
  generalize (lg_sl ([.ref (L 0), .int a0, .int a1]) ++ List.replicate (4 - (lg_sl ([.ref (L 0), .int a0, .int a1])).length) Slot.unset).toArray = ls at hl ⊢
  have hl : lv_has ls 4 [(0, .ref (L 0)), (1, .int a0), (2, .int a1)] := hl
  rcases ex_Ir_rules ar sc a0 a1 with hN | hN
  · refine lv_aload_n hx hb d_Lw_rules_0 rfl (lv_at hl 0 rfl) ?_
    refine lv_iload_n hx hb d_Lw_rules_1 rfl (lv_at hl 1 rfl) ?_
    refine lv_iload_n hx hb d_Lw_rules_2 rfl (lv_at hl 2 rfl) ?_
    refine ro_Ir_rules hF hK hP hL (fun q h9 => h9) hS hlt hz0 hN m_549 hl.1 ⟨Nat.le_of_ble_eq_true rfl, Nat.le_of_ble_eq_true rfl⟩ ⟨Nat.le_refl _, Nat.le_refl _⟩ (Nat.le_of_ble_eq_true rfl) d_Lw_rules_3 (fun H locs hP hz1 hk1 hS => ?_)
    refine lv_goto (tgt := 12) hx hb d_Lw_rules_6 (by decide) ?_
    refine lv_iconst (v := 0) hx hb d_Lw_rules_12 (by decide) ?_
    exact W.iret (v := 0) hx hb hr (fun t ht hW => ⟨⟨0, ((f_Ir_rules ar sc a0 a1).2.2.1, (f_Ir_rules ar sc a0 a1).2.2.2), rfl, ⟨by rw [hN]; decide, rfl⟩, by dsimp only; rw [ht]; exact hP⟩, hS.F ht⟩) hS.2.2 d_Lw_rules_13
  · refine lv_aload_n hx hb d_Lw_rules_0 rfl (lv_at hl 0 rfl) ?_
    refine lv_iload_n hx hb d_Lw_rules_1 rfl (lv_at hl 1 rfl) ?_
    refine lv_iload_n hx hb d_Lw_rules_2 rfl (lv_at hl 2 rfl) ?_
    refine rt_Ir_rules hF hK hP hL (fun q h9 => h9) hS hlt hz0 hN m_549 hl.1 ⟨Nat.le_of_ble_eq_true rfl, Nat.le_of_ble_eq_true rfl⟩ ⟨Nat.le_refl _, Nat.le_refl _⟩ (Nat.le_of_ble_eq_true rfl) d_Lw_rules_3 (fun ce q H locs hP hz1 hk1 hS hce hcv hcl => ?_)
    refine th_catch (own := R_Lw) (name := "java/lang/IndexOutOfBoundsException") hown [] ⟨0, 6, 9, 15⟩ [] htab (fun _ h9 => absurd h9 List.not_mem_nil) rfl (by decide) (hts _ m_532) (va_Nw.use rfl (hK.2 _ mn_25)) hce hcv hcl ?_
    refine lv_astore_n (lv' := [(3, .ref q), (0, .ref (L 0)), (1, .int a0), (2, .int a1)]) hx hb d_Lw_rules_9 rfl hl (by decide) rfl (fun ls hl => ?_)
    refine lv_iconst (v := 1) hx hb d_Lw_rules_10 (by decide) ?_
    exact W.iret (v := 1) hx hb hr (fun t ht hW => ⟨⟨1, ((f_Ir_rules ar sc a0 a1).2.2.1, (f_Ir_rules ar sc a0 a1).2.2.2), rfl, ⟨by rw [hN]; decide, rfl⟩, by dsimp only; rw [ht]; exact hP⟩, hS.F ht⟩) hS.2.2 d_Lw_rules_11
def kc_permit (x : Option String) : Int32 := if x = some "java/lang/IndexOutOfBoundsException" then 1 else if x = some "java/lang/IllegalStateException" then 2 else if x = some "java/lang/UnsupportedOperationException" then 3 else 0
abbrev b_Lw_permit : ByteArray := method_19_code
def y_Lw_permit : MethodName := ⟨R_Lw, "permit", "(LInspectRows;III[J)I"⟩
abbrev z_Lw_permit : List Cond := Cond.codeWith y_Lw_permit b_Lw_permit 6 (some .int) [(0, 12, 15, 15), (0, 12, 19, 44), (0, 12, 23, 28)] :: w_all
theorem d_Lw_permit_0 : decode b_Lw_permit 0 = .ok (.aload 4, 2) := by decide +kernel
theorem d_Lw_permit_2 : decode b_Lw_permit 2 = .ok (.iconst 0, 1) := by decide +kernel
theorem d_Lw_permit_3 : decode b_Lw_permit 3 = .ok (.aload_n 0, 1) := by decide +kernel
theorem d_Lw_permit_4 : decode b_Lw_permit 4 = .ok (.iload_n 1, 1) := by decide +kernel
theorem d_Lw_permit_5 : decode b_Lw_permit 5 = .ok (.iload_n 2, 1) := by decide +kernel
theorem d_Lw_permit_6 : decode b_Lw_permit 6 = .ok (.iload_n 3, 1) := by decide +kernel
theorem d_Lw_permit_7 : decode b_Lw_permit 7 = .ok (.invokevirtual 74, 3) := by decide +kernel
theorem d_Lw_permit_10 : decode b_Lw_permit 10 = .ok (.i2l, 1) := by decide +kernel
theorem d_Lw_permit_11 : decode b_Lw_permit 11 = .ok (.lastore, 1) := by decide +kernel
theorem d_Lw_permit_12 : decode b_Lw_permit 12 = .ok (.goto 15, 3) := by decide +kernel
theorem d_Lw_permit_15 : decode b_Lw_permit 15 = .ok (.astore 5, 2) := by decide +kernel
theorem d_Lw_permit_17 : decode b_Lw_permit 17 = .ok (.iconst 1, 1) := by decide +kernel
theorem d_Lw_permit_18 : decode b_Lw_permit 18 = .ok (.ireturn, 1) := by decide +kernel
theorem d_Lw_permit_19 : decode b_Lw_permit 19 = .ok (.astore 5, 2) := by decide +kernel
theorem d_Lw_permit_21 : decode b_Lw_permit 21 = .ok (.iconst 2, 1) := by decide +kernel
theorem d_Lw_permit_22 : decode b_Lw_permit 22 = .ok (.ireturn, 1) := by decide +kernel
theorem d_Lw_permit_23 : decode b_Lw_permit 23 = .ok (.astore 5, 2) := by decide +kernel
theorem d_Lw_permit_25 : decode b_Lw_permit 25 = .ok (.iconst 3, 1) := by decide +kernel
theorem d_Lw_permit_26 : decode b_Lw_permit 26 = .ok (.ireturn, 1) := by decide +kernel
theorem d_Lw_permit_27 : decode b_Lw_permit 27 = .ok (.iconst 0, 1) := by decide +kernel
theorem d_Lw_permit_28 : decode b_Lw_permit 28 = .ok (.ireturn, 1) := by decide +kernel
set_option maxHeartbeats 4000000 in
set_option maxRecDepth 100000 in
theorem c_Lw_permit (l : Launch) (hlt : l.stackTraces = false) (sa : Nat → Nat) (dC : Nat → ClassId) (dI : Nat → Nat → Nat) (L : Nat → Nat) (cA : Nat → ClassId) (ar : Nat → Nat → Int32) (sc : Nat → Int32) (a0 : Int32) (a1 : Int32) (a2 : Int32) (qo : Nat) (cO : ClassId) (fo : Nat → Int64) (hqo : ¬ aI L qo) (hL : ij 38 L) (h : p_Ir_permit ar sc a0 a1 a2) : Met l y_Lw_permit z_Lw_permit (rmX 9) (va_Pc [.ref (L 0), .int a0, .int a1, .int a2, .ref qo] (fun U => xw_I dC dI L cA ar sc U ∧ xz_I L sa U ∧ nc_th U ∧ va_P (dC, dI) classes [(qo, .inl (cO, 1, .inr (.inl fo)))] U.heap ∧ va_K (dC, dI) classes [(cO, .long)] U)) (va_Qi (fun (r : Int32) (u : oS × (Nat → Int64)) => r = kc_permit (f_Ir_permit ar sc a0 a1 a2).1 ∧ u.1 = ((f_Ir_permit ar sc a0 a1 a2).2.2.1, (f_Ir_permit ar sc a0 a1 a2).2.2.2) ∧ u.2 = if (f_Ir_permit ar sc a0 a1 a2).1 = none then vp_updL fo 0 (f_Ir_permit ar sc a0 a1 a2).2.1.toInt64 else fo) (fun (u : oS × (Nat → Int64)) t => va_P (dC, dI) classes (wI L cA u.1.1 u.1.2) t.heap ∧ va_P (dC, dI) classes [(qo, .inl (cO, 1, .inr (.inl u.2)))] t.heap) (aO L qo)) 1 6 (aO L qo) := by
  refine va_MetW (cc := b_Lw_permit) (maxL := 6) (ret := (some .int)) (hh := [(0, 12, 15, 15), (0, 12, 19, 44), (0, 12, 23, 28)]) (by decide) rfl ?_
  intro p e s m args below meth c s₁ B hml hv
  obtain ⟨rfl, ⟨hP, hK⟩, hz, hnc, hO, hKo⟩ := hv
  have hx := B.exec
  have hb := B.bytes
  have hr := B.returns
  have hts : ∀ w ∈ w_all, w.before _ s = true := fun w hw => atoms_spec (ws := z_Lw_permit) B.pre w (List.mem_cons_of_mem _ hw)
  have hown : s.vm.findClass R_Lw = some m.cls := findClass_of_methodNamed B.named
  have hlocks := B.notSynchronized
  have hF : CallFix p m c b_Lw_permit 6 s _ w_all R_Lw := ⟨hx, hb, hml, hown, hts⟩
  have htab : c.exceptionTable.toList = tableOf [(0, 12, 15, 15), (0, 12, 19, 44), (0, 12, 23, 28)] := tb_of B (atoms_spec (ws := z_Lw_permit) B.pre _ List.mem_cons_self)
  have hS : va_S (aO L qo) s.heap s.heap [] := va_S.rf
  have hz0 : zx_I sa (aI L) (hpt s.heap s) := hz
  have hl := lv_entry ([.ref (L 0), .int a0, .int a1, .int a2, .ref qo]) (n := 6) (Nat.le_of_ble_eq_true rfl)
  rw [lg_entry_eq]
  generalize (lg_sl ([.ref (L 0), .int a0, .int a1, .int a2, .ref qo]) ++ List.replicate (6 - (lg_sl ([.ref (L 0), .int a0, .int a1, .int a2, .ref qo])).length) Slot.unset).toArray = ls at hl ⊢
  have hl : lv_has ls 6 [(0, .ref (L 0)), (1, .int a0), (2, .int a1), (3, .int a2), (4, .ref qo)] := hl
  rcases ex_Ir_permit ar sc a0 a1 a2 with hN | hN | hN | hN
  · refine lv_aload hx hb d_Lw_permit_0 (lv_at hl 4 rfl) ?_
    refine lv_iconst (v := 0) hx hb d_Lw_permit_2 (by decide) ?_
    refine lv_aload_n hx hb d_Lw_permit_3 rfl (lv_at hl 0 rfl) ?_
    refine lv_iload_n hx hb d_Lw_permit_4 rfl (lv_at hl 1 rfl) ?_
    refine lv_iload_n hx hb d_Lw_permit_5 rfl (lv_at hl 2 rfl) ?_
    refine lv_iload_n hx hb d_Lw_permit_6 rfl (lv_at hl 3 rfl) ?_
    refine ro_Ir_permit hF hK hP hL (fun q h9 => Or.inl h9) hS hlt hz0 h hN m_550 hl.1 ⟨Nat.le_of_ble_eq_true rfl, Nat.le_of_ble_eq_true rfl⟩ ⟨Nat.le_refl _, Nat.le_refl _⟩ (Nat.le_of_ble_eq_true rfl) d_Lw_permit_7 (fun H locs hP hz1 hk1 hS => ?_)
    have hO : va_P (dC, dI) classes [(qo, .inl (cO, 1, .inr (.inl fo)))] H := hO.kept (fun k q h9 => hk1 q.1 ((hO k q h9).lt) (by have hk := (List.getElem?_eq_some_iff.mp h9).1; simp at hk; subst hk; cases h9; exact hqo))
    refine lv_i2l hx hb d_Lw_permit_10 rfl ?_
    refine st_out hx hb hKo hO hP hL hqo hS d_Lw_permit_11 (fun H locs hO hP hS => ?_)
    refine lv_goto (tgt := 27) hx hb d_Lw_permit_12 (by decide) ?_
    refine lv_iconst (v := 0) hx hb d_Lw_permit_27 (by decide) ?_
    exact W.iret (v := 0) hx hb hr (fun t ht hW => ⟨⟨0, (((f_Ir_permit ar sc a0 a1 a2).2.2.1, (f_Ir_permit ar sc a0 a1 a2).2.2.2), vp_updL fo 0 (f_Ir_permit ar sc a0 a1 a2).2.1.toInt64), rfl, ⟨by rw [hN]; decide, rfl, by rw [hN]; rfl⟩, ⟨by dsimp only; rw [ht]; exact hP, by dsimp only; rw [ht]; exact hO⟩⟩, hS.F ht⟩) hS.2.2 d_Lw_permit_28
  · refine lv_aload hx hb d_Lw_permit_0 (lv_at hl 4 rfl) ?_
    refine lv_iconst (v := 0) hx hb d_Lw_permit_2 (by decide) ?_
    refine lv_aload_n hx hb d_Lw_permit_3 rfl (lv_at hl 0 rfl) ?_
    refine lv_iload_n hx hb d_Lw_permit_4 rfl (lv_at hl 1 rfl) ?_
    refine lv_iload_n hx hb d_Lw_permit_5 rfl (lv_at hl 2 rfl) ?_
    refine lv_iload_n hx hb d_Lw_permit_6 rfl (lv_at hl 3 rfl) ?_
    refine rt_Ir_permit hF hK hP hL (fun q h9 => Or.inl h9) hS hlt hz0 h hN m_550 hl.1 ⟨Nat.le_of_ble_eq_true rfl, Nat.le_of_ble_eq_true rfl⟩ ⟨Nat.le_refl _, Nat.le_refl _⟩ (Nat.le_of_ble_eq_true rfl) d_Lw_permit_7 (fun ce q H locs hP hz1 hk1 hS hce hcv hcl => ?_)
    have hO : va_P (dC, dI) classes [(qo, .inl (cO, 1, .inr (.inl fo)))] H := hO.kept (fun k q h9 => hk1 q.1 ((hO k q h9).lt) (by have hk := (List.getElem?_eq_some_iff.mp h9).1; simp at hk; subst hk; cases h9; exact hqo))
    refine th_catch (own := R_Lw) (name := "java/lang/IndexOutOfBoundsException") hown [] ⟨0, 12, 15, 15⟩ [⟨0, 12, 19, 44⟩, ⟨0, 12, 23, 28⟩] htab (fun _ h9 => absurd h9 List.not_mem_nil) rfl (by decide) (hts _ m_532) (va_Nw.use rfl (hK.2 _ mn_25)) hce hcv hcl ?_
    refine lv_astore (lv' := [(5, .ref q), (0, .ref (L 0)), (1, .int a0), (2, .int a1), (3, .int a2), (4, .ref qo)]) hx hb d_Lw_permit_15 hl (by decide) rfl (fun ls hl => ?_)
    refine lv_iconst (v := 1) hx hb d_Lw_permit_17 (by decide) ?_
    exact W.iret (v := 1) hx hb hr (fun t ht hW => ⟨⟨1, (((f_Ir_permit ar sc a0 a1 a2).2.2.1, (f_Ir_permit ar sc a0 a1 a2).2.2.2), fo), rfl, ⟨by rw [hN]; decide, rfl, by rw [hN]; rfl⟩, ⟨by dsimp only; rw [ht]; exact hP, by dsimp only; rw [ht]; exact hO⟩⟩, hS.F ht⟩) hS.2.2 d_Lw_permit_18
  · refine lv_aload hx hb d_Lw_permit_0 (lv_at hl 4 rfl) ?_
    refine lv_iconst (v := 0) hx hb d_Lw_permit_2 (by decide) ?_
    refine lv_aload_n hx hb d_Lw_permit_3 rfl (lv_at hl 0 rfl) ?_
    refine lv_iload_n hx hb d_Lw_permit_4 rfl (lv_at hl 1 rfl) ?_
    refine lv_iload_n hx hb d_Lw_permit_5 rfl (lv_at hl 2 rfl) ?_
    refine lv_iload_n hx hb d_Lw_permit_6 rfl (lv_at hl 3 rfl) ?_
    refine rt_Ir_permit hF hK hP hL (fun q h9 => Or.inl h9) hS hlt hz0 h hN m_550 hl.1 ⟨Nat.le_of_ble_eq_true rfl, Nat.le_of_ble_eq_true rfl⟩ ⟨Nat.le_refl _, Nat.le_refl _⟩ (Nat.le_of_ble_eq_true rfl) d_Lw_permit_7 (fun ce q H locs hP hz1 hk1 hS hce hcv hcl => ?_)
    have hO : va_P (dC, dI) classes [(qo, .inl (cO, 1, .inr (.inl fo)))] H := hO.kept (fun k q h9 => hk1 q.1 ((hO k q h9).lt) (by have hk := (List.getElem?_eq_some_iff.mp h9).1; simp at hk; subst hk; cases h9; exact hqo))
    refine th_catch (own := R_Lw) (name := "java/lang/IllegalStateException") hown [⟨0, 12, 15, 15⟩] ⟨0, 12, 19, 44⟩ [⟨0, 12, 23, 28⟩] htab (List.forall_mem_cons.mpr ⟨⟨by decide, "java/lang/IndexOutOfBoundsException", hts _ m_532, hnc.2.2.2.2.1⟩, fun _ h9 => absurd h9 List.not_mem_nil⟩) rfl (by decide) (hts _ m_541) (va_Nw.use rfl (hK.2 _ mn_27)) hce hcv hcl ?_
    refine lv_astore (lv' := [(5, .ref q), (0, .ref (L 0)), (1, .int a0), (2, .int a1), (3, .int a2), (4, .ref qo)]) hx hb d_Lw_permit_19 hl (by decide) rfl (fun ls hl => ?_)
    refine lv_iconst (v := 2) hx hb d_Lw_permit_21 (by decide) ?_
    exact W.iret (v := 2) hx hb hr (fun t ht hW => ⟨⟨2, (((f_Ir_permit ar sc a0 a1 a2).2.2.1, (f_Ir_permit ar sc a0 a1 a2).2.2.2), fo), rfl, ⟨by rw [hN]; decide, rfl, by rw [hN]; rfl⟩, ⟨by dsimp only; rw [ht]; exact hP, by dsimp only; rw [ht]; exact hO⟩⟩, hS.F ht⟩) hS.2.2 d_Lw_permit_22
  · refine lv_aload hx hb d_Lw_permit_0 (lv_at hl 4 rfl) ?_
    refine lv_iconst (v := 0) hx hb d_Lw_permit_2 (by decide) ?_
    refine lv_aload_n hx hb d_Lw_permit_3 rfl (lv_at hl 0 rfl) ?_
    refine lv_iload_n hx hb d_Lw_permit_4 rfl (lv_at hl 1 rfl) ?_
    refine lv_iload_n hx hb d_Lw_permit_5 rfl (lv_at hl 2 rfl) ?_
    refine lv_iload_n hx hb d_Lw_permit_6 rfl (lv_at hl 3 rfl) ?_
    refine rt_Ir_permit hF hK hP hL (fun q h9 => Or.inl h9) hS hlt hz0 h hN m_550 hl.1 ⟨Nat.le_of_ble_eq_true rfl, Nat.le_of_ble_eq_true rfl⟩ ⟨Nat.le_refl _, Nat.le_refl _⟩ (Nat.le_of_ble_eq_true rfl) d_Lw_permit_7 (fun ce q H locs hP hz1 hk1 hS hce hcv hcl => ?_)
    have hO : va_P (dC, dI) classes [(qo, .inl (cO, 1, .inr (.inl fo)))] H := hO.kept (fun k q h9 => hk1 q.1 ((hO k q h9).lt) (by have hk := (List.getElem?_eq_some_iff.mp h9).1; simp at hk; subst hk; cases h9; exact hqo))
    refine th_catch (own := R_Lw) (name := "java/lang/UnsupportedOperationException") hown [⟨0, 12, 15, 15⟩, ⟨0, 12, 19, 44⟩] ⟨0, 12, 23, 28⟩ [] htab (List.forall_mem_cons.mpr ⟨⟨by decide, "java/lang/IndexOutOfBoundsException", hts _ m_532, hnc.2.2.1⟩, List.forall_mem_cons.mpr ⟨⟨by decide, "java/lang/IllegalStateException", hts _ m_541, hnc.2.2.2.2.2⟩, fun _ h9 => absurd h9 List.not_mem_nil⟩⟩) rfl (by decide) (hts _ m_536) (va_Nw.use rfl (hK.2 _ mn_26)) hce hcv hcl ?_
    refine lv_astore (lv' := [(5, .ref q), (0, .ref (L 0)), (1, .int a0), (2, .int a1), (3, .int a2), (4, .ref qo)]) hx hb d_Lw_permit_23 hl (by decide) rfl (fun ls hl => ?_)
    refine lv_iconst (v := 3) hx hb d_Lw_permit_25 (by decide) ?_
    exact W.iret (v := 3) hx hb hr (fun t ht hW => ⟨⟨3, (((f_Ir_permit ar sc a0 a1 a2).2.2.1, (f_Ir_permit ar sc a0 a1 a2).2.2.2), fo), rfl, ⟨by rw [hN]; decide, rfl, by rw [hN]; rfl⟩, ⟨by dsimp only; rw [ht]; exact hP, by dsimp only; rw [ht]; exact hO⟩⟩, hS.F ht⟩) hS.2.2 d_Lw_permit_26
def kc_ground (x : Option String) : Int32 := if x = some "java/lang/IndexOutOfBoundsException" then 1 else 0
abbrev b_Lw_ground : ByteArray := method_20_code
def y_Lw_ground : MethodName := ⟨R_Lw, "ground", "(LInspectRows;IIII)I"⟩
abbrev z_Lw_ground : List Cond := Cond.codeWith y_Lw_ground b_Lw_ground 6 (some .int) [(0, 9, 12, 15)] :: w_all
theorem d_Lw_ground_0 : decode b_Lw_ground 0 = .ok (.aload_n 0, 1) := by decide +kernel
theorem d_Lw_ground_1 : decode b_Lw_ground 1 = .ok (.iload_n 1, 1) := by decide +kernel
theorem d_Lw_ground_2 : decode b_Lw_ground 2 = .ok (.iload_n 2, 1) := by decide +kernel
theorem d_Lw_ground_3 : decode b_Lw_ground 3 = .ok (.iload_n 3, 1) := by decide +kernel
theorem d_Lw_ground_4 : decode b_Lw_ground 4 = .ok (.iload 4, 2) := by decide +kernel
theorem d_Lw_ground_6 : decode b_Lw_ground 6 = .ok (.invokevirtual 77, 3) := by decide +kernel
theorem d_Lw_ground_9 : decode b_Lw_ground 9 = .ok (.goto 7, 3) := by decide +kernel
theorem d_Lw_ground_12 : decode b_Lw_ground 12 = .ok (.astore 5, 2) := by decide +kernel
theorem d_Lw_ground_14 : decode b_Lw_ground 14 = .ok (.iconst 1, 1) := by decide +kernel
theorem d_Lw_ground_15 : decode b_Lw_ground 15 = .ok (.ireturn, 1) := by decide +kernel
theorem d_Lw_ground_16 : decode b_Lw_ground 16 = .ok (.iconst 0, 1) := by decide +kernel
theorem d_Lw_ground_17 : decode b_Lw_ground 17 = .ok (.ireturn, 1) := by decide +kernel
set_option maxHeartbeats 4000000 in
set_option maxRecDepth 100000 in
theorem c_Lw_ground (l : Launch) (hlt : l.stackTraces = false) (sa : Nat → Nat) (dC : Nat → ClassId) (dI : Nat → Nat → Nat) (L : Nat → Nat) (cA : Nat → ClassId) (ar : Nat → Nat → Int32) (sc : Nat → Int32) (a0 : Int32) (a1 : Int32) (a2 : Int32) (a3 : Int32) (hL : ij 38 L) : Met l y_Lw_ground z_Lw_ground (rmX 9) (va_Pc [.ref (L 0), .int a0, .int a1, .int a2, .int a3] (fun U => xw_I dC dI L cA ar sc U ∧ xz_I L sa U ∧ nc_th U)) (va_Qi (fun (r : Int32) (u : oS) => r = kc_ground (f_Ir_ground ar sc a0 a1 a2 a3).1 ∧ u = ((f_Ir_ground ar sc a0 a1 a2 a3).2.2.1, (f_Ir_ground ar sc a0 a1 a2 a3).2.2.2)) (fun (u : oS) t => va_P (dC, dI) classes (wI L cA u.1 u.2) t.heap) (aI L)) 1 6 (aI L) := by
  refine va_MetW (cc := b_Lw_ground) (maxL := 6) (ret := (some .int)) (hh := [(0, 9, 12, 15)]) (by decide) rfl ?_
  intro p e s m args below meth c s₁ B hml hv
  obtain ⟨rfl, ⟨hP, hK⟩, hz, hnc⟩ := hv
  have hx := B.exec
  have hb := B.bytes
  have hr := B.returns
  have hts : ∀ w ∈ w_all, w.before _ s = true := fun w hw => atoms_spec (ws := z_Lw_ground) B.pre w (List.mem_cons_of_mem _ hw)
  have hown : s.vm.findClass R_Lw = some m.cls := findClass_of_methodNamed B.named
  have hlocks := B.notSynchronized
  have hF : CallFix p m c b_Lw_ground 6 s _ w_all R_Lw := ⟨hx, hb, hml, hown, hts⟩
  have htab : c.exceptionTable.toList = tableOf [(0, 9, 12, 15)] := tb_of B (atoms_spec (ws := z_Lw_ground) B.pre _ List.mem_cons_self)
  have hS : va_S (aI L) s.heap s.heap [] := va_S.rf
  have hz0 : zx_I sa (aI L) (hpt s.heap s) := hz
  have hl := lv_entry ([.ref (L 0), .int a0, .int a1, .int a2, .int a3]) (n := 6) (Nat.le_of_ble_eq_true rfl)
  rw [lg_entry_eq]
  generalize (lg_sl ([.ref (L 0), .int a0, .int a1, .int a2, .int a3]) ++ List.replicate (6 - (lg_sl ([.ref (L 0), .int a0, .int a1, .int a2, .int a3])).length) Slot.unset).toArray = ls at hl ⊢
  have hl : lv_has ls 6 [(0, .ref (L 0)), (1, .int a0), (2, .int a1), (3, .int a2), (4, .int a3)] := hl
  rcases ex_Ir_ground ar sc a0 a1 a2 a3 with hN | hN
  · refine lv_aload_n hx hb d_Lw_ground_0 rfl (lv_at hl 0 rfl) ?_
    refine lv_iload_n hx hb d_Lw_ground_1 rfl (lv_at hl 1 rfl) ?_
    refine lv_iload_n hx hb d_Lw_ground_2 rfl (lv_at hl 2 rfl) ?_
    refine lv_iload_n hx hb d_Lw_ground_3 rfl (lv_at hl 3 rfl) ?_
    refine lv_iload hx hb d_Lw_ground_4 (lv_at hl 4 rfl) ?_
    refine ro_Ir_ground hF hK hP hL (fun q h9 => h9) hS hlt hz0 hN m_551 hl.1 ⟨Nat.le_of_ble_eq_true rfl, Nat.le_of_ble_eq_true rfl⟩ ⟨Nat.le_refl _, Nat.le_refl _⟩ (Nat.le_of_ble_eq_true rfl) d_Lw_ground_6 (fun H locs hP hz1 hk1 hS => ?_)
    refine lv_goto (tgt := 16) hx hb d_Lw_ground_9 (by decide) ?_
    refine lv_iconst (v := 0) hx hb d_Lw_ground_16 (by decide) ?_
    exact W.iret (v := 0) hx hb hr (fun t ht hW => ⟨⟨0, ((f_Ir_ground ar sc a0 a1 a2 a3).2.2.1, (f_Ir_ground ar sc a0 a1 a2 a3).2.2.2), rfl, ⟨by rw [hN]; decide, rfl⟩, by dsimp only; rw [ht]; exact hP⟩, hS.F ht⟩) hS.2.2 d_Lw_ground_17
  · refine lv_aload_n hx hb d_Lw_ground_0 rfl (lv_at hl 0 rfl) ?_
    refine lv_iload_n hx hb d_Lw_ground_1 rfl (lv_at hl 1 rfl) ?_
    refine lv_iload_n hx hb d_Lw_ground_2 rfl (lv_at hl 2 rfl) ?_
    refine lv_iload_n hx hb d_Lw_ground_3 rfl (lv_at hl 3 rfl) ?_
    refine lv_iload hx hb d_Lw_ground_4 (lv_at hl 4 rfl) ?_
    refine rt_Ir_ground hF hK hP hL (fun q h9 => h9) hS hlt hz0 hN m_551 hl.1 ⟨Nat.le_of_ble_eq_true rfl, Nat.le_of_ble_eq_true rfl⟩ ⟨Nat.le_refl _, Nat.le_refl _⟩ (Nat.le_of_ble_eq_true rfl) d_Lw_ground_6 (fun ce q H locs hP hz1 hk1 hS hce hcv hcl => ?_)
    refine th_catch (own := R_Lw) (name := "java/lang/IndexOutOfBoundsException") hown [] ⟨0, 9, 12, 15⟩ [] htab (fun _ h9 => absurd h9 List.not_mem_nil) rfl (by decide) (hts _ m_532) (va_Nw.use rfl (hK.2 _ mn_25)) hce hcv hcl ?_
    refine lv_astore (lv' := [(5, .ref q), (0, .ref (L 0)), (1, .int a0), (2, .int a1), (3, .int a2), (4, .int a3)]) hx hb d_Lw_ground_12 hl (by decide) rfl (fun ls hl => ?_)
    refine lv_iconst (v := 1) hx hb d_Lw_ground_14 (by decide) ?_
    exact W.iret (v := 1) hx hb hr (fun t ht hW => ⟨⟨1, ((f_Ir_ground ar sc a0 a1 a2 a3).2.2.1, (f_Ir_ground ar sc a0 a1 a2 a3).2.2.2), rfl, ⟨by rw [hN]; decide, rfl⟩, by dsimp only; rw [ht]; exact hP⟩, hS.F ht⟩) hS.2.2 d_Lw_ground_15
def kc_touches (x : Option String) : Int32 := if x = some "java/lang/IllegalArgumentException" then 1 else 0
abbrev b_Lw_touches : ByteArray := method_21_code
def y_Lw_touches : MethodName := ⟨R_Lw, "touches", "(LInspectRows;I[J)I"⟩
abbrev z_Lw_touches : List Cond := Cond.codeWith y_Lw_touches b_Lw_touches 4 (some .int) [(0, 9, 12, 13)] :: w_all
theorem d_Lw_touches_0 : decode b_Lw_touches 0 = .ok (.aload_n 2, 1) := by decide +kernel
theorem d_Lw_touches_1 : decode b_Lw_touches 1 = .ok (.iconst 0, 1) := by decide +kernel
theorem d_Lw_touches_2 : decode b_Lw_touches 2 = .ok (.aload_n 0, 1) := by decide +kernel
theorem d_Lw_touches_3 : decode b_Lw_touches 3 = .ok (.iload_n 1, 1) := by decide +kernel
theorem d_Lw_touches_4 : decode b_Lw_touches 4 = .ok (.invokevirtual 80, 3) := by decide +kernel
theorem d_Lw_touches_7 : decode b_Lw_touches 7 = .ok (.i2l, 1) := by decide +kernel
theorem d_Lw_touches_8 : decode b_Lw_touches 8 = .ok (.lastore, 1) := by decide +kernel
theorem d_Lw_touches_9 : decode b_Lw_touches 9 = .ok (.goto 6, 3) := by decide +kernel
theorem d_Lw_touches_12 : decode b_Lw_touches 12 = .ok (.astore_n 3, 1) := by decide +kernel
theorem d_Lw_touches_13 : decode b_Lw_touches 13 = .ok (.iconst 1, 1) := by decide +kernel
theorem d_Lw_touches_14 : decode b_Lw_touches 14 = .ok (.ireturn, 1) := by decide +kernel
theorem d_Lw_touches_15 : decode b_Lw_touches 15 = .ok (.iconst 0, 1) := by decide +kernel
theorem d_Lw_touches_16 : decode b_Lw_touches 16 = .ok (.ireturn, 1) := by decide +kernel
set_option maxHeartbeats 4000000 in
set_option maxRecDepth 100000 in
theorem c_Lw_touches (l : Launch) (hlt : l.stackTraces = false) (sa : Nat → Nat) (dC : Nat → ClassId) (dI : Nat → Nat → Nat) (L : Nat → Nat) (cA : Nat → ClassId) (ar : Nat → Nat → Int32) (sc : Nat → Int32) (a0 : Int32) (qo : Nat) (cO : ClassId) (fo : Nat → Int64) (hqo : ¬ aI L qo) (hL : ij 38 L) (h : p_Ir_touches ar sc a0) : Met l y_Lw_touches z_Lw_touches (rmX 9) (va_Pc [.ref (L 0), .int a0, .ref qo] (fun U => xw_I dC dI L cA ar sc U ∧ xz_I L sa U ∧ nc_th U ∧ va_P (dC, dI) classes [(qo, .inl (cO, 1, .inr (.inl fo)))] U.heap ∧ va_K (dC, dI) classes [(cO, .long)] U)) (va_Qi (fun (r : Int32) (u : oS × (Nat → Int64)) => r = kc_touches (f_Ir_touches ar sc a0).1 ∧ u.1 = ((f_Ir_touches ar sc a0).2.2.1, (f_Ir_touches ar sc a0).2.2.2) ∧ u.2 = if (f_Ir_touches ar sc a0).1 = none then vp_updL fo 0 (f_Ir_touches ar sc a0).2.1.toInt64 else fo) (fun (u : oS × (Nat → Int64)) t => va_P (dC, dI) classes (wI L cA u.1.1 u.1.2) t.heap ∧ va_P (dC, dI) classes [(qo, .inl (cO, 1, .inr (.inl u.2)))] t.heap) (aO L qo)) 1 6 (aO L qo) := by
  refine va_MetW (cc := b_Lw_touches) (maxL := 4) (ret := (some .int)) (hh := [(0, 9, 12, 13)]) (by decide) rfl ?_
  intro p e s m args below meth c s₁ B hml hv
  obtain ⟨rfl, ⟨hP, hK⟩, hz, hnc, hO, hKo⟩ := hv
  have hx := B.exec
  have hb := B.bytes
  have hr := B.returns
  have hts : ∀ w ∈ w_all, w.before _ s = true := fun w hw => atoms_spec (ws := z_Lw_touches) B.pre w (List.mem_cons_of_mem _ hw)
  have hown : s.vm.findClass R_Lw = some m.cls := findClass_of_methodNamed B.named
  have hlocks := B.notSynchronized
  have hF : CallFix p m c b_Lw_touches 4 s _ w_all R_Lw := ⟨hx, hb, hml, hown, hts⟩
  have htab : c.exceptionTable.toList = tableOf [(0, 9, 12, 13)] := tb_of B (atoms_spec (ws := z_Lw_touches) B.pre _ List.mem_cons_self)
  have hS : va_S (aO L qo) s.heap s.heap [] := va_S.rf
  have hz0 : zx_I sa (aI L) (hpt s.heap s) := hz
  have hl := lv_entry ([.ref (L 0), .int a0, .ref qo]) (n := 4) (Nat.le_of_ble_eq_true rfl)
  rw [lg_entry_eq]
  generalize (lg_sl ([.ref (L 0), .int a0, .ref qo]) ++ List.replicate (4 - (lg_sl ([.ref (L 0), .int a0, .ref qo])).length) Slot.unset).toArray = ls at hl ⊢
  have hl : lv_has ls 4 [(0, .ref (L 0)), (1, .int a0), (2, .ref qo)] := hl
  rcases ex_Ir_touches ar sc a0 with hN | hN
  · refine lv_aload_n hx hb d_Lw_touches_0 rfl (lv_at hl 2 rfl) ?_
    refine lv_iconst (v := 0) hx hb d_Lw_touches_1 (by decide) ?_
    refine lv_aload_n hx hb d_Lw_touches_2 rfl (lv_at hl 0 rfl) ?_
    refine lv_iload_n hx hb d_Lw_touches_3 rfl (lv_at hl 1 rfl) ?_
    refine ro_Ir_touches hF hK hP hL (fun q h9 => Or.inl h9) hS hlt hz0 h hN m_552 hl.1 ⟨Nat.le_of_ble_eq_true rfl, Nat.le_of_ble_eq_true rfl⟩ ⟨Nat.le_refl _, Nat.le_refl _⟩ (Nat.le_of_ble_eq_true rfl) d_Lw_touches_4 (fun H locs hP hz1 hk1 hS => ?_)
    have hO : va_P (dC, dI) classes [(qo, .inl (cO, 1, .inr (.inl fo)))] H := hO.kept (fun k q h9 => hk1 q.1 ((hO k q h9).lt) (by have hk := (List.getElem?_eq_some_iff.mp h9).1; simp at hk; subst hk; cases h9; exact hqo))
    refine lv_i2l hx hb d_Lw_touches_7 rfl ?_
    refine st_out hx hb hKo hO hP hL hqo hS d_Lw_touches_8 (fun H locs hO hP hS => ?_)
    refine lv_goto (tgt := 15) hx hb d_Lw_touches_9 (by decide) ?_
    refine lv_iconst (v := 0) hx hb d_Lw_touches_15 (by decide) ?_
    exact W.iret (v := 0) hx hb hr (fun t ht hW => ⟨⟨0, (((f_Ir_touches ar sc a0).2.2.1, (f_Ir_touches ar sc a0).2.2.2), vp_updL fo 0 (f_Ir_touches ar sc a0).2.1.toInt64), rfl, ⟨by rw [hN]; decide, rfl, by rw [hN]; rfl⟩, ⟨by dsimp only; rw [ht]; exact hP, by dsimp only; rw [ht]; exact hO⟩⟩, hS.F ht⟩) hS.2.2 d_Lw_touches_16
  · refine lv_aload_n hx hb d_Lw_touches_0 rfl (lv_at hl 2 rfl) ?_
    refine lv_iconst (v := 0) hx hb d_Lw_touches_1 (by decide) ?_
    refine lv_aload_n hx hb d_Lw_touches_2 rfl (lv_at hl 0 rfl) ?_
    refine lv_iload_n hx hb d_Lw_touches_3 rfl (lv_at hl 1 rfl) ?_
    refine rt_Ir_touches hF hK hP hL (fun q h9 => Or.inl h9) hS hlt hz0 h hN m_552 hl.1 ⟨Nat.le_of_ble_eq_true rfl, Nat.le_of_ble_eq_true rfl⟩ ⟨Nat.le_refl _, Nat.le_refl _⟩ (Nat.le_of_ble_eq_true rfl) d_Lw_touches_4 (fun ce q H locs hP hz1 hk1 hS hce hcv hcl => ?_)
    have hO : va_P (dC, dI) classes [(qo, .inl (cO, 1, .inr (.inl fo)))] H := hO.kept (fun k q h9 => hk1 q.1 ((hO k q h9).lt) (by have hk := (List.getElem?_eq_some_iff.mp h9).1; simp at hk; subst hk; cases h9; exact hqo))
    refine th_catch (own := R_Lw) (name := "java/lang/IllegalArgumentException") hown [] ⟨0, 9, 12, 13⟩ [] htab (fun _ h9 => absurd h9 List.not_mem_nil) rfl (by decide) (hts _ m_531) (va_Nw.use rfl (hK.2 _ mn_24)) hce hcv hcl ?_
    refine lv_astore_n (lv' := [(3, .ref q), (0, .ref (L 0)), (1, .int a0), (2, .ref qo)]) hx hb d_Lw_touches_12 rfl hl (by decide) rfl (fun ls hl => ?_)
    refine lv_iconst (v := 1) hx hb d_Lw_touches_13 (by decide) ?_
    exact W.iret (v := 1) hx hb hr (fun t ht hW => ⟨⟨1, (((f_Ir_touches ar sc a0).2.2.1, (f_Ir_touches ar sc a0).2.2.2), fo), rfl, ⟨by rw [hN]; decide, rfl, by rw [hN]; rfl⟩, ⟨by dsimp only; rw [ht]; exact hP, by dsimp only; rw [ht]; exact hO⟩⟩, hS.F ht⟩) hS.2.2 d_Lw_touches_14
def kc_surprise (x : Option String) : Int32 := if x = some "java/lang/IllegalStateException" then 1 else 0
abbrev b_Lw_surprise : ByteArray := method_22_code
def y_Lw_surprise : MethodName := ⟨R_Lw, "surprise", "(LInspectRows;I[J)I"⟩
abbrev z_Lw_surprise : List Cond := Cond.codeWith y_Lw_surprise b_Lw_surprise 4 (some .int) [(0, 9, 12, 44)] :: w_all
theorem d_Lw_surprise_0 : decode b_Lw_surprise 0 = .ok (.aload_n 2, 1) := by decide +kernel
theorem d_Lw_surprise_1 : decode b_Lw_surprise 1 = .ok (.iconst 0, 1) := by decide +kernel
theorem d_Lw_surprise_2 : decode b_Lw_surprise 2 = .ok (.aload_n 0, 1) := by decide +kernel
theorem d_Lw_surprise_3 : decode b_Lw_surprise 3 = .ok (.iload_n 1, 1) := by decide +kernel
theorem d_Lw_surprise_4 : decode b_Lw_surprise 4 = .ok (.invokevirtual 83, 3) := by decide +kernel
theorem d_Lw_surprise_7 : decode b_Lw_surprise 7 = .ok (.i2l, 1) := by decide +kernel
theorem d_Lw_surprise_8 : decode b_Lw_surprise 8 = .ok (.lastore, 1) := by decide +kernel
theorem d_Lw_surprise_9 : decode b_Lw_surprise 9 = .ok (.goto 6, 3) := by decide +kernel
theorem d_Lw_surprise_12 : decode b_Lw_surprise 12 = .ok (.astore_n 3, 1) := by decide +kernel
theorem d_Lw_surprise_13 : decode b_Lw_surprise 13 = .ok (.iconst 1, 1) := by decide +kernel
theorem d_Lw_surprise_14 : decode b_Lw_surprise 14 = .ok (.ireturn, 1) := by decide +kernel
theorem d_Lw_surprise_15 : decode b_Lw_surprise 15 = .ok (.iconst 0, 1) := by decide +kernel
theorem d_Lw_surprise_16 : decode b_Lw_surprise 16 = .ok (.ireturn, 1) := by decide +kernel
set_option maxHeartbeats 4000000 in
set_option maxRecDepth 100000 in
theorem c_Lw_surprise (l : Launch) (hlt : l.stackTraces = false) (sa : Nat → Nat) (dC : Nat → ClassId) (dI : Nat → Nat → Nat) (L : Nat → Nat) (cA : Nat → ClassId) (ar : Nat → Nat → Int32) (sc : Nat → Int32) (a0 : Int32) (qo : Nat) (cO : ClassId) (fo : Nat → Int64) (hqo : ¬ aI L qo) (hL : ij 38 L) (h : p_Ir_surprise ar sc a0) : Met l y_Lw_surprise z_Lw_surprise (rmX 9) (va_Pc [.ref (L 0), .int a0, .ref qo] (fun U => xw_I dC dI L cA ar sc U ∧ xz_I L sa U ∧ nc_th U ∧ va_P (dC, dI) classes [(qo, .inl (cO, 1, .inr (.inl fo)))] U.heap ∧ va_K (dC, dI) classes [(cO, .long)] U)) (va_Qi (fun (r : Int32) (u : oS × (Nat → Int64)) => r = kc_surprise (f_Ir_surprise ar sc a0).1 ∧ u.1 = ((f_Ir_surprise ar sc a0).2.2.1, (f_Ir_surprise ar sc a0).2.2.2) ∧ u.2 = if (f_Ir_surprise ar sc a0).1 = none then vp_updL fo 0 (f_Ir_surprise ar sc a0).2.1.toInt64 else fo) (fun (u : oS × (Nat → Int64)) t => va_P (dC, dI) classes (wI L cA u.1.1 u.1.2) t.heap ∧ va_P (dC, dI) classes [(qo, .inl (cO, 1, .inr (.inl u.2)))] t.heap) (aO L qo)) 1 6 (aO L qo) := by
  refine va_MetW (cc := b_Lw_surprise) (maxL := 4) (ret := (some .int)) (hh := [(0, 9, 12, 44)]) (by decide) rfl ?_
  intro p e s m args below meth c s₁ B hml hv
  obtain ⟨rfl, ⟨hP, hK⟩, hz, hnc, hO, hKo⟩ := hv
  have hx := B.exec
  have hb := B.bytes
  have hr := B.returns
  have hts : ∀ w ∈ w_all, w.before _ s = true := fun w hw => atoms_spec (ws := z_Lw_surprise) B.pre w (List.mem_cons_of_mem _ hw)
  have hown : s.vm.findClass R_Lw = some m.cls := findClass_of_methodNamed B.named
  have hlocks := B.notSynchronized
  have hF : CallFix p m c b_Lw_surprise 4 s _ w_all R_Lw := ⟨hx, hb, hml, hown, hts⟩
  have htab : c.exceptionTable.toList = tableOf [(0, 9, 12, 44)] := tb_of B (atoms_spec (ws := z_Lw_surprise) B.pre _ List.mem_cons_self)
  have hS : va_S (aO L qo) s.heap s.heap [] := va_S.rf
  have hz0 : zx_I sa (aI L) (hpt s.heap s) := hz
  have hl := lv_entry ([.ref (L 0), .int a0, .ref qo]) (n := 4) (Nat.le_of_ble_eq_true rfl)
  rw [lg_entry_eq]
  generalize (lg_sl ([.ref (L 0), .int a0, .ref qo]) ++ List.replicate (4 - (lg_sl ([.ref (L 0), .int a0, .ref qo])).length) Slot.unset).toArray = ls at hl ⊢
  have hl : lv_has ls 4 [(0, .ref (L 0)), (1, .int a0), (2, .ref qo)] := hl
  rcases ex_Ir_surprise ar sc a0 with hN | hN
  · refine lv_aload_n hx hb d_Lw_surprise_0 rfl (lv_at hl 2 rfl) ?_
    refine lv_iconst (v := 0) hx hb d_Lw_surprise_1 (by decide) ?_
    refine lv_aload_n hx hb d_Lw_surprise_2 rfl (lv_at hl 0 rfl) ?_
    refine lv_iload_n hx hb d_Lw_surprise_3 rfl (lv_at hl 1 rfl) ?_
    refine ro_Ir_surprise hF hK hP hL (fun q h9 => Or.inl h9) hS hlt hz0 h hN m_553 hl.1 ⟨Nat.le_of_ble_eq_true rfl, Nat.le_of_ble_eq_true rfl⟩ ⟨Nat.le_refl _, Nat.le_refl _⟩ (Nat.le_of_ble_eq_true rfl) d_Lw_surprise_4 (fun H locs hP hz1 hk1 hS => ?_)
    have hO : va_P (dC, dI) classes [(qo, .inl (cO, 1, .inr (.inl fo)))] H := hO.kept (fun k q h9 => hk1 q.1 ((hO k q h9).lt) (by have hk := (List.getElem?_eq_some_iff.mp h9).1; simp at hk; subst hk; cases h9; exact hqo))
    refine lv_i2l hx hb d_Lw_surprise_7 rfl ?_
    refine st_out hx hb hKo hO hP hL hqo hS d_Lw_surprise_8 (fun H locs hO hP hS => ?_)
    refine lv_goto (tgt := 15) hx hb d_Lw_surprise_9 (by decide) ?_
    refine lv_iconst (v := 0) hx hb d_Lw_surprise_15 (by decide) ?_
    exact W.iret (v := 0) hx hb hr (fun t ht hW => ⟨⟨0, (((f_Ir_surprise ar sc a0).2.2.1, (f_Ir_surprise ar sc a0).2.2.2), vp_updL fo 0 (f_Ir_surprise ar sc a0).2.1.toInt64), rfl, ⟨by rw [hN]; decide, rfl, by rw [hN]; rfl⟩, ⟨by dsimp only; rw [ht]; exact hP, by dsimp only; rw [ht]; exact hO⟩⟩, hS.F ht⟩) hS.2.2 d_Lw_surprise_16
  · refine lv_aload_n hx hb d_Lw_surprise_0 rfl (lv_at hl 2 rfl) ?_
    refine lv_iconst (v := 0) hx hb d_Lw_surprise_1 (by decide) ?_
    refine lv_aload_n hx hb d_Lw_surprise_2 rfl (lv_at hl 0 rfl) ?_
    refine lv_iload_n hx hb d_Lw_surprise_3 rfl (lv_at hl 1 rfl) ?_
    refine rt_Ir_surprise hF hK hP hL (fun q h9 => Or.inl h9) hS hlt hz0 h hN m_553 hl.1 ⟨Nat.le_of_ble_eq_true rfl, Nat.le_of_ble_eq_true rfl⟩ ⟨Nat.le_refl _, Nat.le_refl _⟩ (Nat.le_of_ble_eq_true rfl) d_Lw_surprise_4 (fun ce q H locs hP hz1 hk1 hS hce hcv hcl => ?_)
    have hO : va_P (dC, dI) classes [(qo, .inl (cO, 1, .inr (.inl fo)))] H := hO.kept (fun k q h9 => hk1 q.1 ((hO k q h9).lt) (by have hk := (List.getElem?_eq_some_iff.mp h9).1; simp at hk; subst hk; cases h9; exact hqo))
    refine th_catch (own := R_Lw) (name := "java/lang/IllegalStateException") hown [] ⟨0, 9, 12, 44⟩ [] htab (fun _ h9 => absurd h9 List.not_mem_nil) rfl (by decide) (hts _ m_541) (va_Nw.use rfl (hK.2 _ mn_27)) hce hcv hcl ?_
    refine lv_astore_n (lv' := [(3, .ref q), (0, .ref (L 0)), (1, .int a0), (2, .ref qo)]) hx hb d_Lw_surprise_12 rfl hl (by decide) rfl (fun ls hl => ?_)
    refine lv_iconst (v := 1) hx hb d_Lw_surprise_13 (by decide) ?_
    exact W.iret (v := 1) hx hb hr (fun t ht hW => ⟨⟨1, (((f_Ir_surprise ar sc a0).2.2.1, (f_Ir_surprise ar sc a0).2.2.2), fo), rfl, ⟨by rw [hN]; decide, rfl, by rw [hN]; rfl⟩, ⟨by dsimp only; rw [ht]; exact hP, by dsimp only; rw [ht]; exact hO⟩⟩, hS.F ht⟩) hS.2.2 d_Lw_surprise_14

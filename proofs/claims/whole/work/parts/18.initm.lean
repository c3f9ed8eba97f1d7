theorem m_413 : (Cond.methodLink R_Mo 1 objectInit) ∈ w_all := List.mem_filter.mpr ⟨List.mem_of_getElem? (i := 721) (by decide +kernel), by decide +kernel⟩
theorem m_414 : (Cond.constant R_Mo 74 500000) ∈ w_all := List.mem_filter.mpr ⟨List.mem_of_getElem? (i := 722) (by decide +kernel), by decide +kernel⟩
def ar0_M : Nat → Nat → Int32 := (sg (sg (sg (fun _ _ => 0) 2 (upd (upd (upd (fun _ => 0) (0 : Int32).toNatClampNeg 10) (1 : Int32).toNatClampNeg 20) (2 : Int32).toNatClampNeg 30)) 3 (upd (upd (upd (upd (fun _ => 0) (0 : Int32).toNatClampNeg 1000) (1 : Int32).toNatClampNeg 500) (2 : Int32).toNatClampNeg 200) (3 : Int32).toNatClampNeg 100)) 4 (upd (upd (upd (upd (fun _ => 0) (0 : Int32).toNatClampNeg 30) (1 : Int32).toNatClampNeg 30) (2 : Int32).toNatClampNeg 30) (3 : Int32).toNatClampNeg 30))
def sc0_M : Nat → Int32 := (sg (sg (sg (fun _ => 0) 5 500000) 6 5000) 9 (-1))
def fv0_M : Nat → Value := (sg (sg (sg (sg (sg (sg (sg (sg (sg (sg (fun _ => Value.null) 0 (.int 0)) 1 (.int 0)) 6 (.int 0)) 13 (.int 0)) 22 (.int 0)) 26 (.int 0)) 27 (.int 0)) 28 (.int 0)) 30 (.int 0)) 33 (.int 0))
def pwM (n : Nat) (L : Nat → Nat) (cA : Nat → ClassId) (fv : Nat → Value) : va_W := (L 0, .inr (7, (List.range 34).map fv)) :: (((wM L cA ar0_M sc0_M).drop 1).take n)
theorem d_Mo_init_0 : decode b_Mo_init 0 = .ok (.aload_n 0, 1) := by decide +kernel
theorem d_Mo_init_1 : decode b_Mo_init 1 = .ok (.invokespecial 1, 3) := by decide +kernel
theorem d_Mo_init_4 : decode b_Mo_init 4 = .ok (.aload_n 0, 1) := by decide +kernel
theorem d_Mo_init_5 : decode b_Mo_init 5 = .ok (.iconst 5, 1) := by decide +kernel
theorem d_Mo_init_6 : decode b_Mo_init 6 = .ok (.newarray .int, 2) := by decide +kernel
theorem d_Mo_init_8 : decode b_Mo_init 8 = .ok (.putfield 7, 3) := by decide +kernel
theorem d_Mo_init_11 : decode b_Mo_init 11 = .ok (.aload_n 0, 1) := by decide +kernel
theorem d_Mo_init_12 : decode b_Mo_init 12 = .ok (.iconst 3, 1) := by decide +kernel
theorem d_Mo_init_13 : decode b_Mo_init 13 = .ok (.newarray .int, 2) := by decide +kernel
theorem d_Mo_init_15 : decode b_Mo_init 15 = .ok (.dup, 1) := by decide +kernel
theorem d_Mo_init_16 : decode b_Mo_init 16 = .ok (.iconst 0, 1) := by decide +kernel
theorem d_Mo_init_17 : decode b_Mo_init 17 = .ok (.bipush 10, 2) := by decide +kernel
theorem d_Mo_init_19 : decode b_Mo_init 19 = .ok (.iastore, 1) := by decide +kernel
theorem d_Mo_init_20 : decode b_Mo_init 20 = .ok (.dup, 1) := by decide +kernel
theorem d_Mo_init_21 : decode b_Mo_init 21 = .ok (.iconst 1, 1) := by decide +kernel
theorem d_Mo_init_22 : decode b_Mo_init 22 = .ok (.bipush 20, 2) := by decide +kernel
theorem d_Mo_init_24 : decode b_Mo_init 24 = .ok (.iastore, 1) := by decide +kernel
theorem d_Mo_init_25 : decode b_Mo_init 25 = .ok (.dup, 1) := by decide +kernel
theorem d_Mo_init_26 : decode b_Mo_init 26 = .ok (.iconst 2, 1) := by decide +kernel
theorem d_Mo_init_27 : decode b_Mo_init 27 = .ok (.bipush 30, 2) := by decide +kernel
theorem d_Mo_init_29 : decode b_Mo_init 29 = .ok (.iastore, 1) := by decide +kernel
theorem d_Mo_init_30 : decode b_Mo_init 30 = .ok (.putfield 13, 3) := by decide +kernel
theorem d_Mo_init_33 : decode b_Mo_init 33 = .ok (.aload_n 0, 1) := by decide +kernel
theorem d_Mo_init_34 : decode b_Mo_init 34 = .ok (.iconst 4, 1) := by decide +kernel
theorem d_Mo_init_35 : decode b_Mo_init 35 = .ok (.newarray .int, 2) := by decide +kernel
theorem d_Mo_init_37 : decode b_Mo_init 37 = .ok (.dup, 1) := by decide +kernel
theorem d_Mo_init_38 : decode b_Mo_init 38 = .ok (.iconst 0, 1) := by decide +kernel
theorem d_Mo_init_39 : decode b_Mo_init 39 = .ok (.sipush 1000, 3) := by decide +kernel
theorem d_Mo_init_42 : decode b_Mo_init 42 = .ok (.iastore, 1) := by decide +kernel
theorem d_Mo_init_43 : decode b_Mo_init 43 = .ok (.dup, 1) := by decide +kernel
theorem d_Mo_init_44 : decode b_Mo_init 44 = .ok (.iconst 1, 1) := by decide +kernel
theorem d_Mo_init_45 : decode b_Mo_init 45 = .ok (.sipush 500, 3) := by decide +kernel
theorem d_Mo_init_48 : decode b_Mo_init 48 = .ok (.iastore, 1) := by decide +kernel
theorem d_Mo_init_49 : decode b_Mo_init 49 = .ok (.dup, 1) := by decide +kernel
theorem d_Mo_init_50 : decode b_Mo_init 50 = .ok (.iconst 2, 1) := by decide +kernel
theorem d_Mo_init_51 : decode b_Mo_init 51 = .ok (.sipush 200, 3) := by decide +kernel
theorem d_Mo_init_54 : decode b_Mo_init 54 = .ok (.iastore, 1) := by decide +kernel
theorem d_Mo_init_55 : decode b_Mo_init 55 = .ok (.dup, 1) := by decide +kernel
theorem d_Mo_init_56 : decode b_Mo_init 56 = .ok (.iconst 3, 1) := by decide +kernel
theorem d_Mo_init_57 : decode b_Mo_init 57 = .ok (.bipush 100, 2) := by decide +kernel
theorem d_Mo_init_59 : decode b_Mo_init 59 = .ok (.iastore, 1) := by decide +kernel
theorem d_Mo_init_60 : decode b_Mo_init 60 = .ok (.putfield 16, 3) := by decide +kernel
theorem d_Mo_init_63 : decode b_Mo_init 63 = .ok (.aload_n 0, 1) := by decide +kernel
theorem d_Mo_init_64 : decode b_Mo_init 64 = .ok (.iconst 4, 1) := by decide +kernel
theorem d_Mo_init_65 : decode b_Mo_init 65 = .ok (.newarray .int, 2) := by decide +kernel
theorem d_Mo_init_67 : decode b_Mo_init 67 = .ok (.dup, 1) := by decide +kernel
theorem d_Mo_init_68 : decode b_Mo_init 68 = .ok (.iconst 0, 1) := by decide +kernel
theorem d_Mo_init_69 : decode b_Mo_init 69 = .ok (.bipush 30, 2) := by decide +kernel
theorem d_Mo_init_71 : decode b_Mo_init 71 = .ok (.iastore, 1) := by decide +kernel
theorem d_Mo_init_72 : decode b_Mo_init 72 = .ok (.dup, 1) := by decide +kernel
theorem d_Mo_init_73 : decode b_Mo_init 73 = .ok (.iconst 1, 1) := by decide +kernel
theorem d_Mo_init_74 : decode b_Mo_init 74 = .ok (.bipush 30, 2) := by decide +kernel
theorem d_Mo_init_76 : decode b_Mo_init 76 = .ok (.iastore, 1) := by decide +kernel
theorem d_Mo_init_77 : decode b_Mo_init 77 = .ok (.dup, 1) := by decide +kernel
theorem d_Mo_init_78 : decode b_Mo_init 78 = .ok (.iconst 2, 1) := by decide +kernel
theorem d_Mo_init_79 : decode b_Mo_init 79 = .ok (.bipush 30, 2) := by decide +kernel
theorem d_Mo_init_81 : decode b_Mo_init 81 = .ok (.iastore, 1) := by decide +kernel
theorem d_Mo_init_82 : decode b_Mo_init 82 = .ok (.dup, 1) := by decide +kernel
theorem d_Mo_init_83 : decode b_Mo_init 83 = .ok (.iconst 3, 1) := by decide +kernel
theorem d_Mo_init_84 : decode b_Mo_init 84 = .ok (.bipush 30, 2) := by decide +kernel
theorem d_Mo_init_86 : decode b_Mo_init 86 = .ok (.iastore, 1) := by decide +kernel
theorem d_Mo_init_87 : decode b_Mo_init 87 = .ok (.putfield 19, 3) := by decide +kernel
theorem d_Mo_init_90 : decode b_Mo_init 90 = .ok (.aload_n 0, 1) := by decide +kernel
theorem d_Mo_init_91 : decode b_Mo_init 91 = .ok (.bipush 30, 2) := by decide +kernel
theorem d_Mo_init_93 : decode b_Mo_init 93 = .ok (.newarray .int, 2) := by decide +kernel
theorem d_Mo_init_95 : decode b_Mo_init 95 = .ok (.putfield 22, 3) := by decide +kernel
theorem d_Mo_init_98 : decode b_Mo_init 98 = .ok (.aload_n 0, 1) := by decide +kernel
theorem d_Mo_init_99 : decode b_Mo_init 99 = .ok (.bipush 30, 2) := by decide +kernel
theorem d_Mo_init_101 : decode b_Mo_init 101 = .ok (.newarray .int, 2) := by decide +kernel
theorem d_Mo_init_103 : decode b_Mo_init 103 = .ok (.putfield 25, 3) := by decide +kernel
theorem d_Mo_init_106 : decode b_Mo_init 106 = .ok (.aload_n 0, 1) := by decide +kernel
theorem d_Mo_init_107 : decode b_Mo_init 107 = .ok (.bipush 30, 2) := by decide +kernel
theorem d_Mo_init_109 : decode b_Mo_init 109 = .ok (.newarray .int, 2) := by decide +kernel
theorem d_Mo_init_111 : decode b_Mo_init 111 = .ok (.putfield 28, 3) := by decide +kernel
theorem d_Mo_init_114 : decode b_Mo_init 114 = .ok (.aload_n 0, 1) := by decide +kernel
theorem d_Mo_init_115 : decode b_Mo_init 115 = .ok (.bipush 30, 2) := by decide +kernel
theorem d_Mo_init_117 : decode b_Mo_init 117 = .ok (.newarray .int, 2) := by decide +kernel
theorem d_Mo_init_119 : decode b_Mo_init 119 = .ok (.putfield 31, 3) := by decide +kernel
theorem d_Mo_init_122 : decode b_Mo_init 122 = .ok (.aload_n 0, 1) := by decide +kernel
theorem d_Mo_init_123 : decode b_Mo_init 123 = .ok (.bipush 30, 2) := by decide +kernel
theorem d_Mo_init_125 : decode b_Mo_init 125 = .ok (.newarray .int, 2) := by decide +kernel
theorem d_Mo_init_127 : decode b_Mo_init 127 = .ok (.putfield 34, 3) := by decide +kernel
theorem d_Mo_init_130 : decode b_Mo_init 130 = .ok (.aload_n 0, 1) := by decide +kernel
theorem d_Mo_init_131 : decode b_Mo_init 131 = .ok (.bipush 30, 2) := by decide +kernel
theorem d_Mo_init_133 : decode b_Mo_init 133 = .ok (.newarray .int, 2) := by decide +kernel
theorem d_Mo_init_135 : decode b_Mo_init 135 = .ok (.putfield 37, 3) := by decide +kernel
theorem d_Mo_init_138 : decode b_Mo_init 138 = .ok (.aload_n 0, 1) := by decide +kernel
theorem d_Mo_init_139 : decode b_Mo_init 139 = .ok (.bipush 100, 2) := by decide +kernel
theorem d_Mo_init_141 : decode b_Mo_init 141 = .ok (.newarray .int, 2) := by decide +kernel
theorem d_Mo_init_143 : decode b_Mo_init 143 = .ok (.putfield 40, 3) := by decide +kernel
theorem d_Mo_init_146 : decode b_Mo_init 146 = .ok (.aload_n 0, 1) := by decide +kernel
theorem d_Mo_init_147 : decode b_Mo_init 147 = .ok (.bipush 100, 2) := by decide +kernel
theorem d_Mo_init_149 : decode b_Mo_init 149 = .ok (.newarray .int, 2) := by decide +kernel
theorem d_Mo_init_151 : decode b_Mo_init 151 = .ok (.putfield 43, 3) := by decide +kernel
theorem d_Mo_init_154 : decode b_Mo_init 154 = .ok (.aload_n 0, 1) := by decide +kernel
theorem d_Mo_init_155 : decode b_Mo_init 155 = .ok (.bipush 100, 2) := by decide +kernel
theorem d_Mo_init_157 : decode b_Mo_init 157 = .ok (.newarray .int, 2) := by decide +kernel
theorem d_Mo_init_159 : decode b_Mo_init 159 = .ok (.putfield 46, 3) := by decide +kernel
theorem d_Mo_init_162 : decode b_Mo_init 162 = .ok (.aload_n 0, 1) := by decide +kernel
theorem d_Mo_init_163 : decode b_Mo_init 163 = .ok (.bipush 100, 2) := by decide +kernel
theorem d_Mo_init_165 : decode b_Mo_init 165 = .ok (.newarray .int, 2) := by decide +kernel
theorem d_Mo_init_167 : decode b_Mo_init 167 = .ok (.putfield 49, 3) := by decide +kernel
theorem d_Mo_init_170 : decode b_Mo_init 170 = .ok (.aload_n 0, 1) := by decide +kernel
theorem d_Mo_init_171 : decode b_Mo_init 171 = .ok (.bipush 16, 2) := by decide +kernel
theorem d_Mo_init_173 : decode b_Mo_init 173 = .ok (.newarray .boolean, 2) := by decide +kernel
theorem d_Mo_init_175 : decode b_Mo_init 175 = .ok (.putfield 52, 3) := by decide +kernel
theorem d_Mo_init_178 : decode b_Mo_init 178 = .ok (.aload_n 0, 1) := by decide +kernel
theorem d_Mo_init_179 : decode b_Mo_init 179 = .ok (.bipush 16, 2) := by decide +kernel
theorem d_Mo_init_181 : decode b_Mo_init 181 = .ok (.newarray .int, 2) := by decide +kernel
theorem d_Mo_init_183 : decode b_Mo_init 183 = .ok (.putfield 56, 3) := by decide +kernel
theorem d_Mo_init_186 : decode b_Mo_init 186 = .ok (.aload_n 0, 1) := by decide +kernel
theorem d_Mo_init_187 : decode b_Mo_init 187 = .ok (.bipush 16, 2) := by decide +kernel
theorem d_Mo_init_189 : decode b_Mo_init 189 = .ok (.newarray .int, 2) := by decide +kernel
theorem d_Mo_init_191 : decode b_Mo_init 191 = .ok (.putfield 59, 3) := by decide +kernel
theorem d_Mo_init_194 : decode b_Mo_init 194 = .ok (.aload_n 0, 1) := by decide +kernel
theorem d_Mo_init_195 : decode b_Mo_init 195 = .ok (.bipush 16, 2) := by decide +kernel
theorem d_Mo_init_197 : decode b_Mo_init 197 = .ok (.newarray .int, 2) := by decide +kernel
theorem d_Mo_init_199 : decode b_Mo_init 199 = .ok (.putfield 62, 3) := by decide +kernel
theorem d_Mo_init_202 : decode b_Mo_init 202 = .ok (.aload_n 0, 1) := by decide +kernel
theorem d_Mo_init_203 : decode b_Mo_init 203 = .ok (.bipush 7, 2) := by decide +kernel
theorem d_Mo_init_205 : decode b_Mo_init 205 = .ok (.newarray .int, 2) := by decide +kernel
theorem d_Mo_init_207 : decode b_Mo_init 207 = .ok (.putfield 65, 3) := by decide +kernel
theorem d_Mo_init_210 : decode b_Mo_init 210 = .ok (.aload_n 0, 1) := by decide +kernel
theorem d_Mo_init_211 : decode b_Mo_init 211 = .ok (.bipush 7, 2) := by decide +kernel
theorem d_Mo_init_213 : decode b_Mo_init 213 = .ok (.newarray .int, 2) := by decide +kernel
theorem d_Mo_init_215 : decode b_Mo_init 215 = .ok (.putfield 68, 3) := by decide +kernel
theorem d_Mo_init_218 : decode b_Mo_init 218 = .ok (.aload_n 0, 1) := by decide +kernel
theorem d_Mo_init_219 : decode b_Mo_init 219 = .ok (.sipush 896, 3) := by decide +kernel
theorem d_Mo_init_222 : decode b_Mo_init 222 = .ok (.newarray .int, 2) := by decide +kernel
theorem d_Mo_init_224 : decode b_Mo_init 224 = .ok (.putfield 71, 3) := by decide +kernel
theorem d_Mo_init_227 : decode b_Mo_init 227 = .ok (.aload_n 0, 1) := by decide +kernel
theorem d_Mo_init_228 : decode b_Mo_init 228 = .ok (.ldc 74, 2) := by decide +kernel
theorem d_Mo_init_230 : decode b_Mo_init 230 = .ok (.putfield 75, 3) := by decide +kernel
theorem d_Mo_init_233 : decode b_Mo_init 233 = .ok (.aload_n 0, 1) := by decide +kernel
theorem d_Mo_init_234 : decode b_Mo_init 234 = .ok (.sipush 5000, 3) := by decide +kernel
theorem d_Mo_init_237 : decode b_Mo_init 237 = .ok (.putfield 79, 3) := by decide +kernel
theorem d_Mo_init_240 : decode b_Mo_init 240 = .ok (.aload_n 0, 1) := by decide +kernel
theorem d_Mo_init_241 : decode b_Mo_init 241 = .ok (.bipush 124, 2) := by decide +kernel
theorem d_Mo_init_243 : decode b_Mo_init 243 = .ok (.newarray .int, 2) := by decide +kernel
theorem d_Mo_init_245 : decode b_Mo_init 245 = .ok (.putfield 82, 3) := by decide +kernel
theorem d_Mo_init_248 : decode b_Mo_init 248 = .ok (.aload_n 0, 1) := by decide +kernel
theorem d_Mo_init_249 : decode b_Mo_init 249 = .ok (.bipush 30, 2) := by decide +kernel
theorem d_Mo_init_251 : decode b_Mo_init 251 = .ok (.newarray .int, 2) := by decide +kernel
theorem d_Mo_init_253 : decode b_Mo_init 253 = .ok (.putfield 85, 3) := by decide +kernel
theorem d_Mo_init_256 : decode b_Mo_init 256 = .ok (.aload_n 0, 1) := by decide +kernel
theorem d_Mo_init_257 : decode b_Mo_init 257 = .ok (.bipush 30, 2) := by decide +kernel
theorem d_Mo_init_259 : decode b_Mo_init 259 = .ok (.newarray .int, 2) := by decide +kernel
theorem d_Mo_init_261 : decode b_Mo_init 261 = .ok (.putfield 88, 3) := by decide +kernel
theorem d_Mo_init_264 : decode b_Mo_init 264 = .ok (.aload_n 0, 1) := by decide +kernel
theorem d_Mo_init_265 : decode b_Mo_init 265 = .ok (.iconst (-1), 1) := by decide +kernel
theorem d_Mo_init_266 : decode b_Mo_init 266 = .ok (.putfield 91, 3) := by decide +kernel
theorem d_Mo_init_269 : decode b_Mo_init 269 = .ok (.return_, 1) := by decide +kernel
set_option maxHeartbeats 8000000 in
set_option maxRecDepth 100000 in
theorem c_Mo_init (l : Launch) (dC : Nat → ClassId) (dI : Nat → Nat → Nat) (h0 : Nat) (sz : Nat) : Met l y_Mo_init z_Mo_init { frames := 2, cells := 24, slots := 1754, locals := 60 } (va_Pc [.ref h0] (fun U => U.heap.size = sz ∧ va_P (dC, dI) classes [(h0, .inr (7, [.int 0, .int 0, .null, .null, .null, .null, .int 0, .null, .null, .null, .null, .null, .null, .int 0, .null, .null, .null, .null, .null, .null, .null, .null, .int 0, .null, .null, .null, .int 0, .int 0, .int 0, .null, .int 0, .null, .null, .int 0]))] U.heap ∧ va_K (dC, dI) classes [] U ∧ va_D (fun _ => True) [(h0, .inr (7, [.int 0, .int 0, .null, .null, .null, .null, .int 0, .null, .null, .null, .null, .null, .null, .int 0, .null, .null, .null, .null, .null, .null, .null, .null, .int 0, .null, .null, .null, .int 0, .int 0, .int 0, .null, .int 0, .null, .null, .int 0]))])) (va_Qv (fun _ : (Nat → Nat) × (Nat → ClassId) => True) (fun (u : (Nat → Nat) × (Nat → ClassId)) t => u.1 0 = h0 ∧ va_P (dC, dI) classes (wM u.1 u.2 ar0_M sc0_M) t.heap ∧ va_K (dC, dI) classes (ty_M u.2) t ∧ va_D (va_A [(h0, .inr (7, [.int 0, .int 0, .null, .null, .null, .null, .int 0, .null, .null, .null, .null, .null, .null, .int 0, .null, .null, .null, .null, .null, .null, .null, .null, .int 0, .null, .null, .null, .int 0, .int 0, .int 0, .null, .int 0, .null, .null, .int 0]))] sz) (wM u.1 u.2 ar0_M sc0_M)) (va_A [(h0, .inr (7, [.int 0, .int 0, .null, .null, .null, .null, .int 0, .null, .null, .null, .null, .null, .null, .int 0, .null, .null, .null, .null, .null, .null, .null, .null, .int 0, .null, .null, .null, .int 0, .int 0, .int 0, .null, .int 0, .null, .null, .int 0]))] sz)) 24 1754 (va_A [(h0, .inr (7, [.int 0, .int 0, .null, .null, .null, .null, .int 0, .null, .null, .null, .null, .null, .null, .int 0, .null, .null, .null, .null, .null, .null, .null, .null, .int 0, .null, .null, .null, .int 0, .int 0, .int 0, .null, .int 0, .null, .null, .int 0]))] sz) := by
  refine Met.ofW (cc := b_Mo_init) (maxL := 1) (ret := none) (by decide) rfl ?_
  intro p e s m args below meth c s₁ B hml hv
  obtain ⟨rfl, hsz, hP, hK, hD0⟩ := hv
  have hx := B.exec
  have hb := B.bytes
  have hr := B.returns
  have hts : ∀ w ∈ w_all, w.before _ s = true := fun w hw => atoms_spec (ws := z_Mo_init) B.pre w (List.mem_cons_of_mem _ hw)
  have hown : s.vm.findClass R_Mo = some m.cls := findClass_of_methodNamed B.named
  have hlocks := B.notSynchronized
  have hin : meth.name = "<init>" := (name_of_methodNamed B.named B.method).1
  subst hsz
  have hD := hD0.self (sz := s.heap.size)
  generalize hAe : va_A [(h0, .inr (7, [.int 0, .int 0, .null, .null, .null, .null, .int 0, .null, .null, .null, .null, .null, .null, .int 0, .null, .null, .null, .null, .null, .null, .null, .null, .int 0, .null, .null, .null, .int 0, .int 0, .int 0, .null, .int 0, .null, .null, .int 0]))] s.heap.size = A at hD ⊢
  have hA : ∀ q : Nat, s.heap.size ≤ q → A q := fun q h => by rw [← hAe]; exact Or.inr h
  have hS : va_S A s.heap s.heap [] := va_S.rf
  have hP : va_P (dC, dI) classes (pwM 0 (ad [h0]) (ad [0]) fv0_M) s.heap := hP
  have hD : va_D A (pwM 0 (ad [h0]) (ad [0]) fv0_M) := hD
  have hK : va_K (dC, dI) classes ((ty_M (ad [0])).take 0) s := hK
  have hl := lv_entry ([.ref h0]) (n := 1) (Nat.le_of_ble_eq_true rfl)
  rw [lg_entry_eq]
  generalize (lg_sl ([.ref h0]) ++ List.replicate (1 - (lg_sl ([.ref h0])).length) Slot.unset).toArray = ls at hl ⊢
  have hl : lv_has ls 1 [(0, .ref h0)] := hl
  refine lv_aload_n hx hb d_Mo_init_0 rfl (lv_at hl 0 rfl) ?_
  refine W.objInit hx hb hown (hts _ m_413) (hts _ m_365) (hts _ m_366) rfl (by rw [hml]; exact hl.1) rfl d_Mo_init_1 (Nat.le_of_ble_eq_true rfl) (Nat.le_of_ble_eq_true rfl) ?_
  refine W.eq (g2 := F0 m 4 ls []) rfl ?_
  refine lv_aload_n hx hb d_Mo_init_4 rfl (lv_at hl 0 rfl) ?_
  refine lv_iconst (v := 5) hx hb d_Mo_init_5 (by decide) ?_
  refine va_newa (atype := .int) (n := 5) (N' := 5) (a0 := (5, .inl (fun _ => 0))) hx hb (hts _ m_367) rfl hK hP hD hS hA (fun _ => rfl) (by decide) (by decide) (by decide) (Nat.le_of_ble_eq_true rfl) (Nat.le_of_ble_eq_true rfl) d_Mo_init_6 (fun q6 c6 H hK hP hD hS => ?_)
  have hP : va_P (dC, dI) classes (pwM 1 (ad [h0, q6]) (ad [0, c6]) fv0_M) H := hP
  have hD : va_D A (pwM 1 (ad [h0, q6]) (ad [0, c6]) fv0_M) := hD
  have hK : va_K (dC, dI) classes ((ty_M (ad [0, c6])).take 1) s := hK
  refine W.widen (k := 1) (n := 5) (Nat.le_refl _) (Nat.le_refl _) ?_
  refine va_putF (D := (dC, dI)) (ci := 7) (v := .ref q6) (ty := (.array .int)) (C := R_Mo) (T := F_Mo) (N := 34) hx hb hts i_Mo t_Mo t_Mo_ok n_Mo hown hK hP hD hS 0 rfl rfl 2 (by decide) (hts _ m_209) (fun _ h9 => h9) rfl hin rfl (by decide +kernel) rfl rfl (Nat.le_of_ble_eq_true rfl) d_Mo_init_8 (fun H locs hP hD hS => ?_)
  have hP : va_P (dC, dI) classes (pwM 1 (ad [h0, q6]) (ad [0, c6]) (sg fv0_M 2 (.ref q6))) H := hP
  have hD : va_D A (pwM 1 (ad [h0, q6]) (ad [0, c6]) (sg fv0_M 2 (.ref q6))) := hD
  refine lv_aload_n hx hb d_Mo_init_11 rfl (lv_at hl 0 rfl) ?_
  refine lv_iconst (v := 3) hx hb d_Mo_init_12 (by decide) ?_
  refine va_newa (atype := .int) (n := 3) (N' := 3) (a0 := (3, .inl (fun _ => 0))) hx hb (hts _ m_367) rfl hK hP hD hS hA (fun _ => rfl) (by decide) (by decide) (by decide) (Nat.le_of_ble_eq_true rfl) (Nat.le_of_ble_eq_true rfl) d_Mo_init_13 (fun q13 c13 H hK hP hD hS => ?_)
  have hK : va_K (dC, dI) classes ((ty_M (ad [0, c6, c13])).take 2) s := hK
  refine W.widen (k := 2) (n := 8) (Nat.le_refl _) (Nat.le_refl _) ?_
  refine lv_dup hx hb d_Mo_init_15 rfl ?_
  refine lv_iconst (v := 0) hx hb d_Mo_init_16 (by decide) ?_
  refine lv_bipush (v := 10) hx hb d_Mo_init_17 (by decide) ?_
  refine va_iast hx hb hK hP hD hS 2 1 rfl rfl (by unfold vp_in; decide) d_Mo_init_19 (fun H locs hP hD hS => ?_)
  refine lv_dup hx hb d_Mo_init_20 rfl ?_
  refine lv_iconst (v := 1) hx hb d_Mo_init_21 (by decide) ?_
  refine lv_bipush (v := 20) hx hb d_Mo_init_22 (by decide) ?_
  refine va_iast hx hb hK hP hD hS 2 1 rfl rfl (by unfold vp_in; decide) d_Mo_init_24 (fun H locs hP hD hS => ?_)
  refine lv_dup hx hb d_Mo_init_25 rfl ?_
  refine lv_iconst (v := 2) hx hb d_Mo_init_26 (by decide) ?_
  refine lv_bipush (v := 30) hx hb d_Mo_init_27 (by decide) ?_
  refine va_iast hx hb hK hP hD hS 2 1 rfl rfl (by unfold vp_in; decide) d_Mo_init_29 (fun H locs hP hD hS => ?_)
  have hP : va_P (dC, dI) classes (pwM 2 (ad [h0, q6, q13]) (ad [0, c6, c13]) (sg fv0_M 2 (.ref q6))) H := hP
  have hD : va_D A (pwM 2 (ad [h0, q6, q13]) (ad [0, c6, c13]) (sg fv0_M 2 (.ref q6))) := hD
  refine va_putF (D := (dC, dI)) (ci := 7) (v := .ref q13) (ty := (.array .int)) (C := R_Mo) (T := F_Mo) (N := 34) hx hb hts i_Mo t_Mo t_Mo_ok n_Mo hown hK hP hD hS 0 rfl rfl 3 (by decide) (hts _ m_216) (fun _ h9 => h9) rfl hin rfl (by decide +kernel) rfl rfl (Nat.le_of_ble_eq_true rfl) d_Mo_init_30 (fun H locs hP hD hS => ?_)
  have hP : va_P (dC, dI) classes (pwM 2 (ad [h0, q6, q13]) (ad [0, c6, c13]) (sg (sg fv0_M 2 (.ref q6)) 3 (.ref q13))) H := hP
  have hD : va_D A (pwM 2 (ad [h0, q6, q13]) (ad [0, c6, c13]) (sg (sg fv0_M 2 (.ref q6)) 3 (.ref q13))) := hD
  refine lv_aload_n hx hb d_Mo_init_33 rfl (lv_at hl 0 rfl) ?_
  refine lv_iconst (v := 4) hx hb d_Mo_init_34 (by decide) ?_
  refine va_newa (atype := .int) (n := 4) (N' := 4) (a0 := (4, .inl (fun _ => 0))) hx hb (hts _ m_367) rfl hK hP hD hS hA (fun _ => rfl) (by decide) (by decide) (by decide) (Nat.le_of_ble_eq_true rfl) (Nat.le_of_ble_eq_true rfl) d_Mo_init_35 (fun q35 c35 H hK hP hD hS => ?_)
  have hK : va_K (dC, dI) classes ((ty_M (ad [0, c6, c13, c35])).take 3) s := hK
  refine W.widen (k := 3) (n := 12) (Nat.le_refl _) (Nat.le_refl _) ?_
  refine lv_dup hx hb d_Mo_init_37 rfl ?_
  refine lv_iconst (v := 0) hx hb d_Mo_init_38 (by decide) ?_
  refine lv_sipush (v := 1000) hx hb d_Mo_init_39 (by decide) ?_
  refine va_iast hx hb hK hP hD hS 3 2 rfl rfl (by unfold vp_in; decide) d_Mo_init_42 (fun H locs hP hD hS => ?_)
  refine lv_dup hx hb d_Mo_init_43 rfl ?_
  refine lv_iconst (v := 1) hx hb d_Mo_init_44 (by decide) ?_
  refine lv_sipush (v := 500) hx hb d_Mo_init_45 (by decide) ?_
  refine va_iast hx hb hK hP hD hS 3 2 rfl rfl (by unfold vp_in; decide) d_Mo_init_48 (fun H locs hP hD hS => ?_)
  refine lv_dup hx hb d_Mo_init_49 rfl ?_
  refine lv_iconst (v := 2) hx hb d_Mo_init_50 (by decide) ?_
  refine lv_sipush (v := 200) hx hb d_Mo_init_51 (by decide) ?_
  refine va_iast hx hb hK hP hD hS 3 2 rfl rfl (by unfold vp_in; decide) d_Mo_init_54 (fun H locs hP hD hS => ?_)
  refine lv_dup hx hb d_Mo_init_55 rfl ?_
  refine lv_iconst (v := 3) hx hb d_Mo_init_56 (by decide) ?_
  refine lv_bipush (v := 100) hx hb d_Mo_init_57 (by decide) ?_
  refine va_iast hx hb hK hP hD hS 3 2 rfl rfl (by unfold vp_in; decide) d_Mo_init_59 (fun H locs hP hD hS => ?_)
  have hP : va_P (dC, dI) classes (pwM 3 (ad [h0, q6, q13, q35]) (ad [0, c6, c13, c35]) (sg (sg fv0_M 2 (.ref q6)) 3 (.ref q13))) H := hP
  have hD : va_D A (pwM 3 (ad [h0, q6, q13, q35]) (ad [0, c6, c13, c35]) (sg (sg fv0_M 2 (.ref q6)) 3 (.ref q13))) := hD
  refine va_putF (D := (dC, dI)) (ci := 7) (v := .ref q35) (ty := (.array .int)) (C := R_Mo) (T := F_Mo) (N := 34) hx hb hts i_Mo t_Mo t_Mo_ok n_Mo hown hK hP hD hS 0 rfl rfl 4 (by decide) (hts _ m_225) (fun _ h9 => h9) rfl hin rfl (by decide +kernel) rfl rfl (Nat.le_of_ble_eq_true rfl) d_Mo_init_60 (fun H locs hP hD hS => ?_)
  have hP : va_P (dC, dI) classes (pwM 3 (ad [h0, q6, q13, q35]) (ad [0, c6, c13, c35]) (sg (sg (sg fv0_M 2 (.ref q6)) 3 (.ref q13)) 4 (.ref q35))) H := hP
  have hD : va_D A (pwM 3 (ad [h0, q6, q13, q35]) (ad [0, c6, c13, c35]) (sg (sg (sg fv0_M 2 (.ref q6)) 3 (.ref q13)) 4 (.ref q35))) := hD
  refine lv_aload_n hx hb d_Mo_init_63 rfl (lv_at hl 0 rfl) ?_
  refine lv_iconst (v := 4) hx hb d_Mo_init_64 (by decide) ?_
  refine va_newa (atype := .int) (n := 4) (N' := 4) (a0 := (4, .inl (fun _ => 0))) hx hb (hts _ m_367) rfl hK hP hD hS hA (fun _ => rfl) (by decide) (by decide) (by decide) (Nat.le_of_ble_eq_true rfl) (Nat.le_of_ble_eq_true rfl) d_Mo_init_65 (fun q65 c65 H hK hP hD hS => ?_)
  have hK : va_K (dC, dI) classes ((ty_M (ad [0, c6, c13, c35, c65])).take 4) s := hK
  refine W.widen (k := 4) (n := 16) (Nat.le_refl _) (Nat.le_refl _) ?_
  refine lv_dup hx hb d_Mo_init_67 rfl ?_
  refine lv_iconst (v := 0) hx hb d_Mo_init_68 (by decide) ?_
  refine lv_bipush (v := 30) hx hb d_Mo_init_69 (by decide) ?_
  refine va_iast hx hb hK hP hD hS 4 3 rfl rfl (by unfold vp_in; decide) d_Mo_init_71 (fun H locs hP hD hS => ?_)
  refine lv_dup hx hb d_Mo_init_72 rfl ?_
  refine lv_iconst (v := 1) hx hb d_Mo_init_73 (by decide) ?_
  refine lv_bipush (v := 30) hx hb d_Mo_init_74 (by decide) ?_
  refine va_iast hx hb hK hP hD hS 4 3 rfl rfl (by unfold vp_in; decide) d_Mo_init_76 (fun H locs hP hD hS => ?_)
  refine lv_dup hx hb d_Mo_init_77 rfl ?_
  refine lv_iconst (v := 2) hx hb d_Mo_init_78 (by decide) ?_
  refine lv_bipush (v := 30) hx hb d_Mo_init_79 (by decide) ?_
  refine va_iast hx hb hK hP hD hS 4 3 rfl rfl (by unfold vp_in; decide) d_Mo_init_81 (fun H locs hP hD hS => ?_)
  refine lv_dup hx hb d_Mo_init_82 rfl ?_
  refine lv_iconst (v := 3) hx hb d_Mo_init_83 (by decide) ?_
  refine lv_bipush (v := 30) hx hb d_Mo_init_84 (by decide) ?_
  refine va_iast hx hb hK hP hD hS 4 3 rfl rfl (by unfold vp_in; decide) d_Mo_init_86 (fun H locs hP hD hS => ?_)
  have hP : va_P (dC, dI) classes (pwM 4 (ad [h0, q6, q13, q35, q65]) (ad [0, c6, c13, c35, c65]) (sg (sg (sg fv0_M 2 (.ref q6)) 3 (.ref q13)) 4 (.ref q35))) H := hP
  have hD : va_D A (pwM 4 (ad [h0, q6, q13, q35, q65]) (ad [0, c6, c13, c35, c65]) (sg (sg (sg fv0_M 2 (.ref q6)) 3 (.ref q13)) 4 (.ref q35))) := hD
  refine va_putF (D := (dC, dI)) (ci := 7) (v := .ref q65) (ty := (.array .int)) (C := R_Mo) (T := F_Mo) (N := 34) hx hb hts i_Mo t_Mo t_Mo_ok n_Mo hown hK hP hD hS 0 rfl rfl 5 (by decide) (hts _ m_291) (fun _ h9 => h9) rfl hin rfl (by decide +kernel) rfl rfl (Nat.le_of_ble_eq_true rfl) d_Mo_init_87 (fun H locs hP hD hS => ?_)
  have hP : va_P (dC, dI) classes (pwM 4 (ad [h0, q6, q13, q35, q65]) (ad [0, c6, c13, c35, c65]) (sg (sg (sg (sg fv0_M 2 (.ref q6)) 3 (.ref q13)) 4 (.ref q35)) 5 (.ref q65))) H := hP
  have hD : va_D A (pwM 4 (ad [h0, q6, q13, q35, q65]) (ad [0, c6, c13, c35, c65]) (sg (sg (sg (sg fv0_M 2 (.ref q6)) 3 (.ref q13)) 4 (.ref q35)) 5 (.ref q65))) := hD
  refine lv_aload_n hx hb d_Mo_init_90 rfl (lv_at hl 0 rfl) ?_
  refine lv_bipush (v := 30) hx hb d_Mo_init_91 (by decide) ?_
  refine va_newa (atype := .int) (n := 30) (N' := 30) (a0 := (30, .inl (fun _ => 0))) hx hb (hts _ m_367) rfl hK hP hD hS hA (fun _ => rfl) (by decide) (by decide) (by decide) (Nat.le_of_ble_eq_true rfl) (Nat.le_of_ble_eq_true rfl) d_Mo_init_93 (fun q93 c93 H hK hP hD hS => ?_)
  have hP : va_P (dC, dI) classes (pwM 5 (ad [h0, q6, q13, q35, q65, q93]) (ad [0, c6, c13, c35, c65, c93]) (sg (sg (sg (sg fv0_M 2 (.ref q6)) 3 (.ref q13)) 4 (.ref q35)) 5 (.ref q65))) H := hP
  have hD : va_D A (pwM 5 (ad [h0, q6, q13, q35, q65, q93]) (ad [0, c6, c13, c35, c65, c93]) (sg (sg (sg (sg fv0_M 2 (.ref q6)) 3 (.ref q13)) 4 (.ref q35)) 5 (.ref q65))) := hD
  have hK : va_K (dC, dI) classes ((ty_M (ad [0, c6, c13, c35, c65, c93])).take 5) s := hK
  refine W.widen (k := 5) (n := 46) (Nat.le_refl _) (Nat.le_refl _) ?_
  refine va_putF (D := (dC, dI)) (ci := 7) (v := .ref q93) (ty := (.array .int)) (C := R_Mo) (T := F_Mo) (N := 34) hx hb hts i_Mo t_Mo t_Mo_ok n_Mo hown hK hP hD hS 0 rfl rfl 7 (by decide) (hts _ m_210) (fun _ h9 => h9) rfl hin rfl (by decide +kernel) rfl rfl (Nat.le_of_ble_eq_true rfl) d_Mo_init_95 (fun H locs hP hD hS => ?_)
  have hP : va_P (dC, dI) classes (pwM 5 (ad [h0, q6, q13, q35, q65, q93]) (ad [0, c6, c13, c35, c65, c93]) (sg (sg (sg (sg (sg fv0_M 2 (.ref q6)) 3 (.ref q13)) 4 (.ref q35)) 5 (.ref q65)) 7 (.ref q93))) H := hP
  have hD : va_D A (pwM 5 (ad [h0, q6, q13, q35, q65, q93]) (ad [0, c6, c13, c35, c65, c93]) (sg (sg (sg (sg (sg fv0_M 2 (.ref q6)) 3 (.ref q13)) 4 (.ref q35)) 5 (.ref q65)) 7 (.ref q93))) := hD
  refine lv_aload_n hx hb d_Mo_init_98 rfl (lv_at hl 0 rfl) ?_
  refine lv_bipush (v := 30) hx hb d_Mo_init_99 (by decide) ?_
  refine va_newa (atype := .int) (n := 30) (N' := 30) (a0 := (30, .inl (fun _ => 0))) hx hb (hts _ m_367) rfl hK hP hD hS hA (fun _ => rfl) (by decide) (by decide) (by decide) (Nat.le_of_ble_eq_true rfl) (Nat.le_of_ble_eq_true rfl) d_Mo_init_101 (fun q101 c101 H hK hP hD hS => ?_)
  have hP : va_P (dC, dI) classes (pwM 6 (ad [h0, q6, q13, q35, q65, q93, q101]) (ad [0, c6, c13, c35, c65, c93, c101]) (sg (sg (sg (sg (sg fv0_M 2 (.ref q6)) 3 (.ref q13)) 4 (.ref q35)) 5 (.ref q65)) 7 (.ref q93))) H := hP
  have hD : va_D A (pwM 6 (ad [h0, q6, q13, q35, q65, q93, q101]) (ad [0, c6, c13, c35, c65, c93, c101]) (sg (sg (sg (sg (sg fv0_M 2 (.ref q6)) 3 (.ref q13)) 4 (.ref q35)) 5 (.ref q65)) 7 (.ref q93))) := hD
  have hK : va_K (dC, dI) classes ((ty_M (ad [0, c6, c13, c35, c65, c93, c101])).take 6) s := hK
  refine W.widen (k := 6) (n := 76) (Nat.le_refl _) (Nat.le_refl _) ?_
  refine va_putF (D := (dC, dI)) (ci := 7) (v := .ref q101) (ty := (.array .int)) (C := R_Mo) (T := F_Mo) (N := 34) hx hb hts i_Mo t_Mo t_Mo_ok n_Mo hown hK hP hD hS 0 rfl rfl 8 (by decide) (hts _ m_211) (fun _ h9 => h9) rfl hin rfl (by decide +kernel) rfl rfl (Nat.le_of_ble_eq_true rfl) d_Mo_init_103 (fun H locs hP hD hS => ?_)
  have hP : va_P (dC, dI) classes (pwM 6 (ad [h0, q6, q13, q35, q65, q93, q101]) (ad [0, c6, c13, c35, c65, c93, c101]) (sg (sg (sg (sg (sg (sg fv0_M 2 (.ref q6)) 3 (.ref q13)) 4 (.ref q35)) 5 (.ref q65)) 7 (.ref q93)) 8 (.ref q101))) H := hP
  have hD : va_D A (pwM 6 (ad [h0, q6, q13, q35, q65, q93, q101]) (ad [0, c6, c13, c35, c65, c93, c101]) (sg (sg (sg (sg (sg (sg fv0_M 2 (.ref q6)) 3 (.ref q13)) 4 (.ref q35)) 5 (.ref q65)) 7 (.ref q93)) 8 (.ref q101))) := hD
  refine lv_aload_n hx hb d_Mo_init_106 rfl (lv_at hl 0 rfl) ?_
  refine lv_bipush (v := 30) hx hb d_Mo_init_107 (by decide) ?_
  refine va_newa (atype := .int) (n := 30) (N' := 30) (a0 := (30, .inl (fun _ => 0))) hx hb (hts _ m_367) rfl hK hP hD hS hA (fun _ => rfl) (by decide) (by decide) (by decide) (Nat.le_of_ble_eq_true rfl) (Nat.le_of_ble_eq_true rfl) d_Mo_init_109 (fun q109 c109 H hK hP hD hS => ?_)
  have hP : va_P (dC, dI) classes (pwM 7 (ad [h0, q6, q13, q35, q65, q93, q101, q109]) (ad [0, c6, c13, c35, c65, c93, c101, c109]) (sg (sg (sg (sg (sg (sg fv0_M 2 (.ref q6)) 3 (.ref q13)) 4 (.ref q35)) 5 (.ref q65)) 7 (.ref q93)) 8 (.ref q101))) H := hP
  have hD : va_D A (pwM 7 (ad [h0, q6, q13, q35, q65, q93, q101, q109]) (ad [0, c6, c13, c35, c65, c93, c101, c109]) (sg (sg (sg (sg (sg (sg fv0_M 2 (.ref q6)) 3 (.ref q13)) 4 (.ref q35)) 5 (.ref q65)) 7 (.ref q93)) 8 (.ref q101))) := hD
  have hK : va_K (dC, dI) classes ((ty_M (ad [0, c6, c13, c35, c65, c93, c101, c109])).take 7) s := hK
  refine W.widen (k := 7) (n := 106) (Nat.le_refl _) (Nat.le_refl _) ?_
  refine va_putF (D := (dC, dI)) (ci := 7) (v := .ref q109) (ty := (.array .int)) (C := R_Mo) (T := F_Mo) (N := 34) hx hb hts i_Mo t_Mo t_Mo_ok n_Mo hown hK hP hD hS 0 rfl rfl 9 (by decide) (hts _ m_212) (fun _ h9 => h9) rfl hin rfl (by decide +kernel) rfl rfl (Nat.le_of_ble_eq_true rfl) d_Mo_init_111 (fun H locs hP hD hS => ?_)
  have hP : va_P (dC, dI) classes (pwM 7 (ad [h0, q6, q13, q35, q65, q93, q101, q109]) (ad [0, c6, c13, c35, c65, c93, c101, c109]) (sg (sg (sg (sg (sg (sg (sg fv0_M 2 (.ref q6)) 3 (.ref q13)) 4 (.ref q35)) 5 (.ref q65)) 7 (.ref q93)) 8 (.ref q101)) 9 (.ref q109))) H := hP
  have hD : va_D A (pwM 7 (ad [h0, q6, q13, q35, q65, q93, q101, q109]) (ad [0, c6, c13, c35, c65, c93, c101, c109]) (sg (sg (sg (sg (sg (sg (sg fv0_M 2 (.ref q6)) 3 (.ref q13)) 4 (.ref q35)) 5 (.ref q65)) 7 (.ref q93)) 8 (.ref q101)) 9 (.ref q109))) := hD
  refine lv_aload_n hx hb d_Mo_init_114 rfl (lv_at hl 0 rfl) ?_
  refine lv_bipush (v := 30) hx hb d_Mo_init_115 (by decide) ?_
  refine va_newa (atype := .int) (n := 30) (N' := 30) (a0 := (30, .inl (fun _ => 0))) hx hb (hts _ m_367) rfl hK hP hD hS hA (fun _ => rfl) (by decide) (by decide) (by decide) (Nat.le_of_ble_eq_true rfl) (Nat.le_of_ble_eq_true rfl) d_Mo_init_117 (fun q117 c117 H hK hP hD hS => ?_)
  have hP : va_P (dC, dI) classes (pwM 8 (ad [h0, q6, q13, q35, q65, q93, q101, q109, q117]) (ad [0, c6, c13, c35, c65, c93, c101, c109, c117]) (sg (sg (sg (sg (sg (sg (sg fv0_M 2 (.ref q6)) 3 (.ref q13)) 4 (.ref q35)) 5 (.ref q65)) 7 (.ref q93)) 8 (.ref q101)) 9 (.ref q109))) H := hP
  have hD : va_D A (pwM 8 (ad [h0, q6, q13, q35, q65, q93, q101, q109, q117]) (ad [0, c6, c13, c35, c65, c93, c101, c109, c117]) (sg (sg (sg (sg (sg (sg (sg fv0_M 2 (.ref q6)) 3 (.ref q13)) 4 (.ref q35)) 5 (.ref q65)) 7 (.ref q93)) 8 (.ref q101)) 9 (.ref q109))) := hD
  have hK : va_K (dC, dI) classes ((ty_M (ad [0, c6, c13, c35, c65, c93, c101, c109, c117])).take 8) s := hK
  refine W.widen (k := 8) (n := 136) (Nat.le_refl _) (Nat.le_refl _) ?_
  refine va_putF (D := (dC, dI)) (ci := 7) (v := .ref q117) (ty := (.array .int)) (C := R_Mo) (T := F_Mo) (N := 34) hx hb hts i_Mo t_Mo t_Mo_ok n_Mo hown hK hP hD hS 0 rfl rfl 10 (by decide) (hts _ m_243) (fun _ h9 => h9) rfl hin rfl (by decide +kernel) rfl rfl (Nat.le_of_ble_eq_true rfl) d_Mo_init_119 (fun H locs hP hD hS => ?_)
  have hP : va_P (dC, dI) classes (pwM 8 (ad [h0, q6, q13, q35, q65, q93, q101, q109, q117]) (ad [0, c6, c13, c35, c65, c93, c101, c109, c117]) (sg (sg (sg (sg (sg (sg (sg (sg fv0_M 2 (.ref q6)) 3 (.ref q13)) 4 (.ref q35)) 5 (.ref q65)) 7 (.ref q93)) 8 (.ref q101)) 9 (.ref q109)) 10 (.ref q117))) H := hP
  have hD : va_D A (pwM 8 (ad [h0, q6, q13, q35, q65, q93, q101, q109, q117]) (ad [0, c6, c13, c35, c65, c93, c101, c109, c117]) (sg (sg (sg (sg (sg (sg (sg (sg fv0_M 2 (.ref q6)) 3 (.ref q13)) 4 (.ref q35)) 5 (.ref q65)) 7 (.ref q93)) 8 (.ref q101)) 9 (.ref q109)) 10 (.ref q117))) := hD
  refine lv_aload_n hx hb d_Mo_init_122 rfl (lv_at hl 0 rfl) ?_
  refine lv_bipush (v := 30) hx hb d_Mo_init_123 (by decide) ?_
  refine va_newa (atype := .int) (n := 30) (N' := 30) (a0 := (30, .inl (fun _ => 0))) hx hb (hts _ m_367) rfl hK hP hD hS hA (fun _ => rfl) (by decide) (by decide) (by decide) (Nat.le_of_ble_eq_true rfl) (Nat.le_of_ble_eq_true rfl) d_Mo_init_125 (fun q125 c125 H hK hP hD hS => ?_)
  have hP : va_P (dC, dI) classes (pwM 9 (ad [h0, q6, q13, q35, q65, q93, q101, q109, q117, q125]) (ad [0, c6, c13, c35, c65, c93, c101, c109, c117, c125]) (sg (sg (sg (sg (sg (sg (sg (sg fv0_M 2 (.ref q6)) 3 (.ref q13)) 4 (.ref q35)) 5 (.ref q65)) 7 (.ref q93)) 8 (.ref q101)) 9 (.ref q109)) 10 (.ref q117))) H := hP
  have hD : va_D A (pwM 9 (ad [h0, q6, q13, q35, q65, q93, q101, q109, q117, q125]) (ad [0, c6, c13, c35, c65, c93, c101, c109, c117, c125]) (sg (sg (sg (sg (sg (sg (sg (sg fv0_M 2 (.ref q6)) 3 (.ref q13)) 4 (.ref q35)) 5 (.ref q65)) 7 (.ref q93)) 8 (.ref q101)) 9 (.ref q109)) 10 (.ref q117))) := hD
  have hK : va_K (dC, dI) classes ((ty_M (ad [0, c6, c13, c35, c65, c93, c101, c109, c117, c125])).take 9) s := hK
  refine W.widen (k := 9) (n := 166) (Nat.le_refl _) (Nat.le_refl _) ?_
  refine va_putF (D := (dC, dI)) (ci := 7) (v := .ref q125) (ty := (.array .int)) (C := R_Mo) (T := F_Mo) (N := 34) hx hb hts i_Mo t_Mo t_Mo_ok n_Mo hown hK hP hD hS 0 rfl rfl 11 (by decide) (hts _ m_245) (fun _ h9 => h9) rfl hin rfl (by decide +kernel) rfl rfl (Nat.le_of_ble_eq_true rfl) d_Mo_init_127 (fun H locs hP hD hS => ?_)
  have hP : va_P (dC, dI) classes (pwM 9 (ad [h0, q6, q13, q35, q65, q93, q101, q109, q117, q125]) (ad [0, c6, c13, c35, c65, c93, c101, c109, c117, c125]) (sg (sg (sg (sg (sg (sg (sg (sg (sg fv0_M 2 (.ref q6)) 3 (.ref q13)) 4 (.ref q35)) 5 (.ref q65)) 7 (.ref q93)) 8 (.ref q101)) 9 (.ref q109)) 10 (.ref q117)) 11 (.ref q125))) H := hP
  have hD : va_D A (pwM 9 (ad [h0, q6, q13, q35, q65, q93, q101, q109, q117, q125]) (ad [0, c6, c13, c35, c65, c93, c101, c109, c117, c125]) (sg (sg (sg (sg (sg (sg (sg (sg (sg fv0_M 2 (.ref q6)) 3 (.ref q13)) 4 (.ref q35)) 5 (.ref q65)) 7 (.ref q93)) 8 (.ref q101)) 9 (.ref q109)) 10 (.ref q117)) 11 (.ref q125))) := hD
  refine lv_aload_n hx hb d_Mo_init_130 rfl (lv_at hl 0 rfl) ?_
  refine lv_bipush (v := 30) hx hb d_Mo_init_131 (by decide) ?_
  refine va_newa (atype := .int) (n := 30) (N' := 30) (a0 := (30, .inl (fun _ => 0))) hx hb (hts _ m_367) rfl hK hP hD hS hA (fun _ => rfl) (by decide) (by decide) (by decide) (Nat.le_of_ble_eq_true rfl) (Nat.le_of_ble_eq_true rfl) d_Mo_init_133 (fun q133 c133 H hK hP hD hS => ?_)
  have hP : va_P (dC, dI) classes (pwM 10 (ad [h0, q6, q13, q35, q65, q93, q101, q109, q117, q125, q133]) (ad [0, c6, c13, c35, c65, c93, c101, c109, c117, c125, c133]) (sg (sg (sg (sg (sg (sg (sg (sg (sg fv0_M 2 (.ref q6)) 3 (.ref q13)) 4 (.ref q35)) 5 (.ref q65)) 7 (.ref q93)) 8 (.ref q101)) 9 (.ref q109)) 10 (.ref q117)) 11 (.ref q125))) H := hP
  have hD : va_D A (pwM 10 (ad [h0, q6, q13, q35, q65, q93, q101, q109, q117, q125, q133]) (ad [0, c6, c13, c35, c65, c93, c101, c109, c117, c125, c133]) (sg (sg (sg (sg (sg (sg (sg (sg (sg fv0_M 2 (.ref q6)) 3 (.ref q13)) 4 (.ref q35)) 5 (.ref q65)) 7 (.ref q93)) 8 (.ref q101)) 9 (.ref q109)) 10 (.ref q117)) 11 (.ref q125))) := hD
  have hK : va_K (dC, dI) classes ((ty_M (ad [0, c6, c13, c35, c65, c93, c101, c109, c117, c125, c133])).take 10) s := hK
  refine W.widen (k := 10) (n := 196) (Nat.le_refl _) (Nat.le_refl _) ?_
  refine va_putF (D := (dC, dI)) (ci := 7) (v := .ref q133) (ty := (.array .int)) (C := R_Mo) (T := F_Mo) (N := 34) hx hb hts i_Mo t_Mo t_Mo_ok n_Mo hown hK hP hD hS 0 rfl rfl 12 (by decide) (hts _ m_224) (fun _ h9 => h9) rfl hin rfl (by decide +kernel) rfl rfl (Nat.le_of_ble_eq_true rfl) d_Mo_init_135 (fun H locs hP hD hS => ?_)
  have hP : va_P (dC, dI) classes (pwM 10 (ad [h0, q6, q13, q35, q65, q93, q101, q109, q117, q125, q133]) (ad [0, c6, c13, c35, c65, c93, c101, c109, c117, c125, c133]) (sg (sg (sg (sg (sg (sg (sg (sg (sg (sg fv0_M 2 (.ref q6)) 3 (.ref q13)) 4 (.ref q35)) 5 (.ref q65)) 7 (.ref q93)) 8 (.ref q101)) 9 (.ref q109)) 10 (.ref q117)) 11 (.ref q125)) 12 (.ref q133))) H := hP
  have hD : va_D A (pwM 10 (ad [h0, q6, q13, q35, q65, q93, q101, q109, q117, q125, q133]) (ad [0, c6, c13, c35, c65, c93, c101, c109, c117, c125, c133]) (sg (sg (sg (sg (sg (sg (sg (sg (sg (sg fv0_M 2 (.ref q6)) 3 (.ref q13)) 4 (.ref q35)) 5 (.ref q65)) 7 (.ref q93)) 8 (.ref q101)) 9 (.ref q109)) 10 (.ref q117)) 11 (.ref q125)) 12 (.ref q133))) := hD
  refine lv_aload_n hx hb d_Mo_init_138 rfl (lv_at hl 0 rfl) ?_
  refine lv_bipush (v := 100) hx hb d_Mo_init_139 (by decide) ?_
  refine va_newa (atype := .int) (n := 100) (N' := 100) (a0 := (100, .inl (fun _ => 0))) hx hb (hts _ m_367) rfl hK hP hD hS hA (fun _ => rfl) (by decide) (by decide) (by decide) (Nat.le_of_ble_eq_true rfl) (Nat.le_of_ble_eq_true rfl) d_Mo_init_141 (fun q141 c141 H hK hP hD hS => ?_)
  have hP : va_P (dC, dI) classes (pwM 11 (ad [h0, q6, q13, q35, q65, q93, q101, q109, q117, q125, q133, q141]) (ad [0, c6, c13, c35, c65, c93, c101, c109, c117, c125, c133, c141]) (sg (sg (sg (sg (sg (sg (sg (sg (sg (sg fv0_M 2 (.ref q6)) 3 (.ref q13)) 4 (.ref q35)) 5 (.ref q65)) 7 (.ref q93)) 8 (.ref q101)) 9 (.ref q109)) 10 (.ref q117)) 11 (.ref q125)) 12 (.ref q133))) H := hP
  have hD : va_D A (pwM 11 (ad [h0, q6, q13, q35, q65, q93, q101, q109, q117, q125, q133, q141]) (ad [0, c6, c13, c35, c65, c93, c101, c109, c117, c125, c133, c141]) (sg (sg (sg (sg (sg (sg (sg (sg (sg (sg fv0_M 2 (.ref q6)) 3 (.ref q13)) 4 (.ref q35)) 5 (.ref q65)) 7 (.ref q93)) 8 (.ref q101)) 9 (.ref q109)) 10 (.ref q117)) 11 (.ref q125)) 12 (.ref q133))) := hD
  have hK : va_K (dC, dI) classes ((ty_M (ad [0, c6, c13, c35, c65, c93, c101, c109, c117, c125, c133, c141])).take 11) s := hK
  refine W.widen (k := 11) (n := 296) (Nat.le_refl _) (Nat.le_refl _) ?_
  refine va_putF (D := (dC, dI)) (ci := 7) (v := .ref q141) (ty := (.array .int)) (C := R_Mo) (T := F_Mo) (N := 34) hx hb hts i_Mo t_Mo t_Mo_ok n_Mo hown hK hP hD hS 0 rfl rfl 14 (by decide) (hts _ m_206) (fun _ h9 => h9) rfl hin rfl (by decide +kernel) rfl rfl (Nat.le_of_ble_eq_true rfl) d_Mo_init_143 (fun H locs hP hD hS => ?_)
  have hP : va_P (dC, dI) classes (pwM 11 (ad [h0, q6, q13, q35, q65, q93, q101, q109, q117, q125, q133, q141]) (ad [0, c6, c13, c35, c65, c93, c101, c109, c117, c125, c133, c141]) (sg (sg (sg (sg (sg (sg (sg (sg (sg (sg (sg fv0_M 2 (.ref q6)) 3 (.ref q13)) 4 (.ref q35)) 5 (.ref q65)) 7 (.ref q93)) 8 (.ref q101)) 9 (.ref q109)) 10 (.ref q117)) 11 (.ref q125)) 12 (.ref q133)) 14 (.ref q141))) H := hP
  have hD : va_D A (pwM 11 (ad [h0, q6, q13, q35, q65, q93, q101, q109, q117, q125, q133, q141]) (ad [0, c6, c13, c35, c65, c93, c101, c109, c117, c125, c133, c141]) (sg (sg (sg (sg (sg (sg (sg (sg (sg (sg (sg fv0_M 2 (.ref q6)) 3 (.ref q13)) 4 (.ref q35)) 5 (.ref q65)) 7 (.ref q93)) 8 (.ref q101)) 9 (.ref q109)) 10 (.ref q117)) 11 (.ref q125)) 12 (.ref q133)) 14 (.ref q141))) := hD
  refine lv_aload_n hx hb d_Mo_init_146 rfl (lv_at hl 0 rfl) ?_
  refine lv_bipush (v := 100) hx hb d_Mo_init_147 (by decide) ?_
  refine va_newa (atype := .int) (n := 100) (N' := 100) (a0 := (100, .inl (fun _ => 0))) hx hb (hts _ m_367) rfl hK hP hD hS hA (fun _ => rfl) (by decide) (by decide) (by decide) (Nat.le_of_ble_eq_true rfl) (Nat.le_of_ble_eq_true rfl) d_Mo_init_149 (fun q149 c149 H hK hP hD hS => ?_)
  have hP : va_P (dC, dI) classes (pwM 12 (ad [h0, q6, q13, q35, q65, q93, q101, q109, q117, q125, q133, q141, q149]) (ad [0, c6, c13, c35, c65, c93, c101, c109, c117, c125, c133, c141, c149]) (sg (sg (sg (sg (sg (sg (sg (sg (sg (sg (sg fv0_M 2 (.ref q6)) 3 (.ref q13)) 4 (.ref q35)) 5 (.ref q65)) 7 (.ref q93)) 8 (.ref q101)) 9 (.ref q109)) 10 (.ref q117)) 11 (.ref q125)) 12 (.ref q133)) 14 (.ref q141))) H := hP
  have hD : va_D A (pwM 12 (ad [h0, q6, q13, q35, q65, q93, q101, q109, q117, q125, q133, q141, q149]) (ad [0, c6, c13, c35, c65, c93, c101, c109, c117, c125, c133, c141, c149]) (sg (sg (sg (sg (sg (sg (sg (sg (sg (sg (sg fv0_M 2 (.ref q6)) 3 (.ref q13)) 4 (.ref q35)) 5 (.ref q65)) 7 (.ref q93)) 8 (.ref q101)) 9 (.ref q109)) 10 (.ref q117)) 11 (.ref q125)) 12 (.ref q133)) 14 (.ref q141))) := hD
  have hK : va_K (dC, dI) classes ((ty_M (ad [0, c6, c13, c35, c65, c93, c101, c109, c117, c125, c133, c141, c149])).take 12) s := hK
  refine W.widen (k := 12) (n := 396) (Nat.le_refl _) (Nat.le_refl _) ?_
  refine va_putF (D := (dC, dI)) (ci := 7) (v := .ref q149) (ty := (.array .int)) (C := R_Mo) (T := F_Mo) (N := 34) hx hb hts i_Mo t_Mo t_Mo_ok n_Mo hown hK hP hD hS 0 rfl rfl 15 (by decide) (hts _ m_208) (fun _ h9 => h9) rfl hin rfl (by decide +kernel) rfl rfl (Nat.le_of_ble_eq_true rfl) d_Mo_init_151 (fun H locs hP hD hS => ?_)
  have hP : va_P (dC, dI) classes (pwM 12 (ad [h0, q6, q13, q35, q65, q93, q101, q109, q117, q125, q133, q141, q149]) (ad [0, c6, c13, c35, c65, c93, c101, c109, c117, c125, c133, c141, c149]) (sg (sg (sg (sg (sg (sg (sg (sg (sg (sg (sg (sg fv0_M 2 (.ref q6)) 3 (.ref q13)) 4 (.ref q35)) 5 (.ref q65)) 7 (.ref q93)) 8 (.ref q101)) 9 (.ref q109)) 10 (.ref q117)) 11 (.ref q125)) 12 (.ref q133)) 14 (.ref q141)) 15 (.ref q149))) H := hP
  have hD : va_D A (pwM 12 (ad [h0, q6, q13, q35, q65, q93, q101, q109, q117, q125, q133, q141, q149]) (ad [0, c6, c13, c35, c65, c93, c101, c109, c117, c125, c133, c141, c149]) (sg (sg (sg (sg (sg (sg (sg (sg (sg (sg (sg (sg fv0_M 2 (.ref q6)) 3 (.ref q13)) 4 (.ref q35)) 5 (.ref q65)) 7 (.ref q93)) 8 (.ref q101)) 9 (.ref q109)) 10 (.ref q117)) 11 (.ref q125)) 12 (.ref q133)) 14 (.ref q141)) 15 (.ref q149))) := hD
  refine lv_aload_n hx hb d_Mo_init_154 rfl (lv_at hl 0 rfl) ?_
  refine lv_bipush (v := 100) hx hb d_Mo_init_155 (by decide) ?_
  refine va_newa (atype := .int) (n := 100) (N' := 100) (a0 := (100, .inl (fun _ => 0))) hx hb (hts _ m_367) rfl hK hP hD hS hA (fun _ => rfl) (by decide) (by decide) (by decide) (Nat.le_of_ble_eq_true rfl) (Nat.le_of_ble_eq_true rfl) d_Mo_init_157 (fun q157 c157 H hK hP hD hS => ?_)
  have hP : va_P (dC, dI) classes (pwM 13 (ad [h0, q6, q13, q35, q65, q93, q101, q109, q117, q125, q133, q141, q149, q157]) (ad [0, c6, c13, c35, c65, c93, c101, c109, c117, c125, c133, c141, c149, c157]) (sg (sg (sg (sg (sg (sg (sg (sg (sg (sg (sg (sg fv0_M 2 (.ref q6)) 3 (.ref q13)) 4 (.ref q35)) 5 (.ref q65)) 7 (.ref q93)) 8 (.ref q101)) 9 (.ref q109)) 10 (.ref q117)) 11 (.ref q125)) 12 (.ref q133)) 14 (.ref q141)) 15 (.ref q149))) H := hP
  have hD : va_D A (pwM 13 (ad [h0, q6, q13, q35, q65, q93, q101, q109, q117, q125, q133, q141, q149, q157]) (ad [0, c6, c13, c35, c65, c93, c101, c109, c117, c125, c133, c141, c149, c157]) (sg (sg (sg (sg (sg (sg (sg (sg (sg (sg (sg (sg fv0_M 2 (.ref q6)) 3 (.ref q13)) 4 (.ref q35)) 5 (.ref q65)) 7 (.ref q93)) 8 (.ref q101)) 9 (.ref q109)) 10 (.ref q117)) 11 (.ref q125)) 12 (.ref q133)) 14 (.ref q141)) 15 (.ref q149))) := hD
  have hK : va_K (dC, dI) classes ((ty_M (ad [0, c6, c13, c35, c65, c93, c101, c109, c117, c125, c133, c141, c149, c157])).take 13) s := hK
  refine W.widen (k := 13) (n := 496) (Nat.le_refl _) (Nat.le_refl _) ?_
  refine va_putF (D := (dC, dI)) (ci := 7) (v := .ref q157) (ty := (.array .int)) (C := R_Mo) (T := F_Mo) (N := 34) hx hb hts i_Mo t_Mo t_Mo_ok n_Mo hown hK hP hD hS 0 rfl rfl 16 (by decide) (hts _ m_201) (fun _ h9 => h9) rfl hin rfl (by decide +kernel) rfl rfl (Nat.le_of_ble_eq_true rfl) d_Mo_init_159 (fun H locs hP hD hS => ?_)
  have hP : va_P (dC, dI) classes (pwM 13 (ad [h0, q6, q13, q35, q65, q93, q101, q109, q117, q125, q133, q141, q149, q157]) (ad [0, c6, c13, c35, c65, c93, c101, c109, c117, c125, c133, c141, c149, c157]) (sg (sg (sg (sg (sg (sg (sg (sg (sg (sg (sg (sg (sg fv0_M 2 (.ref q6)) 3 (.ref q13)) 4 (.ref q35)) 5 (.ref q65)) 7 (.ref q93)) 8 (.ref q101)) 9 (.ref q109)) 10 (.ref q117)) 11 (.ref q125)) 12 (.ref q133)) 14 (.ref q141)) 15 (.ref q149)) 16 (.ref q157))) H := hP
  have hD : va_D A (pwM 13 (ad [h0, q6, q13, q35, q65, q93, q101, q109, q117, q125, q133, q141, q149, q157]) (ad [0, c6, c13, c35, c65, c93, c101, c109, c117, c125, c133, c141, c149, c157]) (sg (sg (sg (sg (sg (sg (sg (sg (sg (sg (sg (sg (sg fv0_M 2 (.ref q6)) 3 (.ref q13)) 4 (.ref q35)) 5 (.ref q65)) 7 (.ref q93)) 8 (.ref q101)) 9 (.ref q109)) 10 (.ref q117)) 11 (.ref q125)) 12 (.ref q133)) 14 (.ref q141)) 15 (.ref q149)) 16 (.ref q157))) := hD
  refine lv_aload_n hx hb d_Mo_init_162 rfl (lv_at hl 0 rfl) ?_
  refine lv_bipush (v := 100) hx hb d_Mo_init_163 (by decide) ?_
  refine va_newa (atype := .int) (n := 100) (N' := 100) (a0 := (100, .inl (fun _ => 0))) hx hb (hts _ m_367) rfl hK hP hD hS hA (fun _ => rfl) (by decide) (by decide) (by decide) (Nat.le_of_ble_eq_true rfl) (Nat.le_of_ble_eq_true rfl) d_Mo_init_165 (fun q165 c165 H hK hP hD hS => ?_)
  have hP : va_P (dC, dI) classes (pwM 14 (ad [h0, q6, q13, q35, q65, q93, q101, q109, q117, q125, q133, q141, q149, q157, q165]) (ad [0, c6, c13, c35, c65, c93, c101, c109, c117, c125, c133, c141, c149, c157, c165]) (sg (sg (sg (sg (sg (sg (sg (sg (sg (sg (sg (sg (sg fv0_M 2 (.ref q6)) 3 (.ref q13)) 4 (.ref q35)) 5 (.ref q65)) 7 (.ref q93)) 8 (.ref q101)) 9 (.ref q109)) 10 (.ref q117)) 11 (.ref q125)) 12 (.ref q133)) 14 (.ref q141)) 15 (.ref q149)) 16 (.ref q157))) H := hP
  have hD : va_D A (pwM 14 (ad [h0, q6, q13, q35, q65, q93, q101, q109, q117, q125, q133, q141, q149, q157, q165]) (ad [0, c6, c13, c35, c65, c93, c101, c109, c117, c125, c133, c141, c149, c157, c165]) (sg (sg (sg (sg (sg (sg (sg (sg (sg (sg (sg (sg (sg fv0_M 2 (.ref q6)) 3 (.ref q13)) 4 (.ref q35)) 5 (.ref q65)) 7 (.ref q93)) 8 (.ref q101)) 9 (.ref q109)) 10 (.ref q117)) 11 (.ref q125)) 12 (.ref q133)) 14 (.ref q141)) 15 (.ref q149)) 16 (.ref q157))) := hD
  have hK : va_K (dC, dI) classes ((ty_M (ad [0, c6, c13, c35, c65, c93, c101, c109, c117, c125, c133, c141, c149, c157, c165])).take 14) s := hK
  refine W.widen (k := 14) (n := 596) (Nat.le_refl _) (Nat.le_refl _) ?_
  refine va_putF (D := (dC, dI)) (ci := 7) (v := .ref q165) (ty := (.array .int)) (C := R_Mo) (T := F_Mo) (N := 34) hx hb hts i_Mo t_Mo t_Mo_ok n_Mo hown hK hP hD hS 0 rfl rfl 17 (by decide) (hts _ m_199) (fun _ h9 => h9) rfl hin rfl (by decide +kernel) rfl rfl (Nat.le_of_ble_eq_true rfl) d_Mo_init_167 (fun H locs hP hD hS => ?_)
  have hP : va_P (dC, dI) classes (pwM 14 (ad [h0, q6, q13, q35, q65, q93, q101, q109, q117, q125, q133, q141, q149, q157, q165]) (ad [0, c6, c13, c35, c65, c93, c101, c109, c117, c125, c133, c141, c149, c157, c165]) (sg (sg (sg (sg (sg (sg (sg (sg (sg (sg (sg (sg (sg (sg fv0_M 2 (.ref q6)) 3 (.ref q13)) 4 (.ref q35)) 5 (.ref q65)) 7 (.ref q93)) 8 (.ref q101)) 9 (.ref q109)) 10 (.ref q117)) 11 (.ref q125)) 12 (.ref q133)) 14 (.ref q141)) 15 (.ref q149)) 16 (.ref q157)) 17 (.ref q165))) H := hP
  have hD : va_D A (pwM 14 (ad [h0, q6, q13, q35, q65, q93, q101, q109, q117, q125, q133, q141, q149, q157, q165]) (ad [0, c6, c13, c35, c65, c93, c101, c109, c117, c125, c133, c141, c149, c157, c165]) (sg (sg (sg (sg (sg (sg (sg (sg (sg (sg (sg (sg (sg (sg fv0_M 2 (.ref q6)) 3 (.ref q13)) 4 (.ref q35)) 5 (.ref q65)) 7 (.ref q93)) 8 (.ref q101)) 9 (.ref q109)) 10 (.ref q117)) 11 (.ref q125)) 12 (.ref q133)) 14 (.ref q141)) 15 (.ref q149)) 16 (.ref q157)) 17 (.ref q165))) := hD
  refine lv_aload_n hx hb d_Mo_init_170 rfl (lv_at hl 0 rfl) ?_
  refine lv_bipush (v := 16) hx hb d_Mo_init_171 (by decide) ?_
  refine va_newa (atype := .boolean) (n := 16) (N' := 16) (a0 := (16, .inl (fun _ => 0))) hx hb (hts _ m_374) rfl hK hP hD hS hA (fun _ => rfl) (by decide) (by decide) (by decide) (Nat.le_of_ble_eq_true rfl) (Nat.le_of_ble_eq_true rfl) d_Mo_init_173 (fun q173 c173 H hK hP hD hS => ?_)
  have hP : va_P (dC, dI) classes (pwM 15 (ad [h0, q6, q13, q35, q65, q93, q101, q109, q117, q125, q133, q141, q149, q157, q165, q173]) (ad [0, c6, c13, c35, c65, c93, c101, c109, c117, c125, c133, c141, c149, c157, c165, c173]) (sg (sg (sg (sg (sg (sg (sg (sg (sg (sg (sg (sg (sg (sg fv0_M 2 (.ref q6)) 3 (.ref q13)) 4 (.ref q35)) 5 (.ref q65)) 7 (.ref q93)) 8 (.ref q101)) 9 (.ref q109)) 10 (.ref q117)) 11 (.ref q125)) 12 (.ref q133)) 14 (.ref q141)) 15 (.ref q149)) 16 (.ref q157)) 17 (.ref q165))) H := hP
  have hD : va_D A (pwM 15 (ad [h0, q6, q13, q35, q65, q93, q101, q109, q117, q125, q133, q141, q149, q157, q165, q173]) (ad [0, c6, c13, c35, c65, c93, c101, c109, c117, c125, c133, c141, c149, c157, c165, c173]) (sg (sg (sg (sg (sg (sg (sg (sg (sg (sg (sg (sg (sg (sg fv0_M 2 (.ref q6)) 3 (.ref q13)) 4 (.ref q35)) 5 (.ref q65)) 7 (.ref q93)) 8 (.ref q101)) 9 (.ref q109)) 10 (.ref q117)) 11 (.ref q125)) 12 (.ref q133)) 14 (.ref q141)) 15 (.ref q149)) 16 (.ref q157)) 17 (.ref q165))) := hD
  have hK : va_K (dC, dI) classes ((ty_M (ad [0, c6, c13, c35, c65, c93, c101, c109, c117, c125, c133, c141, c149, c157, c165, c173])).take 15) s := hK
  refine W.widen (k := 15) (n := 612) (Nat.le_refl _) (Nat.le_refl _) ?_
  refine va_putF (D := (dC, dI)) (ci := 7) (v := .ref q173) (ty := (.array .boolean)) (C := R_Mo) (T := F_Mo) (N := 34) hx hb hts i_Mo t_Mo t_Mo_ok n_Mo hown hK hP hD hS 0 rfl rfl 18 (by decide) (hts _ m_233) (fun _ h9 => h9) rfl hin rfl (by decide +kernel) rfl rfl (Nat.le_of_ble_eq_true rfl) d_Mo_init_175 (fun H locs hP hD hS => ?_)
  have hP : va_P (dC, dI) classes (pwM 15 (ad [h0, q6, q13, q35, q65, q93, q101, q109, q117, q125, q133, q141, q149, q157, q165, q173]) (ad [0, c6, c13, c35, c65, c93, c101, c109, c117, c125, c133, c141, c149, c157, c165, c173]) (sg (sg (sg (sg (sg (sg (sg (sg (sg (sg (sg (sg (sg (sg (sg fv0_M 2 (.ref q6)) 3 (.ref q13)) 4 (.ref q35)) 5 (.ref q65)) 7 (.ref q93)) 8 (.ref q101)) 9 (.ref q109)) 10 (.ref q117)) 11 (.ref q125)) 12 (.ref q133)) 14 (.ref q141)) 15 (.ref q149)) 16 (.ref q157)) 17 (.ref q165)) 18 (.ref q173))) H := hP
  have hD : va_D A (pwM 15 (ad [h0, q6, q13, q35, q65, q93, q101, q109, q117, q125, q133, q141, q149, q157, q165, q173]) (ad [0, c6, c13, c35, c65, c93, c101, c109, c117, c125, c133, c141, c149, c157, c165, c173]) (sg (sg (sg (sg (sg (sg (sg (sg (sg (sg (sg (sg (sg (sg (sg fv0_M 2 (.ref q6)) 3 (.ref q13)) 4 (.ref q35)) 5 (.ref q65)) 7 (.ref q93)) 8 (.ref q101)) 9 (.ref q109)) 10 (.ref q117)) 11 (.ref q125)) 12 (.ref q133)) 14 (.ref q141)) 15 (.ref q149)) 16 (.ref q157)) 17 (.ref q165)) 18 (.ref q173))) := hD
  refine lv_aload_n hx hb d_Mo_init_178 rfl (lv_at hl 0 rfl) ?_
  refine lv_bipush (v := 16) hx hb d_Mo_init_179 (by decide) ?_
  refine va_newa (atype := .int) (n := 16) (N' := 16) (a0 := (16, .inl (fun _ => 0))) hx hb (hts _ m_367) rfl hK hP hD hS hA (fun _ => rfl) (by decide) (by decide) (by decide) (Nat.le_of_ble_eq_true rfl) (Nat.le_of_ble_eq_true rfl) d_Mo_init_181 (fun q181 c181 H hK hP hD hS => ?_)
  have hP : va_P (dC, dI) classes (pwM 16 (ad [h0, q6, q13, q35, q65, q93, q101, q109, q117, q125, q133, q141, q149, q157, q165, q173, q181]) (ad [0, c6, c13, c35, c65, c93, c101, c109, c117, c125, c133, c141, c149, c157, c165, c173, c181]) (sg (sg (sg (sg (sg (sg (sg (sg (sg (sg (sg (sg (sg (sg (sg fv0_M 2 (.ref q6)) 3 (.ref q13)) 4 (.ref q35)) 5 (.ref q65)) 7 (.ref q93)) 8 (.ref q101)) 9 (.ref q109)) 10 (.ref q117)) 11 (.ref q125)) 12 (.ref q133)) 14 (.ref q141)) 15 (.ref q149)) 16 (.ref q157)) 17 (.ref q165)) 18 (.ref q173))) H := hP
  have hD : va_D A (pwM 16 (ad [h0, q6, q13, q35, q65, q93, q101, q109, q117, q125, q133, q141, q149, q157, q165, q173, q181]) (ad [0, c6, c13, c35, c65, c93, c101, c109, c117, c125, c133, c141, c149, c157, c165, c173, c181]) (sg (sg (sg (sg (sg (sg (sg (sg (sg (sg (sg (sg (sg (sg (sg fv0_M 2 (.ref q6)) 3 (.ref q13)) 4 (.ref q35)) 5 (.ref q65)) 7 (.ref q93)) 8 (.ref q101)) 9 (.ref q109)) 10 (.ref q117)) 11 (.ref q125)) 12 (.ref q133)) 14 (.ref q141)) 15 (.ref q149)) 16 (.ref q157)) 17 (.ref q165)) 18 (.ref q173))) := hD
  have hK : va_K (dC, dI) classes ((ty_M (ad [0, c6, c13, c35, c65, c93, c101, c109, c117, c125, c133, c141, c149, c157, c165, c173, c181])).take 16) s := hK
  refine W.widen (k := 16) (n := 628) (Nat.le_refl _) (Nat.le_refl _) ?_
  refine va_putF (D := (dC, dI)) (ci := 7) (v := .ref q181) (ty := (.array .int)) (C := R_Mo) (T := F_Mo) (N := 34) hx hb hts i_Mo t_Mo t_Mo_ok n_Mo hown hK hP hD hS 0 rfl rfl 19 (by decide) (hts _ m_237) (fun _ h9 => h9) rfl hin rfl (by decide +kernel) rfl rfl (Nat.le_of_ble_eq_true rfl) d_Mo_init_183 (fun H locs hP hD hS => ?_)
  have hP : va_P (dC, dI) classes (pwM 16 (ad [h0, q6, q13, q35, q65, q93, q101, q109, q117, q125, q133, q141, q149, q157, q165, q173, q181]) (ad [0, c6, c13, c35, c65, c93, c101, c109, c117, c125, c133, c141, c149, c157, c165, c173, c181]) (sg (sg (sg (sg (sg (sg (sg (sg (sg (sg (sg (sg (sg (sg (sg (sg fv0_M 2 (.ref q6)) 3 (.ref q13)) 4 (.ref q35)) 5 (.ref q65)) 7 (.ref q93)) 8 (.ref q101)) 9 (.ref q109)) 10 (.ref q117)) 11 (.ref q125)) 12 (.ref q133)) 14 (.ref q141)) 15 (.ref q149)) 16 (.ref q157)) 17 (.ref q165)) 18 (.ref q173)) 19 (.ref q181))) H := hP
  have hD : va_D A (pwM 16 (ad [h0, q6, q13, q35, q65, q93, q101, q109, q117, q125, q133, q141, q149, q157, q165, q173, q181]) (ad [0, c6, c13, c35, c65, c93, c101, c109, c117, c125, c133, c141, c149, c157, c165, c173, c181]) (sg (sg (sg (sg (sg (sg (sg (sg (sg (sg (sg (sg (sg (sg (sg (sg fv0_M 2 (.ref q6)) 3 (.ref q13)) 4 (.ref q35)) 5 (.ref q65)) 7 (.ref q93)) 8 (.ref q101)) 9 (.ref q109)) 10 (.ref q117)) 11 (.ref q125)) 12 (.ref q133)) 14 (.ref q141)) 15 (.ref q149)) 16 (.ref q157)) 17 (.ref q165)) 18 (.ref q173)) 19 (.ref q181))) := hD
  refine lv_aload_n hx hb d_Mo_init_186 rfl (lv_at hl 0 rfl) ?_
  refine lv_bipush (v := 16) hx hb d_Mo_init_187 (by decide) ?_
  refine va_newa (atype := .int) (n := 16) (N' := 16) (a0 := (16, .inl (fun _ => 0))) hx hb (hts _ m_367) rfl hK hP hD hS hA (fun _ => rfl) (by decide) (by decide) (by decide) (Nat.le_of_ble_eq_true rfl) (Nat.le_of_ble_eq_true rfl) d_Mo_init_189 (fun q189 c189 H hK hP hD hS => ?_)
  have hP : va_P (dC, dI) classes (pwM 17 (ad [h0, q6, q13, q35, q65, q93, q101, q109, q117, q125, q133, q141, q149, q157, q165, q173, q181, q189]) (ad [0, c6, c13, c35, c65, c93, c101, c109, c117, c125, c133, c141, c149, c157, c165, c173, c181, c189]) (sg (sg (sg (sg (sg (sg (sg (sg (sg (sg (sg (sg (sg (sg (sg (sg fv0_M 2 (.ref q6)) 3 (.ref q13)) 4 (.ref q35)) 5 (.ref q65)) 7 (.ref q93)) 8 (.ref q101)) 9 (.ref q109)) 10 (.ref q117)) 11 (.ref q125)) 12 (.ref q133)) 14 (.ref q141)) 15 (.ref q149)) 16 (.ref q157)) 17 (.ref q165)) 18 (.ref q173)) 19 (.ref q181))) H := hP
  have hD : va_D A (pwM 17 (ad [h0, q6, q13, q35, q65, q93, q101, q109, q117, q125, q133, q141, q149, q157, q165, q173, q181, q189]) (ad [0, c6, c13, c35, c65, c93, c101, c109, c117, c125, c133, c141, c149, c157, c165, c173, c181, c189]) (sg (sg (sg (sg (sg (sg (sg (sg (sg (sg (sg (sg (sg (sg (sg (sg fv0_M 2 (.ref q6)) 3 (.ref q13)) 4 (.ref q35)) 5 (.ref q65)) 7 (.ref q93)) 8 (.ref q101)) 9 (.ref q109)) 10 (.ref q117)) 11 (.ref q125)) 12 (.ref q133)) 14 (.ref q141)) 15 (.ref q149)) 16 (.ref q157)) 17 (.ref q165)) 18 (.ref q173)) 19 (.ref q181))) := hD
  have hK : va_K (dC, dI) classes ((ty_M (ad [0, c6, c13, c35, c65, c93, c101, c109, c117, c125, c133, c141, c149, c157, c165, c173, c181, c189])).take 17) s := hK
  refine W.widen (k := 17) (n := 644) (Nat.le_refl _) (Nat.le_refl _) ?_
  refine va_putF (D := (dC, dI)) (ci := 7) (v := .ref q189) (ty := (.array .int)) (C := R_Mo) (T := F_Mo) (N := 34) hx hb hts i_Mo t_Mo t_Mo_ok n_Mo hown hK hP hD hS 0 rfl rfl 20 (by decide) (hts _ m_235) (fun _ h9 => h9) rfl hin rfl (by decide +kernel) rfl rfl (Nat.le_of_ble_eq_true rfl) d_Mo_init_191 (fun H locs hP hD hS => ?_)
  have hP : va_P (dC, dI) classes (pwM 17 (ad [h0, q6, q13, q35, q65, q93, q101, q109, q117, q125, q133, q141, q149, q157, q165, q173, q181, q189]) (ad [0, c6, c13, c35, c65, c93, c101, c109, c117, c125, c133, c141, c149, c157, c165, c173, c181, c189]) (sg (sg (sg (sg (sg (sg (sg (sg (sg (sg (sg (sg (sg (sg (sg (sg (sg fv0_M 2 (.ref q6)) 3 (.ref q13)) 4 (.ref q35)) 5 (.ref q65)) 7 (.ref q93)) 8 (.ref q101)) 9 (.ref q109)) 10 (.ref q117)) 11 (.ref q125)) 12 (.ref q133)) 14 (.ref q141)) 15 (.ref q149)) 16 (.ref q157)) 17 (.ref q165)) 18 (.ref q173)) 19 (.ref q181)) 20 (.ref q189))) H := hP
  have hD : va_D A (pwM 17 (ad [h0, q6, q13, q35, q65, q93, q101, q109, q117, q125, q133, q141, q149, q157, q165, q173, q181, q189]) (ad [0, c6, c13, c35, c65, c93, c101, c109, c117, c125, c133, c141, c149, c157, c165, c173, c181, c189]) (sg (sg (sg (sg (sg (sg (sg (sg (sg (sg (sg (sg (sg (sg (sg (sg (sg fv0_M 2 (.ref q6)) 3 (.ref q13)) 4 (.ref q35)) 5 (.ref q65)) 7 (.ref q93)) 8 (.ref q101)) 9 (.ref q109)) 10 (.ref q117)) 11 (.ref q125)) 12 (.ref q133)) 14 (.ref q141)) 15 (.ref q149)) 16 (.ref q157)) 17 (.ref q165)) 18 (.ref q173)) 19 (.ref q181)) 20 (.ref q189))) := hD
  refine lv_aload_n hx hb d_Mo_init_194 rfl (lv_at hl 0 rfl) ?_
  refine lv_bipush (v := 16) hx hb d_Mo_init_195 (by decide) ?_
  refine va_newa (atype := .int) (n := 16) (N' := 16) (a0 := (16, .inl (fun _ => 0))) hx hb (hts _ m_367) rfl hK hP hD hS hA (fun _ => rfl) (by decide) (by decide) (by decide) (Nat.le_of_ble_eq_true rfl) (Nat.le_of_ble_eq_true rfl) d_Mo_init_197 (fun q197 c197 H hK hP hD hS => ?_)
  have hP : va_P (dC, dI) classes (pwM 18 (ad [h0, q6, q13, q35, q65, q93, q101, q109, q117, q125, q133, q141, q149, q157, q165, q173, q181, q189, q197]) (ad [0, c6, c13, c35, c65, c93, c101, c109, c117, c125, c133, c141, c149, c157, c165, c173, c181, c189, c197]) (sg (sg (sg (sg (sg (sg (sg (sg (sg (sg (sg (sg (sg (sg (sg (sg (sg fv0_M 2 (.ref q6)) 3 (.ref q13)) 4 (.ref q35)) 5 (.ref q65)) 7 (.ref q93)) 8 (.ref q101)) 9 (.ref q109)) 10 (.ref q117)) 11 (.ref q125)) 12 (.ref q133)) 14 (.ref q141)) 15 (.ref q149)) 16 (.ref q157)) 17 (.ref q165)) 18 (.ref q173)) 19 (.ref q181)) 20 (.ref q189))) H := hP
  have hD : va_D A (pwM 18 (ad [h0, q6, q13, q35, q65, q93, q101, q109, q117, q125, q133, q141, q149, q157, q165, q173, q181, q189, q197]) (ad [0, c6, c13, c35, c65, c93, c101, c109, c117, c125, c133, c141, c149, c157, c165, c173, c181, c189, c197]) (sg (sg (sg (sg (sg (sg (sg (sg (sg (sg (sg (sg (sg (sg (sg (sg (sg fv0_M 2 (.ref q6)) 3 (.ref q13)) 4 (.ref q35)) 5 (.ref q65)) 7 (.ref q93)) 8 (.ref q101)) 9 (.ref q109)) 10 (.ref q117)) 11 (.ref q125)) 12 (.ref q133)) 14 (.ref q141)) 15 (.ref q149)) 16 (.ref q157)) 17 (.ref q165)) 18 (.ref q173)) 19 (.ref q181)) 20 (.ref q189))) := hD
  have hK : va_K (dC, dI) classes ((ty_M (ad [0, c6, c13, c35, c65, c93, c101, c109, c117, c125, c133, c141, c149, c157, c165, c173, c181, c189, c197])).take 18) s := hK
  refine W.widen (k := 18) (n := 660) (Nat.le_refl _) (Nat.le_refl _) ?_
  refine va_putF (D := (dC, dI)) (ci := 7) (v := .ref q197) (ty := (.array .int)) (C := R_Mo) (T := F_Mo) (N := 34) hx hb hts i_Mo t_Mo t_Mo_ok n_Mo hown hK hP hD hS 0 rfl rfl 21 (by decide) (hts _ m_234) (fun _ h9 => h9) rfl hin rfl (by decide +kernel) rfl rfl (Nat.le_of_ble_eq_true rfl) d_Mo_init_199 (fun H locs hP hD hS => ?_)
  have hP : va_P (dC, dI) classes (pwM 18 (ad [h0, q6, q13, q35, q65, q93, q101, q109, q117, q125, q133, q141, q149, q157, q165, q173, q181, q189, q197]) (ad [0, c6, c13, c35, c65, c93, c101, c109, c117, c125, c133, c141, c149, c157, c165, c173, c181, c189, c197]) (sg (sg (sg (sg (sg (sg (sg (sg (sg (sg (sg (sg (sg (sg (sg (sg (sg (sg fv0_M 2 (.ref q6)) 3 (.ref q13)) 4 (.ref q35)) 5 (.ref q65)) 7 (.ref q93)) 8 (.ref q101)) 9 (.ref q109)) 10 (.ref q117)) 11 (.ref q125)) 12 (.ref q133)) 14 (.ref q141)) 15 (.ref q149)) 16 (.ref q157)) 17 (.ref q165)) 18 (.ref q173)) 19 (.ref q181)) 20 (.ref q189)) 21 (.ref q197))) H := hP
  have hD : va_D A (pwM 18 (ad [h0, q6, q13, q35, q65, q93, q101, q109, q117, q125, q133, q141, q149, q157, q165, q173, q181, q189, q197]) (ad [0, c6, c13, c35, c65, c93, c101, c109, c117, c125, c133, c141, c149, c157, c165, c173, c181, c189, c197]) (sg (sg (sg (sg (sg (sg (sg (sg (sg (sg (sg (sg (sg (sg (sg (sg (sg (sg fv0_M 2 (.ref q6)) 3 (.ref q13)) 4 (.ref q35)) 5 (.ref q65)) 7 (.ref q93)) 8 (.ref q101)) 9 (.ref q109)) 10 (.ref q117)) 11 (.ref q125)) 12 (.ref q133)) 14 (.ref q141)) 15 (.ref q149)) 16 (.ref q157)) 17 (.ref q165)) 18 (.ref q173)) 19 (.ref q181)) 20 (.ref q189)) 21 (.ref q197))) := hD
  refine lv_aload_n hx hb d_Mo_init_202 rfl (lv_at hl 0 rfl) ?_
  refine lv_bipush (v := 7) hx hb d_Mo_init_203 (by decide) ?_
  refine va_newa (atype := .int) (n := 7) (N' := 7) (a0 := (7, .inl (fun _ => 0))) hx hb (hts _ m_367) rfl hK hP hD hS hA (fun _ => rfl) (by decide) (by decide) (by decide) (Nat.le_of_ble_eq_true rfl) (Nat.le_of_ble_eq_true rfl) d_Mo_init_205 (fun q205 c205 H hK hP hD hS => ?_)
  have hP : va_P (dC, dI) classes (pwM 19 (ad [h0, q6, q13, q35, q65, q93, q101, q109, q117, q125, q133, q141, q149, q157, q165, q173, q181, q189, q197, q205]) (ad [0, c6, c13, c35, c65, c93, c101, c109, c117, c125, c133, c141, c149, c157, c165, c173, c181, c189, c197, c205]) (sg (sg (sg (sg (sg (sg (sg (sg (sg (sg (sg (sg (sg (sg (sg (sg (sg (sg fv0_M 2 (.ref q6)) 3 (.ref q13)) 4 (.ref q35)) 5 (.ref q65)) 7 (.ref q93)) 8 (.ref q101)) 9 (.ref q109)) 10 (.ref q117)) 11 (.ref q125)) 12 (.ref q133)) 14 (.ref q141)) 15 (.ref q149)) 16 (.ref q157)) 17 (.ref q165)) 18 (.ref q173)) 19 (.ref q181)) 20 (.ref q189)) 21 (.ref q197))) H := hP
  have hD : va_D A (pwM 19 (ad [h0, q6, q13, q35, q65, q93, q101, q109, q117, q125, q133, q141, q149, q157, q165, q173, q181, q189, q197, q205]) (ad [0, c6, c13, c35, c65, c93, c101, c109, c117, c125, c133, c141, c149, c157, c165, c173, c181, c189, c197, c205]) (sg (sg (sg (sg (sg (sg (sg (sg (sg (sg (sg (sg (sg (sg (sg (sg (sg (sg fv0_M 2 (.ref q6)) 3 (.ref q13)) 4 (.ref q35)) 5 (.ref q65)) 7 (.ref q93)) 8 (.ref q101)) 9 (.ref q109)) 10 (.ref q117)) 11 (.ref q125)) 12 (.ref q133)) 14 (.ref q141)) 15 (.ref q149)) 16 (.ref q157)) 17 (.ref q165)) 18 (.ref q173)) 19 (.ref q181)) 20 (.ref q189)) 21 (.ref q197))) := hD
  have hK : va_K (dC, dI) classes ((ty_M (ad [0, c6, c13, c35, c65, c93, c101, c109, c117, c125, c133, c141, c149, c157, c165, c173, c181, c189, c197, c205])).take 19) s := hK
  refine W.widen (k := 19) (n := 667) (Nat.le_refl _) (Nat.le_refl _) ?_
  refine va_putF (D := (dC, dI)) (ci := 7) (v := .ref q205) (ty := (.array .int)) (C := R_Mo) (T := F_Mo) (N := 34) hx hb hts i_Mo t_Mo t_Mo_ok n_Mo hown hK hP hD hS 0 rfl rfl 23 (by decide) (hts _ m_331) (fun _ h9 => h9) rfl hin rfl (by decide +kernel) rfl rfl (Nat.le_of_ble_eq_true rfl) d_Mo_init_207 (fun H locs hP hD hS => ?_)
  have hP : va_P (dC, dI) classes (pwM 19 (ad [h0, q6, q13, q35, q65, q93, q101, q109, q117, q125, q133, q141, q149, q157, q165, q173, q181, q189, q197, q205]) (ad [0, c6, c13, c35, c65, c93, c101, c109, c117, c125, c133, c141, c149, c157, c165, c173, c181, c189, c197, c205]) (sg (sg (sg (sg (sg (sg (sg (sg (sg (sg (sg (sg (sg (sg (sg (sg (sg (sg (sg fv0_M 2 (.ref q6)) 3 (.ref q13)) 4 (.ref q35)) 5 (.ref q65)) 7 (.ref q93)) 8 (.ref q101)) 9 (.ref q109)) 10 (.ref q117)) 11 (.ref q125)) 12 (.ref q133)) 14 (.ref q141)) 15 (.ref q149)) 16 (.ref q157)) 17 (.ref q165)) 18 (.ref q173)) 19 (.ref q181)) 20 (.ref q189)) 21 (.ref q197)) 23 (.ref q205))) H := hP
  have hD : va_D A (pwM 19 (ad [h0, q6, q13, q35, q65, q93, q101, q109, q117, q125, q133, q141, q149, q157, q165, q173, q181, q189, q197, q205]) (ad [0, c6, c13, c35, c65, c93, c101, c109, c117, c125, c133, c141, c149, c157, c165, c173, c181, c189, c197, c205]) (sg (sg (sg (sg (sg (sg (sg (sg (sg (sg (sg (sg (sg (sg (sg (sg (sg (sg (sg fv0_M 2 (.ref q6)) 3 (.ref q13)) 4 (.ref q35)) 5 (.ref q65)) 7 (.ref q93)) 8 (.ref q101)) 9 (.ref q109)) 10 (.ref q117)) 11 (.ref q125)) 12 (.ref q133)) 14 (.ref q141)) 15 (.ref q149)) 16 (.ref q157)) 17 (.ref q165)) 18 (.ref q173)) 19 (.ref q181)) 20 (.ref q189)) 21 (.ref q197)) 23 (.ref q205))) := hD
  refine lv_aload_n hx hb d_Mo_init_210 rfl (lv_at hl 0 rfl) ?_
  refine lv_bipush (v := 7) hx hb d_Mo_init_211 (by decide) ?_
  refine va_newa (atype := .int) (n := 7) (N' := 7) (a0 := (7, .inl (fun _ => 0))) hx hb (hts _ m_367) rfl hK hP hD hS hA (fun _ => rfl) (by decide) (by decide) (by decide) (Nat.le_of_ble_eq_true rfl) (Nat.le_of_ble_eq_true rfl) d_Mo_init_213 (fun q213 c213 H hK hP hD hS => ?_)
  have hP : va_P (dC, dI) classes (pwM 20 (ad [h0, q6, q13, q35, q65, q93, q101, q109, q117, q125, q133, q141, q149, q157, q165, q173, q181, q189, q197, q205, q213]) (ad [0, c6, c13, c35, c65, c93, c101, c109, c117, c125, c133, c141, c149, c157, c165, c173, c181, c189, c197, c205, c213]) (sg (sg (sg (sg (sg (sg (sg (sg (sg (sg (sg (sg (sg (sg (sg (sg (sg (sg (sg fv0_M 2 (.ref q6)) 3 (.ref q13)) 4 (.ref q35)) 5 (.ref q65)) 7 (.ref q93)) 8 (.ref q101)) 9 (.ref q109)) 10 (.ref q117)) 11 (.ref q125)) 12 (.ref q133)) 14 (.ref q141)) 15 (.ref q149)) 16 (.ref q157)) 17 (.ref q165)) 18 (.ref q173)) 19 (.ref q181)) 20 (.ref q189)) 21 (.ref q197)) 23 (.ref q205))) H := hP
  have hD : va_D A (pwM 20 (ad [h0, q6, q13, q35, q65, q93, q101, q109, q117, q125, q133, q141, q149, q157, q165, q173, q181, q189, q197, q205, q213]) (ad [0, c6, c13, c35, c65, c93, c101, c109, c117, c125, c133, c141, c149, c157, c165, c173, c181, c189, c197, c205, c213]) (sg (sg (sg (sg (sg (sg (sg (sg (sg (sg (sg (sg (sg (sg (sg (sg (sg (sg (sg fv0_M 2 (.ref q6)) 3 (.ref q13)) 4 (.ref q35)) 5 (.ref q65)) 7 (.ref q93)) 8 (.ref q101)) 9 (.ref q109)) 10 (.ref q117)) 11 (.ref q125)) 12 (.ref q133)) 14 (.ref q141)) 15 (.ref q149)) 16 (.ref q157)) 17 (.ref q165)) 18 (.ref q173)) 19 (.ref q181)) 20 (.ref q189)) 21 (.ref q197)) 23 (.ref q205))) := hD
  have hK : va_K (dC, dI) classes ((ty_M (ad [0, c6, c13, c35, c65, c93, c101, c109, c117, c125, c133, c141, c149, c157, c165, c173, c181, c189, c197, c205, c213])).take 20) s := hK
  refine W.widen (k := 20) (n := 674) (Nat.le_refl _) (Nat.le_refl _) ?_
  refine va_putF (D := (dC, dI)) (ci := 7) (v := .ref q213) (ty := (.array .int)) (C := R_Mo) (T := F_Mo) (N := 34) hx hb hts i_Mo t_Mo t_Mo_ok n_Mo hown hK hP hD hS 0 rfl rfl 24 (by decide) (hts _ m_254) (fun _ h9 => h9) rfl hin rfl (by decide +kernel) rfl rfl (Nat.le_of_ble_eq_true rfl) d_Mo_init_215 (fun H locs hP hD hS => ?_)
  have hP : va_P (dC, dI) classes (pwM 20 (ad [h0, q6, q13, q35, q65, q93, q101, q109, q117, q125, q133, q141, q149, q157, q165, q173, q181, q189, q197, q205, q213]) (ad [0, c6, c13, c35, c65, c93, c101, c109, c117, c125, c133, c141, c149, c157, c165, c173, c181, c189, c197, c205, c213]) (sg (sg (sg (sg (sg (sg (sg (sg (sg (sg (sg (sg (sg (sg (sg (sg (sg (sg (sg (sg fv0_M 2 (.ref q6)) 3 (.ref q13)) 4 (.ref q35)) 5 (.ref q65)) 7 (.ref q93)) 8 (.ref q101)) 9 (.ref q109)) 10 (.ref q117)) 11 (.ref q125)) 12 (.ref q133)) 14 (.ref q141)) 15 (.ref q149)) 16 (.ref q157)) 17 (.ref q165)) 18 (.ref q173)) 19 (.ref q181)) 20 (.ref q189)) 21 (.ref q197)) 23 (.ref q205)) 24 (.ref q213))) H := hP
  have hD : va_D A (pwM 20 (ad [h0, q6, q13, q35, q65, q93, q101, q109, q117, q125, q133, q141, q149, q157, q165, q173, q181, q189, q197, q205, q213]) (ad [0, c6, c13, c35, c65, c93, c101, c109, c117, c125, c133, c141, c149, c157, c165, c173, c181, c189, c197, c205, c213]) (sg (sg (sg (sg (sg (sg (sg (sg (sg (sg (sg (sg (sg (sg (sg (sg (sg (sg (sg (sg fv0_M 2 (.ref q6)) 3 (.ref q13)) 4 (.ref q35)) 5 (.ref q65)) 7 (.ref q93)) 8 (.ref q101)) 9 (.ref q109)) 10 (.ref q117)) 11 (.ref q125)) 12 (.ref q133)) 14 (.ref q141)) 15 (.ref q149)) 16 (.ref q157)) 17 (.ref q165)) 18 (.ref q173)) 19 (.ref q181)) 20 (.ref q189)) 21 (.ref q197)) 23 (.ref q205)) 24 (.ref q213))) := hD
  refine lv_aload_n hx hb d_Mo_init_218 rfl (lv_at hl 0 rfl) ?_
  refine lv_sipush (v := 896) hx hb d_Mo_init_219 (by decide) ?_
  refine va_newa (atype := .int) (n := 896) (N' := 896) (a0 := (896, .inl (fun _ => 0))) hx hb (hts _ m_367) rfl hK hP hD hS hA (fun _ => rfl) (by decide) (by decide) (by decide) (Nat.le_of_ble_eq_true rfl) (Nat.le_of_ble_eq_true rfl) d_Mo_init_222 (fun q222 c222 H hK hP hD hS => ?_)
  have hP : va_P (dC, dI) classes (pwM 21 (ad [h0, q6, q13, q35, q65, q93, q101, q109, q117, q125, q133, q141, q149, q157, q165, q173, q181, q189, q197, q205, q213, q222]) (ad [0, c6, c13, c35, c65, c93, c101, c109, c117, c125, c133, c141, c149, c157, c165, c173, c181, c189, c197, c205, c213, c222]) (sg (sg (sg (sg (sg (sg (sg (sg (sg (sg (sg (sg (sg (sg (sg (sg (sg (sg (sg (sg fv0_M 2 (.ref q6)) 3 (.ref q13)) 4 (.ref q35)) 5 (.ref q65)) 7 (.ref q93)) 8 (.ref q101)) 9 (.ref q109)) 10 (.ref q117)) 11 (.ref q125)) 12 (.ref q133)) 14 (.ref q141)) 15 (.ref q149)) 16 (.ref q157)) 17 (.ref q165)) 18 (.ref q173)) 19 (.ref q181)) 20 (.ref q189)) 21 (.ref q197)) 23 (.ref q205)) 24 (.ref q213))) H := hP
  have hD : va_D A (pwM 21 (ad [h0, q6, q13, q35, q65, q93, q101, q109, q117, q125, q133, q141, q149, q157, q165, q173, q181, q189, q197, q205, q213, q222]) (ad [0, c6, c13, c35, c65, c93, c101, c109, c117, c125, c133, c141, c149, c157, c165, c173, c181, c189, c197, c205, c213, c222]) (sg (sg (sg (sg (sg (sg (sg (sg (sg (sg (sg (sg (sg (sg (sg (sg (sg (sg (sg (sg fv0_M 2 (.ref q6)) 3 (.ref q13)) 4 (.ref q35)) 5 (.ref q65)) 7 (.ref q93)) 8 (.ref q101)) 9 (.ref q109)) 10 (.ref q117)) 11 (.ref q125)) 12 (.ref q133)) 14 (.ref q141)) 15 (.ref q149)) 16 (.ref q157)) 17 (.ref q165)) 18 (.ref q173)) 19 (.ref q181)) 20 (.ref q189)) 21 (.ref q197)) 23 (.ref q205)) 24 (.ref q213))) := hD
  have hK : va_K (dC, dI) classes ((ty_M (ad [0, c6, c13, c35, c65, c93, c101, c109, c117, c125, c133, c141, c149, c157, c165, c173, c181, c189, c197, c205, c213, c222])).take 21) s := hK
  refine W.widen (k := 21) (n := 1570) (Nat.le_refl _) (Nat.le_refl _) ?_
  refine va_putF (D := (dC, dI)) (ci := 7) (v := .ref q222) (ty := (.array .int)) (C := R_Mo) (T := F_Mo) (N := 34) hx hb hts i_Mo t_Mo t_Mo_ok n_Mo hown hK hP hD hS 0 rfl rfl 25 (by decide) (hts _ m_256) (fun _ h9 => h9) rfl hin rfl (by decide +kernel) rfl rfl (Nat.le_of_ble_eq_true rfl) d_Mo_init_224 (fun H locs hP hD hS => ?_)
  have hP : va_P (dC, dI) classes (pwM 21 (ad [h0, q6, q13, q35, q65, q93, q101, q109, q117, q125, q133, q141, q149, q157, q165, q173, q181, q189, q197, q205, q213, q222]) (ad [0, c6, c13, c35, c65, c93, c101, c109, c117, c125, c133, c141, c149, c157, c165, c173, c181, c189, c197, c205, c213, c222]) (sg (sg (sg (sg (sg (sg (sg (sg (sg (sg (sg (sg (sg (sg (sg (sg (sg (sg (sg (sg (sg fv0_M 2 (.ref q6)) 3 (.ref q13)) 4 (.ref q35)) 5 (.ref q65)) 7 (.ref q93)) 8 (.ref q101)) 9 (.ref q109)) 10 (.ref q117)) 11 (.ref q125)) 12 (.ref q133)) 14 (.ref q141)) 15 (.ref q149)) 16 (.ref q157)) 17 (.ref q165)) 18 (.ref q173)) 19 (.ref q181)) 20 (.ref q189)) 21 (.ref q197)) 23 (.ref q205)) 24 (.ref q213)) 25 (.ref q222))) H := hP
  have hD : va_D A (pwM 21 (ad [h0, q6, q13, q35, q65, q93, q101, q109, q117, q125, q133, q141, q149, q157, q165, q173, q181, q189, q197, q205, q213, q222]) (ad [0, c6, c13, c35, c65, c93, c101, c109, c117, c125, c133, c141, c149, c157, c165, c173, c181, c189, c197, c205, c213, c222]) (sg (sg (sg (sg (sg (sg (sg (sg (sg (sg (sg (sg (sg (sg (sg (sg (sg (sg (sg (sg (sg fv0_M 2 (.ref q6)) 3 (.ref q13)) 4 (.ref q35)) 5 (.ref q65)) 7 (.ref q93)) 8 (.ref q101)) 9 (.ref q109)) 10 (.ref q117)) 11 (.ref q125)) 12 (.ref q133)) 14 (.ref q141)) 15 (.ref q149)) 16 (.ref q157)) 17 (.ref q165)) 18 (.ref q173)) 19 (.ref q181)) 20 (.ref q189)) 21 (.ref q197)) 23 (.ref q205)) 24 (.ref q213)) 25 (.ref q222))) := hD
  refine lv_aload_n hx hb d_Mo_init_227 rfl (lv_at hl 0 rfl) ?_
  refine lv_ldc (v := 500000) hx hb hown (hts _ m_414) d_Mo_init_228 ?_
  refine va_put (D := (dC, dI)) (ci := 7) (v := .int 500000) (ty := .int) (C := R_Mo) (T := F_Mo) (N := 34) hx hb hts i_Mo t_Mo t_Mo_ok n_Mo hown hK hP hD hS 0 rfl rfl 26 (by decide) (hts _ m_279) (fun _ h9 => h9) rfl (by decide +kernel) rfl rfl (Nat.le_of_ble_eq_true rfl) d_Mo_init_230 (fun H locs hP hD hS => ?_)
  have hP : va_P (dC, dI) classes (pwM 21 (ad [h0, q6, q13, q35, q65, q93, q101, q109, q117, q125, q133, q141, q149, q157, q165, q173, q181, q189, q197, q205, q213, q222]) (ad [0, c6, c13, c35, c65, c93, c101, c109, c117, c125, c133, c141, c149, c157, c165, c173, c181, c189, c197, c205, c213, c222]) (sg (sg (sg (sg (sg (sg (sg (sg (sg (sg (sg (sg (sg (sg (sg (sg (sg (sg (sg (sg (sg (sg fv0_M 2 (.ref q6)) 3 (.ref q13)) 4 (.ref q35)) 5 (.ref q65)) 7 (.ref q93)) 8 (.ref q101)) 9 (.ref q109)) 10 (.ref q117)) 11 (.ref q125)) 12 (.ref q133)) 14 (.ref q141)) 15 (.ref q149)) 16 (.ref q157)) 17 (.ref q165)) 18 (.ref q173)) 19 (.ref q181)) 20 (.ref q189)) 21 (.ref q197)) 23 (.ref q205)) 24 (.ref q213)) 25 (.ref q222)) 26 (.int 500000))) H := hP
  have hD : va_D A (pwM 21 (ad [h0, q6, q13, q35, q65, q93, q101, q109, q117, q125, q133, q141, q149, q157, q165, q173, q181, q189, q197, q205, q213, q222]) (ad [0, c6, c13, c35, c65, c93, c101, c109, c117, c125, c133, c141, c149, c157, c165, c173, c181, c189, c197, c205, c213, c222]) (sg (sg (sg (sg (sg (sg (sg (sg (sg (sg (sg (sg (sg (sg (sg (sg (sg (sg (sg (sg (sg (sg fv0_M 2 (.ref q6)) 3 (.ref q13)) 4 (.ref q35)) 5 (.ref q65)) 7 (.ref q93)) 8 (.ref q101)) 9 (.ref q109)) 10 (.ref q117)) 11 (.ref q125)) 12 (.ref q133)) 14 (.ref q141)) 15 (.ref q149)) 16 (.ref q157)) 17 (.ref q165)) 18 (.ref q173)) 19 (.ref q181)) 20 (.ref q189)) 21 (.ref q197)) 23 (.ref q205)) 24 (.ref q213)) 25 (.ref q222)) 26 (.int 500000))) := hD
  refine lv_aload_n hx hb d_Mo_init_233 rfl (lv_at hl 0 rfl) ?_
  refine lv_sipush (v := 5000) hx hb d_Mo_init_234 (by decide) ?_
  refine va_put (D := (dC, dI)) (ci := 7) (v := .int 5000) (ty := .int) (C := R_Mo) (T := F_Mo) (N := 34) hx hb hts i_Mo t_Mo t_Mo_ok n_Mo hown hK hP hD hS 0 rfl rfl 27 (by decide) (hts _ m_270) (fun _ h9 => h9) rfl (by decide +kernel) rfl rfl (Nat.le_of_ble_eq_true rfl) d_Mo_init_237 (fun H locs hP hD hS => ?_)
  have hP : va_P (dC, dI) classes (pwM 21 (ad [h0, q6, q13, q35, q65, q93, q101, q109, q117, q125, q133, q141, q149, q157, q165, q173, q181, q189, q197, q205, q213, q222]) (ad [0, c6, c13, c35, c65, c93, c101, c109, c117, c125, c133, c141, c149, c157, c165, c173, c181, c189, c197, c205, c213, c222]) (sg (sg (sg (sg (sg (sg (sg (sg (sg (sg (sg (sg (sg (sg (sg (sg (sg (sg (sg (sg (sg (sg (sg fv0_M 2 (.ref q6)) 3 (.ref q13)) 4 (.ref q35)) 5 (.ref q65)) 7 (.ref q93)) 8 (.ref q101)) 9 (.ref q109)) 10 (.ref q117)) 11 (.ref q125)) 12 (.ref q133)) 14 (.ref q141)) 15 (.ref q149)) 16 (.ref q157)) 17 (.ref q165)) 18 (.ref q173)) 19 (.ref q181)) 20 (.ref q189)) 21 (.ref q197)) 23 (.ref q205)) 24 (.ref q213)) 25 (.ref q222)) 26 (.int 500000)) 27 (.int 5000))) H := hP
  have hD : va_D A (pwM 21 (ad [h0, q6, q13, q35, q65, q93, q101, q109, q117, q125, q133, q141, q149, q157, q165, q173, q181, q189, q197, q205, q213, q222]) (ad [0, c6, c13, c35, c65, c93, c101, c109, c117, c125, c133, c141, c149, c157, c165, c173, c181, c189, c197, c205, c213, c222]) (sg (sg (sg (sg (sg (sg (sg (sg (sg (sg (sg (sg (sg (sg (sg (sg (sg (sg (sg (sg (sg (sg (sg fv0_M 2 (.ref q6)) 3 (.ref q13)) 4 (.ref q35)) 5 (.ref q65)) 7 (.ref q93)) 8 (.ref q101)) 9 (.ref q109)) 10 (.ref q117)) 11 (.ref q125)) 12 (.ref q133)) 14 (.ref q141)) 15 (.ref q149)) 16 (.ref q157)) 17 (.ref q165)) 18 (.ref q173)) 19 (.ref q181)) 20 (.ref q189)) 21 (.ref q197)) 23 (.ref q205)) 24 (.ref q213)) 25 (.ref q222)) 26 (.int 500000)) 27 (.int 5000))) := hD
  refine lv_aload_n hx hb d_Mo_init_240 rfl (lv_at hl 0 rfl) ?_
  refine lv_bipush (v := 124) hx hb d_Mo_init_241 (by decide) ?_
  refine va_newa (atype := .int) (n := 124) (N' := 124) (a0 := (124, .inl (fun _ => 0))) hx hb (hts _ m_367) rfl hK hP hD hS hA (fun _ => rfl) (by decide) (by decide) (by decide) (Nat.le_of_ble_eq_true rfl) (Nat.le_of_ble_eq_true rfl) d_Mo_init_243 (fun q243 c243 H hK hP hD hS => ?_)
  have hP : va_P (dC, dI) classes (pwM 22 (ad [h0, q6, q13, q35, q65, q93, q101, q109, q117, q125, q133, q141, q149, q157, q165, q173, q181, q189, q197, q205, q213, q222, q243]) (ad [0, c6, c13, c35, c65, c93, c101, c109, c117, c125, c133, c141, c149, c157, c165, c173, c181, c189, c197, c205, c213, c222, c243]) (sg (sg (sg (sg (sg (sg (sg (sg (sg (sg (sg (sg (sg (sg (sg (sg (sg (sg (sg (sg (sg (sg (sg fv0_M 2 (.ref q6)) 3 (.ref q13)) 4 (.ref q35)) 5 (.ref q65)) 7 (.ref q93)) 8 (.ref q101)) 9 (.ref q109)) 10 (.ref q117)) 11 (.ref q125)) 12 (.ref q133)) 14 (.ref q141)) 15 (.ref q149)) 16 (.ref q157)) 17 (.ref q165)) 18 (.ref q173)) 19 (.ref q181)) 20 (.ref q189)) 21 (.ref q197)) 23 (.ref q205)) 24 (.ref q213)) 25 (.ref q222)) 26 (.int 500000)) 27 (.int 5000))) H := hP
  have hD : va_D A (pwM 22 (ad [h0, q6, q13, q35, q65, q93, q101, q109, q117, q125, q133, q141, q149, q157, q165, q173, q181, q189, q197, q205, q213, q222, q243]) (ad [0, c6, c13, c35, c65, c93, c101, c109, c117, c125, c133, c141, c149, c157, c165, c173, c181, c189, c197, c205, c213, c222, c243]) (sg (sg (sg (sg (sg (sg (sg (sg (sg (sg (sg (sg (sg (sg (sg (sg (sg (sg (sg (sg (sg (sg (sg fv0_M 2 (.ref q6)) 3 (.ref q13)) 4 (.ref q35)) 5 (.ref q65)) 7 (.ref q93)) 8 (.ref q101)) 9 (.ref q109)) 10 (.ref q117)) 11 (.ref q125)) 12 (.ref q133)) 14 (.ref q141)) 15 (.ref q149)) 16 (.ref q157)) 17 (.ref q165)) 18 (.ref q173)) 19 (.ref q181)) 20 (.ref q189)) 21 (.ref q197)) 23 (.ref q205)) 24 (.ref q213)) 25 (.ref q222)) 26 (.int 500000)) 27 (.int 5000))) := hD
  have hK : va_K (dC, dI) classes ((ty_M (ad [0, c6, c13, c35, c65, c93, c101, c109, c117, c125, c133, c141, c149, c157, c165, c173, c181, c189, c197, c205, c213, c222, c243])).take 22) s := hK
  refine W.widen (k := 22) (n := 1694) (Nat.le_refl _) (Nat.le_refl _) ?_
  refine va_putF (D := (dC, dI)) (ci := 7) (v := .ref q243) (ty := (.array .int)) (C := R_Mo) (T := F_Mo) (N := 34) hx hb hts i_Mo t_Mo t_Mo_ok n_Mo hown hK hP hD hS 0 rfl rfl 29 (by decide) (hts _ m_268) (fun _ h9 => h9) rfl hin rfl (by decide +kernel) rfl rfl (Nat.le_of_ble_eq_true rfl) d_Mo_init_245 (fun H locs hP hD hS => ?_)
  have hP : va_P (dC, dI) classes (pwM 22 (ad [h0, q6, q13, q35, q65, q93, q101, q109, q117, q125, q133, q141, q149, q157, q165, q173, q181, q189, q197, q205, q213, q222, q243]) (ad [0, c6, c13, c35, c65, c93, c101, c109, c117, c125, c133, c141, c149, c157, c165, c173, c181, c189, c197, c205, c213, c222, c243]) (sg (sg (sg (sg (sg (sg (sg (sg (sg (sg (sg (sg (sg (sg (sg (sg (sg (sg (sg (sg (sg (sg (sg (sg fv0_M 2 (.ref q6)) 3 (.ref q13)) 4 (.ref q35)) 5 (.ref q65)) 7 (.ref q93)) 8 (.ref q101)) 9 (.ref q109)) 10 (.ref q117)) 11 (.ref q125)) 12 (.ref q133)) 14 (.ref q141)) 15 (.ref q149)) 16 (.ref q157)) 17 (.ref q165)) 18 (.ref q173)) 19 (.ref q181)) 20 (.ref q189)) 21 (.ref q197)) 23 (.ref q205)) 24 (.ref q213)) 25 (.ref q222)) 26 (.int 500000)) 27 (.int 5000)) 29 (.ref q243))) H := hP
  have hD : va_D A (pwM 22 (ad [h0, q6, q13, q35, q65, q93, q101, q109, q117, q125, q133, q141, q149, q157, q165, q173, q181, q189, q197, q205, q213, q222, q243]) (ad [0, c6, c13, c35, c65, c93, c101, c109, c117, c125, c133, c141, c149, c157, c165, c173, c181, c189, c197, c205, c213, c222, c243]) (sg (sg (sg (sg (sg (sg (sg (sg (sg (sg (sg (sg (sg (sg (sg (sg (sg (sg (sg (sg (sg (sg (sg (sg fv0_M 2 (.ref q6)) 3 (.ref q13)) 4 (.ref q35)) 5 (.ref q65)) 7 (.ref q93)) 8 (.ref q101)) 9 (.ref q109)) 10 (.ref q117)) 11 (.ref q125)) 12 (.ref q133)) 14 (.ref q141)) 15 (.ref q149)) 16 (.ref q157)) 17 (.ref q165)) 18 (.ref q173)) 19 (.ref q181)) 20 (.ref q189)) 21 (.ref q197)) 23 (.ref q205)) 24 (.ref q213)) 25 (.ref q222)) 26 (.int 500000)) 27 (.int 5000)) 29 (.ref q243))) := hD
  refine lv_aload_n hx hb d_Mo_init_248 rfl (lv_at hl 0 rfl) ?_
  refine lv_bipush (v := 30) hx hb d_Mo_init_249 (by decide) ?_
  refine va_newa (atype := .int) (n := 30) (N' := 30) (a0 := (30, .inl (fun _ => 0))) hx hb (hts _ m_367) rfl hK hP hD hS hA (fun _ => rfl) (by decide) (by decide) (by decide) (Nat.le_of_ble_eq_true rfl) (Nat.le_of_ble_eq_true rfl) d_Mo_init_251 (fun q251 c251 H hK hP hD hS => ?_)
  have hP : va_P (dC, dI) classes (pwM 23 (ad [h0, q6, q13, q35, q65, q93, q101, q109, q117, q125, q133, q141, q149, q157, q165, q173, q181, q189, q197, q205, q213, q222, q243, q251]) (ad [0, c6, c13, c35, c65, c93, c101, c109, c117, c125, c133, c141, c149, c157, c165, c173, c181, c189, c197, c205, c213, c222, c243, c251]) (sg (sg (sg (sg (sg (sg (sg (sg (sg (sg (sg (sg (sg (sg (sg (sg (sg (sg (sg (sg (sg (sg (sg (sg fv0_M 2 (.ref q6)) 3 (.ref q13)) 4 (.ref q35)) 5 (.ref q65)) 7 (.ref q93)) 8 (.ref q101)) 9 (.ref q109)) 10 (.ref q117)) 11 (.ref q125)) 12 (.ref q133)) 14 (.ref q141)) 15 (.ref q149)) 16 (.ref q157)) 17 (.ref q165)) 18 (.ref q173)) 19 (.ref q181)) 20 (.ref q189)) 21 (.ref q197)) 23 (.ref q205)) 24 (.ref q213)) 25 (.ref q222)) 26 (.int 500000)) 27 (.int 5000)) 29 (.ref q243))) H := hP
  have hD : va_D A (pwM 23 (ad [h0, q6, q13, q35, q65, q93, q101, q109, q117, q125, q133, q141, q149, q157, q165, q173, q181, q189, q197, q205, q213, q222, q243, q251]) (ad [0, c6, c13, c35, c65, c93, c101, c109, c117, c125, c133, c141, c149, c157, c165, c173, c181, c189, c197, c205, c213, c222, c243, c251]) (sg (sg (sg (sg (sg (sg (sg (sg (sg (sg (sg (sg (sg (sg (sg (sg (sg (sg (sg (sg (sg (sg (sg (sg fv0_M 2 (.ref q6)) 3 (.ref q13)) 4 (.ref q35)) 5 (.ref q65)) 7 (.ref q93)) 8 (.ref q101)) 9 (.ref q109)) 10 (.ref q117)) 11 (.ref q125)) 12 (.ref q133)) 14 (.ref q141)) 15 (.ref q149)) 16 (.ref q157)) 17 (.ref q165)) 18 (.ref q173)) 19 (.ref q181)) 20 (.ref q189)) 21 (.ref q197)) 23 (.ref q205)) 24 (.ref q213)) 25 (.ref q222)) 26 (.int 500000)) 27 (.int 5000)) 29 (.ref q243))) := hD
  have hK : va_K (dC, dI) classes ((ty_M (ad [0, c6, c13, c35, c65, c93, c101, c109, c117, c125, c133, c141, c149, c157, c165, c173, c181, c189, c197, c205, c213, c222, c243, c251])).take 23) s := hK
  refine W.widen (k := 23) (n := 1724) (Nat.le_refl _) (Nat.le_refl _) ?_
  refine va_putF (D := (dC, dI)) (ci := 7) (v := .ref q251) (ty := (.array .int)) (C := R_Mo) (T := F_Mo) (N := 34) hx hb hts i_Mo t_Mo t_Mo_ok n_Mo hown hK hP hD hS 0 rfl rfl 31 (by decide) (hts _ m_275) (fun _ h9 => h9) rfl hin rfl (by decide +kernel) rfl rfl (Nat.le_of_ble_eq_true rfl) d_Mo_init_253 (fun H locs hP hD hS => ?_)
  have hP : va_P (dC, dI) classes (pwM 23 (ad [h0, q6, q13, q35, q65, q93, q101, q109, q117, q125, q133, q141, q149, q157, q165, q173, q181, q189, q197, q205, q213, q222, q243, q251]) (ad [0, c6, c13, c35, c65, c93, c101, c109, c117, c125, c133, c141, c149, c157, c165, c173, c181, c189, c197, c205, c213, c222, c243, c251]) (sg (sg (sg (sg (sg (sg (sg (sg (sg (sg (sg (sg (sg (sg (sg (sg (sg (sg (sg (sg (sg (sg (sg (sg (sg fv0_M 2 (.ref q6)) 3 (.ref q13)) 4 (.ref q35)) 5 (.ref q65)) 7 (.ref q93)) 8 (.ref q101)) 9 (.ref q109)) 10 (.ref q117)) 11 (.ref q125)) 12 (.ref q133)) 14 (.ref q141)) 15 (.ref q149)) 16 (.ref q157)) 17 (.ref q165)) 18 (.ref q173)) 19 (.ref q181)) 20 (.ref q189)) 21 (.ref q197)) 23 (.ref q205)) 24 (.ref q213)) 25 (.ref q222)) 26 (.int 500000)) 27 (.int 5000)) 29 (.ref q243)) 31 (.ref q251))) H := hP
  have hD : va_D A (pwM 23 (ad [h0, q6, q13, q35, q65, q93, q101, q109, q117, q125, q133, q141, q149, q157, q165, q173, q181, q189, q197, q205, q213, q222, q243, q251]) (ad [0, c6, c13, c35, c65, c93, c101, c109, c117, c125, c133, c141, c149, c157, c165, c173, c181, c189, c197, c205, c213, c222, c243, c251]) (sg (sg (sg (sg (sg (sg (sg (sg (sg (sg (sg (sg (sg (sg (sg (sg (sg (sg (sg (sg (sg (sg (sg (sg (sg fv0_M 2 (.ref q6)) 3 (.ref q13)) 4 (.ref q35)) 5 (.ref q65)) 7 (.ref q93)) 8 (.ref q101)) 9 (.ref q109)) 10 (.ref q117)) 11 (.ref q125)) 12 (.ref q133)) 14 (.ref q141)) 15 (.ref q149)) 16 (.ref q157)) 17 (.ref q165)) 18 (.ref q173)) 19 (.ref q181)) 20 (.ref q189)) 21 (.ref q197)) 23 (.ref q205)) 24 (.ref q213)) 25 (.ref q222)) 26 (.int 500000)) 27 (.int 5000)) 29 (.ref q243)) 31 (.ref q251))) := hD
  refine lv_aload_n hx hb d_Mo_init_256 rfl (lv_at hl 0 rfl) ?_
  refine lv_bipush (v := 30) hx hb d_Mo_init_257 (by decide) ?_
  refine va_newa (atype := .int) (n := 30) (N' := 30) (a0 := (30, .inl (fun _ => 0))) hx hb (hts _ m_367) rfl hK hP hD hS hA (fun _ => rfl) (by decide) (by decide) (by decide) (Nat.le_of_ble_eq_true rfl) (Nat.le_of_ble_eq_true rfl) d_Mo_init_259 (fun q259 c259 H hK hP hD hS => ?_)
  have hP : va_P (dC, dI) classes (pwM 24 (ad [h0, q6, q13, q35, q65, q93, q101, q109, q117, q125, q133, q141, q149, q157, q165, q173, q181, q189, q197, q205, q213, q222, q243, q251, q259]) (ad [0, c6, c13, c35, c65, c93, c101, c109, c117, c125, c133, c141, c149, c157, c165, c173, c181, c189, c197, c205, c213, c222, c243, c251, c259]) (sg (sg (sg (sg (sg (sg (sg (sg (sg (sg (sg (sg (sg (sg (sg (sg (sg (sg (sg (sg (sg (sg (sg (sg (sg fv0_M 2 (.ref q6)) 3 (.ref q13)) 4 (.ref q35)) 5 (.ref q65)) 7 (.ref q93)) 8 (.ref q101)) 9 (.ref q109)) 10 (.ref q117)) 11 (.ref q125)) 12 (.ref q133)) 14 (.ref q141)) 15 (.ref q149)) 16 (.ref q157)) 17 (.ref q165)) 18 (.ref q173)) 19 (.ref q181)) 20 (.ref q189)) 21 (.ref q197)) 23 (.ref q205)) 24 (.ref q213)) 25 (.ref q222)) 26 (.int 500000)) 27 (.int 5000)) 29 (.ref q243)) 31 (.ref q251))) H := hP
  have hD : va_D A (pwM 24 (ad [h0, q6, q13, q35, q65, q93, q101, q109, q117, q125, q133, q141, q149, q157, q165, q173, q181, q189, q197, q205, q213, q222, q243, q251, q259]) (ad [0, c6, c13, c35, c65, c93, c101, c109, c117, c125, c133, c141, c149, c157, c165, c173, c181, c189, c197, c205, c213, c222, c243, c251, c259]) (sg (sg (sg (sg (sg (sg (sg (sg (sg (sg (sg (sg (sg (sg (sg (sg (sg (sg (sg (sg (sg (sg (sg (sg (sg fv0_M 2 (.ref q6)) 3 (.ref q13)) 4 (.ref q35)) 5 (.ref q65)) 7 (.ref q93)) 8 (.ref q101)) 9 (.ref q109)) 10 (.ref q117)) 11 (.ref q125)) 12 (.ref q133)) 14 (.ref q141)) 15 (.ref q149)) 16 (.ref q157)) 17 (.ref q165)) 18 (.ref q173)) 19 (.ref q181)) 20 (.ref q189)) 21 (.ref q197)) 23 (.ref q205)) 24 (.ref q213)) 25 (.ref q222)) 26 (.int 500000)) 27 (.int 5000)) 29 (.ref q243)) 31 (.ref q251))) := hD
  have hK : va_K (dC, dI) classes ((ty_M (ad [0, c6, c13, c35, c65, c93, c101, c109, c117, c125, c133, c141, c149, c157, c165, c173, c181, c189, c197, c205, c213, c222, c243, c251, c259])).take 24) s := hK
  refine W.widen (k := 24) (n := 1754) (Nat.le_refl _) (Nat.le_refl _) ?_
  refine va_putF (D := (dC, dI)) (ci := 7) (v := .ref q259) (ty := (.array .int)) (C := R_Mo) (T := F_Mo) (N := 34) hx hb hts i_Mo t_Mo t_Mo_ok n_Mo hown hK hP hD hS 0 rfl rfl 32 (by decide) (hts _ m_276) (fun _ h9 => h9) rfl hin rfl (by decide +kernel) rfl rfl (Nat.le_of_ble_eq_true rfl) d_Mo_init_261 (fun H locs hP hD hS => ?_)
  have hP : va_P (dC, dI) classes (pwM 24 (ad [h0, q6, q13, q35, q65, q93, q101, q109, q117, q125, q133, q141, q149, q157, q165, q173, q181, q189, q197, q205, q213, q222, q243, q251, q259]) (ad [0, c6, c13, c35, c65, c93, c101, c109, c117, c125, c133, c141, c149, c157, c165, c173, c181, c189, c197, c205, c213, c222, c243, c251, c259]) (sg (sg (sg (sg (sg (sg (sg (sg (sg (sg (sg (sg (sg (sg (sg (sg (sg (sg (sg (sg (sg (sg (sg (sg (sg (sg fv0_M 2 (.ref q6)) 3 (.ref q13)) 4 (.ref q35)) 5 (.ref q65)) 7 (.ref q93)) 8 (.ref q101)) 9 (.ref q109)) 10 (.ref q117)) 11 (.ref q125)) 12 (.ref q133)) 14 (.ref q141)) 15 (.ref q149)) 16 (.ref q157)) 17 (.ref q165)) 18 (.ref q173)) 19 (.ref q181)) 20 (.ref q189)) 21 (.ref q197)) 23 (.ref q205)) 24 (.ref q213)) 25 (.ref q222)) 26 (.int 500000)) 27 (.int 5000)) 29 (.ref q243)) 31 (.ref q251)) 32 (.ref q259))) H := hP
  have hD : va_D A (pwM 24 (ad [h0, q6, q13, q35, q65, q93, q101, q109, q117, q125, q133, q141, q149, q157, q165, q173, q181, q189, q197, q205, q213, q222, q243, q251, q259]) (ad [0, c6, c13, c35, c65, c93, c101, c109, c117, c125, c133, c141, c149, c157, c165, c173, c181, c189, c197, c205, c213, c222, c243, c251, c259]) (sg (sg (sg (sg (sg (sg (sg (sg (sg (sg (sg (sg (sg (sg (sg (sg (sg (sg (sg (sg (sg (sg (sg (sg (sg (sg fv0_M 2 (.ref q6)) 3 (.ref q13)) 4 (.ref q35)) 5 (.ref q65)) 7 (.ref q93)) 8 (.ref q101)) 9 (.ref q109)) 10 (.ref q117)) 11 (.ref q125)) 12 (.ref q133)) 14 (.ref q141)) 15 (.ref q149)) 16 (.ref q157)) 17 (.ref q165)) 18 (.ref q173)) 19 (.ref q181)) 20 (.ref q189)) 21 (.ref q197)) 23 (.ref q205)) 24 (.ref q213)) 25 (.ref q222)) 26 (.int 500000)) 27 (.int 5000)) 29 (.ref q243)) 31 (.ref q251)) 32 (.ref q259))) := hD
  refine lv_aload_n hx hb d_Mo_init_264 rfl (lv_at hl 0 rfl) ?_
  refine lv_iconst (v := (-1)) hx hb d_Mo_init_265 (by decide) ?_
  refine va_put (D := (dC, dI)) (ci := 7) (v := .int (-1)) (ty := .int) (C := R_Mo) (T := F_Mo) (N := 34) hx hb hts i_Mo t_Mo t_Mo_ok n_Mo hown hK hP hD hS 0 rfl rfl 33 (by decide) (hts _ m_345) (fun _ h9 => h9) rfl (by decide +kernel) rfl rfl (Nat.le_of_ble_eq_true rfl) d_Mo_init_266 (fun H locs hP hD hS => ?_)
  have hP : va_P (dC, dI) classes (pwM 24 (ad [h0, q6, q13, q35, q65, q93, q101, q109, q117, q125, q133, q141, q149, q157, q165, q173, q181, q189, q197, q205, q213, q222, q243, q251, q259]) (ad [0, c6, c13, c35, c65, c93, c101, c109, c117, c125, c133, c141, c149, c157, c165, c173, c181, c189, c197, c205, c213, c222, c243, c251, c259]) (sg (sg (sg (sg (sg (sg (sg (sg (sg (sg (sg (sg (sg (sg (sg (sg (sg (sg (sg (sg (sg (sg (sg (sg (sg (sg (sg fv0_M 2 (.ref q6)) 3 (.ref q13)) 4 (.ref q35)) 5 (.ref q65)) 7 (.ref q93)) 8 (.ref q101)) 9 (.ref q109)) 10 (.ref q117)) 11 (.ref q125)) 12 (.ref q133)) 14 (.ref q141)) 15 (.ref q149)) 16 (.ref q157)) 17 (.ref q165)) 18 (.ref q173)) 19 (.ref q181)) 20 (.ref q189)) 21 (.ref q197)) 23 (.ref q205)) 24 (.ref q213)) 25 (.ref q222)) 26 (.int 500000)) 27 (.int 5000)) 29 (.ref q243)) 31 (.ref q251)) 32 (.ref q259)) 33 (.int (-1)))) H := hP
  have hD : va_D A (pwM 24 (ad [h0, q6, q13, q35, q65, q93, q101, q109, q117, q125, q133, q141, q149, q157, q165, q173, q181, q189, q197, q205, q213, q222, q243, q251, q259]) (ad [0, c6, c13, c35, c65, c93, c101, c109, c117, c125, c133, c141, c149, c157, c165, c173, c181, c189, c197, c205, c213, c222, c243, c251, c259]) (sg (sg (sg (sg (sg (sg (sg (sg (sg (sg (sg (sg (sg (sg (sg (sg (sg (sg (sg (sg (sg (sg (sg (sg (sg (sg (sg fv0_M 2 (.ref q6)) 3 (.ref q13)) 4 (.ref q35)) 5 (.ref q65)) 7 (.ref q93)) 8 (.ref q101)) 9 (.ref q109)) 10 (.ref q117)) 11 (.ref q125)) 12 (.ref q133)) 14 (.ref q141)) 15 (.ref q149)) 16 (.ref q157)) 17 (.ref q165)) 18 (.ref q173)) 19 (.ref q181)) 20 (.ref q189)) 21 (.ref q197)) 23 (.ref q205)) 24 (.ref q213)) 25 (.ref q222)) 26 (.int 500000)) 27 (.int 5000)) 29 (.ref q243)) 31 (.ref q251)) 32 (.ref q259)) 33 (.int (-1)))) := hD
  exact W.vret hx hb hr (fun t ht hW => ⟨⟨((ad [h0, q6, q13, q35, q65, q93, q101, q109, q117, q125, q133, q141, q149, q157, q165, q173, q181, q189, q197, q205, q213, q222, q243, q251, q259]), (ad [0, c6, c13, c35, c65, c93, c101, c109, c117, c125, c133, c141, c149, c157, c165, c173, c181, c189, c197, c205, c213, c222, c243, c251, c259])), rfl, trivial, rfl, by rw [ht]; exact hP, va_K.moved hW.alike hK, hD⟩, hS.F ht⟩) hS.2.2 d_Mo_init_269

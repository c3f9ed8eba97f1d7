-- ===== PART A: goes FIRST, ahead of the names: the tables' words, and 'selects' of the private methods out of them =====
/-- a private method of a class that the tables say can be made, by its rows of tables_1 -/
def lw_okq (q : MethodName × Nat) : Prop := (q.1.cls ≠ "java/lang/invoke/MethodHandle" ∧ q.1.cls ≠ "java/lang/invoke/VarHandle") ∧ Cond.instantiable q.1.cls q.2 ∈ tables_1 ∧ Cond.privateMethod q.1 ∈ tables_1 ∧ Cond.instanceMethod q.1 ∈ tables_1
theorem lw_p0 : lw_okq (⟨"java/lang/Throwable", "fillInStackTrace", "(I)Ljava/lang/Throwable;"⟩, 6) := ⟨⟨by decide +kernel, by decide +kernel⟩, List.mem_of_getElem? (i := 310) (by decide +kernel), List.mem_of_getElem? (i := 308) (by decide +kernel), List.mem_of_getElem? (i := 309) (by decide +kernel)⟩
theorem lw_p1 : lw_okq (⟨"InspectRows", "isPoint", "(I)Z"⟩, 8) := ⟨⟨by decide +kernel, by decide +kernel⟩, List.mem_of_getElem? (i := 18) (by decide +kernel), List.mem_of_getElem? (i := 420) (by decide +kernel), List.mem_of_getElem? (i := 421) (by decide +kernel)⟩
theorem lw_p2 : lw_okq (⟨"InspectRows", "classOf", "(I)I"⟩, 8) := ⟨⟨by decide +kernel, by decide +kernel⟩, List.mem_of_getElem? (i := 18) (by decide +kernel), List.mem_of_getElem? (i := 431) (by decide +kernel), List.mem_of_getElem? (i := 432) (by decide +kernel)⟩
theorem lw_p3 : lw_okq (⟨"InspectRows", "riskOf", "(I)I"⟩, 8) := ⟨⟨by decide +kernel, by decide +kernel⟩, List.mem_of_getElem? (i := 18) (by decide +kernel), List.mem_of_getElem? (i := 435) (by decide +kernel), List.mem_of_getElem? (i := 436) (by decide +kernel)⟩
theorem lw_p4 : lw_okq (⟨"InspectRows", "fillRisks", "()V"⟩, 8) := ⟨⟨by decide +kernel, by decide +kernel⟩, List.mem_of_getElem? (i := 18) (by decide +kernel), List.mem_of_getElem? (i := 439) (by decide +kernel), List.mem_of_getElem? (i := 440) (by decide +kernel)⟩
theorem lw_p5 : lw_okq (⟨"InspectRows", "isFinding", "(I)Z"⟩, 8) := ⟨⟨by decide +kernel, by decide +kernel⟩, List.mem_of_getElem? (i := 18) (by decide +kernel), List.mem_of_getElem? (i := 471) (by decide +kernel), List.mem_of_getElem? (i := 472) (by decide +kernel)⟩
theorem lw_p6 : lw_okq (⟨"InspectRows", "firstDueDay", "(I)I"⟩, 8) := ⟨⟨by decide +kernel, by decide +kernel⟩, List.mem_of_getElem? (i := 18) (by decide +kernel), List.mem_of_getElem? (i := 510) (by decide +kernel), List.mem_of_getElem? (i := 511) (by decide +kernel)⟩
theorem lw_p7 : lw_okq (⟨"InspectRows", "countDueAhead", "(II)I"⟩, 8) := ⟨⟨by decide +kernel, by decide +kernel⟩, List.mem_of_getElem? (i := 18) (by decide +kernel), List.mem_of_getElem? (i := 525) (by decide +kernel), List.mem_of_getElem? (i := 526) (by decide +kernel)⟩
theorem lw_p8 : lw_okq (⟨"InspectRows", "isAhead", "(II)Z"⟩, 8) := ⟨⟨by decide +kernel, by decide +kernel⟩, List.mem_of_getElem? (i := 18) (by decide +kernel), List.mem_of_getElem? (i := 529) (by decide +kernel), List.mem_of_getElem? (i := 530) (by decide +kernel)⟩
theorem lw_p9 : lw_okq (⟨"InspectRows", "areAllPoints", "(JI)Z"⟩, 8) := ⟨⟨by decide +kernel, by decide +kernel⟩, List.mem_of_getElem? (i := 18) (by decide +kernel), List.mem_of_getElem? (i := 568) (by decide +kernel), List.mem_of_getElem? (i := 569) (by decide +kernel)⟩
theorem lw_p10 : lw_okq (⟨"InspectRows$Route", "fillLegs", "()V"⟩, 7) := ⟨⟨by decide +kernel, by decide +kernel⟩, List.mem_of_getElem? (i := 135) (by decide +kernel), List.mem_of_getElem? (i := 586) (by decide +kernel), List.mem_of_getElem? (i := 587) (by decide +kernel)⟩
theorem lw_p11 : lw_okq (⟨"InspectRows$Route", "fillLeastHome", "()V"⟩, 7) := ⟨⟨by decide +kernel, by decide +kernel⟩, List.mem_of_getElem? (i := 135) (by decide +kernel), List.mem_of_getElem? (i := 593) (by decide +kernel), List.mem_of_getElem? (i := 594) (by decide +kernel)⟩
theorem lw_p12 : lw_okq (⟨"InspectRows$Route", "firstLeastNext", "(II)I"⟩, 7) := ⟨⟨by decide +kernel, by decide +kernel⟩, List.mem_of_getElem? (i := 135) (by decide +kernel), List.mem_of_getElem? (i := 597) (by decide +kernel), List.mem_of_getElem? (i := 598) (by decide +kernel)⟩
theorem lw_p13 : lw_okq (⟨"InspectRows$Route", "metresBy", "(III)I"⟩, 7) := ⟨⟨by decide +kernel, by decide +kernel⟩, List.mem_of_getElem? (i := 135) (by decide +kernel), List.mem_of_getElem? (i := 602) (by decide +kernel), List.mem_of_getElem? (i := 603) (by decide +kernel)⟩
theorem lw_p14 : lw_okq (⟨"InspectRows$Route", "fillStops", "()V"⟩, 7) := ⟨⟨by decide +kernel, by decide +kernel⟩, List.mem_of_getElem? (i := 135) (by decide +kernel), List.mem_of_getElem? (i := 606) (by decide +kernel), List.mem_of_getElem? (i := 607) (by decide +kernel)⟩
theorem lw_p15 : lw_okq (⟨"InspectRows$Permits", "groundArea", "()J"⟩, 15) := ⟨⟨by decide +kernel, by decide +kernel⟩, List.mem_of_getElem? (i := 165) (by decide +kernel), List.mem_of_getElem? (i := 638) (by decide +kernel), List.mem_of_getElem? (i := 639) (by decide +kernel)⟩
def lw_privs_1 : List (MethodName × Nat) := [(⟨"java/lang/Throwable", "fillInStackTrace", "(I)Ljava/lang/Throwable;"⟩, 6), (⟨"InspectRows", "isPoint", "(I)Z"⟩, 8), (⟨"InspectRows", "classOf", "(I)I"⟩, 8), (⟨"InspectRows", "riskOf", "(I)I"⟩, 8), (⟨"InspectRows", "fillRisks", "()V"⟩, 8), (⟨"InspectRows", "isFinding", "(I)Z"⟩, 8), (⟨"InspectRows", "firstDueDay", "(I)I"⟩, 8), (⟨"InspectRows", "countDueAhead", "(II)I"⟩, 8), (⟨"InspectRows", "isAhead", "(II)Z"⟩, 8), (⟨"InspectRows", "areAllPoints", "(JI)Z"⟩, 8), (⟨"InspectRows$Route", "fillLegs", "()V"⟩, 7), (⟨"InspectRows$Route", "fillLeastHome", "()V"⟩, 7), (⟨"InspectRows$Route", "firstLeastNext", "(II)I"⟩, 7), (⟨"InspectRows$Route", "metresBy", "(III)I"⟩, 7), (⟨"InspectRows$Route", "fillStops", "()V"⟩, 7), (⟨"InspectRows$Permits", "groundArea", "()J"⟩, 15)]
theorem lw_r1 : ∀ q ∈ lw_privs_1, lw_okq q := List.forall_mem_cons.mpr ⟨lw_p0, List.forall_mem_cons.mpr ⟨lw_p1, List.forall_mem_cons.mpr ⟨lw_p2, List.forall_mem_cons.mpr ⟨lw_p3, List.forall_mem_cons.mpr ⟨lw_p4, List.forall_mem_cons.mpr ⟨lw_p5, List.forall_mem_cons.mpr ⟨lw_p6, List.forall_mem_cons.mpr ⟨lw_p7, List.forall_mem_cons.mpr ⟨lw_p8, List.forall_mem_cons.mpr ⟨lw_p9, List.forall_mem_cons.mpr ⟨lw_p10, List.forall_mem_cons.mpr ⟨lw_p11, List.forall_mem_cons.mpr ⟨lw_p12, List.forall_mem_cons.mpr ⟨lw_p13, List.forall_mem_cons.mpr ⟨lw_p14, List.forall_mem_cons.mpr ⟨lw_p15, fun _ h => absurd h List.not_mem_nil⟩⟩⟩⟩⟩⟩⟩⟩⟩⟩⟩⟩⟩⟩⟩⟩
theorem lw_p16 : lw_okq (⟨"InspectRows$Permits", "isTooNear", "(I)Z"⟩, 15) := ⟨⟨by decide +kernel, by decide +kernel⟩, List.mem_of_getElem? (i := 165) (by decide +kernel), List.mem_of_getElem? (i := 642) (by decide +kernel), List.mem_of_getElem? (i := 643) (by decide +kernel)⟩
theorem lw_p17 : lw_okq (⟨"InspectRowsModel", "throwing", "(ZZZ)Z"⟩, 34) := ⟨⟨by decide +kernel, by decide +kernel⟩, List.mem_of_getElem? (i := 686) (by decide +kernel), List.mem_of_getElem? (i := 807) (by decide +kernel), List.mem_of_getElem? (i := 808) (by decide +kernel)⟩
theorem lw_p18 : lw_okq (⟨"InspectRowsModel", "isPoint", "(I)Z"⟩, 34) := ⟨⟨by decide +kernel, by decide +kernel⟩, List.mem_of_getElem? (i := 686) (by decide +kernel), List.mem_of_getElem? (i := 833) (by decide +kernel), List.mem_of_getElem? (i := 834) (by decide +kernel)⟩
theorem lw_p19 : lw_okq (⟨"InspectRowsModel", "classOf", "(I)I"⟩, 34) := ⟨⟨by decide +kernel, by decide +kernel⟩, List.mem_of_getElem? (i := 686) (by decide +kernel), List.mem_of_getElem? (i := 841) (by decide +kernel), List.mem_of_getElem? (i := 842) (by decide +kernel)⟩
theorem lw_p20 : lw_okq (⟨"InspectRowsModel", "riskOf", "(I)I"⟩, 34) := ⟨⟨by decide +kernel, by decide +kernel⟩, List.mem_of_getElem? (i := 686) (by decide +kernel), List.mem_of_getElem? (i := 845) (by decide +kernel), List.mem_of_getElem? (i := 846) (by decide +kernel)⟩
theorem lw_p21 : lw_okq (⟨"InspectRowsModel", "isMissed", "(I)Z"⟩, 34) := ⟨⟨by decide +kernel, by decide +kernel⟩, List.mem_of_getElem? (i := 686) (by decide +kernel), List.mem_of_getElem? (i := 849) (by decide +kernel), List.mem_of_getElem? (i := 850) (by decide +kernel)⟩
theorem lw_p22 : lw_okq (⟨"InspectRowsModel", "add", "(III)V"⟩, 34) := ⟨⟨by decide +kernel, by decide +kernel⟩, List.mem_of_getElem? (i := 686) (by decide +kernel), List.mem_of_getElem? (i := 853) (by decide +kernel), List.mem_of_getElem? (i := 854) (by decide +kernel)⟩
theorem lw_p23 : lw_okq (⟨"InspectRowsModel", "dueFrom", "(I)I"⟩, 34) := ⟨⟨by decide +kernel, by decide +kernel⟩, List.mem_of_getElem? (i := 686) (by decide +kernel), List.mem_of_getElem? (i := 869) (by decide +kernel), List.mem_of_getElem? (i := 870) (by decide +kernel)⟩
theorem lw_p24 : lw_okq (⟨"InspectRowsModel", "isAhead", "(II)Z"⟩, 34) := ⟨⟨by decide +kernel, by decide +kernel⟩, List.mem_of_getElem? (i := 686) (by decide +kernel), List.mem_of_getElem? (i := 877) (by decide +kernel), List.mem_of_getElem? (i := 878) (by decide +kernel)⟩
theorem lw_p25 : lw_okq (⟨"InspectRowsModel", "go", "(IIZI)I"⟩, 34) := ⟨⟨by decide +kernel, by decide +kernel⟩, List.mem_of_getElem? (i := 686) (by decide +kernel), List.mem_of_getElem? (i := 889) (by decide +kernel), List.mem_of_getElem? (i := 890) (by decide +kernel)⟩
theorem lw_p26 : lw_okq (⟨"InspectRowsModel", "reckon", "(I)V"⟩, 34) := ⟨⟨by decide +kernel, by decide +kernel⟩, List.mem_of_getElem? (i := 686) (by decide +kernel), List.mem_of_getElem? (i := 900) (by decide +kernel), List.mem_of_getElem? (i := 901) (by decide +kernel)⟩
theorem lw_p27 : lw_okq (⟨"InspectRowsModel", "home", "(I)I"⟩, 34) := ⟨⟨by decide +kernel, by decide +kernel⟩, List.mem_of_getElem? (i := 686) (by decide +kernel), List.mem_of_getElem? (i := 904) (by decide +kernel), List.mem_of_getElem? (i := 905) (by decide +kernel)⟩
theorem lw_p28 : lw_okq (⟨"InspectRowsModel", "between", "(II)I"⟩, 34) := ⟨⟨by decide +kernel, by decide +kernel⟩, List.mem_of_getElem? (i := 686) (by decide +kernel), List.mem_of_getElem? (i := 912) (by decide +kernel), List.mem_of_getElem? (i := 913) (by decide +kernel)⟩
theorem lw_p29 : lw_okq (⟨"InspectRowsModel", "refusal", "(III)I"⟩, 34) := ⟨⟨by decide +kernel, by decide +kernel⟩, List.mem_of_getElem? (i := 686) (by decide +kernel), List.mem_of_getElem? (i := 939) (by decide +kernel), List.mem_of_getElem? (i := 940) (by decide +kernel)⟩
theorem lw_p30 : lw_okq (⟨"InspectRowsModel", "isNear", "(I)Z"⟩, 34) := ⟨⟨by decide +kernel, by decide +kernel⟩, List.mem_of_getElem? (i := 686) (by decide +kernel), List.mem_of_getElem? (i := 943) (by decide +kernel), List.mem_of_getElem? (i := 944) (by decide +kernel)⟩
def lw_privs_2 : List (MethodName × Nat) := [(⟨"InspectRows$Permits", "isTooNear", "(I)Z"⟩, 15), (⟨"InspectRowsModel", "throwing", "(ZZZ)Z"⟩, 34), (⟨"InspectRowsModel", "isPoint", "(I)Z"⟩, 34), (⟨"InspectRowsModel", "classOf", "(I)I"⟩, 34), (⟨"InspectRowsModel", "riskOf", "(I)I"⟩, 34), (⟨"InspectRowsModel", "isMissed", "(I)Z"⟩, 34), (⟨"InspectRowsModel", "add", "(III)V"⟩, 34), (⟨"InspectRowsModel", "dueFrom", "(I)I"⟩, 34), (⟨"InspectRowsModel", "isAhead", "(II)Z"⟩, 34), (⟨"InspectRowsModel", "go", "(IIZI)I"⟩, 34), (⟨"InspectRowsModel", "reckon", "(I)V"⟩, 34), (⟨"InspectRowsModel", "home", "(I)I"⟩, 34), (⟨"InspectRowsModel", "between", "(II)I"⟩, 34), (⟨"InspectRowsModel", "refusal", "(III)I"⟩, 34), (⟨"InspectRowsModel", "isNear", "(I)Z"⟩, 34)]
theorem lw_r2 : ∀ q ∈ lw_privs_2, lw_okq q := List.forall_mem_cons.mpr ⟨lw_p16, List.forall_mem_cons.mpr ⟨lw_p17, List.forall_mem_cons.mpr ⟨lw_p18, List.forall_mem_cons.mpr ⟨lw_p19, List.forall_mem_cons.mpr ⟨lw_p20, List.forall_mem_cons.mpr ⟨lw_p21, List.forall_mem_cons.mpr ⟨lw_p22, List.forall_mem_cons.mpr ⟨lw_p23, List.forall_mem_cons.mpr ⟨lw_p24, List.forall_mem_cons.mpr ⟨lw_p25, List.forall_mem_cons.mpr ⟨lw_p26, List.forall_mem_cons.mpr ⟨lw_p27, List.forall_mem_cons.mpr ⟨lw_p28, List.forall_mem_cons.mpr ⟨lw_p29, List.forall_mem_cons.mpr ⟨lw_p30, fun _ h => absurd h List.not_mem_nil⟩⟩⟩⟩⟩⟩⟩⟩⟩⟩⟩⟩⟩⟩⟩
def lw_privs : List (MethodName × Nat) := lw_privs_1 ++ (lw_privs_2)
def lw_tbl : List Cond := k2_sels lw_privs ++ tables_1
theorem lw_privs_ok : ∀ q ∈ lw_privs, lw_okq q := by
  show ∀ q ∈ lw_privs_1 ++ (lw_privs_2), lw_okq q
  exact List.forall_mem_append.mpr ⟨lw_r1, lw_r2⟩


def sg {α : Type} (f : Nat → α) (k : Nat) (v : α) : Nat → α := fun j => cond (Nat.beq j k) v (f j)
def s2 (ar : Nat → Nat → Int32) (k i : Nat) (x : Int32) : Nat → Nat → Int32 := fun j => cond (Nat.beq j k) (upd (ar k) i x) (ar j)
abbrev oS : Type := (Nat → Nat → Int32) × (Nat → Int32)
def rmD (d : Nat) : Room := { frames := d + 1, cells := 0, slots := 0, locals := 26 * d + 20 }
def rmX (d : Nat) : Room := { frames := d + 1, cells := 1, slots := 6, locals := 26 * d + 20 }
def w_all : List Cond := lw_tbl.filter goodWord
def nw_ok : Cond → Bool
  | .fieldLinkNest .. => true
  | .castable .. => true
  | .declares .. => true
  | _ => false
def nw_all : List Cond := lw_tbl.filter nw_ok
theorem nw_warm {w : Cond} {s U : State} (hw : nw_ok w = true) (hW : s.WarmedH U.vm) (h : va_Nw w s) : va_Nw w U := by
  cases w <;> first | exact va_Nw.warmF hW h | exact va_Nw.warmC hW h | exact va_Nw.warmD hW h | (simp [nw_ok] at hw)
theorem nw_same {w : Cond} {u U : State} (hw : nw_ok w = true) (hv : u.vm = U.vm) (h : va_Nw w u) : va_Nw w U := by
  cases w <;> first | exact va_Nw.same rfl hv h | (simp [nw_ok] at hw)
theorem g_all : GoodIn w_all w_all := fun w hw => ⟨hw, good_of_word (List.mem_filter.mp hw).2⟩
theorem g_one {w : Cond} (h : w ∈ w_all) : w ∈ w_all ∧ ((w.onTables && w.keeps) = true ∨ ∃ ty, w = .arrayClass ty) := g_all w h
theorem gC {y : MethodName} {b : ByteArray} {n : Nat} {r : Option FieldType} (h5 : Cond.code y b n r ∈ w_all) : GoodIn w_all (Cond.code y b n r :: w_all) := fun w hw => (List.mem_cons.mp hw).elim (fun e => by rw [e]; exact g_one h5) (fun h => g_all w h)
theorem gV {own C : String} {idx : Nat} {y : MethodName} {b : ByteArray} {n : Nat} {r : Option FieldType} (h1 : Cond.methodLink own idx y ∈ w_all) (h2 : Cond.instanceMethod y ∈ w_all) (h3 : Cond.selects C y y ∈ w_all) (h4 : Cond.initialized C ∈ w_all) (h5 : Cond.code y b n r ∈ w_all) : GoodIn w_all (wsV own idx C y (Cond.code y b n r :: w_all)) := by
  intro w hw
  unfold wsV at hw
  rcases List.mem_append.mp hw with hw | hw
  · simp only [List.mem_cons, List.not_mem_nil, or_false] at hw
    rcases hw with e | e | e | e <;> rw [e] <;> apply g_one <;> assumption
  · exact gC h5 w hw
theorem gS {own : String} {idx : Nat} {y : MethodName} {b : ByteArray} {n : Nat} {r : Option FieldType} (h1 : Cond.methodLink own idx y ∈ w_all) (h2 : Cond.static y ∈ w_all) (h4 : Cond.initialized own ∈ w_all) (h5 : Cond.code y b n r ∈ w_all) : GoodIn w_all (wsS own idx y (Cond.code y b n r :: w_all)) := by
  intro w hw
  unfold wsS at hw
  rcases List.mem_append.mp hw with hw | hw
  · simp only [List.mem_cons, List.not_mem_nil, or_false] at hw
    rcases hw with e | e | e <;> rw [e] <;> apply g_one <;> assumption
  · exact gC h5 w hw
def QcVoid : Array Value → State → Outcome → State → Prop := fun _ st o t => o = .returned none ∧ t.heap = st.heap
def QcReadL (r : Int64) : Array Value → State → Outcome → State → Prop := fun _ st o t => o = .returned (some (.long r)) ∧ t.heap = st.heap

def R_Ir : String := "InspectRows"
def F_Ir : u_T := fun k => match k with
  | 0 => ("InspectRows", "scale", "LInspectRows$Scale;", true)
  | 1 => ("InspectRows", "points", "LInspectRows$Points;", true)
  | 2 => ("InspectRows", "findings", "LInspectRows$Findings;", true)
  | 3 => ("InspectRows", "questions", "LInspectRows$Questions;", true)
  | 4 => ("InspectRows", "route", "LInspectRows$Route;", true)
  | 5 => ("InspectRows", "permits", "LInspectRows$Permits;", true)
  | 6 => ("InspectRows", "risks", "[I", true)
  | _ => ("InspectRows", "today", "I", false)
def t_Ir : Nat → FieldType := fun k => match k with
  | 0 => .object "InspectRows$Scale"
  | 1 => .object "InspectRows$Points"
  | 2 => .object "InspectRows$Findings"
  | 3 => .object "InspectRows$Questions"
  | 4 => .object "InspectRows$Route"
  | 5 => .object "InspectRows$Permits"
  | 6 => .array .int
  | _ => .int
theorem n_Ir : ∀ a, a < 8 → ∀ b, b < 8 → a ≠ b → (F_Ir a).2.1 ≠ (F_Ir b).2.1 := by decide +kernel
theorem t_Ir_ok : ∀ k, k < 8 → parseFieldDescriptor (F_Ir k).2.2.1 = some (t_Ir k) := by decide +kernel
abbrev b_Ir_init : ByteArray := prog_1_method_1_code
def y_Ir_init : MethodName := ⟨R_Ir, "<init>", "()V"⟩
abbrev z_Ir_init : List Cond := Cond.code y_Ir_init b_Ir_init 1 none :: w_all
abbrev b_Ir_weight : ByteArray := prog_1_method_2_code
def y_Ir_weight : MethodName := ⟨R_Ir, "weight", "(II)V"⟩
abbrev z_Ir_weight : List Cond := Cond.code y_Ir_weight b_Ir_weight 3 none :: w_all
abbrev b_Ir_steps : ByteArray := prog_1_method_3_code
def y_Ir_steps : MethodName := ⟨R_Ir, "steps", "(III)V"⟩
abbrev z_Ir_steps : List Cond := Cond.code y_Ir_steps b_Ir_steps 4 none :: w_all
abbrev b_Ir_interval : ByteArray := prog_1_method_4_code
def y_Ir_interval : MethodName := ⟨R_Ir, "interval", "(III)V"⟩
abbrev z_Ir_interval : List Cond := Cond.code y_Ir_interval b_Ir_interval 4 none :: w_all
abbrev b_Ir_point : ByteArray := prog_1_method_5_code
def y_Ir_point : MethodName := ⟨R_Ir, "point", "(IIIII)I"⟩
abbrev z_Ir_point : List Cond := Cond.code y_Ir_point b_Ir_point 6 (some .int) :: w_all
abbrev b_Ir_day : ByteArray := prog_1_method_6_code
def y_Ir_day : MethodName := ⟨R_Ir, "day", "(I)V"⟩
abbrev z_Ir_day : List Cond := Cond.code y_Ir_day b_Ir_day 2 none :: w_all
abbrev b_Ir_visit : ByteArray := prog_1_method_7_code
def y_Ir_visit : MethodName := ⟨R_Ir, "visit", "(I)V"⟩
abbrev z_Ir_visit : List Cond := Cond.code y_Ir_visit b_Ir_visit 2 none :: w_all
abbrev b_Ir_finding : ByteArray := prog_1_method_8_code
def y_Ir_finding : MethodName := ⟨R_Ir, "finding", "(III)I"⟩
abbrev z_Ir_finding : List Cond := Cond.code y_Ir_finding b_Ir_finding 5 (some .int) :: w_all
abbrev b_Ir_done : ByteArray := prog_1_method_9_code
def y_Ir_done : MethodName := ⟨R_Ir, "done", "(II)V"⟩
abbrev z_Ir_done : List Cond := Cond.code y_Ir_done b_Ir_done 3 none :: w_all
abbrev b_Ir_findingAt : ByteArray := prog_1_method_10_code
def y_Ir_findingAt : MethodName := ⟨R_Ir, "findingAt", "(II)I"⟩
abbrev z_Ir_findingAt : List Cond := Cond.code y_Ir_findingAt b_Ir_findingAt 3 (some .int) :: w_all
abbrev b_Ir_pointAt : ByteArray := prog_1_method_11_code
def y_Ir_pointAt : MethodName := ⟨R_Ir, "pointAt", "(II)I"⟩
abbrev z_Ir_pointAt : List Cond := Cond.code y_Ir_pointAt b_Ir_pointAt 3 (some .int) :: w_all
abbrev b_Ir_due : ByteArray := prog_1_method_12_code
def y_Ir_due : MethodName := ⟨R_Ir, "due", "(II)I"⟩
abbrev z_Ir_due : List Cond := Cond.code y_Ir_due b_Ir_due 4 (some .int) :: w_all
abbrev b_Ir_question : ByteArray := prog_1_method_13_code
def y_Ir_question : MethodName := ⟨R_Ir, "question", "(IIII)V"⟩
abbrev z_Ir_question : List Cond := Cond.code y_Ir_question b_Ir_question 5 none :: w_all
abbrev b_Ir_list : ByteArray := prog_1_method_14_code
def y_Ir_list : MethodName := ⟨R_Ir, "list", "(II)I"⟩
abbrev z_Ir_list : List Cond := Cond.code y_Ir_list b_Ir_list 5 (some .int) :: w_all
abbrev b_Ir_walk : ByteArray := prog_1_method_15_code
def y_Ir_walk : MethodName := ⟨R_Ir, "walk", "(JI)I"⟩
abbrev z_Ir_walk : List Cond := Cond.code y_Ir_walk b_Ir_walk 6 (some .int) :: w_all
abbrev b_Ir_stop : ByteArray := prog_1_method_16_code
def y_Ir_stop : MethodName := ⟨R_Ir, "stop", "(I)I"⟩
abbrev z_Ir_stop : List Cond := Cond.code y_Ir_stop b_Ir_stop 2 (some .int) :: w_all
abbrev b_Ir_rules : ByteArray := prog_1_method_17_code
def y_Ir_rules : MethodName := ⟨R_Ir, "rules", "(II)V"⟩
abbrev z_Ir_rules : List Cond := Cond.code y_Ir_rules b_Ir_rules 3 none :: w_all
abbrev b_Ir_permit : ByteArray := prog_1_method_18_code
def y_Ir_permit : MethodName := ⟨R_Ir, "permit", "(III)I"⟩
abbrev z_Ir_permit : List Cond := Cond.code y_Ir_permit b_Ir_permit 4 (some .int) :: w_all
abbrev b_Ir_ground : ByteArray := prog_1_method_19_code
def y_Ir_ground : MethodName := ⟨R_Ir, "ground", "(IIII)V"⟩
abbrev z_Ir_ground : List Cond := Cond.code y_Ir_ground b_Ir_ground 5 none :: w_all
abbrev b_Ir_clash : ByteArray := prog_1_method_20_code
def y_Ir_clash : MethodName := ⟨R_Ir, "clash", "()I"⟩
abbrev z_Ir_clash : List Cond := Cond.code y_Ir_clash b_Ir_clash 1 (some .int) :: w_all
abbrev b_Ir_touches : ByteArray := prog_1_method_21_code
def y_Ir_touches : MethodName := ⟨R_Ir, "touches", "(I)I"⟩
abbrev z_Ir_touches : List Cond := Cond.code y_Ir_touches b_Ir_touches 4 (some .int) :: w_all
abbrev b_Ir_surprise : ByteArray := prog_1_method_22_code
def y_Ir_surprise : MethodName := ⟨R_Ir, "surprise", "(I)I"⟩
abbrev z_Ir_surprise : List Cond := Cond.code y_Ir_surprise b_Ir_surprise 3 (some .int) :: w_all
abbrev b_Ir_requireKnown : ByteArray := prog_1_method_23_code
def y_Ir_requireKnown : MethodName := ⟨R_Ir, "requireKnown", "(Z)V"⟩
abbrev z_Ir_requireKnown : List Cond := Cond.code y_Ir_requireKnown b_Ir_requireKnown 1 none :: w_all
abbrev b_Ir_requireRange : ByteArray := prog_1_method_24_code
def y_Ir_requireRange : MethodName := ⟨R_Ir, "requireRange", "(Z)V"⟩
abbrev z_Ir_requireRange : List Cond := Cond.code y_Ir_requireRange b_Ir_requireRange 1 none :: w_all
abbrev b_Ir_requireState : ByteArray := prog_1_method_25_code
def y_Ir_requireState : MethodName := ⟨R_Ir, "requireState", "(Z)V"⟩
abbrev z_Ir_requireState : List Cond := Cond.code y_Ir_requireState b_Ir_requireState 1 none :: w_all
abbrev b_Ir_requireRoom : ByteArray := prog_1_method_26_code
def y_Ir_requireRoom : MethodName := ⟨R_Ir, "requireRoom", "(Z)V"⟩
abbrev z_Ir_requireRoom : List Cond := Cond.code y_Ir_requireRoom b_Ir_requireRoom 1 none :: w_all
abbrev b_Ir_isWithin : ByteArray := prog_1_method_27_code
def y_Ir_isWithin : MethodName := ⟨R_Ir, "isWithin", "(III)Z"⟩
abbrev z_Ir_isWithin : List Cond := Cond.code y_Ir_isWithin b_Ir_isWithin 3 (some .boolean) :: w_all
abbrev b_Ir_isKind : ByteArray := prog_1_method_28_code
def y_Ir_isKind : MethodName := ⟨R_Ir, "isKind", "(I)Z"⟩
abbrev z_Ir_isKind : List Cond := Cond.code y_Ir_isKind b_Ir_isKind 1 (some .boolean) :: w_all
abbrev b_Ir_isPoint : ByteArray := prog_1_method_29_code
def y_Ir_isPoint : MethodName := ⟨R_Ir, "isPoint", "(I)Z"⟩
abbrev z_Ir_isPoint : List Cond := Cond.code y_Ir_isPoint b_Ir_isPoint 2 (some .boolean) :: w_all
abbrev b_Ir_isFinding : ByteArray := prog_1_method_30_code
def y_Ir_isFinding : MethodName := ⟨R_Ir, "isFinding", "(I)Z"⟩
abbrev z_Ir_isFinding : List Cond := Cond.code y_Ir_isFinding b_Ir_isFinding 2 (some .boolean) :: w_all
abbrev b_Ir_isSide : ByteArray := prog_1_method_31_code
def y_Ir_isSide : MethodName := ⟨R_Ir, "isSide", "(II)Z"⟩
abbrev z_Ir_isSide : List Cond := Cond.code y_Ir_isSide b_Ir_isSide 2 (some .boolean) :: w_all
abbrev b_Ir_canLead : ByteArray := prog_1_method_32_code
def y_Ir_canLead : MethodName := ⟨R_Ir, "canLead", "(II)Z"⟩
abbrev z_Ir_canLead : List Cond := Cond.code y_Ir_canLead b_Ir_canLead 2 (some .boolean) :: w_all
abbrev b_Ir_toldPoint : ByteArray := prog_1_method_33_code
def y_Ir_toldPoint : MethodName := ⟨R_Ir, "toldPoint", "(JI)I"⟩
abbrev z_Ir_toldPoint : List Cond := Cond.code y_Ir_toldPoint b_Ir_toldPoint 3 (some .int) :: w_all
abbrev b_Ir_areAllPoints : ByteArray := prog_1_method_34_code
def y_Ir_areAllPoints : MethodName := ⟨R_Ir, "areAllPoints", "(JI)Z"⟩
abbrev z_Ir_areAllPoints : List Cond := Cond.code y_Ir_areAllPoints b_Ir_areAllPoints 5 (some .boolean) :: w_all
abbrev b_Ir_areAllDifferent : ByteArray := prog_1_method_35_code
def y_Ir_areAllDifferent : MethodName := ⟨R_Ir, "areAllDifferent", "(JI)Z"⟩
abbrev z_Ir_areAllDifferent : List Cond := Cond.code y_Ir_areAllDifferent b_Ir_areAllDifferent 6 (some .boolean) :: w_all
abbrev b_Ir_fillRisks : ByteArray := prog_1_method_36_code
def y_Ir_fillRisks : MethodName := ⟨R_Ir, "fillRisks", "()V"⟩
abbrev z_Ir_fillRisks : List Cond := Cond.code y_Ir_fillRisks b_Ir_fillRisks 2 none :: w_all
abbrev b_Ir_riskOf : ByteArray := prog_1_method_37_code
def y_Ir_riskOf : MethodName := ⟨R_Ir, "riskOf", "(I)I"⟩
abbrev z_Ir_riskOf : List Cond := Cond.code y_Ir_riskOf b_Ir_riskOf 2 (some .int) :: w_all
abbrev b_Ir_classOf : ByteArray := prog_1_method_38_code
def y_Ir_classOf : MethodName := ⟨R_Ir, "classOf", "(I)I"⟩
abbrev z_Ir_classOf : List Cond := Cond.code y_Ir_classOf b_Ir_classOf 2 (some .int) :: w_all
abbrev b_Ir_firstDueDay : ByteArray := prog_1_method_39_code
def y_Ir_firstDueDay : MethodName := ⟨R_Ir, "firstDueDay", "(I)I"⟩
abbrev z_Ir_firstDueDay : List Cond := Cond.code y_Ir_firstDueDay b_Ir_firstDueDay 3 (some .int) :: w_all
abbrev b_Ir_countDueAhead : ByteArray := prog_1_method_40_code
def y_Ir_countDueAhead : MethodName := ⟨R_Ir, "countDueAhead", "(II)I"⟩
abbrev z_Ir_countDueAhead : List Cond := Cond.code y_Ir_countDueAhead b_Ir_countDueAhead 5 (some .int) :: w_all
abbrev b_Ir_isAhead : ByteArray := prog_1_method_41_code
def y_Ir_isAhead : MethodName := ⟨R_Ir, "isAhead", "(II)Z"⟩
abbrev z_Ir_isAhead : List Cond := Cond.code y_Ir_isAhead b_Ir_isAhead 3 (some .boolean) :: w_all
def R_Scale : String := "InspectRows$Scale"
def F_Scale : u_T := fun k => match k with
  | 0 => ("InspectRows$Scale", "kindWeights", "[I", true)
  | 1 => ("InspectRows$Scale", "steps", "[I", true)
  | 2 => ("InspectRows$Scale", "intervals", "[I", true)
  | _ => ("InspectRows$Scale", "times", "[I", true)
def t_Scale : Nat → FieldType := fun k => match k with
  | 0 => .array .int
  | 1 => .array .int
  | 2 => .array .int
  | _ => .array .int
theorem n_Scale : ∀ a, a < 4 → ∀ b, b < 4 → a ≠ b → (F_Scale a).2.1 ≠ (F_Scale b).2.1 := by decide +kernel
theorem t_Scale_ok : ∀ k, k < 4 → parseFieldDescriptor (F_Scale k).2.2.1 = some (t_Scale k) := by decide +kernel
abbrev b_Scale_init : ByteArray := prog_7_method_1_code
def y_Scale_init : MethodName := ⟨R_Scale, "<init>", "()V"⟩
abbrev z_Scale_init : List Cond := Cond.code y_Scale_init b_Scale_init 1 none :: w_all
abbrev b_Scale_classFor : ByteArray := prog_7_method_2_code
def y_Scale_classFor : MethodName := ⟨R_Scale, "classFor", "(I)I"⟩
abbrev z_Scale_classFor : List Cond := Cond.code y_Scale_classFor b_Scale_classFor 4 (some .int) :: w_all
def R_Points : String := "InspectRows$Points"
def F_Points : u_T := fun k => match k with
  | 0 => ("InspectRows$Points", "kinds", "[I", true)
  | 1 => ("InspectRows$Points", "ownRisks", "[I", true)
  | 2 => ("InspectRows$Points", "xs", "[I", true)
  | 3 => ("InspectRows$Points", "ys", "[I", true)
  | 4 => ("InspectRows$Points", "visits", "[I", true)
  | _ => ("InspectRows$Points", "count", "I", false)
def t_Points : Nat → FieldType := fun k => match k with
  | 0 => .array .int
  | 1 => .array .int
  | 2 => .array .int
  | 3 => .array .int
  | 4 => .array .int
  | _ => .int
theorem n_Points : ∀ a, a < 6 → ∀ b, b < 6 → a ≠ b → (F_Points a).2.1 ≠ (F_Points b).2.1 := by decide +kernel
theorem t_Points_ok : ∀ k, k < 6 → parseFieldDescriptor (F_Points k).2.2.1 = some (t_Points k) := by decide +kernel
abbrev b_Points_init : ByteArray := prog_4_method_1_code
def y_Points_init : MethodName := ⟨R_Points, "<init>", "()V"⟩
abbrev z_Points_init : List Cond := Cond.code y_Points_init b_Points_init 1 none :: w_all
abbrev b_Points_add : ByteArray := prog_4_method_2_code
def y_Points_add : MethodName := ⟨R_Points, "add", "(IIII)I"⟩
abbrev z_Points_add : List Cond := Cond.code y_Points_add b_Points_add 6 (some .int) :: w_all
def R_Findings : String := "InspectRows$Findings"
def F_Findings : u_T := fun k => match k with
  | 0 => ("InspectRows$Findings", "points", "[I", true)
  | 1 => ("InspectRows$Findings", "weights", "[I", true)
  | 2 => ("InspectRows$Findings", "days", "[I", true)
  | 3 => ("InspectRows$Findings", "proofs", "[I", true)
  | _ => ("InspectRows$Findings", "count", "I", false)
def t_Findings : Nat → FieldType := fun k => match k with
  | 0 => .array .int
  | 1 => .array .int
  | 2 => .array .int
  | 3 => .array .int
  | _ => .int
theorem n_Findings : ∀ a, a < 5 → ∀ b, b < 5 → a ≠ b → (F_Findings a).2.1 ≠ (F_Findings b).2.1 := by decide +kernel
theorem t_Findings_ok : ∀ k, k < 5 → parseFieldDescriptor (F_Findings k).2.2.1 = some (t_Findings k) := by decide +kernel
abbrev b_Findings_init : ByteArray := prog_2_method_1_code
def y_Findings_init : MethodName := ⟨R_Findings, "<init>", "()V"⟩
abbrev z_Findings_init : List Cond := Cond.code y_Findings_init b_Findings_init 1 none :: w_all
abbrev b_Findings_add : ByteArray := prog_2_method_2_code
def y_Findings_add : MethodName := ⟨R_Findings, "add", "(III)I"⟩
abbrev z_Findings_add : List Cond := Cond.code y_Findings_add b_Findings_add 5 (some .int) :: w_all
abbrev b_Findings_isOpen : ByteArray := prog_2_method_3_code
def y_Findings_isOpen : MethodName := ⟨R_Findings, "isOpen", "(I)Z"⟩
abbrev z_Findings_isOpen : List Cond := Cond.code y_Findings_isOpen b_Findings_isOpen 2 (some .boolean) :: w_all
abbrev b_Findings_isMissed : ByteArray := prog_2_method_4_code
def y_Findings_isMissed : MethodName := ⟨R_Findings, "isMissed", "(II)Z"⟩
abbrev z_Findings_isMissed : List Cond := Cond.code y_Findings_isMissed b_Findings_isMissed 3 (some .boolean) :: w_all
abbrev b_Findings_riskOn : ByteArray := prog_2_method_5_code
def y_Findings_riskOn : MethodName := ⟨R_Findings, "riskOn", "(II)I"⟩
abbrev z_Findings_riskOn : List Cond := Cond.code y_Findings_riskOn b_Findings_riskOn 3 (some .int) :: w_all
abbrev b_Findings_countOpen : ByteArray := prog_2_method_6_code
def y_Findings_countOpen : MethodName := ⟨R_Findings, "countOpen", "(I)I"⟩
abbrev z_Findings_countOpen : List Cond := Cond.code y_Findings_countOpen b_Findings_countOpen 4 (some .int) :: w_all
def R_Questions : String := "InspectRows$Questions"
def F_Questions : u_T := fun k => match k with
  | 0 => ("InspectRows$Questions", "told", "[Z", true)
  | 1 => ("InspectRows$Questions", "afterYes", "[I", true)
  | 2 => ("InspectRows$Questions", "afterNo", "[I", true)
  | 3 => ("InspectRows$Questions", "weights", "[I", true)
  | 4 => ("InspectRows$Questions", "found", "[I", true)
  | _ => ("InspectRows$Questions", "foundCount", "I", false)
def t_Questions : Nat → FieldType := fun k => match k with
  | 0 => .array .boolean
  | 1 => .array .int
  | 2 => .array .int
  | 3 => .array .int
  | 4 => .array .int
  | _ => .int
theorem n_Questions : ∀ a, a < 6 → ∀ b, b < 6 → a ≠ b → (F_Questions a).2.1 ≠ (F_Questions b).2.1 := by decide +kernel
theorem t_Questions_ok : ∀ k, k < 6 → parseFieldDescriptor (F_Questions k).2.2.1 = some (t_Questions k) := by decide +kernel
abbrev b_Questions_init : ByteArray := prog_5_method_1_code
def y_Questions_init : MethodName := ⟨R_Questions, "<init>", "()V"⟩
abbrev z_Questions_init : List Cond := Cond.code y_Questions_init b_Questions_init 1 none :: w_all
abbrev b_Questions_tell : ByteArray := prog_5_method_2_code
def y_Questions_tell : MethodName := ⟨R_Questions, "tell", "(IIII)V"⟩
abbrev z_Questions_tell : List Cond := Cond.code y_Questions_tell b_Questions_tell 5 none :: w_all
abbrev b_Questions_answer : ByteArray := prog_5_method_3_code
def y_Questions_answer : MethodName := ⟨R_Questions, "answer", "(I)Z"⟩
abbrev z_Questions_answer : List Cond := Cond.code y_Questions_answer b_Questions_answer 6 (some .boolean) :: w_all
def R_Route : String := "InspectRows$Route"
def F_Route : u_T := fun k => match k with
  | 0 => ("InspectRows$Route", "told", "[I", true)
  | 1 => ("InspectRows$Route", "xs", "[I", true)
  | 2 => ("InspectRows$Route", "ys", "[I", true)
  | 3 => ("InspectRows$Route", "legs", "[I", true)
  | 4 => ("InspectRows$Route", "leastHome", "[I", true)
  | 5 => ("InspectRows$Route", "stops", "[I", true)
  | _ => ("InspectRows$Route", "count", "I", false)
def t_Route : Nat → FieldType := fun k => match k with
  | 0 => .array .int
  | 1 => .array .int
  | 2 => .array .int
  | 3 => .array .int
  | 4 => .array .int
  | 5 => .array .int
  | _ => .int
theorem n_Route : ∀ a, a < 7 → ∀ b, b < 7 → a ≠ b → (F_Route a).2.1 ≠ (F_Route b).2.1 := by decide +kernel
theorem t_Route_ok : ∀ k, k < 7 → parseFieldDescriptor (F_Route k).2.2.1 = some (t_Route k) := by decide +kernel
abbrev b_Route_init : ByteArray := prog_6_method_1_code
def y_Route_init : MethodName := ⟨R_Route, "<init>", "()V"⟩
abbrev z_Route_init : List Cond := Cond.code y_Route_init b_Route_init 1 none :: w_all
abbrev b_Route_tell : ByteArray := prog_6_method_2_code
def y_Route_tell : MethodName := ⟨R_Route, "tell", "(IIII)V"⟩
abbrev z_Route_tell : List Cond := Cond.code y_Route_tell b_Route_tell 5 none :: w_all
abbrev b_Route_findLeast : ByteArray := prog_6_method_3_code
def y_Route_findLeast : MethodName := ⟨R_Route, "findLeast", "(I)I"⟩
abbrev z_Route_findLeast : List Cond := Cond.code y_Route_findLeast b_Route_findLeast 2 (some .int) :: w_all
abbrev b_Route_fillLegs : ByteArray := prog_6_method_4_code
def y_Route_fillLegs : MethodName := ⟨R_Route, "fillLegs", "()V"⟩
abbrev z_Route_fillLegs : List Cond := Cond.code y_Route_fillLegs b_Route_fillLegs 3 none :: w_all
abbrev b_Route_fillLeastHome : ByteArray := prog_6_method_5_code
def y_Route_fillLeastHome : MethodName := ⟨R_Route, "fillLeastHome", "()V"⟩
abbrev z_Route_fillLeastHome : List Cond := Cond.code y_Route_fillLeastHome b_Route_fillLeastHome 5 none :: w_all
abbrev b_Route_fillStops : ByteArray := prog_6_method_6_code
def y_Route_fillStops : MethodName := ⟨R_Route, "fillStops", "()V"⟩
abbrev z_Route_fillStops : List Cond := Cond.code y_Route_fillStops b_Route_fillStops 4 none :: w_all
abbrev b_Route_firstLeastNext : ByteArray := prog_6_method_7_code
def y_Route_firstLeastNext : MethodName := ⟨R_Route, "firstLeastNext", "(II)I"⟩
abbrev z_Route_firstLeastNext : List Cond := Cond.code y_Route_firstLeastNext b_Route_firstLeastNext 7 (some .int) :: w_all
abbrev b_Route_metresBy : ByteArray := prog_6_method_8_code
def y_Route_metresBy : MethodName := ⟨R_Route, "metresBy", "(III)I"⟩
abbrev z_Route_metresBy : List Cond := Cond.code y_Route_metresBy b_Route_metresBy 5 (some .int) :: w_all
def R_Permits : String := "InspectRows$Permits"
def F_Permits : u_T := fun k => match k with
  | 0 => ("InspectRows$Permits", "x1s", "[I", true)
  | 1 => ("InspectRows$Permits", "y1s", "[I", true)
  | 2 => ("InspectRows$Permits", "x2s", "[I", true)
  | 3 => ("InspectRows$Permits", "y2s", "[I", true)
  | 4 => ("InspectRows$Permits", "froms", "[I", true)
  | 5 => ("InspectRows$Permits", "tos", "[I", true)
  | 6 => ("InspectRows$Permits", "count", "I", false)
  | 7 => ("InspectRows$Permits", "groundTold", "Z", false)
  | 8 => ("InspectRows$Permits", "groundX1", "I", false)
  | 9 => ("InspectRows$Permits", "groundY1", "I", false)
  | 10 => ("InspectRows$Permits", "groundX2", "I", false)
  | 11 => ("InspectRows$Permits", "groundY2", "I", false)
  | 12 => ("InspectRows$Permits", "space", "I", false)
  | 13 => ("InspectRows$Permits", "distance", "I", false)
  | _ => ("InspectRows$Permits", "clash", "I", false)
def t_Permits : Nat → FieldType := fun k => match k with
  | 0 => .array .int
  | 1 => .array .int
  | 2 => .array .int
  | 3 => .array .int
  | 4 => .array .int
  | 5 => .array .int
  | 6 => .int
  | 7 => .boolean
  | 8 => .int
  | 9 => .int
  | 10 => .int
  | 11 => .int
  | 12 => .int
  | 13 => .int
  | _ => .int
theorem n_Permits : ∀ a, a < 15 → ∀ b, b < 15 → a ≠ b → (F_Permits a).2.1 ≠ (F_Permits b).2.1 := by decide +kernel
theorem t_Permits_ok : ∀ k, k < 15 → parseFieldDescriptor (F_Permits k).2.2.1 = some (t_Permits k) := by decide +kernel
abbrev b_Permits_init : ByteArray := prog_3_method_1_code
def y_Permits_init : MethodName := ⟨R_Permits, "<init>", "()V"⟩
abbrev z_Permits_init : List Cond := Cond.code y_Permits_init b_Permits_init 1 none :: w_all
abbrev b_Permits_tellGround : ByteArray := prog_3_method_2_code
def y_Permits_tellGround : MethodName := ⟨R_Permits, "tellGround", "(IIII)V"⟩
abbrev z_Permits_tellGround : List Cond := Cond.code y_Permits_tellGround b_Permits_tellGround 5 none :: w_all
abbrev b_Permits_add : ByteArray := prog_3_method_3_code
def y_Permits_add : MethodName := ⟨R_Permits, "add", "(II)I"⟩
abbrev z_Permits_add : List Cond := Cond.code y_Permits_add b_Permits_add 4 (some .int) :: w_all
abbrev b_Permits_findClash : ByteArray := prog_3_method_4_code
def y_Permits_findClash : MethodName := ⟨R_Permits, "findClash", "(III)I"⟩
abbrev z_Permits_findClash : List Cond := Cond.code y_Permits_findClash b_Permits_findClash 6 (some .int) :: w_all
abbrev b_Permits_groundArea : ByteArray := prog_3_method_5_code
def y_Permits_groundArea : MethodName := ⟨R_Permits, "groundArea", "()J"⟩
abbrev z_Permits_groundArea : List Cond := Cond.code y_Permits_groundArea b_Permits_groundArea 1 (some .long) :: w_all
abbrev b_Permits_isTooNear : ByteArray := prog_3_method_6_code
def y_Permits_isTooNear : MethodName := ⟨R_Permits, "isTooNear", "(I)Z"⟩
abbrev z_Permits_isTooNear : List Cond := Cond.code y_Permits_isTooNear b_Permits_isTooNear 6 (some .boolean) :: w_all
abbrev b_Permits_gap : ByteArray := prog_3_method_7_code
def y_Permits_gap : MethodName := ⟨R_Permits, "gap", "(IIII)J"⟩
abbrev z_Permits_gap : List Cond := Cond.code y_Permits_gap b_Permits_gap 4 (some .long) :: w_all
def R_Mo : String := "InspectRowsModel"
def F_Mo : u_T := fun k => match k with
  | 0 => ("InspectRowsModel", "thrown", "I", false)
  | 1 => ("InspectRowsModel", "day", "I", false)
  | 2 => ("InspectRowsModel", "weight", "[I", true)
  | 3 => ("InspectRowsModel", "step", "[I", true)
  | 4 => ("InspectRowsModel", "interval", "[I", true)
  | 5 => ("InspectRowsModel", "time", "[I", true)
  | 6 => ("InspectRowsModel", "points", "I", false)
  | 7 => ("InspectRowsModel", "kind", "[I", true)
  | 8 => ("InspectRowsModel", "height", "[I", true)
  | 9 => ("InspectRowsModel", "people", "[I", true)
  | 10 => ("InspectRowsModel", "px", "[I", true)
  | 11 => ("InspectRowsModel", "py", "[I", true)
  | 12 => ("InspectRowsModel", "visited", "[I", true)
  | 13 => ("InspectRowsModel", "findings", "I", false)
  | 14 => ("InspectRowsModel", "of", "[I", true)
  | 15 => ("InspectRowsModel", "heavy", "[I", true)
  | 16 => ("InspectRowsModel", "until", "[I", true)
  | 17 => ("InspectRowsModel", "proof", "[I", true)
  | 18 => ("InspectRowsModel", "told", "[Z", true)
  | 19 => ("InspectRowsModel", "yes", "[I", true)
  | 20 => ("InspectRowsModel", "no", "[I", true)
  | 21 => ("InspectRowsModel", "bad", "[I", true)
  | 22 => ("InspectRowsModel", "stops", "I", false)
  | 23 => ("InspectRowsModel", "stop", "[I", true)
  | 24 => ("InspectRowsModel", "list", "[I", true)
  | 25 => ("InspectRowsModel", "least", "[I", true)
  | 26 => ("InspectRowsModel", "space", "I", false)
  | 27 => ("InspectRowsModel", "distance", "I", false)
  | 28 => ("InspectRowsModel", "ground", "Z", false)
  | 29 => ("InspectRowsModel", "grounds", "[I", true)
  | 30 => ("InspectRowsModel", "permits", "I", false)
  | 31 => ("InspectRowsModel", "from", "[I", true)
  | 32 => ("InspectRowsModel", "to", "[I", true)
  | _ => ("InspectRowsModel", "clash", "I", false)
def t_Mo : Nat → FieldType := fun k => match k with
  | 0 => .int
  | 1 => .int
  | 2 => .array .int
  | 3 => .array .int
  | 4 => .array .int
  | 5 => .array .int
  | 6 => .int
  | 7 => .array .int
  | 8 => .array .int
  | 9 => .array .int
  | 10 => .array .int
  | 11 => .array .int
  | 12 => .array .int
  | 13 => .int
  | 14 => .array .int
  | 15 => .array .int
  | 16 => .array .int
  | 17 => .array .int
  | 18 => .array .boolean
  | 19 => .array .int
  | 20 => .array .int
  | 21 => .array .int
  | 22 => .int
  | 23 => .array .int
  | 24 => .array .int
  | 25 => .array .int
  | 26 => .int
  | 27 => .int
  | 28 => .boolean
  | 29 => .array .int
  | 30 => .int
  | 31 => .array .int
  | 32 => .array .int
  | _ => .int
theorem n_Mo : ∀ a, a < 34 → ∀ b, b < 34 → a ≠ b → (F_Mo a).2.1 ≠ (F_Mo b).2.1 := by decide +kernel
theorem t_Mo_ok : ∀ k, k < 34 → parseFieldDescriptor (F_Mo k).2.2.1 = some (t_Mo k) := by decide +kernel
abbrev b_Mo_init : ByteArray := prog_9_method_1_code
def y_Mo_init : MethodName := ⟨R_Mo, "<init>", "()V"⟩
abbrev z_Mo_init : List Cond := Cond.code y_Mo_init b_Mo_init 1 none :: w_all
abbrev b_Mo_thrown : ByteArray := prog_9_method_2_code
def y_Mo_thrown : MethodName := ⟨R_Mo, "thrown", "()I"⟩
abbrev z_Mo_thrown : List Cond := Cond.code y_Mo_thrown b_Mo_thrown 1 (some .int) :: w_all
abbrev b_Mo_throwing : ByteArray := prog_9_method_3_code
def y_Mo_throwing : MethodName := ⟨R_Mo, "throwing", "(ZZZ)Z"⟩
abbrev z_Mo_throwing : List Cond := Cond.code y_Mo_throwing b_Mo_throwing 4 (some .boolean) :: w_all
abbrev b_Mo_in : ByteArray := prog_9_method_4_code
def y_Mo_in : MethodName := ⟨R_Mo, "in", "(III)Z"⟩
abbrev z_Mo_in : List Cond := Cond.code y_Mo_in b_Mo_in 3 (some .boolean) :: w_all
abbrev b_Mo_isPoint : ByteArray := prog_9_method_5_code
def y_Mo_isPoint : MethodName := ⟨R_Mo, "isPoint", "(I)Z"⟩
abbrev z_Mo_isPoint : List Cond := Cond.code y_Mo_isPoint b_Mo_isPoint 2 (some .boolean) :: w_all
abbrev b_Mo_weight : ByteArray := prog_9_method_6_code
def y_Mo_weight : MethodName := ⟨R_Mo, "weight", "(II)V"⟩
abbrev z_Mo_weight : List Cond := Cond.code y_Mo_weight b_Mo_weight 3 none :: w_all
abbrev b_Mo_steps : ByteArray := prog_9_method_7_code
def y_Mo_steps : MethodName := ⟨R_Mo, "steps", "(III)V"⟩
abbrev z_Mo_steps : List Cond := Cond.code y_Mo_steps b_Mo_steps 4 none :: w_all
abbrev b_Mo_interval : ByteArray := prog_9_method_8_code
def y_Mo_interval : MethodName := ⟨R_Mo, "interval", "(III)V"⟩
abbrev z_Mo_interval : List Cond := Cond.code y_Mo_interval b_Mo_interval 4 none :: w_all
abbrev b_Mo_point : ByteArray := prog_9_method_9_code
def y_Mo_point : MethodName := ⟨R_Mo, "point", "(IIIII)I"⟩
abbrev z_Mo_point : List Cond := Cond.code y_Mo_point b_Mo_point 7 (some .int) :: w_all
abbrev b_Mo_day : ByteArray := prog_9_method_10_code
def y_Mo_day : MethodName := ⟨R_Mo, "day", "(I)V"⟩
abbrev z_Mo_day : List Cond := Cond.code y_Mo_day b_Mo_day 2 none :: w_all
abbrev b_Mo_visit : ByteArray := prog_9_method_11_code
def y_Mo_visit : MethodName := ⟨R_Mo, "visit", "(I)V"⟩
abbrev z_Mo_visit : List Cond := Cond.code y_Mo_visit b_Mo_visit 2 none :: w_all
abbrev b_Mo_isMissed : ByteArray := prog_9_method_12_code
def y_Mo_isMissed : MethodName := ⟨R_Mo, "isMissed", "(I)Z"⟩
abbrev z_Mo_isMissed : List Cond := Cond.code y_Mo_isMissed b_Mo_isMissed 2 (some .boolean) :: w_all
abbrev b_Mo_riskOf : ByteArray := prog_9_method_13_code
def y_Mo_riskOf : MethodName := ⟨R_Mo, "riskOf", "(I)I"⟩
abbrev z_Mo_riskOf : List Cond := Cond.code y_Mo_riskOf b_Mo_riskOf 4 (some .int) :: w_all
abbrev b_Mo_classOf : ByteArray := prog_9_method_14_code
def y_Mo_classOf : MethodName := ⟨R_Mo, "classOf", "(I)I"⟩
abbrev z_Mo_classOf : List Cond := Cond.code y_Mo_classOf b_Mo_classOf 5 (some .int) :: w_all
abbrev b_Mo_add : ByteArray := prog_9_method_15_code
def y_Mo_add : MethodName := ⟨R_Mo, "add", "(III)V"⟩
abbrev z_Mo_add : List Cond := Cond.code y_Mo_add b_Mo_add 4 none :: w_all
abbrev b_Mo_finding : ByteArray := prog_9_method_16_code
def y_Mo_finding : MethodName := ⟨R_Mo, "finding", "(III)I"⟩
abbrev z_Mo_finding : List Cond := Cond.code y_Mo_finding b_Mo_finding 4 (some .int) :: w_all
abbrev b_Mo_done : ByteArray := prog_9_method_17_code
def y_Mo_done : MethodName := ⟨R_Mo, "done", "(II)V"⟩
abbrev z_Mo_done : List Cond := Cond.code y_Mo_done b_Mo_done 4 none :: w_all
abbrev b_Mo_findingAt : ByteArray := prog_9_method_18_code
def y_Mo_findingAt : MethodName := ⟨R_Mo, "findingAt", "(II)I"⟩
abbrev z_Mo_findingAt : List Cond := Cond.code y_Mo_findingAt b_Mo_findingAt 3 (some .int) :: w_all
abbrev b_Mo_dueFrom : ByteArray := prog_9_method_19_code
def y_Mo_dueFrom : MethodName := ⟨R_Mo, "dueFrom", "(I)I"⟩
abbrev z_Mo_dueFrom : List Cond := Cond.code y_Mo_dueFrom b_Mo_dueFrom 2 (some .int) :: w_all
abbrev b_Mo_pointAt : ByteArray := prog_9_method_20_code
def y_Mo_pointAt : MethodName := ⟨R_Mo, "pointAt", "(II)I"⟩
abbrev z_Mo_pointAt : List Cond := Cond.code y_Mo_pointAt b_Mo_pointAt 5 (some .int) :: w_all
abbrev b_Mo_isAhead : ByteArray := prog_9_method_21_code
def y_Mo_isAhead : MethodName := ⟨R_Mo, "isAhead", "(II)Z"⟩
abbrev z_Mo_isAhead : List Cond := Cond.code y_Mo_isAhead b_Mo_isAhead 5 (some .boolean) :: w_all
abbrev b_Mo_due : ByteArray := prog_9_method_22_code
def y_Mo_due : MethodName := ⟨R_Mo, "due", "(II)I"⟩
abbrev z_Mo_due : List Cond := Cond.code y_Mo_due b_Mo_due 6 (some .int) :: w_all
abbrev b_Mo_question : ByteArray := prog_9_method_23_code
def y_Mo_question : MethodName := ⟨R_Mo, "question", "(IIII)V"⟩
abbrev z_Mo_question : List Cond := Cond.code y_Mo_question b_Mo_question 6 none :: w_all
abbrev b_Mo_go : ByteArray := prog_9_method_24_code
def y_Mo_go : MethodName := ⟨R_Mo, "go", "(IIZI)I"⟩
abbrev z_Mo_go : List Cond := Cond.code y_Mo_go b_Mo_go 8 (some .int) :: w_all
abbrev b_Mo_list : ByteArray := prog_9_method_25_code
def y_Mo_list : MethodName := ⟨R_Mo, "list", "(II)I"⟩
abbrev z_Mo_list : List Cond := Cond.code y_Mo_list b_Mo_list 4 (some .int) :: w_all
abbrev b_Mo_size : ByteArray := prog_9_method_26_code
def y_Mo_size : MethodName := ⟨R_Mo, "size", "(I)I"⟩
abbrev z_Mo_size : List Cond := Cond.code y_Mo_size b_Mo_size 1 (some .int) :: w_all
abbrev b_Mo_between : ByteArray := prog_9_method_27_code
def y_Mo_between : MethodName := ⟨R_Mo, "between", "(II)I"⟩
abbrev z_Mo_between : List Cond := Cond.code y_Mo_between b_Mo_between 3 (some .int) :: w_all
abbrev b_Mo_home : ByteArray := prog_9_method_28_code
def y_Mo_home : MethodName := ⟨R_Mo, "home", "(I)I"⟩
abbrev z_Mo_home : List Cond := Cond.code y_Mo_home b_Mo_home 2 (some .int) :: w_all
abbrev b_Mo_placeOf : ByteArray := prog_9_method_29_code
def y_Mo_placeOf : MethodName := ⟨R_Mo, "placeOf", "(JI)I"⟩
abbrev z_Mo_placeOf : List Cond := Cond.code y_Mo_placeOf b_Mo_placeOf 3 (some .int) :: w_all
abbrev b_Mo_reckon : ByteArray := prog_9_method_30_code
def y_Mo_reckon : MethodName := ⟨R_Mo, "reckon", "(I)V"⟩
abbrev z_Mo_reckon : List Cond := Cond.code y_Mo_reckon b_Mo_reckon 8 none :: w_all
abbrev b_Mo_walk : ByteArray := prog_9_method_31_code
def y_Mo_walk : MethodName := ⟨R_Mo, "walk", "(JI)I"⟩
abbrev z_Mo_walk : List Cond := Cond.code y_Mo_walk b_Mo_walk 15 (some .int) :: w_all
abbrev b_Mo_stop : ByteArray := prog_9_method_32_code
def y_Mo_stop : MethodName := ⟨R_Mo, "stop", "(I)I"⟩
abbrev z_Mo_stop : List Cond := Cond.code y_Mo_stop b_Mo_stop 2 (some .int) :: w_all
abbrev b_Mo_rules : ByteArray := prog_9_method_33_code
def y_Mo_rules : MethodName := ⟨R_Mo, "rules", "(II)V"⟩
abbrev z_Mo_rules : List Cond := Cond.code y_Mo_rules b_Mo_rules 3 none :: w_all
abbrev b_Mo_isPlace : ByteArray := prog_9_method_34_code
def y_Mo_isPlace : MethodName := ⟨R_Mo, "isPlace", "(I)Z"⟩
abbrev z_Mo_isPlace : List Cond := Cond.code y_Mo_isPlace b_Mo_isPlace 1 (some .boolean) :: w_all
abbrev b_Mo_ground : ByteArray := prog_9_method_35_code
def y_Mo_ground : MethodName := ⟨R_Mo, "ground", "(IIII)V"⟩
abbrev z_Mo_ground : List Cond := Cond.code y_Mo_ground b_Mo_ground 7 none :: w_all
abbrev b_Mo_apart : ByteArray := prog_9_method_36_code
def y_Mo_apart : MethodName := ⟨R_Mo, "apart", "(IIII)J"⟩
abbrev z_Mo_apart : List Cond := Cond.code y_Mo_apart b_Mo_apart 4 (some .long) :: w_all
abbrev b_Mo_isNear : ByteArray := prog_9_method_37_code
def y_Mo_isNear : MethodName := ⟨R_Mo, "isNear", "(I)Z"⟩
abbrev z_Mo_isNear : List Cond := Cond.code y_Mo_isNear b_Mo_isNear 6 (some .boolean) :: w_all
abbrev b_Mo_refusal : ByteArray := prog_9_method_38_code
def y_Mo_refusal : MethodName := ⟨R_Mo, "refusal", "(III)I"⟩
abbrev z_Mo_refusal : List Cond := Cond.code y_Mo_refusal b_Mo_refusal 7 (some .int) :: w_all
abbrev b_Mo_permit : ByteArray := prog_9_method_39_code
def y_Mo_permit : MethodName := ⟨R_Mo, "permit", "(III)I"⟩
abbrev z_Mo_permit : List Cond := Cond.code y_Mo_permit b_Mo_permit 6 (some .int) :: w_all
abbrev b_Mo_clash : ByteArray := prog_9_method_40_code
def y_Mo_clash : MethodName := ⟨R_Mo, "clash", "()I"⟩
abbrev z_Mo_clash : List Cond := Cond.code y_Mo_clash b_Mo_clash 1 (some .int) :: w_all
abbrev b_Mo_touches : ByteArray := prog_9_method_41_code
def y_Mo_touches : MethodName := ⟨R_Mo, "touches", "(I)I"⟩
abbrev z_Mo_touches : List Cond := Cond.code y_Mo_touches b_Mo_touches 2 (some .int) :: w_all
abbrev b_Mo_surprise : ByteArray := prog_9_method_42_code
def y_Mo_surprise : MethodName := ⟨R_Mo, "surprise", "(I)I"⟩
abbrev z_Mo_surprise : List Cond := Cond.code y_Mo_surprise b_Mo_surprise 3 (some .int) :: w_all
abbrev classes : List vw_C := [(R_Ir, F_Ir, 8), (R_Scale, F_Scale, 4), (R_Points, F_Points, 6), (R_Findings, F_Findings, 5), (R_Questions, F_Questions, 6), (R_Route, F_Route, 7), (R_Permits, F_Permits, 15), (R_Mo, F_Mo, 34)]
theorem i_Ir : ∀ w ∈ u_ws R_Ir F_Ir 8, w ∈ w_all := fun w hw => List.mem_filter.mpr ⟨(by decide +kernel : ∀ w ∈ u_ws R_Ir F_Ir 8, w ∈ lw_tbl) w hw, (by decide +kernel : ∀ w ∈ u_ws R_Ir F_Ir 8, goodWord w = true) w hw⟩
theorem i_Scale : ∀ w ∈ u_ws R_Scale F_Scale 4, w ∈ w_all := fun w hw => List.mem_filter.mpr ⟨(by decide +kernel : ∀ w ∈ u_ws R_Scale F_Scale 4, w ∈ lw_tbl) w hw, (by decide +kernel : ∀ w ∈ u_ws R_Scale F_Scale 4, goodWord w = true) w hw⟩
theorem i_Points : ∀ w ∈ u_ws R_Points F_Points 6, w ∈ w_all := fun w hw => List.mem_filter.mpr ⟨(by decide +kernel : ∀ w ∈ u_ws R_Points F_Points 6, w ∈ lw_tbl) w hw, (by decide +kernel : ∀ w ∈ u_ws R_Points F_Points 6, goodWord w = true) w hw⟩
theorem i_Findings : ∀ w ∈ u_ws R_Findings F_Findings 5, w ∈ w_all := fun w hw => List.mem_filter.mpr ⟨(by decide +kernel : ∀ w ∈ u_ws R_Findings F_Findings 5, w ∈ lw_tbl) w hw, (by decide +kernel : ∀ w ∈ u_ws R_Findings F_Findings 5, goodWord w = true) w hw⟩
theorem i_Questions : ∀ w ∈ u_ws R_Questions F_Questions 6, w ∈ w_all := fun w hw => List.mem_filter.mpr ⟨(by decide +kernel : ∀ w ∈ u_ws R_Questions F_Questions 6, w ∈ lw_tbl) w hw, (by decide +kernel : ∀ w ∈ u_ws R_Questions F_Questions 6, goodWord w = true) w hw⟩
theorem i_Route : ∀ w ∈ u_ws R_Route F_Route 7, w ∈ w_all := fun w hw => List.mem_filter.mpr ⟨(by decide +kernel : ∀ w ∈ u_ws R_Route F_Route 7, w ∈ lw_tbl) w hw, (by decide +kernel : ∀ w ∈ u_ws R_Route F_Route 7, goodWord w = true) w hw⟩
theorem i_Permits : ∀ w ∈ u_ws R_Permits F_Permits 15, w ∈ w_all := fun w hw => List.mem_filter.mpr ⟨(by decide +kernel : ∀ w ∈ u_ws R_Permits F_Permits 15, w ∈ lw_tbl) w hw, (by decide +kernel : ∀ w ∈ u_ws R_Permits F_Permits 15, goodWord w = true) w hw⟩
theorem i_Mo : ∀ w ∈ u_ws R_Mo F_Mo 34, w ∈ w_all := fun w hw => List.mem_filter.mpr ⟨(by decide +kernel : ∀ w ∈ u_ws R_Mo F_Mo 34, w ∈ lw_tbl) w hw, (by decide +kernel : ∀ w ∈ u_ws R_Mo F_Mo 34, goodWord w = true) w hw⟩

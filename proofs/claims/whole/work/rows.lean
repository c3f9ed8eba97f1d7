section
-- ===== PART A: goes FIRST, ahead of the names: the tables' words, and 'selects' of the private methods out of them =====
/-- a private method of a class that the tables say can be made, by its rows of tables_1 -/
def lw_okq (q : MethodName × Nat) : Prop := (q.1.cls ≠ "java/lang/invoke/MethodHandle" ∧ q.1.cls ≠ "java/lang/invoke/VarHandle") ∧ Cond.instantiable q.1.cls q.2 ∈ tables_1 ∧ Cond.privateMethod q.1 ∈ tables_1 ∧ Cond.instanceMethod q.1 ∈ tables_1
theorem lw_p0 : lw_okq (⟨"java/lang/Throwable", "fillInStackTrace", "(I)Ljava/lang/Throwable;"⟩, 6) := ⟨⟨by decide +kernel, by decide +kernel⟩, List.mem_of_getElem? (i := 310) (by decide +kernel), List.mem_of_getElem? (i := 308) (by decide +kernel), List.mem_of_getElem? (i := 309) (by decide +kernel)⟩
theorem lw_p1 : lw_okq (⟨"InspectRows", "isPoint", "(I)Z"⟩, 8) := ⟨⟨by decide +kernel, by decide +kernel⟩, List.mem_of_getElem? (i := 18) (by decide +kernel), List.mem_of_getElem? (i := 420) (by decide +kernel), List.mem_of_getElem? (i := 421) (by decide +kernel)⟩
theorem lw_p2 : lw_okq (⟨"InspectRows", "classOf", "(I)I"⟩, 8) := ⟨⟨by decide +kernel, by decide +kernel⟩, List.mem_of_getElem? (i := 18) (by decide +kernel), List.mem_of_getElem? (i := 431) (by decide +kernel), List.mem_of_getElem? (i := 432) (by decide +kernel)⟩
theorem lw_p3 : lw_okq (⟨"InspectRows", "riskOf", "(I)I"⟩, 8) := ⟨⟨by decide +kernel, by decide +kernel⟩, List.mem_of_getElem? (i := 18) (by decide +kernel), List.mem_of_getElem? (i := 435) (by decide +kernel), List.mem_of_getElem? (i := 436) (by decide +kernel)⟩
theorem lw_p4 : lw_okq (⟨"InspectRows", "fillRisks", "()V"⟩, 8) := ⟨⟨by decide +kernel, by decide +kernel⟩, List.mem_of_getElem? (i := 18) (by decide +kernel), List.mem_of_getElem? (i := 439) (by decide +kernel), List.mem_of_getElem? (i := 440) (by decide +kernel)⟩
theorem lw_p5 : lw_okq (⟨"InspectRows", "isFinding", "(I)Z"⟩, 8) := ⟨⟨by decide +kernel, by decide +kernel⟩, List.mem_of_getElem? (i := 18) (by decide +kernel), List.mem_of_getElem? (i := 471) (by decide +kernel), List.mem_of_getElem? (i := 472) (by decide +kernel)⟩
theorem lw_p6 : lw_okq (⟨"InspectRows", "firstDueDay", "(I)I"⟩, 8) := ⟨⟨by decide +kernel, by decide +kernel⟩, List.mem_of_getElem? (i := 18) (by decide +kernel), List.mem_of_getElem? (i := 510) (by decide +kernel), List.mem_of_getElem? (i := 511) (by decide +kernel)⟩
theorem lw_p7 : lw_okq (⟨"InspectRows", "countDueAhead", "(II)I"⟩, 8) := ⟨⟨by decide +kernel, by decide +kernel⟩, List.mem_of_getElem? (i := 18) (by decide +kernel), List.mem_of_getElem? (i := 525) (by decide +kernel), List.mem_of_getElem? (i := 526) (by decide +kernel)⟩
theorem lw_p8 : lw_okq (⟨"InspectRows", "isAhead", "(II)Z"⟩, 8) := ⟨⟨by decide +kernel, by decide +kernel⟩, List.mem_of_getElem? (i := 18) (by decide +kernel), List.mem_of_getElem? (i := 529) (by decide +kernel), List.mem_of_getElem? (i := 530) (by decide +kernel)⟩
theorem lw_p9 : lw_okq (⟨"InspectRows", "areAllPoints", "(JI)Z"⟩, 8) := ⟨⟨by decide +kernel, by decide +kernel⟩, List.mem_of_getElem? (i := 18) (by decide +kernel), List.mem_of_getElem? (i := 568) (by decide +kernel), List.mem_of_getElem? (i := 569) (by decide +kernel)⟩
theorem lw_p10 : lw_okq (⟨"InspectRows$Route", "fillLegs", "()V"⟩, 7) := ⟨⟨by decide +kernel, by decide +kernel⟩, List.mem_of_getElem? (i := 135) (by decide +kernel), List.mem_of_getElem? (i := 586) (by decide +kernel), List.mem_of_getElem? (i := 587) (by decide +kernel)⟩
theorem lw_p11 : lw_okq (⟨"InspectRows$Route", "fillLeastHome", "()V"⟩, 7) := ⟨⟨by decide +kernel, by decide +kernel⟩, List.mem_of_getElem? (i := 135) (by decide +kernel), List.mem_of_getElem? (i := 593) (by decide +kernel), List.mem_of_getElem? (i := 594) (by decide +kernel)⟩
theorem lw_p12 : lw_okq (⟨"InspectRows$Route", "firstLeastNext", "(II)I"⟩, 7) := ⟨⟨by decide +kernel, by decide +kernel⟩, List.mem_of_getElem? (i := 135) (by decide +kernel), List.mem_of_getElem? (i := 597) (by decide +kernel), List.mem_of_getElem? (i := 598) (by decide +kernel)⟩
theorem lw_p13 : lw_okq (⟨"InspectRows$Route", "metresBy", "(III)I"⟩, 7) := ⟨⟨by decide +kernel, by decide +kernel⟩, List.mem_of_getElem? (i := 135) (by decide +kernel), List.mem_of_getElem? (i := 602) (by decide +kernel), List.mem_of_getElem? (i := 603) (by decide +kernel)⟩
theorem lw_p14 : lw_okq (⟨"InspectRows$Route", "fillStops", "()V"⟩, 7) := ⟨⟨by decide +kernel, by decide +kernel⟩, List.mem_of_getElem? (i := 135) (by decide +kernel), List.mem_of_getElem? (i := 606) (by decide +kernel), List.mem_of_getElem? (i := 607) (by decide +kernel)⟩
theorem lw_p15 : lw_okq (⟨"InspectRows$Permits", "groundArea", "()J"⟩, 15) := ⟨⟨by decide +kernel, by decide +kernel⟩, List.mem_of_getElem? (i := 165) (by decide +kernel), List.mem_of_getElem? (i := 638) (by decide +kernel), List.mem_of_getElem? (i := 639) (by decide +kernel)⟩
def lw_privs_1 : List (MethodName × Nat) := [(⟨"java/lang/Throwable", "fillInStackTrace", "(I)Ljava/lang/Throwable;"⟩, 6), (⟨"InspectRows", "isPoint", "(I)Z"⟩, 8), (⟨"InspectRows", "classOf", "(I)I"⟩, 8), (⟨"InspectRows", "riskOf", "(I)I"⟩, 8), (⟨"InspectRows", "fillRisks", "()V"⟩, 8), (⟨"InspectRows", "isFinding", "(I)Z"⟩, 8), (⟨"InspectRows", "firstDueDay", "(I)I"⟩, 8), (⟨"InspectRows", "countDueAhead", "(II)I"⟩, 8), (⟨"InspectRows", "isAhead", "(II)Z"⟩, 8), (⟨"InspectRows", "areAllPoints", "(JI)Z"⟩, 8), (⟨"InspectRows$Route", "fillLegs", "()V"⟩, 7), (⟨"InspectRows$Route", "fillLeastHome", "()V"⟩, 7), (⟨"InspectRows$Route", "firstLeastNext", "(II)I"⟩, 7), (⟨"InspectRows$Route", "metresBy", "(III)I"⟩, 7), (⟨"InspectRows$Route", "fillStops", "()V"⟩, 7), (⟨"InspectRows$Permits", "groundArea", "()J"⟩, 15)]
theorem lw_r1 : ∀ q ∈ lw_privs_1, lw_okq q := List.forall_mem_cons.mpr ⟨lw_p0, List.forall_mem_cons.mpr ⟨lw_p1, List.forall_mem_cons.mpr ⟨lw_p2, List.forall_mem_cons.mpr ⟨lw_p3, List.forall_mem_cons.mpr ⟨lw_p4, List.forall_mem_cons.mpr ⟨lw_p5, List.forall_mem_cons.mpr ⟨lw_p6, List.forall_mem_cons.mpr ⟨lw_p7, List.forall_mem_cons.mpr ⟨lw_p8, List.forall_mem_cons.mpr ⟨lw_p9, List.forall_mem_cons.mpr ⟨lw_p10, List.forall_mem_cons.mpr ⟨lw_p11, List.forall_mem_cons.mpr ⟨lw_p12, List.forall_mem_cons.mpr ⟨lw_p13, List.forall_mem_cons.mpr ⟨lw_p14, List.forall_mem_cons.mpr ⟨lw_p15, fun _ h => absurd h List.not_mem_nil⟩⟩⟩⟩⟩⟩⟩⟩⟩⟩⟩⟩⟩⟩⟩⟩
theorem lw_p16 : lw_okq (⟨"InspectRows$Permits", "isTooNear", "(I)Z"⟩, 15) := ⟨⟨by decide +kernel, by decide +kernel⟩, List.mem_of_getElem? (i := 165) (by decide +kernel), List.mem_of_getElem? (i := 642) (by decide +kernel), List.mem_of_getElem? (i := 643) (by decide +kernel)⟩
theorem lw_p17 : lw_okq (⟨"InspectRowsModel", "throwing", "(ZZZ)Z"⟩, 34) := ⟨⟨by decide +kernel, by decide +kernel⟩, List.mem_of_getElem? (i := 686) (by decide +kernel), List.mem_of_getElem? (i := 807) (by decide +kernel), List.mem_of_getElem? (i := 808) (by decide +kernel)⟩
theorem lw_p18 : lw_okq (⟨"InspectRowsModel", "isPoint", "(I)Z"⟩, 34) := ⟨⟨by decide +kernel, by decide +kernel⟩, List.mem_of_getElem? (i := 686) (by decide +kernel), List.mem_of_getElem? (i := 833) (by decide +kernel), List.mem_of_getElem? (i := 834) (by decide +kernel)⟩
theorem lw_p19 : lw_okq (⟨"InspectRowsModel", "classOf", "(I)I"⟩, 34) := ⟨⟨by decide +kernel, by decide +kernel⟩, List.mem_of_getElem? (i := 686) (by decide +kernel), List.mem_of_getElem? (i := 841) (by decide +kernel), List.mem_of_getElem? (i := 842) (by decide +kernel)⟩
theorem lw_p20 : lw_okq (⟨"InspectRowsModel", "riskOf", "(I)I"⟩, 34) := ⟨⟨by decide +kernel, by decide +kernel⟩, List.mem_of_getElem? (i := 686) (by decide +kernel), List.mem_of_getElem? (i := 845) (by decide +kernel), List.mem_of_getElem? (i := 846) (by decide +kernel)⟩
theorem lw_p21 : lw_okq (⟨"InspectRowsModel", "isMissed", "(I)Z"⟩, 34) := ⟨⟨by decide +kernel, by decide +kernel⟩, List.mem_of_getElem? (i := 686) (by decide +kernel), List.mem_of_getElem? (i := 849) (by decide +kernel), List.mem_of_getElem? (i := 850) (by decide +kernel)⟩
theorem lw_p22 : lw_okq (⟨"InspectRowsModel", "add", "(III)V"⟩, 34) := ⟨⟨by decide +kernel, by decide +kernel⟩, List.mem_of_getElem? (i := 686) (by decide +kernel), List.mem_of_getElem? (i := 853) (by decide +kernel), List.mem_of_getElem? (i := 854) (by decide +kernel)⟩
theorem lw_p23 : lw_okq (⟨"InspectRowsModel", "dueFrom", "(I)I"⟩, 34) := ⟨⟨by decide +kernel, by decide +kernel⟩, List.mem_of_getElem? (i := 686) (by decide +kernel), List.mem_of_getElem? (i := 869) (by decide +kernel), List.mem_of_getElem? (i := 870) (by decide +kernel)⟩
theorem lw_p24 : lw_okq (⟨"InspectRowsModel", "isAhead", "(II)Z"⟩, 34) := ⟨⟨by decide +kernel, by decide +kernel⟩, List.mem_of_getElem? (i := 686) (by decide +kernel), List.mem_of_getElem? (i := 877) (by decide +kernel), List.mem_of_getElem? (i := 878) (by decide +kernel)⟩
theorem lw_p25 : lw_okq (⟨"InspectRowsModel", "go", "(IIZI)I"⟩, 34) := ⟨⟨by decide +kernel, by decide +kernel⟩, List.mem_of_getElem? (i := 686) (by decide +kernel), List.mem_of_getElem? (i := 889) (by decide +kernel), List.mem_of_getElem? (i := 890) (by decide +kernel)⟩
theorem lw_p26 : lw_okq (⟨"InspectRowsModel", "reckon", "(I)V"⟩, 34) := ⟨⟨by decide +kernel, by decide +kernel⟩, List.mem_of_getElem? (i := 686) (by decide +kernel), List.mem_of_getElem? (i := 900) (by decide +kernel), List.mem_of_getElem? (i := 901) (by decide +kernel)⟩
theorem lw_p27 : lw_okq (⟨"InspectRowsModel", "home", "(I)I"⟩, 34) := ⟨⟨by decide +kernel, by decide +kernel⟩, List.mem_of_getElem? (i := 686) (by decide +kernel), List.mem_of_getElem? (i := 904) (by decide +kernel), List.mem_of_getElem? (i := 905) (by decide +kernel)⟩
theorem lw_p28 : lw_okq (⟨"InspectRowsModel", "between", "(II)I"⟩, 34) := ⟨⟨by decide +kernel, by decide +kernel⟩, List.mem_of_getElem? (i := 686) (by decide +kernel), List.mem_of_getElem? (i := 912) (by decide +kernel), List.mem_of_getElem? (i := 913) (by decide +kernel)⟩
theorem lw_p29 : lw_okq (⟨"InspectRowsModel", "refusal", "(III)I"⟩, 34) := ⟨⟨by decide +kernel, by decide +kernel⟩, List.mem_of_getElem? (i := 686) (by decide +kernel), List.mem_of_getElem? (i := 939) (by decide +kernel), List.mem_of_getElem? (i := 940) (by decide +kernel)⟩
theorem lw_p30 : lw_okq (⟨"InspectRowsModel", "isNear", "(I)Z"⟩, 34) := ⟨⟨by decide +kernel, by decide +kernel⟩, List.mem_of_getElem? (i := 686) (by decide +kernel), List.mem_of_getElem? (i := 943) (by decide +kernel), List.mem_of_getElem? (i := 944) (by decide +kernel)⟩
def lw_privs_2 : List (MethodName × Nat) := [(⟨"InspectRows$Permits", "isTooNear", "(I)Z"⟩, 15), (⟨"InspectRowsModel", "throwing", "(ZZZ)Z"⟩, 34), (⟨"InspectRowsModel", "isPoint", "(I)Z"⟩, 34), (⟨"InspectRowsModel", "classOf", "(I)I"⟩, 34), (⟨"InspectRowsModel", "riskOf", "(I)I"⟩, 34), (⟨"InspectRowsModel", "isMissed", "(I)Z"⟩, 34), (⟨"InspectRowsModel", "add", "(III)V"⟩, 34), (⟨"InspectRowsModel", "dueFrom", "(I)I"⟩, 34), (⟨"InspectRowsModel", "isAhead", "(II)Z"⟩, 34), (⟨"InspectRowsModel", "go", "(IIZI)I"⟩, 34), (⟨"InspectRowsModel", "reckon", "(I)V"⟩, 34), (⟨"InspectRowsModel", "home", "(I)I"⟩, 34), (⟨"InspectRowsModel", "between", "(II)I"⟩, 34), (⟨"InspectRowsModel", "refusal", "(III)I"⟩, 34), (⟨"InspectRowsModel", "isNear", "(I)Z"⟩, 34)]
theorem lw_r2 : ∀ q ∈ lw_privs_2, lw_okq q := List.forall_mem_cons.mpr ⟨lw_p16, List.forall_mem_cons.mpr ⟨lw_p17, List.forall_mem_cons.mpr ⟨lw_p18, List.forall_mem_cons.mpr ⟨lw_p19, List.forall_mem_cons.mpr ⟨lw_p20, List.forall_mem_cons.mpr ⟨lw_p21, List.forall_mem_cons.mpr ⟨lw_p22, List.forall_mem_cons.mpr ⟨lw_p23, List.forall_mem_cons.mpr ⟨lw_p24, List.forall_mem_cons.mpr ⟨lw_p25, List.forall_mem_cons.mpr ⟨lw_p26, List.forall_mem_cons.mpr ⟨lw_p27, List.forall_mem_cons.mpr ⟨lw_p28, List.forall_mem_cons.mpr ⟨lw_p29, List.forall_mem_cons.mpr ⟨lw_p30, fun _ h => absurd h List.not_mem_nil⟩⟩⟩⟩⟩⟩⟩⟩⟩⟩⟩⟩⟩⟩⟩
def lw_privs : List (MethodName × Nat) := lw_privs_1 ++ (lw_privs_2)
def lw_tbl : List Cond := k2_sels lw_privs ++ tables_1
theorem lw_privs_ok : ∀ q ∈ lw_privs, lw_okq q := by
  show ∀ q ∈ lw_privs_1 ++ (lw_privs_2), lw_okq q
  exact List.forall_mem_append.mpr ⟨lw_r1, lw_r2⟩


def sg {α : Type} (f : Nat → α) (k : Nat) (v : α) : Nat → α := fun j => cond (Nat.beq j k) v (f j)
def s2 (ar : Nat → Nat → Int32) (k i : Nat) (x : Int32) : Nat → Nat → Int32 := fun j => cond (Nat.beq j k) (upd (ar k) i x) (ar j)
abbrev oS : Type := (Nat → Nat → Int32) × (Nat → Int32)
def rmD (d : Nat) : Room := { frames := d + 1, cells := 0, slots := 0, locals := 26 * d + 20 }
def rmX (d : Nat) : Room := { frames := d + 1, cells := 1, slots := 6, locals := 26 * d + 20 }
def w_all : List Cond := lw_tbl.filter goodWord
def nw_ok : Cond → Bool
  | .fieldLinkNest .. => true
  | .castable .. => true
  | .declares .. => true
  | _ => false
def nw_all : List Cond := lw_tbl.filter nw_ok
theorem nw_warm {w : Cond} {s U : State} (hw : nw_ok w = true) (hW : s.WarmedH U.vm) (h : va_Nw w s) : va_Nw w U := by
  cases w <;> first | exact va_Nw.warmF hW h | exact va_Nw.warmC hW h | exact va_Nw.warmD hW h | (simp [nw_ok] at hw)
theorem nw_same {w : Cond} {u U : State} (hw : nw_ok w = true) (hv : u.vm = U.vm) (h : va_Nw w u) : va_Nw w U := by
  cases w <;> first | exact va_Nw.same rfl hv h | (simp [nw_ok] at hw)
theorem g_all : GoodIn w_all w_all := fun w hw => ⟨hw, good_of_word (List.mem_filter.mp hw).2⟩
theorem g_one {w : Cond} (h : w ∈ w_all) : w ∈ w_all ∧ ((w.onTables && w.keeps) = true ∨ ∃ ty, w = .arrayClass ty) := g_all w h
theorem gC {y : MethodName} {b : ByteArray} {n : Nat} {r : Option FieldType} (h5 : Cond.code y b n r ∈ w_all) : GoodIn w_all (Cond.code y b n r :: w_all) := fun w hw => (List.mem_cons.mp hw).elim (fun e => by rw [e]; exact g_one h5) (fun h => g_all w h)
theorem gV {own C : String} {idx : Nat} {y : MethodName} {b : ByteArray} {n : Nat} {r : Option FieldType} (h1 : Cond.methodLink own idx y ∈ w_all) (h2 : Cond.instanceMethod y ∈ w_all) (h3 : Cond.selects C y y ∈ w_all) (h4 : Cond.initialized C ∈ w_all) (h5 : Cond.code y b n r ∈ w_all) : GoodIn w_all (wsV own idx C y (Cond.code y b n r :: w_all)) := by
  intro w hw
  unfold wsV at hw
  rcases List.mem_append.mp hw with hw | hw
  · simp only [List.mem_cons, List.not_mem_nil, or_false] at hw
    rcases hw with e | e | e | e <;> rw [e] <;> apply g_one <;> assumption
  · exact gC h5 w hw
theorem gS {own : String} {idx : Nat} {y : MethodName} {b : ByteArray} {n : Nat} {r : Option FieldType} (h1 : Cond.methodLink own idx y ∈ w_all) (h2 : Cond.static y ∈ w_all) (h4 : Cond.initialized own ∈ w_all) (h5 : Cond.code y b n r ∈ w_all) : GoodIn w_all (wsS own idx y (Cond.code y b n r :: w_all)) := by
  intro w hw
  unfold wsS at hw
  rcases List.mem_append.mp hw with hw | hw
  · simp only [List.mem_cons, List.not_mem_nil, or_false] at hw
    rcases hw with e | e | e <;> rw [e] <;> apply g_one <;> assumption
  · exact gC h5 w hw
def QcVoid : Array Value → State → Outcome → State → Prop := fun _ st o t => o = .returned none ∧ t.heap = st.heap
def QcReadL (r : Int64) : Array Value → State → Outcome → State → Prop := fun _ st o t => o = .returned (some (.long r)) ∧ t.heap = st.heap

def R_Ir : String := "InspectRows"
def F_Ir : u_T := fun k => match k with
  | 0 => ("InspectRows", "scale", "LInspectRows$Scale;", true)
  | 1 => ("InspectRows", "points", "LInspectRows$Points;", true)
  | 2 => ("InspectRows", "findings", "LInspectRows$Findings;", true)
  | 3 => ("InspectRows", "questions", "LInspectRows$Questions;", true)
  | 4 => ("InspectRows", "route", "LInspectRows$Route;", true)
  | 5 => ("InspectRows", "permits", "LInspectRows$Permits;", true)
  | 6 => ("InspectRows", "risks", "[I", true)
  | _ => ("InspectRows", "today", "I", false)
def t_Ir : Nat → FieldType := fun k => match k with
  | 0 => .object "InspectRows$Scale"
  | 1 => .object "InspectRows$Points"
  | 2 => .object "InspectRows$Findings"
  | 3 => .object "InspectRows$Questions"
  | 4 => .object "InspectRows$Route"
  | 5 => .object "InspectRows$Permits"
  | 6 => .array .int
  | _ => .int
theorem n_Ir : ∀ a, a < 8 → ∀ b, b < 8 → a ≠ b → (F_Ir a).2.1 ≠ (F_Ir b).2.1 := by decide +kernel
theorem t_Ir_ok : ∀ k, k < 8 → parseFieldDescriptor (F_Ir k).2.2.1 = some (t_Ir k) := by decide +kernel
abbrev b_Ir_init : ByteArray := prog_1_method_1_code
def y_Ir_init : MethodName := ⟨R_Ir, "<init>", "()V"⟩
abbrev z_Ir_init : List Cond := Cond.code y_Ir_init b_Ir_init 1 none :: w_all
abbrev b_Ir_weight : ByteArray := prog_1_method_2_code
def y_Ir_weight : MethodName := ⟨R_Ir, "weight", "(II)V"⟩
abbrev z_Ir_weight : List Cond := Cond.code y_Ir_weight b_Ir_weight 3 none :: w_all
abbrev b_Ir_steps : ByteArray := prog_1_method_3_code
def y_Ir_steps : MethodName := ⟨R_Ir, "steps", "(III)V"⟩
abbrev z_Ir_steps : List Cond := Cond.code y_Ir_steps b_Ir_steps 4 none :: w_all
abbrev b_Ir_interval : ByteArray := prog_1_method_4_code
def y_Ir_interval : MethodName := ⟨R_Ir, "interval", "(III)V"⟩
abbrev z_Ir_interval : List Cond := Cond.code y_Ir_interval b_Ir_interval 4 none :: w_all
abbrev b_Ir_point : ByteArray := prog_1_method_5_code
def y_Ir_point : MethodName := ⟨R_Ir, "point", "(IIIII)I"⟩
abbrev z_Ir_point : List Cond := Cond.code y_Ir_point b_Ir_point 6 (some .int) :: w_all
abbrev b_Ir_day : ByteArray := prog_1_method_6_code
def y_Ir_day : MethodName := ⟨R_Ir, "day", "(I)V"⟩
abbrev z_Ir_day : List Cond := Cond.code y_Ir_day b_Ir_day 2 none :: w_all
abbrev b_Ir_visit : ByteArray := prog_1_method_7_code
def y_Ir_visit : MethodName := ⟨R_Ir, "visit", "(I)V"⟩
abbrev z_Ir_visit : List Cond := Cond.code y_Ir_visit b_Ir_visit 2 none :: w_all
abbrev b_Ir_finding : ByteArray := prog_1_method_8_code
def y_Ir_finding : MethodName := ⟨R_Ir, "finding", "(III)I"⟩
abbrev z_Ir_finding : List Cond := Cond.code y_Ir_finding b_Ir_finding 5 (some .int) :: w_all
abbrev b_Ir_done : ByteArray := prog_1_method_9_code
def y_Ir_done : MethodName := ⟨R_Ir, "done", "(II)V"⟩
abbrev z_Ir_done : List Cond := Cond.code y_Ir_done b_Ir_done 3 none :: w_all
abbrev b_Ir_findingAt : ByteArray := prog_1_method_10_code
def y_Ir_findingAt : MethodName := ⟨R_Ir, "findingAt", "(II)I"⟩
abbrev z_Ir_findingAt : List Cond := Cond.code y_Ir_findingAt b_Ir_findingAt 3 (some .int) :: w_all
abbrev b_Ir_pointAt : ByteArray := prog_1_method_11_code
def y_Ir_pointAt : MethodName := ⟨R_Ir, "pointAt", "(II)I"⟩
abbrev z_Ir_pointAt : List Cond := Cond.code y_Ir_pointAt b_Ir_pointAt 3 (some .int) :: w_all
abbrev b_Ir_due : ByteArray := prog_1_method_12_code
def y_Ir_due : MethodName := ⟨R_Ir, "due", "(II)I"⟩
abbrev z_Ir_due : List Cond := Cond.code y_Ir_due b_Ir_due 4 (some .int) :: w_all
abbrev b_Ir_question : ByteArray := prog_1_method_13_code
def y_Ir_question : MethodName := ⟨R_Ir, "question", "(IIII)V"⟩
abbrev z_Ir_question : List Cond := Cond.code y_Ir_question b_Ir_question 5 none :: w_all
abbrev b_Ir_list : ByteArray := prog_1_method_14_code
def y_Ir_list : MethodName := ⟨R_Ir, "list", "(II)I"⟩
abbrev z_Ir_list : List Cond := Cond.code y_Ir_list b_Ir_list 5 (some .int) :: w_all
abbrev b_Ir_walk : ByteArray := prog_1_method_15_code
def y_Ir_walk : MethodName := ⟨R_Ir, "walk", "(JI)I"⟩
abbrev z_Ir_walk : List Cond := Cond.code y_Ir_walk b_Ir_walk 6 (some .int) :: w_all
abbrev b_Ir_stop : ByteArray := prog_1_method_16_code
def y_Ir_stop : MethodName := ⟨R_Ir, "stop", "(I)I"⟩
abbrev z_Ir_stop : List Cond := Cond.code y_Ir_stop b_Ir_stop 2 (some .int) :: w_all
abbrev b_Ir_rules : ByteArray := prog_1_method_17_code
def y_Ir_rules : MethodName := ⟨R_Ir, "rules", "(II)V"⟩
abbrev z_Ir_rules : List Cond := Cond.code y_Ir_rules b_Ir_rules 3 none :: w_all
abbrev b_Ir_permit : ByteArray := prog_1_method_18_code
def y_Ir_permit : MethodName := ⟨R_Ir, "permit", "(III)I"⟩
abbrev z_Ir_permit : List Cond := Cond.code y_Ir_permit b_Ir_permit 4 (some .int) :: w_all
abbrev b_Ir_ground : ByteArray := prog_1_method_19_code
def y_Ir_ground : MethodName := ⟨R_Ir, "ground", "(IIII)V"⟩
abbrev z_Ir_ground : List Cond := Cond.code y_Ir_ground b_Ir_ground 5 none :: w_all
abbrev b_Ir_clash : ByteArray := prog_1_method_20_code
def y_Ir_clash : MethodName := ⟨R_Ir, "clash", "()I"⟩
abbrev z_Ir_clash : List Cond := Cond.code y_Ir_clash b_Ir_clash 1 (some .int) :: w_all
abbrev b_Ir_touches : ByteArray := prog_1_method_21_code
def y_Ir_touches : MethodName := ⟨R_Ir, "touches", "(I)I"⟩
abbrev z_Ir_touches : List Cond := Cond.code y_Ir_touches b_Ir_touches 4 (some .int) :: w_all
abbrev b_Ir_surprise : ByteArray := prog_1_method_22_code
def y_Ir_surprise : MethodName := ⟨R_Ir, "surprise", "(I)I"⟩
abbrev z_Ir_surprise : List Cond := Cond.code y_Ir_surprise b_Ir_surprise 3 (some .int) :: w_all
abbrev b_Ir_requireKnown : ByteArray := prog_1_method_23_code
def y_Ir_requireKnown : MethodName := ⟨R_Ir, "requireKnown", "(Z)V"⟩
abbrev z_Ir_requireKnown : List Cond := Cond.code y_Ir_requireKnown b_Ir_requireKnown 1 none :: w_all
abbrev b_Ir_requireRange : ByteArray := prog_1_method_24_code
def y_Ir_requireRange : MethodName := ⟨R_Ir, "requireRange", "(Z)V"⟩
abbrev z_Ir_requireRange : List Cond := Cond.code y_Ir_requireRange b_Ir_requireRange 1 none :: w_all
abbrev b_Ir_requireState : ByteArray := prog_1_method_25_code
def y_Ir_requireState : MethodName := ⟨R_Ir, "requireState", "(Z)V"⟩
abbrev z_Ir_requireState : List Cond := Cond.code y_Ir_requireState b_Ir_requireState 1 none :: w_all
abbrev b_Ir_requireRoom : ByteArray := prog_1_method_26_code
def y_Ir_requireRoom : MethodName := ⟨R_Ir, "requireRoom", "(Z)V"⟩
abbrev z_Ir_requireRoom : List Cond := Cond.code y_Ir_requireRoom b_Ir_requireRoom 1 none :: w_all
abbrev b_Ir_isWithin : ByteArray := prog_1_method_27_code
def y_Ir_isWithin : MethodName := ⟨R_Ir, "isWithin", "(III)Z"⟩
abbrev z_Ir_isWithin : List Cond := Cond.code y_Ir_isWithin b_Ir_isWithin 3 (some .boolean) :: w_all
abbrev b_Ir_isKind : ByteArray := prog_1_method_28_code
def y_Ir_isKind : MethodName := ⟨R_Ir, "isKind", "(I)Z"⟩
abbrev z_Ir_isKind : List Cond := Cond.code y_Ir_isKind b_Ir_isKind 1 (some .boolean) :: w_all
abbrev b_Ir_isPoint : ByteArray := prog_1_method_29_code
def y_Ir_isPoint : MethodName := ⟨R_Ir, "isPoint", "(I)Z"⟩
abbrev z_Ir_isPoint : List Cond := Cond.code y_Ir_isPoint b_Ir_isPoint 2 (some .boolean) :: w_all
abbrev b_Ir_isFinding : ByteArray := prog_1_method_30_code
def y_Ir_isFinding : MethodName := ⟨R_Ir, "isFinding", "(I)Z"⟩
abbrev z_Ir_isFinding : List Cond := Cond.code y_Ir_isFinding b_Ir_isFinding 2 (some .boolean) :: w_all
abbrev b_Ir_isSide : ByteArray := prog_1_method_31_code
def y_Ir_isSide : MethodName := ⟨R_Ir, "isSide", "(II)Z"⟩
abbrev z_Ir_isSide : List Cond := Cond.code y_Ir_isSide b_Ir_isSide 2 (some .boolean) :: w_all
abbrev b_Ir_canLead : ByteArray := prog_1_method_32_code
def y_Ir_canLead : MethodName := ⟨R_Ir, "canLead", "(II)Z"⟩
abbrev z_Ir_canLead : List Cond := Cond.code y_Ir_canLead b_Ir_canLead 2 (some .boolean) :: w_all
abbrev b_Ir_toldPoint : ByteArray := prog_1_method_33_code
def y_Ir_toldPoint : MethodName := ⟨R_Ir, "toldPoint", "(JI)I"⟩
abbrev z_Ir_toldPoint : List Cond := Cond.code y_Ir_toldPoint b_Ir_toldPoint 3 (some .int) :: w_all
abbrev b_Ir_areAllPoints : ByteArray := prog_1_method_34_code
def y_Ir_areAllPoints : MethodName := ⟨R_Ir, "areAllPoints", "(JI)Z"⟩
abbrev z_Ir_areAllPoints : List Cond := Cond.code y_Ir_areAllPoints b_Ir_areAllPoints 5 (some .boolean) :: w_all
abbrev b_Ir_areAllDifferent : ByteArray := prog_1_method_35_code
def y_Ir_areAllDifferent : MethodName := ⟨R_Ir, "areAllDifferent", "(JI)Z"⟩
abbrev z_Ir_areAllDifferent : List Cond := Cond.code y_Ir_areAllDifferent b_Ir_areAllDifferent 6 (some .boolean) :: w_all
abbrev b_Ir_fillRisks : ByteArray := prog_1_method_36_code
def y_Ir_fillRisks : MethodName := ⟨R_Ir, "fillRisks", "()V"⟩
abbrev z_Ir_fillRisks : List Cond := Cond.code y_Ir_fillRisks b_Ir_fillRisks 2 none :: w_all
abbrev b_Ir_riskOf : ByteArray := prog_1_method_37_code
def y_Ir_riskOf : MethodName := ⟨R_Ir, "riskOf", "(I)I"⟩
abbrev z_Ir_riskOf : List Cond := Cond.code y_Ir_riskOf b_Ir_riskOf 2 (some .int) :: w_all
abbrev b_Ir_classOf : ByteArray := prog_1_method_38_code
def y_Ir_classOf : MethodName := ⟨R_Ir, "classOf", "(I)I"⟩
abbrev z_Ir_classOf : List Cond := Cond.code y_Ir_classOf b_Ir_classOf 2 (some .int) :: w_all
abbrev b_Ir_firstDueDay : ByteArray := prog_1_method_39_code
def y_Ir_firstDueDay : MethodName := ⟨R_Ir, "firstDueDay", "(I)I"⟩
abbrev z_Ir_firstDueDay : List Cond := Cond.code y_Ir_firstDueDay b_Ir_firstDueDay 3 (some .int) :: w_all
abbrev b_Ir_countDueAhead : ByteArray := prog_1_method_40_code
def y_Ir_countDueAhead : MethodName := ⟨R_Ir, "countDueAhead", "(II)I"⟩
abbrev z_Ir_countDueAhead : List Cond := Cond.code y_Ir_countDueAhead b_Ir_countDueAhead 5 (some .int) :: w_all
abbrev b_Ir_isAhead : ByteArray := prog_1_method_41_code
def y_Ir_isAhead : MethodName := ⟨R_Ir, "isAhead", "(II)Z"⟩
abbrev z_Ir_isAhead : List Cond := Cond.code y_Ir_isAhead b_Ir_isAhead 3 (some .boolean) :: w_all
def R_Scale : String := "InspectRows$Scale"
def F_Scale : u_T := fun k => match k with
  | 0 => ("InspectRows$Scale", "kindWeights", "[I", true)
  | 1 => ("InspectRows$Scale", "steps", "[I", true)
  | 2 => ("InspectRows$Scale", "intervals", "[I", true)
  | _ => ("InspectRows$Scale", "times", "[I", true)
def t_Scale : Nat → FieldType := fun k => match k with
  | 0 => .array .int
  | 1 => .array .int
  | 2 => .array .int
  | _ => .array .int
theorem n_Scale : ∀ a, a < 4 → ∀ b, b < 4 → a ≠ b → (F_Scale a).2.1 ≠ (F_Scale b).2.1 := by decide +kernel
theorem t_Scale_ok : ∀ k, k < 4 → parseFieldDescriptor (F_Scale k).2.2.1 = some (t_Scale k) := by decide +kernel
abbrev b_Scale_init : ByteArray := prog_7_method_1_code
def y_Scale_init : MethodName := ⟨R_Scale, "<init>", "()V"⟩
abbrev z_Scale_init : List Cond := Cond.code y_Scale_init b_Scale_init 1 none :: w_all
abbrev b_Scale_classFor : ByteArray := prog_7_method_2_code
def y_Scale_classFor : MethodName := ⟨R_Scale, "classFor", "(I)I"⟩
abbrev z_Scale_classFor : List Cond := Cond.code y_Scale_classFor b_Scale_classFor 4 (some .int) :: w_all
def R_Points : String := "InspectRows$Points"
def F_Points : u_T := fun k => match k with
  | 0 => ("InspectRows$Points", "kinds", "[I", true)
  | 1 => ("InspectRows$Points", "ownRisks", "[I", true)
  | 2 => ("InspectRows$Points", "xs", "[I", true)
  | 3 => ("InspectRows$Points", "ys", "[I", true)
  | 4 => ("InspectRows$Points", "visits", "[I", true)
  | _ => ("InspectRows$Points", "count", "I", false)
def t_Points : Nat → FieldType := fun k => match k with
  | 0 => .array .int
  | 1 => .array .int
  | 2 => .array .int
  | 3 => .array .int
  | 4 => .array .int
  | _ => .int
theorem n_Points : ∀ a, a < 6 → ∀ b, b < 6 → a ≠ b → (F_Points a).2.1 ≠ (F_Points b).2.1 := by decide +kernel
theorem t_Points_ok : ∀ k, k < 6 → parseFieldDescriptor (F_Points k).2.2.1 = some (t_Points k) := by decide +kernel
abbrev b_Points_init : ByteArray := prog_4_method_1_code
def y_Points_init : MethodName := ⟨R_Points, "<init>", "()V"⟩
abbrev z_Points_init : List Cond := Cond.code y_Points_init b_Points_init 1 none :: w_all
abbrev b_Points_add : ByteArray := prog_4_method_2_code
def y_Points_add : MethodName := ⟨R_Points, "add", "(IIII)I"⟩
abbrev z_Points_add : List Cond := Cond.code y_Points_add b_Points_add 6 (some .int) :: w_all
def R_Findings : String := "InspectRows$Findings"
def F_Findings : u_T := fun k => match k with
  | 0 => ("InspectRows$Findings", "points", "[I", true)
  | 1 => ("InspectRows$Findings", "weights", "[I", true)
  | 2 => ("InspectRows$Findings", "days", "[I", true)
  | 3 => ("InspectRows$Findings", "proofs", "[I", true)
  | _ => ("InspectRows$Findings", "count", "I", false)
def t_Findings : Nat → FieldType := fun k => match k with
  | 0 => .array .int
  | 1 => .array .int
  | 2 => .array .int
  | 3 => .array .int
  | _ => .int
theorem n_Findings : ∀ a, a < 5 → ∀ b, b < 5 → a ≠ b → (F_Findings a).2.1 ≠ (F_Findings b).2.1 := by decide +kernel
theorem t_Findings_ok : ∀ k, k < 5 → parseFieldDescriptor (F_Findings k).2.2.1 = some (t_Findings k) := by decide +kernel
abbrev b_Findings_init : ByteArray := prog_2_method_1_code
def y_Findings_init : MethodName := ⟨R_Findings, "<init>", "()V"⟩
abbrev z_Findings_init : List Cond := Cond.code y_Findings_init b_Findings_init 1 none :: w_all
abbrev b_Findings_add : ByteArray := prog_2_method_2_code
def y_Findings_add : MethodName := ⟨R_Findings, "add", "(III)I"⟩
abbrev z_Findings_add : List Cond := Cond.code y_Findings_add b_Findings_add 5 (some .int) :: w_all
abbrev b_Findings_isOpen : ByteArray := prog_2_method_3_code
def y_Findings_isOpen : MethodName := ⟨R_Findings, "isOpen", "(I)Z"⟩
abbrev z_Findings_isOpen : List Cond := Cond.code y_Findings_isOpen b_Findings_isOpen 2 (some .boolean) :: w_all
abbrev b_Findings_isMissed : ByteArray := prog_2_method_4_code
def y_Findings_isMissed : MethodName := ⟨R_Findings, "isMissed", "(II)Z"⟩
abbrev z_Findings_isMissed : List Cond := Cond.code y_Findings_isMissed b_Findings_isMissed 3 (some .boolean) :: w_all
abbrev b_Findings_riskOn : ByteArray := prog_2_method_5_code
def y_Findings_riskOn : MethodName := ⟨R_Findings, "riskOn", "(II)I"⟩
abbrev z_Findings_riskOn : List Cond := Cond.code y_Findings_riskOn b_Findings_riskOn 3 (some .int) :: w_all
abbrev b_Findings_countOpen : ByteArray := prog_2_method_6_code
def y_Findings_countOpen : MethodName := ⟨R_Findings, "countOpen", "(I)I"⟩
abbrev z_Findings_countOpen : List Cond := Cond.code y_Findings_countOpen b_Findings_countOpen 4 (some .int) :: w_all
def R_Questions : String := "InspectRows$Questions"
def F_Questions : u_T := fun k => match k with
  | 0 => ("InspectRows$Questions", "told", "[Z", true)
  | 1 => ("InspectRows$Questions", "afterYes", "[I", true)
  | 2 => ("InspectRows$Questions", "afterNo", "[I", true)
  | 3 => ("InspectRows$Questions", "weights", "[I", true)
  | 4 => ("InspectRows$Questions", "found", "[I", true)
  | _ => ("InspectRows$Questions", "foundCount", "I", false)
def t_Questions : Nat → FieldType := fun k => match k with
  | 0 => .array .boolean
  | 1 => .array .int
  | 2 => .array .int
  | 3 => .array .int
  | 4 => .array .int
  | _ => .int
theorem n_Questions : ∀ a, a < 6 → ∀ b, b < 6 → a ≠ b → (F_Questions a).2.1 ≠ (F_Questions b).2.1 := by decide +kernel
theorem t_Questions_ok : ∀ k, k < 6 → parseFieldDescriptor (F_Questions k).2.2.1 = some (t_Questions k) := by decide +kernel
abbrev b_Questions_init : ByteArray := prog_5_method_1_code
def y_Questions_init : MethodName := ⟨R_Questions, "<init>", "()V"⟩
abbrev z_Questions_init : List Cond := Cond.code y_Questions_init b_Questions_init 1 none :: w_all
abbrev b_Questions_tell : ByteArray := prog_5_method_2_code
def y_Questions_tell : MethodName := ⟨R_Questions, "tell", "(IIII)V"⟩
abbrev z_Questions_tell : List Cond := Cond.code y_Questions_tell b_Questions_tell 5 none :: w_all
abbrev b_Questions_answer : ByteArray := prog_5_method_3_code
def y_Questions_answer : MethodName := ⟨R_Questions, "answer", "(I)Z"⟩
abbrev z_Questions_answer : List Cond := Cond.code y_Questions_answer b_Questions_answer 6 (some .boolean) :: w_all
def R_Route : String := "InspectRows$Route"
def F_Route : u_T := fun k => match k with
  | 0 => ("InspectRows$Route", "told", "[I", true)
  | 1 => ("InspectRows$Route", "xs", "[I", true)
  | 2 => ("InspectRows$Route", "ys", "[I", true)
  | 3 => ("InspectRows$Route", "legs", "[I", true)
  | 4 => ("InspectRows$Route", "leastHome", "[I", true)
  | 5 => ("InspectRows$Route", "stops", "[I", true)
  | _ => ("InspectRows$Route", "count", "I", false)
def t_Route : Nat → FieldType := fun k => match k with
  | 0 => .array .int
  | 1 => .array .int
  | 2 => .array .int
  | 3 => .array .int
  | 4 => .array .int
  | 5 => .array .int
  | _ => .int
theorem n_Route : ∀ a, a < 7 → ∀ b, b < 7 → a ≠ b → (F_Route a).2.1 ≠ (F_Route b).2.1 := by decide +kernel
theorem t_Route_ok : ∀ k, k < 7 → parseFieldDescriptor (F_Route k).2.2.1 = some (t_Route k) := by decide +kernel
abbrev b_Route_init : ByteArray := prog_6_method_1_code
def y_Route_init : MethodName := ⟨R_Route, "<init>", "()V"⟩
abbrev z_Route_init : List Cond := Cond.code y_Route_init b_Route_init 1 none :: w_all
abbrev b_Route_tell : ByteArray := prog_6_method_2_code
def y_Route_tell : MethodName := ⟨R_Route, "tell", "(IIII)V"⟩
abbrev z_Route_tell : List Cond := Cond.code y_Route_tell b_Route_tell 5 none :: w_all
abbrev b_Route_findLeast : ByteArray := prog_6_method_3_code
def y_Route_findLeast : MethodName := ⟨R_Route, "findLeast", "(I)I"⟩
abbrev z_Route_findLeast : List Cond := Cond.code y_Route_findLeast b_Route_findLeast 2 (some .int) :: w_all
abbrev b_Route_fillLegs : ByteArray := prog_6_method_4_code
def y_Route_fillLegs : MethodName := ⟨R_Route, "fillLegs", "()V"⟩
abbrev z_Route_fillLegs : List Cond := Cond.code y_Route_fillLegs b_Route_fillLegs 3 none :: w_all
abbrev b_Route_fillLeastHome : ByteArray := prog_6_method_5_code
def y_Route_fillLeastHome : MethodName := ⟨R_Route, "fillLeastHome", "()V"⟩
abbrev z_Route_fillLeastHome : List Cond := Cond.code y_Route_fillLeastHome b_Route_fillLeastHome 5 none :: w_all
abbrev b_Route_fillStops : ByteArray := prog_6_method_6_code
def y_Route_fillStops : MethodName := ⟨R_Route, "fillStops", "()V"⟩
abbrev z_Route_fillStops : List Cond := Cond.code y_Route_fillStops b_Route_fillStops 4 none :: w_all
abbrev b_Route_firstLeastNext : ByteArray := prog_6_method_7_code
def y_Route_firstLeastNext : MethodName := ⟨R_Route, "firstLeastNext", "(II)I"⟩
abbrev z_Route_firstLeastNext : List Cond := Cond.code y_Route_firstLeastNext b_Route_firstLeastNext 7 (some .int) :: w_all
abbrev b_Route_metresBy : ByteArray := prog_6_method_8_code
def y_Route_metresBy : MethodName := ⟨R_Route, "metresBy", "(III)I"⟩
abbrev z_Route_metresBy : List Cond := Cond.code y_Route_metresBy b_Route_metresBy 5 (some .int) :: w_all
def R_Permits : String := "InspectRows$Permits"
def F_Permits : u_T := fun k => match k with
  | 0 => ("InspectRows$Permits", "x1s", "[I", true)
  | 1 => ("InspectRows$Permits", "y1s", "[I", true)
  | 2 => ("InspectRows$Permits", "x2s", "[I", true)
  | 3 => ("InspectRows$Permits", "y2s", "[I", true)
  | 4 => ("InspectRows$Permits", "froms", "[I", true)
  | 5 => ("InspectRows$Permits", "tos", "[I", true)
  | 6 => ("InspectRows$Permits", "count", "I", false)
  | 7 => ("InspectRows$Permits", "groundTold", "Z", false)
  | 8 => ("InspectRows$Permits", "groundX1", "I", false)
  | 9 => ("InspectRows$Permits", "groundY1", "I", false)
  | 10 => ("InspectRows$Permits", "groundX2", "I", false)
  | 11 => ("InspectRows$Permits", "groundY2", "I", false)
  | 12 => ("InspectRows$Permits", "space", "I", false)
  | 13 => ("InspectRows$Permits", "distance", "I", false)
  | _ => ("InspectRows$Permits", "clash", "I", false)
def t_Permits : Nat → FieldType := fun k => match k with
  | 0 => .array .int
  | 1 => .array .int
  | 2 => .array .int
  | 3 => .array .int
  | 4 => .array .int
  | 5 => .array .int
  | 6 => .int
  | 7 => .boolean
  | 8 => .int
  | 9 => .int
  | 10 => .int
  | 11 => .int
  | 12 => .int
  | 13 => .int
  | _ => .int
theorem n_Permits : ∀ a, a < 15 → ∀ b, b < 15 → a ≠ b → (F_Permits a).2.1 ≠ (F_Permits b).2.1 := by decide +kernel
theorem t_Permits_ok : ∀ k, k < 15 → parseFieldDescriptor (F_Permits k).2.2.1 = some (t_Permits k) := by decide +kernel
abbrev b_Permits_init : ByteArray := prog_3_method_1_code
def y_Permits_init : MethodName := ⟨R_Permits, "<init>", "()V"⟩
abbrev z_Permits_init : List Cond := Cond.code y_Permits_init b_Permits_init 1 none :: w_all
abbrev b_Permits_tellGround : ByteArray := prog_3_method_2_code
def y_Permits_tellGround : MethodName := ⟨R_Permits, "tellGround", "(IIII)V"⟩
abbrev z_Permits_tellGround : List Cond := Cond.code y_Permits_tellGround b_Permits_tellGround 5 none :: w_all
abbrev b_Permits_add : ByteArray := prog_3_method_3_code
def y_Permits_add : MethodName := ⟨R_Permits, "add", "(II)I"⟩
abbrev z_Permits_add : List Cond := Cond.code y_Permits_add b_Permits_add 4 (some .int) :: w_all
abbrev b_Permits_findClash : ByteArray := prog_3_method_4_code
def y_Permits_findClash : MethodName := ⟨R_Permits, "findClash", "(III)I"⟩
abbrev z_Permits_findClash : List Cond := Cond.code y_Permits_findClash b_Permits_findClash 6 (some .int) :: w_all
abbrev b_Permits_groundArea : ByteArray := prog_3_method_5_code
def y_Permits_groundArea : MethodName := ⟨R_Permits, "groundArea", "()J"⟩
abbrev z_Permits_groundArea : List Cond := Cond.code y_Permits_groundArea b_Permits_groundArea 1 (some .long) :: w_all
abbrev b_Permits_isTooNear : ByteArray := prog_3_method_6_code
def y_Permits_isTooNear : MethodName := ⟨R_Permits, "isTooNear", "(I)Z"⟩
abbrev z_Permits_isTooNear : List Cond := Cond.code y_Permits_isTooNear b_Permits_isTooNear 6 (some .boolean) :: w_all
abbrev b_Permits_gap : ByteArray := prog_3_method_7_code
def y_Permits_gap : MethodName := ⟨R_Permits, "gap", "(IIII)J"⟩
abbrev z_Permits_gap : List Cond := Cond.code y_Permits_gap b_Permits_gap 4 (some .long) :: w_all
def R_Mo : String := "InspectRowsModel"
def F_Mo : u_T := fun k => match k with
  | 0 => ("InspectRowsModel", "thrown", "I", false)
  | 1 => ("InspectRowsModel", "day", "I", false)
  | 2 => ("InspectRowsModel", "weight", "[I", true)
  | 3 => ("InspectRowsModel", "step", "[I", true)
  | 4 => ("InspectRowsModel", "interval", "[I", true)
  | 5 => ("InspectRowsModel", "time", "[I", true)
  | 6 => ("InspectRowsModel", "points", "I", false)
  | 7 => ("InspectRowsModel", "kind", "[I", true)
  | 8 => ("InspectRowsModel", "height", "[I", true)
  | 9 => ("InspectRowsModel", "people", "[I", true)
  | 10 => ("InspectRowsModel", "px", "[I", true)
  | 11 => ("InspectRowsModel", "py", "[I", true)
  | 12 => ("InspectRowsModel", "visited", "[I", true)
  | 13 => ("InspectRowsModel", "findings", "I", false)
  | 14 => ("InspectRowsModel", "of", "[I", true)
  | 15 => ("InspectRowsModel", "heavy", "[I", true)
  | 16 => ("InspectRowsModel", "until", "[I", true)
  | 17 => ("InspectRowsModel", "proof", "[I", true)
  | 18 => ("InspectRowsModel", "told", "[Z", true)
  | 19 => ("InspectRowsModel", "yes", "[I", true)
  | 20 => ("InspectRowsModel", "no", "[I", true)
  | 21 => ("InspectRowsModel", "bad", "[I", true)
  | 22 => ("InspectRowsModel", "stops", "I", false)
  | 23 => ("InspectRowsModel", "stop", "[I", true)
  | 24 => ("InspectRowsModel", "list", "[I", true)
  | 25 => ("InspectRowsModel", "least", "[I", true)
  | 26 => ("InspectRowsModel", "space", "I", false)
  | 27 => ("InspectRowsModel", "distance", "I", false)
  | 28 => ("InspectRowsModel", "ground", "Z", false)
  | 29 => ("InspectRowsModel", "grounds", "[I", true)
  | 30 => ("InspectRowsModel", "permits", "I", false)
  | 31 => ("InspectRowsModel", "from", "[I", true)
  | 32 => ("InspectRowsModel", "to", "[I", true)
  | _ => ("InspectRowsModel", "clash", "I", false)
def t_Mo : Nat → FieldType := fun k => match k with
  | 0 => .int
  | 1 => .int
  | 2 => .array .int
  | 3 => .array .int
  | 4 => .array .int
  | 5 => .array .int
  | 6 => .int
  | 7 => .array .int
  | 8 => .array .int
  | 9 => .array .int
  | 10 => .array .int
  | 11 => .array .int
  | 12 => .array .int
  | 13 => .int
  | 14 => .array .int
  | 15 => .array .int
  | 16 => .array .int
  | 17 => .array .int
  | 18 => .array .boolean
  | 19 => .array .int
  | 20 => .array .int
  | 21 => .array .int
  | 22 => .int
  | 23 => .array .int
  | 24 => .array .int
  | 25 => .array .int
  | 26 => .int
  | 27 => .int
  | 28 => .boolean
  | 29 => .array .int
  | 30 => .int
  | 31 => .array .int
  | 32 => .array .int
  | _ => .int
theorem n_Mo : ∀ a, a < 34 → ∀ b, b < 34 → a ≠ b → (F_Mo a).2.1 ≠ (F_Mo b).2.1 := by decide +kernel
theorem t_Mo_ok : ∀ k, k < 34 → parseFieldDescriptor (F_Mo k).2.2.1 = some (t_Mo k) := by decide +kernel
abbrev b_Mo_init : ByteArray := prog_9_method_1_code
def y_Mo_init : MethodName := ⟨R_Mo, "<init>", "()V"⟩
abbrev z_Mo_init : List Cond := Cond.code y_Mo_init b_Mo_init 1 none :: w_all
abbrev b_Mo_thrown : ByteArray := prog_9_method_2_code
def y_Mo_thrown : MethodName := ⟨R_Mo, "thrown", "()I"⟩
abbrev z_Mo_thrown : List Cond := Cond.code y_Mo_thrown b_Mo_thrown 1 (some .int) :: w_all
abbrev b_Mo_throwing : ByteArray := prog_9_method_3_code
def y_Mo_throwing : MethodName := ⟨R_Mo, "throwing", "(ZZZ)Z"⟩
abbrev z_Mo_throwing : List Cond := Cond.code y_Mo_throwing b_Mo_throwing 4 (some .boolean) :: w_all
abbrev b_Mo_in : ByteArray := prog_9_method_4_code
def y_Mo_in : MethodName := ⟨R_Mo, "in", "(III)Z"⟩
abbrev z_Mo_in : List Cond := Cond.code y_Mo_in b_Mo_in 3 (some .boolean) :: w_all
abbrev b_Mo_isPoint : ByteArray := prog_9_method_5_code
def y_Mo_isPoint : MethodName := ⟨R_Mo, "isPoint", "(I)Z"⟩
abbrev z_Mo_isPoint : List Cond := Cond.code y_Mo_isPoint b_Mo_isPoint 2 (some .boolean) :: w_all
abbrev b_Mo_weight : ByteArray := prog_9_method_6_code
def y_Mo_weight : MethodName := ⟨R_Mo, "weight", "(II)V"⟩
abbrev z_Mo_weight : List Cond := Cond.code y_Mo_weight b_Mo_weight 3 none :: w_all
abbrev b_Mo_steps : ByteArray := prog_9_method_7_code
def y_Mo_steps : MethodName := ⟨R_Mo, "steps", "(III)V"⟩
abbrev z_Mo_steps : List Cond := Cond.code y_Mo_steps b_Mo_steps 4 none :: w_all
abbrev b_Mo_interval : ByteArray := prog_9_method_8_code
def y_Mo_interval : MethodName := ⟨R_Mo, "interval", "(III)V"⟩
abbrev z_Mo_interval : List Cond := Cond.code y_Mo_interval b_Mo_interval 4 none :: w_all
abbrev b_Mo_point : ByteArray := prog_9_method_9_code
def y_Mo_point : MethodName := ⟨R_Mo, "point", "(IIIII)I"⟩
abbrev z_Mo_point : List Cond := Cond.code y_Mo_point b_Mo_point 7 (some .int) :: w_all
abbrev b_Mo_day : ByteArray := prog_9_method_10_code
def y_Mo_day : MethodName := ⟨R_Mo, "day", "(I)V"⟩
abbrev z_Mo_day : List Cond := Cond.code y_Mo_day b_Mo_day 2 none :: w_all
abbrev b_Mo_visit : ByteArray := prog_9_method_11_code
def y_Mo_visit : MethodName := ⟨R_Mo, "visit", "(I)V"⟩
abbrev z_Mo_visit : List Cond := Cond.code y_Mo_visit b_Mo_visit 2 none :: w_all
abbrev b_Mo_isMissed : ByteArray := prog_9_method_12_code
def y_Mo_isMissed : MethodName := ⟨R_Mo, "isMissed", "(I)Z"⟩
abbrev z_Mo_isMissed : List Cond := Cond.code y_Mo_isMissed b_Mo_isMissed 2 (some .boolean) :: w_all
abbrev b_Mo_riskOf : ByteArray := prog_9_method_13_code
def y_Mo_riskOf : MethodName := ⟨R_Mo, "riskOf", "(I)I"⟩
abbrev z_Mo_riskOf : List Cond := Cond.code y_Mo_riskOf b_Mo_riskOf 4 (some .int) :: w_all
abbrev b_Mo_classOf : ByteArray := prog_9_method_14_code
def y_Mo_classOf : MethodName := ⟨R_Mo, "classOf", "(I)I"⟩
abbrev z_Mo_classOf : List Cond := Cond.code y_Mo_classOf b_Mo_classOf 5 (some .int) :: w_all
abbrev b_Mo_add : ByteArray := prog_9_method_15_code
def y_Mo_add : MethodName := ⟨R_Mo, "add", "(III)V"⟩
abbrev z_Mo_add : List Cond := Cond.code y_Mo_add b_Mo_add 4 none :: w_all
abbrev b_Mo_finding : ByteArray := prog_9_method_16_code
def y_Mo_finding : MethodName := ⟨R_Mo, "finding", "(III)I"⟩
abbrev z_Mo_finding : List Cond := Cond.code y_Mo_finding b_Mo_finding 4 (some .int) :: w_all
abbrev b_Mo_done : ByteArray := prog_9_method_17_code
def y_Mo_done : MethodName := ⟨R_Mo, "done", "(II)V"⟩
abbrev z_Mo_done : List Cond := Cond.code y_Mo_done b_Mo_done 4 none :: w_all
abbrev b_Mo_findingAt : ByteArray := prog_9_method_18_code
def y_Mo_findingAt : MethodName := ⟨R_Mo, "findingAt", "(II)I"⟩
abbrev z_Mo_findingAt : List Cond := Cond.code y_Mo_findingAt b_Mo_findingAt 3 (some .int) :: w_all
abbrev b_Mo_dueFrom : ByteArray := prog_9_method_19_code
def y_Mo_dueFrom : MethodName := ⟨R_Mo, "dueFrom", "(I)I"⟩
abbrev z_Mo_dueFrom : List Cond := Cond.code y_Mo_dueFrom b_Mo_dueFrom 2 (some .int) :: w_all
abbrev b_Mo_pointAt : ByteArray := prog_9_method_20_code
def y_Mo_pointAt : MethodName := ⟨R_Mo, "pointAt", "(II)I"⟩
abbrev z_Mo_pointAt : List Cond := Cond.code y_Mo_pointAt b_Mo_pointAt 5 (some .int) :: w_all
abbrev b_Mo_isAhead : ByteArray := prog_9_method_21_code
def y_Mo_isAhead : MethodName := ⟨R_Mo, "isAhead", "(II)Z"⟩
abbrev z_Mo_isAhead : List Cond := Cond.code y_Mo_isAhead b_Mo_isAhead 5 (some .boolean) :: w_all
abbrev b_Mo_due : ByteArray := prog_9_method_22_code
def y_Mo_due : MethodName := ⟨R_Mo, "due", "(II)I"⟩
abbrev z_Mo_due : List Cond := Cond.code y_Mo_due b_Mo_due 6 (some .int) :: w_all
abbrev b_Mo_question : ByteArray := prog_9_method_23_code
def y_Mo_question : MethodName := ⟨R_Mo, "question", "(IIII)V"⟩
abbrev z_Mo_question : List Cond := Cond.code y_Mo_question b_Mo_question 6 none :: w_all
abbrev b_Mo_go : ByteArray := prog_9_method_24_code
def y_Mo_go : MethodName := ⟨R_Mo, "go", "(IIZI)I"⟩
abbrev z_Mo_go : List Cond := Cond.code y_Mo_go b_Mo_go 8 (some .int) :: w_all
abbrev b_Mo_list : ByteArray := prog_9_method_25_code
def y_Mo_list : MethodName := ⟨R_Mo, "list", "(II)I"⟩
abbrev z_Mo_list : List Cond := Cond.code y_Mo_list b_Mo_list 4 (some .int) :: w_all
abbrev b_Mo_size : ByteArray := prog_9_method_26_code
def y_Mo_size : MethodName := ⟨R_Mo, "size", "(I)I"⟩
abbrev z_Mo_size : List Cond := Cond.code y_Mo_size b_Mo_size 1 (some .int) :: w_all
abbrev b_Mo_between : ByteArray := prog_9_method_27_code
def y_Mo_between : MethodName := ⟨R_Mo, "between", "(II)I"⟩
abbrev z_Mo_between : List Cond := Cond.code y_Mo_between b_Mo_between 3 (some .int) :: w_all
abbrev b_Mo_home : ByteArray := prog_9_method_28_code
def y_Mo_home : MethodName := ⟨R_Mo, "home", "(I)I"⟩
abbrev z_Mo_home : List Cond := Cond.code y_Mo_home b_Mo_home 2 (some .int) :: w_all
abbrev b_Mo_placeOf : ByteArray := prog_9_method_29_code
def y_Mo_placeOf : MethodName := ⟨R_Mo, "placeOf", "(JI)I"⟩
abbrev z_Mo_placeOf : List Cond := Cond.code y_Mo_placeOf b_Mo_placeOf 3 (some .int) :: w_all
abbrev b_Mo_reckon : ByteArray := prog_9_method_30_code
def y_Mo_reckon : MethodName := ⟨R_Mo, "reckon", "(I)V"⟩
abbrev z_Mo_reckon : List Cond := Cond.code y_Mo_reckon b_Mo_reckon 8 none :: w_all
abbrev b_Mo_walk : ByteArray := prog_9_method_31_code
def y_Mo_walk : MethodName := ⟨R_Mo, "walk", "(JI)I"⟩
abbrev z_Mo_walk : List Cond := Cond.code y_Mo_walk b_Mo_walk 15 (some .int) :: w_all
abbrev b_Mo_stop : ByteArray := prog_9_method_32_code
def y_Mo_stop : MethodName := ⟨R_Mo, "stop", "(I)I"⟩
abbrev z_Mo_stop : List Cond := Cond.code y_Mo_stop b_Mo_stop 2 (some .int) :: w_all
abbrev b_Mo_rules : ByteArray := prog_9_method_33_code
def y_Mo_rules : MethodName := ⟨R_Mo, "rules", "(II)V"⟩
abbrev z_Mo_rules : List Cond := Cond.code y_Mo_rules b_Mo_rules 3 none :: w_all
abbrev b_Mo_isPlace : ByteArray := prog_9_method_34_code
def y_Mo_isPlace : MethodName := ⟨R_Mo, "isPlace", "(I)Z"⟩
abbrev z_Mo_isPlace : List Cond := Cond.code y_Mo_isPlace b_Mo_isPlace 1 (some .boolean) :: w_all
abbrev b_Mo_ground : ByteArray := prog_9_method_35_code
def y_Mo_ground : MethodName := ⟨R_Mo, "ground", "(IIII)V"⟩
abbrev z_Mo_ground : List Cond := Cond.code y_Mo_ground b_Mo_ground 7 none :: w_all
abbrev b_Mo_apart : ByteArray := prog_9_method_36_code
def y_Mo_apart : MethodName := ⟨R_Mo, "apart", "(IIII)J"⟩
abbrev z_Mo_apart : List Cond := Cond.code y_Mo_apart b_Mo_apart 4 (some .long) :: w_all
abbrev b_Mo_isNear : ByteArray := prog_9_method_37_code
def y_Mo_isNear : MethodName := ⟨R_Mo, "isNear", "(I)Z"⟩
abbrev z_Mo_isNear : List Cond := Cond.code y_Mo_isNear b_Mo_isNear 6 (some .boolean) :: w_all
abbrev b_Mo_refusal : ByteArray := prog_9_method_38_code
def y_Mo_refusal : MethodName := ⟨R_Mo, "refusal", "(III)I"⟩
abbrev z_Mo_refusal : List Cond := Cond.code y_Mo_refusal b_Mo_refusal 7 (some .int) :: w_all
abbrev b_Mo_permit : ByteArray := prog_9_method_39_code
def y_Mo_permit : MethodName := ⟨R_Mo, "permit", "(III)I"⟩
abbrev z_Mo_permit : List Cond := Cond.code y_Mo_permit b_Mo_permit 6 (some .int) :: w_all
abbrev b_Mo_clash : ByteArray := prog_9_method_40_code
def y_Mo_clash : MethodName := ⟨R_Mo, "clash", "()I"⟩
abbrev z_Mo_clash : List Cond := Cond.code y_Mo_clash b_Mo_clash 1 (some .int) :: w_all
abbrev b_Mo_touches : ByteArray := prog_9_method_41_code
def y_Mo_touches : MethodName := ⟨R_Mo, "touches", "(I)I"⟩
abbrev z_Mo_touches : List Cond := Cond.code y_Mo_touches b_Mo_touches 2 (some .int) :: w_all
abbrev b_Mo_surprise : ByteArray := prog_9_method_42_code
def y_Mo_surprise : MethodName := ⟨R_Mo, "surprise", "(I)I"⟩
abbrev z_Mo_surprise : List Cond := Cond.code y_Mo_surprise b_Mo_surprise 3 (some .int) :: w_all
abbrev classes : List vw_C := [(R_Ir, F_Ir, 8), (R_Scale, F_Scale, 4), (R_Points, F_Points, 6), (R_Findings, F_Findings, 5), (R_Questions, F_Questions, 6), (R_Route, F_Route, 7), (R_Permits, F_Permits, 15), (R_Mo, F_Mo, 34)]
theorem i_Ir : ∀ w ∈ u_ws R_Ir F_Ir 8, w ∈ w_all := fun w hw => List.mem_filter.mpr ⟨(by decide +kernel : ∀ w ∈ u_ws R_Ir F_Ir 8, w ∈ lw_tbl) w hw, (by decide +kernel : ∀ w ∈ u_ws R_Ir F_Ir 8, goodWord w = true) w hw⟩
theorem i_Scale : ∀ w ∈ u_ws R_Scale F_Scale 4, w ∈ w_all := fun w hw => List.mem_filter.mpr ⟨(by decide +kernel : ∀ w ∈ u_ws R_Scale F_Scale 4, w ∈ lw_tbl) w hw, (by decide +kernel : ∀ w ∈ u_ws R_Scale F_Scale 4, goodWord w = true) w hw⟩
theorem i_Points : ∀ w ∈ u_ws R_Points F_Points 6, w ∈ w_all := fun w hw => List.mem_filter.mpr ⟨(by decide +kernel : ∀ w ∈ u_ws R_Points F_Points 6, w ∈ lw_tbl) w hw, (by decide +kernel : ∀ w ∈ u_ws R_Points F_Points 6, goodWord w = true) w hw⟩
theorem i_Findings : ∀ w ∈ u_ws R_Findings F_Findings 5, w ∈ w_all := fun w hw => List.mem_filter.mpr ⟨(by decide +kernel : ∀ w ∈ u_ws R_Findings F_Findings 5, w ∈ lw_tbl) w hw, (by decide +kernel : ∀ w ∈ u_ws R_Findings F_Findings 5, goodWord w = true) w hw⟩
theorem i_Questions : ∀ w ∈ u_ws R_Questions F_Questions 6, w ∈ w_all := fun w hw => List.mem_filter.mpr ⟨(by decide +kernel : ∀ w ∈ u_ws R_Questions F_Questions 6, w ∈ lw_tbl) w hw, (by decide +kernel : ∀ w ∈ u_ws R_Questions F_Questions 6, goodWord w = true) w hw⟩
theorem i_Route : ∀ w ∈ u_ws R_Route F_Route 7, w ∈ w_all := fun w hw => List.mem_filter.mpr ⟨(by decide +kernel : ∀ w ∈ u_ws R_Route F_Route 7, w ∈ lw_tbl) w hw, (by decide +kernel : ∀ w ∈ u_ws R_Route F_Route 7, goodWord w = true) w hw⟩
theorem i_Permits : ∀ w ∈ u_ws R_Permits F_Permits 15, w ∈ w_all := fun w hw => List.mem_filter.mpr ⟨(by decide +kernel : ∀ w ∈ u_ws R_Permits F_Permits 15, w ∈ lw_tbl) w hw, (by decide +kernel : ∀ w ∈ u_ws R_Permits F_Permits 15, goodWord w = true) w hw⟩
theorem i_Mo : ∀ w ∈ u_ws R_Mo F_Mo 34, w ∈ w_all := fun w hw => List.mem_filter.mpr ⟨(by decide +kernel : ∀ w ∈ u_ws R_Mo F_Mo 34, w ∈ lw_tbl) w hw, (by decide +kernel : ∀ w ∈ u_ws R_Mo F_Mo 34, goodWord w = true) w hw⟩
end
section
section CV
variable {p : Program} {l : Launch} {e : Env} {R : Room} {s : State} {m : MethodId} {args : Array Value} {below : List Frame} {meth : Method} {c : Code} {H : Heap} {locs : List Loc} {cells slots : Nat} {Q : State → Prop} {g : JFrame} {rest : List Value} {a : Array Value}
theorem cv_callV (hr : CallRun p l e R s m args below meth c H locs cells slots 0 0 g rest (QcVoid a) (fun _ => False)) (kk : W p l e R s m args below meth c H locs cells slots Q { g with pc := g.pc + 3, stack := rest }) : W p l e R s m args below meth c H locs cells slots Q g := by
  intro T hT X
  obtain ⟨v, st₀, t, T', L, h0, X', hL, e1, ⟨hv, hh⟩, st⟩ := hr T hT X
  cases hv
  obtain ⟨t2, a1, b1⟩ := kk T' (by rw [e1, hh, h0]) (Stand.forget X' (fun q h => (hL q h).elim))
  exact ⟨t2, st t2 a1, b1⟩
theorem cv_callL {r : Int64} (hr : CallRun p l e R s m args below meth c H locs cells slots 0 0 g rest (QcReadL r a) (fun _ => False)) (kk : W p l e R s m args below meth c H locs cells slots Q { g with pc := g.pc + 3, stack := .long r :: rest }) : W p l e R s m args below meth c H locs cells slots Q g := by
  intro T hT X
  obtain ⟨v, st₀, t, T', L, h0, X', hL, e1, ⟨hv, hh⟩, st⟩ := hr T hT X
  cases hv
  obtain ⟨t2, a1, b1⟩ := kk T' (by rw [e1, hh, h0]) (Stand.forget X' (fun q h => (hL q h).elim))
  exact ⟨t2, st t2 a1, b1⟩
end CV
def ij (n : Nat) (L : Nat → Nat) : Prop := ∀ i j, i < n → j < n → L i = L j → i = j

def wI (L : Nat → Nat) (cA : Nat → ClassId) (ar : Nat → Nat → Int32) (sc : Nat → Int32) : va_W := [
  (L 0, .inr (0, [.ref (L 1), .ref (L 6), .ref (L 12), .ref (L 17), .ref (L 23), .ref (L 30), .ref (L 37), .int (sc 0)])),
  (L 1, .inr (1, [.ref (L 2), .ref (L 3), .ref (L 4), .ref (L 5)])),
  (L 2, .inl (cA 2, 5, .inl (ar 2))),
  (L 3, .inl (cA 3, 3, .inl (ar 3))),
  (L 4, .inl (cA 4, 4, .inl (ar 4))),
  (L 5, .inl (cA 5, 4, .inl (ar 5))),
  (L 6, .inr (2, [.ref (L 7), .ref (L 8), .ref (L 9), .ref (L 10), .ref (L 11), .int (sc 1)])),
  (L 7, .inl (cA 7, 30, .inl (ar 7))),
  (L 8, .inl (cA 8, 30, .inl (ar 8))),
  (L 9, .inl (cA 9, 30, .inl (ar 9))),
  (L 10, .inl (cA 10, 30, .inl (ar 10))),
  (L 11, .inl (cA 11, 30, .inl (ar 11))),
  (L 12, .inr (3, [.ref (L 13), .ref (L 14), .ref (L 15), .ref (L 16), .int (sc 2)])),
  (L 13, .inl (cA 13, 100, .inl (ar 13))),
  (L 14, .inl (cA 14, 100, .inl (ar 14))),
  (L 15, .inl (cA 15, 100, .inl (ar 15))),
  (L 16, .inl (cA 16, 100, .inl (ar 16))),
  (L 17, .inr (4, [.ref (L 18), .ref (L 19), .ref (L 20), .ref (L 21), .ref (L 22), .int (sc 3)])),
  (L 18, .inl (cA 18, 16, .inl (ar 18))),
  (L 19, .inl (cA 19, 16, .inl (ar 19))),
  (L 20, .inl (cA 20, 16, .inl (ar 20))),
  (L 21, .inl (cA 21, 16, .inl (ar 21))),
  (L 22, .inl (cA 22, 16, .inl (ar 22))),
  (L 23, .inr (5, [.ref (L 24), .ref (L 25), .ref (L 26), .ref (L 27), .ref (L 28), .ref (L 29), .int (sc 4)])),
  (L 24, .inl (cA 24, 7, .inl (ar 24))),
  (L 25, .inl (cA 25, 8, .inl (ar 25))),
  (L 26, .inl (cA 26, 8, .inl (ar 26))),
  (L 27, .inl (cA 27, 64, .inl (ar 27))),
  (L 28, .inl (cA 28, 1024, .inl (ar 28))),
  (L 29, .inl (cA 29, 7, .inl (ar 29))),
  (L 30, .inr (6, [.ref (L 31), .ref (L 32), .ref (L 33), .ref (L 34), .ref (L 35), .ref (L 36), .int (sc 5), .int (sc 6), .int (sc 7), .int (sc 8), .int (sc 9), .int (sc 10), .int (sc 11), .int (sc 12), .int (sc 13)])),
  (L 31, .inl (cA 31, 30, .inl (ar 31))),
  (L 32, .inl (cA 32, 30, .inl (ar 32))),
  (L 33, .inl (cA 33, 30, .inl (ar 33))),
  (L 34, .inl (cA 34, 30, .inl (ar 34))),
  (L 35, .inl (cA 35, 30, .inl (ar 35))),
  (L 36, .inl (cA 36, 30, .inl (ar 36))),
  (L 37, .inl (cA 37, 30, .inl (ar 37)))]
def ty_I (cA : Nat → ClassId) : List (ClassId × FieldType) := [(cA 2, .int), (cA 3, .int), (cA 4, .int), (cA 5, .int), (cA 7, .int), (cA 8, .int), (cA 9, .int), (cA 10, .int), (cA 11, .int), (cA 13, .int), (cA 14, .int), (cA 15, .int), (cA 16, .int), (cA 18, .boolean), (cA 19, .int), (cA 20, .int), (cA 21, .int), (cA 22, .int), (cA 24, .int), (cA 25, .int), (cA 26, .int), (cA 27, .int), (cA 28, .int), (cA 29, .int), (cA 31, .int), (cA 32, .int), (cA 33, .int), (cA 34, .int), (cA 35, .int), (cA 36, .int), (cA 37, .int)]
def aI (L : Nat → Nat) : Nat → Prop := fun q => ∃ k, k < 38 ∧ L k = q
theorem wI_at {L : Nat → Nat} {cA : Nat → ClassId} {ar : Nat → Nat → Int32} {sc : Nat → Int32} {k : Nat} {q : Nat × va_E} (h : (wI L cA ar sc)[k]? = some q) : k < 38 ∧ q.1 = L k := by
  have hm : (wI L cA ar sc).map Prod.fst = (List.range 38).map L := rfl
  have h1 : ((wI L cA ar sc).map Prod.fst)[k]? = some q.1 := by rw [List.getElem?_map, h]; rfl
  rw [hm, List.getElem?_map] at h1
  by_cases hk : k < 38
  · rw [List.getElem?_range hk] at h1
    exact ⟨hk, (Option.some.inj h1).symm⟩
  · rw [List.getElem?_eq_none (by rw [List.length_range]; omega)] at h1
    cases h1
theorem wI_D {L : Nat → Nat} (hL : ij 38 L) {cA : Nat → ClassId} {ar : Nat → Nat → Int32} {sc : Nat → Int32} : va_D (aI L) (wI L cA ar sc) :=
  ⟨fun i j p q hp hq e => hL i j (wI_at hp).1 (wI_at hq).1 (by rw [← (wI_at hp).2, ← (wI_at hq).2]; exact e), fun k q h => ⟨k, (wI_at h).1, (wI_at h).2.symm⟩⟩
def kW_I (dC : Nat → ClassId) (dI : Nat → Nat → Nat) (cA : Nat → ClassId) (U : State) : Prop := va_K (dC, dI) classes (ty_I cA) U ∧ ∀ w ∈ nw_all, va_Nw w U
theorem kW_I_warm {dC : Nat → ClassId} {dI : Nat → Nat → Nat} {cA : Nat → ClassId} {s U : State} (hW : s.WarmedH U.vm) (h : kW_I dC dI cA s) : kW_I dC dI cA U := ⟨va_K.moved hW.alike h.1, fun w hw => nw_warm (List.mem_filter.mp hw).2 hW (h.2 w hw)⟩
theorem kW_I_same {dC : Nat → ClassId} {dI : Nat → Nat → Nat} {cA : Nat → ClassId} {s U : State} (hv : s.vm = U.vm) (h : kW_I dC dI cA s) : kW_I dC dI cA U := ⟨va_K.moved (hv ▸ Vm.Alike.refl s.vm) h.1, fun w hw => nw_same (List.mem_filter.mp hw).2 hv (h.2 w hw)⟩
def xw_I (dC : Nat → ClassId) (dI : Nat → Nat → Nat) (L : Nat → Nat) (cA : Nat → ClassId) (ar : Nat → Nat → Int32) (sc : Nat → Int32) (U : State) : Prop := va_P (dC, dI) classes (wI L cA ar sc) U.heap ∧ kW_I dC dI cA U
theorem xb_I {dC : Nat → ClassId} {dI : Nat → Nat → Nat} {L : Nat → Nat} {cA : Nat → ClassId} {ar : Nat → Nat → Int32} {sc : Nat → Int32} {av : List Value} : FrameBlind (va_Pc av (fun U => xw_I dC dI L cA ar sc U)) := fun a U g mk q => ⟨q.1, q.2.1, kW_I_same (s := U) (U := U.calling g mk a) rfl q.2.2⟩
section VI
variable {p : Program} {l : Launch} {e : Env} {R : Room} {s : State} {m : MethodId} {args : Array Value} {below : List Frame} {meth : Method} {c : Code} {H H0 : Heap} {locs : List Loc} {cells slots : Nat} {Q : State → Prop} {cc : ByteArray} {nL pc idx : Nat} {ls : Array Slot} {rest : List Value} {own : String} {dC : Nat → ClassId} {dI : Nat → Nat → Nat} {L : Nat → Nat} {cA : Nat → ClassId} {ar : Nat → Nat → Int32} {sc : Nat → Int32}
theorem gf_Ir_scale (hF : CallFix p m c cc nL s args w_all own) (hK : kW_I dC dI cA s) (hP : va_P (dC, dI) classes (wI L cA ar sc) H) (hlink : Cond.fieldLink own idx "InspectRows" "scale" "LInspectRows$Scale;" ∈ w_all) (hdg : decode cc pc = .ok (.getfield idx, 3)) (kk : W p l e R s m args below meth c H locs cells slots Q (F0 m (pc + 3) ls (.ref (L 1) :: rest))) : W p l e R s m args below meth c H locs cells slots Q (F0 m pc ls (.ref (L 0) :: rest)) :=
  va_get (D := (dC, dI)) (ci := 0) (v := .ref (L 1)) (C := R_Ir) (T := F_Ir) (N := 8) hF.1 hF.2.1 hF.2.2.2.2 i_Ir hF.2.2.2.1 hK.1 hP 0 rfl rfl 0 (by decide) (hF.2.2.2.2 _ hlink) (fun _ h9 => h9) rfl hdg kk
theorem gn_Ir_scale (hF : CallFix p m c cc nL s args w_all own) (hK : kW_I dC dI cA s) (hP : va_P (dC, dI) classes (wI L cA ar sc) H) (hlink : Cond.fieldLinkNest own idx "InspectRows" "scale" "LInspectRows$Scale;" "InspectRows" ∈ nw_all) (hdg : decode cc pc = .ok (.getfield idx, 3)) (kk : W p l e R s m args below meth c H locs cells slots Q (F0 m (pc + 3) ls (.ref (L 1) :: rest))) : W p l e R s m args below meth c H locs cells slots Q (F0 m pc ls (.ref (L 0) :: rest)) :=
  va_getN (D := (dC, dI)) (ci := 0) (v := .ref (L 1)) (C := R_Ir) (T := F_Ir) (N := 8) hF.1 hF.2.1 hF.2.2.2.2 i_Ir hF.2.2.2.1 hK.1 hP 0 rfl rfl 0 (by decide) (va_Nw.use rfl (hK.2 _ hlink)) (fun _ h9 => h9) rfl hdg kk
theorem gf_Ir_points (hF : CallFix p m c cc nL s args w_all own) (hK : kW_I dC dI cA s) (hP : va_P (dC, dI) classes (wI L cA ar sc) H) (hlink : Cond.fieldLink own idx "InspectRows" "points" "LInspectRows$Points;" ∈ w_all) (hdg : decode cc pc = .ok (.getfield idx, 3)) (kk : W p l e R s m args below meth c H locs cells slots Q (F0 m (pc + 3) ls (.ref (L 6) :: rest))) : W p l e R s m args below meth c H locs cells slots Q (F0 m pc ls (.ref (L 0) :: rest)) :=
  va_get (D := (dC, dI)) (ci := 0) (v := .ref (L 6)) (C := R_Ir) (T := F_Ir) (N := 8) hF.1 hF.2.1 hF.2.2.2.2 i_Ir hF.2.2.2.1 hK.1 hP 0 rfl rfl 1 (by decide) (hF.2.2.2.2 _ hlink) (fun _ h9 => h9) rfl hdg kk
theorem gn_Ir_points (hF : CallFix p m c cc nL s args w_all own) (hK : kW_I dC dI cA s) (hP : va_P (dC, dI) classes (wI L cA ar sc) H) (hlink : Cond.fieldLinkNest own idx "InspectRows" "points" "LInspectRows$Points;" "InspectRows" ∈ nw_all) (hdg : decode cc pc = .ok (.getfield idx, 3)) (kk : W p l e R s m args below meth c H locs cells slots Q (F0 m (pc + 3) ls (.ref (L 6) :: rest))) : W p l e R s m args below meth c H locs cells slots Q (F0 m pc ls (.ref (L 0) :: rest)) :=
  va_getN (D := (dC, dI)) (ci := 0) (v := .ref (L 6)) (C := R_Ir) (T := F_Ir) (N := 8) hF.1 hF.2.1 hF.2.2.2.2 i_Ir hF.2.2.2.1 hK.1 hP 0 rfl rfl 1 (by decide) (va_Nw.use rfl (hK.2 _ hlink)) (fun _ h9 => h9) rfl hdg kk
theorem gf_Ir_findings (hF : CallFix p m c cc nL s args w_all own) (hK : kW_I dC dI cA s) (hP : va_P (dC, dI) classes (wI L cA ar sc) H) (hlink : Cond.fieldLink own idx "InspectRows" "findings" "LInspectRows$Findings;" ∈ w_all) (hdg : decode cc pc = .ok (.getfield idx, 3)) (kk : W p l e R s m args below meth c H locs cells slots Q (F0 m (pc + 3) ls (.ref (L 12) :: rest))) : W p l e R s m args below meth c H locs cells slots Q (F0 m pc ls (.ref (L 0) :: rest)) :=
  va_get (D := (dC, dI)) (ci := 0) (v := .ref (L 12)) (C := R_Ir) (T := F_Ir) (N := 8) hF.1 hF.2.1 hF.2.2.2.2 i_Ir hF.2.2.2.1 hK.1 hP 0 rfl rfl 2 (by decide) (hF.2.2.2.2 _ hlink) (fun _ h9 => h9) rfl hdg kk
theorem gn_Ir_findings (hF : CallFix p m c cc nL s args w_all own) (hK : kW_I dC dI cA s) (hP : va_P (dC, dI) classes (wI L cA ar sc) H) (hlink : Cond.fieldLinkNest own idx "InspectRows" "findings" "LInspectRows$Findings;" "InspectRows" ∈ nw_all) (hdg : decode cc pc = .ok (.getfield idx, 3)) (kk : W p l e R s m args below meth c H locs cells slots Q (F0 m (pc + 3) ls (.ref (L 12) :: rest))) : W p l e R s m args below meth c H locs cells slots Q (F0 m pc ls (.ref (L 0) :: rest)) :=
  va_getN (D := (dC, dI)) (ci := 0) (v := .ref (L 12)) (C := R_Ir) (T := F_Ir) (N := 8) hF.1 hF.2.1 hF.2.2.2.2 i_Ir hF.2.2.2.1 hK.1 hP 0 rfl rfl 2 (by decide) (va_Nw.use rfl (hK.2 _ hlink)) (fun _ h9 => h9) rfl hdg kk
theorem gf_Ir_questions (hF : CallFix p m c cc nL s args w_all own) (hK : kW_I dC dI cA s) (hP : va_P (dC, dI) classes (wI L cA ar sc) H) (hlink : Cond.fieldLink own idx "InspectRows" "questions" "LInspectRows$Questions;" ∈ w_all) (hdg : decode cc pc = .ok (.getfield idx, 3)) (kk : W p l e R s m args below meth c H locs cells slots Q (F0 m (pc + 3) ls (.ref (L 17) :: rest))) : W p l e R s m args below meth c H locs cells slots Q (F0 m pc ls (.ref (L 0) :: rest)) :=
  va_get (D := (dC, dI)) (ci := 0) (v := .ref (L 17)) (C := R_Ir) (T := F_Ir) (N := 8) hF.1 hF.2.1 hF.2.2.2.2 i_Ir hF.2.2.2.1 hK.1 hP 0 rfl rfl 3 (by decide) (hF.2.2.2.2 _ hlink) (fun _ h9 => h9) rfl hdg kk
theorem gn_Ir_questions (hF : CallFix p m c cc nL s args w_all own) (hK : kW_I dC dI cA s) (hP : va_P (dC, dI) classes (wI L cA ar sc) H) (hlink : Cond.fieldLinkNest own idx "InspectRows" "questions" "LInspectRows$Questions;" "InspectRows" ∈ nw_all) (hdg : decode cc pc = .ok (.getfield idx, 3)) (kk : W p l e R s m args below meth c H locs cells slots Q (F0 m (pc + 3) ls (.ref (L 17) :: rest))) : W p l e R s m args below meth c H locs cells slots Q (F0 m pc ls (.ref (L 0) :: rest)) :=
  va_getN (D := (dC, dI)) (ci := 0) (v := .ref (L 17)) (C := R_Ir) (T := F_Ir) (N := 8) hF.1 hF.2.1 hF.2.2.2.2 i_Ir hF.2.2.2.1 hK.1 hP 0 rfl rfl 3 (by decide) (va_Nw.use rfl (hK.2 _ hlink)) (fun _ h9 => h9) rfl hdg kk
theorem gf_Ir_route (hF : CallFix p m c cc nL s args w_all own) (hK : kW_I dC dI cA s) (hP : va_P (dC, dI) classes (wI L cA ar sc) H) (hlink : Cond.fieldLink own idx "InspectRows" "route" "LInspectRows$Route;" ∈ w_all) (hdg : decode cc pc = .ok (.getfield idx, 3)) (kk : W p l e R s m args below meth c H locs cells slots Q (F0 m (pc + 3) ls (.ref (L 23) :: rest))) : W p l e R s m args below meth c H locs cells slots Q (F0 m pc ls (.ref (L 0) :: rest)) :=
  va_get (D := (dC, dI)) (ci := 0) (v := .ref (L 23)) (C := R_Ir) (T := F_Ir) (N := 8) hF.1 hF.2.1 hF.2.2.2.2 i_Ir hF.2.2.2.1 hK.1 hP 0 rfl rfl 4 (by decide) (hF.2.2.2.2 _ hlink) (fun _ h9 => h9) rfl hdg kk
theorem gn_Ir_route (hF : CallFix p m c cc nL s args w_all own) (hK : kW_I dC dI cA s) (hP : va_P (dC, dI) classes (wI L cA ar sc) H) (hlink : Cond.fieldLinkNest own idx "InspectRows" "route" "LInspectRows$Route;" "InspectRows" ∈ nw_all) (hdg : decode cc pc = .ok (.getfield idx, 3)) (kk : W p l e R s m args below meth c H locs cells slots Q (F0 m (pc + 3) ls (.ref (L 23) :: rest))) : W p l e R s m args below meth c H locs cells slots Q (F0 m pc ls (.ref (L 0) :: rest)) :=
  va_getN (D := (dC, dI)) (ci := 0) (v := .ref (L 23)) (C := R_Ir) (T := F_Ir) (N := 8) hF.1 hF.2.1 hF.2.2.2.2 i_Ir hF.2.2.2.1 hK.1 hP 0 rfl rfl 4 (by decide) (va_Nw.use rfl (hK.2 _ hlink)) (fun _ h9 => h9) rfl hdg kk
theorem gf_Ir_permits (hF : CallFix p m c cc nL s args w_all own) (hK : kW_I dC dI cA s) (hP : va_P (dC, dI) classes (wI L cA ar sc) H) (hlink : Cond.fieldLink own idx "InspectRows" "permits" "LInspectRows$Permits;" ∈ w_all) (hdg : decode cc pc = .ok (.getfield idx, 3)) (kk : W p l e R s m args below meth c H locs cells slots Q (F0 m (pc + 3) ls (.ref (L 30) :: rest))) : W p l e R s m args below meth c H locs cells slots Q (F0 m pc ls (.ref (L 0) :: rest)) :=
  va_get (D := (dC, dI)) (ci := 0) (v := .ref (L 30)) (C := R_Ir) (T := F_Ir) (N := 8) hF.1 hF.2.1 hF.2.2.2.2 i_Ir hF.2.2.2.1 hK.1 hP 0 rfl rfl 5 (by decide) (hF.2.2.2.2 _ hlink) (fun _ h9 => h9) rfl hdg kk
theorem gn_Ir_permits (hF : CallFix p m c cc nL s args w_all own) (hK : kW_I dC dI cA s) (hP : va_P (dC, dI) classes (wI L cA ar sc) H) (hlink : Cond.fieldLinkNest own idx "InspectRows" "permits" "LInspectRows$Permits;" "InspectRows" ∈ nw_all) (hdg : decode cc pc = .ok (.getfield idx, 3)) (kk : W p l e R s m args below meth c H locs cells slots Q (F0 m (pc + 3) ls (.ref (L 30) :: rest))) : W p l e R s m args below meth c H locs cells slots Q (F0 m pc ls (.ref (L 0) :: rest)) :=
  va_getN (D := (dC, dI)) (ci := 0) (v := .ref (L 30)) (C := R_Ir) (T := F_Ir) (N := 8) hF.1 hF.2.1 hF.2.2.2.2 i_Ir hF.2.2.2.1 hK.1 hP 0 rfl rfl 5 (by decide) (va_Nw.use rfl (hK.2 _ hlink)) (fun _ h9 => h9) rfl hdg kk
theorem gf_Ir_risks (hF : CallFix p m c cc nL s args w_all own) (hK : kW_I dC dI cA s) (hP : va_P (dC, dI) classes (wI L cA ar sc) H) (hlink : Cond.fieldLink own idx "InspectRows" "risks" "[I" ∈ w_all) (hdg : decode cc pc = .ok (.getfield idx, 3)) (kk : W p l e R s m args below meth c H locs cells slots Q (F0 m (pc + 3) ls (.ref (L 37) :: rest))) : W p l e R s m args below meth c H locs cells slots Q (F0 m pc ls (.ref (L 0) :: rest)) :=
  va_get (D := (dC, dI)) (ci := 0) (v := .ref (L 37)) (C := R_Ir) (T := F_Ir) (N := 8) hF.1 hF.2.1 hF.2.2.2.2 i_Ir hF.2.2.2.1 hK.1 hP 0 rfl rfl 6 (by decide) (hF.2.2.2.2 _ hlink) (fun _ h9 => h9) rfl hdg kk
theorem gn_Ir_risks (hF : CallFix p m c cc nL s args w_all own) (hK : kW_I dC dI cA s) (hP : va_P (dC, dI) classes (wI L cA ar sc) H) (hlink : Cond.fieldLinkNest own idx "InspectRows" "risks" "[I" "InspectRows" ∈ nw_all) (hdg : decode cc pc = .ok (.getfield idx, 3)) (kk : W p l e R s m args below meth c H locs cells slots Q (F0 m (pc + 3) ls (.ref (L 37) :: rest))) : W p l e R s m args below meth c H locs cells slots Q (F0 m pc ls (.ref (L 0) :: rest)) :=
  va_getN (D := (dC, dI)) (ci := 0) (v := .ref (L 37)) (C := R_Ir) (T := F_Ir) (N := 8) hF.1 hF.2.1 hF.2.2.2.2 i_Ir hF.2.2.2.1 hK.1 hP 0 rfl rfl 6 (by decide) (va_Nw.use rfl (hK.2 _ hlink)) (fun _ h9 => h9) rfl hdg kk
theorem gf_Ir_today (hF : CallFix p m c cc nL s args w_all own) (hK : kW_I dC dI cA s) (hP : va_P (dC, dI) classes (wI L cA ar sc) H) (hlink : Cond.fieldLink own idx "InspectRows" "today" "I" ∈ w_all) (hdg : decode cc pc = .ok (.getfield idx, 3)) (kk : W p l e R s m args below meth c H locs cells slots Q (F0 m (pc + 3) ls (.int (sc 0) :: rest))) : W p l e R s m args below meth c H locs cells slots Q (F0 m pc ls (.ref (L 0) :: rest)) :=
  va_get (D := (dC, dI)) (ci := 0) (v := .int (sc 0)) (C := R_Ir) (T := F_Ir) (N := 8) hF.1 hF.2.1 hF.2.2.2.2 i_Ir hF.2.2.2.1 hK.1 hP 0 rfl rfl 7 (by decide) (hF.2.2.2.2 _ hlink) (fun _ h9 => h9) rfl hdg kk
theorem pf_Ir_today {x : Int32} (hF : CallFix p m c cc nL s args w_all own) (hK : kW_I dC dI cA s) (hP : va_P (dC, dI) classes (wI L cA ar sc) H) (hL : ij 38 L) (hS : va_S (aI L) H0 H locs) (hlink : Cond.fieldLink own idx "InspectRows" "today" "I" ∈ w_all) (hdg : decode cc pc = .ok (.putfield idx, 3)) (kk : ∀ (H1 : Heap) (locs1 : List Loc), va_P (dC, dI) classes (wI L cA ar (sg sc 0 x)) H1 → va_S (aI L) H0 H1 locs1 → W p l e R s m args below meth c H1 locs1 cells slots Q (F0 m (pc + 3) ls rest)) : W p l e R s m args below meth c H locs cells slots Q (F0 m pc ls (.int x :: .ref (L 0) :: rest)) :=
  va_put (D := (dC, dI)) (ci := 0) (v := .int x) (ty := .int) (C := R_Ir) (T := F_Ir) (N := 8) hF.1 hF.2.1 hF.2.2.2.2 i_Ir t_Ir t_Ir_ok n_Ir hF.2.2.2.1 hK.1 hP (wI_D hL) hS 0 rfl rfl 7 (by decide) (hF.2.2.2.2 _ hlink) (fun _ h9 => h9) rfl (by decide +kernel) rfl rfl (Nat.le_of_ble_eq_true rfl) hdg (fun H1 locs1 h1 _ h3 => kk H1 locs1 h1 h3)
theorem gn_Ir_today (hF : CallFix p m c cc nL s args w_all own) (hK : kW_I dC dI cA s) (hP : va_P (dC, dI) classes (wI L cA ar sc) H) (hlink : Cond.fieldLinkNest own idx "InspectRows" "today" "I" "InspectRows" ∈ nw_all) (hdg : decode cc pc = .ok (.getfield idx, 3)) (kk : W p l e R s m args below meth c H locs cells slots Q (F0 m (pc + 3) ls (.int (sc 0) :: rest))) : W p l e R s m args below meth c H locs cells slots Q (F0 m pc ls (.ref (L 0) :: rest)) :=
  va_getN (D := (dC, dI)) (ci := 0) (v := .int (sc 0)) (C := R_Ir) (T := F_Ir) (N := 8) hF.1 hF.2.1 hF.2.2.2.2 i_Ir hF.2.2.2.1 hK.1 hP 0 rfl rfl 7 (by decide) (va_Nw.use rfl (hK.2 _ hlink)) (fun _ h9 => h9) rfl hdg kk
theorem pn_Ir_today {x : Int32} (hF : CallFix p m c cc nL s args w_all own) (hK : kW_I dC dI cA s) (hP : va_P (dC, dI) classes (wI L cA ar sc) H) (hL : ij 38 L) (hS : va_S (aI L) H0 H locs) (hlink : Cond.fieldLinkNest own idx "InspectRows" "today" "I" "InspectRows" ∈ nw_all) (hdg : decode cc pc = .ok (.putfield idx, 3)) (kk : ∀ (H1 : Heap) (locs1 : List Loc), va_P (dC, dI) classes (wI L cA ar (sg sc 0 x)) H1 → va_S (aI L) H0 H1 locs1 → W p l e R s m args below meth c H1 locs1 cells slots Q (F0 m (pc + 3) ls rest)) : W p l e R s m args below meth c H locs cells slots Q (F0 m pc ls (.int x :: .ref (L 0) :: rest)) :=
  va_putN (D := (dC, dI)) (ci := 0) (v := .int x) (ty := .int) (C := R_Ir) (T := F_Ir) (N := 8) hF.1 hF.2.1 hF.2.2.2.2 i_Ir t_Ir t_Ir_ok n_Ir hF.2.2.2.1 hK.1 hP (wI_D hL) hS 0 rfl rfl 7 (by decide) (va_Nw.use rfl (hK.2 _ hlink)) (fun _ h9 => h9) rfl (by decide +kernel) rfl rfl (Nat.le_of_ble_eq_true rfl) hdg (fun H1 locs1 h1 _ h3 => kk H1 locs1 h1 h3)
theorem gf_Scale_kindWeights (hF : CallFix p m c cc nL s args w_all own) (hK : kW_I dC dI cA s) (hP : va_P (dC, dI) classes (wI L cA ar sc) H) (hlink : Cond.fieldLink own idx "InspectRows$Scale" "kindWeights" "[I" ∈ w_all) (hdg : decode cc pc = .ok (.getfield idx, 3)) (kk : W p l e R s m args below meth c H locs cells slots Q (F0 m (pc + 3) ls (.ref (L 2) :: rest))) : W p l e R s m args below meth c H locs cells slots Q (F0 m pc ls (.ref (L 1) :: rest)) :=
  va_get (D := (dC, dI)) (ci := 1) (v := .ref (L 2)) (C := R_Scale) (T := F_Scale) (N := 4) hF.1 hF.2.1 hF.2.2.2.2 i_Scale hF.2.2.2.1 hK.1 hP 1 rfl rfl 0 (by decide) (hF.2.2.2.2 _ hlink) (fun _ h9 => h9) rfl hdg kk
theorem gn_Scale_kindWeights (hF : CallFix p m c cc nL s args w_all own) (hK : kW_I dC dI cA s) (hP : va_P (dC, dI) classes (wI L cA ar sc) H) (hlink : Cond.fieldLinkNest own idx "InspectRows$Scale" "kindWeights" "[I" "InspectRows" ∈ nw_all) (hdg : decode cc pc = .ok (.getfield idx, 3)) (kk : W p l e R s m args below meth c H locs cells slots Q (F0 m (pc + 3) ls (.ref (L 2) :: rest))) : W p l e R s m args below meth c H locs cells slots Q (F0 m pc ls (.ref (L 1) :: rest)) :=
  va_getN (D := (dC, dI)) (ci := 1) (v := .ref (L 2)) (C := R_Scale) (T := F_Scale) (N := 4) hF.1 hF.2.1 hF.2.2.2.2 i_Scale hF.2.2.2.1 hK.1 hP 1 rfl rfl 0 (by decide) (va_Nw.use rfl (hK.2 _ hlink)) (fun _ h9 => h9) rfl hdg kk
theorem gf_Scale_steps (hF : CallFix p m c cc nL s args w_all own) (hK : kW_I dC dI cA s) (hP : va_P (dC, dI) classes (wI L cA ar sc) H) (hlink : Cond.fieldLink own idx "InspectRows$Scale" "steps" "[I" ∈ w_all) (hdg : decode cc pc = .ok (.getfield idx, 3)) (kk : W p l e R s m args below meth c H locs cells slots Q (F0 m (pc + 3) ls (.ref (L 3) :: rest))) : W p l e R s m args below meth c H locs cells slots Q (F0 m pc ls (.ref (L 1) :: rest)) :=
  va_get (D := (dC, dI)) (ci := 1) (v := .ref (L 3)) (C := R_Scale) (T := F_Scale) (N := 4) hF.1 hF.2.1 hF.2.2.2.2 i_Scale hF.2.2.2.1 hK.1 hP 1 rfl rfl 1 (by decide) (hF.2.2.2.2 _ hlink) (fun _ h9 => h9) rfl hdg kk
theorem gn_Scale_steps (hF : CallFix p m c cc nL s args w_all own) (hK : kW_I dC dI cA s) (hP : va_P (dC, dI) classes (wI L cA ar sc) H) (hlink : Cond.fieldLinkNest own idx "InspectRows$Scale" "steps" "[I" "InspectRows" ∈ nw_all) (hdg : decode cc pc = .ok (.getfield idx, 3)) (kk : W p l e R s m args below meth c H locs cells slots Q (F0 m (pc + 3) ls (.ref (L 3) :: rest))) : W p l e R s m args below meth c H locs cells slots Q (F0 m pc ls (.ref (L 1) :: rest)) :=
  va_getN (D := (dC, dI)) (ci := 1) (v := .ref (L 3)) (C := R_Scale) (T := F_Scale) (N := 4) hF.1 hF.2.1 hF.2.2.2.2 i_Scale hF.2.2.2.1 hK.1 hP 1 rfl rfl 1 (by decide) (va_Nw.use rfl (hK.2 _ hlink)) (fun _ h9 => h9) rfl hdg kk
theorem gf_Scale_intervals (hF : CallFix p m c cc nL s args w_all own) (hK : kW_I dC dI cA s) (hP : va_P (dC, dI) classes (wI L cA ar sc) H) (hlink : Cond.fieldLink own idx "InspectRows$Scale" "intervals" "[I" ∈ w_all) (hdg : decode cc pc = .ok (.getfield idx, 3)) (kk : W p l e R s m args below meth c H locs cells slots Q (F0 m (pc + 3) ls (.ref (L 4) :: rest))) : W p l e R s m args below meth c H locs cells slots Q (F0 m pc ls (.ref (L 1) :: rest)) :=
  va_get (D := (dC, dI)) (ci := 1) (v := .ref (L 4)) (C := R_Scale) (T := F_Scale) (N := 4) hF.1 hF.2.1 hF.2.2.2.2 i_Scale hF.2.2.2.1 hK.1 hP 1 rfl rfl 2 (by decide) (hF.2.2.2.2 _ hlink) (fun _ h9 => h9) rfl hdg kk
theorem gn_Scale_intervals (hF : CallFix p m c cc nL s args w_all own) (hK : kW_I dC dI cA s) (hP : va_P (dC, dI) classes (wI L cA ar sc) H) (hlink : Cond.fieldLinkNest own idx "InspectRows$Scale" "intervals" "[I" "InspectRows" ∈ nw_all) (hdg : decode cc pc = .ok (.getfield idx, 3)) (kk : W p l e R s m args below meth c H locs cells slots Q (F0 m (pc + 3) ls (.ref (L 4) :: rest))) : W p l e R s m args below meth c H locs cells slots Q (F0 m pc ls (.ref (L 1) :: rest)) :=
  va_getN (D := (dC, dI)) (ci := 1) (v := .ref (L 4)) (C := R_Scale) (T := F_Scale) (N := 4) hF.1 hF.2.1 hF.2.2.2.2 i_Scale hF.2.2.2.1 hK.1 hP 1 rfl rfl 2 (by decide) (va_Nw.use rfl (hK.2 _ hlink)) (fun _ h9 => h9) rfl hdg kk
theorem gf_Scale_times (hF : CallFix p m c cc nL s args w_all own) (hK : kW_I dC dI cA s) (hP : va_P (dC, dI) classes (wI L cA ar sc) H) (hlink : Cond.fieldLink own idx "InspectRows$Scale" "times" "[I" ∈ w_all) (hdg : decode cc pc = .ok (.getfield idx, 3)) (kk : W p l e R s m args below meth c H locs cells slots Q (F0 m (pc + 3) ls (.ref (L 5) :: rest))) : W p l e R s m args below meth c H locs cells slots Q (F0 m pc ls (.ref (L 1) :: rest)) :=
  va_get (D := (dC, dI)) (ci := 1) (v := .ref (L 5)) (C := R_Scale) (T := F_Scale) (N := 4) hF.1 hF.2.1 hF.2.2.2.2 i_Scale hF.2.2.2.1 hK.1 hP 1 rfl rfl 3 (by decide) (hF.2.2.2.2 _ hlink) (fun _ h9 => h9) rfl hdg kk
theorem gn_Scale_times (hF : CallFix p m c cc nL s args w_all own) (hK : kW_I dC dI cA s) (hP : va_P (dC, dI) classes (wI L cA ar sc) H) (hlink : Cond.fieldLinkNest own idx "InspectRows$Scale" "times" "[I" "InspectRows" ∈ nw_all) (hdg : decode cc pc = .ok (.getfield idx, 3)) (kk : W p l e R s m args below meth c H locs cells slots Q (F0 m (pc + 3) ls (.ref (L 5) :: rest))) : W p l e R s m args below meth c H locs cells slots Q (F0 m pc ls (.ref (L 1) :: rest)) :=
  va_getN (D := (dC, dI)) (ci := 1) (v := .ref (L 5)) (C := R_Scale) (T := F_Scale) (N := 4) hF.1 hF.2.1 hF.2.2.2.2 i_Scale hF.2.2.2.1 hK.1 hP 1 rfl rfl 3 (by decide) (va_Nw.use rfl (hK.2 _ hlink)) (fun _ h9 => h9) rfl hdg kk
theorem alI_2 {i : Int32} (hF : CallFix p m c cc nL s args w_all own) (hK : kW_I dC dI cA s) (hP : va_P (dC, dI) classes (wI L cA ar sc) H) (hin : vp_in i 5) (hdg : decode cc pc = .ok (.iaload, 1)) (kk : W p l e R s m args below meth c H locs cells slots Q (F0 m (pc + 1) ls (.int (ar 2 i.toNatClampNeg) :: rest))) : W p l e R s m args below meth c H locs cells slots Q (F0 m pc ls (.int i :: .ref (L 2) :: rest)) :=
  va_iald hF.1 hF.2.1 hK.1 hP 2 0 rfl rfl hin hdg kk
theorem asI_2 {i x : Int32} (hF : CallFix p m c cc nL s args w_all own) (hK : kW_I dC dI cA s) (hP : va_P (dC, dI) classes (wI L cA ar sc) H) (hL : ij 38 L) (hS : va_S (aI L) H0 H locs) (hin : vp_in i 5) (hdg : decode cc pc = .ok (.iastore, 1)) (kk : ∀ (H1 : Heap) (locs1 : List Loc), va_P (dC, dI) classes (wI L cA (s2 ar 2 i.toNatClampNeg x) sc) H1 → va_S (aI L) H0 H1 locs1 → W p l e R s m args below meth c H1 locs1 cells slots Q (F0 m (pc + 1) ls rest)) : W p l e R s m args below meth c H locs cells slots Q (F0 m pc ls (.int x :: .int i :: .ref (L 2) :: rest)) :=
  va_iast hF.1 hF.2.1 hK.1 hP (wI_D hL) hS 2 0 rfl rfl hin hdg (fun H1 locs1 h1 _ h3 => kk H1 locs1 h1 h3)
theorem anI_2 (hF : CallFix p m c cc nL s args w_all own) (hK : kW_I dC dI cA s) (hP : va_P (dC, dI) classes (wI L cA ar sc) H) (hdg : decode cc pc = .ok (.arraylength, 1)) (kk : W p l e R s m args below meth c H locs cells slots Q (F0 m (pc + 1) ls (.int 5 :: rest))) : W p l e R s m args below meth c H locs cells slots Q (F0 m pc ls (.ref (L 2) :: rest)) :=
  va_alen (v := 5) hF.1 hF.2.1 hK.1 hP 2 0 rfl rfl rfl hdg kk
theorem alI_3 {i : Int32} (hF : CallFix p m c cc nL s args w_all own) (hK : kW_I dC dI cA s) (hP : va_P (dC, dI) classes (wI L cA ar sc) H) (hin : vp_in i 3) (hdg : decode cc pc = .ok (.iaload, 1)) (kk : W p l e R s m args below meth c H locs cells slots Q (F0 m (pc + 1) ls (.int (ar 3 i.toNatClampNeg) :: rest))) : W p l e R s m args below meth c H locs cells slots Q (F0 m pc ls (.int i :: .ref (L 3) :: rest)) :=
  va_iald hF.1 hF.2.1 hK.1 hP 3 1 rfl rfl hin hdg kk
theorem asI_3 {i x : Int32} (hF : CallFix p m c cc nL s args w_all own) (hK : kW_I dC dI cA s) (hP : va_P (dC, dI) classes (wI L cA ar sc) H) (hL : ij 38 L) (hS : va_S (aI L) H0 H locs) (hin : vp_in i 3) (hdg : decode cc pc = .ok (.iastore, 1)) (kk : ∀ (H1 : Heap) (locs1 : List Loc), va_P (dC, dI) classes (wI L cA (s2 ar 3 i.toNatClampNeg x) sc) H1 → va_S (aI L) H0 H1 locs1 → W p l e R s m args below meth c H1 locs1 cells slots Q (F0 m (pc + 1) ls rest)) : W p l e R s m args below meth c H locs cells slots Q (F0 m pc ls (.int x :: .int i :: .ref (L 3) :: rest)) :=
  va_iast hF.1 hF.2.1 hK.1 hP (wI_D hL) hS 3 1 rfl rfl hin hdg (fun H1 locs1 h1 _ h3 => kk H1 locs1 h1 h3)
theorem anI_3 (hF : CallFix p m c cc nL s args w_all own) (hK : kW_I dC dI cA s) (hP : va_P (dC, dI) classes (wI L cA ar sc) H) (hdg : decode cc pc = .ok (.arraylength, 1)) (kk : W p l e R s m args below meth c H locs cells slots Q (F0 m (pc + 1) ls (.int 3 :: rest))) : W p l e R s m args below meth c H locs cells slots Q (F0 m pc ls (.ref (L 3) :: rest)) :=
  va_alen (v := 3) hF.1 hF.2.1 hK.1 hP 3 1 rfl rfl rfl hdg kk
theorem alI_4 {i : Int32} (hF : CallFix p m c cc nL s args w_all own) (hK : kW_I dC dI cA s) (hP : va_P (dC, dI) classes (wI L cA ar sc) H) (hin : vp_in i 4) (hdg : decode cc pc = .ok (.iaload, 1)) (kk : W p l e R s m args below meth c H locs cells slots Q (F0 m (pc + 1) ls (.int (ar 4 i.toNatClampNeg) :: rest))) : W p l e R s m args below meth c H locs cells slots Q (F0 m pc ls (.int i :: .ref (L 4) :: rest)) :=
  va_iald hF.1 hF.2.1 hK.1 hP 4 2 rfl rfl hin hdg kk
theorem asI_4 {i x : Int32} (hF : CallFix p m c cc nL s args w_all own) (hK : kW_I dC dI cA s) (hP : va_P (dC, dI) classes (wI L cA ar sc) H) (hL : ij 38 L) (hS : va_S (aI L) H0 H locs) (hin : vp_in i 4) (hdg : decode cc pc = .ok (.iastore, 1)) (kk : ∀ (H1 : Heap) (locs1 : List Loc), va_P (dC, dI) classes (wI L cA (s2 ar 4 i.toNatClampNeg x) sc) H1 → va_S (aI L) H0 H1 locs1 → W p l e R s m args below meth c H1 locs1 cells slots Q (F0 m (pc + 1) ls rest)) : W p l e R s m args below meth c H locs cells slots Q (F0 m pc ls (.int x :: .int i :: .ref (L 4) :: rest)) :=
  va_iast hF.1 hF.2.1 hK.1 hP (wI_D hL) hS 4 2 rfl rfl hin hdg (fun H1 locs1 h1 _ h3 => kk H1 locs1 h1 h3)
theorem anI_4 (hF : CallFix p m c cc nL s args w_all own) (hK : kW_I dC dI cA s) (hP : va_P (dC, dI) classes (wI L cA ar sc) H) (hdg : decode cc pc = .ok (.arraylength, 1)) (kk : W p l e R s m args below meth c H locs cells slots Q (F0 m (pc + 1) ls (.int 4 :: rest))) : W p l e R s m args below meth c H locs cells slots Q (F0 m pc ls (.ref (L 4) :: rest)) :=
  va_alen (v := 4) hF.1 hF.2.1 hK.1 hP 4 2 rfl rfl rfl hdg kk
theorem alI_5 {i : Int32} (hF : CallFix p m c cc nL s args w_all own) (hK : kW_I dC dI cA s) (hP : va_P (dC, dI) classes (wI L cA ar sc) H) (hin : vp_in i 4) (hdg : decode cc pc = .ok (.iaload, 1)) (kk : W p l e R s m args below meth c H locs cells slots Q (F0 m (pc + 1) ls (.int (ar 5 i.toNatClampNeg) :: rest))) : W p l e R s m args below meth c H locs cells slots Q (F0 m pc ls (.int i :: .ref (L 5) :: rest)) :=
  va_iald hF.1 hF.2.1 hK.1 hP 5 3 rfl rfl hin hdg kk
theorem asI_5 {i x : Int32} (hF : CallFix p m c cc nL s args w_all own) (hK : kW_I dC dI cA s) (hP : va_P (dC, dI) classes (wI L cA ar sc) H) (hL : ij 38 L) (hS : va_S (aI L) H0 H locs) (hin : vp_in i 4) (hdg : decode cc pc = .ok (.iastore, 1)) (kk : ∀ (H1 : Heap) (locs1 : List Loc), va_P (dC, dI) classes (wI L cA (s2 ar 5 i.toNatClampNeg x) sc) H1 → va_S (aI L) H0 H1 locs1 → W p l e R s m args below meth c H1 locs1 cells slots Q (F0 m (pc + 1) ls rest)) : W p l e R s m args below meth c H locs cells slots Q (F0 m pc ls (.int x :: .int i :: .ref (L 5) :: rest)) :=
  va_iast hF.1 hF.2.1 hK.1 hP (wI_D hL) hS 5 3 rfl rfl hin hdg (fun H1 locs1 h1 _ h3 => kk H1 locs1 h1 h3)
theorem anI_5 (hF : CallFix p m c cc nL s args w_all own) (hK : kW_I dC dI cA s) (hP : va_P (dC, dI) classes (wI L cA ar sc) H) (hdg : decode cc pc = .ok (.arraylength, 1)) (kk : W p l e R s m args below meth c H locs cells slots Q (F0 m (pc + 1) ls (.int 4 :: rest))) : W p l e R s m args below meth c H locs cells slots Q (F0 m pc ls (.ref (L 5) :: rest)) :=
  va_alen (v := 4) hF.1 hF.2.1 hK.1 hP 5 3 rfl rfl rfl hdg kk
theorem gf_Points_kinds (hF : CallFix p m c cc nL s args w_all own) (hK : kW_I dC dI cA s) (hP : va_P (dC, dI) classes (wI L cA ar sc) H) (hlink : Cond.fieldLink own idx "InspectRows$Points" "kinds" "[I" ∈ w_all) (hdg : decode cc pc = .ok (.getfield idx, 3)) (kk : W p l e R s m args below meth c H locs cells slots Q (F0 m (pc + 3) ls (.ref (L 7) :: rest))) : W p l e R s m args below meth c H locs cells slots Q (F0 m pc ls (.ref (L 6) :: rest)) :=
  va_get (D := (dC, dI)) (ci := 2) (v := .ref (L 7)) (C := R_Points) (T := F_Points) (N := 6) hF.1 hF.2.1 hF.2.2.2.2 i_Points hF.2.2.2.1 hK.1 hP 6 rfl rfl 0 (by decide) (hF.2.2.2.2 _ hlink) (fun _ h9 => h9) rfl hdg kk
theorem gn_Points_kinds (hF : CallFix p m c cc nL s args w_all own) (hK : kW_I dC dI cA s) (hP : va_P (dC, dI) classes (wI L cA ar sc) H) (hlink : Cond.fieldLinkNest own idx "InspectRows$Points" "kinds" "[I" "InspectRows" ∈ nw_all) (hdg : decode cc pc = .ok (.getfield idx, 3)) (kk : W p l e R s m args below meth c H locs cells slots Q (F0 m (pc + 3) ls (.ref (L 7) :: rest))) : W p l e R s m args below meth c H locs cells slots Q (F0 m pc ls (.ref (L 6) :: rest)) :=
  va_getN (D := (dC, dI)) (ci := 2) (v := .ref (L 7)) (C := R_Points) (T := F_Points) (N := 6) hF.1 hF.2.1 hF.2.2.2.2 i_Points hF.2.2.2.1 hK.1 hP 6 rfl rfl 0 (by decide) (va_Nw.use rfl (hK.2 _ hlink)) (fun _ h9 => h9) rfl hdg kk
theorem gf_Points_ownRisks (hF : CallFix p m c cc nL s args w_all own) (hK : kW_I dC dI cA s) (hP : va_P (dC, dI) classes (wI L cA ar sc) H) (hlink : Cond.fieldLink own idx "InspectRows$Points" "ownRisks" "[I" ∈ w_all) (hdg : decode cc pc = .ok (.getfield idx, 3)) (kk : W p l e R s m args below meth c H locs cells slots Q (F0 m (pc + 3) ls (.ref (L 8) :: rest))) : W p l e R s m args below meth c H locs cells slots Q (F0 m pc ls (.ref (L 6) :: rest)) :=
  va_get (D := (dC, dI)) (ci := 2) (v := .ref (L 8)) (C := R_Points) (T := F_Points) (N := 6) hF.1 hF.2.1 hF.2.2.2.2 i_Points hF.2.2.2.1 hK.1 hP 6 rfl rfl 1 (by decide) (hF.2.2.2.2 _ hlink) (fun _ h9 => h9) rfl hdg kk
theorem gn_Points_ownRisks (hF : CallFix p m c cc nL s args w_all own) (hK : kW_I dC dI cA s) (hP : va_P (dC, dI) classes (wI L cA ar sc) H) (hlink : Cond.fieldLinkNest own idx "InspectRows$Points" "ownRisks" "[I" "InspectRows" ∈ nw_all) (hdg : decode cc pc = .ok (.getfield idx, 3)) (kk : W p l e R s m args below meth c H locs cells slots Q (F0 m (pc + 3) ls (.ref (L 8) :: rest))) : W p l e R s m args below meth c H locs cells slots Q (F0 m pc ls (.ref (L 6) :: rest)) :=
  va_getN (D := (dC, dI)) (ci := 2) (v := .ref (L 8)) (C := R_Points) (T := F_Points) (N := 6) hF.1 hF.2.1 hF.2.2.2.2 i_Points hF.2.2.2.1 hK.1 hP 6 rfl rfl 1 (by decide) (va_Nw.use rfl (hK.2 _ hlink)) (fun _ h9 => h9) rfl hdg kk
theorem gf_Points_xs (hF : CallFix p m c cc nL s args w_all own) (hK : kW_I dC dI cA s) (hP : va_P (dC, dI) classes (wI L cA ar sc) H) (hlink : Cond.fieldLink own idx "InspectRows$Points" "xs" "[I" ∈ w_all) (hdg : decode cc pc = .ok (.getfield idx, 3)) (kk : W p l e R s m args below meth c H locs cells slots Q (F0 m (pc + 3) ls (.ref (L 9) :: rest))) : W p l e R s m args below meth c H locs cells slots Q (F0 m pc ls (.ref (L 6) :: rest)) :=
  va_get (D := (dC, dI)) (ci := 2) (v := .ref (L 9)) (C := R_Points) (T := F_Points) (N := 6) hF.1 hF.2.1 hF.2.2.2.2 i_Points hF.2.2.2.1 hK.1 hP 6 rfl rfl 2 (by decide) (hF.2.2.2.2 _ hlink) (fun _ h9 => h9) rfl hdg kk
theorem gn_Points_xs (hF : CallFix p m c cc nL s args w_all own) (hK : kW_I dC dI cA s) (hP : va_P (dC, dI) classes (wI L cA ar sc) H) (hlink : Cond.fieldLinkNest own idx "InspectRows$Points" "xs" "[I" "InspectRows" ∈ nw_all) (hdg : decode cc pc = .ok (.getfield idx, 3)) (kk : W p l e R s m args below meth c H locs cells slots Q (F0 m (pc + 3) ls (.ref (L 9) :: rest))) : W p l e R s m args below meth c H locs cells slots Q (F0 m pc ls (.ref (L 6) :: rest)) :=
  va_getN (D := (dC, dI)) (ci := 2) (v := .ref (L 9)) (C := R_Points) (T := F_Points) (N := 6) hF.1 hF.2.1 hF.2.2.2.2 i_Points hF.2.2.2.1 hK.1 hP 6 rfl rfl 2 (by decide) (va_Nw.use rfl (hK.2 _ hlink)) (fun _ h9 => h9) rfl hdg kk
theorem gf_Points_ys (hF : CallFix p m c cc nL s args w_all own) (hK : kW_I dC dI cA s) (hP : va_P (dC, dI) classes (wI L cA ar sc) H) (hlink : Cond.fieldLink own idx "InspectRows$Points" "ys" "[I" ∈ w_all) (hdg : decode cc pc = .ok (.getfield idx, 3)) (kk : W p l e R s m args below meth c H locs cells slots Q (F0 m (pc + 3) ls (.ref (L 10) :: rest))) : W p l e R s m args below meth c H locs cells slots Q (F0 m pc ls (.ref (L 6) :: rest)) :=
  va_get (D := (dC, dI)) (ci := 2) (v := .ref (L 10)) (C := R_Points) (T := F_Points) (N := 6) hF.1 hF.2.1 hF.2.2.2.2 i_Points hF.2.2.2.1 hK.1 hP 6 rfl rfl 3 (by decide) (hF.2.2.2.2 _ hlink) (fun _ h9 => h9) rfl hdg kk
theorem gn_Points_ys (hF : CallFix p m c cc nL s args w_all own) (hK : kW_I dC dI cA s) (hP : va_P (dC, dI) classes (wI L cA ar sc) H) (hlink : Cond.fieldLinkNest own idx "InspectRows$Points" "ys" "[I" "InspectRows" ∈ nw_all) (hdg : decode cc pc = .ok (.getfield idx, 3)) (kk : W p l e R s m args below meth c H locs cells slots Q (F0 m (pc + 3) ls (.ref (L 10) :: rest))) : W p l e R s m args below meth c H locs cells slots Q (F0 m pc ls (.ref (L 6) :: rest)) :=
  va_getN (D := (dC, dI)) (ci := 2) (v := .ref (L 10)) (C := R_Points) (T := F_Points) (N := 6) hF.1 hF.2.1 hF.2.2.2.2 i_Points hF.2.2.2.1 hK.1 hP 6 rfl rfl 3 (by decide) (va_Nw.use rfl (hK.2 _ hlink)) (fun _ h9 => h9) rfl hdg kk
theorem gf_Points_visits (hF : CallFix p m c cc nL s args w_all own) (hK : kW_I dC dI cA s) (hP : va_P (dC, dI) classes (wI L cA ar sc) H) (hlink : Cond.fieldLink own idx "InspectRows$Points" "visits" "[I" ∈ w_all) (hdg : decode cc pc = .ok (.getfield idx, 3)) (kk : W p l e R s m args below meth c H locs cells slots Q (F0 m (pc + 3) ls (.ref (L 11) :: rest))) : W p l e R s m args below meth c H locs cells slots Q (F0 m pc ls (.ref (L 6) :: rest)) :=
  va_get (D := (dC, dI)) (ci := 2) (v := .ref (L 11)) (C := R_Points) (T := F_Points) (N := 6) hF.1 hF.2.1 hF.2.2.2.2 i_Points hF.2.2.2.1 hK.1 hP 6 rfl rfl 4 (by decide) (hF.2.2.2.2 _ hlink) (fun _ h9 => h9) rfl hdg kk
theorem gn_Points_visits (hF : CallFix p m c cc nL s args w_all own) (hK : kW_I dC dI cA s) (hP : va_P (dC, dI) classes (wI L cA ar sc) H) (hlink : Cond.fieldLinkNest own idx "InspectRows$Points" "visits" "[I" "InspectRows" ∈ nw_all) (hdg : decode cc pc = .ok (.getfield idx, 3)) (kk : W p l e R s m args below meth c H locs cells slots Q (F0 m (pc + 3) ls (.ref (L 11) :: rest))) : W p l e R s m args below meth c H locs cells slots Q (F0 m pc ls (.ref (L 6) :: rest)) :=
  va_getN (D := (dC, dI)) (ci := 2) (v := .ref (L 11)) (C := R_Points) (T := F_Points) (N := 6) hF.1 hF.2.1 hF.2.2.2.2 i_Points hF.2.2.2.1 hK.1 hP 6 rfl rfl 4 (by decide) (va_Nw.use rfl (hK.2 _ hlink)) (fun _ h9 => h9) rfl hdg kk
theorem gf_Points_count (hF : CallFix p m c cc nL s args w_all own) (hK : kW_I dC dI cA s) (hP : va_P (dC, dI) classes (wI L cA ar sc) H) (hlink : Cond.fieldLink own idx "InspectRows$Points" "count" "I" ∈ w_all) (hdg : decode cc pc = .ok (.getfield idx, 3)) (kk : W p l e R s m args below meth c H locs cells slots Q (F0 m (pc + 3) ls (.int (sc 1) :: rest))) : W p l e R s m args below meth c H locs cells slots Q (F0 m pc ls (.ref (L 6) :: rest)) :=
  va_get (D := (dC, dI)) (ci := 2) (v := .int (sc 1)) (C := R_Points) (T := F_Points) (N := 6) hF.1 hF.2.1 hF.2.2.2.2 i_Points hF.2.2.2.1 hK.1 hP 6 rfl rfl 5 (by decide) (hF.2.2.2.2 _ hlink) (fun _ h9 => h9) rfl hdg kk
theorem pf_Points_count {x : Int32} (hF : CallFix p m c cc nL s args w_all own) (hK : kW_I dC dI cA s) (hP : va_P (dC, dI) classes (wI L cA ar sc) H) (hL : ij 38 L) (hS : va_S (aI L) H0 H locs) (hlink : Cond.fieldLink own idx "InspectRows$Points" "count" "I" ∈ w_all) (hdg : decode cc pc = .ok (.putfield idx, 3)) (kk : ∀ (H1 : Heap) (locs1 : List Loc), va_P (dC, dI) classes (wI L cA ar (sg sc 1 x)) H1 → va_S (aI L) H0 H1 locs1 → W p l e R s m args below meth c H1 locs1 cells slots Q (F0 m (pc + 3) ls rest)) : W p l e R s m args below meth c H locs cells slots Q (F0 m pc ls (.int x :: .ref (L 6) :: rest)) :=
  va_put (D := (dC, dI)) (ci := 2) (v := .int x) (ty := .int) (C := R_Points) (T := F_Points) (N := 6) hF.1 hF.2.1 hF.2.2.2.2 i_Points t_Points t_Points_ok n_Points hF.2.2.2.1 hK.1 hP (wI_D hL) hS 6 rfl rfl 5 (by decide) (hF.2.2.2.2 _ hlink) (fun _ h9 => h9) rfl (by decide +kernel) rfl rfl (Nat.le_of_ble_eq_true rfl) hdg (fun H1 locs1 h1 _ h3 => kk H1 locs1 h1 h3)
theorem gn_Points_count (hF : CallFix p m c cc nL s args w_all own) (hK : kW_I dC dI cA s) (hP : va_P (dC, dI) classes (wI L cA ar sc) H) (hlink : Cond.fieldLinkNest own idx "InspectRows$Points" "count" "I" "InspectRows" ∈ nw_all) (hdg : decode cc pc = .ok (.getfield idx, 3)) (kk : W p l e R s m args below meth c H locs cells slots Q (F0 m (pc + 3) ls (.int (sc 1) :: rest))) : W p l e R s m args below meth c H locs cells slots Q (F0 m pc ls (.ref (L 6) :: rest)) :=
  va_getN (D := (dC, dI)) (ci := 2) (v := .int (sc 1)) (C := R_Points) (T := F_Points) (N := 6) hF.1 hF.2.1 hF.2.2.2.2 i_Points hF.2.2.2.1 hK.1 hP 6 rfl rfl 5 (by decide) (va_Nw.use rfl (hK.2 _ hlink)) (fun _ h9 => h9) rfl hdg kk
theorem pn_Points_count {x : Int32} (hF : CallFix p m c cc nL s args w_all own) (hK : kW_I dC dI cA s) (hP : va_P (dC, dI) classes (wI L cA ar sc) H) (hL : ij 38 L) (hS : va_S (aI L) H0 H locs) (hlink : Cond.fieldLinkNest own idx "InspectRows$Points" "count" "I" "InspectRows" ∈ nw_all) (hdg : decode cc pc = .ok (.putfield idx, 3)) (kk : ∀ (H1 : Heap) (locs1 : List Loc), va_P (dC, dI) classes (wI L cA ar (sg sc 1 x)) H1 → va_S (aI L) H0 H1 locs1 → W p l e R s m args below meth c H1 locs1 cells slots Q (F0 m (pc + 3) ls rest)) : W p l e R s m args below meth c H locs cells slots Q (F0 m pc ls (.int x :: .ref (L 6) :: rest)) :=
  va_putN (D := (dC, dI)) (ci := 2) (v := .int x) (ty := .int) (C := R_Points) (T := F_Points) (N := 6) hF.1 hF.2.1 hF.2.2.2.2 i_Points t_Points t_Points_ok n_Points hF.2.2.2.1 hK.1 hP (wI_D hL) hS 6 rfl rfl 5 (by decide) (va_Nw.use rfl (hK.2 _ hlink)) (fun _ h9 => h9) rfl (by decide +kernel) rfl rfl (Nat.le_of_ble_eq_true rfl) hdg (fun H1 locs1 h1 _ h3 => kk H1 locs1 h1 h3)
theorem alI_7 {i : Int32} (hF : CallFix p m c cc nL s args w_all own) (hK : kW_I dC dI cA s) (hP : va_P (dC, dI) classes (wI L cA ar sc) H) (hin : vp_in i 30) (hdg : decode cc pc = .ok (.iaload, 1)) (kk : W p l e R s m args below meth c H locs cells slots Q (F0 m (pc + 1) ls (.int (ar 7 i.toNatClampNeg) :: rest))) : W p l e R s m args below meth c H locs cells slots Q (F0 m pc ls (.int i :: .ref (L 7) :: rest)) :=
  va_iald hF.1 hF.2.1 hK.1 hP 7 4 rfl rfl hin hdg kk
theorem asI_7 {i x : Int32} (hF : CallFix p m c cc nL s args w_all own) (hK : kW_I dC dI cA s) (hP : va_P (dC, dI) classes (wI L cA ar sc) H) (hL : ij 38 L) (hS : va_S (aI L) H0 H locs) (hin : vp_in i 30) (hdg : decode cc pc = .ok (.iastore, 1)) (kk : ∀ (H1 : Heap) (locs1 : List Loc), va_P (dC, dI) classes (wI L cA (s2 ar 7 i.toNatClampNeg x) sc) H1 → va_S (aI L) H0 H1 locs1 → W p l e R s m args below meth c H1 locs1 cells slots Q (F0 m (pc + 1) ls rest)) : W p l e R s m args below meth c H locs cells slots Q (F0 m pc ls (.int x :: .int i :: .ref (L 7) :: rest)) :=
  va_iast hF.1 hF.2.1 hK.1 hP (wI_D hL) hS 7 4 rfl rfl hin hdg (fun H1 locs1 h1 _ h3 => kk H1 locs1 h1 h3)
theorem anI_7 (hF : CallFix p m c cc nL s args w_all own) (hK : kW_I dC dI cA s) (hP : va_P (dC, dI) classes (wI L cA ar sc) H) (hdg : decode cc pc = .ok (.arraylength, 1)) (kk : W p l e R s m args below meth c H locs cells slots Q (F0 m (pc + 1) ls (.int 30 :: rest))) : W p l e R s m args below meth c H locs cells slots Q (F0 m pc ls (.ref (L 7) :: rest)) :=
  va_alen (v := 30) hF.1 hF.2.1 hK.1 hP 7 4 rfl rfl rfl hdg kk
theorem alI_8 {i : Int32} (hF : CallFix p m c cc nL s args w_all own) (hK : kW_I dC dI cA s) (hP : va_P (dC, dI) classes (wI L cA ar sc) H) (hin : vp_in i 30) (hdg : decode cc pc = .ok (.iaload, 1)) (kk : W p l e R s m args below meth c H locs cells slots Q (F0 m (pc + 1) ls (.int (ar 8 i.toNatClampNeg) :: rest))) : W p l e R s m args below meth c H locs cells slots Q (F0 m pc ls (.int i :: .ref (L 8) :: rest)) :=
  va_iald hF.1 hF.2.1 hK.1 hP 8 5 rfl rfl hin hdg kk
theorem asI_8 {i x : Int32} (hF : CallFix p m c cc nL s args w_all own) (hK : kW_I dC dI cA s) (hP : va_P (dC, dI) classes (wI L cA ar sc) H) (hL : ij 38 L) (hS : va_S (aI L) H0 H locs) (hin : vp_in i 30) (hdg : decode cc pc = .ok (.iastore, 1)) (kk : ∀ (H1 : Heap) (locs1 : List Loc), va_P (dC, dI) classes (wI L cA (s2 ar 8 i.toNatClampNeg x) sc) H1 → va_S (aI L) H0 H1 locs1 → W p l e R s m args below meth c H1 locs1 cells slots Q (F0 m (pc + 1) ls rest)) : W p l e R s m args below meth c H locs cells slots Q (F0 m pc ls (.int x :: .int i :: .ref (L 8) :: rest)) :=
  va_iast hF.1 hF.2.1 hK.1 hP (wI_D hL) hS 8 5 rfl rfl hin hdg (fun H1 locs1 h1 _ h3 => kk H1 locs1 h1 h3)
theorem anI_8 (hF : CallFix p m c cc nL s args w_all own) (hK : kW_I dC dI cA s) (hP : va_P (dC, dI) classes (wI L cA ar sc) H) (hdg : decode cc pc = .ok (.arraylength, 1)) (kk : W p l e R s m args below meth c H locs cells slots Q (F0 m (pc + 1) ls (.int 30 :: rest))) : W p l e R s m args below meth c H locs cells slots Q (F0 m pc ls (.ref (L 8) :: rest)) :=
  va_alen (v := 30) hF.1 hF.2.1 hK.1 hP 8 5 rfl rfl rfl hdg kk
theorem alI_9 {i : Int32} (hF : CallFix p m c cc nL s args w_all own) (hK : kW_I dC dI cA s) (hP : va_P (dC, dI) classes (wI L cA ar sc) H) (hin : vp_in i 30) (hdg : decode cc pc = .ok (.iaload, 1)) (kk : W p l e R s m args below meth c H locs cells slots Q (F0 m (pc + 1) ls (.int (ar 9 i.toNatClampNeg) :: rest))) : W p l e R s m args below meth c H locs cells slots Q (F0 m pc ls (.int i :: .ref (L 9) :: rest)) :=
  va_iald hF.1 hF.2.1 hK.1 hP 9 6 rfl rfl hin hdg kk
theorem asI_9 {i x : Int32} (hF : CallFix p m c cc nL s args w_all own) (hK : kW_I dC dI cA s) (hP : va_P (dC, dI) classes (wI L cA ar sc) H) (hL : ij 38 L) (hS : va_S (aI L) H0 H locs) (hin : vp_in i 30) (hdg : decode cc pc = .ok (.iastore, 1)) (kk : ∀ (H1 : Heap) (locs1 : List Loc), va_P (dC, dI) classes (wI L cA (s2 ar 9 i.toNatClampNeg x) sc) H1 → va_S (aI L) H0 H1 locs1 → W p l e R s m args below meth c H1 locs1 cells slots Q (F0 m (pc + 1) ls rest)) : W p l e R s m args below meth c H locs cells slots Q (F0 m pc ls (.int x :: .int i :: .ref (L 9) :: rest)) :=
  va_iast hF.1 hF.2.1 hK.1 hP (wI_D hL) hS 9 6 rfl rfl hin hdg (fun H1 locs1 h1 _ h3 => kk H1 locs1 h1 h3)
theorem anI_9 (hF : CallFix p m c cc nL s args w_all own) (hK : kW_I dC dI cA s) (hP : va_P (dC, dI) classes (wI L cA ar sc) H) (hdg : decode cc pc = .ok (.arraylength, 1)) (kk : W p l e R s m args below meth c H locs cells slots Q (F0 m (pc + 1) ls (.int 30 :: rest))) : W p l e R s m args below meth c H locs cells slots Q (F0 m pc ls (.ref (L 9) :: rest)) :=
  va_alen (v := 30) hF.1 hF.2.1 hK.1 hP 9 6 rfl rfl rfl hdg kk
theorem alI_10 {i : Int32} (hF : CallFix p m c cc nL s args w_all own) (hK : kW_I dC dI cA s) (hP : va_P (dC, dI) classes (wI L cA ar sc) H) (hin : vp_in i 30) (hdg : decode cc pc = .ok (.iaload, 1)) (kk : W p l e R s m args below meth c H locs cells slots Q (F0 m (pc + 1) ls (.int (ar 10 i.toNatClampNeg) :: rest))) : W p l e R s m args below meth c H locs cells slots Q (F0 m pc ls (.int i :: .ref (L 10) :: rest)) :=
  va_iald hF.1 hF.2.1 hK.1 hP 10 7 rfl rfl hin hdg kk
theorem asI_10 {i x : Int32} (hF : CallFix p m c cc nL s args w_all own) (hK : kW_I dC dI cA s) (hP : va_P (dC, dI) classes (wI L cA ar sc) H) (hL : ij 38 L) (hS : va_S (aI L) H0 H locs) (hin : vp_in i 30) (hdg : decode cc pc = .ok (.iastore, 1)) (kk : ∀ (H1 : Heap) (locs1 : List Loc), va_P (dC, dI) classes (wI L cA (s2 ar 10 i.toNatClampNeg x) sc) H1 → va_S (aI L) H0 H1 locs1 → W p l e R s m args below meth c H1 locs1 cells slots Q (F0 m (pc + 1) ls rest)) : W p l e R s m args below meth c H locs cells slots Q (F0 m pc ls (.int x :: .int i :: .ref (L 10) :: rest)) :=
  va_iast hF.1 hF.2.1 hK.1 hP (wI_D hL) hS 10 7 rfl rfl hin hdg (fun H1 locs1 h1 _ h3 => kk H1 locs1 h1 h3)
theorem anI_10 (hF : CallFix p m c cc nL s args w_all own) (hK : kW_I dC dI cA s) (hP : va_P (dC, dI) classes (wI L cA ar sc) H) (hdg : decode cc pc = .ok (.arraylength, 1)) (kk : W p l e R s m args below meth c H locs cells slots Q (F0 m (pc + 1) ls (.int 30 :: rest))) : W p l e R s m args below meth c H locs cells slots Q (F0 m pc ls (.ref (L 10) :: rest)) :=
  va_alen (v := 30) hF.1 hF.2.1 hK.1 hP 10 7 rfl rfl rfl hdg kk
theorem alI_11 {i : Int32} (hF : CallFix p m c cc nL s args w_all own) (hK : kW_I dC dI cA s) (hP : va_P (dC, dI) classes (wI L cA ar sc) H) (hin : vp_in i 30) (hdg : decode cc pc = .ok (.iaload, 1)) (kk : W p l e R s m args below meth c H locs cells slots Q (F0 m (pc + 1) ls (.int (ar 11 i.toNatClampNeg) :: rest))) : W p l e R s m args below meth c H locs cells slots Q (F0 m pc ls (.int i :: .ref (L 11) :: rest)) :=
  va_iald hF.1 hF.2.1 hK.1 hP 11 8 rfl rfl hin hdg kk
theorem asI_11 {i x : Int32} (hF : CallFix p m c cc nL s args w_all own) (hK : kW_I dC dI cA s) (hP : va_P (dC, dI) classes (wI L cA ar sc) H) (hL : ij 38 L) (hS : va_S (aI L) H0 H locs) (hin : vp_in i 30) (hdg : decode cc pc = .ok (.iastore, 1)) (kk : ∀ (H1 : Heap) (locs1 : List Loc), va_P (dC, dI) classes (wI L cA (s2 ar 11 i.toNatClampNeg x) sc) H1 → va_S (aI L) H0 H1 locs1 → W p l e R s m args below meth c H1 locs1 cells slots Q (F0 m (pc + 1) ls rest)) : W p l e R s m args below meth c H locs cells slots Q (F0 m pc ls (.int x :: .int i :: .ref (L 11) :: rest)) :=
  va_iast hF.1 hF.2.1 hK.1 hP (wI_D hL) hS 11 8 rfl rfl hin hdg (fun H1 locs1 h1 _ h3 => kk H1 locs1 h1 h3)
theorem anI_11 (hF : CallFix p m c cc nL s args w_all own) (hK : kW_I dC dI cA s) (hP : va_P (dC, dI) classes (wI L cA ar sc) H) (hdg : decode cc pc = .ok (.arraylength, 1)) (kk : W p l e R s m args below meth c H locs cells slots Q (F0 m (pc + 1) ls (.int 30 :: rest))) : W p l e R s m args below meth c H locs cells slots Q (F0 m pc ls (.ref (L 11) :: rest)) :=
  va_alen (v := 30) hF.1 hF.2.1 hK.1 hP 11 8 rfl rfl rfl hdg kk
theorem gf_Findings_points (hF : CallFix p m c cc nL s args w_all own) (hK : kW_I dC dI cA s) (hP : va_P (dC, dI) classes (wI L cA ar sc) H) (hlink : Cond.fieldLink own idx "InspectRows$Findings" "points" "[I" ∈ w_all) (hdg : decode cc pc = .ok (.getfield idx, 3)) (kk : W p l e R s m args below meth c H locs cells slots Q (F0 m (pc + 3) ls (.ref (L 13) :: rest))) : W p l e R s m args below meth c H locs cells slots Q (F0 m pc ls (.ref (L 12) :: rest)) :=
  va_get (D := (dC, dI)) (ci := 3) (v := .ref (L 13)) (C := R_Findings) (T := F_Findings) (N := 5) hF.1 hF.2.1 hF.2.2.2.2 i_Findings hF.2.2.2.1 hK.1 hP 12 rfl rfl 0 (by decide) (hF.2.2.2.2 _ hlink) (fun _ h9 => h9) rfl hdg kk
theorem gn_Findings_points (hF : CallFix p m c cc nL s args w_all own) (hK : kW_I dC dI cA s) (hP : va_P (dC, dI) classes (wI L cA ar sc) H) (hlink : Cond.fieldLinkNest own idx "InspectRows$Findings" "points" "[I" "InspectRows" ∈ nw_all) (hdg : decode cc pc = .ok (.getfield idx, 3)) (kk : W p l e R s m args below meth c H locs cells slots Q (F0 m (pc + 3) ls (.ref (L 13) :: rest))) : W p l e R s m args below meth c H locs cells slots Q (F0 m pc ls (.ref (L 12) :: rest)) :=
  va_getN (D := (dC, dI)) (ci := 3) (v := .ref (L 13)) (C := R_Findings) (T := F_Findings) (N := 5) hF.1 hF.2.1 hF.2.2.2.2 i_Findings hF.2.2.2.1 hK.1 hP 12 rfl rfl 0 (by decide) (va_Nw.use rfl (hK.2 _ hlink)) (fun _ h9 => h9) rfl hdg kk
theorem gf_Findings_weights (hF : CallFix p m c cc nL s args w_all own) (hK : kW_I dC dI cA s) (hP : va_P (dC, dI) classes (wI L cA ar sc) H) (hlink : Cond.fieldLink own idx "InspectRows$Findings" "weights" "[I" ∈ w_all) (hdg : decode cc pc = .ok (.getfield idx, 3)) (kk : W p l e R s m args below meth c H locs cells slots Q (F0 m (pc + 3) ls (.ref (L 14) :: rest))) : W p l e R s m args below meth c H locs cells slots Q (F0 m pc ls (.ref (L 12) :: rest)) :=
  va_get (D := (dC, dI)) (ci := 3) (v := .ref (L 14)) (C := R_Findings) (T := F_Findings) (N := 5) hF.1 hF.2.1 hF.2.2.2.2 i_Findings hF.2.2.2.1 hK.1 hP 12 rfl rfl 1 (by decide) (hF.2.2.2.2 _ hlink) (fun _ h9 => h9) rfl hdg kk
theorem gn_Findings_weights (hF : CallFix p m c cc nL s args w_all own) (hK : kW_I dC dI cA s) (hP : va_P (dC, dI) classes (wI L cA ar sc) H) (hlink : Cond.fieldLinkNest own idx "InspectRows$Findings" "weights" "[I" "InspectRows" ∈ nw_all) (hdg : decode cc pc = .ok (.getfield idx, 3)) (kk : W p l e R s m args below meth c H locs cells slots Q (F0 m (pc + 3) ls (.ref (L 14) :: rest))) : W p l e R s m args below meth c H locs cells slots Q (F0 m pc ls (.ref (L 12) :: rest)) :=
  va_getN (D := (dC, dI)) (ci := 3) (v := .ref (L 14)) (C := R_Findings) (T := F_Findings) (N := 5) hF.1 hF.2.1 hF.2.2.2.2 i_Findings hF.2.2.2.1 hK.1 hP 12 rfl rfl 1 (by decide) (va_Nw.use rfl (hK.2 _ hlink)) (fun _ h9 => h9) rfl hdg kk
theorem gf_Findings_days (hF : CallFix p m c cc nL s args w_all own) (hK : kW_I dC dI cA s) (hP : va_P (dC, dI) classes (wI L cA ar sc) H) (hlink : Cond.fieldLink own idx "InspectRows$Findings" "days" "[I" ∈ w_all) (hdg : decode cc pc = .ok (.getfield idx, 3)) (kk : W p l e R s m args below meth c H locs cells slots Q (F0 m (pc + 3) ls (.ref (L 15) :: rest))) : W p l e R s m args below meth c H locs cells slots Q (F0 m pc ls (.ref (L 12) :: rest)) :=
  va_get (D := (dC, dI)) (ci := 3) (v := .ref (L 15)) (C := R_Findings) (T := F_Findings) (N := 5) hF.1 hF.2.1 hF.2.2.2.2 i_Findings hF.2.2.2.1 hK.1 hP 12 rfl rfl 2 (by decide) (hF.2.2.2.2 _ hlink) (fun _ h9 => h9) rfl hdg kk
theorem gn_Findings_days (hF : CallFix p m c cc nL s args w_all own) (hK : kW_I dC dI cA s) (hP : va_P (dC, dI) classes (wI L cA ar sc) H) (hlink : Cond.fieldLinkNest own idx "InspectRows$Findings" "days" "[I" "InspectRows" ∈ nw_all) (hdg : decode cc pc = .ok (.getfield idx, 3)) (kk : W p l e R s m args below meth c H locs cells slots Q (F0 m (pc + 3) ls (.ref (L 15) :: rest))) : W p l e R s m args below meth c H locs cells slots Q (F0 m pc ls (.ref (L 12) :: rest)) :=
  va_getN (D := (dC, dI)) (ci := 3) (v := .ref (L 15)) (C := R_Findings) (T := F_Findings) (N := 5) hF.1 hF.2.1 hF.2.2.2.2 i_Findings hF.2.2.2.1 hK.1 hP 12 rfl rfl 2 (by decide) (va_Nw.use rfl (hK.2 _ hlink)) (fun _ h9 => h9) rfl hdg kk
theorem gf_Findings_proofs (hF : CallFix p m c cc nL s args w_all own) (hK : kW_I dC dI cA s) (hP : va_P (dC, dI) classes (wI L cA ar sc) H) (hlink : Cond.fieldLink own idx "InspectRows$Findings" "proofs" "[I" ∈ w_all) (hdg : decode cc pc = .ok (.getfield idx, 3)) (kk : W p l e R s m args below meth c H locs cells slots Q (F0 m (pc + 3) ls (.ref (L 16) :: rest))) : W p l e R s m args below meth c H locs cells slots Q (F0 m pc ls (.ref (L 12) :: rest)) :=
  va_get (D := (dC, dI)) (ci := 3) (v := .ref (L 16)) (C := R_Findings) (T := F_Findings) (N := 5) hF.1 hF.2.1 hF.2.2.2.2 i_Findings hF.2.2.2.1 hK.1 hP 12 rfl rfl 3 (by decide) (hF.2.2.2.2 _ hlink) (fun _ h9 => h9) rfl hdg kk
theorem gn_Findings_proofs (hF : CallFix p m c cc nL s args w_all own) (hK : kW_I dC dI cA s) (hP : va_P (dC, dI) classes (wI L cA ar sc) H) (hlink : Cond.fieldLinkNest own idx "InspectRows$Findings" "proofs" "[I" "InspectRows" ∈ nw_all) (hdg : decode cc pc = .ok (.getfield idx, 3)) (kk : W p l e R s m args below meth c H locs cells slots Q (F0 m (pc + 3) ls (.ref (L 16) :: rest))) : W p l e R s m args below meth c H locs cells slots Q (F0 m pc ls (.ref (L 12) :: rest)) :=
  va_getN (D := (dC, dI)) (ci := 3) (v := .ref (L 16)) (C := R_Findings) (T := F_Findings) (N := 5) hF.1 hF.2.1 hF.2.2.2.2 i_Findings hF.2.2.2.1 hK.1 hP 12 rfl rfl 3 (by decide) (va_Nw.use rfl (hK.2 _ hlink)) (fun _ h9 => h9) rfl hdg kk
theorem gf_Findings_count (hF : CallFix p m c cc nL s args w_all own) (hK : kW_I dC dI cA s) (hP : va_P (dC, dI) classes (wI L cA ar sc) H) (hlink : Cond.fieldLink own idx "InspectRows$Findings" "count" "I" ∈ w_all) (hdg : decode cc pc = .ok (.getfield idx, 3)) (kk : W p l e R s m args below meth c H locs cells slots Q (F0 m (pc + 3) ls (.int (sc 2) :: rest))) : W p l e R s m args below meth c H locs cells slots Q (F0 m pc ls (.ref (L 12) :: rest)) :=
  va_get (D := (dC, dI)) (ci := 3) (v := .int (sc 2)) (C := R_Findings) (T := F_Findings) (N := 5) hF.1 hF.2.1 hF.2.2.2.2 i_Findings hF.2.2.2.1 hK.1 hP 12 rfl rfl 4 (by decide) (hF.2.2.2.2 _ hlink) (fun _ h9 => h9) rfl hdg kk
theorem pf_Findings_count {x : Int32} (hF : CallFix p m c cc nL s args w_all own) (hK : kW_I dC dI cA s) (hP : va_P (dC, dI) classes (wI L cA ar sc) H) (hL : ij 38 L) (hS : va_S (aI L) H0 H locs) (hlink : Cond.fieldLink own idx "InspectRows$Findings" "count" "I" ∈ w_all) (hdg : decode cc pc = .ok (.putfield idx, 3)) (kk : ∀ (H1 : Heap) (locs1 : List Loc), va_P (dC, dI) classes (wI L cA ar (sg sc 2 x)) H1 → va_S (aI L) H0 H1 locs1 → W p l e R s m args below meth c H1 locs1 cells slots Q (F0 m (pc + 3) ls rest)) : W p l e R s m args below meth c H locs cells slots Q (F0 m pc ls (.int x :: .ref (L 12) :: rest)) :=
  va_put (D := (dC, dI)) (ci := 3) (v := .int x) (ty := .int) (C := R_Findings) (T := F_Findings) (N := 5) hF.1 hF.2.1 hF.2.2.2.2 i_Findings t_Findings t_Findings_ok n_Findings hF.2.2.2.1 hK.1 hP (wI_D hL) hS 12 rfl rfl 4 (by decide) (hF.2.2.2.2 _ hlink) (fun _ h9 => h9) rfl (by decide +kernel) rfl rfl (Nat.le_of_ble_eq_true rfl) hdg (fun H1 locs1 h1 _ h3 => kk H1 locs1 h1 h3)
theorem gn_Findings_count (hF : CallFix p m c cc nL s args w_all own) (hK : kW_I dC dI cA s) (hP : va_P (dC, dI) classes (wI L cA ar sc) H) (hlink : Cond.fieldLinkNest own idx "InspectRows$Findings" "count" "I" "InspectRows" ∈ nw_all) (hdg : decode cc pc = .ok (.getfield idx, 3)) (kk : W p l e R s m args below meth c H locs cells slots Q (F0 m (pc + 3) ls (.int (sc 2) :: rest))) : W p l e R s m args below meth c H locs cells slots Q (F0 m pc ls (.ref (L 12) :: rest)) :=
  va_getN (D := (dC, dI)) (ci := 3) (v := .int (sc 2)) (C := R_Findings) (T := F_Findings) (N := 5) hF.1 hF.2.1 hF.2.2.2.2 i_Findings hF.2.2.2.1 hK.1 hP 12 rfl rfl 4 (by decide) (va_Nw.use rfl (hK.2 _ hlink)) (fun _ h9 => h9) rfl hdg kk
theorem pn_Findings_count {x : Int32} (hF : CallFix p m c cc nL s args w_all own) (hK : kW_I dC dI cA s) (hP : va_P (dC, dI) classes (wI L cA ar sc) H) (hL : ij 38 L) (hS : va_S (aI L) H0 H locs) (hlink : Cond.fieldLinkNest own idx "InspectRows$Findings" "count" "I" "InspectRows" ∈ nw_all) (hdg : decode cc pc = .ok (.putfield idx, 3)) (kk : ∀ (H1 : Heap) (locs1 : List Loc), va_P (dC, dI) classes (wI L cA ar (sg sc 2 x)) H1 → va_S (aI L) H0 H1 locs1 → W p l e R s m args below meth c H1 locs1 cells slots Q (F0 m (pc + 3) ls rest)) : W p l e R s m args below meth c H locs cells slots Q (F0 m pc ls (.int x :: .ref (L 12) :: rest)) :=
  va_putN (D := (dC, dI)) (ci := 3) (v := .int x) (ty := .int) (C := R_Findings) (T := F_Findings) (N := 5) hF.1 hF.2.1 hF.2.2.2.2 i_Findings t_Findings t_Findings_ok n_Findings hF.2.2.2.1 hK.1 hP (wI_D hL) hS 12 rfl rfl 4 (by decide) (va_Nw.use rfl (hK.2 _ hlink)) (fun _ h9 => h9) rfl (by decide +kernel) rfl rfl (Nat.le_of_ble_eq_true rfl) hdg (fun H1 locs1 h1 _ h3 => kk H1 locs1 h1 h3)
theorem alI_13 {i : Int32} (hF : CallFix p m c cc nL s args w_all own) (hK : kW_I dC dI cA s) (hP : va_P (dC, dI) classes (wI L cA ar sc) H) (hin : vp_in i 100) (hdg : decode cc pc = .ok (.iaload, 1)) (kk : W p l e R s m args below meth c H locs cells slots Q (F0 m (pc + 1) ls (.int (ar 13 i.toNatClampNeg) :: rest))) : W p l e R s m args below meth c H locs cells slots Q (F0 m pc ls (.int i :: .ref (L 13) :: rest)) :=
  va_iald hF.1 hF.2.1 hK.1 hP 13 9 rfl rfl hin hdg kk
theorem asI_13 {i x : Int32} (hF : CallFix p m c cc nL s args w_all own) (hK : kW_I dC dI cA s) (hP : va_P (dC, dI) classes (wI L cA ar sc) H) (hL : ij 38 L) (hS : va_S (aI L) H0 H locs) (hin : vp_in i 100) (hdg : decode cc pc = .ok (.iastore, 1)) (kk : ∀ (H1 : Heap) (locs1 : List Loc), va_P (dC, dI) classes (wI L cA (s2 ar 13 i.toNatClampNeg x) sc) H1 → va_S (aI L) H0 H1 locs1 → W p l e R s m args below meth c H1 locs1 cells slots Q (F0 m (pc + 1) ls rest)) : W p l e R s m args below meth c H locs cells slots Q (F0 m pc ls (.int x :: .int i :: .ref (L 13) :: rest)) :=
  va_iast hF.1 hF.2.1 hK.1 hP (wI_D hL) hS 13 9 rfl rfl hin hdg (fun H1 locs1 h1 _ h3 => kk H1 locs1 h1 h3)
theorem anI_13 (hF : CallFix p m c cc nL s args w_all own) (hK : kW_I dC dI cA s) (hP : va_P (dC, dI) classes (wI L cA ar sc) H) (hdg : decode cc pc = .ok (.arraylength, 1)) (kk : W p l e R s m args below meth c H locs cells slots Q (F0 m (pc + 1) ls (.int 100 :: rest))) : W p l e R s m args below meth c H locs cells slots Q (F0 m pc ls (.ref (L 13) :: rest)) :=
  va_alen (v := 100) hF.1 hF.2.1 hK.1 hP 13 9 rfl rfl rfl hdg kk
theorem alI_14 {i : Int32} (hF : CallFix p m c cc nL s args w_all own) (hK : kW_I dC dI cA s) (hP : va_P (dC, dI) classes (wI L cA ar sc) H) (hin : vp_in i 100) (hdg : decode cc pc = .ok (.iaload, 1)) (kk : W p l e R s m args below meth c H locs cells slots Q (F0 m (pc + 1) ls (.int (ar 14 i.toNatClampNeg) :: rest))) : W p l e R s m args below meth c H locs cells slots Q (F0 m pc ls (.int i :: .ref (L 14) :: rest)) :=
  va_iald hF.1 hF.2.1 hK.1 hP 14 10 rfl rfl hin hdg kk
theorem asI_14 {i x : Int32} (hF : CallFix p m c cc nL s args w_all own) (hK : kW_I dC dI cA s) (hP : va_P (dC, dI) classes (wI L cA ar sc) H) (hL : ij 38 L) (hS : va_S (aI L) H0 H locs) (hin : vp_in i 100) (hdg : decode cc pc = .ok (.iastore, 1)) (kk : ∀ (H1 : Heap) (locs1 : List Loc), va_P (dC, dI) classes (wI L cA (s2 ar 14 i.toNatClampNeg x) sc) H1 → va_S (aI L) H0 H1 locs1 → W p l e R s m args below meth c H1 locs1 cells slots Q (F0 m (pc + 1) ls rest)) : W p l e R s m args below meth c H locs cells slots Q (F0 m pc ls (.int x :: .int i :: .ref (L 14) :: rest)) :=
  va_iast hF.1 hF.2.1 hK.1 hP (wI_D hL) hS 14 10 rfl rfl hin hdg (fun H1 locs1 h1 _ h3 => kk H1 locs1 h1 h3)
theorem anI_14 (hF : CallFix p m c cc nL s args w_all own) (hK : kW_I dC dI cA s) (hP : va_P (dC, dI) classes (wI L cA ar sc) H) (hdg : decode cc pc = .ok (.arraylength, 1)) (kk : W p l e R s m args below meth c H locs cells slots Q (F0 m (pc + 1) ls (.int 100 :: rest))) : W p l e R s m args below meth c H locs cells slots Q (F0 m pc ls (.ref (L 14) :: rest)) :=
  va_alen (v := 100) hF.1 hF.2.1 hK.1 hP 14 10 rfl rfl rfl hdg kk
theorem alI_15 {i : Int32} (hF : CallFix p m c cc nL s args w_all own) (hK : kW_I dC dI cA s) (hP : va_P (dC, dI) classes (wI L cA ar sc) H) (hin : vp_in i 100) (hdg : decode cc pc = .ok (.iaload, 1)) (kk : W p l e R s m args below meth c H locs cells slots Q (F0 m (pc + 1) ls (.int (ar 15 i.toNatClampNeg) :: rest))) : W p l e R s m args below meth c H locs cells slots Q (F0 m pc ls (.int i :: .ref (L 15) :: rest)) :=
  va_iald hF.1 hF.2.1 hK.1 hP 15 11 rfl rfl hin hdg kk
theorem asI_15 {i x : Int32} (hF : CallFix p m c cc nL s args w_all own) (hK : kW_I dC dI cA s) (hP : va_P (dC, dI) classes (wI L cA ar sc) H) (hL : ij 38 L) (hS : va_S (aI L) H0 H locs) (hin : vp_in i 100) (hdg : decode cc pc = .ok (.iastore, 1)) (kk : ∀ (H1 : Heap) (locs1 : List Loc), va_P (dC, dI) classes (wI L cA (s2 ar 15 i.toNatClampNeg x) sc) H1 → va_S (aI L) H0 H1 locs1 → W p l e R s m args below meth c H1 locs1 cells slots Q (F0 m (pc + 1) ls rest)) : W p l e R s m args below meth c H locs cells slots Q (F0 m pc ls (.int x :: .int i :: .ref (L 15) :: rest)) :=
  va_iast hF.1 hF.2.1 hK.1 hP (wI_D hL) hS 15 11 rfl rfl hin hdg (fun H1 locs1 h1 _ h3 => kk H1 locs1 h1 h3)
theorem anI_15 (hF : CallFix p m c cc nL s args w_all own) (hK : kW_I dC dI cA s) (hP : va_P (dC, dI) classes (wI L cA ar sc) H) (hdg : decode cc pc = .ok (.arraylength, 1)) (kk : W p l e R s m args below meth c H locs cells slots Q (F0 m (pc + 1) ls (.int 100 :: rest))) : W p l e R s m args below meth c H locs cells slots Q (F0 m pc ls (.ref (L 15) :: rest)) :=
  va_alen (v := 100) hF.1 hF.2.1 hK.1 hP 15 11 rfl rfl rfl hdg kk
theorem alI_16 {i : Int32} (hF : CallFix p m c cc nL s args w_all own) (hK : kW_I dC dI cA s) (hP : va_P (dC, dI) classes (wI L cA ar sc) H) (hin : vp_in i 100) (hdg : decode cc pc = .ok (.iaload, 1)) (kk : W p l e R s m args below meth c H locs cells slots Q (F0 m (pc + 1) ls (.int (ar 16 i.toNatClampNeg) :: rest))) : W p l e R s m args below meth c H locs cells slots Q (F0 m pc ls (.int i :: .ref (L 16) :: rest)) :=
  va_iald hF.1 hF.2.1 hK.1 hP 16 12 rfl rfl hin hdg kk
theorem asI_16 {i x : Int32} (hF : CallFix p m c cc nL s args w_all own) (hK : kW_I dC dI cA s) (hP : va_P (dC, dI) classes (wI L cA ar sc) H) (hL : ij 38 L) (hS : va_S (aI L) H0 H locs) (hin : vp_in i 100) (hdg : decode cc pc = .ok (.iastore, 1)) (kk : ∀ (H1 : Heap) (locs1 : List Loc), va_P (dC, dI) classes (wI L cA (s2 ar 16 i.toNatClampNeg x) sc) H1 → va_S (aI L) H0 H1 locs1 → W p l e R s m args below meth c H1 locs1 cells slots Q (F0 m (pc + 1) ls rest)) : W p l e R s m args below meth c H locs cells slots Q (F0 m pc ls (.int x :: .int i :: .ref (L 16) :: rest)) :=
  va_iast hF.1 hF.2.1 hK.1 hP (wI_D hL) hS 16 12 rfl rfl hin hdg (fun H1 locs1 h1 _ h3 => kk H1 locs1 h1 h3)
theorem anI_16 (hF : CallFix p m c cc nL s args w_all own) (hK : kW_I dC dI cA s) (hP : va_P (dC, dI) classes (wI L cA ar sc) H) (hdg : decode cc pc = .ok (.arraylength, 1)) (kk : W p l e R s m args below meth c H locs cells slots Q (F0 m (pc + 1) ls (.int 100 :: rest))) : W p l e R s m args below meth c H locs cells slots Q (F0 m pc ls (.ref (L 16) :: rest)) :=
  va_alen (v := 100) hF.1 hF.2.1 hK.1 hP 16 12 rfl rfl rfl hdg kk
theorem gf_Questions_told (hF : CallFix p m c cc nL s args w_all own) (hK : kW_I dC dI cA s) (hP : va_P (dC, dI) classes (wI L cA ar sc) H) (hlink : Cond.fieldLink own idx "InspectRows$Questions" "told" "[Z" ∈ w_all) (hdg : decode cc pc = .ok (.getfield idx, 3)) (kk : W p l e R s m args below meth c H locs cells slots Q (F0 m (pc + 3) ls (.ref (L 18) :: rest))) : W p l e R s m args below meth c H locs cells slots Q (F0 m pc ls (.ref (L 17) :: rest)) :=
  va_get (D := (dC, dI)) (ci := 4) (v := .ref (L 18)) (C := R_Questions) (T := F_Questions) (N := 6) hF.1 hF.2.1 hF.2.2.2.2 i_Questions hF.2.2.2.1 hK.1 hP 17 rfl rfl 0 (by decide) (hF.2.2.2.2 _ hlink) (fun _ h9 => h9) rfl hdg kk
theorem gn_Questions_told (hF : CallFix p m c cc nL s args w_all own) (hK : kW_I dC dI cA s) (hP : va_P (dC, dI) classes (wI L cA ar sc) H) (hlink : Cond.fieldLinkNest own idx "InspectRows$Questions" "told" "[Z" "InspectRows" ∈ nw_all) (hdg : decode cc pc = .ok (.getfield idx, 3)) (kk : W p l e R s m args below meth c H locs cells slots Q (F0 m (pc + 3) ls (.ref (L 18) :: rest))) : W p l e R s m args below meth c H locs cells slots Q (F0 m pc ls (.ref (L 17) :: rest)) :=
  va_getN (D := (dC, dI)) (ci := 4) (v := .ref (L 18)) (C := R_Questions) (T := F_Questions) (N := 6) hF.1 hF.2.1 hF.2.2.2.2 i_Questions hF.2.2.2.1 hK.1 hP 17 rfl rfl 0 (by decide) (va_Nw.use rfl (hK.2 _ hlink)) (fun _ h9 => h9) rfl hdg kk
theorem gf_Questions_afterYes (hF : CallFix p m c cc nL s args w_all own) (hK : kW_I dC dI cA s) (hP : va_P (dC, dI) classes (wI L cA ar sc) H) (hlink : Cond.fieldLink own idx "InspectRows$Questions" "afterYes" "[I" ∈ w_all) (hdg : decode cc pc = .ok (.getfield idx, 3)) (kk : W p l e R s m args below meth c H locs cells slots Q (F0 m (pc + 3) ls (.ref (L 19) :: rest))) : W p l e R s m args below meth c H locs cells slots Q (F0 m pc ls (.ref (L 17) :: rest)) :=
  va_get (D := (dC, dI)) (ci := 4) (v := .ref (L 19)) (C := R_Questions) (T := F_Questions) (N := 6) hF.1 hF.2.1 hF.2.2.2.2 i_Questions hF.2.2.2.1 hK.1 hP 17 rfl rfl 1 (by decide) (hF.2.2.2.2 _ hlink) (fun _ h9 => h9) rfl hdg kk
theorem gn_Questions_afterYes (hF : CallFix p m c cc nL s args w_all own) (hK : kW_I dC dI cA s) (hP : va_P (dC, dI) classes (wI L cA ar sc) H) (hlink : Cond.fieldLinkNest own idx "InspectRows$Questions" "afterYes" "[I" "InspectRows" ∈ nw_all) (hdg : decode cc pc = .ok (.getfield idx, 3)) (kk : W p l e R s m args below meth c H locs cells slots Q (F0 m (pc + 3) ls (.ref (L 19) :: rest))) : W p l e R s m args below meth c H locs cells slots Q (F0 m pc ls (.ref (L 17) :: rest)) :=
  va_getN (D := (dC, dI)) (ci := 4) (v := .ref (L 19)) (C := R_Questions) (T := F_Questions) (N := 6) hF.1 hF.2.1 hF.2.2.2.2 i_Questions hF.2.2.2.1 hK.1 hP 17 rfl rfl 1 (by decide) (va_Nw.use rfl (hK.2 _ hlink)) (fun _ h9 => h9) rfl hdg kk
theorem gf_Questions_afterNo (hF : CallFix p m c cc nL s args w_all own) (hK : kW_I dC dI cA s) (hP : va_P (dC, dI) classes (wI L cA ar sc) H) (hlink : Cond.fieldLink own idx "InspectRows$Questions" "afterNo" "[I" ∈ w_all) (hdg : decode cc pc = .ok (.getfield idx, 3)) (kk : W p l e R s m args below meth c H locs cells slots Q (F0 m (pc + 3) ls (.ref (L 20) :: rest))) : W p l e R s m args below meth c H locs cells slots Q (F0 m pc ls (.ref (L 17) :: rest)) :=
  va_get (D := (dC, dI)) (ci := 4) (v := .ref (L 20)) (C := R_Questions) (T := F_Questions) (N := 6) hF.1 hF.2.1 hF.2.2.2.2 i_Questions hF.2.2.2.1 hK.1 hP 17 rfl rfl 2 (by decide) (hF.2.2.2.2 _ hlink) (fun _ h9 => h9) rfl hdg kk
theorem gn_Questions_afterNo (hF : CallFix p m c cc nL s args w_all own) (hK : kW_I dC dI cA s) (hP : va_P (dC, dI) classes (wI L cA ar sc) H) (hlink : Cond.fieldLinkNest own idx "InspectRows$Questions" "afterNo" "[I" "InspectRows" ∈ nw_all) (hdg : decode cc pc = .ok (.getfield idx, 3)) (kk : W p l e R s m args below meth c H locs cells slots Q (F0 m (pc + 3) ls (.ref (L 20) :: rest))) : W p l e R s m args below meth c H locs cells slots Q (F0 m pc ls (.ref (L 17) :: rest)) :=
  va_getN (D := (dC, dI)) (ci := 4) (v := .ref (L 20)) (C := R_Questions) (T := F_Questions) (N := 6) hF.1 hF.2.1 hF.2.2.2.2 i_Questions hF.2.2.2.1 hK.1 hP 17 rfl rfl 2 (by decide) (va_Nw.use rfl (hK.2 _ hlink)) (fun _ h9 => h9) rfl hdg kk
theorem gf_Questions_weights (hF : CallFix p m c cc nL s args w_all own) (hK : kW_I dC dI cA s) (hP : va_P (dC, dI) classes (wI L cA ar sc) H) (hlink : Cond.fieldLink own idx "InspectRows$Questions" "weights" "[I" ∈ w_all) (hdg : decode cc pc = .ok (.getfield idx, 3)) (kk : W p l e R s m args below meth c H locs cells slots Q (F0 m (pc + 3) ls (.ref (L 21) :: rest))) : W p l e R s m args below meth c H locs cells slots Q (F0 m pc ls (.ref (L 17) :: rest)) :=
  va_get (D := (dC, dI)) (ci := 4) (v := .ref (L 21)) (C := R_Questions) (T := F_Questions) (N := 6) hF.1 hF.2.1 hF.2.2.2.2 i_Questions hF.2.2.2.1 hK.1 hP 17 rfl rfl 3 (by decide) (hF.2.2.2.2 _ hlink) (fun _ h9 => h9) rfl hdg kk
theorem gn_Questions_weights (hF : CallFix p m c cc nL s args w_all own) (hK : kW_I dC dI cA s) (hP : va_P (dC, dI) classes (wI L cA ar sc) H) (hlink : Cond.fieldLinkNest own idx "InspectRows$Questions" "weights" "[I" "InspectRows" ∈ nw_all) (hdg : decode cc pc = .ok (.getfield idx, 3)) (kk : W p l e R s m args below meth c H locs cells slots Q (F0 m (pc + 3) ls (.ref (L 21) :: rest))) : W p l e R s m args below meth c H locs cells slots Q (F0 m pc ls (.ref (L 17) :: rest)) :=
  va_getN (D := (dC, dI)) (ci := 4) (v := .ref (L 21)) (C := R_Questions) (T := F_Questions) (N := 6) hF.1 hF.2.1 hF.2.2.2.2 i_Questions hF.2.2.2.1 hK.1 hP 17 rfl rfl 3 (by decide) (va_Nw.use rfl (hK.2 _ hlink)) (fun _ h9 => h9) rfl hdg kk
theorem gf_Questions_found (hF : CallFix p m c cc nL s args w_all own) (hK : kW_I dC dI cA s) (hP : va_P (dC, dI) classes (wI L cA ar sc) H) (hlink : Cond.fieldLink own idx "InspectRows$Questions" "found" "[I" ∈ w_all) (hdg : decode cc pc = .ok (.getfield idx, 3)) (kk : W p l e R s m args below meth c H locs cells slots Q (F0 m (pc + 3) ls (.ref (L 22) :: rest))) : W p l e R s m args below meth c H locs cells slots Q (F0 m pc ls (.ref (L 17) :: rest)) :=
  va_get (D := (dC, dI)) (ci := 4) (v := .ref (L 22)) (C := R_Questions) (T := F_Questions) (N := 6) hF.1 hF.2.1 hF.2.2.2.2 i_Questions hF.2.2.2.1 hK.1 hP 17 rfl rfl 4 (by decide) (hF.2.2.2.2 _ hlink) (fun _ h9 => h9) rfl hdg kk
theorem gn_Questions_found (hF : CallFix p m c cc nL s args w_all own) (hK : kW_I dC dI cA s) (hP : va_P (dC, dI) classes (wI L cA ar sc) H) (hlink : Cond.fieldLinkNest own idx "InspectRows$Questions" "found" "[I" "InspectRows" ∈ nw_all) (hdg : decode cc pc = .ok (.getfield idx, 3)) (kk : W p l e R s m args below meth c H locs cells slots Q (F0 m (pc + 3) ls (.ref (L 22) :: rest))) : W p l e R s m args below meth c H locs cells slots Q (F0 m pc ls (.ref (L 17) :: rest)) :=
  va_getN (D := (dC, dI)) (ci := 4) (v := .ref (L 22)) (C := R_Questions) (T := F_Questions) (N := 6) hF.1 hF.2.1 hF.2.2.2.2 i_Questions hF.2.2.2.1 hK.1 hP 17 rfl rfl 4 (by decide) (va_Nw.use rfl (hK.2 _ hlink)) (fun _ h9 => h9) rfl hdg kk
theorem gf_Questions_foundCount (hF : CallFix p m c cc nL s args w_all own) (hK : kW_I dC dI cA s) (hP : va_P (dC, dI) classes (wI L cA ar sc) H) (hlink : Cond.fieldLink own idx "InspectRows$Questions" "foundCount" "I" ∈ w_all) (hdg : decode cc pc = .ok (.getfield idx, 3)) (kk : W p l e R s m args below meth c H locs cells slots Q (F0 m (pc + 3) ls (.int (sc 3) :: rest))) : W p l e R s m args below meth c H locs cells slots Q (F0 m pc ls (.ref (L 17) :: rest)) :=
  va_get (D := (dC, dI)) (ci := 4) (v := .int (sc 3)) (C := R_Questions) (T := F_Questions) (N := 6) hF.1 hF.2.1 hF.2.2.2.2 i_Questions hF.2.2.2.1 hK.1 hP 17 rfl rfl 5 (by decide) (hF.2.2.2.2 _ hlink) (fun _ h9 => h9) rfl hdg kk
theorem pf_Questions_foundCount {x : Int32} (hF : CallFix p m c cc nL s args w_all own) (hK : kW_I dC dI cA s) (hP : va_P (dC, dI) classes (wI L cA ar sc) H) (hL : ij 38 L) (hS : va_S (aI L) H0 H locs) (hlink : Cond.fieldLink own idx "InspectRows$Questions" "foundCount" "I" ∈ w_all) (hdg : decode cc pc = .ok (.putfield idx, 3)) (kk : ∀ (H1 : Heap) (locs1 : List Loc), va_P (dC, dI) classes (wI L cA ar (sg sc 3 x)) H1 → va_S (aI L) H0 H1 locs1 → W p l e R s m args below meth c H1 locs1 cells slots Q (F0 m (pc + 3) ls rest)) : W p l e R s m args below meth c H locs cells slots Q (F0 m pc ls (.int x :: .ref (L 17) :: rest)) :=
  va_put (D := (dC, dI)) (ci := 4) (v := .int x) (ty := .int) (C := R_Questions) (T := F_Questions) (N := 6) hF.1 hF.2.1 hF.2.2.2.2 i_Questions t_Questions t_Questions_ok n_Questions hF.2.2.2.1 hK.1 hP (wI_D hL) hS 17 rfl rfl 5 (by decide) (hF.2.2.2.2 _ hlink) (fun _ h9 => h9) rfl (by decide +kernel) rfl rfl (Nat.le_of_ble_eq_true rfl) hdg (fun H1 locs1 h1 _ h3 => kk H1 locs1 h1 h3)
theorem gn_Questions_foundCount (hF : CallFix p m c cc nL s args w_all own) (hK : kW_I dC dI cA s) (hP : va_P (dC, dI) classes (wI L cA ar sc) H) (hlink : Cond.fieldLinkNest own idx "InspectRows$Questions" "foundCount" "I" "InspectRows" ∈ nw_all) (hdg : decode cc pc = .ok (.getfield idx, 3)) (kk : W p l e R s m args below meth c H locs cells slots Q (F0 m (pc + 3) ls (.int (sc 3) :: rest))) : W p l e R s m args below meth c H locs cells slots Q (F0 m pc ls (.ref (L 17) :: rest)) :=
  va_getN (D := (dC, dI)) (ci := 4) (v := .int (sc 3)) (C := R_Questions) (T := F_Questions) (N := 6) hF.1 hF.2.1 hF.2.2.2.2 i_Questions hF.2.2.2.1 hK.1 hP 17 rfl rfl 5 (by decide) (va_Nw.use rfl (hK.2 _ hlink)) (fun _ h9 => h9) rfl hdg kk
theorem pn_Questions_foundCount {x : Int32} (hF : CallFix p m c cc nL s args w_all own) (hK : kW_I dC dI cA s) (hP : va_P (dC, dI) classes (wI L cA ar sc) H) (hL : ij 38 L) (hS : va_S (aI L) H0 H locs) (hlink : Cond.fieldLinkNest own idx "InspectRows$Questions" "foundCount" "I" "InspectRows" ∈ nw_all) (hdg : decode cc pc = .ok (.putfield idx, 3)) (kk : ∀ (H1 : Heap) (locs1 : List Loc), va_P (dC, dI) classes (wI L cA ar (sg sc 3 x)) H1 → va_S (aI L) H0 H1 locs1 → W p l e R s m args below meth c H1 locs1 cells slots Q (F0 m (pc + 3) ls rest)) : W p l e R s m args below meth c H locs cells slots Q (F0 m pc ls (.int x :: .ref (L 17) :: rest)) :=
  va_putN (D := (dC, dI)) (ci := 4) (v := .int x) (ty := .int) (C := R_Questions) (T := F_Questions) (N := 6) hF.1 hF.2.1 hF.2.2.2.2 i_Questions t_Questions t_Questions_ok n_Questions hF.2.2.2.1 hK.1 hP (wI_D hL) hS 17 rfl rfl 5 (by decide) (va_Nw.use rfl (hK.2 _ hlink)) (fun _ h9 => h9) rfl (by decide +kernel) rfl rfl (Nat.le_of_ble_eq_true rfl) hdg (fun H1 locs1 h1 _ h3 => kk H1 locs1 h1 h3)
theorem alI_18 {i : Int32} (hF : CallFix p m c cc nL s args w_all own) (hK : kW_I dC dI cA s) (hP : va_P (dC, dI) classes (wI L cA ar sc) H) (hin : vp_in i 16) (hdg : decode cc pc = .ok (.baload, 1)) (kk : W p l e R s m args below meth c H locs cells slots Q (F0 m (pc + 1) ls (.int (ar 18 i.toNatClampNeg) :: rest))) : W p l e R s m args below meth c H locs cells slots Q (F0 m pc ls (.int i :: .ref (L 18) :: rest)) :=
  va_zald hF.1 hF.2.1 hK.1 hP 18 13 rfl rfl hin hdg kk
theorem asI_18 {i x : Int32} (hF : CallFix p m c cc nL s args w_all own) (hK : kW_I dC dI cA s) (hP : va_P (dC, dI) classes (wI L cA ar sc) H) (hL : ij 38 L) (hS : va_S (aI L) H0 H locs) (hin : vp_in i 16) (hdg : decode cc pc = .ok (.bastore, 1)) (kk : ∀ (H1 : Heap) (locs1 : List Loc), va_P (dC, dI) classes (wI L cA (s2 ar 18 i.toNatClampNeg (vp_nar .boolean x)) sc) H1 → va_S (aI L) H0 H1 locs1 → W p l e R s m args below meth c H1 locs1 cells slots Q (F0 m (pc + 1) ls rest)) : W p l e R s m args below meth c H locs cells slots Q (F0 m pc ls (.int x :: .int i :: .ref (L 18) :: rest)) :=
  va_zast hF.1 hF.2.1 hK.1 hP (wI_D hL) hS 18 13 rfl rfl hin hdg (fun H1 locs1 h1 _ h3 => kk H1 locs1 h1 h3)
theorem anI_18 (hF : CallFix p m c cc nL s args w_all own) (hK : kW_I dC dI cA s) (hP : va_P (dC, dI) classes (wI L cA ar sc) H) (hdg : decode cc pc = .ok (.arraylength, 1)) (kk : W p l e R s m args below meth c H locs cells slots Q (F0 m (pc + 1) ls (.int 16 :: rest))) : W p l e R s m args below meth c H locs cells slots Q (F0 m pc ls (.ref (L 18) :: rest)) :=
  va_alen (v := 16) hF.1 hF.2.1 hK.1 hP 18 13 rfl rfl rfl hdg kk
theorem alI_19 {i : Int32} (hF : CallFix p m c cc nL s args w_all own) (hK : kW_I dC dI cA s) (hP : va_P (dC, dI) classes (wI L cA ar sc) H) (hin : vp_in i 16) (hdg : decode cc pc = .ok (.iaload, 1)) (kk : W p l e R s m args below meth c H locs cells slots Q (F0 m (pc + 1) ls (.int (ar 19 i.toNatClampNeg) :: rest))) : W p l e R s m args below meth c H locs cells slots Q (F0 m pc ls (.int i :: .ref (L 19) :: rest)) :=
  va_iald hF.1 hF.2.1 hK.1 hP 19 14 rfl rfl hin hdg kk
theorem asI_19 {i x : Int32} (hF : CallFix p m c cc nL s args w_all own) (hK : kW_I dC dI cA s) (hP : va_P (dC, dI) classes (wI L cA ar sc) H) (hL : ij 38 L) (hS : va_S (aI L) H0 H locs) (hin : vp_in i 16) (hdg : decode cc pc = .ok (.iastore, 1)) (kk : ∀ (H1 : Heap) (locs1 : List Loc), va_P (dC, dI) classes (wI L cA (s2 ar 19 i.toNatClampNeg x) sc) H1 → va_S (aI L) H0 H1 locs1 → W p l e R s m args below meth c H1 locs1 cells slots Q (F0 m (pc + 1) ls rest)) : W p l e R s m args below meth c H locs cells slots Q (F0 m pc ls (.int x :: .int i :: .ref (L 19) :: rest)) :=
  va_iast hF.1 hF.2.1 hK.1 hP (wI_D hL) hS 19 14 rfl rfl hin hdg (fun H1 locs1 h1 _ h3 => kk H1 locs1 h1 h3)
theorem anI_19 (hF : CallFix p m c cc nL s args w_all own) (hK : kW_I dC dI cA s) (hP : va_P (dC, dI) classes (wI L cA ar sc) H) (hdg : decode cc pc = .ok (.arraylength, 1)) (kk : W p l e R s m args below meth c H locs cells slots Q (F0 m (pc + 1) ls (.int 16 :: rest))) : W p l e R s m args below meth c H locs cells slots Q (F0 m pc ls (.ref (L 19) :: rest)) :=
  va_alen (v := 16) hF.1 hF.2.1 hK.1 hP 19 14 rfl rfl rfl hdg kk
theorem alI_20 {i : Int32} (hF : CallFix p m c cc nL s args w_all own) (hK : kW_I dC dI cA s) (hP : va_P (dC, dI) classes (wI L cA ar sc) H) (hin : vp_in i 16) (hdg : decode cc pc = .ok (.iaload, 1)) (kk : W p l e R s m args below meth c H locs cells slots Q (F0 m (pc + 1) ls (.int (ar 20 i.toNatClampNeg) :: rest))) : W p l e R s m args below meth c H locs cells slots Q (F0 m pc ls (.int i :: .ref (L 20) :: rest)) :=
  va_iald hF.1 hF.2.1 hK.1 hP 20 15 rfl rfl hin hdg kk
theorem asI_20 {i x : Int32} (hF : CallFix p m c cc nL s args w_all own) (hK : kW_I dC dI cA s) (hP : va_P (dC, dI) classes (wI L cA ar sc) H) (hL : ij 38 L) (hS : va_S (aI L) H0 H locs) (hin : vp_in i 16) (hdg : decode cc pc = .ok (.iastore, 1)) (kk : ∀ (H1 : Heap) (locs1 : List Loc), va_P (dC, dI) classes (wI L cA (s2 ar 20 i.toNatClampNeg x) sc) H1 → va_S (aI L) H0 H1 locs1 → W p l e R s m args below meth c H1 locs1 cells slots Q (F0 m (pc + 1) ls rest)) : W p l e R s m args below meth c H locs cells slots Q (F0 m pc ls (.int x :: .int i :: .ref (L 20) :: rest)) :=
  va_iast hF.1 hF.2.1 hK.1 hP (wI_D hL) hS 20 15 rfl rfl hin hdg (fun H1 locs1 h1 _ h3 => kk H1 locs1 h1 h3)
theorem anI_20 (hF : CallFix p m c cc nL s args w_all own) (hK : kW_I dC dI cA s) (hP : va_P (dC, dI) classes (wI L cA ar sc) H) (hdg : decode cc pc = .ok (.arraylength, 1)) (kk : W p l e R s m args below meth c H locs cells slots Q (F0 m (pc + 1) ls (.int 16 :: rest))) : W p l e R s m args below meth c H locs cells slots Q (F0 m pc ls (.ref (L 20) :: rest)) :=
  va_alen (v := 16) hF.1 hF.2.1 hK.1 hP 20 15 rfl rfl rfl hdg kk
theorem alI_21 {i : Int32} (hF : CallFix p m c cc nL s args w_all own) (hK : kW_I dC dI cA s) (hP : va_P (dC, dI) classes (wI L cA ar sc) H) (hin : vp_in i 16) (hdg : decode cc pc = .ok (.iaload, 1)) (kk : W p l e R s m args below meth c H locs cells slots Q (F0 m (pc + 1) ls (.int (ar 21 i.toNatClampNeg) :: rest))) : W p l e R s m args below meth c H locs cells slots Q (F0 m pc ls (.int i :: .ref (L 21) :: rest)) :=
  va_iald hF.1 hF.2.1 hK.1 hP 21 16 rfl rfl hin hdg kk
theorem asI_21 {i x : Int32} (hF : CallFix p m c cc nL s args w_all own) (hK : kW_I dC dI cA s) (hP : va_P (dC, dI) classes (wI L cA ar sc) H) (hL : ij 38 L) (hS : va_S (aI L) H0 H locs) (hin : vp_in i 16) (hdg : decode cc pc = .ok (.iastore, 1)) (kk : ∀ (H1 : Heap) (locs1 : List Loc), va_P (dC, dI) classes (wI L cA (s2 ar 21 i.toNatClampNeg x) sc) H1 → va_S (aI L) H0 H1 locs1 → W p l e R s m args below meth c H1 locs1 cells slots Q (F0 m (pc + 1) ls rest)) : W p l e R s m args below meth c H locs cells slots Q (F0 m pc ls (.int x :: .int i :: .ref (L 21) :: rest)) :=
  va_iast hF.1 hF.2.1 hK.1 hP (wI_D hL) hS 21 16 rfl rfl hin hdg (fun H1 locs1 h1 _ h3 => kk H1 locs1 h1 h3)
theorem anI_21 (hF : CallFix p m c cc nL s args w_all own) (hK : kW_I dC dI cA s) (hP : va_P (dC, dI) classes (wI L cA ar sc) H) (hdg : decode cc pc = .ok (.arraylength, 1)) (kk : W p l e R s m args below meth c H locs cells slots Q (F0 m (pc + 1) ls (.int 16 :: rest))) : W p l e R s m args below meth c H locs cells slots Q (F0 m pc ls (.ref (L 21) :: rest)) :=
  va_alen (v := 16) hF.1 hF.2.1 hK.1 hP 21 16 rfl rfl rfl hdg kk
theorem alI_22 {i : Int32} (hF : CallFix p m c cc nL s args w_all own) (hK : kW_I dC dI cA s) (hP : va_P (dC, dI) classes (wI L cA ar sc) H) (hin : vp_in i 16) (hdg : decode cc pc = .ok (.iaload, 1)) (kk : W p l e R s m args below meth c H locs cells slots Q (F0 m (pc + 1) ls (.int (ar 22 i.toNatClampNeg) :: rest))) : W p l e R s m args below meth c H locs cells slots Q (F0 m pc ls (.int i :: .ref (L 22) :: rest)) :=
  va_iald hF.1 hF.2.1 hK.1 hP 22 17 rfl rfl hin hdg kk
theorem asI_22 {i x : Int32} (hF : CallFix p m c cc nL s args w_all own) (hK : kW_I dC dI cA s) (hP : va_P (dC, dI) classes (wI L cA ar sc) H) (hL : ij 38 L) (hS : va_S (aI L) H0 H locs) (hin : vp_in i 16) (hdg : decode cc pc = .ok (.iastore, 1)) (kk : ∀ (H1 : Heap) (locs1 : List Loc), va_P (dC, dI) classes (wI L cA (s2 ar 22 i.toNatClampNeg x) sc) H1 → va_S (aI L) H0 H1 locs1 → W p l e R s m args below meth c H1 locs1 cells slots Q (F0 m (pc + 1) ls rest)) : W p l e R s m args below meth c H locs cells slots Q (F0 m pc ls (.int x :: .int i :: .ref (L 22) :: rest)) :=
  va_iast hF.1 hF.2.1 hK.1 hP (wI_D hL) hS 22 17 rfl rfl hin hdg (fun H1 locs1 h1 _ h3 => kk H1 locs1 h1 h3)
theorem anI_22 (hF : CallFix p m c cc nL s args w_all own) (hK : kW_I dC dI cA s) (hP : va_P (dC, dI) classes (wI L cA ar sc) H) (hdg : decode cc pc = .ok (.arraylength, 1)) (kk : W p l e R s m args below meth c H locs cells slots Q (F0 m (pc + 1) ls (.int 16 :: rest))) : W p l e R s m args below meth c H locs cells slots Q (F0 m pc ls (.ref (L 22) :: rest)) :=
  va_alen (v := 16) hF.1 hF.2.1 hK.1 hP 22 17 rfl rfl rfl hdg kk
theorem gf_Route_told (hF : CallFix p m c cc nL s args w_all own) (hK : kW_I dC dI cA s) (hP : va_P (dC, dI) classes (wI L cA ar sc) H) (hlink : Cond.fieldLink own idx "InspectRows$Route" "told" "[I" ∈ w_all) (hdg : decode cc pc = .ok (.getfield idx, 3)) (kk : W p l e R s m args below meth c H locs cells slots Q (F0 m (pc + 3) ls (.ref (L 24) :: rest))) : W p l e R s m args below meth c H locs cells slots Q (F0 m pc ls (.ref (L 23) :: rest)) :=
  va_get (D := (dC, dI)) (ci := 5) (v := .ref (L 24)) (C := R_Route) (T := F_Route) (N := 7) hF.1 hF.2.1 hF.2.2.2.2 i_Route hF.2.2.2.1 hK.1 hP 23 rfl rfl 0 (by decide) (hF.2.2.2.2 _ hlink) (fun _ h9 => h9) rfl hdg kk
theorem gn_Route_told (hF : CallFix p m c cc nL s args w_all own) (hK : kW_I dC dI cA s) (hP : va_P (dC, dI) classes (wI L cA ar sc) H) (hlink : Cond.fieldLinkNest own idx "InspectRows$Route" "told" "[I" "InspectRows" ∈ nw_all) (hdg : decode cc pc = .ok (.getfield idx, 3)) (kk : W p l e R s m args below meth c H locs cells slots Q (F0 m (pc + 3) ls (.ref (L 24) :: rest))) : W p l e R s m args below meth c H locs cells slots Q (F0 m pc ls (.ref (L 23) :: rest)) :=
  va_getN (D := (dC, dI)) (ci := 5) (v := .ref (L 24)) (C := R_Route) (T := F_Route) (N := 7) hF.1 hF.2.1 hF.2.2.2.2 i_Route hF.2.2.2.1 hK.1 hP 23 rfl rfl 0 (by decide) (va_Nw.use rfl (hK.2 _ hlink)) (fun _ h9 => h9) rfl hdg kk
theorem gf_Route_xs (hF : CallFix p m c cc nL s args w_all own) (hK : kW_I dC dI cA s) (hP : va_P (dC, dI) classes (wI L cA ar sc) H) (hlink : Cond.fieldLink own idx "InspectRows$Route" "xs" "[I" ∈ w_all) (hdg : decode cc pc = .ok (.getfield idx, 3)) (kk : W p l e R s m args below meth c H locs cells slots Q (F0 m (pc + 3) ls (.ref (L 25) :: rest))) : W p l e R s m args below meth c H locs cells slots Q (F0 m pc ls (.ref (L 23) :: rest)) :=
  va_get (D := (dC, dI)) (ci := 5) (v := .ref (L 25)) (C := R_Route) (T := F_Route) (N := 7) hF.1 hF.2.1 hF.2.2.2.2 i_Route hF.2.2.2.1 hK.1 hP 23 rfl rfl 1 (by decide) (hF.2.2.2.2 _ hlink) (fun _ h9 => h9) rfl hdg kk
theorem gn_Route_xs (hF : CallFix p m c cc nL s args w_all own) (hK : kW_I dC dI cA s) (hP : va_P (dC, dI) classes (wI L cA ar sc) H) (hlink : Cond.fieldLinkNest own idx "InspectRows$Route" "xs" "[I" "InspectRows" ∈ nw_all) (hdg : decode cc pc = .ok (.getfield idx, 3)) (kk : W p l e R s m args below meth c H locs cells slots Q (F0 m (pc + 3) ls (.ref (L 25) :: rest))) : W p l e R s m args below meth c H locs cells slots Q (F0 m pc ls (.ref (L 23) :: rest)) :=
  va_getN (D := (dC, dI)) (ci := 5) (v := .ref (L 25)) (C := R_Route) (T := F_Route) (N := 7) hF.1 hF.2.1 hF.2.2.2.2 i_Route hF.2.2.2.1 hK.1 hP 23 rfl rfl 1 (by decide) (va_Nw.use rfl (hK.2 _ hlink)) (fun _ h9 => h9) rfl hdg kk
theorem gf_Route_ys (hF : CallFix p m c cc nL s args w_all own) (hK : kW_I dC dI cA s) (hP : va_P (dC, dI) classes (wI L cA ar sc) H) (hlink : Cond.fieldLink own idx "InspectRows$Route" "ys" "[I" ∈ w_all) (hdg : decode cc pc = .ok (.getfield idx, 3)) (kk : W p l e R s m args below meth c H locs cells slots Q (F0 m (pc + 3) ls (.ref (L 26) :: rest))) : W p l e R s m args below meth c H locs cells slots Q (F0 m pc ls (.ref (L 23) :: rest)) :=
  va_get (D := (dC, dI)) (ci := 5) (v := .ref (L 26)) (C := R_Route) (T := F_Route) (N := 7) hF.1 hF.2.1 hF.2.2.2.2 i_Route hF.2.2.2.1 hK.1 hP 23 rfl rfl 2 (by decide) (hF.2.2.2.2 _ hlink) (fun _ h9 => h9) rfl hdg kk
theorem gn_Route_ys (hF : CallFix p m c cc nL s args w_all own) (hK : kW_I dC dI cA s) (hP : va_P (dC, dI) classes (wI L cA ar sc) H) (hlink : Cond.fieldLinkNest own idx "InspectRows$Route" "ys" "[I" "InspectRows" ∈ nw_all) (hdg : decode cc pc = .ok (.getfield idx, 3)) (kk : W p l e R s m args below meth c H locs cells slots Q (F0 m (pc + 3) ls (.ref (L 26) :: rest))) : W p l e R s m args below meth c H locs cells slots Q (F0 m pc ls (.ref (L 23) :: rest)) :=
  va_getN (D := (dC, dI)) (ci := 5) (v := .ref (L 26)) (C := R_Route) (T := F_Route) (N := 7) hF.1 hF.2.1 hF.2.2.2.2 i_Route hF.2.2.2.1 hK.1 hP 23 rfl rfl 2 (by decide) (va_Nw.use rfl (hK.2 _ hlink)) (fun _ h9 => h9) rfl hdg kk
theorem gf_Route_legs (hF : CallFix p m c cc nL s args w_all own) (hK : kW_I dC dI cA s) (hP : va_P (dC, dI) classes (wI L cA ar sc) H) (hlink : Cond.fieldLink own idx "InspectRows$Route" "legs" "[I" ∈ w_all) (hdg : decode cc pc = .ok (.getfield idx, 3)) (kk : W p l e R s m args below meth c H locs cells slots Q (F0 m (pc + 3) ls (.ref (L 27) :: rest))) : W p l e R s m args below meth c H locs cells slots Q (F0 m pc ls (.ref (L 23) :: rest)) :=
  va_get (D := (dC, dI)) (ci := 5) (v := .ref (L 27)) (C := R_Route) (T := F_Route) (N := 7) hF.1 hF.2.1 hF.2.2.2.2 i_Route hF.2.2.2.1 hK.1 hP 23 rfl rfl 3 (by decide) (hF.2.2.2.2 _ hlink) (fun _ h9 => h9) rfl hdg kk
theorem gn_Route_legs (hF : CallFix p m c cc nL s args w_all own) (hK : kW_I dC dI cA s) (hP : va_P (dC, dI) classes (wI L cA ar sc) H) (hlink : Cond.fieldLinkNest own idx "InspectRows$Route" "legs" "[I" "InspectRows" ∈ nw_all) (hdg : decode cc pc = .ok (.getfield idx, 3)) (kk : W p l e R s m args below meth c H locs cells slots Q (F0 m (pc + 3) ls (.ref (L 27) :: rest))) : W p l e R s m args below meth c H locs cells slots Q (F0 m pc ls (.ref (L 23) :: rest)) :=
  va_getN (D := (dC, dI)) (ci := 5) (v := .ref (L 27)) (C := R_Route) (T := F_Route) (N := 7) hF.1 hF.2.1 hF.2.2.2.2 i_Route hF.2.2.2.1 hK.1 hP 23 rfl rfl 3 (by decide) (va_Nw.use rfl (hK.2 _ hlink)) (fun _ h9 => h9) rfl hdg kk
theorem gf_Route_leastHome (hF : CallFix p m c cc nL s args w_all own) (hK : kW_I dC dI cA s) (hP : va_P (dC, dI) classes (wI L cA ar sc) H) (hlink : Cond.fieldLink own idx "InspectRows$Route" "leastHome" "[I" ∈ w_all) (hdg : decode cc pc = .ok (.getfield idx, 3)) (kk : W p l e R s m args below meth c H locs cells slots Q (F0 m (pc + 3) ls (.ref (L 28) :: rest))) : W p l e R s m args below meth c H locs cells slots Q (F0 m pc ls (.ref (L 23) :: rest)) :=
  va_get (D := (dC, dI)) (ci := 5) (v := .ref (L 28)) (C := R_Route) (T := F_Route) (N := 7) hF.1 hF.2.1 hF.2.2.2.2 i_Route hF.2.2.2.1 hK.1 hP 23 rfl rfl 4 (by decide) (hF.2.2.2.2 _ hlink) (fun _ h9 => h9) rfl hdg kk
theorem gn_Route_leastHome (hF : CallFix p m c cc nL s args w_all own) (hK : kW_I dC dI cA s) (hP : va_P (dC, dI) classes (wI L cA ar sc) H) (hlink : Cond.fieldLinkNest own idx "InspectRows$Route" "leastHome" "[I" "InspectRows" ∈ nw_all) (hdg : decode cc pc = .ok (.getfield idx, 3)) (kk : W p l e R s m args below meth c H locs cells slots Q (F0 m (pc + 3) ls (.ref (L 28) :: rest))) : W p l e R s m args below meth c H locs cells slots Q (F0 m pc ls (.ref (L 23) :: rest)) :=
  va_getN (D := (dC, dI)) (ci := 5) (v := .ref (L 28)) (C := R_Route) (T := F_Route) (N := 7) hF.1 hF.2.1 hF.2.2.2.2 i_Route hF.2.2.2.1 hK.1 hP 23 rfl rfl 4 (by decide) (va_Nw.use rfl (hK.2 _ hlink)) (fun _ h9 => h9) rfl hdg kk
theorem gf_Route_stops (hF : CallFix p m c cc nL s args w_all own) (hK : kW_I dC dI cA s) (hP : va_P (dC, dI) classes (wI L cA ar sc) H) (hlink : Cond.fieldLink own idx "InspectRows$Route" "stops" "[I" ∈ w_all) (hdg : decode cc pc = .ok (.getfield idx, 3)) (kk : W p l e R s m args below meth c H locs cells slots Q (F0 m (pc + 3) ls (.ref (L 29) :: rest))) : W p l e R s m args below meth c H locs cells slots Q (F0 m pc ls (.ref (L 23) :: rest)) :=
  va_get (D := (dC, dI)) (ci := 5) (v := .ref (L 29)) (C := R_Route) (T := F_Route) (N := 7) hF.1 hF.2.1 hF.2.2.2.2 i_Route hF.2.2.2.1 hK.1 hP 23 rfl rfl 5 (by decide) (hF.2.2.2.2 _ hlink) (fun _ h9 => h9) rfl hdg kk
theorem gn_Route_stops (hF : CallFix p m c cc nL s args w_all own) (hK : kW_I dC dI cA s) (hP : va_P (dC, dI) classes (wI L cA ar sc) H) (hlink : Cond.fieldLinkNest own idx "InspectRows$Route" "stops" "[I" "InspectRows" ∈ nw_all) (hdg : decode cc pc = .ok (.getfield idx, 3)) (kk : W p l e R s m args below meth c H locs cells slots Q (F0 m (pc + 3) ls (.ref (L 29) :: rest))) : W p l e R s m args below meth c H locs cells slots Q (F0 m pc ls (.ref (L 23) :: rest)) :=
  va_getN (D := (dC, dI)) (ci := 5) (v := .ref (L 29)) (C := R_Route) (T := F_Route) (N := 7) hF.1 hF.2.1 hF.2.2.2.2 i_Route hF.2.2.2.1 hK.1 hP 23 rfl rfl 5 (by decide) (va_Nw.use rfl (hK.2 _ hlink)) (fun _ h9 => h9) rfl hdg kk
theorem gf_Route_count (hF : CallFix p m c cc nL s args w_all own) (hK : kW_I dC dI cA s) (hP : va_P (dC, dI) classes (wI L cA ar sc) H) (hlink : Cond.fieldLink own idx "InspectRows$Route" "count" "I" ∈ w_all) (hdg : decode cc pc = .ok (.getfield idx, 3)) (kk : W p l e R s m args below meth c H locs cells slots Q (F0 m (pc + 3) ls (.int (sc 4) :: rest))) : W p l e R s m args below meth c H locs cells slots Q (F0 m pc ls (.ref (L 23) :: rest)) :=
  va_get (D := (dC, dI)) (ci := 5) (v := .int (sc 4)) (C := R_Route) (T := F_Route) (N := 7) hF.1 hF.2.1 hF.2.2.2.2 i_Route hF.2.2.2.1 hK.1 hP 23 rfl rfl 6 (by decide) (hF.2.2.2.2 _ hlink) (fun _ h9 => h9) rfl hdg kk
theorem pf_Route_count {x : Int32} (hF : CallFix p m c cc nL s args w_all own) (hK : kW_I dC dI cA s) (hP : va_P (dC, dI) classes (wI L cA ar sc) H) (hL : ij 38 L) (hS : va_S (aI L) H0 H locs) (hlink : Cond.fieldLink own idx "InspectRows$Route" "count" "I" ∈ w_all) (hdg : decode cc pc = .ok (.putfield idx, 3)) (kk : ∀ (H1 : Heap) (locs1 : List Loc), va_P (dC, dI) classes (wI L cA ar (sg sc 4 x)) H1 → va_S (aI L) H0 H1 locs1 → W p l e R s m args below meth c H1 locs1 cells slots Q (F0 m (pc + 3) ls rest)) : W p l e R s m args below meth c H locs cells slots Q (F0 m pc ls (.int x :: .ref (L 23) :: rest)) :=
  va_put (D := (dC, dI)) (ci := 5) (v := .int x) (ty := .int) (C := R_Route) (T := F_Route) (N := 7) hF.1 hF.2.1 hF.2.2.2.2 i_Route t_Route t_Route_ok n_Route hF.2.2.2.1 hK.1 hP (wI_D hL) hS 23 rfl rfl 6 (by decide) (hF.2.2.2.2 _ hlink) (fun _ h9 => h9) rfl (by decide +kernel) rfl rfl (Nat.le_of_ble_eq_true rfl) hdg (fun H1 locs1 h1 _ h3 => kk H1 locs1 h1 h3)
theorem gn_Route_count (hF : CallFix p m c cc nL s args w_all own) (hK : kW_I dC dI cA s) (hP : va_P (dC, dI) classes (wI L cA ar sc) H) (hlink : Cond.fieldLinkNest own idx "InspectRows$Route" "count" "I" "InspectRows" ∈ nw_all) (hdg : decode cc pc = .ok (.getfield idx, 3)) (kk : W p l e R s m args below meth c H locs cells slots Q (F0 m (pc + 3) ls (.int (sc 4) :: rest))) : W p l e R s m args below meth c H locs cells slots Q (F0 m pc ls (.ref (L 23) :: rest)) :=
  va_getN (D := (dC, dI)) (ci := 5) (v := .int (sc 4)) (C := R_Route) (T := F_Route) (N := 7) hF.1 hF.2.1 hF.2.2.2.2 i_Route hF.2.2.2.1 hK.1 hP 23 rfl rfl 6 (by decide) (va_Nw.use rfl (hK.2 _ hlink)) (fun _ h9 => h9) rfl hdg kk
theorem pn_Route_count {x : Int32} (hF : CallFix p m c cc nL s args w_all own) (hK : kW_I dC dI cA s) (hP : va_P (dC, dI) classes (wI L cA ar sc) H) (hL : ij 38 L) (hS : va_S (aI L) H0 H locs) (hlink : Cond.fieldLinkNest own idx "InspectRows$Route" "count" "I" "InspectRows" ∈ nw_all) (hdg : decode cc pc = .ok (.putfield idx, 3)) (kk : ∀ (H1 : Heap) (locs1 : List Loc), va_P (dC, dI) classes (wI L cA ar (sg sc 4 x)) H1 → va_S (aI L) H0 H1 locs1 → W p l e R s m args below meth c H1 locs1 cells slots Q (F0 m (pc + 3) ls rest)) : W p l e R s m args below meth c H locs cells slots Q (F0 m pc ls (.int x :: .ref (L 23) :: rest)) :=
  va_putN (D := (dC, dI)) (ci := 5) (v := .int x) (ty := .int) (C := R_Route) (T := F_Route) (N := 7) hF.1 hF.2.1 hF.2.2.2.2 i_Route t_Route t_Route_ok n_Route hF.2.2.2.1 hK.1 hP (wI_D hL) hS 23 rfl rfl 6 (by decide) (va_Nw.use rfl (hK.2 _ hlink)) (fun _ h9 => h9) rfl (by decide +kernel) rfl rfl (Nat.le_of_ble_eq_true rfl) hdg (fun H1 locs1 h1 _ h3 => kk H1 locs1 h1 h3)
theorem alI_24 {i : Int32} (hF : CallFix p m c cc nL s args w_all own) (hK : kW_I dC dI cA s) (hP : va_P (dC, dI) classes (wI L cA ar sc) H) (hin : vp_in i 7) (hdg : decode cc pc = .ok (.iaload, 1)) (kk : W p l e R s m args below meth c H locs cells slots Q (F0 m (pc + 1) ls (.int (ar 24 i.toNatClampNeg) :: rest))) : W p l e R s m args below meth c H locs cells slots Q (F0 m pc ls (.int i :: .ref (L 24) :: rest)) :=
  va_iald hF.1 hF.2.1 hK.1 hP 24 18 rfl rfl hin hdg kk
theorem asI_24 {i x : Int32} (hF : CallFix p m c cc nL s args w_all own) (hK : kW_I dC dI cA s) (hP : va_P (dC, dI) classes (wI L cA ar sc) H) (hL : ij 38 L) (hS : va_S (aI L) H0 H locs) (hin : vp_in i 7) (hdg : decode cc pc = .ok (.iastore, 1)) (kk : ∀ (H1 : Heap) (locs1 : List Loc), va_P (dC, dI) classes (wI L cA (s2 ar 24 i.toNatClampNeg x) sc) H1 → va_S (aI L) H0 H1 locs1 → W p l e R s m args below meth c H1 locs1 cells slots Q (F0 m (pc + 1) ls rest)) : W p l e R s m args below meth c H locs cells slots Q (F0 m pc ls (.int x :: .int i :: .ref (L 24) :: rest)) :=
  va_iast hF.1 hF.2.1 hK.1 hP (wI_D hL) hS 24 18 rfl rfl hin hdg (fun H1 locs1 h1 _ h3 => kk H1 locs1 h1 h3)
theorem anI_24 (hF : CallFix p m c cc nL s args w_all own) (hK : kW_I dC dI cA s) (hP : va_P (dC, dI) classes (wI L cA ar sc) H) (hdg : decode cc pc = .ok (.arraylength, 1)) (kk : W p l e R s m args below meth c H locs cells slots Q (F0 m (pc + 1) ls (.int 7 :: rest))) : W p l e R s m args below meth c H locs cells slots Q (F0 m pc ls (.ref (L 24) :: rest)) :=
  va_alen (v := 7) hF.1 hF.2.1 hK.1 hP 24 18 rfl rfl rfl hdg kk
theorem alI_25 {i : Int32} (hF : CallFix p m c cc nL s args w_all own) (hK : kW_I dC dI cA s) (hP : va_P (dC, dI) classes (wI L cA ar sc) H) (hin : vp_in i 8) (hdg : decode cc pc = .ok (.iaload, 1)) (kk : W p l e R s m args below meth c H locs cells slots Q (F0 m (pc + 1) ls (.int (ar 25 i.toNatClampNeg) :: rest))) : W p l e R s m args below meth c H locs cells slots Q (F0 m pc ls (.int i :: .ref (L 25) :: rest)) :=
  va_iald hF.1 hF.2.1 hK.1 hP 25 19 rfl rfl hin hdg kk
theorem asI_25 {i x : Int32} (hF : CallFix p m c cc nL s args w_all own) (hK : kW_I dC dI cA s) (hP : va_P (dC, dI) classes (wI L cA ar sc) H) (hL : ij 38 L) (hS : va_S (aI L) H0 H locs) (hin : vp_in i 8) (hdg : decode cc pc = .ok (.iastore, 1)) (kk : ∀ (H1 : Heap) (locs1 : List Loc), va_P (dC, dI) classes (wI L cA (s2 ar 25 i.toNatClampNeg x) sc) H1 → va_S (aI L) H0 H1 locs1 → W p l e R s m args below meth c H1 locs1 cells slots Q (F0 m (pc + 1) ls rest)) : W p l e R s m args below meth c H locs cells slots Q (F0 m pc ls (.int x :: .int i :: .ref (L 25) :: rest)) :=
  va_iast hF.1 hF.2.1 hK.1 hP (wI_D hL) hS 25 19 rfl rfl hin hdg (fun H1 locs1 h1 _ h3 => kk H1 locs1 h1 h3)
theorem anI_25 (hF : CallFix p m c cc nL s args w_all own) (hK : kW_I dC dI cA s) (hP : va_P (dC, dI) classes (wI L cA ar sc) H) (hdg : decode cc pc = .ok (.arraylength, 1)) (kk : W p l e R s m args below meth c H locs cells slots Q (F0 m (pc + 1) ls (.int 8 :: rest))) : W p l e R s m args below meth c H locs cells slots Q (F0 m pc ls (.ref (L 25) :: rest)) :=
  va_alen (v := 8) hF.1 hF.2.1 hK.1 hP 25 19 rfl rfl rfl hdg kk
theorem alI_26 {i : Int32} (hF : CallFix p m c cc nL s args w_all own) (hK : kW_I dC dI cA s) (hP : va_P (dC, dI) classes (wI L cA ar sc) H) (hin : vp_in i 8) (hdg : decode cc pc = .ok (.iaload, 1)) (kk : W p l e R s m args below meth c H locs cells slots Q (F0 m (pc + 1) ls (.int (ar 26 i.toNatClampNeg) :: rest))) : W p l e R s m args below meth c H locs cells slots Q (F0 m pc ls (.int i :: .ref (L 26) :: rest)) :=
  va_iald hF.1 hF.2.1 hK.1 hP 26 20 rfl rfl hin hdg kk
theorem asI_26 {i x : Int32} (hF : CallFix p m c cc nL s args w_all own) (hK : kW_I dC dI cA s) (hP : va_P (dC, dI) classes (wI L cA ar sc) H) (hL : ij 38 L) (hS : va_S (aI L) H0 H locs) (hin : vp_in i 8) (hdg : decode cc pc = .ok (.iastore, 1)) (kk : ∀ (H1 : Heap) (locs1 : List Loc), va_P (dC, dI) classes (wI L cA (s2 ar 26 i.toNatClampNeg x) sc) H1 → va_S (aI L) H0 H1 locs1 → W p l e R s m args below meth c H1 locs1 cells slots Q (F0 m (pc + 1) ls rest)) : W p l e R s m args below meth c H locs cells slots Q (F0 m pc ls (.int x :: .int i :: .ref (L 26) :: rest)) :=
  va_iast hF.1 hF.2.1 hK.1 hP (wI_D hL) hS 26 20 rfl rfl hin hdg (fun H1 locs1 h1 _ h3 => kk H1 locs1 h1 h3)
theorem anI_26 (hF : CallFix p m c cc nL s args w_all own) (hK : kW_I dC dI cA s) (hP : va_P (dC, dI) classes (wI L cA ar sc) H) (hdg : decode cc pc = .ok (.arraylength, 1)) (kk : W p l e R s m args below meth c H locs cells slots Q (F0 m (pc + 1) ls (.int 8 :: rest))) : W p l e R s m args below meth c H locs cells slots Q (F0 m pc ls (.ref (L 26) :: rest)) :=
  va_alen (v := 8) hF.1 hF.2.1 hK.1 hP 26 20 rfl rfl rfl hdg kk
theorem alI_27 {i : Int32} (hF : CallFix p m c cc nL s args w_all own) (hK : kW_I dC dI cA s) (hP : va_P (dC, dI) classes (wI L cA ar sc) H) (hin : vp_in i 64) (hdg : decode cc pc = .ok (.iaload, 1)) (kk : W p l e R s m args below meth c H locs cells slots Q (F0 m (pc + 1) ls (.int (ar 27 i.toNatClampNeg) :: rest))) : W p l e R s m args below meth c H locs cells slots Q (F0 m pc ls (.int i :: .ref (L 27) :: rest)) :=
  va_iald hF.1 hF.2.1 hK.1 hP 27 21 rfl rfl hin hdg kk
theorem asI_27 {i x : Int32} (hF : CallFix p m c cc nL s args w_all own) (hK : kW_I dC dI cA s) (hP : va_P (dC, dI) classes (wI L cA ar sc) H) (hL : ij 38 L) (hS : va_S (aI L) H0 H locs) (hin : vp_in i 64) (hdg : decode cc pc = .ok (.iastore, 1)) (kk : ∀ (H1 : Heap) (locs1 : List Loc), va_P (dC, dI) classes (wI L cA (s2 ar 27 i.toNatClampNeg x) sc) H1 → va_S (aI L) H0 H1 locs1 → W p l e R s m args below meth c H1 locs1 cells slots Q (F0 m (pc + 1) ls rest)) : W p l e R s m args below meth c H locs cells slots Q (F0 m pc ls (.int x :: .int i :: .ref (L 27) :: rest)) :=
  va_iast hF.1 hF.2.1 hK.1 hP (wI_D hL) hS 27 21 rfl rfl hin hdg (fun H1 locs1 h1 _ h3 => kk H1 locs1 h1 h3)
theorem anI_27 (hF : CallFix p m c cc nL s args w_all own) (hK : kW_I dC dI cA s) (hP : va_P (dC, dI) classes (wI L cA ar sc) H) (hdg : decode cc pc = .ok (.arraylength, 1)) (kk : W p l e R s m args below meth c H locs cells slots Q (F0 m (pc + 1) ls (.int 64 :: rest))) : W p l e R s m args below meth c H locs cells slots Q (F0 m pc ls (.ref (L 27) :: rest)) :=
  va_alen (v := 64) hF.1 hF.2.1 hK.1 hP 27 21 rfl rfl rfl hdg kk
theorem alI_28 {i : Int32} (hF : CallFix p m c cc nL s args w_all own) (hK : kW_I dC dI cA s) (hP : va_P (dC, dI) classes (wI L cA ar sc) H) (hin : vp_in i 1024) (hdg : decode cc pc = .ok (.iaload, 1)) (kk : W p l e R s m args below meth c H locs cells slots Q (F0 m (pc + 1) ls (.int (ar 28 i.toNatClampNeg) :: rest))) : W p l e R s m args below meth c H locs cells slots Q (F0 m pc ls (.int i :: .ref (L 28) :: rest)) :=
  va_iald hF.1 hF.2.1 hK.1 hP 28 22 rfl rfl hin hdg kk
theorem asI_28 {i x : Int32} (hF : CallFix p m c cc nL s args w_all own) (hK : kW_I dC dI cA s) (hP : va_P (dC, dI) classes (wI L cA ar sc) H) (hL : ij 38 L) (hS : va_S (aI L) H0 H locs) (hin : vp_in i 1024) (hdg : decode cc pc = .ok (.iastore, 1)) (kk : ∀ (H1 : Heap) (locs1 : List Loc), va_P (dC, dI) classes (wI L cA (s2 ar 28 i.toNatClampNeg x) sc) H1 → va_S (aI L) H0 H1 locs1 → W p l e R s m args below meth c H1 locs1 cells slots Q (F0 m (pc + 1) ls rest)) : W p l e R s m args below meth c H locs cells slots Q (F0 m pc ls (.int x :: .int i :: .ref (L 28) :: rest)) :=
  va_iast hF.1 hF.2.1 hK.1 hP (wI_D hL) hS 28 22 rfl rfl hin hdg (fun H1 locs1 h1 _ h3 => kk H1 locs1 h1 h3)
theorem anI_28 (hF : CallFix p m c cc nL s args w_all own) (hK : kW_I dC dI cA s) (hP : va_P (dC, dI) classes (wI L cA ar sc) H) (hdg : decode cc pc = .ok (.arraylength, 1)) (kk : W p l e R s m args below meth c H locs cells slots Q (F0 m (pc + 1) ls (.int 1024 :: rest))) : W p l e R s m args below meth c H locs cells slots Q (F0 m pc ls (.ref (L 28) :: rest)) :=
  va_alen (v := 1024) hF.1 hF.2.1 hK.1 hP 28 22 rfl rfl rfl hdg kk
theorem alI_29 {i : Int32} (hF : CallFix p m c cc nL s args w_all own) (hK : kW_I dC dI cA s) (hP : va_P (dC, dI) classes (wI L cA ar sc) H) (hin : vp_in i 7) (hdg : decode cc pc = .ok (.iaload, 1)) (kk : W p l e R s m args below meth c H locs cells slots Q (F0 m (pc + 1) ls (.int (ar 29 i.toNatClampNeg) :: rest))) : W p l e R s m args below meth c H locs cells slots Q (F0 m pc ls (.int i :: .ref (L 29) :: rest)) :=
  va_iald hF.1 hF.2.1 hK.1 hP 29 23 rfl rfl hin hdg kk
theorem asI_29 {i x : Int32} (hF : CallFix p m c cc nL s args w_all own) (hK : kW_I dC dI cA s) (hP : va_P (dC, dI) classes (wI L cA ar sc) H) (hL : ij 38 L) (hS : va_S (aI L) H0 H locs) (hin : vp_in i 7) (hdg : decode cc pc = .ok (.iastore, 1)) (kk : ∀ (H1 : Heap) (locs1 : List Loc), va_P (dC, dI) classes (wI L cA (s2 ar 29 i.toNatClampNeg x) sc) H1 → va_S (aI L) H0 H1 locs1 → W p l e R s m args below meth c H1 locs1 cells slots Q (F0 m (pc + 1) ls rest)) : W p l e R s m args below meth c H locs cells slots Q (F0 m pc ls (.int x :: .int i :: .ref (L 29) :: rest)) :=
  va_iast hF.1 hF.2.1 hK.1 hP (wI_D hL) hS 29 23 rfl rfl hin hdg (fun H1 locs1 h1 _ h3 => kk H1 locs1 h1 h3)
theorem anI_29 (hF : CallFix p m c cc nL s args w_all own) (hK : kW_I dC dI cA s) (hP : va_P (dC, dI) classes (wI L cA ar sc) H) (hdg : decode cc pc = .ok (.arraylength, 1)) (kk : W p l e R s m args below meth c H locs cells slots Q (F0 m (pc + 1) ls (.int 7 :: rest))) : W p l e R s m args below meth c H locs cells slots Q (F0 m pc ls (.ref (L 29) :: rest)) :=
  va_alen (v := 7) hF.1 hF.2.1 hK.1 hP 29 23 rfl rfl rfl hdg kk
theorem gf_Permits_x1s (hF : CallFix p m c cc nL s args w_all own) (hK : kW_I dC dI cA s) (hP : va_P (dC, dI) classes (wI L cA ar sc) H) (hlink : Cond.fieldLink own idx "InspectRows$Permits" "x1s" "[I" ∈ w_all) (hdg : decode cc pc = .ok (.getfield idx, 3)) (kk : W p l e R s m args below meth c H locs cells slots Q (F0 m (pc + 3) ls (.ref (L 31) :: rest))) : W p l e R s m args below meth c H locs cells slots Q (F0 m pc ls (.ref (L 30) :: rest)) :=
  va_get (D := (dC, dI)) (ci := 6) (v := .ref (L 31)) (C := R_Permits) (T := F_Permits) (N := 15) hF.1 hF.2.1 hF.2.2.2.2 i_Permits hF.2.2.2.1 hK.1 hP 30 rfl rfl 0 (by decide) (hF.2.2.2.2 _ hlink) (fun _ h9 => h9) rfl hdg kk
theorem gn_Permits_x1s (hF : CallFix p m c cc nL s args w_all own) (hK : kW_I dC dI cA s) (hP : va_P (dC, dI) classes (wI L cA ar sc) H) (hlink : Cond.fieldLinkNest own idx "InspectRows$Permits" "x1s" "[I" "InspectRows" ∈ nw_all) (hdg : decode cc pc = .ok (.getfield idx, 3)) (kk : W p l e R s m args below meth c H locs cells slots Q (F0 m (pc + 3) ls (.ref (L 31) :: rest))) : W p l e R s m args below meth c H locs cells slots Q (F0 m pc ls (.ref (L 30) :: rest)) :=
  va_getN (D := (dC, dI)) (ci := 6) (v := .ref (L 31)) (C := R_Permits) (T := F_Permits) (N := 15) hF.1 hF.2.1 hF.2.2.2.2 i_Permits hF.2.2.2.1 hK.1 hP 30 rfl rfl 0 (by decide) (va_Nw.use rfl (hK.2 _ hlink)) (fun _ h9 => h9) rfl hdg kk
theorem gf_Permits_y1s (hF : CallFix p m c cc nL s args w_all own) (hK : kW_I dC dI cA s) (hP : va_P (dC, dI) classes (wI L cA ar sc) H) (hlink : Cond.fieldLink own idx "InspectRows$Permits" "y1s" "[I" ∈ w_all) (hdg : decode cc pc = .ok (.getfield idx, 3)) (kk : W p l e R s m args below meth c H locs cells slots Q (F0 m (pc + 3) ls (.ref (L 32) :: rest))) : W p l e R s m args below meth c H locs cells slots Q (F0 m pc ls (.ref (L 30) :: rest)) :=
  va_get (D := (dC, dI)) (ci := 6) (v := .ref (L 32)) (C := R_Permits) (T := F_Permits) (N := 15) hF.1 hF.2.1 hF.2.2.2.2 i_Permits hF.2.2.2.1 hK.1 hP 30 rfl rfl 1 (by decide) (hF.2.2.2.2 _ hlink) (fun _ h9 => h9) rfl hdg kk
theorem gn_Permits_y1s (hF : CallFix p m c cc nL s args w_all own) (hK : kW_I dC dI cA s) (hP : va_P (dC, dI) classes (wI L cA ar sc) H) (hlink : Cond.fieldLinkNest own idx "InspectRows$Permits" "y1s" "[I" "InspectRows" ∈ nw_all) (hdg : decode cc pc = .ok (.getfield idx, 3)) (kk : W p l e R s m args below meth c H locs cells slots Q (F0 m (pc + 3) ls (.ref (L 32) :: rest))) : W p l e R s m args below meth c H locs cells slots Q (F0 m pc ls (.ref (L 30) :: rest)) :=
  va_getN (D := (dC, dI)) (ci := 6) (v := .ref (L 32)) (C := R_Permits) (T := F_Permits) (N := 15) hF.1 hF.2.1 hF.2.2.2.2 i_Permits hF.2.2.2.1 hK.1 hP 30 rfl rfl 1 (by decide) (va_Nw.use rfl (hK.2 _ hlink)) (fun _ h9 => h9) rfl hdg kk
theorem gf_Permits_x2s (hF : CallFix p m c cc nL s args w_all own) (hK : kW_I dC dI cA s) (hP : va_P (dC, dI) classes (wI L cA ar sc) H) (hlink : Cond.fieldLink own idx "InspectRows$Permits" "x2s" "[I" ∈ w_all) (hdg : decode cc pc = .ok (.getfield idx, 3)) (kk : W p l e R s m args below meth c H locs cells slots Q (F0 m (pc + 3) ls (.ref (L 33) :: rest))) : W p l e R s m args below meth c H locs cells slots Q (F0 m pc ls (.ref (L 30) :: rest)) :=
  va_get (D := (dC, dI)) (ci := 6) (v := .ref (L 33)) (C := R_Permits) (T := F_Permits) (N := 15) hF.1 hF.2.1 hF.2.2.2.2 i_Permits hF.2.2.2.1 hK.1 hP 30 rfl rfl 2 (by decide) (hF.2.2.2.2 _ hlink) (fun _ h9 => h9) rfl hdg kk
theorem gn_Permits_x2s (hF : CallFix p m c cc nL s args w_all own) (hK : kW_I dC dI cA s) (hP : va_P (dC, dI) classes (wI L cA ar sc) H) (hlink : Cond.fieldLinkNest own idx "InspectRows$Permits" "x2s" "[I" "InspectRows" ∈ nw_all) (hdg : decode cc pc = .ok (.getfield idx, 3)) (kk : W p l e R s m args below meth c H locs cells slots Q (F0 m (pc + 3) ls (.ref (L 33) :: rest))) : W p l e R s m args below meth c H locs cells slots Q (F0 m pc ls (.ref (L 30) :: rest)) :=
  va_getN (D := (dC, dI)) (ci := 6) (v := .ref (L 33)) (C := R_Permits) (T := F_Permits) (N := 15) hF.1 hF.2.1 hF.2.2.2.2 i_Permits hF.2.2.2.1 hK.1 hP 30 rfl rfl 2 (by decide) (va_Nw.use rfl (hK.2 _ hlink)) (fun _ h9 => h9) rfl hdg kk
theorem gf_Permits_y2s (hF : CallFix p m c cc nL s args w_all own) (hK : kW_I dC dI cA s) (hP : va_P (dC, dI) classes (wI L cA ar sc) H) (hlink : Cond.fieldLink own idx "InspectRows$Permits" "y2s" "[I" ∈ w_all) (hdg : decode cc pc = .ok (.getfield idx, 3)) (kk : W p l e R s m args below meth c H locs cells slots Q (F0 m (pc + 3) ls (.ref (L 34) :: rest))) : W p l e R s m args below meth c H locs cells slots Q (F0 m pc ls (.ref (L 30) :: rest)) :=
  va_get (D := (dC, dI)) (ci := 6) (v := .ref (L 34)) (C := R_Permits) (T := F_Permits) (N := 15) hF.1 hF.2.1 hF.2.2.2.2 i_Permits hF.2.2.2.1 hK.1 hP 30 rfl rfl 3 (by decide) (hF.2.2.2.2 _ hlink) (fun _ h9 => h9) rfl hdg kk
theorem gn_Permits_y2s (hF : CallFix p m c cc nL s args w_all own) (hK : kW_I dC dI cA s) (hP : va_P (dC, dI) classes (wI L cA ar sc) H) (hlink : Cond.fieldLinkNest own idx "InspectRows$Permits" "y2s" "[I" "InspectRows" ∈ nw_all) (hdg : decode cc pc = .ok (.getfield idx, 3)) (kk : W p l e R s m args below meth c H locs cells slots Q (F0 m (pc + 3) ls (.ref (L 34) :: rest))) : W p l e R s m args below meth c H locs cells slots Q (F0 m pc ls (.ref (L 30) :: rest)) :=
  va_getN (D := (dC, dI)) (ci := 6) (v := .ref (L 34)) (C := R_Permits) (T := F_Permits) (N := 15) hF.1 hF.2.1 hF.2.2.2.2 i_Permits hF.2.2.2.1 hK.1 hP 30 rfl rfl 3 (by decide) (va_Nw.use rfl (hK.2 _ hlink)) (fun _ h9 => h9) rfl hdg kk
theorem gf_Permits_froms (hF : CallFix p m c cc nL s args w_all own) (hK : kW_I dC dI cA s) (hP : va_P (dC, dI) classes (wI L cA ar sc) H) (hlink : Cond.fieldLink own idx "InspectRows$Permits" "froms" "[I" ∈ w_all) (hdg : decode cc pc = .ok (.getfield idx, 3)) (kk : W p l e R s m args below meth c H locs cells slots Q (F0 m (pc + 3) ls (.ref (L 35) :: rest))) : W p l e R s m args below meth c H locs cells slots Q (F0 m pc ls (.ref (L 30) :: rest)) :=
  va_get (D := (dC, dI)) (ci := 6) (v := .ref (L 35)) (C := R_Permits) (T := F_Permits) (N := 15) hF.1 hF.2.1 hF.2.2.2.2 i_Permits hF.2.2.2.1 hK.1 hP 30 rfl rfl 4 (by decide) (hF.2.2.2.2 _ hlink) (fun _ h9 => h9) rfl hdg kk
theorem gn_Permits_froms (hF : CallFix p m c cc nL s args w_all own) (hK : kW_I dC dI cA s) (hP : va_P (dC, dI) classes (wI L cA ar sc) H) (hlink : Cond.fieldLinkNest own idx "InspectRows$Permits" "froms" "[I" "InspectRows" ∈ nw_all) (hdg : decode cc pc = .ok (.getfield idx, 3)) (kk : W p l e R s m args below meth c H locs cells slots Q (F0 m (pc + 3) ls (.ref (L 35) :: rest))) : W p l e R s m args below meth c H locs cells slots Q (F0 m pc ls (.ref (L 30) :: rest)) :=
  va_getN (D := (dC, dI)) (ci := 6) (v := .ref (L 35)) (C := R_Permits) (T := F_Permits) (N := 15) hF.1 hF.2.1 hF.2.2.2.2 i_Permits hF.2.2.2.1 hK.1 hP 30 rfl rfl 4 (by decide) (va_Nw.use rfl (hK.2 _ hlink)) (fun _ h9 => h9) rfl hdg kk
theorem gf_Permits_tos (hF : CallFix p m c cc nL s args w_all own) (hK : kW_I dC dI cA s) (hP : va_P (dC, dI) classes (wI L cA ar sc) H) (hlink : Cond.fieldLink own idx "InspectRows$Permits" "tos" "[I" ∈ w_all) (hdg : decode cc pc = .ok (.getfield idx, 3)) (kk : W p l e R s m args below meth c H locs cells slots Q (F0 m (pc + 3) ls (.ref (L 36) :: rest))) : W p l e R s m args below meth c H locs cells slots Q (F0 m pc ls (.ref (L 30) :: rest)) :=
  va_get (D := (dC, dI)) (ci := 6) (v := .ref (L 36)) (C := R_Permits) (T := F_Permits) (N := 15) hF.1 hF.2.1 hF.2.2.2.2 i_Permits hF.2.2.2.1 hK.1 hP 30 rfl rfl 5 (by decide) (hF.2.2.2.2 _ hlink) (fun _ h9 => h9) rfl hdg kk
theorem gn_Permits_tos (hF : CallFix p m c cc nL s args w_all own) (hK : kW_I dC dI cA s) (hP : va_P (dC, dI) classes (wI L cA ar sc) H) (hlink : Cond.fieldLinkNest own idx "InspectRows$Permits" "tos" "[I" "InspectRows" ∈ nw_all) (hdg : decode cc pc = .ok (.getfield idx, 3)) (kk : W p l e R s m args below meth c H locs cells slots Q (F0 m (pc + 3) ls (.ref (L 36) :: rest))) : W p l e R s m args below meth c H locs cells slots Q (F0 m pc ls (.ref (L 30) :: rest)) :=
  va_getN (D := (dC, dI)) (ci := 6) (v := .ref (L 36)) (C := R_Permits) (T := F_Permits) (N := 15) hF.1 hF.2.1 hF.2.2.2.2 i_Permits hF.2.2.2.1 hK.1 hP 30 rfl rfl 5 (by decide) (va_Nw.use rfl (hK.2 _ hlink)) (fun _ h9 => h9) rfl hdg kk
theorem gf_Permits_count (hF : CallFix p m c cc nL s args w_all own) (hK : kW_I dC dI cA s) (hP : va_P (dC, dI) classes (wI L cA ar sc) H) (hlink : Cond.fieldLink own idx "InspectRows$Permits" "count" "I" ∈ w_all) (hdg : decode cc pc = .ok (.getfield idx, 3)) (kk : W p l e R s m args below meth c H locs cells slots Q (F0 m (pc + 3) ls (.int (sc 5) :: rest))) : W p l e R s m args below meth c H locs cells slots Q (F0 m pc ls (.ref (L 30) :: rest)) :=
  va_get (D := (dC, dI)) (ci := 6) (v := .int (sc 5)) (C := R_Permits) (T := F_Permits) (N := 15) hF.1 hF.2.1 hF.2.2.2.2 i_Permits hF.2.2.2.1 hK.1 hP 30 rfl rfl 6 (by decide) (hF.2.2.2.2 _ hlink) (fun _ h9 => h9) rfl hdg kk
theorem pf_Permits_count {x : Int32} (hF : CallFix p m c cc nL s args w_all own) (hK : kW_I dC dI cA s) (hP : va_P (dC, dI) classes (wI L cA ar sc) H) (hL : ij 38 L) (hS : va_S (aI L) H0 H locs) (hlink : Cond.fieldLink own idx "InspectRows$Permits" "count" "I" ∈ w_all) (hdg : decode cc pc = .ok (.putfield idx, 3)) (kk : ∀ (H1 : Heap) (locs1 : List Loc), va_P (dC, dI) classes (wI L cA ar (sg sc 5 x)) H1 → va_S (aI L) H0 H1 locs1 → W p l e R s m args below meth c H1 locs1 cells slots Q (F0 m (pc + 3) ls rest)) : W p l e R s m args below meth c H locs cells slots Q (F0 m pc ls (.int x :: .ref (L 30) :: rest)) :=
  va_put (D := (dC, dI)) (ci := 6) (v := .int x) (ty := .int) (C := R_Permits) (T := F_Permits) (N := 15) hF.1 hF.2.1 hF.2.2.2.2 i_Permits t_Permits t_Permits_ok n_Permits hF.2.2.2.1 hK.1 hP (wI_D hL) hS 30 rfl rfl 6 (by decide) (hF.2.2.2.2 _ hlink) (fun _ h9 => h9) rfl (by decide +kernel) rfl rfl (Nat.le_of_ble_eq_true rfl) hdg (fun H1 locs1 h1 _ h3 => kk H1 locs1 h1 h3)
theorem gn_Permits_count (hF : CallFix p m c cc nL s args w_all own) (hK : kW_I dC dI cA s) (hP : va_P (dC, dI) classes (wI L cA ar sc) H) (hlink : Cond.fieldLinkNest own idx "InspectRows$Permits" "count" "I" "InspectRows" ∈ nw_all) (hdg : decode cc pc = .ok (.getfield idx, 3)) (kk : W p l e R s m args below meth c H locs cells slots Q (F0 m (pc + 3) ls (.int (sc 5) :: rest))) : W p l e R s m args below meth c H locs cells slots Q (F0 m pc ls (.ref (L 30) :: rest)) :=
  va_getN (D := (dC, dI)) (ci := 6) (v := .int (sc 5)) (C := R_Permits) (T := F_Permits) (N := 15) hF.1 hF.2.1 hF.2.2.2.2 i_Permits hF.2.2.2.1 hK.1 hP 30 rfl rfl 6 (by decide) (va_Nw.use rfl (hK.2 _ hlink)) (fun _ h9 => h9) rfl hdg kk
theorem pn_Permits_count {x : Int32} (hF : CallFix p m c cc nL s args w_all own) (hK : kW_I dC dI cA s) (hP : va_P (dC, dI) classes (wI L cA ar sc) H) (hL : ij 38 L) (hS : va_S (aI L) H0 H locs) (hlink : Cond.fieldLinkNest own idx "InspectRows$Permits" "count" "I" "InspectRows" ∈ nw_all) (hdg : decode cc pc = .ok (.putfield idx, 3)) (kk : ∀ (H1 : Heap) (locs1 : List Loc), va_P (dC, dI) classes (wI L cA ar (sg sc 5 x)) H1 → va_S (aI L) H0 H1 locs1 → W p l e R s m args below meth c H1 locs1 cells slots Q (F0 m (pc + 3) ls rest)) : W p l e R s m args below meth c H locs cells slots Q (F0 m pc ls (.int x :: .ref (L 30) :: rest)) :=
  va_putN (D := (dC, dI)) (ci := 6) (v := .int x) (ty := .int) (C := R_Permits) (T := F_Permits) (N := 15) hF.1 hF.2.1 hF.2.2.2.2 i_Permits t_Permits t_Permits_ok n_Permits hF.2.2.2.1 hK.1 hP (wI_D hL) hS 30 rfl rfl 6 (by decide) (va_Nw.use rfl (hK.2 _ hlink)) (fun _ h9 => h9) rfl (by decide +kernel) rfl rfl (Nat.le_of_ble_eq_true rfl) hdg (fun H1 locs1 h1 _ h3 => kk H1 locs1 h1 h3)
theorem gf_Permits_groundTold (hF : CallFix p m c cc nL s args w_all own) (hK : kW_I dC dI cA s) (hP : va_P (dC, dI) classes (wI L cA ar sc) H) (hlink : Cond.fieldLink own idx "InspectRows$Permits" "groundTold" "Z" ∈ w_all) (hdg : decode cc pc = .ok (.getfield idx, 3)) (kk : W p l e R s m args below meth c H locs cells slots Q (F0 m (pc + 3) ls (.int (sc 6) :: rest))) : W p l e R s m args below meth c H locs cells slots Q (F0 m pc ls (.ref (L 30) :: rest)) :=
  va_get (D := (dC, dI)) (ci := 6) (v := .int (sc 6)) (C := R_Permits) (T := F_Permits) (N := 15) hF.1 hF.2.1 hF.2.2.2.2 i_Permits hF.2.2.2.1 hK.1 hP 30 rfl rfl 7 (by decide) (hF.2.2.2.2 _ hlink) (fun _ h9 => h9) rfl hdg kk
theorem pf_Permits_groundTold {x : Int32} (hF : CallFix p m c cc nL s args w_all own) (hK : kW_I dC dI cA s) (hP : va_P (dC, dI) classes (wI L cA ar sc) H) (hL : ij 38 L) (hS : va_S (aI L) H0 H locs) (hn : narrow .boolean (.int x) = .int x) (hft : fits .boolean (.int x) = true) (hlink : Cond.fieldLink own idx "InspectRows$Permits" "groundTold" "Z" ∈ w_all) (hdg : decode cc pc = .ok (.putfield idx, 3)) (kk : ∀ (H1 : Heap) (locs1 : List Loc), va_P (dC, dI) classes (wI L cA ar (sg sc 6 x)) H1 → va_S (aI L) H0 H1 locs1 → W p l e R s m args below meth c H1 locs1 cells slots Q (F0 m (pc + 3) ls rest)) : W p l e R s m args below meth c H locs cells slots Q (F0 m pc ls (.int x :: .ref (L 30) :: rest)) :=
  va_put (D := (dC, dI)) (ci := 6) (v := .int x) (ty := .boolean) (C := R_Permits) (T := F_Permits) (N := 15) hF.1 hF.2.1 hF.2.2.2.2 i_Permits t_Permits t_Permits_ok n_Permits hF.2.2.2.1 hK.1 hP (wI_D hL) hS 30 rfl rfl 7 (by decide) (hF.2.2.2.2 _ hlink) (fun _ h9 => h9) rfl (by decide +kernel) hn hft (Nat.le_of_ble_eq_true rfl) hdg (fun H1 locs1 h1 _ h3 => kk H1 locs1 h1 h3)
theorem gn_Permits_groundTold (hF : CallFix p m c cc nL s args w_all own) (hK : kW_I dC dI cA s) (hP : va_P (dC, dI) classes (wI L cA ar sc) H) (hlink : Cond.fieldLinkNest own idx "InspectRows$Permits" "groundTold" "Z" "InspectRows" ∈ nw_all) (hdg : decode cc pc = .ok (.getfield idx, 3)) (kk : W p l e R s m args below meth c H locs cells slots Q (F0 m (pc + 3) ls (.int (sc 6) :: rest))) : W p l e R s m args below meth c H locs cells slots Q (F0 m pc ls (.ref (L 30) :: rest)) :=
  va_getN (D := (dC, dI)) (ci := 6) (v := .int (sc 6)) (C := R_Permits) (T := F_Permits) (N := 15) hF.1 hF.2.1 hF.2.2.2.2 i_Permits hF.2.2.2.1 hK.1 hP 30 rfl rfl 7 (by decide) (va_Nw.use rfl (hK.2 _ hlink)) (fun _ h9 => h9) rfl hdg kk
theorem pn_Permits_groundTold {x : Int32} (hF : CallFix p m c cc nL s args w_all own) (hK : kW_I dC dI cA s) (hP : va_P (dC, dI) classes (wI L cA ar sc) H) (hL : ij 38 L) (hS : va_S (aI L) H0 H locs) (hn : narrow .boolean (.int x) = .int x) (hft : fits .boolean (.int x) = true) (hlink : Cond.fieldLinkNest own idx "InspectRows$Permits" "groundTold" "Z" "InspectRows" ∈ nw_all) (hdg : decode cc pc = .ok (.putfield idx, 3)) (kk : ∀ (H1 : Heap) (locs1 : List Loc), va_P (dC, dI) classes (wI L cA ar (sg sc 6 x)) H1 → va_S (aI L) H0 H1 locs1 → W p l e R s m args below meth c H1 locs1 cells slots Q (F0 m (pc + 3) ls rest)) : W p l e R s m args below meth c H locs cells slots Q (F0 m pc ls (.int x :: .ref (L 30) :: rest)) :=
  va_putN (D := (dC, dI)) (ci := 6) (v := .int x) (ty := .boolean) (C := R_Permits) (T := F_Permits) (N := 15) hF.1 hF.2.1 hF.2.2.2.2 i_Permits t_Permits t_Permits_ok n_Permits hF.2.2.2.1 hK.1 hP (wI_D hL) hS 30 rfl rfl 7 (by decide) (va_Nw.use rfl (hK.2 _ hlink)) (fun _ h9 => h9) rfl (by decide +kernel) hn hft (Nat.le_of_ble_eq_true rfl) hdg (fun H1 locs1 h1 _ h3 => kk H1 locs1 h1 h3)
theorem gf_Permits_groundX1 (hF : CallFix p m c cc nL s args w_all own) (hK : kW_I dC dI cA s) (hP : va_P (dC, dI) classes (wI L cA ar sc) H) (hlink : Cond.fieldLink own idx "InspectRows$Permits" "groundX1" "I" ∈ w_all) (hdg : decode cc pc = .ok (.getfield idx, 3)) (kk : W p l e R s m args below meth c H locs cells slots Q (F0 m (pc + 3) ls (.int (sc 7) :: rest))) : W p l e R s m args below meth c H locs cells slots Q (F0 m pc ls (.ref (L 30) :: rest)) :=
  va_get (D := (dC, dI)) (ci := 6) (v := .int (sc 7)) (C := R_Permits) (T := F_Permits) (N := 15) hF.1 hF.2.1 hF.2.2.2.2 i_Permits hF.2.2.2.1 hK.1 hP 30 rfl rfl 8 (by decide) (hF.2.2.2.2 _ hlink) (fun _ h9 => h9) rfl hdg kk
theorem pf_Permits_groundX1 {x : Int32} (hF : CallFix p m c cc nL s args w_all own) (hK : kW_I dC dI cA s) (hP : va_P (dC, dI) classes (wI L cA ar sc) H) (hL : ij 38 L) (hS : va_S (aI L) H0 H locs) (hlink : Cond.fieldLink own idx "InspectRows$Permits" "groundX1" "I" ∈ w_all) (hdg : decode cc pc = .ok (.putfield idx, 3)) (kk : ∀ (H1 : Heap) (locs1 : List Loc), va_P (dC, dI) classes (wI L cA ar (sg sc 7 x)) H1 → va_S (aI L) H0 H1 locs1 → W p l e R s m args below meth c H1 locs1 cells slots Q (F0 m (pc + 3) ls rest)) : W p l e R s m args below meth c H locs cells slots Q (F0 m pc ls (.int x :: .ref (L 30) :: rest)) :=
  va_put (D := (dC, dI)) (ci := 6) (v := .int x) (ty := .int) (C := R_Permits) (T := F_Permits) (N := 15) hF.1 hF.2.1 hF.2.2.2.2 i_Permits t_Permits t_Permits_ok n_Permits hF.2.2.2.1 hK.1 hP (wI_D hL) hS 30 rfl rfl 8 (by decide) (hF.2.2.2.2 _ hlink) (fun _ h9 => h9) rfl (by decide +kernel) rfl rfl (Nat.le_of_ble_eq_true rfl) hdg (fun H1 locs1 h1 _ h3 => kk H1 locs1 h1 h3)
theorem gn_Permits_groundX1 (hF : CallFix p m c cc nL s args w_all own) (hK : kW_I dC dI cA s) (hP : va_P (dC, dI) classes (wI L cA ar sc) H) (hlink : Cond.fieldLinkNest own idx "InspectRows$Permits" "groundX1" "I" "InspectRows" ∈ nw_all) (hdg : decode cc pc = .ok (.getfield idx, 3)) (kk : W p l e R s m args below meth c H locs cells slots Q (F0 m (pc + 3) ls (.int (sc 7) :: rest))) : W p l e R s m args below meth c H locs cells slots Q (F0 m pc ls (.ref (L 30) :: rest)) :=
  va_getN (D := (dC, dI)) (ci := 6) (v := .int (sc 7)) (C := R_Permits) (T := F_Permits) (N := 15) hF.1 hF.2.1 hF.2.2.2.2 i_Permits hF.2.2.2.1 hK.1 hP 30 rfl rfl 8 (by decide) (va_Nw.use rfl (hK.2 _ hlink)) (fun _ h9 => h9) rfl hdg kk
theorem pn_Permits_groundX1 {x : Int32} (hF : CallFix p m c cc nL s args w_all own) (hK : kW_I dC dI cA s) (hP : va_P (dC, dI) classes (wI L cA ar sc) H) (hL : ij 38 L) (hS : va_S (aI L) H0 H locs) (hlink : Cond.fieldLinkNest own idx "InspectRows$Permits" "groundX1" "I" "InspectRows" ∈ nw_all) (hdg : decode cc pc = .ok (.putfield idx, 3)) (kk : ∀ (H1 : Heap) (locs1 : List Loc), va_P (dC, dI) classes (wI L cA ar (sg sc 7 x)) H1 → va_S (aI L) H0 H1 locs1 → W p l e R s m args below meth c H1 locs1 cells slots Q (F0 m (pc + 3) ls rest)) : W p l e R s m args below meth c H locs cells slots Q (F0 m pc ls (.int x :: .ref (L 30) :: rest)) :=
  va_putN (D := (dC, dI)) (ci := 6) (v := .int x) (ty := .int) (C := R_Permits) (T := F_Permits) (N := 15) hF.1 hF.2.1 hF.2.2.2.2 i_Permits t_Permits t_Permits_ok n_Permits hF.2.2.2.1 hK.1 hP (wI_D hL) hS 30 rfl rfl 8 (by decide) (va_Nw.use rfl (hK.2 _ hlink)) (fun _ h9 => h9) rfl (by decide +kernel) rfl rfl (Nat.le_of_ble_eq_true rfl) hdg (fun H1 locs1 h1 _ h3 => kk H1 locs1 h1 h3)
theorem gf_Permits_groundY1 (hF : CallFix p m c cc nL s args w_all own) (hK : kW_I dC dI cA s) (hP : va_P (dC, dI) classes (wI L cA ar sc) H) (hlink : Cond.fieldLink own idx "InspectRows$Permits" "groundY1" "I" ∈ w_all) (hdg : decode cc pc = .ok (.getfield idx, 3)) (kk : W p l e R s m args below meth c H locs cells slots Q (F0 m (pc + 3) ls (.int (sc 8) :: rest))) : W p l e R s m args below meth c H locs cells slots Q (F0 m pc ls (.ref (L 30) :: rest)) :=
  va_get (D := (dC, dI)) (ci := 6) (v := .int (sc 8)) (C := R_Permits) (T := F_Permits) (N := 15) hF.1 hF.2.1 hF.2.2.2.2 i_Permits hF.2.2.2.1 hK.1 hP 30 rfl rfl 9 (by decide) (hF.2.2.2.2 _ hlink) (fun _ h9 => h9) rfl hdg kk
theorem pf_Permits_groundY1 {x : Int32} (hF : CallFix p m c cc nL s args w_all own) (hK : kW_I dC dI cA s) (hP : va_P (dC, dI) classes (wI L cA ar sc) H) (hL : ij 38 L) (hS : va_S (aI L) H0 H locs) (hlink : Cond.fieldLink own idx "InspectRows$Permits" "groundY1" "I" ∈ w_all) (hdg : decode cc pc = .ok (.putfield idx, 3)) (kk : ∀ (H1 : Heap) (locs1 : List Loc), va_P (dC, dI) classes (wI L cA ar (sg sc 8 x)) H1 → va_S (aI L) H0 H1 locs1 → W p l e R s m args below meth c H1 locs1 cells slots Q (F0 m (pc + 3) ls rest)) : W p l e R s m args below meth c H locs cells slots Q (F0 m pc ls (.int x :: .ref (L 30) :: rest)) :=
  va_put (D := (dC, dI)) (ci := 6) (v := .int x) (ty := .int) (C := R_Permits) (T := F_Permits) (N := 15) hF.1 hF.2.1 hF.2.2.2.2 i_Permits t_Permits t_Permits_ok n_Permits hF.2.2.2.1 hK.1 hP (wI_D hL) hS 30 rfl rfl 9 (by decide) (hF.2.2.2.2 _ hlink) (fun _ h9 => h9) rfl (by decide +kernel) rfl rfl (Nat.le_of_ble_eq_true rfl) hdg (fun H1 locs1 h1 _ h3 => kk H1 locs1 h1 h3)
theorem gn_Permits_groundY1 (hF : CallFix p m c cc nL s args w_all own) (hK : kW_I dC dI cA s) (hP : va_P (dC, dI) classes (wI L cA ar sc) H) (hlink : Cond.fieldLinkNest own idx "InspectRows$Permits" "groundY1" "I" "InspectRows" ∈ nw_all) (hdg : decode cc pc = .ok (.getfield idx, 3)) (kk : W p l e R s m args below meth c H locs cells slots Q (F0 m (pc + 3) ls (.int (sc 8) :: rest))) : W p l e R s m args below meth c H locs cells slots Q (F0 m pc ls (.ref (L 30) :: rest)) :=
  va_getN (D := (dC, dI)) (ci := 6) (v := .int (sc 8)) (C := R_Permits) (T := F_Permits) (N := 15) hF.1 hF.2.1 hF.2.2.2.2 i_Permits hF.2.2.2.1 hK.1 hP 30 rfl rfl 9 (by decide) (va_Nw.use rfl (hK.2 _ hlink)) (fun _ h9 => h9) rfl hdg kk
theorem pn_Permits_groundY1 {x : Int32} (hF : CallFix p m c cc nL s args w_all own) (hK : kW_I dC dI cA s) (hP : va_P (dC, dI) classes (wI L cA ar sc) H) (hL : ij 38 L) (hS : va_S (aI L) H0 H locs) (hlink : Cond.fieldLinkNest own idx "InspectRows$Permits" "groundY1" "I" "InspectRows" ∈ nw_all) (hdg : decode cc pc = .ok (.putfield idx, 3)) (kk : ∀ (H1 : Heap) (locs1 : List Loc), va_P (dC, dI) classes (wI L cA ar (sg sc 8 x)) H1 → va_S (aI L) H0 H1 locs1 → W p l e R s m args below meth c H1 locs1 cells slots Q (F0 m (pc + 3) ls rest)) : W p l e R s m args below meth c H locs cells slots Q (F0 m pc ls (.int x :: .ref (L 30) :: rest)) :=
  va_putN (D := (dC, dI)) (ci := 6) (v := .int x) (ty := .int) (C := R_Permits) (T := F_Permits) (N := 15) hF.1 hF.2.1 hF.2.2.2.2 i_Permits t_Permits t_Permits_ok n_Permits hF.2.2.2.1 hK.1 hP (wI_D hL) hS 30 rfl rfl 9 (by decide) (va_Nw.use rfl (hK.2 _ hlink)) (fun _ h9 => h9) rfl (by decide +kernel) rfl rfl (Nat.le_of_ble_eq_true rfl) hdg (fun H1 locs1 h1 _ h3 => kk H1 locs1 h1 h3)
theorem gf_Permits_groundX2 (hF : CallFix p m c cc nL s args w_all own) (hK : kW_I dC dI cA s) (hP : va_P (dC, dI) classes (wI L cA ar sc) H) (hlink : Cond.fieldLink own idx "InspectRows$Permits" "groundX2" "I" ∈ w_all) (hdg : decode cc pc = .ok (.getfield idx, 3)) (kk : W p l e R s m args below meth c H locs cells slots Q (F0 m (pc + 3) ls (.int (sc 9) :: rest))) : W p l e R s m args below meth c H locs cells slots Q (F0 m pc ls (.ref (L 30) :: rest)) :=
  va_get (D := (dC, dI)) (ci := 6) (v := .int (sc 9)) (C := R_Permits) (T := F_Permits) (N := 15) hF.1 hF.2.1 hF.2.2.2.2 i_Permits hF.2.2.2.1 hK.1 hP 30 rfl rfl 10 (by decide) (hF.2.2.2.2 _ hlink) (fun _ h9 => h9) rfl hdg kk
theorem pf_Permits_groundX2 {x : Int32} (hF : CallFix p m c cc nL s args w_all own) (hK : kW_I dC dI cA s) (hP : va_P (dC, dI) classes (wI L cA ar sc) H) (hL : ij 38 L) (hS : va_S (aI L) H0 H locs) (hlink : Cond.fieldLink own idx "InspectRows$Permits" "groundX2" "I" ∈ w_all) (hdg : decode cc pc = .ok (.putfield idx, 3)) (kk : ∀ (H1 : Heap) (locs1 : List Loc), va_P (dC, dI) classes (wI L cA ar (sg sc 9 x)) H1 → va_S (aI L) H0 H1 locs1 → W p l e R s m args below meth c H1 locs1 cells slots Q (F0 m (pc + 3) ls rest)) : W p l e R s m args below meth c H locs cells slots Q (F0 m pc ls (.int x :: .ref (L 30) :: rest)) :=
  va_put (D := (dC, dI)) (ci := 6) (v := .int x) (ty := .int) (C := R_Permits) (T := F_Permits) (N := 15) hF.1 hF.2.1 hF.2.2.2.2 i_Permits t_Permits t_Permits_ok n_Permits hF.2.2.2.1 hK.1 hP (wI_D hL) hS 30 rfl rfl 10 (by decide) (hF.2.2.2.2 _ hlink) (fun _ h9 => h9) rfl (by decide +kernel) rfl rfl (Nat.le_of_ble_eq_true rfl) hdg (fun H1 locs1 h1 _ h3 => kk H1 locs1 h1 h3)
theorem gn_Permits_groundX2 (hF : CallFix p m c cc nL s args w_all own) (hK : kW_I dC dI cA s) (hP : va_P (dC, dI) classes (wI L cA ar sc) H) (hlink : Cond.fieldLinkNest own idx "InspectRows$Permits" "groundX2" "I" "InspectRows" ∈ nw_all) (hdg : decode cc pc = .ok (.getfield idx, 3)) (kk : W p l e R s m args below meth c H locs cells slots Q (F0 m (pc + 3) ls (.int (sc 9) :: rest))) : W p l e R s m args below meth c H locs cells slots Q (F0 m pc ls (.ref (L 30) :: rest)) :=
  va_getN (D := (dC, dI)) (ci := 6) (v := .int (sc 9)) (C := R_Permits) (T := F_Permits) (N := 15) hF.1 hF.2.1 hF.2.2.2.2 i_Permits hF.2.2.2.1 hK.1 hP 30 rfl rfl 10 (by decide) (va_Nw.use rfl (hK.2 _ hlink)) (fun _ h9 => h9) rfl hdg kk
theorem pn_Permits_groundX2 {x : Int32} (hF : CallFix p m c cc nL s args w_all own) (hK : kW_I dC dI cA s) (hP : va_P (dC, dI) classes (wI L cA ar sc) H) (hL : ij 38 L) (hS : va_S (aI L) H0 H locs) (hlink : Cond.fieldLinkNest own idx "InspectRows$Permits" "groundX2" "I" "InspectRows" ∈ nw_all) (hdg : decode cc pc = .ok (.putfield idx, 3)) (kk : ∀ (H1 : Heap) (locs1 : List Loc), va_P (dC, dI) classes (wI L cA ar (sg sc 9 x)) H1 → va_S (aI L) H0 H1 locs1 → W p l e R s m args below meth c H1 locs1 cells slots Q (F0 m (pc + 3) ls rest)) : W p l e R s m args below meth c H locs cells slots Q (F0 m pc ls (.int x :: .ref (L 30) :: rest)) :=
  va_putN (D := (dC, dI)) (ci := 6) (v := .int x) (ty := .int) (C := R_Permits) (T := F_Permits) (N := 15) hF.1 hF.2.1 hF.2.2.2.2 i_Permits t_Permits t_Permits_ok n_Permits hF.2.2.2.1 hK.1 hP (wI_D hL) hS 30 rfl rfl 10 (by decide) (va_Nw.use rfl (hK.2 _ hlink)) (fun _ h9 => h9) rfl (by decide +kernel) rfl rfl (Nat.le_of_ble_eq_true rfl) hdg (fun H1 locs1 h1 _ h3 => kk H1 locs1 h1 h3)
theorem gf_Permits_groundY2 (hF : CallFix p m c cc nL s args w_all own) (hK : kW_I dC dI cA s) (hP : va_P (dC, dI) classes (wI L cA ar sc) H) (hlink : Cond.fieldLink own idx "InspectRows$Permits" "groundY2" "I" ∈ w_all) (hdg : decode cc pc = .ok (.getfield idx, 3)) (kk : W p l e R s m args below meth c H locs cells slots Q (F0 m (pc + 3) ls (.int (sc 10) :: rest))) : W p l e R s m args below meth c H locs cells slots Q (F0 m pc ls (.ref (L 30) :: rest)) :=
  va_get (D := (dC, dI)) (ci := 6) (v := .int (sc 10)) (C := R_Permits) (T := F_Permits) (N := 15) hF.1 hF.2.1 hF.2.2.2.2 i_Permits hF.2.2.2.1 hK.1 hP 30 rfl rfl 11 (by decide) (hF.2.2.2.2 _ hlink) (fun _ h9 => h9) rfl hdg kk
theorem pf_Permits_groundY2 {x : Int32} (hF : CallFix p m c cc nL s args w_all own) (hK : kW_I dC dI cA s) (hP : va_P (dC, dI) classes (wI L cA ar sc) H) (hL : ij 38 L) (hS : va_S (aI L) H0 H locs) (hlink : Cond.fieldLink own idx "InspectRows$Permits" "groundY2" "I" ∈ w_all) (hdg : decode cc pc = .ok (.putfield idx, 3)) (kk : ∀ (H1 : Heap) (locs1 : List Loc), va_P (dC, dI) classes (wI L cA ar (sg sc 10 x)) H1 → va_S (aI L) H0 H1 locs1 → W p l e R s m args below meth c H1 locs1 cells slots Q (F0 m (pc + 3) ls rest)) : W p l e R s m args below meth c H locs cells slots Q (F0 m pc ls (.int x :: .ref (L 30) :: rest)) :=
  va_put (D := (dC, dI)) (ci := 6) (v := .int x) (ty := .int) (C := R_Permits) (T := F_Permits) (N := 15) hF.1 hF.2.1 hF.2.2.2.2 i_Permits t_Permits t_Permits_ok n_Permits hF.2.2.2.1 hK.1 hP (wI_D hL) hS 30 rfl rfl 11 (by decide) (hF.2.2.2.2 _ hlink) (fun _ h9 => h9) rfl (by decide +kernel) rfl rfl (Nat.le_of_ble_eq_true rfl) hdg (fun H1 locs1 h1 _ h3 => kk H1 locs1 h1 h3)
theorem gn_Permits_groundY2 (hF : CallFix p m c cc nL s args w_all own) (hK : kW_I dC dI cA s) (hP : va_P (dC, dI) classes (wI L cA ar sc) H) (hlink : Cond.fieldLinkNest own idx "InspectRows$Permits" "groundY2" "I" "InspectRows" ∈ nw_all) (hdg : decode cc pc = .ok (.getfield idx, 3)) (kk : W p l e R s m args below meth c H locs cells slots Q (F0 m (pc + 3) ls (.int (sc 10) :: rest))) : W p l e R s m args below meth c H locs cells slots Q (F0 m pc ls (.ref (L 30) :: rest)) :=
  va_getN (D := (dC, dI)) (ci := 6) (v := .int (sc 10)) (C := R_Permits) (T := F_Permits) (N := 15) hF.1 hF.2.1 hF.2.2.2.2 i_Permits hF.2.2.2.1 hK.1 hP 30 rfl rfl 11 (by decide) (va_Nw.use rfl (hK.2 _ hlink)) (fun _ h9 => h9) rfl hdg kk
theorem pn_Permits_groundY2 {x : Int32} (hF : CallFix p m c cc nL s args w_all own) (hK : kW_I dC dI cA s) (hP : va_P (dC, dI) classes (wI L cA ar sc) H) (hL : ij 38 L) (hS : va_S (aI L) H0 H locs) (hlink : Cond.fieldLinkNest own idx "InspectRows$Permits" "groundY2" "I" "InspectRows" ∈ nw_all) (hdg : decode cc pc = .ok (.putfield idx, 3)) (kk : ∀ (H1 : Heap) (locs1 : List Loc), va_P (dC, dI) classes (wI L cA ar (sg sc 10 x)) H1 → va_S (aI L) H0 H1 locs1 → W p l e R s m args below meth c H1 locs1 cells slots Q (F0 m (pc + 3) ls rest)) : W p l e R s m args below meth c H locs cells slots Q (F0 m pc ls (.int x :: .ref (L 30) :: rest)) :=
  va_putN (D := (dC, dI)) (ci := 6) (v := .int x) (ty := .int) (C := R_Permits) (T := F_Permits) (N := 15) hF.1 hF.2.1 hF.2.2.2.2 i_Permits t_Permits t_Permits_ok n_Permits hF.2.2.2.1 hK.1 hP (wI_D hL) hS 30 rfl rfl 11 (by decide) (va_Nw.use rfl (hK.2 _ hlink)) (fun _ h9 => h9) rfl (by decide +kernel) rfl rfl (Nat.le_of_ble_eq_true rfl) hdg (fun H1 locs1 h1 _ h3 => kk H1 locs1 h1 h3)
theorem gf_Permits_space (hF : CallFix p m c cc nL s args w_all own) (hK : kW_I dC dI cA s) (hP : va_P (dC, dI) classes (wI L cA ar sc) H) (hlink : Cond.fieldLink own idx "InspectRows$Permits" "space" "I" ∈ w_all) (hdg : decode cc pc = .ok (.getfield idx, 3)) (kk : W p l e R s m args below meth c H locs cells slots Q (F0 m (pc + 3) ls (.int (sc 11) :: rest))) : W p l e R s m args below meth c H locs cells slots Q (F0 m pc ls (.ref (L 30) :: rest)) :=
  va_get (D := (dC, dI)) (ci := 6) (v := .int (sc 11)) (C := R_Permits) (T := F_Permits) (N := 15) hF.1 hF.2.1 hF.2.2.2.2 i_Permits hF.2.2.2.1 hK.1 hP 30 rfl rfl 12 (by decide) (hF.2.2.2.2 _ hlink) (fun _ h9 => h9) rfl hdg kk
theorem pf_Permits_space {x : Int32} (hF : CallFix p m c cc nL s args w_all own) (hK : kW_I dC dI cA s) (hP : va_P (dC, dI) classes (wI L cA ar sc) H) (hL : ij 38 L) (hS : va_S (aI L) H0 H locs) (hlink : Cond.fieldLink own idx "InspectRows$Permits" "space" "I" ∈ w_all) (hdg : decode cc pc = .ok (.putfield idx, 3)) (kk : ∀ (H1 : Heap) (locs1 : List Loc), va_P (dC, dI) classes (wI L cA ar (sg sc 11 x)) H1 → va_S (aI L) H0 H1 locs1 → W p l e R s m args below meth c H1 locs1 cells slots Q (F0 m (pc + 3) ls rest)) : W p l e R s m args below meth c H locs cells slots Q (F0 m pc ls (.int x :: .ref (L 30) :: rest)) :=
  va_put (D := (dC, dI)) (ci := 6) (v := .int x) (ty := .int) (C := R_Permits) (T := F_Permits) (N := 15) hF.1 hF.2.1 hF.2.2.2.2 i_Permits t_Permits t_Permits_ok n_Permits hF.2.2.2.1 hK.1 hP (wI_D hL) hS 30 rfl rfl 12 (by decide) (hF.2.2.2.2 _ hlink) (fun _ h9 => h9) rfl (by decide +kernel) rfl rfl (Nat.le_of_ble_eq_true rfl) hdg (fun H1 locs1 h1 _ h3 => kk H1 locs1 h1 h3)
theorem gn_Permits_space (hF : CallFix p m c cc nL s args w_all own) (hK : kW_I dC dI cA s) (hP : va_P (dC, dI) classes (wI L cA ar sc) H) (hlink : Cond.fieldLinkNest own idx "InspectRows$Permits" "space" "I" "InspectRows" ∈ nw_all) (hdg : decode cc pc = .ok (.getfield idx, 3)) (kk : W p l e R s m args below meth c H locs cells slots Q (F0 m (pc + 3) ls (.int (sc 11) :: rest))) : W p l e R s m args below meth c H locs cells slots Q (F0 m pc ls (.ref (L 30) :: rest)) :=
  va_getN (D := (dC, dI)) (ci := 6) (v := .int (sc 11)) (C := R_Permits) (T := F_Permits) (N := 15) hF.1 hF.2.1 hF.2.2.2.2 i_Permits hF.2.2.2.1 hK.1 hP 30 rfl rfl 12 (by decide) (va_Nw.use rfl (hK.2 _ hlink)) (fun _ h9 => h9) rfl hdg kk
theorem pn_Permits_space {x : Int32} (hF : CallFix p m c cc nL s args w_all own) (hK : kW_I dC dI cA s) (hP : va_P (dC, dI) classes (wI L cA ar sc) H) (hL : ij 38 L) (hS : va_S (aI L) H0 H locs) (hlink : Cond.fieldLinkNest own idx "InspectRows$Permits" "space" "I" "InspectRows" ∈ nw_all) (hdg : decode cc pc = .ok (.putfield idx, 3)) (kk : ∀ (H1 : Heap) (locs1 : List Loc), va_P (dC, dI) classes (wI L cA ar (sg sc 11 x)) H1 → va_S (aI L) H0 H1 locs1 → W p l e R s m args below meth c H1 locs1 cells slots Q (F0 m (pc + 3) ls rest)) : W p l e R s m args below meth c H locs cells slots Q (F0 m pc ls (.int x :: .ref (L 30) :: rest)) :=
  va_putN (D := (dC, dI)) (ci := 6) (v := .int x) (ty := .int) (C := R_Permits) (T := F_Permits) (N := 15) hF.1 hF.2.1 hF.2.2.2.2 i_Permits t_Permits t_Permits_ok n_Permits hF.2.2.2.1 hK.1 hP (wI_D hL) hS 30 rfl rfl 12 (by decide) (va_Nw.use rfl (hK.2 _ hlink)) (fun _ h9 => h9) rfl (by decide +kernel) rfl rfl (Nat.le_of_ble_eq_true rfl) hdg (fun H1 locs1 h1 _ h3 => kk H1 locs1 h1 h3)
theorem gf_Permits_distance (hF : CallFix p m c cc nL s args w_all own) (hK : kW_I dC dI cA s) (hP : va_P (dC, dI) classes (wI L cA ar sc) H) (hlink : Cond.fieldLink own idx "InspectRows$Permits" "distance" "I" ∈ w_all) (hdg : decode cc pc = .ok (.getfield idx, 3)) (kk : W p l e R s m args below meth c H locs cells slots Q (F0 m (pc + 3) ls (.int (sc 12) :: rest))) : W p l e R s m args below meth c H locs cells slots Q (F0 m pc ls (.ref (L 30) :: rest)) :=
  va_get (D := (dC, dI)) (ci := 6) (v := .int (sc 12)) (C := R_Permits) (T := F_Permits) (N := 15) hF.1 hF.2.1 hF.2.2.2.2 i_Permits hF.2.2.2.1 hK.1 hP 30 rfl rfl 13 (by decide) (hF.2.2.2.2 _ hlink) (fun _ h9 => h9) rfl hdg kk
theorem pf_Permits_distance {x : Int32} (hF : CallFix p m c cc nL s args w_all own) (hK : kW_I dC dI cA s) (hP : va_P (dC, dI) classes (wI L cA ar sc) H) (hL : ij 38 L) (hS : va_S (aI L) H0 H locs) (hlink : Cond.fieldLink own idx "InspectRows$Permits" "distance" "I" ∈ w_all) (hdg : decode cc pc = .ok (.putfield idx, 3)) (kk : ∀ (H1 : Heap) (locs1 : List Loc), va_P (dC, dI) classes (wI L cA ar (sg sc 12 x)) H1 → va_S (aI L) H0 H1 locs1 → W p l e R s m args below meth c H1 locs1 cells slots Q (F0 m (pc + 3) ls rest)) : W p l e R s m args below meth c H locs cells slots Q (F0 m pc ls (.int x :: .ref (L 30) :: rest)) :=
  va_put (D := (dC, dI)) (ci := 6) (v := .int x) (ty := .int) (C := R_Permits) (T := F_Permits) (N := 15) hF.1 hF.2.1 hF.2.2.2.2 i_Permits t_Permits t_Permits_ok n_Permits hF.2.2.2.1 hK.1 hP (wI_D hL) hS 30 rfl rfl 13 (by decide) (hF.2.2.2.2 _ hlink) (fun _ h9 => h9) rfl (by decide +kernel) rfl rfl (Nat.le_of_ble_eq_true rfl) hdg (fun H1 locs1 h1 _ h3 => kk H1 locs1 h1 h3)
theorem gn_Permits_distance (hF : CallFix p m c cc nL s args w_all own) (hK : kW_I dC dI cA s) (hP : va_P (dC, dI) classes (wI L cA ar sc) H) (hlink : Cond.fieldLinkNest own idx "InspectRows$Permits" "distance" "I" "InspectRows" ∈ nw_all) (hdg : decode cc pc = .ok (.getfield idx, 3)) (kk : W p l e R s m args below meth c H locs cells slots Q (F0 m (pc + 3) ls (.int (sc 12) :: rest))) : W p l e R s m args below meth c H locs cells slots Q (F0 m pc ls (.ref (L 30) :: rest)) :=
  va_getN (D := (dC, dI)) (ci := 6) (v := .int (sc 12)) (C := R_Permits) (T := F_Permits) (N := 15) hF.1 hF.2.1 hF.2.2.2.2 i_Permits hF.2.2.2.1 hK.1 hP 30 rfl rfl 13 (by decide) (va_Nw.use rfl (hK.2 _ hlink)) (fun _ h9 => h9) rfl hdg kk
theorem pn_Permits_distance {x : Int32} (hF : CallFix p m c cc nL s args w_all own) (hK : kW_I dC dI cA s) (hP : va_P (dC, dI) classes (wI L cA ar sc) H) (hL : ij 38 L) (hS : va_S (aI L) H0 H locs) (hlink : Cond.fieldLinkNest own idx "InspectRows$Permits" "distance" "I" "InspectRows" ∈ nw_all) (hdg : decode cc pc = .ok (.putfield idx, 3)) (kk : ∀ (H1 : Heap) (locs1 : List Loc), va_P (dC, dI) classes (wI L cA ar (sg sc 12 x)) H1 → va_S (aI L) H0 H1 locs1 → W p l e R s m args below meth c H1 locs1 cells slots Q (F0 m (pc + 3) ls rest)) : W p l e R s m args below meth c H locs cells slots Q (F0 m pc ls (.int x :: .ref (L 30) :: rest)) :=
  va_putN (D := (dC, dI)) (ci := 6) (v := .int x) (ty := .int) (C := R_Permits) (T := F_Permits) (N := 15) hF.1 hF.2.1 hF.2.2.2.2 i_Permits t_Permits t_Permits_ok n_Permits hF.2.2.2.1 hK.1 hP (wI_D hL) hS 30 rfl rfl 13 (by decide) (va_Nw.use rfl (hK.2 _ hlink)) (fun _ h9 => h9) rfl (by decide +kernel) rfl rfl (Nat.le_of_ble_eq_true rfl) hdg (fun H1 locs1 h1 _ h3 => kk H1 locs1 h1 h3)
theorem gf_Permits_clash (hF : CallFix p m c cc nL s args w_all own) (hK : kW_I dC dI cA s) (hP : va_P (dC, dI) classes (wI L cA ar sc) H) (hlink : Cond.fieldLink own idx "InspectRows$Permits" "clash" "I" ∈ w_all) (hdg : decode cc pc = .ok (.getfield idx, 3)) (kk : W p l e R s m args below meth c H locs cells slots Q (F0 m (pc + 3) ls (.int (sc 13) :: rest))) : W p l e R s m args below meth c H locs cells slots Q (F0 m pc ls (.ref (L 30) :: rest)) :=
  va_get (D := (dC, dI)) (ci := 6) (v := .int (sc 13)) (C := R_Permits) (T := F_Permits) (N := 15) hF.1 hF.2.1 hF.2.2.2.2 i_Permits hF.2.2.2.1 hK.1 hP 30 rfl rfl 14 (by decide) (hF.2.2.2.2 _ hlink) (fun _ h9 => h9) rfl hdg kk
theorem pf_Permits_clash {x : Int32} (hF : CallFix p m c cc nL s args w_all own) (hK : kW_I dC dI cA s) (hP : va_P (dC, dI) classes (wI L cA ar sc) H) (hL : ij 38 L) (hS : va_S (aI L) H0 H locs) (hlink : Cond.fieldLink own idx "InspectRows$Permits" "clash" "I" ∈ w_all) (hdg : decode cc pc = .ok (.putfield idx, 3)) (kk : ∀ (H1 : Heap) (locs1 : List Loc), va_P (dC, dI) classes (wI L cA ar (sg sc 13 x)) H1 → va_S (aI L) H0 H1 locs1 → W p l e R s m args below meth c H1 locs1 cells slots Q (F0 m (pc + 3) ls rest)) : W p l e R s m args below meth c H locs cells slots Q (F0 m pc ls (.int x :: .ref (L 30) :: rest)) :=
  va_put (D := (dC, dI)) (ci := 6) (v := .int x) (ty := .int) (C := R_Permits) (T := F_Permits) (N := 15) hF.1 hF.2.1 hF.2.2.2.2 i_Permits t_Permits t_Permits_ok n_Permits hF.2.2.2.1 hK.1 hP (wI_D hL) hS 30 rfl rfl 14 (by decide) (hF.2.2.2.2 _ hlink) (fun _ h9 => h9) rfl (by decide +kernel) rfl rfl (Nat.le_of_ble_eq_true rfl) hdg (fun H1 locs1 h1 _ h3 => kk H1 locs1 h1 h3)
theorem gn_Permits_clash (hF : CallFix p m c cc nL s args w_all own) (hK : kW_I dC dI cA s) (hP : va_P (dC, dI) classes (wI L cA ar sc) H) (hlink : Cond.fieldLinkNest own idx "InspectRows$Permits" "clash" "I" "InspectRows" ∈ nw_all) (hdg : decode cc pc = .ok (.getfield idx, 3)) (kk : W p l e R s m args below meth c H locs cells slots Q (F0 m (pc + 3) ls (.int (sc 13) :: rest))) : W p l e R s m args below meth c H locs cells slots Q (F0 m pc ls (.ref (L 30) :: rest)) :=
  va_getN (D := (dC, dI)) (ci := 6) (v := .int (sc 13)) (C := R_Permits) (T := F_Permits) (N := 15) hF.1 hF.2.1 hF.2.2.2.2 i_Permits hF.2.2.2.1 hK.1 hP 30 rfl rfl 14 (by decide) (va_Nw.use rfl (hK.2 _ hlink)) (fun _ h9 => h9) rfl hdg kk
theorem pn_Permits_clash {x : Int32} (hF : CallFix p m c cc nL s args w_all own) (hK : kW_I dC dI cA s) (hP : va_P (dC, dI) classes (wI L cA ar sc) H) (hL : ij 38 L) (hS : va_S (aI L) H0 H locs) (hlink : Cond.fieldLinkNest own idx "InspectRows$Permits" "clash" "I" "InspectRows" ∈ nw_all) (hdg : decode cc pc = .ok (.putfield idx, 3)) (kk : ∀ (H1 : Heap) (locs1 : List Loc), va_P (dC, dI) classes (wI L cA ar (sg sc 13 x)) H1 → va_S (aI L) H0 H1 locs1 → W p l e R s m args below meth c H1 locs1 cells slots Q (F0 m (pc + 3) ls rest)) : W p l e R s m args below meth c H locs cells slots Q (F0 m pc ls (.int x :: .ref (L 30) :: rest)) :=
  va_putN (D := (dC, dI)) (ci := 6) (v := .int x) (ty := .int) (C := R_Permits) (T := F_Permits) (N := 15) hF.1 hF.2.1 hF.2.2.2.2 i_Permits t_Permits t_Permits_ok n_Permits hF.2.2.2.1 hK.1 hP (wI_D hL) hS 30 rfl rfl 14 (by decide) (va_Nw.use rfl (hK.2 _ hlink)) (fun _ h9 => h9) rfl (by decide +kernel) rfl rfl (Nat.le_of_ble_eq_true rfl) hdg (fun H1 locs1 h1 _ h3 => kk H1 locs1 h1 h3)
theorem alI_31 {i : Int32} (hF : CallFix p m c cc nL s args w_all own) (hK : kW_I dC dI cA s) (hP : va_P (dC, dI) classes (wI L cA ar sc) H) (hin : vp_in i 30) (hdg : decode cc pc = .ok (.iaload, 1)) (kk : W p l e R s m args below meth c H locs cells slots Q (F0 m (pc + 1) ls (.int (ar 31 i.toNatClampNeg) :: rest))) : W p l e R s m args below meth c H locs cells slots Q (F0 m pc ls (.int i :: .ref (L 31) :: rest)) :=
  va_iald hF.1 hF.2.1 hK.1 hP 31 24 rfl rfl hin hdg kk
theorem asI_31 {i x : Int32} (hF : CallFix p m c cc nL s args w_all own) (hK : kW_I dC dI cA s) (hP : va_P (dC, dI) classes (wI L cA ar sc) H) (hL : ij 38 L) (hS : va_S (aI L) H0 H locs) (hin : vp_in i 30) (hdg : decode cc pc = .ok (.iastore, 1)) (kk : ∀ (H1 : Heap) (locs1 : List Loc), va_P (dC, dI) classes (wI L cA (s2 ar 31 i.toNatClampNeg x) sc) H1 → va_S (aI L) H0 H1 locs1 → W p l e R s m args below meth c H1 locs1 cells slots Q (F0 m (pc + 1) ls rest)) : W p l e R s m args below meth c H locs cells slots Q (F0 m pc ls (.int x :: .int i :: .ref (L 31) :: rest)) :=
  va_iast hF.1 hF.2.1 hK.1 hP (wI_D hL) hS 31 24 rfl rfl hin hdg (fun H1 locs1 h1 _ h3 => kk H1 locs1 h1 h3)
theorem anI_31 (hF : CallFix p m c cc nL s args w_all own) (hK : kW_I dC dI cA s) (hP : va_P (dC, dI) classes (wI L cA ar sc) H) (hdg : decode cc pc = .ok (.arraylength, 1)) (kk : W p l e R s m args below meth c H locs cells slots Q (F0 m (pc + 1) ls (.int 30 :: rest))) : W p l e R s m args below meth c H locs cells slots Q (F0 m pc ls (.ref (L 31) :: rest)) :=
  va_alen (v := 30) hF.1 hF.2.1 hK.1 hP 31 24 rfl rfl rfl hdg kk
theorem alI_32 {i : Int32} (hF : CallFix p m c cc nL s args w_all own) (hK : kW_I dC dI cA s) (hP : va_P (dC, dI) classes (wI L cA ar sc) H) (hin : vp_in i 30) (hdg : decode cc pc = .ok (.iaload, 1)) (kk : W p l e R s m args below meth c H locs cells slots Q (F0 m (pc + 1) ls (.int (ar 32 i.toNatClampNeg) :: rest))) : W p l e R s m args below meth c H locs cells slots Q (F0 m pc ls (.int i :: .ref (L 32) :: rest)) :=
  va_iald hF.1 hF.2.1 hK.1 hP 32 25 rfl rfl hin hdg kk
theorem asI_32 {i x : Int32} (hF : CallFix p m c cc nL s args w_all own) (hK : kW_I dC dI cA s) (hP : va_P (dC, dI) classes (wI L cA ar sc) H) (hL : ij 38 L) (hS : va_S (aI L) H0 H locs) (hin : vp_in i 30) (hdg : decode cc pc = .ok (.iastore, 1)) (kk : ∀ (H1 : Heap) (locs1 : List Loc), va_P (dC, dI) classes (wI L cA (s2 ar 32 i.toNatClampNeg x) sc) H1 → va_S (aI L) H0 H1 locs1 → W p l e R s m args below meth c H1 locs1 cells slots Q (F0 m (pc + 1) ls rest)) : W p l e R s m args below meth c H locs cells slots Q (F0 m pc ls (.int x :: .int i :: .ref (L 32) :: rest)) :=
  va_iast hF.1 hF.2.1 hK.1 hP (wI_D hL) hS 32 25 rfl rfl hin hdg (fun H1 locs1 h1 _ h3 => kk H1 locs1 h1 h3)
theorem anI_32 (hF : CallFix p m c cc nL s args w_all own) (hK : kW_I dC dI cA s) (hP : va_P (dC, dI) classes (wI L cA ar sc) H) (hdg : decode cc pc = .ok (.arraylength, 1)) (kk : W p l e R s m args below meth c H locs cells slots Q (F0 m (pc + 1) ls (.int 30 :: rest))) : W p l e R s m args below meth c H locs cells slots Q (F0 m pc ls (.ref (L 32) :: rest)) :=
  va_alen (v := 30) hF.1 hF.2.1 hK.1 hP 32 25 rfl rfl rfl hdg kk
theorem alI_33 {i : Int32} (hF : CallFix p m c cc nL s args w_all own) (hK : kW_I dC dI cA s) (hP : va_P (dC, dI) classes (wI L cA ar sc) H) (hin : vp_in i 30) (hdg : decode cc pc = .ok (.iaload, 1)) (kk : W p l e R s m args below meth c H locs cells slots Q (F0 m (pc + 1) ls (.int (ar 33 i.toNatClampNeg) :: rest))) : W p l e R s m args below meth c H locs cells slots Q (F0 m pc ls (.int i :: .ref (L 33) :: rest)) :=
  va_iald hF.1 hF.2.1 hK.1 hP 33 26 rfl rfl hin hdg kk
theorem asI_33 {i x : Int32} (hF : CallFix p m c cc nL s args w_all own) (hK : kW_I dC dI cA s) (hP : va_P (dC, dI) classes (wI L cA ar sc) H) (hL : ij 38 L) (hS : va_S (aI L) H0 H locs) (hin : vp_in i 30) (hdg : decode cc pc = .ok (.iastore, 1)) (kk : ∀ (H1 : Heap) (locs1 : List Loc), va_P (dC, dI) classes (wI L cA (s2 ar 33 i.toNatClampNeg x) sc) H1 → va_S (aI L) H0 H1 locs1 → W p l e R s m args below meth c H1 locs1 cells slots Q (F0 m (pc + 1) ls rest)) : W p l e R s m args below meth c H locs cells slots Q (F0 m pc ls (.int x :: .int i :: .ref (L 33) :: rest)) :=
  va_iast hF.1 hF.2.1 hK.1 hP (wI_D hL) hS 33 26 rfl rfl hin hdg (fun H1 locs1 h1 _ h3 => kk H1 locs1 h1 h3)
theorem anI_33 (hF : CallFix p m c cc nL s args w_all own) (hK : kW_I dC dI cA s) (hP : va_P (dC, dI) classes (wI L cA ar sc) H) (hdg : decode cc pc = .ok (.arraylength, 1)) (kk : W p l e R s m args below meth c H locs cells slots Q (F0 m (pc + 1) ls (.int 30 :: rest))) : W p l e R s m args below meth c H locs cells slots Q (F0 m pc ls (.ref (L 33) :: rest)) :=
  va_alen (v := 30) hF.1 hF.2.1 hK.1 hP 33 26 rfl rfl rfl hdg kk
theorem alI_34 {i : Int32} (hF : CallFix p m c cc nL s args w_all own) (hK : kW_I dC dI cA s) (hP : va_P (dC, dI) classes (wI L cA ar sc) H) (hin : vp_in i 30) (hdg : decode cc pc = .ok (.iaload, 1)) (kk : W p l e R s m args below meth c H locs cells slots Q (F0 m (pc + 1) ls (.int (ar 34 i.toNatClampNeg) :: rest))) : W p l e R s m args below meth c H locs cells slots Q (F0 m pc ls (.int i :: .ref (L 34) :: rest)) :=
  va_iald hF.1 hF.2.1 hK.1 hP 34 27 rfl rfl hin hdg kk
theorem asI_34 {i x : Int32} (hF : CallFix p m c cc nL s args w_all own) (hK : kW_I dC dI cA s) (hP : va_P (dC, dI) classes (wI L cA ar sc) H) (hL : ij 38 L) (hS : va_S (aI L) H0 H locs) (hin : vp_in i 30) (hdg : decode cc pc = .ok (.iastore, 1)) (kk : ∀ (H1 : Heap) (locs1 : List Loc), va_P (dC, dI) classes (wI L cA (s2 ar 34 i.toNatClampNeg x) sc) H1 → va_S (aI L) H0 H1 locs1 → W p l e R s m args below meth c H1 locs1 cells slots Q (F0 m (pc + 1) ls rest)) : W p l e R s m args below meth c H locs cells slots Q (F0 m pc ls (.int x :: .int i :: .ref (L 34) :: rest)) :=
  va_iast hF.1 hF.2.1 hK.1 hP (wI_D hL) hS 34 27 rfl rfl hin hdg (fun H1 locs1 h1 _ h3 => kk H1 locs1 h1 h3)
theorem anI_34 (hF : CallFix p m c cc nL s args w_all own) (hK : kW_I dC dI cA s) (hP : va_P (dC, dI) classes (wI L cA ar sc) H) (hdg : decode cc pc = .ok (.arraylength, 1)) (kk : W p l e R s m args below meth c H locs cells slots Q (F0 m (pc + 1) ls (.int 30 :: rest))) : W p l e R s m args below meth c H locs cells slots Q (F0 m pc ls (.ref (L 34) :: rest)) :=
  va_alen (v := 30) hF.1 hF.2.1 hK.1 hP 34 27 rfl rfl rfl hdg kk
theorem alI_35 {i : Int32} (hF : CallFix p m c cc nL s args w_all own) (hK : kW_I dC dI cA s) (hP : va_P (dC, dI) classes (wI L cA ar sc) H) (hin : vp_in i 30) (hdg : decode cc pc = .ok (.iaload, 1)) (kk : W p l e R s m args below meth c H locs cells slots Q (F0 m (pc + 1) ls (.int (ar 35 i.toNatClampNeg) :: rest))) : W p l e R s m args below meth c H locs cells slots Q (F0 m pc ls (.int i :: .ref (L 35) :: rest)) :=
  va_iald hF.1 hF.2.1 hK.1 hP 35 28 rfl rfl hin hdg kk
theorem asI_35 {i x : Int32} (hF : CallFix p m c cc nL s args w_all own) (hK : kW_I dC dI cA s) (hP : va_P (dC, dI) classes (wI L cA ar sc) H) (hL : ij 38 L) (hS : va_S (aI L) H0 H locs) (hin : vp_in i 30) (hdg : decode cc pc = .ok (.iastore, 1)) (kk : ∀ (H1 : Heap) (locs1 : List Loc), va_P (dC, dI) classes (wI L cA (s2 ar 35 i.toNatClampNeg x) sc) H1 → va_S (aI L) H0 H1 locs1 → W p l e R s m args below meth c H1 locs1 cells slots Q (F0 m (pc + 1) ls rest)) : W p l e R s m args below meth c H locs cells slots Q (F0 m pc ls (.int x :: .int i :: .ref (L 35) :: rest)) :=
  va_iast hF.1 hF.2.1 hK.1 hP (wI_D hL) hS 35 28 rfl rfl hin hdg (fun H1 locs1 h1 _ h3 => kk H1 locs1 h1 h3)
theorem anI_35 (hF : CallFix p m c cc nL s args w_all own) (hK : kW_I dC dI cA s) (hP : va_P (dC, dI) classes (wI L cA ar sc) H) (hdg : decode cc pc = .ok (.arraylength, 1)) (kk : W p l e R s m args below meth c H locs cells slots Q (F0 m (pc + 1) ls (.int 30 :: rest))) : W p l e R s m args below meth c H locs cells slots Q (F0 m pc ls (.ref (L 35) :: rest)) :=
  va_alen (v := 30) hF.1 hF.2.1 hK.1 hP 35 28 rfl rfl rfl hdg kk
theorem alI_36 {i : Int32} (hF : CallFix p m c cc nL s args w_all own) (hK : kW_I dC dI cA s) (hP : va_P (dC, dI) classes (wI L cA ar sc) H) (hin : vp_in i 30) (hdg : decode cc pc = .ok (.iaload, 1)) (kk : W p l e R s m args below meth c H locs cells slots Q (F0 m (pc + 1) ls (.int (ar 36 i.toNatClampNeg) :: rest))) : W p l e R s m args below meth c H locs cells slots Q (F0 m pc ls (.int i :: .ref (L 36) :: rest)) :=
  va_iald hF.1 hF.2.1 hK.1 hP 36 29 rfl rfl hin hdg kk
theorem asI_36 {i x : Int32} (hF : CallFix p m c cc nL s args w_all own) (hK : kW_I dC dI cA s) (hP : va_P (dC, dI) classes (wI L cA ar sc) H) (hL : ij 38 L) (hS : va_S (aI L) H0 H locs) (hin : vp_in i 30) (hdg : decode cc pc = .ok (.iastore, 1)) (kk : ∀ (H1 : Heap) (locs1 : List Loc), va_P (dC, dI) classes (wI L cA (s2 ar 36 i.toNatClampNeg x) sc) H1 → va_S (aI L) H0 H1 locs1 → W p l e R s m args below meth c H1 locs1 cells slots Q (F0 m (pc + 1) ls rest)) : W p l e R s m args below meth c H locs cells slots Q (F0 m pc ls (.int x :: .int i :: .ref (L 36) :: rest)) :=
  va_iast hF.1 hF.2.1 hK.1 hP (wI_D hL) hS 36 29 rfl rfl hin hdg (fun H1 locs1 h1 _ h3 => kk H1 locs1 h1 h3)
theorem anI_36 (hF : CallFix p m c cc nL s args w_all own) (hK : kW_I dC dI cA s) (hP : va_P (dC, dI) classes (wI L cA ar sc) H) (hdg : decode cc pc = .ok (.arraylength, 1)) (kk : W p l e R s m args below meth c H locs cells slots Q (F0 m (pc + 1) ls (.int 30 :: rest))) : W p l e R s m args below meth c H locs cells slots Q (F0 m pc ls (.ref (L 36) :: rest)) :=
  va_alen (v := 30) hF.1 hF.2.1 hK.1 hP 36 29 rfl rfl rfl hdg kk
theorem alI_37 {i : Int32} (hF : CallFix p m c cc nL s args w_all own) (hK : kW_I dC dI cA s) (hP : va_P (dC, dI) classes (wI L cA ar sc) H) (hin : vp_in i 30) (hdg : decode cc pc = .ok (.iaload, 1)) (kk : W p l e R s m args below meth c H locs cells slots Q (F0 m (pc + 1) ls (.int (ar 37 i.toNatClampNeg) :: rest))) : W p l e R s m args below meth c H locs cells slots Q (F0 m pc ls (.int i :: .ref (L 37) :: rest)) :=
  va_iald hF.1 hF.2.1 hK.1 hP 37 30 rfl rfl hin hdg kk
theorem asI_37 {i x : Int32} (hF : CallFix p m c cc nL s args w_all own) (hK : kW_I dC dI cA s) (hP : va_P (dC, dI) classes (wI L cA ar sc) H) (hL : ij 38 L) (hS : va_S (aI L) H0 H locs) (hin : vp_in i 30) (hdg : decode cc pc = .ok (.iastore, 1)) (kk : ∀ (H1 : Heap) (locs1 : List Loc), va_P (dC, dI) classes (wI L cA (s2 ar 37 i.toNatClampNeg x) sc) H1 → va_S (aI L) H0 H1 locs1 → W p l e R s m args below meth c H1 locs1 cells slots Q (F0 m (pc + 1) ls rest)) : W p l e R s m args below meth c H locs cells slots Q (F0 m pc ls (.int x :: .int i :: .ref (L 37) :: rest)) :=
  va_iast hF.1 hF.2.1 hK.1 hP (wI_D hL) hS 37 30 rfl rfl hin hdg (fun H1 locs1 h1 _ h3 => kk H1 locs1 h1 h3)
theorem anI_37 (hF : CallFix p m c cc nL s args w_all own) (hK : kW_I dC dI cA s) (hP : va_P (dC, dI) classes (wI L cA ar sc) H) (hdg : decode cc pc = .ok (.arraylength, 1)) (kk : W p l e R s m args below meth c H locs cells slots Q (F0 m (pc + 1) ls (.int 30 :: rest))) : W p l e R s m args below meth c H locs cells slots Q (F0 m pc ls (.ref (L 37) :: rest)) :=
  va_alen (v := 30) hF.1 hF.2.1 hK.1 hP 37 30 rfl rfl rfl hdg kk
end VI
def wM (L : Nat → Nat) (cA : Nat → ClassId) (ar : Nat → Nat → Int32) (sc : Nat → Int32) : va_W := [
  (L 0, .inr (7, [.int (sc 0), .int (sc 1), .ref (L 1), .ref (L 2), .ref (L 3), .ref (L 4), .int (sc 2), .ref (L 5), .ref (L 6), .ref (L 7), .ref (L 8), .ref (L 9), .ref (L 10), .int (sc 3), .ref (L 11), .ref (L 12), .ref (L 13), .ref (L 14), .ref (L 15), .ref (L 16), .ref (L 17), .ref (L 18), .int (sc 4), .ref (L 19), .ref (L 20), .ref (L 21), .int (sc 5), .int (sc 6), .int (sc 7), .ref (L 22), .int (sc 8), .ref (L 23), .ref (L 24), .int (sc 9)])),
  (L 1, .inl (cA 1, 5, .inl (ar 1))),
  (L 2, .inl (cA 2, 3, .inl (ar 2))),
  (L 3, .inl (cA 3, 4, .inl (ar 3))),
  (L 4, .inl (cA 4, 4, .inl (ar 4))),
  (L 5, .inl (cA 5, 30, .inl (ar 5))),
  (L 6, .inl (cA 6, 30, .inl (ar 6))),
  (L 7, .inl (cA 7, 30, .inl (ar 7))),
  (L 8, .inl (cA 8, 30, .inl (ar 8))),
  (L 9, .inl (cA 9, 30, .inl (ar 9))),
  (L 10, .inl (cA 10, 30, .inl (ar 10))),
  (L 11, .inl (cA 11, 100, .inl (ar 11))),
  (L 12, .inl (cA 12, 100, .inl (ar 12))),
  (L 13, .inl (cA 13, 100, .inl (ar 13))),
  (L 14, .inl (cA 14, 100, .inl (ar 14))),
  (L 15, .inl (cA 15, 16, .inl (ar 15))),
  (L 16, .inl (cA 16, 16, .inl (ar 16))),
  (L 17, .inl (cA 17, 16, .inl (ar 17))),
  (L 18, .inl (cA 18, 16, .inl (ar 18))),
  (L 19, .inl (cA 19, 7, .inl (ar 19))),
  (L 20, .inl (cA 20, 7, .inl (ar 20))),
  (L 21, .inl (cA 21, 896, .inl (ar 21))),
  (L 22, .inl (cA 22, 124, .inl (ar 22))),
  (L 23, .inl (cA 23, 30, .inl (ar 23))),
  (L 24, .inl (cA 24, 30, .inl (ar 24)))]
def ty_M (cA : Nat → ClassId) : List (ClassId × FieldType) := [(cA 1, .int), (cA 2, .int), (cA 3, .int), (cA 4, .int), (cA 5, .int), (cA 6, .int), (cA 7, .int), (cA 8, .int), (cA 9, .int), (cA 10, .int), (cA 11, .int), (cA 12, .int), (cA 13, .int), (cA 14, .int), (cA 15, .boolean), (cA 16, .int), (cA 17, .int), (cA 18, .int), (cA 19, .int), (cA 20, .int), (cA 21, .int), (cA 22, .int), (cA 23, .int), (cA 24, .int)]
def aM (L : Nat → Nat) : Nat → Prop := fun q => ∃ k, k < 25 ∧ L k = q
theorem wM_at {L : Nat → Nat} {cA : Nat → ClassId} {ar : Nat → Nat → Int32} {sc : Nat → Int32} {k : Nat} {q : Nat × va_E} (h : (wM L cA ar sc)[k]? = some q) : k < 25 ∧ q.1 = L k := by
  have hm : (wM L cA ar sc).map Prod.fst = (List.range 25).map L := rfl
  have h1 : ((wM L cA ar sc).map Prod.fst)[k]? = some q.1 := by rw [List.getElem?_map, h]; rfl
  rw [hm, List.getElem?_map] at h1
  by_cases hk : k < 25
  · rw [List.getElem?_range hk] at h1
    exact ⟨hk, (Option.some.inj h1).symm⟩
  · rw [List.getElem?_eq_none (by rw [List.length_range]; omega)] at h1
    cases h1
theorem wM_D {L : Nat → Nat} (hL : ij 25 L) {cA : Nat → ClassId} {ar : Nat → Nat → Int32} {sc : Nat → Int32} : va_D (aM L) (wM L cA ar sc) :=
  ⟨fun i j p q hp hq e => hL i j (wM_at hp).1 (wM_at hq).1 (by rw [← (wM_at hp).2, ← (wM_at hq).2]; exact e), fun k q h => ⟨k, (wM_at h).1, (wM_at h).2.symm⟩⟩
def kW_M (dC : Nat → ClassId) (dI : Nat → Nat → Nat) (cA : Nat → ClassId) (U : State) : Prop := va_K (dC, dI) classes (ty_M cA) U ∧ ∀ w ∈ nw_all, va_Nw w U
theorem kW_M_warm {dC : Nat → ClassId} {dI : Nat → Nat → Nat} {cA : Nat → ClassId} {s U : State} (hW : s.WarmedH U.vm) (h : kW_M dC dI cA s) : kW_M dC dI cA U := ⟨va_K.moved hW.alike h.1, fun w hw => nw_warm (List.mem_filter.mp hw).2 hW (h.2 w hw)⟩
theorem kW_M_same {dC : Nat → ClassId} {dI : Nat → Nat → Nat} {cA : Nat → ClassId} {s U : State} (hv : s.vm = U.vm) (h : kW_M dC dI cA s) : kW_M dC dI cA U := ⟨va_K.moved (hv ▸ Vm.Alike.refl s.vm) h.1, fun w hw => nw_same (List.mem_filter.mp hw).2 hv (h.2 w hw)⟩
def xw_M (dC : Nat → ClassId) (dI : Nat → Nat → Nat) (L : Nat → Nat) (cA : Nat → ClassId) (ar : Nat → Nat → Int32) (sc : Nat → Int32) (U : State) : Prop := va_P (dC, dI) classes (wM L cA ar sc) U.heap ∧ kW_M dC dI cA U
theorem xb_M {dC : Nat → ClassId} {dI : Nat → Nat → Nat} {L : Nat → Nat} {cA : Nat → ClassId} {ar : Nat → Nat → Int32} {sc : Nat → Int32} {av : List Value} : FrameBlind (va_Pc av (fun U => xw_M dC dI L cA ar sc U)) := fun a U g mk q => ⟨q.1, q.2.1, kW_M_same (s := U) (U := U.calling g mk a) rfl q.2.2⟩
section VM
variable {p : Program} {l : Launch} {e : Env} {R : Room} {s : State} {m : MethodId} {args : Array Value} {below : List Frame} {meth : Method} {c : Code} {H H0 : Heap} {locs : List Loc} {cells slots : Nat} {Q : State → Prop} {cc : ByteArray} {nL pc idx : Nat} {ls : Array Slot} {rest : List Value} {own : String} {dC : Nat → ClassId} {dI : Nat → Nat → Nat} {L : Nat → Nat} {cA : Nat → ClassId} {ar : Nat → Nat → Int32} {sc : Nat → Int32}
theorem gf_Mo_thrown (hF : CallFix p m c cc nL s args w_all own) (hK : kW_M dC dI cA s) (hP : va_P (dC, dI) classes (wM L cA ar sc) H) (hlink : Cond.fieldLink own idx "InspectRowsModel" "thrown" "I" ∈ w_all) (hdg : decode cc pc = .ok (.getfield idx, 3)) (kk : W p l e R s m args below meth c H locs cells slots Q (F0 m (pc + 3) ls (.int (sc 0) :: rest))) : W p l e R s m args below meth c H locs cells slots Q (F0 m pc ls (.ref (L 0) :: rest)) :=
  va_get (D := (dC, dI)) (ci := 7) (v := .int (sc 0)) (C := R_Mo) (T := F_Mo) (N := 34) hF.1 hF.2.1 hF.2.2.2.2 i_Mo hF.2.2.2.1 hK.1 hP 0 rfl rfl 0 (by decide) (hF.2.2.2.2 _ hlink) (fun _ h9 => h9) rfl hdg kk
theorem pf_Mo_thrown {x : Int32} (hF : CallFix p m c cc nL s args w_all own) (hK : kW_M dC dI cA s) (hP : va_P (dC, dI) classes (wM L cA ar sc) H) (hL : ij 25 L) (hS : va_S (aM L) H0 H locs) (hlink : Cond.fieldLink own idx "InspectRowsModel" "thrown" "I" ∈ w_all) (hdg : decode cc pc = .ok (.putfield idx, 3)) (kk : ∀ (H1 : Heap) (locs1 : List Loc), va_P (dC, dI) classes (wM L cA ar (sg sc 0 x)) H1 → va_S (aM L) H0 H1 locs1 → W p l e R s m args below meth c H1 locs1 cells slots Q (F0 m (pc + 3) ls rest)) : W p l e R s m args below meth c H locs cells slots Q (F0 m pc ls (.int x :: .ref (L 0) :: rest)) :=
  va_put (D := (dC, dI)) (ci := 7) (v := .int x) (ty := .int) (C := R_Mo) (T := F_Mo) (N := 34) hF.1 hF.2.1 hF.2.2.2.2 i_Mo t_Mo t_Mo_ok n_Mo hF.2.2.2.1 hK.1 hP (wM_D hL) hS 0 rfl rfl 0 (by decide) (hF.2.2.2.2 _ hlink) (fun _ h9 => h9) rfl (by decide +kernel) rfl rfl (Nat.le_of_ble_eq_true rfl) hdg (fun H1 locs1 h1 _ h3 => kk H1 locs1 h1 h3)
theorem gn_Mo_thrown (hF : CallFix p m c cc nL s args w_all own) (hK : kW_M dC dI cA s) (hP : va_P (dC, dI) classes (wM L cA ar sc) H) (hlink : Cond.fieldLinkNest own idx "InspectRowsModel" "thrown" "I" "InspectRowsModel" ∈ nw_all) (hdg : decode cc pc = .ok (.getfield idx, 3)) (kk : W p l e R s m args below meth c H locs cells slots Q (F0 m (pc + 3) ls (.int (sc 0) :: rest))) : W p l e R s m args below meth c H locs cells slots Q (F0 m pc ls (.ref (L 0) :: rest)) :=
  va_getN (D := (dC, dI)) (ci := 7) (v := .int (sc 0)) (C := R_Mo) (T := F_Mo) (N := 34) hF.1 hF.2.1 hF.2.2.2.2 i_Mo hF.2.2.2.1 hK.1 hP 0 rfl rfl 0 (by decide) (va_Nw.use rfl (hK.2 _ hlink)) (fun _ h9 => h9) rfl hdg kk
theorem pn_Mo_thrown {x : Int32} (hF : CallFix p m c cc nL s args w_all own) (hK : kW_M dC dI cA s) (hP : va_P (dC, dI) classes (wM L cA ar sc) H) (hL : ij 25 L) (hS : va_S (aM L) H0 H locs) (hlink : Cond.fieldLinkNest own idx "InspectRowsModel" "thrown" "I" "InspectRowsModel" ∈ nw_all) (hdg : decode cc pc = .ok (.putfield idx, 3)) (kk : ∀ (H1 : Heap) (locs1 : List Loc), va_P (dC, dI) classes (wM L cA ar (sg sc 0 x)) H1 → va_S (aM L) H0 H1 locs1 → W p l e R s m args below meth c H1 locs1 cells slots Q (F0 m (pc + 3) ls rest)) : W p l e R s m args below meth c H locs cells slots Q (F0 m pc ls (.int x :: .ref (L 0) :: rest)) :=
  va_putN (D := (dC, dI)) (ci := 7) (v := .int x) (ty := .int) (C := R_Mo) (T := F_Mo) (N := 34) hF.1 hF.2.1 hF.2.2.2.2 i_Mo t_Mo t_Mo_ok n_Mo hF.2.2.2.1 hK.1 hP (wM_D hL) hS 0 rfl rfl 0 (by decide) (va_Nw.use rfl (hK.2 _ hlink)) (fun _ h9 => h9) rfl (by decide +kernel) rfl rfl (Nat.le_of_ble_eq_true rfl) hdg (fun H1 locs1 h1 _ h3 => kk H1 locs1 h1 h3)
theorem gf_Mo_day (hF : CallFix p m c cc nL s args w_all own) (hK : kW_M dC dI cA s) (hP : va_P (dC, dI) classes (wM L cA ar sc) H) (hlink : Cond.fieldLink own idx "InspectRowsModel" "day" "I" ∈ w_all) (hdg : decode cc pc = .ok (.getfield idx, 3)) (kk : W p l e R s m args below meth c H locs cells slots Q (F0 m (pc + 3) ls (.int (sc 1) :: rest))) : W p l e R s m args below meth c H locs cells slots Q (F0 m pc ls (.ref (L 0) :: rest)) :=
  va_get (D := (dC, dI)) (ci := 7) (v := .int (sc 1)) (C := R_Mo) (T := F_Mo) (N := 34) hF.1 hF.2.1 hF.2.2.2.2 i_Mo hF.2.2.2.1 hK.1 hP 0 rfl rfl 1 (by decide) (hF.2.2.2.2 _ hlink) (fun _ h9 => h9) rfl hdg kk
theorem pf_Mo_day {x : Int32} (hF : CallFix p m c cc nL s args w_all own) (hK : kW_M dC dI cA s) (hP : va_P (dC, dI) classes (wM L cA ar sc) H) (hL : ij 25 L) (hS : va_S (aM L) H0 H locs) (hlink : Cond.fieldLink own idx "InspectRowsModel" "day" "I" ∈ w_all) (hdg : decode cc pc = .ok (.putfield idx, 3)) (kk : ∀ (H1 : Heap) (locs1 : List Loc), va_P (dC, dI) classes (wM L cA ar (sg sc 1 x)) H1 → va_S (aM L) H0 H1 locs1 → W p l e R s m args below meth c H1 locs1 cells slots Q (F0 m (pc + 3) ls rest)) : W p l e R s m args below meth c H locs cells slots Q (F0 m pc ls (.int x :: .ref (L 0) :: rest)) :=
  va_put (D := (dC, dI)) (ci := 7) (v := .int x) (ty := .int) (C := R_Mo) (T := F_Mo) (N := 34) hF.1 hF.2.1 hF.2.2.2.2 i_Mo t_Mo t_Mo_ok n_Mo hF.2.2.2.1 hK.1 hP (wM_D hL) hS 0 rfl rfl 1 (by decide) (hF.2.2.2.2 _ hlink) (fun _ h9 => h9) rfl (by decide +kernel) rfl rfl (Nat.le_of_ble_eq_true rfl) hdg (fun H1 locs1 h1 _ h3 => kk H1 locs1 h1 h3)
theorem gn_Mo_day (hF : CallFix p m c cc nL s args w_all own) (hK : kW_M dC dI cA s) (hP : va_P (dC, dI) classes (wM L cA ar sc) H) (hlink : Cond.fieldLinkNest own idx "InspectRowsModel" "day" "I" "InspectRowsModel" ∈ nw_all) (hdg : decode cc pc = .ok (.getfield idx, 3)) (kk : W p l e R s m args below meth c H locs cells slots Q (F0 m (pc + 3) ls (.int (sc 1) :: rest))) : W p l e R s m args below meth c H locs cells slots Q (F0 m pc ls (.ref (L 0) :: rest)) :=
  va_getN (D := (dC, dI)) (ci := 7) (v := .int (sc 1)) (C := R_Mo) (T := F_Mo) (N := 34) hF.1 hF.2.1 hF.2.2.2.2 i_Mo hF.2.2.2.1 hK.1 hP 0 rfl rfl 1 (by decide) (va_Nw.use rfl (hK.2 _ hlink)) (fun _ h9 => h9) rfl hdg kk
theorem pn_Mo_day {x : Int32} (hF : CallFix p m c cc nL s args w_all own) (hK : kW_M dC dI cA s) (hP : va_P (dC, dI) classes (wM L cA ar sc) H) (hL : ij 25 L) (hS : va_S (aM L) H0 H locs) (hlink : Cond.fieldLinkNest own idx "InspectRowsModel" "day" "I" "InspectRowsModel" ∈ nw_all) (hdg : decode cc pc = .ok (.putfield idx, 3)) (kk : ∀ (H1 : Heap) (locs1 : List Loc), va_P (dC, dI) classes (wM L cA ar (sg sc 1 x)) H1 → va_S (aM L) H0 H1 locs1 → W p l e R s m args below meth c H1 locs1 cells slots Q (F0 m (pc + 3) ls rest)) : W p l e R s m args below meth c H locs cells slots Q (F0 m pc ls (.int x :: .ref (L 0) :: rest)) :=
  va_putN (D := (dC, dI)) (ci := 7) (v := .int x) (ty := .int) (C := R_Mo) (T := F_Mo) (N := 34) hF.1 hF.2.1 hF.2.2.2.2 i_Mo t_Mo t_Mo_ok n_Mo hF.2.2.2.1 hK.1 hP (wM_D hL) hS 0 rfl rfl 1 (by decide) (va_Nw.use rfl (hK.2 _ hlink)) (fun _ h9 => h9) rfl (by decide +kernel) rfl rfl (Nat.le_of_ble_eq_true rfl) hdg (fun H1 locs1 h1 _ h3 => kk H1 locs1 h1 h3)
theorem gf_Mo_weight (hF : CallFix p m c cc nL s args w_all own) (hK : kW_M dC dI cA s) (hP : va_P (dC, dI) classes (wM L cA ar sc) H) (hlink : Cond.fieldLink own idx "InspectRowsModel" "weight" "[I" ∈ w_all) (hdg : decode cc pc = .ok (.getfield idx, 3)) (kk : W p l e R s m args below meth c H locs cells slots Q (F0 m (pc + 3) ls (.ref (L 1) :: rest))) : W p l e R s m args below meth c H locs cells slots Q (F0 m pc ls (.ref (L 0) :: rest)) :=
  va_get (D := (dC, dI)) (ci := 7) (v := .ref (L 1)) (C := R_Mo) (T := F_Mo) (N := 34) hF.1 hF.2.1 hF.2.2.2.2 i_Mo hF.2.2.2.1 hK.1 hP 0 rfl rfl 2 (by decide) (hF.2.2.2.2 _ hlink) (fun _ h9 => h9) rfl hdg kk
theorem gn_Mo_weight (hF : CallFix p m c cc nL s args w_all own) (hK : kW_M dC dI cA s) (hP : va_P (dC, dI) classes (wM L cA ar sc) H) (hlink : Cond.fieldLinkNest own idx "InspectRowsModel" "weight" "[I" "InspectRowsModel" ∈ nw_all) (hdg : decode cc pc = .ok (.getfield idx, 3)) (kk : W p l e R s m args below meth c H locs cells slots Q (F0 m (pc + 3) ls (.ref (L 1) :: rest))) : W p l e R s m args below meth c H locs cells slots Q (F0 m pc ls (.ref (L 0) :: rest)) :=
  va_getN (D := (dC, dI)) (ci := 7) (v := .ref (L 1)) (C := R_Mo) (T := F_Mo) (N := 34) hF.1 hF.2.1 hF.2.2.2.2 i_Mo hF.2.2.2.1 hK.1 hP 0 rfl rfl 2 (by decide) (va_Nw.use rfl (hK.2 _ hlink)) (fun _ h9 => h9) rfl hdg kk
theorem gf_Mo_step (hF : CallFix p m c cc nL s args w_all own) (hK : kW_M dC dI cA s) (hP : va_P (dC, dI) classes (wM L cA ar sc) H) (hlink : Cond.fieldLink own idx "InspectRowsModel" "step" "[I" ∈ w_all) (hdg : decode cc pc = .ok (.getfield idx, 3)) (kk : W p l e R s m args below meth c H locs cells slots Q (F0 m (pc + 3) ls (.ref (L 2) :: rest))) : W p l e R s m args below meth c H locs cells slots Q (F0 m pc ls (.ref (L 0) :: rest)) :=
  va_get (D := (dC, dI)) (ci := 7) (v := .ref (L 2)) (C := R_Mo) (T := F_Mo) (N := 34) hF.1 hF.2.1 hF.2.2.2.2 i_Mo hF.2.2.2.1 hK.1 hP 0 rfl rfl 3 (by decide) (hF.2.2.2.2 _ hlink) (fun _ h9 => h9) rfl hdg kk
theorem gn_Mo_step (hF : CallFix p m c cc nL s args w_all own) (hK : kW_M dC dI cA s) (hP : va_P (dC, dI) classes (wM L cA ar sc) H) (hlink : Cond.fieldLinkNest own idx "InspectRowsModel" "step" "[I" "InspectRowsModel" ∈ nw_all) (hdg : decode cc pc = .ok (.getfield idx, 3)) (kk : W p l e R s m args below meth c H locs cells slots Q (F0 m (pc + 3) ls (.ref (L 2) :: rest))) : W p l e R s m args below meth c H locs cells slots Q (F0 m pc ls (.ref (L 0) :: rest)) :=
  va_getN (D := (dC, dI)) (ci := 7) (v := .ref (L 2)) (C := R_Mo) (T := F_Mo) (N := 34) hF.1 hF.2.1 hF.2.2.2.2 i_Mo hF.2.2.2.1 hK.1 hP 0 rfl rfl 3 (by decide) (va_Nw.use rfl (hK.2 _ hlink)) (fun _ h9 => h9) rfl hdg kk
theorem gf_Mo_interval (hF : CallFix p m c cc nL s args w_all own) (hK : kW_M dC dI cA s) (hP : va_P (dC, dI) classes (wM L cA ar sc) H) (hlink : Cond.fieldLink own idx "InspectRowsModel" "interval" "[I" ∈ w_all) (hdg : decode cc pc = .ok (.getfield idx, 3)) (kk : W p l e R s m args below meth c H locs cells slots Q (F0 m (pc + 3) ls (.ref (L 3) :: rest))) : W p l e R s m args below meth c H locs cells slots Q (F0 m pc ls (.ref (L 0) :: rest)) :=
  va_get (D := (dC, dI)) (ci := 7) (v := .ref (L 3)) (C := R_Mo) (T := F_Mo) (N := 34) hF.1 hF.2.1 hF.2.2.2.2 i_Mo hF.2.2.2.1 hK.1 hP 0 rfl rfl 4 (by decide) (hF.2.2.2.2 _ hlink) (fun _ h9 => h9) rfl hdg kk
theorem gn_Mo_interval (hF : CallFix p m c cc nL s args w_all own) (hK : kW_M dC dI cA s) (hP : va_P (dC, dI) classes (wM L cA ar sc) H) (hlink : Cond.fieldLinkNest own idx "InspectRowsModel" "interval" "[I" "InspectRowsModel" ∈ nw_all) (hdg : decode cc pc = .ok (.getfield idx, 3)) (kk : W p l e R s m args below meth c H locs cells slots Q (F0 m (pc + 3) ls (.ref (L 3) :: rest))) : W p l e R s m args below meth c H locs cells slots Q (F0 m pc ls (.ref (L 0) :: rest)) :=
  va_getN (D := (dC, dI)) (ci := 7) (v := .ref (L 3)) (C := R_Mo) (T := F_Mo) (N := 34) hF.1 hF.2.1 hF.2.2.2.2 i_Mo hF.2.2.2.1 hK.1 hP 0 rfl rfl 4 (by decide) (va_Nw.use rfl (hK.2 _ hlink)) (fun _ h9 => h9) rfl hdg kk
theorem gf_Mo_time (hF : CallFix p m c cc nL s args w_all own) (hK : kW_M dC dI cA s) (hP : va_P (dC, dI) classes (wM L cA ar sc) H) (hlink : Cond.fieldLink own idx "InspectRowsModel" "time" "[I" ∈ w_all) (hdg : decode cc pc = .ok (.getfield idx, 3)) (kk : W p l e R s m args below meth c H locs cells slots Q (F0 m (pc + 3) ls (.ref (L 4) :: rest))) : W p l e R s m args below meth c H locs cells slots Q (F0 m pc ls (.ref (L 0) :: rest)) :=
  va_get (D := (dC, dI)) (ci := 7) (v := .ref (L 4)) (C := R_Mo) (T := F_Mo) (N := 34) hF.1 hF.2.1 hF.2.2.2.2 i_Mo hF.2.2.2.1 hK.1 hP 0 rfl rfl 5 (by decide) (hF.2.2.2.2 _ hlink) (fun _ h9 => h9) rfl hdg kk
theorem gn_Mo_time (hF : CallFix p m c cc nL s args w_all own) (hK : kW_M dC dI cA s) (hP : va_P (dC, dI) classes (wM L cA ar sc) H) (hlink : Cond.fieldLinkNest own idx "InspectRowsModel" "time" "[I" "InspectRowsModel" ∈ nw_all) (hdg : decode cc pc = .ok (.getfield idx, 3)) (kk : W p l e R s m args below meth c H locs cells slots Q (F0 m (pc + 3) ls (.ref (L 4) :: rest))) : W p l e R s m args below meth c H locs cells slots Q (F0 m pc ls (.ref (L 0) :: rest)) :=
  va_getN (D := (dC, dI)) (ci := 7) (v := .ref (L 4)) (C := R_Mo) (T := F_Mo) (N := 34) hF.1 hF.2.1 hF.2.2.2.2 i_Mo hF.2.2.2.1 hK.1 hP 0 rfl rfl 5 (by decide) (va_Nw.use rfl (hK.2 _ hlink)) (fun _ h9 => h9) rfl hdg kk
theorem gf_Mo_points (hF : CallFix p m c cc nL s args w_all own) (hK : kW_M dC dI cA s) (hP : va_P (dC, dI) classes (wM L cA ar sc) H) (hlink : Cond.fieldLink own idx "InspectRowsModel" "points" "I" ∈ w_all) (hdg : decode cc pc = .ok (.getfield idx, 3)) (kk : W p l e R s m args below meth c H locs cells slots Q (F0 m (pc + 3) ls (.int (sc 2) :: rest))) : W p l e R s m args below meth c H locs cells slots Q (F0 m pc ls (.ref (L 0) :: rest)) :=
  va_get (D := (dC, dI)) (ci := 7) (v := .int (sc 2)) (C := R_Mo) (T := F_Mo) (N := 34) hF.1 hF.2.1 hF.2.2.2.2 i_Mo hF.2.2.2.1 hK.1 hP 0 rfl rfl 6 (by decide) (hF.2.2.2.2 _ hlink) (fun _ h9 => h9) rfl hdg kk
theorem pf_Mo_points {x : Int32} (hF : CallFix p m c cc nL s args w_all own) (hK : kW_M dC dI cA s) (hP : va_P (dC, dI) classes (wM L cA ar sc) H) (hL : ij 25 L) (hS : va_S (aM L) H0 H locs) (hlink : Cond.fieldLink own idx "InspectRowsModel" "points" "I" ∈ w_all) (hdg : decode cc pc = .ok (.putfield idx, 3)) (kk : ∀ (H1 : Heap) (locs1 : List Loc), va_P (dC, dI) classes (wM L cA ar (sg sc 2 x)) H1 → va_S (aM L) H0 H1 locs1 → W p l e R s m args below meth c H1 locs1 cells slots Q (F0 m (pc + 3) ls rest)) : W p l e R s m args below meth c H locs cells slots Q (F0 m pc ls (.int x :: .ref (L 0) :: rest)) :=
  va_put (D := (dC, dI)) (ci := 7) (v := .int x) (ty := .int) (C := R_Mo) (T := F_Mo) (N := 34) hF.1 hF.2.1 hF.2.2.2.2 i_Mo t_Mo t_Mo_ok n_Mo hF.2.2.2.1 hK.1 hP (wM_D hL) hS 0 rfl rfl 6 (by decide) (hF.2.2.2.2 _ hlink) (fun _ h9 => h9) rfl (by decide +kernel) rfl rfl (Nat.le_of_ble_eq_true rfl) hdg (fun H1 locs1 h1 _ h3 => kk H1 locs1 h1 h3)
theorem gn_Mo_points (hF : CallFix p m c cc nL s args w_all own) (hK : kW_M dC dI cA s) (hP : va_P (dC, dI) classes (wM L cA ar sc) H) (hlink : Cond.fieldLinkNest own idx "InspectRowsModel" "points" "I" "InspectRowsModel" ∈ nw_all) (hdg : decode cc pc = .ok (.getfield idx, 3)) (kk : W p l e R s m args below meth c H locs cells slots Q (F0 m (pc + 3) ls (.int (sc 2) :: rest))) : W p l e R s m args below meth c H locs cells slots Q (F0 m pc ls (.ref (L 0) :: rest)) :=
  va_getN (D := (dC, dI)) (ci := 7) (v := .int (sc 2)) (C := R_Mo) (T := F_Mo) (N := 34) hF.1 hF.2.1 hF.2.2.2.2 i_Mo hF.2.2.2.1 hK.1 hP 0 rfl rfl 6 (by decide) (va_Nw.use rfl (hK.2 _ hlink)) (fun _ h9 => h9) rfl hdg kk
theorem pn_Mo_points {x : Int32} (hF : CallFix p m c cc nL s args w_all own) (hK : kW_M dC dI cA s) (hP : va_P (dC, dI) classes (wM L cA ar sc) H) (hL : ij 25 L) (hS : va_S (aM L) H0 H locs) (hlink : Cond.fieldLinkNest own idx "InspectRowsModel" "points" "I" "InspectRowsModel" ∈ nw_all) (hdg : decode cc pc = .ok (.putfield idx, 3)) (kk : ∀ (H1 : Heap) (locs1 : List Loc), va_P (dC, dI) classes (wM L cA ar (sg sc 2 x)) H1 → va_S (aM L) H0 H1 locs1 → W p l e R s m args below meth c H1 locs1 cells slots Q (F0 m (pc + 3) ls rest)) : W p l e R s m args below meth c H locs cells slots Q (F0 m pc ls (.int x :: .ref (L 0) :: rest)) :=
  va_putN (D := (dC, dI)) (ci := 7) (v := .int x) (ty := .int) (C := R_Mo) (T := F_Mo) (N := 34) hF.1 hF.2.1 hF.2.2.2.2 i_Mo t_Mo t_Mo_ok n_Mo hF.2.2.2.1 hK.1 hP (wM_D hL) hS 0 rfl rfl 6 (by decide) (va_Nw.use rfl (hK.2 _ hlink)) (fun _ h9 => h9) rfl (by decide +kernel) rfl rfl (Nat.le_of_ble_eq_true rfl) hdg (fun H1 locs1 h1 _ h3 => kk H1 locs1 h1 h3)
theorem gf_Mo_kind (hF : CallFix p m c cc nL s args w_all own) (hK : kW_M dC dI cA s) (hP : va_P (dC, dI) classes (wM L cA ar sc) H) (hlink : Cond.fieldLink own idx "InspectRowsModel" "kind" "[I" ∈ w_all) (hdg : decode cc pc = .ok (.getfield idx, 3)) (kk : W p l e R s m args below meth c H locs cells slots Q (F0 m (pc + 3) ls (.ref (L 5) :: rest))) : W p l e R s m args below meth c H locs cells slots Q (F0 m pc ls (.ref (L 0) :: rest)) :=
  va_get (D := (dC, dI)) (ci := 7) (v := .ref (L 5)) (C := R_Mo) (T := F_Mo) (N := 34) hF.1 hF.2.1 hF.2.2.2.2 i_Mo hF.2.2.2.1 hK.1 hP 0 rfl rfl 7 (by decide) (hF.2.2.2.2 _ hlink) (fun _ h9 => h9) rfl hdg kk
theorem gn_Mo_kind (hF : CallFix p m c cc nL s args w_all own) (hK : kW_M dC dI cA s) (hP : va_P (dC, dI) classes (wM L cA ar sc) H) (hlink : Cond.fieldLinkNest own idx "InspectRowsModel" "kind" "[I" "InspectRowsModel" ∈ nw_all) (hdg : decode cc pc = .ok (.getfield idx, 3)) (kk : W p l e R s m args below meth c H locs cells slots Q (F0 m (pc + 3) ls (.ref (L 5) :: rest))) : W p l e R s m args below meth c H locs cells slots Q (F0 m pc ls (.ref (L 0) :: rest)) :=
  va_getN (D := (dC, dI)) (ci := 7) (v := .ref (L 5)) (C := R_Mo) (T := F_Mo) (N := 34) hF.1 hF.2.1 hF.2.2.2.2 i_Mo hF.2.2.2.1 hK.1 hP 0 rfl rfl 7 (by decide) (va_Nw.use rfl (hK.2 _ hlink)) (fun _ h9 => h9) rfl hdg kk
theorem gf_Mo_height (hF : CallFix p m c cc nL s args w_all own) (hK : kW_M dC dI cA s) (hP : va_P (dC, dI) classes (wM L cA ar sc) H) (hlink : Cond.fieldLink own idx "InspectRowsModel" "height" "[I" ∈ w_all) (hdg : decode cc pc = .ok (.getfield idx, 3)) (kk : W p l e R s m args below meth c H locs cells slots Q (F0 m (pc + 3) ls (.ref (L 6) :: rest))) : W p l e R s m args below meth c H locs cells slots Q (F0 m pc ls (.ref (L 0) :: rest)) :=
  va_get (D := (dC, dI)) (ci := 7) (v := .ref (L 6)) (C := R_Mo) (T := F_Mo) (N := 34) hF.1 hF.2.1 hF.2.2.2.2 i_Mo hF.2.2.2.1 hK.1 hP 0 rfl rfl 8 (by decide) (hF.2.2.2.2 _ hlink) (fun _ h9 => h9) rfl hdg kk
theorem gn_Mo_height (hF : CallFix p m c cc nL s args w_all own) (hK : kW_M dC dI cA s) (hP : va_P (dC, dI) classes (wM L cA ar sc) H) (hlink : Cond.fieldLinkNest own idx "InspectRowsModel" "height" "[I" "InspectRowsModel" ∈ nw_all) (hdg : decode cc pc = .ok (.getfield idx, 3)) (kk : W p l e R s m args below meth c H locs cells slots Q (F0 m (pc + 3) ls (.ref (L 6) :: rest))) : W p l e R s m args below meth c H locs cells slots Q (F0 m pc ls (.ref (L 0) :: rest)) :=
  va_getN (D := (dC, dI)) (ci := 7) (v := .ref (L 6)) (C := R_Mo) (T := F_Mo) (N := 34) hF.1 hF.2.1 hF.2.2.2.2 i_Mo hF.2.2.2.1 hK.1 hP 0 rfl rfl 8 (by decide) (va_Nw.use rfl (hK.2 _ hlink)) (fun _ h9 => h9) rfl hdg kk
theorem gf_Mo_people (hF : CallFix p m c cc nL s args w_all own) (hK : kW_M dC dI cA s) (hP : va_P (dC, dI) classes (wM L cA ar sc) H) (hlink : Cond.fieldLink own idx "InspectRowsModel" "people" "[I" ∈ w_all) (hdg : decode cc pc = .ok (.getfield idx, 3)) (kk : W p l e R s m args below meth c H locs cells slots Q (F0 m (pc + 3) ls (.ref (L 7) :: rest))) : W p l e R s m args below meth c H locs cells slots Q (F0 m pc ls (.ref (L 0) :: rest)) :=
  va_get (D := (dC, dI)) (ci := 7) (v := .ref (L 7)) (C := R_Mo) (T := F_Mo) (N := 34) hF.1 hF.2.1 hF.2.2.2.2 i_Mo hF.2.2.2.1 hK.1 hP 0 rfl rfl 9 (by decide) (hF.2.2.2.2 _ hlink) (fun _ h9 => h9) rfl hdg kk
theorem gn_Mo_people (hF : CallFix p m c cc nL s args w_all own) (hK : kW_M dC dI cA s) (hP : va_P (dC, dI) classes (wM L cA ar sc) H) (hlink : Cond.fieldLinkNest own idx "InspectRowsModel" "people" "[I" "InspectRowsModel" ∈ nw_all) (hdg : decode cc pc = .ok (.getfield idx, 3)) (kk : W p l e R s m args below meth c H locs cells slots Q (F0 m (pc + 3) ls (.ref (L 7) :: rest))) : W p l e R s m args below meth c H locs cells slots Q (F0 m pc ls (.ref (L 0) :: rest)) :=
  va_getN (D := (dC, dI)) (ci := 7) (v := .ref (L 7)) (C := R_Mo) (T := F_Mo) (N := 34) hF.1 hF.2.1 hF.2.2.2.2 i_Mo hF.2.2.2.1 hK.1 hP 0 rfl rfl 9 (by decide) (va_Nw.use rfl (hK.2 _ hlink)) (fun _ h9 => h9) rfl hdg kk
theorem gf_Mo_px (hF : CallFix p m c cc nL s args w_all own) (hK : kW_M dC dI cA s) (hP : va_P (dC, dI) classes (wM L cA ar sc) H) (hlink : Cond.fieldLink own idx "InspectRowsModel" "px" "[I" ∈ w_all) (hdg : decode cc pc = .ok (.getfield idx, 3)) (kk : W p l e R s m args below meth c H locs cells slots Q (F0 m (pc + 3) ls (.ref (L 8) :: rest))) : W p l e R s m args below meth c H locs cells slots Q (F0 m pc ls (.ref (L 0) :: rest)) :=
  va_get (D := (dC, dI)) (ci := 7) (v := .ref (L 8)) (C := R_Mo) (T := F_Mo) (N := 34) hF.1 hF.2.1 hF.2.2.2.2 i_Mo hF.2.2.2.1 hK.1 hP 0 rfl rfl 10 (by decide) (hF.2.2.2.2 _ hlink) (fun _ h9 => h9) rfl hdg kk
theorem gn_Mo_px (hF : CallFix p m c cc nL s args w_all own) (hK : kW_M dC dI cA s) (hP : va_P (dC, dI) classes (wM L cA ar sc) H) (hlink : Cond.fieldLinkNest own idx "InspectRowsModel" "px" "[I" "InspectRowsModel" ∈ nw_all) (hdg : decode cc pc = .ok (.getfield idx, 3)) (kk : W p l e R s m args below meth c H locs cells slots Q (F0 m (pc + 3) ls (.ref (L 8) :: rest))) : W p l e R s m args below meth c H locs cells slots Q (F0 m pc ls (.ref (L 0) :: rest)) :=
  va_getN (D := (dC, dI)) (ci := 7) (v := .ref (L 8)) (C := R_Mo) (T := F_Mo) (N := 34) hF.1 hF.2.1 hF.2.2.2.2 i_Mo hF.2.2.2.1 hK.1 hP 0 rfl rfl 10 (by decide) (va_Nw.use rfl (hK.2 _ hlink)) (fun _ h9 => h9) rfl hdg kk
theorem gf_Mo_py (hF : CallFix p m c cc nL s args w_all own) (hK : kW_M dC dI cA s) (hP : va_P (dC, dI) classes (wM L cA ar sc) H) (hlink : Cond.fieldLink own idx "InspectRowsModel" "py" "[I" ∈ w_all) (hdg : decode cc pc = .ok (.getfield idx, 3)) (kk : W p l e R s m args below meth c H locs cells slots Q (F0 m (pc + 3) ls (.ref (L 9) :: rest))) : W p l e R s m args below meth c H locs cells slots Q (F0 m pc ls (.ref (L 0) :: rest)) :=
  va_get (D := (dC, dI)) (ci := 7) (v := .ref (L 9)) (C := R_Mo) (T := F_Mo) (N := 34) hF.1 hF.2.1 hF.2.2.2.2 i_Mo hF.2.2.2.1 hK.1 hP 0 rfl rfl 11 (by decide) (hF.2.2.2.2 _ hlink) (fun _ h9 => h9) rfl hdg kk
theorem gn_Mo_py (hF : CallFix p m c cc nL s args w_all own) (hK : kW_M dC dI cA s) (hP : va_P (dC, dI) classes (wM L cA ar sc) H) (hlink : Cond.fieldLinkNest own idx "InspectRowsModel" "py" "[I" "InspectRowsModel" ∈ nw_all) (hdg : decode cc pc = .ok (.getfield idx, 3)) (kk : W p l e R s m args below meth c H locs cells slots Q (F0 m (pc + 3) ls (.ref (L 9) :: rest))) : W p l e R s m args below meth c H locs cells slots Q (F0 m pc ls (.ref (L 0) :: rest)) :=
  va_getN (D := (dC, dI)) (ci := 7) (v := .ref (L 9)) (C := R_Mo) (T := F_Mo) (N := 34) hF.1 hF.2.1 hF.2.2.2.2 i_Mo hF.2.2.2.1 hK.1 hP 0 rfl rfl 11 (by decide) (va_Nw.use rfl (hK.2 _ hlink)) (fun _ h9 => h9) rfl hdg kk
theorem gf_Mo_visited (hF : CallFix p m c cc nL s args w_all own) (hK : kW_M dC dI cA s) (hP : va_P (dC, dI) classes (wM L cA ar sc) H) (hlink : Cond.fieldLink own idx "InspectRowsModel" "visited" "[I" ∈ w_all) (hdg : decode cc pc = .ok (.getfield idx, 3)) (kk : W p l e R s m args below meth c H locs cells slots Q (F0 m (pc + 3) ls (.ref (L 10) :: rest))) : W p l e R s m args below meth c H locs cells slots Q (F0 m pc ls (.ref (L 0) :: rest)) :=
  va_get (D := (dC, dI)) (ci := 7) (v := .ref (L 10)) (C := R_Mo) (T := F_Mo) (N := 34) hF.1 hF.2.1 hF.2.2.2.2 i_Mo hF.2.2.2.1 hK.1 hP 0 rfl rfl 12 (by decide) (hF.2.2.2.2 _ hlink) (fun _ h9 => h9) rfl hdg kk
theorem gn_Mo_visited (hF : CallFix p m c cc nL s args w_all own) (hK : kW_M dC dI cA s) (hP : va_P (dC, dI) classes (wM L cA ar sc) H) (hlink : Cond.fieldLinkNest own idx "InspectRowsModel" "visited" "[I" "InspectRowsModel" ∈ nw_all) (hdg : decode cc pc = .ok (.getfield idx, 3)) (kk : W p l e R s m args below meth c H locs cells slots Q (F0 m (pc + 3) ls (.ref (L 10) :: rest))) : W p l e R s m args below meth c H locs cells slots Q (F0 m pc ls (.ref (L 0) :: rest)) :=
  va_getN (D := (dC, dI)) (ci := 7) (v := .ref (L 10)) (C := R_Mo) (T := F_Mo) (N := 34) hF.1 hF.2.1 hF.2.2.2.2 i_Mo hF.2.2.2.1 hK.1 hP 0 rfl rfl 12 (by decide) (va_Nw.use rfl (hK.2 _ hlink)) (fun _ h9 => h9) rfl hdg kk
theorem gf_Mo_findings (hF : CallFix p m c cc nL s args w_all own) (hK : kW_M dC dI cA s) (hP : va_P (dC, dI) classes (wM L cA ar sc) H) (hlink : Cond.fieldLink own idx "InspectRowsModel" "findings" "I" ∈ w_all) (hdg : decode cc pc = .ok (.getfield idx, 3)) (kk : W p l e R s m args below meth c H locs cells slots Q (F0 m (pc + 3) ls (.int (sc 3) :: rest))) : W p l e R s m args below meth c H locs cells slots Q (F0 m pc ls (.ref (L 0) :: rest)) :=
  va_get (D := (dC, dI)) (ci := 7) (v := .int (sc 3)) (C := R_Mo) (T := F_Mo) (N := 34) hF.1 hF.2.1 hF.2.2.2.2 i_Mo hF.2.2.2.1 hK.1 hP 0 rfl rfl 13 (by decide) (hF.2.2.2.2 _ hlink) (fun _ h9 => h9) rfl hdg kk
theorem pf_Mo_findings {x : Int32} (hF : CallFix p m c cc nL s args w_all own) (hK : kW_M dC dI cA s) (hP : va_P (dC, dI) classes (wM L cA ar sc) H) (hL : ij 25 L) (hS : va_S (aM L) H0 H locs) (hlink : Cond.fieldLink own idx "InspectRowsModel" "findings" "I" ∈ w_all) (hdg : decode cc pc = .ok (.putfield idx, 3)) (kk : ∀ (H1 : Heap) (locs1 : List Loc), va_P (dC, dI) classes (wM L cA ar (sg sc 3 x)) H1 → va_S (aM L) H0 H1 locs1 → W p l e R s m args below meth c H1 locs1 cells slots Q (F0 m (pc + 3) ls rest)) : W p l e R s m args below meth c H locs cells slots Q (F0 m pc ls (.int x :: .ref (L 0) :: rest)) :=
  va_put (D := (dC, dI)) (ci := 7) (v := .int x) (ty := .int) (C := R_Mo) (T := F_Mo) (N := 34) hF.1 hF.2.1 hF.2.2.2.2 i_Mo t_Mo t_Mo_ok n_Mo hF.2.2.2.1 hK.1 hP (wM_D hL) hS 0 rfl rfl 13 (by decide) (hF.2.2.2.2 _ hlink) (fun _ h9 => h9) rfl (by decide +kernel) rfl rfl (Nat.le_of_ble_eq_true rfl) hdg (fun H1 locs1 h1 _ h3 => kk H1 locs1 h1 h3)
theorem gn_Mo_findings (hF : CallFix p m c cc nL s args w_all own) (hK : kW_M dC dI cA s) (hP : va_P (dC, dI) classes (wM L cA ar sc) H) (hlink : Cond.fieldLinkNest own idx "InspectRowsModel" "findings" "I" "InspectRowsModel" ∈ nw_all) (hdg : decode cc pc = .ok (.getfield idx, 3)) (kk : W p l e R s m args below meth c H locs cells slots Q (F0 m (pc + 3) ls (.int (sc 3) :: rest))) : W p l e R s m args below meth c H locs cells slots Q (F0 m pc ls (.ref (L 0) :: rest)) :=
  va_getN (D := (dC, dI)) (ci := 7) (v := .int (sc 3)) (C := R_Mo) (T := F_Mo) (N := 34) hF.1 hF.2.1 hF.2.2.2.2 i_Mo hF.2.2.2.1 hK.1 hP 0 rfl rfl 13 (by decide) (va_Nw.use rfl (hK.2 _ hlink)) (fun _ h9 => h9) rfl hdg kk
theorem pn_Mo_findings {x : Int32} (hF : CallFix p m c cc nL s args w_all own) (hK : kW_M dC dI cA s) (hP : va_P (dC, dI) classes (wM L cA ar sc) H) (hL : ij 25 L) (hS : va_S (aM L) H0 H locs) (hlink : Cond.fieldLinkNest own idx "InspectRowsModel" "findings" "I" "InspectRowsModel" ∈ nw_all) (hdg : decode cc pc = .ok (.putfield idx, 3)) (kk : ∀ (H1 : Heap) (locs1 : List Loc), va_P (dC, dI) classes (wM L cA ar (sg sc 3 x)) H1 → va_S (aM L) H0 H1 locs1 → W p l e R s m args below meth c H1 locs1 cells slots Q (F0 m (pc + 3) ls rest)) : W p l e R s m args below meth c H locs cells slots Q (F0 m pc ls (.int x :: .ref (L 0) :: rest)) :=
  va_putN (D := (dC, dI)) (ci := 7) (v := .int x) (ty := .int) (C := R_Mo) (T := F_Mo) (N := 34) hF.1 hF.2.1 hF.2.2.2.2 i_Mo t_Mo t_Mo_ok n_Mo hF.2.2.2.1 hK.1 hP (wM_D hL) hS 0 rfl rfl 13 (by decide) (va_Nw.use rfl (hK.2 _ hlink)) (fun _ h9 => h9) rfl (by decide +kernel) rfl rfl (Nat.le_of_ble_eq_true rfl) hdg (fun H1 locs1 h1 _ h3 => kk H1 locs1 h1 h3)
theorem gf_Mo_of (hF : CallFix p m c cc nL s args w_all own) (hK : kW_M dC dI cA s) (hP : va_P (dC, dI) classes (wM L cA ar sc) H) (hlink : Cond.fieldLink own idx "InspectRowsModel" "of" "[I" ∈ w_all) (hdg : decode cc pc = .ok (.getfield idx, 3)) (kk : W p l e R s m args below meth c H locs cells slots Q (F0 m (pc + 3) ls (.ref (L 11) :: rest))) : W p l e R s m args below meth c H locs cells slots Q (F0 m pc ls (.ref (L 0) :: rest)) :=
  va_get (D := (dC, dI)) (ci := 7) (v := .ref (L 11)) (C := R_Mo) (T := F_Mo) (N := 34) hF.1 hF.2.1 hF.2.2.2.2 i_Mo hF.2.2.2.1 hK.1 hP 0 rfl rfl 14 (by decide) (hF.2.2.2.2 _ hlink) (fun _ h9 => h9) rfl hdg kk
theorem gn_Mo_of (hF : CallFix p m c cc nL s args w_all own) (hK : kW_M dC dI cA s) (hP : va_P (dC, dI) classes (wM L cA ar sc) H) (hlink : Cond.fieldLinkNest own idx "InspectRowsModel" "of" "[I" "InspectRowsModel" ∈ nw_all) (hdg : decode cc pc = .ok (.getfield idx, 3)) (kk : W p l e R s m args below meth c H locs cells slots Q (F0 m (pc + 3) ls (.ref (L 11) :: rest))) : W p l e R s m args below meth c H locs cells slots Q (F0 m pc ls (.ref (L 0) :: rest)) :=
  va_getN (D := (dC, dI)) (ci := 7) (v := .ref (L 11)) (C := R_Mo) (T := F_Mo) (N := 34) hF.1 hF.2.1 hF.2.2.2.2 i_Mo hF.2.2.2.1 hK.1 hP 0 rfl rfl 14 (by decide) (va_Nw.use rfl (hK.2 _ hlink)) (fun _ h9 => h9) rfl hdg kk
theorem gf_Mo_heavy (hF : CallFix p m c cc nL s args w_all own) (hK : kW_M dC dI cA s) (hP : va_P (dC, dI) classes (wM L cA ar sc) H) (hlink : Cond.fieldLink own idx "InspectRowsModel" "heavy" "[I" ∈ w_all) (hdg : decode cc pc = .ok (.getfield idx, 3)) (kk : W p l e R s m args below meth c H locs cells slots Q (F0 m (pc + 3) ls (.ref (L 12) :: rest))) : W p l e R s m args below meth c H locs cells slots Q (F0 m pc ls (.ref (L 0) :: rest)) :=
  va_get (D := (dC, dI)) (ci := 7) (v := .ref (L 12)) (C := R_Mo) (T := F_Mo) (N := 34) hF.1 hF.2.1 hF.2.2.2.2 i_Mo hF.2.2.2.1 hK.1 hP 0 rfl rfl 15 (by decide) (hF.2.2.2.2 _ hlink) (fun _ h9 => h9) rfl hdg kk
theorem gn_Mo_heavy (hF : CallFix p m c cc nL s args w_all own) (hK : kW_M dC dI cA s) (hP : va_P (dC, dI) classes (wM L cA ar sc) H) (hlink : Cond.fieldLinkNest own idx "InspectRowsModel" "heavy" "[I" "InspectRowsModel" ∈ nw_all) (hdg : decode cc pc = .ok (.getfield idx, 3)) (kk : W p l e R s m args below meth c H locs cells slots Q (F0 m (pc + 3) ls (.ref (L 12) :: rest))) : W p l e R s m args below meth c H locs cells slots Q (F0 m pc ls (.ref (L 0) :: rest)) :=
  va_getN (D := (dC, dI)) (ci := 7) (v := .ref (L 12)) (C := R_Mo) (T := F_Mo) (N := 34) hF.1 hF.2.1 hF.2.2.2.2 i_Mo hF.2.2.2.1 hK.1 hP 0 rfl rfl 15 (by decide) (va_Nw.use rfl (hK.2 _ hlink)) (fun _ h9 => h9) rfl hdg kk
theorem gf_Mo_until (hF : CallFix p m c cc nL s args w_all own) (hK : kW_M dC dI cA s) (hP : va_P (dC, dI) classes (wM L cA ar sc) H) (hlink : Cond.fieldLink own idx "InspectRowsModel" "until" "[I" ∈ w_all) (hdg : decode cc pc = .ok (.getfield idx, 3)) (kk : W p l e R s m args below meth c H locs cells slots Q (F0 m (pc + 3) ls (.ref (L 13) :: rest))) : W p l e R s m args below meth c H locs cells slots Q (F0 m pc ls (.ref (L 0) :: rest)) :=
  va_get (D := (dC, dI)) (ci := 7) (v := .ref (L 13)) (C := R_Mo) (T := F_Mo) (N := 34) hF.1 hF.2.1 hF.2.2.2.2 i_Mo hF.2.2.2.1 hK.1 hP 0 rfl rfl 16 (by decide) (hF.2.2.2.2 _ hlink) (fun _ h9 => h9) rfl hdg kk
theorem gn_Mo_until (hF : CallFix p m c cc nL s args w_all own) (hK : kW_M dC dI cA s) (hP : va_P (dC, dI) classes (wM L cA ar sc) H) (hlink : Cond.fieldLinkNest own idx "InspectRowsModel" "until" "[I" "InspectRowsModel" ∈ nw_all) (hdg : decode cc pc = .ok (.getfield idx, 3)) (kk : W p l e R s m args below meth c H locs cells slots Q (F0 m (pc + 3) ls (.ref (L 13) :: rest))) : W p l e R s m args below meth c H locs cells slots Q (F0 m pc ls (.ref (L 0) :: rest)) :=
  va_getN (D := (dC, dI)) (ci := 7) (v := .ref (L 13)) (C := R_Mo) (T := F_Mo) (N := 34) hF.1 hF.2.1 hF.2.2.2.2 i_Mo hF.2.2.2.1 hK.1 hP 0 rfl rfl 16 (by decide) (va_Nw.use rfl (hK.2 _ hlink)) (fun _ h9 => h9) rfl hdg kk
theorem gf_Mo_proof (hF : CallFix p m c cc nL s args w_all own) (hK : kW_M dC dI cA s) (hP : va_P (dC, dI) classes (wM L cA ar sc) H) (hlink : Cond.fieldLink own idx "InspectRowsModel" "proof" "[I" ∈ w_all) (hdg : decode cc pc = .ok (.getfield idx, 3)) (kk : W p l e R s m args below meth c H locs cells slots Q (F0 m (pc + 3) ls (.ref (L 14) :: rest))) : W p l e R s m args below meth c H locs cells slots Q (F0 m pc ls (.ref (L 0) :: rest)) :=
  va_get (D := (dC, dI)) (ci := 7) (v := .ref (L 14)) (C := R_Mo) (T := F_Mo) (N := 34) hF.1 hF.2.1 hF.2.2.2.2 i_Mo hF.2.2.2.1 hK.1 hP 0 rfl rfl 17 (by decide) (hF.2.2.2.2 _ hlink) (fun _ h9 => h9) rfl hdg kk
theorem gn_Mo_proof (hF : CallFix p m c cc nL s args w_all own) (hK : kW_M dC dI cA s) (hP : va_P (dC, dI) classes (wM L cA ar sc) H) (hlink : Cond.fieldLinkNest own idx "InspectRowsModel" "proof" "[I" "InspectRowsModel" ∈ nw_all) (hdg : decode cc pc = .ok (.getfield idx, 3)) (kk : W p l e R s m args below meth c H locs cells slots Q (F0 m (pc + 3) ls (.ref (L 14) :: rest))) : W p l e R s m args below meth c H locs cells slots Q (F0 m pc ls (.ref (L 0) :: rest)) :=
  va_getN (D := (dC, dI)) (ci := 7) (v := .ref (L 14)) (C := R_Mo) (T := F_Mo) (N := 34) hF.1 hF.2.1 hF.2.2.2.2 i_Mo hF.2.2.2.1 hK.1 hP 0 rfl rfl 17 (by decide) (va_Nw.use rfl (hK.2 _ hlink)) (fun _ h9 => h9) rfl hdg kk
theorem gf_Mo_told (hF : CallFix p m c cc nL s args w_all own) (hK : kW_M dC dI cA s) (hP : va_P (dC, dI) classes (wM L cA ar sc) H) (hlink : Cond.fieldLink own idx "InspectRowsModel" "told" "[Z" ∈ w_all) (hdg : decode cc pc = .ok (.getfield idx, 3)) (kk : W p l e R s m args below meth c H locs cells slots Q (F0 m (pc + 3) ls (.ref (L 15) :: rest))) : W p l e R s m args below meth c H locs cells slots Q (F0 m pc ls (.ref (L 0) :: rest)) :=
  va_get (D := (dC, dI)) (ci := 7) (v := .ref (L 15)) (C := R_Mo) (T := F_Mo) (N := 34) hF.1 hF.2.1 hF.2.2.2.2 i_Mo hF.2.2.2.1 hK.1 hP 0 rfl rfl 18 (by decide) (hF.2.2.2.2 _ hlink) (fun _ h9 => h9) rfl hdg kk
theorem gn_Mo_told (hF : CallFix p m c cc nL s args w_all own) (hK : kW_M dC dI cA s) (hP : va_P (dC, dI) classes (wM L cA ar sc) H) (hlink : Cond.fieldLinkNest own idx "InspectRowsModel" "told" "[Z" "InspectRowsModel" ∈ nw_all) (hdg : decode cc pc = .ok (.getfield idx, 3)) (kk : W p l e R s m args below meth c H locs cells slots Q (F0 m (pc + 3) ls (.ref (L 15) :: rest))) : W p l e R s m args below meth c H locs cells slots Q (F0 m pc ls (.ref (L 0) :: rest)) :=
  va_getN (D := (dC, dI)) (ci := 7) (v := .ref (L 15)) (C := R_Mo) (T := F_Mo) (N := 34) hF.1 hF.2.1 hF.2.2.2.2 i_Mo hF.2.2.2.1 hK.1 hP 0 rfl rfl 18 (by decide) (va_Nw.use rfl (hK.2 _ hlink)) (fun _ h9 => h9) rfl hdg kk
theorem gf_Mo_yes (hF : CallFix p m c cc nL s args w_all own) (hK : kW_M dC dI cA s) (hP : va_P (dC, dI) classes (wM L cA ar sc) H) (hlink : Cond.fieldLink own idx "InspectRowsModel" "yes" "[I" ∈ w_all) (hdg : decode cc pc = .ok (.getfield idx, 3)) (kk : W p l e R s m args below meth c H locs cells slots Q (F0 m (pc + 3) ls (.ref (L 16) :: rest))) : W p l e R s m args below meth c H locs cells slots Q (F0 m pc ls (.ref (L 0) :: rest)) :=
  va_get (D := (dC, dI)) (ci := 7) (v := .ref (L 16)) (C := R_Mo) (T := F_Mo) (N := 34) hF.1 hF.2.1 hF.2.2.2.2 i_Mo hF.2.2.2.1 hK.1 hP 0 rfl rfl 19 (by decide) (hF.2.2.2.2 _ hlink) (fun _ h9 => h9) rfl hdg kk
theorem gn_Mo_yes (hF : CallFix p m c cc nL s args w_all own) (hK : kW_M dC dI cA s) (hP : va_P (dC, dI) classes (wM L cA ar sc) H) (hlink : Cond.fieldLinkNest own idx "InspectRowsModel" "yes" "[I" "InspectRowsModel" ∈ nw_all) (hdg : decode cc pc = .ok (.getfield idx, 3)) (kk : W p l e R s m args below meth c H locs cells slots Q (F0 m (pc + 3) ls (.ref (L 16) :: rest))) : W p l e R s m args below meth c H locs cells slots Q (F0 m pc ls (.ref (L 0) :: rest)) :=
  va_getN (D := (dC, dI)) (ci := 7) (v := .ref (L 16)) (C := R_Mo) (T := F_Mo) (N := 34) hF.1 hF.2.1 hF.2.2.2.2 i_Mo hF.2.2.2.1 hK.1 hP 0 rfl rfl 19 (by decide) (va_Nw.use rfl (hK.2 _ hlink)) (fun _ h9 => h9) rfl hdg kk
theorem gf_Mo_no (hF : CallFix p m c cc nL s args w_all own) (hK : kW_M dC dI cA s) (hP : va_P (dC, dI) classes (wM L cA ar sc) H) (hlink : Cond.fieldLink own idx "InspectRowsModel" "no" "[I" ∈ w_all) (hdg : decode cc pc = .ok (.getfield idx, 3)) (kk : W p l e R s m args below meth c H locs cells slots Q (F0 m (pc + 3) ls (.ref (L 17) :: rest))) : W p l e R s m args below meth c H locs cells slots Q (F0 m pc ls (.ref (L 0) :: rest)) :=
  va_get (D := (dC, dI)) (ci := 7) (v := .ref (L 17)) (C := R_Mo) (T := F_Mo) (N := 34) hF.1 hF.2.1 hF.2.2.2.2 i_Mo hF.2.2.2.1 hK.1 hP 0 rfl rfl 20 (by decide) (hF.2.2.2.2 _ hlink) (fun _ h9 => h9) rfl hdg kk
theorem gn_Mo_no (hF : CallFix p m c cc nL s args w_all own) (hK : kW_M dC dI cA s) (hP : va_P (dC, dI) classes (wM L cA ar sc) H) (hlink : Cond.fieldLinkNest own idx "InspectRowsModel" "no" "[I" "InspectRowsModel" ∈ nw_all) (hdg : decode cc pc = .ok (.getfield idx, 3)) (kk : W p l e R s m args below meth c H locs cells slots Q (F0 m (pc + 3) ls (.ref (L 17) :: rest))) : W p l e R s m args below meth c H locs cells slots Q (F0 m pc ls (.ref (L 0) :: rest)) :=
  va_getN (D := (dC, dI)) (ci := 7) (v := .ref (L 17)) (C := R_Mo) (T := F_Mo) (N := 34) hF.1 hF.2.1 hF.2.2.2.2 i_Mo hF.2.2.2.1 hK.1 hP 0 rfl rfl 20 (by decide) (va_Nw.use rfl (hK.2 _ hlink)) (fun _ h9 => h9) rfl hdg kk
theorem gf_Mo_bad (hF : CallFix p m c cc nL s args w_all own) (hK : kW_M dC dI cA s) (hP : va_P (dC, dI) classes (wM L cA ar sc) H) (hlink : Cond.fieldLink own idx "InspectRowsModel" "bad" "[I" ∈ w_all) (hdg : decode cc pc = .ok (.getfield idx, 3)) (kk : W p l e R s m args below meth c H locs cells slots Q (F0 m (pc + 3) ls (.ref (L 18) :: rest))) : W p l e R s m args below meth c H locs cells slots Q (F0 m pc ls (.ref (L 0) :: rest)) :=
  va_get (D := (dC, dI)) (ci := 7) (v := .ref (L 18)) (C := R_Mo) (T := F_Mo) (N := 34) hF.1 hF.2.1 hF.2.2.2.2 i_Mo hF.2.2.2.1 hK.1 hP 0 rfl rfl 21 (by decide) (hF.2.2.2.2 _ hlink) (fun _ h9 => h9) rfl hdg kk
theorem gn_Mo_bad (hF : CallFix p m c cc nL s args w_all own) (hK : kW_M dC dI cA s) (hP : va_P (dC, dI) classes (wM L cA ar sc) H) (hlink : Cond.fieldLinkNest own idx "InspectRowsModel" "bad" "[I" "InspectRowsModel" ∈ nw_all) (hdg : decode cc pc = .ok (.getfield idx, 3)) (kk : W p l e R s m args below meth c H locs cells slots Q (F0 m (pc + 3) ls (.ref (L 18) :: rest))) : W p l e R s m args below meth c H locs cells slots Q (F0 m pc ls (.ref (L 0) :: rest)) :=
  va_getN (D := (dC, dI)) (ci := 7) (v := .ref (L 18)) (C := R_Mo) (T := F_Mo) (N := 34) hF.1 hF.2.1 hF.2.2.2.2 i_Mo hF.2.2.2.1 hK.1 hP 0 rfl rfl 21 (by decide) (va_Nw.use rfl (hK.2 _ hlink)) (fun _ h9 => h9) rfl hdg kk
theorem gf_Mo_stops (hF : CallFix p m c cc nL s args w_all own) (hK : kW_M dC dI cA s) (hP : va_P (dC, dI) classes (wM L cA ar sc) H) (hlink : Cond.fieldLink own idx "InspectRowsModel" "stops" "I" ∈ w_all) (hdg : decode cc pc = .ok (.getfield idx, 3)) (kk : W p l e R s m args below meth c H locs cells slots Q (F0 m (pc + 3) ls (.int (sc 4) :: rest))) : W p l e R s m args below meth c H locs cells slots Q (F0 m pc ls (.ref (L 0) :: rest)) :=
  va_get (D := (dC, dI)) (ci := 7) (v := .int (sc 4)) (C := R_Mo) (T := F_Mo) (N := 34) hF.1 hF.2.1 hF.2.2.2.2 i_Mo hF.2.2.2.1 hK.1 hP 0 rfl rfl 22 (by decide) (hF.2.2.2.2 _ hlink) (fun _ h9 => h9) rfl hdg kk
theorem pf_Mo_stops {x : Int32} (hF : CallFix p m c cc nL s args w_all own) (hK : kW_M dC dI cA s) (hP : va_P (dC, dI) classes (wM L cA ar sc) H) (hL : ij 25 L) (hS : va_S (aM L) H0 H locs) (hlink : Cond.fieldLink own idx "InspectRowsModel" "stops" "I" ∈ w_all) (hdg : decode cc pc = .ok (.putfield idx, 3)) (kk : ∀ (H1 : Heap) (locs1 : List Loc), va_P (dC, dI) classes (wM L cA ar (sg sc 4 x)) H1 → va_S (aM L) H0 H1 locs1 → W p l e R s m args below meth c H1 locs1 cells slots Q (F0 m (pc + 3) ls rest)) : W p l e R s m args below meth c H locs cells slots Q (F0 m pc ls (.int x :: .ref (L 0) :: rest)) :=
  va_put (D := (dC, dI)) (ci := 7) (v := .int x) (ty := .int) (C := R_Mo) (T := F_Mo) (N := 34) hF.1 hF.2.1 hF.2.2.2.2 i_Mo t_Mo t_Mo_ok n_Mo hF.2.2.2.1 hK.1 hP (wM_D hL) hS 0 rfl rfl 22 (by decide) (hF.2.2.2.2 _ hlink) (fun _ h9 => h9) rfl (by decide +kernel) rfl rfl (Nat.le_of_ble_eq_true rfl) hdg (fun H1 locs1 h1 _ h3 => kk H1 locs1 h1 h3)
theorem gn_Mo_stops (hF : CallFix p m c cc nL s args w_all own) (hK : kW_M dC dI cA s) (hP : va_P (dC, dI) classes (wM L cA ar sc) H) (hlink : Cond.fieldLinkNest own idx "InspectRowsModel" "stops" "I" "InspectRowsModel" ∈ nw_all) (hdg : decode cc pc = .ok (.getfield idx, 3)) (kk : W p l e R s m args below meth c H locs cells slots Q (F0 m (pc + 3) ls (.int (sc 4) :: rest))) : W p l e R s m args below meth c H locs cells slots Q (F0 m pc ls (.ref (L 0) :: rest)) :=
  va_getN (D := (dC, dI)) (ci := 7) (v := .int (sc 4)) (C := R_Mo) (T := F_Mo) (N := 34) hF.1 hF.2.1 hF.2.2.2.2 i_Mo hF.2.2.2.1 hK.1 hP 0 rfl rfl 22 (by decide) (va_Nw.use rfl (hK.2 _ hlink)) (fun _ h9 => h9) rfl hdg kk
theorem pn_Mo_stops {x : Int32} (hF : CallFix p m c cc nL s args w_all own) (hK : kW_M dC dI cA s) (hP : va_P (dC, dI) classes (wM L cA ar sc) H) (hL : ij 25 L) (hS : va_S (aM L) H0 H locs) (hlink : Cond.fieldLinkNest own idx "InspectRowsModel" "stops" "I" "InspectRowsModel" ∈ nw_all) (hdg : decode cc pc = .ok (.putfield idx, 3)) (kk : ∀ (H1 : Heap) (locs1 : List Loc), va_P (dC, dI) classes (wM L cA ar (sg sc 4 x)) H1 → va_S (aM L) H0 H1 locs1 → W p l e R s m args below meth c H1 locs1 cells slots Q (F0 m (pc + 3) ls rest)) : W p l e R s m args below meth c H locs cells slots Q (F0 m pc ls (.int x :: .ref (L 0) :: rest)) :=
  va_putN (D := (dC, dI)) (ci := 7) (v := .int x) (ty := .int) (C := R_Mo) (T := F_Mo) (N := 34) hF.1 hF.2.1 hF.2.2.2.2 i_Mo t_Mo t_Mo_ok n_Mo hF.2.2.2.1 hK.1 hP (wM_D hL) hS 0 rfl rfl 22 (by decide) (va_Nw.use rfl (hK.2 _ hlink)) (fun _ h9 => h9) rfl (by decide +kernel) rfl rfl (Nat.le_of_ble_eq_true rfl) hdg (fun H1 locs1 h1 _ h3 => kk H1 locs1 h1 h3)
theorem gf_Mo_stop (hF : CallFix p m c cc nL s args w_all own) (hK : kW_M dC dI cA s) (hP : va_P (dC, dI) classes (wM L cA ar sc) H) (hlink : Cond.fieldLink own idx "InspectRowsModel" "stop" "[I" ∈ w_all) (hdg : decode cc pc = .ok (.getfield idx, 3)) (kk : W p l e R s m args below meth c H locs cells slots Q (F0 m (pc + 3) ls (.ref (L 19) :: rest))) : W p l e R s m args below meth c H locs cells slots Q (F0 m pc ls (.ref (L 0) :: rest)) :=
  va_get (D := (dC, dI)) (ci := 7) (v := .ref (L 19)) (C := R_Mo) (T := F_Mo) (N := 34) hF.1 hF.2.1 hF.2.2.2.2 i_Mo hF.2.2.2.1 hK.1 hP 0 rfl rfl 23 (by decide) (hF.2.2.2.2 _ hlink) (fun _ h9 => h9) rfl hdg kk
theorem gn_Mo_stop (hF : CallFix p m c cc nL s args w_all own) (hK : kW_M dC dI cA s) (hP : va_P (dC, dI) classes (wM L cA ar sc) H) (hlink : Cond.fieldLinkNest own idx "InspectRowsModel" "stop" "[I" "InspectRowsModel" ∈ nw_all) (hdg : decode cc pc = .ok (.getfield idx, 3)) (kk : W p l e R s m args below meth c H locs cells slots Q (F0 m (pc + 3) ls (.ref (L 19) :: rest))) : W p l e R s m args below meth c H locs cells slots Q (F0 m pc ls (.ref (L 0) :: rest)) :=
  va_getN (D := (dC, dI)) (ci := 7) (v := .ref (L 19)) (C := R_Mo) (T := F_Mo) (N := 34) hF.1 hF.2.1 hF.2.2.2.2 i_Mo hF.2.2.2.1 hK.1 hP 0 rfl rfl 23 (by decide) (va_Nw.use rfl (hK.2 _ hlink)) (fun _ h9 => h9) rfl hdg kk
theorem gf_Mo_list (hF : CallFix p m c cc nL s args w_all own) (hK : kW_M dC dI cA s) (hP : va_P (dC, dI) classes (wM L cA ar sc) H) (hlink : Cond.fieldLink own idx "InspectRowsModel" "list" "[I" ∈ w_all) (hdg : decode cc pc = .ok (.getfield idx, 3)) (kk : W p l e R s m args below meth c H locs cells slots Q (F0 m (pc + 3) ls (.ref (L 20) :: rest))) : W p l e R s m args below meth c H locs cells slots Q (F0 m pc ls (.ref (L 0) :: rest)) :=
  va_get (D := (dC, dI)) (ci := 7) (v := .ref (L 20)) (C := R_Mo) (T := F_Mo) (N := 34) hF.1 hF.2.1 hF.2.2.2.2 i_Mo hF.2.2.2.1 hK.1 hP 0 rfl rfl 24 (by decide) (hF.2.2.2.2 _ hlink) (fun _ h9 => h9) rfl hdg kk
theorem gn_Mo_list (hF : CallFix p m c cc nL s args w_all own) (hK : kW_M dC dI cA s) (hP : va_P (dC, dI) classes (wM L cA ar sc) H) (hlink : Cond.fieldLinkNest own idx "InspectRowsModel" "list" "[I" "InspectRowsModel" ∈ nw_all) (hdg : decode cc pc = .ok (.getfield idx, 3)) (kk : W p l e R s m args below meth c H locs cells slots Q (F0 m (pc + 3) ls (.ref (L 20) :: rest))) : W p l e R s m args below meth c H locs cells slots Q (F0 m pc ls (.ref (L 0) :: rest)) :=
  va_getN (D := (dC, dI)) (ci := 7) (v := .ref (L 20)) (C := R_Mo) (T := F_Mo) (N := 34) hF.1 hF.2.1 hF.2.2.2.2 i_Mo hF.2.2.2.1 hK.1 hP 0 rfl rfl 24 (by decide) (va_Nw.use rfl (hK.2 _ hlink)) (fun _ h9 => h9) rfl hdg kk
theorem gf_Mo_least (hF : CallFix p m c cc nL s args w_all own) (hK : kW_M dC dI cA s) (hP : va_P (dC, dI) classes (wM L cA ar sc) H) (hlink : Cond.fieldLink own idx "InspectRowsModel" "least" "[I" ∈ w_all) (hdg : decode cc pc = .ok (.getfield idx, 3)) (kk : W p l e R s m args below meth c H locs cells slots Q (F0 m (pc + 3) ls (.ref (L 21) :: rest))) : W p l e R s m args below meth c H locs cells slots Q (F0 m pc ls (.ref (L 0) :: rest)) :=
  va_get (D := (dC, dI)) (ci := 7) (v := .ref (L 21)) (C := R_Mo) (T := F_Mo) (N := 34) hF.1 hF.2.1 hF.2.2.2.2 i_Mo hF.2.2.2.1 hK.1 hP 0 rfl rfl 25 (by decide) (hF.2.2.2.2 _ hlink) (fun _ h9 => h9) rfl hdg kk
theorem gn_Mo_least (hF : CallFix p m c cc nL s args w_all own) (hK : kW_M dC dI cA s) (hP : va_P (dC, dI) classes (wM L cA ar sc) H) (hlink : Cond.fieldLinkNest own idx "InspectRowsModel" "least" "[I" "InspectRowsModel" ∈ nw_all) (hdg : decode cc pc = .ok (.getfield idx, 3)) (kk : W p l e R s m args below meth c H locs cells slots Q (F0 m (pc + 3) ls (.ref (L 21) :: rest))) : W p l e R s m args below meth c H locs cells slots Q (F0 m pc ls (.ref (L 0) :: rest)) :=
  va_getN (D := (dC, dI)) (ci := 7) (v := .ref (L 21)) (C := R_Mo) (T := F_Mo) (N := 34) hF.1 hF.2.1 hF.2.2.2.2 i_Mo hF.2.2.2.1 hK.1 hP 0 rfl rfl 25 (by decide) (va_Nw.use rfl (hK.2 _ hlink)) (fun _ h9 => h9) rfl hdg kk
theorem gf_Mo_space (hF : CallFix p m c cc nL s args w_all own) (hK : kW_M dC dI cA s) (hP : va_P (dC, dI) classes (wM L cA ar sc) H) (hlink : Cond.fieldLink own idx "InspectRowsModel" "space" "I" ∈ w_all) (hdg : decode cc pc = .ok (.getfield idx, 3)) (kk : W p l e R s m args below meth c H locs cells slots Q (F0 m (pc + 3) ls (.int (sc 5) :: rest))) : W p l e R s m args below meth c H locs cells slots Q (F0 m pc ls (.ref (L 0) :: rest)) :=
  va_get (D := (dC, dI)) (ci := 7) (v := .int (sc 5)) (C := R_Mo) (T := F_Mo) (N := 34) hF.1 hF.2.1 hF.2.2.2.2 i_Mo hF.2.2.2.1 hK.1 hP 0 rfl rfl 26 (by decide) (hF.2.2.2.2 _ hlink) (fun _ h9 => h9) rfl hdg kk
theorem pf_Mo_space {x : Int32} (hF : CallFix p m c cc nL s args w_all own) (hK : kW_M dC dI cA s) (hP : va_P (dC, dI) classes (wM L cA ar sc) H) (hL : ij 25 L) (hS : va_S (aM L) H0 H locs) (hlink : Cond.fieldLink own idx "InspectRowsModel" "space" "I" ∈ w_all) (hdg : decode cc pc = .ok (.putfield idx, 3)) (kk : ∀ (H1 : Heap) (locs1 : List Loc), va_P (dC, dI) classes (wM L cA ar (sg sc 5 x)) H1 → va_S (aM L) H0 H1 locs1 → W p l e R s m args below meth c H1 locs1 cells slots Q (F0 m (pc + 3) ls rest)) : W p l e R s m args below meth c H locs cells slots Q (F0 m pc ls (.int x :: .ref (L 0) :: rest)) :=
  va_put (D := (dC, dI)) (ci := 7) (v := .int x) (ty := .int) (C := R_Mo) (T := F_Mo) (N := 34) hF.1 hF.2.1 hF.2.2.2.2 i_Mo t_Mo t_Mo_ok n_Mo hF.2.2.2.1 hK.1 hP (wM_D hL) hS 0 rfl rfl 26 (by decide) (hF.2.2.2.2 _ hlink) (fun _ h9 => h9) rfl (by decide +kernel) rfl rfl (Nat.le_of_ble_eq_true rfl) hdg (fun H1 locs1 h1 _ h3 => kk H1 locs1 h1 h3)
theorem gn_Mo_space (hF : CallFix p m c cc nL s args w_all own) (hK : kW_M dC dI cA s) (hP : va_P (dC, dI) classes (wM L cA ar sc) H) (hlink : Cond.fieldLinkNest own idx "InspectRowsModel" "space" "I" "InspectRowsModel" ∈ nw_all) (hdg : decode cc pc = .ok (.getfield idx, 3)) (kk : W p l e R s m args below meth c H locs cells slots Q (F0 m (pc + 3) ls (.int (sc 5) :: rest))) : W p l e R s m args below meth c H locs cells slots Q (F0 m pc ls (.ref (L 0) :: rest)) :=
  va_getN (D := (dC, dI)) (ci := 7) (v := .int (sc 5)) (C := R_Mo) (T := F_Mo) (N := 34) hF.1 hF.2.1 hF.2.2.2.2 i_Mo hF.2.2.2.1 hK.1 hP 0 rfl rfl 26 (by decide) (va_Nw.use rfl (hK.2 _ hlink)) (fun _ h9 => h9) rfl hdg kk
theorem pn_Mo_space {x : Int32} (hF : CallFix p m c cc nL s args w_all own) (hK : kW_M dC dI cA s) (hP : va_P (dC, dI) classes (wM L cA ar sc) H) (hL : ij 25 L) (hS : va_S (aM L) H0 H locs) (hlink : Cond.fieldLinkNest own idx "InspectRowsModel" "space" "I" "InspectRowsModel" ∈ nw_all) (hdg : decode cc pc = .ok (.putfield idx, 3)) (kk : ∀ (H1 : Heap) (locs1 : List Loc), va_P (dC, dI) classes (wM L cA ar (sg sc 5 x)) H1 → va_S (aM L) H0 H1 locs1 → W p l e R s m args below meth c H1 locs1 cells slots Q (F0 m (pc + 3) ls rest)) : W p l e R s m args below meth c H locs cells slots Q (F0 m pc ls (.int x :: .ref (L 0) :: rest)) :=
  va_putN (D := (dC, dI)) (ci := 7) (v := .int x) (ty := .int) (C := R_Mo) (T := F_Mo) (N := 34) hF.1 hF.2.1 hF.2.2.2.2 i_Mo t_Mo t_Mo_ok n_Mo hF.2.2.2.1 hK.1 hP (wM_D hL) hS 0 rfl rfl 26 (by decide) (va_Nw.use rfl (hK.2 _ hlink)) (fun _ h9 => h9) rfl (by decide +kernel) rfl rfl (Nat.le_of_ble_eq_true rfl) hdg (fun H1 locs1 h1 _ h3 => kk H1 locs1 h1 h3)
theorem gf_Mo_distance (hF : CallFix p m c cc nL s args w_all own) (hK : kW_M dC dI cA s) (hP : va_P (dC, dI) classes (wM L cA ar sc) H) (hlink : Cond.fieldLink own idx "InspectRowsModel" "distance" "I" ∈ w_all) (hdg : decode cc pc = .ok (.getfield idx, 3)) (kk : W p l e R s m args below meth c H locs cells slots Q (F0 m (pc + 3) ls (.int (sc 6) :: rest))) : W p l e R s m args below meth c H locs cells slots Q (F0 m pc ls (.ref (L 0) :: rest)) :=
  va_get (D := (dC, dI)) (ci := 7) (v := .int (sc 6)) (C := R_Mo) (T := F_Mo) (N := 34) hF.1 hF.2.1 hF.2.2.2.2 i_Mo hF.2.2.2.1 hK.1 hP 0 rfl rfl 27 (by decide) (hF.2.2.2.2 _ hlink) (fun _ h9 => h9) rfl hdg kk
theorem pf_Mo_distance {x : Int32} (hF : CallFix p m c cc nL s args w_all own) (hK : kW_M dC dI cA s) (hP : va_P (dC, dI) classes (wM L cA ar sc) H) (hL : ij 25 L) (hS : va_S (aM L) H0 H locs) (hlink : Cond.fieldLink own idx "InspectRowsModel" "distance" "I" ∈ w_all) (hdg : decode cc pc = .ok (.putfield idx, 3)) (kk : ∀ (H1 : Heap) (locs1 : List Loc), va_P (dC, dI) classes (wM L cA ar (sg sc 6 x)) H1 → va_S (aM L) H0 H1 locs1 → W p l e R s m args below meth c H1 locs1 cells slots Q (F0 m (pc + 3) ls rest)) : W p l e R s m args below meth c H locs cells slots Q (F0 m pc ls (.int x :: .ref (L 0) :: rest)) :=
  va_put (D := (dC, dI)) (ci := 7) (v := .int x) (ty := .int) (C := R_Mo) (T := F_Mo) (N := 34) hF.1 hF.2.1 hF.2.2.2.2 i_Mo t_Mo t_Mo_ok n_Mo hF.2.2.2.1 hK.1 hP (wM_D hL) hS 0 rfl rfl 27 (by decide) (hF.2.2.2.2 _ hlink) (fun _ h9 => h9) rfl (by decide +kernel) rfl rfl (Nat.le_of_ble_eq_true rfl) hdg (fun H1 locs1 h1 _ h3 => kk H1 locs1 h1 h3)
theorem gn_Mo_distance (hF : CallFix p m c cc nL s args w_all own) (hK : kW_M dC dI cA s) (hP : va_P (dC, dI) classes (wM L cA ar sc) H) (hlink : Cond.fieldLinkNest own idx "InspectRowsModel" "distance" "I" "InspectRowsModel" ∈ nw_all) (hdg : decode cc pc = .ok (.getfield idx, 3)) (kk : W p l e R s m args below meth c H locs cells slots Q (F0 m (pc + 3) ls (.int (sc 6) :: rest))) : W p l e R s m args below meth c H locs cells slots Q (F0 m pc ls (.ref (L 0) :: rest)) :=
  va_getN (D := (dC, dI)) (ci := 7) (v := .int (sc 6)) (C := R_Mo) (T := F_Mo) (N := 34) hF.1 hF.2.1 hF.2.2.2.2 i_Mo hF.2.2.2.1 hK.1 hP 0 rfl rfl 27 (by decide) (va_Nw.use rfl (hK.2 _ hlink)) (fun _ h9 => h9) rfl hdg kk
theorem pn_Mo_distance {x : Int32} (hF : CallFix p m c cc nL s args w_all own) (hK : kW_M dC dI cA s) (hP : va_P (dC, dI) classes (wM L cA ar sc) H) (hL : ij 25 L) (hS : va_S (aM L) H0 H locs) (hlink : Cond.fieldLinkNest own idx "InspectRowsModel" "distance" "I" "InspectRowsModel" ∈ nw_all) (hdg : decode cc pc = .ok (.putfield idx, 3)) (kk : ∀ (H1 : Heap) (locs1 : List Loc), va_P (dC, dI) classes (wM L cA ar (sg sc 6 x)) H1 → va_S (aM L) H0 H1 locs1 → W p l e R s m args below meth c H1 locs1 cells slots Q (F0 m (pc + 3) ls rest)) : W p l e R s m args below meth c H locs cells slots Q (F0 m pc ls (.int x :: .ref (L 0) :: rest)) :=
  va_putN (D := (dC, dI)) (ci := 7) (v := .int x) (ty := .int) (C := R_Mo) (T := F_Mo) (N := 34) hF.1 hF.2.1 hF.2.2.2.2 i_Mo t_Mo t_Mo_ok n_Mo hF.2.2.2.1 hK.1 hP (wM_D hL) hS 0 rfl rfl 27 (by decide) (va_Nw.use rfl (hK.2 _ hlink)) (fun _ h9 => h9) rfl (by decide +kernel) rfl rfl (Nat.le_of_ble_eq_true rfl) hdg (fun H1 locs1 h1 _ h3 => kk H1 locs1 h1 h3)
theorem gf_Mo_ground (hF : CallFix p m c cc nL s args w_all own) (hK : kW_M dC dI cA s) (hP : va_P (dC, dI) classes (wM L cA ar sc) H) (hlink : Cond.fieldLink own idx "InspectRowsModel" "ground" "Z" ∈ w_all) (hdg : decode cc pc = .ok (.getfield idx, 3)) (kk : W p l e R s m args below meth c H locs cells slots Q (F0 m (pc + 3) ls (.int (sc 7) :: rest))) : W p l e R s m args below meth c H locs cells slots Q (F0 m pc ls (.ref (L 0) :: rest)) :=
  va_get (D := (dC, dI)) (ci := 7) (v := .int (sc 7)) (C := R_Mo) (T := F_Mo) (N := 34) hF.1 hF.2.1 hF.2.2.2.2 i_Mo hF.2.2.2.1 hK.1 hP 0 rfl rfl 28 (by decide) (hF.2.2.2.2 _ hlink) (fun _ h9 => h9) rfl hdg kk
theorem pf_Mo_ground {x : Int32} (hF : CallFix p m c cc nL s args w_all own) (hK : kW_M dC dI cA s) (hP : va_P (dC, dI) classes (wM L cA ar sc) H) (hL : ij 25 L) (hS : va_S (aM L) H0 H locs) (hn : narrow .boolean (.int x) = .int x) (hft : fits .boolean (.int x) = true) (hlink : Cond.fieldLink own idx "InspectRowsModel" "ground" "Z" ∈ w_all) (hdg : decode cc pc = .ok (.putfield idx, 3)) (kk : ∀ (H1 : Heap) (locs1 : List Loc), va_P (dC, dI) classes (wM L cA ar (sg sc 7 x)) H1 → va_S (aM L) H0 H1 locs1 → W p l e R s m args below meth c H1 locs1 cells slots Q (F0 m (pc + 3) ls rest)) : W p l e R s m args below meth c H locs cells slots Q (F0 m pc ls (.int x :: .ref (L 0) :: rest)) :=
  va_put (D := (dC, dI)) (ci := 7) (v := .int x) (ty := .boolean) (C := R_Mo) (T := F_Mo) (N := 34) hF.1 hF.2.1 hF.2.2.2.2 i_Mo t_Mo t_Mo_ok n_Mo hF.2.2.2.1 hK.1 hP (wM_D hL) hS 0 rfl rfl 28 (by decide) (hF.2.2.2.2 _ hlink) (fun _ h9 => h9) rfl (by decide +kernel) hn hft (Nat.le_of_ble_eq_true rfl) hdg (fun H1 locs1 h1 _ h3 => kk H1 locs1 h1 h3)
theorem gn_Mo_ground (hF : CallFix p m c cc nL s args w_all own) (hK : kW_M dC dI cA s) (hP : va_P (dC, dI) classes (wM L cA ar sc) H) (hlink : Cond.fieldLinkNest own idx "InspectRowsModel" "ground" "Z" "InspectRowsModel" ∈ nw_all) (hdg : decode cc pc = .ok (.getfield idx, 3)) (kk : W p l e R s m args below meth c H locs cells slots Q (F0 m (pc + 3) ls (.int (sc 7) :: rest))) : W p l e R s m args below meth c H locs cells slots Q (F0 m pc ls (.ref (L 0) :: rest)) :=
  va_getN (D := (dC, dI)) (ci := 7) (v := .int (sc 7)) (C := R_Mo) (T := F_Mo) (N := 34) hF.1 hF.2.1 hF.2.2.2.2 i_Mo hF.2.2.2.1 hK.1 hP 0 rfl rfl 28 (by decide) (va_Nw.use rfl (hK.2 _ hlink)) (fun _ h9 => h9) rfl hdg kk
theorem pn_Mo_ground {x : Int32} (hF : CallFix p m c cc nL s args w_all own) (hK : kW_M dC dI cA s) (hP : va_P (dC, dI) classes (wM L cA ar sc) H) (hL : ij 25 L) (hS : va_S (aM L) H0 H locs) (hn : narrow .boolean (.int x) = .int x) (hft : fits .boolean (.int x) = true) (hlink : Cond.fieldLinkNest own idx "InspectRowsModel" "ground" "Z" "InspectRowsModel" ∈ nw_all) (hdg : decode cc pc = .ok (.putfield idx, 3)) (kk : ∀ (H1 : Heap) (locs1 : List Loc), va_P (dC, dI) classes (wM L cA ar (sg sc 7 x)) H1 → va_S (aM L) H0 H1 locs1 → W p l e R s m args below meth c H1 locs1 cells slots Q (F0 m (pc + 3) ls rest)) : W p l e R s m args below meth c H locs cells slots Q (F0 m pc ls (.int x :: .ref (L 0) :: rest)) :=
  va_putN (D := (dC, dI)) (ci := 7) (v := .int x) (ty := .boolean) (C := R_Mo) (T := F_Mo) (N := 34) hF.1 hF.2.1 hF.2.2.2.2 i_Mo t_Mo t_Mo_ok n_Mo hF.2.2.2.1 hK.1 hP (wM_D hL) hS 0 rfl rfl 28 (by decide) (va_Nw.use rfl (hK.2 _ hlink)) (fun _ h9 => h9) rfl (by decide +kernel) hn hft (Nat.le_of_ble_eq_true rfl) hdg (fun H1 locs1 h1 _ h3 => kk H1 locs1 h1 h3)
theorem gf_Mo_grounds (hF : CallFix p m c cc nL s args w_all own) (hK : kW_M dC dI cA s) (hP : va_P (dC, dI) classes (wM L cA ar sc) H) (hlink : Cond.fieldLink own idx "InspectRowsModel" "grounds" "[I" ∈ w_all) (hdg : decode cc pc = .ok (.getfield idx, 3)) (kk : W p l e R s m args below meth c H locs cells slots Q (F0 m (pc + 3) ls (.ref (L 22) :: rest))) : W p l e R s m args below meth c H locs cells slots Q (F0 m pc ls (.ref (L 0) :: rest)) :=
  va_get (D := (dC, dI)) (ci := 7) (v := .ref (L 22)) (C := R_Mo) (T := F_Mo) (N := 34) hF.1 hF.2.1 hF.2.2.2.2 i_Mo hF.2.2.2.1 hK.1 hP 0 rfl rfl 29 (by decide) (hF.2.2.2.2 _ hlink) (fun _ h9 => h9) rfl hdg kk
theorem gn_Mo_grounds (hF : CallFix p m c cc nL s args w_all own) (hK : kW_M dC dI cA s) (hP : va_P (dC, dI) classes (wM L cA ar sc) H) (hlink : Cond.fieldLinkNest own idx "InspectRowsModel" "grounds" "[I" "InspectRowsModel" ∈ nw_all) (hdg : decode cc pc = .ok (.getfield idx, 3)) (kk : W p l e R s m args below meth c H locs cells slots Q (F0 m (pc + 3) ls (.ref (L 22) :: rest))) : W p l e R s m args below meth c H locs cells slots Q (F0 m pc ls (.ref (L 0) :: rest)) :=
  va_getN (D := (dC, dI)) (ci := 7) (v := .ref (L 22)) (C := R_Mo) (T := F_Mo) (N := 34) hF.1 hF.2.1 hF.2.2.2.2 i_Mo hF.2.2.2.1 hK.1 hP 0 rfl rfl 29 (by decide) (va_Nw.use rfl (hK.2 _ hlink)) (fun _ h9 => h9) rfl hdg kk
theorem gf_Mo_permits (hF : CallFix p m c cc nL s args w_all own) (hK : kW_M dC dI cA s) (hP : va_P (dC, dI) classes (wM L cA ar sc) H) (hlink : Cond.fieldLink own idx "InspectRowsModel" "permits" "I" ∈ w_all) (hdg : decode cc pc = .ok (.getfield idx, 3)) (kk : W p l e R s m args below meth c H locs cells slots Q (F0 m (pc + 3) ls (.int (sc 8) :: rest))) : W p l e R s m args below meth c H locs cells slots Q (F0 m pc ls (.ref (L 0) :: rest)) :=
  va_get (D := (dC, dI)) (ci := 7) (v := .int (sc 8)) (C := R_Mo) (T := F_Mo) (N := 34) hF.1 hF.2.1 hF.2.2.2.2 i_Mo hF.2.2.2.1 hK.1 hP 0 rfl rfl 30 (by decide) (hF.2.2.2.2 _ hlink) (fun _ h9 => h9) rfl hdg kk
theorem pf_Mo_permits {x : Int32} (hF : CallFix p m c cc nL s args w_all own) (hK : kW_M dC dI cA s) (hP : va_P (dC, dI) classes (wM L cA ar sc) H) (hL : ij 25 L) (hS : va_S (aM L) H0 H locs) (hlink : Cond.fieldLink own idx "InspectRowsModel" "permits" "I" ∈ w_all) (hdg : decode cc pc = .ok (.putfield idx, 3)) (kk : ∀ (H1 : Heap) (locs1 : List Loc), va_P (dC, dI) classes (wM L cA ar (sg sc 8 x)) H1 → va_S (aM L) H0 H1 locs1 → W p l e R s m args below meth c H1 locs1 cells slots Q (F0 m (pc + 3) ls rest)) : W p l e R s m args below meth c H locs cells slots Q (F0 m pc ls (.int x :: .ref (L 0) :: rest)) :=
  va_put (D := (dC, dI)) (ci := 7) (v := .int x) (ty := .int) (C := R_Mo) (T := F_Mo) (N := 34) hF.1 hF.2.1 hF.2.2.2.2 i_Mo t_Mo t_Mo_ok n_Mo hF.2.2.2.1 hK.1 hP (wM_D hL) hS 0 rfl rfl 30 (by decide) (hF.2.2.2.2 _ hlink) (fun _ h9 => h9) rfl (by decide +kernel) rfl rfl (Nat.le_of_ble_eq_true rfl) hdg (fun H1 locs1 h1 _ h3 => kk H1 locs1 h1 h3)
theorem gn_Mo_permits (hF : CallFix p m c cc nL s args w_all own) (hK : kW_M dC dI cA s) (hP : va_P (dC, dI) classes (wM L cA ar sc) H) (hlink : Cond.fieldLinkNest own idx "InspectRowsModel" "permits" "I" "InspectRowsModel" ∈ nw_all) (hdg : decode cc pc = .ok (.getfield idx, 3)) (kk : W p l e R s m args below meth c H locs cells slots Q (F0 m (pc + 3) ls (.int (sc 8) :: rest))) : W p l e R s m args below meth c H locs cells slots Q (F0 m pc ls (.ref (L 0) :: rest)) :=
  va_getN (D := (dC, dI)) (ci := 7) (v := .int (sc 8)) (C := R_Mo) (T := F_Mo) (N := 34) hF.1 hF.2.1 hF.2.2.2.2 i_Mo hF.2.2.2.1 hK.1 hP 0 rfl rfl 30 (by decide) (va_Nw.use rfl (hK.2 _ hlink)) (fun _ h9 => h9) rfl hdg kk
theorem pn_Mo_permits {x : Int32} (hF : CallFix p m c cc nL s args w_all own) (hK : kW_M dC dI cA s) (hP : va_P (dC, dI) classes (wM L cA ar sc) H) (hL : ij 25 L) (hS : va_S (aM L) H0 H locs) (hlink : Cond.fieldLinkNest own idx "InspectRowsModel" "permits" "I" "InspectRowsModel" ∈ nw_all) (hdg : decode cc pc = .ok (.putfield idx, 3)) (kk : ∀ (H1 : Heap) (locs1 : List Loc), va_P (dC, dI) classes (wM L cA ar (sg sc 8 x)) H1 → va_S (aM L) H0 H1 locs1 → W p l e R s m args below meth c H1 locs1 cells slots Q (F0 m (pc + 3) ls rest)) : W p l e R s m args below meth c H locs cells slots Q (F0 m pc ls (.int x :: .ref (L 0) :: rest)) :=
  va_putN (D := (dC, dI)) (ci := 7) (v := .int x) (ty := .int) (C := R_Mo) (T := F_Mo) (N := 34) hF.1 hF.2.1 hF.2.2.2.2 i_Mo t_Mo t_Mo_ok n_Mo hF.2.2.2.1 hK.1 hP (wM_D hL) hS 0 rfl rfl 30 (by decide) (va_Nw.use rfl (hK.2 _ hlink)) (fun _ h9 => h9) rfl (by decide +kernel) rfl rfl (Nat.le_of_ble_eq_true rfl) hdg (fun H1 locs1 h1 _ h3 => kk H1 locs1 h1 h3)
theorem gf_Mo_from (hF : CallFix p m c cc nL s args w_all own) (hK : kW_M dC dI cA s) (hP : va_P (dC, dI) classes (wM L cA ar sc) H) (hlink : Cond.fieldLink own idx "InspectRowsModel" "from" "[I" ∈ w_all) (hdg : decode cc pc = .ok (.getfield idx, 3)) (kk : W p l e R s m args below meth c H locs cells slots Q (F0 m (pc + 3) ls (.ref (L 23) :: rest))) : W p l e R s m args below meth c H locs cells slots Q (F0 m pc ls (.ref (L 0) :: rest)) :=
  va_get (D := (dC, dI)) (ci := 7) (v := .ref (L 23)) (C := R_Mo) (T := F_Mo) (N := 34) hF.1 hF.2.1 hF.2.2.2.2 i_Mo hF.2.2.2.1 hK.1 hP 0 rfl rfl 31 (by decide) (hF.2.2.2.2 _ hlink) (fun _ h9 => h9) rfl hdg kk
theorem gn_Mo_from (hF : CallFix p m c cc nL s args w_all own) (hK : kW_M dC dI cA s) (hP : va_P (dC, dI) classes (wM L cA ar sc) H) (hlink : Cond.fieldLinkNest own idx "InspectRowsModel" "from" "[I" "InspectRowsModel" ∈ nw_all) (hdg : decode cc pc = .ok (.getfield idx, 3)) (kk : W p l e R s m args below meth c H locs cells slots Q (F0 m (pc + 3) ls (.ref (L 23) :: rest))) : W p l e R s m args below meth c H locs cells slots Q (F0 m pc ls (.ref (L 0) :: rest)) :=
  va_getN (D := (dC, dI)) (ci := 7) (v := .ref (L 23)) (C := R_Mo) (T := F_Mo) (N := 34) hF.1 hF.2.1 hF.2.2.2.2 i_Mo hF.2.2.2.1 hK.1 hP 0 rfl rfl 31 (by decide) (va_Nw.use rfl (hK.2 _ hlink)) (fun _ h9 => h9) rfl hdg kk
theorem gf_Mo_to (hF : CallFix p m c cc nL s args w_all own) (hK : kW_M dC dI cA s) (hP : va_P (dC, dI) classes (wM L cA ar sc) H) (hlink : Cond.fieldLink own idx "InspectRowsModel" "to" "[I" ∈ w_all) (hdg : decode cc pc = .ok (.getfield idx, 3)) (kk : W p l e R s m args below meth c H locs cells slots Q (F0 m (pc + 3) ls (.ref (L 24) :: rest))) : W p l e R s m args below meth c H locs cells slots Q (F0 m pc ls (.ref (L 0) :: rest)) :=
  va_get (D := (dC, dI)) (ci := 7) (v := .ref (L 24)) (C := R_Mo) (T := F_Mo) (N := 34) hF.1 hF.2.1 hF.2.2.2.2 i_Mo hF.2.2.2.1 hK.1 hP 0 rfl rfl 32 (by decide) (hF.2.2.2.2 _ hlink) (fun _ h9 => h9) rfl hdg kk
theorem gn_Mo_to (hF : CallFix p m c cc nL s args w_all own) (hK : kW_M dC dI cA s) (hP : va_P (dC, dI) classes (wM L cA ar sc) H) (hlink : Cond.fieldLinkNest own idx "InspectRowsModel" "to" "[I" "InspectRowsModel" ∈ nw_all) (hdg : decode cc pc = .ok (.getfield idx, 3)) (kk : W p l e R s m args below meth c H locs cells slots Q (F0 m (pc + 3) ls (.ref (L 24) :: rest))) : W p l e R s m args below meth c H locs cells slots Q (F0 m pc ls (.ref (L 0) :: rest)) :=
  va_getN (D := (dC, dI)) (ci := 7) (v := .ref (L 24)) (C := R_Mo) (T := F_Mo) (N := 34) hF.1 hF.2.1 hF.2.2.2.2 i_Mo hF.2.2.2.1 hK.1 hP 0 rfl rfl 32 (by decide) (va_Nw.use rfl (hK.2 _ hlink)) (fun _ h9 => h9) rfl hdg kk
theorem gf_Mo_clash (hF : CallFix p m c cc nL s args w_all own) (hK : kW_M dC dI cA s) (hP : va_P (dC, dI) classes (wM L cA ar sc) H) (hlink : Cond.fieldLink own idx "InspectRowsModel" "clash" "I" ∈ w_all) (hdg : decode cc pc = .ok (.getfield idx, 3)) (kk : W p l e R s m args below meth c H locs cells slots Q (F0 m (pc + 3) ls (.int (sc 9) :: rest))) : W p l e R s m args below meth c H locs cells slots Q (F0 m pc ls (.ref (L 0) :: rest)) :=
  va_get (D := (dC, dI)) (ci := 7) (v := .int (sc 9)) (C := R_Mo) (T := F_Mo) (N := 34) hF.1 hF.2.1 hF.2.2.2.2 i_Mo hF.2.2.2.1 hK.1 hP 0 rfl rfl 33 (by decide) (hF.2.2.2.2 _ hlink) (fun _ h9 => h9) rfl hdg kk
theorem pf_Mo_clash {x : Int32} (hF : CallFix p m c cc nL s args w_all own) (hK : kW_M dC dI cA s) (hP : va_P (dC, dI) classes (wM L cA ar sc) H) (hL : ij 25 L) (hS : va_S (aM L) H0 H locs) (hlink : Cond.fieldLink own idx "InspectRowsModel" "clash" "I" ∈ w_all) (hdg : decode cc pc = .ok (.putfield idx, 3)) (kk : ∀ (H1 : Heap) (locs1 : List Loc), va_P (dC, dI) classes (wM L cA ar (sg sc 9 x)) H1 → va_S (aM L) H0 H1 locs1 → W p l e R s m args below meth c H1 locs1 cells slots Q (F0 m (pc + 3) ls rest)) : W p l e R s m args below meth c H locs cells slots Q (F0 m pc ls (.int x :: .ref (L 0) :: rest)) :=
  va_put (D := (dC, dI)) (ci := 7) (v := .int x) (ty := .int) (C := R_Mo) (T := F_Mo) (N := 34) hF.1 hF.2.1 hF.2.2.2.2 i_Mo t_Mo t_Mo_ok n_Mo hF.2.2.2.1 hK.1 hP (wM_D hL) hS 0 rfl rfl 33 (by decide) (hF.2.2.2.2 _ hlink) (fun _ h9 => h9) rfl (by decide +kernel) rfl rfl (Nat.le_of_ble_eq_true rfl) hdg (fun H1 locs1 h1 _ h3 => kk H1 locs1 h1 h3)
theorem gn_Mo_clash (hF : CallFix p m c cc nL s args w_all own) (hK : kW_M dC dI cA s) (hP : va_P (dC, dI) classes (wM L cA ar sc) H) (hlink : Cond.fieldLinkNest own idx "InspectRowsModel" "clash" "I" "InspectRowsModel" ∈ nw_all) (hdg : decode cc pc = .ok (.getfield idx, 3)) (kk : W p l e R s m args below meth c H locs cells slots Q (F0 m (pc + 3) ls (.int (sc 9) :: rest))) : W p l e R s m args below meth c H locs cells slots Q (F0 m pc ls (.ref (L 0) :: rest)) :=
  va_getN (D := (dC, dI)) (ci := 7) (v := .int (sc 9)) (C := R_Mo) (T := F_Mo) (N := 34) hF.1 hF.2.1 hF.2.2.2.2 i_Mo hF.2.2.2.1 hK.1 hP 0 rfl rfl 33 (by decide) (va_Nw.use rfl (hK.2 _ hlink)) (fun _ h9 => h9) rfl hdg kk
theorem pn_Mo_clash {x : Int32} (hF : CallFix p m c cc nL s args w_all own) (hK : kW_M dC dI cA s) (hP : va_P (dC, dI) classes (wM L cA ar sc) H) (hL : ij 25 L) (hS : va_S (aM L) H0 H locs) (hlink : Cond.fieldLinkNest own idx "InspectRowsModel" "clash" "I" "InspectRowsModel" ∈ nw_all) (hdg : decode cc pc = .ok (.putfield idx, 3)) (kk : ∀ (H1 : Heap) (locs1 : List Loc), va_P (dC, dI) classes (wM L cA ar (sg sc 9 x)) H1 → va_S (aM L) H0 H1 locs1 → W p l e R s m args below meth c H1 locs1 cells slots Q (F0 m (pc + 3) ls rest)) : W p l e R s m args below meth c H locs cells slots Q (F0 m pc ls (.int x :: .ref (L 0) :: rest)) :=
  va_putN (D := (dC, dI)) (ci := 7) (v := .int x) (ty := .int) (C := R_Mo) (T := F_Mo) (N := 34) hF.1 hF.2.1 hF.2.2.2.2 i_Mo t_Mo t_Mo_ok n_Mo hF.2.2.2.1 hK.1 hP (wM_D hL) hS 0 rfl rfl 33 (by decide) (va_Nw.use rfl (hK.2 _ hlink)) (fun _ h9 => h9) rfl (by decide +kernel) rfl rfl (Nat.le_of_ble_eq_true rfl) hdg (fun H1 locs1 h1 _ h3 => kk H1 locs1 h1 h3)
theorem alM_1 {i : Int32} (hF : CallFix p m c cc nL s args w_all own) (hK : kW_M dC dI cA s) (hP : va_P (dC, dI) classes (wM L cA ar sc) H) (hin : vp_in i 5) (hdg : decode cc pc = .ok (.iaload, 1)) (kk : W p l e R s m args below meth c H locs cells slots Q (F0 m (pc + 1) ls (.int (ar 1 i.toNatClampNeg) :: rest))) : W p l e R s m args below meth c H locs cells slots Q (F0 m pc ls (.int i :: .ref (L 1) :: rest)) :=
  va_iald hF.1 hF.2.1 hK.1 hP 1 0 rfl rfl hin hdg kk
theorem asM_1 {i x : Int32} (hF : CallFix p m c cc nL s args w_all own) (hK : kW_M dC dI cA s) (hP : va_P (dC, dI) classes (wM L cA ar sc) H) (hL : ij 25 L) (hS : va_S (aM L) H0 H locs) (hin : vp_in i 5) (hdg : decode cc pc = .ok (.iastore, 1)) (kk : ∀ (H1 : Heap) (locs1 : List Loc), va_P (dC, dI) classes (wM L cA (s2 ar 1 i.toNatClampNeg x) sc) H1 → va_S (aM L) H0 H1 locs1 → W p l e R s m args below meth c H1 locs1 cells slots Q (F0 m (pc + 1) ls rest)) : W p l e R s m args below meth c H locs cells slots Q (F0 m pc ls (.int x :: .int i :: .ref (L 1) :: rest)) :=
  va_iast hF.1 hF.2.1 hK.1 hP (wM_D hL) hS 1 0 rfl rfl hin hdg (fun H1 locs1 h1 _ h3 => kk H1 locs1 h1 h3)
theorem anM_1 (hF : CallFix p m c cc nL s args w_all own) (hK : kW_M dC dI cA s) (hP : va_P (dC, dI) classes (wM L cA ar sc) H) (hdg : decode cc pc = .ok (.arraylength, 1)) (kk : W p l e R s m args below meth c H locs cells slots Q (F0 m (pc + 1) ls (.int 5 :: rest))) : W p l e R s m args below meth c H locs cells slots Q (F0 m pc ls (.ref (L 1) :: rest)) :=
  va_alen (v := 5) hF.1 hF.2.1 hK.1 hP 1 0 rfl rfl rfl hdg kk
theorem alM_2 {i : Int32} (hF : CallFix p m c cc nL s args w_all own) (hK : kW_M dC dI cA s) (hP : va_P (dC, dI) classes (wM L cA ar sc) H) (hin : vp_in i 3) (hdg : decode cc pc = .ok (.iaload, 1)) (kk : W p l e R s m args below meth c H locs cells slots Q (F0 m (pc + 1) ls (.int (ar 2 i.toNatClampNeg) :: rest))) : W p l e R s m args below meth c H locs cells slots Q (F0 m pc ls (.int i :: .ref (L 2) :: rest)) :=
  va_iald hF.1 hF.2.1 hK.1 hP 2 1 rfl rfl hin hdg kk
theorem asM_2 {i x : Int32} (hF : CallFix p m c cc nL s args w_all own) (hK : kW_M dC dI cA s) (hP : va_P (dC, dI) classes (wM L cA ar sc) H) (hL : ij 25 L) (hS : va_S (aM L) H0 H locs) (hin : vp_in i 3) (hdg : decode cc pc = .ok (.iastore, 1)) (kk : ∀ (H1 : Heap) (locs1 : List Loc), va_P (dC, dI) classes (wM L cA (s2 ar 2 i.toNatClampNeg x) sc) H1 → va_S (aM L) H0 H1 locs1 → W p l e R s m args below meth c H1 locs1 cells slots Q (F0 m (pc + 1) ls rest)) : W p l e R s m args below meth c H locs cells slots Q (F0 m pc ls (.int x :: .int i :: .ref (L 2) :: rest)) :=
  va_iast hF.1 hF.2.1 hK.1 hP (wM_D hL) hS 2 1 rfl rfl hin hdg (fun H1 locs1 h1 _ h3 => kk H1 locs1 h1 h3)
theorem anM_2 (hF : CallFix p m c cc nL s args w_all own) (hK : kW_M dC dI cA s) (hP : va_P (dC, dI) classes (wM L cA ar sc) H) (hdg : decode cc pc = .ok (.arraylength, 1)) (kk : W p l e R s m args below meth c H locs cells slots Q (F0 m (pc + 1) ls (.int 3 :: rest))) : W p l e R s m args below meth c H locs cells slots Q (F0 m pc ls (.ref (L 2) :: rest)) :=
  va_alen (v := 3) hF.1 hF.2.1 hK.1 hP 2 1 rfl rfl rfl hdg kk
theorem alM_3 {i : Int32} (hF : CallFix p m c cc nL s args w_all own) (hK : kW_M dC dI cA s) (hP : va_P (dC, dI) classes (wM L cA ar sc) H) (hin : vp_in i 4) (hdg : decode cc pc = .ok (.iaload, 1)) (kk : W p l e R s m args below meth c H locs cells slots Q (F0 m (pc + 1) ls (.int (ar 3 i.toNatClampNeg) :: rest))) : W p l e R s m args below meth c H locs cells slots Q (F0 m pc ls (.int i :: .ref (L 3) :: rest)) :=
  va_iald hF.1 hF.2.1 hK.1 hP 3 2 rfl rfl hin hdg kk
theorem asM_3 {i x : Int32} (hF : CallFix p m c cc nL s args w_all own) (hK : kW_M dC dI cA s) (hP : va_P (dC, dI) classes (wM L cA ar sc) H) (hL : ij 25 L) (hS : va_S (aM L) H0 H locs) (hin : vp_in i 4) (hdg : decode cc pc = .ok (.iastore, 1)) (kk : ∀ (H1 : Heap) (locs1 : List Loc), va_P (dC, dI) classes (wM L cA (s2 ar 3 i.toNatClampNeg x) sc) H1 → va_S (aM L) H0 H1 locs1 → W p l e R s m args below meth c H1 locs1 cells slots Q (F0 m (pc + 1) ls rest)) : W p l e R s m args below meth c H locs cells slots Q (F0 m pc ls (.int x :: .int i :: .ref (L 3) :: rest)) :=
  va_iast hF.1 hF.2.1 hK.1 hP (wM_D hL) hS 3 2 rfl rfl hin hdg (fun H1 locs1 h1 _ h3 => kk H1 locs1 h1 h3)
theorem anM_3 (hF : CallFix p m c cc nL s args w_all own) (hK : kW_M dC dI cA s) (hP : va_P (dC, dI) classes (wM L cA ar sc) H) (hdg : decode cc pc = .ok (.arraylength, 1)) (kk : W p l e R s m args below meth c H locs cells slots Q (F0 m (pc + 1) ls (.int 4 :: rest))) : W p l e R s m args below meth c H locs cells slots Q (F0 m pc ls (.ref (L 3) :: rest)) :=
  va_alen (v := 4) hF.1 hF.2.1 hK.1 hP 3 2 rfl rfl rfl hdg kk
theorem alM_4 {i : Int32} (hF : CallFix p m c cc nL s args w_all own) (hK : kW_M dC dI cA s) (hP : va_P (dC, dI) classes (wM L cA ar sc) H) (hin : vp_in i 4) (hdg : decode cc pc = .ok (.iaload, 1)) (kk : W p l e R s m args below meth c H locs cells slots Q (F0 m (pc + 1) ls (.int (ar 4 i.toNatClampNeg) :: rest))) : W p l e R s m args below meth c H locs cells slots Q (F0 m pc ls (.int i :: .ref (L 4) :: rest)) :=
  va_iald hF.1 hF.2.1 hK.1 hP 4 3 rfl rfl hin hdg kk
theorem asM_4 {i x : Int32} (hF : CallFix p m c cc nL s args w_all own) (hK : kW_M dC dI cA s) (hP : va_P (dC, dI) classes (wM L cA ar sc) H) (hL : ij 25 L) (hS : va_S (aM L) H0 H locs) (hin : vp_in i 4) (hdg : decode cc pc = .ok (.iastore, 1)) (kk : ∀ (H1 : Heap) (locs1 : List Loc), va_P (dC, dI) classes (wM L cA (s2 ar 4 i.toNatClampNeg x) sc) H1 → va_S (aM L) H0 H1 locs1 → W p l e R s m args below meth c H1 locs1 cells slots Q (F0 m (pc + 1) ls rest)) : W p l e R s m args below meth c H locs cells slots Q (F0 m pc ls (.int x :: .int i :: .ref (L 4) :: rest)) :=
  va_iast hF.1 hF.2.1 hK.1 hP (wM_D hL) hS 4 3 rfl rfl hin hdg (fun H1 locs1 h1 _ h3 => kk H1 locs1 h1 h3)
theorem anM_4 (hF : CallFix p m c cc nL s args w_all own) (hK : kW_M dC dI cA s) (hP : va_P (dC, dI) classes (wM L cA ar sc) H) (hdg : decode cc pc = .ok (.arraylength, 1)) (kk : W p l e R s m args below meth c H locs cells slots Q (F0 m (pc + 1) ls (.int 4 :: rest))) : W p l e R s m args below meth c H locs cells slots Q (F0 m pc ls (.ref (L 4) :: rest)) :=
  va_alen (v := 4) hF.1 hF.2.1 hK.1 hP 4 3 rfl rfl rfl hdg kk
theorem alM_5 {i : Int32} (hF : CallFix p m c cc nL s args w_all own) (hK : kW_M dC dI cA s) (hP : va_P (dC, dI) classes (wM L cA ar sc) H) (hin : vp_in i 30) (hdg : decode cc pc = .ok (.iaload, 1)) (kk : W p l e R s m args below meth c H locs cells slots Q (F0 m (pc + 1) ls (.int (ar 5 i.toNatClampNeg) :: rest))) : W p l e R s m args below meth c H locs cells slots Q (F0 m pc ls (.int i :: .ref (L 5) :: rest)) :=
  va_iald hF.1 hF.2.1 hK.1 hP 5 4 rfl rfl hin hdg kk
theorem asM_5 {i x : Int32} (hF : CallFix p m c cc nL s args w_all own) (hK : kW_M dC dI cA s) (hP : va_P (dC, dI) classes (wM L cA ar sc) H) (hL : ij 25 L) (hS : va_S (aM L) H0 H locs) (hin : vp_in i 30) (hdg : decode cc pc = .ok (.iastore, 1)) (kk : ∀ (H1 : Heap) (locs1 : List Loc), va_P (dC, dI) classes (wM L cA (s2 ar 5 i.toNatClampNeg x) sc) H1 → va_S (aM L) H0 H1 locs1 → W p l e R s m args below meth c H1 locs1 cells slots Q (F0 m (pc + 1) ls rest)) : W p l e R s m args below meth c H locs cells slots Q (F0 m pc ls (.int x :: .int i :: .ref (L 5) :: rest)) :=
  va_iast hF.1 hF.2.1 hK.1 hP (wM_D hL) hS 5 4 rfl rfl hin hdg (fun H1 locs1 h1 _ h3 => kk H1 locs1 h1 h3)
theorem anM_5 (hF : CallFix p m c cc nL s args w_all own) (hK : kW_M dC dI cA s) (hP : va_P (dC, dI) classes (wM L cA ar sc) H) (hdg : decode cc pc = .ok (.arraylength, 1)) (kk : W p l e R s m args below meth c H locs cells slots Q (F0 m (pc + 1) ls (.int 30 :: rest))) : W p l e R s m args below meth c H locs cells slots Q (F0 m pc ls (.ref (L 5) :: rest)) :=
  va_alen (v := 30) hF.1 hF.2.1 hK.1 hP 5 4 rfl rfl rfl hdg kk
theorem alM_6 {i : Int32} (hF : CallFix p m c cc nL s args w_all own) (hK : kW_M dC dI cA s) (hP : va_P (dC, dI) classes (wM L cA ar sc) H) (hin : vp_in i 30) (hdg : decode cc pc = .ok (.iaload, 1)) (kk : W p l e R s m args below meth c H locs cells slots Q (F0 m (pc + 1) ls (.int (ar 6 i.toNatClampNeg) :: rest))) : W p l e R s m args below meth c H locs cells slots Q (F0 m pc ls (.int i :: .ref (L 6) :: rest)) :=
  va_iald hF.1 hF.2.1 hK.1 hP 6 5 rfl rfl hin hdg kk
theorem asM_6 {i x : Int32} (hF : CallFix p m c cc nL s args w_all own) (hK : kW_M dC dI cA s) (hP : va_P (dC, dI) classes (wM L cA ar sc) H) (hL : ij 25 L) (hS : va_S (aM L) H0 H locs) (hin : vp_in i 30) (hdg : decode cc pc = .ok (.iastore, 1)) (kk : ∀ (H1 : Heap) (locs1 : List Loc), va_P (dC, dI) classes (wM L cA (s2 ar 6 i.toNatClampNeg x) sc) H1 → va_S (aM L) H0 H1 locs1 → W p l e R s m args below meth c H1 locs1 cells slots Q (F0 m (pc + 1) ls rest)) : W p l e R s m args below meth c H locs cells slots Q (F0 m pc ls (.int x :: .int i :: .ref (L 6) :: rest)) :=
  va_iast hF.1 hF.2.1 hK.1 hP (wM_D hL) hS 6 5 rfl rfl hin hdg (fun H1 locs1 h1 _ h3 => kk H1 locs1 h1 h3)
theorem anM_6 (hF : CallFix p m c cc nL s args w_all own) (hK : kW_M dC dI cA s) (hP : va_P (dC, dI) classes (wM L cA ar sc) H) (hdg : decode cc pc = .ok (.arraylength, 1)) (kk : W p l e R s m args below meth c H locs cells slots Q (F0 m (pc + 1) ls (.int 30 :: rest))) : W p l e R s m args below meth c H locs cells slots Q (F0 m pc ls (.ref (L 6) :: rest)) :=
  va_alen (v := 30) hF.1 hF.2.1 hK.1 hP 6 5 rfl rfl rfl hdg kk
theorem alM_7 {i : Int32} (hF : CallFix p m c cc nL s args w_all own) (hK : kW_M dC dI cA s) (hP : va_P (dC, dI) classes (wM L cA ar sc) H) (hin : vp_in i 30) (hdg : decode cc pc = .ok (.iaload, 1)) (kk : W p l e R s m args below meth c H locs cells slots Q (F0 m (pc + 1) ls (.int (ar 7 i.toNatClampNeg) :: rest))) : W p l e R s m args below meth c H locs cells slots Q (F0 m pc ls (.int i :: .ref (L 7) :: rest)) :=
  va_iald hF.1 hF.2.1 hK.1 hP 7 6 rfl rfl hin hdg kk
theorem asM_7 {i x : Int32} (hF : CallFix p m c cc nL s args w_all own) (hK : kW_M dC dI cA s) (hP : va_P (dC, dI) classes (wM L cA ar sc) H) (hL : ij 25 L) (hS : va_S (aM L) H0 H locs) (hin : vp_in i 30) (hdg : decode cc pc = .ok (.iastore, 1)) (kk : ∀ (H1 : Heap) (locs1 : List Loc), va_P (dC, dI) classes (wM L cA (s2 ar 7 i.toNatClampNeg x) sc) H1 → va_S (aM L) H0 H1 locs1 → W p l e R s m args below meth c H1 locs1 cells slots Q (F0 m (pc + 1) ls rest)) : W p l e R s m args below meth c H locs cells slots Q (F0 m pc ls (.int x :: .int i :: .ref (L 7) :: rest)) :=
  va_iast hF.1 hF.2.1 hK.1 hP (wM_D hL) hS 7 6 rfl rfl hin hdg (fun H1 locs1 h1 _ h3 => kk H1 locs1 h1 h3)
theorem anM_7 (hF : CallFix p m c cc nL s args w_all own) (hK : kW_M dC dI cA s) (hP : va_P (dC, dI) classes (wM L cA ar sc) H) (hdg : decode cc pc = .ok (.arraylength, 1)) (kk : W p l e R s m args below meth c H locs cells slots Q (F0 m (pc + 1) ls (.int 30 :: rest))) : W p l e R s m args below meth c H locs cells slots Q (F0 m pc ls (.ref (L 7) :: rest)) :=
  va_alen (v := 30) hF.1 hF.2.1 hK.1 hP 7 6 rfl rfl rfl hdg kk
theorem alM_8 {i : Int32} (hF : CallFix p m c cc nL s args w_all own) (hK : kW_M dC dI cA s) (hP : va_P (dC, dI) classes (wM L cA ar sc) H) (hin : vp_in i 30) (hdg : decode cc pc = .ok (.iaload, 1)) (kk : W p l e R s m args below meth c H locs cells slots Q (F0 m (pc + 1) ls (.int (ar 8 i.toNatClampNeg) :: rest))) : W p l e R s m args below meth c H locs cells slots Q (F0 m pc ls (.int i :: .ref (L 8) :: rest)) :=
  va_iald hF.1 hF.2.1 hK.1 hP 8 7 rfl rfl hin hdg kk
theorem asM_8 {i x : Int32} (hF : CallFix p m c cc nL s args w_all own) (hK : kW_M dC dI cA s) (hP : va_P (dC, dI) classes (wM L cA ar sc) H) (hL : ij 25 L) (hS : va_S (aM L) H0 H locs) (hin : vp_in i 30) (hdg : decode cc pc = .ok (.iastore, 1)) (kk : ∀ (H1 : Heap) (locs1 : List Loc), va_P (dC, dI) classes (wM L cA (s2 ar 8 i.toNatClampNeg x) sc) H1 → va_S (aM L) H0 H1 locs1 → W p l e R s m args below meth c H1 locs1 cells slots Q (F0 m (pc + 1) ls rest)) : W p l e R s m args below meth c H locs cells slots Q (F0 m pc ls (.int x :: .int i :: .ref (L 8) :: rest)) :=
  va_iast hF.1 hF.2.1 hK.1 hP (wM_D hL) hS 8 7 rfl rfl hin hdg (fun H1 locs1 h1 _ h3 => kk H1 locs1 h1 h3)
theorem anM_8 (hF : CallFix p m c cc nL s args w_all own) (hK : kW_M dC dI cA s) (hP : va_P (dC, dI) classes (wM L cA ar sc) H) (hdg : decode cc pc = .ok (.arraylength, 1)) (kk : W p l e R s m args below meth c H locs cells slots Q (F0 m (pc + 1) ls (.int 30 :: rest))) : W p l e R s m args below meth c H locs cells slots Q (F0 m pc ls (.ref (L 8) :: rest)) :=
  va_alen (v := 30) hF.1 hF.2.1 hK.1 hP 8 7 rfl rfl rfl hdg kk
theorem alM_9 {i : Int32} (hF : CallFix p m c cc nL s args w_all own) (hK : kW_M dC dI cA s) (hP : va_P (dC, dI) classes (wM L cA ar sc) H) (hin : vp_in i 30) (hdg : decode cc pc = .ok (.iaload, 1)) (kk : W p l e R s m args below meth c H locs cells slots Q (F0 m (pc + 1) ls (.int (ar 9 i.toNatClampNeg) :: rest))) : W p l e R s m args below meth c H locs cells slots Q (F0 m pc ls (.int i :: .ref (L 9) :: rest)) :=
  va_iald hF.1 hF.2.1 hK.1 hP 9 8 rfl rfl hin hdg kk
theorem asM_9 {i x : Int32} (hF : CallFix p m c cc nL s args w_all own) (hK : kW_M dC dI cA s) (hP : va_P (dC, dI) classes (wM L cA ar sc) H) (hL : ij 25 L) (hS : va_S (aM L) H0 H locs) (hin : vp_in i 30) (hdg : decode cc pc = .ok (.iastore, 1)) (kk : ∀ (H1 : Heap) (locs1 : List Loc), va_P (dC, dI) classes (wM L cA (s2 ar 9 i.toNatClampNeg x) sc) H1 → va_S (aM L) H0 H1 locs1 → W p l e R s m args below meth c H1 locs1 cells slots Q (F0 m (pc + 1) ls rest)) : W p l e R s m args below meth c H locs cells slots Q (F0 m pc ls (.int x :: .int i :: .ref (L 9) :: rest)) :=
  va_iast hF.1 hF.2.1 hK.1 hP (wM_D hL) hS 9 8 rfl rfl hin hdg (fun H1 locs1 h1 _ h3 => kk H1 locs1 h1 h3)
theorem anM_9 (hF : CallFix p m c cc nL s args w_all own) (hK : kW_M dC dI cA s) (hP : va_P (dC, dI) classes (wM L cA ar sc) H) (hdg : decode cc pc = .ok (.arraylength, 1)) (kk : W p l e R s m args below meth c H locs cells slots Q (F0 m (pc + 1) ls (.int 30 :: rest))) : W p l e R s m args below meth c H locs cells slots Q (F0 m pc ls (.ref (L 9) :: rest)) :=
  va_alen (v := 30) hF.1 hF.2.1 hK.1 hP 9 8 rfl rfl rfl hdg kk
theorem alM_10 {i : Int32} (hF : CallFix p m c cc nL s args w_all own) (hK : kW_M dC dI cA s) (hP : va_P (dC, dI) classes (wM L cA ar sc) H) (hin : vp_in i 30) (hdg : decode cc pc = .ok (.iaload, 1)) (kk : W p l e R s m args below meth c H locs cells slots Q (F0 m (pc + 1) ls (.int (ar 10 i.toNatClampNeg) :: rest))) : W p l e R s m args below meth c H locs cells slots Q (F0 m pc ls (.int i :: .ref (L 10) :: rest)) :=
  va_iald hF.1 hF.2.1 hK.1 hP 10 9 rfl rfl hin hdg kk
theorem asM_10 {i x : Int32} (hF : CallFix p m c cc nL s args w_all own) (hK : kW_M dC dI cA s) (hP : va_P (dC, dI) classes (wM L cA ar sc) H) (hL : ij 25 L) (hS : va_S (aM L) H0 H locs) (hin : vp_in i 30) (hdg : decode cc pc = .ok (.iastore, 1)) (kk : ∀ (H1 : Heap) (locs1 : List Loc), va_P (dC, dI) classes (wM L cA (s2 ar 10 i.toNatClampNeg x) sc) H1 → va_S (aM L) H0 H1 locs1 → W p l e R s m args below meth c H1 locs1 cells slots Q (F0 m (pc + 1) ls rest)) : W p l e R s m args below meth c H locs cells slots Q (F0 m pc ls (.int x :: .int i :: .ref (L 10) :: rest)) :=
  va_iast hF.1 hF.2.1 hK.1 hP (wM_D hL) hS 10 9 rfl rfl hin hdg (fun H1 locs1 h1 _ h3 => kk H1 locs1 h1 h3)
theorem anM_10 (hF : CallFix p m c cc nL s args w_all own) (hK : kW_M dC dI cA s) (hP : va_P (dC, dI) classes (wM L cA ar sc) H) (hdg : decode cc pc = .ok (.arraylength, 1)) (kk : W p l e R s m args below meth c H locs cells slots Q (F0 m (pc + 1) ls (.int 30 :: rest))) : W p l e R s m args below meth c H locs cells slots Q (F0 m pc ls (.ref (L 10) :: rest)) :=
  va_alen (v := 30) hF.1 hF.2.1 hK.1 hP 10 9 rfl rfl rfl hdg kk
theorem alM_11 {i : Int32} (hF : CallFix p m c cc nL s args w_all own) (hK : kW_M dC dI cA s) (hP : va_P (dC, dI) classes (wM L cA ar sc) H) (hin : vp_in i 100) (hdg : decode cc pc = .ok (.iaload, 1)) (kk : W p l e R s m args below meth c H locs cells slots Q (F0 m (pc + 1) ls (.int (ar 11 i.toNatClampNeg) :: rest))) : W p l e R s m args below meth c H locs cells slots Q (F0 m pc ls (.int i :: .ref (L 11) :: rest)) :=
  va_iald hF.1 hF.2.1 hK.1 hP 11 10 rfl rfl hin hdg kk
theorem asM_11 {i x : Int32} (hF : CallFix p m c cc nL s args w_all own) (hK : kW_M dC dI cA s) (hP : va_P (dC, dI) classes (wM L cA ar sc) H) (hL : ij 25 L) (hS : va_S (aM L) H0 H locs) (hin : vp_in i 100) (hdg : decode cc pc = .ok (.iastore, 1)) (kk : ∀ (H1 : Heap) (locs1 : List Loc), va_P (dC, dI) classes (wM L cA (s2 ar 11 i.toNatClampNeg x) sc) H1 → va_S (aM L) H0 H1 locs1 → W p l e R s m args below meth c H1 locs1 cells slots Q (F0 m (pc + 1) ls rest)) : W p l e R s m args below meth c H locs cells slots Q (F0 m pc ls (.int x :: .int i :: .ref (L 11) :: rest)) :=
  va_iast hF.1 hF.2.1 hK.1 hP (wM_D hL) hS 11 10 rfl rfl hin hdg (fun H1 locs1 h1 _ h3 => kk H1 locs1 h1 h3)
theorem anM_11 (hF : CallFix p m c cc nL s args w_all own) (hK : kW_M dC dI cA s) (hP : va_P (dC, dI) classes (wM L cA ar sc) H) (hdg : decode cc pc = .ok (.arraylength, 1)) (kk : W p l e R s m args below meth c H locs cells slots Q (F0 m (pc + 1) ls (.int 100 :: rest))) : W p l e R s m args below meth c H locs cells slots Q (F0 m pc ls (.ref (L 11) :: rest)) :=
  va_alen (v := 100) hF.1 hF.2.1 hK.1 hP 11 10 rfl rfl rfl hdg kk
theorem alM_12 {i : Int32} (hF : CallFix p m c cc nL s args w_all own) (hK : kW_M dC dI cA s) (hP : va_P (dC, dI) classes (wM L cA ar sc) H) (hin : vp_in i 100) (hdg : decode cc pc = .ok (.iaload, 1)) (kk : W p l e R s m args below meth c H locs cells slots Q (F0 m (pc + 1) ls (.int (ar 12 i.toNatClampNeg) :: rest))) : W p l e R s m args below meth c H locs cells slots Q (F0 m pc ls (.int i :: .ref (L 12) :: rest)) :=
  va_iald hF.1 hF.2.1 hK.1 hP 12 11 rfl rfl hin hdg kk
theorem asM_12 {i x : Int32} (hF : CallFix p m c cc nL s args w_all own) (hK : kW_M dC dI cA s) (hP : va_P (dC, dI) classes (wM L cA ar sc) H) (hL : ij 25 L) (hS : va_S (aM L) H0 H locs) (hin : vp_in i 100) (hdg : decode cc pc = .ok (.iastore, 1)) (kk : ∀ (H1 : Heap) (locs1 : List Loc), va_P (dC, dI) classes (wM L cA (s2 ar 12 i.toNatClampNeg x) sc) H1 → va_S (aM L) H0 H1 locs1 → W p l e R s m args below meth c H1 locs1 cells slots Q (F0 m (pc + 1) ls rest)) : W p l e R s m args below meth c H locs cells slots Q (F0 m pc ls (.int x :: .int i :: .ref (L 12) :: rest)) :=
  va_iast hF.1 hF.2.1 hK.1 hP (wM_D hL) hS 12 11 rfl rfl hin hdg (fun H1 locs1 h1 _ h3 => kk H1 locs1 h1 h3)
theorem anM_12 (hF : CallFix p m c cc nL s args w_all own) (hK : kW_M dC dI cA s) (hP : va_P (dC, dI) classes (wM L cA ar sc) H) (hdg : decode cc pc = .ok (.arraylength, 1)) (kk : W p l e R s m args below meth c H locs cells slots Q (F0 m (pc + 1) ls (.int 100 :: rest))) : W p l e R s m args below meth c H locs cells slots Q (F0 m pc ls (.ref (L 12) :: rest)) :=
  va_alen (v := 100) hF.1 hF.2.1 hK.1 hP 12 11 rfl rfl rfl hdg kk
theorem alM_13 {i : Int32} (hF : CallFix p m c cc nL s args w_all own) (hK : kW_M dC dI cA s) (hP : va_P (dC, dI) classes (wM L cA ar sc) H) (hin : vp_in i 100) (hdg : decode cc pc = .ok (.iaload, 1)) (kk : W p l e R s m args below meth c H locs cells slots Q (F0 m (pc + 1) ls (.int (ar 13 i.toNatClampNeg) :: rest))) : W p l e R s m args below meth c H locs cells slots Q (F0 m pc ls (.int i :: .ref (L 13) :: rest)) :=
  va_iald hF.1 hF.2.1 hK.1 hP 13 12 rfl rfl hin hdg kk
theorem asM_13 {i x : Int32} (hF : CallFix p m c cc nL s args w_all own) (hK : kW_M dC dI cA s) (hP : va_P (dC, dI) classes (wM L cA ar sc) H) (hL : ij 25 L) (hS : va_S (aM L) H0 H locs) (hin : vp_in i 100) (hdg : decode cc pc = .ok (.iastore, 1)) (kk : ∀ (H1 : Heap) (locs1 : List Loc), va_P (dC, dI) classes (wM L cA (s2 ar 13 i.toNatClampNeg x) sc) H1 → va_S (aM L) H0 H1 locs1 → W p l e R s m args below meth c H1 locs1 cells slots Q (F0 m (pc + 1) ls rest)) : W p l e R s m args below meth c H locs cells slots Q (F0 m pc ls (.int x :: .int i :: .ref (L 13) :: rest)) :=
  va_iast hF.1 hF.2.1 hK.1 hP (wM_D hL) hS 13 12 rfl rfl hin hdg (fun H1 locs1 h1 _ h3 => kk H1 locs1 h1 h3)
theorem anM_13 (hF : CallFix p m c cc nL s args w_all own) (hK : kW_M dC dI cA s) (hP : va_P (dC, dI) classes (wM L cA ar sc) H) (hdg : decode cc pc = .ok (.arraylength, 1)) (kk : W p l e R s m args below meth c H locs cells slots Q (F0 m (pc + 1) ls (.int 100 :: rest))) : W p l e R s m args below meth c H locs cells slots Q (F0 m pc ls (.ref (L 13) :: rest)) :=
  va_alen (v := 100) hF.1 hF.2.1 hK.1 hP 13 12 rfl rfl rfl hdg kk
theorem alM_14 {i : Int32} (hF : CallFix p m c cc nL s args w_all own) (hK : kW_M dC dI cA s) (hP : va_P (dC, dI) classes (wM L cA ar sc) H) (hin : vp_in i 100) (hdg : decode cc pc = .ok (.iaload, 1)) (kk : W p l e R s m args below meth c H locs cells slots Q (F0 m (pc + 1) ls (.int (ar 14 i.toNatClampNeg) :: rest))) : W p l e R s m args below meth c H locs cells slots Q (F0 m pc ls (.int i :: .ref (L 14) :: rest)) :=
  va_iald hF.1 hF.2.1 hK.1 hP 14 13 rfl rfl hin hdg kk
theorem asM_14 {i x : Int32} (hF : CallFix p m c cc nL s args w_all own) (hK : kW_M dC dI cA s) (hP : va_P (dC, dI) classes (wM L cA ar sc) H) (hL : ij 25 L) (hS : va_S (aM L) H0 H locs) (hin : vp_in i 100) (hdg : decode cc pc = .ok (.iastore, 1)) (kk : ∀ (H1 : Heap) (locs1 : List Loc), va_P (dC, dI) classes (wM L cA (s2 ar 14 i.toNatClampNeg x) sc) H1 → va_S (aM L) H0 H1 locs1 → W p l e R s m args below meth c H1 locs1 cells slots Q (F0 m (pc + 1) ls rest)) : W p l e R s m args below meth c H locs cells slots Q (F0 m pc ls (.int x :: .int i :: .ref (L 14) :: rest)) :=
  va_iast hF.1 hF.2.1 hK.1 hP (wM_D hL) hS 14 13 rfl rfl hin hdg (fun H1 locs1 h1 _ h3 => kk H1 locs1 h1 h3)
theorem anM_14 (hF : CallFix p m c cc nL s args w_all own) (hK : kW_M dC dI cA s) (hP : va_P (dC, dI) classes (wM L cA ar sc) H) (hdg : decode cc pc = .ok (.arraylength, 1)) (kk : W p l e R s m args below meth c H locs cells slots Q (F0 m (pc + 1) ls (.int 100 :: rest))) : W p l e R s m args below meth c H locs cells slots Q (F0 m pc ls (.ref (L 14) :: rest)) :=
  va_alen (v := 100) hF.1 hF.2.1 hK.1 hP 14 13 rfl rfl rfl hdg kk
theorem alM_15 {i : Int32} (hF : CallFix p m c cc nL s args w_all own) (hK : kW_M dC dI cA s) (hP : va_P (dC, dI) classes (wM L cA ar sc) H) (hin : vp_in i 16) (hdg : decode cc pc = .ok (.baload, 1)) (kk : W p l e R s m args below meth c H locs cells slots Q (F0 m (pc + 1) ls (.int (ar 15 i.toNatClampNeg) :: rest))) : W p l e R s m args below meth c H locs cells slots Q (F0 m pc ls (.int i :: .ref (L 15) :: rest)) :=
  va_zald hF.1 hF.2.1 hK.1 hP 15 14 rfl rfl hin hdg kk
theorem asM_15 {i x : Int32} (hF : CallFix p m c cc nL s args w_all own) (hK : kW_M dC dI cA s) (hP : va_P (dC, dI) classes (wM L cA ar sc) H) (hL : ij 25 L) (hS : va_S (aM L) H0 H locs) (hin : vp_in i 16) (hdg : decode cc pc = .ok (.bastore, 1)) (kk : ∀ (H1 : Heap) (locs1 : List Loc), va_P (dC, dI) classes (wM L cA (s2 ar 15 i.toNatClampNeg (vp_nar .boolean x)) sc) H1 → va_S (aM L) H0 H1 locs1 → W p l e R s m args below meth c H1 locs1 cells slots Q (F0 m (pc + 1) ls rest)) : W p l e R s m args below meth c H locs cells slots Q (F0 m pc ls (.int x :: .int i :: .ref (L 15) :: rest)) :=
  va_zast hF.1 hF.2.1 hK.1 hP (wM_D hL) hS 15 14 rfl rfl hin hdg (fun H1 locs1 h1 _ h3 => kk H1 locs1 h1 h3)
theorem anM_15 (hF : CallFix p m c cc nL s args w_all own) (hK : kW_M dC dI cA s) (hP : va_P (dC, dI) classes (wM L cA ar sc) H) (hdg : decode cc pc = .ok (.arraylength, 1)) (kk : W p l e R s m args below meth c H locs cells slots Q (F0 m (pc + 1) ls (.int 16 :: rest))) : W p l e R s m args below meth c H locs cells slots Q (F0 m pc ls (.ref (L 15) :: rest)) :=
  va_alen (v := 16) hF.1 hF.2.1 hK.1 hP 15 14 rfl rfl rfl hdg kk
theorem alM_16 {i : Int32} (hF : CallFix p m c cc nL s args w_all own) (hK : kW_M dC dI cA s) (hP : va_P (dC, dI) classes (wM L cA ar sc) H) (hin : vp_in i 16) (hdg : decode cc pc = .ok (.iaload, 1)) (kk : W p l e R s m args below meth c H locs cells slots Q (F0 m (pc + 1) ls (.int (ar 16 i.toNatClampNeg) :: rest))) : W p l e R s m args below meth c H locs cells slots Q (F0 m pc ls (.int i :: .ref (L 16) :: rest)) :=
  va_iald hF.1 hF.2.1 hK.1 hP 16 15 rfl rfl hin hdg kk
theorem asM_16 {i x : Int32} (hF : CallFix p m c cc nL s args w_all own) (hK : kW_M dC dI cA s) (hP : va_P (dC, dI) classes (wM L cA ar sc) H) (hL : ij 25 L) (hS : va_S (aM L) H0 H locs) (hin : vp_in i 16) (hdg : decode cc pc = .ok (.iastore, 1)) (kk : ∀ (H1 : Heap) (locs1 : List Loc), va_P (dC, dI) classes (wM L cA (s2 ar 16 i.toNatClampNeg x) sc) H1 → va_S (aM L) H0 H1 locs1 → W p l e R s m args below meth c H1 locs1 cells slots Q (F0 m (pc + 1) ls rest)) : W p l e R s m args below meth c H locs cells slots Q (F0 m pc ls (.int x :: .int i :: .ref (L 16) :: rest)) :=
  va_iast hF.1 hF.2.1 hK.1 hP (wM_D hL) hS 16 15 rfl rfl hin hdg (fun H1 locs1 h1 _ h3 => kk H1 locs1 h1 h3)
theorem anM_16 (hF : CallFix p m c cc nL s args w_all own) (hK : kW_M dC dI cA s) (hP : va_P (dC, dI) classes (wM L cA ar sc) H) (hdg : decode cc pc = .ok (.arraylength, 1)) (kk : W p l e R s m args below meth c H locs cells slots Q (F0 m (pc + 1) ls (.int 16 :: rest))) : W p l e R s m args below meth c H locs cells slots Q (F0 m pc ls (.ref (L 16) :: rest)) :=
  va_alen (v := 16) hF.1 hF.2.1 hK.1 hP 16 15 rfl rfl rfl hdg kk
theorem alM_17 {i : Int32} (hF : CallFix p m c cc nL s args w_all own) (hK : kW_M dC dI cA s) (hP : va_P (dC, dI) classes (wM L cA ar sc) H) (hin : vp_in i 16) (hdg : decode cc pc = .ok (.iaload, 1)) (kk : W p l e R s m args below meth c H locs cells slots Q (F0 m (pc + 1) ls (.int (ar 17 i.toNatClampNeg) :: rest))) : W p l e R s m args below meth c H locs cells slots Q (F0 m pc ls (.int i :: .ref (L 17) :: rest)) :=
  va_iald hF.1 hF.2.1 hK.1 hP 17 16 rfl rfl hin hdg kk
theorem asM_17 {i x : Int32} (hF : CallFix p m c cc nL s args w_all own) (hK : kW_M dC dI cA s) (hP : va_P (dC, dI) classes (wM L cA ar sc) H) (hL : ij 25 L) (hS : va_S (aM L) H0 H locs) (hin : vp_in i 16) (hdg : decode cc pc = .ok (.iastore, 1)) (kk : ∀ (H1 : Heap) (locs1 : List Loc), va_P (dC, dI) classes (wM L cA (s2 ar 17 i.toNatClampNeg x) sc) H1 → va_S (aM L) H0 H1 locs1 → W p l e R s m args below meth c H1 locs1 cells slots Q (F0 m (pc + 1) ls rest)) : W p l e R s m args below meth c H locs cells slots Q (F0 m pc ls (.int x :: .int i :: .ref (L 17) :: rest)) :=
  va_iast hF.1 hF.2.1 hK.1 hP (wM_D hL) hS 17 16 rfl rfl hin hdg (fun H1 locs1 h1 _ h3 => kk H1 locs1 h1 h3)
theorem anM_17 (hF : CallFix p m c cc nL s args w_all own) (hK : kW_M dC dI cA s) (hP : va_P (dC, dI) classes (wM L cA ar sc) H) (hdg : decode cc pc = .ok (.arraylength, 1)) (kk : W p l e R s m args below meth c H locs cells slots Q (F0 m (pc + 1) ls (.int 16 :: rest))) : W p l e R s m args below meth c H locs cells slots Q (F0 m pc ls (.ref (L 17) :: rest)) :=
  va_alen (v := 16) hF.1 hF.2.1 hK.1 hP 17 16 rfl rfl rfl hdg kk
theorem alM_18 {i : Int32} (hF : CallFix p m c cc nL s args w_all own) (hK : kW_M dC dI cA s) (hP : va_P (dC, dI) classes (wM L cA ar sc) H) (hin : vp_in i 16) (hdg : decode cc pc = .ok (.iaload, 1)) (kk : W p l e R s m args below meth c H locs cells slots Q (F0 m (pc + 1) ls (.int (ar 18 i.toNatClampNeg) :: rest))) : W p l e R s m args below meth c H locs cells slots Q (F0 m pc ls (.int i :: .ref (L 18) :: rest)) :=
  va_iald hF.1 hF.2.1 hK.1 hP 18 17 rfl rfl hin hdg kk
theorem asM_18 {i x : Int32} (hF : CallFix p m c cc nL s args w_all own) (hK : kW_M dC dI cA s) (hP : va_P (dC, dI) classes (wM L cA ar sc) H) (hL : ij 25 L) (hS : va_S (aM L) H0 H locs) (hin : vp_in i 16) (hdg : decode cc pc = .ok (.iastore, 1)) (kk : ∀ (H1 : Heap) (locs1 : List Loc), va_P (dC, dI) classes (wM L cA (s2 ar 18 i.toNatClampNeg x) sc) H1 → va_S (aM L) H0 H1 locs1 → W p l e R s m args below meth c H1 locs1 cells slots Q (F0 m (pc + 1) ls rest)) : W p l e R s m args below meth c H locs cells slots Q (F0 m pc ls (.int x :: .int i :: .ref (L 18) :: rest)) :=
  va_iast hF.1 hF.2.1 hK.1 hP (wM_D hL) hS 18 17 rfl rfl hin hdg (fun H1 locs1 h1 _ h3 => kk H1 locs1 h1 h3)
theorem anM_18 (hF : CallFix p m c cc nL s args w_all own) (hK : kW_M dC dI cA s) (hP : va_P (dC, dI) classes (wM L cA ar sc) H) (hdg : decode cc pc = .ok (.arraylength, 1)) (kk : W p l e R s m args below meth c H locs cells slots Q (F0 m (pc + 1) ls (.int 16 :: rest))) : W p l e R s m args below meth c H locs cells slots Q (F0 m pc ls (.ref (L 18) :: rest)) :=
  va_alen (v := 16) hF.1 hF.2.1 hK.1 hP 18 17 rfl rfl rfl hdg kk
theorem alM_19 {i : Int32} (hF : CallFix p m c cc nL s args w_all own) (hK : kW_M dC dI cA s) (hP : va_P (dC, dI) classes (wM L cA ar sc) H) (hin : vp_in i 7) (hdg : decode cc pc = .ok (.iaload, 1)) (kk : W p l e R s m args below meth c H locs cells slots Q (F0 m (pc + 1) ls (.int (ar 19 i.toNatClampNeg) :: rest))) : W p l e R s m args below meth c H locs cells slots Q (F0 m pc ls (.int i :: .ref (L 19) :: rest)) :=
  va_iald hF.1 hF.2.1 hK.1 hP 19 18 rfl rfl hin hdg kk
theorem asM_19 {i x : Int32} (hF : CallFix p m c cc nL s args w_all own) (hK : kW_M dC dI cA s) (hP : va_P (dC, dI) classes (wM L cA ar sc) H) (hL : ij 25 L) (hS : va_S (aM L) H0 H locs) (hin : vp_in i 7) (hdg : decode cc pc = .ok (.iastore, 1)) (kk : ∀ (H1 : Heap) (locs1 : List Loc), va_P (dC, dI) classes (wM L cA (s2 ar 19 i.toNatClampNeg x) sc) H1 → va_S (aM L) H0 H1 locs1 → W p l e R s m args below meth c H1 locs1 cells slots Q (F0 m (pc + 1) ls rest)) : W p l e R s m args below meth c H locs cells slots Q (F0 m pc ls (.int x :: .int i :: .ref (L 19) :: rest)) :=
  va_iast hF.1 hF.2.1 hK.1 hP (wM_D hL) hS 19 18 rfl rfl hin hdg (fun H1 locs1 h1 _ h3 => kk H1 locs1 h1 h3)
theorem anM_19 (hF : CallFix p m c cc nL s args w_all own) (hK : kW_M dC dI cA s) (hP : va_P (dC, dI) classes (wM L cA ar sc) H) (hdg : decode cc pc = .ok (.arraylength, 1)) (kk : W p l e R s m args below meth c H locs cells slots Q (F0 m (pc + 1) ls (.int 7 :: rest))) : W p l e R s m args below meth c H locs cells slots Q (F0 m pc ls (.ref (L 19) :: rest)) :=
  va_alen (v := 7) hF.1 hF.2.1 hK.1 hP 19 18 rfl rfl rfl hdg kk
theorem alM_20 {i : Int32} (hF : CallFix p m c cc nL s args w_all own) (hK : kW_M dC dI cA s) (hP : va_P (dC, dI) classes (wM L cA ar sc) H) (hin : vp_in i 7) (hdg : decode cc pc = .ok (.iaload, 1)) (kk : W p l e R s m args below meth c H locs cells slots Q (F0 m (pc + 1) ls (.int (ar 20 i.toNatClampNeg) :: rest))) : W p l e R s m args below meth c H locs cells slots Q (F0 m pc ls (.int i :: .ref (L 20) :: rest)) :=
  va_iald hF.1 hF.2.1 hK.1 hP 20 19 rfl rfl hin hdg kk
theorem asM_20 {i x : Int32} (hF : CallFix p m c cc nL s args w_all own) (hK : kW_M dC dI cA s) (hP : va_P (dC, dI) classes (wM L cA ar sc) H) (hL : ij 25 L) (hS : va_S (aM L) H0 H locs) (hin : vp_in i 7) (hdg : decode cc pc = .ok (.iastore, 1)) (kk : ∀ (H1 : Heap) (locs1 : List Loc), va_P (dC, dI) classes (wM L cA (s2 ar 20 i.toNatClampNeg x) sc) H1 → va_S (aM L) H0 H1 locs1 → W p l e R s m args below meth c H1 locs1 cells slots Q (F0 m (pc + 1) ls rest)) : W p l e R s m args below meth c H locs cells slots Q (F0 m pc ls (.int x :: .int i :: .ref (L 20) :: rest)) :=
  va_iast hF.1 hF.2.1 hK.1 hP (wM_D hL) hS 20 19 rfl rfl hin hdg (fun H1 locs1 h1 _ h3 => kk H1 locs1 h1 h3)
theorem anM_20 (hF : CallFix p m c cc nL s args w_all own) (hK : kW_M dC dI cA s) (hP : va_P (dC, dI) classes (wM L cA ar sc) H) (hdg : decode cc pc = .ok (.arraylength, 1)) (kk : W p l e R s m args below meth c H locs cells slots Q (F0 m (pc + 1) ls (.int 7 :: rest))) : W p l e R s m args below meth c H locs cells slots Q (F0 m pc ls (.ref (L 20) :: rest)) :=
  va_alen (v := 7) hF.1 hF.2.1 hK.1 hP 20 19 rfl rfl rfl hdg kk
theorem alM_21 {i : Int32} (hF : CallFix p m c cc nL s args w_all own) (hK : kW_M dC dI cA s) (hP : va_P (dC, dI) classes (wM L cA ar sc) H) (hin : vp_in i 896) (hdg : decode cc pc = .ok (.iaload, 1)) (kk : W p l e R s m args below meth c H locs cells slots Q (F0 m (pc + 1) ls (.int (ar 21 i.toNatClampNeg) :: rest))) : W p l e R s m args below meth c H locs cells slots Q (F0 m pc ls (.int i :: .ref (L 21) :: rest)) :=
  va_iald hF.1 hF.2.1 hK.1 hP 21 20 rfl rfl hin hdg kk
theorem asM_21 {i x : Int32} (hF : CallFix p m c cc nL s args w_all own) (hK : kW_M dC dI cA s) (hP : va_P (dC, dI) classes (wM L cA ar sc) H) (hL : ij 25 L) (hS : va_S (aM L) H0 H locs) (hin : vp_in i 896) (hdg : decode cc pc = .ok (.iastore, 1)) (kk : ∀ (H1 : Heap) (locs1 : List Loc), va_P (dC, dI) classes (wM L cA (s2 ar 21 i.toNatClampNeg x) sc) H1 → va_S (aM L) H0 H1 locs1 → W p l e R s m args below meth c H1 locs1 cells slots Q (F0 m (pc + 1) ls rest)) : W p l e R s m args below meth c H locs cells slots Q (F0 m pc ls (.int x :: .int i :: .ref (L 21) :: rest)) :=
  va_iast hF.1 hF.2.1 hK.1 hP (wM_D hL) hS 21 20 rfl rfl hin hdg (fun H1 locs1 h1 _ h3 => kk H1 locs1 h1 h3)
theorem anM_21 (hF : CallFix p m c cc nL s args w_all own) (hK : kW_M dC dI cA s) (hP : va_P (dC, dI) classes (wM L cA ar sc) H) (hdg : decode cc pc = .ok (.arraylength, 1)) (kk : W p l e R s m args below meth c H locs cells slots Q (F0 m (pc + 1) ls (.int 896 :: rest))) : W p l e R s m args below meth c H locs cells slots Q (F0 m pc ls (.ref (L 21) :: rest)) :=
  va_alen (v := 896) hF.1 hF.2.1 hK.1 hP 21 20 rfl rfl rfl hdg kk
theorem alM_22 {i : Int32} (hF : CallFix p m c cc nL s args w_all own) (hK : kW_M dC dI cA s) (hP : va_P (dC, dI) classes (wM L cA ar sc) H) (hin : vp_in i 124) (hdg : decode cc pc = .ok (.iaload, 1)) (kk : W p l e R s m args below meth c H locs cells slots Q (F0 m (pc + 1) ls (.int (ar 22 i.toNatClampNeg) :: rest))) : W p l e R s m args below meth c H locs cells slots Q (F0 m pc ls (.int i :: .ref (L 22) :: rest)) :=
  va_iald hF.1 hF.2.1 hK.1 hP 22 21 rfl rfl hin hdg kk
theorem asM_22 {i x : Int32} (hF : CallFix p m c cc nL s args w_all own) (hK : kW_M dC dI cA s) (hP : va_P (dC, dI) classes (wM L cA ar sc) H) (hL : ij 25 L) (hS : va_S (aM L) H0 H locs) (hin : vp_in i 124) (hdg : decode cc pc = .ok (.iastore, 1)) (kk : ∀ (H1 : Heap) (locs1 : List Loc), va_P (dC, dI) classes (wM L cA (s2 ar 22 i.toNatClampNeg x) sc) H1 → va_S (aM L) H0 H1 locs1 → W p l e R s m args below meth c H1 locs1 cells slots Q (F0 m (pc + 1) ls rest)) : W p l e R s m args below meth c H locs cells slots Q (F0 m pc ls (.int x :: .int i :: .ref (L 22) :: rest)) :=
  va_iast hF.1 hF.2.1 hK.1 hP (wM_D hL) hS 22 21 rfl rfl hin hdg (fun H1 locs1 h1 _ h3 => kk H1 locs1 h1 h3)
theorem anM_22 (hF : CallFix p m c cc nL s args w_all own) (hK : kW_M dC dI cA s) (hP : va_P (dC, dI) classes (wM L cA ar sc) H) (hdg : decode cc pc = .ok (.arraylength, 1)) (kk : W p l e R s m args below meth c H locs cells slots Q (F0 m (pc + 1) ls (.int 124 :: rest))) : W p l e R s m args below meth c H locs cells slots Q (F0 m pc ls (.ref (L 22) :: rest)) :=
  va_alen (v := 124) hF.1 hF.2.1 hK.1 hP 22 21 rfl rfl rfl hdg kk
theorem alM_23 {i : Int32} (hF : CallFix p m c cc nL s args w_all own) (hK : kW_M dC dI cA s) (hP : va_P (dC, dI) classes (wM L cA ar sc) H) (hin : vp_in i 30) (hdg : decode cc pc = .ok (.iaload, 1)) (kk : W p l e R s m args below meth c H locs cells slots Q (F0 m (pc + 1) ls (.int (ar 23 i.toNatClampNeg) :: rest))) : W p l e R s m args below meth c H locs cells slots Q (F0 m pc ls (.int i :: .ref (L 23) :: rest)) :=
  va_iald hF.1 hF.2.1 hK.1 hP 23 22 rfl rfl hin hdg kk
theorem asM_23 {i x : Int32} (hF : CallFix p m c cc nL s args w_all own) (hK : kW_M dC dI cA s) (hP : va_P (dC, dI) classes (wM L cA ar sc) H) (hL : ij 25 L) (hS : va_S (aM L) H0 H locs) (hin : vp_in i 30) (hdg : decode cc pc = .ok (.iastore, 1)) (kk : ∀ (H1 : Heap) (locs1 : List Loc), va_P (dC, dI) classes (wM L cA (s2 ar 23 i.toNatClampNeg x) sc) H1 → va_S (aM L) H0 H1 locs1 → W p l e R s m args below meth c H1 locs1 cells slots Q (F0 m (pc + 1) ls rest)) : W p l e R s m args below meth c H locs cells slots Q (F0 m pc ls (.int x :: .int i :: .ref (L 23) :: rest)) :=
  va_iast hF.1 hF.2.1 hK.1 hP (wM_D hL) hS 23 22 rfl rfl hin hdg (fun H1 locs1 h1 _ h3 => kk H1 locs1 h1 h3)
theorem anM_23 (hF : CallFix p m c cc nL s args w_all own) (hK : kW_M dC dI cA s) (hP : va_P (dC, dI) classes (wM L cA ar sc) H) (hdg : decode cc pc = .ok (.arraylength, 1)) (kk : W p l e R s m args below meth c H locs cells slots Q (F0 m (pc + 1) ls (.int 30 :: rest))) : W p l e R s m args below meth c H locs cells slots Q (F0 m pc ls (.ref (L 23) :: rest)) :=
  va_alen (v := 30) hF.1 hF.2.1 hK.1 hP 23 22 rfl rfl rfl hdg kk
theorem alM_24 {i : Int32} (hF : CallFix p m c cc nL s args w_all own) (hK : kW_M dC dI cA s) (hP : va_P (dC, dI) classes (wM L cA ar sc) H) (hin : vp_in i 30) (hdg : decode cc pc = .ok (.iaload, 1)) (kk : W p l e R s m args below meth c H locs cells slots Q (F0 m (pc + 1) ls (.int (ar 24 i.toNatClampNeg) :: rest))) : W p l e R s m args below meth c H locs cells slots Q (F0 m pc ls (.int i :: .ref (L 24) :: rest)) :=
  va_iald hF.1 hF.2.1 hK.1 hP 24 23 rfl rfl hin hdg kk
theorem asM_24 {i x : Int32} (hF : CallFix p m c cc nL s args w_all own) (hK : kW_M dC dI cA s) (hP : va_P (dC, dI) classes (wM L cA ar sc) H) (hL : ij 25 L) (hS : va_S (aM L) H0 H locs) (hin : vp_in i 30) (hdg : decode cc pc = .ok (.iastore, 1)) (kk : ∀ (H1 : Heap) (locs1 : List Loc), va_P (dC, dI) classes (wM L cA (s2 ar 24 i.toNatClampNeg x) sc) H1 → va_S (aM L) H0 H1 locs1 → W p l e R s m args below meth c H1 locs1 cells slots Q (F0 m (pc + 1) ls rest)) : W p l e R s m args below meth c H locs cells slots Q (F0 m pc ls (.int x :: .int i :: .ref (L 24) :: rest)) :=
  va_iast hF.1 hF.2.1 hK.1 hP (wM_D hL) hS 24 23 rfl rfl hin hdg (fun H1 locs1 h1 _ h3 => kk H1 locs1 h1 h3)
theorem anM_24 (hF : CallFix p m c cc nL s args w_all own) (hK : kW_M dC dI cA s) (hP : va_P (dC, dI) classes (wM L cA ar sc) H) (hdg : decode cc pc = .ok (.arraylength, 1)) (kk : W p l e R s m args below meth c H locs cells slots Q (F0 m (pc + 1) ls (.int 30 :: rest))) : W p l e R s m args below meth c H locs cells slots Q (F0 m pc ls (.ref (L 24) :: rest)) :=
  va_alen (v := 30) hF.1 hF.2.1 hK.1 hP 24 23 rfl rfl rfl hdg kk
end VM
end
section
def f_Findings_isOpen (ar : Nat → Nat → Int32) (sc : Nat → Int32) (a0 : Int32) : Int32 :=
  if (ar 16 a0.toNatClampNeg) = 0 then
    1
  else
    0
def p_Findings_isOpen (ar : Nat → Nat → Int32) (sc : Nat → Int32) (a0 : Int32) : Prop :=
  vp_in a0 100
def f_Findings_isMissed (ar : Nat → Nat → Int32) (sc : Nat → Int32) (a0 : Int32) (a1 : Int32) : Int32 :=
  if (f_Findings_isOpen ar sc a0) = 0 then
    0
  else
    if a1 ≤ (ar 15 a0.toNatClampNeg) then
      0
    else
      1
def p_Findings_isMissed (ar : Nat → Nat → Int32) (sc : Nat → Int32) (a0 : Int32) (a1 : Int32) : Prop :=
  (p_Findings_isOpen ar sc a0) ∧ (((f_Findings_isOpen ar sc a0) = 0 → True) ∧ (¬ ((f_Findings_isOpen ar sc a0) = 0) → (vp_in a0 100)))
def f_Findings_riskOn (ar : Nat → Nat → Int32) (sc : Nat → Int32) (a0 : Int32) (a1 : Int32) : Int32 :=
  if (f_Findings_isOpen ar sc a0) = 0 then
    0
  else
    if (f_Findings_isMissed ar sc a0 a1) = 0 then
      ar 14 a0.toNatClampNeg
    else
      2 * (ar 14 a0.toNatClampNeg)
def p_Findings_riskOn (ar : Nat → Nat → Int32) (sc : Nat → Int32) (a0 : Int32) (a1 : Int32) : Prop :=
  (p_Findings_isOpen ar sc a0) ∧ (((f_Findings_isOpen ar sc a0) = 0 → True) ∧ (¬ ((f_Findings_isOpen ar sc a0) = 0) → ((p_Findings_isMissed ar sc a0 a1) ∧ (((f_Findings_isMissed ar sc a0 a1) = 0 → (vp_in a0 100)) ∧ (¬ ((f_Findings_isMissed ar sc a0 a1) = 0) → (vp_in a0 100))))))
def g_Findings_countOpen_4 (ar : Nat → Nat → Int32) (sc : Nat → Int32) (a0 : Int32)  : Nat → Int32 → Int32 → Int32 × Int32
  | 0, v2, v3 => (v2, v3)
  | n + 1, v2, v3 =>
    if (sc 2) ≤ v3 then
      (v2, v3)
    else
      if (ar 13 v3.toNatClampNeg) = a0 then
        if (f_Findings_isOpen ar sc v3) = 0 then
          g_Findings_countOpen_4 ar sc a0 n v2 (v3 + 1)
        else
          g_Findings_countOpen_4 ar sc a0 n (v2 + 1) (v3 + 1)
      else
        g_Findings_countOpen_4 ar sc a0 n v2 (v3 + 1)
def q_Findings_countOpen_4 (ar : Nat → Nat → Int32) (sc : Nat → Int32) (a0 : Int32)  : Nat → Int32 → Int32 → Prop
  | 0, _, _ => False
  | n + 1, v2, v3 =>
    ((sc 2) ≤ v3 → True) ∧ (¬ ((sc 2) ≤ v3) → ((vp_in v3 100) ∧ (((ar 13 v3.toNatClampNeg) = a0 → ((p_Findings_isOpen ar sc v3) ∧ (((f_Findings_isOpen ar sc v3) = 0 → (q_Findings_countOpen_4 ar sc a0 n v2 (v3 + 1))) ∧ (¬ ((f_Findings_isOpen ar sc v3) = 0) → (q_Findings_countOpen_4 ar sc a0 n (v2 + 1) (v3 + 1)))))) ∧ (¬ ((ar 13 v3.toNatClampNeg) = a0) → (q_Findings_countOpen_4 ar sc a0 n v2 (v3 + 1))))))
def f_Findings_countOpen (ar : Nat → Nat → Int32) (sc : Nat → Int32) (a0 : Int32) : Int32 :=
  (g_Findings_countOpen_4 ar sc a0 200 0 0).1
def p_Findings_countOpen (ar : Nat → Nat → Int32) (sc : Nat → Int32) (a0 : Int32) : Prop :=
  q_Findings_countOpen_4 ar sc a0 200 0 0
def f_Findings_add (ar : Nat → Nat → Int32) (sc : Nat → Int32) (a0 : Int32) (a1 : Int32) (a2 : Int32) : Int32 × (Nat → Nat → Int32) × (Nat → Int32) :=
  (sc 2, s2 (s2 (s2 (s2 ar 13 ((sc 2).toNatClampNeg) a0) 14 ((sc 2).toNatClampNeg) a1) 15 ((sc 2).toNatClampNeg) a2) 16 ((sc 2).toNatClampNeg) 0, sg sc 2 ((sc 2) + 1))
def p_Findings_add (ar : Nat → Nat → Int32) (sc : Nat → Int32) (a0 : Int32) (a1 : Int32) (a2 : Int32) : Prop :=
  (vp_in (sc 2) 100) ∧ ((vp_in (sc 2) 100) ∧ ((vp_in (sc 2) 100) ∧ (vp_in (sc 2) 100)))
def f_Points_add (ar : Nat → Nat → Int32) (sc : Nat → Int32) (a0 : Int32) (a1 : Int32) (a2 : Int32) (a3 : Int32) : Int32 × (Nat → Nat → Int32) × (Nat → Int32) :=
  (sc 1, s2 (s2 (s2 (s2 (s2 ar 7 ((sc 1).toNatClampNeg) a0) 8 ((sc 1).toNatClampNeg) a1) 9 ((sc 1).toNatClampNeg) a2) 10 ((sc 1).toNatClampNeg) a3) 11 ((sc 1).toNatClampNeg) (-1), sg sc 1 ((sc 1) + 1))
def p_Points_add (ar : Nat → Nat → Int32) (sc : Nat → Int32) (a0 : Int32) (a1 : Int32) (a2 : Int32) (a3 : Int32) : Prop :=
  (vp_in (sc 1) 30) ∧ ((vp_in (sc 1) 30) ∧ ((vp_in (sc 1) 30) ∧ ((vp_in (sc 1) 30) ∧ (vp_in (sc 1) 30))))
def g_Scale_classFor_4 (ar : Nat → Nat → Int32) (sc : Nat → Int32) (a0 : Int32)  : Nat → Int32 → Int32 → Int32 × Int32
  | 0, v2, v3 => (v2, v3)
  | n + 1, v2, v3 =>
    if 3 ≤ v3 then
      (v2, v3)
    else
      if a0 < (ar 3 v3.toNatClampNeg) then
        g_Scale_classFor_4 ar sc a0 n v2 (v3 + 1)
      else
        g_Scale_classFor_4 ar sc a0 n (v2 + 1) (v3 + 1)
def q_Scale_classFor_4 (ar : Nat → Nat → Int32) (sc : Nat → Int32) (a0 : Int32)  : Nat → Int32 → Int32 → Prop
  | 0, _, _ => False
  | n + 1, v2, v3 =>
    (3 ≤ v3 → True) ∧ (¬ (3 ≤ v3) → ((vp_in v3 3) ∧ ((a0 < (ar 3 v3.toNatClampNeg) → (q_Scale_classFor_4 ar sc a0 n v2 (v3 + 1))) ∧ (¬ (a0 < (ar 3 v3.toNatClampNeg)) → (q_Scale_classFor_4 ar sc a0 n (v2 + 1) (v3 + 1))))))
def f_Scale_classFor (ar : Nat → Nat → Int32) (sc : Nat → Int32) (a0 : Int32) : Int32 :=
  (g_Scale_classFor_4 ar sc a0 200 0 0).1
def p_Scale_classFor (ar : Nat → Nat → Int32) (sc : Nat → Int32) (a0 : Int32) : Prop :=
  q_Scale_classFor_4 ar sc a0 200 0 0
def f_Questions_tell (ar : Nat → Nat → Int32) (sc : Nat → Int32) (a0 : Int32) (a1 : Int32) (a2 : Int32) (a3 : Int32) : (Nat → Nat → Int32) × (Nat → Int32) :=
  (s2 (s2 (s2 (s2 ar 18 a0.toNatClampNeg (vp_nar .boolean 1)) 19 a0.toNatClampNeg a1) 20 a0.toNatClampNeg a2) 21 a0.toNatClampNeg a3, sc)
def p_Questions_tell (ar : Nat → Nat → Int32) (sc : Nat → Int32) (a0 : Int32) (a1 : Int32) (a2 : Int32) (a3 : Int32) : Prop :=
  (vp_in a0 16) ∧ ((vp_in a0 16) ∧ ((vp_in a0 16) ∧ (vp_in a0 16)))
def g_Questions_answer_9 (a0 : Int32)  : Nat → Int32 → Int32 → (Nat → Nat → Int32) → (Nat → Int32) → Int32 × (Nat → Nat → Int32) × (Nat → Int32)
  | 0, v2, v3, ar, sc => (0, ar, sc)
  | n + 1, v2, v3, ar, sc =>
    if 16 ≤ v3 then
      (1, ar, sc)
    else
      if v2 = (-1) then
        (1, ar, sc)
      else
        if (ar 18 v2.toNatClampNeg) = 0 then
          (0, ar, sc)
        else
          if (((a0.toUInt32 >>> (v2.toUInt32 &&& Int32.toUInt32 31)).toInt32) &&& 1) = 1 then
            g_Questions_answer_9 a0 n (ar 19 v2.toNatClampNeg) (v3 + 1) ar sc
          else
            if (ar 21 v2.toNatClampNeg) ≤ 0 then
              g_Questions_answer_9 a0 n (ar 20 v2.toNatClampNeg) (v3 + 1) ar sc
            else
              g_Questions_answer_9 a0 n ((s2 ar 22 ((sc 3).toNatClampNeg) (ar 21 v2.toNatClampNeg)) 20 v2.toNatClampNeg) (v3 + 1) (s2 ar 22 ((sc 3).toNatClampNeg) (ar 21 v2.toNatClampNeg)) (sg sc 3 ((sc 3) + 1))
def q_Questions_answer_9 (a0 : Int32)  : Nat → Int32 → Int32 → (Nat → Nat → Int32) → (Nat → Int32) → Prop
  | 0, _, _, _, _ => False
  | n + 1, v2, v3, ar, sc =>
    (16 ≤ v3 → True) ∧ (¬ (16 ≤ v3) → ((v2 = (-1) → True) ∧ (¬ (v2 = (-1)) → ((vp_in v2 16) ∧ (((ar 18 v2.toNatClampNeg) = 0 → True) ∧ (¬ ((ar 18 v2.toNatClampNeg) = 0) → (((((a0.toUInt32 >>> (v2.toUInt32 &&& Int32.toUInt32 31)).toInt32) &&& 1) = 1 → ((vp_in v2 16) ∧ (q_Questions_answer_9 a0 n (ar 19 v2.toNatClampNeg) (v3 + 1) ar sc))) ∧ (¬ ((((a0.toUInt32 >>> (v2.toUInt32 &&& Int32.toUInt32 31)).toInt32) &&& 1) = 1) → ((vp_in v2 16) ∧ (((ar 21 v2.toNatClampNeg) ≤ 0 → ((vp_in v2 16) ∧ (q_Questions_answer_9 a0 n (ar 20 v2.toNatClampNeg) (v3 + 1) ar sc))) ∧ (¬ ((ar 21 v2.toNatClampNeg) ≤ 0) → ((vp_in v2 16) ∧ ((vp_in (sc 3) 16) ∧ ((vp_in v2 16) ∧ (q_Questions_answer_9 a0 n ((s2 ar 22 ((sc 3).toNatClampNeg) (ar 21 v2.toNatClampNeg)) 20 v2.toNatClampNeg) (v3 + 1) (s2 ar 22 ((sc 3).toNatClampNeg) (ar 21 v2.toNatClampNeg)) (sg sc 3 ((sc 3) + 1)))))))))))))))))
def f_Questions_answer (ar : Nat → Nat → Int32) (sc : Nat → Int32) (a0 : Int32) : Int32 × (Nat → Nat → Int32) × (Nat → Int32) :=
  g_Questions_answer_9 a0 200 0 0 ar (sg sc 3 0)
def p_Questions_answer (ar : Nat → Nat → Int32) (sc : Nat → Int32) (a0 : Int32) : Prop :=
  q_Questions_answer_9 a0 200 0 0 ar (sg sc 3 0)
def f_Permits_gap (a0 : Int32) (a1 : Int32) (a2 : Int32) (a3 : Int32) : Int64 :=
  (if 0 < (if (a2 - a1) < (a0 - a3) then (a0 - a3) else (a2 - a1)) then (if (a2 - a1) < (a0 - a3) then (a0 - a3) else (a2 - a1)) else 0).toInt64
def f_Permits_groundArea (ar : Nat → Nat → Int32) (sc : Nat → Int32)  : Int64 :=
  (((sc 9) - (sc 7)).toInt64) * (((sc 10) - (sc 8)).toInt64)
def f_Permits_isTooNear (ar : Nat → Nat → Int32) (sc : Nat → Int32) (a0 : Int32) : Int32 :=
  if 0 ≤ (lg_cmp (((f_Permits_gap (sc 7) (sc 9) (ar 31 a0.toNatClampNeg) (ar 33 a0.toNatClampNeg)) * (f_Permits_gap (sc 7) (sc 9) (ar 31 a0.toNatClampNeg) (ar 33 a0.toNatClampNeg))) + ((f_Permits_gap (sc 8) (sc 10) (ar 32 a0.toNatClampNeg) (ar 34 a0.toNatClampNeg)) * (f_Permits_gap (sc 8) (sc 10) (ar 32 a0.toNatClampNeg) (ar 34 a0.toNatClampNeg)))) (((sc 12).toInt64) * ((sc 12).toInt64))) then
    0
  else
    1
def p_Permits_isTooNear (ar : Nat → Nat → Int32) (sc : Nat → Int32) (a0 : Int32) : Prop :=
  (vp_in a0 30) ∧ ((vp_in a0 30) ∧ ((vp_in a0 30) ∧ (vp_in a0 30)))
def g_Permits_findClash_32 (ar : Nat → Nat → Int32) (sc : Nat → Int32) (a0 : Int32) (a1 : Int32) (a2 : Int32)  : Nat → Int32 → Int32
  | 0, v4 => (0)
  | n + 1, v4 =>
    if (sc 5) ≤ v4 then
      (-1)
    else
      if (ar 36 v4.toNatClampNeg) ≤ a0 then
        g_Permits_findClash_32 ar sc a0 a1 a2 n (v4 + 1)
      else
        if a1 ≤ (ar 35 v4.toNatClampNeg) then
          g_Permits_findClash_32 ar sc a0 a1 a2 n (v4 + 1)
        else
          if (f_Permits_isTooNear ar sc v4) = 0 then
            g_Permits_findClash_32 ar sc a0 a1 a2 n (v4 + 1)
          else
            v4
def q_Permits_findClash_32 (ar : Nat → Nat → Int32) (sc : Nat → Int32) (a0 : Int32) (a1 : Int32) (a2 : Int32)  : Nat → Int32 → Prop
  | 0, _ => False
  | n + 1, v4 =>
    ((sc 5) ≤ v4 → True) ∧ (¬ ((sc 5) ≤ v4) → ((vp_in v4 30) ∧ (((ar 36 v4.toNatClampNeg) ≤ a0 → (q_Permits_findClash_32 ar sc a0 a1 a2 n (v4 + 1))) ∧ (¬ ((ar 36 v4.toNatClampNeg) ≤ a0) → ((vp_in v4 30) ∧ ((a1 ≤ (ar 35 v4.toNatClampNeg) → (q_Permits_findClash_32 ar sc a0 a1 a2 n (v4 + 1))) ∧ (¬ (a1 ≤ (ar 35 v4.toNatClampNeg)) → ((p_Permits_isTooNear ar sc v4) ∧ (((f_Permits_isTooNear ar sc v4) = 0 → (q_Permits_findClash_32 ar sc a0 a1 a2 n (v4 + 1))) ∧ (¬ ((f_Permits_isTooNear ar sc v4) = 0) → True))))))))))
def f_Permits_findClash (ar : Nat → Nat → Int32) (sc : Nat → Int32) (a0 : Int32) (a1 : Int32) (a2 : Int32) : Int32 :=
  if (sc 6) = 0 then
    (-2)
  else
    if 0 ≤ (lg_cmp (f_Permits_groundArea ar sc) (a2.toInt64 * ((sc 11).toInt64))) then
      g_Permits_findClash_32 ar sc a0 a1 a2 200 0
    else
      (-3)
def p_Permits_findClash (ar : Nat → Nat → Int32) (sc : Nat → Int32) (a0 : Int32) (a1 : Int32) (a2 : Int32) : Prop :=
  ((sc 6) = 0 → True) ∧ (¬ ((sc 6) = 0) → ((0 ≤ (lg_cmp (f_Permits_groundArea ar sc) (a2.toInt64 * ((sc 11).toInt64))) → (q_Permits_findClash_32 ar sc a0 a1 a2 200 0)) ∧ (¬ (0 ≤ (lg_cmp (f_Permits_groundArea ar sc) (a2.toInt64 * ((sc 11).toInt64)))) → True)))
def f_Permits_tellGround (ar : Nat → Nat → Int32) (sc : Nat → Int32) (a0 : Int32) (a1 : Int32) (a2 : Int32) (a3 : Int32) : (Nat → Nat → Int32) × (Nat → Int32) :=
  (ar, sg (sg (sg (sg (sg sc 6 1) 7 a0) 8 a1) 9 a2) 10 a3)
def f_Permits_add (ar : Nat → Nat → Int32) (sc : Nat → Int32) (a0 : Int32) (a1 : Int32) : Int32 × (Nat → Nat → Int32) × (Nat → Int32) :=
  (sc 5, s2 (s2 (s2 (s2 (s2 (s2 ar 31 ((sc 5).toNatClampNeg) (sc 7)) 32 ((sc 5).toNatClampNeg) (sc 8)) 33 ((sc 5).toNatClampNeg) (sc 9)) 34 ((sc 5).toNatClampNeg) (sc 10)) 35 ((sc 5).toNatClampNeg) a0) 36 ((sc 5).toNatClampNeg) a1, sg sc 5 ((sc 5) + 1))
def p_Permits_add (ar : Nat → Nat → Int32) (sc : Nat → Int32) (a0 : Int32) (a1 : Int32) : Prop :=
  (vp_in (sc 5) 30) ∧ ((vp_in (sc 5) 30) ∧ ((vp_in (sc 5) 30) ∧ ((vp_in (sc 5) 30) ∧ ((vp_in (sc 5) 30) ∧ (vp_in (sc 5) 30)))))
def f_Route_metresBy (ar : Nat → Nat → Int32) (sc : Nat → Int32) (a0 : Int32) (a1 : Int32) (a2 : Int32) : Int32 :=
  (ar 27 (((a1 * 8) + a2).toNatClampNeg)) + (ar 28 ((((a0 ||| ((1 : Int32) <<< (a2 &&& 31))) * 8) + a2).toNatClampNeg))
def p_Route_metresBy (ar : Nat → Nat → Int32) (sc : Nat → Int32) (a0 : Int32) (a1 : Int32) (a2 : Int32) : Prop :=
  (vp_in ((a1 * 8) + a2) 64) ∧ (vp_in (((a0 ||| ((1 : Int32) <<< (a2 &&& 31))) * 8) + a2) 1024)
def g_Route_firstLeastNext_12 (ar : Nat → Nat → Int32) (sc : Nat → Int32) (a0 : Int32) (a1 : Int32)  : Nat → Int32 → Int32 → Int32 → Int32 × Int32 × Int32
  | 0, v3, v4, v5 => (v3, v4, v5)
  | n + 1, v3, v4, v5 =>
    if (sc 4) ≤ v5 then
      (v3, v4, v5)
    else
      if (a0 &&& ((1 : Int32) <<< (v5 &&& 31))) = 0 then
        if v4 ≤ (f_Route_metresBy ar sc a0 a1 v5) then
          g_Route_firstLeastNext_12 ar sc a0 a1 n v3 v4 (v5 + 1)
        else
          g_Route_firstLeastNext_12 ar sc a0 a1 n v5 (f_Route_metresBy ar sc a0 a1 v5) (v5 + 1)
      else
        g_Route_firstLeastNext_12 ar sc a0 a1 n v3 v4 (v5 + 1)
def q_Route_firstLeastNext_12 (ar : Nat → Nat → Int32) (sc : Nat → Int32) (a0 : Int32) (a1 : Int32)  : Nat → Int32 → Int32 → Int32 → Prop
  | 0, _, _, _ => False
  | n + 1, v3, v4, v5 =>
    ((sc 4) ≤ v5 → True) ∧ (¬ ((sc 4) ≤ v5) → (((a0 &&& ((1 : Int32) <<< (v5 &&& 31))) = 0 → ((p_Route_metresBy ar sc a0 a1 v5) ∧ ((v4 ≤ (f_Route_metresBy ar sc a0 a1 v5) → (q_Route_firstLeastNext_12 ar sc a0 a1 n v3 v4 (v5 + 1))) ∧ (¬ (v4 ≤ (f_Route_metresBy ar sc a0 a1 v5)) → (q_Route_firstLeastNext_12 ar sc a0 a1 n v5 (f_Route_metresBy ar sc a0 a1 v5) (v5 + 1)))))) ∧ (¬ ((a0 &&& ((1 : Int32) <<< (v5 &&& 31))) = 0) → (q_Route_firstLeastNext_12 ar sc a0 a1 n v3 v4 (v5 + 1)))))
def f_Route_firstLeastNext (ar : Nat → Nat → Int32) (sc : Nat → Int32) (a0 : Int32) (a1 : Int32) : Int32 :=
  (g_Route_firstLeastNext_12 ar sc a0 a1 200 (sc 4) 2147483647 0).1
def p_Route_firstLeastNext (ar : Nat → Nat → Int32) (sc : Nat → Int32) (a0 : Int32) (a1 : Int32) : Prop :=
  q_Route_firstLeastNext_12 ar sc a0 a1 200 (sc 4) 2147483647 0
def f_Route_tell (ar : Nat → Nat → Int32) (sc : Nat → Int32) (a0 : Int32) (a1 : Int32) (a2 : Int32) (a3 : Int32) : (Nat → Nat → Int32) × (Nat → Int32) :=
  (s2 (s2 (s2 ar 24 a0.toNatClampNeg a1) 25 a0.toNatClampNeg a2) 26 a0.toNatClampNeg a3, sc)
def p_Route_tell (ar : Nat → Nat → Int32) (sc : Nat → Int32) (a0 : Int32) (a1 : Int32) (a2 : Int32) (a3 : Int32) : Prop :=
  (vp_in a0 7) ∧ ((vp_in a0 8) ∧ (vp_in a0 8))
def g_Route_fillLegs_12  (u1 : Int32) : Nat → Int32 → (Nat → Nat → Int32) → (Nat → Int32) → Int32 × (Nat → Nat → Int32) × (Nat → Int32)
  | 0, v2, ar, sc => (v2, ar, sc)
  | n + 1, v2, ar, sc =>
    if (sc 4) < v2 then
      (v2, ar, sc)
    else
      g_Route_fillLegs_12 u1 n (v2 + 1) (s2 ar 27 (((u1 * 8) + v2).toNatClampNeg) ((if 0 ≤ ((ar 25 u1.toNatClampNeg) - (ar 25 v2.toNatClampNeg)) then ((ar 25 u1.toNatClampNeg) - (ar 25 v2.toNatClampNeg)) else 0 - ((ar 25 u1.toNatClampNeg) - (ar 25 v2.toNatClampNeg))) + (if 0 ≤ ((ar 26 u1.toNatClampNeg) - (ar 26 v2.toNatClampNeg)) then ((ar 26 u1.toNatClampNeg) - (ar 26 v2.toNatClampNeg)) else 0 - ((ar 26 u1.toNatClampNeg) - (ar 26 v2.toNatClampNeg))))) sc
def q_Route_fillLegs_12  (u1 : Int32) : Nat → Int32 → (Nat → Nat → Int32) → (Nat → Int32) → Prop
  | 0, _, _, _ => False
  | n + 1, v2, ar, sc =>
    ((sc 4) < v2 → True) ∧ (¬ ((sc 4) < v2) → ((vp_in u1 8) ∧ ((vp_in v2 8) ∧ ((vp_in u1 8) ∧ ((vp_in v2 8) ∧ ((vp_in ((u1 * 8) + v2) 64) ∧ (q_Route_fillLegs_12 u1 n (v2 + 1) (s2 ar 27 (((u1 * 8) + v2).toNatClampNeg) ((if 0 ≤ ((ar 25 u1.toNatClampNeg) - (ar 25 v2.toNatClampNeg)) then ((ar 25 u1.toNatClampNeg) - (ar 25 v2.toNatClampNeg)) else 0 - ((ar 25 u1.toNatClampNeg) - (ar 25 v2.toNatClampNeg))) + (if 0 ≤ ((ar 26 u1.toNatClampNeg) - (ar 26 v2.toNatClampNeg)) then ((ar 26 u1.toNatClampNeg) - (ar 26 v2.toNatClampNeg)) else 0 - ((ar 26 u1.toNatClampNeg) - (ar 26 v2.toNatClampNeg))))) sc)))))))
def g_Route_fillLegs_2   : Nat → Int32 → (Nat → Nat → Int32) → (Nat → Int32) → Int32 × (Nat → Nat → Int32) × (Nat → Int32)
  | 0, v1, ar, sc => (v1, ar, sc)
  | n + 1, v1, ar, sc =>
    if (sc 4) < v1 then
      (v1, ar, sc)
    else
      g_Route_fillLegs_2 n (v1 + 1) ((g_Route_fillLegs_12 v1 200 0 ar sc).2.1) ((g_Route_fillLegs_12 v1 200 0 ar sc).2.2)
def q_Route_fillLegs_2   : Nat → Int32 → (Nat → Nat → Int32) → (Nat → Int32) → Prop
  | 0, _, _, _ => False
  | n + 1, v1, ar, sc =>
    ((sc 4) < v1 → True) ∧ (¬ ((sc 4) < v1) → ((q_Route_fillLegs_12 v1 200 0 ar sc) ∧ (q_Route_fillLegs_2 n (v1 + 1) ((g_Route_fillLegs_12 v1 200 0 ar sc).2.1) ((g_Route_fillLegs_12 v1 200 0 ar sc).2.2))))
def f_Route_fillLegs (ar : Nat → Nat → Int32) (sc : Nat → Int32)  : (Nat → Nat → Int32) × (Nat → Int32) :=
  ((g_Route_fillLegs_2 200 0 ar sc).2.1, (g_Route_fillLegs_2 200 0 ar sc).2.2)
def p_Route_fillLegs (ar : Nat → Nat → Int32) (sc : Nat → Int32)  : Prop :=
  q_Route_fillLegs_2 200 0 ar sc
def g_Route_fillLeastHome_11  (u1 : Int32) : Nat → Int32 → (Nat → Nat → Int32) → (Nat → Int32) → Int32 × (Nat → Nat → Int32) × (Nat → Int32)
  | 0, v2, ar, sc => (v2, ar, sc)
  | n + 1, v2, ar, sc =>
    if (sc 4) < v2 then
      (v2, ar, sc)
    else
      g_Route_fillLeastHome_11 u1 n (v2 + 1) (s2 ar 28 (((u1 * 8) + v2).toNatClampNeg) (ar 27 (((v2 * 8) + (sc 4)).toNatClampNeg))) sc
def q_Route_fillLeastHome_11  (u1 : Int32) : Nat → Int32 → (Nat → Nat → Int32) → (Nat → Int32) → Prop
  | 0, _, _, _ => False
  | n + 1, v2, ar, sc =>
    ((sc 4) < v2 → True) ∧ (¬ ((sc 4) < v2) → ((vp_in ((v2 * 8) + (sc 4)) 64) ∧ ((vp_in ((u1 * 8) + v2) 1024) ∧ (q_Route_fillLeastHome_11 u1 n (v2 + 1) (s2 ar 28 (((u1 * 8) + v2).toNatClampNeg) (ar 27 (((v2 * 8) + (sc 4)).toNatClampNeg))) sc))))
def g_Route_fillLeastHome_60  (u1 : Int32) (u2 : Int32) : Nat → Int32 → (Nat → Nat → Int32) → (Nat → Int32) → Int32 × (Nat → Nat → Int32) × (Nat → Int32)
  | 0, v3, ar, sc => (v3, ar, sc)
  | n + 1, v3, ar, sc =>
    if (sc 4) < v3 then
      (v3, ar, sc)
    else
      g_Route_fillLeastHome_60 u1 u2 n (v3 + 1) (s2 ar 28 (((u2 * 8) + v3).toNatClampNeg) (f_Route_metresBy ar sc u2 v3 (f_Route_firstLeastNext ar sc u2 v3))) sc
def q_Route_fillLeastHome_60  (u1 : Int32) (u2 : Int32) : Nat → Int32 → (Nat → Nat → Int32) → (Nat → Int32) → Prop
  | 0, _, _, _ => False
  | n + 1, v3, ar, sc =>
    ((sc 4) < v3 → True) ∧ (¬ ((sc 4) < v3) → ((p_Route_firstLeastNext ar sc u2 v3) ∧ ((p_Route_metresBy ar sc u2 v3 (f_Route_firstLeastNext ar sc u2 v3)) ∧ ((vp_in ((u2 * 8) + v3) 1024) ∧ (q_Route_fillLeastHome_60 u1 u2 n (v3 + 1) (s2 ar 28 (((u2 * 8) + v3).toNatClampNeg) (f_Route_metresBy ar sc u2 v3 (f_Route_firstLeastNext ar sc u2 v3))) sc)))))
def g_Route_fillLeastHome_54  (u1 : Int32) : Nat → Int32 → (Nat → Nat → Int32) → (Nat → Int32) → Int32 × (Nat → Nat → Int32) × (Nat → Int32)
  | 0, v2, ar, sc => (v2, ar, sc)
  | n + 1, v2, ar, sc =>
    if v2 < 0 then
      (v2, ar, sc)
    else
      g_Route_fillLeastHome_54 u1 n (v2 + (-1)) ((g_Route_fillLeastHome_60 u1 v2 200 0 ar sc).2.1) ((g_Route_fillLeastHome_60 u1 v2 200 0 ar sc).2.2)
def q_Route_fillLeastHome_54  (u1 : Int32) : Nat → Int32 → (Nat → Nat → Int32) → (Nat → Int32) → Prop
  | 0, _, _, _ => False
  | n + 1, v2, ar, sc =>
    (v2 < 0 → True) ∧ (¬ (v2 < 0) → ((q_Route_fillLeastHome_60 u1 v2 200 0 ar sc) ∧ (q_Route_fillLeastHome_54 u1 n (v2 + (-1)) ((g_Route_fillLeastHome_60 u1 v2 200 0 ar sc).2.1) ((g_Route_fillLeastHome_60 u1 v2 200 0 ar sc).2.2))))
def f_Route_fillLeastHome (ar : Nat → Nat → Int32) (sc : Nat → Int32)  : (Nat → Nat → Int32) × (Nat → Int32) :=
  ((g_Route_fillLeastHome_54 (((1 : Int32) <<< ((sc 4) &&& 31)) - 1) 200 ((((1 : Int32) <<< ((sc 4) &&& 31)) - 1) - 1) ((g_Route_fillLeastHome_11 (((1 : Int32) <<< ((sc 4) &&& 31)) - 1) 200 0 ar sc).2.1) ((g_Route_fillLeastHome_11 (((1 : Int32) <<< ((sc 4) &&& 31)) - 1) 200 0 ar sc).2.2)).2.1, (g_Route_fillLeastHome_54 (((1 : Int32) <<< ((sc 4) &&& 31)) - 1) 200 ((((1 : Int32) <<< ((sc 4) &&& 31)) - 1) - 1) ((g_Route_fillLeastHome_11 (((1 : Int32) <<< ((sc 4) &&& 31)) - 1) 200 0 ar sc).2.1) ((g_Route_fillLeastHome_11 (((1 : Int32) <<< ((sc 4) &&& 31)) - 1) 200 0 ar sc).2.2)).2.2)
def p_Route_fillLeastHome (ar : Nat → Nat → Int32) (sc : Nat → Int32)  : Prop :=
  (q_Route_fillLeastHome_11 (((1 : Int32) <<< ((sc 4) &&& 31)) - 1) 200 0 ar sc) ∧ (q_Route_fillLeastHome_54 (((1 : Int32) <<< ((sc 4) &&& 31)) - 1) 200 ((((1 : Int32) <<< ((sc 4) &&& 31)) - 1) - 1) ((g_Route_fillLeastHome_11 (((1 : Int32) <<< ((sc 4) &&& 31)) - 1) 200 0 ar sc).2.1) ((g_Route_fillLeastHome_11 (((1 : Int32) <<< ((sc 4) &&& 31)) - 1) 200 0 ar sc).2.2))
def g_Route_fillStops_9   : Nat → Int32 → Int32 → Int32 → (Nat → Nat → Int32) → (Nat → Int32) → Int32 × Int32 × Int32 × (Nat → Nat → Int32) × (Nat → Int32)
  | 0, v1, v2, v3, ar, sc => (v1, v2, v3, ar, sc)
  | n + 1, v1, v2, v3, ar, sc =>
    if (sc 4) ≤ v3 then
      (v1, v2, v3, ar, sc)
    else
      g_Route_fillStops_9 n (v1 ||| ((1 : Int32) <<< ((f_Route_firstLeastNext ar sc v1 v2) &&& 31))) (f_Route_firstLeastNext ar sc v1 v2) (v3 + 1) (s2 ar 29 v3.toNatClampNeg (ar 24 ((f_Route_firstLeastNext ar sc v1 v2).toNatClampNeg))) sc
def q_Route_fillStops_9   : Nat → Int32 → Int32 → Int32 → (Nat → Nat → Int32) → (Nat → Int32) → Prop
  | 0, _, _, _, _, _ => False
  | n + 1, v1, v2, v3, ar, sc =>
    ((sc 4) ≤ v3 → True) ∧ (¬ ((sc 4) ≤ v3) → ((p_Route_firstLeastNext ar sc v1 v2) ∧ ((vp_in (f_Route_firstLeastNext ar sc v1 v2) 7) ∧ ((vp_in v3 7) ∧ (q_Route_fillStops_9 n (v1 ||| ((1 : Int32) <<< ((f_Route_firstLeastNext ar sc v1 v2) &&& 31))) (f_Route_firstLeastNext ar sc v1 v2) (v3 + 1) (s2 ar 29 v3.toNatClampNeg (ar 24 ((f_Route_firstLeastNext ar sc v1 v2).toNatClampNeg))) sc)))))
def f_Route_fillStops (ar : Nat → Nat → Int32) (sc : Nat → Int32)  : (Nat → Nat → Int32) × (Nat → Int32) :=
  ((g_Route_fillStops_9 200 0 (sc 4) 0 ar sc).2.2.2.1, (g_Route_fillStops_9 200 0 (sc 4) 0 ar sc).2.2.2.2)
def p_Route_fillStops (ar : Nat → Nat → Int32) (sc : Nat → Int32)  : Prop :=
  q_Route_fillStops_9 200 0 (sc 4) 0 ar sc
def f_Route_findLeast (ar : Nat → Nat → Int32) (sc : Nat → Int32) (a0 : Int32) : Int32 × (Nat → Nat → Int32) × (Nat → Int32) :=
  (((f_Route_fillStops ((f_Route_fillLeastHome ((f_Route_fillLegs (s2 (s2 ar 25 a0.toNatClampNeg 0) 26 a0.toNatClampNeg 0) (sg sc 4 a0) ).1) ((f_Route_fillLegs (s2 (s2 ar 25 a0.toNatClampNeg 0) 26 a0.toNatClampNeg 0) (sg sc 4 a0) ).2) ).1) ((f_Route_fillLeastHome ((f_Route_fillLegs (s2 (s2 ar 25 a0.toNatClampNeg 0) 26 a0.toNatClampNeg 0) (sg sc 4 a0) ).1) ((f_Route_fillLegs (s2 (s2 ar 25 a0.toNatClampNeg 0) 26 a0.toNatClampNeg 0) (sg sc 4 a0) ).2) ).2) ).1) 28 ((((f_Route_fillStops ((f_Route_fillLeastHome ((f_Route_fillLegs (s2 (s2 ar 25 a0.toNatClampNeg 0) 26 a0.toNatClampNeg 0) (sg sc 4 a0) ).1) ((f_Route_fillLegs (s2 (s2 ar 25 a0.toNatClampNeg 0) 26 a0.toNatClampNeg 0) (sg sc 4 a0) ).2) ).1) ((f_Route_fillLeastHome ((f_Route_fillLegs (s2 (s2 ar 25 a0.toNatClampNeg 0) 26 a0.toNatClampNeg 0) (sg sc 4 a0) ).1) ((f_Route_fillLegs (s2 (s2 ar 25 a0.toNatClampNeg 0) 26 a0.toNatClampNeg 0) (sg sc 4 a0) ).2) ).2) ).2) 4).toNatClampNeg), (f_Route_fillStops ((f_Route_fillLeastHome ((f_Route_fillLegs (s2 (s2 ar 25 a0.toNatClampNeg 0) 26 a0.toNatClampNeg 0) (sg sc 4 a0) ).1) ((f_Route_fillLegs (s2 (s2 ar 25 a0.toNatClampNeg 0) 26 a0.toNatClampNeg 0) (sg sc 4 a0) ).2) ).1) ((f_Route_fillLeastHome ((f_Route_fillLegs (s2 (s2 ar 25 a0.toNatClampNeg 0) 26 a0.toNatClampNeg 0) (sg sc 4 a0) ).1) ((f_Route_fillLegs (s2 (s2 ar 25 a0.toNatClampNeg 0) 26 a0.toNatClampNeg 0) (sg sc 4 a0) ).2) ).2) ).1, (f_Route_fillStops ((f_Route_fillLeastHome ((f_Route_fillLegs (s2 (s2 ar 25 a0.toNatClampNeg 0) 26 a0.toNatClampNeg 0) (sg sc 4 a0) ).1) ((f_Route_fillLegs (s2 (s2 ar 25 a0.toNatClampNeg 0) 26 a0.toNatClampNeg 0) (sg sc 4 a0) ).2) ).1) ((f_Route_fillLeastHome ((f_Route_fillLegs (s2 (s2 ar 25 a0.toNatClampNeg 0) 26 a0.toNatClampNeg 0) (sg sc 4 a0) ).1) ((f_Route_fillLegs (s2 (s2 ar 25 a0.toNatClampNeg 0) 26 a0.toNatClampNeg 0) (sg sc 4 a0) ).2) ).2) ).2)
def p_Route_findLeast (ar : Nat → Nat → Int32) (sc : Nat → Int32) (a0 : Int32) : Prop :=
  (vp_in a0 8) ∧ ((vp_in a0 8) ∧ ((p_Route_fillLegs (s2 (s2 ar 25 a0.toNatClampNeg 0) 26 a0.toNatClampNeg 0) (sg sc 4 a0) ) ∧ ((p_Route_fillLeastHome ((f_Route_fillLegs (s2 (s2 ar 25 a0.toNatClampNeg 0) 26 a0.toNatClampNeg 0) (sg sc 4 a0) ).1) ((f_Route_fillLegs (s2 (s2 ar 25 a0.toNatClampNeg 0) 26 a0.toNatClampNeg 0) (sg sc 4 a0) ).2) ) ∧ ((p_Route_fillStops ((f_Route_fillLeastHome ((f_Route_fillLegs (s2 (s2 ar 25 a0.toNatClampNeg 0) 26 a0.toNatClampNeg 0) (sg sc 4 a0) ).1) ((f_Route_fillLegs (s2 (s2 ar 25 a0.toNatClampNeg 0) 26 a0.toNatClampNeg 0) (sg sc 4 a0) ).2) ).1) ((f_Route_fillLeastHome ((f_Route_fillLegs (s2 (s2 ar 25 a0.toNatClampNeg 0) 26 a0.toNatClampNeg 0) (sg sc 4 a0) ).1) ((f_Route_fillLegs (s2 (s2 ar 25 a0.toNatClampNeg 0) 26 a0.toNatClampNeg 0) (sg sc 4 a0) ).2) ).2) ) ∧ (vp_in (((f_Route_fillStops ((f_Route_fillLeastHome ((f_Route_fillLegs (s2 (s2 ar 25 a0.toNatClampNeg 0) 26 a0.toNatClampNeg 0) (sg sc 4 a0) ).1) ((f_Route_fillLegs (s2 (s2 ar 25 a0.toNatClampNeg 0) 26 a0.toNatClampNeg 0) (sg sc 4 a0) ).2) ).1) ((f_Route_fillLeastHome ((f_Route_fillLegs (s2 (s2 ar 25 a0.toNatClampNeg 0) 26 a0.toNatClampNeg 0) (sg sc 4 a0) ).1) ((f_Route_fillLegs (s2 (s2 ar 25 a0.toNatClampNeg 0) 26 a0.toNatClampNeg 0) (sg sc 4 a0) ).2) ).2) ).2) 4) 1024)))))
def f_Ir_isWithin (a0 : Int32) (a1 : Int32) (a2 : Int32) : Int32 :=
  if a0 < a1 then
    0
  else
    if a2 < a0 then
      0
    else
      1
def f_Ir_isKind (a0 : Int32) : Int32 :=
  f_Ir_isWithin a0 0 4
def f_Ir_isPoint (ar : Nat → Nat → Int32) (sc : Nat → Int32) (a0 : Int32) : Int32 :=
  if a0 < 0 then
    0
  else
    if (sc 1) ≤ a0 then
      0
    else
      1
def f_Ir_isFinding (ar : Nat → Nat → Int32) (sc : Nat → Int32) (a0 : Int32) : Int32 :=
  if a0 < 0 then
    0
  else
    if (sc 2) ≤ a0 then
      0
    else
      1
def f_Ir_isSide (a0 : Int32) (a1 : Int32) : Int32 :=
  if a0 < (-10000000) then
    0
  else
    if a1 ≤ a0 then
      0
    else
      if 10000000 < a1 then
        0
      else
        1
def f_Ir_canLead (a0 : Int32) (a1 : Int32) : Int32 :=
  if a1 = (-1) then
    1
  else
    if (f_Ir_isWithin a1 (a0 + 1) 15) = 0 then
      0
    else
      1
def f_Ir_toldPoint (a0 : Int64) (a1 : Int32) : Int32 :=
  (((a0.toUInt64 >>> ((5 * a1).toInt64.toUInt64 &&& Int64.toUInt64 63)).toInt64).toInt32) &&& 31
def g_Ir_areAllPoints_3 (ar : Nat → Nat → Int32) (sc : Nat → Int32) (a0 : Int64) (a1 : Int32)  : Nat → Int32 → Int32
  | 0, v4 => (0)
  | n + 1, v4 =>
    if a1 ≤ v4 then
      1
    else
      if (f_Ir_isPoint ar sc (f_Ir_toldPoint a0 v4)) = 0 then
        0
      else
        g_Ir_areAllPoints_3 ar sc a0 a1 n (v4 + 1)
def q_Ir_areAllPoints_3 (ar : Nat → Nat → Int32) (sc : Nat → Int32) (a0 : Int64) (a1 : Int32)  : Nat → Int32 → Prop
  | 0, _ => False
  | n + 1, v4 =>
    (a1 ≤ v4 → True) ∧ (¬ (a1 ≤ v4) → (((f_Ir_isPoint ar sc (f_Ir_toldPoint a0 v4)) = 0 → True) ∧ (¬ ((f_Ir_isPoint ar sc (f_Ir_toldPoint a0 v4)) = 0) → (q_Ir_areAllPoints_3 ar sc a0 a1 n (v4 + 1)))))
def f_Ir_areAllPoints (ar : Nat → Nat → Int32) (sc : Nat → Int32) (a0 : Int64) (a1 : Int32) : Int32 :=
  g_Ir_areAllPoints_3 ar sc a0 a1 200 0
def p_Ir_areAllPoints (ar : Nat → Nat → Int32) (sc : Nat → Int32) (a0 : Int64) (a1 : Int32) : Prop :=
  q_Ir_areAllPoints_3 ar sc a0 a1 200 0
def g_Ir_areAllDifferent_5 (a0 : Int64) (a1 : Int32)  : Nat → Int32 → Int32 → Int32
  | 0, v3, v4 => (0)
  | n + 1, v3, v4 =>
    if a1 ≤ v4 then
      1
    else
      if (v3 &&& ((1 : Int32) <<< ((f_Ir_toldPoint a0 v4) &&& 31))) = 0 then
        g_Ir_areAllDifferent_5 a0 a1 n (v3 ||| ((1 : Int32) <<< ((f_Ir_toldPoint a0 v4) &&& 31))) (v4 + 1)
      else
        0
def q_Ir_areAllDifferent_5 (a0 : Int64) (a1 : Int32)  : Nat → Int32 → Int32 → Prop
  | 0, _, _ => False
  | n + 1, v3, v4 =>
    (a1 ≤ v4 → True) ∧ (¬ (a1 ≤ v4) → (((v3 &&& ((1 : Int32) <<< ((f_Ir_toldPoint a0 v4) &&& 31))) = 0 → (q_Ir_areAllDifferent_5 a0 a1 n (v3 ||| ((1 : Int32) <<< ((f_Ir_toldPoint a0 v4) &&& 31))) (v4 + 1))) ∧ (¬ ((v3 &&& ((1 : Int32) <<< ((f_Ir_toldPoint a0 v4) &&& 31))) = 0) → True)))
def f_Ir_areAllDifferent (a0 : Int64) (a1 : Int32) : Int32 :=
  g_Ir_areAllDifferent_5 a0 a1 200 0 0
def p_Ir_areAllDifferent (a0 : Int64) (a1 : Int32) : Prop :=
  q_Ir_areAllDifferent_5 a0 a1 200 0 0
def g_Ir_fillRisks_2   : Nat → Int32 → (Nat → Nat → Int32) → (Nat → Int32) → Int32 × (Nat → Nat → Int32) × (Nat → Int32)
  | 0, v1, ar, sc => (v1, ar, sc)
  | n + 1, v1, ar, sc =>
    if (sc 1) ≤ v1 then
      (v1, ar, sc)
    else
      g_Ir_fillRisks_2 n (v1 + 1) (s2 ar 37 v1.toNatClampNeg ((ar 2 ((ar 7 v1.toNatClampNeg).toNatClampNeg)) + (ar 8 v1.toNatClampNeg))) sc
def q_Ir_fillRisks_2   : Nat → Int32 → (Nat → Nat → Int32) → (Nat → Int32) → Prop
  | 0, _, _, _ => False
  | n + 1, v1, ar, sc =>
    ((sc 1) ≤ v1 → True) ∧ (¬ ((sc 1) ≤ v1) → ((vp_in v1 30) ∧ ((vp_in (ar 7 v1.toNatClampNeg) 5) ∧ ((vp_in v1 30) ∧ ((vp_in v1 30) ∧ (q_Ir_fillRisks_2 n (v1 + 1) (s2 ar 37 v1.toNatClampNeg ((ar 2 ((ar 7 v1.toNatClampNeg).toNatClampNeg)) + (ar 8 v1.toNatClampNeg))) sc))))))
def g_Ir_fillRisks_54   : Nat → Int32 → (Nat → Nat → Int32) → (Nat → Int32) → Int32 × (Nat → Nat → Int32) × (Nat → Int32)
  | 0, v1, ar, sc => (v1, ar, sc)
  | n + 1, v1, ar, sc =>
    if (sc 2) ≤ v1 then
      (v1, ar, sc)
    else
      g_Ir_fillRisks_54 n (v1 + 1) (s2 ar 37 ((ar 13 v1.toNatClampNeg).toNatClampNeg) ((ar 37 ((ar 13 v1.toNatClampNeg).toNatClampNeg)) + (f_Findings_riskOn ar sc v1 (sc 0)))) sc
def q_Ir_fillRisks_54   : Nat → Int32 → (Nat → Nat → Int32) → (Nat → Int32) → Prop
  | 0, _, _, _ => False
  | n + 1, v1, ar, sc =>
    ((sc 2) ≤ v1 → True) ∧ (¬ ((sc 2) ≤ v1) → ((vp_in v1 100) ∧ ((vp_in (ar 13 v1.toNatClampNeg) 30) ∧ ((p_Findings_riskOn ar sc v1 (sc 0)) ∧ ((vp_in (ar 13 v1.toNatClampNeg) 30) ∧ (q_Ir_fillRisks_54 n (v1 + 1) (s2 ar 37 ((ar 13 v1.toNatClampNeg).toNatClampNeg) ((ar 37 ((ar 13 v1.toNatClampNeg).toNatClampNeg)) + (f_Findings_riskOn ar sc v1 (sc 0)))) sc))))))
def f_Ir_fillRisks (ar : Nat → Nat → Int32) (sc : Nat → Int32)  : (Nat → Nat → Int32) × (Nat → Int32) :=
  ((g_Ir_fillRisks_54 200 0 ((g_Ir_fillRisks_2 200 0 ar sc).2.1) ((g_Ir_fillRisks_2 200 0 ar sc).2.2)).2.1, (g_Ir_fillRisks_54 200 0 ((g_Ir_fillRisks_2 200 0 ar sc).2.1) ((g_Ir_fillRisks_2 200 0 ar sc).2.2)).2.2)
def p_Ir_fillRisks (ar : Nat → Nat → Int32) (sc : Nat → Int32)  : Prop :=
  (q_Ir_fillRisks_2 200 0 ar sc) ∧ (q_Ir_fillRisks_54 200 0 ((g_Ir_fillRisks_2 200 0 ar sc).2.1) ((g_Ir_fillRisks_2 200 0 ar sc).2.2))
def f_Ir_riskOf (ar : Nat → Nat → Int32) (sc : Nat → Int32) (a0 : Int32) : Int32 × (Nat → Nat → Int32) × (Nat → Int32) :=
  (((f_Ir_fillRisks ar sc ).1) 37 a0.toNatClampNeg, (f_Ir_fillRisks ar sc ).1, (f_Ir_fillRisks ar sc ).2)
def p_Ir_riskOf (ar : Nat → Nat → Int32) (sc : Nat → Int32) (a0 : Int32) : Prop :=
  (p_Ir_fillRisks ar sc ) ∧ (vp_in a0 30)
def f_Ir_classOf (ar : Nat → Nat → Int32) (sc : Nat → Int32) (a0 : Int32) : Int32 × (Nat → Nat → Int32) × (Nat → Int32) :=
  (f_Scale_classFor ((f_Ir_riskOf ar sc a0).2.1) ((f_Ir_riskOf ar sc a0).2.2) ((f_Ir_riskOf ar sc a0).1), (f_Ir_riskOf ar sc a0).2.1, (f_Ir_riskOf ar sc a0).2.2)
def p_Ir_classOf (ar : Nat → Nat → Int32) (sc : Nat → Int32) (a0 : Int32) : Prop :=
  (p_Ir_riskOf ar sc a0) ∧ (p_Scale_classFor ((f_Ir_riskOf ar sc a0).2.1) ((f_Ir_riskOf ar sc a0).2.2) ((f_Ir_riskOf ar sc a0).1))
def f_Ir_firstDueDay (ar : Nat → Nat → Int32) (sc : Nat → Int32) (a0 : Int32) : Int32 :=
  if (ar 11 a0.toNatClampNeg) = (-1) then
    0
  else
    (ar 11 a0.toNatClampNeg) + (ar 4 ((f_Scale_classFor ar sc (ar 37 a0.toNatClampNeg)).toNatClampNeg))
def p_Ir_firstDueDay (ar : Nat → Nat → Int32) (sc : Nat → Int32) (a0 : Int32) : Prop :=
  (vp_in a0 30) ∧ (((ar 11 a0.toNatClampNeg) = (-1) → True) ∧ (¬ ((ar 11 a0.toNatClampNeg) = (-1)) → ((vp_in a0 30) ∧ ((p_Scale_classFor ar sc (ar 37 a0.toNatClampNeg)) ∧ (vp_in (f_Scale_classFor ar sc (ar 37 a0.toNatClampNeg)) 4)))))
def f_Ir_isAhead (ar : Nat → Nat → Int32) (sc : Nat → Int32) (a0 : Int32) (a1 : Int32) : Int32 :=
  if (ar 37 a0.toNatClampNeg) = (ar 37 a1.toNatClampNeg) then
    if (ar 11 a0.toNatClampNeg) = (ar 11 a1.toNatClampNeg) then
      if a1 ≤ a0 then
        0
      else
        1
    else
      if (ar 11 a1.toNatClampNeg) ≤ (ar 11 a0.toNatClampNeg) then
        0
      else
        1
  else
    if (ar 37 a0.toNatClampNeg) ≤ (ar 37 a1.toNatClampNeg) then
      0
    else
      1
def p_Ir_isAhead (ar : Nat → Nat → Int32) (sc : Nat → Int32) (a0 : Int32) (a1 : Int32) : Prop :=
  (vp_in a0 30) ∧ ((vp_in a1 30) ∧ (((ar 37 a0.toNatClampNeg) = (ar 37 a1.toNatClampNeg) → ((vp_in a0 30) ∧ ((vp_in a1 30) ∧ (((ar 11 a0.toNatClampNeg) = (ar 11 a1.toNatClampNeg) → True) ∧ (¬ ((ar 11 a0.toNatClampNeg) = (ar 11 a1.toNatClampNeg)) → ((vp_in a0 30) ∧ (vp_in a1 30))))))) ∧ (¬ ((ar 37 a0.toNatClampNeg) = (ar 37 a1.toNatClampNeg)) → ((vp_in a0 30) ∧ (vp_in a1 30)))))
def g_Ir_countDueAhead_5 (ar : Nat → Nat → Int32) (sc : Nat → Int32) (a0 : Int32) (a1 : Int32)  : Nat → Int32 → Int32 → Int32 × Int32
  | 0, v3, v4 => (v3, v4)
  | n + 1, v3, v4 =>
    if (sc 1) ≤ v4 then
      (v3, v4)
    else
      if (f_Ir_isAhead ar sc v4 a0) = 0 then
        g_Ir_countDueAhead_5 ar sc a0 a1 n v3 (v4 + 1)
      else
        if a1 < (f_Ir_firstDueDay ar sc v4) then
          g_Ir_countDueAhead_5 ar sc a0 a1 n v3 (v4 + 1)
        else
          g_Ir_countDueAhead_5 ar sc a0 a1 n (v3 + 1) (v4 + 1)
def q_Ir_countDueAhead_5 (ar : Nat → Nat → Int32) (sc : Nat → Int32) (a0 : Int32) (a1 : Int32)  : Nat → Int32 → Int32 → Prop
  | 0, _, _ => False
  | n + 1, v3, v4 =>
    ((sc 1) ≤ v4 → True) ∧ (¬ ((sc 1) ≤ v4) → ((p_Ir_isAhead ar sc v4 a0) ∧ (((f_Ir_isAhead ar sc v4 a0) = 0 → (q_Ir_countDueAhead_5 ar sc a0 a1 n v3 (v4 + 1))) ∧ (¬ ((f_Ir_isAhead ar sc v4 a0) = 0) → ((p_Ir_firstDueDay ar sc v4) ∧ ((a1 < (f_Ir_firstDueDay ar sc v4) → (q_Ir_countDueAhead_5 ar sc a0 a1 n v3 (v4 + 1))) ∧ (¬ (a1 < (f_Ir_firstDueDay ar sc v4)) → (q_Ir_countDueAhead_5 ar sc a0 a1 n (v3 + 1) (v4 + 1)))))))))
def f_Ir_countDueAhead (ar : Nat → Nat → Int32) (sc : Nat → Int32) (a0 : Int32) (a1 : Int32) : Int32 :=
  (g_Ir_countDueAhead_5 ar sc a0 a1 200 0 0).1
def p_Ir_countDueAhead (ar : Nat → Nat → Int32) (sc : Nat → Int32) (a0 : Int32) (a1 : Int32) : Prop :=
  q_Ir_countDueAhead_5 ar sc a0 a1 200 0 0
def f_Ir_weight (ar : Nat → Nat → Int32) (sc : Nat → Int32) (a0 : Int32) (a1 : Int32) : Option String × Int32 × (Nat → Nat → Int32) × (Nat → Int32) :=
  if (f_Ir_isKind a0) = 0 then
    (some "java/lang/IllegalArgumentException", 0, ar, sc)
  else
    if (f_Ir_isWithin a1 0 100) = 0 then
      (some "java/lang/IndexOutOfBoundsException", 0, ar, sc)
    else
      (none, 0, s2 ar 2 a0.toNatClampNeg a1, sc)
def p_Ir_weight (ar : Nat → Nat → Int32) (sc : Nat → Int32) (a0 : Int32) (a1 : Int32) : Prop :=
  (¬ (f_Ir_isKind a0) = 0 → ((¬ (f_Ir_isWithin a1 0 100) = 0 → (vp_in a0 5))))
def f_Ir_steps (ar : Nat → Nat → Int32) (sc : Nat → Int32) (a0 : Int32) (a1 : Int32) (a2 : Int32) : Option String × Int32 × (Nat → Nat → Int32) × (Nat → Int32) :=
  if a0 < 0 then
    (some "java/lang/IndexOutOfBoundsException", 0, ar, sc)
  else
    if a1 < a0 then
      (some "java/lang/IndexOutOfBoundsException", 0, ar, sc)
    else
      if a2 < a1 then
        (some "java/lang/IndexOutOfBoundsException", 0, ar, sc)
      else
        if 100000 < a2 then
          (some "java/lang/IndexOutOfBoundsException", 0, ar, sc)
        else
          (none, 0, s2 (s2 (s2 ar 3 ((0 : Int32).toNatClampNeg) a0) 3 ((1 : Int32).toNatClampNeg) a1) 3 ((2 : Int32).toNatClampNeg) a2, sc)
def p_Ir_steps (ar : Nat → Nat → Int32) (sc : Nat → Int32) (a0 : Int32) (a1 : Int32) (a2 : Int32) : Prop :=
  (a0 < 0 → True) ∧ (¬ (a0 < 0) → ((a1 < a0 → True) ∧ (¬ (a1 < a0) → ((a2 < a1 → True) ∧ (¬ (a2 < a1) → ((100000 < a2 → True) ∧ (¬ (100000 < a2) → ((vp_in 0 3) ∧ ((vp_in 1 3) ∧ (vp_in 2 3))))))))))
def f_Ir_interval (ar : Nat → Nat → Int32) (sc : Nat → Int32) (a0 : Int32) (a1 : Int32) (a2 : Int32) : Option String × Int32 × (Nat → Nat → Int32) × (Nat → Int32) :=
  if (f_Ir_isWithin a0 0 3) = 0 then
    (some "java/lang/IllegalArgumentException", 0, ar, sc)
  else
    if (f_Ir_isWithin a1 1 4000) = 0 then
      (some "java/lang/IndexOutOfBoundsException", 0, ar, sc)
    else
      if (f_Ir_isWithin a2 0 1000) = 0 then
        (some "java/lang/IndexOutOfBoundsException", 0, ar, sc)
      else
        (none, 0, s2 (s2 ar 4 a0.toNatClampNeg a1) 5 a0.toNatClampNeg a2, sc)
def p_Ir_interval (ar : Nat → Nat → Int32) (sc : Nat → Int32) (a0 : Int32) (a1 : Int32) (a2 : Int32) : Prop :=
  (¬ (f_Ir_isWithin a0 0 3) = 0 → (((f_Ir_isWithin a1 1 4000) = 0 → True) ∧ (¬ ((f_Ir_isWithin a1 1 4000) = 0) → (((f_Ir_isWithin a2 0 1000) = 0 → True) ∧ (¬ ((f_Ir_isWithin a2 0 1000) = 0) → ((vp_in a0 4) ∧ (vp_in a0 4)))))))
def f_Ir_point (ar : Nat → Nat → Int32) (sc : Nat → Int32) (a0 : Int32) (a1 : Int32) (a2 : Int32) (a3 : Int32) (a4 : Int32) : Option String × Int32 × (Nat → Nat → Int32) × (Nat → Int32) :=
  if (f_Ir_isKind a0) = 0 then
    (some "java/lang/IllegalArgumentException", 0, ar, sc)
  else
    if (f_Ir_isWithin a1 0 3000) = 0 then
      (some "java/lang/IndexOutOfBoundsException", 0, ar, sc)
    else
      if (f_Ir_isWithin a2 0 100000) = 0 then
        (some "java/lang/IndexOutOfBoundsException", 0, ar, sc)
      else
        if (f_Ir_isWithin a3 (-10000) 10000) = 0 then
          (some "java/lang/IndexOutOfBoundsException", 0, ar, sc)
        else
          if (f_Ir_isWithin a4 (-10000) 10000) = 0 then
            (some "java/lang/IndexOutOfBoundsException", 0, ar, sc)
          else
            if 30 ≤ (sc 1) then
              (some "java/lang/UnsupportedOperationException", 0, ar, sc)
            else
              (none, (f_Points_add ar sc a0 ((a1 / 30) + (a2 / 100)) a3 a4).1, (f_Points_add ar sc a0 ((a1 / 30) + (a2 / 100)) a3 a4).2.1, (f_Points_add ar sc a0 ((a1 / 30) + (a2 / 100)) a3 a4).2.2)
def p_Ir_point (ar : Nat → Nat → Int32) (sc : Nat → Int32) (a0 : Int32) (a1 : Int32) (a2 : Int32) (a3 : Int32) (a4 : Int32) : Prop :=
  (¬ (f_Ir_isKind a0) = 0 → (((f_Ir_isWithin a1 0 3000) = 0 → True) ∧ (¬ ((f_Ir_isWithin a1 0 3000) = 0) → (((f_Ir_isWithin a2 0 100000) = 0 → True) ∧ (¬ ((f_Ir_isWithin a2 0 100000) = 0) → (((f_Ir_isWithin a3 (-10000) 10000) = 0 → True) ∧ (¬ ((f_Ir_isWithin a3 (-10000) 10000) = 0) → (((f_Ir_isWithin a4 (-10000) 10000) = 0 → True) ∧ (¬ ((f_Ir_isWithin a4 (-10000) 10000) = 0) → ((30 ≤ (sc 1) → True) ∧ (¬ (30 ≤ (sc 1)) → (p_Points_add ar sc a0 ((a1 / 30) + (a2 / 100)) a3 a4))))))))))))
def f_Ir_day (ar : Nat → Nat → Int32) (sc : Nat → Int32) (a0 : Int32) : Option String × Int32 × (Nat → Nat → Int32) × (Nat → Int32) :=
  if (f_Ir_isWithin a0 (sc 0) 99999) = 0 then
    (some "java/lang/IndexOutOfBoundsException", 0, ar, sc)
  else
    (none, 0, ar, sg sc 0 a0)
def f_Ir_visit (ar : Nat → Nat → Int32) (sc : Nat → Int32) (a0 : Int32) : Option String × Int32 × (Nat → Nat → Int32) × (Nat → Int32) :=
  if (f_Ir_isPoint ar sc a0) = 0 then
    (some "java/lang/IllegalArgumentException", 0, ar, sc)
  else
    (none, 0, s2 ar 11 a0.toNatClampNeg (sc 0), sc)
def p_Ir_visit (ar : Nat → Nat → Int32) (sc : Nat → Int32) (a0 : Int32) : Prop :=
  (¬ (f_Ir_isPoint ar sc a0) = 0 → (vp_in a0 30))
def f_Ir_finding (ar : Nat → Nat → Int32) (sc : Nat → Int32) (a0 : Int32) (a1 : Int32) (a2 : Int32) : Option String × Int32 × (Nat → Nat → Int32) × (Nat → Int32) :=
  if (f_Ir_isPoint ar sc a0) = 0 then
    (some "java/lang/IllegalArgumentException", 0, ar, sc)
  else
    if (f_Ir_isWithin a1 1 50) = 0 then
      (some "java/lang/IndexOutOfBoundsException", 0, ar, sc)
    else
      if a2 = (-1) then
        if 100 ≤ (sc 2) then
          (some "java/lang/UnsupportedOperationException", 0, ar, sc)
        else
          if a2 = (-1) then
            (none, (f_Findings_add ((f_Ir_classOf ar sc a0).2.1) ((f_Ir_classOf ar sc a0).2.2) a0 a1 ((((f_Ir_classOf ar sc a0).2.2) 0) + (((f_Ir_classOf ar sc a0).2.1) 5 (((f_Ir_classOf ar sc a0).1).toNatClampNeg)))).1, (f_Findings_add ((f_Ir_classOf ar sc a0).2.1) ((f_Ir_classOf ar sc a0).2.2) a0 a1 ((((f_Ir_classOf ar sc a0).2.2) 0) + (((f_Ir_classOf ar sc a0).2.1) 5 (((f_Ir_classOf ar sc a0).1).toNatClampNeg)))).2.1, (f_Findings_add ((f_Ir_classOf ar sc a0).2.1) ((f_Ir_classOf ar sc a0).2.2) a0 a1 ((((f_Ir_classOf ar sc a0).2.2) 0) + (((f_Ir_classOf ar sc a0).2.1) 5 (((f_Ir_classOf ar sc a0).1).toNatClampNeg)))).2.2)
          else
            (none, (f_Findings_add ar sc a0 a1 ((sc 0) + a2)).1, (f_Findings_add ar sc a0 a1 ((sc 0) + a2)).2.1, (f_Findings_add ar sc a0 a1 ((sc 0) + a2)).2.2)
      else
        if (f_Ir_isWithin a2 0 1000) = 0 then
          (some "java/lang/IndexOutOfBoundsException", 0, ar, sc)
        else
          if 100 ≤ (sc 2) then
            (some "java/lang/UnsupportedOperationException", 0, ar, sc)
          else
            if a2 = (-1) then
              (none, (f_Findings_add ((f_Ir_classOf ar sc a0).2.1) ((f_Ir_classOf ar sc a0).2.2) a0 a1 ((((f_Ir_classOf ar sc a0).2.2) 0) + (((f_Ir_classOf ar sc a0).2.1) 5 (((f_Ir_classOf ar sc a0).1).toNatClampNeg)))).1, (f_Findings_add ((f_Ir_classOf ar sc a0).2.1) ((f_Ir_classOf ar sc a0).2.2) a0 a1 ((((f_Ir_classOf ar sc a0).2.2) 0) + (((f_Ir_classOf ar sc a0).2.1) 5 (((f_Ir_classOf ar sc a0).1).toNatClampNeg)))).2.1, (f_Findings_add ((f_Ir_classOf ar sc a0).2.1) ((f_Ir_classOf ar sc a0).2.2) a0 a1 ((((f_Ir_classOf ar sc a0).2.2) 0) + (((f_Ir_classOf ar sc a0).2.1) 5 (((f_Ir_classOf ar sc a0).1).toNatClampNeg)))).2.2)
            else
              (none, (f_Findings_add ar sc a0 a1 ((sc 0) + a2)).1, (f_Findings_add ar sc a0 a1 ((sc 0) + a2)).2.1, (f_Findings_add ar sc a0 a1 ((sc 0) + a2)).2.2)
def p_Ir_finding (ar : Nat → Nat → Int32) (sc : Nat → Int32) (a0 : Int32) (a1 : Int32) (a2 : Int32) : Prop :=
  (¬ (f_Ir_isPoint ar sc a0) = 0 → ((¬ (f_Ir_isWithin a1 1 50) = 0 → ((a2 = (-1) → ((100 ≤ (sc 2) → True) ∧ (¬ (100 ≤ (sc 2)) → ((a2 = (-1) → ((p_Ir_classOf ar sc a0) ∧ ((vp_in ((f_Ir_classOf ar sc a0).1) 4) ∧ (p_Findings_add ((f_Ir_classOf ar sc a0).2.1) ((f_Ir_classOf ar sc a0).2.2) a0 a1 ((((f_Ir_classOf ar sc a0).2.2) 0) + (((f_Ir_classOf ar sc a0).2.1) 5 (((f_Ir_classOf ar sc a0).1).toNatClampNeg))))))) ∧ (¬ (a2 = (-1)) → (p_Findings_add ar sc a0 a1 ((sc 0) + a2))))))) ∧ (¬ (a2 = (-1)) → (((f_Ir_isWithin a2 0 1000) = 0 → True) ∧ (¬ ((f_Ir_isWithin a2 0 1000) = 0) → ((100 ≤ (sc 2) → True) ∧ (¬ (100 ≤ (sc 2)) → ((a2 = (-1) → ((p_Ir_classOf ar sc a0) ∧ ((vp_in ((f_Ir_classOf ar sc a0).1) 4) ∧ (p_Findings_add ((f_Ir_classOf ar sc a0).2.1) ((f_Ir_classOf ar sc a0).2.2) a0 a1 ((((f_Ir_classOf ar sc a0).2.2) 0) + (((f_Ir_classOf ar sc a0).2.1) 5 (((f_Ir_classOf ar sc a0).1).toNatClampNeg))))))) ∧ (¬ (a2 = (-1)) → (p_Findings_add ar sc a0 a1 ((sc 0) + a2)))))))))))))
def f_Ir_done (ar : Nat → Nat → Int32) (sc : Nat → Int32) (a0 : Int32) (a1 : Int32) : Option String × Int32 × (Nat → Nat → Int32) × (Nat → Int32) :=
  if (f_Ir_isFinding ar sc a0) = 0 then
    (some "java/lang/IllegalArgumentException", 0, ar, sc)
  else
    if (f_Ir_isWithin a1 1 9999) = 0 then
      (some "java/lang/IndexOutOfBoundsException", 0, ar, sc)
    else
      if (f_Findings_isOpen ar sc a0) = 0 then
        (some "java/lang/IllegalStateException", 0, ar, sc)
      else
        (none, 0, s2 ar 16 a0.toNatClampNeg a1, sc)
def p_Ir_done (ar : Nat → Nat → Int32) (sc : Nat → Int32) (a0 : Int32) (a1 : Int32) : Prop :=
  (¬ (f_Ir_isFinding ar sc a0) = 0 → ((¬ (f_Ir_isWithin a1 1 9999) = 0 → ((p_Findings_isOpen ar sc a0) ∧ ((¬ (f_Findings_isOpen ar sc a0) = 0 → (vp_in a0 100)))))))
def f_Ir_findingAt (ar : Nat → Nat → Int32) (sc : Nat → Int32) (a0 : Int32) (a1 : Int32) : Option String × Int32 × (Nat → Nat → Int32) × (Nat → Int32) :=
  if (f_Ir_isFinding ar sc a0) = 0 then
    (some "java/lang/IllegalArgumentException", 0, ar, sc)
  else
    if (f_Ir_isWithin a1 0 4) = 0 then
      (some "java/lang/IllegalArgumentException", 0, ar, sc)
    else
      if a1 = 0 then
        (none, ar 13 a0.toNatClampNeg, ar, sc)
      else if a1 = 1 then
        if (f_Findings_isOpen ar sc a0) = 0 then
          (none, 0, ar, sc)
        else
          (none, 1, ar, sc)
      else if a1 = 2 then
        if (f_Findings_isMissed ar sc a0 (sc 0)) = 0 then
          (none, 0, ar, sc)
        else
          (none, 1, ar, sc)
      else if a1 = 3 then
        (none, ar 15 a0.toNatClampNeg, ar, sc)
      else 
        (none, ar 16 a0.toNatClampNeg, ar, sc)
def p_Ir_findingAt (ar : Nat → Nat → Int32) (sc : Nat → Int32) (a0 : Int32) (a1 : Int32) : Prop :=
  ((f_Ir_isFinding ar sc a0) = 0 → True) ∧ (¬ ((f_Ir_isFinding ar sc a0) = 0) → (((f_Ir_isWithin a1 0 4) = 0 → True) ∧ (¬ ((f_Ir_isWithin a1 0 4) = 0) → ((a1 = 0 → (vp_in a0 100)) ∧ (¬ a1 = 0 → ((a1 = 1 → (p_Findings_isOpen ar sc a0)) ∧ (¬ a1 = 1 → ((a1 = 2 → (p_Findings_isMissed ar sc a0 (sc 0))) ∧ (¬ a1 = 2 → ((a1 = 3 → (vp_in a0 100)) ∧ (¬ a1 = 3 → (vp_in a0 100))))))))))))
def f_Ir_pointAt (ar : Nat → Nat → Int32) (sc : Nat → Int32) (a0 : Int32) (a1 : Int32) : Option String × Int32 × (Nat → Nat → Int32) × (Nat → Int32) :=
  if (f_Ir_isPoint ar sc a0) = 0 then
    (some "java/lang/IllegalArgumentException", 0, ar, sc)
  else
    if (f_Ir_isWithin a1 0 4) = 0 then
      (some "java/lang/IllegalArgumentException", 0, ar, sc)
    else
      if a1 = 0 then
        (none, (f_Ir_riskOf ar sc a0).1, (f_Ir_riskOf ar sc a0).2.1, (f_Ir_riskOf ar sc a0).2.2)
      else if a1 = 1 then
        (none, (f_Ir_classOf ar sc a0).1, (f_Ir_classOf ar sc a0).2.1, (f_Ir_classOf ar sc a0).2.2)
      else if a1 = 2 then
        (none, ar 11 a0.toNatClampNeg, ar, sc)
      else if a1 = 3 then
        (none, f_Ir_firstDueDay ((f_Ir_fillRisks ar sc ).1) ((f_Ir_fillRisks ar sc ).2) a0, (f_Ir_fillRisks ar sc ).1, (f_Ir_fillRisks ar sc ).2)
      else 
        (none, f_Findings_countOpen ar sc a0, ar, sc)
def p_Ir_pointAt (ar : Nat → Nat → Int32) (sc : Nat → Int32) (a0 : Int32) (a1 : Int32) : Prop :=
  ((f_Ir_isPoint ar sc a0) = 0 → True) ∧ (¬ ((f_Ir_isPoint ar sc a0) = 0) → (((f_Ir_isWithin a1 0 4) = 0 → True) ∧ (¬ ((f_Ir_isWithin a1 0 4) = 0) → ((a1 = 0 → (p_Ir_riskOf ar sc a0)) ∧ (¬ a1 = 0 → ((a1 = 1 → (p_Ir_classOf ar sc a0)) ∧ (¬ a1 = 1 → ((a1 = 2 → (vp_in a0 30)) ∧ (¬ a1 = 2 → ((a1 = 3 → ((p_Ir_fillRisks ar sc ) ∧ (p_Ir_firstDueDay ((f_Ir_fillRisks ar sc ).1) ((f_Ir_fillRisks ar sc ).2) a0))) ∧ (¬ a1 = 3 → (p_Findings_countOpen ar sc a0))))))))))))
def g_Ir_due_31 (a0 : Int32) (a1 : Int32)  : Nat → Int32 → (Nat → Nat → Int32) → (Nat → Int32) → Option String × Int32 × (Nat → Nat → Int32) × (Nat → Int32)
  | 0, v3, ar, sc => (none, 0, ar, sc)
  | n + 1, v3, ar, sc =>
    if (sc 1) ≤ v3 then
      (none, (-1), ar, sc)
    else
      if a0 < (f_Ir_firstDueDay ar sc v3) then
        g_Ir_due_31 a0 a1 n (v3 + 1) ar sc
      else
        if (f_Ir_countDueAhead ar sc v3 a0) = a1 then
          (none, v3, ar, sc)
        else
          g_Ir_due_31 a0 a1 n (v3 + 1) ar sc
def q_Ir_due_31 (a0 : Int32) (a1 : Int32)  : Nat → Int32 → (Nat → Nat → Int32) → (Nat → Int32) → Prop
  | 0, _, _, _ => False
  | n + 1, v3, ar, sc =>
    ((sc 1) ≤ v3 → True) ∧ (¬ ((sc 1) ≤ v3) → ((p_Ir_firstDueDay ar sc v3) ∧ ((a0 < (f_Ir_firstDueDay ar sc v3) → (q_Ir_due_31 a0 a1 n (v3 + 1) ar sc)) ∧ (¬ (a0 < (f_Ir_firstDueDay ar sc v3)) → ((p_Ir_countDueAhead ar sc v3 a0) ∧ (((f_Ir_countDueAhead ar sc v3 a0) = a1 → True) ∧ (¬ ((f_Ir_countDueAhead ar sc v3 a0) = a1) → (q_Ir_due_31 a0 a1 n (v3 + 1) ar sc))))))))
def f_Ir_due (ar : Nat → Nat → Int32) (sc : Nat → Int32) (a0 : Int32) (a1 : Int32) : Option String × Int32 × (Nat → Nat → Int32) × (Nat → Int32) :=
  if (f_Ir_isWithin a0 (sc 0) 99999) = 0 then
    (some "java/lang/IndexOutOfBoundsException", 0, ar, sc)
  else
    if a1 < 0 then
      (some "java/lang/IndexOutOfBoundsException", 0, ar, sc)
    else
      g_Ir_due_31 a0 a1 200 0 ((f_Ir_fillRisks ar sc ).1) ((f_Ir_fillRisks ar sc ).2)
def p_Ir_due (ar : Nat → Nat → Int32) (sc : Nat → Int32) (a0 : Int32) (a1 : Int32) : Prop :=
  ((f_Ir_isWithin a0 (sc 0) 99999) = 0 → True) ∧ (¬ ((f_Ir_isWithin a0 (sc 0) 99999) = 0) → ((a1 < 0 → True) ∧ (¬ (a1 < 0) → ((p_Ir_fillRisks ar sc ) ∧ (q_Ir_due_31 a0 a1 200 0 ((f_Ir_fillRisks ar sc ).1) ((f_Ir_fillRisks ar sc ).2))))))
def f_Ir_question (ar : Nat → Nat → Int32) (sc : Nat → Int32) (a0 : Int32) (a1 : Int32) (a2 : Int32) (a3 : Int32) : Option String × Int32 × (Nat → Nat → Int32) × (Nat → Int32) :=
  if (f_Ir_isWithin a0 0 15) = 0 then
    (some "java/lang/IllegalArgumentException", 0, ar, sc)
  else
    if (f_Ir_canLead a0 a1) = 0 then
      (some "java/lang/IndexOutOfBoundsException", 0, ar, sc)
    else
      if (f_Ir_canLead a0 a2) = 0 then
        (some "java/lang/IndexOutOfBoundsException", 0, ar, sc)
      else
        if (f_Ir_isWithin a3 0 50) = 0 then
          (some "java/lang/IndexOutOfBoundsException", 0, ar, sc)
        else
          (none, 0, (f_Questions_tell ar sc a0 a1 a2 a3).1, (f_Questions_tell ar sc a0 a1 a2 a3).2)
def p_Ir_question (ar : Nat → Nat → Int32) (sc : Nat → Int32) (a0 : Int32) (a1 : Int32) (a2 : Int32) (a3 : Int32) : Prop :=
  (¬ (f_Ir_isWithin a0 0 15) = 0 → (((f_Ir_canLead a0 a1) = 0 → True) ∧ (¬ ((f_Ir_canLead a0 a1) = 0) → (((f_Ir_canLead a0 a2) = 0 → True) ∧ (¬ ((f_Ir_canLead a0 a2) = 0) → ((¬ (f_Ir_isWithin a3 0 50) = 0 → (p_Questions_tell ar sc a0 a1 a2 a3))))))))
def g_Ir_list_69 (a0 : Int32) (a1 : Int32) (u3 : Int32) : Nat → Int32 → (Nat → Nat → Int32) → (Nat → Int32) → Int32 × (Nat → Nat → Int32) × (Nat → Int32)
  | 0, v4, ar, sc => (v4, ar, sc)
  | n + 1, v4, ar, sc =>
    if (sc 3) ≤ v4 then
      (v4, ar, sc)
    else
      g_Ir_list_69 a0 a1 u3 n (v4 + 1) ((f_Findings_add ar sc a0 (ar 22 v4.toNatClampNeg) u3).2.1) ((f_Findings_add ar sc a0 (ar 22 v4.toNatClampNeg) u3).2.2)
def q_Ir_list_69 (a0 : Int32) (a1 : Int32) (u3 : Int32) : Nat → Int32 → (Nat → Nat → Int32) → (Nat → Int32) → Prop
  | 0, _, _, _ => False
  | n + 1, v4, ar, sc =>
    ((sc 3) ≤ v4 → True) ∧ (¬ ((sc 3) ≤ v4) → ((vp_in v4 16) ∧ ((p_Findings_add ar sc a0 (ar 22 v4.toNatClampNeg) u3) ∧ (q_Ir_list_69 a0 a1 u3 n (v4 + 1) ((f_Findings_add ar sc a0 (ar 22 v4.toNatClampNeg) u3).2.1) ((f_Findings_add ar sc a0 (ar 22 v4.toNatClampNeg) u3).2.2)))))
def f_Ir_list (ar : Nat → Nat → Int32) (sc : Nat → Int32) (a0 : Int32) (a1 : Int32) : Option String × Int32 × (Nat → Nat → Int32) × (Nat → Int32) :=
  if (f_Ir_isPoint ar sc a0) = 0 then
    (some "java/lang/IllegalArgumentException", 0, ar, sc)
  else
    if ((f_Questions_answer ar sc a1).1) = 0 then
      (some "java/lang/IllegalStateException", 0, (f_Questions_answer ar sc a1).2.1, (f_Questions_answer ar sc a1).2.2)
    else
      if 100 < ((((f_Questions_answer ar sc a1).2.2) 2) + (((f_Questions_answer ar sc a1).2.2) 3)) then
        (some "java/lang/UnsupportedOperationException", 0, (f_Questions_answer ar sc a1).2.1, (f_Questions_answer ar sc a1).2.2)
      else
        (none, ((g_Ir_list_69 a0 a1 ((((f_Questions_answer ar sc a1).2.2) 0) + (((f_Ir_classOf ((f_Questions_answer ar sc a1).2.1) ((f_Questions_answer ar sc a1).2.2) a0).2.1) 5 (((f_Ir_classOf ((f_Questions_answer ar sc a1).2.1) ((f_Questions_answer ar sc a1).2.2) a0).1).toNatClampNeg))) 200 0 ((f_Ir_classOf ((f_Questions_answer ar sc a1).2.1) ((f_Questions_answer ar sc a1).2.2) a0).2.1) ((f_Ir_classOf ((f_Questions_answer ar sc a1).2.1) ((f_Questions_answer ar sc a1).2.2) a0).2.2)).2.2) 3, (g_Ir_list_69 a0 a1 ((((f_Questions_answer ar sc a1).2.2) 0) + (((f_Ir_classOf ((f_Questions_answer ar sc a1).2.1) ((f_Questions_answer ar sc a1).2.2) a0).2.1) 5 (((f_Ir_classOf ((f_Questions_answer ar sc a1).2.1) ((f_Questions_answer ar sc a1).2.2) a0).1).toNatClampNeg))) 200 0 ((f_Ir_classOf ((f_Questions_answer ar sc a1).2.1) ((f_Questions_answer ar sc a1).2.2) a0).2.1) ((f_Ir_classOf ((f_Questions_answer ar sc a1).2.1) ((f_Questions_answer ar sc a1).2.2) a0).2.2)).2.1, (g_Ir_list_69 a0 a1 ((((f_Questions_answer ar sc a1).2.2) 0) + (((f_Ir_classOf ((f_Questions_answer ar sc a1).2.1) ((f_Questions_answer ar sc a1).2.2) a0).2.1) 5 (((f_Ir_classOf ((f_Questions_answer ar sc a1).2.1) ((f_Questions_answer ar sc a1).2.2) a0).1).toNatClampNeg))) 200 0 ((f_Ir_classOf ((f_Questions_answer ar sc a1).2.1) ((f_Questions_answer ar sc a1).2.2) a0).2.1) ((f_Ir_classOf ((f_Questions_answer ar sc a1).2.1) ((f_Questions_answer ar sc a1).2.2) a0).2.2)).2.2)
def p_Ir_list (ar : Nat → Nat → Int32) (sc : Nat → Int32) (a0 : Int32) (a1 : Int32) : Prop :=
  (¬ (f_Ir_isPoint ar sc a0) = 0 → ((p_Questions_answer ar sc a1) ∧ ((¬ ((f_Questions_answer ar sc a1).1) = 0 → ((100 < ((((f_Questions_answer ar sc a1).2.2) 2) + (((f_Questions_answer ar sc a1).2.2) 3)) → True) ∧ (¬ (100 < ((((f_Questions_answer ar sc a1).2.2) 2) + (((f_Questions_answer ar sc a1).2.2) 3))) → ((p_Ir_classOf ((f_Questions_answer ar sc a1).2.1) ((f_Questions_answer ar sc a1).2.2) a0) ∧ ((vp_in ((f_Ir_classOf ((f_Questions_answer ar sc a1).2.1) ((f_Questions_answer ar sc a1).2.2) a0).1) 4) ∧ (q_Ir_list_69 a0 a1 ((((f_Questions_answer ar sc a1).2.2) 0) + (((f_Ir_classOf ((f_Questions_answer ar sc a1).2.1) ((f_Questions_answer ar sc a1).2.2) a0).2.1) 5 (((f_Ir_classOf ((f_Questions_answer ar sc a1).2.1) ((f_Questions_answer ar sc a1).2.2) a0).1).toNatClampNeg))) 200 0 ((f_Ir_classOf ((f_Questions_answer ar sc a1).2.1) ((f_Questions_answer ar sc a1).2.2) a0).2.1) ((f_Ir_classOf ((f_Questions_answer ar sc a1).2.1) ((f_Questions_answer ar sc a1).2.2) a0).2.2))))))))))
def g_Ir_walk_35 (a0 : Int64) (a1 : Int32)  : Nat → Int32 → (Nat → Nat → Int32) → (Nat → Int32) → Int32 × (Nat → Nat → Int32) × (Nat → Int32)
  | 0, v4, ar, sc => (v4, ar, sc)
  | n + 1, v4, ar, sc =>
    if a1 ≤ v4 then
      (v4, ar, sc)
    else
      g_Ir_walk_35 a0 a1 n (v4 + 1) ((f_Route_tell ar sc v4 (f_Ir_toldPoint a0 v4) (ar 9 ((f_Ir_toldPoint a0 v4).toNatClampNeg)) (ar 10 ((f_Ir_toldPoint a0 v4).toNatClampNeg))).1) ((f_Route_tell ar sc v4 (f_Ir_toldPoint a0 v4) (ar 9 ((f_Ir_toldPoint a0 v4).toNatClampNeg)) (ar 10 ((f_Ir_toldPoint a0 v4).toNatClampNeg))).2)
def q_Ir_walk_35 (a0 : Int64) (a1 : Int32)  : Nat → Int32 → (Nat → Nat → Int32) → (Nat → Int32) → Prop
  | 0, _, _, _ => False
  | n + 1, v4, ar, sc =>
    (a1 ≤ v4 → True) ∧ (¬ (a1 ≤ v4) → ((vp_in (f_Ir_toldPoint a0 v4) 30) ∧ ((vp_in (f_Ir_toldPoint a0 v4) 30) ∧ ((p_Route_tell ar sc v4 (f_Ir_toldPoint a0 v4) (ar 9 ((f_Ir_toldPoint a0 v4).toNatClampNeg)) (ar 10 ((f_Ir_toldPoint a0 v4).toNatClampNeg))) ∧ (q_Ir_walk_35 a0 a1 n (v4 + 1) ((f_Route_tell ar sc v4 (f_Ir_toldPoint a0 v4) (ar 9 ((f_Ir_toldPoint a0 v4).toNatClampNeg)) (ar 10 ((f_Ir_toldPoint a0 v4).toNatClampNeg))).1) ((f_Route_tell ar sc v4 (f_Ir_toldPoint a0 v4) (ar 9 ((f_Ir_toldPoint a0 v4).toNatClampNeg)) (ar 10 ((f_Ir_toldPoint a0 v4).toNatClampNeg))).2))))))
def f_Ir_walk (ar : Nat → Nat → Int32) (sc : Nat → Int32) (a0 : Int64) (a1 : Int32) : Option String × Int32 × (Nat → Nat → Int32) × (Nat → Int32) :=
  if (f_Ir_areAllPoints ar sc a0 (if 7 < a1 then 7 else a1)) = 0 then
    (some "java/lang/IllegalArgumentException", 0, ar, sc)
  else
    if (f_Ir_isWithin a1 0 7) = 0 then
      (some "java/lang/IndexOutOfBoundsException", 0, ar, sc)
    else
      if (f_Ir_areAllDifferent a0 a1) = 0 then
        (some "java/lang/IndexOutOfBoundsException", 0, ar, sc)
      else
        (none, (f_Route_findLeast ((g_Ir_walk_35 a0 a1 200 0 ar sc).2.1) ((g_Ir_walk_35 a0 a1 200 0 ar sc).2.2) a1).1, (f_Route_findLeast ((g_Ir_walk_35 a0 a1 200 0 ar sc).2.1) ((g_Ir_walk_35 a0 a1 200 0 ar sc).2.2) a1).2.1, (f_Route_findLeast ((g_Ir_walk_35 a0 a1 200 0 ar sc).2.1) ((g_Ir_walk_35 a0 a1 200 0 ar sc).2.2) a1).2.2)
def p_Ir_walk (ar : Nat → Nat → Int32) (sc : Nat → Int32) (a0 : Int64) (a1 : Int32) : Prop :=
  (p_Ir_areAllPoints ar sc a0 (if 7 < a1 then 7 else a1)) ∧ ((¬ (f_Ir_areAllPoints ar sc a0 (if 7 < a1 then 7 else a1)) = 0 → ((¬ (f_Ir_isWithin a1 0 7) = 0 → ((p_Ir_areAllDifferent a0 a1) ∧ ((¬ (f_Ir_areAllDifferent a0 a1) = 0 → ((q_Ir_walk_35 a0 a1 200 0 ar sc) ∧ (p_Route_findLeast ((g_Ir_walk_35 a0 a1 200 0 ar sc).2.1) ((g_Ir_walk_35 a0 a1 200 0 ar sc).2.2) a1)))))))))
def f_Ir_stop (ar : Nat → Nat → Int32) (sc : Nat → Int32) (a0 : Int32) : Option String × Int32 × (Nat → Nat → Int32) × (Nat → Int32) :=
  if a0 < 0 then
    (some "java/lang/IndexOutOfBoundsException", 0, ar, sc)
  else
    if (sc 4) ≤ a0 then
      (none, (-1), ar, sc)
    else
      (none, ar 29 a0.toNatClampNeg, ar, sc)
def p_Ir_stop (ar : Nat → Nat → Int32) (sc : Nat → Int32) (a0 : Int32) : Prop :=
  (a0 < 0 → True) ∧ (¬ (a0 < 0) → (((sc 4) ≤ a0 → True) ∧ (¬ ((sc 4) ≤ a0) → (vp_in a0 7))))
def f_Ir_rules (ar : Nat → Nat → Int32) (sc : Nat → Int32) (a0 : Int32) (a1 : Int32) : Option String × Int32 × (Nat → Nat → Int32) × (Nat → Int32) :=
  if (f_Ir_isWithin a0 0 10000000) = 0 then
    (some "java/lang/IndexOutOfBoundsException", 0, ar, sc)
  else
    if (f_Ir_isWithin a1 0 1000000) = 0 then
      (some "java/lang/IndexOutOfBoundsException", 0, ar, sc)
    else
      (none, 0, ar, sg (sg sc 11 a0) 12 a1)
def f_Ir_permit (ar : Nat → Nat → Int32) (sc : Nat → Int32) (a0 : Int32) (a1 : Int32) (a2 : Int32) : Option String × Int32 × (Nat → Nat → Int32) × (Nat → Int32) :=
  if a0 < 0 then
    (some "java/lang/IndexOutOfBoundsException", 0, ar, sc)
  else
    if a1 ≤ a0 then
      (some "java/lang/IndexOutOfBoundsException", 0, ar, sc)
    else
      if 9999999 < a1 then
        (some "java/lang/IndexOutOfBoundsException", 0, ar, sc)
      else
        if (f_Ir_isWithin a2 1 1000000) = 0 then
          (some "java/lang/IndexOutOfBoundsException", 0, ar, sc)
        else
          if ((sg sc 13 (f_Permits_findClash ar sc a0 a1 a2)) 13) = (-1) then
            if 30 ≤ ((sg sc 13 (f_Permits_findClash ar sc a0 a1 a2)) 5) then
              (some "java/lang/UnsupportedOperationException", 0, ar, sg sc 13 (f_Permits_findClash ar sc a0 a1 a2))
            else
              (none, (f_Permits_add ar (sg sc 13 (f_Permits_findClash ar sc a0 a1 a2)) a0 a1).1, (f_Permits_add ar (sg sc 13 (f_Permits_findClash ar sc a0 a1 a2)) a0 a1).2.1, (f_Permits_add ar (sg sc 13 (f_Permits_findClash ar sc a0 a1 a2)) a0 a1).2.2)
          else
            (some "java/lang/IllegalStateException", 0, ar, sg sc 13 (f_Permits_findClash ar sc a0 a1 a2))
def p_Ir_permit (ar : Nat → Nat → Int32) (sc : Nat → Int32) (a0 : Int32) (a1 : Int32) (a2 : Int32) : Prop :=
  (a0 < 0 → True) ∧ (¬ (a0 < 0) → ((a1 ≤ a0 → True) ∧ (¬ (a1 ≤ a0) → ((9999999 < a1 → True) ∧ (¬ (9999999 < a1) → ((¬ (f_Ir_isWithin a2 1 1000000) = 0 → ((p_Permits_findClash ar sc a0 a1 a2) ∧ ((((sg sc 13 (f_Permits_findClash ar sc a0 a1 a2)) 13) = (-1) → ((30 ≤ ((sg sc 13 (f_Permits_findClash ar sc a0 a1 a2)) 5) → True) ∧ (¬ (30 ≤ ((sg sc 13 (f_Permits_findClash ar sc a0 a1 a2)) 5)) → (p_Permits_add ar (sg sc 13 (f_Permits_findClash ar sc a0 a1 a2)) a0 a1)))) ∧ (¬ (((sg sc 13 (f_Permits_findClash ar sc a0 a1 a2)) 13) = (-1)) → True))))))))))
def f_Ir_ground (ar : Nat → Nat → Int32) (sc : Nat → Int32) (a0 : Int32) (a1 : Int32) (a2 : Int32) (a3 : Int32) : Option String × Int32 × (Nat → Nat → Int32) × (Nat → Int32) :=
  if (f_Ir_isSide a0 a2) = 0 then
    (some "java/lang/IndexOutOfBoundsException", 0, ar, sc)
  else
    if (f_Ir_isSide a1 a3) = 0 then
      (some "java/lang/IndexOutOfBoundsException", 0, ar, sc)
    else
      (none, 0, (f_Permits_tellGround ar sc a0 a1 a2 a3).1, (f_Permits_tellGround ar sc a0 a1 a2 a3).2)
def f_Ir_clash (ar : Nat → Nat → Int32) (sc : Nat → Int32)  : Option String × Int32 × (Nat → Nat → Int32) × (Nat → Int32) :=
  (none, sc 13, ar, sc)
def f_Ir_touches (ar : Nat → Nat → Int32) (sc : Nat → Int32) (a0 : Int32) : Option String × Int32 × (Nat → Nat → Int32) × (Nat → Int32) :=
  if a0 < 0 then
    (some "java/lang/IllegalArgumentException", 0, ar, sc)
  else
    if (sc 5) ≤ a0 then
      (some "java/lang/IllegalArgumentException", 0, ar, sc)
    else
      (none, ((((ar 36 a0.toNatClampNeg) - 1) / 1440) - ((ar 35 a0.toNatClampNeg) / 1440)) + 1, ar, sc)
def p_Ir_touches (ar : Nat → Nat → Int32) (sc : Nat → Int32) (a0 : Int32) : Prop :=
  (a0 < 0 → True) ∧ (¬ (a0 < 0) → (((sc 5) ≤ a0 → True) ∧ (¬ ((sc 5) ≤ a0) → ((vp_in a0 30) ∧ (vp_in a0 30)))))
def f_Ir_surprise (ar : Nat → Nat → Int32) (sc : Nat → Int32) (a0 : Int32) : Option String × Int32 × (Nat → Nat → Int32) × (Nat → Int32) :=
  if (sc 1) ≤ 0 then
    (some "java/lang/IllegalStateException", 0, ar, sc)
  else
    (none, ((((a0 * 1103515245) + 12345).toUInt32 >>> ((8 : Int32).toUInt32 &&& Int32.toUInt32 31)).toInt32) - ((((a0 * 1103515245) + 12345).toUInt32 >>> ((8 : Int32).toUInt32 &&& Int32.toUInt32 31)).toInt32) / (sc 1) * (sc 1), ar, sc)
def p_Ir_surprise (ar : Nat → Nat → Int32) (sc : Nat → Int32) (a0 : Int32) : Prop :=
  ((sc 1) ≤ 0 → True) ∧ (¬ ((sc 1) ≤ 0) → (¬ (sc 1) = 0))
end
section
theorem m_0 : (Cond.fieldLink R_Findings 21 "InspectRows$Findings" "proofs" "[I") ∈ w_all := List.mem_filter.mpr ⟨List.mem_of_getElem? (i := 122) (by decide +kernel), by decide +kernel⟩
theorem m_1 : (Cond.instanceMethod y_Findings_isOpen) ∈ w_all := List.mem_filter.mpr ⟨List.mem_of_getElem? (i := 478) (by decide +kernel), by decide +kernel⟩
theorem m_2 : (Cond.selects R_Findings y_Findings_isOpen y_Findings_isOpen) ∈ w_all := List.mem_filter.mpr ⟨List.mem_of_getElem? (i := 479) (by decide +kernel), by decide +kernel⟩
theorem m_3 : (Cond.initialized R_Findings) ∈ w_all := List.mem_filter.mpr ⟨List.mem_of_getElem? (i := 35) (by decide +kernel), by decide +kernel⟩
theorem m_4 : (Cond.code y_Findings_isOpen b_Findings_isOpen 2 (some .boolean)) ∈ w_all := List.mem_filter.mpr ⟨List.mem_of_getElem? (i := 480) (by decide +kernel), by decide +kernel⟩
theorem m_5 : (Cond.methodLink R_Findings 28 y_Findings_isOpen) ∈ w_all := List.mem_filter.mpr ⟨List.mem_of_getElem? (i := 477) (by decide +kernel), by decide +kernel⟩
theorem m_6 : (Cond.fieldLink R_Findings 18 "InspectRows$Findings" "days" "[I") ∈ w_all := List.mem_filter.mpr ⟨List.mem_of_getElem? (i := 120) (by decide +kernel), by decide +kernel⟩
theorem m_7 : (Cond.instanceMethod y_Findings_isMissed) ∈ w_all := List.mem_filter.mpr ⟨List.mem_of_getElem? (i := 482) (by decide +kernel), by decide +kernel⟩
theorem m_8 : (Cond.selects R_Findings y_Findings_isMissed y_Findings_isMissed) ∈ w_all := List.mem_filter.mpr ⟨List.mem_of_getElem? (i := 483) (by decide +kernel), by decide +kernel⟩
theorem m_9 : (Cond.code y_Findings_isMissed b_Findings_isMissed 3 (some .boolean)) ∈ w_all := List.mem_filter.mpr ⟨List.mem_of_getElem? (i := 484) (by decide +kernel), by decide +kernel⟩
theorem m_10 : (Cond.methodLink R_Findings 32 y_Findings_isMissed) ∈ w_all := List.mem_filter.mpr ⟨List.mem_of_getElem? (i := 481) (by decide +kernel), by decide +kernel⟩
theorem m_11 : (Cond.fieldLink R_Findings 15 "InspectRows$Findings" "weights" "[I") ∈ w_all := List.mem_filter.mpr ⟨List.mem_of_getElem? (i := 119) (by decide +kernel), by decide +kernel⟩
theorem m_12 : (Cond.instanceMethod y_Findings_riskOn) ∈ w_all := List.mem_filter.mpr ⟨List.mem_of_getElem? (i := 474) (by decide +kernel), by decide +kernel⟩
theorem m_13 : (Cond.selects R_Findings y_Findings_riskOn y_Findings_riskOn) ∈ w_all := List.mem_filter.mpr ⟨List.mem_of_getElem? (i := 475) (by decide +kernel), by decide +kernel⟩
theorem m_14 : (Cond.code y_Findings_riskOn b_Findings_riskOn 3 (some .int)) ∈ w_all := List.mem_filter.mpr ⟨List.mem_of_getElem? (i := 476) (by decide +kernel), by decide +kernel⟩
theorem m_15 : (Cond.fieldLink R_Findings 24 "InspectRows$Findings" "count" "I") ∈ w_all := List.mem_filter.mpr ⟨List.mem_of_getElem? (i := 124) (by decide +kernel), by decide +kernel⟩
theorem m_16 : (Cond.fieldLink R_Findings 9 "InspectRows$Findings" "points" "[I") ∈ w_all := List.mem_filter.mpr ⟨List.mem_of_getElem? (i := 117) (by decide +kernel), by decide +kernel⟩
theorem m_17 : (Cond.instanceMethod y_Findings_countOpen) ∈ w_all := List.mem_filter.mpr ⟨List.mem_of_getElem? (i := 545) (by decide +kernel), by decide +kernel⟩
theorem m_18 : (Cond.selects R_Findings y_Findings_countOpen y_Findings_countOpen) ∈ w_all := List.mem_filter.mpr ⟨List.mem_of_getElem? (i := 546) (by decide +kernel), by decide +kernel⟩
theorem m_19 : (Cond.code y_Findings_countOpen b_Findings_countOpen 4 (some .int)) ∈ w_all := List.mem_filter.mpr ⟨List.mem_of_getElem? (i := 547) (by decide +kernel), by decide +kernel⟩
theorem m_20 : (Cond.instanceMethod y_Findings_add) ∈ w_all := List.mem_filter.mpr ⟨List.mem_of_getElem? (i := 490) (by decide +kernel), by decide +kernel⟩
theorem m_21 : (Cond.selects R_Findings y_Findings_add y_Findings_add) ∈ w_all := List.mem_filter.mpr ⟨List.mem_of_getElem? (i := 491) (by decide +kernel), by decide +kernel⟩
theorem m_22 : (Cond.code y_Findings_add b_Findings_add 5 (some .int)) ∈ w_all := List.mem_filter.mpr ⟨List.mem_of_getElem? (i := 492) (by decide +kernel), by decide +kernel⟩
theorem d_Findings_isOpen_0 : decode b_Findings_isOpen 0 = .ok (.aload_n 0, 1) := by decide +kernel
theorem d_Findings_isOpen_1 : decode b_Findings_isOpen 1 = .ok (.getfield 21, 3) := by decide +kernel
theorem d_Findings_isOpen_4 : decode b_Findings_isOpen 4 = .ok (.iload_n 1, 1) := by decide +kernel
theorem d_Findings_isOpen_5 : decode b_Findings_isOpen 5 = .ok (.iaload, 1) := by decide +kernel
theorem d_Findings_isOpen_6 : decode b_Findings_isOpen 6 = .ok (.ifCond .ne 7, 3) := by decide +kernel
theorem d_Findings_isOpen_9 : decode b_Findings_isOpen 9 = .ok (.iconst 1, 1) := by decide +kernel
theorem d_Findings_isOpen_10 : decode b_Findings_isOpen 10 = .ok (.goto 4, 3) := by decide +kernel
theorem d_Findings_isOpen_13 : decode b_Findings_isOpen 13 = .ok (.iconst 0, 1) := by decide +kernel
theorem d_Findings_isOpen_14 : decode b_Findings_isOpen 14 = .ok (.ireturn, 1) := by decide +kernel
set_option maxHeartbeats 4000000 in
set_option maxRecDepth 100000 in
theorem c_Findings_isOpen (l : Launch) (dC : Nat → ClassId) (dI : Nat → Nat → Nat) (L : Nat → Nat) (cA : Nat → ClassId) (ar : Nat → Nat → Int32) (sc : Nat → Int32) (a0 : Int32) (h : p_Findings_isOpen ar sc a0) : Met l y_Findings_isOpen z_Findings_isOpen (rmD 0) (va_Pc [.ref (L 12), .int a0] (fun U => xw_I dC dI L cA ar sc U)) (QcRead (f_Findings_isOpen ar sc a0)) 0 0 (fun _ => False) := by
  refine Met.ofW (cc := b_Findings_isOpen) (maxL := 2) (ret := (some .boolean)) (by decide) rfl ?_
  intro p e s m args below meth c s₁ B hml hv
  obtain ⟨rfl, ⟨hP, hK⟩⟩ := hv
  have hx := B.exec
  have hb := B.bytes
  have hr := B.returns
  have hts : ∀ w ∈ w_all, w.before _ s = true := fun w hw => atoms_spec (ws := z_Findings_isOpen) B.pre w (List.mem_cons_of_mem _ hw)
  have hown : s.vm.findClass R_Findings = some m.cls := findClass_of_methodNamed B.named
  have hlocks := B.notSynchronized
  have hF : CallFix p m c b_Findings_isOpen 2 s _ w_all R_Findings := ⟨hx, hb, hml, hown, hts⟩
  have hl := lv_entry ([.ref (L 12), .int a0]) (n := 2) (Nat.le_of_ble_eq_true rfl)
  rw [lg_entry_eq]
  generalize (lg_sl ([.ref (L 12), .int a0]) ++ List.replicate (2 - (lg_sl ([.ref (L 12), .int a0])).length) Slot.unset).toArray = ls at hl ⊢
  have hl : lv_has ls 2 [(0, .ref (L 12)), (1, .int a0)] := hl
  unfold p_Findings_isOpen at h
  refine lv_aload_n hx hb d_Findings_isOpen_0 rfl (lv_at hl 0 rfl) ?_
  refine gf_Findings_proofs hF hK hP m_0 d_Findings_isOpen_1 ?_
  refine lv_iload_n hx hb d_Findings_isOpen_4 rfl (lv_at hl 1 rfl) ?_
  have k5 := h
  refine alI_16 hF hK hP k5 d_Findings_isOpen_5 ?_
  refine lv_if_ne (tgt := 13) hx hb d_Findings_isOpen_6 (by decide) (fun c6 => ?_) (fun c6 => ?_)
  · refine lv_iconst (v := 0) hx hb d_Findings_isOpen_13 (by decide) ?_
    have hv : (0 : Int32) = f_Findings_isOpen ar sc a0 := by rw [f_Findings_isOpen, if_neg c6]
    exact W.zret (ty := .boolean) (v := 0) hx hb hr rfl (fun t ht hW => ⟨congrArg (fun z => Outcome.returned (some (Value.int z))) hv, ht⟩) (fun _ h9 => nomatch h9) d_Findings_isOpen_14
  · refine lv_iconst (v := 1) hx hb d_Findings_isOpen_9 (by decide) ?_
    refine lv_goto (tgt := 14) hx hb d_Findings_isOpen_10 (by decide) ?_
    have hv : (1 : Int32) = f_Findings_isOpen ar sc a0 := by rw [f_Findings_isOpen, if_pos c6]
    exact W.zret (ty := .boolean) (v := 1) hx hb hr rfl (fun t ht hW => ⟨congrArg (fun z => Outcome.returned (some (Value.int z))) hv, ht⟩) (fun _ h9 => nomatch h9) d_Findings_isOpen_14
set_option maxHeartbeats 1000000 in
theorem r_Findings_isOpen {p : Program} {l : Launch} {e : Env} {R : Room} {s : State} {m : MethodId} {args : Array Value} {below : List Frame} {meth : Method} {c : Code} {H : Heap} {locs : List Loc} {cells slots : Nat} {Q : State → Prop} {cc : ByteArray} {nL pc idx : Nat} {ls : Array Slot} {rest : List Value} {own : String} {dC : Nat → ClassId} {dI : Nat → Nat → Nat} {L : Nat → Nat} {cA : Nat → ClassId} {ar : Nat → Nat → Int32} {sc : Nat → Int32} {a0 : Int32} (hF : CallFix p m c cc nL s args w_all own) (hK : kW_I dC dI cA s) (hP : va_P (dC, dI) classes (wI L cA ar sc) H) (h : p_Findings_isOpen ar sc a0) (hlk : Cond.methodLink own idx y_Findings_isOpen ∈ w_all) (hsz : ls.size = nL) (hR : (rmD 0).frames + 1 ≤ R.frames ∧ 8 + (2 + 11) + (rmD 0).locals ≤ R.locals) (hc : cells ≤ R.cells ∧ slots ≤ R.slots) (hrs : (rest.map fun v => v.category).sum ≤ 8) (hdg : decode cc pc = .ok (.invokevirtual idx, 3)) (kk : W p l e R s m args below meth c H locs cells slots Q (F0 m (pc + 3) ls (.int (f_Findings_isOpen ar sc a0) :: rest))) : W p l e R s m args below meth c H locs cells slots Q (F0 m pc ls (.int a0 :: .ref (L 12) :: rest)) :=
  W.callR (W.runV (As := [.int a0]) (rest := rest) hF (c_Findings_isOpen l dC dI L cA ar sc a0 h) (cwV 1 hF.2.2.2.2 (gV hlk m_1 m_2 m_3 m_4) rfl rfl rfl (by decide +kernel) hR) ⟨xb_I, va_recv hK.1 hP (ci := 3) (q0 := 12) rfl rfl, fun U hU hW => ⟨rfl, by rw [hU]; exact hP, kW_I_warm hW hK⟩⟩ rfl rfl hsz rfl (lv_room hrs) hdg hc) kk
theorem d_Findings_isMissed_0 : decode b_Findings_isMissed 0 = .ok (.aload_n 0, 1) := by decide +kernel
theorem d_Findings_isMissed_1 : decode b_Findings_isMissed 1 = .ok (.iload_n 1, 1) := by decide +kernel
theorem d_Findings_isMissed_2 : decode b_Findings_isMissed 2 = .ok (.invokevirtual 28, 3) := by decide +kernel
theorem d_Findings_isMissed_5 : decode b_Findings_isMissed 5 = .ok (.ifCond .eq 17, 3) := by decide +kernel
theorem d_Findings_isMissed_8 : decode b_Findings_isMissed 8 = .ok (.aload_n 0, 1) := by decide +kernel
theorem d_Findings_isMissed_9 : decode b_Findings_isMissed 9 = .ok (.getfield 18, 3) := by decide +kernel
theorem d_Findings_isMissed_12 : decode b_Findings_isMissed 12 = .ok (.iload_n 1, 1) := by decide +kernel
theorem d_Findings_isMissed_13 : decode b_Findings_isMissed 13 = .ok (.iaload, 1) := by decide +kernel
theorem d_Findings_isMissed_14 : decode b_Findings_isMissed 14 = .ok (.iload_n 2, 1) := by decide +kernel
theorem d_Findings_isMissed_15 : decode b_Findings_isMissed 15 = .ok (.if_icmp .ge 7, 3) := by decide +kernel
theorem d_Findings_isMissed_18 : decode b_Findings_isMissed 18 = .ok (.iconst 1, 1) := by decide +kernel
theorem d_Findings_isMissed_19 : decode b_Findings_isMissed 19 = .ok (.goto 4, 3) := by decide +kernel
theorem d_Findings_isMissed_22 : decode b_Findings_isMissed 22 = .ok (.iconst 0, 1) := by decide +kernel
theorem d_Findings_isMissed_23 : decode b_Findings_isMissed 23 = .ok (.ireturn, 1) := by decide +kernel
set_option maxHeartbeats 4000000 in
set_option maxRecDepth 100000 in
theorem c_Findings_isMissed (l : Launch) (dC : Nat → ClassId) (dI : Nat → Nat → Nat) (L : Nat → Nat) (cA : Nat → ClassId) (ar : Nat → Nat → Int32) (sc : Nat → Int32) (a0 : Int32) (a1 : Int32) (h : p_Findings_isMissed ar sc a0 a1) : Met l y_Findings_isMissed z_Findings_isMissed (rmD 1) (va_Pc [.ref (L 12), .int a0, .int a1] (fun U => xw_I dC dI L cA ar sc U)) (QcRead (f_Findings_isMissed ar sc a0 a1)) 0 0 (fun _ => False) := by
  refine Met.ofW (cc := b_Findings_isMissed) (maxL := 3) (ret := (some .boolean)) (by decide) rfl ?_
  intro p e s m args below meth c s₁ B hml hv
  obtain ⟨rfl, ⟨hP, hK⟩⟩ := hv
  have hx := B.exec
  have hb := B.bytes
  have hr := B.returns
  have hts : ∀ w ∈ w_all, w.before _ s = true := fun w hw => atoms_spec (ws := z_Findings_isMissed) B.pre w (List.mem_cons_of_mem _ hw)
  have hown : s.vm.findClass R_Findings = some m.cls := findClass_of_methodNamed B.named
  have hlocks := B.notSynchronized
  have hF : CallFix p m c b_Findings_isMissed 3 s _ w_all R_Findings := ⟨hx, hb, hml, hown, hts⟩
  have hl := lv_entry ([.ref (L 12), .int a0, .int a1]) (n := 3) (Nat.le_of_ble_eq_true rfl)
  rw [lg_entry_eq]
  generalize (lg_sl ([.ref (L 12), .int a0, .int a1]) ++ List.replicate (3 - (lg_sl ([.ref (L 12), .int a0, .int a1])).length) Slot.unset).toArray = ls at hl ⊢
  have hl : lv_has ls 3 [(0, .ref (L 12)), (1, .int a0), (2, .int a1)] := hl
  unfold p_Findings_isMissed at h
  refine lv_aload_n hx hb d_Findings_isMissed_0 rfl (lv_at hl 0 rfl) ?_
  refine lv_iload_n hx hb d_Findings_isMissed_1 rfl (lv_at hl 1 rfl) ?_
  have k2 := h.1
  have h := h.2
  refine r_Findings_isOpen hF hK hP k2 m_5 hl.1 ⟨Nat.le_of_ble_eq_true rfl, Nat.le_of_ble_eq_true rfl⟩ ⟨Nat.zero_le _, Nat.zero_le _⟩ (Nat.le_of_ble_eq_true rfl) d_Findings_isMissed_2 ?_
  refine lv_if_eq (tgt := 22) hx hb d_Findings_isMissed_5 (by decide) (fun c5 => ?_) (fun c5 => ?_)
  · have h := h.1 c5
    refine lv_iconst (v := 0) hx hb d_Findings_isMissed_22 (by decide) ?_
    have hv : (0 : Int32) = f_Findings_isMissed ar sc a0 a1 := by rw [f_Findings_isMissed, if_pos c5]
    exact W.zret (ty := .boolean) (v := 0) hx hb hr rfl (fun t ht hW => ⟨congrArg (fun z => Outcome.returned (some (Value.int z))) hv, ht⟩) (fun _ h9 => nomatch h9) d_Findings_isMissed_23
  · have h := h.2 c5
    refine lv_aload_n hx hb d_Findings_isMissed_8 rfl (lv_at hl 0 rfl) ?_
    refine gf_Findings_days hF hK hP m_6 d_Findings_isMissed_9 ?_
    refine lv_iload_n hx hb d_Findings_isMissed_12 rfl (lv_at hl 1 rfl) ?_
    have k13 := h
    refine alI_15 hF hK hP k13 d_Findings_isMissed_13 ?_
    refine lv_iload_n hx hb d_Findings_isMissed_14 rfl (lv_at hl 2 rfl) ?_
    refine lv_icmp_ge (tgt := 22) hx hb d_Findings_isMissed_15 (by decide) (fun c15 => ?_) (fun c15 => ?_)
    · refine lv_iconst (v := 0) hx hb d_Findings_isMissed_22 (by decide) ?_
      have hv : (0 : Int32) = f_Findings_isMissed ar sc a0 a1 := by rw [f_Findings_isMissed, if_neg c5, if_pos c15]
      exact W.zret (ty := .boolean) (v := 0) hx hb hr rfl (fun t ht hW => ⟨congrArg (fun z => Outcome.returned (some (Value.int z))) hv, ht⟩) (fun _ h9 => nomatch h9) d_Findings_isMissed_23
    · refine lv_iconst (v := 1) hx hb d_Findings_isMissed_18 (by decide) ?_
      refine lv_goto (tgt := 23) hx hb d_Findings_isMissed_19 (by decide) ?_
      have hv : (1 : Int32) = f_Findings_isMissed ar sc a0 a1 := by rw [f_Findings_isMissed, if_neg c5, if_neg c15]
      exact W.zret (ty := .boolean) (v := 1) hx hb hr rfl (fun t ht hW => ⟨congrArg (fun z => Outcome.returned (some (Value.int z))) hv, ht⟩) (fun _ h9 => nomatch h9) d_Findings_isMissed_23
set_option maxHeartbeats 1000000 in
theorem r_Findings_isMissed {p : Program} {l : Launch} {e : Env} {R : Room} {s : State} {m : MethodId} {args : Array Value} {below : List Frame} {meth : Method} {c : Code} {H : Heap} {locs : List Loc} {cells slots : Nat} {Q : State → Prop} {cc : ByteArray} {nL pc idx : Nat} {ls : Array Slot} {rest : List Value} {own : String} {dC : Nat → ClassId} {dI : Nat → Nat → Nat} {L : Nat → Nat} {cA : Nat → ClassId} {ar : Nat → Nat → Int32} {sc : Nat → Int32} {a0 : Int32} {a1 : Int32} (hF : CallFix p m c cc nL s args w_all own) (hK : kW_I dC dI cA s) (hP : va_P (dC, dI) classes (wI L cA ar sc) H) (h : p_Findings_isMissed ar sc a0 a1) (hlk : Cond.methodLink own idx y_Findings_isMissed ∈ w_all) (hsz : ls.size = nL) (hR : (rmD 1).frames + 1 ≤ R.frames ∧ 8 + (3 + 11) + (rmD 1).locals ≤ R.locals) (hc : cells ≤ R.cells ∧ slots ≤ R.slots) (hrs : (rest.map fun v => v.category).sum ≤ 8) (hdg : decode cc pc = .ok (.invokevirtual idx, 3)) (kk : W p l e R s m args below meth c H locs cells slots Q (F0 m (pc + 3) ls (.int (f_Findings_isMissed ar sc a0 a1) :: rest))) : W p l e R s m args below meth c H locs cells slots Q (F0 m pc ls (.int a1 :: .int a0 :: .ref (L 12) :: rest)) :=
  W.callR (W.runV (As := [.int a0, .int a1]) (rest := rest) hF (c_Findings_isMissed l dC dI L cA ar sc a0 a1 h) (cwV 2 hF.2.2.2.2 (gV hlk m_7 m_8 m_3 m_9) rfl rfl rfl (by decide +kernel) hR) ⟨xb_I, va_recv hK.1 hP (ci := 3) (q0 := 12) rfl rfl, fun U hU hW => ⟨rfl, by rw [hU]; exact hP, kW_I_warm hW hK⟩⟩ rfl rfl hsz rfl (lv_room hrs) hdg hc) kk
theorem d_Findings_riskOn_0 : decode b_Findings_riskOn 0 = .ok (.aload_n 0, 1) := by decide +kernel
theorem d_Findings_riskOn_1 : decode b_Findings_riskOn 1 = .ok (.iload_n 1, 1) := by decide +kernel
theorem d_Findings_riskOn_2 : decode b_Findings_riskOn 2 = .ok (.invokevirtual 28, 3) := by decide +kernel
theorem d_Findings_riskOn_5 : decode b_Findings_riskOn 5 = .ok (.ifCond .ne 5, 3) := by decide +kernel
theorem d_Findings_riskOn_8 : decode b_Findings_riskOn 8 = .ok (.iconst 0, 1) := by decide +kernel
theorem d_Findings_riskOn_9 : decode b_Findings_riskOn 9 = .ok (.ireturn, 1) := by decide +kernel
theorem d_Findings_riskOn_10 : decode b_Findings_riskOn 10 = .ok (.aload_n 0, 1) := by decide +kernel
theorem d_Findings_riskOn_11 : decode b_Findings_riskOn 11 = .ok (.iload_n 1, 1) := by decide +kernel
theorem d_Findings_riskOn_12 : decode b_Findings_riskOn 12 = .ok (.iload_n 2, 1) := by decide +kernel
theorem d_Findings_riskOn_13 : decode b_Findings_riskOn 13 = .ok (.invokevirtual 32, 3) := by decide +kernel
theorem d_Findings_riskOn_16 : decode b_Findings_riskOn 16 = .ok (.ifCond .eq 14, 3) := by decide +kernel
theorem d_Findings_riskOn_19 : decode b_Findings_riskOn 19 = .ok (.iconst 2, 1) := by decide +kernel
theorem d_Findings_riskOn_20 : decode b_Findings_riskOn 20 = .ok (.aload_n 0, 1) := by decide +kernel
theorem d_Findings_riskOn_21 : decode b_Findings_riskOn 21 = .ok (.getfield 15, 3) := by decide +kernel
theorem d_Findings_riskOn_24 : decode b_Findings_riskOn 24 = .ok (.iload_n 1, 1) := by decide +kernel
theorem d_Findings_riskOn_25 : decode b_Findings_riskOn 25 = .ok (.iaload, 1) := by decide +kernel
theorem d_Findings_riskOn_26 : decode b_Findings_riskOn 26 = .ok (.imul, 1) := by decide +kernel
theorem d_Findings_riskOn_27 : decode b_Findings_riskOn 27 = .ok (.goto 9, 3) := by decide +kernel
theorem d_Findings_riskOn_30 : decode b_Findings_riskOn 30 = .ok (.aload_n 0, 1) := by decide +kernel
theorem d_Findings_riskOn_31 : decode b_Findings_riskOn 31 = .ok (.getfield 15, 3) := by decide +kernel
theorem d_Findings_riskOn_34 : decode b_Findings_riskOn 34 = .ok (.iload_n 1, 1) := by decide +kernel
theorem d_Findings_riskOn_35 : decode b_Findings_riskOn 35 = .ok (.iaload, 1) := by decide +kernel
theorem d_Findings_riskOn_36 : decode b_Findings_riskOn 36 = .ok (.ireturn, 1) := by decide +kernel
set_option maxHeartbeats 4000000 in
set_option maxRecDepth 100000 in
theorem c_Findings_riskOn (l : Launch) (dC : Nat → ClassId) (dI : Nat → Nat → Nat) (L : Nat → Nat) (cA : Nat → ClassId) (ar : Nat → Nat → Int32) (sc : Nat → Int32) (a0 : Int32) (a1 : Int32) (h : p_Findings_riskOn ar sc a0 a1) : Met l y_Findings_riskOn z_Findings_riskOn (rmD 2) (va_Pc [.ref (L 12), .int a0, .int a1] (fun U => xw_I dC dI L cA ar sc U)) (QcRead (f_Findings_riskOn ar sc a0 a1)) 0 0 (fun _ => False) := by
  refine Met.ofW (cc := b_Findings_riskOn) (maxL := 3) (ret := (some .int)) (by decide) rfl ?_
  intro p e s m args below meth c s₁ B hml hv
  obtain ⟨rfl, ⟨hP, hK⟩⟩ := hv
  have hx := B.exec
  have hb := B.bytes
  have hr := B.returns
  have hts : ∀ w ∈ w_all, w.before _ s = true := fun w hw => atoms_spec (ws := z_Findings_riskOn) B.pre w (List.mem_cons_of_mem _ hw)
  have hown : s.vm.findClass R_Findings = some m.cls := findClass_of_methodNamed B.named
  have hlocks := B.notSynchronized
  have hF : CallFix p m c b_Findings_riskOn 3 s _ w_all R_Findings := ⟨hx, hb, hml, hown, hts⟩
  have hl := lv_entry ([.ref (L 12), .int a0, .int a1]) (n := 3) (Nat.le_of_ble_eq_true rfl)
  rw [lg_entry_eq]
  generalize (lg_sl ([.ref (L 12), .int a0, .int a1]) ++ List.replicate (3 - (lg_sl ([.ref (L 12), .int a0, .int a1])).length) Slot.unset).toArray = ls at hl ⊢
  have hl : lv_has ls 3 [(0, .ref (L 12)), (1, .int a0), (2, .int a1)] := hl
  unfold p_Findings_riskOn at h
  refine lv_aload_n hx hb d_Findings_riskOn_0 rfl (lv_at hl 0 rfl) ?_
  refine lv_iload_n hx hb d_Findings_riskOn_1 rfl (lv_at hl 1 rfl) ?_
  have k2 := h.1
  have h := h.2
  refine r_Findings_isOpen hF hK hP k2 m_5 hl.1 ⟨Nat.le_of_ble_eq_true rfl, Nat.le_of_ble_eq_true rfl⟩ ⟨Nat.zero_le _, Nat.zero_le _⟩ (Nat.le_of_ble_eq_true rfl) d_Findings_riskOn_2 ?_
  refine lv_if_ne (tgt := 10) hx hb d_Findings_riskOn_5 (by decide) (fun c5 => ?_) (fun c5 => ?_)
  · have h := h.2 c5
    refine lv_aload_n hx hb d_Findings_riskOn_10 rfl (lv_at hl 0 rfl) ?_
    refine lv_iload_n hx hb d_Findings_riskOn_11 rfl (lv_at hl 1 rfl) ?_
    refine lv_iload_n hx hb d_Findings_riskOn_12 rfl (lv_at hl 2 rfl) ?_
    have k13 := h.1
    have h := h.2
    refine r_Findings_isMissed hF hK hP k13 m_10 hl.1 ⟨Nat.le_of_ble_eq_true rfl, Nat.le_of_ble_eq_true rfl⟩ ⟨Nat.zero_le _, Nat.zero_le _⟩ (Nat.le_of_ble_eq_true rfl) d_Findings_riskOn_13 ?_
    refine lv_if_eq (tgt := 30) hx hb d_Findings_riskOn_16 (by decide) (fun c16 => ?_) (fun c16 => ?_)
    · have h := h.1 c16
      refine lv_aload_n hx hb d_Findings_riskOn_30 rfl (lv_at hl 0 rfl) ?_
      refine gf_Findings_weights hF hK hP m_11 d_Findings_riskOn_31 ?_
      refine lv_iload_n hx hb d_Findings_riskOn_34 rfl (lv_at hl 1 rfl) ?_
      have k35 := h
      refine alI_14 hF hK hP k35 d_Findings_riskOn_35 ?_
      have hv : (ar 14 a0.toNatClampNeg : Int32) = f_Findings_riskOn ar sc a0 a1 := by rw [f_Findings_riskOn, if_neg c5, if_pos c16]
      exact W.iret (v := ar 14 a0.toNatClampNeg) hx hb hr (fun t ht hW => ⟨congrArg (fun z => Outcome.returned (some (Value.int z))) hv, ht⟩) (fun _ h9 => nomatch h9) d_Findings_riskOn_36
    · have h := h.2 c16
      refine lv_iconst (v := 2) hx hb d_Findings_riskOn_19 (by decide) ?_
      refine lv_aload_n hx hb d_Findings_riskOn_20 rfl (lv_at hl 0 rfl) ?_
      refine gf_Findings_weights hF hK hP m_11 d_Findings_riskOn_21 ?_
      refine lv_iload_n hx hb d_Findings_riskOn_24 rfl (lv_at hl 1 rfl) ?_
      have k25 := h
      refine alI_14 hF hK hP k25 d_Findings_riskOn_25 ?_
      refine lv_imul hx hb d_Findings_riskOn_26 ?_
      refine lv_goto (tgt := 36) hx hb d_Findings_riskOn_27 (by decide) ?_
      have hv : (2 * (ar 14 a0.toNatClampNeg) : Int32) = f_Findings_riskOn ar sc a0 a1 := by rw [f_Findings_riskOn, if_neg c5, if_neg c16]
      exact W.iret (v := 2 * (ar 14 a0.toNatClampNeg)) hx hb hr (fun t ht hW => ⟨congrArg (fun z => Outcome.returned (some (Value.int z))) hv, ht⟩) (fun _ h9 => nomatch h9) d_Findings_riskOn_36
  · have h := h.1 c5
    refine lv_iconst (v := 0) hx hb d_Findings_riskOn_8 (by decide) ?_
    have hv : (0 : Int32) = f_Findings_riskOn ar sc a0 a1 := by rw [f_Findings_riskOn, if_pos c5]
    exact W.iret (v := 0) hx hb hr (fun t ht hW => ⟨congrArg (fun z => Outcome.returned (some (Value.int z))) hv, ht⟩) (fun _ h9 => nomatch h9) d_Findings_riskOn_9
set_option maxHeartbeats 1000000 in
theorem r_Findings_riskOn {p : Program} {l : Launch} {e : Env} {R : Room} {s : State} {m : MethodId} {args : Array Value} {below : List Frame} {meth : Method} {c : Code} {H : Heap} {locs : List Loc} {cells slots : Nat} {Q : State → Prop} {cc : ByteArray} {nL pc idx : Nat} {ls : Array Slot} {rest : List Value} {own : String} {dC : Nat → ClassId} {dI : Nat → Nat → Nat} {L : Nat → Nat} {cA : Nat → ClassId} {ar : Nat → Nat → Int32} {sc : Nat → Int32} {a0 : Int32} {a1 : Int32} (hF : CallFix p m c cc nL s args w_all own) (hK : kW_I dC dI cA s) (hP : va_P (dC, dI) classes (wI L cA ar sc) H) (h : p_Findings_riskOn ar sc a0 a1) (hlk : Cond.methodLink own idx y_Findings_riskOn ∈ w_all) (hsz : ls.size = nL) (hR : (rmD 2).frames + 1 ≤ R.frames ∧ 8 + (3 + 11) + (rmD 2).locals ≤ R.locals) (hc : cells ≤ R.cells ∧ slots ≤ R.slots) (hrs : (rest.map fun v => v.category).sum ≤ 8) (hdg : decode cc pc = .ok (.invokevirtual idx, 3)) (kk : W p l e R s m args below meth c H locs cells slots Q (F0 m (pc + 3) ls (.int (f_Findings_riskOn ar sc a0 a1) :: rest))) : W p l e R s m args below meth c H locs cells slots Q (F0 m pc ls (.int a1 :: .int a0 :: .ref (L 12) :: rest)) :=
  W.callR (W.runV (As := [.int a0, .int a1]) (rest := rest) hF (c_Findings_riskOn l dC dI L cA ar sc a0 a1 h) (cwV 2 hF.2.2.2.2 (gV hlk m_12 m_13 m_3 m_14) rfl rfl rfl (by decide +kernel) hR) ⟨xb_I, va_recv hK.1 hP (ci := 3) (q0 := 12) rfl rfl, fun U hU hW => ⟨rfl, by rw [hU]; exact hP, kW_I_warm hW hK⟩⟩ rfl rfl hsz rfl (lv_room hrs) hdg hc) kk
theorem d_Findings_countOpen_0 : decode b_Findings_countOpen 0 = .ok (.iconst 0, 1) := by decide +kernel
theorem d_Findings_countOpen_1 : decode b_Findings_countOpen 1 = .ok (.istore_n 2, 1) := by decide +kernel
theorem d_Findings_countOpen_2 : decode b_Findings_countOpen 2 = .ok (.iconst 0, 1) := by decide +kernel
theorem d_Findings_countOpen_3 : decode b_Findings_countOpen 3 = .ok (.istore_n 3, 1) := by decide +kernel
theorem d_Findings_countOpen_4 : decode b_Findings_countOpen 4 = .ok (.iload_n 3, 1) := by decide +kernel
theorem d_Findings_countOpen_5 : decode b_Findings_countOpen 5 = .ok (.aload_n 0, 1) := by decide +kernel
theorem d_Findings_countOpen_6 : decode b_Findings_countOpen 6 = .ok (.getfield 24, 3) := by decide +kernel
theorem d_Findings_countOpen_9 : decode b_Findings_countOpen 9 = .ok (.if_icmp .ge 30, 3) := by decide +kernel
theorem d_Findings_countOpen_12 : decode b_Findings_countOpen 12 = .ok (.aload_n 0, 1) := by decide +kernel
theorem d_Findings_countOpen_13 : decode b_Findings_countOpen 13 = .ok (.getfield 9, 3) := by decide +kernel
theorem d_Findings_countOpen_16 : decode b_Findings_countOpen 16 = .ok (.iload_n 3, 1) := by decide +kernel
theorem d_Findings_countOpen_17 : decode b_Findings_countOpen 17 = .ok (.iaload, 1) := by decide +kernel
theorem d_Findings_countOpen_18 : decode b_Findings_countOpen 18 = .ok (.iload_n 1, 1) := by decide +kernel
theorem d_Findings_countOpen_19 : decode b_Findings_countOpen 19 = .ok (.if_icmp .ne 14, 3) := by decide +kernel
theorem d_Findings_countOpen_22 : decode b_Findings_countOpen 22 = .ok (.aload_n 0, 1) := by decide +kernel
theorem d_Findings_countOpen_23 : decode b_Findings_countOpen 23 = .ok (.iload_n 3, 1) := by decide +kernel
theorem d_Findings_countOpen_24 : decode b_Findings_countOpen 24 = .ok (.invokevirtual 28, 3) := by decide +kernel
theorem d_Findings_countOpen_27 : decode b_Findings_countOpen 27 = .ok (.ifCond .eq 6, 3) := by decide +kernel
theorem d_Findings_countOpen_30 : decode b_Findings_countOpen 30 = .ok (.iinc 2 1, 3) := by decide +kernel
theorem d_Findings_countOpen_33 : decode b_Findings_countOpen 33 = .ok (.iinc 3 1, 3) := by decide +kernel
theorem d_Findings_countOpen_36 : decode b_Findings_countOpen 36 = .ok (.goto (-32), 3) := by decide +kernel
theorem d_Findings_countOpen_39 : decode b_Findings_countOpen 39 = .ok (.iload_n 2, 1) := by decide +kernel
theorem d_Findings_countOpen_40 : decode b_Findings_countOpen 40 = .ok (.ireturn, 1) := by decide +kernel
set_option maxHeartbeats 4000000 in
set_option maxRecDepth 100000 in
theorem l_Findings_countOpen_4 {p : Program} {l : Launch} {e : Env} {s : State} {m : MethodId} {args : Array Value} {below : List Frame} {meth : Method} {c : Code} {dC : Nat → ClassId} {dI : Nat → Nat → Nat} {L : Nat → Nat} {cA : Nat → ClassId} {ar : Nat → Nat → Int32} {sc : Nat → Int32} {Q : State → Prop} {H : Heap} {locs : List Loc} (a0 : Int32)  (hF : CallFix p m c b_Findings_countOpen 4 s args w_all R_Findings) (hK : kW_I dC dI cA s) (hP : va_P (dC, dI) classes (wI L cA ar sc) H) : ∀ (n : Nat) (v2 : Int32) (v3 : Int32), q_Findings_countOpen_4 ar sc a0 n v2 v3 → ∀ (ls : Array Slot), lv_has ls 4 [(2, .int v2), (3, .int v3), (0, .ref (L 12)), (1, .int a0)] → (∀ (ls : Array Slot), lv_has ls 4 [(2, .int ((g_Findings_countOpen_4 ar sc a0 n v2 v3).1)), (3, .int ((g_Findings_countOpen_4 ar sc a0 n v2 v3).2)), (0, .ref (L 12)), (1, .int a0)] → W p l e (rmD 1) s m args below meth c H locs 0 0 Q (F0 m 39 ls [])) → W p l e (rmD 1) s m args below meth c H locs 0 0 Q (F0 m 4 ls []) := by
  have hx := hF.1
  have hb := hF.2.1
  have hown := hF.2.2.2.1
  have hts := hF.2.2.2.2
  intro n
  induction n with
  | zero => intro v2 v3 h; exact False.elim h
  | succ n ih =>
    intro v2 v3 h ls hl hk
    rw [q_Findings_countOpen_4] at h
    refine lv_iload_n hx hb d_Findings_countOpen_4 rfl (lv_at hl 1 rfl) ?_
    refine lv_aload_n hx hb d_Findings_countOpen_5 rfl (lv_at hl 2 rfl) ?_
    refine gf_Findings_count hF hK hP m_15 d_Findings_countOpen_6 ?_
    refine lv_icmp_ge (tgt := 39) hx hb d_Findings_countOpen_9 (by decide) (fun c9 => ?_) (fun c9 => ?_)
    · have h := h.1 c9
      have hv : g_Findings_countOpen_4 ar sc a0 (n + 1) v2 v3 = ((v2, v3) : Int32 × Int32) := by rw [g_Findings_countOpen_4, if_pos c9]
      rw [hv] at hk
      exact hk ls (lv_sub hl [0, 1, 2, 3] rfl)
    · have h := h.2 c9
      refine lv_aload_n hx hb d_Findings_countOpen_12 rfl (lv_at hl 2 rfl) ?_
      refine gf_Findings_points hF hK hP m_16 d_Findings_countOpen_13 ?_
      refine lv_iload_n hx hb d_Findings_countOpen_16 rfl (lv_at hl 1 rfl) ?_
      have k17 := h.1
      have h := h.2
      refine alI_13 hF hK hP k17 d_Findings_countOpen_17 ?_
      refine lv_iload_n hx hb d_Findings_countOpen_18 rfl (lv_at hl 3 rfl) ?_
      refine lv_icmp_ne (tgt := 33) hx hb d_Findings_countOpen_19 (by decide) (fun c19 => ?_) (fun c19 => ?_)
      · have h := h.2 c19
        refine lv_iinc (v := v3 + 1) (lv' := [(3, .int (v3 + 1)), (2, .int v2), (0, .ref (L 12)), (1, .int a0)]) hx hb d_Findings_countOpen_33 hl (k := 1) rfl rfl (by decide) rfl (fun ls hl => ?_)
        refine lv_goto (tgt := 4) hx hb d_Findings_countOpen_36 (by decide) ?_
        have hv : g_Findings_countOpen_4 ar sc a0 (n + 1) v2 v3 = g_Findings_countOpen_4 ar sc a0 n v2 (v3 + 1) := by rw [g_Findings_countOpen_4, if_neg c9, if_neg c19]
        rw [hv] at hk
        exact ih v2 (v3 + 1) h ls (lv_sub hl [1, 0, 2, 3] rfl) hk
      · have h := h.1 c19
        refine lv_aload_n hx hb d_Findings_countOpen_22 rfl (lv_at hl 2 rfl) ?_
        refine lv_iload_n hx hb d_Findings_countOpen_23 rfl (lv_at hl 1 rfl) ?_
        have k24 := h.1
        have h := h.2
        refine r_Findings_isOpen hF hK hP k24 m_5 hl.1 ⟨Nat.le_of_ble_eq_true rfl, Nat.le_of_ble_eq_true rfl⟩ ⟨Nat.zero_le _, Nat.zero_le _⟩ (Nat.le_of_ble_eq_true rfl) d_Findings_countOpen_24 ?_
        refine lv_if_eq (tgt := 33) hx hb d_Findings_countOpen_27 (by decide) (fun c27 => ?_) (fun c27 => ?_)
        · have h := h.1 c27
          refine lv_iinc (v := v3 + 1) (lv' := [(3, .int (v3 + 1)), (2, .int v2), (0, .ref (L 12)), (1, .int a0)]) hx hb d_Findings_countOpen_33 hl (k := 1) rfl rfl (by decide) rfl (fun ls hl => ?_)
          refine lv_goto (tgt := 4) hx hb d_Findings_countOpen_36 (by decide) ?_
          have hv : g_Findings_countOpen_4 ar sc a0 (n + 1) v2 v3 = g_Findings_countOpen_4 ar sc a0 n v2 (v3 + 1) := by rw [g_Findings_countOpen_4, if_neg c9, if_pos c19, if_pos c27]
          rw [hv] at hk
          exact ih v2 (v3 + 1) h ls (lv_sub hl [1, 0, 2, 3] rfl) hk
        · have h := h.2 c27
          refine lv_iinc (v := v2 + 1) (lv' := [(2, .int (v2 + 1)), (3, .int v3), (0, .ref (L 12)), (1, .int a0)]) hx hb d_Findings_countOpen_30 hl (k := 0) rfl rfl (by decide) rfl (fun ls hl => ?_)
          refine lv_iinc (v := v3 + 1) (lv' := [(3, .int (v3 + 1)), (2, .int (v2 + 1)), (0, .ref (L 12)), (1, .int a0)]) hx hb d_Findings_countOpen_33 hl (k := 1) rfl rfl (by decide) rfl (fun ls hl => ?_)
          refine lv_goto (tgt := 4) hx hb d_Findings_countOpen_36 (by decide) ?_
          have hv : g_Findings_countOpen_4 ar sc a0 (n + 1) v2 v3 = g_Findings_countOpen_4 ar sc a0 n (v2 + 1) (v3 + 1) := by rw [g_Findings_countOpen_4, if_neg c9, if_pos c19, if_neg c27]
          rw [hv] at hk
          exact ih (v2 + 1) (v3 + 1) h ls (lv_sub hl [1, 0, 2, 3] rfl) hk
set_option maxHeartbeats 4000000 in
set_option maxRecDepth 100000 in
theorem c_Findings_countOpen (l : Launch) (dC : Nat → ClassId) (dI : Nat → Nat → Nat) (L : Nat → Nat) (cA : Nat → ClassId) (ar : Nat → Nat → Int32) (sc : Nat → Int32) (a0 : Int32) (h : p_Findings_countOpen ar sc a0) : Met l y_Findings_countOpen z_Findings_countOpen (rmD 1) (va_Pc [.ref (L 12), .int a0] (fun U => xw_I dC dI L cA ar sc U)) (QcRead (f_Findings_countOpen ar sc a0)) 0 0 (fun _ => False) := by
  refine Met.ofW (cc := b_Findings_countOpen) (maxL := 4) (ret := (some .int)) (by decide) rfl ?_
  intro p e s m args below meth c s₁ B hml hv
  obtain ⟨rfl, ⟨hP, hK⟩⟩ := hv
  have hx := B.exec
  have hb := B.bytes
  have hr := B.returns
  have hts : ∀ w ∈ w_all, w.before _ s = true := fun w hw => atoms_spec (ws := z_Findings_countOpen) B.pre w (List.mem_cons_of_mem _ hw)
  have hown : s.vm.findClass R_Findings = some m.cls := findClass_of_methodNamed B.named
  have hlocks := B.notSynchronized
  have hF : CallFix p m c b_Findings_countOpen 4 s _ w_all R_Findings := ⟨hx, hb, hml, hown, hts⟩
  have hl := lv_entry ([.ref (L 12), .int a0]) (n := 4) (Nat.le_of_ble_eq_true rfl)
  rw [lg_entry_eq]
  generalize (lg_sl ([.ref (L 12), .int a0]) ++ List.replicate (4 - (lg_sl ([.ref (L 12), .int a0])).length) Slot.unset).toArray = ls at hl ⊢
  have hl : lv_has ls 4 [(0, .ref (L 12)), (1, .int a0)] := hl
  unfold p_Findings_countOpen at h
  refine lv_iconst (v := 0) hx hb d_Findings_countOpen_0 (by decide) ?_
  refine lv_istore_n (lv' := [(2, .int 0), (0, .ref (L 12)), (1, .int a0)]) hx hb d_Findings_countOpen_1 rfl hl (by decide) rfl (fun ls hl => ?_)
  refine lv_iconst (v := 0) hx hb d_Findings_countOpen_2 (by decide) ?_
  refine lv_istore_n (lv' := [(3, .int 0), (2, .int 0), (0, .ref (L 12)), (1, .int a0)]) hx hb d_Findings_countOpen_3 rfl hl (by decide) rfl (fun ls hl => ?_)
  have kL4 := h
  refine l_Findings_countOpen_4 a0 hF hK hP 200 0 0 kL4 ls (lv_sub hl [1, 0, 2, 3] rfl) (fun ls hl => ?_)
  refine lv_iload_n hx hb d_Findings_countOpen_39 rfl (lv_at hl 0 rfl) ?_
  have hv : ((g_Findings_countOpen_4 ar sc a0 200 0 0).1 : Int32) = f_Findings_countOpen ar sc a0 := by rw [f_Findings_countOpen]
  exact W.iret (v := (g_Findings_countOpen_4 ar sc a0 200 0 0).1) hx hb hr (fun t ht hW => ⟨congrArg (fun z => Outcome.returned (some (Value.int z))) hv, ht⟩) (fun _ h9 => nomatch h9) d_Findings_countOpen_40
set_option maxHeartbeats 1000000 in
theorem r_Findings_countOpen {p : Program} {l : Launch} {e : Env} {R : Room} {s : State} {m : MethodId} {args : Array Value} {below : List Frame} {meth : Method} {c : Code} {H : Heap} {locs : List Loc} {cells slots : Nat} {Q : State → Prop} {cc : ByteArray} {nL pc idx : Nat} {ls : Array Slot} {rest : List Value} {own : String} {dC : Nat → ClassId} {dI : Nat → Nat → Nat} {L : Nat → Nat} {cA : Nat → ClassId} {ar : Nat → Nat → Int32} {sc : Nat → Int32} {a0 : Int32} (hF : CallFix p m c cc nL s args w_all own) (hK : kW_I dC dI cA s) (hP : va_P (dC, dI) classes (wI L cA ar sc) H) (h : p_Findings_countOpen ar sc a0) (hlk : Cond.methodLink own idx y_Findings_countOpen ∈ w_all) (hsz : ls.size = nL) (hR : (rmD 1).frames + 1 ≤ R.frames ∧ 8 + (4 + 11) + (rmD 1).locals ≤ R.locals) (hc : cells ≤ R.cells ∧ slots ≤ R.slots) (hrs : (rest.map fun v => v.category).sum ≤ 8) (hdg : decode cc pc = .ok (.invokevirtual idx, 3)) (kk : W p l e R s m args below meth c H locs cells slots Q (F0 m (pc + 3) ls (.int (f_Findings_countOpen ar sc a0) :: rest))) : W p l e R s m args below meth c H locs cells slots Q (F0 m pc ls (.int a0 :: .ref (L 12) :: rest)) :=
  W.callR (W.runV (As := [.int a0]) (rest := rest) hF (c_Findings_countOpen l dC dI L cA ar sc a0 h) (cwV 1 hF.2.2.2.2 (gV hlk m_17 m_18 m_3 m_19) rfl rfl rfl (by decide +kernel) hR) ⟨xb_I, va_recv hK.1 hP (ci := 3) (q0 := 12) rfl rfl, fun U hU hW => ⟨rfl, by rw [hU]; exact hP, kW_I_warm hW hK⟩⟩ rfl rfl hsz rfl (lv_room hrs) hdg hc) kk
theorem d_Findings_add_0 : decode b_Findings_add 0 = .ok (.aload_n 0, 1) := by decide +kernel
theorem d_Findings_add_1 : decode b_Findings_add 1 = .ok (.getfield 24, 3) := by decide +kernel
theorem d_Findings_add_4 : decode b_Findings_add 4 = .ok (.istore 4, 2) := by decide +kernel
theorem d_Findings_add_6 : decode b_Findings_add 6 = .ok (.aload_n 0, 1) := by decide +kernel
theorem d_Findings_add_7 : decode b_Findings_add 7 = .ok (.getfield 9, 3) := by decide +kernel
theorem d_Findings_add_10 : decode b_Findings_add 10 = .ok (.iload 4, 2) := by decide +kernel
theorem d_Findings_add_12 : decode b_Findings_add 12 = .ok (.iload_n 1, 1) := by decide +kernel
theorem d_Findings_add_13 : decode b_Findings_add 13 = .ok (.iastore, 1) := by decide +kernel
theorem d_Findings_add_14 : decode b_Findings_add 14 = .ok (.aload_n 0, 1) := by decide +kernel
theorem d_Findings_add_15 : decode b_Findings_add 15 = .ok (.getfield 15, 3) := by decide +kernel
theorem d_Findings_add_18 : decode b_Findings_add 18 = .ok (.iload 4, 2) := by decide +kernel
theorem d_Findings_add_20 : decode b_Findings_add 20 = .ok (.iload_n 2, 1) := by decide +kernel
theorem d_Findings_add_21 : decode b_Findings_add 21 = .ok (.iastore, 1) := by decide +kernel
theorem d_Findings_add_22 : decode b_Findings_add 22 = .ok (.aload_n 0, 1) := by decide +kernel
theorem d_Findings_add_23 : decode b_Findings_add 23 = .ok (.getfield 18, 3) := by decide +kernel
theorem d_Findings_add_26 : decode b_Findings_add 26 = .ok (.iload 4, 2) := by decide +kernel
theorem d_Findings_add_28 : decode b_Findings_add 28 = .ok (.iload_n 3, 1) := by decide +kernel
theorem d_Findings_add_29 : decode b_Findings_add 29 = .ok (.iastore, 1) := by decide +kernel
theorem d_Findings_add_30 : decode b_Findings_add 30 = .ok (.aload_n 0, 1) := by decide +kernel
theorem d_Findings_add_31 : decode b_Findings_add 31 = .ok (.getfield 21, 3) := by decide +kernel
theorem d_Findings_add_34 : decode b_Findings_add 34 = .ok (.iload 4, 2) := by decide +kernel
theorem d_Findings_add_36 : decode b_Findings_add 36 = .ok (.iconst 0, 1) := by decide +kernel
theorem d_Findings_add_37 : decode b_Findings_add 37 = .ok (.iastore, 1) := by decide +kernel
theorem d_Findings_add_38 : decode b_Findings_add 38 = .ok (.aload_n 0, 1) := by decide +kernel
theorem d_Findings_add_39 : decode b_Findings_add 39 = .ok (.dup, 1) := by decide +kernel
theorem d_Findings_add_40 : decode b_Findings_add 40 = .ok (.getfield 24, 3) := by decide +kernel
theorem d_Findings_add_43 : decode b_Findings_add 43 = .ok (.iconst 1, 1) := by decide +kernel
theorem d_Findings_add_44 : decode b_Findings_add 44 = .ok (.iadd, 1) := by decide +kernel
theorem d_Findings_add_45 : decode b_Findings_add 45 = .ok (.putfield 24, 3) := by decide +kernel
theorem d_Findings_add_48 : decode b_Findings_add 48 = .ok (.iload 4, 2) := by decide +kernel
theorem d_Findings_add_50 : decode b_Findings_add 50 = .ok (.ireturn, 1) := by decide +kernel
set_option maxHeartbeats 4000000 in
set_option maxRecDepth 100000 in
theorem c_Findings_add (l : Launch) (dC : Nat → ClassId) (dI : Nat → Nat → Nat) (L : Nat → Nat) (cA : Nat → ClassId) (ar : Nat → Nat → Int32) (sc : Nat → Int32) (a0 : Int32) (a1 : Int32) (a2 : Int32) (hL : ij 38 L) (h : p_Findings_add ar sc a0 a1 a2) : Met l y_Findings_add z_Findings_add (rmD 0) (va_Pc [.ref (L 12), .int a0, .int a1, .int a2] (fun U => xw_I dC dI L cA ar sc U)) (va_Qi (fun (r : Int32) (u : oS) => (r, u.1, u.2) = f_Findings_add ar sc a0 a1 a2) (fun u t => va_P (dC, dI) classes (wI L cA u.1 u.2) t.heap) (aI L)) 0 0 (aI L) := by
  refine Met.ofW (cc := b_Findings_add) (maxL := 5) (ret := (some .int)) (by decide) rfl ?_
  intro p e s m args below meth c s₁ B hml hv
  obtain ⟨rfl, ⟨hP, hK⟩⟩ := hv
  have hx := B.exec
  have hb := B.bytes
  have hr := B.returns
  have hts : ∀ w ∈ w_all, w.before _ s = true := fun w hw => atoms_spec (ws := z_Findings_add) B.pre w (List.mem_cons_of_mem _ hw)
  have hown : s.vm.findClass R_Findings = some m.cls := findClass_of_methodNamed B.named
  have hlocks := B.notSynchronized
  have hF : CallFix p m c b_Findings_add 5 s _ w_all R_Findings := ⟨hx, hb, hml, hown, hts⟩
  have hS : va_S (aI L) s.heap s.heap [] := va_S.rf
  have hl := lv_entry ([.ref (L 12), .int a0, .int a1, .int a2]) (n := 5) (Nat.le_of_ble_eq_true rfl)
  rw [lg_entry_eq]
  generalize (lg_sl ([.ref (L 12), .int a0, .int a1, .int a2]) ++ List.replicate (5 - (lg_sl ([.ref (L 12), .int a0, .int a1, .int a2])).length) Slot.unset).toArray = ls at hl ⊢
  have hl : lv_has ls 5 [(0, .ref (L 12)), (1, .int a0), (2, .int a1), (3, .int a2)] := hl
  unfold p_Findings_add at h
  refine lv_aload_n hx hb d_Findings_add_0 rfl (lv_at hl 0 rfl) ?_
  refine gf_Findings_count hF hK hP m_15 d_Findings_add_1 ?_
  refine lv_istore (lv' := [(4, .int (sc 2)), (0, .ref (L 12)), (1, .int a0), (2, .int a1), (3, .int a2)]) hx hb d_Findings_add_4 hl (by decide) rfl (fun ls hl => ?_)
  refine lv_aload_n hx hb d_Findings_add_6 rfl (lv_at hl 1 rfl) ?_
  refine gf_Findings_points hF hK hP m_16 d_Findings_add_7 ?_
  refine lv_iload hx hb d_Findings_add_10 (lv_at hl 0 rfl) ?_
  refine lv_iload_n hx hb d_Findings_add_12 rfl (lv_at hl 2 rfl) ?_
  have k13 := h.1
  have h := h.2
  refine asI_13 hF hK hP hL hS k13 d_Findings_add_13 (fun H locs hP hS => ?_)
  refine lv_aload_n hx hb d_Findings_add_14 rfl (lv_at hl 1 rfl) ?_
  refine gf_Findings_weights hF hK hP m_11 d_Findings_add_15 ?_
  refine lv_iload hx hb d_Findings_add_18 (lv_at hl 0 rfl) ?_
  refine lv_iload_n hx hb d_Findings_add_20 rfl (lv_at hl 3 rfl) ?_
  have k21 := h.1
  have h := h.2
  refine asI_14 hF hK hP hL hS k21 d_Findings_add_21 (fun H locs hP hS => ?_)
  refine lv_aload_n hx hb d_Findings_add_22 rfl (lv_at hl 1 rfl) ?_
  refine gf_Findings_days hF hK hP m_6 d_Findings_add_23 ?_
  refine lv_iload hx hb d_Findings_add_26 (lv_at hl 0 rfl) ?_
  refine lv_iload_n hx hb d_Findings_add_28 rfl (lv_at hl 4 rfl) ?_
  have k29 := h.1
  have h := h.2
  refine asI_15 hF hK hP hL hS k29 d_Findings_add_29 (fun H locs hP hS => ?_)
  refine lv_aload_n hx hb d_Findings_add_30 rfl (lv_at hl 1 rfl) ?_
  refine gf_Findings_proofs hF hK hP m_0 d_Findings_add_31 ?_
  refine lv_iload hx hb d_Findings_add_34 (lv_at hl 0 rfl) ?_
  refine lv_iconst (v := 0) hx hb d_Findings_add_36 (by decide) ?_
  have k37 := h
  refine asI_16 hF hK hP hL hS k37 d_Findings_add_37 (fun H locs hP hS => ?_)
  refine lv_aload_n hx hb d_Findings_add_38 rfl (lv_at hl 1 rfl) ?_
  refine lv_dup hx hb d_Findings_add_39 rfl ?_
  refine gf_Findings_count hF hK hP m_15 d_Findings_add_40 ?_
  refine lv_iconst (v := 1) hx hb d_Findings_add_43 (by decide) ?_
  refine lv_iadd hx hb d_Findings_add_44 ?_
  refine pf_Findings_count hF hK hP hL hS m_15 d_Findings_add_45 (fun H locs hP hS => ?_)
  refine lv_iload hx hb d_Findings_add_48 (lv_at hl 0 rfl) ?_
  have hv : ((sc 2, s2 (s2 (s2 (s2 ar 13 ((sc 2).toNatClampNeg) a0) 14 ((sc 2).toNatClampNeg) a1) 15 ((sc 2).toNatClampNeg) a2) 16 ((sc 2).toNatClampNeg) 0, sg sc 2 ((sc 2) + 1)) : Int32 × (Nat → Nat → Int32) × (Nat → Int32)) = f_Findings_add ar sc a0 a1 a2 := by rw [f_Findings_add]
  exact W.iret (v := sc 2) hx hb hr (fun t ht hW => ⟨⟨sc 2, (s2 (s2 (s2 (s2 ar 13 ((sc 2).toNatClampNeg) a0) 14 ((sc 2).toNatClampNeg) a1) 15 ((sc 2).toNatClampNeg) a2) 16 ((sc 2).toNatClampNeg) 0, sg sc 2 ((sc 2) + 1)), rfl, hv, by dsimp only; rw [ht]; exact hP⟩, hS.F ht⟩) hS.2.2 d_Findings_add_50
set_option maxHeartbeats 1000000 in
theorem r_Findings_add {p : Program} {l : Launch} {e : Env} {R : Room} {s : State} {m : MethodId} {args : Array Value} {below : List Frame} {meth : Method} {c : Code} {H : Heap} {locs : List Loc} {cells slots : Nat} {Q : State → Prop} {cc : ByteArray} {nL pc idx : Nat} {ls : Array Slot} {rest : List Value} {own : String} {dC : Nat → ClassId} {dI : Nat → Nat → Nat} {L : Nat → Nat} {cA : Nat → ClassId} {ar : Nat → Nat → Int32} {sc : Nat → Int32} {H0 : Heap} {a0 : Int32} {a1 : Int32} {a2 : Int32} (hF : CallFix p m c cc nL s args w_all own) (hK : kW_I dC dI cA s) (hP : va_P (dC, dI) classes (wI L cA ar sc) H) (hL : ij 38 L) (hS : va_S (aI L) H0 H locs) (h : p_Findings_add ar sc a0 a1 a2) (hlk : Cond.methodLink own idx y_Findings_add ∈ w_all) (hsz : ls.size = nL) (hR : (rmD 0).frames + 1 ≤ R.frames ∧ 8 + (5 + 11) + (rmD 0).locals ≤ R.locals) (hc : cells ≤ R.cells ∧ slots ≤ R.slots) (hrs : (rest.map fun v => v.category).sum ≤ 8) (hdg : decode cc pc = .ok (.invokevirtual idx, 3)) (kk : ∀ (H1 : Heap) (locs1 : List Loc), va_P (dC, dI) classes (wI L cA ((f_Findings_add ar sc a0 a1 a2).2.1) ((f_Findings_add ar sc a0 a1 a2).2.2)) H1 → va_S (aI L) H0 H1 locs1 → W p l e R s m args below meth c H1 locs1 cells slots Q (F0 m (pc + 3) ls (.int (f_Findings_add ar sc a0 a1 a2).1 :: rest))) : W p l e R s m args below meth c H locs cells slots Q (F0 m pc ls (.int a2 :: .int a1 :: .int a0 :: .ref (L 12) :: rest)) :=
  va_calli (va_runV (As := [.int a0, .int a1, .int a2]) (rest := rest) hF (c_Findings_add l dC dI L cA ar sc a0 a1 a2 hL h) (cwV 3 hF.2.2.2.2 (gV hlk m_20 m_21 m_3 m_22) rfl rfl rfl (by decide +kernel) hR) ⟨xb_I, va_recv hK.1 hP (ci := 3) (q0 := 12) rfl rfl, fun U hU hW => ⟨rfl, by rw [hU]; exact hP, kW_I_warm hW hK⟩⟩ rfl rfl hsz rfl (lv_room hrs) hdg hc) hS (fun q _ h9 => h9) (fun q h9 => h9) (fun r u t H1 locs1 ht hvm hw hB hz1 hk1 hS1 => by
    have hk9 := kk H1 locs1 (by rw [← hw, ← ht]; exact hB) hS1
    rw [← hw] at hk9
    exact hk9)
end
section
theorem m_23 : (Cond.fieldLink R_Points 27 "InspectRows$Points" "count" "I") ∈ w_all := List.mem_filter.mpr ⟨List.mem_of_getElem? (i := 96) (by decide +kernel), by decide +kernel⟩
theorem m_24 : (Cond.fieldLink R_Points 9 "InspectRows$Points" "kinds" "[I") ∈ w_all := List.mem_filter.mpr ⟨List.mem_of_getElem? (i := 86) (by decide +kernel), by decide +kernel⟩
theorem m_25 : (Cond.fieldLink R_Points 15 "InspectRows$Points" "ownRisks" "[I") ∈ w_all := List.mem_filter.mpr ⟨List.mem_of_getElem? (i := 88) (by decide +kernel), by decide +kernel⟩
theorem m_26 : (Cond.fieldLink R_Points 18 "InspectRows$Points" "xs" "[I") ∈ w_all := List.mem_filter.mpr ⟨List.mem_of_getElem? (i := 90) (by decide +kernel), by decide +kernel⟩
theorem m_27 : (Cond.fieldLink R_Points 21 "InspectRows$Points" "ys" "[I") ∈ w_all := List.mem_filter.mpr ⟨List.mem_of_getElem? (i := 92) (by decide +kernel), by decide +kernel⟩
theorem m_28 : (Cond.fieldLink R_Points 24 "InspectRows$Points" "visits" "[I") ∈ w_all := List.mem_filter.mpr ⟨List.mem_of_getElem? (i := 94) (by decide +kernel), by decide +kernel⟩
theorem m_29 : (Cond.instanceMethod y_Points_add) ∈ w_all := List.mem_filter.mpr ⟨List.mem_of_getElem? (i := 432) (by decide +kernel), by decide +kernel⟩
theorem m_30 : (Cond.selects R_Points y_Points_add y_Points_add) ∈ w_all := List.mem_filter.mpr ⟨List.mem_of_getElem? (i := 433) (by decide +kernel), by decide +kernel⟩
theorem m_31 : (Cond.initialized R_Points) ∈ w_all := List.mem_filter.mpr ⟨List.mem_of_getElem? (i := 34) (by decide +kernel), by decide +kernel⟩
theorem m_32 : (Cond.code y_Points_add b_Points_add 6 (some .int)) ∈ w_all := List.mem_filter.mpr ⟨List.mem_of_getElem? (i := 434) (by decide +kernel), by decide +kernel⟩
theorem m_33 : (Cond.fieldLink R_Scale 15 "InspectRows$Scale" "steps" "[I") ∈ w_all := List.mem_filter.mpr ⟨List.mem_of_getElem? (i := 64) (by decide +kernel), by decide +kernel⟩
theorem m_34 : (Cond.instanceMethod y_Scale_classFor) ∈ w_all := List.mem_filter.mpr ⟨List.mem_of_getElem? (i := 486) (by decide +kernel), by decide +kernel⟩
theorem m_35 : (Cond.selects R_Scale y_Scale_classFor y_Scale_classFor) ∈ w_all := List.mem_filter.mpr ⟨List.mem_of_getElem? (i := 487) (by decide +kernel), by decide +kernel⟩
theorem m_36 : (Cond.initialized R_Scale) ∈ w_all := List.mem_filter.mpr ⟨List.mem_of_getElem? (i := 33) (by decide +kernel), by decide +kernel⟩
theorem m_37 : (Cond.code y_Scale_classFor b_Scale_classFor 4 (some .int)) ∈ w_all := List.mem_filter.mpr ⟨List.mem_of_getElem? (i := 488) (by decide +kernel), by decide +kernel⟩
theorem m_38 : (Cond.fieldLink R_Questions 9 "InspectRows$Questions" "told" "[Z") ∈ w_all := List.mem_filter.mpr ⟨List.mem_of_getElem? (i := 143) (by decide +kernel), by decide +kernel⟩
theorem m_39 : (Cond.fieldLink R_Questions 15 "InspectRows$Questions" "afterYes" "[I") ∈ w_all := List.mem_filter.mpr ⟨List.mem_of_getElem? (i := 144) (by decide +kernel), by decide +kernel⟩
theorem m_40 : (Cond.fieldLink R_Questions 19 "InspectRows$Questions" "afterNo" "[I") ∈ w_all := List.mem_filter.mpr ⟨List.mem_of_getElem? (i := 145) (by decide +kernel), by decide +kernel⟩
theorem m_41 : (Cond.fieldLink R_Questions 22 "InspectRows$Questions" "weights" "[I") ∈ w_all := List.mem_filter.mpr ⟨List.mem_of_getElem? (i := 146) (by decide +kernel), by decide +kernel⟩
theorem m_42 : (Cond.instanceMethod y_Questions_tell) ∈ w_all := List.mem_filter.mpr ⟨List.mem_of_getElem? (i := 574) (by decide +kernel), by decide +kernel⟩
theorem m_43 : (Cond.selects R_Questions y_Questions_tell y_Questions_tell) ∈ w_all := List.mem_filter.mpr ⟨List.mem_of_getElem? (i := 575) (by decide +kernel), by decide +kernel⟩
theorem m_44 : (Cond.initialized R_Questions) ∈ w_all := List.mem_filter.mpr ⟨List.mem_of_getElem? (i := 36) (by decide +kernel), by decide +kernel⟩
theorem m_45 : (Cond.code y_Questions_tell b_Questions_tell 5 none) ∈ w_all := List.mem_filter.mpr ⟨List.mem_of_getElem? (i := 576) (by decide +kernel), by decide +kernel⟩
theorem m_46 : (Cond.fieldLink R_Questions 25 "InspectRows$Questions" "found" "[I") ∈ w_all := List.mem_filter.mpr ⟨List.mem_of_getElem? (i := 147) (by decide +kernel), by decide +kernel⟩
theorem m_47 : (Cond.fieldLink R_Questions 28 "InspectRows$Questions" "foundCount" "I") ∈ w_all := List.mem_filter.mpr ⟨List.mem_of_getElem? (i := 149) (by decide +kernel), by decide +kernel⟩
theorem m_48 : (Cond.instanceMethod y_Questions_answer) ∈ w_all := List.mem_filter.mpr ⟨List.mem_of_getElem? (i := 585) (by decide +kernel), by decide +kernel⟩
theorem m_49 : (Cond.selects R_Questions y_Questions_answer y_Questions_answer) ∈ w_all := List.mem_filter.mpr ⟨List.mem_of_getElem? (i := 586) (by decide +kernel), by decide +kernel⟩
theorem m_50 : (Cond.code y_Questions_answer b_Questions_answer 6 (some .boolean)) ∈ w_all := List.mem_filter.mpr ⟨List.mem_of_getElem? (i := 587) (by decide +kernel), by decide +kernel⟩
theorem d_Points_add_0 : decode b_Points_add 0 = .ok (.aload_n 0, 1) := by decide +kernel
theorem d_Points_add_1 : decode b_Points_add 1 = .ok (.getfield 27, 3) := by decide +kernel
theorem d_Points_add_4 : decode b_Points_add 4 = .ok (.istore 5, 2) := by decide +kernel
theorem d_Points_add_6 : decode b_Points_add 6 = .ok (.aload_n 0, 1) := by decide +kernel
theorem d_Points_add_7 : decode b_Points_add 7 = .ok (.getfield 9, 3) := by decide +kernel
theorem d_Points_add_10 : decode b_Points_add 10 = .ok (.iload 5, 2) := by decide +kernel
theorem d_Points_add_12 : decode b_Points_add 12 = .ok (.iload_n 1, 1) := by decide +kernel
theorem d_Points_add_13 : decode b_Points_add 13 = .ok (.iastore, 1) := by decide +kernel
theorem d_Points_add_14 : decode b_Points_add 14 = .ok (.aload_n 0, 1) := by decide +kernel
theorem d_Points_add_15 : decode b_Points_add 15 = .ok (.getfield 15, 3) := by decide +kernel
theorem d_Points_add_18 : decode b_Points_add 18 = .ok (.iload 5, 2) := by decide +kernel
theorem d_Points_add_20 : decode b_Points_add 20 = .ok (.iload_n 2, 1) := by decide +kernel
theorem d_Points_add_21 : decode b_Points_add 21 = .ok (.iastore, 1) := by decide +kernel
theorem d_Points_add_22 : decode b_Points_add 22 = .ok (.aload_n 0, 1) := by decide +kernel
theorem d_Points_add_23 : decode b_Points_add 23 = .ok (.getfield 18, 3) := by decide +kernel
theorem d_Points_add_26 : decode b_Points_add 26 = .ok (.iload 5, 2) := by decide +kernel
theorem d_Points_add_28 : decode b_Points_add 28 = .ok (.iload_n 3, 1) := by decide +kernel
theorem d_Points_add_29 : decode b_Points_add 29 = .ok (.iastore, 1) := by decide +kernel
theorem d_Points_add_30 : decode b_Points_add 30 = .ok (.aload_n 0, 1) := by decide +kernel
theorem d_Points_add_31 : decode b_Points_add 31 = .ok (.getfield 21, 3) := by decide +kernel
theorem d_Points_add_34 : decode b_Points_add 34 = .ok (.iload 5, 2) := by decide +kernel
theorem d_Points_add_36 : decode b_Points_add 36 = .ok (.iload 4, 2) := by decide +kernel
theorem d_Points_add_38 : decode b_Points_add 38 = .ok (.iastore, 1) := by decide +kernel
theorem d_Points_add_39 : decode b_Points_add 39 = .ok (.aload_n 0, 1) := by decide +kernel
theorem d_Points_add_40 : decode b_Points_add 40 = .ok (.getfield 24, 3) := by decide +kernel
theorem d_Points_add_43 : decode b_Points_add 43 = .ok (.iload 5, 2) := by decide +kernel
theorem d_Points_add_45 : decode b_Points_add 45 = .ok (.iconst (-1), 1) := by decide +kernel
theorem d_Points_add_46 : decode b_Points_add 46 = .ok (.iastore, 1) := by decide +kernel
theorem d_Points_add_47 : decode b_Points_add 47 = .ok (.aload_n 0, 1) := by decide +kernel
theorem d_Points_add_48 : decode b_Points_add 48 = .ok (.dup, 1) := by decide +kernel
theorem d_Points_add_49 : decode b_Points_add 49 = .ok (.getfield 27, 3) := by decide +kernel
theorem d_Points_add_52 : decode b_Points_add 52 = .ok (.iconst 1, 1) := by decide +kernel
theorem d_Points_add_53 : decode b_Points_add 53 = .ok (.iadd, 1) := by decide +kernel
theorem d_Points_add_54 : decode b_Points_add 54 = .ok (.putfield 27, 3) := by decide +kernel
theorem d_Points_add_57 : decode b_Points_add 57 = .ok (.iload 5, 2) := by decide +kernel
theorem d_Points_add_59 : decode b_Points_add 59 = .ok (.ireturn, 1) := by decide +kernel
set_option maxHeartbeats 4000000 in
set_option maxRecDepth 100000 in
theorem c_Points_add (l : Launch) (dC : Nat → ClassId) (dI : Nat → Nat → Nat) (L : Nat → Nat) (cA : Nat → ClassId) (ar : Nat → Nat → Int32) (sc : Nat → Int32) (a0 : Int32) (a1 : Int32) (a2 : Int32) (a3 : Int32) (hL : ij 38 L) (h : p_Points_add ar sc a0 a1 a2 a3) : Met l y_Points_add z_Points_add (rmD 0) (va_Pc [.ref (L 6), .int a0, .int a1, .int a2, .int a3] (fun U => xw_I dC dI L cA ar sc U)) (va_Qi (fun (r : Int32) (u : oS) => (r, u.1, u.2) = f_Points_add ar sc a0 a1 a2 a3) (fun u t => va_P (dC, dI) classes (wI L cA u.1 u.2) t.heap) (aI L)) 0 0 (aI L) := by
  refine Met.ofW (cc := b_Points_add) (maxL := 6) (ret := (some .int)) (by decide) rfl ?_
  intro p e s m args below meth c s₁ B hml hv
  obtain ⟨rfl, ⟨hP, hK⟩⟩ := hv
  have hx := B.exec
  have hb := B.bytes
  have hr := B.returns
  have hts : ∀ w ∈ w_all, w.before _ s = true := fun w hw => atoms_spec (ws := z_Points_add) B.pre w (List.mem_cons_of_mem _ hw)
  have hown : s.vm.findClass R_Points = some m.cls := findClass_of_methodNamed B.named
  have hlocks := B.notSynchronized
  have hF : CallFix p m c b_Points_add 6 s _ w_all R_Points := ⟨hx, hb, hml, hown, hts⟩
  have hS : va_S (aI L) s.heap s.heap [] := va_S.rf
  have hl := lv_entry ([.ref (L 6), .int a0, .int a1, .int a2, .int a3]) (n := 6) (Nat.le_of_ble_eq_true rfl)
  rw [lg_entry_eq]
  generalize (lg_sl ([.ref (L 6), .int a0, .int a1, .int a2, .int a3]) ++ List.replicate (6 - (lg_sl ([.ref (L 6), .int a0, .int a1, .int a2, .int a3])).length) Slot.unset).toArray = ls at hl ⊢
  have hl : lv_has ls 6 [(0, .ref (L 6)), (1, .int a0), (2, .int a1), (3, .int a2), (4, .int a3)] := hl
  unfold p_Points_add at h
  refine lv_aload_n hx hb d_Points_add_0 rfl (lv_at hl 0 rfl) ?_
  refine gf_Points_count hF hK hP m_23 d_Points_add_1 ?_
  refine lv_istore (lv' := [(5, .int (sc 1)), (0, .ref (L 6)), (1, .int a0), (2, .int a1), (3, .int a2), (4, .int a3)]) hx hb d_Points_add_4 hl (by decide) rfl (fun ls hl => ?_)
  refine lv_aload_n hx hb d_Points_add_6 rfl (lv_at hl 1 rfl) ?_
  refine gf_Points_kinds hF hK hP m_24 d_Points_add_7 ?_
  refine lv_iload hx hb d_Points_add_10 (lv_at hl 0 rfl) ?_
  refine lv_iload_n hx hb d_Points_add_12 rfl (lv_at hl 2 rfl) ?_
  have k13 := h.1
  have h := h.2
  refine asI_7 hF hK hP hL hS k13 d_Points_add_13 (fun H locs hP hS => ?_)
  refine lv_aload_n hx hb d_Points_add_14 rfl (lv_at hl 1 rfl) ?_
  refine gf_Points_ownRisks hF hK hP m_25 d_Points_add_15 ?_
  refine lv_iload hx hb d_Points_add_18 (lv_at hl 0 rfl) ?_
  refine lv_iload_n hx hb d_Points_add_20 rfl (lv_at hl 3 rfl) ?_
  have k21 := h.1
  have h := h.2
  refine asI_8 hF hK hP hL hS k21 d_Points_add_21 (fun H locs hP hS => ?_)
  refine lv_aload_n hx hb d_Points_add_22 rfl (lv_at hl 1 rfl) ?_
  refine gf_Points_xs hF hK hP m_26 d_Points_add_23 ?_
  refine lv_iload hx hb d_Points_add_26 (lv_at hl 0 rfl) ?_
  refine lv_iload_n hx hb d_Points_add_28 rfl (lv_at hl 4 rfl) ?_
  have k29 := h.1
  have h := h.2
  refine asI_9 hF hK hP hL hS k29 d_Points_add_29 (fun H locs hP hS => ?_)
  refine lv_aload_n hx hb d_Points_add_30 rfl (lv_at hl 1 rfl) ?_
  refine gf_Points_ys hF hK hP m_27 d_Points_add_31 ?_
  refine lv_iload hx hb d_Points_add_34 (lv_at hl 0 rfl) ?_
  refine lv_iload hx hb d_Points_add_36 (lv_at hl 5 rfl) ?_
  have k38 := h.1
  have h := h.2
  refine asI_10 hF hK hP hL hS k38 d_Points_add_38 (fun H locs hP hS => ?_)
  refine lv_aload_n hx hb d_Points_add_39 rfl (lv_at hl 1 rfl) ?_
  refine gf_Points_visits hF hK hP m_28 d_Points_add_40 ?_
  refine lv_iload hx hb d_Points_add_43 (lv_at hl 0 rfl) ?_
  refine lv_iconst (v := (-1)) hx hb d_Points_add_45 (by decide) ?_
  have k46 := h
  refine asI_11 hF hK hP hL hS k46 d_Points_add_46 (fun H locs hP hS => ?_)
  refine lv_aload_n hx hb d_Points_add_47 rfl (lv_at hl 1 rfl) ?_
  refine lv_dup hx hb d_Points_add_48 rfl ?_
  refine gf_Points_count hF hK hP m_23 d_Points_add_49 ?_
  refine lv_iconst (v := 1) hx hb d_Points_add_52 (by decide) ?_
  refine lv_iadd hx hb d_Points_add_53 ?_
  refine pf_Points_count hF hK hP hL hS m_23 d_Points_add_54 (fun H locs hP hS => ?_)
  refine lv_iload hx hb d_Points_add_57 (lv_at hl 0 rfl) ?_
  have hv : ((sc 1, s2 (s2 (s2 (s2 (s2 ar 7 ((sc 1).toNatClampNeg) a0) 8 ((sc 1).toNatClampNeg) a1) 9 ((sc 1).toNatClampNeg) a2) 10 ((sc 1).toNatClampNeg) a3) 11 ((sc 1).toNatClampNeg) (-1), sg sc 1 ((sc 1) + 1)) : Int32 × (Nat → Nat → Int32) × (Nat → Int32)) = f_Points_add ar sc a0 a1 a2 a3 := by rw [f_Points_add]
  exact W.iret (v := sc 1) hx hb hr (fun t ht hW => ⟨⟨sc 1, (s2 (s2 (s2 (s2 (s2 ar 7 ((sc 1).toNatClampNeg) a0) 8 ((sc 1).toNatClampNeg) a1) 9 ((sc 1).toNatClampNeg) a2) 10 ((sc 1).toNatClampNeg) a3) 11 ((sc 1).toNatClampNeg) (-1), sg sc 1 ((sc 1) + 1)), rfl, hv, by dsimp only; rw [ht]; exact hP⟩, hS.F ht⟩) hS.2.2 d_Points_add_59
set_option maxHeartbeats 1000000 in
theorem r_Points_add {p : Program} {l : Launch} {e : Env} {R : Room} {s : State} {m : MethodId} {args : Array Value} {below : List Frame} {meth : Method} {c : Code} {H : Heap} {locs : List Loc} {cells slots : Nat} {Q : State → Prop} {cc : ByteArray} {nL pc idx : Nat} {ls : Array Slot} {rest : List Value} {own : String} {dC : Nat → ClassId} {dI : Nat → Nat → Nat} {L : Nat → Nat} {cA : Nat → ClassId} {ar : Nat → Nat → Int32} {sc : Nat → Int32} {H0 : Heap} {a0 : Int32} {a1 : Int32} {a2 : Int32} {a3 : Int32} (hF : CallFix p m c cc nL s args w_all own) (hK : kW_I dC dI cA s) (hP : va_P (dC, dI) classes (wI L cA ar sc) H) (hL : ij 38 L) (hS : va_S (aI L) H0 H locs) (h : p_Points_add ar sc a0 a1 a2 a3) (hlk : Cond.methodLink own idx y_Points_add ∈ w_all) (hsz : ls.size = nL) (hR : (rmD 0).frames + 1 ≤ R.frames ∧ 8 + (6 + 11) + (rmD 0).locals ≤ R.locals) (hc : cells ≤ R.cells ∧ slots ≤ R.slots) (hrs : (rest.map fun v => v.category).sum ≤ 8) (hdg : decode cc pc = .ok (.invokevirtual idx, 3)) (kk : ∀ (H1 : Heap) (locs1 : List Loc), va_P (dC, dI) classes (wI L cA ((f_Points_add ar sc a0 a1 a2 a3).2.1) ((f_Points_add ar sc a0 a1 a2 a3).2.2)) H1 → va_S (aI L) H0 H1 locs1 → W p l e R s m args below meth c H1 locs1 cells slots Q (F0 m (pc + 3) ls (.int (f_Points_add ar sc a0 a1 a2 a3).1 :: rest))) : W p l e R s m args below meth c H locs cells slots Q (F0 m pc ls (.int a3 :: .int a2 :: .int a1 :: .int a0 :: .ref (L 6) :: rest)) :=
  va_calli (va_runV (As := [.int a0, .int a1, .int a2, .int a3]) (rest := rest) hF (c_Points_add l dC dI L cA ar sc a0 a1 a2 a3 hL h) (cwV 4 hF.2.2.2.2 (gV hlk m_29 m_30 m_31 m_32) rfl rfl rfl (by decide +kernel) hR) ⟨xb_I, va_recv hK.1 hP (ci := 2) (q0 := 6) rfl rfl, fun U hU hW => ⟨rfl, by rw [hU]; exact hP, kW_I_warm hW hK⟩⟩ rfl rfl hsz rfl (lv_room hrs) hdg hc) hS (fun q _ h9 => h9) (fun q h9 => h9) (fun r u t H1 locs1 ht hvm hw hB hz1 hk1 hS1 => by
    have hk9 := kk H1 locs1 (by rw [← hw, ← ht]; exact hB) hS1
    rw [← hw] at hk9
    exact hk9)
theorem d_Scale_classFor_0 : decode b_Scale_classFor 0 = .ok (.iconst 0, 1) := by decide +kernel
theorem d_Scale_classFor_1 : decode b_Scale_classFor 1 = .ok (.istore_n 2, 1) := by decide +kernel
theorem d_Scale_classFor_2 : decode b_Scale_classFor 2 = .ok (.iconst 0, 1) := by decide +kernel
theorem d_Scale_classFor_3 : decode b_Scale_classFor 3 = .ok (.istore_n 3, 1) := by decide +kernel
theorem d_Scale_classFor_4 : decode b_Scale_classFor 4 = .ok (.iload_n 3, 1) := by decide +kernel
theorem d_Scale_classFor_5 : decode b_Scale_classFor 5 = .ok (.aload_n 0, 1) := by decide +kernel
theorem d_Scale_classFor_6 : decode b_Scale_classFor 6 = .ok (.getfield 15, 3) := by decide +kernel
theorem d_Scale_classFor_9 : decode b_Scale_classFor 9 = .ok (.arraylength, 1) := by decide +kernel
theorem d_Scale_classFor_10 : decode b_Scale_classFor 10 = .ok (.if_icmp .ge 22, 3) := by decide +kernel
theorem d_Scale_classFor_13 : decode b_Scale_classFor 13 = .ok (.aload_n 0, 1) := by decide +kernel
theorem d_Scale_classFor_14 : decode b_Scale_classFor 14 = .ok (.getfield 15, 3) := by decide +kernel
theorem d_Scale_classFor_17 : decode b_Scale_classFor 17 = .ok (.iload_n 3, 1) := by decide +kernel
theorem d_Scale_classFor_18 : decode b_Scale_classFor 18 = .ok (.iaload, 1) := by decide +kernel
theorem d_Scale_classFor_19 : decode b_Scale_classFor 19 = .ok (.iload_n 1, 1) := by decide +kernel
theorem d_Scale_classFor_20 : decode b_Scale_classFor 20 = .ok (.if_icmp .gt 6, 3) := by decide +kernel
theorem d_Scale_classFor_23 : decode b_Scale_classFor 23 = .ok (.iinc 2 1, 3) := by decide +kernel
theorem d_Scale_classFor_26 : decode b_Scale_classFor 26 = .ok (.iinc 3 1, 3) := by decide +kernel
theorem d_Scale_classFor_29 : decode b_Scale_classFor 29 = .ok (.goto (-25), 3) := by decide +kernel
theorem d_Scale_classFor_32 : decode b_Scale_classFor 32 = .ok (.iload_n 2, 1) := by decide +kernel
theorem d_Scale_classFor_33 : decode b_Scale_classFor 33 = .ok (.ireturn, 1) := by decide +kernel
set_option maxHeartbeats 4000000 in
set_option maxRecDepth 100000 in
theorem l_Scale_classFor_4 {p : Program} {l : Launch} {e : Env} {s : State} {m : MethodId} {args : Array Value} {below : List Frame} {meth : Method} {c : Code} {dC : Nat → ClassId} {dI : Nat → Nat → Nat} {L : Nat → Nat} {cA : Nat → ClassId} {ar : Nat → Nat → Int32} {sc : Nat → Int32} {Q : State → Prop} {H : Heap} {locs : List Loc} (a0 : Int32)  (hF : CallFix p m c b_Scale_classFor 4 s args w_all R_Scale) (hK : kW_I dC dI cA s) (hP : va_P (dC, dI) classes (wI L cA ar sc) H) : ∀ (n : Nat) (v2 : Int32) (v3 : Int32), q_Scale_classFor_4 ar sc a0 n v2 v3 → ∀ (ls : Array Slot), lv_has ls 4 [(2, .int v2), (3, .int v3), (0, .ref (L 1)), (1, .int a0)] → (∀ (ls : Array Slot), lv_has ls 4 [(2, .int ((g_Scale_classFor_4 ar sc a0 n v2 v3).1)), (3, .int ((g_Scale_classFor_4 ar sc a0 n v2 v3).2)), (0, .ref (L 1)), (1, .int a0)] → W p l e (rmD 0) s m args below meth c H locs 0 0 Q (F0 m 32 ls [])) → W p l e (rmD 0) s m args below meth c H locs 0 0 Q (F0 m 4 ls []) := by
  have hx := hF.1
  have hb := hF.2.1
  have hown := hF.2.2.2.1
  have hts := hF.2.2.2.2
  intro n
  induction n with
  | zero => intro v2 v3 h; exact False.elim h
  | succ n ih =>
    intro v2 v3 h ls hl hk
    rw [q_Scale_classFor_4] at h
    refine lv_iload_n hx hb d_Scale_classFor_4 rfl (lv_at hl 1 rfl) ?_
    refine lv_aload_n hx hb d_Scale_classFor_5 rfl (lv_at hl 2 rfl) ?_
    refine gf_Scale_steps hF hK hP m_33 d_Scale_classFor_6 ?_
    refine anI_3 hF hK hP d_Scale_classFor_9 ?_
    refine lv_icmp_ge (tgt := 32) hx hb d_Scale_classFor_10 (by decide) (fun c10 => ?_) (fun c10 => ?_)
    · have h := h.1 c10
      have hv : g_Scale_classFor_4 ar sc a0 (n + 1) v2 v3 = ((v2, v3) : Int32 × Int32) := by rw [g_Scale_classFor_4, if_pos c10]
      rw [hv] at hk
      exact hk ls (lv_sub hl [0, 1, 2, 3] rfl)
    · have h := h.2 c10
      refine lv_aload_n hx hb d_Scale_classFor_13 rfl (lv_at hl 2 rfl) ?_
      refine gf_Scale_steps hF hK hP m_33 d_Scale_classFor_14 ?_
      refine lv_iload_n hx hb d_Scale_classFor_17 rfl (lv_at hl 1 rfl) ?_
      have k18 := h.1
      have h := h.2
      refine alI_3 hF hK hP k18 d_Scale_classFor_18 ?_
      refine lv_iload_n hx hb d_Scale_classFor_19 rfl (lv_at hl 3 rfl) ?_
      refine lv_icmp_gt (tgt := 26) hx hb d_Scale_classFor_20 (by decide) (fun c20 => ?_) (fun c20 => ?_)
      · have h := h.1 c20
        refine lv_iinc (v := v3 + 1) (lv' := [(3, .int (v3 + 1)), (2, .int v2), (0, .ref (L 1)), (1, .int a0)]) hx hb d_Scale_classFor_26 hl (k := 1) rfl rfl (by decide) rfl (fun ls hl => ?_)
        refine lv_goto (tgt := 4) hx hb d_Scale_classFor_29 (by decide) ?_
        have hv : g_Scale_classFor_4 ar sc a0 (n + 1) v2 v3 = g_Scale_classFor_4 ar sc a0 n v2 (v3 + 1) := by rw [g_Scale_classFor_4, if_neg c10, if_pos c20]
        rw [hv] at hk
        exact ih v2 (v3 + 1) h ls (lv_sub hl [1, 0, 2, 3] rfl) hk
      · have h := h.2 c20
        refine lv_iinc (v := v2 + 1) (lv' := [(2, .int (v2 + 1)), (3, .int v3), (0, .ref (L 1)), (1, .int a0)]) hx hb d_Scale_classFor_23 hl (k := 0) rfl rfl (by decide) rfl (fun ls hl => ?_)
        refine lv_iinc (v := v3 + 1) (lv' := [(3, .int (v3 + 1)), (2, .int (v2 + 1)), (0, .ref (L 1)), (1, .int a0)]) hx hb d_Scale_classFor_26 hl (k := 1) rfl rfl (by decide) rfl (fun ls hl => ?_)
        refine lv_goto (tgt := 4) hx hb d_Scale_classFor_29 (by decide) ?_
        have hv : g_Scale_classFor_4 ar sc a0 (n + 1) v2 v3 = g_Scale_classFor_4 ar sc a0 n (v2 + 1) (v3 + 1) := by rw [g_Scale_classFor_4, if_neg c10, if_neg c20]
        rw [hv] at hk
        exact ih (v2 + 1) (v3 + 1) h ls (lv_sub hl [1, 0, 2, 3] rfl) hk
set_option maxHeartbeats 4000000 in
set_option maxRecDepth 100000 in
theorem c_Scale_classFor (l : Launch) (dC : Nat → ClassId) (dI : Nat → Nat → Nat) (L : Nat → Nat) (cA : Nat → ClassId) (ar : Nat → Nat → Int32) (sc : Nat → Int32) (a0 : Int32) (h : p_Scale_classFor ar sc a0) : Met l y_Scale_classFor z_Scale_classFor (rmD 0) (va_Pc [.ref (L 1), .int a0] (fun U => xw_I dC dI L cA ar sc U)) (QcRead (f_Scale_classFor ar sc a0)) 0 0 (fun _ => False) := by
  refine Met.ofW (cc := b_Scale_classFor) (maxL := 4) (ret := (some .int)) (by decide) rfl ?_
  intro p e s m args below meth c s₁ B hml hv
  obtain ⟨rfl, ⟨hP, hK⟩⟩ := hv
  have hx := B.exec
  have hb := B.bytes
  have hr := B.returns
  have hts : ∀ w ∈ w_all, w.before _ s = true := fun w hw => atoms_spec (ws := z_Scale_classFor) B.pre w (List.mem_cons_of_mem _ hw)
  have hown : s.vm.findClass R_Scale = some m.cls := findClass_of_methodNamed B.named
  have hlocks := B.notSynchronized
  have hF : CallFix p m c b_Scale_classFor 4 s _ w_all R_Scale := ⟨hx, hb, hml, hown, hts⟩
  have hl := lv_entry ([.ref (L 1), .int a0]) (n := 4) (Nat.le_of_ble_eq_true rfl)
  rw [lg_entry_eq]
  generalize (lg_sl ([.ref (L 1), .int a0]) ++ List.replicate (4 - (lg_sl ([.ref (L 1), .int a0])).length) Slot.unset).toArray = ls at hl ⊢
  have hl : lv_has ls 4 [(0, .ref (L 1)), (1, .int a0)] := hl
  unfold p_Scale_classFor at h
  refine lv_iconst (v := 0) hx hb d_Scale_classFor_0 (by decide) ?_
  refine lv_istore_n (lv' := [(2, .int 0), (0, .ref (L 1)), (1, .int a0)]) hx hb d_Scale_classFor_1 rfl hl (by decide) rfl (fun ls hl => ?_)
  refine lv_iconst (v := 0) hx hb d_Scale_classFor_2 (by decide) ?_
  refine lv_istore_n (lv' := [(3, .int 0), (2, .int 0), (0, .ref (L 1)), (1, .int a0)]) hx hb d_Scale_classFor_3 rfl hl (by decide) rfl (fun ls hl => ?_)
  have kL4 := h
  refine l_Scale_classFor_4 a0 hF hK hP 200 0 0 kL4 ls (lv_sub hl [1, 0, 2, 3] rfl) (fun ls hl => ?_)
  refine lv_iload_n hx hb d_Scale_classFor_32 rfl (lv_at hl 0 rfl) ?_
  have hv : ((g_Scale_classFor_4 ar sc a0 200 0 0).1 : Int32) = f_Scale_classFor ar sc a0 := by rw [f_Scale_classFor]
  exact W.iret (v := (g_Scale_classFor_4 ar sc a0 200 0 0).1) hx hb hr (fun t ht hW => ⟨congrArg (fun z => Outcome.returned (some (Value.int z))) hv, ht⟩) (fun _ h9 => nomatch h9) d_Scale_classFor_33
set_option maxHeartbeats 1000000 in
theorem r_Scale_classFor {p : Program} {l : Launch} {e : Env} {R : Room} {s : State} {m : MethodId} {args : Array Value} {below : List Frame} {meth : Method} {c : Code} {H : Heap} {locs : List Loc} {cells slots : Nat} {Q : State → Prop} {cc : ByteArray} {nL pc idx : Nat} {ls : Array Slot} {rest : List Value} {own : String} {dC : Nat → ClassId} {dI : Nat → Nat → Nat} {L : Nat → Nat} {cA : Nat → ClassId} {ar : Nat → Nat → Int32} {sc : Nat → Int32} {a0 : Int32} (hF : CallFix p m c cc nL s args w_all own) (hK : kW_I dC dI cA s) (hP : va_P (dC, dI) classes (wI L cA ar sc) H) (h : p_Scale_classFor ar sc a0) (hlk : Cond.methodLink own idx y_Scale_classFor ∈ w_all) (hsz : ls.size = nL) (hR : (rmD 0).frames + 1 ≤ R.frames ∧ 8 + (4 + 11) + (rmD 0).locals ≤ R.locals) (hc : cells ≤ R.cells ∧ slots ≤ R.slots) (hrs : (rest.map fun v => v.category).sum ≤ 8) (hdg : decode cc pc = .ok (.invokevirtual idx, 3)) (kk : W p l e R s m args below meth c H locs cells slots Q (F0 m (pc + 3) ls (.int (f_Scale_classFor ar sc a0) :: rest))) : W p l e R s m args below meth c H locs cells slots Q (F0 m pc ls (.int a0 :: .ref (L 1) :: rest)) :=
  W.callR (W.runV (As := [.int a0]) (rest := rest) hF (c_Scale_classFor l dC dI L cA ar sc a0 h) (cwV 1 hF.2.2.2.2 (gV hlk m_34 m_35 m_36 m_37) rfl rfl rfl (by decide +kernel) hR) ⟨xb_I, va_recv hK.1 hP (ci := 1) (q0 := 1) rfl rfl, fun U hU hW => ⟨rfl, by rw [hU]; exact hP, kW_I_warm hW hK⟩⟩ rfl rfl hsz rfl (lv_room hrs) hdg hc) kk
theorem d_Questions_tell_0 : decode b_Questions_tell 0 = .ok (.aload_n 0, 1) := by decide +kernel
theorem d_Questions_tell_1 : decode b_Questions_tell 1 = .ok (.getfield 9, 3) := by decide +kernel
theorem d_Questions_tell_4 : decode b_Questions_tell 4 = .ok (.iload_n 1, 1) := by decide +kernel
theorem d_Questions_tell_5 : decode b_Questions_tell 5 = .ok (.iconst 1, 1) := by decide +kernel
theorem d_Questions_tell_6 : decode b_Questions_tell 6 = .ok (.bastore, 1) := by decide +kernel
theorem d_Questions_tell_7 : decode b_Questions_tell 7 = .ok (.aload_n 0, 1) := by decide +kernel
theorem d_Questions_tell_8 : decode b_Questions_tell 8 = .ok (.getfield 15, 3) := by decide +kernel
theorem d_Questions_tell_11 : decode b_Questions_tell 11 = .ok (.iload_n 1, 1) := by decide +kernel
theorem d_Questions_tell_12 : decode b_Questions_tell 12 = .ok (.iload_n 2, 1) := by decide +kernel
theorem d_Questions_tell_13 : decode b_Questions_tell 13 = .ok (.iastore, 1) := by decide +kernel
theorem d_Questions_tell_14 : decode b_Questions_tell 14 = .ok (.aload_n 0, 1) := by decide +kernel
theorem d_Questions_tell_15 : decode b_Questions_tell 15 = .ok (.getfield 19, 3) := by decide +kernel
theorem d_Questions_tell_18 : decode b_Questions_tell 18 = .ok (.iload_n 1, 1) := by decide +kernel
theorem d_Questions_tell_19 : decode b_Questions_tell 19 = .ok (.iload_n 3, 1) := by decide +kernel
theorem d_Questions_tell_20 : decode b_Questions_tell 20 = .ok (.iastore, 1) := by decide +kernel
theorem d_Questions_tell_21 : decode b_Questions_tell 21 = .ok (.aload_n 0, 1) := by decide +kernel
theorem d_Questions_tell_22 : decode b_Questions_tell 22 = .ok (.getfield 22, 3) := by decide +kernel
theorem d_Questions_tell_25 : decode b_Questions_tell 25 = .ok (.iload_n 1, 1) := by decide +kernel
theorem d_Questions_tell_26 : decode b_Questions_tell 26 = .ok (.iload 4, 2) := by decide +kernel
theorem d_Questions_tell_28 : decode b_Questions_tell 28 = .ok (.iastore, 1) := by decide +kernel
theorem d_Questions_tell_29 : decode b_Questions_tell 29 = .ok (.return_, 1) := by decide +kernel
set_option maxHeartbeats 4000000 in
set_option maxRecDepth 100000 in
theorem c_Questions_tell (l : Launch) (dC : Nat → ClassId) (dI : Nat → Nat → Nat) (L : Nat → Nat) (cA : Nat → ClassId) (ar : Nat → Nat → Int32) (sc : Nat → Int32) (a0 : Int32) (a1 : Int32) (a2 : Int32) (a3 : Int32) (hL : ij 38 L) (h : p_Questions_tell ar sc a0 a1 a2 a3) : Met l y_Questions_tell z_Questions_tell (rmD 0) (va_Pc [.ref (L 17), .int a0, .int a1, .int a2, .int a3] (fun U => xw_I dC dI L cA ar sc U)) (va_Qv (fun u : oS => (u.1, u.2) = f_Questions_tell ar sc a0 a1 a2 a3) (fun u t => va_P (dC, dI) classes (wI L cA u.1 u.2) t.heap) (aI L)) 0 0 (aI L) := by
  refine Met.ofW (cc := b_Questions_tell) (maxL := 5) (ret := none) (by decide) rfl ?_
  intro p e s m args below meth c s₁ B hml hv
  obtain ⟨rfl, ⟨hP, hK⟩⟩ := hv
  have hx := B.exec
  have hb := B.bytes
  have hr := B.returns
  have hts : ∀ w ∈ w_all, w.before _ s = true := fun w hw => atoms_spec (ws := z_Questions_tell) B.pre w (List.mem_cons_of_mem _ hw)
  have hown : s.vm.findClass R_Questions = some m.cls := findClass_of_methodNamed B.named
  have hlocks := B.notSynchronized
  have hF : CallFix p m c b_Questions_tell 5 s _ w_all R_Questions := ⟨hx, hb, hml, hown, hts⟩
  have hS : va_S (aI L) s.heap s.heap [] := va_S.rf
  have hl := lv_entry ([.ref (L 17), .int a0, .int a1, .int a2, .int a3]) (n := 5) (Nat.le_of_ble_eq_true rfl)
  rw [lg_entry_eq]
  generalize (lg_sl ([.ref (L 17), .int a0, .int a1, .int a2, .int a3]) ++ List.replicate (5 - (lg_sl ([.ref (L 17), .int a0, .int a1, .int a2, .int a3])).length) Slot.unset).toArray = ls at hl ⊢
  have hl : lv_has ls 5 [(0, .ref (L 17)), (1, .int a0), (2, .int a1), (3, .int a2), (4, .int a3)] := hl
  unfold p_Questions_tell at h
  refine lv_aload_n hx hb d_Questions_tell_0 rfl (lv_at hl 0 rfl) ?_
  refine gf_Questions_told hF hK hP m_38 d_Questions_tell_1 ?_
  refine lv_iload_n hx hb d_Questions_tell_4 rfl (lv_at hl 1 rfl) ?_
  refine lv_iconst (v := 1) hx hb d_Questions_tell_5 (by decide) ?_
  have k6 := h.1
  have h := h.2
  refine asI_18 hF hK hP hL hS k6 d_Questions_tell_6 (fun H locs hP hS => ?_)
  refine lv_aload_n hx hb d_Questions_tell_7 rfl (lv_at hl 0 rfl) ?_
  refine gf_Questions_afterYes hF hK hP m_39 d_Questions_tell_8 ?_
  refine lv_iload_n hx hb d_Questions_tell_11 rfl (lv_at hl 1 rfl) ?_
  refine lv_iload_n hx hb d_Questions_tell_12 rfl (lv_at hl 2 rfl) ?_
  have k13 := h.1
  have h := h.2
  refine asI_19 hF hK hP hL hS k13 d_Questions_tell_13 (fun H locs hP hS => ?_)
  refine lv_aload_n hx hb d_Questions_tell_14 rfl (lv_at hl 0 rfl) ?_
  refine gf_Questions_afterNo hF hK hP m_40 d_Questions_tell_15 ?_
  refine lv_iload_n hx hb d_Questions_tell_18 rfl (lv_at hl 1 rfl) ?_
  refine lv_iload_n hx hb d_Questions_tell_19 rfl (lv_at hl 3 rfl) ?_
  have k20 := h.1
  have h := h.2
  refine asI_20 hF hK hP hL hS k20 d_Questions_tell_20 (fun H locs hP hS => ?_)
  refine lv_aload_n hx hb d_Questions_tell_21 rfl (lv_at hl 0 rfl) ?_
  refine gf_Questions_weights hF hK hP m_41 d_Questions_tell_22 ?_
  refine lv_iload_n hx hb d_Questions_tell_25 rfl (lv_at hl 1 rfl) ?_
  refine lv_iload hx hb d_Questions_tell_26 (lv_at hl 4 rfl) ?_
  have k28 := h
  refine asI_21 hF hK hP hL hS k28 d_Questions_tell_28 (fun H locs hP hS => ?_)
  have hv : ((s2 (s2 (s2 (s2 ar 18 a0.toNatClampNeg (vp_nar .boolean 1)) 19 a0.toNatClampNeg a1) 20 a0.toNatClampNeg a2) 21 a0.toNatClampNeg a3, sc) : (Nat → Nat → Int32) × (Nat → Int32)) = f_Questions_tell ar sc a0 a1 a2 a3 := by rw [f_Questions_tell]
  exact W.vret hx hb hr (fun t ht hW => ⟨⟨(s2 (s2 (s2 (s2 ar 18 a0.toNatClampNeg (vp_nar .boolean 1)) 19 a0.toNatClampNeg a1) 20 a0.toNatClampNeg a2) 21 a0.toNatClampNeg a3, sc), rfl, hv, by dsimp only; rw [ht]; exact hP⟩, hS.F ht⟩) hS.2.2 d_Questions_tell_29
set_option maxHeartbeats 1000000 in
theorem r_Questions_tell {p : Program} {l : Launch} {e : Env} {R : Room} {s : State} {m : MethodId} {args : Array Value} {below : List Frame} {meth : Method} {c : Code} {H : Heap} {locs : List Loc} {cells slots : Nat} {Q : State → Prop} {cc : ByteArray} {nL pc idx : Nat} {ls : Array Slot} {rest : List Value} {own : String} {dC : Nat → ClassId} {dI : Nat → Nat → Nat} {L : Nat → Nat} {cA : Nat → ClassId} {ar : Nat → Nat → Int32} {sc : Nat → Int32} {H0 : Heap} {a0 : Int32} {a1 : Int32} {a2 : Int32} {a3 : Int32} (hF : CallFix p m c cc nL s args w_all own) (hK : kW_I dC dI cA s) (hP : va_P (dC, dI) classes (wI L cA ar sc) H) (hL : ij 38 L) (hS : va_S (aI L) H0 H locs) (h : p_Questions_tell ar sc a0 a1 a2 a3) (hlk : Cond.methodLink own idx y_Questions_tell ∈ w_all) (hsz : ls.size = nL) (hR : (rmD 0).frames + 1 ≤ R.frames ∧ 8 + (5 + 11) + (rmD 0).locals ≤ R.locals) (hc : cells ≤ R.cells ∧ slots ≤ R.slots) (hrs : (rest.map fun v => v.category).sum ≤ 8) (hdg : decode cc pc = .ok (.invokevirtual idx, 3)) (kk : ∀ (H1 : Heap) (locs1 : List Loc), va_P (dC, dI) classes (wI L cA ((f_Questions_tell ar sc a0 a1 a2 a3).1) ((f_Questions_tell ar sc a0 a1 a2 a3).2)) H1 → va_S (aI L) H0 H1 locs1 → W p l e R s m args below meth c H1 locs1 cells slots Q (F0 m (pc + 3) ls (rest))) : W p l e R s m args below meth c H locs cells slots Q (F0 m pc ls (.int a3 :: .int a2 :: .int a1 :: .int a0 :: .ref (L 17) :: rest)) :=
  va_callv (va_runV (As := [.int a0, .int a1, .int a2, .int a3]) (rest := rest) hF (c_Questions_tell l dC dI L cA ar sc a0 a1 a2 a3 hL h) (cwV 4 hF.2.2.2.2 (gV hlk m_42 m_43 m_44 m_45) rfl rfl rfl (by decide +kernel) hR) ⟨xb_I, va_recv hK.1 hP (ci := 4) (q0 := 17) rfl rfl, fun U hU hW => ⟨rfl, by rw [hU]; exact hP, kW_I_warm hW hK⟩⟩ rfl rfl hsz rfl (lv_room hrs) hdg hc) hS (fun q _ h9 => h9) (fun q h9 => h9) (fun u t H1 locs1 ht hvm hw hB hz1 hk1 hS1 => by
    have hk9 := kk H1 locs1 (by rw [← hw, ← ht]; exact hB) hS1
    exact hk9)
theorem d_Questions_answer_0 : decode b_Questions_answer 0 = .ok (.aload_n 0, 1) := by decide +kernel
theorem d_Questions_answer_1 : decode b_Questions_answer 1 = .ok (.iconst 0, 1) := by decide +kernel
theorem d_Questions_answer_2 : decode b_Questions_answer 2 = .ok (.putfield 28, 3) := by decide +kernel
theorem d_Questions_answer_5 : decode b_Questions_answer 5 = .ok (.iconst 0, 1) := by decide +kernel
theorem d_Questions_answer_6 : decode b_Questions_answer 6 = .ok (.istore_n 2, 1) := by decide +kernel
theorem d_Questions_answer_7 : decode b_Questions_answer 7 = .ok (.iconst 0, 1) := by decide +kernel
theorem d_Questions_answer_8 : decode b_Questions_answer 8 = .ok (.istore_n 3, 1) := by decide +kernel
theorem d_Questions_answer_9 : decode b_Questions_answer 9 = .ok (.iload_n 3, 1) := by decide +kernel
theorem d_Questions_answer_10 : decode b_Questions_answer 10 = .ok (.bipush 16, 2) := by decide +kernel
theorem d_Questions_answer_12 : decode b_Questions_answer 12 = .ok (.if_icmp .ge 110, 3) := by decide +kernel
theorem d_Questions_answer_15 : decode b_Questions_answer 15 = .ok (.iload_n 2, 1) := by decide +kernel
theorem d_Questions_answer_16 : decode b_Questions_answer 16 = .ok (.iconst (-1), 1) := by decide +kernel
theorem d_Questions_answer_17 : decode b_Questions_answer 17 = .ok (.if_icmp .eq 105, 3) := by decide +kernel
theorem d_Questions_answer_20 : decode b_Questions_answer 20 = .ok (.iload_n 2, 1) := by decide +kernel
theorem d_Questions_answer_21 : decode b_Questions_answer 21 = .ok (.istore 4, 2) := by decide +kernel
theorem d_Questions_answer_23 : decode b_Questions_answer 23 = .ok (.aload_n 0, 1) := by decide +kernel
theorem d_Questions_answer_24 : decode b_Questions_answer 24 = .ok (.getfield 9, 3) := by decide +kernel
theorem d_Questions_answer_27 : decode b_Questions_answer 27 = .ok (.iload 4, 2) := by decide +kernel
theorem d_Questions_answer_29 : decode b_Questions_answer 29 = .ok (.baload, 1) := by decide +kernel
theorem d_Questions_answer_30 : decode b_Questions_answer 30 = .ok (.ifCond .ne 5, 3) := by decide +kernel
theorem d_Questions_answer_33 : decode b_Questions_answer 33 = .ok (.iconst 0, 1) := by decide +kernel
theorem d_Questions_answer_34 : decode b_Questions_answer 34 = .ok (.ireturn, 1) := by decide +kernel
theorem d_Questions_answer_35 : decode b_Questions_answer 35 = .ok (.iload_n 1, 1) := by decide +kernel
theorem d_Questions_answer_36 : decode b_Questions_answer 36 = .ok (.iload 4, 2) := by decide +kernel
theorem d_Questions_answer_38 : decode b_Questions_answer 38 = .ok (.iushr, 1) := by decide +kernel
theorem d_Questions_answer_39 : decode b_Questions_answer 39 = .ok (.iconst 1, 1) := by decide +kernel
theorem d_Questions_answer_40 : decode b_Questions_answer 40 = .ok (.iand, 1) := by decide +kernel
theorem d_Questions_answer_41 : decode b_Questions_answer 41 = .ok (.iconst 1, 1) := by decide +kernel
theorem d_Questions_answer_42 : decode b_Questions_answer 42 = .ok (.if_icmp .ne 7, 3) := by decide +kernel
theorem d_Questions_answer_45 : decode b_Questions_answer 45 = .ok (.iconst 1, 1) := by decide +kernel
theorem d_Questions_answer_46 : decode b_Questions_answer 46 = .ok (.goto 4, 3) := by decide +kernel
theorem d_Questions_answer_49 : decode b_Questions_answer 49 = .ok (.iconst 0, 1) := by decide +kernel
theorem d_Questions_answer_50 : decode b_Questions_answer 50 = .ok (.istore 5, 2) := by decide +kernel
theorem d_Questions_answer_52 : decode b_Questions_answer 52 = .ok (.iload 5, 2) := by decide +kernel
theorem d_Questions_answer_54 : decode b_Questions_answer 54 = .ok (.ifCond .ne 39, 3) := by decide +kernel
theorem d_Questions_answer_57 : decode b_Questions_answer 57 = .ok (.aload_n 0, 1) := by decide +kernel
theorem d_Questions_answer_58 : decode b_Questions_answer 58 = .ok (.getfield 22, 3) := by decide +kernel
theorem d_Questions_answer_61 : decode b_Questions_answer 61 = .ok (.iload 4, 2) := by decide +kernel
theorem d_Questions_answer_63 : decode b_Questions_answer 63 = .ok (.iaload, 1) := by decide +kernel
theorem d_Questions_answer_64 : decode b_Questions_answer 64 = .ok (.ifCond .le 29, 3) := by decide +kernel
theorem d_Questions_answer_67 : decode b_Questions_answer 67 = .ok (.aload_n 0, 1) := by decide +kernel
theorem d_Questions_answer_68 : decode b_Questions_answer 68 = .ok (.getfield 25, 3) := by decide +kernel
theorem d_Questions_answer_71 : decode b_Questions_answer 71 = .ok (.aload_n 0, 1) := by decide +kernel
theorem d_Questions_answer_72 : decode b_Questions_answer 72 = .ok (.getfield 28, 3) := by decide +kernel
theorem d_Questions_answer_75 : decode b_Questions_answer 75 = .ok (.aload_n 0, 1) := by decide +kernel
theorem d_Questions_answer_76 : decode b_Questions_answer 76 = .ok (.getfield 22, 3) := by decide +kernel
theorem d_Questions_answer_79 : decode b_Questions_answer 79 = .ok (.iload 4, 2) := by decide +kernel
theorem d_Questions_answer_81 : decode b_Questions_answer 81 = .ok (.iaload, 1) := by decide +kernel
theorem d_Questions_answer_82 : decode b_Questions_answer 82 = .ok (.iastore, 1) := by decide +kernel
theorem d_Questions_answer_83 : decode b_Questions_answer 83 = .ok (.aload_n 0, 1) := by decide +kernel
theorem d_Questions_answer_84 : decode b_Questions_answer 84 = .ok (.dup, 1) := by decide +kernel
theorem d_Questions_answer_85 : decode b_Questions_answer 85 = .ok (.getfield 28, 3) := by decide +kernel
theorem d_Questions_answer_88 : decode b_Questions_answer 88 = .ok (.iconst 1, 1) := by decide +kernel
theorem d_Questions_answer_89 : decode b_Questions_answer 89 = .ok (.iadd, 1) := by decide +kernel
theorem d_Questions_answer_90 : decode b_Questions_answer 90 = .ok (.putfield 28, 3) := by decide +kernel
theorem d_Questions_answer_93 : decode b_Questions_answer 93 = .ok (.iload 5, 2) := by decide +kernel
theorem d_Questions_answer_95 : decode b_Questions_answer 95 = .ok (.ifCond .eq 13, 3) := by decide +kernel
theorem d_Questions_answer_98 : decode b_Questions_answer 98 = .ok (.aload_n 0, 1) := by decide +kernel
theorem d_Questions_answer_99 : decode b_Questions_answer 99 = .ok (.getfield 15, 3) := by decide +kernel
theorem d_Questions_answer_102 : decode b_Questions_answer 102 = .ok (.iload 4, 2) := by decide +kernel
theorem d_Questions_answer_104 : decode b_Questions_answer 104 = .ok (.iaload, 1) := by decide +kernel
theorem d_Questions_answer_105 : decode b_Questions_answer 105 = .ok (.goto 10, 3) := by decide +kernel
theorem d_Questions_answer_108 : decode b_Questions_answer 108 = .ok (.aload_n 0, 1) := by decide +kernel
theorem d_Questions_answer_109 : decode b_Questions_answer 109 = .ok (.getfield 19, 3) := by decide +kernel
theorem d_Questions_answer_112 : decode b_Questions_answer 112 = .ok (.iload 4, 2) := by decide +kernel
theorem d_Questions_answer_114 : decode b_Questions_answer 114 = .ok (.iaload, 1) := by decide +kernel
theorem d_Questions_answer_115 : decode b_Questions_answer 115 = .ok (.istore_n 2, 1) := by decide +kernel
theorem d_Questions_answer_116 : decode b_Questions_answer 116 = .ok (.iinc 3 1, 3) := by decide +kernel
theorem d_Questions_answer_119 : decode b_Questions_answer 119 = .ok (.goto (-110), 3) := by decide +kernel
theorem d_Questions_answer_122 : decode b_Questions_answer 122 = .ok (.iconst 1, 1) := by decide +kernel
theorem d_Questions_answer_123 : decode b_Questions_answer 123 = .ok (.ireturn, 1) := by decide +kernel
set_option maxHeartbeats 4000000 in
set_option maxRecDepth 100000 in
theorem l_Questions_answer_9 {p : Program} {l : Launch} {e : Env} {s : State} {m : MethodId} {args : Array Value} {below : List Frame} {meth : Method} {c : Code} {dC : Nat → ClassId} {dI : Nat → Nat → Nat} {L : Nat → Nat} {cA : Nat → ClassId} (a0 : Int32)  (hF : CallFix p m c b_Questions_answer 6 s args w_all R_Questions) (hK : kW_I dC dI cA s) (hL : ij 38 L) (hr : meth.sig.returnType = (some .boolean)) (hlocks : meth.locks = false) : ∀ (n : Nat) (v2 : Int32) (v3 : Int32) (ar : Nat → Nat → Int32) (sc : Nat → Int32), q_Questions_answer_9 a0 n v2 v3 ar sc → ∀ (H : Heap) (locs : List Loc), va_P (dC, dI) classes (wI L cA ar sc) H → va_S (aI L) s.heap H locs → ∀ (ls : Array Slot), lv_has ls 6 [(2, .int v2), (3, .int v3), (0, .ref (L 17)), (1, .int a0)] → W p l e (rmD 0) s m args below meth c H locs 0 0 (MQ below (va_Qi (fun (r : Int32) (u : oS) => (r, u.1, u.2) = g_Questions_answer_9 a0 n v2 v3 ar sc) (fun u t => va_P (dC, dI) classes (wI L cA u.1 u.2) t.heap) (aI L)) args s 0 0 (aI L)) (F0 m 9 ls []) := by
  have hx := hF.1
  have hb := hF.2.1
  have hown := hF.2.2.2.1
  have hts := hF.2.2.2.2
  intro n
  induction n with
  | zero => intro v2 v3 ar sc h; exact False.elim h
  | succ n ih =>
    intro v2 v3 ar sc h H locs hP hS ls hl
    rw [q_Questions_answer_9] at h
    refine lv_iload_n hx hb d_Questions_answer_9 rfl (lv_at hl 1 rfl) ?_
    refine lv_bipush (v := 16) hx hb d_Questions_answer_10 (by decide) ?_
    refine lv_icmp_ge (tgt := 122) hx hb d_Questions_answer_12 (by decide) (fun c12 => ?_) (fun c12 => ?_)
    · have h := h.1 c12
      refine lv_iconst (v := 1) hx hb d_Questions_answer_122 (by decide) ?_
      have hv : ((1, ar, sc) : Int32 × (Nat → Nat → Int32) × (Nat → Int32)) = g_Questions_answer_9 a0 (n + 1) v2 v3 ar sc := by rw [g_Questions_answer_9, if_pos c12]
      exact W.zret (ty := .boolean) (v := 1) hx hb hr rfl (fun t ht hW => ⟨⟨1, (ar, sc), rfl, hv, by dsimp only; rw [ht]; exact hP⟩, hS.F ht⟩) hS.2.2 d_Questions_answer_123
    · have h := h.2 c12
      refine lv_iload_n hx hb d_Questions_answer_15 rfl (lv_at hl 0 rfl) ?_
      refine lv_iconst (v := (-1)) hx hb d_Questions_answer_16 (by decide) ?_
      refine lv_icmp_eq (tgt := 122) hx hb d_Questions_answer_17 (by decide) (fun c17 => ?_) (fun c17 => ?_)
      · have h := h.1 c17
        refine lv_iconst (v := 1) hx hb d_Questions_answer_122 (by decide) ?_
        have hv : ((1, ar, sc) : Int32 × (Nat → Nat → Int32) × (Nat → Int32)) = g_Questions_answer_9 a0 (n + 1) v2 v3 ar sc := by rw [g_Questions_answer_9, if_neg c12, if_pos c17]
        exact W.zret (ty := .boolean) (v := 1) hx hb hr rfl (fun t ht hW => ⟨⟨1, (ar, sc), rfl, hv, by dsimp only; rw [ht]; exact hP⟩, hS.F ht⟩) hS.2.2 d_Questions_answer_123
      · have h := h.2 c17
        refine lv_iload_n hx hb d_Questions_answer_20 rfl (lv_at hl 0 rfl) ?_
        refine lv_istore (lv' := [(4, .int v2), (2, .int v2), (3, .int v3), (0, .ref (L 17)), (1, .int a0)]) hx hb d_Questions_answer_21 hl (by decide) rfl (fun ls hl => ?_)
        refine lv_aload_n hx hb d_Questions_answer_23 rfl (lv_at hl 3 rfl) ?_
        refine gf_Questions_told hF hK hP m_38 d_Questions_answer_24 ?_
        refine lv_iload hx hb d_Questions_answer_27 (lv_at hl 0 rfl) ?_
        have k29 := h.1
        have h := h.2
        refine alI_18 hF hK hP k29 d_Questions_answer_29 ?_
        refine lv_if_ne (tgt := 35) hx hb d_Questions_answer_30 (by decide) (fun c30 => ?_) (fun c30 => ?_)
        · have h := h.2 c30
          refine lv_iload_n hx hb d_Questions_answer_35 rfl (lv_at hl 4 rfl) ?_
          refine lv_iload hx hb d_Questions_answer_36 (lv_at hl 0 rfl) ?_
          refine lv_iushr hx hb d_Questions_answer_38 rfl ?_
          refine lv_iconst (v := 1) hx hb d_Questions_answer_39 (by decide) ?_
          refine lv_iand hx hb d_Questions_answer_40 ?_
          refine lv_iconst (v := 1) hx hb d_Questions_answer_41 (by decide) ?_
          refine lv_icmp_ne (tgt := 49) hx hb d_Questions_answer_42 (by decide) (fun c42 => ?_) (fun c42 => ?_)
          · have h := h.2 c42
            refine lv_iconst (v := 0) hx hb d_Questions_answer_49 (by decide) ?_
            refine lv_istore (lv' := [(5, .int 0), (4, .int v2), (2, .int v2), (3, .int v3), (0, .ref (L 17)), (1, .int a0)]) hx hb d_Questions_answer_50 hl (by decide) rfl (fun ls hl => ?_)
            refine lv_iload hx hb d_Questions_answer_52 (lv_at hl 0 rfl) ?_
            refine lv_if_ne (tgt := 93) hx hb d_Questions_answer_54 (by decide) (fun c9 => absurd c9 (by decide)) (fun _ => ?_)
            refine lv_aload_n hx hb d_Questions_answer_57 rfl (lv_at hl 4 rfl) ?_
            refine gf_Questions_weights hF hK hP m_41 d_Questions_answer_58 ?_
            refine lv_iload hx hb d_Questions_answer_61 (lv_at hl 1 rfl) ?_
            have k63 := h.1
            have h := h.2
            refine alI_21 hF hK hP k63 d_Questions_answer_63 ?_
            refine lv_if_le (tgt := 93) hx hb d_Questions_answer_64 (by decide) (fun c64 => ?_) (fun c64 => ?_)
            · have h := h.1 c64
              refine lv_iload hx hb d_Questions_answer_93 (lv_at hl 0 rfl) ?_
              refine lv_if_eq (tgt := 108) hx hb d_Questions_answer_95 (by decide) (fun _ => ?_) (fun c9 => absurd c9 (by decide))
              refine lv_aload_n hx hb d_Questions_answer_108 rfl (lv_at hl 4 rfl) ?_
              refine gf_Questions_afterNo hF hK hP m_40 d_Questions_answer_109 ?_
              refine lv_iload hx hb d_Questions_answer_112 (lv_at hl 1 rfl) ?_
              have k114 := h.1
              have h := h.2
              refine alI_20 hF hK hP k114 d_Questions_answer_114 ?_
              refine lv_istore_n (lv' := [(2, .int (ar 20 v2.toNatClampNeg)), (5, .int 0), (4, .int v2), (3, .int v3), (0, .ref (L 17)), (1, .int a0)]) hx hb d_Questions_answer_115 rfl hl (by decide) rfl (fun ls hl => ?_)
              refine lv_iinc (v := v3 + 1) (lv' := [(3, .int (v3 + 1)), (2, .int (ar 20 v2.toNatClampNeg)), (5, .int 0), (4, .int v2), (0, .ref (L 17)), (1, .int a0)]) hx hb d_Questions_answer_116 hl (k := 3) rfl rfl (by decide) rfl (fun ls hl => ?_)
              refine lv_goto (tgt := 9) hx hb d_Questions_answer_119 (by decide) ?_
              have hv : g_Questions_answer_9 a0 (n + 1) v2 v3 ar sc = g_Questions_answer_9 a0 n (ar 20 v2.toNatClampNeg) (v3 + 1) ar sc := by rw [g_Questions_answer_9, if_neg c12, if_neg c17, if_neg c30, if_neg c42, if_pos c64]
              rw [hv]
              exact ih (ar 20 v2.toNatClampNeg) (v3 + 1) ar sc h _ _ hP hS ls (lv_sub hl [1, 0, 4, 5] rfl)
            · have h := h.2 c64
              refine lv_aload_n hx hb d_Questions_answer_67 rfl (lv_at hl 4 rfl) ?_
              refine gf_Questions_found hF hK hP m_46 d_Questions_answer_68 ?_
              refine lv_aload_n hx hb d_Questions_answer_71 rfl (lv_at hl 4 rfl) ?_
              refine gf_Questions_foundCount hF hK hP m_47 d_Questions_answer_72 ?_
              refine lv_aload_n hx hb d_Questions_answer_75 rfl (lv_at hl 4 rfl) ?_
              refine gf_Questions_weights hF hK hP m_41 d_Questions_answer_76 ?_
              refine lv_iload hx hb d_Questions_answer_79 (lv_at hl 1 rfl) ?_
              have k81 := h.1
              have h := h.2
              refine alI_21 hF hK hP k81 d_Questions_answer_81 ?_
              have k82 := h.1
              have h := h.2
              refine asI_22 hF hK hP hL hS k82 d_Questions_answer_82 (fun H locs hP hS => ?_)
              refine lv_aload_n hx hb d_Questions_answer_83 rfl (lv_at hl 4 rfl) ?_
              refine lv_dup hx hb d_Questions_answer_84 rfl ?_
              refine gf_Questions_foundCount hF hK hP m_47 d_Questions_answer_85 ?_
              refine lv_iconst (v := 1) hx hb d_Questions_answer_88 (by decide) ?_
              refine lv_iadd hx hb d_Questions_answer_89 ?_
              refine pf_Questions_foundCount hF hK hP hL hS m_47 d_Questions_answer_90 (fun H locs hP hS => ?_)
              refine lv_iload hx hb d_Questions_answer_93 (lv_at hl 0 rfl) ?_
              refine lv_if_eq (tgt := 108) hx hb d_Questions_answer_95 (by decide) (fun _ => ?_) (fun c9 => absurd c9 (by decide))
              refine lv_aload_n hx hb d_Questions_answer_108 rfl (lv_at hl 4 rfl) ?_
              refine gf_Questions_afterNo hF hK hP m_40 d_Questions_answer_109 ?_
              refine lv_iload hx hb d_Questions_answer_112 (lv_at hl 1 rfl) ?_
              have k114 := h.1
              have h := h.2
              refine alI_20 hF hK hP k114 d_Questions_answer_114 ?_
              refine lv_istore_n (lv' := [(2, .int ((s2 ar 22 ((sc 3).toNatClampNeg) (ar 21 v2.toNatClampNeg)) 20 v2.toNatClampNeg)), (5, .int 0), (4, .int v2), (3, .int v3), (0, .ref (L 17)), (1, .int a0)]) hx hb d_Questions_answer_115 rfl hl (by decide) rfl (fun ls hl => ?_)
              refine lv_iinc (v := v3 + 1) (lv' := [(3, .int (v3 + 1)), (2, .int ((s2 ar 22 ((sc 3).toNatClampNeg) (ar 21 v2.toNatClampNeg)) 20 v2.toNatClampNeg)), (5, .int 0), (4, .int v2), (0, .ref (L 17)), (1, .int a0)]) hx hb d_Questions_answer_116 hl (k := 3) rfl rfl (by decide) rfl (fun ls hl => ?_)
              refine lv_goto (tgt := 9) hx hb d_Questions_answer_119 (by decide) ?_
              have hv : g_Questions_answer_9 a0 (n + 1) v2 v3 ar sc = g_Questions_answer_9 a0 n ((s2 ar 22 ((sc 3).toNatClampNeg) (ar 21 v2.toNatClampNeg)) 20 v2.toNatClampNeg) (v3 + 1) (s2 ar 22 ((sc 3).toNatClampNeg) (ar 21 v2.toNatClampNeg)) (sg sc 3 ((sc 3) + 1)) := by rw [g_Questions_answer_9, if_neg c12, if_neg c17, if_neg c30, if_neg c42, if_neg c64]
              rw [hv]
              exact ih ((s2 ar 22 ((sc 3).toNatClampNeg) (ar 21 v2.toNatClampNeg)) 20 v2.toNatClampNeg) (v3 + 1) (s2 ar 22 ((sc 3).toNatClampNeg) (ar 21 v2.toNatClampNeg)) (sg sc 3 ((sc 3) + 1)) h _ _ hP hS ls (lv_sub hl [1, 0, 4, 5] rfl)
          · have h := h.1 c42
            refine lv_iconst (v := 1) hx hb d_Questions_answer_45 (by decide) ?_
            refine lv_goto (tgt := 50) hx hb d_Questions_answer_46 (by decide) ?_
            refine lv_istore (lv' := [(5, .int 1), (4, .int v2), (2, .int v2), (3, .int v3), (0, .ref (L 17)), (1, .int a0)]) hx hb d_Questions_answer_50 hl (by decide) rfl (fun ls hl => ?_)
            refine lv_iload hx hb d_Questions_answer_52 (lv_at hl 0 rfl) ?_
            refine lv_if_ne (tgt := 93) hx hb d_Questions_answer_54 (by decide) (fun _ => ?_) (fun c9 => absurd c9 (by decide))
            refine lv_iload hx hb d_Questions_answer_93 (lv_at hl 0 rfl) ?_
            refine lv_if_eq (tgt := 108) hx hb d_Questions_answer_95 (by decide) (fun c9 => absurd c9 (by decide)) (fun _ => ?_)
            refine lv_aload_n hx hb d_Questions_answer_98 rfl (lv_at hl 4 rfl) ?_
            refine gf_Questions_afterYes hF hK hP m_39 d_Questions_answer_99 ?_
            refine lv_iload hx hb d_Questions_answer_102 (lv_at hl 1 rfl) ?_
            have k104 := h.1
            have h := h.2
            refine alI_19 hF hK hP k104 d_Questions_answer_104 ?_
            refine lv_goto (tgt := 115) hx hb d_Questions_answer_105 (by decide) ?_
            refine lv_istore_n (lv' := [(2, .int (ar 19 v2.toNatClampNeg)), (5, .int 1), (4, .int v2), (3, .int v3), (0, .ref (L 17)), (1, .int a0)]) hx hb d_Questions_answer_115 rfl hl (by decide) rfl (fun ls hl => ?_)
            refine lv_iinc (v := v3 + 1) (lv' := [(3, .int (v3 + 1)), (2, .int (ar 19 v2.toNatClampNeg)), (5, .int 1), (4, .int v2), (0, .ref (L 17)), (1, .int a0)]) hx hb d_Questions_answer_116 hl (k := 3) rfl rfl (by decide) rfl (fun ls hl => ?_)
            refine lv_goto (tgt := 9) hx hb d_Questions_answer_119 (by decide) ?_
            have hv : g_Questions_answer_9 a0 (n + 1) v2 v3 ar sc = g_Questions_answer_9 a0 n (ar 19 v2.toNatClampNeg) (v3 + 1) ar sc := by rw [g_Questions_answer_9, if_neg c12, if_neg c17, if_neg c30, if_pos c42]
            rw [hv]
            exact ih (ar 19 v2.toNatClampNeg) (v3 + 1) ar sc h _ _ hP hS ls (lv_sub hl [1, 0, 4, 5] rfl)
        · have h := h.1 c30
          refine lv_iconst (v := 0) hx hb d_Questions_answer_33 (by decide) ?_
          have hv : ((0, ar, sc) : Int32 × (Nat → Nat → Int32) × (Nat → Int32)) = g_Questions_answer_9 a0 (n + 1) v2 v3 ar sc := by rw [g_Questions_answer_9, if_neg c12, if_neg c17, if_pos c30]
          exact W.zret (ty := .boolean) (v := 0) hx hb hr rfl (fun t ht hW => ⟨⟨0, (ar, sc), rfl, hv, by dsimp only; rw [ht]; exact hP⟩, hS.F ht⟩) hS.2.2 d_Questions_answer_34
set_option maxHeartbeats 4000000 in
set_option maxRecDepth 100000 in
theorem c_Questions_answer (l : Launch) (dC : Nat → ClassId) (dI : Nat → Nat → Nat) (L : Nat → Nat) (cA : Nat → ClassId) (ar : Nat → Nat → Int32) (sc : Nat → Int32) (a0 : Int32) (hL : ij 38 L) (h : p_Questions_answer ar sc a0) : Met l y_Questions_answer z_Questions_answer (rmD 0) (va_Pc [.ref (L 17), .int a0] (fun U => xw_I dC dI L cA ar sc U)) (va_Qi (fun (r : Int32) (u : oS) => (r, u.1, u.2) = f_Questions_answer ar sc a0) (fun u t => va_P (dC, dI) classes (wI L cA u.1 u.2) t.heap) (aI L)) 0 0 (aI L) := by
  refine Met.ofW (cc := b_Questions_answer) (maxL := 6) (ret := (some .boolean)) (by decide) rfl ?_
  intro p e s m args below meth c s₁ B hml hv
  obtain ⟨rfl, ⟨hP, hK⟩⟩ := hv
  have hx := B.exec
  have hb := B.bytes
  have hr := B.returns
  have hts : ∀ w ∈ w_all, w.before _ s = true := fun w hw => atoms_spec (ws := z_Questions_answer) B.pre w (List.mem_cons_of_mem _ hw)
  have hown : s.vm.findClass R_Questions = some m.cls := findClass_of_methodNamed B.named
  have hlocks := B.notSynchronized
  have hF : CallFix p m c b_Questions_answer 6 s _ w_all R_Questions := ⟨hx, hb, hml, hown, hts⟩
  have hS : va_S (aI L) s.heap s.heap [] := va_S.rf
  have hl := lv_entry ([.ref (L 17), .int a0]) (n := 6) (Nat.le_of_ble_eq_true rfl)
  rw [lg_entry_eq]
  generalize (lg_sl ([.ref (L 17), .int a0]) ++ List.replicate (6 - (lg_sl ([.ref (L 17), .int a0])).length) Slot.unset).toArray = ls at hl ⊢
  have hl : lv_has ls 6 [(0, .ref (L 17)), (1, .int a0)] := hl
  unfold p_Questions_answer at h
  refine lv_aload_n hx hb d_Questions_answer_0 rfl (lv_at hl 0 rfl) ?_
  refine lv_iconst (v := 0) hx hb d_Questions_answer_1 (by decide) ?_
  refine pf_Questions_foundCount hF hK hP hL hS m_47 d_Questions_answer_2 (fun H locs hP hS => ?_)
  refine lv_iconst (v := 0) hx hb d_Questions_answer_5 (by decide) ?_
  refine lv_istore_n (lv' := [(2, .int 0), (0, .ref (L 17)), (1, .int a0)]) hx hb d_Questions_answer_6 rfl hl (by decide) rfl (fun ls hl => ?_)
  refine lv_iconst (v := 0) hx hb d_Questions_answer_7 (by decide) ?_
  refine lv_istore_n (lv' := [(3, .int 0), (2, .int 0), (0, .ref (L 17)), (1, .int a0)]) hx hb d_Questions_answer_8 rfl hl (by decide) rfl (fun ls hl => ?_)
  have kL9 := h
  have hv : f_Questions_answer ar sc a0 = g_Questions_answer_9 a0 200 0 0 ar (sg sc 3 0) := by rw [f_Questions_answer]
  rw [hv]
  exact l_Questions_answer_9 a0 hF hK hL hr hlocks 200 0 0 ar (sg sc 3 0) kL9 _ _ hP hS ls (lv_sub hl [1, 0, 2, 3] rfl)
set_option maxHeartbeats 1000000 in
theorem r_Questions_answer {p : Program} {l : Launch} {e : Env} {R : Room} {s : State} {m : MethodId} {args : Array Value} {below : List Frame} {meth : Method} {c : Code} {H : Heap} {locs : List Loc} {cells slots : Nat} {Q : State → Prop} {cc : ByteArray} {nL pc idx : Nat} {ls : Array Slot} {rest : List Value} {own : String} {dC : Nat → ClassId} {dI : Nat → Nat → Nat} {L : Nat → Nat} {cA : Nat → ClassId} {ar : Nat → Nat → Int32} {sc : Nat → Int32} {H0 : Heap} {a0 : Int32} (hF : CallFix p m c cc nL s args w_all own) (hK : kW_I dC dI cA s) (hP : va_P (dC, dI) classes (wI L cA ar sc) H) (hL : ij 38 L) (hS : va_S (aI L) H0 H locs) (h : p_Questions_answer ar sc a0) (hlk : Cond.methodLink own idx y_Questions_answer ∈ w_all) (hsz : ls.size = nL) (hR : (rmD 0).frames + 1 ≤ R.frames ∧ 8 + (6 + 11) + (rmD 0).locals ≤ R.locals) (hc : cells ≤ R.cells ∧ slots ≤ R.slots) (hrs : (rest.map fun v => v.category).sum ≤ 8) (hdg : decode cc pc = .ok (.invokevirtual idx, 3)) (kk : ∀ (H1 : Heap) (locs1 : List Loc), va_P (dC, dI) classes (wI L cA ((f_Questions_answer ar sc a0).2.1) ((f_Questions_answer ar sc a0).2.2)) H1 → va_S (aI L) H0 H1 locs1 → W p l e R s m args below meth c H1 locs1 cells slots Q (F0 m (pc + 3) ls (.int (f_Questions_answer ar sc a0).1 :: rest))) : W p l e R s m args below meth c H locs cells slots Q (F0 m pc ls (.int a0 :: .ref (L 17) :: rest)) :=
  va_calli (va_runV (As := [.int a0]) (rest := rest) hF (c_Questions_answer l dC dI L cA ar sc a0 hL h) (cwV 1 hF.2.2.2.2 (gV hlk m_48 m_49 m_44 m_50) rfl rfl rfl (by decide +kernel) hR) ⟨xb_I, va_recv hK.1 hP (ci := 4) (q0 := 17) rfl rfl, fun U hU hW => ⟨rfl, by rw [hU]; exact hP, kW_I_warm hW hK⟩⟩ rfl rfl hsz rfl (lv_room hrs) hdg hc) hS (fun q _ h9 => h9) (fun q h9 => h9) (fun r u t H1 locs1 ht hvm hw hB hz1 hk1 hS1 => by
    have hk9 := kk H1 locs1 (by rw [← hw, ← ht]; exact hB) hS1
    rw [← hw] at hk9
    exact hk9)
end
section
theorem m_51 : (Cond.methodLink R_Permits 72 Lib.Math.max.name) ∈ w_all := List.mem_filter.mpr ⟨List.mem_of_getElem? (i := 679) (by decide +kernel), by decide +kernel⟩
theorem m_52 : (Cond.static Lib.Math.max.name) ∈ w_all := List.mem_filter.mpr ⟨List.mem_of_getElem? (i := 680) (by decide +kernel), by decide +kernel⟩
theorem m_53 : (Cond.initialized "java/lang/Math") ∈ w_all := List.mem_filter.mpr ⟨List.mem_of_getElem? (i := 47) (by decide +kernel), by decide +kernel⟩
theorem m_54 : (Cond.code Lib.Math.max.name Lib.Math.max.code 2 (some .int)) ∈ w_all := List.mem_filter.mpr ⟨List.mem_of_getElem? (i := 681) (by decide +kernel), by decide +kernel⟩
theorem m_55 : (Cond.static y_Permits_gap) ∈ w_all := List.mem_filter.mpr ⟨List.mem_of_getElem? (i := 677) (by decide +kernel), by decide +kernel⟩
theorem m_56 : (Cond.initialized R_Permits) ∈ w_all := List.mem_filter.mpr ⟨List.mem_of_getElem? (i := 38) (by decide +kernel), by decide +kernel⟩
theorem m_57 : (Cond.code y_Permits_gap b_Permits_gap 4 (some .long)) ∈ w_all := List.mem_filter.mpr ⟨List.mem_of_getElem? (i := 678) (by decide +kernel), by decide +kernel⟩
theorem m_58 : (Cond.fieldLink R_Permits 54 "InspectRows$Permits" "groundX2" "I") ∈ w_all := List.mem_filter.mpr ⟨List.mem_of_getElem? (i := 215) (by decide +kernel), by decide +kernel⟩
theorem m_59 : (Cond.fieldLink R_Permits 48 "InspectRows$Permits" "groundX1" "I") ∈ w_all := List.mem_filter.mpr ⟨List.mem_of_getElem? (i := 213) (by decide +kernel), by decide +kernel⟩
theorem m_60 : (Cond.fieldLink R_Permits 57 "InspectRows$Permits" "groundY2" "I") ∈ w_all := List.mem_filter.mpr ⟨List.mem_of_getElem? (i := 216) (by decide +kernel), by decide +kernel⟩
theorem m_61 : (Cond.fieldLink R_Permits 51 "InspectRows$Permits" "groundY1" "I") ∈ w_all := List.mem_filter.mpr ⟨List.mem_of_getElem? (i := 214) (by decide +kernel), by decide +kernel⟩
theorem m_62 : (Cond.instanceMethod y_Permits_groundArea) ∈ w_all := List.mem_filter.mpr ⟨List.mem_of_getElem? (i := 670) (by decide +kernel), by decide +kernel⟩
theorem m_63 : (Cond.selects R_Permits y_Permits_groundArea y_Permits_groundArea) ∈ w_all := List.mem_filter.mpr ⟨List.mem_of_getElem? (i := 15) (by decide +kernel), by decide +kernel⟩
theorem m_64 : (Cond.code y_Permits_groundArea b_Permits_groundArea 1 (some .long)) ∈ w_all := List.mem_filter.mpr ⟨List.mem_of_getElem? (i := 671) (by decide +kernel), by decide +kernel⟩
theorem m_65 : (Cond.fieldLink R_Permits 9 "InspectRows$Permits" "x1s" "[I") ∈ w_all := List.mem_filter.mpr ⟨List.mem_of_getElem? (i := 202) (by decide +kernel), by decide +kernel⟩
theorem m_66 : (Cond.fieldLink R_Permits 18 "InspectRows$Permits" "x2s" "[I") ∈ w_all := List.mem_filter.mpr ⟨List.mem_of_getElem? (i := 204) (by decide +kernel), by decide +kernel⟩
theorem m_67 : (Cond.methodLink R_Permits 68 y_Permits_gap) ∈ w_all := List.mem_filter.mpr ⟨List.mem_of_getElem? (i := 676) (by decide +kernel), by decide +kernel⟩
theorem m_68 : (Cond.fieldLink R_Permits 15 "InspectRows$Permits" "y1s" "[I") ∈ w_all := List.mem_filter.mpr ⟨List.mem_of_getElem? (i := 203) (by decide +kernel), by decide +kernel⟩
theorem m_69 : (Cond.fieldLink R_Permits 21 "InspectRows$Permits" "y2s" "[I") ∈ w_all := List.mem_filter.mpr ⟨List.mem_of_getElem? (i := 205) (by decide +kernel), by decide +kernel⟩
theorem m_70 : (Cond.fieldLink R_Permits 42 "InspectRows$Permits" "distance" "I") ∈ w_all := List.mem_filter.mpr ⟨List.mem_of_getElem? (i := 219) (by decide +kernel), by decide +kernel⟩
theorem m_71 : (Cond.instanceMethod y_Permits_isTooNear) ∈ w_all := List.mem_filter.mpr ⟨List.mem_of_getElem? (i := 674) (by decide +kernel), by decide +kernel⟩
theorem m_72 : (Cond.selects R_Permits y_Permits_isTooNear y_Permits_isTooNear) ∈ w_all := List.mem_filter.mpr ⟨List.mem_of_getElem? (i := 16) (by decide +kernel), by decide +kernel⟩
theorem m_73 : (Cond.code y_Permits_isTooNear b_Permits_isTooNear 6 (some .boolean)) ∈ w_all := List.mem_filter.mpr ⟨List.mem_of_getElem? (i := 675) (by decide +kernel), by decide +kernel⟩
theorem m_74 : (Cond.fieldLink R_Permits 30 "InspectRows$Permits" "count" "I") ∈ w_all := List.mem_filter.mpr ⟨List.mem_of_getElem? (i := 210) (by decide +kernel), by decide +kernel⟩
theorem m_75 : (Cond.fieldLink R_Permits 27 "InspectRows$Permits" "tos" "[I") ∈ w_all := List.mem_filter.mpr ⟨List.mem_of_getElem? (i := 208) (by decide +kernel), by decide +kernel⟩
theorem m_76 : (Cond.fieldLink R_Permits 24 "InspectRows$Permits" "froms" "[I") ∈ w_all := List.mem_filter.mpr ⟨List.mem_of_getElem? (i := 206) (by decide +kernel), by decide +kernel⟩
theorem m_77 : (Cond.methodLink R_Permits 64 y_Permits_isTooNear) ∈ w_all := List.mem_filter.mpr ⟨List.mem_of_getElem? (i := 672) (by decide +kernel), by decide +kernel⟩
theorem m_78 : (Cond.fieldLink R_Permits 34 "InspectRows$Permits" "groundTold" "Z") ∈ w_all := List.mem_filter.mpr ⟨List.mem_of_getElem? (i := 212) (by decide +kernel), by decide +kernel⟩
theorem m_79 : (Cond.methodLink R_Permits 60 y_Permits_groundArea) ∈ w_all := List.mem_filter.mpr ⟨List.mem_of_getElem? (i := 668) (by decide +kernel), by decide +kernel⟩
theorem m_80 : (Cond.fieldLink R_Permits 39 "InspectRows$Permits" "space" "I") ∈ w_all := List.mem_filter.mpr ⟨List.mem_of_getElem? (i := 217) (by decide +kernel), by decide +kernel⟩
theorem m_81 : (Cond.instanceMethod y_Permits_findClash) ∈ w_all := List.mem_filter.mpr ⟨List.mem_of_getElem? (i := 665) (by decide +kernel), by decide +kernel⟩
theorem m_82 : (Cond.selects R_Permits y_Permits_findClash y_Permits_findClash) ∈ w_all := List.mem_filter.mpr ⟨List.mem_of_getElem? (i := 666) (by decide +kernel), by decide +kernel⟩
theorem m_83 : (Cond.code y_Permits_findClash b_Permits_findClash 6 (some .int)) ∈ w_all := List.mem_filter.mpr ⟨List.mem_of_getElem? (i := 667) (by decide +kernel), by decide +kernel⟩
theorem m_84 : (Cond.instanceMethod y_Permits_tellGround) ∈ w_all := List.mem_filter.mpr ⟨List.mem_of_getElem? (i := 698) (by decide +kernel), by decide +kernel⟩
theorem m_85 : (Cond.selects R_Permits y_Permits_tellGround y_Permits_tellGround) ∈ w_all := List.mem_filter.mpr ⟨List.mem_of_getElem? (i := 699) (by decide +kernel), by decide +kernel⟩
theorem m_86 : (Cond.code y_Permits_tellGround b_Permits_tellGround 5 none) ∈ w_all := List.mem_filter.mpr ⟨List.mem_of_getElem? (i := 700) (by decide +kernel), by decide +kernel⟩
theorem m_87 : (Cond.instanceMethod y_Permits_add) ∈ w_all := List.mem_filter.mpr ⟨List.mem_of_getElem? (i := 683) (by decide +kernel), by decide +kernel⟩
theorem m_88 : (Cond.selects R_Permits y_Permits_add y_Permits_add) ∈ w_all := List.mem_filter.mpr ⟨List.mem_of_getElem? (i := 684) (by decide +kernel), by decide +kernel⟩
theorem m_89 : (Cond.code y_Permits_add b_Permits_add 4 (some .int)) ∈ w_all := List.mem_filter.mpr ⟨List.mem_of_getElem? (i := 685) (by decide +kernel), by decide +kernel⟩
theorem d_Permits_gap_0 : decode b_Permits_gap 0 = .ok (.iconst 0, 1) := by decide +kernel
theorem d_Permits_gap_1 : decode b_Permits_gap 1 = .ok (.iload_n 2, 1) := by decide +kernel
theorem d_Permits_gap_2 : decode b_Permits_gap 2 = .ok (.iload_n 1, 1) := by decide +kernel
theorem d_Permits_gap_3 : decode b_Permits_gap 3 = .ok (.isub, 1) := by decide +kernel
theorem d_Permits_gap_4 : decode b_Permits_gap 4 = .ok (.iload_n 0, 1) := by decide +kernel
theorem d_Permits_gap_5 : decode b_Permits_gap 5 = .ok (.iload_n 3, 1) := by decide +kernel
theorem d_Permits_gap_6 : decode b_Permits_gap 6 = .ok (.isub, 1) := by decide +kernel
theorem d_Permits_gap_7 : decode b_Permits_gap 7 = .ok (.invokestatic 72, 3) := by decide +kernel
theorem d_Permits_gap_10 : decode b_Permits_gap 10 = .ok (.invokestatic 72, 3) := by decide +kernel
theorem d_Permits_gap_13 : decode b_Permits_gap 13 = .ok (.i2l, 1) := by decide +kernel
theorem d_Permits_gap_14 : decode b_Permits_gap 14 = .ok (.lreturn, 1) := by decide +kernel
set_option maxHeartbeats 4000000 in
set_option maxRecDepth 100000 in
theorem c_Permits_gap (l : Launch) (a0 : Int32) (a1 : Int32) (a2 : Int32) (a3 : Int32) : Met l y_Permits_gap z_Permits_gap (rmD 1) (fun v _ => v = ([.int a0, .int a1, .int a2, .int a3] : List Value).toArray) (QcReadL (f_Permits_gap a0 a1 a2 a3)) 0 0 (fun _ => False) := by
  refine Met.ofW (cc := b_Permits_gap) (maxL := 4) (ret := (some .long)) (by decide) rfl ?_
  intro p e s m args below meth c s₁ B hml hv
  obtain rfl := hv
  have hx := B.exec
  have hb := B.bytes
  have hr := B.returns
  have hts : ∀ w ∈ w_all, w.before _ s = true := fun w hw => atoms_spec (ws := z_Permits_gap) B.pre w (List.mem_cons_of_mem _ hw)
  have hown : s.vm.findClass R_Permits = some m.cls := findClass_of_methodNamed B.named
  have hlocks := B.notSynchronized
  have hF : CallFix p m c b_Permits_gap 4 s _ w_all R_Permits := ⟨hx, hb, hml, hown, hts⟩
  have hl := lv_entry ([.int a0, .int a1, .int a2, .int a3]) (n := 4) (Nat.le_of_ble_eq_true rfl)
  rw [lg_entry_eq]
  generalize (lg_sl ([.int a0, .int a1, .int a2, .int a3]) ++ List.replicate (4 - (lg_sl ([.int a0, .int a1, .int a2, .int a3])).length) Slot.unset).toArray = ls at hl ⊢
  have hl : lv_has ls 4 [(0, .int a0), (1, .int a1), (2, .int a2), (3, .int a3)] := hl
  refine lv_iconst (v := 0) hx hb d_Permits_gap_0 (by decide) ?_
  refine lv_iload_n hx hb d_Permits_gap_1 rfl (lv_at hl 2 rfl) ?_
  refine lv_iload_n hx hb d_Permits_gap_2 rfl (lv_at hl 1 rfl) ?_
  refine lv_isub hx hb d_Permits_gap_3 ?_
  refine lv_iload_n hx hb d_Permits_gap_4 rfl (lv_at hl 0 rfl) ?_
  refine lv_iload_n hx hb d_Permits_gap_5 rfl (lv_at hl 3 rfl) ?_
  refine lv_isub hx hb d_Permits_gap_6 ?_
  refine va_mmax hx hb (hF.2.2.1.trans hl.1.symm) hown (hts _ m_51) (hts _ m_52) (hts _ m_53) (hts _ m_54) (Nat.le_of_ble_eq_true rfl) (Nat.le_of_ble_eq_true rfl) (Nat.zero_le _) (Nat.zero_le _) d_Permits_gap_7 ?_
  refine va_mmax hx hb (hF.2.2.1.trans hl.1.symm) hown (hts _ m_51) (hts _ m_52) (hts _ m_53) (hts _ m_54) (Nat.le_of_ble_eq_true rfl) (Nat.le_of_ble_eq_true rfl) (Nat.zero_le _) (Nat.zero_le _) d_Permits_gap_10 ?_
  refine lv_i2l hx hb d_Permits_gap_13 rfl ?_
  have hv : ((if 0 < (if (a2 - a1) < (a0 - a3) then (a0 - a3) else (a2 - a1)) then (if (a2 - a1) < (a0 - a3) then (a0 - a3) else (a2 - a1)) else 0).toInt64 : Int64) = f_Permits_gap a0 a1 a2 a3 := by rw [f_Permits_gap]
  exact W.lret (v := (if 0 < (if (a2 - a1) < (a0 - a3) then (a0 - a3) else (a2 - a1)) then (if (a2 - a1) < (a0 - a3) then (a0 - a3) else (a2 - a1)) else 0).toInt64) hx hb hr (fun t ht hW => ⟨congrArg (fun z => Outcome.returned (some (Value.long z))) hv, ht⟩) (fun _ h9 => nomatch h9) d_Permits_gap_14
set_option maxHeartbeats 1000000 in
theorem r_Permits_gap {p : Program} {l : Launch} {e : Env} {R : Room} {s : State} {m : MethodId} {args : Array Value} {below : List Frame} {meth : Method} {c : Code} {H : Heap} {locs : List Loc} {cells slots : Nat} {Q : State → Prop} {cc : ByteArray} {nL pc idx : Nat} {ls : Array Slot} {rest : List Value} {a0 : Int32} {a1 : Int32} {a2 : Int32} {a3 : Int32} (hF : CallFix p m c cc nL s args w_all R_Permits) (hlk : Cond.methodLink R_Permits idx y_Permits_gap ∈ w_all) (hsz : ls.size = nL) (hR : (rmD 1).frames + 1 ≤ R.frames ∧ 8 + (4 + 11) + (rmD 1).locals ≤ R.locals) (hc : cells ≤ R.cells ∧ slots ≤ R.slots) (hrs : (rest.map fun v => v.category).sum ≤ 8) (hdg : decode cc pc = .ok (.invokestatic idx, 3)) (kk : W p l e R s m args below meth c H locs cells slots Q (F0 m (pc + 3) ls (.long (f_Permits_gap a0 a1 a2 a3) :: rest))) : W p l e R s m args below meth c H locs cells slots Q (F0 m pc ls (.int a3 :: .int a2 :: .int a1 :: .int a0 :: rest)) :=
  cv_callL (W.runS (As := [.int a0, .int a1, .int a2, .int a3]) (rest := rest) hF (c_Permits_gap l a0 a1 a2 a3) (cwS 4 hF.2.2.2.2 (gS hlk m_55 m_56 m_57) rfl rfl rfl (by decide +kernel) hR) preEq rfl rfl hsz rfl (lv_room hrs) hdg hc) kk
theorem d_Permits_groundArea_0 : decode b_Permits_groundArea 0 = .ok (.aload_n 0, 1) := by decide +kernel
theorem d_Permits_groundArea_1 : decode b_Permits_groundArea 1 = .ok (.getfield 54, 3) := by decide +kernel
theorem d_Permits_groundArea_4 : decode b_Permits_groundArea 4 = .ok (.aload_n 0, 1) := by decide +kernel
theorem d_Permits_groundArea_5 : decode b_Permits_groundArea 5 = .ok (.getfield 48, 3) := by decide +kernel
theorem d_Permits_groundArea_8 : decode b_Permits_groundArea 8 = .ok (.isub, 1) := by decide +kernel
theorem d_Permits_groundArea_9 : decode b_Permits_groundArea 9 = .ok (.i2l, 1) := by decide +kernel
theorem d_Permits_groundArea_10 : decode b_Permits_groundArea 10 = .ok (.aload_n 0, 1) := by decide +kernel
theorem d_Permits_groundArea_11 : decode b_Permits_groundArea 11 = .ok (.getfield 57, 3) := by decide +kernel
theorem d_Permits_groundArea_14 : decode b_Permits_groundArea 14 = .ok (.aload_n 0, 1) := by decide +kernel
theorem d_Permits_groundArea_15 : decode b_Permits_groundArea 15 = .ok (.getfield 51, 3) := by decide +kernel
theorem d_Permits_groundArea_18 : decode b_Permits_groundArea 18 = .ok (.isub, 1) := by decide +kernel
theorem d_Permits_groundArea_19 : decode b_Permits_groundArea 19 = .ok (.i2l, 1) := by decide +kernel
theorem d_Permits_groundArea_20 : decode b_Permits_groundArea 20 = .ok (.lmul, 1) := by decide +kernel
theorem d_Permits_groundArea_21 : decode b_Permits_groundArea 21 = .ok (.lreturn, 1) := by decide +kernel
set_option maxHeartbeats 4000000 in
set_option maxRecDepth 100000 in
theorem c_Permits_groundArea (l : Launch) (dC : Nat → ClassId) (dI : Nat → Nat → Nat) (L : Nat → Nat) (cA : Nat → ClassId) (ar : Nat → Nat → Int32) (sc : Nat → Int32) : Met l y_Permits_groundArea z_Permits_groundArea (rmD 0) (va_Pc [.ref (L 30)] (fun U => xw_I dC dI L cA ar sc U)) (QcReadL (f_Permits_groundArea ar sc )) 0 0 (fun _ => False) := by
  refine Met.ofW (cc := b_Permits_groundArea) (maxL := 1) (ret := (some .long)) (by decide) rfl ?_
  intro p e s m args below meth c s₁ B hml hv
  obtain ⟨rfl, ⟨hP, hK⟩⟩ := hv
  have hx := B.exec
  have hb := B.bytes
  have hr := B.returns
  have hts : ∀ w ∈ w_all, w.before _ s = true := fun w hw => atoms_spec (ws := z_Permits_groundArea) B.pre w (List.mem_cons_of_mem _ hw)
  have hown : s.vm.findClass R_Permits = some m.cls := findClass_of_methodNamed B.named
  have hlocks := B.notSynchronized
  have hF : CallFix p m c b_Permits_groundArea 1 s _ w_all R_Permits := ⟨hx, hb, hml, hown, hts⟩
  have hl := lv_entry ([.ref (L 30)]) (n := 1) (Nat.le_of_ble_eq_true rfl)
  rw [lg_entry_eq]
  generalize (lg_sl ([.ref (L 30)]) ++ List.replicate (1 - (lg_sl ([.ref (L 30)])).length) Slot.unset).toArray = ls at hl ⊢
  have hl : lv_has ls 1 [(0, .ref (L 30))] := hl
  refine lv_aload_n hx hb d_Permits_groundArea_0 rfl (lv_at hl 0 rfl) ?_
  refine gf_Permits_groundX2 hF hK hP m_58 d_Permits_groundArea_1 ?_
  refine lv_aload_n hx hb d_Permits_groundArea_4 rfl (lv_at hl 0 rfl) ?_
  refine gf_Permits_groundX1 hF hK hP m_59 d_Permits_groundArea_5 ?_
  refine lv_isub hx hb d_Permits_groundArea_8 ?_
  refine lv_i2l hx hb d_Permits_groundArea_9 rfl ?_
  refine lv_aload_n hx hb d_Permits_groundArea_10 rfl (lv_at hl 0 rfl) ?_
  refine gf_Permits_groundY2 hF hK hP m_60 d_Permits_groundArea_11 ?_
  refine lv_aload_n hx hb d_Permits_groundArea_14 rfl (lv_at hl 0 rfl) ?_
  refine gf_Permits_groundY1 hF hK hP m_61 d_Permits_groundArea_15 ?_
  refine lv_isub hx hb d_Permits_groundArea_18 ?_
  refine lv_i2l hx hb d_Permits_groundArea_19 rfl ?_
  refine lv_lmul hx hb d_Permits_groundArea_20 ?_
  have hv : ((((sc 9) - (sc 7)).toInt64) * (((sc 10) - (sc 8)).toInt64) : Int64) = f_Permits_groundArea ar sc  := by rw [f_Permits_groundArea]
  exact W.lret (v := (((sc 9) - (sc 7)).toInt64) * (((sc 10) - (sc 8)).toInt64)) hx hb hr (fun t ht hW => ⟨congrArg (fun z => Outcome.returned (some (Value.long z))) hv, ht⟩) (fun _ h9 => nomatch h9) d_Permits_groundArea_21
set_option maxHeartbeats 1000000 in
theorem r_Permits_groundArea {p : Program} {l : Launch} {e : Env} {R : Room} {s : State} {m : MethodId} {args : Array Value} {below : List Frame} {meth : Method} {c : Code} {H : Heap} {locs : List Loc} {cells slots : Nat} {Q : State → Prop} {cc : ByteArray} {nL pc idx : Nat} {ls : Array Slot} {rest : List Value} {own : String} {dC : Nat → ClassId} {dI : Nat → Nat → Nat} {L : Nat → Nat} {cA : Nat → ClassId} {ar : Nat → Nat → Int32} {sc : Nat → Int32}  (hF : CallFix p m c cc nL s args w_all own) (hK : kW_I dC dI cA s) (hP : va_P (dC, dI) classes (wI L cA ar sc) H) (hlk : Cond.methodLink own idx y_Permits_groundArea ∈ w_all) (hsz : ls.size = nL) (hR : (rmD 0).frames + 1 ≤ R.frames ∧ 8 + (1 + 11) + (rmD 0).locals ≤ R.locals) (hc : cells ≤ R.cells ∧ slots ≤ R.slots) (hrs : (rest.map fun v => v.category).sum ≤ 8) (hdg : decode cc pc = .ok (.invokevirtual idx, 3)) (kk : W p l e R s m args below meth c H locs cells slots Q (F0 m (pc + 3) ls (.long (f_Permits_groundArea ar sc ) :: rest))) : W p l e R s m args below meth c H locs cells slots Q (F0 m pc ls (.ref (L 30) :: rest)) :=
  cv_callL (W.runV (As := []) (rest := rest) hF (c_Permits_groundArea l dC dI L cA ar sc ) (cwV 0 hF.2.2.2.2 (gV hlk m_62 m_63 m_56 m_64) rfl rfl rfl (by decide +kernel) hR) ⟨xb_I, va_recv hK.1 hP (ci := 6) (q0 := 30) rfl rfl, fun U hU hW => ⟨rfl, by rw [hU]; exact hP, kW_I_warm hW hK⟩⟩ rfl rfl hsz rfl (lv_room hrs) hdg hc) kk
theorem d_Permits_isTooNear_0 : decode b_Permits_isTooNear 0 = .ok (.aload_n 0, 1) := by decide +kernel
theorem d_Permits_isTooNear_1 : decode b_Permits_isTooNear 1 = .ok (.getfield 48, 3) := by decide +kernel
theorem d_Permits_isTooNear_4 : decode b_Permits_isTooNear 4 = .ok (.aload_n 0, 1) := by decide +kernel
theorem d_Permits_isTooNear_5 : decode b_Permits_isTooNear 5 = .ok (.getfield 54, 3) := by decide +kernel
theorem d_Permits_isTooNear_8 : decode b_Permits_isTooNear 8 = .ok (.aload_n 0, 1) := by decide +kernel
theorem d_Permits_isTooNear_9 : decode b_Permits_isTooNear 9 = .ok (.getfield 9, 3) := by decide +kernel
theorem d_Permits_isTooNear_12 : decode b_Permits_isTooNear 12 = .ok (.iload_n 1, 1) := by decide +kernel
theorem d_Permits_isTooNear_13 : decode b_Permits_isTooNear 13 = .ok (.iaload, 1) := by decide +kernel
theorem d_Permits_isTooNear_14 : decode b_Permits_isTooNear 14 = .ok (.aload_n 0, 1) := by decide +kernel
theorem d_Permits_isTooNear_15 : decode b_Permits_isTooNear 15 = .ok (.getfield 18, 3) := by decide +kernel
theorem d_Permits_isTooNear_18 : decode b_Permits_isTooNear 18 = .ok (.iload_n 1, 1) := by decide +kernel
theorem d_Permits_isTooNear_19 : decode b_Permits_isTooNear 19 = .ok (.iaload, 1) := by decide +kernel
theorem d_Permits_isTooNear_20 : decode b_Permits_isTooNear 20 = .ok (.invokestatic 68, 3) := by decide +kernel
theorem d_Permits_isTooNear_23 : decode b_Permits_isTooNear 23 = .ok (.lstore_n 2, 1) := by decide +kernel
theorem d_Permits_isTooNear_24 : decode b_Permits_isTooNear 24 = .ok (.aload_n 0, 1) := by decide +kernel
theorem d_Permits_isTooNear_25 : decode b_Permits_isTooNear 25 = .ok (.getfield 51, 3) := by decide +kernel
theorem d_Permits_isTooNear_28 : decode b_Permits_isTooNear 28 = .ok (.aload_n 0, 1) := by decide +kernel
theorem d_Permits_isTooNear_29 : decode b_Permits_isTooNear 29 = .ok (.getfield 57, 3) := by decide +kernel
theorem d_Permits_isTooNear_32 : decode b_Permits_isTooNear 32 = .ok (.aload_n 0, 1) := by decide +kernel
theorem d_Permits_isTooNear_33 : decode b_Permits_isTooNear 33 = .ok (.getfield 15, 3) := by decide +kernel
theorem d_Permits_isTooNear_36 : decode b_Permits_isTooNear 36 = .ok (.iload_n 1, 1) := by decide +kernel
theorem d_Permits_isTooNear_37 : decode b_Permits_isTooNear 37 = .ok (.iaload, 1) := by decide +kernel
theorem d_Permits_isTooNear_38 : decode b_Permits_isTooNear 38 = .ok (.aload_n 0, 1) := by decide +kernel
theorem d_Permits_isTooNear_39 : decode b_Permits_isTooNear 39 = .ok (.getfield 21, 3) := by decide +kernel
theorem d_Permits_isTooNear_42 : decode b_Permits_isTooNear 42 = .ok (.iload_n 1, 1) := by decide +kernel
theorem d_Permits_isTooNear_43 : decode b_Permits_isTooNear 43 = .ok (.iaload, 1) := by decide +kernel
theorem d_Permits_isTooNear_44 : decode b_Permits_isTooNear 44 = .ok (.invokestatic 68, 3) := by decide +kernel
theorem d_Permits_isTooNear_47 : decode b_Permits_isTooNear 47 = .ok (.lstore 4, 2) := by decide +kernel
theorem d_Permits_isTooNear_49 : decode b_Permits_isTooNear 49 = .ok (.lload_n 2, 1) := by decide +kernel
theorem d_Permits_isTooNear_50 : decode b_Permits_isTooNear 50 = .ok (.lload_n 2, 1) := by decide +kernel
theorem d_Permits_isTooNear_51 : decode b_Permits_isTooNear 51 = .ok (.lmul, 1) := by decide +kernel
theorem d_Permits_isTooNear_52 : decode b_Permits_isTooNear 52 = .ok (.lload 4, 2) := by decide +kernel
theorem d_Permits_isTooNear_54 : decode b_Permits_isTooNear 54 = .ok (.lload 4, 2) := by decide +kernel
theorem d_Permits_isTooNear_56 : decode b_Permits_isTooNear 56 = .ok (.lmul, 1) := by decide +kernel
theorem d_Permits_isTooNear_57 : decode b_Permits_isTooNear 57 = .ok (.ladd, 1) := by decide +kernel
theorem d_Permits_isTooNear_58 : decode b_Permits_isTooNear 58 = .ok (.aload_n 0, 1) := by decide +kernel
theorem d_Permits_isTooNear_59 : decode b_Permits_isTooNear 59 = .ok (.getfield 42, 3) := by decide +kernel
theorem d_Permits_isTooNear_62 : decode b_Permits_isTooNear 62 = .ok (.i2l, 1) := by decide +kernel
theorem d_Permits_isTooNear_63 : decode b_Permits_isTooNear 63 = .ok (.aload_n 0, 1) := by decide +kernel
theorem d_Permits_isTooNear_64 : decode b_Permits_isTooNear 64 = .ok (.getfield 42, 3) := by decide +kernel
theorem d_Permits_isTooNear_67 : decode b_Permits_isTooNear 67 = .ok (.i2l, 1) := by decide +kernel
theorem d_Permits_isTooNear_68 : decode b_Permits_isTooNear 68 = .ok (.lmul, 1) := by decide +kernel
theorem d_Permits_isTooNear_69 : decode b_Permits_isTooNear 69 = .ok (.lcmp, 1) := by decide +kernel
theorem d_Permits_isTooNear_70 : decode b_Permits_isTooNear 70 = .ok (.ifCond .ge 7, 3) := by decide +kernel
theorem d_Permits_isTooNear_73 : decode b_Permits_isTooNear 73 = .ok (.iconst 1, 1) := by decide +kernel
theorem d_Permits_isTooNear_74 : decode b_Permits_isTooNear 74 = .ok (.goto 4, 3) := by decide +kernel
theorem d_Permits_isTooNear_77 : decode b_Permits_isTooNear 77 = .ok (.iconst 0, 1) := by decide +kernel
theorem d_Permits_isTooNear_78 : decode b_Permits_isTooNear 78 = .ok (.ireturn, 1) := by decide +kernel
set_option maxHeartbeats 4000000 in
set_option maxRecDepth 100000 in
theorem c_Permits_isTooNear (l : Launch) (dC : Nat → ClassId) (dI : Nat → Nat → Nat) (L : Nat → Nat) (cA : Nat → ClassId) (ar : Nat → Nat → Int32) (sc : Nat → Int32) (a0 : Int32) (h : p_Permits_isTooNear ar sc a0) : Met l y_Permits_isTooNear z_Permits_isTooNear (rmD 2) (va_Pc [.ref (L 30), .int a0] (fun U => xw_I dC dI L cA ar sc U)) (QcRead (f_Permits_isTooNear ar sc a0)) 0 0 (fun _ => False) := by
  refine Met.ofW (cc := b_Permits_isTooNear) (maxL := 6) (ret := (some .boolean)) (by decide) rfl ?_
  intro p e s m args below meth c s₁ B hml hv
  obtain ⟨rfl, ⟨hP, hK⟩⟩ := hv
  have hx := B.exec
  have hb := B.bytes
  have hr := B.returns
  have hts : ∀ w ∈ w_all, w.before _ s = true := fun w hw => atoms_spec (ws := z_Permits_isTooNear) B.pre w (List.mem_cons_of_mem _ hw)
  have hown : s.vm.findClass R_Permits = some m.cls := findClass_of_methodNamed B.named
  have hlocks := B.notSynchronized
  have hF : CallFix p m c b_Permits_isTooNear 6 s _ w_all R_Permits := ⟨hx, hb, hml, hown, hts⟩
  have hl := lv_entry ([.ref (L 30), .int a0]) (n := 6) (Nat.le_of_ble_eq_true rfl)
  rw [lg_entry_eq]
  generalize (lg_sl ([.ref (L 30), .int a0]) ++ List.replicate (6 - (lg_sl ([.ref (L 30), .int a0])).length) Slot.unset).toArray = ls at hl ⊢
  have hl : lv_has ls 6 [(0, .ref (L 30)), (1, .int a0)] := hl
  unfold p_Permits_isTooNear at h
  refine lv_aload_n hx hb d_Permits_isTooNear_0 rfl (lv_at hl 0 rfl) ?_
  refine gf_Permits_groundX1 hF hK hP m_59 d_Permits_isTooNear_1 ?_
  refine lv_aload_n hx hb d_Permits_isTooNear_4 rfl (lv_at hl 0 rfl) ?_
  refine gf_Permits_groundX2 hF hK hP m_58 d_Permits_isTooNear_5 ?_
  refine lv_aload_n hx hb d_Permits_isTooNear_8 rfl (lv_at hl 0 rfl) ?_
  refine gf_Permits_x1s hF hK hP m_65 d_Permits_isTooNear_9 ?_
  refine lv_iload_n hx hb d_Permits_isTooNear_12 rfl (lv_at hl 1 rfl) ?_
  have k13 := h.1
  have h := h.2
  refine alI_31 hF hK hP k13 d_Permits_isTooNear_13 ?_
  refine lv_aload_n hx hb d_Permits_isTooNear_14 rfl (lv_at hl 0 rfl) ?_
  refine gf_Permits_x2s hF hK hP m_66 d_Permits_isTooNear_15 ?_
  refine lv_iload_n hx hb d_Permits_isTooNear_18 rfl (lv_at hl 1 rfl) ?_
  have k19 := h.1
  have h := h.2
  refine alI_33 hF hK hP k19 d_Permits_isTooNear_19 ?_
  refine r_Permits_gap hF m_67 hl.1 ⟨Nat.le_of_ble_eq_true rfl, Nat.le_of_ble_eq_true rfl⟩ ⟨Nat.zero_le _, Nat.zero_le _⟩ (Nat.le_of_ble_eq_true rfl) d_Permits_isTooNear_20 ?_
  refine lv_lstore_n (lv' := [(2, .long (f_Permits_gap (sc 7) (sc 9) (ar 31 a0.toNatClampNeg) (ar 33 a0.toNatClampNeg))), (0, .ref (L 30)), (1, .int a0)]) hx hb d_Permits_isTooNear_23 rfl hl (by decide) rfl (fun ls hl => ?_)
  refine lv_aload_n hx hb d_Permits_isTooNear_24 rfl (lv_at hl 1 rfl) ?_
  refine gf_Permits_groundY1 hF hK hP m_61 d_Permits_isTooNear_25 ?_
  refine lv_aload_n hx hb d_Permits_isTooNear_28 rfl (lv_at hl 1 rfl) ?_
  refine gf_Permits_groundY2 hF hK hP m_60 d_Permits_isTooNear_29 ?_
  refine lv_aload_n hx hb d_Permits_isTooNear_32 rfl (lv_at hl 1 rfl) ?_
  refine gf_Permits_y1s hF hK hP m_68 d_Permits_isTooNear_33 ?_
  refine lv_iload_n hx hb d_Permits_isTooNear_36 rfl (lv_at hl 2 rfl) ?_
  have k37 := h.1
  have h := h.2
  refine alI_32 hF hK hP k37 d_Permits_isTooNear_37 ?_
  refine lv_aload_n hx hb d_Permits_isTooNear_38 rfl (lv_at hl 1 rfl) ?_
  refine gf_Permits_y2s hF hK hP m_69 d_Permits_isTooNear_39 ?_
  refine lv_iload_n hx hb d_Permits_isTooNear_42 rfl (lv_at hl 2 rfl) ?_
  have k43 := h
  refine alI_34 hF hK hP k43 d_Permits_isTooNear_43 ?_
  refine r_Permits_gap hF m_67 hl.1 ⟨Nat.le_of_ble_eq_true rfl, Nat.le_of_ble_eq_true rfl⟩ ⟨Nat.zero_le _, Nat.zero_le _⟩ (Nat.le_of_ble_eq_true rfl) d_Permits_isTooNear_44 ?_
  refine lv_lstore (lv' := [(4, .long (f_Permits_gap (sc 8) (sc 10) (ar 32 a0.toNatClampNeg) (ar 34 a0.toNatClampNeg))), (2, .long (f_Permits_gap (sc 7) (sc 9) (ar 31 a0.toNatClampNeg) (ar 33 a0.toNatClampNeg))), (0, .ref (L 30)), (1, .int a0)]) hx hb d_Permits_isTooNear_47 hl (by decide) rfl (fun ls hl => ?_)
  refine lv_lload_n hx hb d_Permits_isTooNear_49 rfl (lv_at hl 1 rfl) ?_
  refine lv_lload_n hx hb d_Permits_isTooNear_50 rfl (lv_at hl 1 rfl) ?_
  refine lv_lmul hx hb d_Permits_isTooNear_51 ?_
  refine lv_lload hx hb d_Permits_isTooNear_52 (lv_at hl 0 rfl) ?_
  refine lv_lload hx hb d_Permits_isTooNear_54 (lv_at hl 0 rfl) ?_
  refine lv_lmul hx hb d_Permits_isTooNear_56 ?_
  refine lv_ladd hx hb d_Permits_isTooNear_57 ?_
  refine lv_aload_n hx hb d_Permits_isTooNear_58 rfl (lv_at hl 2 rfl) ?_
  refine gf_Permits_distance hF hK hP m_70 d_Permits_isTooNear_59 ?_
  refine lv_i2l hx hb d_Permits_isTooNear_62 rfl ?_
  refine lv_aload_n hx hb d_Permits_isTooNear_63 rfl (lv_at hl 2 rfl) ?_
  refine gf_Permits_distance hF hK hP m_70 d_Permits_isTooNear_64 ?_
  refine lv_i2l hx hb d_Permits_isTooNear_67 rfl ?_
  refine lv_lmul hx hb d_Permits_isTooNear_68 ?_
  refine W.lcmp hx hb d_Permits_isTooNear_69 ?_
  refine lv_if_ge (tgt := 77) hx hb d_Permits_isTooNear_70 (by decide) (fun c70 => ?_) (fun c70 => ?_)
  · refine lv_iconst (v := 0) hx hb d_Permits_isTooNear_77 (by decide) ?_
    have hv : (0 : Int32) = f_Permits_isTooNear ar sc a0 := by rw [f_Permits_isTooNear, if_pos c70]
    exact W.zret (ty := .boolean) (v := 0) hx hb hr rfl (fun t ht hW => ⟨congrArg (fun z => Outcome.returned (some (Value.int z))) hv, ht⟩) (fun _ h9 => nomatch h9) d_Permits_isTooNear_78
  · refine lv_iconst (v := 1) hx hb d_Permits_isTooNear_73 (by decide) ?_
    refine lv_goto (tgt := 78) hx hb d_Permits_isTooNear_74 (by decide) ?_
    have hv : (1 : Int32) = f_Permits_isTooNear ar sc a0 := by rw [f_Permits_isTooNear, if_neg c70]
    exact W.zret (ty := .boolean) (v := 1) hx hb hr rfl (fun t ht hW => ⟨congrArg (fun z => Outcome.returned (some (Value.int z))) hv, ht⟩) (fun _ h9 => nomatch h9) d_Permits_isTooNear_78
set_option maxHeartbeats 1000000 in
theorem r_Permits_isTooNear {p : Program} {l : Launch} {e : Env} {R : Room} {s : State} {m : MethodId} {args : Array Value} {below : List Frame} {meth : Method} {c : Code} {H : Heap} {locs : List Loc} {cells slots : Nat} {Q : State → Prop} {cc : ByteArray} {nL pc idx : Nat} {ls : Array Slot} {rest : List Value} {own : String} {dC : Nat → ClassId} {dI : Nat → Nat → Nat} {L : Nat → Nat} {cA : Nat → ClassId} {ar : Nat → Nat → Int32} {sc : Nat → Int32} {a0 : Int32} (hF : CallFix p m c cc nL s args w_all own) (hK : kW_I dC dI cA s) (hP : va_P (dC, dI) classes (wI L cA ar sc) H) (h : p_Permits_isTooNear ar sc a0) (hlk : Cond.methodLink own idx y_Permits_isTooNear ∈ w_all) (hsz : ls.size = nL) (hR : (rmD 2).frames + 1 ≤ R.frames ∧ 8 + (6 + 11) + (rmD 2).locals ≤ R.locals) (hc : cells ≤ R.cells ∧ slots ≤ R.slots) (hrs : (rest.map fun v => v.category).sum ≤ 8) (hdg : decode cc pc = .ok (.invokevirtual idx, 3)) (kk : W p l e R s m args below meth c H locs cells slots Q (F0 m (pc + 3) ls (.int (f_Permits_isTooNear ar sc a0) :: rest))) : W p l e R s m args below meth c H locs cells slots Q (F0 m pc ls (.int a0 :: .ref (L 30) :: rest)) :=
  W.callR (W.runV (As := [.int a0]) (rest := rest) hF (c_Permits_isTooNear l dC dI L cA ar sc a0 h) (cwV 1 hF.2.2.2.2 (gV hlk m_71 m_72 m_56 m_73) rfl rfl rfl (by decide +kernel) hR) ⟨xb_I, va_recv hK.1 hP (ci := 6) (q0 := 30) rfl rfl, fun U hU hW => ⟨rfl, by rw [hU]; exact hP, kW_I_warm hW hK⟩⟩ rfl rfl hsz rfl (lv_room hrs) hdg hc) kk
theorem d_Permits_findClash_0 : decode b_Permits_findClash 0 = .ok (.aload_n 0, 1) := by decide +kernel
theorem d_Permits_findClash_1 : decode b_Permits_findClash 1 = .ok (.getfield 34, 3) := by decide +kernel
theorem d_Permits_findClash_4 : decode b_Permits_findClash 4 = .ok (.ifCond .ne 6, 3) := by decide +kernel
theorem d_Permits_findClash_7 : decode b_Permits_findClash 7 = .ok (.bipush (-2), 2) := by decide +kernel
theorem d_Permits_findClash_9 : decode b_Permits_findClash 9 = .ok (.ireturn, 1) := by decide +kernel
theorem d_Permits_findClash_10 : decode b_Permits_findClash 10 = .ok (.aload_n 0, 1) := by decide +kernel
theorem d_Permits_findClash_11 : decode b_Permits_findClash 11 = .ok (.invokevirtual 60, 3) := by decide +kernel
theorem d_Permits_findClash_14 : decode b_Permits_findClash 14 = .ok (.iload_n 3, 1) := by decide +kernel
theorem d_Permits_findClash_15 : decode b_Permits_findClash 15 = .ok (.i2l, 1) := by decide +kernel
theorem d_Permits_findClash_16 : decode b_Permits_findClash 16 = .ok (.aload_n 0, 1) := by decide +kernel
theorem d_Permits_findClash_17 : decode b_Permits_findClash 17 = .ok (.getfield 39, 3) := by decide +kernel
theorem d_Permits_findClash_20 : decode b_Permits_findClash 20 = .ok (.i2l, 1) := by decide +kernel
theorem d_Permits_findClash_21 : decode b_Permits_findClash 21 = .ok (.lmul, 1) := by decide +kernel
theorem d_Permits_findClash_22 : decode b_Permits_findClash 22 = .ok (.lcmp, 1) := by decide +kernel
theorem d_Permits_findClash_23 : decode b_Permits_findClash 23 = .ok (.ifCond .ge 6, 3) := by decide +kernel
theorem d_Permits_findClash_26 : decode b_Permits_findClash 26 = .ok (.bipush (-3), 2) := by decide +kernel
theorem d_Permits_findClash_28 : decode b_Permits_findClash 28 = .ok (.ireturn, 1) := by decide +kernel
theorem d_Permits_findClash_29 : decode b_Permits_findClash 29 = .ok (.iconst 0, 1) := by decide +kernel
theorem d_Permits_findClash_30 : decode b_Permits_findClash 30 = .ok (.istore 4, 2) := by decide +kernel
theorem d_Permits_findClash_32 : decode b_Permits_findClash 32 = .ok (.iload 4, 2) := by decide +kernel
theorem d_Permits_findClash_34 : decode b_Permits_findClash 34 = .ok (.aload_n 0, 1) := by decide +kernel
theorem d_Permits_findClash_35 : decode b_Permits_findClash 35 = .ok (.getfield 30, 3) := by decide +kernel
theorem d_Permits_findClash_38 : decode b_Permits_findClash 38 = .ok (.if_icmp .ge 55, 3) := by decide +kernel
theorem d_Permits_findClash_41 : decode b_Permits_findClash 41 = .ok (.iload_n 1, 1) := by decide +kernel
theorem d_Permits_findClash_42 : decode b_Permits_findClash 42 = .ok (.aload_n 0, 1) := by decide +kernel
theorem d_Permits_findClash_43 : decode b_Permits_findClash 43 = .ok (.getfield 27, 3) := by decide +kernel
theorem d_Permits_findClash_46 : decode b_Permits_findClash 46 = .ok (.iload 4, 2) := by decide +kernel
theorem d_Permits_findClash_48 : decode b_Permits_findClash 48 = .ok (.iaload, 1) := by decide +kernel
theorem d_Permits_findClash_49 : decode b_Permits_findClash 49 = .ok (.if_icmp .ge 18, 3) := by decide +kernel
theorem d_Permits_findClash_52 : decode b_Permits_findClash 52 = .ok (.aload_n 0, 1) := by decide +kernel
theorem d_Permits_findClash_53 : decode b_Permits_findClash 53 = .ok (.getfield 24, 3) := by decide +kernel
theorem d_Permits_findClash_56 : decode b_Permits_findClash 56 = .ok (.iload 4, 2) := by decide +kernel
theorem d_Permits_findClash_58 : decode b_Permits_findClash 58 = .ok (.iaload, 1) := by decide +kernel
theorem d_Permits_findClash_59 : decode b_Permits_findClash 59 = .ok (.iload_n 2, 1) := by decide +kernel
theorem d_Permits_findClash_60 : decode b_Permits_findClash 60 = .ok (.if_icmp .ge 7, 3) := by decide +kernel
theorem d_Permits_findClash_63 : decode b_Permits_findClash 63 = .ok (.iconst 1, 1) := by decide +kernel
theorem d_Permits_findClash_64 : decode b_Permits_findClash 64 = .ok (.goto 4, 3) := by decide +kernel
theorem d_Permits_findClash_67 : decode b_Permits_findClash 67 = .ok (.iconst 0, 1) := by decide +kernel
theorem d_Permits_findClash_68 : decode b_Permits_findClash 68 = .ok (.istore 5, 2) := by decide +kernel
theorem d_Permits_findClash_70 : decode b_Permits_findClash 70 = .ok (.iload 5, 2) := by decide +kernel
theorem d_Permits_findClash_72 : decode b_Permits_findClash 72 = .ok (.ifCond .eq 15, 3) := by decide +kernel
theorem d_Permits_findClash_75 : decode b_Permits_findClash 75 = .ok (.aload_n 0, 1) := by decide +kernel
theorem d_Permits_findClash_76 : decode b_Permits_findClash 76 = .ok (.iload 4, 2) := by decide +kernel
theorem d_Permits_findClash_78 : decode b_Permits_findClash 78 = .ok (.invokevirtual 64, 3) := by decide +kernel
theorem d_Permits_findClash_81 : decode b_Permits_findClash 81 = .ok (.ifCond .eq 6, 3) := by decide +kernel
theorem d_Permits_findClash_84 : decode b_Permits_findClash 84 = .ok (.iload 4, 2) := by decide +kernel
theorem d_Permits_findClash_86 : decode b_Permits_findClash 86 = .ok (.ireturn, 1) := by decide +kernel
theorem d_Permits_findClash_87 : decode b_Permits_findClash 87 = .ok (.iinc 4 1, 3) := by decide +kernel
theorem d_Permits_findClash_90 : decode b_Permits_findClash 90 = .ok (.goto (-58), 3) := by decide +kernel
theorem d_Permits_findClash_93 : decode b_Permits_findClash 93 = .ok (.iconst (-1), 1) := by decide +kernel
theorem d_Permits_findClash_94 : decode b_Permits_findClash 94 = .ok (.ireturn, 1) := by decide +kernel
set_option maxHeartbeats 4000000 in
set_option maxRecDepth 100000 in
theorem l_Permits_findClash_32 {p : Program} {l : Launch} {e : Env} {s : State} {m : MethodId} {args : Array Value} {below : List Frame} {meth : Method} {c : Code} {dC : Nat → ClassId} {dI : Nat → Nat → Nat} {L : Nat → Nat} {cA : Nat → ClassId} {ar : Nat → Nat → Int32} {sc : Nat → Int32} (a0 : Int32) (a1 : Int32) (a2 : Int32)  (hF : CallFix p m c b_Permits_findClash 6 s args w_all R_Permits) (hK : kW_I dC dI cA s) (hP : va_P (dC, dI) classes (wI L cA ar sc) s.heap) (hr : meth.sig.returnType = (some .int)) (hlocks : meth.locks = false) : ∀ (n : Nat) (v4 : Int32), q_Permits_findClash_32 ar sc a0 a1 a2 n v4 → ∀ (ls : Array Slot), lv_has ls 6 [(4, .int v4), (0, .ref (L 30)), (1, .int a0), (2, .int a1), (3, .int a2)] → W p l e (rmD 3) s m args below meth c s.heap [] 0 0 (MQ below (QcRead (g_Permits_findClash_32 ar sc a0 a1 a2 n v4)) args s 0 0 (fun _ => False)) (F0 m 32 ls []) := by
  have hx := hF.1
  have hb := hF.2.1
  have hown := hF.2.2.2.1
  have hts := hF.2.2.2.2
  intro n
  induction n with
  | zero => intro v4 h; exact False.elim h
  | succ n ih =>
    intro v4 h ls hl
    rw [q_Permits_findClash_32] at h
    refine lv_iload hx hb d_Permits_findClash_32 (lv_at hl 0 rfl) ?_
    refine lv_aload_n hx hb d_Permits_findClash_34 rfl (lv_at hl 1 rfl) ?_
    refine gf_Permits_count hF hK hP m_74 d_Permits_findClash_35 ?_
    refine lv_icmp_ge (tgt := 93) hx hb d_Permits_findClash_38 (by decide) (fun c38 => ?_) (fun c38 => ?_)
    · have h := h.1 c38
      refine lv_iconst (v := (-1)) hx hb d_Permits_findClash_93 (by decide) ?_
      have hv : ((-1) : Int32) = g_Permits_findClash_32 ar sc a0 a1 a2 (n + 1) v4 := by rw [g_Permits_findClash_32, if_pos c38]
      exact W.iret (v := (-1)) hx hb hr (fun t ht hW => ⟨congrArg (fun z => Outcome.returned (some (Value.int z))) hv, ht⟩) (fun _ h9 => nomatch h9) d_Permits_findClash_94
    · have h := h.2 c38
      refine lv_iload_n hx hb d_Permits_findClash_41 rfl (lv_at hl 2 rfl) ?_
      refine lv_aload_n hx hb d_Permits_findClash_42 rfl (lv_at hl 1 rfl) ?_
      refine gf_Permits_tos hF hK hP m_75 d_Permits_findClash_43 ?_
      refine lv_iload hx hb d_Permits_findClash_46 (lv_at hl 0 rfl) ?_
      have k48 := h.1
      have h := h.2
      refine alI_36 hF hK hP k48 d_Permits_findClash_48 ?_
      refine lv_icmp_ge (tgt := 67) hx hb d_Permits_findClash_49 (by decide) (fun c49 => ?_) (fun c49 => ?_)
      · have h := h.1 c49
        refine lv_iconst (v := 0) hx hb d_Permits_findClash_67 (by decide) ?_
        refine lv_istore (lv' := [(5, .int 0), (4, .int v4), (0, .ref (L 30)), (1, .int a0), (2, .int a1), (3, .int a2)]) hx hb d_Permits_findClash_68 hl (by decide) rfl (fun ls hl => ?_)
        refine lv_iload hx hb d_Permits_findClash_70 (lv_at hl 0 rfl) ?_
        refine lv_if_eq (tgt := 87) hx hb d_Permits_findClash_72 (by decide) (fun _ => ?_) (fun c9 => absurd c9 (by decide))
        refine lv_iinc (v := v4 + 1) (lv' := [(4, .int (v4 + 1)), (5, .int 0), (0, .ref (L 30)), (1, .int a0), (2, .int a1), (3, .int a2)]) hx hb d_Permits_findClash_87 hl (k := 1) rfl rfl (by decide) rfl (fun ls hl => ?_)
        refine lv_goto (tgt := 32) hx hb d_Permits_findClash_90 (by decide) ?_
        have hv : g_Permits_findClash_32 ar sc a0 a1 a2 (n + 1) v4 = g_Permits_findClash_32 ar sc a0 a1 a2 n (v4 + 1) := by rw [g_Permits_findClash_32, if_neg c38, if_pos c49]
        rw [hv]
        exact ih (v4 + 1) h ls (lv_sub hl [0, 2, 3, 4, 5] rfl)
      · have h := h.2 c49
        refine lv_aload_n hx hb d_Permits_findClash_52 rfl (lv_at hl 1 rfl) ?_
        refine gf_Permits_froms hF hK hP m_76 d_Permits_findClash_53 ?_
        refine lv_iload hx hb d_Permits_findClash_56 (lv_at hl 0 rfl) ?_
        have k58 := h.1
        have h := h.2
        refine alI_35 hF hK hP k58 d_Permits_findClash_58 ?_
        refine lv_iload_n hx hb d_Permits_findClash_59 rfl (lv_at hl 3 rfl) ?_
        refine lv_icmp_ge (tgt := 67) hx hb d_Permits_findClash_60 (by decide) (fun c60 => ?_) (fun c60 => ?_)
        · have h := h.1 c60
          refine lv_iconst (v := 0) hx hb d_Permits_findClash_67 (by decide) ?_
          refine lv_istore (lv' := [(5, .int 0), (4, .int v4), (0, .ref (L 30)), (1, .int a0), (2, .int a1), (3, .int a2)]) hx hb d_Permits_findClash_68 hl (by decide) rfl (fun ls hl => ?_)
          refine lv_iload hx hb d_Permits_findClash_70 (lv_at hl 0 rfl) ?_
          refine lv_if_eq (tgt := 87) hx hb d_Permits_findClash_72 (by decide) (fun _ => ?_) (fun c9 => absurd c9 (by decide))
          refine lv_iinc (v := v4 + 1) (lv' := [(4, .int (v4 + 1)), (5, .int 0), (0, .ref (L 30)), (1, .int a0), (2, .int a1), (3, .int a2)]) hx hb d_Permits_findClash_87 hl (k := 1) rfl rfl (by decide) rfl (fun ls hl => ?_)
          refine lv_goto (tgt := 32) hx hb d_Permits_findClash_90 (by decide) ?_
          have hv : g_Permits_findClash_32 ar sc a0 a1 a2 (n + 1) v4 = g_Permits_findClash_32 ar sc a0 a1 a2 n (v4 + 1) := by rw [g_Permits_findClash_32, if_neg c38, if_neg c49, if_pos c60]
          rw [hv]
          exact ih (v4 + 1) h ls (lv_sub hl [0, 2, 3, 4, 5] rfl)
        · have h := h.2 c60
          refine lv_iconst (v := 1) hx hb d_Permits_findClash_63 (by decide) ?_
          refine lv_goto (tgt := 68) hx hb d_Permits_findClash_64 (by decide) ?_
          refine lv_istore (lv' := [(5, .int 1), (4, .int v4), (0, .ref (L 30)), (1, .int a0), (2, .int a1), (3, .int a2)]) hx hb d_Permits_findClash_68 hl (by decide) rfl (fun ls hl => ?_)
          refine lv_iload hx hb d_Permits_findClash_70 (lv_at hl 0 rfl) ?_
          refine lv_if_eq (tgt := 87) hx hb d_Permits_findClash_72 (by decide) (fun c9 => absurd c9 (by decide)) (fun _ => ?_)
          refine lv_aload_n hx hb d_Permits_findClash_75 rfl (lv_at hl 2 rfl) ?_
          refine lv_iload hx hb d_Permits_findClash_76 (lv_at hl 1 rfl) ?_
          have k78 := h.1
          have h := h.2
          refine r_Permits_isTooNear hF hK hP k78 m_77 hl.1 ⟨Nat.le_of_ble_eq_true rfl, Nat.le_of_ble_eq_true rfl⟩ ⟨Nat.zero_le _, Nat.zero_le _⟩ (Nat.le_of_ble_eq_true rfl) d_Permits_findClash_78 ?_
          refine lv_if_eq (tgt := 87) hx hb d_Permits_findClash_81 (by decide) (fun c81 => ?_) (fun c81 => ?_)
          · have h := h.1 c81
            refine lv_iinc (v := v4 + 1) (lv' := [(4, .int (v4 + 1)), (5, .int 1), (0, .ref (L 30)), (1, .int a0), (2, .int a1), (3, .int a2)]) hx hb d_Permits_findClash_87 hl (k := 1) rfl rfl (by decide) rfl (fun ls hl => ?_)
            refine lv_goto (tgt := 32) hx hb d_Permits_findClash_90 (by decide) ?_
            have hv : g_Permits_findClash_32 ar sc a0 a1 a2 (n + 1) v4 = g_Permits_findClash_32 ar sc a0 a1 a2 n (v4 + 1) := by rw [g_Permits_findClash_32, if_neg c38, if_neg c49, if_neg c60, if_pos c81]
            rw [hv]
            exact ih (v4 + 1) h ls (lv_sub hl [0, 2, 3, 4, 5] rfl)
          · have h := h.2 c81
            refine lv_iload hx hb d_Permits_findClash_84 (lv_at hl 1 rfl) ?_
            have hv : (v4 : Int32) = g_Permits_findClash_32 ar sc a0 a1 a2 (n + 1) v4 := by rw [g_Permits_findClash_32, if_neg c38, if_neg c49, if_neg c60, if_neg c81]
            exact W.iret (v := v4) hx hb hr (fun t ht hW => ⟨congrArg (fun z => Outcome.returned (some (Value.int z))) hv, ht⟩) (fun _ h9 => nomatch h9) d_Permits_findClash_86
set_option maxHeartbeats 4000000 in
set_option maxRecDepth 100000 in
theorem c_Permits_findClash (l : Launch) (dC : Nat → ClassId) (dI : Nat → Nat → Nat) (L : Nat → Nat) (cA : Nat → ClassId) (ar : Nat → Nat → Int32) (sc : Nat → Int32) (a0 : Int32) (a1 : Int32) (a2 : Int32) (h : p_Permits_findClash ar sc a0 a1 a2) : Met l y_Permits_findClash z_Permits_findClash (rmD 3) (va_Pc [.ref (L 30), .int a0, .int a1, .int a2] (fun U => xw_I dC dI L cA ar sc U)) (QcRead (f_Permits_findClash ar sc a0 a1 a2)) 0 0 (fun _ => False) := by
  refine Met.ofW (cc := b_Permits_findClash) (maxL := 6) (ret := (some .int)) (by decide) rfl ?_
  intro p e s m args below meth c s₁ B hml hv
  obtain ⟨rfl, ⟨hP, hK⟩⟩ := hv
  have hx := B.exec
  have hb := B.bytes
  have hr := B.returns
  have hts : ∀ w ∈ w_all, w.before _ s = true := fun w hw => atoms_spec (ws := z_Permits_findClash) B.pre w (List.mem_cons_of_mem _ hw)
  have hown : s.vm.findClass R_Permits = some m.cls := findClass_of_methodNamed B.named
  have hlocks := B.notSynchronized
  have hF : CallFix p m c b_Permits_findClash 6 s _ w_all R_Permits := ⟨hx, hb, hml, hown, hts⟩
  have hl := lv_entry ([.ref (L 30), .int a0, .int a1, .int a2]) (n := 6) (Nat.le_of_ble_eq_true rfl)
  rw [lg_entry_eq]
  generalize (lg_sl ([.ref (L 30), .int a0, .int a1, .int a2]) ++ List.replicate (6 - (lg_sl ([.ref (L 30), .int a0, .int a1, .int a2])).length) Slot.unset).toArray = ls at hl ⊢
  have hl : lv_has ls 6 [(0, .ref (L 30)), (1, .int a0), (2, .int a1), (3, .int a2)] := hl
  unfold p_Permits_findClash at h
  refine lv_aload_n hx hb d_Permits_findClash_0 rfl (lv_at hl 0 rfl) ?_
  refine gf_Permits_groundTold hF hK hP m_78 d_Permits_findClash_1 ?_
  refine lv_if_ne (tgt := 10) hx hb d_Permits_findClash_4 (by decide) (fun c4 => ?_) (fun c4 => ?_)
  · have h := h.2 c4
    refine lv_aload_n hx hb d_Permits_findClash_10 rfl (lv_at hl 0 rfl) ?_
    refine r_Permits_groundArea hF hK hP m_79 hl.1 ⟨Nat.le_of_ble_eq_true rfl, Nat.le_of_ble_eq_true rfl⟩ ⟨Nat.zero_le _, Nat.zero_le _⟩ (Nat.le_of_ble_eq_true rfl) d_Permits_findClash_11 ?_
    refine lv_iload_n hx hb d_Permits_findClash_14 rfl (lv_at hl 3 rfl) ?_
    refine lv_i2l hx hb d_Permits_findClash_15 rfl ?_
    refine lv_aload_n hx hb d_Permits_findClash_16 rfl (lv_at hl 0 rfl) ?_
    refine gf_Permits_space hF hK hP m_80 d_Permits_findClash_17 ?_
    refine lv_i2l hx hb d_Permits_findClash_20 rfl ?_
    refine lv_lmul hx hb d_Permits_findClash_21 ?_
    refine W.lcmp hx hb d_Permits_findClash_22 ?_
    refine lv_if_ge (tgt := 29) hx hb d_Permits_findClash_23 (by decide) (fun c23 => ?_) (fun c23 => ?_)
    · have h := h.1 c23
      refine lv_iconst (v := 0) hx hb d_Permits_findClash_29 (by decide) ?_
      refine lv_istore (lv' := [(4, .int 0), (0, .ref (L 30)), (1, .int a0), (2, .int a1), (3, .int a2)]) hx hb d_Permits_findClash_30 hl (by decide) rfl (fun ls hl => ?_)
      have kL32 := h
      have hv : f_Permits_findClash ar sc a0 a1 a2 = g_Permits_findClash_32 ar sc a0 a1 a2 200 0 := by rw [f_Permits_findClash, if_neg c4, if_pos c23]
      rw [hv]
      exact l_Permits_findClash_32 a0 a1 a2 hF hK hP hr hlocks 200 0 kL32 ls (lv_sub hl [0, 1, 2, 3, 4] rfl)
    · have h := h.2 c23
      refine lv_bipush (v := (-3)) hx hb d_Permits_findClash_26 (by decide) ?_
      have hv : ((-3) : Int32) = f_Permits_findClash ar sc a0 a1 a2 := by rw [f_Permits_findClash, if_neg c4, if_neg c23]
      exact W.iret (v := (-3)) hx hb hr (fun t ht hW => ⟨congrArg (fun z => Outcome.returned (some (Value.int z))) hv, ht⟩) (fun _ h9 => nomatch h9) d_Permits_findClash_28
  · have h := h.1 c4
    refine lv_bipush (v := (-2)) hx hb d_Permits_findClash_7 (by decide) ?_
    have hv : ((-2) : Int32) = f_Permits_findClash ar sc a0 a1 a2 := by rw [f_Permits_findClash, if_pos c4]
    exact W.iret (v := (-2)) hx hb hr (fun t ht hW => ⟨congrArg (fun z => Outcome.returned (some (Value.int z))) hv, ht⟩) (fun _ h9 => nomatch h9) d_Permits_findClash_9
set_option maxHeartbeats 1000000 in
theorem r_Permits_findClash {p : Program} {l : Launch} {e : Env} {R : Room} {s : State} {m : MethodId} {args : Array Value} {below : List Frame} {meth : Method} {c : Code} {H : Heap} {locs : List Loc} {cells slots : Nat} {Q : State → Prop} {cc : ByteArray} {nL pc idx : Nat} {ls : Array Slot} {rest : List Value} {own : String} {dC : Nat → ClassId} {dI : Nat → Nat → Nat} {L : Nat → Nat} {cA : Nat → ClassId} {ar : Nat → Nat → Int32} {sc : Nat → Int32} {a0 : Int32} {a1 : Int32} {a2 : Int32} (hF : CallFix p m c cc nL s args w_all own) (hK : kW_I dC dI cA s) (hP : va_P (dC, dI) classes (wI L cA ar sc) H) (h : p_Permits_findClash ar sc a0 a1 a2) (hlk : Cond.methodLink own idx y_Permits_findClash ∈ w_all) (hsz : ls.size = nL) (hR : (rmD 3).frames + 1 ≤ R.frames ∧ 8 + (6 + 11) + (rmD 3).locals ≤ R.locals) (hc : cells ≤ R.cells ∧ slots ≤ R.slots) (hrs : (rest.map fun v => v.category).sum ≤ 8) (hdg : decode cc pc = .ok (.invokevirtual idx, 3)) (kk : W p l e R s m args below meth c H locs cells slots Q (F0 m (pc + 3) ls (.int (f_Permits_findClash ar sc a0 a1 a2) :: rest))) : W p l e R s m args below meth c H locs cells slots Q (F0 m pc ls (.int a2 :: .int a1 :: .int a0 :: .ref (L 30) :: rest)) :=
  W.callR (W.runV (As := [.int a0, .int a1, .int a2]) (rest := rest) hF (c_Permits_findClash l dC dI L cA ar sc a0 a1 a2 h) (cwV 3 hF.2.2.2.2 (gV hlk m_81 m_82 m_56 m_83) rfl rfl rfl (by decide +kernel) hR) ⟨xb_I, va_recv hK.1 hP (ci := 6) (q0 := 30) rfl rfl, fun U hU hW => ⟨rfl, by rw [hU]; exact hP, kW_I_warm hW hK⟩⟩ rfl rfl hsz rfl (lv_room hrs) hdg hc) kk
theorem d_Permits_tellGround_0 : decode b_Permits_tellGround 0 = .ok (.aload_n 0, 1) := by decide +kernel
theorem d_Permits_tellGround_1 : decode b_Permits_tellGround 1 = .ok (.iconst 1, 1) := by decide +kernel
theorem d_Permits_tellGround_2 : decode b_Permits_tellGround 2 = .ok (.putfield 34, 3) := by decide +kernel
theorem d_Permits_tellGround_5 : decode b_Permits_tellGround 5 = .ok (.aload_n 0, 1) := by decide +kernel
theorem d_Permits_tellGround_6 : decode b_Permits_tellGround 6 = .ok (.iload_n 1, 1) := by decide +kernel
theorem d_Permits_tellGround_7 : decode b_Permits_tellGround 7 = .ok (.putfield 48, 3) := by decide +kernel
theorem d_Permits_tellGround_10 : decode b_Permits_tellGround 10 = .ok (.aload_n 0, 1) := by decide +kernel
theorem d_Permits_tellGround_11 : decode b_Permits_tellGround 11 = .ok (.iload_n 2, 1) := by decide +kernel
theorem d_Permits_tellGround_12 : decode b_Permits_tellGround 12 = .ok (.putfield 51, 3) := by decide +kernel
theorem d_Permits_tellGround_15 : decode b_Permits_tellGround 15 = .ok (.aload_n 0, 1) := by decide +kernel
theorem d_Permits_tellGround_16 : decode b_Permits_tellGround 16 = .ok (.iload_n 3, 1) := by decide +kernel
theorem d_Permits_tellGround_17 : decode b_Permits_tellGround 17 = .ok (.putfield 54, 3) := by decide +kernel
theorem d_Permits_tellGround_20 : decode b_Permits_tellGround 20 = .ok (.aload_n 0, 1) := by decide +kernel
theorem d_Permits_tellGround_21 : decode b_Permits_tellGround 21 = .ok (.iload 4, 2) := by decide +kernel
theorem d_Permits_tellGround_23 : decode b_Permits_tellGround 23 = .ok (.putfield 57, 3) := by decide +kernel
theorem d_Permits_tellGround_26 : decode b_Permits_tellGround 26 = .ok (.return_, 1) := by decide +kernel
set_option maxHeartbeats 4000000 in
set_option maxRecDepth 100000 in
theorem c_Permits_tellGround (l : Launch) (dC : Nat → ClassId) (dI : Nat → Nat → Nat) (L : Nat → Nat) (cA : Nat → ClassId) (ar : Nat → Nat → Int32) (sc : Nat → Int32) (a0 : Int32) (a1 : Int32) (a2 : Int32) (a3 : Int32) (hL : ij 38 L) : Met l y_Permits_tellGround z_Permits_tellGround (rmD 0) (va_Pc [.ref (L 30), .int a0, .int a1, .int a2, .int a3] (fun U => xw_I dC dI L cA ar sc U)) (va_Qv (fun u : oS => (u.1, u.2) = f_Permits_tellGround ar sc a0 a1 a2 a3) (fun u t => va_P (dC, dI) classes (wI L cA u.1 u.2) t.heap) (aI L)) 0 0 (aI L) := by
  refine Met.ofW (cc := b_Permits_tellGround) (maxL := 5) (ret := none) (by decide) rfl ?_
  intro p e s m args below meth c s₁ B hml hv
  obtain ⟨rfl, ⟨hP, hK⟩⟩ := hv
  have hx := B.exec
  have hb := B.bytes
  have hr := B.returns
  have hts : ∀ w ∈ w_all, w.before _ s = true := fun w hw => atoms_spec (ws := z_Permits_tellGround) B.pre w (List.mem_cons_of_mem _ hw)
  have hown : s.vm.findClass R_Permits = some m.cls := findClass_of_methodNamed B.named
  have hlocks := B.notSynchronized
  have hF : CallFix p m c b_Permits_tellGround 5 s _ w_all R_Permits := ⟨hx, hb, hml, hown, hts⟩
  have hS : va_S (aI L) s.heap s.heap [] := va_S.rf
  have hl := lv_entry ([.ref (L 30), .int a0, .int a1, .int a2, .int a3]) (n := 5) (Nat.le_of_ble_eq_true rfl)
  rw [lg_entry_eq]
  generalize (lg_sl ([.ref (L 30), .int a0, .int a1, .int a2, .int a3]) ++ List.replicate (5 - (lg_sl ([.ref (L 30), .int a0, .int a1, .int a2, .int a3])).length) Slot.unset).toArray = ls at hl ⊢
  have hl : lv_has ls 5 [(0, .ref (L 30)), (1, .int a0), (2, .int a1), (3, .int a2), (4, .int a3)] := hl
  refine lv_aload_n hx hb d_Permits_tellGround_0 rfl (lv_at hl 0 rfl) ?_
  refine lv_iconst (v := 1) hx hb d_Permits_tellGround_1 (by decide) ?_
  refine pf_Permits_groundTold hF hK hP hL hS rfl rfl m_78 d_Permits_tellGround_2 (fun H locs hP hS => ?_)
  refine lv_aload_n hx hb d_Permits_tellGround_5 rfl (lv_at hl 0 rfl) ?_
  refine lv_iload_n hx hb d_Permits_tellGround_6 rfl (lv_at hl 1 rfl) ?_
  refine pf_Permits_groundX1 hF hK hP hL hS m_59 d_Permits_tellGround_7 (fun H locs hP hS => ?_)
  refine lv_aload_n hx hb d_Permits_tellGround_10 rfl (lv_at hl 0 rfl) ?_
  refine lv_iload_n hx hb d_Permits_tellGround_11 rfl (lv_at hl 2 rfl) ?_
  refine pf_Permits_groundY1 hF hK hP hL hS m_61 d_Permits_tellGround_12 (fun H locs hP hS => ?_)
  refine lv_aload_n hx hb d_Permits_tellGround_15 rfl (lv_at hl 0 rfl) ?_
  refine lv_iload_n hx hb d_Permits_tellGround_16 rfl (lv_at hl 3 rfl) ?_
  refine pf_Permits_groundX2 hF hK hP hL hS m_58 d_Permits_tellGround_17 (fun H locs hP hS => ?_)
  refine lv_aload_n hx hb d_Permits_tellGround_20 rfl (lv_at hl 0 rfl) ?_
  refine lv_iload hx hb d_Permits_tellGround_21 (lv_at hl 4 rfl) ?_
  refine pf_Permits_groundY2 hF hK hP hL hS m_60 d_Permits_tellGround_23 (fun H locs hP hS => ?_)
  have hv : ((ar, sg (sg (sg (sg (sg sc 6 1) 7 a0) 8 a1) 9 a2) 10 a3) : (Nat → Nat → Int32) × (Nat → Int32)) = f_Permits_tellGround ar sc a0 a1 a2 a3 := by rw [f_Permits_tellGround]
  exact W.vret hx hb hr (fun t ht hW => ⟨⟨(ar, sg (sg (sg (sg (sg sc 6 1) 7 a0) 8 a1) 9 a2) 10 a3), rfl, hv, by dsimp only; rw [ht]; exact hP⟩, hS.F ht⟩) hS.2.2 d_Permits_tellGround_26
set_option maxHeartbeats 1000000 in
theorem r_Permits_tellGround {p : Program} {l : Launch} {e : Env} {R : Room} {s : State} {m : MethodId} {args : Array Value} {below : List Frame} {meth : Method} {c : Code} {H : Heap} {locs : List Loc} {cells slots : Nat} {Q : State → Prop} {cc : ByteArray} {nL pc idx : Nat} {ls : Array Slot} {rest : List Value} {own : String} {dC : Nat → ClassId} {dI : Nat → Nat → Nat} {L : Nat → Nat} {cA : Nat → ClassId} {ar : Nat → Nat → Int32} {sc : Nat → Int32} {H0 : Heap} {a0 : Int32} {a1 : Int32} {a2 : Int32} {a3 : Int32} (hF : CallFix p m c cc nL s args w_all own) (hK : kW_I dC dI cA s) (hP : va_P (dC, dI) classes (wI L cA ar sc) H) (hL : ij 38 L) (hS : va_S (aI L) H0 H locs) (hlk : Cond.methodLink own idx y_Permits_tellGround ∈ w_all) (hsz : ls.size = nL) (hR : (rmD 0).frames + 1 ≤ R.frames ∧ 8 + (5 + 11) + (rmD 0).locals ≤ R.locals) (hc : cells ≤ R.cells ∧ slots ≤ R.slots) (hrs : (rest.map fun v => v.category).sum ≤ 8) (hdg : decode cc pc = .ok (.invokevirtual idx, 3)) (kk : ∀ (H1 : Heap) (locs1 : List Loc), va_P (dC, dI) classes (wI L cA ((f_Permits_tellGround ar sc a0 a1 a2 a3).1) ((f_Permits_tellGround ar sc a0 a1 a2 a3).2)) H1 → va_S (aI L) H0 H1 locs1 → W p l e R s m args below meth c H1 locs1 cells slots Q (F0 m (pc + 3) ls (rest))) : W p l e R s m args below meth c H locs cells slots Q (F0 m pc ls (.int a3 :: .int a2 :: .int a1 :: .int a0 :: .ref (L 30) :: rest)) :=
  va_callv (va_runV (As := [.int a0, .int a1, .int a2, .int a3]) (rest := rest) hF (c_Permits_tellGround l dC dI L cA ar sc a0 a1 a2 a3 hL) (cwV 4 hF.2.2.2.2 (gV hlk m_84 m_85 m_56 m_86) rfl rfl rfl (by decide +kernel) hR) ⟨xb_I, va_recv hK.1 hP (ci := 6) (q0 := 30) rfl rfl, fun U hU hW => ⟨rfl, by rw [hU]; exact hP, kW_I_warm hW hK⟩⟩ rfl rfl hsz rfl (lv_room hrs) hdg hc) hS (fun q _ h9 => h9) (fun q h9 => h9) (fun u t H1 locs1 ht hvm hw hB hz1 hk1 hS1 => by
    have hk9 := kk H1 locs1 (by rw [← hw, ← ht]; exact hB) hS1
    exact hk9)
theorem d_Permits_add_0 : decode b_Permits_add 0 = .ok (.aload_n 0, 1) := by decide +kernel
theorem d_Permits_add_1 : decode b_Permits_add 1 = .ok (.getfield 30, 3) := by decide +kernel
theorem d_Permits_add_4 : decode b_Permits_add 4 = .ok (.istore_n 3, 1) := by decide +kernel
theorem d_Permits_add_5 : decode b_Permits_add 5 = .ok (.aload_n 0, 1) := by decide +kernel
theorem d_Permits_add_6 : decode b_Permits_add 6 = .ok (.getfield 9, 3) := by decide +kernel
theorem d_Permits_add_9 : decode b_Permits_add 9 = .ok (.iload_n 3, 1) := by decide +kernel
theorem d_Permits_add_10 : decode b_Permits_add 10 = .ok (.aload_n 0, 1) := by decide +kernel
theorem d_Permits_add_11 : decode b_Permits_add 11 = .ok (.getfield 48, 3) := by decide +kernel
theorem d_Permits_add_14 : decode b_Permits_add 14 = .ok (.iastore, 1) := by decide +kernel
theorem d_Permits_add_15 : decode b_Permits_add 15 = .ok (.aload_n 0, 1) := by decide +kernel
theorem d_Permits_add_16 : decode b_Permits_add 16 = .ok (.getfield 15, 3) := by decide +kernel
theorem d_Permits_add_19 : decode b_Permits_add 19 = .ok (.iload_n 3, 1) := by decide +kernel
theorem d_Permits_add_20 : decode b_Permits_add 20 = .ok (.aload_n 0, 1) := by decide +kernel
theorem d_Permits_add_21 : decode b_Permits_add 21 = .ok (.getfield 51, 3) := by decide +kernel
theorem d_Permits_add_24 : decode b_Permits_add 24 = .ok (.iastore, 1) := by decide +kernel
theorem d_Permits_add_25 : decode b_Permits_add 25 = .ok (.aload_n 0, 1) := by decide +kernel
theorem d_Permits_add_26 : decode b_Permits_add 26 = .ok (.getfield 18, 3) := by decide +kernel
theorem d_Permits_add_29 : decode b_Permits_add 29 = .ok (.iload_n 3, 1) := by decide +kernel
theorem d_Permits_add_30 : decode b_Permits_add 30 = .ok (.aload_n 0, 1) := by decide +kernel
theorem d_Permits_add_31 : decode b_Permits_add 31 = .ok (.getfield 54, 3) := by decide +kernel
theorem d_Permits_add_34 : decode b_Permits_add 34 = .ok (.iastore, 1) := by decide +kernel
theorem d_Permits_add_35 : decode b_Permits_add 35 = .ok (.aload_n 0, 1) := by decide +kernel
theorem d_Permits_add_36 : decode b_Permits_add 36 = .ok (.getfield 21, 3) := by decide +kernel
theorem d_Permits_add_39 : decode b_Permits_add 39 = .ok (.iload_n 3, 1) := by decide +kernel
theorem d_Permits_add_40 : decode b_Permits_add 40 = .ok (.aload_n 0, 1) := by decide +kernel
theorem d_Permits_add_41 : decode b_Permits_add 41 = .ok (.getfield 57, 3) := by decide +kernel
theorem d_Permits_add_44 : decode b_Permits_add 44 = .ok (.iastore, 1) := by decide +kernel
theorem d_Permits_add_45 : decode b_Permits_add 45 = .ok (.aload_n 0, 1) := by decide +kernel
theorem d_Permits_add_46 : decode b_Permits_add 46 = .ok (.getfield 24, 3) := by decide +kernel
theorem d_Permits_add_49 : decode b_Permits_add 49 = .ok (.iload_n 3, 1) := by decide +kernel
theorem d_Permits_add_50 : decode b_Permits_add 50 = .ok (.iload_n 1, 1) := by decide +kernel
theorem d_Permits_add_51 : decode b_Permits_add 51 = .ok (.iastore, 1) := by decide +kernel
theorem d_Permits_add_52 : decode b_Permits_add 52 = .ok (.aload_n 0, 1) := by decide +kernel
theorem d_Permits_add_53 : decode b_Permits_add 53 = .ok (.getfield 27, 3) := by decide +kernel
theorem d_Permits_add_56 : decode b_Permits_add 56 = .ok (.iload_n 3, 1) := by decide +kernel
theorem d_Permits_add_57 : decode b_Permits_add 57 = .ok (.iload_n 2, 1) := by decide +kernel
theorem d_Permits_add_58 : decode b_Permits_add 58 = .ok (.iastore, 1) := by decide +kernel
theorem d_Permits_add_59 : decode b_Permits_add 59 = .ok (.aload_n 0, 1) := by decide +kernel
theorem d_Permits_add_60 : decode b_Permits_add 60 = .ok (.dup, 1) := by decide +kernel
theorem d_Permits_add_61 : decode b_Permits_add 61 = .ok (.getfield 30, 3) := by decide +kernel
theorem d_Permits_add_64 : decode b_Permits_add 64 = .ok (.iconst 1, 1) := by decide +kernel
theorem d_Permits_add_65 : decode b_Permits_add 65 = .ok (.iadd, 1) := by decide +kernel
theorem d_Permits_add_66 : decode b_Permits_add 66 = .ok (.putfield 30, 3) := by decide +kernel
theorem d_Permits_add_69 : decode b_Permits_add 69 = .ok (.iload_n 3, 1) := by decide +kernel
theorem d_Permits_add_70 : decode b_Permits_add 70 = .ok (.ireturn, 1) := by decide +kernel
set_option maxHeartbeats 4000000 in
set_option maxRecDepth 100000 in
theorem c_Permits_add (l : Launch) (dC : Nat → ClassId) (dI : Nat → Nat → Nat) (L : Nat → Nat) (cA : Nat → ClassId) (ar : Nat → Nat → Int32) (sc : Nat → Int32) (a0 : Int32) (a1 : Int32) (hL : ij 38 L) (h : p_Permits_add ar sc a0 a1) : Met l y_Permits_add z_Permits_add (rmD 0) (va_Pc [.ref (L 30), .int a0, .int a1] (fun U => xw_I dC dI L cA ar sc U)) (va_Qi (fun (r : Int32) (u : oS) => (r, u.1, u.2) = f_Permits_add ar sc a0 a1) (fun u t => va_P (dC, dI) classes (wI L cA u.1 u.2) t.heap) (aI L)) 0 0 (aI L) := by
  refine Met.ofW (cc := b_Permits_add) (maxL := 4) (ret := (some .int)) (by decide) rfl ?_
  intro p e s m args below meth c s₁ B hml hv
  obtain ⟨rfl, ⟨hP, hK⟩⟩ := hv
  have hx := B.exec
  have hb := B.bytes
  have hr := B.returns
  have hts : ∀ w ∈ w_all, w.before _ s = true := fun w hw => atoms_spec (ws := z_Permits_add) B.pre w (List.mem_cons_of_mem _ hw)
  have hown : s.vm.findClass R_Permits = some m.cls := findClass_of_methodNamed B.named
  have hlocks := B.notSynchronized
  have hF : CallFix p m c b_Permits_add 4 s _ w_all R_Permits := ⟨hx, hb, hml, hown, hts⟩
  have hS : va_S (aI L) s.heap s.heap [] := va_S.rf
  have hl := lv_entry ([.ref (L 30), .int a0, .int a1]) (n := 4) (Nat.le_of_ble_eq_true rfl)
  rw [lg_entry_eq]
  generalize (lg_sl ([.ref (L 30), .int a0, .int a1]) ++ List.replicate (4 - (lg_sl ([.ref (L 30), .int a0, .int a1])).length) Slot.unset).toArray = ls at hl ⊢
  have hl : lv_has ls 4 [(0, .ref (L 30)), (1, .int a0), (2, .int a1)] := hl
  unfold p_Permits_add at h
  refine lv_aload_n hx hb d_Permits_add_0 rfl (lv_at hl 0 rfl) ?_
  refine gf_Permits_count hF hK hP m_74 d_Permits_add_1 ?_
  refine lv_istore_n (lv' := [(3, .int (sc 5)), (0, .ref (L 30)), (1, .int a0), (2, .int a1)]) hx hb d_Permits_add_4 rfl hl (by decide) rfl (fun ls hl => ?_)
  refine lv_aload_n hx hb d_Permits_add_5 rfl (lv_at hl 1 rfl) ?_
  refine gf_Permits_x1s hF hK hP m_65 d_Permits_add_6 ?_
  refine lv_iload_n hx hb d_Permits_add_9 rfl (lv_at hl 0 rfl) ?_
  refine lv_aload_n hx hb d_Permits_add_10 rfl (lv_at hl 1 rfl) ?_
  refine gf_Permits_groundX1 hF hK hP m_59 d_Permits_add_11 ?_
  have k14 := h.1
  have h := h.2
  refine asI_31 hF hK hP hL hS k14 d_Permits_add_14 (fun H locs hP hS => ?_)
  refine lv_aload_n hx hb d_Permits_add_15 rfl (lv_at hl 1 rfl) ?_
  refine gf_Permits_y1s hF hK hP m_68 d_Permits_add_16 ?_
  refine lv_iload_n hx hb d_Permits_add_19 rfl (lv_at hl 0 rfl) ?_
  refine lv_aload_n hx hb d_Permits_add_20 rfl (lv_at hl 1 rfl) ?_
  refine gf_Permits_groundY1 hF hK hP m_61 d_Permits_add_21 ?_
  have k24 := h.1
  have h := h.2
  refine asI_32 hF hK hP hL hS k24 d_Permits_add_24 (fun H locs hP hS => ?_)
  refine lv_aload_n hx hb d_Permits_add_25 rfl (lv_at hl 1 rfl) ?_
  refine gf_Permits_x2s hF hK hP m_66 d_Permits_add_26 ?_
  refine lv_iload_n hx hb d_Permits_add_29 rfl (lv_at hl 0 rfl) ?_
  refine lv_aload_n hx hb d_Permits_add_30 rfl (lv_at hl 1 rfl) ?_
  refine gf_Permits_groundX2 hF hK hP m_58 d_Permits_add_31 ?_
  have k34 := h.1
  have h := h.2
  refine asI_33 hF hK hP hL hS k34 d_Permits_add_34 (fun H locs hP hS => ?_)
  refine lv_aload_n hx hb d_Permits_add_35 rfl (lv_at hl 1 rfl) ?_
  refine gf_Permits_y2s hF hK hP m_69 d_Permits_add_36 ?_
  refine lv_iload_n hx hb d_Permits_add_39 rfl (lv_at hl 0 rfl) ?_
  refine lv_aload_n hx hb d_Permits_add_40 rfl (lv_at hl 1 rfl) ?_
  refine gf_Permits_groundY2 hF hK hP m_60 d_Permits_add_41 ?_
  have k44 := h.1
  have h := h.2
  refine asI_34 hF hK hP hL hS k44 d_Permits_add_44 (fun H locs hP hS => ?_)
  refine lv_aload_n hx hb d_Permits_add_45 rfl (lv_at hl 1 rfl) ?_
  refine gf_Permits_froms hF hK hP m_76 d_Permits_add_46 ?_
  refine lv_iload_n hx hb d_Permits_add_49 rfl (lv_at hl 0 rfl) ?_
  refine lv_iload_n hx hb d_Permits_add_50 rfl (lv_at hl 2 rfl) ?_
  have k51 := h.1
  have h := h.2
  refine asI_35 hF hK hP hL hS k51 d_Permits_add_51 (fun H locs hP hS => ?_)
  refine lv_aload_n hx hb d_Permits_add_52 rfl (lv_at hl 1 rfl) ?_
  refine gf_Permits_tos hF hK hP m_75 d_Permits_add_53 ?_
  refine lv_iload_n hx hb d_Permits_add_56 rfl (lv_at hl 0 rfl) ?_
  refine lv_iload_n hx hb d_Permits_add_57 rfl (lv_at hl 3 rfl) ?_
  have k58 := h
  refine asI_36 hF hK hP hL hS k58 d_Permits_add_58 (fun H locs hP hS => ?_)
  refine lv_aload_n hx hb d_Permits_add_59 rfl (lv_at hl 1 rfl) ?_
  refine lv_dup hx hb d_Permits_add_60 rfl ?_
  refine gf_Permits_count hF hK hP m_74 d_Permits_add_61 ?_
  refine lv_iconst (v := 1) hx hb d_Permits_add_64 (by decide) ?_
  refine lv_iadd hx hb d_Permits_add_65 ?_
  refine pf_Permits_count hF hK hP hL hS m_74 d_Permits_add_66 (fun H locs hP hS => ?_)
  refine lv_iload_n hx hb d_Permits_add_69 rfl (lv_at hl 0 rfl) ?_
  have hv : ((sc 5, s2 (s2 (s2 (s2 (s2 (s2 ar 31 ((sc 5).toNatClampNeg) (sc 7)) 32 ((sc 5).toNatClampNeg) (sc 8)) 33 ((sc 5).toNatClampNeg) (sc 9)) 34 ((sc 5).toNatClampNeg) (sc 10)) 35 ((sc 5).toNatClampNeg) a0) 36 ((sc 5).toNatClampNeg) a1, sg sc 5 ((sc 5) + 1)) : Int32 × (Nat → Nat → Int32) × (Nat → Int32)) = f_Permits_add ar sc a0 a1 := by rw [f_Permits_add]
  exact W.iret (v := sc 5) hx hb hr (fun t ht hW => ⟨⟨sc 5, (s2 (s2 (s2 (s2 (s2 (s2 ar 31 ((sc 5).toNatClampNeg) (sc 7)) 32 ((sc 5).toNatClampNeg) (sc 8)) 33 ((sc 5).toNatClampNeg) (sc 9)) 34 ((sc 5).toNatClampNeg) (sc 10)) 35 ((sc 5).toNatClampNeg) a0) 36 ((sc 5).toNatClampNeg) a1, sg sc 5 ((sc 5) + 1)), rfl, hv, by dsimp only; rw [ht]; exact hP⟩, hS.F ht⟩) hS.2.2 d_Permits_add_70
set_option maxHeartbeats 1000000 in
theorem r_Permits_add {p : Program} {l : Launch} {e : Env} {R : Room} {s : State} {m : MethodId} {args : Array Value} {below : List Frame} {meth : Method} {c : Code} {H : Heap} {locs : List Loc} {cells slots : Nat} {Q : State → Prop} {cc : ByteArray} {nL pc idx : Nat} {ls : Array Slot} {rest : List Value} {own : String} {dC : Nat → ClassId} {dI : Nat → Nat → Nat} {L : Nat → Nat} {cA : Nat → ClassId} {ar : Nat → Nat → Int32} {sc : Nat → Int32} {H0 : Heap} {a0 : Int32} {a1 : Int32} (hF : CallFix p m c cc nL s args w_all own) (hK : kW_I dC dI cA s) (hP : va_P (dC, dI) classes (wI L cA ar sc) H) (hL : ij 38 L) (hS : va_S (aI L) H0 H locs) (h : p_Permits_add ar sc a0 a1) (hlk : Cond.methodLink own idx y_Permits_add ∈ w_all) (hsz : ls.size = nL) (hR : (rmD 0).frames + 1 ≤ R.frames ∧ 8 + (4 + 11) + (rmD 0).locals ≤ R.locals) (hc : cells ≤ R.cells ∧ slots ≤ R.slots) (hrs : (rest.map fun v => v.category).sum ≤ 8) (hdg : decode cc pc = .ok (.invokevirtual idx, 3)) (kk : ∀ (H1 : Heap) (locs1 : List Loc), va_P (dC, dI) classes (wI L cA ((f_Permits_add ar sc a0 a1).2.1) ((f_Permits_add ar sc a0 a1).2.2)) H1 → va_S (aI L) H0 H1 locs1 → W p l e R s m args below meth c H1 locs1 cells slots Q (F0 m (pc + 3) ls (.int (f_Permits_add ar sc a0 a1).1 :: rest))) : W p l e R s m args below meth c H locs cells slots Q (F0 m pc ls (.int a1 :: .int a0 :: .ref (L 30) :: rest)) :=
  va_calli (va_runV (As := [.int a0, .int a1]) (rest := rest) hF (c_Permits_add l dC dI L cA ar sc a0 a1 hL h) (cwV 2 hF.2.2.2.2 (gV hlk m_87 m_88 m_56 m_89) rfl rfl rfl (by decide +kernel) hR) ⟨xb_I, va_recv hK.1 hP (ci := 6) (q0 := 30) rfl rfl, fun U hU hW => ⟨rfl, by rw [hU]; exact hP, kW_I_warm hW hK⟩⟩ rfl rfl hsz rfl (lv_room hrs) hdg hc) hS (fun q _ h9 => h9) (fun q h9 => h9) (fun r u t H1 locs1 ht hvm hw hB hz1 hk1 hS1 => by
    have hk9 := kk H1 locs1 (by rw [← hw, ← ht]; exact hB) hS1
    rw [← hw] at hk9
    exact hk9)
end
section
theorem m_90 : (Cond.fieldLink R_Route 21 "InspectRows$Route" "legs" "[I") ∈ w_all := List.mem_filter.mpr ⟨List.mem_of_getElem? (i := 174) (by decide +kernel), by decide +kernel⟩
theorem m_91 : (Cond.fieldLink R_Route 24 "InspectRows$Route" "leastHome" "[I") ∈ w_all := List.mem_filter.mpr ⟨List.mem_of_getElem? (i := 175) (by decide +kernel), by decide +kernel⟩
theorem m_92 : (Cond.instanceMethod y_Route_metresBy) ∈ w_all := List.mem_filter.mpr ⟨List.mem_of_getElem? (i := 634) (by decide +kernel), by decide +kernel⟩
theorem m_93 : (Cond.selects R_Route y_Route_metresBy y_Route_metresBy) ∈ w_all := List.mem_filter.mpr ⟨List.mem_of_getElem? (i := 13) (by decide +kernel), by decide +kernel⟩
theorem m_94 : (Cond.initialized R_Route) ∈ w_all := List.mem_filter.mpr ⟨List.mem_of_getElem? (i := 37) (by decide +kernel), by decide +kernel⟩
theorem m_95 : (Cond.code y_Route_metresBy b_Route_metresBy 5 (some .int)) ∈ w_all := List.mem_filter.mpr ⟨List.mem_of_getElem? (i := 635) (by decide +kernel), by decide +kernel⟩
theorem m_96 : (Cond.fieldLink R_Route 30 "InspectRows$Route" "count" "I") ∈ w_all := List.mem_filter.mpr ⟨List.mem_of_getElem? (i := 178) (by decide +kernel), by decide +kernel⟩
theorem m_97 : (Cond.methodLink R_Route 53 y_Route_metresBy) ∈ w_all := List.mem_filter.mpr ⟨List.mem_of_getElem? (i := 632) (by decide +kernel), by decide +kernel⟩
theorem m_98 : (Cond.constant R_Route 59 2147483647) ∈ w_all := List.mem_filter.mpr ⟨List.mem_of_getElem? (i := 631) (by decide +kernel), by decide +kernel⟩
theorem m_99 : (Cond.instanceMethod y_Route_firstLeastNext) ∈ w_all := List.mem_filter.mpr ⟨List.mem_of_getElem? (i := 629) (by decide +kernel), by decide +kernel⟩
theorem m_100 : (Cond.selects R_Route y_Route_firstLeastNext y_Route_firstLeastNext) ∈ w_all := List.mem_filter.mpr ⟨List.mem_of_getElem? (i := 12) (by decide +kernel), by decide +kernel⟩
theorem m_101 : (Cond.code y_Route_firstLeastNext b_Route_firstLeastNext 7 (some .int)) ∈ w_all := List.mem_filter.mpr ⟨List.mem_of_getElem? (i := 630) (by decide +kernel), by decide +kernel⟩
theorem m_102 : (Cond.fieldLink R_Route 9 "InspectRows$Route" "told" "[I") ∈ w_all := List.mem_filter.mpr ⟨List.mem_of_getElem? (i := 171) (by decide +kernel), by decide +kernel⟩
theorem m_103 : (Cond.fieldLink R_Route 15 "InspectRows$Route" "xs" "[I") ∈ w_all := List.mem_filter.mpr ⟨List.mem_of_getElem? (i := 172) (by decide +kernel), by decide +kernel⟩
theorem m_104 : (Cond.fieldLink R_Route 18 "InspectRows$Route" "ys" "[I") ∈ w_all := List.mem_filter.mpr ⟨List.mem_of_getElem? (i := 173) (by decide +kernel), by decide +kernel⟩
theorem m_105 : (Cond.instanceMethod y_Route_tell) ∈ w_all := List.mem_filter.mpr ⟨List.mem_of_getElem? (i := 609) (by decide +kernel), by decide +kernel⟩
theorem m_106 : (Cond.selects R_Route y_Route_tell y_Route_tell) ∈ w_all := List.mem_filter.mpr ⟨List.mem_of_getElem? (i := 610) (by decide +kernel), by decide +kernel⟩
theorem m_107 : (Cond.code y_Route_tell b_Route_tell 5 none) ∈ w_all := List.mem_filter.mpr ⟨List.mem_of_getElem? (i := 611) (by decide +kernel), by decide +kernel⟩
theorem m_108 : (Cond.methodLink R_Route 43 Lib.Math.abs.name) ∈ w_all := List.mem_filter.mpr ⟨List.mem_of_getElem? (i := 620) (by decide +kernel), by decide +kernel⟩
theorem m_109 : (Cond.static Lib.Math.abs.name) ∈ w_all := List.mem_filter.mpr ⟨List.mem_of_getElem? (i := 621) (by decide +kernel), by decide +kernel⟩
theorem m_110 : (Cond.code Lib.Math.abs.name Lib.Math.abs.code 1 (some .int)) ∈ w_all := List.mem_filter.mpr ⟨List.mem_of_getElem? (i := 622) (by decide +kernel), by decide +kernel⟩
theorem m_111 : (Cond.instanceMethod y_Route_fillLegs) ∈ w_all := List.mem_filter.mpr ⟨List.mem_of_getElem? (i := 618) (by decide +kernel), by decide +kernel⟩
theorem m_112 : (Cond.selects R_Route y_Route_fillLegs y_Route_fillLegs) ∈ w_all := List.mem_filter.mpr ⟨List.mem_of_getElem? (i := 10) (by decide +kernel), by decide +kernel⟩
theorem m_113 : (Cond.code y_Route_fillLegs b_Route_fillLegs 3 none) ∈ w_all := List.mem_filter.mpr ⟨List.mem_of_getElem? (i := 619) (by decide +kernel), by decide +kernel⟩
theorem m_114 : (Cond.methodLink R_Route 49 y_Route_firstLeastNext) ∈ w_all := List.mem_filter.mpr ⟨List.mem_of_getElem? (i := 627) (by decide +kernel), by decide +kernel⟩
theorem m_115 : (Cond.instanceMethod y_Route_fillLeastHome) ∈ w_all := List.mem_filter.mpr ⟨List.mem_of_getElem? (i := 625) (by decide +kernel), by decide +kernel⟩
theorem m_116 : (Cond.selects R_Route y_Route_fillLeastHome y_Route_fillLeastHome) ∈ w_all := List.mem_filter.mpr ⟨List.mem_of_getElem? (i := 11) (by decide +kernel), by decide +kernel⟩
theorem m_117 : (Cond.code y_Route_fillLeastHome b_Route_fillLeastHome 5 none) ∈ w_all := List.mem_filter.mpr ⟨List.mem_of_getElem? (i := 626) (by decide +kernel), by decide +kernel⟩
theorem m_118 : (Cond.fieldLink R_Route 27 "InspectRows$Route" "stops" "[I") ∈ w_all := List.mem_filter.mpr ⟨List.mem_of_getElem? (i := 176) (by decide +kernel), by decide +kernel⟩
theorem m_119 : (Cond.instanceMethod y_Route_fillStops) ∈ w_all := List.mem_filter.mpr ⟨List.mem_of_getElem? (i := 638) (by decide +kernel), by decide +kernel⟩
theorem m_120 : (Cond.selects R_Route y_Route_fillStops y_Route_fillStops) ∈ w_all := List.mem_filter.mpr ⟨List.mem_of_getElem? (i := 14) (by decide +kernel), by decide +kernel⟩
theorem m_121 : (Cond.code y_Route_fillStops b_Route_fillStops 4 none) ∈ w_all := List.mem_filter.mpr ⟨List.mem_of_getElem? (i := 639) (by decide +kernel), by decide +kernel⟩
theorem m_122 : (Cond.methodLink R_Route 34 y_Route_fillLegs) ∈ w_all := List.mem_filter.mpr ⟨List.mem_of_getElem? (i := 616) (by decide +kernel), by decide +kernel⟩
theorem m_123 : (Cond.methodLink R_Route 37 y_Route_fillLeastHome) ∈ w_all := List.mem_filter.mpr ⟨List.mem_of_getElem? (i := 623) (by decide +kernel), by decide +kernel⟩
theorem m_124 : (Cond.methodLink R_Route 40 y_Route_fillStops) ∈ w_all := List.mem_filter.mpr ⟨List.mem_of_getElem? (i := 636) (by decide +kernel), by decide +kernel⟩
theorem m_125 : (Cond.instanceMethod y_Route_findLeast) ∈ w_all := List.mem_filter.mpr ⟨List.mem_of_getElem? (i := 613) (by decide +kernel), by decide +kernel⟩
theorem m_126 : (Cond.selects R_Route y_Route_findLeast y_Route_findLeast) ∈ w_all := List.mem_filter.mpr ⟨List.mem_of_getElem? (i := 614) (by decide +kernel), by decide +kernel⟩
theorem m_127 : (Cond.code y_Route_findLeast b_Route_findLeast 2 (some .int)) ∈ w_all := List.mem_filter.mpr ⟨List.mem_of_getElem? (i := 615) (by decide +kernel), by decide +kernel⟩
theorem d_Route_metresBy_0 : decode b_Route_metresBy 0 = .ok (.iload_n 1, 1) := by decide +kernel
theorem d_Route_metresBy_1 : decode b_Route_metresBy 1 = .ok (.iconst 1, 1) := by decide +kernel
theorem d_Route_metresBy_2 : decode b_Route_metresBy 2 = .ok (.iload_n 3, 1) := by decide +kernel
theorem d_Route_metresBy_3 : decode b_Route_metresBy 3 = .ok (.ishl, 1) := by decide +kernel
theorem d_Route_metresBy_4 : decode b_Route_metresBy 4 = .ok (.ior, 1) := by decide +kernel
theorem d_Route_metresBy_5 : decode b_Route_metresBy 5 = .ok (.istore 4, 2) := by decide +kernel
theorem d_Route_metresBy_7 : decode b_Route_metresBy 7 = .ok (.aload_n 0, 1) := by decide +kernel
theorem d_Route_metresBy_8 : decode b_Route_metresBy 8 = .ok (.getfield 21, 3) := by decide +kernel
theorem d_Route_metresBy_11 : decode b_Route_metresBy 11 = .ok (.iload_n 2, 1) := by decide +kernel
theorem d_Route_metresBy_12 : decode b_Route_metresBy 12 = .ok (.bipush 8, 2) := by decide +kernel
theorem d_Route_metresBy_14 : decode b_Route_metresBy 14 = .ok (.imul, 1) := by decide +kernel
theorem d_Route_metresBy_15 : decode b_Route_metresBy 15 = .ok (.iload_n 3, 1) := by decide +kernel
theorem d_Route_metresBy_16 : decode b_Route_metresBy 16 = .ok (.iadd, 1) := by decide +kernel
theorem d_Route_metresBy_17 : decode b_Route_metresBy 17 = .ok (.iaload, 1) := by decide +kernel
theorem d_Route_metresBy_18 : decode b_Route_metresBy 18 = .ok (.aload_n 0, 1) := by decide +kernel
theorem d_Route_metresBy_19 : decode b_Route_metresBy 19 = .ok (.getfield 24, 3) := by decide +kernel
theorem d_Route_metresBy_22 : decode b_Route_metresBy 22 = .ok (.iload 4, 2) := by decide +kernel
theorem d_Route_metresBy_24 : decode b_Route_metresBy 24 = .ok (.bipush 8, 2) := by decide +kernel
theorem d_Route_metresBy_26 : decode b_Route_metresBy 26 = .ok (.imul, 1) := by decide +kernel
theorem d_Route_metresBy_27 : decode b_Route_metresBy 27 = .ok (.iload_n 3, 1) := by decide +kernel
theorem d_Route_metresBy_28 : decode b_Route_metresBy 28 = .ok (.iadd, 1) := by decide +kernel
theorem d_Route_metresBy_29 : decode b_Route_metresBy 29 = .ok (.iaload, 1) := by decide +kernel
theorem d_Route_metresBy_30 : decode b_Route_metresBy 30 = .ok (.iadd, 1) := by decide +kernel
theorem d_Route_metresBy_31 : decode b_Route_metresBy 31 = .ok (.ireturn, 1) := by decide +kernel
set_option maxHeartbeats 4000000 in
set_option maxRecDepth 100000 in
theorem c_Route_metresBy (l : Launch) (dC : Nat → ClassId) (dI : Nat → Nat → Nat) (L : Nat → Nat) (cA : Nat → ClassId) (ar : Nat → Nat → Int32) (sc : Nat → Int32) (a0 : Int32) (a1 : Int32) (a2 : Int32) (h : p_Route_metresBy ar sc a0 a1 a2) : Met l y_Route_metresBy z_Route_metresBy (rmD 0) (va_Pc [.ref (L 23), .int a0, .int a1, .int a2] (fun U => xw_I dC dI L cA ar sc U)) (QcRead (f_Route_metresBy ar sc a0 a1 a2)) 0 0 (fun _ => False) := by
  refine Met.ofW (cc := b_Route_metresBy) (maxL := 5) (ret := (some .int)) (by decide) rfl ?_
  intro p e s m args below meth c s₁ B hml hv
  obtain ⟨rfl, ⟨hP, hK⟩⟩ := hv
  have hx := B.exec
  have hb := B.bytes
  have hr := B.returns
  have hts : ∀ w ∈ w_all, w.before _ s = true := fun w hw => atoms_spec (ws := z_Route_metresBy) B.pre w (List.mem_cons_of_mem _ hw)
  have hown : s.vm.findClass R_Route = some m.cls := findClass_of_methodNamed B.named
  have hlocks := B.notSynchronized
  have hF : CallFix p m c b_Route_metresBy 5 s _ w_all R_Route := ⟨hx, hb, hml, hown, hts⟩
  have hl := lv_entry ([.ref (L 23), .int a0, .int a1, .int a2]) (n := 5) (Nat.le_of_ble_eq_true rfl)
  rw [lg_entry_eq]
  generalize (lg_sl ([.ref (L 23), .int a0, .int a1, .int a2]) ++ List.replicate (5 - (lg_sl ([.ref (L 23), .int a0, .int a1, .int a2])).length) Slot.unset).toArray = ls at hl ⊢
  have hl : lv_has ls 5 [(0, .ref (L 23)), (1, .int a0), (2, .int a1), (3, .int a2)] := hl
  unfold p_Route_metresBy at h
  refine lv_iload_n hx hb d_Route_metresBy_0 rfl (lv_at hl 1 rfl) ?_
  refine lv_iconst (v := 1) hx hb d_Route_metresBy_1 (by decide) ?_
  refine lv_iload_n hx hb d_Route_metresBy_2 rfl (lv_at hl 3 rfl) ?_
  refine lv_ishl hx hb d_Route_metresBy_3 ?_
  refine lv_ior hx hb d_Route_metresBy_4 ?_
  refine lv_istore (lv' := [(4, .int (a0 ||| ((1 : Int32) <<< (a2 &&& 31)))), (0, .ref (L 23)), (1, .int a0), (2, .int a1), (3, .int a2)]) hx hb d_Route_metresBy_5 hl (by decide) rfl (fun ls hl => ?_)
  refine lv_aload_n hx hb d_Route_metresBy_7 rfl (lv_at hl 1 rfl) ?_
  refine gf_Route_legs hF hK hP m_90 d_Route_metresBy_8 ?_
  refine lv_iload_n hx hb d_Route_metresBy_11 rfl (lv_at hl 3 rfl) ?_
  refine lv_bipush (v := 8) hx hb d_Route_metresBy_12 (by decide) ?_
  refine lv_imul hx hb d_Route_metresBy_14 ?_
  refine lv_iload_n hx hb d_Route_metresBy_15 rfl (lv_at hl 4 rfl) ?_
  refine lv_iadd hx hb d_Route_metresBy_16 ?_
  have k17 := h.1
  have h := h.2
  refine alI_27 hF hK hP k17 d_Route_metresBy_17 ?_
  refine lv_aload_n hx hb d_Route_metresBy_18 rfl (lv_at hl 1 rfl) ?_
  refine gf_Route_leastHome hF hK hP m_91 d_Route_metresBy_19 ?_
  refine lv_iload hx hb d_Route_metresBy_22 (lv_at hl 0 rfl) ?_
  refine lv_bipush (v := 8) hx hb d_Route_metresBy_24 (by decide) ?_
  refine lv_imul hx hb d_Route_metresBy_26 ?_
  refine lv_iload_n hx hb d_Route_metresBy_27 rfl (lv_at hl 4 rfl) ?_
  refine lv_iadd hx hb d_Route_metresBy_28 ?_
  have k29 := h
  refine alI_28 hF hK hP k29 d_Route_metresBy_29 ?_
  refine lv_iadd hx hb d_Route_metresBy_30 ?_
  have hv : ((ar 27 (((a1 * 8) + a2).toNatClampNeg)) + (ar 28 ((((a0 ||| ((1 : Int32) <<< (a2 &&& 31))) * 8) + a2).toNatClampNeg)) : Int32) = f_Route_metresBy ar sc a0 a1 a2 := by rw [f_Route_metresBy]
  exact W.iret (v := (ar 27 (((a1 * 8) + a2).toNatClampNeg)) + (ar 28 ((((a0 ||| ((1 : Int32) <<< (a2 &&& 31))) * 8) + a2).toNatClampNeg))) hx hb hr (fun t ht hW => ⟨congrArg (fun z => Outcome.returned (some (Value.int z))) hv, ht⟩) (fun _ h9 => nomatch h9) d_Route_metresBy_31
set_option maxHeartbeats 1000000 in
theorem r_Route_metresBy {p : Program} {l : Launch} {e : Env} {R : Room} {s : State} {m : MethodId} {args : Array Value} {below : List Frame} {meth : Method} {c : Code} {H : Heap} {locs : List Loc} {cells slots : Nat} {Q : State → Prop} {cc : ByteArray} {nL pc idx : Nat} {ls : Array Slot} {rest : List Value} {own : String} {dC : Nat → ClassId} {dI : Nat → Nat → Nat} {L : Nat → Nat} {cA : Nat → ClassId} {ar : Nat → Nat → Int32} {sc : Nat → Int32} {a0 : Int32} {a1 : Int32} {a2 : Int32} (hF : CallFix p m c cc nL s args w_all own) (hK : kW_I dC dI cA s) (hP : va_P (dC, dI) classes (wI L cA ar sc) H) (h : p_Route_metresBy ar sc a0 a1 a2) (hlk : Cond.methodLink own idx y_Route_metresBy ∈ w_all) (hsz : ls.size = nL) (hR : (rmD 0).frames + 1 ≤ R.frames ∧ 8 + (5 + 11) + (rmD 0).locals ≤ R.locals) (hc : cells ≤ R.cells ∧ slots ≤ R.slots) (hrs : (rest.map fun v => v.category).sum ≤ 8) (hdg : decode cc pc = .ok (.invokevirtual idx, 3)) (kk : W p l e R s m args below meth c H locs cells slots Q (F0 m (pc + 3) ls (.int (f_Route_metresBy ar sc a0 a1 a2) :: rest))) : W p l e R s m args below meth c H locs cells slots Q (F0 m pc ls (.int a2 :: .int a1 :: .int a0 :: .ref (L 23) :: rest)) :=
  W.callR (W.runV (As := [.int a0, .int a1, .int a2]) (rest := rest) hF (c_Route_metresBy l dC dI L cA ar sc a0 a1 a2 h) (cwV 3 hF.2.2.2.2 (gV hlk m_92 m_93 m_94 m_95) rfl rfl rfl (by decide +kernel) hR) ⟨xb_I, va_recv hK.1 hP (ci := 5) (q0 := 23) rfl rfl, fun U hU hW => ⟨rfl, by rw [hU]; exact hP, kW_I_warm hW hK⟩⟩ rfl rfl hsz rfl (lv_room hrs) hdg hc) kk
theorem d_Route_firstLeastNext_0 : decode b_Route_firstLeastNext 0 = .ok (.aload_n 0, 1) := by decide +kernel
theorem d_Route_firstLeastNext_1 : decode b_Route_firstLeastNext 1 = .ok (.getfield 30, 3) := by decide +kernel
theorem d_Route_firstLeastNext_4 : decode b_Route_firstLeastNext 4 = .ok (.istore_n 3, 1) := by decide +kernel
theorem d_Route_firstLeastNext_5 : decode b_Route_firstLeastNext 5 = .ok (.ldc 59, 2) := by decide +kernel
theorem d_Route_firstLeastNext_7 : decode b_Route_firstLeastNext 7 = .ok (.istore 4, 2) := by decide +kernel
theorem d_Route_firstLeastNext_9 : decode b_Route_firstLeastNext 9 = .ok (.iconst 0, 1) := by decide +kernel
theorem d_Route_firstLeastNext_10 : decode b_Route_firstLeastNext 10 = .ok (.istore 5, 2) := by decide +kernel
theorem d_Route_firstLeastNext_12 : decode b_Route_firstLeastNext 12 = .ok (.iload 5, 2) := by decide +kernel
theorem d_Route_firstLeastNext_14 : decode b_Route_firstLeastNext 14 = .ok (.aload_n 0, 1) := by decide +kernel
theorem d_Route_firstLeastNext_15 : decode b_Route_firstLeastNext 15 = .ok (.getfield 30, 3) := by decide +kernel
theorem d_Route_firstLeastNext_18 : decode b_Route_firstLeastNext 18 = .ok (.if_icmp .ge 42, 3) := by decide +kernel
theorem d_Route_firstLeastNext_21 : decode b_Route_firstLeastNext 21 = .ok (.iload_n 1, 1) := by decide +kernel
theorem d_Route_firstLeastNext_22 : decode b_Route_firstLeastNext 22 = .ok (.iconst 1, 1) := by decide +kernel
theorem d_Route_firstLeastNext_23 : decode b_Route_firstLeastNext 23 = .ok (.iload 5, 2) := by decide +kernel
theorem d_Route_firstLeastNext_25 : decode b_Route_firstLeastNext 25 = .ok (.ishl, 1) := by decide +kernel
theorem d_Route_firstLeastNext_26 : decode b_Route_firstLeastNext 26 = .ok (.iand, 1) := by decide +kernel
theorem d_Route_firstLeastNext_27 : decode b_Route_firstLeastNext 27 = .ok (.ifCond .ne 27, 3) := by decide +kernel
theorem d_Route_firstLeastNext_30 : decode b_Route_firstLeastNext 30 = .ok (.aload_n 0, 1) := by decide +kernel
theorem d_Route_firstLeastNext_31 : decode b_Route_firstLeastNext 31 = .ok (.iload_n 1, 1) := by decide +kernel
theorem d_Route_firstLeastNext_32 : decode b_Route_firstLeastNext 32 = .ok (.iload_n 2, 1) := by decide +kernel
theorem d_Route_firstLeastNext_33 : decode b_Route_firstLeastNext 33 = .ok (.iload 5, 2) := by decide +kernel
theorem d_Route_firstLeastNext_35 : decode b_Route_firstLeastNext 35 = .ok (.invokevirtual 53, 3) := by decide +kernel
theorem d_Route_firstLeastNext_38 : decode b_Route_firstLeastNext 38 = .ok (.istore 6, 2) := by decide +kernel
theorem d_Route_firstLeastNext_40 : decode b_Route_firstLeastNext 40 = .ok (.iload 6, 2) := by decide +kernel
theorem d_Route_firstLeastNext_42 : decode b_Route_firstLeastNext 42 = .ok (.iload 4, 2) := by decide +kernel
theorem d_Route_firstLeastNext_44 : decode b_Route_firstLeastNext 44 = .ok (.if_icmp .ge 10, 3) := by decide +kernel
theorem d_Route_firstLeastNext_47 : decode b_Route_firstLeastNext 47 = .ok (.iload 5, 2) := by decide +kernel
theorem d_Route_firstLeastNext_49 : decode b_Route_firstLeastNext 49 = .ok (.istore_n 3, 1) := by decide +kernel
theorem d_Route_firstLeastNext_50 : decode b_Route_firstLeastNext 50 = .ok (.iload 6, 2) := by decide +kernel
theorem d_Route_firstLeastNext_52 : decode b_Route_firstLeastNext 52 = .ok (.istore 4, 2) := by decide +kernel
theorem d_Route_firstLeastNext_54 : decode b_Route_firstLeastNext 54 = .ok (.iinc 5 1, 3) := by decide +kernel
theorem d_Route_firstLeastNext_57 : decode b_Route_firstLeastNext 57 = .ok (.goto (-45), 3) := by decide +kernel
theorem d_Route_firstLeastNext_60 : decode b_Route_firstLeastNext 60 = .ok (.iload_n 3, 1) := by decide +kernel
theorem d_Route_firstLeastNext_61 : decode b_Route_firstLeastNext 61 = .ok (.ireturn, 1) := by decide +kernel
set_option maxHeartbeats 4000000 in
set_option maxRecDepth 100000 in
theorem l_Route_firstLeastNext_12 {p : Program} {l : Launch} {e : Env} {s : State} {m : MethodId} {args : Array Value} {below : List Frame} {meth : Method} {c : Code} {dC : Nat → ClassId} {dI : Nat → Nat → Nat} {L : Nat → Nat} {cA : Nat → ClassId} {ar : Nat → Nat → Int32} {sc : Nat → Int32} {Q : State → Prop} {H : Heap} {locs : List Loc} (a0 : Int32) (a1 : Int32)  (hF : CallFix p m c b_Route_firstLeastNext 7 s args w_all R_Route) (hK : kW_I dC dI cA s) (hP : va_P (dC, dI) classes (wI L cA ar sc) H) : ∀ (n : Nat) (v3 : Int32) (v4 : Int32) (v5 : Int32), q_Route_firstLeastNext_12 ar sc a0 a1 n v3 v4 v5 → ∀ (ls : Array Slot), lv_has ls 7 [(3, .int v3), (4, .int v4), (5, .int v5), (0, .ref (L 23)), (1, .int a0), (2, .int a1)] → (∀ (ls : Array Slot), lv_has ls 7 [(3, .int ((g_Route_firstLeastNext_12 ar sc a0 a1 n v3 v4 v5).1)), (4, .int ((g_Route_firstLeastNext_12 ar sc a0 a1 n v3 v4 v5).2.1)), (5, .int ((g_Route_firstLeastNext_12 ar sc a0 a1 n v3 v4 v5).2.2)), (0, .ref (L 23)), (1, .int a0), (2, .int a1)] → W p l e (rmD 1) s m args below meth c H locs 0 0 Q (F0 m 60 ls [])) → W p l e (rmD 1) s m args below meth c H locs 0 0 Q (F0 m 12 ls []) := by
  have hx := hF.1
  have hb := hF.2.1
  have hown := hF.2.2.2.1
  have hts := hF.2.2.2.2
  intro n
  induction n with
  | zero => intro v3 v4 v5 h; exact False.elim h
  | succ n ih =>
    intro v3 v4 v5 h ls hl hk
    rw [q_Route_firstLeastNext_12] at h
    refine lv_iload hx hb d_Route_firstLeastNext_12 (lv_at hl 2 rfl) ?_
    refine lv_aload_n hx hb d_Route_firstLeastNext_14 rfl (lv_at hl 3 rfl) ?_
    refine gf_Route_count hF hK hP m_96 d_Route_firstLeastNext_15 ?_
    refine lv_icmp_ge (tgt := 60) hx hb d_Route_firstLeastNext_18 (by decide) (fun c18 => ?_) (fun c18 => ?_)
    · have h := h.1 c18
      have hv : g_Route_firstLeastNext_12 ar sc a0 a1 (n + 1) v3 v4 v5 = ((v3, v4, v5) : Int32 × Int32 × Int32) := by rw [g_Route_firstLeastNext_12, if_pos c18]
      rw [hv] at hk
      exact hk ls (lv_sub hl [0, 1, 2, 3, 4, 5] rfl)
    · have h := h.2 c18
      refine lv_iload_n hx hb d_Route_firstLeastNext_21 rfl (lv_at hl 4 rfl) ?_
      refine lv_iconst (v := 1) hx hb d_Route_firstLeastNext_22 (by decide) ?_
      refine lv_iload hx hb d_Route_firstLeastNext_23 (lv_at hl 2 rfl) ?_
      refine lv_ishl hx hb d_Route_firstLeastNext_25 ?_
      refine lv_iand hx hb d_Route_firstLeastNext_26 ?_
      refine lv_if_ne (tgt := 54) hx hb d_Route_firstLeastNext_27 (by decide) (fun c27 => ?_) (fun c27 => ?_)
      · have h := h.2 c27
        refine lv_iinc (v := v5 + 1) (lv' := [(5, .int (v5 + 1)), (3, .int v3), (4, .int v4), (0, .ref (L 23)), (1, .int a0), (2, .int a1)]) hx hb d_Route_firstLeastNext_54 hl (k := 2) rfl rfl (by decide) rfl (fun ls hl => ?_)
        refine lv_goto (tgt := 12) hx hb d_Route_firstLeastNext_57 (by decide) ?_
        have hv : g_Route_firstLeastNext_12 ar sc a0 a1 (n + 1) v3 v4 v5 = g_Route_firstLeastNext_12 ar sc a0 a1 n v3 v4 (v5 + 1) := by rw [g_Route_firstLeastNext_12, if_neg c18, if_neg c27]
        rw [hv] at hk
        exact ih v3 v4 (v5 + 1) h ls (lv_sub hl [1, 2, 0, 3, 4, 5] rfl) hk
      · have h := h.1 c27
        refine lv_aload_n hx hb d_Route_firstLeastNext_30 rfl (lv_at hl 3 rfl) ?_
        refine lv_iload_n hx hb d_Route_firstLeastNext_31 rfl (lv_at hl 4 rfl) ?_
        refine lv_iload_n hx hb d_Route_firstLeastNext_32 rfl (lv_at hl 5 rfl) ?_
        refine lv_iload hx hb d_Route_firstLeastNext_33 (lv_at hl 2 rfl) ?_
        have k35 := h.1
        have h := h.2
        refine r_Route_metresBy hF hK hP k35 m_97 hl.1 ⟨Nat.le_of_ble_eq_true rfl, Nat.le_of_ble_eq_true rfl⟩ ⟨Nat.zero_le _, Nat.zero_le _⟩ (Nat.le_of_ble_eq_true rfl) d_Route_firstLeastNext_35 ?_
        refine lv_istore (lv' := [(6, .int (f_Route_metresBy ar sc a0 a1 v5)), (3, .int v3), (4, .int v4), (5, .int v5), (0, .ref (L 23)), (1, .int a0), (2, .int a1)]) hx hb d_Route_firstLeastNext_38 hl (by decide) rfl (fun ls hl => ?_)
        refine lv_iload hx hb d_Route_firstLeastNext_40 (lv_at hl 0 rfl) ?_
        refine lv_iload hx hb d_Route_firstLeastNext_42 (lv_at hl 2 rfl) ?_
        refine lv_icmp_ge (tgt := 54) hx hb d_Route_firstLeastNext_44 (by decide) (fun c44 => ?_) (fun c44 => ?_)
        · have h := h.1 c44
          refine lv_iinc (v := v5 + 1) (lv' := [(5, .int (v5 + 1)), (6, .int (f_Route_metresBy ar sc a0 a1 v5)), (3, .int v3), (4, .int v4), (0, .ref (L 23)), (1, .int a0), (2, .int a1)]) hx hb d_Route_firstLeastNext_54 hl (k := 3) rfl rfl (by decide) rfl (fun ls hl => ?_)
          refine lv_goto (tgt := 12) hx hb d_Route_firstLeastNext_57 (by decide) ?_
          have hv : g_Route_firstLeastNext_12 ar sc a0 a1 (n + 1) v3 v4 v5 = g_Route_firstLeastNext_12 ar sc a0 a1 n v3 v4 (v5 + 1) := by rw [g_Route_firstLeastNext_12, if_neg c18, if_pos c27, if_pos c44]
          rw [hv] at hk
          exact ih v3 v4 (v5 + 1) h ls (lv_sub hl [2, 3, 0, 4, 5, 6] rfl) hk
        · have h := h.2 c44
          refine lv_iload hx hb d_Route_firstLeastNext_47 (lv_at hl 3 rfl) ?_
          refine lv_istore_n (lv' := [(3, .int v5), (6, .int (f_Route_metresBy ar sc a0 a1 v5)), (4, .int v4), (5, .int v5), (0, .ref (L 23)), (1, .int a0), (2, .int a1)]) hx hb d_Route_firstLeastNext_49 rfl hl (by decide) rfl (fun ls hl => ?_)
          refine lv_iload hx hb d_Route_firstLeastNext_50 (lv_at hl 1 rfl) ?_
          refine lv_istore (lv' := [(4, .int (f_Route_metresBy ar sc a0 a1 v5)), (3, .int v5), (6, .int (f_Route_metresBy ar sc a0 a1 v5)), (5, .int v5), (0, .ref (L 23)), (1, .int a0), (2, .int a1)]) hx hb d_Route_firstLeastNext_52 hl (by decide) rfl (fun ls hl => ?_)
          refine lv_iinc (v := v5 + 1) (lv' := [(5, .int (v5 + 1)), (4, .int (f_Route_metresBy ar sc a0 a1 v5)), (3, .int v5), (6, .int (f_Route_metresBy ar sc a0 a1 v5)), (0, .ref (L 23)), (1, .int a0), (2, .int a1)]) hx hb d_Route_firstLeastNext_54 hl (k := 3) rfl rfl (by decide) rfl (fun ls hl => ?_)
          refine lv_goto (tgt := 12) hx hb d_Route_firstLeastNext_57 (by decide) ?_
          have hv : g_Route_firstLeastNext_12 ar sc a0 a1 (n + 1) v3 v4 v5 = g_Route_firstLeastNext_12 ar sc a0 a1 n v5 (f_Route_metresBy ar sc a0 a1 v5) (v5 + 1) := by rw [g_Route_firstLeastNext_12, if_neg c18, if_pos c27, if_neg c44]
          rw [hv] at hk
          exact ih v5 (f_Route_metresBy ar sc a0 a1 v5) (v5 + 1) h ls (lv_sub hl [2, 1, 0, 4, 5, 6] rfl) hk
set_option maxHeartbeats 4000000 in
set_option maxRecDepth 100000 in
theorem c_Route_firstLeastNext (l : Launch) (dC : Nat → ClassId) (dI : Nat → Nat → Nat) (L : Nat → Nat) (cA : Nat → ClassId) (ar : Nat → Nat → Int32) (sc : Nat → Int32) (a0 : Int32) (a1 : Int32) (h : p_Route_firstLeastNext ar sc a0 a1) : Met l y_Route_firstLeastNext z_Route_firstLeastNext (rmD 1) (va_Pc [.ref (L 23), .int a0, .int a1] (fun U => xw_I dC dI L cA ar sc U)) (QcRead (f_Route_firstLeastNext ar sc a0 a1)) 0 0 (fun _ => False) := by
  refine Met.ofW (cc := b_Route_firstLeastNext) (maxL := 7) (ret := (some .int)) (by decide) rfl ?_
  intro p e s m args below meth c s₁ B hml hv
  obtain ⟨rfl, ⟨hP, hK⟩⟩ := hv
  have hx := B.exec
  have hb := B.bytes
  have hr := B.returns
  have hts : ∀ w ∈ w_all, w.before _ s = true := fun w hw => atoms_spec (ws := z_Route_firstLeastNext) B.pre w (List.mem_cons_of_mem _ hw)
  have hown : s.vm.findClass R_Route = some m.cls := findClass_of_methodNamed B.named
  have hlocks := B.notSynchronized
  have hF : CallFix p m c b_Route_firstLeastNext 7 s _ w_all R_Route := ⟨hx, hb, hml, hown, hts⟩
  have hl := lv_entry ([.ref (L 23), .int a0, .int a1]) (n := 7) (Nat.le_of_ble_eq_true rfl)
  rw [lg_entry_eq]
  generalize (lg_sl ([.ref (L 23), .int a0, .int a1]) ++ List.replicate (7 - (lg_sl ([.ref (L 23), .int a0, .int a1])).length) Slot.unset).toArray = ls at hl ⊢
  have hl : lv_has ls 7 [(0, .ref (L 23)), (1, .int a0), (2, .int a1)] := hl
  unfold p_Route_firstLeastNext at h
  refine lv_aload_n hx hb d_Route_firstLeastNext_0 rfl (lv_at hl 0 rfl) ?_
  refine gf_Route_count hF hK hP m_96 d_Route_firstLeastNext_1 ?_
  refine lv_istore_n (lv' := [(3, .int (sc 4)), (0, .ref (L 23)), (1, .int a0), (2, .int a1)]) hx hb d_Route_firstLeastNext_4 rfl hl (by decide) rfl (fun ls hl => ?_)
  refine lv_ldc (v := 2147483647) hx hb hown (hts _ m_98) d_Route_firstLeastNext_5 ?_
  refine lv_istore (lv' := [(4, .int 2147483647), (3, .int (sc 4)), (0, .ref (L 23)), (1, .int a0), (2, .int a1)]) hx hb d_Route_firstLeastNext_7 hl (by decide) rfl (fun ls hl => ?_)
  refine lv_iconst (v := 0) hx hb d_Route_firstLeastNext_9 (by decide) ?_
  refine lv_istore (lv' := [(5, .int 0), (4, .int 2147483647), (3, .int (sc 4)), (0, .ref (L 23)), (1, .int a0), (2, .int a1)]) hx hb d_Route_firstLeastNext_10 hl (by decide) rfl (fun ls hl => ?_)
  have kL12 := h
  refine l_Route_firstLeastNext_12 a0 a1 hF hK hP 200 (sc 4) 2147483647 0 kL12 ls (lv_sub hl [2, 1, 0, 3, 4, 5] rfl) (fun ls hl => ?_)
  refine lv_iload_n hx hb d_Route_firstLeastNext_60 rfl (lv_at hl 0 rfl) ?_
  have hv : ((g_Route_firstLeastNext_12 ar sc a0 a1 200 (sc 4) 2147483647 0).1 : Int32) = f_Route_firstLeastNext ar sc a0 a1 := by rw [f_Route_firstLeastNext]
  exact W.iret (v := (g_Route_firstLeastNext_12 ar sc a0 a1 200 (sc 4) 2147483647 0).1) hx hb hr (fun t ht hW => ⟨congrArg (fun z => Outcome.returned (some (Value.int z))) hv, ht⟩) (fun _ h9 => nomatch h9) d_Route_firstLeastNext_61
set_option maxHeartbeats 1000000 in
theorem r_Route_firstLeastNext {p : Program} {l : Launch} {e : Env} {R : Room} {s : State} {m : MethodId} {args : Array Value} {below : List Frame} {meth : Method} {c : Code} {H : Heap} {locs : List Loc} {cells slots : Nat} {Q : State → Prop} {cc : ByteArray} {nL pc idx : Nat} {ls : Array Slot} {rest : List Value} {own : String} {dC : Nat → ClassId} {dI : Nat → Nat → Nat} {L : Nat → Nat} {cA : Nat → ClassId} {ar : Nat → Nat → Int32} {sc : Nat → Int32} {a0 : Int32} {a1 : Int32} (hF : CallFix p m c cc nL s args w_all own) (hK : kW_I dC dI cA s) (hP : va_P (dC, dI) classes (wI L cA ar sc) H) (h : p_Route_firstLeastNext ar sc a0 a1) (hlk : Cond.methodLink own idx y_Route_firstLeastNext ∈ w_all) (hsz : ls.size = nL) (hR : (rmD 1).frames + 1 ≤ R.frames ∧ 8 + (7 + 11) + (rmD 1).locals ≤ R.locals) (hc : cells ≤ R.cells ∧ slots ≤ R.slots) (hrs : (rest.map fun v => v.category).sum ≤ 8) (hdg : decode cc pc = .ok (.invokevirtual idx, 3)) (kk : W p l e R s m args below meth c H locs cells slots Q (F0 m (pc + 3) ls (.int (f_Route_firstLeastNext ar sc a0 a1) :: rest))) : W p l e R s m args below meth c H locs cells slots Q (F0 m pc ls (.int a1 :: .int a0 :: .ref (L 23) :: rest)) :=
  W.callR (W.runV (As := [.int a0, .int a1]) (rest := rest) hF (c_Route_firstLeastNext l dC dI L cA ar sc a0 a1 h) (cwV 2 hF.2.2.2.2 (gV hlk m_99 m_100 m_94 m_101) rfl rfl rfl (by decide +kernel) hR) ⟨xb_I, va_recv hK.1 hP (ci := 5) (q0 := 23) rfl rfl, fun U hU hW => ⟨rfl, by rw [hU]; exact hP, kW_I_warm hW hK⟩⟩ rfl rfl hsz rfl (lv_room hrs) hdg hc) kk
theorem d_Route_tell_0 : decode b_Route_tell 0 = .ok (.aload_n 0, 1) := by decide +kernel
theorem d_Route_tell_1 : decode b_Route_tell 1 = .ok (.getfield 9, 3) := by decide +kernel
theorem d_Route_tell_4 : decode b_Route_tell 4 = .ok (.iload_n 1, 1) := by decide +kernel
theorem d_Route_tell_5 : decode b_Route_tell 5 = .ok (.iload_n 2, 1) := by decide +kernel
theorem d_Route_tell_6 : decode b_Route_tell 6 = .ok (.iastore, 1) := by decide +kernel
theorem d_Route_tell_7 : decode b_Route_tell 7 = .ok (.aload_n 0, 1) := by decide +kernel
theorem d_Route_tell_8 : decode b_Route_tell 8 = .ok (.getfield 15, 3) := by decide +kernel
theorem d_Route_tell_11 : decode b_Route_tell 11 = .ok (.iload_n 1, 1) := by decide +kernel
theorem d_Route_tell_12 : decode b_Route_tell 12 = .ok (.iload_n 3, 1) := by decide +kernel
theorem d_Route_tell_13 : decode b_Route_tell 13 = .ok (.iastore, 1) := by decide +kernel
theorem d_Route_tell_14 : decode b_Route_tell 14 = .ok (.aload_n 0, 1) := by decide +kernel
theorem d_Route_tell_15 : decode b_Route_tell 15 = .ok (.getfield 18, 3) := by decide +kernel
theorem d_Route_tell_18 : decode b_Route_tell 18 = .ok (.iload_n 1, 1) := by decide +kernel
theorem d_Route_tell_19 : decode b_Route_tell 19 = .ok (.iload 4, 2) := by decide +kernel
theorem d_Route_tell_21 : decode b_Route_tell 21 = .ok (.iastore, 1) := by decide +kernel
theorem d_Route_tell_22 : decode b_Route_tell 22 = .ok (.return_, 1) := by decide +kernel
set_option maxHeartbeats 4000000 in
set_option maxRecDepth 100000 in
theorem c_Route_tell (l : Launch) (dC : Nat → ClassId) (dI : Nat → Nat → Nat) (L : Nat → Nat) (cA : Nat → ClassId) (ar : Nat → Nat → Int32) (sc : Nat → Int32) (a0 : Int32) (a1 : Int32) (a2 : Int32) (a3 : Int32) (hL : ij 38 L) (h : p_Route_tell ar sc a0 a1 a2 a3) : Met l y_Route_tell z_Route_tell (rmD 0) (va_Pc [.ref (L 23), .int a0, .int a1, .int a2, .int a3] (fun U => xw_I dC dI L cA ar sc U)) (va_Qv (fun u : oS => (u.1, u.2) = f_Route_tell ar sc a0 a1 a2 a3) (fun u t => va_P (dC, dI) classes (wI L cA u.1 u.2) t.heap) (aI L)) 0 0 (aI L) := by
  refine Met.ofW (cc := b_Route_tell) (maxL := 5) (ret := none) (by decide) rfl ?_
  intro p e s m args below meth c s₁ B hml hv
  obtain ⟨rfl, ⟨hP, hK⟩⟩ := hv
  have hx := B.exec
  have hb := B.bytes
  have hr := B.returns
  have hts : ∀ w ∈ w_all, w.before _ s = true := fun w hw => atoms_spec (ws := z_Route_tell) B.pre w (List.mem_cons_of_mem _ hw)
  have hown : s.vm.findClass R_Route = some m.cls := findClass_of_methodNamed B.named
  have hlocks := B.notSynchronized
  have hF : CallFix p m c b_Route_tell 5 s _ w_all R_Route := ⟨hx, hb, hml, hown, hts⟩
  have hS : va_S (aI L) s.heap s.heap [] := va_S.rf
  have hl := lv_entry ([.ref (L 23), .int a0, .int a1, .int a2, .int a3]) (n := 5) (Nat.le_of_ble_eq_true rfl)
  rw [lg_entry_eq]
  generalize (lg_sl ([.ref (L 23), .int a0, .int a1, .int a2, .int a3]) ++ List.replicate (5 - (lg_sl ([.ref (L 23), .int a0, .int a1, .int a2, .int a3])).length) Slot.unset).toArray = ls at hl ⊢
  have hl : lv_has ls 5 [(0, .ref (L 23)), (1, .int a0), (2, .int a1), (3, .int a2), (4, .int a3)] := hl
  unfold p_Route_tell at h
  refine lv_aload_n hx hb d_Route_tell_0 rfl (lv_at hl 0 rfl) ?_
  refine gf_Route_told hF hK hP m_102 d_Route_tell_1 ?_
  refine lv_iload_n hx hb d_Route_tell_4 rfl (lv_at hl 1 rfl) ?_
  refine lv_iload_n hx hb d_Route_tell_5 rfl (lv_at hl 2 rfl) ?_
  have k6 := h.1
  have h := h.2
  refine asI_24 hF hK hP hL hS k6 d_Route_tell_6 (fun H locs hP hS => ?_)
  refine lv_aload_n hx hb d_Route_tell_7 rfl (lv_at hl 0 rfl) ?_
  refine gf_Route_xs hF hK hP m_103 d_Route_tell_8 ?_
  refine lv_iload_n hx hb d_Route_tell_11 rfl (lv_at hl 1 rfl) ?_
  refine lv_iload_n hx hb d_Route_tell_12 rfl (lv_at hl 3 rfl) ?_
  have k13 := h.1
  have h := h.2
  refine asI_25 hF hK hP hL hS k13 d_Route_tell_13 (fun H locs hP hS => ?_)
  refine lv_aload_n hx hb d_Route_tell_14 rfl (lv_at hl 0 rfl) ?_
  refine gf_Route_ys hF hK hP m_104 d_Route_tell_15 ?_
  refine lv_iload_n hx hb d_Route_tell_18 rfl (lv_at hl 1 rfl) ?_
  refine lv_iload hx hb d_Route_tell_19 (lv_at hl 4 rfl) ?_
  have k21 := h
  refine asI_26 hF hK hP hL hS k21 d_Route_tell_21 (fun H locs hP hS => ?_)
  have hv : ((s2 (s2 (s2 ar 24 a0.toNatClampNeg a1) 25 a0.toNatClampNeg a2) 26 a0.toNatClampNeg a3, sc) : (Nat → Nat → Int32) × (Nat → Int32)) = f_Route_tell ar sc a0 a1 a2 a3 := by rw [f_Route_tell]
  exact W.vret hx hb hr (fun t ht hW => ⟨⟨(s2 (s2 (s2 ar 24 a0.toNatClampNeg a1) 25 a0.toNatClampNeg a2) 26 a0.toNatClampNeg a3, sc), rfl, hv, by dsimp only; rw [ht]; exact hP⟩, hS.F ht⟩) hS.2.2 d_Route_tell_22
set_option maxHeartbeats 1000000 in
theorem r_Route_tell {p : Program} {l : Launch} {e : Env} {R : Room} {s : State} {m : MethodId} {args : Array Value} {below : List Frame} {meth : Method} {c : Code} {H : Heap} {locs : List Loc} {cells slots : Nat} {Q : State → Prop} {cc : ByteArray} {nL pc idx : Nat} {ls : Array Slot} {rest : List Value} {own : String} {dC : Nat → ClassId} {dI : Nat → Nat → Nat} {L : Nat → Nat} {cA : Nat → ClassId} {ar : Nat → Nat → Int32} {sc : Nat → Int32} {H0 : Heap} {a0 : Int32} {a1 : Int32} {a2 : Int32} {a3 : Int32} (hF : CallFix p m c cc nL s args w_all own) (hK : kW_I dC dI cA s) (hP : va_P (dC, dI) classes (wI L cA ar sc) H) (hL : ij 38 L) (hS : va_S (aI L) H0 H locs) (h : p_Route_tell ar sc a0 a1 a2 a3) (hlk : Cond.methodLink own idx y_Route_tell ∈ w_all) (hsz : ls.size = nL) (hR : (rmD 0).frames + 1 ≤ R.frames ∧ 8 + (5 + 11) + (rmD 0).locals ≤ R.locals) (hc : cells ≤ R.cells ∧ slots ≤ R.slots) (hrs : (rest.map fun v => v.category).sum ≤ 8) (hdg : decode cc pc = .ok (.invokevirtual idx, 3)) (kk : ∀ (H1 : Heap) (locs1 : List Loc), va_P (dC, dI) classes (wI L cA ((f_Route_tell ar sc a0 a1 a2 a3).1) ((f_Route_tell ar sc a0 a1 a2 a3).2)) H1 → va_S (aI L) H0 H1 locs1 → W p l e R s m args below meth c H1 locs1 cells slots Q (F0 m (pc + 3) ls (rest))) : W p l e R s m args below meth c H locs cells slots Q (F0 m pc ls (.int a3 :: .int a2 :: .int a1 :: .int a0 :: .ref (L 23) :: rest)) :=
  va_callv (va_runV (As := [.int a0, .int a1, .int a2, .int a3]) (rest := rest) hF (c_Route_tell l dC dI L cA ar sc a0 a1 a2 a3 hL h) (cwV 4 hF.2.2.2.2 (gV hlk m_105 m_106 m_94 m_107) rfl rfl rfl (by decide +kernel) hR) ⟨xb_I, va_recv hK.1 hP (ci := 5) (q0 := 23) rfl rfl, fun U hU hW => ⟨rfl, by rw [hU]; exact hP, kW_I_warm hW hK⟩⟩ rfl rfl hsz rfl (lv_room hrs) hdg hc) hS (fun q _ h9 => h9) (fun q h9 => h9) (fun u t H1 locs1 ht hvm hw hB hz1 hk1 hS1 => by
    have hk9 := kk H1 locs1 (by rw [← hw, ← ht]; exact hB) hS1
    exact hk9)
theorem d_Route_fillLegs_0 : decode b_Route_fillLegs 0 = .ok (.iconst 0, 1) := by decide +kernel
theorem d_Route_fillLegs_1 : decode b_Route_fillLegs 1 = .ok (.istore_n 1, 1) := by decide +kernel
theorem d_Route_fillLegs_2 : decode b_Route_fillLegs 2 = .ok (.iload_n 1, 1) := by decide +kernel
theorem d_Route_fillLegs_3 : decode b_Route_fillLegs 3 = .ok (.aload_n 0, 1) := by decide +kernel
theorem d_Route_fillLegs_4 : decode b_Route_fillLegs 4 = .ok (.getfield 30, 3) := by decide +kernel
theorem d_Route_fillLegs_7 : decode b_Route_fillLegs 7 = .ok (.if_icmp .gt 69, 3) := by decide +kernel
theorem d_Route_fillLegs_10 : decode b_Route_fillLegs 10 = .ok (.iconst 0, 1) := by decide +kernel
theorem d_Route_fillLegs_11 : decode b_Route_fillLegs 11 = .ok (.istore_n 2, 1) := by decide +kernel
theorem d_Route_fillLegs_12 : decode b_Route_fillLegs 12 = .ok (.iload_n 2, 1) := by decide +kernel
theorem d_Route_fillLegs_13 : decode b_Route_fillLegs 13 = .ok (.aload_n 0, 1) := by decide +kernel
theorem d_Route_fillLegs_14 : decode b_Route_fillLegs 14 = .ok (.getfield 30, 3) := by decide +kernel
theorem d_Route_fillLegs_17 : decode b_Route_fillLegs 17 = .ok (.if_icmp .gt 53, 3) := by decide +kernel
theorem d_Route_fillLegs_20 : decode b_Route_fillLegs 20 = .ok (.aload_n 0, 1) := by decide +kernel
theorem d_Route_fillLegs_21 : decode b_Route_fillLegs 21 = .ok (.getfield 21, 3) := by decide +kernel
theorem d_Route_fillLegs_24 : decode b_Route_fillLegs 24 = .ok (.iload_n 1, 1) := by decide +kernel
theorem d_Route_fillLegs_25 : decode b_Route_fillLegs 25 = .ok (.bipush 8, 2) := by decide +kernel
theorem d_Route_fillLegs_27 : decode b_Route_fillLegs 27 = .ok (.imul, 1) := by decide +kernel
theorem d_Route_fillLegs_28 : decode b_Route_fillLegs 28 = .ok (.iload_n 2, 1) := by decide +kernel
theorem d_Route_fillLegs_29 : decode b_Route_fillLegs 29 = .ok (.iadd, 1) := by decide +kernel
theorem d_Route_fillLegs_30 : decode b_Route_fillLegs 30 = .ok (.aload_n 0, 1) := by decide +kernel
theorem d_Route_fillLegs_31 : decode b_Route_fillLegs 31 = .ok (.getfield 15, 3) := by decide +kernel
theorem d_Route_fillLegs_34 : decode b_Route_fillLegs 34 = .ok (.iload_n 1, 1) := by decide +kernel
theorem d_Route_fillLegs_35 : decode b_Route_fillLegs 35 = .ok (.iaload, 1) := by decide +kernel
theorem d_Route_fillLegs_36 : decode b_Route_fillLegs 36 = .ok (.aload_n 0, 1) := by decide +kernel
theorem d_Route_fillLegs_37 : decode b_Route_fillLegs 37 = .ok (.getfield 15, 3) := by decide +kernel
theorem d_Route_fillLegs_40 : decode b_Route_fillLegs 40 = .ok (.iload_n 2, 1) := by decide +kernel
theorem d_Route_fillLegs_41 : decode b_Route_fillLegs 41 = .ok (.iaload, 1) := by decide +kernel
theorem d_Route_fillLegs_42 : decode b_Route_fillLegs 42 = .ok (.isub, 1) := by decide +kernel
theorem d_Route_fillLegs_43 : decode b_Route_fillLegs 43 = .ok (.invokestatic 43, 3) := by decide +kernel
theorem d_Route_fillLegs_46 : decode b_Route_fillLegs 46 = .ok (.aload_n 0, 1) := by decide +kernel
theorem d_Route_fillLegs_47 : decode b_Route_fillLegs 47 = .ok (.getfield 18, 3) := by decide +kernel
theorem d_Route_fillLegs_50 : decode b_Route_fillLegs 50 = .ok (.iload_n 1, 1) := by decide +kernel
theorem d_Route_fillLegs_51 : decode b_Route_fillLegs 51 = .ok (.iaload, 1) := by decide +kernel
theorem d_Route_fillLegs_52 : decode b_Route_fillLegs 52 = .ok (.aload_n 0, 1) := by decide +kernel
theorem d_Route_fillLegs_53 : decode b_Route_fillLegs 53 = .ok (.getfield 18, 3) := by decide +kernel
theorem d_Route_fillLegs_56 : decode b_Route_fillLegs 56 = .ok (.iload_n 2, 1) := by decide +kernel
theorem d_Route_fillLegs_57 : decode b_Route_fillLegs 57 = .ok (.iaload, 1) := by decide +kernel
theorem d_Route_fillLegs_58 : decode b_Route_fillLegs 58 = .ok (.isub, 1) := by decide +kernel
theorem d_Route_fillLegs_59 : decode b_Route_fillLegs 59 = .ok (.invokestatic 43, 3) := by decide +kernel
theorem d_Route_fillLegs_62 : decode b_Route_fillLegs 62 = .ok (.iadd, 1) := by decide +kernel
theorem d_Route_fillLegs_63 : decode b_Route_fillLegs 63 = .ok (.iastore, 1) := by decide +kernel
theorem d_Route_fillLegs_64 : decode b_Route_fillLegs 64 = .ok (.iinc 2 1, 3) := by decide +kernel
theorem d_Route_fillLegs_67 : decode b_Route_fillLegs 67 = .ok (.goto (-55), 3) := by decide +kernel
theorem d_Route_fillLegs_70 : decode b_Route_fillLegs 70 = .ok (.iinc 1 1, 3) := by decide +kernel
theorem d_Route_fillLegs_73 : decode b_Route_fillLegs 73 = .ok (.goto (-71), 3) := by decide +kernel
theorem d_Route_fillLegs_76 : decode b_Route_fillLegs 76 = .ok (.return_, 1) := by decide +kernel
set_option maxHeartbeats 4000000 in
set_option maxRecDepth 100000 in
theorem l_Route_fillLegs_12 {p : Program} {l : Launch} {e : Env} {s : State} {m : MethodId} {args : Array Value} {below : List Frame} {meth : Method} {c : Code} {dC : Nat → ClassId} {dI : Nat → Nat → Nat} {L : Nat → Nat} {cA : Nat → ClassId} {Q : State → Prop}  (u1 : Int32) (hF : CallFix p m c b_Route_fillLegs 3 s args w_all R_Route) (hK : kW_I dC dI cA s) (hL : ij 38 L) : ∀ (n : Nat) (v2 : Int32) (ar : Nat → Nat → Int32) (sc : Nat → Int32), q_Route_fillLegs_12 u1 n v2 ar sc → ∀ (H : Heap) (locs : List Loc), va_P (dC, dI) classes (wI L cA ar sc) H → va_S (aI L) s.heap H locs → ∀ (ls : Array Slot), lv_has ls 3 [(2, .int v2), (0, .ref (L 23)), (1, .int u1)] → (∀ (H : Heap) (locs : List Loc) (ls : Array Slot), va_P (dC, dI) classes (wI L cA ((g_Route_fillLegs_12 u1 n v2 ar sc).2.1) ((g_Route_fillLegs_12 u1 n v2 ar sc).2.2)) H → va_S (aI L) s.heap H locs → lv_has ls 3 [(2, .int ((g_Route_fillLegs_12 u1 n v2 ar sc).1)), (0, .ref (L 23)), (1, .int u1)] → W p l e (rmD 1) s m args below meth c H locs 0 0 Q (F0 m 70 ls [])) → W p l e (rmD 1) s m args below meth c H locs 0 0 Q (F0 m 12 ls []) := by
  have hx := hF.1
  have hb := hF.2.1
  have hown := hF.2.2.2.1
  have hts := hF.2.2.2.2
  intro n
  induction n with
  | zero => intro v2 ar sc h; exact False.elim h
  | succ n ih =>
    intro v2 ar sc h H locs hP hS ls hl hk
    rw [q_Route_fillLegs_12] at h
    refine lv_iload_n hx hb d_Route_fillLegs_12 rfl (lv_at hl 0 rfl) ?_
    refine lv_aload_n hx hb d_Route_fillLegs_13 rfl (lv_at hl 1 rfl) ?_
    refine gf_Route_count hF hK hP m_96 d_Route_fillLegs_14 ?_
    refine lv_icmp_gt (tgt := 70) hx hb d_Route_fillLegs_17 (by decide) (fun c17 => ?_) (fun c17 => ?_)
    · have h := h.1 c17
      have hv : g_Route_fillLegs_12 u1 (n + 1) v2 ar sc = ((v2, ar, sc) : Int32 × (Nat → Nat → Int32) × (Nat → Int32)) := by rw [g_Route_fillLegs_12, if_pos c17]
      rw [hv] at hk
      exact hk _ _ ls hP hS (lv_sub hl [0, 1, 2] rfl)
    · have h := h.2 c17
      refine lv_aload_n hx hb d_Route_fillLegs_20 rfl (lv_at hl 1 rfl) ?_
      refine gf_Route_legs hF hK hP m_90 d_Route_fillLegs_21 ?_
      refine lv_iload_n hx hb d_Route_fillLegs_24 rfl (lv_at hl 2 rfl) ?_
      refine lv_bipush (v := 8) hx hb d_Route_fillLegs_25 (by decide) ?_
      refine lv_imul hx hb d_Route_fillLegs_27 ?_
      refine lv_iload_n hx hb d_Route_fillLegs_28 rfl (lv_at hl 0 rfl) ?_
      refine lv_iadd hx hb d_Route_fillLegs_29 ?_
      refine lv_aload_n hx hb d_Route_fillLegs_30 rfl (lv_at hl 1 rfl) ?_
      refine gf_Route_xs hF hK hP m_103 d_Route_fillLegs_31 ?_
      refine lv_iload_n hx hb d_Route_fillLegs_34 rfl (lv_at hl 2 rfl) ?_
      have k35 := h.1
      have h := h.2
      refine alI_25 hF hK hP k35 d_Route_fillLegs_35 ?_
      refine lv_aload_n hx hb d_Route_fillLegs_36 rfl (lv_at hl 1 rfl) ?_
      refine gf_Route_xs hF hK hP m_103 d_Route_fillLegs_37 ?_
      refine lv_iload_n hx hb d_Route_fillLegs_40 rfl (lv_at hl 0 rfl) ?_
      have k41 := h.1
      have h := h.2
      refine alI_25 hF hK hP k41 d_Route_fillLegs_41 ?_
      refine lv_isub hx hb d_Route_fillLegs_42 ?_
      refine va_mabs hx hb (hF.2.2.1.trans hl.1.symm) hown (hts _ m_108) (hts _ m_109) (hts _ m_53) (hts _ m_110) (Nat.le_of_ble_eq_true rfl) (Nat.le_of_ble_eq_true rfl) (Nat.zero_le _) (Nat.zero_le _) d_Route_fillLegs_43 ?_
      refine lv_aload_n hx hb d_Route_fillLegs_46 rfl (lv_at hl 1 rfl) ?_
      refine gf_Route_ys hF hK hP m_104 d_Route_fillLegs_47 ?_
      refine lv_iload_n hx hb d_Route_fillLegs_50 rfl (lv_at hl 2 rfl) ?_
      have k51 := h.1
      have h := h.2
      refine alI_26 hF hK hP k51 d_Route_fillLegs_51 ?_
      refine lv_aload_n hx hb d_Route_fillLegs_52 rfl (lv_at hl 1 rfl) ?_
      refine gf_Route_ys hF hK hP m_104 d_Route_fillLegs_53 ?_
      refine lv_iload_n hx hb d_Route_fillLegs_56 rfl (lv_at hl 0 rfl) ?_
      have k57 := h.1
      have h := h.2
      refine alI_26 hF hK hP k57 d_Route_fillLegs_57 ?_
      refine lv_isub hx hb d_Route_fillLegs_58 ?_
      refine va_mabs hx hb (hF.2.2.1.trans hl.1.symm) hown (hts _ m_108) (hts _ m_109) (hts _ m_53) (hts _ m_110) (Nat.le_of_ble_eq_true rfl) (Nat.le_of_ble_eq_true rfl) (Nat.zero_le _) (Nat.zero_le _) d_Route_fillLegs_59 ?_
      refine lv_iadd hx hb d_Route_fillLegs_62 ?_
      have k63 := h.1
      have h := h.2
      refine asI_27 hF hK hP hL hS k63 d_Route_fillLegs_63 (fun H locs hP hS => ?_)
      refine lv_iinc (v := v2 + 1) (lv' := [(2, .int (v2 + 1)), (0, .ref (L 23)), (1, .int u1)]) hx hb d_Route_fillLegs_64 hl (k := 0) rfl rfl (by decide) rfl (fun ls hl => ?_)
      refine lv_goto (tgt := 12) hx hb d_Route_fillLegs_67 (by decide) ?_
      have hv : g_Route_fillLegs_12 u1 (n + 1) v2 ar sc = g_Route_fillLegs_12 u1 n (v2 + 1) (s2 ar 27 (((u1 * 8) + v2).toNatClampNeg) ((if 0 ≤ ((ar 25 u1.toNatClampNeg) - (ar 25 v2.toNatClampNeg)) then ((ar 25 u1.toNatClampNeg) - (ar 25 v2.toNatClampNeg)) else 0 - ((ar 25 u1.toNatClampNeg) - (ar 25 v2.toNatClampNeg))) + (if 0 ≤ ((ar 26 u1.toNatClampNeg) - (ar 26 v2.toNatClampNeg)) then ((ar 26 u1.toNatClampNeg) - (ar 26 v2.toNatClampNeg)) else 0 - ((ar 26 u1.toNatClampNeg) - (ar 26 v2.toNatClampNeg))))) sc := by rw [g_Route_fillLegs_12, if_neg c17]
      rw [hv] at hk
      exact ih (v2 + 1) (s2 ar 27 (((u1 * 8) + v2).toNatClampNeg) ((if 0 ≤ ((ar 25 u1.toNatClampNeg) - (ar 25 v2.toNatClampNeg)) then ((ar 25 u1.toNatClampNeg) - (ar 25 v2.toNatClampNeg)) else 0 - ((ar 25 u1.toNatClampNeg) - (ar 25 v2.toNatClampNeg))) + (if 0 ≤ ((ar 26 u1.toNatClampNeg) - (ar 26 v2.toNatClampNeg)) then ((ar 26 u1.toNatClampNeg) - (ar 26 v2.toNatClampNeg)) else 0 - ((ar 26 u1.toNatClampNeg) - (ar 26 v2.toNatClampNeg))))) sc h _ _ hP hS ls (lv_sub hl [0, 1, 2] rfl) hk
set_option maxHeartbeats 4000000 in
set_option maxRecDepth 100000 in
theorem l_Route_fillLegs_2 {p : Program} {l : Launch} {e : Env} {s : State} {m : MethodId} {args : Array Value} {below : List Frame} {meth : Method} {c : Code} {dC : Nat → ClassId} {dI : Nat → Nat → Nat} {L : Nat → Nat} {cA : Nat → ClassId} {Q : State → Prop}   (hF : CallFix p m c b_Route_fillLegs 3 s args w_all R_Route) (hK : kW_I dC dI cA s) (hL : ij 38 L) : ∀ (n : Nat) (v1 : Int32) (ar : Nat → Nat → Int32) (sc : Nat → Int32), q_Route_fillLegs_2 n v1 ar sc → ∀ (H : Heap) (locs : List Loc), va_P (dC, dI) classes (wI L cA ar sc) H → va_S (aI L) s.heap H locs → ∀ (ls : Array Slot), lv_has ls 3 [(1, .int v1), (0, .ref (L 23))] → (∀ (H : Heap) (locs : List Loc) (ls : Array Slot), va_P (dC, dI) classes (wI L cA ((g_Route_fillLegs_2 n v1 ar sc).2.1) ((g_Route_fillLegs_2 n v1 ar sc).2.2)) H → va_S (aI L) s.heap H locs → lv_has ls 3 [(1, .int ((g_Route_fillLegs_2 n v1 ar sc).1)), (0, .ref (L 23))] → W p l e (rmD 1) s m args below meth c H locs 0 0 Q (F0 m 76 ls [])) → W p l e (rmD 1) s m args below meth c H locs 0 0 Q (F0 m 2 ls []) := by
  have hx := hF.1
  have hb := hF.2.1
  have hown := hF.2.2.2.1
  have hts := hF.2.2.2.2
  intro n
  induction n with
  | zero => intro v1 ar sc h; exact False.elim h
  | succ n ih =>
    intro v1 ar sc h H locs hP hS ls hl hk
    rw [q_Route_fillLegs_2] at h
    refine lv_iload_n hx hb d_Route_fillLegs_2 rfl (lv_at hl 0 rfl) ?_
    refine lv_aload_n hx hb d_Route_fillLegs_3 rfl (lv_at hl 1 rfl) ?_
    refine gf_Route_count hF hK hP m_96 d_Route_fillLegs_4 ?_
    refine lv_icmp_gt (tgt := 76) hx hb d_Route_fillLegs_7 (by decide) (fun c7 => ?_) (fun c7 => ?_)
    · have h := h.1 c7
      have hv : g_Route_fillLegs_2 (n + 1) v1 ar sc = ((v1, ar, sc) : Int32 × (Nat → Nat → Int32) × (Nat → Int32)) := by rw [g_Route_fillLegs_2, if_pos c7]
      rw [hv] at hk
      exact hk _ _ ls hP hS (lv_sub hl [0, 1] rfl)
    · have h := h.2 c7
      refine lv_iconst (v := 0) hx hb d_Route_fillLegs_10 (by decide) ?_
      refine lv_istore_n (lv' := [(2, .int 0), (1, .int v1), (0, .ref (L 23))]) hx hb d_Route_fillLegs_11 rfl hl (by decide) rfl (fun ls hl => ?_)
      have kL12 := h.1
      have h := h.2
      refine l_Route_fillLegs_12 v1 hF hK hL 200 0 ar sc kL12 _ _ hP hS ls (lv_sub hl [0, 2, 1] rfl) (fun H locs ls hP hS hl => ?_)
      refine lv_iinc (v := v1 + 1) (lv' := [(1, .int (v1 + 1)), (2, .int ((g_Route_fillLegs_12 v1 200 0 ar sc).1)), (0, .ref (L 23))]) hx hb d_Route_fillLegs_70 hl (k := 2) rfl rfl (by decide) rfl (fun ls hl => ?_)
      refine lv_goto (tgt := 2) hx hb d_Route_fillLegs_73 (by decide) ?_
      have hv : g_Route_fillLegs_2 (n + 1) v1 ar sc = g_Route_fillLegs_2 n (v1 + 1) ((g_Route_fillLegs_12 v1 200 0 ar sc).2.1) ((g_Route_fillLegs_12 v1 200 0 ar sc).2.2) := by rw [g_Route_fillLegs_2, if_neg c7]
      rw [hv] at hk
      exact ih (v1 + 1) ((g_Route_fillLegs_12 v1 200 0 ar sc).2.1) ((g_Route_fillLegs_12 v1 200 0 ar sc).2.2) h _ _ hP hS ls (lv_sub hl [0, 2] rfl) hk
set_option maxHeartbeats 4000000 in
set_option maxRecDepth 100000 in
theorem c_Route_fillLegs (l : Launch) (dC : Nat → ClassId) (dI : Nat → Nat → Nat) (L : Nat → Nat) (cA : Nat → ClassId) (ar : Nat → Nat → Int32) (sc : Nat → Int32) (hL : ij 38 L) (h : p_Route_fillLegs ar sc ) : Met l y_Route_fillLegs z_Route_fillLegs (rmD 1) (va_Pc [.ref (L 23)] (fun U => xw_I dC dI L cA ar sc U)) (va_Qv (fun u : oS => (u.1, u.2) = f_Route_fillLegs ar sc ) (fun u t => va_P (dC, dI) classes (wI L cA u.1 u.2) t.heap) (aI L)) 0 0 (aI L) := by
  refine Met.ofW (cc := b_Route_fillLegs) (maxL := 3) (ret := none) (by decide) rfl ?_
  intro p e s m args below meth c s₁ B hml hv
  obtain ⟨rfl, ⟨hP, hK⟩⟩ := hv
  have hx := B.exec
  have hb := B.bytes
  have hr := B.returns
  have hts : ∀ w ∈ w_all, w.before _ s = true := fun w hw => atoms_spec (ws := z_Route_fillLegs) B.pre w (List.mem_cons_of_mem _ hw)
  have hown : s.vm.findClass R_Route = some m.cls := findClass_of_methodNamed B.named
  have hlocks := B.notSynchronized
  have hF : CallFix p m c b_Route_fillLegs 3 s _ w_all R_Route := ⟨hx, hb, hml, hown, hts⟩
  have hS : va_S (aI L) s.heap s.heap [] := va_S.rf
  have hl := lv_entry ([.ref (L 23)]) (n := 3) (Nat.le_of_ble_eq_true rfl)
  rw [lg_entry_eq]
  generalize (lg_sl ([.ref (L 23)]) ++ List.replicate (3 - (lg_sl ([.ref (L 23)])).length) Slot.unset).toArray = ls at hl ⊢
  have hl : lv_has ls 3 [(0, .ref (L 23))] := hl
  unfold p_Route_fillLegs at h
  refine lv_iconst (v := 0) hx hb d_Route_fillLegs_0 (by decide) ?_
  refine lv_istore_n (lv' := [(1, .int 0), (0, .ref (L 23))]) hx hb d_Route_fillLegs_1 rfl hl (by decide) rfl (fun ls hl => ?_)
  have kL2 := h
  refine l_Route_fillLegs_2 hF hK hL 200 0 ar sc kL2 _ _ hP hS ls (lv_sub hl [0, 1] rfl) (fun H locs ls hP hS hl => ?_)
  have hv : (((g_Route_fillLegs_2 200 0 ar sc).2.1, (g_Route_fillLegs_2 200 0 ar sc).2.2) : (Nat → Nat → Int32) × (Nat → Int32)) = f_Route_fillLegs ar sc  := by rw [f_Route_fillLegs]
  exact W.vret hx hb hr (fun t ht hW => ⟨⟨((g_Route_fillLegs_2 200 0 ar sc).2.1, (g_Route_fillLegs_2 200 0 ar sc).2.2), rfl, hv, by dsimp only; rw [ht]; exact hP⟩, hS.F ht⟩) hS.2.2 d_Route_fillLegs_76
set_option maxHeartbeats 1000000 in
theorem r_Route_fillLegs {p : Program} {l : Launch} {e : Env} {R : Room} {s : State} {m : MethodId} {args : Array Value} {below : List Frame} {meth : Method} {c : Code} {H : Heap} {locs : List Loc} {cells slots : Nat} {Q : State → Prop} {cc : ByteArray} {nL pc idx : Nat} {ls : Array Slot} {rest : List Value} {own : String} {dC : Nat → ClassId} {dI : Nat → Nat → Nat} {L : Nat → Nat} {cA : Nat → ClassId} {ar : Nat → Nat → Int32} {sc : Nat → Int32} {H0 : Heap}  (hF : CallFix p m c cc nL s args w_all own) (hK : kW_I dC dI cA s) (hP : va_P (dC, dI) classes (wI L cA ar sc) H) (hL : ij 38 L) (hS : va_S (aI L) H0 H locs) (h : p_Route_fillLegs ar sc ) (hlk : Cond.methodLink own idx y_Route_fillLegs ∈ w_all) (hsz : ls.size = nL) (hR : (rmD 1).frames + 1 ≤ R.frames ∧ 8 + (3 + 11) + (rmD 1).locals ≤ R.locals) (hc : cells ≤ R.cells ∧ slots ≤ R.slots) (hrs : (rest.map fun v => v.category).sum ≤ 8) (hdg : decode cc pc = .ok (.invokevirtual idx, 3)) (kk : ∀ (H1 : Heap) (locs1 : List Loc), va_P (dC, dI) classes (wI L cA ((f_Route_fillLegs ar sc ).1) ((f_Route_fillLegs ar sc ).2)) H1 → va_S (aI L) H0 H1 locs1 → W p l e R s m args below meth c H1 locs1 cells slots Q (F0 m (pc + 3) ls (rest))) : W p l e R s m args below meth c H locs cells slots Q (F0 m pc ls (.ref (L 23) :: rest)) :=
  va_callv (va_runV (As := []) (rest := rest) hF (c_Route_fillLegs l dC dI L cA ar sc  hL h) (cwV 0 hF.2.2.2.2 (gV hlk m_111 m_112 m_94 m_113) rfl rfl rfl (by decide +kernel) hR) ⟨xb_I, va_recv hK.1 hP (ci := 5) (q0 := 23) rfl rfl, fun U hU hW => ⟨rfl, by rw [hU]; exact hP, kW_I_warm hW hK⟩⟩ rfl rfl hsz rfl (lv_room hrs) hdg hc) hS (fun q _ h9 => h9) (fun q h9 => h9) (fun u t H1 locs1 ht hvm hw hB hz1 hk1 hS1 => by
    have hk9 := kk H1 locs1 (by rw [← hw, ← ht]; exact hB) hS1
    exact hk9)
theorem d_Route_fillLeastHome_0 : decode b_Route_fillLeastHome 0 = .ok (.iconst 1, 1) := by decide +kernel
theorem d_Route_fillLeastHome_1 : decode b_Route_fillLeastHome 1 = .ok (.aload_n 0, 1) := by decide +kernel
theorem d_Route_fillLeastHome_2 : decode b_Route_fillLeastHome 2 = .ok (.getfield 30, 3) := by decide +kernel
theorem d_Route_fillLeastHome_5 : decode b_Route_fillLeastHome 5 = .ok (.ishl, 1) := by decide +kernel
theorem d_Route_fillLeastHome_6 : decode b_Route_fillLeastHome 6 = .ok (.iconst 1, 1) := by decide +kernel
theorem d_Route_fillLeastHome_7 : decode b_Route_fillLeastHome 7 = .ok (.isub, 1) := by decide +kernel
theorem d_Route_fillLeastHome_8 : decode b_Route_fillLeastHome 8 = .ok (.istore_n 1, 1) := by decide +kernel
theorem d_Route_fillLeastHome_9 : decode b_Route_fillLeastHome 9 = .ok (.iconst 0, 1) := by decide +kernel
theorem d_Route_fillLeastHome_10 : decode b_Route_fillLeastHome 10 = .ok (.istore_n 2, 1) := by decide +kernel
theorem d_Route_fillLeastHome_11 : decode b_Route_fillLeastHome 11 = .ok (.iload_n 2, 1) := by decide +kernel
theorem d_Route_fillLeastHome_12 : decode b_Route_fillLeastHome 12 = .ok (.aload_n 0, 1) := by decide +kernel
theorem d_Route_fillLeastHome_13 : decode b_Route_fillLeastHome 13 = .ok (.getfield 30, 3) := by decide +kernel
theorem d_Route_fillLeastHome_16 : decode b_Route_fillLeastHome 16 = .ok (.if_icmp .gt 34, 3) := by decide +kernel
theorem d_Route_fillLeastHome_19 : decode b_Route_fillLeastHome 19 = .ok (.aload_n 0, 1) := by decide +kernel
theorem d_Route_fillLeastHome_20 : decode b_Route_fillLeastHome 20 = .ok (.getfield 24, 3) := by decide +kernel
theorem d_Route_fillLeastHome_23 : decode b_Route_fillLeastHome 23 = .ok (.iload_n 1, 1) := by decide +kernel
theorem d_Route_fillLeastHome_24 : decode b_Route_fillLeastHome 24 = .ok (.bipush 8, 2) := by decide +kernel
theorem d_Route_fillLeastHome_26 : decode b_Route_fillLeastHome 26 = .ok (.imul, 1) := by decide +kernel
theorem d_Route_fillLeastHome_27 : decode b_Route_fillLeastHome 27 = .ok (.iload_n 2, 1) := by decide +kernel
theorem d_Route_fillLeastHome_28 : decode b_Route_fillLeastHome 28 = .ok (.iadd, 1) := by decide +kernel
theorem d_Route_fillLeastHome_29 : decode b_Route_fillLeastHome 29 = .ok (.aload_n 0, 1) := by decide +kernel
theorem d_Route_fillLeastHome_30 : decode b_Route_fillLeastHome 30 = .ok (.getfield 21, 3) := by decide +kernel
theorem d_Route_fillLeastHome_33 : decode b_Route_fillLeastHome 33 = .ok (.iload_n 2, 1) := by decide +kernel
theorem d_Route_fillLeastHome_34 : decode b_Route_fillLeastHome 34 = .ok (.bipush 8, 2) := by decide +kernel
theorem d_Route_fillLeastHome_36 : decode b_Route_fillLeastHome 36 = .ok (.imul, 1) := by decide +kernel
theorem d_Route_fillLeastHome_37 : decode b_Route_fillLeastHome 37 = .ok (.aload_n 0, 1) := by decide +kernel
theorem d_Route_fillLeastHome_38 : decode b_Route_fillLeastHome 38 = .ok (.getfield 30, 3) := by decide +kernel
theorem d_Route_fillLeastHome_41 : decode b_Route_fillLeastHome 41 = .ok (.iadd, 1) := by decide +kernel
theorem d_Route_fillLeastHome_42 : decode b_Route_fillLeastHome 42 = .ok (.iaload, 1) := by decide +kernel
theorem d_Route_fillLeastHome_43 : decode b_Route_fillLeastHome 43 = .ok (.iastore, 1) := by decide +kernel
theorem d_Route_fillLeastHome_44 : decode b_Route_fillLeastHome 44 = .ok (.iinc 2 1, 3) := by decide +kernel
theorem d_Route_fillLeastHome_47 : decode b_Route_fillLeastHome 47 = .ok (.goto (-36), 3) := by decide +kernel
theorem d_Route_fillLeastHome_50 : decode b_Route_fillLeastHome 50 = .ok (.iload_n 1, 1) := by decide +kernel
theorem d_Route_fillLeastHome_51 : decode b_Route_fillLeastHome 51 = .ok (.iconst 1, 1) := by decide +kernel
theorem d_Route_fillLeastHome_52 : decode b_Route_fillLeastHome 52 = .ok (.isub, 1) := by decide +kernel
theorem d_Route_fillLeastHome_53 : decode b_Route_fillLeastHome 53 = .ok (.istore_n 2, 1) := by decide +kernel
theorem d_Route_fillLeastHome_54 : decode b_Route_fillLeastHome 54 = .ok (.iload_n 2, 1) := by decide +kernel
theorem d_Route_fillLeastHome_55 : decode b_Route_fillLeastHome 55 = .ok (.ifCond .lt 52, 3) := by decide +kernel
theorem d_Route_fillLeastHome_58 : decode b_Route_fillLeastHome 58 = .ok (.iconst 0, 1) := by decide +kernel
theorem d_Route_fillLeastHome_59 : decode b_Route_fillLeastHome 59 = .ok (.istore_n 3, 1) := by decide +kernel
theorem d_Route_fillLeastHome_60 : decode b_Route_fillLeastHome 60 = .ok (.iload_n 3, 1) := by decide +kernel
theorem d_Route_fillLeastHome_61 : decode b_Route_fillLeastHome 61 = .ok (.aload_n 0, 1) := by decide +kernel
theorem d_Route_fillLeastHome_62 : decode b_Route_fillLeastHome 62 = .ok (.getfield 30, 3) := by decide +kernel
theorem d_Route_fillLeastHome_65 : decode b_Route_fillLeastHome 65 = .ok (.if_icmp .gt 36, 3) := by decide +kernel
theorem d_Route_fillLeastHome_68 : decode b_Route_fillLeastHome 68 = .ok (.aload_n 0, 1) := by decide +kernel
theorem d_Route_fillLeastHome_69 : decode b_Route_fillLeastHome 69 = .ok (.iload_n 2, 1) := by decide +kernel
theorem d_Route_fillLeastHome_70 : decode b_Route_fillLeastHome 70 = .ok (.iload_n 3, 1) := by decide +kernel
theorem d_Route_fillLeastHome_71 : decode b_Route_fillLeastHome 71 = .ok (.invokevirtual 49, 3) := by decide +kernel
theorem d_Route_fillLeastHome_74 : decode b_Route_fillLeastHome 74 = .ok (.istore 4, 2) := by decide +kernel
theorem d_Route_fillLeastHome_76 : decode b_Route_fillLeastHome 76 = .ok (.aload_n 0, 1) := by decide +kernel
theorem d_Route_fillLeastHome_77 : decode b_Route_fillLeastHome 77 = .ok (.getfield 24, 3) := by decide +kernel
theorem d_Route_fillLeastHome_80 : decode b_Route_fillLeastHome 80 = .ok (.iload_n 2, 1) := by decide +kernel
theorem d_Route_fillLeastHome_81 : decode b_Route_fillLeastHome 81 = .ok (.bipush 8, 2) := by decide +kernel
theorem d_Route_fillLeastHome_83 : decode b_Route_fillLeastHome 83 = .ok (.imul, 1) := by decide +kernel
theorem d_Route_fillLeastHome_84 : decode b_Route_fillLeastHome 84 = .ok (.iload_n 3, 1) := by decide +kernel
theorem d_Route_fillLeastHome_85 : decode b_Route_fillLeastHome 85 = .ok (.iadd, 1) := by decide +kernel
theorem d_Route_fillLeastHome_86 : decode b_Route_fillLeastHome 86 = .ok (.aload_n 0, 1) := by decide +kernel
theorem d_Route_fillLeastHome_87 : decode b_Route_fillLeastHome 87 = .ok (.iload_n 2, 1) := by decide +kernel
theorem d_Route_fillLeastHome_88 : decode b_Route_fillLeastHome 88 = .ok (.iload_n 3, 1) := by decide +kernel
theorem d_Route_fillLeastHome_89 : decode b_Route_fillLeastHome 89 = .ok (.iload 4, 2) := by decide +kernel
theorem d_Route_fillLeastHome_91 : decode b_Route_fillLeastHome 91 = .ok (.invokevirtual 53, 3) := by decide +kernel
theorem d_Route_fillLeastHome_94 : decode b_Route_fillLeastHome 94 = .ok (.iastore, 1) := by decide +kernel
theorem d_Route_fillLeastHome_95 : decode b_Route_fillLeastHome 95 = .ok (.iinc 3 1, 3) := by decide +kernel
theorem d_Route_fillLeastHome_98 : decode b_Route_fillLeastHome 98 = .ok (.goto (-38), 3) := by decide +kernel
theorem d_Route_fillLeastHome_101 : decode b_Route_fillLeastHome 101 = .ok (.iinc 2 (-1), 3) := by decide +kernel
theorem d_Route_fillLeastHome_104 : decode b_Route_fillLeastHome 104 = .ok (.goto (-50), 3) := by decide +kernel
theorem d_Route_fillLeastHome_107 : decode b_Route_fillLeastHome 107 = .ok (.return_, 1) := by decide +kernel
set_option maxHeartbeats 4000000 in
set_option maxRecDepth 100000 in
theorem l_Route_fillLeastHome_11 {p : Program} {l : Launch} {e : Env} {s : State} {m : MethodId} {args : Array Value} {below : List Frame} {meth : Method} {c : Code} {dC : Nat → ClassId} {dI : Nat → Nat → Nat} {L : Nat → Nat} {cA : Nat → ClassId} {Q : State → Prop}  (u1 : Int32) (hF : CallFix p m c b_Route_fillLeastHome 5 s args w_all R_Route) (hK : kW_I dC dI cA s) (hL : ij 38 L) : ∀ (n : Nat) (v2 : Int32) (ar : Nat → Nat → Int32) (sc : Nat → Int32), q_Route_fillLeastHome_11 u1 n v2 ar sc → ∀ (H : Heap) (locs : List Loc), va_P (dC, dI) classes (wI L cA ar sc) H → va_S (aI L) s.heap H locs → ∀ (ls : Array Slot), lv_has ls 5 [(2, .int v2), (0, .ref (L 23)), (1, .int u1)] → (∀ (H : Heap) (locs : List Loc) (ls : Array Slot), va_P (dC, dI) classes (wI L cA ((g_Route_fillLeastHome_11 u1 n v2 ar sc).2.1) ((g_Route_fillLeastHome_11 u1 n v2 ar sc).2.2)) H → va_S (aI L) s.heap H locs → lv_has ls 5 [(2, .int ((g_Route_fillLeastHome_11 u1 n v2 ar sc).1)), (0, .ref (L 23)), (1, .int u1)] → W p l e (rmD 2) s m args below meth c H locs 0 0 Q (F0 m 50 ls [])) → W p l e (rmD 2) s m args below meth c H locs 0 0 Q (F0 m 11 ls []) := by
  have hx := hF.1
  have hb := hF.2.1
  have hown := hF.2.2.2.1
  have hts := hF.2.2.2.2
  intro n
  induction n with
  | zero => intro v2 ar sc h; exact False.elim h
  | succ n ih =>
    intro v2 ar sc h H locs hP hS ls hl hk
    rw [q_Route_fillLeastHome_11] at h
    refine lv_iload_n hx hb d_Route_fillLeastHome_11 rfl (lv_at hl 0 rfl) ?_
    refine lv_aload_n hx hb d_Route_fillLeastHome_12 rfl (lv_at hl 1 rfl) ?_
    refine gf_Route_count hF hK hP m_96 d_Route_fillLeastHome_13 ?_
    refine lv_icmp_gt (tgt := 50) hx hb d_Route_fillLeastHome_16 (by decide) (fun c16 => ?_) (fun c16 => ?_)
    · have h := h.1 c16
      have hv : g_Route_fillLeastHome_11 u1 (n + 1) v2 ar sc = ((v2, ar, sc) : Int32 × (Nat → Nat → Int32) × (Nat → Int32)) := by rw [g_Route_fillLeastHome_11, if_pos c16]
      rw [hv] at hk
      exact hk _ _ ls hP hS (lv_sub hl [0, 1, 2] rfl)
    · have h := h.2 c16
      refine lv_aload_n hx hb d_Route_fillLeastHome_19 rfl (lv_at hl 1 rfl) ?_
      refine gf_Route_leastHome hF hK hP m_91 d_Route_fillLeastHome_20 ?_
      refine lv_iload_n hx hb d_Route_fillLeastHome_23 rfl (lv_at hl 2 rfl) ?_
      refine lv_bipush (v := 8) hx hb d_Route_fillLeastHome_24 (by decide) ?_
      refine lv_imul hx hb d_Route_fillLeastHome_26 ?_
      refine lv_iload_n hx hb d_Route_fillLeastHome_27 rfl (lv_at hl 0 rfl) ?_
      refine lv_iadd hx hb d_Route_fillLeastHome_28 ?_
      refine lv_aload_n hx hb d_Route_fillLeastHome_29 rfl (lv_at hl 1 rfl) ?_
      refine gf_Route_legs hF hK hP m_90 d_Route_fillLeastHome_30 ?_
      refine lv_iload_n hx hb d_Route_fillLeastHome_33 rfl (lv_at hl 0 rfl) ?_
      refine lv_bipush (v := 8) hx hb d_Route_fillLeastHome_34 (by decide) ?_
      refine lv_imul hx hb d_Route_fillLeastHome_36 ?_
      refine lv_aload_n hx hb d_Route_fillLeastHome_37 rfl (lv_at hl 1 rfl) ?_
      refine gf_Route_count hF hK hP m_96 d_Route_fillLeastHome_38 ?_
      refine lv_iadd hx hb d_Route_fillLeastHome_41 ?_
      have k42 := h.1
      have h := h.2
      refine alI_27 hF hK hP k42 d_Route_fillLeastHome_42 ?_
      have k43 := h.1
      have h := h.2
      refine asI_28 hF hK hP hL hS k43 d_Route_fillLeastHome_43 (fun H locs hP hS => ?_)
      refine lv_iinc (v := v2 + 1) (lv' := [(2, .int (v2 + 1)), (0, .ref (L 23)), (1, .int u1)]) hx hb d_Route_fillLeastHome_44 hl (k := 0) rfl rfl (by decide) rfl (fun ls hl => ?_)
      refine lv_goto (tgt := 11) hx hb d_Route_fillLeastHome_47 (by decide) ?_
      have hv : g_Route_fillLeastHome_11 u1 (n + 1) v2 ar sc = g_Route_fillLeastHome_11 u1 n (v2 + 1) (s2 ar 28 (((u1 * 8) + v2).toNatClampNeg) (ar 27 (((v2 * 8) + (sc 4)).toNatClampNeg))) sc := by rw [g_Route_fillLeastHome_11, if_neg c16]
      rw [hv] at hk
      exact ih (v2 + 1) (s2 ar 28 (((u1 * 8) + v2).toNatClampNeg) (ar 27 (((v2 * 8) + (sc 4)).toNatClampNeg))) sc h _ _ hP hS ls (lv_sub hl [0, 1, 2] rfl) hk
set_option maxHeartbeats 4000000 in
set_option maxRecDepth 100000 in
theorem l_Route_fillLeastHome_60 {p : Program} {l : Launch} {e : Env} {s : State} {m : MethodId} {args : Array Value} {below : List Frame} {meth : Method} {c : Code} {dC : Nat → ClassId} {dI : Nat → Nat → Nat} {L : Nat → Nat} {cA : Nat → ClassId} {Q : State → Prop}  (u1 : Int32) (u2 : Int32) (hF : CallFix p m c b_Route_fillLeastHome 5 s args w_all R_Route) (hK : kW_I dC dI cA s) (hL : ij 38 L) : ∀ (n : Nat) (v3 : Int32) (ar : Nat → Nat → Int32) (sc : Nat → Int32), q_Route_fillLeastHome_60 u1 u2 n v3 ar sc → ∀ (H : Heap) (locs : List Loc), va_P (dC, dI) classes (wI L cA ar sc) H → va_S (aI L) s.heap H locs → ∀ (ls : Array Slot), lv_has ls 5 [(3, .int v3), (0, .ref (L 23)), (1, .int u1), (2, .int u2)] → (∀ (H : Heap) (locs : List Loc) (ls : Array Slot), va_P (dC, dI) classes (wI L cA ((g_Route_fillLeastHome_60 u1 u2 n v3 ar sc).2.1) ((g_Route_fillLeastHome_60 u1 u2 n v3 ar sc).2.2)) H → va_S (aI L) s.heap H locs → lv_has ls 5 [(3, .int ((g_Route_fillLeastHome_60 u1 u2 n v3 ar sc).1)), (0, .ref (L 23)), (1, .int u1), (2, .int u2)] → W p l e (rmD 2) s m args below meth c H locs 0 0 Q (F0 m 101 ls [])) → W p l e (rmD 2) s m args below meth c H locs 0 0 Q (F0 m 60 ls []) := by
  have hx := hF.1
  have hb := hF.2.1
  have hown := hF.2.2.2.1
  have hts := hF.2.2.2.2
  intro n
  induction n with
  | zero => intro v3 ar sc h; exact False.elim h
  | succ n ih =>
    intro v3 ar sc h H locs hP hS ls hl hk
    rw [q_Route_fillLeastHome_60] at h
    refine lv_iload_n hx hb d_Route_fillLeastHome_60 rfl (lv_at hl 0 rfl) ?_
    refine lv_aload_n hx hb d_Route_fillLeastHome_61 rfl (lv_at hl 1 rfl) ?_
    refine gf_Route_count hF hK hP m_96 d_Route_fillLeastHome_62 ?_
    refine lv_icmp_gt (tgt := 101) hx hb d_Route_fillLeastHome_65 (by decide) (fun c65 => ?_) (fun c65 => ?_)
    · have h := h.1 c65
      have hv : g_Route_fillLeastHome_60 u1 u2 (n + 1) v3 ar sc = ((v3, ar, sc) : Int32 × (Nat → Nat → Int32) × (Nat → Int32)) := by rw [g_Route_fillLeastHome_60, if_pos c65]
      rw [hv] at hk
      exact hk _ _ ls hP hS (lv_sub hl [0, 1, 2, 3] rfl)
    · have h := h.2 c65
      refine lv_aload_n hx hb d_Route_fillLeastHome_68 rfl (lv_at hl 1 rfl) ?_
      refine lv_iload_n hx hb d_Route_fillLeastHome_69 rfl (lv_at hl 3 rfl) ?_
      refine lv_iload_n hx hb d_Route_fillLeastHome_70 rfl (lv_at hl 0 rfl) ?_
      have k71 := h.1
      have h := h.2
      refine r_Route_firstLeastNext hF hK hP k71 m_114 hl.1 ⟨Nat.le_of_ble_eq_true rfl, Nat.le_of_ble_eq_true rfl⟩ ⟨Nat.zero_le _, Nat.zero_le _⟩ (Nat.le_of_ble_eq_true rfl) d_Route_fillLeastHome_71 ?_
      refine lv_istore (lv' := [(4, .int (f_Route_firstLeastNext ar sc u2 v3)), (3, .int v3), (0, .ref (L 23)), (1, .int u1), (2, .int u2)]) hx hb d_Route_fillLeastHome_74 hl (by decide) rfl (fun ls hl => ?_)
      refine lv_aload_n hx hb d_Route_fillLeastHome_76 rfl (lv_at hl 2 rfl) ?_
      refine gf_Route_leastHome hF hK hP m_91 d_Route_fillLeastHome_77 ?_
      refine lv_iload_n hx hb d_Route_fillLeastHome_80 rfl (lv_at hl 4 rfl) ?_
      refine lv_bipush (v := 8) hx hb d_Route_fillLeastHome_81 (by decide) ?_
      refine lv_imul hx hb d_Route_fillLeastHome_83 ?_
      refine lv_iload_n hx hb d_Route_fillLeastHome_84 rfl (lv_at hl 1 rfl) ?_
      refine lv_iadd hx hb d_Route_fillLeastHome_85 ?_
      refine lv_aload_n hx hb d_Route_fillLeastHome_86 rfl (lv_at hl 2 rfl) ?_
      refine lv_iload_n hx hb d_Route_fillLeastHome_87 rfl (lv_at hl 4 rfl) ?_
      refine lv_iload_n hx hb d_Route_fillLeastHome_88 rfl (lv_at hl 1 rfl) ?_
      refine lv_iload hx hb d_Route_fillLeastHome_89 (lv_at hl 0 rfl) ?_
      have k91 := h.1
      have h := h.2
      refine r_Route_metresBy hF hK hP k91 m_97 hl.1 ⟨Nat.le_of_ble_eq_true rfl, Nat.le_of_ble_eq_true rfl⟩ ⟨Nat.zero_le _, Nat.zero_le _⟩ (Nat.le_of_ble_eq_true rfl) d_Route_fillLeastHome_91 ?_
      have k94 := h.1
      have h := h.2
      refine asI_28 hF hK hP hL hS k94 d_Route_fillLeastHome_94 (fun H locs hP hS => ?_)
      refine lv_iinc (v := v3 + 1) (lv' := [(3, .int (v3 + 1)), (4, .int (f_Route_firstLeastNext ar sc u2 v3)), (0, .ref (L 23)), (1, .int u1), (2, .int u2)]) hx hb d_Route_fillLeastHome_95 hl (k := 1) rfl rfl (by decide) rfl (fun ls hl => ?_)
      refine lv_goto (tgt := 60) hx hb d_Route_fillLeastHome_98 (by decide) ?_
      have hv : g_Route_fillLeastHome_60 u1 u2 (n + 1) v3 ar sc = g_Route_fillLeastHome_60 u1 u2 n (v3 + 1) (s2 ar 28 (((u2 * 8) + v3).toNatClampNeg) (f_Route_metresBy ar sc u2 v3 (f_Route_firstLeastNext ar sc u2 v3))) sc := by rw [g_Route_fillLeastHome_60, if_neg c65]
      rw [hv] at hk
      exact ih (v3 + 1) (s2 ar 28 (((u2 * 8) + v3).toNatClampNeg) (f_Route_metresBy ar sc u2 v3 (f_Route_firstLeastNext ar sc u2 v3))) sc h _ _ hP hS ls (lv_sub hl [0, 2, 3, 4] rfl) hk
set_option maxHeartbeats 4000000 in
set_option maxRecDepth 100000 in
theorem l_Route_fillLeastHome_54 {p : Program} {l : Launch} {e : Env} {s : State} {m : MethodId} {args : Array Value} {below : List Frame} {meth : Method} {c : Code} {dC : Nat → ClassId} {dI : Nat → Nat → Nat} {L : Nat → Nat} {cA : Nat → ClassId} {Q : State → Prop}  (u1 : Int32) (hF : CallFix p m c b_Route_fillLeastHome 5 s args w_all R_Route) (hK : kW_I dC dI cA s) (hL : ij 38 L) : ∀ (n : Nat) (v2 : Int32) (ar : Nat → Nat → Int32) (sc : Nat → Int32), q_Route_fillLeastHome_54 u1 n v2 ar sc → ∀ (H : Heap) (locs : List Loc), va_P (dC, dI) classes (wI L cA ar sc) H → va_S (aI L) s.heap H locs → ∀ (ls : Array Slot), lv_has ls 5 [(2, .int v2), (0, .ref (L 23)), (1, .int u1)] → (∀ (H : Heap) (locs : List Loc) (ls : Array Slot), va_P (dC, dI) classes (wI L cA ((g_Route_fillLeastHome_54 u1 n v2 ar sc).2.1) ((g_Route_fillLeastHome_54 u1 n v2 ar sc).2.2)) H → va_S (aI L) s.heap H locs → lv_has ls 5 [(2, .int ((g_Route_fillLeastHome_54 u1 n v2 ar sc).1)), (0, .ref (L 23)), (1, .int u1)] → W p l e (rmD 2) s m args below meth c H locs 0 0 Q (F0 m 107 ls [])) → W p l e (rmD 2) s m args below meth c H locs 0 0 Q (F0 m 54 ls []) := by
  have hx := hF.1
  have hb := hF.2.1
  have hown := hF.2.2.2.1
  have hts := hF.2.2.2.2
  intro n
  induction n with
  | zero => intro v2 ar sc h; exact False.elim h
  | succ n ih =>
    intro v2 ar sc h H locs hP hS ls hl hk
    rw [q_Route_fillLeastHome_54] at h
    refine lv_iload_n hx hb d_Route_fillLeastHome_54 rfl (lv_at hl 0 rfl) ?_
    refine lv_if_lt (tgt := 107) hx hb d_Route_fillLeastHome_55 (by decide) (fun c55 => ?_) (fun c55 => ?_)
    · have h := h.1 c55
      have hv : g_Route_fillLeastHome_54 u1 (n + 1) v2 ar sc = ((v2, ar, sc) : Int32 × (Nat → Nat → Int32) × (Nat → Int32)) := by rw [g_Route_fillLeastHome_54, if_pos c55]
      rw [hv] at hk
      exact hk _ _ ls hP hS (lv_sub hl [0, 1, 2] rfl)
    · have h := h.2 c55
      refine lv_iconst (v := 0) hx hb d_Route_fillLeastHome_58 (by decide) ?_
      refine lv_istore_n (lv' := [(3, .int 0), (2, .int v2), (0, .ref (L 23)), (1, .int u1)]) hx hb d_Route_fillLeastHome_59 rfl hl (by decide) rfl (fun ls hl => ?_)
      have kL60 := h.1
      have h := h.2
      refine l_Route_fillLeastHome_60 u1 v2 hF hK hL 200 0 ar sc kL60 _ _ hP hS ls (lv_sub hl [0, 2, 3, 1] rfl) (fun H locs ls hP hS hl => ?_)
      refine lv_iinc (v := v2 + (-1)) (lv' := [(2, .int (v2 + (-1))), (3, .int ((g_Route_fillLeastHome_60 u1 v2 200 0 ar sc).1)), (0, .ref (L 23)), (1, .int u1)]) hx hb d_Route_fillLeastHome_101 hl (k := 3) rfl (congrArg (fun z => v2 + z) (by decide)) (by decide) rfl (fun ls hl => ?_)
      refine lv_goto (tgt := 54) hx hb d_Route_fillLeastHome_104 (by decide) ?_
      have hv : g_Route_fillLeastHome_54 u1 (n + 1) v2 ar sc = g_Route_fillLeastHome_54 u1 n (v2 + (-1)) ((g_Route_fillLeastHome_60 u1 v2 200 0 ar sc).2.1) ((g_Route_fillLeastHome_60 u1 v2 200 0 ar sc).2.2) := by rw [g_Route_fillLeastHome_54, if_neg c55]
      rw [hv] at hk
      exact ih (v2 + (-1)) ((g_Route_fillLeastHome_60 u1 v2 200 0 ar sc).2.1) ((g_Route_fillLeastHome_60 u1 v2 200 0 ar sc).2.2) h _ _ hP hS ls (lv_sub hl [0, 2, 3] rfl) hk
set_option maxHeartbeats 4000000 in
set_option maxRecDepth 100000 in
theorem c_Route_fillLeastHome (l : Launch) (dC : Nat → ClassId) (dI : Nat → Nat → Nat) (L : Nat → Nat) (cA : Nat → ClassId) (ar : Nat → Nat → Int32) (sc : Nat → Int32) (hL : ij 38 L) (h : p_Route_fillLeastHome ar sc ) : Met l y_Route_fillLeastHome z_Route_fillLeastHome (rmD 2) (va_Pc [.ref (L 23)] (fun U => xw_I dC dI L cA ar sc U)) (va_Qv (fun u : oS => (u.1, u.2) = f_Route_fillLeastHome ar sc ) (fun u t => va_P (dC, dI) classes (wI L cA u.1 u.2) t.heap) (aI L)) 0 0 (aI L) := by
  refine Met.ofW (cc := b_Route_fillLeastHome) (maxL := 5) (ret := none) (by decide) rfl ?_
  intro p e s m args below meth c s₁ B hml hv
  obtain ⟨rfl, ⟨hP, hK⟩⟩ := hv
  have hx := B.exec
  have hb := B.bytes
  have hr := B.returns
  have hts : ∀ w ∈ w_all, w.before _ s = true := fun w hw => atoms_spec (ws := z_Route_fillLeastHome) B.pre w (List.mem_cons_of_mem _ hw)
  have hown : s.vm.findClass R_Route = some m.cls := findClass_of_methodNamed B.named
  have hlocks := B.notSynchronized
  have hF : CallFix p m c b_Route_fillLeastHome 5 s _ w_all R_Route := ⟨hx, hb, hml, hown, hts⟩
  have hS : va_S (aI L) s.heap s.heap [] := va_S.rf
  have hl := lv_entry ([.ref (L 23)]) (n := 5) (Nat.le_of_ble_eq_true rfl)
  rw [lg_entry_eq]
  generalize (lg_sl ([.ref (L 23)]) ++ List.replicate (5 - (lg_sl ([.ref (L 23)])).length) Slot.unset).toArray = ls at hl ⊢
  have hl : lv_has ls 5 [(0, .ref (L 23))] := hl
  unfold p_Route_fillLeastHome at h
  refine lv_iconst (v := 1) hx hb d_Route_fillLeastHome_0 (by decide) ?_
  refine lv_aload_n hx hb d_Route_fillLeastHome_1 rfl (lv_at hl 0 rfl) ?_
  refine gf_Route_count hF hK hP m_96 d_Route_fillLeastHome_2 ?_
  refine lv_ishl hx hb d_Route_fillLeastHome_5 ?_
  refine lv_iconst (v := 1) hx hb d_Route_fillLeastHome_6 (by decide) ?_
  refine lv_isub hx hb d_Route_fillLeastHome_7 ?_
  refine lv_istore_n (lv' := [(1, .int (((1 : Int32) <<< ((sc 4) &&& 31)) - 1)), (0, .ref (L 23))]) hx hb d_Route_fillLeastHome_8 rfl hl (by decide) rfl (fun ls hl => ?_)
  refine lv_iconst (v := 0) hx hb d_Route_fillLeastHome_9 (by decide) ?_
  refine lv_istore_n (lv' := [(2, .int 0), (1, .int (((1 : Int32) <<< ((sc 4) &&& 31)) - 1)), (0, .ref (L 23))]) hx hb d_Route_fillLeastHome_10 rfl hl (by decide) rfl (fun ls hl => ?_)
  have kL11 := h.1
  have h := h.2
  refine l_Route_fillLeastHome_11 (((1 : Int32) <<< ((sc 4) &&& 31)) - 1) hF hK hL 200 0 ar sc kL11 _ _ hP hS ls (lv_sub hl [0, 2, 1] rfl) (fun H locs ls hP hS hl => ?_)
  refine lv_iload_n hx hb d_Route_fillLeastHome_50 rfl (lv_at hl 2 rfl) ?_
  refine lv_iconst (v := 1) hx hb d_Route_fillLeastHome_51 (by decide) ?_
  refine lv_isub hx hb d_Route_fillLeastHome_52 ?_
  refine lv_istore_n (lv' := [(2, .int ((((1 : Int32) <<< ((sc 4) &&& 31)) - 1) - 1)), (0, .ref (L 23)), (1, .int (((1 : Int32) <<< ((sc 4) &&& 31)) - 1))]) hx hb d_Route_fillLeastHome_53 rfl hl (by decide) rfl (fun ls hl => ?_)
  have kL54 := h
  refine l_Route_fillLeastHome_54 (((1 : Int32) <<< ((sc 4) &&& 31)) - 1) hF hK hL 200 ((((1 : Int32) <<< ((sc 4) &&& 31)) - 1) - 1) ((g_Route_fillLeastHome_11 (((1 : Int32) <<< ((sc 4) &&& 31)) - 1) 200 0 ar sc).2.1) ((g_Route_fillLeastHome_11 (((1 : Int32) <<< ((sc 4) &&& 31)) - 1) 200 0 ar sc).2.2) kL54 _ _ hP hS ls (lv_sub hl [0, 1, 2] rfl) (fun H locs ls hP hS hl => ?_)
  have hv : (((g_Route_fillLeastHome_54 (((1 : Int32) <<< ((sc 4) &&& 31)) - 1) 200 ((((1 : Int32) <<< ((sc 4) &&& 31)) - 1) - 1) ((g_Route_fillLeastHome_11 (((1 : Int32) <<< ((sc 4) &&& 31)) - 1) 200 0 ar sc).2.1) ((g_Route_fillLeastHome_11 (((1 : Int32) <<< ((sc 4) &&& 31)) - 1) 200 0 ar sc).2.2)).2.1, (g_Route_fillLeastHome_54 (((1 : Int32) <<< ((sc 4) &&& 31)) - 1) 200 ((((1 : Int32) <<< ((sc 4) &&& 31)) - 1) - 1) ((g_Route_fillLeastHome_11 (((1 : Int32) <<< ((sc 4) &&& 31)) - 1) 200 0 ar sc).2.1) ((g_Route_fillLeastHome_11 (((1 : Int32) <<< ((sc 4) &&& 31)) - 1) 200 0 ar sc).2.2)).2.2) : (Nat → Nat → Int32) × (Nat → Int32)) = f_Route_fillLeastHome ar sc  := by rw [f_Route_fillLeastHome]
  exact W.vret hx hb hr (fun t ht hW => ⟨⟨((g_Route_fillLeastHome_54 (((1 : Int32) <<< ((sc 4) &&& 31)) - 1) 200 ((((1 : Int32) <<< ((sc 4) &&& 31)) - 1) - 1) ((g_Route_fillLeastHome_11 (((1 : Int32) <<< ((sc 4) &&& 31)) - 1) 200 0 ar sc).2.1) ((g_Route_fillLeastHome_11 (((1 : Int32) <<< ((sc 4) &&& 31)) - 1) 200 0 ar sc).2.2)).2.1, (g_Route_fillLeastHome_54 (((1 : Int32) <<< ((sc 4) &&& 31)) - 1) 200 ((((1 : Int32) <<< ((sc 4) &&& 31)) - 1) - 1) ((g_Route_fillLeastHome_11 (((1 : Int32) <<< ((sc 4) &&& 31)) - 1) 200 0 ar sc).2.1) ((g_Route_fillLeastHome_11 (((1 : Int32) <<< ((sc 4) &&& 31)) - 1) 200 0 ar sc).2.2)).2.2), rfl, hv, by dsimp only; rw [ht]; exact hP⟩, hS.F ht⟩) hS.2.2 d_Route_fillLeastHome_107
set_option maxHeartbeats 1000000 in
theorem r_Route_fillLeastHome {p : Program} {l : Launch} {e : Env} {R : Room} {s : State} {m : MethodId} {args : Array Value} {below : List Frame} {meth : Method} {c : Code} {H : Heap} {locs : List Loc} {cells slots : Nat} {Q : State → Prop} {cc : ByteArray} {nL pc idx : Nat} {ls : Array Slot} {rest : List Value} {own : String} {dC : Nat → ClassId} {dI : Nat → Nat → Nat} {L : Nat → Nat} {cA : Nat → ClassId} {ar : Nat → Nat → Int32} {sc : Nat → Int32} {H0 : Heap}  (hF : CallFix p m c cc nL s args w_all own) (hK : kW_I dC dI cA s) (hP : va_P (dC, dI) classes (wI L cA ar sc) H) (hL : ij 38 L) (hS : va_S (aI L) H0 H locs) (h : p_Route_fillLeastHome ar sc ) (hlk : Cond.methodLink own idx y_Route_fillLeastHome ∈ w_all) (hsz : ls.size = nL) (hR : (rmD 2).frames + 1 ≤ R.frames ∧ 8 + (5 + 11) + (rmD 2).locals ≤ R.locals) (hc : cells ≤ R.cells ∧ slots ≤ R.slots) (hrs : (rest.map fun v => v.category).sum ≤ 8) (hdg : decode cc pc = .ok (.invokevirtual idx, 3)) (kk : ∀ (H1 : Heap) (locs1 : List Loc), va_P (dC, dI) classes (wI L cA ((f_Route_fillLeastHome ar sc ).1) ((f_Route_fillLeastHome ar sc ).2)) H1 → va_S (aI L) H0 H1 locs1 → W p l e R s m args below meth c H1 locs1 cells slots Q (F0 m (pc + 3) ls (rest))) : W p l e R s m args below meth c H locs cells slots Q (F0 m pc ls (.ref (L 23) :: rest)) :=
  va_callv (va_runV (As := []) (rest := rest) hF (c_Route_fillLeastHome l dC dI L cA ar sc  hL h) (cwV 0 hF.2.2.2.2 (gV hlk m_115 m_116 m_94 m_117) rfl rfl rfl (by decide +kernel) hR) ⟨xb_I, va_recv hK.1 hP (ci := 5) (q0 := 23) rfl rfl, fun U hU hW => ⟨rfl, by rw [hU]; exact hP, kW_I_warm hW hK⟩⟩ rfl rfl hsz rfl (lv_room hrs) hdg hc) hS (fun q _ h9 => h9) (fun q h9 => h9) (fun u t H1 locs1 ht hvm hw hB hz1 hk1 hS1 => by
    have hk9 := kk H1 locs1 (by rw [← hw, ← ht]; exact hB) hS1
    exact hk9)
theorem d_Route_fillStops_0 : decode b_Route_fillStops 0 = .ok (.iconst 0, 1) := by decide +kernel
theorem d_Route_fillStops_1 : decode b_Route_fillStops 1 = .ok (.istore_n 1, 1) := by decide +kernel
theorem d_Route_fillStops_2 : decode b_Route_fillStops 2 = .ok (.aload_n 0, 1) := by decide +kernel
theorem d_Route_fillStops_3 : decode b_Route_fillStops 3 = .ok (.getfield 30, 3) := by decide +kernel
theorem d_Route_fillStops_6 : decode b_Route_fillStops 6 = .ok (.istore_n 2, 1) := by decide +kernel
theorem d_Route_fillStops_7 : decode b_Route_fillStops 7 = .ok (.iconst 0, 1) := by decide +kernel
theorem d_Route_fillStops_8 : decode b_Route_fillStops 8 = .ok (.istore_n 3, 1) := by decide +kernel
theorem d_Route_fillStops_9 : decode b_Route_fillStops 9 = .ok (.iload_n 3, 1) := by decide +kernel
theorem d_Route_fillStops_10 : decode b_Route_fillStops 10 = .ok (.aload_n 0, 1) := by decide +kernel
theorem d_Route_fillStops_11 : decode b_Route_fillStops 11 = .ok (.getfield 30, 3) := by decide +kernel
theorem d_Route_fillStops_14 : decode b_Route_fillStops 14 = .ok (.if_icmp .ge 34, 3) := by decide +kernel
theorem d_Route_fillStops_17 : decode b_Route_fillStops 17 = .ok (.aload_n 0, 1) := by decide +kernel
theorem d_Route_fillStops_18 : decode b_Route_fillStops 18 = .ok (.iload_n 1, 1) := by decide +kernel
theorem d_Route_fillStops_19 : decode b_Route_fillStops 19 = .ok (.iload_n 2, 1) := by decide +kernel
theorem d_Route_fillStops_20 : decode b_Route_fillStops 20 = .ok (.invokevirtual 49, 3) := by decide +kernel
theorem d_Route_fillStops_23 : decode b_Route_fillStops 23 = .ok (.istore_n 2, 1) := by decide +kernel
theorem d_Route_fillStops_24 : decode b_Route_fillStops 24 = .ok (.iload_n 1, 1) := by decide +kernel
theorem d_Route_fillStops_25 : decode b_Route_fillStops 25 = .ok (.iconst 1, 1) := by decide +kernel
theorem d_Route_fillStops_26 : decode b_Route_fillStops 26 = .ok (.iload_n 2, 1) := by decide +kernel
theorem d_Route_fillStops_27 : decode b_Route_fillStops 27 = .ok (.ishl, 1) := by decide +kernel
theorem d_Route_fillStops_28 : decode b_Route_fillStops 28 = .ok (.ior, 1) := by decide +kernel
theorem d_Route_fillStops_29 : decode b_Route_fillStops 29 = .ok (.istore_n 1, 1) := by decide +kernel
theorem d_Route_fillStops_30 : decode b_Route_fillStops 30 = .ok (.aload_n 0, 1) := by decide +kernel
theorem d_Route_fillStops_31 : decode b_Route_fillStops 31 = .ok (.getfield 27, 3) := by decide +kernel
theorem d_Route_fillStops_34 : decode b_Route_fillStops 34 = .ok (.iload_n 3, 1) := by decide +kernel
theorem d_Route_fillStops_35 : decode b_Route_fillStops 35 = .ok (.aload_n 0, 1) := by decide +kernel
theorem d_Route_fillStops_36 : decode b_Route_fillStops 36 = .ok (.getfield 9, 3) := by decide +kernel
theorem d_Route_fillStops_39 : decode b_Route_fillStops 39 = .ok (.iload_n 2, 1) := by decide +kernel
theorem d_Route_fillStops_40 : decode b_Route_fillStops 40 = .ok (.iaload, 1) := by decide +kernel
theorem d_Route_fillStops_41 : decode b_Route_fillStops 41 = .ok (.iastore, 1) := by decide +kernel
theorem d_Route_fillStops_42 : decode b_Route_fillStops 42 = .ok (.iinc 3 1, 3) := by decide +kernel
theorem d_Route_fillStops_45 : decode b_Route_fillStops 45 = .ok (.goto (-36), 3) := by decide +kernel
theorem d_Route_fillStops_48 : decode b_Route_fillStops 48 = .ok (.return_, 1) := by decide +kernel
set_option maxHeartbeats 4000000 in
set_option maxRecDepth 100000 in
theorem l_Route_fillStops_9 {p : Program} {l : Launch} {e : Env} {s : State} {m : MethodId} {args : Array Value} {below : List Frame} {meth : Method} {c : Code} {dC : Nat → ClassId} {dI : Nat → Nat → Nat} {L : Nat → Nat} {cA : Nat → ClassId} {Q : State → Prop}   (hF : CallFix p m c b_Route_fillStops 4 s args w_all R_Route) (hK : kW_I dC dI cA s) (hL : ij 38 L) : ∀ (n : Nat) (v1 : Int32) (v2 : Int32) (v3 : Int32) (ar : Nat → Nat → Int32) (sc : Nat → Int32), q_Route_fillStops_9 n v1 v2 v3 ar sc → ∀ (H : Heap) (locs : List Loc), va_P (dC, dI) classes (wI L cA ar sc) H → va_S (aI L) s.heap H locs → ∀ (ls : Array Slot), lv_has ls 4 [(1, .int v1), (2, .int v2), (3, .int v3), (0, .ref (L 23))] → (∀ (H : Heap) (locs : List Loc) (ls : Array Slot), va_P (dC, dI) classes (wI L cA ((g_Route_fillStops_9 n v1 v2 v3 ar sc).2.2.2.1) ((g_Route_fillStops_9 n v1 v2 v3 ar sc).2.2.2.2)) H → va_S (aI L) s.heap H locs → lv_has ls 4 [(1, .int ((g_Route_fillStops_9 n v1 v2 v3 ar sc).1)), (2, .int ((g_Route_fillStops_9 n v1 v2 v3 ar sc).2.1)), (3, .int ((g_Route_fillStops_9 n v1 v2 v3 ar sc).2.2.1)), (0, .ref (L 23))] → W p l e (rmD 2) s m args below meth c H locs 0 0 Q (F0 m 48 ls [])) → W p l e (rmD 2) s m args below meth c H locs 0 0 Q (F0 m 9 ls []) := by
  have hx := hF.1
  have hb := hF.2.1
  have hown := hF.2.2.2.1
  have hts := hF.2.2.2.2
  intro n
  induction n with
  | zero => intro v1 v2 v3 ar sc h; exact False.elim h
  | succ n ih =>
    intro v1 v2 v3 ar sc h H locs hP hS ls hl hk
    rw [q_Route_fillStops_9] at h
    refine lv_iload_n hx hb d_Route_fillStops_9 rfl (lv_at hl 2 rfl) ?_
    refine lv_aload_n hx hb d_Route_fillStops_10 rfl (lv_at hl 3 rfl) ?_
    refine gf_Route_count hF hK hP m_96 d_Route_fillStops_11 ?_
    refine lv_icmp_ge (tgt := 48) hx hb d_Route_fillStops_14 (by decide) (fun c14 => ?_) (fun c14 => ?_)
    · have h := h.1 c14
      have hv : g_Route_fillStops_9 (n + 1) v1 v2 v3 ar sc = ((v1, v2, v3, ar, sc) : Int32 × Int32 × Int32 × (Nat → Nat → Int32) × (Nat → Int32)) := by rw [g_Route_fillStops_9, if_pos c14]
      rw [hv] at hk
      exact hk _ _ ls hP hS (lv_sub hl [0, 1, 2, 3] rfl)
    · have h := h.2 c14
      refine lv_aload_n hx hb d_Route_fillStops_17 rfl (lv_at hl 3 rfl) ?_
      refine lv_iload_n hx hb d_Route_fillStops_18 rfl (lv_at hl 0 rfl) ?_
      refine lv_iload_n hx hb d_Route_fillStops_19 rfl (lv_at hl 1 rfl) ?_
      have k20 := h.1
      have h := h.2
      refine r_Route_firstLeastNext hF hK hP k20 m_114 hl.1 ⟨Nat.le_of_ble_eq_true rfl, Nat.le_of_ble_eq_true rfl⟩ ⟨Nat.zero_le _, Nat.zero_le _⟩ (Nat.le_of_ble_eq_true rfl) d_Route_fillStops_20 ?_
      refine lv_istore_n (lv' := [(2, .int (f_Route_firstLeastNext ar sc v1 v2)), (1, .int v1), (3, .int v3), (0, .ref (L 23))]) hx hb d_Route_fillStops_23 rfl hl (by decide) rfl (fun ls hl => ?_)
      refine lv_iload_n hx hb d_Route_fillStops_24 rfl (lv_at hl 1 rfl) ?_
      refine lv_iconst (v := 1) hx hb d_Route_fillStops_25 (by decide) ?_
      refine lv_iload_n hx hb d_Route_fillStops_26 rfl (lv_at hl 0 rfl) ?_
      refine lv_ishl hx hb d_Route_fillStops_27 ?_
      refine lv_ior hx hb d_Route_fillStops_28 ?_
      refine lv_istore_n (lv' := [(1, .int (v1 ||| ((1 : Int32) <<< ((f_Route_firstLeastNext ar sc v1 v2) &&& 31)))), (2, .int (f_Route_firstLeastNext ar sc v1 v2)), (3, .int v3), (0, .ref (L 23))]) hx hb d_Route_fillStops_29 rfl hl (by decide) rfl (fun ls hl => ?_)
      refine lv_aload_n hx hb d_Route_fillStops_30 rfl (lv_at hl 3 rfl) ?_
      refine gf_Route_stops hF hK hP m_118 d_Route_fillStops_31 ?_
      refine lv_iload_n hx hb d_Route_fillStops_34 rfl (lv_at hl 2 rfl) ?_
      refine lv_aload_n hx hb d_Route_fillStops_35 rfl (lv_at hl 3 rfl) ?_
      refine gf_Route_told hF hK hP m_102 d_Route_fillStops_36 ?_
      refine lv_iload_n hx hb d_Route_fillStops_39 rfl (lv_at hl 1 rfl) ?_
      have k40 := h.1
      have h := h.2
      refine alI_24 hF hK hP k40 d_Route_fillStops_40 ?_
      have k41 := h.1
      have h := h.2
      refine asI_29 hF hK hP hL hS k41 d_Route_fillStops_41 (fun H locs hP hS => ?_)
      refine lv_iinc (v := v3 + 1) (lv' := [(3, .int (v3 + 1)), (1, .int (v1 ||| ((1 : Int32) <<< ((f_Route_firstLeastNext ar sc v1 v2) &&& 31)))), (2, .int (f_Route_firstLeastNext ar sc v1 v2)), (0, .ref (L 23))]) hx hb d_Route_fillStops_42 hl (k := 2) rfl rfl (by decide) rfl (fun ls hl => ?_)
      refine lv_goto (tgt := 9) hx hb d_Route_fillStops_45 (by decide) ?_
      have hv : g_Route_fillStops_9 (n + 1) v1 v2 v3 ar sc = g_Route_fillStops_9 n (v1 ||| ((1 : Int32) <<< ((f_Route_firstLeastNext ar sc v1 v2) &&& 31))) (f_Route_firstLeastNext ar sc v1 v2) (v3 + 1) (s2 ar 29 v3.toNatClampNeg (ar 24 ((f_Route_firstLeastNext ar sc v1 v2).toNatClampNeg))) sc := by rw [g_Route_fillStops_9, if_neg c14]
      rw [hv] at hk
      exact ih (v1 ||| ((1 : Int32) <<< ((f_Route_firstLeastNext ar sc v1 v2) &&& 31))) (f_Route_firstLeastNext ar sc v1 v2) (v3 + 1) (s2 ar 29 v3.toNatClampNeg (ar 24 ((f_Route_firstLeastNext ar sc v1 v2).toNatClampNeg))) sc h _ _ hP hS ls (lv_sub hl [1, 2, 0, 3] rfl) hk
set_option maxHeartbeats 4000000 in
set_option maxRecDepth 100000 in
theorem c_Route_fillStops (l : Launch) (dC : Nat → ClassId) (dI : Nat → Nat → Nat) (L : Nat → Nat) (cA : Nat → ClassId) (ar : Nat → Nat → Int32) (sc : Nat → Int32) (hL : ij 38 L) (h : p_Route_fillStops ar sc ) : Met l y_Route_fillStops z_Route_fillStops (rmD 2) (va_Pc [.ref (L 23)] (fun U => xw_I dC dI L cA ar sc U)) (va_Qv (fun u : oS => (u.1, u.2) = f_Route_fillStops ar sc ) (fun u t => va_P (dC, dI) classes (wI L cA u.1 u.2) t.heap) (aI L)) 0 0 (aI L) := by
  refine Met.ofW (cc := b_Route_fillStops) (maxL := 4) (ret := none) (by decide) rfl ?_
  intro p e s m args below meth c s₁ B hml hv
  obtain ⟨rfl, ⟨hP, hK⟩⟩ := hv
  have hx := B.exec
  have hb := B.bytes
  have hr := B.returns
  have hts : ∀ w ∈ w_all, w.before _ s = true := fun w hw => atoms_spec (ws := z_Route_fillStops) B.pre w (List.mem_cons_of_mem _ hw)
  have hown : s.vm.findClass R_Route = some m.cls := findClass_of_methodNamed B.named
  have hlocks := B.notSynchronized
  have hF : CallFix p m c b_Route_fillStops 4 s _ w_all R_Route := ⟨hx, hb, hml, hown, hts⟩
  have hS : va_S (aI L) s.heap s.heap [] := va_S.rf
  have hl := lv_entry ([.ref (L 23)]) (n := 4) (Nat.le_of_ble_eq_true rfl)
  rw [lg_entry_eq]
  generalize (lg_sl ([.ref (L 23)]) ++ List.replicate (4 - (lg_sl ([.ref (L 23)])).length) Slot.unset).toArray = ls at hl ⊢
  have hl : lv_has ls 4 [(0, .ref (L 23))] := hl
  unfold p_Route_fillStops at h
  refine lv_iconst (v := 0) hx hb d_Route_fillStops_0 (by decide) ?_
  refine lv_istore_n (lv' := [(1, .int 0), (0, .ref (L 23))]) hx hb d_Route_fillStops_1 rfl hl (by decide) rfl (fun ls hl => ?_)
  refine lv_aload_n hx hb d_Route_fillStops_2 rfl (lv_at hl 1 rfl) ?_
  refine gf_Route_count hF hK hP m_96 d_Route_fillStops_3 ?_
  refine lv_istore_n (lv' := [(2, .int (sc 4)), (1, .int 0), (0, .ref (L 23))]) hx hb d_Route_fillStops_6 rfl hl (by decide) rfl (fun ls hl => ?_)
  refine lv_iconst (v := 0) hx hb d_Route_fillStops_7 (by decide) ?_
  refine lv_istore_n (lv' := [(3, .int 0), (2, .int (sc 4)), (1, .int 0), (0, .ref (L 23))]) hx hb d_Route_fillStops_8 rfl hl (by decide) rfl (fun ls hl => ?_)
  have kL9 := h
  refine l_Route_fillStops_9 hF hK hL 200 0 (sc 4) 0 ar sc kL9 _ _ hP hS ls (lv_sub hl [2, 1, 0, 3] rfl) (fun H locs ls hP hS hl => ?_)
  have hv : (((g_Route_fillStops_9 200 0 (sc 4) 0 ar sc).2.2.2.1, (g_Route_fillStops_9 200 0 (sc 4) 0 ar sc).2.2.2.2) : (Nat → Nat → Int32) × (Nat → Int32)) = f_Route_fillStops ar sc  := by rw [f_Route_fillStops]
  exact W.vret hx hb hr (fun t ht hW => ⟨⟨((g_Route_fillStops_9 200 0 (sc 4) 0 ar sc).2.2.2.1, (g_Route_fillStops_9 200 0 (sc 4) 0 ar sc).2.2.2.2), rfl, hv, by dsimp only; rw [ht]; exact hP⟩, hS.F ht⟩) hS.2.2 d_Route_fillStops_48
set_option maxHeartbeats 1000000 in
theorem r_Route_fillStops {p : Program} {l : Launch} {e : Env} {R : Room} {s : State} {m : MethodId} {args : Array Value} {below : List Frame} {meth : Method} {c : Code} {H : Heap} {locs : List Loc} {cells slots : Nat} {Q : State → Prop} {cc : ByteArray} {nL pc idx : Nat} {ls : Array Slot} {rest : List Value} {own : String} {dC : Nat → ClassId} {dI : Nat → Nat → Nat} {L : Nat → Nat} {cA : Nat → ClassId} {ar : Nat → Nat → Int32} {sc : Nat → Int32} {H0 : Heap}  (hF : CallFix p m c cc nL s args w_all own) (hK : kW_I dC dI cA s) (hP : va_P (dC, dI) classes (wI L cA ar sc) H) (hL : ij 38 L) (hS : va_S (aI L) H0 H locs) (h : p_Route_fillStops ar sc ) (hlk : Cond.methodLink own idx y_Route_fillStops ∈ w_all) (hsz : ls.size = nL) (hR : (rmD 2).frames + 1 ≤ R.frames ∧ 8 + (4 + 11) + (rmD 2).locals ≤ R.locals) (hc : cells ≤ R.cells ∧ slots ≤ R.slots) (hrs : (rest.map fun v => v.category).sum ≤ 8) (hdg : decode cc pc = .ok (.invokevirtual idx, 3)) (kk : ∀ (H1 : Heap) (locs1 : List Loc), va_P (dC, dI) classes (wI L cA ((f_Route_fillStops ar sc ).1) ((f_Route_fillStops ar sc ).2)) H1 → va_S (aI L) H0 H1 locs1 → W p l e R s m args below meth c H1 locs1 cells slots Q (F0 m (pc + 3) ls (rest))) : W p l e R s m args below meth c H locs cells slots Q (F0 m pc ls (.ref (L 23) :: rest)) :=
  va_callv (va_runV (As := []) (rest := rest) hF (c_Route_fillStops l dC dI L cA ar sc  hL h) (cwV 0 hF.2.2.2.2 (gV hlk m_119 m_120 m_94 m_121) rfl rfl rfl (by decide +kernel) hR) ⟨xb_I, va_recv hK.1 hP (ci := 5) (q0 := 23) rfl rfl, fun U hU hW => ⟨rfl, by rw [hU]; exact hP, kW_I_warm hW hK⟩⟩ rfl rfl hsz rfl (lv_room hrs) hdg hc) hS (fun q _ h9 => h9) (fun q h9 => h9) (fun u t H1 locs1 ht hvm hw hB hz1 hk1 hS1 => by
    have hk9 := kk H1 locs1 (by rw [← hw, ← ht]; exact hB) hS1
    exact hk9)
theorem d_Route_findLeast_0 : decode b_Route_findLeast 0 = .ok (.aload_n 0, 1) := by decide +kernel
theorem d_Route_findLeast_1 : decode b_Route_findLeast 1 = .ok (.getfield 15, 3) := by decide +kernel
theorem d_Route_findLeast_4 : decode b_Route_findLeast 4 = .ok (.iload_n 1, 1) := by decide +kernel
theorem d_Route_findLeast_5 : decode b_Route_findLeast 5 = .ok (.iconst 0, 1) := by decide +kernel
theorem d_Route_findLeast_6 : decode b_Route_findLeast 6 = .ok (.iastore, 1) := by decide +kernel
theorem d_Route_findLeast_7 : decode b_Route_findLeast 7 = .ok (.aload_n 0, 1) := by decide +kernel
theorem d_Route_findLeast_8 : decode b_Route_findLeast 8 = .ok (.getfield 18, 3) := by decide +kernel
theorem d_Route_findLeast_11 : decode b_Route_findLeast 11 = .ok (.iload_n 1, 1) := by decide +kernel
theorem d_Route_findLeast_12 : decode b_Route_findLeast 12 = .ok (.iconst 0, 1) := by decide +kernel
theorem d_Route_findLeast_13 : decode b_Route_findLeast 13 = .ok (.iastore, 1) := by decide +kernel
theorem d_Route_findLeast_14 : decode b_Route_findLeast 14 = .ok (.aload_n 0, 1) := by decide +kernel
theorem d_Route_findLeast_15 : decode b_Route_findLeast 15 = .ok (.iload_n 1, 1) := by decide +kernel
theorem d_Route_findLeast_16 : decode b_Route_findLeast 16 = .ok (.putfield 30, 3) := by decide +kernel
theorem d_Route_findLeast_19 : decode b_Route_findLeast 19 = .ok (.aload_n 0, 1) := by decide +kernel
theorem d_Route_findLeast_20 : decode b_Route_findLeast 20 = .ok (.invokevirtual 34, 3) := by decide +kernel
theorem d_Route_findLeast_23 : decode b_Route_findLeast 23 = .ok (.aload_n 0, 1) := by decide +kernel
theorem d_Route_findLeast_24 : decode b_Route_findLeast 24 = .ok (.invokevirtual 37, 3) := by decide +kernel
theorem d_Route_findLeast_27 : decode b_Route_findLeast 27 = .ok (.aload_n 0, 1) := by decide +kernel
theorem d_Route_findLeast_28 : decode b_Route_findLeast 28 = .ok (.invokevirtual 40, 3) := by decide +kernel
theorem d_Route_findLeast_31 : decode b_Route_findLeast 31 = .ok (.aload_n 0, 1) := by decide +kernel
theorem d_Route_findLeast_32 : decode b_Route_findLeast 32 = .ok (.getfield 24, 3) := by decide +kernel
theorem d_Route_findLeast_35 : decode b_Route_findLeast 35 = .ok (.aload_n 0, 1) := by decide +kernel
theorem d_Route_findLeast_36 : decode b_Route_findLeast 36 = .ok (.getfield 30, 3) := by decide +kernel
theorem d_Route_findLeast_39 : decode b_Route_findLeast 39 = .ok (.iaload, 1) := by decide +kernel
theorem d_Route_findLeast_40 : decode b_Route_findLeast 40 = .ok (.ireturn, 1) := by decide +kernel
set_option maxHeartbeats 4000000 in
set_option maxRecDepth 100000 in
theorem c_Route_findLeast (l : Launch) (dC : Nat → ClassId) (dI : Nat → Nat → Nat) (L : Nat → Nat) (cA : Nat → ClassId) (ar : Nat → Nat → Int32) (sc : Nat → Int32) (a0 : Int32) (hL : ij 38 L) (h : p_Route_findLeast ar sc a0) : Met l y_Route_findLeast z_Route_findLeast (rmD 3) (va_Pc [.ref (L 23), .int a0] (fun U => xw_I dC dI L cA ar sc U)) (va_Qi (fun (r : Int32) (u : oS) => (r, u.1, u.2) = f_Route_findLeast ar sc a0) (fun u t => va_P (dC, dI) classes (wI L cA u.1 u.2) t.heap) (aI L)) 0 0 (aI L) := by
  refine Met.ofW (cc := b_Route_findLeast) (maxL := 2) (ret := (some .int)) (by decide) rfl ?_
  intro p e s m args below meth c s₁ B hml hv
  obtain ⟨rfl, ⟨hP, hK⟩⟩ := hv
  have hx := B.exec
  have hb := B.bytes
  have hr := B.returns
  have hts : ∀ w ∈ w_all, w.before _ s = true := fun w hw => atoms_spec (ws := z_Route_findLeast) B.pre w (List.mem_cons_of_mem _ hw)
  have hown : s.vm.findClass R_Route = some m.cls := findClass_of_methodNamed B.named
  have hlocks := B.notSynchronized
  have hF : CallFix p m c b_Route_findLeast 2 s _ w_all R_Route := ⟨hx, hb, hml, hown, hts⟩
  have hS : va_S (aI L) s.heap s.heap [] := va_S.rf
  have hl := lv_entry ([.ref (L 23), .int a0]) (n := 2) (Nat.le_of_ble_eq_true rfl)
  rw [lg_entry_eq]
  generalize (lg_sl ([.ref (L 23), .int a0]) ++ List.replicate (2 - (lg_sl ([.ref (L 23), .int a0])).length) Slot.unset).toArray = ls at hl ⊢
  have hl : lv_has ls 2 [(0, .ref (L 23)), (1, .int a0)] := hl
  unfold p_Route_findLeast at h
  refine lv_aload_n hx hb d_Route_findLeast_0 rfl (lv_at hl 0 rfl) ?_
  refine gf_Route_xs hF hK hP m_103 d_Route_findLeast_1 ?_
  refine lv_iload_n hx hb d_Route_findLeast_4 rfl (lv_at hl 1 rfl) ?_
  refine lv_iconst (v := 0) hx hb d_Route_findLeast_5 (by decide) ?_
  have k6 := h.1
  have h := h.2
  refine asI_25 hF hK hP hL hS k6 d_Route_findLeast_6 (fun H locs hP hS => ?_)
  refine lv_aload_n hx hb d_Route_findLeast_7 rfl (lv_at hl 0 rfl) ?_
  refine gf_Route_ys hF hK hP m_104 d_Route_findLeast_8 ?_
  refine lv_iload_n hx hb d_Route_findLeast_11 rfl (lv_at hl 1 rfl) ?_
  refine lv_iconst (v := 0) hx hb d_Route_findLeast_12 (by decide) ?_
  have k13 := h.1
  have h := h.2
  refine asI_26 hF hK hP hL hS k13 d_Route_findLeast_13 (fun H locs hP hS => ?_)
  refine lv_aload_n hx hb d_Route_findLeast_14 rfl (lv_at hl 0 rfl) ?_
  refine lv_iload_n hx hb d_Route_findLeast_15 rfl (lv_at hl 1 rfl) ?_
  refine pf_Route_count hF hK hP hL hS m_96 d_Route_findLeast_16 (fun H locs hP hS => ?_)
  refine lv_aload_n hx hb d_Route_findLeast_19 rfl (lv_at hl 0 rfl) ?_
  have k20 := h.1
  have h := h.2
  refine r_Route_fillLegs hF hK hP hL hS k20 m_122 hl.1 ⟨Nat.le_of_ble_eq_true rfl, Nat.le_of_ble_eq_true rfl⟩ ⟨Nat.zero_le _, Nat.zero_le _⟩ (Nat.le_of_ble_eq_true rfl) d_Route_findLeast_20 (fun H locs hP hS => ?_)
  refine lv_aload_n hx hb d_Route_findLeast_23 rfl (lv_at hl 0 rfl) ?_
  have k24 := h.1
  have h := h.2
  refine r_Route_fillLeastHome hF hK hP hL hS k24 m_123 hl.1 ⟨Nat.le_of_ble_eq_true rfl, Nat.le_of_ble_eq_true rfl⟩ ⟨Nat.zero_le _, Nat.zero_le _⟩ (Nat.le_of_ble_eq_true rfl) d_Route_findLeast_24 (fun H locs hP hS => ?_)
  refine lv_aload_n hx hb d_Route_findLeast_27 rfl (lv_at hl 0 rfl) ?_
  have k28 := h.1
  have h := h.2
  refine r_Route_fillStops hF hK hP hL hS k28 m_124 hl.1 ⟨Nat.le_of_ble_eq_true rfl, Nat.le_of_ble_eq_true rfl⟩ ⟨Nat.zero_le _, Nat.zero_le _⟩ (Nat.le_of_ble_eq_true rfl) d_Route_findLeast_28 (fun H locs hP hS => ?_)
  refine lv_aload_n hx hb d_Route_findLeast_31 rfl (lv_at hl 0 rfl) ?_
  refine gf_Route_leastHome hF hK hP m_91 d_Route_findLeast_32 ?_
  refine lv_aload_n hx hb d_Route_findLeast_35 rfl (lv_at hl 0 rfl) ?_
  refine gf_Route_count hF hK hP m_96 d_Route_findLeast_36 ?_
  have k39 := h
  refine alI_28 hF hK hP k39 d_Route_findLeast_39 ?_
  have hv : ((((f_Route_fillStops ((f_Route_fillLeastHome ((f_Route_fillLegs (s2 (s2 ar 25 a0.toNatClampNeg 0) 26 a0.toNatClampNeg 0) (sg sc 4 a0) ).1) ((f_Route_fillLegs (s2 (s2 ar 25 a0.toNatClampNeg 0) 26 a0.toNatClampNeg 0) (sg sc 4 a0) ).2) ).1) ((f_Route_fillLeastHome ((f_Route_fillLegs (s2 (s2 ar 25 a0.toNatClampNeg 0) 26 a0.toNatClampNeg 0) (sg sc 4 a0) ).1) ((f_Route_fillLegs (s2 (s2 ar 25 a0.toNatClampNeg 0) 26 a0.toNatClampNeg 0) (sg sc 4 a0) ).2) ).2) ).1) 28 ((((f_Route_fillStops ((f_Route_fillLeastHome ((f_Route_fillLegs (s2 (s2 ar 25 a0.toNatClampNeg 0) 26 a0.toNatClampNeg 0) (sg sc 4 a0) ).1) ((f_Route_fillLegs (s2 (s2 ar 25 a0.toNatClampNeg 0) 26 a0.toNatClampNeg 0) (sg sc 4 a0) ).2) ).1) ((f_Route_fillLeastHome ((f_Route_fillLegs (s2 (s2 ar 25 a0.toNatClampNeg 0) 26 a0.toNatClampNeg 0) (sg sc 4 a0) ).1) ((f_Route_fillLegs (s2 (s2 ar 25 a0.toNatClampNeg 0) 26 a0.toNatClampNeg 0) (sg sc 4 a0) ).2) ).2) ).2) 4).toNatClampNeg), (f_Route_fillStops ((f_Route_fillLeastHome ((f_Route_fillLegs (s2 (s2 ar 25 a0.toNatClampNeg 0) 26 a0.toNatClampNeg 0) (sg sc 4 a0) ).1) ((f_Route_fillLegs (s2 (s2 ar 25 a0.toNatClampNeg 0) 26 a0.toNatClampNeg 0) (sg sc 4 a0) ).2) ).1) ((f_Route_fillLeastHome ((f_Route_fillLegs (s2 (s2 ar 25 a0.toNatClampNeg 0) 26 a0.toNatClampNeg 0) (sg sc 4 a0) ).1) ((f_Route_fillLegs (s2 (s2 ar 25 a0.toNatClampNeg 0) 26 a0.toNatClampNeg 0) (sg sc 4 a0) ).2) ).2) ).1, (f_Route_fillStops ((f_Route_fillLeastHome ((f_Route_fillLegs (s2 (s2 ar 25 a0.toNatClampNeg 0) 26 a0.toNatClampNeg 0) (sg sc 4 a0) ).1) ((f_Route_fillLegs (s2 (s2 ar 25 a0.toNatClampNeg 0) 26 a0.toNatClampNeg 0) (sg sc 4 a0) ).2) ).1) ((f_Route_fillLeastHome ((f_Route_fillLegs (s2 (s2 ar 25 a0.toNatClampNeg 0) 26 a0.toNatClampNeg 0) (sg sc 4 a0) ).1) ((f_Route_fillLegs (s2 (s2 ar 25 a0.toNatClampNeg 0) 26 a0.toNatClampNeg 0) (sg sc 4 a0) ).2) ).2) ).2) : Int32 × (Nat → Nat → Int32) × (Nat → Int32)) = f_Route_findLeast ar sc a0 := by rw [f_Route_findLeast]
  exact W.iret (v := ((f_Route_fillStops ((f_Route_fillLeastHome ((f_Route_fillLegs (s2 (s2 ar 25 a0.toNatClampNeg 0) 26 a0.toNatClampNeg 0) (sg sc 4 a0) ).1) ((f_Route_fillLegs (s2 (s2 ar 25 a0.toNatClampNeg 0) 26 a0.toNatClampNeg 0) (sg sc 4 a0) ).2) ).1) ((f_Route_fillLeastHome ((f_Route_fillLegs (s2 (s2 ar 25 a0.toNatClampNeg 0) 26 a0.toNatClampNeg 0) (sg sc 4 a0) ).1) ((f_Route_fillLegs (s2 (s2 ar 25 a0.toNatClampNeg 0) 26 a0.toNatClampNeg 0) (sg sc 4 a0) ).2) ).2) ).1) 28 ((((f_Route_fillStops ((f_Route_fillLeastHome ((f_Route_fillLegs (s2 (s2 ar 25 a0.toNatClampNeg 0) 26 a0.toNatClampNeg 0) (sg sc 4 a0) ).1) ((f_Route_fillLegs (s2 (s2 ar 25 a0.toNatClampNeg 0) 26 a0.toNatClampNeg 0) (sg sc 4 a0) ).2) ).1) ((f_Route_fillLeastHome ((f_Route_fillLegs (s2 (s2 ar 25 a0.toNatClampNeg 0) 26 a0.toNatClampNeg 0) (sg sc 4 a0) ).1) ((f_Route_fillLegs (s2 (s2 ar 25 a0.toNatClampNeg 0) 26 a0.toNatClampNeg 0) (sg sc 4 a0) ).2) ).2) ).2) 4).toNatClampNeg)) hx hb hr (fun t ht hW => ⟨⟨((f_Route_fillStops ((f_Route_fillLeastHome ((f_Route_fillLegs (s2 (s2 ar 25 a0.toNatClampNeg 0) 26 a0.toNatClampNeg 0) (sg sc 4 a0) ).1) ((f_Route_fillLegs (s2 (s2 ar 25 a0.toNatClampNeg 0) 26 a0.toNatClampNeg 0) (sg sc 4 a0) ).2) ).1) ((f_Route_fillLeastHome ((f_Route_fillLegs (s2 (s2 ar 25 a0.toNatClampNeg 0) 26 a0.toNatClampNeg 0) (sg sc 4 a0) ).1) ((f_Route_fillLegs (s2 (s2 ar 25 a0.toNatClampNeg 0) 26 a0.toNatClampNeg 0) (sg sc 4 a0) ).2) ).2) ).1) 28 ((((f_Route_fillStops ((f_Route_fillLeastHome ((f_Route_fillLegs (s2 (s2 ar 25 a0.toNatClampNeg 0) 26 a0.toNatClampNeg 0) (sg sc 4 a0) ).1) ((f_Route_fillLegs (s2 (s2 ar 25 a0.toNatClampNeg 0) 26 a0.toNatClampNeg 0) (sg sc 4 a0) ).2) ).1) ((f_Route_fillLeastHome ((f_Route_fillLegs (s2 (s2 ar 25 a0.toNatClampNeg 0) 26 a0.toNatClampNeg 0) (sg sc 4 a0) ).1) ((f_Route_fillLegs (s2 (s2 ar 25 a0.toNatClampNeg 0) 26 a0.toNatClampNeg 0) (sg sc 4 a0) ).2) ).2) ).2) 4).toNatClampNeg), ((f_Route_fillStops ((f_Route_fillLeastHome ((f_Route_fillLegs (s2 (s2 ar 25 a0.toNatClampNeg 0) 26 a0.toNatClampNeg 0) (sg sc 4 a0) ).1) ((f_Route_fillLegs (s2 (s2 ar 25 a0.toNatClampNeg 0) 26 a0.toNatClampNeg 0) (sg sc 4 a0) ).2) ).1) ((f_Route_fillLeastHome ((f_Route_fillLegs (s2 (s2 ar 25 a0.toNatClampNeg 0) 26 a0.toNatClampNeg 0) (sg sc 4 a0) ).1) ((f_Route_fillLegs (s2 (s2 ar 25 a0.toNatClampNeg 0) 26 a0.toNatClampNeg 0) (sg sc 4 a0) ).2) ).2) ).1, (f_Route_fillStops ((f_Route_fillLeastHome ((f_Route_fillLegs (s2 (s2 ar 25 a0.toNatClampNeg 0) 26 a0.toNatClampNeg 0) (sg sc 4 a0) ).1) ((f_Route_fillLegs (s2 (s2 ar 25 a0.toNatClampNeg 0) 26 a0.toNatClampNeg 0) (sg sc 4 a0) ).2) ).1) ((f_Route_fillLeastHome ((f_Route_fillLegs (s2 (s2 ar 25 a0.toNatClampNeg 0) 26 a0.toNatClampNeg 0) (sg sc 4 a0) ).1) ((f_Route_fillLegs (s2 (s2 ar 25 a0.toNatClampNeg 0) 26 a0.toNatClampNeg 0) (sg sc 4 a0) ).2) ).2) ).2), rfl, hv, by dsimp only; rw [ht]; exact hP⟩, hS.F ht⟩) hS.2.2 d_Route_findLeast_40
set_option maxHeartbeats 1000000 in
theorem r_Route_findLeast {p : Program} {l : Launch} {e : Env} {R : Room} {s : State} {m : MethodId} {args : Array Value} {below : List Frame} {meth : Method} {c : Code} {H : Heap} {locs : List Loc} {cells slots : Nat} {Q : State → Prop} {cc : ByteArray} {nL pc idx : Nat} {ls : Array Slot} {rest : List Value} {own : String} {dC : Nat → ClassId} {dI : Nat → Nat → Nat} {L : Nat → Nat} {cA : Nat → ClassId} {ar : Nat → Nat → Int32} {sc : Nat → Int32} {H0 : Heap} {a0 : Int32} (hF : CallFix p m c cc nL s args w_all own) (hK : kW_I dC dI cA s) (hP : va_P (dC, dI) classes (wI L cA ar sc) H) (hL : ij 38 L) (hS : va_S (aI L) H0 H locs) (h : p_Route_findLeast ar sc a0) (hlk : Cond.methodLink own idx y_Route_findLeast ∈ w_all) (hsz : ls.size = nL) (hR : (rmD 3).frames + 1 ≤ R.frames ∧ 8 + (2 + 11) + (rmD 3).locals ≤ R.locals) (hc : cells ≤ R.cells ∧ slots ≤ R.slots) (hrs : (rest.map fun v => v.category).sum ≤ 8) (hdg : decode cc pc = .ok (.invokevirtual idx, 3)) (kk : ∀ (H1 : Heap) (locs1 : List Loc), va_P (dC, dI) classes (wI L cA ((f_Route_findLeast ar sc a0).2.1) ((f_Route_findLeast ar sc a0).2.2)) H1 → va_S (aI L) H0 H1 locs1 → W p l e R s m args below meth c H1 locs1 cells slots Q (F0 m (pc + 3) ls (.int (f_Route_findLeast ar sc a0).1 :: rest))) : W p l e R s m args below meth c H locs cells slots Q (F0 m pc ls (.int a0 :: .ref (L 23) :: rest)) :=
  va_calli (va_runV (As := [.int a0]) (rest := rest) hF (c_Route_findLeast l dC dI L cA ar sc a0 hL h) (cwV 1 hF.2.2.2.2 (gV hlk m_125 m_126 m_94 m_127) rfl rfl rfl (by decide +kernel) hR) ⟨xb_I, va_recv hK.1 hP (ci := 5) (q0 := 23) rfl rfl, fun U hU hW => ⟨rfl, by rw [hU]; exact hP, kW_I_warm hW hK⟩⟩ rfl rfl hsz rfl (lv_room hrs) hdg hc) hS (fun q _ h9 => h9) (fun q h9 => h9) (fun r u t H1 locs1 ht hvm hw hB hz1 hk1 hS1 => by
    have hk9 := kk H1 locs1 (by rw [← hw, ← ht]; exact hB) hS1
    rw [← hw] at hk9
    exact hk9)
end
section
theorem m_128 : (Cond.static y_Ir_isWithin) ∈ w_all := List.mem_filter.mpr ⟨List.mem_of_getElem? (i := 296) (by decide +kernel), by decide +kernel⟩
theorem m_129 : (Cond.initialized R_Ir) ∈ w_all := List.mem_filter.mpr ⟨List.mem_of_getElem? (i := 32) (by decide +kernel), by decide +kernel⟩
theorem m_130 : (Cond.code y_Ir_isWithin b_Ir_isWithin 3 (some .boolean)) ∈ w_all := List.mem_filter.mpr ⟨List.mem_of_getElem? (i := 297) (by decide +kernel), by decide +kernel⟩
theorem m_131 : (Cond.methodLink R_Ir 67 y_Ir_isWithin) ∈ w_all := List.mem_filter.mpr ⟨List.mem_of_getElem? (i := 295) (by decide +kernel), by decide +kernel⟩
theorem m_132 : (Cond.static y_Ir_isKind) ∈ w_all := List.mem_filter.mpr ⟨List.mem_of_getElem? (i := 293) (by decide +kernel), by decide +kernel⟩
theorem m_133 : (Cond.code y_Ir_isKind b_Ir_isKind 1 (some .boolean)) ∈ w_all := List.mem_filter.mpr ⟨List.mem_of_getElem? (i := 294) (by decide +kernel), by decide +kernel⟩
theorem m_134 : (Cond.fieldLink R_Ir 19 "InspectRows" "points" "LInspectRows$Points;") ∈ w_all := List.mem_filter.mpr ⟨List.mem_of_getElem? (i := 255) (by decide +kernel), by decide +kernel⟩
theorem m_135 : (Cond.instanceMethod y_Ir_isPoint) ∈ w_all := List.mem_filter.mpr ⟨List.mem_of_getElem? (i := 452) (by decide +kernel), by decide +kernel⟩
theorem m_136 : (Cond.selects R_Ir y_Ir_isPoint y_Ir_isPoint) ∈ w_all := List.mem_filter.mpr ⟨List.mem_of_getElem? (i := 1) (by decide +kernel), by decide +kernel⟩
theorem m_137 : (Cond.code y_Ir_isPoint b_Ir_isPoint 2 (some .boolean)) ∈ w_all := List.mem_filter.mpr ⟨List.mem_of_getElem? (i := 453) (by decide +kernel), by decide +kernel⟩
theorem m_138 : (Cond.fieldLink R_Ir 26 "InspectRows" "findings" "LInspectRows$Findings;") ∈ w_all := List.mem_filter.mpr ⟨List.mem_of_getElem? (i := 256) (by decide +kernel), by decide +kernel⟩
theorem m_139 : (Cond.instanceMethod y_Ir_isFinding) ∈ w_all := List.mem_filter.mpr ⟨List.mem_of_getElem? (i := 503) (by decide +kernel), by decide +kernel⟩
theorem m_140 : (Cond.selects R_Ir y_Ir_isFinding y_Ir_isFinding) ∈ w_all := List.mem_filter.mpr ⟨List.mem_of_getElem? (i := 5) (by decide +kernel), by decide +kernel⟩
theorem m_141 : (Cond.code y_Ir_isFinding b_Ir_isFinding 2 (some .boolean)) ∈ w_all := List.mem_filter.mpr ⟨List.mem_of_getElem? (i := 504) (by decide +kernel), by decide +kernel⟩
theorem m_142 : (Cond.constant R_Ir 248 (-10000000)) ∈ w_all := List.mem_filter.mpr ⟨List.mem_of_getElem? (i := 696) (by decide +kernel), by decide +kernel⟩
theorem m_143 : (Cond.constant R_Ir 195 10000000) ∈ w_all := List.mem_filter.mpr ⟨List.mem_of_getElem? (i := 654) (by decide +kernel), by decide +kernel⟩
theorem m_144 : (Cond.static y_Ir_isSide) ∈ w_all := List.mem_filter.mpr ⟨List.mem_of_getElem? (i := 694) (by decide +kernel), by decide +kernel⟩
theorem m_145 : (Cond.code y_Ir_isSide b_Ir_isSide 2 (some .boolean)) ∈ w_all := List.mem_filter.mpr ⟨List.mem_of_getElem? (i := 695) (by decide +kernel), by decide +kernel⟩
theorem m_146 : (Cond.static y_Ir_canLead) ∈ w_all := List.mem_filter.mpr ⟨List.mem_of_getElem? (i := 571) (by decide +kernel), by decide +kernel⟩
theorem m_147 : (Cond.code y_Ir_canLead b_Ir_canLead 2 (some .boolean)) ∈ w_all := List.mem_filter.mpr ⟨List.mem_of_getElem? (i := 572) (by decide +kernel), by decide +kernel⟩
theorem m_148 : (Cond.static y_Ir_toldPoint) ∈ w_all := List.mem_filter.mpr ⟨List.mem_of_getElem? (i := 603) (by decide +kernel), by decide +kernel⟩
theorem m_149 : (Cond.code y_Ir_toldPoint b_Ir_toldPoint 3 (some .int)) ∈ w_all := List.mem_filter.mpr ⟨List.mem_of_getElem? (i := 604) (by decide +kernel), by decide +kernel⟩
theorem m_150 : (Cond.methodLink R_Ir 177 y_Ir_toldPoint) ∈ w_all := List.mem_filter.mpr ⟨List.mem_of_getElem? (i := 602) (by decide +kernel), by decide +kernel⟩
theorem m_151 : (Cond.methodLink R_Ir 98 y_Ir_isPoint) ∈ w_all := List.mem_filter.mpr ⟨List.mem_of_getElem? (i := 450) (by decide +kernel), by decide +kernel⟩
theorem m_152 : (Cond.instanceMethod y_Ir_areAllPoints) ∈ w_all := List.mem_filter.mpr ⟨List.mem_of_getElem? (i := 600) (by decide +kernel), by decide +kernel⟩
theorem m_153 : (Cond.selects R_Ir y_Ir_areAllPoints y_Ir_areAllPoints) ∈ w_all := List.mem_filter.mpr ⟨List.mem_of_getElem? (i := 9) (by decide +kernel), by decide +kernel⟩
theorem m_154 : (Cond.code y_Ir_areAllPoints b_Ir_areAllPoints 5 (some .boolean)) ∈ w_all := List.mem_filter.mpr ⟨List.mem_of_getElem? (i := 601) (by decide +kernel), by decide +kernel⟩
theorem m_155 : (Cond.static y_Ir_areAllDifferent) ∈ w_all := List.mem_filter.mpr ⟨List.mem_of_getElem? (i := 606) (by decide +kernel), by decide +kernel⟩
theorem m_156 : (Cond.code y_Ir_areAllDifferent b_Ir_areAllDifferent 6 (some .boolean)) ∈ w_all := List.mem_filter.mpr ⟨List.mem_of_getElem? (i := 607) (by decide +kernel), by decide +kernel⟩
theorem m_157 : (Cond.fieldLink R_Ir 51 "InspectRows" "risks" "[I") ∈ w_all := List.mem_filter.mpr ⟨List.mem_of_getElem? (i := 260) (by decide +kernel), by decide +kernel⟩
theorem m_158 : (Cond.fieldLink R_Ir 10 "InspectRows" "scale" "LInspectRows$Scale;") ∈ w_all := List.mem_filter.mpr ⟨List.mem_of_getElem? (i := 254) (by decide +kernel), by decide +kernel⟩
theorem m_159 : (Cond.fieldLink R_Ir 55 "InspectRows" "today" "I") ∈ w_all := List.mem_filter.mpr ⟨List.mem_of_getElem? (i := 261) (by decide +kernel), by decide +kernel⟩
theorem m_160 : (Cond.methodLink R_Ir 255 y_Findings_riskOn) ∈ w_all := List.mem_filter.mpr ⟨List.mem_of_getElem? (i := 473) (by decide +kernel), by decide +kernel⟩
theorem m_161 : (Cond.instanceMethod y_Ir_fillRisks) ∈ w_all := List.mem_filter.mpr ⟨List.mem_of_getElem? (i := 471) (by decide +kernel), by decide +kernel⟩
theorem m_162 : (Cond.selects R_Ir y_Ir_fillRisks y_Ir_fillRisks) ∈ w_all := List.mem_filter.mpr ⟨List.mem_of_getElem? (i := 4) (by decide +kernel), by decide +kernel⟩
theorem m_163 : (Cond.code y_Ir_fillRisks b_Ir_fillRisks 2 none) ∈ w_all := List.mem_filter.mpr ⟨List.mem_of_getElem? (i := 472) (by decide +kernel), by decide +kernel⟩
theorem m_164 : (Cond.methodLink R_Ir 136 y_Ir_fillRisks) ∈ w_all := List.mem_filter.mpr ⟨List.mem_of_getElem? (i := 469) (by decide +kernel), by decide +kernel⟩
theorem m_165 : (Cond.instanceMethod y_Ir_riskOf) ∈ w_all := List.mem_filter.mpr ⟨List.mem_of_getElem? (i := 467) (by decide +kernel), by decide +kernel⟩
theorem m_166 : (Cond.selects R_Ir y_Ir_riskOf y_Ir_riskOf) ∈ w_all := List.mem_filter.mpr ⟨List.mem_of_getElem? (i := 3) (by decide +kernel), by decide +kernel⟩
theorem m_167 : (Cond.code y_Ir_riskOf b_Ir_riskOf 2 (some .int)) ∈ w_all := List.mem_filter.mpr ⟨List.mem_of_getElem? (i := 468) (by decide +kernel), by decide +kernel⟩
theorem m_168 : (Cond.methodLink R_Ir 133 y_Ir_riskOf) ∈ w_all := List.mem_filter.mpr ⟨List.mem_of_getElem? (i := 465) (by decide +kernel), by decide +kernel⟩
theorem m_169 : (Cond.methodLink R_Ir 258 y_Scale_classFor) ∈ w_all := List.mem_filter.mpr ⟨List.mem_of_getElem? (i := 485) (by decide +kernel), by decide +kernel⟩
theorem m_170 : (Cond.instanceMethod y_Ir_classOf) ∈ w_all := List.mem_filter.mpr ⟨List.mem_of_getElem? (i := 463) (by decide +kernel), by decide +kernel⟩
theorem m_171 : (Cond.selects R_Ir y_Ir_classOf y_Ir_classOf) ∈ w_all := List.mem_filter.mpr ⟨List.mem_of_getElem? (i := 2) (by decide +kernel), by decide +kernel⟩
theorem m_172 : (Cond.code y_Ir_classOf b_Ir_classOf 2 (some .int)) ∈ w_all := List.mem_filter.mpr ⟨List.mem_of_getElem? (i := 464) (by decide +kernel), by decide +kernel⟩
theorem m_173 : (Cond.instanceMethod y_Ir_firstDueDay) ∈ w_all := List.mem_filter.mpr ⟨List.mem_of_getElem? (i := 542) (by decide +kernel), by decide +kernel⟩
theorem m_174 : (Cond.selects R_Ir y_Ir_firstDueDay y_Ir_firstDueDay) ∈ w_all := List.mem_filter.mpr ⟨List.mem_of_getElem? (i := 6) (by decide +kernel), by decide +kernel⟩
theorem m_175 : (Cond.code y_Ir_firstDueDay b_Ir_firstDueDay 3 (some .int)) ∈ w_all := List.mem_filter.mpr ⟨List.mem_of_getElem? (i := 543) (by decide +kernel), by decide +kernel⟩
theorem m_176 : (Cond.instanceMethod y_Ir_isAhead) ∈ w_all := List.mem_filter.mpr ⟨List.mem_of_getElem? (i := 561) (by decide +kernel), by decide +kernel⟩
theorem m_177 : (Cond.selects R_Ir y_Ir_isAhead y_Ir_isAhead) ∈ w_all := List.mem_filter.mpr ⟨List.mem_of_getElem? (i := 8) (by decide +kernel), by decide +kernel⟩
theorem m_178 : (Cond.code y_Ir_isAhead b_Ir_isAhead 3 (some .boolean)) ∈ w_all := List.mem_filter.mpr ⟨List.mem_of_getElem? (i := 562) (by decide +kernel), by decide +kernel⟩
theorem m_179 : (Cond.methodLink R_Ir 261 y_Ir_isAhead) ∈ w_all := List.mem_filter.mpr ⟨List.mem_of_getElem? (i := 559) (by decide +kernel), by decide +kernel⟩
theorem m_180 : (Cond.methodLink R_Ir 139 y_Ir_firstDueDay) ∈ w_all := List.mem_filter.mpr ⟨List.mem_of_getElem? (i := 540) (by decide +kernel), by decide +kernel⟩
theorem m_181 : (Cond.instanceMethod y_Ir_countDueAhead) ∈ w_all := List.mem_filter.mpr ⟨List.mem_of_getElem? (i := 557) (by decide +kernel), by decide +kernel⟩
theorem m_182 : (Cond.selects R_Ir y_Ir_countDueAhead y_Ir_countDueAhead) ∈ w_all := List.mem_filter.mpr ⟨List.mem_of_getElem? (i := 7) (by decide +kernel), by decide +kernel⟩
theorem m_183 : (Cond.code y_Ir_countDueAhead b_Ir_countDueAhead 5 (some .int)) ∈ w_all := List.mem_filter.mpr ⟨List.mem_of_getElem? (i := 558) (by decide +kernel), by decide +kernel⟩
theorem mn_0 : (Cond.fieldLinkNest R_Ir 87 "InspectRows$Points" "count" "I" "InspectRows") ∈ nw_all := List.mem_filter.mpr ⟨List.mem_of_getElem? (i := 97) (by decide +kernel), by decide +kernel⟩
theorem mn_1 : (Cond.fieldLinkNest R_Ir 104 "InspectRows$Findings" "count" "I" "InspectRows") ∈ nw_all := List.mem_filter.mpr ⟨List.mem_of_getElem? (i := 125) (by decide +kernel), by decide +kernel⟩
theorem mn_2 : (Cond.fieldLinkNest R_Ir 74 "InspectRows$Scale" "kindWeights" "[I" "InspectRows") ∈ nw_all := List.mem_filter.mpr ⟨List.mem_of_getElem? (i := 63) (by decide +kernel), by decide +kernel⟩
theorem mn_3 : (Cond.fieldLinkNest R_Ir 249 "InspectRows$Points" "kinds" "[I" "InspectRows") ∈ nw_all := List.mem_filter.mpr ⟨List.mem_of_getElem? (i := 87) (by decide +kernel), by decide +kernel⟩
theorem mn_4 : (Cond.fieldLinkNest R_Ir 252 "InspectRows$Points" "ownRisks" "[I" "InspectRows") ∈ nw_all := List.mem_filter.mpr ⟨List.mem_of_getElem? (i := 89) (by decide +kernel), by decide +kernel⟩
theorem mn_5 : (Cond.fieldLinkNest R_Ir 124 "InspectRows$Findings" "points" "[I" "InspectRows") ∈ nw_all := List.mem_filter.mpr ⟨List.mem_of_getElem? (i := 118) (by decide +kernel), by decide +kernel⟩
theorem mn_6 : (Cond.fieldLinkNest R_Ir 101 "InspectRows$Points" "visits" "[I" "InspectRows") ∈ nw_all := List.mem_filter.mpr ⟨List.mem_of_getElem? (i := 95) (by decide +kernel), by decide +kernel⟩
theorem mn_7 : (Cond.fieldLinkNest R_Ir 81 "InspectRows$Scale" "intervals" "[I" "InspectRows") ∈ nw_all := List.mem_filter.mpr ⟨List.mem_of_getElem? (i := 67) (by decide +kernel), by decide +kernel⟩
theorem d_Ir_isWithin_0 : decode b_Ir_isWithin 0 = .ok (.iload_n 0, 1) := by decide +kernel
theorem d_Ir_isWithin_1 : decode b_Ir_isWithin 1 = .ok (.iload_n 1, 1) := by decide +kernel
theorem d_Ir_isWithin_2 : decode b_Ir_isWithin 2 = .ok (.if_icmp .lt 12, 3) := by decide +kernel
theorem d_Ir_isWithin_5 : decode b_Ir_isWithin 5 = .ok (.iload_n 0, 1) := by decide +kernel
theorem d_Ir_isWithin_6 : decode b_Ir_isWithin 6 = .ok (.iload_n 2, 1) := by decide +kernel
theorem d_Ir_isWithin_7 : decode b_Ir_isWithin 7 = .ok (.if_icmp .gt 7, 3) := by decide +kernel
theorem d_Ir_isWithin_10 : decode b_Ir_isWithin 10 = .ok (.iconst 1, 1) := by decide +kernel
theorem d_Ir_isWithin_11 : decode b_Ir_isWithin 11 = .ok (.goto 4, 3) := by decide +kernel
theorem d_Ir_isWithin_14 : decode b_Ir_isWithin 14 = .ok (.iconst 0, 1) := by decide +kernel
theorem d_Ir_isWithin_15 : decode b_Ir_isWithin 15 = .ok (.ireturn, 1) := by decide +kernel
set_option maxHeartbeats 4000000 in
set_option maxRecDepth 100000 in
theorem c_Ir_isWithin (l : Launch) (a0 : Int32) (a1 : Int32) (a2 : Int32) : Met l y_Ir_isWithin z_Ir_isWithin (rmD 0) (fun v _ => v = ([.int a0, .int a1, .int a2] : List Value).toArray) (QcRead (f_Ir_isWithin a0 a1 a2)) 0 0 (fun _ => False) := by
  refine Met.ofW (cc := b_Ir_isWithin) (maxL := 3) (ret := (some .boolean)) (by decide) rfl ?_
  intro p e s m args below meth c s₁ B hml hv
  obtain rfl := hv
  have hx := B.exec
  have hb := B.bytes
  have hr := B.returns
  have hts : ∀ w ∈ w_all, w.before _ s = true := fun w hw => atoms_spec (ws := z_Ir_isWithin) B.pre w (List.mem_cons_of_mem _ hw)
  have hown : s.vm.findClass R_Ir = some m.cls := findClass_of_methodNamed B.named
  have hlocks := B.notSynchronized
  have hF : CallFix p m c b_Ir_isWithin 3 s _ w_all R_Ir := ⟨hx, hb, hml, hown, hts⟩
  have hl := lv_entry ([.int a0, .int a1, .int a2]) (n := 3) (Nat.le_of_ble_eq_true rfl)
  rw [lg_entry_eq]
  generalize (lg_sl ([.int a0, .int a1, .int a2]) ++ List.replicate (3 - (lg_sl ([.int a0, .int a1, .int a2])).length) Slot.unset).toArray = ls at hl ⊢
  have hl : lv_has ls 3 [(0, .int a0), (1, .int a1), (2, .int a2)] := hl
  refine lv_iload_n hx hb d_Ir_isWithin_0 rfl (lv_at hl 0 rfl) ?_
  refine lv_iload_n hx hb d_Ir_isWithin_1 rfl (lv_at hl 1 rfl) ?_
  refine lv_icmp_lt (tgt := 14) hx hb d_Ir_isWithin_2 (by decide) (fun c2 => ?_) (fun c2 => ?_)
  · refine lv_iconst (v := 0) hx hb d_Ir_isWithin_14 (by decide) ?_
    have hv : (0 : Int32) = f_Ir_isWithin a0 a1 a2 := by rw [f_Ir_isWithin, if_pos c2]
    exact W.zret (ty := .boolean) (v := 0) hx hb hr rfl (fun t ht hW => ⟨congrArg (fun z => Outcome.returned (some (Value.int z))) hv, ht⟩) (fun _ h9 => nomatch h9) d_Ir_isWithin_15
  · refine lv_iload_n hx hb d_Ir_isWithin_5 rfl (lv_at hl 0 rfl) ?_
    refine lv_iload_n hx hb d_Ir_isWithin_6 rfl (lv_at hl 2 rfl) ?_
    refine lv_icmp_gt (tgt := 14) hx hb d_Ir_isWithin_7 (by decide) (fun c7 => ?_) (fun c7 => ?_)
    · refine lv_iconst (v := 0) hx hb d_Ir_isWithin_14 (by decide) ?_
      have hv : (0 : Int32) = f_Ir_isWithin a0 a1 a2 := by rw [f_Ir_isWithin, if_neg c2, if_pos c7]
      exact W.zret (ty := .boolean) (v := 0) hx hb hr rfl (fun t ht hW => ⟨congrArg (fun z => Outcome.returned (some (Value.int z))) hv, ht⟩) (fun _ h9 => nomatch h9) d_Ir_isWithin_15
    · refine lv_iconst (v := 1) hx hb d_Ir_isWithin_10 (by decide) ?_
      refine lv_goto (tgt := 15) hx hb d_Ir_isWithin_11 (by decide) ?_
      have hv : (1 : Int32) = f_Ir_isWithin a0 a1 a2 := by rw [f_Ir_isWithin, if_neg c2, if_neg c7]
      exact W.zret (ty := .boolean) (v := 1) hx hb hr rfl (fun t ht hW => ⟨congrArg (fun z => Outcome.returned (some (Value.int z))) hv, ht⟩) (fun _ h9 => nomatch h9) d_Ir_isWithin_15
set_option maxHeartbeats 1000000 in
theorem r_Ir_isWithin {p : Program} {l : Launch} {e : Env} {R : Room} {s : State} {m : MethodId} {args : Array Value} {below : List Frame} {meth : Method} {c : Code} {H : Heap} {locs : List Loc} {cells slots : Nat} {Q : State → Prop} {cc : ByteArray} {nL pc idx : Nat} {ls : Array Slot} {rest : List Value} {a0 : Int32} {a1 : Int32} {a2 : Int32} (hF : CallFix p m c cc nL s args w_all R_Ir) (hlk : Cond.methodLink R_Ir idx y_Ir_isWithin ∈ w_all) (hsz : ls.size = nL) (hR : (rmD 0).frames + 1 ≤ R.frames ∧ 8 + (3 + 11) + (rmD 0).locals ≤ R.locals) (hc : cells ≤ R.cells ∧ slots ≤ R.slots) (hrs : (rest.map fun v => v.category).sum ≤ 8) (hdg : decode cc pc = .ok (.invokestatic idx, 3)) (kk : W p l e R s m args below meth c H locs cells slots Q (F0 m (pc + 3) ls (.int (f_Ir_isWithin a0 a1 a2) :: rest))) : W p l e R s m args below meth c H locs cells slots Q (F0 m pc ls (.int a2 :: .int a1 :: .int a0 :: rest)) :=
  W.callR (W.runS (As := [.int a0, .int a1, .int a2]) (rest := rest) hF (c_Ir_isWithin l a0 a1 a2) (cwS 3 hF.2.2.2.2 (gS hlk m_128 m_129 m_130) rfl rfl rfl (by decide +kernel) hR) preEq rfl rfl hsz rfl (lv_room hrs) hdg hc) kk
theorem d_Ir_isKind_0 : decode b_Ir_isKind 0 = .ok (.iload_n 0, 1) := by decide +kernel
theorem d_Ir_isKind_1 : decode b_Ir_isKind 1 = .ok (.iconst 0, 1) := by decide +kernel
theorem d_Ir_isKind_2 : decode b_Ir_isKind 2 = .ok (.iconst 4, 1) := by decide +kernel
theorem d_Ir_isKind_3 : decode b_Ir_isKind 3 = .ok (.invokestatic 67, 3) := by decide +kernel
theorem d_Ir_isKind_6 : decode b_Ir_isKind 6 = .ok (.ireturn, 1) := by decide +kernel
set_option maxHeartbeats 4000000 in
set_option maxRecDepth 100000 in
theorem c_Ir_isKind (l : Launch) (a0 : Int32) : Met l y_Ir_isKind z_Ir_isKind (rmD 1) (fun v _ => v = ([.int a0] : List Value).toArray) (QcRead (f_Ir_isKind a0)) 0 0 (fun _ => False) := by
  refine Met.ofW (cc := b_Ir_isKind) (maxL := 1) (ret := (some .boolean)) (by decide) rfl ?_
  intro p e s m args below meth c s₁ B hml hv
  obtain rfl := hv
  have hx := B.exec
  have hb := B.bytes
  have hr := B.returns
  have hts : ∀ w ∈ w_all, w.before _ s = true := fun w hw => atoms_spec (ws := z_Ir_isKind) B.pre w (List.mem_cons_of_mem _ hw)
  have hown : s.vm.findClass R_Ir = some m.cls := findClass_of_methodNamed B.named
  have hlocks := B.notSynchronized
  have hF : CallFix p m c b_Ir_isKind 1 s _ w_all R_Ir := ⟨hx, hb, hml, hown, hts⟩
  have hl := lv_entry ([.int a0]) (n := 1) (Nat.le_of_ble_eq_true rfl)
  rw [lg_entry_eq]
  generalize (lg_sl ([.int a0]) ++ List.replicate (1 - (lg_sl ([.int a0])).length) Slot.unset).toArray = ls at hl ⊢
  have hl : lv_has ls 1 [(0, .int a0)] := hl
  refine lv_iload_n hx hb d_Ir_isKind_0 rfl (lv_at hl 0 rfl) ?_
  refine lv_iconst (v := 0) hx hb d_Ir_isKind_1 (by decide) ?_
  refine lv_iconst (v := 4) hx hb d_Ir_isKind_2 (by decide) ?_
  refine r_Ir_isWithin hF m_131 hl.1 ⟨Nat.le_of_ble_eq_true rfl, Nat.le_of_ble_eq_true rfl⟩ ⟨Nat.zero_le _, Nat.zero_le _⟩ (Nat.le_of_ble_eq_true rfl) d_Ir_isKind_3 ?_
  have hv : (f_Ir_isWithin a0 0 4 : Int32) = f_Ir_isKind a0 := by rw [f_Ir_isKind]
  exact W.zret (ty := .boolean) (v := f_Ir_isWithin a0 0 4) hx hb hr (by unfold f_Ir_isWithin; (repeat' split) <;> rfl) (fun t ht hW => ⟨congrArg (fun z => Outcome.returned (some (Value.int z))) hv, ht⟩) (fun _ h9 => nomatch h9) d_Ir_isKind_6
set_option maxHeartbeats 1000000 in
theorem r_Ir_isKind {p : Program} {l : Launch} {e : Env} {R : Room} {s : State} {m : MethodId} {args : Array Value} {below : List Frame} {meth : Method} {c : Code} {H : Heap} {locs : List Loc} {cells slots : Nat} {Q : State → Prop} {cc : ByteArray} {nL pc idx : Nat} {ls : Array Slot} {rest : List Value} {a0 : Int32} (hF : CallFix p m c cc nL s args w_all R_Ir) (hlk : Cond.methodLink R_Ir idx y_Ir_isKind ∈ w_all) (hsz : ls.size = nL) (hR : (rmD 1).frames + 1 ≤ R.frames ∧ 8 + (1 + 11) + (rmD 1).locals ≤ R.locals) (hc : cells ≤ R.cells ∧ slots ≤ R.slots) (hrs : (rest.map fun v => v.category).sum ≤ 8) (hdg : decode cc pc = .ok (.invokestatic idx, 3)) (kk : W p l e R s m args below meth c H locs cells slots Q (F0 m (pc + 3) ls (.int (f_Ir_isKind a0) :: rest))) : W p l e R s m args below meth c H locs cells slots Q (F0 m pc ls (.int a0 :: rest)) :=
  W.callR (W.runS (As := [.int a0]) (rest := rest) hF (c_Ir_isKind l a0) (cwS 1 hF.2.2.2.2 (gS hlk m_132 m_129 m_133) rfl rfl rfl (by decide +kernel) hR) preEq rfl rfl hsz rfl (lv_room hrs) hdg hc) kk
theorem d_Ir_isPoint_0 : decode b_Ir_isPoint 0 = .ok (.iload_n 1, 1) := by decide +kernel
theorem d_Ir_isPoint_1 : decode b_Ir_isPoint 1 = .ok (.ifCond .lt 18, 3) := by decide +kernel
theorem d_Ir_isPoint_4 : decode b_Ir_isPoint 4 = .ok (.iload_n 1, 1) := by decide +kernel
theorem d_Ir_isPoint_5 : decode b_Ir_isPoint 5 = .ok (.aload_n 0, 1) := by decide +kernel
theorem d_Ir_isPoint_6 : decode b_Ir_isPoint 6 = .ok (.getfield 19, 3) := by decide +kernel
theorem d_Ir_isPoint_9 : decode b_Ir_isPoint 9 = .ok (.getfield 87, 3) := by decide +kernel
theorem d_Ir_isPoint_12 : decode b_Ir_isPoint 12 = .ok (.if_icmp .ge 7, 3) := by decide +kernel
theorem d_Ir_isPoint_15 : decode b_Ir_isPoint 15 = .ok (.iconst 1, 1) := by decide +kernel
theorem d_Ir_isPoint_16 : decode b_Ir_isPoint 16 = .ok (.goto 4, 3) := by decide +kernel
theorem d_Ir_isPoint_19 : decode b_Ir_isPoint 19 = .ok (.iconst 0, 1) := by decide +kernel
theorem d_Ir_isPoint_20 : decode b_Ir_isPoint 20 = .ok (.ireturn, 1) := by decide +kernel
set_option maxHeartbeats 4000000 in
set_option maxRecDepth 100000 in
theorem c_Ir_isPoint (l : Launch) (dC : Nat → ClassId) (dI : Nat → Nat → Nat) (L : Nat → Nat) (cA : Nat → ClassId) (ar : Nat → Nat → Int32) (sc : Nat → Int32) (a0 : Int32) : Met l y_Ir_isPoint z_Ir_isPoint (rmD 0) (va_Pc [.ref (L 0), .int a0] (fun U => xw_I dC dI L cA ar sc U)) (QcRead (f_Ir_isPoint ar sc a0)) 0 0 (fun _ => False) := by
  refine Met.ofW (cc := b_Ir_isPoint) (maxL := 2) (ret := (some .boolean)) (by decide) rfl ?_
  intro p e s m args below meth c s₁ B hml hv
  obtain ⟨rfl, ⟨hP, hK⟩⟩ := hv
  have hx := B.exec
  have hb := B.bytes
  have hr := B.returns
  have hts : ∀ w ∈ w_all, w.before _ s = true := fun w hw => atoms_spec (ws := z_Ir_isPoint) B.pre w (List.mem_cons_of_mem _ hw)
  have hown : s.vm.findClass R_Ir = some m.cls := findClass_of_methodNamed B.named
  have hlocks := B.notSynchronized
  have hF : CallFix p m c b_Ir_isPoint 2 s _ w_all R_Ir := ⟨hx, hb, hml, hown, hts⟩
  have hl := lv_entry ([.ref (L 0), .int a0]) (n := 2) (Nat.le_of_ble_eq_true rfl)
  rw [lg_entry_eq]
  generalize (lg_sl ([.ref (L 0), .int a0]) ++ List.replicate (2 - (lg_sl ([.ref (L 0), .int a0])).length) Slot.unset).toArray = ls at hl ⊢
  have hl : lv_has ls 2 [(0, .ref (L 0)), (1, .int a0)] := hl
  refine lv_iload_n hx hb d_Ir_isPoint_0 rfl (lv_at hl 1 rfl) ?_
  refine lv_if_lt (tgt := 19) hx hb d_Ir_isPoint_1 (by decide) (fun c1 => ?_) (fun c1 => ?_)
  · refine lv_iconst (v := 0) hx hb d_Ir_isPoint_19 (by decide) ?_
    have hv : (0 : Int32) = f_Ir_isPoint ar sc a0 := by rw [f_Ir_isPoint, if_pos c1]
    exact W.zret (ty := .boolean) (v := 0) hx hb hr rfl (fun t ht hW => ⟨congrArg (fun z => Outcome.returned (some (Value.int z))) hv, ht⟩) (fun _ h9 => nomatch h9) d_Ir_isPoint_20
  · refine lv_iload_n hx hb d_Ir_isPoint_4 rfl (lv_at hl 1 rfl) ?_
    refine lv_aload_n hx hb d_Ir_isPoint_5 rfl (lv_at hl 0 rfl) ?_
    refine gf_Ir_points hF hK hP m_134 d_Ir_isPoint_6 ?_
    refine gn_Points_count hF hK hP mn_0 d_Ir_isPoint_9 ?_
    refine lv_icmp_ge (tgt := 19) hx hb d_Ir_isPoint_12 (by decide) (fun c12 => ?_) (fun c12 => ?_)
    · refine lv_iconst (v := 0) hx hb d_Ir_isPoint_19 (by decide) ?_
      have hv : (0 : Int32) = f_Ir_isPoint ar sc a0 := by rw [f_Ir_isPoint, if_neg c1, if_pos c12]
      exact W.zret (ty := .boolean) (v := 0) hx hb hr rfl (fun t ht hW => ⟨congrArg (fun z => Outcome.returned (some (Value.int z))) hv, ht⟩) (fun _ h9 => nomatch h9) d_Ir_isPoint_20
    · refine lv_iconst (v := 1) hx hb d_Ir_isPoint_15 (by decide) ?_
      refine lv_goto (tgt := 20) hx hb d_Ir_isPoint_16 (by decide) ?_
      have hv : (1 : Int32) = f_Ir_isPoint ar sc a0 := by rw [f_Ir_isPoint, if_neg c1, if_neg c12]
      exact W.zret (ty := .boolean) (v := 1) hx hb hr rfl (fun t ht hW => ⟨congrArg (fun z => Outcome.returned (some (Value.int z))) hv, ht⟩) (fun _ h9 => nomatch h9) d_Ir_isPoint_20
set_option maxHeartbeats 1000000 in
theorem r_Ir_isPoint {p : Program} {l : Launch} {e : Env} {R : Room} {s : State} {m : MethodId} {args : Array Value} {below : List Frame} {meth : Method} {c : Code} {H : Heap} {locs : List Loc} {cells slots : Nat} {Q : State → Prop} {cc : ByteArray} {nL pc idx : Nat} {ls : Array Slot} {rest : List Value} {own : String} {dC : Nat → ClassId} {dI : Nat → Nat → Nat} {L : Nat → Nat} {cA : Nat → ClassId} {ar : Nat → Nat → Int32} {sc : Nat → Int32} {a0 : Int32} (hF : CallFix p m c cc nL s args w_all own) (hK : kW_I dC dI cA s) (hP : va_P (dC, dI) classes (wI L cA ar sc) H) (hlk : Cond.methodLink own idx y_Ir_isPoint ∈ w_all) (hsz : ls.size = nL) (hR : (rmD 0).frames + 1 ≤ R.frames ∧ 8 + (2 + 11) + (rmD 0).locals ≤ R.locals) (hc : cells ≤ R.cells ∧ slots ≤ R.slots) (hrs : (rest.map fun v => v.category).sum ≤ 8) (hdg : decode cc pc = .ok (.invokevirtual idx, 3)) (kk : W p l e R s m args below meth c H locs cells slots Q (F0 m (pc + 3) ls (.int (f_Ir_isPoint ar sc a0) :: rest))) : W p l e R s m args below meth c H locs cells slots Q (F0 m pc ls (.int a0 :: .ref (L 0) :: rest)) :=
  W.callR (W.runV (As := [.int a0]) (rest := rest) hF (c_Ir_isPoint l dC dI L cA ar sc a0) (cwV 1 hF.2.2.2.2 (gV hlk m_135 m_136 m_129 m_137) rfl rfl rfl (by decide +kernel) hR) ⟨xb_I, va_recv hK.1 hP (ci := 0) (q0 := 0) rfl rfl, fun U hU hW => ⟨rfl, by rw [hU]; exact hP, kW_I_warm hW hK⟩⟩ rfl rfl hsz rfl (lv_room hrs) hdg hc) kk
theorem d_Ir_isFinding_0 : decode b_Ir_isFinding 0 = .ok (.iload_n 1, 1) := by decide +kernel
theorem d_Ir_isFinding_1 : decode b_Ir_isFinding 1 = .ok (.ifCond .lt 18, 3) := by decide +kernel
theorem d_Ir_isFinding_4 : decode b_Ir_isFinding 4 = .ok (.iload_n 1, 1) := by decide +kernel
theorem d_Ir_isFinding_5 : decode b_Ir_isFinding 5 = .ok (.aload_n 0, 1) := by decide +kernel
theorem d_Ir_isFinding_6 : decode b_Ir_isFinding 6 = .ok (.getfield 26, 3) := by decide +kernel
theorem d_Ir_isFinding_9 : decode b_Ir_isFinding 9 = .ok (.getfield 104, 3) := by decide +kernel
theorem d_Ir_isFinding_12 : decode b_Ir_isFinding 12 = .ok (.if_icmp .ge 7, 3) := by decide +kernel
theorem d_Ir_isFinding_15 : decode b_Ir_isFinding 15 = .ok (.iconst 1, 1) := by decide +kernel
theorem d_Ir_isFinding_16 : decode b_Ir_isFinding 16 = .ok (.goto 4, 3) := by decide +kernel
theorem d_Ir_isFinding_19 : decode b_Ir_isFinding 19 = .ok (.iconst 0, 1) := by decide +kernel
theorem d_Ir_isFinding_20 : decode b_Ir_isFinding 20 = .ok (.ireturn, 1) := by decide +kernel
set_option maxHeartbeats 4000000 in
set_option maxRecDepth 100000 in
theorem c_Ir_isFinding (l : Launch) (dC : Nat → ClassId) (dI : Nat → Nat → Nat) (L : Nat → Nat) (cA : Nat → ClassId) (ar : Nat → Nat → Int32) (sc : Nat → Int32) (a0 : Int32) : Met l y_Ir_isFinding z_Ir_isFinding (rmD 0) (va_Pc [.ref (L 0), .int a0] (fun U => xw_I dC dI L cA ar sc U)) (QcRead (f_Ir_isFinding ar sc a0)) 0 0 (fun _ => False) := by
  refine Met.ofW (cc := b_Ir_isFinding) (maxL := 2) (ret := (some .boolean)) (by decide) rfl ?_
  intro p e s m args below meth c s₁ B hml hv
  obtain ⟨rfl, ⟨hP, hK⟩⟩ := hv
  have hx := B.exec
  have hb := B.bytes
  have hr := B.returns
  have hts : ∀ w ∈ w_all, w.before _ s = true := fun w hw => atoms_spec (ws := z_Ir_isFinding) B.pre w (List.mem_cons_of_mem _ hw)
  have hown : s.vm.findClass R_Ir = some m.cls := findClass_of_methodNamed B.named
  have hlocks := B.notSynchronized
  have hF : CallFix p m c b_Ir_isFinding 2 s _ w_all R_Ir := ⟨hx, hb, hml, hown, hts⟩
  have hl := lv_entry ([.ref (L 0), .int a0]) (n := 2) (Nat.le_of_ble_eq_true rfl)
  rw [lg_entry_eq]
  generalize (lg_sl ([.ref (L 0), .int a0]) ++ List.replicate (2 - (lg_sl ([.ref (L 0), .int a0])).length) Slot.unset).toArray = ls at hl ⊢
  have hl : lv_has ls 2 [(0, .ref (L 0)), (1, .int a0)] := hl
  refine lv_iload_n hx hb d_Ir_isFinding_0 rfl (lv_at hl 1 rfl) ?_
  refine lv_if_lt (tgt := 19) hx hb d_Ir_isFinding_1 (by decide) (fun c1 => ?_) (fun c1 => ?_)
  · refine lv_iconst (v := 0) hx hb d_Ir_isFinding_19 (by decide) ?_
    have hv : (0 : Int32) = f_Ir_isFinding ar sc a0 := by rw [f_Ir_isFinding, if_pos c1]
    exact W.zret (ty := .boolean) (v := 0) hx hb hr rfl (fun t ht hW => ⟨congrArg (fun z => Outcome.returned (some (Value.int z))) hv, ht⟩) (fun _ h9 => nomatch h9) d_Ir_isFinding_20
  · refine lv_iload_n hx hb d_Ir_isFinding_4 rfl (lv_at hl 1 rfl) ?_
    refine lv_aload_n hx hb d_Ir_isFinding_5 rfl (lv_at hl 0 rfl) ?_
    refine gf_Ir_findings hF hK hP m_138 d_Ir_isFinding_6 ?_
    refine gn_Findings_count hF hK hP mn_1 d_Ir_isFinding_9 ?_
    refine lv_icmp_ge (tgt := 19) hx hb d_Ir_isFinding_12 (by decide) (fun c12 => ?_) (fun c12 => ?_)
    · refine lv_iconst (v := 0) hx hb d_Ir_isFinding_19 (by decide) ?_
      have hv : (0 : Int32) = f_Ir_isFinding ar sc a0 := by rw [f_Ir_isFinding, if_neg c1, if_pos c12]
      exact W.zret (ty := .boolean) (v := 0) hx hb hr rfl (fun t ht hW => ⟨congrArg (fun z => Outcome.returned (some (Value.int z))) hv, ht⟩) (fun _ h9 => nomatch h9) d_Ir_isFinding_20
    · refine lv_iconst (v := 1) hx hb d_Ir_isFinding_15 (by decide) ?_
      refine lv_goto (tgt := 20) hx hb d_Ir_isFinding_16 (by decide) ?_
      have hv : (1 : Int32) = f_Ir_isFinding ar sc a0 := by rw [f_Ir_isFinding, if_neg c1, if_neg c12]
      exact W.zret (ty := .boolean) (v := 1) hx hb hr rfl (fun t ht hW => ⟨congrArg (fun z => Outcome.returned (some (Value.int z))) hv, ht⟩) (fun _ h9 => nomatch h9) d_Ir_isFinding_20
set_option maxHeartbeats 1000000 in
theorem r_Ir_isFinding {p : Program} {l : Launch} {e : Env} {R : Room} {s : State} {m : MethodId} {args : Array Value} {below : List Frame} {meth : Method} {c : Code} {H : Heap} {locs : List Loc} {cells slots : Nat} {Q : State → Prop} {cc : ByteArray} {nL pc idx : Nat} {ls : Array Slot} {rest : List Value} {own : String} {dC : Nat → ClassId} {dI : Nat → Nat → Nat} {L : Nat → Nat} {cA : Nat → ClassId} {ar : Nat → Nat → Int32} {sc : Nat → Int32} {a0 : Int32} (hF : CallFix p m c cc nL s args w_all own) (hK : kW_I dC dI cA s) (hP : va_P (dC, dI) classes (wI L cA ar sc) H) (hlk : Cond.methodLink own idx y_Ir_isFinding ∈ w_all) (hsz : ls.size = nL) (hR : (rmD 0).frames + 1 ≤ R.frames ∧ 8 + (2 + 11) + (rmD 0).locals ≤ R.locals) (hc : cells ≤ R.cells ∧ slots ≤ R.slots) (hrs : (rest.map fun v => v.category).sum ≤ 8) (hdg : decode cc pc = .ok (.invokevirtual idx, 3)) (kk : W p l e R s m args below meth c H locs cells slots Q (F0 m (pc + 3) ls (.int (f_Ir_isFinding ar sc a0) :: rest))) : W p l e R s m args below meth c H locs cells slots Q (F0 m pc ls (.int a0 :: .ref (L 0) :: rest)) :=
  W.callR (W.runV (As := [.int a0]) (rest := rest) hF (c_Ir_isFinding l dC dI L cA ar sc a0) (cwV 1 hF.2.2.2.2 (gV hlk m_139 m_140 m_129 m_141) rfl rfl rfl (by decide +kernel) hR) ⟨xb_I, va_recv hK.1 hP (ci := 0) (q0 := 0) rfl rfl, fun U hU hW => ⟨rfl, by rw [hU]; exact hP, kW_I_warm hW hK⟩⟩ rfl rfl hsz rfl (lv_room hrs) hdg hc) kk
theorem d_Ir_isSide_0 : decode b_Ir_isSide 0 = .ok (.iload_n 0, 1) := by decide +kernel
theorem d_Ir_isSide_1 : decode b_Ir_isSide 1 = .ok (.ldc 248, 2) := by decide +kernel
theorem d_Ir_isSide_3 : decode b_Ir_isSide 3 = .ok (.if_icmp .lt 18, 3) := by decide +kernel
theorem d_Ir_isSide_6 : decode b_Ir_isSide 6 = .ok (.iload_n 0, 1) := by decide +kernel
theorem d_Ir_isSide_7 : decode b_Ir_isSide 7 = .ok (.iload_n 1, 1) := by decide +kernel
theorem d_Ir_isSide_8 : decode b_Ir_isSide 8 = .ok (.if_icmp .ge 13, 3) := by decide +kernel
theorem d_Ir_isSide_11 : decode b_Ir_isSide 11 = .ok (.iload_n 1, 1) := by decide +kernel
theorem d_Ir_isSide_12 : decode b_Ir_isSide 12 = .ok (.ldc 195, 2) := by decide +kernel
theorem d_Ir_isSide_14 : decode b_Ir_isSide 14 = .ok (.if_icmp .gt 7, 3) := by decide +kernel
theorem d_Ir_isSide_17 : decode b_Ir_isSide 17 = .ok (.iconst 1, 1) := by decide +kernel
theorem d_Ir_isSide_18 : decode b_Ir_isSide 18 = .ok (.goto 4, 3) := by decide +kernel
theorem d_Ir_isSide_21 : decode b_Ir_isSide 21 = .ok (.iconst 0, 1) := by decide +kernel
theorem d_Ir_isSide_22 : decode b_Ir_isSide 22 = .ok (.ireturn, 1) := by decide +kernel
set_option maxHeartbeats 4000000 in
set_option maxRecDepth 100000 in
theorem c_Ir_isSide (l : Launch) (a0 : Int32) (a1 : Int32) : Met l y_Ir_isSide z_Ir_isSide (rmD 0) (fun v _ => v = ([.int a0, .int a1] : List Value).toArray) (QcRead (f_Ir_isSide a0 a1)) 0 0 (fun _ => False) := by
  refine Met.ofW (cc := b_Ir_isSide) (maxL := 2) (ret := (some .boolean)) (by decide) rfl ?_
  intro p e s m args below meth c s₁ B hml hv
  obtain rfl := hv
  have hx := B.exec
  have hb := B.bytes
  have hr := B.returns
  have hts : ∀ w ∈ w_all, w.before _ s = true := fun w hw => atoms_spec (ws := z_Ir_isSide) B.pre w (List.mem_cons_of_mem _ hw)
  have hown : s.vm.findClass R_Ir = some m.cls := findClass_of_methodNamed B.named
  have hlocks := B.notSynchronized
  have hF : CallFix p m c b_Ir_isSide 2 s _ w_all R_Ir := ⟨hx, hb, hml, hown, hts⟩
  have hl := lv_entry ([.int a0, .int a1]) (n := 2) (Nat.le_of_ble_eq_true rfl)
  rw [lg_entry_eq]
  generalize (lg_sl ([.int a0, .int a1]) ++ List.replicate (2 - (lg_sl ([.int a0, .int a1])).length) Slot.unset).toArray = ls at hl ⊢
  have hl : lv_has ls 2 [(0, .int a0), (1, .int a1)] := hl
  refine lv_iload_n hx hb d_Ir_isSide_0 rfl (lv_at hl 0 rfl) ?_
  refine lv_ldc (v := (-10000000)) hx hb hown (hts _ m_142) d_Ir_isSide_1 ?_
  refine lv_icmp_lt (tgt := 21) hx hb d_Ir_isSide_3 (by decide) (fun c3 => ?_) (fun c3 => ?_)
  · refine lv_iconst (v := 0) hx hb d_Ir_isSide_21 (by decide) ?_
    have hv : (0 : Int32) = f_Ir_isSide a0 a1 := by rw [f_Ir_isSide, if_pos c3]
    exact W.zret (ty := .boolean) (v := 0) hx hb hr rfl (fun t ht hW => ⟨congrArg (fun z => Outcome.returned (some (Value.int z))) hv, ht⟩) (fun _ h9 => nomatch h9) d_Ir_isSide_22
  · refine lv_iload_n hx hb d_Ir_isSide_6 rfl (lv_at hl 0 rfl) ?_
    refine lv_iload_n hx hb d_Ir_isSide_7 rfl (lv_at hl 1 rfl) ?_
    refine lv_icmp_ge (tgt := 21) hx hb d_Ir_isSide_8 (by decide) (fun c8 => ?_) (fun c8 => ?_)
    · refine lv_iconst (v := 0) hx hb d_Ir_isSide_21 (by decide) ?_
      have hv : (0 : Int32) = f_Ir_isSide a0 a1 := by rw [f_Ir_isSide, if_neg c3, if_pos c8]
      exact W.zret (ty := .boolean) (v := 0) hx hb hr rfl (fun t ht hW => ⟨congrArg (fun z => Outcome.returned (some (Value.int z))) hv, ht⟩) (fun _ h9 => nomatch h9) d_Ir_isSide_22
    · refine lv_iload_n hx hb d_Ir_isSide_11 rfl (lv_at hl 1 rfl) ?_
      refine lv_ldc (v := 10000000) hx hb hown (hts _ m_143) d_Ir_isSide_12 ?_
      refine lv_icmp_gt (tgt := 21) hx hb d_Ir_isSide_14 (by decide) (fun c14 => ?_) (fun c14 => ?_)
      · refine lv_iconst (v := 0) hx hb d_Ir_isSide_21 (by decide) ?_
        have hv : (0 : Int32) = f_Ir_isSide a0 a1 := by rw [f_Ir_isSide, if_neg c3, if_neg c8, if_pos c14]
        exact W.zret (ty := .boolean) (v := 0) hx hb hr rfl (fun t ht hW => ⟨congrArg (fun z => Outcome.returned (some (Value.int z))) hv, ht⟩) (fun _ h9 => nomatch h9) d_Ir_isSide_22
      · refine lv_iconst (v := 1) hx hb d_Ir_isSide_17 (by decide) ?_
        refine lv_goto (tgt := 22) hx hb d_Ir_isSide_18 (by decide) ?_
        have hv : (1 : Int32) = f_Ir_isSide a0 a1 := by rw [f_Ir_isSide, if_neg c3, if_neg c8, if_neg c14]
        exact W.zret (ty := .boolean) (v := 1) hx hb hr rfl (fun t ht hW => ⟨congrArg (fun z => Outcome.returned (some (Value.int z))) hv, ht⟩) (fun _ h9 => nomatch h9) d_Ir_isSide_22
set_option maxHeartbeats 1000000 in
theorem r_Ir_isSide {p : Program} {l : Launch} {e : Env} {R : Room} {s : State} {m : MethodId} {args : Array Value} {below : List Frame} {meth : Method} {c : Code} {H : Heap} {locs : List Loc} {cells slots : Nat} {Q : State → Prop} {cc : ByteArray} {nL pc idx : Nat} {ls : Array Slot} {rest : List Value} {a0 : Int32} {a1 : Int32} (hF : CallFix p m c cc nL s args w_all R_Ir) (hlk : Cond.methodLink R_Ir idx y_Ir_isSide ∈ w_all) (hsz : ls.size = nL) (hR : (rmD 0).frames + 1 ≤ R.frames ∧ 8 + (2 + 11) + (rmD 0).locals ≤ R.locals) (hc : cells ≤ R.cells ∧ slots ≤ R.slots) (hrs : (rest.map fun v => v.category).sum ≤ 8) (hdg : decode cc pc = .ok (.invokestatic idx, 3)) (kk : W p l e R s m args below meth c H locs cells slots Q (F0 m (pc + 3) ls (.int (f_Ir_isSide a0 a1) :: rest))) : W p l e R s m args below meth c H locs cells slots Q (F0 m pc ls (.int a1 :: .int a0 :: rest)) :=
  W.callR (W.runS (As := [.int a0, .int a1]) (rest := rest) hF (c_Ir_isSide l a0 a1) (cwS 2 hF.2.2.2.2 (gS hlk m_144 m_129 m_145) rfl rfl rfl (by decide +kernel) hR) preEq rfl rfl hsz rfl (lv_room hrs) hdg hc) kk
theorem d_Ir_canLead_0 : decode b_Ir_canLead 0 = .ok (.iload_n 1, 1) := by decide +kernel
theorem d_Ir_canLead_1 : decode b_Ir_canLead 1 = .ok (.iconst (-1), 1) := by decide +kernel
theorem d_Ir_canLead_2 : decode b_Ir_canLead 2 = .ok (.if_icmp .eq 15, 3) := by decide +kernel
theorem d_Ir_canLead_5 : decode b_Ir_canLead 5 = .ok (.iload_n 1, 1) := by decide +kernel
theorem d_Ir_canLead_6 : decode b_Ir_canLead 6 = .ok (.iload_n 0, 1) := by decide +kernel
theorem d_Ir_canLead_7 : decode b_Ir_canLead 7 = .ok (.iconst 1, 1) := by decide +kernel
theorem d_Ir_canLead_8 : decode b_Ir_canLead 8 = .ok (.iadd, 1) := by decide +kernel
theorem d_Ir_canLead_9 : decode b_Ir_canLead 9 = .ok (.bipush 15, 2) := by decide +kernel
theorem d_Ir_canLead_11 : decode b_Ir_canLead 11 = .ok (.invokestatic 67, 3) := by decide +kernel
theorem d_Ir_canLead_14 : decode b_Ir_canLead 14 = .ok (.ifCond .eq 7, 3) := by decide +kernel
theorem d_Ir_canLead_17 : decode b_Ir_canLead 17 = .ok (.iconst 1, 1) := by decide +kernel
theorem d_Ir_canLead_18 : decode b_Ir_canLead 18 = .ok (.goto 4, 3) := by decide +kernel
theorem d_Ir_canLead_21 : decode b_Ir_canLead 21 = .ok (.iconst 0, 1) := by decide +kernel
theorem d_Ir_canLead_22 : decode b_Ir_canLead 22 = .ok (.ireturn, 1) := by decide +kernel
set_option maxHeartbeats 4000000 in
set_option maxRecDepth 100000 in
theorem c_Ir_canLead (l : Launch) (a0 : Int32) (a1 : Int32) : Met l y_Ir_canLead z_Ir_canLead (rmD 1) (fun v _ => v = ([.int a0, .int a1] : List Value).toArray) (QcRead (f_Ir_canLead a0 a1)) 0 0 (fun _ => False) := by
  refine Met.ofW (cc := b_Ir_canLead) (maxL := 2) (ret := (some .boolean)) (by decide) rfl ?_
  intro p e s m args below meth c s₁ B hml hv
  obtain rfl := hv
  have hx := B.exec
  have hb := B.bytes
  have hr := B.returns
  have hts : ∀ w ∈ w_all, w.before _ s = true := fun w hw => atoms_spec (ws := z_Ir_canLead) B.pre w (List.mem_cons_of_mem _ hw)
  have hown : s.vm.findClass R_Ir = some m.cls := findClass_of_methodNamed B.named
  have hlocks := B.notSynchronized
  have hF : CallFix p m c b_Ir_canLead 2 s _ w_all R_Ir := ⟨hx, hb, hml, hown, hts⟩
  have hl := lv_entry ([.int a0, .int a1]) (n := 2) (Nat.le_of_ble_eq_true rfl)
  rw [lg_entry_eq]
  generalize (lg_sl ([.int a0, .int a1]) ++ List.replicate (2 - (lg_sl ([.int a0, .int a1])).length) Slot.unset).toArray = ls at hl ⊢
  have hl : lv_has ls 2 [(0, .int a0), (1, .int a1)] := hl
  refine lv_iload_n hx hb d_Ir_canLead_0 rfl (lv_at hl 1 rfl) ?_
  refine lv_iconst (v := (-1)) hx hb d_Ir_canLead_1 (by decide) ?_
  refine lv_icmp_eq (tgt := 17) hx hb d_Ir_canLead_2 (by decide) (fun c2 => ?_) (fun c2 => ?_)
  · refine lv_iconst (v := 1) hx hb d_Ir_canLead_17 (by decide) ?_
    refine lv_goto (tgt := 22) hx hb d_Ir_canLead_18 (by decide) ?_
    have hv : (1 : Int32) = f_Ir_canLead a0 a1 := by rw [f_Ir_canLead, if_pos c2]
    exact W.zret (ty := .boolean) (v := 1) hx hb hr rfl (fun t ht hW => ⟨congrArg (fun z => Outcome.returned (some (Value.int z))) hv, ht⟩) (fun _ h9 => nomatch h9) d_Ir_canLead_22
  · refine lv_iload_n hx hb d_Ir_canLead_5 rfl (lv_at hl 1 rfl) ?_
    refine lv_iload_n hx hb d_Ir_canLead_6 rfl (lv_at hl 0 rfl) ?_
    refine lv_iconst (v := 1) hx hb d_Ir_canLead_7 (by decide) ?_
    refine lv_iadd hx hb d_Ir_canLead_8 ?_
    refine lv_bipush (v := 15) hx hb d_Ir_canLead_9 (by decide) ?_
    refine r_Ir_isWithin hF m_131 hl.1 ⟨Nat.le_of_ble_eq_true rfl, Nat.le_of_ble_eq_true rfl⟩ ⟨Nat.zero_le _, Nat.zero_le _⟩ (Nat.le_of_ble_eq_true rfl) d_Ir_canLead_11 ?_
    refine lv_if_eq (tgt := 21) hx hb d_Ir_canLead_14 (by decide) (fun c14 => ?_) (fun c14 => ?_)
    · refine lv_iconst (v := 0) hx hb d_Ir_canLead_21 (by decide) ?_
      have hv : (0 : Int32) = f_Ir_canLead a0 a1 := by rw [f_Ir_canLead, if_neg c2, if_pos c14]
      exact W.zret (ty := .boolean) (v := 0) hx hb hr rfl (fun t ht hW => ⟨congrArg (fun z => Outcome.returned (some (Value.int z))) hv, ht⟩) (fun _ h9 => nomatch h9) d_Ir_canLead_22
    · refine lv_iconst (v := 1) hx hb d_Ir_canLead_17 (by decide) ?_
      refine lv_goto (tgt := 22) hx hb d_Ir_canLead_18 (by decide) ?_
      have hv : (1 : Int32) = f_Ir_canLead a0 a1 := by rw [f_Ir_canLead, if_neg c2, if_neg c14]
      exact W.zret (ty := .boolean) (v := 1) hx hb hr rfl (fun t ht hW => ⟨congrArg (fun z => Outcome.returned (some (Value.int z))) hv, ht⟩) (fun _ h9 => nomatch h9) d_Ir_canLead_22
set_option maxHeartbeats 1000000 in
theorem r_Ir_canLead {p : Program} {l : Launch} {e : Env} {R : Room} {s : State} {m : MethodId} {args : Array Value} {below : List Frame} {meth : Method} {c : Code} {H : Heap} {locs : List Loc} {cells slots : Nat} {Q : State → Prop} {cc : ByteArray} {nL pc idx : Nat} {ls : Array Slot} {rest : List Value} {a0 : Int32} {a1 : Int32} (hF : CallFix p m c cc nL s args w_all R_Ir) (hlk : Cond.methodLink R_Ir idx y_Ir_canLead ∈ w_all) (hsz : ls.size = nL) (hR : (rmD 1).frames + 1 ≤ R.frames ∧ 8 + (2 + 11) + (rmD 1).locals ≤ R.locals) (hc : cells ≤ R.cells ∧ slots ≤ R.slots) (hrs : (rest.map fun v => v.category).sum ≤ 8) (hdg : decode cc pc = .ok (.invokestatic idx, 3)) (kk : W p l e R s m args below meth c H locs cells slots Q (F0 m (pc + 3) ls (.int (f_Ir_canLead a0 a1) :: rest))) : W p l e R s m args below meth c H locs cells slots Q (F0 m pc ls (.int a1 :: .int a0 :: rest)) :=
  W.callR (W.runS (As := [.int a0, .int a1]) (rest := rest) hF (c_Ir_canLead l a0 a1) (cwS 2 hF.2.2.2.2 (gS hlk m_146 m_129 m_147) rfl rfl rfl (by decide +kernel) hR) preEq rfl rfl hsz rfl (lv_room hrs) hdg hc) kk
theorem d_Ir_toldPoint_0 : decode b_Ir_toldPoint 0 = .ok (.lload_n 0, 1) := by decide +kernel
theorem d_Ir_toldPoint_1 : decode b_Ir_toldPoint 1 = .ok (.iconst 5, 1) := by decide +kernel
theorem d_Ir_toldPoint_2 : decode b_Ir_toldPoint 2 = .ok (.iload_n 2, 1) := by decide +kernel
theorem d_Ir_toldPoint_3 : decode b_Ir_toldPoint 3 = .ok (.imul, 1) := by decide +kernel
theorem d_Ir_toldPoint_4 : decode b_Ir_toldPoint 4 = .ok (.lushr, 1) := by decide +kernel
theorem d_Ir_toldPoint_5 : decode b_Ir_toldPoint 5 = .ok (.l2i, 1) := by decide +kernel
theorem d_Ir_toldPoint_6 : decode b_Ir_toldPoint 6 = .ok (.bipush 31, 2) := by decide +kernel
theorem d_Ir_toldPoint_8 : decode b_Ir_toldPoint 8 = .ok (.iand, 1) := by decide +kernel
theorem d_Ir_toldPoint_9 : decode b_Ir_toldPoint 9 = .ok (.ireturn, 1) := by decide +kernel
set_option maxHeartbeats 4000000 in
set_option maxRecDepth 100000 in
theorem c_Ir_toldPoint (l : Launch) (a0 : Int64) (a1 : Int32) : Met l y_Ir_toldPoint z_Ir_toldPoint (rmD 0) (fun v _ => v = ([.long a0, .int a1] : List Value).toArray) (QcRead (f_Ir_toldPoint a0 a1)) 0 0 (fun _ => False) := by
  refine Met.ofW (cc := b_Ir_toldPoint) (maxL := 3) (ret := (some .int)) (by decide) rfl ?_
  intro p e s m args below meth c s₁ B hml hv
  obtain rfl := hv
  have hx := B.exec
  have hb := B.bytes
  have hr := B.returns
  have hts : ∀ w ∈ w_all, w.before _ s = true := fun w hw => atoms_spec (ws := z_Ir_toldPoint) B.pre w (List.mem_cons_of_mem _ hw)
  have hown : s.vm.findClass R_Ir = some m.cls := findClass_of_methodNamed B.named
  have hlocks := B.notSynchronized
  have hF : CallFix p m c b_Ir_toldPoint 3 s _ w_all R_Ir := ⟨hx, hb, hml, hown, hts⟩
  have hl := lv_entry ([.long a0, .int a1]) (n := 3) (Nat.le_of_ble_eq_true rfl)
  rw [lg_entry_eq]
  generalize (lg_sl ([.long a0, .int a1]) ++ List.replicate (3 - (lg_sl ([.long a0, .int a1])).length) Slot.unset).toArray = ls at hl ⊢
  have hl : lv_has ls 3 [(0, .long a0), (2, .int a1)] := hl
  refine lv_lload_n hx hb d_Ir_toldPoint_0 rfl (lv_at hl 0 rfl) ?_
  refine lv_iconst (v := 5) hx hb d_Ir_toldPoint_1 (by decide) ?_
  refine lv_iload_n hx hb d_Ir_toldPoint_2 rfl (lv_at hl 1 rfl) ?_
  refine lv_imul hx hb d_Ir_toldPoint_3 ?_
  refine lv_lushr hx hb d_Ir_toldPoint_4 rfl ?_
  refine lv_l2i hx hb d_Ir_toldPoint_5 rfl ?_
  refine lv_bipush (v := 31) hx hb d_Ir_toldPoint_6 (by decide) ?_
  refine lv_iand hx hb d_Ir_toldPoint_8 ?_
  have hv : ((((a0.toUInt64 >>> ((5 * a1).toInt64.toUInt64 &&& Int64.toUInt64 63)).toInt64).toInt32) &&& 31 : Int32) = f_Ir_toldPoint a0 a1 := by rw [f_Ir_toldPoint]
  exact W.iret (v := (((a0.toUInt64 >>> ((5 * a1).toInt64.toUInt64 &&& Int64.toUInt64 63)).toInt64).toInt32) &&& 31) hx hb hr (fun t ht hW => ⟨congrArg (fun z => Outcome.returned (some (Value.int z))) hv, ht⟩) (fun _ h9 => nomatch h9) d_Ir_toldPoint_9
set_option maxHeartbeats 1000000 in
theorem r_Ir_toldPoint {p : Program} {l : Launch} {e : Env} {R : Room} {s : State} {m : MethodId} {args : Array Value} {below : List Frame} {meth : Method} {c : Code} {H : Heap} {locs : List Loc} {cells slots : Nat} {Q : State → Prop} {cc : ByteArray} {nL pc idx : Nat} {ls : Array Slot} {rest : List Value} {a0 : Int64} {a1 : Int32} (hF : CallFix p m c cc nL s args w_all R_Ir) (hlk : Cond.methodLink R_Ir idx y_Ir_toldPoint ∈ w_all) (hsz : ls.size = nL) (hR : (rmD 0).frames + 1 ≤ R.frames ∧ 8 + (3 + 11) + (rmD 0).locals ≤ R.locals) (hc : cells ≤ R.cells ∧ slots ≤ R.slots) (hrs : (rest.map fun v => v.category).sum ≤ 8) (hdg : decode cc pc = .ok (.invokestatic idx, 3)) (kk : W p l e R s m args below meth c H locs cells slots Q (F0 m (pc + 3) ls (.int (f_Ir_toldPoint a0 a1) :: rest))) : W p l e R s m args below meth c H locs cells slots Q (F0 m pc ls (.int a1 :: .long a0 :: rest)) :=
  W.callR (W.runS (As := [.long a0, .int a1]) (rest := rest) hF (c_Ir_toldPoint l a0 a1) (cwS 2 hF.2.2.2.2 (gS hlk m_148 m_129 m_149) rfl rfl rfl (by decide +kernel) hR) preEq rfl rfl hsz rfl (lv_room hrs) hdg hc) kk
theorem d_Ir_areAllPoints_0 : decode b_Ir_areAllPoints 0 = .ok (.iconst 0, 1) := by decide +kernel
theorem d_Ir_areAllPoints_1 : decode b_Ir_areAllPoints 1 = .ok (.istore 4, 2) := by decide +kernel
theorem d_Ir_areAllPoints_3 : decode b_Ir_areAllPoints 3 = .ok (.iload 4, 2) := by decide +kernel
theorem d_Ir_areAllPoints_5 : decode b_Ir_areAllPoints 5 = .ok (.iload_n 3, 1) := by decide +kernel
theorem d_Ir_areAllPoints_6 : decode b_Ir_areAllPoints 6 = .ok (.if_icmp .ge 24, 3) := by decide +kernel
theorem d_Ir_areAllPoints_9 : decode b_Ir_areAllPoints 9 = .ok (.aload_n 0, 1) := by decide +kernel
theorem d_Ir_areAllPoints_10 : decode b_Ir_areAllPoints 10 = .ok (.lload_n 1, 1) := by decide +kernel
theorem d_Ir_areAllPoints_11 : decode b_Ir_areAllPoints 11 = .ok (.iload 4, 2) := by decide +kernel
theorem d_Ir_areAllPoints_13 : decode b_Ir_areAllPoints 13 = .ok (.invokestatic 177, 3) := by decide +kernel
theorem d_Ir_areAllPoints_16 : decode b_Ir_areAllPoints 16 = .ok (.invokevirtual 98, 3) := by decide +kernel
theorem d_Ir_areAllPoints_19 : decode b_Ir_areAllPoints 19 = .ok (.ifCond .ne 5, 3) := by decide +kernel
theorem d_Ir_areAllPoints_22 : decode b_Ir_areAllPoints 22 = .ok (.iconst 0, 1) := by decide +kernel
theorem d_Ir_areAllPoints_23 : decode b_Ir_areAllPoints 23 = .ok (.ireturn, 1) := by decide +kernel
theorem d_Ir_areAllPoints_24 : decode b_Ir_areAllPoints 24 = .ok (.iinc 4 1, 3) := by decide +kernel
theorem d_Ir_areAllPoints_27 : decode b_Ir_areAllPoints 27 = .ok (.goto (-24), 3) := by decide +kernel
theorem d_Ir_areAllPoints_30 : decode b_Ir_areAllPoints 30 = .ok (.iconst 1, 1) := by decide +kernel
theorem d_Ir_areAllPoints_31 : decode b_Ir_areAllPoints 31 = .ok (.ireturn, 1) := by decide +kernel
set_option maxHeartbeats 4000000 in
set_option maxRecDepth 100000 in
theorem l_Ir_areAllPoints_3 {p : Program} {l : Launch} {e : Env} {s : State} {m : MethodId} {args : Array Value} {below : List Frame} {meth : Method} {c : Code} {dC : Nat → ClassId} {dI : Nat → Nat → Nat} {L : Nat → Nat} {cA : Nat → ClassId} {ar : Nat → Nat → Int32} {sc : Nat → Int32} (a0 : Int64) (a1 : Int32)  (hF : CallFix p m c b_Ir_areAllPoints 5 s args w_all R_Ir) (hK : kW_I dC dI cA s) (hP : va_P (dC, dI) classes (wI L cA ar sc) s.heap) (hr : meth.sig.returnType = (some .boolean)) (hlocks : meth.locks = false) : ∀ (n : Nat) (v4 : Int32), q_Ir_areAllPoints_3 ar sc a0 a1 n v4 → ∀ (ls : Array Slot), lv_has ls 5 [(4, .int v4), (0, .ref (L 0)), (1, .long a0), (3, .int a1)] → W p l e (rmD 1) s m args below meth c s.heap [] 0 0 (MQ below (QcRead (g_Ir_areAllPoints_3 ar sc a0 a1 n v4)) args s 0 0 (fun _ => False)) (F0 m 3 ls []) := by
  have hx := hF.1
  have hb := hF.2.1
  have hown := hF.2.2.2.1
  have hts := hF.2.2.2.2
  intro n
  induction n with
  | zero => intro v4 h; exact False.elim h
  | succ n ih =>
    intro v4 h ls hl
    rw [q_Ir_areAllPoints_3] at h
    refine lv_iload hx hb d_Ir_areAllPoints_3 (lv_at hl 0 rfl) ?_
    refine lv_iload_n hx hb d_Ir_areAllPoints_5 rfl (lv_at hl 3 rfl) ?_
    refine lv_icmp_ge (tgt := 30) hx hb d_Ir_areAllPoints_6 (by decide) (fun c6 => ?_) (fun c6 => ?_)
    · have h := h.1 c6
      refine lv_iconst (v := 1) hx hb d_Ir_areAllPoints_30 (by decide) ?_
      have hv : (1 : Int32) = g_Ir_areAllPoints_3 ar sc a0 a1 (n + 1) v4 := by rw [g_Ir_areAllPoints_3, if_pos c6]
      exact W.zret (ty := .boolean) (v := 1) hx hb hr rfl (fun t ht hW => ⟨congrArg (fun z => Outcome.returned (some (Value.int z))) hv, ht⟩) (fun _ h9 => nomatch h9) d_Ir_areAllPoints_31
    · have h := h.2 c6
      refine lv_aload_n hx hb d_Ir_areAllPoints_9 rfl (lv_at hl 1 rfl) ?_
      refine lv_lload_n hx hb d_Ir_areAllPoints_10 rfl (lv_at hl 2 rfl) ?_
      refine lv_iload hx hb d_Ir_areAllPoints_11 (lv_at hl 0 rfl) ?_
      refine r_Ir_toldPoint hF m_150 hl.1 ⟨Nat.le_of_ble_eq_true rfl, Nat.le_of_ble_eq_true rfl⟩ ⟨Nat.zero_le _, Nat.zero_le _⟩ (Nat.le_of_ble_eq_true rfl) d_Ir_areAllPoints_13 ?_
      refine r_Ir_isPoint hF hK hP m_151 hl.1 ⟨Nat.le_of_ble_eq_true rfl, Nat.le_of_ble_eq_true rfl⟩ ⟨Nat.zero_le _, Nat.zero_le _⟩ (Nat.le_of_ble_eq_true rfl) d_Ir_areAllPoints_16 ?_
      refine lv_if_ne (tgt := 24) hx hb d_Ir_areAllPoints_19 (by decide) (fun c19 => ?_) (fun c19 => ?_)
      · have h := h.2 c19
        refine lv_iinc (v := v4 + 1) (lv' := [(4, .int (v4 + 1)), (0, .ref (L 0)), (1, .long a0), (3, .int a1)]) hx hb d_Ir_areAllPoints_24 hl (k := 0) rfl rfl (by decide) rfl (fun ls hl => ?_)
        refine lv_goto (tgt := 3) hx hb d_Ir_areAllPoints_27 (by decide) ?_
        have hv : g_Ir_areAllPoints_3 ar sc a0 a1 (n + 1) v4 = g_Ir_areAllPoints_3 ar sc a0 a1 n (v4 + 1) := by rw [g_Ir_areAllPoints_3, if_neg c6, if_neg c19]
        rw [hv]
        exact ih (v4 + 1) h ls (lv_sub hl [0, 1, 2, 3] rfl)
      · have h := h.1 c19
        refine lv_iconst (v := 0) hx hb d_Ir_areAllPoints_22 (by decide) ?_
        have hv : (0 : Int32) = g_Ir_areAllPoints_3 ar sc a0 a1 (n + 1) v4 := by rw [g_Ir_areAllPoints_3, if_neg c6, if_pos c19]
        exact W.zret (ty := .boolean) (v := 0) hx hb hr rfl (fun t ht hW => ⟨congrArg (fun z => Outcome.returned (some (Value.int z))) hv, ht⟩) (fun _ h9 => nomatch h9) d_Ir_areAllPoints_23
set_option maxHeartbeats 4000000 in
set_option maxRecDepth 100000 in
theorem c_Ir_areAllPoints (l : Launch) (dC : Nat → ClassId) (dI : Nat → Nat → Nat) (L : Nat → Nat) (cA : Nat → ClassId) (ar : Nat → Nat → Int32) (sc : Nat → Int32) (a0 : Int64) (a1 : Int32) (h : p_Ir_areAllPoints ar sc a0 a1) : Met l y_Ir_areAllPoints z_Ir_areAllPoints (rmD 1) (va_Pc [.ref (L 0), .long a0, .int a1] (fun U => xw_I dC dI L cA ar sc U)) (QcRead (f_Ir_areAllPoints ar sc a0 a1)) 0 0 (fun _ => False) := by
  refine Met.ofW (cc := b_Ir_areAllPoints) (maxL := 5) (ret := (some .boolean)) (by decide) rfl ?_
  intro p e s m args below meth c s₁ B hml hv
  obtain ⟨rfl, ⟨hP, hK⟩⟩ := hv
  have hx := B.exec
  have hb := B.bytes
  have hr := B.returns
  have hts : ∀ w ∈ w_all, w.before _ s = true := fun w hw => atoms_spec (ws := z_Ir_areAllPoints) B.pre w (List.mem_cons_of_mem _ hw)
  have hown : s.vm.findClass R_Ir = some m.cls := findClass_of_methodNamed B.named
  have hlocks := B.notSynchronized
  have hF : CallFix p m c b_Ir_areAllPoints 5 s _ w_all R_Ir := ⟨hx, hb, hml, hown, hts⟩
  have hl := lv_entry ([.ref (L 0), .long a0, .int a1]) (n := 5) (Nat.le_of_ble_eq_true rfl)
  rw [lg_entry_eq]
  generalize (lg_sl ([.ref (L 0), .long a0, .int a1]) ++ List.replicate (5 - (lg_sl ([.ref (L 0), .long a0, .int a1])).length) Slot.unset).toArray = ls at hl ⊢
  have hl : lv_has ls 5 [(0, .ref (L 0)), (1, .long a0), (3, .int a1)] := hl
  unfold p_Ir_areAllPoints at h
  refine lv_iconst (v := 0) hx hb d_Ir_areAllPoints_0 (by decide) ?_
  refine lv_istore (lv' := [(4, .int 0), (0, .ref (L 0)), (1, .long a0), (3, .int a1)]) hx hb d_Ir_areAllPoints_1 hl (by decide) rfl (fun ls hl => ?_)
  have kL3 := h
  have hv : f_Ir_areAllPoints ar sc a0 a1 = g_Ir_areAllPoints_3 ar sc a0 a1 200 0 := by rw [f_Ir_areAllPoints]
  rw [hv]
  exact l_Ir_areAllPoints_3 a0 a1 hF hK hP hr hlocks 200 0 kL3 ls (lv_sub hl [0, 1, 2, 3] rfl)
set_option maxHeartbeats 1000000 in
theorem r_Ir_areAllPoints {p : Program} {l : Launch} {e : Env} {R : Room} {s : State} {m : MethodId} {args : Array Value} {below : List Frame} {meth : Method} {c : Code} {H : Heap} {locs : List Loc} {cells slots : Nat} {Q : State → Prop} {cc : ByteArray} {nL pc idx : Nat} {ls : Array Slot} {rest : List Value} {own : String} {dC : Nat → ClassId} {dI : Nat → Nat → Nat} {L : Nat → Nat} {cA : Nat → ClassId} {ar : Nat → Nat → Int32} {sc : Nat → Int32} {a0 : Int64} {a1 : Int32} (hF : CallFix p m c cc nL s args w_all own) (hK : kW_I dC dI cA s) (hP : va_P (dC, dI) classes (wI L cA ar sc) H) (h : p_Ir_areAllPoints ar sc a0 a1) (hlk : Cond.methodLink own idx y_Ir_areAllPoints ∈ w_all) (hsz : ls.size = nL) (hR : (rmD 1).frames + 1 ≤ R.frames ∧ 8 + (5 + 11) + (rmD 1).locals ≤ R.locals) (hc : cells ≤ R.cells ∧ slots ≤ R.slots) (hrs : (rest.map fun v => v.category).sum ≤ 8) (hdg : decode cc pc = .ok (.invokevirtual idx, 3)) (kk : W p l e R s m args below meth c H locs cells slots Q (F0 m (pc + 3) ls (.int (f_Ir_areAllPoints ar sc a0 a1) :: rest))) : W p l e R s m args below meth c H locs cells slots Q (F0 m pc ls (.int a1 :: .long a0 :: .ref (L 0) :: rest)) :=
  W.callR (W.runV (As := [.long a0, .int a1]) (rest := rest) hF (c_Ir_areAllPoints l dC dI L cA ar sc a0 a1 h) (cwV 2 hF.2.2.2.2 (gV hlk m_152 m_153 m_129 m_154) rfl rfl rfl (by decide +kernel) hR) ⟨xb_I, va_recv hK.1 hP (ci := 0) (q0 := 0) rfl rfl, fun U hU hW => ⟨rfl, by rw [hU]; exact hP, kW_I_warm hW hK⟩⟩ rfl rfl hsz rfl (lv_room hrs) hdg hc) kk
theorem d_Ir_areAllDifferent_0 : decode b_Ir_areAllDifferent 0 = .ok (.iconst 0, 1) := by decide +kernel
theorem d_Ir_areAllDifferent_1 : decode b_Ir_areAllDifferent 1 = .ok (.istore_n 3, 1) := by decide +kernel
theorem d_Ir_areAllDifferent_2 : decode b_Ir_areAllDifferent 2 = .ok (.iconst 0, 1) := by decide +kernel
theorem d_Ir_areAllDifferent_3 : decode b_Ir_areAllDifferent 3 = .ok (.istore 4, 2) := by decide +kernel
theorem d_Ir_areAllDifferent_5 : decode b_Ir_areAllDifferent 5 = .ok (.iload 4, 2) := by decide +kernel
theorem d_Ir_areAllDifferent_7 : decode b_Ir_areAllDifferent 7 = .ok (.iload_n 2, 1) := by decide +kernel
theorem d_Ir_areAllDifferent_8 : decode b_Ir_areAllDifferent 8 = .ok (.if_icmp .ge 33, 3) := by decide +kernel
theorem d_Ir_areAllDifferent_11 : decode b_Ir_areAllDifferent 11 = .ok (.iconst 1, 1) := by decide +kernel
theorem d_Ir_areAllDifferent_12 : decode b_Ir_areAllDifferent 12 = .ok (.lload_n 0, 1) := by decide +kernel
theorem d_Ir_areAllDifferent_13 : decode b_Ir_areAllDifferent 13 = .ok (.iload 4, 2) := by decide +kernel
theorem d_Ir_areAllDifferent_15 : decode b_Ir_areAllDifferent 15 = .ok (.invokestatic 177, 3) := by decide +kernel
theorem d_Ir_areAllDifferent_18 : decode b_Ir_areAllDifferent 18 = .ok (.ishl, 1) := by decide +kernel
theorem d_Ir_areAllDifferent_19 : decode b_Ir_areAllDifferent 19 = .ok (.istore 5, 2) := by decide +kernel
theorem d_Ir_areAllDifferent_21 : decode b_Ir_areAllDifferent 21 = .ok (.iload_n 3, 1) := by decide +kernel
theorem d_Ir_areAllDifferent_22 : decode b_Ir_areAllDifferent 22 = .ok (.iload 5, 2) := by decide +kernel
theorem d_Ir_areAllDifferent_24 : decode b_Ir_areAllDifferent 24 = .ok (.iand, 1) := by decide +kernel
theorem d_Ir_areAllDifferent_25 : decode b_Ir_areAllDifferent 25 = .ok (.ifCond .eq 5, 3) := by decide +kernel
theorem d_Ir_areAllDifferent_28 : decode b_Ir_areAllDifferent 28 = .ok (.iconst 0, 1) := by decide +kernel
theorem d_Ir_areAllDifferent_29 : decode b_Ir_areAllDifferent 29 = .ok (.ireturn, 1) := by decide +kernel
theorem d_Ir_areAllDifferent_30 : decode b_Ir_areAllDifferent 30 = .ok (.iload_n 3, 1) := by decide +kernel
theorem d_Ir_areAllDifferent_31 : decode b_Ir_areAllDifferent 31 = .ok (.iload 5, 2) := by decide +kernel
theorem d_Ir_areAllDifferent_33 : decode b_Ir_areAllDifferent 33 = .ok (.ior, 1) := by decide +kernel
theorem d_Ir_areAllDifferent_34 : decode b_Ir_areAllDifferent 34 = .ok (.istore_n 3, 1) := by decide +kernel
theorem d_Ir_areAllDifferent_35 : decode b_Ir_areAllDifferent 35 = .ok (.iinc 4 1, 3) := by decide +kernel
theorem d_Ir_areAllDifferent_38 : decode b_Ir_areAllDifferent 38 = .ok (.goto (-33), 3) := by decide +kernel
theorem d_Ir_areAllDifferent_41 : decode b_Ir_areAllDifferent 41 = .ok (.iconst 1, 1) := by decide +kernel
theorem d_Ir_areAllDifferent_42 : decode b_Ir_areAllDifferent 42 = .ok (.ireturn, 1) := by decide +kernel
set_option maxHeartbeats 4000000 in
set_option maxRecDepth 100000 in
theorem l_Ir_areAllDifferent_5 {p : Program} {l : Launch} {e : Env} {s : State} {m : MethodId} {args : Array Value} {below : List Frame} {meth : Method} {c : Code} (a0 : Int64) (a1 : Int32)  (hF : CallFix p m c b_Ir_areAllDifferent 6 s args w_all R_Ir) (hr : meth.sig.returnType = (some .boolean)) (hlocks : meth.locks = false) : ∀ (n : Nat) (v3 : Int32) (v4 : Int32), q_Ir_areAllDifferent_5 a0 a1 n v3 v4 → ∀ (ls : Array Slot), lv_has ls 6 [(3, .int v3), (4, .int v4), (0, .long a0), (2, .int a1)] → W p l e (rmD 1) s m args below meth c s.heap [] 0 0 (MQ below (QcRead (g_Ir_areAllDifferent_5 a0 a1 n v3 v4)) args s 0 0 (fun _ => False)) (F0 m 5 ls []) := by
  have hx := hF.1
  have hb := hF.2.1
  have hown := hF.2.2.2.1
  have hts := hF.2.2.2.2
  intro n
  induction n with
  | zero => intro v3 v4 h; exact False.elim h
  | succ n ih =>
    intro v3 v4 h ls hl
    rw [q_Ir_areAllDifferent_5] at h
    refine lv_iload hx hb d_Ir_areAllDifferent_5 (lv_at hl 1 rfl) ?_
    refine lv_iload_n hx hb d_Ir_areAllDifferent_7 rfl (lv_at hl 3 rfl) ?_
    refine lv_icmp_ge (tgt := 41) hx hb d_Ir_areAllDifferent_8 (by decide) (fun c8 => ?_) (fun c8 => ?_)
    · have h := h.1 c8
      refine lv_iconst (v := 1) hx hb d_Ir_areAllDifferent_41 (by decide) ?_
      have hv : (1 : Int32) = g_Ir_areAllDifferent_5 a0 a1 (n + 1) v3 v4 := by rw [g_Ir_areAllDifferent_5, if_pos c8]
      exact W.zret (ty := .boolean) (v := 1) hx hb hr rfl (fun t ht hW => ⟨congrArg (fun z => Outcome.returned (some (Value.int z))) hv, ht⟩) (fun _ h9 => nomatch h9) d_Ir_areAllDifferent_42
    · have h := h.2 c8
      refine lv_iconst (v := 1) hx hb d_Ir_areAllDifferent_11 (by decide) ?_
      refine lv_lload_n hx hb d_Ir_areAllDifferent_12 rfl (lv_at hl 2 rfl) ?_
      refine lv_iload hx hb d_Ir_areAllDifferent_13 (lv_at hl 1 rfl) ?_
      refine r_Ir_toldPoint hF m_150 hl.1 ⟨Nat.le_of_ble_eq_true rfl, Nat.le_of_ble_eq_true rfl⟩ ⟨Nat.zero_le _, Nat.zero_le _⟩ (Nat.le_of_ble_eq_true rfl) d_Ir_areAllDifferent_15 ?_
      refine lv_ishl hx hb d_Ir_areAllDifferent_18 ?_
      refine lv_istore (lv' := [(5, .int ((1 : Int32) <<< ((f_Ir_toldPoint a0 v4) &&& 31))), (3, .int v3), (4, .int v4), (0, .long a0), (2, .int a1)]) hx hb d_Ir_areAllDifferent_19 hl (by decide) rfl (fun ls hl => ?_)
      refine lv_iload_n hx hb d_Ir_areAllDifferent_21 rfl (lv_at hl 1 rfl) ?_
      refine lv_iload hx hb d_Ir_areAllDifferent_22 (lv_at hl 0 rfl) ?_
      refine lv_iand hx hb d_Ir_areAllDifferent_24 ?_
      refine lv_if_eq (tgt := 30) hx hb d_Ir_areAllDifferent_25 (by decide) (fun c25 => ?_) (fun c25 => ?_)
      · have h := h.1 c25
        refine lv_iload_n hx hb d_Ir_areAllDifferent_30 rfl (lv_at hl 1 rfl) ?_
        refine lv_iload hx hb d_Ir_areAllDifferent_31 (lv_at hl 0 rfl) ?_
        refine lv_ior hx hb d_Ir_areAllDifferent_33 ?_
        refine lv_istore_n (lv' := [(3, .int (v3 ||| ((1 : Int32) <<< ((f_Ir_toldPoint a0 v4) &&& 31)))), (5, .int ((1 : Int32) <<< ((f_Ir_toldPoint a0 v4) &&& 31))), (4, .int v4), (0, .long a0), (2, .int a1)]) hx hb d_Ir_areAllDifferent_34 rfl hl (by decide) rfl (fun ls hl => ?_)
        refine lv_iinc (v := v4 + 1) (lv' := [(4, .int (v4 + 1)), (3, .int (v3 ||| ((1 : Int32) <<< ((f_Ir_toldPoint a0 v4) &&& 31)))), (5, .int ((1 : Int32) <<< ((f_Ir_toldPoint a0 v4) &&& 31))), (0, .long a0), (2, .int a1)]) hx hb d_Ir_areAllDifferent_35 hl (k := 2) rfl rfl (by decide) rfl (fun ls hl => ?_)
        refine lv_goto (tgt := 5) hx hb d_Ir_areAllDifferent_38 (by decide) ?_
        have hv : g_Ir_areAllDifferent_5 a0 a1 (n + 1) v3 v4 = g_Ir_areAllDifferent_5 a0 a1 n (v3 ||| ((1 : Int32) <<< ((f_Ir_toldPoint a0 v4) &&& 31))) (v4 + 1) := by rw [g_Ir_areAllDifferent_5, if_neg c8, if_pos c25]
        rw [hv]
        exact ih (v3 ||| ((1 : Int32) <<< ((f_Ir_toldPoint a0 v4) &&& 31))) (v4 + 1) h ls (lv_sub hl [1, 0, 3, 4] rfl)
      · have h := h.2 c25
        refine lv_iconst (v := 0) hx hb d_Ir_areAllDifferent_28 (by decide) ?_
        have hv : (0 : Int32) = g_Ir_areAllDifferent_5 a0 a1 (n + 1) v3 v4 := by rw [g_Ir_areAllDifferent_5, if_neg c8, if_neg c25]
        exact W.zret (ty := .boolean) (v := 0) hx hb hr rfl (fun t ht hW => ⟨congrArg (fun z => Outcome.returned (some (Value.int z))) hv, ht⟩) (fun _ h9 => nomatch h9) d_Ir_areAllDifferent_29
set_option maxHeartbeats 4000000 in
set_option maxRecDepth 100000 in
theorem c_Ir_areAllDifferent (l : Launch) (a0 : Int64) (a1 : Int32) (h : p_Ir_areAllDifferent a0 a1) : Met l y_Ir_areAllDifferent z_Ir_areAllDifferent (rmD 1) (fun v _ => v = ([.long a0, .int a1] : List Value).toArray) (QcRead (f_Ir_areAllDifferent a0 a1)) 0 0 (fun _ => False) := by
  refine Met.ofW (cc := b_Ir_areAllDifferent) (maxL := 6) (ret := (some .boolean)) (by decide) rfl ?_
  intro p e s m args below meth c s₁ B hml hv
  obtain rfl := hv
  have hx := B.exec
  have hb := B.bytes
  have hr := B.returns
  have hts : ∀ w ∈ w_all, w.before _ s = true := fun w hw => atoms_spec (ws := z_Ir_areAllDifferent) B.pre w (List.mem_cons_of_mem _ hw)
  have hown : s.vm.findClass R_Ir = some m.cls := findClass_of_methodNamed B.named
  have hlocks := B.notSynchronized
  have hF : CallFix p m c b_Ir_areAllDifferent 6 s _ w_all R_Ir := ⟨hx, hb, hml, hown, hts⟩
  have hl := lv_entry ([.long a0, .int a1]) (n := 6) (Nat.le_of_ble_eq_true rfl)
  rw [lg_entry_eq]
  generalize (lg_sl ([.long a0, .int a1]) ++ List.replicate (6 - (lg_sl ([.long a0, .int a1])).length) Slot.unset).toArray = ls at hl ⊢
  have hl : lv_has ls 6 [(0, .long a0), (2, .int a1)] := hl
  unfold p_Ir_areAllDifferent at h
  refine lv_iconst (v := 0) hx hb d_Ir_areAllDifferent_0 (by decide) ?_
  refine lv_istore_n (lv' := [(3, .int 0), (0, .long a0), (2, .int a1)]) hx hb d_Ir_areAllDifferent_1 rfl hl (by decide) rfl (fun ls hl => ?_)
  refine lv_iconst (v := 0) hx hb d_Ir_areAllDifferent_2 (by decide) ?_
  refine lv_istore (lv' := [(4, .int 0), (3, .int 0), (0, .long a0), (2, .int a1)]) hx hb d_Ir_areAllDifferent_3 hl (by decide) rfl (fun ls hl => ?_)
  have kL5 := h
  have hv : f_Ir_areAllDifferent a0 a1 = g_Ir_areAllDifferent_5 a0 a1 200 0 0 := by rw [f_Ir_areAllDifferent]
  rw [hv]
  exact l_Ir_areAllDifferent_5 a0 a1 hF hr hlocks 200 0 0 kL5 ls (lv_sub hl [1, 0, 2, 3] rfl)
set_option maxHeartbeats 1000000 in
theorem r_Ir_areAllDifferent {p : Program} {l : Launch} {e : Env} {R : Room} {s : State} {m : MethodId} {args : Array Value} {below : List Frame} {meth : Method} {c : Code} {H : Heap} {locs : List Loc} {cells slots : Nat} {Q : State → Prop} {cc : ByteArray} {nL pc idx : Nat} {ls : Array Slot} {rest : List Value} {a0 : Int64} {a1 : Int32} (hF : CallFix p m c cc nL s args w_all R_Ir) (h : p_Ir_areAllDifferent a0 a1) (hlk : Cond.methodLink R_Ir idx y_Ir_areAllDifferent ∈ w_all) (hsz : ls.size = nL) (hR : (rmD 1).frames + 1 ≤ R.frames ∧ 8 + (6 + 11) + (rmD 1).locals ≤ R.locals) (hc : cells ≤ R.cells ∧ slots ≤ R.slots) (hrs : (rest.map fun v => v.category).sum ≤ 8) (hdg : decode cc pc = .ok (.invokestatic idx, 3)) (kk : W p l e R s m args below meth c H locs cells slots Q (F0 m (pc + 3) ls (.int (f_Ir_areAllDifferent a0 a1) :: rest))) : W p l e R s m args below meth c H locs cells slots Q (F0 m pc ls (.int a1 :: .long a0 :: rest)) :=
  W.callR (W.runS (As := [.long a0, .int a1]) (rest := rest) hF (c_Ir_areAllDifferent l a0 a1 h) (cwS 2 hF.2.2.2.2 (gS hlk m_155 m_129 m_156) rfl rfl rfl (by decide +kernel) hR) preEq rfl rfl hsz rfl (lv_room hrs) hdg hc) kk
theorem d_Ir_fillRisks_0 : decode b_Ir_fillRisks 0 = .ok (.iconst 0, 1) := by decide +kernel
theorem d_Ir_fillRisks_1 : decode b_Ir_fillRisks 1 = .ok (.istore_n 1, 1) := by decide +kernel
theorem d_Ir_fillRisks_2 : decode b_Ir_fillRisks 2 = .ok (.iload_n 1, 1) := by decide +kernel
theorem d_Ir_fillRisks_3 : decode b_Ir_fillRisks 3 = .ok (.aload_n 0, 1) := by decide +kernel
theorem d_Ir_fillRisks_4 : decode b_Ir_fillRisks 4 = .ok (.getfield 19, 3) := by decide +kernel
theorem d_Ir_fillRisks_7 : decode b_Ir_fillRisks 7 = .ok (.getfield 87, 3) := by decide +kernel
theorem d_Ir_fillRisks_10 : decode b_Ir_fillRisks 10 = .ok (.if_icmp .ge 42, 3) := by decide +kernel
theorem d_Ir_fillRisks_13 : decode b_Ir_fillRisks 13 = .ok (.aload_n 0, 1) := by decide +kernel
theorem d_Ir_fillRisks_14 : decode b_Ir_fillRisks 14 = .ok (.getfield 51, 3) := by decide +kernel
theorem d_Ir_fillRisks_17 : decode b_Ir_fillRisks 17 = .ok (.iload_n 1, 1) := by decide +kernel
theorem d_Ir_fillRisks_18 : decode b_Ir_fillRisks 18 = .ok (.aload_n 0, 1) := by decide +kernel
theorem d_Ir_fillRisks_19 : decode b_Ir_fillRisks 19 = .ok (.getfield 10, 3) := by decide +kernel
theorem d_Ir_fillRisks_22 : decode b_Ir_fillRisks 22 = .ok (.getfield 74, 3) := by decide +kernel
theorem d_Ir_fillRisks_25 : decode b_Ir_fillRisks 25 = .ok (.aload_n 0, 1) := by decide +kernel
theorem d_Ir_fillRisks_26 : decode b_Ir_fillRisks 26 = .ok (.getfield 19, 3) := by decide +kernel
theorem d_Ir_fillRisks_29 : decode b_Ir_fillRisks 29 = .ok (.getfield 249, 3) := by decide +kernel
theorem d_Ir_fillRisks_32 : decode b_Ir_fillRisks 32 = .ok (.iload_n 1, 1) := by decide +kernel
theorem d_Ir_fillRisks_33 : decode b_Ir_fillRisks 33 = .ok (.iaload, 1) := by decide +kernel
theorem d_Ir_fillRisks_34 : decode b_Ir_fillRisks 34 = .ok (.iaload, 1) := by decide +kernel
theorem d_Ir_fillRisks_35 : decode b_Ir_fillRisks 35 = .ok (.aload_n 0, 1) := by decide +kernel
theorem d_Ir_fillRisks_36 : decode b_Ir_fillRisks 36 = .ok (.getfield 19, 3) := by decide +kernel
theorem d_Ir_fillRisks_39 : decode b_Ir_fillRisks 39 = .ok (.getfield 252, 3) := by decide +kernel
theorem d_Ir_fillRisks_42 : decode b_Ir_fillRisks 42 = .ok (.iload_n 1, 1) := by decide +kernel
theorem d_Ir_fillRisks_43 : decode b_Ir_fillRisks 43 = .ok (.iaload, 1) := by decide +kernel
theorem d_Ir_fillRisks_44 : decode b_Ir_fillRisks 44 = .ok (.iadd, 1) := by decide +kernel
theorem d_Ir_fillRisks_45 : decode b_Ir_fillRisks 45 = .ok (.iastore, 1) := by decide +kernel
theorem d_Ir_fillRisks_46 : decode b_Ir_fillRisks 46 = .ok (.iinc 1 1, 3) := by decide +kernel
theorem d_Ir_fillRisks_49 : decode b_Ir_fillRisks 49 = .ok (.goto (-47), 3) := by decide +kernel
theorem d_Ir_fillRisks_52 : decode b_Ir_fillRisks 52 = .ok (.iconst 0, 1) := by decide +kernel
theorem d_Ir_fillRisks_53 : decode b_Ir_fillRisks 53 = .ok (.istore_n 1, 1) := by decide +kernel
theorem d_Ir_fillRisks_54 : decode b_Ir_fillRisks 54 = .ok (.iload_n 1, 1) := by decide +kernel
theorem d_Ir_fillRisks_55 : decode b_Ir_fillRisks 55 = .ok (.aload_n 0, 1) := by decide +kernel
theorem d_Ir_fillRisks_56 : decode b_Ir_fillRisks 56 = .ok (.getfield 26, 3) := by decide +kernel
theorem d_Ir_fillRisks_59 : decode b_Ir_fillRisks 59 = .ok (.getfield 104, 3) := by decide +kernel
theorem d_Ir_fillRisks_62 : decode b_Ir_fillRisks 62 = .ok (.if_icmp .ge 38, 3) := by decide +kernel
theorem d_Ir_fillRisks_65 : decode b_Ir_fillRisks 65 = .ok (.aload_n 0, 1) := by decide +kernel
theorem d_Ir_fillRisks_66 : decode b_Ir_fillRisks 66 = .ok (.getfield 51, 3) := by decide +kernel
theorem d_Ir_fillRisks_69 : decode b_Ir_fillRisks 69 = .ok (.aload_n 0, 1) := by decide +kernel
theorem d_Ir_fillRisks_70 : decode b_Ir_fillRisks 70 = .ok (.getfield 26, 3) := by decide +kernel
theorem d_Ir_fillRisks_73 : decode b_Ir_fillRisks 73 = .ok (.getfield 124, 3) := by decide +kernel
theorem d_Ir_fillRisks_76 : decode b_Ir_fillRisks 76 = .ok (.iload_n 1, 1) := by decide +kernel
theorem d_Ir_fillRisks_77 : decode b_Ir_fillRisks 77 = .ok (.iaload, 1) := by decide +kernel
theorem d_Ir_fillRisks_78 : decode b_Ir_fillRisks 78 = .ok (.dup2, 1) := by decide +kernel
theorem d_Ir_fillRisks_79 : decode b_Ir_fillRisks 79 = .ok (.iaload, 1) := by decide +kernel
theorem d_Ir_fillRisks_80 : decode b_Ir_fillRisks 80 = .ok (.aload_n 0, 1) := by decide +kernel
theorem d_Ir_fillRisks_81 : decode b_Ir_fillRisks 81 = .ok (.getfield 26, 3) := by decide +kernel
theorem d_Ir_fillRisks_84 : decode b_Ir_fillRisks 84 = .ok (.iload_n 1, 1) := by decide +kernel
theorem d_Ir_fillRisks_85 : decode b_Ir_fillRisks 85 = .ok (.aload_n 0, 1) := by decide +kernel
theorem d_Ir_fillRisks_86 : decode b_Ir_fillRisks 86 = .ok (.getfield 55, 3) := by decide +kernel
theorem d_Ir_fillRisks_89 : decode b_Ir_fillRisks 89 = .ok (.invokevirtual 255, 3) := by decide +kernel
theorem d_Ir_fillRisks_92 : decode b_Ir_fillRisks 92 = .ok (.iadd, 1) := by decide +kernel
theorem d_Ir_fillRisks_93 : decode b_Ir_fillRisks 93 = .ok (.iastore, 1) := by decide +kernel
theorem d_Ir_fillRisks_94 : decode b_Ir_fillRisks 94 = .ok (.iinc 1 1, 3) := by decide +kernel
theorem d_Ir_fillRisks_97 : decode b_Ir_fillRisks 97 = .ok (.goto (-43), 3) := by decide +kernel
theorem d_Ir_fillRisks_100 : decode b_Ir_fillRisks 100 = .ok (.return_, 1) := by decide +kernel
set_option maxHeartbeats 4000000 in
set_option maxRecDepth 100000 in
theorem l_Ir_fillRisks_2 {p : Program} {l : Launch} {e : Env} {s : State} {m : MethodId} {args : Array Value} {below : List Frame} {meth : Method} {c : Code} {dC : Nat → ClassId} {dI : Nat → Nat → Nat} {L : Nat → Nat} {cA : Nat → ClassId} {Q : State → Prop}   (hF : CallFix p m c b_Ir_fillRisks 2 s args w_all R_Ir) (hK : kW_I dC dI cA s) (hL : ij 38 L) : ∀ (n : Nat) (v1 : Int32) (ar : Nat → Nat → Int32) (sc : Nat → Int32), q_Ir_fillRisks_2 n v1 ar sc → ∀ (H : Heap) (locs : List Loc), va_P (dC, dI) classes (wI L cA ar sc) H → va_S (aI L) s.heap H locs → ∀ (ls : Array Slot), lv_has ls 2 [(1, .int v1), (0, .ref (L 0))] → (∀ (H : Heap) (locs : List Loc) (ls : Array Slot), va_P (dC, dI) classes (wI L cA ((g_Ir_fillRisks_2 n v1 ar sc).2.1) ((g_Ir_fillRisks_2 n v1 ar sc).2.2)) H → va_S (aI L) s.heap H locs → lv_has ls 2 [(1, .int ((g_Ir_fillRisks_2 n v1 ar sc).1)), (0, .ref (L 0))] → W p l e (rmD 3) s m args below meth c H locs 0 0 Q (F0 m 52 ls [])) → W p l e (rmD 3) s m args below meth c H locs 0 0 Q (F0 m 2 ls []) := by
  have hx := hF.1
  have hb := hF.2.1
  have hown := hF.2.2.2.1
  have hts := hF.2.2.2.2
  intro n
  induction n with
  | zero => intro v1 ar sc h; exact False.elim h
  | succ n ih =>
    intro v1 ar sc h H locs hP hS ls hl hk
    rw [q_Ir_fillRisks_2] at h
    refine lv_iload_n hx hb d_Ir_fillRisks_2 rfl (lv_at hl 0 rfl) ?_
    refine lv_aload_n hx hb d_Ir_fillRisks_3 rfl (lv_at hl 1 rfl) ?_
    refine gf_Ir_points hF hK hP m_134 d_Ir_fillRisks_4 ?_
    refine gn_Points_count hF hK hP mn_0 d_Ir_fillRisks_7 ?_
    refine lv_icmp_ge (tgt := 52) hx hb d_Ir_fillRisks_10 (by decide) (fun c10 => ?_) (fun c10 => ?_)
    · have h := h.1 c10
      have hv : g_Ir_fillRisks_2 (n + 1) v1 ar sc = ((v1, ar, sc) : Int32 × (Nat → Nat → Int32) × (Nat → Int32)) := by rw [g_Ir_fillRisks_2, if_pos c10]
      rw [hv] at hk
      exact hk _ _ ls hP hS (lv_sub hl [0, 1] rfl)
    · have h := h.2 c10
      refine lv_aload_n hx hb d_Ir_fillRisks_13 rfl (lv_at hl 1 rfl) ?_
      refine gf_Ir_risks hF hK hP m_157 d_Ir_fillRisks_14 ?_
      refine lv_iload_n hx hb d_Ir_fillRisks_17 rfl (lv_at hl 0 rfl) ?_
      refine lv_aload_n hx hb d_Ir_fillRisks_18 rfl (lv_at hl 1 rfl) ?_
      refine gf_Ir_scale hF hK hP m_158 d_Ir_fillRisks_19 ?_
      refine gn_Scale_kindWeights hF hK hP mn_2 d_Ir_fillRisks_22 ?_
      refine lv_aload_n hx hb d_Ir_fillRisks_25 rfl (lv_at hl 1 rfl) ?_
      refine gf_Ir_points hF hK hP m_134 d_Ir_fillRisks_26 ?_
      refine gn_Points_kinds hF hK hP mn_3 d_Ir_fillRisks_29 ?_
      refine lv_iload_n hx hb d_Ir_fillRisks_32 rfl (lv_at hl 0 rfl) ?_
      have k33 := h.1
      have h := h.2
      refine alI_7 hF hK hP k33 d_Ir_fillRisks_33 ?_
      have k34 := h.1
      have h := h.2
      refine alI_2 hF hK hP k34 d_Ir_fillRisks_34 ?_
      refine lv_aload_n hx hb d_Ir_fillRisks_35 rfl (lv_at hl 1 rfl) ?_
      refine gf_Ir_points hF hK hP m_134 d_Ir_fillRisks_36 ?_
      refine gn_Points_ownRisks hF hK hP mn_4 d_Ir_fillRisks_39 ?_
      refine lv_iload_n hx hb d_Ir_fillRisks_42 rfl (lv_at hl 0 rfl) ?_
      have k43 := h.1
      have h := h.2
      refine alI_8 hF hK hP k43 d_Ir_fillRisks_43 ?_
      refine lv_iadd hx hb d_Ir_fillRisks_44 ?_
      have k45 := h.1
      have h := h.2
      refine asI_37 hF hK hP hL hS k45 d_Ir_fillRisks_45 (fun H locs hP hS => ?_)
      refine lv_iinc (v := v1 + 1) (lv' := [(1, .int (v1 + 1)), (0, .ref (L 0))]) hx hb d_Ir_fillRisks_46 hl (k := 0) rfl rfl (by decide) rfl (fun ls hl => ?_)
      refine lv_goto (tgt := 2) hx hb d_Ir_fillRisks_49 (by decide) ?_
      have hv : g_Ir_fillRisks_2 (n + 1) v1 ar sc = g_Ir_fillRisks_2 n (v1 + 1) (s2 ar 37 v1.toNatClampNeg ((ar 2 ((ar 7 v1.toNatClampNeg).toNatClampNeg)) + (ar 8 v1.toNatClampNeg))) sc := by rw [g_Ir_fillRisks_2, if_neg c10]
      rw [hv] at hk
      exact ih (v1 + 1) (s2 ar 37 v1.toNatClampNeg ((ar 2 ((ar 7 v1.toNatClampNeg).toNatClampNeg)) + (ar 8 v1.toNatClampNeg))) sc h _ _ hP hS ls (lv_sub hl [0, 1] rfl) hk
set_option maxHeartbeats 4000000 in
set_option maxRecDepth 100000 in
theorem l_Ir_fillRisks_54 {p : Program} {l : Launch} {e : Env} {s : State} {m : MethodId} {args : Array Value} {below : List Frame} {meth : Method} {c : Code} {dC : Nat → ClassId} {dI : Nat → Nat → Nat} {L : Nat → Nat} {cA : Nat → ClassId} {Q : State → Prop}   (hF : CallFix p m c b_Ir_fillRisks 2 s args w_all R_Ir) (hK : kW_I dC dI cA s) (hL : ij 38 L) : ∀ (n : Nat) (v1 : Int32) (ar : Nat → Nat → Int32) (sc : Nat → Int32), q_Ir_fillRisks_54 n v1 ar sc → ∀ (H : Heap) (locs : List Loc), va_P (dC, dI) classes (wI L cA ar sc) H → va_S (aI L) s.heap H locs → ∀ (ls : Array Slot), lv_has ls 2 [(1, .int v1), (0, .ref (L 0))] → (∀ (H : Heap) (locs : List Loc) (ls : Array Slot), va_P (dC, dI) classes (wI L cA ((g_Ir_fillRisks_54 n v1 ar sc).2.1) ((g_Ir_fillRisks_54 n v1 ar sc).2.2)) H → va_S (aI L) s.heap H locs → lv_has ls 2 [(1, .int ((g_Ir_fillRisks_54 n v1 ar sc).1)), (0, .ref (L 0))] → W p l e (rmD 3) s m args below meth c H locs 0 0 Q (F0 m 100 ls [])) → W p l e (rmD 3) s m args below meth c H locs 0 0 Q (F0 m 54 ls []) := by
  have hx := hF.1
  have hb := hF.2.1
  have hown := hF.2.2.2.1
  have hts := hF.2.2.2.2
  intro n
  induction n with
  | zero => intro v1 ar sc h; exact False.elim h
  | succ n ih =>
    intro v1 ar sc h H locs hP hS ls hl hk
    rw [q_Ir_fillRisks_54] at h
    refine lv_iload_n hx hb d_Ir_fillRisks_54 rfl (lv_at hl 0 rfl) ?_
    refine lv_aload_n hx hb d_Ir_fillRisks_55 rfl (lv_at hl 1 rfl) ?_
    refine gf_Ir_findings hF hK hP m_138 d_Ir_fillRisks_56 ?_
    refine gn_Findings_count hF hK hP mn_1 d_Ir_fillRisks_59 ?_
    refine lv_icmp_ge (tgt := 100) hx hb d_Ir_fillRisks_62 (by decide) (fun c62 => ?_) (fun c62 => ?_)
    · have h := h.1 c62
      have hv : g_Ir_fillRisks_54 (n + 1) v1 ar sc = ((v1, ar, sc) : Int32 × (Nat → Nat → Int32) × (Nat → Int32)) := by rw [g_Ir_fillRisks_54, if_pos c62]
      rw [hv] at hk
      exact hk _ _ ls hP hS (lv_sub hl [0, 1] rfl)
    · have h := h.2 c62
      refine lv_aload_n hx hb d_Ir_fillRisks_65 rfl (lv_at hl 1 rfl) ?_
      refine gf_Ir_risks hF hK hP m_157 d_Ir_fillRisks_66 ?_
      refine lv_aload_n hx hb d_Ir_fillRisks_69 rfl (lv_at hl 1 rfl) ?_
      refine gf_Ir_findings hF hK hP m_138 d_Ir_fillRisks_70 ?_
      refine gn_Findings_points hF hK hP mn_5 d_Ir_fillRisks_73 ?_
      refine lv_iload_n hx hb d_Ir_fillRisks_76 rfl (lv_at hl 0 rfl) ?_
      have k77 := h.1
      have h := h.2
      refine alI_13 hF hK hP k77 d_Ir_fillRisks_77 ?_
      refine lv_dup2_11 hx hb d_Ir_fillRisks_78 rfl rfl ?_
      have k79 := h.1
      have h := h.2
      refine alI_37 hF hK hP k79 d_Ir_fillRisks_79 ?_
      refine lv_aload_n hx hb d_Ir_fillRisks_80 rfl (lv_at hl 1 rfl) ?_
      refine gf_Ir_findings hF hK hP m_138 d_Ir_fillRisks_81 ?_
      refine lv_iload_n hx hb d_Ir_fillRisks_84 rfl (lv_at hl 0 rfl) ?_
      refine lv_aload_n hx hb d_Ir_fillRisks_85 rfl (lv_at hl 1 rfl) ?_
      refine gf_Ir_today hF hK hP m_159 d_Ir_fillRisks_86 ?_
      have k89 := h.1
      have h := h.2
      refine r_Findings_riskOn hF hK hP k89 m_160 hl.1 ⟨Nat.le_of_ble_eq_true rfl, Nat.le_of_ble_eq_true rfl⟩ ⟨Nat.zero_le _, Nat.zero_le _⟩ (Nat.le_of_ble_eq_true rfl) d_Ir_fillRisks_89 ?_
      refine lv_iadd hx hb d_Ir_fillRisks_92 ?_
      have k93 := h.1
      have h := h.2
      refine asI_37 hF hK hP hL hS k93 d_Ir_fillRisks_93 (fun H locs hP hS => ?_)
      refine lv_iinc (v := v1 + 1) (lv' := [(1, .int (v1 + 1)), (0, .ref (L 0))]) hx hb d_Ir_fillRisks_94 hl (k := 0) rfl rfl (by decide) rfl (fun ls hl => ?_)
      refine lv_goto (tgt := 54) hx hb d_Ir_fillRisks_97 (by decide) ?_
      have hv : g_Ir_fillRisks_54 (n + 1) v1 ar sc = g_Ir_fillRisks_54 n (v1 + 1) (s2 ar 37 ((ar 13 v1.toNatClampNeg).toNatClampNeg) ((ar 37 ((ar 13 v1.toNatClampNeg).toNatClampNeg)) + (f_Findings_riskOn ar sc v1 (sc 0)))) sc := by rw [g_Ir_fillRisks_54, if_neg c62]
      rw [hv] at hk
      exact ih (v1 + 1) (s2 ar 37 ((ar 13 v1.toNatClampNeg).toNatClampNeg) ((ar 37 ((ar 13 v1.toNatClampNeg).toNatClampNeg)) + (f_Findings_riskOn ar sc v1 (sc 0)))) sc h _ _ hP hS ls (lv_sub hl [0, 1] rfl) hk
set_option maxHeartbeats 4000000 in
set_option maxRecDepth 100000 in
theorem c_Ir_fillRisks (l : Launch) (dC : Nat → ClassId) (dI : Nat → Nat → Nat) (L : Nat → Nat) (cA : Nat → ClassId) (ar : Nat → Nat → Int32) (sc : Nat → Int32) (hL : ij 38 L) (h : p_Ir_fillRisks ar sc ) : Met l y_Ir_fillRisks z_Ir_fillRisks (rmD 3) (va_Pc [.ref (L 0)] (fun U => xw_I dC dI L cA ar sc U)) (va_Qv (fun u : oS => (u.1, u.2) = f_Ir_fillRisks ar sc ) (fun u t => va_P (dC, dI) classes (wI L cA u.1 u.2) t.heap) (aI L)) 0 0 (aI L) := by
  refine Met.ofW (cc := b_Ir_fillRisks) (maxL := 2) (ret := none) (by decide) rfl ?_
  intro p e s m args below meth c s₁ B hml hv
  obtain ⟨rfl, ⟨hP, hK⟩⟩ := hv
  have hx := B.exec
  have hb := B.bytes
  have hr := B.returns
  have hts : ∀ w ∈ w_all, w.before _ s = true := fun w hw => atoms_spec (ws := z_Ir_fillRisks) B.pre w (List.mem_cons_of_mem _ hw)
  have hown : s.vm.findClass R_Ir = some m.cls := findClass_of_methodNamed B.named
  have hlocks := B.notSynchronized
  have hF : CallFix p m c b_Ir_fillRisks 2 s _ w_all R_Ir := ⟨hx, hb, hml, hown, hts⟩
  have hS : va_S (aI L) s.heap s.heap [] := va_S.rf
  have hl := lv_entry ([.ref (L 0)]) (n := 2) (Nat.le_of_ble_eq_true rfl)
  rw [lg_entry_eq]
  generalize (lg_sl ([.ref (L 0)]) ++ List.replicate (2 - (lg_sl ([.ref (L 0)])).length) Slot.unset).toArray = ls at hl ⊢
  have hl : lv_has ls 2 [(0, .ref (L 0))] := hl
  unfold p_Ir_fillRisks at h
  refine lv_iconst (v := 0) hx hb d_Ir_fillRisks_0 (by decide) ?_
  refine lv_istore_n (lv' := [(1, .int 0), (0, .ref (L 0))]) hx hb d_Ir_fillRisks_1 rfl hl (by decide) rfl (fun ls hl => ?_)
  have kL2 := h.1
  have h := h.2
  refine l_Ir_fillRisks_2 hF hK hL 200 0 ar sc kL2 _ _ hP hS ls (lv_sub hl [0, 1] rfl) (fun H locs ls hP hS hl => ?_)
  refine lv_iconst (v := 0) hx hb d_Ir_fillRisks_52 (by decide) ?_
  refine lv_istore_n (lv' := [(1, .int 0), (0, .ref (L 0))]) hx hb d_Ir_fillRisks_53 rfl hl (by decide) rfl (fun ls hl => ?_)
  have kL54 := h
  refine l_Ir_fillRisks_54 hF hK hL 200 0 ((g_Ir_fillRisks_2 200 0 ar sc).2.1) ((g_Ir_fillRisks_2 200 0 ar sc).2.2) kL54 _ _ hP hS ls (lv_sub hl [0, 1] rfl) (fun H locs ls hP hS hl => ?_)
  have hv : (((g_Ir_fillRisks_54 200 0 ((g_Ir_fillRisks_2 200 0 ar sc).2.1) ((g_Ir_fillRisks_2 200 0 ar sc).2.2)).2.1, (g_Ir_fillRisks_54 200 0 ((g_Ir_fillRisks_2 200 0 ar sc).2.1) ((g_Ir_fillRisks_2 200 0 ar sc).2.2)).2.2) : (Nat → Nat → Int32) × (Nat → Int32)) = f_Ir_fillRisks ar sc  := by rw [f_Ir_fillRisks]
  exact W.vret hx hb hr (fun t ht hW => ⟨⟨((g_Ir_fillRisks_54 200 0 ((g_Ir_fillRisks_2 200 0 ar sc).2.1) ((g_Ir_fillRisks_2 200 0 ar sc).2.2)).2.1, (g_Ir_fillRisks_54 200 0 ((g_Ir_fillRisks_2 200 0 ar sc).2.1) ((g_Ir_fillRisks_2 200 0 ar sc).2.2)).2.2), rfl, hv, by dsimp only; rw [ht]; exact hP⟩, hS.F ht⟩) hS.2.2 d_Ir_fillRisks_100
set_option maxHeartbeats 1000000 in
theorem r_Ir_fillRisks {p : Program} {l : Launch} {e : Env} {R : Room} {s : State} {m : MethodId} {args : Array Value} {below : List Frame} {meth : Method} {c : Code} {H : Heap} {locs : List Loc} {cells slots : Nat} {Q : State → Prop} {cc : ByteArray} {nL pc idx : Nat} {ls : Array Slot} {rest : List Value} {own : String} {dC : Nat → ClassId} {dI : Nat → Nat → Nat} {L : Nat → Nat} {cA : Nat → ClassId} {ar : Nat → Nat → Int32} {sc : Nat → Int32} {H0 : Heap}  (hF : CallFix p m c cc nL s args w_all own) (hK : kW_I dC dI cA s) (hP : va_P (dC, dI) classes (wI L cA ar sc) H) (hL : ij 38 L) (hS : va_S (aI L) H0 H locs) (h : p_Ir_fillRisks ar sc ) (hlk : Cond.methodLink own idx y_Ir_fillRisks ∈ w_all) (hsz : ls.size = nL) (hR : (rmD 3).frames + 1 ≤ R.frames ∧ 8 + (2 + 11) + (rmD 3).locals ≤ R.locals) (hc : cells ≤ R.cells ∧ slots ≤ R.slots) (hrs : (rest.map fun v => v.category).sum ≤ 8) (hdg : decode cc pc = .ok (.invokevirtual idx, 3)) (kk : ∀ (H1 : Heap) (locs1 : List Loc), va_P (dC, dI) classes (wI L cA ((f_Ir_fillRisks ar sc ).1) ((f_Ir_fillRisks ar sc ).2)) H1 → va_S (aI L) H0 H1 locs1 → W p l e R s m args below meth c H1 locs1 cells slots Q (F0 m (pc + 3) ls (rest))) : W p l e R s m args below meth c H locs cells slots Q (F0 m pc ls (.ref (L 0) :: rest)) :=
  va_callv (va_runV (As := []) (rest := rest) hF (c_Ir_fillRisks l dC dI L cA ar sc  hL h) (cwV 0 hF.2.2.2.2 (gV hlk m_161 m_162 m_129 m_163) rfl rfl rfl (by decide +kernel) hR) ⟨xb_I, va_recv hK.1 hP (ci := 0) (q0 := 0) rfl rfl, fun U hU hW => ⟨rfl, by rw [hU]; exact hP, kW_I_warm hW hK⟩⟩ rfl rfl hsz rfl (lv_room hrs) hdg hc) hS (fun q _ h9 => h9) (fun q h9 => h9) (fun u t H1 locs1 ht hvm hw hB hz1 hk1 hS1 => by
    have hk9 := kk H1 locs1 (by rw [← hw, ← ht]; exact hB) hS1
    exact hk9)
theorem d_Ir_riskOf_0 : decode b_Ir_riskOf 0 = .ok (.aload_n 0, 1) := by decide +kernel
theorem d_Ir_riskOf_1 : decode b_Ir_riskOf 1 = .ok (.invokevirtual 136, 3) := by decide +kernel
theorem d_Ir_riskOf_4 : decode b_Ir_riskOf 4 = .ok (.aload_n 0, 1) := by decide +kernel
theorem d_Ir_riskOf_5 : decode b_Ir_riskOf 5 = .ok (.getfield 51, 3) := by decide +kernel
theorem d_Ir_riskOf_8 : decode b_Ir_riskOf 8 = .ok (.iload_n 1, 1) := by decide +kernel
theorem d_Ir_riskOf_9 : decode b_Ir_riskOf 9 = .ok (.iaload, 1) := by decide +kernel
theorem d_Ir_riskOf_10 : decode b_Ir_riskOf 10 = .ok (.ireturn, 1) := by decide +kernel
set_option maxHeartbeats 4000000 in
set_option maxRecDepth 100000 in
theorem c_Ir_riskOf (l : Launch) (dC : Nat → ClassId) (dI : Nat → Nat → Nat) (L : Nat → Nat) (cA : Nat → ClassId) (ar : Nat → Nat → Int32) (sc : Nat → Int32) (a0 : Int32) (hL : ij 38 L) (h : p_Ir_riskOf ar sc a0) : Met l y_Ir_riskOf z_Ir_riskOf (rmD 4) (va_Pc [.ref (L 0), .int a0] (fun U => xw_I dC dI L cA ar sc U)) (va_Qi (fun (r : Int32) (u : oS) => (r, u.1, u.2) = f_Ir_riskOf ar sc a0) (fun u t => va_P (dC, dI) classes (wI L cA u.1 u.2) t.heap) (aI L)) 0 0 (aI L) := by
  refine Met.ofW (cc := b_Ir_riskOf) (maxL := 2) (ret := (some .int)) (by decide) rfl ?_
  intro p e s m args below meth c s₁ B hml hv
  obtain ⟨rfl, ⟨hP, hK⟩⟩ := hv
  have hx := B.exec
  have hb := B.bytes
  have hr := B.returns
  have hts : ∀ w ∈ w_all, w.before _ s = true := fun w hw => atoms_spec (ws := z_Ir_riskOf) B.pre w (List.mem_cons_of_mem _ hw)
  have hown : s.vm.findClass R_Ir = some m.cls := findClass_of_methodNamed B.named
  have hlocks := B.notSynchronized
  have hF : CallFix p m c b_Ir_riskOf 2 s _ w_all R_Ir := ⟨hx, hb, hml, hown, hts⟩
  have hS : va_S (aI L) s.heap s.heap [] := va_S.rf
  have hl := lv_entry ([.ref (L 0), .int a0]) (n := 2) (Nat.le_of_ble_eq_true rfl)
  rw [lg_entry_eq]
  generalize (lg_sl ([.ref (L 0), .int a0]) ++ List.replicate (2 - (lg_sl ([.ref (L 0), .int a0])).length) Slot.unset).toArray = ls at hl ⊢
  have hl : lv_has ls 2 [(0, .ref (L 0)), (1, .int a0)] := hl
  unfold p_Ir_riskOf at h
  refine lv_aload_n hx hb d_Ir_riskOf_0 rfl (lv_at hl 0 rfl) ?_
  have k1 := h.1
  have h := h.2
  refine r_Ir_fillRisks hF hK hP hL hS k1 m_164 hl.1 ⟨Nat.le_of_ble_eq_true rfl, Nat.le_of_ble_eq_true rfl⟩ ⟨Nat.zero_le _, Nat.zero_le _⟩ (Nat.le_of_ble_eq_true rfl) d_Ir_riskOf_1 (fun H locs hP hS => ?_)
  refine lv_aload_n hx hb d_Ir_riskOf_4 rfl (lv_at hl 0 rfl) ?_
  refine gf_Ir_risks hF hK hP m_157 d_Ir_riskOf_5 ?_
  refine lv_iload_n hx hb d_Ir_riskOf_8 rfl (lv_at hl 1 rfl) ?_
  have k9 := h
  refine alI_37 hF hK hP k9 d_Ir_riskOf_9 ?_
  have hv : ((((f_Ir_fillRisks ar sc ).1) 37 a0.toNatClampNeg, (f_Ir_fillRisks ar sc ).1, (f_Ir_fillRisks ar sc ).2) : Int32 × (Nat → Nat → Int32) × (Nat → Int32)) = f_Ir_riskOf ar sc a0 := by rw [f_Ir_riskOf]
  exact W.iret (v := ((f_Ir_fillRisks ar sc ).1) 37 a0.toNatClampNeg) hx hb hr (fun t ht hW => ⟨⟨((f_Ir_fillRisks ar sc ).1) 37 a0.toNatClampNeg, ((f_Ir_fillRisks ar sc ).1, (f_Ir_fillRisks ar sc ).2), rfl, hv, by dsimp only; rw [ht]; exact hP⟩, hS.F ht⟩) hS.2.2 d_Ir_riskOf_10
set_option maxHeartbeats 1000000 in
theorem r_Ir_riskOf {p : Program} {l : Launch} {e : Env} {R : Room} {s : State} {m : MethodId} {args : Array Value} {below : List Frame} {meth : Method} {c : Code} {H : Heap} {locs : List Loc} {cells slots : Nat} {Q : State → Prop} {cc : ByteArray} {nL pc idx : Nat} {ls : Array Slot} {rest : List Value} {own : String} {dC : Nat → ClassId} {dI : Nat → Nat → Nat} {L : Nat → Nat} {cA : Nat → ClassId} {ar : Nat → Nat → Int32} {sc : Nat → Int32} {H0 : Heap} {a0 : Int32} (hF : CallFix p m c cc nL s args w_all own) (hK : kW_I dC dI cA s) (hP : va_P (dC, dI) classes (wI L cA ar sc) H) (hL : ij 38 L) (hS : va_S (aI L) H0 H locs) (h : p_Ir_riskOf ar sc a0) (hlk : Cond.methodLink own idx y_Ir_riskOf ∈ w_all) (hsz : ls.size = nL) (hR : (rmD 4).frames + 1 ≤ R.frames ∧ 8 + (2 + 11) + (rmD 4).locals ≤ R.locals) (hc : cells ≤ R.cells ∧ slots ≤ R.slots) (hrs : (rest.map fun v => v.category).sum ≤ 8) (hdg : decode cc pc = .ok (.invokevirtual idx, 3)) (kk : ∀ (H1 : Heap) (locs1 : List Loc), va_P (dC, dI) classes (wI L cA ((f_Ir_riskOf ar sc a0).2.1) ((f_Ir_riskOf ar sc a0).2.2)) H1 → va_S (aI L) H0 H1 locs1 → W p l e R s m args below meth c H1 locs1 cells slots Q (F0 m (pc + 3) ls (.int (f_Ir_riskOf ar sc a0).1 :: rest))) : W p l e R s m args below meth c H locs cells slots Q (F0 m pc ls (.int a0 :: .ref (L 0) :: rest)) :=
  va_calli (va_runV (As := [.int a0]) (rest := rest) hF (c_Ir_riskOf l dC dI L cA ar sc a0 hL h) (cwV 1 hF.2.2.2.2 (gV hlk m_165 m_166 m_129 m_167) rfl rfl rfl (by decide +kernel) hR) ⟨xb_I, va_recv hK.1 hP (ci := 0) (q0 := 0) rfl rfl, fun U hU hW => ⟨rfl, by rw [hU]; exact hP, kW_I_warm hW hK⟩⟩ rfl rfl hsz rfl (lv_room hrs) hdg hc) hS (fun q _ h9 => h9) (fun q h9 => h9) (fun r u t H1 locs1 ht hvm hw hB hz1 hk1 hS1 => by
    have hk9 := kk H1 locs1 (by rw [← hw, ← ht]; exact hB) hS1
    rw [← hw] at hk9
    exact hk9)
theorem d_Ir_classOf_0 : decode b_Ir_classOf 0 = .ok (.aload_n 0, 1) := by decide +kernel
theorem d_Ir_classOf_1 : decode b_Ir_classOf 1 = .ok (.getfield 10, 3) := by decide +kernel
theorem d_Ir_classOf_4 : decode b_Ir_classOf 4 = .ok (.aload_n 0, 1) := by decide +kernel
theorem d_Ir_classOf_5 : decode b_Ir_classOf 5 = .ok (.iload_n 1, 1) := by decide +kernel
theorem d_Ir_classOf_6 : decode b_Ir_classOf 6 = .ok (.invokevirtual 133, 3) := by decide +kernel
theorem d_Ir_classOf_9 : decode b_Ir_classOf 9 = .ok (.invokevirtual 258, 3) := by decide +kernel
theorem d_Ir_classOf_12 : decode b_Ir_classOf 12 = .ok (.ireturn, 1) := by decide +kernel
set_option maxHeartbeats 4000000 in
set_option maxRecDepth 100000 in
theorem c_Ir_classOf (l : Launch) (dC : Nat → ClassId) (dI : Nat → Nat → Nat) (L : Nat → Nat) (cA : Nat → ClassId) (ar : Nat → Nat → Int32) (sc : Nat → Int32) (a0 : Int32) (hL : ij 38 L) (h : p_Ir_classOf ar sc a0) : Met l y_Ir_classOf z_Ir_classOf (rmD 5) (va_Pc [.ref (L 0), .int a0] (fun U => xw_I dC dI L cA ar sc U)) (va_Qi (fun (r : Int32) (u : oS) => (r, u.1, u.2) = f_Ir_classOf ar sc a0) (fun u t => va_P (dC, dI) classes (wI L cA u.1 u.2) t.heap) (aI L)) 0 0 (aI L) := by
  refine Met.ofW (cc := b_Ir_classOf) (maxL := 2) (ret := (some .int)) (by decide) rfl ?_
  intro p e s m args below meth c s₁ B hml hv
  obtain ⟨rfl, ⟨hP, hK⟩⟩ := hv
  have hx := B.exec
  have hb := B.bytes
  have hr := B.returns
  have hts : ∀ w ∈ w_all, w.before _ s = true := fun w hw => atoms_spec (ws := z_Ir_classOf) B.pre w (List.mem_cons_of_mem _ hw)
  have hown : s.vm.findClass R_Ir = some m.cls := findClass_of_methodNamed B.named
  have hlocks := B.notSynchronized
  have hF : CallFix p m c b_Ir_classOf 2 s _ w_all R_Ir := ⟨hx, hb, hml, hown, hts⟩
  have hS : va_S (aI L) s.heap s.heap [] := va_S.rf
  have hl := lv_entry ([.ref (L 0), .int a0]) (n := 2) (Nat.le_of_ble_eq_true rfl)
  rw [lg_entry_eq]
  generalize (lg_sl ([.ref (L 0), .int a0]) ++ List.replicate (2 - (lg_sl ([.ref (L 0), .int a0])).length) Slot.unset).toArray = ls at hl ⊢
  have hl : lv_has ls 2 [(0, .ref (L 0)), (1, .int a0)] := hl
  unfold p_Ir_classOf at h
  refine lv_aload_n hx hb d_Ir_classOf_0 rfl (lv_at hl 0 rfl) ?_
  refine gf_Ir_scale hF hK hP m_158 d_Ir_classOf_1 ?_
  refine lv_aload_n hx hb d_Ir_classOf_4 rfl (lv_at hl 0 rfl) ?_
  refine lv_iload_n hx hb d_Ir_classOf_5 rfl (lv_at hl 1 rfl) ?_
  have k6 := h.1
  have h := h.2
  refine r_Ir_riskOf hF hK hP hL hS k6 m_168 hl.1 ⟨Nat.le_of_ble_eq_true rfl, Nat.le_of_ble_eq_true rfl⟩ ⟨Nat.zero_le _, Nat.zero_le _⟩ (Nat.le_of_ble_eq_true rfl) d_Ir_classOf_6 (fun H locs hP hS => ?_)
  have k9 := h
  refine r_Scale_classFor hF hK hP k9 m_169 hl.1 ⟨Nat.le_of_ble_eq_true rfl, Nat.le_of_ble_eq_true rfl⟩ ⟨Nat.zero_le _, Nat.zero_le _⟩ (Nat.le_of_ble_eq_true rfl) d_Ir_classOf_9 ?_
  have hv : ((f_Scale_classFor ((f_Ir_riskOf ar sc a0).2.1) ((f_Ir_riskOf ar sc a0).2.2) ((f_Ir_riskOf ar sc a0).1), (f_Ir_riskOf ar sc a0).2.1, (f_Ir_riskOf ar sc a0).2.2) : Int32 × (Nat → Nat → Int32) × (Nat → Int32)) = f_Ir_classOf ar sc a0 := by rw [f_Ir_classOf]
  exact W.iret (v := f_Scale_classFor ((f_Ir_riskOf ar sc a0).2.1) ((f_Ir_riskOf ar sc a0).2.2) ((f_Ir_riskOf ar sc a0).1)) hx hb hr (fun t ht hW => ⟨⟨f_Scale_classFor ((f_Ir_riskOf ar sc a0).2.1) ((f_Ir_riskOf ar sc a0).2.2) ((f_Ir_riskOf ar sc a0).1), ((f_Ir_riskOf ar sc a0).2.1, (f_Ir_riskOf ar sc a0).2.2), rfl, hv, by dsimp only; rw [ht]; exact hP⟩, hS.F ht⟩) hS.2.2 d_Ir_classOf_12
set_option maxHeartbeats 1000000 in
theorem r_Ir_classOf {p : Program} {l : Launch} {e : Env} {R : Room} {s : State} {m : MethodId} {args : Array Value} {below : List Frame} {meth : Method} {c : Code} {H : Heap} {locs : List Loc} {cells slots : Nat} {Q : State → Prop} {cc : ByteArray} {nL pc idx : Nat} {ls : Array Slot} {rest : List Value} {own : String} {dC : Nat → ClassId} {dI : Nat → Nat → Nat} {L : Nat → Nat} {cA : Nat → ClassId} {ar : Nat → Nat → Int32} {sc : Nat → Int32} {H0 : Heap} {a0 : Int32} (hF : CallFix p m c cc nL s args w_all own) (hK : kW_I dC dI cA s) (hP : va_P (dC, dI) classes (wI L cA ar sc) H) (hL : ij 38 L) (hS : va_S (aI L) H0 H locs) (h : p_Ir_classOf ar sc a0) (hlk : Cond.methodLink own idx y_Ir_classOf ∈ w_all) (hsz : ls.size = nL) (hR : (rmD 5).frames + 1 ≤ R.frames ∧ 8 + (2 + 11) + (rmD 5).locals ≤ R.locals) (hc : cells ≤ R.cells ∧ slots ≤ R.slots) (hrs : (rest.map fun v => v.category).sum ≤ 8) (hdg : decode cc pc = .ok (.invokevirtual idx, 3)) (kk : ∀ (H1 : Heap) (locs1 : List Loc), va_P (dC, dI) classes (wI L cA ((f_Ir_classOf ar sc a0).2.1) ((f_Ir_classOf ar sc a0).2.2)) H1 → va_S (aI L) H0 H1 locs1 → W p l e R s m args below meth c H1 locs1 cells slots Q (F0 m (pc + 3) ls (.int (f_Ir_classOf ar sc a0).1 :: rest))) : W p l e R s m args below meth c H locs cells slots Q (F0 m pc ls (.int a0 :: .ref (L 0) :: rest)) :=
  va_calli (va_runV (As := [.int a0]) (rest := rest) hF (c_Ir_classOf l dC dI L cA ar sc a0 hL h) (cwV 1 hF.2.2.2.2 (gV hlk m_170 m_171 m_129 m_172) rfl rfl rfl (by decide +kernel) hR) ⟨xb_I, va_recv hK.1 hP (ci := 0) (q0 := 0) rfl rfl, fun U hU hW => ⟨rfl, by rw [hU]; exact hP, kW_I_warm hW hK⟩⟩ rfl rfl hsz rfl (lv_room hrs) hdg hc) hS (fun q _ h9 => h9) (fun q h9 => h9) (fun r u t H1 locs1 ht hvm hw hB hz1 hk1 hS1 => by
    have hk9 := kk H1 locs1 (by rw [← hw, ← ht]; exact hB) hS1
    rw [← hw] at hk9
    exact hk9)
theorem d_Ir_firstDueDay_0 : decode b_Ir_firstDueDay 0 = .ok (.aload_n 0, 1) := by decide +kernel
theorem d_Ir_firstDueDay_1 : decode b_Ir_firstDueDay 1 = .ok (.getfield 19, 3) := by decide +kernel
theorem d_Ir_firstDueDay_4 : decode b_Ir_firstDueDay 4 = .ok (.getfield 101, 3) := by decide +kernel
theorem d_Ir_firstDueDay_7 : decode b_Ir_firstDueDay 7 = .ok (.iload_n 1, 1) := by decide +kernel
theorem d_Ir_firstDueDay_8 : decode b_Ir_firstDueDay 8 = .ok (.iaload, 1) := by decide +kernel
theorem d_Ir_firstDueDay_9 : decode b_Ir_firstDueDay 9 = .ok (.istore_n 2, 1) := by decide +kernel
theorem d_Ir_firstDueDay_10 : decode b_Ir_firstDueDay 10 = .ok (.iload_n 2, 1) := by decide +kernel
theorem d_Ir_firstDueDay_11 : decode b_Ir_firstDueDay 11 = .ok (.iconst (-1), 1) := by decide +kernel
theorem d_Ir_firstDueDay_12 : decode b_Ir_firstDueDay 12 = .ok (.if_icmp .ne 7, 3) := by decide +kernel
theorem d_Ir_firstDueDay_15 : decode b_Ir_firstDueDay 15 = .ok (.iconst 0, 1) := by decide +kernel
theorem d_Ir_firstDueDay_16 : decode b_Ir_firstDueDay 16 = .ok (.goto 26, 3) := by decide +kernel
theorem d_Ir_firstDueDay_19 : decode b_Ir_firstDueDay 19 = .ok (.iload_n 2, 1) := by decide +kernel
theorem d_Ir_firstDueDay_20 : decode b_Ir_firstDueDay 20 = .ok (.aload_n 0, 1) := by decide +kernel
theorem d_Ir_firstDueDay_21 : decode b_Ir_firstDueDay 21 = .ok (.getfield 10, 3) := by decide +kernel
theorem d_Ir_firstDueDay_24 : decode b_Ir_firstDueDay 24 = .ok (.getfield 81, 3) := by decide +kernel
theorem d_Ir_firstDueDay_27 : decode b_Ir_firstDueDay 27 = .ok (.aload_n 0, 1) := by decide +kernel
theorem d_Ir_firstDueDay_28 : decode b_Ir_firstDueDay 28 = .ok (.getfield 10, 3) := by decide +kernel
theorem d_Ir_firstDueDay_31 : decode b_Ir_firstDueDay 31 = .ok (.aload_n 0, 1) := by decide +kernel
theorem d_Ir_firstDueDay_32 : decode b_Ir_firstDueDay 32 = .ok (.getfield 51, 3) := by decide +kernel
theorem d_Ir_firstDueDay_35 : decode b_Ir_firstDueDay 35 = .ok (.iload_n 1, 1) := by decide +kernel
theorem d_Ir_firstDueDay_36 : decode b_Ir_firstDueDay 36 = .ok (.iaload, 1) := by decide +kernel
theorem d_Ir_firstDueDay_37 : decode b_Ir_firstDueDay 37 = .ok (.invokevirtual 258, 3) := by decide +kernel
theorem d_Ir_firstDueDay_40 : decode b_Ir_firstDueDay 40 = .ok (.iaload, 1) := by decide +kernel
theorem d_Ir_firstDueDay_41 : decode b_Ir_firstDueDay 41 = .ok (.iadd, 1) := by decide +kernel
theorem d_Ir_firstDueDay_42 : decode b_Ir_firstDueDay 42 = .ok (.ireturn, 1) := by decide +kernel
set_option maxHeartbeats 4000000 in
set_option maxRecDepth 100000 in
theorem c_Ir_firstDueDay (l : Launch) (dC : Nat → ClassId) (dI : Nat → Nat → Nat) (L : Nat → Nat) (cA : Nat → ClassId) (ar : Nat → Nat → Int32) (sc : Nat → Int32) (a0 : Int32) (h : p_Ir_firstDueDay ar sc a0) : Met l y_Ir_firstDueDay z_Ir_firstDueDay (rmD 1) (va_Pc [.ref (L 0), .int a0] (fun U => xw_I dC dI L cA ar sc U)) (QcRead (f_Ir_firstDueDay ar sc a0)) 0 0 (fun _ => False) := by
  refine Met.ofW (cc := b_Ir_firstDueDay) (maxL := 3) (ret := (some .int)) (by decide) rfl ?_
  intro p e s m args below meth c s₁ B hml hv
  obtain ⟨rfl, ⟨hP, hK⟩⟩ := hv
  have hx := B.exec
  have hb := B.bytes
  have hr := B.returns
  have hts : ∀ w ∈ w_all, w.before _ s = true := fun w hw => atoms_spec (ws := z_Ir_firstDueDay) B.pre w (List.mem_cons_of_mem _ hw)
  have hown : s.vm.findClass R_Ir = some m.cls := findClass_of_methodNamed B.named
  have hlocks := B.notSynchronized
  have hF : CallFix p m c b_Ir_firstDueDay 3 s _ w_all R_Ir := ⟨hx, hb, hml, hown, hts⟩
  have hl := lv_entry ([.ref (L 0), .int a0]) (n := 3) (Nat.le_of_ble_eq_true rfl)
  rw [lg_entry_eq]
  generalize (lg_sl ([.ref (L 0), .int a0]) ++ List.replicate (3 - (lg_sl ([.ref (L 0), .int a0])).length) Slot.unset).toArray = ls at hl ⊢
  have hl : lv_has ls 3 [(0, .ref (L 0)), (1, .int a0)] := hl
  unfold p_Ir_firstDueDay at h
  refine lv_aload_n hx hb d_Ir_firstDueDay_0 rfl (lv_at hl 0 rfl) ?_
  refine gf_Ir_points hF hK hP m_134 d_Ir_firstDueDay_1 ?_
  refine gn_Points_visits hF hK hP mn_6 d_Ir_firstDueDay_4 ?_
  refine lv_iload_n hx hb d_Ir_firstDueDay_7 rfl (lv_at hl 1 rfl) ?_
  have k8 := h.1
  have h := h.2
  refine alI_11 hF hK hP k8 d_Ir_firstDueDay_8 ?_
  refine lv_istore_n (lv' := [(2, .int (ar 11 a0.toNatClampNeg)), (0, .ref (L 0)), (1, .int a0)]) hx hb d_Ir_firstDueDay_9 rfl hl (by decide) rfl (fun ls hl => ?_)
  refine lv_iload_n hx hb d_Ir_firstDueDay_10 rfl (lv_at hl 0 rfl) ?_
  refine lv_iconst (v := (-1)) hx hb d_Ir_firstDueDay_11 (by decide) ?_
  refine lv_icmp_ne (tgt := 19) hx hb d_Ir_firstDueDay_12 (by decide) (fun c12 => ?_) (fun c12 => ?_)
  · have h := h.2 c12
    refine lv_iload_n hx hb d_Ir_firstDueDay_19 rfl (lv_at hl 0 rfl) ?_
    refine lv_aload_n hx hb d_Ir_firstDueDay_20 rfl (lv_at hl 1 rfl) ?_
    refine gf_Ir_scale hF hK hP m_158 d_Ir_firstDueDay_21 ?_
    refine gn_Scale_intervals hF hK hP mn_7 d_Ir_firstDueDay_24 ?_
    refine lv_aload_n hx hb d_Ir_firstDueDay_27 rfl (lv_at hl 1 rfl) ?_
    refine gf_Ir_scale hF hK hP m_158 d_Ir_firstDueDay_28 ?_
    refine lv_aload_n hx hb d_Ir_firstDueDay_31 rfl (lv_at hl 1 rfl) ?_
    refine gf_Ir_risks hF hK hP m_157 d_Ir_firstDueDay_32 ?_
    refine lv_iload_n hx hb d_Ir_firstDueDay_35 rfl (lv_at hl 2 rfl) ?_
    have k36 := h.1
    have h := h.2
    refine alI_37 hF hK hP k36 d_Ir_firstDueDay_36 ?_
    have k37 := h.1
    have h := h.2
    refine r_Scale_classFor hF hK hP k37 m_169 hl.1 ⟨Nat.le_of_ble_eq_true rfl, Nat.le_of_ble_eq_true rfl⟩ ⟨Nat.zero_le _, Nat.zero_le _⟩ (Nat.le_of_ble_eq_true rfl) d_Ir_firstDueDay_37 ?_
    have k40 := h
    refine alI_4 hF hK hP k40 d_Ir_firstDueDay_40 ?_
    refine lv_iadd hx hb d_Ir_firstDueDay_41 ?_
    have hv : ((ar 11 a0.toNatClampNeg) + (ar 4 ((f_Scale_classFor ar sc (ar 37 a0.toNatClampNeg)).toNatClampNeg)) : Int32) = f_Ir_firstDueDay ar sc a0 := by rw [f_Ir_firstDueDay, if_neg c12]
    exact W.iret (v := (ar 11 a0.toNatClampNeg) + (ar 4 ((f_Scale_classFor ar sc (ar 37 a0.toNatClampNeg)).toNatClampNeg))) hx hb hr (fun t ht hW => ⟨congrArg (fun z => Outcome.returned (some (Value.int z))) hv, ht⟩) (fun _ h9 => nomatch h9) d_Ir_firstDueDay_42
  · have h := h.1 c12
    refine lv_iconst (v := 0) hx hb d_Ir_firstDueDay_15 (by decide) ?_
    refine lv_goto (tgt := 42) hx hb d_Ir_firstDueDay_16 (by decide) ?_
    have hv : (0 : Int32) = f_Ir_firstDueDay ar sc a0 := by rw [f_Ir_firstDueDay, if_pos c12]
    exact W.iret (v := 0) hx hb hr (fun t ht hW => ⟨congrArg (fun z => Outcome.returned (some (Value.int z))) hv, ht⟩) (fun _ h9 => nomatch h9) d_Ir_firstDueDay_42
set_option maxHeartbeats 1000000 in
theorem r_Ir_firstDueDay {p : Program} {l : Launch} {e : Env} {R : Room} {s : State} {m : MethodId} {args : Array Value} {below : List Frame} {meth : Method} {c : Code} {H : Heap} {locs : List Loc} {cells slots : Nat} {Q : State → Prop} {cc : ByteArray} {nL pc idx : Nat} {ls : Array Slot} {rest : List Value} {own : String} {dC : Nat → ClassId} {dI : Nat → Nat → Nat} {L : Nat → Nat} {cA : Nat → ClassId} {ar : Nat → Nat → Int32} {sc : Nat → Int32} {a0 : Int32} (hF : CallFix p m c cc nL s args w_all own) (hK : kW_I dC dI cA s) (hP : va_P (dC, dI) classes (wI L cA ar sc) H) (h : p_Ir_firstDueDay ar sc a0) (hlk : Cond.methodLink own idx y_Ir_firstDueDay ∈ w_all) (hsz : ls.size = nL) (hR : (rmD 1).frames + 1 ≤ R.frames ∧ 8 + (3 + 11) + (rmD 1).locals ≤ R.locals) (hc : cells ≤ R.cells ∧ slots ≤ R.slots) (hrs : (rest.map fun v => v.category).sum ≤ 8) (hdg : decode cc pc = .ok (.invokevirtual idx, 3)) (kk : W p l e R s m args below meth c H locs cells slots Q (F0 m (pc + 3) ls (.int (f_Ir_firstDueDay ar sc a0) :: rest))) : W p l e R s m args below meth c H locs cells slots Q (F0 m pc ls (.int a0 :: .ref (L 0) :: rest)) :=
  W.callR (W.runV (As := [.int a0]) (rest := rest) hF (c_Ir_firstDueDay l dC dI L cA ar sc a0 h) (cwV 1 hF.2.2.2.2 (gV hlk m_173 m_174 m_129 m_175) rfl rfl rfl (by decide +kernel) hR) ⟨xb_I, va_recv hK.1 hP (ci := 0) (q0 := 0) rfl rfl, fun U hU hW => ⟨rfl, by rw [hU]; exact hP, kW_I_warm hW hK⟩⟩ rfl rfl hsz rfl (lv_room hrs) hdg hc) kk
theorem d_Ir_isAhead_0 : decode b_Ir_isAhead 0 = .ok (.aload_n 0, 1) := by decide +kernel
theorem d_Ir_isAhead_1 : decode b_Ir_isAhead 1 = .ok (.getfield 51, 3) := by decide +kernel
theorem d_Ir_isAhead_4 : decode b_Ir_isAhead 4 = .ok (.iload_n 1, 1) := by decide +kernel
theorem d_Ir_isAhead_5 : decode b_Ir_isAhead 5 = .ok (.iaload, 1) := by decide +kernel
theorem d_Ir_isAhead_6 : decode b_Ir_isAhead 6 = .ok (.aload_n 0, 1) := by decide +kernel
theorem d_Ir_isAhead_7 : decode b_Ir_isAhead 7 = .ok (.getfield 51, 3) := by decide +kernel
theorem d_Ir_isAhead_10 : decode b_Ir_isAhead 10 = .ok (.iload_n 2, 1) := by decide +kernel
theorem d_Ir_isAhead_11 : decode b_Ir_isAhead 11 = .ok (.iaload, 1) := by decide +kernel
theorem d_Ir_isAhead_12 : decode b_Ir_isAhead 12 = .ok (.if_icmp .eq 24, 3) := by decide +kernel
theorem d_Ir_isAhead_15 : decode b_Ir_isAhead 15 = .ok (.aload_n 0, 1) := by decide +kernel
theorem d_Ir_isAhead_16 : decode b_Ir_isAhead 16 = .ok (.getfield 51, 3) := by decide +kernel
theorem d_Ir_isAhead_19 : decode b_Ir_isAhead 19 = .ok (.iload_n 1, 1) := by decide +kernel
theorem d_Ir_isAhead_20 : decode b_Ir_isAhead 20 = .ok (.iaload, 1) := by decide +kernel
theorem d_Ir_isAhead_21 : decode b_Ir_isAhead 21 = .ok (.aload_n 0, 1) := by decide +kernel
theorem d_Ir_isAhead_22 : decode b_Ir_isAhead 22 = .ok (.getfield 51, 3) := by decide +kernel
theorem d_Ir_isAhead_25 : decode b_Ir_isAhead 25 = .ok (.iload_n 2, 1) := by decide +kernel
theorem d_Ir_isAhead_26 : decode b_Ir_isAhead 26 = .ok (.iaload, 1) := by decide +kernel
theorem d_Ir_isAhead_27 : decode b_Ir_isAhead 27 = .ok (.if_icmp .le 7, 3) := by decide +kernel
theorem d_Ir_isAhead_30 : decode b_Ir_isAhead 30 = .ok (.iconst 1, 1) := by decide +kernel
theorem d_Ir_isAhead_31 : decode b_Ir_isAhead 31 = .ok (.goto 4, 3) := by decide +kernel
theorem d_Ir_isAhead_34 : decode b_Ir_isAhead 34 = .ok (.iconst 0, 1) := by decide +kernel
theorem d_Ir_isAhead_35 : decode b_Ir_isAhead 35 = .ok (.ireturn, 1) := by decide +kernel
theorem d_Ir_isAhead_36 : decode b_Ir_isAhead 36 = .ok (.aload_n 0, 1) := by decide +kernel
theorem d_Ir_isAhead_37 : decode b_Ir_isAhead 37 = .ok (.getfield 19, 3) := by decide +kernel
theorem d_Ir_isAhead_40 : decode b_Ir_isAhead 40 = .ok (.getfield 101, 3) := by decide +kernel
theorem d_Ir_isAhead_43 : decode b_Ir_isAhead 43 = .ok (.iload_n 1, 1) := by decide +kernel
theorem d_Ir_isAhead_44 : decode b_Ir_isAhead 44 = .ok (.iaload, 1) := by decide +kernel
theorem d_Ir_isAhead_45 : decode b_Ir_isAhead 45 = .ok (.aload_n 0, 1) := by decide +kernel
theorem d_Ir_isAhead_46 : decode b_Ir_isAhead 46 = .ok (.getfield 19, 3) := by decide +kernel
theorem d_Ir_isAhead_49 : decode b_Ir_isAhead 49 = .ok (.getfield 101, 3) := by decide +kernel
theorem d_Ir_isAhead_52 : decode b_Ir_isAhead 52 = .ok (.iload_n 2, 1) := by decide +kernel
theorem d_Ir_isAhead_53 : decode b_Ir_isAhead 53 = .ok (.iaload, 1) := by decide +kernel
theorem d_Ir_isAhead_54 : decode b_Ir_isAhead 54 = .ok (.if_icmp .eq 30, 3) := by decide +kernel
theorem d_Ir_isAhead_57 : decode b_Ir_isAhead 57 = .ok (.aload_n 0, 1) := by decide +kernel
theorem d_Ir_isAhead_58 : decode b_Ir_isAhead 58 = .ok (.getfield 19, 3) := by decide +kernel
theorem d_Ir_isAhead_61 : decode b_Ir_isAhead 61 = .ok (.getfield 101, 3) := by decide +kernel
theorem d_Ir_isAhead_64 : decode b_Ir_isAhead 64 = .ok (.iload_n 1, 1) := by decide +kernel
theorem d_Ir_isAhead_65 : decode b_Ir_isAhead 65 = .ok (.iaload, 1) := by decide +kernel
theorem d_Ir_isAhead_66 : decode b_Ir_isAhead 66 = .ok (.aload_n 0, 1) := by decide +kernel
theorem d_Ir_isAhead_67 : decode b_Ir_isAhead 67 = .ok (.getfield 19, 3) := by decide +kernel
theorem d_Ir_isAhead_70 : decode b_Ir_isAhead 70 = .ok (.getfield 101, 3) := by decide +kernel
theorem d_Ir_isAhead_73 : decode b_Ir_isAhead 73 = .ok (.iload_n 2, 1) := by decide +kernel
theorem d_Ir_isAhead_74 : decode b_Ir_isAhead 74 = .ok (.iaload, 1) := by decide +kernel
theorem d_Ir_isAhead_75 : decode b_Ir_isAhead 75 = .ok (.if_icmp .ge 7, 3) := by decide +kernel
theorem d_Ir_isAhead_78 : decode b_Ir_isAhead 78 = .ok (.iconst 1, 1) := by decide +kernel
theorem d_Ir_isAhead_79 : decode b_Ir_isAhead 79 = .ok (.goto 4, 3) := by decide +kernel
theorem d_Ir_isAhead_82 : decode b_Ir_isAhead 82 = .ok (.iconst 0, 1) := by decide +kernel
theorem d_Ir_isAhead_83 : decode b_Ir_isAhead 83 = .ok (.ireturn, 1) := by decide +kernel
theorem d_Ir_isAhead_84 : decode b_Ir_isAhead 84 = .ok (.iload_n 1, 1) := by decide +kernel
theorem d_Ir_isAhead_85 : decode b_Ir_isAhead 85 = .ok (.iload_n 2, 1) := by decide +kernel
theorem d_Ir_isAhead_86 : decode b_Ir_isAhead 86 = .ok (.if_icmp .ge 7, 3) := by decide +kernel
theorem d_Ir_isAhead_89 : decode b_Ir_isAhead 89 = .ok (.iconst 1, 1) := by decide +kernel
theorem d_Ir_isAhead_90 : decode b_Ir_isAhead 90 = .ok (.goto 4, 3) := by decide +kernel
theorem d_Ir_isAhead_93 : decode b_Ir_isAhead 93 = .ok (.iconst 0, 1) := by decide +kernel
theorem d_Ir_isAhead_94 : decode b_Ir_isAhead 94 = .ok (.ireturn, 1) := by decide +kernel
set_option maxHeartbeats 4000000 in
set_option maxRecDepth 100000 in
theorem c_Ir_isAhead (l : Launch) (dC : Nat → ClassId) (dI : Nat → Nat → Nat) (L : Nat → Nat) (cA : Nat → ClassId) (ar : Nat → Nat → Int32) (sc : Nat → Int32) (a0 : Int32) (a1 : Int32) (h : p_Ir_isAhead ar sc a0 a1) : Met l y_Ir_isAhead z_Ir_isAhead (rmD 0) (va_Pc [.ref (L 0), .int a0, .int a1] (fun U => xw_I dC dI L cA ar sc U)) (QcRead (f_Ir_isAhead ar sc a0 a1)) 0 0 (fun _ => False) := by
  refine Met.ofW (cc := b_Ir_isAhead) (maxL := 3) (ret := (some .boolean)) (by decide) rfl ?_
  intro p e s m args below meth c s₁ B hml hv
  obtain ⟨rfl, ⟨hP, hK⟩⟩ := hv
  have hx := B.exec
  have hb := B.bytes
  have hr := B.returns
  have hts : ∀ w ∈ w_all, w.before _ s = true := fun w hw => atoms_spec (ws := z_Ir_isAhead) B.pre w (List.mem_cons_of_mem _ hw)
  have hown : s.vm.findClass R_Ir = some m.cls := findClass_of_methodNamed B.named
  have hlocks := B.notSynchronized
  have hF : CallFix p m c b_Ir_isAhead 3 s _ w_all R_Ir := ⟨hx, hb, hml, hown, hts⟩
  have hl := lv_entry ([.ref (L 0), .int a0, .int a1]) (n := 3) (Nat.le_of_ble_eq_true rfl)
  rw [lg_entry_eq]
  generalize (lg_sl ([.ref (L 0), .int a0, .int a1]) ++ List.replicate (3 - (lg_sl ([.ref (L 0), .int a0, .int a1])).length) Slot.unset).toArray = ls at hl ⊢
  have hl : lv_has ls 3 [(0, .ref (L 0)), (1, .int a0), (2, .int a1)] := hl
  unfold p_Ir_isAhead at h
  refine lv_aload_n hx hb d_Ir_isAhead_0 rfl (lv_at hl 0 rfl) ?_
  refine gf_Ir_risks hF hK hP m_157 d_Ir_isAhead_1 ?_
  refine lv_iload_n hx hb d_Ir_isAhead_4 rfl (lv_at hl 1 rfl) ?_
  have k5 := h.1
  have h := h.2
  refine alI_37 hF hK hP k5 d_Ir_isAhead_5 ?_
  refine lv_aload_n hx hb d_Ir_isAhead_6 rfl (lv_at hl 0 rfl) ?_
  refine gf_Ir_risks hF hK hP m_157 d_Ir_isAhead_7 ?_
  refine lv_iload_n hx hb d_Ir_isAhead_10 rfl (lv_at hl 2 rfl) ?_
  have k11 := h.1
  have h := h.2
  refine alI_37 hF hK hP k11 d_Ir_isAhead_11 ?_
  refine lv_icmp_eq (tgt := 36) hx hb d_Ir_isAhead_12 (by decide) (fun c12 => ?_) (fun c12 => ?_)
  · have h := h.1 c12
    refine lv_aload_n hx hb d_Ir_isAhead_36 rfl (lv_at hl 0 rfl) ?_
    refine gf_Ir_points hF hK hP m_134 d_Ir_isAhead_37 ?_
    refine gn_Points_visits hF hK hP mn_6 d_Ir_isAhead_40 ?_
    refine lv_iload_n hx hb d_Ir_isAhead_43 rfl (lv_at hl 1 rfl) ?_
    have k44 := h.1
    have h := h.2
    refine alI_11 hF hK hP k44 d_Ir_isAhead_44 ?_
    refine lv_aload_n hx hb d_Ir_isAhead_45 rfl (lv_at hl 0 rfl) ?_
    refine gf_Ir_points hF hK hP m_134 d_Ir_isAhead_46 ?_
    refine gn_Points_visits hF hK hP mn_6 d_Ir_isAhead_49 ?_
    refine lv_iload_n hx hb d_Ir_isAhead_52 rfl (lv_at hl 2 rfl) ?_
    have k53 := h.1
    have h := h.2
    refine alI_11 hF hK hP k53 d_Ir_isAhead_53 ?_
    refine lv_icmp_eq (tgt := 84) hx hb d_Ir_isAhead_54 (by decide) (fun c54 => ?_) (fun c54 => ?_)
    · have h := h.1 c54
      refine lv_iload_n hx hb d_Ir_isAhead_84 rfl (lv_at hl 1 rfl) ?_
      refine lv_iload_n hx hb d_Ir_isAhead_85 rfl (lv_at hl 2 rfl) ?_
      refine lv_icmp_ge (tgt := 93) hx hb d_Ir_isAhead_86 (by decide) (fun c86 => ?_) (fun c86 => ?_)
      · refine lv_iconst (v := 0) hx hb d_Ir_isAhead_93 (by decide) ?_
        have hv : (0 : Int32) = f_Ir_isAhead ar sc a0 a1 := by rw [f_Ir_isAhead, if_pos c12, if_pos c54, if_pos c86]
        exact W.zret (ty := .boolean) (v := 0) hx hb hr rfl (fun t ht hW => ⟨congrArg (fun z => Outcome.returned (some (Value.int z))) hv, ht⟩) (fun _ h9 => nomatch h9) d_Ir_isAhead_94
      · refine lv_iconst (v := 1) hx hb d_Ir_isAhead_89 (by decide) ?_
        refine lv_goto (tgt := 94) hx hb d_Ir_isAhead_90 (by decide) ?_
        have hv : (1 : Int32) = f_Ir_isAhead ar sc a0 a1 := by rw [f_Ir_isAhead, if_pos c12, if_pos c54, if_neg c86]
        exact W.zret (ty := .boolean) (v := 1) hx hb hr rfl (fun t ht hW => ⟨congrArg (fun z => Outcome.returned (some (Value.int z))) hv, ht⟩) (fun _ h9 => nomatch h9) d_Ir_isAhead_94
    · have h := h.2 c54
      refine lv_aload_n hx hb d_Ir_isAhead_57 rfl (lv_at hl 0 rfl) ?_
      refine gf_Ir_points hF hK hP m_134 d_Ir_isAhead_58 ?_
      refine gn_Points_visits hF hK hP mn_6 d_Ir_isAhead_61 ?_
      refine lv_iload_n hx hb d_Ir_isAhead_64 rfl (lv_at hl 1 rfl) ?_
      have k65 := h.1
      have h := h.2
      refine alI_11 hF hK hP k65 d_Ir_isAhead_65 ?_
      refine lv_aload_n hx hb d_Ir_isAhead_66 rfl (lv_at hl 0 rfl) ?_
      refine gf_Ir_points hF hK hP m_134 d_Ir_isAhead_67 ?_
      refine gn_Points_visits hF hK hP mn_6 d_Ir_isAhead_70 ?_
      refine lv_iload_n hx hb d_Ir_isAhead_73 rfl (lv_at hl 2 rfl) ?_
      have k74 := h
      refine alI_11 hF hK hP k74 d_Ir_isAhead_74 ?_
      refine lv_icmp_ge (tgt := 82) hx hb d_Ir_isAhead_75 (by decide) (fun c75 => ?_) (fun c75 => ?_)
      · refine lv_iconst (v := 0) hx hb d_Ir_isAhead_82 (by decide) ?_
        have hv : (0 : Int32) = f_Ir_isAhead ar sc a0 a1 := by rw [f_Ir_isAhead, if_pos c12, if_neg c54, if_pos c75]
        exact W.zret (ty := .boolean) (v := 0) hx hb hr rfl (fun t ht hW => ⟨congrArg (fun z => Outcome.returned (some (Value.int z))) hv, ht⟩) (fun _ h9 => nomatch h9) d_Ir_isAhead_83
      · refine lv_iconst (v := 1) hx hb d_Ir_isAhead_78 (by decide) ?_
        refine lv_goto (tgt := 83) hx hb d_Ir_isAhead_79 (by decide) ?_
        have hv : (1 : Int32) = f_Ir_isAhead ar sc a0 a1 := by rw [f_Ir_isAhead, if_pos c12, if_neg c54, if_neg c75]
        exact W.zret (ty := .boolean) (v := 1) hx hb hr rfl (fun t ht hW => ⟨congrArg (fun z => Outcome.returned (some (Value.int z))) hv, ht⟩) (fun _ h9 => nomatch h9) d_Ir_isAhead_83
  · have h := h.2 c12
    refine lv_aload_n hx hb d_Ir_isAhead_15 rfl (lv_at hl 0 rfl) ?_
    refine gf_Ir_risks hF hK hP m_157 d_Ir_isAhead_16 ?_
    refine lv_iload_n hx hb d_Ir_isAhead_19 rfl (lv_at hl 1 rfl) ?_
    have k20 := h.1
    have h := h.2
    refine alI_37 hF hK hP k20 d_Ir_isAhead_20 ?_
    refine lv_aload_n hx hb d_Ir_isAhead_21 rfl (lv_at hl 0 rfl) ?_
    refine gf_Ir_risks hF hK hP m_157 d_Ir_isAhead_22 ?_
    refine lv_iload_n hx hb d_Ir_isAhead_25 rfl (lv_at hl 2 rfl) ?_
    have k26 := h
    refine alI_37 hF hK hP k26 d_Ir_isAhead_26 ?_
    refine lv_icmp_le (tgt := 34) hx hb d_Ir_isAhead_27 (by decide) (fun c27 => ?_) (fun c27 => ?_)
    · refine lv_iconst (v := 0) hx hb d_Ir_isAhead_34 (by decide) ?_
      have hv : (0 : Int32) = f_Ir_isAhead ar sc a0 a1 := by rw [f_Ir_isAhead, if_neg c12, if_pos c27]
      exact W.zret (ty := .boolean) (v := 0) hx hb hr rfl (fun t ht hW => ⟨congrArg (fun z => Outcome.returned (some (Value.int z))) hv, ht⟩) (fun _ h9 => nomatch h9) d_Ir_isAhead_35
    · refine lv_iconst (v := 1) hx hb d_Ir_isAhead_30 (by decide) ?_
      refine lv_goto (tgt := 35) hx hb d_Ir_isAhead_31 (by decide) ?_
      have hv : (1 : Int32) = f_Ir_isAhead ar sc a0 a1 := by rw [f_Ir_isAhead, if_neg c12, if_neg c27]
      exact W.zret (ty := .boolean) (v := 1) hx hb hr rfl (fun t ht hW => ⟨congrArg (fun z => Outcome.returned (some (Value.int z))) hv, ht⟩) (fun _ h9 => nomatch h9) d_Ir_isAhead_35
set_option maxHeartbeats 1000000 in
theorem r_Ir_isAhead {p : Program} {l : Launch} {e : Env} {R : Room} {s : State} {m : MethodId} {args : Array Value} {below : List Frame} {meth : Method} {c : Code} {H : Heap} {locs : List Loc} {cells slots : Nat} {Q : State → Prop} {cc : ByteArray} {nL pc idx : Nat} {ls : Array Slot} {rest : List Value} {own : String} {dC : Nat → ClassId} {dI : Nat → Nat → Nat} {L : Nat → Nat} {cA : Nat → ClassId} {ar : Nat → Nat → Int32} {sc : Nat → Int32} {a0 : Int32} {a1 : Int32} (hF : CallFix p m c cc nL s args w_all own) (hK : kW_I dC dI cA s) (hP : va_P (dC, dI) classes (wI L cA ar sc) H) (h : p_Ir_isAhead ar sc a0 a1) (hlk : Cond.methodLink own idx y_Ir_isAhead ∈ w_all) (hsz : ls.size = nL) (hR : (rmD 0).frames + 1 ≤ R.frames ∧ 8 + (3 + 11) + (rmD 0).locals ≤ R.locals) (hc : cells ≤ R.cells ∧ slots ≤ R.slots) (hrs : (rest.map fun v => v.category).sum ≤ 8) (hdg : decode cc pc = .ok (.invokevirtual idx, 3)) (kk : W p l e R s m args below meth c H locs cells slots Q (F0 m (pc + 3) ls (.int (f_Ir_isAhead ar sc a0 a1) :: rest))) : W p l e R s m args below meth c H locs cells slots Q (F0 m pc ls (.int a1 :: .int a0 :: .ref (L 0) :: rest)) :=
  W.callR (W.runV (As := [.int a0, .int a1]) (rest := rest) hF (c_Ir_isAhead l dC dI L cA ar sc a0 a1 h) (cwV 2 hF.2.2.2.2 (gV hlk m_176 m_177 m_129 m_178) rfl rfl rfl (by decide +kernel) hR) ⟨xb_I, va_recv hK.1 hP (ci := 0) (q0 := 0) rfl rfl, fun U hU hW => ⟨rfl, by rw [hU]; exact hP, kW_I_warm hW hK⟩⟩ rfl rfl hsz rfl (lv_room hrs) hdg hc) kk
theorem d_Ir_countDueAhead_0 : decode b_Ir_countDueAhead 0 = .ok (.iconst 0, 1) := by decide +kernel
theorem d_Ir_countDueAhead_1 : decode b_Ir_countDueAhead 1 = .ok (.istore_n 3, 1) := by decide +kernel
theorem d_Ir_countDueAhead_2 : decode b_Ir_countDueAhead 2 = .ok (.iconst 0, 1) := by decide +kernel
theorem d_Ir_countDueAhead_3 : decode b_Ir_countDueAhead 3 = .ok (.istore 4, 2) := by decide +kernel
theorem d_Ir_countDueAhead_5 : decode b_Ir_countDueAhead 5 = .ok (.iload 4, 2) := by decide +kernel
theorem d_Ir_countDueAhead_7 : decode b_Ir_countDueAhead 7 = .ok (.aload_n 0, 1) := by decide +kernel
theorem d_Ir_countDueAhead_8 : decode b_Ir_countDueAhead 8 = .ok (.getfield 19, 3) := by decide +kernel
theorem d_Ir_countDueAhead_11 : decode b_Ir_countDueAhead 11 = .ok (.getfield 87, 3) := by decide +kernel
theorem d_Ir_countDueAhead_14 : decode b_Ir_countDueAhead 14 = .ok (.if_icmp .ge 32, 3) := by decide +kernel
theorem d_Ir_countDueAhead_17 : decode b_Ir_countDueAhead 17 = .ok (.aload_n 0, 1) := by decide +kernel
theorem d_Ir_countDueAhead_18 : decode b_Ir_countDueAhead 18 = .ok (.iload 4, 2) := by decide +kernel
theorem d_Ir_countDueAhead_20 : decode b_Ir_countDueAhead 20 = .ok (.iload_n 1, 1) := by decide +kernel
theorem d_Ir_countDueAhead_21 : decode b_Ir_countDueAhead 21 = .ok (.invokevirtual 261, 3) := by decide +kernel
theorem d_Ir_countDueAhead_24 : decode b_Ir_countDueAhead 24 = .ok (.ifCond .eq 16, 3) := by decide +kernel
theorem d_Ir_countDueAhead_27 : decode b_Ir_countDueAhead 27 = .ok (.aload_n 0, 1) := by decide +kernel
theorem d_Ir_countDueAhead_28 : decode b_Ir_countDueAhead 28 = .ok (.iload 4, 2) := by decide +kernel
theorem d_Ir_countDueAhead_30 : decode b_Ir_countDueAhead 30 = .ok (.invokevirtual 139, 3) := by decide +kernel
theorem d_Ir_countDueAhead_33 : decode b_Ir_countDueAhead 33 = .ok (.iload_n 2, 1) := by decide +kernel
theorem d_Ir_countDueAhead_34 : decode b_Ir_countDueAhead 34 = .ok (.if_icmp .gt 6, 3) := by decide +kernel
theorem d_Ir_countDueAhead_37 : decode b_Ir_countDueAhead 37 = .ok (.iinc 3 1, 3) := by decide +kernel
theorem d_Ir_countDueAhead_40 : decode b_Ir_countDueAhead 40 = .ok (.iinc 4 1, 3) := by decide +kernel
theorem d_Ir_countDueAhead_43 : decode b_Ir_countDueAhead 43 = .ok (.goto (-38), 3) := by decide +kernel
theorem d_Ir_countDueAhead_46 : decode b_Ir_countDueAhead 46 = .ok (.iload_n 3, 1) := by decide +kernel
theorem d_Ir_countDueAhead_47 : decode b_Ir_countDueAhead 47 = .ok (.ireturn, 1) := by decide +kernel
set_option maxHeartbeats 4000000 in
set_option maxRecDepth 100000 in
theorem l_Ir_countDueAhead_5 {p : Program} {l : Launch} {e : Env} {s : State} {m : MethodId} {args : Array Value} {below : List Frame} {meth : Method} {c : Code} {dC : Nat → ClassId} {dI : Nat → Nat → Nat} {L : Nat → Nat} {cA : Nat → ClassId} {ar : Nat → Nat → Int32} {sc : Nat → Int32} {Q : State → Prop} {H : Heap} {locs : List Loc} (a0 : Int32) (a1 : Int32)  (hF : CallFix p m c b_Ir_countDueAhead 5 s args w_all R_Ir) (hK : kW_I dC dI cA s) (hP : va_P (dC, dI) classes (wI L cA ar sc) H) : ∀ (n : Nat) (v3 : Int32) (v4 : Int32), q_Ir_countDueAhead_5 ar sc a0 a1 n v3 v4 → ∀ (ls : Array Slot), lv_has ls 5 [(3, .int v3), (4, .int v4), (0, .ref (L 0)), (1, .int a0), (2, .int a1)] → (∀ (ls : Array Slot), lv_has ls 5 [(3, .int ((g_Ir_countDueAhead_5 ar sc a0 a1 n v3 v4).1)), (4, .int ((g_Ir_countDueAhead_5 ar sc a0 a1 n v3 v4).2)), (0, .ref (L 0)), (1, .int a0), (2, .int a1)] → W p l e (rmD 2) s m args below meth c H locs 0 0 Q (F0 m 46 ls [])) → W p l e (rmD 2) s m args below meth c H locs 0 0 Q (F0 m 5 ls []) := by
  have hx := hF.1
  have hb := hF.2.1
  have hown := hF.2.2.2.1
  have hts := hF.2.2.2.2
  intro n
  induction n with
  | zero => intro v3 v4 h; exact False.elim h
  | succ n ih =>
    intro v3 v4 h ls hl hk
    rw [q_Ir_countDueAhead_5] at h
    refine lv_iload hx hb d_Ir_countDueAhead_5 (lv_at hl 1 rfl) ?_
    refine lv_aload_n hx hb d_Ir_countDueAhead_7 rfl (lv_at hl 2 rfl) ?_
    refine gf_Ir_points hF hK hP m_134 d_Ir_countDueAhead_8 ?_
    refine gn_Points_count hF hK hP mn_0 d_Ir_countDueAhead_11 ?_
    refine lv_icmp_ge (tgt := 46) hx hb d_Ir_countDueAhead_14 (by decide) (fun c14 => ?_) (fun c14 => ?_)
    · have h := h.1 c14
      have hv : g_Ir_countDueAhead_5 ar sc a0 a1 (n + 1) v3 v4 = ((v3, v4) : Int32 × Int32) := by rw [g_Ir_countDueAhead_5, if_pos c14]
      rw [hv] at hk
      exact hk ls (lv_sub hl [0, 1, 2, 3, 4] rfl)
    · have h := h.2 c14
      refine lv_aload_n hx hb d_Ir_countDueAhead_17 rfl (lv_at hl 2 rfl) ?_
      refine lv_iload hx hb d_Ir_countDueAhead_18 (lv_at hl 1 rfl) ?_
      refine lv_iload_n hx hb d_Ir_countDueAhead_20 rfl (lv_at hl 3 rfl) ?_
      have k21 := h.1
      have h := h.2
      refine r_Ir_isAhead hF hK hP k21 m_179 hl.1 ⟨Nat.le_of_ble_eq_true rfl, Nat.le_of_ble_eq_true rfl⟩ ⟨Nat.zero_le _, Nat.zero_le _⟩ (Nat.le_of_ble_eq_true rfl) d_Ir_countDueAhead_21 ?_
      refine lv_if_eq (tgt := 40) hx hb d_Ir_countDueAhead_24 (by decide) (fun c24 => ?_) (fun c24 => ?_)
      · have h := h.1 c24
        refine lv_iinc (v := v4 + 1) (lv' := [(4, .int (v4 + 1)), (3, .int v3), (0, .ref (L 0)), (1, .int a0), (2, .int a1)]) hx hb d_Ir_countDueAhead_40 hl (k := 1) rfl rfl (by decide) rfl (fun ls hl => ?_)
        refine lv_goto (tgt := 5) hx hb d_Ir_countDueAhead_43 (by decide) ?_
        have hv : g_Ir_countDueAhead_5 ar sc a0 a1 (n + 1) v3 v4 = g_Ir_countDueAhead_5 ar sc a0 a1 n v3 (v4 + 1) := by rw [g_Ir_countDueAhead_5, if_neg c14, if_pos c24]
        rw [hv] at hk
        exact ih v3 (v4 + 1) h ls (lv_sub hl [1, 0, 2, 3, 4] rfl) hk
      · have h := h.2 c24
        refine lv_aload_n hx hb d_Ir_countDueAhead_27 rfl (lv_at hl 2 rfl) ?_
        refine lv_iload hx hb d_Ir_countDueAhead_28 (lv_at hl 1 rfl) ?_
        have k30 := h.1
        have h := h.2
        refine r_Ir_firstDueDay hF hK hP k30 m_180 hl.1 ⟨Nat.le_of_ble_eq_true rfl, Nat.le_of_ble_eq_true rfl⟩ ⟨Nat.zero_le _, Nat.zero_le _⟩ (Nat.le_of_ble_eq_true rfl) d_Ir_countDueAhead_30 ?_
        refine lv_iload_n hx hb d_Ir_countDueAhead_33 rfl (lv_at hl 4 rfl) ?_
        refine lv_icmp_gt (tgt := 40) hx hb d_Ir_countDueAhead_34 (by decide) (fun c34 => ?_) (fun c34 => ?_)
        · have h := h.1 c34
          refine lv_iinc (v := v4 + 1) (lv' := [(4, .int (v4 + 1)), (3, .int v3), (0, .ref (L 0)), (1, .int a0), (2, .int a1)]) hx hb d_Ir_countDueAhead_40 hl (k := 1) rfl rfl (by decide) rfl (fun ls hl => ?_)
          refine lv_goto (tgt := 5) hx hb d_Ir_countDueAhead_43 (by decide) ?_
          have hv : g_Ir_countDueAhead_5 ar sc a0 a1 (n + 1) v3 v4 = g_Ir_countDueAhead_5 ar sc a0 a1 n v3 (v4 + 1) := by rw [g_Ir_countDueAhead_5, if_neg c14, if_neg c24, if_pos c34]
          rw [hv] at hk
          exact ih v3 (v4 + 1) h ls (lv_sub hl [1, 0, 2, 3, 4] rfl) hk
        · have h := h.2 c34
          refine lv_iinc (v := v3 + 1) (lv' := [(3, .int (v3 + 1)), (4, .int v4), (0, .ref (L 0)), (1, .int a0), (2, .int a1)]) hx hb d_Ir_countDueAhead_37 hl (k := 0) rfl rfl (by decide) rfl (fun ls hl => ?_)
          refine lv_iinc (v := v4 + 1) (lv' := [(4, .int (v4 + 1)), (3, .int (v3 + 1)), (0, .ref (L 0)), (1, .int a0), (2, .int a1)]) hx hb d_Ir_countDueAhead_40 hl (k := 1) rfl rfl (by decide) rfl (fun ls hl => ?_)
          refine lv_goto (tgt := 5) hx hb d_Ir_countDueAhead_43 (by decide) ?_
          have hv : g_Ir_countDueAhead_5 ar sc a0 a1 (n + 1) v3 v4 = g_Ir_countDueAhead_5 ar sc a0 a1 n (v3 + 1) (v4 + 1) := by rw [g_Ir_countDueAhead_5, if_neg c14, if_neg c24, if_neg c34]
          rw [hv] at hk
          exact ih (v3 + 1) (v4 + 1) h ls (lv_sub hl [1, 0, 2, 3, 4] rfl) hk
set_option maxHeartbeats 4000000 in
set_option maxRecDepth 100000 in
theorem c_Ir_countDueAhead (l : Launch) (dC : Nat → ClassId) (dI : Nat → Nat → Nat) (L : Nat → Nat) (cA : Nat → ClassId) (ar : Nat → Nat → Int32) (sc : Nat → Int32) (a0 : Int32) (a1 : Int32) (h : p_Ir_countDueAhead ar sc a0 a1) : Met l y_Ir_countDueAhead z_Ir_countDueAhead (rmD 2) (va_Pc [.ref (L 0), .int a0, .int a1] (fun U => xw_I dC dI L cA ar sc U)) (QcRead (f_Ir_countDueAhead ar sc a0 a1)) 0 0 (fun _ => False) := by
  refine Met.ofW (cc := b_Ir_countDueAhead) (maxL := 5) (ret := (some .int)) (by decide) rfl ?_
  intro p e s m args below meth c s₁ B hml hv
  obtain ⟨rfl, ⟨hP, hK⟩⟩ := hv
  have hx := B.exec
  have hb := B.bytes
  have hr := B.returns
  have hts : ∀ w ∈ w_all, w.before _ s = true := fun w hw => atoms_spec (ws := z_Ir_countDueAhead) B.pre w (List.mem_cons_of_mem _ hw)
  have hown : s.vm.findClass R_Ir = some m.cls := findClass_of_methodNamed B.named
  have hlocks := B.notSynchronized
  have hF : CallFix p m c b_Ir_countDueAhead 5 s _ w_all R_Ir := ⟨hx, hb, hml, hown, hts⟩
  have hl := lv_entry ([.ref (L 0), .int a0, .int a1]) (n := 5) (Nat.le_of_ble_eq_true rfl)
  rw [lg_entry_eq]
  generalize (lg_sl ([.ref (L 0), .int a0, .int a1]) ++ List.replicate (5 - (lg_sl ([.ref (L 0), .int a0, .int a1])).length) Slot.unset).toArray = ls at hl ⊢
  have hl : lv_has ls 5 [(0, .ref (L 0)), (1, .int a0), (2, .int a1)] := hl
  unfold p_Ir_countDueAhead at h
  refine lv_iconst (v := 0) hx hb d_Ir_countDueAhead_0 (by decide) ?_
  refine lv_istore_n (lv' := [(3, .int 0), (0, .ref (L 0)), (1, .int a0), (2, .int a1)]) hx hb d_Ir_countDueAhead_1 rfl hl (by decide) rfl (fun ls hl => ?_)
  refine lv_iconst (v := 0) hx hb d_Ir_countDueAhead_2 (by decide) ?_
  refine lv_istore (lv' := [(4, .int 0), (3, .int 0), (0, .ref (L 0)), (1, .int a0), (2, .int a1)]) hx hb d_Ir_countDueAhead_3 hl (by decide) rfl (fun ls hl => ?_)
  have kL5 := h
  refine l_Ir_countDueAhead_5 a0 a1 hF hK hP 200 0 0 kL5 ls (lv_sub hl [1, 0, 2, 3, 4] rfl) (fun ls hl => ?_)
  refine lv_iload_n hx hb d_Ir_countDueAhead_46 rfl (lv_at hl 0 rfl) ?_
  have hv : ((g_Ir_countDueAhead_5 ar sc a0 a1 200 0 0).1 : Int32) = f_Ir_countDueAhead ar sc a0 a1 := by rw [f_Ir_countDueAhead]
  exact W.iret (v := (g_Ir_countDueAhead_5 ar sc a0 a1 200 0 0).1) hx hb hr (fun t ht hW => ⟨congrArg (fun z => Outcome.returned (some (Value.int z))) hv, ht⟩) (fun _ h9 => nomatch h9) d_Ir_countDueAhead_47
set_option maxHeartbeats 1000000 in
theorem r_Ir_countDueAhead {p : Program} {l : Launch} {e : Env} {R : Room} {s : State} {m : MethodId} {args : Array Value} {below : List Frame} {meth : Method} {c : Code} {H : Heap} {locs : List Loc} {cells slots : Nat} {Q : State → Prop} {cc : ByteArray} {nL pc idx : Nat} {ls : Array Slot} {rest : List Value} {own : String} {dC : Nat → ClassId} {dI : Nat → Nat → Nat} {L : Nat → Nat} {cA : Nat → ClassId} {ar : Nat → Nat → Int32} {sc : Nat → Int32} {a0 : Int32} {a1 : Int32} (hF : CallFix p m c cc nL s args w_all own) (hK : kW_I dC dI cA s) (hP : va_P (dC, dI) classes (wI L cA ar sc) H) (h : p_Ir_countDueAhead ar sc a0 a1) (hlk : Cond.methodLink own idx y_Ir_countDueAhead ∈ w_all) (hsz : ls.size = nL) (hR : (rmD 2).frames + 1 ≤ R.frames ∧ 8 + (5 + 11) + (rmD 2).locals ≤ R.locals) (hc : cells ≤ R.cells ∧ slots ≤ R.slots) (hrs : (rest.map fun v => v.category).sum ≤ 8) (hdg : decode cc pc = .ok (.invokevirtual idx, 3)) (kk : W p l e R s m args below meth c H locs cells slots Q (F0 m (pc + 3) ls (.int (f_Ir_countDueAhead ar sc a0 a1) :: rest))) : W p l e R s m args below meth c H locs cells slots Q (F0 m pc ls (.int a1 :: .int a0 :: .ref (L 0) :: rest)) :=
  W.callR (W.runV (As := [.int a0, .int a1]) (rest := rest) hF (c_Ir_countDueAhead l dC dI L cA ar sc a0 a1 h) (cwV 2 hF.2.2.2.2 (gV hlk m_181 m_182 m_129 m_183) rfl rfl rfl (by decide +kernel) hR) ⟨xb_I, va_recv hK.1 hP (ci := 0) (q0 := 0) rfl rfl, fun U hU hW => ⟨rfl, by rw [hU]; exact hP, kW_I_warm hW hK⟩⟩ rfl rfl hsz rfl (lv_room hrs) hdg hc) kk
end

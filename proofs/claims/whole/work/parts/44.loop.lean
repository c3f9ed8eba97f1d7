
/-! THE CLAIM OUT OF ONE WALK OF THE LAW'S BODY. Your part is whole_start (and what it stands on); all else here is the same for every law, but numbers. -/
def R_law : String := "InspectRowsLaw"
def lw_P (b : Addr) (xs : List Int32) (args : Array Value) (s : State) : Prop := args = #[.ref b] ∧ s.IntsAt b xs ∧ xs.length ≤ 3072 ∧ (Jvm.Cond.and given_1 narrow_1).before args s = true
def lw_Q (_ : Array Value) (s : State) (o : Outcome) (t : State) : Prop := o = .returned (some (.int 1)) ∧ Framed s o t [] 1092 12030
def lw_Z (below : List Frame) (a : Array Value) (s : State) : State → Prop := fun t => ∃ o, t.status = .running ∧ Ended t below o ∧ lw_Q a s o t
/-- the law's own end, with 1 on the stack, nothing written that was there before, its room as the claim has it -/
theorem lw_ret {p : Program} {l : Launch} {e : Env} {s : State} {m : MethodId} {below : List Frame} {meth : Method} {c : Code} {b : Nat} (hx : p.tables.exec = Jvm.exec) (hb : c.code = code) (hr : meth.sig.returnType = ret) (hlocks : meth.locks = false) {pc : Nat} {H : Heap} {ls : Array Slot} (hdg : decode code pc = .ok (.ireturn, 1)) : W p l e room_1 s m #[Value.ref b] below meth c H [] 1092 12030 (lw_Z below #[Value.ref b] s) (F0 m pc ls [.int 1]) := by
  intro T hT X
  obtain ⟨fs, hret, hrun, hended, hW, hframe⟩ := X.leave (v := some (.int 1)) (hlocks := hlocks) (fun h => by rw [hr] at h; cases h)
  have hmeth' : T.vm.method? m = some meth := X.method'
  refine ⟨T.setFrames fs, ?_, .returned (some (.int 1)), hrun, hended, rfl, ⟨_, rfl⟩, hW, hframe⟩
  jvm_step X.here [X.here.top, hx, hb, hdg, hmeth', hr, ret, narrow_b1]
  (try refine ⟨rfl, ?_⟩); (try refine ⟨rfl, ?_⟩)
  first | (intro acts; rw [hret _ acts rfl rfl rfl]) | rw [hret _ _ rfl rfl rfl]
  exact Steps.refl _
/-- what holds at the law's entry: the machine, the code, the tables' words (any of lw_tbl by 'hts w (by decide +kernel)'), the script of L ints xs at the cell b, what the Statement gives of the start (any of its parts by flat_of_before) -/
def lw_At (p : Program) (s : State) (m : MethodId) (meth : Method) (c : Code) (b L : Nat) (xs : Nat → Int32) : Prop :=
  p.tables.exec = Jvm.exec ∧ c.code = code ∧ meth.sig.returnType = ret ∧ c.maxLocals = 7 ∧ s.vm.findClass R_law = some m.cls ∧ (∀ w ∈ lw_tbl, w.before #[Value.ref b] s = true) ∧ va_X b L xs s s.heap ∧ b < s.heap.size ∧ meth.locks = false ∧ (Jvm.Cond.and given_1 narrow_1).before #[Value.ref b] s = true

set_option maxHeartbeats 8000000 in
set_option maxRecDepth 100000 in
theorem lw_loop {p : Program} {l : Launch} {e : Env} {s : State} {m : MethodId} {below : List Frame} {meth : Method} {c : Code} {dC : Nat → ClassId} {dI : Nat → Nat → Nat} {L : Nat → Nat} {cA : Nat → ClassId} {M : Nat → Nat} {cM : Nat → ClassId} {qo : Nat} {cO : ClassId} {sa : Nat → Nat} {b Ln : Nat} {xs : Nat → Int32} (hlt : l.stackTraces = false) (hLn : Ln ≤ 3072) (hr : meth.sig.returnType = ret) (hlocks : meth.locks = false) (hC : CallFix p m c code 7 s #[Value.ref b] w_all R_Lw) (hX : va_X b Ln xs s s.heap) (hbl : b < s.heap.size) (hF : lwF s dC dI L cA M cM qo cO sa) :
    ∀ (n j : Nat) (ar : Nat → Nat → Int32) (sc : Nat → Int32) (br : Nat → Nat → Int32) (bc : Nat → Int32) (fo : Nat → Int64) (H : Heap) (locs : List Loc) (ls : Array Slot), 6 * j ≤ Ln → Ln - 6 * j < n → lwS s dC dI L cA M cM qo cO ar sc br bc fo H locs → RL ar sc br bc → lv_has ls 7 [(0, .ref b), (1, .ref (L 0)), (2, .ref (M 0)), (3, .ref qo), (4, .int (nI (6 * j)))] →
      W p l e room_1 s m #[Value.ref b] below meth c H locs (64 + j) (3814 + 6 * j) (lw_Z below #[Value.ref b] s) (F0 m 23 ls []) := by
  have hx := hC.1
  have hb := hC.2.1
  have hbA : ¬ (fun q : Nat => s.heap.size ≤ q) b := Nat.not_le.mpr hbl
  intro n
  induction n with
  | zero => intro j ar sc br bc fo H locs ls h1 h2; omega
  | succ n ih =>
    intro j ar sc br bc fo H locs ls h1 h2 hW hR hl
    refine lv_iload hx hb d_Law_23 (lv_at hl 4 rfl) ?_
    refine lv_aload_n hx hb d_Law_25 rfl (lv_at hl 0 rfl) ?_
    refine va_slen hx hb hX hbl hbA hW.2.2.2 d_Law_26 ?_
    refine lv_bipush (v := 6) hx hb d_Law_27 (by decide) ?_
    refine lv_isub hx hb d_Law_29 ?_
    have hcmp : (Int32.ofNat Ln - 6) < nI (6 * j) ↔ Ln < 6 * j + 6 := by
      have e1 : (Int32.ofNat Ln - 6).toInt = (Ln : Int) - 6 := pk_sub_toInt (a := Ln) (b := 6) (by omega) (by decide)
      rw [Int32.lt_iff_toInt_lt, e1, nI_toInt (by omega)]
      omega
    refine lv_icmp_gt (tgt := 1443) hx hb d_Law_30 (by decide) (fun c30 => ?_) (fun c30 => ?_)
    · refine lv_iconst (v := 1) hx hb d_Law_1443 (by decide) ?_
      refine va_forget hW.2.2.2.2.2 ?_
      refine W.widen (k := 1092) (n := 12030) (by omega) (by omega) ?_
      exact lw_ret hx hb hr hlocks d_Law_1444
    · rw [hcmp] at c30
      have hj : 6 * j + 6 ≤ Ln := by omega
      have hin : ∀ k : Nat, k < 6 → vp_in (nI (6 * j + k)) Ln := fun k hk => vp_in_nI (by omega) (by omega)
      have hi0 : vp_in (nI (6 * j)) Ln := hin 0 (by decide)

      have hi1 : vp_in (nI (6 * j) + 1) Ln := by rw [show (1 : Int32) = nI 1 from rfl, nI_add]; exact hin 1 (by decide)
      have hi2 : vp_in (nI (6 * j) + 2) Ln := by rw [show (2 : Int32) = nI 2 from rfl, nI_add]; exact hin 2 (by decide)
      have hi3 : vp_in (nI (6 * j) + 3) Ln := by rw [show (3 : Int32) = nI 3 from rfl, nI_add]; exact hin 3 (by decide)
      have hi4 : vp_in (nI (6 * j) + 4) Ln := by rw [show (4 : Int32) = nI 4 from rfl, nI_add]; exact hin 4 (by decide)
      have hi5 : vp_in (nI (6 * j) + 5) Ln := by rw [show (5 : Int32) = nI 5 from rfl, nI_add]; exact hin 5 (by decide)
      have kk : ∀ (H1 : Heap) (locs1 : List Loc) (ar1 : Nat → Nat → Int32) (sc1 : Nat → Int32) (br1 : Nat → Nat → Int32) (bc1 : Nat → Int32) (fo1 : Nat → Int64) (ls1 : Array Slot), lwS s dC dI L cA M cM qo cO ar1 sc1 br1 bc1 fo1 H1 locs1 → RL ar1 sc1 br1 bc1 → lv_has ls1 7 [(0, .ref b), (1, .ref (L 0)), (2, .ref (M 0)), (3, .ref qo), (4, .int (nI (6 * j)))] → W p l e room_1 s m #[Value.ref b] below meth c H1 locs1 (64 + j + 1) (3814 + 6 * j + 6) (lw_Z below #[Value.ref b] s) (F0 m 1437 ls1 []) := by
        intro H1 locs1 ar1 sc1 br1 bc1 fo1 ls1 hW1 hR1 hl1
        have e6 : nI (6 * j) + 6 = nI (6 * (j + 1)) := by rw [show (6 : Int32) = nI 6 from rfl, nI_add, Nat.mul_add]
        refine lv_iinc (v := nI (6 * (j + 1))) (lv' := [(4, .int (nI (6 * (j + 1)))), (0, .ref b), (1, .ref (L 0)), (2, .ref (M 0)), (3, .ref qo)]) hx hb d_Law_1437 hl1 (k := 4) rfl e6 (by decide) rfl (fun ls hl => ?_)
        refine lv_goto (tgt := 23) hx hb d_Law_1440 (by decide) ?_
        refine W.cs (cells' := 64 + (j + 1)) (slots' := 3814 + 6 * (j + 1)) (by omega) (by omega) ?_
        exact ih (j + 1) ar1 sc1 br1 bc1 fo1 H1 locs1 ls (by omega) (by omega) hW1 hR1 (lv_sub hl [1, 2, 3, 4, 0] rfl)
      have hcn : 64 + j + 1 ≤ 1092 := by omega
      have hsn : 3814 + 6 * j + 6 ≤ 12030 := by omega
      refine lv_aload_n hx hb d_Law_33 rfl (lv_at hl 0 rfl) ?_
      refine lv_iload hx hb d_Law_34 (lv_at hl 4 rfl) ?_
      refine va_sld hx hb hX hbl hbA hW.2.2.2 hi0 d_Law_36 ?_
      refine lv_bipush (v := 31) hx hb d_Law_37 (by decide) ?_
      refine lv_iand hx hb d_Law_39 ?_
      refine lv_topi (fun y ey => ?_)
      by_cases c0 : y = 0
      · refine lv_tableIn (off := 100) (tgt := 140) hx hb d_Law_40 (by rw [c0]; decide) (by rw [c0]; decide) (by rw [c0]; decide) (by decide) ?_
        exact lc_weight hlt hC hX hbl hF hW hR hi1 hi2 hi3 hi4 hi5 hcn hsn hl kk
      by_cases c1 : y = 1
      · refine lv_tableIn (off := 148) (tgt := 188) hx hb d_Law_40 (by rw [c1]; decide) (by rw [c1]; decide) (by rw [c1]; decide) (by decide) ?_
        exact lc_steps hlt hC hX hbl hF hW hR hi1 hi2 hi3 hi4 hi5 hcn hsn hl kk
      by_cases c2 : y = 2
      · refine lv_tableIn (off := 208) (tgt := 248) hx hb d_Law_40 (by rw [c2]; decide) (by rw [c2]; decide) (by rw [c2]; decide) (by decide) ?_
        exact lc_interval hlt hC hX hbl hF hW hR hi1 hi2 hi3 hi4 hi5 hcn hsn hl kk
      by_cases c3 : y = 3
      · refine lv_tableIn (off := 268) (tgt := 308) hx hb d_Law_40 (by rw [c3]; decide) (by rw [c3]; decide) (by rw [c3]; decide) (by decide) ?_
        exact lc_point hlt hC hX hbl hF hW hR hi1 hi2 hi3 hi4 hi5 hcn hsn hl kk
      by_cases c4 : y = 4
      · refine lv_tableIn (off := 372) (tgt := 412) hx hb d_Law_40 (by rw [c4]; decide) (by rw [c4]; decide) (by rw [c4]; decide) (by decide) ?_
        exact lc_day hlt hC hX hbl hF hW hR hi1 hi2 hi3 hi4 hi5 hcn hsn hl kk
      by_cases c5 : y = 5
      · refine lv_tableIn (off := 408) (tgt := 448) hx hb d_Law_40 (by rw [c5]; decide) (by rw [c5]; decide) (by rw [c5]; decide) (by decide) ?_
        exact lc_visit hlt hC hX hbl hF hW hR hi1 hi2 hi3 hi4 hi5 hcn hsn hl kk
      by_cases c6 : y = 6
      · refine lv_tableIn (off := 444) (tgt := 484) hx hb d_Law_40 (by rw [c6]; decide) (by rw [c6]; decide) (by rw [c6]; decide) (by decide) ?_
        exact lc_finding hlt hC hX hbl hF hW hR hi1 hi2 hi3 hi4 hi5 hcn hsn hl kk
      by_cases c7 : y = 7
      · refine lv_tableIn (off := 524) (tgt := 564) hx hb d_Law_40 (by rw [c7]; decide) (by rw [c7]; decide) (by rw [c7]; decide) (by decide) ?_
        exact lc_done hlt hC hX hbl hF hW hR hi1 hi2 hi3 hi4 hi5 hcn hsn hl kk
      by_cases c8 : y = 8
      · refine lv_tableIn (off := 572) (tgt := 612) hx hb d_Law_40 (by rw [c8]; decide) (by rw [c8]; decide) (by rw [c8]; decide) (by decide) ?_
        exact lc_findingAt hlt hC hX hbl hF hW hR hi1 hi2 hi3 hi4 hi5 hcn hsn hl kk
      by_cases c9 : y = 9
      · refine lv_tableIn (off := 640) (tgt := 680) hx hb d_Law_40 (by rw [c9]; decide) (by rw [c9]; decide) (by rw [c9]; decide) (by decide) ?_
        exact lc_pointAt hlt hC hX hbl hF hW hR hi1 hi2 hi3 hi4 hi5 hcn hsn hl kk
      by_cases c10 : y = 10
      · refine lv_tableIn (off := 708) (tgt := 748) hx hb d_Law_40 (by rw [c10]; decide) (by rw [c10]; decide) (by rw [c10]; decide) (by decide) ?_
        exact lc_due hlt hC hX hbl hF hW hR hi1 hi2 hi3 hi4 hi5 hcn hsn hl kk
      by_cases c11 : y = 11
      · refine lv_tableIn (off := 776) (tgt := 816) hx hb d_Law_40 (by rw [c11]; decide) (by rw [c11]; decide) (by rw [c11]; decide) (by decide) ?_
        exact lc_question hlt hC hX hbl hF hW hR hi1 hi2 hi3 hi4 hi5 hcn hsn hl kk
      by_cases c12 : y = 12
      · refine lv_tableIn (off := 848) (tgt := 888) hx hb d_Law_40 (by rw [c12]; decide) (by rw [c12]; decide) (by rw [c12]; decide) (by decide) ?_
        exact lc_list hlt hC hX hbl hF hW hR hi1 hi2 hi3 hi4 hi5 hcn hsn hl kk
      by_cases c13 : y = 13
      · refine lv_tableIn (off := 916) (tgt := 956) hx hb d_Law_40 (by rw [c13]; decide) (by rw [c13]; decide) (by rw [c13]; decide) (by decide) ?_
        exact lc_walk hlt hC hX hbl hF hW hR hi1 hi2 hi3 hi4 hi5 hcn hsn hl kk
      by_cases c14 : y = 14
      · refine lv_tableIn (off := 1016) (tgt := 1056) hx hb d_Law_40 (by rw [c14]; decide) (by rw [c14]; decide) (by rw [c14]; decide) (by decide) ?_
        exact lc_stop hlt hC hX hbl hF hW hR hi1 hi2 hi3 hi4 hi5 hcn hsn hl kk
      by_cases c15 : y = 15
      · refine lv_tableIn (off := 1072) (tgt := 1112) hx hb d_Law_40 (by rw [c15]; decide) (by rw [c15]; decide) (by rw [c15]; decide) (by decide) ?_
        exact lc_rules hlt hC hX hbl hF hW hR hi1 hi2 hi3 hi4 hi5 hcn hsn hl kk
      by_cases c16 : y = 16
      · refine lv_tableIn (off := 1120) (tgt := 1160) hx hb d_Law_40 (by rw [c16]; decide) (by rw [c16]; decide) (by rw [c16]; decide) (by decide) ?_
        exact lc_permit hlt hC hX hbl hF hW hR hi1 hi2 hi3 hi4 hi5 hcn hsn hl kk
      by_cases c17 : y = 17
      · refine lv_tableIn (off := 1200) (tgt := 1240) hx hb d_Law_40 (by rw [c17]; decide) (by rw [c17]; decide) (by rw [c17]; decide) (by decide) ?_
        exact lc_ground hlt hC hX hbl hF hW hR hi1 hi2 hi3 hi4 hi5 hcn hsn hl kk
      by_cases c18 : y = 18
      · refine lv_tableIn (off := 1272) (tgt := 1312) hx hb d_Law_40 (by rw [c18]; decide) (by rw [c18]; decide) (by rw [c18]; decide) (by decide) ?_
        exact lc_clash hlt hC hX hbl hF hW hR hi1 hi2 hi3 hi4 hi5 hcn hsn hl kk
      by_cases c19 : y = 19
      · refine lv_tableIn (off := 1285) (tgt := 1325) hx hb d_Law_40 (by rw [c19]; decide) (by rw [c19]; decide) (by rw [c19]; decide) (by decide) ?_
        exact lc_touches hlt hC hX hbl hF hW hR hi1 hi2 hi3 hi4 hi5 hcn hsn hl kk
      by_cases c20 : y = 20
      · refine lv_tableIn (off := 1341) (tgt := 1381) hx hb d_Law_40 (by rw [c20]; decide) (by rw [c20]; decide) (by rw [c20]; decide) (by decide) ?_
        exact lc_surprise hlt hC hX hbl hF hW hR hi1 hi2 hi3 hi4 hi5 hcn hsn hl kk
      refine lv_tableOut (tgt := 1437) hx hb d_Law_40 (by have h0 := lv_neT (a := 0) c0 rfl; have h1 := lv_neT (a := 1) c1 rfl; have h2 := lv_neT (a := 2) c2 rfl; have h3 := lv_neT (a := 3) c3 rfl; have h4 := lv_neT (a := 4) c4 rfl; have h5 := lv_neT (a := 5) c5 rfl; have h6 := lv_neT (a := 6) c6 rfl; have h7 := lv_neT (a := 7) c7 rfl; have h8 := lv_neT (a := 8) c8 rfl; have h9 := lv_neT (a := 9) c9 rfl; have h10 := lv_neT (a := 10) c10 rfl; have h11 := lv_neT (a := 11) c11 rfl; have h12 := lv_neT (a := 12) c12 rfl; have h13 := lv_neT (a := 13) c13 rfl; have h14 := lv_neT (a := 14) c14 rfl; have h15 := lv_neT (a := 15) c15 rfl; have h16 := lv_neT (a := 16) c16 rfl; have h17 := lv_neT (a := 17) c17 rfl; have h18 := lv_neT (a := 18) c18 rfl; have h19 := lv_neT (a := 19) c19 rfl; have h20 := lv_neT (a := 20) c20 rfl; omega) (by decide) ?_
      refine W.widen (k := 64 + j + 1) (n := 3814 + 6 * j + 6) (by omega) (by omega) ?_
      exact kk H locs ar sc br bc fo ls hW hR hl

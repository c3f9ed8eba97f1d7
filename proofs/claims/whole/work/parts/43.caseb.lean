theorem m_616 : (Cond.methodLink R_Lw 132 y_Lw_due) ∈ w_all := List.mem_filter.mpr ⟨List.mem_of_getElem? (i := 548) (by decide +kernel), by decide +kernel⟩
theorem m_617 : (Cond.methodLink R_Lw 134 y_Mo_due) ∈ w_all := List.mem_filter.mpr ⟨List.mem_of_getElem? (i := 903) (by decide +kernel), by decide +kernel⟩
theorem m_618 : (Cond.methodLink R_Lw 135 y_Lw_question) ∈ w_all := List.mem_filter.mpr ⟨List.mem_of_getElem? (i := 563) (by decide +kernel), by decide +kernel⟩
theorem m_619 : (Cond.methodLink R_Lw 138 y_Mo_question) ∈ w_all := List.mem_filter.mpr ⟨List.mem_of_getElem? (i := 911) (by decide +kernel), by decide +kernel⟩
theorem m_620 : (Cond.methodLink R_Lw 139 y_Lw_list) ∈ w_all := List.mem_filter.mpr ⟨List.mem_of_getElem? (i := 577) (by decide +kernel), by decide +kernel⟩
theorem m_621 : (Cond.methodLink R_Lw 141 y_Mo_list) ∈ w_all := List.mem_filter.mpr ⟨List.mem_of_getElem? (i := 915) (by decide +kernel), by decide +kernel⟩
theorem m_622 : (Cond.constantLong R_Lw 142 4294967295) ∈ w_all := List.mem_filter.mpr ⟨List.mem_of_getElem? (i := 993) (by decide +kernel), by decide +kernel⟩
theorem m_623 : (Cond.methodLink R_Lw 144 y_Lw_walk) ∈ w_all := List.mem_filter.mpr ⟨List.mem_of_getElem? (i := 588) (by decide +kernel), by decide +kernel⟩
theorem m_624 : (Cond.methodLink R_Lw 147 y_Mo_walk) ∈ w_all := List.mem_filter.mpr ⟨List.mem_of_getElem? (i := 923) (by decide +kernel), by decide +kernel⟩
theorem m_625 : (Cond.methodLink R_Lw 148 y_Lw_stop) ∈ w_all := List.mem_filter.mpr ⟨List.mem_of_getElem? (i := 640) (by decide +kernel), by decide +kernel⟩
theorem m_626 : (Cond.methodLink R_Lw 151 y_Mo_stop) ∈ w_all := List.mem_filter.mpr ⟨List.mem_of_getElem? (i := 946) (by decide +kernel), by decide +kernel⟩
theorem m_627 : (Cond.methodLink R_Lw 152 y_Lw_rules) ∈ w_all := List.mem_filter.mpr ⟨List.mem_of_getElem? (i := 647) (by decide +kernel), by decide +kernel⟩
theorem m_628 : (Cond.methodLink R_Lw 154 y_Mo_rules) ∈ w_all := List.mem_filter.mpr ⟨List.mem_of_getElem? (i := 950) (by decide +kernel), by decide +kernel⟩
theorem m_629 : (Cond.methodLink R_Lw 155 y_Lw_permit) ∈ w_all := List.mem_filter.mpr ⟨List.mem_of_getElem? (i := 656) (by decide +kernel), by decide +kernel⟩
theorem m_630 : (Cond.methodLink R_Lw 157 y_Mo_permit) ∈ w_all := List.mem_filter.mpr ⟨List.mem_of_getElem? (i := 964) (by decide +kernel), by decide +kernel⟩
theorem m_631 : (Cond.methodLink R_Lw 158 y_Lw_ground) ∈ w_all := List.mem_filter.mpr ⟨List.mem_of_getElem? (i := 686) (by decide +kernel), by decide +kernel⟩
theorem m_632 : (Cond.methodLink R_Lw 160 y_Mo_ground) ∈ w_all := List.mem_filter.mpr ⟨List.mem_of_getElem? (i := 956) (by decide +kernel), by decide +kernel⟩
theorem m_633 : (Cond.methodLink R_Lw 161 y_Ir_clash) ∈ w_all := List.mem_filter.mpr ⟨List.mem_of_getElem? (i := 279) (by decide +kernel), by decide +kernel⟩
theorem m_634 : (Cond.methodLink R_Lw 164 y_Mo_clash) ∈ w_all := List.mem_filter.mpr ⟨List.mem_of_getElem? (i := 980) (by decide +kernel), by decide +kernel⟩
theorem m_635 : (Cond.methodLink R_Lw 165 y_Lw_touches) ∈ w_all := List.mem_filter.mpr ⟨List.mem_of_getElem? (i := 701) (by decide +kernel), by decide +kernel⟩
theorem m_636 : (Cond.methodLink R_Lw 167 y_Mo_touches) ∈ w_all := List.mem_filter.mpr ⟨List.mem_of_getElem? (i := 984) (by decide +kernel), by decide +kernel⟩
theorem m_637 : (Cond.methodLink R_Lw 168 y_Lw_surprise) ∈ w_all := List.mem_filter.mpr ⟨List.mem_of_getElem? (i := 708) (by decide +kernel), by decide +kernel⟩
theorem m_638 : (Cond.methodLink R_Lw 170 y_Mo_surprise) ∈ w_all := List.mem_filter.mpr ⟨List.mem_of_getElem? (i := 988) (by decide +kernel), by decide +kernel⟩
set_option maxHeartbeats 4000000 in
set_option maxRecDepth 100000 in
theorem lc_due {p : Program} {l : Launch} {e : Env} {s : State} {m : MethodId} {args : Array Value} {below : List Frame} {meth : Method} {c : Code} {Q : State → Prop} {b Ln cn sn : Nat} {xs : Nat → Int32} {x4 : Int32} {ls : Array Slot} {dC : Nat → ClassId} {dI : Nat → Nat → Nat} {L : Nat → Nat} {cA : Nat → ClassId} {M : Nat → Nat} {cM : Nat → ClassId} {qo : Nat} {cO : ClassId} {sa : Nat → Nat} {ar : Nat → Nat → Int32} {sc : Nat → Int32} {br : Nat → Nat → Int32} {bc : Nat → Int32} {fo : Nat → Int64} {H : Heap} {locs : List Loc} (hlt : l.stackTraces = false) (hC : CallFix p m c code 7 s args w_all R_Lw) (hX : va_X b Ln xs s s.heap) (hbl : b < s.heap.size) (hF : lwF s dC dI L cA M cM qo cO sa) (hW : lwS s dC dI L cA M cM qo cO ar sc br bc fo H locs) (hR : RL ar sc br bc) (hi1 : vp_in (x4 + 1) Ln) (hi2 : vp_in (x4 + 2) Ln) (hi3 : vp_in (x4 + 3) Ln) (hi4 : vp_in (x4 + 4) Ln) (hi5 : vp_in (x4 + 5) Ln) (hcn : cn + 1 ≤ 1092) (hsn : sn + 6 ≤ 12030) (hl : lv_has ls 7 [(0, .ref b), (1, .ref (L 0)), (2, .ref (M 0)), (3, .ref qo), (4, .int x4)])
    (kk : ∀ (H1 : Heap) (locs1 : List Loc) (ar1 : Nat → Nat → Int32) (sc1 : Nat → Int32) (br1 : Nat → Nat → Int32) (bc1 : Nat → Int32) (fo1 : Nat → Int64) (ls1 : Array Slot), lwS s dC dI L cA M cM qo cO ar1 sc1 br1 bc1 fo1 H1 locs1 → RL ar1 sc1 br1 bc1 → lv_has ls1 7 [(0, .ref b), (1, .ref (L 0)), (2, .ref (M 0)), (3, .ref qo), (4, .int x4)] → W p l e room_1 s m args below meth c H1 locs1 (cn + 1) (sn + 6) Q (F0 m 1437 ls1 [])) : W p l e room_1 s m args below meth c H locs cn sn Q (F0 m 748 ls []) := by
  have hx := hC.1
  have hb := hC.2.1
  have hown := hC.2.2.2.1
  have hts := hC.2.2.2.2
  have hbA : ¬ (fun q : Nat => s.heap.size ≤ q) b := Nat.not_le.mpr hbl
  obtain ⟨hp1, hp2, hq, hval, hR2⟩ := eq_due hR (xs (x4 + 1).toNatClampNeg) (xs (x4 + 2).toNatClampNeg)
  refine lv_aload_n hx hb d_Law_748 rfl (lv_at hl 1 rfl) ?_
  refine lv_aload_n hx hb d_Law_749 rfl (lv_at hl 0 rfl) ?_
  refine lv_iload hx hb d_Law_750 (lv_at hl 4 rfl) ?_
  refine lv_iconst (v := 1) hx hb d_Law_752 (by decide) ?_
  refine lv_iadd hx hb d_Law_753 ?_
  refine va_sld hx hb hX hbl hbA hW.2.2.2 hi1 d_Law_754 ?_
  refine lv_aload_n hx hb d_Law_755 rfl (lv_at hl 0 rfl) ?_
  refine lv_iload hx hb d_Law_756 (lv_at hl 4 rfl) ?_
  refine lv_iconst (v := 2) hx hb d_Law_758 (by decide) ?_
  refine lv_iadd hx hb d_Law_759 ?_
  refine va_sld hx hb hX hbl hbA hW.2.2.2 hi2 d_Law_760 ?_
  refine lv_aload_n hx hb d_Law_761 rfl (lv_at hl 3 rfl) ?_
  refine rl_due hC hF hW hlt hp1 m_616 hl.1 ⟨Nat.le_of_ble_eq_true rfl, Nat.le_of_ble_eq_true rfl⟩ ⟨hcn, hsn⟩ (Nat.le_of_ble_eq_true rfl) d_Law_762 (fun H locs hW => ?_)
  refine lv_istore (lv' := [(5, .int (kc_due (f_Ir_due ar sc (xs (x4 + 1).toNatClampNeg) (xs (x4 + 2).toNatClampNeg)).1)), (0, .ref b), (1, .ref (L 0)), (2, .ref (M 0)), (3, .ref qo), (4, .int x4)]) hx hb d_Law_765 hl (by decide) rfl (fun ls hl => ?_)
  refine lv_aload_n hx hb d_Law_767 rfl (lv_at hl 3 rfl) ?_
  refine lv_aload_n hx hb d_Law_768 rfl (lv_at hl 1 rfl) ?_
  refine lv_iload hx hb d_Law_769 (lv_at hl 5 rfl) ?_
  refine lv_iconst (v := 1) hx hb d_Law_771 (by decide) ?_
  refine lv_iadd hx hb d_Law_772 ?_
  refine va_sld hx hb hX hbl hbA hW.2.2.2 hi1 d_Law_773 ?_
  refine lv_aload_n hx hb d_Law_774 rfl (lv_at hl 1 rfl) ?_
  refine lv_iload hx hb d_Law_775 (lv_at hl 5 rfl) ?_
  refine lv_iconst (v := 2) hx hb d_Law_777 (by decide) ?_
  refine lv_iadd hx hb d_Law_778 ?_
  refine va_sld hx hb hX hbl hbA hW.2.2.2 hi2 d_Law_779 ?_
  refine rm_due hC hF hW hp2 m_617 hl.1 ⟨Nat.le_of_ble_eq_true rfl, Nat.le_of_ble_eq_true rfl⟩ ⟨hcn, hsn⟩ (Nat.le_of_ble_eq_true rfl) d_Law_780 (fun H locs hW => ?_)
  refine lv_istore (lv' := [(6, .int ((f_Mo_due br bc (xs (x4 + 1).toNatClampNeg) (xs (x4 + 2).toNatClampNeg)).1)), (5, .int (kc_due (f_Ir_due ar sc (xs (x4 + 1).toNatClampNeg) (xs (x4 + 2).toNatClampNeg)).1)), (0, .ref b), (1, .ref (L 0)), (2, .ref (M 0)), (3, .ref qo), (4, .int x4)]) hx hb d_Law_783 hl (by decide) rfl (fun ls hl => ?_)
  refine lv_aload_n hx hb d_Law_785 rfl (lv_at hl 4 rfl) ?_
  refine r_Mo_thrown hC hF.2.1 hW.2.1 m_597 hl.1 ⟨Nat.le_of_ble_eq_true rfl, Nat.le_of_ble_eq_true rfl⟩ ⟨hcn, hsn⟩ (Nat.le_of_ble_eq_true rfl) d_Law_786 ?_
  refine lv_iload hx hb d_Law_789 (lv_at hl 1 rfl) ?_
  refine lv_icmp_eq (tgt := 796) hx hb d_Law_791 (by decide) (fun _ => ?_) (fun c9 => absurd hq c9)
  refine lv_iload hx hb d_Law_796 (lv_at hl 1 rfl) ?_
  refine lv_if_ne (tgt := 813) hx hb d_Law_798 (by decide) (fun _ => ?_) (fun c9 => ?_)
  · refine lv_goto (tgt := 1437) hx hb d_Law_813 (by decide) ?_
    exact kk _ _ _ _ _ _ _ _ hW hR2 (lv_sub hl [2, 3, 4, 5, 6] rfl)
  · have hN : (f_Ir_due ar sc (xs (x4 + 1).toNatClampNeg) (xs (x4 + 2).toNatClampNeg)).1 = none := by
      rcases ex_Ir_due ar sc (xs (x4 + 1).toNatClampNeg) (xs (x4 + 2).toNatClampNeg) with hN | hN
      · exact hN
      · rw [hN] at c9; exact absurd c9 (by decide)
    refine lv_aload_n hx hb d_Law_801 rfl (lv_at hl 5 rfl) ?_
    refine lv_iconst (v := 0) hx hb d_Law_802 (by decide) ?_
    refine va_lald hx hb hF.2.2.1 hW.2.2.1 0 0 rfl rfl (by unfold vp_in; decide) d_Law_803 ?_
    refine lv_iload hx hb d_Law_804 (lv_at hl 0 rfl) ?_
    refine lv_i2l hx hb d_Law_806 rfl ?_
    refine W.lcmp hx hb d_Law_807 ?_
    refine lv_if_eq (tgt := 813) hx hb d_Law_808 (by decide) (fun _ => ?_) (fun c9 => absurd (by rw [if_pos hN, hval hN]; exact lg_self _) c9)
    refine lv_goto (tgt := 1437) hx hb d_Law_813 (by decide) ?_
    exact kk _ _ _ _ _ _ _ _ hW hR2 (lv_sub hl [2, 3, 4, 5, 6] rfl)
set_option maxHeartbeats 4000000 in
set_option maxRecDepth 100000 in
theorem lc_question {p : Program} {l : Launch} {e : Env} {s : State} {m : MethodId} {args : Array Value} {below : List Frame} {meth : Method} {c : Code} {Q : State → Prop} {b Ln cn sn : Nat} {xs : Nat → Int32} {x4 : Int32} {ls : Array Slot} {dC : Nat → ClassId} {dI : Nat → Nat → Nat} {L : Nat → Nat} {cA : Nat → ClassId} {M : Nat → Nat} {cM : Nat → ClassId} {qo : Nat} {cO : ClassId} {sa : Nat → Nat} {ar : Nat → Nat → Int32} {sc : Nat → Int32} {br : Nat → Nat → Int32} {bc : Nat → Int32} {fo : Nat → Int64} {H : Heap} {locs : List Loc} (hlt : l.stackTraces = false) (hC : CallFix p m c code 7 s args w_all R_Lw) (hX : va_X b Ln xs s s.heap) (hbl : b < s.heap.size) (hF : lwF s dC dI L cA M cM qo cO sa) (hW : lwS s dC dI L cA M cM qo cO ar sc br bc fo H locs) (hR : RL ar sc br bc) (hi1 : vp_in (x4 + 1) Ln) (hi2 : vp_in (x4 + 2) Ln) (hi3 : vp_in (x4 + 3) Ln) (hi4 : vp_in (x4 + 4) Ln) (hi5 : vp_in (x4 + 5) Ln) (hcn : cn + 1 ≤ 1092) (hsn : sn + 6 ≤ 12030) (hl : lv_has ls 7 [(0, .ref b), (1, .ref (L 0)), (2, .ref (M 0)), (3, .ref qo), (4, .int x4)])
    (kk : ∀ (H1 : Heap) (locs1 : List Loc) (ar1 : Nat → Nat → Int32) (sc1 : Nat → Int32) (br1 : Nat → Nat → Int32) (bc1 : Nat → Int32) (fo1 : Nat → Int64) (ls1 : Array Slot), lwS s dC dI L cA M cM qo cO ar1 sc1 br1 bc1 fo1 H1 locs1 → RL ar1 sc1 br1 bc1 → lv_has ls1 7 [(0, .ref b), (1, .ref (L 0)), (2, .ref (M 0)), (3, .ref qo), (4, .int x4)] → W p l e room_1 s m args below meth c H1 locs1 (cn + 1) (sn + 6) Q (F0 m 1437 ls1 [])) : W p l e room_1 s m args below meth c H locs cn sn Q (F0 m 816 ls []) := by
  have hx := hC.1
  have hb := hC.2.1
  have hown := hC.2.2.2.1
  have hts := hC.2.2.2.2
  have hbA : ¬ (fun q : Nat => s.heap.size ≤ q) b := Nat.not_le.mpr hbl
  obtain ⟨hp1, hp2, hq, hval, hR2⟩ := eq_question hR (xs (x4 + 1).toNatClampNeg) (xs (x4 + 2).toNatClampNeg) (xs (x4 + 3).toNatClampNeg) (xs (x4 + 4).toNatClampNeg)
  refine lv_aload_n hx hb d_Law_816 rfl (lv_at hl 1 rfl) ?_
  refine lv_aload_n hx hb d_Law_817 rfl (lv_at hl 0 rfl) ?_
  refine lv_iload hx hb d_Law_818 (lv_at hl 4 rfl) ?_
  refine lv_iconst (v := 1) hx hb d_Law_820 (by decide) ?_
  refine lv_iadd hx hb d_Law_821 ?_
  refine va_sld hx hb hX hbl hbA hW.2.2.2 hi1 d_Law_822 ?_
  refine lv_aload_n hx hb d_Law_823 rfl (lv_at hl 0 rfl) ?_
  refine lv_iload hx hb d_Law_824 (lv_at hl 4 rfl) ?_
  refine lv_iconst (v := 2) hx hb d_Law_826 (by decide) ?_
  refine lv_iadd hx hb d_Law_827 ?_
  refine va_sld hx hb hX hbl hbA hW.2.2.2 hi2 d_Law_828 ?_
  refine lv_aload_n hx hb d_Law_829 rfl (lv_at hl 0 rfl) ?_
  refine lv_iload hx hb d_Law_830 (lv_at hl 4 rfl) ?_
  refine lv_iconst (v := 3) hx hb d_Law_832 (by decide) ?_
  refine lv_iadd hx hb d_Law_833 ?_
  refine va_sld hx hb hX hbl hbA hW.2.2.2 hi3 d_Law_834 ?_
  refine lv_aload_n hx hb d_Law_835 rfl (lv_at hl 0 rfl) ?_
  refine lv_iload hx hb d_Law_836 (lv_at hl 4 rfl) ?_
  refine lv_iconst (v := 4) hx hb d_Law_838 (by decide) ?_
  refine lv_iadd hx hb d_Law_839 ?_
  refine va_sld hx hb hX hbl hbA hW.2.2.2 hi4 d_Law_840 ?_
  refine rl_question hC hF hW hlt hp1 m_618 hl.1 ⟨Nat.le_of_ble_eq_true rfl, Nat.le_of_ble_eq_true rfl⟩ ⟨hcn, hsn⟩ (Nat.le_of_ble_eq_true rfl) d_Law_841 (fun H locs hW => ?_)
  refine lv_istore (lv' := [(5, .int (kc_question (f_Ir_question ar sc (xs (x4 + 1).toNatClampNeg) (xs (x4 + 2).toNatClampNeg) (xs (x4 + 3).toNatClampNeg) (xs (x4 + 4).toNatClampNeg)).1)), (0, .ref b), (1, .ref (L 0)), (2, .ref (M 0)), (3, .ref qo), (4, .int x4)]) hx hb d_Law_844 hl (by decide) rfl (fun ls hl => ?_)
  refine lv_aload_n hx hb d_Law_846 rfl (lv_at hl 3 rfl) ?_
  refine lv_aload_n hx hb d_Law_847 rfl (lv_at hl 1 rfl) ?_
  refine lv_iload hx hb d_Law_848 (lv_at hl 5 rfl) ?_
  refine lv_iconst (v := 1) hx hb d_Law_850 (by decide) ?_
  refine lv_iadd hx hb d_Law_851 ?_
  refine va_sld hx hb hX hbl hbA hW.2.2.2 hi1 d_Law_852 ?_
  refine lv_aload_n hx hb d_Law_853 rfl (lv_at hl 1 rfl) ?_
  refine lv_iload hx hb d_Law_854 (lv_at hl 5 rfl) ?_
  refine lv_iconst (v := 2) hx hb d_Law_856 (by decide) ?_
  refine lv_iadd hx hb d_Law_857 ?_
  refine va_sld hx hb hX hbl hbA hW.2.2.2 hi2 d_Law_858 ?_
  refine lv_aload_n hx hb d_Law_859 rfl (lv_at hl 1 rfl) ?_
  refine lv_iload hx hb d_Law_860 (lv_at hl 5 rfl) ?_
  refine lv_iconst (v := 3) hx hb d_Law_862 (by decide) ?_
  refine lv_iadd hx hb d_Law_863 ?_
  refine va_sld hx hb hX hbl hbA hW.2.2.2 hi3 d_Law_864 ?_
  refine lv_aload_n hx hb d_Law_865 rfl (lv_at hl 1 rfl) ?_
  refine lv_iload hx hb d_Law_866 (lv_at hl 5 rfl) ?_
  refine lv_iconst (v := 4) hx hb d_Law_868 (by decide) ?_
  refine lv_iadd hx hb d_Law_869 ?_
  refine va_sld hx hb hX hbl hbA hW.2.2.2 hi4 d_Law_870 ?_
  refine rm_question hC hF hW hp2 m_619 hl.1 ⟨Nat.le_of_ble_eq_true rfl, Nat.le_of_ble_eq_true rfl⟩ ⟨hcn, hsn⟩ (Nat.le_of_ble_eq_true rfl) d_Law_871 (fun H locs hW => ?_)
  refine lv_aload_n hx hb d_Law_874 rfl (lv_at hl 3 rfl) ?_
  refine r_Mo_thrown hC hF.2.1 hW.2.1 m_597 hl.1 ⟨Nat.le_of_ble_eq_true rfl, Nat.le_of_ble_eq_true rfl⟩ ⟨hcn, hsn⟩ (Nat.le_of_ble_eq_true rfl) d_Law_875 ?_
  refine lv_iload hx hb d_Law_878 (lv_at hl 0 rfl) ?_
  refine lv_icmp_eq (tgt := 885) hx hb d_Law_880 (by decide) (fun _ => ?_) (fun c9 => absurd hq c9)
  refine lv_goto (tgt := 1437) hx hb d_Law_885 (by decide) ?_
  exact kk _ _ _ _ _ _ _ _ hW hR2 (lv_sub hl [1, 2, 3, 4, 5] rfl)
set_option maxHeartbeats 4000000 in
set_option maxRecDepth 100000 in
theorem lc_list {p : Program} {l : Launch} {e : Env} {s : State} {m : MethodId} {args : Array Value} {below : List Frame} {meth : Method} {c : Code} {Q : State → Prop} {b Ln cn sn : Nat} {xs : Nat → Int32} {x4 : Int32} {ls : Array Slot} {dC : Nat → ClassId} {dI : Nat → Nat → Nat} {L : Nat → Nat} {cA : Nat → ClassId} {M : Nat → Nat} {cM : Nat → ClassId} {qo : Nat} {cO : ClassId} {sa : Nat → Nat} {ar : Nat → Nat → Int32} {sc : Nat → Int32} {br : Nat → Nat → Int32} {bc : Nat → Int32} {fo : Nat → Int64} {H : Heap} {locs : List Loc} (hlt : l.stackTraces = false) (hC : CallFix p m c code 7 s args w_all R_Lw) (hX : va_X b Ln xs s s.heap) (hbl : b < s.heap.size) (hF : lwF s dC dI L cA M cM qo cO sa) (hW : lwS s dC dI L cA M cM qo cO ar sc br bc fo H locs) (hR : RL ar sc br bc) (hi1 : vp_in (x4 + 1) Ln) (hi2 : vp_in (x4 + 2) Ln) (hi3 : vp_in (x4 + 3) Ln) (hi4 : vp_in (x4 + 4) Ln) (hi5 : vp_in (x4 + 5) Ln) (hcn : cn + 1 ≤ 1092) (hsn : sn + 6 ≤ 12030) (hl : lv_has ls 7 [(0, .ref b), (1, .ref (L 0)), (2, .ref (M 0)), (3, .ref qo), (4, .int x4)])
    (kk : ∀ (H1 : Heap) (locs1 : List Loc) (ar1 : Nat → Nat → Int32) (sc1 : Nat → Int32) (br1 : Nat → Nat → Int32) (bc1 : Nat → Int32) (fo1 : Nat → Int64) (ls1 : Array Slot), lwS s dC dI L cA M cM qo cO ar1 sc1 br1 bc1 fo1 H1 locs1 → RL ar1 sc1 br1 bc1 → lv_has ls1 7 [(0, .ref b), (1, .ref (L 0)), (2, .ref (M 0)), (3, .ref qo), (4, .int x4)] → W p l e room_1 s m args below meth c H1 locs1 (cn + 1) (sn + 6) Q (F0 m 1437 ls1 [])) : W p l e room_1 s m args below meth c H locs cn sn Q (F0 m 888 ls []) := by
  have hx := hC.1
  have hb := hC.2.1
  have hown := hC.2.2.2.1
  have hts := hC.2.2.2.2
  have hbA : ¬ (fun q : Nat => s.heap.size ≤ q) b := Nat.not_le.mpr hbl
  obtain ⟨hp1, hp2, hq, hval, hR2⟩ := eq_list hR (xs (x4 + 1).toNatClampNeg) (xs (x4 + 2).toNatClampNeg)
  refine lv_aload_n hx hb d_Law_888 rfl (lv_at hl 1 rfl) ?_
  refine lv_aload_n hx hb d_Law_889 rfl (lv_at hl 0 rfl) ?_
  refine lv_iload hx hb d_Law_890 (lv_at hl 4 rfl) ?_
  refine lv_iconst (v := 1) hx hb d_Law_892 (by decide) ?_
  refine lv_iadd hx hb d_Law_893 ?_
  refine va_sld hx hb hX hbl hbA hW.2.2.2 hi1 d_Law_894 ?_
  refine lv_aload_n hx hb d_Law_895 rfl (lv_at hl 0 rfl) ?_
  refine lv_iload hx hb d_Law_896 (lv_at hl 4 rfl) ?_
  refine lv_iconst (v := 2) hx hb d_Law_898 (by decide) ?_
  refine lv_iadd hx hb d_Law_899 ?_
  refine va_sld hx hb hX hbl hbA hW.2.2.2 hi2 d_Law_900 ?_
  refine lv_aload_n hx hb d_Law_901 rfl (lv_at hl 3 rfl) ?_
  refine rl_list hC hF hW hlt hp1 m_620 hl.1 ⟨Nat.le_of_ble_eq_true rfl, Nat.le_of_ble_eq_true rfl⟩ ⟨hcn, hsn⟩ (Nat.le_of_ble_eq_true rfl) d_Law_902 (fun H locs hW => ?_)
  refine lv_istore (lv' := [(5, .int (kc_list (f_Ir_list ar sc (xs (x4 + 1).toNatClampNeg) (xs (x4 + 2).toNatClampNeg)).1)), (0, .ref b), (1, .ref (L 0)), (2, .ref (M 0)), (3, .ref qo), (4, .int x4)]) hx hb d_Law_905 hl (by decide) rfl (fun ls hl => ?_)
  refine lv_aload_n hx hb d_Law_907 rfl (lv_at hl 3 rfl) ?_
  refine lv_aload_n hx hb d_Law_908 rfl (lv_at hl 1 rfl) ?_
  refine lv_iload hx hb d_Law_909 (lv_at hl 5 rfl) ?_
  refine lv_iconst (v := 1) hx hb d_Law_911 (by decide) ?_
  refine lv_iadd hx hb d_Law_912 ?_
  refine va_sld hx hb hX hbl hbA hW.2.2.2 hi1 d_Law_913 ?_
  refine lv_aload_n hx hb d_Law_914 rfl (lv_at hl 1 rfl) ?_
  refine lv_iload hx hb d_Law_915 (lv_at hl 5 rfl) ?_
  refine lv_iconst (v := 2) hx hb d_Law_917 (by decide) ?_
  refine lv_iadd hx hb d_Law_918 ?_
  refine va_sld hx hb hX hbl hbA hW.2.2.2 hi2 d_Law_919 ?_
  refine rm_list hC hF hW hp2 m_621 hl.1 ⟨Nat.le_of_ble_eq_true rfl, Nat.le_of_ble_eq_true rfl⟩ ⟨hcn, hsn⟩ (Nat.le_of_ble_eq_true rfl) d_Law_920 (fun H locs hW => ?_)
  refine lv_istore (lv' := [(6, .int ((f_Mo_list br bc (xs (x4 + 1).toNatClampNeg) (xs (x4 + 2).toNatClampNeg)).1)), (5, .int (kc_list (f_Ir_list ar sc (xs (x4 + 1).toNatClampNeg) (xs (x4 + 2).toNatClampNeg)).1)), (0, .ref b), (1, .ref (L 0)), (2, .ref (M 0)), (3, .ref qo), (4, .int x4)]) hx hb d_Law_923 hl (by decide) rfl (fun ls hl => ?_)
  refine lv_aload_n hx hb d_Law_925 rfl (lv_at hl 4 rfl) ?_
  refine r_Mo_thrown hC hF.2.1 hW.2.1 m_597 hl.1 ⟨Nat.le_of_ble_eq_true rfl, Nat.le_of_ble_eq_true rfl⟩ ⟨hcn, hsn⟩ (Nat.le_of_ble_eq_true rfl) d_Law_926 ?_
  refine lv_iload hx hb d_Law_929 (lv_at hl 1 rfl) ?_
  refine lv_icmp_eq (tgt := 936) hx hb d_Law_931 (by decide) (fun _ => ?_) (fun c9 => absurd hq c9)
  refine lv_iload hx hb d_Law_936 (lv_at hl 1 rfl) ?_
  refine lv_if_ne (tgt := 953) hx hb d_Law_938 (by decide) (fun _ => ?_) (fun c9 => ?_)
  · refine lv_goto (tgt := 1437) hx hb d_Law_953 (by decide) ?_
    exact kk _ _ _ _ _ _ _ _ hW hR2 (lv_sub hl [2, 3, 4, 5, 6] rfl)
  · have hN : (f_Ir_list ar sc (xs (x4 + 1).toNatClampNeg) (xs (x4 + 2).toNatClampNeg)).1 = none := by
      rcases ex_Ir_list ar sc (xs (x4 + 1).toNatClampNeg) (xs (x4 + 2).toNatClampNeg) with hN | hN | hN | hN
      · exact hN
      · rw [hN] at c9; exact absurd c9 (by decide)
      · rw [hN] at c9; exact absurd c9 (by decide)
      · rw [hN] at c9; exact absurd c9 (by decide)
    refine lv_aload_n hx hb d_Law_941 rfl (lv_at hl 5 rfl) ?_
    refine lv_iconst (v := 0) hx hb d_Law_942 (by decide) ?_
    refine va_lald hx hb hF.2.2.1 hW.2.2.1 0 0 rfl rfl (by unfold vp_in; decide) d_Law_943 ?_
    refine lv_iload hx hb d_Law_944 (lv_at hl 0 rfl) ?_
    refine lv_i2l hx hb d_Law_946 rfl ?_
    refine W.lcmp hx hb d_Law_947 ?_
    refine lv_if_eq (tgt := 953) hx hb d_Law_948 (by decide) (fun _ => ?_) (fun c9 => absurd (by rw [if_pos hN, hval hN]; exact lg_self _) c9)
    refine lv_goto (tgt := 1437) hx hb d_Law_953 (by decide) ?_
    exact kk _ _ _ _ _ _ _ _ hW hR2 (lv_sub hl [2, 3, 4, 5, 6] rfl)
set_option maxHeartbeats 4000000 in
set_option maxRecDepth 100000 in
theorem lc_walk {p : Program} {l : Launch} {e : Env} {s : State} {m : MethodId} {args : Array Value} {below : List Frame} {meth : Method} {c : Code} {Q : State → Prop} {b Ln cn sn : Nat} {xs : Nat → Int32} {x4 : Int32} {ls : Array Slot} {dC : Nat → ClassId} {dI : Nat → Nat → Nat} {L : Nat → Nat} {cA : Nat → ClassId} {M : Nat → Nat} {cM : Nat → ClassId} {qo : Nat} {cO : ClassId} {sa : Nat → Nat} {ar : Nat → Nat → Int32} {sc : Nat → Int32} {br : Nat → Nat → Int32} {bc : Nat → Int32} {fo : Nat → Int64} {H : Heap} {locs : List Loc} (hlt : l.stackTraces = false) (hC : CallFix p m c code 7 s args w_all R_Lw) (hX : va_X b Ln xs s s.heap) (hbl : b < s.heap.size) (hF : lwF s dC dI L cA M cM qo cO sa) (hW : lwS s dC dI L cA M cM qo cO ar sc br bc fo H locs) (hR : RL ar sc br bc) (hi1 : vp_in (x4 + 1) Ln) (hi2 : vp_in (x4 + 2) Ln) (hi3 : vp_in (x4 + 3) Ln) (hi4 : vp_in (x4 + 4) Ln) (hi5 : vp_in (x4 + 5) Ln) (hcn : cn + 1 ≤ 1092) (hsn : sn + 6 ≤ 12030) (hl : lv_has ls 7 [(0, .ref b), (1, .ref (L 0)), (2, .ref (M 0)), (3, .ref qo), (4, .int x4)])
    (kk : ∀ (H1 : Heap) (locs1 : List Loc) (ar1 : Nat → Nat → Int32) (sc1 : Nat → Int32) (br1 : Nat → Nat → Int32) (bc1 : Nat → Int32) (fo1 : Nat → Int64) (ls1 : Array Slot), lwS s dC dI L cA M cM qo cO ar1 sc1 br1 bc1 fo1 H1 locs1 → RL ar1 sc1 br1 bc1 → lv_has ls1 7 [(0, .ref b), (1, .ref (L 0)), (2, .ref (M 0)), (3, .ref qo), (4, .int x4)] → W p l e room_1 s m args below meth c H1 locs1 (cn + 1) (sn + 6) Q (F0 m 1437 ls1 [])) : W p l e room_1 s m args below meth c H locs cn sn Q (F0 m 956 ls []) := by
  have hx := hC.1
  have hb := hC.2.1
  have hown := hC.2.2.2.1
  have hts := hC.2.2.2.2
  have hbA : ¬ (fun q : Nat => s.heap.size ≤ q) b := Nat.not_le.mpr hbl
  obtain ⟨hp1, hp2, hq, hval, hR2⟩ := eq_walk hR ((((xs (x4 + 1).toNatClampNeg).toInt64) <<< ((32 : Int32).toInt64 &&& 63)) ||| (((xs (x4 + 2).toNatClampNeg).toInt64) &&& 4294967295)) (xs (x4 + 3).toNatClampNeg)
  refine lv_aload_n hx hb d_Law_956 rfl (lv_at hl 1 rfl) ?_
  refine lv_aload_n hx hb d_Law_957 rfl (lv_at hl 0 rfl) ?_
  refine lv_iload hx hb d_Law_958 (lv_at hl 4 rfl) ?_
  refine lv_iconst (v := 1) hx hb d_Law_960 (by decide) ?_
  refine lv_iadd hx hb d_Law_961 ?_
  refine va_sld hx hb hX hbl hbA hW.2.2.2 hi1 d_Law_962 ?_
  refine lv_i2l hx hb d_Law_963 rfl ?_
  refine lv_bipush (v := 32) hx hb d_Law_964 (by decide) ?_
  refine lv_lshl hx hb d_Law_966 rfl ?_
  refine lv_aload_n hx hb d_Law_967 rfl (lv_at hl 0 rfl) ?_
  refine lv_iload hx hb d_Law_968 (lv_at hl 4 rfl) ?_
  refine lv_iconst (v := 2) hx hb d_Law_970 (by decide) ?_
  refine lv_iadd hx hb d_Law_971 ?_
  refine va_sld hx hb hX hbl hbA hW.2.2.2 hi2 d_Law_972 ?_
  refine lv_i2l hx hb d_Law_973 rfl ?_
  refine lv_ldc2 (v := 4294967295) hx hb hown (hts _ m_622) d_Law_974 ?_
  refine lv_land hx hb d_Law_977 ?_
  refine lv_lor hx hb d_Law_978 ?_
  refine lv_aload_n hx hb d_Law_979 rfl (lv_at hl 0 rfl) ?_
  refine lv_iload hx hb d_Law_980 (lv_at hl 4 rfl) ?_
  refine lv_iconst (v := 3) hx hb d_Law_982 (by decide) ?_
  refine lv_iadd hx hb d_Law_983 ?_
  refine va_sld hx hb hX hbl hbA hW.2.2.2 hi3 d_Law_984 ?_
  refine lv_aload_n hx hb d_Law_985 rfl (lv_at hl 3 rfl) ?_
  refine rl_walk hC hF hW hlt hp1 m_623 hl.1 ⟨Nat.le_of_ble_eq_true rfl, Nat.le_of_ble_eq_true rfl⟩ ⟨hcn, hsn⟩ (Nat.le_of_ble_eq_true rfl) d_Law_986 (fun H locs hW => ?_)
  refine lv_istore (lv' := [(5, .int (kc_walk (f_Ir_walk ar sc ((((xs (x4 + 1).toNatClampNeg).toInt64) <<< ((32 : Int32).toInt64 &&& 63)) ||| (((xs (x4 + 2).toNatClampNeg).toInt64) &&& 4294967295)) (xs (x4 + 3).toNatClampNeg)).1)), (0, .ref b), (1, .ref (L 0)), (2, .ref (M 0)), (3, .ref qo), (4, .int x4)]) hx hb d_Law_989 hl (by decide) rfl (fun ls hl => ?_)
  refine lv_aload_n hx hb d_Law_991 rfl (lv_at hl 3 rfl) ?_
  refine lv_aload_n hx hb d_Law_992 rfl (lv_at hl 1 rfl) ?_
  refine lv_iload hx hb d_Law_993 (lv_at hl 5 rfl) ?_
  refine lv_iconst (v := 1) hx hb d_Law_995 (by decide) ?_
  refine lv_iadd hx hb d_Law_996 ?_
  refine va_sld hx hb hX hbl hbA hW.2.2.2 hi1 d_Law_997 ?_
  refine lv_i2l hx hb d_Law_998 rfl ?_
  refine lv_bipush (v := 32) hx hb d_Law_999 (by decide) ?_
  refine lv_lshl hx hb d_Law_1001 rfl ?_
  refine lv_aload_n hx hb d_Law_1002 rfl (lv_at hl 1 rfl) ?_
  refine lv_iload hx hb d_Law_1003 (lv_at hl 5 rfl) ?_
  refine lv_iconst (v := 2) hx hb d_Law_1005 (by decide) ?_
  refine lv_iadd hx hb d_Law_1006 ?_
  refine va_sld hx hb hX hbl hbA hW.2.2.2 hi2 d_Law_1007 ?_
  refine lv_i2l hx hb d_Law_1008 rfl ?_
  refine lv_ldc2 (v := 4294967295) hx hb hown (hts _ m_622) d_Law_1009 ?_
  refine lv_land hx hb d_Law_1012 ?_
  refine lv_lor hx hb d_Law_1013 ?_
  refine lv_aload_n hx hb d_Law_1014 rfl (lv_at hl 1 rfl) ?_
  refine lv_iload hx hb d_Law_1015 (lv_at hl 5 rfl) ?_
  refine lv_iconst (v := 3) hx hb d_Law_1017 (by decide) ?_
  refine lv_iadd hx hb d_Law_1018 ?_
  refine va_sld hx hb hX hbl hbA hW.2.2.2 hi3 d_Law_1019 ?_
  refine rm_walk hC hF hW hp2 m_624 hl.1 ⟨Nat.le_of_ble_eq_true rfl, Nat.le_of_ble_eq_true rfl⟩ ⟨hcn, hsn⟩ (Nat.le_of_ble_eq_true rfl) d_Law_1020 (fun H locs hW => ?_)
  refine lv_istore (lv' := [(6, .int ((f_Mo_walk br bc ((((xs (x4 + 1).toNatClampNeg).toInt64) <<< ((32 : Int32).toInt64 &&& 63)) ||| (((xs (x4 + 2).toNatClampNeg).toInt64) &&& 4294967295)) (xs (x4 + 3).toNatClampNeg)).1)), (5, .int (kc_walk (f_Ir_walk ar sc ((((xs (x4 + 1).toNatClampNeg).toInt64) <<< ((32 : Int32).toInt64 &&& 63)) ||| (((xs (x4 + 2).toNatClampNeg).toInt64) &&& 4294967295)) (xs (x4 + 3).toNatClampNeg)).1)), (0, .ref b), (1, .ref (L 0)), (2, .ref (M 0)), (3, .ref qo), (4, .int x4)]) hx hb d_Law_1023 hl (by decide) rfl (fun ls hl => ?_)
  refine lv_aload_n hx hb d_Law_1025 rfl (lv_at hl 4 rfl) ?_
  refine r_Mo_thrown hC hF.2.1 hW.2.1 m_597 hl.1 ⟨Nat.le_of_ble_eq_true rfl, Nat.le_of_ble_eq_true rfl⟩ ⟨hcn, hsn⟩ (Nat.le_of_ble_eq_true rfl) d_Law_1026 ?_
  refine lv_iload hx hb d_Law_1029 (lv_at hl 1 rfl) ?_
  refine lv_icmp_eq (tgt := 1036) hx hb d_Law_1031 (by decide) (fun _ => ?_) (fun c9 => absurd hq c9)
  refine lv_iload hx hb d_Law_1036 (lv_at hl 1 rfl) ?_
  refine lv_if_ne (tgt := 1053) hx hb d_Law_1038 (by decide) (fun _ => ?_) (fun c9 => ?_)
  · refine lv_goto (tgt := 1437) hx hb d_Law_1053 (by decide) ?_
    exact kk _ _ _ _ _ _ _ _ hW hR2 (lv_sub hl [2, 3, 4, 5, 6] rfl)
  · have hN : (f_Ir_walk ar sc ((((xs (x4 + 1).toNatClampNeg).toInt64) <<< ((32 : Int32).toInt64 &&& 63)) ||| (((xs (x4 + 2).toNatClampNeg).toInt64) &&& 4294967295)) (xs (x4 + 3).toNatClampNeg)).1 = none := by
      rcases ex_Ir_walk ar sc ((((xs (x4 + 1).toNatClampNeg).toInt64) <<< ((32 : Int32).toInt64 &&& 63)) ||| (((xs (x4 + 2).toNatClampNeg).toInt64) &&& 4294967295)) (xs (x4 + 3).toNatClampNeg) with hN | hN | hN
      · exact hN
      · rw [hN] at c9; exact absurd c9 (by decide)
      · rw [hN] at c9; exact absurd c9 (by decide)
    refine lv_aload_n hx hb d_Law_1041 rfl (lv_at hl 5 rfl) ?_
    refine lv_iconst (v := 0) hx hb d_Law_1042 (by decide) ?_
    refine va_lald hx hb hF.2.2.1 hW.2.2.1 0 0 rfl rfl (by unfold vp_in; decide) d_Law_1043 ?_
    refine lv_iload hx hb d_Law_1044 (lv_at hl 0 rfl) ?_
    refine lv_i2l hx hb d_Law_1046 rfl ?_
    refine W.lcmp hx hb d_Law_1047 ?_
    refine lv_if_eq (tgt := 1053) hx hb d_Law_1048 (by decide) (fun _ => ?_) (fun c9 => absurd (by rw [if_pos hN, hval hN]; exact lg_self _) c9)
    refine lv_goto (tgt := 1437) hx hb d_Law_1053 (by decide) ?_
    exact kk _ _ _ _ _ _ _ _ hW hR2 (lv_sub hl [2, 3, 4, 5, 6] rfl)
set_option maxHeartbeats 4000000 in
set_option maxRecDepth 100000 in
theorem lc_stop {p : Program} {l : Launch} {e : Env} {s : State} {m : MethodId} {args : Array Value} {below : List Frame} {meth : Method} {c : Code} {Q : State → Prop} {b Ln cn sn : Nat} {xs : Nat → Int32} {x4 : Int32} {ls : Array Slot} {dC : Nat → ClassId} {dI : Nat → Nat → Nat} {L : Nat → Nat} {cA : Nat → ClassId} {M : Nat → Nat} {cM : Nat → ClassId} {qo : Nat} {cO : ClassId} {sa : Nat → Nat} {ar : Nat → Nat → Int32} {sc : Nat → Int32} {br : Nat → Nat → Int32} {bc : Nat → Int32} {fo : Nat → Int64} {H : Heap} {locs : List Loc} (hlt : l.stackTraces = false) (hC : CallFix p m c code 7 s args w_all R_Lw) (hX : va_X b Ln xs s s.heap) (hbl : b < s.heap.size) (hF : lwF s dC dI L cA M cM qo cO sa) (hW : lwS s dC dI L cA M cM qo cO ar sc br bc fo H locs) (hR : RL ar sc br bc) (hi1 : vp_in (x4 + 1) Ln) (hi2 : vp_in (x4 + 2) Ln) (hi3 : vp_in (x4 + 3) Ln) (hi4 : vp_in (x4 + 4) Ln) (hi5 : vp_in (x4 + 5) Ln) (hcn : cn + 1 ≤ 1092) (hsn : sn + 6 ≤ 12030) (hl : lv_has ls 7 [(0, .ref b), (1, .ref (L 0)), (2, .ref (M 0)), (3, .ref qo), (4, .int x4)])
    (kk : ∀ (H1 : Heap) (locs1 : List Loc) (ar1 : Nat → Nat → Int32) (sc1 : Nat → Int32) (br1 : Nat → Nat → Int32) (bc1 : Nat → Int32) (fo1 : Nat → Int64) (ls1 : Array Slot), lwS s dC dI L cA M cM qo cO ar1 sc1 br1 bc1 fo1 H1 locs1 → RL ar1 sc1 br1 bc1 → lv_has ls1 7 [(0, .ref b), (1, .ref (L 0)), (2, .ref (M 0)), (3, .ref qo), (4, .int x4)] → W p l e room_1 s m args below meth c H1 locs1 (cn + 1) (sn + 6) Q (F0 m 1437 ls1 [])) : W p l e room_1 s m args below meth c H locs cn sn Q (F0 m 1056 ls []) := by
  have hx := hC.1
  have hb := hC.2.1
  have hown := hC.2.2.2.1
  have hts := hC.2.2.2.2
  have hbA : ¬ (fun q : Nat => s.heap.size ≤ q) b := Nat.not_le.mpr hbl
  obtain ⟨hp1, hp2, hq, hval, hR2⟩ := eq_stop hR (xs (x4 + 1).toNatClampNeg)
  refine lv_aload_n hx hb d_Law_1056 rfl (lv_at hl 1 rfl) ?_
  refine lv_aload_n hx hb d_Law_1057 rfl (lv_at hl 0 rfl) ?_
  refine lv_iload hx hb d_Law_1058 (lv_at hl 4 rfl) ?_
  refine lv_iconst (v := 1) hx hb d_Law_1060 (by decide) ?_
  refine lv_iadd hx hb d_Law_1061 ?_
  refine va_sld hx hb hX hbl hbA hW.2.2.2 hi1 d_Law_1062 ?_
  refine lv_aload_n hx hb d_Law_1063 rfl (lv_at hl 3 rfl) ?_
  refine rl_stop hC hF hW hlt hp1 m_625 hl.1 ⟨Nat.le_of_ble_eq_true rfl, Nat.le_of_ble_eq_true rfl⟩ ⟨hcn, hsn⟩ (Nat.le_of_ble_eq_true rfl) d_Law_1064 (fun H locs hW => ?_)
  refine lv_istore (lv' := [(5, .int (kc_stop (f_Ir_stop ar sc (xs (x4 + 1).toNatClampNeg)).1)), (0, .ref b), (1, .ref (L 0)), (2, .ref (M 0)), (3, .ref qo), (4, .int x4)]) hx hb d_Law_1067 hl (by decide) rfl (fun ls hl => ?_)
  refine lv_aload_n hx hb d_Law_1069 rfl (lv_at hl 3 rfl) ?_
  refine lv_aload_n hx hb d_Law_1070 rfl (lv_at hl 1 rfl) ?_
  refine lv_iload hx hb d_Law_1071 (lv_at hl 5 rfl) ?_
  refine lv_iconst (v := 1) hx hb d_Law_1073 (by decide) ?_
  refine lv_iadd hx hb d_Law_1074 ?_
  refine va_sld hx hb hX hbl hbA hW.2.2.2 hi1 d_Law_1075 ?_
  refine rm_stop hC hF hW hp2 m_626 hl.1 ⟨Nat.le_of_ble_eq_true rfl, Nat.le_of_ble_eq_true rfl⟩ ⟨hcn, hsn⟩ (Nat.le_of_ble_eq_true rfl) d_Law_1076 (fun H locs hW => ?_)
  refine lv_istore (lv' := [(6, .int ((f_Mo_stop br bc (xs (x4 + 1).toNatClampNeg)).1)), (5, .int (kc_stop (f_Ir_stop ar sc (xs (x4 + 1).toNatClampNeg)).1)), (0, .ref b), (1, .ref (L 0)), (2, .ref (M 0)), (3, .ref qo), (4, .int x4)]) hx hb d_Law_1079 hl (by decide) rfl (fun ls hl => ?_)
  refine lv_aload_n hx hb d_Law_1081 rfl (lv_at hl 4 rfl) ?_
  refine r_Mo_thrown hC hF.2.1 hW.2.1 m_597 hl.1 ⟨Nat.le_of_ble_eq_true rfl, Nat.le_of_ble_eq_true rfl⟩ ⟨hcn, hsn⟩ (Nat.le_of_ble_eq_true rfl) d_Law_1082 ?_
  refine lv_iload hx hb d_Law_1085 (lv_at hl 1 rfl) ?_
  refine lv_icmp_eq (tgt := 1092) hx hb d_Law_1087 (by decide) (fun _ => ?_) (fun c9 => absurd hq c9)
  refine lv_iload hx hb d_Law_1092 (lv_at hl 1 rfl) ?_
  refine lv_if_ne (tgt := 1109) hx hb d_Law_1094 (by decide) (fun _ => ?_) (fun c9 => ?_)
  · refine lv_goto (tgt := 1437) hx hb d_Law_1109 (by decide) ?_
    exact kk _ _ _ _ _ _ _ _ hW hR2 (lv_sub hl [2, 3, 4, 5, 6] rfl)
  · have hN : (f_Ir_stop ar sc (xs (x4 + 1).toNatClampNeg)).1 = none := by
      rcases ex_Ir_stop ar sc (xs (x4 + 1).toNatClampNeg) with hN | hN
      · exact hN
      · rw [hN] at c9; exact absurd c9 (by decide)
    refine lv_aload_n hx hb d_Law_1097 rfl (lv_at hl 5 rfl) ?_
    refine lv_iconst (v := 0) hx hb d_Law_1098 (by decide) ?_
    refine va_lald hx hb hF.2.2.1 hW.2.2.1 0 0 rfl rfl (by unfold vp_in; decide) d_Law_1099 ?_
    refine lv_iload hx hb d_Law_1100 (lv_at hl 0 rfl) ?_
    refine lv_i2l hx hb d_Law_1102 rfl ?_
    refine W.lcmp hx hb d_Law_1103 ?_
    refine lv_if_eq (tgt := 1109) hx hb d_Law_1104 (by decide) (fun _ => ?_) (fun c9 => absurd (by rw [if_pos hN, hval hN]; exact lg_self _) c9)
    refine lv_goto (tgt := 1437) hx hb d_Law_1109 (by decide) ?_
    exact kk _ _ _ _ _ _ _ _ hW hR2 (lv_sub hl [2, 3, 4, 5, 6] rfl)
set_option maxHeartbeats 4000000 in
set_option maxRecDepth 100000 in
theorem lc_rules {p : Program} {l : Launch} {e : Env} {s : State} {m : MethodId} {args : Array Value} {below : List Frame} {meth : Method} {c : Code} {Q : State → Prop} {b Ln cn sn : Nat} {xs : Nat → Int32} {x4 : Int32} {ls : Array Slot} {dC : Nat → ClassId} {dI : Nat → Nat → Nat} {L : Nat → Nat} {cA : Nat → ClassId} {M : Nat → Nat} {cM : Nat → ClassId} {qo : Nat} {cO : ClassId} {sa : Nat → Nat} {ar : Nat → Nat → Int32} {sc : Nat → Int32} {br : Nat → Nat → Int32} {bc : Nat → Int32} {fo : Nat → Int64} {H : Heap} {locs : List Loc} (hlt : l.stackTraces = false) (hC : CallFix p m c code 7 s args w_all R_Lw) (hX : va_X b Ln xs s s.heap) (hbl : b < s.heap.size) (hF : lwF s dC dI L cA M cM qo cO sa) (hW : lwS s dC dI L cA M cM qo cO ar sc br bc fo H locs) (hR : RL ar sc br bc) (hi1 : vp_in (x4 + 1) Ln) (hi2 : vp_in (x4 + 2) Ln) (hi3 : vp_in (x4 + 3) Ln) (hi4 : vp_in (x4 + 4) Ln) (hi5 : vp_in (x4 + 5) Ln) (hcn : cn + 1 ≤ 1092) (hsn : sn + 6 ≤ 12030) (hl : lv_has ls 7 [(0, .ref b), (1, .ref (L 0)), (2, .ref (M 0)), (3, .ref qo), (4, .int x4)])
    (kk : ∀ (H1 : Heap) (locs1 : List Loc) (ar1 : Nat → Nat → Int32) (sc1 : Nat → Int32) (br1 : Nat → Nat → Int32) (bc1 : Nat → Int32) (fo1 : Nat → Int64) (ls1 : Array Slot), lwS s dC dI L cA M cM qo cO ar1 sc1 br1 bc1 fo1 H1 locs1 → RL ar1 sc1 br1 bc1 → lv_has ls1 7 [(0, .ref b), (1, .ref (L 0)), (2, .ref (M 0)), (3, .ref qo), (4, .int x4)] → W p l e room_1 s m args below meth c H1 locs1 (cn + 1) (sn + 6) Q (F0 m 1437 ls1 [])) : W p l e room_1 s m args below meth c H locs cn sn Q (F0 m 1112 ls []) := by
  have hx := hC.1
  have hb := hC.2.1
  have hown := hC.2.2.2.1
  have hts := hC.2.2.2.2
  have hbA : ¬ (fun q : Nat => s.heap.size ≤ q) b := Nat.not_le.mpr hbl
  obtain ⟨hp1, hp2, hq, hval, hR2⟩ := eq_rules hR (xs (x4 + 1).toNatClampNeg) (xs (x4 + 2).toNatClampNeg)
  refine lv_aload_n hx hb d_Law_1112 rfl (lv_at hl 1 rfl) ?_
  refine lv_aload_n hx hb d_Law_1113 rfl (lv_at hl 0 rfl) ?_
  refine lv_iload hx hb d_Law_1114 (lv_at hl 4 rfl) ?_
  refine lv_iconst (v := 1) hx hb d_Law_1116 (by decide) ?_
  refine lv_iadd hx hb d_Law_1117 ?_
  refine va_sld hx hb hX hbl hbA hW.2.2.2 hi1 d_Law_1118 ?_
  refine lv_aload_n hx hb d_Law_1119 rfl (lv_at hl 0 rfl) ?_
  refine lv_iload hx hb d_Law_1120 (lv_at hl 4 rfl) ?_
  refine lv_iconst (v := 2) hx hb d_Law_1122 (by decide) ?_
  refine lv_iadd hx hb d_Law_1123 ?_
  refine va_sld hx hb hX hbl hbA hW.2.2.2 hi2 d_Law_1124 ?_
  refine rl_rules hC hF hW hlt m_627 hl.1 ⟨Nat.le_of_ble_eq_true rfl, Nat.le_of_ble_eq_true rfl⟩ ⟨hcn, hsn⟩ (Nat.le_of_ble_eq_true rfl) d_Law_1125 (fun H locs hW => ?_)
  refine lv_istore (lv' := [(5, .int (kc_rules (f_Ir_rules ar sc (xs (x4 + 1).toNatClampNeg) (xs (x4 + 2).toNatClampNeg)).1)), (0, .ref b), (1, .ref (L 0)), (2, .ref (M 0)), (3, .ref qo), (4, .int x4)]) hx hb d_Law_1128 hl (by decide) rfl (fun ls hl => ?_)
  refine lv_aload_n hx hb d_Law_1130 rfl (lv_at hl 3 rfl) ?_
  refine lv_aload_n hx hb d_Law_1131 rfl (lv_at hl 1 rfl) ?_
  refine lv_iload hx hb d_Law_1132 (lv_at hl 5 rfl) ?_
  refine lv_iconst (v := 1) hx hb d_Law_1134 (by decide) ?_
  refine lv_iadd hx hb d_Law_1135 ?_
  refine va_sld hx hb hX hbl hbA hW.2.2.2 hi1 d_Law_1136 ?_
  refine lv_aload_n hx hb d_Law_1137 rfl (lv_at hl 1 rfl) ?_
  refine lv_iload hx hb d_Law_1138 (lv_at hl 5 rfl) ?_
  refine lv_iconst (v := 2) hx hb d_Law_1140 (by decide) ?_
  refine lv_iadd hx hb d_Law_1141 ?_
  refine va_sld hx hb hX hbl hbA hW.2.2.2 hi2 d_Law_1142 ?_
  refine rm_rules hC hF hW m_628 hl.1 ⟨Nat.le_of_ble_eq_true rfl, Nat.le_of_ble_eq_true rfl⟩ ⟨hcn, hsn⟩ (Nat.le_of_ble_eq_true rfl) d_Law_1143 (fun H locs hW => ?_)
  refine lv_aload_n hx hb d_Law_1146 rfl (lv_at hl 3 rfl) ?_
  refine r_Mo_thrown hC hF.2.1 hW.2.1 m_597 hl.1 ⟨Nat.le_of_ble_eq_true rfl, Nat.le_of_ble_eq_true rfl⟩ ⟨hcn, hsn⟩ (Nat.le_of_ble_eq_true rfl) d_Law_1147 ?_
  refine lv_iload hx hb d_Law_1150 (lv_at hl 0 rfl) ?_
  refine lv_icmp_eq (tgt := 1157) hx hb d_Law_1152 (by decide) (fun _ => ?_) (fun c9 => absurd hq c9)
  refine lv_goto (tgt := 1437) hx hb d_Law_1157 (by decide) ?_
  exact kk _ _ _ _ _ _ _ _ hW hR2 (lv_sub hl [1, 2, 3, 4, 5] rfl)
set_option maxHeartbeats 4000000 in
set_option maxRecDepth 100000 in
theorem lc_permit {p : Program} {l : Launch} {e : Env} {s : State} {m : MethodId} {args : Array Value} {below : List Frame} {meth : Method} {c : Code} {Q : State → Prop} {b Ln cn sn : Nat} {xs : Nat → Int32} {x4 : Int32} {ls : Array Slot} {dC : Nat → ClassId} {dI : Nat → Nat → Nat} {L : Nat → Nat} {cA : Nat → ClassId} {M : Nat → Nat} {cM : Nat → ClassId} {qo : Nat} {cO : ClassId} {sa : Nat → Nat} {ar : Nat → Nat → Int32} {sc : Nat → Int32} {br : Nat → Nat → Int32} {bc : Nat → Int32} {fo : Nat → Int64} {H : Heap} {locs : List Loc} (hlt : l.stackTraces = false) (hC : CallFix p m c code 7 s args w_all R_Lw) (hX : va_X b Ln xs s s.heap) (hbl : b < s.heap.size) (hF : lwF s dC dI L cA M cM qo cO sa) (hW : lwS s dC dI L cA M cM qo cO ar sc br bc fo H locs) (hR : RL ar sc br bc) (hi1 : vp_in (x4 + 1) Ln) (hi2 : vp_in (x4 + 2) Ln) (hi3 : vp_in (x4 + 3) Ln) (hi4 : vp_in (x4 + 4) Ln) (hi5 : vp_in (x4 + 5) Ln) (hcn : cn + 1 ≤ 1092) (hsn : sn + 6 ≤ 12030) (hl : lv_has ls 7 [(0, .ref b), (1, .ref (L 0)), (2, .ref (M 0)), (3, .ref qo), (4, .int x4)])
    (kk : ∀ (H1 : Heap) (locs1 : List Loc) (ar1 : Nat → Nat → Int32) (sc1 : Nat → Int32) (br1 : Nat → Nat → Int32) (bc1 : Nat → Int32) (fo1 : Nat → Int64) (ls1 : Array Slot), lwS s dC dI L cA M cM qo cO ar1 sc1 br1 bc1 fo1 H1 locs1 → RL ar1 sc1 br1 bc1 → lv_has ls1 7 [(0, .ref b), (1, .ref (L 0)), (2, .ref (M 0)), (3, .ref qo), (4, .int x4)] → W p l e room_1 s m args below meth c H1 locs1 (cn + 1) (sn + 6) Q (F0 m 1437 ls1 [])) : W p l e room_1 s m args below meth c H locs cn sn Q (F0 m 1160 ls []) := by
  have hx := hC.1
  have hb := hC.2.1
  have hown := hC.2.2.2.1
  have hts := hC.2.2.2.2
  have hbA : ¬ (fun q : Nat => s.heap.size ≤ q) b := Nat.not_le.mpr hbl
  obtain ⟨hp1, hp2, hq, hval, hR2⟩ := eq_permit hR (xs (x4 + 1).toNatClampNeg) (xs (x4 + 2).toNatClampNeg) (xs (x4 + 3).toNatClampNeg)
  refine lv_aload_n hx hb d_Law_1160 rfl (lv_at hl 1 rfl) ?_
  refine lv_aload_n hx hb d_Law_1161 rfl (lv_at hl 0 rfl) ?_
  refine lv_iload hx hb d_Law_1162 (lv_at hl 4 rfl) ?_
  refine lv_iconst (v := 1) hx hb d_Law_1164 (by decide) ?_
  refine lv_iadd hx hb d_Law_1165 ?_
  refine va_sld hx hb hX hbl hbA hW.2.2.2 hi1 d_Law_1166 ?_
  refine lv_aload_n hx hb d_Law_1167 rfl (lv_at hl 0 rfl) ?_
  refine lv_iload hx hb d_Law_1168 (lv_at hl 4 rfl) ?_
  refine lv_iconst (v := 2) hx hb d_Law_1170 (by decide) ?_
  refine lv_iadd hx hb d_Law_1171 ?_
  refine va_sld hx hb hX hbl hbA hW.2.2.2 hi2 d_Law_1172 ?_
  refine lv_aload_n hx hb d_Law_1173 rfl (lv_at hl 0 rfl) ?_
  refine lv_iload hx hb d_Law_1174 (lv_at hl 4 rfl) ?_
  refine lv_iconst (v := 3) hx hb d_Law_1176 (by decide) ?_
  refine lv_iadd hx hb d_Law_1177 ?_
  refine va_sld hx hb hX hbl hbA hW.2.2.2 hi3 d_Law_1178 ?_
  refine lv_aload_n hx hb d_Law_1179 rfl (lv_at hl 3 rfl) ?_
  refine rl_permit hC hF hW hlt hp1 m_629 hl.1 ⟨Nat.le_of_ble_eq_true rfl, Nat.le_of_ble_eq_true rfl⟩ ⟨hcn, hsn⟩ (Nat.le_of_ble_eq_true rfl) d_Law_1180 (fun H locs hW => ?_)
  refine lv_istore (lv' := [(5, .int (kc_permit (f_Ir_permit ar sc (xs (x4 + 1).toNatClampNeg) (xs (x4 + 2).toNatClampNeg) (xs (x4 + 3).toNatClampNeg)).1)), (0, .ref b), (1, .ref (L 0)), (2, .ref (M 0)), (3, .ref qo), (4, .int x4)]) hx hb d_Law_1183 hl (by decide) rfl (fun ls hl => ?_)
  refine lv_aload_n hx hb d_Law_1185 rfl (lv_at hl 3 rfl) ?_
  refine lv_aload_n hx hb d_Law_1186 rfl (lv_at hl 1 rfl) ?_
  refine lv_iload hx hb d_Law_1187 (lv_at hl 5 rfl) ?_
  refine lv_iconst (v := 1) hx hb d_Law_1189 (by decide) ?_
  refine lv_iadd hx hb d_Law_1190 ?_
  refine va_sld hx hb hX hbl hbA hW.2.2.2 hi1 d_Law_1191 ?_
  refine lv_aload_n hx hb d_Law_1192 rfl (lv_at hl 1 rfl) ?_
  refine lv_iload hx hb d_Law_1193 (lv_at hl 5 rfl) ?_
  refine lv_iconst (v := 2) hx hb d_Law_1195 (by decide) ?_
  refine lv_iadd hx hb d_Law_1196 ?_
  refine va_sld hx hb hX hbl hbA hW.2.2.2 hi2 d_Law_1197 ?_
  refine lv_aload_n hx hb d_Law_1198 rfl (lv_at hl 1 rfl) ?_
  refine lv_iload hx hb d_Law_1199 (lv_at hl 5 rfl) ?_
  refine lv_iconst (v := 3) hx hb d_Law_1201 (by decide) ?_
  refine lv_iadd hx hb d_Law_1202 ?_
  refine va_sld hx hb hX hbl hbA hW.2.2.2 hi3 d_Law_1203 ?_
  refine rm_permit hC hF hW hp2 m_630 hl.1 ⟨Nat.le_of_ble_eq_true rfl, Nat.le_of_ble_eq_true rfl⟩ ⟨hcn, hsn⟩ (Nat.le_of_ble_eq_true rfl) d_Law_1204 (fun H locs hW => ?_)
  refine lv_istore (lv' := [(6, .int ((f_Mo_permit br bc (xs (x4 + 1).toNatClampNeg) (xs (x4 + 2).toNatClampNeg) (xs (x4 + 3).toNatClampNeg)).1)), (5, .int (kc_permit (f_Ir_permit ar sc (xs (x4 + 1).toNatClampNeg) (xs (x4 + 2).toNatClampNeg) (xs (x4 + 3).toNatClampNeg)).1)), (0, .ref b), (1, .ref (L 0)), (2, .ref (M 0)), (3, .ref qo), (4, .int x4)]) hx hb d_Law_1207 hl (by decide) rfl (fun ls hl => ?_)
  refine lv_aload_n hx hb d_Law_1209 rfl (lv_at hl 4 rfl) ?_
  refine r_Mo_thrown hC hF.2.1 hW.2.1 m_597 hl.1 ⟨Nat.le_of_ble_eq_true rfl, Nat.le_of_ble_eq_true rfl⟩ ⟨hcn, hsn⟩ (Nat.le_of_ble_eq_true rfl) d_Law_1210 ?_
  refine lv_iload hx hb d_Law_1213 (lv_at hl 1 rfl) ?_
  refine lv_icmp_eq (tgt := 1220) hx hb d_Law_1215 (by decide) (fun _ => ?_) (fun c9 => absurd hq c9)
  refine lv_iload hx hb d_Law_1220 (lv_at hl 1 rfl) ?_
  refine lv_if_ne (tgt := 1237) hx hb d_Law_1222 (by decide) (fun _ => ?_) (fun c9 => ?_)
  · refine lv_goto (tgt := 1437) hx hb d_Law_1237 (by decide) ?_
    exact kk _ _ _ _ _ _ _ _ hW hR2 (lv_sub hl [2, 3, 4, 5, 6] rfl)
  · have hN : (f_Ir_permit ar sc (xs (x4 + 1).toNatClampNeg) (xs (x4 + 2).toNatClampNeg) (xs (x4 + 3).toNatClampNeg)).1 = none := by
      rcases ex_Ir_permit ar sc (xs (x4 + 1).toNatClampNeg) (xs (x4 + 2).toNatClampNeg) (xs (x4 + 3).toNatClampNeg) with hN | hN | hN | hN
      · exact hN
      · rw [hN] at c9; exact absurd c9 (by decide)
      · rw [hN] at c9; exact absurd c9 (by decide)
      · rw [hN] at c9; exact absurd c9 (by decide)
    refine lv_aload_n hx hb d_Law_1225 rfl (lv_at hl 5 rfl) ?_
    refine lv_iconst (v := 0) hx hb d_Law_1226 (by decide) ?_
    refine va_lald hx hb hF.2.2.1 hW.2.2.1 0 0 rfl rfl (by unfold vp_in; decide) d_Law_1227 ?_
    refine lv_iload hx hb d_Law_1228 (lv_at hl 0 rfl) ?_
    refine lv_i2l hx hb d_Law_1230 rfl ?_
    refine W.lcmp hx hb d_Law_1231 ?_
    refine lv_if_eq (tgt := 1237) hx hb d_Law_1232 (by decide) (fun _ => ?_) (fun c9 => absurd (by rw [if_pos hN, hval hN]; exact lg_self _) c9)
    refine lv_goto (tgt := 1437) hx hb d_Law_1237 (by decide) ?_
    exact kk _ _ _ _ _ _ _ _ hW hR2 (lv_sub hl [2, 3, 4, 5, 6] rfl)
set_option maxHeartbeats 4000000 in
set_option maxRecDepth 100000 in
theorem lc_ground {p : Program} {l : Launch} {e : Env} {s : State} {m : MethodId} {args : Array Value} {below : List Frame} {meth : Method} {c : Code} {Q : State → Prop} {b Ln cn sn : Nat} {xs : Nat → Int32} {x4 : Int32} {ls : Array Slot} {dC : Nat → ClassId} {dI : Nat → Nat → Nat} {L : Nat → Nat} {cA : Nat → ClassId} {M : Nat → Nat} {cM : Nat → ClassId} {qo : Nat} {cO : ClassId} {sa : Nat → Nat} {ar : Nat → Nat → Int32} {sc : Nat → Int32} {br : Nat → Nat → Int32} {bc : Nat → Int32} {fo : Nat → Int64} {H : Heap} {locs : List Loc} (hlt : l.stackTraces = false) (hC : CallFix p m c code 7 s args w_all R_Lw) (hX : va_X b Ln xs s s.heap) (hbl : b < s.heap.size) (hF : lwF s dC dI L cA M cM qo cO sa) (hW : lwS s dC dI L cA M cM qo cO ar sc br bc fo H locs) (hR : RL ar sc br bc) (hi1 : vp_in (x4 + 1) Ln) (hi2 : vp_in (x4 + 2) Ln) (hi3 : vp_in (x4 + 3) Ln) (hi4 : vp_in (x4 + 4) Ln) (hi5 : vp_in (x4 + 5) Ln) (hcn : cn + 1 ≤ 1092) (hsn : sn + 6 ≤ 12030) (hl : lv_has ls 7 [(0, .ref b), (1, .ref (L 0)), (2, .ref (M 0)), (3, .ref qo), (4, .int x4)])
    (kk : ∀ (H1 : Heap) (locs1 : List Loc) (ar1 : Nat → Nat → Int32) (sc1 : Nat → Int32) (br1 : Nat → Nat → Int32) (bc1 : Nat → Int32) (fo1 : Nat → Int64) (ls1 : Array Slot), lwS s dC dI L cA M cM qo cO ar1 sc1 br1 bc1 fo1 H1 locs1 → RL ar1 sc1 br1 bc1 → lv_has ls1 7 [(0, .ref b), (1, .ref (L 0)), (2, .ref (M 0)), (3, .ref qo), (4, .int x4)] → W p l e room_1 s m args below meth c H1 locs1 (cn + 1) (sn + 6) Q (F0 m 1437 ls1 [])) : W p l e room_1 s m args below meth c H locs cn sn Q (F0 m 1240 ls []) := by
  have hx := hC.1
  have hb := hC.2.1
  have hown := hC.2.2.2.1
  have hts := hC.2.2.2.2
  have hbA : ¬ (fun q : Nat => s.heap.size ≤ q) b := Nat.not_le.mpr hbl
  obtain ⟨hp1, hp2, hq, hval, hR2⟩ := eq_ground hR (xs (x4 + 1).toNatClampNeg) (xs (x4 + 2).toNatClampNeg) (xs (x4 + 3).toNatClampNeg) (xs (x4 + 4).toNatClampNeg)
  refine lv_aload_n hx hb d_Law_1240 rfl (lv_at hl 1 rfl) ?_
  refine lv_aload_n hx hb d_Law_1241 rfl (lv_at hl 0 rfl) ?_
  refine lv_iload hx hb d_Law_1242 (lv_at hl 4 rfl) ?_
  refine lv_iconst (v := 1) hx hb d_Law_1244 (by decide) ?_
  refine lv_iadd hx hb d_Law_1245 ?_
  refine va_sld hx hb hX hbl hbA hW.2.2.2 hi1 d_Law_1246 ?_
  refine lv_aload_n hx hb d_Law_1247 rfl (lv_at hl 0 rfl) ?_
  refine lv_iload hx hb d_Law_1248 (lv_at hl 4 rfl) ?_
  refine lv_iconst (v := 2) hx hb d_Law_1250 (by decide) ?_
  refine lv_iadd hx hb d_Law_1251 ?_
  refine va_sld hx hb hX hbl hbA hW.2.2.2 hi2 d_Law_1252 ?_
  refine lv_aload_n hx hb d_Law_1253 rfl (lv_at hl 0 rfl) ?_
  refine lv_iload hx hb d_Law_1254 (lv_at hl 4 rfl) ?_
  refine lv_iconst (v := 3) hx hb d_Law_1256 (by decide) ?_
  refine lv_iadd hx hb d_Law_1257 ?_
  refine va_sld hx hb hX hbl hbA hW.2.2.2 hi3 d_Law_1258 ?_
  refine lv_aload_n hx hb d_Law_1259 rfl (lv_at hl 0 rfl) ?_
  refine lv_iload hx hb d_Law_1260 (lv_at hl 4 rfl) ?_
  refine lv_iconst (v := 4) hx hb d_Law_1262 (by decide) ?_
  refine lv_iadd hx hb d_Law_1263 ?_
  refine va_sld hx hb hX hbl hbA hW.2.2.2 hi4 d_Law_1264 ?_
  refine rl_ground hC hF hW hlt m_631 hl.1 ⟨Nat.le_of_ble_eq_true rfl, Nat.le_of_ble_eq_true rfl⟩ ⟨hcn, hsn⟩ (Nat.le_of_ble_eq_true rfl) d_Law_1265 (fun H locs hW => ?_)
  refine lv_istore (lv' := [(5, .int (kc_ground (f_Ir_ground ar sc (xs (x4 + 1).toNatClampNeg) (xs (x4 + 2).toNatClampNeg) (xs (x4 + 3).toNatClampNeg) (xs (x4 + 4).toNatClampNeg)).1)), (0, .ref b), (1, .ref (L 0)), (2, .ref (M 0)), (3, .ref qo), (4, .int x4)]) hx hb d_Law_1268 hl (by decide) rfl (fun ls hl => ?_)
  refine lv_aload_n hx hb d_Law_1270 rfl (lv_at hl 3 rfl) ?_
  refine lv_aload_n hx hb d_Law_1271 rfl (lv_at hl 1 rfl) ?_
  refine lv_iload hx hb d_Law_1272 (lv_at hl 5 rfl) ?_
  refine lv_iconst (v := 1) hx hb d_Law_1274 (by decide) ?_
  refine lv_iadd hx hb d_Law_1275 ?_
  refine va_sld hx hb hX hbl hbA hW.2.2.2 hi1 d_Law_1276 ?_
  refine lv_aload_n hx hb d_Law_1277 rfl (lv_at hl 1 rfl) ?_
  refine lv_iload hx hb d_Law_1278 (lv_at hl 5 rfl) ?_
  refine lv_iconst (v := 2) hx hb d_Law_1280 (by decide) ?_
  refine lv_iadd hx hb d_Law_1281 ?_
  refine va_sld hx hb hX hbl hbA hW.2.2.2 hi2 d_Law_1282 ?_
  refine lv_aload_n hx hb d_Law_1283 rfl (lv_at hl 1 rfl) ?_
  refine lv_iload hx hb d_Law_1284 (lv_at hl 5 rfl) ?_
  refine lv_iconst (v := 3) hx hb d_Law_1286 (by decide) ?_
  refine lv_iadd hx hb d_Law_1287 ?_
  refine va_sld hx hb hX hbl hbA hW.2.2.2 hi3 d_Law_1288 ?_
  refine lv_aload_n hx hb d_Law_1289 rfl (lv_at hl 1 rfl) ?_
  refine lv_iload hx hb d_Law_1290 (lv_at hl 5 rfl) ?_
  refine lv_iconst (v := 4) hx hb d_Law_1292 (by decide) ?_
  refine lv_iadd hx hb d_Law_1293 ?_
  refine va_sld hx hb hX hbl hbA hW.2.2.2 hi4 d_Law_1294 ?_
  refine rm_ground hC hF hW hp2 m_632 hl.1 ⟨Nat.le_of_ble_eq_true rfl, Nat.le_of_ble_eq_true rfl⟩ ⟨hcn, hsn⟩ (Nat.le_of_ble_eq_true rfl) d_Law_1295 (fun H locs hW => ?_)
  refine lv_aload_n hx hb d_Law_1298 rfl (lv_at hl 3 rfl) ?_
  refine r_Mo_thrown hC hF.2.1 hW.2.1 m_597 hl.1 ⟨Nat.le_of_ble_eq_true rfl, Nat.le_of_ble_eq_true rfl⟩ ⟨hcn, hsn⟩ (Nat.le_of_ble_eq_true rfl) d_Law_1299 ?_
  refine lv_iload hx hb d_Law_1302 (lv_at hl 0 rfl) ?_
  refine lv_icmp_eq (tgt := 1309) hx hb d_Law_1304 (by decide) (fun _ => ?_) (fun c9 => absurd hq c9)
  refine lv_goto (tgt := 1437) hx hb d_Law_1309 (by decide) ?_
  exact kk _ _ _ _ _ _ _ _ hW hR2 (lv_sub hl [1, 2, 3, 4, 5] rfl)
set_option maxHeartbeats 4000000 in
set_option maxRecDepth 100000 in
theorem lc_clash {p : Program} {l : Launch} {e : Env} {s : State} {m : MethodId} {args : Array Value} {below : List Frame} {meth : Method} {c : Code} {Q : State → Prop} {b Ln cn sn : Nat} {xs : Nat → Int32} {x4 : Int32} {ls : Array Slot} {dC : Nat → ClassId} {dI : Nat → Nat → Nat} {L : Nat → Nat} {cA : Nat → ClassId} {M : Nat → Nat} {cM : Nat → ClassId} {qo : Nat} {cO : ClassId} {sa : Nat → Nat} {ar : Nat → Nat → Int32} {sc : Nat → Int32} {br : Nat → Nat → Int32} {bc : Nat → Int32} {fo : Nat → Int64} {H : Heap} {locs : List Loc} (hlt : l.stackTraces = false) (hC : CallFix p m c code 7 s args w_all R_Lw) (hX : va_X b Ln xs s s.heap) (hbl : b < s.heap.size) (hF : lwF s dC dI L cA M cM qo cO sa) (hW : lwS s dC dI L cA M cM qo cO ar sc br bc fo H locs) (hR : RL ar sc br bc) (hi1 : vp_in (x4 + 1) Ln) (hi2 : vp_in (x4 + 2) Ln) (hi3 : vp_in (x4 + 3) Ln) (hi4 : vp_in (x4 + 4) Ln) (hi5 : vp_in (x4 + 5) Ln) (hcn : cn + 1 ≤ 1092) (hsn : sn + 6 ≤ 12030) (hl : lv_has ls 7 [(0, .ref b), (1, .ref (L 0)), (2, .ref (M 0)), (3, .ref qo), (4, .int x4)])
    (kk : ∀ (H1 : Heap) (locs1 : List Loc) (ar1 : Nat → Nat → Int32) (sc1 : Nat → Int32) (br1 : Nat → Nat → Int32) (bc1 : Nat → Int32) (fo1 : Nat → Int64) (ls1 : Array Slot), lwS s dC dI L cA M cM qo cO ar1 sc1 br1 bc1 fo1 H1 locs1 → RL ar1 sc1 br1 bc1 → lv_has ls1 7 [(0, .ref b), (1, .ref (L 0)), (2, .ref (M 0)), (3, .ref qo), (4, .int x4)] → W p l e room_1 s m args below meth c H1 locs1 (cn + 1) (sn + 6) Q (F0 m 1437 ls1 [])) : W p l e room_1 s m args below meth c H locs cn sn Q (F0 m 1312 ls []) := by
  have hx := hC.1
  have hb := hC.2.1
  have hown := hC.2.2.2.1
  have hts := hC.2.2.2.2
  have hbA : ¬ (fun q : Nat => s.heap.size ≤ q) b := Nat.not_le.mpr hbl
  obtain ⟨hp1, hp2, hq, hval, hR2⟩ := eq_clash hR
  refine lv_aload_n hx hb d_Law_1312 rfl (lv_at hl 1 rfl) ?_
  refine ro_Ir_clash hC hF.1 hW.1 hF.2.2.2.1 hF.2.2.2.2.2.1 hW.2.2.2 hlt (lw_zx hF.2.2.2.2.2.2.2.2.2.2.2.1 hF.2.2.2.2.2.1 hW.2.2.2) rfl m_633 hl.1 ⟨Nat.le_of_ble_eq_true rfl, Nat.le_of_ble_eq_true rfl⟩ ⟨hcn, hsn⟩ (Nat.le_of_ble_eq_true rfl) d_Law_1313 (fun H1 locs1 h1 _ hk1 hS1 => ?_)
  have hW : lwS s dC dI L cA M cM qo cO (f_Ir_clash ar sc).2.2.1 (f_Ir_clash ar sc).2.2.2 br bc fo H1 locs1 := ⟨h1, kp_M hW.2.1 hk1 (fun q h9 h8 => hF.2.2.2.2.2.2.2.2.2.2.1 q h8 h9), kp_O hW.2.2.1 hk1 hF.2.2.2.2.2.2.2.2.1, hS1⟩
  refine lv_aload_n hx hb d_Law_1316 rfl (lv_at hl 2 rfl) ?_
  refine rm_clash hC hF hW m_634 hl.1 ⟨Nat.le_of_ble_eq_true rfl, Nat.le_of_ble_eq_true rfl⟩ ⟨hcn, hsn⟩ (Nat.le_of_ble_eq_true rfl) d_Law_1317 (fun H locs hW => ?_)
  refine lv_icmp_eq (tgt := 1437) hx hb d_Law_1320 (by decide) (fun _ => ?_) (fun c9 => absurd hval c9)
  exact kk _ _ _ _ _ _ _ _ hW hR2 (lv_sub hl [0, 1, 2, 3, 4] rfl)
set_option maxHeartbeats 4000000 in
set_option maxRecDepth 100000 in
theorem lc_touches {p : Program} {l : Launch} {e : Env} {s : State} {m : MethodId} {args : Array Value} {below : List Frame} {meth : Method} {c : Code} {Q : State → Prop} {b Ln cn sn : Nat} {xs : Nat → Int32} {x4 : Int32} {ls : Array Slot} {dC : Nat → ClassId} {dI : Nat → Nat → Nat} {L : Nat → Nat} {cA : Nat → ClassId} {M : Nat → Nat} {cM : Nat → ClassId} {qo : Nat} {cO : ClassId} {sa : Nat → Nat} {ar : Nat → Nat → Int32} {sc : Nat → Int32} {br : Nat → Nat → Int32} {bc : Nat → Int32} {fo : Nat → Int64} {H : Heap} {locs : List Loc} (hlt : l.stackTraces = false) (hC : CallFix p m c code 7 s args w_all R_Lw) (hX : va_X b Ln xs s s.heap) (hbl : b < s.heap.size) (hF : lwF s dC dI L cA M cM qo cO sa) (hW : lwS s dC dI L cA M cM qo cO ar sc br bc fo H locs) (hR : RL ar sc br bc) (hi1 : vp_in (x4 + 1) Ln) (hi2 : vp_in (x4 + 2) Ln) (hi3 : vp_in (x4 + 3) Ln) (hi4 : vp_in (x4 + 4) Ln) (hi5 : vp_in (x4 + 5) Ln) (hcn : cn + 1 ≤ 1092) (hsn : sn + 6 ≤ 12030) (hl : lv_has ls 7 [(0, .ref b), (1, .ref (L 0)), (2, .ref (M 0)), (3, .ref qo), (4, .int x4)])
    (kk : ∀ (H1 : Heap) (locs1 : List Loc) (ar1 : Nat → Nat → Int32) (sc1 : Nat → Int32) (br1 : Nat → Nat → Int32) (bc1 : Nat → Int32) (fo1 : Nat → Int64) (ls1 : Array Slot), lwS s dC dI L cA M cM qo cO ar1 sc1 br1 bc1 fo1 H1 locs1 → RL ar1 sc1 br1 bc1 → lv_has ls1 7 [(0, .ref b), (1, .ref (L 0)), (2, .ref (M 0)), (3, .ref qo), (4, .int x4)] → W p l e room_1 s m args below meth c H1 locs1 (cn + 1) (sn + 6) Q (F0 m 1437 ls1 [])) : W p l e room_1 s m args below meth c H locs cn sn Q (F0 m 1325 ls []) := by
  have hx := hC.1
  have hb := hC.2.1
  have hown := hC.2.2.2.1
  have hts := hC.2.2.2.2
  have hbA : ¬ (fun q : Nat => s.heap.size ≤ q) b := Nat.not_le.mpr hbl
  obtain ⟨hp1, hp2, hq, hval, hR2⟩ := eq_touches hR (xs (x4 + 1).toNatClampNeg)
  refine lv_aload_n hx hb d_Law_1325 rfl (lv_at hl 1 rfl) ?_
  refine lv_aload_n hx hb d_Law_1326 rfl (lv_at hl 0 rfl) ?_
  refine lv_iload hx hb d_Law_1327 (lv_at hl 4 rfl) ?_
  refine lv_iconst (v := 1) hx hb d_Law_1329 (by decide) ?_
  refine lv_iadd hx hb d_Law_1330 ?_
  refine va_sld hx hb hX hbl hbA hW.2.2.2 hi1 d_Law_1331 ?_
  refine lv_aload_n hx hb d_Law_1332 rfl (lv_at hl 3 rfl) ?_
  refine rl_touches hC hF hW hlt hp1 m_635 hl.1 ⟨Nat.le_of_ble_eq_true rfl, Nat.le_of_ble_eq_true rfl⟩ ⟨hcn, hsn⟩ (Nat.le_of_ble_eq_true rfl) d_Law_1333 (fun H locs hW => ?_)
  refine lv_istore (lv' := [(5, .int (kc_touches (f_Ir_touches ar sc (xs (x4 + 1).toNatClampNeg)).1)), (0, .ref b), (1, .ref (L 0)), (2, .ref (M 0)), (3, .ref qo), (4, .int x4)]) hx hb d_Law_1336 hl (by decide) rfl (fun ls hl => ?_)
  refine lv_aload_n hx hb d_Law_1338 rfl (lv_at hl 3 rfl) ?_
  refine lv_aload_n hx hb d_Law_1339 rfl (lv_at hl 1 rfl) ?_
  refine lv_iload hx hb d_Law_1340 (lv_at hl 5 rfl) ?_
  refine lv_iconst (v := 1) hx hb d_Law_1342 (by decide) ?_
  refine lv_iadd hx hb d_Law_1343 ?_
  refine va_sld hx hb hX hbl hbA hW.2.2.2 hi1 d_Law_1344 ?_
  refine rm_touches hC hF hW hp2 m_636 hl.1 ⟨Nat.le_of_ble_eq_true rfl, Nat.le_of_ble_eq_true rfl⟩ ⟨hcn, hsn⟩ (Nat.le_of_ble_eq_true rfl) d_Law_1345 (fun H locs hW => ?_)
  refine lv_istore (lv' := [(6, .int ((f_Mo_touches br bc (xs (x4 + 1).toNatClampNeg)).1)), (5, .int (kc_touches (f_Ir_touches ar sc (xs (x4 + 1).toNatClampNeg)).1)), (0, .ref b), (1, .ref (L 0)), (2, .ref (M 0)), (3, .ref qo), (4, .int x4)]) hx hb d_Law_1348 hl (by decide) rfl (fun ls hl => ?_)
  refine lv_aload_n hx hb d_Law_1350 rfl (lv_at hl 4 rfl) ?_
  refine r_Mo_thrown hC hF.2.1 hW.2.1 m_597 hl.1 ⟨Nat.le_of_ble_eq_true rfl, Nat.le_of_ble_eq_true rfl⟩ ⟨hcn, hsn⟩ (Nat.le_of_ble_eq_true rfl) d_Law_1351 ?_
  refine lv_iload hx hb d_Law_1354 (lv_at hl 1 rfl) ?_
  refine lv_icmp_eq (tgt := 1361) hx hb d_Law_1356 (by decide) (fun _ => ?_) (fun c9 => absurd hq c9)
  refine lv_iload hx hb d_Law_1361 (lv_at hl 1 rfl) ?_
  refine lv_if_ne (tgt := 1378) hx hb d_Law_1363 (by decide) (fun _ => ?_) (fun c9 => ?_)
  · refine lv_goto (tgt := 1437) hx hb d_Law_1378 (by decide) ?_
    exact kk _ _ _ _ _ _ _ _ hW hR2 (lv_sub hl [2, 3, 4, 5, 6] rfl)
  · have hN : (f_Ir_touches ar sc (xs (x4 + 1).toNatClampNeg)).1 = none := by
      rcases ex_Ir_touches ar sc (xs (x4 + 1).toNatClampNeg) with hN | hN
      · exact hN
      · rw [hN] at c9; exact absurd c9 (by decide)
    refine lv_aload_n hx hb d_Law_1366 rfl (lv_at hl 5 rfl) ?_
    refine lv_iconst (v := 0) hx hb d_Law_1367 (by decide) ?_
    refine va_lald hx hb hF.2.2.1 hW.2.2.1 0 0 rfl rfl (by unfold vp_in; decide) d_Law_1368 ?_
    refine lv_iload hx hb d_Law_1369 (lv_at hl 0 rfl) ?_
    refine lv_i2l hx hb d_Law_1371 rfl ?_
    refine W.lcmp hx hb d_Law_1372 ?_
    refine lv_if_eq (tgt := 1378) hx hb d_Law_1373 (by decide) (fun _ => ?_) (fun c9 => absurd (by rw [if_pos hN, hval hN]; exact lg_self _) c9)
    refine lv_goto (tgt := 1437) hx hb d_Law_1378 (by decide) ?_
    exact kk _ _ _ _ _ _ _ _ hW hR2 (lv_sub hl [2, 3, 4, 5, 6] rfl)
set_option maxHeartbeats 4000000 in
set_option maxRecDepth 100000 in
theorem lc_surprise {p : Program} {l : Launch} {e : Env} {s : State} {m : MethodId} {args : Array Value} {below : List Frame} {meth : Method} {c : Code} {Q : State → Prop} {b Ln cn sn : Nat} {xs : Nat → Int32} {x4 : Int32} {ls : Array Slot} {dC : Nat → ClassId} {dI : Nat → Nat → Nat} {L : Nat → Nat} {cA : Nat → ClassId} {M : Nat → Nat} {cM : Nat → ClassId} {qo : Nat} {cO : ClassId} {sa : Nat → Nat} {ar : Nat → Nat → Int32} {sc : Nat → Int32} {br : Nat → Nat → Int32} {bc : Nat → Int32} {fo : Nat → Int64} {H : Heap} {locs : List Loc} (hlt : l.stackTraces = false) (hC : CallFix p m c code 7 s args w_all R_Lw) (hX : va_X b Ln xs s s.heap) (hbl : b < s.heap.size) (hF : lwF s dC dI L cA M cM qo cO sa) (hW : lwS s dC dI L cA M cM qo cO ar sc br bc fo H locs) (hR : RL ar sc br bc) (hi1 : vp_in (x4 + 1) Ln) (hi2 : vp_in (x4 + 2) Ln) (hi3 : vp_in (x4 + 3) Ln) (hi4 : vp_in (x4 + 4) Ln) (hi5 : vp_in (x4 + 5) Ln) (hcn : cn + 1 ≤ 1092) (hsn : sn + 6 ≤ 12030) (hl : lv_has ls 7 [(0, .ref b), (1, .ref (L 0)), (2, .ref (M 0)), (3, .ref qo), (4, .int x4)])
    (kk : ∀ (H1 : Heap) (locs1 : List Loc) (ar1 : Nat → Nat → Int32) (sc1 : Nat → Int32) (br1 : Nat → Nat → Int32) (bc1 : Nat → Int32) (fo1 : Nat → Int64) (ls1 : Array Slot), lwS s dC dI L cA M cM qo cO ar1 sc1 br1 bc1 fo1 H1 locs1 → RL ar1 sc1 br1 bc1 → lv_has ls1 7 [(0, .ref b), (1, .ref (L 0)), (2, .ref (M 0)), (3, .ref qo), (4, .int x4)] → W p l e room_1 s m args below meth c H1 locs1 (cn + 1) (sn + 6) Q (F0 m 1437 ls1 [])) : W p l e room_1 s m args below meth c H locs cn sn Q (F0 m 1381 ls []) := by
  have hx := hC.1
  have hb := hC.2.1
  have hown := hC.2.2.2.1
  have hts := hC.2.2.2.2
  have hbA : ¬ (fun q : Nat => s.heap.size ≤ q) b := Nat.not_le.mpr hbl
  obtain ⟨hp1, hp2, hq, hval, hR2⟩ := eq_surprise hR (xs (x4 + 1).toNatClampNeg)
  refine lv_aload_n hx hb d_Law_1381 rfl (lv_at hl 1 rfl) ?_
  refine lv_aload_n hx hb d_Law_1382 rfl (lv_at hl 0 rfl) ?_
  refine lv_iload hx hb d_Law_1383 (lv_at hl 4 rfl) ?_
  refine lv_iconst (v := 1) hx hb d_Law_1385 (by decide) ?_
  refine lv_iadd hx hb d_Law_1386 ?_
  refine va_sld hx hb hX hbl hbA hW.2.2.2 hi1 d_Law_1387 ?_
  refine lv_aload_n hx hb d_Law_1388 rfl (lv_at hl 3 rfl) ?_
  refine rl_surprise hC hF hW hlt hp1 m_637 hl.1 ⟨Nat.le_of_ble_eq_true rfl, Nat.le_of_ble_eq_true rfl⟩ ⟨hcn, hsn⟩ (Nat.le_of_ble_eq_true rfl) d_Law_1389 (fun H locs hW => ?_)
  refine lv_istore (lv' := [(5, .int (kc_surprise (f_Ir_surprise ar sc (xs (x4 + 1).toNatClampNeg)).1)), (0, .ref b), (1, .ref (L 0)), (2, .ref (M 0)), (3, .ref qo), (4, .int x4)]) hx hb d_Law_1392 hl (by decide) rfl (fun ls hl => ?_)
  refine lv_aload_n hx hb d_Law_1394 rfl (lv_at hl 3 rfl) ?_
  refine lv_aload_n hx hb d_Law_1395 rfl (lv_at hl 1 rfl) ?_
  refine lv_iload hx hb d_Law_1396 (lv_at hl 5 rfl) ?_
  refine lv_iconst (v := 1) hx hb d_Law_1398 (by decide) ?_
  refine lv_iadd hx hb d_Law_1399 ?_
  refine va_sld hx hb hX hbl hbA hW.2.2.2 hi1 d_Law_1400 ?_
  refine rm_surprise hC hF hW hp2 m_638 hl.1 ⟨Nat.le_of_ble_eq_true rfl, Nat.le_of_ble_eq_true rfl⟩ ⟨hcn, hsn⟩ (Nat.le_of_ble_eq_true rfl) d_Law_1401 (fun H locs hW => ?_)
  refine lv_istore (lv' := [(6, .int ((f_Mo_surprise br bc (xs (x4 + 1).toNatClampNeg)).1)), (5, .int (kc_surprise (f_Ir_surprise ar sc (xs (x4 + 1).toNatClampNeg)).1)), (0, .ref b), (1, .ref (L 0)), (2, .ref (M 0)), (3, .ref qo), (4, .int x4)]) hx hb d_Law_1404 hl (by decide) rfl (fun ls hl => ?_)
  refine lv_aload_n hx hb d_Law_1406 rfl (lv_at hl 4 rfl) ?_
  refine r_Mo_thrown hC hF.2.1 hW.2.1 m_597 hl.1 ⟨Nat.le_of_ble_eq_true rfl, Nat.le_of_ble_eq_true rfl⟩ ⟨hcn, hsn⟩ (Nat.le_of_ble_eq_true rfl) d_Law_1407 ?_
  refine lv_iload hx hb d_Law_1410 (lv_at hl 1 rfl) ?_
  refine lv_icmp_eq (tgt := 1417) hx hb d_Law_1412 (by decide) (fun _ => ?_) (fun c9 => absurd hq c9)
  refine lv_iload hx hb d_Law_1417 (lv_at hl 1 rfl) ?_
  refine lv_if_ne (tgt := 1434) hx hb d_Law_1419 (by decide) (fun _ => ?_) (fun c9 => ?_)
  · refine lv_goto (tgt := 1437) hx hb d_Law_1434 (by decide) ?_
    exact kk _ _ _ _ _ _ _ _ hW hR2 (lv_sub hl [2, 3, 4, 5, 6] rfl)
  · have hN : (f_Ir_surprise ar sc (xs (x4 + 1).toNatClampNeg)).1 = none := by
      rcases ex_Ir_surprise ar sc (xs (x4 + 1).toNatClampNeg) with hN | hN
      · exact hN
      · rw [hN] at c9; exact absurd c9 (by decide)
    refine lv_aload_n hx hb d_Law_1422 rfl (lv_at hl 5 rfl) ?_
    refine lv_iconst (v := 0) hx hb d_Law_1423 (by decide) ?_
    refine va_lald hx hb hF.2.2.1 hW.2.2.1 0 0 rfl rfl (by unfold vp_in; decide) d_Law_1424 ?_
    refine lv_iload hx hb d_Law_1425 (lv_at hl 0 rfl) ?_
    refine lv_i2l hx hb d_Law_1427 rfl ?_
    refine W.lcmp hx hb d_Law_1428 ?_
    refine lv_if_eq (tgt := 1434) hx hb d_Law_1429 (by decide) (fun _ => ?_) (fun c9 => absurd (by rw [if_pos hN, hval hN]; exact lg_self _) c9)
    refine lv_goto (tgt := 1437) hx hb d_Law_1434 (by decide) ?_
    exact kk _ _ _ _ _ _ _ _ hW hR2 (lv_sub hl [2, 3, 4, 5, 6] rfl)

theorem m_639 : (Cond.instantiable R_Ir 8) ∈ w_all := List.mem_filter.mpr ⟨List.mem_of_getElem? (i := 49) (by decide +kernel), by decide +kernel⟩
theorem m_640 : (Cond.instantiable R_Mo 34) ∈ w_all := List.mem_filter.mpr ⟨List.mem_of_getElem? (i := 717) (by decide +kernel), by decide +kernel⟩
theorem m_641 : (Cond.classLink R_Lw 8 R_Ir) ∈ w_all := List.mem_filter.mpr ⟨List.mem_of_getElem? (i := 48) (by decide +kernel), by decide +kernel⟩
theorem m_642 : (Cond.code y_Ir_init b_Ir_init 1 none) ∈ w_all := List.mem_filter.mpr ⟨List.mem_of_getElem? (i := 52) (by decide +kernel), by decide +kernel⟩
theorem m_643 : (Cond.methodLink R_Lw 86 y_Ir_init) ∈ w_all := List.mem_filter.mpr ⟨List.mem_of_getElem? (i := 50) (by decide +kernel), by decide +kernel⟩
theorem m_644 : (Cond.instanceMethod y_Ir_init) ∈ w_all := List.mem_filter.mpr ⟨List.mem_of_getElem? (i := 51) (by decide +kernel), by decide +kernel⟩
theorem m_645 : (Cond.classLink R_Lw 87 R_Mo) ∈ w_all := List.mem_filter.mpr ⟨List.mem_of_getElem? (i := 716) (by decide +kernel), by decide +kernel⟩
theorem m_646 : (Cond.code y_Mo_init b_Mo_init 1 none) ∈ w_all := List.mem_filter.mpr ⟨List.mem_of_getElem? (i := 720) (by decide +kernel), by decide +kernel⟩
theorem m_647 : (Cond.methodLink R_Lw 89 y_Mo_init) ∈ w_all := List.mem_filter.mpr ⟨List.mem_of_getElem? (i := 718) (by decide +kernel), by decide +kernel⟩
theorem m_648 : (Cond.instanceMethod y_Mo_init) ∈ w_all := List.mem_filter.mpr ⟨List.mem_of_getElem? (i := 719) (by decide +kernel), by decide +kernel⟩
theorem m_649 : (Cond.arrayClass .long) ∈ w_all := List.mem_filter.mpr ⟨List.mem_of_getElem? (i := 994) (by decide +kernel), by decide +kernel⟩

theorem pa_l {D : va_G} {cl : List vw_C} {a b : va_W} {H : Heap} (h : va_P D cl (a ++ b) H) : va_P D cl a H := fun k q hk => h k q (by rw [List.getElem?_append_left (List.getElem?_eq_some_iff.mp hk).1]; exact hk)
theorem pa_r {D : va_G} {cl : List vw_C} {a b : va_W} {H : Heap} (h : va_P D cl (a ++ b) H) : va_P D cl b H := fun k q hk => h (a.length + k) q (by rw [List.getElem?_append_right (Nat.le_add_right _ _), Nat.add_sub_cancel_left]; exact hk)
theorem da_l {A : Nat → Prop} {a b : va_W} (h : va_D A (a ++ b)) : va_D A a := ⟨fun i j p q hp hq e => h.1 i j p q (by rw [List.getElem?_append_left (List.getElem?_eq_some_iff.mp hp).1]; exact hp) (by rw [List.getElem?_append_left (List.getElem?_eq_some_iff.mp hq).1]; exact hq) e, fun k q hk => h.2 k q (by rw [List.getElem?_append_left (List.getElem?_eq_some_iff.mp hk).1]; exact hk)⟩
theorem da_r {A : Nat → Prop} {a b : va_W} (h : va_D A (a ++ b)) : va_D A b := ⟨fun i j p q hp hq e => by
    have h9 := h.1 (a.length + i) (a.length + j) p q (by rw [List.getElem?_append_right (Nat.le_add_right _ _), Nat.add_sub_cancel_left]; exact hp) (by rw [List.getElem?_append_right (Nat.le_add_right _ _), Nat.add_sub_cancel_left]; exact hq) e
    omega, fun k q hk => h.2 (a.length + k) q (by rw [List.getElem?_append_right (Nat.le_add_right _ _), Nat.add_sub_cancel_left]; exact hk)⟩
theorem da_x {A : Nat → Prop} {a b : va_W} (h : va_D A (a ++ b)) {i j : Nat} {p q : Nat × va_E} (hp : a[i]? = some p) (hq : b[j]? = some q) : p.1 ≠ q.1 := fun e => by
  have h9 := h.1 i (a.length + j) p q (by rw [List.getElem?_append_left (List.getElem?_eq_some_iff.mp hp).1]; exact hp) (by rw [List.getElem?_append_right (Nat.le_add_right _ _), Nat.add_sub_cancel_left]; exact hq) e
  have h8 := (List.getElem?_eq_some_iff.mp hp).1
  omega
theorem wI_has {L : Nat → Nat} {cA : Nat → ClassId} {ar : Nat → Nat → Int32} {sc : Nat → Int32} {k : Nat} (h : k < 38) : ∃ x : va_E, (wI L cA ar sc)[k]? = some (L k, x) := by
  have hl : k < (wI L cA ar sc).length := h
  refine ⟨((wI L cA ar sc)[k]).2, ?_⟩
  have h1 : (wI L cA ar sc)[k]? = some ((wI L cA ar sc)[k]) := List.getElem?_eq_getElem hl
  rw [h1, ← (wI_at h1).2]
theorem wI_ij {A : Nat → Prop} {L : Nat → Nat} {cA : Nat → ClassId} {ar : Nat → Nat → Int32} {sc : Nat → Int32} (h : va_D A (wI L cA ar sc)) : ij 38 L := fun i j hi hj e => by
  obtain ⟨x, hx⟩ := wI_has (L := L) (cA := cA) (ar := ar) (sc := sc) hi
  obtain ⟨y, hy⟩ := wI_has (L := L) (cA := cA) (ar := ar) (sc := sc) hj
  exact h.1 i j _ _ hx hy e
theorem wI_in {A : Nat → Prop} {L : Nat → Nat} {cA : Nat → ClassId} {ar : Nat → Nat → Int32} {sc : Nat → Int32} (h : va_D A (wI L cA ar sc)) : ∀ q, aI L q → A q := fun q hq => by
  obtain ⟨k, hk, e⟩ := hq
  obtain ⟨x, hx⟩ := wI_has (L := L) (cA := cA) (ar := ar) (sc := sc) hk
  have h9 := h.2 k _ hx
  rw [← e]; exact h9
theorem wM_has {L : Nat → Nat} {cA : Nat → ClassId} {ar : Nat → Nat → Int32} {sc : Nat → Int32} {k : Nat} (h : k < 25) : ∃ x : va_E, (wM L cA ar sc)[k]? = some (L k, x) := by
  have hl : k < (wM L cA ar sc).length := h
  refine ⟨((wM L cA ar sc)[k]).2, ?_⟩
  have h1 : (wM L cA ar sc)[k]? = some ((wM L cA ar sc)[k]) := List.getElem?_eq_getElem hl
  rw [h1, ← (wM_at h1).2]
theorem wM_ij {A : Nat → Prop} {L : Nat → Nat} {cA : Nat → ClassId} {ar : Nat → Nat → Int32} {sc : Nat → Int32} (h : va_D A (wM L cA ar sc)) : ij 25 L := fun i j hi hj e => by
  obtain ⟨x, hx⟩ := wM_has (L := L) (cA := cA) (ar := ar) (sc := sc) hi
  obtain ⟨y, hy⟩ := wM_has (L := L) (cA := cA) (ar := ar) (sc := sc) hj
  exact h.1 i j _ _ hx hy e
theorem wM_in {A : Nat → Prop} {L : Nat → Nat} {cA : Nat → ClassId} {ar : Nat → Nat → Int32} {sc : Nat → Int32} (h : va_D A (wM L cA ar sc)) : ∀ q, aM L q → A q := fun q hq => by
  obtain ⟨k, hk, e⟩ := hq
  obtain ⟨x, hx⟩ := wM_has (L := L) (cA := cA) (ar := ar) (sc := sc) hk
  have h9 := h.2 k _ hx
  rw [← e]; exact h9

set_option maxHeartbeats 16000000 in
set_option maxRecDepth 100000 in
theorem whole_start {p : Program} {e : Env} {s : State} {m : MethodId} {below : List Frame} {meth : Method} {c : Code} (l : Launch) (hlt : l.stackTraces = false) {b L : Nat} {xs : Nat → Int32} (hL : L ≤ 3072) (C0 : lw_At p s m meth c b L xs) : W p l e room_1 s m #[Value.ref b] below meth c s.heap [] 0 0 (lw_Z below #[Value.ref b] s) (entryFrame m ([Value.ref b] : List Value).toArray 7) := by
  obtain ⟨hx, hb, hr, hml, hown, htb, hX, hbl, hlocks, hgv⟩ := id C0
  have hown : s.vm.findClass R_Lw = some m.cls := hown
  have hts : ∀ w ∈ w_all, w.before #[Value.ref b] s = true := fun w hw => htb w (List.mem_filter.mp hw).1
  have hnw : ∀ w ∈ nw_all, va_Nw w s := fun w hw => va_Nw.of (nw_tab (List.mem_filter.mp hw).2) (htb w (List.mem_filter.mp hw).1)
  have hC : CallFix p m c code 7 s #[Value.ref b] w_all R_Lw := ⟨hx, hb, hml, hown, hts⟩
  have hA : ∀ q : Nat, s.heap.size ≤ q → (fun q : Nat => s.heap.size ≤ q) q := fun _ h => h
  have hnA : ∀ a : Nat, a < s.heap.size → ¬ (fun q : Nat => s.heap.size ≤ q) a := fun a h => Nat.not_le.mpr h
  have hgs := flat_of_before _ hgv
  obtain ⟨c0, i0, hn0⟩ := u_known (C := R_Ir) (T := F_Ir) (N := 8) (n := 8) hts i_Ir (hts _ m_639)
  obtain ⟨c1, i1, hn1⟩ := u_known (C := R_Scale) (T := F_Scale) (N := 4) (n := 4) hts i_Scale (hts _ m_381)
  obtain ⟨c2, i2, hn2⟩ := u_known (C := R_Points) (T := F_Points) (N := 6) (n := 6) hts i_Points (hts _ m_386)
  obtain ⟨c3, i3, hn3⟩ := u_known (C := R_Findings) (T := F_Findings) (N := 5) (n := 5) hts i_Findings (hts _ m_391)
  obtain ⟨c4, i4, hn4⟩ := u_known (C := R_Questions) (T := F_Questions) (N := 6) (n := 6) hts i_Questions (hts _ m_396)
  obtain ⟨c5, i5, hn5⟩ := u_known (C := R_Route) (T := F_Route) (N := 7) (n := 7) hts i_Route (hts _ m_402)
  obtain ⟨c6, i6, hn6⟩ := u_known (C := R_Permits) (T := F_Permits) (N := 15) (n := 15) hts i_Permits (hts _ m_408)
  obtain ⟨c7, i7, hn7⟩ := u_known (C := R_Mo) (T := F_Mo) (N := 34) (n := 34) hts i_Mo (hts _ m_640)
  obtain ⟨dC, dI, hKc⟩ : ∃ (dC : Nat → ClassId) (dI : Nat → Nat → Nat), ∀ (k : Nat) (q : vw_C), classes[k]? = some q → u_Kn s q.1 q.2.1 q.2.2 (dC k) (dI k) := by
    refine ⟨fun k => ([c0, c1, c2, c3, c4, c5, c6, c7] : List ClassId).getD k c0, fun k => ([i0, i1, i2, i3, i4, i5, i6, i7] : List (Nat → Nat)).getD k i0, ?_⟩
    intro k q hq
    match k, hq with
    | 0, hq => cases hq; exact hn0
    | 1, hq => cases hq; exact hn1
    | 2, hq => cases hq; exact hn2
    | 3, hq => cases hq; exact hn3
    | 4, hq => cases hq; exact hn4
    | 5, hq => cases hq; exact hn5
    | 6, hq => cases hq; exact hn6
    | 7, hq => cases hq; exact hn7
    | k + 8, hq => simp [classes] at hq
  have hS : va_S (fun q : Nat => s.heap.size ≤ q) s.heap s.heap [] := va_S.rf
  have hK : va_K (dC, dI) classes [] s := ⟨hKc, fun k q h => by simp at h⟩
  have hP : va_P (dC, dI) classes [] s.heap := fun k q h => by simp at h
  have hD : va_D (fun q : Nat => s.heap.size ≤ q) [] := ⟨fun i j p q h => by simp at h, fun k q h => by simp at h⟩
  have hl := lv_entry ([.ref b]) (n := 7) (Nat.le_of_ble_eq_true rfl)
  rw [lg_entry_eq]
  generalize (lg_sl ([.ref b]) ++ List.replicate (7 - (lg_sl ([.ref b])).length) Slot.unset).toArray = ls at hl ⊢
  have hl : lv_has ls 7 [(0, .ref b)] := hl
  refine va_new (ci := 0) (fs := [.null, .null, .null, .null, .null, .null, .null, .int 0]) (C := R_Ir) (T := F_Ir) (N := 8) hx hb hts i_Ir t_Ir t_Ir_ok hown (hts _ m_641) (hts _ m_639) (hts _ m_129) hK hP hD hS hA rfl (fun j hj => by rcases (show j = 0 ∨ j = 1 ∨ j = 2 ∨ j = 3 ∨ j = 4 ∨ j = 5 ∨ j = 6 ∨ j = 7 by omega) with rfl | rfl | rfl | rfl | rfl | rfl | rfl | rfl <;> rfl) (Nat.le_of_ble_eq_true rfl) (Nat.le_of_ble_eq_true rfl) d_Law_0 (fun q1 H hP hD hS => ?_)
  refine W.widen (k := 1) (n := 8) (Nat.le_refl _) (Nat.le_refl _) ?_
  refine lv_dup hx hb d_Law_3 rfl ?_
  have hPc := hP.sub (ws' := [(q1, .inr (0, [.null, .null, .null, .null, .null, .null, .null, .int 0]))]) [0] rfl
  have hDc := hD.sub (ws' := [(q1, .inr (0, [.null, .null, .null, .null, .null, .null, .null, .int 0]))]) [0] (by decide) rfl
  have hKc := hK.sub (tys' := []) [] rfl
  have hFc := va_free (wc := [(q1, .inr (0, [.null, .null, .null, .null, .null, .null, .null, .int 0]))]) hD hS hA [0] rfl
  refine va_callv (va_runI (As := []) (rest := [.ref q1]) ⟨hx, hb, hml, hown, hts⟩ (c_Ir_init l dC dI q1 H.size) (cwI 0 hts (gC m_642) rfl rfl rfl (hts _ m_129) (hts _ m_643) (hts _ m_644) rfl (by decide +kernel) ⟨Nat.le_of_ble_eq_true rfl, Nat.le_of_ble_eq_true rfl⟩) ⟨fun a U g mk q => by obtain ⟨q0, q1, qP, qK, qD⟩ := q; exact ⟨q0, q1, qP, va_K.moved (u := U) (U := U.calling g mk a) (Vm.Alike.refl U.vm) qK, qD⟩, fun U hU hW => ⟨rfl, by rw [hU], by rw [hU]; exact hPc, va_K.moved hW.alike hKc, hDc.weaken (fun _ _ _ _ => trivial)⟩⟩ rfl rfl hl.1 rfl (lv_room (Nat.le_of_ble_eq_true rfl)) d_Law_4 ⟨Nat.le_of_ble_eq_true rfl, Nat.le_of_ble_eq_true rfl⟩) hS (fun q _ h => hFc q h) hFc (fun u1 t H1 locs ht hvm hw hB hz1 hk1 hS => ?_)
  obtain ⟨u10, hP1, hK1, hD1⟩ := hB
  rw [ht] at hP1
  have hK1 := va_K.moved hvm.symm hK1
  obtain ⟨hP, hD⟩ := va_join (wr := []) (w1 := (wI u1.1 u1.2 ar0_I sc0_I)) hP hD [0] [] rfl rfl (by decide) (by decide) hk1 hFc hP1 hD1
  have hP : va_P (dC, dI) classes (wI u1.1 u1.2 ar0_I sc0_I) H1 := hP
  have hD : va_D (fun q : Nat => s.heap.size ≤ q) (wI u1.1 u1.2 ar0_I sc0_I) := hD
  have hK : va_K (dC, dI) classes (ty_I u1.2) s := hK1
  generalize H1 = H at hP hS ⊢
  refine W.widen (k := 38) (n := 2025) (Nat.le_refl _) (Nat.le_refl _) ?_
  refine lv_astore_n (lv' := [(1, .ref q1), (0, .ref b)]) hx hb d_Law_7 rfl hl (by decide) rfl (fun ls hl => ?_)
  refine va_new (ci := 7) (fs := [.int 0, .int 0, .null, .null, .null, .null, .int 0, .null, .null, .null, .null, .null, .null, .int 0, .null, .null, .null, .null, .null, .null, .null, .null, .int 0, .null, .null, .null, .int 0, .int 0, .int 0, .null, .int 0, .null, .null, .int 0]) (C := R_Mo) (T := F_Mo) (N := 34) hx hb hts i_Mo t_Mo t_Mo_ok hown (hts _ m_645) (hts _ m_640) (hts _ m_187) hK hP hD hS hA rfl (fun j hj => by rcases (show j = 0 ∨ j = 1 ∨ j = 2 ∨ j = 3 ∨ j = 4 ∨ j = 5 ∨ j = 6 ∨ j = 7 ∨ j = 8 ∨ j = 9 ∨ j = 10 ∨ j = 11 ∨ j = 12 ∨ j = 13 ∨ j = 14 ∨ j = 15 ∨ j = 16 ∨ j = 17 ∨ j = 18 ∨ j = 19 ∨ j = 20 ∨ j = 21 ∨ j = 22 ∨ j = 23 ∨ j = 24 ∨ j = 25 ∨ j = 26 ∨ j = 27 ∨ j = 28 ∨ j = 29 ∨ j = 30 ∨ j = 31 ∨ j = 32 ∨ j = 33 by omega) with rfl | rfl | rfl | rfl | rfl | rfl | rfl | rfl | rfl | rfl | rfl | rfl | rfl | rfl | rfl | rfl | rfl | rfl | rfl | rfl | rfl | rfl | rfl | rfl | rfl | rfl | rfl | rfl | rfl | rfl | rfl | rfl | rfl | rfl <;> rfl) (Nat.le_of_ble_eq_true rfl) (Nat.le_of_ble_eq_true rfl) d_Law_8 (fun q2 H hP hD hS => ?_)
  refine W.widen (k := 39) (n := 2059) (Nat.le_refl _) (Nat.le_refl _) ?_
  refine lv_dup hx hb d_Law_11 rfl ?_
  have hPc := hP.sub (ws' := [(q2, .inr (7, [.int 0, .int 0, .null, .null, .null, .null, .int 0, .null, .null, .null, .null, .null, .null, .int 0, .null, .null, .null, .null, .null, .null, .null, .null, .int 0, .null, .null, .null, .int 0, .int 0, .int 0, .null, .int 0, .null, .null, .int 0]))]) [38] rfl
  have hDc := hD.sub (ws' := [(q2, .inr (7, [.int 0, .int 0, .null, .null, .null, .null, .int 0, .null, .null, .null, .null, .null, .null, .int 0, .null, .null, .null, .null, .null, .null, .null, .null, .int 0, .null, .null, .null, .int 0, .int 0, .int 0, .null, .int 0, .null, .null, .int 0]))]) [38] (by decide) rfl
  have hKc := hK.sub (tys' := []) [] rfl
  have hFc := va_free (wc := [(q2, .inr (7, [.int 0, .int 0, .null, .null, .null, .null, .int 0, .null, .null, .null, .null, .null, .null, .int 0, .null, .null, .null, .null, .null, .null, .null, .null, .int 0, .null, .null, .null, .int 0, .int 0, .int 0, .null, .int 0, .null, .null, .int 0]))]) hD hS hA [38] rfl
  refine va_callv (va_runI (As := []) (rest := [.ref q2]) ⟨hx, hb, hml, hown, hts⟩ (c_Mo_init l dC dI q2 H.size) (cwI 0 hts (gC m_646) rfl rfl rfl (hts _ m_187) (hts _ m_647) (hts _ m_648) rfl (by decide +kernel) ⟨Nat.le_of_ble_eq_true rfl, Nat.le_of_ble_eq_true rfl⟩) ⟨fun a U g mk q => by obtain ⟨q0, q1, qP, qK, qD⟩ := q; exact ⟨q0, q1, qP, va_K.moved (u := U) (U := U.calling g mk a) (Vm.Alike.refl U.vm) qK, qD⟩, fun U hU hW => ⟨rfl, by rw [hU], by rw [hU]; exact hPc, va_K.moved hW.alike hKc, hDc.weaken (fun _ _ _ _ => trivial)⟩⟩ rfl rfl hl.1 rfl (lv_room (Nat.le_of_ble_eq_true rfl)) d_Law_12 ⟨Nat.le_of_ble_eq_true rfl, Nat.le_of_ble_eq_true rfl⟩) hS (fun q _ h => hFc q h) hFc (fun u2 t H1 locs ht hvm hw hB hz1 hk1 hS => ?_)
  obtain ⟨u20, hP1, hK1, hD1⟩ := hB
  rw [ht] at hP1
  have hK1 := va_K.moved hvm.symm hK1
  obtain ⟨hP, hD⟩ := va_join (wr := (wI u1.1 u1.2 ar0_I sc0_I)) (w1 := (wM u2.1 u2.2 ar0_M sc0_M)) hP hD [38] [0, 1, 2, 3, 4, 5, 6, 7, 8, 9, 10, 11, 12, 13, 14, 15, 16, 17, 18, 19, 20, 21, 22, 23, 24, 25, 26, 27, 28, 29, 30, 31, 32, 33, 34, 35, 36, 37] rfl rfl (by decide) (by decide) hk1 hFc hP1 hD1
  have hK := hK.app hK1
  generalize H1 = H at hP hS ⊢
  refine W.widen (k := 63) (n := 3813) (Nat.le_refl _) (Nat.le_refl _) ?_
  refine lv_astore_n (lv' := [(2, .ref q2), (1, .ref q1), (0, .ref b)]) hx hb d_Law_15 rfl hl (by decide) rfl (fun ls hl => ?_)
  refine lv_iconst (v := 1) hx hb d_Law_16 (by decide) ?_
  refine va_newa (atype := .long) (n := 1) (N' := 1) (a0 := (1, .inr (.inl (fun _ => 0)))) hx hb (hts _ m_649) rfl hK hP hD hS hA (fun _ => rfl) (by decide) (by decide) (by decide) (Nat.le_of_ble_eq_true rfl) (Nat.le_of_ble_eq_true rfl) d_Law_17 (fun qo cO H hK hP hD hS => ?_)
  refine W.widen (k := 64) (n := 3814) (Nat.le_refl _) (Nat.le_refl _) ?_
  refine lv_astore_n (lv' := [(3, .ref qo), (2, .ref q2), (1, .ref q1), (0, .ref b)]) hx hb d_Law_19 rfl hl (by decide) rfl (fun ls hl => ?_)
  refine lv_iconst (v := 0) hx hb d_Law_20 (by decide) ?_
  refine lv_istore (lv' := [(4, .int 0), (3, .ref qo), (2, .ref q2), (1, .ref q1), (0, .ref b)]) hx hb d_Law_21 hl (by decide) rfl (fun ls hl => ?_)
  have hPI : va_P (dC, dI) classes (wI u1.1 u1.2 ar0_I sc0_I) H := pa_l (pa_l hP)
  have hPM : va_P (dC, dI) classes (wM u2.1 u2.2 ar0_M sc0_M) H := pa_r (pa_l hP)
  have hPO : va_P (dC, dI) classes [(qo, .inl (cO, 1, .inr (.inl (fun _ => 0))))] H := pa_r hP
  have hDI : va_D (fun q : Nat => s.heap.size ≤ q) (wI u1.1 u1.2 ar0_I sc0_I) := da_l (da_l hD)
  have hDM : va_D (fun q : Nat => s.heap.size ≤ q) (wM u2.1 u2.2 ar0_M sc0_M) := da_r (da_l hD)
  have hqo : ∀ (k : Nat) (x : Nat × va_E), ((wI u1.1 u1.2 ar0_I sc0_I) ++ (wM u2.1 u2.2 ar0_M sc0_M))[k]? = some x → x.1 ≠ qo := fun k x hk => da_x hD hk (j := 0) rfl
  have hqI : ¬ aI u1.1 qo := fun ⟨k, hk, e⟩ => by
    obtain ⟨x, hx9⟩ := wI_has (L := u1.1) (cA := u1.2) (ar := ar0_I) (sc := sc0_I) hk
    exact hqo k _ (by rw [List.getElem?_append_left (List.getElem?_eq_some_iff.mp hx9).1]; exact hx9) e
  have hqM : ¬ aM u2.1 qo := fun ⟨k, hk, e⟩ => by
    obtain ⟨x, hx9⟩ := wM_has (L := u2.1) (cA := u2.2) (ar := ar0_M) (sc := sc0_M) hk
    exact hqo (38 + k) _ (by rw [List.getElem?_append_right (Nat.le_add_right 38 k)]; show (wM u2.1 u2.2 ar0_M sc0_M)[38 + k - 38]? = _; rw [Nat.add_sub_cancel_left]; exact hx9) e
  have hIM : ∀ q, aI u1.1 q → ¬ aM u2.1 q := fun q ⟨k, hk, e⟩ ⟨k2, hk2, e2⟩ => by
    obtain ⟨x, hx9⟩ := wI_has (L := u1.1) (cA := u1.2) (ar := ar0_I) (sc := sc0_I) hk
    obtain ⟨y, hy9⟩ := wM_has (L := u2.1) (cA := u2.2) (ar := ar0_M) (sc := sc0_M) hk2
    exact da_x (da_l hD) hx9 hy9 (by show u1.1 k = u2.1 k2; rw [e, e2])
  have hqA : s.heap.size ≤ qo := (da_r hD).2 0 _ rfl
  have hKI : va_K (dC, dI) classes (ty_I u1.2) s := hK.sub [0, 1, 2, 3, 4, 5, 6, 7, 8, 9, 10, 11, 12, 13, 14, 15, 16, 17, 18, 19, 20, 21, 22, 23, 24, 25, 26, 27, 28, 29, 30] rfl
  have hKM : va_K (dC, dI) classes (ty_M u2.2) s := hK.sub [31, 32, 33, 34, 35, 36, 37, 38, 39, 40, 41, 42, 43, 44, 45, 46, 47, 48, 49, 50, 51, 52, 53, 54] rfl
  have hKO : va_K (dC, dI) classes [(cO, .long)] s := hK.sub [55] rfl
  obtain ⟨s0, hs0⟩ : ∃ a : Nat, vk_R R_Ir 228 "there is none such" a s := by
    obtain ⟨a2, -, -, -, q1, -⟩ := Cond.exactly_spec (args := #[Value.ref b]) (first := s) (o := none) (s := s) (idx := []) (t := .string R_Ir 228) (cls := "java/lang/String") (hgs _ (by decide +kernel))
    exact ⟨a2, vk_R.of (A := #[Value.ref b]) (htb (.stringRef R_Ir 228 "there is none such") (List.mem_of_getElem? (i := 343) (by decide +kernel))) q1⟩
  obtain ⟨s1, hs1⟩ : ∃ a : Nat, vk_R R_Ir 235 "a number is outside its range" a s := by
    obtain ⟨a2, -, -, -, q1, -⟩ := Cond.exactly_spec (args := #[Value.ref b]) (first := s) (o := none) (s := s) (idx := []) (t := .string R_Ir 235) (cls := "java/lang/String") (hgs _ (by decide +kernel))
    exact ⟨a2, vk_R.of (A := #[Value.ref b]) (htb (.stringRef R_Ir 235 "a number is outside its range") (List.mem_of_getElem? (i := 382) (by decide +kernel))) q1⟩
  obtain ⟨s2, hs2⟩ : ∃ a : Nat, vk_R R_Ir 240 "not in this state" a s := by
    obtain ⟨a2, -, -, -, q1, -⟩ := Cond.exactly_spec (args := #[Value.ref b]) (first := s) (o := none) (s := s) (idx := []) (t := .string R_Ir 240) (cls := "java/lang/String") (hgs _ (by decide +kernel))
    exact ⟨a2, vk_R.of (A := #[Value.ref b]) (htb (.stringRef R_Ir 240 "not in this state") (List.mem_of_getElem? (i := 518) (by decide +kernel))) q1⟩
  obtain ⟨s3, hs3⟩ : ∃ a : Nat, vk_R R_Ir 245 "there is no room" a s := by
    obtain ⟨a2, -, -, -, q1, -⟩ := Cond.exactly_spec (args := #[Value.ref b]) (first := s) (o := none) (s := s) (idx := []) (t := .string R_Ir 245) (cls := "java/lang/String") (hgs _ (by decide +kernel))
    exact ⟨a2, vk_R.of (A := #[Value.ref b]) (htb (.stringRef R_Ir 245 "there is no room") (List.mem_of_getElem? (i := 424) (by decide +kernel))) q1⟩
  have hz : zx_I (fun k => ([s0, s1, s2, s3] : List Nat).getD k 0) (fun q : Nat => s.heap.size ≤ q) s := ⟨th_Zof (args := #[Value.ref b]) (htb (.laysStatic Bundle.tN "UNASSIGNED_STACK" Bundle.steD) (by decide +kernel)) (hgs (.isRef (.static Bundle.tN "UNASSIGNED_STACK" Bundle.steD)) (by decide +kernel)) hnA, th_Zof (args := #[Value.ref b]) (htb (.laysStatic Bundle.tN "SUPPRESSED_SENTINEL" Bundle.listD) (by decide +kernel)) (hgs (.isRef (.static Bundle.tN "SUPPRESSED_SENTINEL" Bundle.listD)) (by decide +kernel)) hnA, hs0, hs1, hs2, hs3⟩
  have hnc : nc_th s := ⟨va_Nc.of (hgs (.not (.castable "java/lang/IndexOutOfBoundsException" "java/lang/IllegalArgumentException")) (by decide +kernel)), va_Nc.of (hgs (.not (.castable "java/lang/UnsupportedOperationException" "java/lang/IllegalArgumentException")) (by decide +kernel)), va_Nc.of (hgs (.not (.castable "java/lang/UnsupportedOperationException" "java/lang/IndexOutOfBoundsException")) (by decide +kernel)), va_Nc.of (hgs (.not (.castable "java/lang/IllegalStateException" "java/lang/IllegalArgumentException")) (by decide +kernel)), va_Nc.of (hgs (.not (.castable "java/lang/IllegalStateException" "java/lang/IndexOutOfBoundsException")) (by decide +kernel)), va_Nc.of (hgs (.not (.castable "java/lang/UnsupportedOperationException" "java/lang/IllegalStateException")) (by decide +kernel))⟩
  have hF : lwF s dC dI u1.1 u1.2 u2.1 u2.2 qo cO (fun k => ([s0, s1, s2, s3] : List Nat).getD k 0) := ⟨⟨hKI, hnw⟩, ⟨hKM, hnw⟩, hKO, wI_ij hDI, wM_ij hDM, wI_in hDI, wM_in hDM, hqA, hqI, hqM, hIM, hz, hnc⟩
  exact lw_loop hlt hL hr hlocks hC hX hbl hF (L + 1) 0 ar0_I sc0_I ar0_M sc0_M (fun _ => 0) H locs ls (Nat.zero_le _) (by omega) ⟨hPI, hPM, hPO, hS⟩ rl_0 (by rw [u10, u20]; exact lv_sub hl [4, 3, 2, 1, 0] rfl)

def RA (ar br : Nat → Nat → Int32) : Prop := (ar 2 = br 1) ∧ (ar 3 = br 2) ∧ (ar 4 = br 3) ∧ (ar 5 = br 4) ∧ (ar 7 = br 5) ∧ (∀ j : Nat, ar 8 j = br 6 j / 30 + br 7 j / 100) ∧ (ar 9 = br 8) ∧ (ar 10 = br 9) ∧ (ar 11 = br 10) ∧ (ar 13 = br 11) ∧ (ar 14 = br 12) ∧ (ar 15 = br 13) ∧ (ar 16 = br 14) ∧ (ar 18 = br 15) ∧ (ar 19 = br 16) ∧ (ar 20 = br 17) ∧ (ar 21 = br 18) ∧ (ar 29 = br 19) ∧ (ar 35 = br 23) ∧ (ar 36 = br 24) ∧ (∀ p : Nat, p < 30 → ar 31 p = br 22 (4 * p) ∧ ar 32 p = br 22 (4 * p + 1) ∧ ar 33 p = br 22 (4 * p + 2) ∧ ar 34 p = br 22 (4 * p + 3))
def RS (sc : Nat → Int32) (br : Nat → Nat → Int32) (bc : Nat → Int32) : Prop := (sc 0 = bc 1) ∧ (sc 1 = bc 2) ∧ (sc 2 = bc 3) ∧ (sc 4 = bc 4) ∧ (sc 5 = bc 8) ∧ (sc 6 = bc 7) ∧ (sc 7 = br 22 120) ∧ (sc 8 = br 22 121) ∧ (sc 9 = br 22 122) ∧ (sc 10 = br 22 123) ∧ (sc 11 = bc 5) ∧ (sc 12 = bc 6) ∧ (sc 13 = bc 9)
def RI (ar : Nat → Nat → Int32) (sc : Nat → Int32) : Prop := (0 ≤ (sc 0).toInt ∧ (sc 0).toInt ≤ 99999) ∧ (0 ≤ (sc 1).toInt ∧ (sc 1).toInt ≤ 30) ∧ (0 ≤ (sc 2).toInt ∧ (sc 2).toInt ≤ 100) ∧ (0 ≤ (sc 4).toInt ∧ (sc 4).toInt ≤ 7) ∧ (0 ≤ (sc 5).toInt ∧ (sc 5).toInt ≤ 30) ∧ (∀ j : Nat, (j : Int) < (sc 1).toInt → 0 ≤ (ar 7 j).toInt ∧ (ar 7 j).toInt < 5) ∧ (∀ j : Nat, (j : Int) < (sc 1).toInt → (-10000 ≤ (ar 9 j).toInt ∧ (ar 9 j).toInt ≤ 10000) ∧ -10000 ≤ (ar 10 j).toInt ∧ (ar 10 j).toInt ≤ 10000) ∧ (∀ j : Nat, (j : Int) < (sc 1).toInt → ar 11 j = -1 ∨ 0 ≤ (ar 11 j).toInt) ∧ (∀ j : Nat, (j : Int) < (sc 2).toInt → 0 ≤ (ar 13 j).toInt ∧ (ar 13 j).toInt < (sc 1).toInt) ∧ (∀ j : Nat, 0 ≤ (ar 16 j).toInt) ∧ (∀ q : Nat, q < 16 → ar 18 q ≠ 0 → (ar 19 q = -1 ∨ ((q : Int) < (ar 19 q).toInt ∧ (ar 19 q).toInt ≤ 15)) ∧ (ar 20 q = -1 ∨ ((q : Int) < (ar 20 q).toInt ∧ (ar 20 q).toInt ≤ 15))) ∧ ((-10000000 ≤ (sc 7).toInt ∧ (sc 7).toInt ≤ (sc 9).toInt ∧ (sc 9).toInt ≤ 10000000) ∧ -10000000 ≤ (sc 8).toInt ∧ (sc 8).toInt ≤ (sc 10).toInt ∧ (sc 10).toInt ≤ 10000000) ∧ (∀ p : Nat, (p : Int) < (sc 5).toInt → (-10000000 ≤ (ar 31 p).toInt ∧ (ar 31 p).toInt ≤ (ar 33 p).toInt ∧ (ar 33 p).toInt ≤ 10000000) ∧ -10000000 ≤ (ar 32 p).toInt ∧ (ar 32 p).toInt ≤ (ar 34 p).toInt ∧ (ar 34 p).toInt ≤ 10000000)
def RL (ar : Nat → Nat → Int32) (sc : Nat → Int32) (br : Nat → Nat → Int32) (bc : Nat → Int32) : Prop := RA ar br ∧ RS sc br bc ∧ RI ar sc
theorem v_wt {ar : Nat → Nat → Int32} {sc : Nat → Int32} {br : Nat → Nat → Int32} {bc : Nat → Int32} (h : RL ar sc br bc) : ar 2 = br 1 := h.1.1
theorem v_st {ar : Nat → Nat → Int32} {sc : Nat → Int32} {br : Nat → Nat → Int32} {bc : Nat → Int32} (h : RL ar sc br bc) : ar 3 = br 2 := h.1.2.1
theorem v_iv {ar : Nat → Nat → Int32} {sc : Nat → Int32} {br : Nat → Nat → Int32} {bc : Nat → Int32} (h : RL ar sc br bc) : ar 4 = br 3 := h.1.2.2.1
theorem v_tm {ar : Nat → Nat → Int32} {sc : Nat → Int32} {br : Nat → Nat → Int32} {bc : Nat → Int32} (h : RL ar sc br bc) : ar 5 = br 4 := h.1.2.2.2.1
theorem v_kd {ar : Nat → Nat → Int32} {sc : Nat → Int32} {br : Nat → Nat → Int32} {bc : Nat → Int32} (h : RL ar sc br bc) : ar 7 = br 5 := h.1.2.2.2.2.1
theorem v_ow {ar : Nat → Nat → Int32} {sc : Nat → Int32} {br : Nat → Nat → Int32} {bc : Nat → Int32} (h : RL ar sc br bc) : ∀ j : Nat, ar 8 j = br 6 j / 30 + br 7 j / 100 := h.1.2.2.2.2.2.1
theorem v_px {ar : Nat → Nat → Int32} {sc : Nat → Int32} {br : Nat → Nat → Int32} {bc : Nat → Int32} (h : RL ar sc br bc) : ar 9 = br 8 := h.1.2.2.2.2.2.2.1
theorem v_py {ar : Nat → Nat → Int32} {sc : Nat → Int32} {br : Nat → Nat → Int32} {bc : Nat → Int32} (h : RL ar sc br bc) : ar 10 = br 9 := h.1.2.2.2.2.2.2.2.1
theorem v_vi {ar : Nat → Nat → Int32} {sc : Nat → Int32} {br : Nat → Nat → Int32} {bc : Nat → Int32} (h : RL ar sc br bc) : ar 11 = br 10 := h.1.2.2.2.2.2.2.2.2.1
theorem v_fo {ar : Nat → Nat → Int32} {sc : Nat → Int32} {br : Nat → Nat → Int32} {bc : Nat → Int32} (h : RL ar sc br bc) : ar 13 = br 11 := h.1.2.2.2.2.2.2.2.2.2.1
theorem v_fw {ar : Nat → Nat → Int32} {sc : Nat → Int32} {br : Nat → Nat → Int32} {bc : Nat → Int32} (h : RL ar sc br bc) : ar 14 = br 12 := h.1.2.2.2.2.2.2.2.2.2.2.1
theorem v_fd {ar : Nat → Nat → Int32} {sc : Nat → Int32} {br : Nat → Nat → Int32} {bc : Nat → Int32} (h : RL ar sc br bc) : ar 15 = br 13 := h.1.2.2.2.2.2.2.2.2.2.2.2.1
theorem v_fp {ar : Nat → Nat → Int32} {sc : Nat → Int32} {br : Nat → Nat → Int32} {bc : Nat → Int32} (h : RL ar sc br bc) : ar 16 = br 14 := h.1.2.2.2.2.2.2.2.2.2.2.2.2.1
theorem v_qt {ar : Nat → Nat → Int32} {sc : Nat → Int32} {br : Nat → Nat → Int32} {bc : Nat → Int32} (h : RL ar sc br bc) : ar 18 = br 15 := h.1.2.2.2.2.2.2.2.2.2.2.2.2.2.1
theorem v_qy {ar : Nat → Nat → Int32} {sc : Nat → Int32} {br : Nat → Nat → Int32} {bc : Nat → Int32} (h : RL ar sc br bc) : ar 19 = br 16 := h.1.2.2.2.2.2.2.2.2.2.2.2.2.2.2.1
theorem v_qn {ar : Nat → Nat → Int32} {sc : Nat → Int32} {br : Nat → Nat → Int32} {bc : Nat → Int32} (h : RL ar sc br bc) : ar 20 = br 17 := h.1.2.2.2.2.2.2.2.2.2.2.2.2.2.2.2.1
theorem v_qw {ar : Nat → Nat → Int32} {sc : Nat → Int32} {br : Nat → Nat → Int32} {bc : Nat → Int32} (h : RL ar sc br bc) : ar 21 = br 18 := h.1.2.2.2.2.2.2.2.2.2.2.2.2.2.2.2.2.1
theorem v_sp {ar : Nat → Nat → Int32} {sc : Nat → Int32} {br : Nat → Nat → Int32} {bc : Nat → Int32} (h : RL ar sc br bc) : ar 29 = br 19 := h.1.2.2.2.2.2.2.2.2.2.2.2.2.2.2.2.2.2.1
theorem v_pf {ar : Nat → Nat → Int32} {sc : Nat → Int32} {br : Nat → Nat → Int32} {bc : Nat → Int32} (h : RL ar sc br bc) : ar 35 = br 23 := h.1.2.2.2.2.2.2.2.2.2.2.2.2.2.2.2.2.2.2.1
theorem v_pt {ar : Nat → Nat → Int32} {sc : Nat → Int32} {br : Nat → Nat → Int32} {bc : Nat → Int32} (h : RL ar sc br bc) : ar 36 = br 24 := h.1.2.2.2.2.2.2.2.2.2.2.2.2.2.2.2.2.2.2.2.1
theorem v_pg {ar : Nat → Nat → Int32} {sc : Nat → Int32} {br : Nat → Nat → Int32} {bc : Nat → Int32} (h : RL ar sc br bc) : ∀ p : Nat, p < 30 → ar 31 p = br 22 (4 * p) ∧ ar 32 p = br 22 (4 * p + 1) ∧ ar 33 p = br 22 (4 * p + 2) ∧ ar 34 p = br 22 (4 * p + 3) := h.1.2.2.2.2.2.2.2.2.2.2.2.2.2.2.2.2.2.2.2.2
theorem v_dy {ar : Nat → Nat → Int32} {sc : Nat → Int32} {br : Nat → Nat → Int32} {bc : Nat → Int32} (h : RL ar sc br bc) : sc 0 = bc 1 := h.2.1.1
theorem v_pn {ar : Nat → Nat → Int32} {sc : Nat → Int32} {br : Nat → Nat → Int32} {bc : Nat → Int32} (h : RL ar sc br bc) : sc 1 = bc 2 := h.2.1.2.1
theorem v_fn {ar : Nat → Nat → Int32} {sc : Nat → Int32} {br : Nat → Nat → Int32} {bc : Nat → Int32} (h : RL ar sc br bc) : sc 2 = bc 3 := h.2.1.2.2.1
theorem v_sn {ar : Nat → Nat → Int32} {sc : Nat → Int32} {br : Nat → Nat → Int32} {bc : Nat → Int32} (h : RL ar sc br bc) : sc 4 = bc 4 := h.2.1.2.2.2.1
theorem v_pm {ar : Nat → Nat → Int32} {sc : Nat → Int32} {br : Nat → Nat → Int32} {bc : Nat → Int32} (h : RL ar sc br bc) : sc 5 = bc 8 := h.2.1.2.2.2.2.1
theorem v_gt {ar : Nat → Nat → Int32} {sc : Nat → Int32} {br : Nat → Nat → Int32} {bc : Nat → Int32} (h : RL ar sc br bc) : sc 6 = bc 7 := h.2.1.2.2.2.2.2.1
theorem v_g1 {ar : Nat → Nat → Int32} {sc : Nat → Int32} {br : Nat → Nat → Int32} {bc : Nat → Int32} (h : RL ar sc br bc) : sc 7 = br 22 120 := h.2.1.2.2.2.2.2.2.1
theorem v_g2 {ar : Nat → Nat → Int32} {sc : Nat → Int32} {br : Nat → Nat → Int32} {bc : Nat → Int32} (h : RL ar sc br bc) : sc 8 = br 22 121 := h.2.1.2.2.2.2.2.2.2.1
theorem v_g3 {ar : Nat → Nat → Int32} {sc : Nat → Int32} {br : Nat → Nat → Int32} {bc : Nat → Int32} (h : RL ar sc br bc) : sc 9 = br 22 122 := h.2.1.2.2.2.2.2.2.2.2.1
theorem v_g4 {ar : Nat → Nat → Int32} {sc : Nat → Int32} {br : Nat → Nat → Int32} {bc : Nat → Int32} (h : RL ar sc br bc) : sc 10 = br 22 123 := h.2.1.2.2.2.2.2.2.2.2.2.1
theorem v_sa {ar : Nat → Nat → Int32} {sc : Nat → Int32} {br : Nat → Nat → Int32} {bc : Nat → Int32} (h : RL ar sc br bc) : sc 11 = bc 5 := h.2.1.2.2.2.2.2.2.2.2.2.2.1
theorem v_di {ar : Nat → Nat → Int32} {sc : Nat → Int32} {br : Nat → Nat → Int32} {bc : Nat → Int32} (h : RL ar sc br bc) : sc 12 = bc 6 := h.2.1.2.2.2.2.2.2.2.2.2.2.2.1
theorem v_cl {ar : Nat → Nat → Int32} {sc : Nat → Int32} {br : Nat → Nat → Int32} {bc : Nat → Int32} (h : RL ar sc br bc) : sc 13 = bc 9 := h.2.1.2.2.2.2.2.2.2.2.2.2.2.2
theorem v_idy {ar : Nat → Nat → Int32} {sc : Nat → Int32} {br : Nat → Nat → Int32} {bc : Nat → Int32} (h : RL ar sc br bc) : 0 ≤ (sc 0).toInt ∧ (sc 0).toInt ≤ 99999 := h.2.2.1
theorem v_ipn {ar : Nat → Nat → Int32} {sc : Nat → Int32} {br : Nat → Nat → Int32} {bc : Nat → Int32} (h : RL ar sc br bc) : 0 ≤ (sc 1).toInt ∧ (sc 1).toInt ≤ 30 := h.2.2.2.1
theorem v_ifn {ar : Nat → Nat → Int32} {sc : Nat → Int32} {br : Nat → Nat → Int32} {bc : Nat → Int32} (h : RL ar sc br bc) : 0 ≤ (sc 2).toInt ∧ (sc 2).toInt ≤ 100 := h.2.2.2.2.1
theorem v_isn {ar : Nat → Nat → Int32} {sc : Nat → Int32} {br : Nat → Nat → Int32} {bc : Nat → Int32} (h : RL ar sc br bc) : 0 ≤ (sc 4).toInt ∧ (sc 4).toInt ≤ 7 := h.2.2.2.2.2.1
theorem v_ipm {ar : Nat → Nat → Int32} {sc : Nat → Int32} {br : Nat → Nat → Int32} {bc : Nat → Int32} (h : RL ar sc br bc) : 0 ≤ (sc 5).toInt ∧ (sc 5).toInt ≤ 30 := h.2.2.2.2.2.2.1
theorem v_kkd {ar : Nat → Nat → Int32} {sc : Nat → Int32} {br : Nat → Nat → Int32} {bc : Nat → Int32} (h : RL ar sc br bc) : ∀ j : Nat, (j : Int) < (sc 1).toInt → 0 ≤ (ar 7 j).toInt ∧ (ar 7 j).toInt < 5 := h.2.2.2.2.2.2.2.1
theorem v_kxy {ar : Nat → Nat → Int32} {sc : Nat → Int32} {br : Nat → Nat → Int32} {bc : Nat → Int32} (h : RL ar sc br bc) : ∀ j : Nat, (j : Int) < (sc 1).toInt → (-10000 ≤ (ar 9 j).toInt ∧ (ar 9 j).toInt ≤ 10000) ∧ -10000 ≤ (ar 10 j).toInt ∧ (ar 10 j).toInt ≤ 10000 := h.2.2.2.2.2.2.2.2.1
theorem v_kvi {ar : Nat → Nat → Int32} {sc : Nat → Int32} {br : Nat → Nat → Int32} {bc : Nat → Int32} (h : RL ar sc br bc) : ∀ j : Nat, (j : Int) < (sc 1).toInt → ar 11 j = -1 ∨ 0 ≤ (ar 11 j).toInt := h.2.2.2.2.2.2.2.2.2.1
theorem v_kfo {ar : Nat → Nat → Int32} {sc : Nat → Int32} {br : Nat → Nat → Int32} {bc : Nat → Int32} (h : RL ar sc br bc) : ∀ j : Nat, (j : Int) < (sc 2).toInt → 0 ≤ (ar 13 j).toInt ∧ (ar 13 j).toInt < (sc 1).toInt := h.2.2.2.2.2.2.2.2.2.2.1
theorem v_kfp {ar : Nat → Nat → Int32} {sc : Nat → Int32} {br : Nat → Nat → Int32} {bc : Nat → Int32} (h : RL ar sc br bc) : ∀ j : Nat, 0 ≤ (ar 16 j).toInt := h.2.2.2.2.2.2.2.2.2.2.2.1
theorem v_kqu {ar : Nat → Nat → Int32} {sc : Nat → Int32} {br : Nat → Nat → Int32} {bc : Nat → Int32} (h : RL ar sc br bc) : ∀ q : Nat, q < 16 → ar 18 q ≠ 0 → (ar 19 q = -1 ∨ ((q : Int) < (ar 19 q).toInt ∧ (ar 19 q).toInt ≤ 15)) ∧ (ar 20 q = -1 ∨ ((q : Int) < (ar 20 q).toInt ∧ (ar 20 q).toInt ≤ 15)) := h.2.2.2.2.2.2.2.2.2.2.2.2.1
theorem v_kgr {ar : Nat → Nat → Int32} {sc : Nat → Int32} {br : Nat → Nat → Int32} {bc : Nat → Int32} (h : RL ar sc br bc) : (-10000000 ≤ (sc 7).toInt ∧ (sc 7).toInt ≤ (sc 9).toInt ∧ (sc 9).toInt ≤ 10000000) ∧ -10000000 ≤ (sc 8).toInt ∧ (sc 8).toInt ≤ (sc 10).toInt ∧ (sc 10).toInt ≤ 10000000 := h.2.2.2.2.2.2.2.2.2.2.2.2.2.1
theorem v_kpg {ar : Nat → Nat → Int32} {sc : Nat → Int32} {br : Nat → Nat → Int32} {bc : Nat → Int32} (h : RL ar sc br bc) : ∀ p : Nat, (p : Int) < (sc 5).toInt → (-10000000 ≤ (ar 31 p).toInt ∧ (ar 31 p).toInt ≤ (ar 33 p).toInt ∧ (ar 33 p).toInt ≤ 10000000) ∧ -10000000 ≤ (ar 32 p).toInt ∧ (ar 32 p).toInt ≤ (ar 34 p).toInt ∧ (ar 34 p).toInt ≤ 10000000 := h.2.2.2.2.2.2.2.2.2.2.2.2.2.2

theorem tw_111 {ar : Nat → Nat → Int32} {sc : Nat → Int32} : f_Mo_throwing ar sc 1 1 1 = (1, ar, sg sc 0 1) := rfl
theorem tw_110 {ar : Nat → Nat → Int32} {sc : Nat → Int32} : f_Mo_throwing ar sc 1 1 0 = (1, ar, sg sc 0 1) := rfl
theorem tw_101 {ar : Nat → Nat → Int32} {sc : Nat → Int32} : f_Mo_throwing ar sc 1 0 1 = (1, ar, sg sc 0 1) := rfl
theorem tw_100 {ar : Nat → Nat → Int32} {sc : Nat → Int32} : f_Mo_throwing ar sc 1 0 0 = (1, ar, sg sc 0 1) := rfl
theorem tw_011 {ar : Nat → Nat → Int32} {sc : Nat → Int32} : f_Mo_throwing ar sc 0 1 1 = (1, ar, sg sc 0 2) := rfl
theorem tw_010 {ar : Nat → Nat → Int32} {sc : Nat → Int32} : f_Mo_throwing ar sc 0 1 0 = (1, ar, sg sc 0 2) := rfl
theorem tw_001 {ar : Nat → Nat → Int32} {sc : Nat → Int32} : f_Mo_throwing ar sc 0 0 1 = (1, ar, sg sc 0 3) := rfl
theorem tw_000 {ar : Nat → Nat → Int32} {sc : Nat → Int32} : f_Mo_throwing ar sc 0 0 0 = (0, ar, sg sc 0 0) := rfl
theorem th_0 {ar : Nat → Nat → Int32} {sc : Nat → Int32} {x : Int32} : f_Mo_thrown ar (sg sc 0 x) = x := rfl
theorem i10 : ¬ (1 : Int32) = 0 := by decide
theorem iz : (0 : Int32).toInt = 0 := rfl
theorem in_iff {x lo hi : Int32} : f_Mo_in x lo hi = 0 ↔ (x.toInt < lo.toInt ∨ hi.toInt < x.toInt) := by
  unfold f_Mo_in
  by_cases h1 : x < lo
  · rw [if_pos h1]; rw [Int32.lt_iff_toInt_lt] at h1; simp [h1]
  · by_cases h2 : hi < x
    · rw [if_neg h1, if_pos h2]; rw [Int32.lt_iff_toInt_lt] at h2; simp [h2]
    · rw [if_neg h1, if_neg h2]
      rw [Int32.lt_iff_toInt_lt] at h1 h2
      constructor
      · intro h; exact absurd h (by decide)
      · intro h; omega
theorem in_no {x lo hi : Int32} (h : ¬ f_Mo_in x lo hi = 0) : lo.toInt ≤ x.toInt ∧ x.toInt ≤ hi.toInt := by
  rw [in_iff] at h; omega
theorem iw_eq (x y z : Int32) : f_Ir_isWithin x y z = f_Mo_in x y z := rfl
theorem ik_eq (x : Int32) : f_Ir_isKind x = f_Mo_in x 0 4 := rfl
theorem vin {x : Int32} {n : Nat} (h0 : 0 ≤ x.toInt) (h1 : x.toInt < n) : vp_in x n := vp_in_iff.mpr ⟨h0, h1⟩
theorem clN {x : Int32} (h : 0 ≤ x.toInt) : ((x.toNatClampNeg : Nat) : Int) = x.toInt := by
  rw [← Int32.toNat_toInt]; omega
theorem sub1 {x : Int32} (h0 : 0 ≤ x.toInt) (h1 : x.toInt ≤ 1000) : (x - 1).toInt = x.toInt - 1 := by
  rw [Int32.toInt_sub, show (1 : Int32).toInt = 1 from rfl]
  exact Int.bmod_eq_of_le (by omega) (by omega)
theorem add1 {x : Int32} (h0 : 0 ≤ x.toInt) (h1 : x.toInt ≤ 1000) : (x + 1).toInt = x.toInt + 1 := by
  rw [Int32.toInt_add, show (1 : Int32).toInt = 1 from rfl]
  exact Int.bmod_eq_of_le (by omega) (by omega)
theorem us {f : Nat → Int32} {k : Nat} {x : Int32} : upd f k x k = x := by simp [upd]
theorem un {f : Nat → Int32} {k j : Nat} {x : Int32} (h : j ≠ k) : upd f k x j = f j := by simp [upd, h]
theorem isP {ar br : Nat → Nat → Int32} {sc bc : Nat → Int32} (hR : RL ar sc br bc) (x : Int32) : f_Mo_isPoint br bc x = f_Ir_isPoint ar sc x := by
  have e := v_pn hR
  have h := v_ipn hR
  have e1 := sub1 h.1 (by omega)
  unfold f_Mo_isPoint
  unfold f_Ir_isPoint
  by_cases c1 : x < 0
  · rw [if_pos c1]
    rw [in_iff]; left; rw [Int32.lt_iff_toInt_lt] at c1; exact c1
  · rw [if_neg c1]
    by_cases c2 : sc 1 ≤ x
    · rw [if_pos c2, in_iff]; right; rw [← e, e1]; rw [Int32.le_iff_toInt_le] at c2; omega
    · rw [if_neg c2]
      rw [Int32.le_iff_toInt_le] at c2
      rw [Int32.lt_iff_toInt_lt, iz] at c1
      unfold f_Mo_in
      rw [if_neg (by rw [Int32.lt_iff_toInt_lt, iz]; omega), if_neg (by rw [Int32.lt_iff_toInt_lt, ← e, e1]; omega)]
theorem isP_no {ar : Nat → Nat → Int32} {sc : Nat → Int32} {x : Int32} (h : ¬ f_Ir_isPoint ar sc x = 0) : 0 ≤ x.toInt ∧ x.toInt < (sc 1).toInt := by
  unfold f_Ir_isPoint at h
  by_cases c1 : x < 0
  · rw [if_pos c1] at h; exact absurd rfl h
  · rw [if_neg c1] at h
    by_cases c2 : sc 1 ≤ x
    · rw [if_pos c2] at h; exact absurd rfl h
    · rw [Int32.le_iff_toInt_le] at c2
      rw [Int32.lt_iff_toInt_lt, iz] at c1
      omega
theorem isFd {ar br : Nat → Nat → Int32} {sc bc : Nat → Int32} (hR : RL ar sc br bc) (x : Int32) : f_Mo_in x 0 (bc 3 - 1) = f_Ir_isFinding ar sc x := by
  have e := v_fn hR
  have h := v_ifn hR
  have e1 := sub1 h.1 (by omega)
  skip
  unfold f_Ir_isFinding
  by_cases c1 : x < 0
  · rw [if_pos c1]
    rw [in_iff]; left; rw [Int32.lt_iff_toInt_lt] at c1; exact c1
  · rw [if_neg c1]
    by_cases c2 : sc 2 ≤ x
    · rw [if_pos c2, in_iff]; right; rw [← e, e1]; rw [Int32.le_iff_toInt_le] at c2; omega
    · rw [if_neg c2]
      rw [Int32.le_iff_toInt_le] at c2
      rw [Int32.lt_iff_toInt_lt, iz] at c1
      unfold f_Mo_in
      rw [if_neg (by rw [Int32.lt_iff_toInt_lt, iz]; omega), if_neg (by rw [Int32.lt_iff_toInt_lt, ← e, e1]; omega)]
theorem isFd_no {ar : Nat → Nat → Int32} {sc : Nat → Int32} {x : Int32} (h : ¬ f_Ir_isFinding ar sc x = 0) : 0 ≤ x.toInt ∧ x.toInt < (sc 2).toInt := by
  unfold f_Ir_isFinding at h
  by_cases c1 : x < 0
  · rw [if_pos c1] at h; exact absurd rfl h
  · rw [if_neg c1] at h
    by_cases c2 : sc 2 ≤ x
    · rw [if_pos c2] at h; exact absurd rfl h
    · rw [Int32.le_iff_toInt_le] at c2
      rw [Int32.lt_iff_toInt_lt, iz] at c1
      omega


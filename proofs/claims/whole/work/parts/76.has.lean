/-! whoCould, lent: both -/
section HA
variable {X : Nat × (Nat → Int32)} {d : Nat} {I A : TI} {J : TJ} {w : am_W}
def ableF (m hs : Nat → Int32) : Nat → Bool
  | 0 => true
  | n + 1 => ableF m hs n && !decide (hs n < m n)
theorem ableF_cg {m hs m' hs' : Nat → Int32} : ∀ {n : Nat}, (∀ j, j < n → m j = m' j ∧ hs j = hs' j) → ableF m hs n = ableF m' hs' n
  | 0, _ => rfl
  | n + 1, h => by
    show (ableF m hs n && !decide (hs n < m n)) = (ableF m' hs' n && !decide (hs' n < m' n))
    rw [ableF_cg (fun j hj => h j (by omega)), (h n (by omega)).1, (h n (by omega)).2]
theorem ableF_f {m hs : Nat → Int32} {n : Nat} (h : ableF m hs n = false) : ∀ k, n ≤ k → ableF m hs k = false := by
  intro k
  induction k with
  | zero => intro hk; rw [show n = 0 by omega] at h; exact h
  | succ k ih =>
    intro hk
    by_cases q : n = k + 1
    · rw [← q]; exact h
    · show (ableF m hs k && _) = false
      rw [ih (by omega), Bool.false_and]
theorem i40 {h t : Nat} : (40 : Int32) + 8 * nI h + nI t = nI (40 + 8 * h + t) := by rw [show (8 : Int32) = nI 8 from rfl, show (40 : Int32) = nI 40 from rfl, i_mul, i_add, i_add]
theorem r_has {h t : Nat} (hh : h < 6) (ht : t < 8) : am_CL X (d + 1) mX11_has [.ref 81, .int (nI h), .int (nI t)] (am_wd I A J) = some (some (.int (A 82 (40 + 8 * h + t))), am_wd I A J) := by
  simp only [eX11_has, sX11_has_0, sX11_has_1, sX11_has_4, sX11_has_6, sX11_has_8, sX11_has_9, sX11_has_10, sX11_has_11, sX11_has_12, sX11_has_13, sX11_has_14, wo_81, wf_81_0, wv_81_0, wf_81_1, wv_81_1, wp_81_1, wf_81_2, wv_81_2, wp_81_2, wf_81_3, wv_81_3, wf_81_4, wv_81_4, wf_81_5, wv_81_5, wf_81_6, wv_81_6, wp_81_6, wf_81_7, wv_81_7, wp_81_7, wf_81_8, wv_81_8, wf_81_9, wv_81_9, wp_81_9, wf_81_10, wv_81_10, wf_81_11, wv_81_11, wp_81_11, wf_81_12, wv_81_12, wp_81_12, wf_81_13, wv_81_13, wf_81_14, wv_81_14, wp_81_14, wf_81_15, wv_81_15, wp_81_15, wf_81_16, wv_81_16, wp_81_16, wf_81_17, wv_81_17, wp_81_17, wf_81_18, wv_81_18, wf_81_19, wv_81_19, wf_81_20, wv_81_20, wf_81_21, wv_81_21, wf_81_22, wv_81_22, wf_81_23, wv_81_23, wf_81_24, wv_81_24, wf_81_25, wv_81_25, wf_81_26, wv_81_26, wf_81_27, wv_81_27, wf_81_28, wv_81_28, wf_81_29, wv_81_29, wf_81_30, wv_81_30, wf_81_31, wv_81_31, wf_81_32, wv_81_32, wf_81_33, wv_81_33, wp_81_33, wf_81_34, wv_81_34, wf_81_35, wv_81_35, wp_81_35, wf_81_36, wv_81_36, wf_81_37, wv_81_37, wp_81_37, wf_81_38, wv_81_38, wf_81_39, wv_81_39, wf_81_40, wv_81_40, wf_81_41, wv_81_41, wf_81_42, wv_81_42, wp_81_42, wf_81_43, wv_81_43, wp_81_43, wf_81_44, wv_81_44, wp_81_44, wf_81_45, wv_81_45, wf_81_46, wv_81_46, wf_81_47, wv_81_47, wf_81_48, wv_81_48, wp_81_48, wf_81_49, wv_81_49, wf_81_50, wv_81_50, wp_81_50, wi_82, wg_82, ws_82, ww_82, wl_82, wn_82, am_rt_some, am_rt_void, am_rt_none, am_rt_ite, ↓reduceIte, if_true, if_false, and_self, true_and, and_true, true_or, or_true, Bool.false_eq_true, reduceCtorEq, i40, am_nin (show 40 + 8 * h + t < 105 by omega) (show (105 : Nat) < 2147483648 by omega), am_ncl (show 40 + 8 * h + t < 2147483648 by omega)]
theorem r_hold {h t : Nat} {v : Int32} (hh : h < 6) (ht : t < 8) : am_CL X (d + 1) mX11_hold [.ref 81, .int (nI h), .int (nI t), .int v] (am_wd I A J) = some (none, am_wd I (am_u A 82 (upd (A 82) (40 + 8 * h + t) v)) J) := by
  simp only [eX11_hold, sX11_hold_0, sX11_hold_1, sX11_hold_4, sX11_hold_6, sX11_hold_8, sX11_hold_9, sX11_hold_10, sX11_hold_11, sX11_hold_12, sX11_hold_13, sX11_hold_14, sX11_hold_15, wo_81, wf_81_0, wv_81_0, wf_81_1, wv_81_1, wp_81_1, wf_81_2, wv_81_2, wp_81_2, wf_81_3, wv_81_3, wf_81_4, wv_81_4, wf_81_5, wv_81_5, wf_81_6, wv_81_6, wp_81_6, wf_81_7, wv_81_7, wp_81_7, wf_81_8, wv_81_8, wf_81_9, wv_81_9, wp_81_9, wf_81_10, wv_81_10, wf_81_11, wv_81_11, wp_81_11, wf_81_12, wv_81_12, wp_81_12, wf_81_13, wv_81_13, wf_81_14, wv_81_14, wp_81_14, wf_81_15, wv_81_15, wp_81_15, wf_81_16, wv_81_16, wp_81_16, wf_81_17, wv_81_17, wp_81_17, wf_81_18, wv_81_18, wf_81_19, wv_81_19, wf_81_20, wv_81_20, wf_81_21, wv_81_21, wf_81_22, wv_81_22, wf_81_23, wv_81_23, wf_81_24, wv_81_24, wf_81_25, wv_81_25, wf_81_26, wv_81_26, wf_81_27, wv_81_27, wf_81_28, wv_81_28, wf_81_29, wv_81_29, wf_81_30, wv_81_30, wf_81_31, wv_81_31, wf_81_32, wv_81_32, wf_81_33, wv_81_33, wp_81_33, wf_81_34, wv_81_34, wf_81_35, wv_81_35, wp_81_35, wf_81_36, wv_81_36, wf_81_37, wv_81_37, wp_81_37, wf_81_38, wv_81_38, wf_81_39, wv_81_39, wf_81_40, wv_81_40, wf_81_41, wv_81_41, wf_81_42, wv_81_42, wp_81_42, wf_81_43, wv_81_43, wp_81_43, wf_81_44, wv_81_44, wp_81_44, wf_81_45, wv_81_45, wf_81_46, wv_81_46, wf_81_47, wv_81_47, wf_81_48, wv_81_48, wp_81_48, wf_81_49, wv_81_49, wf_81_50, wv_81_50, wp_81_50, wi_82, wg_82, ws_82, ww_82, wl_82, wn_82, am_rt_some, am_rt_void, am_rt_none, am_rt_ite, ↓reduceIte, if_true, if_false, and_self, true_and, and_true, true_or, or_true, Bool.false_eq_true, reduceCtorEq, i40, am_nin (show 40 + 8 * h + t < 105 by omega) (show (105 : Nat) < 2147483648 by omega), am_ncl (show 40 + 8 * h + t < 2147483648 by omega)]
theorem c_hasMix {h : Nat} (hh : h < 6) : am_CL X (d + 2) mX10_hasMix [.ref 0, .int (nI h)] (am_wd I A J) = some (some (.int (if ableF (A 16) (fun t => A 47 (8 * h + t)) 8 = true then 1 else 0)), am_wd I A J) := by
  have key : ∀ (m t : Nat), t + m = 8 → ableF (A 16) (fun t => A 47 (8 * h + t)) t = true → am_EV X (d + 1) mX10_hasMix 2 [.ref 0, .int (nI h), .int (nI t)] [] (am_wd I A J) = some (some (.int (if ableF (A 16) (fun t => A 47 (8 * h + t)) 8 = true then 1 else 0)), am_wd I A J) := by
    intro m
    induction m with
    | zero =>
      intro t ht g
      have t8 : t = 8 := by omega
      subst t8
      simp only [sX10_hasMix_2, sX10_hasMix_3, sX10_hasMix_5, sX10_hasMix_41, sX10_hasMix_42, am_rt_some, am_rt_void, am_rt_none, am_rt_ite, ↓reduceIte, if_true, if_false, and_self, true_and, and_true, true_or, or_true, Bool.false_eq_true, reduceCtorEq, show (nI 8 < 8) = False by decide, g]
    | succ m ih =>
      intro t ht g
      have hlt : (nI t < 8) = True := by rw [am_nlit (x := 8) 8 rfl (show t < 2147483648 by omega) (by decide)]; exact eq_true (by omega)
      have e1 : ableF (A 16) (fun t => A 47 (8 * h + t)) (t + 1) = !decide (A 47 (8 * h + t) < A 16 t) := by
        show (ableF _ _ t && _) = _
        rw [g, Bool.true_and]
      rw [sX10_hasMix_2]
      simp only [sX10_hasMix_3, sX10_hasMix_5, sX10_hasMix_8, sX10_hasMix_9, sX10_hasMix_12, sX10_hasMix_15, sX10_hasMix_16, sX10_hasMix_16_f, sX10_hasMix_17, sX10_hasMix_18, sX10_hasMix_21, sX10_hasMix_24, sX10_hasMix_25, sX10_hasMix_26, sX10_hasMix_29, sX10_hasMix_29_f, sX10_hasMix_30, wo_0, wf_0_0, wv_0_0, wf_0_1, wv_0_1, wf_0_2, wv_0_2, wf_0_3, wv_0_3, wf_0_4, wv_0_4, wf_0_5, wv_0_5, wf_0_6, wv_0_6, wf_0_7, wv_0_7, wf_0_8, wv_0_8, wf_0_9, wv_0_9, wp_0_9, wf_0_10, wv_0_10, wp_0_10, wf_0_11, wv_0_11, wp_0_11, wo_6, wf_6_0, wv_6_0, wf_6_1, wv_6_1, wf_6_2, wv_6_2, wp_6_2, wf_6_3, wv_6_3, wf_6_4, wv_6_4, wf_6_5, wv_6_5, wf_6_6, wv_6_6, wp_6_6, wi_16, wg_16, ws_16, ww_16, wl_16, wn_16, wo_46, wf_46_0, wv_46_0, wf_46_1, wv_46_1, wf_46_2, wv_46_2, wf_46_3, wv_46_3, wp_46_3, wi_47, wg_47, ws_47, ww_47, wl_47, wn_47, am_rt_some, am_rt_void, am_rt_none, am_rt_ite, ↓reduceIte, if_true, if_false, and_self, true_and, and_true, true_or, or_true, Bool.false_eq_true, reduceCtorEq, hlt, c_mix, c_larder, i85, am_nin (show t < 8 by omega) (show (8 : Nat) < 2147483648 by omega), am_ncl (show t < 2147483648 by omega), am_nin (show 8 * h + t < 48 by omega) (show (48 : Nat) < 2147483648 by omega), am_ncl (show 8 * h + t < 2147483648 by omega)]
      by_cases q : A 47 (8 * h + t) < A 16 t
      · have := ableF_f (m := A 16) (hs := fun t => A 47 (8 * h + t)) (n := t + 1) (by rw [e1]; simp [q]) 8 (by omega)
        simp only [q, if_true, sX10_hasMix_33, sX10_hasMix_34, am_rt_some, am_rt_void, am_rt_none, am_rt_ite, ↓reduceIte, if_true, if_false, and_self, true_and, and_true, true_or, or_true, Bool.false_eq_true, reduceCtorEq, this, Bool.false_eq_true, if_false]
      · simp only [q, if_false, sX10_hasMix_35, sX10_hasMix_38, am_n1]
        exact ih (t + 1) (by omega) (by rw [e1]; simp [q])
  simp only [eX10_hasMix, sX10_hasMix_0, sX10_hasMix_1]
  exact key 8 0 rfl rfl
theorem r_isAble {h : Nat} (hh : h < 6) : am_CL X (d + 2) mX11_isAble [.ref 81, .int (nI h)] (am_wd I A J) = some (some (.int (if ableF (A 92) (fun t => A 82 (40 + 8 * h + t)) 8 = true then 1 else 0)), am_wd I A J) := by
  have key : ∀ (m t : Nat), t + m = 8 → am_EV X (d + 1) mX11_isAble 4 [.ref 81, .int (nI h), .int (if ableF (A 92) (fun t => A 82 (40 + 8 * h + t)) t = true then 1 else 0), .int (nI t)] [] (am_wd I A J) = some (some (.int (if ableF (A 92) (fun t => A 82 (40 + 8 * h + t)) 8 = true then 1 else 0)), am_wd I A J) := by
    intro m
    induction m with
    | zero =>
      intro t ht
      have t8 : t = 8 := by omega
      subst t8
      simp only [sX11_isAble_4, sX11_isAble_5, sX11_isAble_7, sX11_isAble_41, sX11_isAble_42, am_rt_some, am_rt_void, am_rt_none, am_rt_ite, ↓reduceIte, if_true, if_false, and_self, true_and, and_true, true_or, or_true, Bool.false_eq_true, reduceCtorEq, show (nI 8 < 8) = False by decide, am_bi_01]
    | succ m ih =>
      intro t ht
      have hlt : (nI t < 8) = True := by rw [am_nlit (x := 8) 8 rfl (show t < 2147483648 by omega) (by decide)]; exact eq_true (by omega)
      have nx := ih (t + 1) (by omega)
      have e1 : ableF (A 92) (fun t => A 82 (40 + 8 * h + t)) (t + 1) = (ableF (A 92) (fun t => A 82 (40 + 8 * h + t)) t && !decide (A 82 (40 + 8 * h + t) < A 92 t)) := rfl
      rw [e1] at nx
      rw [sX11_isAble_4]
      cases g : ableF (A 92) (fun t => A 82 (40 + 8 * h + t)) t with
      | false =>
        rw [g, Bool.false_and] at nx
        simp only [Bool.false_eq_true, if_false] at nx ⊢
        simp only [sX11_isAble_5, sX11_isAble_7, sX11_isAble_10, sX11_isAble_11, sX11_isAble_33, sX11_isAble_34, sX11_isAble_35, sX11_isAble_38, am_rt_some, am_rt_void, am_rt_none, am_rt_ite, ↓reduceIte, if_true, if_false, and_self, true_and, and_true, true_or, or_true, Bool.false_eq_true, reduceCtorEq, hlt, am_n1, nx]
      | true =>
        rw [g, Bool.true_and] at nx
        simp only [sX11_isAble_5, sX11_isAble_7, sX11_isAble_10, sX11_isAble_11, sX11_isAble_14, sX11_isAble_15, sX11_isAble_18, sX11_isAble_19, sX11_isAble_20, sX11_isAble_21, sX11_isAble_22, sX11_isAble_23, sX11_isAble_26, wo_81, wf_81_0, wv_81_0, wf_81_1, wv_81_1, wp_81_1, wf_81_2, wv_81_2, wp_81_2, wf_81_3, wv_81_3, wf_81_4, wv_81_4, wf_81_5, wv_81_5, wf_81_6, wv_81_6, wp_81_6, wf_81_7, wv_81_7, wp_81_7, wf_81_8, wv_81_8, wf_81_9, wv_81_9, wp_81_9, wf_81_10, wv_81_10, wf_81_11, wv_81_11, wp_81_11, wf_81_12, wv_81_12, wp_81_12, wf_81_13, wv_81_13, wf_81_14, wv_81_14, wp_81_14, wf_81_15, wv_81_15, wp_81_15, wf_81_16, wv_81_16, wp_81_16, wf_81_17, wv_81_17, wp_81_17, wf_81_18, wv_81_18, wf_81_19, wv_81_19, wf_81_20, wv_81_20, wf_81_21, wv_81_21, wf_81_22, wv_81_22, wf_81_23, wv_81_23, wf_81_24, wv_81_24, wf_81_25, wv_81_25, wf_81_26, wv_81_26, wf_81_27, wv_81_27, wf_81_28, wv_81_28, wf_81_29, wv_81_29, wf_81_30, wv_81_30, wf_81_31, wv_81_31, wf_81_32, wv_81_32, wf_81_33, wv_81_33, wp_81_33, wf_81_34, wv_81_34, wf_81_35, wv_81_35, wp_81_35, wf_81_36, wv_81_36, wf_81_37, wv_81_37, wp_81_37, wf_81_38, wv_81_38, wf_81_39, wv_81_39, wf_81_40, wv_81_40, wf_81_41, wv_81_41, wf_81_42, wv_81_42, wp_81_42, wf_81_43, wv_81_43, wp_81_43, wf_81_44, wv_81_44, wp_81_44, wf_81_45, wv_81_45, wf_81_46, wv_81_46, wf_81_47, wv_81_47, wf_81_48, wv_81_48, wp_81_48, wf_81_49, wv_81_49, wf_81_50, wv_81_50, wp_81_50, wi_92, wg_92, ws_92, ww_92, wl_92, wn_92, am_rt_some, am_rt_void, am_rt_none, am_rt_ite, ↓reduceIte, if_true, if_false, and_self, true_and, and_true, true_or, or_true, Bool.false_eq_true, reduceCtorEq, hlt, not_true_eq_false, not_false_eq_true, false_and, and_false, true_and, and_true, and_self, or_self, true_or, or_true, false_or, or_false, ite_self, kEm14_m11, kEm14_m2, kEm14_m1, kEm14_0, kEm14_1, kEm14_2, kEm14_3, kEm14_4, kEm13_m11, kEm13_m2, kEm13_m1, kEm13_0, kEm13_1, kEm13_2, kEm13_3, kEm13_4, kEm12_m11, kEm12_m2, kEm12_m1, kEm12_0, kEm12_1, kEm12_2, kEm12_3, kEm12_4, kEm11_m2, kEm11_m1, kEm11_0, kEm11_1, kEm11_2, kEm11_3, kEm11_4, kEm5_m11, kEm5_m2, kEm5_m1, kEm5_0, kEm5_1, kEm5_2, kEm5_3, kEm5_4, kEm3_m11, kEm3_m2, kEm3_m1, kEm3_0, kEm3_1, kEm3_2, kEm3_3, kEm3_4, kEm2_m11, kEm2_m1, kEm2_0, kEm2_1, kEm2_2, kEm2_3, kEm2_4, kEm1_m11, kEm1_m2, kEm1_0, kEm1_1, kEm1_2, kEm1_3, kEm1_4, kE0_m11, kE0_m2, kE0_m1, kE0_1, kE0_2, kE0_3, kE0_4, kE1_m11, kE1_m2, kE1_m1, kE1_0, kE1_2, kE1_3, kE1_4, kE2_m11, kE2_m2, kE2_m1, kE2_0, kE2_1, kE2_3, kE2_4, kE3_m11, kE3_m2, kE3_m1, kE3_0, kE3_1, kE3_2, kE3_4, kE4_m11, kE4_m2, kE4_m1, kE4_0, kE4_1, kE4_2, kE4_3, kE5_m11, kE5_m2, kE5_m1, kE5_0, kE5_1, kE5_2, kE5_3, kE5_4, kE6_m11, kE6_m2, kE6_m1, kE6_0, kE6_1, kE6_2, kE6_3, kE6_4, kE7_m11, kE7_m2, kE7_m1, kE7_0, kE7_1, kE7_2, kE7_3, kE7_4, kE8_m11, kE8_m2, kE8_m1, kE8_0, kE8_1, kE8_2, kE8_3, kE8_4, kLm14_0, kLm14_1, kLm13_0, kLm13_1, kLm12_0, kLm12_1, kLm11_0, kLm11_1, kLm5_0, kLm5_1, kLm3_0, kLm3_1, kLm2_0, kLm2_1, kLm1_0, kLm1_1, kL0_0, kL0_1, kL1_0, kL1_1, kL2_0, kL2_1, kL3_0, kL3_1, kL4_0, kL4_1, kL5_0, kL5_1, kL6_0, kL6_1, kL7_0, kL7_1, kL8_0, kL8_1, r_has hh (show t < 8 by omega), am_nin (show t < 8 by omega) (show (8 : Nat) < 2147483648 by omega), am_ncl (show t < 2147483648 by omega)]
        by_cases q : A 82 (40 + 8 * h + t) < A 92 t
        · simp only [q, decide_true, Bool.not_true, Bool.false_eq_true, if_false] at nx
          simp only [q, if_true, sX11_isAble_33, sX11_isAble_34, sX11_isAble_35, sX11_isAble_38, am_n1, nx]
        · simp only [q, decide_false, Bool.not_false, if_true] at nx
          simp only [q, if_false, sX11_isAble_29, sX11_isAble_30, sX11_isAble_33, sX11_isAble_34, sX11_isAble_35, sX11_isAble_38, am_n1, nx]
  simp only [eX11_isAble, sX11_isAble_0, sX11_isAble_1, sX11_isAble_2, sX11_isAble_3]
  exact key 8 0 rfl
def bitsF (p : Nat → Bool) : Nat → Int32
  | 0 => 0
  | n + 1 => if p n = true then bitsF p n ||| (1 <<< (nI n &&& 31)) else bitsF p n
theorem bitsF_cg {p q : Nat → Bool} : ∀ {n : Nat}, (∀ j, j < n → p j = q j) → bitsF p n = bitsF q n
  | 0, _ => rfl
  | n + 1, h => by
    show (if p n = true then bitsF p n ||| (1 <<< (nI n &&& 31)) else bitsF p n) = (if q n = true then bitsF q n ||| (1 <<< (nI n &&& 31)) else bitsF q n)
    rw [bitsF_cg (fun j hj => h j (by omega)), h n (by omega)]
/-- mixes and larders, told alike -/
theorem able_both {G : VF} {I1 A1 I2 A2 : TI} {J1 J2 : TJ} {ln h : Nat} {b : Nat → Int32} (h1 : Rel G I1 A1 J1) (hh : h < 6) (a16 : ∀ j, j < 8 → A1 16 j = mixF ln b j) (a92 : ∀ j, j < 8 → A2 92 j = mixF ln b j) (a82 : A2 82 = A1 82) : ableF (A1 16) (fun t => A1 47 (8 * h + t)) 8 = ableF (A2 92) (fun t => A2 82 (40 + 8 * h + t)) 8 := by
  refine ableF_cg fun j hj => ⟨(a16 j hj).trans (a92 j hj).symm, ?_⟩
  rw [a82, (h1.has (8 * h + j) (by omega)).1, show 40 + (8 * h + j) = 40 + 8 * h + j by omega]
theorem bt_whoCould (s : Int32) : Bt mX10_whoCould mX11_whoCould [.int s] := by
  intro X d I A J ⟨G, hR⟩
  by_cases hs : ¬ s < 0 ∧ s < 6
  case neg =>
    refine ⟨-1, ?_⟩
    simp only [eX10_whoCould, sX10_whoCould_0, sX10_whoCould_1, sX10_whoCould_4, sX10_whoCould_7, sX10_whoCould_8, am_rt_some, am_rt_void, am_rt_none, am_rt_ite, ↓reduceIte, if_true, if_false, and_self, true_and, and_true, true_or, or_true, Bool.false_eq_true, reduceCtorEq, c_isShelf, not_true_eq_false, not_false_eq_true, false_and, and_false, true_and, and_true, and_self, or_self, true_or, or_true, false_or, or_false, ite_self, kEm14_m11, kEm14_m2, kEm14_m1, kEm14_0, kEm14_1, kEm14_2, kEm14_3, kEm14_4, kEm13_m11, kEm13_m2, kEm13_m1, kEm13_0, kEm13_1, kEm13_2, kEm13_3, kEm13_4, kEm12_m11, kEm12_m2, kEm12_m1, kEm12_0, kEm12_1, kEm12_2, kEm12_3, kEm12_4, kEm11_m2, kEm11_m1, kEm11_0, kEm11_1, kEm11_2, kEm11_3, kEm11_4, kEm5_m11, kEm5_m2, kEm5_m1, kEm5_0, kEm5_1, kEm5_2, kEm5_3, kEm5_4, kEm3_m11, kEm3_m2, kEm3_m1, kEm3_0, kEm3_1, kEm3_2, kEm3_3, kEm3_4, kEm2_m11, kEm2_m1, kEm2_0, kEm2_1, kEm2_2, kEm2_3, kEm2_4, kEm1_m11, kEm1_m2, kEm1_0, kEm1_1, kEm1_2, kEm1_3, kEm1_4, kE0_m11, kE0_m2, kE0_m1, kE0_1, kE0_2, kE0_3, kE0_4, kE1_m11, kE1_m2, kE1_m1, kE1_0, kE1_2, kE1_3, kE1_4, kE2_m11, kE2_m2, kE2_m1, kE2_0, kE2_1, kE2_3, kE2_4, kE3_m11, kE3_m2, kE3_m1, kE3_0, kE3_1, kE3_2, kE3_4, kE4_m11, kE4_m2, kE4_m1, kE4_0, kE4_1, kE4_2, kE4_3, kE5_m11, kE5_m2, kE5_m1, kE5_0, kE5_1, kE5_2, kE5_3, kE5_4, kE6_m11, kE6_m2, kE6_m1, kE6_0, kE6_1, kE6_2, kE6_3, kE6_4, kE7_m11, kE7_m2, kE7_m1, kE7_0, kE7_1, kE7_2, kE7_3, kE7_4, kE8_m11, kE8_m2, kE8_m1, kE8_0, kE8_1, kE8_2, kE8_3, kE8_4, kLm14_0, kLm14_1, kLm13_0, kLm13_1, kLm12_0, kLm12_1, kLm11_0, kLm11_1, kLm5_0, kLm5_1, kLm3_0, kLm3_1, kLm2_0, kLm2_1, kLm1_0, kLm1_1, kL0_0, kL0_1, kL1_0, kL1_1, kL2_0, kL2_1, kL3_0, kL3_1, kL4_0, kL4_1, kL5_0, kL5_1, kL6_0, kL6_1, kL7_0, kL7_1, kL8_0, kL8_1, hs]
    refine am_T.ri ?_
    simp only [eX11_whoCould, sX11_whoCould_0, sX11_whoCould_1, sX11_whoCould_4, sX11_whoCould_7, sX11_whoCould_8, am_rt_some, am_rt_void, am_rt_none, am_rt_ite, ↓reduceIte, if_true, if_false, and_self, true_and, and_true, true_or, or_true, Bool.false_eq_true, reduceCtorEq, r_isShelf, not_true_eq_false, not_false_eq_true, false_and, and_false, true_and, and_true, and_self, or_self, true_or, or_true, false_or, or_false, ite_self, kEm14_m11, kEm14_m2, kEm14_m1, kEm14_0, kEm14_1, kEm14_2, kEm14_3, kEm14_4, kEm13_m11, kEm13_m2, kEm13_m1, kEm13_0, kEm13_1, kEm13_2, kEm13_3, kEm13_4, kEm12_m11, kEm12_m2, kEm12_m1, kEm12_0, kEm12_1, kEm12_2, kEm12_3, kEm12_4, kEm11_m2, kEm11_m1, kEm11_0, kEm11_1, kEm11_2, kEm11_3, kEm11_4, kEm5_m11, kEm5_m2, kEm5_m1, kEm5_0, kEm5_1, kEm5_2, kEm5_3, kEm5_4, kEm3_m11, kEm3_m2, kEm3_m1, kEm3_0, kEm3_1, kEm3_2, kEm3_3, kEm3_4, kEm2_m11, kEm2_m1, kEm2_0, kEm2_1, kEm2_2, kEm2_3, kEm2_4, kEm1_m11, kEm1_m2, kEm1_0, kEm1_1, kEm1_2, kEm1_3, kEm1_4, kE0_m11, kE0_m2, kE0_m1, kE0_1, kE0_2, kE0_3, kE0_4, kE1_m11, kE1_m2, kE1_m1, kE1_0, kE1_2, kE1_3, kE1_4, kE2_m11, kE2_m2, kE2_m1, kE2_0, kE2_1, kE2_3, kE2_4, kE3_m11, kE3_m2, kE3_m1, kE3_0, kE3_1, kE3_2, kE3_4, kE4_m11, kE4_m2, kE4_m1, kE4_0, kE4_1, kE4_2, kE4_3, kE5_m11, kE5_m2, kE5_m1, kE5_0, kE5_1, kE5_2, kE5_3, kE5_4, kE6_m11, kE6_m2, kE6_m1, kE6_0, kE6_1, kE6_2, kE6_3, kE6_4, kE7_m11, kE7_m2, kE7_m1, kE7_0, kE7_1, kE7_2, kE7_3, kE7_4, kE8_m11, kE8_m2, kE8_m1, kE8_0, kE8_1, kE8_2, kE8_3, kE8_4, kLm14_0, kLm14_1, kLm13_0, kLm13_1, kLm12_0, kLm12_1, kLm11_0, kLm11_1, kLm5_0, kLm5_1, kLm3_0, kLm3_1, kLm2_0, kLm2_1, kLm1_0, kLm1_1, kL0_0, kL0_1, kL1_0, kL1_1, kL2_0, kL2_1, kL3_0, kL3_1, kL4_0, kL4_1, kL5_0, kL5_1, kL6_0, kL6_1, kL7_0, kL7_1, kL8_0, kL8_1, hs]
    exact am_T.ri ⟨G, hR⟩
  obtain ⟨k, hk, rfl⟩ := i_of (n := 6) (by decide) hs.1 hs.2
  obtain ⟨ln, hB⟩ := hR.shb hk
  obtain ⟨hn, hn6, e1, e2⟩ := hR.hou
  have e10 : ((1 : Int32) = 0) = False := by decide
  by_cases st : bySt (A 95 k) = 0
  case neg =>
    obtain ⟨s1, s2⟩ := refOf_lt st (bySt_c st)
    refine ⟨bySt (A 95 k), ?_⟩
    simp only [eX10_whoCould, sX10_whoCould_0, sX10_whoCould_1, sX10_whoCould_4, sX10_whoCould_7, sX10_whoCould_8, sX10_whoCould_9, sX10_whoCould_10, sX10_whoCould_11, am_rt_some, am_rt_void, am_rt_none, am_rt_ite, ↓reduceIte, if_true, if_false, and_self, true_and, and_true, true_or, or_true, Bool.false_eq_true, reduceCtorEq, c_isShelf, not_true_eq_false, not_false_eq_true, false_and, and_false, true_and, and_true, and_self, or_self, true_or, or_true, false_or, or_false, ite_self, kEm14_m11, kEm14_m2, kEm14_m1, kEm14_0, kEm14_1, kEm14_2, kEm14_3, kEm14_4, kEm13_m11, kEm13_m2, kEm13_m1, kEm13_0, kEm13_1, kEm13_2, kEm13_3, kEm13_4, kEm12_m11, kEm12_m2, kEm12_m1, kEm12_0, kEm12_1, kEm12_2, kEm12_3, kEm12_4, kEm11_m2, kEm11_m1, kEm11_0, kEm11_1, kEm11_2, kEm11_3, kEm11_4, kEm5_m11, kEm5_m2, kEm5_m1, kEm5_0, kEm5_1, kEm5_2, kEm5_3, kEm5_4, kEm3_m11, kEm3_m2, kEm3_m1, kEm3_0, kEm3_1, kEm3_2, kEm3_3, kEm3_4, kEm2_m11, kEm2_m1, kEm2_0, kEm2_1, kEm2_2, kEm2_3, kEm2_4, kEm1_m11, kEm1_m2, kEm1_0, kEm1_1, kEm1_2, kEm1_3, kEm1_4, kE0_m11, kE0_m2, kE0_m1, kE0_1, kE0_2, kE0_3, kE0_4, kE1_m11, kE1_m2, kE1_m1, kE1_0, kE1_2, kE1_3, kE1_4, kE2_m11, kE2_m2, kE2_m1, kE2_0, kE2_1, kE2_3, kE2_4, kE3_m11, kE3_m2, kE3_m1, kE3_0, kE3_1, kE3_2, kE3_4, kE4_m11, kE4_m2, kE4_m1, kE4_0, kE4_1, kE4_2, kE4_3, kE5_m11, kE5_m2, kE5_m1, kE5_0, kE5_1, kE5_2, kE5_3, kE5_4, kE6_m11, kE6_m2, kE6_m1, kE6_0, kE6_1, kE6_2, kE6_3, kE6_4, kE7_m11, kE7_m2, kE7_m1, kE7_0, kE7_1, kE7_2, kE7_3, kE7_4, kE8_m11, kE8_m2, kE8_m1, kE8_0, kE8_1, kE8_2, kE8_3, kE8_4, kLm14_0, kLm14_1, kLm13_0, kLm13_1, kLm12_0, kLm12_1, kLm11_0, kLm11_1, kLm5_0, kLm5_1, kLm3_0, kLm3_1, kLm2_0, kLm2_1, kLm1_0, kLm1_1, kL0_0, kL0_1, kL1_0, kL1_1, kL2_0, kL2_1, kL3_0, kL3_1, kL4_0, kL4_1, kL5_0, kL5_1, kL6_0, kL6_1, kL7_0, kL7_1, kL8_0, kL8_1, hs]
    refine am_T.rtI (c_readyMix hR hB) ?_
    intro I1 A1 J1 ⟨f, _⟩
    have hR1 : Rel G I1 A1 J1 := hR.fr (f.mo (by decide) (by decide) (by decide))
    simp only [sX10_whoCould_14, sX10_whoCould_15, sX10_whoCould_16, sX10_whoCould_19, sX10_whoCould_20, st, if_false]
    refine am_T.ri ?_
    simp only [eX11_whoCould, sX11_whoCould_0, sX11_whoCould_1, sX11_whoCould_4, sX11_whoCould_7, sX11_whoCould_8, sX11_whoCould_9, sX11_whoCould_10, sX11_whoCould_11, sX11_whoCould_12, wo_81, wf_81_0, wv_81_0, wf_81_1, wv_81_1, wp_81_1, wf_81_2, wv_81_2, wp_81_2, wf_81_3, wv_81_3, wf_81_4, wv_81_4, wf_81_5, wv_81_5, wf_81_6, wv_81_6, wp_81_6, wf_81_7, wv_81_7, wp_81_7, wf_81_8, wv_81_8, wf_81_9, wv_81_9, wp_81_9, wf_81_10, wv_81_10, wf_81_11, wv_81_11, wp_81_11, wf_81_12, wv_81_12, wp_81_12, wf_81_13, wv_81_13, wf_81_14, wv_81_14, wp_81_14, wf_81_15, wv_81_15, wp_81_15, wf_81_16, wv_81_16, wp_81_16, wf_81_17, wv_81_17, wp_81_17, wf_81_18, wv_81_18, wf_81_19, wv_81_19, wf_81_20, wv_81_20, wf_81_21, wv_81_21, wf_81_22, wv_81_22, wf_81_23, wv_81_23, wf_81_24, wv_81_24, wf_81_25, wv_81_25, wf_81_26, wv_81_26, wf_81_27, wv_81_27, wf_81_28, wv_81_28, wf_81_29, wv_81_29, wf_81_30, wv_81_30, wf_81_31, wv_81_31, wf_81_32, wv_81_32, wf_81_33, wv_81_33, wp_81_33, wf_81_34, wv_81_34, wf_81_35, wv_81_35, wp_81_35, wf_81_36, wv_81_36, wf_81_37, wv_81_37, wp_81_37, wf_81_38, wv_81_38, wf_81_39, wv_81_39, wf_81_40, wv_81_40, wf_81_41, wv_81_41, wf_81_42, wv_81_42, wp_81_42, wf_81_43, wv_81_43, wp_81_43, wf_81_44, wv_81_44, wp_81_44, wf_81_45, wv_81_45, wf_81_46, wv_81_46, wf_81_47, wv_81_47, wf_81_48, wv_81_48, wp_81_48, wf_81_49, wv_81_49, wf_81_50, wv_81_50, wp_81_50, am_rt_some, am_rt_void, am_rt_none, am_rt_ite, ↓reduceIte, if_true, if_false, and_self, true_and, and_true, true_or, or_true, Bool.false_eq_true, reduceCtorEq, r_isShelf, not_true_eq_false, not_false_eq_true, false_and, and_false, true_and, and_true, and_self, or_self, true_or, or_true, false_or, or_false, ite_self, kEm14_m11, kEm14_m2, kEm14_m1, kEm14_0, kEm14_1, kEm14_2, kEm14_3, kEm14_4, kEm13_m11, kEm13_m2, kEm13_m1, kEm13_0, kEm13_1, kEm13_2, kEm13_3, kEm13_4, kEm12_m11, kEm12_m2, kEm12_m1, kEm12_0, kEm12_1, kEm12_2, kEm12_3, kEm12_4, kEm11_m2, kEm11_m1, kEm11_0, kEm11_1, kEm11_2, kEm11_3, kEm11_4, kEm5_m11, kEm5_m2, kEm5_m1, kEm5_0, kEm5_1, kEm5_2, kEm5_3, kEm5_4, kEm3_m11, kEm3_m2, kEm3_m1, kEm3_0, kEm3_1, kEm3_2, kEm3_3, kEm3_4, kEm2_m11, kEm2_m1, kEm2_0, kEm2_1, kEm2_2, kEm2_3, kEm2_4, kEm1_m11, kEm1_m2, kEm1_0, kEm1_1, kEm1_2, kEm1_3, kEm1_4, kE0_m11, kE0_m2, kE0_m1, kE0_1, kE0_2, kE0_3, kE0_4, kE1_m11, kE1_m2, kE1_m1, kE1_0, kE1_2, kE1_3, kE1_4, kE2_m11, kE2_m2, kE2_m1, kE2_0, kE2_1, kE2_3, kE2_4, kE3_m11, kE3_m2, kE3_m1, kE3_0, kE3_1, kE3_2, kE3_4, kE4_m11, kE4_m2, kE4_m1, kE4_0, kE4_1, kE4_2, kE4_3, kE5_m11, kE5_m2, kE5_m1, kE5_0, kE5_1, kE5_2, kE5_3, kE5_4, kE6_m11, kE6_m2, kE6_m1, kE6_0, kE6_1, kE6_2, kE6_3, kE6_4, kE7_m11, kE7_m2, kE7_m1, kE7_0, kE7_1, kE7_2, kE7_3, kE7_4, kE8_m11, kE8_m2, kE8_m1, kE8_0, kE8_1, kE8_2, kE8_3, kE8_4, kLm14_0, kLm14_1, kLm13_0, kLm13_1, kLm12_0, kLm12_1, kLm11_0, kLm11_1, kLm5_0, kLm5_1, kLm3_0, kLm3_1, kLm2_0, kLm2_1, kLm1_0, kLm1_1, kL0_0, kL0_1, kL1_0, kL1_1, kL2_0, kL2_1, kL3_0, kL3_1, kL4_0, kL4_1, kL5_0, kL5_1, kL6_0, kL6_1, kL7_0, kL7_1, kL8_0, kL8_1, hs]
    refine am_T.rtI (r_loadM (hB.fr f (by decide) (by decide) (by decide))) ?_
    intro I2 A2 J2 ⟨f2, _⟩
    rw [show A1 95 = A 95 from f.a 95 (by decide)]
    simp only [sX11_whoCould_15, sX11_whoCould_16, sX11_whoCould_17, sX11_whoCould_18, sX11_whoCould_21, sX11_whoCould_22, s1, s2, if_true]
    exact am_T.ri ⟨G, hR1.fr (f2.mo (by decide) (by decide) (by decide))⟩
  refine ⟨bitsF (fun h => ableF (mixF ln (byR J k)) (fun t => A 82 (40 + 8 * h + t)) 8) hn, ?_⟩
  simp only [eX10_whoCould, sX10_whoCould_0, sX10_whoCould_1, sX10_whoCould_4, sX10_whoCould_7, sX10_whoCould_8, sX10_whoCould_9, sX10_whoCould_10, sX10_whoCould_11, am_rt_some, am_rt_void, am_rt_none, am_rt_ite, ↓reduceIte, if_true, if_false, and_self, true_and, and_true, true_or, or_true, Bool.false_eq_true, reduceCtorEq, c_isShelf, not_true_eq_false, not_false_eq_true, false_and, and_false, true_and, and_true, and_self, or_self, true_or, or_true, false_or, or_false, ite_self, kEm14_m11, kEm14_m2, kEm14_m1, kEm14_0, kEm14_1, kEm14_2, kEm14_3, kEm14_4, kEm13_m11, kEm13_m2, kEm13_m1, kEm13_0, kEm13_1, kEm13_2, kEm13_3, kEm13_4, kEm12_m11, kEm12_m2, kEm12_m1, kEm12_0, kEm12_1, kEm12_2, kEm12_3, kEm12_4, kEm11_m2, kEm11_m1, kEm11_0, kEm11_1, kEm11_2, kEm11_3, kEm11_4, kEm5_m11, kEm5_m2, kEm5_m1, kEm5_0, kEm5_1, kEm5_2, kEm5_3, kEm5_4, kEm3_m11, kEm3_m2, kEm3_m1, kEm3_0, kEm3_1, kEm3_2, kEm3_3, kEm3_4, kEm2_m11, kEm2_m1, kEm2_0, kEm2_1, kEm2_2, kEm2_3, kEm2_4, kEm1_m11, kEm1_m2, kEm1_0, kEm1_1, kEm1_2, kEm1_3, kEm1_4, kE0_m11, kE0_m2, kE0_m1, kE0_1, kE0_2, kE0_3, kE0_4, kE1_m11, kE1_m2, kE1_m1, kE1_0, kE1_2, kE1_3, kE1_4, kE2_m11, kE2_m2, kE2_m1, kE2_0, kE2_1, kE2_3, kE2_4, kE3_m11, kE3_m2, kE3_m1, kE3_0, kE3_1, kE3_2, kE3_4, kE4_m11, kE4_m2, kE4_m1, kE4_0, kE4_1, kE4_2, kE4_3, kE5_m11, kE5_m2, kE5_m1, kE5_0, kE5_1, kE5_2, kE5_3, kE5_4, kE6_m11, kE6_m2, kE6_m1, kE6_0, kE6_1, kE6_2, kE6_3, kE6_4, kE7_m11, kE7_m2, kE7_m1, kE7_0, kE7_1, kE7_2, kE7_3, kE7_4, kE8_m11, kE8_m2, kE8_m1, kE8_0, kE8_1, kE8_2, kE8_3, kE8_4, kLm14_0, kLm14_1, kLm13_0, kLm13_1, kLm12_0, kLm12_1, kLm11_0, kLm11_1, kLm5_0, kLm5_1, kLm3_0, kLm3_1, kLm2_0, kLm2_1, kLm1_0, kLm1_1, kL0_0, kL0_1, kL1_0, kL1_1, kL2_0, kL2_1, kL3_0, kL3_1, kL4_0, kL4_1, kL5_0, kL5_1, kL6_0, kL6_1, kL7_0, kL7_1, kL8_0, kL8_1, hs]
  refine am_T.rtI (c_readyMix hR hB) ?_
  intro I1 A1 J1 ⟨f, g⟩
  have hR1 : Rel G I1 A1 J1 := hR.fr (f.mo (by decide) (by decide) (by decide))
  have e1' : I1 0 9 = nI hn := (f.i 0 9 (by decide)).trans e1
  have cl : ∀ (m t : Nat), t + m = hn → am_EV X (d + 59) mX10_whoCould 26 [.ref 0, .int (nI k), .int 0, .int (bitsF (fun h => ableF (A1 16) (fun t => A1 47 (8 * h + t)) 8) t), .int (nI t)] [] (am_wd I1 A1 J1) = some (some (.int (bitsF (fun h => ableF (A1 16) (fun t => A1 47 (8 * h + t)) 8) hn)), am_wd I1 A1 J1) := by
    intro m
    induction m with
    | zero =>
      intro t ht
      have th : t = hn := by omega
      subst th
      simp only [sX10_whoCould_26, sX10_whoCould_28, sX10_whoCould_29, sX10_whoCould_32, sX10_whoCould_57, sX10_whoCould_58, wo_0, wf_0_0, wv_0_0, wf_0_1, wv_0_1, wf_0_2, wv_0_2, wf_0_3, wv_0_3, wf_0_4, wv_0_4, wf_0_5, wv_0_5, wf_0_6, wv_0_6, wf_0_7, wv_0_7, wf_0_8, wv_0_8, wf_0_9, wv_0_9, wp_0_9, wf_0_10, wv_0_10, wp_0_10, wf_0_11, wv_0_11, wp_0_11, am_rt_some, am_rt_void, am_rt_none, am_rt_ite, ↓reduceIte, if_true, if_false, and_self, true_and, and_true, true_or, or_true, Bool.false_eq_true, reduceCtorEq, e1', am_nlt (show t < 2147483648 by omega) (show t < 2147483648 by omega), Nat.lt_irrefl]
    | succ m ih =>
      intro t ht
      have nx := ih (t + 1) (by omega)
      have e3 : bitsF (fun h => ableF (A1 16) (fun t => A1 47 (8 * h + t)) 8) (t + 1) = if ableF (A1 16) (fun u => A1 47 (8 * t + u)) 8 = true then bitsF (fun h => ableF (A1 16) (fun t => A1 47 (8 * h + t)) 8) t ||| (1 <<< (nI t &&& 31)) else bitsF (fun h => ableF (A1 16) (fun t => A1 47 (8 * h + t)) 8) t := rfl
      rw [e3] at nx
      rw [sX10_whoCould_26]
      simp only [sX10_whoCould_28, sX10_whoCould_29, sX10_whoCould_32, sX10_whoCould_35, sX10_whoCould_36, sX10_whoCould_38, sX10_whoCould_41, wo_0, wf_0_0, wv_0_0, wf_0_1, wv_0_1, wf_0_2, wv_0_2, wf_0_3, wv_0_3, wf_0_4, wv_0_4, wf_0_5, wv_0_5, wf_0_6, wv_0_6, wf_0_7, wv_0_7, wf_0_8, wv_0_8, wf_0_9, wv_0_9, wp_0_9, wf_0_10, wv_0_10, wp_0_10, wf_0_11, wv_0_11, wp_0_11, am_rt_some, am_rt_void, am_rt_none, am_rt_ite, ↓reduceIte, if_true, if_false, and_self, true_and, and_true, true_or, or_true, Bool.false_eq_true, reduceCtorEq, e1', am_nlt (show t < 2147483648 by omega) (show hn < 2147483648 by omega), show t < hn by omega, c_hasMix (show t < 6 by omega), am_bi_eq0]
      by_cases q : ableF (A1 16) (fun u => A1 47 (8 * t + u)) 8 = true
      · rw [if_pos q] at nx
        rw [if_neg (fun y => y q)]
        simp only [sX10_whoCould_44, sX10_whoCould_45, sX10_whoCould_46, sX10_whoCould_48, sX10_whoCould_49, sX10_whoCould_50, sX10_whoCould_51, sX10_whoCould_54, am_n1, nx]
      · rw [if_neg q] at nx
        rw [if_pos q]
        simp only [sX10_whoCould_51, sX10_whoCould_54, am_n1, nx]
  simp only [sX10_whoCould_14, sX10_whoCould_15, sX10_whoCould_16, sX10_whoCould_19, sX10_whoCould_20, sX10_whoCould_21, sX10_whoCould_22, sX10_whoCould_23, sX10_whoCould_24, st, if_true]
  rw [show (0 : Int32) = nI 0 from rfl]
  rw [show am_EV X (d + 59) mX10_whoCould 26 [.ref 0, .int (nI k), .int (nI 0), .int (nI 0), .int (nI 0)] [] (am_wd I1 A1 J1) = _ from cl hn 0 (by omega)]
  refine am_T.ri' ?_ ?_
  · refine bitsF_cg fun j hj => ?_
    refine ableF_cg fun i hi => ⟨g st i hi, ?_⟩
    rw [show A1 47 = A 47 from f.a 47 (by decide), (hR.has (8 * j + i) (by omega)).1, show 40 + (8 * j + i) = 40 + 8 * j + i by omega]
  simp only [eX11_whoCould, sX11_whoCould_0, sX11_whoCould_1, sX11_whoCould_4, sX11_whoCould_7, sX11_whoCould_8, sX11_whoCould_9, sX11_whoCould_10, sX11_whoCould_11, sX11_whoCould_12, wo_81, wf_81_0, wv_81_0, wf_81_1, wv_81_1, wp_81_1, wf_81_2, wv_81_2, wp_81_2, wf_81_3, wv_81_3, wf_81_4, wv_81_4, wf_81_5, wv_81_5, wf_81_6, wv_81_6, wp_81_6, wf_81_7, wv_81_7, wp_81_7, wf_81_8, wv_81_8, wf_81_9, wv_81_9, wp_81_9, wf_81_10, wv_81_10, wf_81_11, wv_81_11, wp_81_11, wf_81_12, wv_81_12, wp_81_12, wf_81_13, wv_81_13, wf_81_14, wv_81_14, wp_81_14, wf_81_15, wv_81_15, wp_81_15, wf_81_16, wv_81_16, wp_81_16, wf_81_17, wv_81_17, wp_81_17, wf_81_18, wv_81_18, wf_81_19, wv_81_19, wf_81_20, wv_81_20, wf_81_21, wv_81_21, wf_81_22, wv_81_22, wf_81_23, wv_81_23, wf_81_24, wv_81_24, wf_81_25, wv_81_25, wf_81_26, wv_81_26, wf_81_27, wv_81_27, wf_81_28, wv_81_28, wf_81_29, wv_81_29, wf_81_30, wv_81_30, wf_81_31, wv_81_31, wf_81_32, wv_81_32, wf_81_33, wv_81_33, wp_81_33, wf_81_34, wv_81_34, wf_81_35, wv_81_35, wp_81_35, wf_81_36, wv_81_36, wf_81_37, wv_81_37, wp_81_37, wf_81_38, wv_81_38, wf_81_39, wv_81_39, wf_81_40, wv_81_40, wf_81_41, wv_81_41, wf_81_42, wv_81_42, wp_81_42, wf_81_43, wv_81_43, wp_81_43, wf_81_44, wv_81_44, wp_81_44, wf_81_45, wv_81_45, wf_81_46, wv_81_46, wf_81_47, wv_81_47, wf_81_48, wv_81_48, wp_81_48, wf_81_49, wv_81_49, wf_81_50, wv_81_50, wp_81_50, am_rt_some, am_rt_void, am_rt_none, am_rt_ite, ↓reduceIte, if_true, if_false, and_self, true_and, and_true, true_or, or_true, Bool.false_eq_true, reduceCtorEq, r_isShelf, not_true_eq_false, not_false_eq_true, false_and, and_false, true_and, and_true, and_self, or_self, true_or, or_true, false_or, or_false, ite_self, kEm14_m11, kEm14_m2, kEm14_m1, kEm14_0, kEm14_1, kEm14_2, kEm14_3, kEm14_4, kEm13_m11, kEm13_m2, kEm13_m1, kEm13_0, kEm13_1, kEm13_2, kEm13_3, kEm13_4, kEm12_m11, kEm12_m2, kEm12_m1, kEm12_0, kEm12_1, kEm12_2, kEm12_3, kEm12_4, kEm11_m2, kEm11_m1, kEm11_0, kEm11_1, kEm11_2, kEm11_3, kEm11_4, kEm5_m11, kEm5_m2, kEm5_m1, kEm5_0, kEm5_1, kEm5_2, kEm5_3, kEm5_4, kEm3_m11, kEm3_m2, kEm3_m1, kEm3_0, kEm3_1, kEm3_2, kEm3_3, kEm3_4, kEm2_m11, kEm2_m1, kEm2_0, kEm2_1, kEm2_2, kEm2_3, kEm2_4, kEm1_m11, kEm1_m2, kEm1_0, kEm1_1, kEm1_2, kEm1_3, kEm1_4, kE0_m11, kE0_m2, kE0_m1, kE0_1, kE0_2, kE0_3, kE0_4, kE1_m11, kE1_m2, kE1_m1, kE1_0, kE1_2, kE1_3, kE1_4, kE2_m11, kE2_m2, kE2_m1, kE2_0, kE2_1, kE2_3, kE2_4, kE3_m11, kE3_m2, kE3_m1, kE3_0, kE3_1, kE3_2, kE3_4, kE4_m11, kE4_m2, kE4_m1, kE4_0, kE4_1, kE4_2, kE4_3, kE5_m11, kE5_m2, kE5_m1, kE5_0, kE5_1, kE5_2, kE5_3, kE5_4, kE6_m11, kE6_m2, kE6_m1, kE6_0, kE6_1, kE6_2, kE6_3, kE6_4, kE7_m11, kE7_m2, kE7_m1, kE7_0, kE7_1, kE7_2, kE7_3, kE7_4, kE8_m11, kE8_m2, kE8_m1, kE8_0, kE8_1, kE8_2, kE8_3, kE8_4, kLm14_0, kLm14_1, kLm13_0, kLm13_1, kLm12_0, kLm12_1, kLm11_0, kLm11_1, kLm5_0, kLm5_1, kLm3_0, kLm3_1, kLm2_0, kLm2_1, kLm1_0, kLm1_1, kL0_0, kL0_1, kL1_0, kL1_1, kL2_0, kL2_1, kL3_0, kL3_1, kL4_0, kL4_1, kL5_0, kL5_1, kL6_0, kL6_1, kL7_0, kL7_1, kL8_0, kL8_1, hs]
  refine am_T.rtI (r_loadM (hB.fr f (by decide) (by decide) (by decide))) ?_
  intro I2 A2 J2 ⟨f2, g2⟩
  have a95 : A1 95 = A 95 := f.a 95 (by decide)
  rw [a95] at g2 ⊢
  have e2' : I2 81 1 = nI hn := ((f2.i 81 1 (by decide)).trans (f.i 81 1 (by decide))).trans e2
  have rl : ∀ (m t : Nat), t + m = hn → am_EV X (d + 59) mX11_whoCould 28 [.ref 81, .int (nI k), .int 1, .int (bitsF (fun h => ableF (A2 92) (fun t => A2 82 (40 + 8 * h + t)) 8) t), .int (nI t)] [] (am_wd I2 A2 J2) = some (some (.int (bitsF (fun h => ableF (A2 92) (fun t => A2 82 (40 + 8 * h + t)) 8) hn)), am_wd I2 A2 J2) := by
    intro m
    induction m with
    | zero =>
      intro t ht
      have th : t = hn := by omega
      subst th
      simp only [sX11_whoCould_28, sX11_whoCould_30, sX11_whoCould_31, sX11_whoCould_34, sX11_whoCould_63, sX11_whoCould_64, wo_81, wf_81_0, wv_81_0, wf_81_1, wv_81_1, wp_81_1, wf_81_2, wv_81_2, wp_81_2, wf_81_3, wv_81_3, wf_81_4, wv_81_4, wf_81_5, wv_81_5, wf_81_6, wv_81_6, wp_81_6, wf_81_7, wv_81_7, wp_81_7, wf_81_8, wv_81_8, wf_81_9, wv_81_9, wp_81_9, wf_81_10, wv_81_10, wf_81_11, wv_81_11, wp_81_11, wf_81_12, wv_81_12, wp_81_12, wf_81_13, wv_81_13, wf_81_14, wv_81_14, wp_81_14, wf_81_15, wv_81_15, wp_81_15, wf_81_16, wv_81_16, wp_81_16, wf_81_17, wv_81_17, wp_81_17, wf_81_18, wv_81_18, wf_81_19, wv_81_19, wf_81_20, wv_81_20, wf_81_21, wv_81_21, wf_81_22, wv_81_22, wf_81_23, wv_81_23, wf_81_24, wv_81_24, wf_81_25, wv_81_25, wf_81_26, wv_81_26, wf_81_27, wv_81_27, wf_81_28, wv_81_28, wf_81_29, wv_81_29, wf_81_30, wv_81_30, wf_81_31, wv_81_31, wf_81_32, wv_81_32, wf_81_33, wv_81_33, wp_81_33, wf_81_34, wv_81_34, wf_81_35, wv_81_35, wp_81_35, wf_81_36, wv_81_36, wf_81_37, wv_81_37, wp_81_37, wf_81_38, wv_81_38, wf_81_39, wv_81_39, wf_81_40, wv_81_40, wf_81_41, wv_81_41, wf_81_42, wv_81_42, wp_81_42, wf_81_43, wv_81_43, wp_81_43, wf_81_44, wv_81_44, wp_81_44, wf_81_45, wv_81_45, wf_81_46, wv_81_46, wf_81_47, wv_81_47, wf_81_48, wv_81_48, wp_81_48, wf_81_49, wv_81_49, wf_81_50, wv_81_50, wp_81_50, am_rt_some, am_rt_void, am_rt_none, am_rt_ite, ↓reduceIte, if_true, if_false, and_self, true_and, and_true, true_or, or_true, Bool.false_eq_true, reduceCtorEq, e2', am_nlt (show t < 2147483648 by omega) (show t < 2147483648 by omega), Nat.lt_irrefl]
    | succ m ih =>
      intro t ht
      have nx := ih (t + 1) (by omega)
      have e3 : bitsF (fun h => ableF (A2 92) (fun t => A2 82 (40 + 8 * h + t)) 8) (t + 1) = if ableF (A2 92) (fun u => A2 82 (40 + 8 * t + u)) 8 = true then bitsF (fun h => ableF (A2 92) (fun t => A2 82 (40 + 8 * h + t)) 8) t ||| (1 <<< (nI t &&& 31)) else bitsF (fun h => ableF (A2 92) (fun t => A2 82 (40 + 8 * h + t)) 8) t := rfl
      rw [e3] at nx
      rw [sX11_whoCould_28]
      simp only [sX11_whoCould_30, sX11_whoCould_31, sX11_whoCould_34, sX11_whoCould_37, sX11_whoCould_38, sX11_whoCould_39, sX11_whoCould_41, sX11_whoCould_44, wo_81, wf_81_0, wv_81_0, wf_81_1, wv_81_1, wp_81_1, wf_81_2, wv_81_2, wp_81_2, wf_81_3, wv_81_3, wf_81_4, wv_81_4, wf_81_5, wv_81_5, wf_81_6, wv_81_6, wp_81_6, wf_81_7, wv_81_7, wp_81_7, wf_81_8, wv_81_8, wf_81_9, wv_81_9, wp_81_9, wf_81_10, wv_81_10, wf_81_11, wv_81_11, wp_81_11, wf_81_12, wv_81_12, wp_81_12, wf_81_13, wv_81_13, wf_81_14, wv_81_14, wp_81_14, wf_81_15, wv_81_15, wp_81_15, wf_81_16, wv_81_16, wp_81_16, wf_81_17, wv_81_17, wp_81_17, wf_81_18, wv_81_18, wf_81_19, wv_81_19, wf_81_20, wv_81_20, wf_81_21, wv_81_21, wf_81_22, wv_81_22, wf_81_23, wv_81_23, wf_81_24, wv_81_24, wf_81_25, wv_81_25, wf_81_26, wv_81_26, wf_81_27, wv_81_27, wf_81_28, wv_81_28, wf_81_29, wv_81_29, wf_81_30, wv_81_30, wf_81_31, wv_81_31, wf_81_32, wv_81_32, wf_81_33, wv_81_33, wp_81_33, wf_81_34, wv_81_34, wf_81_35, wv_81_35, wp_81_35, wf_81_36, wv_81_36, wf_81_37, wv_81_37, wp_81_37, wf_81_38, wv_81_38, wf_81_39, wv_81_39, wf_81_40, wv_81_40, wf_81_41, wv_81_41, wf_81_42, wv_81_42, wp_81_42, wf_81_43, wv_81_43, wp_81_43, wf_81_44, wv_81_44, wp_81_44, wf_81_45, wv_81_45, wf_81_46, wv_81_46, wf_81_47, wv_81_47, wf_81_48, wv_81_48, wp_81_48, wf_81_49, wv_81_49, wf_81_50, wv_81_50, wp_81_50, am_rt_some, am_rt_void, am_rt_none, am_rt_ite, ↓reduceIte, if_true, if_false, and_self, true_and, and_true, true_or, or_true, Bool.false_eq_true, reduceCtorEq, e2', am_nlt (show t < 2147483648 by omega) (show hn < 2147483648 by omega), show t < hn by omega, r_isAble (show t < 6 by omega), am_bi_eq0]
      by_cases q : ableF (A2 92) (fun u => A2 82 (40 + 8 * t + u)) 8 = true
      · rw [if_pos q] at nx
        rw [if_neg (fun y => y q)]
        simp only [sX11_whoCould_47, sX11_whoCould_48, sX11_whoCould_50, sX11_whoCould_51, sX11_whoCould_54, sX11_whoCould_55, sX11_whoCould_56, sX11_whoCould_57, sX11_whoCould_60, am_n1, nx]
      · rw [if_neg q] at nx
        rw [if_pos q]
        simp only [sX11_whoCould_54, sX11_whoCould_55, sX11_whoCould_56, sX11_whoCould_57, sX11_whoCould_60, am_n1, Int32.or_zero, nx]
  simp only [sX11_whoCould_15, sX11_whoCould_16, sX11_whoCould_17, sX11_whoCould_18, sX11_whoCould_21, sX11_whoCould_22, sX11_whoCould_23, sX11_whoCould_24, sX11_whoCould_25, sX11_whoCould_26, st, refOf_0, show ((1 : Int32) < 1) = False by decide, if_false]
  rw [show am_EV X (d + 59) mX11_whoCould 28 [.ref 81, .int (nI k), .int 1, .int 0, .int 0] [] (am_wd I2 A2 J2) = _ from rl hn 0 (by omega)]
  refine am_T.ri' ?_ ⟨G, hR1.fr (f2.mo (by decide) (by decide) (by decide))⟩
  refine bitsF_cg fun j hj => ?_
  refine ableF_cg fun i hi => ⟨g2 st i hi, ?_⟩
  rw [show A2 82 = A 82 from (f2.a 82 (by decide)).trans (f.a 82 (by decide))]
end HA
